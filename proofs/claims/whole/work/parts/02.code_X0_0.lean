theorem dX0_init_0 : decode cX0_init 0 = .ok (.aload_n 0, 1) := by decide +kernel
theorem dX0_init_1 : decode cX0_init 1 = .ok (.invokespecial 3, 3) := by decide +kernel
theorem dX0_init_4 : decode cX0_init 4 = .ok (.aload_n 0, 1) := by decide +kernel
theorem dX0_init_5 : decode cX0_init 5 = .ok (.sipush 144, 3) := by decide +kernel
theorem dX0_init_8 : decode cX0_init 8 = .ok (.newarray .int, 2) := by decide +kernel
theorem dX0_init_10 : decode cX0_init 10 = .ok (.putfield 9, 3) := by decide +kernel
theorem dX0_init_13 : decode cX0_init 13 = .ok (.aload_n 0, 1) := by decide +kernel
theorem dX0_init_14 : decode cX0_init 14 = .ok (.iconst 3, 1) := by decide +kernel
theorem dX0_init_15 : decode cX0_init 15 = .ok (.newarray .int, 2) := by decide +kernel
theorem dX0_init_17 : decode cX0_init 17 = .ok (.putfield 15, 3) := by decide +kernel
theorem dX0_init_20 : decode cX0_init 20 = .ok (.aload_n 0, 1) := by decide +kernel
theorem dX0_init_21 : decode cX0_init 21 = .ok (.iconst 3, 1) := by decide +kernel
theorem dX0_init_22 : decode cX0_init 22 = .ok (.newarray .int, 2) := by decide +kernel
theorem dX0_init_24 : decode cX0_init 24 = .ok (.putfield 18, 3) := by decide +kernel
theorem dX0_init_27 : decode cX0_init 27 = .ok (.aload_n 0, 1) := by decide +kernel
theorem dX0_init_28 : decode cX0_init 28 = .ok (.iconst 3, 1) := by decide +kernel
theorem dX0_init_29 : decode cX0_init 29 = .ok (.newarray .int, 2) := by decide +kernel
theorem dX0_init_31 : decode cX0_init 31 = .ok (.putfield 21, 3) := by decide +kernel
theorem dX0_init_34 : decode cX0_init 34 = .ok (.return_, 1) := by decide +kernel
theorem dX0_clear_0 : decode cX0_clear 0 = .ok (.aload_n 0, 1) := by decide +kernel
theorem dX0_clear_1 : decode cX0_clear 1 = .ok (.iload_n 1, 1) := by decide +kernel
theorem dX0_clear_2 : decode cX0_clear 2 = .ok (.putfield 24, 3) := by decide +kernel
theorem dX0_clear_5 : decode cX0_clear 5 = .ok (.aload_n 0, 1) := by decide +kernel
theorem dX0_clear_6 : decode cX0_clear 6 = .ok (.iconst 0, 1) := by decide +kernel
theorem dX0_clear_7 : decode cX0_clear 7 = .ok (.putfield 28, 3) := by decide +kernel
theorem dX0_clear_10 : decode cX0_clear 10 = .ok (.aload_n 0, 1) := by decide +kernel
theorem dX0_clear_11 : decode cX0_clear 11 = .ok (.getfield 15, 3) := by decide +kernel
theorem dX0_clear_14 : decode cX0_clear 14 = .ok (.iconst 0, 1) := by decide +kernel
theorem dX0_clear_15 : decode cX0_clear 15 = .ok (.invokestatic 31, 3) := by decide +kernel
theorem dX0_clear_18 : decode cX0_clear 18 = .ok (.aload_n 0, 1) := by decide +kernel
theorem dX0_clear_19 : decode cX0_clear 19 = .ok (.getfield 18, 3) := by decide +kernel
theorem dX0_clear_22 : decode cX0_clear 22 = .ok (.iconst 0, 1) := by decide +kernel
theorem dX0_clear_23 : decode cX0_clear 23 = .ok (.invokestatic 31, 3) := by decide +kernel
theorem dX0_clear_26 : decode cX0_clear 26 = .ok (.aload_n 0, 1) := by decide +kernel
theorem dX0_clear_27 : decode cX0_clear 27 = .ok (.getfield 21, 3) := by decide +kernel
theorem dX0_clear_30 : decode cX0_clear 30 = .ok (.iconst 0, 1) := by decide +kernel
theorem dX0_clear_31 : decode cX0_clear 31 = .ok (.invokestatic 31, 3) := by decide +kernel
theorem dX0_clear_34 : decode cX0_clear 34 = .ok (.return_, 1) := by decide +kernel
theorem dX0_addRow_0 : decode cX0_addRow 0 = .ok (.aload_n 0, 1) := by decide +kernel
theorem dX0_addRow_1 : decode cX0_addRow 1 = .ok (.getfield 28, 3) := by decide +kernel
theorem dX0_addRow_4 : decode cX0_addRow 4 = .ok (.bipush 48, 2) := by decide +kernel
theorem dX0_addRow_6 : decode cX0_addRow 6 = .ok (.if_icmp .ge 43, 3) := by decide +kernel
theorem dX0_addRow_9 : decode cX0_addRow 9 = .ok (.aload_n 0, 1) := by decide +kernel
theorem dX0_addRow_10 : decode cX0_addRow 10 = .ok (.iconst 0, 1) := by decide +kernel
theorem dX0_addRow_11 : decode cX0_addRow 11 = .ok (.aload_n 0, 1) := by decide +kernel
theorem dX0_addRow_12 : decode cX0_addRow 12 = .ok (.getfield 28, 3) := by decide +kernel
theorem dX0_addRow_15 : decode cX0_addRow 15 = .ok (.iload_n 1, 1) := by decide +kernel
theorem dX0_addRow_16 : decode cX0_addRow 16 = .ok (.invokevirtual 37, 3) := by decide +kernel
theorem dX0_addRow_19 : decode cX0_addRow 19 = .ok (.aload_n 0, 1) := by decide +kernel
theorem dX0_addRow_20 : decode cX0_addRow 20 = .ok (.iconst 1, 1) := by decide +kernel
theorem dX0_addRow_21 : decode cX0_addRow 21 = .ok (.aload_n 0, 1) := by decide +kernel
theorem dX0_addRow_22 : decode cX0_addRow 22 = .ok (.getfield 28, 3) := by decide +kernel
theorem dX0_addRow_25 : decode cX0_addRow 25 = .ok (.iload_n 2, 1) := by decide +kernel
theorem dX0_addRow_26 : decode cX0_addRow 26 = .ok (.invokevirtual 37, 3) := by decide +kernel
theorem dX0_addRow_29 : decode cX0_addRow 29 = .ok (.aload_n 0, 1) := by decide +kernel
theorem dX0_addRow_30 : decode cX0_addRow 30 = .ok (.iconst 2, 1) := by decide +kernel
theorem dX0_addRow_31 : decode cX0_addRow 31 = .ok (.aload_n 0, 1) := by decide +kernel
theorem dX0_addRow_32 : decode cX0_addRow 32 = .ok (.getfield 28, 3) := by decide +kernel
theorem dX0_addRow_35 : decode cX0_addRow 35 = .ok (.iload_n 3, 1) := by decide +kernel
theorem dX0_addRow_36 : decode cX0_addRow 36 = .ok (.invokevirtual 37, 3) := by decide +kernel
theorem dX0_addRow_39 : decode cX0_addRow 39 = .ok (.aload_n 0, 1) := by decide +kernel
theorem dX0_addRow_40 : decode cX0_addRow 40 = .ok (.dup, 1) := by decide +kernel
theorem dX0_addRow_41 : decode cX0_addRow 41 = .ok (.getfield 28, 3) := by decide +kernel
theorem dX0_addRow_44 : decode cX0_addRow 44 = .ok (.iconst 1, 1) := by decide +kernel
theorem dX0_addRow_45 : decode cX0_addRow 45 = .ok (.iadd, 1) := by decide +kernel
theorem dX0_addRow_46 : decode cX0_addRow 46 = .ok (.putfield 28, 3) := by decide +kernel
theorem dX0_addRow_49 : decode cX0_addRow 49 = .ok (.return_, 1) := by decide +kernel
theorem dX0_addRowOf_0 : decode cX0_addRowOf 0 = .ok (.aload_n 0, 1) := by decide +kernel
theorem dX0_addRowOf_1 : decode cX0_addRowOf 1 = .ok (.aload_n 1, 1) := by decide +kernel
theorem dX0_addRowOf_2 : decode cX0_addRowOf 2 = .ok (.iconst 0, 1) := by decide +kernel
theorem dX0_addRowOf_3 : decode cX0_addRowOf 3 = .ok (.iload_n 2, 1) := by decide +kernel
theorem dX0_addRowOf_4 : decode cX0_addRowOf 4 = .ok (.invokevirtual 41, 3) := by decide +kernel
theorem dX0_addRowOf_7 : decode cX0_addRowOf 7 = .ok (.aload_n 1, 1) := by decide +kernel
theorem dX0_addRowOf_8 : decode cX0_addRowOf 8 = .ok (.iconst 1, 1) := by decide +kernel
theorem dX0_addRowOf_9 : decode cX0_addRowOf 9 = .ok (.iload_n 2, 1) := by decide +kernel
theorem dX0_addRowOf_10 : decode cX0_addRowOf 10 = .ok (.invokevirtual 41, 3) := by decide +kernel
theorem dX0_addRowOf_13 : decode cX0_addRowOf 13 = .ok (.aload_n 1, 1) := by decide +kernel
theorem dX0_addRowOf_14 : decode cX0_addRowOf 14 = .ok (.iconst 2, 1) := by decide +kernel
theorem dX0_addRowOf_15 : decode cX0_addRowOf 15 = .ok (.iload_n 2, 1) := by decide +kernel
theorem dX0_addRowOf_16 : decode cX0_addRowOf 16 = .ok (.invokevirtual 41, 3) := by decide +kernel
theorem dX0_addRowOf_19 : decode cX0_addRowOf 19 = .ok (.invokevirtual 45, 3) := by decide +kernel
theorem dX0_addRowOf_22 : decode cX0_addRowOf 22 = .ok (.return_, 1) := by decide +kernel
theorem dX0_valueAt_0 : decode cX0_valueAt 0 = .ok (.iload_n 1, 1) := by decide +kernel
theorem dX0_valueAt_1 : decode cX0_valueAt 1 = .ok (.ifCond .lt 22, 3) := by decide +kernel
theorem dX0_valueAt_4 : decode cX0_valueAt 4 = .ok (.iload_n 1, 1) := by decide +kernel
theorem dX0_valueAt_5 : decode cX0_valueAt 5 = .ok (.iconst 3, 1) := by decide +kernel
theorem dX0_valueAt_6 : decode cX0_valueAt 6 = .ok (.if_icmp .ge 17, 3) := by decide +kernel
theorem dX0_valueAt_9 : decode cX0_valueAt 9 = .ok (.iload_n 2, 1) := by decide +kernel
theorem dX0_valueAt_10 : decode cX0_valueAt 10 = .ok (.ifCond .lt 13, 3) := by decide +kernel
theorem dX0_valueAt_13 : decode cX0_valueAt 13 = .ok (.iload_n 2, 1) := by decide +kernel
theorem dX0_valueAt_14 : decode cX0_valueAt 14 = .ok (.bipush 48, 2) := by decide +kernel
theorem dX0_valueAt_16 : decode cX0_valueAt 16 = .ok (.if_icmp .ge 7, 3) := by decide +kernel
theorem dX0_valueAt_19 : decode cX0_valueAt 19 = .ok (.iconst 1, 1) := by decide +kernel
theorem dX0_valueAt_20 : decode cX0_valueAt 20 = .ok (.goto 4, 3) := by decide +kernel
theorem dX0_valueAt_23 : decode cX0_valueAt 23 = .ok (.iconst 0, 1) := by decide +kernel
theorem dX0_valueAt_24 : decode cX0_valueAt 24 = .ok (.istore_n 3, 1) := by decide +kernel
theorem dX0_valueAt_25 : decode cX0_valueAt 25 = .ok (.iload_n 3, 1) := by decide +kernel
theorem dX0_valueAt_26 : decode cX0_valueAt 26 = .ok (.ifCond .eq 17, 3) := by decide +kernel
theorem dX0_valueAt_29 : decode cX0_valueAt 29 = .ok (.aload_n 0, 1) := by decide +kernel
theorem dX0_valueAt_30 : decode cX0_valueAt 30 = .ok (.getfield 9, 3) := by decide +kernel
theorem dX0_valueAt_33 : decode cX0_valueAt 33 = .ok (.iload_n 1, 1) := by decide +kernel
theorem dX0_valueAt_34 : decode cX0_valueAt 34 = .ok (.bipush 48, 2) := by decide +kernel
theorem dX0_valueAt_36 : decode cX0_valueAt 36 = .ok (.imul, 1) := by decide +kernel
theorem dX0_valueAt_37 : decode cX0_valueAt 37 = .ok (.iload_n 2, 1) := by decide +kernel
theorem dX0_valueAt_38 : decode cX0_valueAt 38 = .ok (.iadd, 1) := by decide +kernel
theorem dX0_valueAt_39 : decode cX0_valueAt 39 = .ok (.iaload, 1) := by decide +kernel
theorem dX0_valueAt_40 : decode cX0_valueAt 40 = .ok (.goto 5, 3) := by decide +kernel
theorem dX0_valueAt_43 : decode cX0_valueAt 43 = .ok (.ldc 48, 2) := by decide +kernel
theorem dX0_valueAt_45 : decode cX0_valueAt 45 = .ok (.ireturn, 1) := by decide +kernel
theorem dX0_setValue_0 : decode cX0_setValue 0 = .ok (.iload_n 1, 1) := by decide +kernel
theorem dX0_setValue_1 : decode cX0_setValue 1 = .ok (.ifCond .lt 18, 3) := by decide +kernel
theorem dX0_setValue_4 : decode cX0_setValue 4 = .ok (.iload_n 1, 1) := by decide +kernel
theorem dX0_setValue_5 : decode cX0_setValue 5 = .ok (.iconst 3, 1) := by decide +kernel
theorem dX0_setValue_6 : decode cX0_setValue 6 = .ok (.if_icmp .ge 13, 3) := by decide +kernel
theorem dX0_setValue_9 : decode cX0_setValue 9 = .ok (.iload_n 2, 1) := by decide +kernel
theorem dX0_setValue_10 : decode cX0_setValue 10 = .ok (.ifCond .lt 9, 3) := by decide +kernel
theorem dX0_setValue_13 : decode cX0_setValue 13 = .ok (.iload_n 2, 1) := by decide +kernel
theorem dX0_setValue_14 : decode cX0_setValue 14 = .ok (.bipush 48, 2) := by decide +kernel
theorem dX0_setValue_16 : decode cX0_setValue 16 = .ok (.if_icmp .lt 4, 3) := by decide +kernel
theorem dX0_setValue_19 : decode cX0_setValue 19 = .ok (.return_, 1) := by decide +kernel
theorem dX0_setValue_20 : decode cX0_setValue 20 = .ok (.aload_n 0, 1) := by decide +kernel
theorem dX0_setValue_21 : decode cX0_setValue 21 = .ok (.getfield 9, 3) := by decide +kernel
theorem dX0_setValue_24 : decode cX0_setValue 24 = .ok (.iload_n 1, 1) := by decide +kernel
theorem dX0_setValue_25 : decode cX0_setValue 25 = .ok (.bipush 48, 2) := by decide +kernel
theorem dX0_setValue_27 : decode cX0_setValue 27 = .ok (.imul, 1) := by decide +kernel
theorem dX0_setValue_28 : decode cX0_setValue 28 = .ok (.iload_n 2, 1) := by decide +kernel
theorem dX0_setValue_29 : decode cX0_setValue 29 = .ok (.iadd, 1) := by decide +kernel
theorem dX0_setValue_30 : decode cX0_setValue 30 = .ok (.iload_n 3, 1) := by decide +kernel
theorem dX0_setValue_31 : decode cX0_setValue 31 = .ok (.iastore, 1) := by decide +kernel
theorem dX0_setValue_32 : decode cX0_setValue 32 = .ok (.iload_n 3, 1) := by decide +kernel
theorem dX0_setValue_33 : decode cX0_setValue 33 = .ok (.ldc 48, 2) := by decide +kernel
theorem dX0_setValue_35 : decode cX0_setValue 35 = .ok (.if_icmp .ne 4, 3) := by decide +kernel
theorem dX0_setValue_38 : decode cX0_setValue 38 = .ok (.return_, 1) := by decide +kernel
theorem dX0_setValue_39 : decode cX0_setValue 39 = .ok (.aload_n 0, 1) := by decide +kernel
theorem dX0_setValue_40 : decode cX0_setValue 40 = .ok (.getfield 15, 3) := by decide +kernel
theorem dX0_setValue_43 : decode cX0_setValue 43 = .ok (.iload_n 1, 1) := by decide +kernel
theorem dX0_setValue_44 : decode cX0_setValue 44 = .ok (.iaload, 1) := by decide +kernel
theorem dX0_setValue_45 : decode cX0_setValue 45 = .ok (.ifCond .ne 7, 3) := by decide +kernel
theorem dX0_setValue_48 : decode cX0_setValue 48 = .ok (.iconst 1, 1) := by decide +kernel
theorem dX0_setValue_49 : decode cX0_setValue 49 = .ok (.goto 4, 3) := by decide +kernel
theorem dX0_setValue_52 : decode cX0_setValue 52 = .ok (.iconst 0, 1) := by decide +kernel
theorem dX0_setValue_53 : decode cX0_setValue 53 = .ok (.istore 4, 2) := by decide +kernel
theorem dX0_setValue_55 : decode cX0_setValue 55 = .ok (.iload 4, 2) := by decide +kernel
theorem dX0_setValue_57 : decode cX0_setValue 57 = .ok (.ifCond .ne 13, 3) := by decide +kernel
theorem dX0_setValue_60 : decode cX0_setValue 60 = .ok (.iload_n 3, 1) := by decide +kernel
theorem dX0_setValue_61 : decode cX0_setValue 61 = .ok (.aload_n 0, 1) := by decide +kernel
theorem dX0_setValue_62 : decode cX0_setValue 62 = .ok (.getfield 18, 3) := by decide +kernel
theorem dX0_setValue_65 : decode cX0_setValue 65 = .ok (.iload_n 1, 1) := by decide +kernel
theorem dX0_setValue_66 : decode cX0_setValue 66 = .ok (.iaload, 1) := by decide +kernel
theorem dX0_setValue_67 : decode cX0_setValue 67 = .ok (.if_icmp .ge 10, 3) := by decide +kernel
theorem dX0_setValue_70 : decode cX0_setValue 70 = .ok (.aload_n 0, 1) := by decide +kernel
theorem dX0_setValue_71 : decode cX0_setValue 71 = .ok (.getfield 18, 3) := by decide +kernel
theorem dX0_setValue_74 : decode cX0_setValue 74 = .ok (.iload_n 1, 1) := by decide +kernel
theorem dX0_setValue_75 : decode cX0_setValue 75 = .ok (.iload_n 3, 1) := by decide +kernel
theorem dX0_setValue_76 : decode cX0_setValue 76 = .ok (.iastore, 1) := by decide +kernel
theorem dX0_setValue_77 : decode cX0_setValue 77 = .ok (.iload 4, 2) := by decide +kernel
theorem dX0_setValue_79 : decode cX0_setValue 79 = .ok (.ifCond .ne 13, 3) := by decide +kernel
theorem dX0_setValue_82 : decode cX0_setValue 82 = .ok (.iload_n 3, 1) := by decide +kernel
theorem dX0_setValue_83 : decode cX0_setValue 83 = .ok (.aload_n 0, 1) := by decide +kernel
theorem dX0_setValue_84 : decode cX0_setValue 84 = .ok (.getfield 21, 3) := by decide +kernel
theorem dX0_setValue_87 : decode cX0_setValue 87 = .ok (.iload_n 1, 1) := by decide +kernel
theorem dX0_setValue_88 : decode cX0_setValue 88 = .ok (.iaload, 1) := by decide +kernel
theorem dX0_setValue_89 : decode cX0_setValue 89 = .ok (.if_icmp .le 10, 3) := by decide +kernel
theorem dX0_setValue_92 : decode cX0_setValue 92 = .ok (.aload_n 0, 1) := by decide +kernel
theorem dX0_setValue_93 : decode cX0_setValue 93 = .ok (.getfield 21, 3) := by decide +kernel
theorem dX0_setValue_96 : decode cX0_setValue 96 = .ok (.iload_n 1, 1) := by decide +kernel
theorem dX0_setValue_97 : decode cX0_setValue 97 = .ok (.iload_n 3, 1) := by decide +kernel
theorem dX0_setValue_98 : decode cX0_setValue 98 = .ok (.iastore, 1) := by decide +kernel
theorem dX0_setValue_99 : decode cX0_setValue 99 = .ok (.aload_n 0, 1) := by decide +kernel
theorem dX0_setValue_100 : decode cX0_setValue 100 = .ok (.getfield 15, 3) := by decide +kernel
theorem dX0_setValue_103 : decode cX0_setValue 103 = .ok (.iload_n 1, 1) := by decide +kernel
theorem dX0_setValue_104 : decode cX0_setValue 104 = .ok (.dup2, 1) := by decide +kernel
theorem dX0_setValue_105 : decode cX0_setValue 105 = .ok (.iaload, 1) := by decide +kernel
theorem dX0_setValue_106 : decode cX0_setValue 106 = .ok (.iconst 1, 1) := by decide +kernel
theorem dX0_setValue_107 : decode cX0_setValue 107 = .ok (.iadd, 1) := by decide +kernel
theorem dX0_setValue_108 : decode cX0_setValue 108 = .ok (.iastore, 1) := by decide +kernel
theorem dX0_setValue_109 : decode cX0_setValue 109 = .ok (.return_, 1) := by decide +kernel
theorem dX0_hasValueIn_0 : decode cX0_hasValueIn 0 = .ok (.iload_n 1, 1) := by decide +kernel
theorem dX0_hasValueIn_1 : decode cX0_hasValueIn 1 = .ok (.ifCond .lt 21, 3) := by decide +kernel
theorem dX0_hasValueIn_4 : decode cX0_hasValueIn 4 = .ok (.iload_n 1, 1) := by decide +kernel
theorem dX0_hasValueIn_5 : decode cX0_hasValueIn 5 = .ok (.iconst 3, 1) := by decide +kernel
theorem dX0_hasValueIn_6 : decode cX0_hasValueIn 6 = .ok (.if_icmp .ge 16, 3) := by decide +kernel
theorem dX0_hasValueIn_9 : decode cX0_hasValueIn 9 = .ok (.aload_n 0, 1) := by decide +kernel
theorem dX0_hasValueIn_10 : decode cX0_hasValueIn 10 = .ok (.getfield 15, 3) := by decide +kernel
theorem dX0_hasValueIn_13 : decode cX0_hasValueIn 13 = .ok (.iload_n 1, 1) := by decide +kernel
theorem dX0_hasValueIn_14 : decode cX0_hasValueIn 14 = .ok (.iaload, 1) := by decide +kernel
theorem dX0_hasValueIn_15 : decode cX0_hasValueIn 15 = .ok (.ifCond .le 7, 3) := by decide +kernel
theorem dX0_hasValueIn_18 : decode cX0_hasValueIn 18 = .ok (.iconst 1, 1) := by decide +kernel
theorem dX0_hasValueIn_19 : decode cX0_hasValueIn 19 = .ok (.goto 4, 3) := by decide +kernel
theorem dX0_hasValueIn_22 : decode cX0_hasValueIn 22 = .ok (.iconst 0, 1) := by decide +kernel
theorem dX0_hasValueIn_23 : decode cX0_hasValueIn 23 = .ok (.ireturn, 1) := by decide +kernel
theorem dX0_leastOf_0 : decode cX0_leastOf 0 = .ok (.iload_n 1, 1) := by decide +kernel
theorem dX0_leastOf_1 : decode cX0_leastOf 1 = .ok (.ifCond .lt 17, 3) := by decide +kernel
theorem dX0_leastOf_4 : decode cX0_leastOf 4 = .ok (.iload_n 1, 1) := by decide +kernel
theorem dX0_leastOf_5 : decode cX0_leastOf 5 = .ok (.iconst 3, 1) := by decide +kernel
theorem dX0_leastOf_6 : decode cX0_leastOf 6 = .ok (.if_icmp .ge 12, 3) := by decide +kernel
theorem dX0_leastOf_9 : decode cX0_leastOf 9 = .ok (.aload_n 0, 1) := by decide +kernel
theorem dX0_leastOf_10 : decode cX0_leastOf 10 = .ok (.getfield 18, 3) := by decide +kernel
theorem dX0_leastOf_13 : decode cX0_leastOf 13 = .ok (.iload_n 1, 1) := by decide +kernel
theorem dX0_leastOf_14 : decode cX0_leastOf 14 = .ok (.iaload, 1) := by decide +kernel
theorem dX0_leastOf_15 : decode cX0_leastOf 15 = .ok (.goto 4, 3) := by decide +kernel
theorem dX0_leastOf_18 : decode cX0_leastOf 18 = .ok (.iconst 0, 1) := by decide +kernel
theorem dX0_leastOf_19 : decode cX0_leastOf 19 = .ok (.ireturn, 1) := by decide +kernel
theorem dX0_greatestOf_0 : decode cX0_greatestOf 0 = .ok (.iload_n 1, 1) := by decide +kernel
theorem dX0_greatestOf_1 : decode cX0_greatestOf 1 = .ok (.ifCond .lt 17, 3) := by decide +kernel
theorem dX0_greatestOf_4 : decode cX0_greatestOf 4 = .ok (.iload_n 1, 1) := by decide +kernel
theorem dX0_greatestOf_5 : decode cX0_greatestOf 5 = .ok (.iconst 3, 1) := by decide +kernel
theorem dX0_greatestOf_6 : decode cX0_greatestOf 6 = .ok (.if_icmp .ge 12, 3) := by decide +kernel
theorem dX0_greatestOf_9 : decode cX0_greatestOf 9 = .ok (.aload_n 0, 1) := by decide +kernel
theorem dX0_greatestOf_10 : decode cX0_greatestOf 10 = .ok (.getfield 21, 3) := by decide +kernel
theorem dX0_greatestOf_13 : decode cX0_greatestOf 13 = .ok (.iload_n 1, 1) := by decide +kernel
theorem dX0_greatestOf_14 : decode cX0_greatestOf 14 = .ok (.iaload, 1) := by decide +kernel
theorem dX0_greatestOf_15 : decode cX0_greatestOf 15 = .ok (.goto 4, 3) := by decide +kernel
theorem dX0_greatestOf_18 : decode cX0_greatestOf 18 = .ok (.iconst 0, 1) := by decide +kernel
theorem dX0_greatestOf_19 : decode cX0_greatestOf 19 = .ok (.ireturn, 1) := by decide +kernel
theorem dX0_writeTo_0 : decode cX0_writeTo 0 = .ok (.aload_n 1, 1) := by decide +kernel
theorem dX0_writeTo_1 : decode cX0_writeTo 1 = .ok (.getfield 49, 3) := by decide +kernel
theorem dX0_writeTo_4 : decode cX0_writeTo 4 = .ok (.istore_n 2, 1) := by decide +kernel
theorem dX0_writeTo_5 : decode cX0_writeTo 5 = .ok (.aload_n 1, 1) := by decide +kernel
theorem dX0_writeTo_6 : decode cX0_writeTo 6 = .ok (.sipush 628, 3) := by decide +kernel
theorem dX0_writeTo_9 : decode cX0_writeTo 9 = .ok (.invokevirtual 54, 3) := by decide +kernel
theorem dX0_writeTo_12 : decode cX0_writeTo 12 = .ok (.aload_n 1, 1) := by decide +kernel
theorem dX0_writeTo_13 : decode cX0_writeTo 13 = .ok (.bipush 84, 2) := by decide +kernel
theorem dX0_writeTo_15 : decode cX0_writeTo 15 = .ok (.invokevirtual 58, 3) := by decide +kernel
theorem dX0_writeTo_18 : decode cX0_writeTo 18 = .ok (.aload_n 1, 1) := by decide +kernel
theorem dX0_writeTo_19 : decode cX0_writeTo 19 = .ok (.aload_n 0, 1) := by decide +kernel
theorem dX0_writeTo_20 : decode cX0_writeTo 20 = .ok (.getfield 24, 3) := by decide +kernel
theorem dX0_writeTo_23 : decode cX0_writeTo 23 = .ok (.invokevirtual 58, 3) := by decide +kernel
theorem dX0_writeTo_26 : decode cX0_writeTo 26 = .ok (.aload_n 1, 1) := by decide +kernel
theorem dX0_writeTo_27 : decode cX0_writeTo 27 = .ok (.aload_n 0, 1) := by decide +kernel
theorem dX0_writeTo_28 : decode cX0_writeTo 28 = .ok (.getfield 28, 3) := by decide +kernel
theorem dX0_writeTo_31 : decode cX0_writeTo 31 = .ok (.invokevirtual 58, 3) := by decide +kernel
theorem dX0_writeTo_34 : decode cX0_writeTo 34 = .ok (.iconst 0, 1) := by decide +kernel
theorem dX0_writeTo_35 : decode cX0_writeTo 35 = .ok (.istore_n 3, 1) := by decide +kernel
theorem dX0_writeTo_36 : decode cX0_writeTo 36 = .ok (.iload_n 3, 1) := by decide +kernel
theorem dX0_writeTo_37 : decode cX0_writeTo 37 = .ok (.iconst 3, 1) := by decide +kernel
theorem dX0_writeTo_38 : decode cX0_writeTo 38 = .ok (.if_icmp .ge 71, 3) := by decide +kernel
theorem dX0_writeTo_41 : decode cX0_writeTo 41 = .ok (.aload_n 0, 1) := by decide +kernel
theorem dX0_writeTo_42 : decode cX0_writeTo 42 = .ok (.iload_n 3, 1) := by decide +kernel
theorem dX0_writeTo_43 : decode cX0_writeTo 43 = .ok (.invokevirtual 61, 3) := by decide +kernel
theorem dX0_writeTo_46 : decode cX0_writeTo 46 = .ok (.istore 4, 2) := by decide +kernel
theorem dX0_writeTo_48 : decode cX0_writeTo 48 = .ok (.aload_n 1, 1) := by decide +kernel
theorem dX0_writeTo_49 : decode cX0_writeTo 49 = .ok (.iload 4, 2) := by decide +kernel
theorem dX0_writeTo_51 : decode cX0_writeTo 51 = .ok (.invokevirtual 58, 3) := by decide +kernel
theorem dX0_writeTo_54 : decode cX0_writeTo 54 = .ok (.aload_n 0, 1) := by decide +kernel
theorem dX0_writeTo_55 : decode cX0_writeTo 55 = .ok (.aload_n 1, 1) := by decide +kernel
theorem dX0_writeTo_56 : decode cX0_writeTo 56 = .ok (.iload_n 3, 1) := by decide +kernel
theorem dX0_writeTo_57 : decode cX0_writeTo 57 = .ok (.invokevirtual 65, 3) := by decide +kernel
theorem dX0_writeTo_60 : decode cX0_writeTo 60 = .ok (.iload 4, 2) := by decide +kernel
theorem dX0_writeTo_62 : decode cX0_writeTo 62 = .ok (.iconst 1, 1) := by decide +kernel
theorem dX0_writeTo_63 : decode cX0_writeTo 63 = .ok (.if_icmp .ne 12, 3) := by decide +kernel
theorem dX0_writeTo_66 : decode cX0_writeTo 66 = .ok (.aload_n 0, 1) := by decide +kernel
theorem dX0_writeTo_67 : decode cX0_writeTo 67 = .ok (.aload_n 1, 1) := by decide +kernel
theorem dX0_writeTo_68 : decode cX0_writeTo 68 = .ok (.iload_n 3, 1) := by decide +kernel
theorem dX0_writeTo_69 : decode cX0_writeTo 69 = .ok (.invokevirtual 69, 3) := by decide +kernel
theorem dX0_writeTo_72 : decode cX0_writeTo 72 = .ok (.goto 11, 3) := by decide +kernel
theorem dX0_writeTo_75 : decode cX0_writeTo 75 = .ok (.aload_n 0, 1) := by decide +kernel
theorem dX0_writeTo_76 : decode cX0_writeTo 76 = .ok (.aload_n 1, 1) := by decide +kernel
theorem dX0_writeTo_77 : decode cX0_writeTo 77 = .ok (.iload_n 3, 1) := by decide +kernel
theorem dX0_writeTo_78 : decode cX0_writeTo 78 = .ok (.iload 4, 2) := by decide +kernel
theorem dX0_writeTo_80 : decode cX0_writeTo 80 = .ok (.invokevirtual 72, 3) := by decide +kernel
theorem dX0_writeTo_83 : decode cX0_writeTo 83 = .ok (.aload_n 1, 1) := by decide +kernel
theorem dX0_writeTo_84 : decode cX0_writeTo 84 = .ok (.aload_n 0, 1) := by decide +kernel
theorem dX0_writeTo_85 : decode cX0_writeTo 85 = .ok (.getfield 18, 3) := by decide +kernel
theorem dX0_writeTo_88 : decode cX0_writeTo 88 = .ok (.iload_n 3, 1) := by decide +kernel
theorem dX0_writeTo_89 : decode cX0_writeTo 89 = .ok (.iaload, 1) := by decide +kernel
theorem dX0_writeTo_90 : decode cX0_writeTo 90 = .ok (.invokevirtual 76, 3) := by decide +kernel
theorem dX0_writeTo_93 : decode cX0_writeTo 93 = .ok (.aload_n 1, 1) := by decide +kernel
theorem dX0_writeTo_94 : decode cX0_writeTo 94 = .ok (.aload_n 0, 1) := by decide +kernel
theorem dX0_writeTo_95 : decode cX0_writeTo 95 = .ok (.getfield 21, 3) := by decide +kernel
theorem dX0_writeTo_98 : decode cX0_writeTo 98 = .ok (.iload_n 3, 1) := by decide +kernel
theorem dX0_writeTo_99 : decode cX0_writeTo 99 = .ok (.iaload, 1) := by decide +kernel
theorem dX0_writeTo_100 : decode cX0_writeTo 100 = .ok (.invokevirtual 76, 3) := by decide +kernel
theorem dX0_writeTo_103 : decode cX0_writeTo 103 = .ok (.iinc 3 1, 3) := by decide +kernel
theorem dX0_writeTo_106 : decode cX0_writeTo 106 = .ok (.goto (-70), 3) := by decide +kernel
theorem dX0_writeTo_109 : decode cX0_writeTo 109 = .ok (.aload_n 1, 1) := by decide +kernel
theorem dX0_writeTo_110 : decode cX0_writeTo 110 = .ok (.iload_n 2, 1) := by decide +kernel
theorem dX0_writeTo_111 : decode cX0_writeTo 111 = .ok (.invokevirtual 79, 3) := by decide +kernel
theorem dX0_writeTo_114 : decode cX0_writeTo 114 = .ok (.return_, 1) := by decide +kernel
theorem dX0_shortestWay_0 : decode cX0_shortestWay 0 = .ok (.iconst 0, 1) := by decide +kernel
theorem dX0_shortestWay_1 : decode cX0_shortestWay 1 = .ok (.istore_n 2, 1) := by decide +kernel
theorem dX0_shortestWay_2 : decode cX0_shortestWay 2 = .ok (.iconst 0, 1) := by decide +kernel
theorem dX0_shortestWay_3 : decode cX0_shortestWay 3 = .ok (.istore_n 3, 1) := by decide +kernel
theorem dX0_shortestWay_4 : decode cX0_shortestWay 4 = .ok (.iconst 0, 1) := by decide +kernel
theorem dX0_shortestWay_5 : decode cX0_shortestWay 5 = .ok (.istore 4, 2) := by decide +kernel
theorem dX0_shortestWay_7 : decode cX0_shortestWay 7 = .ok (.iconst 0, 1) := by decide +kernel
theorem dX0_shortestWay_8 : decode cX0_shortestWay 8 = .ok (.istore 5, 2) := by decide +kernel
theorem dX0_shortestWay_10 : decode cX0_shortestWay 10 = .ok (.iconst 0, 1) := by decide +kernel
theorem dX0_shortestWay_11 : decode cX0_shortestWay 11 = .ok (.istore 6, 2) := by decide +kernel
theorem dX0_shortestWay_13 : decode cX0_shortestWay 13 = .ok (.iload 6, 2) := by decide +kernel
theorem dX0_shortestWay_15 : decode cX0_shortestWay 15 = .ok (.aload_n 0, 1) := by decide +kernel
theorem dX0_shortestWay_16 : decode cX0_shortestWay 16 = .ok (.getfield 28, 3) := by decide +kernel
theorem dX0_shortestWay_19 : decode cX0_shortestWay 19 = .ok (.if_icmp .ge 67, 3) := by decide +kernel
theorem dX0_shortestWay_22 : decode cX0_shortestWay 22 = .ok (.aload_n 0, 1) := by decide +kernel
theorem dX0_shortestWay_23 : decode cX0_shortestWay 23 = .ok (.iload_n 1, 1) := by decide +kernel
theorem dX0_shortestWay_24 : decode cX0_shortestWay 24 = .ok (.iload 6, 2) := by decide +kernel
theorem dX0_shortestWay_26 : decode cX0_shortestWay 26 = .ok (.invokevirtual 41, 3) := by decide +kernel
theorem dX0_shortestWay_29 : decode cX0_shortestWay 29 = .ok (.istore 7, 2) := by decide +kernel
theorem dX0_shortestWay_31 : decode cX0_shortestWay 31 = .ok (.iload 7, 2) := by decide +kernel
theorem dX0_shortestWay_33 : decode cX0_shortestWay 33 = .ok (.ldc 48, 2) := by decide +kernel
theorem dX0_shortestWay_35 : decode cX0_shortestWay 35 = .ok (.if_icmp .ne 6, 3) := by decide +kernel
theorem dX0_shortestWay_38 : decode cX0_shortestWay 38 = .ok (.goto 42, 3) := by decide +kernel
theorem dX0_shortestWay_41 : decode cX0_shortestWay 41 = .ok (.iload_n 3, 1) := by decide +kernel
theorem dX0_shortestWay_42 : decode cX0_shortestWay 42 = .ok (.iload_n 2, 1) := by decide +kernel
theorem dX0_shortestWay_43 : decode cX0_shortestWay 43 = .ok (.ifCond .eq 10, 3) := by decide +kernel
theorem dX0_shortestWay_46 : decode cX0_shortestWay 46 = .ok (.iload 7, 2) := by decide +kernel
theorem dX0_shortestWay_48 : decode cX0_shortestWay 48 = .ok (.iload 5, 2) := by decide +kernel
theorem dX0_shortestWay_50 : decode cX0_shortestWay 50 = .ok (.if_icmp .eq 7, 3) := by decide +kernel
theorem dX0_shortestWay_53 : decode cX0_shortestWay 53 = .ok (.iconst 5, 1) := by decide +kernel
theorem dX0_shortestWay_54 : decode cX0_shortestWay 54 = .ok (.goto 4, 3) := by decide +kernel
theorem dX0_shortestWay_57 : decode cX0_shortestWay 57 = .ok (.iconst 0, 1) := by decide +kernel
theorem dX0_shortestWay_58 : decode cX0_shortestWay 58 = .ok (.iadd, 1) := by decide +kernel
theorem dX0_shortestWay_59 : decode cX0_shortestWay 59 = .ok (.istore_n 3, 1) := by decide +kernel
theorem dX0_shortestWay_60 : decode cX0_shortestWay 60 = .ok (.iinc 2 4, 3) := by decide +kernel
theorem dX0_shortestWay_63 : decode cX0_shortestWay 63 = .ok (.iload 4, 2) := by decide +kernel
theorem dX0_shortestWay_65 : decode cX0_shortestWay 65 = .ok (.iload 7, 2) := by decide +kernel
theorem dX0_shortestWay_67 : decode cX0_shortestWay 67 = .ok (.iload 5, 2) := by decide +kernel
theorem dX0_shortestWay_69 : decode cX0_shortestWay 69 = .ok (.isub, 1) := by decide +kernel
theorem dX0_shortestWay_70 : decode cX0_shortestWay 70 = .ok (.invokestatic 82, 3) := by decide +kernel
theorem dX0_shortestWay_73 : decode cX0_shortestWay 73 = .ok (.iadd, 1) := by decide +kernel
theorem dX0_shortestWay_74 : decode cX0_shortestWay 74 = .ok (.istore 4, 2) := by decide +kernel
theorem dX0_shortestWay_76 : decode cX0_shortestWay 76 = .ok (.iload 7, 2) := by decide +kernel
theorem dX0_shortestWay_78 : decode cX0_shortestWay 78 = .ok (.istore 5, 2) := by decide +kernel
theorem dX0_shortestWay_80 : decode cX0_shortestWay 80 = .ok (.iinc 6 1, 3) := by decide +kernel
theorem dX0_shortestWay_83 : decode cX0_shortestWay 83 = .ok (.goto (-70), 3) := by decide +kernel
theorem dX0_shortestWay_86 : decode cX0_shortestWay 86 = .ok (.iload_n 3, 1) := by decide +kernel
theorem dX0_shortestWay_87 : decode cX0_shortestWay 87 = .ok (.iload_n 2, 1) := by decide +kernel
theorem dX0_shortestWay_88 : decode cX0_shortestWay 88 = .ok (.if_icmp .ge 7, 3) := by decide +kernel
theorem dX0_shortestWay_91 : decode cX0_shortestWay 91 = .ok (.iconst 1, 1) := by decide +kernel
theorem dX0_shortestWay_92 : decode cX0_shortestWay 92 = .ok (.goto 4, 3) := by decide +kernel
theorem dX0_shortestWay_95 : decode cX0_shortestWay 95 = .ok (.iconst 0, 1) := by decide +kernel
theorem dX0_shortestWay_96 : decode cX0_shortestWay 96 = .ok (.istore 6, 2) := by decide +kernel
theorem dX0_shortestWay_98 : decode cX0_shortestWay 98 = .ok (.iload 4, 2) := by decide +kernel
theorem dX0_shortestWay_100 : decode cX0_shortestWay 100 = .ok (.iload_n 2, 1) := by decide +kernel
theorem dX0_shortestWay_101 : decode cX0_shortestWay 101 = .ok (.iload_n 3, 1) := by decide +kernel
theorem dX0_shortestWay_102 : decode cX0_shortestWay 102 = .ok (.invokestatic 85, 3) := by decide +kernel
theorem dX0_shortestWay_105 : decode cX0_shortestWay 105 = .ok (.if_icmp .ge 7, 3) := by decide +kernel
theorem dX0_shortestWay_108 : decode cX0_shortestWay 108 = .ok (.iconst 2, 1) := by decide +kernel
theorem dX0_shortestWay_109 : decode cX0_shortestWay 109 = .ok (.goto 5, 3) := by decide +kernel
theorem dX0_shortestWay_112 : decode cX0_shortestWay 112 = .ok (.iload 6, 2) := by decide +kernel
theorem dX0_shortestWay_114 : decode cX0_shortestWay 114 = .ok (.ireturn, 1) := by decide +kernel
theorem dX0_writeMissing_0 : decode cX0_writeMissing 0 = .ok (.iconst 0, 1) := by decide +kernel
theorem dX0_writeMissing_1 : decode cX0_writeMissing 1 = .ok (.istore_n 3, 1) := by decide +kernel
theorem dX0_writeMissing_2 : decode cX0_writeMissing 2 = .ok (.iload_n 3, 1) := by decide +kernel
theorem dX0_writeMissing_3 : decode cX0_writeMissing 3 = .ok (.aload_n 0, 1) := by decide +kernel
theorem dX0_writeMissing_4 : decode cX0_writeMissing 4 = .ok (.getfield 28, 3) := by decide +kernel
theorem dX0_writeMissing_7 : decode cX0_writeMissing 7 = .ok (.if_icmp .ge 74, 3) := by decide +kernel
theorem dX0_writeMissing_10 : decode cX0_writeMissing 10 = .ok (.iconst 0, 1) := by decide +kernel
theorem dX0_writeMissing_11 : decode cX0_writeMissing 11 = .ok (.istore 4, 2) := by decide +kernel
theorem dX0_writeMissing_13 : decode cX0_writeMissing 13 = .ok (.iload_n 3, 1) := by decide +kernel
theorem dX0_writeMissing_14 : decode cX0_writeMissing 14 = .ok (.istore 5, 2) := by decide +kernel
theorem dX0_writeMissing_16 : decode cX0_writeMissing 16 = .ok (.iload 5, 2) := by decide +kernel
theorem dX0_writeMissing_18 : decode cX0_writeMissing 18 = .ok (.iload_n 3, 1) := by decide +kernel
theorem dX0_writeMissing_19 : decode cX0_writeMissing 19 = .ok (.bipush 8, 2) := by decide +kernel
theorem dX0_writeMissing_21 : decode cX0_writeMissing 21 = .ok (.iadd, 1) := by decide +kernel
theorem dX0_writeMissing_22 : decode cX0_writeMissing 22 = .ok (.if_icmp .ge 47, 3) := by decide +kernel
theorem dX0_writeMissing_25 : decode cX0_writeMissing 25 = .ok (.iload 5, 2) := by decide +kernel
theorem dX0_writeMissing_27 : decode cX0_writeMissing 27 = .ok (.aload_n 0, 1) := by decide +kernel
theorem dX0_writeMissing_28 : decode cX0_writeMissing 28 = .ok (.getfield 28, 3) := by decide +kernel
theorem dX0_writeMissing_31 : decode cX0_writeMissing 31 = .ok (.if_icmp .ge 38, 3) := by decide +kernel
theorem dX0_writeMissing_34 : decode cX0_writeMissing 34 = .ok (.iload 4, 2) := by decide +kernel
theorem dX0_writeMissing_36 : decode cX0_writeMissing 36 = .ok (.aload_n 0, 1) := by decide +kernel
theorem dX0_writeMissing_37 : decode cX0_writeMissing 37 = .ok (.iload_n 2, 1) := by decide +kernel
theorem dX0_writeMissing_38 : decode cX0_writeMissing 38 = .ok (.iload 5, 2) := by decide +kernel
theorem dX0_writeMissing_40 : decode cX0_writeMissing 40 = .ok (.invokevirtual 41, 3) := by decide +kernel
theorem dX0_writeMissing_43 : decode cX0_writeMissing 43 = .ok (.ldc 48, 2) := by decide +kernel
theorem dX0_writeMissing_45 : decode cX0_writeMissing 45 = .ok (.if_icmp .ne 14, 3) := by decide +kernel
theorem dX0_writeMissing_48 : decode cX0_writeMissing 48 = .ok (.sipush 128, 3) := by decide +kernel
theorem dX0_writeMissing_51 : decode cX0_writeMissing 51 = .ok (.iload 5, 2) := by decide +kernel
theorem dX0_writeMissing_53 : decode cX0_writeMissing 53 = .ok (.iload_n 3, 1) := by decide +kernel
theorem dX0_writeMissing_54 : decode cX0_writeMissing 54 = .ok (.isub, 1) := by decide +kernel
theorem dX0_writeMissing_55 : decode cX0_writeMissing 55 = .ok (.ishr, 1) := by decide +kernel
theorem dX0_writeMissing_56 : decode cX0_writeMissing 56 = .ok (.goto 4, 3) := by decide +kernel
theorem dX0_writeMissing_59 : decode cX0_writeMissing 59 = .ok (.iconst 0, 1) := by decide +kernel
theorem dX0_writeMissing_60 : decode cX0_writeMissing 60 = .ok (.ior, 1) := by decide +kernel
theorem dX0_writeMissing_61 : decode cX0_writeMissing 61 = .ok (.istore 4, 2) := by decide +kernel
theorem dX0_writeMissing_63 : decode cX0_writeMissing 63 = .ok (.iinc 5 1, 3) := by decide +kernel
theorem dX0_writeMissing_66 : decode cX0_writeMissing 66 = .ok (.goto (-50), 3) := by decide +kernel
theorem dX0_writeMissing_69 : decode cX0_writeMissing 69 = .ok (.aload_n 1, 1) := by decide +kernel
theorem dX0_writeMissing_70 : decode cX0_writeMissing 70 = .ok (.iload 4, 2) := by decide +kernel
theorem dX0_writeMissing_72 : decode cX0_writeMissing 72 = .ok (.invokevirtual 58, 3) := by decide +kernel
theorem dX0_writeMissing_75 : decode cX0_writeMissing 75 = .ok (.iinc 3 8, 3) := by decide +kernel
theorem dX0_writeMissing_78 : decode cX0_writeMissing 78 = .ok (.goto (-76), 3) := by decide +kernel
theorem dX0_writeMissing_81 : decode cX0_writeMissing 81 = .ok (.return_, 1) := by decide +kernel
theorem dX0_writeRuns_0 : decode cX0_writeRuns 0 = .ok (.iconst 0, 1) := by decide +kernel
theorem dX0_writeRuns_1 : decode cX0_writeRuns 1 = .ok (.istore_n 3, 1) := by decide +kernel
theorem dX0_writeRuns_2 : decode cX0_writeRuns 2 = .ok (.iconst 0, 1) := by decide +kernel
theorem dX0_writeRuns_3 : decode cX0_writeRuns 3 = .ok (.istore 4, 2) := by decide +kernel
theorem dX0_writeRuns_5 : decode cX0_writeRuns 5 = .ok (.iconst 0, 1) := by decide +kernel
theorem dX0_writeRuns_6 : decode cX0_writeRuns 6 = .ok (.istore 5, 2) := by decide +kernel
theorem dX0_writeRuns_8 : decode cX0_writeRuns 8 = .ok (.iload 5, 2) := by decide +kernel
theorem dX0_writeRuns_10 : decode cX0_writeRuns 10 = .ok (.aload_n 0, 1) := by decide +kernel
theorem dX0_writeRuns_11 : decode cX0_writeRuns 11 = .ok (.getfield 28, 3) := by decide +kernel
theorem dX0_writeRuns_14 : decode cX0_writeRuns 14 = .ok (.if_icmp .ge 59, 3) := by decide +kernel
theorem dX0_writeRuns_17 : decode cX0_writeRuns 17 = .ok (.aload_n 0, 1) := by decide +kernel
theorem dX0_writeRuns_18 : decode cX0_writeRuns 18 = .ok (.iload_n 2, 1) := by decide +kernel
theorem dX0_writeRuns_19 : decode cX0_writeRuns 19 = .ok (.iload 5, 2) := by decide +kernel
theorem dX0_writeRuns_21 : decode cX0_writeRuns 21 = .ok (.invokevirtual 41, 3) := by decide +kernel
theorem dX0_writeRuns_24 : decode cX0_writeRuns 24 = .ok (.istore 6, 2) := by decide +kernel
theorem dX0_writeRuns_26 : decode cX0_writeRuns 26 = .ok (.iload 6, 2) := by decide +kernel
theorem dX0_writeRuns_28 : decode cX0_writeRuns 28 = .ok (.ldc 48, 2) := by decide +kernel
theorem dX0_writeRuns_30 : decode cX0_writeRuns 30 = .ok (.if_icmp .ne 6, 3) := by decide +kernel
theorem dX0_writeRuns_33 : decode cX0_writeRuns 33 = .ok (.goto 34, 3) := by decide +kernel
theorem dX0_writeRuns_36 : decode cX0_writeRuns 36 = .ok (.iload_n 3, 1) := by decide +kernel
theorem dX0_writeRuns_37 : decode cX0_writeRuns 37 = .ok (.ifCond .le 23, 3) := by decide +kernel
theorem dX0_writeRuns_40 : decode cX0_writeRuns 40 = .ok (.iload 6, 2) := by decide +kernel
theorem dX0_writeRuns_42 : decode cX0_writeRuns 42 = .ok (.iload 4, 2) := by decide +kernel
theorem dX0_writeRuns_44 : decode cX0_writeRuns 44 = .ok (.if_icmp .eq 16, 3) := by decide +kernel
theorem dX0_writeRuns_47 : decode cX0_writeRuns 47 = .ok (.aload_n 1, 1) := by decide +kernel
theorem dX0_writeRuns_48 : decode cX0_writeRuns 48 = .ok (.iload_n 3, 1) := by decide +kernel
theorem dX0_writeRuns_49 : decode cX0_writeRuns 49 = .ok (.invokevirtual 58, 3) := by decide +kernel
theorem dX0_writeRuns_52 : decode cX0_writeRuns 52 = .ok (.aload_n 1, 1) := by decide +kernel
theorem dX0_writeRuns_53 : decode cX0_writeRuns 53 = .ok (.iload 4, 2) := by decide +kernel
theorem dX0_writeRuns_55 : decode cX0_writeRuns 55 = .ok (.invokevirtual 76, 3) := by decide +kernel
theorem dX0_writeRuns_58 : decode cX0_writeRuns 58 = .ok (.iconst 0, 1) := by decide +kernel
theorem dX0_writeRuns_59 : decode cX0_writeRuns 59 = .ok (.istore_n 3, 1) := by decide +kernel
theorem dX0_writeRuns_60 : decode cX0_writeRuns 60 = .ok (.iload 6, 2) := by decide +kernel
theorem dX0_writeRuns_62 : decode cX0_writeRuns 62 = .ok (.istore 4, 2) := by decide +kernel
theorem dX0_writeRuns_64 : decode cX0_writeRuns 64 = .ok (.iinc 3 1, 3) := by decide +kernel
theorem dX0_writeRuns_67 : decode cX0_writeRuns 67 = .ok (.iinc 5 1, 3) := by decide +kernel
theorem dX0_writeRuns_70 : decode cX0_writeRuns 70 = .ok (.goto (-62), 3) := by decide +kernel
theorem dX0_writeRuns_73 : decode cX0_writeRuns 73 = .ok (.iload_n 3, 1) := by decide +kernel
theorem dX0_writeRuns_74 : decode cX0_writeRuns 74 = .ok (.ifCond .le 14, 3) := by decide +kernel
theorem dX0_writeRuns_77 : decode cX0_writeRuns 77 = .ok (.aload_n 1, 1) := by decide +kernel
theorem dX0_writeRuns_78 : decode cX0_writeRuns 78 = .ok (.iload_n 3, 1) := by decide +kernel
theorem dX0_writeRuns_79 : decode cX0_writeRuns 79 = .ok (.invokevirtual 58, 3) := by decide +kernel
theorem dX0_writeRuns_82 : decode cX0_writeRuns 82 = .ok (.aload_n 1, 1) := by decide +kernel
theorem dX0_writeRuns_83 : decode cX0_writeRuns 83 = .ok (.iload 4, 2) := by decide +kernel
theorem dX0_writeRuns_85 : decode cX0_writeRuns 85 = .ok (.invokevirtual 76, 3) := by decide +kernel
theorem dX0_writeRuns_88 : decode cX0_writeRuns 88 = .ok (.return_, 1) := by decide +kernel
theorem dX0_writeOneByOne_0 : decode cX0_writeOneByOne 0 = .ok (.iconst 0, 1) := by decide +kernel
theorem dX0_writeOneByOne_1 : decode cX0_writeOneByOne 1 = .ok (.istore 4, 2) := by decide +kernel
theorem dX0_writeOneByOne_3 : decode cX0_writeOneByOne 3 = .ok (.iconst 0, 1) := by decide +kernel
theorem dX0_writeOneByOne_4 : decode cX0_writeOneByOne 4 = .ok (.istore 5, 2) := by decide +kernel
theorem dX0_writeOneByOne_6 : decode cX0_writeOneByOne 6 = .ok (.iload 5, 2) := by decide +kernel
theorem dX0_writeOneByOne_8 : decode cX0_writeOneByOne 8 = .ok (.aload_n 0, 1) := by decide +kernel
theorem dX0_writeOneByOne_9 : decode cX0_writeOneByOne 9 = .ok (.getfield 28, 3) := by decide +kernel
theorem dX0_writeOneByOne_12 : decode cX0_writeOneByOne 12 = .ok (.if_icmp .ge 54, 3) := by decide +kernel
theorem dX0_writeOneByOne_15 : decode cX0_writeOneByOne 15 = .ok (.aload_n 0, 1) := by decide +kernel
theorem dX0_writeOneByOne_16 : decode cX0_writeOneByOne 16 = .ok (.iload_n 2, 1) := by decide +kernel
theorem dX0_writeOneByOne_17 : decode cX0_writeOneByOne 17 = .ok (.iload 5, 2) := by decide +kernel
theorem dX0_writeOneByOne_19 : decode cX0_writeOneByOne 19 = .ok (.invokevirtual 41, 3) := by decide +kernel
theorem dX0_writeOneByOne_22 : decode cX0_writeOneByOne 22 = .ok (.istore 6, 2) := by decide +kernel
theorem dX0_writeOneByOne_24 : decode cX0_writeOneByOne 24 = .ok (.iload 6, 2) := by decide +kernel
theorem dX0_writeOneByOne_26 : decode cX0_writeOneByOne 26 = .ok (.ldc 48, 2) := by decide +kernel
theorem dX0_writeOneByOne_28 : decode cX0_writeOneByOne 28 = .ok (.if_icmp .ne 6, 3) := by decide +kernel
theorem dX0_writeOneByOne_31 : decode cX0_writeOneByOne 31 = .ok (.goto 29, 3) := by decide +kernel
theorem dX0_writeOneByOne_34 : decode cX0_writeOneByOne 34 = .ok (.iload_n 3, 1) := by decide +kernel
theorem dX0_writeOneByOne_35 : decode cX0_writeOneByOne 35 = .ok (.ifCond .ne 12, 3) := by decide +kernel
theorem dX0_writeOneByOne_38 : decode cX0_writeOneByOne 38 = .ok (.aload_n 1, 1) := by decide +kernel
theorem dX0_writeOneByOne_39 : decode cX0_writeOneByOne 39 = .ok (.iload 6, 2) := by decide +kernel
theorem dX0_writeOneByOne_41 : decode cX0_writeOneByOne 41 = .ok (.invokevirtual 76, 3) := by decide +kernel
theorem dX0_writeOneByOne_44 : decode cX0_writeOneByOne 44 = .ok (.goto 12, 3) := by decide +kernel
theorem dX0_writeOneByOne_47 : decode cX0_writeOneByOne 47 = .ok (.aload_n 1, 1) := by decide +kernel
theorem dX0_writeOneByOne_48 : decode cX0_writeOneByOne 48 = .ok (.iload 6, 2) := by decide +kernel
theorem dX0_writeOneByOne_50 : decode cX0_writeOneByOne 50 = .ok (.iload 4, 2) := by decide +kernel
theorem dX0_writeOneByOne_52 : decode cX0_writeOneByOne 52 = .ok (.isub, 1) := by decide +kernel
theorem dX0_writeOneByOne_53 : decode cX0_writeOneByOne 53 = .ok (.invokevirtual 90, 3) := by decide +kernel
theorem dX0_writeOneByOne_56 : decode cX0_writeOneByOne 56 = .ok (.iload 6, 2) := by decide +kernel
theorem dX0_writeOneByOne_58 : decode cX0_writeOneByOne 58 = .ok (.istore 4, 2) := by decide +kernel
theorem dX0_writeOneByOne_60 : decode cX0_writeOneByOne 60 = .ok (.iinc 5 1, 3) := by decide +kernel
theorem dX0_writeOneByOne_63 : decode cX0_writeOneByOne 63 = .ok (.goto (-57), 3) := by decide +kernel
theorem dX0_writeOneByOne_66 : decode cX0_writeOneByOne 66 = .ok (.return_, 1) := by decide +kernel
theorem dX0_readFrom_0 : decode cX0_readFrom 0 = .ok (.aload_n 1, 1) := by decide +kernel
theorem dX0_readFrom_1 : decode cX0_readFrom 1 = .ok (.invokevirtual 93, 3) := by decide +kernel
theorem dX0_readFrom_4 : decode cX0_readFrom 4 = .ok (.istore_n 2, 1) := by decide +kernel
theorem dX0_readFrom_5 : decode cX0_readFrom 5 = .ok (.aload_n 0, 1) := by decide +kernel
theorem dX0_readFrom_6 : decode cX0_readFrom 6 = .ok (.aload_n 1, 1) := by decide +kernel
theorem dX0_readFrom_7 : decode cX0_readFrom 7 = .ok (.invokevirtual 93, 3) := by decide +kernel
theorem dX0_readFrom_10 : decode cX0_readFrom 10 = .ok (.invokevirtual 98, 3) := by decide +kernel
theorem dX0_readFrom_13 : decode cX0_readFrom 13 = .ok (.aload_n 1, 1) := by decide +kernel
theorem dX0_readFrom_14 : decode cX0_readFrom 14 = .ok (.invokevirtual 93, 3) := by decide +kernel
theorem dX0_readFrom_17 : decode cX0_readFrom 17 = .ok (.istore_n 3, 1) := by decide +kernel
theorem dX0_readFrom_18 : decode cX0_readFrom 18 = .ok (.iload_n 2, 1) := by decide +kernel
theorem dX0_readFrom_19 : decode cX0_readFrom 19 = .ok (.bipush 84, 2) := by decide +kernel
theorem dX0_readFrom_21 : decode cX0_readFrom 21 = .ok (.if_icmp .ne 24, 3) := by decide +kernel
theorem dX0_readFrom_24 : decode cX0_readFrom 24 = .ok (.aload_n 0, 1) := by decide +kernel
theorem dX0_readFrom_25 : decode cX0_readFrom 25 = .ok (.getfield 24, 3) := by decide +kernel
theorem dX0_readFrom_28 : decode cX0_readFrom 28 = .ok (.invokestatic 101, 3) := by decide +kernel
theorem dX0_readFrom_31 : decode cX0_readFrom 31 = .ok (.ifCond .eq 14, 3) := by decide +kernel
theorem dX0_readFrom_34 : decode cX0_readFrom 34 = .ok (.iload_n 3, 1) := by decide +kernel
theorem dX0_readFrom_35 : decode cX0_readFrom 35 = .ok (.iconst 1, 1) := by decide +kernel
theorem dX0_readFrom_36 : decode cX0_readFrom 36 = .ok (.if_icmp .lt 9, 3) := by decide +kernel
theorem dX0_readFrom_39 : decode cX0_readFrom 39 = .ok (.iload_n 3, 1) := by decide +kernel
theorem dX0_readFrom_40 : decode cX0_readFrom 40 = .ok (.bipush 48, 2) := by decide +kernel
theorem dX0_readFrom_42 : decode cX0_readFrom 42 = .ok (.if_icmp .le 5, 3) := by decide +kernel
theorem dX0_readFrom_45 : decode cX0_readFrom 45 = .ok (.iconst 0, 1) := by decide +kernel
theorem dX0_readFrom_46 : decode cX0_readFrom 46 = .ok (.ireturn, 1) := by decide +kernel
theorem dX0_readFrom_47 : decode cX0_readFrom 47 = .ok (.aload_n 0, 1) := by decide +kernel
theorem dX0_readFrom_48 : decode cX0_readFrom 48 = .ok (.iload_n 3, 1) := by decide +kernel
theorem dX0_readFrom_49 : decode cX0_readFrom 49 = .ok (.putfield 28, 3) := by decide +kernel
theorem dX0_readFrom_52 : decode cX0_readFrom 52 = .ok (.iconst 0, 1) := by decide +kernel
theorem dX0_readFrom_53 : decode cX0_readFrom 53 = .ok (.istore 4, 2) := by decide +kernel
theorem dX0_readFrom_55 : decode cX0_readFrom 55 = .ok (.iload 4, 2) := by decide +kernel
theorem dX0_readFrom_57 : decode cX0_readFrom 57 = .ok (.iconst 3, 1) := by decide +kernel
theorem dX0_readFrom_58 : decode cX0_readFrom 58 = .ok (.if_icmp .ge 21, 3) := by decide +kernel
theorem dX0_readFrom_61 : decode cX0_readFrom 61 = .ok (.aload_n 0, 1) := by decide +kernel
theorem dX0_readFrom_62 : decode cX0_readFrom 62 = .ok (.aload_n 1, 1) := by decide +kernel
theorem dX0_readFrom_63 : decode cX0_readFrom 63 = .ok (.iload 4, 2) := by decide +kernel
theorem dX0_readFrom_65 : decode cX0_readFrom 65 = .ok (.invokevirtual 105, 3) := by decide +kernel
theorem dX0_readFrom_68 : decode cX0_readFrom 68 = .ok (.ifCond .ne 5, 3) := by decide +kernel
theorem dX0_readFrom_71 : decode cX0_readFrom 71 = .ok (.iconst 0, 1) := by decide +kernel
theorem dX0_readFrom_72 : decode cX0_readFrom 72 = .ok (.ireturn, 1) := by decide +kernel
theorem dX0_readFrom_73 : decode cX0_readFrom 73 = .ok (.iinc 4 1, 3) := by decide +kernel
theorem dX0_readFrom_76 : decode cX0_readFrom 76 = .ok (.goto (-21), 3) := by decide +kernel
theorem dX0_readFrom_79 : decode cX0_readFrom 79 = .ok (.aload_n 1, 1) := by decide +kernel
theorem dX0_readFrom_80 : decode cX0_readFrom 80 = .ok (.invokevirtual 109, 3) := by decide +kernel
theorem dX0_readFrom_83 : decode cX0_readFrom 83 = .ok (.ireturn, 1) := by decide +kernel
theorem dX0_readColumn_0 : decode cX0_readColumn 0 = .ok (.aload_n 1, 1) := by decide +kernel
theorem dX0_readColumn_1 : decode cX0_readColumn 1 = .ok (.invokevirtual 93, 3) := by decide +kernel
theorem dX0_readColumn_4 : decode cX0_readColumn 4 = .ok (.istore_n 3, 1) := by decide +kernel
theorem dX0_readColumn_5 : decode cX0_readColumn 5 = .ok (.lconst 0, 1) := by decide +kernel
theorem dX0_readColumn_6 : decode cX0_readColumn 6 = .ok (.lstore 4, 2) := by decide +kernel
theorem dX0_readColumn_8 : decode cX0_readColumn 8 = .ok (.iconst 0, 1) := by decide +kernel
theorem dX0_readColumn_9 : decode cX0_readColumn 9 = .ok (.istore 6, 2) := by decide +kernel
theorem dX0_readColumn_11 : decode cX0_readColumn 11 = .ok (.iconst 0, 1) := by decide +kernel
theorem dX0_readColumn_12 : decode cX0_readColumn 12 = .ok (.istore 7, 2) := by decide +kernel
theorem dX0_readColumn_14 : decode cX0_readColumn 14 = .ok (.iload 7, 2) := by decide +kernel
theorem dX0_readColumn_16 : decode cX0_readColumn 16 = .ok (.aload_n 0, 1) := by decide +kernel
theorem dX0_readColumn_17 : decode cX0_readColumn 17 = .ok (.getfield 28, 3) := by decide +kernel
theorem dX0_readColumn_20 : decode cX0_readColumn 20 = .ok (.if_icmp .ge 25, 3) := by decide +kernel
theorem dX0_readColumn_23 : decode cX0_readColumn 23 = .ok (.lload 4, 2) := by decide +kernel
theorem dX0_readColumn_25 : decode cX0_readColumn 25 = .ok (.bipush 8, 2) := by decide +kernel
theorem dX0_readColumn_27 : decode cX0_readColumn 27 = .ok (.lshl, 1) := by decide +kernel
theorem dX0_readColumn_28 : decode cX0_readColumn 28 = .ok (.aload_n 1, 1) := by decide +kernel
theorem dX0_readColumn_29 : decode cX0_readColumn 29 = .ok (.invokevirtual 93, 3) := by decide +kernel
theorem dX0_readColumn_32 : decode cX0_readColumn 32 = .ok (.i2l, 1) := by decide +kernel
theorem dX0_readColumn_33 : decode cX0_readColumn 33 = .ok (.lor, 1) := by decide +kernel
theorem dX0_readColumn_34 : decode cX0_readColumn 34 = .ok (.lstore 4, 2) := by decide +kernel
theorem dX0_readColumn_36 : decode cX0_readColumn 36 = .ok (.iinc 6 8, 3) := by decide +kernel
theorem dX0_readColumn_39 : decode cX0_readColumn 39 = .ok (.iinc 7 8, 3) := by decide +kernel
theorem dX0_readColumn_42 : decode cX0_readColumn 42 = .ok (.goto (-28), 3) := by decide +kernel
theorem dX0_readColumn_45 : decode cX0_readColumn 45 = .ok (.iconst 0, 1) := by decide +kernel
theorem dX0_readColumn_46 : decode cX0_readColumn 46 = .ok (.istore 7, 2) := by decide +kernel
theorem dX0_readColumn_48 : decode cX0_readColumn 48 = .ok (.iconst 0, 1) := by decide +kernel
theorem dX0_readColumn_49 : decode cX0_readColumn 49 = .ok (.istore 8, 2) := by decide +kernel
theorem dX0_readColumn_51 : decode cX0_readColumn 51 = .ok (.iconst 0, 1) := by decide +kernel
theorem dX0_readColumn_52 : decode cX0_readColumn 52 = .ok (.istore 9, 2) := by decide +kernel
theorem dX0_readColumn_54 : decode cX0_readColumn 54 = .ok (.iload 9, 2) := by decide +kernel
theorem dX0_readColumn_56 : decode cX0_readColumn 56 = .ok (.aload_n 0, 1) := by decide +kernel
theorem dX0_readColumn_57 : decode cX0_readColumn 57 = .ok (.getfield 28, 3) := by decide +kernel
theorem dX0_readColumn_60 : decode cX0_readColumn 60 = .ok (.if_icmp .ge 111, 3) := by decide +kernel
theorem dX0_readColumn_63 : decode cX0_readColumn 63 = .ok (.aload_n 1, 1) := by decide +kernel
theorem dX0_readColumn_64 : decode cX0_readColumn 64 = .ok (.getfield 113, 3) := by decide +kernel
theorem dX0_readColumn_67 : decode cX0_readColumn 67 = .ok (.ifCond .ne 104, 3) := by decide +kernel
theorem dX0_readColumn_70 : decode cX0_readColumn 70 = .ok (.lload 4, 2) := by decide +kernel
theorem dX0_readColumn_72 : decode cX0_readColumn 72 = .ok (.iload 6, 2) := by decide +kernel
theorem dX0_readColumn_74 : decode cX0_readColumn 74 = .ok (.iconst 1, 1) := by decide +kernel
theorem dX0_readColumn_75 : decode cX0_readColumn 75 = .ok (.isub, 1) := by decide +kernel
theorem dX0_readColumn_76 : decode cX0_readColumn 76 = .ok (.iload 9, 2) := by decide +kernel
theorem dX0_readColumn_78 : decode cX0_readColumn 78 = .ok (.isub, 1) := by decide +kernel
theorem dX0_readColumn_79 : decode cX0_readColumn 79 = .ok (.lshr, 1) := by decide +kernel
theorem dX0_readColumn_80 : decode cX0_readColumn 80 = .ok (.lconst 1, 1) := by decide +kernel
theorem dX0_readColumn_81 : decode cX0_readColumn 81 = .ok (.land, 1) := by decide +kernel
theorem dX0_readColumn_82 : decode cX0_readColumn 82 = .ok (.lconst 1, 1) := by decide +kernel
theorem dX0_readColumn_83 : decode cX0_readColumn 83 = .ok (.lcmp, 1) := by decide +kernel
theorem dX0_readColumn_84 : decode cX0_readColumn 84 = .ok (.ifCond .ne 15, 3) := by decide +kernel
theorem dX0_readColumn_87 : decode cX0_readColumn 87 = .ok (.aload_n 0, 1) := by decide +kernel
theorem dX0_readColumn_88 : decode cX0_readColumn 88 = .ok (.iload_n 2, 1) := by decide +kernel
theorem dX0_readColumn_89 : decode cX0_readColumn 89 = .ok (.iload 9, 2) := by decide +kernel
theorem dX0_readColumn_91 : decode cX0_readColumn 91 = .ok (.ldc 48, 2) := by decide +kernel
theorem dX0_readColumn_93 : decode cX0_readColumn 93 = .ok (.invokevirtual 37, 3) := by decide +kernel
theorem dX0_readColumn_96 : decode cX0_readColumn 96 = .ok (.goto 69, 3) := by decide +kernel
theorem dX0_readColumn_99 : decode cX0_readColumn 99 = .ok (.iload_n 3, 1) := by decide +kernel
theorem dX0_readColumn_100 : decode cX0_readColumn 100 = .ok (.ifCond .ne 12, 3) := by decide +kernel
theorem dX0_readColumn_103 : decode cX0_readColumn 103 = .ok (.aload_n 1, 1) := by decide +kernel
theorem dX0_readColumn_104 : decode cX0_readColumn 104 = .ok (.invokevirtual 117, 3) := by decide +kernel
theorem dX0_readColumn_107 : decode cX0_readColumn 107 = .ok (.istore 8, 2) := by decide +kernel
theorem dX0_readColumn_109 : decode cX0_readColumn 109 = .ok (.goto 37, 3) := by decide +kernel
theorem dX0_readColumn_112 : decode cX0_readColumn 112 = .ok (.iload_n 3, 1) := by decide +kernel
theorem dX0_readColumn_113 : decode cX0_readColumn 113 = .ok (.iconst 2, 1) := by decide +kernel
theorem dX0_readColumn_114 : decode cX0_readColumn 114 = .ok (.if_icmp .ne 15, 3) := by decide +kernel
theorem dX0_readColumn_117 : decode cX0_readColumn 117 = .ok (.iload 8, 2) := by decide +kernel
theorem dX0_readColumn_119 : decode cX0_readColumn 119 = .ok (.aload_n 1, 1) := by decide +kernel
theorem dX0_readColumn_120 : decode cX0_readColumn 120 = .ok (.invokevirtual 119, 3) := by decide +kernel
theorem dX0_readColumn_123 : decode cX0_readColumn 123 = .ok (.iadd, 1) := by decide +kernel
theorem dX0_readColumn_124 : decode cX0_readColumn 124 = .ok (.istore 8, 2) := by decide +kernel
theorem dX0_readColumn_126 : decode cX0_readColumn 126 = .ok (.goto 20, 3) := by decide +kernel
theorem dX0_readColumn_129 : decode cX0_readColumn 129 = .ok (.iload 7, 2) := by decide +kernel
theorem dX0_readColumn_131 : decode cX0_readColumn 131 = .ok (.ifCond .ne 15, 3) := by decide +kernel
theorem dX0_readColumn_134 : decode cX0_readColumn 134 = .ok (.aload_n 1, 1) := by decide +kernel
theorem dX0_readColumn_135 : decode cX0_readColumn 135 = .ok (.invokevirtual 93, 3) := by decide +kernel
theorem dX0_readColumn_138 : decode cX0_readColumn 138 = .ok (.istore 7, 2) := by decide +kernel
theorem dX0_readColumn_140 : decode cX0_readColumn 140 = .ok (.aload_n 1, 1) := by decide +kernel
theorem dX0_readColumn_141 : decode cX0_readColumn 141 = .ok (.invokevirtual 117, 3) := by decide +kernel
theorem dX0_readColumn_144 : decode cX0_readColumn 144 = .ok (.istore 8, 2) := by decide +kernel
theorem dX0_readColumn_146 : decode cX0_readColumn 146 = .ok (.iload 7, 2) := by decide +kernel
theorem dX0_readColumn_148 : decode cX0_readColumn 148 = .ok (.iconst 1, 1) := by decide +kernel
theorem dX0_readColumn_149 : decode cX0_readColumn 149 = .ok (.isub, 1) := by decide +kernel
theorem dX0_readColumn_150 : decode cX0_readColumn 150 = .ok (.iconst 0, 1) := by decide +kernel
theorem dX0_readColumn_151 : decode cX0_readColumn 151 = .ok (.invokestatic 121, 3) := by decide +kernel
theorem dX0_readColumn_154 : decode cX0_readColumn 154 = .ok (.istore 7, 2) := by decide +kernel
theorem dX0_readColumn_156 : decode cX0_readColumn 156 = .ok (.aload_n 0, 1) := by decide +kernel
theorem dX0_readColumn_157 : decode cX0_readColumn 157 = .ok (.iload_n 2, 1) := by decide +kernel
theorem dX0_readColumn_158 : decode cX0_readColumn 158 = .ok (.iload 9, 2) := by decide +kernel
theorem dX0_readColumn_160 : decode cX0_readColumn 160 = .ok (.iload 8, 2) := by decide +kernel
theorem dX0_readColumn_162 : decode cX0_readColumn 162 = .ok (.invokevirtual 37, 3) := by decide +kernel
theorem dX0_readColumn_165 : decode cX0_readColumn 165 = .ok (.iinc 9 1, 3) := by decide +kernel
theorem dX0_readColumn_168 : decode cX0_readColumn 168 = .ok (.goto (-114), 3) := by decide +kernel
theorem dX0_readColumn_171 : decode cX0_readColumn 171 = .ok (.aload_n 1, 1) := by decide +kernel
theorem dX0_readColumn_172 : decode cX0_readColumn 172 = .ok (.invokevirtual 117, 3) := by decide +kernel
theorem dX0_readColumn_175 : decode cX0_readColumn 175 = .ok (.pop, 1) := by decide +kernel
theorem dX0_readColumn_176 : decode cX0_readColumn 176 = .ok (.aload_n 1, 1) := by decide +kernel
theorem dX0_readColumn_177 : decode cX0_readColumn 177 = .ok (.invokevirtual 117, 3) := by decide +kernel
theorem dX0_readColumn_180 : decode cX0_readColumn 180 = .ok (.pop, 1) := by decide +kernel
theorem dX0_readColumn_181 : decode cX0_readColumn 181 = .ok (.iload_n 3, 1) := by decide +kernel
theorem dX0_readColumn_182 : decode cX0_readColumn 182 = .ok (.iconst 2, 1) := by decide +kernel
theorem dX0_readColumn_183 : decode cX0_readColumn 183 = .ok (.if_icmp .gt 14, 3) := by decide +kernel
theorem dX0_readColumn_186 : decode cX0_readColumn 186 = .ok (.aload_n 1, 1) := by decide +kernel
theorem dX0_readColumn_187 : decode cX0_readColumn 187 = .ok (.getfield 113, 3) := by decide +kernel
theorem dX0_readColumn_190 : decode cX0_readColumn 190 = .ok (.ifCond .ne 7, 3) := by decide +kernel
theorem dX0_readColumn_193 : decode cX0_readColumn 193 = .ok (.iconst 1, 1) := by decide +kernel
theorem dX0_readColumn_194 : decode cX0_readColumn 194 = .ok (.goto 4, 3) := by decide +kernel
theorem dX0_readColumn_197 : decode cX0_readColumn 197 = .ok (.iconst 0, 1) := by decide +kernel
theorem dX0_readColumn_198 : decode cX0_readColumn 198 = .ok (.ireturn, 1) := by decide +kernel
