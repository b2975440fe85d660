theorem dX11_append_4 : decode cX11_append 4 = .ok (.invokevirtual 269, 3) := by decide +kernel
theorem dX11_append_7 : decode cX11_append 7 = .ok (.ireturn, 1) := by decide +kernel
theorem dX11_row_0 : decode cX11_row 0 = .ok (.iload_n 1, 1) := by decide +kernel
theorem dX11_row_1 : decode cX11_row 1 = .ok (.invokestatic 266, 3) := by decide +kernel
theorem dX11_row_4 : decode cX11_row 4 = .ok (.ifCond .eq 51, 3) := by decide +kernel
theorem dX11_row_7 : decode cX11_row 7 = .ok (.aload_n 0, 1) := by decide +kernel
theorem dX11_row_8 : decode cX11_row 8 = .ok (.getfield 65, 3) := by decide +kernel
theorem dX11_row_11 : decode cX11_row 11 = .ok (.iload_n 1, 1) := by decide +kernel
theorem dX11_row_12 : decode cX11_row 12 = .ok (.baload, 1) := by decide +kernel
theorem dX11_row_13 : decode cX11_row 13 = .ok (.ifCond .eq 42, 3) := by decide +kernel
theorem dX11_row_16 : decode cX11_row 16 = .ok (.aload_n 0, 1) := by decide +kernel
theorem dX11_row_17 : decode cX11_row 17 = .ok (.getfield 71, 3) := by decide +kernel
theorem dX11_row_20 : decode cX11_row 20 = .ok (.iload_n 1, 1) := by decide +kernel
theorem dX11_row_21 : decode cX11_row 21 = .ok (.iaload, 1) := by decide +kernel
theorem dX11_row_22 : decode cX11_row 22 = .ok (.ifCond .ne 33, 3) := by decide +kernel
theorem dX11_row_25 : decode cX11_row 25 = .ok (.aload_n 0, 1) := by decide +kernel
theorem dX11_row_26 : decode cX11_row 26 = .ok (.getfield 68, 3) := by decide +kernel
theorem dX11_row_29 : decode cX11_row 29 = .ok (.iload_n 1, 1) := by decide +kernel
theorem dX11_row_30 : decode cX11_row 30 = .ok (.baload, 1) := by decide +kernel
theorem dX11_row_31 : decode cX11_row 31 = .ok (.ifCond .ne 24, 3) := by decide +kernel
theorem dX11_row_34 : decode cX11_row 34 = .ok (.iload_n 2, 1) := by decide +kernel
theorem dX11_row_35 : decode cX11_row 35 = .ok (.ifCond .lt 20, 3) := by decide +kernel
theorem dX11_row_38 : decode cX11_row 38 = .ok (.iload_n 2, 1) := by decide +kernel
theorem dX11_row_39 : decode cX11_row 39 = .ok (.bipush 7, 2) := by decide +kernel
theorem dX11_row_41 : decode cX11_row 41 = .ok (.if_icmp .gt 14, 3) := by decide +kernel
theorem dX11_row_44 : decode cX11_row 44 = .ok (.aload_n 0, 1) := by decide +kernel
theorem dX11_row_45 : decode cX11_row 45 = .ok (.getfield 108, 3) := by decide +kernel
theorem dX11_row_48 : decode cX11_row 48 = .ok (.iload_n 1, 1) := by decide +kernel
theorem dX11_row_49 : decode cX11_row 49 = .ok (.iaload, 1) := by decide +kernel
theorem dX11_row_50 : decode cX11_row 50 = .ok (.bipush 96, 2) := by decide +kernel
theorem dX11_row_52 : decode cX11_row 52 = .ok (.if_icmp .ne 5, 3) := by decide +kernel
theorem dX11_row_55 : decode cX11_row 55 = .ok (.iconst (-1), 1) := by decide +kernel
theorem dX11_row_56 : decode cX11_row 56 = .ok (.ireturn, 1) := by decide +kernel
theorem dX11_row_57 : decode cX11_row 57 = .ok (.iconst 0, 1) := by decide +kernel
theorem dX11_row_58 : decode cX11_row 58 = .ok (.istore 6, 2) := by decide +kernel
theorem dX11_row_60 : decode cX11_row 60 = .ok (.iconst 0, 1) := by decide +kernel
theorem dX11_row_61 : decode cX11_row 61 = .ok (.istore 7, 2) := by decide +kernel
theorem dX11_row_63 : decode cX11_row 63 = .ok (.iload 7, 2) := by decide +kernel
theorem dX11_row_65 : decode cX11_row 65 = .ok (.aload_n 0, 1) := by decide +kernel
theorem dX11_row_66 : decode cX11_row 66 = .ok (.getfield 108, 3) := by decide +kernel
theorem dX11_row_69 : decode cX11_row 69 = .ok (.iload_n 1, 1) := by decide +kernel
theorem dX11_row_70 : decode cX11_row 70 = .ok (.iaload, 1) := by decide +kernel
theorem dX11_row_71 : decode cX11_row 71 = .ok (.if_icmp .ge 36, 3) := by decide +kernel
theorem dX11_row_74 : decode cX11_row 74 = .ok (.iload 6, 2) := by decide +kernel
theorem dX11_row_76 : decode cX11_row 76 = .ok (.aload_n 0, 1) := by decide +kernel
theorem dX11_row_77 : decode cX11_row 77 = .ok (.getfield 105, 3) := by decide +kernel
theorem dX11_row_80 : decode cX11_row 80 = .ok (.sipush 4800, 3) := by decide +kernel
theorem dX11_row_83 : decode cX11_row 83 = .ok (.iload_n 1, 1) := by decide +kernel
theorem dX11_row_84 : decode cX11_row 84 = .ok (.imul, 1) := by decide +kernel
theorem dX11_row_85 : decode cX11_row 85 = .ok (.iload 7, 2) := by decide +kernel
theorem dX11_row_87 : decode cX11_row 87 = .ok (.iadd, 1) := by decide +kernel
theorem dX11_row_88 : decode cX11_row 88 = .ok (.iaload, 1) := by decide +kernel
theorem dX11_row_89 : decode cX11_row 89 = .ok (.iload_n 2, 1) := by decide +kernel
theorem dX11_row_90 : decode cX11_row 90 = .ok (.if_icmp .ne 7, 3) := by decide +kernel
theorem dX11_row_93 : decode cX11_row 93 = .ok (.iconst 1, 1) := by decide +kernel
theorem dX11_row_94 : decode cX11_row 94 = .ok (.goto 4, 3) := by decide +kernel
theorem dX11_row_97 : decode cX11_row 97 = .ok (.iconst 0, 1) := by decide +kernel
theorem dX11_row_98 : decode cX11_row 98 = .ok (.iadd, 1) := by decide +kernel
theorem dX11_row_99 : decode cX11_row 99 = .ok (.istore 6, 2) := by decide +kernel
theorem dX11_row_101 : decode cX11_row 101 = .ok (.iinc 7 1, 3) := by decide +kernel
theorem dX11_row_104 : decode cX11_row 104 = .ok (.goto (-41), 3) := by decide +kernel
theorem dX11_row_107 : decode cX11_row 107 = .ok (.iload 6, 2) := by decide +kernel
theorem dX11_row_109 : decode cX11_row 109 = .ok (.bipush 48, 2) := by decide +kernel
theorem dX11_row_111 : decode cX11_row 111 = .ok (.if_icmp .ne 5, 3) := by decide +kernel
theorem dX11_row_114 : decode cX11_row 114 = .ok (.iconst (-1), 1) := by decide +kernel
theorem dX11_row_115 : decode cX11_row 115 = .ok (.ireturn, 1) := by decide +kernel
theorem dX11_row_116 : decode cX11_row 116 = .ok (.aload_n 0, 1) := by decide +kernel
theorem dX11_row_117 : decode cX11_row 117 = .ok (.iload_n 1, 1) := by decide +kernel
theorem dX11_row_118 : decode cX11_row 118 = .ok (.iload_n 2, 1) := by decide +kernel
theorem dX11_row_119 : decode cX11_row 119 = .ok (.iload_n 3, 1) := by decide +kernel
theorem dX11_row_120 : decode cX11_row 120 = .ok (.iload 4, 2) := by decide +kernel
theorem dX11_row_122 : decode cX11_row 122 = .ok (.iload 5, 2) := by decide +kernel
theorem dX11_row_124 : decode cX11_row 124 = .ok (.invokevirtual 273, 3) := by decide +kernel
theorem dX11_row_127 : decode cX11_row 127 = .ok (.aload_n 0, 1) := by decide +kernel
theorem dX11_row_128 : decode cX11_row 128 = .ok (.getfield 108, 3) := by decide +kernel
theorem dX11_row_131 : decode cX11_row 131 = .ok (.iload_n 1, 1) := by decide +kernel
theorem dX11_row_132 : decode cX11_row 132 = .ok (.iaload, 1) := by decide +kernel
theorem dX11_row_133 : decode cX11_row 133 = .ok (.ireturn, 1) := by decide +kernel
theorem dX11_comes_0 : decode cX11_comes 0 = .ok (.aload_n 0, 1) := by decide +kernel
theorem dX11_comes_1 : decode cX11_comes 1 = .ok (.getfield 108, 3) := by decide +kernel
theorem dX11_comes_4 : decode cX11_comes 4 = .ok (.iload_n 1, 1) := by decide +kernel
theorem dX11_comes_5 : decode cX11_comes 5 = .ok (.iaload, 1) := by decide +kernel
theorem dX11_comes_6 : decode cX11_comes 6 = .ok (.istore 6, 2) := by decide +kernel
theorem dX11_comes_8 : decode cX11_comes 8 = .ok (.aload_n 0, 1) := by decide +kernel
theorem dX11_comes_9 : decode cX11_comes 9 = .ok (.getfield 105, 3) := by decide +kernel
theorem dX11_comes_12 : decode cX11_comes 12 = .ok (.sipush 4800, 3) := by decide +kernel
theorem dX11_comes_15 : decode cX11_comes 15 = .ok (.iload_n 1, 1) := by decide +kernel
theorem dX11_comes_16 : decode cX11_comes 16 = .ok (.imul, 1) := by decide +kernel
theorem dX11_comes_17 : decode cX11_comes 17 = .ok (.iload 6, 2) := by decide +kernel
theorem dX11_comes_19 : decode cX11_comes 19 = .ok (.iadd, 1) := by decide +kernel
theorem dX11_comes_20 : decode cX11_comes 20 = .ok (.iload_n 2, 1) := by decide +kernel
theorem dX11_comes_21 : decode cX11_comes 21 = .ok (.iastore, 1) := by decide +kernel
theorem dX11_comes_22 : decode cX11_comes 22 = .ok (.aload_n 0, 1) := by decide +kernel
theorem dX11_comes_23 : decode cX11_comes 23 = .ok (.getfield 102, 3) := by decide +kernel
theorem dX11_comes_26 : decode cX11_comes 26 = .ok (.sipush 14400, 3) := by decide +kernel
theorem dX11_comes_29 : decode cX11_comes 29 = .ok (.iload_n 1, 1) := by decide +kernel
theorem dX11_comes_30 : decode cX11_comes 30 = .ok (.imul, 1) := by decide +kernel
theorem dX11_comes_31 : decode cX11_comes 31 = .ok (.iconst 3, 1) := by decide +kernel
theorem dX11_comes_32 : decode cX11_comes 32 = .ok (.iload 6, 2) := by decide +kernel
theorem dX11_comes_34 : decode cX11_comes 34 = .ok (.imul, 1) := by decide +kernel
theorem dX11_comes_35 : decode cX11_comes 35 = .ok (.iadd, 1) := by decide +kernel
theorem dX11_comes_36 : decode cX11_comes 36 = .ok (.iload_n 3, 1) := by decide +kernel
theorem dX11_comes_37 : decode cX11_comes 37 = .ok (.iastore, 1) := by decide +kernel
theorem dX11_comes_38 : decode cX11_comes 38 = .ok (.aload_n 0, 1) := by decide +kernel
theorem dX11_comes_39 : decode cX11_comes 39 = .ok (.getfield 102, 3) := by decide +kernel
theorem dX11_comes_42 : decode cX11_comes 42 = .ok (.sipush 14400, 3) := by decide +kernel
theorem dX11_comes_45 : decode cX11_comes 45 = .ok (.iload_n 1, 1) := by decide +kernel
theorem dX11_comes_46 : decode cX11_comes 46 = .ok (.imul, 1) := by decide +kernel
theorem dX11_comes_47 : decode cX11_comes 47 = .ok (.iconst 3, 1) := by decide +kernel
theorem dX11_comes_48 : decode cX11_comes 48 = .ok (.iload 6, 2) := by decide +kernel
theorem dX11_comes_50 : decode cX11_comes 50 = .ok (.imul, 1) := by decide +kernel
theorem dX11_comes_51 : decode cX11_comes 51 = .ok (.iadd, 1) := by decide +kernel
theorem dX11_comes_52 : decode cX11_comes 52 = .ok (.iconst 1, 1) := by decide +kernel
theorem dX11_comes_53 : decode cX11_comes 53 = .ok (.iadd, 1) := by decide +kernel
theorem dX11_comes_54 : decode cX11_comes 54 = .ok (.iload 4, 2) := by decide +kernel
theorem dX11_comes_56 : decode cX11_comes 56 = .ok (.iastore, 1) := by decide +kernel
theorem dX11_comes_57 : decode cX11_comes 57 = .ok (.aload_n 0, 1) := by decide +kernel
theorem dX11_comes_58 : decode cX11_comes 58 = .ok (.getfield 102, 3) := by decide +kernel
theorem dX11_comes_61 : decode cX11_comes 61 = .ok (.sipush 14400, 3) := by decide +kernel
theorem dX11_comes_64 : decode cX11_comes 64 = .ok (.iload_n 1, 1) := by decide +kernel
theorem dX11_comes_65 : decode cX11_comes 65 = .ok (.imul, 1) := by decide +kernel
theorem dX11_comes_66 : decode cX11_comes 66 = .ok (.iconst 3, 1) := by decide +kernel
theorem dX11_comes_67 : decode cX11_comes 67 = .ok (.iload 6, 2) := by decide +kernel
theorem dX11_comes_69 : decode cX11_comes 69 = .ok (.imul, 1) := by decide +kernel
theorem dX11_comes_70 : decode cX11_comes 70 = .ok (.iadd, 1) := by decide +kernel
theorem dX11_comes_71 : decode cX11_comes 71 = .ok (.iconst 2, 1) := by decide +kernel
theorem dX11_comes_72 : decode cX11_comes 72 = .ok (.iadd, 1) := by decide +kernel
theorem dX11_comes_73 : decode cX11_comes 73 = .ok (.iload 5, 2) := by decide +kernel
theorem dX11_comes_75 : decode cX11_comes 75 = .ok (.iastore, 1) := by decide +kernel
theorem dX11_comes_76 : decode cX11_comes 76 = .ok (.aload_n 0, 1) := by decide +kernel
theorem dX11_comes_77 : decode cX11_comes 77 = .ok (.getfield 108, 3) := by decide +kernel
theorem dX11_comes_80 : decode cX11_comes 80 = .ok (.iload_n 1, 1) := by decide +kernel
theorem dX11_comes_81 : decode cX11_comes 81 = .ok (.dup2, 1) := by decide +kernel
theorem dX11_comes_82 : decode cX11_comes 82 = .ok (.iaload, 1) := by decide +kernel
theorem dX11_comes_83 : decode cX11_comes 83 = .ok (.iconst 1, 1) := by decide +kernel
theorem dX11_comes_84 : decode cX11_comes 84 = .ok (.iadd, 1) := by decide +kernel
theorem dX11_comes_85 : decode cX11_comes 85 = .ok (.iastore, 1) := by decide +kernel
theorem dX11_comes_86 : decode cX11_comes 86 = .ok (.return_, 1) := by decide +kernel
theorem dX11_delete_0 : decode cX11_delete 0 = .ok (.iload_n 3, 1) := by decide +kernel
theorem dX11_delete_1 : decode cX11_delete 1 = .ok (.ifCond .lt 29, 3) := by decide +kernel
theorem dX11_delete_4 : decode cX11_delete 4 = .ok (.iload_n 3, 1) := by decide +kernel
theorem dX11_delete_5 : decode cX11_delete 5 = .ok (.iconst 2, 1) := by decide +kernel
theorem dX11_delete_6 : decode cX11_delete 6 = .ok (.if_icmp .gt 24, 3) := by decide +kernel
theorem dX11_delete_9 : decode cX11_delete 9 = .ok (.iload 4, 2) := by decide +kernel
theorem dX11_delete_11 : decode cX11_delete 11 = .ok (.ifCond .lt 19, 3) := by decide +kernel
theorem dX11_delete_14 : decode cX11_delete 14 = .ok (.iload 4, 2) := by decide +kernel
theorem dX11_delete_16 : decode cX11_delete 16 = .ok (.iconst 2, 1) := by decide +kernel
theorem dX11_delete_17 : decode cX11_delete 17 = .ok (.if_icmp .gt 13, 3) := by decide +kernel
theorem dX11_delete_20 : decode cX11_delete 20 = .ok (.aload_n 0, 1) := by decide +kernel
theorem dX11_delete_21 : decode cX11_delete 21 = .ok (.iload_n 1, 1) := by decide +kernel
theorem dX11_delete_22 : decode cX11_delete 22 = .ok (.iconst 1, 1) := by decide +kernel
theorem dX11_delete_23 : decode cX11_delete 23 = .ok (.iload_n 2, 1) := by decide +kernel
theorem dX11_delete_24 : decode cX11_delete 24 = .ok (.invokevirtual 269, 3) := by decide +kernel
theorem dX11_delete_27 : decode cX11_delete 27 = .ok (.ifCond .ne 5, 3) := by decide +kernel
theorem dX11_delete_30 : decode cX11_delete 30 = .ok (.iconst 0, 1) := by decide +kernel
theorem dX11_delete_31 : decode cX11_delete 31 = .ok (.ireturn, 1) := by decide +kernel
theorem dX11_delete_32 : decode cX11_delete 32 = .ok (.aload_n 0, 1) := by decide +kernel
theorem dX11_delete_33 : decode cX11_delete 33 = .ok (.getfield 92, 3) := by decide +kernel
theorem dX11_delete_36 : decode cX11_delete 36 = .ok (.iload_n 1, 1) := by decide +kernel
theorem dX11_delete_37 : decode cX11_delete 37 = .ok (.iload_n 3, 1) := by decide +kernel
theorem dX11_delete_38 : decode cX11_delete 38 = .ok (.iastore, 1) := by decide +kernel
theorem dX11_delete_39 : decode cX11_delete 39 = .ok (.aload_n 0, 1) := by decide +kernel
theorem dX11_delete_40 : decode cX11_delete 40 = .ok (.getfield 95, 3) := by decide +kernel
theorem dX11_delete_43 : decode cX11_delete 43 = .ok (.iload_n 1, 1) := by decide +kernel
theorem dX11_delete_44 : decode cX11_delete 44 = .ok (.iload 4, 2) := by decide +kernel
theorem dX11_delete_46 : decode cX11_delete 46 = .ok (.iastore, 1) := by decide +kernel
theorem dX11_delete_47 : decode cX11_delete 47 = .ok (.aload_n 0, 1) := by decide +kernel
theorem dX11_delete_48 : decode cX11_delete 48 = .ok (.getfield 98, 3) := by decide +kernel
theorem dX11_delete_51 : decode cX11_delete 51 = .ok (.iload_n 1, 1) := by decide +kernel
theorem dX11_delete_52 : decode cX11_delete 52 = .ok (.iload 5, 2) := by decide +kernel
theorem dX11_delete_54 : decode cX11_delete 54 = .ok (.iastore, 1) := by decide +kernel
theorem dX11_delete_55 : decode cX11_delete 55 = .ok (.iconst 1, 1) := by decide +kernel
theorem dX11_delete_56 : decode cX11_delete 56 = .ok (.ireturn, 1) := by decide +kernel
theorem dX11_compact_0 : decode cX11_compact 0 = .ok (.aload_n 0, 1) := by decide +kernel
theorem dX11_compact_1 : decode cX11_compact 1 = .ok (.iload_n 1, 1) := by decide +kernel
theorem dX11_compact_2 : decode cX11_compact 2 = .ok (.iconst 2, 1) := by decide +kernel
theorem dX11_compact_3 : decode cX11_compact 3 = .ok (.iload_n 2, 1) := by decide +kernel
theorem dX11_compact_4 : decode cX11_compact 4 = .ok (.invokevirtual 269, 3) := by decide +kernel
theorem dX11_compact_7 : decode cX11_compact 7 = .ok (.ireturn, 1) := by decide +kernel
theorem dX11_isSo_0 : decode cX11_isSo 0 = .ok (.iload_n 0, 1) := by decide +kernel
theorem dX11_isSo_1 : decode cX11_isSo 1 = .ok (.ldc 206, 2) := by decide +kernel
theorem dX11_isSo_3 : decode cX11_isSo 3 = .ok (.if_icmp .eq 37, 3) := by decide +kernel
theorem dX11_isSo_6 : decode cX11_isSo 6 = .ok (.iload_n 1, 1) := by decide +kernel
theorem dX11_isSo_7 : decode cX11_isSo 7 = .ok (.ifCond .ne 11, 3) := by decide +kernel
theorem dX11_isSo_10 : decode cX11_isSo 10 = .ok (.iload_n 0, 1) := by decide +kernel
theorem dX11_isSo_11 : decode cX11_isSo 11 = .ok (.iload_n 2, 1) := by decide +kernel
theorem dX11_isSo_12 : decode cX11_isSo 12 = .ok (.if_icmp .ge 28, 3) := by decide +kernel
theorem dX11_isSo_15 : decode cX11_isSo 15 = .ok (.goto 21, 3) := by decide +kernel
theorem dX11_isSo_18 : decode cX11_isSo 18 = .ok (.iload_n 1, 1) := by decide +kernel
theorem dX11_isSo_19 : decode cX11_isSo 19 = .ok (.iconst 1, 1) := by decide +kernel
theorem dX11_isSo_20 : decode cX11_isSo 20 = .ok (.if_icmp .ne 11, 3) := by decide +kernel
theorem dX11_isSo_23 : decode cX11_isSo 23 = .ok (.iload_n 0, 1) := by decide +kernel
theorem dX11_isSo_24 : decode cX11_isSo 24 = .ok (.iload_n 2, 1) := by decide +kernel
theorem dX11_isSo_25 : decode cX11_isSo 25 = .ok (.if_icmp .lt 15, 3) := by decide +kernel
theorem dX11_isSo_28 : decode cX11_isSo 28 = .ok (.goto 8, 3) := by decide +kernel
theorem dX11_isSo_31 : decode cX11_isSo 31 = .ok (.iload_n 0, 1) := by decide +kernel
theorem dX11_isSo_32 : decode cX11_isSo 32 = .ok (.iload_n 2, 1) := by decide +kernel
theorem dX11_isSo_33 : decode cX11_isSo 33 = .ok (.if_icmp .ne 7, 3) := by decide +kernel
theorem dX11_isSo_36 : decode cX11_isSo 36 = .ok (.iconst 1, 1) := by decide +kernel
theorem dX11_isSo_37 : decode cX11_isSo 37 = .ok (.goto 4, 3) := by decide +kernel
theorem dX11_isSo_40 : decode cX11_isSo 40 = .ok (.iconst 0, 1) := by decide +kernel
theorem dX11_isSo_41 : decode cX11_isSo 41 = .ok (.ireturn, 1) := by decide +kernel
theorem dX11_mayHave_0 : decode cX11_mayHave 0 = .ok (.aload_n 0, 1) := by decide +kernel
theorem dX11_mayHave_1 : decode cX11_mayHave 1 = .ok (.getfield 37, 3) := by decide +kernel
theorem dX11_mayHave_4 : decode cX11_mayHave 4 = .ok (.iload_n 1, 1) := by decide +kernel
theorem dX11_mayHave_5 : decode cX11_mayHave 5 = .ok (.baload, 1) := by decide +kernel
theorem dX11_mayHave_6 : decode cX11_mayHave 6 = .ok (.ifCond .eq 62, 3) := by decide +kernel
theorem dX11_mayHave_9 : decode cX11_mayHave 9 = .ok (.iload_n 2, 1) := by decide +kernel
theorem dX11_mayHave_10 : decode cX11_mayHave 10 = .ok (.ifCond .ne 16, 3) := by decide +kernel
theorem dX11_mayHave_13 : decode cX11_mayHave 13 = .ok (.aload_n 0, 1) := by decide +kernel
theorem dX11_mayHave_14 : decode cX11_mayHave 14 = .ok (.getfield 41, 3) := by decide +kernel
theorem dX11_mayHave_17 : decode cX11_mayHave 17 = .ok (.iload_n 1, 1) := by decide +kernel
theorem dX11_mayHave_18 : decode cX11_mayHave 18 = .ok (.iaload, 1) := by decide +kernel
theorem dX11_mayHave_19 : decode cX11_mayHave 19 = .ok (.iload_n 3, 1) := by decide +kernel
theorem dX11_mayHave_20 : decode cX11_mayHave 20 = .ok (.if_icmp .ge 48, 3) := by decide +kernel
theorem dX11_mayHave_23 : decode cX11_mayHave 23 = .ok (.goto 41, 3) := by decide +kernel
theorem dX11_mayHave_26 : decode cX11_mayHave 26 = .ok (.iload_n 2, 1) := by decide +kernel
theorem dX11_mayHave_27 : decode cX11_mayHave 27 = .ok (.iconst 1, 1) := by decide +kernel
theorem dX11_mayHave_28 : decode cX11_mayHave 28 = .ok (.if_icmp .ne 16, 3) := by decide +kernel
theorem dX11_mayHave_31 : decode cX11_mayHave 31 = .ok (.aload_n 0, 1) := by decide +kernel
theorem dX11_mayHave_32 : decode cX11_mayHave 32 = .ok (.getfield 44, 3) := by decide +kernel
theorem dX11_mayHave_35 : decode cX11_mayHave 35 = .ok (.iload_n 1, 1) := by decide +kernel
theorem dX11_mayHave_36 : decode cX11_mayHave 36 = .ok (.iaload, 1) := by decide +kernel
theorem dX11_mayHave_37 : decode cX11_mayHave 37 = .ok (.iload_n 3, 1) := by decide +kernel
theorem dX11_mayHave_38 : decode cX11_mayHave 38 = .ok (.if_icmp .lt 30, 3) := by decide +kernel
theorem dX11_mayHave_41 : decode cX11_mayHave 41 = .ok (.goto 23, 3) := by decide +kernel
theorem dX11_mayHave_44 : decode cX11_mayHave 44 = .ok (.aload_n 0, 1) := by decide +kernel
theorem dX11_mayHave_45 : decode cX11_mayHave 45 = .ok (.getfield 41, 3) := by decide +kernel
theorem dX11_mayHave_48 : decode cX11_mayHave 48 = .ok (.iload_n 1, 1) := by decide +kernel
theorem dX11_mayHave_49 : decode cX11_mayHave 49 = .ok (.iaload, 1) := by decide +kernel
theorem dX11_mayHave_50 : decode cX11_mayHave 50 = .ok (.iload_n 3, 1) := by decide +kernel
theorem dX11_mayHave_51 : decode cX11_mayHave 51 = .ok (.if_icmp .gt 17, 3) := by decide +kernel
theorem dX11_mayHave_54 : decode cX11_mayHave 54 = .ok (.iload_n 3, 1) := by decide +kernel
theorem dX11_mayHave_55 : decode cX11_mayHave 55 = .ok (.aload_n 0, 1) := by decide +kernel
theorem dX11_mayHave_56 : decode cX11_mayHave 56 = .ok (.getfield 44, 3) := by decide +kernel
theorem dX11_mayHave_59 : decode cX11_mayHave 59 = .ok (.iload_n 1, 1) := by decide +kernel
theorem dX11_mayHave_60 : decode cX11_mayHave 60 = .ok (.iaload, 1) := by decide +kernel
theorem dX11_mayHave_61 : decode cX11_mayHave 61 = .ok (.if_icmp .gt 7, 3) := by decide +kernel
theorem dX11_mayHave_64 : decode cX11_mayHave 64 = .ok (.iconst 1, 1) := by decide +kernel
theorem dX11_mayHave_65 : decode cX11_mayHave 65 = .ok (.goto 4, 3) := by decide +kernel
theorem dX11_mayHave_68 : decode cX11_mayHave 68 = .ok (.iconst 0, 1) := by decide +kernel
theorem dX11_mayHave_69 : decode cX11_mayHave 69 = .ok (.ireturn, 1) := by decide +kernel
theorem dX11_fails_0 : decode cX11_fails 0 = .ok (.aload_n 0, 1) := by decide +kernel
theorem dX11_fails_1 : decode cX11_fails 1 = .ok (.getfield 65, 3) := by decide +kernel
theorem dX11_fails_4 : decode cX11_fails 4 = .ok (.iload_n 1, 1) := by decide +kernel
theorem dX11_fails_5 : decode cX11_fails 5 = .ok (.iconst 0, 1) := by decide +kernel
theorem dX11_fails_6 : decode cX11_fails 6 = .ok (.bastore, 1) := by decide +kernel
theorem dX11_fails_7 : decode cX11_fails 7 = .ok (.aload_n 0, 1) := by decide +kernel
theorem dX11_fails_8 : decode cX11_fails 8 = .ok (.dup, 1) := by decide +kernel
theorem dX11_fails_9 : decode cX11_fails 9 = .ok (.getfield 277, 3) := by decide +kernel
theorem dX11_fails_12 : decode cX11_fails 12 = .ok (.iconst 1, 1) := by decide +kernel
theorem dX11_fails_13 : decode cX11_fails 13 = .ok (.iadd, 1) := by decide +kernel
theorem dX11_fails_14 : decode cX11_fails 14 = .ok (.putfield 277, 3) := by decide +kernel
theorem dX11_fails_17 : decode cX11_fails 17 = .ok (.iload_n 2, 1) := by decide +kernel
theorem dX11_fails_18 : decode cX11_fails 18 = .ok (.ineg, 1) := by decide +kernel
theorem dX11_fails_19 : decode cX11_fails 19 = .ok (.ireturn, 1) := by decide +kernel
theorem dX11_adds_0 : decode cX11_adds 0 = .ok (.sipush 200, 3) := by decide +kernel
theorem dX11_adds_3 : decode cX11_adds 3 = .ok (.iload_n 1, 1) := by decide +kernel
theorem dX11_adds_4 : decode cX11_adds 4 = .ok (.imul, 1) := by decide +kernel
theorem dX11_adds_5 : decode cX11_adds 5 = .ok (.aload_n 0, 1) := by decide +kernel
theorem dX11_adds_6 : decode cX11_adds 6 = .ok (.getfield 111, 3) := by decide +kernel
theorem dX11_adds_9 : decode cX11_adds 9 = .ok (.iload_n 1, 1) := by decide +kernel
theorem dX11_adds_10 : decode cX11_adds 10 = .ok (.iaload, 1) := by decide +kernel
theorem dX11_adds_11 : decode cX11_adds 11 = .ok (.iadd, 1) := by decide +kernel
theorem dX11_adds_12 : decode cX11_adds 12 = .ok (.istore 5, 2) := by decide +kernel
theorem dX11_adds_14 : decode cX11_adds 14 = .ok (.aload_n 0, 1) := by decide +kernel
theorem dX11_adds_15 : decode cX11_adds 15 = .ok (.getfield 114, 3) := by decide +kernel
theorem dX11_adds_18 : decode cX11_adds 18 = .ok (.iload 5, 2) := by decide +kernel
theorem dX11_adds_20 : decode cX11_adds 20 = .ok (.iload_n 2, 1) := by decide +kernel
theorem dX11_adds_21 : decode cX11_adds 21 = .ok (.iastore, 1) := by decide +kernel
theorem dX11_adds_22 : decode cX11_adds 22 = .ok (.aload_n 0, 1) := by decide +kernel
theorem dX11_adds_23 : decode cX11_adds 23 = .ok (.getfield 117, 3) := by decide +kernel
theorem dX11_adds_26 : decode cX11_adds 26 = .ok (.iload 5, 2) := by decide +kernel
theorem dX11_adds_28 : decode cX11_adds 28 = .ok (.iload_n 3, 1) := by decide +kernel
theorem dX11_adds_29 : decode cX11_adds 29 = .ok (.iastore, 1) := by decide +kernel
theorem dX11_adds_30 : decode cX11_adds 30 = .ok (.aload_n 0, 1) := by decide +kernel
theorem dX11_adds_31 : decode cX11_adds 31 = .ok (.getfield 120, 3) := by decide +kernel
theorem dX11_adds_34 : decode cX11_adds 34 = .ok (.iload 5, 2) := by decide +kernel
theorem dX11_adds_36 : decode cX11_adds 36 = .ok (.iload 4, 2) := by decide +kernel
theorem dX11_adds_38 : decode cX11_adds 38 = .ok (.iastore, 1) := by decide +kernel
theorem dX11_adds_39 : decode cX11_adds 39 = .ok (.aload_n 0, 1) := by decide +kernel
theorem dX11_adds_40 : decode cX11_adds 40 = .ok (.getfield 111, 3) := by decide +kernel
theorem dX11_adds_43 : decode cX11_adds 43 = .ok (.iload_n 1, 1) := by decide +kernel
theorem dX11_adds_44 : decode cX11_adds 44 = .ok (.dup2, 1) := by decide +kernel
theorem dX11_adds_45 : decode cX11_adds 45 = .ok (.iaload, 1) := by decide +kernel
theorem dX11_adds_46 : decode cX11_adds 46 = .ok (.iconst 1, 1) := by decide +kernel
theorem dX11_adds_47 : decode cX11_adds 47 = .ok (.iadd, 1) := by decide +kernel
theorem dX11_adds_48 : decode cX11_adds 48 = .ok (.iastore, 1) := by decide +kernel
theorem dX11_adds_49 : decode cX11_adds 49 = .ok (.return_, 1) := by decide +kernel
theorem dX11_start_0 : decode cX11_start 0 = .ok (.aload_n 0, 1) := by decide +kernel
theorem dX11_start_1 : decode cX11_start 1 = .ok (.getfield 74, 3) := by decide +kernel
theorem dX11_start_4 : decode cX11_start 4 = .ok (.iload_n 1, 1) := by decide +kernel
theorem dX11_start_5 : decode cX11_start 5 = .ok (.aload_n 0, 1) := by decide +kernel
theorem dX11_start_6 : decode cX11_start 6 = .ok (.invokevirtual 251, 3) := by decide +kernel
theorem dX11_start_9 : decode cX11_start 9 = .ok (.iastore, 1) := by decide +kernel
theorem dX11_start_10 : decode cX11_start 10 = .ok (.aload_n 0, 1) := by decide +kernel
theorem dX11_start_11 : decode cX11_start 11 = .ok (.getfield 68, 3) := by decide +kernel
theorem dX11_start_14 : decode cX11_start 14 = .ok (.iload_n 1, 1) := by decide +kernel
theorem dX11_start_15 : decode cX11_start 15 = .ok (.iconst 1, 1) := by decide +kernel
theorem dX11_start_16 : decode cX11_start 16 = .ok (.bastore, 1) := by decide +kernel
theorem dX11_start_17 : decode cX11_start 17 = .ok (.aload_n 0, 1) := by decide +kernel
theorem dX11_start_18 : decode cX11_start 18 = .ok (.aload_n 0, 1) := by decide +kernel
theorem dX11_start_19 : decode cX11_start 19 = .ok (.getfield 74, 3) := by decide +kernel
theorem dX11_start_22 : decode cX11_start 22 = .ok (.iload_n 1, 1) := by decide +kernel
theorem dX11_start_23 : decode cX11_start 23 = .ok (.iaload, 1) := by decide +kernel
theorem dX11_start_24 : decode cX11_start 24 = .ok (.invokevirtual 280, 3) := by decide +kernel
theorem dX11_start_27 : decode cX11_start 27 = .ok (.ifCond .ne 10, 3) := by decide +kernel
theorem dX11_start_30 : decode cX11_start 30 = .ok (.aload_n 0, 1) := by decide +kernel
theorem dX11_start_31 : decode cX11_start 31 = .ok (.iload_n 1, 1) := by decide +kernel
theorem dX11_start_32 : decode cX11_start 32 = .ok (.iconst 4, 1) := by decide +kernel
theorem dX11_start_33 : decode cX11_start 33 = .ok (.invokevirtual 283, 3) := by decide +kernel
theorem dX11_start_36 : decode cX11_start 36 = .ok (.ireturn, 1) := by decide +kernel
theorem dX11_start_37 : decode cX11_start 37 = .ok (.aload_n 0, 1) := by decide +kernel
theorem dX11_start_38 : decode cX11_start 38 = .ok (.getfield 135, 3) := by decide +kernel
theorem dX11_start_41 : decode cX11_start 41 = .ok (.iload_n 1, 1) := by decide +kernel
theorem dX11_start_42 : decode cX11_start 42 = .ok (.aload_n 0, 1) := by decide +kernel
theorem dX11_start_43 : decode cX11_start 43 = .ok (.getfield 245, 3) := by decide +kernel
theorem dX11_start_46 : decode cX11_start 46 = .ok (.iastore, 1) := by decide +kernel
theorem dX11_start_47 : decode cX11_start 47 = .ok (.iconst 0, 1) := by decide +kernel
theorem dX11_start_48 : decode cX11_start 48 = .ok (.istore_n 2, 1) := by decide +kernel
theorem dX11_start_49 : decode cX11_start 49 = .ok (.iconst 0, 1) := by decide +kernel
theorem dX11_start_50 : decode cX11_start 50 = .ok (.istore_n 3, 1) := by decide +kernel
theorem dX11_start_51 : decode cX11_start 51 = .ok (.iload_n 3, 1) := by decide +kernel
theorem dX11_start_52 : decode cX11_start 52 = .ok (.aload_n 0, 1) := by decide +kernel
theorem dX11_start_53 : decode cX11_start 53 = .ok (.getfield 245, 3) := by decide +kernel
theorem dX11_start_56 : decode cX11_start 56 = .ok (.if_icmp .ge 72, 3) := by decide +kernel
theorem dX11_start_59 : decode cX11_start 59 = .ok (.aload_n 0, 1) := by decide +kernel
theorem dX11_start_60 : decode cX11_start 60 = .ok (.getfield 138, 3) := by decide +kernel
theorem dX11_start_63 : decode cX11_start 63 = .ok (.sipush 200, 3) := by decide +kernel
theorem dX11_start_66 : decode cX11_start 66 = .ok (.iload_n 1, 1) := by decide +kernel
theorem dX11_start_67 : decode cX11_start 67 = .ok (.imul, 1) := by decide +kernel
theorem dX11_start_68 : decode cX11_start 68 = .ok (.iload_n 3, 1) := by decide +kernel
theorem dX11_start_69 : decode cX11_start 69 = .ok (.iadd, 1) := by decide +kernel
theorem dX11_start_70 : decode cX11_start 70 = .ok (.aload_n 0, 1) := by decide +kernel
theorem dX11_start_71 : decode cX11_start 71 = .ok (.getfield 59, 3) := by decide +kernel
theorem dX11_start_74 : decode cX11_start 74 = .ok (.iload_n 3, 1) := by decide +kernel
theorem dX11_start_75 : decode cX11_start 75 = .ok (.iaload, 1) := by decide +kernel
theorem dX11_start_76 : decode cX11_start 76 = .ok (.iastore, 1) := by decide +kernel
theorem dX11_start_77 : decode cX11_start 77 = .ok (.aload_n 0, 1) := by decide +kernel
theorem dX11_start_78 : decode cX11_start 78 = .ok (.getfield 71, 3) := by decide +kernel
theorem dX11_start_81 : decode cX11_start 81 = .ok (.iload_n 1, 1) := by decide +kernel
theorem dX11_start_82 : decode cX11_start 82 = .ok (.iaload, 1) := by decide +kernel
theorem dX11_start_83 : decode cX11_start 83 = .ok (.ifCond .eq 39, 3) := by decide +kernel
theorem dX11_start_86 : decode cX11_start 86 = .ok (.aload_n 0, 1) := by decide +kernel
theorem dX11_start_87 : decode cX11_start 87 = .ok (.getfield 62, 3) := by decide +kernel
theorem dX11_start_90 : decode cX11_start 90 = .ok (.iload_n 3, 1) := by decide +kernel
theorem dX11_start_91 : decode cX11_start 91 = .ok (.iaload, 1) := by decide +kernel
theorem dX11_start_92 : decode cX11_start 92 = .ok (.aload_n 0, 1) := by decide +kernel
theorem dX11_start_93 : decode cX11_start 93 = .ok (.getfield 89, 3) := by decide +kernel
theorem dX11_start_96 : decode cX11_start 96 = .ok (.iload_n 1, 1) := by decide +kernel
theorem dX11_start_97 : decode cX11_start 97 = .ok (.iaload, 1) := by decide +kernel
theorem dX11_start_98 : decode cX11_start 98 = .ok (.if_icmp .eq 6, 3) := by decide +kernel
theorem dX11_start_101 : decode cX11_start 101 = .ok (.goto 21, 3) := by decide +kernel
theorem dX11_start_104 : decode cX11_start 104 = .ok (.iinc 2 1, 3) := by decide +kernel
theorem dX11_start_107 : decode cX11_start 107 = .ok (.aload_n 0, 1) := by decide +kernel
theorem dX11_start_108 : decode cX11_start 108 = .ok (.iload_n 3, 1) := by decide +kernel
theorem dX11_start_109 : decode cX11_start 109 = .ok (.invokevirtual 286, 3) := by decide +kernel
theorem dX11_start_112 : decode cX11_start 112 = .ok (.ifCond .ne 10, 3) := by decide +kernel
theorem dX11_start_115 : decode cX11_start 115 = .ok (.aload_n 0, 1) := by decide +kernel
theorem dX11_start_116 : decode cX11_start 116 = .ok (.iload_n 1, 1) := by decide +kernel
theorem dX11_start_117 : decode cX11_start 117 = .ok (.iconst 4, 1) := by decide +kernel
theorem dX11_start_118 : decode cX11_start 118 = .ok (.invokevirtual 283, 3) := by decide +kernel
theorem dX11_start_121 : decode cX11_start 121 = .ok (.ireturn, 1) := by decide +kernel
theorem dX11_start_122 : decode cX11_start 122 = .ok (.iinc 3 1, 3) := by decide +kernel
theorem dX11_start_125 : decode cX11_start 125 = .ok (.goto (-74), 3) := by decide +kernel
theorem dX11_start_128 : decode cX11_start 128 = .ok (.aload_n 0, 1) := by decide +kernel
theorem dX11_start_129 : decode cX11_start 129 = .ok (.getfield 71, 3) := by decide +kernel
theorem dX11_start_132 : decode cX11_start 132 = .ok (.iload_n 1, 1) := by decide +kernel
theorem dX11_start_133 : decode cX11_start 133 = .ok (.iaload, 1) := by decide +kernel
theorem dX11_start_134 : decode cX11_start 134 = .ok (.ifCond .ne 11, 3) := by decide +kernel
theorem dX11_start_137 : decode cX11_start 137 = .ok (.aload_n 0, 1) := by decide +kernel
theorem dX11_start_138 : decode cX11_start 138 = .ok (.iload_n 1, 1) := by decide +kernel
theorem dX11_start_139 : decode cX11_start 139 = .ok (.invokevirtual 289, 3) := by decide +kernel
theorem dX11_start_142 : decode cX11_start 142 = .ok (.goto 31, 3) := by decide +kernel
theorem dX11_start_145 : decode cX11_start 145 = .ok (.aload_n 0, 1) := by decide +kernel
theorem dX11_start_146 : decode cX11_start 146 = .ok (.getfield 71, 3) := by decide +kernel
theorem dX11_start_149 : decode cX11_start 149 = .ok (.iload_n 1, 1) := by decide +kernel
theorem dX11_start_150 : decode cX11_start 150 = .ok (.iaload, 1) := by decide +kernel
theorem dX11_start_151 : decode cX11_start 151 = .ok (.iconst 1, 1) := by decide +kernel
theorem dX11_start_152 : decode cX11_start 152 = .ok (.if_icmp .ne 11, 3) := by decide +kernel
theorem dX11_start_155 : decode cX11_start 155 = .ok (.aload_n 0, 1) := by decide +kernel
theorem dX11_start_156 : decode cX11_start 156 = .ok (.iload_n 1, 1) := by decide +kernel
theorem dX11_start_157 : decode cX11_start 157 = .ok (.invokevirtual 292, 3) := by decide +kernel
theorem dX11_start_160 : decode cX11_start 160 = .ok (.goto 13, 3) := by decide +kernel
theorem dX11_start_163 : decode cX11_start 163 = .ok (.iload_n 2, 1) := by decide +kernel
theorem dX11_start_164 : decode cX11_start 164 = .ok (.iconst 1, 1) := by decide +kernel
theorem dX11_start_165 : decode cX11_start 165 = .ok (.if_icmp .le 8, 3) := by decide +kernel
theorem dX11_start_168 : decode cX11_start 168 = .ok (.aload_n 0, 1) := by decide +kernel
theorem dX11_start_169 : decode cX11_start 169 = .ok (.iload_n 1, 1) := by decide +kernel
theorem dX11_start_170 : decode cX11_start 170 = .ok (.invokevirtual 295, 3) := by decide +kernel
theorem dX11_start_173 : decode cX11_start 173 = .ok (.aload_n 0, 1) := by decide +kernel
theorem dX11_start_174 : decode cX11_start 174 = .ok (.getfield 111, 3) := by decide +kernel
theorem dX11_start_177 : decode cX11_start 177 = .ok (.iload_n 1, 1) := by decide +kernel
theorem dX11_start_178 : decode cX11_start 178 = .ok (.iaload, 1) := by decide +kernel
theorem dX11_start_179 : decode cX11_start 179 = .ok (.ifCond .gt 12, 3) := by decide +kernel
theorem dX11_start_182 : decode cX11_start 182 = .ok (.aload_n 0, 1) := by decide +kernel
theorem dX11_start_183 : decode cX11_start 183 = .ok (.getfield 129, 3) := by decide +kernel
theorem dX11_start_186 : decode cX11_start 186 = .ok (.iload_n 1, 1) := by decide +kernel
theorem dX11_start_187 : decode cX11_start 187 = .ok (.iaload, 1) := by decide +kernel
theorem dX11_start_188 : decode cX11_start 188 = .ok (.ifCond .le 5, 3) := by decide +kernel
theorem dX11_start_191 : decode cX11_start 191 = .ok (.iconst 1, 1) := by decide +kernel
theorem dX11_start_192 : decode cX11_start 192 = .ok (.ireturn, 1) := by decide +kernel
theorem dX11_start_193 : decode cX11_start 193 = .ok (.aload_n 0, 1) := by decide +kernel
theorem dX11_start_194 : decode cX11_start 194 = .ok (.getfield 65, 3) := by decide +kernel
theorem dX11_start_197 : decode cX11_start 197 = .ok (.iload_n 1, 1) := by decide +kernel
theorem dX11_start_198 : decode cX11_start 198 = .ok (.iconst 0, 1) := by decide +kernel
theorem dX11_start_199 : decode cX11_start 199 = .ok (.bastore, 1) := by decide +kernel
theorem dX11_start_200 : decode cX11_start 200 = .ok (.bipush 6, 2) := by decide +kernel
theorem dX11_start_202 : decode cX11_start 202 = .ok (.ireturn, 1) := by decide +kernel
theorem dX11_startsAppend_0 : decode cX11_startsAppend 0 = .ok (.iconst 0, 1) := by decide +kernel
theorem dX11_startsAppend_1 : decode cX11_startsAppend 1 = .ok (.istore_n 2, 1) := by decide +kernel
theorem dX11_startsAppend_2 : decode cX11_startsAppend 2 = .ok (.iconst 0, 1) := by decide +kernel
theorem dX11_startsAppend_3 : decode cX11_startsAppend 3 = .ok (.istore_n 3, 1) := by decide +kernel
theorem dX11_startsAppend_4 : decode cX11_startsAppend 4 = .ok (.iload_n 3, 1) := by decide +kernel
theorem dX11_startsAppend_5 : decode cX11_startsAppend 5 = .ok (.bipush 8, 2) := by decide +kernel
theorem dX11_startsAppend_7 : decode cX11_startsAppend 7 = .ok (.if_icmp .ge 117, 3) := by decide +kernel
theorem dX11_startsAppend_10 : decode cX11_startsAppend 10 = .ok (.iload_n 2, 1) := by decide +kernel
theorem dX11_startsAppend_11 : decode cX11_startsAppend 11 = .ok (.istore 4, 2) := by decide +kernel
theorem dX11_startsAppend_13 : decode cX11_startsAppend 13 = .ok (.iconst 0, 1) := by decide +kernel
theorem dX11_startsAppend_14 : decode cX11_startsAppend 14 = .ok (.istore 5, 2) := by decide +kernel
theorem dX11_startsAppend_16 : decode cX11_startsAppend 16 = .ok (.iload 5, 2) := by decide +kernel
theorem dX11_startsAppend_18 : decode cX11_startsAppend 18 = .ok (.aload_n 0, 1) := by decide +kernel
theorem dX11_startsAppend_19 : decode cX11_startsAppend 19 = .ok (.getfield 108, 3) := by decide +kernel
theorem dX11_startsAppend_22 : decode cX11_startsAppend 22 = .ok (.iload_n 1, 1) := by decide +kernel
theorem dX11_startsAppend_23 : decode cX11_startsAppend 23 = .ok (.iaload, 1) := by decide +kernel
theorem dX11_startsAppend_24 : decode cX11_startsAppend 24 = .ok (.if_icmp .ge 76, 3) := by decide +kernel
theorem dX11_startsAppend_27 : decode cX11_startsAppend 27 = .ok (.aload_n 0, 1) := by decide +kernel
theorem dX11_startsAppend_28 : decode cX11_startsAppend 28 = .ok (.getfield 105, 3) := by decide +kernel
theorem dX11_startsAppend_31 : decode cX11_startsAppend 31 = .ok (.sipush 4800, 3) := by decide +kernel
theorem dX11_startsAppend_34 : decode cX11_startsAppend 34 = .ok (.iload_n 1, 1) := by decide +kernel
theorem dX11_startsAppend_35 : decode cX11_startsAppend 35 = .ok (.imul, 1) := by decide +kernel
theorem dX11_startsAppend_36 : decode cX11_startsAppend 36 = .ok (.iload 5, 2) := by decide +kernel
theorem dX11_startsAppend_38 : decode cX11_startsAppend 38 = .ok (.iadd, 1) := by decide +kernel
theorem dX11_startsAppend_39 : decode cX11_startsAppend 39 = .ok (.iaload, 1) := by decide +kernel
theorem dX11_startsAppend_40 : decode cX11_startsAppend 40 = .ok (.iload_n 3, 1) := by decide +kernel
theorem dX11_startsAppend_41 : decode cX11_startsAppend 41 = .ok (.if_icmp .eq 6, 3) := by decide +kernel
theorem dX11_startsAppend_44 : decode cX11_startsAppend 44 = .ok (.goto 50, 3) := by decide +kernel
theorem dX11_startsAppend_47 : decode cX11_startsAppend 47 = .ok (.iconst 0, 1) := by decide +kernel
theorem dX11_startsAppend_48 : decode cX11_startsAppend 48 = .ok (.istore 6, 2) := by decide +kernel
theorem dX11_startsAppend_50 : decode cX11_startsAppend 50 = .ok (.iload 6, 2) := by decide +kernel
theorem dX11_startsAppend_52 : decode cX11_startsAppend 52 = .ok (.iconst 3, 1) := by decide +kernel
theorem dX11_startsAppend_53 : decode cX11_startsAppend 53 = .ok (.if_icmp .ge 38, 3) := by decide +kernel
theorem dX11_startsAppend_56 : decode cX11_startsAppend 56 = .ok (.aload_n 0, 1) := by decide +kernel
theorem dX11_startsAppend_57 : decode cX11_startsAppend 57 = .ok (.getfield 141, 3) := by decide +kernel
theorem dX11_startsAppend_60 : decode cX11_startsAppend 60 = .ok (.iconst 3, 1) := by decide +kernel
theorem dX11_startsAppend_61 : decode cX11_startsAppend 61 = .ok (.iload_n 2, 1) := by decide +kernel
theorem dX11_startsAppend_62 : decode cX11_startsAppend 62 = .ok (.imul, 1) := by decide +kernel
theorem dX11_startsAppend_63 : decode cX11_startsAppend 63 = .ok (.iload 6, 2) := by decide +kernel
theorem dX11_startsAppend_65 : decode cX11_startsAppend 65 = .ok (.iadd, 1) := by decide +kernel
theorem dX11_startsAppend_66 : decode cX11_startsAppend 66 = .ok (.aload_n 0, 1) := by decide +kernel
theorem dX11_startsAppend_67 : decode cX11_startsAppend 67 = .ok (.getfield 102, 3) := by decide +kernel
theorem dX11_startsAppend_70 : decode cX11_startsAppend 70 = .ok (.sipush 14400, 3) := by decide +kernel
theorem dX11_startsAppend_73 : decode cX11_startsAppend 73 = .ok (.iload_n 1, 1) := by decide +kernel
theorem dX11_startsAppend_74 : decode cX11_startsAppend 74 = .ok (.imul, 1) := by decide +kernel
theorem dX11_startsAppend_75 : decode cX11_startsAppend 75 = .ok (.iconst 3, 1) := by decide +kernel
theorem dX11_startsAppend_76 : decode cX11_startsAppend 76 = .ok (.iload 5, 2) := by decide +kernel
theorem dX11_startsAppend_78 : decode cX11_startsAppend 78 = .ok (.imul, 1) := by decide +kernel
theorem dX11_startsAppend_79 : decode cX11_startsAppend 79 = .ok (.iadd, 1) := by decide +kernel
theorem dX11_startsAppend_80 : decode cX11_startsAppend 80 = .ok (.iload 6, 2) := by decide +kernel
theorem dX11_startsAppend_82 : decode cX11_startsAppend 82 = .ok (.iadd, 1) := by decide +kernel
theorem dX11_startsAppend_83 : decode cX11_startsAppend 83 = .ok (.iaload, 1) := by decide +kernel
theorem dX11_startsAppend_84 : decode cX11_startsAppend 84 = .ok (.iastore, 1) := by decide +kernel
theorem dX11_startsAppend_85 : decode cX11_startsAppend 85 = .ok (.iinc 6 1, 3) := by decide +kernel
theorem dX11_startsAppend_88 : decode cX11_startsAppend 88 = .ok (.goto (-38), 3) := by decide +kernel
theorem dX11_startsAppend_91 : decode cX11_startsAppend 91 = .ok (.iinc 2 1, 3) := by decide +kernel
theorem dX11_startsAppend_94 : decode cX11_startsAppend 94 = .ok (.iinc 5 1, 3) := by decide +kernel
theorem dX11_startsAppend_97 : decode cX11_startsAppend 97 = .ok (.goto (-81), 3) := by decide +kernel
theorem dX11_startsAppend_100 : decode cX11_startsAppend 100 = .ok (.iload_n 2, 1) := by decide +kernel
theorem dX11_startsAppend_101 : decode cX11_startsAppend 101 = .ok (.iload 4, 2) := by decide +kernel
theorem dX11_startsAppend_103 : decode cX11_startsAppend 103 = .ok (.if_icmp .le 15, 3) := by decide +kernel
theorem dX11_startsAppend_106 : decode cX11_startsAppend 106 = .ok (.aload_n 0, 1) := by decide +kernel
theorem dX11_startsAppend_107 : decode cX11_startsAppend 107 = .ok (.iload_n 1, 1) := by decide +kernel
theorem dX11_startsAppend_108 : decode cX11_startsAppend 108 = .ok (.iload_n 3, 1) := by decide +kernel
theorem dX11_startsAppend_109 : decode cX11_startsAppend 109 = .ok (.iload 4, 2) := by decide +kernel
theorem dX11_startsAppend_111 : decode cX11_startsAppend 111 = .ok (.iload_n 2, 1) := by decide +kernel
theorem dX11_startsAppend_112 : decode cX11_startsAppend 112 = .ok (.iload 4, 2) := by decide +kernel
theorem dX11_startsAppend_114 : decode cX11_startsAppend 114 = .ok (.isub, 1) := by decide +kernel
theorem dX11_startsAppend_115 : decode cX11_startsAppend 115 = .ok (.invokevirtual 298, 3) := by decide +kernel
theorem dX11_startsAppend_118 : decode cX11_startsAppend 118 = .ok (.iinc 3 1, 3) := by decide +kernel
theorem dX11_startsAppend_121 : decode cX11_startsAppend 121 = .ok (.goto (-117), 3) := by decide +kernel
theorem dX11_startsAppend_124 : decode cX11_startsAppend 124 = .ok (.iconst 0, 1) := by decide +kernel
theorem dX11_startsAppend_125 : decode cX11_startsAppend 125 = .ok (.istore_n 3, 1) := by decide +kernel
theorem dX11_startsAppend_126 : decode cX11_startsAppend 126 = .ok (.iload_n 3, 1) := by decide +kernel
theorem dX11_startsAppend_127 : decode cX11_startsAppend 127 = .ok (.iconst 3, 1) := by decide +kernel
theorem dX11_startsAppend_128 : decode cX11_startsAppend 128 = .ok (.iload_n 2, 1) := by decide +kernel
theorem dX11_startsAppend_129 : decode cX11_startsAppend 129 = .ok (.imul, 1) := by decide +kernel
theorem dX11_startsAppend_130 : decode cX11_startsAppend 130 = .ok (.if_icmp .ge 27, 3) := by decide +kernel
theorem dX11_startsAppend_133 : decode cX11_startsAppend 133 = .ok (.aload_n 0, 1) := by decide +kernel
theorem dX11_startsAppend_134 : decode cX11_startsAppend 134 = .ok (.getfield 102, 3) := by decide +kernel
theorem dX11_startsAppend_137 : decode cX11_startsAppend 137 = .ok (.sipush 14400, 3) := by decide +kernel
theorem dX11_startsAppend_140 : decode cX11_startsAppend 140 = .ok (.iload_n 1, 1) := by decide +kernel
theorem dX11_startsAppend_141 : decode cX11_startsAppend 141 = .ok (.imul, 1) := by decide +kernel
theorem dX11_startsAppend_142 : decode cX11_startsAppend 142 = .ok (.iload_n 3, 1) := by decide +kernel
theorem dX11_startsAppend_143 : decode cX11_startsAppend 143 = .ok (.iadd, 1) := by decide +kernel
theorem dX11_startsAppend_144 : decode cX11_startsAppend 144 = .ok (.aload_n 0, 1) := by decide +kernel
theorem dX11_startsAppend_145 : decode cX11_startsAppend 145 = .ok (.getfield 141, 3) := by decide +kernel
theorem dX11_startsAppend_148 : decode cX11_startsAppend 148 = .ok (.iload_n 3, 1) := by decide +kernel
theorem dX11_startsAppend_149 : decode cX11_startsAppend 149 = .ok (.iaload, 1) := by decide +kernel
theorem dX11_startsAppend_150 : decode cX11_startsAppend 150 = .ok (.iastore, 1) := by decide +kernel
theorem dX11_startsAppend_151 : decode cX11_startsAppend 151 = .ok (.iinc 3 1, 3) := by decide +kernel
theorem dX11_startsAppend_154 : decode cX11_startsAppend 154 = .ok (.goto (-28), 3) := by decide +kernel
theorem dX11_startsAppend_157 : decode cX11_startsAppend 157 = .ok (.return_, 1) := by decide +kernel
theorem dX11_startsDelete_0 : decode cX11_startsDelete 0 = .ok (.iconst 0, 1) := by decide +kernel
theorem dX11_startsDelete_1 : decode cX11_startsDelete 1 = .ok (.istore_n 2, 1) := by decide +kernel
theorem dX11_startsDelete_2 : decode cX11_startsDelete 2 = .ok (.iload_n 2, 1) := by decide +kernel
theorem dX11_startsDelete_3 : decode cX11_startsDelete 3 = .ok (.aload_n 0, 1) := by decide +kernel
theorem dX11_startsDelete_4 : decode cX11_startsDelete 4 = .ok (.getfield 245, 3) := by decide +kernel
theorem dX11_startsDelete_7 : decode cX11_startsDelete 7 = .ok (.if_icmp .ge 300, 3) := by decide +kernel
theorem dX11_startsDelete_10 : decode cX11_startsDelete 10 = .ok (.aload_n 0, 1) := by decide +kernel
theorem dX11_startsDelete_11 : decode cX11_startsDelete 11 = .ok (.getfield 62, 3) := by decide +kernel
theorem dX11_startsDelete_14 : decode cX11_startsDelete 14 = .ok (.iload_n 2, 1) := by decide +kernel
theorem dX11_startsDelete_15 : decode cX11_startsDelete 15 = .ok (.iaload, 1) := by decide +kernel
theorem dX11_startsDelete_16 : decode cX11_startsDelete 16 = .ok (.aload_n 0, 1) := by decide +kernel
theorem dX11_startsDelete_17 : decode cX11_startsDelete 17 = .ok (.getfield 89, 3) := by decide +kernel
theorem dX11_startsDelete_20 : decode cX11_startsDelete 20 = .ok (.iload_n 1, 1) := by decide +kernel
theorem dX11_startsDelete_21 : decode cX11_startsDelete 21 = .ok (.iaload, 1) := by decide +kernel
theorem dX11_startsDelete_22 : decode cX11_startsDelete 22 = .ok (.if_icmp .eq 6, 3) := by decide +kernel
theorem dX11_startsDelete_25 : decode cX11_startsDelete 25 = .ok (.goto 276, 3) := by decide +kernel
theorem dX11_startsDelete_28 : decode cX11_startsDelete 28 = .ok (.aload_n 0, 1) := by decide +kernel
theorem dX11_startsDelete_29 : decode cX11_startsDelete 29 = .ok (.iload_n 2, 1) := by decide +kernel
theorem dX11_startsDelete_30 : decode cX11_startsDelete 30 = .ok (.invokevirtual 286, 3) := by decide +kernel
theorem dX11_startsDelete_33 : decode cX11_startsDelete 33 = .ok (.istore_n 3, 1) := by decide +kernel
theorem dX11_startsDelete_34 : decode cX11_startsDelete 34 = .ok (.aload_n 0, 1) := by decide +kernel
theorem dX11_startsDelete_35 : decode cX11_startsDelete 35 = .ok (.aload_n 0, 1) := by decide +kernel
theorem dX11_startsDelete_36 : decode cX11_startsDelete 36 = .ok (.getfield 92, 3) := by decide +kernel
theorem dX11_startsDelete_39 : decode cX11_startsDelete 39 = .ok (.iload_n 1, 1) := by decide +kernel
theorem dX11_startsDelete_40 : decode cX11_startsDelete 40 = .ok (.iaload, 1) := by decide +kernel
theorem dX11_startsDelete_41 : decode cX11_startsDelete 41 = .ok (.aload_n 0, 1) := by decide +kernel
theorem dX11_startsDelete_42 : decode cX11_startsDelete 42 = .ok (.getfield 95, 3) := by decide +kernel
theorem dX11_startsDelete_45 : decode cX11_startsDelete 45 = .ok (.iload_n 1, 1) := by decide +kernel
theorem dX11_startsDelete_46 : decode cX11_startsDelete 46 = .ok (.iaload, 1) := by decide +kernel
theorem dX11_startsDelete_47 : decode cX11_startsDelete 47 = .ok (.aload_n 0, 1) := by decide +kernel
theorem dX11_startsDelete_48 : decode cX11_startsDelete 48 = .ok (.getfield 98, 3) := by decide +kernel
theorem dX11_startsDelete_51 : decode cX11_startsDelete 51 = .ok (.iload_n 1, 1) := by decide +kernel
theorem dX11_startsDelete_52 : decode cX11_startsDelete 52 = .ok (.iaload, 1) := by decide +kernel
theorem dX11_startsDelete_53 : decode cX11_startsDelete 53 = .ok (.invokevirtual 301, 3) := by decide +kernel
theorem dX11_startsDelete_56 : decode cX11_startsDelete 56 = .ok (.ifCond .ne 6, 3) := by decide +kernel
theorem dX11_startsDelete_59 : decode cX11_startsDelete 59 = .ok (.goto 242, 3) := by decide +kernel
theorem dX11_startsDelete_62 : decode cX11_startsDelete 62 = .ok (.iconst 0, 1) := by decide +kernel
theorem dX11_startsDelete_63 : decode cX11_startsDelete 63 = .ok (.istore 4, 2) := by decide +kernel
theorem dX11_startsDelete_65 : decode cX11_startsDelete 65 = .ok (.iconst 0, 1) := by decide +kernel
theorem dX11_startsDelete_66 : decode cX11_startsDelete 66 = .ok (.istore 5, 2) := by decide +kernel
theorem dX11_startsDelete_68 : decode cX11_startsDelete 68 = .ok (.iload 5, 2) := by decide +kernel
theorem dX11_startsDelete_70 : decode cX11_startsDelete 70 = .ok (.aload_n 0, 1) := by decide +kernel
theorem dX11_startsDelete_71 : decode cX11_startsDelete 71 = .ok (.getfield 196, 3) := by decide +kernel
theorem dX11_startsDelete_74 : decode cX11_startsDelete 74 = .ok (.if_icmp .ge 53, 3) := by decide +kernel
theorem dX11_startsDelete_77 : decode cX11_startsDelete 77 = .ok (.iload 4, 2) := by decide +kernel
theorem dX11_startsDelete_79 : decode cX11_startsDelete 79 = .ok (.aload_n 0, 1) := by decide +kernel
theorem dX11_startsDelete_80 : decode cX11_startsDelete 80 = .ok (.getfield 34, 3) := by decide +kernel
theorem dX11_startsDelete_83 : decode cX11_startsDelete 83 = .ok (.iconst 3, 1) := by decide +kernel
theorem dX11_startsDelete_84 : decode cX11_startsDelete 84 = .ok (.iload 5, 2) := by decide +kernel
theorem dX11_startsDelete_86 : decode cX11_startsDelete 86 = .ok (.imul, 1) := by decide +kernel
theorem dX11_startsDelete_87 : decode cX11_startsDelete 87 = .ok (.aload_n 0, 1) := by decide +kernel
theorem dX11_startsDelete_88 : decode cX11_startsDelete 88 = .ok (.getfield 92, 3) := by decide +kernel
theorem dX11_startsDelete_91 : decode cX11_startsDelete 91 = .ok (.iload_n 1, 1) := by decide +kernel
theorem dX11_startsDelete_92 : decode cX11_startsDelete 92 = .ok (.iaload, 1) := by decide +kernel
theorem dX11_startsDelete_93 : decode cX11_startsDelete 93 = .ok (.iadd, 1) := by decide +kernel
theorem dX11_startsDelete_94 : decode cX11_startsDelete 94 = .ok (.iaload, 1) := by decide +kernel
theorem dX11_startsDelete_95 : decode cX11_startsDelete 95 = .ok (.aload_n 0, 1) := by decide +kernel
theorem dX11_startsDelete_96 : decode cX11_startsDelete 96 = .ok (.getfield 95, 3) := by decide +kernel
theorem dX11_startsDelete_99 : decode cX11_startsDelete 99 = .ok (.iload_n 1, 1) := by decide +kernel
theorem dX11_startsDelete_100 : decode cX11_startsDelete 100 = .ok (.iaload, 1) := by decide +kernel
theorem dX11_startsDelete_101 : decode cX11_startsDelete 101 = .ok (.aload_n 0, 1) := by decide +kernel
theorem dX11_startsDelete_102 : decode cX11_startsDelete 102 = .ok (.getfield 98, 3) := by decide +kernel
theorem dX11_startsDelete_105 : decode cX11_startsDelete 105 = .ok (.iload_n 1, 1) := by decide +kernel
theorem dX11_startsDelete_106 : decode cX11_startsDelete 106 = .ok (.iaload, 1) := by decide +kernel
theorem dX11_startsDelete_107 : decode cX11_startsDelete 107 = .ok (.invokestatic 304, 3) := by decide +kernel
theorem dX11_startsDelete_110 : decode cX11_startsDelete 110 = .ok (.ifCond .eq 7, 3) := by decide +kernel
theorem dX11_startsDelete_113 : decode cX11_startsDelete 113 = .ok (.iconst 1, 1) := by decide +kernel
theorem dX11_startsDelete_114 : decode cX11_startsDelete 114 = .ok (.goto 4, 3) := by decide +kernel
theorem dX11_startsDelete_117 : decode cX11_startsDelete 117 = .ok (.iconst 0, 1) := by decide +kernel
theorem dX11_startsDelete_118 : decode cX11_startsDelete 118 = .ok (.iadd, 1) := by decide +kernel
theorem dX11_startsDelete_119 : decode cX11_startsDelete 119 = .ok (.istore 4, 2) := by decide +kernel
theorem dX11_startsDelete_121 : decode cX11_startsDelete 121 = .ok (.iinc 5 1, 3) := by decide +kernel
theorem dX11_startsDelete_124 : decode cX11_startsDelete 124 = .ok (.goto (-56), 3) := by decide +kernel
theorem dX11_startsDelete_127 : decode cX11_startsDelete 127 = .ok (.iload 4, 2) := by decide +kernel
theorem dX11_startsDelete_129 : decode cX11_startsDelete 129 = .ok (.ifCond .ne 6, 3) := by decide +kernel
theorem dX11_startsDelete_132 : decode cX11_startsDelete 132 = .ok (.goto 169, 3) := by decide +kernel
theorem dX11_startsDelete_135 : decode cX11_startsDelete 135 = .ok (.aload_n 0, 1) := by decide +kernel
theorem dX11_startsDelete_136 : decode cX11_startsDelete 136 = .ok (.getfield 132, 3) := by decide +kernel
theorem dX11_startsDelete_139 : decode cX11_startsDelete 139 = .ok (.sipush 200, 3) := by decide +kernel
theorem dX11_startsDelete_142 : decode cX11_startsDelete 142 = .ok (.iload_n 1, 1) := by decide +kernel
theorem dX11_startsDelete_143 : decode cX11_startsDelete 143 = .ok (.imul, 1) := by decide +kernel
theorem dX11_startsDelete_144 : decode cX11_startsDelete 144 = .ok (.aload_n 0, 1) := by decide +kernel
theorem dX11_startsDelete_145 : decode cX11_startsDelete 145 = .ok (.getfield 129, 3) := by decide +kernel
theorem dX11_startsDelete_148 : decode cX11_startsDelete 148 = .ok (.iload_n 1, 1) := by decide +kernel
theorem dX11_startsDelete_149 : decode cX11_startsDelete 149 = .ok (.iaload, 1) := by decide +kernel
theorem dX11_startsDelete_150 : decode cX11_startsDelete 150 = .ok (.iadd, 1) := by decide +kernel
theorem dX11_startsDelete_151 : decode cX11_startsDelete 151 = .ok (.aload_n 0, 1) := by decide +kernel
theorem dX11_startsDelete_152 : decode cX11_startsDelete 152 = .ok (.getfield 59, 3) := by decide +kernel
theorem dX11_startsDelete_155 : decode cX11_startsDelete 155 = .ok (.iload_n 2, 1) := by decide +kernel
theorem dX11_startsDelete_156 : decode cX11_startsDelete 156 = .ok (.iaload, 1) := by decide +kernel
theorem dX11_startsDelete_157 : decode cX11_startsDelete 157 = .ok (.iastore, 1) := by decide +kernel
theorem dX11_startsDelete_158 : decode cX11_startsDelete 158 = .ok (.aload_n 0, 1) := by decide +kernel
theorem dX11_startsDelete_159 : decode cX11_startsDelete 159 = .ok (.getfield 129, 3) := by decide +kernel
theorem dX11_startsDelete_162 : decode cX11_startsDelete 162 = .ok (.iload_n 1, 1) := by decide +kernel
theorem dX11_startsDelete_163 : decode cX11_startsDelete 163 = .ok (.dup2, 1) := by decide +kernel
theorem dX11_startsDelete_164 : decode cX11_startsDelete 164 = .ok (.iaload, 1) := by decide +kernel
theorem dX11_startsDelete_165 : decode cX11_startsDelete 165 = .ok (.iconst 1, 1) := by decide +kernel
theorem dX11_startsDelete_166 : decode cX11_startsDelete 166 = .ok (.iadd, 1) := by decide +kernel
theorem dX11_startsDelete_167 : decode cX11_startsDelete 167 = .ok (.iastore, 1) := by decide +kernel
theorem dX11_startsDelete_168 : decode cX11_startsDelete 168 = .ok (.aload_n 0, 1) := by decide +kernel
theorem dX11_startsDelete_169 : decode cX11_startsDelete 169 = .ok (.getfield 108, 3) := by decide +kernel
theorem dX11_startsDelete_172 : decode cX11_startsDelete 172 = .ok (.iload_n 1, 1) := by decide +kernel
theorem dX11_startsDelete_173 : decode cX11_startsDelete 173 = .ok (.iaload, 1) := by decide +kernel
theorem dX11_startsDelete_174 : decode cX11_startsDelete 174 = .ok (.istore 5, 2) := by decide +kernel
theorem dX11_startsDelete_176 : decode cX11_startsDelete 176 = .ok (.iconst 0, 1) := by decide +kernel
theorem dX11_startsDelete_177 : decode cX11_startsDelete 177 = .ok (.istore 6, 2) := by decide +kernel
theorem dX11_startsDelete_179 : decode cX11_startsDelete 179 = .ok (.iload 6, 2) := by decide +kernel
theorem dX11_startsDelete_181 : decode cX11_startsDelete 181 = .ok (.aload_n 0, 1) := by decide +kernel
theorem dX11_startsDelete_182 : decode cX11_startsDelete 182 = .ok (.getfield 196, 3) := by decide +kernel
theorem dX11_startsDelete_185 : decode cX11_startsDelete 185 = .ok (.if_icmp .ge 83, 3) := by decide +kernel
theorem dX11_startsDelete_188 : decode cX11_startsDelete 188 = .ok (.aload_n 0, 1) := by decide +kernel
theorem dX11_startsDelete_189 : decode cX11_startsDelete 189 = .ok (.getfield 34, 3) := by decide +kernel
theorem dX11_startsDelete_192 : decode cX11_startsDelete 192 = .ok (.iconst 3, 1) := by decide +kernel
theorem dX11_startsDelete_193 : decode cX11_startsDelete 193 = .ok (.iload 6, 2) := by decide +kernel
theorem dX11_startsDelete_195 : decode cX11_startsDelete 195 = .ok (.imul, 1) := by decide +kernel
theorem dX11_startsDelete_196 : decode cX11_startsDelete 196 = .ok (.aload_n 0, 1) := by decide +kernel
theorem dX11_startsDelete_197 : decode cX11_startsDelete 197 = .ok (.getfield 92, 3) := by decide +kernel
theorem dX11_startsDelete_200 : decode cX11_startsDelete 200 = .ok (.iload_n 1, 1) := by decide +kernel
theorem dX11_startsDelete_201 : decode cX11_startsDelete 201 = .ok (.iaload, 1) := by decide +kernel
theorem dX11_startsDelete_202 : decode cX11_startsDelete 202 = .ok (.iadd, 1) := by decide +kernel
theorem dX11_startsDelete_203 : decode cX11_startsDelete 203 = .ok (.iaload, 1) := by decide +kernel
theorem dX11_startsDelete_204 : decode cX11_startsDelete 204 = .ok (.aload_n 0, 1) := by decide +kernel
theorem dX11_startsDelete_205 : decode cX11_startsDelete 205 = .ok (.getfield 95, 3) := by decide +kernel
theorem dX11_startsDelete_208 : decode cX11_startsDelete 208 = .ok (.iload_n 1, 1) := by decide +kernel
theorem dX11_startsDelete_209 : decode cX11_startsDelete 209 = .ok (.iaload, 1) := by decide +kernel
theorem dX11_startsDelete_210 : decode cX11_startsDelete 210 = .ok (.aload_n 0, 1) := by decide +kernel
theorem dX11_startsDelete_211 : decode cX11_startsDelete 211 = .ok (.getfield 98, 3) := by decide +kernel
theorem dX11_startsDelete_214 : decode cX11_startsDelete 214 = .ok (.iload_n 1, 1) := by decide +kernel
theorem dX11_startsDelete_215 : decode cX11_startsDelete 215 = .ok (.iaload, 1) := by decide +kernel
theorem dX11_startsDelete_216 : decode cX11_startsDelete 216 = .ok (.invokestatic 304, 3) := by decide +kernel
theorem dX11_startsDelete_219 : decode cX11_startsDelete 219 = .ok (.ifCond .ne 43, 3) := by decide +kernel
theorem dX11_startsDelete_222 : decode cX11_startsDelete 222 = .ok (.aload_n 0, 1) := by decide +kernel
theorem dX11_startsDelete_223 : decode cX11_startsDelete 223 = .ok (.iload_n 1, 1) := by decide +kernel
theorem dX11_startsDelete_224 : decode cX11_startsDelete 224 = .ok (.aload_n 0, 1) := by decide +kernel
theorem dX11_startsDelete_225 : decode cX11_startsDelete 225 = .ok (.getfield 193, 3) := by decide +kernel
theorem dX11_startsDelete_228 : decode cX11_startsDelete 228 = .ok (.aload_n 0, 1) := by decide +kernel
theorem dX11_startsDelete_229 : decode cX11_startsDelete 229 = .ok (.getfield 34, 3) := by decide +kernel
theorem dX11_startsDelete_232 : decode cX11_startsDelete 232 = .ok (.iconst 3, 1) := by decide +kernel
theorem dX11_startsDelete_233 : decode cX11_startsDelete 233 = .ok (.iload 6, 2) := by decide +kernel
theorem dX11_startsDelete_235 : decode cX11_startsDelete 235 = .ok (.imul, 1) := by decide +kernel
theorem dX11_startsDelete_236 : decode cX11_startsDelete 236 = .ok (.iaload, 1) := by decide +kernel
theorem dX11_startsDelete_237 : decode cX11_startsDelete 237 = .ok (.aload_n 0, 1) := by decide +kernel
theorem dX11_startsDelete_238 : decode cX11_startsDelete 238 = .ok (.getfield 34, 3) := by decide +kernel
theorem dX11_startsDelete_241 : decode cX11_startsDelete 241 = .ok (.iconst 3, 1) := by decide +kernel
theorem dX11_startsDelete_242 : decode cX11_startsDelete 242 = .ok (.iload 6, 2) := by decide +kernel
theorem dX11_startsDelete_244 : decode cX11_startsDelete 244 = .ok (.imul, 1) := by decide +kernel
theorem dX11_startsDelete_245 : decode cX11_startsDelete 245 = .ok (.iconst 1, 1) := by decide +kernel
theorem dX11_startsDelete_246 : decode cX11_startsDelete 246 = .ok (.iadd, 1) := by decide +kernel
theorem dX11_startsDelete_247 : decode cX11_startsDelete 247 = .ok (.iaload, 1) := by decide +kernel
theorem dX11_startsDelete_248 : decode cX11_startsDelete 248 = .ok (.aload_n 0, 1) := by decide +kernel
theorem dX11_startsDelete_249 : decode cX11_startsDelete 249 = .ok (.getfield 34, 3) := by decide +kernel
theorem dX11_startsDelete_252 : decode cX11_startsDelete 252 = .ok (.iconst 3, 1) := by decide +kernel
theorem dX11_startsDelete_253 : decode cX11_startsDelete 253 = .ok (.iload 6, 2) := by decide +kernel
theorem dX11_startsDelete_255 : decode cX11_startsDelete 255 = .ok (.imul, 1) := by decide +kernel
theorem dX11_startsDelete_256 : decode cX11_startsDelete 256 = .ok (.iconst 2, 1) := by decide +kernel
theorem dX11_startsDelete_257 : decode cX11_startsDelete 257 = .ok (.iadd, 1) := by decide +kernel
theorem dX11_startsDelete_258 : decode cX11_startsDelete 258 = .ok (.iaload, 1) := by decide +kernel
theorem dX11_startsDelete_259 : decode cX11_startsDelete 259 = .ok (.invokevirtual 273, 3) := by decide +kernel
theorem dX11_startsDelete_262 : decode cX11_startsDelete 262 = .ok (.iinc 6 1, 3) := by decide +kernel
theorem dX11_startsDelete_265 : decode cX11_startsDelete 265 = .ok (.goto (-86), 3) := by decide +kernel
theorem dX11_startsDelete_268 : decode cX11_startsDelete 268 = .ok (.aload_n 0, 1) := by decide +kernel
theorem dX11_startsDelete_269 : decode cX11_startsDelete 269 = .ok (.getfield 108, 3) := by decide +kernel
theorem dX11_startsDelete_272 : decode cX11_startsDelete 272 = .ok (.iload_n 1, 1) := by decide +kernel
theorem dX11_startsDelete_273 : decode cX11_startsDelete 273 = .ok (.iaload, 1) := by decide +kernel
theorem dX11_startsDelete_274 : decode cX11_startsDelete 274 = .ok (.iload 5, 2) := by decide +kernel
theorem dX11_startsDelete_276 : decode cX11_startsDelete 276 = .ok (.if_icmp .le 25, 3) := by decide +kernel
theorem dX11_startsDelete_279 : decode cX11_startsDelete 279 = .ok (.aload_n 0, 1) := by decide +kernel
theorem dX11_startsDelete_280 : decode cX11_startsDelete 280 = .ok (.iload_n 1, 1) := by decide +kernel
theorem dX11_startsDelete_281 : decode cX11_startsDelete 281 = .ok (.aload_n 0, 1) := by decide +kernel
theorem dX11_startsDelete_282 : decode cX11_startsDelete 282 = .ok (.getfield 89, 3) := by decide +kernel
theorem dX11_startsDelete_285 : decode cX11_startsDelete 285 = .ok (.iload_n 1, 1) := by decide +kernel
theorem dX11_startsDelete_286 : decode cX11_startsDelete 286 = .ok (.iaload, 1) := by decide +kernel
theorem dX11_startsDelete_287 : decode cX11_startsDelete 287 = .ok (.iload 5, 2) := by decide +kernel
theorem dX11_startsDelete_289 : decode cX11_startsDelete 289 = .ok (.aload_n 0, 1) := by decide +kernel
theorem dX11_startsDelete_290 : decode cX11_startsDelete 290 = .ok (.getfield 108, 3) := by decide +kernel
theorem dX11_startsDelete_293 : decode cX11_startsDelete 293 = .ok (.iload_n 1, 1) := by decide +kernel
theorem dX11_startsDelete_294 : decode cX11_startsDelete 294 = .ok (.iaload, 1) := by decide +kernel
theorem dX11_startsDelete_295 : decode cX11_startsDelete 295 = .ok (.iload 5, 2) := by decide +kernel
theorem dX11_startsDelete_297 : decode cX11_startsDelete 297 = .ok (.isub, 1) := by decide +kernel
theorem dX11_startsDelete_298 : decode cX11_startsDelete 298 = .ok (.invokevirtual 298, 3) := by decide +kernel
theorem dX11_startsDelete_301 : decode cX11_startsDelete 301 = .ok (.iinc 2 1, 3) := by decide +kernel
theorem dX11_startsDelete_304 : decode cX11_startsDelete 304 = .ok (.goto (-302), 3) := by decide +kernel
theorem dX11_startsDelete_307 : decode cX11_startsDelete 307 = .ok (.return_, 1) := by decide +kernel
theorem dX11_startsCompact_0 : decode cX11_startsCompact 0 = .ok (.iconst 0, 1) := by decide +kernel
theorem dX11_startsCompact_1 : decode cX11_startsCompact 1 = .ok (.istore_n 2, 1) := by decide +kernel
theorem dX11_startsCompact_2 : decode cX11_startsCompact 2 = .ok (.iload_n 2, 1) := by decide +kernel
theorem dX11_startsCompact_3 : decode cX11_startsCompact 3 = .ok (.aload_n 0, 1) := by decide +kernel
theorem dX11_startsCompact_4 : decode cX11_startsCompact 4 = .ok (.getfield 245, 3) := by decide +kernel
theorem dX11_startsCompact_7 : decode cX11_startsCompact 7 = .ok (.if_icmp .ge 124, 3) := by decide +kernel
theorem dX11_startsCompact_10 : decode cX11_startsCompact 10 = .ok (.aload_n 0, 1) := by decide +kernel
theorem dX11_startsCompact_11 : decode cX11_startsCompact 11 = .ok (.getfield 62, 3) := by decide +kernel
theorem dX11_startsCompact_14 : decode cX11_startsCompact 14 = .ok (.iload_n 2, 1) := by decide +kernel
theorem dX11_startsCompact_15 : decode cX11_startsCompact 15 = .ok (.iaload, 1) := by decide +kernel
theorem dX11_startsCompact_16 : decode cX11_startsCompact 16 = .ok (.aload_n 0, 1) := by decide +kernel
theorem dX11_startsCompact_17 : decode cX11_startsCompact 17 = .ok (.getfield 89, 3) := by decide +kernel
theorem dX11_startsCompact_20 : decode cX11_startsCompact 20 = .ok (.iload_n 1, 1) := by decide +kernel
theorem dX11_startsCompact_21 : decode cX11_startsCompact 21 = .ok (.iaload, 1) := by decide +kernel
theorem dX11_startsCompact_22 : decode cX11_startsCompact 22 = .ok (.if_icmp .eq 6, 3) := by decide +kernel
theorem dX11_startsCompact_25 : decode cX11_startsCompact 25 = .ok (.goto 100, 3) := by decide +kernel
theorem dX11_startsCompact_28 : decode cX11_startsCompact 28 = .ok (.aload_n 0, 1) := by decide +kernel
theorem dX11_startsCompact_29 : decode cX11_startsCompact 29 = .ok (.iload_n 2, 1) := by decide +kernel
theorem dX11_startsCompact_30 : decode cX11_startsCompact 30 = .ok (.invokevirtual 286, 3) := by decide +kernel
theorem dX11_startsCompact_33 : decode cX11_startsCompact 33 = .ok (.istore_n 3, 1) := by decide +kernel
theorem dX11_startsCompact_34 : decode cX11_startsCompact 34 = .ok (.aload_n 0, 1) := by decide +kernel
theorem dX11_startsCompact_35 : decode cX11_startsCompact 35 = .ok (.getfield 132, 3) := by decide +kernel
theorem dX11_startsCompact_38 : decode cX11_startsCompact 38 = .ok (.sipush 200, 3) := by decide +kernel
theorem dX11_startsCompact_41 : decode cX11_startsCompact 41 = .ok (.iload_n 1, 1) := by decide +kernel
theorem dX11_startsCompact_42 : decode cX11_startsCompact 42 = .ok (.imul, 1) := by decide +kernel
theorem dX11_startsCompact_43 : decode cX11_startsCompact 43 = .ok (.aload_n 0, 1) := by decide +kernel
theorem dX11_startsCompact_44 : decode cX11_startsCompact 44 = .ok (.getfield 129, 3) := by decide +kernel
theorem dX11_startsCompact_47 : decode cX11_startsCompact 47 = .ok (.iload_n 1, 1) := by decide +kernel
theorem dX11_startsCompact_48 : decode cX11_startsCompact 48 = .ok (.iaload, 1) := by decide +kernel
theorem dX11_startsCompact_49 : decode cX11_startsCompact 49 = .ok (.iadd, 1) := by decide +kernel
theorem dX11_startsCompact_50 : decode cX11_startsCompact 50 = .ok (.aload_n 0, 1) := by decide +kernel
theorem dX11_startsCompact_51 : decode cX11_startsCompact 51 = .ok (.getfield 59, 3) := by decide +kernel
theorem dX11_startsCompact_54 : decode cX11_startsCompact 54 = .ok (.iload_n 2, 1) := by decide +kernel
theorem dX11_startsCompact_55 : decode cX11_startsCompact 55 = .ok (.iaload, 1) := by decide +kernel
theorem dX11_startsCompact_56 : decode cX11_startsCompact 56 = .ok (.iastore, 1) := by decide +kernel
theorem dX11_startsCompact_57 : decode cX11_startsCompact 57 = .ok (.aload_n 0, 1) := by decide +kernel
theorem dX11_startsCompact_58 : decode cX11_startsCompact 58 = .ok (.getfield 129, 3) := by decide +kernel
theorem dX11_startsCompact_61 : decode cX11_startsCompact 61 = .ok (.iload_n 1, 1) := by decide +kernel
theorem dX11_startsCompact_62 : decode cX11_startsCompact 62 = .ok (.dup2, 1) := by decide +kernel
theorem dX11_startsCompact_63 : decode cX11_startsCompact 63 = .ok (.iaload, 1) := by decide +kernel
theorem dX11_startsCompact_64 : decode cX11_startsCompact 64 = .ok (.iconst 1, 1) := by decide +kernel
theorem dX11_startsCompact_65 : decode cX11_startsCompact 65 = .ok (.iadd, 1) := by decide +kernel
theorem dX11_startsCompact_66 : decode cX11_startsCompact 66 = .ok (.iastore, 1) := by decide +kernel
theorem dX11_startsCompact_67 : decode cX11_startsCompact 67 = .ok (.iconst 0, 1) := by decide +kernel
theorem dX11_startsCompact_68 : decode cX11_startsCompact 68 = .ok (.istore 4, 2) := by decide +kernel
theorem dX11_startsCompact_70 : decode cX11_startsCompact 70 = .ok (.iload 4, 2) := by decide +kernel
theorem dX11_startsCompact_72 : decode cX11_startsCompact 72 = .ok (.aload_n 0, 1) := by decide +kernel
theorem dX11_startsCompact_73 : decode cX11_startsCompact 73 = .ok (.getfield 196, 3) := by decide +kernel
theorem dX11_startsCompact_76 : decode cX11_startsCompact 76 = .ok (.if_icmp .ge 49, 3) := by decide +kernel
theorem dX11_startsCompact_79 : decode cX11_startsCompact 79 = .ok (.aload_n 0, 1) := by decide +kernel
theorem dX11_startsCompact_80 : decode cX11_startsCompact 80 = .ok (.iload_n 1, 1) := by decide +kernel
theorem dX11_startsCompact_81 : decode cX11_startsCompact 81 = .ok (.aload_n 0, 1) := by decide +kernel
theorem dX11_startsCompact_82 : decode cX11_startsCompact 82 = .ok (.getfield 193, 3) := by decide +kernel
theorem dX11_startsCompact_85 : decode cX11_startsCompact 85 = .ok (.aload_n 0, 1) := by decide +kernel
theorem dX11_startsCompact_86 : decode cX11_startsCompact 86 = .ok (.getfield 34, 3) := by decide +kernel
theorem dX11_startsCompact_89 : decode cX11_startsCompact 89 = .ok (.iconst 3, 1) := by decide +kernel
theorem dX11_startsCompact_90 : decode cX11_startsCompact 90 = .ok (.iload 4, 2) := by decide +kernel
theorem dX11_startsCompact_92 : decode cX11_startsCompact 92 = .ok (.imul, 1) := by decide +kernel
theorem dX11_startsCompact_93 : decode cX11_startsCompact 93 = .ok (.iaload, 1) := by decide +kernel
theorem dX11_startsCompact_94 : decode cX11_startsCompact 94 = .ok (.aload_n 0, 1) := by decide +kernel
theorem dX11_startsCompact_95 : decode cX11_startsCompact 95 = .ok (.getfield 34, 3) := by decide +kernel
theorem dX11_startsCompact_98 : decode cX11_startsCompact 98 = .ok (.iconst 3, 1) := by decide +kernel
theorem dX11_startsCompact_99 : decode cX11_startsCompact 99 = .ok (.iload 4, 2) := by decide +kernel
theorem dX11_startsCompact_101 : decode cX11_startsCompact 101 = .ok (.imul, 1) := by decide +kernel
theorem dX11_startsCompact_102 : decode cX11_startsCompact 102 = .ok (.iconst 1, 1) := by decide +kernel
theorem dX11_startsCompact_103 : decode cX11_startsCompact 103 = .ok (.iadd, 1) := by decide +kernel
theorem dX11_startsCompact_104 : decode cX11_startsCompact 104 = .ok (.iaload, 1) := by decide +kernel
theorem dX11_startsCompact_105 : decode cX11_startsCompact 105 = .ok (.aload_n 0, 1) := by decide +kernel
theorem dX11_startsCompact_106 : decode cX11_startsCompact 106 = .ok (.getfield 34, 3) := by decide +kernel
theorem dX11_startsCompact_109 : decode cX11_startsCompact 109 = .ok (.iconst 3, 1) := by decide +kernel
theorem dX11_startsCompact_110 : decode cX11_startsCompact 110 = .ok (.iload 4, 2) := by decide +kernel
theorem dX11_startsCompact_112 : decode cX11_startsCompact 112 = .ok (.imul, 1) := by decide +kernel
theorem dX11_startsCompact_113 : decode cX11_startsCompact 113 = .ok (.iconst 2, 1) := by decide +kernel
theorem dX11_startsCompact_114 : decode cX11_startsCompact 114 = .ok (.iadd, 1) := by decide +kernel
theorem dX11_startsCompact_115 : decode cX11_startsCompact 115 = .ok (.iaload, 1) := by decide +kernel
theorem dX11_startsCompact_116 : decode cX11_startsCompact 116 = .ok (.invokevirtual 273, 3) := by decide +kernel
theorem dX11_startsCompact_119 : decode cX11_startsCompact 119 = .ok (.iinc 4 1, 3) := by decide +kernel
theorem dX11_startsCompact_122 : decode cX11_startsCompact 122 = .ok (.goto (-52), 3) := by decide +kernel
theorem dX11_startsCompact_125 : decode cX11_startsCompact 125 = .ok (.iinc 2 1, 3) := by decide +kernel
theorem dX11_startsCompact_128 : decode cX11_startsCompact 128 = .ok (.goto (-126), 3) := by decide +kernel
theorem dX11_startsCompact_131 : decode cX11_startsCompact 131 = .ok (.iconst 0, 1) := by decide +kernel
theorem dX11_startsCompact_132 : decode cX11_startsCompact 132 = .ok (.istore_n 2, 1) := by decide +kernel
theorem dX11_startsCompact_133 : decode cX11_startsCompact 133 = .ok (.iload_n 2, 1) := by decide +kernel
theorem dX11_startsCompact_134 : decode cX11_startsCompact 134 = .ok (.aload_n 0, 1) := by decide +kernel
theorem dX11_startsCompact_135 : decode cX11_startsCompact 135 = .ok (.getfield 108, 3) := by decide +kernel
theorem dX11_startsCompact_138 : decode cX11_startsCompact 138 = .ok (.iload_n 1, 1) := by decide +kernel
theorem dX11_startsCompact_139 : decode cX11_startsCompact 139 = .ok (.iaload, 1) := by decide +kernel
theorem dX11_startsCompact_140 : decode cX11_startsCompact 140 = .ok (.if_icmp .ge 47, 3) := by decide +kernel
theorem dX11_startsCompact_143 : decode cX11_startsCompact 143 = .ok (.aload_n 0, 1) := by decide +kernel
theorem dX11_startsCompact_144 : decode cX11_startsCompact 144 = .ok (.iload_n 1, 1) := by decide +kernel
theorem dX11_startsCompact_145 : decode cX11_startsCompact 145 = .ok (.aload_n 0, 1) := by decide +kernel
theorem dX11_startsCompact_146 : decode cX11_startsCompact 146 = .ok (.getfield 89, 3) := by decide +kernel
theorem dX11_startsCompact_149 : decode cX11_startsCompact 149 = .ok (.iload_n 1, 1) := by decide +kernel
theorem dX11_startsCompact_150 : decode cX11_startsCompact 150 = .ok (.iaload, 1) := by decide +kernel
theorem dX11_startsCompact_151 : decode cX11_startsCompact 151 = .ok (.iload_n 2, 1) := by decide +kernel
theorem dX11_startsCompact_152 : decode cX11_startsCompact 152 = .ok (.aload_n 0, 1) := by decide +kernel
theorem dX11_startsCompact_153 : decode cX11_startsCompact 153 = .ok (.getfield 108, 3) := by decide +kernel
theorem dX11_startsCompact_156 : decode cX11_startsCompact 156 = .ok (.iload_n 1, 1) := by decide +kernel
theorem dX11_startsCompact_157 : decode cX11_startsCompact 157 = .ok (.iaload, 1) := by decide +kernel
theorem dX11_startsCompact_158 : decode cX11_startsCompact 158 = .ok (.iload_n 2, 1) := by decide +kernel
theorem dX11_startsCompact_159 : decode cX11_startsCompact 159 = .ok (.isub, 1) := by decide +kernel
theorem dX11_startsCompact_160 : decode cX11_startsCompact 160 = .ok (.bipush 48, 2) := by decide +kernel
theorem dX11_startsCompact_162 : decode cX11_startsCompact 162 = .ok (.if_icmp .ge 14, 3) := by decide +kernel
theorem dX11_startsCompact_165 : decode cX11_startsCompact 165 = .ok (.aload_n 0, 1) := by decide +kernel
theorem dX11_startsCompact_166 : decode cX11_startsCompact 166 = .ok (.getfield 108, 3) := by decide +kernel
theorem dX11_startsCompact_169 : decode cX11_startsCompact 169 = .ok (.iload_n 1, 1) := by decide +kernel
theorem dX11_startsCompact_170 : decode cX11_startsCompact 170 = .ok (.iaload, 1) := by decide +kernel
theorem dX11_startsCompact_171 : decode cX11_startsCompact 171 = .ok (.iload_n 2, 1) := by decide +kernel
theorem dX11_startsCompact_172 : decode cX11_startsCompact 172 = .ok (.isub, 1) := by decide +kernel
theorem dX11_startsCompact_173 : decode cX11_startsCompact 173 = .ok (.goto 5, 3) := by decide +kernel
theorem dX11_startsCompact_176 : decode cX11_startsCompact 176 = .ok (.bipush 48, 2) := by decide +kernel
theorem dX11_startsCompact_178 : decode cX11_startsCompact 178 = .ok (.invokevirtual 298, 3) := by decide +kernel
theorem dX11_startsCompact_181 : decode cX11_startsCompact 181 = .ok (.iinc 2 48, 3) := by decide +kernel
theorem dX11_startsCompact_184 : decode cX11_startsCompact 184 = .ok (.goto (-51), 3) := by decide +kernel
theorem dX11_startsCompact_187 : decode cX11_startsCompact 187 = .ok (.return_, 1) := by decide +kernel
theorem dX11_write_0 : decode cX11_write 0 = .ok (.sipush 200, 3) := by decide +kernel
theorem dX11_write_3 : decode cX11_write 3 = .ok (.iload_n 1, 1) := by decide +kernel
theorem dX11_write_4 : decode cX11_write 4 = .ok (.imul, 1) := by decide +kernel
theorem dX11_write_5 : decode cX11_write 5 = .ok (.aload_n 0, 1) := by decide +kernel
theorem dX11_write_6 : decode cX11_write 6 = .ok (.getfield 126, 3) := by decide +kernel
theorem dX11_write_9 : decode cX11_write 9 = .ok (.iload_n 1, 1) := by decide +kernel
theorem dX11_write_10 : decode cX11_write 10 = .ok (.iaload, 1) := by decide +kernel
theorem dX11_write_11 : decode cX11_write 11 = .ok (.iadd, 1) := by decide +kernel
theorem dX11_write_12 : decode cX11_write 12 = .ok (.istore_n 2, 1) := by decide +kernel
theorem dX11_write_13 : decode cX11_write 13 = .ok (.aload_n 0, 1) := by decide +kernel
theorem dX11_write_14 : decode cX11_write 14 = .ok (.aload_n 0, 1) := by decide +kernel
theorem dX11_write_15 : decode cX11_write 15 = .ok (.getfield 114, 3) := by decide +kernel
theorem dX11_write_18 : decode cX11_write 18 = .ok (.iload_n 2, 1) := by decide +kernel
theorem dX11_write_19 : decode cX11_write 19 = .ok (.iaload, 1) := by decide +kernel
theorem dX11_write_20 : decode cX11_write 20 = .ok (.putfield 193, 3) := by decide +kernel
theorem dX11_write_23 : decode cX11_write 23 = .ok (.aload_n 0, 1) := by decide +kernel
theorem dX11_write_24 : decode cX11_write 24 = .ok (.aload_n 0, 1) := by decide +kernel
theorem dX11_write_25 : decode cX11_write 25 = .ok (.getfield 120, 3) := by decide +kernel
theorem dX11_write_28 : decode cX11_write 28 = .ok (.iload_n 2, 1) := by decide +kernel
theorem dX11_write_29 : decode cX11_write 29 = .ok (.iaload, 1) := by decide +kernel
theorem dX11_write_30 : decode cX11_write 30 = .ok (.putfield 196, 3) := by decide +kernel
theorem dX11_write_33 : decode cX11_write 33 = .ok (.iconst 0, 1) := by decide +kernel
theorem dX11_write_34 : decode cX11_write 34 = .ok (.istore_n 3, 1) := by decide +kernel
theorem dX11_write_35 : decode cX11_write 35 = .ok (.iload_n 3, 1) := by decide +kernel
theorem dX11_write_36 : decode cX11_write 36 = .ok (.iconst 3, 1) := by decide +kernel
theorem dX11_write_37 : decode cX11_write 37 = .ok (.aload_n 0, 1) := by decide +kernel
theorem dX11_write_38 : decode cX11_write 38 = .ok (.getfield 196, 3) := by decide +kernel
theorem dX11_write_41 : decode cX11_write 41 = .ok (.imul, 1) := by decide +kernel
theorem dX11_write_42 : decode cX11_write 42 = .ok (.if_icmp .ge 36, 3) := by decide +kernel
theorem dX11_write_45 : decode cX11_write 45 = .ok (.aload_n 0, 1) := by decide +kernel
theorem dX11_write_46 : decode cX11_write 46 = .ok (.getfield 34, 3) := by decide +kernel
theorem dX11_write_49 : decode cX11_write 49 = .ok (.iload_n 3, 1) := by decide +kernel
theorem dX11_write_50 : decode cX11_write 50 = .ok (.aload_n 0, 1) := by decide +kernel
theorem dX11_write_51 : decode cX11_write 51 = .ok (.getfield 102, 3) := by decide +kernel
theorem dX11_write_54 : decode cX11_write 54 = .ok (.sipush 14400, 3) := by decide +kernel
theorem dX11_write_57 : decode cX11_write 57 = .ok (.iload_n 1, 1) := by decide +kernel
theorem dX11_write_58 : decode cX11_write 58 = .ok (.imul, 1) := by decide +kernel
theorem dX11_write_59 : decode cX11_write 59 = .ok (.iconst 3, 1) := by decide +kernel
theorem dX11_write_60 : decode cX11_write 60 = .ok (.aload_n 0, 1) := by decide +kernel
theorem dX11_write_61 : decode cX11_write 61 = .ok (.getfield 117, 3) := by decide +kernel
theorem dX11_write_64 : decode cX11_write 64 = .ok (.iload_n 2, 1) := by decide +kernel
theorem dX11_write_65 : decode cX11_write 65 = .ok (.iaload, 1) := by decide +kernel
theorem dX11_write_66 : decode cX11_write 66 = .ok (.imul, 1) := by decide +kernel
theorem dX11_write_67 : decode cX11_write 67 = .ok (.iadd, 1) := by decide +kernel
theorem dX11_write_68 : decode cX11_write 68 = .ok (.iload_n 3, 1) := by decide +kernel
theorem dX11_write_69 : decode cX11_write 69 = .ok (.iadd, 1) := by decide +kernel
theorem dX11_write_70 : decode cX11_write 70 = .ok (.iaload, 1) := by decide +kernel
theorem dX11_write_71 : decode cX11_write 71 = .ok (.iastore, 1) := by decide +kernel
theorem dX11_write_72 : decode cX11_write 72 = .ok (.iinc 3 1, 3) := by decide +kernel
theorem dX11_write_75 : decode cX11_write 75 = .ok (.goto (-40), 3) := by decide +kernel
theorem dX11_write_78 : decode cX11_write 78 = .ok (.aload_n 0, 1) := by decide +kernel
theorem dX11_write_79 : decode cX11_write 79 = .ok (.invokevirtual 223, 3) := by decide +kernel
theorem dX11_write_82 : decode cX11_write 82 = .ok (.aload_n 0, 1) := by decide +kernel
theorem dX11_write_83 : decode cX11_write 83 = .ok (.iconst 0, 1) := by decide +kernel
theorem dX11_write_84 : decode cX11_write 84 = .ok (.aload_n 0, 1) := by decide +kernel
theorem dX11_write_85 : decode cX11_write 85 = .ok (.getfield 307, 3) := by decide +kernel
theorem dX11_write_88 : decode cX11_write 88 = .ok (.invokevirtual 310, 3) := by decide +kernel
theorem dX11_write_91 : decode cX11_write 91 = .ok (.ifCond .ne 10, 3) := by decide +kernel
theorem dX11_write_94 : decode cX11_write 94 = .ok (.aload_n 0, 1) := by decide +kernel
theorem dX11_write_95 : decode cX11_write 95 = .ok (.iload_n 1, 1) := by decide +kernel
theorem dX11_write_96 : decode cX11_write 96 = .ok (.iconst 1, 1) := by decide +kernel
theorem dX11_write_97 : decode cX11_write 97 = .ok (.invokevirtual 283, 3) := by decide +kernel
theorem dX11_write_100 : decode cX11_write 100 = .ok (.ireturn, 1) := by decide +kernel
theorem dX11_write_101 : decode cX11_write 101 = .ok (.aload_n 0, 1) := by decide +kernel
theorem dX11_write_102 : decode cX11_write 102 = .ok (.getfield 123, 3) := by decide +kernel
theorem dX11_write_105 : decode cX11_write 105 = .ok (.iload_n 2, 1) := by decide +kernel
theorem dX11_write_106 : decode cX11_write 106 = .ok (.aload_n 0, 1) := by decide +kernel
theorem dX11_write_107 : decode cX11_write 107 = .ok (.getfield 307, 3) := by decide +kernel
theorem dX11_write_110 : decode cX11_write 110 = .ok (.iastore, 1) := by decide +kernel
theorem dX11_write_111 : decode cX11_write 111 = .ok (.aload_n 0, 1) := by decide +kernel
theorem dX11_write_112 : decode cX11_write 112 = .ok (.dup, 1) := by decide +kernel
theorem dX11_write_113 : decode cX11_write 113 = .ok (.getfield 307, 3) := by decide +kernel
theorem dX11_write_116 : decode cX11_write 116 = .ok (.iconst 1, 1) := by decide +kernel
theorem dX11_write_117 : decode cX11_write 117 = .ok (.iadd, 1) := by decide +kernel
theorem dX11_write_118 : decode cX11_write 118 = .ok (.putfield 307, 3) := by decide +kernel
theorem dX11_write_121 : decode cX11_write 121 = .ok (.aload_n 0, 1) := by decide +kernel
theorem dX11_write_122 : decode cX11_write 122 = .ok (.getfield 126, 3) := by decide +kernel
theorem dX11_write_125 : decode cX11_write 125 = .ok (.iload_n 1, 1) := by decide +kernel
theorem dX11_write_126 : decode cX11_write 126 = .ok (.dup2, 1) := by decide +kernel
theorem dX11_write_127 : decode cX11_write 127 = .ok (.iaload, 1) := by decide +kernel
theorem dX11_write_128 : decode cX11_write 128 = .ok (.iconst 1, 1) := by decide +kernel
theorem dX11_write_129 : decode cX11_write 129 = .ok (.iadd, 1) := by decide +kernel
theorem dX11_write_130 : decode cX11_write 130 = .ok (.iastore, 1) := by decide +kernel
theorem dX11_write_131 : decode cX11_write 131 = .ok (.iconst 2, 1) := by decide +kernel
theorem dX11_write_132 : decode cX11_write 132 = .ok (.ireturn, 1) := by decide +kernel
theorem dX11_commit_0 : decode cX11_commit 0 = .ok (.aload_n 0, 1) := by decide +kernel
theorem dX11_commit_1 : decode cX11_commit 1 = .ok (.getfield 74, 3) := by decide +kernel
theorem dX11_commit_4 : decode cX11_commit 4 = .ok (.iload_n 1, 1) := by decide +kernel
theorem dX11_commit_5 : decode cX11_commit 5 = .ok (.iaload, 1) := by decide +kernel
theorem dX11_commit_6 : decode cX11_commit 6 = .ok (.iconst 1, 1) := by decide +kernel
theorem dX11_commit_7 : decode cX11_commit 7 = .ok (.iadd, 1) := by decide +kernel
theorem dX11_commit_8 : decode cX11_commit 8 = .ok (.istore_n 2, 1) := by decide +kernel
theorem dX11_commit_9 : decode cX11_commit 9 = .ok (.aload_n 0, 1) := by decide +kernel
theorem dX11_commit_10 : decode cX11_commit 10 = .ok (.iconst 1, 1) := by decide +kernel
theorem dX11_commit_11 : decode cX11_commit 11 = .ok (.iload_n 2, 1) := by decide +kernel
theorem dX11_commit_12 : decode cX11_commit 12 = .ok (.invokevirtual 165, 3) := by decide +kernel
theorem dX11_commit_15 : decode cX11_commit 15 = .ok (.ifCond .lt 54, 3) := by decide +kernel
theorem dX11_commit_18 : decode cX11_commit 18 = .ok (.aload_n 0, 1) := by decide +kernel
theorem dX11_commit_19 : decode cX11_commit 19 = .ok (.getfield 77, 3) := by decide +kernel
theorem dX11_commit_22 : decode cX11_commit 22 = .ok (.iload_n 1, 1) := by decide +kernel
theorem dX11_commit_23 : decode cX11_commit 23 = .ok (.dup2, 1) := by decide +kernel
theorem dX11_commit_24 : decode cX11_commit 24 = .ok (.iaload, 1) := by decide +kernel
theorem dX11_commit_25 : decode cX11_commit 25 = .ok (.iconst 1, 1) := by decide +kernel
theorem dX11_commit_26 : decode cX11_commit 26 = .ok (.iadd, 1) := by decide +kernel
theorem dX11_commit_27 : decode cX11_commit 27 = .ok (.iastore, 1) := by decide +kernel
theorem dX11_commit_28 : decode cX11_commit 28 = .ok (.aload_n 0, 1) := by decide +kernel
theorem dX11_commit_29 : decode cX11_commit 29 = .ok (.dup, 1) := by decide +kernel
theorem dX11_commit_30 : decode cX11_commit 30 = .ok (.getfield 313, 3) := by decide +kernel
theorem dX11_commit_33 : decode cX11_commit 33 = .ok (.iconst 1, 1) := by decide +kernel
theorem dX11_commit_34 : decode cX11_commit 34 = .ok (.iadd, 1) := by decide +kernel
theorem dX11_commit_35 : decode cX11_commit 35 = .ok (.putfield 313, 3) := by decide +kernel
theorem dX11_commit_38 : decode cX11_commit 38 = .ok (.aload_n 0, 1) := by decide +kernel
theorem dX11_commit_39 : decode cX11_commit 39 = .ok (.getfield 77, 3) := by decide +kernel
theorem dX11_commit_42 : decode cX11_commit 42 = .ok (.iload_n 1, 1) := by decide +kernel
theorem dX11_commit_43 : decode cX11_commit 43 = .ok (.iaload, 1) := by decide +kernel
theorem dX11_commit_44 : decode cX11_commit 44 = .ok (.aload_n 0, 1) := by decide +kernel
theorem dX11_commit_45 : decode cX11_commit 45 = .ok (.getfield 80, 3) := by decide +kernel
theorem dX11_commit_48 : decode cX11_commit 48 = .ok (.iload_n 1, 1) := by decide +kernel
theorem dX11_commit_49 : decode cX11_commit 49 = .ok (.iaload, 1) := by decide +kernel
theorem dX11_commit_50 : decode cX11_commit 50 = .ok (.if_icmp .ne 10, 3) := by decide +kernel
theorem dX11_commit_53 : decode cX11_commit 53 = .ok (.aload_n 0, 1) := by decide +kernel
theorem dX11_commit_54 : decode cX11_commit 54 = .ok (.iload_n 1, 1) := by decide +kernel
theorem dX11_commit_55 : decode cX11_commit 55 = .ok (.iconst 3, 1) := by decide +kernel
theorem dX11_commit_56 : decode cX11_commit 56 = .ok (.invokevirtual 283, 3) := by decide +kernel
theorem dX11_commit_59 : decode cX11_commit 59 = .ok (.ireturn, 1) := by decide +kernel
theorem dX11_commit_60 : decode cX11_commit 60 = .ok (.aload_n 0, 1) := by decide +kernel
theorem dX11_commit_61 : decode cX11_commit 61 = .ok (.getfield 86, 3) := by decide +kernel
theorem dX11_commit_64 : decode cX11_commit 64 = .ok (.iload_n 1, 1) := by decide +kernel
theorem dX11_commit_65 : decode cX11_commit 65 = .ok (.iconst 1, 1) := by decide +kernel
theorem dX11_commit_66 : decode cX11_commit 66 = .ok (.bastore, 1) := by decide +kernel
theorem dX11_commit_67 : decode cX11_commit 67 = .ok (.iconst 4, 1) := by decide +kernel
theorem dX11_commit_68 : decode cX11_commit 68 = .ok (.ireturn, 1) := by decide +kernel
theorem dX11_commit_69 : decode cX11_commit 69 = .ok (.aload_n 0, 1) := by decide +kernel
theorem dX11_commit_70 : decode cX11_commit 70 = .ok (.iconst 0, 1) := by decide +kernel
theorem dX11_commit_71 : decode cX11_commit 71 = .ok (.putfield 153, 3) := by decide +kernel
theorem dX11_commit_74 : decode cX11_commit 74 = .ok (.aload_n 0, 1) := by decide +kernel
theorem dX11_commit_75 : decode cX11_commit 75 = .ok (.ldc2_w 234, 3) := by decide +kernel
theorem dX11_commit_78 : decode cX11_commit 78 = .ok (.iconst 1, 1) := by decide +kernel
theorem dX11_commit_79 : decode cX11_commit 79 = .ok (.invokevirtual 161, 3) := by decide +kernel
theorem dX11_commit_82 : decode cX11_commit 82 = .ok (.aload_n 0, 1) := by decide +kernel
theorem dX11_commit_83 : decode cX11_commit 83 = .ok (.iload_n 2, 1) := by decide +kernel
theorem dX11_commit_84 : decode cX11_commit 84 = .ok (.i2l, 1) := by decide +kernel
theorem dX11_commit_85 : decode cX11_commit 85 = .ok (.iconst 4, 1) := by decide +kernel
theorem dX11_commit_86 : decode cX11_commit 86 = .ok (.invokevirtual 161, 3) := by decide +kernel
theorem dX11_commit_89 : decode cX11_commit 89 = .ok (.aload_n 0, 1) := by decide +kernel
theorem dX11_commit_90 : decode cX11_commit 90 = .ok (.aload_n 0, 1) := by decide +kernel
theorem dX11_commit_91 : decode cX11_commit 91 = .ok (.getfield 129, 3) := by decide +kernel
theorem dX11_commit_94 : decode cX11_commit 94 = .ok (.iload_n 1, 1) := by decide +kernel
theorem dX11_commit_95 : decode cX11_commit 95 = .ok (.iaload, 1) := by decide +kernel
theorem dX11_commit_96 : decode cX11_commit 96 = .ok (.aload_n 0, 1) := by decide +kernel
theorem dX11_commit_97 : decode cX11_commit 97 = .ok (.getfield 111, 3) := by decide +kernel
theorem dX11_commit_100 : decode cX11_commit 100 = .ok (.iload_n 1, 1) := by decide +kernel
theorem dX11_commit_101 : decode cX11_commit 101 = .ok (.iaload, 1) := by decide +kernel
theorem dX11_commit_102 : decode cX11_commit 102 = .ok (.iadd, 1) := by decide +kernel
theorem dX11_commit_103 : decode cX11_commit 103 = .ok (.i2l, 1) := by decide +kernel
theorem dX11_commit_104 : decode cX11_commit 104 = .ok (.iconst 1, 1) := by decide +kernel
theorem dX11_commit_105 : decode cX11_commit 105 = .ok (.invokevirtual 161, 3) := by decide +kernel
theorem dX11_commit_108 : decode cX11_commit 108 = .ok (.iconst 0, 1) := by decide +kernel
theorem dX11_commit_109 : decode cX11_commit 109 = .ok (.istore_n 3, 1) := by decide +kernel
theorem dX11_commit_110 : decode cX11_commit 110 = .ok (.iload_n 3, 1) := by decide +kernel
theorem dX11_commit_111 : decode cX11_commit 111 = .ok (.aload_n 0, 1) := by decide +kernel
theorem dX11_commit_112 : decode cX11_commit 112 = .ok (.getfield 129, 3) := by decide +kernel
theorem dX11_commit_115 : decode cX11_commit 115 = .ok (.iload_n 1, 1) := by decide +kernel
theorem dX11_commit_116 : decode cX11_commit 116 = .ok (.iaload, 1) := by decide +kernel
theorem dX11_commit_117 : decode cX11_commit 117 = .ok (.if_icmp .ge 47, 3) := by decide +kernel
theorem dX11_commit_120 : decode cX11_commit 120 = .ok (.aload_n 0, 1) := by decide +kernel
theorem dX11_commit_121 : decode cX11_commit 121 = .ok (.ldc2_w 316, 3) := by decide +kernel
theorem dX11_commit_124 : decode cX11_commit 124 = .ok (.iconst 1, 1) := by decide +kernel
theorem dX11_commit_125 : decode cX11_commit 125 = .ok (.invokevirtual 161, 3) := by decide +kernel
theorem dX11_commit_128 : decode cX11_commit 128 = .ok (.aload_n 0, 1) := by decide +kernel
theorem dX11_commit_129 : decode cX11_commit 129 = .ok (.aload_n 0, 1) := by decide +kernel
theorem dX11_commit_130 : decode cX11_commit 130 = .ok (.getfield 132, 3) := by decide +kernel
theorem dX11_commit_133 : decode cX11_commit 133 = .ok (.sipush 200, 3) := by decide +kernel
theorem dX11_commit_136 : decode cX11_commit 136 = .ok (.iload_n 1, 1) := by decide +kernel
theorem dX11_commit_137 : decode cX11_commit 137 = .ok (.imul, 1) := by decide +kernel
theorem dX11_commit_138 : decode cX11_commit 138 = .ok (.iload_n 3, 1) := by decide +kernel
theorem dX11_commit_139 : decode cX11_commit 139 = .ok (.iadd, 1) := by decide +kernel
theorem dX11_commit_140 : decode cX11_commit 140 = .ok (.iaload, 1) := by decide +kernel
theorem dX11_commit_141 : decode cX11_commit 141 = .ok (.i2l, 1) := by decide +kernel
theorem dX11_commit_142 : decode cX11_commit 142 = .ok (.iconst 4, 1) := by decide +kernel
theorem dX11_commit_143 : decode cX11_commit 143 = .ok (.invokevirtual 161, 3) := by decide +kernel
theorem dX11_commit_146 : decode cX11_commit 146 = .ok (.aload_n 0, 1) := by decide +kernel
theorem dX11_commit_147 : decode cX11_commit 147 = .ok (.aload_n 0, 1) := by decide +kernel
theorem dX11_commit_148 : decode cX11_commit 148 = .ok (.getfield 89, 3) := by decide +kernel
theorem dX11_commit_151 : decode cX11_commit 151 = .ok (.iload_n 1, 1) := by decide +kernel
theorem dX11_commit_152 : decode cX11_commit 152 = .ok (.iaload, 1) := by decide +kernel
theorem dX11_commit_153 : decode cX11_commit 153 = .ok (.i2l, 1) := by decide +kernel
theorem dX11_commit_154 : decode cX11_commit 154 = .ok (.iconst 1, 1) := by decide +kernel
theorem dX11_commit_155 : decode cX11_commit 155 = .ok (.invokevirtual 161, 3) := by decide +kernel
theorem dX11_commit_158 : decode cX11_commit 158 = .ok (.iinc 3 1, 3) := by decide +kernel
theorem dX11_commit_161 : decode cX11_commit 161 = .ok (.goto (-51), 3) := by decide +kernel
theorem dX11_commit_164 : decode cX11_commit 164 = .ok (.iconst 0, 1) := by decide +kernel
theorem dX11_commit_165 : decode cX11_commit 165 = .ok (.istore_n 3, 1) := by decide +kernel
theorem dX11_commit_166 : decode cX11_commit 166 = .ok (.iload_n 3, 1) := by decide +kernel
theorem dX11_commit_167 : decode cX11_commit 167 = .ok (.aload_n 0, 1) := by decide +kernel
theorem dX11_commit_168 : decode cX11_commit 168 = .ok (.getfield 111, 3) := by decide +kernel
theorem dX11_commit_171 : decode cX11_commit 171 = .ok (.iload_n 1, 1) := by decide +kernel
theorem dX11_commit_172 : decode cX11_commit 172 = .ok (.iaload, 1) := by decide +kernel
theorem dX11_commit_173 : decode cX11_commit 173 = .ok (.if_icmp .ge 51, 3) := by decide +kernel
theorem dX11_commit_176 : decode cX11_commit 176 = .ok (.aload_n 0, 1) := by decide +kernel
theorem dX11_commit_177 : decode cX11_commit 177 = .ok (.lconst 1, 1) := by decide +kernel
theorem dX11_commit_178 : decode cX11_commit 178 = .ok (.iconst 1, 1) := by decide +kernel
theorem dX11_commit_179 : decode cX11_commit 179 = .ok (.invokevirtual 161, 3) := by decide +kernel
theorem dX11_commit_182 : decode cX11_commit 182 = .ok (.aload_n 0, 1) := by decide +kernel
theorem dX11_commit_183 : decode cX11_commit 183 = .ok (.aload_n 0, 1) := by decide +kernel
theorem dX11_commit_184 : decode cX11_commit 184 = .ok (.getfield 123, 3) := by decide +kernel
theorem dX11_commit_187 : decode cX11_commit 187 = .ok (.sipush 200, 3) := by decide +kernel
theorem dX11_commit_190 : decode cX11_commit 190 = .ok (.iload_n 1, 1) := by decide +kernel
theorem dX11_commit_191 : decode cX11_commit 191 = .ok (.imul, 1) := by decide +kernel
theorem dX11_commit_192 : decode cX11_commit 192 = .ok (.iload_n 3, 1) := by decide +kernel
theorem dX11_commit_193 : decode cX11_commit 193 = .ok (.iadd, 1) := by decide +kernel
theorem dX11_commit_194 : decode cX11_commit 194 = .ok (.iaload, 1) := by decide +kernel
theorem dX11_commit_195 : decode cX11_commit 195 = .ok (.i2l, 1) := by decide +kernel
theorem dX11_commit_196 : decode cX11_commit 196 = .ok (.iconst 4, 1) := by decide +kernel
theorem dX11_commit_197 : decode cX11_commit 197 = .ok (.invokevirtual 161, 3) := by decide +kernel
theorem dX11_commit_200 : decode cX11_commit 200 = .ok (.aload_n 0, 1) := by decide +kernel
theorem dX11_commit_201 : decode cX11_commit 201 = .ok (.aload_n 0, 1) := by decide +kernel
theorem dX11_commit_202 : decode cX11_commit 202 = .ok (.getfield 114, 3) := by decide +kernel
theorem dX11_commit_205 : decode cX11_commit 205 = .ok (.sipush 200, 3) := by decide +kernel
theorem dX11_commit_208 : decode cX11_commit 208 = .ok (.iload_n 1, 1) := by decide +kernel
theorem dX11_commit_209 : decode cX11_commit 209 = .ok (.imul, 1) := by decide +kernel
theorem dX11_commit_210 : decode cX11_commit 210 = .ok (.iload_n 3, 1) := by decide +kernel
theorem dX11_commit_211 : decode cX11_commit 211 = .ok (.iadd, 1) := by decide +kernel
theorem dX11_commit_212 : decode cX11_commit 212 = .ok (.iaload, 1) := by decide +kernel
theorem dX11_commit_213 : decode cX11_commit 213 = .ok (.i2l, 1) := by decide +kernel
theorem dX11_commit_214 : decode cX11_commit 214 = .ok (.iconst 1, 1) := by decide +kernel
theorem dX11_commit_215 : decode cX11_commit 215 = .ok (.invokevirtual 161, 3) := by decide +kernel
theorem dX11_commit_218 : decode cX11_commit 218 = .ok (.iinc 3 1, 3) := by decide +kernel
theorem dX11_commit_221 : decode cX11_commit 221 = .ok (.goto (-55), 3) := by decide +kernel
theorem dX11_commit_224 : decode cX11_commit 224 = .ok (.aload_n 0, 1) := by decide +kernel
theorem dX11_commit_225 : decode cX11_commit 225 = .ok (.invokevirtual 203, 3) := by decide +kernel
theorem dX11_commit_228 : decode cX11_commit 228 = .ok (.aload_n 0, 1) := by decide +kernel
theorem dX11_commit_229 : decode cX11_commit 229 = .ok (.iconst 1, 1) := by decide +kernel
theorem dX11_commit_230 : decode cX11_commit 230 = .ok (.iload_n 2, 1) := by decide +kernel
theorem dX11_commit_231 : decode cX11_commit 231 = .ok (.invokevirtual 310, 3) := by decide +kernel
theorem dX11_commit_234 : decode cX11_commit 234 = .ok (.ifCond .ne 10, 3) := by decide +kernel
theorem dX11_commit_237 : decode cX11_commit 237 = .ok (.aload_n 0, 1) := by decide +kernel
theorem dX11_commit_238 : decode cX11_commit 238 = .ok (.iload_n 1, 1) := by decide +kernel
theorem dX11_commit_239 : decode cX11_commit 239 = .ok (.iconst 1, 1) := by decide +kernel
theorem dX11_commit_240 : decode cX11_commit 240 = .ok (.invokevirtual 283, 3) := by decide +kernel
theorem dX11_commit_243 : decode cX11_commit 243 = .ok (.ireturn, 1) := by decide +kernel
theorem dX11_commit_244 : decode cX11_commit 244 = .ok (.aload_n 0, 1) := by decide +kernel
theorem dX11_commit_245 : decode cX11_commit 245 = .ok (.getfield 65, 3) := by decide +kernel
theorem dX11_commit_248 : decode cX11_commit 248 = .ok (.iload_n 1, 1) := by decide +kernel
theorem dX11_commit_249 : decode cX11_commit 249 = .ok (.iconst 0, 1) := by decide +kernel
theorem dX11_commit_250 : decode cX11_commit 250 = .ok (.bastore, 1) := by decide +kernel
theorem dX11_commit_251 : decode cX11_commit 251 = .ok (.aload_n 0, 1) := by decide +kernel
theorem dX11_commit_252 : decode cX11_commit 252 = .ok (.getfield 83, 3) := by decide +kernel
theorem dX11_commit_255 : decode cX11_commit 255 = .ok (.iload_n 1, 1) := by decide +kernel
theorem dX11_commit_256 : decode cX11_commit 256 = .ok (.iload_n 2, 1) := by decide +kernel
theorem dX11_commit_257 : decode cX11_commit 257 = .ok (.iastore, 1) := by decide +kernel
theorem dX11_commit_258 : decode cX11_commit 258 = .ok (.aload_n 0, 1) := by decide +kernel
theorem dX11_commit_259 : decode cX11_commit 259 = .ok (.dup, 1) := by decide +kernel
theorem dX11_commit_260 : decode cX11_commit 260 = .ok (.getfield 318, 3) := by decide +kernel
theorem dX11_commit_263 : decode cX11_commit 263 = .ok (.iconst 1, 1) := by decide +kernel
theorem dX11_commit_264 : decode cX11_commit 264 = .ok (.iadd, 1) := by decide +kernel
theorem dX11_commit_265 : decode cX11_commit 265 = .ok (.putfield 318, 3) := by decide +kernel
theorem dX11_commit_268 : decode cX11_commit 268 = .ok (.iconst 3, 1) := by decide +kernel
theorem dX11_commit_269 : decode cX11_commit 269 = .ok (.ireturn, 1) := by decide +kernel
theorem dX11_look_0 : decode cX11_look 0 = .ok (.aload_n 0, 1) := by decide +kernel
theorem dX11_look_1 : decode cX11_look 1 = .ok (.getfield 86, 3) := by decide +kernel
theorem dX11_look_4 : decode cX11_look 4 = .ok (.iload_n 1, 1) := by decide +kernel
theorem dX11_look_5 : decode cX11_look 5 = .ok (.iconst 0, 1) := by decide +kernel
theorem dX11_look_6 : decode cX11_look 6 = .ok (.bastore, 1) := by decide +kernel
theorem dX11_look_7 : decode cX11_look 7 = .ok (.aload_n 0, 1) := by decide +kernel
theorem dX11_look_8 : decode cX11_look 8 = .ok (.getfield 74, 3) := by decide +kernel
theorem dX11_look_11 : decode cX11_look 11 = .ok (.iload_n 1, 1) := by decide +kernel
theorem dX11_look_12 : decode cX11_look 12 = .ok (.dup2, 1) := by decide +kernel
theorem dX11_look_13 : decode cX11_look 13 = .ok (.iaload, 1) := by decide +kernel
theorem dX11_look_14 : decode cX11_look 14 = .ok (.iconst 1, 1) := by decide +kernel
theorem dX11_look_15 : decode cX11_look 15 = .ok (.iadd, 1) := by decide +kernel
theorem dX11_look_16 : decode cX11_look 16 = .ok (.iastore, 1) := by decide +kernel
theorem dX11_look_17 : decode cX11_look 17 = .ok (.aload_n 0, 1) := by decide +kernel
theorem dX11_look_18 : decode cX11_look 18 = .ok (.aload_n 0, 1) := by decide +kernel
theorem dX11_look_19 : decode cX11_look 19 = .ok (.getfield 74, 3) := by decide +kernel
theorem dX11_look_22 : decode cX11_look 22 = .ok (.iload_n 1, 1) := by decide +kernel
theorem dX11_look_23 : decode cX11_look 23 = .ok (.iaload, 1) := by decide +kernel
theorem dX11_look_24 : decode cX11_look 24 = .ok (.invokevirtual 257, 3) := by decide +kernel
theorem dX11_look_27 : decode cX11_look 27 = .ok (.ifCond .ne 10, 3) := by decide +kernel
theorem dX11_look_30 : decode cX11_look 30 = .ok (.aload_n 0, 1) := by decide +kernel
theorem dX11_look_31 : decode cX11_look 31 = .ok (.iload_n 1, 1) := by decide +kernel
theorem dX11_look_32 : decode cX11_look 32 = .ok (.iconst 4, 1) := by decide +kernel
theorem dX11_look_33 : decode cX11_look 33 = .ok (.invokevirtual 283, 3) := by decide +kernel
theorem dX11_look_36 : decode cX11_look 36 = .ok (.ireturn, 1) := by decide +kernel
theorem dX11_look_37 : decode cX11_look 37 = .ok (.iconst 0, 1) := by decide +kernel
theorem dX11_look_38 : decode cX11_look 38 = .ok (.istore_n 2, 1) := by decide +kernel
theorem dX11_look_39 : decode cX11_look 39 = .ok (.iload_n 2, 1) := by decide +kernel
theorem dX11_look_40 : decode cX11_look 40 = .ok (.aload_n 0, 1) := by decide +kernel
theorem dX11_look_41 : decode cX11_look 41 = .ok (.getfield 236, 3) := by decide +kernel
theorem dX11_look_44 : decode cX11_look 44 = .ok (.if_icmp .ge 40, 3) := by decide +kernel
theorem dX11_look_47 : decode cX11_look 47 = .ok (.aload_n 0, 1) := by decide +kernel
theorem dX11_look_48 : decode cX11_look 48 = .ok (.getfield 71, 3) := by decide +kernel
theorem dX11_look_51 : decode cX11_look 51 = .ok (.iload_n 1, 1) := by decide +kernel
theorem dX11_look_52 : decode cX11_look 52 = .ok (.iaload, 1) := by decide +kernel
theorem dX11_look_53 : decode cX11_look 53 = .ok (.ifCond .eq 25, 3) := by decide +kernel
theorem dX11_look_56 : decode cX11_look 56 = .ok (.aload_n 0, 1) := by decide +kernel
theorem dX11_look_57 : decode cX11_look 57 = .ok (.getfield 56, 3) := by decide +kernel
theorem dX11_look_60 : decode cX11_look 60 = .ok (.iload_n 2, 1) := by decide +kernel
theorem dX11_look_61 : decode cX11_look 61 = .ok (.iaload, 1) := by decide +kernel
theorem dX11_look_62 : decode cX11_look 62 = .ok (.aload_n 0, 1) := by decide +kernel
