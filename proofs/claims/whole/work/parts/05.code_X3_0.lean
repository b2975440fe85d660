theorem dX3_init_0 : decode cX3_init 0 = .ok (.aload_n 0, 1) := by decide +kernel
theorem dX3_init_1 : decode cX3_init 1 = .ok (.invokespecial 3, 3) := by decide +kernel
theorem dX3_init_4 : decode cX3_init 4 = .ok (.aload_n 0, 1) := by decide +kernel
theorem dX3_init_5 : decode cX3_init 5 = .ok (.sipush 200, 3) := by decide +kernel
theorem dX3_init_8 : decode cX3_init 8 = .ok (.newarray .int, 2) := by decide +kernel
theorem dX3_init_10 : decode cX3_init 10 = .ok (.putfield 9, 3) := by decide +kernel
theorem dX3_init_13 : decode cX3_init 13 = .ok (.aload_n 0, 1) := by decide +kernel
theorem dX3_init_14 : decode cX3_init 14 = .ok (.sipush 200, 3) := by decide +kernel
theorem dX3_init_17 : decode cX3_init 17 = .ok (.newarray .int, 2) := by decide +kernel
theorem dX3_init_19 : decode cX3_init 19 = .ok (.putfield 15, 3) := by decide +kernel
theorem dX3_init_22 : decode cX3_init 22 = .ok (.return_, 1) := by decide +kernel
theorem dX3_clear_0 : decode cX3_clear 0 = .ok (.aload_n 0, 1) := by decide +kernel
theorem dX3_clear_1 : decode cX3_clear 1 = .ok (.iconst 0, 1) := by decide +kernel
theorem dX3_clear_2 : decode cX3_clear 2 = .ok (.putfield 18, 3) := by decide +kernel
theorem dX3_clear_5 : decode cX3_clear 5 = .ok (.return_, 1) := by decide +kernel
theorem dX3_numberAt_0 : decode cX3_numberAt 0 = .ok (.iload_n 1, 1) := by decide +kernel
theorem dX3_numberAt_1 : decode cX3_numberAt 1 = .ok (.ifCond .lt 20, 3) := by decide +kernel
theorem dX3_numberAt_4 : decode cX3_numberAt 4 = .ok (.iload_n 1, 1) := by decide +kernel
theorem dX3_numberAt_5 : decode cX3_numberAt 5 = .ok (.aload_n 0, 1) := by decide +kernel
theorem dX3_numberAt_6 : decode cX3_numberAt 6 = .ok (.getfield 18, 3) := by decide +kernel
theorem dX3_numberAt_9 : decode cX3_numberAt 9 = .ok (.if_icmp .ge 12, 3) := by decide +kernel
theorem dX3_numberAt_12 : decode cX3_numberAt 12 = .ok (.iload_n 1, 1) := by decide +kernel
theorem dX3_numberAt_13 : decode cX3_numberAt 13 = .ok (.aload_n 0, 1) := by decide +kernel
theorem dX3_numberAt_14 : decode cX3_numberAt 14 = .ok (.getfield 9, 3) := by decide +kernel
theorem dX3_numberAt_17 : decode cX3_numberAt 17 = .ok (.arraylength, 1) := by decide +kernel
theorem dX3_numberAt_18 : decode cX3_numberAt 18 = .ok (.if_icmp .lt 7, 3) := by decide +kernel
theorem dX3_numberAt_21 : decode cX3_numberAt 21 = .ok (.iconst (-1), 1) := by decide +kernel
theorem dX3_numberAt_22 : decode cX3_numberAt 22 = .ok (.goto 9, 3) := by decide +kernel
theorem dX3_numberAt_25 : decode cX3_numberAt 25 = .ok (.aload_n 0, 1) := by decide +kernel
theorem dX3_numberAt_26 : decode cX3_numberAt 26 = .ok (.getfield 9, 3) := by decide +kernel
theorem dX3_numberAt_29 : decode cX3_numberAt 29 = .ok (.iload_n 1, 1) := by decide +kernel
theorem dX3_numberAt_30 : decode cX3_numberAt 30 = .ok (.iaload, 1) := by decide +kernel
theorem dX3_numberAt_31 : decode cX3_numberAt 31 = .ok (.ireturn, 1) := by decide +kernel
theorem dX3_partitionAt_0 : decode cX3_partitionAt 0 = .ok (.iload_n 1, 1) := by decide +kernel
theorem dX3_partitionAt_1 : decode cX3_partitionAt 1 = .ok (.ifCond .lt 20, 3) := by decide +kernel
theorem dX3_partitionAt_4 : decode cX3_partitionAt 4 = .ok (.iload_n 1, 1) := by decide +kernel
theorem dX3_partitionAt_5 : decode cX3_partitionAt 5 = .ok (.aload_n 0, 1) := by decide +kernel
theorem dX3_partitionAt_6 : decode cX3_partitionAt 6 = .ok (.getfield 18, 3) := by decide +kernel
theorem dX3_partitionAt_9 : decode cX3_partitionAt 9 = .ok (.if_icmp .ge 12, 3) := by decide +kernel
theorem dX3_partitionAt_12 : decode cX3_partitionAt 12 = .ok (.iload_n 1, 1) := by decide +kernel
theorem dX3_partitionAt_13 : decode cX3_partitionAt 13 = .ok (.aload_n 0, 1) := by decide +kernel
theorem dX3_partitionAt_14 : decode cX3_partitionAt 14 = .ok (.getfield 15, 3) := by decide +kernel
theorem dX3_partitionAt_17 : decode cX3_partitionAt 17 = .ok (.arraylength, 1) := by decide +kernel
theorem dX3_partitionAt_18 : decode cX3_partitionAt 18 = .ok (.if_icmp .lt 7, 3) := by decide +kernel
theorem dX3_partitionAt_21 : decode cX3_partitionAt 21 = .ok (.iconst (-1), 1) := by decide +kernel
theorem dX3_partitionAt_22 : decode cX3_partitionAt 22 = .ok (.goto 9, 3) := by decide +kernel
theorem dX3_partitionAt_25 : decode cX3_partitionAt 25 = .ok (.aload_n 0, 1) := by decide +kernel
theorem dX3_partitionAt_26 : decode cX3_partitionAt 26 = .ok (.getfield 15, 3) := by decide +kernel
theorem dX3_partitionAt_29 : decode cX3_partitionAt 29 = .ok (.iload_n 1, 1) := by decide +kernel
theorem dX3_partitionAt_30 : decode cX3_partitionAt 30 = .ok (.iaload, 1) := by decide +kernel
theorem dX3_partitionAt_31 : decode cX3_partitionAt 31 = .ok (.ireturn, 1) := by decide +kernel
theorem dX3_numberIn_0 : decode cX3_numberIn 0 = .ok (.aload_n 0, 1) := by decide +kernel
theorem dX3_numberIn_1 : decode cX3_numberIn 1 = .ok (.iload_n 2, 1) := by decide +kernel
theorem dX3_numberIn_2 : decode cX3_numberIn 2 = .ok (.invokevirtual 22, 3) := by decide +kernel
theorem dX3_numberIn_5 : decode cX3_numberIn 5 = .ok (.iload_n 1, 1) := by decide +kernel
theorem dX3_numberIn_6 : decode cX3_numberIn 6 = .ok (.if_icmp .ne 11, 3) := by decide +kernel
theorem dX3_numberIn_9 : decode cX3_numberIn 9 = .ok (.aload_n 0, 1) := by decide +kernel
theorem dX3_numberIn_10 : decode cX3_numberIn 10 = .ok (.iload_n 2, 1) := by decide +kernel
theorem dX3_numberIn_11 : decode cX3_numberIn 11 = .ok (.invokevirtual 26, 3) := by decide +kernel
theorem dX3_numberIn_14 : decode cX3_numberIn 14 = .ok (.goto 4, 3) := by decide +kernel
theorem dX3_numberIn_17 : decode cX3_numberIn 17 = .ok (.iconst (-1), 1) := by decide +kernel
theorem dX3_numberIn_18 : decode cX3_numberIn 18 = .ok (.ireturn, 1) := by decide +kernel
theorem dX3_countOf_0 : decode cX3_countOf 0 = .ok (.iconst 0, 1) := by decide +kernel
theorem dX3_countOf_1 : decode cX3_countOf 1 = .ok (.istore_n 2, 1) := by decide +kernel
theorem dX3_countOf_2 : decode cX3_countOf 2 = .ok (.iconst 0, 1) := by decide +kernel
theorem dX3_countOf_3 : decode cX3_countOf 3 = .ok (.istore_n 3, 1) := by decide +kernel
theorem dX3_countOf_4 : decode cX3_countOf 4 = .ok (.iload_n 3, 1) := by decide +kernel
theorem dX3_countOf_5 : decode cX3_countOf 5 = .ok (.aload_n 0, 1) := by decide +kernel
theorem dX3_countOf_6 : decode cX3_countOf 6 = .ok (.getfield 18, 3) := by decide +kernel
theorem dX3_countOf_9 : decode cX3_countOf 9 = .ok (.if_icmp .ge 26, 3) := by decide +kernel
theorem dX3_countOf_12 : decode cX3_countOf 12 = .ok (.iload_n 2, 1) := by decide +kernel
theorem dX3_countOf_13 : decode cX3_countOf 13 = .ok (.aload_n 0, 1) := by decide +kernel
theorem dX3_countOf_14 : decode cX3_countOf 14 = .ok (.iload_n 3, 1) := by decide +kernel
theorem dX3_countOf_15 : decode cX3_countOf 15 = .ok (.invokevirtual 22, 3) := by decide +kernel
theorem dX3_countOf_18 : decode cX3_countOf 18 = .ok (.iload_n 1, 1) := by decide +kernel
theorem dX3_countOf_19 : decode cX3_countOf 19 = .ok (.if_icmp .ne 7, 3) := by decide +kernel
theorem dX3_countOf_22 : decode cX3_countOf 22 = .ok (.iconst 1, 1) := by decide +kernel
theorem dX3_countOf_23 : decode cX3_countOf 23 = .ok (.goto 4, 3) := by decide +kernel
theorem dX3_countOf_26 : decode cX3_countOf 26 = .ok (.iconst 0, 1) := by decide +kernel
theorem dX3_countOf_27 : decode cX3_countOf 27 = .ok (.iadd, 1) := by decide +kernel
theorem dX3_countOf_28 : decode cX3_countOf 28 = .ok (.istore_n 2, 1) := by decide +kernel
theorem dX3_countOf_29 : decode cX3_countOf 29 = .ok (.iinc 3 1, 3) := by decide +kernel
theorem dX3_countOf_32 : decode cX3_countOf 32 = .ok (.goto (-28), 3) := by decide +kernel
theorem dX3_countOf_35 : decode cX3_countOf 35 = .ok (.iload_n 2, 1) := by decide +kernel
theorem dX3_countOf_36 : decode cX3_countOf 36 = .ok (.ireturn, 1) := by decide +kernel
theorem dX3_placeOf_0 : decode cX3_placeOf 0 = .ok (.iconst 0, 1) := by decide +kernel
theorem dX3_placeOf_1 : decode cX3_placeOf 1 = .ok (.istore_n 2, 1) := by decide +kernel
theorem dX3_placeOf_2 : decode cX3_placeOf 2 = .ok (.aload_n 0, 1) := by decide +kernel
theorem dX3_placeOf_3 : decode cX3_placeOf 3 = .ok (.getfield 18, 3) := by decide +kernel
theorem dX3_placeOf_6 : decode cX3_placeOf 6 = .ok (.istore_n 3, 1) := by decide +kernel
theorem dX3_placeOf_7 : decode cX3_placeOf 7 = .ok (.iload_n 3, 1) := by decide +kernel
theorem dX3_placeOf_8 : decode cX3_placeOf 8 = .ok (.ifCond .le 43, 3) := by decide +kernel
theorem dX3_placeOf_11 : decode cX3_placeOf 11 = .ok (.iload_n 3, 1) := by decide +kernel
theorem dX3_placeOf_12 : decode cX3_placeOf 12 = .ok (.iconst 2, 1) := by decide +kernel
theorem dX3_placeOf_13 : decode cX3_placeOf 13 = .ok (.idiv, 1) := by decide +kernel
theorem dX3_placeOf_14 : decode cX3_placeOf 14 = .ok (.istore 4, 2) := by decide +kernel
theorem dX3_placeOf_16 : decode cX3_placeOf 16 = .ok (.aload_n 0, 1) := by decide +kernel
theorem dX3_placeOf_17 : decode cX3_placeOf 17 = .ok (.iload_n 2, 1) := by decide +kernel
theorem dX3_placeOf_18 : decode cX3_placeOf 18 = .ok (.iload 4, 2) := by decide +kernel
theorem dX3_placeOf_20 : decode cX3_placeOf 20 = .ok (.iadd, 1) := by decide +kernel
theorem dX3_placeOf_21 : decode cX3_placeOf 21 = .ok (.invokevirtual 26, 3) := by decide +kernel
theorem dX3_placeOf_24 : decode cX3_placeOf 24 = .ok (.iload_n 1, 1) := by decide +kernel
theorem dX3_placeOf_25 : decode cX3_placeOf 25 = .ok (.if_icmp .ge 20, 3) := by decide +kernel
theorem dX3_placeOf_28 : decode cX3_placeOf 28 = .ok (.iload_n 2, 1) := by decide +kernel
theorem dX3_placeOf_29 : decode cX3_placeOf 29 = .ok (.iload 4, 2) := by decide +kernel
theorem dX3_placeOf_31 : decode cX3_placeOf 31 = .ok (.iconst 1, 1) := by decide +kernel
theorem dX3_placeOf_32 : decode cX3_placeOf 32 = .ok (.iadd, 1) := by decide +kernel
theorem dX3_placeOf_33 : decode cX3_placeOf 33 = .ok (.iadd, 1) := by decide +kernel
theorem dX3_placeOf_34 : decode cX3_placeOf 34 = .ok (.istore_n 2, 1) := by decide +kernel
theorem dX3_placeOf_35 : decode cX3_placeOf 35 = .ok (.iload_n 3, 1) := by decide +kernel
theorem dX3_placeOf_36 : decode cX3_placeOf 36 = .ok (.iload 4, 2) := by decide +kernel
theorem dX3_placeOf_38 : decode cX3_placeOf 38 = .ok (.iconst 1, 1) := by decide +kernel
theorem dX3_placeOf_39 : decode cX3_placeOf 39 = .ok (.iadd, 1) := by decide +kernel
theorem dX3_placeOf_40 : decode cX3_placeOf 40 = .ok (.isub, 1) := by decide +kernel
theorem dX3_placeOf_41 : decode cX3_placeOf 41 = .ok (.istore_n 3, 1) := by decide +kernel
theorem dX3_placeOf_42 : decode cX3_placeOf 42 = .ok (.goto 6, 3) := by decide +kernel
theorem dX3_placeOf_45 : decode cX3_placeOf 45 = .ok (.iload 4, 2) := by decide +kernel
theorem dX3_placeOf_47 : decode cX3_placeOf 47 = .ok (.istore_n 3, 1) := by decide +kernel
theorem dX3_placeOf_48 : decode cX3_placeOf 48 = .ok (.goto (-41), 3) := by decide +kernel
theorem dX3_placeOf_51 : decode cX3_placeOf 51 = .ok (.iload_n 2, 1) := by decide +kernel
theorem dX3_placeOf_52 : decode cX3_placeOf 52 = .ok (.ireturn, 1) := by decide +kernel
theorem dX3_add_0 : decode cX3_add 0 = .ok (.aload_n 0, 1) := by decide +kernel
theorem dX3_add_1 : decode cX3_add 1 = .ok (.iload_n 1, 1) := by decide +kernel
theorem dX3_add_2 : decode cX3_add 2 = .ok (.invokevirtual 29, 3) := by decide +kernel
theorem dX3_add_5 : decode cX3_add 5 = .ok (.istore_n 3, 1) := by decide +kernel
theorem dX3_add_6 : decode cX3_add 6 = .ok (.iload_n 3, 1) := by decide +kernel
theorem dX3_add_7 : decode cX3_add 7 = .ok (.aload_n 0, 1) := by decide +kernel
theorem dX3_add_8 : decode cX3_add 8 = .ok (.getfield 18, 3) := by decide +kernel
theorem dX3_add_11 : decode cX3_add 11 = .ok (.if_icmp .ge 14, 3) := by decide +kernel
theorem dX3_add_14 : decode cX3_add 14 = .ok (.aload_n 0, 1) := by decide +kernel
theorem dX3_add_15 : decode cX3_add 15 = .ok (.iload_n 3, 1) := by decide +kernel
theorem dX3_add_16 : decode cX3_add 16 = .ok (.invokevirtual 26, 3) := by decide +kernel
theorem dX3_add_19 : decode cX3_add 19 = .ok (.iload_n 1, 1) := by decide +kernel
theorem dX3_add_20 : decode cX3_add 20 = .ok (.if_icmp .ne 5, 3) := by decide +kernel
theorem dX3_add_23 : decode cX3_add 23 = .ok (.iconst 1, 1) := by decide +kernel
theorem dX3_add_24 : decode cX3_add 24 = .ok (.ireturn, 1) := by decide +kernel
theorem dX3_add_25 : decode cX3_add 25 = .ok (.aload_n 0, 1) := by decide +kernel
theorem dX3_add_26 : decode cX3_add 26 = .ok (.getfield 18, 3) := by decide +kernel
theorem dX3_add_29 : decode cX3_add 29 = .ok (.sipush 200, 3) := by decide +kernel
theorem dX3_add_32 : decode cX3_add 32 = .ok (.if_icmp .lt 5, 3) := by decide +kernel
theorem dX3_add_35 : decode cX3_add 35 = .ok (.iconst 0, 1) := by decide +kernel
theorem dX3_add_36 : decode cX3_add 36 = .ok (.ireturn, 1) := by decide +kernel
theorem dX3_add_37 : decode cX3_add 37 = .ok (.aload_n 0, 1) := by decide +kernel
theorem dX3_add_38 : decode cX3_add 38 = .ok (.getfield 18, 3) := by decide +kernel
theorem dX3_add_41 : decode cX3_add 41 = .ok (.istore 4, 2) := by decide +kernel
theorem dX3_add_43 : decode cX3_add 43 = .ok (.iload 4, 2) := by decide +kernel
theorem dX3_add_45 : decode cX3_add 45 = .ok (.iload_n 3, 1) := by decide +kernel
theorem dX3_add_46 : decode cX3_add 46 = .ok (.if_icmp .le 41, 3) := by decide +kernel
theorem dX3_add_49 : decode cX3_add 49 = .ok (.aload_n 0, 1) := by decide +kernel
theorem dX3_add_50 : decode cX3_add 50 = .ok (.getfield 9, 3) := by decide +kernel
theorem dX3_add_53 : decode cX3_add 53 = .ok (.iload 4, 2) := by decide +kernel
theorem dX3_add_55 : decode cX3_add 55 = .ok (.aload_n 0, 1) := by decide +kernel
theorem dX3_add_56 : decode cX3_add 56 = .ok (.getfield 9, 3) := by decide +kernel
theorem dX3_add_59 : decode cX3_add 59 = .ok (.iload 4, 2) := by decide +kernel
theorem dX3_add_61 : decode cX3_add 61 = .ok (.iconst 1, 1) := by decide +kernel
theorem dX3_add_62 : decode cX3_add 62 = .ok (.isub, 1) := by decide +kernel
theorem dX3_add_63 : decode cX3_add 63 = .ok (.iaload, 1) := by decide +kernel
theorem dX3_add_64 : decode cX3_add 64 = .ok (.iastore, 1) := by decide +kernel
theorem dX3_add_65 : decode cX3_add 65 = .ok (.aload_n 0, 1) := by decide +kernel
theorem dX3_add_66 : decode cX3_add 66 = .ok (.getfield 15, 3) := by decide +kernel
theorem dX3_add_69 : decode cX3_add 69 = .ok (.iload 4, 2) := by decide +kernel
theorem dX3_add_71 : decode cX3_add 71 = .ok (.aload_n 0, 1) := by decide +kernel
theorem dX3_add_72 : decode cX3_add 72 = .ok (.getfield 15, 3) := by decide +kernel
theorem dX3_add_75 : decode cX3_add 75 = .ok (.iload 4, 2) := by decide +kernel
theorem dX3_add_77 : decode cX3_add 77 = .ok (.iconst 1, 1) := by decide +kernel
theorem dX3_add_78 : decode cX3_add 78 = .ok (.isub, 1) := by decide +kernel
theorem dX3_add_79 : decode cX3_add 79 = .ok (.iaload, 1) := by decide +kernel
theorem dX3_add_80 : decode cX3_add 80 = .ok (.iastore, 1) := by decide +kernel
theorem dX3_add_81 : decode cX3_add 81 = .ok (.iinc 4 (-1), 3) := by decide +kernel
theorem dX3_add_84 : decode cX3_add 84 = .ok (.goto (-41), 3) := by decide +kernel
theorem dX3_add_87 : decode cX3_add 87 = .ok (.aload_n 0, 1) := by decide +kernel
theorem dX3_add_88 : decode cX3_add 88 = .ok (.getfield 9, 3) := by decide +kernel
theorem dX3_add_91 : decode cX3_add 91 = .ok (.iload_n 3, 1) := by decide +kernel
theorem dX3_add_92 : decode cX3_add 92 = .ok (.iload_n 1, 1) := by decide +kernel
theorem dX3_add_93 : decode cX3_add 93 = .ok (.iastore, 1) := by decide +kernel
theorem dX3_add_94 : decode cX3_add 94 = .ok (.aload_n 0, 1) := by decide +kernel
theorem dX3_add_95 : decode cX3_add 95 = .ok (.getfield 15, 3) := by decide +kernel
theorem dX3_add_98 : decode cX3_add 98 = .ok (.iload_n 3, 1) := by decide +kernel
theorem dX3_add_99 : decode cX3_add 99 = .ok (.iload_n 2, 1) := by decide +kernel
theorem dX3_add_100 : decode cX3_add 100 = .ok (.iastore, 1) := by decide +kernel
theorem dX3_add_101 : decode cX3_add 101 = .ok (.aload_n 0, 1) := by decide +kernel
theorem dX3_add_102 : decode cX3_add 102 = .ok (.dup, 1) := by decide +kernel
theorem dX3_add_103 : decode cX3_add 103 = .ok (.getfield 18, 3) := by decide +kernel
theorem dX3_add_106 : decode cX3_add 106 = .ok (.iconst 1, 1) := by decide +kernel
theorem dX3_add_107 : decode cX3_add 107 = .ok (.iadd, 1) := by decide +kernel
theorem dX3_add_108 : decode cX3_add 108 = .ok (.putfield 18, 3) := by decide +kernel
theorem dX3_add_111 : decode cX3_add 111 = .ok (.iconst 1, 1) := by decide +kernel
theorem dX3_add_112 : decode cX3_add 112 = .ok (.ireturn, 1) := by decide +kernel
theorem dX3_remove_0 : decode cX3_remove 0 = .ok (.aload_n 0, 1) := by decide +kernel
theorem dX3_remove_1 : decode cX3_remove 1 = .ok (.iload_n 1, 1) := by decide +kernel
theorem dX3_remove_2 : decode cX3_remove 2 = .ok (.invokevirtual 29, 3) := by decide +kernel
theorem dX3_remove_5 : decode cX3_remove 5 = .ok (.istore_n 2, 1) := by decide +kernel
theorem dX3_remove_6 : decode cX3_remove 6 = .ok (.iload_n 2, 1) := by decide +kernel
theorem dX3_remove_7 : decode cX3_remove 7 = .ok (.aload_n 0, 1) := by decide +kernel
theorem dX3_remove_8 : decode cX3_remove 8 = .ok (.getfield 18, 3) := by decide +kernel
theorem dX3_remove_11 : decode cX3_remove 11 = .ok (.if_icmp .ge 12, 3) := by decide +kernel
theorem dX3_remove_14 : decode cX3_remove 14 = .ok (.aload_n 0, 1) := by decide +kernel
theorem dX3_remove_15 : decode cX3_remove 15 = .ok (.iload_n 2, 1) := by decide +kernel
theorem dX3_remove_16 : decode cX3_remove 16 = .ok (.invokevirtual 26, 3) := by decide +kernel
theorem dX3_remove_19 : decode cX3_remove 19 = .ok (.iload_n 1, 1) := by decide +kernel
theorem dX3_remove_20 : decode cX3_remove 20 = .ok (.if_icmp .eq 4, 3) := by decide +kernel
theorem dX3_remove_23 : decode cX3_remove 23 = .ok (.return_, 1) := by decide +kernel
theorem dX3_remove_24 : decode cX3_remove 24 = .ok (.aload_n 0, 1) := by decide +kernel
theorem dX3_remove_25 : decode cX3_remove 25 = .ok (.dup, 1) := by decide +kernel
theorem dX3_remove_26 : decode cX3_remove 26 = .ok (.getfield 18, 3) := by decide +kernel
theorem dX3_remove_29 : decode cX3_remove 29 = .ok (.iconst 1, 1) := by decide +kernel
theorem dX3_remove_30 : decode cX3_remove 30 = .ok (.isub, 1) := by decide +kernel
theorem dX3_remove_31 : decode cX3_remove 31 = .ok (.putfield 18, 3) := by decide +kernel
theorem dX3_remove_34 : decode cX3_remove 34 = .ok (.iload_n 2, 1) := by decide +kernel
theorem dX3_remove_35 : decode cX3_remove 35 = .ok (.istore_n 3, 1) := by decide +kernel
theorem dX3_remove_36 : decode cX3_remove 36 = .ok (.iload_n 3, 1) := by decide +kernel
theorem dX3_remove_37 : decode cX3_remove 37 = .ok (.aload_n 0, 1) := by decide +kernel
theorem dX3_remove_38 : decode cX3_remove 38 = .ok (.getfield 18, 3) := by decide +kernel
theorem dX3_remove_41 : decode cX3_remove 41 = .ok (.if_icmp .ge 37, 3) := by decide +kernel
theorem dX3_remove_44 : decode cX3_remove 44 = .ok (.aload_n 0, 1) := by decide +kernel
theorem dX3_remove_45 : decode cX3_remove 45 = .ok (.getfield 9, 3) := by decide +kernel
theorem dX3_remove_48 : decode cX3_remove 48 = .ok (.iload_n 3, 1) := by decide +kernel
theorem dX3_remove_49 : decode cX3_remove 49 = .ok (.aload_n 0, 1) := by decide +kernel
theorem dX3_remove_50 : decode cX3_remove 50 = .ok (.getfield 9, 3) := by decide +kernel
theorem dX3_remove_53 : decode cX3_remove 53 = .ok (.iload_n 3, 1) := by decide +kernel
theorem dX3_remove_54 : decode cX3_remove 54 = .ok (.iconst 1, 1) := by decide +kernel
theorem dX3_remove_55 : decode cX3_remove 55 = .ok (.iadd, 1) := by decide +kernel
theorem dX3_remove_56 : decode cX3_remove 56 = .ok (.iaload, 1) := by decide +kernel
theorem dX3_remove_57 : decode cX3_remove 57 = .ok (.iastore, 1) := by decide +kernel
theorem dX3_remove_58 : decode cX3_remove 58 = .ok (.aload_n 0, 1) := by decide +kernel
theorem dX3_remove_59 : decode cX3_remove 59 = .ok (.getfield 15, 3) := by decide +kernel
theorem dX3_remove_62 : decode cX3_remove 62 = .ok (.iload_n 3, 1) := by decide +kernel
theorem dX3_remove_63 : decode cX3_remove 63 = .ok (.aload_n 0, 1) := by decide +kernel
theorem dX3_remove_64 : decode cX3_remove 64 = .ok (.getfield 15, 3) := by decide +kernel
theorem dX3_remove_67 : decode cX3_remove 67 = .ok (.iload_n 3, 1) := by decide +kernel
theorem dX3_remove_68 : decode cX3_remove 68 = .ok (.iconst 1, 1) := by decide +kernel
theorem dX3_remove_69 : decode cX3_remove 69 = .ok (.iadd, 1) := by decide +kernel
theorem dX3_remove_70 : decode cX3_remove 70 = .ok (.iaload, 1) := by decide +kernel
theorem dX3_remove_71 : decode cX3_remove 71 = .ok (.iastore, 1) := by decide +kernel
theorem dX3_remove_72 : decode cX3_remove 72 = .ok (.iinc 3 1, 3) := by decide +kernel
theorem dX3_remove_75 : decode cX3_remove 75 = .ok (.goto (-39), 3) := by decide +kernel
theorem dX3_remove_78 : decode cX3_remove 78 = .ok (.return_, 1) := by decide +kernel
theorem dX3_wantAll_0 : decode cX3_wantAll 0 = .ok (.iconst 0, 1) := by decide +kernel
theorem dX3_wantAll_1 : decode cX3_wantAll 1 = .ok (.istore_n 2, 1) := by decide +kernel
theorem dX3_wantAll_2 : decode cX3_wantAll 2 = .ok (.iload_n 2, 1) := by decide +kernel
theorem dX3_wantAll_3 : decode cX3_wantAll 3 = .ok (.aload_n 0, 1) := by decide +kernel
theorem dX3_wantAll_4 : decode cX3_wantAll 4 = .ok (.getfield 18, 3) := by decide +kernel
theorem dX3_wantAll_7 : decode cX3_wantAll 7 = .ok (.if_icmp .ge 18, 3) := by decide +kernel
theorem dX3_wantAll_10 : decode cX3_wantAll 10 = .ok (.aload_n 1, 1) := by decide +kernel
theorem dX3_wantAll_11 : decode cX3_wantAll 11 = .ok (.aload_n 0, 1) := by decide +kernel
theorem dX3_wantAll_12 : decode cX3_wantAll 12 = .ok (.iload_n 2, 1) := by decide +kernel
theorem dX3_wantAll_13 : decode cX3_wantAll 13 = .ok (.invokevirtual 26, 3) := by decide +kernel
theorem dX3_wantAll_16 : decode cX3_wantAll 16 = .ok (.invokevirtual 32, 3) := by decide +kernel
theorem dX3_wantAll_19 : decode cX3_wantAll 19 = .ok (.iinc 2 1, 3) := by decide +kernel
theorem dX3_wantAll_22 : decode cX3_wantAll 22 = .ok (.goto (-20), 3) := by decide +kernel
theorem dX3_wantAll_25 : decode cX3_wantAll 25 = .ok (.return_, 1) := by decide +kernel
theorem dX3_writeCheckpoint_0 : decode cX3_writeCheckpoint 0 = .ok (.aload_n 1, 1) := by decide +kernel
theorem dX3_writeCheckpoint_1 : decode cX3_writeCheckpoint 1 = .ok (.bipush 6, 2) := by decide +kernel
theorem dX3_writeCheckpoint_3 : decode cX3_writeCheckpoint 3 = .ok (.iconst 5, 1) := by decide +kernel
theorem dX3_writeCheckpoint_4 : decode cX3_writeCheckpoint 4 = .ok (.aload_n 0, 1) := by decide +kernel
theorem dX3_writeCheckpoint_5 : decode cX3_writeCheckpoint 5 = .ok (.getfield 18, 3) := by decide +kernel
theorem dX3_writeCheckpoint_8 : decode cX3_writeCheckpoint 8 = .ok (.imul, 1) := by decide +kernel
theorem dX3_writeCheckpoint_9 : decode cX3_writeCheckpoint 9 = .ok (.iadd, 1) := by decide +kernel
theorem dX3_writeCheckpoint_10 : decode cX3_writeCheckpoint 10 = .ok (.iconst 4, 1) := by decide +kernel
theorem dX3_writeCheckpoint_11 : decode cX3_writeCheckpoint 11 = .ok (.iadd, 1) := by decide +kernel
theorem dX3_writeCheckpoint_12 : decode cX3_writeCheckpoint 12 = .ok (.invokevirtual 38, 3) := by decide +kernel
theorem dX3_writeCheckpoint_15 : decode cX3_writeCheckpoint 15 = .ok (.aload_n 1, 1) := by decide +kernel
theorem dX3_writeCheckpoint_16 : decode cX3_writeCheckpoint 16 = .ok (.getfield 43, 3) := by decide +kernel
theorem dX3_writeCheckpoint_19 : decode cX3_writeCheckpoint 19 = .ok (.istore_n 3, 1) := by decide +kernel
theorem dX3_writeCheckpoint_20 : decode cX3_writeCheckpoint 20 = .ok (.aload_n 1, 1) := by decide +kernel
theorem dX3_writeCheckpoint_21 : decode cX3_writeCheckpoint 21 = .ok (.bipush 67, 2) := by decide +kernel
theorem dX3_writeCheckpoint_23 : decode cX3_writeCheckpoint 23 = .ok (.invokevirtual 44, 3) := by decide +kernel
theorem dX3_writeCheckpoint_26 : decode cX3_writeCheckpoint 26 = .ok (.aload_n 1, 1) := by decide +kernel
theorem dX3_writeCheckpoint_27 : decode cX3_writeCheckpoint 27 = .ok (.iload_n 2, 1) := by decide +kernel
theorem dX3_writeCheckpoint_28 : decode cX3_writeCheckpoint 28 = .ok (.invokevirtual 47, 3) := by decide +kernel
theorem dX3_writeCheckpoint_31 : decode cX3_writeCheckpoint 31 = .ok (.aload_n 1, 1) := by decide +kernel
theorem dX3_writeCheckpoint_32 : decode cX3_writeCheckpoint 32 = .ok (.aload_n 0, 1) := by decide +kernel
theorem dX3_writeCheckpoint_33 : decode cX3_writeCheckpoint 33 = .ok (.getfield 18, 3) := by decide +kernel
theorem dX3_writeCheckpoint_36 : decode cX3_writeCheckpoint 36 = .ok (.invokevirtual 44, 3) := by decide +kernel
theorem dX3_writeCheckpoint_39 : decode cX3_writeCheckpoint 39 = .ok (.iconst 0, 1) := by decide +kernel
theorem dX3_writeCheckpoint_40 : decode cX3_writeCheckpoint 40 = .ok (.istore 4, 2) := by decide +kernel
theorem dX3_writeCheckpoint_42 : decode cX3_writeCheckpoint 42 = .ok (.iload 4, 2) := by decide +kernel
theorem dX3_writeCheckpoint_44 : decode cX3_writeCheckpoint 44 = .ok (.aload_n 0, 1) := by decide +kernel
theorem dX3_writeCheckpoint_45 : decode cX3_writeCheckpoint 45 = .ok (.getfield 18, 3) := by decide +kernel
theorem dX3_writeCheckpoint_48 : decode cX3_writeCheckpoint 48 = .ok (.if_icmp .ge 29, 3) := by decide +kernel
theorem dX3_writeCheckpoint_51 : decode cX3_writeCheckpoint 51 = .ok (.aload_n 1, 1) := by decide +kernel
theorem dX3_writeCheckpoint_52 : decode cX3_writeCheckpoint 52 = .ok (.aload_n 0, 1) := by decide +kernel
theorem dX3_writeCheckpoint_53 : decode cX3_writeCheckpoint 53 = .ok (.iload 4, 2) := by decide +kernel
theorem dX3_writeCheckpoint_55 : decode cX3_writeCheckpoint 55 = .ok (.invokevirtual 26, 3) := by decide +kernel
theorem dX3_writeCheckpoint_58 : decode cX3_writeCheckpoint 58 = .ok (.invokevirtual 47, 3) := by decide +kernel
theorem dX3_writeCheckpoint_61 : decode cX3_writeCheckpoint 61 = .ok (.aload_n 1, 1) := by decide +kernel
theorem dX3_writeCheckpoint_62 : decode cX3_writeCheckpoint 62 = .ok (.aload_n 0, 1) := by decide +kernel
theorem dX3_writeCheckpoint_63 : decode cX3_writeCheckpoint 63 = .ok (.iload 4, 2) := by decide +kernel
theorem dX3_writeCheckpoint_65 : decode cX3_writeCheckpoint 65 = .ok (.invokevirtual 22, 3) := by decide +kernel
theorem dX3_writeCheckpoint_68 : decode cX3_writeCheckpoint 68 = .ok (.invokevirtual 44, 3) := by decide +kernel
theorem dX3_writeCheckpoint_71 : decode cX3_writeCheckpoint 71 = .ok (.iinc 4 1, 3) := by decide +kernel
theorem dX3_writeCheckpoint_74 : decode cX3_writeCheckpoint 74 = .ok (.goto (-32), 3) := by decide +kernel
theorem dX3_writeCheckpoint_77 : decode cX3_writeCheckpoint 77 = .ok (.aload_n 1, 1) := by decide +kernel
theorem dX3_writeCheckpoint_78 : decode cX3_writeCheckpoint 78 = .ok (.iload_n 3, 1) := by decide +kernel
theorem dX3_writeCheckpoint_79 : decode cX3_writeCheckpoint 79 = .ok (.invokevirtual 50, 3) := by decide +kernel
theorem dX3_writeCheckpoint_82 : decode cX3_writeCheckpoint 82 = .ok (.return_, 1) := by decide +kernel
