theorem dX2_init_0 : decode cX2_init 0 = .ok (.aload_n 0, 1) := by decide +kernel
theorem dX2_init_1 : decode cX2_init 1 = .ok (.invokespecial 3, 3) := by decide +kernel
theorem dX2_init_4 : decode cX2_init 4 = .ok (.return_, 1) := by decide +kernel
theorem dX2_become_0 : decode cX2_become 0 = .ok (.aload_n 0, 1) := by decide +kernel
theorem dX2_become_1 : decode cX2_become 1 = .ok (.iload_n 1, 1) := by decide +kernel
theorem dX2_become_2 : decode cX2_become 2 = .ok (.putfield 9, 3) := by decide +kernel
theorem dX2_become_5 : decode cX2_become 5 = .ok (.aload_n 0, 1) := by decide +kernel
theorem dX2_become_6 : decode cX2_become 6 = .ok (.iload_n 2, 1) := by decide +kernel
theorem dX2_become_7 : decode cX2_become 7 = .ok (.putfield 15, 3) := by decide +kernel
theorem dX2_become_10 : decode cX2_become 10 = .ok (.aload_n 0, 1) := by decide +kernel
theorem dX2_become_11 : decode cX2_become 11 = .ok (.iload_n 3, 1) := by decide +kernel
theorem dX2_become_12 : decode cX2_become 12 = .ok (.putfield 18, 3) := by decide +kernel
theorem dX2_become_15 : decode cX2_become 15 = .ok (.return_, 1) := by decide +kernel
theorem dX2_holdsFor_0 : decode cX2_holdsFor 0 = .ok (.iload_n 1, 1) := by decide +kernel
theorem dX2_holdsFor_1 : decode cX2_holdsFor 1 = .ok (.ldc 21, 2) := by decide +kernel
theorem dX2_holdsFor_3 : decode cX2_holdsFor 3 = .ok (.if_icmp .ne 5, 3) := by decide +kernel
theorem dX2_holdsFor_6 : decode cX2_holdsFor 6 = .ok (.iconst 0, 1) := by decide +kernel
theorem dX2_holdsFor_7 : decode cX2_holdsFor 7 = .ok (.ireturn, 1) := by decide +kernel
theorem dX2_holdsFor_8 : decode cX2_holdsFor 8 = .ok (.aload_n 0, 1) := by decide +kernel
theorem dX2_holdsFor_9 : decode cX2_holdsFor 9 = .ok (.getfield 15, 3) := by decide +kernel
theorem dX2_holdsFor_12 : decode cX2_holdsFor 12 = .ok (.ifCond .ne 17, 3) := by decide +kernel
theorem dX2_holdsFor_15 : decode cX2_holdsFor 15 = .ok (.iload_n 1, 1) := by decide +kernel
theorem dX2_holdsFor_16 : decode cX2_holdsFor 16 = .ok (.aload_n 0, 1) := by decide +kernel
theorem dX2_holdsFor_17 : decode cX2_holdsFor 17 = .ok (.getfield 18, 3) := by decide +kernel
theorem dX2_holdsFor_20 : decode cX2_holdsFor 20 = .ok (.if_icmp .ge 7, 3) := by decide +kernel
theorem dX2_holdsFor_23 : decode cX2_holdsFor 23 = .ok (.iconst 1, 1) := by decide +kernel
theorem dX2_holdsFor_24 : decode cX2_holdsFor 24 = .ok (.goto 4, 3) := by decide +kernel
theorem dX2_holdsFor_27 : decode cX2_holdsFor 27 = .ok (.iconst 0, 1) := by decide +kernel
theorem dX2_holdsFor_28 : decode cX2_holdsFor 28 = .ok (.ireturn, 1) := by decide +kernel
theorem dX2_holdsFor_29 : decode cX2_holdsFor 29 = .ok (.aload_n 0, 1) := by decide +kernel
theorem dX2_holdsFor_30 : decode cX2_holdsFor 30 = .ok (.getfield 15, 3) := by decide +kernel
theorem dX2_holdsFor_33 : decode cX2_holdsFor 33 = .ok (.iconst 1, 1) := by decide +kernel
theorem dX2_holdsFor_34 : decode cX2_holdsFor 34 = .ok (.if_icmp .ne 19, 3) := by decide +kernel
theorem dX2_holdsFor_37 : decode cX2_holdsFor 37 = .ok (.iload_n 1, 1) := by decide +kernel
theorem dX2_holdsFor_38 : decode cX2_holdsFor 38 = .ok (.aload_n 0, 1) := by decide +kernel
theorem dX2_holdsFor_39 : decode cX2_holdsFor 39 = .ok (.getfield 18, 3) := by decide +kernel
theorem dX2_holdsFor_42 : decode cX2_holdsFor 42 = .ok (.if_icmp .lt 7, 3) := by decide +kernel
theorem dX2_holdsFor_45 : decode cX2_holdsFor 45 = .ok (.iconst 1, 1) := by decide +kernel
theorem dX2_holdsFor_46 : decode cX2_holdsFor 46 = .ok (.goto 20, 3) := by decide +kernel
theorem dX2_holdsFor_49 : decode cX2_holdsFor 49 = .ok (.iconst 0, 1) := by decide +kernel
theorem dX2_holdsFor_50 : decode cX2_holdsFor 50 = .ok (.goto 16, 3) := by decide +kernel
theorem dX2_holdsFor_53 : decode cX2_holdsFor 53 = .ok (.iload_n 1, 1) := by decide +kernel
theorem dX2_holdsFor_54 : decode cX2_holdsFor 54 = .ok (.aload_n 0, 1) := by decide +kernel
theorem dX2_holdsFor_55 : decode cX2_holdsFor 55 = .ok (.getfield 18, 3) := by decide +kernel
theorem dX2_holdsFor_58 : decode cX2_holdsFor 58 = .ok (.if_icmp .ne 7, 3) := by decide +kernel
theorem dX2_holdsFor_61 : decode cX2_holdsFor 61 = .ok (.iconst 1, 1) := by decide +kernel
theorem dX2_holdsFor_62 : decode cX2_holdsFor 62 = .ok (.goto 4, 3) := by decide +kernel
theorem dX2_holdsFor_65 : decode cX2_holdsFor 65 = .ok (.iconst 0, 1) := by decide +kernel
theorem dX2_holdsFor_66 : decode cX2_holdsFor 66 = .ok (.ireturn, 1) := by decide +kernel
theorem dX2_mayHoldIn_0 : decode cX2_mayHoldIn 0 = .ok (.aload_n 1, 1) := by decide +kernel
theorem dX2_mayHoldIn_1 : decode cX2_mayHoldIn 1 = .ok (.aload_n 0, 1) := by decide +kernel
theorem dX2_mayHoldIn_2 : decode cX2_mayHoldIn 2 = .ok (.getfield 9, 3) := by decide +kernel
theorem dX2_mayHoldIn_5 : decode cX2_mayHoldIn 5 = .ok (.invokevirtual 22, 3) := by decide +kernel
theorem dX2_mayHoldIn_8 : decode cX2_mayHoldIn 8 = .ok (.ifCond .ne 5, 3) := by decide +kernel
theorem dX2_mayHoldIn_11 : decode cX2_mayHoldIn 11 = .ok (.iconst 0, 1) := by decide +kernel
theorem dX2_mayHoldIn_12 : decode cX2_mayHoldIn 12 = .ok (.ireturn, 1) := by decide +kernel
theorem dX2_mayHoldIn_13 : decode cX2_mayHoldIn 13 = .ok (.aload_n 0, 1) := by decide +kernel
theorem dX2_mayHoldIn_14 : decode cX2_mayHoldIn 14 = .ok (.getfield 15, 3) := by decide +kernel
theorem dX2_mayHoldIn_17 : decode cX2_mayHoldIn 17 = .ok (.ifCond .ne 24, 3) := by decide +kernel
theorem dX2_mayHoldIn_20 : decode cX2_mayHoldIn 20 = .ok (.aload_n 1, 1) := by decide +kernel
theorem dX2_mayHoldIn_21 : decode cX2_mayHoldIn 21 = .ok (.aload_n 0, 1) := by decide +kernel
theorem dX2_mayHoldIn_22 : decode cX2_mayHoldIn 22 = .ok (.getfield 9, 3) := by decide +kernel
theorem dX2_mayHoldIn_25 : decode cX2_mayHoldIn 25 = .ok (.invokevirtual 28, 3) := by decide +kernel
theorem dX2_mayHoldIn_28 : decode cX2_mayHoldIn 28 = .ok (.aload_n 0, 1) := by decide +kernel
theorem dX2_mayHoldIn_29 : decode cX2_mayHoldIn 29 = .ok (.getfield 18, 3) := by decide +kernel
theorem dX2_mayHoldIn_32 : decode cX2_mayHoldIn 32 = .ok (.if_icmp .ge 7, 3) := by decide +kernel
theorem dX2_mayHoldIn_35 : decode cX2_mayHoldIn 35 = .ok (.iconst 1, 1) := by decide +kernel
theorem dX2_mayHoldIn_36 : decode cX2_mayHoldIn 36 = .ok (.goto 4, 3) := by decide +kernel
theorem dX2_mayHoldIn_39 : decode cX2_mayHoldIn 39 = .ok (.iconst 0, 1) := by decide +kernel
theorem dX2_mayHoldIn_40 : decode cX2_mayHoldIn 40 = .ok (.ireturn, 1) := by decide +kernel
theorem dX2_mayHoldIn_41 : decode cX2_mayHoldIn 41 = .ok (.aload_n 1, 1) := by decide +kernel
theorem dX2_mayHoldIn_42 : decode cX2_mayHoldIn 42 = .ok (.aload_n 0, 1) := by decide +kernel
theorem dX2_mayHoldIn_43 : decode cX2_mayHoldIn 43 = .ok (.getfield 9, 3) := by decide +kernel
theorem dX2_mayHoldIn_46 : decode cX2_mayHoldIn 46 = .ok (.invokevirtual 32, 3) := by decide +kernel
theorem dX2_mayHoldIn_49 : decode cX2_mayHoldIn 49 = .ok (.aload_n 0, 1) := by decide +kernel
theorem dX2_mayHoldIn_50 : decode cX2_mayHoldIn 50 = .ok (.getfield 18, 3) := by decide +kernel
theorem dX2_mayHoldIn_53 : decode cX2_mayHoldIn 53 = .ok (.if_icmp .lt 7, 3) := by decide +kernel
theorem dX2_mayHoldIn_56 : decode cX2_mayHoldIn 56 = .ok (.iconst 1, 1) := by decide +kernel
theorem dX2_mayHoldIn_57 : decode cX2_mayHoldIn 57 = .ok (.goto 4, 3) := by decide +kernel
theorem dX2_mayHoldIn_60 : decode cX2_mayHoldIn 60 = .ok (.iconst 0, 1) := by decide +kernel
theorem dX2_mayHoldIn_61 : decode cX2_mayHoldIn 61 = .ok (.istore_n 2, 1) := by decide +kernel
theorem dX2_mayHoldIn_62 : decode cX2_mayHoldIn 62 = .ok (.aload_n 0, 1) := by decide +kernel
theorem dX2_mayHoldIn_63 : decode cX2_mayHoldIn 63 = .ok (.getfield 15, 3) := by decide +kernel
theorem dX2_mayHoldIn_66 : decode cX2_mayHoldIn 66 = .ok (.iconst 1, 1) := by decide +kernel
theorem dX2_mayHoldIn_67 : decode cX2_mayHoldIn 67 = .ok (.if_icmp .ne 7, 3) := by decide +kernel
theorem dX2_mayHoldIn_70 : decode cX2_mayHoldIn 70 = .ok (.iload_n 2, 1) := by decide +kernel
theorem dX2_mayHoldIn_71 : decode cX2_mayHoldIn 71 = .ok (.goto 27, 3) := by decide +kernel
theorem dX2_mayHoldIn_74 : decode cX2_mayHoldIn 74 = .ok (.iload_n 2, 1) := by decide +kernel
theorem dX2_mayHoldIn_75 : decode cX2_mayHoldIn 75 = .ok (.ifCond .eq 22, 3) := by decide +kernel
theorem dX2_mayHoldIn_78 : decode cX2_mayHoldIn 78 = .ok (.aload_n 1, 1) := by decide +kernel
theorem dX2_mayHoldIn_79 : decode cX2_mayHoldIn 79 = .ok (.aload_n 0, 1) := by decide +kernel
theorem dX2_mayHoldIn_80 : decode cX2_mayHoldIn 80 = .ok (.getfield 9, 3) := by decide +kernel
theorem dX2_mayHoldIn_83 : decode cX2_mayHoldIn 83 = .ok (.invokevirtual 28, 3) := by decide +kernel
theorem dX2_mayHoldIn_86 : decode cX2_mayHoldIn 86 = .ok (.aload_n 0, 1) := by decide +kernel
theorem dX2_mayHoldIn_87 : decode cX2_mayHoldIn 87 = .ok (.getfield 18, 3) := by decide +kernel
theorem dX2_mayHoldIn_90 : decode cX2_mayHoldIn 90 = .ok (.if_icmp .gt 7, 3) := by decide +kernel
theorem dX2_mayHoldIn_93 : decode cX2_mayHoldIn 93 = .ok (.iconst 1, 1) := by decide +kernel
theorem dX2_mayHoldIn_94 : decode cX2_mayHoldIn 94 = .ok (.goto 4, 3) := by decide +kernel
theorem dX2_mayHoldIn_97 : decode cX2_mayHoldIn 97 = .ok (.iconst 0, 1) := by decide +kernel
theorem dX2_mayHoldIn_98 : decode cX2_mayHoldIn 98 = .ok (.ireturn, 1) := by decide +kernel
theorem dX2_hitsIn_0 : decode cX2_hitsIn 0 = .ok (.iconst 0, 1) := by decide +kernel
theorem dX2_hitsIn_1 : decode cX2_hitsIn 1 = .ok (.istore_n 2, 1) := by decide +kernel
theorem dX2_hitsIn_2 : decode cX2_hitsIn 2 = .ok (.iconst 0, 1) := by decide +kernel
theorem dX2_hitsIn_3 : decode cX2_hitsIn 3 = .ok (.istore_n 3, 1) := by decide +kernel
theorem dX2_hitsIn_4 : decode cX2_hitsIn 4 = .ok (.iload_n 3, 1) := by decide +kernel
theorem dX2_hitsIn_5 : decode cX2_hitsIn 5 = .ok (.aload_n 1, 1) := by decide +kernel
theorem dX2_hitsIn_6 : decode cX2_hitsIn 6 = .ok (.getfield 35, 3) := by decide +kernel
theorem dX2_hitsIn_9 : decode cX2_hitsIn 9 = .ok (.if_icmp .ge 33, 3) := by decide +kernel
theorem dX2_hitsIn_12 : decode cX2_hitsIn 12 = .ok (.iload_n 2, 1) := by decide +kernel
theorem dX2_hitsIn_13 : decode cX2_hitsIn 13 = .ok (.aload_n 0, 1) := by decide +kernel
theorem dX2_hitsIn_14 : decode cX2_hitsIn 14 = .ok (.aload_n 1, 1) := by decide +kernel
theorem dX2_hitsIn_15 : decode cX2_hitsIn 15 = .ok (.aload_n 0, 1) := by decide +kernel
theorem dX2_hitsIn_16 : decode cX2_hitsIn 16 = .ok (.getfield 9, 3) := by decide +kernel
theorem dX2_hitsIn_19 : decode cX2_hitsIn 19 = .ok (.iload_n 3, 1) := by decide +kernel
theorem dX2_hitsIn_20 : decode cX2_hitsIn 20 = .ok (.invokevirtual 38, 3) := by decide +kernel
theorem dX2_hitsIn_23 : decode cX2_hitsIn 23 = .ok (.invokevirtual 42, 3) := by decide +kernel
theorem dX2_hitsIn_26 : decode cX2_hitsIn 26 = .ok (.ifCond .eq 7, 3) := by decide +kernel
theorem dX2_hitsIn_29 : decode cX2_hitsIn 29 = .ok (.iconst 1, 1) := by decide +kernel
theorem dX2_hitsIn_30 : decode cX2_hitsIn 30 = .ok (.goto 4, 3) := by decide +kernel
theorem dX2_hitsIn_33 : decode cX2_hitsIn 33 = .ok (.iconst 0, 1) := by decide +kernel
theorem dX2_hitsIn_34 : decode cX2_hitsIn 34 = .ok (.iadd, 1) := by decide +kernel
theorem dX2_hitsIn_35 : decode cX2_hitsIn 35 = .ok (.istore_n 2, 1) := by decide +kernel
theorem dX2_hitsIn_36 : decode cX2_hitsIn 36 = .ok (.iinc 3 1, 3) := by decide +kernel
theorem dX2_hitsIn_39 : decode cX2_hitsIn 39 = .ok (.goto (-35), 3) := by decide +kernel
theorem dX2_hitsIn_42 : decode cX2_hitsIn 42 = .ok (.iload_n 2, 1) := by decide +kernel
theorem dX2_hitsIn_43 : decode cX2_hitsIn 43 = .ok (.ireturn, 1) := by decide +kernel
theorem dX2_sumIn_0 : decode cX2_sumIn 0 = .ok (.iconst 0, 1) := by decide +kernel
theorem dX2_sumIn_1 : decode cX2_sumIn 1 = .ok (.istore_n 2, 1) := by decide +kernel
theorem dX2_sumIn_2 : decode cX2_sumIn 2 = .ok (.iconst 0, 1) := by decide +kernel
theorem dX2_sumIn_3 : decode cX2_sumIn 3 = .ok (.istore_n 3, 1) := by decide +kernel
theorem dX2_sumIn_4 : decode cX2_sumIn 4 = .ok (.iload_n 3, 1) := by decide +kernel
theorem dX2_sumIn_5 : decode cX2_sumIn 5 = .ok (.aload_n 1, 1) := by decide +kernel
theorem dX2_sumIn_6 : decode cX2_sumIn 6 = .ok (.getfield 35, 3) := by decide +kernel
theorem dX2_sumIn_9 : decode cX2_sumIn 9 = .ok (.if_icmp .ge 38, 3) := by decide +kernel
theorem dX2_sumIn_12 : decode cX2_sumIn 12 = .ok (.aload_n 1, 1) := by decide +kernel
theorem dX2_sumIn_13 : decode cX2_sumIn 13 = .ok (.aload_n 0, 1) := by decide +kernel
theorem dX2_sumIn_14 : decode cX2_sumIn 14 = .ok (.getfield 9, 3) := by decide +kernel
theorem dX2_sumIn_17 : decode cX2_sumIn 17 = .ok (.iload_n 3, 1) := by decide +kernel
theorem dX2_sumIn_18 : decode cX2_sumIn 18 = .ok (.invokevirtual 38, 3) := by decide +kernel
theorem dX2_sumIn_21 : decode cX2_sumIn 21 = .ok (.istore 4, 2) := by decide +kernel
theorem dX2_sumIn_23 : decode cX2_sumIn 23 = .ok (.iload_n 2, 1) := by decide +kernel
theorem dX2_sumIn_24 : decode cX2_sumIn 24 = .ok (.aload_n 0, 1) := by decide +kernel
theorem dX2_sumIn_25 : decode cX2_sumIn 25 = .ok (.iload 4, 2) := by decide +kernel
theorem dX2_sumIn_27 : decode cX2_sumIn 27 = .ok (.invokevirtual 42, 3) := by decide +kernel
theorem dX2_sumIn_30 : decode cX2_sumIn 30 = .ok (.ifCond .eq 8, 3) := by decide +kernel
theorem dX2_sumIn_33 : decode cX2_sumIn 33 = .ok (.iload 4, 2) := by decide +kernel
theorem dX2_sumIn_35 : decode cX2_sumIn 35 = .ok (.goto 4, 3) := by decide +kernel
theorem dX2_sumIn_38 : decode cX2_sumIn 38 = .ok (.iconst 0, 1) := by decide +kernel
theorem dX2_sumIn_39 : decode cX2_sumIn 39 = .ok (.iadd, 1) := by decide +kernel
theorem dX2_sumIn_40 : decode cX2_sumIn 40 = .ok (.istore_n 2, 1) := by decide +kernel
theorem dX2_sumIn_41 : decode cX2_sumIn 41 = .ok (.iinc 3 1, 3) := by decide +kernel
theorem dX2_sumIn_44 : decode cX2_sumIn 44 = .ok (.goto (-40), 3) := by decide +kernel
theorem dX2_sumIn_47 : decode cX2_sumIn 47 = .ok (.iload_n 2, 1) := by decide +kernel
theorem dX2_sumIn_48 : decode cX2_sumIn 48 = .ok (.ireturn, 1) := by decide +kernel
theorem dX2_copyOthers_0 : decode cX2_copyOthers 0 = .ok (.iconst 0, 1) := by decide +kernel
theorem dX2_copyOthers_1 : decode cX2_copyOthers 1 = .ok (.istore_n 3, 1) := by decide +kernel
theorem dX2_copyOthers_2 : decode cX2_copyOthers 2 = .ok (.iload_n 3, 1) := by decide +kernel
theorem dX2_copyOthers_3 : decode cX2_copyOthers 3 = .ok (.aload_n 1, 1) := by decide +kernel
theorem dX2_copyOthers_4 : decode cX2_copyOthers 4 = .ok (.getfield 35, 3) := by decide +kernel
theorem dX2_copyOthers_7 : decode cX2_copyOthers 7 = .ok (.if_icmp .ge 31, 3) := by decide +kernel
theorem dX2_copyOthers_10 : decode cX2_copyOthers 10 = .ok (.aload_n 0, 1) := by decide +kernel
theorem dX2_copyOthers_11 : decode cX2_copyOthers 11 = .ok (.aload_n 1, 1) := by decide +kernel
theorem dX2_copyOthers_12 : decode cX2_copyOthers 12 = .ok (.aload_n 0, 1) := by decide +kernel
theorem dX2_copyOthers_13 : decode cX2_copyOthers 13 = .ok (.getfield 9, 3) := by decide +kernel
theorem dX2_copyOthers_16 : decode cX2_copyOthers 16 = .ok (.iload_n 3, 1) := by decide +kernel
theorem dX2_copyOthers_17 : decode cX2_copyOthers 17 = .ok (.invokevirtual 38, 3) := by decide +kernel
theorem dX2_copyOthers_20 : decode cX2_copyOthers 20 = .ok (.invokevirtual 42, 3) := by decide +kernel
theorem dX2_copyOthers_23 : decode cX2_copyOthers 23 = .ok (.ifCond .ne 9, 3) := by decide +kernel
theorem dX2_copyOthers_26 : decode cX2_copyOthers 26 = .ok (.aload_n 2, 1) := by decide +kernel
theorem dX2_copyOthers_27 : decode cX2_copyOthers 27 = .ok (.aload_n 1, 1) := by decide +kernel
theorem dX2_copyOthers_28 : decode cX2_copyOthers 28 = .ok (.iload_n 3, 1) := by decide +kernel
theorem dX2_copyOthers_29 : decode cX2_copyOthers 29 = .ok (.invokevirtual 45, 3) := by decide +kernel
theorem dX2_copyOthers_32 : decode cX2_copyOthers 32 = .ok (.iinc 3 1, 3) := by decide +kernel
theorem dX2_copyOthers_35 : decode cX2_copyOthers 35 = .ok (.goto (-33), 3) := by decide +kernel
theorem dX2_copyOthers_38 : decode cX2_copyOthers 38 = .ok (.return_, 1) := by decide +kernel
