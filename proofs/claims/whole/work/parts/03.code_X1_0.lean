theorem dX1_init_0 : decode cX1_init 0 = .ok (.aload_n 0, 1) := by decide +kernel
theorem dX1_init_1 : decode cX1_init 1 = .ok (.invokespecial 3, 3) := by decide +kernel
theorem dX1_init_4 : decode cX1_init 4 = .ok (.aload_n 0, 1) := by decide +kernel
theorem dX1_init_5 : decode cX1_init 5 = .ok (.iload_n 1, 1) := by decide +kernel
theorem dX1_init_6 : decode cX1_init 6 = .ok (.putfield 9, 3) := by decide +kernel
theorem dX1_init_9 : decode cX1_init 9 = .ok (.aload_n 0, 1) := by decide +kernel
theorem dX1_init_10 : decode cX1_init 10 = .ok (.aload_n 2, 1) := by decide +kernel
theorem dX1_init_11 : decode cX1_init 11 = .ok (.putfield 15, 3) := by decide +kernel
theorem dX1_init_14 : decode cX1_init 14 = .ok (.return_, 1) := by decide +kernel
theorem dX1_octetAt_0 : decode cX1_octetAt 0 = .ok (.iload_n 1, 1) := by decide +kernel
theorem dX1_octetAt_1 : decode cX1_octetAt 1 = .ok (.ifCond .lt 12, 3) := by decide +kernel
theorem dX1_octetAt_4 : decode cX1_octetAt 4 = .ok (.iload_n 1, 1) := by decide +kernel
theorem dX1_octetAt_5 : decode cX1_octetAt 5 = .ok (.aload_n 0, 1) := by decide +kernel
theorem dX1_octetAt_6 : decode cX1_octetAt 6 = .ok (.getfield 15, 3) := by decide +kernel
theorem dX1_octetAt_9 : decode cX1_octetAt 9 = .ok (.arraylength, 1) := by decide +kernel
theorem dX1_octetAt_10 : decode cX1_octetAt 10 = .ok (.if_icmp .lt 7, 3) := by decide +kernel
theorem dX1_octetAt_13 : decode cX1_octetAt 13 = .ok (.iconst (-1), 1) := by decide +kernel
theorem dX1_octetAt_14 : decode cX1_octetAt 14 = .ok (.goto 13, 3) := by decide +kernel
theorem dX1_octetAt_17 : decode cX1_octetAt 17 = .ok (.aload_n 0, 1) := by decide +kernel
theorem dX1_octetAt_18 : decode cX1_octetAt 18 = .ok (.getfield 15, 3) := by decide +kernel
theorem dX1_octetAt_21 : decode cX1_octetAt 21 = .ok (.iload_n 1, 1) := by decide +kernel
theorem dX1_octetAt_22 : decode cX1_octetAt 22 = .ok (.baload, 1) := by decide +kernel
theorem dX1_octetAt_23 : decode cX1_octetAt 23 = .ok (.sipush 255, 3) := by decide +kernel
theorem dX1_octetAt_26 : decode cX1_octetAt 26 = .ok (.iand, 1) := by decide +kernel
theorem dX1_octetAt_27 : decode cX1_octetAt 27 = .ok (.ireturn, 1) := by decide +kernel
theorem dX1_u4At_0 : decode cX1_u4At 0 = .ok (.iload_n 1, 1) := by decide +kernel
theorem dX1_u4At_1 : decode cX1_u4At 1 = .ok (.ifCond .lt 14, 3) := by decide +kernel
theorem dX1_u4At_4 : decode cX1_u4At 4 = .ok (.iload_n 1, 1) := by decide +kernel
theorem dX1_u4At_5 : decode cX1_u4At 5 = .ok (.aload_n 0, 1) := by decide +kernel
theorem dX1_u4At_6 : decode cX1_u4At 6 = .ok (.getfield 15, 3) := by decide +kernel
theorem dX1_u4At_9 : decode cX1_u4At 9 = .ok (.arraylength, 1) := by decide +kernel
theorem dX1_u4At_10 : decode cX1_u4At 10 = .ok (.iconst 4, 1) := by decide +kernel
theorem dX1_u4At_11 : decode cX1_u4At 11 = .ok (.isub, 1) := by decide +kernel
theorem dX1_u4At_12 : decode cX1_u4At 12 = .ok (.if_icmp .le 5, 3) := by decide +kernel
theorem dX1_u4At_15 : decode cX1_u4At 15 = .ok (.iconst (-1), 1) := by decide +kernel
theorem dX1_u4At_16 : decode cX1_u4At 16 = .ok (.ireturn, 1) := by decide +kernel
theorem dX1_u4At_17 : decode cX1_u4At 17 = .ok (.aload_n 0, 1) := by decide +kernel
theorem dX1_u4At_18 : decode cX1_u4At 18 = .ok (.getfield 15, 3) := by decide +kernel
theorem dX1_u4At_21 : decode cX1_u4At 21 = .ok (.iload_n 1, 1) := by decide +kernel
theorem dX1_u4At_22 : decode cX1_u4At 22 = .ok (.baload, 1) := by decide +kernel
theorem dX1_u4At_23 : decode cX1_u4At 23 = .ok (.sipush 255, 3) := by decide +kernel
theorem dX1_u4At_26 : decode cX1_u4At 26 = .ok (.iand, 1) := by decide +kernel
theorem dX1_u4At_27 : decode cX1_u4At 27 = .ok (.bipush 24, 2) := by decide +kernel
theorem dX1_u4At_29 : decode cX1_u4At 29 = .ok (.ishl, 1) := by decide +kernel
theorem dX1_u4At_30 : decode cX1_u4At 30 = .ok (.aload_n 0, 1) := by decide +kernel
theorem dX1_u4At_31 : decode cX1_u4At 31 = .ok (.getfield 15, 3) := by decide +kernel
theorem dX1_u4At_34 : decode cX1_u4At 34 = .ok (.iload_n 1, 1) := by decide +kernel
theorem dX1_u4At_35 : decode cX1_u4At 35 = .ok (.iconst 1, 1) := by decide +kernel
theorem dX1_u4At_36 : decode cX1_u4At 36 = .ok (.iadd, 1) := by decide +kernel
theorem dX1_u4At_37 : decode cX1_u4At 37 = .ok (.baload, 1) := by decide +kernel
theorem dX1_u4At_38 : decode cX1_u4At 38 = .ok (.sipush 255, 3) := by decide +kernel
theorem dX1_u4At_41 : decode cX1_u4At 41 = .ok (.iand, 1) := by decide +kernel
theorem dX1_u4At_42 : decode cX1_u4At 42 = .ok (.bipush 16, 2) := by decide +kernel
theorem dX1_u4At_44 : decode cX1_u4At 44 = .ok (.ishl, 1) := by decide +kernel
theorem dX1_u4At_45 : decode cX1_u4At 45 = .ok (.ior, 1) := by decide +kernel
theorem dX1_u4At_46 : decode cX1_u4At 46 = .ok (.aload_n 0, 1) := by decide +kernel
theorem dX1_u4At_47 : decode cX1_u4At 47 = .ok (.getfield 15, 3) := by decide +kernel
theorem dX1_u4At_50 : decode cX1_u4At 50 = .ok (.iload_n 1, 1) := by decide +kernel
theorem dX1_u4At_51 : decode cX1_u4At 51 = .ok (.iconst 2, 1) := by decide +kernel
theorem dX1_u4At_52 : decode cX1_u4At 52 = .ok (.iadd, 1) := by decide +kernel
theorem dX1_u4At_53 : decode cX1_u4At 53 = .ok (.baload, 1) := by decide +kernel
theorem dX1_u4At_54 : decode cX1_u4At 54 = .ok (.sipush 255, 3) := by decide +kernel
theorem dX1_u4At_57 : decode cX1_u4At 57 = .ok (.iand, 1) := by decide +kernel
theorem dX1_u4At_58 : decode cX1_u4At 58 = .ok (.bipush 8, 2) := by decide +kernel
theorem dX1_u4At_60 : decode cX1_u4At 60 = .ok (.ishl, 1) := by decide +kernel
theorem dX1_u4At_61 : decode cX1_u4At 61 = .ok (.ior, 1) := by decide +kernel
theorem dX1_u4At_62 : decode cX1_u4At 62 = .ok (.aload_n 0, 1) := by decide +kernel
theorem dX1_u4At_63 : decode cX1_u4At 63 = .ok (.getfield 15, 3) := by decide +kernel
theorem dX1_u4At_66 : decode cX1_u4At 66 = .ok (.iload_n 1, 1) := by decide +kernel
theorem dX1_u4At_67 : decode cX1_u4At 67 = .ok (.iconst 3, 1) := by decide +kernel
theorem dX1_u4At_68 : decode cX1_u4At 68 = .ok (.iadd, 1) := by decide +kernel
theorem dX1_u4At_69 : decode cX1_u4At 69 = .ok (.baload, 1) := by decide +kernel
theorem dX1_u4At_70 : decode cX1_u4At 70 = .ok (.sipush 255, 3) := by decide +kernel
theorem dX1_u4At_73 : decode cX1_u4At 73 = .ok (.iand, 1) := by decide +kernel
theorem dX1_u4At_74 : decode cX1_u4At 74 = .ok (.ior, 1) := by decide +kernel
theorem dX1_u4At_75 : decode cX1_u4At 75 = .ok (.ireturn, 1) := by decide +kernel
theorem dX1_replace_0 : decode cX1_replace 0 = .ok (.aload_n 0, 1) := by decide +kernel
theorem dX1_replace_1 : decode cX1_replace 1 = .ok (.iload_n 1, 1) := by decide +kernel
theorem dX1_replace_2 : decode cX1_replace 2 = .ok (.invokevirtual 19, 3) := by decide +kernel
theorem dX1_replace_5 : decode cX1_replace 5 = .ok (.istore_n 3, 1) := by decide +kernel
theorem dX1_replace_6 : decode cX1_replace 6 = .ok (.iload_n 3, 1) := by decide +kernel
theorem dX1_replace_7 : decode cX1_replace 7 = .ok (.iconst (-1), 1) := by decide +kernel
theorem dX1_replace_8 : decode cX1_replace 8 = .ok (.if_icmp .eq 16, 3) := by decide +kernel
theorem dX1_replace_11 : decode cX1_replace 11 = .ok (.aload_n 0, 1) := by decide +kernel
theorem dX1_replace_12 : decode cX1_replace 12 = .ok (.getfield 15, 3) := by decide +kernel
theorem dX1_replace_15 : decode cX1_replace 15 = .ok (.iload_n 1, 1) := by decide +kernel
theorem dX1_replace_16 : decode cX1_replace 16 = .ok (.iload_n 2, 1) := by decide +kernel
theorem dX1_replace_17 : decode cX1_replace 17 = .ok (.i2b, 1) := by decide +kernel
theorem dX1_replace_18 : decode cX1_replace 18 = .ok (.bastore, 1) := by decide +kernel
theorem dX1_replace_19 : decode cX1_replace 19 = .ok (.aload_n 0, 1) := by decide +kernel
theorem dX1_replace_20 : decode cX1_replace 20 = .ok (.iconst 0, 1) := by decide +kernel
theorem dX1_replace_21 : decode cX1_replace 21 = .ok (.putfield 23, 3) := by decide +kernel
theorem dX1_replace_24 : decode cX1_replace 24 = .ok (.iload_n 3, 1) := by decide +kernel
theorem dX1_replace_25 : decode cX1_replace 25 = .ok (.ireturn, 1) := by decide +kernel
theorem dX1_told_0 : decode cX1_told 0 = .ok (.aload_n 0, 1) := by decide +kernel
theorem dX1_told_1 : decode cX1_told 1 = .ok (.getfield 15, 3) := by decide +kernel
theorem dX1_told_4 : decode cX1_told 4 = .ok (.arraylength, 1) := by decide +kernel
theorem dX1_told_5 : decode cX1_told 5 = .ok (.bipush 6, 2) := by decide +kernel
theorem dX1_told_7 : decode cX1_told 7 = .ok (.if_icmp .ge 7, 3) := by decide +kernel
theorem dX1_told_10 : decode cX1_told 10 = .ok (.iconst 0, 1) := by decide +kernel
theorem dX1_told_11 : decode cX1_told 11 = .ok (.goto 13, 3) := by decide +kernel
theorem dX1_told_14 : decode cX1_told 14 = .ok (.aload_n 0, 1) := by decide +kernel
theorem dX1_told_15 : decode cX1_told 15 = .ok (.getfield 15, 3) := by decide +kernel
theorem dX1_told_18 : decode cX1_told 18 = .ok (.iconst 5, 1) := by decide +kernel
theorem dX1_told_19 : decode cX1_told 19 = .ok (.baload, 1) := by decide +kernel
theorem dX1_told_20 : decode cX1_told 20 = .ok (.sipush 255, 3) := by decide +kernel
theorem dX1_told_23 : decode cX1_told 23 = .ok (.iand, 1) := by decide +kernel
theorem dX1_told_24 : decode cX1_told 24 = .ok (.ireturn, 1) := by decide +kernel
theorem dX1_isFramed_0 : decode cX1_isFramed 0 = .ok (.bipush 6, 2) := by decide +kernel
theorem dX1_isFramed_2 : decode cX1_isFramed 2 = .ok (.iload_n 2, 1) := by decide +kernel
theorem dX1_isFramed_3 : decode cX1_isFramed 3 = .ok (.aload_n 0, 1) := by decide +kernel
theorem dX1_isFramed_4 : decode cX1_isFramed 4 = .ok (.invokevirtual 27, 3) := by decide +kernel
theorem dX1_isFramed_7 : decode cX1_isFramed 7 = .ok (.imul, 1) := by decide +kernel
theorem dX1_isFramed_8 : decode cX1_isFramed 8 = .ok (.iadd, 1) := by decide +kernel
theorem dX1_isFramed_9 : decode cX1_isFramed 9 = .ok (.istore_n 3, 1) := by decide +kernel
theorem dX1_isFramed_10 : decode cX1_isFramed 10 = .ok (.aload_n 0, 1) := by decide +kernel
theorem dX1_isFramed_11 : decode cX1_isFramed 11 = .ok (.getfield 15, 3) := by decide +kernel
theorem dX1_isFramed_14 : decode cX1_isFramed 14 = .ok (.arraylength, 1) := by decide +kernel
theorem dX1_isFramed_15 : decode cX1_isFramed 15 = .ok (.iload_n 3, 1) := by decide +kernel
theorem dX1_isFramed_16 : decode cX1_isFramed 16 = .ok (.iconst 4, 1) := by decide +kernel
theorem dX1_isFramed_17 : decode cX1_isFramed 17 = .ok (.iadd, 1) := by decide +kernel
theorem dX1_isFramed_18 : decode cX1_isFramed 18 = .ok (.if_icmp .ne 45, 3) := by decide +kernel
theorem dX1_isFramed_21 : decode cX1_isFramed 21 = .ok (.aload_n 0, 1) := by decide +kernel
theorem dX1_isFramed_22 : decode cX1_isFramed 22 = .ok (.iconst 0, 1) := by decide +kernel
theorem dX1_isFramed_23 : decode cX1_isFramed 23 = .ok (.invokevirtual 19, 3) := by decide +kernel
theorem dX1_isFramed_26 : decode cX1_isFramed 26 = .ok (.iload_n 1, 1) := by decide +kernel
theorem dX1_isFramed_27 : decode cX1_isFramed 27 = .ok (.if_icmp .ne 36, 3) := by decide +kernel
theorem dX1_isFramed_30 : decode cX1_isFramed 30 = .ok (.aload_n 0, 1) := by decide +kernel
theorem dX1_isFramed_31 : decode cX1_isFramed 31 = .ok (.iconst 1, 1) := by decide +kernel
theorem dX1_isFramed_32 : decode cX1_isFramed 32 = .ok (.invokevirtual 31, 3) := by decide +kernel
theorem dX1_isFramed_35 : decode cX1_isFramed 35 = .ok (.aload_n 0, 1) := by decide +kernel
theorem dX1_isFramed_36 : decode cX1_isFramed 36 = .ok (.getfield 9, 3) := by decide +kernel
theorem dX1_isFramed_39 : decode cX1_isFramed 39 = .ok (.if_icmp .ne 24, 3) := by decide +kernel
theorem dX1_isFramed_42 : decode cX1_isFramed 42 = .ok (.aload_n 0, 1) := by decide +kernel
theorem dX1_isFramed_43 : decode cX1_isFramed 43 = .ok (.iload_n 3, 1) := by decide +kernel
theorem dX1_isFramed_44 : decode cX1_isFramed 44 = .ok (.invokevirtual 31, 3) := by decide +kernel
theorem dX1_isFramed_47 : decode cX1_isFramed 47 = .ok (.aload_n 0, 1) := by decide +kernel
theorem dX1_isFramed_48 : decode cX1_isFramed 48 = .ok (.getfield 15, 3) := by decide +kernel
theorem dX1_isFramed_51 : decode cX1_isFramed 51 = .ok (.iconst 0, 1) := by decide +kernel
theorem dX1_isFramed_52 : decode cX1_isFramed 52 = .ok (.iload_n 3, 1) := by decide +kernel
theorem dX1_isFramed_53 : decode cX1_isFramed 53 = .ok (.invokestatic 34, 3) := by decide +kernel
theorem dX1_isFramed_56 : decode cX1_isFramed 56 = .ok (.if_icmp .ne 7, 3) := by decide +kernel
theorem dX1_isFramed_59 : decode cX1_isFramed 59 = .ok (.iconst 1, 1) := by decide +kernel
theorem dX1_isFramed_60 : decode cX1_isFramed 60 = .ok (.goto 4, 3) := by decide +kernel
theorem dX1_isFramed_63 : decode cX1_isFramed 63 = .ok (.iconst 0, 1) := by decide +kernel
theorem dX1_isFramed_64 : decode cX1_isFramed 64 = .ok (.ireturn, 1) := by decide +kernel
theorem dX1_isSoundEntry_0 : decode cX1_isSoundEntry 0 = .ok (.aload_n 0, 1) := by decide +kernel
theorem dX1_isSoundEntry_1 : decode cX1_isSoundEntry 1 = .ok (.bipush 76, 2) := by decide +kernel
theorem dX1_isSoundEntry_3 : decode cX1_isSoundEntry 3 = .ok (.bipush 6, 2) := by decide +kernel
theorem dX1_isSoundEntry_5 : decode cX1_isSoundEntry 5 = .ok (.invokevirtual 40, 3) := by decide +kernel
theorem dX1_isSoundEntry_8 : decode cX1_isSoundEntry 8 = .ok (.ifCond .ne 5, 3) := by decide +kernel
theorem dX1_isSoundEntry_11 : decode cX1_isSoundEntry 11 = .ok (.iconst 0, 1) := by decide +kernel
theorem dX1_isSoundEntry_12 : decode cX1_isSoundEntry 12 = .ok (.ireturn, 1) := by decide +kernel
theorem dX1_isSoundEntry_13 : decode cX1_isSoundEntry 13 = .ok (.iconst 2, 1) := by decide +kernel
theorem dX1_isSoundEntry_14 : decode cX1_isSoundEntry 14 = .ok (.istore_n 1, 1) := by decide +kernel
theorem dX1_isSoundEntry_15 : decode cX1_isSoundEntry 15 = .ok (.iconst (-1), 1) := by decide +kernel
theorem dX1_isSoundEntry_16 : decode cX1_isSoundEntry 16 = .ok (.istore_n 2, 1) := by decide +kernel
theorem dX1_isSoundEntry_17 : decode cX1_isSoundEntry 17 = .ok (.iconst 0, 1) := by decide +kernel
theorem dX1_isSoundEntry_18 : decode cX1_isSoundEntry 18 = .ok (.istore_n 3, 1) := by decide +kernel
theorem dX1_isSoundEntry_19 : decode cX1_isSoundEntry 19 = .ok (.iload_n 3, 1) := by decide +kernel
theorem dX1_isSoundEntry_20 : decode cX1_isSoundEntry 20 = .ok (.aload_n 0, 1) := by decide +kernel
theorem dX1_isSoundEntry_21 : decode cX1_isSoundEntry 21 = .ok (.invokevirtual 27, 3) := by decide +kernel
theorem dX1_isSoundEntry_24 : decode cX1_isSoundEntry 24 = .ok (.if_icmp .ge 86, 3) := by decide +kernel
theorem dX1_isSoundEntry_27 : decode cX1_isSoundEntry 27 = .ok (.bipush 6, 2) := by decide +kernel
theorem dX1_isSoundEntry_29 : decode cX1_isSoundEntry 29 = .ok (.bipush 6, 2) := by decide +kernel
theorem dX1_isSoundEntry_31 : decode cX1_isSoundEntry 31 = .ok (.iload_n 3, 1) := by decide +kernel
theorem dX1_isSoundEntry_32 : decode cX1_isSoundEntry 32 = .ok (.imul, 1) := by decide +kernel
theorem dX1_isSoundEntry_33 : decode cX1_isSoundEntry 33 = .ok (.iadd, 1) := by decide +kernel
theorem dX1_isSoundEntry_34 : decode cX1_isSoundEntry 34 = .ok (.istore 4, 2) := by decide +kernel
theorem dX1_isSoundEntry_36 : decode cX1_isSoundEntry 36 = .ok (.aload_n 0, 1) := by decide +kernel
theorem dX1_isSoundEntry_37 : decode cX1_isSoundEntry 37 = .ok (.iload 4, 2) := by decide +kernel
theorem dX1_isSoundEntry_39 : decode cX1_isSoundEntry 39 = .ok (.invokevirtual 19, 3) := by decide +kernel
theorem dX1_isSoundEntry_42 : decode cX1_isSoundEntry 42 = .ok (.istore 5, 2) := by decide +kernel
theorem dX1_isSoundEntry_44 : decode cX1_isSoundEntry 44 = .ok (.iload 5, 2) := by decide +kernel
theorem dX1_isSoundEntry_46 : decode cX1_isSoundEntry 46 = .ok (.iload_n 1, 1) := by decide +kernel
theorem dX1_isSoundEntry_47 : decode cX1_isSoundEntry 47 = .ok (.if_icmp .eq 5, 3) := by decide +kernel
theorem dX1_isSoundEntry_50 : decode cX1_isSoundEntry 50 = .ok (.iconst (-1), 1) := by decide +kernel
theorem dX1_isSoundEntry_51 : decode cX1_isSoundEntry 51 = .ok (.istore_n 2, 1) := by decide +kernel
theorem dX1_isSoundEntry_52 : decode cX1_isSoundEntry 52 = .ok (.iload 5, 2) := by decide +kernel
theorem dX1_isSoundEntry_54 : decode cX1_isSoundEntry 54 = .ok (.iconst 1, 1) := by decide +kernel
theorem dX1_isSoundEntry_55 : decode cX1_isSoundEntry 55 = .ok (.if_icmp .lt 35, 3) := by decide +kernel
theorem dX1_isSoundEntry_58 : decode cX1_isSoundEntry 58 = .ok (.iload 5, 2) := by decide +kernel
theorem dX1_isSoundEntry_60 : decode cX1_isSoundEntry 60 = .ok (.iload_n 1, 1) := by decide +kernel
theorem dX1_isSoundEntry_61 : decode cX1_isSoundEntry 61 = .ok (.if_icmp .gt 29, 3) := by decide +kernel
theorem dX1_isSoundEntry_64 : decode cX1_isSoundEntry 64 = .ok (.aload_n 0, 1) := by decide +kernel
theorem dX1_isSoundEntry_65 : decode cX1_isSoundEntry 65 = .ok (.iload 4, 2) := by decide +kernel
theorem dX1_isSoundEntry_67 : decode cX1_isSoundEntry 67 = .ok (.iconst 1, 1) := by decide +kernel
theorem dX1_isSoundEntry_68 : decode cX1_isSoundEntry 68 = .ok (.iadd, 1) := by decide +kernel
theorem dX1_isSoundEntry_69 : decode cX1_isSoundEntry 69 = .ok (.invokevirtual 31, 3) := by decide +kernel
theorem dX1_isSoundEntry_72 : decode cX1_isSoundEntry 72 = .ok (.iload_n 2, 1) := by decide +kernel
theorem dX1_isSoundEntry_73 : decode cX1_isSoundEntry 73 = .ok (.if_icmp .le 17, 3) := by decide +kernel
theorem dX1_isSoundEntry_76 : decode cX1_isSoundEntry 76 = .ok (.aload_n 0, 1) := by decide +kernel
theorem dX1_isSoundEntry_77 : decode cX1_isSoundEntry 77 = .ok (.iload 4, 2) := by decide +kernel
theorem dX1_isSoundEntry_79 : decode cX1_isSoundEntry 79 = .ok (.iconst 5, 1) := by decide +kernel
theorem dX1_isSoundEntry_80 : decode cX1_isSoundEntry 80 = .ok (.iadd, 1) := by decide +kernel
theorem dX1_isSoundEntry_81 : decode cX1_isSoundEntry 81 = .ok (.invokevirtual 19, 3) := by decide +kernel
theorem dX1_isSoundEntry_84 : decode cX1_isSoundEntry 84 = .ok (.invokestatic 44, 3) := by decide +kernel
theorem dX1_isSoundEntry_87 : decode cX1_isSoundEntry 87 = .ok (.ifCond .ne 5, 3) := by decide +kernel
theorem dX1_isSoundEntry_90 : decode cX1_isSoundEntry 90 = .ok (.iconst 0, 1) := by decide +kernel
theorem dX1_isSoundEntry_91 : decode cX1_isSoundEntry 91 = .ok (.ireturn, 1) := by decide +kernel
theorem dX1_isSoundEntry_92 : decode cX1_isSoundEntry 92 = .ok (.iload 5, 2) := by decide +kernel
theorem dX1_isSoundEntry_94 : decode cX1_isSoundEntry 94 = .ok (.istore_n 1, 1) := by decide +kernel
theorem dX1_isSoundEntry_95 : decode cX1_isSoundEntry 95 = .ok (.aload_n 0, 1) := by decide +kernel
theorem dX1_isSoundEntry_96 : decode cX1_isSoundEntry 96 = .ok (.iload 4, 2) := by decide +kernel
theorem dX1_isSoundEntry_98 : decode cX1_isSoundEntry 98 = .ok (.iconst 1, 1) := by decide +kernel
theorem dX1_isSoundEntry_99 : decode cX1_isSoundEntry 99 = .ok (.iadd, 1) := by decide +kernel
theorem dX1_isSoundEntry_100 : decode cX1_isSoundEntry 100 = .ok (.invokevirtual 31, 3) := by decide +kernel
theorem dX1_isSoundEntry_103 : decode cX1_isSoundEntry 103 = .ok (.istore_n 2, 1) := by decide +kernel
theorem dX1_isSoundEntry_104 : decode cX1_isSoundEntry 104 = .ok (.iinc 3 1, 3) := by decide +kernel
theorem dX1_isSoundEntry_107 : decode cX1_isSoundEntry 107 = .ok (.goto (-88), 3) := by decide +kernel
theorem dX1_isSoundEntry_110 : decode cX1_isSoundEntry 110 = .ok (.iconst 1, 1) := by decide +kernel
theorem dX1_isSoundEntry_111 : decode cX1_isSoundEntry 111 = .ok (.ireturn, 1) := by decide +kernel
theorem dX1_isSoundCheckpoint_0 : decode cX1_isSoundCheckpoint 0 = .ok (.aload_n 0, 1) := by decide +kernel
theorem dX1_isSoundCheckpoint_1 : decode cX1_isSoundCheckpoint 1 = .ok (.bipush 67, 2) := by decide +kernel
theorem dX1_isSoundCheckpoint_3 : decode cX1_isSoundCheckpoint 3 = .ok (.iconst 5, 1) := by decide +kernel
theorem dX1_isSoundCheckpoint_4 : decode cX1_isSoundCheckpoint 4 = .ok (.invokevirtual 40, 3) := by decide +kernel
theorem dX1_isSoundCheckpoint_7 : decode cX1_isSoundCheckpoint 7 = .ok (.ifCond .ne 5, 3) := by decide +kernel
theorem dX1_isSoundCheckpoint_10 : decode cX1_isSoundCheckpoint 10 = .ok (.iconst 0, 1) := by decide +kernel
theorem dX1_isSoundCheckpoint_11 : decode cX1_isSoundCheckpoint 11 = .ok (.ireturn, 1) := by decide +kernel
theorem dX1_isSoundCheckpoint_12 : decode cX1_isSoundCheckpoint 12 = .ok (.iconst (-1), 1) := by decide +kernel
theorem dX1_isSoundCheckpoint_13 : decode cX1_isSoundCheckpoint 13 = .ok (.istore_n 1, 1) := by decide +kernel
theorem dX1_isSoundCheckpoint_14 : decode cX1_isSoundCheckpoint 14 = .ok (.iconst 0, 1) := by decide +kernel
theorem dX1_isSoundCheckpoint_15 : decode cX1_isSoundCheckpoint 15 = .ok (.istore_n 2, 1) := by decide +kernel
theorem dX1_isSoundCheckpoint_16 : decode cX1_isSoundCheckpoint 16 = .ok (.iload_n 2, 1) := by decide +kernel
theorem dX1_isSoundCheckpoint_17 : decode cX1_isSoundCheckpoint 17 = .ok (.aload_n 0, 1) := by decide +kernel
theorem dX1_isSoundCheckpoint_18 : decode cX1_isSoundCheckpoint 18 = .ok (.invokevirtual 27, 3) := by decide +kernel
theorem dX1_isSoundCheckpoint_21 : decode cX1_isSoundCheckpoint 21 = .ok (.if_icmp .ge 46, 3) := by decide +kernel
theorem dX1_isSoundCheckpoint_24 : decode cX1_isSoundCheckpoint 24 = .ok (.bipush 6, 2) := by decide +kernel
theorem dX1_isSoundCheckpoint_26 : decode cX1_isSoundCheckpoint 26 = .ok (.iconst 5, 1) := by decide +kernel
theorem dX1_isSoundCheckpoint_27 : decode cX1_isSoundCheckpoint 27 = .ok (.iload_n 2, 1) := by decide +kernel
theorem dX1_isSoundCheckpoint_28 : decode cX1_isSoundCheckpoint 28 = .ok (.imul, 1) := by decide +kernel
theorem dX1_isSoundCheckpoint_29 : decode cX1_isSoundCheckpoint 29 = .ok (.iadd, 1) := by decide +kernel
theorem dX1_isSoundCheckpoint_30 : decode cX1_isSoundCheckpoint 30 = .ok (.istore_n 3, 1) := by decide +kernel
theorem dX1_isSoundCheckpoint_31 : decode cX1_isSoundCheckpoint 31 = .ok (.aload_n 0, 1) := by decide +kernel
theorem dX1_isSoundCheckpoint_32 : decode cX1_isSoundCheckpoint 32 = .ok (.iload_n 3, 1) := by decide +kernel
theorem dX1_isSoundCheckpoint_33 : decode cX1_isSoundCheckpoint 33 = .ok (.invokevirtual 31, 3) := by decide +kernel
theorem dX1_isSoundCheckpoint_36 : decode cX1_isSoundCheckpoint 36 = .ok (.iload_n 1, 1) := by decide +kernel
theorem dX1_isSoundCheckpoint_37 : decode cX1_isSoundCheckpoint 37 = .ok (.if_icmp .le 16, 3) := by decide +kernel
theorem dX1_isSoundCheckpoint_40 : decode cX1_isSoundCheckpoint 40 = .ok (.aload_n 0, 1) := by decide +kernel
theorem dX1_isSoundCheckpoint_41 : decode cX1_isSoundCheckpoint 41 = .ok (.iload_n 3, 1) := by decide +kernel
theorem dX1_isSoundCheckpoint_42 : decode cX1_isSoundCheckpoint 42 = .ok (.iconst 4, 1) := by decide +kernel
theorem dX1_isSoundCheckpoint_43 : decode cX1_isSoundCheckpoint 43 = .ok (.iadd, 1) := by decide +kernel
theorem dX1_isSoundCheckpoint_44 : decode cX1_isSoundCheckpoint 44 = .ok (.invokevirtual 19, 3) := by decide +kernel
theorem dX1_isSoundCheckpoint_47 : decode cX1_isSoundCheckpoint 47 = .ok (.invokestatic 44, 3) := by decide +kernel
theorem dX1_isSoundCheckpoint_50 : decode cX1_isSoundCheckpoint 50 = .ok (.ifCond .ne 5, 3) := by decide +kernel
theorem dX1_isSoundCheckpoint_53 : decode cX1_isSoundCheckpoint 53 = .ok (.iconst 0, 1) := by decide +kernel
theorem dX1_isSoundCheckpoint_54 : decode cX1_isSoundCheckpoint 54 = .ok (.ireturn, 1) := by decide +kernel
theorem dX1_isSoundCheckpoint_55 : decode cX1_isSoundCheckpoint 55 = .ok (.aload_n 0, 1) := by decide +kernel
theorem dX1_isSoundCheckpoint_56 : decode cX1_isSoundCheckpoint 56 = .ok (.iload_n 3, 1) := by decide +kernel
theorem dX1_isSoundCheckpoint_57 : decode cX1_isSoundCheckpoint 57 = .ok (.invokevirtual 31, 3) := by decide +kernel
theorem dX1_isSoundCheckpoint_60 : decode cX1_isSoundCheckpoint 60 = .ok (.istore_n 1, 1) := by decide +kernel
theorem dX1_isSoundCheckpoint_61 : decode cX1_isSoundCheckpoint 61 = .ok (.iinc 2 1, 3) := by decide +kernel
theorem dX1_isSoundCheckpoint_64 : decode cX1_isSoundCheckpoint 64 = .ok (.goto (-48), 3) := by decide +kernel
theorem dX1_isSoundCheckpoint_67 : decode cX1_isSoundCheckpoint 67 = .ok (.iconst 1, 1) := by decide +kernel
theorem dX1_isSoundCheckpoint_68 : decode cX1_isSoundCheckpoint 68 = .ok (.ireturn, 1) := by decide +kernel
theorem dX1_hasActionOn_0 : decode cX1_hasActionOn 0 = .ok (.iconst 0, 1) := by decide +kernel
theorem dX1_hasActionOn_1 : decode cX1_hasActionOn 1 = .ok (.istore_n 2, 1) := by decide +kernel
theorem dX1_hasActionOn_2 : decode cX1_hasActionOn 2 = .ok (.iload_n 2, 1) := by decide +kernel
theorem dX1_hasActionOn_3 : decode cX1_hasActionOn 3 = .ok (.aload_n 0, 1) := by decide +kernel
theorem dX1_hasActionOn_4 : decode cX1_hasActionOn 4 = .ok (.invokevirtual 27, 3) := by decide +kernel
theorem dX1_hasActionOn_7 : decode cX1_hasActionOn 7 = .ok (.if_icmp .ge 28, 3) := by decide +kernel
theorem dX1_hasActionOn_10 : decode cX1_hasActionOn 10 = .ok (.aload_n 0, 1) := by decide +kernel
theorem dX1_hasActionOn_11 : decode cX1_hasActionOn 11 = .ok (.bipush 6, 2) := by decide +kernel
theorem dX1_hasActionOn_13 : decode cX1_hasActionOn 13 = .ok (.bipush 6, 2) := by decide +kernel
theorem dX1_hasActionOn_15 : decode cX1_hasActionOn 15 = .ok (.iload_n 2, 1) := by decide +kernel
theorem dX1_hasActionOn_16 : decode cX1_hasActionOn 16 = .ok (.imul, 1) := by decide +kernel
theorem dX1_hasActionOn_17 : decode cX1_hasActionOn 17 = .ok (.iadd, 1) := by decide +kernel
theorem dX1_hasActionOn_18 : decode cX1_hasActionOn 18 = .ok (.iconst 5, 1) := by decide +kernel
theorem dX1_hasActionOn_19 : decode cX1_hasActionOn 19 = .ok (.iadd, 1) := by decide +kernel
theorem dX1_hasActionOn_20 : decode cX1_hasActionOn 20 = .ok (.invokevirtual 19, 3) := by decide +kernel
theorem dX1_hasActionOn_23 : decode cX1_hasActionOn 23 = .ok (.iload_n 1, 1) := by decide +kernel
theorem dX1_hasActionOn_24 : decode cX1_hasActionOn 24 = .ok (.if_icmp .ne 5, 3) := by decide +kernel
theorem dX1_hasActionOn_27 : decode cX1_hasActionOn 27 = .ok (.iconst 1, 1) := by decide +kernel
theorem dX1_hasActionOn_28 : decode cX1_hasActionOn 28 = .ok (.ireturn, 1) := by decide +kernel
theorem dX1_hasActionOn_29 : decode cX1_hasActionOn 29 = .ok (.iinc 2 1, 3) := by decide +kernel
theorem dX1_hasActionOn_32 : decode cX1_hasActionOn 32 = .ok (.goto (-30), 3) := by decide +kernel
theorem dX1_hasActionOn_35 : decode cX1_hasActionOn 35 = .ok (.iconst 0, 1) := by decide +kernel
theorem dX1_hasActionOn_36 : decode cX1_hasActionOn 36 = .ok (.ireturn, 1) := by decide +kernel
theorem dX1_applyTo_0 : decode cX1_applyTo 0 = .ok (.iconst 0, 1) := by decide +kernel
theorem dX1_applyTo_1 : decode cX1_applyTo 1 = .ok (.istore_n 2, 1) := by decide +kernel
theorem dX1_applyTo_2 : decode cX1_applyTo 2 = .ok (.iload_n 2, 1) := by decide +kernel
theorem dX1_applyTo_3 : decode cX1_applyTo 3 = .ok (.aload_n 0, 1) := by decide +kernel
theorem dX1_applyTo_4 : decode cX1_applyTo 4 = .ok (.invokevirtual 27, 3) := by decide +kernel
theorem dX1_applyTo_7 : decode cX1_applyTo 7 = .ok (.if_icmp .ge 63, 3) := by decide +kernel
theorem dX1_applyTo_10 : decode cX1_applyTo 10 = .ok (.bipush 6, 2) := by decide +kernel
theorem dX1_applyTo_12 : decode cX1_applyTo 12 = .ok (.bipush 6, 2) := by decide +kernel
theorem dX1_applyTo_14 : decode cX1_applyTo 14 = .ok (.iload_n 2, 1) := by decide +kernel
theorem dX1_applyTo_15 : decode cX1_applyTo 15 = .ok (.imul, 1) := by decide +kernel
theorem dX1_applyTo_16 : decode cX1_applyTo 16 = .ok (.iadd, 1) := by decide +kernel
theorem dX1_applyTo_17 : decode cX1_applyTo 17 = .ok (.istore_n 3, 1) := by decide +kernel
theorem dX1_applyTo_18 : decode cX1_applyTo 18 = .ok (.aload_n 0, 1) := by decide +kernel
theorem dX1_applyTo_19 : decode cX1_applyTo 19 = .ok (.iload_n 3, 1) := by decide +kernel
theorem dX1_applyTo_20 : decode cX1_applyTo 20 = .ok (.invokevirtual 19, 3) := by decide +kernel
theorem dX1_applyTo_23 : decode cX1_applyTo 23 = .ok (.iconst 2, 1) := by decide +kernel
theorem dX1_applyTo_24 : decode cX1_applyTo 24 = .ok (.if_icmp .ne 17, 3) := by decide +kernel
theorem dX1_applyTo_27 : decode cX1_applyTo 27 = .ok (.aload_n 1, 1) := by decide +kernel
theorem dX1_applyTo_28 : decode cX1_applyTo 28 = .ok (.aload_n 0, 1) := by decide +kernel
theorem dX1_applyTo_29 : decode cX1_applyTo 29 = .ok (.iload_n 3, 1) := by decide +kernel
theorem dX1_applyTo_30 : decode cX1_applyTo 30 = .ok (.iconst 1, 1) := by decide +kernel
theorem dX1_applyTo_31 : decode cX1_applyTo 31 = .ok (.iadd, 1) := by decide +kernel
theorem dX1_applyTo_32 : decode cX1_applyTo 32 = .ok (.invokevirtual 31, 3) := by decide +kernel
theorem dX1_applyTo_35 : decode cX1_applyTo 35 = .ok (.invokevirtual 48, 3) := by decide +kernel
theorem dX1_applyTo_38 : decode cX1_applyTo 38 = .ok (.goto 26, 3) := by decide +kernel
theorem dX1_applyTo_41 : decode cX1_applyTo 41 = .ok (.aload_n 1, 1) := by decide +kernel
theorem dX1_applyTo_42 : decode cX1_applyTo 42 = .ok (.aload_n 0, 1) := by decide +kernel
theorem dX1_applyTo_43 : decode cX1_applyTo 43 = .ok (.iload_n 3, 1) := by decide +kernel
theorem dX1_applyTo_44 : decode cX1_applyTo 44 = .ok (.iconst 1, 1) := by decide +kernel
theorem dX1_applyTo_45 : decode cX1_applyTo 45 = .ok (.iadd, 1) := by decide +kernel
theorem dX1_applyTo_46 : decode cX1_applyTo 46 = .ok (.invokevirtual 31, 3) := by decide +kernel
theorem dX1_applyTo_49 : decode cX1_applyTo 49 = .ok (.aload_n 0, 1) := by decide +kernel
theorem dX1_applyTo_50 : decode cX1_applyTo 50 = .ok (.iload_n 3, 1) := by decide +kernel
theorem dX1_applyTo_51 : decode cX1_applyTo 51 = .ok (.iconst 5, 1) := by decide +kernel
theorem dX1_applyTo_52 : decode cX1_applyTo 52 = .ok (.iadd, 1) := by decide +kernel
theorem dX1_applyTo_53 : decode cX1_applyTo 53 = .ok (.invokevirtual 19, 3) := by decide +kernel
theorem dX1_applyTo_56 : decode cX1_applyTo 56 = .ok (.invokevirtual 54, 3) := by decide +kernel
theorem dX1_applyTo_59 : decode cX1_applyTo 59 = .ok (.ifCond .ne 5, 3) := by decide +kernel
theorem dX1_applyTo_62 : decode cX1_applyTo 62 = .ok (.iconst 0, 1) := by decide +kernel
theorem dX1_applyTo_63 : decode cX1_applyTo 63 = .ok (.ireturn, 1) := by decide +kernel
theorem dX1_applyTo_64 : decode cX1_applyTo 64 = .ok (.iinc 2 1, 3) := by decide +kernel
theorem dX1_applyTo_67 : decode cX1_applyTo 67 = .ok (.goto (-65), 3) := by decide +kernel
theorem dX1_applyTo_70 : decode cX1_applyTo 70 = .ok (.iconst 1, 1) := by decide +kernel
theorem dX1_applyTo_71 : decode cX1_applyTo 71 = .ok (.ireturn, 1) := by decide +kernel
theorem dX1_listTo_0 : decode cX1_listTo 0 = .ok (.iconst 0, 1) := by decide +kernel
theorem dX1_listTo_1 : decode cX1_listTo 1 = .ok (.istore_n 2, 1) := by decide +kernel
theorem dX1_listTo_2 : decode cX1_listTo 2 = .ok (.iload_n 2, 1) := by decide +kernel
theorem dX1_listTo_3 : decode cX1_listTo 3 = .ok (.aload_n 0, 1) := by decide +kernel
theorem dX1_listTo_4 : decode cX1_listTo 4 = .ok (.invokevirtual 27, 3) := by decide +kernel
theorem dX1_listTo_7 : decode cX1_listTo 7 = .ok (.if_icmp .ge 33, 3) := by decide +kernel
theorem dX1_listTo_10 : decode cX1_listTo 10 = .ok (.bipush 6, 2) := by decide +kernel
theorem dX1_listTo_12 : decode cX1_listTo 12 = .ok (.iconst 5, 1) := by decide +kernel
theorem dX1_listTo_13 : decode cX1_listTo 13 = .ok (.iload_n 2, 1) := by decide +kernel
theorem dX1_listTo_14 : decode cX1_listTo 14 = .ok (.imul, 1) := by decide +kernel
theorem dX1_listTo_15 : decode cX1_listTo 15 = .ok (.iadd, 1) := by decide +kernel
theorem dX1_listTo_16 : decode cX1_listTo 16 = .ok (.istore_n 3, 1) := by decide +kernel
theorem dX1_listTo_17 : decode cX1_listTo 17 = .ok (.aload_n 1, 1) := by decide +kernel
theorem dX1_listTo_18 : decode cX1_listTo 18 = .ok (.aload_n 0, 1) := by decide +kernel
theorem dX1_listTo_19 : decode cX1_listTo 19 = .ok (.iload_n 3, 1) := by decide +kernel
theorem dX1_listTo_20 : decode cX1_listTo 20 = .ok (.invokevirtual 31, 3) := by decide +kernel
theorem dX1_listTo_23 : decode cX1_listTo 23 = .ok (.aload_n 0, 1) := by decide +kernel
theorem dX1_listTo_24 : decode cX1_listTo 24 = .ok (.iload_n 3, 1) := by decide +kernel
theorem dX1_listTo_25 : decode cX1_listTo 25 = .ok (.iconst 4, 1) := by decide +kernel
theorem dX1_listTo_26 : decode cX1_listTo 26 = .ok (.iadd, 1) := by decide +kernel
theorem dX1_listTo_27 : decode cX1_listTo 27 = .ok (.invokevirtual 19, 3) := by decide +kernel
theorem dX1_listTo_30 : decode cX1_listTo 30 = .ok (.invokevirtual 54, 3) := by decide +kernel
theorem dX1_listTo_33 : decode cX1_listTo 33 = .ok (.pop, 1) := by decide +kernel
theorem dX1_listTo_34 : decode cX1_listTo 34 = .ok (.iinc 2 1, 3) := by decide +kernel
theorem dX1_listTo_37 : decode cX1_listTo 37 = .ok (.goto (-35), 3) := by decide +kernel
theorem dX1_listTo_40 : decode cX1_listTo 40 = .ok (.return_, 1) := by decide +kernel
