theorem dX6_init_0 : decode cX6_init 0 = .ok (.aload_n 0, 1) := by decide +kernel
theorem dX6_init_1 : decode cX6_init 1 = .ok (.invokespecial 1, 3) := by decide +kernel
theorem dX6_init_4 : decode cX6_init 4 = .ok (.aload_n 0, 1) := by decide +kernel
theorem dX6_init_5 : decode cX6_init 5 = .ok (.bipush 64, 2) := by decide +kernel
theorem dX6_init_7 : decode cX6_init 7 = .ok (.newarray .byte, 2) := by decide +kernel
theorem dX6_init_9 : decode cX6_init 9 = .ok (.putfield 7, 3) := by decide +kernel
theorem dX6_init_12 : decode cX6_init 12 = .ok (.return_, 1) := by decide +kernel
theorem dX6_clear_0 : decode cX6_clear 0 = .ok (.aload_n 0, 1) := by decide +kernel
theorem dX6_clear_1 : decode cX6_clear 1 = .ok (.iconst 0, 1) := by decide +kernel
theorem dX6_clear_2 : decode cX6_clear 2 = .ok (.putfield 13, 3) := by decide +kernel
theorem dX6_clear_5 : decode cX6_clear 5 = .ok (.return_, 1) := by decide +kernel
theorem dX6_makePlace_0 : decode cX6_makePlace 0 = .ok (.aload_n 0, 1) := by decide +kernel
theorem dX6_makePlace_1 : decode cX6_makePlace 1 = .ok (.getfield 13, 3) := by decide +kernel
theorem dX6_makePlace_4 : decode cX6_makePlace 4 = .ok (.iload_n 1, 1) := by decide +kernel
theorem dX6_makePlace_5 : decode cX6_makePlace 5 = .ok (.iadd, 1) := by decide +kernel
theorem dX6_makePlace_6 : decode cX6_makePlace 6 = .ok (.istore_n 2, 1) := by decide +kernel
theorem dX6_makePlace_7 : decode cX6_makePlace 7 = .ok (.iload_n 2, 1) := by decide +kernel
theorem dX6_makePlace_8 : decode cX6_makePlace 8 = .ok (.aload_n 0, 1) := by decide +kernel
theorem dX6_makePlace_9 : decode cX6_makePlace 9 = .ok (.getfield 7, 3) := by decide +kernel
theorem dX6_makePlace_12 : decode cX6_makePlace 12 = .ok (.arraylength, 1) := by decide +kernel
theorem dX6_makePlace_13 : decode cX6_makePlace 13 = .ok (.if_icmp .le 25, 3) := by decide +kernel
theorem dX6_makePlace_16 : decode cX6_makePlace 16 = .ok (.aload_n 0, 1) := by decide +kernel
theorem dX6_makePlace_17 : decode cX6_makePlace 17 = .ok (.aload_n 0, 1) := by decide +kernel
theorem dX6_makePlace_18 : decode cX6_makePlace 18 = .ok (.getfield 7, 3) := by decide +kernel
theorem dX6_makePlace_21 : decode cX6_makePlace 21 = .ok (.iload_n 2, 1) := by decide +kernel
theorem dX6_makePlace_22 : decode cX6_makePlace 22 = .ok (.iconst 2, 1) := by decide +kernel
theorem dX6_makePlace_23 : decode cX6_makePlace 23 = .ok (.aload_n 0, 1) := by decide +kernel
theorem dX6_makePlace_24 : decode cX6_makePlace 24 = .ok (.getfield 7, 3) := by decide +kernel
theorem dX6_makePlace_27 : decode cX6_makePlace 27 = .ok (.arraylength, 1) := by decide +kernel
theorem dX6_makePlace_28 : decode cX6_makePlace 28 = .ok (.imul, 1) := by decide +kernel
theorem dX6_makePlace_29 : decode cX6_makePlace 29 = .ok (.invokestatic 17, 3) := by decide +kernel
theorem dX6_makePlace_32 : decode cX6_makePlace 32 = .ok (.invokestatic 23, 3) := by decide +kernel
theorem dX6_makePlace_35 : decode cX6_makePlace 35 = .ok (.putfield 7, 3) := by decide +kernel
theorem dX6_makePlace_38 : decode cX6_makePlace 38 = .ok (.return_, 1) := by decide +kernel
theorem dX6_u1_0 : decode cX6_u1 0 = .ok (.aload_n 0, 1) := by decide +kernel
theorem dX6_u1_1 : decode cX6_u1 1 = .ok (.getfield 13, 3) := by decide +kernel
theorem dX6_u1_4 : decode cX6_u1 4 = .ok (.aload_n 0, 1) := by decide +kernel
theorem dX6_u1_5 : decode cX6_u1 5 = .ok (.getfield 7, 3) := by decide +kernel
theorem dX6_u1_8 : decode cX6_u1 8 = .ok (.arraylength, 1) := by decide +kernel
theorem dX6_u1_9 : decode cX6_u1 9 = .ok (.if_icmp .ge 24, 3) := by decide +kernel
theorem dX6_u1_12 : decode cX6_u1 12 = .ok (.aload_n 0, 1) := by decide +kernel
theorem dX6_u1_13 : decode cX6_u1 13 = .ok (.getfield 7, 3) := by decide +kernel
theorem dX6_u1_16 : decode cX6_u1 16 = .ok (.aload_n 0, 1) := by decide +kernel
theorem dX6_u1_17 : decode cX6_u1 17 = .ok (.getfield 13, 3) := by decide +kernel
theorem dX6_u1_20 : decode cX6_u1 20 = .ok (.iload_n 1, 1) := by decide +kernel
theorem dX6_u1_21 : decode cX6_u1 21 = .ok (.i2b, 1) := by decide +kernel
theorem dX6_u1_22 : decode cX6_u1 22 = .ok (.bastore, 1) := by decide +kernel
theorem dX6_u1_23 : decode cX6_u1 23 = .ok (.aload_n 0, 1) := by decide +kernel
theorem dX6_u1_24 : decode cX6_u1 24 = .ok (.dup, 1) := by decide +kernel
theorem dX6_u1_25 : decode cX6_u1 25 = .ok (.getfield 13, 3) := by decide +kernel
theorem dX6_u1_28 : decode cX6_u1 28 = .ok (.iconst 1, 1) := by decide +kernel
theorem dX6_u1_29 : decode cX6_u1 29 = .ok (.iadd, 1) := by decide +kernel
theorem dX6_u1_30 : decode cX6_u1 30 = .ok (.putfield 13, 3) := by decide +kernel
theorem dX6_u1_33 : decode cX6_u1 33 = .ok (.return_, 1) := by decide +kernel
theorem dX6_u4_0 : decode cX6_u4 0 = .ok (.aload_n 0, 1) := by decide +kernel
theorem dX6_u4_1 : decode cX6_u4 1 = .ok (.getfield 13, 3) := by decide +kernel
theorem dX6_u4_4 : decode cX6_u4 4 = .ok (.aload_n 0, 1) := by decide +kernel
theorem dX6_u4_5 : decode cX6_u4 5 = .ok (.getfield 7, 3) := by decide +kernel
theorem dX6_u4_8 : decode cX6_u4 8 = .ok (.arraylength, 1) := by decide +kernel
theorem dX6_u4_9 : decode cX6_u4 9 = .ok (.iconst 4, 1) := by decide +kernel
theorem dX6_u4_10 : decode cX6_u4 10 = .ok (.isub, 1) := by decide +kernel
theorem dX6_u4_11 : decode cX6_u4 11 = .ok (.if_icmp .gt 72, 3) := by decide +kernel
theorem dX6_u4_14 : decode cX6_u4 14 = .ok (.aload_n 0, 1) := by decide +kernel
theorem dX6_u4_15 : decode cX6_u4 15 = .ok (.getfield 7, 3) := by decide +kernel
theorem dX6_u4_18 : decode cX6_u4 18 = .ok (.aload_n 0, 1) := by decide +kernel
theorem dX6_u4_19 : decode cX6_u4 19 = .ok (.getfield 13, 3) := by decide +kernel
theorem dX6_u4_22 : decode cX6_u4 22 = .ok (.iload_n 1, 1) := by decide +kernel
theorem dX6_u4_23 : decode cX6_u4 23 = .ok (.bipush 24, 2) := by decide +kernel
theorem dX6_u4_25 : decode cX6_u4 25 = .ok (.iushr, 1) := by decide +kernel
theorem dX6_u4_26 : decode cX6_u4 26 = .ok (.i2b, 1) := by decide +kernel
theorem dX6_u4_27 : decode cX6_u4 27 = .ok (.bastore, 1) := by decide +kernel
theorem dX6_u4_28 : decode cX6_u4 28 = .ok (.aload_n 0, 1) := by decide +kernel
theorem dX6_u4_29 : decode cX6_u4 29 = .ok (.getfield 7, 3) := by decide +kernel
theorem dX6_u4_32 : decode cX6_u4 32 = .ok (.aload_n 0, 1) := by decide +kernel
theorem dX6_u4_33 : decode cX6_u4 33 = .ok (.getfield 13, 3) := by decide +kernel
theorem dX6_u4_36 : decode cX6_u4 36 = .ok (.iconst 1, 1) := by decide +kernel
theorem dX6_u4_37 : decode cX6_u4 37 = .ok (.iadd, 1) := by decide +kernel
theorem dX6_u4_38 : decode cX6_u4 38 = .ok (.iload_n 1, 1) := by decide +kernel
theorem dX6_u4_39 : decode cX6_u4 39 = .ok (.bipush 16, 2) := by decide +kernel
theorem dX6_u4_41 : decode cX6_u4 41 = .ok (.iushr, 1) := by decide +kernel
theorem dX6_u4_42 : decode cX6_u4 42 = .ok (.i2b, 1) := by decide +kernel
theorem dX6_u4_43 : decode cX6_u4 43 = .ok (.bastore, 1) := by decide +kernel
theorem dX6_u4_44 : decode cX6_u4 44 = .ok (.aload_n 0, 1) := by decide +kernel
theorem dX6_u4_45 : decode cX6_u4 45 = .ok (.getfield 7, 3) := by decide +kernel
theorem dX6_u4_48 : decode cX6_u4 48 = .ok (.aload_n 0, 1) := by decide +kernel
theorem dX6_u4_49 : decode cX6_u4 49 = .ok (.getfield 13, 3) := by decide +kernel
theorem dX6_u4_52 : decode cX6_u4 52 = .ok (.iconst 2, 1) := by decide +kernel
theorem dX6_u4_53 : decode cX6_u4 53 = .ok (.iadd, 1) := by decide +kernel
theorem dX6_u4_54 : decode cX6_u4 54 = .ok (.iload_n 1, 1) := by decide +kernel
theorem dX6_u4_55 : decode cX6_u4 55 = .ok (.bipush 8, 2) := by decide +kernel
theorem dX6_u4_57 : decode cX6_u4 57 = .ok (.iushr, 1) := by decide +kernel
theorem dX6_u4_58 : decode cX6_u4 58 = .ok (.i2b, 1) := by decide +kernel
theorem dX6_u4_59 : decode cX6_u4 59 = .ok (.bastore, 1) := by decide +kernel
theorem dX6_u4_60 : decode cX6_u4 60 = .ok (.aload_n 0, 1) := by decide +kernel
theorem dX6_u4_61 : decode cX6_u4 61 = .ok (.getfield 7, 3) := by decide +kernel
theorem dX6_u4_64 : decode cX6_u4 64 = .ok (.aload_n 0, 1) := by decide +kernel
theorem dX6_u4_65 : decode cX6_u4 65 = .ok (.getfield 13, 3) := by decide +kernel
theorem dX6_u4_68 : decode cX6_u4 68 = .ok (.iconst 3, 1) := by decide +kernel
theorem dX6_u4_69 : decode cX6_u4 69 = .ok (.iadd, 1) := by decide +kernel
theorem dX6_u4_70 : decode cX6_u4 70 = .ok (.iload_n 1, 1) := by decide +kernel
theorem dX6_u4_71 : decode cX6_u4 71 = .ok (.i2b, 1) := by decide +kernel
theorem dX6_u4_72 : decode cX6_u4 72 = .ok (.bastore, 1) := by decide +kernel
theorem dX6_u4_73 : decode cX6_u4 73 = .ok (.aload_n 0, 1) := by decide +kernel
theorem dX6_u4_74 : decode cX6_u4 74 = .ok (.dup, 1) := by decide +kernel
theorem dX6_u4_75 : decode cX6_u4 75 = .ok (.getfield 13, 3) := by decide +kernel
theorem dX6_u4_78 : decode cX6_u4 78 = .ok (.iconst 4, 1) := by decide +kernel
theorem dX6_u4_79 : decode cX6_u4 79 = .ok (.iadd, 1) := by decide +kernel
theorem dX6_u4_80 : decode cX6_u4 80 = .ok (.putfield 13, 3) := by decide +kernel
theorem dX6_u4_83 : decode cX6_u4 83 = .ok (.return_, 1) := by decide +kernel
theorem dX6_varint_0 : decode cX6_varint 0 = .ok (.iload_n 1, 1) := by decide +kernel
theorem dX6_varint_1 : decode cX6_varint 1 = .ok (.iconst 1, 1) := by decide +kernel
theorem dX6_varint_2 : decode cX6_varint 2 = .ok (.ishl, 1) := by decide +kernel
theorem dX6_varint_3 : decode cX6_varint 3 = .ok (.iload_n 1, 1) := by decide +kernel
theorem dX6_varint_4 : decode cX6_varint 4 = .ok (.bipush 31, 2) := by decide +kernel
theorem dX6_varint_6 : decode cX6_varint 6 = .ok (.ishr, 1) := by decide +kernel
theorem dX6_varint_7 : decode cX6_varint 7 = .ok (.ixor, 1) := by decide +kernel
theorem dX6_varint_8 : decode cX6_varint 8 = .ok (.istore_n 2, 1) := by decide +kernel
theorem dX6_varint_9 : decode cX6_varint 9 = .ok (.iconst 0, 1) := by decide +kernel
theorem dX6_varint_10 : decode cX6_varint 10 = .ok (.istore_n 3, 1) := by decide +kernel
theorem dX6_varint_11 : decode cX6_varint 11 = .ok (.iconst 0, 1) := by decide +kernel
theorem dX6_varint_12 : decode cX6_varint 12 = .ok (.istore 4, 2) := by decide +kernel
theorem dX6_varint_14 : decode cX6_varint 14 = .ok (.iload 4, 2) := by decide +kernel
theorem dX6_varint_16 : decode cX6_varint 16 = .ok (.iconst 5, 1) := by decide +kernel
theorem dX6_varint_17 : decode cX6_varint 17 = .ok (.if_icmp .ge 79, 3) := by decide +kernel
theorem dX6_varint_20 : decode cX6_varint 20 = .ok (.iload_n 3, 1) := by decide +kernel
theorem dX6_varint_21 : decode cX6_varint 21 = .ok (.ifCond .ne 75, 3) := by decide +kernel
theorem dX6_varint_24 : decode cX6_varint 24 = .ok (.aload_n 0, 1) := by decide +kernel
theorem dX6_varint_25 : decode cX6_varint 25 = .ok (.getfield 13, 3) := by decide +kernel
theorem dX6_varint_28 : decode cX6_varint 28 = .ok (.aload_n 0, 1) := by decide +kernel
theorem dX6_varint_29 : decode cX6_varint 29 = .ok (.getfield 7, 3) := by decide +kernel
theorem dX6_varint_32 : decode cX6_varint 32 = .ok (.arraylength, 1) := by decide +kernel
theorem dX6_varint_33 : decode cX6_varint 33 = .ok (.if_icmp .ge 63, 3) := by decide +kernel
theorem dX6_varint_36 : decode cX6_varint 36 = .ok (.iload_n 2, 1) := by decide +kernel
theorem dX6_varint_37 : decode cX6_varint 37 = .ok (.bipush 7, 2) := by decide +kernel
theorem dX6_varint_39 : decode cX6_varint 39 = .ok (.iushr, 1) := by decide +kernel
theorem dX6_varint_40 : decode cX6_varint 40 = .ok (.ifCond .ne 7, 3) := by decide +kernel
theorem dX6_varint_43 : decode cX6_varint 43 = .ok (.iconst 1, 1) := by decide +kernel
theorem dX6_varint_44 : decode cX6_varint 44 = .ok (.goto 4, 3) := by decide +kernel
theorem dX6_varint_47 : decode cX6_varint 47 = .ok (.iconst 0, 1) := by decide +kernel
theorem dX6_varint_48 : decode cX6_varint 48 = .ok (.istore_n 3, 1) := by decide +kernel
theorem dX6_varint_49 : decode cX6_varint 49 = .ok (.aload_n 0, 1) := by decide +kernel
theorem dX6_varint_50 : decode cX6_varint 50 = .ok (.getfield 7, 3) := by decide +kernel
theorem dX6_varint_53 : decode cX6_varint 53 = .ok (.aload_n 0, 1) := by decide +kernel
theorem dX6_varint_54 : decode cX6_varint 54 = .ok (.getfield 13, 3) := by decide +kernel
theorem dX6_varint_57 : decode cX6_varint 57 = .ok (.iload_n 3, 1) := by decide +kernel
theorem dX6_varint_58 : decode cX6_varint 58 = .ok (.ifCond .eq 7, 3) := by decide +kernel
theorem dX6_varint_61 : decode cX6_varint 61 = .ok (.iload_n 2, 1) := by decide +kernel
theorem dX6_varint_62 : decode cX6_varint 62 = .ok (.goto 11, 3) := by decide +kernel
theorem dX6_varint_65 : decode cX6_varint 65 = .ok (.iload_n 2, 1) := by decide +kernel
theorem dX6_varint_66 : decode cX6_varint 66 = .ok (.bipush 127, 2) := by decide +kernel
theorem dX6_varint_68 : decode cX6_varint 68 = .ok (.iand, 1) := by decide +kernel
theorem dX6_varint_69 : decode cX6_varint 69 = .ok (.sipush 128, 3) := by decide +kernel
theorem dX6_varint_72 : decode cX6_varint 72 = .ok (.ior, 1) := by decide +kernel
theorem dX6_varint_73 : decode cX6_varint 73 = .ok (.i2b, 1) := by decide +kernel
theorem dX6_varint_74 : decode cX6_varint 74 = .ok (.bastore, 1) := by decide +kernel
theorem dX6_varint_75 : decode cX6_varint 75 = .ok (.aload_n 0, 1) := by decide +kernel
theorem dX6_varint_76 : decode cX6_varint 76 = .ok (.dup, 1) := by decide +kernel
theorem dX6_varint_77 : decode cX6_varint 77 = .ok (.getfield 13, 3) := by decide +kernel
theorem dX6_varint_80 : decode cX6_varint 80 = .ok (.iconst 1, 1) := by decide +kernel
theorem dX6_varint_81 : decode cX6_varint 81 = .ok (.iadd, 1) := by decide +kernel
theorem dX6_varint_82 : decode cX6_varint 82 = .ok (.putfield 13, 3) := by decide +kernel
theorem dX6_varint_85 : decode cX6_varint 85 = .ok (.iload_n 2, 1) := by decide +kernel
theorem dX6_varint_86 : decode cX6_varint 86 = .ok (.bipush 7, 2) := by decide +kernel
theorem dX6_varint_88 : decode cX6_varint 88 = .ok (.iushr, 1) := by decide +kernel
theorem dX6_varint_89 : decode cX6_varint 89 = .ok (.istore_n 2, 1) := by decide +kernel
theorem dX6_varint_90 : decode cX6_varint 90 = .ok (.iinc 4 1, 3) := by decide +kernel
theorem dX6_varint_93 : decode cX6_varint 93 = .ok (.goto (-79), 3) := by decide +kernel
theorem dX6_varint_96 : decode cX6_varint 96 = .ok (.return_, 1) := by decide +kernel
theorem dX6_varintBytes_0 : decode cX6_varintBytes 0 = .ok (.iload_n 0, 1) := by decide +kernel
theorem dX6_varintBytes_1 : decode cX6_varintBytes 1 = .ok (.iconst 1, 1) := by decide +kernel
theorem dX6_varintBytes_2 : decode cX6_varintBytes 2 = .ok (.ishl, 1) := by decide +kernel
theorem dX6_varintBytes_3 : decode cX6_varintBytes 3 = .ok (.iload_n 0, 1) := by decide +kernel
theorem dX6_varintBytes_4 : decode cX6_varintBytes 4 = .ok (.bipush 31, 2) := by decide +kernel
theorem dX6_varintBytes_6 : decode cX6_varintBytes 6 = .ok (.ishr, 1) := by decide +kernel
theorem dX6_varintBytes_7 : decode cX6_varintBytes 7 = .ok (.ixor, 1) := by decide +kernel
theorem dX6_varintBytes_8 : decode cX6_varintBytes 8 = .ok (.istore_n 1, 1) := by decide +kernel
theorem dX6_varintBytes_9 : decode cX6_varintBytes 9 = .ok (.iconst 1, 1) := by decide +kernel
theorem dX6_varintBytes_10 : decode cX6_varintBytes 10 = .ok (.istore_n 2, 1) := by decide +kernel
theorem dX6_varintBytes_11 : decode cX6_varintBytes 11 = .ok (.iload_n 2, 1) := by decide +kernel
theorem dX6_varintBytes_12 : decode cX6_varintBytes 12 = .ok (.iconst 5, 1) := by decide +kernel
theorem dX6_varintBytes_13 : decode cX6_varintBytes 13 = .ok (.if_icmp .ge 18, 3) := by decide +kernel
theorem dX6_varintBytes_16 : decode cX6_varintBytes 16 = .ok (.iload_n 1, 1) := by decide +kernel
theorem dX6_varintBytes_17 : decode cX6_varintBytes 17 = .ok (.bipush 7, 2) := by decide +kernel
theorem dX6_varintBytes_19 : decode cX6_varintBytes 19 = .ok (.iload_n 2, 1) := by decide +kernel
theorem dX6_varintBytes_20 : decode cX6_varintBytes 20 = .ok (.imul, 1) := by decide +kernel
theorem dX6_varintBytes_21 : decode cX6_varintBytes 21 = .ok (.iushr, 1) := by decide +kernel
theorem dX6_varintBytes_22 : decode cX6_varintBytes 22 = .ok (.ifCond .eq 9, 3) := by decide +kernel
theorem dX6_varintBytes_25 : decode cX6_varintBytes 25 = .ok (.iinc 2 1, 3) := by decide +kernel
theorem dX6_varintBytes_28 : decode cX6_varintBytes 28 = .ok (.goto (-17), 3) := by decide +kernel
theorem dX6_varintBytes_31 : decode cX6_varintBytes 31 = .ok (.iload_n 2, 1) := by decide +kernel
theorem dX6_varintBytes_32 : decode cX6_varintBytes 32 = .ok (.ireturn, 1) := by decide +kernel
theorem dX6_check_0 : decode cX6_check 0 = .ok (.aload_n 0, 1) := by decide +kernel
theorem dX6_check_1 : decode cX6_check 1 = .ok (.aload_n 0, 1) := by decide +kernel
theorem dX6_check_2 : decode cX6_check 2 = .ok (.getfield 7, 3) := by decide +kernel
theorem dX6_check_5 : decode cX6_check 5 = .ok (.iload_n 1, 1) := by decide +kernel
theorem dX6_check_6 : decode cX6_check 6 = .ok (.aload_n 0, 1) := by decide +kernel
theorem dX6_check_7 : decode cX6_check 7 = .ok (.getfield 13, 3) := by decide +kernel
theorem dX6_check_10 : decode cX6_check 10 = .ok (.invokestatic 29, 3) := by decide +kernel
theorem dX6_check_13 : decode cX6_check 13 = .ok (.invokevirtual 33, 3) := by decide +kernel
theorem dX6_check_16 : decode cX6_check 16 = .ok (.return_, 1) := by decide +kernel
theorem dX6_checkOf_0 : decode cX6_checkOf 0 = .ok (.iconst (-1), 1) := by decide +kernel
theorem dX6_checkOf_1 : decode cX6_checkOf 1 = .ok (.istore_n 3, 1) := by decide +kernel
theorem dX6_checkOf_2 : decode cX6_checkOf 2 = .ok (.iload_n 1, 1) := by decide +kernel
theorem dX6_checkOf_3 : decode cX6_checkOf 3 = .ok (.istore 4, 2) := by decide +kernel
theorem dX6_checkOf_5 : decode cX6_checkOf 5 = .ok (.iload 4, 2) := by decide +kernel
theorem dX6_checkOf_7 : decode cX6_checkOf 7 = .ok (.ifCond .lt 62, 3) := by decide +kernel
theorem dX6_checkOf_10 : decode cX6_checkOf 10 = .ok (.iload 4, 2) := by decide +kernel
theorem dX6_checkOf_12 : decode cX6_checkOf 12 = .ok (.iload_n 2, 1) := by decide +kernel
theorem dX6_checkOf_13 : decode cX6_checkOf 13 = .ok (.if_icmp .ge 56, 3) := by decide +kernel
theorem dX6_checkOf_16 : decode cX6_checkOf 16 = .ok (.iload 4, 2) := by decide +kernel
theorem dX6_checkOf_18 : decode cX6_checkOf 18 = .ok (.aload_n 0, 1) := by decide +kernel
theorem dX6_checkOf_19 : decode cX6_checkOf 19 = .ok (.arraylength, 1) := by decide +kernel
theorem dX6_checkOf_20 : decode cX6_checkOf 20 = .ok (.if_icmp .ge 49, 3) := by decide +kernel
theorem dX6_checkOf_23 : decode cX6_checkOf 23 = .ok (.aload_n 0, 1) := by decide +kernel
theorem dX6_checkOf_24 : decode cX6_checkOf 24 = .ok (.iload 4, 2) := by decide +kernel
theorem dX6_checkOf_26 : decode cX6_checkOf 26 = .ok (.baload, 1) := by decide +kernel
theorem dX6_checkOf_27 : decode cX6_checkOf 27 = .ok (.istore 5, 2) := by decide +kernel
theorem dX6_checkOf_29 : decode cX6_checkOf 29 = .ok (.iload_n 3, 1) := by decide +kernel
theorem dX6_checkOf_30 : decode cX6_checkOf 30 = .ok (.iconst 4, 1) := by decide +kernel
theorem dX6_checkOf_31 : decode cX6_checkOf 31 = .ok (.iushr, 1) := by decide +kernel
theorem dX6_checkOf_32 : decode cX6_checkOf 32 = .ok (.getstatic 37, 3) := by decide +kernel
theorem dX6_checkOf_35 : decode cX6_checkOf 35 = .ok (.iload_n 3, 1) := by decide +kernel
theorem dX6_checkOf_36 : decode cX6_checkOf 36 = .ok (.iload 5, 2) := by decide +kernel
theorem dX6_checkOf_38 : decode cX6_checkOf 38 = .ok (.ixor, 1) := by decide +kernel
theorem dX6_checkOf_39 : decode cX6_checkOf 39 = .ok (.bipush 15, 2) := by decide +kernel
theorem dX6_checkOf_41 : decode cX6_checkOf 41 = .ok (.iand, 1) := by decide +kernel
theorem dX6_checkOf_42 : decode cX6_checkOf 42 = .ok (.iaload, 1) := by decide +kernel
theorem dX6_checkOf_43 : decode cX6_checkOf 43 = .ok (.ixor, 1) := by decide +kernel
theorem dX6_checkOf_44 : decode cX6_checkOf 44 = .ok (.istore_n 3, 1) := by decide +kernel
theorem dX6_checkOf_45 : decode cX6_checkOf 45 = .ok (.iload_n 3, 1) := by decide +kernel
theorem dX6_checkOf_46 : decode cX6_checkOf 46 = .ok (.iconst 4, 1) := by decide +kernel
theorem dX6_checkOf_47 : decode cX6_checkOf 47 = .ok (.iushr, 1) := by decide +kernel
theorem dX6_checkOf_48 : decode cX6_checkOf 48 = .ok (.getstatic 37, 3) := by decide +kernel
theorem dX6_checkOf_51 : decode cX6_checkOf 51 = .ok (.iload_n 3, 1) := by decide +kernel
theorem dX6_checkOf_52 : decode cX6_checkOf 52 = .ok (.iload 5, 2) := by decide +kernel
theorem dX6_checkOf_54 : decode cX6_checkOf 54 = .ok (.iconst 4, 1) := by decide +kernel
theorem dX6_checkOf_55 : decode cX6_checkOf 55 = .ok (.ishr, 1) := by decide +kernel
theorem dX6_checkOf_56 : decode cX6_checkOf 56 = .ok (.ixor, 1) := by decide +kernel
theorem dX6_checkOf_57 : decode cX6_checkOf 57 = .ok (.bipush 15, 2) := by decide +kernel
theorem dX6_checkOf_59 : decode cX6_checkOf 59 = .ok (.iand, 1) := by decide +kernel
theorem dX6_checkOf_60 : decode cX6_checkOf 60 = .ok (.iaload, 1) := by decide +kernel
theorem dX6_checkOf_61 : decode cX6_checkOf 61 = .ok (.ixor, 1) := by decide +kernel
theorem dX6_checkOf_62 : decode cX6_checkOf 62 = .ok (.istore_n 3, 1) := by decide +kernel
theorem dX6_checkOf_63 : decode cX6_checkOf 63 = .ok (.iinc 4 1, 3) := by decide +kernel
theorem dX6_checkOf_66 : decode cX6_checkOf 66 = .ok (.goto (-61), 3) := by decide +kernel
theorem dX6_checkOf_69 : decode cX6_checkOf 69 = .ok (.iload_n 3, 1) := by decide +kernel
theorem dX6_checkOf_70 : decode cX6_checkOf 70 = .ok (.iconst (-1), 1) := by decide +kernel
theorem dX6_checkOf_71 : decode cX6_checkOf 71 = .ok (.ixor, 1) := by decide +kernel
theorem dX6_checkOf_72 : decode cX6_checkOf 72 = .ok (.ireturn, 1) := by decide +kernel
theorem dX6_slice_0 : decode cX6_slice 0 = .ok (.iload_n 1, 1) := by decide +kernel
theorem dX6_slice_1 : decode cX6_slice 1 = .ok (.ifCond .lt 16, 3) := by decide +kernel
theorem dX6_slice_4 : decode cX6_slice 4 = .ok (.iload_n 2, 1) := by decide +kernel
theorem dX6_slice_5 : decode cX6_slice 5 = .ok (.iload_n 1, 1) := by decide +kernel
theorem dX6_slice_6 : decode cX6_slice 6 = .ok (.if_icmp .lt 11, 3) := by decide +kernel
theorem dX6_slice_9 : decode cX6_slice 9 = .ok (.iload_n 2, 1) := by decide +kernel
theorem dX6_slice_10 : decode cX6_slice 10 = .ok (.aload_n 0, 1) := by decide +kernel
theorem dX6_slice_11 : decode cX6_slice 11 = .ok (.getfield 13, 3) := by decide +kernel
theorem dX6_slice_14 : decode cX6_slice 14 = .ok (.if_icmp .le 7, 3) := by decide +kernel
theorem dX6_slice_17 : decode cX6_slice 17 = .ok (.iconst 0, 1) := by decide +kernel
theorem dX6_slice_18 : decode cX6_slice 18 = .ok (.newarray .byte, 2) := by decide +kernel
theorem dX6_slice_20 : decode cX6_slice 20 = .ok (.areturn, 1) := by decide +kernel
theorem dX6_slice_21 : decode cX6_slice 21 = .ok (.aload_n 0, 1) := by decide +kernel
theorem dX6_slice_22 : decode cX6_slice 22 = .ok (.getfield 7, 3) := by decide +kernel
theorem dX6_slice_25 : decode cX6_slice 25 = .ok (.iload_n 1, 1) := by decide +kernel
theorem dX6_slice_26 : decode cX6_slice 26 = .ok (.iload_n 2, 1) := by decide +kernel
theorem dX6_slice_27 : decode cX6_slice 27 = .ok (.invokestatic 43, 3) := by decide +kernel
theorem dX6_slice_30 : decode cX6_slice 30 = .ok (.areturn, 1) := by decide +kernel
theorem dX6_holdsJust_0 : decode cX6_holdsJust 0 = .ok (.aload_n 0, 1) := by decide +kernel
theorem dX6_holdsJust_1 : decode cX6_holdsJust 1 = .ok (.getfield 13, 3) := by decide +kernel
theorem dX6_holdsJust_4 : decode cX6_holdsJust 4 = .ok (.aload_n 1, 1) := by decide +kernel
theorem dX6_holdsJust_5 : decode cX6_holdsJust 5 = .ok (.arraylength, 1) := by decide +kernel
theorem dX6_holdsJust_6 : decode cX6_holdsJust 6 = .ok (.if_icmp .ne 15, 3) := by decide +kernel
theorem dX6_holdsJust_9 : decode cX6_holdsJust 9 = .ok (.aload_n 0, 1) := by decide +kernel
theorem dX6_holdsJust_10 : decode cX6_holdsJust 10 = .ok (.getfield 13, 3) := by decide +kernel
theorem dX6_holdsJust_13 : decode cX6_holdsJust 13 = .ok (.aload_n 0, 1) := by decide +kernel
theorem dX6_holdsJust_14 : decode cX6_holdsJust 14 = .ok (.getfield 7, 3) := by decide +kernel
theorem dX6_holdsJust_17 : decode cX6_holdsJust 17 = .ok (.arraylength, 1) := by decide +kernel
theorem dX6_holdsJust_18 : decode cX6_holdsJust 18 = .ok (.if_icmp .le 5, 3) := by decide +kernel
theorem dX6_holdsJust_21 : decode cX6_holdsJust 21 = .ok (.iconst 0, 1) := by decide +kernel
theorem dX6_holdsJust_22 : decode cX6_holdsJust 22 = .ok (.ireturn, 1) := by decide +kernel
theorem dX6_holdsJust_23 : decode cX6_holdsJust 23 = .ok (.iconst 0, 1) := by decide +kernel
theorem dX6_holdsJust_24 : decode cX6_holdsJust 24 = .ok (.istore_n 2, 1) := by decide +kernel
theorem dX6_holdsJust_25 : decode cX6_holdsJust 25 = .ok (.iload_n 2, 1) := by decide +kernel
theorem dX6_holdsJust_26 : decode cX6_holdsJust 26 = .ok (.aload_n 1, 1) := by decide +kernel
theorem dX6_holdsJust_27 : decode cX6_holdsJust 27 = .ok (.arraylength, 1) := by decide +kernel
theorem dX6_holdsJust_28 : decode cX6_holdsJust 28 = .ok (.if_icmp .ge 23, 3) := by decide +kernel
theorem dX6_holdsJust_31 : decode cX6_holdsJust 31 = .ok (.aload_n 0, 1) := by decide +kernel
theorem dX6_holdsJust_32 : decode cX6_holdsJust 32 = .ok (.getfield 7, 3) := by decide +kernel
theorem dX6_holdsJust_35 : decode cX6_holdsJust 35 = .ok (.iload_n 2, 1) := by decide +kernel
theorem dX6_holdsJust_36 : decode cX6_holdsJust 36 = .ok (.baload, 1) := by decide +kernel
theorem dX6_holdsJust_37 : decode cX6_holdsJust 37 = .ok (.aload_n 1, 1) := by decide +kernel
theorem dX6_holdsJust_38 : decode cX6_holdsJust 38 = .ok (.iload_n 2, 1) := by decide +kernel
theorem dX6_holdsJust_39 : decode cX6_holdsJust 39 = .ok (.baload, 1) := by decide +kernel
theorem dX6_holdsJust_40 : decode cX6_holdsJust 40 = .ok (.if_icmp .eq 5, 3) := by decide +kernel
theorem dX6_holdsJust_43 : decode cX6_holdsJust 43 = .ok (.iconst 0, 1) := by decide +kernel
theorem dX6_holdsJust_44 : decode cX6_holdsJust 44 = .ok (.ireturn, 1) := by decide +kernel
theorem dX6_holdsJust_45 : decode cX6_holdsJust 45 = .ok (.iinc 2 1, 3) := by decide +kernel
theorem dX6_holdsJust_48 : decode cX6_holdsJust 48 = .ok (.goto (-23), 3) := by decide +kernel
theorem dX6_holdsJust_51 : decode cX6_holdsJust 51 = .ok (.iconst 1, 1) := by decide +kernel
theorem dX6_holdsJust_52 : decode cX6_holdsJust 52 = .ok (.ireturn, 1) := by decide +kernel
