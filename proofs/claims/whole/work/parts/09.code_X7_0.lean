theorem dX7_init_0 : decode cX7_init 0 = .ok (.aload_n 0, 1) := by decide +kernel
theorem dX7_init_1 : decode cX7_init 1 = .ok (.invokespecial 1, 3) := by decide +kernel
theorem dX7_init_4 : decode cX7_init 4 = .ok (.aload_n 0, 1) := by decide +kernel
theorem dX7_init_5 : decode cX7_init 5 = .ok (.iconst 0, 1) := by decide +kernel
theorem dX7_init_6 : decode cX7_init 6 = .ok (.newarray .byte, 2) := by decide +kernel
theorem dX7_init_8 : decode cX7_init 8 = .ok (.putfield 7, 3) := by decide +kernel
theorem dX7_init_11 : decode cX7_init 11 = .ok (.return_, 1) := by decide +kernel
theorem dX7_open_0 : decode cX7_open 0 = .ok (.aload_n 0, 1) := by decide +kernel
theorem dX7_open_1 : decode cX7_open 1 = .ok (.aload_n 1, 1) := by decide +kernel
theorem dX7_open_2 : decode cX7_open 2 = .ok (.putfield 7, 3) := by decide +kernel
theorem dX7_open_5 : decode cX7_open 5 = .ok (.aload_n 0, 1) := by decide +kernel
theorem dX7_open_6 : decode cX7_open 6 = .ok (.iconst 0, 1) := by decide +kernel
theorem dX7_open_7 : decode cX7_open 7 = .ok (.putfield 13, 3) := by decide +kernel
theorem dX7_open_10 : decode cX7_open 10 = .ok (.aload_n 0, 1) := by decide +kernel
theorem dX7_open_11 : decode cX7_open 11 = .ok (.iload_n 2, 1) := by decide +kernel
theorem dX7_open_12 : decode cX7_open 12 = .ok (.aload_n 1, 1) := by decide +kernel
theorem dX7_open_13 : decode cX7_open 13 = .ok (.arraylength, 1) := by decide +kernel
theorem dX7_open_14 : decode cX7_open 14 = .ok (.invokestatic 17, 3) := by decide +kernel
theorem dX7_open_17 : decode cX7_open 17 = .ok (.putfield 23, 3) := by decide +kernel
theorem dX7_open_20 : decode cX7_open 20 = .ok (.aload_n 0, 1) := by decide +kernel
theorem dX7_open_21 : decode cX7_open 21 = .ok (.aload_n 0, 1) := by decide +kernel
theorem dX7_open_22 : decode cX7_open 22 = .ok (.getfield 23, 3) := by decide +kernel
theorem dX7_open_25 : decode cX7_open 25 = .ok (.ifCond .ge 7, 3) := by decide +kernel
theorem dX7_open_28 : decode cX7_open 28 = .ok (.iconst 1, 1) := by decide +kernel
theorem dX7_open_29 : decode cX7_open 29 = .ok (.goto 4, 3) := by decide +kernel
theorem dX7_open_32 : decode cX7_open 32 = .ok (.iconst 0, 1) := by decide +kernel
theorem dX7_open_33 : decode cX7_open 33 = .ok (.putfield 26, 3) := by decide +kernel
theorem dX7_open_36 : decode cX7_open 36 = .ok (.return_, 1) := by decide +kernel
theorem dX7_isAtEnd_0 : decode cX7_isAtEnd 0 = .ok (.aload_n 0, 1) := by decide +kernel
theorem dX7_isAtEnd_1 : decode cX7_isAtEnd 1 = .ok (.getfield 26, 3) := by decide +kernel
theorem dX7_isAtEnd_4 : decode cX7_isAtEnd 4 = .ok (.ifCond .ne 18, 3) := by decide +kernel
theorem dX7_isAtEnd_7 : decode cX7_isAtEnd 7 = .ok (.aload_n 0, 1) := by decide +kernel
theorem dX7_isAtEnd_8 : decode cX7_isAtEnd 8 = .ok (.getfield 13, 3) := by decide +kernel
theorem dX7_isAtEnd_11 : decode cX7_isAtEnd 11 = .ok (.aload_n 0, 1) := by decide +kernel
theorem dX7_isAtEnd_12 : decode cX7_isAtEnd 12 = .ok (.getfield 23, 3) := by decide +kernel
theorem dX7_isAtEnd_15 : decode cX7_isAtEnd 15 = .ok (.if_icmp .ne 7, 3) := by decide +kernel
theorem dX7_isAtEnd_18 : decode cX7_isAtEnd 18 = .ok (.iconst 1, 1) := by decide +kernel
theorem dX7_isAtEnd_19 : decode cX7_isAtEnd 19 = .ok (.goto 4, 3) := by decide +kernel
theorem dX7_isAtEnd_22 : decode cX7_isAtEnd 22 = .ok (.iconst 0, 1) := by decide +kernel
theorem dX7_isAtEnd_23 : decode cX7_isAtEnd 23 = .ok (.ireturn, 1) := by decide +kernel
theorem dX7_u1_0 : decode cX7_u1 0 = .ok (.aload_n 0, 1) := by decide +kernel
theorem dX7_u1_1 : decode cX7_u1 1 = .ok (.getfield 13, 3) := by decide +kernel
theorem dX7_u1_4 : decode cX7_u1 4 = .ok (.aload_n 0, 1) := by decide +kernel
theorem dX7_u1_5 : decode cX7_u1 5 = .ok (.getfield 23, 3) := by decide +kernel
theorem dX7_u1_8 : decode cX7_u1 8 = .ok (.if_icmp .lt 10, 3) := by decide +kernel
theorem dX7_u1_11 : decode cX7_u1 11 = .ok (.aload_n 0, 1) := by decide +kernel
theorem dX7_u1_12 : decode cX7_u1 12 = .ok (.iconst 1, 1) := by decide +kernel
theorem dX7_u1_13 : decode cX7_u1 13 = .ok (.putfield 26, 3) := by decide +kernel
theorem dX7_u1_16 : decode cX7_u1 16 = .ok (.iconst 0, 1) := by decide +kernel
theorem dX7_u1_17 : decode cX7_u1 17 = .ok (.ireturn, 1) := by decide +kernel
theorem dX7_u1_18 : decode cX7_u1 18 = .ok (.aload_n 0, 1) := by decide +kernel
theorem dX7_u1_19 : decode cX7_u1 19 = .ok (.getfield 7, 3) := by decide +kernel
theorem dX7_u1_22 : decode cX7_u1 22 = .ok (.aload_n 0, 1) := by decide +kernel
theorem dX7_u1_23 : decode cX7_u1 23 = .ok (.getfield 13, 3) := by decide +kernel
theorem dX7_u1_26 : decode cX7_u1 26 = .ok (.baload, 1) := by decide +kernel
theorem dX7_u1_27 : decode cX7_u1 27 = .ok (.sipush 255, 3) := by decide +kernel
theorem dX7_u1_30 : decode cX7_u1 30 = .ok (.iand, 1) := by decide +kernel
theorem dX7_u1_31 : decode cX7_u1 31 = .ok (.istore_n 1, 1) := by decide +kernel
theorem dX7_u1_32 : decode cX7_u1 32 = .ok (.aload_n 0, 1) := by decide +kernel
theorem dX7_u1_33 : decode cX7_u1 33 = .ok (.dup, 1) := by decide +kernel
theorem dX7_u1_34 : decode cX7_u1 34 = .ok (.getfield 13, 3) := by decide +kernel
theorem dX7_u1_37 : decode cX7_u1 37 = .ok (.iconst 1, 1) := by decide +kernel
theorem dX7_u1_38 : decode cX7_u1 38 = .ok (.iadd, 1) := by decide +kernel
theorem dX7_u1_39 : decode cX7_u1 39 = .ok (.putfield 13, 3) := by decide +kernel
theorem dX7_u1_42 : decode cX7_u1 42 = .ok (.iload_n 1, 1) := by decide +kernel
theorem dX7_u1_43 : decode cX7_u1 43 = .ok (.ireturn, 1) := by decide +kernel
theorem dX7_u4_0 : decode cX7_u4 0 = .ok (.aload_n 0, 1) := by decide +kernel
theorem dX7_u4_1 : decode cX7_u4 1 = .ok (.getfield 13, 3) := by decide +kernel
theorem dX7_u4_4 : decode cX7_u4 4 = .ok (.aload_n 0, 1) := by decide +kernel
theorem dX7_u4_5 : decode cX7_u4 5 = .ok (.getfield 23, 3) := by decide +kernel
theorem dX7_u4_8 : decode cX7_u4 8 = .ok (.iconst 4, 1) := by decide +kernel
theorem dX7_u4_9 : decode cX7_u4 9 = .ok (.isub, 1) := by decide +kernel
theorem dX7_u4_10 : decode cX7_u4 10 = .ok (.if_icmp .le 10, 3) := by decide +kernel
theorem dX7_u4_13 : decode cX7_u4 13 = .ok (.aload_n 0, 1) := by decide +kernel
theorem dX7_u4_14 : decode cX7_u4 14 = .ok (.iconst 1, 1) := by decide +kernel
theorem dX7_u4_15 : decode cX7_u4 15 = .ok (.putfield 26, 3) := by decide +kernel
theorem dX7_u4_18 : decode cX7_u4 18 = .ok (.iconst 0, 1) := by decide +kernel
theorem dX7_u4_19 : decode cX7_u4 19 = .ok (.ireturn, 1) := by decide +kernel
theorem dX7_u4_20 : decode cX7_u4 20 = .ok (.aload_n 0, 1) := by decide +kernel
theorem dX7_u4_21 : decode cX7_u4 21 = .ok (.getfield 7, 3) := by decide +kernel
theorem dX7_u4_24 : decode cX7_u4 24 = .ok (.aload_n 0, 1) := by decide +kernel
theorem dX7_u4_25 : decode cX7_u4 25 = .ok (.getfield 13, 3) := by decide +kernel
theorem dX7_u4_28 : decode cX7_u4 28 = .ok (.baload, 1) := by decide +kernel
theorem dX7_u4_29 : decode cX7_u4 29 = .ok (.sipush 255, 3) := by decide +kernel
theorem dX7_u4_32 : decode cX7_u4 32 = .ok (.iand, 1) := by decide +kernel
theorem dX7_u4_33 : decode cX7_u4 33 = .ok (.bipush 24, 2) := by decide +kernel
theorem dX7_u4_35 : decode cX7_u4 35 = .ok (.ishl, 1) := by decide +kernel
theorem dX7_u4_36 : decode cX7_u4 36 = .ok (.aload_n 0, 1) := by decide +kernel
theorem dX7_u4_37 : decode cX7_u4 37 = .ok (.getfield 7, 3) := by decide +kernel
theorem dX7_u4_40 : decode cX7_u4 40 = .ok (.aload_n 0, 1) := by decide +kernel
theorem dX7_u4_41 : decode cX7_u4 41 = .ok (.getfield 13, 3) := by decide +kernel
theorem dX7_u4_44 : decode cX7_u4 44 = .ok (.iconst 1, 1) := by decide +kernel
theorem dX7_u4_45 : decode cX7_u4 45 = .ok (.iadd, 1) := by decide +kernel
theorem dX7_u4_46 : decode cX7_u4 46 = .ok (.baload, 1) := by decide +kernel
theorem dX7_u4_47 : decode cX7_u4 47 = .ok (.sipush 255, 3) := by decide +kernel
theorem dX7_u4_50 : decode cX7_u4 50 = .ok (.iand, 1) := by decide +kernel
theorem dX7_u4_51 : decode cX7_u4 51 = .ok (.bipush 16, 2) := by decide +kernel
theorem dX7_u4_53 : decode cX7_u4 53 = .ok (.ishl, 1) := by decide +kernel
theorem dX7_u4_54 : decode cX7_u4 54 = .ok (.ior, 1) := by decide +kernel
theorem dX7_u4_55 : decode cX7_u4 55 = .ok (.aload_n 0, 1) := by decide +kernel
theorem dX7_u4_56 : decode cX7_u4 56 = .ok (.getfield 7, 3) := by decide +kernel
theorem dX7_u4_59 : decode cX7_u4 59 = .ok (.aload_n 0, 1) := by decide +kernel
theorem dX7_u4_60 : decode cX7_u4 60 = .ok (.getfield 13, 3) := by decide +kernel
theorem dX7_u4_63 : decode cX7_u4 63 = .ok (.iconst 2, 1) := by decide +kernel
theorem dX7_u4_64 : decode cX7_u4 64 = .ok (.iadd, 1) := by decide +kernel
theorem dX7_u4_65 : decode cX7_u4 65 = .ok (.baload, 1) := by decide +kernel
theorem dX7_u4_66 : decode cX7_u4 66 = .ok (.sipush 255, 3) := by decide +kernel
theorem dX7_u4_69 : decode cX7_u4 69 = .ok (.iand, 1) := by decide +kernel
theorem dX7_u4_70 : decode cX7_u4 70 = .ok (.bipush 8, 2) := by decide +kernel
theorem dX7_u4_72 : decode cX7_u4 72 = .ok (.ishl, 1) := by decide +kernel
theorem dX7_u4_73 : decode cX7_u4 73 = .ok (.ior, 1) := by decide +kernel
theorem dX7_u4_74 : decode cX7_u4 74 = .ok (.aload_n 0, 1) := by decide +kernel
theorem dX7_u4_75 : decode cX7_u4 75 = .ok (.getfield 7, 3) := by decide +kernel
theorem dX7_u4_78 : decode cX7_u4 78 = .ok (.aload_n 0, 1) := by decide +kernel
theorem dX7_u4_79 : decode cX7_u4 79 = .ok (.getfield 13, 3) := by decide +kernel
theorem dX7_u4_82 : decode cX7_u4 82 = .ok (.iconst 3, 1) := by decide +kernel
theorem dX7_u4_83 : decode cX7_u4 83 = .ok (.iadd, 1) := by decide +kernel
theorem dX7_u4_84 : decode cX7_u4 84 = .ok (.baload, 1) := by decide +kernel
theorem dX7_u4_85 : decode cX7_u4 85 = .ok (.sipush 255, 3) := by decide +kernel
theorem dX7_u4_88 : decode cX7_u4 88 = .ok (.iand, 1) := by decide +kernel
theorem dX7_u4_89 : decode cX7_u4 89 = .ok (.ior, 1) := by decide +kernel
theorem dX7_u4_90 : decode cX7_u4 90 = .ok (.istore_n 1, 1) := by decide +kernel
theorem dX7_u4_91 : decode cX7_u4 91 = .ok (.aload_n 0, 1) := by decide +kernel
theorem dX7_u4_92 : decode cX7_u4 92 = .ok (.dup, 1) := by decide +kernel
theorem dX7_u4_93 : decode cX7_u4 93 = .ok (.getfield 13, 3) := by decide +kernel
theorem dX7_u4_96 : decode cX7_u4 96 = .ok (.iconst 4, 1) := by decide +kernel
theorem dX7_u4_97 : decode cX7_u4 97 = .ok (.iadd, 1) := by decide +kernel
theorem dX7_u4_98 : decode cX7_u4 98 = .ok (.putfield 13, 3) := by decide +kernel
theorem dX7_u4_101 : decode cX7_u4 101 = .ok (.iload_n 1, 1) := by decide +kernel
theorem dX7_u4_102 : decode cX7_u4 102 = .ok (.ireturn, 1) := by decide +kernel
theorem dX7_varint_0 : decode cX7_varint 0 = .ok (.iconst 0, 1) := by decide +kernel
theorem dX7_varint_1 : decode cX7_varint 1 = .ok (.istore_n 1, 1) := by decide +kernel
theorem dX7_varint_2 : decode cX7_varint 2 = .ok (.iconst 0, 1) := by decide +kernel
theorem dX7_varint_3 : decode cX7_varint 3 = .ok (.istore_n 2, 1) := by decide +kernel
theorem dX7_varint_4 : decode cX7_varint 4 = .ok (.iload_n 2, 1) := by decide +kernel
theorem dX7_varint_5 : decode cX7_varint 5 = .ok (.iconst 5, 1) := by decide +kernel
theorem dX7_varint_6 : decode cX7_varint 6 = .ok (.if_icmp .ge 65, 3) := by decide +kernel
theorem dX7_varint_9 : decode cX7_varint 9 = .ok (.aload_n 0, 1) := by decide +kernel
theorem dX7_varint_10 : decode cX7_varint 10 = .ok (.getfield 13, 3) := by decide +kernel
theorem dX7_varint_13 : decode cX7_varint 13 = .ok (.aload_n 0, 1) := by decide +kernel
theorem dX7_varint_14 : decode cX7_varint 14 = .ok (.getfield 23, 3) := by decide +kernel
theorem dX7_varint_17 : decode cX7_varint 17 = .ok (.if_icmp .ge 54, 3) := by decide +kernel
theorem dX7_varint_20 : decode cX7_varint 20 = .ok (.aload_n 0, 1) := by decide +kernel
theorem dX7_varint_21 : decode cX7_varint 21 = .ok (.getfield 7, 3) := by decide +kernel
theorem dX7_varint_24 : decode cX7_varint 24 = .ok (.aload_n 0, 1) := by decide +kernel
theorem dX7_varint_25 : decode cX7_varint 25 = .ok (.getfield 13, 3) := by decide +kernel
theorem dX7_varint_28 : decode cX7_varint 28 = .ok (.baload, 1) := by decide +kernel
theorem dX7_varint_29 : decode cX7_varint 29 = .ok (.istore_n 3, 1) := by decide +kernel
theorem dX7_varint_30 : decode cX7_varint 30 = .ok (.aload_n 0, 1) := by decide +kernel
theorem dX7_varint_31 : decode cX7_varint 31 = .ok (.dup, 1) := by decide +kernel
theorem dX7_varint_32 : decode cX7_varint 32 = .ok (.getfield 13, 3) := by decide +kernel
theorem dX7_varint_35 : decode cX7_varint 35 = .ok (.iconst 1, 1) := by decide +kernel
theorem dX7_varint_36 : decode cX7_varint 36 = .ok (.iadd, 1) := by decide +kernel
theorem dX7_varint_37 : decode cX7_varint 37 = .ok (.putfield 13, 3) := by decide +kernel
theorem dX7_varint_40 : decode cX7_varint 40 = .ok (.iload_n 1, 1) := by decide +kernel
theorem dX7_varint_41 : decode cX7_varint 41 = .ok (.iload_n 3, 1) := by decide +kernel
theorem dX7_varint_42 : decode cX7_varint 42 = .ok (.bipush 127, 2) := by decide +kernel
theorem dX7_varint_44 : decode cX7_varint 44 = .ok (.iand, 1) := by decide +kernel
theorem dX7_varint_45 : decode cX7_varint 45 = .ok (.bipush 7, 2) := by decide +kernel
theorem dX7_varint_47 : decode cX7_varint 47 = .ok (.iload_n 2, 1) := by decide +kernel
theorem dX7_varint_48 : decode cX7_varint 48 = .ok (.imul, 1) := by decide +kernel
theorem dX7_varint_49 : decode cX7_varint 49 = .ok (.ishl, 1) := by decide +kernel
theorem dX7_varint_50 : decode cX7_varint 50 = .ok (.ior, 1) := by decide +kernel
theorem dX7_varint_51 : decode cX7_varint 51 = .ok (.istore_n 1, 1) := by decide +kernel
theorem dX7_varint_52 : decode cX7_varint 52 = .ok (.iload_n 3, 1) := by decide +kernel
theorem dX7_varint_53 : decode cX7_varint 53 = .ok (.ifCond .lt 12, 3) := by decide +kernel
theorem dX7_varint_56 : decode cX7_varint 56 = .ok (.iload_n 1, 1) := by decide +kernel
theorem dX7_varint_57 : decode cX7_varint 57 = .ok (.iconst 1, 1) := by decide +kernel
theorem dX7_varint_58 : decode cX7_varint 58 = .ok (.iushr, 1) := by decide +kernel
theorem dX7_varint_59 : decode cX7_varint 59 = .ok (.iload_n 1, 1) := by decide +kernel
theorem dX7_varint_60 : decode cX7_varint 60 = .ok (.iconst 1, 1) := by decide +kernel
theorem dX7_varint_61 : decode cX7_varint 61 = .ok (.iand, 1) := by decide +kernel
theorem dX7_varint_62 : decode cX7_varint 62 = .ok (.ineg, 1) := by decide +kernel
theorem dX7_varint_63 : decode cX7_varint 63 = .ok (.ixor, 1) := by decide +kernel
theorem dX7_varint_64 : decode cX7_varint 64 = .ok (.ireturn, 1) := by decide +kernel
theorem dX7_varint_65 : decode cX7_varint 65 = .ok (.iinc 2 1, 3) := by decide +kernel
theorem dX7_varint_68 : decode cX7_varint 68 = .ok (.goto (-64), 3) := by decide +kernel
theorem dX7_varint_71 : decode cX7_varint 71 = .ok (.aload_n 0, 1) := by decide +kernel
theorem dX7_varint_72 : decode cX7_varint 72 = .ok (.iconst 1, 1) := by decide +kernel
theorem dX7_varint_73 : decode cX7_varint 73 = .ok (.putfield 26, 3) := by decide +kernel
theorem dX7_varint_76 : decode cX7_varint 76 = .ok (.iconst 0, 1) := by decide +kernel
theorem dX7_varint_77 : decode cX7_varint 77 = .ok (.ireturn, 1) := by decide +kernel
