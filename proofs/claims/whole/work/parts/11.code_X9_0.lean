theorem dX9_init_0 : decode cX9_init 0 = .ok (.aload_n 0, 1) := by decide +kernel
theorem dX9_init_1 : decode cX9_init 1 = .ok (.invokespecial 3, 3) := by decide +kernel
theorem dX9_init_4 : decode cX9_init 4 = .ok (.aload_n 0, 1) := by decide +kernel
theorem dX9_init_5 : decode cX9_init 5 = .ok (.iconst (-1), 1) := by decide +kernel
theorem dX9_init_6 : decode cX9_init 6 = .ok (.putfield 9, 3) := by decide +kernel
theorem dX9_init_9 : decode cX9_init 9 = .ok (.aload_n 0, 1) := by decide +kernel
theorem dX9_init_10 : decode cX9_init 10 = .ok (.iconst (-1), 1) := by decide +kernel
theorem dX9_init_11 : decode cX9_init 11 = .ok (.putfield 15, 3) := by decide +kernel
theorem dX9_init_14 : decode cX9_init 14 = .ok (.aload_n 0, 1) := by decide +kernel
theorem dX9_init_15 : decode cX9_init 15 = .ok (.bipush 96, 2) := by decide +kernel
theorem dX9_init_17 : decode cX9_init 17 = .ok (.newarray .int, 2) := by decide +kernel
theorem dX9_init_19 : decode cX9_init 19 = .ok (.putfield 18, 3) := by decide +kernel
theorem dX9_init_22 : decode cX9_init 22 = .ok (.aload_n 0, 1) := by decide +kernel
theorem dX9_init_23 : decode cX9_init 23 = .ok (.sipush 288, 3) := by decide +kernel
theorem dX9_init_26 : decode cX9_init 26 = .ok (.newarray .int, 2) := by decide +kernel
theorem dX9_init_28 : decode cX9_init 28 = .ok (.putfield 22, 3) := by decide +kernel
theorem dX9_init_31 : decode cX9_init 31 = .ok (.aload_n 0, 1) := by decide +kernel
theorem dX9_init_32 : decode cX9_init 32 = .ok (.new 25, 3) := by decide +kernel
theorem dX9_init_35 : decode cX9_init 35 = .ok (.dup, 1) := by decide +kernel
theorem dX9_init_36 : decode cX9_init 36 = .ok (.invokespecial 27, 3) := by decide +kernel
theorem dX9_init_39 : decode cX9_init 39 = .ok (.putfield 28, 3) := by decide +kernel
theorem dX9_init_42 : decode cX9_init 42 = .ok (.aload_n 0, 1) := by decide +kernel
theorem dX9_init_43 : decode cX9_init 43 = .ok (.new 32, 3) := by decide +kernel
theorem dX9_init_46 : decode cX9_init 46 = .ok (.dup, 1) := by decide +kernel
theorem dX9_init_47 : decode cX9_init 47 = .ok (.invokespecial 34, 3) := by decide +kernel
theorem dX9_init_50 : decode cX9_init 50 = .ok (.putfield 35, 3) := by decide +kernel
theorem dX9_init_53 : decode cX9_init 53 = .ok (.aload_n 0, 1) := by decide +kernel
theorem dX9_init_54 : decode cX9_init 54 = .ok (.new 39, 3) := by decide +kernel
theorem dX9_init_57 : decode cX9_init 57 = .ok (.dup, 1) := by decide +kernel
theorem dX9_init_58 : decode cX9_init 58 = .ok (.invokespecial 41, 3) := by decide +kernel
theorem dX9_init_61 : decode cX9_init 61 = .ok (.putfield 42, 3) := by decide +kernel
theorem dX9_init_64 : decode cX9_init 64 = .ok (.return_, 1) := by decide +kernel
theorem dX9_becomeNew_0 : decode cX9_becomeNew 0 = .ok (.aload_n 0, 1) := by decide +kernel
theorem dX9_becomeNew_1 : decode cX9_becomeNew 1 = .ok (.iconst 1, 1) := by decide +kernel
theorem dX9_becomeNew_2 : decode cX9_becomeNew 2 = .ok (.putfield 46, 3) := by decide +kernel
theorem dX9_becomeNew_5 : decode cX9_becomeNew 5 = .ok (.aload_n 0, 1) := by decide +kernel
theorem dX9_becomeNew_6 : decode cX9_becomeNew 6 = .ok (.iconst 0, 1) := by decide +kernel
theorem dX9_becomeNew_7 : decode cX9_becomeNew 7 = .ok (.putfield 50, 3) := by decide +kernel
theorem dX9_becomeNew_10 : decode cX9_becomeNew 10 = .ok (.aload_n 0, 1) := by decide +kernel
theorem dX9_becomeNew_11 : decode cX9_becomeNew 11 = .ok (.iconst 0, 1) := by decide +kernel
theorem dX9_becomeNew_12 : decode cX9_becomeNew 12 = .ok (.putfield 53, 3) := by decide +kernel
theorem dX9_becomeNew_15 : decode cX9_becomeNew 15 = .ok (.aload_n 0, 1) := by decide +kernel
theorem dX9_becomeNew_16 : decode cX9_becomeNew 16 = .ok (.iload_n 1, 1) := by decide +kernel
theorem dX9_becomeNew_17 : decode cX9_becomeNew 17 = .ok (.putfield 56, 3) := by decide +kernel
theorem dX9_becomeNew_20 : decode cX9_becomeNew 20 = .ok (.aload_n 0, 1) := by decide +kernel
theorem dX9_becomeNew_21 : decode cX9_becomeNew 21 = .ok (.iload_n 2, 1) := by decide +kernel
theorem dX9_becomeNew_22 : decode cX9_becomeNew 22 = .ok (.putfield 59, 3) := by decide +kernel
theorem dX9_becomeNew_25 : decode cX9_becomeNew 25 = .ok (.aload_n 0, 1) := by decide +kernel
theorem dX9_becomeNew_26 : decode cX9_becomeNew 26 = .ok (.iload_n 3, 1) := by decide +kernel
theorem dX9_becomeNew_27 : decode cX9_becomeNew 27 = .ok (.putfield 62, 3) := by decide +kernel
theorem dX9_becomeNew_30 : decode cX9_becomeNew 30 = .ok (.aload_n 0, 1) := by decide +kernel
theorem dX9_becomeNew_31 : decode cX9_becomeNew 31 = .ok (.iconst (-1), 1) := by decide +kernel
theorem dX9_becomeNew_32 : decode cX9_becomeNew 32 = .ok (.putfield 9, 3) := by decide +kernel
theorem dX9_becomeNew_35 : decode cX9_becomeNew 35 = .ok (.aload_n 0, 1) := by decide +kernel
theorem dX9_becomeNew_36 : decode cX9_becomeNew 36 = .ok (.iconst 0, 1) := by decide +kernel
theorem dX9_becomeNew_37 : decode cX9_becomeNew 37 = .ok (.putfield 65, 3) := by decide +kernel
theorem dX9_becomeNew_40 : decode cX9_becomeNew 40 = .ok (.aload_n 0, 1) := by decide +kernel
theorem dX9_becomeNew_41 : decode cX9_becomeNew 41 = .ok (.iconst 0, 1) := by decide +kernel
theorem dX9_becomeNew_42 : decode cX9_becomeNew 42 = .ok (.putfield 68, 3) := by decide +kernel
theorem dX9_becomeNew_45 : decode cX9_becomeNew 45 = .ok (.aload_n 0, 1) := by decide +kernel
theorem dX9_becomeNew_46 : decode cX9_becomeNew 46 = .ok (.getfield 35, 3) := by decide +kernel
theorem dX9_becomeNew_49 : decode cX9_becomeNew 49 = .ok (.invokevirtual 71, 3) := by decide +kernel
theorem dX9_becomeNew_52 : decode cX9_becomeNew 52 = .ok (.aload_n 0, 1) := by decide +kernel
theorem dX9_becomeNew_53 : decode cX9_becomeNew 53 = .ok (.getfield 42, 3) := by decide +kernel
theorem dX9_becomeNew_56 : decode cX9_becomeNew 56 = .ok (.invokevirtual 74, 3) := by decide +kernel
theorem dX9_becomeNew_59 : decode cX9_becomeNew 59 = .ok (.return_, 1) := by decide +kernel
theorem dX9_rowsOf_0 : decode cX9_rowsOf 0 = .ok (.iconst 0, 1) := by decide +kernel
theorem dX9_rowsOf_1 : decode cX9_rowsOf 1 = .ok (.istore_n 2, 1) := by decide +kernel
theorem dX9_rowsOf_2 : decode cX9_rowsOf 2 = .ok (.iconst 0, 1) := by decide +kernel
theorem dX9_rowsOf_3 : decode cX9_rowsOf 3 = .ok (.istore_n 3, 1) := by decide +kernel
theorem dX9_rowsOf_4 : decode cX9_rowsOf 4 = .ok (.iload_n 3, 1) := by decide +kernel
theorem dX9_rowsOf_5 : decode cX9_rowsOf 5 = .ok (.aload_n 0, 1) := by decide +kernel
theorem dX9_rowsOf_6 : decode cX9_rowsOf 6 = .ok (.getfield 68, 3) := by decide +kernel
theorem dX9_rowsOf_9 : decode cX9_rowsOf 9 = .ok (.if_icmp .ge 36, 3) := by decide +kernel
theorem dX9_rowsOf_12 : decode cX9_rowsOf 12 = .ok (.iload_n 3, 1) := by decide +kernel
theorem dX9_rowsOf_13 : decode cX9_rowsOf 13 = .ok (.aload_n 0, 1) := by decide +kernel
theorem dX9_rowsOf_14 : decode cX9_rowsOf 14 = .ok (.getfield 18, 3) := by decide +kernel
theorem dX9_rowsOf_17 : decode cX9_rowsOf 17 = .ok (.arraylength, 1) := by decide +kernel
theorem dX9_rowsOf_18 : decode cX9_rowsOf 18 = .ok (.if_icmp .ge 27, 3) := by decide +kernel
theorem dX9_rowsOf_21 : decode cX9_rowsOf 21 = .ok (.iload_n 2, 1) := by decide +kernel
theorem dX9_rowsOf_22 : decode cX9_rowsOf 22 = .ok (.aload_n 0, 1) := by decide +kernel
theorem dX9_rowsOf_23 : decode cX9_rowsOf 23 = .ok (.getfield 18, 3) := by decide +kernel
theorem dX9_rowsOf_26 : decode cX9_rowsOf 26 = .ok (.iload_n 3, 1) := by decide +kernel
theorem dX9_rowsOf_27 : decode cX9_rowsOf 27 = .ok (.iaload, 1) := by decide +kernel
theorem dX9_rowsOf_28 : decode cX9_rowsOf 28 = .ok (.iload_n 1, 1) := by decide +kernel
theorem dX9_rowsOf_29 : decode cX9_rowsOf 29 = .ok (.if_icmp .ne 7, 3) := by decide +kernel
theorem dX9_rowsOf_32 : decode cX9_rowsOf 32 = .ok (.iconst 1, 1) := by decide +kernel
theorem dX9_rowsOf_33 : decode cX9_rowsOf 33 = .ok (.goto 4, 3) := by decide +kernel
theorem dX9_rowsOf_36 : decode cX9_rowsOf 36 = .ok (.iconst 0, 1) := by decide +kernel
theorem dX9_rowsOf_37 : decode cX9_rowsOf 37 = .ok (.iadd, 1) := by decide +kernel
theorem dX9_rowsOf_38 : decode cX9_rowsOf 38 = .ok (.istore_n 2, 1) := by decide +kernel
theorem dX9_rowsOf_39 : decode cX9_rowsOf 39 = .ok (.iinc 3 1, 3) := by decide +kernel
theorem dX9_rowsOf_42 : decode cX9_rowsOf 42 = .ok (.goto (-38), 3) := by decide +kernel
theorem dX9_rowsOf_45 : decode cX9_rowsOf 45 = .ok (.iload_n 2, 1) := by decide +kernel
theorem dX9_rowsOf_46 : decode cX9_rowsOf 46 = .ok (.ireturn, 1) := by decide +kernel
theorem dX9_takeRow_0 : decode cX9_takeRow 0 = .ok (.aload_n 0, 1) := by decide +kernel
theorem dX9_takeRow_1 : decode cX9_takeRow 1 = .ok (.getfield 68, 3) := by decide +kernel
theorem dX9_takeRow_4 : decode cX9_takeRow 4 = .ok (.bipush 96, 2) := by decide +kernel
theorem dX9_takeRow_6 : decode cX9_takeRow 6 = .ok (.if_icmp .ge 13, 3) := by decide +kernel
theorem dX9_takeRow_9 : decode cX9_takeRow 9 = .ok (.aload_n 0, 1) := by decide +kernel
theorem dX9_takeRow_10 : decode cX9_takeRow 10 = .ok (.iload_n 1, 1) := by decide +kernel
theorem dX9_takeRow_11 : decode cX9_takeRow 11 = .ok (.invokevirtual 75, 3) := by decide +kernel
theorem dX9_takeRow_14 : decode cX9_takeRow 14 = .ok (.bipush 48, 2) := by decide +kernel
theorem dX9_takeRow_16 : decode cX9_takeRow 16 = .ok (.if_icmp .lt 5, 3) := by decide +kernel
theorem dX9_takeRow_19 : decode cX9_takeRow 19 = .ok (.iconst 0, 1) := by decide +kernel
theorem dX9_takeRow_20 : decode cX9_takeRow 20 = .ok (.ireturn, 1) := by decide +kernel
theorem dX9_takeRow_21 : decode cX9_takeRow 21 = .ok (.aload_n 0, 1) := by decide +kernel
theorem dX9_takeRow_22 : decode cX9_takeRow 22 = .ok (.getfield 18, 3) := by decide +kernel
theorem dX9_takeRow_25 : decode cX9_takeRow 25 = .ok (.aload_n 0, 1) := by decide +kernel
theorem dX9_takeRow_26 : decode cX9_takeRow 26 = .ok (.getfield 68, 3) := by decide +kernel
theorem dX9_takeRow_29 : decode cX9_takeRow 29 = .ok (.iload_n 1, 1) := by decide +kernel
theorem dX9_takeRow_30 : decode cX9_takeRow 30 = .ok (.iastore, 1) := by decide +kernel
theorem dX9_takeRow_31 : decode cX9_takeRow 31 = .ok (.aload_n 0, 1) := by decide +kernel
theorem dX9_takeRow_32 : decode cX9_takeRow 32 = .ok (.getfield 22, 3) := by decide +kernel
theorem dX9_takeRow_35 : decode cX9_takeRow 35 = .ok (.iconst 3, 1) := by decide +kernel
theorem dX9_takeRow_36 : decode cX9_takeRow 36 = .ok (.aload_n 0, 1) := by decide +kernel
theorem dX9_takeRow_37 : decode cX9_takeRow 37 = .ok (.getfield 68, 3) := by decide +kernel
theorem dX9_takeRow_40 : decode cX9_takeRow 40 = .ok (.imul, 1) := by decide +kernel
theorem dX9_takeRow_41 : decode cX9_takeRow 41 = .ok (.iload_n 2, 1) := by decide +kernel
theorem dX9_takeRow_42 : decode cX9_takeRow 42 = .ok (.iastore, 1) := by decide +kernel
theorem dX9_takeRow_43 : decode cX9_takeRow 43 = .ok (.aload_n 0, 1) := by decide +kernel
theorem dX9_takeRow_44 : decode cX9_takeRow 44 = .ok (.getfield 22, 3) := by decide +kernel
theorem dX9_takeRow_47 : decode cX9_takeRow 47 = .ok (.iconst 3, 1) := by decide +kernel
theorem dX9_takeRow_48 : decode cX9_takeRow 48 = .ok (.aload_n 0, 1) := by decide +kernel
theorem dX9_takeRow_49 : decode cX9_takeRow 49 = .ok (.getfield 68, 3) := by decide +kernel
theorem dX9_takeRow_52 : decode cX9_takeRow 52 = .ok (.imul, 1) := by decide +kernel
theorem dX9_takeRow_53 : decode cX9_takeRow 53 = .ok (.iconst 1, 1) := by decide +kernel
theorem dX9_takeRow_54 : decode cX9_takeRow 54 = .ok (.iadd, 1) := by decide +kernel
theorem dX9_takeRow_55 : decode cX9_takeRow 55 = .ok (.iload_n 3, 1) := by decide +kernel
theorem dX9_takeRow_56 : decode cX9_takeRow 56 = .ok (.iastore, 1) := by decide +kernel
theorem dX9_takeRow_57 : decode cX9_takeRow 57 = .ok (.aload_n 0, 1) := by decide +kernel
theorem dX9_takeRow_58 : decode cX9_takeRow 58 = .ok (.getfield 22, 3) := by decide +kernel
theorem dX9_takeRow_61 : decode cX9_takeRow 61 = .ok (.iconst 3, 1) := by decide +kernel
theorem dX9_takeRow_62 : decode cX9_takeRow 62 = .ok (.aload_n 0, 1) := by decide +kernel
theorem dX9_takeRow_63 : decode cX9_takeRow 63 = .ok (.getfield 68, 3) := by decide +kernel
theorem dX9_takeRow_66 : decode cX9_takeRow 66 = .ok (.imul, 1) := by decide +kernel
theorem dX9_takeRow_67 : decode cX9_takeRow 67 = .ok (.iconst 2, 1) := by decide +kernel
theorem dX9_takeRow_68 : decode cX9_takeRow 68 = .ok (.iadd, 1) := by decide +kernel
theorem dX9_takeRow_69 : decode cX9_takeRow 69 = .ok (.iload 4, 2) := by decide +kernel
theorem dX9_takeRow_71 : decode cX9_takeRow 71 = .ok (.iastore, 1) := by decide +kernel
theorem dX9_takeRow_72 : decode cX9_takeRow 72 = .ok (.aload_n 0, 1) := by decide +kernel
theorem dX9_takeRow_73 : decode cX9_takeRow 73 = .ok (.dup, 1) := by decide +kernel
theorem dX9_takeRow_74 : decode cX9_takeRow 74 = .ok (.getfield 68, 3) := by decide +kernel
theorem dX9_takeRow_77 : decode cX9_takeRow 77 = .ok (.iconst 1, 1) := by decide +kernel
theorem dX9_takeRow_78 : decode cX9_takeRow 78 = .ok (.iadd, 1) := by decide +kernel
theorem dX9_takeRow_79 : decode cX9_takeRow 79 = .ok (.putfield 68, 3) := by decide +kernel
theorem dX9_takeRow_82 : decode cX9_takeRow 82 = .ok (.iconst 1, 1) := by decide +kernel
theorem dX9_takeRow_83 : decode cX9_takeRow 83 = .ok (.ireturn, 1) := by decide +kernel
theorem dX9_copyRows_0 : decode cX9_copyRows 0 = .ok (.iconst 0, 1) := by decide +kernel
theorem dX9_copyRows_1 : decode cX9_copyRows 1 = .ok (.istore_n 2, 1) := by decide +kernel
theorem dX9_copyRows_2 : decode cX9_copyRows 2 = .ok (.iload_n 2, 1) := by decide +kernel
theorem dX9_copyRows_3 : decode cX9_copyRows 3 = .ok (.aload_n 0, 1) := by decide +kernel
theorem dX9_copyRows_4 : decode cX9_copyRows 4 = .ok (.getfield 68, 3) := by decide +kernel
theorem dX9_copyRows_7 : decode cX9_copyRows 7 = .ok (.if_icmp .ge 63, 3) := by decide +kernel
theorem dX9_copyRows_10 : decode cX9_copyRows 10 = .ok (.iload_n 2, 1) := by decide +kernel
theorem dX9_copyRows_11 : decode cX9_copyRows 11 = .ok (.aload_n 0, 1) := by decide +kernel
theorem dX9_copyRows_12 : decode cX9_copyRows 12 = .ok (.getfield 18, 3) := by decide +kernel
theorem dX9_copyRows_15 : decode cX9_copyRows 15 = .ok (.arraylength, 1) := by decide +kernel
theorem dX9_copyRows_16 : decode cX9_copyRows 16 = .ok (.if_icmp .ge 54, 3) := by decide +kernel
theorem dX9_copyRows_19 : decode cX9_copyRows 19 = .ok (.aload_n 0, 1) := by decide +kernel
theorem dX9_copyRows_20 : decode cX9_copyRows 20 = .ok (.getfield 18, 3) := by decide +kernel
theorem dX9_copyRows_23 : decode cX9_copyRows 23 = .ok (.iload_n 2, 1) := by decide +kernel
theorem dX9_copyRows_24 : decode cX9_copyRows 24 = .ok (.iaload, 1) := by decide +kernel
theorem dX9_copyRows_25 : decode cX9_copyRows 25 = .ok (.aload_n 1, 1) := by decide +kernel
theorem dX9_copyRows_26 : decode cX9_copyRows 26 = .ok (.getfield 79, 3) := by decide +kernel
theorem dX9_copyRows_29 : decode cX9_copyRows 29 = .ok (.if_icmp .ne 35, 3) := by decide +kernel
theorem dX9_copyRows_32 : decode cX9_copyRows 32 = .ok (.aload_n 1, 1) := by decide +kernel
theorem dX9_copyRows_33 : decode cX9_copyRows 33 = .ok (.aload_n 0, 1) := by decide +kernel
theorem dX9_copyRows_34 : decode cX9_copyRows 34 = .ok (.getfield 22, 3) := by decide +kernel
theorem dX9_copyRows_37 : decode cX9_copyRows 37 = .ok (.iconst 3, 1) := by decide +kernel
theorem dX9_copyRows_38 : decode cX9_copyRows 38 = .ok (.iload_n 2, 1) := by decide +kernel
theorem dX9_copyRows_39 : decode cX9_copyRows 39 = .ok (.imul, 1) := by decide +kernel
theorem dX9_copyRows_40 : decode cX9_copyRows 40 = .ok (.iaload, 1) := by decide +kernel
theorem dX9_copyRows_41 : decode cX9_copyRows 41 = .ok (.aload_n 0, 1) := by decide +kernel
theorem dX9_copyRows_42 : decode cX9_copyRows 42 = .ok (.getfield 22, 3) := by decide +kernel
theorem dX9_copyRows_45 : decode cX9_copyRows 45 = .ok (.iconst 3, 1) := by decide +kernel
theorem dX9_copyRows_46 : decode cX9_copyRows 46 = .ok (.iload_n 2, 1) := by decide +kernel
theorem dX9_copyRows_47 : decode cX9_copyRows 47 = .ok (.imul, 1) := by decide +kernel
theorem dX9_copyRows_48 : decode cX9_copyRows 48 = .ok (.iconst 1, 1) := by decide +kernel
theorem dX9_copyRows_49 : decode cX9_copyRows 49 = .ok (.iadd, 1) := by decide +kernel
theorem dX9_copyRows_50 : decode cX9_copyRows 50 = .ok (.iaload, 1) := by decide +kernel
theorem dX9_copyRows_51 : decode cX9_copyRows 51 = .ok (.aload_n 0, 1) := by decide +kernel
theorem dX9_copyRows_52 : decode cX9_copyRows 52 = .ok (.getfield 22, 3) := by decide +kernel
theorem dX9_copyRows_55 : decode cX9_copyRows 55 = .ok (.iconst 3, 1) := by decide +kernel
theorem dX9_copyRows_56 : decode cX9_copyRows 56 = .ok (.iload_n 2, 1) := by decide +kernel
theorem dX9_copyRows_57 : decode cX9_copyRows 57 = .ok (.imul, 1) := by decide +kernel
theorem dX9_copyRows_58 : decode cX9_copyRows 58 = .ok (.iconst 2, 1) := by decide +kernel
theorem dX9_copyRows_59 : decode cX9_copyRows 59 = .ok (.iadd, 1) := by decide +kernel
theorem dX9_copyRows_60 : decode cX9_copyRows 60 = .ok (.iaload, 1) := by decide +kernel
theorem dX9_copyRows_61 : decode cX9_copyRows 61 = .ok (.invokevirtual 82, 3) := by decide +kernel
theorem dX9_copyRows_64 : decode cX9_copyRows 64 = .ok (.iinc 2 1, 3) := by decide +kernel
theorem dX9_copyRows_67 : decode cX9_copyRows 67 = .ok (.goto (-65), 3) := by decide +kernel
theorem dX9_copyRows_70 : decode cX9_copyRows 70 = .ok (.return_, 1) := by decide +kernel
