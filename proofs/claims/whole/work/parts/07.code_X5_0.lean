theorem dX5_init_0 : decode cX5_init 0 = .ok (.aload_n 0, 1) := by decide +kernel
theorem dX5_init_1 : decode cX5_init 1 = .ok (.invokespecial 1, 3) := by decide +kernel
theorem dX5_init_4 : decode cX5_init 4 = .ok (.aload_n 0, 1) := by decide +kernel
theorem dX5_init_5 : decode cX5_init 5 = .ok (.new 7, 3) := by decide +kernel
theorem dX5_init_8 : decode cX5_init 8 = .ok (.dup, 1) := by decide +kernel
theorem dX5_init_9 : decode cX5_init 9 = .ok (.invokespecial 9, 3) := by decide +kernel
theorem dX5_init_12 : decode cX5_init 12 = .ok (.putfield 10, 3) := by decide +kernel
theorem dX5_init_15 : decode cX5_init 15 = .ok (.return_, 1) := by decide +kernel
theorem dX5_filled_0 : decode cX5_filled 0 = .ok (.aload_n 0, 1) := by decide +kernel
theorem dX5_filled_1 : decode cX5_filled 1 = .ok (.getfield 10, 3) := by decide +kernel
theorem dX5_filled_4 : decode cX5_filled 4 = .ok (.invokevirtual 16, 3) := by decide +kernel
theorem dX5_filled_7 : decode cX5_filled 7 = .ok (.ireturn, 1) := by decide +kernel
theorem dX5_blobAt_0 : decode cX5_blobAt 0 = .ok (.iload_n 1, 1) := by decide +kernel
theorem dX5_blobAt_1 : decode cX5_blobAt 1 = .ok (.ifCond .lt 14, 3) := by decide +kernel
theorem dX5_blobAt_4 : decode cX5_blobAt 4 = .ok (.iload_n 1, 1) := by decide +kernel
theorem dX5_blobAt_5 : decode cX5_blobAt 5 = .ok (.aload_n 0, 1) := by decide +kernel
theorem dX5_blobAt_6 : decode cX5_blobAt 6 = .ok (.getfield 10, 3) := by decide +kernel
theorem dX5_blobAt_9 : decode cX5_blobAt 9 = .ok (.invokevirtual 16, 3) := by decide +kernel
theorem dX5_blobAt_12 : decode cX5_blobAt 12 = .ok (.if_icmp .lt 7, 3) := by decide +kernel
theorem dX5_blobAt_15 : decode cX5_blobAt 15 = .ok (.aconst_null, 1) := by decide +kernel
theorem dX5_blobAt_16 : decode cX5_blobAt 16 = .ok (.goto 14, 3) := by decide +kernel
theorem dX5_blobAt_19 : decode cX5_blobAt 19 = .ok (.aload_n 0, 1) := by decide +kernel
theorem dX5_blobAt_20 : decode cX5_blobAt 20 = .ok (.getfield 10, 3) := by decide +kernel
theorem dX5_blobAt_23 : decode cX5_blobAt 23 = .ok (.iload_n 1, 1) := by decide +kernel
theorem dX5_blobAt_24 : decode cX5_blobAt 24 = .ok (.invokevirtual 20, 3) := by decide +kernel
theorem dX5_blobAt_27 : decode cX5_blobAt 27 = .ok (.checkcast 24, 3) := by decide +kernel
theorem dX5_blobAt_30 : decode cX5_blobAt 30 = .ok (.areturn, 1) := by decide +kernel
theorem dX5_placeOf_0 : decode cX5_placeOf 0 = .ok (.iconst 0, 1) := by decide +kernel
theorem dX5_placeOf_1 : decode cX5_placeOf 1 = .ok (.istore_n 2, 1) := by decide +kernel
theorem dX5_placeOf_2 : decode cX5_placeOf 2 = .ok (.aload_n 0, 1) := by decide +kernel
theorem dX5_placeOf_3 : decode cX5_placeOf 3 = .ok (.getfield 10, 3) := by decide +kernel
theorem dX5_placeOf_6 : decode cX5_placeOf 6 = .ok (.invokevirtual 16, 3) := by decide +kernel
theorem dX5_placeOf_9 : decode cX5_placeOf 9 = .ok (.istore_n 3, 1) := by decide +kernel
theorem dX5_placeOf_10 : decode cX5_placeOf 10 = .ok (.iload_n 3, 1) := by decide +kernel
theorem dX5_placeOf_11 : decode cX5_placeOf 11 = .ok (.ifCond .le 68, 3) := by decide +kernel
theorem dX5_placeOf_14 : decode cX5_placeOf 14 = .ok (.iload_n 3, 1) := by decide +kernel
theorem dX5_placeOf_15 : decode cX5_placeOf 15 = .ok (.iconst 2, 1) := by decide +kernel
theorem dX5_placeOf_16 : decode cX5_placeOf 16 = .ok (.idiv, 1) := by decide +kernel
theorem dX5_placeOf_17 : decode cX5_placeOf 17 = .ok (.istore 4, 2) := by decide +kernel
theorem dX5_placeOf_19 : decode cX5_placeOf 19 = .ok (.iload_n 2, 1) := by decide +kernel
theorem dX5_placeOf_20 : decode cX5_placeOf 20 = .ok (.iload 4, 2) := by decide +kernel
theorem dX5_placeOf_22 : decode cX5_placeOf 22 = .ok (.iadd, 1) := by decide +kernel
theorem dX5_placeOf_23 : decode cX5_placeOf 23 = .ok (.istore 5, 2) := by decide +kernel
theorem dX5_placeOf_25 : decode cX5_placeOf 25 = .ok (.iload 5, 2) := by decide +kernel
theorem dX5_placeOf_27 : decode cX5_placeOf 27 = .ok (.aload_n 0, 1) := by decide +kernel
theorem dX5_placeOf_28 : decode cX5_placeOf 28 = .ok (.getfield 10, 3) := by decide +kernel
theorem dX5_placeOf_31 : decode cX5_placeOf 31 = .ok (.invokevirtual 16, 3) := by decide +kernel
theorem dX5_placeOf_34 : decode cX5_placeOf 34 = .ok (.if_icmp .ge 39, 3) := by decide +kernel
theorem dX5_placeOf_37 : decode cX5_placeOf 37 = .ok (.aload_n 0, 1) := by decide +kernel
theorem dX5_placeOf_38 : decode cX5_placeOf 38 = .ok (.getfield 10, 3) := by decide +kernel
theorem dX5_placeOf_41 : decode cX5_placeOf 41 = .ok (.iload 5, 2) := by decide +kernel
theorem dX5_placeOf_43 : decode cX5_placeOf 43 = .ok (.invokevirtual 20, 3) := by decide +kernel
theorem dX5_placeOf_46 : decode cX5_placeOf 46 = .ok (.checkcast 24, 3) := by decide +kernel
theorem dX5_placeOf_49 : decode cX5_placeOf 49 = .ok (.getfield 26, 3) := by decide +kernel
theorem dX5_placeOf_52 : decode cX5_placeOf 52 = .ok (.iload_n 1, 1) := by decide +kernel
theorem dX5_placeOf_53 : decode cX5_placeOf 53 = .ok (.if_icmp .ge 20, 3) := by decide +kernel
theorem dX5_placeOf_56 : decode cX5_placeOf 56 = .ok (.iload_n 2, 1) := by decide +kernel
theorem dX5_placeOf_57 : decode cX5_placeOf 57 = .ok (.iload 4, 2) := by decide +kernel
theorem dX5_placeOf_59 : decode cX5_placeOf 59 = .ok (.iconst 1, 1) := by decide +kernel
theorem dX5_placeOf_60 : decode cX5_placeOf 60 = .ok (.iadd, 1) := by decide +kernel
theorem dX5_placeOf_61 : decode cX5_placeOf 61 = .ok (.iadd, 1) := by decide +kernel
theorem dX5_placeOf_62 : decode cX5_placeOf 62 = .ok (.istore_n 2, 1) := by decide +kernel
theorem dX5_placeOf_63 : decode cX5_placeOf 63 = .ok (.iload_n 3, 1) := by decide +kernel
theorem dX5_placeOf_64 : decode cX5_placeOf 64 = .ok (.iload 4, 2) := by decide +kernel
theorem dX5_placeOf_66 : decode cX5_placeOf 66 = .ok (.iconst 1, 1) := by decide +kernel
theorem dX5_placeOf_67 : decode cX5_placeOf 67 = .ok (.iadd, 1) := by decide +kernel
theorem dX5_placeOf_68 : decode cX5_placeOf 68 = .ok (.isub, 1) := by decide +kernel
theorem dX5_placeOf_69 : decode cX5_placeOf 69 = .ok (.istore_n 3, 1) := by decide +kernel
theorem dX5_placeOf_70 : decode cX5_placeOf 70 = .ok (.goto 6, 3) := by decide +kernel
theorem dX5_placeOf_73 : decode cX5_placeOf 73 = .ok (.iload 4, 2) := by decide +kernel
theorem dX5_placeOf_75 : decode cX5_placeOf 75 = .ok (.istore_n 3, 1) := by decide +kernel
theorem dX5_placeOf_76 : decode cX5_placeOf 76 = .ok (.goto (-66), 3) := by decide +kernel
theorem dX5_placeOf_79 : decode cX5_placeOf 79 = .ok (.iload_n 2, 1) := by decide +kernel
theorem dX5_placeOf_80 : decode cX5_placeOf 80 = .ok (.ireturn, 1) := by decide +kernel
theorem dX5_blobOf_0 : decode cX5_blobOf 0 = .ok (.aload_n 0, 1) := by decide +kernel
theorem dX5_blobOf_1 : decode cX5_blobOf 1 = .ok (.aload_n 0, 1) := by decide +kernel
theorem dX5_blobOf_2 : decode cX5_blobOf 2 = .ok (.iload_n 1, 1) := by decide +kernel
theorem dX5_blobOf_3 : decode cX5_blobOf 3 = .ok (.invokevirtual 30, 3) := by decide +kernel
theorem dX5_blobOf_6 : decode cX5_blobOf 6 = .ok (.invokevirtual 34, 3) := by decide +kernel
theorem dX5_blobOf_9 : decode cX5_blobOf 9 = .ok (.astore_n 2, 1) := by decide +kernel
theorem dX5_blobOf_10 : decode cX5_blobOf 10 = .ok (.aload_n 2, 1) := by decide +kernel
theorem dX5_blobOf_11 : decode cX5_blobOf 11 = .ok (.ifnull 15, 3) := by decide +kernel
theorem dX5_blobOf_14 : decode cX5_blobOf 14 = .ok (.aload_n 2, 1) := by decide +kernel
theorem dX5_blobOf_15 : decode cX5_blobOf 15 = .ok (.getfield 26, 3) := by decide +kernel
theorem dX5_blobOf_18 : decode cX5_blobOf 18 = .ok (.iload_n 1, 1) := by decide +kernel
theorem dX5_blobOf_19 : decode cX5_blobOf 19 = .ok (.if_icmp .ne 7, 3) := by decide +kernel
theorem dX5_blobOf_22 : decode cX5_blobOf 22 = .ok (.aload_n 2, 1) := by decide +kernel
theorem dX5_blobOf_23 : decode cX5_blobOf 23 = .ok (.goto 4, 3) := by decide +kernel
theorem dX5_blobOf_26 : decode cX5_blobOf 26 = .ok (.aconst_null, 1) := by decide +kernel
theorem dX5_blobOf_27 : decode cX5_blobOf 27 = .ok (.areturn, 1) := by decide +kernel
theorem dX5_insert_0 : decode cX5_insert 0 = .ok (.aload_n 0, 1) := by decide +kernel
theorem dX5_insert_1 : decode cX5_insert 1 = .ok (.aload_n 1, 1) := by decide +kernel
theorem dX5_insert_2 : decode cX5_insert 2 = .ok (.getfield 26, 3) := by decide +kernel
theorem dX5_insert_5 : decode cX5_insert 5 = .ok (.invokevirtual 30, 3) := by decide +kernel
theorem dX5_insert_8 : decode cX5_insert 8 = .ok (.istore_n 2, 1) := by decide +kernel
theorem dX5_insert_9 : decode cX5_insert 9 = .ok (.iload_n 2, 1) := by decide +kernel
theorem dX5_insert_10 : decode cX5_insert 10 = .ok (.aload_n 0, 1) := by decide +kernel
theorem dX5_insert_11 : decode cX5_insert 11 = .ok (.getfield 10, 3) := by decide +kernel
theorem dX5_insert_14 : decode cX5_insert 14 = .ok (.invokevirtual 16, 3) := by decide +kernel
theorem dX5_insert_17 : decode cX5_insert 17 = .ok (.if_icmp .gt 12, 3) := by decide +kernel
theorem dX5_insert_20 : decode cX5_insert 20 = .ok (.aload_n 0, 1) := by decide +kernel
theorem dX5_insert_21 : decode cX5_insert 21 = .ok (.getfield 10, 3) := by decide +kernel
theorem dX5_insert_24 : decode cX5_insert 24 = .ok (.iload_n 2, 1) := by decide +kernel
theorem dX5_insert_25 : decode cX5_insert 25 = .ok (.aload_n 1, 1) := by decide +kernel
theorem dX5_insert_26 : decode cX5_insert 26 = .ok (.invokevirtual 38, 3) := by decide +kernel
theorem dX5_insert_29 : decode cX5_insert 29 = .ok (.return_, 1) := by decide +kernel
theorem dX5_bytes_0 : decode cX5_bytes 0 = .ok (.iconst 0, 1) := by decide +kernel
theorem dX5_bytes_1 : decode cX5_bytes 1 = .ok (.istore_n 1, 1) := by decide +kernel
theorem dX5_bytes_2 : decode cX5_bytes 2 = .ok (.iconst 0, 1) := by decide +kernel
theorem dX5_bytes_3 : decode cX5_bytes 3 = .ok (.istore_n 2, 1) := by decide +kernel
theorem dX5_bytes_4 : decode cX5_bytes 4 = .ok (.iload_n 2, 1) := by decide +kernel
theorem dX5_bytes_5 : decode cX5_bytes 5 = .ok (.aload_n 0, 1) := by decide +kernel
theorem dX5_bytes_6 : decode cX5_bytes 6 = .ok (.getfield 10, 3) := by decide +kernel
theorem dX5_bytes_9 : decode cX5_bytes 9 = .ok (.invokevirtual 16, 3) := by decide +kernel
theorem dX5_bytes_12 : decode cX5_bytes 12 = .ok (.if_icmp .ge 27, 3) := by decide +kernel
theorem dX5_bytes_15 : decode cX5_bytes 15 = .ok (.iload_n 1, 1) := by decide +kernel
theorem dX5_bytes_16 : decode cX5_bytes 16 = .ok (.aload_n 0, 1) := by decide +kernel
theorem dX5_bytes_17 : decode cX5_bytes 17 = .ok (.getfield 10, 3) := by decide +kernel
theorem dX5_bytes_20 : decode cX5_bytes 20 = .ok (.iload_n 2, 1) := by decide +kernel
theorem dX5_bytes_21 : decode cX5_bytes 21 = .ok (.invokevirtual 20, 3) := by decide +kernel
theorem dX5_bytes_24 : decode cX5_bytes 24 = .ok (.checkcast 24, 3) := by decide +kernel
theorem dX5_bytes_27 : decode cX5_bytes 27 = .ok (.getfield 42, 3) := by decide +kernel
theorem dX5_bytes_30 : decode cX5_bytes 30 = .ok (.arraylength, 1) := by decide +kernel
theorem dX5_bytes_31 : decode cX5_bytes 31 = .ok (.iadd, 1) := by decide +kernel
theorem dX5_bytes_32 : decode cX5_bytes 32 = .ok (.istore_n 1, 1) := by decide +kernel
theorem dX5_bytes_33 : decode cX5_bytes 33 = .ok (.iinc 2 1, 3) := by decide +kernel
theorem dX5_bytes_36 : decode cX5_bytes 36 = .ok (.goto (-32), 3) := by decide +kernel
theorem dX5_bytes_39 : decode cX5_bytes 39 = .ok (.iload_n 1, 1) := by decide +kernel
theorem dX5_bytes_40 : decode cX5_bytes 40 = .ok (.ireturn, 1) := by decide +kernel
theorem dX5_wantNone_0 : decode cX5_wantNone 0 = .ok (.iconst 0, 1) := by decide +kernel
theorem dX5_wantNone_1 : decode cX5_wantNone 1 = .ok (.istore_n 1, 1) := by decide +kernel
theorem dX5_wantNone_2 : decode cX5_wantNone 2 = .ok (.iload_n 1, 1) := by decide +kernel
theorem dX5_wantNone_3 : decode cX5_wantNone 3 = .ok (.aload_n 0, 1) := by decide +kernel
theorem dX5_wantNone_4 : decode cX5_wantNone 4 = .ok (.getfield 10, 3) := by decide +kernel
theorem dX5_wantNone_7 : decode cX5_wantNone 7 = .ok (.invokevirtual 16, 3) := by decide +kernel
theorem dX5_wantNone_10 : decode cX5_wantNone 10 = .ok (.if_icmp .ge 24, 3) := by decide +kernel
theorem dX5_wantNone_13 : decode cX5_wantNone 13 = .ok (.aload_n 0, 1) := by decide +kernel
theorem dX5_wantNone_14 : decode cX5_wantNone 14 = .ok (.getfield 10, 3) := by decide +kernel
theorem dX5_wantNone_17 : decode cX5_wantNone 17 = .ok (.iload_n 1, 1) := by decide +kernel
theorem dX5_wantNone_18 : decode cX5_wantNone 18 = .ok (.invokevirtual 20, 3) := by decide +kernel
theorem dX5_wantNone_21 : decode cX5_wantNone 21 = .ok (.checkcast 24, 3) := by decide +kernel
theorem dX5_wantNone_24 : decode cX5_wantNone 24 = .ok (.iconst 0, 1) := by decide +kernel
theorem dX5_wantNone_25 : decode cX5_wantNone 25 = .ok (.putfield 46, 3) := by decide +kernel
theorem dX5_wantNone_28 : decode cX5_wantNone 28 = .ok (.iinc 1 1, 3) := by decide +kernel
theorem dX5_wantNone_31 : decode cX5_wantNone 31 = .ok (.goto (-29), 3) := by decide +kernel
theorem dX5_wantNone_34 : decode cX5_wantNone 34 = .ok (.return_, 1) := by decide +kernel
theorem dX5_want_0 : decode cX5_want 0 = .ok (.aload_n 0, 1) := by decide +kernel
theorem dX5_want_1 : decode cX5_want 1 = .ok (.iload_n 1, 1) := by decide +kernel
theorem dX5_want_2 : decode cX5_want 2 = .ok (.invokevirtual 50, 3) := by decide +kernel
theorem dX5_want_5 : decode cX5_want 5 = .ok (.astore_n 2, 1) := by decide +kernel
theorem dX5_want_6 : decode cX5_want 6 = .ok (.aload_n 2, 1) := by decide +kernel
theorem dX5_want_7 : decode cX5_want 7 = .ok (.ifnull 8, 3) := by decide +kernel
theorem dX5_want_10 : decode cX5_want 10 = .ok (.aload_n 2, 1) := by decide +kernel
theorem dX5_want_11 : decode cX5_want 11 = .ok (.iconst 1, 1) := by decide +kernel
theorem dX5_want_12 : decode cX5_want 12 = .ok (.putfield 46, 3) := by decide +kernel
theorem dX5_want_15 : decode cX5_want 15 = .ok (.return_, 1) := by decide +kernel
theorem dX5_takeUnwanted_0 : decode cX5_takeUnwanted 0 = .ok (.aload_n 0, 1) := by decide +kernel
theorem dX5_takeUnwanted_1 : decode cX5_takeUnwanted 1 = .ok (.getfield 10, 3) := by decide +kernel
theorem dX5_takeUnwanted_4 : decode cX5_takeUnwanted 4 = .ok (.invokevirtual 16, 3) := by decide +kernel
theorem dX5_takeUnwanted_7 : decode cX5_takeUnwanted 7 = .ok (.istore_n 1, 1) := by decide +kernel
theorem dX5_takeUnwanted_8 : decode cX5_takeUnwanted 8 = .ok (.iload_n 1, 1) := by decide +kernel
theorem dX5_takeUnwanted_9 : decode cX5_takeUnwanted 9 = .ok (.iconst 1, 1) := by decide +kernel
theorem dX5_takeUnwanted_10 : decode cX5_takeUnwanted 10 = .ok (.isub, 1) := by decide +kernel
theorem dX5_takeUnwanted_11 : decode cX5_takeUnwanted 11 = .ok (.istore_n 2, 1) := by decide +kernel
theorem dX5_takeUnwanted_12 : decode cX5_takeUnwanted 12 = .ok (.iload_n 2, 1) := by decide +kernel
theorem dX5_takeUnwanted_13 : decode cX5_takeUnwanted 13 = .ok (.ifCond .lt 46, 3) := by decide +kernel
theorem dX5_takeUnwanted_16 : decode cX5_takeUnwanted 16 = .ok (.iload_n 2, 1) := by decide +kernel
theorem dX5_takeUnwanted_17 : decode cX5_takeUnwanted 17 = .ok (.aload_n 0, 1) := by decide +kernel
theorem dX5_takeUnwanted_18 : decode cX5_takeUnwanted 18 = .ok (.getfield 10, 3) := by decide +kernel
theorem dX5_takeUnwanted_21 : decode cX5_takeUnwanted 21 = .ok (.invokevirtual 16, 3) := by decide +kernel
theorem dX5_takeUnwanted_24 : decode cX5_takeUnwanted 24 = .ok (.if_icmp .ge 29, 3) := by decide +kernel
theorem dX5_takeUnwanted_27 : decode cX5_takeUnwanted 27 = .ok (.aload_n 0, 1) := by decide +kernel
theorem dX5_takeUnwanted_28 : decode cX5_takeUnwanted 28 = .ok (.getfield 10, 3) := by decide +kernel
theorem dX5_takeUnwanted_31 : decode cX5_takeUnwanted 31 = .ok (.iload_n 2, 1) := by decide +kernel
theorem dX5_takeUnwanted_32 : decode cX5_takeUnwanted 32 = .ok (.invokevirtual 20, 3) := by decide +kernel
theorem dX5_takeUnwanted_35 : decode cX5_takeUnwanted 35 = .ok (.checkcast 24, 3) := by decide +kernel
theorem dX5_takeUnwanted_38 : decode cX5_takeUnwanted 38 = .ok (.getfield 46, 3) := by decide +kernel
theorem dX5_takeUnwanted_41 : decode cX5_takeUnwanted 41 = .ok (.ifCond .ne 12, 3) := by decide +kernel
theorem dX5_takeUnwanted_44 : decode cX5_takeUnwanted 44 = .ok (.aload_n 0, 1) := by decide +kernel
theorem dX5_takeUnwanted_45 : decode cX5_takeUnwanted 45 = .ok (.getfield 10, 3) := by decide +kernel
theorem dX5_takeUnwanted_48 : decode cX5_takeUnwanted 48 = .ok (.iload_n 2, 1) := by decide +kernel
theorem dX5_takeUnwanted_49 : decode cX5_takeUnwanted 49 = .ok (.invokevirtual 53, 3) := by decide +kernel
theorem dX5_takeUnwanted_52 : decode cX5_takeUnwanted 52 = .ok (.pop, 1) := by decide +kernel
theorem dX5_takeUnwanted_53 : decode cX5_takeUnwanted 53 = .ok (.iinc 2 (-1), 3) := by decide +kernel
theorem dX5_takeUnwanted_56 : decode cX5_takeUnwanted 56 = .ok (.goto (-44), 3) := by decide +kernel
theorem dX5_takeUnwanted_59 : decode cX5_takeUnwanted 59 = .ok (.iload_n 1, 1) := by decide +kernel
theorem dX5_takeUnwanted_60 : decode cX5_takeUnwanted 60 = .ok (.aload_n 0, 1) := by decide +kernel
theorem dX5_takeUnwanted_61 : decode cX5_takeUnwanted 61 = .ok (.getfield 10, 3) := by decide +kernel
theorem dX5_takeUnwanted_64 : decode cX5_takeUnwanted 64 = .ok (.invokevirtual 16, 3) := by decide +kernel
theorem dX5_takeUnwanted_67 : decode cX5_takeUnwanted 67 = .ok (.isub, 1) := by decide +kernel
theorem dX5_takeUnwanted_68 : decode cX5_takeUnwanted 68 = .ok (.ireturn, 1) := by decide +kernel
theorem dX5_takeBelow_0 : decode cX5_takeBelow 0 = .ok (.aload_n 0, 1) := by decide +kernel
theorem dX5_takeBelow_1 : decode cX5_takeBelow 1 = .ok (.iload_n 1, 1) := by decide +kernel
theorem dX5_takeBelow_2 : decode cX5_takeBelow 2 = .ok (.invokevirtual 30, 3) := by decide +kernel
theorem dX5_takeBelow_5 : decode cX5_takeBelow 5 = .ok (.istore_n 2, 1) := by decide +kernel
theorem dX5_takeBelow_6 : decode cX5_takeBelow 6 = .ok (.iload_n 2, 1) := by decide +kernel
theorem dX5_takeBelow_7 : decode cX5_takeBelow 7 = .ok (.iconst 1, 1) := by decide +kernel
theorem dX5_takeBelow_8 : decode cX5_takeBelow 8 = .ok (.isub, 1) := by decide +kernel
theorem dX5_takeBelow_9 : decode cX5_takeBelow 9 = .ok (.istore_n 3, 1) := by decide +kernel
theorem dX5_takeBelow_10 : decode cX5_takeBelow 10 = .ok (.iload_n 3, 1) := by decide +kernel
theorem dX5_takeBelow_11 : decode cX5_takeBelow 11 = .ok (.ifCond .lt 29, 3) := by decide +kernel
theorem dX5_takeBelow_14 : decode cX5_takeBelow 14 = .ok (.iload_n 3, 1) := by decide +kernel
theorem dX5_takeBelow_15 : decode cX5_takeBelow 15 = .ok (.aload_n 0, 1) := by decide +kernel
theorem dX5_takeBelow_16 : decode cX5_takeBelow 16 = .ok (.getfield 10, 3) := by decide +kernel
theorem dX5_takeBelow_19 : decode cX5_takeBelow 19 = .ok (.invokevirtual 16, 3) := by decide +kernel
theorem dX5_takeBelow_22 : decode cX5_takeBelow 22 = .ok (.if_icmp .ge 12, 3) := by decide +kernel
theorem dX5_takeBelow_25 : decode cX5_takeBelow 25 = .ok (.aload_n 0, 1) := by decide +kernel
theorem dX5_takeBelow_26 : decode cX5_takeBelow 26 = .ok (.getfield 10, 3) := by decide +kernel
theorem dX5_takeBelow_29 : decode cX5_takeBelow 29 = .ok (.iload_n 3, 1) := by decide +kernel
theorem dX5_takeBelow_30 : decode cX5_takeBelow 30 = .ok (.invokevirtual 53, 3) := by decide +kernel
theorem dX5_takeBelow_33 : decode cX5_takeBelow 33 = .ok (.pop, 1) := by decide +kernel
theorem dX5_takeBelow_34 : decode cX5_takeBelow 34 = .ok (.iinc 3 (-1), 3) := by decide +kernel
theorem dX5_takeBelow_37 : decode cX5_takeBelow 37 = .ok (.goto (-27), 3) := by decide +kernel
theorem dX5_takeBelow_40 : decode cX5_takeBelow 40 = .ok (.iload_n 2, 1) := by decide +kernel
theorem dX5_takeBelow_41 : decode cX5_takeBelow 41 = .ok (.ireturn, 1) := by decide +kernel
