theorem dX8_init_0 : decode cX8_init 0 = .ok (.aload_n 0, 1) := by decide +kernel
theorem dX8_init_1 : decode cX8_init 1 = .ok (.invokespecial 3, 3) := by decide +kernel
theorem dX8_init_4 : decode cX8_init 4 = .ok (.aload_n 0, 1) := by decide +kernel
theorem dX8_init_5 : decode cX8_init 5 = .ok (.new 9, 3) := by decide +kernel
theorem dX8_init_8 : decode cX8_init 8 = .ok (.dup, 1) := by decide +kernel
theorem dX8_init_9 : decode cX8_init 9 = .ok (.invokespecial 11, 3) := by decide +kernel
theorem dX8_init_12 : decode cX8_init 12 = .ok (.putfield 12, 3) := by decide +kernel
theorem dX8_init_15 : decode cX8_init 15 = .ok (.aload_n 0, 1) := by decide +kernel
theorem dX8_init_16 : decode cX8_init 16 = .ok (.new 9, 3) := by decide +kernel
theorem dX8_init_19 : decode cX8_init 19 = .ok (.dup, 1) := by decide +kernel
theorem dX8_init_20 : decode cX8_init 20 = .ok (.invokespecial 11, 3) := by decide +kernel
theorem dX8_init_23 : decode cX8_init 23 = .ok (.putfield 18, 3) := by decide +kernel
theorem dX8_init_26 : decode cX8_init 26 = .ok (.aload_n 0, 1) := by decide +kernel
theorem dX8_init_27 : decode cX8_init 27 = .ok (.new 9, 3) := by decide +kernel
theorem dX8_init_30 : decode cX8_init 30 = .ok (.dup, 1) := by decide +kernel
theorem dX8_init_31 : decode cX8_init 31 = .ok (.invokespecial 11, 3) := by decide +kernel
theorem dX8_init_34 : decode cX8_init 34 = .ok (.putfield 21, 3) := by decide +kernel
theorem dX8_init_37 : decode cX8_init 37 = .ok (.aload_n 0, 1) := by decide +kernel
theorem dX8_init_38 : decode cX8_init 38 = .ok (.sipush 6000, 3) := by decide +kernel
theorem dX8_init_41 : decode cX8_init 41 = .ok (.putfield 24, 3) := by decide +kernel
theorem dX8_init_44 : decode cX8_init 44 = .ok (.aload_n 0, 1) := by decide +kernel
theorem dX8_init_45 : decode cX8_init 45 = .ok (.new 28, 3) := by decide +kernel
theorem dX8_init_48 : decode cX8_init 48 = .ok (.dup, 1) := by decide +kernel
theorem dX8_init_49 : decode cX8_init 49 = .ok (.invokespecial 30, 3) := by decide +kernel
theorem dX8_init_52 : decode cX8_init 52 = .ok (.putfield 31, 3) := by decide +kernel
theorem dX8_init_55 : decode cX8_init 55 = .ok (.aload_n 0, 1) := by decide +kernel
theorem dX8_init_56 : decode cX8_init 56 = .ok (.new 35, 3) := by decide +kernel
theorem dX8_init_59 : decode cX8_init 59 = .ok (.dup, 1) := by decide +kernel
theorem dX8_init_60 : decode cX8_init 60 = .ok (.invokespecial 37, 3) := by decide +kernel
theorem dX8_init_63 : decode cX8_init 63 = .ok (.putfield 38, 3) := by decide +kernel
theorem dX8_init_66 : decode cX8_init 66 = .ok (.return_, 1) := by decide +kernel
theorem dX8_shelfOf_0 : decode cX8_shelfOf 0 = .ok (.iload_n 1, 1) := by decide +kernel
theorem dX8_shelfOf_1 : decode cX8_shelfOf 1 = .ok (.tableswitch 42 0 2 #[27, 32, 37], 27) := by decide +kernel
theorem dX8_shelfOf_28 : decode cX8_shelfOf 28 = .ok (.aload_n 0, 1) := by decide +kernel
theorem dX8_shelfOf_29 : decode cX8_shelfOf 29 = .ok (.getfield 12, 3) := by decide +kernel
theorem dX8_shelfOf_32 : decode cX8_shelfOf 32 = .ok (.areturn, 1) := by decide +kernel
theorem dX8_shelfOf_33 : decode cX8_shelfOf 33 = .ok (.aload_n 0, 1) := by decide +kernel
theorem dX8_shelfOf_34 : decode cX8_shelfOf 34 = .ok (.getfield 18, 3) := by decide +kernel
theorem dX8_shelfOf_37 : decode cX8_shelfOf 37 = .ok (.areturn, 1) := by decide +kernel
theorem dX8_shelfOf_38 : decode cX8_shelfOf 38 = .ok (.aload_n 0, 1) := by decide +kernel
theorem dX8_shelfOf_39 : decode cX8_shelfOf 39 = .ok (.getfield 21, 3) := by decide +kernel
theorem dX8_shelfOf_42 : decode cX8_shelfOf 42 = .ok (.areturn, 1) := by decide +kernel
theorem dX8_shelfOf_43 : decode cX8_shelfOf 43 = .ok (.aconst_null, 1) := by decide +kernel
theorem dX8_shelfOf_44 : decode cX8_shelfOf 44 = .ok (.areturn, 1) := by decide +kernel
theorem dX8_blobOf_0 : decode cX8_blobOf 0 = .ok (.aload_n 0, 1) := by decide +kernel
theorem dX8_blobOf_1 : decode cX8_blobOf 1 = .ok (.iload_n 1, 1) := by decide +kernel
theorem dX8_blobOf_2 : decode cX8_blobOf 2 = .ok (.invokevirtual 42, 3) := by decide +kernel
theorem dX8_blobOf_5 : decode cX8_blobOf 5 = .ok (.astore_n 3, 1) := by decide +kernel
theorem dX8_blobOf_6 : decode cX8_blobOf 6 = .ok (.aload_n 3, 1) := by decide +kernel
theorem dX8_blobOf_7 : decode cX8_blobOf 7 = .ok (.ifnonnull 7, 3) := by decide +kernel
theorem dX8_blobOf_10 : decode cX8_blobOf 10 = .ok (.aconst_null, 1) := by decide +kernel
theorem dX8_blobOf_11 : decode cX8_blobOf 11 = .ok (.goto 8, 3) := by decide +kernel
theorem dX8_blobOf_14 : decode cX8_blobOf 14 = .ok (.aload_n 3, 1) := by decide +kernel
theorem dX8_blobOf_15 : decode cX8_blobOf 15 = .ok (.iload_n 2, 1) := by decide +kernel
theorem dX8_blobOf_16 : decode cX8_blobOf 16 = .ok (.invokevirtual 46, 3) := by decide +kernel
theorem dX8_blobOf_19 : decode cX8_blobOf 19 = .ok (.areturn, 1) := by decide +kernel
theorem dX8_objects_0 : decode cX8_objects 0 = .ok (.aload_n 0, 1) := by decide +kernel
theorem dX8_objects_1 : decode cX8_objects 1 = .ok (.getfield 12, 3) := by decide +kernel
theorem dX8_objects_4 : decode cX8_objects 4 = .ok (.invokevirtual 50, 3) := by decide +kernel
theorem dX8_objects_7 : decode cX8_objects 7 = .ok (.aload_n 0, 1) := by decide +kernel
theorem dX8_objects_8 : decode cX8_objects 8 = .ok (.getfield 18, 3) := by decide +kernel
theorem dX8_objects_11 : decode cX8_objects 11 = .ok (.invokevirtual 50, 3) := by decide +kernel
theorem dX8_objects_14 : decode cX8_objects 14 = .ok (.iadd, 1) := by decide +kernel
theorem dX8_objects_15 : decode cX8_objects 15 = .ok (.aload_n 0, 1) := by decide +kernel
theorem dX8_objects_16 : decode cX8_objects 16 = .ok (.getfield 21, 3) := by decide +kernel
theorem dX8_objects_19 : decode cX8_objects 19 = .ok (.invokevirtual 50, 3) := by decide +kernel
theorem dX8_objects_22 : decode cX8_objects 22 = .ok (.iadd, 1) := by decide +kernel
theorem dX8_objects_23 : decode cX8_objects 23 = .ok (.ireturn, 1) := by decide +kernel
theorem dX8_allBytes_0 : decode cX8_allBytes 0 = .ok (.aload_n 0, 1) := by decide +kernel
theorem dX8_allBytes_1 : decode cX8_allBytes 1 = .ok (.getfield 12, 3) := by decide +kernel
theorem dX8_allBytes_4 : decode cX8_allBytes 4 = .ok (.invokevirtual 54, 3) := by decide +kernel
theorem dX8_allBytes_7 : decode cX8_allBytes 7 = .ok (.aload_n 0, 1) := by decide +kernel
theorem dX8_allBytes_8 : decode cX8_allBytes 8 = .ok (.getfield 18, 3) := by decide +kernel
theorem dX8_allBytes_11 : decode cX8_allBytes 11 = .ok (.invokevirtual 54, 3) := by decide +kernel
theorem dX8_allBytes_14 : decode cX8_allBytes 14 = .ok (.iadd, 1) := by decide +kernel
theorem dX8_allBytes_15 : decode cX8_allBytes 15 = .ok (.aload_n 0, 1) := by decide +kernel
theorem dX8_allBytes_16 : decode cX8_allBytes 16 = .ok (.getfield 21, 3) := by decide +kernel
theorem dX8_allBytes_19 : decode cX8_allBytes 19 = .ok (.invokevirtual 54, 3) := by decide +kernel
theorem dX8_allBytes_22 : decode cX8_allBytes 22 = .ok (.iadd, 1) := by decide +kernel
theorem dX8_allBytes_23 : decode cX8_allBytes 23 = .ok (.ireturn, 1) := by decide +kernel
theorem dX8_put_0 : decode cX8_put 0 = .ok (.aload_n 0, 1) := by decide +kernel
theorem dX8_put_1 : decode cX8_put 1 = .ok (.iload_n 1, 1) := by decide +kernel
theorem dX8_put_2 : decode cX8_put 2 = .ok (.invokevirtual 42, 3) := by decide +kernel
theorem dX8_put_5 : decode cX8_put 5 = .ok (.astore 4, 2) := by decide +kernel
theorem dX8_put_7 : decode cX8_put 7 = .ok (.aload 4, 2) := by decide +kernel
theorem dX8_put_9 : decode cX8_put 9 = .ok (.ifnull 12, 3) := by decide +kernel
theorem dX8_put_12 : decode cX8_put 12 = .ok (.aload 4, 2) := by decide +kernel
theorem dX8_put_14 : decode cX8_put 14 = .ok (.iload_n 2, 1) := by decide +kernel
theorem dX8_put_15 : decode cX8_put 15 = .ok (.invokevirtual 46, 3) := by decide +kernel
theorem dX8_put_18 : decode cX8_put 18 = .ok (.ifnull 5, 3) := by decide +kernel
theorem dX8_put_21 : decode cX8_put 21 = .ok (.iconst 0, 1) := by decide +kernel
theorem dX8_put_22 : decode cX8_put 22 = .ok (.ireturn, 1) := by decide +kernel
theorem dX8_put_23 : decode cX8_put 23 = .ok (.aload_n 0, 1) := by decide +kernel
theorem dX8_put_24 : decode cX8_put 24 = .ok (.invokevirtual 57, 3) := by decide +kernel
theorem dX8_put_27 : decode cX8_put 27 = .ok (.bipush 100, 2) := by decide +kernel
theorem dX8_put_29 : decode cX8_put 29 = .ok (.if_icmp .ge 17, 3) := by decide +kernel
theorem dX8_put_32 : decode cX8_put 32 = .ok (.aload_n 0, 1) := by decide +kernel
theorem dX8_put_33 : decode cX8_put 33 = .ok (.invokevirtual 60, 3) := by decide +kernel
theorem dX8_put_36 : decode cX8_put 36 = .ok (.aload_n 3, 1) := by decide +kernel
theorem dX8_put_37 : decode cX8_put 37 = .ok (.arraylength, 1) := by decide +kernel
theorem dX8_put_38 : decode cX8_put 38 = .ok (.iadd, 1) := by decide +kernel
theorem dX8_put_39 : decode cX8_put 39 = .ok (.aload_n 0, 1) := by decide +kernel
theorem dX8_put_40 : decode cX8_put 40 = .ok (.getfield 24, 3) := by decide +kernel
theorem dX8_put_43 : decode cX8_put 43 = .ok (.if_icmp .le 5, 3) := by decide +kernel
theorem dX8_put_46 : decode cX8_put 46 = .ok (.iconst 0, 1) := by decide +kernel
theorem dX8_put_47 : decode cX8_put 47 = .ok (.ireturn, 1) := by decide +kernel
theorem dX8_put_48 : decode cX8_put 48 = .ok (.aload 4, 2) := by decide +kernel
theorem dX8_put_50 : decode cX8_put 50 = .ok (.new 63, 3) := by decide +kernel
theorem dX8_put_53 : decode cX8_put 53 = .ok (.dup, 1) := by decide +kernel
theorem dX8_put_54 : decode cX8_put 54 = .ok (.iload_n 2, 1) := by decide +kernel
theorem dX8_put_55 : decode cX8_put 55 = .ok (.aload_n 3, 1) := by decide +kernel
theorem dX8_put_56 : decode cX8_put 56 = .ok (.invokespecial 65, 3) := by decide +kernel
theorem dX8_put_59 : decode cX8_put 59 = .ok (.invokevirtual 68, 3) := by decide +kernel
theorem dX8_put_62 : decode cX8_put 62 = .ok (.iconst 1, 1) := by decide +kernel
theorem dX8_put_63 : decode cX8_put 63 = .ok (.ireturn, 1) := by decide +kernel
theorem dX8_soundBlob_0 : decode cX8_soundBlob 0 = .ok (.aload_n 0, 1) := by decide +kernel
theorem dX8_soundBlob_1 : decode cX8_soundBlob 1 = .ok (.iload_n 1, 1) := by decide +kernel
theorem dX8_soundBlob_2 : decode cX8_soundBlob 2 = .ok (.iload_n 2, 1) := by decide +kernel
theorem dX8_soundBlob_3 : decode cX8_soundBlob 3 = .ok (.invokevirtual 72, 3) := by decide +kernel
theorem dX8_soundBlob_6 : decode cX8_soundBlob 6 = .ok (.astore_n 3, 1) := by decide +kernel
theorem dX8_soundBlob_7 : decode cX8_soundBlob 7 = .ok (.aload_n 3, 1) := by decide +kernel
theorem dX8_soundBlob_8 : decode cX8_soundBlob 8 = .ok (.ifnull 16, 3) := by decide +kernel
theorem dX8_soundBlob_11 : decode cX8_soundBlob 11 = .ok (.aload_n 0, 1) := by decide +kernel
theorem dX8_soundBlob_12 : decode cX8_soundBlob 12 = .ok (.iload_n 1, 1) := by decide +kernel
theorem dX8_soundBlob_13 : decode cX8_soundBlob 13 = .ok (.aload_n 3, 1) := by decide +kernel
theorem dX8_soundBlob_14 : decode cX8_soundBlob 14 = .ok (.invokevirtual 75, 3) := by decide +kernel
theorem dX8_soundBlob_17 : decode cX8_soundBlob 17 = .ok (.ifCond .eq 7, 3) := by decide +kernel
theorem dX8_soundBlob_20 : decode cX8_soundBlob 20 = .ok (.aload_n 3, 1) := by decide +kernel
theorem dX8_soundBlob_21 : decode cX8_soundBlob 21 = .ok (.goto 4, 3) := by decide +kernel
theorem dX8_soundBlob_24 : decode cX8_soundBlob 24 = .ok (.aconst_null, 1) := by decide +kernel
theorem dX8_soundBlob_25 : decode cX8_soundBlob 25 = .ok (.areturn, 1) := by decide +kernel
theorem dX8_soundCheckpointUpTo_0 : decode cX8_soundCheckpointUpTo 0 = .ok (.aload_n 0, 1) := by decide +kernel
theorem dX8_soundCheckpointUpTo_1 : decode cX8_soundCheckpointUpTo 1 = .ok (.getfield 21, 3) := by decide +kernel
theorem dX8_soundCheckpointUpTo_4 : decode cX8_soundCheckpointUpTo 4 = .ok (.iload_n 1, 1) := by decide +kernel
theorem dX8_soundCheckpointUpTo_5 : decode cX8_soundCheckpointUpTo 5 = .ok (.invokevirtual 79, 3) := by decide +kernel
theorem dX8_soundCheckpointUpTo_8 : decode cX8_soundCheckpointUpTo 8 = .ok (.istore_n 2, 1) := by decide +kernel
theorem dX8_soundCheckpointUpTo_9 : decode cX8_soundCheckpointUpTo 9 = .ok (.aload_n 0, 1) := by decide +kernel
theorem dX8_soundCheckpointUpTo_10 : decode cX8_soundCheckpointUpTo 10 = .ok (.getfield 21, 3) := by decide +kernel
theorem dX8_soundCheckpointUpTo_13 : decode cX8_soundCheckpointUpTo 13 = .ok (.iload_n 2, 1) := by decide +kernel
theorem dX8_soundCheckpointUpTo_14 : decode cX8_soundCheckpointUpTo 14 = .ok (.invokevirtual 83, 3) := by decide +kernel
theorem dX8_soundCheckpointUpTo_17 : decode cX8_soundCheckpointUpTo 17 = .ok (.astore_n 3, 1) := by decide +kernel
theorem dX8_soundCheckpointUpTo_18 : decode cX8_soundCheckpointUpTo 18 = .ok (.aload_n 3, 1) := by decide +kernel
theorem dX8_soundCheckpointUpTo_19 : decode cX8_soundCheckpointUpTo 19 = .ok (.ifnull 15, 3) := by decide +kernel
theorem dX8_soundCheckpointUpTo_22 : decode cX8_soundCheckpointUpTo 22 = .ok (.aload_n 3, 1) := by decide +kernel
theorem dX8_soundCheckpointUpTo_23 : decode cX8_soundCheckpointUpTo 23 = .ok (.getfield 86, 3) := by decide +kernel
theorem dX8_soundCheckpointUpTo_26 : decode cX8_soundCheckpointUpTo 26 = .ok (.iload_n 1, 1) := by decide +kernel
theorem dX8_soundCheckpointUpTo_27 : decode cX8_soundCheckpointUpTo 27 = .ok (.if_icmp .ne 7, 3) := by decide +kernel
theorem dX8_soundCheckpointUpTo_30 : decode cX8_soundCheckpointUpTo 30 = .ok (.iload_n 2, 1) := by decide +kernel
theorem dX8_soundCheckpointUpTo_31 : decode cX8_soundCheckpointUpTo 31 = .ok (.goto 6, 3) := by decide +kernel
theorem dX8_soundCheckpointUpTo_34 : decode cX8_soundCheckpointUpTo 34 = .ok (.iload_n 2, 1) := by decide +kernel
theorem dX8_soundCheckpointUpTo_35 : decode cX8_soundCheckpointUpTo 35 = .ok (.iconst 1, 1) := by decide +kernel
theorem dX8_soundCheckpointUpTo_36 : decode cX8_soundCheckpointUpTo 36 = .ok (.isub, 1) := by decide +kernel
theorem dX8_soundCheckpointUpTo_37 : decode cX8_soundCheckpointUpTo 37 = .ok (.istore 4, 2) := by decide +kernel
theorem dX8_soundCheckpointUpTo_39 : decode cX8_soundCheckpointUpTo 39 = .ok (.iload 4, 2) := by decide +kernel
theorem dX8_soundCheckpointUpTo_41 : decode cX8_soundCheckpointUpTo 41 = .ok (.istore 5, 2) := by decide +kernel
theorem dX8_soundCheckpointUpTo_43 : decode cX8_soundCheckpointUpTo 43 = .ok (.iload 5, 2) := by decide +kernel
theorem dX8_soundCheckpointUpTo_45 : decode cX8_soundCheckpointUpTo 45 = .ok (.ifCond .lt 34, 3) := by decide +kernel
theorem dX8_soundCheckpointUpTo_48 : decode cX8_soundCheckpointUpTo 48 = .ok (.aload_n 0, 1) := by decide +kernel
theorem dX8_soundCheckpointUpTo_49 : decode cX8_soundCheckpointUpTo 49 = .ok (.getfield 21, 3) := by decide +kernel
theorem dX8_soundCheckpointUpTo_52 : decode cX8_soundCheckpointUpTo 52 = .ok (.iload 5, 2) := by decide +kernel
theorem dX8_soundCheckpointUpTo_54 : decode cX8_soundCheckpointUpTo 54 = .ok (.invokevirtual 83, 3) := by decide +kernel
theorem dX8_soundCheckpointUpTo_57 : decode cX8_soundCheckpointUpTo 57 = .ok (.astore_n 3, 1) := by decide +kernel
theorem dX8_soundCheckpointUpTo_58 : decode cX8_soundCheckpointUpTo 58 = .ok (.aload_n 3, 1) := by decide +kernel
theorem dX8_soundCheckpointUpTo_59 : decode cX8_soundCheckpointUpTo 59 = .ok (.ifnull 14, 3) := by decide +kernel
theorem dX8_soundCheckpointUpTo_62 : decode cX8_soundCheckpointUpTo 62 = .ok (.aload_n 0, 1) := by decide +kernel
theorem dX8_soundCheckpointUpTo_63 : decode cX8_soundCheckpointUpTo 63 = .ok (.iconst 2, 1) := by decide +kernel
theorem dX8_soundCheckpointUpTo_64 : decode cX8_soundCheckpointUpTo 64 = .ok (.aload_n 3, 1) := by decide +kernel
theorem dX8_soundCheckpointUpTo_65 : decode cX8_soundCheckpointUpTo 65 = .ok (.invokevirtual 75, 3) := by decide +kernel
theorem dX8_soundCheckpointUpTo_68 : decode cX8_soundCheckpointUpTo 68 = .ok (.ifCond .eq 5, 3) := by decide +kernel
theorem dX8_soundCheckpointUpTo_71 : decode cX8_soundCheckpointUpTo 71 = .ok (.aload_n 3, 1) := by decide +kernel
theorem dX8_soundCheckpointUpTo_72 : decode cX8_soundCheckpointUpTo 72 = .ok (.areturn, 1) := by decide +kernel
theorem dX8_soundCheckpointUpTo_73 : decode cX8_soundCheckpointUpTo 73 = .ok (.iinc 5 (-1), 3) := by decide +kernel
theorem dX8_soundCheckpointUpTo_76 : decode cX8_soundCheckpointUpTo 76 = .ok (.goto (-33), 3) := by decide +kernel
theorem dX8_soundCheckpointUpTo_79 : decode cX8_soundCheckpointUpTo 79 = .ok (.aconst_null, 1) := by decide +kernel
theorem dX8_soundCheckpointUpTo_80 : decode cX8_soundCheckpointUpTo 80 = .ok (.areturn, 1) := by decide +kernel
theorem dX8_batchOf_0 : decode cX8_batchOf 0 = .ok (.aload_n 0, 1) := by decide +kernel
theorem dX8_batchOf_1 : decode cX8_batchOf 1 = .ok (.getfield 12, 3) := by decide +kernel
theorem dX8_batchOf_4 : decode cX8_batchOf 4 = .ok (.iload_n 1, 1) := by decide +kernel
theorem dX8_batchOf_5 : decode cX8_batchOf 5 = .ok (.invokevirtual 46, 3) := by decide +kernel
theorem dX8_batchOf_8 : decode cX8_batchOf 8 = .ok (.astore_n 3, 1) := by decide +kernel
theorem dX8_batchOf_9 : decode cX8_batchOf 9 = .ok (.aload_n 3, 1) := by decide +kernel
theorem dX8_batchOf_10 : decode cX8_batchOf 10 = .ok (.ifnull 19, 3) := by decide +kernel
theorem dX8_batchOf_13 : decode cX8_batchOf 13 = .ok (.aload_n 0, 1) := by decide +kernel
theorem dX8_batchOf_14 : decode cX8_batchOf 14 = .ok (.iconst 0, 1) := by decide +kernel
theorem dX8_batchOf_15 : decode cX8_batchOf 15 = .ok (.aload_n 3, 1) := by decide +kernel
theorem dX8_batchOf_16 : decode cX8_batchOf 16 = .ok (.invokevirtual 75, 3) := by decide +kernel
theorem dX8_batchOf_19 : decode cX8_batchOf 19 = .ok (.ifCond .eq 10, 3) := by decide +kernel
theorem dX8_batchOf_22 : decode cX8_batchOf 22 = .ok (.aload_n 3, 1) := by decide +kernel
theorem dX8_batchOf_23 : decode cX8_batchOf 23 = .ok (.getfield 89, 3) := by decide +kernel
theorem dX8_batchOf_26 : decode cX8_batchOf 26 = .ok (.ifnonnull 5, 3) := by decide +kernel
theorem dX8_batchOf_29 : decode cX8_batchOf 29 = .ok (.aconst_null, 1) := by decide +kernel
theorem dX8_batchOf_30 : decode cX8_batchOf 30 = .ok (.areturn, 1) := by decide +kernel
theorem dX8_batchOf_31 : decode cX8_batchOf 31 = .ok (.aload_n 3, 1) := by decide +kernel
theorem dX8_batchOf_32 : decode cX8_batchOf 32 = .ok (.getfield 89, 3) := by decide +kernel
theorem dX8_batchOf_35 : decode cX8_batchOf 35 = .ok (.getfield 93, 3) := by decide +kernel
theorem dX8_batchOf_38 : decode cX8_batchOf 38 = .ok (.iload_n 2, 1) := by decide +kernel
theorem dX8_batchOf_39 : decode cX8_batchOf 39 = .ok (.if_icmp .ne 10, 3) := by decide +kernel
theorem dX8_batchOf_42 : decode cX8_batchOf 42 = .ok (.aload_n 3, 1) := by decide +kernel
theorem dX8_batchOf_43 : decode cX8_batchOf 43 = .ok (.getfield 89, 3) := by decide +kernel
theorem dX8_batchOf_46 : decode cX8_batchOf 46 = .ok (.goto 4, 3) := by decide +kernel
theorem dX8_batchOf_49 : decode cX8_batchOf 49 = .ok (.aconst_null, 1) := by decide +kernel
theorem dX8_batchOf_50 : decode cX8_batchOf 50 = .ok (.areturn, 1) := by decide +kernel
theorem dX8_isSound_0 : decode cX8_isSound 0 = .ok (.aload_n 2, 1) := by decide +kernel
theorem dX8_isSound_1 : decode cX8_isSound 1 = .ok (.getfield 98, 3) := by decide +kernel
theorem dX8_isSound_4 : decode cX8_isSound 4 = .ok (.ifCond .eq 8, 3) := by decide +kernel
theorem dX8_isSound_7 : decode cX8_isSound 7 = .ok (.aload_n 2, 1) := by decide +kernel
theorem dX8_isSound_8 : decode cX8_isSound 8 = .ok (.getfield 102, 3) := by decide +kernel
theorem dX8_isSound_11 : decode cX8_isSound 11 = .ok (.ireturn, 1) := by decide +kernel
theorem dX8_isSound_12 : decode cX8_isSound 12 = .ok (.aload_n 2, 1) := by decide +kernel
theorem dX8_isSound_13 : decode cX8_isSound 13 = .ok (.iconst 1, 1) := by decide +kernel
theorem dX8_isSound_14 : decode cX8_isSound 14 = .ok (.putfield 98, 3) := by decide +kernel
theorem dX8_isSound_17 : decode cX8_isSound 17 = .ok (.iload_n 1, 1) := by decide +kernel
theorem dX8_isSound_18 : decode cX8_isSound 18 = .ok (.iconst 1, 1) := by decide +kernel
theorem dX8_isSound_19 : decode cX8_isSound 19 = .ok (.if_icmp .ne 14, 3) := by decide +kernel
theorem dX8_isSound_22 : decode cX8_isSound 22 = .ok (.aload_n 2, 1) := by decide +kernel
theorem dX8_isSound_23 : decode cX8_isSound 23 = .ok (.aload_n 2, 1) := by decide +kernel
theorem dX8_isSound_24 : decode cX8_isSound 24 = .ok (.invokevirtual 105, 3) := by decide +kernel
theorem dX8_isSound_27 : decode cX8_isSound 27 = .ok (.putfield 102, 3) := by decide +kernel
theorem dX8_isSound_30 : decode cX8_isSound 30 = .ok (.goto 112, 3) := by decide +kernel
theorem dX8_isSound_33 : decode cX8_isSound 33 = .ok (.iload_n 1, 1) := by decide +kernel
theorem dX8_isSound_34 : decode cX8_isSound 34 = .ok (.iconst 2, 1) := by decide +kernel
theorem dX8_isSound_35 : decode cX8_isSound 35 = .ok (.if_icmp .ne 14, 3) := by decide +kernel
theorem dX8_isSound_38 : decode cX8_isSound 38 = .ok (.aload_n 2, 1) := by decide +kernel
theorem dX8_isSound_39 : decode cX8_isSound 39 = .ok (.aload_n 2, 1) := by decide +kernel
theorem dX8_isSound_40 : decode cX8_isSound 40 = .ok (.invokevirtual 109, 3) := by decide +kernel
theorem dX8_isSound_43 : decode cX8_isSound 43 = .ok (.putfield 102, 3) := by decide +kernel
theorem dX8_isSound_46 : decode cX8_isSound 46 = .ok (.goto 96, 3) := by decide +kernel
theorem dX8_isSound_49 : decode cX8_isSound 49 = .ok (.aload_n 2, 1) := by decide +kernel
theorem dX8_isSound_50 : decode cX8_isSound 50 = .ok (.getfield 89, 3) := by decide +kernel
theorem dX8_isSound_53 : decode cX8_isSound 53 = .ok (.ifnonnull 14, 3) := by decide +kernel
theorem dX8_isSound_56 : decode cX8_isSound 56 = .ok (.aload_n 2, 1) := by decide +kernel
theorem dX8_isSound_57 : decode cX8_isSound 57 = .ok (.new 94, 3) := by decide +kernel
theorem dX8_isSound_60 : decode cX8_isSound 60 = .ok (.dup, 1) := by decide +kernel
theorem dX8_isSound_61 : decode cX8_isSound 61 = .ok (.invokespecial 112, 3) := by decide +kernel
theorem dX8_isSound_64 : decode cX8_isSound 64 = .ok (.putfield 89, 3) := by decide +kernel
theorem dX8_isSound_67 : decode cX8_isSound 67 = .ok (.aload_n 0, 1) := by decide +kernel
theorem dX8_isSound_68 : decode cX8_isSound 68 = .ok (.getfield 31, 3) := by decide +kernel
theorem dX8_isSound_71 : decode cX8_isSound 71 = .ok (.aload_n 2, 1) := by decide +kernel
theorem dX8_isSound_72 : decode cX8_isSound 72 = .ok (.getfield 113, 3) := by decide +kernel
theorem dX8_isSound_75 : decode cX8_isSound 75 = .ok (.aload_n 2, 1) := by decide +kernel
theorem dX8_isSound_76 : decode cX8_isSound 76 = .ok (.getfield 113, 3) := by decide +kernel
theorem dX8_isSound_79 : decode cX8_isSound 79 = .ok (.arraylength, 1) := by decide +kernel
theorem dX8_isSound_80 : decode cX8_isSound 80 = .ok (.iconst 4, 1) := by decide +kernel
theorem dX8_isSound_81 : decode cX8_isSound 81 = .ok (.isub, 1) := by decide +kernel
theorem dX8_isSound_82 : decode cX8_isSound 82 = .ok (.invokevirtual 116, 3) := by decide +kernel
theorem dX8_isSound_85 : decode cX8_isSound 85 = .ok (.aload_n 2, 1) := by decide +kernel
theorem dX8_isSound_86 : decode cX8_isSound 86 = .ok (.getfield 89, 3) := by decide +kernel
theorem dX8_isSound_89 : decode cX8_isSound 89 = .ok (.aload_n 0, 1) := by decide +kernel
theorem dX8_isSound_90 : decode cX8_isSound 90 = .ok (.getfield 31, 3) := by decide +kernel
theorem dX8_isSound_93 : decode cX8_isSound 93 = .ok (.invokevirtual 120, 3) := by decide +kernel
theorem dX8_isSound_96 : decode cX8_isSound 96 = .ok (.istore_n 3, 1) := by decide +kernel
theorem dX8_isSound_97 : decode cX8_isSound 97 = .ok (.aload_n 0, 1) := by decide +kernel
theorem dX8_isSound_98 : decode cX8_isSound 98 = .ok (.getfield 38, 3) := by decide +kernel
theorem dX8_isSound_101 : decode cX8_isSound 101 = .ok (.invokevirtual 124, 3) := by decide +kernel
theorem dX8_isSound_104 : decode cX8_isSound 104 = .ok (.aload_n 2, 1) := by decide +kernel
theorem dX8_isSound_105 : decode cX8_isSound 105 = .ok (.getfield 89, 3) := by decide +kernel
theorem dX8_isSound_108 : decode cX8_isSound 108 = .ok (.aload_n 0, 1) := by decide +kernel
theorem dX8_isSound_109 : decode cX8_isSound 109 = .ok (.getfield 38, 3) := by decide +kernel
theorem dX8_isSound_112 : decode cX8_isSound 112 = .ok (.invokevirtual 127, 3) := by decide +kernel
theorem dX8_isSound_115 : decode cX8_isSound 115 = .ok (.aload_n 2, 1) := by decide +kernel
theorem dX8_isSound_116 : decode cX8_isSound 116 = .ok (.iload_n 3, 1) := by decide +kernel
theorem dX8_isSound_117 : decode cX8_isSound 117 = .ok (.ifCond .eq 21, 3) := by decide +kernel
theorem dX8_isSound_120 : decode cX8_isSound 120 = .ok (.aload_n 0, 1) := by decide +kernel
theorem dX8_isSound_121 : decode cX8_isSound 121 = .ok (.getfield 38, 3) := by decide +kernel
theorem dX8_isSound_124 : decode cX8_isSound 124 = .ok (.aload_n 2, 1) := by decide +kernel
theorem dX8_isSound_125 : decode cX8_isSound 125 = .ok (.getfield 113, 3) := by decide +kernel
theorem dX8_isSound_128 : decode cX8_isSound 128 = .ok (.invokevirtual 131, 3) := by decide +kernel
theorem dX8_isSound_131 : decode cX8_isSound 131 = .ok (.ifCond .eq 7, 3) := by decide +kernel
theorem dX8_isSound_134 : decode cX8_isSound 134 = .ok (.iconst 1, 1) := by decide +kernel
theorem dX8_isSound_135 : decode cX8_isSound 135 = .ok (.goto 4, 3) := by decide +kernel
theorem dX8_isSound_138 : decode cX8_isSound 138 = .ok (.iconst 0, 1) := by decide +kernel
theorem dX8_isSound_139 : decode cX8_isSound 139 = .ok (.putfield 102, 3) := by decide +kernel
theorem dX8_isSound_142 : decode cX8_isSound 142 = .ok (.aload_n 2, 1) := by decide +kernel
theorem dX8_isSound_143 : decode cX8_isSound 143 = .ok (.getfield 102, 3) := by decide +kernel
theorem dX8_isSound_146 : decode cX8_isSound 146 = .ok (.ireturn, 1) := by decide +kernel
