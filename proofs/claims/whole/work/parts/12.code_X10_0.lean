theorem dX10_init_0 : decode cX10_init 0 = .ok (.aload_n 0, 1) := by decide +kernel
theorem dX10_init_1 : decode cX10_init 1 = .ok (.invokespecial 5, 3) := by decide +kernel
theorem dX10_init_4 : decode cX10_init 4 = .ok (.aload_n 0, 1) := by decide +kernel
theorem dX10_init_5 : decode cX10_init 5 = .ok (.new 11, 3) := by decide +kernel
theorem dX10_init_8 : decode cX10_init 8 = .ok (.dup, 1) := by decide +kernel
theorem dX10_init_9 : decode cX10_init 9 = .ok (.invokespecial 13, 3) := by decide +kernel
theorem dX10_init_12 : decode cX10_init 12 = .ok (.putfield 14, 3) := by decide +kernel
theorem dX10_init_15 : decode cX10_init 15 = .ok (.aload_n 0, 1) := by decide +kernel
theorem dX10_init_16 : decode cX10_init 16 = .ok (.iconst 4, 1) := by decide +kernel
theorem dX10_init_17 : decode cX10_init 17 = .ok (.anewarray 18, 3) := by decide +kernel
theorem dX10_init_20 : decode cX10_init 20 = .ok (.putfield 20, 3) := by decide +kernel
theorem dX10_init_23 : decode cX10_init 23 = .ok (.iconst 0, 1) := by decide +kernel
theorem dX10_init_24 : decode cX10_init 24 = .ok (.istore_n 1, 1) := by decide +kernel
theorem dX10_init_25 : decode cX10_init 25 = .ok (.iload_n 1, 1) := by decide +kernel
theorem dX10_init_26 : decode cX10_init 26 = .ok (.aload_n 0, 1) := by decide +kernel
theorem dX10_init_27 : decode cX10_init 27 = .ok (.getfield 20, 3) := by decide +kernel
theorem dX10_init_30 : decode cX10_init 30 = .ok (.arraylength, 1) := by decide +kernel
theorem dX10_init_31 : decode cX10_init 31 = .ok (.if_icmp .ge 22, 3) := by decide +kernel
theorem dX10_init_34 : decode cX10_init 34 = .ok (.aload_n 0, 1) := by decide +kernel
theorem dX10_init_35 : decode cX10_init 35 = .ok (.getfield 20, 3) := by decide +kernel
theorem dX10_init_38 : decode cX10_init 38 = .ok (.iload_n 1, 1) := by decide +kernel
theorem dX10_init_39 : decode cX10_init 39 = .ok (.new 18, 3) := by decide +kernel
theorem dX10_init_42 : decode cX10_init 42 = .ok (.dup, 1) := by decide +kernel
theorem dX10_init_43 : decode cX10_init 43 = .ok (.invokespecial 24, 3) := by decide +kernel
theorem dX10_init_46 : decode cX10_init 46 = .ok (.aastore, 1) := by decide +kernel
theorem dX10_init_47 : decode cX10_init 47 = .ok (.iinc 1 1, 3) := by decide +kernel
theorem dX10_init_50 : decode cX10_init 50 = .ok (.goto (-25), 3) := by decide +kernel
theorem dX10_init_53 : decode cX10_init 53 = .ok (.aload_n 0, 1) := by decide +kernel
theorem dX10_init_54 : decode cX10_init 54 = .ok (.iconst 3, 1) := by decide +kernel
theorem dX10_init_55 : decode cX10_init 55 = .ok (.putfield 25, 3) := by decide +kernel
theorem dX10_init_58 : decode cX10_init 58 = .ok (.aload_n 0, 1) := by decide +kernel
theorem dX10_init_59 : decode cX10_init 59 = .ok (.iconst 4, 1) := by decide +kernel
theorem dX10_init_60 : decode cX10_init 60 = .ok (.newarray .int, 2) := by decide +kernel
theorem dX10_init_62 : decode cX10_init 62 = .ok (.putfield 29, 3) := by decide +kernel
theorem dX10_init_65 : decode cX10_init 65 = .ok (.aload_n 0, 1) := by decide +kernel
theorem dX10_init_66 : decode cX10_init 66 = .ok (.new 33, 3) := by decide +kernel
theorem dX10_init_69 : decode cX10_init 69 = .ok (.dup, 1) := by decide +kernel
theorem dX10_init_70 : decode cX10_init 70 = .ok (.invokespecial 35, 3) := by decide +kernel
theorem dX10_init_73 : decode cX10_init 73 = .ok (.putfield 36, 3) := by decide +kernel
theorem dX10_init_76 : decode cX10_init 76 = .ok (.aload_n 0, 1) := by decide +kernel
theorem dX10_init_77 : decode cX10_init 77 = .ok (.new 40, 3) := by decide +kernel
theorem dX10_init_80 : decode cX10_init 80 = .ok (.dup, 1) := by decide +kernel
theorem dX10_init_81 : decode cX10_init 81 = .ok (.invokespecial 42, 3) := by decide +kernel
theorem dX10_init_84 : decode cX10_init 84 = .ok (.putfield 43, 3) := by decide +kernel
theorem dX10_init_87 : decode cX10_init 87 = .ok (.aload_n 0, 1) := by decide +kernel
theorem dX10_init_88 : decode cX10_init 88 = .ok (.new 47, 3) := by decide +kernel
theorem dX10_init_91 : decode cX10_init 91 = .ok (.dup, 1) := by decide +kernel
theorem dX10_init_92 : decode cX10_init 92 = .ok (.invokespecial 49, 3) := by decide +kernel
theorem dX10_init_95 : decode cX10_init 95 = .ok (.putfield 50, 3) := by decide +kernel
theorem dX10_init_98 : decode cX10_init 98 = .ok (.aload_n 0, 1) := by decide +kernel
theorem dX10_init_99 : decode cX10_init 99 = .ok (.new 54, 3) := by decide +kernel
theorem dX10_init_102 : decode cX10_init 102 = .ok (.dup, 1) := by decide +kernel
theorem dX10_init_103 : decode cX10_init 103 = .ok (.invokespecial 56, 3) := by decide +kernel
theorem dX10_init_106 : decode cX10_init 106 = .ok (.putfield 57, 3) := by decide +kernel
theorem dX10_init_109 : decode cX10_init 109 = .ok (.return_, 1) := by decide +kernel
theorem dX10_room_0 : decode cX10_room 0 = .ok (.iload_n 1, 1) := by decide +kernel
theorem dX10_room_1 : decode cX10_room 1 = .ok (.bipush 100, 2) := by decide +kernel
theorem dX10_room_3 : decode cX10_room 3 = .ok (.if_icmp .lt 10, 3) := by decide +kernel
theorem dX10_room_6 : decode cX10_room 6 = .ok (.iload_n 1, 1) := by decide +kernel
theorem dX10_room_7 : decode cX10_room 7 = .ok (.sipush 20000, 3) := by decide +kernel
theorem dX10_room_10 : decode cX10_room 10 = .ok (.if_icmp .le 5, 3) := by decide +kernel
theorem dX10_room_13 : decode cX10_room 13 = .ok (.iconst (-1), 1) := by decide +kernel
theorem dX10_room_14 : decode cX10_room 14 = .ok (.ireturn, 1) := by decide +kernel
theorem dX10_room_15 : decode cX10_room 15 = .ok (.aload_n 0, 1) := by decide +kernel
theorem dX10_room_16 : decode cX10_room 16 = .ok (.getfield 14, 3) := by decide +kernel
theorem dX10_room_19 : decode cX10_room 19 = .ok (.getfield 61, 3) := by decide +kernel
theorem dX10_room_22 : decode cX10_room 22 = .ok (.istore_n 2, 1) := by decide +kernel
theorem dX10_room_23 : decode cX10_room 23 = .ok (.aload_n 0, 1) := by decide +kernel
theorem dX10_room_24 : decode cX10_room 24 = .ok (.getfield 14, 3) := by decide +kernel
theorem dX10_room_27 : decode cX10_room 27 = .ok (.iload_n 1, 1) := by decide +kernel
theorem dX10_room_28 : decode cX10_room 28 = .ok (.putfield 61, 3) := by decide +kernel
theorem dX10_room_31 : decode cX10_room 31 = .ok (.iload_n 2, 1) := by decide +kernel
theorem dX10_room_32 : decode cX10_room 32 = .ok (.ireturn, 1) := by decide +kernel
theorem dX10_tries_0 : decode cX10_tries 0 = .ok (.iload_n 1, 1) := by decide +kernel
theorem dX10_tries_1 : decode cX10_tries 1 = .ok (.iconst 1, 1) := by decide +kernel
theorem dX10_tries_2 : decode cX10_tries 2 = .ok (.if_icmp .lt 9, 3) := by decide +kernel
theorem dX10_tries_5 : decode cX10_tries 5 = .ok (.iload_n 1, 1) := by decide +kernel
theorem dX10_tries_6 : decode cX10_tries 6 = .ok (.bipush 8, 2) := by decide +kernel
theorem dX10_tries_8 : decode cX10_tries 8 = .ok (.if_icmp .le 5, 3) := by decide +kernel
theorem dX10_tries_11 : decode cX10_tries 11 = .ok (.iconst (-1), 1) := by decide +kernel
theorem dX10_tries_12 : decode cX10_tries 12 = .ok (.ireturn, 1) := by decide +kernel
theorem dX10_tries_13 : decode cX10_tries 13 = .ok (.aload_n 0, 1) := by decide +kernel
theorem dX10_tries_14 : decode cX10_tries 14 = .ok (.getfield 25, 3) := by decide +kernel
theorem dX10_tries_17 : decode cX10_tries 17 = .ok (.istore_n 2, 1) := by decide +kernel
theorem dX10_tries_18 : decode cX10_tries 18 = .ok (.aload_n 0, 1) := by decide +kernel
theorem dX10_tries_19 : decode cX10_tries 19 = .ok (.iload_n 1, 1) := by decide +kernel
theorem dX10_tries_20 : decode cX10_tries 20 = .ok (.putfield 25, 3) := by decide +kernel
theorem dX10_tries_23 : decode cX10_tries 23 = .ok (.iload_n 2, 1) := by decide +kernel
theorem dX10_tries_24 : decode cX10_tries 24 = .ok (.ireturn, 1) := by decide +kernel
theorem dX10_append_0 : decode cX10_append 0 = .ok (.aload_n 0, 1) := by decide +kernel
theorem dX10_append_1 : decode cX10_append 1 = .ok (.iload_n 1, 1) := by decide +kernel
theorem dX10_append_2 : decode cX10_append 2 = .ok (.iconst 0, 1) := by decide +kernel
theorem dX10_append_3 : decode cX10_append 3 = .ok (.iconst (-1), 1) := by decide +kernel
theorem dX10_append_4 : decode cX10_append 4 = .ok (.invokevirtual 64, 3) := by decide +kernel
theorem dX10_append_7 : decode cX10_append 7 = .ok (.ireturn, 1) := by decide +kernel
theorem dX10_row_0 : decode cX10_row 0 = .ok (.aload_n 0, 1) := by decide +kernel
theorem dX10_row_1 : decode cX10_row 1 = .ok (.iload_n 1, 1) := by decide +kernel
theorem dX10_row_2 : decode cX10_row 2 = .ok (.invokevirtual 68, 3) := by decide +kernel
theorem dX10_row_5 : decode cX10_row 5 = .ok (.astore 6, 2) := by decide +kernel
theorem dX10_row_7 : decode cX10_row 7 = .ok (.aload 6, 2) := by decide +kernel
theorem dX10_row_9 : decode cX10_row 9 = .ok (.ifnull 26, 3) := by decide +kernel
theorem dX10_row_12 : decode cX10_row 12 = .ok (.aload 6, 2) := by decide +kernel
theorem dX10_row_14 : decode cX10_row 14 = .ok (.getfield 72, 3) := by decide +kernel
theorem dX10_row_17 : decode cX10_row 17 = .ok (.ifCond .ne 18, 3) := by decide +kernel
theorem dX10_row_20 : decode cX10_row 20 = .ok (.aload 6, 2) := by decide +kernel
theorem dX10_row_22 : decode cX10_row 22 = .ok (.getfield 75, 3) := by decide +kernel
theorem dX10_row_25 : decode cX10_row 25 = .ok (.ifCond .ne 10, 3) := by decide +kernel
theorem dX10_row_28 : decode cX10_row 28 = .ok (.iload_n 2, 1) := by decide +kernel
theorem dX10_row_29 : decode cX10_row 29 = .ok (.invokestatic 79, 3) := by decide +kernel
theorem dX10_row_32 : decode cX10_row 32 = .ok (.ifCond .ne 5, 3) := by decide +kernel
theorem dX10_row_35 : decode cX10_row 35 = .ok (.iconst (-1), 1) := by decide +kernel
theorem dX10_row_36 : decode cX10_row 36 = .ok (.ireturn, 1) := by decide +kernel
theorem dX10_row_37 : decode cX10_row 37 = .ok (.aload 6, 2) := by decide +kernel
theorem dX10_row_39 : decode cX10_row 39 = .ok (.iload_n 2, 1) := by decide +kernel
theorem dX10_row_40 : decode cX10_row 40 = .ok (.iload_n 3, 1) := by decide +kernel
theorem dX10_row_41 : decode cX10_row 41 = .ok (.iload 4, 2) := by decide +kernel
theorem dX10_row_43 : decode cX10_row 43 = .ok (.iload 5, 2) := by decide +kernel
theorem dX10_row_45 : decode cX10_row 45 = .ok (.invokevirtual 83, 3) := by decide +kernel
theorem dX10_row_48 : decode cX10_row 48 = .ok (.ifCond .eq 11, 3) := by decide +kernel
theorem dX10_row_51 : decode cX10_row 51 = .ok (.aload 6, 2) := by decide +kernel
theorem dX10_row_53 : decode cX10_row 53 = .ok (.getfield 87, 3) := by decide +kernel
theorem dX10_row_56 : decode cX10_row 56 = .ok (.goto 4, 3) := by decide +kernel
theorem dX10_row_59 : decode cX10_row 59 = .ok (.iconst (-1), 1) := by decide +kernel
theorem dX10_row_60 : decode cX10_row 60 = .ok (.ireturn, 1) := by decide +kernel
theorem dX10_delete_0 : decode cX10_delete 0 = .ok (.iload_n 2, 1) := by decide +kernel
theorem dX10_delete_1 : decode cX10_delete 1 = .ok (.invokestatic 79, 3) := by decide +kernel
theorem dX10_delete_4 : decode cX10_delete 4 = .ok (.ifCond .eq 22, 3) := by decide +kernel
theorem dX10_delete_7 : decode cX10_delete 7 = .ok (.iload_n 3, 1) := by decide +kernel
theorem dX10_delete_8 : decode cX10_delete 8 = .ok (.iload 4, 2) := by decide +kernel
theorem dX10_delete_10 : decode cX10_delete 10 = .ok (.invokestatic 90, 3) := by decide +kernel
theorem dX10_delete_13 : decode cX10_delete 13 = .ok (.ifCond .eq 13, 3) := by decide +kernel
theorem dX10_delete_16 : decode cX10_delete 16 = .ok (.aload_n 0, 1) := by decide +kernel
theorem dX10_delete_17 : decode cX10_delete 17 = .ok (.iload_n 1, 1) := by decide +kernel
theorem dX10_delete_18 : decode cX10_delete 18 = .ok (.iconst 1, 1) := by decide +kernel
theorem dX10_delete_19 : decode cX10_delete 19 = .ok (.iload_n 2, 1) := by decide +kernel
theorem dX10_delete_20 : decode cX10_delete 20 = .ok (.invokevirtual 64, 3) := by decide +kernel
theorem dX10_delete_23 : decode cX10_delete 23 = .ok (.ifCond .ne 5, 3) := by decide +kernel
theorem dX10_delete_26 : decode cX10_delete 26 = .ok (.iconst 0, 1) := by decide +kernel
theorem dX10_delete_27 : decode cX10_delete 27 = .ok (.ireturn, 1) := by decide +kernel
theorem dX10_delete_28 : decode cX10_delete 28 = .ok (.aload_n 0, 1) := by decide +kernel
theorem dX10_delete_29 : decode cX10_delete 29 = .ok (.iload_n 1, 1) := by decide +kernel
theorem dX10_delete_30 : decode cX10_delete 30 = .ok (.invokevirtual 68, 3) := by decide +kernel
theorem dX10_delete_33 : decode cX10_delete 33 = .ok (.astore 6, 2) := by decide +kernel
theorem dX10_delete_35 : decode cX10_delete 35 = .ok (.aload 6, 2) := by decide +kernel
theorem dX10_delete_37 : decode cX10_delete 37 = .ok (.ifnull 16, 3) := by decide +kernel
theorem dX10_delete_40 : decode cX10_delete 40 = .ok (.aload 6, 2) := by decide +kernel
theorem dX10_delete_42 : decode cX10_delete 42 = .ok (.getfield 94, 3) := by decide +kernel
theorem dX10_delete_45 : decode cX10_delete 45 = .ok (.iload_n 3, 1) := by decide +kernel
theorem dX10_delete_46 : decode cX10_delete 46 = .ok (.iload 4, 2) := by decide +kernel
theorem dX10_delete_48 : decode cX10_delete 48 = .ok (.iload 5, 2) := by decide +kernel
theorem dX10_delete_50 : decode cX10_delete 50 = .ok (.invokevirtual 97, 3) := by decide +kernel
theorem dX10_delete_53 : decode cX10_delete 53 = .ok (.iconst 1, 1) := by decide +kernel
theorem dX10_delete_54 : decode cX10_delete 54 = .ok (.ireturn, 1) := by decide +kernel
theorem dX10_compact_0 : decode cX10_compact 0 = .ok (.iload_n 2, 1) := by decide +kernel
theorem dX10_compact_1 : decode cX10_compact 1 = .ok (.invokestatic 79, 3) := by decide +kernel
theorem dX10_compact_4 : decode cX10_compact 4 = .ok (.ifCond .eq 17, 3) := by decide +kernel
theorem dX10_compact_7 : decode cX10_compact 7 = .ok (.aload_n 0, 1) := by decide +kernel
theorem dX10_compact_8 : decode cX10_compact 8 = .ok (.iload_n 1, 1) := by decide +kernel
theorem dX10_compact_9 : decode cX10_compact 9 = .ok (.iconst 2, 1) := by decide +kernel
theorem dX10_compact_10 : decode cX10_compact 10 = .ok (.iload_n 2, 1) := by decide +kernel
theorem dX10_compact_11 : decode cX10_compact 11 = .ok (.invokevirtual 64, 3) := by decide +kernel
theorem dX10_compact_14 : decode cX10_compact 14 = .ok (.ifCond .eq 7, 3) := by decide +kernel
theorem dX10_compact_17 : decode cX10_compact 17 = .ok (.iconst 1, 1) := by decide +kernel
theorem dX10_compact_18 : decode cX10_compact 18 = .ok (.goto 4, 3) := by decide +kernel
theorem dX10_compact_21 : decode cX10_compact 21 = .ok (.iconst 0, 1) := by decide +kernel
theorem dX10_compact_22 : decode cX10_compact 22 = .ok (.ireturn, 1) := by decide +kernel
theorem dX10_step_0 : decode cX10_step 0 = .ok (.aload_n 0, 1) := by decide +kernel
theorem dX10_step_1 : decode cX10_step 1 = .ok (.iload_n 1, 1) := by decide +kernel
theorem dX10_step_2 : decode cX10_step 2 = .ok (.invokevirtual 68, 3) := by decide +kernel
theorem dX10_step_5 : decode cX10_step 5 = .ok (.astore_n 2, 1) := by decide +kernel
theorem dX10_step_6 : decode cX10_step 6 = .ok (.aload_n 2, 1) := by decide +kernel
theorem dX10_step_7 : decode cX10_step 7 = .ok (.ifnonnull 5, 3) := by decide +kernel
theorem dX10_step_10 : decode cX10_step 10 = .ok (.iconst 0, 1) := by decide +kernel
theorem dX10_step_11 : decode cX10_step 11 = .ok (.ireturn, 1) := by decide +kernel
theorem dX10_step_12 : decode cX10_step 12 = .ok (.aload_n 2, 1) := by decide +kernel
theorem dX10_step_13 : decode cX10_step 13 = .ok (.getfield 75, 3) := by decide +kernel
theorem dX10_step_16 : decode cX10_step 16 = .ok (.ifCond .ne 9, 3) := by decide +kernel
theorem dX10_step_19 : decode cX10_step 19 = .ok (.aload_n 0, 1) := by decide +kernel
theorem dX10_step_20 : decode cX10_step 20 = .ok (.aload_n 2, 1) := by decide +kernel
theorem dX10_step_21 : decode cX10_step 21 = .ok (.invokevirtual 101, 3) := by decide +kernel
theorem dX10_step_24 : decode cX10_step 24 = .ok (.ireturn, 1) := by decide +kernel
theorem dX10_step_25 : decode cX10_step 25 = .ok (.aload_n 2, 1) := by decide +kernel
theorem dX10_step_26 : decode cX10_step 26 = .ok (.getfield 105, 3) := by decide +kernel
theorem dX10_step_29 : decode cX10_step 29 = .ok (.ifCond .eq 9, 3) := by decide +kernel
theorem dX10_step_32 : decode cX10_step 32 = .ok (.aload_n 0, 1) := by decide +kernel
theorem dX10_step_33 : decode cX10_step 33 = .ok (.aload_n 2, 1) := by decide +kernel
theorem dX10_step_34 : decode cX10_step 34 = .ok (.invokevirtual 108, 3) := by decide +kernel
theorem dX10_step_37 : decode cX10_step 37 = .ok (.ireturn, 1) := by decide +kernel
theorem dX10_step_38 : decode cX10_step 38 = .ok (.aload_n 2, 1) := by decide +kernel
theorem dX10_step_39 : decode cX10_step 39 = .ok (.getfield 111, 3) := by decide +kernel
theorem dX10_step_42 : decode cX10_step 42 = .ok (.invokevirtual 115, 3) := by decide +kernel
theorem dX10_step_45 : decode cX10_step 45 = .ok (.ifCond .le 11, 3) := by decide +kernel
theorem dX10_step_48 : decode cX10_step 48 = .ok (.aload_n 0, 1) := by decide +kernel
theorem dX10_step_49 : decode cX10_step 49 = .ok (.aload_n 2, 1) := by decide +kernel
theorem dX10_step_50 : decode cX10_step 50 = .ok (.invokevirtual 121, 3) := by decide +kernel
theorem dX10_step_53 : decode cX10_step 53 = .ok (.goto 8, 3) := by decide +kernel
theorem dX10_step_56 : decode cX10_step 56 = .ok (.aload_n 0, 1) := by decide +kernel
theorem dX10_step_57 : decode cX10_step 57 = .ok (.aload_n 2, 1) := by decide +kernel
theorem dX10_step_58 : decode cX10_step 58 = .ok (.invokevirtual 124, 3) := by decide +kernel
theorem dX10_step_61 : decode cX10_step 61 = .ok (.ireturn, 1) := by decide +kernel
theorem dX10_crash_0 : decode cX10_crash 0 = .ok (.aload_n 0, 1) := by decide +kernel
theorem dX10_crash_1 : decode cX10_crash 1 = .ok (.iload_n 1, 1) := by decide +kernel
theorem dX10_crash_2 : decode cX10_crash 2 = .ok (.invokevirtual 68, 3) := by decide +kernel
theorem dX10_crash_5 : decode cX10_crash 5 = .ok (.astore_n 2, 1) := by decide +kernel
theorem dX10_crash_6 : decode cX10_crash 6 = .ok (.aload_n 2, 1) := by decide +kernel
theorem dX10_crash_7 : decode cX10_crash 7 = .ok (.ifnonnull 5, 3) := by decide +kernel
theorem dX10_crash_10 : decode cX10_crash 10 = .ok (.iconst 0, 1) := by decide +kernel
theorem dX10_crash_11 : decode cX10_crash 11 = .ok (.ireturn, 1) := by decide +kernel
theorem dX10_crash_12 : decode cX10_crash 12 = .ok (.aload_n 2, 1) := by decide +kernel
theorem dX10_crash_13 : decode cX10_crash 13 = .ok (.iconst 0, 1) := by decide +kernel
theorem dX10_crash_14 : decode cX10_crash 14 = .ok (.putfield 127, 3) := by decide +kernel
theorem dX10_crash_17 : decode cX10_crash 17 = .ok (.iconst 1, 1) := by decide +kernel
theorem dX10_crash_18 : decode cX10_crash 18 = .ok (.ireturn, 1) := by decide +kernel
theorem dX10_writer_0 : decode cX10_writer 0 = .ok (.aload_n 0, 1) := by decide +kernel
theorem dX10_writer_1 : decode cX10_writer 1 = .ok (.iload_n 1, 1) := by decide +kernel
theorem dX10_writer_2 : decode cX10_writer 2 = .ok (.invokevirtual 130, 3) := by decide +kernel
theorem dX10_writer_5 : decode cX10_writer 5 = .ok (.astore_n 3, 1) := by decide +kernel
theorem dX10_writer_6 : decode cX10_writer 6 = .ok (.aload_n 3, 1) := by decide +kernel
theorem dX10_writer_7 : decode cX10_writer 7 = .ok (.ifnonnull 5, 3) := by decide +kernel
theorem dX10_writer_10 : decode cX10_writer 10 = .ok (.iconst (-1), 1) := by decide +kernel
theorem dX10_writer_11 : decode cX10_writer 11 = .ok (.ireturn, 1) := by decide +kernel
theorem dX10_writer_12 : decode cX10_writer 12 = .ok (.iload_n 2, 1) := by decide +kernel
theorem dX10_writer_13 : decode cX10_writer 13 = .ok (.tableswitch 95 0 6 #[43, 56, 61, 66, 74, 82, 90], 43) := by decide +kernel
theorem dX10_writer_56 : decode cX10_writer 56 = .ok (.aload_n 3, 1) := by decide +kernel
theorem dX10_writer_57 : decode cX10_writer 57 = .ok (.getfield 127, 3) := by decide +kernel
theorem dX10_writer_60 : decode cX10_writer 60 = .ok (.ifCond .eq 7, 3) := by decide +kernel
theorem dX10_writer_63 : decode cX10_writer 63 = .ok (.iconst 1, 1) := by decide +kernel
theorem dX10_writer_64 : decode cX10_writer 64 = .ok (.goto 4, 3) := by decide +kernel
theorem dX10_writer_67 : decode cX10_writer 67 = .ok (.iconst 0, 1) := by decide +kernel
theorem dX10_writer_68 : decode cX10_writer 68 = .ok (.ireturn, 1) := by decide +kernel
theorem dX10_writer_69 : decode cX10_writer 69 = .ok (.aload_n 3, 1) := by decide +kernel
theorem dX10_writer_70 : decode cX10_writer 70 = .ok (.getfield 133, 3) := by decide +kernel
theorem dX10_writer_73 : decode cX10_writer 73 = .ok (.ireturn, 1) := by decide +kernel
theorem dX10_writer_74 : decode cX10_writer 74 = .ok (.aload_n 3, 1) := by decide +kernel
theorem dX10_writer_75 : decode cX10_writer 75 = .ok (.getfield 136, 3) := by decide +kernel
theorem dX10_writer_78 : decode cX10_writer 78 = .ok (.ireturn, 1) := by decide +kernel
theorem dX10_writer_79 : decode cX10_writer 79 = .ok (.aload_n 3, 1) := by decide +kernel
theorem dX10_writer_80 : decode cX10_writer 80 = .ok (.getfield 111, 3) := by decide +kernel
theorem dX10_writer_83 : decode cX10_writer 83 = .ok (.getfield 139, 3) := by decide +kernel
theorem dX10_writer_86 : decode cX10_writer 86 = .ok (.ireturn, 1) := by decide +kernel
theorem dX10_writer_87 : decode cX10_writer 87 = .ok (.aload_n 3, 1) := by decide +kernel
theorem dX10_writer_88 : decode cX10_writer 88 = .ok (.getfield 111, 3) := by decide +kernel
theorem dX10_writer_91 : decode cX10_writer 91 = .ok (.invokevirtual 115, 3) := by decide +kernel
theorem dX10_writer_94 : decode cX10_writer 94 = .ok (.ireturn, 1) := by decide +kernel
theorem dX10_writer_95 : decode cX10_writer 95 = .ok (.aload_n 3, 1) := by decide +kernel
theorem dX10_writer_96 : decode cX10_writer 96 = .ok (.getfield 111, 3) := by decide +kernel
theorem dX10_writer_99 : decode cX10_writer 99 = .ok (.getfield 142, 3) := by decide +kernel
theorem dX10_writer_102 : decode cX10_writer 102 = .ok (.ireturn, 1) := by decide +kernel
theorem dX10_writer_103 : decode cX10_writer 103 = .ok (.aload_n 3, 1) := by decide +kernel
theorem dX10_writer_104 : decode cX10_writer 104 = .ok (.getfield 145, 3) := by decide +kernel
theorem dX10_writer_107 : decode cX10_writer 107 = .ok (.ireturn, 1) := by decide +kernel
theorem dX10_writer_108 : decode cX10_writer 108 = .ok (.iconst (-1), 1) := by decide +kernel
theorem dX10_writer_109 : decode cX10_writer 109 = .ok (.ireturn, 1) := by decide +kernel
theorem dX10_checkpoint_0 : decode cX10_checkpoint 0 = .ok (.iload_n 1, 1) := by decide +kernel
theorem dX10_checkpoint_1 : decode cX10_checkpoint 1 = .ok (.ifCond .lt 11, 3) := by decide +kernel
theorem dX10_checkpoint_4 : decode cX10_checkpoint 4 = .ok (.iload_n 1, 1) := by decide +kernel
theorem dX10_checkpoint_5 : decode cX10_checkpoint 5 = .ok (.aload_n 0, 1) := by decide +kernel
theorem dX10_checkpoint_6 : decode cX10_checkpoint 6 = .ok (.invokevirtual 148, 3) := by decide +kernel
theorem dX10_checkpoint_9 : decode cX10_checkpoint 9 = .ok (.if_icmp .le 5, 3) := by decide +kernel
theorem dX10_checkpoint_12 : decode cX10_checkpoint 12 = .ok (.iconst (-1), 1) := by decide +kernel
theorem dX10_checkpoint_13 : decode cX10_checkpoint 13 = .ok (.ireturn, 1) := by decide +kernel
theorem dX10_checkpoint_14 : decode cX10_checkpoint 14 = .ok (.aload_n 0, 1) := by decide +kernel
theorem dX10_checkpoint_15 : decode cX10_checkpoint 15 = .ok (.getfield 14, 3) := by decide +kernel
theorem dX10_checkpoint_18 : decode cX10_checkpoint 18 = .ok (.iconst 2, 1) := by decide +kernel
theorem dX10_checkpoint_19 : decode cX10_checkpoint 19 = .ok (.iload_n 1, 1) := by decide +kernel
theorem dX10_checkpoint_20 : decode cX10_checkpoint 20 = .ok (.invokevirtual 151, 3) := by decide +kernel
theorem dX10_checkpoint_23 : decode cX10_checkpoint 23 = .ok (.ifnull 5, 3) := by decide +kernel
theorem dX10_checkpoint_26 : decode cX10_checkpoint 26 = .ok (.iconst 0, 1) := by decide +kernel
theorem dX10_checkpoint_27 : decode cX10_checkpoint 27 = .ok (.ireturn, 1) := by decide +kernel
theorem dX10_checkpoint_28 : decode cX10_checkpoint 28 = .ok (.aload_n 0, 1) := by decide +kernel
theorem dX10_checkpoint_29 : decode cX10_checkpoint 29 = .ok (.iload_n 1, 1) := by decide +kernel
theorem dX10_checkpoint_30 : decode cX10_checkpoint 30 = .ok (.aload_n 0, 1) := by decide +kernel
theorem dX10_checkpoint_31 : decode cX10_checkpoint 31 = .ok (.getfield 36, 3) := by decide +kernel
theorem dX10_checkpoint_34 : decode cX10_checkpoint 34 = .ok (.invokevirtual 155, 3) := by decide +kernel
theorem dX10_checkpoint_37 : decode cX10_checkpoint 37 = .ok (.ifCond .ne 5, 3) := by decide +kernel
theorem dX10_checkpoint_40 : decode cX10_checkpoint 40 = .ok (.iconst (-1), 1) := by decide +kernel
theorem dX10_checkpoint_41 : decode cX10_checkpoint 41 = .ok (.ireturn, 1) := by decide +kernel
theorem dX10_checkpoint_42 : decode cX10_checkpoint 42 = .ok (.aload_n 0, 1) := by decide +kernel
theorem dX10_checkpoint_43 : decode cX10_checkpoint 43 = .ok (.iload_n 1, 1) := by decide +kernel
theorem dX10_checkpoint_44 : decode cX10_checkpoint 44 = .ok (.invokevirtual 159, 3) := by decide +kernel
theorem dX10_checkpoint_47 : decode cX10_checkpoint 47 = .ok (.ifCond .eq 7, 3) := by decide +kernel
theorem dX10_checkpoint_50 : decode cX10_checkpoint 50 = .ok (.iconst 1, 1) := by decide +kernel
theorem dX10_checkpoint_51 : decode cX10_checkpoint 51 = .ok (.goto 5, 3) := by decide +kernel
theorem dX10_checkpoint_54 : decode cX10_checkpoint 54 = .ok (.bipush (-2), 2) := by decide +kernel
theorem dX10_checkpoint_56 : decode cX10_checkpoint 56 = .ok (.ireturn, 1) := by decide +kernel
theorem dX10_vacuum_0 : decode cX10_vacuum 0 = .ok (.aload_n 0, 1) := by decide +kernel
theorem dX10_vacuum_1 : decode cX10_vacuum 1 = .ok (.invokevirtual 148, 3) := by decide +kernel
theorem dX10_vacuum_4 : decode cX10_vacuum 4 = .ok (.istore_n 2, 1) := by decide +kernel
theorem dX10_vacuum_5 : decode cX10_vacuum 5 = .ok (.iload_n 1, 1) := by decide +kernel
theorem dX10_vacuum_6 : decode cX10_vacuum 6 = .ok (.ifCond .lt 15, 3) := by decide +kernel
theorem dX10_vacuum_9 : decode cX10_vacuum 9 = .ok (.iload_n 1, 1) := by decide +kernel
theorem dX10_vacuum_10 : decode cX10_vacuum 10 = .ok (.sipush 1000, 3) := by decide +kernel
theorem dX10_vacuum_13 : decode cX10_vacuum 13 = .ok (.if_icmp .gt 8, 3) := by decide +kernel
theorem dX10_vacuum_16 : decode cX10_vacuum 16 = .ok (.iload_n 2, 1) := by decide +kernel
theorem dX10_vacuum_17 : decode cX10_vacuum 17 = .ok (.iconst (-1), 1) := by decide +kernel
theorem dX10_vacuum_18 : decode cX10_vacuum 18 = .ok (.if_icmp .ne 5, 3) := by decide +kernel
theorem dX10_vacuum_21 : decode cX10_vacuum 21 = .ok (.iconst (-1), 1) := by decide +kernel
theorem dX10_vacuum_22 : decode cX10_vacuum 22 = .ok (.ireturn, 1) := by decide +kernel
theorem dX10_vacuum_23 : decode cX10_vacuum 23 = .ok (.aload_n 0, 1) := by decide +kernel
theorem dX10_vacuum_24 : decode cX10_vacuum 24 = .ok (.getfield 162, 3) := by decide +kernel
theorem dX10_vacuum_27 : decode cX10_vacuum 27 = .ok (.iload_n 2, 1) := by decide +kernel
theorem dX10_vacuum_28 : decode cX10_vacuum 28 = .ok (.iload_n 1, 1) := by decide +kernel
theorem dX10_vacuum_29 : decode cX10_vacuum 29 = .ok (.isub, 1) := by decide +kernel
theorem dX10_vacuum_30 : decode cX10_vacuum 30 = .ok (.invokestatic 165, 3) := by decide +kernel
theorem dX10_vacuum_33 : decode cX10_vacuum 33 = .ok (.istore_n 3, 1) := by decide +kernel
theorem dX10_vacuum_34 : decode cX10_vacuum 34 = .ok (.aload_n 0, 1) := by decide +kernel
theorem dX10_vacuum_35 : decode cX10_vacuum 35 = .ok (.iload_n 3, 1) := by decide +kernel
theorem dX10_vacuum_36 : decode cX10_vacuum 36 = .ok (.iload_n 2, 1) := by decide +kernel
theorem dX10_vacuum_37 : decode cX10_vacuum 37 = .ok (.invokevirtual 171, 3) := by decide +kernel
theorem dX10_vacuum_40 : decode cX10_vacuum 40 = .ok (.ifCond .eq 11, 3) := by decide +kernel
theorem dX10_vacuum_43 : decode cX10_vacuum 43 = .ok (.aload_n 0, 1) := by decide +kernel
theorem dX10_vacuum_44 : decode cX10_vacuum 44 = .ok (.iload_n 3, 1) := by decide +kernel
theorem dX10_vacuum_45 : decode cX10_vacuum 45 = .ok (.invokevirtual 174, 3) := by decide +kernel
theorem dX10_vacuum_48 : decode cX10_vacuum 48 = .ok (.ifCond .ne 5, 3) := by decide +kernel
theorem dX10_vacuum_51 : decode cX10_vacuum 51 = .ok (.iconst (-1), 1) := by decide +kernel
theorem dX10_vacuum_52 : decode cX10_vacuum 52 = .ok (.ireturn, 1) := by decide +kernel
theorem dX10_vacuum_53 : decode cX10_vacuum 53 = .ok (.aload_n 0, 1) := by decide +kernel
theorem dX10_vacuum_54 : decode cX10_vacuum 54 = .ok (.invokevirtual 177, 3) := by decide +kernel
theorem dX10_vacuum_57 : decode cX10_vacuum 57 = .ok (.iconst 0, 1) := by decide +kernel
theorem dX10_vacuum_58 : decode cX10_vacuum 58 = .ok (.istore 4, 2) := by decide +kernel
theorem dX10_vacuum_60 : decode cX10_vacuum 60 = .ok (.aload_n 0, 1) := by decide +kernel
theorem dX10_vacuum_61 : decode cX10_vacuum 61 = .ok (.getfield 14, 3) := by decide +kernel
theorem dX10_vacuum_64 : decode cX10_vacuum 64 = .ok (.iconst 2, 1) := by decide +kernel
theorem dX10_vacuum_65 : decode cX10_vacuum 65 = .ok (.iload_n 3, 1) := by decide +kernel
theorem dX10_vacuum_66 : decode cX10_vacuum 66 = .ok (.invokevirtual 180, 3) := by decide +kernel
theorem dX10_vacuum_69 : decode cX10_vacuum 69 = .ok (.ifnull 50, 3) := by decide +kernel
theorem dX10_vacuum_72 : decode cX10_vacuum 72 = .ok (.aload_n 0, 1) := by decide +kernel
theorem dX10_vacuum_73 : decode cX10_vacuum 73 = .ok (.iload_n 3, 1) := by decide +kernel
theorem dX10_vacuum_74 : decode cX10_vacuum 74 = .ok (.putfield 162, 3) := by decide +kernel
theorem dX10_vacuum_77 : decode cX10_vacuum 77 = .ok (.iload 4, 2) := by decide +kernel
theorem dX10_vacuum_79 : decode cX10_vacuum 79 = .ok (.aload_n 0, 1) := by decide +kernel
theorem dX10_vacuum_80 : decode cX10_vacuum 80 = .ok (.getfield 14, 3) := by decide +kernel
theorem dX10_vacuum_83 : decode cX10_vacuum 83 = .ok (.getfield 183, 3) := by decide +kernel
theorem dX10_vacuum_86 : decode cX10_vacuum 86 = .ok (.iload_n 3, 1) := by decide +kernel
theorem dX10_vacuum_87 : decode cX10_vacuum 87 = .ok (.invokevirtual 187, 3) := by decide +kernel
theorem dX10_vacuum_90 : decode cX10_vacuum 90 = .ok (.iadd, 1) := by decide +kernel
theorem dX10_vacuum_91 : decode cX10_vacuum 91 = .ok (.istore 4, 2) := by decide +kernel
theorem dX10_vacuum_93 : decode cX10_vacuum 93 = .ok (.iload 4, 2) := by decide +kernel
theorem dX10_vacuum_95 : decode cX10_vacuum 95 = .ok (.aload_n 0, 1) := by decide +kernel
theorem dX10_vacuum_96 : decode cX10_vacuum 96 = .ok (.getfield 14, 3) := by decide +kernel
theorem dX10_vacuum_99 : decode cX10_vacuum 99 = .ok (.getfield 193, 3) := by decide +kernel
theorem dX10_vacuum_102 : decode cX10_vacuum 102 = .ok (.iload_n 3, 1) := by decide +kernel
theorem dX10_vacuum_103 : decode cX10_vacuum 103 = .ok (.aload_n 0, 1) := by decide +kernel
theorem dX10_vacuum_104 : decode cX10_vacuum 104 = .ok (.iload_n 3, 1) := by decide +kernel
theorem dX10_vacuum_105 : decode cX10_vacuum 105 = .ok (.invokevirtual 196, 3) := by decide +kernel
theorem dX10_vacuum_108 : decode cX10_vacuum 108 = .ok (.iconst 1, 1) := by decide +kernel
theorem dX10_vacuum_109 : decode cX10_vacuum 109 = .ok (.iadd, 1) := by decide +kernel
theorem dX10_vacuum_110 : decode cX10_vacuum 110 = .ok (.invokestatic 199, 3) := by decide +kernel
theorem dX10_vacuum_113 : decode cX10_vacuum 113 = .ok (.invokevirtual 187, 3) := by decide +kernel
theorem dX10_vacuum_116 : decode cX10_vacuum 116 = .ok (.iadd, 1) := by decide +kernel
theorem dX10_vacuum_117 : decode cX10_vacuum 117 = .ok (.istore 4, 2) := by decide +kernel
theorem dX10_vacuum_119 : decode cX10_vacuum 119 = .ok (.iload 4, 2) := by decide +kernel
theorem dX10_vacuum_121 : decode cX10_vacuum 121 = .ok (.aload_n 0, 1) := by decide +kernel
theorem dX10_vacuum_122 : decode cX10_vacuum 122 = .ok (.getfield 14, 3) := by decide +kernel
theorem dX10_vacuum_125 : decode cX10_vacuum 125 = .ok (.getfield 202, 3) := by decide +kernel
theorem dX10_vacuum_128 : decode cX10_vacuum 128 = .ok (.invokevirtual 205, 3) := by decide +kernel
theorem dX10_vacuum_131 : decode cX10_vacuum 131 = .ok (.iadd, 1) := by decide +kernel
theorem dX10_vacuum_132 : decode cX10_vacuum 132 = .ok (.istore 4, 2) := by decide +kernel
theorem dX10_vacuum_134 : decode cX10_vacuum 134 = .ok (.aload_n 0, 1) := by decide +kernel
theorem dX10_vacuum_135 : decode cX10_vacuum 135 = .ok (.dup, 1) := by decide +kernel
theorem dX10_vacuum_136 : decode cX10_vacuum 136 = .ok (.getfield 208, 3) := by decide +kernel
theorem dX10_vacuum_139 : decode cX10_vacuum 139 = .ok (.iload 4, 2) := by decide +kernel
theorem dX10_vacuum_141 : decode cX10_vacuum 141 = .ok (.iadd, 1) := by decide +kernel
theorem dX10_vacuum_142 : decode cX10_vacuum 142 = .ok (.putfield 208, 3) := by decide +kernel
theorem dX10_vacuum_145 : decode cX10_vacuum 145 = .ok (.iload 4, 2) := by decide +kernel
theorem dX10_vacuum_147 : decode cX10_vacuum 147 = .ok (.ireturn, 1) := by decide +kernel
theorem dX10_latest_0 : decode cX10_latest 0 = .ok (.aload_n 0, 1) := by decide +kernel
theorem dX10_latest_1 : decode cX10_latest 1 = .ok (.getfield 14, 3) := by decide +kernel
theorem dX10_latest_4 : decode cX10_latest 4 = .ok (.getfield 193, 3) := by decide +kernel
theorem dX10_latest_7 : decode cX10_latest 7 = .ok (.aload_n 0, 1) := by decide +kernel
theorem dX10_latest_8 : decode cX10_latest 8 = .ok (.getfield 14, 3) := by decide +kernel
theorem dX10_latest_11 : decode cX10_latest 11 = .ok (.getfield 193, 3) := by decide +kernel
theorem dX10_latest_14 : decode cX10_latest 14 = .ok (.invokevirtual 211, 3) := by decide +kernel
theorem dX10_latest_17 : decode cX10_latest 17 = .ok (.iconst 1, 1) := by decide +kernel
theorem dX10_latest_18 : decode cX10_latest 18 = .ok (.isub, 1) := by decide +kernel
theorem dX10_latest_19 : decode cX10_latest 19 = .ok (.invokevirtual 214, 3) := by decide +kernel
theorem dX10_latest_22 : decode cX10_latest 22 = .ok (.astore_n 1, 1) := by decide +kernel
theorem dX10_latest_23 : decode cX10_latest 23 = .ok (.aload_n 1, 1) := by decide +kernel
theorem dX10_latest_24 : decode cX10_latest 24 = .ok (.ifnonnull 7, 3) := by decide +kernel
theorem dX10_latest_27 : decode cX10_latest 27 = .ok (.iconst (-1), 1) := by decide +kernel
theorem dX10_latest_28 : decode cX10_latest 28 = .ok (.goto 7, 3) := by decide +kernel
theorem dX10_latest_31 : decode cX10_latest 31 = .ok (.aload_n 1, 1) := by decide +kernel
theorem dX10_latest_32 : decode cX10_latest 32 = .ok (.getfield 218, 3) := by decide +kernel
theorem dX10_latest_35 : decode cX10_latest 35 = .ok (.ireturn, 1) := by decide +kernel
theorem dX10_files_0 : decode cX10_files 0 = .ok (.aload_n 0, 1) := by decide +kernel
theorem dX10_files_1 : decode cX10_files 1 = .ok (.iload_n 1, 1) := by decide +kernel
theorem dX10_files_2 : decode cX10_files 2 = .ok (.aload_n 0, 1) := by decide +kernel
theorem dX10_files_3 : decode cX10_files 3 = .ok (.getfield 36, 3) := by decide +kernel
theorem dX10_files_6 : decode cX10_files 6 = .ok (.invokevirtual 155, 3) := by decide +kernel
theorem dX10_files_9 : decode cX10_files 9 = .ok (.ifCond .eq 13, 3) := by decide +kernel
theorem dX10_files_12 : decode cX10_files 12 = .ok (.aload_n 0, 1) := by decide +kernel
theorem dX10_files_13 : decode cX10_files 13 = .ok (.getfield 36, 3) := by decide +kernel
theorem dX10_files_16 : decode cX10_files 16 = .ok (.getfield 223, 3) := by decide +kernel
theorem dX10_files_19 : decode cX10_files 19 = .ok (.goto 4, 3) := by decide +kernel
theorem dX10_files_22 : decode cX10_files 22 = .ok (.iconst (-1), 1) := by decide +kernel
theorem dX10_files_23 : decode cX10_files 23 = .ok (.ireturn, 1) := by decide +kernel
theorem dX10_file_0 : decode cX10_file 0 = .ok (.aload_n 0, 1) := by decide +kernel
theorem dX10_file_1 : decode cX10_file 1 = .ok (.iload_n 1, 1) := by decide +kernel
theorem dX10_file_2 : decode cX10_file 2 = .ok (.aload_n 0, 1) := by decide +kernel
theorem dX10_file_3 : decode cX10_file 3 = .ok (.getfield 36, 3) := by decide +kernel
theorem dX10_file_6 : decode cX10_file 6 = .ok (.invokevirtual 155, 3) := by decide +kernel
theorem dX10_file_9 : decode cX10_file 9 = .ok (.ifCond .eq 14, 3) := by decide +kernel
theorem dX10_file_12 : decode cX10_file 12 = .ok (.aload_n 0, 1) := by decide +kernel
theorem dX10_file_13 : decode cX10_file 13 = .ok (.getfield 36, 3) := by decide +kernel
theorem dX10_file_16 : decode cX10_file 16 = .ok (.iload_n 2, 1) := by decide +kernel
theorem dX10_file_17 : decode cX10_file 17 = .ok (.invokevirtual 225, 3) := by decide +kernel
theorem dX10_file_20 : decode cX10_file 20 = .ok (.goto 4, 3) := by decide +kernel
theorem dX10_file_23 : decode cX10_file 23 = .ok (.iconst (-1), 1) := by decide +kernel
theorem dX10_file_24 : decode cX10_file 24 = .ok (.ireturn, 1) := by decide +kernel
theorem dX10_at_0 : decode cX10_at 0 = .ok (.iload_n 2, 1) := by decide +kernel
theorem dX10_at_1 : decode cX10_at 1 = .ok (.ifCond .lt 24, 3) := by decide +kernel
theorem dX10_at_4 : decode cX10_at 4 = .ok (.iload_n 3, 1) := by decide +kernel
theorem dX10_at_5 : decode cX10_at 5 = .ok (.ifCond .lt 20, 3) := by decide +kernel
theorem dX10_at_8 : decode cX10_at 8 = .ok (.iload_n 3, 1) := by decide +kernel
theorem dX10_at_9 : decode cX10_at 9 = .ok (.iconst 3, 1) := by decide +kernel
theorem dX10_at_10 : decode cX10_at 10 = .ok (.if_icmp .gt 15, 3) := by decide +kernel
theorem dX10_at_13 : decode cX10_at 13 = .ok (.aload_n 0, 1) := by decide +kernel
theorem dX10_at_14 : decode cX10_at 14 = .ok (.iload_n 1, 1) := by decide +kernel
theorem dX10_at_15 : decode cX10_at 15 = .ok (.aload_n 0, 1) := by decide +kernel
theorem dX10_at_16 : decode cX10_at 16 = .ok (.getfield 36, 3) := by decide +kernel
theorem dX10_at_19 : decode cX10_at 19 = .ok (.invokevirtual 155, 3) := by decide +kernel
theorem dX10_at_22 : decode cX10_at 22 = .ok (.ifCond .ne 5, 3) := by decide +kernel
theorem dX10_at_25 : decode cX10_at 25 = .ok (.iconst (-1), 1) := by decide +kernel
theorem dX10_at_26 : decode cX10_at 26 = .ok (.ireturn, 1) := by decide +kernel
theorem dX10_at_27 : decode cX10_at 27 = .ok (.iload_n 2, 1) := by decide +kernel
theorem dX10_at_28 : decode cX10_at 28 = .ok (.istore 4, 2) := by decide +kernel
theorem dX10_at_30 : decode cX10_at 30 = .ok (.iconst 0, 1) := by decide +kernel
theorem dX10_at_31 : decode cX10_at 31 = .ok (.istore 5, 2) := by decide +kernel
theorem dX10_at_33 : decode cX10_at 33 = .ok (.iload 5, 2) := by decide +kernel
theorem dX10_at_35 : decode cX10_at 35 = .ok (.aload_n 0, 1) := by decide +kernel
theorem dX10_at_36 : decode cX10_at 36 = .ok (.getfield 36, 3) := by decide +kernel
theorem dX10_at_39 : decode cX10_at 39 = .ok (.getfield 223, 3) := by decide +kernel
theorem dX10_at_42 : decode cX10_at 42 = .ok (.if_icmp .ge 93, 3) := by decide +kernel
theorem dX10_at_45 : decode cX10_at 45 = .ok (.aload_n 0, 1) := by decide +kernel
theorem dX10_at_46 : decode cX10_at 46 = .ok (.getfield 14, 3) := by decide +kernel
theorem dX10_at_49 : decode cX10_at 49 = .ok (.aload_n 0, 1) := by decide +kernel
theorem dX10_at_50 : decode cX10_at 50 = .ok (.getfield 36, 3) := by decide +kernel
theorem dX10_at_53 : decode cX10_at 53 = .ok (.iload 5, 2) := by decide +kernel
theorem dX10_at_55 : decode cX10_at 55 = .ok (.invokevirtual 225, 3) := by decide +kernel
theorem dX10_at_58 : decode cX10_at 58 = .ok (.aload_n 0, 1) := by decide +kernel
theorem dX10_at_59 : decode cX10_at 59 = .ok (.getfield 36, 3) := by decide +kernel
theorem dX10_at_62 : decode cX10_at 62 = .ok (.iload 5, 2) := by decide +kernel
theorem dX10_at_64 : decode cX10_at 64 = .ok (.invokevirtual 228, 3) := by decide +kernel
theorem dX10_at_67 : decode cX10_at 67 = .ok (.invokevirtual 231, 3) := by decide +kernel
theorem dX10_at_70 : decode cX10_at 70 = .ok (.astore 6, 2) := by decide +kernel
theorem dX10_at_72 : decode cX10_at 72 = .ok (.aload 6, 2) := by decide +kernel
theorem dX10_at_74 : decode cX10_at 74 = .ok (.ifnull 36, 3) := by decide +kernel
theorem dX10_at_77 : decode cX10_at 77 = .ok (.iload 4, 2) := by decide +kernel
theorem dX10_at_79 : decode cX10_at 79 = .ok (.aload 6, 2) := by decide +kernel
theorem dX10_at_81 : decode cX10_at 81 = .ok (.getfield 235, 3) := by decide +kernel
theorem dX10_at_84 : decode cX10_at 84 = .ok (.if_icmp .ge 26, 3) := by decide +kernel
theorem dX10_at_87 : decode cX10_at 87 = .ok (.iload_n 3, 1) := by decide +kernel
theorem dX10_at_88 : decode cX10_at 88 = .ok (.ifCond .ne 11, 3) := by decide +kernel
theorem dX10_at_91 : decode cX10_at 91 = .ok (.aload 6, 2) := by decide +kernel
theorem dX10_at_93 : decode cX10_at 93 = .ok (.getfield 236, 3) := by decide +kernel
theorem dX10_at_96 : decode cX10_at 96 = .ok (.goto 13, 3) := by decide +kernel
theorem dX10_at_99 : decode cX10_at 99 = .ok (.aload 6, 2) := by decide +kernel
theorem dX10_at_101 : decode cX10_at 101 = .ok (.iload_n 3, 1) := by decide +kernel
theorem dX10_at_102 : decode cX10_at 102 = .ok (.iconst 1, 1) := by decide +kernel
theorem dX10_at_103 : decode cX10_at 103 = .ok (.isub, 1) := by decide +kernel
theorem dX10_at_104 : decode cX10_at 104 = .ok (.iload 4, 2) := by decide +kernel
theorem dX10_at_106 : decode cX10_at 106 = .ok (.invokevirtual 239, 3) := by decide +kernel
theorem dX10_at_109 : decode cX10_at 109 = .ok (.ireturn, 1) := by decide +kernel
theorem dX10_at_110 : decode cX10_at 110 = .ok (.iload 4, 2) := by decide +kernel
theorem dX10_at_112 : decode cX10_at 112 = .ok (.aload 6, 2) := by decide +kernel
theorem dX10_at_114 : decode cX10_at 114 = .ok (.ifnonnull 7, 3) := by decide +kernel
theorem dX10_at_117 : decode cX10_at 117 = .ok (.iconst 0, 1) := by decide +kernel
theorem dX10_at_118 : decode cX10_at 118 = .ok (.goto 8, 3) := by decide +kernel
theorem dX10_at_121 : decode cX10_at 121 = .ok (.aload 6, 2) := by decide +kernel
theorem dX10_at_123 : decode cX10_at 123 = .ok (.getfield 235, 3) := by decide +kernel
theorem dX10_at_126 : decode cX10_at 126 = .ok (.isub, 1) := by decide +kernel
theorem dX10_at_127 : decode cX10_at 127 = .ok (.istore 4, 2) := by decide +kernel
theorem dX10_at_129 : decode cX10_at 129 = .ok (.iinc 5 1, 3) := by decide +kernel
theorem dX10_at_132 : decode cX10_at 132 = .ok (.goto (-99), 3) := by decide +kernel
theorem dX10_at_135 : decode cX10_at 135 = .ok (.iconst (-1), 1) := by decide +kernel
theorem dX10_at_136 : decode cX10_at 136 = .ok (.ireturn, 1) := by decide +kernel
theorem dX10_find_0 : decode cX10_find 0 = .ok (.iload_n 2, 1) := by decide +kernel
theorem dX10_find_1 : decode cX10_find 1 = .ok (.iload_n 3, 1) := by decide +kernel
theorem dX10_find_2 : decode cX10_find 2 = .ok (.invokestatic 90, 3) := by decide +kernel
theorem dX10_find_5 : decode cX10_find 5 = .ok (.ifCond .eq 15, 3) := by decide +kernel
theorem dX10_find_8 : decode cX10_find 8 = .ok (.aload_n 0, 1) := by decide +kernel
theorem dX10_find_9 : decode cX10_find 9 = .ok (.iload_n 1, 1) := by decide +kernel
theorem dX10_find_10 : decode cX10_find 10 = .ok (.aload_n 0, 1) := by decide +kernel
theorem dX10_find_11 : decode cX10_find 11 = .ok (.getfield 36, 3) := by decide +kernel
theorem dX10_find_14 : decode cX10_find 14 = .ok (.invokevirtual 155, 3) := by decide +kernel
theorem dX10_find_17 : decode cX10_find 17 = .ok (.ifCond .ne 5, 3) := by decide +kernel
theorem dX10_find_20 : decode cX10_find 20 = .ok (.iconst (-1), 1) := by decide +kernel
theorem dX10_find_21 : decode cX10_find 21 = .ok (.ireturn, 1) := by decide +kernel
theorem dX10_find_22 : decode cX10_find 22 = .ok (.aload_n 0, 1) := by decide +kernel
theorem dX10_find_23 : decode cX10_find 23 = .ok (.getfield 43, 3) := by decide +kernel
theorem dX10_find_26 : decode cX10_find 26 = .ok (.iload_n 2, 1) := by decide +kernel
theorem dX10_find_27 : decode cX10_find 27 = .ok (.iload_n 3, 1) := by decide +kernel
theorem dX10_find_28 : decode cX10_find 28 = .ok (.iload 4, 2) := by decide +kernel
theorem dX10_find_30 : decode cX10_find 30 = .ok (.invokevirtual 97, 3) := by decide +kernel
theorem dX10_find_33 : decode cX10_find 33 = .ok (.aload_n 0, 1) := by decide +kernel
theorem dX10_find_34 : decode cX10_find 34 = .ok (.getfield 29, 3) := by decide +kernel
theorem dX10_find_37 : decode cX10_find 37 = .ok (.iconst 0, 1) := by decide +kernel
theorem dX10_find_38 : decode cX10_find 38 = .ok (.invokestatic 242, 3) := by decide +kernel
theorem dX10_find_41 : decode cX10_find 41 = .ok (.iconst 0, 1) := by decide +kernel
theorem dX10_find_42 : decode cX10_find 42 = .ok (.istore 5, 2) := by decide +kernel
theorem dX10_find_44 : decode cX10_find 44 = .ok (.iconst 0, 1) := by decide +kernel
theorem dX10_find_45 : decode cX10_find 45 = .ok (.istore 6, 2) := by decide +kernel
theorem dX10_find_47 : decode cX10_find 47 = .ok (.iload 6, 2) := by decide +kernel
theorem dX10_find_49 : decode cX10_find 49 = .ok (.aload_n 0, 1) := by decide +kernel
theorem dX10_find_50 : decode cX10_find 50 = .ok (.getfield 36, 3) := by decide +kernel
theorem dX10_find_53 : decode cX10_find 53 = .ok (.getfield 223, 3) := by decide +kernel
theorem dX10_find_56 : decode cX10_find 56 = .ok (.if_icmp .ge 121, 3) := by decide +kernel
theorem dX10_find_59 : decode cX10_find 59 = .ok (.aload_n 0, 1) := by decide +kernel
theorem dX10_find_60 : decode cX10_find 60 = .ok (.getfield 14, 3) := by decide +kernel
theorem dX10_find_63 : decode cX10_find 63 = .ok (.aload_n 0, 1) := by decide +kernel
theorem dX10_find_64 : decode cX10_find 64 = .ok (.getfield 36, 3) := by decide +kernel
theorem dX10_find_67 : decode cX10_find 67 = .ok (.iload 6, 2) := by decide +kernel
theorem dX10_find_69 : decode cX10_find 69 = .ok (.invokevirtual 225, 3) := by decide +kernel
theorem dX10_find_72 : decode cX10_find 72 = .ok (.aload_n 0, 1) := by decide +kernel
theorem dX10_find_73 : decode cX10_find 73 = .ok (.getfield 36, 3) := by decide +kernel
theorem dX10_find_76 : decode cX10_find 76 = .ok (.iload 6, 2) := by decide +kernel
theorem dX10_find_78 : decode cX10_find 78 = .ok (.invokevirtual 228, 3) := by decide +kernel
theorem dX10_find_81 : decode cX10_find 81 = .ok (.invokevirtual 231, 3) := by decide +kernel
theorem dX10_find_84 : decode cX10_find 84 = .ok (.astore 7, 2) := by decide +kernel
theorem dX10_find_86 : decode cX10_find 86 = .ok (.aload 7, 2) := by decide +kernel
theorem dX10_find_88 : decode cX10_find 88 = .ok (.ifnonnull 16, 3) := by decide +kernel
theorem dX10_find_91 : decode cX10_find 91 = .ok (.aload_n 0, 1) := by decide +kernel
theorem dX10_find_92 : decode cX10_find 92 = .ok (.getfield 29, 3) := by decide +kernel
theorem dX10_find_95 : decode cX10_find 95 = .ok (.iconst 2, 1) := by decide +kernel
theorem dX10_find_96 : decode cX10_find 96 = .ok (.dup2, 1) := by decide +kernel
theorem dX10_find_97 : decode cX10_find 97 = .ok (.iaload, 1) := by decide +kernel
theorem dX10_find_98 : decode cX10_find 98 = .ok (.iconst 1, 1) := by decide +kernel
theorem dX10_find_99 : decode cX10_find 99 = .ok (.iadd, 1) := by decide +kernel
theorem dX10_find_100 : decode cX10_find 100 = .ok (.iastore, 1) := by decide +kernel
theorem dX10_find_101 : decode cX10_find 101 = .ok (.goto 70, 3) := by decide +kernel
theorem dX10_find_104 : decode cX10_find 104 = .ok (.aload_n 0, 1) := by decide +kernel
theorem dX10_find_105 : decode cX10_find 105 = .ok (.getfield 43, 3) := by decide +kernel
theorem dX10_find_108 : decode cX10_find 108 = .ok (.aload 7, 2) := by decide +kernel
theorem dX10_find_110 : decode cX10_find 110 = .ok (.invokevirtual 248, 3) := by decide +kernel
theorem dX10_find_113 : decode cX10_find 113 = .ok (.ifCond .ne 16, 3) := by decide +kernel
theorem dX10_find_116 : decode cX10_find 116 = .ok (.aload_n 0, 1) := by decide +kernel
theorem dX10_find_117 : decode cX10_find 117 = .ok (.getfield 29, 3) := by decide +kernel
theorem dX10_find_120 : decode cX10_find 120 = .ok (.iconst 1, 1) := by decide +kernel
theorem dX10_find_121 : decode cX10_find 121 = .ok (.dup2, 1) := by decide +kernel
theorem dX10_find_122 : decode cX10_find 122 = .ok (.iaload, 1) := by decide +kernel
theorem dX10_find_123 : decode cX10_find 123 = .ok (.iconst 1, 1) := by decide +kernel
theorem dX10_find_124 : decode cX10_find 124 = .ok (.iadd, 1) := by decide +kernel
theorem dX10_find_125 : decode cX10_find 125 = .ok (.iastore, 1) := by decide +kernel
theorem dX10_find_126 : decode cX10_find 126 = .ok (.goto 45, 3) := by decide +kernel
theorem dX10_find_129 : decode cX10_find 129 = .ok (.aload_n 0, 1) := by decide +kernel
theorem dX10_find_130 : decode cX10_find 130 = .ok (.getfield 29, 3) := by decide +kernel
theorem dX10_find_133 : decode cX10_find 133 = .ok (.iconst 0, 1) := by decide +kernel
theorem dX10_find_134 : decode cX10_find 134 = .ok (.dup2, 1) := by decide +kernel
theorem dX10_find_135 : decode cX10_find 135 = .ok (.iaload, 1) := by decide +kernel
theorem dX10_find_136 : decode cX10_find 136 = .ok (.iconst 1, 1) := by decide +kernel
theorem dX10_find_137 : decode cX10_find 137 = .ok (.iadd, 1) := by decide +kernel
theorem dX10_find_138 : decode cX10_find 138 = .ok (.iastore, 1) := by decide +kernel
theorem dX10_find_139 : decode cX10_find 139 = .ok (.aload_n 0, 1) := by decide +kernel
theorem dX10_find_140 : decode cX10_find 140 = .ok (.getfield 29, 3) := by decide +kernel
theorem dX10_find_143 : decode cX10_find 143 = .ok (.iconst 3, 1) := by decide +kernel
theorem dX10_find_144 : decode cX10_find 144 = .ok (.dup2, 1) := by decide +kernel
theorem dX10_find_145 : decode cX10_find 145 = .ok (.iaload, 1) := by decide +kernel
theorem dX10_find_146 : decode cX10_find 146 = .ok (.aload_n 0, 1) := by decide +kernel
theorem dX10_find_147 : decode cX10_find 147 = .ok (.getfield 43, 3) := by decide +kernel
theorem dX10_find_150 : decode cX10_find 150 = .ok (.aload 7, 2) := by decide +kernel
theorem dX10_find_152 : decode cX10_find 152 = .ok (.invokevirtual 252, 3) := by decide +kernel
theorem dX10_find_155 : decode cX10_find 155 = .ok (.iadd, 1) := by decide +kernel
theorem dX10_find_156 : decode cX10_find 156 = .ok (.iastore, 1) := by decide +kernel
theorem dX10_find_157 : decode cX10_find 157 = .ok (.iload 5, 2) := by decide +kernel
theorem dX10_find_159 : decode cX10_find 159 = .ok (.aload_n 0, 1) := by decide +kernel
theorem dX10_find_160 : decode cX10_find 160 = .ok (.getfield 43, 3) := by decide +kernel
theorem dX10_find_163 : decode cX10_find 163 = .ok (.aload 7, 2) := by decide +kernel
theorem dX10_find_165 : decode cX10_find 165 = .ok (.invokevirtual 256, 3) := by decide +kernel
theorem dX10_find_168 : decode cX10_find 168 = .ok (.iadd, 1) := by decide +kernel
theorem dX10_find_169 : decode cX10_find 169 = .ok (.istore 5, 2) := by decide +kernel
theorem dX10_find_171 : decode cX10_find 171 = .ok (.iinc 6 1, 3) := by decide +kernel
theorem dX10_find_174 : decode cX10_find 174 = .ok (.goto (-127), 3) := by decide +kernel
theorem dX10_find_177 : decode cX10_find 177 = .ok (.iload 5, 2) := by decide +kernel
theorem dX10_find_179 : decode cX10_find 179 = .ok (.ireturn, 1) := by decide +kernel
theorem dX10_found_0 : decode cX10_found 0 = .ok (.iload_n 1, 1) := by decide +kernel
theorem dX10_found_1 : decode cX10_found 1 = .ok (.ifCond .lt 12, 3) := by decide +kernel
theorem dX10_found_4 : decode cX10_found 4 = .ok (.iload_n 1, 1) := by decide +kernel
theorem dX10_found_5 : decode cX10_found 5 = .ok (.aload_n 0, 1) := by decide +kernel
theorem dX10_found_6 : decode cX10_found 6 = .ok (.getfield 29, 3) := by decide +kernel
theorem dX10_found_9 : decode cX10_found 9 = .ok (.arraylength, 1) := by decide +kernel
theorem dX10_found_10 : decode cX10_found 10 = .ok (.if_icmp .lt 7, 3) := by decide +kernel
theorem dX10_found_13 : decode cX10_found 13 = .ok (.iconst (-1), 1) := by decide +kernel
theorem dX10_found_14 : decode cX10_found 14 = .ok (.goto 9, 3) := by decide +kernel
theorem dX10_found_17 : decode cX10_found 17 = .ok (.aload_n 0, 1) := by decide +kernel
theorem dX10_found_18 : decode cX10_found 18 = .ok (.getfield 29, 3) := by decide +kernel
theorem dX10_found_21 : decode cX10_found 21 = .ok (.iload_n 1, 1) := by decide +kernel
theorem dX10_found_22 : decode cX10_found 22 = .ok (.iaload, 1) := by decide +kernel
theorem dX10_found_23 : decode cX10_found 23 = .ok (.ireturn, 1) := by decide +kernel
theorem dX10_size_0 : decode cX10_size 0 = .ok (.aload_n 0, 1) := by decide +kernel
theorem dX10_size_1 : decode cX10_size 1 = .ok (.getfield 14, 3) := by decide +kernel
theorem dX10_size_4 : decode cX10_size 4 = .ok (.iload_n 1, 1) := by decide +kernel
theorem dX10_size_5 : decode cX10_size 5 = .ok (.iload_n 2, 1) := by decide +kernel
theorem dX10_size_6 : decode cX10_size 6 = .ok (.invokevirtual 151, 3) := by decide +kernel
theorem dX10_size_9 : decode cX10_size 9 = .ok (.astore_n 3, 1) := by decide +kernel
theorem dX10_size_10 : decode cX10_size 10 = .ok (.aload_n 3, 1) := by decide +kernel
theorem dX10_size_11 : decode cX10_size 11 = .ok (.ifnonnull 7, 3) := by decide +kernel
theorem dX10_size_14 : decode cX10_size 14 = .ok (.iconst (-1), 1) := by decide +kernel
theorem dX10_size_15 : decode cX10_size 15 = .ok (.goto 8, 3) := by decide +kernel
theorem dX10_size_18 : decode cX10_size 18 = .ok (.aload_n 3, 1) := by decide +kernel
theorem dX10_size_19 : decode cX10_size 19 = .ok (.getfield 259, 3) := by decide +kernel
theorem dX10_size_22 : decode cX10_size 22 = .ok (.arraylength, 1) := by decide +kernel
theorem dX10_size_23 : decode cX10_size 23 = .ok (.ireturn, 1) := by decide +kernel
theorem dX10_octet_0 : decode cX10_octet 0 = .ok (.aload_n 0, 1) := by decide +kernel
theorem dX10_octet_1 : decode cX10_octet 1 = .ok (.getfield 14, 3) := by decide +kernel
theorem dX10_octet_4 : decode cX10_octet 4 = .ok (.iload_n 1, 1) := by decide +kernel
theorem dX10_octet_5 : decode cX10_octet 5 = .ok (.iload_n 2, 1) := by decide +kernel
theorem dX10_octet_6 : decode cX10_octet 6 = .ok (.invokevirtual 151, 3) := by decide +kernel
theorem dX10_octet_9 : decode cX10_octet 9 = .ok (.astore 4, 2) := by decide +kernel
theorem dX10_octet_11 : decode cX10_octet 11 = .ok (.aload 4, 2) := by decide +kernel
theorem dX10_octet_13 : decode cX10_octet 13 = .ok (.ifnonnull 7, 3) := by decide +kernel
theorem dX10_octet_16 : decode cX10_octet 16 = .ok (.iconst (-1), 1) := by decide +kernel
theorem dX10_octet_17 : decode cX10_octet 17 = .ok (.goto 9, 3) := by decide +kernel
theorem dX10_octet_20 : decode cX10_octet 20 = .ok (.aload 4, 2) := by decide +kernel
theorem dX10_octet_22 : decode cX10_octet 22 = .ok (.iload_n 3, 1) := by decide +kernel
theorem dX10_octet_23 : decode cX10_octet 23 = .ok (.invokevirtual 263, 3) := by decide +kernel
theorem dX10_octet_26 : decode cX10_octet 26 = .ok (.ireturn, 1) := by decide +kernel
theorem dX10_spoil_0 : decode cX10_spoil 0 = .ok (.aload_n 0, 1) := by decide +kernel
theorem dX10_spoil_1 : decode cX10_spoil 1 = .ok (.getfield 14, 3) := by decide +kernel
theorem dX10_spoil_4 : decode cX10_spoil 4 = .ok (.iload_n 1, 1) := by decide +kernel
theorem dX10_spoil_5 : decode cX10_spoil 5 = .ok (.iload_n 2, 1) := by decide +kernel
theorem dX10_spoil_6 : decode cX10_spoil 6 = .ok (.invokevirtual 151, 3) := by decide +kernel
theorem dX10_spoil_9 : decode cX10_spoil 9 = .ok (.astore 5, 2) := by decide +kernel
theorem dX10_spoil_11 : decode cX10_spoil 11 = .ok (.aload 5, 2) := by decide +kernel
theorem dX10_spoil_13 : decode cX10_spoil 13 = .ok (.ifnonnull 7, 3) := by decide +kernel
theorem dX10_spoil_16 : decode cX10_spoil 16 = .ok (.iconst (-1), 1) := by decide +kernel
theorem dX10_spoil_17 : decode cX10_spoil 17 = .ok (.goto 11, 3) := by decide +kernel
theorem dX10_spoil_20 : decode cX10_spoil 20 = .ok (.aload 5, 2) := by decide +kernel
theorem dX10_spoil_22 : decode cX10_spoil 22 = .ok (.iload_n 3, 1) := by decide +kernel
theorem dX10_spoil_23 : decode cX10_spoil 23 = .ok (.iload 4, 2) := by decide +kernel
theorem dX10_spoil_25 : decode cX10_spoil 25 = .ok (.invokevirtual 266, 3) := by decide +kernel
theorem dX10_spoil_28 : decode cX10_spoil 28 = .ok (.ireturn, 1) := by decide +kernel
theorem dX10_count_0 : decode cX10_count 0 = .ok (.iload_n 1, 1) := by decide +kernel
theorem dX10_count_1 : decode cX10_count 1 = .ok (.tableswitch 99 0 7 #[47, 55, 63, 68, 79, 84, 89, 94], 47) := by decide +kernel
theorem dX10_count_48 : decode cX10_count 48 = .ok (.aload_n 0, 1) := by decide +kernel
theorem dX10_count_49 : decode cX10_count 49 = .ok (.getfield 14, 3) := by decide +kernel
theorem dX10_count_52 : decode cX10_count 52 = .ok (.invokevirtual 269, 3) := by decide +kernel
theorem dX10_count_55 : decode cX10_count 55 = .ok (.ireturn, 1) := by decide +kernel
theorem dX10_count_56 : decode cX10_count 56 = .ok (.aload_n 0, 1) := by decide +kernel
theorem dX10_count_57 : decode cX10_count 57 = .ok (.getfield 14, 3) := by decide +kernel
theorem dX10_count_60 : decode cX10_count 60 = .ok (.invokevirtual 272, 3) := by decide +kernel
theorem dX10_count_63 : decode cX10_count 63 = .ok (.ireturn, 1) := by decide +kernel
theorem dX10_count_64 : decode cX10_count 64 = .ok (.aload_n 0, 1) := by decide +kernel
theorem dX10_count_65 : decode cX10_count 65 = .ok (.getfield 275, 3) := by decide +kernel
theorem dX10_count_68 : decode cX10_count 68 = .ok (.ireturn, 1) := by decide +kernel
theorem dX10_count_69 : decode cX10_count 69 = .ok (.aload_n 0, 1) := by decide +kernel
theorem dX10_count_70 : decode cX10_count 70 = .ok (.getfield 14, 3) := by decide +kernel
theorem dX10_count_73 : decode cX10_count 73 = .ok (.getfield 183, 3) := by decide +kernel
theorem dX10_count_76 : decode cX10_count 76 = .ok (.invokevirtual 211, 3) := by decide +kernel
theorem dX10_count_79 : decode cX10_count 79 = .ok (.ireturn, 1) := by decide +kernel
theorem dX10_count_80 : decode cX10_count 80 = .ok (.aload_n 0, 1) := by decide +kernel
theorem dX10_count_81 : decode cX10_count 81 = .ok (.getfield 278, 3) := by decide +kernel
theorem dX10_count_84 : decode cX10_count 84 = .ok (.ireturn, 1) := by decide +kernel
theorem dX10_count_85 : decode cX10_count 85 = .ok (.aload_n 0, 1) := by decide +kernel
theorem dX10_count_86 : decode cX10_count 86 = .ok (.getfield 281, 3) := by decide +kernel
theorem dX10_count_89 : decode cX10_count 89 = .ok (.ireturn, 1) := by decide +kernel
theorem dX10_count_90 : decode cX10_count 90 = .ok (.aload_n 0, 1) := by decide +kernel
theorem dX10_count_91 : decode cX10_count 91 = .ok (.getfield 284, 3) := by decide +kernel
theorem dX10_count_94 : decode cX10_count 94 = .ok (.ireturn, 1) := by decide +kernel
theorem dX10_count_95 : decode cX10_count 95 = .ok (.aload_n 0, 1) := by decide +kernel
theorem dX10_count_96 : decode cX10_count 96 = .ok (.getfield 208, 3) := by decide +kernel
theorem dX10_count_99 : decode cX10_count 99 = .ok (.ireturn, 1) := by decide +kernel
theorem dX10_count_100 : decode cX10_count 100 = .ok (.iconst (-1), 1) := by decide +kernel
theorem dX10_count_101 : decode cX10_count 101 = .ok (.ireturn, 1) := by decide +kernel
theorem dX10_isPartition_0 : decode cX10_isPartition 0 = .ok (.iload_n 0, 1) := by decide +kernel
theorem dX10_isPartition_1 : decode cX10_isPartition 1 = .ok (.ifCond .lt 13, 3) := by decide +kernel
theorem dX10_isPartition_4 : decode cX10_isPartition 4 = .ok (.iload_n 0, 1) := by decide +kernel
theorem dX10_isPartition_5 : decode cX10_isPartition 5 = .ok (.bipush 8, 2) := by decide +kernel
theorem dX10_isPartition_7 : decode cX10_isPartition 7 = .ok (.if_icmp .ge 7, 3) := by decide +kernel
theorem dX10_isPartition_10 : decode cX10_isPartition 10 = .ok (.iconst 1, 1) := by decide +kernel
theorem dX10_isPartition_11 : decode cX10_isPartition 11 = .ok (.goto 4, 3) := by decide +kernel
theorem dX10_isPartition_14 : decode cX10_isPartition 14 = .ok (.iconst 0, 1) := by decide +kernel
theorem dX10_isPartition_15 : decode cX10_isPartition 15 = .ok (.ireturn, 1) := by decide +kernel
theorem dX10_isCondition_0 : decode cX10_isCondition 0 = .ok (.iload_n 0, 1) := by decide +kernel
theorem dX10_isCondition_1 : decode cX10_isCondition 1 = .ok (.ifCond .lt 21, 3) := by decide +kernel
theorem dX10_isCondition_4 : decode cX10_isCondition 4 = .ok (.iload_n 0, 1) := by decide +kernel
theorem dX10_isCondition_5 : decode cX10_isCondition 5 = .ok (.iconst 3, 1) := by decide +kernel
theorem dX10_isCondition_6 : decode cX10_isCondition 6 = .ok (.if_icmp .ge 16, 3) := by decide +kernel
theorem dX10_isCondition_9 : decode cX10_isCondition 9 = .ok (.iload_n 1, 1) := by decide +kernel
theorem dX10_isCondition_10 : decode cX10_isCondition 10 = .ok (.ifCond .lt 12, 3) := by decide +kernel
theorem dX10_isCondition_13 : decode cX10_isCondition 13 = .ok (.iload_n 1, 1) := by decide +kernel
theorem dX10_isCondition_14 : decode cX10_isCondition 14 = .ok (.iconst 2, 1) := by decide +kernel
theorem dX10_isCondition_15 : decode cX10_isCondition 15 = .ok (.if_icmp .gt 7, 3) := by decide +kernel
theorem dX10_isCondition_18 : decode cX10_isCondition 18 = .ok (.iconst 1, 1) := by decide +kernel
theorem dX10_isCondition_19 : decode cX10_isCondition 19 = .ok (.goto 4, 3) := by decide +kernel
theorem dX10_isCondition_22 : decode cX10_isCondition 22 = .ok (.iconst 0, 1) := by decide +kernel
theorem dX10_isCondition_23 : decode cX10_isCondition 23 = .ok (.ireturn, 1) := by decide +kernel
theorem dX10_writerOf_0 : decode cX10_writerOf 0 = .ok (.iload_n 1, 1) := by decide +kernel
theorem dX10_writerOf_1 : decode cX10_writerOf 1 = .ok (.ifCond .lt 12, 3) := by decide +kernel
theorem dX10_writerOf_4 : decode cX10_writerOf 4 = .ok (.iload_n 1, 1) := by decide +kernel
theorem dX10_writerOf_5 : decode cX10_writerOf 5 = .ok (.aload_n 0, 1) := by decide +kernel
theorem dX10_writerOf_6 : decode cX10_writerOf 6 = .ok (.getfield 20, 3) := by decide +kernel
theorem dX10_writerOf_9 : decode cX10_writerOf 9 = .ok (.arraylength, 1) := by decide +kernel
theorem dX10_writerOf_10 : decode cX10_writerOf 10 = .ok (.if_icmp .lt 7, 3) := by decide +kernel
theorem dX10_writerOf_13 : decode cX10_writerOf 13 = .ok (.aconst_null, 1) := by decide +kernel
theorem dX10_writerOf_14 : decode cX10_writerOf 14 = .ok (.goto 9, 3) := by decide +kernel
theorem dX10_writerOf_17 : decode cX10_writerOf 17 = .ok (.aload_n 0, 1) := by decide +kernel
theorem dX10_writerOf_18 : decode cX10_writerOf 18 = .ok (.getfield 20, 3) := by decide +kernel
theorem dX10_writerOf_21 : decode cX10_writerOf 21 = .ok (.iload_n 1, 1) := by decide +kernel
theorem dX10_writerOf_22 : decode cX10_writerOf 22 = .ok (.aaload, 1) := by decide +kernel
theorem dX10_writerOf_23 : decode cX10_writerOf 23 = .ok (.areturn, 1) := by decide +kernel
theorem dX10_workerOf_0 : decode cX10_workerOf 0 = .ok (.aload_n 0, 1) := by decide +kernel
theorem dX10_workerOf_1 : decode cX10_workerOf 1 = .ok (.iload_n 1, 1) := by decide +kernel
theorem dX10_workerOf_2 : decode cX10_workerOf 2 = .ok (.invokevirtual 130, 3) := by decide +kernel
theorem dX10_workerOf_5 : decode cX10_workerOf 5 = .ok (.astore_n 2, 1) := by decide +kernel
theorem dX10_workerOf_6 : decode cX10_workerOf 6 = .ok (.aload_n 2, 1) := by decide +kernel
theorem dX10_workerOf_7 : decode cX10_workerOf 7 = .ok (.ifnull 14, 3) := by decide +kernel
theorem dX10_workerOf_10 : decode cX10_workerOf 10 = .ok (.aload_n 2, 1) := by decide +kernel
theorem dX10_workerOf_11 : decode cX10_workerOf 11 = .ok (.getfield 127, 3) := by decide +kernel
theorem dX10_workerOf_14 : decode cX10_workerOf 14 = .ok (.ifCond .eq 7, 3) := by decide +kernel
theorem dX10_workerOf_17 : decode cX10_workerOf 17 = .ok (.aload_n 2, 1) := by decide +kernel
theorem dX10_workerOf_18 : decode cX10_workerOf 18 = .ok (.goto 4, 3) := by decide +kernel
theorem dX10_workerOf_21 : decode cX10_workerOf 21 = .ok (.aconst_null, 1) := by decide +kernel
theorem dX10_workerOf_22 : decode cX10_workerOf 22 = .ok (.areturn, 1) := by decide +kernel
theorem dX10_begin_0 : decode cX10_begin 0 = .ok (.aload_n 0, 1) := by decide +kernel
theorem dX10_begin_1 : decode cX10_begin 1 = .ok (.iload_n 1, 1) := by decide +kernel
theorem dX10_begin_2 : decode cX10_begin 2 = .ok (.invokevirtual 130, 3) := by decide +kernel
theorem dX10_begin_5 : decode cX10_begin 5 = .ok (.astore 4, 2) := by decide +kernel
theorem dX10_begin_7 : decode cX10_begin 7 = .ok (.aload 4, 2) := by decide +kernel
theorem dX10_begin_9 : decode cX10_begin 9 = .ok (.ifnull 11, 3) := by decide +kernel
theorem dX10_begin_12 : decode cX10_begin 12 = .ok (.aload 4, 2) := by decide +kernel
theorem dX10_begin_14 : decode cX10_begin 14 = .ok (.getfield 127, 3) := by decide +kernel
theorem dX10_begin_17 : decode cX10_begin 17 = .ok (.ifCond .eq 5, 3) := by decide +kernel
theorem dX10_begin_20 : decode cX10_begin 20 = .ok (.iconst 0, 1) := by decide +kernel
theorem dX10_begin_21 : decode cX10_begin 21 = .ok (.ireturn, 1) := by decide +kernel
theorem dX10_begin_22 : decode cX10_begin 22 = .ok (.aload 4, 2) := by decide +kernel
theorem dX10_begin_24 : decode cX10_begin 24 = .ok (.iload_n 2, 1) := by decide +kernel
theorem dX10_begin_25 : decode cX10_begin 25 = .ok (.iload_n 3, 1) := by decide +kernel
theorem dX10_begin_26 : decode cX10_begin 26 = .ok (.aload_n 0, 1) := by decide +kernel
theorem dX10_begin_27 : decode cX10_begin 27 = .ok (.getfield 25, 3) := by decide +kernel
theorem dX10_begin_30 : decode cX10_begin 30 = .ok (.invokevirtual 287, 3) := by decide +kernel
theorem dX10_begin_33 : decode cX10_begin 33 = .ok (.iconst 1, 1) := by decide +kernel
theorem dX10_begin_34 : decode cX10_begin 34 = .ok (.ireturn, 1) := by decide +kernel
theorem dX10_fail_0 : decode cX10_fail 0 = .ok (.aload_n 1, 1) := by decide +kernel
theorem dX10_fail_1 : decode cX10_fail 1 = .ok (.iconst 0, 1) := by decide +kernel
theorem dX10_fail_2 : decode cX10_fail 2 = .ok (.putfield 127, 3) := by decide +kernel
theorem dX10_fail_5 : decode cX10_fail 5 = .ok (.aload_n 0, 1) := by decide +kernel
theorem dX10_fail_6 : decode cX10_fail 6 = .ok (.dup, 1) := by decide +kernel
theorem dX10_fail_7 : decode cX10_fail 7 = .ok (.getfield 284, 3) := by decide +kernel
theorem dX10_fail_10 : decode cX10_fail 10 = .ok (.iconst 1, 1) := by decide +kernel
theorem dX10_fail_11 : decode cX10_fail 11 = .ok (.iadd, 1) := by decide +kernel
theorem dX10_fail_12 : decode cX10_fail 12 = .ok (.putfield 284, 3) := by decide +kernel
theorem dX10_fail_15 : decode cX10_fail 15 = .ok (.iload_n 2, 1) := by decide +kernel
theorem dX10_fail_16 : decode cX10_fail 16 = .ok (.ineg, 1) := by decide +kernel
theorem dX10_fail_17 : decode cX10_fail 17 = .ok (.ireturn, 1) := by decide +kernel
theorem dX10_start_0 : decode cX10_start 0 = .ok (.aload_n 1, 1) := by decide +kernel
theorem dX10_start_1 : decode cX10_start 1 = .ok (.iconst 1, 1) := by decide +kernel
theorem dX10_start_2 : decode cX10_start 2 = .ok (.putfield 75, 3) := by decide +kernel
theorem dX10_start_5 : decode cX10_start 5 = .ok (.aload_n 1, 1) := by decide +kernel
theorem dX10_start_6 : decode cX10_start 6 = .ok (.aload_n 0, 1) := by decide +kernel
theorem dX10_start_7 : decode cX10_start 7 = .ok (.invokevirtual 148, 3) := by decide +kernel
theorem dX10_start_10 : decode cX10_start 10 = .ok (.putfield 133, 3) := by decide +kernel
theorem dX10_start_13 : decode cX10_start 13 = .ok (.aload_n 0, 1) := by decide +kernel
theorem dX10_start_14 : decode cX10_start 14 = .ok (.aload_n 1, 1) := by decide +kernel
theorem dX10_start_15 : decode cX10_start 15 = .ok (.getfield 133, 3) := by decide +kernel
theorem dX10_start_18 : decode cX10_start 18 = .ok (.aload_n 1, 1) := by decide +kernel
theorem dX10_start_19 : decode cX10_start 19 = .ok (.getfield 290, 3) := by decide +kernel
theorem dX10_start_22 : decode cX10_start 22 = .ok (.invokevirtual 155, 3) := by decide +kernel
theorem dX10_start_25 : decode cX10_start 25 = .ok (.ifCond .ne 10, 3) := by decide +kernel
theorem dX10_start_28 : decode cX10_start 28 = .ok (.aload_n 0, 1) := by decide +kernel
theorem dX10_start_29 : decode cX10_start 29 = .ok (.aload_n 1, 1) := by decide +kernel
theorem dX10_start_30 : decode cX10_start 30 = .ok (.iconst 4, 1) := by decide +kernel
theorem dX10_start_31 : decode cX10_start 31 = .ok (.invokevirtual 293, 3) := by decide +kernel
theorem dX10_start_34 : decode cX10_start 34 = .ok (.ireturn, 1) := by decide +kernel
theorem dX10_start_35 : decode cX10_start 35 = .ok (.aload_n 1, 1) := by decide +kernel
theorem dX10_start_36 : decode cX10_start 36 = .ok (.getfield 72, 3) := by decide +kernel
theorem dX10_start_39 : decode cX10_start 39 = .ok (.ifCond .eq 18, 3) := by decide +kernel
theorem dX10_start_42 : decode cX10_start 42 = .ok (.aload_n 0, 1) := by decide +kernel
theorem dX10_start_43 : decode cX10_start 43 = .ok (.aload_n 1, 1) := by decide +kernel
theorem dX10_start_44 : decode cX10_start 44 = .ok (.invokevirtual 297, 3) := by decide +kernel
theorem dX10_start_47 : decode cX10_start 47 = .ok (.ifCond .eq 10, 3) := by decide +kernel
theorem dX10_start_50 : decode cX10_start 50 = .ok (.aload_n 0, 1) := by decide +kernel
theorem dX10_start_51 : decode cX10_start 51 = .ok (.aload_n 1, 1) := by decide +kernel
theorem dX10_start_52 : decode cX10_start 52 = .ok (.iconst 4, 1) := by decide +kernel
theorem dX10_start_53 : decode cX10_start 53 = .ok (.invokevirtual 293, 3) := by decide +kernel
theorem dX10_start_56 : decode cX10_start 56 = .ok (.ireturn, 1) := by decide +kernel
theorem dX10_start_57 : decode cX10_start 57 = .ok (.aload_n 1, 1) := by decide +kernel
theorem dX10_start_58 : decode cX10_start 58 = .ok (.getfield 72, 3) := by decide +kernel
theorem dX10_start_61 : decode cX10_start 61 = .ok (.ifCond .ne 11, 3) := by decide +kernel
theorem dX10_start_64 : decode cX10_start 64 = .ok (.aload_n 0, 1) := by decide +kernel
theorem dX10_start_65 : decode cX10_start 65 = .ok (.aload_n 1, 1) := by decide +kernel
theorem dX10_start_66 : decode cX10_start 66 = .ok (.invokevirtual 301, 3) := by decide +kernel
theorem dX10_start_69 : decode cX10_start 69 = .ok (.goto 24, 3) := by decide +kernel
theorem dX10_start_72 : decode cX10_start 72 = .ok (.aload_n 1, 1) := by decide +kernel
theorem dX10_start_73 : decode cX10_start 73 = .ok (.getfield 72, 3) := by decide +kernel
theorem dX10_start_76 : decode cX10_start 76 = .ok (.iconst 1, 1) := by decide +kernel
theorem dX10_start_77 : decode cX10_start 77 = .ok (.if_icmp .ne 11, 3) := by decide +kernel
theorem dX10_start_80 : decode cX10_start 80 = .ok (.aload_n 0, 1) := by decide +kernel
theorem dX10_start_81 : decode cX10_start 81 = .ok (.aload_n 1, 1) := by decide +kernel
theorem dX10_start_82 : decode cX10_start 82 = .ok (.invokevirtual 305, 3) := by decide +kernel
theorem dX10_start_85 : decode cX10_start 85 = .ok (.goto 8, 3) := by decide +kernel
theorem dX10_start_88 : decode cX10_start 88 = .ok (.aload_n 0, 1) := by decide +kernel
theorem dX10_start_89 : decode cX10_start 89 = .ok (.aload_n 1, 1) := by decide +kernel
theorem dX10_start_90 : decode cX10_start 90 = .ok (.invokevirtual 308, 3) := by decide +kernel
theorem dX10_start_93 : decode cX10_start 93 = .ok (.aload_n 1, 1) := by decide +kernel
theorem dX10_start_94 : decode cX10_start 94 = .ok (.getfield 111, 3) := by decide +kernel
theorem dX10_start_97 : decode cX10_start 97 = .ok (.invokevirtual 311, 3) := by decide +kernel
theorem dX10_start_100 : decode cX10_start 100 = .ok (.ifCond .eq 11, 3) := by decide +kernel
theorem dX10_start_103 : decode cX10_start 103 = .ok (.aload_n 1, 1) := by decide +kernel
theorem dX10_start_104 : decode cX10_start 104 = .ok (.iconst 0, 1) := by decide +kernel
theorem dX10_start_105 : decode cX10_start 105 = .ok (.putfield 127, 3) := by decide +kernel
theorem dX10_start_108 : decode cX10_start 108 = .ok (.bipush 6, 2) := by decide +kernel
theorem dX10_start_110 : decode cX10_start 110 = .ok (.ireturn, 1) := by decide +kernel
theorem dX10_start_111 : decode cX10_start 111 = .ok (.iconst 1, 1) := by decide +kernel
theorem dX10_start_112 : decode cX10_start 112 = .ok (.ireturn, 1) := by decide +kernel
theorem dX10_anyFileIsHurt_0 : decode cX10_anyFileIsHurt 0 = .ok (.iconst 0, 1) := by decide +kernel
theorem dX10_anyFileIsHurt_1 : decode cX10_anyFileIsHurt 1 = .ok (.istore_n 2, 1) := by decide +kernel
theorem dX10_anyFileIsHurt_2 : decode cX10_anyFileIsHurt 2 = .ok (.iload_n 2, 1) := by decide +kernel
theorem dX10_anyFileIsHurt_3 : decode cX10_anyFileIsHurt 3 = .ok (.aload_n 1, 1) := by decide +kernel
theorem dX10_anyFileIsHurt_4 : decode cX10_anyFileIsHurt 4 = .ok (.getfield 290, 3) := by decide +kernel
theorem dX10_anyFileIsHurt_7 : decode cX10_anyFileIsHurt 7 = .ok (.getfield 223, 3) := by decide +kernel
theorem dX10_anyFileIsHurt_10 : decode cX10_anyFileIsHurt 10 = .ok (.if_icmp .ge 58, 3) := by decide +kernel
theorem dX10_anyFileIsHurt_13 : decode cX10_anyFileIsHurt 13 = .ok (.aload_n 1, 1) := by decide +kernel
theorem dX10_anyFileIsHurt_14 : decode cX10_anyFileIsHurt 14 = .ok (.getfield 290, 3) := by decide +kernel
theorem dX10_anyFileIsHurt_17 : decode cX10_anyFileIsHurt 17 = .ok (.iload_n 2, 1) := by decide +kernel
theorem dX10_anyFileIsHurt_18 : decode cX10_anyFileIsHurt 18 = .ok (.invokevirtual 228, 3) := by decide +kernel
theorem dX10_anyFileIsHurt_21 : decode cX10_anyFileIsHurt 21 = .ok (.aload_n 1, 1) := by decide +kernel
theorem dX10_anyFileIsHurt_22 : decode cX10_anyFileIsHurt 22 = .ok (.getfield 315, 3) := by decide +kernel
theorem dX10_anyFileIsHurt_25 : decode cX10_anyFileIsHurt 25 = .ok (.if_icmp .ne 7, 3) := by decide +kernel
theorem dX10_anyFileIsHurt_28 : decode cX10_anyFileIsHurt 28 = .ok (.iconst 1, 1) := by decide +kernel
theorem dX10_anyFileIsHurt_29 : decode cX10_anyFileIsHurt 29 = .ok (.goto 4, 3) := by decide +kernel
theorem dX10_anyFileIsHurt_32 : decode cX10_anyFileIsHurt 32 = .ok (.iconst 0, 1) := by decide +kernel
theorem dX10_anyFileIsHurt_33 : decode cX10_anyFileIsHurt 33 = .ok (.istore_n 3, 1) := by decide +kernel
theorem dX10_anyFileIsHurt_34 : decode cX10_anyFileIsHurt 34 = .ok (.iload_n 3, 1) := by decide +kernel
theorem dX10_anyFileIsHurt_35 : decode cX10_anyFileIsHurt 35 = .ok (.ifCond .eq 27, 3) := by decide +kernel
theorem dX10_anyFileIsHurt_38 : decode cX10_anyFileIsHurt 38 = .ok (.aload_n 0, 1) := by decide +kernel
theorem dX10_anyFileIsHurt_39 : decode cX10_anyFileIsHurt 39 = .ok (.getfield 14, 3) := by decide +kernel
theorem dX10_anyFileIsHurt_42 : decode cX10_anyFileIsHurt 42 = .ok (.aload_n 1, 1) := by decide +kernel
theorem dX10_anyFileIsHurt_43 : decode cX10_anyFileIsHurt 43 = .ok (.getfield 290, 3) := by decide +kernel
theorem dX10_anyFileIsHurt_46 : decode cX10_anyFileIsHurt 46 = .ok (.iload_n 2, 1) := by decide +kernel
theorem dX10_anyFileIsHurt_47 : decode cX10_anyFileIsHurt 47 = .ok (.invokevirtual 225, 3) := by decide +kernel
theorem dX10_anyFileIsHurt_50 : decode cX10_anyFileIsHurt 50 = .ok (.aload_n 1, 1) := by decide +kernel
theorem dX10_anyFileIsHurt_51 : decode cX10_anyFileIsHurt 51 = .ok (.getfield 315, 3) := by decide +kernel
theorem dX10_anyFileIsHurt_54 : decode cX10_anyFileIsHurt 54 = .ok (.invokevirtual 231, 3) := by decide +kernel
theorem dX10_anyFileIsHurt_57 : decode cX10_anyFileIsHurt 57 = .ok (.ifnonnull 5, 3) := by decide +kernel
theorem dX10_anyFileIsHurt_60 : decode cX10_anyFileIsHurt 60 = .ok (.iconst 1, 1) := by decide +kernel
theorem dX10_anyFileIsHurt_61 : decode cX10_anyFileIsHurt 61 = .ok (.ireturn, 1) := by decide +kernel
theorem dX10_anyFileIsHurt_62 : decode cX10_anyFileIsHurt 62 = .ok (.iinc 2 1, 3) := by decide +kernel
theorem dX10_anyFileIsHurt_65 : decode cX10_anyFileIsHurt 65 = .ok (.goto (-63), 3) := by decide +kernel
theorem dX10_anyFileIsHurt_68 : decode cX10_anyFileIsHurt 68 = .ok (.iconst 0, 1) := by decide +kernel
theorem dX10_anyFileIsHurt_69 : decode cX10_anyFileIsHurt 69 = .ok (.ireturn, 1) := by decide +kernel
theorem dX10_planAppend_0 : decode cX10_planAppend 0 = .ok (.iconst 0, 1) := by decide +kernel
theorem dX10_planAppend_1 : decode cX10_planAppend 1 = .ok (.istore_n 2, 1) := by decide +kernel
theorem dX10_planAppend_2 : decode cX10_planAppend 2 = .ok (.iload_n 2, 1) := by decide +kernel
theorem dX10_planAppend_3 : decode cX10_planAppend 3 = .ok (.bipush 8, 2) := by decide +kernel
theorem dX10_planAppend_5 : decode cX10_planAppend 5 = .ok (.if_icmp .ge 46, 3) := by decide +kernel
theorem dX10_planAppend_8 : decode cX10_planAppend 8 = .ok (.aload_n 0, 1) := by decide +kernel
theorem dX10_planAppend_9 : decode cX10_planAppend 9 = .ok (.getfield 50, 3) := by decide +kernel
theorem dX10_planAppend_12 : decode cX10_planAppend 12 = .ok (.iload_n 2, 1) := by decide +kernel
theorem dX10_planAppend_13 : decode cX10_planAppend 13 = .ok (.invokevirtual 316, 3) := by decide +kernel
theorem dX10_planAppend_16 : decode cX10_planAppend 16 = .ok (.aload_n 1, 1) := by decide +kernel
theorem dX10_planAppend_17 : decode cX10_planAppend 17 = .ok (.aload_n 0, 1) := by decide +kernel
theorem dX10_planAppend_18 : decode cX10_planAppend 18 = .ok (.getfield 50, 3) := by decide +kernel
theorem dX10_planAppend_21 : decode cX10_planAppend 21 = .ok (.invokevirtual 320, 3) := by decide +kernel
theorem dX10_planAppend_24 : decode cX10_planAppend 24 = .ok (.aload_n 0, 1) := by decide +kernel
theorem dX10_planAppend_25 : decode cX10_planAppend 25 = .ok (.getfield 50, 3) := by decide +kernel
theorem dX10_planAppend_28 : decode cX10_planAppend 28 = .ok (.getfield 235, 3) := by decide +kernel
theorem dX10_planAppend_31 : decode cX10_planAppend 31 = .ok (.ifCond .le 14, 3) := by decide +kernel
theorem dX10_planAppend_34 : decode cX10_planAppend 34 = .ok (.aload_n 1, 1) := by decide +kernel
theorem dX10_planAppend_35 : decode cX10_planAppend 35 = .ok (.getfield 111, 3) := by decide +kernel
theorem dX10_planAppend_38 : decode cX10_planAppend 38 = .ok (.aload_n 0, 1) := by decide +kernel
theorem dX10_planAppend_39 : decode cX10_planAppend 39 = .ok (.getfield 50, 3) := by decide +kernel
theorem dX10_planAppend_42 : decode cX10_planAppend 42 = .ok (.invokevirtual 324, 3) := by decide +kernel
theorem dX10_planAppend_45 : decode cX10_planAppend 45 = .ok (.iinc 2 1, 3) := by decide +kernel
theorem dX10_planAppend_48 : decode cX10_planAppend 48 = .ok (.goto (-46), 3) := by decide +kernel
theorem dX10_planAppend_51 : decode cX10_planAppend 51 = .ok (.return_, 1) := by decide +kernel
theorem dX10_planDelete_0 : decode cX10_planDelete 0 = .ok (.iconst 0, 1) := by decide +kernel
theorem dX10_planDelete_1 : decode cX10_planDelete 1 = .ok (.istore_n 2, 1) := by decide +kernel
theorem dX10_planDelete_2 : decode cX10_planDelete 2 = .ok (.iload_n 2, 1) := by decide +kernel
theorem dX10_planDelete_3 : decode cX10_planDelete 3 = .ok (.aload_n 1, 1) := by decide +kernel
theorem dX10_planDelete_4 : decode cX10_planDelete 4 = .ok (.getfield 290, 3) := by decide +kernel
theorem dX10_planDelete_7 : decode cX10_planDelete 7 = .ok (.getfield 223, 3) := by decide +kernel
theorem dX10_planDelete_10 : decode cX10_planDelete 10 = .ok (.if_icmp .ge 127, 3) := by decide +kernel
theorem dX10_planDelete_13 : decode cX10_planDelete 13 = .ok (.aload_n 0, 1) := by decide +kernel
theorem dX10_planDelete_14 : decode cX10_planDelete 14 = .ok (.getfield 14, 3) := by decide +kernel
theorem dX10_planDelete_17 : decode cX10_planDelete 17 = .ok (.aload_n 1, 1) := by decide +kernel
theorem dX10_planDelete_18 : decode cX10_planDelete 18 = .ok (.getfield 290, 3) := by decide +kernel
theorem dX10_planDelete_21 : decode cX10_planDelete 21 = .ok (.aload_n 1, 1) := by decide +kernel
theorem dX10_planDelete_22 : decode cX10_planDelete 22 = .ok (.getfield 315, 3) := by decide +kernel
theorem dX10_planDelete_25 : decode cX10_planDelete 25 = .ok (.iload_n 2, 1) := by decide +kernel
theorem dX10_planDelete_26 : decode cX10_planDelete 26 = .ok (.invokevirtual 327, 3) := by decide +kernel
theorem dX10_planDelete_29 : decode cX10_planDelete 29 = .ok (.aload_n 1, 1) := by decide +kernel
theorem dX10_planDelete_30 : decode cX10_planDelete 30 = .ok (.getfield 315, 3) := by decide +kernel
theorem dX10_planDelete_33 : decode cX10_planDelete 33 = .ok (.invokevirtual 231, 3) := by decide +kernel
theorem dX10_planDelete_36 : decode cX10_planDelete 36 = .ok (.astore_n 3, 1) := by decide +kernel
theorem dX10_planDelete_37 : decode cX10_planDelete 37 = .ok (.aload_n 3, 1) := by decide +kernel
theorem dX10_planDelete_38 : decode cX10_planDelete 38 = .ok (.ifnull 93, 3) := by decide +kernel
theorem dX10_planDelete_41 : decode cX10_planDelete 41 = .ok (.aload_n 1, 1) := by decide +kernel
theorem dX10_planDelete_42 : decode cX10_planDelete 42 = .ok (.getfield 94, 3) := by decide +kernel
theorem dX10_planDelete_45 : decode cX10_planDelete 45 = .ok (.aload_n 3, 1) := by decide +kernel
theorem dX10_planDelete_46 : decode cX10_planDelete 46 = .ok (.invokevirtual 248, 3) := by decide +kernel
theorem dX10_planDelete_49 : decode cX10_planDelete 49 = .ok (.ifCond .ne 6, 3) := by decide +kernel
theorem dX10_planDelete_52 : decode cX10_planDelete 52 = .ok (.goto 79, 3) := by decide +kernel
theorem dX10_planDelete_55 : decode cX10_planDelete 55 = .ok (.aload_n 0, 1) := by decide +kernel
theorem dX10_planDelete_56 : decode cX10_planDelete 56 = .ok (.getfield 50, 3) := by decide +kernel
theorem dX10_planDelete_59 : decode cX10_planDelete 59 = .ok (.aload_n 1, 1) := by decide +kernel
theorem dX10_planDelete_60 : decode cX10_planDelete 60 = .ok (.getfield 315, 3) := by decide +kernel
theorem dX10_planDelete_63 : decode cX10_planDelete 63 = .ok (.invokevirtual 316, 3) := by decide +kernel
theorem dX10_planDelete_66 : decode cX10_planDelete 66 = .ok (.aload_n 1, 1) := by decide +kernel
theorem dX10_planDelete_67 : decode cX10_planDelete 67 = .ok (.getfield 94, 3) := by decide +kernel
theorem dX10_planDelete_70 : decode cX10_planDelete 70 = .ok (.aload_n 3, 1) := by decide +kernel
theorem dX10_planDelete_71 : decode cX10_planDelete 71 = .ok (.aload_n 0, 1) := by decide +kernel
theorem dX10_planDelete_72 : decode cX10_planDelete 72 = .ok (.getfield 50, 3) := by decide +kernel
theorem dX10_planDelete_75 : decode cX10_planDelete 75 = .ok (.invokevirtual 330, 3) := by decide +kernel
theorem dX10_planDelete_78 : decode cX10_planDelete 78 = .ok (.aload_n 0, 1) := by decide +kernel
theorem dX10_planDelete_79 : decode cX10_planDelete 79 = .ok (.getfield 50, 3) := by decide +kernel
theorem dX10_planDelete_82 : decode cX10_planDelete 82 = .ok (.getfield 235, 3) := by decide +kernel
theorem dX10_planDelete_85 : decode cX10_planDelete 85 = .ok (.aload_n 3, 1) := by decide +kernel
theorem dX10_planDelete_86 : decode cX10_planDelete 86 = .ok (.getfield 235, 3) := by decide +kernel
theorem dX10_planDelete_89 : decode cX10_planDelete 89 = .ok (.if_icmp .ne 6, 3) := by decide +kernel
theorem dX10_planDelete_92 : decode cX10_planDelete 92 = .ok (.goto 39, 3) := by decide +kernel
theorem dX10_planDelete_95 : decode cX10_planDelete 95 = .ok (.aload_n 1, 1) := by decide +kernel
theorem dX10_planDelete_96 : decode cX10_planDelete 96 = .ok (.getfield 111, 3) := by decide +kernel
theorem dX10_planDelete_99 : decode cX10_planDelete 99 = .ok (.aload_n 1, 1) := by decide +kernel
theorem dX10_planDelete_100 : decode cX10_planDelete 100 = .ok (.getfield 290, 3) := by decide +kernel
theorem dX10_planDelete_103 : decode cX10_planDelete 103 = .ok (.iload_n 2, 1) := by decide +kernel
theorem dX10_planDelete_104 : decode cX10_planDelete 104 = .ok (.invokevirtual 225, 3) := by decide +kernel
theorem dX10_planDelete_107 : decode cX10_planDelete 107 = .ok (.invokevirtual 334, 3) := by decide +kernel
theorem dX10_planDelete_110 : decode cX10_planDelete 110 = .ok (.aload_n 0, 1) := by decide +kernel
theorem dX10_planDelete_111 : decode cX10_planDelete 111 = .ok (.getfield 50, 3) := by decide +kernel
theorem dX10_planDelete_114 : decode cX10_planDelete 114 = .ok (.getfield 235, 3) := by decide +kernel
theorem dX10_planDelete_117 : decode cX10_planDelete 117 = .ok (.ifCond .le 14, 3) := by decide +kernel
theorem dX10_planDelete_120 : decode cX10_planDelete 120 = .ok (.aload_n 1, 1) := by decide +kernel
theorem dX10_planDelete_121 : decode cX10_planDelete 121 = .ok (.getfield 111, 3) := by decide +kernel
theorem dX10_planDelete_124 : decode cX10_planDelete 124 = .ok (.aload_n 0, 1) := by decide +kernel
theorem dX10_planDelete_125 : decode cX10_planDelete 125 = .ok (.getfield 50, 3) := by decide +kernel
theorem dX10_planDelete_128 : decode cX10_planDelete 128 = .ok (.invokevirtual 324, 3) := by decide +kernel
theorem dX10_planDelete_131 : decode cX10_planDelete 131 = .ok (.iinc 2 1, 3) := by decide +kernel
theorem dX10_planDelete_134 : decode cX10_planDelete 134 = .ok (.goto (-132), 3) := by decide +kernel
theorem dX10_planDelete_137 : decode cX10_planDelete 137 = .ok (.return_, 1) := by decide +kernel
theorem dX10_planCompact_0 : decode cX10_planCompact 0 = .ok (.aload_n 1, 1) := by decide +kernel
theorem dX10_planCompact_1 : decode cX10_planCompact 1 = .ok (.getfield 290, 3) := by decide +kernel
theorem dX10_planCompact_4 : decode cX10_planCompact 4 = .ok (.aload_n 1, 1) := by decide +kernel
theorem dX10_planCompact_5 : decode cX10_planCompact 5 = .ok (.getfield 315, 3) := by decide +kernel
theorem dX10_planCompact_8 : decode cX10_planCompact 8 = .ok (.invokevirtual 337, 3) := by decide +kernel
theorem dX10_planCompact_11 : decode cX10_planCompact 11 = .ok (.iconst 2, 1) := by decide +kernel
theorem dX10_planCompact_12 : decode cX10_planCompact 12 = .ok (.if_icmp .ge 4, 3) := by decide +kernel
theorem dX10_planCompact_15 : decode cX10_planCompact 15 = .ok (.return_, 1) := by decide +kernel
theorem dX10_planCompact_16 : decode cX10_planCompact 16 = .ok (.aload_n 0, 1) := by decide +kernel
theorem dX10_planCompact_17 : decode cX10_planCompact 17 = .ok (.getfield 50, 3) := by decide +kernel
theorem dX10_planCompact_20 : decode cX10_planCompact 20 = .ok (.aload_n 1, 1) := by decide +kernel
theorem dX10_planCompact_21 : decode cX10_planCompact 21 = .ok (.getfield 315, 3) := by decide +kernel
theorem dX10_planCompact_24 : decode cX10_planCompact 24 = .ok (.invokevirtual 316, 3) := by decide +kernel
theorem dX10_planCompact_27 : decode cX10_planCompact 27 = .ok (.iconst 0, 1) := by decide +kernel
theorem dX10_planCompact_28 : decode cX10_planCompact 28 = .ok (.istore_n 2, 1) := by decide +kernel
theorem dX10_planCompact_29 : decode cX10_planCompact 29 = .ok (.iload_n 2, 1) := by decide +kernel
theorem dX10_planCompact_30 : decode cX10_planCompact 30 = .ok (.aload_n 1, 1) := by decide +kernel
theorem dX10_planCompact_31 : decode cX10_planCompact 31 = .ok (.getfield 290, 3) := by decide +kernel
theorem dX10_planCompact_34 : decode cX10_planCompact 34 = .ok (.getfield 223, 3) := by decide +kernel
theorem dX10_planCompact_37 : decode cX10_planCompact 37 = .ok (.if_icmp .ge 117, 3) := by decide +kernel
theorem dX10_planCompact_40 : decode cX10_planCompact 40 = .ok (.aload_n 0, 1) := by decide +kernel
theorem dX10_planCompact_41 : decode cX10_planCompact 41 = .ok (.getfield 14, 3) := by decide +kernel
theorem dX10_planCompact_44 : decode cX10_planCompact 44 = .ok (.aload_n 1, 1) := by decide +kernel
theorem dX10_planCompact_45 : decode cX10_planCompact 45 = .ok (.getfield 290, 3) := by decide +kernel
theorem dX10_planCompact_48 : decode cX10_planCompact 48 = .ok (.aload_n 1, 1) := by decide +kernel
theorem dX10_planCompact_49 : decode cX10_planCompact 49 = .ok (.getfield 315, 3) := by decide +kernel
theorem dX10_planCompact_52 : decode cX10_planCompact 52 = .ok (.iload_n 2, 1) := by decide +kernel
theorem dX10_planCompact_53 : decode cX10_planCompact 53 = .ok (.invokevirtual 327, 3) := by decide +kernel
theorem dX10_planCompact_56 : decode cX10_planCompact 56 = .ok (.aload_n 1, 1) := by decide +kernel
theorem dX10_planCompact_57 : decode cX10_planCompact 57 = .ok (.getfield 315, 3) := by decide +kernel
theorem dX10_planCompact_60 : decode cX10_planCompact 60 = .ok (.invokevirtual 231, 3) := by decide +kernel
theorem dX10_planCompact_63 : decode cX10_planCompact 63 = .ok (.astore_n 3, 1) := by decide +kernel
theorem dX10_planCompact_64 : decode cX10_planCompact 64 = .ok (.aload_n 3, 1) := by decide +kernel
theorem dX10_planCompact_65 : decode cX10_planCompact 65 = .ok (.ifnonnull 6, 3) := by decide +kernel
theorem dX10_planCompact_68 : decode cX10_planCompact 68 = .ok (.goto 80, 3) := by decide +kernel
theorem dX10_planCompact_71 : decode cX10_planCompact 71 = .ok (.aload_n 1, 1) := by decide +kernel
theorem dX10_planCompact_72 : decode cX10_planCompact 72 = .ok (.getfield 111, 3) := by decide +kernel
theorem dX10_planCompact_75 : decode cX10_planCompact 75 = .ok (.aload_n 1, 1) := by decide +kernel
theorem dX10_planCompact_76 : decode cX10_planCompact 76 = .ok (.getfield 290, 3) := by decide +kernel
theorem dX10_planCompact_79 : decode cX10_planCompact 79 = .ok (.iload_n 2, 1) := by decide +kernel
theorem dX10_planCompact_80 : decode cX10_planCompact 80 = .ok (.invokevirtual 225, 3) := by decide +kernel
theorem dX10_planCompact_83 : decode cX10_planCompact 83 = .ok (.invokevirtual 334, 3) := by decide +kernel
theorem dX10_planCompact_86 : decode cX10_planCompact 86 = .ok (.iconst 0, 1) := by decide +kernel
theorem dX10_planCompact_87 : decode cX10_planCompact 87 = .ok (.istore 4, 2) := by decide +kernel
theorem dX10_planCompact_89 : decode cX10_planCompact 89 = .ok (.iload 4, 2) := by decide +kernel
theorem dX10_planCompact_91 : decode cX10_planCompact 91 = .ok (.aload_n 3, 1) := by decide +kernel
theorem dX10_planCompact_92 : decode cX10_planCompact 92 = .ok (.getfield 235, 3) := by decide +kernel
theorem dX10_planCompact_95 : decode cX10_planCompact 95 = .ok (.if_icmp .ge 53, 3) := by decide +kernel
theorem dX10_planCompact_98 : decode cX10_planCompact 98 = .ok (.aload_n 0, 1) := by decide +kernel
theorem dX10_planCompact_99 : decode cX10_planCompact 99 = .ok (.getfield 50, 3) := by decide +kernel
theorem dX10_planCompact_102 : decode cX10_planCompact 102 = .ok (.aload_n 3, 1) := by decide +kernel
theorem dX10_planCompact_103 : decode cX10_planCompact 103 = .ok (.iload 4, 2) := by decide +kernel
theorem dX10_planCompact_105 : decode cX10_planCompact 105 = .ok (.invokevirtual 340, 3) := by decide +kernel
theorem dX10_planCompact_108 : decode cX10_planCompact 108 = .ok (.aload_n 0, 1) := by decide +kernel
theorem dX10_planCompact_109 : decode cX10_planCompact 109 = .ok (.getfield 50, 3) := by decide +kernel
theorem dX10_planCompact_112 : decode cX10_planCompact 112 = .ok (.getfield 235, 3) := by decide +kernel
theorem dX10_planCompact_115 : decode cX10_planCompact 115 = .ok (.bipush 48, 2) := by decide +kernel
theorem dX10_planCompact_117 : decode cX10_planCompact 117 = .ok (.if_icmp .ne 25, 3) := by decide +kernel
theorem dX10_planCompact_120 : decode cX10_planCompact 120 = .ok (.aload_n 1, 1) := by decide +kernel
theorem dX10_planCompact_121 : decode cX10_planCompact 121 = .ok (.getfield 111, 3) := by decide +kernel
theorem dX10_planCompact_124 : decode cX10_planCompact 124 = .ok (.aload_n 0, 1) := by decide +kernel
theorem dX10_planCompact_125 : decode cX10_planCompact 125 = .ok (.getfield 50, 3) := by decide +kernel
theorem dX10_planCompact_128 : decode cX10_planCompact 128 = .ok (.invokevirtual 324, 3) := by decide +kernel
theorem dX10_planCompact_131 : decode cX10_planCompact 131 = .ok (.aload_n 0, 1) := by decide +kernel
theorem dX10_planCompact_132 : decode cX10_planCompact 132 = .ok (.getfield 50, 3) := by decide +kernel
theorem dX10_planCompact_135 : decode cX10_planCompact 135 = .ok (.aload_n 1, 1) := by decide +kernel
theorem dX10_planCompact_136 : decode cX10_planCompact 136 = .ok (.getfield 315, 3) := by decide +kernel
theorem dX10_planCompact_139 : decode cX10_planCompact 139 = .ok (.invokevirtual 316, 3) := by decide +kernel
theorem dX10_planCompact_142 : decode cX10_planCompact 142 = .ok (.iinc 4 1, 3) := by decide +kernel
theorem dX10_planCompact_145 : decode cX10_planCompact 145 = .ok (.goto (-56), 3) := by decide +kernel
theorem dX10_planCompact_148 : decode cX10_planCompact 148 = .ok (.iinc 2 1, 3) := by decide +kernel
theorem dX10_planCompact_151 : decode cX10_planCompact 151 = .ok (.goto (-122), 3) := by decide +kernel
theorem dX10_planCompact_154 : decode cX10_planCompact 154 = .ok (.aload_n 0, 1) := by decide +kernel
theorem dX10_planCompact_155 : decode cX10_planCompact 155 = .ok (.getfield 50, 3) := by decide +kernel
theorem dX10_planCompact_158 : decode cX10_planCompact 158 = .ok (.getfield 235, 3) := by decide +kernel
theorem dX10_planCompact_161 : decode cX10_planCompact 161 = .ok (.ifCond .le 14, 3) := by decide +kernel
theorem dX10_planCompact_164 : decode cX10_planCompact 164 = .ok (.aload_n 1, 1) := by decide +kernel
theorem dX10_planCompact_165 : decode cX10_planCompact 165 = .ok (.getfield 111, 3) := by decide +kernel
theorem dX10_planCompact_168 : decode cX10_planCompact 168 = .ok (.aload_n 0, 1) := by decide +kernel
theorem dX10_planCompact_169 : decode cX10_planCompact 169 = .ok (.getfield 50, 3) := by decide +kernel
theorem dX10_planCompact_172 : decode cX10_planCompact 172 = .ok (.invokevirtual 324, 3) := by decide +kernel
theorem dX10_planCompact_175 : decode cX10_planCompact 175 = .ok (.return_, 1) := by decide +kernel
theorem dX10_write_0 : decode cX10_write 0 = .ok (.aload_n 1, 1) := by decide +kernel
theorem dX10_write_1 : decode cX10_write 1 = .ok (.getfield 111, 3) := by decide +kernel
theorem dX10_write_4 : decode cX10_write 4 = .ok (.astore_n 2, 1) := by decide +kernel
theorem dX10_write_5 : decode cX10_write 5 = .ok (.aload_n 0, 1) := by decide +kernel
theorem dX10_write_6 : decode cX10_write 6 = .ok (.getfield 14, 3) := by decide +kernel
theorem dX10_write_9 : decode cX10_write 9 = .ok (.iconst 0, 1) := by decide +kernel
theorem dX10_write_10 : decode cX10_write 10 = .ok (.aload_n 0, 1) := by decide +kernel
theorem dX10_write_11 : decode cX10_write 11 = .ok (.getfield 275, 3) := by decide +kernel
theorem dX10_write_14 : decode cX10_write 14 = .ok (.aload_n 2, 1) := by decide +kernel
theorem dX10_write_15 : decode cX10_write 15 = .ok (.getfield 344, 3) := by decide +kernel
theorem dX10_write_18 : decode cX10_write 18 = .ok (.aload_n 2, 1) := by decide +kernel
theorem dX10_write_19 : decode cX10_write 19 = .ok (.aload_n 2, 1) := by decide +kernel
theorem dX10_write_20 : decode cX10_write 20 = .ok (.getfield 139, 3) := by decide +kernel
theorem dX10_write_23 : decode cX10_write 23 = .ok (.invokevirtual 347, 3) := by decide +kernel
theorem dX10_write_26 : decode cX10_write 26 = .ok (.aload_n 2, 1) := by decide +kernel
theorem dX10_write_27 : decode cX10_write 27 = .ok (.aload_n 2, 1) := by decide +kernel
theorem dX10_write_28 : decode cX10_write 28 = .ok (.getfield 139, 3) := by decide +kernel
theorem dX10_write_31 : decode cX10_write 31 = .ok (.invokevirtual 350, 3) := by decide +kernel
theorem dX10_write_34 : decode cX10_write 34 = .ok (.invokevirtual 353, 3) := by decide +kernel
theorem dX10_write_37 : decode cX10_write 37 = .ok (.invokevirtual 357, 3) := by decide +kernel
theorem dX10_write_40 : decode cX10_write 40 = .ok (.ifCond .ne 10, 3) := by decide +kernel
theorem dX10_write_43 : decode cX10_write 43 = .ok (.aload_n 0, 1) := by decide +kernel
theorem dX10_write_44 : decode cX10_write 44 = .ok (.aload_n 1, 1) := by decide +kernel
theorem dX10_write_45 : decode cX10_write 45 = .ok (.iconst 1, 1) := by decide +kernel
theorem dX10_write_46 : decode cX10_write 46 = .ok (.invokevirtual 293, 3) := by decide +kernel
theorem dX10_write_49 : decode cX10_write 49 = .ok (.ireturn, 1) := by decide +kernel
theorem dX10_write_50 : decode cX10_write 50 = .ok (.aload_n 2, 1) := by decide +kernel
theorem dX10_write_51 : decode cX10_write 51 = .ok (.aload_n 0, 1) := by decide +kernel
theorem dX10_write_52 : decode cX10_write 52 = .ok (.getfield 275, 3) := by decide +kernel
theorem dX10_write_55 : decode cX10_write 55 = .ok (.invokevirtual 361, 3) := by decide +kernel
theorem dX10_write_58 : decode cX10_write 58 = .ok (.aload_n 0, 1) := by decide +kernel
theorem dX10_write_59 : decode cX10_write 59 = .ok (.dup, 1) := by decide +kernel
theorem dX10_write_60 : decode cX10_write 60 = .ok (.getfield 275, 3) := by decide +kernel
theorem dX10_write_63 : decode cX10_write 63 = .ok (.iconst 1, 1) := by decide +kernel
theorem dX10_write_64 : decode cX10_write 64 = .ok (.iadd, 1) := by decide +kernel
theorem dX10_write_65 : decode cX10_write 65 = .ok (.putfield 275, 3) := by decide +kernel
theorem dX10_write_68 : decode cX10_write 68 = .ok (.iconst 2, 1) := by decide +kernel
theorem dX10_write_69 : decode cX10_write 69 = .ok (.ireturn, 1) := by decide +kernel
theorem dX10_commit_0 : decode cX10_commit 0 = .ok (.aload_n 1, 1) := by decide +kernel
theorem dX10_commit_1 : decode cX10_commit 1 = .ok (.getfield 133, 3) := by decide +kernel
theorem dX10_commit_4 : decode cX10_commit 4 = .ok (.iconst 1, 1) := by decide +kernel
theorem dX10_commit_5 : decode cX10_commit 5 = .ok (.iadd, 1) := by decide +kernel
theorem dX10_commit_6 : decode cX10_commit 6 = .ok (.istore_n 2, 1) := by decide +kernel
theorem dX10_commit_7 : decode cX10_commit 7 = .ok (.aload_n 0, 1) := by decide +kernel
theorem dX10_commit_8 : decode cX10_commit 8 = .ok (.getfield 14, 3) := by decide +kernel
theorem dX10_commit_11 : decode cX10_commit 11 = .ok (.iconst 1, 1) := by decide +kernel
theorem dX10_commit_12 : decode cX10_commit 12 = .ok (.iload_n 2, 1) := by decide +kernel
theorem dX10_commit_13 : decode cX10_commit 13 = .ok (.invokevirtual 151, 3) := by decide +kernel
theorem dX10_commit_16 : decode cX10_commit 16 = .ok (.ifnull 9, 3) := by decide +kernel
theorem dX10_commit_19 : decode cX10_commit 19 = .ok (.aload_n 0, 1) := by decide +kernel
theorem dX10_commit_20 : decode cX10_commit 20 = .ok (.aload_n 1, 1) := by decide +kernel
theorem dX10_commit_21 : decode cX10_commit 21 = .ok (.invokevirtual 364, 3) := by decide +kernel
theorem dX10_commit_24 : decode cX10_commit 24 = .ok (.ireturn, 1) := by decide +kernel
theorem dX10_commit_25 : decode cX10_commit 25 = .ok (.aload_n 0, 1) := by decide +kernel
theorem dX10_commit_26 : decode cX10_commit 26 = .ok (.getfield 57, 3) := by decide +kernel
theorem dX10_commit_29 : decode cX10_commit 29 = .ok (.invokevirtual 367, 3) := by decide +kernel
theorem dX10_commit_32 : decode cX10_commit 32 = .ok (.aload_n 1, 1) := by decide +kernel
theorem dX10_commit_33 : decode cX10_commit 33 = .ok (.getfield 111, 3) := by decide +kernel
theorem dX10_commit_36 : decode cX10_commit 36 = .ok (.aload_n 0, 1) := by decide +kernel
theorem dX10_commit_37 : decode cX10_commit 37 = .ok (.getfield 57, 3) := by decide +kernel
theorem dX10_commit_40 : decode cX10_commit 40 = .ok (.iload_n 2, 1) := by decide +kernel
theorem dX10_commit_41 : decode cX10_commit 41 = .ok (.aload_n 1, 1) := by decide +kernel
theorem dX10_commit_42 : decode cX10_commit 42 = .ok (.getfield 315, 3) := by decide +kernel
theorem dX10_commit_45 : decode cX10_commit 45 = .ok (.invokevirtual 369, 3) := by decide +kernel
theorem dX10_commit_48 : decode cX10_commit 48 = .ok (.aload_n 0, 1) := by decide +kernel
theorem dX10_commit_49 : decode cX10_commit 49 = .ok (.getfield 14, 3) := by decide +kernel
theorem dX10_commit_52 : decode cX10_commit 52 = .ok (.iconst 1, 1) := by decide +kernel
theorem dX10_commit_53 : decode cX10_commit 53 = .ok (.iload_n 2, 1) := by decide +kernel
theorem dX10_commit_54 : decode cX10_commit 54 = .ok (.aload_n 0, 1) := by decide +kernel
theorem dX10_commit_55 : decode cX10_commit 55 = .ok (.getfield 57, 3) := by decide +kernel
theorem dX10_commit_58 : decode cX10_commit 58 = .ok (.iconst 0, 1) := by decide +kernel
theorem dX10_commit_59 : decode cX10_commit 59 = .ok (.aload_n 0, 1) := by decide +kernel
theorem dX10_commit_60 : decode cX10_commit 60 = .ok (.getfield 57, 3) := by decide +kernel
theorem dX10_commit_63 : decode cX10_commit 63 = .ok (.getfield 373, 3) := by decide +kernel
theorem dX10_commit_66 : decode cX10_commit 66 = .ok (.invokevirtual 353, 3) := by decide +kernel
theorem dX10_commit_69 : decode cX10_commit 69 = .ok (.invokevirtual 357, 3) := by decide +kernel
theorem dX10_commit_72 : decode cX10_commit 72 = .ok (.ifCond .ne 10, 3) := by decide +kernel
theorem dX10_commit_75 : decode cX10_commit 75 = .ok (.aload_n 0, 1) := by decide +kernel
theorem dX10_commit_76 : decode cX10_commit 76 = .ok (.aload_n 1, 1) := by decide +kernel
theorem dX10_commit_77 : decode cX10_commit 77 = .ok (.iconst 1, 1) := by decide +kernel
theorem dX10_commit_78 : decode cX10_commit 78 = .ok (.invokevirtual 293, 3) := by decide +kernel
theorem dX10_commit_81 : decode cX10_commit 81 = .ok (.ireturn, 1) := by decide +kernel
theorem dX10_commit_82 : decode cX10_commit 82 = .ok (.aload_n 1, 1) := by decide +kernel
theorem dX10_commit_83 : decode cX10_commit 83 = .ok (.iconst 0, 1) := by decide +kernel
theorem dX10_commit_84 : decode cX10_commit 84 = .ok (.putfield 127, 3) := by decide +kernel
theorem dX10_commit_87 : decode cX10_commit 87 = .ok (.aload_n 1, 1) := by decide +kernel
theorem dX10_commit_88 : decode cX10_commit 88 = .ok (.iload_n 2, 1) := by decide +kernel
theorem dX10_commit_89 : decode cX10_commit 89 = .ok (.putfield 145, 3) := by decide +kernel
theorem dX10_commit_92 : decode cX10_commit 92 = .ok (.aload_n 0, 1) := by decide +kernel
