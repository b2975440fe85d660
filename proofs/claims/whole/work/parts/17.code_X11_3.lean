theorem dX11_look_63 : decode cX11_look 63 = .ok (.getfield 89, 3) := by decide +kernel
theorem dX11_look_66 : decode cX11_look 66 = .ok (.iload_n 1, 1) := by decide +kernel
theorem dX11_look_67 : decode cX11_look 67 = .ok (.iaload, 1) := by decide +kernel
theorem dX11_look_68 : decode cX11_look 68 = .ok (.if_icmp .ne 10, 3) := by decide +kernel
theorem dX11_look_71 : decode cX11_look 71 = .ok (.aload_n 0, 1) := by decide +kernel
theorem dX11_look_72 : decode cX11_look 72 = .ok (.iload_n 1, 1) := by decide +kernel
theorem dX11_look_73 : decode cX11_look 73 = .ok (.iconst 2, 1) := by decide +kernel
theorem dX11_look_74 : decode cX11_look 74 = .ok (.invokevirtual 283, 3) := by decide +kernel
theorem dX11_look_77 : decode cX11_look 77 = .ok (.ireturn, 1) := by decide +kernel
theorem dX11_look_78 : decode cX11_look 78 = .ok (.iinc 2 1, 3) := by decide +kernel
theorem dX11_look_81 : decode cX11_look 81 = .ok (.goto (-42), 3) := by decide +kernel
theorem dX11_look_84 : decode cX11_look 84 = .ok (.iconst 5, 1) := by decide +kernel
theorem dX11_look_85 : decode cX11_look 85 = .ok (.ireturn, 1) := by decide +kernel
theorem dX11_step_0 : decode cX11_step 0 = .ok (.iload_n 1, 1) := by decide +kernel
theorem dX11_step_1 : decode cX11_step 1 = .ok (.invokestatic 266, 3) := by decide +kernel
theorem dX11_step_4 : decode cX11_step 4 = .ok (.ifCond .eq 12, 3) := by decide +kernel
theorem dX11_step_7 : decode cX11_step 7 = .ok (.aload_n 0, 1) := by decide +kernel
theorem dX11_step_8 : decode cX11_step 8 = .ok (.getfield 65, 3) := by decide +kernel
theorem dX11_step_11 : decode cX11_step 11 = .ok (.iload_n 1, 1) := by decide +kernel
theorem dX11_step_12 : decode cX11_step 12 = .ok (.baload, 1) := by decide +kernel
theorem dX11_step_13 : decode cX11_step 13 = .ok (.ifCond .ne 5, 3) := by decide +kernel
theorem dX11_step_16 : decode cX11_step 16 = .ok (.iconst 0, 1) := by decide +kernel
theorem dX11_step_17 : decode cX11_step 17 = .ok (.ireturn, 1) := by decide +kernel
theorem dX11_step_18 : decode cX11_step 18 = .ok (.aload_n 0, 1) := by decide +kernel
theorem dX11_step_19 : decode cX11_step 19 = .ok (.getfield 68, 3) := by decide +kernel
theorem dX11_step_22 : decode cX11_step 22 = .ok (.iload_n 1, 1) := by decide +kernel
theorem dX11_step_23 : decode cX11_step 23 = .ok (.baload, 1) := by decide +kernel
theorem dX11_step_24 : decode cX11_step 24 = .ok (.ifCond .ne 9, 3) := by decide +kernel
theorem dX11_step_27 : decode cX11_step 27 = .ok (.aload_n 0, 1) := by decide +kernel
theorem dX11_step_28 : decode cX11_step 28 = .ok (.iload_n 1, 1) := by decide +kernel
theorem dX11_step_29 : decode cX11_step 29 = .ok (.invokevirtual 321, 3) := by decide +kernel
theorem dX11_step_32 : decode cX11_step 32 = .ok (.ireturn, 1) := by decide +kernel
theorem dX11_step_33 : decode cX11_step 33 = .ok (.aload_n 0, 1) := by decide +kernel
theorem dX11_step_34 : decode cX11_step 34 = .ok (.getfield 126, 3) := by decide +kernel
theorem dX11_step_37 : decode cX11_step 37 = .ok (.iload_n 1, 1) := by decide +kernel
theorem dX11_step_38 : decode cX11_step 38 = .ok (.iaload, 1) := by decide +kernel
theorem dX11_step_39 : decode cX11_step 39 = .ok (.aload_n 0, 1) := by decide +kernel
theorem dX11_step_40 : decode cX11_step 40 = .ok (.getfield 111, 3) := by decide +kernel
theorem dX11_step_43 : decode cX11_step 43 = .ok (.iload_n 1, 1) := by decide +kernel
theorem dX11_step_44 : decode cX11_step 44 = .ok (.iaload, 1) := by decide +kernel
theorem dX11_step_45 : decode cX11_step 45 = .ok (.if_icmp .ge 9, 3) := by decide +kernel
theorem dX11_step_48 : decode cX11_step 48 = .ok (.aload_n 0, 1) := by decide +kernel
theorem dX11_step_49 : decode cX11_step 49 = .ok (.iload_n 1, 1) := by decide +kernel
theorem dX11_step_50 : decode cX11_step 50 = .ok (.invokevirtual 324, 3) := by decide +kernel
theorem dX11_step_53 : decode cX11_step 53 = .ok (.ireturn, 1) := by decide +kernel
theorem dX11_step_54 : decode cX11_step 54 = .ok (.aload_n 0, 1) := by decide +kernel
theorem dX11_step_55 : decode cX11_step 55 = .ok (.getfield 86, 3) := by decide +kernel
theorem dX11_step_58 : decode cX11_step 58 = .ok (.iload_n 1, 1) := by decide +kernel
theorem dX11_step_59 : decode cX11_step 59 = .ok (.baload, 1) := by decide +kernel
theorem dX11_step_60 : decode cX11_step 60 = .ok (.ifCond .eq 11, 3) := by decide +kernel
theorem dX11_step_63 : decode cX11_step 63 = .ok (.aload_n 0, 1) := by decide +kernel
theorem dX11_step_64 : decode cX11_step 64 = .ok (.iload_n 1, 1) := by decide +kernel
theorem dX11_step_65 : decode cX11_step 65 = .ok (.invokevirtual 327, 3) := by decide +kernel
theorem dX11_step_68 : decode cX11_step 68 = .ok (.goto 8, 3) := by decide +kernel
theorem dX11_step_71 : decode cX11_step 71 = .ok (.aload_n 0, 1) := by decide +kernel
theorem dX11_step_72 : decode cX11_step 72 = .ok (.iload_n 1, 1) := by decide +kernel
theorem dX11_step_73 : decode cX11_step 73 = .ok (.invokevirtual 330, 3) := by decide +kernel
theorem dX11_step_76 : decode cX11_step 76 = .ok (.ireturn, 1) := by decide +kernel
theorem dX11_crash_0 : decode cX11_crash 0 = .ok (.iload_n 1, 1) := by decide +kernel
theorem dX11_crash_1 : decode cX11_crash 1 = .ok (.invokestatic 266, 3) := by decide +kernel
theorem dX11_crash_4 : decode cX11_crash 4 = .ok (.ifCond .eq 12, 3) := by decide +kernel
theorem dX11_crash_7 : decode cX11_crash 7 = .ok (.aload_n 0, 1) := by decide +kernel
theorem dX11_crash_8 : decode cX11_crash 8 = .ok (.getfield 65, 3) := by decide +kernel
theorem dX11_crash_11 : decode cX11_crash 11 = .ok (.iload_n 1, 1) := by decide +kernel
theorem dX11_crash_12 : decode cX11_crash 12 = .ok (.baload, 1) := by decide +kernel
theorem dX11_crash_13 : decode cX11_crash 13 = .ok (.ifCond .ne 5, 3) := by decide +kernel
theorem dX11_crash_16 : decode cX11_crash 16 = .ok (.iconst 0, 1) := by decide +kernel
theorem dX11_crash_17 : decode cX11_crash 17 = .ok (.ireturn, 1) := by decide +kernel
theorem dX11_crash_18 : decode cX11_crash 18 = .ok (.aload_n 0, 1) := by decide +kernel
theorem dX11_crash_19 : decode cX11_crash 19 = .ok (.getfield 65, 3) := by decide +kernel
theorem dX11_crash_22 : decode cX11_crash 22 = .ok (.iload_n 1, 1) := by decide +kernel
theorem dX11_crash_23 : decode cX11_crash 23 = .ok (.iconst 0, 1) := by decide +kernel
theorem dX11_crash_24 : decode cX11_crash 24 = .ok (.bastore, 1) := by decide +kernel
theorem dX11_crash_25 : decode cX11_crash 25 = .ok (.iconst 1, 1) := by decide +kernel
theorem dX11_crash_26 : decode cX11_crash 26 = .ok (.ireturn, 1) := by decide +kernel
theorem dX11_writer_0 : decode cX11_writer 0 = .ok (.iload_n 1, 1) := by decide +kernel
theorem dX11_writer_1 : decode cX11_writer 1 = .ok (.invokestatic 266, 3) := by decide +kernel
theorem dX11_writer_4 : decode cX11_writer 4 = .ok (.ifCond .ne 5, 3) := by decide +kernel
theorem dX11_writer_7 : decode cX11_writer 7 = .ok (.iconst (-1), 1) := by decide +kernel
theorem dX11_writer_8 : decode cX11_writer 8 = .ok (.ireturn, 1) := by decide +kernel
theorem dX11_writer_9 : decode cX11_writer 9 = .ok (.iload_n 2, 1) := by decide +kernel
theorem dX11_writer_10 : decode cX11_writer 10 = .ok (.tableswitch 106 0 6 #[42, 57, 64, 71, 78, 92, 99], 42) := by decide +kernel
theorem dX11_writer_52 : decode cX11_writer 52 = .ok (.aload_n 0, 1) := by decide +kernel
theorem dX11_writer_53 : decode cX11_writer 53 = .ok (.getfield 65, 3) := by decide +kernel
theorem dX11_writer_56 : decode cX11_writer 56 = .ok (.iload_n 1, 1) := by decide +kernel
theorem dX11_writer_57 : decode cX11_writer 57 = .ok (.baload, 1) := by decide +kernel
theorem dX11_writer_58 : decode cX11_writer 58 = .ok (.ifCond .eq 7, 3) := by decide +kernel
theorem dX11_writer_61 : decode cX11_writer 61 = .ok (.iconst 1, 1) := by decide +kernel
theorem dX11_writer_62 : decode cX11_writer 62 = .ok (.goto 4, 3) := by decide +kernel
theorem dX11_writer_65 : decode cX11_writer 65 = .ok (.iconst 0, 1) := by decide +kernel
theorem dX11_writer_66 : decode cX11_writer 66 = .ok (.ireturn, 1) := by decide +kernel
theorem dX11_writer_67 : decode cX11_writer 67 = .ok (.aload_n 0, 1) := by decide +kernel
theorem dX11_writer_68 : decode cX11_writer 68 = .ok (.getfield 74, 3) := by decide +kernel
theorem dX11_writer_71 : decode cX11_writer 71 = .ok (.iload_n 1, 1) := by decide +kernel
theorem dX11_writer_72 : decode cX11_writer 72 = .ok (.iaload, 1) := by decide +kernel
theorem dX11_writer_73 : decode cX11_writer 73 = .ok (.ireturn, 1) := by decide +kernel
theorem dX11_writer_74 : decode cX11_writer 74 = .ok (.aload_n 0, 1) := by decide +kernel
theorem dX11_writer_75 : decode cX11_writer 75 = .ok (.getfield 77, 3) := by decide +kernel
theorem dX11_writer_78 : decode cX11_writer 78 = .ok (.iload_n 1, 1) := by decide +kernel
theorem dX11_writer_79 : decode cX11_writer 79 = .ok (.iaload, 1) := by decide +kernel
theorem dX11_writer_80 : decode cX11_writer 80 = .ok (.ireturn, 1) := by decide +kernel
theorem dX11_writer_81 : decode cX11_writer 81 = .ok (.aload_n 0, 1) := by decide +kernel
theorem dX11_writer_82 : decode cX11_writer 82 = .ok (.getfield 126, 3) := by decide +kernel
theorem dX11_writer_85 : decode cX11_writer 85 = .ok (.iload_n 1, 1) := by decide +kernel
theorem dX11_writer_86 : decode cX11_writer 86 = .ok (.iaload, 1) := by decide +kernel
theorem dX11_writer_87 : decode cX11_writer 87 = .ok (.ireturn, 1) := by decide +kernel
theorem dX11_writer_88 : decode cX11_writer 88 = .ok (.aload_n 0, 1) := by decide +kernel
theorem dX11_writer_89 : decode cX11_writer 89 = .ok (.getfield 111, 3) := by decide +kernel
theorem dX11_writer_92 : decode cX11_writer 92 = .ok (.iload_n 1, 1) := by decide +kernel
theorem dX11_writer_93 : decode cX11_writer 93 = .ok (.iaload, 1) := by decide +kernel
theorem dX11_writer_94 : decode cX11_writer 94 = .ok (.aload_n 0, 1) := by decide +kernel
theorem dX11_writer_95 : decode cX11_writer 95 = .ok (.getfield 126, 3) := by decide +kernel
theorem dX11_writer_98 : decode cX11_writer 98 = .ok (.iload_n 1, 1) := by decide +kernel
theorem dX11_writer_99 : decode cX11_writer 99 = .ok (.iaload, 1) := by decide +kernel
theorem dX11_writer_100 : decode cX11_writer 100 = .ok (.isub, 1) := by decide +kernel
theorem dX11_writer_101 : decode cX11_writer 101 = .ok (.ireturn, 1) := by decide +kernel
theorem dX11_writer_102 : decode cX11_writer 102 = .ok (.aload_n 0, 1) := by decide +kernel
theorem dX11_writer_103 : decode cX11_writer 103 = .ok (.getfield 129, 3) := by decide +kernel
theorem dX11_writer_106 : decode cX11_writer 106 = .ok (.iload_n 1, 1) := by decide +kernel
theorem dX11_writer_107 : decode cX11_writer 107 = .ok (.iaload, 1) := by decide +kernel
theorem dX11_writer_108 : decode cX11_writer 108 = .ok (.ireturn, 1) := by decide +kernel
theorem dX11_writer_109 : decode cX11_writer 109 = .ok (.aload_n 0, 1) := by decide +kernel
theorem dX11_writer_110 : decode cX11_writer 110 = .ok (.getfield 83, 3) := by decide +kernel
theorem dX11_writer_113 : decode cX11_writer 113 = .ok (.iload_n 1, 1) := by decide +kernel
theorem dX11_writer_114 : decode cX11_writer 114 = .ok (.iaload, 1) := by decide +kernel
theorem dX11_writer_115 : decode cX11_writer 115 = .ok (.ireturn, 1) := by decide +kernel
theorem dX11_writer_116 : decode cX11_writer 116 = .ok (.iconst (-1), 1) := by decide +kernel
theorem dX11_writer_117 : decode cX11_writer 117 = .ok (.ireturn, 1) := by decide +kernel
theorem dX11_checkpoint_0 : decode cX11_checkpoint 0 = .ok (.iload_n 1, 1) := by decide +kernel
theorem dX11_checkpoint_1 : decode cX11_checkpoint 1 = .ok (.ifCond .lt 11, 3) := by decide +kernel
theorem dX11_checkpoint_4 : decode cX11_checkpoint 4 = .ok (.iload_n 1, 1) := by decide +kernel
theorem dX11_checkpoint_5 : decode cX11_checkpoint 5 = .ok (.aload_n 0, 1) := by decide +kernel
theorem dX11_checkpoint_6 : decode cX11_checkpoint 6 = .ok (.invokevirtual 251, 3) := by decide +kernel
theorem dX11_checkpoint_9 : decode cX11_checkpoint 9 = .ok (.if_icmp .le 5, 3) := by decide +kernel
theorem dX11_checkpoint_12 : decode cX11_checkpoint 12 = .ok (.iconst (-1), 1) := by decide +kernel
theorem dX11_checkpoint_13 : decode cX11_checkpoint 13 = .ok (.ireturn, 1) := by decide +kernel
theorem dX11_checkpoint_14 : decode cX11_checkpoint 14 = .ok (.aload_n 0, 1) := by decide +kernel
theorem dX11_checkpoint_15 : decode cX11_checkpoint 15 = .ok (.iconst 2, 1) := by decide +kernel
theorem dX11_checkpoint_16 : decode cX11_checkpoint 16 = .ok (.iload_n 1, 1) := by decide +kernel
theorem dX11_checkpoint_17 : decode cX11_checkpoint 17 = .ok (.invokevirtual 165, 3) := by decide +kernel
theorem dX11_checkpoint_20 : decode cX11_checkpoint 20 = .ok (.ifCond .lt 5, 3) := by decide +kernel
theorem dX11_checkpoint_23 : decode cX11_checkpoint 23 = .ok (.iconst 0, 1) := by decide +kernel
theorem dX11_checkpoint_24 : decode cX11_checkpoint 24 = .ok (.ireturn, 1) := by decide +kernel
theorem dX11_checkpoint_25 : decode cX11_checkpoint 25 = .ok (.aload_n 0, 1) := by decide +kernel
theorem dX11_checkpoint_26 : decode cX11_checkpoint 26 = .ok (.iload_n 1, 1) := by decide +kernel
theorem dX11_checkpoint_27 : decode cX11_checkpoint 27 = .ok (.invokevirtual 280, 3) := by decide +kernel
theorem dX11_checkpoint_30 : decode cX11_checkpoint 30 = .ok (.ifCond .ne 5, 3) := by decide +kernel
theorem dX11_checkpoint_33 : decode cX11_checkpoint 33 = .ok (.iconst (-1), 1) := by decide +kernel
theorem dX11_checkpoint_34 : decode cX11_checkpoint 34 = .ok (.ireturn, 1) := by decide +kernel
theorem dX11_checkpoint_35 : decode cX11_checkpoint 35 = .ok (.aload_n 0, 1) := by decide +kernel
theorem dX11_checkpoint_36 : decode cX11_checkpoint 36 = .ok (.iload_n 1, 1) := by decide +kernel
theorem dX11_checkpoint_37 : decode cX11_checkpoint 37 = .ok (.invokevirtual 333, 3) := by decide +kernel
theorem dX11_checkpoint_40 : decode cX11_checkpoint 40 = .ok (.aload_n 0, 1) := by decide +kernel
theorem dX11_checkpoint_41 : decode cX11_checkpoint 41 = .ok (.iconst 2, 1) := by decide +kernel
theorem dX11_checkpoint_42 : decode cX11_checkpoint 42 = .ok (.iload_n 1, 1) := by decide +kernel
theorem dX11_checkpoint_43 : decode cX11_checkpoint 43 = .ok (.invokevirtual 310, 3) := by decide +kernel
theorem dX11_checkpoint_46 : decode cX11_checkpoint 46 = .ok (.ifCond .eq 7, 3) := by decide +kernel
theorem dX11_checkpoint_49 : decode cX11_checkpoint 49 = .ok (.iconst 1, 1) := by decide +kernel
theorem dX11_checkpoint_50 : decode cX11_checkpoint 50 = .ok (.goto 5, 3) := by decide +kernel
theorem dX11_checkpoint_53 : decode cX11_checkpoint 53 = .ok (.bipush (-2), 2) := by decide +kernel
theorem dX11_checkpoint_55 : decode cX11_checkpoint 55 = .ok (.ireturn, 1) := by decide +kernel
theorem dX11_needs_0 : decode cX11_needs 0 = .ok (.aload_n 0, 1) := by decide +kernel
theorem dX11_needs_1 : decode cX11_needs 1 = .ok (.iconst 0, 1) := by decide +kernel
theorem dX11_needs_2 : decode cX11_needs 2 = .ok (.iload_n 1, 1) := by decide +kernel
theorem dX11_needs_3 : decode cX11_needs 3 = .ok (.invokevirtual 165, 3) := by decide +kernel
theorem dX11_needs_6 : decode cX11_needs 6 = .ok (.istore_n 2, 1) := by decide +kernel
theorem dX11_needs_7 : decode cX11_needs 7 = .ok (.iload_n 2, 1) := by decide +kernel
theorem dX11_needs_8 : decode cX11_needs 8 = .ok (.ifCond .lt 10, 3) := by decide +kernel
theorem dX11_needs_11 : decode cX11_needs 11 = .ok (.aload_n 0, 1) := by decide +kernel
theorem dX11_needs_12 : decode cX11_needs 12 = .ok (.getfield 144, 3) := by decide +kernel
theorem dX11_needs_15 : decode cX11_needs 15 = .ok (.iload_n 2, 1) := by decide +kernel
theorem dX11_needs_16 : decode cX11_needs 16 = .ok (.iconst 1, 1) := by decide +kernel
theorem dX11_needs_17 : decode cX11_needs 17 = .ok (.bastore, 1) := by decide +kernel
theorem dX11_needs_18 : decode cX11_needs 18 = .ok (.return_, 1) := by decide +kernel
theorem dX11_vacuum_0 : decode cX11_vacuum 0 = .ok (.aload_n 0, 1) := by decide +kernel
theorem dX11_vacuum_1 : decode cX11_vacuum 1 = .ok (.invokevirtual 251, 3) := by decide +kernel
theorem dX11_vacuum_4 : decode cX11_vacuum 4 = .ok (.istore_n 2, 1) := by decide +kernel
theorem dX11_vacuum_5 : decode cX11_vacuum 5 = .ok (.iload_n 1, 1) := by decide +kernel
theorem dX11_vacuum_6 : decode cX11_vacuum 6 = .ok (.ifCond .lt 15, 3) := by decide +kernel
theorem dX11_vacuum_9 : decode cX11_vacuum 9 = .ok (.iload_n 1, 1) := by decide +kernel
theorem dX11_vacuum_10 : decode cX11_vacuum 10 = .ok (.sipush 1000, 3) := by decide +kernel
theorem dX11_vacuum_13 : decode cX11_vacuum 13 = .ok (.if_icmp .gt 8, 3) := by decide +kernel
theorem dX11_vacuum_16 : decode cX11_vacuum 16 = .ok (.iload_n 2, 1) := by decide +kernel
theorem dX11_vacuum_17 : decode cX11_vacuum 17 = .ok (.iconst (-1), 1) := by decide +kernel
theorem dX11_vacuum_18 : decode cX11_vacuum 18 = .ok (.if_icmp .ne 5, 3) := by decide +kernel
theorem dX11_vacuum_21 : decode cX11_vacuum 21 = .ok (.iconst (-1), 1) := by decide +kernel
theorem dX11_vacuum_22 : decode cX11_vacuum 22 = .ok (.ireturn, 1) := by decide +kernel
theorem dX11_vacuum_23 : decode cX11_vacuum 23 = .ok (.iload_n 2, 1) := by decide +kernel
theorem dX11_vacuum_24 : decode cX11_vacuum 24 = .ok (.iload_n 1, 1) := by decide +kernel
theorem dX11_vacuum_25 : decode cX11_vacuum 25 = .ok (.isub, 1) := by decide +kernel
theorem dX11_vacuum_26 : decode cX11_vacuum 26 = .ok (.aload_n 0, 1) := by decide +kernel
theorem dX11_vacuum_27 : decode cX11_vacuum 27 = .ok (.getfield 248, 3) := by decide +kernel
theorem dX11_vacuum_30 : decode cX11_vacuum 30 = .ok (.if_icmp .le 9, 3) := by decide +kernel
theorem dX11_vacuum_33 : decode cX11_vacuum 33 = .ok (.iload_n 2, 1) := by decide +kernel
theorem dX11_vacuum_34 : decode cX11_vacuum 34 = .ok (.iload_n 1, 1) := by decide +kernel
theorem dX11_vacuum_35 : decode cX11_vacuum 35 = .ok (.isub, 1) := by decide +kernel
theorem dX11_vacuum_36 : decode cX11_vacuum 36 = .ok (.goto 7, 3) := by decide +kernel
theorem dX11_vacuum_39 : decode cX11_vacuum 39 = .ok (.aload_n 0, 1) := by decide +kernel
theorem dX11_vacuum_40 : decode cX11_vacuum 40 = .ok (.getfield 248, 3) := by decide +kernel
theorem dX11_vacuum_43 : decode cX11_vacuum 43 = .ok (.istore_n 3, 1) := by decide +kernel
theorem dX11_vacuum_44 : decode cX11_vacuum 44 = .ok (.iload_n 3, 1) := by decide +kernel
theorem dX11_vacuum_45 : decode cX11_vacuum 45 = .ok (.istore 4, 2) := by decide +kernel
theorem dX11_vacuum_47 : decode cX11_vacuum 47 = .ok (.iload 4, 2) := by decide +kernel
theorem dX11_vacuum_49 : decode cX11_vacuum 49 = .ok (.iload_n 2, 1) := by decide +kernel
theorem dX11_vacuum_50 : decode cX11_vacuum 50 = .ok (.if_icmp .gt 20, 3) := by decide +kernel
theorem dX11_vacuum_53 : decode cX11_vacuum 53 = .ok (.aload_n 0, 1) := by decide +kernel
theorem dX11_vacuum_54 : decode cX11_vacuum 54 = .ok (.iload 4, 2) := by decide +kernel
theorem dX11_vacuum_56 : decode cX11_vacuum 56 = .ok (.invokevirtual 280, 3) := by decide +kernel
theorem dX11_vacuum_59 : decode cX11_vacuum 59 = .ok (.ifCond .ne 5, 3) := by decide +kernel
theorem dX11_vacuum_62 : decode cX11_vacuum 62 = .ok (.iconst (-1), 1) := by decide +kernel
theorem dX11_vacuum_63 : decode cX11_vacuum 63 = .ok (.ireturn, 1) := by decide +kernel
theorem dX11_vacuum_64 : decode cX11_vacuum 64 = .ok (.iinc 4 1, 3) := by decide +kernel
theorem dX11_vacuum_67 : decode cX11_vacuum 67 = .ok (.goto (-20), 3) := by decide +kernel
theorem dX11_vacuum_70 : decode cX11_vacuum 70 = .ok (.aload_n 0, 1) := by decide +kernel
theorem dX11_vacuum_71 : decode cX11_vacuum 71 = .ok (.iload_n 3, 1) := by decide +kernel
theorem dX11_vacuum_72 : decode cX11_vacuum 72 = .ok (.invokevirtual 280, 3) := by decide +kernel
theorem dX11_vacuum_75 : decode cX11_vacuum 75 = .ok (.istore 4, 2) := by decide +kernel
theorem dX11_vacuum_77 : decode cX11_vacuum 77 = .ok (.aload_n 0, 1) := by decide +kernel
theorem dX11_vacuum_78 : decode cX11_vacuum 78 = .ok (.iconst 2, 1) := by decide +kernel
theorem dX11_vacuum_79 : decode cX11_vacuum 79 = .ok (.iload_n 3, 1) := by decide +kernel
theorem dX11_vacuum_80 : decode cX11_vacuum 80 = .ok (.invokevirtual 165, 3) := by decide +kernel
theorem dX11_vacuum_83 : decode cX11_vacuum 83 = .ok (.ifCond .ge 19, 3) := by decide +kernel
theorem dX11_vacuum_86 : decode cX11_vacuum 86 = .ok (.aload_n 0, 1) := by decide +kernel
theorem dX11_vacuum_87 : decode cX11_vacuum 87 = .ok (.iload_n 3, 1) := by decide +kernel
theorem dX11_vacuum_88 : decode cX11_vacuum 88 = .ok (.invokevirtual 333, 3) := by decide +kernel
theorem dX11_vacuum_91 : decode cX11_vacuum 91 = .ok (.aload_n 0, 1) := by decide +kernel
theorem dX11_vacuum_92 : decode cX11_vacuum 92 = .ok (.iconst 2, 1) := by decide +kernel
theorem dX11_vacuum_93 : decode cX11_vacuum 93 = .ok (.iload_n 3, 1) := by decide +kernel
theorem dX11_vacuum_94 : decode cX11_vacuum 94 = .ok (.invokevirtual 310, 3) := by decide +kernel
theorem dX11_vacuum_97 : decode cX11_vacuum 97 = .ok (.ifCond .ne 5, 3) := by decide +kernel
theorem dX11_vacuum_100 : decode cX11_vacuum 100 = .ok (.iconst (-1), 1) := by decide +kernel
theorem dX11_vacuum_101 : decode cX11_vacuum 101 = .ok (.ireturn, 1) := by decide +kernel
theorem dX11_vacuum_102 : decode cX11_vacuum 102 = .ok (.aload_n 0, 1) := by decide +kernel
theorem dX11_vacuum_103 : decode cX11_vacuum 103 = .ok (.getfield 172, 3) := by decide +kernel
theorem dX11_vacuum_106 : decode cX11_vacuum 106 = .ok (.istore 5, 2) := by decide +kernel
theorem dX11_vacuum_108 : decode cX11_vacuum 108 = .ok (.aload_n 0, 1) := by decide +kernel
theorem dX11_vacuum_109 : decode cX11_vacuum 109 = .ok (.aload_n 0, 1) := by decide +kernel
theorem dX11_vacuum_110 : decode cX11_vacuum 110 = .ok (.iconst 2, 1) := by decide +kernel
theorem dX11_vacuum_111 : decode cX11_vacuum 111 = .ok (.iload_n 3, 1) := by decide +kernel
theorem dX11_vacuum_112 : decode cX11_vacuum 112 = .ok (.invokevirtual 165, 3) := by decide +kernel
theorem dX11_vacuum_115 : decode cX11_vacuum 115 = .ok (.invokevirtual 254, 3) := by decide +kernel
theorem dX11_vacuum_118 : decode cX11_vacuum 118 = .ok (.ifCond .eq 91, 3) := by decide +kernel
theorem dX11_vacuum_121 : decode cX11_vacuum 121 = .ok (.aload_n 0, 1) := by decide +kernel
theorem dX11_vacuum_122 : decode cX11_vacuum 122 = .ok (.iload_n 3, 1) := by decide +kernel
theorem dX11_vacuum_123 : decode cX11_vacuum 123 = .ok (.putfield 248, 3) := by decide +kernel
theorem dX11_vacuum_126 : decode cX11_vacuum 126 = .ok (.aload_n 0, 1) := by decide +kernel
theorem dX11_vacuum_127 : decode cX11_vacuum 127 = .ok (.getfield 150, 3) := by decide +kernel
theorem dX11_vacuum_130 : decode cX11_vacuum 130 = .ok (.iconst 1, 1) := by decide +kernel
theorem dX11_vacuum_131 : decode cX11_vacuum 131 = .ok (.isub, 1) := by decide +kernel
theorem dX11_vacuum_132 : decode cX11_vacuum 132 = .ok (.istore 6, 2) := by decide +kernel
theorem dX11_vacuum_134 : decode cX11_vacuum 134 = .ok (.iload 6, 2) := by decide +kernel
theorem dX11_vacuum_136 : decode cX11_vacuum 136 = .ok (.ifCond .lt 73, 3) := by decide +kernel
theorem dX11_vacuum_139 : decode cX11_vacuum 139 = .ok (.aload_n 0, 1) := by decide +kernel
theorem dX11_vacuum_140 : decode cX11_vacuum 140 = .ok (.getfield 7, 3) := by decide +kernel
theorem dX11_vacuum_143 : decode cX11_vacuum 143 = .ok (.iload 6, 2) := by decide +kernel
theorem dX11_vacuum_145 : decode cX11_vacuum 145 = .ok (.iaload, 1) := by decide +kernel
theorem dX11_vacuum_146 : decode cX11_vacuum 146 = .ok (.iconst 2, 1) := by decide +kernel
theorem dX11_vacuum_147 : decode cX11_vacuum 147 = .ok (.if_icmp .ne 14, 3) := by decide +kernel
theorem dX11_vacuum_150 : decode cX11_vacuum 150 = .ok (.aload_n 0, 1) := by decide +kernel
theorem dX11_vacuum_151 : decode cX11_vacuum 151 = .ok (.getfield 13, 3) := by decide +kernel
theorem dX11_vacuum_154 : decode cX11_vacuum 154 = .ok (.iload 6, 2) := by decide +kernel
theorem dX11_vacuum_156 : decode cX11_vacuum 156 = .ok (.iaload, 1) := by decide +kernel
theorem dX11_vacuum_157 : decode cX11_vacuum 157 = .ok (.iload_n 3, 1) := by decide +kernel
theorem dX11_vacuum_158 : decode cX11_vacuum 158 = .ok (.if_icmp .lt 39, 3) := by decide +kernel
theorem dX11_vacuum_161 : decode cX11_vacuum 161 = .ok (.aload_n 0, 1) := by decide +kernel
theorem dX11_vacuum_162 : decode cX11_vacuum 162 = .ok (.getfield 7, 3) := by decide +kernel
theorem dX11_vacuum_165 : decode cX11_vacuum 165 = .ok (.iload 6, 2) := by decide +kernel
theorem dX11_vacuum_167 : decode cX11_vacuum 167 = .ok (.iaload, 1) := by decide +kernel
theorem dX11_vacuum_168 : decode cX11_vacuum 168 = .ok (.iconst 1, 1) := by decide +kernel
theorem dX11_vacuum_169 : decode cX11_vacuum 169 = .ok (.if_icmp .ne 34, 3) := by decide +kernel
theorem dX11_vacuum_172 : decode cX11_vacuum 172 = .ok (.aload_n 0, 1) := by decide +kernel
theorem dX11_vacuum_173 : decode cX11_vacuum 173 = .ok (.getfield 13, 3) := by decide +kernel
theorem dX11_vacuum_176 : decode cX11_vacuum 176 = .ok (.iload 6, 2) := by decide +kernel
theorem dX11_vacuum_178 : decode cX11_vacuum 178 = .ok (.iaload, 1) := by decide +kernel
theorem dX11_vacuum_179 : decode cX11_vacuum 179 = .ok (.iload_n 3, 1) := by decide +kernel
theorem dX11_vacuum_180 : decode cX11_vacuum 180 = .ok (.if_icmp .ge 23, 3) := by decide +kernel
theorem dX11_vacuum_183 : decode cX11_vacuum 183 = .ok (.aload_n 0, 1) := by decide +kernel
theorem dX11_vacuum_184 : decode cX11_vacuum 184 = .ok (.aload_n 0, 1) := by decide +kernel
theorem dX11_vacuum_185 : decode cX11_vacuum 185 = .ok (.getfield 13, 3) := by decide +kernel
theorem dX11_vacuum_188 : decode cX11_vacuum 188 = .ok (.iload 6, 2) := by decide +kernel
theorem dX11_vacuum_190 : decode cX11_vacuum 190 = .ok (.iaload, 1) := by decide +kernel
theorem dX11_vacuum_191 : decode cX11_vacuum 191 = .ok (.invokevirtual 336, 3) := by decide +kernel
theorem dX11_vacuum_194 : decode cX11_vacuum 194 = .ok (.ifCond .ne 9, 3) := by decide +kernel
theorem dX11_vacuum_197 : decode cX11_vacuum 197 = .ok (.aload_n 0, 1) := by decide +kernel
theorem dX11_vacuum_198 : decode cX11_vacuum 198 = .ok (.iload 6, 2) := by decide +kernel
theorem dX11_vacuum_200 : decode cX11_vacuum 200 = .ok (.invokevirtual 339, 3) := by decide +kernel
theorem dX11_vacuum_203 : decode cX11_vacuum 203 = .ok (.iinc 6 (-1), 3) := by decide +kernel
theorem dX11_vacuum_206 : decode cX11_vacuum 206 = .ok (.goto (-72), 3) := by decide +kernel
theorem dX11_vacuum_209 : decode cX11_vacuum 209 = .ok (.iconst 0, 1) := by decide +kernel
theorem dX11_vacuum_210 : decode cX11_vacuum 210 = .ok (.istore 6, 2) := by decide +kernel
theorem dX11_vacuum_212 : decode cX11_vacuum 212 = .ok (.iload 6, 2) := by decide +kernel
theorem dX11_vacuum_214 : decode cX11_vacuum 214 = .ok (.bipush 100, 2) := by decide +kernel
theorem dX11_vacuum_216 : decode cX11_vacuum 216 = .ok (.if_icmp .ge 17, 3) := by decide +kernel
theorem dX11_vacuum_219 : decode cX11_vacuum 219 = .ok (.aload_n 0, 1) := by decide +kernel
theorem dX11_vacuum_220 : decode cX11_vacuum 220 = .ok (.getfield 144, 3) := by decide +kernel
theorem dX11_vacuum_223 : decode cX11_vacuum 223 = .ok (.iload 6, 2) := by decide +kernel
theorem dX11_vacuum_225 : decode cX11_vacuum 225 = .ok (.iconst 0, 1) := by decide +kernel
theorem dX11_vacuum_226 : decode cX11_vacuum 226 = .ok (.bastore, 1) := by decide +kernel
theorem dX11_vacuum_227 : decode cX11_vacuum 227 = .ok (.iinc 6 1, 3) := by decide +kernel
theorem dX11_vacuum_230 : decode cX11_vacuum 230 = .ok (.goto (-18), 3) := by decide +kernel
theorem dX11_vacuum_233 : decode cX11_vacuum 233 = .ok (.iload_n 3, 1) := by decide +kernel
theorem dX11_vacuum_234 : decode cX11_vacuum 234 = .ok (.istore 6, 2) := by decide +kernel
theorem dX11_vacuum_236 : decode cX11_vacuum 236 = .ok (.iload 6, 2) := by decide +kernel
theorem dX11_vacuum_238 : decode cX11_vacuum 238 = .ok (.iload_n 2, 1) := by decide +kernel
theorem dX11_vacuum_239 : decode cX11_vacuum 239 = .ok (.if_icmp .gt 46, 3) := by decide +kernel
theorem dX11_vacuum_242 : decode cX11_vacuum 242 = .ok (.aload_n 0, 1) := by decide +kernel
theorem dX11_vacuum_243 : decode cX11_vacuum 243 = .ok (.iload 6, 2) := by decide +kernel
theorem dX11_vacuum_245 : decode cX11_vacuum 245 = .ok (.invokevirtual 280, 3) := by decide +kernel
theorem dX11_vacuum_248 : decode cX11_vacuum 248 = .ok (.istore 4, 2) := by decide +kernel
theorem dX11_vacuum_250 : decode cX11_vacuum 250 = .ok (.iconst 0, 1) := by decide +kernel
theorem dX11_vacuum_251 : decode cX11_vacuum 251 = .ok (.istore 7, 2) := by decide +kernel
theorem dX11_vacuum_253 : decode cX11_vacuum 253 = .ok (.iload 7, 2) := by decide +kernel
theorem dX11_vacuum_255 : decode cX11_vacuum 255 = .ok (.aload_n 0, 1) := by decide +kernel
theorem dX11_vacuum_256 : decode cX11_vacuum 256 = .ok (.getfield 245, 3) := by decide +kernel
theorem dX11_vacuum_259 : decode cX11_vacuum 259 = .ok (.if_icmp .ge 20, 3) := by decide +kernel
theorem dX11_vacuum_262 : decode cX11_vacuum 262 = .ok (.aload_n 0, 1) := by decide +kernel
theorem dX11_vacuum_263 : decode cX11_vacuum 263 = .ok (.aload_n 0, 1) := by decide +kernel
theorem dX11_vacuum_264 : decode cX11_vacuum 264 = .ok (.getfield 59, 3) := by decide +kernel
theorem dX11_vacuum_267 : decode cX11_vacuum 267 = .ok (.iload 7, 2) := by decide +kernel
theorem dX11_vacuum_269 : decode cX11_vacuum 269 = .ok (.iaload, 1) := by decide +kernel
theorem dX11_vacuum_270 : decode cX11_vacuum 270 = .ok (.invokevirtual 342, 3) := by decide +kernel
theorem dX11_vacuum_273 : decode cX11_vacuum 273 = .ok (.iinc 7 1, 3) := by decide +kernel
theorem dX11_vacuum_276 : decode cX11_vacuum 276 = .ok (.goto (-23), 3) := by decide +kernel
theorem dX11_vacuum_279 : decode cX11_vacuum 279 = .ok (.iinc 6 1, 3) := by decide +kernel
theorem dX11_vacuum_282 : decode cX11_vacuum 282 = .ok (.goto (-46), 3) := by decide +kernel
theorem dX11_vacuum_285 : decode cX11_vacuum 285 = .ok (.iconst 0, 1) := by decide +kernel
theorem dX11_vacuum_286 : decode cX11_vacuum 286 = .ok (.istore 6, 2) := by decide +kernel
theorem dX11_vacuum_288 : decode cX11_vacuum 288 = .ok (.iload 6, 2) := by decide +kernel
theorem dX11_vacuum_290 : decode cX11_vacuum 290 = .ok (.iconst 4, 1) := by decide +kernel
theorem dX11_vacuum_291 : decode cX11_vacuum 291 = .ok (.if_icmp .ge 100, 3) := by decide +kernel
theorem dX11_vacuum_294 : decode cX11_vacuum 294 = .ok (.aload_n 0, 1) := by decide +kernel
theorem dX11_vacuum_295 : decode cX11_vacuum 295 = .ok (.getfield 65, 3) := by decide +kernel
theorem dX11_vacuum_298 : decode cX11_vacuum 298 = .ok (.iload 6, 2) := by decide +kernel
theorem dX11_vacuum_300 : decode cX11_vacuum 300 = .ok (.baload, 1) := by decide +kernel
theorem dX11_vacuum_301 : decode cX11_vacuum 301 = .ok (.ifCond .ne 6, 3) := by decide +kernel
theorem dX11_vacuum_304 : decode cX11_vacuum 304 = .ok (.goto 81, 3) := by decide +kernel
theorem dX11_vacuum_307 : decode cX11_vacuum 307 = .ok (.iconst 0, 1) := by decide +kernel
theorem dX11_vacuum_308 : decode cX11_vacuum 308 = .ok (.istore 7, 2) := by decide +kernel
theorem dX11_vacuum_310 : decode cX11_vacuum 310 = .ok (.iload 7, 2) := by decide +kernel
theorem dX11_vacuum_312 : decode cX11_vacuum 312 = .ok (.aload_n 0, 1) := by decide +kernel
theorem dX11_vacuum_313 : decode cX11_vacuum 313 = .ok (.getfield 126, 3) := by decide +kernel
theorem dX11_vacuum_316 : decode cX11_vacuum 316 = .ok (.iload 6, 2) := by decide +kernel
theorem dX11_vacuum_318 : decode cX11_vacuum 318 = .ok (.iaload, 1) := by decide +kernel
theorem dX11_vacuum_319 : decode cX11_vacuum 319 = .ok (.if_icmp .ge 27, 3) := by decide +kernel
theorem dX11_vacuum_322 : decode cX11_vacuum 322 = .ok (.aload_n 0, 1) := by decide +kernel
theorem dX11_vacuum_323 : decode cX11_vacuum 323 = .ok (.aload_n 0, 1) := by decide +kernel
theorem dX11_vacuum_324 : decode cX11_vacuum 324 = .ok (.getfield 123, 3) := by decide +kernel
theorem dX11_vacuum_327 : decode cX11_vacuum 327 = .ok (.sipush 200, 3) := by decide +kernel
theorem dX11_vacuum_330 : decode cX11_vacuum 330 = .ok (.iload 6, 2) := by decide +kernel
theorem dX11_vacuum_332 : decode cX11_vacuum 332 = .ok (.imul, 1) := by decide +kernel
theorem dX11_vacuum_333 : decode cX11_vacuum 333 = .ok (.iload 7, 2) := by decide +kernel
theorem dX11_vacuum_335 : decode cX11_vacuum 335 = .ok (.iadd, 1) := by decide +kernel
theorem dX11_vacuum_336 : decode cX11_vacuum 336 = .ok (.iaload, 1) := by decide +kernel
theorem dX11_vacuum_337 : decode cX11_vacuum 337 = .ok (.invokevirtual 342, 3) := by decide +kernel
theorem dX11_vacuum_340 : decode cX11_vacuum 340 = .ok (.iinc 7 1, 3) := by decide +kernel
theorem dX11_vacuum_343 : decode cX11_vacuum 343 = .ok (.goto (-33), 3) := by decide +kernel
theorem dX11_vacuum_346 : decode cX11_vacuum 346 = .ok (.iconst 0, 1) := by decide +kernel
theorem dX11_vacuum_347 : decode cX11_vacuum 347 = .ok (.istore 7, 2) := by decide +kernel
theorem dX11_vacuum_349 : decode cX11_vacuum 349 = .ok (.iload 7, 2) := by decide +kernel
theorem dX11_vacuum_351 : decode cX11_vacuum 351 = .ok (.aload_n 0, 1) := by decide +kernel
theorem dX11_vacuum_352 : decode cX11_vacuum 352 = .ok (.getfield 135, 3) := by decide +kernel
theorem dX11_vacuum_355 : decode cX11_vacuum 355 = .ok (.iload 6, 2) := by decide +kernel
theorem dX11_vacuum_357 : decode cX11_vacuum 357 = .ok (.iaload, 1) := by decide +kernel
theorem dX11_vacuum_358 : decode cX11_vacuum 358 = .ok (.if_icmp .ge 27, 3) := by decide +kernel
theorem dX11_vacuum_361 : decode cX11_vacuum 361 = .ok (.aload_n 0, 1) := by decide +kernel
theorem dX11_vacuum_362 : decode cX11_vacuum 362 = .ok (.aload_n 0, 1) := by decide +kernel
theorem dX11_vacuum_363 : decode cX11_vacuum 363 = .ok (.getfield 138, 3) := by decide +kernel
theorem dX11_vacuum_366 : decode cX11_vacuum 366 = .ok (.sipush 200, 3) := by decide +kernel
theorem dX11_vacuum_369 : decode cX11_vacuum 369 = .ok (.iload 6, 2) := by decide +kernel
theorem dX11_vacuum_371 : decode cX11_vacuum 371 = .ok (.imul, 1) := by decide +kernel
theorem dX11_vacuum_372 : decode cX11_vacuum 372 = .ok (.iload 7, 2) := by decide +kernel
theorem dX11_vacuum_374 : decode cX11_vacuum 374 = .ok (.iadd, 1) := by decide +kernel
theorem dX11_vacuum_375 : decode cX11_vacuum 375 = .ok (.iaload, 1) := by decide +kernel
theorem dX11_vacuum_376 : decode cX11_vacuum 376 = .ok (.invokevirtual 342, 3) := by decide +kernel
theorem dX11_vacuum_379 : decode cX11_vacuum 379 = .ok (.iinc 7 1, 3) := by decide +kernel
theorem dX11_vacuum_382 : decode cX11_vacuum 382 = .ok (.goto (-33), 3) := by decide +kernel
theorem dX11_vacuum_385 : decode cX11_vacuum 385 = .ok (.iinc 6 1, 3) := by decide +kernel
theorem dX11_vacuum_388 : decode cX11_vacuum 388 = .ok (.goto (-100), 3) := by decide +kernel
theorem dX11_vacuum_391 : decode cX11_vacuum 391 = .ok (.aload_n 0, 1) := by decide +kernel
theorem dX11_vacuum_392 : decode cX11_vacuum 392 = .ok (.getfield 150, 3) := by decide +kernel
theorem dX11_vacuum_395 : decode cX11_vacuum 395 = .ok (.iconst 1, 1) := by decide +kernel
theorem dX11_vacuum_396 : decode cX11_vacuum 396 = .ok (.isub, 1) := by decide +kernel
theorem dX11_vacuum_397 : decode cX11_vacuum 397 = .ok (.istore 6, 2) := by decide +kernel
theorem dX11_vacuum_399 : decode cX11_vacuum 399 = .ok (.iload 6, 2) := by decide +kernel
theorem dX11_vacuum_401 : decode cX11_vacuum 401 = .ok (.ifCond .lt 35, 3) := by decide +kernel
theorem dX11_vacuum_404 : decode cX11_vacuum 404 = .ok (.aload_n 0, 1) := by decide +kernel
theorem dX11_vacuum_405 : decode cX11_vacuum 405 = .ok (.getfield 7, 3) := by decide +kernel
theorem dX11_vacuum_408 : decode cX11_vacuum 408 = .ok (.iload 6, 2) := by decide +kernel
theorem dX11_vacuum_410 : decode cX11_vacuum 410 = .ok (.iaload, 1) := by decide +kernel
theorem dX11_vacuum_411 : decode cX11_vacuum 411 = .ok (.ifCond .ne 19, 3) := by decide +kernel
theorem dX11_vacuum_414 : decode cX11_vacuum 414 = .ok (.aload_n 0, 1) := by decide +kernel
theorem dX11_vacuum_415 : decode cX11_vacuum 415 = .ok (.getfield 144, 3) := by decide +kernel
theorem dX11_vacuum_418 : decode cX11_vacuum 418 = .ok (.iload 6, 2) := by decide +kernel
theorem dX11_vacuum_420 : decode cX11_vacuum 420 = .ok (.baload, 1) := by decide +kernel
theorem dX11_vacuum_421 : decode cX11_vacuum 421 = .ok (.ifCond .ne 9, 3) := by decide +kernel
theorem dX11_vacuum_424 : decode cX11_vacuum 424 = .ok (.aload_n 0, 1) := by decide +kernel
theorem dX11_vacuum_425 : decode cX11_vacuum 425 = .ok (.iload 6, 2) := by decide +kernel
theorem dX11_vacuum_427 : decode cX11_vacuum 427 = .ok (.invokevirtual 339, 3) := by decide +kernel
theorem dX11_vacuum_430 : decode cX11_vacuum 430 = .ok (.iinc 6 (-1), 3) := by decide +kernel
theorem dX11_vacuum_433 : decode cX11_vacuum 433 = .ok (.goto (-34), 3) := by decide +kernel
theorem dX11_vacuum_436 : decode cX11_vacuum 436 = .ok (.aload_n 0, 1) := by decide +kernel
theorem dX11_vacuum_437 : decode cX11_vacuum 437 = .ok (.getfield 172, 3) := by decide +kernel
theorem dX11_vacuum_440 : decode cX11_vacuum 440 = .ok (.iload 5, 2) := by decide +kernel
theorem dX11_vacuum_442 : decode cX11_vacuum 442 = .ok (.isub, 1) := by decide +kernel
theorem dX11_vacuum_443 : decode cX11_vacuum 443 = .ok (.ireturn, 1) := by decide +kernel
theorem dX11_isWanted_0 : decode cX11_isWanted 0 = .ok (.iconst 0, 1) := by decide +kernel
theorem dX11_isWanted_1 : decode cX11_isWanted 1 = .ok (.istore_n 2, 1) := by decide +kernel
theorem dX11_isWanted_2 : decode cX11_isWanted 2 = .ok (.iload_n 2, 1) := by decide +kernel
theorem dX11_isWanted_3 : decode cX11_isWanted 3 = .ok (.iconst 4, 1) := by decide +kernel
theorem dX11_isWanted_4 : decode cX11_isWanted 4 = .ok (.if_icmp .ge 39, 3) := by decide +kernel
theorem dX11_isWanted_7 : decode cX11_isWanted 7 = .ok (.aload_n 0, 1) := by decide +kernel
theorem dX11_isWanted_8 : decode cX11_isWanted 8 = .ok (.getfield 65, 3) := by decide +kernel
theorem dX11_isWanted_11 : decode cX11_isWanted 11 = .ok (.iload_n 2, 1) := by decide +kernel
theorem dX11_isWanted_12 : decode cX11_isWanted 12 = .ok (.baload, 1) := by decide +kernel
theorem dX11_isWanted_13 : decode cX11_isWanted 13 = .ok (.ifCond .eq 24, 3) := by decide +kernel
theorem dX11_isWanted_16 : decode cX11_isWanted 16 = .ok (.aload_n 0, 1) := by decide +kernel
theorem dX11_isWanted_17 : decode cX11_isWanted 17 = .ok (.getfield 68, 3) := by decide +kernel
theorem dX11_isWanted_20 : decode cX11_isWanted 20 = .ok (.iload_n 2, 1) := by decide +kernel
theorem dX11_isWanted_21 : decode cX11_isWanted 21 = .ok (.baload, 1) := by decide +kernel
theorem dX11_isWanted_22 : decode cX11_isWanted 22 = .ok (.ifCond .eq 15, 3) := by decide +kernel
theorem dX11_isWanted_25 : decode cX11_isWanted 25 = .ok (.iload_n 1, 1) := by decide +kernel
theorem dX11_isWanted_26 : decode cX11_isWanted 26 = .ok (.aload_n 0, 1) := by decide +kernel
theorem dX11_isWanted_27 : decode cX11_isWanted 27 = .ok (.getfield 74, 3) := by decide +kernel
theorem dX11_isWanted_30 : decode cX11_isWanted 30 = .ok (.iload_n 2, 1) := by decide +kernel
theorem dX11_isWanted_31 : decode cX11_isWanted 31 = .ok (.iaload, 1) := by decide +kernel
theorem dX11_isWanted_32 : decode cX11_isWanted 32 = .ok (.if_icmp .le 5, 3) := by decide +kernel
theorem dX11_isWanted_35 : decode cX11_isWanted 35 = .ok (.iconst 1, 1) := by decide +kernel
theorem dX11_isWanted_36 : decode cX11_isWanted 36 = .ok (.ireturn, 1) := by decide +kernel
theorem dX11_isWanted_37 : decode cX11_isWanted 37 = .ok (.iinc 2 1, 3) := by decide +kernel
theorem dX11_isWanted_40 : decode cX11_isWanted 40 = .ok (.goto (-38), 3) := by decide +kernel
theorem dX11_isWanted_43 : decode cX11_isWanted 43 = .ok (.iconst 0, 1) := by decide +kernel
theorem dX11_isWanted_44 : decode cX11_isWanted 44 = .ok (.ireturn, 1) := by decide +kernel
theorem dX11_files_0 : decode cX11_files 0 = .ok (.iload_n 1, 1) := by decide +kernel
theorem dX11_files_1 : decode cX11_files 1 = .ok (.iconst (-1), 1) := by decide +kernel
theorem dX11_files_2 : decode cX11_files 2 = .ok (.if_icmp .lt 18, 3) := by decide +kernel
theorem dX11_files_5 : decode cX11_files 5 = .ok (.aload_n 0, 1) := by decide +kernel
theorem dX11_files_6 : decode cX11_files 6 = .ok (.iload_n 1, 1) := by decide +kernel
theorem dX11_files_7 : decode cX11_files 7 = .ok (.invokevirtual 280, 3) := by decide +kernel
theorem dX11_files_10 : decode cX11_files 10 = .ok (.ifCond .eq 10, 3) := by decide +kernel
theorem dX11_files_13 : decode cX11_files 13 = .ok (.aload_n 0, 1) := by decide +kernel
theorem dX11_files_14 : decode cX11_files 14 = .ok (.getfield 245, 3) := by decide +kernel
theorem dX11_files_17 : decode cX11_files 17 = .ok (.goto 4, 3) := by decide +kernel
theorem dX11_files_20 : decode cX11_files 20 = .ok (.iconst (-1), 1) := by decide +kernel
theorem dX11_files_21 : decode cX11_files 21 = .ok (.ireturn, 1) := by decide +kernel
theorem dX11_file_0 : decode cX11_file 0 = .ok (.iload_n 1, 1) := by decide +kernel
theorem dX11_file_1 : decode cX11_file 1 = .ok (.iconst (-1), 1) := by decide +kernel
theorem dX11_file_2 : decode cX11_file 2 = .ok (.if_icmp .lt 32, 3) := by decide +kernel
theorem dX11_file_5 : decode cX11_file 5 = .ok (.aload_n 0, 1) := by decide +kernel
theorem dX11_file_6 : decode cX11_file 6 = .ok (.iload_n 1, 1) := by decide +kernel
theorem dX11_file_7 : decode cX11_file 7 = .ok (.invokevirtual 280, 3) := by decide +kernel
theorem dX11_file_10 : decode cX11_file 10 = .ok (.ifCond .eq 24, 3) := by decide +kernel
theorem dX11_file_13 : decode cX11_file 13 = .ok (.iload_n 2, 1) := by decide +kernel
theorem dX11_file_14 : decode cX11_file 14 = .ok (.ifCond .lt 20, 3) := by decide +kernel
theorem dX11_file_17 : decode cX11_file 17 = .ok (.iload_n 2, 1) := by decide +kernel
theorem dX11_file_18 : decode cX11_file 18 = .ok (.aload_n 0, 1) := by decide +kernel
theorem dX11_file_19 : decode cX11_file 19 = .ok (.getfield 245, 3) := by decide +kernel
theorem dX11_file_22 : decode cX11_file 22 = .ok (.if_icmp .ge 12, 3) := by decide +kernel
theorem dX11_file_25 : decode cX11_file 25 = .ok (.aload_n 0, 1) := by decide +kernel
theorem dX11_file_26 : decode cX11_file 26 = .ok (.getfield 59, 3) := by decide +kernel
theorem dX11_file_29 : decode cX11_file 29 = .ok (.iload_n 2, 1) := by decide +kernel
theorem dX11_file_30 : decode cX11_file 30 = .ok (.iaload, 1) := by decide +kernel
theorem dX11_file_31 : decode cX11_file 31 = .ok (.goto 4, 3) := by decide +kernel
theorem dX11_file_34 : decode cX11_file 34 = .ok (.iconst (-1), 1) := by decide +kernel
theorem dX11_file_35 : decode cX11_file 35 = .ok (.ireturn, 1) := by decide +kernel
theorem dX11_at_0 : decode cX11_at 0 = .ok (.iload_n 1, 1) := by decide +kernel
theorem dX11_at_1 : decode cX11_at 1 = .ok (.iconst (-1), 1) := by decide +kernel
theorem dX11_at_2 : decode cX11_at 2 = .ok (.if_icmp .lt 24, 3) := by decide +kernel
theorem dX11_at_5 : decode cX11_at 5 = .ok (.iload_n 2, 1) := by decide +kernel
theorem dX11_at_6 : decode cX11_at 6 = .ok (.ifCond .lt 20, 3) := by decide +kernel
theorem dX11_at_9 : decode cX11_at 9 = .ok (.iload_n 3, 1) := by decide +kernel
theorem dX11_at_10 : decode cX11_at 10 = .ok (.ifCond .lt 16, 3) := by decide +kernel
theorem dX11_at_13 : decode cX11_at 13 = .ok (.iload_n 3, 1) := by decide +kernel
theorem dX11_at_14 : decode cX11_at 14 = .ok (.iconst 3, 1) := by decide +kernel
theorem dX11_at_15 : decode cX11_at 15 = .ok (.if_icmp .gt 11, 3) := by decide +kernel
theorem dX11_at_18 : decode cX11_at 18 = .ok (.aload_n 0, 1) := by decide +kernel
theorem dX11_at_19 : decode cX11_at 19 = .ok (.iload_n 1, 1) := by decide +kernel
theorem dX11_at_20 : decode cX11_at 20 = .ok (.invokevirtual 280, 3) := by decide +kernel
theorem dX11_at_23 : decode cX11_at 23 = .ok (.ifCond .ne 5, 3) := by decide +kernel
theorem dX11_at_26 : decode cX11_at 26 = .ok (.iconst (-1), 1) := by decide +kernel
theorem dX11_at_27 : decode cX11_at 27 = .ok (.ireturn, 1) := by decide +kernel
theorem dX11_at_28 : decode cX11_at 28 = .ok (.iconst 0, 1) := by decide +kernel
theorem dX11_at_29 : decode cX11_at 29 = .ok (.istore 4, 2) := by decide +kernel
theorem dX11_at_31 : decode cX11_at 31 = .ok (.iconst 0, 1) := by decide +kernel
theorem dX11_at_32 : decode cX11_at 32 = .ok (.istore 5, 2) := by decide +kernel
theorem dX11_at_34 : decode cX11_at 34 = .ok (.iload 5, 2) := by decide +kernel
theorem dX11_at_36 : decode cX11_at 36 = .ok (.aload_n 0, 1) := by decide +kernel
theorem dX11_at_37 : decode cX11_at 37 = .ok (.getfield 245, 3) := by decide +kernel
theorem dX11_at_40 : decode cX11_at 40 = .ok (.if_icmp .ge 68, 3) := by decide +kernel
theorem dX11_at_43 : decode cX11_at 43 = .ok (.aload_n 0, 1) := by decide +kernel
theorem dX11_at_44 : decode cX11_at 44 = .ok (.iload 5, 2) := by decide +kernel
theorem dX11_at_46 : decode cX11_at 46 = .ok (.invokevirtual 286, 3) := by decide +kernel
theorem dX11_at_49 : decode cX11_at 49 = .ok (.ifCond .ne 6, 3) := by decide +kernel
theorem dX11_at_52 : decode cX11_at 52 = .ok (.goto 50, 3) := by decide +kernel
theorem dX11_at_55 : decode cX11_at 55 = .ok (.iload_n 2, 1) := by decide +kernel
theorem dX11_at_56 : decode cX11_at 56 = .ok (.iload 4, 2) := by decide +kernel
theorem dX11_at_58 : decode cX11_at 58 = .ok (.aload_n 0, 1) := by decide +kernel
theorem dX11_at_59 : decode cX11_at 59 = .ok (.getfield 196, 3) := by decide +kernel
theorem dX11_at_62 : decode cX11_at 62 = .ok (.iadd, 1) := by decide +kernel
theorem dX11_at_63 : decode cX11_at 63 = .ok (.if_icmp .ge 30, 3) := by decide +kernel
theorem dX11_at_66 : decode cX11_at 66 = .ok (.iload_n 3, 1) := by decide +kernel
theorem dX11_at_67 : decode cX11_at 67 = .ok (.ifCond .ne 10, 3) := by decide +kernel
theorem dX11_at_70 : decode cX11_at 70 = .ok (.aload_n 0, 1) := by decide +kernel
theorem dX11_at_71 : decode cX11_at 71 = .ok (.getfield 193, 3) := by decide +kernel
theorem dX11_at_74 : decode cX11_at 74 = .ok (.goto 18, 3) := by decide +kernel
theorem dX11_at_77 : decode cX11_at 77 = .ok (.aload_n 0, 1) := by decide +kernel
theorem dX11_at_78 : decode cX11_at 78 = .ok (.getfield 34, 3) := by decide +kernel
theorem dX11_at_81 : decode cX11_at 81 = .ok (.iconst 3, 1) := by decide +kernel
theorem dX11_at_82 : decode cX11_at 82 = .ok (.iload_n 2, 1) := by decide +kernel
theorem dX11_at_83 : decode cX11_at 83 = .ok (.iload 4, 2) := by decide +kernel
theorem dX11_at_85 : decode cX11_at 85 = .ok (.isub, 1) := by decide +kernel
theorem dX11_at_86 : decode cX11_at 86 = .ok (.imul, 1) := by decide +kernel
theorem dX11_at_87 : decode cX11_at 87 = .ok (.iload_n 3, 1) := by decide +kernel
theorem dX11_at_88 : decode cX11_at 88 = .ok (.iadd, 1) := by decide +kernel
theorem dX11_at_89 : decode cX11_at 89 = .ok (.iconst 1, 1) := by decide +kernel
theorem dX11_at_90 : decode cX11_at 90 = .ok (.isub, 1) := by decide +kernel
theorem dX11_at_91 : decode cX11_at 91 = .ok (.iaload, 1) := by decide +kernel
theorem dX11_at_92 : decode cX11_at 92 = .ok (.ireturn, 1) := by decide +kernel
theorem dX11_at_93 : decode cX11_at 93 = .ok (.iload 4, 2) := by decide +kernel
theorem dX11_at_95 : decode cX11_at 95 = .ok (.aload_n 0, 1) := by decide +kernel
theorem dX11_at_96 : decode cX11_at 96 = .ok (.getfield 196, 3) := by decide +kernel
theorem dX11_at_99 : decode cX11_at 99 = .ok (.iadd, 1) := by decide +kernel
theorem dX11_at_100 : decode cX11_at 100 = .ok (.istore 4, 2) := by decide +kernel
theorem dX11_at_102 : decode cX11_at 102 = .ok (.iinc 5 1, 3) := by decide +kernel
theorem dX11_at_105 : decode cX11_at 105 = .ok (.goto (-71), 3) := by decide +kernel
theorem dX11_at_108 : decode cX11_at 108 = .ok (.iconst (-1), 1) := by decide +kernel
theorem dX11_at_109 : decode cX11_at 109 = .ok (.ireturn, 1) := by decide +kernel
theorem dX11_find_0 : decode cX11_find 0 = .ok (.iload_n 1, 1) := by decide +kernel
theorem dX11_find_1 : decode cX11_find 1 = .ok (.iconst (-1), 1) := by decide +kernel
theorem dX11_find_2 : decode cX11_find 2 = .ok (.if_icmp .lt 29, 3) := by decide +kernel
theorem dX11_find_5 : decode cX11_find 5 = .ok (.iload_n 2, 1) := by decide +kernel
theorem dX11_find_6 : decode cX11_find 6 = .ok (.ifCond .lt 25, 3) := by decide +kernel
theorem dX11_find_9 : decode cX11_find 9 = .ok (.iload_n 2, 1) := by decide +kernel
theorem dX11_find_10 : decode cX11_find 10 = .ok (.iconst 2, 1) := by decide +kernel
theorem dX11_find_11 : decode cX11_find 11 = .ok (.if_icmp .gt 20, 3) := by decide +kernel
theorem dX11_find_14 : decode cX11_find 14 = .ok (.iload_n 3, 1) := by decide +kernel
theorem dX11_find_15 : decode cX11_find 15 = .ok (.ifCond .lt 16, 3) := by decide +kernel
theorem dX11_find_18 : decode cX11_find 18 = .ok (.iload_n 3, 1) := by decide +kernel
theorem dX11_find_19 : decode cX11_find 19 = .ok (.iconst 2, 1) := by decide +kernel
theorem dX11_find_20 : decode cX11_find 20 = .ok (.if_icmp .gt 11, 3) := by decide +kernel
theorem dX11_find_23 : decode cX11_find 23 = .ok (.aload_n 0, 1) := by decide +kernel
theorem dX11_find_24 : decode cX11_find 24 = .ok (.iload_n 1, 1) := by decide +kernel
theorem dX11_find_25 : decode cX11_find 25 = .ok (.invokevirtual 280, 3) := by decide +kernel
theorem dX11_find_28 : decode cX11_find 28 = .ok (.ifCond .ne 5, 3) := by decide +kernel
theorem dX11_find_31 : decode cX11_find 31 = .ok (.iconst (-1), 1) := by decide +kernel
theorem dX11_find_32 : decode cX11_find 32 = .ok (.ireturn, 1) := by decide +kernel
theorem dX11_find_33 : decode cX11_find 33 = .ok (.iconst 0, 1) := by decide +kernel
theorem dX11_find_34 : decode cX11_find 34 = .ok (.istore 5, 2) := by decide +kernel
theorem dX11_find_36 : decode cX11_find 36 = .ok (.iload 5, 2) := by decide +kernel
theorem dX11_find_38 : decode cX11_find 38 = .ok (.iconst 4, 1) := by decide +kernel
theorem dX11_find_39 : decode cX11_find 39 = .ok (.if_icmp .ge 17, 3) := by decide +kernel
theorem dX11_find_42 : decode cX11_find 42 = .ok (.aload_n 0, 1) := by decide +kernel
theorem dX11_find_43 : decode cX11_find 43 = .ok (.getfield 147, 3) := by decide +kernel
theorem dX11_find_46 : decode cX11_find 46 = .ok (.iload 5, 2) := by decide +kernel
theorem dX11_find_48 : decode cX11_find 48 = .ok (.iconst 0, 1) := by decide +kernel
theorem dX11_find_49 : decode cX11_find 49 = .ok (.iastore, 1) := by decide +kernel
theorem dX11_find_50 : decode cX11_find 50 = .ok (.iinc 5 1, 3) := by decide +kernel
theorem dX11_find_53 : decode cX11_find 53 = .ok (.goto (-17), 3) := by decide +kernel
theorem dX11_find_56 : decode cX11_find 56 = .ok (.iconst 0, 1) := by decide +kernel
theorem dX11_find_57 : decode cX11_find 57 = .ok (.istore 5, 2) := by decide +kernel
theorem dX11_find_59 : decode cX11_find 59 = .ok (.iconst 0, 1) := by decide +kernel
theorem dX11_find_60 : decode cX11_find 60 = .ok (.istore 6, 2) := by decide +kernel
theorem dX11_find_62 : decode cX11_find 62 = .ok (.iload 6, 2) := by decide +kernel
theorem dX11_find_64 : decode cX11_find 64 = .ok (.aload_n 0, 1) := by decide +kernel
theorem dX11_find_65 : decode cX11_find 65 = .ok (.getfield 245, 3) := by decide +kernel
theorem dX11_find_68 : decode cX11_find 68 = .ok (.if_icmp .ge 132, 3) := by decide +kernel
theorem dX11_find_71 : decode cX11_find 71 = .ok (.aload_n 0, 1) := by decide +kernel
theorem dX11_find_72 : decode cX11_find 72 = .ok (.iload 6, 2) := by decide +kernel
theorem dX11_find_74 : decode cX11_find 74 = .ok (.invokevirtual 286, 3) := by decide +kernel
theorem dX11_find_77 : decode cX11_find 77 = .ok (.istore 7, 2) := by decide +kernel
theorem dX11_find_79 : decode cX11_find 79 = .ok (.iload 7, 2) := by decide +kernel
theorem dX11_find_81 : decode cX11_find 81 = .ok (.ifCond .eq 18, 3) := by decide +kernel
theorem dX11_find_84 : decode cX11_find 84 = .ok (.aload_n 0, 1) := by decide +kernel
theorem dX11_find_85 : decode cX11_find 85 = .ok (.iload_n 2, 1) := by decide +kernel
theorem dX11_find_86 : decode cX11_find 86 = .ok (.iload_n 3, 1) := by decide +kernel
theorem dX11_find_87 : decode cX11_find 87 = .ok (.iload 4, 2) := by decide +kernel
theorem dX11_find_89 : decode cX11_find 89 = .ok (.invokevirtual 301, 3) := by decide +kernel
theorem dX11_find_92 : decode cX11_find 92 = .ok (.ifCond .eq 7, 3) := by decide +kernel
theorem dX11_find_95 : decode cX11_find 95 = .ok (.iconst 1, 1) := by decide +kernel
theorem dX11_find_96 : decode cX11_find 96 = .ok (.goto 4, 3) := by decide +kernel
theorem dX11_find_99 : decode cX11_find 99 = .ok (.iconst 0, 1) := by decide +kernel
theorem dX11_find_100 : decode cX11_find 100 = .ok (.istore 8, 2) := by decide +kernel
theorem dX11_find_102 : decode cX11_find 102 = .ok (.aload_n 0, 1) := by decide +kernel
theorem dX11_find_103 : decode cX11_find 103 = .ok (.getfield 147, 3) := by decide +kernel
theorem dX11_find_106 : decode cX11_find 106 = .ok (.iload 8, 2) := by decide +kernel
theorem dX11_find_108 : decode cX11_find 108 = .ok (.ifCond .eq 7, 3) := by decide +kernel
theorem dX11_find_111 : decode cX11_find 111 = .ok (.iconst 0, 1) := by decide +kernel
theorem dX11_find_112 : decode cX11_find 112 = .ok (.goto 13, 3) := by decide +kernel
theorem dX11_find_115 : decode cX11_find 115 = .ok (.iload 7, 2) := by decide +kernel
theorem dX11_find_117 : decode cX11_find 117 = .ok (.ifCond .eq 7, 3) := by decide +kernel
theorem dX11_find_120 : decode cX11_find 120 = .ok (.iconst 1, 1) := by decide +kernel
theorem dX11_find_121 : decode cX11_find 121 = .ok (.goto 4, 3) := by decide +kernel
theorem dX11_find_124 : decode cX11_find 124 = .ok (.iconst 2, 1) := by decide +kernel
theorem dX11_find_125 : decode cX11_find 125 = .ok (.dup2, 1) := by decide +kernel
theorem dX11_find_126 : decode cX11_find 126 = .ok (.iaload, 1) := by decide +kernel
theorem dX11_find_127 : decode cX11_find 127 = .ok (.iconst 1, 1) := by decide +kernel
theorem dX11_find_128 : decode cX11_find 128 = .ok (.iadd, 1) := by decide +kernel
theorem dX11_find_129 : decode cX11_find 129 = .ok (.iastore, 1) := by decide +kernel
theorem dX11_find_130 : decode cX11_find 130 = .ok (.iconst 0, 1) := by decide +kernel
theorem dX11_find_131 : decode cX11_find 131 = .ok (.istore 9, 2) := by decide +kernel
theorem dX11_find_133 : decode cX11_find 133 = .ok (.iload 8, 2) := by decide +kernel
theorem dX11_find_135 : decode cX11_find 135 = .ok (.ifCond .eq 59, 3) := by decide +kernel
theorem dX11_find_138 : decode cX11_find 138 = .ok (.iload 9, 2) := by decide +kernel
theorem dX11_find_140 : decode cX11_find 140 = .ok (.aload_n 0, 1) := by decide +kernel
theorem dX11_find_141 : decode cX11_find 141 = .ok (.getfield 196, 3) := by decide +kernel
theorem dX11_find_144 : decode cX11_find 144 = .ok (.if_icmp .ge 50, 3) := by decide +kernel
theorem dX11_find_147 : decode cX11_find 147 = .ok (.aload_n 0, 1) := by decide +kernel
theorem dX11_find_148 : decode cX11_find 148 = .ok (.getfield 34, 3) := by decide +kernel
theorem dX11_find_151 : decode cX11_find 151 = .ok (.iconst 3, 1) := by decide +kernel
theorem dX11_find_152 : decode cX11_find 152 = .ok (.iload 9, 2) := by decide +kernel
theorem dX11_find_154 : decode cX11_find 154 = .ok (.imul, 1) := by decide +kernel
theorem dX11_find_155 : decode cX11_find 155 = .ok (.iload_n 2, 1) := by decide +kernel
theorem dX11_find_156 : decode cX11_find 156 = .ok (.iadd, 1) := by decide +kernel
theorem dX11_find_157 : decode cX11_find 157 = .ok (.iaload, 1) := by decide +kernel
theorem dX11_find_158 : decode cX11_find 158 = .ok (.istore 10, 2) := by decide +kernel
theorem dX11_find_160 : decode cX11_find 160 = .ok (.iload 10, 2) := by decide +kernel
theorem dX11_find_162 : decode cX11_find 162 = .ok (.iload_n 3, 1) := by decide +kernel
theorem dX11_find_163 : decode cX11_find 163 = .ok (.iload 4, 2) := by decide +kernel
theorem dX11_find_165 : decode cX11_find 165 = .ok (.invokestatic 304, 3) := by decide +kernel
theorem dX11_find_168 : decode cX11_find 168 = .ok (.ifCond .ne 6, 3) := by decide +kernel
theorem dX11_find_171 : decode cX11_find 171 = .ok (.goto 17, 3) := by decide +kernel
theorem dX11_find_174 : decode cX11_find 174 = .ok (.iinc 5 1, 3) := by decide +kernel
theorem dX11_find_177 : decode cX11_find 177 = .ok (.aload_n 0, 1) := by decide +kernel
theorem dX11_find_178 : decode cX11_find 178 = .ok (.getfield 147, 3) := by decide +kernel
theorem dX11_find_181 : decode cX11_find 181 = .ok (.iconst 3, 1) := by decide +kernel
theorem dX11_find_182 : decode cX11_find 182 = .ok (.dup2, 1) := by decide +kernel
theorem dX11_find_183 : decode cX11_find 183 = .ok (.iaload, 1) := by decide +kernel
theorem dX11_find_184 : decode cX11_find 184 = .ok (.iload 10, 2) := by decide +kernel
theorem dX11_find_186 : decode cX11_find 186 = .ok (.iadd, 1) := by decide +kernel
theorem dX11_find_187 : decode cX11_find 187 = .ok (.iastore, 1) := by decide +kernel
theorem dX11_find_188 : decode cX11_find 188 = .ok (.iinc 9 1, 3) := by decide +kernel
theorem dX11_find_191 : decode cX11_find 191 = .ok (.goto (-58), 3) := by decide +kernel
theorem dX11_find_194 : decode cX11_find 194 = .ok (.iinc 6 1, 3) := by decide +kernel
theorem dX11_find_197 : decode cX11_find 197 = .ok (.goto (-135), 3) := by decide +kernel
theorem dX11_find_200 : decode cX11_find 200 = .ok (.iload 5, 2) := by decide +kernel
theorem dX11_find_202 : decode cX11_find 202 = .ok (.ireturn, 1) := by decide +kernel
theorem dX11_found_0 : decode cX11_found 0 = .ok (.iload_n 1, 1) := by decide +kernel
theorem dX11_found_1 : decode cX11_found 1 = .ok (.ifCond .lt 17, 3) := by decide +kernel
theorem dX11_found_4 : decode cX11_found 4 = .ok (.iload_n 1, 1) := by decide +kernel
theorem dX11_found_5 : decode cX11_found 5 = .ok (.iconst 3, 1) := by decide +kernel
theorem dX11_found_6 : decode cX11_found 6 = .ok (.if_icmp .gt 12, 3) := by decide +kernel
theorem dX11_found_9 : decode cX11_found 9 = .ok (.aload_n 0, 1) := by decide +kernel
theorem dX11_found_10 : decode cX11_found 10 = .ok (.getfield 147, 3) := by decide +kernel
theorem dX11_found_13 : decode cX11_found 13 = .ok (.iload_n 1, 1) := by decide +kernel
theorem dX11_found_14 : decode cX11_found 14 = .ok (.iaload, 1) := by decide +kernel
theorem dX11_found_15 : decode cX11_found 15 = .ok (.goto 4, 3) := by decide +kernel
theorem dX11_found_18 : decode cX11_found 18 = .ok (.iconst (-1), 1) := by decide +kernel
theorem dX11_found_19 : decode cX11_found 19 = .ok (.ireturn, 1) := by decide +kernel
theorem dX11_size_0 : decode cX11_size 0 = .ok (.aload_n 0, 1) := by decide +kernel
theorem dX11_size_1 : decode cX11_size 1 = .ok (.iload_n 1, 1) := by decide +kernel
theorem dX11_size_2 : decode cX11_size 2 = .ok (.iload_n 2, 1) := by decide +kernel
theorem dX11_size_3 : decode cX11_size 3 = .ok (.invokevirtual 165, 3) := by decide +kernel
theorem dX11_size_6 : decode cX11_size 6 = .ok (.istore_n 3, 1) := by decide +kernel
theorem dX11_size_7 : decode cX11_size 7 = .ok (.iload_n 3, 1) := by decide +kernel
theorem dX11_size_8 : decode cX11_size 8 = .ok (.ifCond .ge 7, 3) := by decide +kernel
theorem dX11_size_11 : decode cX11_size 11 = .ok (.iconst (-1), 1) := by decide +kernel
theorem dX11_size_12 : decode cX11_size 12 = .ok (.goto 9, 3) := by decide +kernel
theorem dX11_size_15 : decode cX11_size 15 = .ok (.aload_n 0, 1) := by decide +kernel
theorem dX11_size_16 : decode cX11_size 16 = .ok (.getfield 16, 3) := by decide +kernel
theorem dX11_size_19 : decode cX11_size 19 = .ok (.iload_n 3, 1) := by decide +kernel
theorem dX11_size_20 : decode cX11_size 20 = .ok (.iaload, 1) := by decide +kernel
theorem dX11_size_21 : decode cX11_size 21 = .ok (.ireturn, 1) := by decide +kernel
theorem dX11_octet_0 : decode cX11_octet 0 = .ok (.aload_n 0, 1) := by decide +kernel
theorem dX11_octet_1 : decode cX11_octet 1 = .ok (.iload_n 1, 1) := by decide +kernel
theorem dX11_octet_2 : decode cX11_octet 2 = .ok (.iload_n 2, 1) := by decide +kernel
theorem dX11_octet_3 : decode cX11_octet 3 = .ok (.invokevirtual 165, 3) := by decide +kernel
theorem dX11_octet_6 : decode cX11_octet 6 = .ok (.istore 4, 2) := by decide +kernel
theorem dX11_octet_8 : decode cX11_octet 8 = .ok (.iload 4, 2) := by decide +kernel
theorem dX11_octet_10 : decode cX11_octet 10 = .ok (.ifCond .lt 18, 3) := by decide +kernel
theorem dX11_octet_13 : decode cX11_octet 13 = .ok (.iload_n 3, 1) := by decide +kernel
theorem dX11_octet_14 : decode cX11_octet 14 = .ok (.ifCond .lt 14, 3) := by decide +kernel
theorem dX11_octet_17 : decode cX11_octet 17 = .ok (.iload_n 3, 1) := by decide +kernel
theorem dX11_octet_18 : decode cX11_octet 18 = .ok (.aload_n 0, 1) := by decide +kernel
theorem dX11_octet_19 : decode cX11_octet 19 = .ok (.getfield 16, 3) := by decide +kernel
theorem dX11_octet_22 : decode cX11_octet 22 = .ok (.iload 4, 2) := by decide +kernel
theorem dX11_octet_24 : decode cX11_octet 24 = .ok (.iaload, 1) := by decide +kernel
theorem dX11_octet_25 : decode cX11_octet 25 = .ok (.if_icmp .lt 7, 3) := by decide +kernel
theorem dX11_octet_28 : decode cX11_octet 28 = .ok (.iconst (-1), 1) := by decide +kernel
theorem dX11_octet_29 : decode cX11_octet 29 = .ok (.goto 20, 3) := by decide +kernel
theorem dX11_octet_32 : decode cX11_octet 32 = .ok (.aload_n 0, 1) := by decide +kernel
theorem dX11_octet_33 : decode cX11_octet 33 = .ok (.getfield 20, 3) := by decide +kernel
theorem dX11_octet_36 : decode cX11_octet 36 = .ok (.sipush 1400, 3) := by decide +kernel
theorem dX11_octet_39 : decode cX11_octet 39 = .ok (.iload 4, 2) := by decide +kernel
theorem dX11_octet_41 : decode cX11_octet 41 = .ok (.imul, 1) := by decide +kernel
theorem dX11_octet_42 : decode cX11_octet 42 = .ok (.iload_n 3, 1) := by decide +kernel
theorem dX11_octet_43 : decode cX11_octet 43 = .ok (.iadd, 1) := by decide +kernel
theorem dX11_octet_44 : decode cX11_octet 44 = .ok (.baload, 1) := by decide +kernel
theorem dX11_octet_45 : decode cX11_octet 45 = .ok (.sipush 255, 3) := by decide +kernel
theorem dX11_octet_48 : decode cX11_octet 48 = .ok (.iand, 1) := by decide +kernel
theorem dX11_octet_49 : decode cX11_octet 49 = .ok (.ireturn, 1) := by decide +kernel
theorem dX11_spoil_0 : decode cX11_spoil 0 = .ok (.aload_n 0, 1) := by decide +kernel
theorem dX11_spoil_1 : decode cX11_spoil 1 = .ok (.iload_n 1, 1) := by decide +kernel
theorem dX11_spoil_2 : decode cX11_spoil 2 = .ok (.iload_n 2, 1) := by decide +kernel
theorem dX11_spoil_3 : decode cX11_spoil 3 = .ok (.iload_n 3, 1) := by decide +kernel
theorem dX11_spoil_4 : decode cX11_spoil 4 = .ok (.invokevirtual 345, 3) := by decide +kernel
theorem dX11_spoil_7 : decode cX11_spoil 7 = .ok (.istore 5, 2) := by decide +kernel
theorem dX11_spoil_9 : decode cX11_spoil 9 = .ok (.iload 5, 2) := by decide +kernel
theorem dX11_spoil_11 : decode cX11_spoil 11 = .ok (.ifCond .lt 23, 3) := by decide +kernel
theorem dX11_spoil_14 : decode cX11_spoil 14 = .ok (.aload_n 0, 1) := by decide +kernel
theorem dX11_spoil_15 : decode cX11_spoil 15 = .ok (.getfield 20, 3) := by decide +kernel
theorem dX11_spoil_18 : decode cX11_spoil 18 = .ok (.sipush 1400, 3) := by decide +kernel
theorem dX11_spoil_21 : decode cX11_spoil 21 = .ok (.aload_n 0, 1) := by decide +kernel
theorem dX11_spoil_22 : decode cX11_spoil 22 = .ok (.iload_n 1, 1) := by decide +kernel
theorem dX11_spoil_23 : decode cX11_spoil 23 = .ok (.iload_n 2, 1) := by decide +kernel
theorem dX11_spoil_24 : decode cX11_spoil 24 = .ok (.invokevirtual 165, 3) := by decide +kernel
theorem dX11_spoil_27 : decode cX11_spoil 27 = .ok (.imul, 1) := by decide +kernel
theorem dX11_spoil_28 : decode cX11_spoil 28 = .ok (.iload_n 3, 1) := by decide +kernel
theorem dX11_spoil_29 : decode cX11_spoil 29 = .ok (.iadd, 1) := by decide +kernel
theorem dX11_spoil_30 : decode cX11_spoil 30 = .ok (.iload 4, 2) := by decide +kernel
theorem dX11_spoil_32 : decode cX11_spoil 32 = .ok (.i2b, 1) := by decide +kernel
theorem dX11_spoil_33 : decode cX11_spoil 33 = .ok (.bastore, 1) := by decide +kernel
theorem dX11_spoil_34 : decode cX11_spoil 34 = .ok (.iload 5, 2) := by decide +kernel
theorem dX11_spoil_36 : decode cX11_spoil 36 = .ok (.ireturn, 1) := by decide +kernel
theorem dX11_count_0 : decode cX11_count 0 = .ok (.iconst 0, 1) := by decide +kernel
theorem dX11_count_1 : decode cX11_count 1 = .ok (.istore_n 2, 1) := by decide +kernel
theorem dX11_count_2 : decode cX11_count 2 = .ok (.iload_n 1, 1) := by decide +kernel
theorem dX11_count_3 : decode cX11_count 3 = .ok (.tableswitch 116 0 7 #[45, 50, 55, 60, 96, 101, 106, 111], 45) := by decide +kernel
theorem dX11_count_48 : decode cX11_count 48 = .ok (.aload_n 0, 1) := by decide +kernel
theorem dX11_count_49 : decode cX11_count 49 = .ok (.getfield 150, 3) := by decide +kernel
theorem dX11_count_52 : decode cX11_count 52 = .ok (.ireturn, 1) := by decide +kernel
theorem dX11_count_53 : decode cX11_count 53 = .ok (.aload_n 0, 1) := by decide +kernel
theorem dX11_count_54 : decode cX11_count 54 = .ok (.getfield 169, 3) := by decide +kernel
theorem dX11_count_57 : decode cX11_count 57 = .ok (.ireturn, 1) := by decide +kernel
theorem dX11_count_58 : decode cX11_count 58 = .ok (.aload_n 0, 1) := by decide +kernel
theorem dX11_count_59 : decode cX11_count 59 = .ok (.getfield 307, 3) := by decide +kernel
theorem dX11_count_62 : decode cX11_count 62 = .ok (.ireturn, 1) := by decide +kernel
theorem dX11_count_63 : decode cX11_count 63 = .ok (.iconst 0, 1) := by decide +kernel
theorem dX11_count_64 : decode cX11_count 64 = .ok (.istore_n 3, 1) := by decide +kernel
theorem dX11_count_65 : decode cX11_count 65 = .ok (.iload_n 3, 1) := by decide +kernel
theorem dX11_count_66 : decode cX11_count 66 = .ok (.aload_n 0, 1) := by decide +kernel
theorem dX11_count_67 : decode cX11_count 67 = .ok (.getfield 150, 3) := by decide +kernel
theorem dX11_count_70 : decode cX11_count 70 = .ok (.if_icmp .ge 27, 3) := by decide +kernel
theorem dX11_count_73 : decode cX11_count 73 = .ok (.iload_n 2, 1) := by decide +kernel
theorem dX11_count_74 : decode cX11_count 74 = .ok (.aload_n 0, 1) := by decide +kernel
theorem dX11_count_75 : decode cX11_count 75 = .ok (.getfield 7, 3) := by decide +kernel
theorem dX11_count_78 : decode cX11_count 78 = .ok (.iload_n 3, 1) := by decide +kernel
theorem dX11_count_79 : decode cX11_count 79 = .ok (.iaload, 1) := by decide +kernel
theorem dX11_count_80 : decode cX11_count 80 = .ok (.iconst 2, 1) := by decide +kernel
theorem dX11_count_81 : decode cX11_count 81 = .ok (.if_icmp .ne 7, 3) := by decide +kernel
theorem dX11_count_84 : decode cX11_count 84 = .ok (.iconst 1, 1) := by decide +kernel
theorem dX11_count_85 : decode cX11_count 85 = .ok (.goto 4, 3) := by decide +kernel
theorem dX11_count_88 : decode cX11_count 88 = .ok (.iconst 0, 1) := by decide +kernel
theorem dX11_count_89 : decode cX11_count 89 = .ok (.iadd, 1) := by decide +kernel
theorem dX11_count_90 : decode cX11_count 90 = .ok (.istore_n 2, 1) := by decide +kernel
theorem dX11_count_91 : decode cX11_count 91 = .ok (.iinc 3 1, 3) := by decide +kernel
theorem dX11_count_94 : decode cX11_count 94 = .ok (.goto (-29), 3) := by decide +kernel
theorem dX11_count_97 : decode cX11_count 97 = .ok (.iload_n 2, 1) := by decide +kernel
theorem dX11_count_98 : decode cX11_count 98 = .ok (.ireturn, 1) := by decide +kernel
theorem dX11_count_99 : decode cX11_count 99 = .ok (.aload_n 0, 1) := by decide +kernel
theorem dX11_count_100 : decode cX11_count 100 = .ok (.getfield 318, 3) := by decide +kernel
theorem dX11_count_103 : decode cX11_count 103 = .ok (.ireturn, 1) := by decide +kernel
theorem dX11_count_104 : decode cX11_count 104 = .ok (.aload_n 0, 1) := by decide +kernel
theorem dX11_count_105 : decode cX11_count 105 = .ok (.getfield 313, 3) := by decide +kernel
theorem dX11_count_108 : decode cX11_count 108 = .ok (.ireturn, 1) := by decide +kernel
theorem dX11_count_109 : decode cX11_count 109 = .ok (.aload_n 0, 1) := by decide +kernel
theorem dX11_count_110 : decode cX11_count 110 = .ok (.getfield 277, 3) := by decide +kernel
theorem dX11_count_113 : decode cX11_count 113 = .ok (.ireturn, 1) := by decide +kernel
theorem dX11_count_114 : decode cX11_count 114 = .ok (.aload_n 0, 1) := by decide +kernel
theorem dX11_count_115 : decode cX11_count 115 = .ok (.getfield 172, 3) := by decide +kernel
theorem dX11_count_118 : decode cX11_count 118 = .ok (.ireturn, 1) := by decide +kernel
theorem dX11_count_119 : decode cX11_count 119 = .ok (.iconst (-1), 1) := by decide +kernel
theorem dX11_count_120 : decode cX11_count 120 = .ok (.ireturn, 1) := by decide +kernel
