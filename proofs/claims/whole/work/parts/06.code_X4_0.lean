theorem dX4_init_0 : decode cX4_init 0 = .ok (.aload_n 0, 1) := by decide +kernel
theorem dX4_init_1 : decode cX4_init 1 = .ok (.invokespecial 3, 3) := by decide +kernel
theorem dX4_init_4 : decode cX4_init 4 = .ok (.aload_n 0, 1) := by decide +kernel
theorem dX4_init_5 : decode cX4_init 5 = .ok (.bipush 100, 2) := by decide +kernel
theorem dX4_init_7 : decode cX4_init 7 = .ok (.newarray .int, 2) := by decide +kernel
theorem dX4_init_9 : decode cX4_init 9 = .ok (.putfield 9, 3) := by decide +kernel
theorem dX4_init_12 : decode cX4_init 12 = .ok (.aload_n 0, 1) := by decide +kernel
theorem dX4_init_13 : decode cX4_init 13 = .ok (.new 15, 3) := by decide +kernel
theorem dX4_init_16 : decode cX4_init 16 = .ok (.dup, 1) := by decide +kernel
theorem dX4_init_17 : decode cX4_init 17 = .ok (.invokespecial 17, 3) := by decide +kernel
theorem dX4_init_20 : decode cX4_init 20 = .ok (.putfield 18, 3) := by decide +kernel
theorem dX4_init_23 : decode cX4_init 23 = .ok (.aload_n 0, 1) := by decide +kernel
theorem dX4_init_24 : decode cX4_init 24 = .ok (.bipush 100, 2) := by decide +kernel
theorem dX4_init_26 : decode cX4_init 26 = .ok (.newarray .int, 2) := by decide +kernel
theorem dX4_init_28 : decode cX4_init 28 = .ok (.putfield 22, 3) := by decide +kernel
theorem dX4_init_31 : decode cX4_init 31 = .ok (.aload_n 0, 1) := by decide +kernel
theorem dX4_init_32 : decode cX4_init 32 = .ok (.bipush 100, 2) := by decide +kernel
theorem dX4_init_34 : decode cX4_init 34 = .ok (.newarray .int, 2) := by decide +kernel
theorem dX4_init_36 : decode cX4_init 36 = .ok (.putfield 25, 3) := by decide +kernel
theorem dX4_init_39 : decode cX4_init 39 = .ok (.aload_n 0, 1) := by decide +kernel
theorem dX4_init_40 : decode cX4_init 40 = .ok (.bipush 100, 2) := by decide +kernel
theorem dX4_init_42 : decode cX4_init 42 = .ok (.newarray .int, 2) := by decide +kernel
theorem dX4_init_44 : decode cX4_init 44 = .ok (.putfield 28, 3) := by decide +kernel
theorem dX4_init_47 : decode cX4_init 47 = .ok (.return_, 1) := by decide +kernel
theorem dX4_clear_0 : decode cX4_clear 0 = .ok (.aload_n 0, 1) := by decide +kernel
theorem dX4_clear_1 : decode cX4_clear 1 = .ok (.iconst 0, 1) := by decide +kernel
theorem dX4_clear_2 : decode cX4_clear 2 = .ok (.putfield 31, 3) := by decide +kernel
theorem dX4_clear_5 : decode cX4_clear 5 = .ok (.aload_n 0, 1) := by decide +kernel
theorem dX4_clear_6 : decode cX4_clear 6 = .ok (.getfield 18, 3) := by decide +kernel
theorem dX4_clear_9 : decode cX4_clear 9 = .ok (.invokevirtual 35, 3) := by decide +kernel
theorem dX4_clear_12 : decode cX4_clear 12 = .ok (.aload_n 0, 1) := by decide +kernel
theorem dX4_clear_13 : decode cX4_clear 13 = .ok (.iconst 0, 1) := by decide +kernel
theorem dX4_clear_14 : decode cX4_clear 14 = .ok (.putfield 38, 3) := by decide +kernel
theorem dX4_clear_17 : decode cX4_clear 17 = .ok (.aload_n 0, 1) := by decide +kernel
theorem dX4_clear_18 : decode cX4_clear 18 = .ok (.iconst 0, 1) := by decide +kernel
theorem dX4_clear_19 : decode cX4_clear 19 = .ok (.putfield 41, 3) := by decide +kernel
theorem dX4_clear_22 : decode cX4_clear 22 = .ok (.return_, 1) := by decide +kernel
theorem dX4_isEmpty_0 : decode cX4_isEmpty 0 = .ok (.aload_n 0, 1) := by decide +kernel
theorem dX4_isEmpty_1 : decode cX4_isEmpty 1 = .ok (.getfield 31, 3) := by decide +kernel
theorem dX4_isEmpty_4 : decode cX4_isEmpty 4 = .ok (.ifCond .ne 14, 3) := by decide +kernel
theorem dX4_isEmpty_7 : decode cX4_isEmpty 7 = .ok (.aload_n 0, 1) := by decide +kernel
theorem dX4_isEmpty_8 : decode cX4_isEmpty 8 = .ok (.getfield 38, 3) := by decide +kernel
theorem dX4_isEmpty_11 : decode cX4_isEmpty 11 = .ok (.ifCond .ne 7, 3) := by decide +kernel
theorem dX4_isEmpty_14 : decode cX4_isEmpty 14 = .ok (.iconst 1, 1) := by decide +kernel
theorem dX4_isEmpty_15 : decode cX4_isEmpty 15 = .ok (.goto 4, 3) := by decide +kernel
theorem dX4_isEmpty_18 : decode cX4_isEmpty 18 = .ok (.iconst 0, 1) := by decide +kernel
theorem dX4_isEmpty_19 : decode cX4_isEmpty 19 = .ok (.ireturn, 1) := by decide +kernel
theorem dX4_pending_0 : decode cX4_pending 0 = .ok (.aload_n 0, 1) := by decide +kernel
theorem dX4_pending_1 : decode cX4_pending 1 = .ok (.getfield 38, 3) := by decide +kernel
theorem dX4_pending_4 : decode cX4_pending 4 = .ok (.aload_n 0, 1) := by decide +kernel
theorem dX4_pending_5 : decode cX4_pending 5 = .ok (.getfield 41, 3) := by decide +kernel
theorem dX4_pending_8 : decode cX4_pending 8 = .ok (.isub, 1) := by decide +kernel
theorem dX4_pending_9 : decode cX4_pending 9 = .ok (.ireturn, 1) := by decide +kernel
theorem dX4_addRemoved_0 : decode cX4_addRemoved 0 = .ok (.aload_n 0, 1) := by decide +kernel
theorem dX4_addRemoved_1 : decode cX4_addRemoved 1 = .ok (.getfield 31, 3) := by decide +kernel
theorem dX4_addRemoved_4 : decode cX4_addRemoved 4 = .ok (.aload_n 0, 1) := by decide +kernel
theorem dX4_addRemoved_5 : decode cX4_addRemoved 5 = .ok (.getfield 9, 3) := by decide +kernel
theorem dX4_addRemoved_8 : decode cX4_addRemoved 8 = .ok (.arraylength, 1) := by decide +kernel
theorem dX4_addRemoved_9 : decode cX4_addRemoved 9 = .ok (.if_icmp .ge 23, 3) := by decide +kernel
theorem dX4_addRemoved_12 : decode cX4_addRemoved 12 = .ok (.aload_n 0, 1) := by decide +kernel
theorem dX4_addRemoved_13 : decode cX4_addRemoved 13 = .ok (.getfield 9, 3) := by decide +kernel
theorem dX4_addRemoved_16 : decode cX4_addRemoved 16 = .ok (.aload_n 0, 1) := by decide +kernel
theorem dX4_addRemoved_17 : decode cX4_addRemoved 17 = .ok (.getfield 31, 3) := by decide +kernel
theorem dX4_addRemoved_20 : decode cX4_addRemoved 20 = .ok (.iload_n 1, 1) := by decide +kernel
theorem dX4_addRemoved_21 : decode cX4_addRemoved 21 = .ok (.iastore, 1) := by decide +kernel
theorem dX4_addRemoved_22 : decode cX4_addRemoved 22 = .ok (.aload_n 0, 1) := by decide +kernel
theorem dX4_addRemoved_23 : decode cX4_addRemoved 23 = .ok (.dup, 1) := by decide +kernel
theorem dX4_addRemoved_24 : decode cX4_addRemoved 24 = .ok (.getfield 31, 3) := by decide +kernel
theorem dX4_addRemoved_27 : decode cX4_addRemoved 27 = .ok (.iconst 1, 1) := by decide +kernel
theorem dX4_addRemoved_28 : decode cX4_addRemoved 28 = .ok (.iadd, 1) := by decide +kernel
theorem dX4_addRemoved_29 : decode cX4_addRemoved 29 = .ok (.putfield 31, 3) := by decide +kernel
theorem dX4_addRemoved_32 : decode cX4_addRemoved 32 = .ok (.return_, 1) := by decide +kernel
theorem dX4_addOutput_0 : decode cX4_addOutput 0 = .ok (.aload_n 0, 1) := by decide +kernel
theorem dX4_addOutput_1 : decode cX4_addOutput 1 = .ok (.getfield 38, 3) := by decide +kernel
theorem dX4_addOutput_4 : decode cX4_addOutput 4 = .ok (.aload_n 0, 1) := by decide +kernel
theorem dX4_addOutput_5 : decode cX4_addOutput 5 = .ok (.getfield 22, 3) := by decide +kernel
theorem dX4_addOutput_8 : decode cX4_addOutput 8 = .ok (.arraylength, 1) := by decide +kernel
theorem dX4_addOutput_9 : decode cX4_addOutput 9 = .ok (.if_icmp .ge 62, 3) := by decide +kernel
theorem dX4_addOutput_12 : decode cX4_addOutput 12 = .ok (.aload_n 0, 1) := by decide +kernel
theorem dX4_addOutput_13 : decode cX4_addOutput 13 = .ok (.getfield 38, 3) := by decide +kernel
theorem dX4_addOutput_16 : decode cX4_addOutput 16 = .ok (.aload_n 0, 1) := by decide +kernel
theorem dX4_addOutput_17 : decode cX4_addOutput 17 = .ok (.getfield 25, 3) := by decide +kernel
theorem dX4_addOutput_20 : decode cX4_addOutput 20 = .ok (.arraylength, 1) := by decide +kernel
theorem dX4_addOutput_21 : decode cX4_addOutput 21 = .ok (.if_icmp .ge 50, 3) := by decide +kernel
theorem dX4_addOutput_24 : decode cX4_addOutput 24 = .ok (.aload_n 1, 1) := by decide +kernel
theorem dX4_addOutput_25 : decode cX4_addOutput 25 = .ok (.aload_n 0, 1) := by decide +kernel
theorem dX4_addOutput_26 : decode cX4_addOutput 26 = .ok (.getfield 18, 3) := by decide +kernel
theorem dX4_addOutput_29 : decode cX4_addOutput 29 = .ok (.invokevirtual 44, 3) := by decide +kernel
theorem dX4_addOutput_32 : decode cX4_addOutput 32 = .ok (.aload_n 0, 1) := by decide +kernel
theorem dX4_addOutput_33 : decode cX4_addOutput 33 = .ok (.getfield 22, 3) := by decide +kernel
theorem dX4_addOutput_36 : decode cX4_addOutput 36 = .ok (.aload_n 0, 1) := by decide +kernel
theorem dX4_addOutput_37 : decode cX4_addOutput 37 = .ok (.getfield 38, 3) := by decide +kernel
theorem dX4_addOutput_40 : decode cX4_addOutput 40 = .ok (.aload_n 0, 1) := by decide +kernel
theorem dX4_addOutput_41 : decode cX4_addOutput 41 = .ok (.getfield 18, 3) := by decide +kernel
theorem dX4_addOutput_44 : decode cX4_addOutput 44 = .ok (.getfield 50, 3) := by decide +kernel
theorem dX4_addOutput_47 : decode cX4_addOutput 47 = .ok (.iastore, 1) := by decide +kernel
theorem dX4_addOutput_48 : decode cX4_addOutput 48 = .ok (.aload_n 0, 1) := by decide +kernel
theorem dX4_addOutput_49 : decode cX4_addOutput 49 = .ok (.getfield 25, 3) := by decide +kernel
theorem dX4_addOutput_52 : decode cX4_addOutput 52 = .ok (.aload_n 0, 1) := by decide +kernel
theorem dX4_addOutput_53 : decode cX4_addOutput 53 = .ok (.getfield 38, 3) := by decide +kernel
theorem dX4_addOutput_56 : decode cX4_addOutput 56 = .ok (.aload_n 1, 1) := by decide +kernel
theorem dX4_addOutput_57 : decode cX4_addOutput 57 = .ok (.getfield 53, 3) := by decide +kernel
theorem dX4_addOutput_60 : decode cX4_addOutput 60 = .ok (.iastore, 1) := by decide +kernel
theorem dX4_addOutput_61 : decode cX4_addOutput 61 = .ok (.aload_n 0, 1) := by decide +kernel
theorem dX4_addOutput_62 : decode cX4_addOutput 62 = .ok (.dup, 1) := by decide +kernel
theorem dX4_addOutput_63 : decode cX4_addOutput 63 = .ok (.getfield 38, 3) := by decide +kernel
theorem dX4_addOutput_66 : decode cX4_addOutput 66 = .ok (.iconst 1, 1) := by decide +kernel
theorem dX4_addOutput_67 : decode cX4_addOutput 67 = .ok (.iadd, 1) := by decide +kernel
theorem dX4_addOutput_68 : decode cX4_addOutput 68 = .ok (.putfield 38, 3) := by decide +kernel
theorem dX4_addOutput_71 : decode cX4_addOutput 71 = .ok (.return_, 1) := by decide +kernel
theorem dX4_startOf_0 : decode cX4_startOf 0 = .ok (.iload_n 1, 1) := by decide +kernel
theorem dX4_startOf_1 : decode cX4_startOf 1 = .ok (.ifCond .gt 7, 3) := by decide +kernel
theorem dX4_startOf_4 : decode cX4_startOf 4 = .ok (.iconst 0, 1) := by decide +kernel
theorem dX4_startOf_5 : decode cX4_startOf 5 = .ok (.goto 10, 3) := by decide +kernel
theorem dX4_startOf_8 : decode cX4_startOf 8 = .ok (.aload_n 0, 1) := by decide +kernel
theorem dX4_startOf_9 : decode cX4_startOf 9 = .ok (.iload_n 1, 1) := by decide +kernel
theorem dX4_startOf_10 : decode cX4_startOf 10 = .ok (.iconst 1, 1) := by decide +kernel
theorem dX4_startOf_11 : decode cX4_startOf 11 = .ok (.isub, 1) := by decide +kernel
theorem dX4_startOf_12 : decode cX4_startOf 12 = .ok (.invokevirtual 56, 3) := by decide +kernel
theorem dX4_startOf_15 : decode cX4_startOf 15 = .ok (.ireturn, 1) := by decide +kernel
theorem dX4_endOf_0 : decode cX4_endOf 0 = .ok (.iload_n 1, 1) := by decide +kernel
theorem dX4_endOf_1 : decode cX4_endOf 1 = .ok (.ifCond .lt 20, 3) := by decide +kernel
theorem dX4_endOf_4 : decode cX4_endOf 4 = .ok (.iload_n 1, 1) := by decide +kernel
theorem dX4_endOf_5 : decode cX4_endOf 5 = .ok (.aload_n 0, 1) := by decide +kernel
theorem dX4_endOf_6 : decode cX4_endOf 6 = .ok (.getfield 38, 3) := by decide +kernel
theorem dX4_endOf_9 : decode cX4_endOf 9 = .ok (.if_icmp .ge 12, 3) := by decide +kernel
theorem dX4_endOf_12 : decode cX4_endOf 12 = .ok (.iload_n 1, 1) := by decide +kernel
theorem dX4_endOf_13 : decode cX4_endOf 13 = .ok (.aload_n 0, 1) := by decide +kernel
theorem dX4_endOf_14 : decode cX4_endOf 14 = .ok (.getfield 22, 3) := by decide +kernel
theorem dX4_endOf_17 : decode cX4_endOf 17 = .ok (.arraylength, 1) := by decide +kernel
theorem dX4_endOf_18 : decode cX4_endOf 18 = .ok (.if_icmp .lt 7, 3) := by decide +kernel
theorem dX4_endOf_21 : decode cX4_endOf 21 = .ok (.iconst 0, 1) := by decide +kernel
theorem dX4_endOf_22 : decode cX4_endOf 22 = .ok (.goto 9, 3) := by decide +kernel
theorem dX4_endOf_25 : decode cX4_endOf 25 = .ok (.aload_n 0, 1) := by decide +kernel
theorem dX4_endOf_26 : decode cX4_endOf 26 = .ok (.getfield 22, 3) := by decide +kernel
theorem dX4_endOf_29 : decode cX4_endOf 29 = .ok (.iload_n 1, 1) := by decide +kernel
theorem dX4_endOf_30 : decode cX4_endOf 30 = .ok (.iaload, 1) := by decide +kernel
theorem dX4_endOf_31 : decode cX4_endOf 31 = .ok (.ireturn, 1) := by decide +kernel
theorem dX4_notePut_0 : decode cX4_notePut 0 = .ok (.aload_n 0, 1) := by decide +kernel
theorem dX4_notePut_1 : decode cX4_notePut 1 = .ok (.getfield 41, 3) := by decide +kernel
theorem dX4_notePut_4 : decode cX4_notePut 4 = .ok (.aload_n 0, 1) := by decide +kernel
theorem dX4_notePut_5 : decode cX4_notePut 5 = .ok (.getfield 28, 3) := by decide +kernel
theorem dX4_notePut_8 : decode cX4_notePut 8 = .ok (.arraylength, 1) := by decide +kernel
theorem dX4_notePut_9 : decode cX4_notePut 9 = .ok (.if_icmp .ge 23, 3) := by decide +kernel
theorem dX4_notePut_12 : decode cX4_notePut 12 = .ok (.aload_n 0, 1) := by decide +kernel
theorem dX4_notePut_13 : decode cX4_notePut 13 = .ok (.getfield 28, 3) := by decide +kernel
theorem dX4_notePut_16 : decode cX4_notePut 16 = .ok (.aload_n 0, 1) := by decide +kernel
theorem dX4_notePut_17 : decode cX4_notePut 17 = .ok (.getfield 41, 3) := by decide +kernel
theorem dX4_notePut_20 : decode cX4_notePut 20 = .ok (.iload_n 1, 1) := by decide +kernel
theorem dX4_notePut_21 : decode cX4_notePut 21 = .ok (.iastore, 1) := by decide +kernel
theorem dX4_notePut_22 : decode cX4_notePut 22 = .ok (.aload_n 0, 1) := by decide +kernel
theorem dX4_notePut_23 : decode cX4_notePut 23 = .ok (.dup, 1) := by decide +kernel
theorem dX4_notePut_24 : decode cX4_notePut 24 = .ok (.getfield 41, 3) := by decide +kernel
theorem dX4_notePut_27 : decode cX4_notePut 27 = .ok (.iconst 1, 1) := by decide +kernel
theorem dX4_notePut_28 : decode cX4_notePut 28 = .ok (.iadd, 1) := by decide +kernel
theorem dX4_notePut_29 : decode cX4_notePut 29 = .ok (.putfield 41, 3) := by decide +kernel
theorem dX4_notePut_32 : decode cX4_notePut 32 = .ok (.return_, 1) := by decide +kernel
theorem dX4_wantPut_0 : decode cX4_wantPut 0 = .ok (.iconst 0, 1) := by decide +kernel
theorem dX4_wantPut_1 : decode cX4_wantPut 1 = .ok (.istore_n 2, 1) := by decide +kernel
theorem dX4_wantPut_2 : decode cX4_wantPut 2 = .ok (.iload_n 2, 1) := by decide +kernel
theorem dX4_wantPut_3 : decode cX4_wantPut 3 = .ok (.aload_n 0, 1) := by decide +kernel
theorem dX4_wantPut_4 : decode cX4_wantPut 4 = .ok (.getfield 41, 3) := by decide +kernel
theorem dX4_wantPut_7 : decode cX4_wantPut 7 = .ok (.if_icmp .ge 28, 3) := by decide +kernel
theorem dX4_wantPut_10 : decode cX4_wantPut 10 = .ok (.iload_n 2, 1) := by decide +kernel
theorem dX4_wantPut_11 : decode cX4_wantPut 11 = .ok (.aload_n 0, 1) := by decide +kernel
theorem dX4_wantPut_12 : decode cX4_wantPut 12 = .ok (.getfield 28, 3) := by decide +kernel
theorem dX4_wantPut_15 : decode cX4_wantPut 15 = .ok (.arraylength, 1) := by decide +kernel
theorem dX4_wantPut_16 : decode cX4_wantPut 16 = .ok (.if_icmp .ge 19, 3) := by decide +kernel
theorem dX4_wantPut_19 : decode cX4_wantPut 19 = .ok (.aload_n 1, 1) := by decide +kernel
theorem dX4_wantPut_20 : decode cX4_wantPut 20 = .ok (.aload_n 0, 1) := by decide +kernel
theorem dX4_wantPut_21 : decode cX4_wantPut 21 = .ok (.getfield 28, 3) := by decide +kernel
theorem dX4_wantPut_24 : decode cX4_wantPut 24 = .ok (.iload_n 2, 1) := by decide +kernel
theorem dX4_wantPut_25 : decode cX4_wantPut 25 = .ok (.iaload, 1) := by decide +kernel
theorem dX4_wantPut_26 : decode cX4_wantPut 26 = .ok (.invokevirtual 60, 3) := by decide +kernel
theorem dX4_wantPut_29 : decode cX4_wantPut 29 = .ok (.iinc 2 1, 3) := by decide +kernel
theorem dX4_wantPut_32 : decode cX4_wantPut 32 = .ok (.goto (-30), 3) := by decide +kernel
theorem dX4_wantPut_35 : decode cX4_wantPut 35 = .ok (.return_, 1) := by decide +kernel
theorem dX4_writeEntry_0 : decode cX4_writeEntry 0 = .ok (.aload_n 1, 1) := by decide +kernel
theorem dX4_writeEntry_1 : decode cX4_writeEntry 1 = .ok (.bipush 6, 2) := by decide +kernel
theorem dX4_writeEntry_3 : decode cX4_writeEntry 3 = .ok (.bipush 6, 2) := by decide +kernel
theorem dX4_writeEntry_5 : decode cX4_writeEntry 5 = .ok (.aload_n 0, 1) := by decide +kernel
theorem dX4_writeEntry_6 : decode cX4_writeEntry 6 = .ok (.getfield 31, 3) := by decide +kernel
theorem dX4_writeEntry_9 : decode cX4_writeEntry 9 = .ok (.aload_n 0, 1) := by decide +kernel
theorem dX4_writeEntry_10 : decode cX4_writeEntry 10 = .ok (.getfield 41, 3) := by decide +kernel
theorem dX4_writeEntry_13 : decode cX4_writeEntry 13 = .ok (.iadd, 1) := by decide +kernel
theorem dX4_writeEntry_14 : decode cX4_writeEntry 14 = .ok (.imul, 1) := by decide +kernel
theorem dX4_writeEntry_15 : decode cX4_writeEntry 15 = .ok (.iadd, 1) := by decide +kernel
theorem dX4_writeEntry_16 : decode cX4_writeEntry 16 = .ok (.iconst 4, 1) := by decide +kernel
theorem dX4_writeEntry_17 : decode cX4_writeEntry 17 = .ok (.iadd, 1) := by decide +kernel
theorem dX4_writeEntry_18 : decode cX4_writeEntry 18 = .ok (.invokevirtual 66, 3) := by decide +kernel
theorem dX4_writeEntry_21 : decode cX4_writeEntry 21 = .ok (.aload_n 1, 1) := by decide +kernel
theorem dX4_writeEntry_22 : decode cX4_writeEntry 22 = .ok (.getfield 50, 3) := by decide +kernel
theorem dX4_writeEntry_25 : decode cX4_writeEntry 25 = .ok (.istore 4, 2) := by decide +kernel
theorem dX4_writeEntry_27 : decode cX4_writeEntry 27 = .ok (.aload_n 1, 1) := by decide +kernel
theorem dX4_writeEntry_28 : decode cX4_writeEntry 28 = .ok (.bipush 76, 2) := by decide +kernel
theorem dX4_writeEntry_30 : decode cX4_writeEntry 30 = .ok (.invokevirtual 69, 3) := by decide +kernel
theorem dX4_writeEntry_33 : decode cX4_writeEntry 33 = .ok (.aload_n 1, 1) := by decide +kernel
theorem dX4_writeEntry_34 : decode cX4_writeEntry 34 = .ok (.iload_n 2, 1) := by decide +kernel
theorem dX4_writeEntry_35 : decode cX4_writeEntry 35 = .ok (.invokevirtual 72, 3) := by decide +kernel
theorem dX4_writeEntry_38 : decode cX4_writeEntry 38 = .ok (.aload_n 1, 1) := by decide +kernel
theorem dX4_writeEntry_39 : decode cX4_writeEntry 39 = .ok (.aload_n 0, 1) := by decide +kernel
theorem dX4_writeEntry_40 : decode cX4_writeEntry 40 = .ok (.getfield 31, 3) := by decide +kernel
theorem dX4_writeEntry_43 : decode cX4_writeEntry 43 = .ok (.aload_n 0, 1) := by decide +kernel
theorem dX4_writeEntry_44 : decode cX4_writeEntry 44 = .ok (.getfield 41, 3) := by decide +kernel
theorem dX4_writeEntry_47 : decode cX4_writeEntry 47 = .ok (.iadd, 1) := by decide +kernel
theorem dX4_writeEntry_48 : decode cX4_writeEntry 48 = .ok (.invokevirtual 69, 3) := by decide +kernel
theorem dX4_writeEntry_51 : decode cX4_writeEntry 51 = .ok (.iconst 0, 1) := by decide +kernel
theorem dX4_writeEntry_52 : decode cX4_writeEntry 52 = .ok (.istore 5, 2) := by decide +kernel
theorem dX4_writeEntry_54 : decode cX4_writeEntry 54 = .ok (.iload 5, 2) := by decide +kernel
theorem dX4_writeEntry_56 : decode cX4_writeEntry 56 = .ok (.aload_n 0, 1) := by decide +kernel
theorem dX4_writeEntry_57 : decode cX4_writeEntry 57 = .ok (.getfield 31, 3) := by decide +kernel
theorem dX4_writeEntry_60 : decode cX4_writeEntry 60 = .ok (.if_icmp .ge 40, 3) := by decide +kernel
theorem dX4_writeEntry_63 : decode cX4_writeEntry 63 = .ok (.iload 5, 2) := by decide +kernel
theorem dX4_writeEntry_65 : decode cX4_writeEntry 65 = .ok (.aload_n 0, 1) := by decide +kernel
theorem dX4_writeEntry_66 : decode cX4_writeEntry 66 = .ok (.getfield 9, 3) := by decide +kernel
theorem dX4_writeEntry_69 : decode cX4_writeEntry 69 = .ok (.arraylength, 1) := by decide +kernel
theorem dX4_writeEntry_70 : decode cX4_writeEntry 70 = .ok (.if_icmp .ge 30, 3) := by decide +kernel
theorem dX4_writeEntry_73 : decode cX4_writeEntry 73 = .ok (.aload_n 1, 1) := by decide +kernel
theorem dX4_writeEntry_74 : decode cX4_writeEntry 74 = .ok (.iconst 2, 1) := by decide +kernel
theorem dX4_writeEntry_75 : decode cX4_writeEntry 75 = .ok (.invokevirtual 69, 3) := by decide +kernel
theorem dX4_writeEntry_78 : decode cX4_writeEntry 78 = .ok (.aload_n 1, 1) := by decide +kernel
theorem dX4_writeEntry_79 : decode cX4_writeEntry 79 = .ok (.aload_n 0, 1) := by decide +kernel
theorem dX4_writeEntry_80 : decode cX4_writeEntry 80 = .ok (.getfield 9, 3) := by decide +kernel
theorem dX4_writeEntry_83 : decode cX4_writeEntry 83 = .ok (.iload 5, 2) := by decide +kernel
theorem dX4_writeEntry_85 : decode cX4_writeEntry 85 = .ok (.iaload, 1) := by decide +kernel
theorem dX4_writeEntry_86 : decode cX4_writeEntry 86 = .ok (.invokevirtual 72, 3) := by decide +kernel
theorem dX4_writeEntry_89 : decode cX4_writeEntry 89 = .ok (.aload_n 1, 1) := by decide +kernel
theorem dX4_writeEntry_90 : decode cX4_writeEntry 90 = .ok (.iload_n 3, 1) := by decide +kernel
theorem dX4_writeEntry_91 : decode cX4_writeEntry 91 = .ok (.invokevirtual 69, 3) := by decide +kernel
theorem dX4_writeEntry_94 : decode cX4_writeEntry 94 = .ok (.iinc 5 1, 3) := by decide +kernel
theorem dX4_writeEntry_97 : decode cX4_writeEntry 97 = .ok (.goto (-43), 3) := by decide +kernel
theorem dX4_writeEntry_100 : decode cX4_writeEntry 100 = .ok (.iconst 0, 1) := by decide +kernel
theorem dX4_writeEntry_101 : decode cX4_writeEntry 101 = .ok (.istore 5, 2) := by decide +kernel
theorem dX4_writeEntry_103 : decode cX4_writeEntry 103 = .ok (.iload 5, 2) := by decide +kernel
theorem dX4_writeEntry_105 : decode cX4_writeEntry 105 = .ok (.aload_n 0, 1) := by decide +kernel
theorem dX4_writeEntry_106 : decode cX4_writeEntry 106 = .ok (.getfield 41, 3) := by decide +kernel
theorem dX4_writeEntry_109 : decode cX4_writeEntry 109 = .ok (.if_icmp .ge 56, 3) := by decide +kernel
theorem dX4_writeEntry_112 : decode cX4_writeEntry 112 = .ok (.iload 5, 2) := by decide +kernel
theorem dX4_writeEntry_114 : decode cX4_writeEntry 114 = .ok (.aload_n 0, 1) := by decide +kernel
theorem dX4_writeEntry_115 : decode cX4_writeEntry 115 = .ok (.getfield 28, 3) := by decide +kernel
theorem dX4_writeEntry_118 : decode cX4_writeEntry 118 = .ok (.arraylength, 1) := by decide +kernel
theorem dX4_writeEntry_119 : decode cX4_writeEntry 119 = .ok (.if_icmp .ge 46, 3) := by decide +kernel
theorem dX4_writeEntry_122 : decode cX4_writeEntry 122 = .ok (.iload 5, 2) := by decide +kernel
theorem dX4_writeEntry_124 : decode cX4_writeEntry 124 = .ok (.aload_n 0, 1) := by decide +kernel
theorem dX4_writeEntry_125 : decode cX4_writeEntry 125 = .ok (.getfield 25, 3) := by decide +kernel
theorem dX4_writeEntry_128 : decode cX4_writeEntry 128 = .ok (.arraylength, 1) := by decide +kernel
theorem dX4_writeEntry_129 : decode cX4_writeEntry 129 = .ok (.if_icmp .ge 36, 3) := by decide +kernel
theorem dX4_writeEntry_132 : decode cX4_writeEntry 132 = .ok (.aload_n 1, 1) := by decide +kernel
theorem dX4_writeEntry_133 : decode cX4_writeEntry 133 = .ok (.iconst 1, 1) := by decide +kernel
theorem dX4_writeEntry_134 : decode cX4_writeEntry 134 = .ok (.invokevirtual 69, 3) := by decide +kernel
theorem dX4_writeEntry_137 : decode cX4_writeEntry 137 = .ok (.aload_n 1, 1) := by decide +kernel
theorem dX4_writeEntry_138 : decode cX4_writeEntry 138 = .ok (.aload_n 0, 1) := by decide +kernel
theorem dX4_writeEntry_139 : decode cX4_writeEntry 139 = .ok (.getfield 28, 3) := by decide +kernel
theorem dX4_writeEntry_142 : decode cX4_writeEntry 142 = .ok (.iload 5, 2) := by decide +kernel
theorem dX4_writeEntry_144 : decode cX4_writeEntry 144 = .ok (.iaload, 1) := by decide +kernel
theorem dX4_writeEntry_145 : decode cX4_writeEntry 145 = .ok (.invokevirtual 72, 3) := by decide +kernel
theorem dX4_writeEntry_148 : decode cX4_writeEntry 148 = .ok (.aload_n 1, 1) := by decide +kernel
theorem dX4_writeEntry_149 : decode cX4_writeEntry 149 = .ok (.aload_n 0, 1) := by decide +kernel
theorem dX4_writeEntry_150 : decode cX4_writeEntry 150 = .ok (.getfield 25, 3) := by decide +kernel
theorem dX4_writeEntry_153 : decode cX4_writeEntry 153 = .ok (.iload 5, 2) := by decide +kernel
theorem dX4_writeEntry_155 : decode cX4_writeEntry 155 = .ok (.iaload, 1) := by decide +kernel
theorem dX4_writeEntry_156 : decode cX4_writeEntry 156 = .ok (.invokevirtual 69, 3) := by decide +kernel
theorem dX4_writeEntry_159 : decode cX4_writeEntry 159 = .ok (.iinc 5 1, 3) := by decide +kernel
theorem dX4_writeEntry_162 : decode cX4_writeEntry 162 = .ok (.goto (-59), 3) := by decide +kernel
theorem dX4_writeEntry_165 : decode cX4_writeEntry 165 = .ok (.aload_n 1, 1) := by decide +kernel
theorem dX4_writeEntry_166 : decode cX4_writeEntry 166 = .ok (.iload 4, 2) := by decide +kernel
theorem dX4_writeEntry_168 : decode cX4_writeEntry 168 = .ok (.invokevirtual 75, 3) := by decide +kernel
theorem dX4_writeEntry_171 : decode cX4_writeEntry 171 = .ok (.return_, 1) := by decide +kernel
