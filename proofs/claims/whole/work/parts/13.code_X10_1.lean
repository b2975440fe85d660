theorem dX10_commit_93 : decode cX10_commit 93 = .ok (.dup, 1) := by decide +kernel
theorem dX10_commit_94 : decode cX10_commit 94 = .ok (.getfield 278, 3) := by decide +kernel
theorem dX10_commit_97 : decode cX10_commit 97 = .ok (.iconst 1, 1) := by decide +kernel
theorem dX10_commit_98 : decode cX10_commit 98 = .ok (.iadd, 1) := by decide +kernel
theorem dX10_commit_99 : decode cX10_commit 99 = .ok (.putfield 278, 3) := by decide +kernel
theorem dX10_commit_102 : decode cX10_commit 102 = .ok (.iconst 3, 1) := by decide +kernel
theorem dX10_commit_103 : decode cX10_commit 103 = .ok (.ireturn, 1) := by decide +kernel
theorem dX10_lose_0 : decode cX10_lose 0 = .ok (.aload_n 1, 1) := by decide +kernel
theorem dX10_lose_1 : decode cX10_lose 1 = .ok (.dup, 1) := by decide +kernel
theorem dX10_lose_2 : decode cX10_lose 2 = .ok (.getfield 136, 3) := by decide +kernel
theorem dX10_lose_5 : decode cX10_lose 5 = .ok (.iconst 1, 1) := by decide +kernel
theorem dX10_lose_6 : decode cX10_lose 6 = .ok (.iadd, 1) := by decide +kernel
theorem dX10_lose_7 : decode cX10_lose 7 = .ok (.putfield 136, 3) := by decide +kernel
theorem dX10_lose_10 : decode cX10_lose 10 = .ok (.aload_n 0, 1) := by decide +kernel
theorem dX10_lose_11 : decode cX10_lose 11 = .ok (.dup, 1) := by decide +kernel
theorem dX10_lose_12 : decode cX10_lose 12 = .ok (.getfield 281, 3) := by decide +kernel
theorem dX10_lose_15 : decode cX10_lose 15 = .ok (.iconst 1, 1) := by decide +kernel
theorem dX10_lose_16 : decode cX10_lose 16 = .ok (.iadd, 1) := by decide +kernel
theorem dX10_lose_17 : decode cX10_lose 17 = .ok (.putfield 281, 3) := by decide +kernel
theorem dX10_lose_20 : decode cX10_lose 20 = .ok (.aload_n 1, 1) := by decide +kernel
theorem dX10_lose_21 : decode cX10_lose 21 = .ok (.getfield 136, 3) := by decide +kernel
theorem dX10_lose_24 : decode cX10_lose 24 = .ok (.aload_n 1, 1) := by decide +kernel
theorem dX10_lose_25 : decode cX10_lose 25 = .ok (.getfield 374, 3) := by decide +kernel
theorem dX10_lose_28 : decode cX10_lose 28 = .ok (.if_icmp .lt 10, 3) := by decide +kernel
theorem dX10_lose_31 : decode cX10_lose 31 = .ok (.aload_n 0, 1) := by decide +kernel
theorem dX10_lose_32 : decode cX10_lose 32 = .ok (.aload_n 1, 1) := by decide +kernel
theorem dX10_lose_33 : decode cX10_lose 33 = .ok (.iconst 3, 1) := by decide +kernel
theorem dX10_lose_34 : decode cX10_lose 34 = .ok (.invokevirtual 293, 3) := by decide +kernel
theorem dX10_lose_37 : decode cX10_lose 37 = .ok (.ireturn, 1) := by decide +kernel
theorem dX10_lose_38 : decode cX10_lose 38 = .ok (.aload_n 1, 1) := by decide +kernel
theorem dX10_lose_39 : decode cX10_lose 39 = .ok (.iconst 1, 1) := by decide +kernel
theorem dX10_lose_40 : decode cX10_lose 40 = .ok (.putfield 105, 3) := by decide +kernel
theorem dX10_lose_43 : decode cX10_lose 43 = .ok (.iconst 4, 1) := by decide +kernel
theorem dX10_lose_44 : decode cX10_lose 44 = .ok (.ireturn, 1) := by decide +kernel
theorem dX10_look_0 : decode cX10_look 0 = .ok (.aload_n 1, 1) := by decide +kernel
theorem dX10_look_1 : decode cX10_look 1 = .ok (.iconst 0, 1) := by decide +kernel
theorem dX10_look_2 : decode cX10_look 2 = .ok (.putfield 105, 3) := by decide +kernel
theorem dX10_look_5 : decode cX10_look 5 = .ok (.aload_n 1, 1) := by decide +kernel
theorem dX10_look_6 : decode cX10_look 6 = .ok (.dup, 1) := by decide +kernel
theorem dX10_look_7 : decode cX10_look 7 = .ok (.getfield 133, 3) := by decide +kernel
theorem dX10_look_10 : decode cX10_look 10 = .ok (.iconst 1, 1) := by decide +kernel
theorem dX10_look_11 : decode cX10_look 11 = .ok (.iadd, 1) := by decide +kernel
theorem dX10_look_12 : decode cX10_look 12 = .ok (.putfield 133, 3) := by decide +kernel
theorem dX10_look_15 : decode cX10_look 15 = .ok (.aload_n 0, 1) := by decide +kernel
theorem dX10_look_16 : decode cX10_look 16 = .ok (.getfield 14, 3) := by decide +kernel
theorem dX10_look_19 : decode cX10_look 19 = .ok (.iconst 1, 1) := by decide +kernel
theorem dX10_look_20 : decode cX10_look 20 = .ok (.aload_n 1, 1) := by decide +kernel
theorem dX10_look_21 : decode cX10_look 21 = .ok (.getfield 133, 3) := by decide +kernel
theorem dX10_look_24 : decode cX10_look 24 = .ok (.invokevirtual 180, 3) := by decide +kernel
theorem dX10_look_27 : decode cX10_look 27 = .ok (.astore_n 2, 1) := by decide +kernel
theorem dX10_look_28 : decode cX10_look 28 = .ok (.aload_n 2, 1) := by decide +kernel
theorem dX10_look_29 : decode cX10_look 29 = .ok (.ifnonnull 10, 3) := by decide +kernel
theorem dX10_look_32 : decode cX10_look 32 = .ok (.aload_n 0, 1) := by decide +kernel
theorem dX10_look_33 : decode cX10_look 33 = .ok (.aload_n 1, 1) := by decide +kernel
theorem dX10_look_34 : decode cX10_look 34 = .ok (.iconst 4, 1) := by decide +kernel
theorem dX10_look_35 : decode cX10_look 35 = .ok (.invokevirtual 293, 3) := by decide +kernel
theorem dX10_look_38 : decode cX10_look 38 = .ok (.ireturn, 1) := by decide +kernel
theorem dX10_look_39 : decode cX10_look 39 = .ok (.aload_n 1, 1) := by decide +kernel
theorem dX10_look_40 : decode cX10_look 40 = .ok (.getfield 72, 3) := by decide +kernel
theorem dX10_look_43 : decode cX10_look 43 = .ok (.ifCond .eq 21, 3) := by decide +kernel
theorem dX10_look_46 : decode cX10_look 46 = .ok (.aload_n 2, 1) := by decide +kernel
theorem dX10_look_47 : decode cX10_look 47 = .ok (.aload_n 1, 1) := by decide +kernel
theorem dX10_look_48 : decode cX10_look 48 = .ok (.getfield 315, 3) := by decide +kernel
theorem dX10_look_51 : decode cX10_look 51 = .ok (.invokevirtual 377, 3) := by decide +kernel
theorem dX10_look_54 : decode cX10_look 54 = .ok (.ifCond .eq 10, 3) := by decide +kernel
theorem dX10_look_57 : decode cX10_look 57 = .ok (.aload_n 0, 1) := by decide +kernel
theorem dX10_look_58 : decode cX10_look 58 = .ok (.aload_n 1, 1) := by decide +kernel
theorem dX10_look_59 : decode cX10_look 59 = .ok (.iconst 2, 1) := by decide +kernel
theorem dX10_look_60 : decode cX10_look 60 = .ok (.invokevirtual 293, 3) := by decide +kernel
theorem dX10_look_63 : decode cX10_look 63 = .ok (.ireturn, 1) := by decide +kernel
theorem dX10_look_64 : decode cX10_look 64 = .ok (.iconst 5, 1) := by decide +kernel
theorem dX10_look_65 : decode cX10_look 65 = .ok (.ireturn, 1) := by decide +kernel
theorem dX10_readVersion_0 : decode cX10_readVersion 0 = .ok (.aload_n 2, 1) := by decide +kernel
theorem dX10_readVersion_1 : decode cX10_readVersion 1 = .ok (.invokevirtual 380, 3) := by decide +kernel
theorem dX10_readVersion_4 : decode cX10_readVersion 4 = .ok (.iload_n 1, 1) := by decide +kernel
theorem dX10_readVersion_5 : decode cX10_readVersion 5 = .ok (.iconst (-1), 1) := by decide +kernel
theorem dX10_readVersion_6 : decode cX10_readVersion 6 = .ok (.if_icmp .ne 5, 3) := by decide +kernel
theorem dX10_readVersion_9 : decode cX10_readVersion 9 = .ok (.iconst 1, 1) := by decide +kernel
theorem dX10_readVersion_10 : decode cX10_readVersion 10 = .ok (.ireturn, 1) := by decide +kernel
theorem dX10_readVersion_11 : decode cX10_readVersion 11 = .ok (.iload_n 1, 1) := by decide +kernel
theorem dX10_readVersion_12 : decode cX10_readVersion 12 = .ok (.aload_n 0, 1) := by decide +kernel
theorem dX10_readVersion_13 : decode cX10_readVersion 13 = .ok (.getfield 162, 3) := by decide +kernel
theorem dX10_readVersion_16 : decode cX10_readVersion 16 = .ok (.if_icmp .lt 11, 3) := by decide +kernel
theorem dX10_readVersion_19 : decode cX10_readVersion 19 = .ok (.iload_n 1, 1) := by decide +kernel
theorem dX10_readVersion_20 : decode cX10_readVersion 20 = .ok (.aload_n 0, 1) := by decide +kernel
theorem dX10_readVersion_21 : decode cX10_readVersion 21 = .ok (.invokevirtual 148, 3) := by decide +kernel
theorem dX10_readVersion_24 : decode cX10_readVersion 24 = .ok (.if_icmp .le 5, 3) := by decide +kernel
theorem dX10_readVersion_27 : decode cX10_readVersion 27 = .ok (.iconst 0, 1) := by decide +kernel
theorem dX10_readVersion_28 : decode cX10_readVersion 28 = .ok (.ireturn, 1) := by decide +kernel
theorem dX10_readVersion_29 : decode cX10_readVersion 29 = .ok (.iconst 0, 1) := by decide +kernel
theorem dX10_readVersion_30 : decode cX10_readVersion 30 = .ok (.istore_n 3, 1) := by decide +kernel
theorem dX10_readVersion_31 : decode cX10_readVersion 31 = .ok (.aload_n 0, 1) := by decide +kernel
theorem dX10_readVersion_32 : decode cX10_readVersion 32 = .ok (.getfield 14, 3) := by decide +kernel
theorem dX10_readVersion_35 : decode cX10_readVersion 35 = .ok (.iload_n 1, 1) := by decide +kernel
theorem dX10_readVersion_36 : decode cX10_readVersion 36 = .ok (.invokevirtual 381, 3) := by decide +kernel
theorem dX10_readVersion_39 : decode cX10_readVersion 39 = .ok (.astore 4, 2) := by decide +kernel
theorem dX10_readVersion_41 : decode cX10_readVersion 41 = .ok (.aload 4, 2) := by decide +kernel
theorem dX10_readVersion_43 : decode cX10_readVersion 43 = .ok (.ifnull 17, 3) := by decide +kernel
theorem dX10_readVersion_46 : decode cX10_readVersion 46 = .ok (.aload 4, 2) := by decide +kernel
theorem dX10_readVersion_48 : decode cX10_readVersion 48 = .ok (.aload_n 2, 1) := by decide +kernel
theorem dX10_readVersion_49 : decode cX10_readVersion 49 = .ok (.invokevirtual 384, 3) := by decide +kernel
theorem dX10_readVersion_52 : decode cX10_readVersion 52 = .ok (.aload 4, 2) := by decide +kernel
theorem dX10_readVersion_54 : decode cX10_readVersion 54 = .ok (.getfield 218, 3) := by decide +kernel
theorem dX10_readVersion_57 : decode cX10_readVersion 57 = .ok (.iconst 1, 1) := by decide +kernel
theorem dX10_readVersion_58 : decode cX10_readVersion 58 = .ok (.iadd, 1) := by decide +kernel
theorem dX10_readVersion_59 : decode cX10_readVersion 59 = .ok (.istore_n 3, 1) := by decide +kernel
theorem dX10_readVersion_60 : decode cX10_readVersion 60 = .ok (.iload_n 3, 1) := by decide +kernel
theorem dX10_readVersion_61 : decode cX10_readVersion 61 = .ok (.istore 5, 2) := by decide +kernel
theorem dX10_readVersion_63 : decode cX10_readVersion 63 = .ok (.iload 5, 2) := by decide +kernel
theorem dX10_readVersion_65 : decode cX10_readVersion 65 = .ok (.iload_n 1, 1) := by decide +kernel
theorem dX10_readVersion_66 : decode cX10_readVersion 66 = .ok (.if_icmp .gt 37, 3) := by decide +kernel
theorem dX10_readVersion_69 : decode cX10_readVersion 69 = .ok (.aload_n 0, 1) := by decide +kernel
theorem dX10_readVersion_70 : decode cX10_readVersion 70 = .ok (.getfield 14, 3) := by decide +kernel
theorem dX10_readVersion_73 : decode cX10_readVersion 73 = .ok (.iconst 1, 1) := by decide +kernel
theorem dX10_readVersion_74 : decode cX10_readVersion 74 = .ok (.iload 5, 2) := by decide +kernel
theorem dX10_readVersion_76 : decode cX10_readVersion 76 = .ok (.invokevirtual 180, 3) := by decide +kernel
theorem dX10_readVersion_79 : decode cX10_readVersion 79 = .ok (.astore 6, 2) := by decide +kernel
theorem dX10_readVersion_81 : decode cX10_readVersion 81 = .ok (.aload 6, 2) := by decide +kernel
theorem dX10_readVersion_83 : decode cX10_readVersion 83 = .ok (.ifnull 12, 3) := by decide +kernel
theorem dX10_readVersion_86 : decode cX10_readVersion 86 = .ok (.aload 6, 2) := by decide +kernel
theorem dX10_readVersion_88 : decode cX10_readVersion 88 = .ok (.aload_n 2, 1) := by decide +kernel
theorem dX10_readVersion_89 : decode cX10_readVersion 89 = .ok (.invokevirtual 388, 3) := by decide +kernel
theorem dX10_readVersion_92 : decode cX10_readVersion 92 = .ok (.ifCond .ne 5, 3) := by decide +kernel
theorem dX10_readVersion_95 : decode cX10_readVersion 95 = .ok (.iconst 0, 1) := by decide +kernel
theorem dX10_readVersion_96 : decode cX10_readVersion 96 = .ok (.ireturn, 1) := by decide +kernel
theorem dX10_readVersion_97 : decode cX10_readVersion 97 = .ok (.iinc 5 1, 3) := by decide +kernel
theorem dX10_readVersion_100 : decode cX10_readVersion 100 = .ok (.goto (-37), 3) := by decide +kernel
theorem dX10_readVersion_103 : decode cX10_readVersion 103 = .ok (.iconst 1, 1) := by decide +kernel
theorem dX10_readVersion_104 : decode cX10_readVersion 104 = .ok (.ireturn, 1) := by decide +kernel
theorem dX10_putCheckpoint_0 : decode cX10_putCheckpoint 0 = .ok (.aload_n 0, 1) := by decide +kernel
theorem dX10_putCheckpoint_1 : decode cX10_putCheckpoint 1 = .ok (.getfield 57, 3) := by decide +kernel
theorem dX10_putCheckpoint_4 : decode cX10_putCheckpoint 4 = .ok (.invokevirtual 367, 3) := by decide +kernel
theorem dX10_putCheckpoint_7 : decode cX10_putCheckpoint 7 = .ok (.aload_n 0, 1) := by decide +kernel
theorem dX10_putCheckpoint_8 : decode cX10_putCheckpoint 8 = .ok (.getfield 36, 3) := by decide +kernel
theorem dX10_putCheckpoint_11 : decode cX10_putCheckpoint 11 = .ok (.aload_n 0, 1) := by decide +kernel
theorem dX10_putCheckpoint_12 : decode cX10_putCheckpoint 12 = .ok (.getfield 57, 3) := by decide +kernel
theorem dX10_putCheckpoint_15 : decode cX10_putCheckpoint 15 = .ok (.iload_n 1, 1) := by decide +kernel
theorem dX10_putCheckpoint_16 : decode cX10_putCheckpoint 16 = .ok (.invokevirtual 392, 3) := by decide +kernel
theorem dX10_putCheckpoint_19 : decode cX10_putCheckpoint 19 = .ok (.aload_n 0, 1) := by decide +kernel
theorem dX10_putCheckpoint_20 : decode cX10_putCheckpoint 20 = .ok (.getfield 14, 3) := by decide +kernel
theorem dX10_putCheckpoint_23 : decode cX10_putCheckpoint 23 = .ok (.iconst 2, 1) := by decide +kernel
theorem dX10_putCheckpoint_24 : decode cX10_putCheckpoint 24 = .ok (.iload_n 1, 1) := by decide +kernel
theorem dX10_putCheckpoint_25 : decode cX10_putCheckpoint 25 = .ok (.aload_n 0, 1) := by decide +kernel
theorem dX10_putCheckpoint_26 : decode cX10_putCheckpoint 26 = .ok (.getfield 57, 3) := by decide +kernel
theorem dX10_putCheckpoint_29 : decode cX10_putCheckpoint 29 = .ok (.iconst 0, 1) := by decide +kernel
theorem dX10_putCheckpoint_30 : decode cX10_putCheckpoint 30 = .ok (.aload_n 0, 1) := by decide +kernel
theorem dX10_putCheckpoint_31 : decode cX10_putCheckpoint 31 = .ok (.getfield 57, 3) := by decide +kernel
theorem dX10_putCheckpoint_34 : decode cX10_putCheckpoint 34 = .ok (.getfield 373, 3) := by decide +kernel
theorem dX10_putCheckpoint_37 : decode cX10_putCheckpoint 37 = .ok (.invokevirtual 353, 3) := by decide +kernel
theorem dX10_putCheckpoint_40 : decode cX10_putCheckpoint 40 = .ok (.invokevirtual 357, 3) := by decide +kernel
theorem dX10_putCheckpoint_43 : decode cX10_putCheckpoint 43 = .ok (.ireturn, 1) := by decide +kernel
theorem dX10_ensureCheckpoint_0 : decode cX10_ensureCheckpoint 0 = .ok (.aload_n 0, 1) := by decide +kernel
theorem dX10_ensureCheckpoint_1 : decode cX10_ensureCheckpoint 1 = .ok (.getfield 14, 3) := by decide +kernel
theorem dX10_ensureCheckpoint_4 : decode cX10_ensureCheckpoint 4 = .ok (.iconst 2, 1) := by decide +kernel
theorem dX10_ensureCheckpoint_5 : decode cX10_ensureCheckpoint 5 = .ok (.iload_n 1, 1) := by decide +kernel
theorem dX10_ensureCheckpoint_6 : decode cX10_ensureCheckpoint 6 = .ok (.invokevirtual 151, 3) := by decide +kernel
theorem dX10_ensureCheckpoint_9 : decode cX10_ensureCheckpoint 9 = .ok (.ifnull 5, 3) := by decide +kernel
theorem dX10_ensureCheckpoint_12 : decode cX10_ensureCheckpoint 12 = .ok (.iconst 1, 1) := by decide +kernel
theorem dX10_ensureCheckpoint_13 : decode cX10_ensureCheckpoint 13 = .ok (.ireturn, 1) := by decide +kernel
theorem dX10_ensureCheckpoint_14 : decode cX10_ensureCheckpoint 14 = .ok (.aload_n 0, 1) := by decide +kernel
theorem dX10_ensureCheckpoint_15 : decode cX10_ensureCheckpoint 15 = .ok (.iload_n 1, 1) := by decide +kernel
theorem dX10_ensureCheckpoint_16 : decode cX10_ensureCheckpoint 16 = .ok (.aload_n 0, 1) := by decide +kernel
theorem dX10_ensureCheckpoint_17 : decode cX10_ensureCheckpoint 17 = .ok (.getfield 36, 3) := by decide +kernel
theorem dX10_ensureCheckpoint_20 : decode cX10_ensureCheckpoint 20 = .ok (.invokevirtual 155, 3) := by decide +kernel
theorem dX10_ensureCheckpoint_23 : decode cX10_ensureCheckpoint 23 = .ok (.ifCond .eq 15, 3) := by decide +kernel
theorem dX10_ensureCheckpoint_26 : decode cX10_ensureCheckpoint 26 = .ok (.aload_n 0, 1) := by decide +kernel
theorem dX10_ensureCheckpoint_27 : decode cX10_ensureCheckpoint 27 = .ok (.iload_n 1, 1) := by decide +kernel
theorem dX10_ensureCheckpoint_28 : decode cX10_ensureCheckpoint 28 = .ok (.invokevirtual 159, 3) := by decide +kernel
theorem dX10_ensureCheckpoint_31 : decode cX10_ensureCheckpoint 31 = .ok (.ifCond .eq 7, 3) := by decide +kernel
theorem dX10_ensureCheckpoint_34 : decode cX10_ensureCheckpoint 34 = .ok (.iconst 1, 1) := by decide +kernel
theorem dX10_ensureCheckpoint_35 : decode cX10_ensureCheckpoint 35 = .ok (.goto 4, 3) := by decide +kernel
theorem dX10_ensureCheckpoint_38 : decode cX10_ensureCheckpoint 38 = .ok (.iconst 0, 1) := by decide +kernel
theorem dX10_ensureCheckpoint_39 : decode cX10_ensureCheckpoint 39 = .ok (.ireturn, 1) := by decide +kernel
theorem dX10_wantRetained_0 : decode cX10_wantRetained 0 = .ok (.aload_n 0, 1) := by decide +kernel
theorem dX10_wantRetained_1 : decode cX10_wantRetained 1 = .ok (.getfield 14, 3) := by decide +kernel
theorem dX10_wantRetained_4 : decode cX10_wantRetained 4 = .ok (.getfield 202, 3) := by decide +kernel
theorem dX10_wantRetained_7 : decode cX10_wantRetained 7 = .ok (.invokevirtual 396, 3) := by decide +kernel
theorem dX10_wantRetained_10 : decode cX10_wantRetained 10 = .ok (.iload_n 1, 1) := by decide +kernel
theorem dX10_wantRetained_11 : decode cX10_wantRetained 11 = .ok (.istore_n 3, 1) := by decide +kernel
theorem dX10_wantRetained_12 : decode cX10_wantRetained 12 = .ok (.iload_n 3, 1) := by decide +kernel
theorem dX10_wantRetained_13 : decode cX10_wantRetained 13 = .ok (.iload_n 2, 1) := by decide +kernel
theorem dX10_wantRetained_14 : decode cX10_wantRetained 14 = .ok (.if_icmp .gt 37, 3) := by decide +kernel
theorem dX10_wantRetained_17 : decode cX10_wantRetained 17 = .ok (.aload_n 0, 1) := by decide +kernel
theorem dX10_wantRetained_18 : decode cX10_wantRetained 18 = .ok (.iload_n 3, 1) := by decide +kernel
theorem dX10_wantRetained_19 : decode cX10_wantRetained 19 = .ok (.aload_n 0, 1) := by decide +kernel
theorem dX10_wantRetained_20 : decode cX10_wantRetained 20 = .ok (.getfield 36, 3) := by decide +kernel
theorem dX10_wantRetained_23 : decode cX10_wantRetained 23 = .ok (.invokevirtual 155, 3) := by decide +kernel
theorem dX10_wantRetained_26 : decode cX10_wantRetained 26 = .ok (.ifCond .ne 5, 3) := by decide +kernel
theorem dX10_wantRetained_29 : decode cX10_wantRetained 29 = .ok (.iconst 0, 1) := by decide +kernel
theorem dX10_wantRetained_30 : decode cX10_wantRetained 30 = .ok (.ireturn, 1) := by decide +kernel
theorem dX10_wantRetained_31 : decode cX10_wantRetained 31 = .ok (.aload_n 0, 1) := by decide +kernel
theorem dX10_wantRetained_32 : decode cX10_wantRetained 32 = .ok (.getfield 36, 3) := by decide +kernel
theorem dX10_wantRetained_35 : decode cX10_wantRetained 35 = .ok (.aload_n 0, 1) := by decide +kernel
theorem dX10_wantRetained_36 : decode cX10_wantRetained 36 = .ok (.getfield 14, 3) := by decide +kernel
theorem dX10_wantRetained_39 : decode cX10_wantRetained 39 = .ok (.getfield 202, 3) := by decide +kernel
theorem dX10_wantRetained_42 : decode cX10_wantRetained 42 = .ok (.invokevirtual 399, 3) := by decide +kernel
theorem dX10_wantRetained_45 : decode cX10_wantRetained 45 = .ok (.iinc 3 1, 3) := by decide +kernel
theorem dX10_wantRetained_48 : decode cX10_wantRetained 48 = .ok (.goto (-36), 3) := by decide +kernel
theorem dX10_wantRetained_51 : decode cX10_wantRetained 51 = .ok (.iconst 1, 1) := by decide +kernel
theorem dX10_wantRetained_52 : decode cX10_wantRetained 52 = .ok (.ireturn, 1) := by decide +kernel
theorem dX10_wantOfWriters_0 : decode cX10_wantOfWriters 0 = .ok (.iconst 0, 1) := by decide +kernel
theorem dX10_wantOfWriters_1 : decode cX10_wantOfWriters 1 = .ok (.istore_n 1, 1) := by decide +kernel
theorem dX10_wantOfWriters_2 : decode cX10_wantOfWriters 2 = .ok (.iload_n 1, 1) := by decide +kernel
theorem dX10_wantOfWriters_3 : decode cX10_wantOfWriters 3 = .ok (.iconst 4, 1) := by decide +kernel
theorem dX10_wantOfWriters_4 : decode cX10_wantOfWriters 4 = .ok (.if_icmp .ge 54, 3) := by decide +kernel
theorem dX10_wantOfWriters_7 : decode cX10_wantOfWriters 7 = .ok (.aload_n 0, 1) := by decide +kernel
theorem dX10_wantOfWriters_8 : decode cX10_wantOfWriters 8 = .ok (.iload_n 1, 1) := by decide +kernel
theorem dX10_wantOfWriters_9 : decode cX10_wantOfWriters 9 = .ok (.invokevirtual 68, 3) := by decide +kernel
theorem dX10_wantOfWriters_12 : decode cX10_wantOfWriters 12 = .ok (.astore_n 2, 1) := by decide +kernel
theorem dX10_wantOfWriters_13 : decode cX10_wantOfWriters 13 = .ok (.aload_n 2, 1) := by decide +kernel
theorem dX10_wantOfWriters_14 : decode cX10_wantOfWriters 14 = .ok (.ifnull 38, 3) := by decide +kernel
theorem dX10_wantOfWriters_17 : decode cX10_wantOfWriters 17 = .ok (.aload_n 2, 1) := by decide +kernel
theorem dX10_wantOfWriters_18 : decode cX10_wantOfWriters 18 = .ok (.getfield 75, 3) := by decide +kernel
theorem dX10_wantOfWriters_21 : decode cX10_wantOfWriters 21 = .ok (.ifCond .eq 31, 3) := by decide +kernel
theorem dX10_wantOfWriters_24 : decode cX10_wantOfWriters 24 = .ok (.aload_n 2, 1) := by decide +kernel
theorem dX10_wantOfWriters_25 : decode cX10_wantOfWriters 25 = .ok (.getfield 290, 3) := by decide +kernel
theorem dX10_wantOfWriters_28 : decode cX10_wantOfWriters 28 = .ok (.aload_n 0, 1) := by decide +kernel
theorem dX10_wantOfWriters_29 : decode cX10_wantOfWriters 29 = .ok (.getfield 14, 3) := by decide +kernel
theorem dX10_wantOfWriters_32 : decode cX10_wantOfWriters 32 = .ok (.getfield 202, 3) := by decide +kernel
theorem dX10_wantOfWriters_35 : decode cX10_wantOfWriters 35 = .ok (.invokevirtual 399, 3) := by decide +kernel
theorem dX10_wantOfWriters_38 : decode cX10_wantOfWriters 38 = .ok (.aload_n 2, 1) := by decide +kernel
theorem dX10_wantOfWriters_39 : decode cX10_wantOfWriters 39 = .ok (.getfield 111, 3) := by decide +kernel
theorem dX10_wantOfWriters_42 : decode cX10_wantOfWriters 42 = .ok (.aload_n 0, 1) := by decide +kernel
theorem dX10_wantOfWriters_43 : decode cX10_wantOfWriters 43 = .ok (.getfield 14, 3) := by decide +kernel
theorem dX10_wantOfWriters_46 : decode cX10_wantOfWriters 46 = .ok (.getfield 202, 3) := by decide +kernel
theorem dX10_wantOfWriters_49 : decode cX10_wantOfWriters 49 = .ok (.invokevirtual 403, 3) := by decide +kernel
theorem dX10_wantOfWriters_52 : decode cX10_wantOfWriters 52 = .ok (.iinc 1 1, 3) := by decide +kernel
theorem dX10_wantOfWriters_55 : decode cX10_wantOfWriters 55 = .ok (.goto (-53), 3) := by decide +kernel
theorem dX10_wantOfWriters_58 : decode cX10_wantOfWriters 58 = .ok (.return_, 1) := by decide +kernel
theorem dX10_leastBase_0 : decode cX10_leastBase 0 = .ok (.iload_n 1, 1) := by decide +kernel
theorem dX10_leastBase_1 : decode cX10_leastBase 1 = .ok (.istore_n 2, 1) := by decide +kernel
theorem dX10_leastBase_2 : decode cX10_leastBase 2 = .ok (.iconst 0, 1) := by decide +kernel
theorem dX10_leastBase_3 : decode cX10_leastBase 3 = .ok (.istore_n 3, 1) := by decide +kernel
theorem dX10_leastBase_4 : decode cX10_leastBase 4 = .ok (.iload_n 3, 1) := by decide +kernel
theorem dX10_leastBase_5 : decode cX10_leastBase 5 = .ok (.iconst 4, 1) := by decide +kernel
theorem dX10_leastBase_6 : decode cX10_leastBase 6 = .ok (.if_icmp .ge 39, 3) := by decide +kernel
theorem dX10_leastBase_9 : decode cX10_leastBase 9 = .ok (.aload_n 0, 1) := by decide +kernel
theorem dX10_leastBase_10 : decode cX10_leastBase 10 = .ok (.iload_n 3, 1) := by decide +kernel
theorem dX10_leastBase_11 : decode cX10_leastBase 11 = .ok (.invokevirtual 68, 3) := by decide +kernel
theorem dX10_leastBase_14 : decode cX10_leastBase 14 = .ok (.astore 4, 2) := by decide +kernel
theorem dX10_leastBase_16 : decode cX10_leastBase 16 = .ok (.aload 4, 2) := by decide +kernel
theorem dX10_leastBase_18 : decode cX10_leastBase 18 = .ok (.ifnull 21, 3) := by decide +kernel
theorem dX10_leastBase_21 : decode cX10_leastBase 21 = .ok (.aload 4, 2) := by decide +kernel
theorem dX10_leastBase_23 : decode cX10_leastBase 23 = .ok (.getfield 75, 3) := by decide +kernel
theorem dX10_leastBase_26 : decode cX10_leastBase 26 = .ok (.ifCond .eq 13, 3) := by decide +kernel
theorem dX10_leastBase_29 : decode cX10_leastBase 29 = .ok (.iload_n 2, 1) := by decide +kernel
theorem dX10_leastBase_30 : decode cX10_leastBase 30 = .ok (.aload 4, 2) := by decide +kernel
theorem dX10_leastBase_32 : decode cX10_leastBase 32 = .ok (.getfield 133, 3) := by decide +kernel
theorem dX10_leastBase_35 : decode cX10_leastBase 35 = .ok (.invokestatic 199, 3) := by decide +kernel
theorem dX10_leastBase_38 : decode cX10_leastBase 38 = .ok (.istore_n 2, 1) := by decide +kernel
theorem dX10_leastBase_39 : decode cX10_leastBase 39 = .ok (.iinc 3 1, 3) := by decide +kernel
theorem dX10_leastBase_42 : decode cX10_leastBase 42 = .ok (.goto (-38), 3) := by decide +kernel
theorem dX10_leastBase_45 : decode cX10_leastBase 45 = .ok (.iload_n 2, 1) := by decide +kernel
theorem dX10_leastBase_46 : decode cX10_leastBase 46 = .ok (.ireturn, 1) := by decide +kernel
