theorem dX11_takeVarint_42 : decode cX11_takeVarint 42 = .ok (.iload_n 3, 1) := by decide +kernel
theorem dX11_takeVarint_43 : decode cX11_takeVarint 43 = .ok (.bipush 127, 2) := by decide +kernel
theorem dX11_takeVarint_45 : decode cX11_takeVarint 45 = .ok (.iand, 1) := by decide +kernel
theorem dX11_takeVarint_46 : decode cX11_takeVarint 46 = .ok (.iload_n 2, 1) := by decide +kernel
theorem dX11_takeVarint_47 : decode cX11_takeVarint 47 = .ok (.ishl, 1) := by decide +kernel
theorem dX11_takeVarint_48 : decode cX11_takeVarint 48 = .ok (.goto 4, 3) := by decide +kernel
theorem dX11_takeVarint_51 : decode cX11_takeVarint 51 = .ok (.iconst 0, 1) := by decide +kernel
theorem dX11_takeVarint_52 : decode cX11_takeVarint 52 = .ok (.ior, 1) := by decide +kernel
theorem dX11_takeVarint_53 : decode cX11_takeVarint 53 = .ok (.istore_n 1, 1) := by decide +kernel
theorem dX11_takeVarint_54 : decode cX11_takeVarint 54 = .ok (.iinc 2 7, 3) := by decide +kernel
theorem dX11_takeVarint_57 : decode cX11_takeVarint 57 = .ok (.goto (-49), 3) := by decide +kernel
theorem dX11_takeVarint_60 : decode cX11_takeVarint 60 = .ok (.aload_n 0, 1) := by decide +kernel
theorem dX11_takeVarint_61 : decode cX11_takeVarint 61 = .ok (.aload_n 0, 1) := by decide +kernel
theorem dX11_takeVarint_62 : decode cX11_takeVarint 62 = .ok (.getfield 175, 3) := by decide +kernel
theorem dX11_takeVarint_65 : decode cX11_takeVarint 65 = .ok (.ifCond .eq 14, 3) := by decide +kernel
theorem dX11_takeVarint_68 : decode cX11_takeVarint 68 = .ok (.iload_n 3, 1) := by decide +kernel
theorem dX11_takeVarint_69 : decode cX11_takeVarint 69 = .ok (.sipush 128, 3) := by decide +kernel
theorem dX11_takeVarint_72 : decode cX11_takeVarint 72 = .ok (.if_icmp .ge 7, 3) := by decide +kernel
theorem dX11_takeVarint_75 : decode cX11_takeVarint 75 = .ok (.iconst 1, 1) := by decide +kernel
theorem dX11_takeVarint_76 : decode cX11_takeVarint 76 = .ok (.goto 4, 3) := by decide +kernel
theorem dX11_takeVarint_79 : decode cX11_takeVarint 79 = .ok (.iconst 0, 1) := by decide +kernel
theorem dX11_takeVarint_80 : decode cX11_takeVarint 80 = .ok (.putfield 175, 3) := by decide +kernel
theorem dX11_takeVarint_83 : decode cX11_takeVarint 83 = .ok (.iload_n 1, 1) := by decide +kernel
theorem dX11_takeVarint_84 : decode cX11_takeVarint 84 = .ok (.iconst 1, 1) := by decide +kernel
theorem dX11_takeVarint_85 : decode cX11_takeVarint 85 = .ok (.iushr, 1) := by decide +kernel
theorem dX11_takeVarint_86 : decode cX11_takeVarint 86 = .ok (.iload_n 1, 1) := by decide +kernel
theorem dX11_takeVarint_87 : decode cX11_takeVarint 87 = .ok (.iconst 1, 1) := by decide +kernel
theorem dX11_takeVarint_88 : decode cX11_takeVarint 88 = .ok (.iand, 1) := by decide +kernel
theorem dX11_takeVarint_89 : decode cX11_takeVarint 89 = .ok (.ineg, 1) := by decide +kernel
theorem dX11_takeVarint_90 : decode cX11_takeVarint 90 = .ok (.ixor, 1) := by decide +kernel
theorem dX11_takeVarint_91 : decode cX11_takeVarint 91 = .ok (.ireturn, 1) := by decide +kernel
theorem dX11_readData_0 : decode cX11_readData 0 = .ok (.aload_n 0, 1) := by decide +kernel
theorem dX11_readData_1 : decode cX11_readData 1 = .ok (.iload_n 1, 1) := by decide +kernel
theorem dX11_readData_2 : decode cX11_readData 2 = .ok (.invokevirtual 217, 3) := by decide +kernel
theorem dX11_readData_5 : decode cX11_readData 5 = .ok (.aload_n 0, 1) := by decide +kernel
theorem dX11_readData_6 : decode cX11_readData 6 = .ok (.iconst 1, 1) := by decide +kernel
theorem dX11_readData_7 : decode cX11_readData 7 = .ok (.invokevirtual 213, 3) := by decide +kernel
theorem dX11_readData_10 : decode cX11_readData 10 = .ok (.lstore_n 2, 1) := by decide +kernel
theorem dX11_readData_11 : decode cX11_readData 11 = .ok (.aload_n 0, 1) := by decide +kernel
theorem dX11_readData_12 : decode cX11_readData 12 = .ok (.aload_n 0, 1) := by decide +kernel
theorem dX11_readData_13 : decode cX11_readData 13 = .ok (.iconst 1, 1) := by decide +kernel
theorem dX11_readData_14 : decode cX11_readData 14 = .ok (.invokevirtual 213, 3) := by decide +kernel
theorem dX11_readData_17 : decode cX11_readData 17 = .ok (.l2i, 1) := by decide +kernel
theorem dX11_readData_18 : decode cX11_readData 18 = .ok (.putfield 193, 3) := by decide +kernel
theorem dX11_readData_21 : decode cX11_readData 21 = .ok (.aload_n 0, 1) := by decide +kernel
theorem dX11_readData_22 : decode cX11_readData 22 = .ok (.aload_n 0, 1) := by decide +kernel
theorem dX11_readData_23 : decode cX11_readData 23 = .ok (.iconst 1, 1) := by decide +kernel
theorem dX11_readData_24 : decode cX11_readData 24 = .ok (.invokevirtual 213, 3) := by decide +kernel
theorem dX11_readData_27 : decode cX11_readData 27 = .ok (.l2i, 1) := by decide +kernel
theorem dX11_readData_28 : decode cX11_readData 28 = .ok (.putfield 196, 3) := by decide +kernel
theorem dX11_readData_31 : decode cX11_readData 31 = .ok (.aload_n 0, 1) := by decide +kernel
theorem dX11_readData_32 : decode cX11_readData 32 = .ok (.aload_n 0, 1) := by decide +kernel
theorem dX11_readData_33 : decode cX11_readData 33 = .ok (.getfield 175, 3) := by decide +kernel
theorem dX11_readData_36 : decode cX11_readData 36 = .ok (.ifCond .eq 41, 3) := by decide +kernel
theorem dX11_readData_39 : decode cX11_readData 39 = .ok (.lload_n 2, 1) := by decide +kernel
theorem dX11_readData_40 : decode cX11_readData 40 = .ok (.ldc2_w 191, 3) := by decide +kernel
theorem dX11_readData_43 : decode cX11_readData 43 = .ok (.lcmp, 1) := by decide +kernel
theorem dX11_readData_44 : decode cX11_readData 44 = .ok (.ifCond .ne 33, 3) := by decide +kernel
theorem dX11_readData_47 : decode cX11_readData 47 = .ok (.aload_n 0, 1) := by decide +kernel
theorem dX11_readData_48 : decode cX11_readData 48 = .ok (.getfield 193, 3) := by decide +kernel
theorem dX11_readData_51 : decode cX11_readData 51 = .ok (.bipush 8, 2) := by decide +kernel
theorem dX11_readData_53 : decode cX11_readData 53 = .ok (.if_icmp .ge 24, 3) := by decide +kernel
theorem dX11_readData_56 : decode cX11_readData 56 = .ok (.aload_n 0, 1) := by decide +kernel
theorem dX11_readData_57 : decode cX11_readData 57 = .ok (.getfield 196, 3) := by decide +kernel
theorem dX11_readData_60 : decode cX11_readData 60 = .ok (.iconst 1, 1) := by decide +kernel
theorem dX11_readData_61 : decode cX11_readData 61 = .ok (.if_icmp .lt 16, 3) := by decide +kernel
theorem dX11_readData_64 : decode cX11_readData 64 = .ok (.aload_n 0, 1) := by decide +kernel
theorem dX11_readData_65 : decode cX11_readData 65 = .ok (.getfield 196, 3) := by decide +kernel
theorem dX11_readData_68 : decode cX11_readData 68 = .ok (.bipush 48, 2) := by decide +kernel
theorem dX11_readData_70 : decode cX11_readData 70 = .ok (.if_icmp .gt 7, 3) := by decide +kernel
theorem dX11_readData_73 : decode cX11_readData 73 = .ok (.iconst 1, 1) := by decide +kernel
theorem dX11_readData_74 : decode cX11_readData 74 = .ok (.goto 4, 3) := by decide +kernel
theorem dX11_readData_77 : decode cX11_readData 77 = .ok (.iconst 0, 1) := by decide +kernel
theorem dX11_readData_78 : decode cX11_readData 78 = .ok (.putfield 175, 3) := by decide +kernel
theorem dX11_readData_81 : decode cX11_readData 81 = .ok (.iconst 0, 1) := by decide +kernel
theorem dX11_readData_82 : decode cX11_readData 82 = .ok (.istore 4, 2) := by decide +kernel
theorem dX11_readData_84 : decode cX11_readData 84 = .ok (.iload 4, 2) := by decide +kernel
theorem dX11_readData_86 : decode cX11_readData 86 = .ok (.iconst 3, 1) := by decide +kernel
theorem dX11_readData_87 : decode cX11_readData 87 = .ok (.if_icmp .ge 22, 3) := by decide +kernel
theorem dX11_readData_90 : decode cX11_readData 90 = .ok (.aload_n 0, 1) := by decide +kernel
theorem dX11_readData_91 : decode cX11_readData 91 = .ok (.getfield 175, 3) := by decide +kernel
theorem dX11_readData_94 : decode cX11_readData 94 = .ok (.ifCond .eq 15, 3) := by decide +kernel
theorem dX11_readData_97 : decode cX11_readData 97 = .ok (.aload_n 0, 1) := by decide +kernel
theorem dX11_readData_98 : decode cX11_readData 98 = .ok (.iload 4, 2) := by decide +kernel
theorem dX11_readData_100 : decode cX11_readData 100 = .ok (.invokevirtual 220, 3) := by decide +kernel
theorem dX11_readData_103 : decode cX11_readData 103 = .ok (.iinc 4 1, 3) := by decide +kernel
theorem dX11_readData_106 : decode cX11_readData 106 = .ok (.goto (-22), 3) := by decide +kernel
theorem dX11_readData_109 : decode cX11_readData 109 = .ok (.aload_n 0, 1) := by decide +kernel
theorem dX11_readData_110 : decode cX11_readData 110 = .ok (.getfield 175, 3) := by decide +kernel
theorem dX11_readData_113 : decode cX11_readData 113 = .ok (.ifCond .ne 5, 3) := by decide +kernel
theorem dX11_readData_116 : decode cX11_readData 116 = .ok (.iconst 0, 1) := by decide +kernel
theorem dX11_readData_117 : decode cX11_readData 117 = .ok (.ireturn, 1) := by decide +kernel
theorem dX11_readData_118 : decode cX11_readData 118 = .ok (.aload_n 0, 1) := by decide +kernel
theorem dX11_readData_119 : decode cX11_readData 119 = .ok (.invokevirtual 223, 3) := by decide +kernel
theorem dX11_readData_122 : decode cX11_readData 122 = .ok (.aload_n 0, 1) := by decide +kernel
theorem dX11_readData_123 : decode cX11_readData 123 = .ok (.iload_n 1, 1) := by decide +kernel
theorem dX11_readData_124 : decode cX11_readData 124 = .ok (.invokevirtual 226, 3) := by decide +kernel
theorem dX11_readData_127 : decode cX11_readData 127 = .ok (.ireturn, 1) := by decide +kernel
theorem dX11_takeColumn_0 : decode cX11_takeColumn 0 = .ok (.aload_n 0, 1) := by decide +kernel
theorem dX11_takeColumn_1 : decode cX11_takeColumn 1 = .ok (.iconst 1, 1) := by decide +kernel
theorem dX11_takeColumn_2 : decode cX11_takeColumn 2 = .ok (.invokevirtual 213, 3) := by decide +kernel
theorem dX11_takeColumn_5 : decode cX11_takeColumn 5 = .ok (.l2i, 1) := by decide +kernel
theorem dX11_takeColumn_6 : decode cX11_takeColumn 6 = .ok (.istore_n 2, 1) := by decide +kernel
theorem dX11_takeColumn_7 : decode cX11_takeColumn 7 = .ok (.iconst 0, 1) := by decide +kernel
theorem dX11_takeColumn_8 : decode cX11_takeColumn 8 = .ok (.istore_n 3, 1) := by decide +kernel
theorem dX11_takeColumn_9 : decode cX11_takeColumn 9 = .ok (.iconst 0, 1) := by decide +kernel
theorem dX11_takeColumn_10 : decode cX11_takeColumn 10 = .ok (.istore 4, 2) := by decide +kernel
theorem dX11_takeColumn_12 : decode cX11_takeColumn 12 = .ok (.iload 4, 2) := by decide +kernel
theorem dX11_takeColumn_14 : decode cX11_takeColumn 14 = .ok (.aload_n 0, 1) := by decide +kernel
theorem dX11_takeColumn_15 : decode cX11_takeColumn 15 = .ok (.getfield 196, 3) := by decide +kernel
theorem dX11_takeColumn_18 : decode cX11_takeColumn 18 = .ok (.if_icmp .ge 104, 3) := by decide +kernel
theorem dX11_takeColumn_21 : decode cX11_takeColumn 21 = .ok (.aload_n 0, 1) := by decide +kernel
theorem dX11_takeColumn_22 : decode cX11_takeColumn 22 = .ok (.iconst 1, 1) := by decide +kernel
theorem dX11_takeColumn_23 : decode cX11_takeColumn 23 = .ok (.invokevirtual 213, 3) := by decide +kernel
theorem dX11_takeColumn_26 : decode cX11_takeColumn 26 = .ok (.l2i, 1) := by decide +kernel
theorem dX11_takeColumn_27 : decode cX11_takeColumn 27 = .ok (.istore 5, 2) := by decide +kernel
theorem dX11_takeColumn_29 : decode cX11_takeColumn 29 = .ok (.iconst 0, 1) := by decide +kernel
theorem dX11_takeColumn_30 : decode cX11_takeColumn 30 = .ok (.istore 6, 2) := by decide +kernel
theorem dX11_takeColumn_32 : decode cX11_takeColumn 32 = .ok (.iload 6, 2) := by decide +kernel
theorem dX11_takeColumn_34 : decode cX11_takeColumn 34 = .ok (.bipush 8, 2) := by decide +kernel
theorem dX11_takeColumn_36 : decode cX11_takeColumn 36 = .ok (.if_icmp .ge 80, 3) := by decide +kernel
theorem dX11_takeColumn_39 : decode cX11_takeColumn 39 = .ok (.iload 4, 2) := by decide +kernel
theorem dX11_takeColumn_41 : decode cX11_takeColumn 41 = .ok (.iload 6, 2) := by decide +kernel
theorem dX11_takeColumn_43 : decode cX11_takeColumn 43 = .ok (.iadd, 1) := by decide +kernel
theorem dX11_takeColumn_44 : decode cX11_takeColumn 44 = .ok (.aload_n 0, 1) := by decide +kernel
theorem dX11_takeColumn_45 : decode cX11_takeColumn 45 = .ok (.getfield 196, 3) := by decide +kernel
theorem dX11_takeColumn_48 : decode cX11_takeColumn 48 = .ok (.if_icmp .ge 68, 3) := by decide +kernel
theorem dX11_takeColumn_51 : decode cX11_takeColumn 51 = .ok (.iload 5, 2) := by decide +kernel
theorem dX11_takeColumn_53 : decode cX11_takeColumn 53 = .ok (.bipush 7, 2) := by decide +kernel
theorem dX11_takeColumn_55 : decode cX11_takeColumn 55 = .ok (.iload 6, 2) := by decide +kernel
theorem dX11_takeColumn_57 : decode cX11_takeColumn 57 = .ok (.isub, 1) := by decide +kernel
theorem dX11_takeColumn_58 : decode cX11_takeColumn 58 = .ok (.ishr, 1) := by decide +kernel
theorem dX11_takeColumn_59 : decode cX11_takeColumn 59 = .ok (.iconst 1, 1) := by decide +kernel
theorem dX11_takeColumn_60 : decode cX11_takeColumn 60 = .ok (.iand, 1) := by decide +kernel
theorem dX11_takeColumn_61 : decode cX11_takeColumn 61 = .ok (.iconst 1, 1) := by decide +kernel
theorem dX11_takeColumn_62 : decode cX11_takeColumn 62 = .ok (.if_icmp .ne 7, 3) := by decide +kernel
theorem dX11_takeColumn_65 : decode cX11_takeColumn 65 = .ok (.iconst 1, 1) := by decide +kernel
theorem dX11_takeColumn_66 : decode cX11_takeColumn 66 = .ok (.goto 4, 3) := by decide +kernel
theorem dX11_takeColumn_69 : decode cX11_takeColumn 69 = .ok (.iconst 0, 1) := by decide +kernel
theorem dX11_takeColumn_70 : decode cX11_takeColumn 70 = .ok (.istore 7, 2) := by decide +kernel
theorem dX11_takeColumn_72 : decode cX11_takeColumn 72 = .ok (.aload_n 0, 1) := by decide +kernel
theorem dX11_takeColumn_73 : decode cX11_takeColumn 73 = .ok (.getfield 34, 3) := by decide +kernel
theorem dX11_takeColumn_76 : decode cX11_takeColumn 76 = .ok (.iconst 3, 1) := by decide +kernel
theorem dX11_takeColumn_77 : decode cX11_takeColumn 77 = .ok (.iload 4, 2) := by decide +kernel
theorem dX11_takeColumn_79 : decode cX11_takeColumn 79 = .ok (.iload 6, 2) := by decide +kernel
theorem dX11_takeColumn_81 : decode cX11_takeColumn 81 = .ok (.iadd, 1) := by decide +kernel
theorem dX11_takeColumn_82 : decode cX11_takeColumn 82 = .ok (.imul, 1) := by decide +kernel
theorem dX11_takeColumn_83 : decode cX11_takeColumn 83 = .ok (.iload_n 1, 1) := by decide +kernel
theorem dX11_takeColumn_84 : decode cX11_takeColumn 84 = .ok (.iadd, 1) := by decide +kernel
theorem dX11_takeColumn_85 : decode cX11_takeColumn 85 = .ok (.iload 7, 2) := by decide +kernel
theorem dX11_takeColumn_87 : decode cX11_takeColumn 87 = .ok (.ifCond .eq 8, 3) := by decide +kernel
theorem dX11_takeColumn_90 : decode cX11_takeColumn 90 = .ok (.ldc 206, 2) := by decide +kernel
theorem dX11_takeColumn_92 : decode cX11_takeColumn 92 = .ok (.goto 4, 3) := by decide +kernel
theorem dX11_takeColumn_95 : decode cX11_takeColumn 95 = .ok (.iconst 0, 1) := by decide +kernel
theorem dX11_takeColumn_96 : decode cX11_takeColumn 96 = .ok (.iastore, 1) := by decide +kernel
theorem dX11_takeColumn_97 : decode cX11_takeColumn 97 = .ok (.iload_n 3, 1) := by decide +kernel
theorem dX11_takeColumn_98 : decode cX11_takeColumn 98 = .ok (.iload 7, 2) := by decide +kernel
theorem dX11_takeColumn_100 : decode cX11_takeColumn 100 = .ok (.ifCond .eq 7, 3) := by decide +kernel
theorem dX11_takeColumn_103 : decode cX11_takeColumn 103 = .ok (.iconst 0, 1) := by decide +kernel
theorem dX11_takeColumn_104 : decode cX11_takeColumn 104 = .ok (.goto 4, 3) := by decide +kernel
theorem dX11_takeColumn_107 : decode cX11_takeColumn 107 = .ok (.iconst 1, 1) := by decide +kernel
theorem dX11_takeColumn_108 : decode cX11_takeColumn 108 = .ok (.iadd, 1) := by decide +kernel
theorem dX11_takeColumn_109 : decode cX11_takeColumn 109 = .ok (.istore_n 3, 1) := by decide +kernel
theorem dX11_takeColumn_110 : decode cX11_takeColumn 110 = .ok (.iinc 6 1, 3) := by decide +kernel
theorem dX11_takeColumn_113 : decode cX11_takeColumn 113 = .ok (.goto (-81), 3) := by decide +kernel
theorem dX11_takeColumn_116 : decode cX11_takeColumn 116 = .ok (.iinc 4 8, 3) := by decide +kernel
theorem dX11_takeColumn_119 : decode cX11_takeColumn 119 = .ok (.goto (-107), 3) := by decide +kernel
theorem dX11_takeColumn_122 : decode cX11_takeColumn 122 = .ok (.iconst 0, 1) := by decide +kernel
theorem dX11_takeColumn_123 : decode cX11_takeColumn 123 = .ok (.istore 4, 2) := by decide +kernel
theorem dX11_takeColumn_125 : decode cX11_takeColumn 125 = .ok (.aload_n 0, 1) := by decide +kernel
theorem dX11_takeColumn_126 : decode cX11_takeColumn 126 = .ok (.aload_n 0, 1) := by decide +kernel
theorem dX11_takeColumn_127 : decode cX11_takeColumn 127 = .ok (.getfield 175, 3) := by decide +kernel
theorem dX11_takeColumn_130 : decode cX11_takeColumn 130 = .ok (.ifCond .eq 12, 3) := by decide +kernel
theorem dX11_takeColumn_133 : decode cX11_takeColumn 133 = .ok (.iload_n 2, 1) := by decide +kernel
theorem dX11_takeColumn_134 : decode cX11_takeColumn 134 = .ok (.iconst 3, 1) := by decide +kernel
theorem dX11_takeColumn_135 : decode cX11_takeColumn 135 = .ok (.if_icmp .ge 7, 3) := by decide +kernel
theorem dX11_takeColumn_138 : decode cX11_takeColumn 138 = .ok (.iconst 1, 1) := by decide +kernel
theorem dX11_takeColumn_139 : decode cX11_takeColumn 139 = .ok (.goto 4, 3) := by decide +kernel
theorem dX11_takeColumn_142 : decode cX11_takeColumn 142 = .ok (.iconst 0, 1) := by decide +kernel
theorem dX11_takeColumn_143 : decode cX11_takeColumn 143 = .ok (.putfield 175, 3) := by decide +kernel
theorem dX11_takeColumn_146 : decode cX11_takeColumn 146 = .ok (.aload_n 0, 1) := by decide +kernel
theorem dX11_takeColumn_147 : decode cX11_takeColumn 147 = .ok (.getfield 175, 3) := by decide +kernel
theorem dX11_takeColumn_150 : decode cX11_takeColumn 150 = .ok (.ifCond .eq 170, 3) := by decide +kernel
theorem dX11_takeColumn_153 : decode cX11_takeColumn 153 = .ok (.iload 4, 2) := by decide +kernel
theorem dX11_takeColumn_155 : decode cX11_takeColumn 155 = .ok (.iload_n 3, 1) := by decide +kernel
theorem dX11_takeColumn_156 : decode cX11_takeColumn 156 = .ok (.if_icmp .ge 164, 3) := by decide +kernel
theorem dX11_takeColumn_159 : decode cX11_takeColumn 159 = .ok (.iload_n 2, 1) := by decide +kernel
theorem dX11_takeColumn_160 : decode cX11_takeColumn 160 = .ok (.ifCond .ne 22, 3) := by decide +kernel
theorem dX11_takeColumn_163 : decode cX11_takeColumn 163 = .ok (.aload_n 0, 1) := by decide +kernel
theorem dX11_takeColumn_164 : decode cX11_takeColumn 164 = .ok (.getfield 47, 3) := by decide +kernel
theorem dX11_takeColumn_167 : decode cX11_takeColumn 167 = .ok (.iload 4, 2) := by decide +kernel
theorem dX11_takeColumn_169 : decode cX11_takeColumn 169 = .ok (.aload_n 0, 1) := by decide +kernel
theorem dX11_takeColumn_170 : decode cX11_takeColumn 170 = .ok (.iconst 4, 1) := by decide +kernel
theorem dX11_takeColumn_171 : decode cX11_takeColumn 171 = .ok (.invokevirtual 213, 3) := by decide +kernel
theorem dX11_takeColumn_174 : decode cX11_takeColumn 174 = .ok (.l2i, 1) := by decide +kernel
theorem dX11_takeColumn_175 : decode cX11_takeColumn 175 = .ok (.iastore, 1) := by decide +kernel
theorem dX11_takeColumn_176 : decode cX11_takeColumn 176 = .ok (.iinc 4 1, 3) := by decide +kernel
theorem dX11_takeColumn_179 : decode cX11_takeColumn 179 = .ok (.goto (-33), 3) := by decide +kernel
theorem dX11_takeColumn_182 : decode cX11_takeColumn 182 = .ok (.iload_n 2, 1) := by decide +kernel
theorem dX11_takeColumn_183 : decode cX11_takeColumn 183 = .ok (.iconst 2, 1) := by decide +kernel
theorem dX11_takeColumn_184 : decode cX11_takeColumn 184 = .ok (.if_icmp .ne 44, 3) := by decide +kernel
theorem dX11_takeColumn_187 : decode cX11_takeColumn 187 = .ok (.aload_n 0, 1) := by decide +kernel
theorem dX11_takeColumn_188 : decode cX11_takeColumn 188 = .ok (.invokevirtual 230, 3) := by decide +kernel
theorem dX11_takeColumn_191 : decode cX11_takeColumn 191 = .ok (.istore 5, 2) := by decide +kernel
theorem dX11_takeColumn_193 : decode cX11_takeColumn 193 = .ok (.aload_n 0, 1) := by decide +kernel
theorem dX11_takeColumn_194 : decode cX11_takeColumn 194 = .ok (.getfield 47, 3) := by decide +kernel
theorem dX11_takeColumn_197 : decode cX11_takeColumn 197 = .ok (.iload 4, 2) := by decide +kernel
theorem dX11_takeColumn_199 : decode cX11_takeColumn 199 = .ok (.iload 4, 2) := by decide +kernel
theorem dX11_takeColumn_201 : decode cX11_takeColumn 201 = .ok (.ifCond .ne 8, 3) := by decide +kernel
theorem dX11_takeColumn_204 : decode cX11_takeColumn 204 = .ok (.iload 5, 2) := by decide +kernel
theorem dX11_takeColumn_206 : decode cX11_takeColumn 206 = .ok (.goto 15, 3) := by decide +kernel
theorem dX11_takeColumn_209 : decode cX11_takeColumn 209 = .ok (.aload_n 0, 1) := by decide +kernel
theorem dX11_takeColumn_210 : decode cX11_takeColumn 210 = .ok (.getfield 47, 3) := by decide +kernel
theorem dX11_takeColumn_213 : decode cX11_takeColumn 213 = .ok (.iload 4, 2) := by decide +kernel
theorem dX11_takeColumn_215 : decode cX11_takeColumn 215 = .ok (.iconst 1, 1) := by decide +kernel
theorem dX11_takeColumn_216 : decode cX11_takeColumn 216 = .ok (.isub, 1) := by decide +kernel
theorem dX11_takeColumn_217 : decode cX11_takeColumn 217 = .ok (.iaload, 1) := by decide +kernel
theorem dX11_takeColumn_218 : decode cX11_takeColumn 218 = .ok (.iload 5, 2) := by decide +kernel
theorem dX11_takeColumn_220 : decode cX11_takeColumn 220 = .ok (.iadd, 1) := by decide +kernel
theorem dX11_takeColumn_221 : decode cX11_takeColumn 221 = .ok (.iastore, 1) := by decide +kernel
theorem dX11_takeColumn_222 : decode cX11_takeColumn 222 = .ok (.iinc 4 1, 3) := by decide +kernel
theorem dX11_takeColumn_225 : decode cX11_takeColumn 225 = .ok (.goto (-79), 3) := by decide +kernel
theorem dX11_takeColumn_228 : decode cX11_takeColumn 228 = .ok (.aload_n 0, 1) := by decide +kernel
theorem dX11_takeColumn_229 : decode cX11_takeColumn 229 = .ok (.iconst 1, 1) := by decide +kernel
theorem dX11_takeColumn_230 : decode cX11_takeColumn 230 = .ok (.invokevirtual 213, 3) := by decide +kernel
theorem dX11_takeColumn_233 : decode cX11_takeColumn 233 = .ok (.l2i, 1) := by decide +kernel
theorem dX11_takeColumn_234 : decode cX11_takeColumn 234 = .ok (.istore 5, 2) := by decide +kernel
theorem dX11_takeColumn_236 : decode cX11_takeColumn 236 = .ok (.aload_n 0, 1) := by decide +kernel
theorem dX11_takeColumn_237 : decode cX11_takeColumn 237 = .ok (.iconst 4, 1) := by decide +kernel
theorem dX11_takeColumn_238 : decode cX11_takeColumn 238 = .ok (.invokevirtual 213, 3) := by decide +kernel
theorem dX11_takeColumn_241 : decode cX11_takeColumn 241 = .ok (.l2i, 1) := by decide +kernel
theorem dX11_takeColumn_242 : decode cX11_takeColumn 242 = .ok (.istore 6, 2) := by decide +kernel
theorem dX11_takeColumn_244 : decode cX11_takeColumn 244 = .ok (.aload_n 0, 1) := by decide +kernel
theorem dX11_takeColumn_245 : decode cX11_takeColumn 245 = .ok (.aload_n 0, 1) := by decide +kernel
theorem dX11_takeColumn_246 : decode cX11_takeColumn 246 = .ok (.getfield 175, 3) := by decide +kernel
theorem dX11_takeColumn_249 : decode cX11_takeColumn 249 = .ok (.ifCond .eq 22, 3) := by decide +kernel
theorem dX11_takeColumn_252 : decode cX11_takeColumn 252 = .ok (.iload 5, 2) := by decide +kernel
theorem dX11_takeColumn_254 : decode cX11_takeColumn 254 = .ok (.iconst 1, 1) := by decide +kernel
theorem dX11_takeColumn_255 : decode cX11_takeColumn 255 = .ok (.if_icmp .lt 16, 3) := by decide +kernel
theorem dX11_takeColumn_258 : decode cX11_takeColumn 258 = .ok (.iload 4, 2) := by decide +kernel
theorem dX11_takeColumn_260 : decode cX11_takeColumn 260 = .ok (.iload 5, 2) := by decide +kernel
theorem dX11_takeColumn_262 : decode cX11_takeColumn 262 = .ok (.iadd, 1) := by decide +kernel
theorem dX11_takeColumn_263 : decode cX11_takeColumn 263 = .ok (.iload_n 3, 1) := by decide +kernel
theorem dX11_takeColumn_264 : decode cX11_takeColumn 264 = .ok (.if_icmp .gt 7, 3) := by decide +kernel
theorem dX11_takeColumn_267 : decode cX11_takeColumn 267 = .ok (.iconst 1, 1) := by decide +kernel
theorem dX11_takeColumn_268 : decode cX11_takeColumn 268 = .ok (.goto 4, 3) := by decide +kernel
theorem dX11_takeColumn_271 : decode cX11_takeColumn 271 = .ok (.iconst 0, 1) := by decide +kernel
theorem dX11_takeColumn_272 : decode cX11_takeColumn 272 = .ok (.putfield 175, 3) := by decide +kernel
theorem dX11_takeColumn_275 : decode cX11_takeColumn 275 = .ok (.iconst 0, 1) := by decide +kernel
theorem dX11_takeColumn_276 : decode cX11_takeColumn 276 = .ok (.istore 7, 2) := by decide +kernel
theorem dX11_takeColumn_278 : decode cX11_takeColumn 278 = .ok (.aload_n 0, 1) := by decide +kernel
theorem dX11_takeColumn_279 : decode cX11_takeColumn 279 = .ok (.getfield 175, 3) := by decide +kernel
theorem dX11_takeColumn_282 : decode cX11_takeColumn 282 = .ok (.ifCond .eq 28, 3) := by decide +kernel
theorem dX11_takeColumn_285 : decode cX11_takeColumn 285 = .ok (.iload 7, 2) := by decide +kernel
theorem dX11_takeColumn_287 : decode cX11_takeColumn 287 = .ok (.iload 5, 2) := by decide +kernel
theorem dX11_takeColumn_289 : decode cX11_takeColumn 289 = .ok (.if_icmp .ge 21, 3) := by decide +kernel
theorem dX11_takeColumn_292 : decode cX11_takeColumn 292 = .ok (.aload_n 0, 1) := by decide +kernel
theorem dX11_takeColumn_293 : decode cX11_takeColumn 293 = .ok (.getfield 47, 3) := by decide +kernel
theorem dX11_takeColumn_296 : decode cX11_takeColumn 296 = .ok (.iload 4, 2) := by decide +kernel
theorem dX11_takeColumn_298 : decode cX11_takeColumn 298 = .ok (.iload 7, 2) := by decide +kernel
theorem dX11_takeColumn_300 : decode cX11_takeColumn 300 = .ok (.iadd, 1) := by decide +kernel
theorem dX11_takeColumn_301 : decode cX11_takeColumn 301 = .ok (.iload 6, 2) := by decide +kernel
theorem dX11_takeColumn_303 : decode cX11_takeColumn 303 = .ok (.iastore, 1) := by decide +kernel
theorem dX11_takeColumn_304 : decode cX11_takeColumn 304 = .ok (.iinc 7 1, 3) := by decide +kernel
theorem dX11_takeColumn_307 : decode cX11_takeColumn 307 = .ok (.goto (-29), 3) := by decide +kernel
theorem dX11_takeColumn_310 : decode cX11_takeColumn 310 = .ok (.iload 4, 2) := by decide +kernel
theorem dX11_takeColumn_312 : decode cX11_takeColumn 312 = .ok (.iload 5, 2) := by decide +kernel
theorem dX11_takeColumn_314 : decode cX11_takeColumn 314 = .ok (.iadd, 1) := by decide +kernel
theorem dX11_takeColumn_315 : decode cX11_takeColumn 315 = .ok (.istore 4, 2) := by decide +kernel
theorem dX11_takeColumn_317 : decode cX11_takeColumn 317 = .ok (.goto (-171), 3) := by decide +kernel
theorem dX11_takeColumn_320 : decode cX11_takeColumn 320 = .ok (.iconst 0, 1) := by decide +kernel
theorem dX11_takeColumn_321 : decode cX11_takeColumn 321 = .ok (.istore 4, 2) := by decide +kernel
theorem dX11_takeColumn_323 : decode cX11_takeColumn 323 = .ok (.iconst 0, 1) := by decide +kernel
theorem dX11_takeColumn_324 : decode cX11_takeColumn 324 = .ok (.istore 5, 2) := by decide +kernel
theorem dX11_takeColumn_326 : decode cX11_takeColumn 326 = .ok (.aload_n 0, 1) := by decide +kernel
theorem dX11_takeColumn_327 : decode cX11_takeColumn 327 = .ok (.getfield 175, 3) := by decide +kernel
theorem dX11_takeColumn_330 : decode cX11_takeColumn 330 = .ok (.ifCond .eq 86, 3) := by decide +kernel
theorem dX11_takeColumn_333 : decode cX11_takeColumn 333 = .ok (.iload 5, 2) := by decide +kernel
theorem dX11_takeColumn_335 : decode cX11_takeColumn 335 = .ok (.aload_n 0, 1) := by decide +kernel
theorem dX11_takeColumn_336 : decode cX11_takeColumn 336 = .ok (.getfield 196, 3) := by decide +kernel
theorem dX11_takeColumn_339 : decode cX11_takeColumn 339 = .ok (.if_icmp .ge 77, 3) := by decide +kernel
theorem dX11_takeColumn_342 : decode cX11_takeColumn 342 = .ok (.aload_n 0, 1) := by decide +kernel
theorem dX11_takeColumn_343 : decode cX11_takeColumn 343 = .ok (.getfield 34, 3) := by decide +kernel
theorem dX11_takeColumn_346 : decode cX11_takeColumn 346 = .ok (.iconst 3, 1) := by decide +kernel
theorem dX11_takeColumn_347 : decode cX11_takeColumn 347 = .ok (.iload 5, 2) := by decide +kernel
theorem dX11_takeColumn_349 : decode cX11_takeColumn 349 = .ok (.imul, 1) := by decide +kernel
theorem dX11_takeColumn_350 : decode cX11_takeColumn 350 = .ok (.iload_n 1, 1) := by decide +kernel
theorem dX11_takeColumn_351 : decode cX11_takeColumn 351 = .ok (.iadd, 1) := by decide +kernel
theorem dX11_takeColumn_352 : decode cX11_takeColumn 352 = .ok (.iaload, 1) := by decide +kernel
theorem dX11_takeColumn_353 : decode cX11_takeColumn 353 = .ok (.ldc 206, 2) := by decide +kernel
theorem dX11_takeColumn_355 : decode cX11_takeColumn 355 = .ok (.if_icmp .ne 6, 3) := by decide +kernel
theorem dX11_takeColumn_358 : decode cX11_takeColumn 358 = .ok (.goto 52, 3) := by decide +kernel
theorem dX11_takeColumn_361 : decode cX11_takeColumn 361 = .ok (.aload_n 0, 1) := by decide +kernel
theorem dX11_takeColumn_362 : decode cX11_takeColumn 362 = .ok (.getfield 34, 3) := by decide +kernel
theorem dX11_takeColumn_365 : decode cX11_takeColumn 365 = .ok (.iconst 3, 1) := by decide +kernel
theorem dX11_takeColumn_366 : decode cX11_takeColumn 366 = .ok (.iload 5, 2) := by decide +kernel
theorem dX11_takeColumn_368 : decode cX11_takeColumn 368 = .ok (.imul, 1) := by decide +kernel
theorem dX11_takeColumn_369 : decode cX11_takeColumn 369 = .ok (.iload_n 1, 1) := by decide +kernel
theorem dX11_takeColumn_370 : decode cX11_takeColumn 370 = .ok (.iadd, 1) := by decide +kernel
theorem dX11_takeColumn_371 : decode cX11_takeColumn 371 = .ok (.aload_n 0, 1) := by decide +kernel
theorem dX11_takeColumn_372 : decode cX11_takeColumn 372 = .ok (.getfield 47, 3) := by decide +kernel
theorem dX11_takeColumn_375 : decode cX11_takeColumn 375 = .ok (.iload 4, 2) := by decide +kernel
theorem dX11_takeColumn_377 : decode cX11_takeColumn 377 = .ok (.iaload, 1) := by decide +kernel
theorem dX11_takeColumn_378 : decode cX11_takeColumn 378 = .ok (.iastore, 1) := by decide +kernel
theorem dX11_takeColumn_379 : decode cX11_takeColumn 379 = .ok (.aload_n 0, 1) := by decide +kernel
theorem dX11_takeColumn_380 : decode cX11_takeColumn 380 = .ok (.aload_n 0, 1) := by decide +kernel
theorem dX11_takeColumn_381 : decode cX11_takeColumn 381 = .ok (.getfield 175, 3) := by decide +kernel
theorem dX11_takeColumn_384 : decode cX11_takeColumn 384 = .ok (.ifCond .eq 19, 3) := by decide +kernel
theorem dX11_takeColumn_387 : decode cX11_takeColumn 387 = .ok (.aload_n 0, 1) := by decide +kernel
theorem dX11_takeColumn_388 : decode cX11_takeColumn 388 = .ok (.getfield 47, 3) := by decide +kernel
theorem dX11_takeColumn_391 : decode cX11_takeColumn 391 = .ok (.iload 4, 2) := by decide +kernel
theorem dX11_takeColumn_393 : decode cX11_takeColumn 393 = .ok (.iaload, 1) := by decide +kernel
theorem dX11_takeColumn_394 : decode cX11_takeColumn 394 = .ok (.ldc 206, 2) := by decide +kernel
theorem dX11_takeColumn_396 : decode cX11_takeColumn 396 = .ok (.if_icmp .eq 7, 3) := by decide +kernel
theorem dX11_takeColumn_399 : decode cX11_takeColumn 399 = .ok (.iconst 1, 1) := by decide +kernel
theorem dX11_takeColumn_400 : decode cX11_takeColumn 400 = .ok (.goto 4, 3) := by decide +kernel
theorem dX11_takeColumn_403 : decode cX11_takeColumn 403 = .ok (.iconst 0, 1) := by decide +kernel
theorem dX11_takeColumn_404 : decode cX11_takeColumn 404 = .ok (.putfield 175, 3) := by decide +kernel
theorem dX11_takeColumn_407 : decode cX11_takeColumn 407 = .ok (.iinc 4 1, 3) := by decide +kernel
theorem dX11_takeColumn_410 : decode cX11_takeColumn 410 = .ok (.iinc 5 1, 3) := by decide +kernel
theorem dX11_takeColumn_413 : decode cX11_takeColumn 413 = .ok (.goto (-87), 3) := by decide +kernel
theorem dX11_takeColumn_416 : decode cX11_takeColumn 416 = .ok (.aload_n 0, 1) := by decide +kernel
theorem dX11_takeColumn_417 : decode cX11_takeColumn 417 = .ok (.bipush 8, 2) := by decide +kernel
theorem dX11_takeColumn_419 : decode cX11_takeColumn 419 = .ok (.invokevirtual 213, 3) := by decide +kernel
theorem dX11_takeColumn_422 : decode cX11_takeColumn 422 = .ok (.pop2, 1) := by decide +kernel
theorem dX11_takeColumn_423 : decode cX11_takeColumn 423 = .ok (.return_, 1) := by decide +kernel
theorem dX11_isBelow_0 : decode cX11_isBelow 0 = .ok (.iload_n 0, 1) := by decide +kernel
theorem dX11_isBelow_1 : decode cX11_isBelow 1 = .ok (.ldc 206, 2) := by decide +kernel
theorem dX11_isBelow_3 : decode cX11_isBelow 3 = .ok (.ixor, 1) := by decide +kernel
theorem dX11_isBelow_4 : decode cX11_isBelow 4 = .ok (.iload_n 1, 1) := by decide +kernel
theorem dX11_isBelow_5 : decode cX11_isBelow 5 = .ok (.ldc 206, 2) := by decide +kernel
theorem dX11_isBelow_7 : decode cX11_isBelow 7 = .ok (.ixor, 1) := by decide +kernel
theorem dX11_isBelow_8 : decode cX11_isBelow 8 = .ok (.if_icmp .ge 7, 3) := by decide +kernel
theorem dX11_isBelow_11 : decode cX11_isBelow 11 = .ok (.iconst 1, 1) := by decide +kernel
theorem dX11_isBelow_12 : decode cX11_isBelow 12 = .ok (.goto 4, 3) := by decide +kernel
theorem dX11_isBelow_15 : decode cX11_isBelow 15 = .ok (.iconst 0, 1) := by decide +kernel
theorem dX11_isBelow_16 : decode cX11_isBelow 16 = .ok (.ireturn, 1) := by decide +kernel
theorem dX11_readEntry_0 : decode cX11_readEntry 0 = .ok (.aload_n 0, 1) := by decide +kernel
theorem dX11_readEntry_1 : decode cX11_readEntry 1 = .ok (.iconst 1, 1) := by decide +kernel
theorem dX11_readEntry_2 : decode cX11_readEntry 2 = .ok (.iload_n 1, 1) := by decide +kernel
theorem dX11_readEntry_3 : decode cX11_readEntry 3 = .ok (.invokevirtual 165, 3) := by decide +kernel
theorem dX11_readEntry_6 : decode cX11_readEntry 6 = .ok (.istore_n 2, 1) := by decide +kernel
theorem dX11_readEntry_7 : decode cX11_readEntry 7 = .ok (.iload_n 2, 1) := by decide +kernel
theorem dX11_readEntry_8 : decode cX11_readEntry 8 = .ok (.ifCond .ge 5, 3) := by decide +kernel
theorem dX11_readEntry_11 : decode cX11_readEntry 11 = .ok (.iconst 0, 1) := by decide +kernel
theorem dX11_readEntry_12 : decode cX11_readEntry 12 = .ok (.ireturn, 1) := by decide +kernel
theorem dX11_readEntry_13 : decode cX11_readEntry 13 = .ok (.aload_n 0, 1) := by decide +kernel
theorem dX11_readEntry_14 : decode cX11_readEntry 14 = .ok (.iload_n 2, 1) := by decide +kernel
theorem dX11_readEntry_15 : decode cX11_readEntry 15 = .ok (.invokevirtual 217, 3) := by decide +kernel
theorem dX11_readEntry_18 : decode cX11_readEntry 18 = .ok (.aload_n 0, 1) := by decide +kernel
theorem dX11_readEntry_19 : decode cX11_readEntry 19 = .ok (.aload_n 0, 1) := by decide +kernel
theorem dX11_readEntry_20 : decode cX11_readEntry 20 = .ok (.getfield 175, 3) := by decide +kernel
theorem dX11_readEntry_23 : decode cX11_readEntry 23 = .ok (.ifCond .eq 29, 3) := by decide +kernel
theorem dX11_readEntry_26 : decode cX11_readEntry 26 = .ok (.aload_n 0, 1) := by decide +kernel
theorem dX11_readEntry_27 : decode cX11_readEntry 27 = .ok (.iconst 1, 1) := by decide +kernel
theorem dX11_readEntry_28 : decode cX11_readEntry 28 = .ok (.invokevirtual 213, 3) := by decide +kernel
theorem dX11_readEntry_31 : decode cX11_readEntry 31 = .ok (.ldc2_w 234, 3) := by decide +kernel
theorem dX11_readEntry_34 : decode cX11_readEntry 34 = .ok (.lcmp, 1) := by decide +kernel
theorem dX11_readEntry_35 : decode cX11_readEntry 35 = .ok (.ifCond .ne 17, 3) := by decide +kernel
theorem dX11_readEntry_38 : decode cX11_readEntry 38 = .ok (.aload_n 0, 1) := by decide +kernel
theorem dX11_readEntry_39 : decode cX11_readEntry 39 = .ok (.iconst 4, 1) := by decide +kernel
theorem dX11_readEntry_40 : decode cX11_readEntry 40 = .ok (.invokevirtual 213, 3) := by decide +kernel
theorem dX11_readEntry_43 : decode cX11_readEntry 43 = .ok (.l2i, 1) := by decide +kernel
theorem dX11_readEntry_44 : decode cX11_readEntry 44 = .ok (.iload_n 1, 1) := by decide +kernel
theorem dX11_readEntry_45 : decode cX11_readEntry 45 = .ok (.if_icmp .ne 7, 3) := by decide +kernel
theorem dX11_readEntry_48 : decode cX11_readEntry 48 = .ok (.iconst 1, 1) := by decide +kernel
theorem dX11_readEntry_49 : decode cX11_readEntry 49 = .ok (.goto 4, 3) := by decide +kernel
theorem dX11_readEntry_52 : decode cX11_readEntry 52 = .ok (.iconst 0, 1) := by decide +kernel
theorem dX11_readEntry_53 : decode cX11_readEntry 53 = .ok (.putfield 175, 3) := by decide +kernel
theorem dX11_readEntry_56 : decode cX11_readEntry 56 = .ok (.aload_n 0, 1) := by decide +kernel
theorem dX11_readEntry_57 : decode cX11_readEntry 57 = .ok (.aload_n 0, 1) := by decide +kernel
theorem dX11_readEntry_58 : decode cX11_readEntry 58 = .ok (.iconst 1, 1) := by decide +kernel
theorem dX11_readEntry_59 : decode cX11_readEntry 59 = .ok (.invokevirtual 213, 3) := by decide +kernel
theorem dX11_readEntry_62 : decode cX11_readEntry 62 = .ok (.l2i, 1) := by decide +kernel
theorem dX11_readEntry_63 : decode cX11_readEntry 63 = .ok (.putfield 236, 3) := by decide +kernel
theorem dX11_readEntry_66 : decode cX11_readEntry 66 = .ok (.iconst 0, 1) := by decide +kernel
theorem dX11_readEntry_67 : decode cX11_readEntry 67 = .ok (.istore_n 3, 1) := by decide +kernel
theorem dX11_readEntry_68 : decode cX11_readEntry 68 = .ok (.iload_n 3, 1) := by decide +kernel
theorem dX11_readEntry_69 : decode cX11_readEntry 69 = .ok (.aload_n 0, 1) := by decide +kernel
theorem dX11_readEntry_70 : decode cX11_readEntry 70 = .ok (.getfield 236, 3) := by decide +kernel
theorem dX11_readEntry_73 : decode cX11_readEntry 73 = .ok (.if_icmp .ge 182, 3) := by decide +kernel
theorem dX11_readEntry_76 : decode cX11_readEntry 76 = .ok (.aload_n 0, 1) := by decide +kernel
theorem dX11_readEntry_77 : decode cX11_readEntry 77 = .ok (.getfield 175, 3) := by decide +kernel
theorem dX11_readEntry_80 : decode cX11_readEntry 80 = .ok (.ifCond .eq 175, 3) := by decide +kernel
theorem dX11_readEntry_83 : decode cX11_readEntry 83 = .ok (.aload_n 0, 1) := by decide +kernel
theorem dX11_readEntry_84 : decode cX11_readEntry 84 = .ok (.getfield 50, 3) := by decide +kernel
theorem dX11_readEntry_87 : decode cX11_readEntry 87 = .ok (.iload_n 3, 1) := by decide +kernel
theorem dX11_readEntry_88 : decode cX11_readEntry 88 = .ok (.aload_n 0, 1) := by decide +kernel
theorem dX11_readEntry_89 : decode cX11_readEntry 89 = .ok (.iconst 1, 1) := by decide +kernel
theorem dX11_readEntry_90 : decode cX11_readEntry 90 = .ok (.invokevirtual 213, 3) := by decide +kernel
theorem dX11_readEntry_93 : decode cX11_readEntry 93 = .ok (.l2i, 1) := by decide +kernel
theorem dX11_readEntry_94 : decode cX11_readEntry 94 = .ok (.iastore, 1) := by decide +kernel
theorem dX11_readEntry_95 : decode cX11_readEntry 95 = .ok (.aload_n 0, 1) := by decide +kernel
theorem dX11_readEntry_96 : decode cX11_readEntry 96 = .ok (.getfield 53, 3) := by decide +kernel
theorem dX11_readEntry_99 : decode cX11_readEntry 99 = .ok (.iload_n 3, 1) := by decide +kernel
theorem dX11_readEntry_100 : decode cX11_readEntry 100 = .ok (.aload_n 0, 1) := by decide +kernel
theorem dX11_readEntry_101 : decode cX11_readEntry 101 = .ok (.iconst 4, 1) := by decide +kernel
theorem dX11_readEntry_102 : decode cX11_readEntry 102 = .ok (.invokevirtual 213, 3) := by decide +kernel
theorem dX11_readEntry_105 : decode cX11_readEntry 105 = .ok (.l2i, 1) := by decide +kernel
theorem dX11_readEntry_106 : decode cX11_readEntry 106 = .ok (.iastore, 1) := by decide +kernel
theorem dX11_readEntry_107 : decode cX11_readEntry 107 = .ok (.aload_n 0, 1) := by decide +kernel
theorem dX11_readEntry_108 : decode cX11_readEntry 108 = .ok (.getfield 56, 3) := by decide +kernel
theorem dX11_readEntry_111 : decode cX11_readEntry 111 = .ok (.iload_n 3, 1) := by decide +kernel
theorem dX11_readEntry_112 : decode cX11_readEntry 112 = .ok (.aload_n 0, 1) := by decide +kernel
theorem dX11_readEntry_113 : decode cX11_readEntry 113 = .ok (.iconst 1, 1) := by decide +kernel
theorem dX11_readEntry_114 : decode cX11_readEntry 114 = .ok (.invokevirtual 213, 3) := by decide +kernel
theorem dX11_readEntry_117 : decode cX11_readEntry 117 = .ok (.l2i, 1) := by decide +kernel
theorem dX11_readEntry_118 : decode cX11_readEntry 118 = .ok (.iastore, 1) := by decide +kernel
theorem dX11_readEntry_119 : decode cX11_readEntry 119 = .ok (.aload_n 0, 1) := by decide +kernel
theorem dX11_readEntry_120 : decode cX11_readEntry 120 = .ok (.aload_n 0, 1) := by decide +kernel
theorem dX11_readEntry_121 : decode cX11_readEntry 121 = .ok (.getfield 175, 3) := by decide +kernel
theorem dX11_readEntry_124 : decode cX11_readEntry 124 = .ok (.ifCond .eq 47, 3) := by decide +kernel
theorem dX11_readEntry_127 : decode cX11_readEntry 127 = .ok (.aload_n 0, 1) := by decide +kernel
theorem dX11_readEntry_128 : decode cX11_readEntry 128 = .ok (.getfield 50, 3) := by decide +kernel
theorem dX11_readEntry_131 : decode cX11_readEntry 131 = .ok (.iload_n 3, 1) := by decide +kernel
theorem dX11_readEntry_132 : decode cX11_readEntry 132 = .ok (.iaload, 1) := by decide +kernel
theorem dX11_readEntry_133 : decode cX11_readEntry 133 = .ok (.iconst 1, 1) := by decide +kernel
theorem dX11_readEntry_134 : decode cX11_readEntry 134 = .ok (.if_icmp .eq 13, 3) := by decide +kernel
theorem dX11_readEntry_137 : decode cX11_readEntry 137 = .ok (.aload_n 0, 1) := by decide +kernel
theorem dX11_readEntry_138 : decode cX11_readEntry 138 = .ok (.getfield 50, 3) := by decide +kernel
theorem dX11_readEntry_141 : decode cX11_readEntry 141 = .ok (.iload_n 3, 1) := by decide +kernel
theorem dX11_readEntry_142 : decode cX11_readEntry 142 = .ok (.iaload, 1) := by decide +kernel
theorem dX11_readEntry_143 : decode cX11_readEntry 143 = .ok (.iconst 2, 1) := by decide +kernel
theorem dX11_readEntry_144 : decode cX11_readEntry 144 = .ok (.if_icmp .ne 27, 3) := by decide +kernel
theorem dX11_readEntry_147 : decode cX11_readEntry 147 = .ok (.aload_n 0, 1) := by decide +kernel
theorem dX11_readEntry_148 : decode cX11_readEntry 148 = .ok (.getfield 53, 3) := by decide +kernel
theorem dX11_readEntry_151 : decode cX11_readEntry 151 = .ok (.iload_n 3, 1) := by decide +kernel
theorem dX11_readEntry_152 : decode cX11_readEntry 152 = .ok (.iaload, 1) := by decide +kernel
theorem dX11_readEntry_153 : decode cX11_readEntry 153 = .ok (.ifCond .lt 18, 3) := by decide +kernel
theorem dX11_readEntry_156 : decode cX11_readEntry 156 = .ok (.aload_n 0, 1) := by decide +kernel
theorem dX11_readEntry_157 : decode cX11_readEntry 157 = .ok (.getfield 56, 3) := by decide +kernel
theorem dX11_readEntry_160 : decode cX11_readEntry 160 = .ok (.iload_n 3, 1) := by decide +kernel
theorem dX11_readEntry_161 : decode cX11_readEntry 161 = .ok (.iaload, 1) := by decide +kernel
theorem dX11_readEntry_162 : decode cX11_readEntry 162 = .ok (.bipush 8, 2) := by decide +kernel
theorem dX11_readEntry_164 : decode cX11_readEntry 164 = .ok (.if_icmp .ge 7, 3) := by decide +kernel
theorem dX11_readEntry_167 : decode cX11_readEntry 167 = .ok (.iconst 1, 1) := by decide +kernel
theorem dX11_readEntry_168 : decode cX11_readEntry 168 = .ok (.goto 4, 3) := by decide +kernel
theorem dX11_readEntry_171 : decode cX11_readEntry 171 = .ok (.iconst 0, 1) := by decide +kernel
theorem dX11_readEntry_172 : decode cX11_readEntry 172 = .ok (.putfield 175, 3) := by decide +kernel
theorem dX11_readEntry_175 : decode cX11_readEntry 175 = .ok (.iload_n 3, 1) := by decide +kernel
theorem dX11_readEntry_176 : decode cX11_readEntry 176 = .ok (.ifCond .eq 73, 3) := by decide +kernel
theorem dX11_readEntry_179 : decode cX11_readEntry 179 = .ok (.aload_n 0, 1) := by decide +kernel
theorem dX11_readEntry_180 : decode cX11_readEntry 180 = .ok (.getfield 175, 3) := by decide +kernel
theorem dX11_readEntry_183 : decode cX11_readEntry 183 = .ok (.ifCond .ne 6, 3) := by decide +kernel
theorem dX11_readEntry_186 : decode cX11_readEntry 186 = .ok (.goto 63, 3) := by decide +kernel
theorem dX11_readEntry_189 : decode cX11_readEntry 189 = .ok (.aload_n 0, 1) := by decide +kernel
theorem dX11_readEntry_190 : decode cX11_readEntry 190 = .ok (.getfield 50, 3) := by decide +kernel
theorem dX11_readEntry_193 : decode cX11_readEntry 193 = .ok (.iload_n 3, 1) := by decide +kernel
theorem dX11_readEntry_194 : decode cX11_readEntry 194 = .ok (.iaload, 1) := by decide +kernel
theorem dX11_readEntry_195 : decode cX11_readEntry 195 = .ok (.aload_n 0, 1) := by decide +kernel
theorem dX11_readEntry_196 : decode cX11_readEntry 196 = .ok (.getfield 50, 3) := by decide +kernel
theorem dX11_readEntry_199 : decode cX11_readEntry 199 = .ok (.iload_n 3, 1) := by decide +kernel
theorem dX11_readEntry_200 : decode cX11_readEntry 200 = .ok (.iconst 1, 1) := by decide +kernel
theorem dX11_readEntry_201 : decode cX11_readEntry 201 = .ok (.isub, 1) := by decide +kernel
theorem dX11_readEntry_202 : decode cX11_readEntry 202 = .ok (.iaload, 1) := by decide +kernel
theorem dX11_readEntry_203 : decode cX11_readEntry 203 = .ok (.if_icmp .ne 23, 3) := by decide +kernel
theorem dX11_readEntry_206 : decode cX11_readEntry 206 = .ok (.aload_n 0, 1) := by decide +kernel
theorem dX11_readEntry_207 : decode cX11_readEntry 207 = .ok (.getfield 53, 3) := by decide +kernel
theorem dX11_readEntry_210 : decode cX11_readEntry 210 = .ok (.iload_n 3, 1) := by decide +kernel
theorem dX11_readEntry_211 : decode cX11_readEntry 211 = .ok (.iconst 1, 1) := by decide +kernel
theorem dX11_readEntry_212 : decode cX11_readEntry 212 = .ok (.isub, 1) := by decide +kernel
theorem dX11_readEntry_213 : decode cX11_readEntry 213 = .ok (.iaload, 1) := by decide +kernel
theorem dX11_readEntry_214 : decode cX11_readEntry 214 = .ok (.aload_n 0, 1) := by decide +kernel
theorem dX11_readEntry_215 : decode cX11_readEntry 215 = .ok (.getfield 53, 3) := by decide +kernel
theorem dX11_readEntry_218 : decode cX11_readEntry 218 = .ok (.iload_n 3, 1) := by decide +kernel
theorem dX11_readEntry_219 : decode cX11_readEntry 219 = .ok (.iaload, 1) := by decide +kernel
theorem dX11_readEntry_220 : decode cX11_readEntry 220 = .ok (.invokestatic 239, 3) := by decide +kernel
theorem dX11_readEntry_223 : decode cX11_readEntry 223 = .ok (.goto 18, 3) := by decide +kernel
theorem dX11_readEntry_226 : decode cX11_readEntry 226 = .ok (.aload_n 0, 1) := by decide +kernel
theorem dX11_readEntry_227 : decode cX11_readEntry 227 = .ok (.getfield 50, 3) := by decide +kernel
theorem dX11_readEntry_230 : decode cX11_readEntry 230 = .ok (.iload_n 3, 1) := by decide +kernel
theorem dX11_readEntry_231 : decode cX11_readEntry 231 = .ok (.iaload, 1) := by decide +kernel
theorem dX11_readEntry_232 : decode cX11_readEntry 232 = .ok (.iconst 1, 1) := by decide +kernel
theorem dX11_readEntry_233 : decode cX11_readEntry 233 = .ok (.if_icmp .ne 7, 3) := by decide +kernel
theorem dX11_readEntry_236 : decode cX11_readEntry 236 = .ok (.iconst 1, 1) := by decide +kernel
theorem dX11_readEntry_237 : decode cX11_readEntry 237 = .ok (.goto 4, 3) := by decide +kernel
theorem dX11_readEntry_240 : decode cX11_readEntry 240 = .ok (.iconst 0, 1) := by decide +kernel
theorem dX11_readEntry_241 : decode cX11_readEntry 241 = .ok (.istore 4, 2) := by decide +kernel
theorem dX11_readEntry_243 : decode cX11_readEntry 243 = .ok (.aload_n 0, 1) := by decide +kernel
theorem dX11_readEntry_244 : decode cX11_readEntry 244 = .ok (.iload 4, 2) := by decide +kernel
theorem dX11_readEntry_246 : decode cX11_readEntry 246 = .ok (.putfield 175, 3) := by decide +kernel
theorem dX11_readEntry_249 : decode cX11_readEntry 249 = .ok (.iinc 3 1, 3) := by decide +kernel
theorem dX11_readEntry_252 : decode cX11_readEntry 252 = .ok (.goto (-184), 3) := by decide +kernel
theorem dX11_readEntry_255 : decode cX11_readEntry 255 = .ok (.aload_n 0, 1) := by decide +kernel
theorem dX11_readEntry_256 : decode cX11_readEntry 256 = .ok (.getfield 175, 3) := by decide +kernel
theorem dX11_readEntry_259 : decode cX11_readEntry 259 = .ok (.ifCond .eq 18, 3) := by decide +kernel
theorem dX11_readEntry_262 : decode cX11_readEntry 262 = .ok (.aload_n 0, 1) := by decide +kernel
theorem dX11_readEntry_263 : decode cX11_readEntry 263 = .ok (.getfield 179, 3) := by decide +kernel
theorem dX11_readEntry_266 : decode cX11_readEntry 266 = .ok (.aload_n 0, 1) := by decide +kernel
theorem dX11_readEntry_267 : decode cX11_readEntry 267 = .ok (.getfield 182, 3) := by decide +kernel
theorem dX11_readEntry_270 : decode cX11_readEntry 270 = .ok (.if_icmp .ne 7, 3) := by decide +kernel
theorem dX11_readEntry_273 : decode cX11_readEntry 273 = .ok (.iconst 1, 1) := by decide +kernel
theorem dX11_readEntry_274 : decode cX11_readEntry 274 = .ok (.goto 4, 3) := by decide +kernel
theorem dX11_readEntry_277 : decode cX11_readEntry 277 = .ok (.iconst 0, 1) := by decide +kernel
theorem dX11_readEntry_278 : decode cX11_readEntry 278 = .ok (.ireturn, 1) := by decide +kernel
theorem dX11_readCheckpoint_0 : decode cX11_readCheckpoint 0 = .ok (.aload_n 0, 1) := by decide +kernel
theorem dX11_readCheckpoint_1 : decode cX11_readCheckpoint 1 = .ok (.iload_n 1, 1) := by decide +kernel
theorem dX11_readCheckpoint_2 : decode cX11_readCheckpoint 2 = .ok (.invokevirtual 217, 3) := by decide +kernel
theorem dX11_readCheckpoint_5 : decode cX11_readCheckpoint 5 = .ok (.aload_n 0, 1) := by decide +kernel
theorem dX11_readCheckpoint_6 : decode cX11_readCheckpoint 6 = .ok (.aload_n 0, 1) := by decide +kernel
theorem dX11_readCheckpoint_7 : decode cX11_readCheckpoint 7 = .ok (.getfield 175, 3) := by decide +kernel
theorem dX11_readCheckpoint_10 : decode cX11_readCheckpoint 10 = .ok (.ifCond .eq 34, 3) := by decide +kernel
theorem dX11_readCheckpoint_13 : decode cX11_readCheckpoint 13 = .ok (.aload_n 0, 1) := by decide +kernel
theorem dX11_readCheckpoint_14 : decode cX11_readCheckpoint 14 = .ok (.iconst 1, 1) := by decide +kernel
theorem dX11_readCheckpoint_15 : decode cX11_readCheckpoint 15 = .ok (.invokevirtual 213, 3) := by decide +kernel
theorem dX11_readCheckpoint_18 : decode cX11_readCheckpoint 18 = .ok (.ldc2_w 243, 3) := by decide +kernel
theorem dX11_readCheckpoint_21 : decode cX11_readCheckpoint 21 = .ok (.lcmp, 1) := by decide +kernel
theorem dX11_readCheckpoint_22 : decode cX11_readCheckpoint 22 = .ok (.ifCond .ne 22, 3) := by decide +kernel
theorem dX11_readCheckpoint_25 : decode cX11_readCheckpoint 25 = .ok (.aload_n 0, 1) := by decide +kernel
theorem dX11_readCheckpoint_26 : decode cX11_readCheckpoint 26 = .ok (.iconst 4, 1) := by decide +kernel
theorem dX11_readCheckpoint_27 : decode cX11_readCheckpoint 27 = .ok (.invokevirtual 213, 3) := by decide +kernel
theorem dX11_readCheckpoint_30 : decode cX11_readCheckpoint 30 = .ok (.l2i, 1) := by decide +kernel
theorem dX11_readCheckpoint_31 : decode cX11_readCheckpoint 31 = .ok (.aload_n 0, 1) := by decide +kernel
theorem dX11_readCheckpoint_32 : decode cX11_readCheckpoint 32 = .ok (.getfield 13, 3) := by decide +kernel
theorem dX11_readCheckpoint_35 : decode cX11_readCheckpoint 35 = .ok (.iload_n 1, 1) := by decide +kernel
theorem dX11_readCheckpoint_36 : decode cX11_readCheckpoint 36 = .ok (.iaload, 1) := by decide +kernel
theorem dX11_readCheckpoint_37 : decode cX11_readCheckpoint 37 = .ok (.if_icmp .ne 7, 3) := by decide +kernel
theorem dX11_readCheckpoint_40 : decode cX11_readCheckpoint 40 = .ok (.iconst 1, 1) := by decide +kernel
theorem dX11_readCheckpoint_41 : decode cX11_readCheckpoint 41 = .ok (.goto 4, 3) := by decide +kernel
theorem dX11_readCheckpoint_44 : decode cX11_readCheckpoint 44 = .ok (.iconst 0, 1) := by decide +kernel
theorem dX11_readCheckpoint_45 : decode cX11_readCheckpoint 45 = .ok (.putfield 175, 3) := by decide +kernel
theorem dX11_readCheckpoint_48 : decode cX11_readCheckpoint 48 = .ok (.aload_n 0, 1) := by decide +kernel
theorem dX11_readCheckpoint_49 : decode cX11_readCheckpoint 49 = .ok (.aload_n 0, 1) := by decide +kernel
theorem dX11_readCheckpoint_50 : decode cX11_readCheckpoint 50 = .ok (.iconst 1, 1) := by decide +kernel
theorem dX11_readCheckpoint_51 : decode cX11_readCheckpoint 51 = .ok (.invokevirtual 213, 3) := by decide +kernel
theorem dX11_readCheckpoint_54 : decode cX11_readCheckpoint 54 = .ok (.l2i, 1) := by decide +kernel
theorem dX11_readCheckpoint_55 : decode cX11_readCheckpoint 55 = .ok (.putfield 245, 3) := by decide +kernel
theorem dX11_readCheckpoint_58 : decode cX11_readCheckpoint 58 = .ok (.iconst 0, 1) := by decide +kernel
theorem dX11_readCheckpoint_59 : decode cX11_readCheckpoint 59 = .ok (.istore_n 2, 1) := by decide +kernel
theorem dX11_readCheckpoint_60 : decode cX11_readCheckpoint 60 = .ok (.iload_n 2, 1) := by decide +kernel
theorem dX11_readCheckpoint_61 : decode cX11_readCheckpoint 61 = .ok (.aload_n 0, 1) := by decide +kernel
theorem dX11_readCheckpoint_62 : decode cX11_readCheckpoint 62 = .ok (.getfield 245, 3) := by decide +kernel
theorem dX11_readCheckpoint_65 : decode cX11_readCheckpoint 65 = .ok (.if_icmp .ge 100, 3) := by decide +kernel
theorem dX11_readCheckpoint_68 : decode cX11_readCheckpoint 68 = .ok (.aload_n 0, 1) := by decide +kernel
theorem dX11_readCheckpoint_69 : decode cX11_readCheckpoint 69 = .ok (.getfield 175, 3) := by decide +kernel
theorem dX11_readCheckpoint_72 : decode cX11_readCheckpoint 72 = .ok (.ifCond .eq 93, 3) := by decide +kernel
theorem dX11_readCheckpoint_75 : decode cX11_readCheckpoint 75 = .ok (.aload_n 0, 1) := by decide +kernel
theorem dX11_readCheckpoint_76 : decode cX11_readCheckpoint 76 = .ok (.getfield 59, 3) := by decide +kernel
theorem dX11_readCheckpoint_79 : decode cX11_readCheckpoint 79 = .ok (.iload_n 2, 1) := by decide +kernel
theorem dX11_readCheckpoint_80 : decode cX11_readCheckpoint 80 = .ok (.aload_n 0, 1) := by decide +kernel
theorem dX11_readCheckpoint_81 : decode cX11_readCheckpoint 81 = .ok (.iconst 4, 1) := by decide +kernel
theorem dX11_readCheckpoint_82 : decode cX11_readCheckpoint 82 = .ok (.invokevirtual 213, 3) := by decide +kernel
theorem dX11_readCheckpoint_85 : decode cX11_readCheckpoint 85 = .ok (.l2i, 1) := by decide +kernel
theorem dX11_readCheckpoint_86 : decode cX11_readCheckpoint 86 = .ok (.iastore, 1) := by decide +kernel
theorem dX11_readCheckpoint_87 : decode cX11_readCheckpoint 87 = .ok (.aload_n 0, 1) := by decide +kernel
theorem dX11_readCheckpoint_88 : decode cX11_readCheckpoint 88 = .ok (.getfield 62, 3) := by decide +kernel
theorem dX11_readCheckpoint_91 : decode cX11_readCheckpoint 91 = .ok (.iload_n 2, 1) := by decide +kernel
theorem dX11_readCheckpoint_92 : decode cX11_readCheckpoint 92 = .ok (.aload_n 0, 1) := by decide +kernel
theorem dX11_readCheckpoint_93 : decode cX11_readCheckpoint 93 = .ok (.iconst 1, 1) := by decide +kernel
theorem dX11_readCheckpoint_94 : decode cX11_readCheckpoint 94 = .ok (.invokevirtual 213, 3) := by decide +kernel
theorem dX11_readCheckpoint_97 : decode cX11_readCheckpoint 97 = .ok (.l2i, 1) := by decide +kernel
theorem dX11_readCheckpoint_98 : decode cX11_readCheckpoint 98 = .ok (.iastore, 1) := by decide +kernel
theorem dX11_readCheckpoint_99 : decode cX11_readCheckpoint 99 = .ok (.aload_n 0, 1) := by decide +kernel
theorem dX11_readCheckpoint_100 : decode cX11_readCheckpoint 100 = .ok (.aload_n 0, 1) := by decide +kernel
theorem dX11_readCheckpoint_101 : decode cX11_readCheckpoint 101 = .ok (.getfield 175, 3) := by decide +kernel
theorem dX11_readCheckpoint_104 : decode cX11_readCheckpoint 104 = .ok (.ifCond .eq 51, 3) := by decide +kernel
theorem dX11_readCheckpoint_107 : decode cX11_readCheckpoint 107 = .ok (.aload_n 0, 1) := by decide +kernel
theorem dX11_readCheckpoint_108 : decode cX11_readCheckpoint 108 = .ok (.getfield 59, 3) := by decide +kernel
theorem dX11_readCheckpoint_111 : decode cX11_readCheckpoint 111 = .ok (.iload_n 2, 1) := by decide +kernel
theorem dX11_readCheckpoint_112 : decode cX11_readCheckpoint 112 = .ok (.iaload, 1) := by decide +kernel
theorem dX11_readCheckpoint_113 : decode cX11_readCheckpoint 113 = .ok (.ifCond .lt 42, 3) := by decide +kernel
theorem dX11_readCheckpoint_116 : decode cX11_readCheckpoint 116 = .ok (.aload_n 0, 1) := by decide +kernel
theorem dX11_readCheckpoint_117 : decode cX11_readCheckpoint 117 = .ok (.getfield 62, 3) := by decide +kernel
theorem dX11_readCheckpoint_120 : decode cX11_readCheckpoint 120 = .ok (.iload_n 2, 1) := by decide +kernel
theorem dX11_readCheckpoint_121 : decode cX11_readCheckpoint 121 = .ok (.iaload, 1) := by decide +kernel
theorem dX11_readCheckpoint_122 : decode cX11_readCheckpoint 122 = .ok (.bipush 8, 2) := by decide +kernel
theorem dX11_readCheckpoint_124 : decode cX11_readCheckpoint 124 = .ok (.if_icmp .ge 31, 3) := by decide +kernel
theorem dX11_readCheckpoint_127 : decode cX11_readCheckpoint 127 = .ok (.iload_n 2, 1) := by decide +kernel
theorem dX11_readCheckpoint_128 : decode cX11_readCheckpoint 128 = .ok (.ifCond .eq 23, 3) := by decide +kernel
theorem dX11_readCheckpoint_131 : decode cX11_readCheckpoint 131 = .ok (.aload_n 0, 1) := by decide +kernel
theorem dX11_readCheckpoint_132 : decode cX11_readCheckpoint 132 = .ok (.getfield 59, 3) := by decide +kernel
theorem dX11_readCheckpoint_135 : decode cX11_readCheckpoint 135 = .ok (.iload_n 2, 1) := by decide +kernel
theorem dX11_readCheckpoint_136 : decode cX11_readCheckpoint 136 = .ok (.iconst 1, 1) := by decide +kernel
theorem dX11_readCheckpoint_137 : decode cX11_readCheckpoint 137 = .ok (.isub, 1) := by decide +kernel
theorem dX11_readCheckpoint_138 : decode cX11_readCheckpoint 138 = .ok (.iaload, 1) := by decide +kernel
theorem dX11_readCheckpoint_139 : decode cX11_readCheckpoint 139 = .ok (.aload_n 0, 1) := by decide +kernel
theorem dX11_readCheckpoint_140 : decode cX11_readCheckpoint 140 = .ok (.getfield 59, 3) := by decide +kernel
theorem dX11_readCheckpoint_143 : decode cX11_readCheckpoint 143 = .ok (.iload_n 2, 1) := by decide +kernel
theorem dX11_readCheckpoint_144 : decode cX11_readCheckpoint 144 = .ok (.iaload, 1) := by decide +kernel
theorem dX11_readCheckpoint_145 : decode cX11_readCheckpoint 145 = .ok (.invokestatic 239, 3) := by decide +kernel
theorem dX11_readCheckpoint_148 : decode cX11_readCheckpoint 148 = .ok (.ifCond .eq 7, 3) := by decide +kernel
theorem dX11_readCheckpoint_151 : decode cX11_readCheckpoint 151 = .ok (.iconst 1, 1) := by decide +kernel
theorem dX11_readCheckpoint_152 : decode cX11_readCheckpoint 152 = .ok (.goto 4, 3) := by decide +kernel
theorem dX11_readCheckpoint_155 : decode cX11_readCheckpoint 155 = .ok (.iconst 0, 1) := by decide +kernel
theorem dX11_readCheckpoint_156 : decode cX11_readCheckpoint 156 = .ok (.putfield 175, 3) := by decide +kernel
theorem dX11_readCheckpoint_159 : decode cX11_readCheckpoint 159 = .ok (.iinc 2 1, 3) := by decide +kernel
theorem dX11_readCheckpoint_162 : decode cX11_readCheckpoint 162 = .ok (.goto (-102), 3) := by decide +kernel
theorem dX11_readCheckpoint_165 : decode cX11_readCheckpoint 165 = .ok (.aload_n 0, 1) := by decide +kernel
theorem dX11_readCheckpoint_166 : decode cX11_readCheckpoint 166 = .ok (.getfield 175, 3) := by decide +kernel
theorem dX11_readCheckpoint_169 : decode cX11_readCheckpoint 169 = .ok (.ifCond .eq 18, 3) := by decide +kernel
theorem dX11_readCheckpoint_172 : decode cX11_readCheckpoint 172 = .ok (.aload_n 0, 1) := by decide +kernel
theorem dX11_readCheckpoint_173 : decode cX11_readCheckpoint 173 = .ok (.getfield 179, 3) := by decide +kernel
theorem dX11_readCheckpoint_176 : decode cX11_readCheckpoint 176 = .ok (.aload_n 0, 1) := by decide +kernel
theorem dX11_readCheckpoint_177 : decode cX11_readCheckpoint 177 = .ok (.getfield 182, 3) := by decide +kernel
theorem dX11_readCheckpoint_180 : decode cX11_readCheckpoint 180 = .ok (.if_icmp .ne 7, 3) := by decide +kernel
theorem dX11_readCheckpoint_183 : decode cX11_readCheckpoint 183 = .ok (.iconst 1, 1) := by decide +kernel
theorem dX11_readCheckpoint_184 : decode cX11_readCheckpoint 184 = .ok (.goto 4, 3) := by decide +kernel
theorem dX11_readCheckpoint_187 : decode cX11_readCheckpoint 187 = .ok (.iconst 0, 1) := by decide +kernel
theorem dX11_readCheckpoint_188 : decode cX11_readCheckpoint 188 = .ok (.ireturn, 1) := by decide +kernel
theorem dX11_latest_0 : decode cX11_latest 0 = .ok (.iconst (-1), 1) := by decide +kernel
theorem dX11_latest_1 : decode cX11_latest 1 = .ok (.istore_n 1, 1) := by decide +kernel
theorem dX11_latest_2 : decode cX11_latest 2 = .ok (.iconst 0, 1) := by decide +kernel
theorem dX11_latest_3 : decode cX11_latest 3 = .ok (.istore_n 2, 1) := by decide +kernel
theorem dX11_latest_4 : decode cX11_latest 4 = .ok (.iload_n 2, 1) := by decide +kernel
theorem dX11_latest_5 : decode cX11_latest 5 = .ok (.aload_n 0, 1) := by decide +kernel
theorem dX11_latest_6 : decode cX11_latest 6 = .ok (.getfield 150, 3) := by decide +kernel
theorem dX11_latest_9 : decode cX11_latest 9 = .ok (.if_icmp .ge 36, 3) := by decide +kernel
theorem dX11_latest_12 : decode cX11_latest 12 = .ok (.aload_n 0, 1) := by decide +kernel
theorem dX11_latest_13 : decode cX11_latest 13 = .ok (.getfield 7, 3) := by decide +kernel
theorem dX11_latest_16 : decode cX11_latest 16 = .ok (.iload_n 2, 1) := by decide +kernel
theorem dX11_latest_17 : decode cX11_latest 17 = .ok (.iaload, 1) := by decide +kernel
theorem dX11_latest_18 : decode cX11_latest 18 = .ok (.iconst 1, 1) := by decide +kernel
theorem dX11_latest_19 : decode cX11_latest 19 = .ok (.if_icmp .ne 20, 3) := by decide +kernel
theorem dX11_latest_22 : decode cX11_latest 22 = .ok (.aload_n 0, 1) := by decide +kernel
theorem dX11_latest_23 : decode cX11_latest 23 = .ok (.getfield 13, 3) := by decide +kernel
theorem dX11_latest_26 : decode cX11_latest 26 = .ok (.iload_n 2, 1) := by decide +kernel
theorem dX11_latest_27 : decode cX11_latest 27 = .ok (.iaload, 1) := by decide +kernel
theorem dX11_latest_28 : decode cX11_latest 28 = .ok (.iload_n 1, 1) := by decide +kernel
theorem dX11_latest_29 : decode cX11_latest 29 = .ok (.if_icmp .le 10, 3) := by decide +kernel
theorem dX11_latest_32 : decode cX11_latest 32 = .ok (.aload_n 0, 1) := by decide +kernel
theorem dX11_latest_33 : decode cX11_latest 33 = .ok (.getfield 13, 3) := by decide +kernel
theorem dX11_latest_36 : decode cX11_latest 36 = .ok (.iload_n 2, 1) := by decide +kernel
theorem dX11_latest_37 : decode cX11_latest 37 = .ok (.iaload, 1) := by decide +kernel
theorem dX11_latest_38 : decode cX11_latest 38 = .ok (.istore_n 1, 1) := by decide +kernel
theorem dX11_latest_39 : decode cX11_latest 39 = .ok (.iinc 2 1, 3) := by decide +kernel
theorem dX11_latest_42 : decode cX11_latest 42 = .ok (.goto (-38), 3) := by decide +kernel
theorem dX11_latest_45 : decode cX11_latest 45 = .ok (.iload_n 1, 1) := by decide +kernel
theorem dX11_latest_46 : decode cX11_latest 46 = .ok (.ireturn, 1) := by decide +kernel
theorem dX11_reads_0 : decode cX11_reads 0 = .ok (.aload_n 0, 1) := by decide +kernel
theorem dX11_reads_1 : decode cX11_reads 1 = .ok (.iconst 0, 1) := by decide +kernel
theorem dX11_reads_2 : decode cX11_reads 2 = .ok (.putfield 245, 3) := by decide +kernel
theorem dX11_reads_5 : decode cX11_reads 5 = .ok (.iload_n 1, 1) := by decide +kernel
theorem dX11_reads_6 : decode cX11_reads 6 = .ok (.iconst (-1), 1) := by decide +kernel
theorem dX11_reads_7 : decode cX11_reads 7 = .ok (.if_icmp .ne 5, 3) := by decide +kernel
theorem dX11_reads_10 : decode cX11_reads 10 = .ok (.iconst 1, 1) := by decide +kernel
theorem dX11_reads_11 : decode cX11_reads 11 = .ok (.ireturn, 1) := by decide +kernel
theorem dX11_reads_12 : decode cX11_reads 12 = .ok (.iload_n 1, 1) := by decide +kernel
theorem dX11_reads_13 : decode cX11_reads 13 = .ok (.aload_n 0, 1) := by decide +kernel
theorem dX11_reads_14 : decode cX11_reads 14 = .ok (.getfield 248, 3) := by decide +kernel
theorem dX11_reads_17 : decode cX11_reads 17 = .ok (.if_icmp .lt 11, 3) := by decide +kernel
theorem dX11_reads_20 : decode cX11_reads 20 = .ok (.iload_n 1, 1) := by decide +kernel
theorem dX11_reads_21 : decode cX11_reads 21 = .ok (.aload_n 0, 1) := by decide +kernel
theorem dX11_reads_22 : decode cX11_reads 22 = .ok (.invokevirtual 251, 3) := by decide +kernel
theorem dX11_reads_25 : decode cX11_reads 25 = .ok (.if_icmp .le 5, 3) := by decide +kernel
theorem dX11_reads_28 : decode cX11_reads 28 = .ok (.iconst 0, 1) := by decide +kernel
theorem dX11_reads_29 : decode cX11_reads 29 = .ok (.ireturn, 1) := by decide +kernel
theorem dX11_reads_30 : decode cX11_reads 30 = .ok (.iconst 0, 1) := by decide +kernel
theorem dX11_reads_31 : decode cX11_reads 31 = .ok (.istore_n 2, 1) := by decide +kernel
theorem dX11_reads_32 : decode cX11_reads 32 = .ok (.iload_n 1, 1) := by decide +kernel
theorem dX11_reads_33 : decode cX11_reads 33 = .ok (.iconst 1, 1) := by decide +kernel
theorem dX11_reads_34 : decode cX11_reads 34 = .ok (.iadd, 1) := by decide +kernel
theorem dX11_reads_35 : decode cX11_reads 35 = .ok (.istore_n 3, 1) := by decide +kernel
theorem dX11_reads_36 : decode cX11_reads 36 = .ok (.iconst 1, 1) := by decide +kernel
theorem dX11_reads_37 : decode cX11_reads 37 = .ok (.istore 4, 2) := by decide +kernel
theorem dX11_reads_39 : decode cX11_reads 39 = .ok (.iload 4, 2) := by decide +kernel
theorem dX11_reads_41 : decode cX11_reads 41 = .ok (.ifCond .eq 124, 3) := by decide +kernel
theorem dX11_reads_44 : decode cX11_reads 44 = .ok (.iconst (-1), 1) := by decide +kernel
theorem dX11_reads_45 : decode cX11_reads 45 = .ok (.istore 5, 2) := by decide +kernel
theorem dX11_reads_47 : decode cX11_reads 47 = .ok (.iconst 0, 1) := by decide +kernel
theorem dX11_reads_48 : decode cX11_reads 48 = .ok (.istore 6, 2) := by decide +kernel
theorem dX11_reads_50 : decode cX11_reads 50 = .ok (.iload 6, 2) := by decide +kernel
theorem dX11_reads_52 : decode cX11_reads 52 = .ok (.aload_n 0, 1) := by decide +kernel
theorem dX11_reads_53 : decode cX11_reads 53 = .ok (.getfield 150, 3) := by decide +kernel
theorem dX11_reads_56 : decode cX11_reads 56 = .ok (.if_icmp .ge 57, 3) := by decide +kernel
theorem dX11_reads_59 : decode cX11_reads 59 = .ok (.aload_n 0, 1) := by decide +kernel
theorem dX11_reads_60 : decode cX11_reads 60 = .ok (.getfield 7, 3) := by decide +kernel
theorem dX11_reads_63 : decode cX11_reads 63 = .ok (.iload 6, 2) := by decide +kernel
theorem dX11_reads_65 : decode cX11_reads 65 = .ok (.iaload, 1) := by decide +kernel
theorem dX11_reads_66 : decode cX11_reads 66 = .ok (.iconst 2, 1) := by decide +kernel
theorem dX11_reads_67 : decode cX11_reads 67 = .ok (.if_icmp .ne 40, 3) := by decide +kernel
theorem dX11_reads_70 : decode cX11_reads 70 = .ok (.aload_n 0, 1) := by decide +kernel
theorem dX11_reads_71 : decode cX11_reads 71 = .ok (.getfield 13, 3) := by decide +kernel
theorem dX11_reads_74 : decode cX11_reads 74 = .ok (.iload 6, 2) := by decide +kernel
theorem dX11_reads_76 : decode cX11_reads 76 = .ok (.iaload, 1) := by decide +kernel
theorem dX11_reads_77 : decode cX11_reads 77 = .ok (.iload_n 3, 1) := by decide +kernel
theorem dX11_reads_78 : decode cX11_reads 78 = .ok (.if_icmp .ge 29, 3) := by decide +kernel
theorem dX11_reads_81 : decode cX11_reads 81 = .ok (.iload 5, 2) := by decide +kernel
theorem dX11_reads_83 : decode cX11_reads 83 = .ok (.ifCond .lt 20, 3) := by decide +kernel
theorem dX11_reads_86 : decode cX11_reads 86 = .ok (.aload_n 0, 1) := by decide +kernel
theorem dX11_reads_87 : decode cX11_reads 87 = .ok (.getfield 13, 3) := by decide +kernel
theorem dX11_reads_90 : decode cX11_reads 90 = .ok (.iload 6, 2) := by decide +kernel
theorem dX11_reads_92 : decode cX11_reads 92 = .ok (.iaload, 1) := by decide +kernel
theorem dX11_reads_93 : decode cX11_reads 93 = .ok (.aload_n 0, 1) := by decide +kernel
theorem dX11_reads_94 : decode cX11_reads 94 = .ok (.getfield 13, 3) := by decide +kernel
theorem dX11_reads_97 : decode cX11_reads 97 = .ok (.iload 5, 2) := by decide +kernel
theorem dX11_reads_99 : decode cX11_reads 99 = .ok (.iaload, 1) := by decide +kernel
theorem dX11_reads_100 : decode cX11_reads 100 = .ok (.if_icmp .le 7, 3) := by decide +kernel
theorem dX11_reads_103 : decode cX11_reads 103 = .ok (.iload 6, 2) := by decide +kernel
theorem dX11_reads_105 : decode cX11_reads 105 = .ok (.istore 5, 2) := by decide +kernel
theorem dX11_reads_107 : decode cX11_reads 107 = .ok (.iinc 6 1, 3) := by decide +kernel
theorem dX11_reads_110 : decode cX11_reads 110 = .ok (.goto (-60), 3) := by decide +kernel
theorem dX11_reads_113 : decode cX11_reads 113 = .ok (.iload 5, 2) := by decide +kernel
theorem dX11_reads_115 : decode cX11_reads 115 = .ok (.ifCond .lt 7, 3) := by decide +kernel
theorem dX11_reads_118 : decode cX11_reads 118 = .ok (.iconst 1, 1) := by decide +kernel
theorem dX11_reads_119 : decode cX11_reads 119 = .ok (.goto 4, 3) := by decide +kernel
theorem dX11_reads_122 : decode cX11_reads 122 = .ok (.iconst 0, 1) := by decide +kernel
theorem dX11_reads_123 : decode cX11_reads 123 = .ok (.istore 4, 2) := by decide +kernel
theorem dX11_reads_125 : decode cX11_reads 125 = .ok (.aload_n 0, 1) := by decide +kernel
theorem dX11_reads_126 : decode cX11_reads 126 = .ok (.iconst 0, 1) := by decide +kernel
theorem dX11_reads_127 : decode cX11_reads 127 = .ok (.putfield 245, 3) := by decide +kernel
theorem dX11_reads_130 : decode cX11_reads 130 = .ok (.iload 4, 2) := by decide +kernel
theorem dX11_reads_132 : decode cX11_reads 132 = .ok (.ifCond .ne 6, 3) := by decide +kernel
theorem dX11_reads_135 : decode cX11_reads 135 = .ok (.goto (-96), 3) := by decide +kernel
theorem dX11_reads_138 : decode cX11_reads 138 = .ok (.aload_n 0, 1) := by decide +kernel
theorem dX11_reads_139 : decode cX11_reads 139 = .ok (.getfield 13, 3) := by decide +kernel
theorem dX11_reads_142 : decode cX11_reads 142 = .ok (.iload 5, 2) := by decide +kernel
theorem dX11_reads_144 : decode cX11_reads 144 = .ok (.iaload, 1) := by decide +kernel
theorem dX11_reads_145 : decode cX11_reads 145 = .ok (.istore_n 3, 1) := by decide +kernel
theorem dX11_reads_146 : decode cX11_reads 146 = .ok (.aload_n 0, 1) := by decide +kernel
theorem dX11_reads_147 : decode cX11_reads 147 = .ok (.iload 5, 2) := by decide +kernel
theorem dX11_reads_149 : decode cX11_reads 149 = .ok (.invokevirtual 254, 3) := by decide +kernel
theorem dX11_reads_152 : decode cX11_reads 152 = .ok (.ifCond .eq 10, 3) := by decide +kernel
theorem dX11_reads_155 : decode cX11_reads 155 = .ok (.iload_n 3, 1) := by decide +kernel
theorem dX11_reads_156 : decode cX11_reads 156 = .ok (.iconst 1, 1) := by decide +kernel
theorem dX11_reads_157 : decode cX11_reads 157 = .ok (.iadd, 1) := by decide +kernel
theorem dX11_reads_158 : decode cX11_reads 158 = .ok (.istore_n 2, 1) := by decide +kernel
theorem dX11_reads_159 : decode cX11_reads 159 = .ok (.iconst 0, 1) := by decide +kernel
theorem dX11_reads_160 : decode cX11_reads 160 = .ok (.istore 4, 2) := by decide +kernel
theorem dX11_reads_162 : decode cX11_reads 162 = .ok (.goto (-123), 3) := by decide +kernel
theorem dX11_reads_165 : decode cX11_reads 165 = .ok (.iload_n 2, 1) := by decide +kernel
theorem dX11_reads_166 : decode cX11_reads 166 = .ok (.ifCond .ne 8, 3) := by decide +kernel
theorem dX11_reads_169 : decode cX11_reads 169 = .ok (.aload_n 0, 1) := by decide +kernel
theorem dX11_reads_170 : decode cX11_reads 170 = .ok (.iconst 0, 1) := by decide +kernel
theorem dX11_reads_171 : decode cX11_reads 171 = .ok (.putfield 245, 3) := by decide +kernel
theorem dX11_reads_174 : decode cX11_reads 174 = .ok (.aload_n 0, 1) := by decide +kernel
theorem dX11_reads_175 : decode cX11_reads 175 = .ok (.getfield 245, 3) := by decide +kernel
theorem dX11_reads_178 : decode cX11_reads 178 = .ok (.sipush 200, 3) := by decide +kernel
theorem dX11_reads_181 : decode cX11_reads 181 = .ok (.if_icmp .le 5, 3) := by decide +kernel
theorem dX11_reads_184 : decode cX11_reads 184 = .ok (.iconst 0, 1) := by decide +kernel
theorem dX11_reads_185 : decode cX11_reads 185 = .ok (.ireturn, 1) := by decide +kernel
theorem dX11_reads_186 : decode cX11_reads 186 = .ok (.iload_n 2, 1) := by decide +kernel
theorem dX11_reads_187 : decode cX11_reads 187 = .ok (.iload_n 1, 1) := by decide +kernel
theorem dX11_reads_188 : decode cX11_reads 188 = .ok (.if_icmp .gt 48, 3) := by decide +kernel
theorem dX11_reads_191 : decode cX11_reads 191 = .ok (.aload_n 0, 1) := by decide +kernel
theorem dX11_reads_192 : decode cX11_reads 192 = .ok (.iload_n 2, 1) := by decide +kernel
theorem dX11_reads_193 : decode cX11_reads 193 = .ok (.invokevirtual 257, 3) := by decide +kernel
theorem dX11_reads_196 : decode cX11_reads 196 = .ok (.ifCond .ne 5, 3) := by decide +kernel
theorem dX11_reads_199 : decode cX11_reads 199 = .ok (.iconst 0, 1) := by decide +kernel
theorem dX11_reads_200 : decode cX11_reads 200 = .ok (.ireturn, 1) := by decide +kernel
theorem dX11_reads_201 : decode cX11_reads 201 = .ok (.iconst 0, 1) := by decide +kernel
theorem dX11_reads_202 : decode cX11_reads 202 = .ok (.istore 5, 2) := by decide +kernel
theorem dX11_reads_204 : decode cX11_reads 204 = .ok (.iload 5, 2) := by decide +kernel
theorem dX11_reads_206 : decode cX11_reads 206 = .ok (.aload_n 0, 1) := by decide +kernel
theorem dX11_reads_207 : decode cX11_reads 207 = .ok (.getfield 236, 3) := by decide +kernel
theorem dX11_reads_210 : decode cX11_reads 210 = .ok (.if_icmp .ge 20, 3) := by decide +kernel
theorem dX11_reads_213 : decode cX11_reads 213 = .ok (.aload_n 0, 1) := by decide +kernel
theorem dX11_reads_214 : decode cX11_reads 214 = .ok (.iload 5, 2) := by decide +kernel
theorem dX11_reads_216 : decode cX11_reads 216 = .ok (.invokevirtual 260, 3) := by decide +kernel
theorem dX11_reads_219 : decode cX11_reads 219 = .ok (.ifCond .ne 5, 3) := by decide +kernel
theorem dX11_reads_222 : decode cX11_reads 222 = .ok (.iconst 0, 1) := by decide +kernel
theorem dX11_reads_223 : decode cX11_reads 223 = .ok (.ireturn, 1) := by decide +kernel
theorem dX11_reads_224 : decode cX11_reads 224 = .ok (.iinc 5 1, 3) := by decide +kernel
theorem dX11_reads_227 : decode cX11_reads 227 = .ok (.goto (-23), 3) := by decide +kernel
theorem dX11_reads_230 : decode cX11_reads 230 = .ok (.iinc 2 1, 3) := by decide +kernel
theorem dX11_reads_233 : decode cX11_reads 233 = .ok (.goto (-47), 3) := by decide +kernel
theorem dX11_reads_236 : decode cX11_reads 236 = .ok (.iconst 1, 1) := by decide +kernel
theorem dX11_reads_237 : decode cX11_reads 237 = .ok (.ireturn, 1) := by decide +kernel
theorem dX11_does_0 : decode cX11_does 0 = .ok (.iconst 0, 1) := by decide +kernel
theorem dX11_does_1 : decode cX11_does 1 = .ok (.istore_n 2, 1) := by decide +kernel
theorem dX11_does_2 : decode cX11_does 2 = .ok (.iload_n 2, 1) := by decide +kernel
theorem dX11_does_3 : decode cX11_does 3 = .ok (.aload_n 0, 1) := by decide +kernel
theorem dX11_does_4 : decode cX11_does 4 = .ok (.getfield 245, 3) := by decide +kernel
theorem dX11_does_7 : decode cX11_does 7 = .ok (.if_icmp .ge 27, 3) := by decide +kernel
theorem dX11_does_10 : decode cX11_does 10 = .ok (.aload_n 0, 1) := by decide +kernel
theorem dX11_does_11 : decode cX11_does 11 = .ok (.getfield 59, 3) := by decide +kernel
theorem dX11_does_14 : decode cX11_does 14 = .ok (.iload_n 2, 1) := by decide +kernel
theorem dX11_does_15 : decode cX11_does 15 = .ok (.iaload, 1) := by decide +kernel
theorem dX11_does_16 : decode cX11_does 16 = .ok (.aload_n 0, 1) := by decide +kernel
theorem dX11_does_17 : decode cX11_does 17 = .ok (.getfield 53, 3) := by decide +kernel
theorem dX11_does_20 : decode cX11_does 20 = .ok (.iload_n 1, 1) := by decide +kernel
theorem dX11_does_21 : decode cX11_does 21 = .ok (.iaload, 1) := by decide +kernel
theorem dX11_does_22 : decode cX11_does 22 = .ok (.invokestatic 239, 3) := by decide +kernel
theorem dX11_does_25 : decode cX11_does 25 = .ok (.ifCond .eq 9, 3) := by decide +kernel
theorem dX11_does_28 : decode cX11_does 28 = .ok (.iinc 2 1, 3) := by decide +kernel
theorem dX11_does_31 : decode cX11_does 31 = .ok (.goto (-29), 3) := by decide +kernel
theorem dX11_does_34 : decode cX11_does 34 = .ok (.iload_n 2, 1) := by decide +kernel
theorem dX11_does_35 : decode cX11_does 35 = .ok (.aload_n 0, 1) := by decide +kernel
theorem dX11_does_36 : decode cX11_does 36 = .ok (.getfield 245, 3) := by decide +kernel
theorem dX11_does_39 : decode cX11_does 39 = .ok (.if_icmp .ge 22, 3) := by decide +kernel
theorem dX11_does_42 : decode cX11_does 42 = .ok (.aload_n 0, 1) := by decide +kernel
theorem dX11_does_43 : decode cX11_does 43 = .ok (.getfield 59, 3) := by decide +kernel
theorem dX11_does_46 : decode cX11_does 46 = .ok (.iload_n 2, 1) := by decide +kernel
theorem dX11_does_47 : decode cX11_does 47 = .ok (.iaload, 1) := by decide +kernel
theorem dX11_does_48 : decode cX11_does 48 = .ok (.aload_n 0, 1) := by decide +kernel
theorem dX11_does_49 : decode cX11_does 49 = .ok (.getfield 53, 3) := by decide +kernel
theorem dX11_does_52 : decode cX11_does 52 = .ok (.iload_n 1, 1) := by decide +kernel
theorem dX11_does_53 : decode cX11_does 53 = .ok (.iaload, 1) := by decide +kernel
theorem dX11_does_54 : decode cX11_does 54 = .ok (.if_icmp .ne 7, 3) := by decide +kernel
theorem dX11_does_57 : decode cX11_does 57 = .ok (.iconst 1, 1) := by decide +kernel
theorem dX11_does_58 : decode cX11_does 58 = .ok (.goto 4, 3) := by decide +kernel
theorem dX11_does_61 : decode cX11_does 61 = .ok (.iconst 0, 1) := by decide +kernel
theorem dX11_does_62 : decode cX11_does 62 = .ok (.istore_n 3, 1) := by decide +kernel
theorem dX11_does_63 : decode cX11_does 63 = .ok (.aload_n 0, 1) := by decide +kernel
theorem dX11_does_64 : decode cX11_does 64 = .ok (.getfield 50, 3) := by decide +kernel
theorem dX11_does_67 : decode cX11_does 67 = .ok (.iload_n 1, 1) := by decide +kernel
theorem dX11_does_68 : decode cX11_does 68 = .ok (.iaload, 1) := by decide +kernel
theorem dX11_does_69 : decode cX11_does 69 = .ok (.iconst 2, 1) := by decide +kernel
theorem dX11_does_70 : decode cX11_does 70 = .ok (.if_icmp .ne 67, 3) := by decide +kernel
theorem dX11_does_73 : decode cX11_does 73 = .ok (.iload_n 3, 1) := by decide +kernel
theorem dX11_does_74 : decode cX11_does 74 = .ok (.ifCond .eq 63, 3) := by decide +kernel
theorem dX11_does_77 : decode cX11_does 77 = .ok (.aload_n 0, 1) := by decide +kernel
theorem dX11_does_78 : decode cX11_does 78 = .ok (.dup, 1) := by decide +kernel
theorem dX11_does_79 : decode cX11_does 79 = .ok (.getfield 245, 3) := by decide +kernel
theorem dX11_does_82 : decode cX11_does 82 = .ok (.iconst 1, 1) := by decide +kernel
theorem dX11_does_83 : decode cX11_does 83 = .ok (.isub, 1) := by decide +kernel
theorem dX11_does_84 : decode cX11_does 84 = .ok (.putfield 245, 3) := by decide +kernel
theorem dX11_does_87 : decode cX11_does 87 = .ok (.iload_n 2, 1) := by decide +kernel
theorem dX11_does_88 : decode cX11_does 88 = .ok (.istore 4, 2) := by decide +kernel
theorem dX11_does_90 : decode cX11_does 90 = .ok (.iload 4, 2) := by decide +kernel
theorem dX11_does_92 : decode cX11_does 92 = .ok (.aload_n 0, 1) := by decide +kernel
theorem dX11_does_93 : decode cX11_does 93 = .ok (.getfield 245, 3) := by decide +kernel
theorem dX11_does_96 : decode cX11_does 96 = .ok (.if_icmp .ge 41, 3) := by decide +kernel
theorem dX11_does_99 : decode cX11_does 99 = .ok (.aload_n 0, 1) := by decide +kernel
theorem dX11_does_100 : decode cX11_does 100 = .ok (.getfield 59, 3) := by decide +kernel
theorem dX11_does_103 : decode cX11_does 103 = .ok (.iload 4, 2) := by decide +kernel
theorem dX11_does_105 : decode cX11_does 105 = .ok (.aload_n 0, 1) := by decide +kernel
theorem dX11_does_106 : decode cX11_does 106 = .ok (.getfield 59, 3) := by decide +kernel
theorem dX11_does_109 : decode cX11_does 109 = .ok (.iload 4, 2) := by decide +kernel
theorem dX11_does_111 : decode cX11_does 111 = .ok (.iconst 1, 1) := by decide +kernel
theorem dX11_does_112 : decode cX11_does 112 = .ok (.iadd, 1) := by decide +kernel
theorem dX11_does_113 : decode cX11_does 113 = .ok (.iaload, 1) := by decide +kernel
theorem dX11_does_114 : decode cX11_does 114 = .ok (.iastore, 1) := by decide +kernel
theorem dX11_does_115 : decode cX11_does 115 = .ok (.aload_n 0, 1) := by decide +kernel
theorem dX11_does_116 : decode cX11_does 116 = .ok (.getfield 62, 3) := by decide +kernel
theorem dX11_does_119 : decode cX11_does 119 = .ok (.iload 4, 2) := by decide +kernel
theorem dX11_does_121 : decode cX11_does 121 = .ok (.aload_n 0, 1) := by decide +kernel
theorem dX11_does_122 : decode cX11_does 122 = .ok (.getfield 62, 3) := by decide +kernel
theorem dX11_does_125 : decode cX11_does 125 = .ok (.iload 4, 2) := by decide +kernel
theorem dX11_does_127 : decode cX11_does 127 = .ok (.iconst 1, 1) := by decide +kernel
theorem dX11_does_128 : decode cX11_does 128 = .ok (.iadd, 1) := by decide +kernel
theorem dX11_does_129 : decode cX11_does 129 = .ok (.iaload, 1) := by decide +kernel
theorem dX11_does_130 : decode cX11_does 130 = .ok (.iastore, 1) := by decide +kernel
theorem dX11_does_131 : decode cX11_does 131 = .ok (.iinc 4 1, 3) := by decide +kernel
theorem dX11_does_134 : decode cX11_does 134 = .ok (.goto (-44), 3) := by decide +kernel
theorem dX11_does_137 : decode cX11_does 137 = .ok (.aload_n 0, 1) := by decide +kernel
theorem dX11_does_138 : decode cX11_does 138 = .ok (.getfield 50, 3) := by decide +kernel
theorem dX11_does_141 : decode cX11_does 141 = .ok (.iload_n 1, 1) := by decide +kernel
theorem dX11_does_142 : decode cX11_does 142 = .ok (.iaload, 1) := by decide +kernel
theorem dX11_does_143 : decode cX11_does 143 = .ok (.iconst 2, 1) := by decide +kernel
theorem dX11_does_144 : decode cX11_does 144 = .ok (.if_icmp .eq 7, 3) := by decide +kernel
theorem dX11_does_147 : decode cX11_does 147 = .ok (.iload_n 3, 1) := by decide +kernel
theorem dX11_does_148 : decode cX11_does 148 = .ok (.ifCond .eq 5, 3) := by decide +kernel
theorem dX11_does_151 : decode cX11_does 151 = .ok (.iconst 1, 1) := by decide +kernel
theorem dX11_does_152 : decode cX11_does 152 = .ok (.ireturn, 1) := by decide +kernel
theorem dX11_does_153 : decode cX11_does 153 = .ok (.aload_n 0, 1) := by decide +kernel
theorem dX11_does_154 : decode cX11_does 154 = .ok (.getfield 245, 3) := by decide +kernel
theorem dX11_does_157 : decode cX11_does 157 = .ok (.sipush 200, 3) := by decide +kernel
theorem dX11_does_160 : decode cX11_does 160 = .ok (.if_icmp .ne 5, 3) := by decide +kernel
theorem dX11_does_163 : decode cX11_does 163 = .ok (.iconst 0, 1) := by decide +kernel
theorem dX11_does_164 : decode cX11_does 164 = .ok (.ireturn, 1) := by decide +kernel
theorem dX11_does_165 : decode cX11_does 165 = .ok (.aload_n 0, 1) := by decide +kernel
theorem dX11_does_166 : decode cX11_does 166 = .ok (.getfield 245, 3) := by decide +kernel
theorem dX11_does_169 : decode cX11_does 169 = .ok (.istore 4, 2) := by decide +kernel
theorem dX11_does_171 : decode cX11_does 171 = .ok (.iload 4, 2) := by decide +kernel
theorem dX11_does_173 : decode cX11_does 173 = .ok (.iload_n 2, 1) := by decide +kernel
theorem dX11_does_174 : decode cX11_does 174 = .ok (.if_icmp .le 41, 3) := by decide +kernel
theorem dX11_does_177 : decode cX11_does 177 = .ok (.aload_n 0, 1) := by decide +kernel
theorem dX11_does_178 : decode cX11_does 178 = .ok (.getfield 59, 3) := by decide +kernel
theorem dX11_does_181 : decode cX11_does 181 = .ok (.iload 4, 2) := by decide +kernel
theorem dX11_does_183 : decode cX11_does 183 = .ok (.aload_n 0, 1) := by decide +kernel
theorem dX11_does_184 : decode cX11_does 184 = .ok (.getfield 59, 3) := by decide +kernel
theorem dX11_does_187 : decode cX11_does 187 = .ok (.iload 4, 2) := by decide +kernel
theorem dX11_does_189 : decode cX11_does 189 = .ok (.iconst 1, 1) := by decide +kernel
theorem dX11_does_190 : decode cX11_does 190 = .ok (.isub, 1) := by decide +kernel
theorem dX11_does_191 : decode cX11_does 191 = .ok (.iaload, 1) := by decide +kernel
theorem dX11_does_192 : decode cX11_does 192 = .ok (.iastore, 1) := by decide +kernel
theorem dX11_does_193 : decode cX11_does 193 = .ok (.aload_n 0, 1) := by decide +kernel
theorem dX11_does_194 : decode cX11_does 194 = .ok (.getfield 62, 3) := by decide +kernel
theorem dX11_does_197 : decode cX11_does 197 = .ok (.iload 4, 2) := by decide +kernel
theorem dX11_does_199 : decode cX11_does 199 = .ok (.aload_n 0, 1) := by decide +kernel
theorem dX11_does_200 : decode cX11_does 200 = .ok (.getfield 62, 3) := by decide +kernel
theorem dX11_does_203 : decode cX11_does 203 = .ok (.iload 4, 2) := by decide +kernel
theorem dX11_does_205 : decode cX11_does 205 = .ok (.iconst 1, 1) := by decide +kernel
theorem dX11_does_206 : decode cX11_does 206 = .ok (.isub, 1) := by decide +kernel
theorem dX11_does_207 : decode cX11_does 207 = .ok (.iaload, 1) := by decide +kernel
theorem dX11_does_208 : decode cX11_does 208 = .ok (.iastore, 1) := by decide +kernel
theorem dX11_does_209 : decode cX11_does 209 = .ok (.iinc 4 (-1), 3) := by decide +kernel
theorem dX11_does_212 : decode cX11_does 212 = .ok (.goto (-41), 3) := by decide +kernel
theorem dX11_does_215 : decode cX11_does 215 = .ok (.aload_n 0, 1) := by decide +kernel
theorem dX11_does_216 : decode cX11_does 216 = .ok (.getfield 59, 3) := by decide +kernel
theorem dX11_does_219 : decode cX11_does 219 = .ok (.iload_n 2, 1) := by decide +kernel
theorem dX11_does_220 : decode cX11_does 220 = .ok (.aload_n 0, 1) := by decide +kernel
theorem dX11_does_221 : decode cX11_does 221 = .ok (.getfield 53, 3) := by decide +kernel
theorem dX11_does_224 : decode cX11_does 224 = .ok (.iload_n 1, 1) := by decide +kernel
theorem dX11_does_225 : decode cX11_does 225 = .ok (.iaload, 1) := by decide +kernel
theorem dX11_does_226 : decode cX11_does 226 = .ok (.iastore, 1) := by decide +kernel
theorem dX11_does_227 : decode cX11_does 227 = .ok (.aload_n 0, 1) := by decide +kernel
theorem dX11_does_228 : decode cX11_does 228 = .ok (.getfield 62, 3) := by decide +kernel
theorem dX11_does_231 : decode cX11_does 231 = .ok (.iload_n 2, 1) := by decide +kernel
theorem dX11_does_232 : decode cX11_does 232 = .ok (.aload_n 0, 1) := by decide +kernel
theorem dX11_does_233 : decode cX11_does 233 = .ok (.getfield 56, 3) := by decide +kernel
theorem dX11_does_236 : decode cX11_does 236 = .ok (.iload_n 1, 1) := by decide +kernel
theorem dX11_does_237 : decode cX11_does 237 = .ok (.iaload, 1) := by decide +kernel
theorem dX11_does_238 : decode cX11_does 238 = .ok (.iastore, 1) := by decide +kernel
theorem dX11_does_239 : decode cX11_does 239 = .ok (.aload_n 0, 1) := by decide +kernel
theorem dX11_does_240 : decode cX11_does 240 = .ok (.dup, 1) := by decide +kernel
theorem dX11_does_241 : decode cX11_does 241 = .ok (.getfield 245, 3) := by decide +kernel
theorem dX11_does_244 : decode cX11_does 244 = .ok (.iconst 1, 1) := by decide +kernel
theorem dX11_does_245 : decode cX11_does 245 = .ok (.iadd, 1) := by decide +kernel
theorem dX11_does_246 : decode cX11_does 246 = .ok (.putfield 245, 3) := by decide +kernel
theorem dX11_does_249 : decode cX11_does 249 = .ok (.iconst 1, 1) := by decide +kernel
theorem dX11_does_250 : decode cX11_does 250 = .ok (.ireturn, 1) := by decide +kernel
theorem dX11_readFile_0 : decode cX11_readFile 0 = .ok (.aload_n 0, 1) := by decide +kernel
theorem dX11_readFile_1 : decode cX11_readFile 1 = .ok (.iconst 0, 1) := by decide +kernel
theorem dX11_readFile_2 : decode cX11_readFile 2 = .ok (.aload_n 0, 1) := by decide +kernel
theorem dX11_readFile_3 : decode cX11_readFile 3 = .ok (.getfield 59, 3) := by decide +kernel
theorem dX11_readFile_6 : decode cX11_readFile 6 = .ok (.iload_n 1, 1) := by decide +kernel
theorem dX11_readFile_7 : decode cX11_readFile 7 = .ok (.iaload, 1) := by decide +kernel
theorem dX11_readFile_8 : decode cX11_readFile 8 = .ok (.invokevirtual 165, 3) := by decide +kernel
theorem dX11_readFile_11 : decode cX11_readFile 11 = .ok (.istore_n 2, 1) := by decide +kernel
theorem dX11_readFile_12 : decode cX11_readFile 12 = .ok (.iload_n 2, 1) := by decide +kernel
theorem dX11_readFile_13 : decode cX11_readFile 13 = .ok (.ifCond .lt 28, 3) := by decide +kernel
theorem dX11_readFile_16 : decode cX11_readFile 16 = .ok (.aload_n 0, 1) := by decide +kernel
theorem dX11_readFile_17 : decode cX11_readFile 17 = .ok (.iload_n 2, 1) := by decide +kernel
theorem dX11_readFile_18 : decode cX11_readFile 18 = .ok (.invokevirtual 263, 3) := by decide +kernel
theorem dX11_readFile_21 : decode cX11_readFile 21 = .ok (.ifCond .eq 20, 3) := by decide +kernel
theorem dX11_readFile_24 : decode cX11_readFile 24 = .ok (.aload_n 0, 1) := by decide +kernel
theorem dX11_readFile_25 : decode cX11_readFile 25 = .ok (.getfield 193, 3) := by decide +kernel
theorem dX11_readFile_28 : decode cX11_readFile 28 = .ok (.aload_n 0, 1) := by decide +kernel
theorem dX11_readFile_29 : decode cX11_readFile 29 = .ok (.getfield 62, 3) := by decide +kernel
theorem dX11_readFile_32 : decode cX11_readFile 32 = .ok (.iload_n 1, 1) := by decide +kernel
theorem dX11_readFile_33 : decode cX11_readFile 33 = .ok (.iaload, 1) := by decide +kernel
theorem dX11_readFile_34 : decode cX11_readFile 34 = .ok (.if_icmp .ne 7, 3) := by decide +kernel
theorem dX11_readFile_37 : decode cX11_readFile 37 = .ok (.iconst 1, 1) := by decide +kernel
theorem dX11_readFile_38 : decode cX11_readFile 38 = .ok (.goto 4, 3) := by decide +kernel
theorem dX11_readFile_41 : decode cX11_readFile 41 = .ok (.iconst 0, 1) := by decide +kernel
theorem dX11_readFile_42 : decode cX11_readFile 42 = .ok (.ireturn, 1) := by decide +kernel
theorem dX11_makeCheckpoint_0 : decode cX11_makeCheckpoint 0 = .ok (.aload_n 0, 1) := by decide +kernel
theorem dX11_makeCheckpoint_1 : decode cX11_makeCheckpoint 1 = .ok (.iconst 0, 1) := by decide +kernel
theorem dX11_makeCheckpoint_2 : decode cX11_makeCheckpoint 2 = .ok (.putfield 153, 3) := by decide +kernel
theorem dX11_makeCheckpoint_5 : decode cX11_makeCheckpoint 5 = .ok (.aload_n 0, 1) := by decide +kernel
theorem dX11_makeCheckpoint_6 : decode cX11_makeCheckpoint 6 = .ok (.ldc2_w 243, 3) := by decide +kernel
theorem dX11_makeCheckpoint_9 : decode cX11_makeCheckpoint 9 = .ok (.iconst 1, 1) := by decide +kernel
theorem dX11_makeCheckpoint_10 : decode cX11_makeCheckpoint 10 = .ok (.invokevirtual 161, 3) := by decide +kernel
theorem dX11_makeCheckpoint_13 : decode cX11_makeCheckpoint 13 = .ok (.aload_n 0, 1) := by decide +kernel
theorem dX11_makeCheckpoint_14 : decode cX11_makeCheckpoint 14 = .ok (.iload_n 1, 1) := by decide +kernel
theorem dX11_makeCheckpoint_15 : decode cX11_makeCheckpoint 15 = .ok (.i2l, 1) := by decide +kernel
theorem dX11_makeCheckpoint_16 : decode cX11_makeCheckpoint 16 = .ok (.iconst 4, 1) := by decide +kernel
theorem dX11_makeCheckpoint_17 : decode cX11_makeCheckpoint 17 = .ok (.invokevirtual 161, 3) := by decide +kernel
theorem dX11_makeCheckpoint_20 : decode cX11_makeCheckpoint 20 = .ok (.aload_n 0, 1) := by decide +kernel
theorem dX11_makeCheckpoint_21 : decode cX11_makeCheckpoint 21 = .ok (.aload_n 0, 1) := by decide +kernel
theorem dX11_makeCheckpoint_22 : decode cX11_makeCheckpoint 22 = .ok (.getfield 245, 3) := by decide +kernel
theorem dX11_makeCheckpoint_25 : decode cX11_makeCheckpoint 25 = .ok (.i2l, 1) := by decide +kernel
theorem dX11_makeCheckpoint_26 : decode cX11_makeCheckpoint 26 = .ok (.iconst 1, 1) := by decide +kernel
theorem dX11_makeCheckpoint_27 : decode cX11_makeCheckpoint 27 = .ok (.invokevirtual 161, 3) := by decide +kernel
theorem dX11_makeCheckpoint_30 : decode cX11_makeCheckpoint 30 = .ok (.iconst 0, 1) := by decide +kernel
theorem dX11_makeCheckpoint_31 : decode cX11_makeCheckpoint 31 = .ok (.istore_n 2, 1) := by decide +kernel
theorem dX11_makeCheckpoint_32 : decode cX11_makeCheckpoint 32 = .ok (.iload_n 2, 1) := by decide +kernel
theorem dX11_makeCheckpoint_33 : decode cX11_makeCheckpoint 33 = .ok (.aload_n 0, 1) := by decide +kernel
theorem dX11_makeCheckpoint_34 : decode cX11_makeCheckpoint 34 = .ok (.getfield 245, 3) := by decide +kernel
theorem dX11_makeCheckpoint_37 : decode cX11_makeCheckpoint 37 = .ok (.if_icmp .ge 33, 3) := by decide +kernel
theorem dX11_makeCheckpoint_40 : decode cX11_makeCheckpoint 40 = .ok (.aload_n 0, 1) := by decide +kernel
theorem dX11_makeCheckpoint_41 : decode cX11_makeCheckpoint 41 = .ok (.aload_n 0, 1) := by decide +kernel
theorem dX11_makeCheckpoint_42 : decode cX11_makeCheckpoint 42 = .ok (.getfield 59, 3) := by decide +kernel
theorem dX11_makeCheckpoint_45 : decode cX11_makeCheckpoint 45 = .ok (.iload_n 2, 1) := by decide +kernel
theorem dX11_makeCheckpoint_46 : decode cX11_makeCheckpoint 46 = .ok (.iaload, 1) := by decide +kernel
theorem dX11_makeCheckpoint_47 : decode cX11_makeCheckpoint 47 = .ok (.i2l, 1) := by decide +kernel
theorem dX11_makeCheckpoint_48 : decode cX11_makeCheckpoint 48 = .ok (.iconst 4, 1) := by decide +kernel
theorem dX11_makeCheckpoint_49 : decode cX11_makeCheckpoint 49 = .ok (.invokevirtual 161, 3) := by decide +kernel
theorem dX11_makeCheckpoint_52 : decode cX11_makeCheckpoint 52 = .ok (.aload_n 0, 1) := by decide +kernel
theorem dX11_makeCheckpoint_53 : decode cX11_makeCheckpoint 53 = .ok (.aload_n 0, 1) := by decide +kernel
theorem dX11_makeCheckpoint_54 : decode cX11_makeCheckpoint 54 = .ok (.getfield 62, 3) := by decide +kernel
theorem dX11_makeCheckpoint_57 : decode cX11_makeCheckpoint 57 = .ok (.iload_n 2, 1) := by decide +kernel
theorem dX11_makeCheckpoint_58 : decode cX11_makeCheckpoint 58 = .ok (.iaload, 1) := by decide +kernel
theorem dX11_makeCheckpoint_59 : decode cX11_makeCheckpoint 59 = .ok (.i2l, 1) := by decide +kernel
theorem dX11_makeCheckpoint_60 : decode cX11_makeCheckpoint 60 = .ok (.iconst 1, 1) := by decide +kernel
theorem dX11_makeCheckpoint_61 : decode cX11_makeCheckpoint 61 = .ok (.invokevirtual 161, 3) := by decide +kernel
theorem dX11_makeCheckpoint_64 : decode cX11_makeCheckpoint 64 = .ok (.iinc 2 1, 3) := by decide +kernel
theorem dX11_makeCheckpoint_67 : decode cX11_makeCheckpoint 67 = .ok (.goto (-35), 3) := by decide +kernel
theorem dX11_makeCheckpoint_70 : decode cX11_makeCheckpoint 70 = .ok (.aload_n 0, 1) := by decide +kernel
theorem dX11_makeCheckpoint_71 : decode cX11_makeCheckpoint 71 = .ok (.invokevirtual 203, 3) := by decide +kernel
theorem dX11_makeCheckpoint_74 : decode cX11_makeCheckpoint 74 = .ok (.return_, 1) := by decide +kernel
theorem dX11_room_0 : decode cX11_room 0 = .ok (.iload_n 1, 1) := by decide +kernel
theorem dX11_room_1 : decode cX11_room 1 = .ok (.bipush 100, 2) := by decide +kernel
theorem dX11_room_3 : decode cX11_room 3 = .ok (.if_icmp .lt 10, 3) := by decide +kernel
theorem dX11_room_6 : decode cX11_room 6 = .ok (.iload_n 1, 1) := by decide +kernel
theorem dX11_room_7 : decode cX11_room 7 = .ok (.sipush 20000, 3) := by decide +kernel
theorem dX11_room_10 : decode cX11_room 10 = .ok (.if_icmp .le 5, 3) := by decide +kernel
theorem dX11_room_13 : decode cX11_room 13 = .ok (.iconst (-1), 1) := by decide +kernel
theorem dX11_room_14 : decode cX11_room 14 = .ok (.ireturn, 1) := by decide +kernel
theorem dX11_room_15 : decode cX11_room 15 = .ok (.aload_n 0, 1) := by decide +kernel
theorem dX11_room_16 : decode cX11_room 16 = .ok (.getfield 24, 3) := by decide +kernel
theorem dX11_room_19 : decode cX11_room 19 = .ok (.istore_n 2, 1) := by decide +kernel
theorem dX11_room_20 : decode cX11_room 20 = .ok (.aload_n 0, 1) := by decide +kernel
theorem dX11_room_21 : decode cX11_room 21 = .ok (.iload_n 1, 1) := by decide +kernel
theorem dX11_room_22 : decode cX11_room 22 = .ok (.putfield 24, 3) := by decide +kernel
theorem dX11_room_25 : decode cX11_room 25 = .ok (.iload_n 2, 1) := by decide +kernel
theorem dX11_room_26 : decode cX11_room 26 = .ok (.ireturn, 1) := by decide +kernel
theorem dX11_tries_0 : decode cX11_tries 0 = .ok (.iload_n 1, 1) := by decide +kernel
theorem dX11_tries_1 : decode cX11_tries 1 = .ok (.iconst 1, 1) := by decide +kernel
theorem dX11_tries_2 : decode cX11_tries 2 = .ok (.if_icmp .lt 9, 3) := by decide +kernel
theorem dX11_tries_5 : decode cX11_tries 5 = .ok (.iload_n 1, 1) := by decide +kernel
theorem dX11_tries_6 : decode cX11_tries 6 = .ok (.bipush 8, 2) := by decide +kernel
theorem dX11_tries_8 : decode cX11_tries 8 = .ok (.if_icmp .le 5, 3) := by decide +kernel
theorem dX11_tries_11 : decode cX11_tries 11 = .ok (.iconst (-1), 1) := by decide +kernel
theorem dX11_tries_12 : decode cX11_tries 12 = .ok (.ireturn, 1) := by decide +kernel
theorem dX11_tries_13 : decode cX11_tries 13 = .ok (.aload_n 0, 1) := by decide +kernel
theorem dX11_tries_14 : decode cX11_tries 14 = .ok (.getfield 28, 3) := by decide +kernel
theorem dX11_tries_17 : decode cX11_tries 17 = .ok (.istore_n 2, 1) := by decide +kernel
theorem dX11_tries_18 : decode cX11_tries 18 = .ok (.aload_n 0, 1) := by decide +kernel
theorem dX11_tries_19 : decode cX11_tries 19 = .ok (.iload_n 1, 1) := by decide +kernel
theorem dX11_tries_20 : decode cX11_tries 20 = .ok (.putfield 28, 3) := by decide +kernel
theorem dX11_tries_23 : decode cX11_tries 23 = .ok (.iload_n 2, 1) := by decide +kernel
theorem dX11_tries_24 : decode cX11_tries 24 = .ok (.ireturn, 1) := by decide +kernel
theorem dX11_isWriter_0 : decode cX11_isWriter 0 = .ok (.iload_n 0, 1) := by decide +kernel
theorem dX11_isWriter_1 : decode cX11_isWriter 1 = .ok (.ifCond .lt 12, 3) := by decide +kernel
theorem dX11_isWriter_4 : decode cX11_isWriter 4 = .ok (.iload_n 0, 1) := by decide +kernel
theorem dX11_isWriter_5 : decode cX11_isWriter 5 = .ok (.iconst 4, 1) := by decide +kernel
theorem dX11_isWriter_6 : decode cX11_isWriter 6 = .ok (.if_icmp .ge 7, 3) := by decide +kernel
theorem dX11_isWriter_9 : decode cX11_isWriter 9 = .ok (.iconst 1, 1) := by decide +kernel
theorem dX11_isWriter_10 : decode cX11_isWriter 10 = .ok (.goto 4, 3) := by decide +kernel
theorem dX11_isWriter_13 : decode cX11_isWriter 13 = .ok (.iconst 0, 1) := by decide +kernel
theorem dX11_isWriter_14 : decode cX11_isWriter 14 = .ok (.ireturn, 1) := by decide +kernel
theorem dX11_begins_0 : decode cX11_begins 0 = .ok (.iload_n 1, 1) := by decide +kernel
theorem dX11_begins_1 : decode cX11_begins 1 = .ok (.invokestatic 266, 3) := by decide +kernel
theorem dX11_begins_4 : decode cX11_begins 4 = .ok (.ifCond .eq 22, 3) := by decide +kernel
theorem dX11_begins_7 : decode cX11_begins 7 = .ok (.aload_n 0, 1) := by decide +kernel
theorem dX11_begins_8 : decode cX11_begins 8 = .ok (.getfield 65, 3) := by decide +kernel
theorem dX11_begins_11 : decode cX11_begins 11 = .ok (.iload_n 1, 1) := by decide +kernel
theorem dX11_begins_12 : decode cX11_begins 12 = .ok (.baload, 1) := by decide +kernel
theorem dX11_begins_13 : decode cX11_begins 13 = .ok (.ifCond .ne 13, 3) := by decide +kernel
theorem dX11_begins_16 : decode cX11_begins 16 = .ok (.iload_n 3, 1) := by decide +kernel
theorem dX11_begins_17 : decode cX11_begins 17 = .ok (.ifCond .lt 9, 3) := by decide +kernel
theorem dX11_begins_20 : decode cX11_begins 20 = .ok (.iload_n 3, 1) := by decide +kernel
theorem dX11_begins_21 : decode cX11_begins 21 = .ok (.bipush 7, 2) := by decide +kernel
theorem dX11_begins_23 : decode cX11_begins 23 = .ok (.if_icmp .le 5, 3) := by decide +kernel
theorem dX11_begins_26 : decode cX11_begins 26 = .ok (.iconst 0, 1) := by decide +kernel
theorem dX11_begins_27 : decode cX11_begins 27 = .ok (.ireturn, 1) := by decide +kernel
theorem dX11_begins_28 : decode cX11_begins 28 = .ok (.aload_n 0, 1) := by decide +kernel
theorem dX11_begins_29 : decode cX11_begins 29 = .ok (.getfield 65, 3) := by decide +kernel
theorem dX11_begins_32 : decode cX11_begins 32 = .ok (.iload_n 1, 1) := by decide +kernel
theorem dX11_begins_33 : decode cX11_begins 33 = .ok (.iconst 1, 1) := by decide +kernel
theorem dX11_begins_34 : decode cX11_begins 34 = .ok (.bastore, 1) := by decide +kernel
theorem dX11_begins_35 : decode cX11_begins 35 = .ok (.aload_n 0, 1) := by decide +kernel
theorem dX11_begins_36 : decode cX11_begins 36 = .ok (.getfield 68, 3) := by decide +kernel
theorem dX11_begins_39 : decode cX11_begins 39 = .ok (.iload_n 1, 1) := by decide +kernel
theorem dX11_begins_40 : decode cX11_begins 40 = .ok (.iconst 0, 1) := by decide +kernel
theorem dX11_begins_41 : decode cX11_begins 41 = .ok (.bastore, 1) := by decide +kernel
theorem dX11_begins_42 : decode cX11_begins 42 = .ok (.aload_n 0, 1) := by decide +kernel
theorem dX11_begins_43 : decode cX11_begins 43 = .ok (.getfield 71, 3) := by decide +kernel
theorem dX11_begins_46 : decode cX11_begins 46 = .ok (.iload_n 1, 1) := by decide +kernel
theorem dX11_begins_47 : decode cX11_begins 47 = .ok (.iload_n 2, 1) := by decide +kernel
theorem dX11_begins_48 : decode cX11_begins 48 = .ok (.iastore, 1) := by decide +kernel
theorem dX11_begins_49 : decode cX11_begins 49 = .ok (.aload_n 0, 1) := by decide +kernel
theorem dX11_begins_50 : decode cX11_begins 50 = .ok (.getfield 74, 3) := by decide +kernel
theorem dX11_begins_53 : decode cX11_begins 53 = .ok (.iload_n 1, 1) := by decide +kernel
theorem dX11_begins_54 : decode cX11_begins 54 = .ok (.iconst (-1), 1) := by decide +kernel
theorem dX11_begins_55 : decode cX11_begins 55 = .ok (.iastore, 1) := by decide +kernel
theorem dX11_begins_56 : decode cX11_begins 56 = .ok (.aload_n 0, 1) := by decide +kernel
theorem dX11_begins_57 : decode cX11_begins 57 = .ok (.getfield 77, 3) := by decide +kernel
theorem dX11_begins_60 : decode cX11_begins 60 = .ok (.iload_n 1, 1) := by decide +kernel
theorem dX11_begins_61 : decode cX11_begins 61 = .ok (.iconst 0, 1) := by decide +kernel
theorem dX11_begins_62 : decode cX11_begins 62 = .ok (.iastore, 1) := by decide +kernel
theorem dX11_begins_63 : decode cX11_begins 63 = .ok (.aload_n 0, 1) := by decide +kernel
theorem dX11_begins_64 : decode cX11_begins 64 = .ok (.getfield 80, 3) := by decide +kernel
theorem dX11_begins_67 : decode cX11_begins 67 = .ok (.iload_n 1, 1) := by decide +kernel
theorem dX11_begins_68 : decode cX11_begins 68 = .ok (.aload_n 0, 1) := by decide +kernel
theorem dX11_begins_69 : decode cX11_begins 69 = .ok (.getfield 28, 3) := by decide +kernel
theorem dX11_begins_72 : decode cX11_begins 72 = .ok (.iastore, 1) := by decide +kernel
theorem dX11_begins_73 : decode cX11_begins 73 = .ok (.aload_n 0, 1) := by decide +kernel
theorem dX11_begins_74 : decode cX11_begins 74 = .ok (.getfield 86, 3) := by decide +kernel
theorem dX11_begins_77 : decode cX11_begins 77 = .ok (.iload_n 1, 1) := by decide +kernel
theorem dX11_begins_78 : decode cX11_begins 78 = .ok (.iconst 0, 1) := by decide +kernel
theorem dX11_begins_79 : decode cX11_begins 79 = .ok (.bastore, 1) := by decide +kernel
theorem dX11_begins_80 : decode cX11_begins 80 = .ok (.aload_n 0, 1) := by decide +kernel
theorem dX11_begins_81 : decode cX11_begins 81 = .ok (.getfield 89, 3) := by decide +kernel
theorem dX11_begins_84 : decode cX11_begins 84 = .ok (.iload_n 1, 1) := by decide +kernel
theorem dX11_begins_85 : decode cX11_begins 85 = .ok (.iload_n 3, 1) := by decide +kernel
theorem dX11_begins_86 : decode cX11_begins 86 = .ok (.iastore, 1) := by decide +kernel
theorem dX11_begins_87 : decode cX11_begins 87 = .ok (.aload_n 0, 1) := by decide +kernel
theorem dX11_begins_88 : decode cX11_begins 88 = .ok (.getfield 108, 3) := by decide +kernel
theorem dX11_begins_91 : decode cX11_begins 91 = .ok (.iload_n 1, 1) := by decide +kernel
theorem dX11_begins_92 : decode cX11_begins 92 = .ok (.iconst 0, 1) := by decide +kernel
theorem dX11_begins_93 : decode cX11_begins 93 = .ok (.iastore, 1) := by decide +kernel
theorem dX11_begins_94 : decode cX11_begins 94 = .ok (.aload_n 0, 1) := by decide +kernel
theorem dX11_begins_95 : decode cX11_begins 95 = .ok (.getfield 111, 3) := by decide +kernel
theorem dX11_begins_98 : decode cX11_begins 98 = .ok (.iload_n 1, 1) := by decide +kernel
theorem dX11_begins_99 : decode cX11_begins 99 = .ok (.iconst 0, 1) := by decide +kernel
theorem dX11_begins_100 : decode cX11_begins 100 = .ok (.iastore, 1) := by decide +kernel
theorem dX11_begins_101 : decode cX11_begins 101 = .ok (.aload_n 0, 1) := by decide +kernel
theorem dX11_begins_102 : decode cX11_begins 102 = .ok (.getfield 126, 3) := by decide +kernel
theorem dX11_begins_105 : decode cX11_begins 105 = .ok (.iload_n 1, 1) := by decide +kernel
theorem dX11_begins_106 : decode cX11_begins 106 = .ok (.iconst 0, 1) := by decide +kernel
theorem dX11_begins_107 : decode cX11_begins 107 = .ok (.iastore, 1) := by decide +kernel
theorem dX11_begins_108 : decode cX11_begins 108 = .ok (.aload_n 0, 1) := by decide +kernel
theorem dX11_begins_109 : decode cX11_begins 109 = .ok (.getfield 129, 3) := by decide +kernel
theorem dX11_begins_112 : decode cX11_begins 112 = .ok (.iload_n 1, 1) := by decide +kernel
theorem dX11_begins_113 : decode cX11_begins 113 = .ok (.iconst 0, 1) := by decide +kernel
theorem dX11_begins_114 : decode cX11_begins 114 = .ok (.iastore, 1) := by decide +kernel
theorem dX11_begins_115 : decode cX11_begins 115 = .ok (.aload_n 0, 1) := by decide +kernel
theorem dX11_begins_116 : decode cX11_begins 116 = .ok (.getfield 135, 3) := by decide +kernel
theorem dX11_begins_119 : decode cX11_begins 119 = .ok (.iload_n 1, 1) := by decide +kernel
theorem dX11_begins_120 : decode cX11_begins 120 = .ok (.iconst 0, 1) := by decide +kernel
theorem dX11_begins_121 : decode cX11_begins 121 = .ok (.iastore, 1) := by decide +kernel
theorem dX11_begins_122 : decode cX11_begins 122 = .ok (.iconst 1, 1) := by decide +kernel
theorem dX11_begins_123 : decode cX11_begins 123 = .ok (.ireturn, 1) := by decide +kernel
theorem dX11_append_0 : decode cX11_append 0 = .ok (.aload_n 0, 1) := by decide +kernel
theorem dX11_append_1 : decode cX11_append 1 = .ok (.iload_n 1, 1) := by decide +kernel
theorem dX11_append_2 : decode cX11_append 2 = .ok (.iconst 0, 1) := by decide +kernel
theorem dX11_append_3 : decode cX11_append 3 = .ok (.iconst 0, 1) := by decide +kernel
