theorem dX9_start_16 : decode cX9_start 16 = .ok (.ifCond .lt 6, 3) := by decide +kernel
theorem dX9_start_19 : decode cX9_start 19 = .ok (.bipush (-5), 2) := by decide +kernel
theorem dX9_start_21 : decode cX9_start 21 = .ok (.ireturn, 1) := by decide +kernel
theorem dX9_start_22 : decode cX9_start 22 = .ok (.aload_n 0, 1) := by decide +kernel
theorem dX9_start_23 : decode cX9_start 23 = .ok (.getfield 103, 3) := by decide +kernel
theorem dX9_start_26 : decode cX9_start 26 = .ok (.bipush 59, 2) := by decide +kernel
theorem dX9_start_28 : decode cX9_start 28 = .ok (.if_icmp .le 6, 3) := by decide +kernel
theorem dX9_start_31 : decode cX9_start 31 = .ok (.bipush (-4), 2) := by decide +kernel
theorem dX9_start_33 : decode cX9_start 33 = .ok (.ireturn, 1) := by decide +kernel
theorem dX9_start_34 : decode cX9_start 34 = .ok (.ldc 184, 2) := by decide +kernel
theorem dX9_start_36 : decode cX9_start 36 = .ok (.istore_n 2, 1) := by decide +kernel
theorem dX9_start_37 : decode cX9_start 37 = .ok (.iconst 0, 1) := by decide +kernel
theorem dX9_start_38 : decode cX9_start 38 = .ok (.istore_n 3, 1) := by decide +kernel
theorem dX9_start_39 : decode cX9_start 39 = .ok (.iconst 0, 1) := by decide +kernel
theorem dX9_start_40 : decode cX9_start 40 = .ok (.istore 4, 2) := by decide +kernel
theorem dX9_start_42 : decode cX9_start 42 = .ok (.iload 4, 2) := by decide +kernel
theorem dX9_start_44 : decode cX9_start 44 = .ok (.aload_n 0, 1) := by decide +kernel
theorem dX9_start_45 : decode cX9_start 45 = .ok (.getfield 103, 3) := by decide +kernel
theorem dX9_start_48 : decode cX9_start 48 = .ok (.if_icmp .gt 99, 3) := by decide +kernel
theorem dX9_start_51 : decode cX9_start 51 = .ok (.aload_n 0, 1) := by decide +kernel
theorem dX9_start_52 : decode cX9_start 52 = .ok (.invokevirtual 160, 3) := by decide +kernel
theorem dX9_start_55 : decode cX9_start 55 = .ok (.aload_n 0, 1) := by decide +kernel
theorem dX9_start_56 : decode cX9_start 56 = .ok (.aload_n 0, 1) := by decide +kernel
theorem dX9_start_57 : decode cX9_start 57 = .ok (.getfield 103, 3) := by decide +kernel
theorem dX9_start_60 : decode cX9_start 60 = .ok (.iconst 1, 1) := by decide +kernel
theorem dX9_start_61 : decode cX9_start 61 = .ok (.iadd, 1) := by decide +kernel
theorem dX9_start_62 : decode cX9_start 62 = .ok (.putfield 113, 3) := by decide +kernel
theorem dX9_start_65 : decode cX9_start 65 = .ok (.aload_n 0, 1) := by decide +kernel
theorem dX9_start_66 : decode cX9_start 66 = .ok (.getfield 103, 3) := by decide +kernel
theorem dX9_start_69 : decode cX9_start 69 = .ok (.istore 5, 2) := by decide +kernel
theorem dX9_start_71 : decode cX9_start 71 = .ok (.iload 5, 2) := by decide +kernel
theorem dX9_start_73 : decode cX9_start 73 = .ok (.iload 4, 2) := by decide +kernel
theorem dX9_start_75 : decode cX9_start 75 = .ok (.if_icmp .le 25, 3) := by decide +kernel
theorem dX9_start_78 : decode cX9_start 78 = .ok (.aload_n 0, 1) := by decide +kernel
theorem dX9_start_79 : decode cX9_start 79 = .ok (.getfield 38, 3) := by decide +kernel
theorem dX9_start_82 : decode cX9_start 82 = .ok (.iload 5, 2) := by decide +kernel
theorem dX9_start_84 : decode cX9_start 84 = .ok (.aload_n 0, 1) := by decide +kernel
theorem dX9_start_85 : decode cX9_start 85 = .ok (.getfield 35, 3) := by decide +kernel
theorem dX9_start_88 : decode cX9_start 88 = .ok (.iload 5, 2) := by decide +kernel
theorem dX9_start_90 : decode cX9_start 90 = .ok (.iconst 1, 1) := by decide +kernel
theorem dX9_start_91 : decode cX9_start 91 = .ok (.isub, 1) := by decide +kernel
theorem dX9_start_92 : decode cX9_start 92 = .ok (.iaload, 1) := by decide +kernel
theorem dX9_start_93 : decode cX9_start 93 = .ok (.iastore, 1) := by decide +kernel
theorem dX9_start_94 : decode cX9_start 94 = .ok (.iinc 5 (-1), 3) := by decide +kernel
theorem dX9_start_97 : decode cX9_start 97 = .ok (.goto (-26), 3) := by decide +kernel
theorem dX9_start_100 : decode cX9_start 100 = .ok (.aload_n 0, 1) := by decide +kernel
theorem dX9_start_101 : decode cX9_start 101 = .ok (.getfield 38, 3) := by decide +kernel
theorem dX9_start_104 : decode cX9_start 104 = .ok (.iload 4, 2) := by decide +kernel
theorem dX9_start_106 : decode cX9_start 106 = .ok (.bipush 115, 2) := by decide +kernel
theorem dX9_start_108 : decode cX9_start 108 = .ok (.iastore, 1) := by decide +kernel
theorem dX9_start_109 : decode cX9_start 109 = .ok (.aload_n 0, 1) := by decide +kernel
theorem dX9_start_110 : decode cX9_start 110 = .ok (.invokevirtual 169, 3) := by decide +kernel
theorem dX9_start_113 : decode cX9_start 113 = .ok (.istore 5, 2) := by decide +kernel
theorem dX9_start_115 : decode cX9_start 115 = .ok (.iload 5, 2) := by decide +kernel
theorem dX9_start_117 : decode cX9_start 117 = .ok (.iload_n 2, 1) := by decide +kernel
theorem dX9_start_118 : decode cX9_start 118 = .ok (.if_icmp .le 8, 3) := by decide +kernel
theorem dX9_start_121 : decode cX9_start 121 = .ok (.iload 4, 2) := by decide +kernel
theorem dX9_start_123 : decode cX9_start 123 = .ok (.goto 4, 3) := by decide +kernel
theorem dX9_start_126 : decode cX9_start 126 = .ok (.iload_n 3, 1) := by decide +kernel
theorem dX9_start_127 : decode cX9_start 127 = .ok (.istore_n 3, 1) := by decide +kernel
theorem dX9_start_128 : decode cX9_start 128 = .ok (.iload 5, 2) := by decide +kernel
theorem dX9_start_130 : decode cX9_start 130 = .ok (.iload_n 2, 1) := by decide +kernel
theorem dX9_start_131 : decode cX9_start 131 = .ok (.if_icmp .le 8, 3) := by decide +kernel
theorem dX9_start_134 : decode cX9_start 134 = .ok (.iload 5, 2) := by decide +kernel
theorem dX9_start_136 : decode cX9_start 136 = .ok (.goto 4, 3) := by decide +kernel
theorem dX9_start_139 : decode cX9_start 139 = .ok (.iload_n 2, 1) := by decide +kernel
theorem dX9_start_140 : decode cX9_start 140 = .ok (.istore_n 2, 1) := by decide +kernel
theorem dX9_start_141 : decode cX9_start 141 = .ok (.iinc 4 1, 3) := by decide +kernel
theorem dX9_start_144 : decode cX9_start 144 = .ok (.goto (-102), 3) := by decide +kernel
theorem dX9_start_147 : decode cX9_start 147 = .ok (.iload_n 1, 1) := by decide +kernel
theorem dX9_start_148 : decode cX9_start 148 = .ok (.ifCond .ne 11, 3) := by decide +kernel
theorem dX9_start_151 : decode cX9_start 151 = .ok (.iload_n 2, 1) := by decide +kernel
theorem dX9_start_152 : decode cX9_start 152 = .ok (.sipush 10000, 3) := by decide +kernel
theorem dX9_start_155 : decode cX9_start 155 = .ok (.iadd, 1) := by decide +kernel
theorem dX9_start_156 : decode cX9_start 156 = .ok (.goto 4, 3) := by decide +kernel
theorem dX9_start_159 : decode cX9_start 159 = .ok (.iload_n 3, 1) := by decide +kernel
theorem dX9_start_160 : decode cX9_start 160 = .ok (.ireturn, 1) := by decide +kernel
theorem dX9_seated_0 : decode cX9_seated 0 = .ok (.iload_n 1, 1) := by decide +kernel
theorem dX9_seated_1 : decode cX9_seated 1 = .ok (.iconst 0, 1) := by decide +kernel
theorem dX9_seated_2 : decode cX9_seated 2 = .ok (.iconst 1, 1) := by decide +kernel
theorem dX9_seated_3 : decode cX9_seated 3 = .ok (.invokestatic 75, 3) := by decide +kernel
theorem dX9_seated_6 : decode cX9_seated 6 = .ok (.ifCond .ne 6, 3) := by decide +kernel
theorem dX9_seated_9 : decode cX9_seated 9 = .ok (.bipush (-2), 2) := by decide +kernel
theorem dX9_seated_11 : decode cX9_seated 11 = .ok (.ireturn, 1) := by decide +kernel
theorem dX9_seated_12 : decode cX9_seated 12 = .ok (.aload_n 0, 1) := by decide +kernel
theorem dX9_seated_13 : decode cX9_seated 13 = .ok (.invokevirtual 109, 3) := by decide +kernel
theorem dX9_seated_16 : decode cX9_seated 16 = .ok (.ifCond .lt 6, 3) := by decide +kernel
theorem dX9_seated_19 : decode cX9_seated 19 = .ok (.bipush (-5), 2) := by decide +kernel
theorem dX9_seated_21 : decode cX9_seated 21 = .ok (.ireturn, 1) := by decide +kernel
theorem dX9_seated_22 : decode cX9_seated 22 = .ok (.aload_n 0, 1) := by decide +kernel
theorem dX9_seated_23 : decode cX9_seated 23 = .ok (.invokevirtual 160, 3) := by decide +kernel
theorem dX9_seated_26 : decode cX9_seated 26 = .ok (.aload_n 0, 1) := by decide +kernel
theorem dX9_seated_27 : decode cX9_seated 27 = .ok (.aload_n 0, 1) := by decide +kernel
theorem dX9_seated_28 : decode cX9_seated 28 = .ok (.getfield 103, 3) := by decide +kernel
theorem dX9_seated_31 : decode cX9_seated 31 = .ok (.invokevirtual 163, 3) := by decide +kernel
theorem dX9_seated_34 : decode cX9_seated 34 = .ok (.aload_n 0, 1) := by decide +kernel
theorem dX9_seated_35 : decode cX9_seated 35 = .ok (.getfield 141, 3) := by decide +kernel
theorem dX9_seated_38 : decode cX9_seated 38 = .ok (.istore_n 2, 1) := by decide +kernel
theorem dX9_seated_39 : decode cX9_seated 39 = .ok (.bipush (-6), 2) := by decide +kernel
theorem dX9_seated_41 : decode cX9_seated 41 = .ok (.istore_n 3, 1) := by decide +kernel
theorem dX9_seated_42 : decode cX9_seated 42 = .ok (.iconst 0, 1) := by decide +kernel
theorem dX9_seated_43 : decode cX9_seated 43 = .ok (.istore 4, 2) := by decide +kernel
theorem dX9_seated_45 : decode cX9_seated 45 = .ok (.iload 4, 2) := by decide +kernel
theorem dX9_seated_47 : decode cX9_seated 47 = .ok (.bipush 8, 2) := by decide +kernel
theorem dX9_seated_49 : decode cX9_seated 49 = .ok (.if_icmp .ge 139, 3) := by decide +kernel
theorem dX9_seated_52 : decode cX9_seated 52 = .ok (.iconst 0, 1) := by decide +kernel
theorem dX9_seated_53 : decode cX9_seated 53 = .ok (.istore 5, 2) := by decide +kernel
theorem dX9_seated_55 : decode cX9_seated 55 = .ok (.iload 5, 2) := by decide +kernel
theorem dX9_seated_57 : decode cX9_seated 57 = .ok (.iconst 4, 1) := by decide +kernel
theorem dX9_seated_58 : decode cX9_seated 58 = .ok (.aload_n 0, 1) := by decide +kernel
theorem dX9_seated_59 : decode cX9_seated 59 = .ok (.getfield 7, 3) := by decide +kernel
theorem dX9_seated_62 : decode cX9_seated 62 = .ok (.imul, 1) := by decide +kernel
theorem dX9_seated_63 : decode cX9_seated 63 = .ok (.if_icmp .ge 119, 3) := by decide +kernel
theorem dX9_seated_66 : decode cX9_seated 66 = .ok (.aload_n 0, 1) := by decide +kernel
theorem dX9_seated_67 : decode cX9_seated 67 = .ok (.getfield 72, 3) := by decide +kernel
theorem dX9_seated_70 : decode cX9_seated 70 = .ok (.iload 4, 2) := by decide +kernel
theorem dX9_seated_72 : decode cX9_seated 72 = .ok (.invokestatic 79, 3) := by decide +kernel
theorem dX9_seated_75 : decode cX9_seated 75 = .ok (.ifCond .eq 101, 3) := by decide +kernel
theorem dX9_seated_78 : decode cX9_seated 78 = .ok (.iload 5, 2) := by decide +kernel
theorem dX9_seated_80 : decode cX9_seated 80 = .ok (.aload_n 0, 1) := by decide +kernel
theorem dX9_seated_81 : decode cX9_seated 81 = .ok (.getfield 13, 3) := by decide +kernel
theorem dX9_seated_84 : decode cX9_seated 84 = .ok (.iload 4, 2) := by decide +kernel
theorem dX9_seated_86 : decode cX9_seated 86 = .ok (.iaload, 1) := by decide +kernel
theorem dX9_seated_87 : decode cX9_seated 87 = .ok (.if_icmp .eq 89, 3) := by decide +kernel
theorem dX9_seated_90 : decode cX9_seated 90 = .ok (.aload_n 0, 1) := by decide +kernel
theorem dX9_seated_91 : decode cX9_seated 91 = .ok (.invokevirtual 160, 3) := by decide +kernel
theorem dX9_seated_94 : decode cX9_seated 94 = .ok (.aload_n 0, 1) := by decide +kernel
theorem dX9_seated_95 : decode cX9_seated 95 = .ok (.iload 5, 2) := by decide +kernel
theorem dX9_seated_97 : decode cX9_seated 97 = .ok (.invokevirtual 92, 3) := by decide +kernel
theorem dX9_seated_100 : decode cX9_seated 100 = .ok (.istore 6, 2) := by decide +kernel
theorem dX9_seated_102 : decode cX9_seated 102 = .ok (.aload_n 0, 1) := by decide +kernel
theorem dX9_seated_103 : decode cX9_seated 103 = .ok (.getfield 41, 3) := by decide +kernel
theorem dX9_seated_106 : decode cX9_seated 106 = .ok (.iload 4, 2) := by decide +kernel
theorem dX9_seated_108 : decode cX9_seated 108 = .ok (.iload 5, 2) := by decide +kernel
theorem dX9_seated_110 : decode cX9_seated 110 = .ok (.iastore, 1) := by decide +kernel
theorem dX9_seated_111 : decode cX9_seated 111 = .ok (.iload 6, 2) := by decide +kernel
theorem dX9_seated_113 : decode cX9_seated 113 = .ok (.ifCond .lt 17, 3) := by decide +kernel
theorem dX9_seated_116 : decode cX9_seated 116 = .ok (.aload_n 0, 1) := by decide +kernel
theorem dX9_seated_117 : decode cX9_seated 117 = .ok (.getfield 41, 3) := by decide +kernel
theorem dX9_seated_120 : decode cX9_seated 120 = .ok (.iload 6, 2) := by decide +kernel
theorem dX9_seated_122 : decode cX9_seated 122 = .ok (.aload_n 0, 1) := by decide +kernel
theorem dX9_seated_123 : decode cX9_seated 123 = .ok (.getfield 13, 3) := by decide +kernel
theorem dX9_seated_126 : decode cX9_seated 126 = .ok (.iload 4, 2) := by decide +kernel
theorem dX9_seated_128 : decode cX9_seated 128 = .ok (.iaload, 1) := by decide +kernel
theorem dX9_seated_129 : decode cX9_seated 129 = .ok (.iastore, 1) := by decide +kernel
theorem dX9_seated_130 : decode cX9_seated 130 = .ok (.aload_n 0, 1) := by decide +kernel
theorem dX9_seated_131 : decode cX9_seated 131 = .ok (.aload_n 0, 1) := by decide +kernel
theorem dX9_seated_132 : decode cX9_seated 132 = .ok (.getfield 103, 3) := by decide +kernel
theorem dX9_seated_135 : decode cX9_seated 135 = .ok (.invokevirtual 163, 3) := by decide +kernel
theorem dX9_seated_138 : decode cX9_seated 138 = .ok (.aload_n 0, 1) := by decide +kernel
theorem dX9_seated_139 : decode cX9_seated 139 = .ok (.getfield 141, 3) := by decide +kernel
theorem dX9_seated_142 : decode cX9_seated 142 = .ok (.iload_n 2, 1) := by decide +kernel
theorem dX9_seated_143 : decode cX9_seated 143 = .ok (.if_icmp .ge 14, 3) := by decide +kernel
theorem dX9_seated_146 : decode cX9_seated 146 = .ok (.bipush 100, 2) := by decide +kernel
theorem dX9_seated_148 : decode cX9_seated 148 = .ok (.iload 4, 2) := by decide +kernel
theorem dX9_seated_150 : decode cX9_seated 150 = .ok (.imul, 1) := by decide +kernel
theorem dX9_seated_151 : decode cX9_seated 151 = .ok (.iload 5, 2) := by decide +kernel
theorem dX9_seated_153 : decode cX9_seated 153 = .ok (.iadd, 1) := by decide +kernel
theorem dX9_seated_154 : decode cX9_seated 154 = .ok (.goto 4, 3) := by decide +kernel
theorem dX9_seated_157 : decode cX9_seated 157 = .ok (.iload_n 3, 1) := by decide +kernel
theorem dX9_seated_158 : decode cX9_seated 158 = .ok (.istore_n 3, 1) := by decide +kernel
theorem dX9_seated_159 : decode cX9_seated 159 = .ok (.aload_n 0, 1) := by decide +kernel
theorem dX9_seated_160 : decode cX9_seated 160 = .ok (.getfield 141, 3) := by decide +kernel
theorem dX9_seated_163 : decode cX9_seated 163 = .ok (.iload_n 2, 1) := by decide +kernel
theorem dX9_seated_164 : decode cX9_seated 164 = .ok (.if_icmp .ge 10, 3) := by decide +kernel
theorem dX9_seated_167 : decode cX9_seated 167 = .ok (.aload_n 0, 1) := by decide +kernel
theorem dX9_seated_168 : decode cX9_seated 168 = .ok (.getfield 141, 3) := by decide +kernel
theorem dX9_seated_171 : decode cX9_seated 171 = .ok (.goto 4, 3) := by decide +kernel
theorem dX9_seated_174 : decode cX9_seated 174 = .ok (.iload_n 2, 1) := by decide +kernel
theorem dX9_seated_175 : decode cX9_seated 175 = .ok (.istore_n 2, 1) := by decide +kernel
theorem dX9_seated_176 : decode cX9_seated 176 = .ok (.iinc 5 1, 3) := by decide +kernel
theorem dX9_seated_179 : decode cX9_seated 179 = .ok (.goto (-124), 3) := by decide +kernel
theorem dX9_seated_182 : decode cX9_seated 182 = .ok (.iinc 4 1, 3) := by decide +kernel
theorem dX9_seated_185 : decode cX9_seated 185 = .ok (.goto (-140), 3) := by decide +kernel
theorem dX9_seated_188 : decode cX9_seated 188 = .ok (.iload_n 1, 1) := by decide +kernel
theorem dX9_seated_189 : decode cX9_seated 189 = .ok (.ifCond .ne 7, 3) := by decide +kernel
theorem dX9_seated_192 : decode cX9_seated 192 = .ok (.iload_n 2, 1) := by decide +kernel
theorem dX9_seated_193 : decode cX9_seated 193 = .ok (.goto 4, 3) := by decide +kernel
theorem dX9_seated_196 : decode cX9_seated 196 = .ok (.iload_n 3, 1) := by decide +kernel
theorem dX9_seated_197 : decode cX9_seated 197 = .ok (.ireturn, 1) := by decide +kernel
theorem dX9_hired_0 : decode cX9_hired 0 = .ok (.iload_n 1, 1) := by decide +kernel
theorem dX9_hired_1 : decode cX9_hired 1 = .ok (.iconst 0, 1) := by decide +kernel
theorem dX9_hired_2 : decode cX9_hired 2 = .ok (.sipush 999, 3) := by decide +kernel
theorem dX9_hired_5 : decode cX9_hired 5 = .ok (.invokestatic 75, 3) := by decide +kernel
theorem dX9_hired_8 : decode cX9_hired 8 = .ok (.ifCond .eq 12, 3) := by decide +kernel
theorem dX9_hired_11 : decode cX9_hired 11 = .ok (.iload_n 2, 1) := by decide +kernel
theorem dX9_hired_12 : decode cX9_hired 12 = .ok (.iconst 0, 1) := by decide +kernel
theorem dX9_hired_13 : decode cX9_hired 13 = .ok (.iconst 1, 1) := by decide +kernel
theorem dX9_hired_14 : decode cX9_hired 14 = .ok (.invokestatic 75, 3) := by decide +kernel
theorem dX9_hired_17 : decode cX9_hired 17 = .ok (.ifCond .ne 6, 3) := by decide +kernel
theorem dX9_hired_20 : decode cX9_hired 20 = .ok (.bipush (-2), 2) := by decide +kernel
theorem dX9_hired_22 : decode cX9_hired 22 = .ok (.ireturn, 1) := by decide +kernel
theorem dX9_hired_23 : decode cX9_hired 23 = .ok (.aload_n 0, 1) := by decide +kernel
theorem dX9_hired_24 : decode cX9_hired 24 = .ok (.invokevirtual 109, 3) := by decide +kernel
theorem dX9_hired_27 : decode cX9_hired 27 = .ok (.ifCond .lt 6, 3) := by decide +kernel
theorem dX9_hired_30 : decode cX9_hired 30 = .ok (.bipush (-5), 2) := by decide +kernel
theorem dX9_hired_32 : decode cX9_hired 32 = .ok (.ireturn, 1) := by decide +kernel
theorem dX9_hired_33 : decode cX9_hired 33 = .ok (.bipush (-6), 2) := by decide +kernel
theorem dX9_hired_35 : decode cX9_hired 35 = .ok (.istore_n 3, 1) := by decide +kernel
theorem dX9_hired_36 : decode cX9_hired 36 = .ok (.iconst 0, 1) := by decide +kernel
theorem dX9_hired_37 : decode cX9_hired 37 = .ok (.istore 4, 2) := by decide +kernel
theorem dX9_hired_39 : decode cX9_hired 39 = .ok (.iload 4, 2) := by decide +kernel
theorem dX9_hired_41 : decode cX9_hired 41 = .ok (.sipush 256, 3) := by decide +kernel
theorem dX9_hired_44 : decode cX9_hired 44 = .ok (.if_icmp .ge 85, 3) := by decide +kernel
theorem dX9_hired_47 : decode cX9_hired 47 = .ok (.iload 4, 2) := by decide +kernel
theorem dX9_hired_49 : decode cX9_hired 49 = .ok (.aload_n 0, 1) := by decide +kernel
theorem dX9_hired_50 : decode cX9_hired 50 = .ok (.getfield 72, 3) := by decide +kernel
theorem dX9_hired_53 : decode cX9_hired 53 = .ok (.iconst (-1), 1) := by decide +kernel
theorem dX9_hired_54 : decode cX9_hired 54 = .ok (.ixor, 1) := by decide +kernel
theorem dX9_hired_55 : decode cX9_hired 55 = .ok (.iand, 1) := by decide +kernel
theorem dX9_hired_56 : decode cX9_hired 56 = .ok (.ifCond .ne 67, 3) := by decide +kernel
theorem dX9_hired_59 : decode cX9_hired 59 = .ok (.iload 4, 2) := by decide +kernel
theorem dX9_hired_61 : decode cX9_hired 61 = .ok (.aload_n 0, 1) := by decide +kernel
theorem dX9_hired_62 : decode cX9_hired 62 = .ok (.getfield 83, 3) := by decide +kernel
theorem dX9_hired_65 : decode cX9_hired 65 = .ok (.iand, 1) := by decide +kernel
theorem dX9_hired_66 : decode cX9_hired 66 = .ok (.ifCond .ne 57, 3) := by decide +kernel
theorem dX9_hired_69 : decode cX9_hired 69 = .ok (.iload_n 3, 1) := by decide +kernel
theorem dX9_hired_70 : decode cX9_hired 70 = .ok (.ifCond .lt 15, 3) := by decide +kernel
theorem dX9_hired_73 : decode cX9_hired 73 = .ok (.iload 4, 2) := by decide +kernel
theorem dX9_hired_75 : decode cX9_hired 75 = .ok (.invokestatic 96, 3) := by decide +kernel
theorem dX9_hired_78 : decode cX9_hired 78 = .ok (.iload_n 3, 1) := by decide +kernel
theorem dX9_hired_79 : decode cX9_hired 79 = .ok (.invokestatic 96, 3) := by decide +kernel
theorem dX9_hired_82 : decode cX9_hired 82 = .ok (.if_icmp .ge 41, 3) := by decide +kernel
theorem dX9_hired_85 : decode cX9_hired 85 = .ok (.aload_n 0, 1) := by decide +kernel
theorem dX9_hired_86 : decode cX9_hired 86 = .ok (.invokevirtual 160, 3) := by decide +kernel
theorem dX9_hired_89 : decode cX9_hired 89 = .ok (.aload_n 0, 1) := by decide +kernel
theorem dX9_hired_90 : decode cX9_hired 90 = .ok (.aload_n 0, 1) := by decide +kernel
theorem dX9_hired_91 : decode cX9_hired 91 = .ok (.getfield 83, 3) := by decide +kernel
theorem dX9_hired_94 : decode cX9_hired 94 = .ok (.iload 4, 2) := by decide +kernel
theorem dX9_hired_96 : decode cX9_hired 96 = .ok (.ior, 1) := by decide +kernel
theorem dX9_hired_97 : decode cX9_hired 97 = .ok (.putfield 116, 3) := by decide +kernel
theorem dX9_hired_100 : decode cX9_hired 100 = .ok (.aload_n 0, 1) := by decide +kernel
theorem dX9_hired_101 : decode cX9_hired 101 = .ok (.aload_n 0, 1) := by decide +kernel
theorem dX9_hired_102 : decode cX9_hired 102 = .ok (.getfield 103, 3) := by decide +kernel
theorem dX9_hired_105 : decode cX9_hired 105 = .ok (.invokevirtual 163, 3) := by decide +kernel
theorem dX9_hired_108 : decode cX9_hired 108 = .ok (.aload_n 0, 1) := by decide +kernel
theorem dX9_hired_109 : decode cX9_hired 109 = .ok (.getfield 147, 3) := by decide +kernel
theorem dX9_hired_112 : decode cX9_hired 112 = .ok (.iload_n 1, 1) := by decide +kernel
theorem dX9_hired_113 : decode cX9_hired 113 = .ok (.if_icmp .gt 8, 3) := by decide +kernel
theorem dX9_hired_116 : decode cX9_hired 116 = .ok (.iload 4, 2) := by decide +kernel
theorem dX9_hired_118 : decode cX9_hired 118 = .ok (.goto 4, 3) := by decide +kernel
theorem dX9_hired_121 : decode cX9_hired 121 = .ok (.iload_n 3, 1) := by decide +kernel
theorem dX9_hired_122 : decode cX9_hired 122 = .ok (.istore_n 3, 1) := by decide +kernel
theorem dX9_hired_123 : decode cX9_hired 123 = .ok (.iinc 4 1, 3) := by decide +kernel
theorem dX9_hired_126 : decode cX9_hired 126 = .ok (.goto (-87), 3) := by decide +kernel
theorem dX9_hired_129 : decode cX9_hired 129 = .ok (.iload_n 3, 1) := by decide +kernel
theorem dX9_hired_130 : decode cX9_hired 130 = .ok (.ifCond .lt 8, 3) := by decide +kernel
theorem dX9_hired_133 : decode cX9_hired 133 = .ok (.iload_n 2, 1) := by decide +kernel
theorem dX9_hired_134 : decode cX9_hired 134 = .ok (.iconst 1, 1) := by decide +kernel
theorem dX9_hired_135 : decode cX9_hired 135 = .ok (.if_icmp .ne 7, 3) := by decide +kernel
theorem dX9_hired_138 : decode cX9_hired 138 = .ok (.iload_n 3, 1) := by decide +kernel
theorem dX9_hired_139 : decode cX9_hired 139 = .ok (.goto 7, 3) := by decide +kernel
theorem dX9_hired_142 : decode cX9_hired 142 = .ok (.iload_n 3, 1) := by decide +kernel
theorem dX9_hired_143 : decode cX9_hired 143 = .ok (.invokestatic 96, 3) := by decide +kernel
theorem dX9_hired_146 : decode cX9_hired 146 = .ok (.ireturn, 1) := by decide +kernel
theorem dX9_least_0 : decode cX9_least 0 = .ok (.aload_n 0, 1) := by decide +kernel
theorem dX9_least_1 : decode cX9_least 1 = .ok (.invokevirtual 109, 3) := by decide +kernel
theorem dX9_least_4 : decode cX9_least 4 = .ok (.ifCond .lt 6, 3) := by decide +kernel
theorem dX9_least_7 : decode cX9_least 7 = .ok (.bipush (-5), 2) := by decide +kernel
theorem dX9_least_9 : decode cX9_least 9 = .ok (.ireturn, 1) := by decide +kernel
theorem dX9_least_10 : decode cX9_least 10 = .ok (.aload_n 0, 1) := by decide +kernel
theorem dX9_least_11 : decode cX9_least 11 = .ok (.getfield 103, 3) := by decide +kernel
theorem dX9_least_14 : decode cX9_least 14 = .ok (.bipush 59, 2) := by decide +kernel
theorem dX9_least_16 : decode cX9_least 16 = .ok (.if_icmp .le 6, 3) := by decide +kernel
theorem dX9_least_19 : decode cX9_least 19 = .ok (.bipush (-4), 2) := by decide +kernel
theorem dX9_least_21 : decode cX9_least 21 = .ok (.ireturn, 1) := by decide +kernel
theorem dX9_least_22 : decode cX9_least 22 = .ok (.iconst 1, 1) := by decide +kernel
theorem dX9_least_23 : decode cX9_least 23 = .ok (.istore_n 1, 1) := by decide +kernel
theorem dX9_least_24 : decode cX9_least 24 = .ok (.iload_n 1, 1) := by decide +kernel
theorem dX9_least_25 : decode cX9_least 25 = .ok (.bipush 10, 2) := by decide +kernel
theorem dX9_least_27 : decode cX9_least 27 = .ok (.if_icmp .ge 54, 3) := by decide +kernel
theorem dX9_least_30 : decode cX9_least 30 = .ok (.aload_n 0, 1) := by decide +kernel
theorem dX9_least_31 : decode cX9_least 31 = .ok (.invokevirtual 160, 3) := by decide +kernel
theorem dX9_least_34 : decode cX9_least 34 = .ok (.aload_n 0, 1) := by decide +kernel
theorem dX9_least_35 : decode cX9_least 35 = .ok (.iload_n 1, 1) := by decide +kernel
theorem dX9_least_36 : decode cX9_least 36 = .ok (.putfield 119, 3) := by decide +kernel
theorem dX9_least_39 : decode cX9_least 39 = .ok (.aload_n 0, 1) := by decide +kernel
theorem dX9_least_40 : decode cX9_least 40 = .ok (.invokevirtual 169, 3) := by decide +kernel
theorem dX9_least_43 : decode cX9_least 43 = .ok (.istore_n 2, 1) := by decide +kernel
theorem dX9_least_44 : decode cX9_least 44 = .ok (.aload_n 0, 1) := by decide +kernel
theorem dX9_least_45 : decode cX9_least 45 = .ok (.getfield 38, 3) := by decide +kernel
theorem dX9_least_48 : decode cX9_least 48 = .ok (.aload_n 0, 1) := by decide +kernel
theorem dX9_least_49 : decode cX9_least 49 = .ok (.getfield 103, 3) := by decide +kernel
theorem dX9_least_52 : decode cX9_least 52 = .ok (.bipush 104, 2) := by decide +kernel
theorem dX9_least_54 : decode cX9_least 54 = .ok (.iastore, 1) := by decide +kernel
theorem dX9_least_55 : decode cX9_least 55 = .ok (.aload_n 0, 1) := by decide +kernel
theorem dX9_least_56 : decode cX9_least 56 = .ok (.aload_n 0, 1) := by decide +kernel
theorem dX9_least_57 : decode cX9_least 57 = .ok (.getfield 103, 3) := by decide +kernel
theorem dX9_least_60 : decode cX9_least 60 = .ok (.iconst 1, 1) := by decide +kernel
theorem dX9_least_61 : decode cX9_least 61 = .ok (.iadd, 1) := by decide +kernel
theorem dX9_least_62 : decode cX9_least 62 = .ok (.putfield 113, 3) := by decide +kernel
theorem dX9_least_65 : decode cX9_least 65 = .ok (.aload_n 0, 1) := by decide +kernel
theorem dX9_least_66 : decode cX9_least 66 = .ok (.invokevirtual 169, 3) := by decide +kernel
theorem dX9_least_69 : decode cX9_least 69 = .ok (.iload_n 2, 1) := by decide +kernel
theorem dX9_least_70 : decode cX9_least 70 = .ok (.if_icmp .gt 5, 3) := by decide +kernel
theorem dX9_least_73 : decode cX9_least 73 = .ok (.iload_n 1, 1) := by decide +kernel
theorem dX9_least_74 : decode cX9_least 74 = .ok (.ireturn, 1) := by decide +kernel
theorem dX9_least_75 : decode cX9_least 75 = .ok (.iinc 1 1, 3) := by decide +kernel
theorem dX9_least_78 : decode cX9_least 78 = .ok (.goto (-54), 3) := by decide +kernel
theorem dX9_least_81 : decode cX9_least 81 = .ok (.bipush (-6), 2) := by decide +kernel
theorem dX9_least_83 : decode cX9_least 83 = .ok (.ireturn, 1) := by decide +kernel
theorem dX9_seen_0 : decode cX9_seen 0 = .ok (.iload_n 1, 1) := by decide +kernel
theorem dX9_seen_1 : decode cX9_seen 1 = .ok (.iconst 0, 1) := by decide +kernel
theorem dX9_seen_2 : decode cX9_seen 2 = .ok (.bipush 59, 2) := by decide +kernel
theorem dX9_seen_4 : decode cX9_seen 4 = .ok (.invokestatic 75, 3) := by decide +kernel
theorem dX9_seen_7 : decode cX9_seen 7 = .ok (.ifCond .eq 13, 3) := by decide +kernel
theorem dX9_seen_10 : decode cX9_seen 10 = .ok (.iload_n 2, 1) := by decide +kernel
theorem dX9_seen_11 : decode cX9_seen 11 = .ok (.iconst 0, 1) := by decide +kernel
theorem dX9_seen_12 : decode cX9_seen 12 = .ok (.bipush 8, 2) := by decide +kernel
theorem dX9_seen_14 : decode cX9_seen 14 = .ok (.invokestatic 75, 3) := by decide +kernel
theorem dX9_seen_17 : decode cX9_seen 17 = .ok (.ifCond .ne 6, 3) := by decide +kernel
theorem dX9_seen_20 : decode cX9_seen 20 = .ok (.bipush (-2), 2) := by decide +kernel
theorem dX9_seen_22 : decode cX9_seen 22 = .ok (.ireturn, 1) := by decide +kernel
theorem dX9_seen_23 : decode cX9_seen 23 = .ok (.aload_n 0, 1) := by decide +kernel
theorem dX9_seen_24 : decode cX9_seen 24 = .ok (.getfield 86, 3) := by decide +kernel
theorem dX9_seen_27 : decode cX9_seen 27 = .ok (.bipush 8, 2) := by decide +kernel
theorem dX9_seen_29 : decode cX9_seen 29 = .ok (.if_icmp .ne 6, 3) := by decide +kernel
theorem dX9_seen_32 : decode cX9_seen 32 = .ok (.bipush (-4), 2) := by decide +kernel
theorem dX9_seen_34 : decode cX9_seen 34 = .ok (.ireturn, 1) := by decide +kernel
theorem dX9_seen_35 : decode cX9_seen 35 = .ok (.aload_n 0, 1) := by decide +kernel
theorem dX9_seen_36 : decode cX9_seen 36 = .ok (.getfield 32, 3) := by decide +kernel
theorem dX9_seen_39 : decode cX9_seen 39 = .ok (.iconst 2, 1) := by decide +kernel
theorem dX9_seen_40 : decode cX9_seen 40 = .ok (.aload_n 0, 1) := by decide +kernel
theorem dX9_seen_41 : decode cX9_seen 41 = .ok (.getfield 86, 3) := by decide +kernel
theorem dX9_seen_44 : decode cX9_seen 44 = .ok (.imul, 1) := by decide +kernel
theorem dX9_seen_45 : decode cX9_seen 45 = .ok (.iload_n 1, 1) := by decide +kernel
theorem dX9_seen_46 : decode cX9_seen 46 = .ok (.iastore, 1) := by decide +kernel
theorem dX9_seen_47 : decode cX9_seen 47 = .ok (.aload_n 0, 1) := by decide +kernel
theorem dX9_seen_48 : decode cX9_seen 48 = .ok (.getfield 32, 3) := by decide +kernel
theorem dX9_seen_51 : decode cX9_seen 51 = .ok (.iconst 2, 1) := by decide +kernel
theorem dX9_seen_52 : decode cX9_seen 52 = .ok (.aload_n 0, 1) := by decide +kernel
theorem dX9_seen_53 : decode cX9_seen 53 = .ok (.getfield 86, 3) := by decide +kernel
theorem dX9_seen_56 : decode cX9_seen 56 = .ok (.imul, 1) := by decide +kernel
theorem dX9_seen_57 : decode cX9_seen 57 = .ok (.iconst 1, 1) := by decide +kernel
theorem dX9_seen_58 : decode cX9_seen 58 = .ok (.iadd, 1) := by decide +kernel
theorem dX9_seen_59 : decode cX9_seen 59 = .ok (.iload_n 2, 1) := by decide +kernel
theorem dX9_seen_60 : decode cX9_seen 60 = .ok (.iastore, 1) := by decide +kernel
theorem dX9_seen_61 : decode cX9_seen 61 = .ok (.aload_n 0, 1) := by decide +kernel
theorem dX9_seen_62 : decode cX9_seen 62 = .ok (.dup, 1) := by decide +kernel
theorem dX9_seen_63 : decode cX9_seen 63 = .ok (.getfield 86, 3) := by decide +kernel
theorem dX9_seen_66 : decode cX9_seen 66 = .ok (.iconst 1, 1) := by decide +kernel
theorem dX9_seen_67 : decode cX9_seen 67 = .ok (.iadd, 1) := by decide +kernel
theorem dX9_seen_68 : decode cX9_seen 68 = .ok (.putfield 86, 3) := by decide +kernel
theorem dX9_seen_71 : decode cX9_seen 71 = .ok (.aload_n 0, 1) := by decide +kernel
theorem dX9_seen_72 : decode cX9_seen 72 = .ok (.getfield 86, 3) := by decide +kernel
theorem dX9_seen_75 : decode cX9_seen 75 = .ok (.ireturn, 1) := by decide +kernel
theorem dX9_forget_0 : decode cX9_forget 0 = .ok (.aload_n 0, 1) := by decide +kernel
theorem dX9_forget_1 : decode cX9_forget 1 = .ok (.getfield 86, 3) := by decide +kernel
theorem dX9_forget_4 : decode cX9_forget 4 = .ok (.istore_n 1, 1) := by decide +kernel
theorem dX9_forget_5 : decode cX9_forget 5 = .ok (.aload_n 0, 1) := by decide +kernel
theorem dX9_forget_6 : decode cX9_forget 6 = .ok (.iconst 0, 1) := by decide +kernel
theorem dX9_forget_7 : decode cX9_forget 7 = .ok (.putfield 86, 3) := by decide +kernel
theorem dX9_forget_10 : decode cX9_forget 10 = .ok (.iload_n 1, 1) := by decide +kernel
theorem dX9_forget_11 : decode cX9_forget 11 = .ok (.ireturn, 1) := by decide +kernel
theorem dX9_isCounted_0 : decode cX9_isCounted 0 = .ok (.aload_n 0, 1) := by decide +kernel
theorem dX9_isCounted_1 : decode cX9_isCounted 1 = .ok (.aload_n 0, 1) := by decide +kernel
theorem dX9_isCounted_2 : decode cX9_isCounted 2 = .ok (.getfield 113, 3) := by decide +kernel
theorem dX9_isCounted_5 : decode cX9_isCounted 5 = .ok (.invokevirtual 163, 3) := by decide +kernel
theorem dX9_isCounted_8 : decode cX9_isCounted 8 = .ok (.iconst 1, 1) := by decide +kernel
theorem dX9_isCounted_9 : decode cX9_isCounted 9 = .ok (.istore_n 1, 1) := by decide +kernel
theorem dX9_isCounted_10 : decode cX9_isCounted 10 = .ok (.iconst 0, 1) := by decide +kernel
theorem dX9_isCounted_11 : decode cX9_isCounted 11 = .ok (.istore_n 2, 1) := by decide +kernel
theorem dX9_isCounted_12 : decode cX9_isCounted 12 = .ok (.iload_n 2, 1) := by decide +kernel
theorem dX9_isCounted_13 : decode cX9_isCounted 13 = .ok (.aload_n 0, 1) := by decide +kernel
theorem dX9_isCounted_14 : decode cX9_isCounted 14 = .ok (.getfield 86, 3) := by decide +kernel
theorem dX9_isCounted_17 : decode cX9_isCounted 17 = .ok (.if_icmp .ge 65, 3) := by decide +kernel
theorem dX9_isCounted_20 : decode cX9_isCounted 20 = .ok (.aload_n 0, 1) := by decide +kernel
theorem dX9_isCounted_21 : decode cX9_isCounted 21 = .ok (.getfield 32, 3) := by decide +kernel
theorem dX9_isCounted_24 : decode cX9_isCounted 24 = .ok (.iconst 2, 1) := by decide +kernel
theorem dX9_isCounted_25 : decode cX9_isCounted 25 = .ok (.iload_n 2, 1) := by decide +kernel
theorem dX9_isCounted_26 : decode cX9_isCounted 26 = .ok (.imul, 1) := by decide +kernel
theorem dX9_isCounted_27 : decode cX9_isCounted 27 = .ok (.iaload, 1) := by decide +kernel
theorem dX9_isCounted_28 : decode cX9_isCounted 28 = .ok (.istore_n 3, 1) := by decide +kernel
theorem dX9_isCounted_29 : decode cX9_isCounted 29 = .ok (.iload_n 1, 1) := by decide +kernel
theorem dX9_isCounted_30 : decode cX9_isCounted 30 = .ok (.ifCond .eq 44, 3) := by decide +kernel
theorem dX9_isCounted_33 : decode cX9_isCounted 33 = .ok (.iload_n 3, 1) := by decide +kernel
theorem dX9_isCounted_34 : decode cX9_isCounted 34 = .ok (.aload_n 0, 1) := by decide +kernel
theorem dX9_isCounted_35 : decode cX9_isCounted 35 = .ok (.getfield 113, 3) := by decide +kernel
theorem dX9_isCounted_38 : decode cX9_isCounted 38 = .ok (.if_icmp .ge 36, 3) := by decide +kernel
theorem dX9_isCounted_41 : decode cX9_isCounted 41 = .ok (.aload_n 0, 1) := by decide +kernel
theorem dX9_isCounted_42 : decode cX9_isCounted 42 = .ok (.getfield 47, 3) := by decide +kernel
theorem dX9_isCounted_45 : decode cX9_isCounted 45 = .ok (.iload_n 3, 1) := by decide +kernel
theorem dX9_isCounted_46 : decode cX9_isCounted 46 = .ok (.iaload, 1) := by decide +kernel
theorem dX9_isCounted_47 : decode cX9_isCounted 47 = .ok (.aload_n 0, 1) := by decide +kernel
theorem dX9_isCounted_48 : decode cX9_isCounted 48 = .ok (.getfield 50, 3) := by decide +kernel
theorem dX9_isCounted_51 : decode cX9_isCounted 51 = .ok (.iload_n 3, 1) := by decide +kernel
theorem dX9_isCounted_52 : decode cX9_isCounted 52 = .ok (.iaload, 1) := by decide +kernel
theorem dX9_isCounted_53 : decode cX9_isCounted 53 = .ok (.ior, 1) := by decide +kernel
theorem dX9_isCounted_54 : decode cX9_isCounted 54 = .ok (.invokestatic 96, 3) := by decide +kernel
theorem dX9_isCounted_57 : decode cX9_isCounted 57 = .ok (.aload_n 0, 1) := by decide +kernel
theorem dX9_isCounted_58 : decode cX9_isCounted 58 = .ok (.getfield 32, 3) := by decide +kernel
theorem dX9_isCounted_61 : decode cX9_isCounted 61 = .ok (.iconst 2, 1) := by decide +kernel
theorem dX9_isCounted_62 : decode cX9_isCounted 62 = .ok (.iload_n 2, 1) := by decide +kernel
theorem dX9_isCounted_63 : decode cX9_isCounted 63 = .ok (.imul, 1) := by decide +kernel
theorem dX9_isCounted_64 : decode cX9_isCounted 64 = .ok (.iconst 1, 1) := by decide +kernel
theorem dX9_isCounted_65 : decode cX9_isCounted 65 = .ok (.iadd, 1) := by decide +kernel
theorem dX9_isCounted_66 : decode cX9_isCounted 66 = .ok (.iaload, 1) := by decide +kernel
theorem dX9_isCounted_67 : decode cX9_isCounted 67 = .ok (.if_icmp .ne 7, 3) := by decide +kernel
theorem dX9_isCounted_70 : decode cX9_isCounted 70 = .ok (.iconst 1, 1) := by decide +kernel
theorem dX9_isCounted_71 : decode cX9_isCounted 71 = .ok (.goto 4, 3) := by decide +kernel
theorem dX9_isCounted_74 : decode cX9_isCounted 74 = .ok (.iconst 0, 1) := by decide +kernel
theorem dX9_isCounted_75 : decode cX9_isCounted 75 = .ok (.istore_n 1, 1) := by decide +kernel
theorem dX9_isCounted_76 : decode cX9_isCounted 76 = .ok (.iinc 2 1, 3) := by decide +kernel
theorem dX9_isCounted_79 : decode cX9_isCounted 79 = .ok (.goto (-67), 3) := by decide +kernel
theorem dX9_isCounted_82 : decode cX9_isCounted 82 = .ok (.iload_n 1, 1) := by decide +kernel
theorem dX9_isCounted_83 : decode cX9_isCounted 83 = .ok (.ireturn, 1) := by decide +kernel
theorem dX9_layPreached_0 : decode cX9_layPreached 0 = .ok (.aload_n 0, 1) := by decide +kernel
theorem dX9_layPreached_1 : decode cX9_layPreached 1 = .ok (.invokevirtual 160, 3) := by decide +kernel
theorem dX9_layPreached_4 : decode cX9_layPreached 4 = .ok (.aload_n 0, 1) := by decide +kernel
theorem dX9_layPreached_5 : decode cX9_layPreached 5 = .ok (.invokevirtual 176, 3) := by decide +kernel
theorem dX9_layPreached_8 : decode cX9_layPreached 8 = .ok (.iconst 0, 1) := by decide +kernel
theorem dX9_layPreached_9 : decode cX9_layPreached 9 = .ok (.istore_n 1, 1) := by decide +kernel
theorem dX9_layPreached_10 : decode cX9_layPreached 10 = .ok (.aload_n 0, 1) := by decide +kernel
theorem dX9_layPreached_11 : decode cX9_layPreached 11 = .ok (.iconst 0, 1) := by decide +kernel
theorem dX9_layPreached_12 : decode cX9_layPreached 12 = .ok (.putfield 185, 3) := by decide +kernel
theorem dX9_layPreached_15 : decode cX9_layPreached 15 = .ok (.iconst 1, 1) := by decide +kernel
theorem dX9_layPreached_16 : decode cX9_layPreached 16 = .ok (.istore_n 2, 1) := by decide +kernel
theorem dX9_layPreached_17 : decode cX9_layPreached 17 = .ok (.iload_n 2, 1) := by decide +kernel
theorem dX9_layPreached_18 : decode cX9_layPreached 18 = .ok (.ifCond .eq 115, 3) := by decide +kernel
theorem dX9_layPreached_21 : decode cX9_layPreached 21 = .ok (.aload_n 0, 1) := by decide +kernel
theorem dX9_layPreached_22 : decode cX9_layPreached 22 = .ok (.invokevirtual 188, 3) := by decide +kernel
theorem dX9_layPreached_25 : decode cX9_layPreached 25 = .ok (.ifCond .eq 100, 3) := by decide +kernel
theorem dX9_layPreached_28 : decode cX9_layPreached 28 = .ok (.iconst 0, 1) := by decide +kernel
theorem dX9_layPreached_29 : decode cX9_layPreached 29 = .ok (.istore_n 3, 1) := by decide +kernel
theorem dX9_layPreached_30 : decode cX9_layPreached 30 = .ok (.iload_n 3, 1) := by decide +kernel
theorem dX9_layPreached_31 : decode cX9_layPreached 31 = .ok (.aload_n 0, 1) := by decide +kernel
theorem dX9_layPreached_32 : decode cX9_layPreached 32 = .ok (.getfield 113, 3) := by decide +kernel
theorem dX9_layPreached_35 : decode cX9_layPreached 35 = .ok (.if_icmp .ge 87, 3) := by decide +kernel
theorem dX9_layPreached_38 : decode cX9_layPreached 38 = .ok (.aload_n 0, 1) := by decide +kernel
theorem dX9_layPreached_39 : decode cX9_layPreached 39 = .ok (.dup, 1) := by decide +kernel
theorem dX9_layPreached_40 : decode cX9_layPreached 40 = .ok (.getfield 185, 3) := by decide +kernel
theorem dX9_layPreached_43 : decode cX9_layPreached 43 = .ok (.iload_n 1, 1) := by decide +kernel
theorem dX9_layPreached_44 : decode cX9_layPreached 44 = .ok (.ifCond .ne 9, 3) := by decide +kernel
theorem dX9_layPreached_47 : decode cX9_layPreached 47 = .ok (.iconst 1, 1) := by decide +kernel
theorem dX9_layPreached_48 : decode cX9_layPreached 48 = .ok (.iload_n 3, 1) := by decide +kernel
theorem dX9_layPreached_49 : decode cX9_layPreached 49 = .ok (.ishl, 1) := by decide +kernel
theorem dX9_layPreached_50 : decode cX9_layPreached 50 = .ok (.goto 4, 3) := by decide +kernel
theorem dX9_layPreached_53 : decode cX9_layPreached 53 = .ok (.iconst 0, 1) := by decide +kernel
theorem dX9_layPreached_54 : decode cX9_layPreached 54 = .ok (.ior, 1) := by decide +kernel
theorem dX9_layPreached_55 : decode cX9_layPreached 55 = .ok (.putfield 185, 3) := by decide +kernel
theorem dX9_layPreached_58 : decode cX9_layPreached 58 = .ok (.aload_n 0, 1) := by decide +kernel
theorem dX9_layPreached_59 : decode cX9_layPreached 59 = .ok (.getfield 59, 3) := by decide +kernel
theorem dX9_layPreached_62 : decode cX9_layPreached 62 = .ok (.iload_n 3, 1) := by decide +kernel
theorem dX9_layPreached_63 : decode cX9_layPreached 63 = .ok (.iload_n 1, 1) := by decide +kernel
theorem dX9_layPreached_64 : decode cX9_layPreached 64 = .ok (.ifCond .ne 12, 3) := by decide +kernel
theorem dX9_layPreached_67 : decode cX9_layPreached 67 = .ok (.aload_n 0, 1) := by decide +kernel
theorem dX9_layPreached_68 : decode cX9_layPreached 68 = .ok (.getfield 38, 3) := by decide +kernel
theorem dX9_layPreached_71 : decode cX9_layPreached 71 = .ok (.iload_n 3, 1) := by decide +kernel
theorem dX9_layPreached_72 : decode cX9_layPreached 72 = .ok (.iaload, 1) := by decide +kernel
theorem dX9_layPreached_73 : decode cX9_layPreached 73 = .ok (.goto 9, 3) := by decide +kernel
theorem dX9_layPreached_76 : decode cX9_layPreached 76 = .ok (.aload_n 0, 1) := by decide +kernel
theorem dX9_layPreached_77 : decode cX9_layPreached 77 = .ok (.getfield 59, 3) := by decide +kernel
theorem dX9_layPreached_80 : decode cX9_layPreached 80 = .ok (.iload_n 3, 1) := by decide +kernel
theorem dX9_layPreached_81 : decode cX9_layPreached 81 = .ok (.iaload, 1) := by decide +kernel
theorem dX9_layPreached_82 : decode cX9_layPreached 82 = .ok (.iastore, 1) := by decide +kernel
theorem dX9_layPreached_83 : decode cX9_layPreached 83 = .ok (.aload_n 0, 1) := by decide +kernel
theorem dX9_layPreached_84 : decode cX9_layPreached 84 = .ok (.dup, 1) := by decide +kernel
theorem dX9_layPreached_85 : decode cX9_layPreached 85 = .ok (.getfield 185, 3) := by decide +kernel
theorem dX9_layPreached_88 : decode cX9_layPreached 88 = .ok (.aload_n 0, 1) := by decide +kernel
theorem dX9_layPreached_89 : decode cX9_layPreached 89 = .ok (.getfield 59, 3) := by decide +kernel
theorem dX9_layPreached_92 : decode cX9_layPreached 92 = .ok (.iload_n 3, 1) := by decide +kernel
theorem dX9_layPreached_93 : decode cX9_layPreached 93 = .ok (.iaload, 1) := by decide +kernel
theorem dX9_layPreached_94 : decode cX9_layPreached 94 = .ok (.aload_n 0, 1) := by decide +kernel
theorem dX9_layPreached_95 : decode cX9_layPreached 95 = .ok (.getfield 38, 3) := by decide +kernel
theorem dX9_layPreached_98 : decode cX9_layPreached 98 = .ok (.iload_n 3, 1) := by decide +kernel
theorem dX9_layPreached_99 : decode cX9_layPreached 99 = .ok (.iaload, 1) := by decide +kernel
theorem dX9_layPreached_100 : decode cX9_layPreached 100 = .ok (.if_icmp .ne 7, 3) := by decide +kernel
theorem dX9_layPreached_103 : decode cX9_layPreached 103 = .ok (.iconst (-1), 1) := by decide +kernel
theorem dX9_layPreached_104 : decode cX9_layPreached 104 = .ok (.goto 8, 3) := by decide +kernel
theorem dX9_layPreached_107 : decode cX9_layPreached 107 = .ok (.iconst 1, 1) := by decide +kernel
theorem dX9_layPreached_108 : decode cX9_layPreached 108 = .ok (.iload_n 3, 1) := by decide +kernel
theorem dX9_layPreached_109 : decode cX9_layPreached 109 = .ok (.ishl, 1) := by decide +kernel
theorem dX9_layPreached_110 : decode cX9_layPreached 110 = .ok (.iconst (-1), 1) := by decide +kernel
theorem dX9_layPreached_111 : decode cX9_layPreached 111 = .ok (.ixor, 1) := by decide +kernel
theorem dX9_layPreached_112 : decode cX9_layPreached 112 = .ok (.iand, 1) := by decide +kernel
theorem dX9_layPreached_113 : decode cX9_layPreached 113 = .ok (.putfield 185, 3) := by decide +kernel
theorem dX9_layPreached_116 : decode cX9_layPreached 116 = .ok (.iinc 3 1, 3) := by decide +kernel
theorem dX9_layPreached_119 : decode cX9_layPreached 119 = .ok (.goto (-89), 3) := by decide +kernel
theorem dX9_layPreached_122 : decode cX9_layPreached 122 = .ok (.iinc 1 1, 3) := by decide +kernel
theorem dX9_layPreached_125 : decode cX9_layPreached 125 = .ok (.aload_n 0, 1) := by decide +kernel
theorem dX9_layPreached_126 : decode cX9_layPreached 126 = .ok (.invokevirtual 180, 3) := by decide +kernel
theorem dX9_layPreached_129 : decode cX9_layPreached 129 = .ok (.istore_n 2, 1) := by decide +kernel
theorem dX9_layPreached_130 : decode cX9_layPreached 130 = .ok (.goto (-113), 3) := by decide +kernel
theorem dX9_layPreached_133 : decode cX9_layPreached 133 = .ok (.iload_n 1, 1) := by decide +kernel
theorem dX9_layPreached_134 : decode cX9_layPreached 134 = .ok (.ireturn, 1) := by decide +kernel
theorem dX9_preached_0 : decode cX9_preached 0 = .ok (.aload_n 0, 1) := by decide +kernel
theorem dX9_preached_1 : decode cX9_preached 1 = .ok (.invokevirtual 109, 3) := by decide +kernel
theorem dX9_preached_4 : decode cX9_preached 4 = .ok (.ifCond .lt 6, 3) := by decide +kernel
theorem dX9_preached_7 : decode cX9_preached 7 = .ok (.bipush (-5), 2) := by decide +kernel
theorem dX9_preached_9 : decode cX9_preached 9 = .ok (.ireturn, 1) := by decide +kernel
theorem dX9_preached_10 : decode cX9_preached 10 = .ok (.aload_n 0, 1) := by decide +kernel
theorem dX9_preached_11 : decode cX9_preached 11 = .ok (.getfield 103, 3) := by decide +kernel
theorem dX9_preached_14 : decode cX9_preached 14 = .ok (.bipush 6, 2) := by decide +kernel
theorem dX9_preached_16 : decode cX9_preached 16 = .ok (.if_icmp .le 6, 3) := by decide +kernel
theorem dX9_preached_19 : decode cX9_preached 19 = .ok (.bipush (-4), 2) := by decide +kernel
theorem dX9_preached_21 : decode cX9_preached 21 = .ok (.ireturn, 1) := by decide +kernel
theorem dX9_preached_22 : decode cX9_preached 22 = .ok (.aload_n 0, 1) := by decide +kernel
theorem dX9_preached_23 : decode cX9_preached 23 = .ok (.invokevirtual 191, 3) := by decide +kernel
theorem dX9_preached_26 : decode cX9_preached 26 = .ok (.istore_n 2, 1) := by decide +kernel
theorem dX9_preached_27 : decode cX9_preached 27 = .ok (.iload_n 1, 1) := by decide +kernel
theorem dX9_preached_28 : decode cX9_preached 28 = .ok (.iconst (-1), 1) := by decide +kernel
theorem dX9_preached_29 : decode cX9_preached 29 = .ok (.if_icmp .ne 5, 3) := by decide +kernel
theorem dX9_preached_32 : decode cX9_preached 32 = .ok (.iload_n 2, 1) := by decide +kernel
theorem dX9_preached_33 : decode cX9_preached 33 = .ok (.ireturn, 1) := by decide +kernel
theorem dX9_preached_34 : decode cX9_preached 34 = .ok (.iload_n 2, 1) := by decide +kernel
theorem dX9_preached_35 : decode cX9_preached 35 = .ok (.ifCond .le 26, 3) := by decide +kernel
theorem dX9_preached_38 : decode cX9_preached 38 = .ok (.iload_n 1, 1) := by decide +kernel
theorem dX9_preached_39 : decode cX9_preached 39 = .ok (.iconst 0, 1) := by decide +kernel
theorem dX9_preached_40 : decode cX9_preached 40 = .ok (.aload_n 0, 1) := by decide +kernel
theorem dX9_preached_41 : decode cX9_preached 41 = .ok (.getfield 103, 3) := by decide +kernel
theorem dX9_preached_44 : decode cX9_preached 44 = .ok (.iconst 1, 1) := by decide +kernel
theorem dX9_preached_45 : decode cX9_preached 45 = .ok (.isub, 1) := by decide +kernel
theorem dX9_preached_46 : decode cX9_preached 46 = .ok (.invokestatic 75, 3) := by decide +kernel
theorem dX9_preached_49 : decode cX9_preached 49 = .ok (.ifCond .eq 12, 3) := by decide +kernel
theorem dX9_preached_52 : decode cX9_preached 52 = .ok (.aload_n 0, 1) := by decide +kernel
theorem dX9_preached_53 : decode cX9_preached 53 = .ok (.getfield 59, 3) := by decide +kernel
theorem dX9_preached_56 : decode cX9_preached 56 = .ok (.iload_n 1, 1) := by decide +kernel
theorem dX9_preached_57 : decode cX9_preached 57 = .ok (.iaload, 1) := by decide +kernel
theorem dX9_preached_58 : decode cX9_preached 58 = .ok (.goto 5, 3) := by decide +kernel
theorem dX9_preached_61 : decode cX9_preached 61 = .ok (.bipush (-6), 2) := by decide +kernel
theorem dX9_preached_63 : decode cX9_preached 63 = .ok (.ireturn, 1) := by decide +kernel
theorem dX9_surely_0 : decode cX9_surely 0 = .ok (.aload_n 0, 1) := by decide +kernel
theorem dX9_surely_1 : decode cX9_surely 1 = .ok (.invokevirtual 109, 3) := by decide +kernel
theorem dX9_surely_4 : decode cX9_surely 4 = .ok (.ifCond .lt 6, 3) := by decide +kernel
theorem dX9_surely_7 : decode cX9_surely 7 = .ok (.bipush (-5), 2) := by decide +kernel
theorem dX9_surely_9 : decode cX9_surely 9 = .ok (.ireturn, 1) := by decide +kernel
theorem dX9_surely_10 : decode cX9_surely 10 = .ok (.aload_n 0, 1) := by decide +kernel
theorem dX9_surely_11 : decode cX9_surely 11 = .ok (.getfield 103, 3) := by decide +kernel
theorem dX9_surely_14 : decode cX9_surely 14 = .ok (.bipush 6, 2) := by decide +kernel
theorem dX9_surely_16 : decode cX9_surely 16 = .ok (.if_icmp .le 6, 3) := by decide +kernel
theorem dX9_surely_19 : decode cX9_surely 19 = .ok (.bipush (-4), 2) := by decide +kernel
theorem dX9_surely_21 : decode cX9_surely 21 = .ok (.ireturn, 1) := by decide +kernel
theorem dX9_surely_22 : decode cX9_surely 22 = .ok (.aload_n 0, 1) := by decide +kernel
theorem dX9_surely_23 : decode cX9_surely 23 = .ok (.invokevirtual 191, 3) := by decide +kernel
theorem dX9_surely_26 : decode cX9_surely 26 = .ok (.ifCond .ne 7, 3) := by decide +kernel
theorem dX9_surely_29 : decode cX9_surely 29 = .ok (.iconst 0, 1) := by decide +kernel
theorem dX9_surely_30 : decode cX9_surely 30 = .ok (.goto 7, 3) := by decide +kernel
theorem dX9_surely_33 : decode cX9_surely 33 = .ok (.aload_n 0, 1) := by decide +kernel
theorem dX9_surely_34 : decode cX9_surely 34 = .ok (.getfield 185, 3) := by decide +kernel
theorem dX9_surely_37 : decode cX9_surely 37 = .ok (.ireturn, 1) := by decide +kernel
theorem dX9_dips_0 : decode cX9_dips 0 = .ok (.aload_n 0, 1) := by decide +kernel
theorem dX9_dips_1 : decode cX9_dips 1 = .ok (.iload_n 1, 1) := by decide +kernel
theorem dX9_dips_2 : decode cX9_dips 2 = .ok (.invokevirtual 99, 3) := by decide +kernel
theorem dX9_dips_5 : decode cX9_dips 5 = .ok (.ifCond .ne 5, 3) := by decide +kernel
theorem dX9_dips_8 : decode cX9_dips 8 = .ok (.iconst (-1), 1) := by decide +kernel
theorem dX9_dips_9 : decode cX9_dips 9 = .ok (.ireturn, 1) := by decide +kernel
theorem dX9_dips_10 : decode cX9_dips 10 = .ok (.iload_n 2, 1) := by decide +kernel
theorem dX9_dips_11 : decode cX9_dips 11 = .ok (.iconst 0, 1) := by decide +kernel
theorem dX9_dips_12 : decode cX9_dips 12 = .ok (.iconst 1, 1) := by decide +kernel
theorem dX9_dips_13 : decode cX9_dips 13 = .ok (.invokestatic 75, 3) := by decide +kernel
theorem dX9_dips_16 : decode cX9_dips 16 = .ok (.ifCond .ne 6, 3) := by decide +kernel
theorem dX9_dips_19 : decode cX9_dips 19 = .ok (.bipush (-2), 2) := by decide +kernel
theorem dX9_dips_21 : decode cX9_dips 21 = .ok (.ireturn, 1) := by decide +kernel
theorem dX9_dips_22 : decode cX9_dips 22 = .ok (.aload_n 0, 1) := by decide +kernel
theorem dX9_dips_23 : decode cX9_dips 23 = .ok (.invokevirtual 109, 3) := by decide +kernel
theorem dX9_dips_26 : decode cX9_dips 26 = .ok (.ifCond .lt 6, 3) := by decide +kernel
theorem dX9_dips_29 : decode cX9_dips 29 = .ok (.bipush (-5), 2) := by decide +kernel
theorem dX9_dips_31 : decode cX9_dips 31 = .ok (.ireturn, 1) := by decide +kernel
theorem dX9_dips_32 : decode cX9_dips 32 = .ok (.aload_n 0, 1) := by decide +kernel
theorem dX9_dips_33 : decode cX9_dips 33 = .ok (.invokevirtual 160, 3) := by decide +kernel
theorem dX9_dips_36 : decode cX9_dips 36 = .ok (.aload_n 0, 1) := by decide +kernel
theorem dX9_dips_37 : decode cX9_dips 37 = .ok (.aload_n 0, 1) := by decide +kernel
theorem dX9_dips_38 : decode cX9_dips 38 = .ok (.getfield 103, 3) := by decide +kernel
theorem dX9_dips_41 : decode cX9_dips 41 = .ok (.invokevirtual 163, 3) := by decide +kernel
theorem dX9_dips_44 : decode cX9_dips 44 = .ok (.iconst 0, 1) := by decide +kernel
theorem dX9_dips_45 : decode cX9_dips 45 = .ok (.istore_n 3, 1) := by decide +kernel
theorem dX9_dips_46 : decode cX9_dips 46 = .ok (.iconst 0, 1) := by decide +kernel
theorem dX9_dips_47 : decode cX9_dips 47 = .ok (.istore 4, 2) := by decide +kernel
theorem dX9_dips_49 : decode cX9_dips 49 = .ok (.iload 4, 2) := by decide +kernel
theorem dX9_dips_51 : decode cX9_dips 51 = .ok (.aload_n 0, 1) := by decide +kernel
theorem dX9_dips_52 : decode cX9_dips 52 = .ok (.getfield 103, 3) := by decide +kernel
theorem dX9_dips_55 : decode cX9_dips 55 = .ok (.if_icmp .ge 71, 3) := by decide +kernel
theorem dX9_dips_58 : decode cX9_dips 58 = .ok (.iload 4, 2) := by decide +kernel
theorem dX9_dips_60 : decode cX9_dips 60 = .ok (.bipush 30, 2) := by decide +kernel
theorem dX9_dips_62 : decode cX9_dips 62 = .ok (.if_icmp .ge 64, 3) := by decide +kernel
theorem dX9_dips_65 : decode cX9_dips 65 = .ok (.aload_n 0, 1) := by decide +kernel
theorem dX9_dips_66 : decode cX9_dips 66 = .ok (.getfield 50, 3) := by decide +kernel
theorem dX9_dips_69 : decode cX9_dips 69 = .ok (.iload 4, 2) := by decide +kernel
theorem dX9_dips_71 : decode cX9_dips 71 = .ok (.iaload, 1) := by decide +kernel
theorem dX9_dips_72 : decode cX9_dips 72 = .ok (.iload_n 1, 1) := by decide +kernel
theorem dX9_dips_73 : decode cX9_dips 73 = .ok (.invokestatic 79, 3) := by decide +kernel
theorem dX9_dips_76 : decode cX9_dips 76 = .ok (.ifCond .ne 21, 3) := by decide +kernel
theorem dX9_dips_79 : decode cX9_dips 79 = .ok (.iload_n 2, 1) := by decide +kernel
theorem dX9_dips_80 : decode cX9_dips 80 = .ok (.ifCond .ne 21, 3) := by decide +kernel
theorem dX9_dips_83 : decode cX9_dips 83 = .ok (.aload_n 0, 1) := by decide +kernel
theorem dX9_dips_84 : decode cX9_dips 84 = .ok (.getfield 47, 3) := by decide +kernel
theorem dX9_dips_87 : decode cX9_dips 87 = .ok (.iload 4, 2) := by decide +kernel
theorem dX9_dips_89 : decode cX9_dips 89 = .ok (.iaload, 1) := by decide +kernel
theorem dX9_dips_90 : decode cX9_dips 90 = .ok (.iload_n 1, 1) := by decide +kernel
theorem dX9_dips_91 : decode cX9_dips 91 = .ok (.invokestatic 79, 3) := by decide +kernel
theorem dX9_dips_94 : decode cX9_dips 94 = .ok (.ifCond .eq 7, 3) := by decide +kernel
theorem dX9_dips_97 : decode cX9_dips 97 = .ok (.iconst 1, 1) := by decide +kernel
theorem dX9_dips_98 : decode cX9_dips 98 = .ok (.goto 4, 3) := by decide +kernel
theorem dX9_dips_101 : decode cX9_dips 101 = .ok (.iconst 0, 1) := by decide +kernel
theorem dX9_dips_102 : decode cX9_dips 102 = .ok (.istore 5, 2) := by decide +kernel
theorem dX9_dips_104 : decode cX9_dips 104 = .ok (.iload_n 3, 1) := by decide +kernel
theorem dX9_dips_105 : decode cX9_dips 105 = .ok (.iload 5, 2) := by decide +kernel
theorem dX9_dips_107 : decode cX9_dips 107 = .ok (.ifCond .eq 10, 3) := by decide +kernel
theorem dX9_dips_110 : decode cX9_dips 110 = .ok (.iconst 1, 1) := by decide +kernel
theorem dX9_dips_111 : decode cX9_dips 111 = .ok (.iload 4, 2) := by decide +kernel
theorem dX9_dips_113 : decode cX9_dips 113 = .ok (.ishl, 1) := by decide +kernel
theorem dX9_dips_114 : decode cX9_dips 114 = .ok (.goto 4, 3) := by decide +kernel
theorem dX9_dips_117 : decode cX9_dips 117 = .ok (.iconst 0, 1) := by decide +kernel
theorem dX9_dips_118 : decode cX9_dips 118 = .ok (.ior, 1) := by decide +kernel
theorem dX9_dips_119 : decode cX9_dips 119 = .ok (.istore_n 3, 1) := by decide +kernel
theorem dX9_dips_120 : decode cX9_dips 120 = .ok (.iinc 4 1, 3) := by decide +kernel
theorem dX9_dips_123 : decode cX9_dips 123 = .ok (.goto (-74), 3) := by decide +kernel
theorem dX9_dips_126 : decode cX9_dips 126 = .ok (.iload_n 3, 1) := by decide +kernel
theorem dX9_dips_127 : decode cX9_dips 127 = .ok (.ireturn, 1) := by decide +kernel
theorem dX9_areAlike_0 : decode cX9_areAlike 0 = .ok (.iconst 1, 1) := by decide +kernel
theorem dX9_areAlike_1 : decode cX9_areAlike 1 = .ok (.istore_n 3, 1) := by decide +kernel
theorem dX9_areAlike_2 : decode cX9_areAlike 2 = .ok (.iconst 0, 1) := by decide +kernel
theorem dX9_areAlike_3 : decode cX9_areAlike 3 = .ok (.istore 4, 2) := by decide +kernel
theorem dX9_areAlike_5 : decode cX9_areAlike 5 = .ok (.iload 4, 2) := by decide +kernel
theorem dX9_areAlike_7 : decode cX9_areAlike 7 = .ok (.aload_n 0, 1) := by decide +kernel
theorem dX9_areAlike_8 : decode cX9_areAlike 8 = .ok (.getfield 103, 3) := by decide +kernel
theorem dX9_areAlike_11 : decode cX9_areAlike 11 = .ok (.if_icmp .ge 51, 3) := by decide +kernel
theorem dX9_areAlike_14 : decode cX9_areAlike 14 = .ok (.aload_n 0, 1) := by decide +kernel
theorem dX9_areAlike_15 : decode cX9_areAlike 15 = .ok (.getfield 47, 3) := by decide +kernel
theorem dX9_areAlike_18 : decode cX9_areAlike 18 = .ok (.iload 4, 2) := by decide +kernel
theorem dX9_areAlike_20 : decode cX9_areAlike 20 = .ok (.iaload, 1) := by decide +kernel
theorem dX9_areAlike_21 : decode cX9_areAlike 21 = .ok (.aload_n 0, 1) := by decide +kernel
theorem dX9_areAlike_22 : decode cX9_areAlike 22 = .ok (.getfield 50, 3) := by decide +kernel
theorem dX9_areAlike_25 : decode cX9_areAlike 25 = .ok (.iload 4, 2) := by decide +kernel
theorem dX9_areAlike_27 : decode cX9_areAlike 27 = .ok (.iaload, 1) := by decide +kernel
theorem dX9_areAlike_28 : decode cX9_areAlike 28 = .ok (.ior, 1) := by decide +kernel
theorem dX9_areAlike_29 : decode cX9_areAlike 29 = .ok (.istore 5, 2) := by decide +kernel
theorem dX9_areAlike_31 : decode cX9_areAlike 31 = .ok (.iload_n 3, 1) := by decide +kernel
theorem dX9_areAlike_32 : decode cX9_areAlike 32 = .ok (.ifCond .eq 22, 3) := by decide +kernel
theorem dX9_areAlike_35 : decode cX9_areAlike 35 = .ok (.iload 5, 2) := by decide +kernel
theorem dX9_areAlike_37 : decode cX9_areAlike 37 = .ok (.iload_n 1, 1) := by decide +kernel
theorem dX9_areAlike_38 : decode cX9_areAlike 38 = .ok (.invokestatic 79, 3) := by decide +kernel
theorem dX9_areAlike_41 : decode cX9_areAlike 41 = .ok (.iload 5, 2) := by decide +kernel
theorem dX9_areAlike_43 : decode cX9_areAlike 43 = .ok (.iload_n 2, 1) := by decide +kernel
theorem dX9_areAlike_44 : decode cX9_areAlike 44 = .ok (.invokestatic 79, 3) := by decide +kernel
theorem dX9_areAlike_47 : decode cX9_areAlike 47 = .ok (.if_icmp .ne 7, 3) := by decide +kernel
theorem dX9_areAlike_50 : decode cX9_areAlike 50 = .ok (.iconst 1, 1) := by decide +kernel
theorem dX9_areAlike_51 : decode cX9_areAlike 51 = .ok (.goto 4, 3) := by decide +kernel
theorem dX9_areAlike_54 : decode cX9_areAlike 54 = .ok (.iconst 0, 1) := by decide +kernel
theorem dX9_areAlike_55 : decode cX9_areAlike 55 = .ok (.istore_n 3, 1) := by decide +kernel
theorem dX9_areAlike_56 : decode cX9_areAlike 56 = .ok (.iinc 4 1, 3) := by decide +kernel
theorem dX9_areAlike_59 : decode cX9_areAlike 59 = .ok (.goto (-54), 3) := by decide +kernel
theorem dX9_areAlike_62 : decode cX9_areAlike 62 = .ok (.iload_n 3, 1) := by decide +kernel
theorem dX9_areAlike_63 : decode cX9_areAlike 63 = .ok (.ireturn, 1) := by decide +kernel
theorem dX9_alike_0 : decode cX9_alike 0 = .ok (.aload_n 0, 1) := by decide +kernel
theorem dX9_alike_1 : decode cX9_alike 1 = .ok (.invokevirtual 109, 3) := by decide +kernel
theorem dX9_alike_4 : decode cX9_alike 4 = .ok (.ifCond .lt 6, 3) := by decide +kernel
theorem dX9_alike_7 : decode cX9_alike 7 = .ok (.bipush (-5), 2) := by decide +kernel
theorem dX9_alike_9 : decode cX9_alike 9 = .ok (.ireturn, 1) := by decide +kernel
theorem dX9_alike_10 : decode cX9_alike 10 = .ok (.aload_n 0, 1) := by decide +kernel
theorem dX9_alike_11 : decode cX9_alike 11 = .ok (.invokevirtual 160, 3) := by decide +kernel
theorem dX9_alike_14 : decode cX9_alike 14 = .ok (.aload_n 0, 1) := by decide +kernel
theorem dX9_alike_15 : decode cX9_alike 15 = .ok (.aload_n 0, 1) := by decide +kernel
theorem dX9_alike_16 : decode cX9_alike 16 = .ok (.getfield 103, 3) := by decide +kernel
theorem dX9_alike_19 : decode cX9_alike 19 = .ok (.invokevirtual 163, 3) := by decide +kernel
theorem dX9_alike_22 : decode cX9_alike 22 = .ok (.iconst 0, 1) := by decide +kernel
theorem dX9_alike_23 : decode cX9_alike 23 = .ok (.istore_n 2, 1) := by decide +kernel
theorem dX9_alike_24 : decode cX9_alike 24 = .ok (.iconst 0, 1) := by decide +kernel
theorem dX9_alike_25 : decode cX9_alike 25 = .ok (.istore_n 3, 1) := by decide +kernel
theorem dX9_alike_26 : decode cX9_alike 26 = .ok (.iload_n 3, 1) := by decide +kernel
theorem dX9_alike_27 : decode cX9_alike 27 = .ok (.bipush 8, 2) := by decide +kernel
theorem dX9_alike_29 : decode cX9_alike 29 = .ok (.if_icmp .ge 76, 3) := by decide +kernel
theorem dX9_alike_32 : decode cX9_alike 32 = .ok (.iload_n 3, 1) := by decide +kernel
theorem dX9_alike_33 : decode cX9_alike 33 = .ok (.iconst 1, 1) := by decide +kernel
theorem dX9_alike_34 : decode cX9_alike 34 = .ok (.iadd, 1) := by decide +kernel
theorem dX9_alike_35 : decode cX9_alike 35 = .ok (.istore 4, 2) := by decide +kernel
theorem dX9_alike_37 : decode cX9_alike 37 = .ok (.iload 4, 2) := by decide +kernel
theorem dX9_alike_39 : decode cX9_alike 39 = .ok (.bipush 8, 2) := by decide +kernel
theorem dX9_alike_41 : decode cX9_alike 41 = .ok (.if_icmp .ge 58, 3) := by decide +kernel
theorem dX9_alike_44 : decode cX9_alike 44 = .ok (.aload_n 0, 1) := by decide +kernel
theorem dX9_alike_45 : decode cX9_alike 45 = .ok (.getfield 72, 3) := by decide +kernel
theorem dX9_alike_48 : decode cX9_alike 48 = .ok (.iload_n 3, 1) := by decide +kernel
theorem dX9_alike_49 : decode cX9_alike 49 = .ok (.invokestatic 79, 3) := by decide +kernel
theorem dX9_alike_52 : decode cX9_alike 52 = .ok (.ifCond .eq 41, 3) := by decide +kernel
theorem dX9_alike_55 : decode cX9_alike 55 = .ok (.aload_n 0, 1) := by decide +kernel
theorem dX9_alike_56 : decode cX9_alike 56 = .ok (.getfield 72, 3) := by decide +kernel
theorem dX9_alike_59 : decode cX9_alike 59 = .ok (.iload 4, 2) := by decide +kernel
theorem dX9_alike_61 : decode cX9_alike 61 = .ok (.invokestatic 79, 3) := by decide +kernel
theorem dX9_alike_64 : decode cX9_alike 64 = .ok (.ifCond .eq 29, 3) := by decide +kernel
theorem dX9_alike_67 : decode cX9_alike 67 = .ok (.aload_n 0, 1) := by decide +kernel
theorem dX9_alike_68 : decode cX9_alike 68 = .ok (.iload_n 3, 1) := by decide +kernel
theorem dX9_alike_69 : decode cX9_alike 69 = .ok (.iload 4, 2) := by decide +kernel
theorem dX9_alike_71 : decode cX9_alike 71 = .ok (.invokevirtual 194, 3) := by decide +kernel
theorem dX9_alike_74 : decode cX9_alike 74 = .ok (.ifCond .eq 19, 3) := by decide +kernel
theorem dX9_alike_77 : decode cX9_alike 77 = .ok (.iload_n 2, 1) := by decide +kernel
theorem dX9_alike_78 : decode cX9_alike 78 = .ok (.iload_n 1, 1) := by decide +kernel
theorem dX9_alike_79 : decode cX9_alike 79 = .ok (.if_icmp .ne 11, 3) := by decide +kernel
theorem dX9_alike_82 : decode cX9_alike 82 = .ok (.bipush 10, 2) := by decide +kernel
theorem dX9_alike_84 : decode cX9_alike 84 = .ok (.iload_n 3, 1) := by decide +kernel
theorem dX9_alike_85 : decode cX9_alike 85 = .ok (.imul, 1) := by decide +kernel
theorem dX9_alike_86 : decode cX9_alike 86 = .ok (.iload 4, 2) := by decide +kernel
theorem dX9_alike_88 : decode cX9_alike 88 = .ok (.iadd, 1) := by decide +kernel
theorem dX9_alike_89 : decode cX9_alike 89 = .ok (.ireturn, 1) := by decide +kernel
theorem dX9_alike_90 : decode cX9_alike 90 = .ok (.iinc 2 1, 3) := by decide +kernel
theorem dX9_alike_93 : decode cX9_alike 93 = .ok (.iinc 4 1, 3) := by decide +kernel
theorem dX9_alike_96 : decode cX9_alike 96 = .ok (.goto (-59), 3) := by decide +kernel
theorem dX9_alike_99 : decode cX9_alike 99 = .ok (.iinc 3 1, 3) := by decide +kernel
theorem dX9_alike_102 : decode cX9_alike 102 = .ok (.goto (-76), 3) := by decide +kernel
theorem dX9_alike_105 : decode cX9_alike 105 = .ok (.iload_n 1, 1) := by decide +kernel
theorem dX9_alike_106 : decode cX9_alike 106 = .ok (.iconst (-1), 1) := by decide +kernel
theorem dX9_alike_107 : decode cX9_alike 107 = .ok (.if_icmp .ne 7, 3) := by decide +kernel
theorem dX9_alike_110 : decode cX9_alike 110 = .ok (.iload_n 2, 1) := by decide +kernel
theorem dX9_alike_111 : decode cX9_alike 111 = .ok (.goto 5, 3) := by decide +kernel
theorem dX9_alike_114 : decode cX9_alike 114 = .ok (.bipush (-6), 2) := by decide +kernel
theorem dX9_alike_116 : decode cX9_alike 116 = .ok (.ireturn, 1) := by decide +kernel
theorem dX9_likes_0 : decode cX9_likes 0 = .ok (.iconst 0, 1) := by decide +kernel
theorem dX9_likes_1 : decode cX9_likes 1 = .ok (.istore_n 3, 1) := by decide +kernel
theorem dX9_likes_2 : decode cX9_likes 2 = .ok (.iconst 0, 1) := by decide +kernel
theorem dX9_likes_3 : decode cX9_likes 3 = .ok (.istore 4, 2) := by decide +kernel
theorem dX9_likes_5 : decode cX9_likes 5 = .ok (.iload 4, 2) := by decide +kernel
theorem dX9_likes_7 : decode cX9_likes 7 = .ok (.bipush 8, 2) := by decide +kernel
theorem dX9_likes_9 : decode cX9_likes 9 = .ok (.if_icmp .ge 46, 3) := by decide +kernel
theorem dX9_likes_12 : decode cX9_likes 12 = .ok (.iload_n 3, 1) := by decide +kernel
theorem dX9_likes_13 : decode cX9_likes 13 = .ok (.aload_n 0, 1) := by decide +kernel
theorem dX9_likes_14 : decode cX9_likes 14 = .ok (.getfield 72, 3) := by decide +kernel
theorem dX9_likes_17 : decode cX9_likes 17 = .ok (.iload 4, 2) := by decide +kernel
theorem dX9_likes_19 : decode cX9_likes 19 = .ok (.invokestatic 79, 3) := by decide +kernel
theorem dX9_likes_22 : decode cX9_likes 22 = .ok (.ifCond .eq 24, 3) := by decide +kernel
theorem dX9_likes_25 : decode cX9_likes 25 = .ok (.iload 4, 2) := by decide +kernel
theorem dX9_likes_27 : decode cX9_likes 27 = .ok (.iload_n 1, 1) := by decide +kernel
theorem dX9_likes_28 : decode cX9_likes 28 = .ok (.if_icmp .eq 18, 3) := by decide +kernel
theorem dX9_likes_31 : decode cX9_likes 31 = .ok (.aload_n 0, 1) := by decide +kernel
theorem dX9_likes_32 : decode cX9_likes 32 = .ok (.getfield 62, 3) := by decide +kernel
theorem dX9_likes_35 : decode cX9_likes 35 = .ok (.iload 4, 2) := by decide +kernel
theorem dX9_likes_37 : decode cX9_likes 37 = .ok (.iaload, 1) := by decide +kernel
theorem dX9_likes_38 : decode cX9_likes 38 = .ok (.iload_n 2, 1) := by decide +kernel
theorem dX9_likes_39 : decode cX9_likes 39 = .ok (.if_icmp .ne 7, 3) := by decide +kernel
theorem dX9_likes_42 : decode cX9_likes 42 = .ok (.iconst 1, 1) := by decide +kernel
theorem dX9_likes_43 : decode cX9_likes 43 = .ok (.goto 4, 3) := by decide +kernel
theorem dX9_likes_46 : decode cX9_likes 46 = .ok (.iconst 0, 1) := by decide +kernel
theorem dX9_likes_47 : decode cX9_likes 47 = .ok (.iadd, 1) := by decide +kernel
theorem dX9_likes_48 : decode cX9_likes 48 = .ok (.istore_n 3, 1) := by decide +kernel
theorem dX9_likes_49 : decode cX9_likes 49 = .ok (.iinc 4 1, 3) := by decide +kernel
theorem dX9_likes_52 : decode cX9_likes 52 = .ok (.goto (-47), 3) := by decide +kernel
theorem dX9_likes_55 : decode cX9_likes 55 = .ok (.iconst 2, 1) := by decide +kernel
theorem dX9_likes_56 : decode cX9_likes 56 = .ok (.aload_n 0, 1) := by decide +kernel
theorem dX9_likes_57 : decode cX9_likes 57 = .ok (.getfield 23, 3) := by decide +kernel
theorem dX9_likes_60 : decode cX9_likes 60 = .ok (.iload_n 1, 1) := by decide +kernel
theorem dX9_likes_61 : decode cX9_likes 61 = .ok (.iaload, 1) := by decide +kernel
theorem dX9_likes_62 : decode cX9_likes 62 = .ok (.ifCond .ne 7, 3) := by decide +kernel
theorem dX9_likes_65 : decode cX9_likes 65 = .ok (.iload_n 2, 1) := by decide +kernel
theorem dX9_likes_66 : decode cX9_likes 66 = .ok (.goto 6, 3) := by decide +kernel
theorem dX9_likes_69 : decode cX9_likes 69 = .ok (.iconst 2, 1) := by decide +kernel
theorem dX9_likes_70 : decode cX9_likes 70 = .ok (.iload_n 2, 1) := by decide +kernel
theorem dX9_likes_71 : decode cX9_likes 71 = .ok (.isub, 1) := by decide +kernel
theorem dX9_likes_72 : decode cX9_likes 72 = .ok (.imul, 1) := by decide +kernel
theorem dX9_likes_73 : decode cX9_likes 73 = .ok (.iload_n 3, 1) := by decide +kernel
theorem dX9_likes_74 : decode cX9_likes 74 = .ok (.isub, 1) := by decide +kernel
theorem dX9_likes_75 : decode cX9_likes 75 = .ok (.ireturn, 1) := by decide +kernel
theorem dX9_parishes_0 : decode cX9_parishes 0 = .ok (.iload_n 1, 1) := by decide +kernel
theorem dX9_parishes_1 : decode cX9_parishes 1 = .ok (.iconst (-1), 1) := by decide +kernel
theorem dX9_parishes_2 : decode cX9_parishes 2 = .ok (.iconst 2, 1) := by decide +kernel
theorem dX9_parishes_3 : decode cX9_parishes 3 = .ok (.invokestatic 75, 3) := by decide +kernel
theorem dX9_parishes_6 : decode cX9_parishes 6 = .ok (.ifCond .ne 6, 3) := by decide +kernel
theorem dX9_parishes_9 : decode cX9_parishes 9 = .ok (.bipush (-2), 2) := by decide +kernel
theorem dX9_parishes_11 : decode cX9_parishes 11 = .ok (.ireturn, 1) := by decide +kernel
theorem dX9_parishes_12 : decode cX9_parishes 12 = .ok (.iconst 0, 1) := by decide +kernel
theorem dX9_parishes_13 : decode cX9_parishes 13 = .ok (.istore_n 2, 1) := by decide +kernel
theorem dX9_parishes_14 : decode cX9_parishes 14 = .ok (.iload_n 2, 1) := by decide +kernel
theorem dX9_parishes_15 : decode cX9_parishes 15 = .ok (.bipush 8, 2) := by decide +kernel
theorem dX9_parishes_17 : decode cX9_parishes 17 = .ok (.if_icmp .ge 16, 3) := by decide +kernel
theorem dX9_parishes_20 : decode cX9_parishes 20 = .ok (.aload_n 0, 1) := by decide +kernel
theorem dX9_parishes_21 : decode cX9_parishes 21 = .ok (.getfield 62, 3) := by decide +kernel
theorem dX9_parishes_24 : decode cX9_parishes 24 = .ok (.iload_n 2, 1) := by decide +kernel
theorem dX9_parishes_25 : decode cX9_parishes 25 = .ok (.iconst 0, 1) := by decide +kernel
theorem dX9_parishes_26 : decode cX9_parishes 26 = .ok (.iastore, 1) := by decide +kernel
theorem dX9_parishes_27 : decode cX9_parishes 27 = .ok (.iinc 2 1, 3) := by decide +kernel
theorem dX9_parishes_30 : decode cX9_parishes 30 = .ok (.goto (-16), 3) := by decide +kernel
theorem dX9_parishes_33 : decode cX9_parishes 33 = .ok (.iconst 0, 1) := by decide +kernel
theorem dX9_parishes_34 : decode cX9_parishes 34 = .ok (.istore_n 2, 1) := by decide +kernel
theorem dX9_parishes_35 : decode cX9_parishes 35 = .ok (.iconst 1, 1) := by decide +kernel
theorem dX9_parishes_36 : decode cX9_parishes 36 = .ok (.istore_n 3, 1) := by decide +kernel
theorem dX9_parishes_37 : decode cX9_parishes 37 = .ok (.iload_n 3, 1) := by decide +kernel
theorem dX9_parishes_38 : decode cX9_parishes 38 = .ok (.ifCond .eq 135, 3) := by decide +kernel
theorem dX9_parishes_41 : decode cX9_parishes 41 = .ok (.iload_n 2, 1) := by decide +kernel
theorem dX9_parishes_42 : decode cX9_parishes 42 = .ok (.bipush 99, 2) := by decide +kernel
theorem dX9_parishes_44 : decode cX9_parishes 44 = .ok (.if_icmp .ge 129, 3) := by decide +kernel
theorem dX9_parishes_47 : decode cX9_parishes 47 = .ok (.iconst 0, 1) := by decide +kernel
theorem dX9_parishes_48 : decode cX9_parishes 48 = .ok (.istore_n 3, 1) := by decide +kernel
theorem dX9_parishes_49 : decode cX9_parishes 49 = .ok (.iconst 0, 1) := by decide +kernel
theorem dX9_parishes_50 : decode cX9_parishes 50 = .ok (.istore 4, 2) := by decide +kernel
theorem dX9_parishes_52 : decode cX9_parishes 52 = .ok (.iload 4, 2) := by decide +kernel
theorem dX9_parishes_54 : decode cX9_parishes 54 = .ok (.bipush 8, 2) := by decide +kernel
theorem dX9_parishes_56 : decode cX9_parishes 56 = .ok (.if_icmp .ge 111, 3) := by decide +kernel
theorem dX9_parishes_59 : decode cX9_parishes 59 = .ok (.aload_n 0, 1) := by decide +kernel
theorem dX9_parishes_60 : decode cX9_parishes 60 = .ok (.getfield 72, 3) := by decide +kernel
theorem dX9_parishes_63 : decode cX9_parishes 63 = .ok (.iload 4, 2) := by decide +kernel
theorem dX9_parishes_65 : decode cX9_parishes 65 = .ok (.invokestatic 79, 3) := by decide +kernel
theorem dX9_parishes_68 : decode cX9_parishes 68 = .ok (.ifCond .eq 93, 3) := by decide +kernel
theorem dX9_parishes_71 : decode cX9_parishes 71 = .ok (.aload_n 0, 1) := by decide +kernel
theorem dX9_parishes_72 : decode cX9_parishes 72 = .ok (.getfield 62, 3) := by decide +kernel
theorem dX9_parishes_75 : decode cX9_parishes 75 = .ok (.iload 4, 2) := by decide +kernel
theorem dX9_parishes_77 : decode cX9_parishes 77 = .ok (.iaload, 1) := by decide +kernel
theorem dX9_parishes_78 : decode cX9_parishes 78 = .ok (.istore 5, 2) := by decide +kernel
theorem dX9_parishes_80 : decode cX9_parishes 80 = .ok (.aload_n 0, 1) := by decide +kernel
theorem dX9_parishes_81 : decode cX9_parishes 81 = .ok (.iload 4, 2) := by decide +kernel
theorem dX9_parishes_83 : decode cX9_parishes 83 = .ok (.iload 5, 2) := by decide +kernel
theorem dX9_parishes_85 : decode cX9_parishes 85 = .ok (.invokevirtual 197, 3) := by decide +kernel
theorem dX9_parishes_88 : decode cX9_parishes 88 = .ok (.istore 6, 2) := by decide +kernel
theorem dX9_parishes_90 : decode cX9_parishes 90 = .ok (.iconst 0, 1) := by decide +kernel
theorem dX9_parishes_91 : decode cX9_parishes 91 = .ok (.istore 7, 2) := by decide +kernel
theorem dX9_parishes_93 : decode cX9_parishes 93 = .ok (.iload 7, 2) := by decide +kernel
theorem dX9_parishes_95 : decode cX9_parishes 95 = .ok (.iconst 3, 1) := by decide +kernel
theorem dX9_parishes_96 : decode cX9_parishes 96 = .ok (.if_icmp .ge 34, 3) := by decide +kernel
theorem dX9_parishes_99 : decode cX9_parishes 99 = .ok (.aload_n 0, 1) := by decide +kernel
theorem dX9_parishes_100 : decode cX9_parishes 100 = .ok (.iload 4, 2) := by decide +kernel
theorem dX9_parishes_102 : decode cX9_parishes 102 = .ok (.iload 7, 2) := by decide +kernel
theorem dX9_parishes_104 : decode cX9_parishes 104 = .ok (.invokevirtual 197, 3) := by decide +kernel
theorem dX9_parishes_107 : decode cX9_parishes 107 = .ok (.istore 8, 2) := by decide +kernel
theorem dX9_parishes_109 : decode cX9_parishes 109 = .ok (.iload 8, 2) := by decide +kernel
theorem dX9_parishes_111 : decode cX9_parishes 111 = .ok (.iload 6, 2) := by decide +kernel
theorem dX9_parishes_113 : decode cX9_parishes 113 = .ok (.if_icmp .le 11, 3) := by decide +kernel
theorem dX9_parishes_116 : decode cX9_parishes 116 = .ok (.iload 7, 2) := by decide +kernel
theorem dX9_parishes_118 : decode cX9_parishes 118 = .ok (.istore 5, 2) := by decide +kernel
theorem dX9_parishes_120 : decode cX9_parishes 120 = .ok (.iload 8, 2) := by decide +kernel
theorem dX9_parishes_122 : decode cX9_parishes 122 = .ok (.istore 6, 2) := by decide +kernel
theorem dX9_parishes_124 : decode cX9_parishes 124 = .ok (.iinc 7 1, 3) := by decide +kernel
theorem dX9_parishes_127 : decode cX9_parishes 127 = .ok (.goto (-34), 3) := by decide +kernel
theorem dX9_parishes_130 : decode cX9_parishes 130 = .ok (.iload_n 3, 1) := by decide +kernel
theorem dX9_parishes_131 : decode cX9_parishes 131 = .ok (.ifCond .ne 15, 3) := by decide +kernel
theorem dX9_parishes_134 : decode cX9_parishes 134 = .ok (.iload 5, 2) := by decide +kernel
theorem dX9_parishes_136 : decode cX9_parishes 136 = .ok (.aload_n 0, 1) := by decide +kernel
theorem dX9_parishes_137 : decode cX9_parishes 137 = .ok (.getfield 62, 3) := by decide +kernel
theorem dX9_parishes_140 : decode cX9_parishes 140 = .ok (.iload 4, 2) := by decide +kernel
theorem dX9_parishes_142 : decode cX9_parishes 142 = .ok (.iaload, 1) := by decide +kernel
theorem dX9_parishes_143 : decode cX9_parishes 143 = .ok (.if_icmp .eq 7, 3) := by decide +kernel
theorem dX9_parishes_146 : decode cX9_parishes 146 = .ok (.iconst 1, 1) := by decide +kernel
theorem dX9_parishes_147 : decode cX9_parishes 147 = .ok (.goto 4, 3) := by decide +kernel
theorem dX9_parishes_150 : decode cX9_parishes 150 = .ok (.iconst 0, 1) := by decide +kernel
theorem dX9_parishes_151 : decode cX9_parishes 151 = .ok (.istore_n 3, 1) := by decide +kernel
theorem dX9_parishes_152 : decode cX9_parishes 152 = .ok (.aload_n 0, 1) := by decide +kernel
theorem dX9_parishes_153 : decode cX9_parishes 153 = .ok (.getfield 62, 3) := by decide +kernel
theorem dX9_parishes_156 : decode cX9_parishes 156 = .ok (.iload 4, 2) := by decide +kernel
theorem dX9_parishes_158 : decode cX9_parishes 158 = .ok (.iload 5, 2) := by decide +kernel
theorem dX9_parishes_160 : decode cX9_parishes 160 = .ok (.iastore, 1) := by decide +kernel
theorem dX9_parishes_161 : decode cX9_parishes 161 = .ok (.iinc 4 1, 3) := by decide +kernel
theorem dX9_parishes_164 : decode cX9_parishes 164 = .ok (.goto (-112), 3) := by decide +kernel
theorem dX9_parishes_167 : decode cX9_parishes 167 = .ok (.iinc 2 1, 3) := by decide +kernel
theorem dX9_parishes_170 : decode cX9_parishes 170 = .ok (.goto (-133), 3) := by decide +kernel
theorem dX9_parishes_173 : decode cX9_parishes 173 = .ok (.iconst 0, 1) := by decide +kernel
theorem dX9_parishes_174 : decode cX9_parishes 174 = .ok (.istore 4, 2) := by decide +kernel
theorem dX9_parishes_176 : decode cX9_parishes 176 = .ok (.iconst 0, 1) := by decide +kernel
theorem dX9_parishes_177 : decode cX9_parishes 177 = .ok (.istore 5, 2) := by decide +kernel
theorem dX9_parishes_179 : decode cX9_parishes 179 = .ok (.iload 5, 2) := by decide +kernel
theorem dX9_parishes_181 : decode cX9_parishes 181 = .ok (.bipush 8, 2) := by decide +kernel
theorem dX9_parishes_183 : decode cX9_parishes 183 = .ok (.if_icmp .ge 42, 3) := by decide +kernel
theorem dX9_parishes_186 : decode cX9_parishes 186 = .ok (.iload 4, 2) := by decide +kernel
theorem dX9_parishes_188 : decode cX9_parishes 188 = .ok (.aload_n 0, 1) := by decide +kernel
theorem dX9_parishes_189 : decode cX9_parishes 189 = .ok (.getfield 72, 3) := by decide +kernel
theorem dX9_parishes_192 : decode cX9_parishes 192 = .ok (.iload 5, 2) := by decide +kernel
theorem dX9_parishes_194 : decode cX9_parishes 194 = .ok (.invokestatic 79, 3) := by decide +kernel
theorem dX9_parishes_197 : decode cX9_parishes 197 = .ok (.ifCond .eq 18, 3) := by decide +kernel
theorem dX9_parishes_200 : decode cX9_parishes 200 = .ok (.aload_n 0, 1) := by decide +kernel
theorem dX9_parishes_201 : decode cX9_parishes 201 = .ok (.getfield 62, 3) := by decide +kernel
theorem dX9_parishes_204 : decode cX9_parishes 204 = .ok (.iload 5, 2) := by decide +kernel
theorem dX9_parishes_206 : decode cX9_parishes 206 = .ok (.iaload, 1) := by decide +kernel
theorem dX9_parishes_207 : decode cX9_parishes 207 = .ok (.iload_n 1, 1) := by decide +kernel
theorem dX9_parishes_208 : decode cX9_parishes 208 = .ok (.if_icmp .ne 7, 3) := by decide +kernel
theorem dX9_parishes_211 : decode cX9_parishes 211 = .ok (.iconst 1, 1) := by decide +kernel
theorem dX9_parishes_212 : decode cX9_parishes 212 = .ok (.goto 4, 3) := by decide +kernel
theorem dX9_parishes_215 : decode cX9_parishes 215 = .ok (.iconst 0, 1) := by decide +kernel
theorem dX9_parishes_216 : decode cX9_parishes 216 = .ok (.iadd, 1) := by decide +kernel
theorem dX9_parishes_217 : decode cX9_parishes 217 = .ok (.istore 4, 2) := by decide +kernel
theorem dX9_parishes_219 : decode cX9_parishes 219 = .ok (.iinc 5 1, 3) := by decide +kernel
theorem dX9_parishes_222 : decode cX9_parishes 222 = .ok (.goto (-43), 3) := by decide +kernel
theorem dX9_parishes_225 : decode cX9_parishes 225 = .ok (.iload_n 1, 1) := by decide +kernel
theorem dX9_parishes_226 : decode cX9_parishes 226 = .ok (.ifCond .lt 8, 3) := by decide +kernel
theorem dX9_parishes_229 : decode cX9_parishes 229 = .ok (.iload 4, 2) := by decide +kernel
theorem dX9_parishes_231 : decode cX9_parishes 231 = .ok (.goto 13, 3) := by decide +kernel
theorem dX9_parishes_234 : decode cX9_parishes 234 = .ok (.iload_n 3, 1) := by decide +kernel
theorem dX9_parishes_235 : decode cX9_parishes 235 = .ok (.ifCond .eq 8, 3) := by decide +kernel
theorem dX9_parishes_238 : decode cX9_parishes 238 = .ok (.bipush (-6), 2) := by decide +kernel
theorem dX9_parishes_240 : decode cX9_parishes 240 = .ok (.goto 4, 3) := by decide +kernel
theorem dX9_parishes_243 : decode cX9_parishes 243 = .ok (.iload_n 2, 1) := by decide +kernel
theorem dX9_parishes_244 : decode cX9_parishes 244 = .ok (.ireturn, 1) := by decide +kernel
theorem dX9_cold_0 : decode cX9_cold 0 = .ok (.iload_n 1, 1) := by decide +kernel
theorem dX9_cold_1 : decode cX9_cold 1 = .ok (.iconst 0, 1) := by decide +kernel
theorem dX9_cold_2 : decode cX9_cold 2 = .ok (.bipush 10, 2) := by decide +kernel
theorem dX9_cold_4 : decode cX9_cold 4 = .ok (.invokestatic 75, 3) := by decide +kernel
theorem dX9_cold_7 : decode cX9_cold 7 = .ok (.ifCond .eq 21, 3) := by decide +kernel
theorem dX9_cold_10 : decode cX9_cold 10 = .ok (.iload_n 2, 1) := by decide +kernel
theorem dX9_cold_11 : decode cX9_cold 11 = .ok (.iconst 0, 1) := by decide +kernel
theorem dX9_cold_12 : decode cX9_cold 12 = .ok (.iconst 1, 1) := by decide +kernel
theorem dX9_cold_13 : decode cX9_cold 13 = .ok (.invokestatic 75, 3) := by decide +kernel
theorem dX9_cold_16 : decode cX9_cold 16 = .ok (.ifCond .eq 12, 3) := by decide +kernel
theorem dX9_cold_19 : decode cX9_cold 19 = .ok (.iload_n 3, 1) := by decide +kernel
theorem dX9_cold_20 : decode cX9_cold 20 = .ok (.iconst 0, 1) := by decide +kernel
theorem dX9_cold_21 : decode cX9_cold 21 = .ok (.iconst 1, 1) := by decide +kernel
theorem dX9_cold_22 : decode cX9_cold 22 = .ok (.invokestatic 75, 3) := by decide +kernel
theorem dX9_cold_25 : decode cX9_cold 25 = .ok (.ifCond .ne 7, 3) := by decide +kernel
theorem dX9_cold_28 : decode cX9_cold 28 = .ok (.ldc2_w 200, 3) := by decide +kernel
theorem dX9_cold_31 : decode cX9_cold 31 = .ok (.lreturn, 1) := by decide +kernel
theorem dX9_cold_32 : decode cX9_cold 32 = .ok (.aload_n 0, 1) := by decide +kernel
theorem dX9_cold_33 : decode cX9_cold 33 = .ok (.invokevirtual 109, 3) := by decide +kernel
theorem dX9_cold_36 : decode cX9_cold 36 = .ok (.ifCond .lt 7, 3) := by decide +kernel
theorem dX9_cold_39 : decode cX9_cold 39 = .ok (.ldc2_w 202, 3) := by decide +kernel
theorem dX9_cold_42 : decode cX9_cold 42 = .ok (.lreturn, 1) := by decide +kernel
theorem dX9_cold_43 : decode cX9_cold 43 = .ok (.aload_n 0, 1) := by decide +kernel
theorem dX9_cold_44 : decode cX9_cold 44 = .ok (.getfield 103, 3) := by decide +kernel
theorem dX9_cold_47 : decode cX9_cold 47 = .ok (.bipush 10, 2) := by decide +kernel
theorem dX9_cold_49 : decode cX9_cold 49 = .ok (.if_icmp .le 7, 3) := by decide +kernel
theorem dX9_cold_52 : decode cX9_cold 52 = .ok (.ldc2_w 204, 3) := by decide +kernel
theorem dX9_cold_55 : decode cX9_cold 55 = .ok (.lreturn, 1) := by decide +kernel
theorem dX9_cold_56 : decode cX9_cold 56 = .ok (.lconst 0, 1) := by decide +kernel
theorem dX9_cold_57 : decode cX9_cold 57 = .ok (.lstore 4, 2) := by decide +kernel
theorem dX9_cold_59 : decode cX9_cold 59 = .ok (.lconst 1, 1) := by decide +kernel
theorem dX9_cold_60 : decode cX9_cold 60 = .ok (.lstore 6, 2) := by decide +kernel
theorem dX9_cold_62 : decode cX9_cold 62 = .ok (.iconst 0, 1) := by decide +kernel
theorem dX9_cold_63 : decode cX9_cold 63 = .ok (.istore 8, 2) := by decide +kernel
theorem dX9_cold_65 : decode cX9_cold 65 = .ok (.iload 8, 2) := by decide +kernel
theorem dX9_cold_67 : decode cX9_cold 67 = .ok (.aload_n 0, 1) := by decide +kernel
theorem dX9_cold_68 : decode cX9_cold 68 = .ok (.getfield 103, 3) := by decide +kernel
theorem dX9_cold_71 : decode cX9_cold 71 = .ok (.if_icmp .ge 17, 3) := by decide +kernel
theorem dX9_cold_74 : decode cX9_cold 74 = .ok (.lload 6, 2) := by decide +kernel
theorem dX9_cold_76 : decode cX9_cold 76 = .ok (.ldc2_w 206, 3) := by decide +kernel
theorem dX9_cold_79 : decode cX9_cold 79 = .ok (.lmul, 1) := by decide +kernel
theorem dX9_cold_80 : decode cX9_cold 80 = .ok (.lstore 6, 2) := by decide +kernel
theorem dX9_cold_82 : decode cX9_cold 82 = .ok (.iinc 8 1, 3) := by decide +kernel
theorem dX9_cold_85 : decode cX9_cold 85 = .ok (.goto (-20), 3) := by decide +kernel
theorem dX9_cold_88 : decode cX9_cold 88 = .ok (.iconst 0, 1) := by decide +kernel
theorem dX9_cold_89 : decode cX9_cold 89 = .ok (.istore 8, 2) := by decide +kernel
theorem dX9_cold_91 : decode cX9_cold 91 = .ok (.iload 8, 2) := by decide +kernel
theorem dX9_cold_93 : decode cX9_cold 93 = .ok (.iconst 1, 1) := by decide +kernel
theorem dX9_cold_94 : decode cX9_cold 94 = .ok (.aload_n 0, 1) := by decide +kernel
theorem dX9_cold_95 : decode cX9_cold 95 = .ok (.getfield 103, 3) := by decide +kernel
theorem dX9_cold_98 : decode cX9_cold 98 = .ok (.ishl, 1) := by decide +kernel
theorem dX9_cold_99 : decode cX9_cold 99 = .ok (.if_icmp .ge 106, 3) := by decide +kernel
theorem dX9_cold_102 : decode cX9_cold 102 = .ok (.lconst 1, 1) := by decide +kernel
theorem dX9_cold_103 : decode cX9_cold 103 = .ok (.lstore 9, 2) := by decide +kernel
theorem dX9_cold_105 : decode cX9_cold 105 = .ok (.iconst 0, 1) := by decide +kernel
theorem dX9_cold_106 : decode cX9_cold 106 = .ok (.istore 11, 2) := by decide +kernel
theorem dX9_cold_108 : decode cX9_cold 108 = .ok (.iload 11, 2) := by decide +kernel
theorem dX9_cold_110 : decode cX9_cold 110 = .ok (.aload_n 0, 1) := by decide +kernel
theorem dX9_cold_111 : decode cX9_cold 111 = .ok (.getfield 103, 3) := by decide +kernel
theorem dX9_cold_114 : decode cX9_cold 114 = .ok (.if_icmp .ge 34, 3) := by decide +kernel
theorem dX9_cold_117 : decode cX9_cold 117 = .ok (.lload 9, 2) := by decide +kernel
theorem dX9_cold_119 : decode cX9_cold 119 = .ok (.iload 8, 2) := by decide +kernel
theorem dX9_cold_121 : decode cX9_cold 121 = .ok (.iload 11, 2) := by decide +kernel
theorem dX9_cold_123 : decode cX9_cold 123 = .ok (.invokestatic 79, 3) := by decide +kernel
theorem dX9_cold_126 : decode cX9_cold 126 = .ok (.ifCond .eq 8, 3) := by decide +kernel
theorem dX9_cold_129 : decode cX9_cold 129 = .ok (.iload_n 1, 1) := by decide +kernel
theorem dX9_cold_130 : decode cX9_cold 130 = .ok (.i2l, 1) := by decide +kernel
theorem dX9_cold_131 : decode cX9_cold 131 = .ok (.goto 8, 3) := by decide +kernel
theorem dX9_cold_134 : decode cX9_cold 134 = .ok (.bipush 10, 2) := by decide +kernel
theorem dX9_cold_136 : decode cX9_cold 136 = .ok (.iload_n 1, 1) := by decide +kernel
theorem dX9_cold_137 : decode cX9_cold 137 = .ok (.isub, 1) := by decide +kernel
theorem dX9_cold_138 : decode cX9_cold 138 = .ok (.i2l, 1) := by decide +kernel
theorem dX9_cold_139 : decode cX9_cold 139 = .ok (.lmul, 1) := by decide +kernel
theorem dX9_cold_140 : decode cX9_cold 140 = .ok (.lstore 9, 2) := by decide +kernel
theorem dX9_cold_142 : decode cX9_cold 142 = .ok (.iinc 11 1, 3) := by decide +kernel
theorem dX9_cold_145 : decode cX9_cold 145 = .ok (.goto (-37), 3) := by decide +kernel
theorem dX9_cold_148 : decode cX9_cold 148 = .ok (.aload_n 0, 1) := by decide +kernel
theorem dX9_cold_149 : decode cX9_cold 149 = .ok (.invokevirtual 160, 3) := by decide +kernel
theorem dX9_cold_152 : decode cX9_cold 152 = .ok (.aload_n 0, 1) := by decide +kernel
theorem dX9_cold_153 : decode cX9_cold 153 = .ok (.iload 8, 2) := by decide +kernel
theorem dX9_cold_155 : decode cX9_cold 155 = .ok (.putfield 122, 3) := by decide +kernel
theorem dX9_cold_158 : decode cX9_cold 158 = .ok (.aload_n 0, 1) := by decide +kernel
theorem dX9_cold_159 : decode cX9_cold 159 = .ok (.aload_n 0, 1) := by decide +kernel
theorem dX9_cold_160 : decode cX9_cold 160 = .ok (.getfield 103, 3) := by decide +kernel
theorem dX9_cold_163 : decode cX9_cold 163 = .ok (.invokevirtual 163, 3) := by decide +kernel
theorem dX9_cold_166 : decode cX9_cold 166 = .ok (.lload 4, 2) := by decide +kernel
theorem dX9_cold_168 : decode cX9_cold 168 = .ok (.iload_n 2, 1) := by decide +kernel
theorem dX9_cold_169 : decode cX9_cold 169 = .ok (.ifCond .ne 19, 3) := by decide +kernel
theorem dX9_cold_172 : decode cX9_cold 172 = .ok (.aload_n 0, 1) := by decide +kernel
theorem dX9_cold_173 : decode cX9_cold 173 = .ok (.getfield 141, 3) := by decide +kernel
theorem dX9_cold_176 : decode cX9_cold 176 = .ok (.ifCond .ne 8, 3) := by decide +kernel
theorem dX9_cold_179 : decode cX9_cold 179 = .ok (.lload 9, 2) := by decide +kernel
theorem dX9_cold_181 : decode cX9_cold 181 = .ok (.goto 15, 3) := by decide +kernel
theorem dX9_cold_184 : decode cX9_cold 184 = .ok (.lconst 0, 1) := by decide +kernel
theorem dX9_cold_185 : decode cX9_cold 185 = .ok (.goto 11, 3) := by decide +kernel
theorem dX9_cold_188 : decode cX9_cold 188 = .ok (.lload 9, 2) := by decide +kernel
theorem dX9_cold_190 : decode cX9_cold 190 = .ok (.aload_n 0, 1) := by decide +kernel
theorem dX9_cold_191 : decode cX9_cold 191 = .ok (.getfield 141, 3) := by decide +kernel
theorem dX9_cold_194 : decode cX9_cold 194 = .ok (.i2l, 1) := by decide +kernel
theorem dX9_cold_195 : decode cX9_cold 195 = .ok (.lmul, 1) := by decide +kernel
theorem dX9_cold_196 : decode cX9_cold 196 = .ok (.ladd, 1) := by decide +kernel
theorem dX9_cold_197 : decode cX9_cold 197 = .ok (.lstore 4, 2) := by decide +kernel
theorem dX9_cold_199 : decode cX9_cold 199 = .ok (.iinc 8 1, 3) := by decide +kernel
theorem dX9_cold_202 : decode cX9_cold 202 = .ok (.goto (-111), 3) := by decide +kernel
theorem dX9_cold_205 : decode cX9_cold 205 = .ok (.lload 4, 2) := by decide +kernel
theorem dX9_cold_207 : decode cX9_cold 207 = .ok (.lstore 8, 2) := by decide +kernel
theorem dX9_cold_209 : decode cX9_cold 209 = .ok (.lload 6, 2) := by decide +kernel
theorem dX9_cold_211 : decode cX9_cold 211 = .ok (.lstore 10, 2) := by decide +kernel
theorem dX9_cold_213 : decode cX9_cold 213 = .ok (.lload 10, 2) := by decide +kernel
theorem dX9_cold_215 : decode cX9_cold 215 = .ok (.lconst 0, 1) := by decide +kernel
theorem dX9_cold_216 : decode cX9_cold 216 = .ok (.lcmp, 1) := by decide +kernel
theorem dX9_cold_217 : decode cX9_cold 217 = .ok (.ifCond .eq 21, 3) := by decide +kernel
theorem dX9_cold_220 : decode cX9_cold 220 = .ok (.lload 8, 2) := by decide +kernel
theorem dX9_cold_222 : decode cX9_cold 222 = .ok (.lload 10, 2) := by decide +kernel
theorem dX9_cold_224 : decode cX9_cold 224 = .ok (.lrem, 1) := by decide +kernel
theorem dX9_cold_225 : decode cX9_cold 225 = .ok (.lstore 12, 2) := by decide +kernel
theorem dX9_cold_227 : decode cX9_cold 227 = .ok (.lload 10, 2) := by decide +kernel
theorem dX9_cold_229 : decode cX9_cold 229 = .ok (.lstore 8, 2) := by decide +kernel
theorem dX9_cold_231 : decode cX9_cold 231 = .ok (.lload 12, 2) := by decide +kernel
theorem dX9_cold_233 : decode cX9_cold 233 = .ok (.lstore 10, 2) := by decide +kernel
theorem dX9_cold_235 : decode cX9_cold 235 = .ok (.goto (-22), 3) := by decide +kernel
theorem dX9_cold_238 : decode cX9_cold 238 = .ok (.iload_n 3, 1) := by decide +kernel
theorem dX9_cold_239 : decode cX9_cold 239 = .ok (.ifCond .ne 11, 3) := by decide +kernel
theorem dX9_cold_242 : decode cX9_cold 242 = .ok (.lload 4, 2) := by decide +kernel
theorem dX9_cold_244 : decode cX9_cold 244 = .ok (.lload 8, 2) := by decide +kernel
theorem dX9_cold_246 : decode cX9_cold 246 = .ok (.ldiv, 1) := by decide +kernel
theorem dX9_cold_247 : decode cX9_cold 247 = .ok (.goto 8, 3) := by decide +kernel
theorem dX9_cold_250 : decode cX9_cold 250 = .ok (.lload 6, 2) := by decide +kernel
theorem dX9_cold_252 : decode cX9_cold 252 = .ok (.lload 8, 2) := by decide +kernel
theorem dX9_cold_254 : decode cX9_cold 254 = .ok (.ldiv, 1) := by decide +kernel
theorem dX9_cold_255 : decode cX9_cold 255 = .ok (.lreturn, 1) := by decide +kernel
theorem dX9_signAt_0 : decode cX9_signAt 0 = .ok (.iload_n 0, 1) := by decide +kernel
theorem dX9_signAt_1 : decode cX9_signAt 1 = .ok (.ifCond .ne 8, 3) := by decide +kernel
theorem dX9_signAt_4 : decode cX9_signAt 4 = .ok (.bipush 119, 2) := by decide +kernel
theorem dX9_signAt_6 : decode cX9_signAt 6 = .ok (.goto 55, 3) := by decide +kernel
theorem dX9_signAt_9 : decode cX9_signAt 9 = .ok (.iload_n 0, 1) := by decide +kernel
theorem dX9_signAt_10 : decode cX9_signAt 10 = .ok (.iconst 1, 1) := by decide +kernel
theorem dX9_signAt_11 : decode cX9_signAt 11 = .ok (.if_icmp .ne 8, 3) := by decide +kernel
theorem dX9_signAt_14 : decode cX9_signAt 14 = .ok (.bipush 104, 2) := by decide +kernel
theorem dX9_signAt_16 : decode cX9_signAt 16 = .ok (.goto 45, 3) := by decide +kernel
theorem dX9_signAt_19 : decode cX9_signAt 19 = .ok (.iload_n 0, 1) := by decide +kernel
theorem dX9_signAt_20 : decode cX9_signAt 20 = .ok (.iconst 2, 1) := by decide +kernel
theorem dX9_signAt_21 : decode cX9_signAt 21 = .ok (.if_icmp .ne 8, 3) := by decide +kernel
theorem dX9_signAt_24 : decode cX9_signAt 24 = .ok (.bipush 111, 2) := by decide +kernel
theorem dX9_signAt_26 : decode cX9_signAt 26 = .ok (.goto 35, 3) := by decide +kernel
theorem dX9_signAt_29 : decode cX9_signAt 29 = .ok (.iload_n 0, 1) := by decide +kernel
theorem dX9_signAt_30 : decode cX9_signAt 30 = .ok (.iconst 3, 1) := by decide +kernel
theorem dX9_signAt_31 : decode cX9_signAt 31 = .ok (.if_icmp .ne 8, 3) := by decide +kernel
theorem dX9_signAt_34 : decode cX9_signAt 34 = .ok (.bipush 110, 2) := by decide +kernel
theorem dX9_signAt_36 : decode cX9_signAt 36 = .ok (.goto 25, 3) := by decide +kernel
theorem dX9_signAt_39 : decode cX9_signAt 39 = .ok (.iload_n 0, 1) := by decide +kernel
theorem dX9_signAt_40 : decode cX9_signAt 40 = .ok (.iconst 4, 1) := by decide +kernel
theorem dX9_signAt_41 : decode cX9_signAt 41 = .ok (.if_icmp .ne 8, 3) := by decide +kernel
theorem dX9_signAt_44 : decode cX9_signAt 44 = .ok (.bipush 99, 2) := by decide +kernel
theorem dX9_signAt_46 : decode cX9_signAt 46 = .ok (.goto 15, 3) := by decide +kernel
theorem dX9_signAt_49 : decode cX9_signAt 49 = .ok (.iload_n 0, 1) := by decide +kernel
theorem dX9_signAt_50 : decode cX9_signAt 50 = .ok (.iconst 5, 1) := by decide +kernel
theorem dX9_signAt_51 : decode cX9_signAt 51 = .ok (.if_icmp .ne 8, 3) := by decide +kernel
theorem dX9_signAt_54 : decode cX9_signAt 54 = .ok (.bipush 115, 2) := by decide +kernel
theorem dX9_signAt_56 : decode cX9_signAt 56 = .ok (.goto 5, 3) := by decide +kernel
theorem dX9_signAt_59 : decode cX9_signAt 59 = .ok (.bipush 126, 2) := by decide +kernel
theorem dX9_signAt_61 : decode cX9_signAt 61 = .ok (.ireturn, 1) := by decide +kernel
theorem dX9_year_0 : decode cX9_year 0 = .ok (.iload_n 1, 1) := by decide +kernel
theorem dX9_year_1 : decode cX9_year 1 = .ok (.iconst 0, 1) := by decide +kernel
theorem dX9_year_2 : decode cX9_year 2 = .ok (.sipush 9999, 3) := by decide +kernel
theorem dX9_year_5 : decode cX9_year 5 = .ok (.invokestatic 75, 3) := by decide +kernel
theorem dX9_year_8 : decode cX9_year 8 = .ok (.ifCond .eq 22, 3) := by decide +kernel
theorem dX9_year_11 : decode cX9_year 11 = .ok (.iload_n 2, 1) := by decide +kernel
theorem dX9_year_12 : decode cX9_year 12 = .ok (.iconst 1, 1) := by decide +kernel
theorem dX9_year_13 : decode cX9_year 13 = .ok (.bipush 50, 2) := by decide +kernel
theorem dX9_year_15 : decode cX9_year 15 = .ok (.invokestatic 75, 3) := by decide +kernel
theorem dX9_year_18 : decode cX9_year 18 = .ok (.ifCond .eq 12, 3) := by decide +kernel
theorem dX9_year_21 : decode cX9_year 21 = .ok (.iload_n 3, 1) := by decide +kernel
theorem dX9_year_22 : decode cX9_year 22 = .ok (.iconst 0, 1) := by decide +kernel
theorem dX9_year_23 : decode cX9_year 23 = .ok (.iconst 2, 1) := by decide +kernel
theorem dX9_year_24 : decode cX9_year 24 = .ok (.invokestatic 75, 3) := by decide +kernel
theorem dX9_year_27 : decode cX9_year 27 = .ok (.ifCond .ne 6, 3) := by decide +kernel
theorem dX9_year_30 : decode cX9_year 30 = .ok (.bipush (-2), 2) := by decide +kernel
theorem dX9_year_32 : decode cX9_year 32 = .ok (.ireturn, 1) := by decide +kernel
theorem dX9_year_33 : decode cX9_year 33 = .ok (.iload_n 1, 1) := by decide +kernel
theorem dX9_year_34 : decode cX9_year 34 = .ok (.istore 4, 2) := by decide +kernel
theorem dX9_year_36 : decode cX9_year 36 = .ok (.iconst 0, 1) := by decide +kernel
theorem dX9_year_37 : decode cX9_year 37 = .ok (.istore 5, 2) := by decide +kernel
theorem dX9_year_39 : decode cX9_year 39 = .ok (.iconst 0, 1) := by decide +kernel
theorem dX9_year_40 : decode cX9_year 40 = .ok (.istore 6, 2) := by decide +kernel
theorem dX9_year_42 : decode cX9_year 42 = .ok (.iconst 0, 1) := by decide +kernel
theorem dX9_year_43 : decode cX9_year 43 = .ok (.istore 7, 2) := by decide +kernel
theorem dX9_year_45 : decode cX9_year 45 = .ok (.iconst 0, 1) := by decide +kernel
theorem dX9_year_46 : decode cX9_year 46 = .ok (.istore 8, 2) := by decide +kernel
theorem dX9_year_48 : decode cX9_year 48 = .ok (.iload 8, 2) := by decide +kernel
theorem dX9_year_50 : decode cX9_year 50 = .ok (.iload_n 2, 1) := by decide +kernel
theorem dX9_year_51 : decode cX9_year 51 = .ok (.if_icmp .ge 104, 3) := by decide +kernel
theorem dX9_year_54 : decode cX9_year 54 = .ok (.aload_n 0, 1) := by decide +kernel
theorem dX9_year_55 : decode cX9_year 55 = .ok (.invokevirtual 160, 3) := by decide +kernel
theorem dX9_year_58 : decode cX9_year 58 = .ok (.aload_n 0, 1) := by decide +kernel
theorem dX9_year_59 : decode cX9_year 59 = .ok (.bipush 6, 2) := by decide +kernel
theorem dX9_year_61 : decode cX9_year 61 = .ok (.putfield 113, 3) := by decide +kernel
theorem dX9_year_64 : decode cX9_year 64 = .ok (.iconst 0, 1) := by decide +kernel
theorem dX9_year_65 : decode cX9_year 65 = .ok (.istore 9, 2) := by decide +kernel
theorem dX9_year_67 : decode cX9_year 67 = .ok (.iload 9, 2) := by decide +kernel
theorem dX9_year_69 : decode cX9_year 69 = .ok (.bipush 6, 2) := by decide +kernel
theorem dX9_year_71 : decode cX9_year 71 = .ok (.if_icmp .ge 37, 3) := by decide +kernel
theorem dX9_year_74 : decode cX9_year 74 = .ok (.bipush 75, 2) := by decide +kernel
theorem dX9_year_76 : decode cX9_year 76 = .ok (.iload 4, 2) := by decide +kernel
theorem dX9_year_78 : decode cX9_year 78 = .ok (.imul, 1) := by decide +kernel
theorem dX9_year_79 : decode cX9_year 79 = .ok (.bipush 74, 2) := by decide +kernel
theorem dX9_year_81 : decode cX9_year 81 = .ok (.iadd, 1) := by decide +kernel
theorem dX9_year_82 : decode cX9_year 82 = .ok (.ldc 208, 2) := by decide +kernel
theorem dX9_year_84 : decode cX9_year 84 = .ok (.irem, 1) := by decide +kernel
theorem dX9_year_85 : decode cX9_year 85 = .ok (.istore 4, 2) := by decide +kernel
theorem dX9_year_87 : decode cX9_year 87 = .ok (.aload_n 0, 1) := by decide +kernel
theorem dX9_year_88 : decode cX9_year 88 = .ok (.getfield 38, 3) := by decide +kernel
theorem dX9_year_91 : decode cX9_year 91 = .ok (.iload 9, 2) := by decide +kernel
theorem dX9_year_93 : decode cX9_year 93 = .ok (.iload 4, 2) := by decide +kernel
theorem dX9_year_95 : decode cX9_year 95 = .ok (.bipush 7, 2) := by decide +kernel
theorem dX9_year_97 : decode cX9_year 97 = .ok (.irem, 1) := by decide +kernel
theorem dX9_year_98 : decode cX9_year 98 = .ok (.invokestatic 209, 3) := by decide +kernel
theorem dX9_year_101 : decode cX9_year 101 = .ok (.iastore, 1) := by decide +kernel
theorem dX9_year_102 : decode cX9_year 102 = .ok (.iinc 9 1, 3) := by decide +kernel
theorem dX9_year_105 : decode cX9_year 105 = .ok (.goto (-38), 3) := by decide +kernel
theorem dX9_year_108 : decode cX9_year 108 = .ok (.aload_n 0, 1) := by decide +kernel
theorem dX9_year_109 : decode cX9_year 109 = .ok (.bipush 6, 2) := by decide +kernel
theorem dX9_year_111 : decode cX9_year 111 = .ok (.invokevirtual 163, 3) := by decide +kernel
theorem dX9_year_114 : decode cX9_year 114 = .ok (.iload 5, 2) := by decide +kernel
theorem dX9_year_116 : decode cX9_year 116 = .ok (.aload_n 0, 1) := by decide +kernel
theorem dX9_year_117 : decode cX9_year 117 = .ok (.getfield 147, 3) := by decide +kernel
theorem dX9_year_120 : decode cX9_year 120 = .ok (.iadd, 1) := by decide +kernel
theorem dX9_year_121 : decode cX9_year 121 = .ok (.istore 5, 2) := by decide +kernel
theorem dX9_year_123 : decode cX9_year 123 = .ok (.iload 6, 2) := by decide +kernel
theorem dX9_year_125 : decode cX9_year 125 = .ok (.aload_n 0, 1) := by decide +kernel
theorem dX9_year_126 : decode cX9_year 126 = .ok (.getfield 150, 3) := by decide +kernel
theorem dX9_year_129 : decode cX9_year 129 = .ok (.iadd, 1) := by decide +kernel
theorem dX9_year_130 : decode cX9_year 130 = .ok (.istore 6, 2) := by decide +kernel
theorem dX9_year_132 : decode cX9_year 132 = .ok (.iload 7, 2) := by decide +kernel
theorem dX9_year_134 : decode cX9_year 134 = .ok (.aload_n 0, 1) := by decide +kernel
theorem dX9_year_135 : decode cX9_year 135 = .ok (.getfield 141, 3) := by decide +kernel
theorem dX9_year_138 : decode cX9_year 138 = .ok (.ifCond .ne 7, 3) := by decide +kernel
theorem dX9_year_141 : decode cX9_year 141 = .ok (.iconst 1, 1) := by decide +kernel
theorem dX9_year_142 : decode cX9_year 142 = .ok (.goto 4, 3) := by decide +kernel
theorem dX9_year_145 : decode cX9_year 145 = .ok (.iconst 0, 1) := by decide +kernel
theorem dX9_year_146 : decode cX9_year 146 = .ok (.iadd, 1) := by decide +kernel
theorem dX9_year_147 : decode cX9_year 147 = .ok (.istore 7, 2) := by decide +kernel
theorem dX9_year_149 : decode cX9_year 149 = .ok (.iinc 8 1, 3) := by decide +kernel
theorem dX9_year_152 : decode cX9_year 152 = .ok (.goto (-104), 3) := by decide +kernel
theorem dX9_year_155 : decode cX9_year 155 = .ok (.iload_n 3, 1) := by decide +kernel
theorem dX9_year_156 : decode cX9_year 156 = .ok (.ifCond .ne 8, 3) := by decide +kernel
theorem dX9_year_159 : decode cX9_year 159 = .ok (.iload 5, 2) := by decide +kernel
theorem dX9_year_161 : decode cX9_year 161 = .ok (.goto 15, 3) := by decide +kernel
theorem dX9_year_164 : decode cX9_year 164 = .ok (.iload_n 3, 1) := by decide +kernel
theorem dX9_year_165 : decode cX9_year 165 = .ok (.iconst 1, 1) := by decide +kernel
theorem dX9_year_166 : decode cX9_year 166 = .ok (.if_icmp .ne 8, 3) := by decide +kernel
theorem dX9_year_169 : decode cX9_year 169 = .ok (.iload 6, 2) := by decide +kernel
theorem dX9_year_171 : decode cX9_year 171 = .ok (.goto 5, 3) := by decide +kernel
theorem dX9_year_174 : decode cX9_year 174 = .ok (.iload 7, 2) := by decide +kernel
theorem dX9_year_176 : decode cX9_year 176 = .ok (.ireturn, 1) := by decide +kernel
theorem dX9_image_0 : decode cX9_image 0 = .ok (.iload_n 1, 1) := by decide +kernel
theorem dX9_image_1 : decode cX9_image 1 = .ok (.iconst 0, 1) := by decide +kernel
theorem dX9_image_2 : decode cX9_image 2 = .ok (.iconst 1, 1) := by decide +kernel
theorem dX9_image_3 : decode cX9_image 3 = .ok (.invokestatic 75, 3) := by decide +kernel
theorem dX9_image_6 : decode cX9_image 6 = .ok (.ifCond .ne 6, 3) := by decide +kernel
theorem dX9_image_9 : decode cX9_image 9 = .ok (.bipush (-2), 2) := by decide +kernel
theorem dX9_image_11 : decode cX9_image 11 = .ok (.ireturn, 1) := by decide +kernel
theorem dX9_image_12 : decode cX9_image 12 = .ok (.bipush 70, 2) := by decide +kernel
theorem dX9_image_14 : decode cX9_image 14 = .ok (.iload_n 1, 1) := by decide +kernel
theorem dX9_image_15 : decode cX9_image 15 = .ok (.imul, 1) := by decide +kernel
theorem dX9_image_16 : decode cX9_image 16 = .ok (.istore_n 2, 1) := by decide +kernel
theorem dX9_image_17 : decode cX9_image 17 = .ok (.iconst 0, 1) := by decide +kernel
theorem dX9_image_18 : decode cX9_image 18 = .ok (.istore_n 3, 1) := by decide +kernel
theorem dX9_image_19 : decode cX9_image 19 = .ok (.iload_n 3, 1) := by decide +kernel
theorem dX9_image_20 : decode cX9_image 20 = .ok (.bipush 8, 2) := by decide +kernel
theorem dX9_image_22 : decode cX9_image 22 = .ok (.if_icmp .ge 74, 3) := by decide +kernel
theorem dX9_image_25 : decode cX9_image 25 = .ok (.aload_n 0, 1) := by decide +kernel
theorem dX9_image_26 : decode cX9_image 26 = .ok (.getfield 65, 3) := by decide +kernel
theorem dX9_image_29 : decode cX9_image 29 = .ok (.iload_n 2, 1) := by decide +kernel
theorem dX9_image_30 : decode cX9_image 30 = .ok (.iload_n 3, 1) := by decide +kernel
theorem dX9_image_31 : decode cX9_image 31 = .ok (.iadd, 1) := by decide +kernel
theorem dX9_image_32 : decode cX9_image 32 = .ok (.aload_n 0, 1) := by decide +kernel
theorem dX9_image_33 : decode cX9_image 33 = .ok (.getfield 13, 3) := by decide +kernel
theorem dX9_image_36 : decode cX9_image 36 = .ok (.iload_n 3, 1) := by decide +kernel
theorem dX9_image_37 : decode cX9_image 37 = .ok (.iaload, 1) := by decide +kernel
theorem dX9_image_38 : decode cX9_image 38 = .ok (.iastore, 1) := by decide +kernel
theorem dX9_image_39 : decode cX9_image 39 = .ok (.aload_n 0, 1) := by decide +kernel
theorem dX9_image_40 : decode cX9_image 40 = .ok (.getfield 65, 3) := by decide +kernel
theorem dX9_image_43 : decode cX9_image 43 = .ok (.iload_n 2, 1) := by decide +kernel
theorem dX9_image_44 : decode cX9_image 44 = .ok (.bipush 8, 2) := by decide +kernel
theorem dX9_image_46 : decode cX9_image 46 = .ok (.iadd, 1) := by decide +kernel
theorem dX9_image_47 : decode cX9_image 47 = .ok (.iload_n 3, 1) := by decide +kernel
theorem dX9_image_48 : decode cX9_image 48 = .ok (.iadd, 1) := by decide +kernel
theorem dX9_image_49 : decode cX9_image 49 = .ok (.aload_n 0, 1) := by decide +kernel
theorem dX9_image_50 : decode cX9_image 50 = .ok (.getfield 17, 3) := by decide +kernel
theorem dX9_image_53 : decode cX9_image 53 = .ok (.iload_n 3, 1) := by decide +kernel
theorem dX9_image_54 : decode cX9_image 54 = .ok (.iaload, 1) := by decide +kernel
theorem dX9_image_55 : decode cX9_image 55 = .ok (.iastore, 1) := by decide +kernel
theorem dX9_image_56 : decode cX9_image 56 = .ok (.aload_n 0, 1) := by decide +kernel
theorem dX9_image_57 : decode cX9_image 57 = .ok (.getfield 65, 3) := by decide +kernel
theorem dX9_image_60 : decode cX9_image 60 = .ok (.iload_n 2, 1) := by decide +kernel
theorem dX9_image_61 : decode cX9_image 61 = .ok (.bipush 16, 2) := by decide +kernel
theorem dX9_image_63 : decode cX9_image 63 = .ok (.iadd, 1) := by decide +kernel
theorem dX9_image_64 : decode cX9_image 64 = .ok (.iload_n 3, 1) := by decide +kernel
theorem dX9_image_65 : decode cX9_image 65 = .ok (.iadd, 1) := by decide +kernel
theorem dX9_image_66 : decode cX9_image 66 = .ok (.aload_n 0, 1) := by decide +kernel
theorem dX9_image_67 : decode cX9_image 67 = .ok (.getfield 20, 3) := by decide +kernel
theorem dX9_image_70 : decode cX9_image 70 = .ok (.iload_n 3, 1) := by decide +kernel
theorem dX9_image_71 : decode cX9_image 71 = .ok (.iaload, 1) := by decide +kernel
theorem dX9_image_72 : decode cX9_image 72 = .ok (.iastore, 1) := by decide +kernel
theorem dX9_image_73 : decode cX9_image 73 = .ok (.aload_n 0, 1) := by decide +kernel
theorem dX9_image_74 : decode cX9_image 74 = .ok (.getfield 65, 3) := by decide +kernel
theorem dX9_image_77 : decode cX9_image 77 = .ok (.iload_n 2, 1) := by decide +kernel
theorem dX9_image_78 : decode cX9_image 78 = .ok (.bipush 24, 2) := by decide +kernel
theorem dX9_image_80 : decode cX9_image 80 = .ok (.iadd, 1) := by decide +kernel
theorem dX9_image_81 : decode cX9_image 81 = .ok (.iload_n 3, 1) := by decide +kernel
theorem dX9_image_82 : decode cX9_image 82 = .ok (.iadd, 1) := by decide +kernel
theorem dX9_image_83 : decode cX9_image 83 = .ok (.aload_n 0, 1) := by decide +kernel
theorem dX9_image_84 : decode cX9_image 84 = .ok (.getfield 23, 3) := by decide +kernel
theorem dX9_image_87 : decode cX9_image 87 = .ok (.iload_n 3, 1) := by decide +kernel
theorem dX9_image_88 : decode cX9_image 88 = .ok (.iaload, 1) := by decide +kernel
theorem dX9_image_89 : decode cX9_image 89 = .ok (.iastore, 1) := by decide +kernel
theorem dX9_image_90 : decode cX9_image 90 = .ok (.iinc 3 1, 3) := by decide +kernel
theorem dX9_image_93 : decode cX9_image 93 = .ok (.goto (-74), 3) := by decide +kernel
theorem dX9_image_96 : decode cX9_image 96 = .ok (.iconst 0, 1) := by decide +kernel
theorem dX9_image_97 : decode cX9_image 97 = .ok (.istore_n 3, 1) := by decide +kernel
theorem dX9_image_98 : decode cX9_image 98 = .ok (.iload_n 3, 1) := by decide +kernel
theorem dX9_image_99 : decode cX9_image 99 = .ok (.bipush 16, 2) := by decide +kernel
theorem dX9_image_101 : decode cX9_image 101 = .ok (.if_icmp .ge 26, 3) := by decide +kernel
theorem dX9_image_104 : decode cX9_image 104 = .ok (.aload_n 0, 1) := by decide +kernel
