theorem dX6_findHeads_23 : decode cX6_findHeads 23 = .ok (.aload_n 1, 1) := by decide +kernel
theorem dX6_findHeads_24 : decode cX6_findHeads 24 = .ok (.iload_n 3, 1) := by decide +kernel
theorem dX6_findHeads_25 : decode cX6_findHeads 25 = .ok (.invokevirtual 94, 3) := by decide +kernel
theorem dX6_findHeads_28 : decode cX6_findHeads 28 = .ok (.ifCond .eq 82, 3) := by decide +kernel
theorem dX6_findHeads_31 : decode cX6_findHeads 31 = .ok (.iconst 1, 1) := by decide +kernel
theorem dX6_findHeads_32 : decode cX6_findHeads 32 = .ok (.aload_n 1, 1) := by decide +kernel
theorem dX6_findHeads_33 : decode cX6_findHeads 33 = .ok (.getfield 114, 3) := by decide +kernel
theorem dX6_findHeads_36 : decode cX6_findHeads 36 = .ok (.iload_n 3, 1) := by decide +kernel
theorem dX6_findHeads_37 : decode cX6_findHeads 37 = .ok (.iaload, 1) := by decide +kernel
theorem dX6_findHeads_38 : decode cX6_findHeads 38 = .ok (.ishl, 1) := by decide +kernel
theorem dX6_findHeads_39 : decode cX6_findHeads 39 = .ok (.istore 4, 2) := by decide +kernel
theorem dX6_findHeads_41 : decode cX6_findHeads 41 = .ok (.aload_n 0, 1) := by decide +kernel
theorem dX6_findHeads_42 : decode cX6_findHeads 42 = .ok (.dup, 1) := by decide +kernel
theorem dX6_findHeads_43 : decode cX6_findHeads 43 = .ok (.getfield 22, 3) := by decide +kernel
theorem dX6_findHeads_46 : decode cX6_findHeads 46 = .ok (.iload 4, 2) := by decide +kernel
theorem dX6_findHeads_48 : decode cX6_findHeads 48 = .ok (.ior, 1) := by decide +kernel
theorem dX6_findHeads_49 : decode cX6_findHeads 49 = .ok (.putfield 22, 3) := by decide +kernel
theorem dX6_findHeads_52 : decode cX6_findHeads 52 = .ok (.aload_n 1, 1) := by decide +kernel
theorem dX6_findHeads_53 : decode cX6_findHeads 53 = .ok (.iload_n 3, 1) := by decide +kernel
theorem dX6_findHeads_54 : decode cX6_findHeads 54 = .ok (.invokevirtual 120, 3) := by decide +kernel
theorem dX6_findHeads_57 : decode cX6_findHeads 57 = .ok (.ifCond .ne 53, 3) := by decide +kernel
theorem dX6_findHeads_60 : decode cX6_findHeads 60 = .ok (.aload_n 0, 1) := by decide +kernel
theorem dX6_findHeads_61 : decode cX6_findHeads 61 = .ok (.getfield 9, 3) := by decide +kernel
theorem dX6_findHeads_64 : decode cX6_findHeads 64 = .ok (.iload_n 3, 1) := by decide +kernel
theorem dX6_findHeads_65 : decode cX6_findHeads 65 = .ok (.iaload, 1) := by decide +kernel
theorem dX6_findHeads_66 : decode cX6_findHeads 66 = .ok (.ifCond .ne 17, 3) := by decide +kernel
theorem dX6_findHeads_69 : decode cX6_findHeads 69 = .ok (.aload_n 0, 1) := by decide +kernel
theorem dX6_findHeads_70 : decode cX6_findHeads 70 = .ok (.dup, 1) := by decide +kernel
theorem dX6_findHeads_71 : decode cX6_findHeads 71 = .ok (.getfield 25, 3) := by decide +kernel
theorem dX6_findHeads_74 : decode cX6_findHeads 74 = .ok (.iload 4, 2) := by decide +kernel
theorem dX6_findHeads_76 : decode cX6_findHeads 76 = .ok (.ior, 1) := by decide +kernel
theorem dX6_findHeads_77 : decode cX6_findHeads 77 = .ok (.putfield 25, 3) := by decide +kernel
theorem dX6_findHeads_80 : decode cX6_findHeads 80 = .ok (.goto 30, 3) := by decide +kernel
theorem dX6_findHeads_83 : decode cX6_findHeads 83 = .ok (.iload_n 2, 1) := by decide +kernel
theorem dX6_findHeads_84 : decode cX6_findHeads 84 = .ok (.bipush 99, 2) := by decide +kernel
theorem dX6_findHeads_86 : decode cX6_findHeads 86 = .ok (.if_icmp .ne 24, 3) := by decide +kernel
theorem dX6_findHeads_89 : decode cX6_findHeads 89 = .ok (.aload_n 1, 1) := by decide +kernel
theorem dX6_findHeads_90 : decode cX6_findHeads 90 = .ok (.getfield 123, 3) := by decide +kernel
theorem dX6_findHeads_93 : decode cX6_findHeads 93 = .ok (.iload_n 3, 1) := by decide +kernel
theorem dX6_findHeads_94 : decode cX6_findHeads 94 = .ok (.iaload, 1) := by decide +kernel
theorem dX6_findHeads_95 : decode cX6_findHeads 95 = .ok (.iconst 1, 1) := by decide +kernel
theorem dX6_findHeads_96 : decode cX6_findHeads 96 = .ok (.if_icmp .ne 14, 3) := by decide +kernel
theorem dX6_findHeads_99 : decode cX6_findHeads 99 = .ok (.aload_n 0, 1) := by decide +kernel
theorem dX6_findHeads_100 : decode cX6_findHeads 100 = .ok (.dup, 1) := by decide +kernel
theorem dX6_findHeads_101 : decode cX6_findHeads 101 = .ok (.getfield 28, 3) := by decide +kernel
theorem dX6_findHeads_104 : decode cX6_findHeads 104 = .ok (.iload 4, 2) := by decide +kernel
theorem dX6_findHeads_106 : decode cX6_findHeads 106 = .ok (.ior, 1) := by decide +kernel
theorem dX6_findHeads_107 : decode cX6_findHeads 107 = .ok (.putfield 28, 3) := by decide +kernel
theorem dX6_findHeads_110 : decode cX6_findHeads 110 = .ok (.iinc 3 1, 3) := by decide +kernel
theorem dX6_findHeads_113 : decode cX6_findHeads 113 = .ok (.goto (-96), 3) := by decide +kernel
theorem dX6_findHeads_116 : decode cX6_findHeads 116 = .ok (.aload_n 0, 1) := by decide +kernel
theorem dX6_findHeads_117 : decode cX6_findHeads 117 = .ok (.aload_n 0, 1) := by decide +kernel
theorem dX6_findHeads_118 : decode cX6_findHeads 118 = .ok (.getfield 25, 3) := by decide +kernel
theorem dX6_findHeads_121 : decode cX6_findHeads 121 = .ok (.aload_n 0, 1) := by decide +kernel
theorem dX6_findHeads_122 : decode cX6_findHeads 122 = .ok (.getfield 25, 3) := by decide +kernel
theorem dX6_findHeads_125 : decode cX6_findHeads 125 = .ok (.invokestatic 126, 3) := by decide +kernel
theorem dX6_findHeads_128 : decode cX6_findHeads 128 = .ok (.iand, 1) := by decide +kernel
theorem dX6_findHeads_129 : decode cX6_findHeads 129 = .ok (.aload_n 0, 1) := by decide +kernel
theorem dX6_findHeads_130 : decode cX6_findHeads 130 = .ok (.getfield 25, 3) := by decide +kernel
theorem dX6_findHeads_133 : decode cX6_findHeads 133 = .ok (.invokestatic 129, 3) := by decide +kernel
theorem dX6_findHeads_136 : decode cX6_findHeads 136 = .ok (.iand, 1) := by decide +kernel
theorem dX6_findHeads_137 : decode cX6_findHeads 137 = .ok (.putfield 31, 3) := by decide +kernel
theorem dX6_findHeads_140 : decode cX6_findHeads 140 = .ok (.return_, 1) := by decide +kernel
theorem dX6_rightOf_0 : decode cX6_rightOf 0 = .ok (.iload_n 0, 1) := by decide +kernel
theorem dX6_rightOf_1 : decode cX6_rightOf 1 = .ok (.iconst 1, 1) := by decide +kernel
theorem dX6_rightOf_2 : decode cX6_rightOf 2 = .ok (.ishl, 1) := by decide +kernel
theorem dX6_rightOf_3 : decode cX6_rightOf 3 = .ok (.sipush (-274), 3) := by decide +kernel
theorem dX6_rightOf_6 : decode cX6_rightOf 6 = .ok (.iand, 1) := by decide +kernel
theorem dX6_rightOf_7 : decode cX6_rightOf 7 = .ok (.ireturn, 1) := by decide +kernel
theorem dX6_leftOf_0 : decode cX6_leftOf 0 = .ok (.iload_n 0, 1) := by decide +kernel
theorem dX6_leftOf_1 : decode cX6_leftOf 1 = .ok (.iconst 1, 1) := by decide +kernel
theorem dX6_leftOf_2 : decode cX6_leftOf 2 = .ok (.ishr, 1) := by decide +kernel
theorem dX6_leftOf_3 : decode cX6_leftOf 3 = .ok (.sipush (-2185), 3) := by decide +kernel
theorem dX6_leftOf_6 : decode cX6_leftOf 6 = .ok (.iand, 1) := by decide +kernel
theorem dX6_leftOf_7 : decode cX6_leftOf 7 = .ok (.ireturn, 1) := by decide +kernel
theorem dX6_elbow_0 : decode cX6_elbow 0 = .ok (.aload_n 0, 1) := by decide +kernel
theorem dX6_elbow_1 : decode cX6_elbow 1 = .ok (.getfield 22, 3) := by decide +kernel
theorem dX6_elbow_4 : decode cX6_elbow 4 = .ok (.aload_n 0, 1) := by decide +kernel
theorem dX6_elbow_5 : decode cX6_elbow 5 = .ok (.getfield 25, 3) := by decide +kernel
theorem dX6_elbow_8 : decode cX6_elbow 8 = .ok (.iconst (-1), 1) := by decide +kernel
theorem dX6_elbow_9 : decode cX6_elbow 9 = .ok (.ixor, 1) := by decide +kernel
theorem dX6_elbow_10 : decode cX6_elbow 10 = .ok (.iand, 1) := by decide +kernel
theorem dX6_elbow_11 : decode cX6_elbow 11 = .ok (.istore_n 2, 1) := by decide +kernel
theorem dX6_elbow_12 : decode cX6_elbow 12 = .ok (.aload_n 0, 1) := by decide +kernel
theorem dX6_elbow_13 : decode cX6_elbow 13 = .ok (.getfield 25, 3) := by decide +kernel
theorem dX6_elbow_16 : decode cX6_elbow 16 = .ok (.iload_n 2, 1) := by decide +kernel
theorem dX6_elbow_17 : decode cX6_elbow 17 = .ok (.invokestatic 126, 3) := by decide +kernel
theorem dX6_elbow_20 : decode cX6_elbow 20 = .ok (.iload_n 2, 1) := by decide +kernel
theorem dX6_elbow_21 : decode cX6_elbow 21 = .ok (.invokestatic 129, 3) := by decide +kernel
theorem dX6_elbow_24 : decode cX6_elbow 24 = .ok (.ior, 1) := by decide +kernel
theorem dX6_elbow_25 : decode cX6_elbow 25 = .ok (.iand, 1) := by decide +kernel
theorem dX6_elbow_26 : decode cX6_elbow 26 = .ok (.istore_n 3, 1) := by decide +kernel
theorem dX6_elbow_27 : decode cX6_elbow 27 = .ok (.iconst 0, 1) := by decide +kernel
theorem dX6_elbow_28 : decode cX6_elbow 28 = .ok (.istore 4, 2) := by decide +kernel
theorem dX6_elbow_30 : decode cX6_elbow 30 = .ok (.iload_n 3, 1) := by decide +kernel
theorem dX6_elbow_31 : decode cX6_elbow 31 = .ok (.ifCond .eq 57, 3) := by decide +kernel
theorem dX6_elbow_34 : decode cX6_elbow 34 = .ok (.iload 4, 2) := by decide +kernel
theorem dX6_elbow_36 : decode cX6_elbow 36 = .ok (.bipush 8, 2) := by decide +kernel
theorem dX6_elbow_38 : decode cX6_elbow 38 = .ok (.if_icmp .ge 50, 3) := by decide +kernel
theorem dX6_elbow_41 : decode cX6_elbow 41 = .ok (.aload_n 1, 1) := by decide +kernel
theorem dX6_elbow_42 : decode cX6_elbow 42 = .ok (.iload 4, 2) := by decide +kernel
theorem dX6_elbow_44 : decode cX6_elbow 44 = .ok (.invokevirtual 94, 3) := by decide +kernel
theorem dX6_elbow_47 : decode cX6_elbow 47 = .ok (.ifCond .eq 35, 3) := by decide +kernel
theorem dX6_elbow_50 : decode cX6_elbow 50 = .ok (.iload_n 3, 1) := by decide +kernel
theorem dX6_elbow_51 : decode cX6_elbow 51 = .ok (.aload_n 1, 1) := by decide +kernel
theorem dX6_elbow_52 : decode cX6_elbow 52 = .ok (.getfield 114, 3) := by decide +kernel
theorem dX6_elbow_55 : decode cX6_elbow 55 = .ok (.iload 4, 2) := by decide +kernel
theorem dX6_elbow_57 : decode cX6_elbow 57 = .ok (.iaload, 1) := by decide +kernel
theorem dX6_elbow_58 : decode cX6_elbow 58 = .ok (.ishr, 1) := by decide +kernel
theorem dX6_elbow_59 : decode cX6_elbow 59 = .ok (.iconst 1, 1) := by decide +kernel
theorem dX6_elbow_60 : decode cX6_elbow 60 = .ok (.iand, 1) := by decide +kernel
theorem dX6_elbow_61 : decode cX6_elbow 61 = .ok (.ifCond .eq 21, 3) := by decide +kernel
theorem dX6_elbow_64 : decode cX6_elbow 64 = .ok (.aload_n 0, 1) := by decide +kernel
theorem dX6_elbow_65 : decode cX6_elbow 65 = .ok (.getfield 9, 3) := by decide +kernel
theorem dX6_elbow_68 : decode cX6_elbow 68 = .ok (.iload 4, 2) := by decide +kernel
theorem dX6_elbow_70 : decode cX6_elbow 70 = .ok (.iconst 2, 1) := by decide +kernel
theorem dX6_elbow_71 : decode cX6_elbow 71 = .ok (.aload_n 1, 1) := by decide +kernel
theorem dX6_elbow_72 : decode cX6_elbow 72 = .ok (.getfield 52, 3) := by decide +kernel
theorem dX6_elbow_75 : decode cX6_elbow 75 = .ok (.iload 4, 2) := by decide +kernel
theorem dX6_elbow_77 : decode cX6_elbow 77 = .ok (.iaload, 1) := by decide +kernel
theorem dX6_elbow_78 : decode cX6_elbow 78 = .ok (.invokestatic 111, 3) := by decide +kernel
theorem dX6_elbow_81 : decode cX6_elbow 81 = .ok (.iastore, 1) := by decide +kernel
theorem dX6_elbow_82 : decode cX6_elbow 82 = .ok (.iinc 4 1, 3) := by decide +kernel
theorem dX6_elbow_85 : decode cX6_elbow 85 = .ok (.goto (-55), 3) := by decide +kernel
theorem dX6_elbow_88 : decode cX6_elbow 88 = .ok (.return_, 1) := by decide +kernel
theorem dX6_count_0 : decode cX6_count 0 = .ok (.iload_n 2, 1) := by decide +kernel
theorem dX6_count_1 : decode cX6_count 1 = .ok (.bipush 104, 2) := by decide +kernel
theorem dX6_count_3 : decode cX6_count 3 = .ok (.if_icmp .ne 7, 3) := by decide +kernel
theorem dX6_count_6 : decode cX6_count 6 = .ok (.iconst 1, 1) := by decide +kernel
theorem dX6_count_7 : decode cX6_count 7 = .ok (.goto 14, 3) := by decide +kernel
theorem dX6_count_10 : decode cX6_count 10 = .ok (.iload_n 2, 1) := by decide +kernel
theorem dX6_count_11 : decode cX6_count 11 = .ok (.bipush 111, 2) := by decide +kernel
theorem dX6_count_13 : decode cX6_count 13 = .ok (.if_icmp .ne 7, 3) := by decide +kernel
theorem dX6_count_16 : decode cX6_count 16 = .ok (.iconst 2, 1) := by decide +kernel
theorem dX6_count_17 : decode cX6_count 17 = .ok (.goto 4, 3) := by decide +kernel
theorem dX6_count_20 : decode cX6_count 20 = .ok (.iconst 0, 1) := by decide +kernel
theorem dX6_count_21 : decode cX6_count 21 = .ok (.istore_n 3, 1) := by decide +kernel
theorem dX6_count_22 : decode cX6_count 22 = .ok (.aload_n 1, 1) := by decide +kernel
theorem dX6_count_23 : decode cX6_count 23 = .ok (.getfield 132, 3) := by decide +kernel
theorem dX6_count_26 : decode cX6_count 26 = .ok (.iconst 4, 1) := by decide +kernel
theorem dX6_count_27 : decode cX6_count 27 = .ok (.imul, 1) := by decide +kernel
theorem dX6_count_28 : decode cX6_count 28 = .ok (.istore 4, 2) := by decide +kernel
theorem dX6_count_30 : decode cX6_count 30 = .ok (.aload_n 0, 1) := by decide +kernel
theorem dX6_count_31 : decode cX6_count 31 = .ok (.invokevirtual 135, 3) := by decide +kernel
theorem dX6_count_34 : decode cX6_count 34 = .ok (.istore 5, 2) := by decide +kernel
theorem dX6_count_36 : decode cX6_count 36 = .ok (.aload_n 0, 1) := by decide +kernel
theorem dX6_count_37 : decode cX6_count 37 = .ok (.getfield 25, 3) := by decide +kernel
theorem dX6_count_40 : decode cX6_count 40 = .ok (.invokestatic 139, 3) := by decide +kernel
theorem dX6_count_43 : decode cX6_count 43 = .ok (.istore 6, 2) := by decide +kernel
theorem dX6_count_45 : decode cX6_count 45 = .ok (.aload_n 0, 1) := by decide +kernel
theorem dX6_count_46 : decode cX6_count 46 = .ok (.dup, 1) := by decide +kernel
theorem dX6_count_47 : decode cX6_count 47 = .ok (.getfield 34, 3) := by decide +kernel
theorem dX6_count_50 : decode cX6_count 50 = .ok (.iload 6, 2) := by decide +kernel
theorem dX6_count_52 : decode cX6_count 52 = .ok (.iadd, 1) := by decide +kernel
theorem dX6_count_53 : decode cX6_count 53 = .ok (.putfield 34, 3) := by decide +kernel
theorem dX6_count_56 : decode cX6_count 56 = .ok (.aload_n 0, 1) := by decide +kernel
theorem dX6_count_57 : decode cX6_count 57 = .ok (.dup, 1) := by decide +kernel
theorem dX6_count_58 : decode cX6_count 58 = .ok (.getfield 37, 3) := by decide +kernel
theorem dX6_count_61 : decode cX6_count 61 = .ok (.iload 5, 2) := by decide +kernel
theorem dX6_count_63 : decode cX6_count 63 = .ok (.invokestatic 139, 3) := by decide +kernel
theorem dX6_count_66 : decode cX6_count 66 = .ok (.iadd, 1) := by decide +kernel
theorem dX6_count_67 : decode cX6_count 67 = .ok (.putfield 37, 3) := by decide +kernel
theorem dX6_count_70 : decode cX6_count 70 = .ok (.aload_n 0, 1) := by decide +kernel
theorem dX6_count_71 : decode cX6_count 71 = .ok (.dup, 1) := by decide +kernel
theorem dX6_count_72 : decode cX6_count 72 = .ok (.getfield 40, 3) := by decide +kernel
theorem dX6_count_75 : decode cX6_count 75 = .ok (.aload_n 1, 1) := by decide +kernel
theorem dX6_count_76 : decode cX6_count 76 = .ok (.getfield 144, 3) := by decide +kernel
theorem dX6_count_79 : decode cX6_count 79 = .ok (.iload 5, 2) := by decide +kernel
theorem dX6_count_81 : decode cX6_count 81 = .ok (.iload 4, 2) := by decide +kernel
theorem dX6_count_83 : decode cX6_count 83 = .ok (.ishr, 1) := by decide +kernel
theorem dX6_count_84 : decode cX6_count 84 = .ok (.invokestatic 139, 3) := by decide +kernel
theorem dX6_count_87 : decode cX6_count 87 = .ok (.imul, 1) := by decide +kernel
theorem dX6_count_88 : decode cX6_count 88 = .ok (.iadd, 1) := by decide +kernel
theorem dX6_count_89 : decode cX6_count 89 = .ok (.putfield 40, 3) := by decide +kernel
theorem dX6_count_92 : decode cX6_count 92 = .ok (.aload_n 0, 1) := by decide +kernel
theorem dX6_count_93 : decode cX6_count 93 = .ok (.dup, 1) := by decide +kernel
theorem dX6_count_94 : decode cX6_count 94 = .ok (.getfield 43, 3) := by decide +kernel
theorem dX6_count_97 : decode cX6_count 97 = .ok (.iload_n 3, 1) := by decide +kernel
theorem dX6_count_98 : decode cX6_count 98 = .ok (.aload_n 0, 1) := by decide +kernel
theorem dX6_count_99 : decode cX6_count 99 = .ok (.getfield 22, 3) := by decide +kernel
theorem dX6_count_102 : decode cX6_count 102 = .ok (.aload_n 0, 1) := by decide +kernel
theorem dX6_count_103 : decode cX6_count 103 = .ok (.getfield 25, 3) := by decide +kernel
theorem dX6_count_106 : decode cX6_count 106 = .ok (.iconst (-1), 1) := by decide +kernel
theorem dX6_count_107 : decode cX6_count 107 = .ok (.ixor, 1) := by decide +kernel
theorem dX6_count_108 : decode cX6_count 108 = .ok (.iand, 1) := by decide +kernel
theorem dX6_count_109 : decode cX6_count 109 = .ok (.invokestatic 139, 3) := by decide +kernel
theorem dX6_count_112 : decode cX6_count 112 = .ok (.imul, 1) := by decide +kernel
theorem dX6_count_113 : decode cX6_count 113 = .ok (.iadd, 1) := by decide +kernel
theorem dX6_count_114 : decode cX6_count 114 = .ok (.putfield 43, 3) := by decide +kernel
theorem dX6_count_117 : decode cX6_count 117 = .ok (.aload_n 0, 1) := by decide +kernel
theorem dX6_count_118 : decode cX6_count 118 = .ok (.dup, 1) := by decide +kernel
theorem dX6_count_119 : decode cX6_count 119 = .ok (.getfield 46, 3) := by decide +kernel
theorem dX6_count_122 : decode cX6_count 122 = .ok (.iload_n 3, 1) := by decide +kernel
theorem dX6_count_123 : decode cX6_count 123 = .ok (.iload 6, 2) := by decide +kernel
theorem dX6_count_125 : decode cX6_count 125 = .ok (.imul, 1) := by decide +kernel
theorem dX6_count_126 : decode cX6_count 126 = .ok (.iadd, 1) := by decide +kernel
theorem dX6_count_127 : decode cX6_count 127 = .ok (.putfield 46, 3) := by decide +kernel
theorem dX6_count_130 : decode cX6_count 130 = .ok (.aload_n 0, 1) := by decide +kernel
theorem dX6_count_131 : decode cX6_count 131 = .ok (.dup, 1) := by decide +kernel
theorem dX6_count_132 : decode cX6_count 132 = .ok (.getfield 49, 3) := by decide +kernel
theorem dX6_count_135 : decode cX6_count 135 = .ok (.aload_n 0, 1) := by decide +kernel
theorem dX6_count_136 : decode cX6_count 136 = .ok (.getfield 31, 3) := by decide +kernel
theorem dX6_count_139 : decode cX6_count 139 = .ok (.invokestatic 139, 3) := by decide +kernel
theorem dX6_count_142 : decode cX6_count 142 = .ok (.iadd, 1) := by decide +kernel
theorem dX6_count_143 : decode cX6_count 143 = .ok (.putfield 49, 3) := by decide +kernel
theorem dX6_count_146 : decode cX6_count 146 = .ok (.return_, 1) := by decide +kernel
theorem dX6_dipping_0 : decode cX6_dipping 0 = .ok (.aload_n 0, 1) := by decide +kernel
theorem dX6_dipping_1 : decode cX6_dipping 1 = .ok (.getfield 25, 3) := by decide +kernel
theorem dX6_dipping_4 : decode cX6_dipping 4 = .ok (.aload_n 0, 1) := by decide +kernel
theorem dX6_dipping_5 : decode cX6_dipping 5 = .ok (.getfield 28, 3) := by decide +kernel
theorem dX6_dipping_8 : decode cX6_dipping 8 = .ok (.ior, 1) := by decide +kernel
theorem dX6_dipping_9 : decode cX6_dipping 9 = .ok (.ireturn, 1) := by decide +kernel
theorem dX6_gained_0 : decode cX6_gained 0 = .ok (.sipush 10000, 3) := by decide +kernel
theorem dX6_gained_3 : decode cX6_gained 3 = .ok (.aload_n 0, 1) := by decide +kernel
theorem dX6_gained_4 : decode cX6_gained 4 = .ok (.getfield 43, 3) := by decide +kernel
theorem dX6_gained_7 : decode cX6_gained 7 = .ok (.iadd, 1) := by decide +kernel
theorem dX6_gained_8 : decode cX6_gained 8 = .ok (.aload_n 0, 1) := by decide +kernel
theorem dX6_gained_9 : decode cX6_gained 9 = .ok (.getfield 40, 3) := by decide +kernel
theorem dX6_gained_12 : decode cX6_gained 12 = .ok (.isub, 1) := by decide +kernel
theorem dX6_gained_13 : decode cX6_gained 13 = .ok (.ireturn, 1) := by decide +kernel
theorem dX6_didHe_0 : decode cX6_didHe 0 = .ok (.iload_n 1, 1) := by decide +kernel
theorem dX6_didHe_1 : decode cX6_didHe 1 = .ok (.iconst 1, 1) := by decide +kernel
theorem dX6_didHe_2 : decode cX6_didHe 2 = .ok (.if_icmp .ne 10, 3) := by decide +kernel
theorem dX6_didHe_5 : decode cX6_didHe 5 = .ok (.aload_n 0, 1) := by decide +kernel
theorem dX6_didHe_6 : decode cX6_didHe 6 = .ok (.getfield 25, 3) := by decide +kernel
theorem dX6_didHe_9 : decode cX6_didHe 9 = .ok (.goto 19, 3) := by decide +kernel
theorem dX6_didHe_12 : decode cX6_didHe 12 = .ok (.iload_n 1, 1) := by decide +kernel
theorem dX6_didHe_13 : decode cX6_didHe 13 = .ok (.iconst 2, 1) := by decide +kernel
theorem dX6_didHe_14 : decode cX6_didHe 14 = .ok (.if_icmp .ne 10, 3) := by decide +kernel
theorem dX6_didHe_17 : decode cX6_didHe 17 = .ok (.aload_n 0, 1) := by decide +kernel
theorem dX6_didHe_18 : decode cX6_didHe 18 = .ok (.getfield 28, 3) := by decide +kernel
theorem dX6_didHe_21 : decode cX6_didHe 21 = .ok (.goto 7, 3) := by decide +kernel
theorem dX6_didHe_24 : decode cX6_didHe 24 = .ok (.aload_n 0, 1) := by decide +kernel
theorem dX6_didHe_25 : decode cX6_didHe 25 = .ok (.getfield 31, 3) := by decide +kernel
theorem dX6_didHe_28 : decode cX6_didHe 28 = .ok (.istore_n 3, 1) := by decide +kernel
theorem dX6_didHe_29 : decode cX6_didHe 29 = .ok (.iload_n 3, 1) := by decide +kernel
theorem dX6_didHe_30 : decode cX6_didHe 30 = .ok (.iload_n 2, 1) := by decide +kernel
theorem dX6_didHe_31 : decode cX6_didHe 31 = .ok (.ishr, 1) := by decide +kernel
theorem dX6_didHe_32 : decode cX6_didHe 32 = .ok (.iconst 1, 1) := by decide +kernel
theorem dX6_didHe_33 : decode cX6_didHe 33 = .ok (.iand, 1) := by decide +kernel
theorem dX6_didHe_34 : decode cX6_didHe 34 = .ok (.ireturn, 1) := by decide +kernel
theorem dX6_total_0 : decode cX6_total 0 = .ok (.iload_n 1, 1) := by decide +kernel
theorem dX6_total_1 : decode cX6_total 1 = .ok (.tableswitch 51 0 3 #[31, 36, 41, 46], 31) := by decide +kernel
theorem dX6_total_32 : decode cX6_total 32 = .ok (.aload_n 0, 1) := by decide +kernel
theorem dX6_total_33 : decode cX6_total 33 = .ok (.getfield 34, 3) := by decide +kernel
theorem dX6_total_36 : decode cX6_total 36 = .ok (.ireturn, 1) := by decide +kernel
theorem dX6_total_37 : decode cX6_total 37 = .ok (.aload_n 0, 1) := by decide +kernel
theorem dX6_total_38 : decode cX6_total 38 = .ok (.getfield 37, 3) := by decide +kernel
theorem dX6_total_41 : decode cX6_total 41 = .ok (.ireturn, 1) := by decide +kernel
theorem dX6_total_42 : decode cX6_total 42 = .ok (.aload_n 0, 1) := by decide +kernel
theorem dX6_total_43 : decode cX6_total 43 = .ok (.getfield 40, 3) := by decide +kernel
theorem dX6_total_46 : decode cX6_total 46 = .ok (.ireturn, 1) := by decide +kernel
theorem dX6_total_47 : decode cX6_total 47 = .ok (.aload_n 0, 1) := by decide +kernel
theorem dX6_total_48 : decode cX6_total 48 = .ok (.getfield 43, 3) := by decide +kernel
theorem dX6_total_51 : decode cX6_total 51 = .ok (.ireturn, 1) := by decide +kernel
theorem dX6_total_52 : decode cX6_total 52 = .ok (.aload_n 0, 1) := by decide +kernel
theorem dX6_total_53 : decode cX6_total 53 = .ok (.getfield 49, 3) := by decide +kernel
theorem dX6_total_56 : decode cX6_total 56 = .ok (.ireturn, 1) := by decide +kernel
theorem dX7_init_0 : decode cX7_init 0 = .ok (.aload_n 0, 1) := by decide +kernel
theorem dX7_init_1 : decode cX7_init 1 = .ok (.invokespecial 3, 3) := by decide +kernel
theorem dX7_init_4 : decode cX7_init 4 = .ok (.aload_n 0, 1) := by decide +kernel
theorem dX7_init_5 : decode cX7_init 5 = .ok (.lconst 0, 1) := by decide +kernel
theorem dX7_init_6 : decode cX7_init 6 = .ok (.putfield 9, 3) := by decide +kernel
theorem dX7_init_9 : decode cX7_init 9 = .ok (.aload_n 0, 1) := by decide +kernel
theorem dX7_init_10 : decode cX7_init 10 = .ok (.lconst 0, 1) := by decide +kernel
theorem dX7_init_11 : decode cX7_init 11 = .ok (.putfield 15, 3) := by decide +kernel
theorem dX7_init_14 : decode cX7_init 14 = .ok (.aload_n 0, 1) := by decide +kernel
theorem dX7_init_15 : decode cX7_init 15 = .ok (.lconst 1, 1) := by decide +kernel
theorem dX7_init_16 : decode cX7_init 16 = .ok (.putfield 18, 3) := by decide +kernel
theorem dX7_init_19 : decode cX7_init 19 = .ok (.aload_n 0, 1) := by decide +kernel
theorem dX7_init_20 : decode cX7_init 20 = .ok (.iconst 0, 1) := by decide +kernel
theorem dX7_init_21 : decode cX7_init 21 = .ok (.putfield 21, 3) := by decide +kernel
theorem dX7_init_24 : decode cX7_init 24 = .ok (.return_, 1) := by decide +kernel
theorem dX7_weigh_0 : decode cX7_weigh 0 = .ok (.aload_n 0, 1) := by decide +kernel
theorem dX7_weigh_1 : decode cX7_weigh 1 = .ok (.iload 4, 2) := by decide +kernel
theorem dX7_weigh_3 : decode cX7_weigh 3 = .ok (.putfield 21, 3) := by decide +kernel
theorem dX7_weigh_6 : decode cX7_weigh 6 = .ok (.aload_n 0, 1) := by decide +kernel
theorem dX7_weigh_7 : decode cX7_weigh 7 = .ok (.lconst 0, 1) := by decide +kernel
theorem dX7_weigh_8 : decode cX7_weigh 8 = .ok (.putfield 9, 3) := by decide +kernel
theorem dX7_weigh_11 : decode cX7_weigh 11 = .ok (.aload_n 0, 1) := by decide +kernel
theorem dX7_weigh_12 : decode cX7_weigh 12 = .ok (.lconst 0, 1) := by decide +kernel
theorem dX7_weigh_13 : decode cX7_weigh 13 = .ok (.putfield 15, 3) := by decide +kernel
theorem dX7_weigh_16 : decode cX7_weigh 16 = .ok (.aload_n 0, 1) := by decide +kernel
theorem dX7_weigh_17 : decode cX7_weigh 17 = .ok (.lconst 1, 1) := by decide +kernel
theorem dX7_weigh_18 : decode cX7_weigh 18 = .ok (.putfield 18, 3) := by decide +kernel
theorem dX7_weigh_21 : decode cX7_weigh 21 = .ok (.iconst 0, 1) := by decide +kernel
theorem dX7_weigh_22 : decode cX7_weigh 22 = .ok (.istore 5, 2) := by decide +kernel
theorem dX7_weigh_24 : decode cX7_weigh 24 = .ok (.iload 5, 2) := by decide +kernel
theorem dX7_weigh_26 : decode cX7_weigh 26 = .ok (.aload_n 2, 1) := by decide +kernel
theorem dX7_weigh_27 : decode cX7_weigh 27 = .ok (.getfield 25, 3) := by decide +kernel
theorem dX7_weigh_30 : decode cX7_weigh 30 = .ok (.if_icmp .ge 28, 3) := by decide +kernel
theorem dX7_weigh_33 : decode cX7_weigh 33 = .ok (.iload 5, 2) := by decide +kernel
theorem dX7_weigh_35 : decode cX7_weigh 35 = .ok (.bipush 10, 2) := by decide +kernel
theorem dX7_weigh_37 : decode cX7_weigh 37 = .ok (.if_icmp .ge 21, 3) := by decide +kernel
theorem dX7_weigh_40 : decode cX7_weigh 40 = .ok (.aload_n 0, 1) := by decide +kernel
theorem dX7_weigh_41 : decode cX7_weigh 41 = .ok (.dup, 1) := by decide +kernel
theorem dX7_weigh_42 : decode cX7_weigh 42 = .ok (.getfield 18, 3) := by decide +kernel
theorem dX7_weigh_45 : decode cX7_weigh 45 = .ok (.ldc2_w 30, 3) := by decide +kernel
theorem dX7_weigh_48 : decode cX7_weigh 48 = .ok (.lmul, 1) := by decide +kernel
theorem dX7_weigh_49 : decode cX7_weigh 49 = .ok (.putfield 18, 3) := by decide +kernel
theorem dX7_weigh_52 : decode cX7_weigh 52 = .ok (.iinc 5 1, 3) := by decide +kernel
theorem dX7_weigh_55 : decode cX7_weigh 55 = .ok (.goto (-31), 3) := by decide +kernel
theorem dX7_weigh_58 : decode cX7_weigh 58 = .ok (.aload_n 3, 1) := by decide +kernel
theorem dX7_weigh_59 : decode cX7_weigh 59 = .ok (.iconst 0, 1) := by decide +kernel
theorem dX7_weigh_60 : decode cX7_weigh 60 = .ok (.aaload, 1) := by decide +kernel
theorem dX7_weigh_61 : decode cX7_weigh 61 = .ok (.aload_n 1, 1) := by decide +kernel
theorem dX7_weigh_62 : decode cX7_weigh 62 = .ok (.invokevirtual 32, 3) := by decide +kernel
theorem dX7_weigh_65 : decode cX7_weigh 65 = .ok (.aload_n 0, 1) := by decide +kernel
theorem dX7_weigh_66 : decode cX7_weigh 66 = .ok (.aload_n 1, 1) := by decide +kernel
theorem dX7_weigh_67 : decode cX7_weigh 67 = .ok (.aload_n 2, 1) := by decide +kernel
theorem dX7_weigh_68 : decode cX7_weigh 68 = .ok (.aload_n 3, 1) := by decide +kernel
theorem dX7_weigh_69 : decode cX7_weigh 69 = .ok (.iconst 0, 1) := by decide +kernel
theorem dX7_weigh_70 : decode cX7_weigh 70 = .ok (.lconst 1, 1) := by decide +kernel
theorem dX7_weigh_71 : decode cX7_weigh 71 = .ok (.invokevirtual 38, 3) := by decide +kernel
theorem dX7_weigh_74 : decode cX7_weigh 74 = .ok (.return_, 1) := by decide +kernel
theorem dX7_goOn_0 : decode cX7_goOn 0 = .ok (.lload 5, 2) := by decide +kernel
theorem dX7_goOn_2 : decode cX7_goOn 2 = .ok (.lconst 0, 1) := by decide +kernel
theorem dX7_goOn_3 : decode cX7_goOn 3 = .ok (.lcmp, 1) := by decide +kernel
theorem dX7_goOn_4 : decode cX7_goOn 4 = .ok (.ifCond .ne 4, 3) := by decide +kernel
theorem dX7_goOn_7 : decode cX7_goOn 7 = .ok (.return_, 1) := by decide +kernel
theorem dX7_goOn_8 : decode cX7_goOn 8 = .ok (.aload_n 3, 1) := by decide +kernel
theorem dX7_goOn_9 : decode cX7_goOn 9 = .ok (.iload 4, 2) := by decide +kernel
theorem dX7_goOn_11 : decode cX7_goOn 11 = .ok (.aaload, 1) := by decide +kernel
theorem dX7_goOn_12 : decode cX7_goOn 12 = .ok (.astore 7, 2) := by decide +kernel
theorem dX7_goOn_14 : decode cX7_goOn 14 = .ok (.iload 4, 2) := by decide +kernel
theorem dX7_goOn_16 : decode cX7_goOn 16 = .ok (.aload_n 2, 1) := by decide +kernel
theorem dX7_goOn_17 : decode cX7_goOn 17 = .ok (.getfield 25, 3) := by decide +kernel
theorem dX7_goOn_20 : decode cX7_goOn 20 = .ok (.if_icmp .ge 10, 3) := by decide +kernel
theorem dX7_goOn_23 : decode cX7_goOn 23 = .ok (.iload 4, 2) := by decide +kernel
theorem dX7_goOn_25 : decode cX7_goOn 25 = .ok (.bipush 10, 2) := by decide +kernel
theorem dX7_goOn_27 : decode cX7_goOn 27 = .ok (.if_icmp .lt 45, 3) := by decide +kernel
theorem dX7_goOn_30 : decode cX7_goOn 30 = .ok (.aload_n 0, 1) := by decide +kernel
theorem dX7_goOn_31 : decode cX7_goOn 31 = .ok (.dup, 1) := by decide +kernel
theorem dX7_goOn_32 : decode cX7_goOn 32 = .ok (.getfield 9, 3) := by decide +kernel
theorem dX7_goOn_35 : decode cX7_goOn 35 = .ok (.aload 7, 2) := by decide +kernel
theorem dX7_goOn_37 : decode cX7_goOn 37 = .ok (.getfield 42, 3) := by decide +kernel
theorem dX7_goOn_40 : decode cX7_goOn 40 = .ok (.ifCond .ne 8, 3) := by decide +kernel
theorem dX7_goOn_43 : decode cX7_goOn 43 = .ok (.lload 5, 2) := by decide +kernel
theorem dX7_goOn_45 : decode cX7_goOn 45 = .ok (.goto 4, 3) := by decide +kernel
theorem dX7_goOn_48 : decode cX7_goOn 48 = .ok (.lconst 0, 1) := by decide +kernel
theorem dX7_goOn_49 : decode cX7_goOn 49 = .ok (.ladd, 1) := by decide +kernel
theorem dX7_goOn_50 : decode cX7_goOn 50 = .ok (.putfield 9, 3) := by decide +kernel
theorem dX7_goOn_53 : decode cX7_goOn 53 = .ok (.aload_n 0, 1) := by decide +kernel
theorem dX7_goOn_54 : decode cX7_goOn 54 = .ok (.dup, 1) := by decide +kernel
theorem dX7_goOn_55 : decode cX7_goOn 55 = .ok (.getfield 15, 3) := by decide +kernel
theorem dX7_goOn_58 : decode cX7_goOn 58 = .ok (.lload 5, 2) := by decide +kernel
theorem dX7_goOn_60 : decode cX7_goOn 60 = .ok (.aload 7, 2) := by decide +kernel
theorem dX7_goOn_62 : decode cX7_goOn 62 = .ok (.getfield 42, 3) := by decide +kernel
theorem dX7_goOn_65 : decode cX7_goOn 65 = .ok (.i2l, 1) := by decide +kernel
theorem dX7_goOn_66 : decode cX7_goOn 66 = .ok (.lmul, 1) := by decide +kernel
theorem dX7_goOn_67 : decode cX7_goOn 67 = .ok (.ladd, 1) := by decide +kernel
theorem dX7_goOn_68 : decode cX7_goOn 68 = .ok (.putfield 15, 3) := by decide +kernel
theorem dX7_goOn_71 : decode cX7_goOn 71 = .ok (.return_, 1) := by decide +kernel
theorem dX7_goOn_72 : decode cX7_goOn 72 = .ok (.aload_n 3, 1) := by decide +kernel
theorem dX7_goOn_73 : decode cX7_goOn 73 = .ok (.iload 4, 2) := by decide +kernel
theorem dX7_goOn_75 : decode cX7_goOn 75 = .ok (.iconst 1, 1) := by decide +kernel
theorem dX7_goOn_76 : decode cX7_goOn 76 = .ok (.iadd, 1) := by decide +kernel
theorem dX7_goOn_77 : decode cX7_goOn 77 = .ok (.aaload, 1) := by decide +kernel
theorem dX7_goOn_78 : decode cX7_goOn 78 = .ok (.astore 8, 2) := by decide +kernel
theorem dX7_goOn_80 : decode cX7_goOn 80 = .ok (.aload 8, 2) := by decide +kernel
theorem dX7_goOn_82 : decode cX7_goOn 82 = .ok (.aload 7, 2) := by decide +kernel
theorem dX7_goOn_84 : decode cX7_goOn 84 = .ok (.invokevirtual 45, 3) := by decide +kernel
theorem dX7_goOn_87 : decode cX7_goOn 87 = .ok (.aload 8, 2) := by decide +kernel
theorem dX7_goOn_89 : decode cX7_goOn 89 = .ok (.aload_n 1, 1) := by decide +kernel
theorem dX7_goOn_90 : decode cX7_goOn 90 = .ok (.aload_n 2, 1) := by decide +kernel
theorem dX7_goOn_91 : decode cX7_goOn 91 = .ok (.getfield 49, 3) := by decide +kernel
theorem dX7_goOn_94 : decode cX7_goOn 94 = .ok (.iload 4, 2) := by decide +kernel
theorem dX7_goOn_96 : decode cX7_goOn 96 = .ok (.iaload, 1) := by decide +kernel
theorem dX7_goOn_97 : decode cX7_goOn 97 = .ok (.iconst 1, 1) := by decide +kernel
theorem dX7_goOn_98 : decode cX7_goOn 98 = .ok (.invokevirtual 53, 3) := by decide +kernel
theorem dX7_goOn_101 : decode cX7_goOn 101 = .ok (.aload_n 0, 1) := by decide +kernel
theorem dX7_goOn_102 : decode cX7_goOn 102 = .ok (.aload_n 1, 1) := by decide +kernel
theorem dX7_goOn_103 : decode cX7_goOn 103 = .ok (.aload_n 2, 1) := by decide +kernel
theorem dX7_goOn_104 : decode cX7_goOn 104 = .ok (.aload_n 3, 1) := by decide +kernel
theorem dX7_goOn_105 : decode cX7_goOn 105 = .ok (.iload 4, 2) := by decide +kernel
theorem dX7_goOn_107 : decode cX7_goOn 107 = .ok (.iconst 1, 1) := by decide +kernel
theorem dX7_goOn_108 : decode cX7_goOn 108 = .ok (.iadd, 1) := by decide +kernel
theorem dX7_goOn_109 : decode cX7_goOn 109 = .ok (.lload 5, 2) := by decide +kernel
theorem dX7_goOn_111 : decode cX7_goOn 111 = .ok (.aload_n 0, 1) := by decide +kernel
theorem dX7_goOn_112 : decode cX7_goOn 112 = .ok (.getfield 21, 3) := by decide +kernel
theorem dX7_goOn_115 : decode cX7_goOn 115 = .ok (.i2l, 1) := by decide +kernel
theorem dX7_goOn_116 : decode cX7_goOn 116 = .ok (.lmul, 1) := by decide +kernel
theorem dX7_goOn_117 : decode cX7_goOn 117 = .ok (.invokevirtual 38, 3) := by decide +kernel
theorem dX7_goOn_120 : decode cX7_goOn 120 = .ok (.aload 8, 2) := by decide +kernel
theorem dX7_goOn_122 : decode cX7_goOn 122 = .ok (.aload 7, 2) := by decide +kernel
theorem dX7_goOn_124 : decode cX7_goOn 124 = .ok (.invokevirtual 45, 3) := by decide +kernel
theorem dX7_goOn_127 : decode cX7_goOn 127 = .ok (.aload 8, 2) := by decide +kernel
theorem dX7_goOn_129 : decode cX7_goOn 129 = .ok (.aload_n 1, 1) := by decide +kernel
theorem dX7_goOn_130 : decode cX7_goOn 130 = .ok (.aload_n 2, 1) := by decide +kernel
theorem dX7_goOn_131 : decode cX7_goOn 131 = .ok (.getfield 49, 3) := by decide +kernel
theorem dX7_goOn_134 : decode cX7_goOn 134 = .ok (.iload 4, 2) := by decide +kernel
theorem dX7_goOn_136 : decode cX7_goOn 136 = .ok (.iaload, 1) := by decide +kernel
theorem dX7_goOn_137 : decode cX7_goOn 137 = .ok (.iconst 0, 1) := by decide +kernel
theorem dX7_goOn_138 : decode cX7_goOn 138 = .ok (.invokevirtual 53, 3) := by decide +kernel
theorem dX7_goOn_141 : decode cX7_goOn 141 = .ok (.aload_n 0, 1) := by decide +kernel
theorem dX7_goOn_142 : decode cX7_goOn 142 = .ok (.aload_n 1, 1) := by decide +kernel
theorem dX7_goOn_143 : decode cX7_goOn 143 = .ok (.aload_n 2, 1) := by decide +kernel
theorem dX7_goOn_144 : decode cX7_goOn 144 = .ok (.aload_n 3, 1) := by decide +kernel
theorem dX7_goOn_145 : decode cX7_goOn 145 = .ok (.iload 4, 2) := by decide +kernel
theorem dX7_goOn_147 : decode cX7_goOn 147 = .ok (.iconst 1, 1) := by decide +kernel
theorem dX7_goOn_148 : decode cX7_goOn 148 = .ok (.iadd, 1) := by decide +kernel
theorem dX7_goOn_149 : decode cX7_goOn 149 = .ok (.lload 5, 2) := by decide +kernel
theorem dX7_goOn_151 : decode cX7_goOn 151 = .ok (.bipush 10, 2) := by decide +kernel
theorem dX7_goOn_153 : decode cX7_goOn 153 = .ok (.aload_n 0, 1) := by decide +kernel
theorem dX7_goOn_154 : decode cX7_goOn 154 = .ok (.getfield 21, 3) := by decide +kernel
theorem dX7_goOn_157 : decode cX7_goOn 157 = .ok (.isub, 1) := by decide +kernel
theorem dX7_goOn_158 : decode cX7_goOn 158 = .ok (.i2l, 1) := by decide +kernel
theorem dX7_goOn_159 : decode cX7_goOn 159 = .ok (.lmul, 1) := by decide +kernel
theorem dX7_goOn_160 : decode cX7_goOn 160 = .ok (.invokevirtual 38, 3) := by decide +kernel
theorem dX7_goOn_163 : decode cX7_goOn 163 = .ok (.return_, 1) := by decide +kernel
theorem dX8_init_0 : decode cX8_init 0 = .ok (.aload_n 0, 1) := by decide +kernel
theorem dX8_init_1 : decode cX8_init 1 = .ok (.invokespecial 1, 3) := by decide +kernel
theorem dX8_init_4 : decode cX8_init 4 = .ok (.aload_n 0, 1) := by decide +kernel
theorem dX8_init_5 : decode cX8_init 5 = .ok (.new 7, 3) := by decide +kernel
theorem dX8_init_8 : decode cX8_init 8 = .ok (.dup, 1) := by decide +kernel
theorem dX8_init_9 : decode cX8_init 9 = .ok (.invokespecial 9, 3) := by decide +kernel
theorem dX8_init_12 : decode cX8_init 12 = .ok (.putfield 10, 3) := by decide +kernel
theorem dX8_init_15 : decode cX8_init 15 = .ok (.aload_n 0, 1) := by decide +kernel
theorem dX8_init_16 : decode cX8_init 16 = .ok (.new 7, 3) := by decide +kernel
theorem dX8_init_19 : decode cX8_init 19 = .ok (.dup, 1) := by decide +kernel
theorem dX8_init_20 : decode cX8_init 20 = .ok (.invokespecial 9, 3) := by decide +kernel
theorem dX8_init_23 : decode cX8_init 23 = .ok (.putfield 16, 3) := by decide +kernel
theorem dX8_init_26 : decode cX8_init 26 = .ok (.aload_n 0, 1) := by decide +kernel
theorem dX8_init_27 : decode cX8_init 27 = .ok (.iconst 2, 1) := by decide +kernel
theorem dX8_init_28 : decode cX8_init 28 = .ok (.anewarray 7, 3) := by decide +kernel
theorem dX8_init_31 : decode cX8_init 31 = .ok (.putfield 19, 3) := by decide +kernel
theorem dX8_init_34 : decode cX8_init 34 = .ok (.aload_n 0, 1) := by decide +kernel
theorem dX8_init_35 : decode cX8_init 35 = .ok (.iconst 2, 1) := by decide +kernel
theorem dX8_init_36 : decode cX8_init 36 = .ok (.newarray .boolean, 2) := by decide +kernel
theorem dX8_init_38 : decode cX8_init 38 = .ok (.putfield 23, 3) := by decide +kernel
theorem dX8_init_41 : decode cX8_init 41 = .ok (.aload_n 0, 1) := by decide +kernel
theorem dX8_init_42 : decode cX8_init 42 = .ok (.new 27, 3) := by decide +kernel
theorem dX8_init_45 : decode cX8_init 45 = .ok (.dup, 1) := by decide +kernel
theorem dX8_init_46 : decode cX8_init 46 = .ok (.invokespecial 29, 3) := by decide +kernel
theorem dX8_init_49 : decode cX8_init 49 = .ok (.putfield 30, 3) := by decide +kernel
theorem dX8_init_52 : decode cX8_init 52 = .ok (.aload_n 0, 1) := by decide +kernel
theorem dX8_init_53 : decode cX8_init 53 = .ok (.bipush 11, 2) := by decide +kernel
theorem dX8_init_55 : decode cX8_init 55 = .ok (.anewarray 34, 3) := by decide +kernel
theorem dX8_init_58 : decode cX8_init 58 = .ok (.putfield 36, 3) := by decide +kernel
theorem dX8_init_61 : decode cX8_init 61 = .ok (.aload_n 0, 1) := by decide +kernel
theorem dX8_init_62 : decode cX8_init 62 = .ok (.new 40, 3) := by decide +kernel
theorem dX8_init_65 : decode cX8_init 65 = .ok (.dup, 1) := by decide +kernel
theorem dX8_init_66 : decode cX8_init 66 = .ok (.invokespecial 42, 3) := by decide +kernel
theorem dX8_init_69 : decode cX8_init 69 = .ok (.putfield 43, 3) := by decide +kernel
theorem dX8_init_72 : decode cX8_init 72 = .ok (.aload_n 0, 1) := by decide +kernel
theorem dX8_init_73 : decode cX8_init 73 = .ok (.new 47, 3) := by decide +kernel
theorem dX8_init_76 : decode cX8_init 76 = .ok (.dup, 1) := by decide +kernel
theorem dX8_init_77 : decode cX8_init 77 = .ok (.invokespecial 49, 3) := by decide +kernel
theorem dX8_init_80 : decode cX8_init 80 = .ok (.putfield 50, 3) := by decide +kernel
theorem dX8_init_83 : decode cX8_init 83 = .ok (.aload_n 0, 1) := by decide +kernel
theorem dX8_init_84 : decode cX8_init 84 = .ok (.new 54, 3) := by decide +kernel
theorem dX8_init_87 : decode cX8_init 87 = .ok (.dup, 1) := by decide +kernel
theorem dX8_init_88 : decode cX8_init 88 = .ok (.invokespecial 56, 3) := by decide +kernel
theorem dX8_init_91 : decode cX8_init 91 = .ok (.putfield 57, 3) := by decide +kernel
theorem dX8_init_94 : decode cX8_init 94 = .ok (.aload_n 0, 1) := by decide +kernel
theorem dX8_init_95 : decode cX8_init 95 = .ok (.new 61, 3) := by decide +kernel
theorem dX8_init_98 : decode cX8_init 98 = .ok (.dup, 1) := by decide +kernel
theorem dX8_init_99 : decode cX8_init 99 = .ok (.invokespecial 63, 3) := by decide +kernel
theorem dX8_init_102 : decode cX8_init 102 = .ok (.putfield 64, 3) := by decide +kernel
theorem dX8_init_105 : decode cX8_init 105 = .ok (.aload_n 0, 1) := by decide +kernel
theorem dX8_init_106 : decode cX8_init 106 = .ok (.bipush 8, 2) := by decide +kernel
theorem dX8_init_108 : decode cX8_init 108 = .ok (.newarray .long, 2) := by decide +kernel
theorem dX8_init_110 : decode cX8_init 110 = .ok (.putfield 68, 3) := by decide +kernel
theorem dX8_init_113 : decode cX8_init 113 = .ok (.iconst 0, 1) := by decide +kernel
theorem dX8_init_114 : decode cX8_init 114 = .ok (.istore_n 1, 1) := by decide +kernel
theorem dX8_init_115 : decode cX8_init 115 = .ok (.iload_n 1, 1) := by decide +kernel
theorem dX8_init_116 : decode cX8_init 116 = .ok (.iconst 2, 1) := by decide +kernel
theorem dX8_init_117 : decode cX8_init 117 = .ok (.if_icmp .ge 22, 3) := by decide +kernel
theorem dX8_init_120 : decode cX8_init 120 = .ok (.aload_n 0, 1) := by decide +kernel
theorem dX8_init_121 : decode cX8_init 121 = .ok (.getfield 19, 3) := by decide +kernel
theorem dX8_init_124 : decode cX8_init 124 = .ok (.iload_n 1, 1) := by decide +kernel
theorem dX8_init_125 : decode cX8_init 125 = .ok (.new 7, 3) := by decide +kernel
theorem dX8_init_128 : decode cX8_init 128 = .ok (.dup, 1) := by decide +kernel
theorem dX8_init_129 : decode cX8_init 129 = .ok (.invokespecial 9, 3) := by decide +kernel
theorem dX8_init_132 : decode cX8_init 132 = .ok (.aastore, 1) := by decide +kernel
theorem dX8_init_133 : decode cX8_init 133 = .ok (.iinc 1 1, 3) := by decide +kernel
theorem dX8_init_136 : decode cX8_init 136 = .ok (.goto (-21), 3) := by decide +kernel
theorem dX8_init_139 : decode cX8_init 139 = .ok (.iconst 0, 1) := by decide +kernel
theorem dX8_init_140 : decode cX8_init 140 = .ok (.istore_n 1, 1) := by decide +kernel
theorem dX8_init_141 : decode cX8_init 141 = .ok (.iload_n 1, 1) := by decide +kernel
theorem dX8_init_142 : decode cX8_init 142 = .ok (.bipush 10, 2) := by decide +kernel
theorem dX8_init_144 : decode cX8_init 144 = .ok (.if_icmp .gt 22, 3) := by decide +kernel
theorem dX8_init_147 : decode cX8_init 147 = .ok (.aload_n 0, 1) := by decide +kernel
theorem dX8_init_148 : decode cX8_init 148 = .ok (.getfield 36, 3) := by decide +kernel
theorem dX8_init_151 : decode cX8_init 151 = .ok (.iload_n 1, 1) := by decide +kernel
theorem dX8_init_152 : decode cX8_init 152 = .ok (.new 34, 3) := by decide +kernel
theorem dX8_init_155 : decode cX8_init 155 = .ok (.dup, 1) := by decide +kernel
theorem dX8_init_156 : decode cX8_init 156 = .ok (.invokespecial 72, 3) := by decide +kernel
theorem dX8_init_159 : decode cX8_init 159 = .ok (.aastore, 1) := by decide +kernel
theorem dX8_init_160 : decode cX8_init 160 = .ok (.iinc 1 1, 3) := by decide +kernel
theorem dX8_init_163 : decode cX8_init 163 = .ok (.goto (-22), 3) := by decide +kernel
theorem dX8_init_166 : decode cX8_init 166 = .ok (.return_, 1) := by decide +kernel
theorem dX8_church_0 : decode cX8_church 0 = .ok (.iload_n 1, 1) := by decide +kernel
theorem dX8_church_1 : decode cX8_church 1 = .ok (.iconst 1, 1) := by decide +kernel
theorem dX8_church_2 : decode cX8_church 2 = .ok (.iconst 3, 1) := by decide +kernel
theorem dX8_church_3 : decode cX8_church 3 = .ok (.invokestatic 73, 3) := by decide +kernel
theorem dX8_church_6 : decode cX8_church 6 = .ok (.ifCond .eq 6, 3) := by decide +kernel
theorem dX8_church_9 : decode cX8_church 9 = .ok (.bipush (-2), 2) := by decide +kernel
theorem dX8_church_11 : decode cX8_church 11 = .ok (.ireturn, 1) := by decide +kernel
theorem dX8_church_12 : decode cX8_church 12 = .ok (.aload_n 0, 1) := by decide +kernel
theorem dX8_church_13 : decode cX8_church 13 = .ok (.getfield 10, 3) := by decide +kernel
theorem dX8_church_16 : decode cX8_church 16 = .ok (.getfield 77, 3) := by decide +kernel
theorem dX8_church_19 : decode cX8_church 19 = .ok (.istore_n 2, 1) := by decide +kernel
theorem dX8_church_20 : decode cX8_church 20 = .ok (.aload_n 0, 1) := by decide +kernel
theorem dX8_church_21 : decode cX8_church 21 = .ok (.getfield 10, 3) := by decide +kernel
theorem dX8_church_24 : decode cX8_church 24 = .ok (.iload_n 1, 1) := by decide +kernel
theorem dX8_church_25 : decode cX8_church 25 = .ok (.invokevirtual 81, 3) := by decide +kernel
theorem dX8_church_28 : decode cX8_church 28 = .ok (.iload_n 2, 1) := by decide +kernel
theorem dX8_church_29 : decode cX8_church 29 = .ok (.ireturn, 1) := by decide +kernel
theorem dX8_hearer_0 : decode cX8_hearer 0 = .ok (.iload_n 1, 1) := by decide +kernel
theorem dX8_hearer_1 : decode cX8_hearer 1 = .ok (.iconst 0, 1) := by decide +kernel
theorem dX8_hearer_2 : decode cX8_hearer 2 = .ok (.bipush 7, 2) := by decide +kernel
theorem dX8_hearer_4 : decode cX8_hearer 4 = .ok (.invokestatic 73, 3) := by decide +kernel
theorem dX8_hearer_7 : decode cX8_hearer 7 = .ok (.ifCond .ne 20, 3) := by decide +kernel
theorem dX8_hearer_10 : decode cX8_hearer 10 = .ok (.iload_n 2, 1) := by decide +kernel
theorem dX8_hearer_11 : decode cX8_hearer 11 = .ok (.iconst 0, 1) := by decide +kernel
theorem dX8_hearer_12 : decode cX8_hearer 12 = .ok (.aload_n 0, 1) := by decide +kernel
theorem dX8_hearer_13 : decode cX8_hearer 13 = .ok (.getfield 10, 3) := by decide +kernel
theorem dX8_hearer_16 : decode cX8_hearer 16 = .ok (.invokevirtual 85, 3) := by decide +kernel
theorem dX8_hearer_19 : decode cX8_hearer 19 = .ok (.iconst 1, 1) := by decide +kernel
theorem dX8_hearer_20 : decode cX8_hearer 20 = .ok (.isub, 1) := by decide +kernel
theorem dX8_hearer_21 : decode cX8_hearer 21 = .ok (.invokestatic 73, 3) := by decide +kernel
theorem dX8_hearer_24 : decode cX8_hearer 24 = .ok (.ifCond .eq 5, 3) := by decide +kernel
theorem dX8_hearer_27 : decode cX8_hearer 27 = .ok (.iconst (-1), 1) := by decide +kernel
theorem dX8_hearer_28 : decode cX8_hearer 28 = .ok (.ireturn, 1) := by decide +kernel
theorem dX8_hearer_29 : decode cX8_hearer 29 = .ok (.iload_n 3, 1) := by decide +kernel
theorem dX8_hearer_30 : decode cX8_hearer 30 = .ok (.iconst 0, 1) := by decide +kernel
theorem dX8_hearer_31 : decode cX8_hearer 31 = .ok (.bipush 20, 2) := by decide +kernel
theorem dX8_hearer_33 : decode cX8_hearer 33 = .ok (.invokestatic 73, 3) := by decide +kernel
theorem dX8_hearer_36 : decode cX8_hearer 36 = .ok (.ifCond .ne 23, 3) := by decide +kernel
theorem dX8_hearer_39 : decode cX8_hearer 39 = .ok (.iload 4, 2) := by decide +kernel
theorem dX8_hearer_41 : decode cX8_hearer 41 = .ok (.iconst 0, 1) := by decide +kernel
theorem dX8_hearer_42 : decode cX8_hearer 42 = .ok (.iconst 5, 1) := by decide +kernel
theorem dX8_hearer_43 : decode cX8_hearer 43 = .ok (.invokestatic 73, 3) := by decide +kernel
theorem dX8_hearer_46 : decode cX8_hearer 46 = .ok (.ifCond .ne 13, 3) := by decide +kernel
theorem dX8_hearer_49 : decode cX8_hearer 49 = .ok (.iload 5, 2) := by decide +kernel
theorem dX8_hearer_51 : decode cX8_hearer 51 = .ok (.iconst 0, 1) := by decide +kernel
theorem dX8_hearer_52 : decode cX8_hearer 52 = .ok (.iconst 1, 1) := by decide +kernel
theorem dX8_hearer_53 : decode cX8_hearer 53 = .ok (.invokestatic 73, 3) := by decide +kernel
theorem dX8_hearer_56 : decode cX8_hearer 56 = .ok (.ifCond .eq 6, 3) := by decide +kernel
theorem dX8_hearer_59 : decode cX8_hearer 59 = .ok (.bipush (-2), 2) := by decide +kernel
theorem dX8_hearer_61 : decode cX8_hearer 61 = .ok (.ireturn, 1) := by decide +kernel
theorem dX8_hearer_62 : decode cX8_hearer 62 = .ok (.aload_n 0, 1) := by decide +kernel
theorem dX8_hearer_63 : decode cX8_hearer 63 = .ok (.getfield 10, 3) := by decide +kernel
theorem dX8_hearer_66 : decode cX8_hearer 66 = .ok (.iload_n 2, 1) := by decide +kernel
theorem dX8_hearer_67 : decode cX8_hearer 67 = .ok (.invokevirtual 89, 3) := by decide +kernel
theorem dX8_hearer_70 : decode cX8_hearer 70 = .ok (.istore 7, 2) := by decide +kernel
theorem dX8_hearer_72 : decode cX8_hearer 72 = .ok (.iload 7, 2) := by decide +kernel
theorem dX8_hearer_74 : decode cX8_hearer 74 = .ok (.bipush (-6), 2) := by decide +kernel
theorem dX8_hearer_76 : decode cX8_hearer 76 = .ok (.if_icmp .eq 12, 3) := by decide +kernel
theorem dX8_hearer_79 : decode cX8_hearer 79 = .ok (.iload 7, 2) := by decide +kernel
theorem dX8_hearer_81 : decode cX8_hearer 81 = .ok (.iload_n 1, 1) := by decide +kernel
theorem dX8_hearer_82 : decode cX8_hearer 82 = .ok (.if_icmp .eq 6, 3) := by decide +kernel
theorem dX8_hearer_85 : decode cX8_hearer 85 = .ok (.bipush (-3), 2) := by decide +kernel
theorem dX8_hearer_87 : decode cX8_hearer 87 = .ok (.ireturn, 1) := by decide +kernel
theorem dX8_hearer_88 : decode cX8_hearer 88 = .ok (.aload_n 0, 1) := by decide +kernel
theorem dX8_hearer_89 : decode cX8_hearer 89 = .ok (.getfield 10, 3) := by decide +kernel
theorem dX8_hearer_92 : decode cX8_hearer 92 = .ok (.getfield 93, 3) := by decide +kernel
theorem dX8_hearer_95 : decode cX8_hearer 95 = .ok (.iload_n 1, 1) := by decide +kernel
theorem dX8_hearer_96 : decode cX8_hearer 96 = .ok (.iload_n 2, 1) := by decide +kernel
theorem dX8_hearer_97 : decode cX8_hearer 97 = .ok (.iastore, 1) := by decide +kernel
theorem dX8_hearer_98 : decode cX8_hearer 98 = .ok (.aload_n 0, 1) := by decide +kernel
theorem dX8_hearer_99 : decode cX8_hearer 99 = .ok (.getfield 10, 3) := by decide +kernel
theorem dX8_hearer_102 : decode cX8_hearer 102 = .ok (.getfield 97, 3) := by decide +kernel
theorem dX8_hearer_105 : decode cX8_hearer 105 = .ok (.iload_n 1, 1) := by decide +kernel
theorem dX8_hearer_106 : decode cX8_hearer 106 = .ok (.iload_n 3, 1) := by decide +kernel
theorem dX8_hearer_107 : decode cX8_hearer 107 = .ok (.iastore, 1) := by decide +kernel
theorem dX8_hearer_108 : decode cX8_hearer 108 = .ok (.aload_n 0, 1) := by decide +kernel
theorem dX8_hearer_109 : decode cX8_hearer 109 = .ok (.getfield 10, 3) := by decide +kernel
theorem dX8_hearer_112 : decode cX8_hearer 112 = .ok (.getfield 100, 3) := by decide +kernel
theorem dX8_hearer_115 : decode cX8_hearer 115 = .ok (.iload_n 1, 1) := by decide +kernel
theorem dX8_hearer_116 : decode cX8_hearer 116 = .ok (.iload 4, 2) := by decide +kernel
theorem dX8_hearer_118 : decode cX8_hearer 118 = .ok (.iastore, 1) := by decide +kernel
theorem dX8_hearer_119 : decode cX8_hearer 119 = .ok (.aload_n 0, 1) := by decide +kernel
theorem dX8_hearer_120 : decode cX8_hearer 120 = .ok (.getfield 10, 3) := by decide +kernel
theorem dX8_hearer_123 : decode cX8_hearer 123 = .ok (.getfield 103, 3) := by decide +kernel
theorem dX8_hearer_126 : decode cX8_hearer 126 = .ok (.iload_n 1, 1) := by decide +kernel
theorem dX8_hearer_127 : decode cX8_hearer 127 = .ok (.iload 5, 2) := by decide +kernel
theorem dX8_hearer_129 : decode cX8_hearer 129 = .ok (.iastore, 1) := by decide +kernel
theorem dX8_hearer_130 : decode cX8_hearer 130 = .ok (.aload_n 0, 1) := by decide +kernel
theorem dX8_hearer_131 : decode cX8_hearer 131 = .ok (.getfield 10, 3) := by decide +kernel
theorem dX8_hearer_134 : decode cX8_hearer 134 = .ok (.dup, 1) := by decide +kernel
theorem dX8_hearer_135 : decode cX8_hearer 135 = .ok (.getfield 106, 3) := by decide +kernel
theorem dX8_hearer_138 : decode cX8_hearer 138 = .ok (.iconst 1, 1) := by decide +kernel
theorem dX8_hearer_139 : decode cX8_hearer 139 = .ok (.iload_n 1, 1) := by decide +kernel
theorem dX8_hearer_140 : decode cX8_hearer 140 = .ok (.ishl, 1) := by decide +kernel
theorem dX8_hearer_141 : decode cX8_hearer 141 = .ok (.ior, 1) := by decide +kernel
theorem dX8_hearer_142 : decode cX8_hearer 142 = .ok (.putfield 106, 3) := by decide +kernel
theorem dX8_hearer_145 : decode cX8_hearer 145 = .ok (.aload_n 0, 1) := by decide +kernel
theorem dX8_hearer_146 : decode cX8_hearer 146 = .ok (.getfield 10, 3) := by decide +kernel
theorem dX8_hearer_149 : decode cX8_hearer 149 = .ok (.iload 6, 2) := by decide +kernel
theorem dX8_hearer_151 : decode cX8_hearer 151 = .ok (.ifCond .eq 17, 3) := by decide +kernel
theorem dX8_hearer_154 : decode cX8_hearer 154 = .ok (.aload_n 0, 1) := by decide +kernel
theorem dX8_hearer_155 : decode cX8_hearer 155 = .ok (.getfield 10, 3) := by decide +kernel
theorem dX8_hearer_158 : decode cX8_hearer 158 = .ok (.getfield 109, 3) := by decide +kernel
theorem dX8_hearer_161 : decode cX8_hearer 161 = .ok (.iconst 1, 1) := by decide +kernel
theorem dX8_hearer_162 : decode cX8_hearer 162 = .ok (.iload_n 1, 1) := by decide +kernel
theorem dX8_hearer_163 : decode cX8_hearer 163 = .ok (.ishl, 1) := by decide +kernel
theorem dX8_hearer_164 : decode cX8_hearer 164 = .ok (.ior, 1) := by decide +kernel
theorem dX8_hearer_165 : decode cX8_hearer 165 = .ok (.goto 16, 3) := by decide +kernel
theorem dX8_hearer_168 : decode cX8_hearer 168 = .ok (.aload_n 0, 1) := by decide +kernel
theorem dX8_hearer_169 : decode cX8_hearer 169 = .ok (.getfield 10, 3) := by decide +kernel
theorem dX8_hearer_172 : decode cX8_hearer 172 = .ok (.getfield 109, 3) := by decide +kernel
theorem dX8_hearer_175 : decode cX8_hearer 175 = .ok (.iconst 1, 1) := by decide +kernel
theorem dX8_hearer_176 : decode cX8_hearer 176 = .ok (.iload_n 1, 1) := by decide +kernel
theorem dX8_hearer_177 : decode cX8_hearer 177 = .ok (.ishl, 1) := by decide +kernel
theorem dX8_hearer_178 : decode cX8_hearer 178 = .ok (.iconst (-1), 1) := by decide +kernel
theorem dX8_hearer_179 : decode cX8_hearer 179 = .ok (.ixor, 1) := by decide +kernel
theorem dX8_hearer_180 : decode cX8_hearer 180 = .ok (.iand, 1) := by decide +kernel
theorem dX8_hearer_181 : decode cX8_hearer 181 = .ok (.putfield 109, 3) := by decide +kernel
theorem dX8_hearer_184 : decode cX8_hearer 184 = .ok (.aload_n 0, 1) := by decide +kernel
theorem dX8_hearer_185 : decode cX8_hearer 185 = .ok (.getfield 10, 3) := by decide +kernel
theorem dX8_hearer_188 : decode cX8_hearer 188 = .ok (.invokevirtual 112, 3) := by decide +kernel
theorem dX8_hearer_191 : decode cX8_hearer 191 = .ok (.ireturn, 1) := by decide +kernel
theorem dX8_leave_0 : decode cX8_leave 0 = .ok (.aload_n 0, 1) := by decide +kernel
theorem dX8_leave_1 : decode cX8_leave 1 = .ok (.getfield 10, 3) := by decide +kernel
theorem dX8_leave_4 : decode cX8_leave 4 = .ok (.iload_n 1, 1) := by decide +kernel
theorem dX8_leave_5 : decode cX8_leave 5 = .ok (.invokevirtual 115, 3) := by decide +kernel
theorem dX8_leave_8 : decode cX8_leave 8 = .ok (.ifCond .ne 5, 3) := by decide +kernel
theorem dX8_leave_11 : decode cX8_leave 11 = .ok (.iconst (-1), 1) := by decide +kernel
theorem dX8_leave_12 : decode cX8_leave 12 = .ok (.ireturn, 1) := by decide +kernel
theorem dX8_leave_13 : decode cX8_leave 13 = .ok (.aload_n 0, 1) := by decide +kernel
theorem dX8_leave_14 : decode cX8_leave 14 = .ok (.getfield 10, 3) := by decide +kernel
theorem dX8_leave_17 : decode cX8_leave 17 = .ok (.dup, 1) := by decide +kernel
theorem dX8_leave_18 : decode cX8_leave 18 = .ok (.getfield 106, 3) := by decide +kernel
theorem dX8_leave_21 : decode cX8_leave 21 = .ok (.iconst 1, 1) := by decide +kernel
theorem dX8_leave_22 : decode cX8_leave 22 = .ok (.iload_n 1, 1) := by decide +kernel
theorem dX8_leave_23 : decode cX8_leave 23 = .ok (.ishl, 1) := by decide +kernel
theorem dX8_leave_24 : decode cX8_leave 24 = .ok (.iconst (-1), 1) := by decide +kernel
theorem dX8_leave_25 : decode cX8_leave 25 = .ok (.ixor, 1) := by decide +kernel
theorem dX8_leave_26 : decode cX8_leave 26 = .ok (.iand, 1) := by decide +kernel
theorem dX8_leave_27 : decode cX8_leave 27 = .ok (.putfield 106, 3) := by decide +kernel
theorem dX8_leave_30 : decode cX8_leave 30 = .ok (.aload_n 0, 1) := by decide +kernel
theorem dX8_leave_31 : decode cX8_leave 31 = .ok (.getfield 10, 3) := by decide +kernel
theorem dX8_leave_34 : decode cX8_leave 34 = .ok (.dup, 1) := by decide +kernel
theorem dX8_leave_35 : decode cX8_leave 35 = .ok (.getfield 109, 3) := by decide +kernel
theorem dX8_leave_38 : decode cX8_leave 38 = .ok (.iconst 1, 1) := by decide +kernel
theorem dX8_leave_39 : decode cX8_leave 39 = .ok (.iload_n 1, 1) := by decide +kernel
theorem dX8_leave_40 : decode cX8_leave 40 = .ok (.ishl, 1) := by decide +kernel
theorem dX8_leave_41 : decode cX8_leave 41 = .ok (.iconst (-1), 1) := by decide +kernel
theorem dX8_leave_42 : decode cX8_leave 42 = .ok (.ixor, 1) := by decide +kernel
theorem dX8_leave_43 : decode cX8_leave 43 = .ok (.iand, 1) := by decide +kernel
theorem dX8_leave_44 : decode cX8_leave 44 = .ok (.putfield 109, 3) := by decide +kernel
theorem dX8_leave_47 : decode cX8_leave 47 = .ok (.aload_n 0, 1) := by decide +kernel
theorem dX8_leave_48 : decode cX8_leave 48 = .ok (.getfield 10, 3) := by decide +kernel
theorem dX8_leave_51 : decode cX8_leave 51 = .ok (.invokevirtual 112, 3) := by decide +kernel
theorem dX8_leave_54 : decode cX8_leave 54 = .ok (.ireturn, 1) := by decide +kernel
theorem dX8_set_0 : decode cX8_set 0 = .ok (.iload_n 1, 1) := by decide +kernel
theorem dX8_set_1 : decode cX8_set 1 = .ok (.tableswitch 98 0 2 #[27, 51, 75], 27) := by decide +kernel
theorem dX8_set_28 : decode cX8_set 28 = .ok (.iload_n 2, 1) := by decide +kernel
theorem dX8_set_29 : decode cX8_set 29 = .ok (.iconst 1, 1) := by decide +kernel
theorem dX8_set_30 : decode cX8_set 30 = .ok (.bipush 9, 2) := by decide +kernel
theorem dX8_set_32 : decode cX8_set 32 = .ok (.invokestatic 73, 3) := by decide +kernel
theorem dX8_set_35 : decode cX8_set 35 = .ok (.ifCond .eq 8, 3) := by decide +kernel
theorem dX8_set_38 : decode cX8_set 38 = .ok (.bipush (-2), 2) := by decide +kernel
theorem dX8_set_40 : decode cX8_set 40 = .ok (.goto 11, 3) := by decide +kernel
theorem dX8_set_43 : decode cX8_set 43 = .ok (.aload_n 0, 1) := by decide +kernel
theorem dX8_set_44 : decode cX8_set 44 = .ok (.getfield 10, 3) := by decide +kernel
theorem dX8_set_47 : decode cX8_set 47 = .ok (.iload_n 2, 1) := by decide +kernel
theorem dX8_set_48 : decode cX8_set 48 = .ok (.invokevirtual 119, 3) := by decide +kernel
theorem dX8_set_51 : decode cX8_set 51 = .ok (.ireturn, 1) := by decide +kernel
theorem dX8_set_52 : decode cX8_set 52 = .ok (.iload_n 2, 1) := by decide +kernel
theorem dX8_set_53 : decode cX8_set 53 = .ok (.iconst 0, 1) := by decide +kernel
theorem dX8_set_54 : decode cX8_set 54 = .ok (.bipush 9, 2) := by decide +kernel
theorem dX8_set_56 : decode cX8_set 56 = .ok (.invokestatic 73, 3) := by decide +kernel
theorem dX8_set_59 : decode cX8_set 59 = .ok (.ifCond .eq 8, 3) := by decide +kernel
theorem dX8_set_62 : decode cX8_set 62 = .ok (.bipush (-2), 2) := by decide +kernel
theorem dX8_set_64 : decode cX8_set 64 = .ok (.goto 11, 3) := by decide +kernel
theorem dX8_set_67 : decode cX8_set 67 = .ok (.aload_n 0, 1) := by decide +kernel
theorem dX8_set_68 : decode cX8_set 68 = .ok (.getfield 10, 3) := by decide +kernel
theorem dX8_set_71 : decode cX8_set 71 = .ok (.iload_n 2, 1) := by decide +kernel
theorem dX8_set_72 : decode cX8_set 72 = .ok (.invokevirtual 122, 3) := by decide +kernel
theorem dX8_set_75 : decode cX8_set 75 = .ok (.ireturn, 1) := by decide +kernel
theorem dX8_set_76 : decode cX8_set 76 = .ok (.iload_n 2, 1) := by decide +kernel
theorem dX8_set_77 : decode cX8_set 77 = .ok (.iconst 0, 1) := by decide +kernel
theorem dX8_set_78 : decode cX8_set 78 = .ok (.iconst 2, 1) := by decide +kernel
theorem dX8_set_79 : decode cX8_set 79 = .ok (.invokestatic 73, 3) := by decide +kernel
theorem dX8_set_82 : decode cX8_set 82 = .ok (.ifCond .eq 8, 3) := by decide +kernel
theorem dX8_set_85 : decode cX8_set 85 = .ok (.bipush (-2), 2) := by decide +kernel
theorem dX8_set_87 : decode cX8_set 87 = .ok (.goto 11, 3) := by decide +kernel
theorem dX8_set_90 : decode cX8_set 90 = .ok (.aload_n 0, 1) := by decide +kernel
theorem dX8_set_91 : decode cX8_set 91 = .ok (.getfield 10, 3) := by decide +kernel
theorem dX8_set_94 : decode cX8_set 94 = .ok (.iload_n 2, 1) := by decide +kernel
theorem dX8_set_95 : decode cX8_set 95 = .ok (.invokevirtual 125, 3) := by decide +kernel
theorem dX8_set_98 : decode cX8_set 98 = .ok (.ireturn, 1) := by decide +kernel
theorem dX8_set_99 : decode cX8_set 99 = .ok (.bipush (-2), 2) := by decide +kernel
theorem dX8_set_101 : decode cX8_set 101 = .ok (.ireturn, 1) := by decide +kernel
theorem dX8_say_0 : decode cX8_say 0 = .ok (.iload_n 1, 1) := by decide +kernel
theorem dX8_say_1 : decode cX8_say 1 = .ok (.bipush 33, 2) := by decide +kernel
theorem dX8_say_3 : decode cX8_say 3 = .ok (.bipush 126, 2) := by decide +kernel
theorem dX8_say_5 : decode cX8_say 5 = .ok (.invokestatic 73, 3) := by decide +kernel
theorem dX8_say_8 : decode cX8_say 8 = .ok (.ifCond .eq 6, 3) := by decide +kernel
theorem dX8_say_11 : decode cX8_say 11 = .ok (.bipush (-2), 2) := by decide +kernel
theorem dX8_say_13 : decode cX8_say 13 = .ok (.ireturn, 1) := by decide +kernel
theorem dX8_say_14 : decode cX8_say 14 = .ok (.aload_n 0, 1) := by decide +kernel
theorem dX8_say_15 : decode cX8_say 15 = .ok (.getfield 30, 3) := by decide +kernel
theorem dX8_say_18 : decode cX8_say 18 = .ok (.getfield 128, 3) := by decide +kernel
theorem dX8_say_21 : decode cX8_say 21 = .ok (.bipush 60, 2) := by decide +kernel
theorem dX8_say_23 : decode cX8_say 23 = .ok (.if_icmp .lt 6, 3) := by decide +kernel
theorem dX8_say_26 : decode cX8_say 26 = .ok (.bipush (-4), 2) := by decide +kernel
theorem dX8_say_28 : decode cX8_say 28 = .ok (.ireturn, 1) := by decide +kernel
theorem dX8_say_29 : decode cX8_say 29 = .ok (.aload_n 0, 1) := by decide +kernel
theorem dX8_say_30 : decode cX8_say 30 = .ok (.getfield 30, 3) := by decide +kernel
theorem dX8_say_33 : decode cX8_say 33 = .ok (.getfield 131, 3) := by decide +kernel
theorem dX8_say_36 : decode cX8_say 36 = .ok (.aload_n 0, 1) := by decide +kernel
theorem dX8_say_37 : decode cX8_say 37 = .ok (.getfield 30, 3) := by decide +kernel
theorem dX8_say_40 : decode cX8_say 40 = .ok (.getfield 128, 3) := by decide +kernel
theorem dX8_say_43 : decode cX8_say 43 = .ok (.iload_n 1, 1) := by decide +kernel
theorem dX8_say_44 : decode cX8_say 44 = .ok (.iastore, 1) := by decide +kernel
theorem dX8_say_45 : decode cX8_say 45 = .ok (.aload_n 0, 1) := by decide +kernel
theorem dX8_say_46 : decode cX8_say 46 = .ok (.getfield 30, 3) := by decide +kernel
theorem dX8_say_49 : decode cX8_say 49 = .ok (.dup, 1) := by decide +kernel
theorem dX8_say_50 : decode cX8_say 50 = .ok (.getfield 128, 3) := by decide +kernel
theorem dX8_say_53 : decode cX8_say 53 = .ok (.iconst 1, 1) := by decide +kernel
theorem dX8_say_54 : decode cX8_say 54 = .ok (.iadd, 1) := by decide +kernel
theorem dX8_say_55 : decode cX8_say 55 = .ok (.putfield 128, 3) := by decide +kernel
theorem dX8_say_58 : decode cX8_say 58 = .ok (.aload_n 0, 1) := by decide +kernel
theorem dX8_say_59 : decode cX8_say 59 = .ok (.getfield 30, 3) := by decide +kernel
theorem dX8_say_62 : decode cX8_say 62 = .ok (.getfield 128, 3) := by decide +kernel
theorem dX8_say_65 : decode cX8_say 65 = .ok (.ireturn, 1) := by decide +kernel
theorem dX8_wipe_0 : decode cX8_wipe 0 = .ok (.aload_n 0, 1) := by decide +kernel
theorem dX8_wipe_1 : decode cX8_wipe 1 = .ok (.getfield 30, 3) := by decide +kernel
theorem dX8_wipe_4 : decode cX8_wipe 4 = .ok (.getfield 128, 3) := by decide +kernel
theorem dX8_wipe_7 : decode cX8_wipe 7 = .ok (.istore_n 1, 1) := by decide +kernel
theorem dX8_wipe_8 : decode cX8_wipe 8 = .ok (.aload_n 0, 1) := by decide +kernel
theorem dX8_wipe_9 : decode cX8_wipe 9 = .ok (.getfield 30, 3) := by decide +kernel
theorem dX8_wipe_12 : decode cX8_wipe 12 = .ok (.iconst 0, 1) := by decide +kernel
theorem dX8_wipe_13 : decode cX8_wipe 13 = .ok (.putfield 128, 3) := by decide +kernel
theorem dX8_wipe_16 : decode cX8_wipe 16 = .ok (.iload_n 1, 1) := by decide +kernel
theorem dX8_wipe_17 : decode cX8_wipe 17 = .ok (.ireturn, 1) := by decide +kernel
theorem dX8_fault_0 : decode cX8_fault 0 = .ok (.aload_n 0, 1) := by decide +kernel
theorem dX8_fault_1 : decode cX8_fault 1 = .ok (.getfield 30, 3) := by decide +kernel
theorem dX8_fault_4 : decode cX8_fault 4 = .ok (.invokevirtual 134, 3) := by decide +kernel
theorem dX8_fault_7 : decode cX8_fault 7 = .ok (.ireturn, 1) := by decide +kernel
theorem dX8_heard_0 : decode cX8_heard 0 = .ok (.aload_n 0, 1) := by decide +kernel
theorem dX8_heard_1 : decode cX8_heard 1 = .ok (.getfield 10, 3) := by decide +kernel
theorem dX8_heard_4 : decode cX8_heard 4 = .ok (.iload_n 1, 1) := by decide +kernel
theorem dX8_heard_5 : decode cX8_heard 5 = .ok (.invokevirtual 115, 3) := by decide +kernel
theorem dX8_heard_8 : decode cX8_heard 8 = .ok (.ifCond .ne 5, 3) := by decide +kernel
theorem dX8_heard_11 : decode cX8_heard 11 = .ok (.iconst (-1), 1) := by decide +kernel
theorem dX8_heard_12 : decode cX8_heard 12 = .ok (.ireturn, 1) := by decide +kernel
theorem dX8_heard_13 : decode cX8_heard 13 = .ok (.iload_n 3, 1) := by decide +kernel
theorem dX8_heard_14 : decode cX8_heard 14 = .ok (.iconst 0, 1) := by decide +kernel
theorem dX8_heard_15 : decode cX8_heard 15 = .ok (.iconst 3, 1) := by decide +kernel
theorem dX8_heard_16 : decode cX8_heard 16 = .ok (.invokestatic 73, 3) := by decide +kernel
theorem dX8_heard_19 : decode cX8_heard 19 = .ok (.ifCond .eq 6, 3) := by decide +kernel
theorem dX8_heard_22 : decode cX8_heard 22 = .ok (.bipush (-2), 2) := by decide +kernel
theorem dX8_heard_24 : decode cX8_heard 24 = .ok (.ireturn, 1) := by decide +kernel
theorem dX8_heard_25 : decode cX8_heard 25 = .ok (.aload_n 0, 1) := by decide +kernel
theorem dX8_heard_26 : decode cX8_heard 26 = .ok (.getfield 30, 3) := by decide +kernel
theorem dX8_heard_29 : decode cX8_heard 29 = .ok (.invokevirtual 137, 3) := by decide +kernel
theorem dX8_heard_32 : decode cX8_heard 32 = .ok (.ifCond .eq 6, 3) := by decide +kernel
theorem dX8_heard_35 : decode cX8_heard 35 = .ok (.bipush (-5), 2) := by decide +kernel
theorem dX8_heard_37 : decode cX8_heard 37 = .ok (.ireturn, 1) := by decide +kernel
theorem dX8_heard_38 : decode cX8_heard 38 = .ok (.iload_n 2, 1) := by decide +kernel
theorem dX8_heard_39 : decode cX8_heard 39 = .ok (.iconst 0, 1) := by decide +kernel
theorem dX8_heard_40 : decode cX8_heard 40 = .ok (.aload_n 0, 1) := by decide +kernel
theorem dX8_heard_41 : decode cX8_heard 41 = .ok (.getfield 30, 3) := by decide +kernel
theorem dX8_heard_44 : decode cX8_heard 44 = .ok (.getfield 128, 3) := by decide +kernel
theorem dX8_heard_47 : decode cX8_heard 47 = .ok (.iconst 1, 1) := by decide +kernel
theorem dX8_heard_48 : decode cX8_heard 48 = .ok (.isub, 1) := by decide +kernel
theorem dX8_heard_49 : decode cX8_heard 49 = .ok (.invokestatic 73, 3) := by decide +kernel
theorem dX8_heard_52 : decode cX8_heard 52 = .ok (.ifCond .eq 6, 3) := by decide +kernel
theorem dX8_heard_55 : decode cX8_heard 55 = .ok (.bipush (-2), 2) := by decide +kernel
theorem dX8_heard_57 : decode cX8_heard 57 = .ok (.ireturn, 1) := by decide +kernel
theorem dX8_heard_58 : decode cX8_heard 58 = .ok (.aload_n 0, 1) := by decide +kernel
theorem dX8_heard_59 : decode cX8_heard 59 = .ok (.iload_n 2, 1) := by decide +kernel
theorem dX8_heard_60 : decode cX8_heard 60 = .ok (.iconst 1, 1) := by decide +kernel
theorem dX8_heard_61 : decode cX8_heard 61 = .ok (.iadd, 1) := by decide +kernel
theorem dX8_heard_62 : decode cX8_heard 62 = .ok (.invokevirtual 141, 3) := by decide +kernel
theorem dX8_heard_65 : decode cX8_heard 65 = .ok (.astore 4, 2) := by decide +kernel
theorem dX8_heard_67 : decode cX8_heard 67 = .ok (.iload_n 3, 1) := by decide +kernel
theorem dX8_heard_68 : decode cX8_heard 68 = .ok (.ifCond .ne 13, 3) := by decide +kernel
theorem dX8_heard_71 : decode cX8_heard 71 = .ok (.aload 4, 2) := by decide +kernel
theorem dX8_heard_73 : decode cX8_heard 73 = .ok (.getfield 145, 3) := by decide +kernel
theorem dX8_heard_76 : decode cX8_heard 76 = .ok (.iload_n 1, 1) := by decide +kernel
theorem dX8_heard_77 : decode cX8_heard 77 = .ok (.iaload, 1) := by decide +kernel
theorem dX8_heard_78 : decode cX8_heard 78 = .ok (.goto 18, 3) := by decide +kernel
theorem dX8_heard_81 : decode cX8_heard 81 = .ok (.aload 4, 2) := by decide +kernel
theorem dX8_heard_83 : decode cX8_heard 83 = .ok (.iload_n 3, 1) := by decide +kernel
theorem dX8_heard_84 : decode cX8_heard 84 = .ok (.aload_n 0, 1) := by decide +kernel
theorem dX8_heard_85 : decode cX8_heard 85 = .ok (.getfield 10, 3) := by decide +kernel
theorem dX8_heard_88 : decode cX8_heard 88 = .ok (.getfield 93, 3) := by decide +kernel
theorem dX8_heard_91 : decode cX8_heard 91 = .ok (.iload_n 1, 1) := by decide +kernel
theorem dX8_heard_92 : decode cX8_heard 92 = .ok (.iaload, 1) := by decide +kernel
theorem dX8_heard_93 : decode cX8_heard 93 = .ok (.invokevirtual 148, 3) := by decide +kernel
theorem dX8_heard_96 : decode cX8_heard 96 = .ok (.ireturn, 1) := by decide +kernel
theorem dX8_sum_0 : decode cX8_sum 0 = .ok (.iload_n 2, 1) := by decide +kernel
theorem dX8_sum_1 : decode cX8_sum 1 = .ok (.iconst 0, 1) := by decide +kernel
theorem dX8_sum_2 : decode cX8_sum 2 = .ok (.iconst 4, 1) := by decide +kernel
theorem dX8_sum_3 : decode cX8_sum 3 = .ok (.invokestatic 73, 3) := by decide +kernel
theorem dX8_sum_6 : decode cX8_sum 6 = .ok (.ifCond .eq 6, 3) := by decide +kernel
theorem dX8_sum_9 : decode cX8_sum 9 = .ok (.bipush (-2), 2) := by decide +kernel
theorem dX8_sum_11 : decode cX8_sum 11 = .ok (.ireturn, 1) := by decide +kernel
theorem dX8_sum_12 : decode cX8_sum 12 = .ok (.aload_n 0, 1) := by decide +kernel
theorem dX8_sum_13 : decode cX8_sum 13 = .ok (.getfield 30, 3) := by decide +kernel
theorem dX8_sum_16 : decode cX8_sum 16 = .ok (.invokevirtual 137, 3) := by decide +kernel
theorem dX8_sum_19 : decode cX8_sum 19 = .ok (.ifCond .eq 6, 3) := by decide +kernel
theorem dX8_sum_22 : decode cX8_sum 22 = .ok (.bipush (-5), 2) := by decide +kernel
theorem dX8_sum_24 : decode cX8_sum 24 = .ok (.ireturn, 1) := by decide +kernel
theorem dX8_sum_25 : decode cX8_sum 25 = .ok (.iload_n 1, 1) := by decide +kernel
theorem dX8_sum_26 : decode cX8_sum 26 = .ok (.iconst (-1), 1) := by decide +kernel
theorem dX8_sum_27 : decode cX8_sum 27 = .ok (.aload_n 0, 1) := by decide +kernel
theorem dX8_sum_28 : decode cX8_sum 28 = .ok (.getfield 30, 3) := by decide +kernel
theorem dX8_sum_31 : decode cX8_sum 31 = .ok (.getfield 128, 3) := by decide +kernel
theorem dX8_sum_34 : decode cX8_sum 34 = .ok (.iconst 1, 1) := by decide +kernel
theorem dX8_sum_35 : decode cX8_sum 35 = .ok (.isub, 1) := by decide +kernel
theorem dX8_sum_36 : decode cX8_sum 36 = .ok (.invokestatic 73, 3) := by decide +kernel
theorem dX8_sum_39 : decode cX8_sum 39 = .ok (.ifCond .eq 6, 3) := by decide +kernel
theorem dX8_sum_42 : decode cX8_sum 42 = .ok (.bipush (-2), 2) := by decide +kernel
theorem dX8_sum_44 : decode cX8_sum 44 = .ok (.ireturn, 1) := by decide +kernel
theorem dX8_sum_45 : decode cX8_sum 45 = .ok (.aload_n 0, 1) := by decide +kernel
theorem dX8_sum_46 : decode cX8_sum 46 = .ok (.iload_n 1, 1) := by decide +kernel
theorem dX8_sum_47 : decode cX8_sum 47 = .ok (.iconst (-1), 1) := by decide +kernel
theorem dX8_sum_48 : decode cX8_sum 48 = .ok (.if_icmp .ne 13, 3) := by decide +kernel
theorem dX8_sum_51 : decode cX8_sum 51 = .ok (.aload_n 0, 1) := by decide +kernel
theorem dX8_sum_52 : decode cX8_sum 52 = .ok (.getfield 30, 3) := by decide +kernel
theorem dX8_sum_55 : decode cX8_sum 55 = .ok (.getfield 128, 3) := by decide +kernel
theorem dX8_sum_58 : decode cX8_sum 58 = .ok (.goto 6, 3) := by decide +kernel
theorem dX8_sum_61 : decode cX8_sum 61 = .ok (.iload_n 1, 1) := by decide +kernel
theorem dX8_sum_62 : decode cX8_sum 62 = .ok (.iconst 1, 1) := by decide +kernel
theorem dX8_sum_63 : decode cX8_sum 63 = .ok (.iadd, 1) := by decide +kernel
theorem dX8_sum_64 : decode cX8_sum 64 = .ok (.invokevirtual 141, 3) := by decide +kernel
theorem dX8_sum_67 : decode cX8_sum 67 = .ok (.iload_n 2, 1) := by decide +kernel
theorem dX8_sum_68 : decode cX8_sum 68 = .ok (.invokevirtual 152, 3) := by decide +kernel
theorem dX8_sum_71 : decode cX8_sum 71 = .ok (.ireturn, 1) := by decide +kernel
theorem dX8_first_0 : decode cX8_first 0 = .ok (.iload_n 1, 1) := by decide +kernel
theorem dX8_first_1 : decode cX8_first 1 = .ok (.iconst 0, 1) := by decide +kernel
theorem dX8_first_2 : decode cX8_first 2 = .ok (.iconst 1, 1) := by decide +kernel
theorem dX8_first_3 : decode cX8_first 3 = .ok (.invokestatic 73, 3) := by decide +kernel
theorem dX8_first_6 : decode cX8_first 6 = .ok (.ifCond .eq 6, 3) := by decide +kernel
theorem dX8_first_9 : decode cX8_first 9 = .ok (.bipush (-2), 2) := by decide +kernel
theorem dX8_first_11 : decode cX8_first 11 = .ok (.ireturn, 1) := by decide +kernel
theorem dX8_first_12 : decode cX8_first 12 = .ok (.aload_n 0, 1) := by decide +kernel
theorem dX8_first_13 : decode cX8_first 13 = .ok (.getfield 30, 3) := by decide +kernel
theorem dX8_first_16 : decode cX8_first 16 = .ok (.invokevirtual 137, 3) := by decide +kernel
theorem dX8_first_19 : decode cX8_first 19 = .ok (.ifCond .eq 6, 3) := by decide +kernel
theorem dX8_first_22 : decode cX8_first 22 = .ok (.bipush (-5), 2) := by decide +kernel
theorem dX8_first_24 : decode cX8_first 24 = .ok (.ireturn, 1) := by decide +kernel
theorem dX8_first_25 : decode cX8_first 25 = .ok (.aload_n 0, 1) := by decide +kernel
theorem dX8_first_26 : decode cX8_first 26 = .ok (.iconst 0, 1) := by decide +kernel
theorem dX8_first_27 : decode cX8_first 27 = .ok (.invokevirtual 141, 3) := by decide +kernel
theorem dX8_first_30 : decode cX8_first 30 = .ok (.astore_n 2, 1) := by decide +kernel
theorem dX8_first_31 : decode cX8_first 31 = .ok (.iconst 0, 1) := by decide +kernel
theorem dX8_first_32 : decode cX8_first 32 = .ok (.istore_n 3, 1) := by decide +kernel
theorem dX8_first_33 : decode cX8_first 33 = .ok (.iload_n 3, 1) := by decide +kernel
theorem dX8_first_34 : decode cX8_first 34 = .ok (.aload_n 0, 1) := by decide +kernel
theorem dX8_first_35 : decode cX8_first 35 = .ok (.getfield 30, 3) := by decide +kernel
theorem dX8_first_38 : decode cX8_first 38 = .ok (.getfield 128, 3) := by decide +kernel
theorem dX8_first_41 : decode cX8_first 41 = .ok (.if_icmp .ge 47, 3) := by decide +kernel
theorem dX8_first_44 : decode cX8_first 44 = .ok (.aload_n 2, 1) := by decide +kernel
theorem dX8_first_45 : decode cX8_first 45 = .ok (.aload_n 0, 1) := by decide +kernel
theorem dX8_first_46 : decode cX8_first 46 = .ok (.getfield 10, 3) := by decide +kernel
theorem dX8_first_49 : decode cX8_first 49 = .ok (.aload_n 0, 1) := by decide +kernel
theorem dX8_first_50 : decode cX8_first 50 = .ok (.getfield 30, 3) := by decide +kernel
theorem dX8_first_53 : decode cX8_first 53 = .ok (.getfield 131, 3) := by decide +kernel
theorem dX8_first_56 : decode cX8_first 56 = .ok (.iload_n 3, 1) := by decide +kernel
theorem dX8_first_57 : decode cX8_first 57 = .ok (.iaload, 1) := by decide +kernel
theorem dX8_first_58 : decode cX8_first 58 = .ok (.iconst 0, 1) := by decide +kernel
theorem dX8_first_59 : decode cX8_first 59 = .ok (.invokevirtual 155, 3) := by decide +kernel
theorem dX8_first_62 : decode cX8_first 62 = .ok (.iload_n 1, 1) := by decide +kernel
theorem dX8_first_63 : decode cX8_first 63 = .ok (.ifCond .ne 10, 3) := by decide +kernel
theorem dX8_first_66 : decode cX8_first 66 = .ok (.aload_n 2, 1) := by decide +kernel
theorem dX8_first_67 : decode cX8_first 67 = .ok (.getfield 159, 3) := by decide +kernel
theorem dX8_first_70 : decode cX8_first 70 = .ok (.goto 7, 3) := by decide +kernel
theorem dX8_first_73 : decode cX8_first 73 = .ok (.aload_n 2, 1) := by decide +kernel
theorem dX8_first_74 : decode cX8_first 74 = .ok (.getfield 162, 3) := by decide +kernel
theorem dX8_first_77 : decode cX8_first 77 = .ok (.ifCond .eq 5, 3) := by decide +kernel
theorem dX8_first_80 : decode cX8_first 80 = .ok (.iload_n 3, 1) := by decide +kernel
theorem dX8_first_81 : decode cX8_first 81 = .ok (.ireturn, 1) := by decide +kernel
theorem dX8_first_82 : decode cX8_first 82 = .ok (.iinc 3 1, 3) := by decide +kernel
theorem dX8_first_85 : decode cX8_first 85 = .ok (.goto (-52), 3) := by decide +kernel
theorem dX8_first_88 : decode cX8_first 88 = .ok (.bipush (-6), 2) := by decide +kernel
theorem dX8_first_90 : decode cX8_first 90 = .ok (.ireturn, 1) := by decide +kernel
theorem dX8_gain_0 : decode cX8_gain 0 = .ok (.aload_n 0, 1) := by decide +kernel
theorem dX8_gain_1 : decode cX8_gain 1 = .ok (.getfield 30, 3) := by decide +kernel
theorem dX8_gain_4 : decode cX8_gain 4 = .ok (.invokevirtual 137, 3) := by decide +kernel
theorem dX8_gain_7 : decode cX8_gain 7 = .ok (.ifCond .eq 8, 3) := by decide +kernel
theorem dX8_gain_10 : decode cX8_gain 10 = .ok (.bipush (-5), 2) := by decide +kernel
theorem dX8_gain_12 : decode cX8_gain 12 = .ok (.goto 17, 3) := by decide +kernel
theorem dX8_gain_15 : decode cX8_gain 15 = .ok (.aload_n 0, 1) := by decide +kernel
theorem dX8_gain_16 : decode cX8_gain 16 = .ok (.aload_n 0, 1) := by decide +kernel
theorem dX8_gain_17 : decode cX8_gain 17 = .ok (.getfield 30, 3) := by decide +kernel
theorem dX8_gain_20 : decode cX8_gain 20 = .ok (.getfield 128, 3) := by decide +kernel
theorem dX8_gain_23 : decode cX8_gain 23 = .ok (.invokevirtual 141, 3) := by decide +kernel
theorem dX8_gain_26 : decode cX8_gain 26 = .ok (.invokevirtual 165, 3) := by decide +kernel
theorem dX8_gain_29 : decode cX8_gain 29 = .ok (.ireturn, 1) := by decide +kernel
theorem dX8_order_0 : decode cX8_order 0 = .ok (.iload_n 1, 1) := by decide +kernel
theorem dX8_order_1 : decode cX8_order 1 = .ok (.iconst 0, 1) := by decide +kernel
theorem dX8_order_2 : decode cX8_order 2 = .ok (.iconst 1, 1) := by decide +kernel
theorem dX8_order_3 : decode cX8_order 3 = .ok (.invokestatic 73, 3) := by decide +kernel
theorem dX8_order_6 : decode cX8_order 6 = .ok (.ifCond .eq 6, 3) := by decide +kernel
theorem dX8_order_9 : decode cX8_order 9 = .ok (.bipush (-2), 2) := by decide +kernel
theorem dX8_order_11 : decode cX8_order 11 = .ok (.ireturn, 1) := by decide +kernel
theorem dX8_order_12 : decode cX8_order 12 = .ok (.aload_n 0, 1) := by decide +kernel
theorem dX8_order_13 : decode cX8_order 13 = .ok (.getfield 30, 3) := by decide +kernel
theorem dX8_order_16 : decode cX8_order 16 = .ok (.invokevirtual 137, 3) := by decide +kernel
theorem dX8_order_19 : decode cX8_order 19 = .ok (.ifCond .eq 6, 3) := by decide +kernel
theorem dX8_order_22 : decode cX8_order 22 = .ok (.bipush (-5), 2) := by decide +kernel
theorem dX8_order_24 : decode cX8_order 24 = .ok (.ireturn, 1) := by decide +kernel
theorem dX8_order_25 : decode cX8_order 25 = .ok (.aload_n 0, 1) := by decide +kernel
theorem dX8_order_26 : decode cX8_order 26 = .ok (.getfield 30, 3) := by decide +kernel
theorem dX8_order_29 : decode cX8_order 29 = .ok (.getfield 128, 3) := by decide +kernel
theorem dX8_order_32 : decode cX8_order 32 = .ok (.bipush 7, 2) := by decide +kernel
theorem dX8_order_34 : decode cX8_order 34 = .ok (.if_icmp .le 6, 3) := by decide +kernel
theorem dX8_order_37 : decode cX8_order 37 = .ok (.bipush (-4), 2) := by decide +kernel
theorem dX8_order_39 : decode cX8_order 39 = .ok (.ireturn, 1) := by decide +kernel
theorem dX8_order_40 : decode cX8_order 40 = .ok (.aload_n 0, 1) := by decide +kernel
theorem dX8_order_41 : decode cX8_order 41 = .ok (.getfield 43, 3) := by decide +kernel
theorem dX8_order_44 : decode cX8_order 44 = .ok (.iload_n 1, 1) := by decide +kernel
theorem dX8_order_45 : decode cX8_order 45 = .ok (.iconst 1, 1) := by decide +kernel
theorem dX8_order_46 : decode cX8_order 46 = .ok (.if_icmp .ne 7, 3) := by decide +kernel
theorem dX8_order_49 : decode cX8_order 49 = .ok (.iconst 1, 1) := by decide +kernel
theorem dX8_order_50 : decode cX8_order 50 = .ok (.goto 4, 3) := by decide +kernel
theorem dX8_order_53 : decode cX8_order 53 = .ok (.iconst 0, 1) := by decide +kernel
theorem dX8_order_54 : decode cX8_order 54 = .ok (.invokevirtual 168, 3) := by decide +kernel
theorem dX8_order_57 : decode cX8_order 57 = .ok (.aload_n 0, 1) := by decide +kernel
theorem dX8_order_58 : decode cX8_order 58 = .ok (.getfield 43, 3) := by decide +kernel
theorem dX8_order_61 : decode cX8_order 61 = .ok (.aload_n 0, 1) := by decide +kernel
theorem dX8_order_62 : decode cX8_order 62 = .ok (.getfield 10, 3) := by decide +kernel
theorem dX8_order_65 : decode cX8_order 65 = .ok (.aload_n 0, 1) := by decide +kernel
theorem dX8_order_66 : decode cX8_order 66 = .ok (.getfield 30, 3) := by decide +kernel
theorem dX8_order_69 : decode cX8_order 69 = .ok (.aload_n 0, 1) := by decide +kernel
theorem dX8_order_70 : decode cX8_order 70 = .ok (.getfield 36, 3) := by decide +kernel
theorem dX8_order_73 : decode cX8_order 73 = .ok (.invokevirtual 172, 3) := by decide +kernel
theorem dX8_order_76 : decode cX8_order 76 = .ok (.iload_n 2, 1) := by decide +kernel
theorem dX8_order_77 : decode cX8_order 77 = .ok (.iconst (-1), 1) := by decide +kernel
theorem dX8_order_78 : decode cX8_order 78 = .ok (.if_icmp .ne 13, 3) := by decide +kernel
theorem dX8_order_81 : decode cX8_order 81 = .ok (.aload_n 0, 1) := by decide +kernel
theorem dX8_order_82 : decode cX8_order 82 = .ok (.getfield 43, 3) := by decide +kernel
theorem dX8_order_85 : decode cX8_order 85 = .ok (.getfield 176, 3) := by decide +kernel
theorem dX8_order_88 : decode cX8_order 88 = .ok (.goto 11, 3) := by decide +kernel
theorem dX8_order_91 : decode cX8_order 91 = .ok (.aload_n 0, 1) := by decide +kernel
theorem dX8_order_92 : decode cX8_order 92 = .ok (.getfield 43, 3) := by decide +kernel
theorem dX8_order_95 : decode cX8_order 95 = .ok (.iload_n 2, 1) := by decide +kernel
theorem dX8_order_96 : decode cX8_order 96 = .ok (.invokevirtual 179, 3) := by decide +kernel
theorem dX8_order_99 : decode cX8_order 99 = .ok (.ireturn, 1) := by decide +kernel
theorem dX8_start_0 : decode cX8_start 0 = .ok (.iload_n 1, 1) := by decide +kernel
theorem dX8_start_1 : decode cX8_start 1 = .ok (.iconst 0, 1) := by decide +kernel
theorem dX8_start_2 : decode cX8_start 2 = .ok (.iconst 1, 1) := by decide +kernel
theorem dX8_start_3 : decode cX8_start 3 = .ok (.invokestatic 73, 3) := by decide +kernel
theorem dX8_start_6 : decode cX8_start 6 = .ok (.ifCond .eq 6, 3) := by decide +kernel
theorem dX8_start_9 : decode cX8_start 9 = .ok (.bipush (-2), 2) := by decide +kernel
theorem dX8_start_11 : decode cX8_start 11 = .ok (.ireturn, 1) := by decide +kernel
theorem dX8_start_12 : decode cX8_start 12 = .ok (.aload_n 0, 1) := by decide +kernel
theorem dX8_start_13 : decode cX8_start 13 = .ok (.getfield 30, 3) := by decide +kernel
theorem dX8_start_16 : decode cX8_start 16 = .ok (.invokevirtual 137, 3) := by decide +kernel
theorem dX8_start_19 : decode cX8_start 19 = .ok (.ifCond .eq 6, 3) := by decide +kernel
theorem dX8_start_22 : decode cX8_start 22 = .ok (.bipush (-5), 2) := by decide +kernel
theorem dX8_start_24 : decode cX8_start 24 = .ok (.ireturn, 1) := by decide +kernel
theorem dX8_start_25 : decode cX8_start 25 = .ok (.aload_n 0, 1) := by decide +kernel
theorem dX8_start_26 : decode cX8_start 26 = .ok (.getfield 30, 3) := by decide +kernel
theorem dX8_start_29 : decode cX8_start 29 = .ok (.getfield 128, 3) := by decide +kernel
theorem dX8_start_32 : decode cX8_start 32 = .ok (.bipush 60, 2) := by decide +kernel
theorem dX8_start_34 : decode cX8_start 34 = .ok (.if_icmp .lt 8, 3) := by decide +kernel
theorem dX8_start_37 : decode cX8_start 37 = .ok (.bipush (-4), 2) := by decide +kernel
theorem dX8_start_39 : decode cX8_start 39 = .ok (.goto 17, 3) := by decide +kernel
theorem dX8_start_42 : decode cX8_start 42 = .ok (.aload_n 0, 1) := by decide +kernel
theorem dX8_start_43 : decode cX8_start 43 = .ok (.iload_n 1, 1) := by decide +kernel
theorem dX8_start_44 : decode cX8_start 44 = .ok (.iconst 1, 1) := by decide +kernel
theorem dX8_start_45 : decode cX8_start 45 = .ok (.if_icmp .ne 7, 3) := by decide +kernel
theorem dX8_start_48 : decode cX8_start 48 = .ok (.iconst 1, 1) := by decide +kernel
theorem dX8_start_49 : decode cX8_start 49 = .ok (.goto 4, 3) := by decide +kernel
theorem dX8_start_52 : decode cX8_start 52 = .ok (.iconst 0, 1) := by decide +kernel
theorem dX8_start_53 : decode cX8_start 53 = .ok (.invokevirtual 182, 3) := by decide +kernel
theorem dX8_start_56 : decode cX8_start 56 = .ok (.ireturn, 1) := by decide +kernel
theorem dX8_seated_0 : decode cX8_seated 0 = .ok (.iload_n 1, 1) := by decide +kernel
theorem dX8_seated_1 : decode cX8_seated 1 = .ok (.iconst 0, 1) := by decide +kernel
theorem dX8_seated_2 : decode cX8_seated 2 = .ok (.iconst 1, 1) := by decide +kernel
theorem dX8_seated_3 : decode cX8_seated 3 = .ok (.invokestatic 73, 3) := by decide +kernel
theorem dX8_seated_6 : decode cX8_seated 6 = .ok (.ifCond .eq 6, 3) := by decide +kernel
theorem dX8_seated_9 : decode cX8_seated 9 = .ok (.bipush (-2), 2) := by decide +kernel
theorem dX8_seated_11 : decode cX8_seated 11 = .ok (.ireturn, 1) := by decide +kernel
theorem dX8_seated_12 : decode cX8_seated 12 = .ok (.aload_n 0, 1) := by decide +kernel
theorem dX8_seated_13 : decode cX8_seated 13 = .ok (.getfield 30, 3) := by decide +kernel
theorem dX8_seated_16 : decode cX8_seated 16 = .ok (.invokevirtual 137, 3) := by decide +kernel
theorem dX8_seated_19 : decode cX8_seated 19 = .ok (.ifCond .eq 8, 3) := by decide +kernel
theorem dX8_seated_22 : decode cX8_seated 22 = .ok (.bipush (-5), 2) := by decide +kernel
theorem dX8_seated_24 : decode cX8_seated 24 = .ok (.goto 17, 3) := by decide +kernel
theorem dX8_seated_27 : decode cX8_seated 27 = .ok (.aload_n 0, 1) := by decide +kernel
theorem dX8_seated_28 : decode cX8_seated 28 = .ok (.iload_n 1, 1) := by decide +kernel
theorem dX8_seated_29 : decode cX8_seated 29 = .ok (.iconst 1, 1) := by decide +kernel
theorem dX8_seated_30 : decode cX8_seated 30 = .ok (.if_icmp .ne 7, 3) := by decide +kernel
theorem dX8_seated_33 : decode cX8_seated 33 = .ok (.iconst 1, 1) := by decide +kernel
theorem dX8_seated_34 : decode cX8_seated 34 = .ok (.goto 4, 3) := by decide +kernel
theorem dX8_seated_37 : decode cX8_seated 37 = .ok (.iconst 0, 1) := by decide +kernel
theorem dX8_seated_38 : decode cX8_seated 38 = .ok (.invokevirtual 186, 3) := by decide +kernel
theorem dX8_seated_41 : decode cX8_seated 41 = .ok (.ireturn, 1) := by decide +kernel
theorem dX8_hired_0 : decode cX8_hired 0 = .ok (.iload_n 1, 1) := by decide +kernel
theorem dX8_hired_1 : decode cX8_hired 1 = .ok (.iconst 0, 1) := by decide +kernel
theorem dX8_hired_2 : decode cX8_hired 2 = .ok (.sipush 999, 3) := by decide +kernel
theorem dX8_hired_5 : decode cX8_hired 5 = .ok (.invokestatic 73, 3) := by decide +kernel
theorem dX8_hired_8 : decode cX8_hired 8 = .ok (.ifCond .ne 12, 3) := by decide +kernel
theorem dX8_hired_11 : decode cX8_hired 11 = .ok (.iload_n 2, 1) := by decide +kernel
theorem dX8_hired_12 : decode cX8_hired 12 = .ok (.iconst 0, 1) := by decide +kernel
theorem dX8_hired_13 : decode cX8_hired 13 = .ok (.iconst 1, 1) := by decide +kernel
theorem dX8_hired_14 : decode cX8_hired 14 = .ok (.invokestatic 73, 3) := by decide +kernel
theorem dX8_hired_17 : decode cX8_hired 17 = .ok (.ifCond .eq 6, 3) := by decide +kernel
theorem dX8_hired_20 : decode cX8_hired 20 = .ok (.bipush (-2), 2) := by decide +kernel
theorem dX8_hired_22 : decode cX8_hired 22 = .ok (.ireturn, 1) := by decide +kernel
theorem dX8_hired_23 : decode cX8_hired 23 = .ok (.aload_n 0, 1) := by decide +kernel
theorem dX8_hired_24 : decode cX8_hired 24 = .ok (.getfield 30, 3) := by decide +kernel
theorem dX8_hired_27 : decode cX8_hired 27 = .ok (.invokevirtual 137, 3) := by decide +kernel
theorem dX8_hired_30 : decode cX8_hired 30 = .ok (.ifCond .eq 6, 3) := by decide +kernel
theorem dX8_hired_33 : decode cX8_hired 33 = .ok (.bipush (-5), 2) := by decide +kernel
theorem dX8_hired_35 : decode cX8_hired 35 = .ok (.ireturn, 1) := by decide +kernel
theorem dX8_hired_36 : decode cX8_hired 36 = .ok (.aload_n 0, 1) := by decide +kernel
theorem dX8_hired_37 : decode cX8_hired 37 = .ok (.iload_n 1, 1) := by decide +kernel
theorem dX8_hired_38 : decode cX8_hired 38 = .ok (.invokevirtual 189, 3) := by decide +kernel
theorem dX8_hired_41 : decode cX8_hired 41 = .ok (.istore_n 3, 1) := by decide +kernel
theorem dX8_hired_42 : decode cX8_hired 42 = .ok (.iload_n 3, 1) := by decide +kernel
theorem dX8_hired_43 : decode cX8_hired 43 = .ok (.bipush (-6), 2) := by decide +kernel
theorem dX8_hired_45 : decode cX8_hired 45 = .ok (.if_icmp .eq 8, 3) := by decide +kernel
theorem dX8_hired_48 : decode cX8_hired 48 = .ok (.iload_n 2, 1) := by decide +kernel
theorem dX8_hired_49 : decode cX8_hired 49 = .ok (.iconst 1, 1) := by decide +kernel
theorem dX8_hired_50 : decode cX8_hired 50 = .ok (.if_icmp .ne 7, 3) := by decide +kernel
theorem dX8_hired_53 : decode cX8_hired 53 = .ok (.iload_n 3, 1) := by decide +kernel
theorem dX8_hired_54 : decode cX8_hired 54 = .ok (.goto 7, 3) := by decide +kernel
theorem dX8_hired_57 : decode cX8_hired 57 = .ok (.iload_n 3, 1) := by decide +kernel
theorem dX8_hired_58 : decode cX8_hired 58 = .ok (.invokestatic 192, 3) := by decide +kernel
theorem dX8_hired_61 : decode cX8_hired 61 = .ok (.ireturn, 1) := by decide +kernel
theorem dX8_least_0 : decode cX8_least 0 = .ok (.aload_n 0, 1) := by decide +kernel
theorem dX8_least_1 : decode cX8_least 1 = .ok (.getfield 30, 3) := by decide +kernel
theorem dX8_least_4 : decode cX8_least 4 = .ok (.invokevirtual 137, 3) := by decide +kernel
theorem dX8_least_7 : decode cX8_least 7 = .ok (.ifCond .eq 6, 3) := by decide +kernel
theorem dX8_least_10 : decode cX8_least 10 = .ok (.bipush (-5), 2) := by decide +kernel
theorem dX8_least_12 : decode cX8_least 12 = .ok (.ireturn, 1) := by decide +kernel
theorem dX8_least_13 : decode cX8_least 13 = .ok (.aload_n 0, 1) := by decide +kernel
theorem dX8_least_14 : decode cX8_least 14 = .ok (.getfield 30, 3) := by decide +kernel
theorem dX8_least_17 : decode cX8_least 17 = .ok (.getfield 128, 3) := by decide +kernel
theorem dX8_least_20 : decode cX8_least 20 = .ok (.bipush 60, 2) := by decide +kernel
theorem dX8_least_22 : decode cX8_least 22 = .ok (.if_icmp .lt 8, 3) := by decide +kernel
theorem dX8_least_25 : decode cX8_least 25 = .ok (.bipush (-4), 2) := by decide +kernel
theorem dX8_least_27 : decode cX8_least 27 = .ok (.goto 7, 3) := by decide +kernel
theorem dX8_least_30 : decode cX8_least 30 = .ok (.aload_n 0, 1) := by decide +kernel
theorem dX8_least_31 : decode cX8_least 31 = .ok (.invokevirtual 197, 3) := by decide +kernel
theorem dX8_least_34 : decode cX8_least 34 = .ok (.ireturn, 1) := by decide +kernel
theorem dX8_seen_0 : decode cX8_seen 0 = .ok (.iload_n 1, 1) := by decide +kernel
theorem dX8_seen_1 : decode cX8_seen 1 = .ok (.iconst 0, 1) := by decide +kernel
theorem dX8_seen_2 : decode cX8_seen 2 = .ok (.bipush 59, 2) := by decide +kernel
theorem dX8_seen_4 : decode cX8_seen 4 = .ok (.invokestatic 73, 3) := by decide +kernel
theorem dX8_seen_7 : decode cX8_seen 7 = .ok (.ifCond .ne 13, 3) := by decide +kernel
theorem dX8_seen_10 : decode cX8_seen 10 = .ok (.iload_n 2, 1) := by decide +kernel
theorem dX8_seen_11 : decode cX8_seen 11 = .ok (.iconst 0, 1) := by decide +kernel
theorem dX8_seen_12 : decode cX8_seen 12 = .ok (.bipush 8, 2) := by decide +kernel
theorem dX8_seen_14 : decode cX8_seen 14 = .ok (.invokestatic 73, 3) := by decide +kernel
theorem dX8_seen_17 : decode cX8_seen 17 = .ok (.ifCond .eq 6, 3) := by decide +kernel
theorem dX8_seen_20 : decode cX8_seen 20 = .ok (.bipush (-2), 2) := by decide +kernel
theorem dX8_seen_22 : decode cX8_seen 22 = .ok (.ireturn, 1) := by decide +kernel
theorem dX8_seen_23 : decode cX8_seen 23 = .ok (.aload_n 0, 1) := by decide +kernel
theorem dX8_seen_24 : decode cX8_seen 24 = .ok (.getfield 10, 3) := by decide +kernel
theorem dX8_seen_27 : decode cX8_seen 27 = .ok (.getfield 200, 3) := by decide +kernel
theorem dX8_seen_30 : decode cX8_seen 30 = .ok (.bipush 8, 2) := by decide +kernel
theorem dX8_seen_32 : decode cX8_seen 32 = .ok (.if_icmp .lt 8, 3) := by decide +kernel
theorem dX8_seen_35 : decode cX8_seen 35 = .ok (.bipush (-4), 2) := by decide +kernel
theorem dX8_seen_37 : decode cX8_seen 37 = .ok (.goto 12, 3) := by decide +kernel
theorem dX8_seen_40 : decode cX8_seen 40 = .ok (.aload_n 0, 1) := by decide +kernel
theorem dX8_seen_41 : decode cX8_seen 41 = .ok (.getfield 10, 3) := by decide +kernel
theorem dX8_seen_44 : decode cX8_seen 44 = .ok (.iload_n 1, 1) := by decide +kernel
theorem dX8_seen_45 : decode cX8_seen 45 = .ok (.iload_n 2, 1) := by decide +kernel
theorem dX8_seen_46 : decode cX8_seen 46 = .ok (.invokevirtual 203, 3) := by decide +kernel
theorem dX8_seen_49 : decode cX8_seen 49 = .ok (.ireturn, 1) := by decide +kernel
theorem dX8_forget_0 : decode cX8_forget 0 = .ok (.aload_n 0, 1) := by decide +kernel
theorem dX8_forget_1 : decode cX8_forget 1 = .ok (.getfield 10, 3) := by decide +kernel
theorem dX8_forget_4 : decode cX8_forget 4 = .ok (.getfield 200, 3) := by decide +kernel
theorem dX8_forget_7 : decode cX8_forget 7 = .ok (.istore_n 1, 1) := by decide +kernel
theorem dX8_forget_8 : decode cX8_forget 8 = .ok (.aload_n 0, 1) := by decide +kernel
theorem dX8_forget_9 : decode cX8_forget 9 = .ok (.getfield 10, 3) := by decide +kernel
theorem dX8_forget_12 : decode cX8_forget 12 = .ok (.iconst 0, 1) := by decide +kernel
theorem dX8_forget_13 : decode cX8_forget 13 = .ok (.putfield 200, 3) := by decide +kernel
theorem dX8_forget_16 : decode cX8_forget 16 = .ok (.iload_n 1, 1) := by decide +kernel
theorem dX8_forget_17 : decode cX8_forget 17 = .ok (.ireturn, 1) := by decide +kernel
theorem dX8_preached_0 : decode cX8_preached 0 = .ok (.aload_n 0, 1) := by decide +kernel
theorem dX8_preached_1 : decode cX8_preached 1 = .ok (.invokevirtual 206, 3) := by decide +kernel
theorem dX8_preached_4 : decode cX8_preached 4 = .ok (.istore_n 2, 1) := by decide +kernel
theorem dX8_preached_5 : decode cX8_preached 5 = .ok (.iload_n 2, 1) := by decide +kernel
theorem dX8_preached_6 : decode cX8_preached 6 = .ok (.ifCond .eq 5, 3) := by decide +kernel
theorem dX8_preached_9 : decode cX8_preached 9 = .ok (.iload_n 2, 1) := by decide +kernel
theorem dX8_preached_10 : decode cX8_preached 10 = .ok (.ireturn, 1) := by decide +kernel
theorem dX8_preached_11 : decode cX8_preached 11 = .ok (.aload_n 0, 1) := by decide +kernel
theorem dX8_preached_12 : decode cX8_preached 12 = .ok (.getfield 50, 3) := by decide +kernel
theorem dX8_preached_15 : decode cX8_preached 15 = .ok (.aload_n 0, 1) := by decide +kernel
theorem dX8_preached_16 : decode cX8_preached 16 = .ok (.getfield 10, 3) := by decide +kernel
theorem dX8_preached_19 : decode cX8_preached 19 = .ok (.aload_n 0, 1) := by decide +kernel
theorem dX8_preached_20 : decode cX8_preached 20 = .ok (.getfield 30, 3) := by decide +kernel
theorem dX8_preached_23 : decode cX8_preached 23 = .ok (.aload_n 0, 1) := by decide +kernel
theorem dX8_preached_24 : decode cX8_preached 24 = .ok (.getfield 36, 3) := by decide +kernel
theorem dX8_preached_27 : decode cX8_preached 27 = .ok (.invokevirtual 209, 3) := by decide +kernel
theorem dX8_preached_30 : decode cX8_preached 30 = .ok (.iload_n 1, 1) := by decide +kernel
theorem dX8_preached_31 : decode cX8_preached 31 = .ok (.iconst (-1), 1) := by decide +kernel
theorem dX8_preached_32 : decode cX8_preached 32 = .ok (.if_icmp .ne 13, 3) := by decide +kernel
theorem dX8_preached_35 : decode cX8_preached 35 = .ok (.aload_n 0, 1) := by decide +kernel
theorem dX8_preached_36 : decode cX8_preached 36 = .ok (.getfield 50, 3) := by decide +kernel
theorem dX8_preached_39 : decode cX8_preached 39 = .ok (.getfield 212, 3) := by decide +kernel
theorem dX8_preached_42 : decode cX8_preached 42 = .ok (.goto 11, 3) := by decide +kernel
theorem dX8_preached_45 : decode cX8_preached 45 = .ok (.aload_n 0, 1) := by decide +kernel
theorem dX8_preached_46 : decode cX8_preached 46 = .ok (.getfield 50, 3) := by decide +kernel
theorem dX8_preached_49 : decode cX8_preached 49 = .ok (.iload_n 1, 1) := by decide +kernel
theorem dX8_preached_50 : decode cX8_preached 50 = .ok (.invokevirtual 215, 3) := by decide +kernel
theorem dX8_preached_53 : decode cX8_preached 53 = .ok (.ireturn, 1) := by decide +kernel
theorem dX8_surely_0 : decode cX8_surely 0 = .ok (.aload_n 0, 1) := by decide +kernel
theorem dX8_surely_1 : decode cX8_surely 1 = .ok (.invokevirtual 206, 3) := by decide +kernel
theorem dX8_surely_4 : decode cX8_surely 4 = .ok (.istore_n 1, 1) := by decide +kernel
theorem dX8_surely_5 : decode cX8_surely 5 = .ok (.iload_n 1, 1) := by decide +kernel
theorem dX8_surely_6 : decode cX8_surely 6 = .ok (.ifCond .eq 5, 3) := by decide +kernel
theorem dX8_surely_9 : decode cX8_surely 9 = .ok (.iload_n 1, 1) := by decide +kernel
theorem dX8_surely_10 : decode cX8_surely 10 = .ok (.ireturn, 1) := by decide +kernel
theorem dX8_surely_11 : decode cX8_surely 11 = .ok (.aload_n 0, 1) := by decide +kernel
theorem dX8_surely_12 : decode cX8_surely 12 = .ok (.getfield 50, 3) := by decide +kernel
theorem dX8_surely_15 : decode cX8_surely 15 = .ok (.aload_n 0, 1) := by decide +kernel
theorem dX8_surely_16 : decode cX8_surely 16 = .ok (.getfield 10, 3) := by decide +kernel
theorem dX8_surely_19 : decode cX8_surely 19 = .ok (.aload_n 0, 1) := by decide +kernel
theorem dX8_surely_20 : decode cX8_surely 20 = .ok (.getfield 30, 3) := by decide +kernel
theorem dX8_surely_23 : decode cX8_surely 23 = .ok (.aload_n 0, 1) := by decide +kernel
theorem dX8_surely_24 : decode cX8_surely 24 = .ok (.getfield 36, 3) := by decide +kernel
theorem dX8_surely_27 : decode cX8_surely 27 = .ok (.invokevirtual 209, 3) := by decide +kernel
theorem dX8_surely_30 : decode cX8_surely 30 = .ok (.aload_n 0, 1) := by decide +kernel
theorem dX8_surely_31 : decode cX8_surely 31 = .ok (.getfield 50, 3) := by decide +kernel
theorem dX8_surely_34 : decode cX8_surely 34 = .ok (.getfield 218, 3) := by decide +kernel
theorem dX8_surely_37 : decode cX8_surely 37 = .ok (.ireturn, 1) := by decide +kernel
theorem dX8_dips_0 : decode cX8_dips 0 = .ok (.aload_n 0, 1) := by decide +kernel
theorem dX8_dips_1 : decode cX8_dips 1 = .ok (.getfield 10, 3) := by decide +kernel
theorem dX8_dips_4 : decode cX8_dips 4 = .ok (.iload_n 1, 1) := by decide +kernel
theorem dX8_dips_5 : decode cX8_dips 5 = .ok (.invokevirtual 115, 3) := by decide +kernel
theorem dX8_dips_8 : decode cX8_dips 8 = .ok (.ifCond .ne 5, 3) := by decide +kernel
theorem dX8_dips_11 : decode cX8_dips 11 = .ok (.iconst (-1), 1) := by decide +kernel
theorem dX8_dips_12 : decode cX8_dips 12 = .ok (.ireturn, 1) := by decide +kernel
theorem dX8_dips_13 : decode cX8_dips 13 = .ok (.iload_n 2, 1) := by decide +kernel
theorem dX8_dips_14 : decode cX8_dips 14 = .ok (.iconst 0, 1) := by decide +kernel
theorem dX8_dips_15 : decode cX8_dips 15 = .ok (.iconst 1, 1) := by decide +kernel
theorem dX8_dips_16 : decode cX8_dips 16 = .ok (.invokestatic 73, 3) := by decide +kernel
theorem dX8_dips_19 : decode cX8_dips 19 = .ok (.ifCond .eq 6, 3) := by decide +kernel
theorem dX8_dips_22 : decode cX8_dips 22 = .ok (.bipush (-2), 2) := by decide +kernel
theorem dX8_dips_24 : decode cX8_dips 24 = .ok (.ireturn, 1) := by decide +kernel
theorem dX8_dips_25 : decode cX8_dips 25 = .ok (.aload_n 0, 1) := by decide +kernel
theorem dX8_dips_26 : decode cX8_dips 26 = .ok (.getfield 30, 3) := by decide +kernel
theorem dX8_dips_29 : decode cX8_dips 29 = .ok (.invokevirtual 137, 3) := by decide +kernel
theorem dX8_dips_32 : decode cX8_dips 32 = .ok (.ifCond .eq 8, 3) := by decide +kernel
theorem dX8_dips_35 : decode cX8_dips 35 = .ok (.bipush (-5), 2) := by decide +kernel
theorem dX8_dips_37 : decode cX8_dips 37 = .ok (.goto 26, 3) := by decide +kernel
theorem dX8_dips_40 : decode cX8_dips 40 = .ok (.aload_n 0, 1) := by decide +kernel
theorem dX8_dips_41 : decode cX8_dips 41 = .ok (.aload_n 0, 1) := by decide +kernel
theorem dX8_dips_42 : decode cX8_dips 42 = .ok (.getfield 10, 3) := by decide +kernel
theorem dX8_dips_45 : decode cX8_dips 45 = .ok (.getfield 93, 3) := by decide +kernel
theorem dX8_dips_48 : decode cX8_dips 48 = .ok (.iload_n 1, 1) := by decide +kernel
theorem dX8_dips_49 : decode cX8_dips 49 = .ok (.iaload, 1) := by decide +kernel
theorem dX8_dips_50 : decode cX8_dips 50 = .ok (.iload_n 2, 1) := by decide +kernel
theorem dX8_dips_51 : decode cX8_dips 51 = .ok (.iconst 1, 1) := by decide +kernel
theorem dX8_dips_52 : decode cX8_dips 52 = .ok (.if_icmp .ne 7, 3) := by decide +kernel
theorem dX8_dips_55 : decode cX8_dips 55 = .ok (.iconst 1, 1) := by decide +kernel
theorem dX8_dips_56 : decode cX8_dips 56 = .ok (.goto 4, 3) := by decide +kernel
theorem dX8_dips_59 : decode cX8_dips 59 = .ok (.iconst 0, 1) := by decide +kernel
theorem dX8_dips_60 : decode cX8_dips 60 = .ok (.invokevirtual 221, 3) := by decide +kernel
theorem dX8_dips_63 : decode cX8_dips 63 = .ok (.ireturn, 1) := by decide +kernel
theorem dX8_alike_0 : decode cX8_alike 0 = .ok (.aload_n 0, 1) := by decide +kernel
theorem dX8_alike_1 : decode cX8_alike 1 = .ok (.getfield 30, 3) := by decide +kernel
theorem dX8_alike_4 : decode cX8_alike 4 = .ok (.invokevirtual 137, 3) := by decide +kernel
theorem dX8_alike_7 : decode cX8_alike 7 = .ok (.ifCond .eq 6, 3) := by decide +kernel
theorem dX8_alike_10 : decode cX8_alike 10 = .ok (.bipush (-5), 2) := by decide +kernel
theorem dX8_alike_12 : decode cX8_alike 12 = .ok (.ireturn, 1) := by decide +kernel
theorem dX8_alike_13 : decode cX8_alike 13 = .ok (.aload_n 0, 1) := by decide +kernel
theorem dX8_alike_14 : decode cX8_alike 14 = .ok (.invokevirtual 225, 3) := by decide +kernel
theorem dX8_alike_17 : decode cX8_alike 17 = .ok (.iload_n 1, 1) := by decide +kernel
theorem dX8_alike_18 : decode cX8_alike 18 = .ok (.iconst (-1), 1) := by decide +kernel
theorem dX8_alike_19 : decode cX8_alike 19 = .ok (.if_icmp .ne 10, 3) := by decide +kernel
theorem dX8_alike_22 : decode cX8_alike 22 = .ok (.aload_n 0, 1) := by decide +kernel
theorem dX8_alike_23 : decode cX8_alike 23 = .ok (.invokevirtual 228, 3) := by decide +kernel
theorem dX8_alike_26 : decode cX8_alike 26 = .ok (.goto 8, 3) := by decide +kernel
theorem dX8_alike_29 : decode cX8_alike 29 = .ok (.aload_n 0, 1) := by decide +kernel
theorem dX8_alike_30 : decode cX8_alike 30 = .ok (.iload_n 1, 1) := by decide +kernel
theorem dX8_alike_31 : decode cX8_alike 31 = .ok (.invokevirtual 231, 3) := by decide +kernel
theorem dX8_alike_34 : decode cX8_alike 34 = .ok (.ireturn, 1) := by decide +kernel
theorem dX8_parishes_0 : decode cX8_parishes 0 = .ok (.iload_n 1, 1) := by decide +kernel
theorem dX8_parishes_1 : decode cX8_parishes 1 = .ok (.iconst (-1), 1) := by decide +kernel
theorem dX8_parishes_2 : decode cX8_parishes 2 = .ok (.iconst 2, 1) := by decide +kernel
theorem dX8_parishes_3 : decode cX8_parishes 3 = .ok (.invokestatic 73, 3) := by decide +kernel
theorem dX8_parishes_6 : decode cX8_parishes 6 = .ok (.ifCond .eq 6, 3) := by decide +kernel
theorem dX8_parishes_9 : decode cX8_parishes 9 = .ok (.bipush (-2), 2) := by decide +kernel
theorem dX8_parishes_11 : decode cX8_parishes 11 = .ok (.ireturn, 1) := by decide +kernel
theorem dX8_parishes_12 : decode cX8_parishes 12 = .ok (.aload_n 0, 1) := by decide +kernel
theorem dX8_parishes_13 : decode cX8_parishes 13 = .ok (.getfield 64, 3) := by decide +kernel
theorem dX8_parishes_16 : decode cX8_parishes 16 = .ok (.aload_n 0, 1) := by decide +kernel
theorem dX8_parishes_17 : decode cX8_parishes 17 = .ok (.getfield 10, 3) := by decide +kernel
theorem dX8_parishes_20 : decode cX8_parishes 20 = .ok (.invokevirtual 234, 3) := by decide +kernel
theorem dX8_parishes_23 : decode cX8_parishes 23 = .ok (.iload_n 1, 1) := by decide +kernel
theorem dX8_parishes_24 : decode cX8_parishes 24 = .ok (.iconst (-1), 1) := by decide +kernel
theorem dX8_parishes_25 : decode cX8_parishes 25 = .ok (.if_icmp .ne 13, 3) := by decide +kernel
theorem dX8_parishes_28 : decode cX8_parishes 28 = .ok (.aload_n 0, 1) := by decide +kernel
theorem dX8_parishes_29 : decode cX8_parishes 29 = .ok (.getfield 64, 3) := by decide +kernel
theorem dX8_parishes_32 : decode cX8_parishes 32 = .ok (.getfield 238, 3) := by decide +kernel
theorem dX8_parishes_35 : decode cX8_parishes 35 = .ok (.goto 12, 3) := by decide +kernel
theorem dX8_parishes_38 : decode cX8_parishes 38 = .ok (.aload_n 0, 1) := by decide +kernel
theorem dX8_parishes_39 : decode cX8_parishes 39 = .ok (.getfield 64, 3) := by decide +kernel
theorem dX8_parishes_42 : decode cX8_parishes 42 = .ok (.getfield 241, 3) := by decide +kernel
theorem dX8_parishes_45 : decode cX8_parishes 45 = .ok (.iload_n 1, 1) := by decide +kernel
theorem dX8_parishes_46 : decode cX8_parishes 46 = .ok (.iaload, 1) := by decide +kernel
theorem dX8_parishes_47 : decode cX8_parishes 47 = .ok (.ireturn, 1) := by decide +kernel
theorem dX8_cold_0 : decode cX8_cold 0 = .ok (.iload_n 1, 1) := by decide +kernel
theorem dX8_cold_1 : decode cX8_cold 1 = .ok (.iconst 0, 1) := by decide +kernel
theorem dX8_cold_2 : decode cX8_cold 2 = .ok (.bipush 10, 2) := by decide +kernel
