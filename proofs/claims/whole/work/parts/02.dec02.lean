theorem dX8_cold_4 : decode cX8_cold 4 = .ok (.invokestatic 73, 3) := by decide +kernel
theorem dX8_cold_7 : decode cX8_cold 7 = .ok (.ifCond .ne 21, 3) := by decide +kernel
theorem dX8_cold_10 : decode cX8_cold 10 = .ok (.iload_n 2, 1) := by decide +kernel
theorem dX8_cold_11 : decode cX8_cold 11 = .ok (.iconst 0, 1) := by decide +kernel
theorem dX8_cold_12 : decode cX8_cold 12 = .ok (.iconst 1, 1) := by decide +kernel
theorem dX8_cold_13 : decode cX8_cold 13 = .ok (.invokestatic 73, 3) := by decide +kernel
theorem dX8_cold_16 : decode cX8_cold 16 = .ok (.ifCond .ne 12, 3) := by decide +kernel
theorem dX8_cold_19 : decode cX8_cold 19 = .ok (.iload_n 3, 1) := by decide +kernel
theorem dX8_cold_20 : decode cX8_cold 20 = .ok (.iconst 0, 1) := by decide +kernel
theorem dX8_cold_21 : decode cX8_cold 21 = .ok (.iconst 1, 1) := by decide +kernel
theorem dX8_cold_22 : decode cX8_cold 22 = .ok (.invokestatic 73, 3) := by decide +kernel
theorem dX8_cold_25 : decode cX8_cold 25 = .ok (.ifCond .eq 7, 3) := by decide +kernel
theorem dX8_cold_28 : decode cX8_cold 28 = .ok (.ldc2_w 244, 3) := by decide +kernel
theorem dX8_cold_31 : decode cX8_cold 31 = .ok (.lreturn, 1) := by decide +kernel
theorem dX8_cold_32 : decode cX8_cold 32 = .ok (.aload_n 0, 1) := by decide +kernel
theorem dX8_cold_33 : decode cX8_cold 33 = .ok (.getfield 30, 3) := by decide +kernel
theorem dX8_cold_36 : decode cX8_cold 36 = .ok (.invokevirtual 137, 3) := by decide +kernel
theorem dX8_cold_39 : decode cX8_cold 39 = .ok (.ifCond .eq 7, 3) := by decide +kernel
theorem dX8_cold_42 : decode cX8_cold 42 = .ok (.ldc2_w 246, 3) := by decide +kernel
theorem dX8_cold_45 : decode cX8_cold 45 = .ok (.lreturn, 1) := by decide +kernel
theorem dX8_cold_46 : decode cX8_cold 46 = .ok (.aload_n 0, 1) := by decide +kernel
theorem dX8_cold_47 : decode cX8_cold 47 = .ok (.getfield 30, 3) := by decide +kernel
theorem dX8_cold_50 : decode cX8_cold 50 = .ok (.getfield 128, 3) := by decide +kernel
theorem dX8_cold_53 : decode cX8_cold 53 = .ok (.bipush 10, 2) := by decide +kernel
theorem dX8_cold_55 : decode cX8_cold 55 = .ok (.if_icmp .le 7, 3) := by decide +kernel
theorem dX8_cold_58 : decode cX8_cold 58 = .ok (.ldc2_w 248, 3) := by decide +kernel
theorem dX8_cold_61 : decode cX8_cold 61 = .ok (.lreturn, 1) := by decide +kernel
theorem dX8_cold_62 : decode cX8_cold 62 = .ok (.aload_n 0, 1) := by decide +kernel
theorem dX8_cold_63 : decode cX8_cold 63 = .ok (.getfield 57, 3) := by decide +kernel
theorem dX8_cold_66 : decode cX8_cold 66 = .ok (.aload_n 0, 1) := by decide +kernel
theorem dX8_cold_67 : decode cX8_cold 67 = .ok (.getfield 10, 3) := by decide +kernel
theorem dX8_cold_70 : decode cX8_cold 70 = .ok (.aload_n 0, 1) := by decide +kernel
theorem dX8_cold_71 : decode cX8_cold 71 = .ok (.getfield 30, 3) := by decide +kernel
theorem dX8_cold_74 : decode cX8_cold 74 = .ok (.aload_n 0, 1) := by decide +kernel
theorem dX8_cold_75 : decode cX8_cold 75 = .ok (.getfield 36, 3) := by decide +kernel
theorem dX8_cold_78 : decode cX8_cold 78 = .ok (.iload_n 1, 1) := by decide +kernel
theorem dX8_cold_79 : decode cX8_cold 79 = .ok (.invokevirtual 250, 3) := by decide +kernel
theorem dX8_cold_82 : decode cX8_cold 82 = .ok (.iload_n 2, 1) := by decide +kernel
theorem dX8_cold_83 : decode cX8_cold 83 = .ok (.ifCond .ne 13, 3) := by decide +kernel
theorem dX8_cold_86 : decode cX8_cold 86 = .ok (.aload_n 0, 1) := by decide +kernel
theorem dX8_cold_87 : decode cX8_cold 87 = .ok (.getfield 57, 3) := by decide +kernel
theorem dX8_cold_90 : decode cX8_cold 90 = .ok (.getfield 254, 3) := by decide +kernel
theorem dX8_cold_93 : decode cX8_cold 93 = .ok (.goto 10, 3) := by decide +kernel
theorem dX8_cold_96 : decode cX8_cold 96 = .ok (.aload_n 0, 1) := by decide +kernel
theorem dX8_cold_97 : decode cX8_cold 97 = .ok (.getfield 57, 3) := by decide +kernel
theorem dX8_cold_100 : decode cX8_cold 100 = .ok (.getfield 258, 3) := by decide +kernel
theorem dX8_cold_103 : decode cX8_cold 103 = .ok (.aload_n 0, 1) := by decide +kernel
theorem dX8_cold_104 : decode cX8_cold 104 = .ok (.getfield 57, 3) := by decide +kernel
theorem dX8_cold_107 : decode cX8_cold 107 = .ok (.getfield 261, 3) := by decide +kernel
theorem dX8_cold_110 : decode cX8_cold 110 = .ok (.iload_n 3, 1) := by decide +kernel
theorem dX8_cold_111 : decode cX8_cold 111 = .ok (.invokestatic 264, 3) := by decide +kernel
theorem dX8_cold_114 : decode cX8_cold 114 = .ok (.lreturn, 1) := by decide +kernel
theorem dX8_year_0 : decode cX8_year 0 = .ok (.iload_n 1, 1) := by decide +kernel
theorem dX8_year_1 : decode cX8_year 1 = .ok (.iconst 0, 1) := by decide +kernel
theorem dX8_year_2 : decode cX8_year 2 = .ok (.sipush 9999, 3) := by decide +kernel
theorem dX8_year_5 : decode cX8_year 5 = .ok (.invokestatic 73, 3) := by decide +kernel
theorem dX8_year_8 : decode cX8_year 8 = .ok (.ifCond .ne 22, 3) := by decide +kernel
theorem dX8_year_11 : decode cX8_year 11 = .ok (.iload_n 2, 1) := by decide +kernel
theorem dX8_year_12 : decode cX8_year 12 = .ok (.iconst 1, 1) := by decide +kernel
theorem dX8_year_13 : decode cX8_year 13 = .ok (.bipush 50, 2) := by decide +kernel
theorem dX8_year_15 : decode cX8_year 15 = .ok (.invokestatic 73, 3) := by decide +kernel
theorem dX8_year_18 : decode cX8_year 18 = .ok (.ifCond .ne 12, 3) := by decide +kernel
theorem dX8_year_21 : decode cX8_year 21 = .ok (.iload_n 3, 1) := by decide +kernel
theorem dX8_year_22 : decode cX8_year 22 = .ok (.iconst 0, 1) := by decide +kernel
theorem dX8_year_23 : decode cX8_year 23 = .ok (.iconst 2, 1) := by decide +kernel
theorem dX8_year_24 : decode cX8_year 24 = .ok (.invokestatic 73, 3) := by decide +kernel
theorem dX8_year_27 : decode cX8_year 27 = .ok (.ifCond .eq 6, 3) := by decide +kernel
theorem dX8_year_30 : decode cX8_year 30 = .ok (.bipush (-2), 2) := by decide +kernel
theorem dX8_year_32 : decode cX8_year 32 = .ok (.ireturn, 1) := by decide +kernel
theorem dX8_year_33 : decode cX8_year 33 = .ok (.aload_n 0, 1) := by decide +kernel
theorem dX8_year_34 : decode cX8_year 34 = .ok (.iload_n 1, 1) := by decide +kernel
theorem dX8_year_35 : decode cX8_year 35 = .ok (.iload_n 2, 1) := by decide +kernel
theorem dX8_year_36 : decode cX8_year 36 = .ok (.iload_n 3, 1) := by decide +kernel
theorem dX8_year_37 : decode cX8_year 37 = .ok (.invokevirtual 268, 3) := by decide +kernel
theorem dX8_year_40 : decode cX8_year 40 = .ok (.ireturn, 1) := by decide +kernel
theorem dX8_image_0 : decode cX8_image 0 = .ok (.iload_n 1, 1) := by decide +kernel
theorem dX8_image_1 : decode cX8_image 1 = .ok (.iconst 0, 1) := by decide +kernel
theorem dX8_image_2 : decode cX8_image 2 = .ok (.iconst 1, 1) := by decide +kernel
theorem dX8_image_3 : decode cX8_image 3 = .ok (.invokestatic 73, 3) := by decide +kernel
theorem dX8_image_6 : decode cX8_image 6 = .ok (.ifCond .eq 6, 3) := by decide +kernel
theorem dX8_image_9 : decode cX8_image 9 = .ok (.bipush (-2), 2) := by decide +kernel
theorem dX8_image_11 : decode cX8_image 11 = .ok (.ireturn, 1) := by decide +kernel
theorem dX8_image_12 : decode cX8_image 12 = .ok (.aload_n 0, 1) := by decide +kernel
theorem dX8_image_13 : decode cX8_image 13 = .ok (.getfield 19, 3) := by decide +kernel
theorem dX8_image_16 : decode cX8_image 16 = .ok (.iload_n 1, 1) := by decide +kernel
theorem dX8_image_17 : decode cX8_image 17 = .ok (.aaload, 1) := by decide +kernel
theorem dX8_image_18 : decode cX8_image 18 = .ok (.aload_n 0, 1) := by decide +kernel
theorem dX8_image_19 : decode cX8_image 19 = .ok (.getfield 10, 3) := by decide +kernel
theorem dX8_image_22 : decode cX8_image 22 = .ok (.invokevirtual 272, 3) := by decide +kernel
theorem dX8_image_25 : decode cX8_image 25 = .ok (.aload_n 0, 1) := by decide +kernel
theorem dX8_image_26 : decode cX8_image 26 = .ok (.getfield 23, 3) := by decide +kernel
theorem dX8_image_29 : decode cX8_image 29 = .ok (.iload_n 1, 1) := by decide +kernel
theorem dX8_image_30 : decode cX8_image 30 = .ok (.iconst 1, 1) := by decide +kernel
theorem dX8_image_31 : decode cX8_image 31 = .ok (.bastore, 1) := by decide +kernel
theorem dX8_image_32 : decode cX8_image 32 = .ok (.iconst 1, 1) := by decide +kernel
theorem dX8_image_33 : decode cX8_image 33 = .ok (.ireturn, 1) := by decide +kernel
theorem dX8_restore_0 : decode cX8_restore 0 = .ok (.iload_n 1, 1) := by decide +kernel
theorem dX8_restore_1 : decode cX8_restore 1 = .ok (.iconst 0, 1) := by decide +kernel
theorem dX8_restore_2 : decode cX8_restore 2 = .ok (.iconst 1, 1) := by decide +kernel
theorem dX8_restore_3 : decode cX8_restore 3 = .ok (.invokestatic 73, 3) := by decide +kernel
theorem dX8_restore_6 : decode cX8_restore 6 = .ok (.ifCond .eq 6, 3) := by decide +kernel
theorem dX8_restore_9 : decode cX8_restore 9 = .ok (.bipush (-2), 2) := by decide +kernel
theorem dX8_restore_11 : decode cX8_restore 11 = .ok (.ireturn, 1) := by decide +kernel
theorem dX8_restore_12 : decode cX8_restore 12 = .ok (.aload_n 0, 1) := by decide +kernel
theorem dX8_restore_13 : decode cX8_restore 13 = .ok (.getfield 23, 3) := by decide +kernel
theorem dX8_restore_16 : decode cX8_restore 16 = .ok (.iload_n 1, 1) := by decide +kernel
theorem dX8_restore_17 : decode cX8_restore 17 = .ok (.baload, 1) := by decide +kernel
theorem dX8_restore_18 : decode cX8_restore 18 = .ok (.ifCond .ne 6, 3) := by decide +kernel
theorem dX8_restore_21 : decode cX8_restore 21 = .ok (.bipush (-3), 2) := by decide +kernel
theorem dX8_restore_23 : decode cX8_restore 23 = .ok (.ireturn, 1) := by decide +kernel
theorem dX8_restore_24 : decode cX8_restore 24 = .ok (.aload_n 0, 1) := by decide +kernel
theorem dX8_restore_25 : decode cX8_restore 25 = .ok (.getfield 10, 3) := by decide +kernel
theorem dX8_restore_28 : decode cX8_restore 28 = .ok (.aload_n 0, 1) := by decide +kernel
theorem dX8_restore_29 : decode cX8_restore 29 = .ok (.getfield 19, 3) := by decide +kernel
theorem dX8_restore_32 : decode cX8_restore 32 = .ok (.iload_n 1, 1) := by decide +kernel
theorem dX8_restore_33 : decode cX8_restore 33 = .ok (.aaload, 1) := by decide +kernel
theorem dX8_restore_34 : decode cX8_restore 34 = .ok (.invokevirtual 272, 3) := by decide +kernel
theorem dX8_restore_37 : decode cX8_restore 37 = .ok (.iconst 1, 1) := by decide +kernel
theorem dX8_restore_38 : decode cX8_restore 38 = .ok (.ireturn, 1) := by decide +kernel
theorem dX8_told_0 : decode cX8_told 0 = .ok (.iload_n 1, 1) := by decide +kernel
theorem dX8_told_1 : decode cX8_told 1 = .ok (.tableswitch 99 0 6 #[43, 51, 59, 67, 75, 83, 91], 43) := by decide +kernel
theorem dX8_told_44 : decode cX8_told 44 = .ok (.aload_n 0, 1) := by decide +kernel
theorem dX8_told_45 : decode cX8_told 45 = .ok (.getfield 30, 3) := by decide +kernel
theorem dX8_told_48 : decode cX8_told 48 = .ok (.getfield 128, 3) := by decide +kernel
theorem dX8_told_51 : decode cX8_told 51 = .ok (.ireturn, 1) := by decide +kernel
theorem dX8_told_52 : decode cX8_told 52 = .ok (.aload_n 0, 1) := by decide +kernel
theorem dX8_told_53 : decode cX8_told 53 = .ok (.getfield 10, 3) := by decide +kernel
theorem dX8_told_56 : decode cX8_told 56 = .ok (.getfield 77, 3) := by decide +kernel
theorem dX8_told_59 : decode cX8_told 59 = .ok (.ireturn, 1) := by decide +kernel
theorem dX8_told_60 : decode cX8_told 60 = .ok (.aload_n 0, 1) := by decide +kernel
theorem dX8_told_61 : decode cX8_told 61 = .ok (.getfield 10, 3) := by decide +kernel
theorem dX8_told_64 : decode cX8_told 64 = .ok (.getfield 106, 3) := by decide +kernel
theorem dX8_told_67 : decode cX8_told 67 = .ok (.ireturn, 1) := by decide +kernel
theorem dX8_told_68 : decode cX8_told 68 = .ok (.aload_n 0, 1) := by decide +kernel
theorem dX8_told_69 : decode cX8_told 69 = .ok (.getfield 10, 3) := by decide +kernel
theorem dX8_told_72 : decode cX8_told 72 = .ok (.getfield 275, 3) := by decide +kernel
theorem dX8_told_75 : decode cX8_told 75 = .ok (.ireturn, 1) := by decide +kernel
theorem dX8_told_76 : decode cX8_told 76 = .ok (.aload_n 0, 1) := by decide +kernel
theorem dX8_told_77 : decode cX8_told 77 = .ok (.getfield 10, 3) := by decide +kernel
theorem dX8_told_80 : decode cX8_told 80 = .ok (.getfield 278, 3) := by decide +kernel
theorem dX8_told_83 : decode cX8_told 83 = .ok (.ireturn, 1) := by decide +kernel
theorem dX8_told_84 : decode cX8_told 84 = .ok (.aload_n 0, 1) := by decide +kernel
theorem dX8_told_85 : decode cX8_told 85 = .ok (.getfield 10, 3) := by decide +kernel
theorem dX8_told_88 : decode cX8_told 88 = .ok (.getfield 281, 3) := by decide +kernel
theorem dX8_told_91 : decode cX8_told 91 = .ok (.ireturn, 1) := by decide +kernel
theorem dX8_told_92 : decode cX8_told 92 = .ok (.aload_n 0, 1) := by decide +kernel
theorem dX8_told_93 : decode cX8_told 93 = .ok (.getfield 10, 3) := by decide +kernel
theorem dX8_told_96 : decode cX8_told 96 = .ok (.getfield 200, 3) := by decide +kernel
theorem dX8_told_99 : decode cX8_told 99 = .ok (.ireturn, 1) := by decide +kernel
theorem dX8_told_100 : decode cX8_told 100 = .ok (.iload_n 1, 1) := by decide +kernel
theorem dX8_told_101 : decode cX8_told 101 = .ok (.bipush 10, 2) := by decide +kernel
theorem dX8_told_103 : decode cX8_told 103 = .ok (.if_icmp .ge 8, 3) := by decide +kernel
theorem dX8_told_106 : decode cX8_told 106 = .ok (.bipush (-2), 2) := by decide +kernel
theorem dX8_told_108 : decode cX8_told 108 = .ok (.goto 17, 3) := by decide +kernel
theorem dX8_told_111 : decode cX8_told 111 = .ok (.aload_n 0, 1) := by decide +kernel
theorem dX8_told_112 : decode cX8_told 112 = .ok (.iload_n 1, 1) := by decide +kernel
theorem dX8_told_113 : decode cX8_told 113 = .ok (.bipush 10, 2) := by decide +kernel
theorem dX8_told_115 : decode cX8_told 115 = .ok (.idiv, 1) := by decide +kernel
theorem dX8_told_116 : decode cX8_told 116 = .ok (.iconst 1, 1) := by decide +kernel
theorem dX8_told_117 : decode cX8_told 117 = .ok (.isub, 1) := by decide +kernel
theorem dX8_told_118 : decode cX8_told 118 = .ok (.iload_n 1, 1) := by decide +kernel
theorem dX8_told_119 : decode cX8_told 119 = .ok (.bipush 10, 2) := by decide +kernel
theorem dX8_told_121 : decode cX8_told 121 = .ok (.irem, 1) := by decide +kernel
theorem dX8_told_122 : decode cX8_told 122 = .ok (.invokevirtual 284, 3) := by decide +kernel
theorem dX8_told_125 : decode cX8_told 125 = .ok (.ireturn, 1) := by decide +kernel
theorem dX8_isOutside_0 : decode cX8_isOutside 0 = .ok (.iload_n 0, 1) := by decide +kernel
theorem dX8_isOutside_1 : decode cX8_isOutside 1 = .ok (.iload_n 1, 1) := by decide +kernel
theorem dX8_isOutside_2 : decode cX8_isOutside 2 = .ok (.if_icmp .lt 8, 3) := by decide +kernel
theorem dX8_isOutside_5 : decode cX8_isOutside 5 = .ok (.iload_n 0, 1) := by decide +kernel
theorem dX8_isOutside_6 : decode cX8_isOutside 6 = .ok (.iload_n 2, 1) := by decide +kernel
theorem dX8_isOutside_7 : decode cX8_isOutside 7 = .ok (.if_icmp .le 7, 3) := by decide +kernel
theorem dX8_isOutside_10 : decode cX8_isOutside 10 = .ok (.iconst 1, 1) := by decide +kernel
theorem dX8_isOutside_11 : decode cX8_isOutside 11 = .ok (.goto 4, 3) := by decide +kernel
theorem dX8_isOutside_14 : decode cX8_isOutside 14 = .ok (.iconst 0, 1) := by decide +kernel
theorem dX8_isOutside_15 : decode cX8_isOutside 15 = .ok (.ireturn, 1) := by decide +kernel
theorem dX8_goneThrough_0 : decode cX8_goneThrough 0 = .ok (.aload_n 0, 1) := by decide +kernel
theorem dX8_goneThrough_1 : decode cX8_goneThrough 1 = .ok (.getfield 36, 3) := by decide +kernel
theorem dX8_goneThrough_4 : decode cX8_goneThrough 4 = .ok (.iconst 0, 1) := by decide +kernel
theorem dX8_goneThrough_5 : decode cX8_goneThrough 5 = .ok (.aaload, 1) := by decide +kernel
theorem dX8_goneThrough_6 : decode cX8_goneThrough 6 = .ok (.astore_n 2, 1) := by decide +kernel
theorem dX8_goneThrough_7 : decode cX8_goneThrough 7 = .ok (.aload_n 2, 1) := by decide +kernel
theorem dX8_goneThrough_8 : decode cX8_goneThrough 8 = .ok (.aload_n 0, 1) := by decide +kernel
theorem dX8_goneThrough_9 : decode cX8_goneThrough 9 = .ok (.getfield 10, 3) := by decide +kernel
theorem dX8_goneThrough_12 : decode cX8_goneThrough 12 = .ok (.invokevirtual 287, 3) := by decide +kernel
theorem dX8_goneThrough_15 : decode cX8_goneThrough 15 = .ok (.aload_n 2, 1) := by decide +kernel
theorem dX8_goneThrough_16 : decode cX8_goneThrough 16 = .ok (.aload_n 0, 1) := by decide +kernel
theorem dX8_goneThrough_17 : decode cX8_goneThrough 17 = .ok (.getfield 10, 3) := by decide +kernel
theorem dX8_goneThrough_20 : decode cX8_goneThrough 20 = .ok (.aload_n 0, 1) := by decide +kernel
theorem dX8_goneThrough_21 : decode cX8_goneThrough 21 = .ok (.getfield 30, 3) := by decide +kernel
theorem dX8_goneThrough_24 : decode cX8_goneThrough 24 = .ok (.iconst 0, 1) := by decide +kernel
theorem dX8_goneThrough_25 : decode cX8_goneThrough 25 = .ok (.iload_n 1, 1) := by decide +kernel
theorem dX8_goneThrough_26 : decode cX8_goneThrough 26 = .ok (.invokevirtual 290, 3) := by decide +kernel
theorem dX8_goneThrough_29 : decode cX8_goneThrough 29 = .ok (.aload_n 2, 1) := by decide +kernel
theorem dX8_goneThrough_30 : decode cX8_goneThrough 30 = .ok (.areturn, 1) := by decide +kernel
theorem dX8_toldOf_0 : decode cX8_toldOf 0 = .ok (.aload_n 0, 1) := by decide +kernel
theorem dX8_toldOf_1 : decode cX8_toldOf 1 = .ok (.getfield 10, 3) := by decide +kernel
theorem dX8_toldOf_4 : decode cX8_toldOf 4 = .ok (.iload_n 1, 1) := by decide +kernel
theorem dX8_toldOf_5 : decode cX8_toldOf 5 = .ok (.invokevirtual 115, 3) := by decide +kernel
theorem dX8_toldOf_8 : decode cX8_toldOf 8 = .ok (.ifCond .ne 6, 3) := by decide +kernel
theorem dX8_toldOf_11 : decode cX8_toldOf 11 = .ok (.bipush (-2), 2) := by decide +kernel
theorem dX8_toldOf_13 : decode cX8_toldOf 13 = .ok (.ireturn, 1) := by decide +kernel
theorem dX8_toldOf_14 : decode cX8_toldOf 14 = .ok (.iload_n 2, 1) := by decide +kernel
theorem dX8_toldOf_15 : decode cX8_toldOf 15 = .ok (.tableswitch 90 0 4 #[33, 43, 53, 63, 73], 33) := by decide +kernel
theorem dX8_toldOf_48 : decode cX8_toldOf 48 = .ok (.aload_n 0, 1) := by decide +kernel
theorem dX8_toldOf_49 : decode cX8_toldOf 49 = .ok (.getfield 10, 3) := by decide +kernel
theorem dX8_toldOf_52 : decode cX8_toldOf 52 = .ok (.getfield 93, 3) := by decide +kernel
theorem dX8_toldOf_55 : decode cX8_toldOf 55 = .ok (.iload_n 1, 1) := by decide +kernel
theorem dX8_toldOf_56 : decode cX8_toldOf 56 = .ok (.iaload, 1) := by decide +kernel
theorem dX8_toldOf_57 : decode cX8_toldOf 57 = .ok (.ireturn, 1) := by decide +kernel
theorem dX8_toldOf_58 : decode cX8_toldOf 58 = .ok (.aload_n 0, 1) := by decide +kernel
theorem dX8_toldOf_59 : decode cX8_toldOf 59 = .ok (.getfield 10, 3) := by decide +kernel
theorem dX8_toldOf_62 : decode cX8_toldOf 62 = .ok (.getfield 97, 3) := by decide +kernel
theorem dX8_toldOf_65 : decode cX8_toldOf 65 = .ok (.iload_n 1, 1) := by decide +kernel
theorem dX8_toldOf_66 : decode cX8_toldOf 66 = .ok (.iaload, 1) := by decide +kernel
theorem dX8_toldOf_67 : decode cX8_toldOf 67 = .ok (.ireturn, 1) := by decide +kernel
theorem dX8_toldOf_68 : decode cX8_toldOf 68 = .ok (.aload_n 0, 1) := by decide +kernel
theorem dX8_toldOf_69 : decode cX8_toldOf 69 = .ok (.getfield 10, 3) := by decide +kernel
theorem dX8_toldOf_72 : decode cX8_toldOf 72 = .ok (.getfield 100, 3) := by decide +kernel
theorem dX8_toldOf_75 : decode cX8_toldOf 75 = .ok (.iload_n 1, 1) := by decide +kernel
theorem dX8_toldOf_76 : decode cX8_toldOf 76 = .ok (.iaload, 1) := by decide +kernel
theorem dX8_toldOf_77 : decode cX8_toldOf 77 = .ok (.ireturn, 1) := by decide +kernel
theorem dX8_toldOf_78 : decode cX8_toldOf 78 = .ok (.aload_n 0, 1) := by decide +kernel
theorem dX8_toldOf_79 : decode cX8_toldOf 79 = .ok (.getfield 10, 3) := by decide +kernel
theorem dX8_toldOf_82 : decode cX8_toldOf 82 = .ok (.getfield 103, 3) := by decide +kernel
theorem dX8_toldOf_85 : decode cX8_toldOf 85 = .ok (.iload_n 1, 1) := by decide +kernel
theorem dX8_toldOf_86 : decode cX8_toldOf 86 = .ok (.iaload, 1) := by decide +kernel
theorem dX8_toldOf_87 : decode cX8_toldOf 87 = .ok (.ireturn, 1) := by decide +kernel
theorem dX8_toldOf_88 : decode cX8_toldOf 88 = .ok (.aload_n 0, 1) := by decide +kernel
theorem dX8_toldOf_89 : decode cX8_toldOf 89 = .ok (.getfield 10, 3) := by decide +kernel
theorem dX8_toldOf_92 : decode cX8_toldOf 92 = .ok (.iload_n 1, 1) := by decide +kernel
theorem dX8_toldOf_93 : decode cX8_toldOf 93 = .ok (.invokevirtual 294, 3) := by decide +kernel
theorem dX8_toldOf_96 : decode cX8_toldOf 96 = .ok (.ifCond .eq 7, 3) := by decide +kernel
theorem dX8_toldOf_99 : decode cX8_toldOf 99 = .ok (.iconst 1, 1) := by decide +kernel
theorem dX8_toldOf_100 : decode cX8_toldOf 100 = .ok (.goto 4, 3) := by decide +kernel
theorem dX8_toldOf_103 : decode cX8_toldOf 103 = .ok (.iconst 0, 1) := by decide +kernel
theorem dX8_toldOf_104 : decode cX8_toldOf 104 = .ok (.ireturn, 1) := by decide +kernel
theorem dX8_toldOf_105 : decode cX8_toldOf 105 = .ok (.bipush (-2), 2) := by decide +kernel
theorem dX8_toldOf_107 : decode cX8_toldOf 107 = .ok (.ireturn, 1) := by decide +kernel
theorem dX8_bestStart_0 : decode cX8_bestStart 0 = .ok (.aload_n 0, 1) := by decide +kernel
theorem dX8_bestStart_1 : decode cX8_bestStart 1 = .ok (.iconst 0, 1) := by decide +kernel
theorem dX8_bestStart_2 : decode cX8_bestStart 2 = .ok (.invokevirtual 141, 3) := by decide +kernel
theorem dX8_bestStart_5 : decode cX8_bestStart 5 = .ok (.astore_n 2, 1) := by decide +kernel
theorem dX8_bestStart_6 : decode cX8_bestStart 6 = .ok (.aload_n 0, 1) := by decide +kernel
theorem dX8_bestStart_7 : decode cX8_bestStart 7 = .ok (.getfield 36, 3) := by decide +kernel
theorem dX8_bestStart_10 : decode cX8_bestStart 10 = .ok (.iconst 1, 1) := by decide +kernel
theorem dX8_bestStart_11 : decode cX8_bestStart 11 = .ok (.aaload, 1) := by decide +kernel
theorem dX8_bestStart_12 : decode cX8_bestStart 12 = .ok (.astore_n 3, 1) := by decide +kernel
theorem dX8_bestStart_13 : decode cX8_bestStart 13 = .ok (.iconst 0, 1) := by decide +kernel
theorem dX8_bestStart_14 : decode cX8_bestStart 14 = .ok (.istore 4, 2) := by decide +kernel
theorem dX8_bestStart_16 : decode cX8_bestStart 16 = .ok (.bipush (-6), 2) := by decide +kernel
theorem dX8_bestStart_18 : decode cX8_bestStart 18 = .ok (.istore 5, 2) := by decide +kernel
theorem dX8_bestStart_20 : decode cX8_bestStart 20 = .ok (.iconst 0, 1) := by decide +kernel
theorem dX8_bestStart_21 : decode cX8_bestStart 21 = .ok (.istore 6, 2) := by decide +kernel
theorem dX8_bestStart_23 : decode cX8_bestStart 23 = .ok (.iload 6, 2) := by decide +kernel
theorem dX8_bestStart_25 : decode cX8_bestStart 25 = .ok (.aload_n 0, 1) := by decide +kernel
theorem dX8_bestStart_26 : decode cX8_bestStart 26 = .ok (.getfield 30, 3) := by decide +kernel
theorem dX8_bestStart_29 : decode cX8_bestStart 29 = .ok (.getfield 128, 3) := by decide +kernel
theorem dX8_bestStart_32 : decode cX8_bestStart 32 = .ok (.if_icmp .gt 100, 3) := by decide +kernel
theorem dX8_bestStart_35 : decode cX8_bestStart 35 = .ok (.aload_n 3, 1) := by decide +kernel
theorem dX8_bestStart_36 : decode cX8_bestStart 36 = .ok (.aload_n 2, 1) := by decide +kernel
theorem dX8_bestStart_37 : decode cX8_bestStart 37 = .ok (.invokevirtual 297, 3) := by decide +kernel
theorem dX8_bestStart_40 : decode cX8_bestStart 40 = .ok (.aload_n 3, 1) := by decide +kernel
theorem dX8_bestStart_41 : decode cX8_bestStart 41 = .ok (.aload_n 0, 1) := by decide +kernel
theorem dX8_bestStart_42 : decode cX8_bestStart 42 = .ok (.getfield 10, 3) := by decide +kernel
theorem dX8_bestStart_45 : decode cX8_bestStart 45 = .ok (.bipush 115, 2) := by decide +kernel
theorem dX8_bestStart_47 : decode cX8_bestStart 47 = .ok (.iconst 0, 1) := by decide +kernel
theorem dX8_bestStart_48 : decode cX8_bestStart 48 = .ok (.invokevirtual 155, 3) := by decide +kernel
theorem dX8_bestStart_51 : decode cX8_bestStart 51 = .ok (.aload_n 3, 1) := by decide +kernel
theorem dX8_bestStart_52 : decode cX8_bestStart 52 = .ok (.aload_n 0, 1) := by decide +kernel
theorem dX8_bestStart_53 : decode cX8_bestStart 53 = .ok (.getfield 10, 3) := by decide +kernel
theorem dX8_bestStart_56 : decode cX8_bestStart 56 = .ok (.aload_n 0, 1) := by decide +kernel
theorem dX8_bestStart_57 : decode cX8_bestStart 57 = .ok (.getfield 30, 3) := by decide +kernel
theorem dX8_bestStart_60 : decode cX8_bestStart 60 = .ok (.iload 6, 2) := by decide +kernel
theorem dX8_bestStart_62 : decode cX8_bestStart 62 = .ok (.aload_n 0, 1) := by decide +kernel
theorem dX8_bestStart_63 : decode cX8_bestStart 63 = .ok (.getfield 30, 3) := by decide +kernel
theorem dX8_bestStart_66 : decode cX8_bestStart 66 = .ok (.getfield 128, 3) := by decide +kernel
theorem dX8_bestStart_69 : decode cX8_bestStart 69 = .ok (.invokevirtual 290, 3) := by decide +kernel
theorem dX8_bestStart_72 : decode cX8_bestStart 72 = .ok (.iload 5, 2) := by decide +kernel
theorem dX8_bestStart_74 : decode cX8_bestStart 74 = .ok (.bipush (-6), 2) := by decide +kernel
theorem dX8_bestStart_76 : decode cX8_bestStart 76 = .ok (.if_icmp .eq 12, 3) := by decide +kernel
theorem dX8_bestStart_79 : decode cX8_bestStart 79 = .ok (.aload_n 3, 1) := by decide +kernel
theorem dX8_bestStart_80 : decode cX8_bestStart 80 = .ok (.invokevirtual 165, 3) := by decide +kernel
theorem dX8_bestStart_83 : decode cX8_bestStart 83 = .ok (.iload 4, 2) := by decide +kernel
theorem dX8_bestStart_85 : decode cX8_bestStart 85 = .ok (.if_icmp .le 13, 3) := by decide +kernel
theorem dX8_bestStart_88 : decode cX8_bestStart 88 = .ok (.aload_n 3, 1) := by decide +kernel
theorem dX8_bestStart_89 : decode cX8_bestStart 89 = .ok (.invokevirtual 165, 3) := by decide +kernel
theorem dX8_bestStart_92 : decode cX8_bestStart 92 = .ok (.istore 4, 2) := by decide +kernel
theorem dX8_bestStart_94 : decode cX8_bestStart 94 = .ok (.iload 6, 2) := by decide +kernel
theorem dX8_bestStart_96 : decode cX8_bestStart 96 = .ok (.istore 5, 2) := by decide +kernel
theorem dX8_bestStart_98 : decode cX8_bestStart 98 = .ok (.aload_n 2, 1) := by decide +kernel
theorem dX8_bestStart_99 : decode cX8_bestStart 99 = .ok (.aload_n 0, 1) := by decide +kernel
theorem dX8_bestStart_100 : decode cX8_bestStart 100 = .ok (.getfield 10, 3) := by decide +kernel
theorem dX8_bestStart_103 : decode cX8_bestStart 103 = .ok (.aload_n 0, 1) := by decide +kernel
theorem dX8_bestStart_104 : decode cX8_bestStart 104 = .ok (.getfield 30, 3) := by decide +kernel
theorem dX8_bestStart_107 : decode cX8_bestStart 107 = .ok (.iload 6, 2) := by decide +kernel
theorem dX8_bestStart_109 : decode cX8_bestStart 109 = .ok (.iload 6, 2) := by decide +kernel
theorem dX8_bestStart_111 : decode cX8_bestStart 111 = .ok (.iconst 1, 1) := by decide +kernel
theorem dX8_bestStart_112 : decode cX8_bestStart 112 = .ok (.iadd, 1) := by decide +kernel
theorem dX8_bestStart_113 : decode cX8_bestStart 113 = .ok (.aload_n 0, 1) := by decide +kernel
theorem dX8_bestStart_114 : decode cX8_bestStart 114 = .ok (.getfield 30, 3) := by decide +kernel
theorem dX8_bestStart_117 : decode cX8_bestStart 117 = .ok (.getfield 128, 3) := by decide +kernel
theorem dX8_bestStart_120 : decode cX8_bestStart 120 = .ok (.invokestatic 300, 3) := by decide +kernel
theorem dX8_bestStart_123 : decode cX8_bestStart 123 = .ok (.invokevirtual 290, 3) := by decide +kernel
theorem dX8_bestStart_126 : decode cX8_bestStart 126 = .ok (.iinc 6 1, 3) := by decide +kernel
theorem dX8_bestStart_129 : decode cX8_bestStart 129 = .ok (.goto (-106), 3) := by decide +kernel
theorem dX8_bestStart_132 : decode cX8_bestStart 132 = .ok (.iload_n 1, 1) := by decide +kernel
theorem dX8_bestStart_133 : decode cX8_bestStart 133 = .ok (.ifCond .eq 8, 3) := by decide +kernel
theorem dX8_bestStart_136 : decode cX8_bestStart 136 = .ok (.iload 5, 2) := by decide +kernel
theorem dX8_bestStart_138 : decode cX8_bestStart 138 = .ok (.goto 5, 3) := by decide +kernel
theorem dX8_bestStart_141 : decode cX8_bestStart 141 = .ok (.iload 4, 2) := by decide +kernel
theorem dX8_bestStart_143 : decode cX8_bestStart 143 = .ok (.ireturn, 1) := by decide +kernel
theorem dX8_bestChange_0 : decode cX8_bestChange 0 = .ok (.aload_n 0, 1) := by decide +kernel
theorem dX8_bestChange_1 : decode cX8_bestChange 1 = .ok (.aload_n 0, 1) := by decide +kernel
theorem dX8_bestChange_2 : decode cX8_bestChange 2 = .ok (.getfield 30, 3) := by decide +kernel
theorem dX8_bestChange_5 : decode cX8_bestChange 5 = .ok (.getfield 128, 3) := by decide +kernel
theorem dX8_bestChange_8 : decode cX8_bestChange 8 = .ok (.invokevirtual 141, 3) := by decide +kernel
theorem dX8_bestChange_11 : decode cX8_bestChange 11 = .ok (.getfield 305, 3) := by decide +kernel
theorem dX8_bestChange_14 : decode cX8_bestChange 14 = .ok (.istore_n 2, 1) := by decide +kernel
theorem dX8_bestChange_15 : decode cX8_bestChange 15 = .ok (.bipush (-6), 2) := by decide +kernel
theorem dX8_bestChange_17 : decode cX8_bestChange 17 = .ok (.istore_n 3, 1) := by decide +kernel
theorem dX8_bestChange_18 : decode cX8_bestChange 18 = .ok (.iconst 0, 1) := by decide +kernel
theorem dX8_bestChange_19 : decode cX8_bestChange 19 = .ok (.istore 4, 2) := by decide +kernel
theorem dX8_bestChange_21 : decode cX8_bestChange 21 = .ok (.iload 4, 2) := by decide +kernel
theorem dX8_bestChange_23 : decode cX8_bestChange 23 = .ok (.bipush 8, 2) := by decide +kernel
theorem dX8_bestChange_25 : decode cX8_bestChange 25 = .ok (.if_icmp .ge 69, 3) := by decide +kernel
theorem dX8_bestChange_28 : decode cX8_bestChange 28 = .ok (.iconst 0, 1) := by decide +kernel
theorem dX8_bestChange_29 : decode cX8_bestChange 29 = .ok (.istore 5, 2) := by decide +kernel
theorem dX8_bestChange_31 : decode cX8_bestChange 31 = .ok (.iload 5, 2) := by decide +kernel
theorem dX8_bestChange_33 : decode cX8_bestChange 33 = .ok (.aload_n 0, 1) := by decide +kernel
theorem dX8_bestChange_34 : decode cX8_bestChange 34 = .ok (.getfield 10, 3) := by decide +kernel
theorem dX8_bestChange_37 : decode cX8_bestChange 37 = .ok (.invokevirtual 85, 3) := by decide +kernel
theorem dX8_bestChange_40 : decode cX8_bestChange 40 = .ok (.if_icmp .ge 48, 3) := by decide +kernel
theorem dX8_bestChange_43 : decode cX8_bestChange 43 = .ok (.aload_n 0, 1) := by decide +kernel
theorem dX8_bestChange_44 : decode cX8_bestChange 44 = .ok (.iload 4, 2) := by decide +kernel
theorem dX8_bestChange_46 : decode cX8_bestChange 46 = .ok (.iload 5, 2) := by decide +kernel
theorem dX8_bestChange_48 : decode cX8_bestChange 48 = .ok (.invokevirtual 308, 3) := by decide +kernel
theorem dX8_bestChange_51 : decode cX8_bestChange 51 = .ok (.ifCond .eq 31, 3) := by decide +kernel
theorem dX8_bestChange_54 : decode cX8_bestChange 54 = .ok (.aload_n 0, 1) := by decide +kernel
theorem dX8_bestChange_55 : decode cX8_bestChange 55 = .ok (.iload 4, 2) := by decide +kernel
theorem dX8_bestChange_57 : decode cX8_bestChange 57 = .ok (.iload 5, 2) := by decide +kernel
theorem dX8_bestChange_59 : decode cX8_bestChange 59 = .ok (.invokevirtual 312, 3) := by decide +kernel
theorem dX8_bestChange_62 : decode cX8_bestChange 62 = .ok (.istore 6, 2) := by decide +kernel
theorem dX8_bestChange_64 : decode cX8_bestChange 64 = .ok (.iload 6, 2) := by decide +kernel
theorem dX8_bestChange_66 : decode cX8_bestChange 66 = .ok (.iload_n 2, 1) := by decide +kernel
theorem dX8_bestChange_67 : decode cX8_bestChange 67 = .ok (.if_icmp .ge 15, 3) := by decide +kernel
theorem dX8_bestChange_70 : decode cX8_bestChange 70 = .ok (.iload 6, 2) := by decide +kernel
theorem dX8_bestChange_72 : decode cX8_bestChange 72 = .ok (.istore_n 2, 1) := by decide +kernel
theorem dX8_bestChange_73 : decode cX8_bestChange 73 = .ok (.bipush 100, 2) := by decide +kernel
theorem dX8_bestChange_75 : decode cX8_bestChange 75 = .ok (.iload 4, 2) := by decide +kernel
theorem dX8_bestChange_77 : decode cX8_bestChange 77 = .ok (.imul, 1) := by decide +kernel
theorem dX8_bestChange_78 : decode cX8_bestChange 78 = .ok (.iload 5, 2) := by decide +kernel
theorem dX8_bestChange_80 : decode cX8_bestChange 80 = .ok (.iadd, 1) := by decide +kernel
theorem dX8_bestChange_81 : decode cX8_bestChange 81 = .ok (.istore_n 3, 1) := by decide +kernel
theorem dX8_bestChange_82 : decode cX8_bestChange 82 = .ok (.iinc 5 1, 3) := by decide +kernel
theorem dX8_bestChange_85 : decode cX8_bestChange 85 = .ok (.goto (-54), 3) := by decide +kernel
theorem dX8_bestChange_88 : decode cX8_bestChange 88 = .ok (.iinc 4 1, 3) := by decide +kernel
theorem dX8_bestChange_91 : decode cX8_bestChange 91 = .ok (.goto (-70), 3) := by decide +kernel
theorem dX8_bestChange_94 : decode cX8_bestChange 94 = .ok (.iload_n 1, 1) := by decide +kernel
theorem dX8_bestChange_95 : decode cX8_bestChange 95 = .ok (.ifCond .eq 7, 3) := by decide +kernel
theorem dX8_bestChange_98 : decode cX8_bestChange 98 = .ok (.iload_n 3, 1) := by decide +kernel
theorem dX8_bestChange_99 : decode cX8_bestChange 99 = .ok (.goto 4, 3) := by decide +kernel
theorem dX8_bestChange_102 : decode cX8_bestChange 102 = .ok (.iload_n 2, 1) := by decide +kernel
theorem dX8_bestChange_103 : decode cX8_bestChange 103 = .ok (.ireturn, 1) := by decide +kernel
theorem dX8_isNewChange_0 : decode cX8_isNewChange 0 = .ok (.aload_n 0, 1) := by decide +kernel
theorem dX8_isNewChange_1 : decode cX8_isNewChange 1 = .ok (.getfield 10, 3) := by decide +kernel
theorem dX8_isNewChange_4 : decode cX8_isNewChange 4 = .ok (.iload_n 1, 1) := by decide +kernel
theorem dX8_isNewChange_5 : decode cX8_isNewChange 5 = .ok (.invokevirtual 115, 3) := by decide +kernel
theorem dX8_isNewChange_8 : decode cX8_isNewChange 8 = .ok (.ifCond .ne 5, 3) := by decide +kernel
theorem dX8_isNewChange_11 : decode cX8_isNewChange 11 = .ok (.iconst 0, 1) := by decide +kernel
theorem dX8_isNewChange_12 : decode cX8_isNewChange 12 = .ok (.ireturn, 1) := by decide +kernel
theorem dX8_isNewChange_13 : decode cX8_isNewChange 13 = .ok (.aload_n 0, 1) := by decide +kernel
theorem dX8_isNewChange_14 : decode cX8_isNewChange 14 = .ok (.getfield 10, 3) := by decide +kernel
theorem dX8_isNewChange_17 : decode cX8_isNewChange 17 = .ok (.iload_n 2, 1) := by decide +kernel
theorem dX8_isNewChange_18 : decode cX8_isNewChange 18 = .ok (.invokevirtual 89, 3) := by decide +kernel
theorem dX8_isNewChange_21 : decode cX8_isNewChange 21 = .ok (.istore_n 3, 1) := by decide +kernel
theorem dX8_isNewChange_22 : decode cX8_isNewChange 22 = .ok (.iload_n 3, 1) := by decide +kernel
theorem dX8_isNewChange_23 : decode cX8_isNewChange 23 = .ok (.bipush (-6), 2) := by decide +kernel
theorem dX8_isNewChange_25 : decode cX8_isNewChange 25 = .ok (.if_icmp .eq 8, 3) := by decide +kernel
theorem dX8_isNewChange_28 : decode cX8_isNewChange 28 = .ok (.iload_n 3, 1) := by decide +kernel
theorem dX8_isNewChange_29 : decode cX8_isNewChange 29 = .ok (.iload_n 1, 1) := by decide +kernel
theorem dX8_isNewChange_30 : decode cX8_isNewChange 30 = .ok (.if_icmp .le 7, 3) := by decide +kernel
theorem dX8_isNewChange_33 : decode cX8_isNewChange 33 = .ok (.iconst 1, 1) := by decide +kernel
theorem dX8_isNewChange_34 : decode cX8_isNewChange 34 = .ok (.goto 4, 3) := by decide +kernel
theorem dX8_isNewChange_37 : decode cX8_isNewChange 37 = .ok (.iconst 0, 1) := by decide +kernel
theorem dX8_isNewChange_38 : decode cX8_isNewChange 38 = .ok (.ireturn, 1) := by decide +kernel
theorem dX8_nodsWhenChanged_0 : decode cX8_nodsWhenChanged 0 = .ok (.aload_n 0, 1) := by decide +kernel
theorem dX8_nodsWhenChanged_1 : decode cX8_nodsWhenChanged 1 = .ok (.getfield 16, 3) := by decide +kernel
theorem dX8_nodsWhenChanged_4 : decode cX8_nodsWhenChanged 4 = .ok (.aload_n 0, 1) := by decide +kernel
theorem dX8_nodsWhenChanged_5 : decode cX8_nodsWhenChanged 5 = .ok (.getfield 10, 3) := by decide +kernel
theorem dX8_nodsWhenChanged_8 : decode cX8_nodsWhenChanged 8 = .ok (.invokevirtual 272, 3) := by decide +kernel
theorem dX8_nodsWhenChanged_11 : decode cX8_nodsWhenChanged 11 = .ok (.aload_n 0, 1) := by decide +kernel
theorem dX8_nodsWhenChanged_12 : decode cX8_nodsWhenChanged 12 = .ok (.getfield 16, 3) := by decide +kernel
theorem dX8_nodsWhenChanged_15 : decode cX8_nodsWhenChanged 15 = .ok (.iload_n 2, 1) := by decide +kernel
theorem dX8_nodsWhenChanged_16 : decode cX8_nodsWhenChanged 16 = .ok (.invokevirtual 89, 3) := by decide +kernel
theorem dX8_nodsWhenChanged_19 : decode cX8_nodsWhenChanged 19 = .ok (.istore_n 3, 1) := by decide +kernel
theorem dX8_nodsWhenChanged_20 : decode cX8_nodsWhenChanged 20 = .ok (.iload_n 3, 1) := by decide +kernel
theorem dX8_nodsWhenChanged_21 : decode cX8_nodsWhenChanged 21 = .ok (.bipush (-6), 2) := by decide +kernel
theorem dX8_nodsWhenChanged_23 : decode cX8_nodsWhenChanged 23 = .ok (.if_icmp .eq 21, 3) := by decide +kernel
theorem dX8_nodsWhenChanged_26 : decode cX8_nodsWhenChanged 26 = .ok (.aload_n 0, 1) := by decide +kernel
theorem dX8_nodsWhenChanged_27 : decode cX8_nodsWhenChanged 27 = .ok (.getfield 16, 3) := by decide +kernel
theorem dX8_nodsWhenChanged_30 : decode cX8_nodsWhenChanged 30 = .ok (.getfield 93, 3) := by decide +kernel
theorem dX8_nodsWhenChanged_33 : decode cX8_nodsWhenChanged 33 = .ok (.iload_n 3, 1) := by decide +kernel
theorem dX8_nodsWhenChanged_34 : decode cX8_nodsWhenChanged 34 = .ok (.aload_n 0, 1) := by decide +kernel
theorem dX8_nodsWhenChanged_35 : decode cX8_nodsWhenChanged 35 = .ok (.getfield 16, 3) := by decide +kernel
theorem dX8_nodsWhenChanged_38 : decode cX8_nodsWhenChanged 38 = .ok (.getfield 93, 3) := by decide +kernel
theorem dX8_nodsWhenChanged_41 : decode cX8_nodsWhenChanged 41 = .ok (.iload_n 1, 1) := by decide +kernel
theorem dX8_nodsWhenChanged_42 : decode cX8_nodsWhenChanged 42 = .ok (.iaload, 1) := by decide +kernel
theorem dX8_nodsWhenChanged_43 : decode cX8_nodsWhenChanged 43 = .ok (.iastore, 1) := by decide +kernel
theorem dX8_nodsWhenChanged_44 : decode cX8_nodsWhenChanged 44 = .ok (.aload_n 0, 1) := by decide +kernel
theorem dX8_nodsWhenChanged_45 : decode cX8_nodsWhenChanged 45 = .ok (.getfield 16, 3) := by decide +kernel
theorem dX8_nodsWhenChanged_48 : decode cX8_nodsWhenChanged 48 = .ok (.getfield 93, 3) := by decide +kernel
theorem dX8_nodsWhenChanged_51 : decode cX8_nodsWhenChanged 51 = .ok (.iload_n 1, 1) := by decide +kernel
theorem dX8_nodsWhenChanged_52 : decode cX8_nodsWhenChanged 52 = .ok (.iload_n 2, 1) := by decide +kernel
theorem dX8_nodsWhenChanged_53 : decode cX8_nodsWhenChanged 53 = .ok (.iastore, 1) := by decide +kernel
theorem dX8_nodsWhenChanged_54 : decode cX8_nodsWhenChanged 54 = .ok (.aload_n 0, 1) := by decide +kernel
theorem dX8_nodsWhenChanged_55 : decode cX8_nodsWhenChanged 55 = .ok (.getfield 36, 3) := by decide +kernel
theorem dX8_nodsWhenChanged_58 : decode cX8_nodsWhenChanged 58 = .ok (.iconst 0, 1) := by decide +kernel
theorem dX8_nodsWhenChanged_59 : decode cX8_nodsWhenChanged 59 = .ok (.aaload, 1) := by decide +kernel
theorem dX8_nodsWhenChanged_60 : decode cX8_nodsWhenChanged 60 = .ok (.astore 4, 2) := by decide +kernel
theorem dX8_nodsWhenChanged_62 : decode cX8_nodsWhenChanged 62 = .ok (.aload 4, 2) := by decide +kernel
theorem dX8_nodsWhenChanged_64 : decode cX8_nodsWhenChanged 64 = .ok (.aload_n 0, 1) := by decide +kernel
theorem dX8_nodsWhenChanged_65 : decode cX8_nodsWhenChanged 65 = .ok (.getfield 16, 3) := by decide +kernel
theorem dX8_nodsWhenChanged_68 : decode cX8_nodsWhenChanged 68 = .ok (.invokevirtual 287, 3) := by decide +kernel
theorem dX8_nodsWhenChanged_71 : decode cX8_nodsWhenChanged 71 = .ok (.aload 4, 2) := by decide +kernel
theorem dX8_nodsWhenChanged_73 : decode cX8_nodsWhenChanged 73 = .ok (.aload_n 0, 1) := by decide +kernel
theorem dX8_nodsWhenChanged_74 : decode cX8_nodsWhenChanged 74 = .ok (.getfield 16, 3) := by decide +kernel
theorem dX8_nodsWhenChanged_77 : decode cX8_nodsWhenChanged 77 = .ok (.aload_n 0, 1) := by decide +kernel
theorem dX8_nodsWhenChanged_78 : decode cX8_nodsWhenChanged 78 = .ok (.getfield 30, 3) := by decide +kernel
theorem dX8_nodsWhenChanged_81 : decode cX8_nodsWhenChanged 81 = .ok (.iconst 0, 1) := by decide +kernel
theorem dX8_nodsWhenChanged_82 : decode cX8_nodsWhenChanged 82 = .ok (.aload_n 0, 1) := by decide +kernel
theorem dX8_nodsWhenChanged_83 : decode cX8_nodsWhenChanged 83 = .ok (.getfield 30, 3) := by decide +kernel
theorem dX8_nodsWhenChanged_86 : decode cX8_nodsWhenChanged 86 = .ok (.getfield 128, 3) := by decide +kernel
theorem dX8_nodsWhenChanged_89 : decode cX8_nodsWhenChanged 89 = .ok (.invokevirtual 290, 3) := by decide +kernel
theorem dX8_nodsWhenChanged_92 : decode cX8_nodsWhenChanged 92 = .ok (.aload 4, 2) := by decide +kernel
theorem dX8_nodsWhenChanged_94 : decode cX8_nodsWhenChanged 94 = .ok (.getfield 305, 3) := by decide +kernel
theorem dX8_nodsWhenChanged_97 : decode cX8_nodsWhenChanged 97 = .ok (.ireturn, 1) := by decide +kernel
theorem dX8_fewestUprights_0 : decode cX8_fewestUprights 0 = .ok (.aload_n 0, 1) := by decide +kernel
theorem dX8_fewestUprights_1 : decode cX8_fewestUprights 1 = .ok (.getfield 10, 3) := by decide +kernel
theorem dX8_fewestUprights_4 : decode cX8_fewestUprights 4 = .ok (.getfield 106, 3) := by decide +kernel
theorem dX8_fewestUprights_7 : decode cX8_fewestUprights 7 = .ok (.aload_n 0, 1) := by decide +kernel
theorem dX8_fewestUprights_8 : decode cX8_fewestUprights 8 = .ok (.getfield 10, 3) := by decide +kernel
theorem dX8_fewestUprights_11 : decode cX8_fewestUprights 11 = .ok (.getfield 109, 3) := by decide +kernel
theorem dX8_fewestUprights_14 : decode cX8_fewestUprights 14 = .ok (.iconst (-1), 1) := by decide +kernel
theorem dX8_fewestUprights_15 : decode cX8_fewestUprights 15 = .ok (.ixor, 1) := by decide +kernel
theorem dX8_fewestUprights_16 : decode cX8_fewestUprights 16 = .ok (.iand, 1) := by decide +kernel
theorem dX8_fewestUprights_17 : decode cX8_fewestUprights 17 = .ok (.istore_n 2, 1) := by decide +kernel
theorem dX8_fewestUprights_18 : decode cX8_fewestUprights 18 = .ok (.aload_n 0, 1) := by decide +kernel
theorem dX8_fewestUprights_19 : decode cX8_fewestUprights 19 = .ok (.getfield 16, 3) := by decide +kernel
theorem dX8_fewestUprights_22 : decode cX8_fewestUprights 22 = .ok (.aload_n 0, 1) := by decide +kernel
theorem dX8_fewestUprights_23 : decode cX8_fewestUprights 23 = .ok (.getfield 10, 3) := by decide +kernel
theorem dX8_fewestUprights_26 : decode cX8_fewestUprights 26 = .ok (.invokevirtual 272, 3) := by decide +kernel
theorem dX8_fewestUprights_29 : decode cX8_fewestUprights 29 = .ok (.iconst 0, 1) := by decide +kernel
theorem dX8_fewestUprights_30 : decode cX8_fewestUprights 30 = .ok (.istore_n 3, 1) := by decide +kernel
theorem dX8_fewestUprights_31 : decode cX8_fewestUprights 31 = .ok (.iload_n 3, 1) := by decide +kernel
theorem dX8_fewestUprights_32 : decode cX8_fewestUprights 32 = .ok (.bipush 8, 2) := by decide +kernel
theorem dX8_fewestUprights_34 : decode cX8_fewestUprights 34 = .ok (.if_icmp .gt 72, 3) := by decide +kernel
theorem dX8_fewestUprights_37 : decode cX8_fewestUprights 37 = .ok (.iconst 0, 1) := by decide +kernel
theorem dX8_fewestUprights_38 : decode cX8_fewestUprights 38 = .ok (.istore 4, 2) := by decide +kernel
theorem dX8_fewestUprights_40 : decode cX8_fewestUprights 40 = .ok (.iload 4, 2) := by decide +kernel
theorem dX8_fewestUprights_42 : decode cX8_fewestUprights 42 = .ok (.sipush 256, 3) := by decide +kernel
theorem dX8_fewestUprights_45 : decode cX8_fewestUprights 45 = .ok (.if_icmp .ge 55, 3) := by decide +kernel
theorem dX8_fewestUprights_48 : decode cX8_fewestUprights 48 = .ok (.iload 4, 2) := by decide +kernel
theorem dX8_fewestUprights_50 : decode cX8_fewestUprights 50 = .ok (.iload_n 2, 1) := by decide +kernel
theorem dX8_fewestUprights_51 : decode cX8_fewestUprights 51 = .ok (.iconst (-1), 1) := by decide +kernel
theorem dX8_fewestUprights_52 : decode cX8_fewestUprights 52 = .ok (.ixor, 1) := by decide +kernel
theorem dX8_fewestUprights_53 : decode cX8_fewestUprights 53 = .ok (.iand, 1) := by decide +kernel
theorem dX8_fewestUprights_54 : decode cX8_fewestUprights 54 = .ok (.ifCond .ne 40, 3) := by decide +kernel
theorem dX8_fewestUprights_57 : decode cX8_fewestUprights 57 = .ok (.iload 4, 2) := by decide +kernel
theorem dX8_fewestUprights_59 : decode cX8_fewestUprights 59 = .ok (.invokestatic 192, 3) := by decide +kernel
theorem dX8_fewestUprights_62 : decode cX8_fewestUprights 62 = .ok (.iload_n 3, 1) := by decide +kernel
theorem dX8_fewestUprights_63 : decode cX8_fewestUprights 63 = .ok (.if_icmp .ne 31, 3) := by decide +kernel
theorem dX8_fewestUprights_66 : decode cX8_fewestUprights 66 = .ok (.aload_n 0, 1) := by decide +kernel
theorem dX8_fewestUprights_67 : decode cX8_fewestUprights 67 = .ok (.getfield 16, 3) := by decide +kernel
theorem dX8_fewestUprights_70 : decode cX8_fewestUprights 70 = .ok (.aload_n 0, 1) := by decide +kernel
theorem dX8_fewestUprights_71 : decode cX8_fewestUprights 71 = .ok (.getfield 10, 3) := by decide +kernel
theorem dX8_fewestUprights_74 : decode cX8_fewestUprights 74 = .ok (.getfield 109, 3) := by decide +kernel
theorem dX8_fewestUprights_77 : decode cX8_fewestUprights 77 = .ok (.iload 4, 2) := by decide +kernel
theorem dX8_fewestUprights_79 : decode cX8_fewestUprights 79 = .ok (.ior, 1) := by decide +kernel
theorem dX8_fewestUprights_80 : decode cX8_fewestUprights 80 = .ok (.putfield 109, 3) := by decide +kernel
theorem dX8_fewestUprights_83 : decode cX8_fewestUprights 83 = .ok (.aload_n 0, 1) := by decide +kernel
theorem dX8_fewestUprights_84 : decode cX8_fewestUprights 84 = .ok (.iload_n 1, 1) := by decide +kernel
theorem dX8_fewestUprights_85 : decode cX8_fewestUprights 85 = .ok (.invokevirtual 315, 3) := by decide +kernel
theorem dX8_fewestUprights_88 : decode cX8_fewestUprights 88 = .ok (.ifCond .eq 6, 3) := by decide +kernel
theorem dX8_fewestUprights_91 : decode cX8_fewestUprights 91 = .ok (.iload 4, 2) := by decide +kernel
theorem dX8_fewestUprights_93 : decode cX8_fewestUprights 93 = .ok (.ireturn, 1) := by decide +kernel
theorem dX8_fewestUprights_94 : decode cX8_fewestUprights 94 = .ok (.iinc 4 1, 3) := by decide +kernel
theorem dX8_fewestUprights_97 : decode cX8_fewestUprights 97 = .ok (.goto (-57), 3) := by decide +kernel
theorem dX8_fewestUprights_100 : decode cX8_fewestUprights 100 = .ok (.iinc 3 1, 3) := by decide +kernel
theorem dX8_fewestUprights_103 : decode cX8_fewestUprights 103 = .ok (.goto (-72), 3) := by decide +kernel
theorem dX8_fewestUprights_106 : decode cX8_fewestUprights 106 = .ok (.bipush (-6), 2) := by decide +kernel
theorem dX8_fewestUprights_108 : decode cX8_fewestUprights 108 = .ok (.ireturn, 1) := by decide +kernel
theorem dX8_isTrialTaxWithin_0 : decode cX8_isTrialTaxWithin 0 = .ok (.aload_n 0, 1) := by decide +kernel
theorem dX8_isTrialTaxWithin_1 : decode cX8_isTrialTaxWithin 1 = .ok (.getfield 36, 3) := by decide +kernel
theorem dX8_isTrialTaxWithin_4 : decode cX8_isTrialTaxWithin 4 = .ok (.iconst 0, 1) := by decide +kernel
theorem dX8_isTrialTaxWithin_5 : decode cX8_isTrialTaxWithin 5 = .ok (.aaload, 1) := by decide +kernel
theorem dX8_isTrialTaxWithin_6 : decode cX8_isTrialTaxWithin 6 = .ok (.astore_n 2, 1) := by decide +kernel
theorem dX8_isTrialTaxWithin_7 : decode cX8_isTrialTaxWithin 7 = .ok (.aload_n 2, 1) := by decide +kernel
theorem dX8_isTrialTaxWithin_8 : decode cX8_isTrialTaxWithin 8 = .ok (.aload_n 0, 1) := by decide +kernel
theorem dX8_isTrialTaxWithin_9 : decode cX8_isTrialTaxWithin 9 = .ok (.getfield 16, 3) := by decide +kernel
theorem dX8_isTrialTaxWithin_12 : decode cX8_isTrialTaxWithin 12 = .ok (.invokevirtual 287, 3) := by decide +kernel
theorem dX8_isTrialTaxWithin_15 : decode cX8_isTrialTaxWithin 15 = .ok (.iconst 0, 1) := by decide +kernel
theorem dX8_isTrialTaxWithin_16 : decode cX8_isTrialTaxWithin 16 = .ok (.istore_n 3, 1) := by decide +kernel
theorem dX8_isTrialTaxWithin_17 : decode cX8_isTrialTaxWithin 17 = .ok (.iload_n 3, 1) := by decide +kernel
theorem dX8_isTrialTaxWithin_18 : decode cX8_isTrialTaxWithin 18 = .ok (.aload_n 0, 1) := by decide +kernel
theorem dX8_isTrialTaxWithin_19 : decode cX8_isTrialTaxWithin 19 = .ok (.getfield 30, 3) := by decide +kernel
theorem dX8_isTrialTaxWithin_22 : decode cX8_isTrialTaxWithin 22 = .ok (.getfield 128, 3) := by decide +kernel
theorem dX8_isTrialTaxWithin_25 : decode cX8_isTrialTaxWithin 25 = .ok (.if_icmp .ge 35, 3) := by decide +kernel
theorem dX8_isTrialTaxWithin_28 : decode cX8_isTrialTaxWithin 28 = .ok (.aload_n 2, 1) := by decide +kernel
theorem dX8_isTrialTaxWithin_29 : decode cX8_isTrialTaxWithin 29 = .ok (.getfield 318, 3) := by decide +kernel
theorem dX8_isTrialTaxWithin_32 : decode cX8_isTrialTaxWithin 32 = .ok (.iload_n 1, 1) := by decide +kernel
theorem dX8_isTrialTaxWithin_33 : decode cX8_isTrialTaxWithin 33 = .ok (.if_icmp .gt 27, 3) := by decide +kernel
theorem dX8_isTrialTaxWithin_36 : decode cX8_isTrialTaxWithin 36 = .ok (.aload_n 2, 1) := by decide +kernel
theorem dX8_isTrialTaxWithin_37 : decode cX8_isTrialTaxWithin 37 = .ok (.aload_n 0, 1) := by decide +kernel
theorem dX8_isTrialTaxWithin_38 : decode cX8_isTrialTaxWithin 38 = .ok (.getfield 16, 3) := by decide +kernel
theorem dX8_isTrialTaxWithin_41 : decode cX8_isTrialTaxWithin 41 = .ok (.aload_n 0, 1) := by decide +kernel
theorem dX8_isTrialTaxWithin_42 : decode cX8_isTrialTaxWithin 42 = .ok (.getfield 30, 3) := by decide +kernel
theorem dX8_isTrialTaxWithin_45 : decode cX8_isTrialTaxWithin 45 = .ok (.getfield 131, 3) := by decide +kernel
theorem dX8_isTrialTaxWithin_48 : decode cX8_isTrialTaxWithin 48 = .ok (.iload_n 3, 1) := by decide +kernel
theorem dX8_isTrialTaxWithin_49 : decode cX8_isTrialTaxWithin 49 = .ok (.iaload, 1) := by decide +kernel
theorem dX8_isTrialTaxWithin_50 : decode cX8_isTrialTaxWithin 50 = .ok (.iconst 0, 1) := by decide +kernel
theorem dX8_isTrialTaxWithin_51 : decode cX8_isTrialTaxWithin 51 = .ok (.invokevirtual 155, 3) := by decide +kernel
theorem dX8_isTrialTaxWithin_54 : decode cX8_isTrialTaxWithin 54 = .ok (.iinc 3 1, 3) := by decide +kernel
theorem dX8_isTrialTaxWithin_57 : decode cX8_isTrialTaxWithin 57 = .ok (.goto (-40), 3) := by decide +kernel
theorem dX8_isTrialTaxWithin_60 : decode cX8_isTrialTaxWithin 60 = .ok (.aload_n 2, 1) := by decide +kernel
theorem dX8_isTrialTaxWithin_61 : decode cX8_isTrialTaxWithin 61 = .ok (.getfield 318, 3) := by decide +kernel
theorem dX8_isTrialTaxWithin_64 : decode cX8_isTrialTaxWithin 64 = .ok (.iload_n 1, 1) := by decide +kernel
theorem dX8_isTrialTaxWithin_65 : decode cX8_isTrialTaxWithin 65 = .ok (.if_icmp .gt 7, 3) := by decide +kernel
theorem dX8_isTrialTaxWithin_68 : decode cX8_isTrialTaxWithin 68 = .ok (.iconst 1, 1) := by decide +kernel
theorem dX8_isTrialTaxWithin_69 : decode cX8_isTrialTaxWithin 69 = .ok (.goto 4, 3) := by decide +kernel
theorem dX8_isTrialTaxWithin_72 : decode cX8_isTrialTaxWithin 72 = .ok (.iconst 0, 1) := by decide +kernel
theorem dX8_isTrialTaxWithin_73 : decode cX8_isTrialTaxWithin 73 = .ok (.ireturn, 1) := by decide +kernel
theorem dX8_rateAgainstHell_0 : decode cX8_rateAgainstHell 0 = .ok (.aload_n 0, 1) := by decide +kernel
theorem dX8_rateAgainstHell_1 : decode cX8_rateAgainstHell 1 = .ok (.getfield 16, 3) := by decide +kernel
theorem dX8_rateAgainstHell_4 : decode cX8_rateAgainstHell 4 = .ok (.aload_n 0, 1) := by decide +kernel
theorem dX8_rateAgainstHell_5 : decode cX8_rateAgainstHell 5 = .ok (.getfield 10, 3) := by decide +kernel
theorem dX8_rateAgainstHell_8 : decode cX8_rateAgainstHell 8 = .ok (.invokevirtual 272, 3) := by decide +kernel
theorem dX8_rateAgainstHell_11 : decode cX8_rateAgainstHell 11 = .ok (.aload_n 0, 1) := by decide +kernel
theorem dX8_rateAgainstHell_12 : decode cX8_rateAgainstHell 12 = .ok (.getfield 16, 3) := by decide +kernel
theorem dX8_rateAgainstHell_15 : decode cX8_rateAgainstHell 15 = .ok (.iconst 1, 1) := by decide +kernel
theorem dX8_rateAgainstHell_16 : decode cX8_rateAgainstHell 16 = .ok (.putfield 278, 3) := by decide +kernel
theorem dX8_rateAgainstHell_19 : decode cX8_rateAgainstHell 19 = .ok (.aload_n 0, 1) := by decide +kernel
theorem dX8_rateAgainstHell_20 : decode cX8_rateAgainstHell 20 = .ok (.getfield 36, 3) := by decide +kernel
theorem dX8_rateAgainstHell_23 : decode cX8_rateAgainstHell 23 = .ok (.iconst 0, 1) := by decide +kernel
theorem dX8_rateAgainstHell_24 : decode cX8_rateAgainstHell 24 = .ok (.aaload, 1) := by decide +kernel
theorem dX8_rateAgainstHell_25 : decode cX8_rateAgainstHell 25 = .ok (.astore_n 1, 1) := by decide +kernel
theorem dX8_rateAgainstHell_26 : decode cX8_rateAgainstHell 26 = .ok (.aload_n 1, 1) := by decide +kernel
theorem dX8_rateAgainstHell_27 : decode cX8_rateAgainstHell 27 = .ok (.aload_n 0, 1) := by decide +kernel
theorem dX8_rateAgainstHell_28 : decode cX8_rateAgainstHell 28 = .ok (.getfield 16, 3) := by decide +kernel
theorem dX8_rateAgainstHell_31 : decode cX8_rateAgainstHell 31 = .ok (.invokevirtual 287, 3) := by decide +kernel
theorem dX8_rateAgainstHell_34 : decode cX8_rateAgainstHell 34 = .ok (.aload_n 1, 1) := by decide +kernel
theorem dX8_rateAgainstHell_35 : decode cX8_rateAgainstHell 35 = .ok (.aload_n 0, 1) := by decide +kernel
theorem dX8_rateAgainstHell_36 : decode cX8_rateAgainstHell 36 = .ok (.getfield 16, 3) := by decide +kernel
theorem dX8_rateAgainstHell_39 : decode cX8_rateAgainstHell 39 = .ok (.aload_n 0, 1) := by decide +kernel
theorem dX8_rateAgainstHell_40 : decode cX8_rateAgainstHell 40 = .ok (.getfield 30, 3) := by decide +kernel
theorem dX8_rateAgainstHell_43 : decode cX8_rateAgainstHell 43 = .ok (.iconst 0, 1) := by decide +kernel
theorem dX8_rateAgainstHell_44 : decode cX8_rateAgainstHell 44 = .ok (.aload_n 0, 1) := by decide +kernel
theorem dX8_rateAgainstHell_45 : decode cX8_rateAgainstHell 45 = .ok (.getfield 30, 3) := by decide +kernel
theorem dX8_rateAgainstHell_48 : decode cX8_rateAgainstHell 48 = .ok (.getfield 128, 3) := by decide +kernel
theorem dX8_rateAgainstHell_51 : decode cX8_rateAgainstHell 51 = .ok (.invokevirtual 290, 3) := by decide +kernel
theorem dX8_rateAgainstHell_54 : decode cX8_rateAgainstHell 54 = .ok (.aload_n 1, 1) := by decide +kernel
theorem dX8_rateAgainstHell_55 : decode cX8_rateAgainstHell 55 = .ok (.getfield 318, 3) := by decide +kernel
theorem dX8_rateAgainstHell_58 : decode cX8_rateAgainstHell 58 = .ok (.istore_n 2, 1) := by decide +kernel
theorem dX8_rateAgainstHell_59 : decode cX8_rateAgainstHell 59 = .ok (.aload_n 1, 1) := by decide +kernel
theorem dX8_rateAgainstHell_60 : decode cX8_rateAgainstHell 60 = .ok (.getfield 321, 3) := by decide +kernel
theorem dX8_rateAgainstHell_63 : decode cX8_rateAgainstHell 63 = .ok (.istore_n 3, 1) := by decide +kernel
theorem dX8_rateAgainstHell_64 : decode cX8_rateAgainstHell 64 = .ok (.aload_n 1, 1) := by decide +kernel
theorem dX8_rateAgainstHell_65 : decode cX8_rateAgainstHell 65 = .ok (.aload_n 0, 1) := by decide +kernel
theorem dX8_rateAgainstHell_66 : decode cX8_rateAgainstHell 66 = .ok (.getfield 16, 3) := by decide +kernel
theorem dX8_rateAgainstHell_69 : decode cX8_rateAgainstHell 69 = .ok (.bipush 104, 2) := by decide +kernel
theorem dX8_rateAgainstHell_71 : decode cX8_rateAgainstHell 71 = .ok (.iconst 0, 1) := by decide +kernel
theorem dX8_rateAgainstHell_72 : decode cX8_rateAgainstHell 72 = .ok (.invokevirtual 155, 3) := by decide +kernel
theorem dX8_rateAgainstHell_75 : decode cX8_rateAgainstHell 75 = .ok (.aload_n 1, 1) := by decide +kernel
theorem dX8_rateAgainstHell_76 : decode cX8_rateAgainstHell 76 = .ok (.getfield 318, 3) := by decide +kernel
theorem dX8_rateAgainstHell_79 : decode cX8_rateAgainstHell 79 = .ok (.iload_n 2, 1) := by decide +kernel
theorem dX8_rateAgainstHell_80 : decode cX8_rateAgainstHell 80 = .ok (.isub, 1) := by decide +kernel
theorem dX8_rateAgainstHell_81 : decode cX8_rateAgainstHell 81 = .ok (.istore 4, 2) := by decide +kernel
theorem dX8_rateAgainstHell_83 : decode cX8_rateAgainstHell 83 = .ok (.aload_n 1, 1) := by decide +kernel
theorem dX8_rateAgainstHell_84 : decode cX8_rateAgainstHell 84 = .ok (.getfield 321, 3) := by decide +kernel
theorem dX8_rateAgainstHell_87 : decode cX8_rateAgainstHell 87 = .ok (.iload_n 3, 1) := by decide +kernel
theorem dX8_rateAgainstHell_88 : decode cX8_rateAgainstHell 88 = .ok (.isub, 1) := by decide +kernel
theorem dX8_rateAgainstHell_89 : decode cX8_rateAgainstHell 89 = .ok (.istore 5, 2) := by decide +kernel
theorem dX8_rateAgainstHell_91 : decode cX8_rateAgainstHell 91 = .ok (.iconst 1, 1) := by decide +kernel
theorem dX8_rateAgainstHell_92 : decode cX8_rateAgainstHell 92 = .ok (.istore 6, 2) := by decide +kernel
theorem dX8_rateAgainstHell_94 : decode cX8_rateAgainstHell 94 = .ok (.iload 6, 2) := by decide +kernel
theorem dX8_rateAgainstHell_96 : decode cX8_rateAgainstHell 96 = .ok (.bipush 9, 2) := by decide +kernel
theorem dX8_rateAgainstHell_98 : decode cX8_rateAgainstHell 98 = .ok (.if_icmp .gt 22, 3) := by decide +kernel
theorem dX8_rateAgainstHell_101 : decode cX8_rateAgainstHell 101 = .ok (.iload 5, 2) := by decide +kernel
theorem dX8_rateAgainstHell_103 : decode cX8_rateAgainstHell 103 = .ok (.iload 6, 2) := by decide +kernel
theorem dX8_rateAgainstHell_105 : decode cX8_rateAgainstHell 105 = .ok (.iload 4, 2) := by decide +kernel
theorem dX8_rateAgainstHell_107 : decode cX8_rateAgainstHell 107 = .ok (.imul, 1) := by decide +kernel
theorem dX8_rateAgainstHell_108 : decode cX8_rateAgainstHell 108 = .ok (.if_icmp .gt 6, 3) := by decide +kernel
theorem dX8_rateAgainstHell_111 : decode cX8_rateAgainstHell 111 = .ok (.iload 6, 2) := by decide +kernel
theorem dX8_rateAgainstHell_113 : decode cX8_rateAgainstHell 113 = .ok (.ireturn, 1) := by decide +kernel
theorem dX8_rateAgainstHell_114 : decode cX8_rateAgainstHell 114 = .ok (.iinc 6 1, 3) := by decide +kernel
theorem dX8_rateAgainstHell_117 : decode cX8_rateAgainstHell 117 = .ok (.goto (-23), 3) := by decide +kernel
theorem dX8_rateAgainstHell_120 : decode cX8_rateAgainstHell 120 = .ok (.bipush (-6), 2) := by decide +kernel
theorem dX8_rateAgainstHell_122 : decode cX8_rateAgainstHell 122 = .ok (.ireturn, 1) := by decide +kernel
theorem dX8_preachedRefusal_0 : decode cX8_preachedRefusal 0 = .ok (.aload_n 0, 1) := by decide +kernel
theorem dX8_preachedRefusal_1 : decode cX8_preachedRefusal 1 = .ok (.getfield 30, 3) := by decide +kernel
theorem dX8_preachedRefusal_4 : decode cX8_preachedRefusal 4 = .ok (.invokevirtual 137, 3) := by decide +kernel
theorem dX8_preachedRefusal_7 : decode cX8_preachedRefusal 7 = .ok (.ifCond .eq 6, 3) := by decide +kernel
theorem dX8_preachedRefusal_10 : decode cX8_preachedRefusal 10 = .ok (.bipush (-5), 2) := by decide +kernel
theorem dX8_preachedRefusal_12 : decode cX8_preachedRefusal 12 = .ok (.ireturn, 1) := by decide +kernel
theorem dX8_preachedRefusal_13 : decode cX8_preachedRefusal 13 = .ok (.aload_n 0, 1) := by decide +kernel
theorem dX8_preachedRefusal_14 : decode cX8_preachedRefusal 14 = .ok (.getfield 30, 3) := by decide +kernel
theorem dX8_preachedRefusal_17 : decode cX8_preachedRefusal 17 = .ok (.getfield 128, 3) := by decide +kernel
theorem dX8_preachedRefusal_20 : decode cX8_preachedRefusal 20 = .ok (.bipush 6, 2) := by decide +kernel
theorem dX8_preachedRefusal_22 : decode cX8_preachedRefusal 22 = .ok (.if_icmp .le 8, 3) := by decide +kernel
theorem dX8_preachedRefusal_25 : decode cX8_preachedRefusal 25 = .ok (.bipush (-4), 2) := by decide +kernel
theorem dX8_preachedRefusal_27 : decode cX8_preachedRefusal 27 = .ok (.goto 4, 3) := by decide +kernel
theorem dX8_preachedRefusal_30 : decode cX8_preachedRefusal 30 = .ok (.iconst 0, 1) := by decide +kernel
theorem dX8_preachedRefusal_31 : decode cX8_preachedRefusal 31 = .ok (.ireturn, 1) := by decide +kernel
theorem dX8_dipBits_0 : decode cX8_dipBits 0 = .ok (.aload_n 0, 1) := by decide +kernel
theorem dX8_dipBits_1 : decode cX8_dipBits 1 = .ok (.iconst 0, 1) := by decide +kernel
theorem dX8_dipBits_2 : decode cX8_dipBits 2 = .ok (.invokevirtual 141, 3) := by decide +kernel
theorem dX8_dipBits_5 : decode cX8_dipBits 5 = .ok (.astore_n 3, 1) := by decide +kernel
theorem dX8_dipBits_6 : decode cX8_dipBits 6 = .ok (.iconst 0, 1) := by decide +kernel
theorem dX8_dipBits_7 : decode cX8_dipBits 7 = .ok (.istore 4, 2) := by decide +kernel
theorem dX8_dipBits_9 : decode cX8_dipBits 9 = .ok (.iconst 0, 1) := by decide +kernel
theorem dX8_dipBits_10 : decode cX8_dipBits 10 = .ok (.istore 5, 2) := by decide +kernel
theorem dX8_dipBits_12 : decode cX8_dipBits 12 = .ok (.iload 5, 2) := by decide +kernel
theorem dX8_dipBits_14 : decode cX8_dipBits 14 = .ok (.aload_n 0, 1) := by decide +kernel
theorem dX8_dipBits_15 : decode cX8_dipBits 15 = .ok (.getfield 30, 3) := by decide +kernel
theorem dX8_dipBits_18 : decode cX8_dipBits 18 = .ok (.getfield 128, 3) := by decide +kernel
theorem dX8_dipBits_21 : decode cX8_dipBits 21 = .ok (.if_icmp .ge 66, 3) := by decide +kernel
theorem dX8_dipBits_24 : decode cX8_dipBits 24 = .ok (.iload 5, 2) := by decide +kernel
theorem dX8_dipBits_26 : decode cX8_dipBits 26 = .ok (.bipush 30, 2) := by decide +kernel
theorem dX8_dipBits_28 : decode cX8_dipBits 28 = .ok (.if_icmp .ge 59, 3) := by decide +kernel
theorem dX8_dipBits_31 : decode cX8_dipBits 31 = .ok (.aload_n 3, 1) := by decide +kernel
theorem dX8_dipBits_32 : decode cX8_dipBits 32 = .ok (.aload_n 0, 1) := by decide +kernel
theorem dX8_dipBits_33 : decode cX8_dipBits 33 = .ok (.getfield 10, 3) := by decide +kernel
theorem dX8_dipBits_36 : decode cX8_dipBits 36 = .ok (.aload_n 0, 1) := by decide +kernel
theorem dX8_dipBits_37 : decode cX8_dipBits 37 = .ok (.getfield 30, 3) := by decide +kernel
theorem dX8_dipBits_40 : decode cX8_dipBits 40 = .ok (.getfield 131, 3) := by decide +kernel
theorem dX8_dipBits_43 : decode cX8_dipBits 43 = .ok (.iload 5, 2) := by decide +kernel
theorem dX8_dipBits_45 : decode cX8_dipBits 45 = .ok (.iaload, 1) := by decide +kernel
theorem dX8_dipBits_46 : decode cX8_dipBits 46 = .ok (.iconst 0, 1) := by decide +kernel
theorem dX8_dipBits_47 : decode cX8_dipBits 47 = .ok (.invokevirtual 155, 3) := by decide +kernel
theorem dX8_dipBits_50 : decode cX8_dipBits 50 = .ok (.iload_n 2, 1) := by decide +kernel
theorem dX8_dipBits_51 : decode cX8_dipBits 51 = .ok (.ifCond .eq 10, 3) := by decide +kernel
theorem dX8_dipBits_54 : decode cX8_dipBits 54 = .ok (.aload_n 3, 1) := by decide +kernel
theorem dX8_dipBits_55 : decode cX8_dipBits 55 = .ok (.getfield 324, 3) := by decide +kernel
theorem dX8_dipBits_58 : decode cX8_dipBits 58 = .ok (.goto 7, 3) := by decide +kernel
theorem dX8_dipBits_61 : decode cX8_dipBits 61 = .ok (.aload_n 3, 1) := by decide +kernel
theorem dX8_dipBits_62 : decode cX8_dipBits 62 = .ok (.invokevirtual 327, 3) := by decide +kernel
theorem dX8_dipBits_65 : decode cX8_dipBits 65 = .ok (.istore 6, 2) := by decide +kernel
theorem dX8_dipBits_67 : decode cX8_dipBits 67 = .ok (.iload 4, 2) := by decide +kernel
theorem dX8_dipBits_69 : decode cX8_dipBits 69 = .ok (.iload 6, 2) := by decide +kernel
theorem dX8_dipBits_71 : decode cX8_dipBits 71 = .ok (.iload_n 1, 1) := by decide +kernel
theorem dX8_dipBits_72 : decode cX8_dipBits 72 = .ok (.ishr, 1) := by decide +kernel
theorem dX8_dipBits_73 : decode cX8_dipBits 73 = .ok (.iconst 1, 1) := by decide +kernel
theorem dX8_dipBits_74 : decode cX8_dipBits 74 = .ok (.iand, 1) := by decide +kernel
theorem dX8_dipBits_75 : decode cX8_dipBits 75 = .ok (.iload 5, 2) := by decide +kernel
theorem dX8_dipBits_77 : decode cX8_dipBits 77 = .ok (.ishl, 1) := by decide +kernel
theorem dX8_dipBits_78 : decode cX8_dipBits 78 = .ok (.ior, 1) := by decide +kernel
theorem dX8_dipBits_79 : decode cX8_dipBits 79 = .ok (.istore 4, 2) := by decide +kernel
theorem dX8_dipBits_81 : decode cX8_dipBits 81 = .ok (.iinc 5 1, 3) := by decide +kernel
theorem dX8_dipBits_84 : decode cX8_dipBits 84 = .ok (.goto (-72), 3) := by decide +kernel
theorem dX8_dipBits_87 : decode cX8_dipBits 87 = .ok (.iload 4, 2) := by decide +kernel
theorem dX8_dipBits_89 : decode cX8_dipBits 89 = .ok (.ireturn, 1) := by decide +kernel
theorem dX8_fillDipRows_0 : decode cX8_fillDipRows 0 = .ok (.iconst 0, 1) := by decide +kernel
theorem dX8_fillDipRows_1 : decode cX8_fillDipRows 1 = .ok (.istore_n 1, 1) := by decide +kernel
theorem dX8_fillDipRows_2 : decode cX8_fillDipRows 2 = .ok (.iload_n 1, 1) := by decide +kernel
theorem dX8_fillDipRows_3 : decode cX8_fillDipRows 3 = .ok (.bipush 8, 2) := by decide +kernel
theorem dX8_fillDipRows_5 : decode cX8_fillDipRows 5 = .ok (.if_icmp .ge 16, 3) := by decide +kernel
theorem dX8_fillDipRows_8 : decode cX8_fillDipRows 8 = .ok (.aload_n 0, 1) := by decide +kernel
theorem dX8_fillDipRows_9 : decode cX8_fillDipRows 9 = .ok (.getfield 68, 3) := by decide +kernel
theorem dX8_fillDipRows_12 : decode cX8_fillDipRows 12 = .ok (.iload_n 1, 1) := by decide +kernel
theorem dX8_fillDipRows_13 : decode cX8_fillDipRows 13 = .ok (.lconst 0, 1) := by decide +kernel
theorem dX8_fillDipRows_14 : decode cX8_fillDipRows 14 = .ok (.lastore, 1) := by decide +kernel
theorem dX8_fillDipRows_15 : decode cX8_fillDipRows 15 = .ok (.iinc 1 1, 3) := by decide +kernel
theorem dX8_fillDipRows_18 : decode cX8_fillDipRows 18 = .ok (.goto (-16), 3) := by decide +kernel
theorem dX8_fillDipRows_21 : decode cX8_fillDipRows 21 = .ok (.aload_n 0, 1) := by decide +kernel
theorem dX8_fillDipRows_22 : decode cX8_fillDipRows 22 = .ok (.iconst 0, 1) := by decide +kernel
theorem dX8_fillDipRows_23 : decode cX8_fillDipRows 23 = .ok (.invokevirtual 141, 3) := by decide +kernel
theorem dX8_fillDipRows_26 : decode cX8_fillDipRows 26 = .ok (.astore_n 1, 1) := by decide +kernel
theorem dX8_fillDipRows_27 : decode cX8_fillDipRows 27 = .ok (.iconst 0, 1) := by decide +kernel
theorem dX8_fillDipRows_28 : decode cX8_fillDipRows 28 = .ok (.istore_n 2, 1) := by decide +kernel
theorem dX8_fillDipRows_29 : decode cX8_fillDipRows 29 = .ok (.iload_n 2, 1) := by decide +kernel
theorem dX8_fillDipRows_30 : decode cX8_fillDipRows 30 = .ok (.aload_n 0, 1) := by decide +kernel
theorem dX8_fillDipRows_31 : decode cX8_fillDipRows 31 = .ok (.getfield 30, 3) := by decide +kernel
theorem dX8_fillDipRows_34 : decode cX8_fillDipRows 34 = .ok (.getfield 128, 3) := by decide +kernel
theorem dX8_fillDipRows_37 : decode cX8_fillDipRows 37 = .ok (.if_icmp .ge 69, 3) := by decide +kernel
theorem dX8_fillDipRows_40 : decode cX8_fillDipRows 40 = .ok (.aload_n 1, 1) := by decide +kernel
theorem dX8_fillDipRows_41 : decode cX8_fillDipRows 41 = .ok (.aload_n 0, 1) := by decide +kernel
theorem dX8_fillDipRows_42 : decode cX8_fillDipRows 42 = .ok (.getfield 10, 3) := by decide +kernel
theorem dX8_fillDipRows_45 : decode cX8_fillDipRows 45 = .ok (.aload_n 0, 1) := by decide +kernel
theorem dX8_fillDipRows_46 : decode cX8_fillDipRows 46 = .ok (.getfield 30, 3) := by decide +kernel
theorem dX8_fillDipRows_49 : decode cX8_fillDipRows 49 = .ok (.getfield 131, 3) := by decide +kernel
theorem dX8_fillDipRows_52 : decode cX8_fillDipRows 52 = .ok (.iload_n 2, 1) := by decide +kernel
theorem dX8_fillDipRows_53 : decode cX8_fillDipRows 53 = .ok (.iaload, 1) := by decide +kernel
theorem dX8_fillDipRows_54 : decode cX8_fillDipRows 54 = .ok (.iconst 0, 1) := by decide +kernel
theorem dX8_fillDipRows_55 : decode cX8_fillDipRows 55 = .ok (.invokevirtual 155, 3) := by decide +kernel
theorem dX8_fillDipRows_58 : decode cX8_fillDipRows 58 = .ok (.iconst 0, 1) := by decide +kernel
theorem dX8_fillDipRows_59 : decode cX8_fillDipRows 59 = .ok (.istore_n 3, 1) := by decide +kernel
theorem dX8_fillDipRows_60 : decode cX8_fillDipRows 60 = .ok (.iload_n 3, 1) := by decide +kernel
theorem dX8_fillDipRows_61 : decode cX8_fillDipRows 61 = .ok (.bipush 8, 2) := by decide +kernel
theorem dX8_fillDipRows_63 : decode cX8_fillDipRows 63 = .ok (.if_icmp .ge 37, 3) := by decide +kernel
theorem dX8_fillDipRows_66 : decode cX8_fillDipRows 66 = .ok (.aload_n 0, 1) := by decide +kernel
theorem dX8_fillDipRows_67 : decode cX8_fillDipRows 67 = .ok (.getfield 68, 3) := by decide +kernel
theorem dX8_fillDipRows_70 : decode cX8_fillDipRows 70 = .ok (.iload_n 3, 1) := by decide +kernel
theorem dX8_fillDipRows_71 : decode cX8_fillDipRows 71 = .ok (.dup2, 1) := by decide +kernel
theorem dX8_fillDipRows_72 : decode cX8_fillDipRows 72 = .ok (.laload, 1) := by decide +kernel
theorem dX8_fillDipRows_73 : decode cX8_fillDipRows 73 = .ok (.aload_n 1, 1) := by decide +kernel
theorem dX8_fillDipRows_74 : decode cX8_fillDipRows 74 = .ok (.invokevirtual 327, 3) := by decide +kernel
theorem dX8_fillDipRows_77 : decode cX8_fillDipRows 77 = .ok (.aload_n 0, 1) := by decide +kernel
theorem dX8_fillDipRows_78 : decode cX8_fillDipRows 78 = .ok (.getfield 10, 3) := by decide +kernel
theorem dX8_fillDipRows_81 : decode cX8_fillDipRows 81 = .ok (.getfield 93, 3) := by decide +kernel
theorem dX8_fillDipRows_84 : decode cX8_fillDipRows 84 = .ok (.iload_n 3, 1) := by decide +kernel
theorem dX8_fillDipRows_85 : decode cX8_fillDipRows 85 = .ok (.iaload, 1) := by decide +kernel
theorem dX8_fillDipRows_86 : decode cX8_fillDipRows 86 = .ok (.ishr, 1) := by decide +kernel
theorem dX8_fillDipRows_87 : decode cX8_fillDipRows 87 = .ok (.iconst 1, 1) := by decide +kernel
theorem dX8_fillDipRows_88 : decode cX8_fillDipRows 88 = .ok (.iand, 1) := by decide +kernel
theorem dX8_fillDipRows_89 : decode cX8_fillDipRows 89 = .ok (.i2l, 1) := by decide +kernel
theorem dX8_fillDipRows_90 : decode cX8_fillDipRows 90 = .ok (.iload_n 2, 1) := by decide +kernel
theorem dX8_fillDipRows_91 : decode cX8_fillDipRows 91 = .ok (.lshl, 1) := by decide +kernel
theorem dX8_fillDipRows_92 : decode cX8_fillDipRows 92 = .ok (.lor, 1) := by decide +kernel
theorem dX8_fillDipRows_93 : decode cX8_fillDipRows 93 = .ok (.lastore, 1) := by decide +kernel
theorem dX8_fillDipRows_94 : decode cX8_fillDipRows 94 = .ok (.iinc 3 1, 3) := by decide +kernel
theorem dX8_fillDipRows_97 : decode cX8_fillDipRows 97 = .ok (.goto (-37), 3) := by decide +kernel
theorem dX8_fillDipRows_100 : decode cX8_fillDipRows 100 = .ok (.iinc 2 1, 3) := by decide +kernel
theorem dX8_fillDipRows_103 : decode cX8_fillDipRows 103 = .ok (.goto (-74), 3) := by decide +kernel
theorem dX8_fillDipRows_106 : decode cX8_fillDipRows 106 = .ok (.return_, 1) := by decide +kernel
theorem dX8_areAlike_0 : decode cX8_areAlike 0 = .ok (.aload_n 0, 1) := by decide +kernel
theorem dX8_areAlike_1 : decode cX8_areAlike 1 = .ok (.getfield 10, 3) := by decide +kernel
theorem dX8_areAlike_4 : decode cX8_areAlike 4 = .ok (.iload_n 1, 1) := by decide +kernel
theorem dX8_areAlike_5 : decode cX8_areAlike 5 = .ok (.invokevirtual 115, 3) := by decide +kernel
theorem dX8_areAlike_8 : decode cX8_areAlike 8 = .ok (.ifCond .eq 34, 3) := by decide +kernel
theorem dX8_areAlike_11 : decode cX8_areAlike 11 = .ok (.aload_n 0, 1) := by decide +kernel
theorem dX8_areAlike_12 : decode cX8_areAlike 12 = .ok (.getfield 10, 3) := by decide +kernel
theorem dX8_areAlike_15 : decode cX8_areAlike 15 = .ok (.iload_n 2, 1) := by decide +kernel
theorem dX8_areAlike_16 : decode cX8_areAlike 16 = .ok (.invokevirtual 115, 3) := by decide +kernel
theorem dX8_areAlike_19 : decode cX8_areAlike 19 = .ok (.ifCond .eq 23, 3) := by decide +kernel
theorem dX8_areAlike_22 : decode cX8_areAlike 22 = .ok (.aload_n 0, 1) := by decide +kernel
theorem dX8_areAlike_23 : decode cX8_areAlike 23 = .ok (.getfield 68, 3) := by decide +kernel
theorem dX8_areAlike_26 : decode cX8_areAlike 26 = .ok (.iload_n 1, 1) := by decide +kernel
theorem dX8_areAlike_27 : decode cX8_areAlike 27 = .ok (.laload, 1) := by decide +kernel
theorem dX8_areAlike_28 : decode cX8_areAlike 28 = .ok (.aload_n 0, 1) := by decide +kernel
theorem dX8_areAlike_29 : decode cX8_areAlike 29 = .ok (.getfield 68, 3) := by decide +kernel
theorem dX8_areAlike_32 : decode cX8_areAlike 32 = .ok (.iload_n 2, 1) := by decide +kernel
theorem dX8_areAlike_33 : decode cX8_areAlike 33 = .ok (.laload, 1) := by decide +kernel
theorem dX8_areAlike_34 : decode cX8_areAlike 34 = .ok (.lcmp, 1) := by decide +kernel
theorem dX8_areAlike_35 : decode cX8_areAlike 35 = .ok (.ifCond .ne 7, 3) := by decide +kernel
theorem dX8_areAlike_38 : decode cX8_areAlike 38 = .ok (.iconst 1, 1) := by decide +kernel
theorem dX8_areAlike_39 : decode cX8_areAlike 39 = .ok (.goto 4, 3) := by decide +kernel
theorem dX8_areAlike_42 : decode cX8_areAlike 42 = .ok (.iconst 0, 1) := by decide +kernel
theorem dX8_areAlike_43 : decode cX8_areAlike 43 = .ok (.ireturn, 1) := by decide +kernel
theorem dX8_pairsAlike_0 : decode cX8_pairsAlike 0 = .ok (.iconst 0, 1) := by decide +kernel
theorem dX8_pairsAlike_1 : decode cX8_pairsAlike 1 = .ok (.istore_n 1, 1) := by decide +kernel
theorem dX8_pairsAlike_2 : decode cX8_pairsAlike 2 = .ok (.iconst 0, 1) := by decide +kernel
theorem dX8_pairsAlike_3 : decode cX8_pairsAlike 3 = .ok (.istore_n 2, 1) := by decide +kernel
theorem dX8_pairsAlike_4 : decode cX8_pairsAlike 4 = .ok (.iload_n 2, 1) := by decide +kernel
theorem dX8_pairsAlike_5 : decode cX8_pairsAlike 5 = .ok (.bipush 8, 2) := by decide +kernel
theorem dX8_pairsAlike_7 : decode cX8_pairsAlike 7 = .ok (.if_icmp .ge 37, 3) := by decide +kernel
theorem dX8_pairsAlike_10 : decode cX8_pairsAlike 10 = .ok (.iload_n 2, 1) := by decide +kernel
theorem dX8_pairsAlike_11 : decode cX8_pairsAlike 11 = .ok (.iconst 1, 1) := by decide +kernel
theorem dX8_pairsAlike_12 : decode cX8_pairsAlike 12 = .ok (.iadd, 1) := by decide +kernel
theorem dX8_pairsAlike_13 : decode cX8_pairsAlike 13 = .ok (.istore_n 3, 1) := by decide +kernel
theorem dX8_pairsAlike_14 : decode cX8_pairsAlike 14 = .ok (.iload_n 3, 1) := by decide +kernel
theorem dX8_pairsAlike_15 : decode cX8_pairsAlike 15 = .ok (.bipush 8, 2) := by decide +kernel
theorem dX8_pairsAlike_17 : decode cX8_pairsAlike 17 = .ok (.if_icmp .ge 21, 3) := by decide +kernel
theorem dX8_pairsAlike_20 : decode cX8_pairsAlike 20 = .ok (.aload_n 0, 1) := by decide +kernel
theorem dX8_pairsAlike_21 : decode cX8_pairsAlike 21 = .ok (.iload_n 2, 1) := by decide +kernel
theorem dX8_pairsAlike_22 : decode cX8_pairsAlike 22 = .ok (.iload_n 3, 1) := by decide +kernel
theorem dX8_pairsAlike_23 : decode cX8_pairsAlike 23 = .ok (.invokevirtual 330, 3) := by decide +kernel
theorem dX8_pairsAlike_26 : decode cX8_pairsAlike 26 = .ok (.ifCond .eq 6, 3) := by decide +kernel
theorem dX8_pairsAlike_29 : decode cX8_pairsAlike 29 = .ok (.iinc 1 1, 3) := by decide +kernel
theorem dX8_pairsAlike_32 : decode cX8_pairsAlike 32 = .ok (.iinc 3 1, 3) := by decide +kernel
theorem dX8_pairsAlike_35 : decode cX8_pairsAlike 35 = .ok (.goto (-21), 3) := by decide +kernel
theorem dX8_pairsAlike_38 : decode cX8_pairsAlike 38 = .ok (.iinc 2 1, 3) := by decide +kernel
theorem dX8_pairsAlike_41 : decode cX8_pairsAlike 41 = .ok (.goto (-37), 3) := by decide +kernel
theorem dX8_pairsAlike_44 : decode cX8_pairsAlike 44 = .ok (.iload_n 1, 1) := by decide +kernel
theorem dX8_pairsAlike_45 : decode cX8_pairsAlike 45 = .ok (.ireturn, 1) := by decide +kernel
theorem dX8_pairAlike_0 : decode cX8_pairAlike 0 = .ok (.iconst 0, 1) := by decide +kernel
theorem dX8_pairAlike_1 : decode cX8_pairAlike 1 = .ok (.istore_n 2, 1) := by decide +kernel
theorem dX8_pairAlike_2 : decode cX8_pairAlike 2 = .ok (.iconst 0, 1) := by decide +kernel
theorem dX8_pairAlike_3 : decode cX8_pairAlike 3 = .ok (.istore_n 3, 1) := by decide +kernel
theorem dX8_pairAlike_4 : decode cX8_pairAlike 4 = .ok (.iload_n 3, 1) := by decide +kernel
theorem dX8_pairAlike_5 : decode cX8_pairAlike 5 = .ok (.bipush 8, 2) := by decide +kernel
theorem dX8_pairAlike_7 : decode cX8_pairAlike 7 = .ok (.if_icmp .ge 53, 3) := by decide +kernel
theorem dX8_pairAlike_10 : decode cX8_pairAlike 10 = .ok (.iload_n 3, 1) := by decide +kernel
theorem dX8_pairAlike_11 : decode cX8_pairAlike 11 = .ok (.iconst 1, 1) := by decide +kernel
theorem dX8_pairAlike_12 : decode cX8_pairAlike 12 = .ok (.iadd, 1) := by decide +kernel
theorem dX8_pairAlike_13 : decode cX8_pairAlike 13 = .ok (.istore 4, 2) := by decide +kernel
theorem dX8_pairAlike_15 : decode cX8_pairAlike 15 = .ok (.iload 4, 2) := by decide +kernel
theorem dX8_pairAlike_17 : decode cX8_pairAlike 17 = .ok (.bipush 8, 2) := by decide +kernel
theorem dX8_pairAlike_19 : decode cX8_pairAlike 19 = .ok (.if_icmp .ge 35, 3) := by decide +kernel
theorem dX8_pairAlike_22 : decode cX8_pairAlike 22 = .ok (.aload_n 0, 1) := by decide +kernel
theorem dX8_pairAlike_23 : decode cX8_pairAlike 23 = .ok (.iload_n 3, 1) := by decide +kernel
theorem dX8_pairAlike_24 : decode cX8_pairAlike 24 = .ok (.iload 4, 2) := by decide +kernel
theorem dX8_pairAlike_26 : decode cX8_pairAlike 26 = .ok (.invokevirtual 330, 3) := by decide +kernel
theorem dX8_pairAlike_29 : decode cX8_pairAlike 29 = .ok (.ifCond .eq 19, 3) := by decide +kernel
theorem dX8_pairAlike_32 : decode cX8_pairAlike 32 = .ok (.iload_n 2, 1) := by decide +kernel
theorem dX8_pairAlike_33 : decode cX8_pairAlike 33 = .ok (.iload_n 1, 1) := by decide +kernel
theorem dX8_pairAlike_34 : decode cX8_pairAlike 34 = .ok (.if_icmp .ne 11, 3) := by decide +kernel
theorem dX8_pairAlike_37 : decode cX8_pairAlike 37 = .ok (.bipush 10, 2) := by decide +kernel
theorem dX8_pairAlike_39 : decode cX8_pairAlike 39 = .ok (.iload_n 3, 1) := by decide +kernel
theorem dX8_pairAlike_40 : decode cX8_pairAlike 40 = .ok (.imul, 1) := by decide +kernel
theorem dX8_pairAlike_41 : decode cX8_pairAlike 41 = .ok (.iload 4, 2) := by decide +kernel
theorem dX8_pairAlike_43 : decode cX8_pairAlike 43 = .ok (.iadd, 1) := by decide +kernel
theorem dX8_pairAlike_44 : decode cX8_pairAlike 44 = .ok (.ireturn, 1) := by decide +kernel
theorem dX8_pairAlike_45 : decode cX8_pairAlike 45 = .ok (.iinc 2 1, 3) := by decide +kernel
theorem dX8_pairAlike_48 : decode cX8_pairAlike 48 = .ok (.iinc 4 1, 3) := by decide +kernel
theorem dX8_pairAlike_51 : decode cX8_pairAlike 51 = .ok (.goto (-36), 3) := by decide +kernel
theorem dX8_pairAlike_54 : decode cX8_pairAlike 54 = .ok (.iinc 3 1, 3) := by decide +kernel
theorem dX8_pairAlike_57 : decode cX8_pairAlike 57 = .ok (.goto (-53), 3) := by decide +kernel
theorem dX8_pairAlike_60 : decode cX8_pairAlike 60 = .ok (.bipush (-6), 2) := by decide +kernel
theorem dX8_pairAlike_62 : decode cX8_pairAlike 62 = .ok (.ireturn, 1) := by decide +kernel
theorem dX8_lowestTerms_0 : decode cX8_lowestTerms 0 = .ok (.lload_n 0, 1) := by decide +kernel
theorem dX8_lowestTerms_1 : decode cX8_lowestTerms 1 = .ok (.lload_n 2, 1) := by decide +kernel
theorem dX8_lowestTerms_2 : decode cX8_lowestTerms 2 = .ok (.invokestatic 333, 3) := by decide +kernel
theorem dX8_lowestTerms_5 : decode cX8_lowestTerms 5 = .ok (.lstore 5, 2) := by decide +kernel
theorem dX8_lowestTerms_7 : decode cX8_lowestTerms 7 = .ok (.iload 4, 2) := by decide +kernel
theorem dX8_lowestTerms_9 : decode cX8_lowestTerms 9 = .ok (.ifCond .ne 7, 3) := by decide +kernel
theorem dX8_lowestTerms_12 : decode cX8_lowestTerms 12 = .ok (.lload_n 0, 1) := by decide +kernel
theorem dX8_lowestTerms_13 : decode cX8_lowestTerms 13 = .ok (.goto 4, 3) := by decide +kernel
theorem dX8_lowestTerms_16 : decode cX8_lowestTerms 16 = .ok (.lload_n 2, 1) := by decide +kernel
theorem dX8_lowestTerms_17 : decode cX8_lowestTerms 17 = .ok (.lstore 7, 2) := by decide +kernel
theorem dX8_lowestTerms_19 : decode cX8_lowestTerms 19 = .ok (.lload 5, 2) := by decide +kernel
theorem dX8_lowestTerms_21 : decode cX8_lowestTerms 21 = .ok (.lconst 1, 1) := by decide +kernel
theorem dX8_lowestTerms_22 : decode cX8_lowestTerms 22 = .ok (.lcmp, 1) := by decide +kernel
theorem dX8_lowestTerms_23 : decode cX8_lowestTerms 23 = .ok (.ifCond .le 11, 3) := by decide +kernel
theorem dX8_lowestTerms_26 : decode cX8_lowestTerms 26 = .ok (.lload 7, 2) := by decide +kernel
theorem dX8_lowestTerms_28 : decode cX8_lowestTerms 28 = .ok (.lload 5, 2) := by decide +kernel
theorem dX8_lowestTerms_30 : decode cX8_lowestTerms 30 = .ok (.ldiv, 1) := by decide +kernel
theorem dX8_lowestTerms_31 : decode cX8_lowestTerms 31 = .ok (.goto 5, 3) := by decide +kernel
theorem dX8_lowestTerms_34 : decode cX8_lowestTerms 34 = .ok (.lload 7, 2) := by decide +kernel
theorem dX8_lowestTerms_36 : decode cX8_lowestTerms 36 = .ok (.lreturn, 1) := by decide +kernel
theorem dX8_commonDivisor_0 : decode cX8_commonDivisor 0 = .ok (.iconst 0, 1) := by decide +kernel
theorem dX8_commonDivisor_1 : decode cX8_commonDivisor 1 = .ok (.istore 4, 2) := by decide +kernel
theorem dX8_commonDivisor_3 : decode cX8_commonDivisor 3 = .ok (.iload 4, 2) := by decide +kernel
theorem dX8_commonDivisor_5 : decode cX8_commonDivisor 5 = .ok (.sipush 200, 3) := by decide +kernel
theorem dX8_commonDivisor_8 : decode cX8_commonDivisor 8 = .ok (.if_icmp .ge 25, 3) := by decide +kernel
theorem dX8_commonDivisor_11 : decode cX8_commonDivisor 11 = .ok (.lload_n 2, 1) := by decide +kernel
theorem dX8_commonDivisor_12 : decode cX8_commonDivisor 12 = .ok (.lconst 0, 1) := by decide +kernel
theorem dX8_commonDivisor_13 : decode cX8_commonDivisor 13 = .ok (.lcmp, 1) := by decide +kernel
theorem dX8_commonDivisor_14 : decode cX8_commonDivisor 14 = .ok (.ifCond .eq 19, 3) := by decide +kernel
theorem dX8_commonDivisor_17 : decode cX8_commonDivisor 17 = .ok (.lload_n 0, 1) := by decide +kernel
theorem dX8_commonDivisor_18 : decode cX8_commonDivisor 18 = .ok (.lload_n 2, 1) := by decide +kernel
theorem dX8_commonDivisor_19 : decode cX8_commonDivisor 19 = .ok (.lrem, 1) := by decide +kernel
theorem dX8_commonDivisor_20 : decode cX8_commonDivisor 20 = .ok (.lstore 5, 2) := by decide +kernel
theorem dX8_commonDivisor_22 : decode cX8_commonDivisor 22 = .ok (.lload_n 2, 1) := by decide +kernel
theorem dX8_commonDivisor_23 : decode cX8_commonDivisor 23 = .ok (.lstore_n 0, 1) := by decide +kernel
theorem dX8_commonDivisor_24 : decode cX8_commonDivisor 24 = .ok (.lload 5, 2) := by decide +kernel
theorem dX8_commonDivisor_26 : decode cX8_commonDivisor 26 = .ok (.lstore_n 2, 1) := by decide +kernel
theorem dX8_commonDivisor_27 : decode cX8_commonDivisor 27 = .ok (.iinc 4 1, 3) := by decide +kernel
theorem dX8_commonDivisor_30 : decode cX8_commonDivisor 30 = .ok (.goto (-27), 3) := by decide +kernel
theorem dX8_commonDivisor_33 : decode cX8_commonDivisor 33 = .ok (.lload_n 0, 1) := by decide +kernel
theorem dX8_commonDivisor_34 : decode cX8_commonDivisor 34 = .ok (.lreturn, 1) := by decide +kernel
theorem dX8_yearTotal_0 : decode cX8_yearTotal 0 = .ok (.aload_n 0, 1) := by decide +kernel
theorem dX8_yearTotal_1 : decode cX8_yearTotal 1 = .ok (.getfield 36, 3) := by decide +kernel
theorem dX8_yearTotal_4 : decode cX8_yearTotal 4 = .ok (.iconst 0, 1) := by decide +kernel
theorem dX8_yearTotal_5 : decode cX8_yearTotal 5 = .ok (.aaload, 1) := by decide +kernel
theorem dX8_yearTotal_6 : decode cX8_yearTotal 6 = .ok (.astore 4, 2) := by decide +kernel
theorem dX8_yearTotal_8 : decode cX8_yearTotal 8 = .ok (.iload_n 1, 1) := by decide +kernel
theorem dX8_yearTotal_9 : decode cX8_yearTotal 9 = .ok (.istore 5, 2) := by decide +kernel
theorem dX8_yearTotal_11 : decode cX8_yearTotal 11 = .ok (.iconst 0, 1) := by decide +kernel
theorem dX8_yearTotal_12 : decode cX8_yearTotal 12 = .ok (.istore 6, 2) := by decide +kernel
theorem dX8_yearTotal_14 : decode cX8_yearTotal 14 = .ok (.iconst 0, 1) := by decide +kernel
theorem dX8_yearTotal_15 : decode cX8_yearTotal 15 = .ok (.istore 7, 2) := by decide +kernel
theorem dX8_yearTotal_17 : decode cX8_yearTotal 17 = .ok (.iload 7, 2) := by decide +kernel
theorem dX8_yearTotal_19 : decode cX8_yearTotal 19 = .ok (.iload_n 2, 1) := by decide +kernel
theorem dX8_yearTotal_20 : decode cX8_yearTotal 20 = .ok (.if_icmp .ge 115, 3) := by decide +kernel
theorem dX8_yearTotal_23 : decode cX8_yearTotal 23 = .ok (.aload 4, 2) := by decide +kernel
theorem dX8_yearTotal_25 : decode cX8_yearTotal 25 = .ok (.aload_n 0, 1) := by decide +kernel
theorem dX8_yearTotal_26 : decode cX8_yearTotal 26 = .ok (.getfield 10, 3) := by decide +kernel
theorem dX8_yearTotal_29 : decode cX8_yearTotal 29 = .ok (.invokevirtual 287, 3) := by decide +kernel
theorem dX8_yearTotal_32 : decode cX8_yearTotal 32 = .ok (.iconst 0, 1) := by decide +kernel
theorem dX8_yearTotal_33 : decode cX8_yearTotal 33 = .ok (.istore 8, 2) := by decide +kernel
theorem dX8_yearTotal_35 : decode cX8_yearTotal 35 = .ok (.iload 8, 2) := by decide +kernel
theorem dX8_yearTotal_37 : decode cX8_yearTotal 37 = .ok (.bipush 6, 2) := by decide +kernel
theorem dX8_yearTotal_39 : decode cX8_yearTotal 39 = .ok (.if_icmp .ge 42, 3) := by decide +kernel
theorem dX8_yearTotal_42 : decode cX8_yearTotal 42 = .ok (.bipush 75, 2) := by decide +kernel
theorem dX8_yearTotal_44 : decode cX8_yearTotal 44 = .ok (.iload 5, 2) := by decide +kernel
theorem dX8_yearTotal_46 : decode cX8_yearTotal 46 = .ok (.imul, 1) := by decide +kernel
theorem dX8_yearTotal_47 : decode cX8_yearTotal 47 = .ok (.bipush 74, 2) := by decide +kernel
theorem dX8_yearTotal_49 : decode cX8_yearTotal 49 = .ok (.iadd, 1) := by decide +kernel
theorem dX8_yearTotal_50 : decode cX8_yearTotal 50 = .ok (.ldc_w 337, 3) := by decide +kernel
theorem dX8_yearTotal_53 : decode cX8_yearTotal 53 = .ok (.irem, 1) := by decide +kernel
theorem dX8_yearTotal_54 : decode cX8_yearTotal 54 = .ok (.istore 5, 2) := by decide +kernel
theorem dX8_yearTotal_56 : decode cX8_yearTotal 56 = .ok (.aload 4, 2) := by decide +kernel
theorem dX8_yearTotal_58 : decode cX8_yearTotal 58 = .ok (.aload_n 0, 1) := by decide +kernel
theorem dX8_yearTotal_59 : decode cX8_yearTotal 59 = .ok (.getfield 10, 3) := by decide +kernel
theorem dX8_yearTotal_62 : decode cX8_yearTotal 62 = .ok (.getstatic 338, 3) := by decide +kernel
theorem dX8_yearTotal_65 : decode cX8_yearTotal 65 = .ok (.iload 5, 2) := by decide +kernel
theorem dX8_yearTotal_67 : decode cX8_yearTotal 67 = .ok (.bipush 7, 2) := by decide +kernel
theorem dX8_yearTotal_69 : decode cX8_yearTotal 69 = .ok (.irem, 1) := by decide +kernel
theorem dX8_yearTotal_70 : decode cX8_yearTotal 70 = .ok (.caload, 1) := by decide +kernel
theorem dX8_yearTotal_71 : decode cX8_yearTotal 71 = .ok (.iconst 0, 1) := by decide +kernel
theorem dX8_yearTotal_72 : decode cX8_yearTotal 72 = .ok (.invokevirtual 155, 3) := by decide +kernel
theorem dX8_yearTotal_75 : decode cX8_yearTotal 75 = .ok (.iinc 8 1, 3) := by decide +kernel
theorem dX8_yearTotal_78 : decode cX8_yearTotal 78 = .ok (.goto (-43), 3) := by decide +kernel
theorem dX8_yearTotal_81 : decode cX8_yearTotal 81 = .ok (.iload_n 3, 1) := by decide +kernel
theorem dX8_yearTotal_82 : decode cX8_yearTotal 82 = .ok (.iconst 2, 1) := by decide +kernel
theorem dX8_yearTotal_83 : decode cX8_yearTotal 83 = .ok (.if_icmp .ne 24, 3) := by decide +kernel
theorem dX8_yearTotal_86 : decode cX8_yearTotal 86 = .ok (.iload 6, 2) := by decide +kernel
theorem dX8_yearTotal_88 : decode cX8_yearTotal 88 = .ok (.aload 4, 2) := by decide +kernel
theorem dX8_yearTotal_90 : decode cX8_yearTotal 90 = .ok (.getfield 305, 3) := by decide +kernel
theorem dX8_yearTotal_93 : decode cX8_yearTotal 93 = .ok (.ifCond .ne 7, 3) := by decide +kernel
theorem dX8_yearTotal_96 : decode cX8_yearTotal 96 = .ok (.iconst 1, 1) := by decide +kernel
theorem dX8_yearTotal_97 : decode cX8_yearTotal 97 = .ok (.goto 4, 3) := by decide +kernel
theorem dX8_yearTotal_100 : decode cX8_yearTotal 100 = .ok (.iconst 0, 1) := by decide +kernel
theorem dX8_yearTotal_101 : decode cX8_yearTotal 101 = .ok (.iadd, 1) := by decide +kernel
theorem dX8_yearTotal_102 : decode cX8_yearTotal 102 = .ok (.istore 6, 2) := by decide +kernel
theorem dX8_yearTotal_104 : decode cX8_yearTotal 104 = .ok (.goto 25, 3) := by decide +kernel
theorem dX8_yearTotal_107 : decode cX8_yearTotal 107 = .ok (.iload 6, 2) := by decide +kernel
theorem dX8_yearTotal_109 : decode cX8_yearTotal 109 = .ok (.iload_n 3, 1) := by decide +kernel
theorem dX8_yearTotal_110 : decode cX8_yearTotal 110 = .ok (.ifCond .ne 11, 3) := by decide +kernel
theorem dX8_yearTotal_113 : decode cX8_yearTotal 113 = .ok (.aload 4, 2) := by decide +kernel
theorem dX8_yearTotal_115 : decode cX8_yearTotal 115 = .ok (.getfield 318, 3) := by decide +kernel
theorem dX8_yearTotal_118 : decode cX8_yearTotal 118 = .ok (.goto 8, 3) := by decide +kernel
theorem dX8_yearTotal_121 : decode cX8_yearTotal 121 = .ok (.aload 4, 2) := by decide +kernel
theorem dX8_yearTotal_123 : decode cX8_yearTotal 123 = .ok (.getfield 321, 3) := by decide +kernel
theorem dX8_yearTotal_126 : decode cX8_yearTotal 126 = .ok (.iadd, 1) := by decide +kernel
theorem dX8_yearTotal_127 : decode cX8_yearTotal 127 = .ok (.istore 6, 2) := by decide +kernel
theorem dX8_yearTotal_129 : decode cX8_yearTotal 129 = .ok (.iinc 7 1, 3) := by decide +kernel
theorem dX8_yearTotal_132 : decode cX8_yearTotal 132 = .ok (.goto (-115), 3) := by decide +kernel
theorem dX8_yearTotal_135 : decode cX8_yearTotal 135 = .ok (.iload 6, 2) := by decide +kernel
theorem dX8_yearTotal_137 : decode cX8_yearTotal 137 = .ok (.ireturn, 1) := by decide +kernel
theorem dX9_init_0 : decode cX9_init 0 = .ok (.aload_n 0, 1) := by decide +kernel
theorem dX9_init_1 : decode cX9_init 1 = .ok (.invokespecial 1, 3) := by decide +kernel
theorem dX9_init_4 : decode cX9_init 4 = .ok (.aload_n 0, 1) := by decide +kernel
theorem dX9_init_5 : decode cX9_init 5 = .ok (.iconst 2, 1) := by decide +kernel
theorem dX9_init_6 : decode cX9_init 6 = .ok (.putfield 7, 3) := by decide +kernel
theorem dX9_init_9 : decode cX9_init 9 = .ok (.aload_n 0, 1) := by decide +kernel
theorem dX9_init_10 : decode cX9_init 10 = .ok (.bipush 8, 2) := by decide +kernel
theorem dX9_init_12 : decode cX9_init 12 = .ok (.newarray .int, 2) := by decide +kernel
theorem dX9_init_14 : decode cX9_init 14 = .ok (.putfield 13, 3) := by decide +kernel
theorem dX9_init_17 : decode cX9_init 17 = .ok (.aload_n 0, 1) := by decide +kernel
theorem dX9_init_18 : decode cX9_init 18 = .ok (.bipush 8, 2) := by decide +kernel
theorem dX9_init_20 : decode cX9_init 20 = .ok (.newarray .int, 2) := by decide +kernel
theorem dX9_init_22 : decode cX9_init 22 = .ok (.putfield 17, 3) := by decide +kernel
theorem dX9_init_25 : decode cX9_init 25 = .ok (.aload_n 0, 1) := by decide +kernel
theorem dX9_init_26 : decode cX9_init 26 = .ok (.bipush 8, 2) := by decide +kernel
theorem dX9_init_28 : decode cX9_init 28 = .ok (.newarray .int, 2) := by decide +kernel
theorem dX9_init_30 : decode cX9_init 30 = .ok (.putfield 20, 3) := by decide +kernel
theorem dX9_init_33 : decode cX9_init 33 = .ok (.aload_n 0, 1) := by decide +kernel
theorem dX9_init_34 : decode cX9_init 34 = .ok (.bipush 8, 2) := by decide +kernel
theorem dX9_init_36 : decode cX9_init 36 = .ok (.newarray .int, 2) := by decide +kernel
theorem dX9_init_38 : decode cX9_init 38 = .ok (.putfield 23, 3) := by decide +kernel
theorem dX9_init_41 : decode cX9_init 41 = .ok (.aload_n 0, 1) := by decide +kernel
theorem dX9_init_42 : decode cX9_init 42 = .ok (.iconst 4, 1) := by decide +kernel
theorem dX9_init_43 : decode cX9_init 43 = .ok (.putfield 26, 3) := by decide +kernel
theorem dX9_init_46 : decode cX9_init 46 = .ok (.aload_n 0, 1) := by decide +kernel
theorem dX9_init_47 : decode cX9_init 47 = .ok (.iconst 1, 1) := by decide +kernel
theorem dX9_init_48 : decode cX9_init 48 = .ok (.putfield 29, 3) := by decide +kernel
theorem dX9_init_51 : decode cX9_init 51 = .ok (.aload_n 0, 1) := by decide +kernel
theorem dX9_init_52 : decode cX9_init 52 = .ok (.bipush 16, 2) := by decide +kernel
theorem dX9_init_54 : decode cX9_init 54 = .ok (.newarray .int, 2) := by decide +kernel
theorem dX9_init_56 : decode cX9_init 56 = .ok (.putfield 32, 3) := by decide +kernel
theorem dX9_init_59 : decode cX9_init 59 = .ok (.aload_n 0, 1) := by decide +kernel
theorem dX9_init_60 : decode cX9_init 60 = .ok (.bipush 61, 2) := by decide +kernel
theorem dX9_init_62 : decode cX9_init 62 = .ok (.newarray .int, 2) := by decide +kernel
theorem dX9_init_64 : decode cX9_init 64 = .ok (.putfield 35, 3) := by decide +kernel
theorem dX9_init_67 : decode cX9_init 67 = .ok (.aload_n 0, 1) := by decide +kernel
theorem dX9_init_68 : decode cX9_init 68 = .ok (.bipush 61, 2) := by decide +kernel
theorem dX9_init_70 : decode cX9_init 70 = .ok (.newarray .int, 2) := by decide +kernel
theorem dX9_init_72 : decode cX9_init 72 = .ok (.putfield 38, 3) := by decide +kernel
theorem dX9_init_75 : decode cX9_init 75 = .ok (.aload_n 0, 1) := by decide +kernel
theorem dX9_init_76 : decode cX9_init 76 = .ok (.bipush 8, 2) := by decide +kernel
theorem dX9_init_78 : decode cX9_init 78 = .ok (.newarray .int, 2) := by decide +kernel
theorem dX9_init_80 : decode cX9_init 80 = .ok (.putfield 41, 3) := by decide +kernel
theorem dX9_init_83 : decode cX9_init 83 = .ok (.aload_n 0, 1) := by decide +kernel
theorem dX9_init_84 : decode cX9_init 84 = .ok (.bipush 8, 2) := by decide +kernel
theorem dX9_init_86 : decode cX9_init 86 = .ok (.newarray .int, 2) := by decide +kernel
theorem dX9_init_88 : decode cX9_init 88 = .ok (.putfield 44, 3) := by decide +kernel
theorem dX9_init_91 : decode cX9_init 91 = .ok (.aload_n 0, 1) := by decide +kernel
theorem dX9_init_92 : decode cX9_init 92 = .ok (.bipush 61, 2) := by decide +kernel
theorem dX9_init_94 : decode cX9_init 94 = .ok (.newarray .int, 2) := by decide +kernel
theorem dX9_init_96 : decode cX9_init 96 = .ok (.putfield 47, 3) := by decide +kernel
theorem dX9_init_99 : decode cX9_init 99 = .ok (.aload_n 0, 1) := by decide +kernel
theorem dX9_init_100 : decode cX9_init 100 = .ok (.bipush 61, 2) := by decide +kernel
theorem dX9_init_102 : decode cX9_init 102 = .ok (.newarray .int, 2) := by decide +kernel
theorem dX9_init_104 : decode cX9_init 104 = .ok (.putfield 50, 3) := by decide +kernel
theorem dX9_init_107 : decode cX9_init 107 = .ok (.aload_n 0, 1) := by decide +kernel
theorem dX9_init_108 : decode cX9_init 108 = .ok (.bipush 61, 2) := by decide +kernel
theorem dX9_init_110 : decode cX9_init 110 = .ok (.newarray .int, 2) := by decide +kernel
theorem dX9_init_112 : decode cX9_init 112 = .ok (.putfield 53, 3) := by decide +kernel
theorem dX9_init_115 : decode cX9_init 115 = .ok (.aload_n 0, 1) := by decide +kernel
theorem dX9_init_116 : decode cX9_init 116 = .ok (.sipush 488, 3) := by decide +kernel
theorem dX9_init_119 : decode cX9_init 119 = .ok (.newarray .int, 2) := by decide +kernel
theorem dX9_init_121 : decode cX9_init 121 = .ok (.putfield 56, 3) := by decide +kernel
theorem dX9_init_124 : decode cX9_init 124 = .ok (.aload_n 0, 1) := by decide +kernel
theorem dX9_init_125 : decode cX9_init 125 = .ok (.bipush 61, 2) := by decide +kernel
theorem dX9_init_127 : decode cX9_init 127 = .ok (.newarray .int, 2) := by decide +kernel
theorem dX9_init_129 : decode cX9_init 129 = .ok (.putfield 59, 3) := by decide +kernel
theorem dX9_init_132 : decode cX9_init 132 = .ok (.aload_n 0, 1) := by decide +kernel
theorem dX9_init_133 : decode cX9_init 133 = .ok (.bipush 8, 2) := by decide +kernel
theorem dX9_init_135 : decode cX9_init 135 = .ok (.newarray .int, 2) := by decide +kernel
theorem dX9_init_137 : decode cX9_init 137 = .ok (.putfield 62, 3) := by decide +kernel
theorem dX9_init_140 : decode cX9_init 140 = .ok (.aload_n 0, 1) := by decide +kernel
theorem dX9_init_141 : decode cX9_init 141 = .ok (.sipush 140, 3) := by decide +kernel
theorem dX9_init_144 : decode cX9_init 144 = .ok (.newarray .int, 2) := by decide +kernel
theorem dX9_init_146 : decode cX9_init 146 = .ok (.putfield 65, 3) := by decide +kernel
theorem dX9_init_149 : decode cX9_init 149 = .ok (.aload_n 0, 1) := by decide +kernel
theorem dX9_init_150 : decode cX9_init 150 = .ok (.iconst 2, 1) := by decide +kernel
theorem dX9_init_151 : decode cX9_init 151 = .ok (.newarray .boolean, 2) := by decide +kernel
theorem dX9_init_153 : decode cX9_init 153 = .ok (.putfield 68, 3) := by decide +kernel
theorem dX9_init_156 : decode cX9_init 156 = .ok (.aload_n 0, 1) := by decide +kernel
theorem dX9_init_157 : decode cX9_init 157 = .ok (.iconst 0, 1) := by decide +kernel
theorem dX9_init_158 : decode cX9_init 158 = .ok (.putfield 72, 3) := by decide +kernel
theorem dX9_init_161 : decode cX9_init 161 = .ok (.return_, 1) := by decide +kernel
theorem dX9_in_0 : decode cX9_in 0 = .ok (.iload_n 0, 1) := by decide +kernel
theorem dX9_in_1 : decode cX9_in 1 = .ok (.iload_n 1, 1) := by decide +kernel
theorem dX9_in_2 : decode cX9_in 2 = .ok (.if_icmp .lt 12, 3) := by decide +kernel
theorem dX9_in_5 : decode cX9_in 5 = .ok (.iload_n 0, 1) := by decide +kernel
theorem dX9_in_6 : decode cX9_in 6 = .ok (.iload_n 2, 1) := by decide +kernel
theorem dX9_in_7 : decode cX9_in 7 = .ok (.if_icmp .gt 7, 3) := by decide +kernel
theorem dX9_in_10 : decode cX9_in 10 = .ok (.iconst 1, 1) := by decide +kernel
theorem dX9_in_11 : decode cX9_in 11 = .ok (.goto 4, 3) := by decide +kernel
theorem dX9_in_14 : decode cX9_in 14 = .ok (.iconst 0, 1) := by decide +kernel
theorem dX9_in_15 : decode cX9_in 15 = .ok (.ireturn, 1) := by decide +kernel
theorem dX9_has_0 : decode cX9_has 0 = .ok (.iload_n 0, 1) := by decide +kernel
theorem dX9_has_1 : decode cX9_has 1 = .ok (.iload_n 1, 1) := by decide +kernel
theorem dX9_has_2 : decode cX9_has 2 = .ok (.ishr, 1) := by decide +kernel
theorem dX9_has_3 : decode cX9_has 3 = .ok (.iconst 1, 1) := by decide +kernel
theorem dX9_has_4 : decode cX9_has 4 = .ok (.iand, 1) := by decide +kernel
theorem dX9_has_5 : decode cX9_has 5 = .ok (.iconst 1, 1) := by decide +kernel
theorem dX9_has_6 : decode cX9_has 6 = .ok (.if_icmp .ne 7, 3) := by decide +kernel
theorem dX9_has_9 : decode cX9_has 9 = .ok (.iconst 1, 1) := by decide +kernel
theorem dX9_has_10 : decode cX9_has 10 = .ok (.goto 4, 3) := by decide +kernel
theorem dX9_has_13 : decode cX9_has 13 = .ok (.iconst 0, 1) := by decide +kernel
theorem dX9_has_14 : decode cX9_has 14 = .ok (.ireturn, 1) := by decide +kernel
theorem dX9_bits_0 : decode cX9_bits 0 = .ok (.iconst 0, 1) := by decide +kernel
theorem dX9_bits_1 : decode cX9_bits 1 = .ok (.istore_n 1, 1) := by decide +kernel
theorem dX9_bits_2 : decode cX9_bits 2 = .ok (.iconst 0, 1) := by decide +kernel
theorem dX9_bits_3 : decode cX9_bits 3 = .ok (.istore_n 2, 1) := by decide +kernel
theorem dX9_bits_4 : decode cX9_bits 4 = .ok (.iload_n 2, 1) := by decide +kernel
theorem dX9_bits_5 : decode cX9_bits 5 = .ok (.bipush 8, 2) := by decide +kernel
theorem dX9_bits_7 : decode cX9_bits 7 = .ok (.if_icmp .ge 17, 3) := by decide +kernel
theorem dX9_bits_10 : decode cX9_bits 10 = .ok (.iload_n 1, 1) := by decide +kernel
theorem dX9_bits_11 : decode cX9_bits 11 = .ok (.iload_n 0, 1) := by decide +kernel
theorem dX9_bits_12 : decode cX9_bits 12 = .ok (.iload_n 2, 1) := by decide +kernel
theorem dX9_bits_13 : decode cX9_bits 13 = .ok (.ishr, 1) := by decide +kernel
theorem dX9_bits_14 : decode cX9_bits 14 = .ok (.iconst 1, 1) := by decide +kernel
theorem dX9_bits_15 : decode cX9_bits 15 = .ok (.iand, 1) := by decide +kernel
theorem dX9_bits_16 : decode cX9_bits 16 = .ok (.iadd, 1) := by decide +kernel
theorem dX9_bits_17 : decode cX9_bits 17 = .ok (.istore_n 1, 1) := by decide +kernel
theorem dX9_bits_18 : decode cX9_bits 18 = .ok (.iinc 2 1, 3) := by decide +kernel
theorem dX9_bits_21 : decode cX9_bits 21 = .ok (.goto (-17), 3) := by decide +kernel
theorem dX9_bits_24 : decode cX9_bits 24 = .ok (.iload_n 1, 1) := by decide +kernel
theorem dX9_bits_25 : decode cX9_bits 25 = .ok (.ireturn, 1) := by decide +kernel
theorem dX9_isThere_0 : decode cX9_isThere 0 = .ok (.iload_n 1, 1) := by decide +kernel
theorem dX9_isThere_1 : decode cX9_isThere 1 = .ok (.iconst 0, 1) := by decide +kernel
theorem dX9_isThere_2 : decode cX9_isThere 2 = .ok (.bipush 7, 2) := by decide +kernel
theorem dX9_isThere_4 : decode cX9_isThere 4 = .ok (.invokestatic 75, 3) := by decide +kernel
theorem dX9_isThere_7 : decode cX9_isThere 7 = .ok (.ifCond .eq 18, 3) := by decide +kernel
theorem dX9_isThere_10 : decode cX9_isThere 10 = .ok (.aload_n 0, 1) := by decide +kernel
theorem dX9_isThere_11 : decode cX9_isThere 11 = .ok (.getfield 72, 3) := by decide +kernel
theorem dX9_isThere_14 : decode cX9_isThere 14 = .ok (.iload_n 1, 1) := by decide +kernel
theorem dX9_isThere_15 : decode cX9_isThere 15 = .ok (.invokestatic 79, 3) := by decide +kernel
theorem dX9_isThere_18 : decode cX9_isThere 18 = .ok (.ifCond .eq 7, 3) := by decide +kernel
theorem dX9_isThere_21 : decode cX9_isThere 21 = .ok (.iconst 1, 1) := by decide +kernel
theorem dX9_isThere_22 : decode cX9_isThere 22 = .ok (.goto 4, 3) := by decide +kernel
theorem dX9_isThere_25 : decode cX9_isThere 25 = .ok (.iconst 0, 1) := by decide +kernel
theorem dX9_isThere_26 : decode cX9_isThere 26 = .ok (.ireturn, 1) := by decide +kernel
theorem dX9_church_0 : decode cX9_church 0 = .ok (.iload_n 1, 1) := by decide +kernel
theorem dX9_church_1 : decode cX9_church 1 = .ok (.iconst 1, 1) := by decide +kernel
theorem dX9_church_2 : decode cX9_church 2 = .ok (.iconst 3, 1) := by decide +kernel
theorem dX9_church_3 : decode cX9_church 3 = .ok (.invokestatic 75, 3) := by decide +kernel
theorem dX9_church_6 : decode cX9_church 6 = .ok (.ifCond .ne 6, 3) := by decide +kernel
theorem dX9_church_9 : decode cX9_church 9 = .ok (.bipush (-2), 2) := by decide +kernel
theorem dX9_church_11 : decode cX9_church 11 = .ok (.ireturn, 1) := by decide +kernel
theorem dX9_church_12 : decode cX9_church 12 = .ok (.aload_n 0, 1) := by decide +kernel
theorem dX9_church_13 : decode cX9_church 13 = .ok (.getfield 7, 3) := by decide +kernel
theorem dX9_church_16 : decode cX9_church 16 = .ok (.istore_n 2, 1) := by decide +kernel
theorem dX9_church_17 : decode cX9_church 17 = .ok (.aload_n 0, 1) := by decide +kernel
theorem dX9_church_18 : decode cX9_church 18 = .ok (.iload_n 1, 1) := by decide +kernel
theorem dX9_church_19 : decode cX9_church 19 = .ok (.putfield 7, 3) := by decide +kernel
theorem dX9_church_22 : decode cX9_church 22 = .ok (.aload_n 0, 1) := by decide +kernel
theorem dX9_church_23 : decode cX9_church 23 = .ok (.iconst 0, 1) := by decide +kernel
theorem dX9_church_24 : decode cX9_church 24 = .ok (.putfield 72, 3) := by decide +kernel
theorem dX9_church_27 : decode cX9_church 27 = .ok (.aload_n 0, 1) := by decide +kernel
theorem dX9_church_28 : decode cX9_church 28 = .ok (.iconst 0, 1) := by decide +kernel
theorem dX9_church_29 : decode cX9_church 29 = .ok (.putfield 83, 3) := by decide +kernel
theorem dX9_church_32 : decode cX9_church 32 = .ok (.aload_n 0, 1) := by decide +kernel
theorem dX9_church_33 : decode cX9_church 33 = .ok (.iconst 0, 1) := by decide +kernel
theorem dX9_church_34 : decode cX9_church 34 = .ok (.putfield 86, 3) := by decide +kernel
theorem dX9_church_37 : decode cX9_church 37 = .ok (.aload_n 0, 1) := by decide +kernel
theorem dX9_church_38 : decode cX9_church 38 = .ok (.iconst 0, 1) := by decide +kernel
theorem dX9_church_39 : decode cX9_church 39 = .ok (.putfield 89, 3) := by decide +kernel
theorem dX9_church_42 : decode cX9_church 42 = .ok (.iload_n 2, 1) := by decide +kernel
theorem dX9_church_43 : decode cX9_church 43 = .ok (.ireturn, 1) := by decide +kernel
theorem dX9_whoSits_0 : decode cX9_whoSits 0 = .ok (.bipush (-6), 2) := by decide +kernel
theorem dX9_whoSits_2 : decode cX9_whoSits 2 = .ok (.istore_n 2, 1) := by decide +kernel
theorem dX9_whoSits_3 : decode cX9_whoSits 3 = .ok (.iconst 0, 1) := by decide +kernel
theorem dX9_whoSits_4 : decode cX9_whoSits 4 = .ok (.istore_n 3, 1) := by decide +kernel
theorem dX9_whoSits_5 : decode cX9_whoSits 5 = .ok (.iload_n 3, 1) := by decide +kernel
theorem dX9_whoSits_6 : decode cX9_whoSits 6 = .ok (.bipush 8, 2) := by decide +kernel
theorem dX9_whoSits_8 : decode cX9_whoSits 8 = .ok (.if_icmp .ge 36, 3) := by decide +kernel
theorem dX9_whoSits_11 : decode cX9_whoSits 11 = .ok (.aload_n 0, 1) := by decide +kernel
theorem dX9_whoSits_12 : decode cX9_whoSits 12 = .ok (.getfield 72, 3) := by decide +kernel
theorem dX9_whoSits_15 : decode cX9_whoSits 15 = .ok (.iload_n 3, 1) := by decide +kernel
theorem dX9_whoSits_16 : decode cX9_whoSits 16 = .ok (.invokestatic 79, 3) := by decide +kernel
theorem dX9_whoSits_19 : decode cX9_whoSits 19 = .ok (.ifCond .eq 17, 3) := by decide +kernel
theorem dX9_whoSits_22 : decode cX9_whoSits 22 = .ok (.aload_n 0, 1) := by decide +kernel
theorem dX9_whoSits_23 : decode cX9_whoSits 23 = .ok (.getfield 13, 3) := by decide +kernel
theorem dX9_whoSits_26 : decode cX9_whoSits 26 = .ok (.iload_n 3, 1) := by decide +kernel
theorem dX9_whoSits_27 : decode cX9_whoSits 27 = .ok (.iaload, 1) := by decide +kernel
theorem dX9_whoSits_28 : decode cX9_whoSits 28 = .ok (.iload_n 1, 1) := by decide +kernel
theorem dX9_whoSits_29 : decode cX9_whoSits 29 = .ok (.if_icmp .ne 7, 3) := by decide +kernel
theorem dX9_whoSits_32 : decode cX9_whoSits 32 = .ok (.iload_n 3, 1) := by decide +kernel
theorem dX9_whoSits_33 : decode cX9_whoSits 33 = .ok (.goto 4, 3) := by decide +kernel
theorem dX9_whoSits_36 : decode cX9_whoSits 36 = .ok (.iload_n 2, 1) := by decide +kernel
theorem dX9_whoSits_37 : decode cX9_whoSits 37 = .ok (.istore_n 2, 1) := by decide +kernel
theorem dX9_whoSits_38 : decode cX9_whoSits 38 = .ok (.iinc 3 1, 3) := by decide +kernel
theorem dX9_whoSits_41 : decode cX9_whoSits 41 = .ok (.goto (-36), 3) := by decide +kernel
theorem dX9_whoSits_44 : decode cX9_whoSits 44 = .ok (.iload_n 2, 1) := by decide +kernel
theorem dX9_whoSits_45 : decode cX9_whoSits 45 = .ok (.ireturn, 1) := by decide +kernel
theorem dX9_hearer_0 : decode cX9_hearer 0 = .ok (.iload_n 1, 1) := by decide +kernel
theorem dX9_hearer_1 : decode cX9_hearer 1 = .ok (.iconst 0, 1) := by decide +kernel
theorem dX9_hearer_2 : decode cX9_hearer 2 = .ok (.bipush 7, 2) := by decide +kernel
theorem dX9_hearer_4 : decode cX9_hearer 4 = .ok (.invokestatic 75, 3) := by decide +kernel
theorem dX9_hearer_7 : decode cX9_hearer 7 = .ok (.ifCond .eq 19, 3) := by decide +kernel
theorem dX9_hearer_10 : decode cX9_hearer 10 = .ok (.iload_n 2, 1) := by decide +kernel
theorem dX9_hearer_11 : decode cX9_hearer 11 = .ok (.iconst 0, 1) := by decide +kernel
theorem dX9_hearer_12 : decode cX9_hearer 12 = .ok (.iconst 4, 1) := by decide +kernel
theorem dX9_hearer_13 : decode cX9_hearer 13 = .ok (.aload_n 0, 1) := by decide +kernel
theorem dX9_hearer_14 : decode cX9_hearer 14 = .ok (.getfield 7, 3) := by decide +kernel
theorem dX9_hearer_17 : decode cX9_hearer 17 = .ok (.imul, 1) := by decide +kernel
theorem dX9_hearer_18 : decode cX9_hearer 18 = .ok (.iconst 1, 1) := by decide +kernel
theorem dX9_hearer_19 : decode cX9_hearer 19 = .ok (.isub, 1) := by decide +kernel
theorem dX9_hearer_20 : decode cX9_hearer 20 = .ok (.invokestatic 75, 3) := by decide +kernel
theorem dX9_hearer_23 : decode cX9_hearer 23 = .ok (.ifCond .ne 5, 3) := by decide +kernel
theorem dX9_hearer_26 : decode cX9_hearer 26 = .ok (.iconst (-1), 1) := by decide +kernel
theorem dX9_hearer_27 : decode cX9_hearer 27 = .ok (.ireturn, 1) := by decide +kernel
theorem dX9_hearer_28 : decode cX9_hearer 28 = .ok (.iload_n 3, 1) := by decide +kernel
theorem dX9_hearer_29 : decode cX9_hearer 29 = .ok (.iconst 0, 1) := by decide +kernel
theorem dX9_hearer_30 : decode cX9_hearer 30 = .ok (.bipush 20, 2) := by decide +kernel
theorem dX9_hearer_32 : decode cX9_hearer 32 = .ok (.invokestatic 75, 3) := by decide +kernel
theorem dX9_hearer_35 : decode cX9_hearer 35 = .ok (.ifCond .eq 23, 3) := by decide +kernel
theorem dX9_hearer_38 : decode cX9_hearer 38 = .ok (.iload 4, 2) := by decide +kernel
theorem dX9_hearer_40 : decode cX9_hearer 40 = .ok (.iconst 0, 1) := by decide +kernel
theorem dX9_hearer_41 : decode cX9_hearer 41 = .ok (.iconst 5, 1) := by decide +kernel
theorem dX9_hearer_42 : decode cX9_hearer 42 = .ok (.invokestatic 75, 3) := by decide +kernel
theorem dX9_hearer_45 : decode cX9_hearer 45 = .ok (.ifCond .eq 13, 3) := by decide +kernel
theorem dX9_hearer_48 : decode cX9_hearer 48 = .ok (.iload 5, 2) := by decide +kernel
theorem dX9_hearer_50 : decode cX9_hearer 50 = .ok (.iconst 0, 1) := by decide +kernel
theorem dX9_hearer_51 : decode cX9_hearer 51 = .ok (.iconst 1, 1) := by decide +kernel
theorem dX9_hearer_52 : decode cX9_hearer 52 = .ok (.invokestatic 75, 3) := by decide +kernel
theorem dX9_hearer_55 : decode cX9_hearer 55 = .ok (.ifCond .ne 6, 3) := by decide +kernel
theorem dX9_hearer_58 : decode cX9_hearer 58 = .ok (.bipush (-2), 2) := by decide +kernel
theorem dX9_hearer_60 : decode cX9_hearer 60 = .ok (.ireturn, 1) := by decide +kernel
theorem dX9_hearer_61 : decode cX9_hearer 61 = .ok (.aload_n 0, 1) := by decide +kernel
theorem dX9_hearer_62 : decode cX9_hearer 62 = .ok (.iload_n 2, 1) := by decide +kernel
theorem dX9_hearer_63 : decode cX9_hearer 63 = .ok (.invokevirtual 92, 3) := by decide +kernel
theorem dX9_hearer_66 : decode cX9_hearer 66 = .ok (.ifCond .lt 15, 3) := by decide +kernel
theorem dX9_hearer_69 : decode cX9_hearer 69 = .ok (.aload_n 0, 1) := by decide +kernel
theorem dX9_hearer_70 : decode cX9_hearer 70 = .ok (.iload_n 2, 1) := by decide +kernel
theorem dX9_hearer_71 : decode cX9_hearer 71 = .ok (.invokevirtual 92, 3) := by decide +kernel
theorem dX9_hearer_74 : decode cX9_hearer 74 = .ok (.iload_n 1, 1) := by decide +kernel
theorem dX9_hearer_75 : decode cX9_hearer 75 = .ok (.if_icmp .eq 6, 3) := by decide +kernel
theorem dX9_hearer_78 : decode cX9_hearer 78 = .ok (.bipush (-3), 2) := by decide +kernel
theorem dX9_hearer_80 : decode cX9_hearer 80 = .ok (.ireturn, 1) := by decide +kernel
theorem dX9_hearer_81 : decode cX9_hearer 81 = .ok (.aload_n 0, 1) := by decide +kernel
theorem dX9_hearer_82 : decode cX9_hearer 82 = .ok (.dup, 1) := by decide +kernel
theorem dX9_hearer_83 : decode cX9_hearer 83 = .ok (.getfield 72, 3) := by decide +kernel
theorem dX9_hearer_86 : decode cX9_hearer 86 = .ok (.iconst 1, 1) := by decide +kernel
theorem dX9_hearer_87 : decode cX9_hearer 87 = .ok (.iload_n 1, 1) := by decide +kernel
theorem dX9_hearer_88 : decode cX9_hearer 88 = .ok (.ishl, 1) := by decide +kernel
theorem dX9_hearer_89 : decode cX9_hearer 89 = .ok (.ior, 1) := by decide +kernel
theorem dX9_hearer_90 : decode cX9_hearer 90 = .ok (.putfield 72, 3) := by decide +kernel
theorem dX9_hearer_93 : decode cX9_hearer 93 = .ok (.aload_n 0, 1) := by decide +kernel
theorem dX9_hearer_94 : decode cX9_hearer 94 = .ok (.getfield 13, 3) := by decide +kernel
theorem dX9_hearer_97 : decode cX9_hearer 97 = .ok (.iload_n 1, 1) := by decide +kernel
theorem dX9_hearer_98 : decode cX9_hearer 98 = .ok (.iload_n 2, 1) := by decide +kernel
theorem dX9_hearer_99 : decode cX9_hearer 99 = .ok (.iastore, 1) := by decide +kernel
theorem dX9_hearer_100 : decode cX9_hearer 100 = .ok (.aload_n 0, 1) := by decide +kernel
theorem dX9_hearer_101 : decode cX9_hearer 101 = .ok (.getfield 17, 3) := by decide +kernel
theorem dX9_hearer_104 : decode cX9_hearer 104 = .ok (.iload_n 1, 1) := by decide +kernel
theorem dX9_hearer_105 : decode cX9_hearer 105 = .ok (.iload_n 3, 1) := by decide +kernel
theorem dX9_hearer_106 : decode cX9_hearer 106 = .ok (.iastore, 1) := by decide +kernel
theorem dX9_hearer_107 : decode cX9_hearer 107 = .ok (.aload_n 0, 1) := by decide +kernel
theorem dX9_hearer_108 : decode cX9_hearer 108 = .ok (.getfield 20, 3) := by decide +kernel
theorem dX9_hearer_111 : decode cX9_hearer 111 = .ok (.iload_n 1, 1) := by decide +kernel
theorem dX9_hearer_112 : decode cX9_hearer 112 = .ok (.iload 4, 2) := by decide +kernel
theorem dX9_hearer_114 : decode cX9_hearer 114 = .ok (.iastore, 1) := by decide +kernel
theorem dX9_hearer_115 : decode cX9_hearer 115 = .ok (.aload_n 0, 1) := by decide +kernel
theorem dX9_hearer_116 : decode cX9_hearer 116 = .ok (.getfield 23, 3) := by decide +kernel
theorem dX9_hearer_119 : decode cX9_hearer 119 = .ok (.iload_n 1, 1) := by decide +kernel
theorem dX9_hearer_120 : decode cX9_hearer 120 = .ok (.iload 5, 2) := by decide +kernel
theorem dX9_hearer_122 : decode cX9_hearer 122 = .ok (.iastore, 1) := by decide +kernel
theorem dX9_hearer_123 : decode cX9_hearer 123 = .ok (.aload_n 0, 1) := by decide +kernel
theorem dX9_hearer_124 : decode cX9_hearer 124 = .ok (.iload 6, 2) := by decide +kernel
theorem dX9_hearer_126 : decode cX9_hearer 126 = .ok (.ifCond .eq 14, 3) := by decide +kernel
theorem dX9_hearer_129 : decode cX9_hearer 129 = .ok (.aload_n 0, 1) := by decide +kernel
theorem dX9_hearer_130 : decode cX9_hearer 130 = .ok (.getfield 83, 3) := by decide +kernel
theorem dX9_hearer_133 : decode cX9_hearer 133 = .ok (.iconst 1, 1) := by decide +kernel
theorem dX9_hearer_134 : decode cX9_hearer 134 = .ok (.iload_n 1, 1) := by decide +kernel
theorem dX9_hearer_135 : decode cX9_hearer 135 = .ok (.ishl, 1) := by decide +kernel
theorem dX9_hearer_136 : decode cX9_hearer 136 = .ok (.ior, 1) := by decide +kernel
theorem dX9_hearer_137 : decode cX9_hearer 137 = .ok (.goto 13, 3) := by decide +kernel
theorem dX9_hearer_140 : decode cX9_hearer 140 = .ok (.aload_n 0, 1) := by decide +kernel
theorem dX9_hearer_141 : decode cX9_hearer 141 = .ok (.getfield 83, 3) := by decide +kernel
theorem dX9_hearer_144 : decode cX9_hearer 144 = .ok (.iconst 1, 1) := by decide +kernel
theorem dX9_hearer_145 : decode cX9_hearer 145 = .ok (.iload_n 1, 1) := by decide +kernel
theorem dX9_hearer_146 : decode cX9_hearer 146 = .ok (.ishl, 1) := by decide +kernel
theorem dX9_hearer_147 : decode cX9_hearer 147 = .ok (.iconst (-1), 1) := by decide +kernel
theorem dX9_hearer_148 : decode cX9_hearer 148 = .ok (.ixor, 1) := by decide +kernel
theorem dX9_hearer_149 : decode cX9_hearer 149 = .ok (.iand, 1) := by decide +kernel
