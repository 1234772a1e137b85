theorem dX9_hearer_150 : decode cX9_hearer 150 = .ok (.putfield 83, 3) := by decide +kernel
theorem dX9_hearer_153 : decode cX9_hearer 153 = .ok (.aload_n 0, 1) := by decide +kernel
theorem dX9_hearer_154 : decode cX9_hearer 154 = .ok (.getfield 72, 3) := by decide +kernel
theorem dX9_hearer_157 : decode cX9_hearer 157 = .ok (.invokestatic 96, 3) := by decide +kernel
theorem dX9_hearer_160 : decode cX9_hearer 160 = .ok (.ireturn, 1) := by decide +kernel
theorem dX9_leave_0 : decode cX9_leave 0 = .ok (.aload_n 0, 1) := by decide +kernel
theorem dX9_leave_1 : decode cX9_leave 1 = .ok (.iload_n 1, 1) := by decide +kernel
theorem dX9_leave_2 : decode cX9_leave 2 = .ok (.invokevirtual 99, 3) := by decide +kernel
theorem dX9_leave_5 : decode cX9_leave 5 = .ok (.ifCond .ne 5, 3) := by decide +kernel
theorem dX9_leave_8 : decode cX9_leave 8 = .ok (.iconst (-1), 1) := by decide +kernel
theorem dX9_leave_9 : decode cX9_leave 9 = .ok (.ireturn, 1) := by decide +kernel
theorem dX9_leave_10 : decode cX9_leave 10 = .ok (.aload_n 0, 1) := by decide +kernel
theorem dX9_leave_11 : decode cX9_leave 11 = .ok (.dup, 1) := by decide +kernel
theorem dX9_leave_12 : decode cX9_leave 12 = .ok (.getfield 72, 3) := by decide +kernel
theorem dX9_leave_15 : decode cX9_leave 15 = .ok (.iconst 1, 1) := by decide +kernel
theorem dX9_leave_16 : decode cX9_leave 16 = .ok (.iload_n 1, 1) := by decide +kernel
theorem dX9_leave_17 : decode cX9_leave 17 = .ok (.ishl, 1) := by decide +kernel
theorem dX9_leave_18 : decode cX9_leave 18 = .ok (.iconst (-1), 1) := by decide +kernel
theorem dX9_leave_19 : decode cX9_leave 19 = .ok (.ixor, 1) := by decide +kernel
theorem dX9_leave_20 : decode cX9_leave 20 = .ok (.iand, 1) := by decide +kernel
theorem dX9_leave_21 : decode cX9_leave 21 = .ok (.putfield 72, 3) := by decide +kernel
theorem dX9_leave_24 : decode cX9_leave 24 = .ok (.aload_n 0, 1) := by decide +kernel
theorem dX9_leave_25 : decode cX9_leave 25 = .ok (.dup, 1) := by decide +kernel
theorem dX9_leave_26 : decode cX9_leave 26 = .ok (.getfield 83, 3) := by decide +kernel
theorem dX9_leave_29 : decode cX9_leave 29 = .ok (.iconst 1, 1) := by decide +kernel
theorem dX9_leave_30 : decode cX9_leave 30 = .ok (.iload_n 1, 1) := by decide +kernel
theorem dX9_leave_31 : decode cX9_leave 31 = .ok (.ishl, 1) := by decide +kernel
theorem dX9_leave_32 : decode cX9_leave 32 = .ok (.iconst (-1), 1) := by decide +kernel
theorem dX9_leave_33 : decode cX9_leave 33 = .ok (.ixor, 1) := by decide +kernel
theorem dX9_leave_34 : decode cX9_leave 34 = .ok (.iand, 1) := by decide +kernel
theorem dX9_leave_35 : decode cX9_leave 35 = .ok (.putfield 83, 3) := by decide +kernel
theorem dX9_leave_38 : decode cX9_leave 38 = .ok (.aload_n 0, 1) := by decide +kernel
theorem dX9_leave_39 : decode cX9_leave 39 = .ok (.getfield 72, 3) := by decide +kernel
theorem dX9_leave_42 : decode cX9_leave 42 = .ok (.invokestatic 96, 3) := by decide +kernel
theorem dX9_leave_45 : decode cX9_leave 45 = .ok (.ireturn, 1) := by decide +kernel
theorem dX9_set_0 : decode cX9_set 0 = .ok (.iload_n 1, 1) := by decide +kernel
theorem dX9_set_1 : decode cX9_set 1 = .ok (.ifCond .ne 13, 3) := by decide +kernel
theorem dX9_set_4 : decode cX9_set 4 = .ok (.iload_n 2, 1) := by decide +kernel
theorem dX9_set_5 : decode cX9_set 5 = .ok (.iconst 1, 1) := by decide +kernel
theorem dX9_set_6 : decode cX9_set 6 = .ok (.bipush 9, 2) := by decide +kernel
theorem dX9_set_8 : decode cX9_set 8 = .ok (.invokestatic 75, 3) := by decide +kernel
theorem dX9_set_11 : decode cX9_set 11 = .ok (.goto 37, 3) := by decide +kernel
theorem dX9_set_14 : decode cX9_set 14 = .ok (.iload_n 1, 1) := by decide +kernel
theorem dX9_set_15 : decode cX9_set 15 = .ok (.iconst 1, 1) := by decide +kernel
theorem dX9_set_16 : decode cX9_set 16 = .ok (.if_icmp .ne 13, 3) := by decide +kernel
theorem dX9_set_19 : decode cX9_set 19 = .ok (.iload_n 2, 1) := by decide +kernel
theorem dX9_set_20 : decode cX9_set 20 = .ok (.iconst 0, 1) := by decide +kernel
theorem dX9_set_21 : decode cX9_set 21 = .ok (.bipush 9, 2) := by decide +kernel
theorem dX9_set_23 : decode cX9_set 23 = .ok (.invokestatic 75, 3) := by decide +kernel
theorem dX9_set_26 : decode cX9_set 26 = .ok (.goto 22, 3) := by decide +kernel
theorem dX9_set_29 : decode cX9_set 29 = .ok (.iload_n 1, 1) := by decide +kernel
theorem dX9_set_30 : decode cX9_set 30 = .ok (.iconst 2, 1) := by decide +kernel
theorem dX9_set_31 : decode cX9_set 31 = .ok (.if_icmp .ne 16, 3) := by decide +kernel
theorem dX9_set_34 : decode cX9_set 34 = .ok (.iload_n 2, 1) := by decide +kernel
theorem dX9_set_35 : decode cX9_set 35 = .ok (.iconst 0, 1) := by decide +kernel
theorem dX9_set_36 : decode cX9_set 36 = .ok (.iconst 2, 1) := by decide +kernel
theorem dX9_set_37 : decode cX9_set 37 = .ok (.invokestatic 75, 3) := by decide +kernel
theorem dX9_set_40 : decode cX9_set 40 = .ok (.ifCond .eq 7, 3) := by decide +kernel
theorem dX9_set_43 : decode cX9_set 43 = .ok (.iconst 1, 1) := by decide +kernel
theorem dX9_set_44 : decode cX9_set 44 = .ok (.goto 4, 3) := by decide +kernel
theorem dX9_set_47 : decode cX9_set 47 = .ok (.iconst 0, 1) := by decide +kernel
theorem dX9_set_48 : decode cX9_set 48 = .ok (.istore_n 3, 1) := by decide +kernel
theorem dX9_set_49 : decode cX9_set 49 = .ok (.iload_n 3, 1) := by decide +kernel
theorem dX9_set_50 : decode cX9_set 50 = .ok (.ifCond .ne 6, 3) := by decide +kernel
theorem dX9_set_53 : decode cX9_set 53 = .ok (.bipush (-2), 2) := by decide +kernel
theorem dX9_set_55 : decode cX9_set 55 = .ok (.ireturn, 1) := by decide +kernel
theorem dX9_set_56 : decode cX9_set 56 = .ok (.iload_n 1, 1) := by decide +kernel
theorem dX9_set_57 : decode cX9_set 57 = .ok (.ifCond .ne 10, 3) := by decide +kernel
theorem dX9_set_60 : decode cX9_set 60 = .ok (.aload_n 0, 1) := by decide +kernel
theorem dX9_set_61 : decode cX9_set 61 = .ok (.getfield 26, 3) := by decide +kernel
theorem dX9_set_64 : decode cX9_set 64 = .ok (.goto 19, 3) := by decide +kernel
theorem dX9_set_67 : decode cX9_set 67 = .ok (.iload_n 1, 1) := by decide +kernel
theorem dX9_set_68 : decode cX9_set 68 = .ok (.iconst 1, 1) := by decide +kernel
theorem dX9_set_69 : decode cX9_set 69 = .ok (.if_icmp .ne 10, 3) := by decide +kernel
theorem dX9_set_72 : decode cX9_set 72 = .ok (.aload_n 0, 1) := by decide +kernel
theorem dX9_set_73 : decode cX9_set 73 = .ok (.getfield 29, 3) := by decide +kernel
theorem dX9_set_76 : decode cX9_set 76 = .ok (.goto 7, 3) := by decide +kernel
theorem dX9_set_79 : decode cX9_set 79 = .ok (.aload_n 0, 1) := by decide +kernel
theorem dX9_set_80 : decode cX9_set 80 = .ok (.getfield 89, 3) := by decide +kernel
theorem dX9_set_83 : decode cX9_set 83 = .ok (.istore 4, 2) := by decide +kernel
theorem dX9_set_85 : decode cX9_set 85 = .ok (.aload_n 0, 1) := by decide +kernel
theorem dX9_set_86 : decode cX9_set 86 = .ok (.iload_n 1, 1) := by decide +kernel
theorem dX9_set_87 : decode cX9_set 87 = .ok (.ifCond .ne 7, 3) := by decide +kernel
theorem dX9_set_90 : decode cX9_set 90 = .ok (.iload_n 2, 1) := by decide +kernel
theorem dX9_set_91 : decode cX9_set 91 = .ok (.goto 7, 3) := by decide +kernel
theorem dX9_set_94 : decode cX9_set 94 = .ok (.aload_n 0, 1) := by decide +kernel
theorem dX9_set_95 : decode cX9_set 95 = .ok (.getfield 26, 3) := by decide +kernel
theorem dX9_set_98 : decode cX9_set 98 = .ok (.putfield 26, 3) := by decide +kernel
theorem dX9_set_101 : decode cX9_set 101 = .ok (.aload_n 0, 1) := by decide +kernel
theorem dX9_set_102 : decode cX9_set 102 = .ok (.iload_n 1, 1) := by decide +kernel
theorem dX9_set_103 : decode cX9_set 103 = .ok (.iconst 1, 1) := by decide +kernel
theorem dX9_set_104 : decode cX9_set 104 = .ok (.if_icmp .ne 7, 3) := by decide +kernel
theorem dX9_set_107 : decode cX9_set 107 = .ok (.iload_n 2, 1) := by decide +kernel
theorem dX9_set_108 : decode cX9_set 108 = .ok (.goto 7, 3) := by decide +kernel
theorem dX9_set_111 : decode cX9_set 111 = .ok (.aload_n 0, 1) := by decide +kernel
theorem dX9_set_112 : decode cX9_set 112 = .ok (.getfield 29, 3) := by decide +kernel
theorem dX9_set_115 : decode cX9_set 115 = .ok (.putfield 29, 3) := by decide +kernel
theorem dX9_set_118 : decode cX9_set 118 = .ok (.aload_n 0, 1) := by decide +kernel
theorem dX9_set_119 : decode cX9_set 119 = .ok (.iload_n 1, 1) := by decide +kernel
theorem dX9_set_120 : decode cX9_set 120 = .ok (.iconst 2, 1) := by decide +kernel
theorem dX9_set_121 : decode cX9_set 121 = .ok (.if_icmp .ne 7, 3) := by decide +kernel
theorem dX9_set_124 : decode cX9_set 124 = .ok (.iload_n 2, 1) := by decide +kernel
theorem dX9_set_125 : decode cX9_set 125 = .ok (.goto 7, 3) := by decide +kernel
theorem dX9_set_128 : decode cX9_set 128 = .ok (.aload_n 0, 1) := by decide +kernel
theorem dX9_set_129 : decode cX9_set 129 = .ok (.getfield 89, 3) := by decide +kernel
theorem dX9_set_132 : decode cX9_set 132 = .ok (.putfield 89, 3) := by decide +kernel
theorem dX9_set_135 : decode cX9_set 135 = .ok (.iload 4, 2) := by decide +kernel
theorem dX9_set_137 : decode cX9_set 137 = .ok (.ireturn, 1) := by decide +kernel
theorem dX9_say_0 : decode cX9_say 0 = .ok (.iload_n 1, 1) := by decide +kernel
theorem dX9_say_1 : decode cX9_say 1 = .ok (.bipush 33, 2) := by decide +kernel
theorem dX9_say_3 : decode cX9_say 3 = .ok (.bipush 126, 2) := by decide +kernel
theorem dX9_say_5 : decode cX9_say 5 = .ok (.invokestatic 75, 3) := by decide +kernel
theorem dX9_say_8 : decode cX9_say 8 = .ok (.ifCond .ne 6, 3) := by decide +kernel
theorem dX9_say_11 : decode cX9_say 11 = .ok (.bipush (-2), 2) := by decide +kernel
theorem dX9_say_13 : decode cX9_say 13 = .ok (.ireturn, 1) := by decide +kernel
theorem dX9_say_14 : decode cX9_say 14 = .ok (.aload_n 0, 1) := by decide +kernel
theorem dX9_say_15 : decode cX9_say 15 = .ok (.getfield 103, 3) := by decide +kernel
theorem dX9_say_18 : decode cX9_say 18 = .ok (.bipush 60, 2) := by decide +kernel
theorem dX9_say_20 : decode cX9_say 20 = .ok (.if_icmp .ne 6, 3) := by decide +kernel
theorem dX9_say_23 : decode cX9_say 23 = .ok (.bipush (-4), 2) := by decide +kernel
theorem dX9_say_25 : decode cX9_say 25 = .ok (.ireturn, 1) := by decide +kernel
theorem dX9_say_26 : decode cX9_say 26 = .ok (.aload_n 0, 1) := by decide +kernel
theorem dX9_say_27 : decode cX9_say 27 = .ok (.getfield 35, 3) := by decide +kernel
theorem dX9_say_30 : decode cX9_say 30 = .ok (.aload_n 0, 1) := by decide +kernel
theorem dX9_say_31 : decode cX9_say 31 = .ok (.getfield 103, 3) := by decide +kernel
theorem dX9_say_34 : decode cX9_say 34 = .ok (.iload_n 1, 1) := by decide +kernel
theorem dX9_say_35 : decode cX9_say 35 = .ok (.iastore, 1) := by decide +kernel
theorem dX9_say_36 : decode cX9_say 36 = .ok (.aload_n 0, 1) := by decide +kernel
theorem dX9_say_37 : decode cX9_say 37 = .ok (.dup, 1) := by decide +kernel
theorem dX9_say_38 : decode cX9_say 38 = .ok (.getfield 103, 3) := by decide +kernel
theorem dX9_say_41 : decode cX9_say 41 = .ok (.iconst 1, 1) := by decide +kernel
theorem dX9_say_42 : decode cX9_say 42 = .ok (.iadd, 1) := by decide +kernel
theorem dX9_say_43 : decode cX9_say 43 = .ok (.putfield 103, 3) := by decide +kernel
theorem dX9_say_46 : decode cX9_say 46 = .ok (.aload_n 0, 1) := by decide +kernel
theorem dX9_say_47 : decode cX9_say 47 = .ok (.getfield 103, 3) := by decide +kernel
theorem dX9_say_50 : decode cX9_say 50 = .ok (.ireturn, 1) := by decide +kernel
theorem dX9_wipe_0 : decode cX9_wipe 0 = .ok (.aload_n 0, 1) := by decide +kernel
theorem dX9_wipe_1 : decode cX9_wipe 1 = .ok (.getfield 103, 3) := by decide +kernel
theorem dX9_wipe_4 : decode cX9_wipe 4 = .ok (.istore_n 1, 1) := by decide +kernel
theorem dX9_wipe_5 : decode cX9_wipe 5 = .ok (.aload_n 0, 1) := by decide +kernel
theorem dX9_wipe_6 : decode cX9_wipe 6 = .ok (.iconst 0, 1) := by decide +kernel
theorem dX9_wipe_7 : decode cX9_wipe 7 = .ok (.putfield 103, 3) := by decide +kernel
theorem dX9_wipe_10 : decode cX9_wipe 10 = .ok (.iload_n 1, 1) := by decide +kernel
theorem dX9_wipe_11 : decode cX9_wipe 11 = .ok (.ireturn, 1) := by decide +kernel
theorem dX9_isSign_0 : decode cX9_isSign 0 = .ok (.iload_n 0, 1) := by decide +kernel
theorem dX9_isSign_1 : decode cX9_isSign 1 = .ok (.bipush 119, 2) := by decide +kernel
theorem dX9_isSign_3 : decode cX9_isSign 3 = .ok (.if_icmp .eq 39, 3) := by decide +kernel
theorem dX9_isSign_6 : decode cX9_isSign 6 = .ok (.iload_n 0, 1) := by decide +kernel
theorem dX9_isSign_7 : decode cX9_isSign 7 = .ok (.bipush 104, 2) := by decide +kernel
theorem dX9_isSign_9 : decode cX9_isSign 9 = .ok (.if_icmp .eq 33, 3) := by decide +kernel
theorem dX9_isSign_12 : decode cX9_isSign 12 = .ok (.iload_n 0, 1) := by decide +kernel
theorem dX9_isSign_13 : decode cX9_isSign 13 = .ok (.bipush 111, 2) := by decide +kernel
theorem dX9_isSign_15 : decode cX9_isSign 15 = .ok (.if_icmp .eq 27, 3) := by decide +kernel
theorem dX9_isSign_18 : decode cX9_isSign 18 = .ok (.iload_n 0, 1) := by decide +kernel
theorem dX9_isSign_19 : decode cX9_isSign 19 = .ok (.bipush 110, 2) := by decide +kernel
theorem dX9_isSign_21 : decode cX9_isSign 21 = .ok (.if_icmp .eq 21, 3) := by decide +kernel
theorem dX9_isSign_24 : decode cX9_isSign 24 = .ok (.iload_n 0, 1) := by decide +kernel
theorem dX9_isSign_25 : decode cX9_isSign 25 = .ok (.bipush 99, 2) := by decide +kernel
theorem dX9_isSign_27 : decode cX9_isSign 27 = .ok (.if_icmp .eq 15, 3) := by decide +kernel
theorem dX9_isSign_30 : decode cX9_isSign 30 = .ok (.iload_n 0, 1) := by decide +kernel
theorem dX9_isSign_31 : decode cX9_isSign 31 = .ok (.bipush 115, 2) := by decide +kernel
theorem dX9_isSign_33 : decode cX9_isSign 33 = .ok (.if_icmp .eq 9, 3) := by decide +kernel
theorem dX9_isSign_36 : decode cX9_isSign 36 = .ok (.iload_n 0, 1) := by decide +kernel
theorem dX9_isSign_37 : decode cX9_isSign 37 = .ok (.bipush 126, 2) := by decide +kernel
theorem dX9_isSign_39 : decode cX9_isSign 39 = .ok (.if_icmp .ne 7, 3) := by decide +kernel
theorem dX9_isSign_42 : decode cX9_isSign 42 = .ok (.iconst 1, 1) := by decide +kernel
theorem dX9_isSign_43 : decode cX9_isSign 43 = .ok (.goto 4, 3) := by decide +kernel
theorem dX9_isSign_46 : decode cX9_isSign 46 = .ok (.iconst 0, 1) := by decide +kernel
theorem dX9_isSign_47 : decode cX9_isSign 47 = .ok (.ireturn, 1) := by decide +kernel
theorem dX9_faultOf_0 : decode cX9_faultOf 0 = .ok (.iconst 0, 1) := by decide +kernel
theorem dX9_faultOf_1 : decode cX9_faultOf 1 = .ok (.istore_n 1, 1) := by decide +kernel
theorem dX9_faultOf_2 : decode cX9_faultOf 2 = .ok (.iload_n 1, 1) := by decide +kernel
theorem dX9_faultOf_3 : decode cX9_faultOf 3 = .ok (.aload_n 0, 1) := by decide +kernel
theorem dX9_faultOf_4 : decode cX9_faultOf 4 = .ok (.getfield 103, 3) := by decide +kernel
theorem dX9_faultOf_7 : decode cX9_faultOf 7 = .ok (.if_icmp .ge 23, 3) := by decide +kernel
theorem dX9_faultOf_10 : decode cX9_faultOf 10 = .ok (.aload_n 0, 1) := by decide +kernel
theorem dX9_faultOf_11 : decode cX9_faultOf 11 = .ok (.getfield 35, 3) := by decide +kernel
theorem dX9_faultOf_14 : decode cX9_faultOf 14 = .ok (.iload_n 1, 1) := by decide +kernel
theorem dX9_faultOf_15 : decode cX9_faultOf 15 = .ok (.iaload, 1) := by decide +kernel
theorem dX9_faultOf_16 : decode cX9_faultOf 16 = .ok (.invokestatic 106, 3) := by decide +kernel
theorem dX9_faultOf_19 : decode cX9_faultOf 19 = .ok (.ifCond .ne 5, 3) := by decide +kernel
theorem dX9_faultOf_22 : decode cX9_faultOf 22 = .ok (.iload_n 1, 1) := by decide +kernel
theorem dX9_faultOf_23 : decode cX9_faultOf 23 = .ok (.ireturn, 1) := by decide +kernel
theorem dX9_faultOf_24 : decode cX9_faultOf 24 = .ok (.iinc 1 1, 3) := by decide +kernel
theorem dX9_faultOf_27 : decode cX9_faultOf 27 = .ok (.goto (-25), 3) := by decide +kernel
theorem dX9_faultOf_30 : decode cX9_faultOf 30 = .ok (.bipush (-6), 2) := by decide +kernel
theorem dX9_faultOf_32 : decode cX9_faultOf 32 = .ok (.ireturn, 1) := by decide +kernel
theorem dX9_fault_0 : decode cX9_fault 0 = .ok (.aload_n 0, 1) := by decide +kernel
theorem dX9_fault_1 : decode cX9_fault 1 = .ok (.invokevirtual 109, 3) := by decide +kernel
theorem dX9_fault_4 : decode cX9_fault 4 = .ok (.ireturn, 1) := by decide +kernel
theorem dX9_lay_0 : decode cX9_lay 0 = .ok (.aload_n 0, 1) := by decide +kernel
theorem dX9_lay_1 : decode cX9_lay 1 = .ok (.aload_n 0, 1) := by decide +kernel
theorem dX9_lay_2 : decode cX9_lay 2 = .ok (.getfield 103, 3) := by decide +kernel
theorem dX9_lay_5 : decode cX9_lay 5 = .ok (.putfield 113, 3) := by decide +kernel
theorem dX9_lay_8 : decode cX9_lay 8 = .ok (.iconst 0, 1) := by decide +kernel
theorem dX9_lay_9 : decode cX9_lay 9 = .ok (.istore_n 1, 1) := by decide +kernel
theorem dX9_lay_10 : decode cX9_lay 10 = .ok (.iload_n 1, 1) := by decide +kernel
theorem dX9_lay_11 : decode cX9_lay 11 = .ok (.aload_n 0, 1) := by decide +kernel
theorem dX9_lay_12 : decode cX9_lay 12 = .ok (.getfield 103, 3) := by decide +kernel
theorem dX9_lay_15 : decode cX9_lay 15 = .ok (.if_icmp .ge 21, 3) := by decide +kernel
theorem dX9_lay_18 : decode cX9_lay 18 = .ok (.aload_n 0, 1) := by decide +kernel
theorem dX9_lay_19 : decode cX9_lay 19 = .ok (.getfield 38, 3) := by decide +kernel
theorem dX9_lay_22 : decode cX9_lay 22 = .ok (.iload_n 1, 1) := by decide +kernel
theorem dX9_lay_23 : decode cX9_lay 23 = .ok (.aload_n 0, 1) := by decide +kernel
theorem dX9_lay_24 : decode cX9_lay 24 = .ok (.getfield 35, 3) := by decide +kernel
theorem dX9_lay_27 : decode cX9_lay 27 = .ok (.iload_n 1, 1) := by decide +kernel
theorem dX9_lay_28 : decode cX9_lay 28 = .ok (.iaload, 1) := by decide +kernel
theorem dX9_lay_29 : decode cX9_lay 29 = .ok (.iastore, 1) := by decide +kernel
theorem dX9_lay_30 : decode cX9_lay 30 = .ok (.iinc 1 1, 3) := by decide +kernel
theorem dX9_lay_33 : decode cX9_lay 33 = .ok (.goto (-23), 3) := by decide +kernel
theorem dX9_lay_36 : decode cX9_lay 36 = .ok (.iconst 0, 1) := by decide +kernel
theorem dX9_lay_37 : decode cX9_lay 37 = .ok (.istore_n 1, 1) := by decide +kernel
theorem dX9_lay_38 : decode cX9_lay 38 = .ok (.iload_n 1, 1) := by decide +kernel
theorem dX9_lay_39 : decode cX9_lay 39 = .ok (.bipush 8, 2) := by decide +kernel
theorem dX9_lay_41 : decode cX9_lay 41 = .ok (.if_icmp .ge 21, 3) := by decide +kernel
theorem dX9_lay_44 : decode cX9_lay 44 = .ok (.aload_n 0, 1) := by decide +kernel
theorem dX9_lay_45 : decode cX9_lay 45 = .ok (.getfield 41, 3) := by decide +kernel
theorem dX9_lay_48 : decode cX9_lay 48 = .ok (.iload_n 1, 1) := by decide +kernel
theorem dX9_lay_49 : decode cX9_lay 49 = .ok (.aload_n 0, 1) := by decide +kernel
theorem dX9_lay_50 : decode cX9_lay 50 = .ok (.getfield 13, 3) := by decide +kernel
theorem dX9_lay_53 : decode cX9_lay 53 = .ok (.iload_n 1, 1) := by decide +kernel
theorem dX9_lay_54 : decode cX9_lay 54 = .ok (.iaload, 1) := by decide +kernel
theorem dX9_lay_55 : decode cX9_lay 55 = .ok (.iastore, 1) := by decide +kernel
theorem dX9_lay_56 : decode cX9_lay 56 = .ok (.iinc 1 1, 3) := by decide +kernel
theorem dX9_lay_59 : decode cX9_lay 59 = .ok (.goto (-21), 3) := by decide +kernel
theorem dX9_lay_62 : decode cX9_lay 62 = .ok (.aload_n 0, 1) := by decide +kernel
theorem dX9_lay_63 : decode cX9_lay 63 = .ok (.aload_n 0, 1) := by decide +kernel
theorem dX9_lay_64 : decode cX9_lay 64 = .ok (.getfield 83, 3) := by decide +kernel
theorem dX9_lay_67 : decode cX9_lay 67 = .ok (.putfield 116, 3) := by decide +kernel
theorem dX9_lay_70 : decode cX9_lay 70 = .ok (.aload_n 0, 1) := by decide +kernel
theorem dX9_lay_71 : decode cX9_lay 71 = .ok (.aload_n 0, 1) := by decide +kernel
theorem dX9_lay_72 : decode cX9_lay 72 = .ok (.getfield 29, 3) := by decide +kernel
theorem dX9_lay_75 : decode cX9_lay 75 = .ok (.putfield 119, 3) := by decide +kernel
theorem dX9_lay_78 : decode cX9_lay 78 = .ok (.aload_n 0, 1) := by decide +kernel
theorem dX9_lay_79 : decode cX9_lay 79 = .ok (.iconst 0, 1) := by decide +kernel
theorem dX9_lay_80 : decode cX9_lay 80 = .ok (.putfield 122, 3) := by decide +kernel
theorem dX9_lay_83 : decode cX9_lay 83 = .ok (.return_, 1) := by decide +kernel
theorem dX9_beside_0 : decode cX9_beside 0 = .ok (.aload_n 0, 1) := by decide +kernel
theorem dX9_beside_1 : decode cX9_beside 1 = .ok (.getfield 41, 3) := by decide +kernel
theorem dX9_beside_4 : decode cX9_beside 4 = .ok (.iload_n 1, 1) := by decide +kernel
theorem dX9_beside_5 : decode cX9_beside 5 = .ok (.iaload, 1) := by decide +kernel
theorem dX9_beside_6 : decode cX9_beside 6 = .ok (.iload_n 2, 1) := by decide +kernel
theorem dX9_beside_7 : decode cX9_beside 7 = .ok (.iadd, 1) := by decide +kernel
theorem dX9_beside_8 : decode cX9_beside 8 = .ok (.istore_n 3, 1) := by decide +kernel
theorem dX9_beside_9 : decode cX9_beside 9 = .ok (.bipush (-6), 2) := by decide +kernel
theorem dX9_beside_11 : decode cX9_beside 11 = .ok (.istore 4, 2) := by decide +kernel
theorem dX9_beside_13 : decode cX9_beside 13 = .ok (.iconst 0, 1) := by decide +kernel
theorem dX9_beside_14 : decode cX9_beside 14 = .ok (.istore 5, 2) := by decide +kernel
theorem dX9_beside_16 : decode cX9_beside 16 = .ok (.iload 5, 2) := by decide +kernel
theorem dX9_beside_18 : decode cX9_beside 18 = .ok (.bipush 8, 2) := by decide +kernel
theorem dX9_beside_20 : decode cX9_beside 20 = .ok (.if_icmp .ge 65, 3) := by decide +kernel
theorem dX9_beside_23 : decode cX9_beside 23 = .ok (.aload_n 0, 1) := by decide +kernel
theorem dX9_beside_24 : decode cX9_beside 24 = .ok (.getfield 72, 3) := by decide +kernel
theorem dX9_beside_27 : decode cX9_beside 27 = .ok (.iload 5, 2) := by decide +kernel
theorem dX9_beside_29 : decode cX9_beside 29 = .ok (.invokestatic 79, 3) := by decide +kernel
theorem dX9_beside_32 : decode cX9_beside 32 = .ok (.ifCond .eq 43, 3) := by decide +kernel
theorem dX9_beside_35 : decode cX9_beside 35 = .ok (.aload_n 0, 1) := by decide +kernel
theorem dX9_beside_36 : decode cX9_beside 36 = .ok (.getfield 41, 3) := by decide +kernel
theorem dX9_beside_39 : decode cX9_beside 39 = .ok (.iload 5, 2) := by decide +kernel
theorem dX9_beside_41 : decode cX9_beside 41 = .ok (.iaload, 1) := by decide +kernel
theorem dX9_beside_42 : decode cX9_beside 42 = .ok (.iload_n 3, 1) := by decide +kernel
theorem dX9_beside_43 : decode cX9_beside 43 = .ok (.if_icmp .ne 32, 3) := by decide +kernel
theorem dX9_beside_46 : decode cX9_beside 46 = .ok (.iload_n 3, 1) := by decide +kernel
theorem dX9_beside_47 : decode cX9_beside 47 = .ok (.iconst 0, 1) := by decide +kernel
theorem dX9_beside_48 : decode cX9_beside 48 = .ok (.bipush 11, 2) := by decide +kernel
theorem dX9_beside_50 : decode cX9_beside 50 = .ok (.invokestatic 75, 3) := by decide +kernel
theorem dX9_beside_53 : decode cX9_beside 53 = .ok (.ifCond .eq 22, 3) := by decide +kernel
theorem dX9_beside_56 : decode cX9_beside 56 = .ok (.iload_n 3, 1) := by decide +kernel
theorem dX9_beside_57 : decode cX9_beside 57 = .ok (.iconst 4, 1) := by decide +kernel
theorem dX9_beside_58 : decode cX9_beside 58 = .ok (.idiv, 1) := by decide +kernel
theorem dX9_beside_59 : decode cX9_beside 59 = .ok (.aload_n 0, 1) := by decide +kernel
theorem dX9_beside_60 : decode cX9_beside 60 = .ok (.getfield 41, 3) := by decide +kernel
theorem dX9_beside_63 : decode cX9_beside 63 = .ok (.iload_n 1, 1) := by decide +kernel
theorem dX9_beside_64 : decode cX9_beside 64 = .ok (.iaload, 1) := by decide +kernel
theorem dX9_beside_65 : decode cX9_beside 65 = .ok (.iconst 4, 1) := by decide +kernel
theorem dX9_beside_66 : decode cX9_beside 66 = .ok (.idiv, 1) := by decide +kernel
theorem dX9_beside_67 : decode cX9_beside 67 = .ok (.if_icmp .ne 8, 3) := by decide +kernel
theorem dX9_beside_70 : decode cX9_beside 70 = .ok (.iload 5, 2) := by decide +kernel
theorem dX9_beside_72 : decode cX9_beside 72 = .ok (.goto 5, 3) := by decide +kernel
theorem dX9_beside_75 : decode cX9_beside 75 = .ok (.iload 4, 2) := by decide +kernel
theorem dX9_beside_77 : decode cX9_beside 77 = .ok (.istore 4, 2) := by decide +kernel
theorem dX9_beside_79 : decode cX9_beside 79 = .ok (.iinc 5 1, 3) := by decide +kernel
theorem dX9_beside_82 : decode cX9_beside 82 = .ok (.goto (-66), 3) := by decide +kernel
theorem dX9_beside_85 : decode cX9_beside 85 = .ok (.iload 4, 2) := by decide +kernel
theorem dX9_beside_87 : decode cX9_beside 87 = .ok (.ireturn, 1) := by decide +kernel
theorem dX9_turn_0 : decode cX9_turn 0 = .ok (.aload_n 0, 1) := by decide +kernel
theorem dX9_turn_1 : decode cX9_turn 1 = .ok (.getfield 72, 3) := by decide +kernel
theorem dX9_turn_4 : decode cX9_turn 4 = .ok (.invokestatic 96, 3) := by decide +kernel
theorem dX9_turn_7 : decode cX9_turn 7 = .ok (.istore_n 2, 1) := by decide +kernel
theorem dX9_turn_8 : decode cX9_turn 8 = .ok (.iload_n 2, 1) := by decide +kernel
theorem dX9_turn_9 : decode cX9_turn 9 = .ok (.ifCond .ne 7, 3) := by decide +kernel
theorem dX9_turn_12 : decode cX9_turn 12 = .ok (.iconst 0, 1) := by decide +kernel
theorem dX9_turn_13 : decode cX9_turn 13 = .ok (.goto 6, 3) := by decide +kernel
theorem dX9_turn_16 : decode cX9_turn 16 = .ok (.iload_n 1, 1) := by decide +kernel
theorem dX9_turn_17 : decode cX9_turn 17 = .ok (.iload_n 2, 1) := by decide +kernel
theorem dX9_turn_18 : decode cX9_turn 18 = .ok (.irem, 1) := by decide +kernel
theorem dX9_turn_19 : decode cX9_turn 19 = .ok (.istore_n 3, 1) := by decide +kernel
theorem dX9_turn_20 : decode cX9_turn 20 = .ok (.iconst 0, 1) := by decide +kernel
theorem dX9_turn_21 : decode cX9_turn 21 = .ok (.istore 4, 2) := by decide +kernel
theorem dX9_turn_23 : decode cX9_turn 23 = .ok (.iload 4, 2) := by decide +kernel
theorem dX9_turn_25 : decode cX9_turn 25 = .ok (.bipush 8, 2) := by decide +kernel
theorem dX9_turn_27 : decode cX9_turn 27 = .ok (.if_icmp .ge 31, 3) := by decide +kernel
theorem dX9_turn_30 : decode cX9_turn 30 = .ok (.aload_n 0, 1) := by decide +kernel
theorem dX9_turn_31 : decode cX9_turn 31 = .ok (.getfield 72, 3) := by decide +kernel
theorem dX9_turn_34 : decode cX9_turn 34 = .ok (.iload 4, 2) := by decide +kernel
theorem dX9_turn_36 : decode cX9_turn 36 = .ok (.invokestatic 79, 3) := by decide +kernel
theorem dX9_turn_39 : decode cX9_turn 39 = .ok (.ifCond .eq 13, 3) := by decide +kernel
theorem dX9_turn_42 : decode cX9_turn 42 = .ok (.iload_n 3, 1) := by decide +kernel
theorem dX9_turn_43 : decode cX9_turn 43 = .ok (.ifCond .ne 6, 3) := by decide +kernel
theorem dX9_turn_46 : decode cX9_turn 46 = .ok (.iload 4, 2) := by decide +kernel
theorem dX9_turn_48 : decode cX9_turn 48 = .ok (.ireturn, 1) := by decide +kernel
theorem dX9_turn_49 : decode cX9_turn 49 = .ok (.iinc 3 (-1), 3) := by decide +kernel
theorem dX9_turn_52 : decode cX9_turn 52 = .ok (.iinc 4 1, 3) := by decide +kernel
theorem dX9_turn_55 : decode cX9_turn 55 = .ok (.goto (-32), 3) := by decide +kernel
theorem dX9_turn_58 : decode cX9_turn 58 = .ok (.bipush (-6), 2) := by decide +kernel
theorem dX9_turn_60 : decode cX9_turn 60 = .ok (.ireturn, 1) := by decide +kernel
theorem dX9_change_0 : decode cX9_change 0 = .ok (.aload_n 0, 1) := by decide +kernel
theorem dX9_change_1 : decode cX9_change 1 = .ok (.getfield 26, 3) := by decide +kernel
theorem dX9_change_4 : decode cX9_change 4 = .ok (.iconst 2, 1) := by decide +kernel
theorem dX9_change_5 : decode cX9_change 5 = .ok (.aload_n 0, 1) := by decide +kernel
theorem dX9_change_6 : decode cX9_change 6 = .ok (.getfield 41, 3) := by decide +kernel
theorem dX9_change_9 : decode cX9_change 9 = .ok (.iload_n 1, 1) := by decide +kernel
theorem dX9_change_10 : decode cX9_change 10 = .ok (.iaload, 1) := by decide +kernel
theorem dX9_change_11 : decode cX9_change 11 = .ok (.iconst 4, 1) := by decide +kernel
theorem dX9_change_12 : decode cX9_change 12 = .ok (.idiv, 1) := by decide +kernel
theorem dX9_change_13 : decode cX9_change 13 = .ok (.imul, 1) := by decide +kernel
theorem dX9_change_14 : decode cX9_change 14 = .ok (.isub, 1) := by decide +kernel
theorem dX9_change_15 : decode cX9_change 15 = .ok (.aload_n 0, 1) := by decide +kernel
theorem dX9_change_16 : decode cX9_change 16 = .ok (.getfield 125, 3) := by decide +kernel
theorem dX9_change_19 : decode cX9_change 19 = .ok (.isub, 1) := by decide +kernel
theorem dX9_change_20 : decode cX9_change 20 = .ok (.istore_n 3, 1) := by decide +kernel
theorem dX9_change_21 : decode cX9_change 21 = .ok (.iload_n 2, 1) := by decide +kernel
theorem dX9_change_22 : decode cX9_change 22 = .ok (.bipush 119, 2) := by decide +kernel
theorem dX9_change_24 : decode cX9_change 24 = .ok (.if_icmp .ne 8, 3) := by decide +kernel
theorem dX9_change_27 : decode cX9_change 27 = .ok (.bipush (-2), 2) := by decide +kernel
theorem dX9_change_29 : decode cX9_change 29 = .ok (.goto 78, 3) := by decide +kernel
theorem dX9_change_32 : decode cX9_change 32 = .ok (.iload_n 2, 1) := by decide +kernel
theorem dX9_change_33 : decode cX9_change 33 = .ok (.bipush 104, 2) := by decide +kernel
theorem dX9_change_35 : decode cX9_change 35 = .ok (.if_icmp .ne 7, 3) := by decide +kernel
theorem dX9_change_38 : decode cX9_change 38 = .ok (.iconst 3, 1) := by decide +kernel
theorem dX9_change_39 : decode cX9_change 39 = .ok (.goto 68, 3) := by decide +kernel
theorem dX9_change_42 : decode cX9_change 42 = .ok (.iload_n 2, 1) := by decide +kernel
theorem dX9_change_43 : decode cX9_change 43 = .ok (.bipush 111, 2) := by decide +kernel
theorem dX9_change_45 : decode cX9_change 45 = .ok (.if_icmp .ne 7, 3) := by decide +kernel
theorem dX9_change_48 : decode cX9_change 48 = .ok (.iconst 1, 1) := by decide +kernel
theorem dX9_change_49 : decode cX9_change 49 = .ok (.goto 58, 3) := by decide +kernel
theorem dX9_change_52 : decode cX9_change 52 = .ok (.iload_n 2, 1) := by decide +kernel
theorem dX9_change_53 : decode cX9_change 53 = .ok (.bipush 110, 2) := by decide +kernel
theorem dX9_change_55 : decode cX9_change 55 = .ok (.if_icmp .ne 23, 3) := by decide +kernel
theorem dX9_change_58 : decode cX9_change 58 = .ok (.aload_n 0, 1) := by decide +kernel
theorem dX9_change_59 : decode cX9_change 59 = .ok (.aload_n 0, 1) := by decide +kernel
theorem dX9_change_60 : decode cX9_change 60 = .ok (.getfield 128, 3) := by decide +kernel
theorem dX9_change_63 : decode cX9_change 63 = .ok (.invokevirtual 131, 3) := by decide +kernel
theorem dX9_change_66 : decode cX9_change 66 = .ok (.iload_n 1, 1) := by decide +kernel
theorem dX9_change_67 : decode cX9_change 67 = .ok (.if_icmp .ne 7, 3) := by decide +kernel
theorem dX9_change_70 : decode cX9_change 70 = .ok (.iconst 5, 1) := by decide +kernel
theorem dX9_change_71 : decode cX9_change 71 = .ok (.goto 36, 3) := by decide +kernel
theorem dX9_change_74 : decode cX9_change 74 = .ok (.iconst 0, 1) := by decide +kernel
theorem dX9_change_75 : decode cX9_change 75 = .ok (.goto 32, 3) := by decide +kernel
theorem dX9_change_78 : decode cX9_change 78 = .ok (.iload_n 2, 1) := by decide +kernel
theorem dX9_change_79 : decode cX9_change 79 = .ok (.bipush 115, 2) := by decide +kernel
theorem dX9_change_81 : decode cX9_change 81 = .ok (.if_icmp .ne 15, 3) := by decide +kernel
theorem dX9_change_84 : decode cX9_change 84 = .ok (.iload_n 3, 1) := by decide +kernel
theorem dX9_change_85 : decode cX9_change 85 = .ok (.ifCond .le 7, 3) := by decide +kernel
theorem dX9_change_88 : decode cX9_change 88 = .ok (.iload_n 3, 1) := by decide +kernel
theorem dX9_change_89 : decode cX9_change 89 = .ok (.goto 18, 3) := by decide +kernel
theorem dX9_change_92 : decode cX9_change 92 = .ok (.iconst 0, 1) := by decide +kernel
theorem dX9_change_93 : decode cX9_change 93 = .ok (.goto 14, 3) := by decide +kernel
theorem dX9_change_96 : decode cX9_change 96 = .ok (.iload_n 2, 1) := by decide +kernel
theorem dX9_change_97 : decode cX9_change 97 = .ok (.bipush 126, 2) := by decide +kernel
theorem dX9_change_99 : decode cX9_change 99 = .ok (.if_icmp .ne 7, 3) := by decide +kernel
theorem dX9_change_102 : decode cX9_change 102 = .ok (.iconst 2, 1) := by decide +kernel
theorem dX9_change_103 : decode cX9_change 103 = .ok (.goto 4, 3) := by decide +kernel
theorem dX9_change_106 : decode cX9_change 106 = .ok (.iconst 0, 1) := by decide +kernel
theorem dX9_change_107 : decode cX9_change 107 = .ok (.ireturn, 1) := by decide +kernel
theorem dX9_minute_0 : decode cX9_minute 0 = .ok (.aload_n 0, 1) := by decide +kernel
theorem dX9_minute_1 : decode cX9_minute 1 = .ok (.getfield 38, 3) := by decide +kernel
theorem dX9_minute_4 : decode cX9_minute 4 = .ok (.iload_n 1, 1) := by decide +kernel
theorem dX9_minute_5 : decode cX9_minute 5 = .ok (.iaload, 1) := by decide +kernel
theorem dX9_minute_6 : decode cX9_minute 6 = .ok (.istore_n 2, 1) := by decide +kernel
theorem dX9_minute_7 : decode cX9_minute 7 = .ok (.iconst 0, 1) := by decide +kernel
theorem dX9_minute_8 : decode cX9_minute 8 = .ok (.istore_n 3, 1) := by decide +kernel
theorem dX9_minute_9 : decode cX9_minute 9 = .ok (.iconst 0, 1) := by decide +kernel
theorem dX9_minute_10 : decode cX9_minute 10 = .ok (.istore 4, 2) := by decide +kernel
theorem dX9_minute_12 : decode cX9_minute 12 = .ok (.iconst 0, 1) := by decide +kernel
theorem dX9_minute_13 : decode cX9_minute 13 = .ok (.istore 5, 2) := by decide +kernel
theorem dX9_minute_15 : decode cX9_minute 15 = .ok (.iload 5, 2) := by decide +kernel
theorem dX9_minute_17 : decode cX9_minute 17 = .ok (.bipush 8, 2) := by decide +kernel
theorem dX9_minute_19 : decode cX9_minute 19 = .ok (.if_icmp .ge 193, 3) := by decide +kernel
theorem dX9_minute_22 : decode cX9_minute 22 = .ok (.aload_n 0, 1) := by decide +kernel
theorem dX9_minute_23 : decode cX9_minute 23 = .ok (.getfield 72, 3) := by decide +kernel
theorem dX9_minute_26 : decode cX9_minute 26 = .ok (.iload 5, 2) := by decide +kernel
theorem dX9_minute_28 : decode cX9_minute 28 = .ok (.invokestatic 79, 3) := by decide +kernel
theorem dX9_minute_31 : decode cX9_minute 31 = .ok (.ifCond .eq 175, 3) := by decide +kernel
theorem dX9_minute_34 : decode cX9_minute 34 = .ok (.aload_n 0, 1) := by decide +kernel
theorem dX9_minute_35 : decode cX9_minute 35 = .ok (.getfield 44, 3) := by decide +kernel
theorem dX9_minute_38 : decode cX9_minute 38 = .ok (.iload 5, 2) := by decide +kernel
theorem dX9_minute_40 : decode cX9_minute 40 = .ok (.iaload, 1) := by decide +kernel
theorem dX9_minute_41 : decode cX9_minute 41 = .ok (.aload_n 0, 1) := by decide +kernel
theorem dX9_minute_42 : decode cX9_minute 42 = .ok (.iload 5, 2) := by decide +kernel
theorem dX9_minute_44 : decode cX9_minute 44 = .ok (.iload_n 2, 1) := by decide +kernel
theorem dX9_minute_45 : decode cX9_minute 45 = .ok (.invokevirtual 134, 3) := by decide +kernel
theorem dX9_minute_48 : decode cX9_minute 48 = .ok (.iadd, 1) := by decide +kernel
theorem dX9_minute_49 : decode cX9_minute 49 = .ok (.aload_n 0, 1) := by decide +kernel
theorem dX9_minute_50 : decode cX9_minute 50 = .ok (.getfield 122, 3) := by decide +kernel
theorem dX9_minute_53 : decode cX9_minute 53 = .ok (.iload_n 1, 1) := by decide +kernel
theorem dX9_minute_54 : decode cX9_minute 54 = .ok (.invokestatic 79, 3) := by decide +kernel
theorem dX9_minute_57 : decode cX9_minute 57 = .ok (.ifCond .eq 7, 3) := by decide +kernel
theorem dX9_minute_60 : decode cX9_minute 60 = .ok (.iconst 0, 1) := by decide +kernel
theorem dX9_minute_61 : decode cX9_minute 61 = .ok (.goto 10, 3) := by decide +kernel
theorem dX9_minute_64 : decode cX9_minute 64 = .ok (.aload_n 0, 1) := by decide +kernel
theorem dX9_minute_65 : decode cX9_minute 65 = .ok (.getfield 20, 3) := by decide +kernel
theorem dX9_minute_68 : decode cX9_minute 68 = .ok (.iload 5, 2) := by decide +kernel
theorem dX9_minute_70 : decode cX9_minute 70 = .ok (.iaload, 1) := by decide +kernel
theorem dX9_minute_71 : decode cX9_minute 71 = .ok (.isub, 1) := by decide +kernel
theorem dX9_minute_72 : decode cX9_minute 72 = .ok (.istore 6, 2) := by decide +kernel
theorem dX9_minute_74 : decode cX9_minute 74 = .ok (.aload_n 0, 1) := by decide +kernel
theorem dX9_minute_75 : decode cX9_minute 75 = .ok (.getfield 44, 3) := by decide +kernel
theorem dX9_minute_78 : decode cX9_minute 78 = .ok (.iload 5, 2) := by decide +kernel
theorem dX9_minute_80 : decode cX9_minute 80 = .ok (.iload 6, 2) := by decide +kernel
theorem dX9_minute_82 : decode cX9_minute 82 = .ok (.ifCond .ge 7, 3) := by decide +kernel
theorem dX9_minute_85 : decode cX9_minute 85 = .ok (.iconst 0, 1) := by decide +kernel
theorem dX9_minute_86 : decode cX9_minute 86 = .ok (.goto 27, 3) := by decide +kernel
theorem dX9_minute_89 : decode cX9_minute 89 = .ok (.iload 6, 2) := by decide +kernel
theorem dX9_minute_91 : decode cX9_minute 91 = .ok (.aload_n 0, 1) := by decide +kernel
theorem dX9_minute_92 : decode cX9_minute 92 = .ok (.getfield 17, 3) := by decide +kernel
theorem dX9_minute_95 : decode cX9_minute 95 = .ok (.iload 5, 2) := by decide +kernel
theorem dX9_minute_97 : decode cX9_minute 97 = .ok (.iaload, 1) := by decide +kernel
theorem dX9_minute_98 : decode cX9_minute 98 = .ok (.if_icmp .le 13, 3) := by decide +kernel
theorem dX9_minute_101 : decode cX9_minute 101 = .ok (.aload_n 0, 1) := by decide +kernel
theorem dX9_minute_102 : decode cX9_minute 102 = .ok (.getfield 17, 3) := by decide +kernel
theorem dX9_minute_105 : decode cX9_minute 105 = .ok (.iload 5, 2) := by decide +kernel
theorem dX9_minute_107 : decode cX9_minute 107 = .ok (.iaload, 1) := by decide +kernel
theorem dX9_minute_108 : decode cX9_minute 108 = .ok (.goto 5, 3) := by decide +kernel
theorem dX9_minute_111 : decode cX9_minute 111 = .ok (.iload 6, 2) := by decide +kernel
theorem dX9_minute_113 : decode cX9_minute 113 = .ok (.iastore, 1) := by decide +kernel
theorem dX9_minute_114 : decode cX9_minute 114 = .ok (.aload_n 0, 1) := by decide +kernel
theorem dX9_minute_115 : decode cX9_minute 115 = .ok (.getfield 44, 3) := by decide +kernel
theorem dX9_minute_118 : decode cX9_minute 118 = .ok (.iload 5, 2) := by decide +kernel
theorem dX9_minute_120 : decode cX9_minute 120 = .ok (.iaload, 1) := by decide +kernel
theorem dX9_minute_121 : decode cX9_minute 121 = .ok (.ifCond .ne 19, 3) := by decide +kernel
theorem dX9_minute_124 : decode cX9_minute 124 = .ok (.aload_n 0, 1) := by decide +kernel
theorem dX9_minute_125 : decode cX9_minute 125 = .ok (.getfield 116, 3) := by decide +kernel
theorem dX9_minute_128 : decode cX9_minute 128 = .ok (.iload 5, 2) := by decide +kernel
theorem dX9_minute_130 : decode cX9_minute 130 = .ok (.invokestatic 79, 3) := by decide +kernel
theorem dX9_minute_133 : decode cX9_minute 133 = .ok (.ifCond .ne 7, 3) := by decide +kernel
theorem dX9_minute_136 : decode cX9_minute 136 = .ok (.iconst 1, 1) := by decide +kernel
theorem dX9_minute_137 : decode cX9_minute 137 = .ok (.goto 4, 3) := by decide +kernel
theorem dX9_minute_140 : decode cX9_minute 140 = .ok (.iconst 0, 1) := by decide +kernel
theorem dX9_minute_141 : decode cX9_minute 141 = .ok (.istore 7, 2) := by decide +kernel
theorem dX9_minute_143 : decode cX9_minute 143 = .ok (.iload_n 3, 1) := by decide +kernel
theorem dX9_minute_144 : decode cX9_minute 144 = .ok (.iload 7, 2) := by decide +kernel
theorem dX9_minute_146 : decode cX9_minute 146 = .ok (.ifCond .eq 10, 3) := by decide +kernel
theorem dX9_minute_149 : decode cX9_minute 149 = .ok (.iconst 1, 1) := by decide +kernel
theorem dX9_minute_150 : decode cX9_minute 150 = .ok (.iload 5, 2) := by decide +kernel
theorem dX9_minute_152 : decode cX9_minute 152 = .ok (.ishl, 1) := by decide +kernel
theorem dX9_minute_153 : decode cX9_minute 153 = .ok (.goto 4, 3) := by decide +kernel
theorem dX9_minute_156 : decode cX9_minute 156 = .ok (.iconst 0, 1) := by decide +kernel
theorem dX9_minute_157 : decode cX9_minute 157 = .ok (.ior, 1) := by decide +kernel
theorem dX9_minute_158 : decode cX9_minute 158 = .ok (.istore_n 3, 1) := by decide +kernel
theorem dX9_minute_159 : decode cX9_minute 159 = .ok (.iload 4, 2) := by decide +kernel
theorem dX9_minute_161 : decode cX9_minute 161 = .ok (.iload_n 2, 1) := by decide +kernel
theorem dX9_minute_162 : decode cX9_minute 162 = .ok (.bipush 99, 2) := by decide +kernel
theorem dX9_minute_164 : decode cX9_minute 164 = .ok (.if_icmp .ne 38, 3) := by decide +kernel
theorem dX9_minute_167 : decode cX9_minute 167 = .ok (.aload_n 0, 1) := by decide +kernel
theorem dX9_minute_168 : decode cX9_minute 168 = .ok (.getfield 23, 3) := by decide +kernel
theorem dX9_minute_171 : decode cX9_minute 171 = .ok (.iload 5, 2) := by decide +kernel
theorem dX9_minute_173 : decode cX9_minute 173 = .ok (.iaload, 1) := by decide +kernel
theorem dX9_minute_174 : decode cX9_minute 174 = .ok (.iconst 1, 1) := by decide +kernel
theorem dX9_minute_175 : decode cX9_minute 175 = .ok (.if_icmp .ne 27, 3) := by decide +kernel
theorem dX9_minute_178 : decode cX9_minute 178 = .ok (.aload_n 0, 1) := by decide +kernel
theorem dX9_minute_179 : decode cX9_minute 179 = .ok (.getfield 116, 3) := by decide +kernel
theorem dX9_minute_182 : decode cX9_minute 182 = .ok (.iload 5, 2) := by decide +kernel
theorem dX9_minute_184 : decode cX9_minute 184 = .ok (.invokestatic 79, 3) := by decide +kernel
theorem dX9_minute_187 : decode cX9_minute 187 = .ok (.ifCond .ne 15, 3) := by decide +kernel
theorem dX9_minute_190 : decode cX9_minute 190 = .ok (.iload 7, 2) := by decide +kernel
theorem dX9_minute_192 : decode cX9_minute 192 = .ok (.ifCond .ne 10, 3) := by decide +kernel
theorem dX9_minute_195 : decode cX9_minute 195 = .ok (.iconst 1, 1) := by decide +kernel
theorem dX9_minute_196 : decode cX9_minute 196 = .ok (.iload 5, 2) := by decide +kernel
theorem dX9_minute_198 : decode cX9_minute 198 = .ok (.ishl, 1) := by decide +kernel
theorem dX9_minute_199 : decode cX9_minute 199 = .ok (.goto 4, 3) := by decide +kernel
theorem dX9_minute_202 : decode cX9_minute 202 = .ok (.iconst 0, 1) := by decide +kernel
theorem dX9_minute_203 : decode cX9_minute 203 = .ok (.ior, 1) := by decide +kernel
theorem dX9_minute_204 : decode cX9_minute 204 = .ok (.istore 4, 2) := by decide +kernel
theorem dX9_minute_206 : decode cX9_minute 206 = .ok (.iinc 5 1, 3) := by decide +kernel
theorem dX9_minute_209 : decode cX9_minute 209 = .ok (.goto (-194), 3) := by decide +kernel
theorem dX9_minute_212 : decode cX9_minute 212 = .ok (.iconst 0, 1) := by decide +kernel
theorem dX9_minute_213 : decode cX9_minute 213 = .ok (.istore 5, 2) := by decide +kernel
theorem dX9_minute_215 : decode cX9_minute 215 = .ok (.iconst 0, 1) := by decide +kernel
theorem dX9_minute_216 : decode cX9_minute 216 = .ok (.istore 6, 2) := by decide +kernel
theorem dX9_minute_218 : decode cX9_minute 218 = .ok (.iload 6, 2) := by decide +kernel
theorem dX9_minute_220 : decode cX9_minute 220 = .ok (.bipush 8, 2) := by decide +kernel
theorem dX9_minute_222 : decode cX9_minute 222 = .ok (.if_icmp .ge 187, 3) := by decide +kernel
theorem dX9_minute_225 : decode cX9_minute 225 = .ok (.aload_n 0, 1) := by decide +kernel
theorem dX9_minute_226 : decode cX9_minute 226 = .ok (.iload 6, 2) := by decide +kernel
theorem dX9_minute_228 : decode cX9_minute 228 = .ok (.iconst (-1), 1) := by decide +kernel
theorem dX9_minute_229 : decode cX9_minute 229 = .ok (.invokevirtual 138, 3) := by decide +kernel
theorem dX9_minute_232 : decode cX9_minute 232 = .ok (.istore 7, 2) := by decide +kernel
theorem dX9_minute_234 : decode cX9_minute 234 = .ok (.aload_n 0, 1) := by decide +kernel
theorem dX9_minute_235 : decode cX9_minute 235 = .ok (.iload 6, 2) := by decide +kernel
theorem dX9_minute_237 : decode cX9_minute 237 = .ok (.iconst 1, 1) := by decide +kernel
theorem dX9_minute_238 : decode cX9_minute 238 = .ok (.invokevirtual 138, 3) := by decide +kernel
theorem dX9_minute_241 : decode cX9_minute 241 = .ok (.istore 8, 2) := by decide +kernel
theorem dX9_minute_243 : decode cX9_minute 243 = .ok (.iload_n 3, 1) := by decide +kernel
theorem dX9_minute_244 : decode cX9_minute 244 = .ok (.iload 6, 2) := by decide +kernel
theorem dX9_minute_246 : decode cX9_minute 246 = .ok (.invokestatic 79, 3) := by decide +kernel
theorem dX9_minute_249 : decode cX9_minute 249 = .ok (.ifCond .eq 135, 3) := by decide +kernel
theorem dX9_minute_252 : decode cX9_minute 252 = .ok (.iload 7, 2) := by decide +kernel
theorem dX9_minute_254 : decode cX9_minute 254 = .ok (.ifCond .lt 30, 3) := by decide +kernel
theorem dX9_minute_257 : decode cX9_minute 257 = .ok (.iload 8, 2) := by decide +kernel
theorem dX9_minute_259 : decode cX9_minute 259 = .ok (.ifCond .lt 25, 3) := by decide +kernel
theorem dX9_minute_262 : decode cX9_minute 262 = .ok (.iload_n 3, 1) := by decide +kernel
theorem dX9_minute_263 : decode cX9_minute 263 = .ok (.iload 7, 2) := by decide +kernel
theorem dX9_minute_265 : decode cX9_minute 265 = .ok (.invokestatic 79, 3) := by decide +kernel
theorem dX9_minute_268 : decode cX9_minute 268 = .ok (.ifCond .eq 16, 3) := by decide +kernel
theorem dX9_minute_271 : decode cX9_minute 271 = .ok (.iload_n 3, 1) := by decide +kernel
theorem dX9_minute_272 : decode cX9_minute 272 = .ok (.iload 8, 2) := by decide +kernel
theorem dX9_minute_274 : decode cX9_minute 274 = .ok (.invokestatic 79, 3) := by decide +kernel
theorem dX9_minute_277 : decode cX9_minute 277 = .ok (.ifCond .eq 7, 3) := by decide +kernel
theorem dX9_minute_280 : decode cX9_minute 280 = .ok (.iconst 1, 1) := by decide +kernel
theorem dX9_minute_281 : decode cX9_minute 281 = .ok (.goto 4, 3) := by decide +kernel
theorem dX9_minute_284 : decode cX9_minute 284 = .ok (.iconst 0, 1) := by decide +kernel
theorem dX9_minute_285 : decode cX9_minute 285 = .ok (.istore 9, 2) := by decide +kernel
theorem dX9_minute_287 : decode cX9_minute 287 = .ok (.iload 7, 2) := by decide +kernel
theorem dX9_minute_289 : decode cX9_minute 289 = .ok (.ifCond .lt 12, 3) := by decide +kernel
theorem dX9_minute_292 : decode cX9_minute 292 = .ok (.iload_n 3, 1) := by decide +kernel
theorem dX9_minute_293 : decode cX9_minute 293 = .ok (.iload 7, 2) := by decide +kernel
theorem dX9_minute_295 : decode cX9_minute 295 = .ok (.invokestatic 79, 3) := by decide +kernel
theorem dX9_minute_298 : decode cX9_minute 298 = .ok (.ifCond .eq 17, 3) := by decide +kernel
theorem dX9_minute_301 : decode cX9_minute 301 = .ok (.iload 8, 2) := by decide +kernel
theorem dX9_minute_303 : decode cX9_minute 303 = .ok (.ifCond .lt 16, 3) := by decide +kernel
theorem dX9_minute_306 : decode cX9_minute 306 = .ok (.iload_n 3, 1) := by decide +kernel
theorem dX9_minute_307 : decode cX9_minute 307 = .ok (.iload 8, 2) := by decide +kernel
theorem dX9_minute_309 : decode cX9_minute 309 = .ok (.invokestatic 79, 3) := by decide +kernel
theorem dX9_minute_312 : decode cX9_minute 312 = .ok (.ifCond .ne 7, 3) := by decide +kernel
theorem dX9_minute_315 : decode cX9_minute 315 = .ok (.iconst 1, 1) := by decide +kernel
theorem dX9_minute_316 : decode cX9_minute 316 = .ok (.goto 4, 3) := by decide +kernel
theorem dX9_minute_319 : decode cX9_minute 319 = .ok (.iconst 0, 1) := by decide +kernel
theorem dX9_minute_320 : decode cX9_minute 320 = .ok (.istore 10, 2) := by decide +kernel
theorem dX9_minute_322 : decode cX9_minute 322 = .ok (.iload 5, 2) := by decide +kernel
theorem dX9_minute_324 : decode cX9_minute 324 = .ok (.iload 9, 2) := by decide +kernel
theorem dX9_minute_326 : decode cX9_minute 326 = .ok (.ifCond .eq 10, 3) := by decide +kernel
theorem dX9_minute_329 : decode cX9_minute 329 = .ok (.iconst 1, 1) := by decide +kernel
theorem dX9_minute_330 : decode cX9_minute 330 = .ok (.iload 6, 2) := by decide +kernel
theorem dX9_minute_332 : decode cX9_minute 332 = .ok (.ishl, 1) := by decide +kernel
theorem dX9_minute_333 : decode cX9_minute 333 = .ok (.goto 4, 3) := by decide +kernel
theorem dX9_minute_336 : decode cX9_minute 336 = .ok (.iconst 0, 1) := by decide +kernel
theorem dX9_minute_337 : decode cX9_minute 337 = .ok (.ior, 1) := by decide +kernel
theorem dX9_minute_338 : decode cX9_minute 338 = .ok (.istore 5, 2) := by decide +kernel
theorem dX9_minute_340 : decode cX9_minute 340 = .ok (.aload_n 0, 1) := by decide +kernel
theorem dX9_minute_341 : decode cX9_minute 341 = .ok (.getfield 44, 3) := by decide +kernel
theorem dX9_minute_344 : decode cX9_minute 344 = .ok (.iload 6, 2) := by decide +kernel
theorem dX9_minute_346 : decode cX9_minute 346 = .ok (.iload 10, 2) := by decide +kernel
theorem dX9_minute_348 : decode cX9_minute 348 = .ok (.ifCond .ne 13, 3) := by decide +kernel
theorem dX9_minute_351 : decode cX9_minute 351 = .ok (.aload_n 0, 1) := by decide +kernel
theorem dX9_minute_352 : decode cX9_minute 352 = .ok (.getfield 44, 3) := by decide +kernel
theorem dX9_minute_355 : decode cX9_minute 355 = .ok (.iload 6, 2) := by decide +kernel
theorem dX9_minute_357 : decode cX9_minute 357 = .ok (.iaload, 1) := by decide +kernel
theorem dX9_minute_358 : decode cX9_minute 358 = .ok (.goto 25, 3) := by decide +kernel
theorem dX9_minute_361 : decode cX9_minute 361 = .ok (.aload_n 0, 1) := by decide +kernel
theorem dX9_minute_362 : decode cX9_minute 362 = .ok (.getfield 17, 3) := by decide +kernel
theorem dX9_minute_365 : decode cX9_minute 365 = .ok (.iload 6, 2) := by decide +kernel
theorem dX9_minute_367 : decode cX9_minute 367 = .ok (.iaload, 1) := by decide +kernel
theorem dX9_minute_368 : decode cX9_minute 368 = .ok (.iconst 2, 1) := by decide +kernel
theorem dX9_minute_369 : decode cX9_minute 369 = .ok (.if_icmp .ge 13, 3) := by decide +kernel
theorem dX9_minute_372 : decode cX9_minute 372 = .ok (.aload_n 0, 1) := by decide +kernel
theorem dX9_minute_373 : decode cX9_minute 373 = .ok (.getfield 17, 3) := by decide +kernel
theorem dX9_minute_376 : decode cX9_minute 376 = .ok (.iload 6, 2) := by decide +kernel
theorem dX9_minute_378 : decode cX9_minute 378 = .ok (.iaload, 1) := by decide +kernel
theorem dX9_minute_379 : decode cX9_minute 379 = .ok (.goto 4, 3) := by decide +kernel
theorem dX9_minute_382 : decode cX9_minute 382 = .ok (.iconst 2, 1) := by decide +kernel
theorem dX9_minute_383 : decode cX9_minute 383 = .ok (.iastore, 1) := by decide +kernel
theorem dX9_minute_384 : decode cX9_minute 384 = .ok (.aload_n 0, 1) := by decide +kernel
theorem dX9_minute_385 : decode cX9_minute 385 = .ok (.getfield 56, 3) := by decide +kernel
theorem dX9_minute_388 : decode cX9_minute 388 = .ok (.bipush 8, 2) := by decide +kernel
theorem dX9_minute_390 : decode cX9_minute 390 = .ok (.iload_n 1, 1) := by decide +kernel
theorem dX9_minute_391 : decode cX9_minute 391 = .ok (.imul, 1) := by decide +kernel
theorem dX9_minute_392 : decode cX9_minute 392 = .ok (.iload 6, 2) := by decide +kernel
theorem dX9_minute_394 : decode cX9_minute 394 = .ok (.iadd, 1) := by decide +kernel
theorem dX9_minute_395 : decode cX9_minute 395 = .ok (.aload_n 0, 1) := by decide +kernel
theorem dX9_minute_396 : decode cX9_minute 396 = .ok (.getfield 44, 3) := by decide +kernel
theorem dX9_minute_399 : decode cX9_minute 399 = .ok (.iload 6, 2) := by decide +kernel
theorem dX9_minute_401 : decode cX9_minute 401 = .ok (.iaload, 1) := by decide +kernel
theorem dX9_minute_402 : decode cX9_minute 402 = .ok (.iastore, 1) := by decide +kernel
theorem dX9_minute_403 : decode cX9_minute 403 = .ok (.iinc 6 1, 3) := by decide +kernel
theorem dX9_minute_406 : decode cX9_minute 406 = .ok (.goto (-188), 3) := by decide +kernel
theorem dX9_minute_409 : decode cX9_minute 409 = .ok (.aload_n 0, 1) := by decide +kernel
theorem dX9_minute_410 : decode cX9_minute 410 = .ok (.getfield 47, 3) := by decide +kernel
theorem dX9_minute_413 : decode cX9_minute 413 = .ok (.iload_n 1, 1) := by decide +kernel
theorem dX9_minute_414 : decode cX9_minute 414 = .ok (.iload_n 3, 1) := by decide +kernel
theorem dX9_minute_415 : decode cX9_minute 415 = .ok (.iastore, 1) := by decide +kernel
theorem dX9_minute_416 : decode cX9_minute 416 = .ok (.aload_n 0, 1) := by decide +kernel
theorem dX9_minute_417 : decode cX9_minute 417 = .ok (.getfield 50, 3) := by decide +kernel
theorem dX9_minute_420 : decode cX9_minute 420 = .ok (.iload_n 1, 1) := by decide +kernel
theorem dX9_minute_421 : decode cX9_minute 421 = .ok (.iload 4, 2) := by decide +kernel
theorem dX9_minute_423 : decode cX9_minute 423 = .ok (.iastore, 1) := by decide +kernel
theorem dX9_minute_424 : decode cX9_minute 424 = .ok (.aload_n 0, 1) := by decide +kernel
theorem dX9_minute_425 : decode cX9_minute 425 = .ok (.getfield 53, 3) := by decide +kernel
theorem dX9_minute_428 : decode cX9_minute 428 = .ok (.iload_n 1, 1) := by decide +kernel
theorem dX9_minute_429 : decode cX9_minute 429 = .ok (.iload 5, 2) := by decide +kernel
theorem dX9_minute_431 : decode cX9_minute 431 = .ok (.iastore, 1) := by decide +kernel
theorem dX9_minute_432 : decode cX9_minute 432 = .ok (.aload_n 0, 1) := by decide +kernel
theorem dX9_minute_433 : decode cX9_minute 433 = .ok (.dup, 1) := by decide +kernel
theorem dX9_minute_434 : decode cX9_minute 434 = .ok (.getfield 125, 3) := by decide +kernel
theorem dX9_minute_437 : decode cX9_minute 437 = .ok (.iload_n 2, 1) := by decide +kernel
theorem dX9_minute_438 : decode cX9_minute 438 = .ok (.bipush 115, 2) := by decide +kernel
theorem dX9_minute_440 : decode cX9_minute 440 = .ok (.if_icmp .ne 7, 3) := by decide +kernel
theorem dX9_minute_443 : decode cX9_minute 443 = .ok (.iconst 1, 1) := by decide +kernel
theorem dX9_minute_444 : decode cX9_minute 444 = .ok (.goto 4, 3) := by decide +kernel
theorem dX9_minute_447 : decode cX9_minute 447 = .ok (.iconst 0, 1) := by decide +kernel
theorem dX9_minute_448 : decode cX9_minute 448 = .ok (.iadd, 1) := by decide +kernel
theorem dX9_minute_449 : decode cX9_minute 449 = .ok (.putfield 125, 3) := by decide +kernel
theorem dX9_minute_452 : decode cX9_minute 452 = .ok (.aload_n 0, 1) := by decide +kernel
theorem dX9_minute_453 : decode cX9_minute 453 = .ok (.dup, 1) := by decide +kernel
theorem dX9_minute_454 : decode cX9_minute 454 = .ok (.getfield 128, 3) := by decide +kernel
theorem dX9_minute_457 : decode cX9_minute 457 = .ok (.iload_n 2, 1) := by decide +kernel
theorem dX9_minute_458 : decode cX9_minute 458 = .ok (.bipush 110, 2) := by decide +kernel
theorem dX9_minute_460 : decode cX9_minute 460 = .ok (.if_icmp .ne 7, 3) := by decide +kernel
theorem dX9_minute_463 : decode cX9_minute 463 = .ok (.iconst 1, 1) := by decide +kernel
theorem dX9_minute_464 : decode cX9_minute 464 = .ok (.goto 4, 3) := by decide +kernel
theorem dX9_minute_467 : decode cX9_minute 467 = .ok (.iconst 0, 1) := by decide +kernel
theorem dX9_minute_468 : decode cX9_minute 468 = .ok (.iadd, 1) := by decide +kernel
theorem dX9_minute_469 : decode cX9_minute 469 = .ok (.putfield 128, 3) := by decide +kernel
theorem dX9_minute_472 : decode cX9_minute 472 = .ok (.return_, 1) := by decide +kernel
theorem dX9_preach_0 : decode cX9_preach 0 = .ok (.aload_n 0, 1) := by decide +kernel
theorem dX9_preach_1 : decode cX9_preach 1 = .ok (.iconst 0, 1) := by decide +kernel
theorem dX9_preach_2 : decode cX9_preach 2 = .ok (.putfield 125, 3) := by decide +kernel
theorem dX9_preach_5 : decode cX9_preach 5 = .ok (.aload_n 0, 1) := by decide +kernel
theorem dX9_preach_6 : decode cX9_preach 6 = .ok (.iconst 0, 1) := by decide +kernel
theorem dX9_preach_7 : decode cX9_preach 7 = .ok (.putfield 128, 3) := by decide +kernel
theorem dX9_preach_10 : decode cX9_preach 10 = .ok (.aload_n 0, 1) := by decide +kernel
theorem dX9_preach_11 : decode cX9_preach 11 = .ok (.iconst 0, 1) := by decide +kernel
theorem dX9_preach_12 : decode cX9_preach 12 = .ok (.putfield 141, 3) := by decide +kernel
theorem dX9_preach_15 : decode cX9_preach 15 = .ok (.aload_n 0, 1) := by decide +kernel
theorem dX9_preach_16 : decode cX9_preach 16 = .ok (.iconst 0, 1) := by decide +kernel
theorem dX9_preach_17 : decode cX9_preach 17 = .ok (.putfield 144, 3) := by decide +kernel
theorem dX9_preach_20 : decode cX9_preach 20 = .ok (.aload_n 0, 1) := by decide +kernel
theorem dX9_preach_21 : decode cX9_preach 21 = .ok (.iconst 0, 1) := by decide +kernel
theorem dX9_preach_22 : decode cX9_preach 22 = .ok (.putfield 147, 3) := by decide +kernel
theorem dX9_preach_25 : decode cX9_preach 25 = .ok (.aload_n 0, 1) := by decide +kernel
theorem dX9_preach_26 : decode cX9_preach 26 = .ok (.iconst 0, 1) := by decide +kernel
theorem dX9_preach_27 : decode cX9_preach 27 = .ok (.putfield 150, 3) := by decide +kernel
theorem dX9_preach_30 : decode cX9_preach 30 = .ok (.aload_n 0, 1) := by decide +kernel
theorem dX9_preach_31 : decode cX9_preach 31 = .ok (.iconst 0, 1) := by decide +kernel
theorem dX9_preach_32 : decode cX9_preach 32 = .ok (.putfield 153, 3) := by decide +kernel
theorem dX9_preach_35 : decode cX9_preach 35 = .ok (.iconst 0, 1) := by decide +kernel
theorem dX9_preach_36 : decode cX9_preach 36 = .ok (.istore_n 2, 1) := by decide +kernel
theorem dX9_preach_37 : decode cX9_preach 37 = .ok (.iconst 0, 1) := by decide +kernel
theorem dX9_preach_38 : decode cX9_preach 38 = .ok (.istore_n 3, 1) := by decide +kernel
theorem dX9_preach_39 : decode cX9_preach 39 = .ok (.iload_n 3, 1) := by decide +kernel
theorem dX9_preach_40 : decode cX9_preach 40 = .ok (.bipush 8, 2) := by decide +kernel
theorem dX9_preach_42 : decode cX9_preach 42 = .ok (.if_icmp .ge 46, 3) := by decide +kernel
theorem dX9_preach_45 : decode cX9_preach 45 = .ok (.aload_n 0, 1) := by decide +kernel
theorem dX9_preach_46 : decode cX9_preach 46 = .ok (.getfield 44, 3) := by decide +kernel
theorem dX9_preach_49 : decode cX9_preach 49 = .ok (.iload_n 3, 1) := by decide +kernel
theorem dX9_preach_50 : decode cX9_preach 50 = .ok (.aload_n 0, 1) := by decide +kernel
theorem dX9_preach_51 : decode cX9_preach 51 = .ok (.getfield 17, 3) := by decide +kernel
theorem dX9_preach_54 : decode cX9_preach 54 = .ok (.iload_n 3, 1) := by decide +kernel
theorem dX9_preach_55 : decode cX9_preach 55 = .ok (.iaload, 1) := by decide +kernel
theorem dX9_preach_56 : decode cX9_preach 56 = .ok (.iastore, 1) := by decide +kernel
theorem dX9_preach_57 : decode cX9_preach 57 = .ok (.iload_n 2, 1) := by decide +kernel
theorem dX9_preach_58 : decode cX9_preach 58 = .ok (.aload_n 0, 1) := by decide +kernel
theorem dX9_preach_59 : decode cX9_preach 59 = .ok (.getfield 41, 3) := by decide +kernel
theorem dX9_preach_62 : decode cX9_preach 62 = .ok (.iload_n 3, 1) := by decide +kernel
theorem dX9_preach_63 : decode cX9_preach 63 = .ok (.iaload, 1) := by decide +kernel
theorem dX9_preach_64 : decode cX9_preach 64 = .ok (.iconst 4, 1) := by decide +kernel
theorem dX9_preach_65 : decode cX9_preach 65 = .ok (.idiv, 1) := by decide +kernel
theorem dX9_preach_66 : decode cX9_preach 66 = .ok (.aload_n 0, 1) := by decide +kernel
theorem dX9_preach_67 : decode cX9_preach 67 = .ok (.getfield 89, 3) := by decide +kernel
theorem dX9_preach_70 : decode cX9_preach 70 = .ok (.if_icmp .lt 9, 3) := by decide +kernel
theorem dX9_preach_73 : decode cX9_preach 73 = .ok (.iconst 1, 1) := by decide +kernel
theorem dX9_preach_74 : decode cX9_preach 74 = .ok (.iload_n 3, 1) := by decide +kernel
theorem dX9_preach_75 : decode cX9_preach 75 = .ok (.ishl, 1) := by decide +kernel
theorem dX9_preach_76 : decode cX9_preach 76 = .ok (.goto 4, 3) := by decide +kernel
theorem dX9_preach_79 : decode cX9_preach 79 = .ok (.iconst 0, 1) := by decide +kernel
theorem dX9_preach_80 : decode cX9_preach 80 = .ok (.ior, 1) := by decide +kernel
theorem dX9_preach_81 : decode cX9_preach 81 = .ok (.istore_n 2, 1) := by decide +kernel
theorem dX9_preach_82 : decode cX9_preach 82 = .ok (.iinc 3 1, 3) := by decide +kernel
theorem dX9_preach_85 : decode cX9_preach 85 = .ok (.goto (-46), 3) := by decide +kernel
theorem dX9_preach_88 : decode cX9_preach 88 = .ok (.iconst 0, 1) := by decide +kernel
theorem dX9_preach_89 : decode cX9_preach 89 = .ok (.istore_n 3, 1) := by decide +kernel
theorem dX9_preach_90 : decode cX9_preach 90 = .ok (.iload_n 3, 1) := by decide +kernel
theorem dX9_preach_91 : decode cX9_preach 91 = .ok (.iload_n 1, 1) := by decide +kernel
theorem dX9_preach_92 : decode cX9_preach 92 = .ok (.if_icmp .ge 161, 3) := by decide +kernel
theorem dX9_preach_95 : decode cX9_preach 95 = .ok (.aload_n 0, 1) := by decide +kernel
theorem dX9_preach_96 : decode cX9_preach 96 = .ok (.iload_n 3, 1) := by decide +kernel
theorem dX9_preach_97 : decode cX9_preach 97 = .ok (.invokevirtual 156, 3) := by decide +kernel
theorem dX9_preach_100 : decode cX9_preach 100 = .ok (.aload_n 0, 1) := by decide +kernel
theorem dX9_preach_101 : decode cX9_preach 101 = .ok (.getfield 47, 3) := by decide +kernel
theorem dX9_preach_104 : decode cX9_preach 104 = .ok (.iload_n 3, 1) := by decide +kernel
theorem dX9_preach_105 : decode cX9_preach 105 = .ok (.iaload, 1) := by decide +kernel
theorem dX9_preach_106 : decode cX9_preach 106 = .ok (.aload_n 0, 1) := by decide +kernel
theorem dX9_preach_107 : decode cX9_preach 107 = .ok (.getfield 50, 3) := by decide +kernel
theorem dX9_preach_110 : decode cX9_preach 110 = .ok (.iload_n 3, 1) := by decide +kernel
theorem dX9_preach_111 : decode cX9_preach 111 = .ok (.iaload, 1) := by decide +kernel
theorem dX9_preach_112 : decode cX9_preach 112 = .ok (.ior, 1) := by decide +kernel
theorem dX9_preach_113 : decode cX9_preach 113 = .ok (.istore 4, 2) := by decide +kernel
theorem dX9_preach_115 : decode cX9_preach 115 = .ok (.aload_n 0, 1) := by decide +kernel
theorem dX9_preach_116 : decode cX9_preach 116 = .ok (.dup, 1) := by decide +kernel
theorem dX9_preach_117 : decode cX9_preach 117 = .ok (.getfield 141, 3) := by decide +kernel
theorem dX9_preach_120 : decode cX9_preach 120 = .ok (.aload_n 0, 1) := by decide +kernel
theorem dX9_preach_121 : decode cX9_preach 121 = .ok (.getfield 47, 3) := by decide +kernel
theorem dX9_preach_124 : decode cX9_preach 124 = .ok (.iload_n 3, 1) := by decide +kernel
theorem dX9_preach_125 : decode cX9_preach 125 = .ok (.iaload, 1) := by decide +kernel
theorem dX9_preach_126 : decode cX9_preach 126 = .ok (.invokestatic 96, 3) := by decide +kernel
theorem dX9_preach_129 : decode cX9_preach 129 = .ok (.iadd, 1) := by decide +kernel
theorem dX9_preach_130 : decode cX9_preach 130 = .ok (.putfield 141, 3) := by decide +kernel
theorem dX9_preach_133 : decode cX9_preach 133 = .ok (.aload_n 0, 1) := by decide +kernel
theorem dX9_preach_134 : decode cX9_preach 134 = .ok (.dup, 1) := by decide +kernel
theorem dX9_preach_135 : decode cX9_preach 135 = .ok (.getfield 144, 3) := by decide +kernel
theorem dX9_preach_138 : decode cX9_preach 138 = .ok (.iload 4, 2) := by decide +kernel
theorem dX9_preach_140 : decode cX9_preach 140 = .ok (.invokestatic 96, 3) := by decide +kernel
theorem dX9_preach_143 : decode cX9_preach 143 = .ok (.iadd, 1) := by decide +kernel
theorem dX9_preach_144 : decode cX9_preach 144 = .ok (.putfield 144, 3) := by decide +kernel
theorem dX9_preach_147 : decode cX9_preach 147 = .ok (.aload_n 0, 1) := by decide +kernel
theorem dX9_preach_148 : decode cX9_preach 148 = .ok (.dup, 1) := by decide +kernel
theorem dX9_preach_149 : decode cX9_preach 149 = .ok (.getfield 147, 3) := by decide +kernel
theorem dX9_preach_152 : decode cX9_preach 152 = .ok (.aload_n 0, 1) := by decide +kernel
theorem dX9_preach_153 : decode cX9_preach 153 = .ok (.getfield 119, 3) := by decide +kernel
theorem dX9_preach_156 : decode cX9_preach 156 = .ok (.iload 4, 2) := by decide +kernel
theorem dX9_preach_158 : decode cX9_preach 158 = .ok (.iload_n 2, 1) := by decide +kernel
theorem dX9_preach_159 : decode cX9_preach 159 = .ok (.iand, 1) := by decide +kernel
theorem dX9_preach_160 : decode cX9_preach 160 = .ok (.invokestatic 96, 3) := by decide +kernel
theorem dX9_preach_163 : decode cX9_preach 163 = .ok (.imul, 1) := by decide +kernel
theorem dX9_preach_164 : decode cX9_preach 164 = .ok (.iadd, 1) := by decide +kernel
theorem dX9_preach_165 : decode cX9_preach 165 = .ok (.putfield 147, 3) := by decide +kernel
theorem dX9_preach_168 : decode cX9_preach 168 = .ok (.aload_n 0, 1) := by decide +kernel
theorem dX9_preach_169 : decode cX9_preach 169 = .ok (.dup, 1) := by decide +kernel
theorem dX9_preach_170 : decode cX9_preach 170 = .ok (.getfield 153, 3) := by decide +kernel
theorem dX9_preach_173 : decode cX9_preach 173 = .ok (.aload_n 0, 1) := by decide +kernel
theorem dX9_preach_174 : decode cX9_preach 174 = .ok (.getfield 53, 3) := by decide +kernel
theorem dX9_preach_177 : decode cX9_preach 177 = .ok (.iload_n 3, 1) := by decide +kernel
theorem dX9_preach_178 : decode cX9_preach 178 = .ok (.iaload, 1) := by decide +kernel
theorem dX9_preach_179 : decode cX9_preach 179 = .ok (.invokestatic 96, 3) := by decide +kernel
theorem dX9_preach_182 : decode cX9_preach 182 = .ok (.iadd, 1) := by decide +kernel
theorem dX9_preach_183 : decode cX9_preach 183 = .ok (.putfield 153, 3) := by decide +kernel
theorem dX9_preach_186 : decode cX9_preach 186 = .ok (.aload_n 0, 1) := by decide +kernel
theorem dX9_preach_187 : decode cX9_preach 187 = .ok (.getfield 38, 3) := by decide +kernel
theorem dX9_preach_190 : decode cX9_preach 190 = .ok (.iload_n 3, 1) := by decide +kernel
theorem dX9_preach_191 : decode cX9_preach 191 = .ok (.iaload, 1) := by decide +kernel
theorem dX9_preach_192 : decode cX9_preach 192 = .ok (.bipush 104, 2) := by decide +kernel
theorem dX9_preach_194 : decode cX9_preach 194 = .ok (.if_icmp .ne 7, 3) := by decide +kernel
theorem dX9_preach_197 : decode cX9_preach 197 = .ok (.iconst 1, 1) := by decide +kernel
theorem dX9_preach_198 : decode cX9_preach 198 = .ok (.goto 19, 3) := by decide +kernel
theorem dX9_preach_201 : decode cX9_preach 201 = .ok (.aload_n 0, 1) := by decide +kernel
theorem dX9_preach_202 : decode cX9_preach 202 = .ok (.getfield 38, 3) := by decide +kernel
theorem dX9_preach_205 : decode cX9_preach 205 = .ok (.iload_n 3, 1) := by decide +kernel
theorem dX9_preach_206 : decode cX9_preach 206 = .ok (.iaload, 1) := by decide +kernel
theorem dX9_preach_207 : decode cX9_preach 207 = .ok (.bipush 111, 2) := by decide +kernel
theorem dX9_preach_209 : decode cX9_preach 209 = .ok (.if_icmp .ne 7, 3) := by decide +kernel
theorem dX9_preach_212 : decode cX9_preach 212 = .ok (.iconst 2, 1) := by decide +kernel
theorem dX9_preach_213 : decode cX9_preach 213 = .ok (.goto 4, 3) := by decide +kernel
theorem dX9_preach_216 : decode cX9_preach 216 = .ok (.iconst 0, 1) := by decide +kernel
theorem dX9_preach_217 : decode cX9_preach 217 = .ok (.istore 5, 2) := by decide +kernel
theorem dX9_preach_219 : decode cX9_preach 219 = .ok (.aload_n 0, 1) := by decide +kernel
theorem dX9_preach_220 : decode cX9_preach 220 = .ok (.dup, 1) := by decide +kernel
theorem dX9_preach_221 : decode cX9_preach 221 = .ok (.getfield 150, 3) := by decide +kernel
theorem dX9_preach_224 : decode cX9_preach 224 = .ok (.iload 5, 2) := by decide +kernel
theorem dX9_preach_226 : decode cX9_preach 226 = .ok (.aload_n 0, 1) := by decide +kernel
theorem dX9_preach_227 : decode cX9_preach 227 = .ok (.getfield 72, 3) := by decide +kernel
theorem dX9_preach_230 : decode cX9_preach 230 = .ok (.aload_n 0, 1) := by decide +kernel
theorem dX9_preach_231 : decode cX9_preach 231 = .ok (.getfield 47, 3) := by decide +kernel
theorem dX9_preach_234 : decode cX9_preach 234 = .ok (.iload_n 3, 1) := by decide +kernel
theorem dX9_preach_235 : decode cX9_preach 235 = .ok (.iaload, 1) := by decide +kernel
theorem dX9_preach_236 : decode cX9_preach 236 = .ok (.iconst (-1), 1) := by decide +kernel
theorem dX9_preach_237 : decode cX9_preach 237 = .ok (.ixor, 1) := by decide +kernel
theorem dX9_preach_238 : decode cX9_preach 238 = .ok (.iand, 1) := by decide +kernel
theorem dX9_preach_239 : decode cX9_preach 239 = .ok (.invokestatic 96, 3) := by decide +kernel
theorem dX9_preach_242 : decode cX9_preach 242 = .ok (.imul, 1) := by decide +kernel
theorem dX9_preach_243 : decode cX9_preach 243 = .ok (.iadd, 1) := by decide +kernel
theorem dX9_preach_244 : decode cX9_preach 244 = .ok (.putfield 150, 3) := by decide +kernel
theorem dX9_preach_247 : decode cX9_preach 247 = .ok (.iinc 3 1, 3) := by decide +kernel
theorem dX9_preach_250 : decode cX9_preach 250 = .ok (.goto (-160), 3) := by decide +kernel
theorem dX9_preach_253 : decode cX9_preach 253 = .ok (.return_, 1) := by decide +kernel
theorem dX9_isMinute_0 : decode cX9_isMinute 0 = .ok (.iload_n 1, 1) := by decide +kernel
theorem dX9_isMinute_1 : decode cX9_isMinute 1 = .ok (.iconst (-1), 1) := by decide +kernel
theorem dX9_isMinute_2 : decode cX9_isMinute 2 = .ok (.aload_n 0, 1) := by decide +kernel
theorem dX9_isMinute_3 : decode cX9_isMinute 3 = .ok (.getfield 103, 3) := by decide +kernel
theorem dX9_isMinute_6 : decode cX9_isMinute 6 = .ok (.iconst 1, 1) := by decide +kernel
theorem dX9_isMinute_7 : decode cX9_isMinute 7 = .ok (.isub, 1) := by decide +kernel
theorem dX9_isMinute_8 : decode cX9_isMinute 8 = .ok (.invokestatic 75, 3) := by decide +kernel
theorem dX9_isMinute_11 : decode cX9_isMinute 11 = .ok (.ireturn, 1) := by decide +kernel
theorem dX9_heard_0 : decode cX9_heard 0 = .ok (.aload_n 0, 1) := by decide +kernel
theorem dX9_heard_1 : decode cX9_heard 1 = .ok (.iload_n 1, 1) := by decide +kernel
theorem dX9_heard_2 : decode cX9_heard 2 = .ok (.invokevirtual 99, 3) := by decide +kernel
theorem dX9_heard_5 : decode cX9_heard 5 = .ok (.ifCond .ne 5, 3) := by decide +kernel
theorem dX9_heard_8 : decode cX9_heard 8 = .ok (.iconst (-1), 1) := by decide +kernel
theorem dX9_heard_9 : decode cX9_heard 9 = .ok (.ireturn, 1) := by decide +kernel
theorem dX9_heard_10 : decode cX9_heard 10 = .ok (.iload_n 3, 1) := by decide +kernel
theorem dX9_heard_11 : decode cX9_heard 11 = .ok (.iconst 0, 1) := by decide +kernel
theorem dX9_heard_12 : decode cX9_heard 12 = .ok (.iconst 3, 1) := by decide +kernel
theorem dX9_heard_13 : decode cX9_heard 13 = .ok (.invokestatic 75, 3) := by decide +kernel
theorem dX9_heard_16 : decode cX9_heard 16 = .ok (.ifCond .ne 6, 3) := by decide +kernel
theorem dX9_heard_19 : decode cX9_heard 19 = .ok (.bipush (-2), 2) := by decide +kernel
theorem dX9_heard_21 : decode cX9_heard 21 = .ok (.ireturn, 1) := by decide +kernel
theorem dX9_heard_22 : decode cX9_heard 22 = .ok (.aload_n 0, 1) := by decide +kernel
theorem dX9_heard_23 : decode cX9_heard 23 = .ok (.invokevirtual 109, 3) := by decide +kernel
theorem dX9_heard_26 : decode cX9_heard 26 = .ok (.ifCond .lt 6, 3) := by decide +kernel
theorem dX9_heard_29 : decode cX9_heard 29 = .ok (.bipush (-5), 2) := by decide +kernel
theorem dX9_heard_31 : decode cX9_heard 31 = .ok (.ireturn, 1) := by decide +kernel
theorem dX9_heard_32 : decode cX9_heard 32 = .ok (.iload_n 2, 1) := by decide +kernel
theorem dX9_heard_33 : decode cX9_heard 33 = .ok (.iconst 0, 1) := by decide +kernel
theorem dX9_heard_34 : decode cX9_heard 34 = .ok (.aload_n 0, 1) := by decide +kernel
theorem dX9_heard_35 : decode cX9_heard 35 = .ok (.getfield 103, 3) := by decide +kernel
theorem dX9_heard_38 : decode cX9_heard 38 = .ok (.iconst 1, 1) := by decide +kernel
theorem dX9_heard_39 : decode cX9_heard 39 = .ok (.isub, 1) := by decide +kernel
theorem dX9_heard_40 : decode cX9_heard 40 = .ok (.invokestatic 75, 3) := by decide +kernel
theorem dX9_heard_43 : decode cX9_heard 43 = .ok (.ifCond .ne 6, 3) := by decide +kernel
theorem dX9_heard_46 : decode cX9_heard 46 = .ok (.bipush (-2), 2) := by decide +kernel
theorem dX9_heard_48 : decode cX9_heard 48 = .ok (.ireturn, 1) := by decide +kernel
theorem dX9_heard_49 : decode cX9_heard 49 = .ok (.aload_n 0, 1) := by decide +kernel
theorem dX9_heard_50 : decode cX9_heard 50 = .ok (.invokevirtual 160, 3) := by decide +kernel
theorem dX9_heard_53 : decode cX9_heard 53 = .ok (.aload_n 0, 1) := by decide +kernel
theorem dX9_heard_54 : decode cX9_heard 54 = .ok (.aload_n 0, 1) := by decide +kernel
theorem dX9_heard_55 : decode cX9_heard 55 = .ok (.getfield 103, 3) := by decide +kernel
theorem dX9_heard_58 : decode cX9_heard 58 = .ok (.invokevirtual 163, 3) := by decide +kernel
theorem dX9_heard_61 : decode cX9_heard 61 = .ok (.iload_n 3, 1) := by decide +kernel
theorem dX9_heard_62 : decode cX9_heard 62 = .ok (.ifCond .ne 17, 3) := by decide +kernel
theorem dX9_heard_65 : decode cX9_heard 65 = .ok (.aload_n 0, 1) := by decide +kernel
theorem dX9_heard_66 : decode cX9_heard 66 = .ok (.getfield 56, 3) := by decide +kernel
theorem dX9_heard_69 : decode cX9_heard 69 = .ok (.bipush 8, 2) := by decide +kernel
theorem dX9_heard_71 : decode cX9_heard 71 = .ok (.iload_n 2, 1) := by decide +kernel
theorem dX9_heard_72 : decode cX9_heard 72 = .ok (.imul, 1) := by decide +kernel
theorem dX9_heard_73 : decode cX9_heard 73 = .ok (.iload_n 1, 1) := by decide +kernel
theorem dX9_heard_74 : decode cX9_heard 74 = .ok (.iadd, 1) := by decide +kernel
theorem dX9_heard_75 : decode cX9_heard 75 = .ok (.iaload, 1) := by decide +kernel
theorem dX9_heard_76 : decode cX9_heard 76 = .ok (.goto 49, 3) := by decide +kernel
theorem dX9_heard_79 : decode cX9_heard 79 = .ok (.iload_n 3, 1) := by decide +kernel
theorem dX9_heard_80 : decode cX9_heard 80 = .ok (.iconst 1, 1) := by decide +kernel
theorem dX9_heard_81 : decode cX9_heard 81 = .ok (.if_icmp .ne 16, 3) := by decide +kernel
theorem dX9_heard_84 : decode cX9_heard 84 = .ok (.aload_n 0, 1) := by decide +kernel
theorem dX9_heard_85 : decode cX9_heard 85 = .ok (.getfield 47, 3) := by decide +kernel
theorem dX9_heard_88 : decode cX9_heard 88 = .ok (.iload_n 2, 1) := by decide +kernel
theorem dX9_heard_89 : decode cX9_heard 89 = .ok (.iaload, 1) := by decide +kernel
theorem dX9_heard_90 : decode cX9_heard 90 = .ok (.iload_n 1, 1) := by decide +kernel
theorem dX9_heard_91 : decode cX9_heard 91 = .ok (.ishr, 1) := by decide +kernel
theorem dX9_heard_92 : decode cX9_heard 92 = .ok (.iconst 1, 1) := by decide +kernel
theorem dX9_heard_93 : decode cX9_heard 93 = .ok (.iand, 1) := by decide +kernel
theorem dX9_heard_94 : decode cX9_heard 94 = .ok (.goto 31, 3) := by decide +kernel
theorem dX9_heard_97 : decode cX9_heard 97 = .ok (.iload_n 3, 1) := by decide +kernel
theorem dX9_heard_98 : decode cX9_heard 98 = .ok (.iconst 2, 1) := by decide +kernel
theorem dX9_heard_99 : decode cX9_heard 99 = .ok (.if_icmp .ne 16, 3) := by decide +kernel
theorem dX9_heard_102 : decode cX9_heard 102 = .ok (.aload_n 0, 1) := by decide +kernel
theorem dX9_heard_103 : decode cX9_heard 103 = .ok (.getfield 50, 3) := by decide +kernel
theorem dX9_heard_106 : decode cX9_heard 106 = .ok (.iload_n 2, 1) := by decide +kernel
theorem dX9_heard_107 : decode cX9_heard 107 = .ok (.iaload, 1) := by decide +kernel
theorem dX9_heard_108 : decode cX9_heard 108 = .ok (.iload_n 1, 1) := by decide +kernel
theorem dX9_heard_109 : decode cX9_heard 109 = .ok (.ishr, 1) := by decide +kernel
theorem dX9_heard_110 : decode cX9_heard 110 = .ok (.iconst 1, 1) := by decide +kernel
theorem dX9_heard_111 : decode cX9_heard 111 = .ok (.iand, 1) := by decide +kernel
theorem dX9_heard_112 : decode cX9_heard 112 = .ok (.goto 13, 3) := by decide +kernel
theorem dX9_heard_115 : decode cX9_heard 115 = .ok (.aload_n 0, 1) := by decide +kernel
theorem dX9_heard_116 : decode cX9_heard 116 = .ok (.getfield 53, 3) := by decide +kernel
theorem dX9_heard_119 : decode cX9_heard 119 = .ok (.iload_n 2, 1) := by decide +kernel
theorem dX9_heard_120 : decode cX9_heard 120 = .ok (.iaload, 1) := by decide +kernel
theorem dX9_heard_121 : decode cX9_heard 121 = .ok (.iload_n 1, 1) := by decide +kernel
theorem dX9_heard_122 : decode cX9_heard 122 = .ok (.ishr, 1) := by decide +kernel
theorem dX9_heard_123 : decode cX9_heard 123 = .ok (.iconst 1, 1) := by decide +kernel
theorem dX9_heard_124 : decode cX9_heard 124 = .ok (.iand, 1) := by decide +kernel
theorem dX9_heard_125 : decode cX9_heard 125 = .ok (.ireturn, 1) := by decide +kernel
theorem dX9_sum_0 : decode cX9_sum 0 = .ok (.iload_n 2, 1) := by decide +kernel
theorem dX9_sum_1 : decode cX9_sum 1 = .ok (.iconst 0, 1) := by decide +kernel
theorem dX9_sum_2 : decode cX9_sum 2 = .ok (.iconst 4, 1) := by decide +kernel
theorem dX9_sum_3 : decode cX9_sum 3 = .ok (.invokestatic 75, 3) := by decide +kernel
theorem dX9_sum_6 : decode cX9_sum 6 = .ok (.ifCond .ne 6, 3) := by decide +kernel
theorem dX9_sum_9 : decode cX9_sum 9 = .ok (.bipush (-2), 2) := by decide +kernel
theorem dX9_sum_11 : decode cX9_sum 11 = .ok (.ireturn, 1) := by decide +kernel
theorem dX9_sum_12 : decode cX9_sum 12 = .ok (.aload_n 0, 1) := by decide +kernel
theorem dX9_sum_13 : decode cX9_sum 13 = .ok (.invokevirtual 109, 3) := by decide +kernel
theorem dX9_sum_16 : decode cX9_sum 16 = .ok (.ifCond .lt 6, 3) := by decide +kernel
theorem dX9_sum_19 : decode cX9_sum 19 = .ok (.bipush (-5), 2) := by decide +kernel
theorem dX9_sum_21 : decode cX9_sum 21 = .ok (.ireturn, 1) := by decide +kernel
theorem dX9_sum_22 : decode cX9_sum 22 = .ok (.aload_n 0, 1) := by decide +kernel
theorem dX9_sum_23 : decode cX9_sum 23 = .ok (.iload_n 1, 1) := by decide +kernel
theorem dX9_sum_24 : decode cX9_sum 24 = .ok (.invokevirtual 166, 3) := by decide +kernel
theorem dX9_sum_27 : decode cX9_sum 27 = .ok (.ifCond .ne 6, 3) := by decide +kernel
theorem dX9_sum_30 : decode cX9_sum 30 = .ok (.bipush (-2), 2) := by decide +kernel
theorem dX9_sum_32 : decode cX9_sum 32 = .ok (.ireturn, 1) := by decide +kernel
theorem dX9_sum_33 : decode cX9_sum 33 = .ok (.aload_n 0, 1) := by decide +kernel
theorem dX9_sum_34 : decode cX9_sum 34 = .ok (.invokevirtual 160, 3) := by decide +kernel
theorem dX9_sum_37 : decode cX9_sum 37 = .ok (.aload_n 0, 1) := by decide +kernel
theorem dX9_sum_38 : decode cX9_sum 38 = .ok (.iload_n 1, 1) := by decide +kernel
theorem dX9_sum_39 : decode cX9_sum 39 = .ok (.ifCond .ge 10, 3) := by decide +kernel
theorem dX9_sum_42 : decode cX9_sum 42 = .ok (.aload_n 0, 1) := by decide +kernel
theorem dX9_sum_43 : decode cX9_sum 43 = .ok (.getfield 103, 3) := by decide +kernel
theorem dX9_sum_46 : decode cX9_sum 46 = .ok (.goto 6, 3) := by decide +kernel
theorem dX9_sum_49 : decode cX9_sum 49 = .ok (.iload_n 1, 1) := by decide +kernel
theorem dX9_sum_50 : decode cX9_sum 50 = .ok (.iconst 1, 1) := by decide +kernel
theorem dX9_sum_51 : decode cX9_sum 51 = .ok (.iadd, 1) := by decide +kernel
theorem dX9_sum_52 : decode cX9_sum 52 = .ok (.invokevirtual 163, 3) := by decide +kernel
theorem dX9_sum_55 : decode cX9_sum 55 = .ok (.iload_n 2, 1) := by decide +kernel
theorem dX9_sum_56 : decode cX9_sum 56 = .ok (.ifCond .ne 10, 3) := by decide +kernel
theorem dX9_sum_59 : decode cX9_sum 59 = .ok (.aload_n 0, 1) := by decide +kernel
theorem dX9_sum_60 : decode cX9_sum 60 = .ok (.getfield 141, 3) := by decide +kernel
theorem dX9_sum_63 : decode cX9_sum 63 = .ok (.goto 43, 3) := by decide +kernel
theorem dX9_sum_66 : decode cX9_sum 66 = .ok (.iload_n 2, 1) := by decide +kernel
theorem dX9_sum_67 : decode cX9_sum 67 = .ok (.iconst 1, 1) := by decide +kernel
theorem dX9_sum_68 : decode cX9_sum 68 = .ok (.if_icmp .ne 10, 3) := by decide +kernel
theorem dX9_sum_71 : decode cX9_sum 71 = .ok (.aload_n 0, 1) := by decide +kernel
theorem dX9_sum_72 : decode cX9_sum 72 = .ok (.getfield 144, 3) := by decide +kernel
theorem dX9_sum_75 : decode cX9_sum 75 = .ok (.goto 31, 3) := by decide +kernel
theorem dX9_sum_78 : decode cX9_sum 78 = .ok (.iload_n 2, 1) := by decide +kernel
theorem dX9_sum_79 : decode cX9_sum 79 = .ok (.iconst 2, 1) := by decide +kernel
theorem dX9_sum_80 : decode cX9_sum 80 = .ok (.if_icmp .ne 10, 3) := by decide +kernel
theorem dX9_sum_83 : decode cX9_sum 83 = .ok (.aload_n 0, 1) := by decide +kernel
theorem dX9_sum_84 : decode cX9_sum 84 = .ok (.getfield 147, 3) := by decide +kernel
theorem dX9_sum_87 : decode cX9_sum 87 = .ok (.goto 19, 3) := by decide +kernel
theorem dX9_sum_90 : decode cX9_sum 90 = .ok (.iload_n 2, 1) := by decide +kernel
theorem dX9_sum_91 : decode cX9_sum 91 = .ok (.iconst 3, 1) := by decide +kernel
theorem dX9_sum_92 : decode cX9_sum 92 = .ok (.if_icmp .ne 10, 3) := by decide +kernel
theorem dX9_sum_95 : decode cX9_sum 95 = .ok (.aload_n 0, 1) := by decide +kernel
theorem dX9_sum_96 : decode cX9_sum 96 = .ok (.getfield 150, 3) := by decide +kernel
theorem dX9_sum_99 : decode cX9_sum 99 = .ok (.goto 7, 3) := by decide +kernel
theorem dX9_sum_102 : decode cX9_sum 102 = .ok (.aload_n 0, 1) := by decide +kernel
theorem dX9_sum_103 : decode cX9_sum 103 = .ok (.getfield 153, 3) := by decide +kernel
theorem dX9_sum_106 : decode cX9_sum 106 = .ok (.ireturn, 1) := by decide +kernel
theorem dX9_first_0 : decode cX9_first 0 = .ok (.iload_n 1, 1) := by decide +kernel
theorem dX9_first_1 : decode cX9_first 1 = .ok (.iconst 0, 1) := by decide +kernel
theorem dX9_first_2 : decode cX9_first 2 = .ok (.iconst 1, 1) := by decide +kernel
theorem dX9_first_3 : decode cX9_first 3 = .ok (.invokestatic 75, 3) := by decide +kernel
theorem dX9_first_6 : decode cX9_first 6 = .ok (.ifCond .ne 6, 3) := by decide +kernel
theorem dX9_first_9 : decode cX9_first 9 = .ok (.bipush (-2), 2) := by decide +kernel
theorem dX9_first_11 : decode cX9_first 11 = .ok (.ireturn, 1) := by decide +kernel
theorem dX9_first_12 : decode cX9_first 12 = .ok (.aload_n 0, 1) := by decide +kernel
theorem dX9_first_13 : decode cX9_first 13 = .ok (.invokevirtual 109, 3) := by decide +kernel
theorem dX9_first_16 : decode cX9_first 16 = .ok (.ifCond .lt 6, 3) := by decide +kernel
theorem dX9_first_19 : decode cX9_first 19 = .ok (.bipush (-5), 2) := by decide +kernel
theorem dX9_first_21 : decode cX9_first 21 = .ok (.ireturn, 1) := by decide +kernel
theorem dX9_first_22 : decode cX9_first 22 = .ok (.aload_n 0, 1) := by decide +kernel
theorem dX9_first_23 : decode cX9_first 23 = .ok (.invokevirtual 160, 3) := by decide +kernel
theorem dX9_first_26 : decode cX9_first 26 = .ok (.aload_n 0, 1) := by decide +kernel
theorem dX9_first_27 : decode cX9_first 27 = .ok (.aload_n 0, 1) := by decide +kernel
theorem dX9_first_28 : decode cX9_first 28 = .ok (.getfield 103, 3) := by decide +kernel
theorem dX9_first_31 : decode cX9_first 31 = .ok (.invokevirtual 163, 3) := by decide +kernel
theorem dX9_first_34 : decode cX9_first 34 = .ok (.bipush (-6), 2) := by decide +kernel
theorem dX9_first_36 : decode cX9_first 36 = .ok (.istore_n 2, 1) := by decide +kernel
theorem dX9_first_37 : decode cX9_first 37 = .ok (.aload_n 0, 1) := by decide +kernel
theorem dX9_first_38 : decode cX9_first 38 = .ok (.getfield 103, 3) := by decide +kernel
theorem dX9_first_41 : decode cX9_first 41 = .ok (.iconst 1, 1) := by decide +kernel
theorem dX9_first_42 : decode cX9_first 42 = .ok (.isub, 1) := by decide +kernel
theorem dX9_first_43 : decode cX9_first 43 = .ok (.istore_n 3, 1) := by decide +kernel
theorem dX9_first_44 : decode cX9_first 44 = .ok (.iload_n 3, 1) := by decide +kernel
theorem dX9_first_45 : decode cX9_first 45 = .ok (.ifCond .lt 37, 3) := by decide +kernel
theorem dX9_first_48 : decode cX9_first 48 = .ok (.iload_n 1, 1) := by decide +kernel
theorem dX9_first_49 : decode cX9_first 49 = .ok (.ifCond .ne 12, 3) := by decide +kernel
theorem dX9_first_52 : decode cX9_first 52 = .ok (.aload_n 0, 1) := by decide +kernel
theorem dX9_first_53 : decode cX9_first 53 = .ok (.getfield 47, 3) := by decide +kernel
theorem dX9_first_56 : decode cX9_first 56 = .ok (.iload_n 3, 1) := by decide +kernel
theorem dX9_first_57 : decode cX9_first 57 = .ok (.iaload, 1) := by decide +kernel
theorem dX9_first_58 : decode cX9_first 58 = .ok (.goto 9, 3) := by decide +kernel
theorem dX9_first_61 : decode cX9_first 61 = .ok (.aload_n 0, 1) := by decide +kernel
theorem dX9_first_62 : decode cX9_first 62 = .ok (.getfield 53, 3) := by decide +kernel
theorem dX9_first_65 : decode cX9_first 65 = .ok (.iload_n 3, 1) := by decide +kernel
theorem dX9_first_66 : decode cX9_first 66 = .ok (.iaload, 1) := by decide +kernel
theorem dX9_first_67 : decode cX9_first 67 = .ok (.ifCond .eq 7, 3) := by decide +kernel
theorem dX9_first_70 : decode cX9_first 70 = .ok (.iload_n 3, 1) := by decide +kernel
theorem dX9_first_71 : decode cX9_first 71 = .ok (.goto 4, 3) := by decide +kernel
theorem dX9_first_74 : decode cX9_first 74 = .ok (.iload_n 2, 1) := by decide +kernel
theorem dX9_first_75 : decode cX9_first 75 = .ok (.istore_n 2, 1) := by decide +kernel
theorem dX9_first_76 : decode cX9_first 76 = .ok (.iinc 3 (-1), 3) := by decide +kernel
theorem dX9_first_79 : decode cX9_first 79 = .ok (.goto (-35), 3) := by decide +kernel
theorem dX9_first_82 : decode cX9_first 82 = .ok (.iload_n 2, 1) := by decide +kernel
theorem dX9_first_83 : decode cX9_first 83 = .ok (.ireturn, 1) := by decide +kernel
theorem dX9_gainOf_0 : decode cX9_gainOf 0 = .ok (.aload_n 0, 1) := by decide +kernel
theorem dX9_gainOf_1 : decode cX9_gainOf 1 = .ok (.aload_n 0, 1) := by decide +kernel
theorem dX9_gainOf_2 : decode cX9_gainOf 2 = .ok (.getfield 113, 3) := by decide +kernel
theorem dX9_gainOf_5 : decode cX9_gainOf 5 = .ok (.invokevirtual 163, 3) := by decide +kernel
theorem dX9_gainOf_8 : decode cX9_gainOf 8 = .ok (.aload_n 0, 1) := by decide +kernel
theorem dX9_gainOf_9 : decode cX9_gainOf 9 = .ok (.getfield 150, 3) := by decide +kernel
theorem dX9_gainOf_12 : decode cX9_gainOf 12 = .ok (.aload_n 0, 1) := by decide +kernel
theorem dX9_gainOf_13 : decode cX9_gainOf 13 = .ok (.getfield 147, 3) := by decide +kernel
theorem dX9_gainOf_16 : decode cX9_gainOf 16 = .ok (.isub, 1) := by decide +kernel
theorem dX9_gainOf_17 : decode cX9_gainOf 17 = .ok (.ireturn, 1) := by decide +kernel
theorem dX9_gain_0 : decode cX9_gain 0 = .ok (.aload_n 0, 1) := by decide +kernel
theorem dX9_gain_1 : decode cX9_gain 1 = .ok (.invokevirtual 109, 3) := by decide +kernel
theorem dX9_gain_4 : decode cX9_gain 4 = .ok (.ifCond .lt 6, 3) := by decide +kernel
theorem dX9_gain_7 : decode cX9_gain 7 = .ok (.bipush (-5), 2) := by decide +kernel
theorem dX9_gain_9 : decode cX9_gain 9 = .ok (.ireturn, 1) := by decide +kernel
theorem dX9_gain_10 : decode cX9_gain 10 = .ok (.aload_n 0, 1) := by decide +kernel
theorem dX9_gain_11 : decode cX9_gain 11 = .ok (.invokevirtual 160, 3) := by decide +kernel
theorem dX9_gain_14 : decode cX9_gain 14 = .ok (.aload_n 0, 1) := by decide +kernel
theorem dX9_gain_15 : decode cX9_gain 15 = .ok (.invokevirtual 169, 3) := by decide +kernel
theorem dX9_gain_18 : decode cX9_gain 18 = .ok (.sipush 10000, 3) := by decide +kernel
theorem dX9_gain_21 : decode cX9_gain 21 = .ok (.iadd, 1) := by decide +kernel
theorem dX9_gain_22 : decode cX9_gain 22 = .ok (.ireturn, 1) := by decide +kernel
theorem dX9_sort_0 : decode cX9_sort 0 = .ok (.iconst 0, 1) := by decide +kernel
theorem dX9_sort_1 : decode cX9_sort 1 = .ok (.istore_n 1, 1) := by decide +kernel
theorem dX9_sort_2 : decode cX9_sort 2 = .ok (.iload_n 1, 1) := by decide +kernel
theorem dX9_sort_3 : decode cX9_sort 3 = .ok (.aload_n 0, 1) := by decide +kernel
theorem dX9_sort_4 : decode cX9_sort 4 = .ok (.getfield 113, 3) := by decide +kernel
theorem dX9_sort_7 : decode cX9_sort 7 = .ok (.if_icmp .ge 48, 3) := by decide +kernel
theorem dX9_sort_10 : decode cX9_sort 10 = .ok (.iload_n 1, 1) := by decide +kernel
theorem dX9_sort_11 : decode cX9_sort 11 = .ok (.iconst 1, 1) := by decide +kernel
theorem dX9_sort_12 : decode cX9_sort 12 = .ok (.iadd, 1) := by decide +kernel
theorem dX9_sort_13 : decode cX9_sort 13 = .ok (.istore_n 2, 1) := by decide +kernel
theorem dX9_sort_14 : decode cX9_sort 14 = .ok (.iload_n 2, 1) := by decide +kernel
theorem dX9_sort_15 : decode cX9_sort 15 = .ok (.aload_n 0, 1) := by decide +kernel
theorem dX9_sort_16 : decode cX9_sort 16 = .ok (.getfield 113, 3) := by decide +kernel
theorem dX9_sort_19 : decode cX9_sort 19 = .ok (.if_icmp .ge 30, 3) := by decide +kernel
theorem dX9_sort_22 : decode cX9_sort 22 = .ok (.aload_n 0, 1) := by decide +kernel
theorem dX9_sort_23 : decode cX9_sort 23 = .ok (.getfield 38, 3) := by decide +kernel
theorem dX9_sort_26 : decode cX9_sort 26 = .ok (.iload_n 2, 1) := by decide +kernel
theorem dX9_sort_27 : decode cX9_sort 27 = .ok (.iaload, 1) := by decide +kernel
theorem dX9_sort_28 : decode cX9_sort 28 = .ok (.aload_n 0, 1) := by decide +kernel
theorem dX9_sort_29 : decode cX9_sort 29 = .ok (.getfield 38, 3) := by decide +kernel
theorem dX9_sort_32 : decode cX9_sort 32 = .ok (.iload_n 1, 1) := by decide +kernel
theorem dX9_sort_33 : decode cX9_sort 33 = .ok (.iaload, 1) := by decide +kernel
theorem dX9_sort_34 : decode cX9_sort 34 = .ok (.if_icmp .ge 9, 3) := by decide +kernel
theorem dX9_sort_37 : decode cX9_sort 37 = .ok (.aload_n 0, 1) := by decide +kernel
theorem dX9_sort_38 : decode cX9_sort 38 = .ok (.iload_n 2, 1) := by decide +kernel
theorem dX9_sort_39 : decode cX9_sort 39 = .ok (.iload_n 1, 1) := by decide +kernel
theorem dX9_sort_40 : decode cX9_sort 40 = .ok (.invokevirtual 172, 3) := by decide +kernel
theorem dX9_sort_43 : decode cX9_sort 43 = .ok (.iinc 2 1, 3) := by decide +kernel
theorem dX9_sort_46 : decode cX9_sort 46 = .ok (.goto (-32), 3) := by decide +kernel
theorem dX9_sort_49 : decode cX9_sort 49 = .ok (.iinc 1 1, 3) := by decide +kernel
theorem dX9_sort_52 : decode cX9_sort 52 = .ok (.goto (-50), 3) := by decide +kernel
theorem dX9_sort_55 : decode cX9_sort 55 = .ok (.return_, 1) := by decide +kernel
theorem dX9_swap_0 : decode cX9_swap 0 = .ok (.aload_n 0, 1) := by decide +kernel
theorem dX9_swap_1 : decode cX9_swap 1 = .ok (.getfield 38, 3) := by decide +kernel
theorem dX9_swap_4 : decode cX9_swap 4 = .ok (.iload_n 1, 1) := by decide +kernel
theorem dX9_swap_5 : decode cX9_swap 5 = .ok (.iaload, 1) := by decide +kernel
theorem dX9_swap_6 : decode cX9_swap 6 = .ok (.istore_n 3, 1) := by decide +kernel
theorem dX9_swap_7 : decode cX9_swap 7 = .ok (.aload_n 0, 1) := by decide +kernel
theorem dX9_swap_8 : decode cX9_swap 8 = .ok (.getfield 38, 3) := by decide +kernel
theorem dX9_swap_11 : decode cX9_swap 11 = .ok (.iload_n 1, 1) := by decide +kernel
theorem dX9_swap_12 : decode cX9_swap 12 = .ok (.aload_n 0, 1) := by decide +kernel
theorem dX9_swap_13 : decode cX9_swap 13 = .ok (.getfield 38, 3) := by decide +kernel
theorem dX9_swap_16 : decode cX9_swap 16 = .ok (.iload_n 2, 1) := by decide +kernel
theorem dX9_swap_17 : decode cX9_swap 17 = .ok (.iaload, 1) := by decide +kernel
theorem dX9_swap_18 : decode cX9_swap 18 = .ok (.iastore, 1) := by decide +kernel
theorem dX9_swap_19 : decode cX9_swap 19 = .ok (.aload_n 0, 1) := by decide +kernel
theorem dX9_swap_20 : decode cX9_swap 20 = .ok (.getfield 38, 3) := by decide +kernel
theorem dX9_swap_23 : decode cX9_swap 23 = .ok (.iload_n 2, 1) := by decide +kernel
theorem dX9_swap_24 : decode cX9_swap 24 = .ok (.iload_n 3, 1) := by decide +kernel
theorem dX9_swap_25 : decode cX9_swap 25 = .ok (.iastore, 1) := by decide +kernel
theorem dX9_swap_26 : decode cX9_swap 26 = .ok (.return_, 1) := by decide +kernel
theorem dX9_goOn_0 : decode cX9_goOn 0 = .ok (.aload_n 0, 1) := by decide +kernel
theorem dX9_goOn_1 : decode cX9_goOn 1 = .ok (.getfield 113, 3) := by decide +kernel
theorem dX9_goOn_4 : decode cX9_goOn 4 = .ok (.iconst 2, 1) := by decide +kernel
theorem dX9_goOn_5 : decode cX9_goOn 5 = .ok (.isub, 1) := by decide +kernel
theorem dX9_goOn_6 : decode cX9_goOn 6 = .ok (.istore_n 1, 1) := by decide +kernel
theorem dX9_goOn_7 : decode cX9_goOn 7 = .ok (.iload_n 1, 1) := by decide +kernel
theorem dX9_goOn_8 : decode cX9_goOn 8 = .ok (.ifCond .lt 26, 3) := by decide +kernel
theorem dX9_goOn_11 : decode cX9_goOn 11 = .ok (.aload_n 0, 1) := by decide +kernel
theorem dX9_goOn_12 : decode cX9_goOn 12 = .ok (.getfield 38, 3) := by decide +kernel
theorem dX9_goOn_15 : decode cX9_goOn 15 = .ok (.iload_n 1, 1) := by decide +kernel
theorem dX9_goOn_16 : decode cX9_goOn 16 = .ok (.iaload, 1) := by decide +kernel
theorem dX9_goOn_17 : decode cX9_goOn 17 = .ok (.aload_n 0, 1) := by decide +kernel
theorem dX9_goOn_18 : decode cX9_goOn 18 = .ok (.getfield 38, 3) := by decide +kernel
theorem dX9_goOn_21 : decode cX9_goOn 21 = .ok (.iload_n 1, 1) := by decide +kernel
theorem dX9_goOn_22 : decode cX9_goOn 22 = .ok (.iconst 1, 1) := by decide +kernel
theorem dX9_goOn_23 : decode cX9_goOn 23 = .ok (.iadd, 1) := by decide +kernel
theorem dX9_goOn_24 : decode cX9_goOn 24 = .ok (.iaload, 1) := by decide +kernel
theorem dX9_goOn_25 : decode cX9_goOn 25 = .ok (.if_icmp .lt 9, 3) := by decide +kernel
theorem dX9_goOn_28 : decode cX9_goOn 28 = .ok (.iinc 1 (-1), 3) := by decide +kernel
theorem dX9_goOn_31 : decode cX9_goOn 31 = .ok (.goto (-24), 3) := by decide +kernel
theorem dX9_goOn_34 : decode cX9_goOn 34 = .ok (.iload_n 1, 1) := by decide +kernel
theorem dX9_goOn_35 : decode cX9_goOn 35 = .ok (.ifCond .ge 5, 3) := by decide +kernel
theorem dX9_goOn_38 : decode cX9_goOn 38 = .ok (.iconst 0, 1) := by decide +kernel
theorem dX9_goOn_39 : decode cX9_goOn 39 = .ok (.ireturn, 1) := by decide +kernel
theorem dX9_goOn_40 : decode cX9_goOn 40 = .ok (.aload_n 0, 1) := by decide +kernel
theorem dX9_goOn_41 : decode cX9_goOn 41 = .ok (.getfield 113, 3) := by decide +kernel
theorem dX9_goOn_44 : decode cX9_goOn 44 = .ok (.iconst 1, 1) := by decide +kernel
theorem dX9_goOn_45 : decode cX9_goOn 45 = .ok (.isub, 1) := by decide +kernel
theorem dX9_goOn_46 : decode cX9_goOn 46 = .ok (.istore_n 2, 1) := by decide +kernel
theorem dX9_goOn_47 : decode cX9_goOn 47 = .ok (.aload_n 0, 1) := by decide +kernel
theorem dX9_goOn_48 : decode cX9_goOn 48 = .ok (.getfield 38, 3) := by decide +kernel
theorem dX9_goOn_51 : decode cX9_goOn 51 = .ok (.iload_n 2, 1) := by decide +kernel
theorem dX9_goOn_52 : decode cX9_goOn 52 = .ok (.iaload, 1) := by decide +kernel
theorem dX9_goOn_53 : decode cX9_goOn 53 = .ok (.aload_n 0, 1) := by decide +kernel
theorem dX9_goOn_54 : decode cX9_goOn 54 = .ok (.getfield 38, 3) := by decide +kernel
theorem dX9_goOn_57 : decode cX9_goOn 57 = .ok (.iload_n 1, 1) := by decide +kernel
theorem dX9_goOn_58 : decode cX9_goOn 58 = .ok (.iaload, 1) := by decide +kernel
theorem dX9_goOn_59 : decode cX9_goOn 59 = .ok (.if_icmp .gt 9, 3) := by decide +kernel
theorem dX9_goOn_62 : decode cX9_goOn 62 = .ok (.iinc 2 (-1), 3) := by decide +kernel
theorem dX9_goOn_65 : decode cX9_goOn 65 = .ok (.goto (-18), 3) := by decide +kernel
theorem dX9_goOn_68 : decode cX9_goOn 68 = .ok (.aload_n 0, 1) := by decide +kernel
theorem dX9_goOn_69 : decode cX9_goOn 69 = .ok (.iload_n 2, 1) := by decide +kernel
theorem dX9_goOn_70 : decode cX9_goOn 70 = .ok (.iload_n 1, 1) := by decide +kernel
theorem dX9_goOn_71 : decode cX9_goOn 71 = .ok (.invokevirtual 172, 3) := by decide +kernel
theorem dX9_goOn_74 : decode cX9_goOn 74 = .ok (.iload_n 1, 1) := by decide +kernel
theorem dX9_goOn_75 : decode cX9_goOn 75 = .ok (.iconst 1, 1) := by decide +kernel
theorem dX9_goOn_76 : decode cX9_goOn 76 = .ok (.iadd, 1) := by decide +kernel
theorem dX9_goOn_77 : decode cX9_goOn 77 = .ok (.istore_n 3, 1) := by decide +kernel
theorem dX9_goOn_78 : decode cX9_goOn 78 = .ok (.aload_n 0, 1) := by decide +kernel
theorem dX9_goOn_79 : decode cX9_goOn 79 = .ok (.getfield 113, 3) := by decide +kernel
theorem dX9_goOn_82 : decode cX9_goOn 82 = .ok (.iconst 1, 1) := by decide +kernel
theorem dX9_goOn_83 : decode cX9_goOn 83 = .ok (.isub, 1) := by decide +kernel
theorem dX9_goOn_84 : decode cX9_goOn 84 = .ok (.istore 4, 2) := by decide +kernel
theorem dX9_goOn_86 : decode cX9_goOn 86 = .ok (.iload_n 3, 1) := by decide +kernel
theorem dX9_goOn_87 : decode cX9_goOn 87 = .ok (.iload 4, 2) := by decide +kernel
theorem dX9_goOn_89 : decode cX9_goOn 89 = .ok (.if_icmp .ge 19, 3) := by decide +kernel
theorem dX9_goOn_92 : decode cX9_goOn 92 = .ok (.aload_n 0, 1) := by decide +kernel
theorem dX9_goOn_93 : decode cX9_goOn 93 = .ok (.iload_n 3, 1) := by decide +kernel
theorem dX9_goOn_94 : decode cX9_goOn 94 = .ok (.iload 4, 2) := by decide +kernel
theorem dX9_goOn_96 : decode cX9_goOn 96 = .ok (.invokevirtual 172, 3) := by decide +kernel
theorem dX9_goOn_99 : decode cX9_goOn 99 = .ok (.iinc 3 1, 3) := by decide +kernel
theorem dX9_goOn_102 : decode cX9_goOn 102 = .ok (.iinc 4 (-1), 3) := by decide +kernel
theorem dX9_goOn_105 : decode cX9_goOn 105 = .ok (.goto (-19), 3) := by decide +kernel
theorem dX9_goOn_108 : decode cX9_goOn 108 = .ok (.iconst 1, 1) := by decide +kernel
theorem dX9_goOn_109 : decode cX9_goOn 109 = .ok (.ireturn, 1) := by decide +kernel
theorem dX9_order_0 : decode cX9_order 0 = .ok (.iload_n 1, 1) := by decide +kernel
theorem dX9_order_1 : decode cX9_order 1 = .ok (.iconst 0, 1) := by decide +kernel
theorem dX9_order_2 : decode cX9_order 2 = .ok (.iconst 1, 1) := by decide +kernel
theorem dX9_order_3 : decode cX9_order 3 = .ok (.invokestatic 75, 3) := by decide +kernel
theorem dX9_order_6 : decode cX9_order 6 = .ok (.ifCond .ne 6, 3) := by decide +kernel
theorem dX9_order_9 : decode cX9_order 9 = .ok (.bipush (-2), 2) := by decide +kernel
theorem dX9_order_11 : decode cX9_order 11 = .ok (.ireturn, 1) := by decide +kernel
theorem dX9_order_12 : decode cX9_order 12 = .ok (.aload_n 0, 1) := by decide +kernel
theorem dX9_order_13 : decode cX9_order 13 = .ok (.invokevirtual 109, 3) := by decide +kernel
theorem dX9_order_16 : decode cX9_order 16 = .ok (.ifCond .lt 6, 3) := by decide +kernel
theorem dX9_order_19 : decode cX9_order 19 = .ok (.bipush (-5), 2) := by decide +kernel
theorem dX9_order_21 : decode cX9_order 21 = .ok (.ireturn, 1) := by decide +kernel
theorem dX9_order_22 : decode cX9_order 22 = .ok (.aload_n 0, 1) := by decide +kernel
theorem dX9_order_23 : decode cX9_order 23 = .ok (.getfield 103, 3) := by decide +kernel
theorem dX9_order_26 : decode cX9_order 26 = .ok (.bipush 7, 2) := by decide +kernel
theorem dX9_order_28 : decode cX9_order 28 = .ok (.if_icmp .le 6, 3) := by decide +kernel
theorem dX9_order_31 : decode cX9_order 31 = .ok (.bipush (-4), 2) := by decide +kernel
theorem dX9_order_33 : decode cX9_order 33 = .ok (.ireturn, 1) := by decide +kernel
theorem dX9_order_34 : decode cX9_order 34 = .ok (.aload_n 0, 1) := by decide +kernel
theorem dX9_order_35 : decode cX9_order 35 = .ok (.invokevirtual 160, 3) := by decide +kernel
theorem dX9_order_38 : decode cX9_order 38 = .ok (.aload_n 0, 1) := by decide +kernel
theorem dX9_order_39 : decode cX9_order 39 = .ok (.invokevirtual 176, 3) := by decide +kernel
theorem dX9_order_42 : decode cX9_order 42 = .ok (.ldc 179, 2) := by decide +kernel
theorem dX9_order_44 : decode cX9_order 44 = .ok (.istore_n 3, 1) := by decide +kernel
theorem dX9_order_45 : decode cX9_order 45 = .ok (.iconst 1, 1) := by decide +kernel
theorem dX9_order_46 : decode cX9_order 46 = .ok (.istore 4, 2) := by decide +kernel
theorem dX9_order_48 : decode cX9_order 48 = .ok (.iload 4, 2) := by decide +kernel
theorem dX9_order_50 : decode cX9_order 50 = .ok (.ifCond .eq 75, 3) := by decide +kernel
theorem dX9_order_53 : decode cX9_order 53 = .ok (.aload_n 0, 1) := by decide +kernel
theorem dX9_order_54 : decode cX9_order 54 = .ok (.invokevirtual 169, 3) := by decide +kernel
theorem dX9_order_57 : decode cX9_order 57 = .ok (.istore 5, 2) := by decide +kernel
theorem dX9_order_59 : decode cX9_order 59 = .ok (.iload_n 1, 1) := by decide +kernel
theorem dX9_order_60 : decode cX9_order 60 = .ok (.ifCond .ne 10, 3) := by decide +kernel
theorem dX9_order_63 : decode cX9_order 63 = .ok (.aload_n 0, 1) := by decide +kernel
theorem dX9_order_64 : decode cX9_order 64 = .ok (.getfield 147, 3) := by decide +kernel
theorem dX9_order_67 : decode cX9_order 67 = .ok (.goto 6, 3) := by decide +kernel
theorem dX9_order_70 : decode cX9_order 70 = .ok (.iload 5, 2) := by decide +kernel
theorem dX9_order_72 : decode cX9_order 72 = .ok (.ineg, 1) := by decide +kernel
theorem dX9_order_73 : decode cX9_order 73 = .ok (.istore 6, 2) := by decide +kernel
theorem dX9_order_75 : decode cX9_order 75 = .ok (.iload 6, 2) := by decide +kernel
theorem dX9_order_77 : decode cX9_order 77 = .ok (.iload_n 3, 1) := by decide +kernel
theorem dX9_order_78 : decode cX9_order 78 = .ok (.if_icmp .ge 38, 3) := by decide +kernel
theorem dX9_order_81 : decode cX9_order 81 = .ok (.iload 6, 2) := by decide +kernel
theorem dX9_order_83 : decode cX9_order 83 = .ok (.istore_n 3, 1) := by decide +kernel
theorem dX9_order_84 : decode cX9_order 84 = .ok (.iconst 0, 1) := by decide +kernel
theorem dX9_order_85 : decode cX9_order 85 = .ok (.istore 7, 2) := by decide +kernel
theorem dX9_order_87 : decode cX9_order 87 = .ok (.iload 7, 2) := by decide +kernel
theorem dX9_order_89 : decode cX9_order 89 = .ok (.aload_n 0, 1) := by decide +kernel
theorem dX9_order_90 : decode cX9_order 90 = .ok (.getfield 113, 3) := by decide +kernel
theorem dX9_order_93 : decode cX9_order 93 = .ok (.if_icmp .ge 23, 3) := by decide +kernel
theorem dX9_order_96 : decode cX9_order 96 = .ok (.aload_n 0, 1) := by decide +kernel
theorem dX9_order_97 : decode cX9_order 97 = .ok (.getfield 59, 3) := by decide +kernel
theorem dX9_order_100 : decode cX9_order 100 = .ok (.iload 7, 2) := by decide +kernel
theorem dX9_order_102 : decode cX9_order 102 = .ok (.aload_n 0, 1) := by decide +kernel
theorem dX9_order_103 : decode cX9_order 103 = .ok (.getfield 38, 3) := by decide +kernel
theorem dX9_order_106 : decode cX9_order 106 = .ok (.iload 7, 2) := by decide +kernel
theorem dX9_order_108 : decode cX9_order 108 = .ok (.iaload, 1) := by decide +kernel
theorem dX9_order_109 : decode cX9_order 109 = .ok (.iastore, 1) := by decide +kernel
theorem dX9_order_110 : decode cX9_order 110 = .ok (.iinc 7 1, 3) := by decide +kernel
theorem dX9_order_113 : decode cX9_order 113 = .ok (.goto (-26), 3) := by decide +kernel
theorem dX9_order_116 : decode cX9_order 116 = .ok (.aload_n 0, 1) := by decide +kernel
theorem dX9_order_117 : decode cX9_order 117 = .ok (.invokevirtual 180, 3) := by decide +kernel
theorem dX9_order_120 : decode cX9_order 120 = .ok (.istore 4, 2) := by decide +kernel
theorem dX9_order_122 : decode cX9_order 122 = .ok (.goto (-74), 3) := by decide +kernel
theorem dX9_order_125 : decode cX9_order 125 = .ok (.iload_n 2, 1) := by decide +kernel
theorem dX9_order_126 : decode cX9_order 126 = .ok (.iconst (-1), 1) := by decide +kernel
theorem dX9_order_127 : decode cX9_order 127 = .ok (.if_icmp .ne 17, 3) := by decide +kernel
theorem dX9_order_130 : decode cX9_order 130 = .ok (.iload_n 1, 1) := by decide +kernel
theorem dX9_order_131 : decode cX9_order 131 = .ok (.ifCond .ne 7, 3) := by decide +kernel
theorem dX9_order_134 : decode cX9_order 134 = .ok (.iload_n 3, 1) := by decide +kernel
theorem dX9_order_135 : decode cX9_order 135 = .ok (.goto 8, 3) := by decide +kernel
theorem dX9_order_138 : decode cX9_order 138 = .ok (.sipush 10000, 3) := by decide +kernel
theorem dX9_order_141 : decode cX9_order 141 = .ok (.iload_n 3, 1) := by decide +kernel
theorem dX9_order_142 : decode cX9_order 142 = .ok (.isub, 1) := by decide +kernel
theorem dX9_order_143 : decode cX9_order 143 = .ok (.ireturn, 1) := by decide +kernel
theorem dX9_order_144 : decode cX9_order 144 = .ok (.iload_n 2, 1) := by decide +kernel
theorem dX9_order_145 : decode cX9_order 145 = .ok (.iconst 0, 1) := by decide +kernel
theorem dX9_order_146 : decode cX9_order 146 = .ok (.aload_n 0, 1) := by decide +kernel
theorem dX9_order_147 : decode cX9_order 147 = .ok (.getfield 103, 3) := by decide +kernel
theorem dX9_order_150 : decode cX9_order 150 = .ok (.iconst 1, 1) := by decide +kernel
theorem dX9_order_151 : decode cX9_order 151 = .ok (.isub, 1) := by decide +kernel
theorem dX9_order_152 : decode cX9_order 152 = .ok (.invokestatic 75, 3) := by decide +kernel
theorem dX9_order_155 : decode cX9_order 155 = .ok (.ifCond .eq 12, 3) := by decide +kernel
theorem dX9_order_158 : decode cX9_order 158 = .ok (.aload_n 0, 1) := by decide +kernel
theorem dX9_order_159 : decode cX9_order 159 = .ok (.getfield 59, 3) := by decide +kernel
theorem dX9_order_162 : decode cX9_order 162 = .ok (.iload_n 2, 1) := by decide +kernel
theorem dX9_order_163 : decode cX9_order 163 = .ok (.iaload, 1) := by decide +kernel
theorem dX9_order_164 : decode cX9_order 164 = .ok (.goto 5, 3) := by decide +kernel
theorem dX9_order_167 : decode cX9_order 167 = .ok (.bipush (-6), 2) := by decide +kernel
theorem dX9_order_169 : decode cX9_order 169 = .ok (.ireturn, 1) := by decide +kernel
theorem dX9_start_0 : decode cX9_start 0 = .ok (.iload_n 1, 1) := by decide +kernel
theorem dX9_start_1 : decode cX9_start 1 = .ok (.iconst 0, 1) := by decide +kernel
theorem dX9_start_2 : decode cX9_start 2 = .ok (.iconst 1, 1) := by decide +kernel
theorem dX9_start_3 : decode cX9_start 3 = .ok (.invokestatic 75, 3) := by decide +kernel
theorem dX9_start_6 : decode cX9_start 6 = .ok (.ifCond .ne 6, 3) := by decide +kernel
theorem dX9_start_9 : decode cX9_start 9 = .ok (.bipush (-2), 2) := by decide +kernel
theorem dX9_start_11 : decode cX9_start 11 = .ok (.ireturn, 1) := by decide +kernel
theorem dX9_start_12 : decode cX9_start 12 = .ok (.aload_n 0, 1) := by decide +kernel
theorem dX9_start_13 : decode cX9_start 13 = .ok (.invokevirtual 109, 3) := by decide +kernel
