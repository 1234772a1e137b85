theorem dX0_init_0 : decode cX0_init 0 = .ok (.aload_n 0, 1) := by decide +kernel
theorem dX0_init_1 : decode cX0_init 1 = .ok (.invokespecial 3, 3) := by decide +kernel
theorem dX0_init_4 : decode cX0_init 4 = .ok (.aload_n 0, 1) := by decide +kernel
theorem dX0_init_5 : decode cX0_init 5 = .ok (.iconst 0, 1) := by decide +kernel
theorem dX0_init_6 : decode cX0_init 6 = .ok (.putfield 9, 3) := by decide +kernel
theorem dX0_init_9 : decode cX0_init 9 = .ok (.aload_n 0, 1) := by decide +kernel
theorem dX0_init_10 : decode cX0_init 10 = .ok (.iconst 0, 1) := by decide +kernel
theorem dX0_init_11 : decode cX0_init 11 = .ok (.putfield 15, 3) := by decide +kernel
theorem dX0_init_14 : decode cX0_init 14 = .ok (.aload_n 0, 1) := by decide +kernel
theorem dX0_init_15 : decode cX0_init 15 = .ok (.iconst 0, 1) := by decide +kernel
theorem dX0_init_16 : decode cX0_init 16 = .ok (.putfield 18, 3) := by decide +kernel
theorem dX0_init_19 : decode cX0_init 19 = .ok (.return_, 1) := by decide +kernel
theorem dX0_aimAt_0 : decode cX0_aimAt 0 = .ok (.aload_n 0, 1) := by decide +kernel
theorem dX0_aimAt_1 : decode cX0_aimAt 1 = .ok (.iload_n 1, 1) := by decide +kernel
theorem dX0_aimAt_2 : decode cX0_aimAt 2 = .ok (.putfield 18, 3) := by decide +kernel
theorem dX0_aimAt_5 : decode cX0_aimAt 5 = .ok (.aload_n 0, 1) := by decide +kernel
theorem dX0_aimAt_6 : decode cX0_aimAt 6 = .ok (.ldc 22, 2) := by decide +kernel
theorem dX0_aimAt_8 : decode cX0_aimAt 8 = .ok (.putfield 15, 3) := by decide +kernel
theorem dX0_aimAt_11 : decode cX0_aimAt 11 = .ok (.return_, 1) := by decide +kernel
theorem dX0_loss_0 : decode cX0_loss 0 = .ok (.aload_n 0, 1) := by decide +kernel
theorem dX0_loss_1 : decode cX0_loss 1 = .ok (.getfield 18, 3) := by decide +kernel
theorem dX0_loss_4 : decode cX0_loss 4 = .ok (.ifCond .eq 15, 3) := by decide +kernel
theorem dX0_loss_7 : decode cX0_loss 7 = .ok (.aload_n 1, 1) := by decide +kernel
theorem dX0_loss_8 : decode cX0_loss 8 = .ok (.getfield 23, 3) := by decide +kernel
theorem dX0_loss_11 : decode cX0_loss 11 = .ok (.aload_n 1, 1) := by decide +kernel
theorem dX0_loss_12 : decode cX0_loss 12 = .ok (.getfield 28, 3) := by decide +kernel
theorem dX0_loss_15 : decode cX0_loss 15 = .ok (.iadd, 1) := by decide +kernel
theorem dX0_loss_16 : decode cX0_loss 16 = .ok (.goto 7, 3) := by decide +kernel
theorem dX0_loss_19 : decode cX0_loss 19 = .ok (.aload_n 1, 1) := by decide +kernel
theorem dX0_loss_20 : decode cX0_loss 20 = .ok (.getfield 23, 3) := by decide +kernel
theorem dX0_loss_23 : decode cX0_loss 23 = .ok (.ireturn, 1) := by decide +kernel
theorem dX0_mayGoOn_0 : decode cX0_mayGoOn 0 = .ok (.aload_n 0, 1) := by decide +kernel
theorem dX0_mayGoOn_1 : decode cX0_mayGoOn 1 = .ok (.aload_n 2, 1) := by decide +kernel
theorem dX0_mayGoOn_2 : decode cX0_mayGoOn 2 = .ok (.invokevirtual 31, 3) := by decide +kernel
theorem dX0_mayGoOn_5 : decode cX0_mayGoOn 5 = .ok (.aload_n 0, 1) := by decide +kernel
theorem dX0_mayGoOn_6 : decode cX0_mayGoOn 6 = .ok (.getfield 15, 3) := by decide +kernel
theorem dX0_mayGoOn_9 : decode cX0_mayGoOn 9 = .ok (.if_icmp .ge 7, 3) := by decide +kernel
theorem dX0_mayGoOn_12 : decode cX0_mayGoOn 12 = .ok (.iconst 1, 1) := by decide +kernel
theorem dX0_mayGoOn_13 : decode cX0_mayGoOn 13 = .ok (.goto 4, 3) := by decide +kernel
theorem dX0_mayGoOn_16 : decode cX0_mayGoOn 16 = .ok (.iconst 0, 1) := by decide +kernel
theorem dX0_mayGoOn_17 : decode cX0_mayGoOn 17 = .ok (.ireturn, 1) := by decide +kernel
theorem dX0_arrive_0 : decode cX0_arrive 0 = .ok (.aload_n 0, 1) := by decide +kernel
theorem dX0_arrive_1 : decode cX0_arrive 1 = .ok (.aload_n 0, 1) := by decide +kernel
theorem dX0_arrive_2 : decode cX0_arrive 2 = .ok (.aload_n 1, 1) := by decide +kernel
theorem dX0_arrive_3 : decode cX0_arrive 3 = .ok (.invokevirtual 31, 3) := by decide +kernel
theorem dX0_arrive_6 : decode cX0_arrive 6 = .ok (.putfield 15, 3) := by decide +kernel
theorem dX0_arrive_9 : decode cX0_arrive 9 = .ok (.aload_n 0, 1) := by decide +kernel
theorem dX0_arrive_10 : decode cX0_arrive 10 = .ok (.aload_n 0, 1) := by decide +kernel
theorem dX0_arrive_11 : decode cX0_arrive 11 = .ok (.getfield 18, 3) := by decide +kernel
theorem dX0_arrive_14 : decode cX0_arrive 14 = .ok (.ifCond .eq 10, 3) := by decide +kernel
theorem dX0_arrive_17 : decode cX0_arrive 17 = .ok (.aload_n 1, 1) := by decide +kernel
theorem dX0_arrive_18 : decode cX0_arrive 18 = .ok (.invokevirtual 35, 3) := by decide +kernel
theorem dX0_arrive_21 : decode cX0_arrive 21 = .ok (.goto 7, 3) := by decide +kernel
theorem dX0_arrive_24 : decode cX0_arrive 24 = .ok (.aload_n 1, 1) := by decide +kernel
theorem dX0_arrive_25 : decode cX0_arrive 25 = .ok (.getfield 23, 3) := by decide +kernel
theorem dX0_arrive_28 : decode cX0_arrive 28 = .ok (.putfield 9, 3) := by decide +kernel
theorem dX0_arrive_31 : decode cX0_arrive 31 = .ok (.aload_n 0, 1) := by decide +kernel
theorem dX0_arrive_32 : decode cX0_arrive 32 = .ok (.invokevirtual 39, 3) := by decide +kernel
theorem dX0_arrive_35 : decode cX0_arrive 35 = .ok (.return_, 1) := by decide +kernel
theorem dX0_signOfBest_0 : decode cX0_signOfBest 0 = .ok (.iload_n 1, 1) := by decide +kernel
theorem dX0_signOfBest_1 : decode cX0_signOfBest 1 = .ok (.ifCond .lt 20, 3) := by decide +kernel
theorem dX0_signOfBest_4 : decode cX0_signOfBest 4 = .ok (.iload_n 1, 1) := by decide +kernel
theorem dX0_signOfBest_5 : decode cX0_signOfBest 5 = .ok (.aload_n 0, 1) := by decide +kernel
theorem dX0_signOfBest_6 : decode cX0_signOfBest 6 = .ok (.getfield 42, 3) := by decide +kernel
theorem dX0_signOfBest_9 : decode cX0_signOfBest 9 = .ok (.if_icmp .ge 12, 3) := by decide +kernel
theorem dX0_signOfBest_12 : decode cX0_signOfBest 12 = .ok (.aload_n 0, 1) := by decide +kernel
theorem dX0_signOfBest_13 : decode cX0_signOfBest 13 = .ok (.getfield 45, 3) := by decide +kernel
theorem dX0_signOfBest_16 : decode cX0_signOfBest 16 = .ok (.iload_n 1, 1) := by decide +kernel
theorem dX0_signOfBest_17 : decode cX0_signOfBest 17 = .ok (.iaload, 1) := by decide +kernel
theorem dX0_signOfBest_18 : decode cX0_signOfBest 18 = .ok (.goto 5, 3) := by decide +kernel
theorem dX0_signOfBest_21 : decode cX0_signOfBest 21 = .ok (.bipush (-6), 2) := by decide +kernel
theorem dX0_signOfBest_23 : decode cX0_signOfBest 23 = .ok (.ireturn, 1) := by decide +kernel
theorem dX1_init_0 : decode cX1_init 0 = .ok (.aload_n 0, 1) := by decide +kernel
theorem dX1_init_1 : decode cX1_init 1 = .ok (.invokespecial 3, 3) := by decide +kernel
theorem dX1_init_4 : decode cX1_init 4 = .ok (.aload_n 0, 1) := by decide +kernel
theorem dX1_init_5 : decode cX1_init 5 = .ok (.iconst 0, 1) := by decide +kernel
theorem dX1_init_6 : decode cX1_init 6 = .ok (.putfield 9, 3) := by decide +kernel
theorem dX1_init_9 : decode cX1_init 9 = .ok (.aload_n 0, 1) := by decide +kernel
theorem dX1_init_10 : decode cX1_init 10 = .ok (.iconst 0, 1) := by decide +kernel
theorem dX1_init_11 : decode cX1_init 11 = .ok (.putfield 15, 3) := by decide +kernel
theorem dX1_init_14 : decode cX1_init 14 = .ok (.return_, 1) := by decide +kernel
theorem dX1_find_0 : decode cX1_find 0 = .ok (.aload_n 0, 1) := by decide +kernel
theorem dX1_find_1 : decode cX1_find 1 = .ok (.iconst 0, 1) := by decide +kernel
theorem dX1_find_2 : decode cX1_find 2 = .ok (.putfield 9, 3) := by decide +kernel
theorem dX1_find_5 : decode cX1_find 5 = .ok (.aload_n 0, 1) := by decide +kernel
theorem dX1_find_6 : decode cX1_find 6 = .ok (.iconst 0, 1) := by decide +kernel
theorem dX1_find_7 : decode cX1_find 7 = .ok (.putfield 15, 3) := by decide +kernel
theorem dX1_find_10 : decode cX1_find 10 = .ok (.aload_n 1, 1) := by decide +kernel
theorem dX1_find_11 : decode cX1_find 11 = .ok (.aload_n 2, 1) := by decide +kernel
theorem dX1_find_12 : decode cX1_find 12 = .ok (.invokestatic 18, 3) := by decide +kernel
theorem dX1_find_15 : decode cX1_find 15 = .ok (.ifCond .eq 10, 3) := by decide +kernel
theorem dX1_find_18 : decode cX1_find 18 = .ok (.aload_n 0, 1) := by decide +kernel
theorem dX1_find_19 : decode cX1_find 19 = .ok (.aload_n 1, 1) := by decide +kernel
theorem dX1_find_20 : decode cX1_find 20 = .ok (.aload_n 2, 1) := by decide +kernel
theorem dX1_find_21 : decode cX1_find 21 = .ok (.aload_n 3, 1) := by decide +kernel
theorem dX1_find_22 : decode cX1_find 22 = .ok (.invokevirtual 22, 3) := by decide +kernel
theorem dX1_find_25 : decode cX1_find 25 = .ok (.return_, 1) := by decide +kernel
theorem dX1_areMinutesThere_0 : decode cX1_areMinutesThere 0 = .ok (.iconst 0, 1) := by decide +kernel
theorem dX1_areMinutesThere_1 : decode cX1_areMinutesThere 1 = .ok (.istore_n 2, 1) := by decide +kernel
theorem dX1_areMinutesThere_2 : decode cX1_areMinutesThere 2 = .ok (.iload_n 2, 1) := by decide +kernel
theorem dX1_areMinutesThere_3 : decode cX1_areMinutesThere 3 = .ok (.aload_n 0, 1) := by decide +kernel
theorem dX1_areMinutesThere_4 : decode cX1_areMinutesThere 4 = .ok (.getfield 26, 3) := by decide +kernel
theorem dX1_areMinutesThere_7 : decode cX1_areMinutesThere 7 = .ok (.if_icmp .ge 24, 3) := by decide +kernel
theorem dX1_areMinutesThere_10 : decode cX1_areMinutesThere 10 = .ok (.aload_n 0, 1) := by decide +kernel
theorem dX1_areMinutesThere_11 : decode cX1_areMinutesThere 11 = .ok (.getfield 31, 3) := by decide +kernel
theorem dX1_areMinutesThere_14 : decode cX1_areMinutesThere 14 = .ok (.iload_n 2, 1) := by decide +kernel
theorem dX1_areMinutesThere_15 : decode cX1_areMinutesThere 15 = .ok (.iaload, 1) := by decide +kernel
theorem dX1_areMinutesThere_16 : decode cX1_areMinutesThere 16 = .ok (.aload_n 1, 1) := by decide +kernel
theorem dX1_areMinutesThere_17 : decode cX1_areMinutesThere 17 = .ok (.getfield 35, 3) := by decide +kernel
theorem dX1_areMinutesThere_20 : decode cX1_areMinutesThere 20 = .ok (.if_icmp .lt 5, 3) := by decide +kernel
theorem dX1_areMinutesThere_23 : decode cX1_areMinutesThere 23 = .ok (.iconst 0, 1) := by decide +kernel
theorem dX1_areMinutesThere_24 : decode cX1_areMinutesThere 24 = .ok (.ireturn, 1) := by decide +kernel
theorem dX1_areMinutesThere_25 : decode cX1_areMinutesThere 25 = .ok (.iinc 2 1, 3) := by decide +kernel
theorem dX1_areMinutesThere_28 : decode cX1_areMinutesThere 28 = .ok (.goto (-26), 3) := by decide +kernel
theorem dX1_areMinutesThere_31 : decode cX1_areMinutesThere 31 = .ok (.iconst 1, 1) := by decide +kernel
theorem dX1_areMinutesThere_32 : decode cX1_areMinutesThere 32 = .ok (.ireturn, 1) := by decide +kernel
theorem dX1_mayGoOn_0 : decode cX1_mayGoOn 0 = .ok (.iconst 0, 1) := by decide +kernel
theorem dX1_mayGoOn_1 : decode cX1_mayGoOn 1 = .ok (.istore 4, 2) := by decide +kernel
theorem dX1_mayGoOn_3 : decode cX1_mayGoOn 3 = .ok (.iload 4, 2) := by decide +kernel
theorem dX1_mayGoOn_5 : decode cX1_mayGoOn 5 = .ok (.aload_n 1, 1) := by decide +kernel
theorem dX1_mayGoOn_6 : decode cX1_mayGoOn 6 = .ok (.getfield 26, 3) := by decide +kernel
theorem dX1_mayGoOn_9 : decode cX1_mayGoOn 9 = .ok (.if_icmp .ge 39, 3) := by decide +kernel
theorem dX1_mayGoOn_12 : decode cX1_mayGoOn 12 = .ok (.aload_n 1, 1) := by decide +kernel
theorem dX1_mayGoOn_13 : decode cX1_mayGoOn 13 = .ok (.getfield 31, 3) := by decide +kernel
theorem dX1_mayGoOn_16 : decode cX1_mayGoOn 16 = .ok (.iload 4, 2) := by decide +kernel
theorem dX1_mayGoOn_18 : decode cX1_mayGoOn 18 = .ok (.iaload, 1) := by decide +kernel
theorem dX1_mayGoOn_19 : decode cX1_mayGoOn 19 = .ok (.iload_n 3, 1) := by decide +kernel
theorem dX1_mayGoOn_20 : decode cX1_mayGoOn 20 = .ok (.if_icmp .ne 22, 3) := by decide +kernel
theorem dX1_mayGoOn_23 : decode cX1_mayGoOn 23 = .ok (.aload_n 1, 1) := by decide +kernel
theorem dX1_mayGoOn_24 : decode cX1_mayGoOn 24 = .ok (.getfield 40, 3) := by decide +kernel
theorem dX1_mayGoOn_27 : decode cX1_mayGoOn 27 = .ok (.iload 4, 2) := by decide +kernel
theorem dX1_mayGoOn_29 : decode cX1_mayGoOn 29 = .ok (.iaload, 1) := by decide +kernel
theorem dX1_mayGoOn_30 : decode cX1_mayGoOn 30 = .ok (.aload_n 2, 1) := by decide +kernel
theorem dX1_mayGoOn_31 : decode cX1_mayGoOn 31 = .ok (.invokevirtual 43, 3) := by decide +kernel
theorem dX1_mayGoOn_34 : decode cX1_mayGoOn 34 = .ok (.invokestatic 49, 3) := by decide +kernel
theorem dX1_mayGoOn_37 : decode cX1_mayGoOn 37 = .ok (.if_icmp .eq 5, 3) := by decide +kernel
theorem dX1_mayGoOn_40 : decode cX1_mayGoOn 40 = .ok (.iconst 0, 1) := by decide +kernel
theorem dX1_mayGoOn_41 : decode cX1_mayGoOn 41 = .ok (.ireturn, 1) := by decide +kernel
theorem dX1_mayGoOn_42 : decode cX1_mayGoOn 42 = .ok (.iinc 4 1, 3) := by decide +kernel
theorem dX1_mayGoOn_45 : decode cX1_mayGoOn 45 = .ok (.goto (-42), 3) := by decide +kernel
theorem dX1_mayGoOn_48 : decode cX1_mayGoOn 48 = .ok (.iconst 1, 1) := by decide +kernel
theorem dX1_mayGoOn_49 : decode cX1_mayGoOn 49 = .ok (.ireturn, 1) := by decide +kernel
theorem dX1_arrive_0 : decode cX1_arrive 0 = .ok (.aload_n 0, 1) := by decide +kernel
theorem dX1_arrive_1 : decode cX1_arrive 1 = .ok (.getfield 9, 3) := by decide +kernel
theorem dX1_arrive_4 : decode cX1_arrive 4 = .ok (.ifCond .ne 19, 3) := by decide +kernel
theorem dX1_arrive_7 : decode cX1_arrive 7 = .ok (.aload_n 0, 1) := by decide +kernel
theorem dX1_arrive_8 : decode cX1_arrive 8 = .ok (.invokevirtual 55, 3) := by decide +kernel
theorem dX1_arrive_11 : decode cX1_arrive 11 = .ok (.aload_n 0, 1) := by decide +kernel
theorem dX1_arrive_12 : decode cX1_arrive 12 = .ok (.iconst 1, 1) := by decide +kernel
theorem dX1_arrive_13 : decode cX1_arrive 13 = .ok (.aload_n 0, 1) := by decide +kernel
theorem dX1_arrive_14 : decode cX1_arrive 14 = .ok (.getfield 58, 3) := by decide +kernel
theorem dX1_arrive_17 : decode cX1_arrive 17 = .ok (.ishl, 1) := by decide +kernel
theorem dX1_arrive_18 : decode cX1_arrive 18 = .ok (.iconst 1, 1) := by decide +kernel
theorem dX1_arrive_19 : decode cX1_arrive 19 = .ok (.isub, 1) := by decide +kernel
theorem dX1_arrive_20 : decode cX1_arrive 20 = .ok (.putfield 15, 3) := by decide +kernel
theorem dX1_arrive_23 : decode cX1_arrive 23 = .ok (.iconst 0, 1) := by decide +kernel
theorem dX1_arrive_24 : decode cX1_arrive 24 = .ok (.istore_n 2, 1) := by decide +kernel
theorem dX1_arrive_25 : decode cX1_arrive 25 = .ok (.iload_n 2, 1) := by decide +kernel
theorem dX1_arrive_26 : decode cX1_arrive 26 = .ok (.aload_n 0, 1) := by decide +kernel
theorem dX1_arrive_27 : decode cX1_arrive 27 = .ok (.getfield 58, 3) := by decide +kernel
theorem dX1_arrive_30 : decode cX1_arrive 30 = .ok (.if_icmp .ge 38, 3) := by decide +kernel
theorem dX1_arrive_33 : decode cX1_arrive 33 = .ok (.aload_n 0, 1) := by decide +kernel
theorem dX1_arrive_34 : decode cX1_arrive 34 = .ok (.getfield 59, 3) := by decide +kernel
theorem dX1_arrive_37 : decode cX1_arrive 37 = .ok (.iload_n 2, 1) := by decide +kernel
theorem dX1_arrive_38 : decode cX1_arrive 38 = .ok (.iaload, 1) := by decide +kernel
theorem dX1_arrive_39 : decode cX1_arrive 39 = .ok (.aload_n 0, 1) := by decide +kernel
theorem dX1_arrive_40 : decode cX1_arrive 40 = .ok (.getfield 62, 3) := by decide +kernel
theorem dX1_arrive_43 : decode cX1_arrive 43 = .ok (.iload_n 2, 1) := by decide +kernel
theorem dX1_arrive_44 : decode cX1_arrive 44 = .ok (.iaload, 1) := by decide +kernel
theorem dX1_arrive_45 : decode cX1_arrive 45 = .ok (.if_icmp .eq 17, 3) := by decide +kernel
theorem dX1_arrive_48 : decode cX1_arrive 48 = .ok (.aload_n 0, 1) := by decide +kernel
theorem dX1_arrive_49 : decode cX1_arrive 49 = .ok (.dup, 1) := by decide +kernel
theorem dX1_arrive_50 : decode cX1_arrive 50 = .ok (.getfield 15, 3) := by decide +kernel
theorem dX1_arrive_53 : decode cX1_arrive 53 = .ok (.iconst 1, 1) := by decide +kernel
theorem dX1_arrive_54 : decode cX1_arrive 54 = .ok (.iload_n 2, 1) := by decide +kernel
theorem dX1_arrive_55 : decode cX1_arrive 55 = .ok (.ishl, 1) := by decide +kernel
theorem dX1_arrive_56 : decode cX1_arrive 56 = .ok (.iconst (-1), 1) := by decide +kernel
theorem dX1_arrive_57 : decode cX1_arrive 57 = .ok (.ixor, 1) := by decide +kernel
theorem dX1_arrive_58 : decode cX1_arrive 58 = .ok (.iand, 1) := by decide +kernel
theorem dX1_arrive_59 : decode cX1_arrive 59 = .ok (.putfield 15, 3) := by decide +kernel
theorem dX1_arrive_62 : decode cX1_arrive 62 = .ok (.iinc 2 1, 3) := by decide +kernel
theorem dX1_arrive_65 : decode cX1_arrive 65 = .ok (.goto (-40), 3) := by decide +kernel
theorem dX1_arrive_68 : decode cX1_arrive 68 = .ok (.aload_n 0, 1) := by decide +kernel
theorem dX1_arrive_69 : decode cX1_arrive 69 = .ok (.dup, 1) := by decide +kernel
theorem dX1_arrive_70 : decode cX1_arrive 70 = .ok (.getfield 9, 3) := by decide +kernel
theorem dX1_arrive_73 : decode cX1_arrive 73 = .ok (.iconst 1, 1) := by decide +kernel
theorem dX1_arrive_74 : decode cX1_arrive 74 = .ok (.iadd, 1) := by decide +kernel
theorem dX1_arrive_75 : decode cX1_arrive 75 = .ok (.putfield 9, 3) := by decide +kernel
theorem dX1_arrive_78 : decode cX1_arrive 78 = .ok (.return_, 1) := by decide +kernel
theorem dX1_signOfFirst_0 : decode cX1_signOfFirst 0 = .ok (.aload_n 0, 1) := by decide +kernel
theorem dX1_signOfFirst_1 : decode cX1_signOfFirst 1 = .ok (.getfield 9, 3) := by decide +kernel
theorem dX1_signOfFirst_4 : decode cX1_signOfFirst 4 = .ok (.ifCond .le 24, 3) := by decide +kernel
theorem dX1_signOfFirst_7 : decode cX1_signOfFirst 7 = .ok (.iload_n 1, 1) := by decide +kernel
theorem dX1_signOfFirst_8 : decode cX1_signOfFirst 8 = .ok (.ifCond .lt 20, 3) := by decide +kernel
theorem dX1_signOfFirst_11 : decode cX1_signOfFirst 11 = .ok (.iload_n 1, 1) := by decide +kernel
theorem dX1_signOfFirst_12 : decode cX1_signOfFirst 12 = .ok (.aload_n 0, 1) := by decide +kernel
theorem dX1_signOfFirst_13 : decode cX1_signOfFirst 13 = .ok (.getfield 58, 3) := by decide +kernel
theorem dX1_signOfFirst_16 : decode cX1_signOfFirst 16 = .ok (.if_icmp .ge 12, 3) := by decide +kernel
theorem dX1_signOfFirst_19 : decode cX1_signOfFirst 19 = .ok (.aload_n 0, 1) := by decide +kernel
theorem dX1_signOfFirst_20 : decode cX1_signOfFirst 20 = .ok (.getfield 62, 3) := by decide +kernel
theorem dX1_signOfFirst_23 : decode cX1_signOfFirst 23 = .ok (.iload_n 1, 1) := by decide +kernel
theorem dX1_signOfFirst_24 : decode cX1_signOfFirst 24 = .ok (.iaload, 1) := by decide +kernel
theorem dX1_signOfFirst_25 : decode cX1_signOfFirst 25 = .ok (.goto 5, 3) := by decide +kernel
theorem dX1_signOfFirst_28 : decode cX1_signOfFirst 28 = .ok (.bipush (-6), 2) := by decide +kernel
theorem dX1_signOfFirst_30 : decode cX1_signOfFirst 30 = .ok (.ireturn, 1) := by decide +kernel
theorem dX2_init_0 : decode cX2_init 0 = .ok (.aload_n 0, 1) := by decide +kernel
theorem dX2_init_1 : decode cX2_init 1 = .ok (.invokespecial 3, 3) := by decide +kernel
theorem dX2_init_4 : decode cX2_init 4 = .ok (.aload_n 0, 1) := by decide +kernel
theorem dX2_init_5 : decode cX2_init 5 = .ok (.bipush 7, 2) := by decide +kernel
theorem dX2_init_7 : decode cX2_init 7 = .ok (.newarray .int, 2) := by decide +kernel
theorem dX2_init_9 : decode cX2_init 9 = .ok (.putfield 9, 3) := by decide +kernel
theorem dX2_init_12 : decode cX2_init 12 = .ok (.aload_n 0, 1) := by decide +kernel
theorem dX2_init_13 : decode cX2_init 13 = .ok (.bipush 7, 2) := by decide +kernel
theorem dX2_init_15 : decode cX2_init 15 = .ok (.newarray .int, 2) := by decide +kernel
theorem dX2_init_17 : decode cX2_init 17 = .ok (.putfield 15, 3) := by decide +kernel
theorem dX2_init_20 : decode cX2_init 20 = .ok (.aload_n 0, 1) := by decide +kernel
theorem dX2_init_21 : decode cX2_init 21 = .ok (.bipush 7, 2) := by decide +kernel
theorem dX2_init_23 : decode cX2_init 23 = .ok (.newarray .int, 2) := by decide +kernel
theorem dX2_init_25 : decode cX2_init 25 = .ok (.putfield 18, 3) := by decide +kernel
theorem dX2_init_28 : decode cX2_init 28 = .ok (.aload_n 0, 1) := by decide +kernel
theorem dX2_init_29 : decode cX2_init 29 = .ok (.iconst 0, 1) := by decide +kernel
theorem dX2_init_30 : decode cX2_init 30 = .ok (.putfield 21, 3) := by decide +kernel
theorem dX2_init_33 : decode cX2_init 33 = .ok (.return_, 1) := by decide +kernel
theorem dX2_goThrough_0 : decode cX2_goThrough 0 = .ok (.iconst 0, 1) := by decide +kernel
theorem dX2_goThrough_1 : decode cX2_goThrough 1 = .ok (.istore 4, 2) := by decide +kernel
theorem dX2_goThrough_3 : decode cX2_goThrough 3 = .ok (.iload 4, 2) := by decide +kernel
theorem dX2_goThrough_5 : decode cX2_goThrough 5 = .ok (.bipush 7, 2) := by decide +kernel
theorem dX2_goThrough_7 : decode cX2_goThrough 7 = .ok (.if_icmp .ge 17, 3) := by decide +kernel
theorem dX2_goThrough_10 : decode cX2_goThrough 10 = .ok (.aload_n 0, 1) := by decide +kernel
theorem dX2_goThrough_11 : decode cX2_goThrough 11 = .ok (.getfield 18, 3) := by decide +kernel
theorem dX2_goThrough_14 : decode cX2_goThrough 14 = .ok (.iload 4, 2) := by decide +kernel
theorem dX2_goThrough_16 : decode cX2_goThrough 16 = .ok (.iconst 0, 1) := by decide +kernel
theorem dX2_goThrough_17 : decode cX2_goThrough 17 = .ok (.iastore, 1) := by decide +kernel
theorem dX2_goThrough_18 : decode cX2_goThrough 18 = .ok (.iinc 4 1, 3) := by decide +kernel
theorem dX2_goThrough_21 : decode cX2_goThrough 21 = .ok (.goto (-18), 3) := by decide +kernel
theorem dX2_goThrough_24 : decode cX2_goThrough 24 = .ok (.aload_n 0, 1) := by decide +kernel
theorem dX2_goThrough_25 : decode cX2_goThrough 25 = .ok (.aload_n 2, 1) := by decide +kernel
theorem dX2_goThrough_26 : decode cX2_goThrough 26 = .ok (.getfield 25, 3) := by decide +kernel
theorem dX2_goThrough_29 : decode cX2_goThrough 29 = .ok (.bipush 7, 2) := by decide +kernel
theorem dX2_goThrough_31 : decode cX2_goThrough 31 = .ok (.invokestatic 28, 3) := by decide +kernel
theorem dX2_goThrough_34 : decode cX2_goThrough 34 = .ok (.putfield 21, 3) := by decide +kernel
theorem dX2_goThrough_37 : decode cX2_goThrough 37 = .ok (.iconst 0, 1) := by decide +kernel
theorem dX2_goThrough_38 : decode cX2_goThrough 38 = .ok (.istore 4, 2) := by decide +kernel
theorem dX2_goThrough_40 : decode cX2_goThrough 40 = .ok (.iload 4, 2) := by decide +kernel
theorem dX2_goThrough_42 : decode cX2_goThrough 42 = .ok (.aload_n 0, 1) := by decide +kernel
theorem dX2_goThrough_43 : decode cX2_goThrough 43 = .ok (.getfield 21, 3) := by decide +kernel
theorem dX2_goThrough_46 : decode cX2_goThrough 46 = .ok (.if_icmp .ge 39, 3) := by decide +kernel
theorem dX2_goThrough_49 : decode cX2_goThrough 49 = .ok (.aload_n 2, 1) := by decide +kernel
theorem dX2_goThrough_50 : decode cX2_goThrough 50 = .ok (.getfield 34, 3) := by decide +kernel
theorem dX2_goThrough_53 : decode cX2_goThrough 53 = .ok (.iload 4, 2) := by decide +kernel
theorem dX2_goThrough_55 : decode cX2_goThrough 55 = .ok (.iaload, 1) := by decide +kernel
theorem dX2_goThrough_56 : decode cX2_goThrough 56 = .ok (.invokestatic 37, 3) := by decide +kernel
theorem dX2_goThrough_59 : decode cX2_goThrough 59 = .ok (.istore 5, 2) := by decide +kernel
theorem dX2_goThrough_61 : decode cX2_goThrough 61 = .ok (.iload 5, 2) := by decide +kernel
theorem dX2_goThrough_63 : decode cX2_goThrough 63 = .ok (.bipush (-6), 2) := by decide +kernel
theorem dX2_goThrough_65 : decode cX2_goThrough 65 = .ok (.if_icmp .eq 14, 3) := by decide +kernel
theorem dX2_goThrough_68 : decode cX2_goThrough 68 = .ok (.aload_n 0, 1) := by decide +kernel
theorem dX2_goThrough_69 : decode cX2_goThrough 69 = .ok (.getfield 18, 3) := by decide +kernel
theorem dX2_goThrough_72 : decode cX2_goThrough 72 = .ok (.iload 5, 2) := by decide +kernel
theorem dX2_goThrough_74 : decode cX2_goThrough 74 = .ok (.dup2, 1) := by decide +kernel
theorem dX2_goThrough_75 : decode cX2_goThrough 75 = .ok (.iaload, 1) := by decide +kernel
theorem dX2_goThrough_76 : decode cX2_goThrough 76 = .ok (.iconst 1, 1) := by decide +kernel
theorem dX2_goThrough_77 : decode cX2_goThrough 77 = .ok (.iadd, 1) := by decide +kernel
theorem dX2_goThrough_78 : decode cX2_goThrough 78 = .ok (.iastore, 1) := by decide +kernel
theorem dX2_goThrough_79 : decode cX2_goThrough 79 = .ok (.iinc 4 1, 3) := by decide +kernel
theorem dX2_goThrough_82 : decode cX2_goThrough 82 = .ok (.goto (-42), 3) := by decide +kernel
theorem dX2_goThrough_85 : decode cX2_goThrough 85 = .ok (.aload_n 3, 1) := by decide +kernel
theorem dX2_goThrough_86 : decode cX2_goThrough 86 = .ok (.iconst 0, 1) := by decide +kernel
theorem dX2_goThrough_87 : decode cX2_goThrough 87 = .ok (.aaload, 1) := by decide +kernel
theorem dX2_goThrough_88 : decode cX2_goThrough 88 = .ok (.aload_n 1, 1) := by decide +kernel
theorem dX2_goThrough_89 : decode cX2_goThrough 89 = .ok (.invokevirtual 41, 3) := by decide +kernel
theorem dX2_goThrough_92 : decode cX2_goThrough 92 = .ok (.aload_n 0, 1) := by decide +kernel
theorem dX2_goThrough_93 : decode cX2_goThrough 93 = .ok (.aload_n 1, 1) := by decide +kernel
theorem dX2_goThrough_94 : decode cX2_goThrough 94 = .ok (.aload_n 3, 1) := by decide +kernel
theorem dX2_goThrough_95 : decode cX2_goThrough 95 = .ok (.iconst 0, 1) := by decide +kernel
theorem dX2_goThrough_96 : decode cX2_goThrough 96 = .ok (.invokevirtual 47, 3) := by decide +kernel
theorem dX2_goThrough_99 : decode cX2_goThrough 99 = .ok (.return_, 1) := by decide +kernel
theorem dX2_goOn_0 : decode cX2_goOn 0 = .ok (.iload_n 3, 1) := by decide +kernel
theorem dX2_goOn_1 : decode cX2_goOn 1 = .ok (.aload_n 0, 1) := by decide +kernel
theorem dX2_goOn_2 : decode cX2_goOn 2 = .ok (.getfield 21, 3) := by decide +kernel
theorem dX2_goOn_5 : decode cX2_goOn 5 = .ok (.if_icmp .lt 11, 3) := by decide +kernel
theorem dX2_goOn_8 : decode cX2_goOn 8 = .ok (.aload_n 0, 1) := by decide +kernel
theorem dX2_goOn_9 : decode cX2_goOn 9 = .ok (.aload_n 2, 1) := by decide +kernel
theorem dX2_goOn_10 : decode cX2_goOn 10 = .ok (.iload_n 3, 1) := by decide +kernel
theorem dX2_goOn_11 : decode cX2_goOn 11 = .ok (.aaload, 1) := by decide +kernel
theorem dX2_goOn_12 : decode cX2_goOn 12 = .ok (.invokevirtual 51, 3) := by decide +kernel
theorem dX2_goOn_15 : decode cX2_goOn 15 = .ok (.return_, 1) := by decide +kernel
theorem dX2_goOn_16 : decode cX2_goOn 16 = .ok (.iconst 0, 1) := by decide +kernel
theorem dX2_goOn_17 : decode cX2_goOn 17 = .ok (.istore 4, 2) := by decide +kernel
theorem dX2_goOn_19 : decode cX2_goOn 19 = .ok (.iload 4, 2) := by decide +kernel
theorem dX2_goOn_21 : decode cX2_goOn 21 = .ok (.bipush 7, 2) := by decide +kernel
theorem dX2_goOn_23 : decode cX2_goOn 23 = .ok (.if_icmp .ge 101, 3) := by decide +kernel
theorem dX2_goOn_26 : decode cX2_goOn 26 = .ok (.aload_n 0, 1) := by decide +kernel
theorem dX2_goOn_27 : decode cX2_goOn 27 = .ok (.getfield 18, 3) := by decide +kernel
theorem dX2_goOn_30 : decode cX2_goOn 30 = .ok (.iload 4, 2) := by decide +kernel
theorem dX2_goOn_32 : decode cX2_goOn 32 = .ok (.iaload, 1) := by decide +kernel
theorem dX2_goOn_33 : decode cX2_goOn 33 = .ok (.ifCond .le 85, 3) := by decide +kernel
theorem dX2_goOn_36 : decode cX2_goOn 36 = .ok (.aload_n 0, 1) := by decide +kernel
theorem dX2_goOn_37 : decode cX2_goOn 37 = .ok (.getfield 9, 3) := by decide +kernel
theorem dX2_goOn_40 : decode cX2_goOn 40 = .ok (.iload_n 3, 1) := by decide +kernel
theorem dX2_goOn_41 : decode cX2_goOn 41 = .ok (.getstatic 55, 3) := by decide +kernel
theorem dX2_goOn_44 : decode cX2_goOn 44 = .ok (.iload 4, 2) := by decide +kernel
theorem dX2_goOn_46 : decode cX2_goOn 46 = .ok (.caload, 1) := by decide +kernel
theorem dX2_goOn_47 : decode cX2_goOn 47 = .ok (.iastore, 1) := by decide +kernel
theorem dX2_goOn_48 : decode cX2_goOn 48 = .ok (.aload_n 2, 1) := by decide +kernel
theorem dX2_goOn_49 : decode cX2_goOn 49 = .ok (.iload_n 3, 1) := by decide +kernel
theorem dX2_goOn_50 : decode cX2_goOn 50 = .ok (.iconst 1, 1) := by decide +kernel
theorem dX2_goOn_51 : decode cX2_goOn 51 = .ok (.iadd, 1) := by decide +kernel
theorem dX2_goOn_52 : decode cX2_goOn 52 = .ok (.aaload, 1) := by decide +kernel
theorem dX2_goOn_53 : decode cX2_goOn 53 = .ok (.astore 5, 2) := by decide +kernel
theorem dX2_goOn_55 : decode cX2_goOn 55 = .ok (.aload 5, 2) := by decide +kernel
theorem dX2_goOn_57 : decode cX2_goOn 57 = .ok (.aload_n 2, 1) := by decide +kernel
theorem dX2_goOn_58 : decode cX2_goOn 58 = .ok (.iload_n 3, 1) := by decide +kernel
theorem dX2_goOn_59 : decode cX2_goOn 59 = .ok (.aaload, 1) := by decide +kernel
theorem dX2_goOn_60 : decode cX2_goOn 60 = .ok (.invokevirtual 59, 3) := by decide +kernel
theorem dX2_goOn_63 : decode cX2_goOn 63 = .ok (.aload 5, 2) := by decide +kernel
theorem dX2_goOn_65 : decode cX2_goOn 65 = .ok (.aload_n 1, 1) := by decide +kernel
theorem dX2_goOn_66 : decode cX2_goOn 66 = .ok (.aload_n 0, 1) := by decide +kernel
theorem dX2_goOn_67 : decode cX2_goOn 67 = .ok (.getfield 9, 3) := by decide +kernel
theorem dX2_goOn_70 : decode cX2_goOn 70 = .ok (.iload_n 3, 1) := by decide +kernel
theorem dX2_goOn_71 : decode cX2_goOn 71 = .ok (.iaload, 1) := by decide +kernel
theorem dX2_goOn_72 : decode cX2_goOn 72 = .ok (.iconst 0, 1) := by decide +kernel
theorem dX2_goOn_73 : decode cX2_goOn 73 = .ok (.invokevirtual 62, 3) := by decide +kernel
theorem dX2_goOn_76 : decode cX2_goOn 76 = .ok (.aload_n 0, 1) := by decide +kernel
theorem dX2_goOn_77 : decode cX2_goOn 77 = .ok (.aload_n 1, 1) := by decide +kernel
theorem dX2_goOn_78 : decode cX2_goOn 78 = .ok (.aload 5, 2) := by decide +kernel
theorem dX2_goOn_80 : decode cX2_goOn 80 = .ok (.iload_n 3, 1) := by decide +kernel
theorem dX2_goOn_81 : decode cX2_goOn 81 = .ok (.invokevirtual 66, 3) := by decide +kernel
theorem dX2_goOn_84 : decode cX2_goOn 84 = .ok (.ifCond .eq 34, 3) := by decide +kernel
theorem dX2_goOn_87 : decode cX2_goOn 87 = .ok (.aload_n 0, 1) := by decide +kernel
theorem dX2_goOn_88 : decode cX2_goOn 88 = .ok (.getfield 18, 3) := by decide +kernel
theorem dX2_goOn_91 : decode cX2_goOn 91 = .ok (.iload 4, 2) := by decide +kernel
theorem dX2_goOn_93 : decode cX2_goOn 93 = .ok (.dup2, 1) := by decide +kernel
theorem dX2_goOn_94 : decode cX2_goOn 94 = .ok (.iaload, 1) := by decide +kernel
theorem dX2_goOn_95 : decode cX2_goOn 95 = .ok (.iconst 1, 1) := by decide +kernel
theorem dX2_goOn_96 : decode cX2_goOn 96 = .ok (.isub, 1) := by decide +kernel
theorem dX2_goOn_97 : decode cX2_goOn 97 = .ok (.iastore, 1) := by decide +kernel
theorem dX2_goOn_98 : decode cX2_goOn 98 = .ok (.aload_n 0, 1) := by decide +kernel
theorem dX2_goOn_99 : decode cX2_goOn 99 = .ok (.aload_n 1, 1) := by decide +kernel
theorem dX2_goOn_100 : decode cX2_goOn 100 = .ok (.aload_n 2, 1) := by decide +kernel
theorem dX2_goOn_101 : decode cX2_goOn 101 = .ok (.iload_n 3, 1) := by decide +kernel
theorem dX2_goOn_102 : decode cX2_goOn 102 = .ok (.iconst 1, 1) := by decide +kernel
theorem dX2_goOn_103 : decode cX2_goOn 103 = .ok (.iadd, 1) := by decide +kernel
theorem dX2_goOn_104 : decode cX2_goOn 104 = .ok (.invokevirtual 47, 3) := by decide +kernel
theorem dX2_goOn_107 : decode cX2_goOn 107 = .ok (.aload_n 0, 1) := by decide +kernel
theorem dX2_goOn_108 : decode cX2_goOn 108 = .ok (.getfield 18, 3) := by decide +kernel
theorem dX2_goOn_111 : decode cX2_goOn 111 = .ok (.iload 4, 2) := by decide +kernel
theorem dX2_goOn_113 : decode cX2_goOn 113 = .ok (.dup2, 1) := by decide +kernel
theorem dX2_goOn_114 : decode cX2_goOn 114 = .ok (.iaload, 1) := by decide +kernel
theorem dX2_goOn_115 : decode cX2_goOn 115 = .ok (.iconst 1, 1) := by decide +kernel
theorem dX2_goOn_116 : decode cX2_goOn 116 = .ok (.iadd, 1) := by decide +kernel
theorem dX2_goOn_117 : decode cX2_goOn 117 = .ok (.iastore, 1) := by decide +kernel
theorem dX2_goOn_118 : decode cX2_goOn 118 = .ok (.iinc 4 1, 3) := by decide +kernel
theorem dX2_goOn_121 : decode cX2_goOn 121 = .ok (.goto (-102), 3) := by decide +kernel
theorem dX2_goOn_124 : decode cX2_goOn 124 = .ok (.return_, 1) := by decide +kernel
theorem dX2_keepAsFirst_0 : decode cX2_keepAsFirst 0 = .ok (.aload_n 0, 1) := by decide +kernel
theorem dX2_keepAsFirst_1 : decode cX2_keepAsFirst 1 = .ok (.getfield 9, 3) := by decide +kernel
theorem dX2_keepAsFirst_4 : decode cX2_keepAsFirst 4 = .ok (.iconst 0, 1) := by decide +kernel
theorem dX2_keepAsFirst_5 : decode cX2_keepAsFirst 5 = .ok (.aload_n 0, 1) := by decide +kernel
theorem dX2_keepAsFirst_6 : decode cX2_keepAsFirst 6 = .ok (.getfield 15, 3) := by decide +kernel
theorem dX2_keepAsFirst_9 : decode cX2_keepAsFirst 9 = .ok (.iconst 0, 1) := by decide +kernel
theorem dX2_keepAsFirst_10 : decode cX2_keepAsFirst 10 = .ok (.aload_n 0, 1) := by decide +kernel
theorem dX2_keepAsFirst_11 : decode cX2_keepAsFirst 11 = .ok (.getfield 21, 3) := by decide +kernel
theorem dX2_keepAsFirst_14 : decode cX2_keepAsFirst 14 = .ok (.invokestatic 70, 3) := by decide +kernel
theorem dX2_keepAsFirst_17 : decode cX2_keepAsFirst 17 = .ok (.return_, 1) := by decide +kernel
theorem dX3_init_0 : decode cX3_init 0 = .ok (.aload_n 0, 1) := by decide +kernel
theorem dX3_init_1 : decode cX3_init 1 = .ok (.invokespecial 3, 3) := by decide +kernel
theorem dX3_init_4 : decode cX3_init 4 = .ok (.aload_n 0, 1) := by decide +kernel
theorem dX3_init_5 : decode cX3_init 5 = .ok (.bipush 60, 2) := by decide +kernel
theorem dX3_init_7 : decode cX3_init 7 = .ok (.newarray .int, 2) := by decide +kernel
theorem dX3_init_9 : decode cX3_init 9 = .ok (.putfield 9, 3) := by decide +kernel
theorem dX3_init_12 : decode cX3_init 12 = .ok (.aload_n 0, 1) := by decide +kernel
theorem dX3_init_13 : decode cX3_init 13 = .ok (.iconst 0, 1) := by decide +kernel
theorem dX3_init_14 : decode cX3_init 14 = .ok (.putfield 15, 3) := by decide +kernel
theorem dX3_init_17 : decode cX3_init 17 = .ok (.return_, 1) := by decide +kernel
theorem dX3_firstFault_0 : decode cX3_firstFault 0 = .ok (.iconst 0, 1) := by decide +kernel
theorem dX3_firstFault_1 : decode cX3_firstFault 1 = .ok (.istore_n 1, 1) := by decide +kernel
theorem dX3_firstFault_2 : decode cX3_firstFault 2 = .ok (.iload_n 1, 1) := by decide +kernel
theorem dX3_firstFault_3 : decode cX3_firstFault 3 = .ok (.aload_n 0, 1) := by decide +kernel
theorem dX3_firstFault_4 : decode cX3_firstFault 4 = .ok (.getfield 15, 3) := by decide +kernel
theorem dX3_firstFault_7 : decode cX3_firstFault 7 = .ok (.if_icmp .ge 25, 3) := by decide +kernel
theorem dX3_firstFault_10 : decode cX3_firstFault 10 = .ok (.aload_n 0, 1) := by decide +kernel
theorem dX3_firstFault_11 : decode cX3_firstFault 11 = .ok (.getfield 9, 3) := by decide +kernel
theorem dX3_firstFault_14 : decode cX3_firstFault 14 = .ok (.iload_n 1, 1) := by decide +kernel
theorem dX3_firstFault_15 : decode cX3_firstFault 15 = .ok (.iaload, 1) := by decide +kernel
theorem dX3_firstFault_16 : decode cX3_firstFault 16 = .ok (.invokestatic 19, 3) := by decide +kernel
theorem dX3_firstFault_19 : decode cX3_firstFault 19 = .ok (.bipush (-6), 2) := by decide +kernel
theorem dX3_firstFault_21 : decode cX3_firstFault 21 = .ok (.if_icmp .ne 5, 3) := by decide +kernel
theorem dX3_firstFault_24 : decode cX3_firstFault 24 = .ok (.iload_n 1, 1) := by decide +kernel
theorem dX3_firstFault_25 : decode cX3_firstFault 25 = .ok (.ireturn, 1) := by decide +kernel
theorem dX3_firstFault_26 : decode cX3_firstFault 26 = .ok (.iinc 1 1, 3) := by decide +kernel
theorem dX3_firstFault_29 : decode cX3_firstFault 29 = .ok (.goto (-27), 3) := by decide +kernel
theorem dX3_firstFault_32 : decode cX3_firstFault 32 = .ok (.bipush (-6), 2) := by decide +kernel
theorem dX3_firstFault_34 : decode cX3_firstFault 34 = .ok (.ireturn, 1) := by decide +kernel
theorem dX3_hasFault_0 : decode cX3_hasFault 0 = .ok (.aload_n 0, 1) := by decide +kernel
theorem dX3_hasFault_1 : decode cX3_hasFault 1 = .ok (.invokevirtual 23, 3) := by decide +kernel
theorem dX3_hasFault_4 : decode cX3_hasFault 4 = .ok (.bipush (-6), 2) := by decide +kernel
theorem dX3_hasFault_6 : decode cX3_hasFault 6 = .ok (.if_icmp .eq 7, 3) := by decide +kernel
theorem dX3_hasFault_9 : decode cX3_hasFault 9 = .ok (.iconst 1, 1) := by decide +kernel
theorem dX3_hasFault_10 : decode cX3_hasFault 10 = .ok (.goto 4, 3) := by decide +kernel
theorem dX3_hasFault_13 : decode cX3_hasFault 13 = .ok (.iconst 0, 1) := by decide +kernel
theorem dX3_hasFault_14 : decode cX3_hasFault 14 = .ok (.ireturn, 1) := by decide +kernel
theorem dX3_kindOf_0 : decode cX3_kindOf 0 = .ok (.iconst 0, 1) := by decide +kernel
theorem dX3_kindOf_1 : decode cX3_kindOf 1 = .ok (.istore_n 1, 1) := by decide +kernel
theorem dX3_kindOf_2 : decode cX3_kindOf 2 = .ok (.iload_n 1, 1) := by decide +kernel
theorem dX3_kindOf_3 : decode cX3_kindOf 3 = .ok (.bipush 7, 2) := by decide +kernel
theorem dX3_kindOf_5 : decode cX3_kindOf 5 = .ok (.if_icmp .ge 20, 3) := by decide +kernel
theorem dX3_kindOf_8 : decode cX3_kindOf 8 = .ok (.getstatic 27, 3) := by decide +kernel
theorem dX3_kindOf_11 : decode cX3_kindOf 11 = .ok (.iload_n 1, 1) := by decide +kernel
theorem dX3_kindOf_12 : decode cX3_kindOf 12 = .ok (.caload, 1) := by decide +kernel
theorem dX3_kindOf_13 : decode cX3_kindOf 13 = .ok (.iload_n 0, 1) := by decide +kernel
theorem dX3_kindOf_14 : decode cX3_kindOf 14 = .ok (.if_icmp .ne 5, 3) := by decide +kernel
theorem dX3_kindOf_17 : decode cX3_kindOf 17 = .ok (.iload_n 1, 1) := by decide +kernel
theorem dX3_kindOf_18 : decode cX3_kindOf 18 = .ok (.ireturn, 1) := by decide +kernel
theorem dX3_kindOf_19 : decode cX3_kindOf 19 = .ok (.iinc 1 1, 3) := by decide +kernel
theorem dX3_kindOf_22 : decode cX3_kindOf 22 = .ok (.goto (-20), 3) := by decide +kernel
theorem dX3_kindOf_25 : decode cX3_kindOf 25 = .ok (.bipush (-6), 2) := by decide +kernel
theorem dX3_kindOf_27 : decode cX3_kindOf 27 = .ok (.ireturn, 1) := by decide +kernel
theorem dX4_init_0 : decode cX4_init 0 = .ok (.aload_n 0, 1) := by decide +kernel
theorem dX4_init_1 : decode cX4_init 1 = .ok (.invokespecial 3, 3) := by decide +kernel
theorem dX4_init_4 : decode cX4_init 4 = .ok (.aload_n 0, 1) := by decide +kernel
theorem dX4_init_5 : decode cX4_init 5 = .ok (.iconst 2, 1) := by decide +kernel
theorem dX4_init_6 : decode cX4_init 6 = .ok (.putfield 9, 3) := by decide +kernel
theorem dX4_init_9 : decode cX4_init 9 = .ok (.aload_n 0, 1) := by decide +kernel
theorem dX4_init_10 : decode cX4_init 10 = .ok (.iconst 4, 1) := by decide +kernel
theorem dX4_init_11 : decode cX4_init 11 = .ok (.putfield 15, 3) := by decide +kernel
theorem dX4_init_14 : decode cX4_init 14 = .ok (.aload_n 0, 1) := by decide +kernel
theorem dX4_init_15 : decode cX4_init 15 = .ok (.iconst 1, 1) := by decide +kernel
theorem dX4_init_16 : decode cX4_init 16 = .ok (.putfield 18, 3) := by decide +kernel
theorem dX4_init_19 : decode cX4_init 19 = .ok (.aload_n 0, 1) := by decide +kernel
theorem dX4_init_20 : decode cX4_init 20 = .ok (.iconst 0, 1) := by decide +kernel
theorem dX4_init_21 : decode cX4_init 21 = .ok (.putfield 21, 3) := by decide +kernel
theorem dX4_init_24 : decode cX4_init 24 = .ok (.aload_n 0, 1) := by decide +kernel
theorem dX4_init_25 : decode cX4_init 25 = .ok (.iconst 0, 1) := by decide +kernel
theorem dX4_init_26 : decode cX4_init 26 = .ok (.putfield 24, 3) := by decide +kernel
theorem dX4_init_29 : decode cX4_init 29 = .ok (.aload_n 0, 1) := by decide +kernel
theorem dX4_init_30 : decode cX4_init 30 = .ok (.iconst 0, 1) := by decide +kernel
theorem dX4_init_31 : decode cX4_init 31 = .ok (.putfield 27, 3) := by decide +kernel
theorem dX4_init_34 : decode cX4_init 34 = .ok (.aload_n 0, 1) := by decide +kernel
theorem dX4_init_35 : decode cX4_init 35 = .ok (.iconst 0, 1) := by decide +kernel
theorem dX4_init_36 : decode cX4_init 36 = .ok (.putfield 30, 3) := by decide +kernel
theorem dX4_init_39 : decode cX4_init 39 = .ok (.aload_n 0, 1) := by decide +kernel
theorem dX4_init_40 : decode cX4_init 40 = .ok (.bipush 8, 2) := by decide +kernel
theorem dX4_init_42 : decode cX4_init 42 = .ok (.newarray .int, 2) := by decide +kernel
theorem dX4_init_44 : decode cX4_init 44 = .ok (.putfield 33, 3) := by decide +kernel
theorem dX4_init_47 : decode cX4_init 47 = .ok (.aload_n 0, 1) := by decide +kernel
theorem dX4_init_48 : decode cX4_init 48 = .ok (.bipush 8, 2) := by decide +kernel
theorem dX4_init_50 : decode cX4_init 50 = .ok (.newarray .int, 2) := by decide +kernel
theorem dX4_init_52 : decode cX4_init 52 = .ok (.putfield 37, 3) := by decide +kernel
theorem dX4_init_55 : decode cX4_init 55 = .ok (.aload_n 0, 1) := by decide +kernel
theorem dX4_init_56 : decode cX4_init 56 = .ok (.bipush 8, 2) := by decide +kernel
theorem dX4_init_58 : decode cX4_init 58 = .ok (.newarray .int, 2) := by decide +kernel
theorem dX4_init_60 : decode cX4_init 60 = .ok (.putfield 40, 3) := by decide +kernel
theorem dX4_init_63 : decode cX4_init 63 = .ok (.aload_n 0, 1) := by decide +kernel
theorem dX4_init_64 : decode cX4_init 64 = .ok (.bipush 8, 2) := by decide +kernel
theorem dX4_init_66 : decode cX4_init 66 = .ok (.newarray .int, 2) := by decide +kernel
theorem dX4_init_68 : decode cX4_init 68 = .ok (.putfield 43, 3) := by decide +kernel
theorem dX4_init_71 : decode cX4_init 71 = .ok (.aload_n 0, 1) := by decide +kernel
theorem dX4_init_72 : decode cX4_init 72 = .ok (.bipush 8, 2) := by decide +kernel
theorem dX4_init_74 : decode cX4_init 74 = .ok (.newarray .int, 2) := by decide +kernel
theorem dX4_init_76 : decode cX4_init 76 = .ok (.putfield 46, 3) := by decide +kernel
theorem dX4_init_79 : decode cX4_init 79 = .ok (.aload_n 0, 1) := by decide +kernel
theorem dX4_init_80 : decode cX4_init 80 = .ok (.bipush 8, 2) := by decide +kernel
theorem dX4_init_82 : decode cX4_init 82 = .ok (.newarray .int, 2) := by decide +kernel
theorem dX4_init_84 : decode cX4_init 84 = .ok (.putfield 49, 3) := by decide +kernel
theorem dX4_init_87 : decode cX4_init 87 = .ok (.return_, 1) := by decide +kernel
theorem dX4_become_0 : decode cX4_become 0 = .ok (.aload_n 0, 1) := by decide +kernel
theorem dX4_become_1 : decode cX4_become 1 = .ok (.aload_n 1, 1) := by decide +kernel
theorem dX4_become_2 : decode cX4_become 2 = .ok (.getfield 9, 3) := by decide +kernel
theorem dX4_become_5 : decode cX4_become 5 = .ok (.putfield 9, 3) := by decide +kernel
theorem dX4_become_8 : decode cX4_become 8 = .ok (.aload_n 0, 1) := by decide +kernel
theorem dX4_become_9 : decode cX4_become 9 = .ok (.aload_n 1, 1) := by decide +kernel
theorem dX4_become_10 : decode cX4_become 10 = .ok (.getfield 15, 3) := by decide +kernel
theorem dX4_become_13 : decode cX4_become 13 = .ok (.putfield 15, 3) := by decide +kernel
theorem dX4_become_16 : decode cX4_become 16 = .ok (.aload_n 0, 1) := by decide +kernel
theorem dX4_become_17 : decode cX4_become 17 = .ok (.aload_n 1, 1) := by decide +kernel
theorem dX4_become_18 : decode cX4_become 18 = .ok (.getfield 18, 3) := by decide +kernel
theorem dX4_become_21 : decode cX4_become 21 = .ok (.putfield 18, 3) := by decide +kernel
theorem dX4_become_24 : decode cX4_become 24 = .ok (.aload_n 0, 1) := by decide +kernel
theorem dX4_become_25 : decode cX4_become 25 = .ok (.aload_n 1, 1) := by decide +kernel
theorem dX4_become_26 : decode cX4_become 26 = .ok (.getfield 21, 3) := by decide +kernel
theorem dX4_become_29 : decode cX4_become 29 = .ok (.putfield 21, 3) := by decide +kernel
theorem dX4_become_32 : decode cX4_become 32 = .ok (.aload_n 0, 1) := by decide +kernel
theorem dX4_become_33 : decode cX4_become 33 = .ok (.aload_n 1, 1) := by decide +kernel
theorem dX4_become_34 : decode cX4_become 34 = .ok (.getfield 24, 3) := by decide +kernel
theorem dX4_become_37 : decode cX4_become 37 = .ok (.putfield 24, 3) := by decide +kernel
theorem dX4_become_40 : decode cX4_become 40 = .ok (.aload_n 0, 1) := by decide +kernel
theorem dX4_become_41 : decode cX4_become 41 = .ok (.aload_n 1, 1) := by decide +kernel
theorem dX4_become_42 : decode cX4_become 42 = .ok (.getfield 27, 3) := by decide +kernel
theorem dX4_become_45 : decode cX4_become 45 = .ok (.putfield 27, 3) := by decide +kernel
theorem dX4_become_48 : decode cX4_become 48 = .ok (.aload_n 0, 1) := by decide +kernel
theorem dX4_become_49 : decode cX4_become 49 = .ok (.aload_n 1, 1) := by decide +kernel
theorem dX4_become_50 : decode cX4_become 50 = .ok (.getfield 30, 3) := by decide +kernel
theorem dX4_become_53 : decode cX4_become 53 = .ok (.putfield 30, 3) := by decide +kernel
theorem dX4_become_56 : decode cX4_become 56 = .ok (.aload_n 1, 1) := by decide +kernel
theorem dX4_become_57 : decode cX4_become 57 = .ok (.getfield 33, 3) := by decide +kernel
theorem dX4_become_60 : decode cX4_become 60 = .ok (.iconst 0, 1) := by decide +kernel
theorem dX4_become_61 : decode cX4_become 61 = .ok (.aload_n 0, 1) := by decide +kernel
theorem dX4_become_62 : decode cX4_become 62 = .ok (.getfield 33, 3) := by decide +kernel
theorem dX4_become_65 : decode cX4_become 65 = .ok (.iconst 0, 1) := by decide +kernel
theorem dX4_become_66 : decode cX4_become 66 = .ok (.bipush 8, 2) := by decide +kernel
theorem dX4_become_68 : decode cX4_become 68 = .ok (.invokestatic 52, 3) := by decide +kernel
theorem dX4_become_71 : decode cX4_become 71 = .ok (.aload_n 1, 1) := by decide +kernel
theorem dX4_become_72 : decode cX4_become 72 = .ok (.getfield 37, 3) := by decide +kernel
theorem dX4_become_75 : decode cX4_become 75 = .ok (.iconst 0, 1) := by decide +kernel
theorem dX4_become_76 : decode cX4_become 76 = .ok (.aload_n 0, 1) := by decide +kernel
theorem dX4_become_77 : decode cX4_become 77 = .ok (.getfield 37, 3) := by decide +kernel
theorem dX4_become_80 : decode cX4_become 80 = .ok (.iconst 0, 1) := by decide +kernel
theorem dX4_become_81 : decode cX4_become 81 = .ok (.bipush 8, 2) := by decide +kernel
theorem dX4_become_83 : decode cX4_become 83 = .ok (.invokestatic 52, 3) := by decide +kernel
theorem dX4_become_86 : decode cX4_become 86 = .ok (.aload_n 1, 1) := by decide +kernel
theorem dX4_become_87 : decode cX4_become 87 = .ok (.getfield 40, 3) := by decide +kernel
theorem dX4_become_90 : decode cX4_become 90 = .ok (.iconst 0, 1) := by decide +kernel
theorem dX4_become_91 : decode cX4_become 91 = .ok (.aload_n 0, 1) := by decide +kernel
theorem dX4_become_92 : decode cX4_become 92 = .ok (.getfield 40, 3) := by decide +kernel
theorem dX4_become_95 : decode cX4_become 95 = .ok (.iconst 0, 1) := by decide +kernel
theorem dX4_become_96 : decode cX4_become 96 = .ok (.bipush 8, 2) := by decide +kernel
theorem dX4_become_98 : decode cX4_become 98 = .ok (.invokestatic 52, 3) := by decide +kernel
theorem dX4_become_101 : decode cX4_become 101 = .ok (.aload_n 1, 1) := by decide +kernel
theorem dX4_become_102 : decode cX4_become 102 = .ok (.getfield 43, 3) := by decide +kernel
theorem dX4_become_105 : decode cX4_become 105 = .ok (.iconst 0, 1) := by decide +kernel
theorem dX4_become_106 : decode cX4_become 106 = .ok (.aload_n 0, 1) := by decide +kernel
theorem dX4_become_107 : decode cX4_become 107 = .ok (.getfield 43, 3) := by decide +kernel
theorem dX4_become_110 : decode cX4_become 110 = .ok (.iconst 0, 1) := by decide +kernel
theorem dX4_become_111 : decode cX4_become 111 = .ok (.bipush 8, 2) := by decide +kernel
theorem dX4_become_113 : decode cX4_become 113 = .ok (.invokestatic 52, 3) := by decide +kernel
theorem dX4_become_116 : decode cX4_become 116 = .ok (.aload_n 1, 1) := by decide +kernel
theorem dX4_become_117 : decode cX4_become 117 = .ok (.getfield 46, 3) := by decide +kernel
theorem dX4_become_120 : decode cX4_become 120 = .ok (.iconst 0, 1) := by decide +kernel
theorem dX4_become_121 : decode cX4_become 121 = .ok (.aload_n 0, 1) := by decide +kernel
theorem dX4_become_122 : decode cX4_become 122 = .ok (.getfield 46, 3) := by decide +kernel
theorem dX4_become_125 : decode cX4_become 125 = .ok (.iconst 0, 1) := by decide +kernel
theorem dX4_become_126 : decode cX4_become 126 = .ok (.bipush 8, 2) := by decide +kernel
theorem dX4_become_128 : decode cX4_become 128 = .ok (.invokestatic 52, 3) := by decide +kernel
theorem dX4_become_131 : decode cX4_become 131 = .ok (.aload_n 1, 1) := by decide +kernel
theorem dX4_become_132 : decode cX4_become 132 = .ok (.getfield 49, 3) := by decide +kernel
theorem dX4_become_135 : decode cX4_become 135 = .ok (.iconst 0, 1) := by decide +kernel
theorem dX4_become_136 : decode cX4_become 136 = .ok (.aload_n 0, 1) := by decide +kernel
theorem dX4_become_137 : decode cX4_become 137 = .ok (.getfield 49, 3) := by decide +kernel
theorem dX4_become_140 : decode cX4_become 140 = .ok (.iconst 0, 1) := by decide +kernel
theorem dX4_become_141 : decode cX4_become 141 = .ok (.bipush 8, 2) := by decide +kernel
theorem dX4_become_143 : decode cX4_become 143 = .ok (.invokestatic 52, 3) := by decide +kernel
theorem dX4_become_146 : decode cX4_become 146 = .ok (.return_, 1) := by decide +kernel
theorem dX4_rebuild_0 : decode cX4_rebuild 0 = .ok (.aload_n 0, 1) := by decide +kernel
theorem dX4_rebuild_1 : decode cX4_rebuild 1 = .ok (.iload_n 1, 1) := by decide +kernel
theorem dX4_rebuild_2 : decode cX4_rebuild 2 = .ok (.putfield 9, 3) := by decide +kernel
theorem dX4_rebuild_5 : decode cX4_rebuild 5 = .ok (.aload_n 0, 1) := by decide +kernel
theorem dX4_rebuild_6 : decode cX4_rebuild 6 = .ok (.iconst 0, 1) := by decide +kernel
theorem dX4_rebuild_7 : decode cX4_rebuild 7 = .ok (.putfield 21, 3) := by decide +kernel
theorem dX4_rebuild_10 : decode cX4_rebuild 10 = .ok (.aload_n 0, 1) := by decide +kernel
theorem dX4_rebuild_11 : decode cX4_rebuild 11 = .ok (.iconst 0, 1) := by decide +kernel
theorem dX4_rebuild_12 : decode cX4_rebuild 12 = .ok (.putfield 24, 3) := by decide +kernel
theorem dX4_rebuild_15 : decode cX4_rebuild 15 = .ok (.aload_n 0, 1) := by decide +kernel
theorem dX4_rebuild_16 : decode cX4_rebuild 16 = .ok (.iconst 0, 1) := by decide +kernel
theorem dX4_rebuild_17 : decode cX4_rebuild 17 = .ok (.putfield 27, 3) := by decide +kernel
theorem dX4_rebuild_20 : decode cX4_rebuild 20 = .ok (.aload_n 0, 1) := by decide +kernel
theorem dX4_rebuild_21 : decode cX4_rebuild 21 = .ok (.iconst 0, 1) := by decide +kernel
theorem dX4_rebuild_22 : decode cX4_rebuild 22 = .ok (.putfield 30, 3) := by decide +kernel
theorem dX4_rebuild_25 : decode cX4_rebuild 25 = .ok (.return_, 1) := by decide +kernel
theorem dX4_changeReach_0 : decode cX4_changeReach 0 = .ok (.aload_n 0, 1) := by decide +kernel
theorem dX4_changeReach_1 : decode cX4_changeReach 1 = .ok (.getfield 15, 3) := by decide +kernel
theorem dX4_changeReach_4 : decode cX4_changeReach 4 = .ok (.istore_n 2, 1) := by decide +kernel
theorem dX4_changeReach_5 : decode cX4_changeReach 5 = .ok (.aload_n 0, 1) := by decide +kernel
theorem dX4_changeReach_6 : decode cX4_changeReach 6 = .ok (.iload_n 1, 1) := by decide +kernel
theorem dX4_changeReach_7 : decode cX4_changeReach 7 = .ok (.putfield 15, 3) := by decide +kernel
theorem dX4_changeReach_10 : decode cX4_changeReach 10 = .ok (.iload_n 2, 1) := by decide +kernel
theorem dX4_changeReach_11 : decode cX4_changeReach 11 = .ok (.ireturn, 1) := by decide +kernel
theorem dX4_changeRate_0 : decode cX4_changeRate 0 = .ok (.aload_n 0, 1) := by decide +kernel
theorem dX4_changeRate_1 : decode cX4_changeRate 1 = .ok (.getfield 18, 3) := by decide +kernel
theorem dX4_changeRate_4 : decode cX4_changeRate 4 = .ok (.istore_n 2, 1) := by decide +kernel
theorem dX4_changeRate_5 : decode cX4_changeRate 5 = .ok (.aload_n 0, 1) := by decide +kernel
theorem dX4_changeRate_6 : decode cX4_changeRate 6 = .ok (.iload_n 1, 1) := by decide +kernel
theorem dX4_changeRate_7 : decode cX4_changeRate 7 = .ok (.putfield 18, 3) := by decide +kernel
theorem dX4_changeRate_10 : decode cX4_changeRate 10 = .ok (.iload_n 2, 1) := by decide +kernel
theorem dX4_changeRate_11 : decode cX4_changeRate 11 = .ok (.ireturn, 1) := by decide +kernel
theorem dX4_changeInspector_0 : decode cX4_changeInspector 0 = .ok (.aload_n 0, 1) := by decide +kernel
theorem dX4_changeInspector_1 : decode cX4_changeInspector 1 = .ok (.getfield 21, 3) := by decide +kernel
theorem dX4_changeInspector_4 : decode cX4_changeInspector 4 = .ok (.istore_n 2, 1) := by decide +kernel
theorem dX4_changeInspector_5 : decode cX4_changeInspector 5 = .ok (.aload_n 0, 1) := by decide +kernel
theorem dX4_changeInspector_6 : decode cX4_changeInspector 6 = .ok (.iload_n 1, 1) := by decide +kernel
theorem dX4_changeInspector_7 : decode cX4_changeInspector 7 = .ok (.putfield 21, 3) := by decide +kernel
theorem dX4_changeInspector_10 : decode cX4_changeInspector 10 = .ok (.iload_n 2, 1) := by decide +kernel
theorem dX4_changeInspector_11 : decode cX4_changeInspector 11 = .ok (.ireturn, 1) := by decide +kernel
theorem dX4_addSight_0 : decode cX4_addSight 0 = .ok (.aload_n 0, 1) := by decide +kernel
theorem dX4_addSight_1 : decode cX4_addSight 1 = .ok (.getfield 46, 3) := by decide +kernel
theorem dX4_addSight_4 : decode cX4_addSight 4 = .ok (.aload_n 0, 1) := by decide +kernel
theorem dX4_addSight_5 : decode cX4_addSight 5 = .ok (.getfield 30, 3) := by decide +kernel
theorem dX4_addSight_8 : decode cX4_addSight 8 = .ok (.iload_n 1, 1) := by decide +kernel
theorem dX4_addSight_9 : decode cX4_addSight 9 = .ok (.iastore, 1) := by decide +kernel
theorem dX4_addSight_10 : decode cX4_addSight 10 = .ok (.aload_n 0, 1) := by decide +kernel
theorem dX4_addSight_11 : decode cX4_addSight 11 = .ok (.getfield 49, 3) := by decide +kernel
theorem dX4_addSight_14 : decode cX4_addSight 14 = .ok (.aload_n 0, 1) := by decide +kernel
theorem dX4_addSight_15 : decode cX4_addSight 15 = .ok (.getfield 30, 3) := by decide +kernel
theorem dX4_addSight_18 : decode cX4_addSight 18 = .ok (.iload_n 2, 1) := by decide +kernel
theorem dX4_addSight_19 : decode cX4_addSight 19 = .ok (.iastore, 1) := by decide +kernel
theorem dX4_addSight_20 : decode cX4_addSight 20 = .ok (.aload_n 0, 1) := by decide +kernel
theorem dX4_addSight_21 : decode cX4_addSight 21 = .ok (.dup, 1) := by decide +kernel
theorem dX4_addSight_22 : decode cX4_addSight 22 = .ok (.getfield 30, 3) := by decide +kernel
theorem dX4_addSight_25 : decode cX4_addSight 25 = .ok (.iconst 1, 1) := by decide +kernel
theorem dX4_addSight_26 : decode cX4_addSight 26 = .ok (.iadd, 1) := by decide +kernel
theorem dX4_addSight_27 : decode cX4_addSight 27 = .ok (.putfield 30, 3) := by decide +kernel
theorem dX4_addSight_30 : decode cX4_addSight 30 = .ok (.aload_n 0, 1) := by decide +kernel
theorem dX4_addSight_31 : decode cX4_addSight 31 = .ok (.getfield 30, 3) := by decide +kernel
theorem dX4_addSight_34 : decode cX4_addSight 34 = .ok (.ireturn, 1) := by decide +kernel
theorem dX4_seats_0 : decode cX4_seats 0 = .ok (.aload_n 0, 1) := by decide +kernel
theorem dX4_seats_1 : decode cX4_seats 1 = .ok (.getfield 9, 3) := by decide +kernel
theorem dX4_seats_4 : decode cX4_seats 4 = .ok (.iconst 4, 1) := by decide +kernel
theorem dX4_seats_5 : decode cX4_seats 5 = .ok (.imul, 1) := by decide +kernel
theorem dX4_seats_6 : decode cX4_seats 6 = .ok (.ireturn, 1) := by decide +kernel
theorem dX4_howMany_0 : decode cX4_howMany 0 = .ok (.aload_n 0, 1) := by decide +kernel
theorem dX4_howMany_1 : decode cX4_howMany 1 = .ok (.getfield 24, 3) := by decide +kernel
theorem dX4_howMany_4 : decode cX4_howMany 4 = .ok (.invokestatic 58, 3) := by decide +kernel
theorem dX4_howMany_7 : decode cX4_howMany 7 = .ok (.ireturn, 1) := by decide +kernel
theorem dX4_isThere_0 : decode cX4_isThere 0 = .ok (.iload_n 1, 1) := by decide +kernel
theorem dX4_isThere_1 : decode cX4_isThere 1 = .ok (.ifCond .lt 24, 3) := by decide +kernel
theorem dX4_isThere_4 : decode cX4_isThere 4 = .ok (.iload_n 1, 1) := by decide +kernel
theorem dX4_isThere_5 : decode cX4_isThere 5 = .ok (.bipush 8, 2) := by decide +kernel
theorem dX4_isThere_7 : decode cX4_isThere 7 = .ok (.if_icmp .ge 18, 3) := by decide +kernel
theorem dX4_isThere_10 : decode cX4_isThere 10 = .ok (.aload_n 0, 1) := by decide +kernel
theorem dX4_isThere_11 : decode cX4_isThere 11 = .ok (.getfield 24, 3) := by decide +kernel
theorem dX4_isThere_14 : decode cX4_isThere 14 = .ok (.iload_n 1, 1) := by decide +kernel
theorem dX4_isThere_15 : decode cX4_isThere 15 = .ok (.ishr, 1) := by decide +kernel
theorem dX4_isThere_16 : decode cX4_isThere 16 = .ok (.iconst 1, 1) := by decide +kernel
theorem dX4_isThere_17 : decode cX4_isThere 17 = .ok (.iand, 1) := by decide +kernel
theorem dX4_isThere_18 : decode cX4_isThere 18 = .ok (.ifCond .eq 7, 3) := by decide +kernel
theorem dX4_isThere_21 : decode cX4_isThere 21 = .ok (.iconst 1, 1) := by decide +kernel
theorem dX4_isThere_22 : decode cX4_isThere 22 = .ok (.goto 4, 3) := by decide +kernel
theorem dX4_isThere_25 : decode cX4_isThere 25 = .ok (.iconst 0, 1) := by decide +kernel
theorem dX4_isThere_26 : decode cX4_isThere 26 = .ok (.ireturn, 1) := by decide +kernel
theorem dX4_isUpright_0 : decode cX4_isUpright 0 = .ok (.aload_n 0, 1) := by decide +kernel
theorem dX4_isUpright_1 : decode cX4_isUpright 1 = .ok (.getfield 27, 3) := by decide +kernel
theorem dX4_isUpright_4 : decode cX4_isUpright 4 = .ok (.iload_n 1, 1) := by decide +kernel
theorem dX4_isUpright_5 : decode cX4_isUpright 5 = .ok (.ishr, 1) := by decide +kernel
theorem dX4_isUpright_6 : decode cX4_isUpright 6 = .ok (.iconst 1, 1) := by decide +kernel
theorem dX4_isUpright_7 : decode cX4_isUpright 7 = .ok (.iand, 1) := by decide +kernel
theorem dX4_isUpright_8 : decode cX4_isUpright 8 = .ok (.ifCond .eq 7, 3) := by decide +kernel
theorem dX4_isUpright_11 : decode cX4_isUpright 11 = .ok (.iconst 1, 1) := by decide +kernel
theorem dX4_isUpright_12 : decode cX4_isUpright 12 = .ok (.goto 4, 3) := by decide +kernel
theorem dX4_isUpright_15 : decode cX4_isUpright 15 = .ok (.iconst 0, 1) := by decide +kernel
theorem dX4_isUpright_16 : decode cX4_isUpright 16 = .ok (.ireturn, 1) := by decide +kernel
theorem dX4_sitterAt_0 : decode cX4_sitterAt 0 = .ok (.iconst 0, 1) := by decide +kernel
theorem dX4_sitterAt_1 : decode cX4_sitterAt 1 = .ok (.istore_n 2, 1) := by decide +kernel
theorem dX4_sitterAt_2 : decode cX4_sitterAt 2 = .ok (.iload_n 2, 1) := by decide +kernel
theorem dX4_sitterAt_3 : decode cX4_sitterAt 3 = .ok (.bipush 8, 2) := by decide +kernel
theorem dX4_sitterAt_5 : decode cX4_sitterAt 5 = .ok (.if_icmp .ge 29, 3) := by decide +kernel
theorem dX4_sitterAt_8 : decode cX4_sitterAt 8 = .ok (.aload_n 0, 1) := by decide +kernel
theorem dX4_sitterAt_9 : decode cX4_sitterAt 9 = .ok (.iload_n 2, 1) := by decide +kernel
theorem dX4_sitterAt_10 : decode cX4_sitterAt 10 = .ok (.invokevirtual 64, 3) := by decide +kernel
theorem dX4_sitterAt_13 : decode cX4_sitterAt 13 = .ok (.ifCond .eq 15, 3) := by decide +kernel
theorem dX4_sitterAt_16 : decode cX4_sitterAt 16 = .ok (.aload_n 0, 1) := by decide +kernel
theorem dX4_sitterAt_17 : decode cX4_sitterAt 17 = .ok (.getfield 33, 3) := by decide +kernel
theorem dX4_sitterAt_20 : decode cX4_sitterAt 20 = .ok (.iload_n 2, 1) := by decide +kernel
theorem dX4_sitterAt_21 : decode cX4_sitterAt 21 = .ok (.iaload, 1) := by decide +kernel
theorem dX4_sitterAt_22 : decode cX4_sitterAt 22 = .ok (.iload_n 1, 1) := by decide +kernel
theorem dX4_sitterAt_23 : decode cX4_sitterAt 23 = .ok (.if_icmp .ne 5, 3) := by decide +kernel
theorem dX4_sitterAt_26 : decode cX4_sitterAt 26 = .ok (.iload_n 2, 1) := by decide +kernel
theorem dX4_sitterAt_27 : decode cX4_sitterAt 27 = .ok (.ireturn, 1) := by decide +kernel
theorem dX4_sitterAt_28 : decode cX4_sitterAt 28 = .ok (.iinc 2 1, 3) := by decide +kernel
theorem dX4_sitterAt_31 : decode cX4_sitterAt 31 = .ok (.goto (-29), 3) := by decide +kernel
theorem dX4_sitterAt_34 : decode cX4_sitterAt 34 = .ok (.bipush (-6), 2) := by decide +kernel
theorem dX4_sitterAt_36 : decode cX4_sitterAt 36 = .ok (.ireturn, 1) := by decide +kernel
theorem dX4_named_0 : decode cX4_named 0 = .ok (.aload_n 0, 1) := by decide +kernel
theorem dX4_named_1 : decode cX4_named 1 = .ok (.getfield 24, 3) := by decide +kernel
theorem dX4_named_4 : decode cX4_named 4 = .ok (.invokestatic 58, 3) := by decide +kernel
theorem dX4_named_7 : decode cX4_named 7 = .ok (.istore_n 2, 1) := by decide +kernel
theorem dX4_named_8 : decode cX4_named 8 = .ok (.iload_n 2, 1) := by decide +kernel
theorem dX4_named_9 : decode cX4_named 9 = .ok (.ifCond .ne 6, 3) := by decide +kernel
theorem dX4_named_12 : decode cX4_named 12 = .ok (.bipush (-6), 2) := by decide +kernel
theorem dX4_named_14 : decode cX4_named 14 = .ok (.ireturn, 1) := by decide +kernel
theorem dX4_named_15 : decode cX4_named 15 = .ok (.iload_n 1, 1) := by decide +kernel
theorem dX4_named_16 : decode cX4_named 16 = .ok (.iload_n 2, 1) := by decide +kernel
theorem dX4_named_17 : decode cX4_named 17 = .ok (.irem, 1) := by decide +kernel
theorem dX4_named_18 : decode cX4_named 18 = .ok (.istore_n 3, 1) := by decide +kernel
theorem dX4_named_19 : decode cX4_named 19 = .ok (.iconst 0, 1) := by decide +kernel
theorem dX4_named_20 : decode cX4_named 20 = .ok (.istore 4, 2) := by decide +kernel
theorem dX4_named_22 : decode cX4_named 22 = .ok (.iload 4, 2) := by decide +kernel
theorem dX4_named_24 : decode cX4_named 24 = .ok (.bipush 8, 2) := by decide +kernel
theorem dX4_named_26 : decode cX4_named 26 = .ok (.if_icmp .ge 28, 3) := by decide +kernel
theorem dX4_named_29 : decode cX4_named 29 = .ok (.aload_n 0, 1) := by decide +kernel
theorem dX4_named_30 : decode cX4_named 30 = .ok (.iload 4, 2) := by decide +kernel
theorem dX4_named_32 : decode cX4_named 32 = .ok (.invokevirtual 64, 3) := by decide +kernel
theorem dX4_named_35 : decode cX4_named 35 = .ok (.ifCond .eq 13, 3) := by decide +kernel
theorem dX4_named_38 : decode cX4_named 38 = .ok (.iload_n 3, 1) := by decide +kernel
theorem dX4_named_39 : decode cX4_named 39 = .ok (.ifCond .ne 6, 3) := by decide +kernel
theorem dX4_named_42 : decode cX4_named 42 = .ok (.iload 4, 2) := by decide +kernel
theorem dX4_named_44 : decode cX4_named 44 = .ok (.ireturn, 1) := by decide +kernel
theorem dX4_named_45 : decode cX4_named 45 = .ok (.iinc 3 (-1), 3) := by decide +kernel
theorem dX4_named_48 : decode cX4_named 48 = .ok (.iinc 4 1, 3) := by decide +kernel
theorem dX4_named_51 : decode cX4_named 51 = .ok (.goto (-29), 3) := by decide +kernel
theorem dX4_named_54 : decode cX4_named 54 = .ok (.bipush (-6), 2) := by decide +kernel
theorem dX4_named_56 : decode cX4_named 56 = .ok (.ireturn, 1) := by decide +kernel
theorem dX5_init_0 : decode cX5_init 0 = .ok (.aload_n 0, 1) := by decide +kernel
theorem dX5_init_1 : decode cX5_init 1 = .ok (.invokespecial 3, 3) := by decide +kernel
theorem dX5_init_4 : decode cX5_init 4 = .ok (.aload_n 0, 1) := by decide +kernel
theorem dX5_init_5 : decode cX5_init 5 = .ok (.iconst 3, 1) := by decide +kernel
theorem dX5_init_6 : decode cX5_init 6 = .ok (.newarray .int, 2) := by decide +kernel
theorem dX5_init_8 : decode cX5_init 8 = .ok (.putfield 9, 3) := by decide +kernel
theorem dX5_init_11 : decode cX5_init 11 = .ok (.aload_n 0, 1) := by decide +kernel
theorem dX5_init_12 : decode cX5_init 12 = .ok (.bipush (-6), 2) := by decide +kernel
theorem dX5_init_14 : decode cX5_init 14 = .ok (.putfield 15, 3) := by decide +kernel
theorem dX5_init_17 : decode cX5_init 17 = .ok (.aload_n 0, 1) := by decide +kernel
theorem dX5_init_18 : decode cX5_init 18 = .ok (.bipush 8, 2) := by decide +kernel
theorem dX5_init_20 : decode cX5_init 20 = .ok (.newarray .int, 2) := by decide +kernel
theorem dX5_init_22 : decode cX5_init 22 = .ok (.putfield 19, 3) := by decide +kernel
theorem dX5_init_25 : decode cX5_init 25 = .ok (.return_, 1) := by decide +kernel
theorem dX5_settle_0 : decode cX5_settle 0 = .ok (.iconst 0, 1) := by decide +kernel
theorem dX5_settle_1 : decode cX5_settle 1 = .ok (.istore_n 2, 1) := by decide +kernel
theorem dX5_settle_2 : decode cX5_settle 2 = .ok (.iload_n 2, 1) := by decide +kernel
theorem dX5_settle_3 : decode cX5_settle 3 = .ok (.bipush 8, 2) := by decide +kernel
theorem dX5_settle_5 : decode cX5_settle 5 = .ok (.if_icmp .ge 16, 3) := by decide +kernel
theorem dX5_settle_8 : decode cX5_settle 8 = .ok (.aload_n 0, 1) := by decide +kernel
theorem dX5_settle_9 : decode cX5_settle 9 = .ok (.getfield 19, 3) := by decide +kernel
theorem dX5_settle_12 : decode cX5_settle 12 = .ok (.iload_n 2, 1) := by decide +kernel
theorem dX5_settle_13 : decode cX5_settle 13 = .ok (.iconst 0, 1) := by decide +kernel
theorem dX5_settle_14 : decode cX5_settle 14 = .ok (.iastore, 1) := by decide +kernel
theorem dX5_settle_15 : decode cX5_settle 15 = .ok (.iinc 2 1, 3) := by decide +kernel
theorem dX5_settle_18 : decode cX5_settle 18 = .ok (.goto (-16), 3) := by decide +kernel
theorem dX5_settle_21 : decode cX5_settle 21 = .ok (.iconst 0, 1) := by decide +kernel
theorem dX5_settle_22 : decode cX5_settle 22 = .ok (.istore_n 2, 1) := by decide +kernel
theorem dX5_settle_23 : decode cX5_settle 23 = .ok (.iload_n 2, 1) := by decide +kernel
theorem dX5_settle_24 : decode cX5_settle 24 = .ok (.iconst 3, 1) := by decide +kernel
theorem dX5_settle_25 : decode cX5_settle 25 = .ok (.if_icmp .ge 27, 3) := by decide +kernel
theorem dX5_settle_28 : decode cX5_settle 28 = .ok (.aload_n 0, 1) := by decide +kernel
theorem dX5_settle_29 : decode cX5_settle 29 = .ok (.getfield 9, 3) := by decide +kernel
theorem dX5_settle_32 : decode cX5_settle 32 = .ok (.iload_n 2, 1) := by decide +kernel
theorem dX5_settle_33 : decode cX5_settle 33 = .ok (.iload_n 2, 1) := by decide +kernel
theorem dX5_settle_34 : decode cX5_settle 34 = .ok (.ifCond .ne 10, 3) := by decide +kernel
theorem dX5_settle_37 : decode cX5_settle 37 = .ok (.aload_n 1, 1) := by decide +kernel
theorem dX5_settle_38 : decode cX5_settle 38 = .ok (.invokevirtual 22, 3) := by decide +kernel
theorem dX5_settle_41 : decode cX5_settle 41 = .ok (.goto 4, 3) := by decide +kernel
theorem dX5_settle_44 : decode cX5_settle 44 = .ok (.iconst 0, 1) := by decide +kernel
theorem dX5_settle_45 : decode cX5_settle 45 = .ok (.iastore, 1) := by decide +kernel
theorem dX5_settle_46 : decode cX5_settle 46 = .ok (.iinc 2 1, 3) := by decide +kernel
theorem dX5_settle_49 : decode cX5_settle 49 = .ok (.goto (-26), 3) := by decide +kernel
theorem dX5_settle_52 : decode cX5_settle 52 = .ok (.aload_n 0, 1) := by decide +kernel
theorem dX5_settle_53 : decode cX5_settle 53 = .ok (.bipush (-6), 2) := by decide +kernel
theorem dX5_settle_55 : decode cX5_settle 55 = .ok (.putfield 15, 3) := by decide +kernel
theorem dX5_settle_58 : decode cX5_settle 58 = .ok (.iconst 1, 1) := by decide +kernel
theorem dX5_settle_59 : decode cX5_settle 59 = .ok (.istore_n 2, 1) := by decide +kernel
theorem dX5_settle_60 : decode cX5_settle 60 = .ok (.aload_n 0, 1) := by decide +kernel
theorem dX5_settle_61 : decode cX5_settle 61 = .ok (.getfield 15, 3) := by decide +kernel
theorem dX5_settle_64 : decode cX5_settle 64 = .ok (.bipush (-6), 2) := by decide +kernel
theorem dX5_settle_66 : decode cX5_settle 66 = .ok (.if_icmp .ne 28, 3) := by decide +kernel
theorem dX5_settle_69 : decode cX5_settle 69 = .ok (.iload_n 2, 1) := by decide +kernel
theorem dX5_settle_70 : decode cX5_settle 70 = .ok (.bipush 99, 2) := by decide +kernel
theorem dX5_settle_72 : decode cX5_settle 72 = .ok (.if_icmp .gt 22, 3) := by decide +kernel
theorem dX5_settle_75 : decode cX5_settle 75 = .ok (.aload_n 0, 1) := by decide +kernel
theorem dX5_settle_76 : decode cX5_settle 76 = .ok (.aload_n 1, 1) := by decide +kernel
theorem dX5_settle_77 : decode cX5_settle 77 = .ok (.invokevirtual 28, 3) := by decide +kernel
theorem dX5_settle_80 : decode cX5_settle 80 = .ok (.ifCond .ne 8, 3) := by decide +kernel
theorem dX5_settle_83 : decode cX5_settle 83 = .ok (.aload_n 0, 1) := by decide +kernel
theorem dX5_settle_84 : decode cX5_settle 84 = .ok (.iload_n 2, 1) := by decide +kernel
theorem dX5_settle_85 : decode cX5_settle 85 = .ok (.putfield 15, 3) := by decide +kernel
theorem dX5_settle_88 : decode cX5_settle 88 = .ok (.iinc 2 1, 3) := by decide +kernel
theorem dX5_settle_91 : decode cX5_settle 91 = .ok (.goto (-31), 3) := by decide +kernel
theorem dX5_settle_94 : decode cX5_settle 94 = .ok (.return_, 1) := by decide +kernel
theorem dX5_doesAnybodyGo_0 : decode cX5_doesAnybodyGo 0 = .ok (.iconst 0, 1) := by decide +kernel
theorem dX5_doesAnybodyGo_1 : decode cX5_doesAnybodyGo 1 = .ok (.istore_n 2, 1) := by decide +kernel
theorem dX5_doesAnybodyGo_2 : decode cX5_doesAnybodyGo 2 = .ok (.iconst 0, 1) := by decide +kernel
theorem dX5_doesAnybodyGo_3 : decode cX5_doesAnybodyGo 3 = .ok (.istore_n 3, 1) := by decide +kernel
theorem dX5_doesAnybodyGo_4 : decode cX5_doesAnybodyGo 4 = .ok (.iload_n 3, 1) := by decide +kernel
theorem dX5_doesAnybodyGo_5 : decode cX5_doesAnybodyGo 5 = .ok (.bipush 8, 2) := by decide +kernel
theorem dX5_doesAnybodyGo_7 : decode cX5_doesAnybodyGo 7 = .ok (.if_icmp .ge 77, 3) := by decide +kernel
theorem dX5_doesAnybodyGo_10 : decode cX5_doesAnybodyGo 10 = .ok (.aload_n 1, 1) := by decide +kernel
theorem dX5_doesAnybodyGo_11 : decode cX5_doesAnybodyGo 11 = .ok (.iload_n 3, 1) := by decide +kernel
theorem dX5_doesAnybodyGo_12 : decode cX5_doesAnybodyGo 12 = .ok (.invokevirtual 32, 3) := by decide +kernel
theorem dX5_doesAnybodyGo_15 : decode cX5_doesAnybodyGo 15 = .ok (.ifCond .eq 63, 3) := by decide +kernel
theorem dX5_doesAnybodyGo_18 : decode cX5_doesAnybodyGo 18 = .ok (.aload_n 0, 1) := by decide +kernel
theorem dX5_doesAnybodyGo_19 : decode cX5_doesAnybodyGo 19 = .ok (.iload_n 3, 1) := by decide +kernel
theorem dX5_doesAnybodyGo_20 : decode cX5_doesAnybodyGo 20 = .ok (.aload_n 1, 1) := by decide +kernel
theorem dX5_doesAnybodyGo_21 : decode cX5_doesAnybodyGo 21 = .ok (.getfield 36, 3) := by decide +kernel
theorem dX5_doesAnybodyGo_24 : decode cX5_doesAnybodyGo 24 = .ok (.iload_n 3, 1) := by decide +kernel
theorem dX5_doesAnybodyGo_25 : decode cX5_doesAnybodyGo 25 = .ok (.iaload, 1) := by decide +kernel
theorem dX5_doesAnybodyGo_26 : decode cX5_doesAnybodyGo 26 = .ok (.invokevirtual 39, 3) := by decide +kernel
theorem dX5_doesAnybodyGo_29 : decode cX5_doesAnybodyGo 29 = .ok (.istore 4, 2) := by decide +kernel
theorem dX5_doesAnybodyGo_31 : decode cX5_doesAnybodyGo 31 = .ok (.iload 4, 2) := by decide +kernel
theorem dX5_doesAnybodyGo_33 : decode cX5_doesAnybodyGo 33 = .ok (.aload_n 0, 1) := by decide +kernel
theorem dX5_doesAnybodyGo_34 : decode cX5_doesAnybodyGo 34 = .ok (.getfield 19, 3) := by decide +kernel
theorem dX5_doesAnybodyGo_37 : decode cX5_doesAnybodyGo 37 = .ok (.iload_n 3, 1) := by decide +kernel
theorem dX5_doesAnybodyGo_38 : decode cX5_doesAnybodyGo 38 = .ok (.iaload, 1) := by decide +kernel
theorem dX5_doesAnybodyGo_39 : decode cX5_doesAnybodyGo 39 = .ok (.if_icmp .eq 39, 3) := by decide +kernel
theorem dX5_doesAnybodyGo_42 : decode cX5_doesAnybodyGo 42 = .ok (.aload_n 0, 1) := by decide +kernel
theorem dX5_doesAnybodyGo_43 : decode cX5_doesAnybodyGo 43 = .ok (.getfield 9, 3) := by decide +kernel
theorem dX5_doesAnybodyGo_46 : decode cX5_doesAnybodyGo 46 = .ok (.aload_n 0, 1) := by decide +kernel
theorem dX5_doesAnybodyGo_47 : decode cX5_doesAnybodyGo 47 = .ok (.getfield 19, 3) := by decide +kernel
theorem dX5_doesAnybodyGo_50 : decode cX5_doesAnybodyGo 50 = .ok (.iload_n 3, 1) := by decide +kernel
theorem dX5_doesAnybodyGo_51 : decode cX5_doesAnybodyGo 51 = .ok (.iaload, 1) := by decide +kernel
theorem dX5_doesAnybodyGo_52 : decode cX5_doesAnybodyGo 52 = .ok (.dup2, 1) := by decide +kernel
theorem dX5_doesAnybodyGo_53 : decode cX5_doesAnybodyGo 53 = .ok (.iaload, 1) := by decide +kernel
theorem dX5_doesAnybodyGo_54 : decode cX5_doesAnybodyGo 54 = .ok (.iconst 1, 1) := by decide +kernel
theorem dX5_doesAnybodyGo_55 : decode cX5_doesAnybodyGo 55 = .ok (.isub, 1) := by decide +kernel
theorem dX5_doesAnybodyGo_56 : decode cX5_doesAnybodyGo 56 = .ok (.iastore, 1) := by decide +kernel
theorem dX5_doesAnybodyGo_57 : decode cX5_doesAnybodyGo 57 = .ok (.aload_n 0, 1) := by decide +kernel
theorem dX5_doesAnybodyGo_58 : decode cX5_doesAnybodyGo 58 = .ok (.getfield 9, 3) := by decide +kernel
theorem dX5_doesAnybodyGo_61 : decode cX5_doesAnybodyGo 61 = .ok (.iload 4, 2) := by decide +kernel
theorem dX5_doesAnybodyGo_63 : decode cX5_doesAnybodyGo 63 = .ok (.dup2, 1) := by decide +kernel
theorem dX5_doesAnybodyGo_64 : decode cX5_doesAnybodyGo 64 = .ok (.iaload, 1) := by decide +kernel
theorem dX5_doesAnybodyGo_65 : decode cX5_doesAnybodyGo 65 = .ok (.iconst 1, 1) := by decide +kernel
theorem dX5_doesAnybodyGo_66 : decode cX5_doesAnybodyGo 66 = .ok (.iadd, 1) := by decide +kernel
theorem dX5_doesAnybodyGo_67 : decode cX5_doesAnybodyGo 67 = .ok (.iastore, 1) := by decide +kernel
theorem dX5_doesAnybodyGo_68 : decode cX5_doesAnybodyGo 68 = .ok (.aload_n 0, 1) := by decide +kernel
theorem dX5_doesAnybodyGo_69 : decode cX5_doesAnybodyGo 69 = .ok (.getfield 19, 3) := by decide +kernel
theorem dX5_doesAnybodyGo_72 : decode cX5_doesAnybodyGo 72 = .ok (.iload_n 3, 1) := by decide +kernel
theorem dX5_doesAnybodyGo_73 : decode cX5_doesAnybodyGo 73 = .ok (.iload 4, 2) := by decide +kernel
theorem dX5_doesAnybodyGo_75 : decode cX5_doesAnybodyGo 75 = .ok (.iastore, 1) := by decide +kernel
theorem dX5_doesAnybodyGo_76 : decode cX5_doesAnybodyGo 76 = .ok (.iconst 1, 1) := by decide +kernel
theorem dX5_doesAnybodyGo_77 : decode cX5_doesAnybodyGo 77 = .ok (.istore_n 2, 1) := by decide +kernel
theorem dX5_doesAnybodyGo_78 : decode cX5_doesAnybodyGo 78 = .ok (.iinc 3 1, 3) := by decide +kernel
theorem dX5_doesAnybodyGo_81 : decode cX5_doesAnybodyGo 81 = .ok (.goto (-77), 3) := by decide +kernel
theorem dX5_doesAnybodyGo_84 : decode cX5_doesAnybodyGo 84 = .ok (.iload_n 2, 1) := by decide +kernel
theorem dX5_doesAnybodyGo_85 : decode cX5_doesAnybodyGo 85 = .ok (.ireturn, 1) := by decide +kernel
theorem dX5_bestChurch_0 : decode cX5_bestChurch 0 = .ok (.iconst 0, 1) := by decide +kernel
theorem dX5_bestChurch_1 : decode cX5_bestChurch 1 = .ok (.istore_n 3, 1) := by decide +kernel
theorem dX5_bestChurch_2 : decode cX5_bestChurch 2 = .ok (.iconst 1, 1) := by decide +kernel
theorem dX5_bestChurch_3 : decode cX5_bestChurch 3 = .ok (.istore 4, 2) := by decide +kernel
theorem dX5_bestChurch_5 : decode cX5_bestChurch 5 = .ok (.iload 4, 2) := by decide +kernel
theorem dX5_bestChurch_7 : decode cX5_bestChurch 7 = .ok (.iconst 3, 1) := by decide +kernel
theorem dX5_bestChurch_8 : decode cX5_bestChurch 8 = .ok (.if_icmp .ge 30, 3) := by decide +kernel
theorem dX5_bestChurch_11 : decode cX5_bestChurch 11 = .ok (.aload_n 0, 1) := by decide +kernel
theorem dX5_bestChurch_12 : decode cX5_bestChurch 12 = .ok (.iload_n 1, 1) := by decide +kernel
theorem dX5_bestChurch_13 : decode cX5_bestChurch 13 = .ok (.iload_n 2, 1) := by decide +kernel
theorem dX5_bestChurch_14 : decode cX5_bestChurch 14 = .ok (.iload 4, 2) := by decide +kernel
theorem dX5_bestChurch_16 : decode cX5_bestChurch 16 = .ok (.invokevirtual 43, 3) := by decide +kernel
theorem dX5_bestChurch_19 : decode cX5_bestChurch 19 = .ok (.aload_n 0, 1) := by decide +kernel
theorem dX5_bestChurch_20 : decode cX5_bestChurch 20 = .ok (.iload_n 1, 1) := by decide +kernel
theorem dX5_bestChurch_21 : decode cX5_bestChurch 21 = .ok (.iload_n 2, 1) := by decide +kernel
theorem dX5_bestChurch_22 : decode cX5_bestChurch 22 = .ok (.iload_n 3, 1) := by decide +kernel
theorem dX5_bestChurch_23 : decode cX5_bestChurch 23 = .ok (.invokevirtual 43, 3) := by decide +kernel
theorem dX5_bestChurch_26 : decode cX5_bestChurch 26 = .ok (.if_icmp .le 6, 3) := by decide +kernel
theorem dX5_bestChurch_29 : decode cX5_bestChurch 29 = .ok (.iload 4, 2) := by decide +kernel
theorem dX5_bestChurch_31 : decode cX5_bestChurch 31 = .ok (.istore_n 3, 1) := by decide +kernel
theorem dX5_bestChurch_32 : decode cX5_bestChurch 32 = .ok (.iinc 4 1, 3) := by decide +kernel
theorem dX5_bestChurch_35 : decode cX5_bestChurch 35 = .ok (.goto (-30), 3) := by decide +kernel
theorem dX5_bestChurch_38 : decode cX5_bestChurch 38 = .ok (.aload_n 0, 1) := by decide +kernel
theorem dX5_bestChurch_39 : decode cX5_bestChurch 39 = .ok (.iload_n 1, 1) := by decide +kernel
theorem dX5_bestChurch_40 : decode cX5_bestChurch 40 = .ok (.iload_n 2, 1) := by decide +kernel
theorem dX5_bestChurch_41 : decode cX5_bestChurch 41 = .ok (.iload_n 3, 1) := by decide +kernel
theorem dX5_bestChurch_42 : decode cX5_bestChurch 42 = .ok (.invokevirtual 43, 3) := by decide +kernel
theorem dX5_bestChurch_45 : decode cX5_bestChurch 45 = .ok (.aload_n 0, 1) := by decide +kernel
theorem dX5_bestChurch_46 : decode cX5_bestChurch 46 = .ok (.iload_n 1, 1) := by decide +kernel
theorem dX5_bestChurch_47 : decode cX5_bestChurch 47 = .ok (.iload_n 2, 1) := by decide +kernel
theorem dX5_bestChurch_48 : decode cX5_bestChurch 48 = .ok (.aload_n 0, 1) := by decide +kernel
theorem dX5_bestChurch_49 : decode cX5_bestChurch 49 = .ok (.getfield 19, 3) := by decide +kernel
theorem dX5_bestChurch_52 : decode cX5_bestChurch 52 = .ok (.iload_n 1, 1) := by decide +kernel
theorem dX5_bestChurch_53 : decode cX5_bestChurch 53 = .ok (.iaload, 1) := by decide +kernel
theorem dX5_bestChurch_54 : decode cX5_bestChurch 54 = .ok (.invokevirtual 43, 3) := by decide +kernel
theorem dX5_bestChurch_57 : decode cX5_bestChurch 57 = .ok (.if_icmp .le 7, 3) := by decide +kernel
theorem dX5_bestChurch_60 : decode cX5_bestChurch 60 = .ok (.iload_n 3, 1) := by decide +kernel
theorem dX5_bestChurch_61 : decode cX5_bestChurch 61 = .ok (.goto 9, 3) := by decide +kernel
theorem dX5_bestChurch_64 : decode cX5_bestChurch 64 = .ok (.aload_n 0, 1) := by decide +kernel
theorem dX5_bestChurch_65 : decode cX5_bestChurch 65 = .ok (.getfield 19, 3) := by decide +kernel
theorem dX5_bestChurch_68 : decode cX5_bestChurch 68 = .ok (.iload_n 1, 1) := by decide +kernel
theorem dX5_bestChurch_69 : decode cX5_bestChurch 69 = .ok (.iaload, 1) := by decide +kernel
theorem dX5_bestChurch_70 : decode cX5_bestChurch 70 = .ok (.ireturn, 1) := by decide +kernel
theorem dX5_liking_0 : decode cX5_liking 0 = .ok (.iload_n 2, 1) := by decide +kernel
theorem dX5_liking_1 : decode cX5_liking 1 = .ok (.ifCond .ne 7, 3) := by decide +kernel
theorem dX5_liking_4 : decode cX5_liking 4 = .ok (.iload_n 3, 1) := by decide +kernel
theorem dX5_liking_5 : decode cX5_liking 5 = .ok (.goto 6, 3) := by decide +kernel
theorem dX5_liking_8 : decode cX5_liking 8 = .ok (.iconst 2, 1) := by decide +kernel
theorem dX5_liking_9 : decode cX5_liking 9 = .ok (.iload_n 3, 1) := by decide +kernel
theorem dX5_liking_10 : decode cX5_liking 10 = .ok (.isub, 1) := by decide +kernel
theorem dX5_liking_11 : decode cX5_liking 11 = .ok (.istore 4, 2) := by decide +kernel
theorem dX5_liking_13 : decode cX5_liking 13 = .ok (.aload_n 0, 1) := by decide +kernel
theorem dX5_liking_14 : decode cX5_liking 14 = .ok (.getfield 19, 3) := by decide +kernel
theorem dX5_liking_17 : decode cX5_liking 17 = .ok (.iload_n 1, 1) := by decide +kernel
theorem dX5_liking_18 : decode cX5_liking 18 = .ok (.iaload, 1) := by decide +kernel
theorem dX5_liking_19 : decode cX5_liking 19 = .ok (.iload_n 3, 1) := by decide +kernel
theorem dX5_liking_20 : decode cX5_liking 20 = .ok (.if_icmp .ne 14, 3) := by decide +kernel
theorem dX5_liking_23 : decode cX5_liking 23 = .ok (.aload_n 0, 1) := by decide +kernel
theorem dX5_liking_24 : decode cX5_liking 24 = .ok (.getfield 9, 3) := by decide +kernel
theorem dX5_liking_27 : decode cX5_liking 27 = .ok (.iload_n 3, 1) := by decide +kernel
theorem dX5_liking_28 : decode cX5_liking 28 = .ok (.iaload, 1) := by decide +kernel
theorem dX5_liking_29 : decode cX5_liking 29 = .ok (.iconst 1, 1) := by decide +kernel
theorem dX5_liking_30 : decode cX5_liking 30 = .ok (.isub, 1) := by decide +kernel
theorem dX5_liking_31 : decode cX5_liking 31 = .ok (.goto 9, 3) := by decide +kernel
theorem dX5_liking_34 : decode cX5_liking 34 = .ok (.aload_n 0, 1) := by decide +kernel
theorem dX5_liking_35 : decode cX5_liking 35 = .ok (.getfield 9, 3) := by decide +kernel
theorem dX5_liking_38 : decode cX5_liking 38 = .ok (.iload_n 3, 1) := by decide +kernel
theorem dX5_liking_39 : decode cX5_liking 39 = .ok (.iaload, 1) := by decide +kernel
theorem dX5_liking_40 : decode cX5_liking 40 = .ok (.istore 5, 2) := by decide +kernel
theorem dX5_liking_42 : decode cX5_liking 42 = .ok (.iconst 2, 1) := by decide +kernel
theorem dX5_liking_43 : decode cX5_liking 43 = .ok (.iload 4, 2) := by decide +kernel
theorem dX5_liking_45 : decode cX5_liking 45 = .ok (.imul, 1) := by decide +kernel
theorem dX5_liking_46 : decode cX5_liking 46 = .ok (.iload 5, 2) := by decide +kernel
theorem dX5_liking_48 : decode cX5_liking 48 = .ok (.isub, 1) := by decide +kernel
theorem dX5_liking_49 : decode cX5_liking 49 = .ok (.ireturn, 1) := by decide +kernel
theorem dX6_init_0 : decode cX6_init 0 = .ok (.aload_n 0, 1) := by decide +kernel
theorem dX6_init_1 : decode cX6_init 1 = .ok (.invokespecial 3, 3) := by decide +kernel
theorem dX6_init_4 : decode cX6_init 4 = .ok (.aload_n 0, 1) := by decide +kernel
theorem dX6_init_5 : decode cX6_init 5 = .ok (.bipush 8, 2) := by decide +kernel
theorem dX6_init_7 : decode cX6_init 7 = .ok (.newarray .int, 2) := by decide +kernel
theorem dX6_init_9 : decode cX6_init 9 = .ok (.putfield 9, 3) := by decide +kernel
theorem dX6_init_12 : decode cX6_init 12 = .ok (.aload_n 0, 1) := by decide +kernel
theorem dX6_init_13 : decode cX6_init 13 = .ok (.iconst 0, 1) := by decide +kernel
theorem dX6_init_14 : decode cX6_init 14 = .ok (.putfield 15, 3) := by decide +kernel
theorem dX6_init_17 : decode cX6_init 17 = .ok (.aload_n 0, 1) := by decide +kernel
theorem dX6_init_18 : decode cX6_init 18 = .ok (.iconst 0, 1) := by decide +kernel
theorem dX6_init_19 : decode cX6_init 19 = .ok (.putfield 19, 3) := by decide +kernel
theorem dX6_init_22 : decode cX6_init 22 = .ok (.aload_n 0, 1) := by decide +kernel
theorem dX6_init_23 : decode cX6_init 23 = .ok (.iconst 0, 1) := by decide +kernel
theorem dX6_init_24 : decode cX6_init 24 = .ok (.putfield 22, 3) := by decide +kernel
theorem dX6_init_27 : decode cX6_init 27 = .ok (.aload_n 0, 1) := by decide +kernel
theorem dX6_init_28 : decode cX6_init 28 = .ok (.iconst 0, 1) := by decide +kernel
theorem dX6_init_29 : decode cX6_init 29 = .ok (.putfield 25, 3) := by decide +kernel
theorem dX6_init_32 : decode cX6_init 32 = .ok (.aload_n 0, 1) := by decide +kernel
theorem dX6_init_33 : decode cX6_init 33 = .ok (.iconst 0, 1) := by decide +kernel
theorem dX6_init_34 : decode cX6_init 34 = .ok (.putfield 28, 3) := by decide +kernel
theorem dX6_init_37 : decode cX6_init 37 = .ok (.aload_n 0, 1) := by decide +kernel
theorem dX6_init_38 : decode cX6_init 38 = .ok (.iconst 0, 1) := by decide +kernel
theorem dX6_init_39 : decode cX6_init 39 = .ok (.putfield 31, 3) := by decide +kernel
theorem dX6_init_42 : decode cX6_init 42 = .ok (.aload_n 0, 1) := by decide +kernel
theorem dX6_init_43 : decode cX6_init 43 = .ok (.iconst 0, 1) := by decide +kernel
theorem dX6_init_44 : decode cX6_init 44 = .ok (.putfield 34, 3) := by decide +kernel
theorem dX6_init_47 : decode cX6_init 47 = .ok (.aload_n 0, 1) := by decide +kernel
theorem dX6_init_48 : decode cX6_init 48 = .ok (.iconst 0, 1) := by decide +kernel
theorem dX6_init_49 : decode cX6_init 49 = .ok (.putfield 37, 3) := by decide +kernel
theorem dX6_init_52 : decode cX6_init 52 = .ok (.aload_n 0, 1) := by decide +kernel
theorem dX6_init_53 : decode cX6_init 53 = .ok (.iconst 0, 1) := by decide +kernel
theorem dX6_init_54 : decode cX6_init 54 = .ok (.putfield 40, 3) := by decide +kernel
theorem dX6_init_57 : decode cX6_init 57 = .ok (.aload_n 0, 1) := by decide +kernel
theorem dX6_init_58 : decode cX6_init 58 = .ok (.iconst 0, 1) := by decide +kernel
theorem dX6_init_59 : decode cX6_init 59 = .ok (.putfield 43, 3) := by decide +kernel
theorem dX6_init_62 : decode cX6_init 62 = .ok (.aload_n 0, 1) := by decide +kernel
theorem dX6_init_63 : decode cX6_init 63 = .ok (.iconst 0, 1) := by decide +kernel
theorem dX6_init_64 : decode cX6_init 64 = .ok (.putfield 46, 3) := by decide +kernel
theorem dX6_init_67 : decode cX6_init 67 = .ok (.aload_n 0, 1) := by decide +kernel
theorem dX6_init_68 : decode cX6_init 68 = .ok (.iconst 0, 1) := by decide +kernel
theorem dX6_init_69 : decode cX6_init 69 = .ok (.putfield 49, 3) := by decide +kernel
theorem dX6_init_72 : decode cX6_init 72 = .ok (.return_, 1) := by decide +kernel
theorem dX6_begin_0 : decode cX6_begin 0 = .ok (.aload_n 1, 1) := by decide +kernel
theorem dX6_begin_1 : decode cX6_begin 1 = .ok (.getfield 52, 3) := by decide +kernel
theorem dX6_begin_4 : decode cX6_begin 4 = .ok (.iconst 0, 1) := by decide +kernel
theorem dX6_begin_5 : decode cX6_begin 5 = .ok (.aload_n 0, 1) := by decide +kernel
theorem dX6_begin_6 : decode cX6_begin 6 = .ok (.getfield 9, 3) := by decide +kernel
theorem dX6_begin_9 : decode cX6_begin 9 = .ok (.iconst 0, 1) := by decide +kernel
theorem dX6_begin_10 : decode cX6_begin 10 = .ok (.bipush 8, 2) := by decide +kernel
theorem dX6_begin_12 : decode cX6_begin 12 = .ok (.invokestatic 57, 3) := by decide +kernel
theorem dX6_begin_15 : decode cX6_begin 15 = .ok (.aload_n 0, 1) := by decide +kernel
theorem dX6_begin_16 : decode cX6_begin 16 = .ok (.iconst 0, 1) := by decide +kernel
theorem dX6_begin_17 : decode cX6_begin 17 = .ok (.putfield 15, 3) := by decide +kernel
theorem dX6_begin_20 : decode cX6_begin 20 = .ok (.aload_n 0, 1) := by decide +kernel
theorem dX6_begin_21 : decode cX6_begin 21 = .ok (.iconst 0, 1) := by decide +kernel
theorem dX6_begin_22 : decode cX6_begin 22 = .ok (.putfield 19, 3) := by decide +kernel
theorem dX6_begin_25 : decode cX6_begin 25 = .ok (.aload_n 0, 1) := by decide +kernel
theorem dX6_begin_26 : decode cX6_begin 26 = .ok (.iconst 0, 1) := by decide +kernel
theorem dX6_begin_27 : decode cX6_begin 27 = .ok (.putfield 22, 3) := by decide +kernel
theorem dX6_begin_30 : decode cX6_begin 30 = .ok (.aload_n 0, 1) := by decide +kernel
theorem dX6_begin_31 : decode cX6_begin 31 = .ok (.iconst 0, 1) := by decide +kernel
theorem dX6_begin_32 : decode cX6_begin 32 = .ok (.putfield 25, 3) := by decide +kernel
theorem dX6_begin_35 : decode cX6_begin 35 = .ok (.aload_n 0, 1) := by decide +kernel
theorem dX6_begin_36 : decode cX6_begin 36 = .ok (.iconst 0, 1) := by decide +kernel
theorem dX6_begin_37 : decode cX6_begin 37 = .ok (.putfield 28, 3) := by decide +kernel
theorem dX6_begin_40 : decode cX6_begin 40 = .ok (.aload_n 0, 1) := by decide +kernel
theorem dX6_begin_41 : decode cX6_begin 41 = .ok (.iconst 0, 1) := by decide +kernel
theorem dX6_begin_42 : decode cX6_begin 42 = .ok (.putfield 31, 3) := by decide +kernel
theorem dX6_begin_45 : decode cX6_begin 45 = .ok (.aload_n 0, 1) := by decide +kernel
theorem dX6_begin_46 : decode cX6_begin 46 = .ok (.iconst 0, 1) := by decide +kernel
theorem dX6_begin_47 : decode cX6_begin 47 = .ok (.putfield 34, 3) := by decide +kernel
theorem dX6_begin_50 : decode cX6_begin 50 = .ok (.aload_n 0, 1) := by decide +kernel
theorem dX6_begin_51 : decode cX6_begin 51 = .ok (.iconst 0, 1) := by decide +kernel
theorem dX6_begin_52 : decode cX6_begin 52 = .ok (.putfield 37, 3) := by decide +kernel
theorem dX6_begin_55 : decode cX6_begin 55 = .ok (.aload_n 0, 1) := by decide +kernel
theorem dX6_begin_56 : decode cX6_begin 56 = .ok (.iconst 0, 1) := by decide +kernel
theorem dX6_begin_57 : decode cX6_begin 57 = .ok (.putfield 40, 3) := by decide +kernel
theorem dX6_begin_60 : decode cX6_begin 60 = .ok (.aload_n 0, 1) := by decide +kernel
theorem dX6_begin_61 : decode cX6_begin 61 = .ok (.iconst 0, 1) := by decide +kernel
theorem dX6_begin_62 : decode cX6_begin 62 = .ok (.putfield 43, 3) := by decide +kernel
theorem dX6_begin_65 : decode cX6_begin 65 = .ok (.aload_n 0, 1) := by decide +kernel
theorem dX6_begin_66 : decode cX6_begin 66 = .ok (.iconst 0, 1) := by decide +kernel
theorem dX6_begin_67 : decode cX6_begin 67 = .ok (.putfield 46, 3) := by decide +kernel
theorem dX6_begin_70 : decode cX6_begin 70 = .ok (.aload_n 0, 1) := by decide +kernel
theorem dX6_begin_71 : decode cX6_begin 71 = .ok (.iconst 0, 1) := by decide +kernel
theorem dX6_begin_72 : decode cX6_begin 72 = .ok (.putfield 49, 3) := by decide +kernel
theorem dX6_begin_75 : decode cX6_begin 75 = .ok (.return_, 1) := by decide +kernel
theorem dX6_become_0 : decode cX6_become 0 = .ok (.aload_n 1, 1) := by decide +kernel
theorem dX6_become_1 : decode cX6_become 1 = .ok (.getfield 9, 3) := by decide +kernel
theorem dX6_become_4 : decode cX6_become 4 = .ok (.iconst 0, 1) := by decide +kernel
theorem dX6_become_5 : decode cX6_become 5 = .ok (.aload_n 0, 1) := by decide +kernel
theorem dX6_become_6 : decode cX6_become 6 = .ok (.getfield 9, 3) := by decide +kernel
theorem dX6_become_9 : decode cX6_become 9 = .ok (.iconst 0, 1) := by decide +kernel
theorem dX6_become_10 : decode cX6_become 10 = .ok (.bipush 8, 2) := by decide +kernel
theorem dX6_become_12 : decode cX6_become 12 = .ok (.invokestatic 57, 3) := by decide +kernel
theorem dX6_become_15 : decode cX6_become 15 = .ok (.aload_n 0, 1) := by decide +kernel
theorem dX6_become_16 : decode cX6_become 16 = .ok (.aload_n 1, 1) := by decide +kernel
theorem dX6_become_17 : decode cX6_become 17 = .ok (.getfield 15, 3) := by decide +kernel
theorem dX6_become_20 : decode cX6_become 20 = .ok (.putfield 15, 3) := by decide +kernel
theorem dX6_become_23 : decode cX6_become 23 = .ok (.aload_n 0, 1) := by decide +kernel
theorem dX6_become_24 : decode cX6_become 24 = .ok (.aload_n 1, 1) := by decide +kernel
theorem dX6_become_25 : decode cX6_become 25 = .ok (.getfield 19, 3) := by decide +kernel
theorem dX6_become_28 : decode cX6_become 28 = .ok (.putfield 19, 3) := by decide +kernel
theorem dX6_become_31 : decode cX6_become 31 = .ok (.aload_n 0, 1) := by decide +kernel
theorem dX6_become_32 : decode cX6_become 32 = .ok (.aload_n 1, 1) := by decide +kernel
theorem dX6_become_33 : decode cX6_become 33 = .ok (.getfield 22, 3) := by decide +kernel
theorem dX6_become_36 : decode cX6_become 36 = .ok (.putfield 22, 3) := by decide +kernel
theorem dX6_become_39 : decode cX6_become 39 = .ok (.aload_n 0, 1) := by decide +kernel
theorem dX6_become_40 : decode cX6_become 40 = .ok (.aload_n 1, 1) := by decide +kernel
theorem dX6_become_41 : decode cX6_become 41 = .ok (.getfield 25, 3) := by decide +kernel
theorem dX6_become_44 : decode cX6_become 44 = .ok (.putfield 25, 3) := by decide +kernel
theorem dX6_become_47 : decode cX6_become 47 = .ok (.aload_n 0, 1) := by decide +kernel
theorem dX6_become_48 : decode cX6_become 48 = .ok (.aload_n 1, 1) := by decide +kernel
theorem dX6_become_49 : decode cX6_become 49 = .ok (.getfield 28, 3) := by decide +kernel
theorem dX6_become_52 : decode cX6_become 52 = .ok (.putfield 28, 3) := by decide +kernel
theorem dX6_become_55 : decode cX6_become 55 = .ok (.aload_n 0, 1) := by decide +kernel
theorem dX6_become_56 : decode cX6_become 56 = .ok (.aload_n 1, 1) := by decide +kernel
theorem dX6_become_57 : decode cX6_become 57 = .ok (.getfield 31, 3) := by decide +kernel
theorem dX6_become_60 : decode cX6_become 60 = .ok (.putfield 31, 3) := by decide +kernel
theorem dX6_become_63 : decode cX6_become 63 = .ok (.aload_n 0, 1) := by decide +kernel
theorem dX6_become_64 : decode cX6_become 64 = .ok (.aload_n 1, 1) := by decide +kernel
theorem dX6_become_65 : decode cX6_become 65 = .ok (.getfield 34, 3) := by decide +kernel
theorem dX6_become_68 : decode cX6_become 68 = .ok (.putfield 34, 3) := by decide +kernel
theorem dX6_become_71 : decode cX6_become 71 = .ok (.aload_n 0, 1) := by decide +kernel
theorem dX6_become_72 : decode cX6_become 72 = .ok (.aload_n 1, 1) := by decide +kernel
theorem dX6_become_73 : decode cX6_become 73 = .ok (.getfield 37, 3) := by decide +kernel
theorem dX6_become_76 : decode cX6_become 76 = .ok (.putfield 37, 3) := by decide +kernel
theorem dX6_become_79 : decode cX6_become 79 = .ok (.aload_n 0, 1) := by decide +kernel
theorem dX6_become_80 : decode cX6_become 80 = .ok (.aload_n 1, 1) := by decide +kernel
theorem dX6_become_81 : decode cX6_become 81 = .ok (.getfield 40, 3) := by decide +kernel
theorem dX6_become_84 : decode cX6_become 84 = .ok (.putfield 40, 3) := by decide +kernel
theorem dX6_become_87 : decode cX6_become 87 = .ok (.aload_n 0, 1) := by decide +kernel
theorem dX6_become_88 : decode cX6_become 88 = .ok (.aload_n 1, 1) := by decide +kernel
theorem dX6_become_89 : decode cX6_become 89 = .ok (.getfield 43, 3) := by decide +kernel
theorem dX6_become_92 : decode cX6_become 92 = .ok (.putfield 43, 3) := by decide +kernel
theorem dX6_become_95 : decode cX6_become 95 = .ok (.aload_n 0, 1) := by decide +kernel
theorem dX6_become_96 : decode cX6_become 96 = .ok (.aload_n 1, 1) := by decide +kernel
theorem dX6_become_97 : decode cX6_become 97 = .ok (.getfield 46, 3) := by decide +kernel
theorem dX6_become_100 : decode cX6_become 100 = .ok (.putfield 46, 3) := by decide +kernel
theorem dX6_become_103 : decode cX6_become 103 = .ok (.aload_n 0, 1) := by decide +kernel
theorem dX6_become_104 : decode cX6_become 104 = .ok (.aload_n 1, 1) := by decide +kernel
theorem dX6_become_105 : decode cX6_become 105 = .ok (.getfield 49, 3) := by decide +kernel
theorem dX6_become_108 : decode cX6_become 108 = .ok (.putfield 49, 3) := by decide +kernel
theorem dX6_become_111 : decode cX6_become 111 = .ok (.return_, 1) := by decide +kernel
theorem dX6_passAll_0 : decode cX6_passAll 0 = .ok (.iload_n 3, 1) := by decide +kernel
theorem dX6_passAll_1 : decode cX6_passAll 1 = .ok (.istore 5, 2) := by decide +kernel
theorem dX6_passAll_3 : decode cX6_passAll 3 = .ok (.iload 5, 2) := by decide +kernel
theorem dX6_passAll_5 : decode cX6_passAll 5 = .ok (.iload 4, 2) := by decide +kernel
theorem dX6_passAll_7 : decode cX6_passAll 7 = .ok (.if_icmp .ge 22, 3) := by decide +kernel
theorem dX6_passAll_10 : decode cX6_passAll 10 = .ok (.aload_n 0, 1) := by decide +kernel
theorem dX6_passAll_11 : decode cX6_passAll 11 = .ok (.aload_n 1, 1) := by decide +kernel
theorem dX6_passAll_12 : decode cX6_passAll 12 = .ok (.aload_n 2, 1) := by decide +kernel
theorem dX6_passAll_13 : decode cX6_passAll 13 = .ok (.getfield 63, 3) := by decide +kernel
theorem dX6_passAll_16 : decode cX6_passAll 16 = .ok (.iload 5, 2) := by decide +kernel
theorem dX6_passAll_18 : decode cX6_passAll 18 = .ok (.iaload, 1) := by decide +kernel
theorem dX6_passAll_19 : decode cX6_passAll 19 = .ok (.iconst 0, 1) := by decide +kernel
theorem dX6_passAll_20 : decode cX6_passAll 20 = .ok (.invokevirtual 68, 3) := by decide +kernel
theorem dX6_passAll_23 : decode cX6_passAll 23 = .ok (.iinc 5 1, 3) := by decide +kernel
theorem dX6_passAll_26 : decode cX6_passAll 26 = .ok (.goto (-23), 3) := by decide +kernel
theorem dX6_passAll_29 : decode cX6_passAll 29 = .ok (.return_, 1) := by decide +kernel
theorem dX6_pass_0 : decode cX6_pass 0 = .ok (.iload_n 2, 1) := by decide +kernel
theorem dX6_pass_1 : decode cX6_pass 1 = .ok (.bipush 110, 2) := by decide +kernel
theorem dX6_pass_3 : decode cX6_pass 3 = .ok (.if_icmp .ne 14, 3) := by decide +kernel
theorem dX6_pass_6 : decode cX6_pass 6 = .ok (.aload_n 1, 1) := by decide +kernel
theorem dX6_pass_7 : decode cX6_pass 7 = .ok (.aload_n 0, 1) := by decide +kernel
theorem dX6_pass_8 : decode cX6_pass 8 = .ok (.getfield 15, 3) := by decide +kernel
theorem dX6_pass_11 : decode cX6_pass 11 = .ok (.invokevirtual 72, 3) := by decide +kernel
theorem dX6_pass_14 : decode cX6_pass 14 = .ok (.goto 5, 3) := by decide +kernel
theorem dX6_pass_17 : decode cX6_pass 17 = .ok (.bipush (-6), 2) := by decide +kernel
theorem dX6_pass_19 : decode cX6_pass 19 = .ok (.istore 4, 2) := by decide +kernel
theorem dX6_pass_21 : decode cX6_pass 21 = .ok (.aload_n 0, 1) := by decide +kernel
theorem dX6_pass_22 : decode cX6_pass 22 = .ok (.aload_n 1, 1) := by decide +kernel
theorem dX6_pass_23 : decode cX6_pass 23 = .ok (.iload_n 2, 1) := by decide +kernel
theorem dX6_pass_24 : decode cX6_pass 24 = .ok (.iload 4, 2) := by decide +kernel
theorem dX6_pass_26 : decode cX6_pass 26 = .ok (.iload_n 3, 1) := by decide +kernel
theorem dX6_pass_27 : decode cX6_pass 27 = .ok (.invokevirtual 76, 3) := by decide +kernel
theorem dX6_pass_30 : decode cX6_pass 30 = .ok (.aload_n 0, 1) := by decide +kernel
theorem dX6_pass_31 : decode cX6_pass 31 = .ok (.aload_n 1, 1) := by decide +kernel
theorem dX6_pass_32 : decode cX6_pass 32 = .ok (.iload_n 2, 1) := by decide +kernel
theorem dX6_pass_33 : decode cX6_pass 33 = .ok (.invokevirtual 80, 3) := by decide +kernel
theorem dX6_pass_36 : decode cX6_pass 36 = .ok (.aload_n 0, 1) := by decide +kernel
theorem dX6_pass_37 : decode cX6_pass 37 = .ok (.aload_n 1, 1) := by decide +kernel
theorem dX6_pass_38 : decode cX6_pass 38 = .ok (.invokevirtual 84, 3) := by decide +kernel
theorem dX6_pass_41 : decode cX6_pass 41 = .ok (.aload_n 0, 1) := by decide +kernel
theorem dX6_pass_42 : decode cX6_pass 42 = .ok (.aload_n 1, 1) := by decide +kernel
theorem dX6_pass_43 : decode cX6_pass 43 = .ok (.iload_n 2, 1) := by decide +kernel
theorem dX6_pass_44 : decode cX6_pass 44 = .ok (.invokevirtual 88, 3) := by decide +kernel
theorem dX6_pass_47 : decode cX6_pass 47 = .ok (.aload_n 0, 1) := by decide +kernel
theorem dX6_pass_48 : decode cX6_pass 48 = .ok (.dup, 1) := by decide +kernel
theorem dX6_pass_49 : decode cX6_pass 49 = .ok (.getfield 15, 3) := by decide +kernel
theorem dX6_pass_52 : decode cX6_pass 52 = .ok (.iload_n 2, 1) := by decide +kernel
theorem dX6_pass_53 : decode cX6_pass 53 = .ok (.bipush 110, 2) := by decide +kernel
theorem dX6_pass_55 : decode cX6_pass 55 = .ok (.if_icmp .ne 7, 3) := by decide +kernel
theorem dX6_pass_58 : decode cX6_pass 58 = .ok (.iconst 1, 1) := by decide +kernel
theorem dX6_pass_59 : decode cX6_pass 59 = .ok (.goto 4, 3) := by decide +kernel
theorem dX6_pass_62 : decode cX6_pass 62 = .ok (.iconst 0, 1) := by decide +kernel
theorem dX6_pass_63 : decode cX6_pass 63 = .ok (.iadd, 1) := by decide +kernel
theorem dX6_pass_64 : decode cX6_pass 64 = .ok (.putfield 15, 3) := by decide +kernel
theorem dX6_pass_67 : decode cX6_pass 67 = .ok (.aload_n 0, 1) := by decide +kernel
theorem dX6_pass_68 : decode cX6_pass 68 = .ok (.dup, 1) := by decide +kernel
theorem dX6_pass_69 : decode cX6_pass 69 = .ok (.getfield 19, 3) := by decide +kernel
theorem dX6_pass_72 : decode cX6_pass 72 = .ok (.iload_n 2, 1) := by decide +kernel
theorem dX6_pass_73 : decode cX6_pass 73 = .ok (.bipush 115, 2) := by decide +kernel
theorem dX6_pass_75 : decode cX6_pass 75 = .ok (.if_icmp .ne 7, 3) := by decide +kernel
theorem dX6_pass_78 : decode cX6_pass 78 = .ok (.iconst 1, 1) := by decide +kernel
theorem dX6_pass_79 : decode cX6_pass 79 = .ok (.goto 4, 3) := by decide +kernel
theorem dX6_pass_82 : decode cX6_pass 82 = .ok (.iconst 0, 1) := by decide +kernel
theorem dX6_pass_83 : decode cX6_pass 83 = .ok (.iadd, 1) := by decide +kernel
theorem dX6_pass_84 : decode cX6_pass 84 = .ok (.putfield 19, 3) := by decide +kernel
theorem dX6_pass_87 : decode cX6_pass 87 = .ok (.return_, 1) := by decide +kernel
theorem dX6_changeLevels_0 : decode cX6_changeLevels 0 = .ok (.iload_n 2, 1) := by decide +kernel
theorem dX6_changeLevels_1 : decode cX6_changeLevels 1 = .ok (.invokestatic 91, 3) := by decide +kernel
theorem dX6_changeLevels_4 : decode cX6_changeLevels 4 = .ok (.istore 5, 2) := by decide +kernel
theorem dX6_changeLevels_6 : decode cX6_changeLevels 6 = .ok (.iconst 0, 1) := by decide +kernel
theorem dX6_changeLevels_7 : decode cX6_changeLevels 7 = .ok (.istore 6, 2) := by decide +kernel
theorem dX6_changeLevels_9 : decode cX6_changeLevels 9 = .ok (.iload 6, 2) := by decide +kernel
theorem dX6_changeLevels_11 : decode cX6_changeLevels 11 = .ok (.bipush 8, 2) := by decide +kernel
theorem dX6_changeLevels_13 : decode cX6_changeLevels 13 = .ok (.if_icmp .ge 101, 3) := by decide +kernel
theorem dX6_changeLevels_16 : decode cX6_changeLevels 16 = .ok (.aload_n 1, 1) := by decide +kernel
theorem dX6_changeLevels_17 : decode cX6_changeLevels 17 = .ok (.iload 6, 2) := by decide +kernel
theorem dX6_changeLevels_19 : decode cX6_changeLevels 19 = .ok (.invokevirtual 94, 3) := by decide +kernel
theorem dX6_changeLevels_22 : decode cX6_changeLevels 22 = .ok (.ifCond .eq 86, 3) := by decide +kernel
theorem dX6_changeLevels_25 : decode cX6_changeLevels 25 = .ok (.iload 4, 2) := by decide +kernel
theorem dX6_changeLevels_27 : decode cX6_changeLevels 27 = .ok (.ifCond .eq 8, 3) := by decide +kernel
theorem dX6_changeLevels_30 : decode cX6_changeLevels 30 = .ok (.iload 5, 2) := by decide +kernel
theorem dX6_changeLevels_32 : decode cX6_changeLevels 32 = .ok (.goto 13, 3) := by decide +kernel
theorem dX6_changeLevels_35 : decode cX6_changeLevels 35 = .ok (.iload 5, 2) := by decide +kernel
theorem dX6_changeLevels_37 : decode cX6_changeLevels 37 = .ok (.aload_n 1, 1) := by decide +kernel
theorem dX6_changeLevels_38 : decode cX6_changeLevels 38 = .ok (.getfield 98, 3) := by decide +kernel
theorem dX6_changeLevels_41 : decode cX6_changeLevels 41 = .ok (.iload 6, 2) := by decide +kernel
theorem dX6_changeLevels_43 : decode cX6_changeLevels 43 = .ok (.iaload, 1) := by decide +kernel
theorem dX6_changeLevels_44 : decode cX6_changeLevels 44 = .ok (.isub, 1) := by decide +kernel
theorem dX6_changeLevels_45 : decode cX6_changeLevels 45 = .ok (.istore 7, 2) := by decide +kernel
theorem dX6_changeLevels_47 : decode cX6_changeLevels 47 = .ok (.iload_n 2, 1) := by decide +kernel
theorem dX6_changeLevels_48 : decode cX6_changeLevels 48 = .ok (.bipush 115, 2) := by decide +kernel
theorem dX6_changeLevels_50 : decode cX6_changeLevels 50 = .ok (.if_icmp .ne 18, 3) := by decide +kernel
theorem dX6_changeLevels_53 : decode cX6_changeLevels 53 = .ok (.iload 7, 2) := by decide +kernel
theorem dX6_changeLevels_55 : decode cX6_changeLevels 55 = .ok (.aload_n 0, 1) := by decide +kernel
theorem dX6_changeLevels_56 : decode cX6_changeLevels 56 = .ok (.aload_n 1, 1) := by decide +kernel
theorem dX6_changeLevels_57 : decode cX6_changeLevels 57 = .ok (.iload 6, 2) := by decide +kernel
theorem dX6_changeLevels_59 : decode cX6_changeLevels 59 = .ok (.invokevirtual 101, 3) := by decide +kernel
theorem dX6_changeLevels_62 : decode cX6_changeLevels 62 = .ok (.iadd, 1) := by decide +kernel
theorem dX6_changeLevels_63 : decode cX6_changeLevels 63 = .ok (.istore 7, 2) := by decide +kernel
theorem dX6_changeLevels_65 : decode cX6_changeLevels 65 = .ok (.goto 12, 3) := by decide +kernel
theorem dX6_changeLevels_68 : decode cX6_changeLevels 68 = .ok (.iload 6, 2) := by decide +kernel
theorem dX6_changeLevels_70 : decode cX6_changeLevels 70 = .ok (.iload_n 3, 1) := by decide +kernel
theorem dX6_changeLevels_71 : decode cX6_changeLevels 71 = .ok (.if_icmp .ne 6, 3) := by decide +kernel
theorem dX6_changeLevels_74 : decode cX6_changeLevels 74 = .ok (.iinc 7 5, 3) := by decide +kernel
theorem dX6_changeLevels_77 : decode cX6_changeLevels 77 = .ok (.aload_n 0, 1) := by decide +kernel
theorem dX6_changeLevels_78 : decode cX6_changeLevels 78 = .ok (.getfield 9, 3) := by decide +kernel
theorem dX6_changeLevels_81 : decode cX6_changeLevels 81 = .ok (.iload 6, 2) := by decide +kernel
theorem dX6_changeLevels_83 : decode cX6_changeLevels 83 = .ok (.aload_n 0, 1) := by decide +kernel
theorem dX6_changeLevels_84 : decode cX6_changeLevels 84 = .ok (.getfield 9, 3) := by decide +kernel
theorem dX6_changeLevels_87 : decode cX6_changeLevels 87 = .ok (.iload 6, 2) := by decide +kernel
theorem dX6_changeLevels_89 : decode cX6_changeLevels 89 = .ok (.iaload, 1) := by decide +kernel
theorem dX6_changeLevels_90 : decode cX6_changeLevels 90 = .ok (.iload 7, 2) := by decide +kernel
theorem dX6_changeLevels_92 : decode cX6_changeLevels 92 = .ok (.iadd, 1) := by decide +kernel
theorem dX6_changeLevels_93 : decode cX6_changeLevels 93 = .ok (.iconst 0, 1) := by decide +kernel
theorem dX6_changeLevels_94 : decode cX6_changeLevels 94 = .ok (.invokestatic 105, 3) := by decide +kernel
theorem dX6_changeLevels_97 : decode cX6_changeLevels 97 = .ok (.aload_n 1, 1) := by decide +kernel
theorem dX6_changeLevels_98 : decode cX6_changeLevels 98 = .ok (.getfield 52, 3) := by decide +kernel
theorem dX6_changeLevels_101 : decode cX6_changeLevels 101 = .ok (.iload 6, 2) := by decide +kernel
theorem dX6_changeLevels_103 : decode cX6_changeLevels 103 = .ok (.iaload, 1) := by decide +kernel
theorem dX6_changeLevels_104 : decode cX6_changeLevels 104 = .ok (.invokestatic 111, 3) := by decide +kernel
theorem dX6_changeLevels_107 : decode cX6_changeLevels 107 = .ok (.iastore, 1) := by decide +kernel
theorem dX6_changeLevels_108 : decode cX6_changeLevels 108 = .ok (.iinc 6 1, 3) := by decide +kernel
theorem dX6_changeLevels_111 : decode cX6_changeLevels 111 = .ok (.goto (-102), 3) := by decide +kernel
theorem dX6_changeLevels_114 : decode cX6_changeLevels 114 = .ok (.return_, 1) := by decide +kernel
theorem dX6_forAll_0 : decode cX6_forAll 0 = .ok (.iload_n 0, 1) := by decide +kernel
theorem dX6_forAll_1 : decode cX6_forAll 1 = .ok (.lookupswitch 52 #[(104, 46), (111, 48), (119, 43), (126, 50)], 43) := by decide +kernel
theorem dX6_forAll_44 : decode cX6_forAll 44 = .ok (.bipush (-2), 2) := by decide +kernel
theorem dX6_forAll_46 : decode cX6_forAll 46 = .ok (.ireturn, 1) := by decide +kernel
theorem dX6_forAll_47 : decode cX6_forAll 47 = .ok (.iconst 3, 1) := by decide +kernel
theorem dX6_forAll_48 : decode cX6_forAll 48 = .ok (.ireturn, 1) := by decide +kernel
theorem dX6_forAll_49 : decode cX6_forAll 49 = .ok (.iconst 1, 1) := by decide +kernel
theorem dX6_forAll_50 : decode cX6_forAll 50 = .ok (.ireturn, 1) := by decide +kernel
theorem dX6_forAll_51 : decode cX6_forAll 51 = .ok (.iconst 2, 1) := by decide +kernel
theorem dX6_forAll_52 : decode cX6_forAll 52 = .ok (.ireturn, 1) := by decide +kernel
theorem dX6_forAll_53 : decode cX6_forAll 53 = .ok (.iconst 0, 1) := by decide +kernel
theorem dX6_forAll_54 : decode cX6_forAll 54 = .ok (.ireturn, 1) := by decide +kernel
theorem dX6_startled_0 : decode cX6_startled 0 = .ok (.aload_n 1, 1) := by decide +kernel
theorem dX6_startled_1 : decode cX6_startled 1 = .ok (.getfield 114, 3) := by decide +kernel
theorem dX6_startled_4 : decode cX6_startled 4 = .ok (.iload_n 2, 1) := by decide +kernel
theorem dX6_startled_5 : decode cX6_startled 5 = .ok (.iaload, 1) := by decide +kernel
theorem dX6_startled_6 : decode cX6_startled 6 = .ok (.iconst 4, 1) := by decide +kernel
theorem dX6_startled_7 : decode cX6_startled 7 = .ok (.idiv, 1) := by decide +kernel
theorem dX6_startled_8 : decode cX6_startled 8 = .ok (.istore_n 3, 1) := by decide +kernel
theorem dX6_startled_9 : decode cX6_startled 9 = .ok (.aload_n 1, 1) := by decide +kernel
theorem dX6_startled_10 : decode cX6_startled 10 = .ok (.getfield 117, 3) := by decide +kernel
theorem dX6_startled_13 : decode cX6_startled 13 = .ok (.iconst 2, 1) := by decide +kernel
theorem dX6_startled_14 : decode cX6_startled 14 = .ok (.iload_n 3, 1) := by decide +kernel
theorem dX6_startled_15 : decode cX6_startled 15 = .ok (.imul, 1) := by decide +kernel
theorem dX6_startled_16 : decode cX6_startled 16 = .ok (.isub, 1) := by decide +kernel
theorem dX6_startled_17 : decode cX6_startled 17 = .ok (.aload_n 0, 1) := by decide +kernel
theorem dX6_startled_18 : decode cX6_startled 18 = .ok (.getfield 19, 3) := by decide +kernel
theorem dX6_startled_21 : decode cX6_startled 21 = .ok (.isub, 1) := by decide +kernel
theorem dX6_startled_22 : decode cX6_startled 22 = .ok (.iconst 0, 1) := by decide +kernel
theorem dX6_startled_23 : decode cX6_startled 23 = .ok (.invokestatic 105, 3) := by decide +kernel
theorem dX6_startled_26 : decode cX6_startled 26 = .ok (.ireturn, 1) := by decide +kernel
theorem dX6_findHeads_0 : decode cX6_findHeads 0 = .ok (.aload_n 0, 1) := by decide +kernel
theorem dX6_findHeads_1 : decode cX6_findHeads 1 = .ok (.iconst 0, 1) := by decide +kernel
theorem dX6_findHeads_2 : decode cX6_findHeads 2 = .ok (.putfield 22, 3) := by decide +kernel
theorem dX6_findHeads_5 : decode cX6_findHeads 5 = .ok (.aload_n 0, 1) := by decide +kernel
theorem dX6_findHeads_6 : decode cX6_findHeads 6 = .ok (.iconst 0, 1) := by decide +kernel
theorem dX6_findHeads_7 : decode cX6_findHeads 7 = .ok (.putfield 25, 3) := by decide +kernel
theorem dX6_findHeads_10 : decode cX6_findHeads 10 = .ok (.aload_n 0, 1) := by decide +kernel
theorem dX6_findHeads_11 : decode cX6_findHeads 11 = .ok (.iconst 0, 1) := by decide +kernel
theorem dX6_findHeads_12 : decode cX6_findHeads 12 = .ok (.putfield 28, 3) := by decide +kernel
theorem dX6_findHeads_15 : decode cX6_findHeads 15 = .ok (.iconst 0, 1) := by decide +kernel
theorem dX6_findHeads_16 : decode cX6_findHeads 16 = .ok (.istore_n 3, 1) := by decide +kernel
theorem dX6_findHeads_17 : decode cX6_findHeads 17 = .ok (.iload_n 3, 1) := by decide +kernel
theorem dX6_findHeads_18 : decode cX6_findHeads 18 = .ok (.bipush 8, 2) := by decide +kernel
theorem dX6_findHeads_20 : decode cX6_findHeads 20 = .ok (.if_icmp .ge 96, 3) := by decide +kernel
