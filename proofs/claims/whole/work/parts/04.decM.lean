theorem d_M_init_0 : decode b_M_init 0 = .ok (.aload_n 0, 1) := by decide +kernel
theorem d_M_init_1 : decode b_M_init 1 = .ok (.invokespecial 3, 3) := by decide +kernel
theorem d_M_init_4 : decode b_M_init 4 = .ok (.aload_n 0, 1) := by decide +kernel
theorem d_M_init_5 : decode b_M_init 5 = .ok (.bipush 8, 2) := by decide +kernel
theorem d_M_init_7 : decode b_M_init 7 = .ok (.newarray .int, 2) := by decide +kernel
theorem d_M_init_9 : decode b_M_init 9 = .ok (.putfield 9, 3) := by decide +kernel
theorem d_M_init_12 : decode b_M_init 12 = .ok (.return_, 1) := by decide +kernel
theorem d_M_copyFrom_0 : decode b_M_copyFrom 0 = .ok (.aload_n 1, 1) := by decide +kernel
theorem d_M_copyFrom_1 : decode b_M_copyFrom 1 = .ok (.getfield 9, 3) := by decide +kernel
theorem d_M_copyFrom_4 : decode b_M_copyFrom 4 = .ok (.iconst 0, 1) := by decide +kernel
theorem d_M_copyFrom_5 : decode b_M_copyFrom 5 = .ok (.aload_n 0, 1) := by decide +kernel
theorem d_M_copyFrom_6 : decode b_M_copyFrom 6 = .ok (.getfield 9, 3) := by decide +kernel
theorem d_M_copyFrom_9 : decode b_M_copyFrom 9 = .ok (.iconst 0, 1) := by decide +kernel
theorem d_M_copyFrom_10 : decode b_M_copyFrom 10 = .ok (.bipush 8, 2) := by decide +kernel
theorem d_M_copyFrom_12 : decode b_M_copyFrom 12 = .ok (.invokestatic 15, 3) := by decide +kernel
theorem d_M_copyFrom_15 : decode b_M_copyFrom 15 = .ok (.aload_n 0, 1) := by decide +kernel
theorem d_M_copyFrom_16 : decode b_M_copyFrom 16 = .ok (.aload_n 1, 1) := by decide +kernel
theorem d_M_copyFrom_17 : decode b_M_copyFrom 17 = .ok (.getfield 21, 3) := by decide +kernel
theorem d_M_copyFrom_20 : decode b_M_copyFrom 20 = .ok (.putfield 21, 3) := by decide +kernel
theorem d_M_copyFrom_23 : decode b_M_copyFrom 23 = .ok (.aload_n 0, 1) := by decide +kernel
theorem d_M_copyFrom_24 : decode b_M_copyFrom 24 = .ok (.aload_n 1, 1) := by decide +kernel
theorem d_M_copyFrom_25 : decode b_M_copyFrom 25 = .ok (.getfield 25, 3) := by decide +kernel
theorem d_M_copyFrom_28 : decode b_M_copyFrom 28 = .ok (.putfield 25, 3) := by decide +kernel
theorem d_M_copyFrom_31 : decode b_M_copyFrom 31 = .ok (.return_, 1) := by decide +kernel
theorem d_M_isHalted_0 : decode b_M_isHalted 0 = .ok (.aload_n 0, 1) := by decide +kernel
theorem d_M_isHalted_1 : decode b_M_isHalted 1 = .ok (.getfield 21, 3) := by decide +kernel
theorem d_M_isHalted_4 : decode b_M_isHalted 4 = .ok (.aload_n 1, 1) := by decide +kernel
theorem d_M_isHalted_5 : decode b_M_isHalted 5 = .ok (.getfield 29, 3) := by decide +kernel
theorem d_M_isHalted_8 : decode b_M_isHalted 8 = .ok (.if_icmp .ge 16, 3) := by decide +kernel
theorem d_M_isHalted_11 : decode b_M_isHalted 11 = .ok (.aload_n 1, 1) := by decide +kernel
theorem d_M_isHalted_12 : decode b_M_isHalted 12 = .ok (.getfield 34, 3) := by decide +kernel
theorem d_M_isHalted_15 : decode b_M_isHalted 15 = .ok (.aload_n 0, 1) := by decide +kernel
theorem d_M_isHalted_16 : decode b_M_isHalted 16 = .ok (.getfield 21, 3) := by decide +kernel
theorem d_M_isHalted_19 : decode b_M_isHalted 19 = .ok (.iaload, 1) := by decide +kernel
theorem d_M_isHalted_20 : decode b_M_isHalted 20 = .ok (.iconst 3, 1) := by decide +kernel
theorem d_M_isHalted_21 : decode b_M_isHalted 21 = .ok (.if_icmp .ne 7, 3) := by decide +kernel
theorem d_M_isHalted_24 : decode b_M_isHalted 24 = .ok (.iconst 1, 1) := by decide +kernel
theorem d_M_isHalted_25 : decode b_M_isHalted 25 = .ok (.goto 4, 3) := by decide +kernel
theorem d_M_isHalted_28 : decode b_M_isHalted 28 = .ok (.iconst 0, 1) := by decide +kernel
theorem d_M_isHalted_29 : decode b_M_isHalted 29 = .ok (.ireturn, 1) := by decide +kernel
theorem d_M_isStuck_0 : decode b_M_isStuck 0 = .ok (.aload_n 0, 1) := by decide +kernel
theorem d_M_isStuck_1 : decode b_M_isStuck 1 = .ok (.aload_n 1, 1) := by decide +kernel
theorem d_M_isStuck_2 : decode b_M_isStuck 2 = .ok (.invokevirtual 37, 3) := by decide +kernel
theorem d_M_isStuck_5 : decode b_M_isStuck 5 = .ok (.ifCond .eq 5, 3) := by decide +kernel
theorem d_M_isStuck_8 : decode b_M_isStuck 8 = .ok (.iconst 0, 1) := by decide +kernel
theorem d_M_isStuck_9 : decode b_M_isStuck 9 = .ok (.ireturn, 1) := by decide +kernel
theorem d_M_isStuck_10 : decode b_M_isStuck 10 = .ok (.aload_n 1, 1) := by decide +kernel
theorem d_M_isStuck_11 : decode b_M_isStuck 11 = .ok (.getfield 34, 3) := by decide +kernel
theorem d_M_isStuck_14 : decode b_M_isStuck 14 = .ok (.aload_n 0, 1) := by decide +kernel
theorem d_M_isStuck_15 : decode b_M_isStuck 15 = .ok (.getfield 21, 3) := by decide +kernel
theorem d_M_isStuck_18 : decode b_M_isStuck 18 = .ok (.iaload, 1) := by decide +kernel
theorem d_M_isStuck_19 : decode b_M_isStuck 19 = .ok (.ifCond .ne 26, 3) := by decide +kernel
theorem d_M_isStuck_22 : decode b_M_isStuck 22 = .ok (.aload_n 0, 1) := by decide +kernel
theorem d_M_isStuck_23 : decode b_M_isStuck 23 = .ok (.getfield 9, 3) := by decide +kernel
theorem d_M_isStuck_26 : decode b_M_isStuck 26 = .ok (.aload_n 1, 1) := by decide +kernel
theorem d_M_isStuck_27 : decode b_M_isStuck 27 = .ok (.getfield 41, 3) := by decide +kernel
theorem d_M_isStuck_30 : decode b_M_isStuck 30 = .ok (.aload_n 0, 1) := by decide +kernel
theorem d_M_isStuck_31 : decode b_M_isStuck 31 = .ok (.getfield 21, 3) := by decide +kernel
theorem d_M_isStuck_34 : decode b_M_isStuck 34 = .ok (.iaload, 1) := by decide +kernel
theorem d_M_isStuck_35 : decode b_M_isStuck 35 = .ok (.iaload, 1) := by decide +kernel
theorem d_M_isStuck_36 : decode b_M_isStuck 36 = .ok (.ldc 44, 2) := by decide +kernel
theorem d_M_isStuck_38 : decode b_M_isStuck 38 = .ok (.if_icmp .lt 7, 3) := by decide +kernel
theorem d_M_isStuck_41 : decode b_M_isStuck 41 = .ok (.iconst 1, 1) := by decide +kernel
theorem d_M_isStuck_42 : decode b_M_isStuck 42 = .ok (.goto 4, 3) := by decide +kernel
theorem d_M_isStuck_45 : decode b_M_isStuck 45 = .ok (.iconst 0, 1) := by decide +kernel
theorem d_M_isStuck_46 : decode b_M_isStuck 46 = .ok (.istore_n 2, 1) := by decide +kernel
theorem d_M_isStuck_47 : decode b_M_isStuck 47 = .ok (.iload_n 2, 1) := by decide +kernel
theorem d_M_isStuck_48 : decode b_M_isStuck 48 = .ok (.ifCond .ne 14, 3) := by decide +kernel
theorem d_M_isStuck_51 : decode b_M_isStuck 51 = .ok (.aload_n 0, 1) := by decide +kernel
theorem d_M_isStuck_52 : decode b_M_isStuck 52 = .ok (.getfield 25, 3) := by decide +kernel
theorem d_M_isStuck_55 : decode b_M_isStuck 55 = .ok (.ldc2_w 45, 3) := by decide +kernel
theorem d_M_isStuck_58 : decode b_M_isStuck 58 = .ok (.lcmp, 1) := by decide +kernel
theorem d_M_isStuck_59 : decode b_M_isStuck 59 = .ok (.ifCond .lt 7, 3) := by decide +kernel
theorem d_M_isStuck_62 : decode b_M_isStuck 62 = .ok (.iconst 1, 1) := by decide +kernel
theorem d_M_isStuck_63 : decode b_M_isStuck 63 = .ok (.goto 4, 3) := by decide +kernel
theorem d_M_isStuck_66 : decode b_M_isStuck 66 = .ok (.iconst 0, 1) := by decide +kernel
theorem d_M_isStuck_67 : decode b_M_isStuck 67 = .ok (.ireturn, 1) := by decide +kernel
theorem d_M_rests_0 : decode b_M_rests 0 = .ok (.aload_n 0, 1) := by decide +kernel
theorem d_M_rests_1 : decode b_M_rests 1 = .ok (.aload_n 1, 1) := by decide +kernel
theorem d_M_rests_2 : decode b_M_rests 2 = .ok (.invokevirtual 37, 3) := by decide +kernel
theorem d_M_rests_5 : decode b_M_rests 5 = .ok (.ifCond .ne 11, 3) := by decide +kernel
theorem d_M_rests_8 : decode b_M_rests 8 = .ok (.aload_n 0, 1) := by decide +kernel
theorem d_M_rests_9 : decode b_M_rests 9 = .ok (.aload_n 1, 1) := by decide +kernel
theorem d_M_rests_10 : decode b_M_rests 10 = .ok (.invokevirtual 47, 3) := by decide +kernel
theorem d_M_rests_13 : decode b_M_rests 13 = .ok (.ifCond .eq 7, 3) := by decide +kernel
theorem d_M_rests_16 : decode b_M_rests 16 = .ok (.iconst 1, 1) := by decide +kernel
theorem d_M_rests_17 : decode b_M_rests 17 = .ok (.goto 4, 3) := by decide +kernel
theorem d_M_rests_20 : decode b_M_rests 20 = .ok (.iconst 0, 1) := by decide +kernel
theorem d_M_rests_21 : decode b_M_rests 21 = .ok (.ireturn, 1) := by decide +kernel
theorem d_M_step_0 : decode b_M_step 0 = .ok (.aload_n 0, 1) := by decide +kernel
theorem d_M_step_1 : decode b_M_step 1 = .ok (.aload_n 1, 1) := by decide +kernel
theorem d_M_step_2 : decode b_M_step 2 = .ok (.invokevirtual 50, 3) := by decide +kernel
theorem d_M_step_5 : decode b_M_step 5 = .ok (.ifCond .eq 4, 3) := by decide +kernel
theorem d_M_step_8 : decode b_M_step 8 = .ok (.return_, 1) := by decide +kernel
theorem d_M_step_9 : decode b_M_step 9 = .ok (.aload_n 1, 1) := by decide +kernel
theorem d_M_step_10 : decode b_M_step 10 = .ok (.getfield 34, 3) := by decide +kernel
theorem d_M_step_13 : decode b_M_step 13 = .ok (.aload_n 0, 1) := by decide +kernel
theorem d_M_step_14 : decode b_M_step 14 = .ok (.getfield 21, 3) := by decide +kernel
theorem d_M_step_17 : decode b_M_step 17 = .ok (.iaload, 1) := by decide +kernel
theorem d_M_step_18 : decode b_M_step 18 = .ok (.istore_n 2, 1) := by decide +kernel
theorem d_M_step_19 : decode b_M_step 19 = .ok (.aload_n 1, 1) := by decide +kernel
theorem d_M_step_20 : decode b_M_step 20 = .ok (.getfield 41, 3) := by decide +kernel
theorem d_M_step_23 : decode b_M_step 23 = .ok (.aload_n 0, 1) := by decide +kernel
theorem d_M_step_24 : decode b_M_step 24 = .ok (.getfield 21, 3) := by decide +kernel
theorem d_M_step_27 : decode b_M_step 27 = .ok (.iaload, 1) := by decide +kernel
theorem d_M_step_28 : decode b_M_step 28 = .ok (.istore_n 3, 1) := by decide +kernel
theorem d_M_step_29 : decode b_M_step 29 = .ok (.aload_n 0, 1) := by decide +kernel
theorem d_M_step_30 : decode b_M_step 30 = .ok (.dup, 1) := by decide +kernel
theorem d_M_step_31 : decode b_M_step 31 = .ok (.getfield 25, 3) := by decide +kernel
theorem d_M_step_34 : decode b_M_step 34 = .ok (.lconst 1, 1) := by decide +kernel
theorem d_M_step_35 : decode b_M_step 35 = .ok (.ladd, 1) := by decide +kernel
theorem d_M_step_36 : decode b_M_step 36 = .ok (.putfield 25, 3) := by decide +kernel
theorem d_M_step_39 : decode b_M_step 39 = .ok (.iload_n 2, 1) := by decide +kernel
theorem d_M_step_40 : decode b_M_step 40 = .ok (.ifCond .ne 26, 3) := by decide +kernel
theorem d_M_step_43 : decode b_M_step 43 = .ok (.aload_n 0, 1) := by decide +kernel
theorem d_M_step_44 : decode b_M_step 44 = .ok (.getfield 9, 3) := by decide +kernel
theorem d_M_step_47 : decode b_M_step 47 = .ok (.iload_n 3, 1) := by decide +kernel
theorem d_M_step_48 : decode b_M_step 48 = .ok (.dup2, 1) := by decide +kernel
theorem d_M_step_49 : decode b_M_step 49 = .ok (.iaload, 1) := by decide +kernel
theorem d_M_step_50 : decode b_M_step 50 = .ok (.iconst 1, 1) := by decide +kernel
theorem d_M_step_51 : decode b_M_step 51 = .ok (.iadd, 1) := by decide +kernel
theorem d_M_step_52 : decode b_M_step 52 = .ok (.iastore, 1) := by decide +kernel
theorem d_M_step_53 : decode b_M_step 53 = .ok (.aload_n 0, 1) := by decide +kernel
theorem d_M_step_54 : decode b_M_step 54 = .ok (.dup, 1) := by decide +kernel
theorem d_M_step_55 : decode b_M_step 55 = .ok (.getfield 21, 3) := by decide +kernel
theorem d_M_step_58 : decode b_M_step 58 = .ok (.iconst 1, 1) := by decide +kernel
theorem d_M_step_59 : decode b_M_step 59 = .ok (.iadd, 1) := by decide +kernel
theorem d_M_step_60 : decode b_M_step 60 = .ok (.putfield 21, 3) := by decide +kernel
theorem d_M_step_63 : decode b_M_step 63 = .ok (.goto 53, 3) := by decide +kernel
theorem d_M_step_66 : decode b_M_step 66 = .ok (.iload_n 2, 1) := by decide +kernel
theorem d_M_step_67 : decode b_M_step 67 = .ok (.iconst 1, 1) := by decide +kernel
theorem d_M_step_68 : decode b_M_step 68 = .ok (.if_icmp .ne 35, 3) := by decide +kernel
theorem d_M_step_71 : decode b_M_step 71 = .ok (.aload_n 0, 1) := by decide +kernel
theorem d_M_step_72 : decode b_M_step 72 = .ok (.getfield 9, 3) := by decide +kernel
theorem d_M_step_75 : decode b_M_step 75 = .ok (.iload_n 3, 1) := by decide +kernel
theorem d_M_step_76 : decode b_M_step 76 = .ok (.iaload, 1) := by decide +kernel
theorem d_M_step_77 : decode b_M_step 77 = .ok (.ifCond .le 26, 3) := by decide +kernel
theorem d_M_step_80 : decode b_M_step 80 = .ok (.aload_n 0, 1) := by decide +kernel
theorem d_M_step_81 : decode b_M_step 81 = .ok (.getfield 9, 3) := by decide +kernel
theorem d_M_step_84 : decode b_M_step 84 = .ok (.iload_n 3, 1) := by decide +kernel
theorem d_M_step_85 : decode b_M_step 85 = .ok (.dup2, 1) := by decide +kernel
theorem d_M_step_86 : decode b_M_step 86 = .ok (.iaload, 1) := by decide +kernel
theorem d_M_step_87 : decode b_M_step 87 = .ok (.iconst 1, 1) := by decide +kernel
theorem d_M_step_88 : decode b_M_step 88 = .ok (.isub, 1) := by decide +kernel
theorem d_M_step_89 : decode b_M_step 89 = .ok (.iastore, 1) := by decide +kernel
theorem d_M_step_90 : decode b_M_step 90 = .ok (.aload_n 0, 1) := by decide +kernel
theorem d_M_step_91 : decode b_M_step 91 = .ok (.dup, 1) := by decide +kernel
theorem d_M_step_92 : decode b_M_step 92 = .ok (.getfield 21, 3) := by decide +kernel
theorem d_M_step_95 : decode b_M_step 95 = .ok (.iconst 1, 1) := by decide +kernel
theorem d_M_step_96 : decode b_M_step 96 = .ok (.iadd, 1) := by decide +kernel
theorem d_M_step_97 : decode b_M_step 97 = .ok (.putfield 21, 3) := by decide +kernel
theorem d_M_step_100 : decode b_M_step 100 = .ok (.goto 16, 3) := by decide +kernel
theorem d_M_step_103 : decode b_M_step 103 = .ok (.aload_n 0, 1) := by decide +kernel
theorem d_M_step_104 : decode b_M_step 104 = .ok (.aload_n 1, 1) := by decide +kernel
theorem d_M_step_105 : decode b_M_step 105 = .ok (.getfield 53, 3) := by decide +kernel
theorem d_M_step_108 : decode b_M_step 108 = .ok (.aload_n 0, 1) := by decide +kernel
theorem d_M_step_109 : decode b_M_step 109 = .ok (.getfield 21, 3) := by decide +kernel
theorem d_M_step_112 : decode b_M_step 112 = .ok (.iaload, 1) := by decide +kernel
theorem d_M_step_113 : decode b_M_step 113 = .ok (.putfield 21, 3) := by decide +kernel
theorem d_M_step_116 : decode b_M_step 116 = .ok (.return_, 1) := by decide +kernel
theorem d_M_leapBy_0 : decode b_M_leapBy 0 = .ok (.iconst 0, 1) := by decide +kernel
theorem d_M_leapBy_1 : decode b_M_leapBy 1 = .ok (.istore 4, 2) := by decide +kernel
theorem d_M_leapBy_3 : decode b_M_leapBy 3 = .ok (.iload 4, 2) := by decide +kernel
theorem d_M_leapBy_5 : decode b_M_leapBy 5 = .ok (.bipush 8, 2) := by decide +kernel
theorem d_M_leapBy_7 : decode b_M_leapBy 7 = .ok (.if_icmp .ge 30, 3) := by decide +kernel
theorem d_M_leapBy_10 : decode b_M_leapBy 10 = .ok (.aload_n 0, 1) := by decide +kernel
theorem d_M_leapBy_11 : decode b_M_leapBy 11 = .ok (.getfield 9, 3) := by decide +kernel
theorem d_M_leapBy_14 : decode b_M_leapBy 14 = .ok (.iload 4, 2) := by decide +kernel
theorem d_M_leapBy_16 : decode b_M_leapBy 16 = .ok (.dup2, 1) := by decide +kernel
theorem d_M_leapBy_17 : decode b_M_leapBy 17 = .ok (.iaload, 1) := by decide +kernel
theorem d_M_leapBy_18 : decode b_M_leapBy 18 = .ok (.lload_n 2, 1) := by decide +kernel
theorem d_M_leapBy_19 : decode b_M_leapBy 19 = .ok (.aload_n 1, 1) := by decide +kernel
theorem d_M_leapBy_20 : decode b_M_leapBy 20 = .ok (.getfield 56, 3) := by decide +kernel
theorem d_M_leapBy_23 : decode b_M_leapBy 23 = .ok (.iload 4, 2) := by decide +kernel
theorem d_M_leapBy_25 : decode b_M_leapBy 25 = .ok (.iaload, 1) := by decide +kernel
theorem d_M_leapBy_26 : decode b_M_leapBy 26 = .ok (.i2l, 1) := by decide +kernel
theorem d_M_leapBy_27 : decode b_M_leapBy 27 = .ok (.lmul, 1) := by decide +kernel
theorem d_M_leapBy_28 : decode b_M_leapBy 28 = .ok (.l2i, 1) := by decide +kernel
theorem d_M_leapBy_29 : decode b_M_leapBy 29 = .ok (.iadd, 1) := by decide +kernel
theorem d_M_leapBy_30 : decode b_M_leapBy 30 = .ok (.iastore, 1) := by decide +kernel
theorem d_M_leapBy_31 : decode b_M_leapBy 31 = .ok (.iinc 4 1, 3) := by decide +kernel
theorem d_M_leapBy_34 : decode b_M_leapBy 34 = .ok (.goto (-31), 3) := by decide +kernel
theorem d_M_leapBy_37 : decode b_M_leapBy 37 = .ok (.aload_n 0, 1) := by decide +kernel
theorem d_M_leapBy_38 : decode b_M_leapBy 38 = .ok (.dup, 1) := by decide +kernel
theorem d_M_leapBy_39 : decode b_M_leapBy 39 = .ok (.getfield 25, 3) := by decide +kernel
theorem d_M_leapBy_42 : decode b_M_leapBy 42 = .ok (.lload_n 2, 1) := by decide +kernel
theorem d_M_leapBy_43 : decode b_M_leapBy 43 = .ok (.aload_n 1, 1) := by decide +kernel
theorem d_M_leapBy_44 : decode b_M_leapBy 44 = .ok (.getfield 61, 3) := by decide +kernel
theorem d_M_leapBy_47 : decode b_M_leapBy 47 = .ok (.lmul, 1) := by decide +kernel
theorem d_M_leapBy_48 : decode b_M_leapBy 48 = .ok (.ladd, 1) := by decide +kernel
theorem d_M_leapBy_49 : decode b_M_leapBy 49 = .ok (.putfield 25, 3) := by decide +kernel
theorem d_M_leapBy_52 : decode b_M_leapBy 52 = .ok (.return_, 1) := by decide +kernel
