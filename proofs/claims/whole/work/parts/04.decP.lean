theorem d_P_init_0 : decode b_P_init 0 = .ok (.aload_n 0, 1) := by decide +kernel
theorem d_P_init_1 : decode b_P_init 1 = .ok (.invokespecial 3, 3) := by decide +kernel
theorem d_P_init_4 : decode b_P_init 4 = .ok (.aload_n 0, 1) := by decide +kernel
theorem d_P_init_5 : decode b_P_init 5 = .ok (.bipush 24, 2) := by decide +kernel
theorem d_P_init_7 : decode b_P_init 7 = .ok (.newarray .int, 2) := by decide +kernel
theorem d_P_init_9 : decode b_P_init 9 = .ok (.putfield 9, 3) := by decide +kernel
theorem d_P_init_12 : decode b_P_init 12 = .ok (.aload_n 0, 1) := by decide +kernel
theorem d_P_init_13 : decode b_P_init 13 = .ok (.bipush 24, 2) := by decide +kernel
theorem d_P_init_15 : decode b_P_init 15 = .ok (.newarray .int, 2) := by decide +kernel
theorem d_P_init_17 : decode b_P_init 17 = .ok (.putfield 15, 3) := by decide +kernel
theorem d_P_init_20 : decode b_P_init 20 = .ok (.aload_n 0, 1) := by decide +kernel
theorem d_P_init_21 : decode b_P_init 21 = .ok (.bipush 24, 2) := by decide +kernel
theorem d_P_init_23 : decode b_P_init 23 = .ok (.newarray .int, 2) := by decide +kernel
theorem d_P_init_25 : decode b_P_init 25 = .ok (.putfield 18, 3) := by decide +kernel
theorem d_P_init_28 : decode b_P_init 28 = .ok (.aload_n 0, 1) := by decide +kernel
theorem d_P_init_29 : decode b_P_init 29 = .ok (.bipush 24, 2) := by decide +kernel
theorem d_P_init_31 : decode b_P_init 31 = .ok (.newarray .int, 2) := by decide +kernel
theorem d_P_init_33 : decode b_P_init 33 = .ok (.putfield 21, 3) := by decide +kernel
theorem d_P_init_36 : decode b_P_init 36 = .ok (.aload_n 0, 1) := by decide +kernel
theorem d_P_init_37 : decode b_P_init 37 = .ok (.bipush 24, 2) := by decide +kernel
theorem d_P_init_39 : decode b_P_init 39 = .ok (.newarray .int, 2) := by decide +kernel
theorem d_P_init_41 : decode b_P_init 41 = .ok (.putfield 24, 3) := by decide +kernel
theorem d_P_init_44 : decode b_P_init 44 = .ok (.aload_n 0, 1) := by decide +kernel
theorem d_P_init_45 : decode b_P_init 45 = .ok (.bipush 24, 2) := by decide +kernel
theorem d_P_init_47 : decode b_P_init 47 = .ok (.newarray .int, 2) := by decide +kernel
theorem d_P_init_49 : decode b_P_init 49 = .ok (.putfield 27, 3) := by decide +kernel
theorem d_P_init_52 : decode b_P_init 52 = .ok (.aload_n 0, 1) := by decide +kernel
theorem d_P_init_53 : decode b_P_init 53 = .ok (.bipush 24, 2) := by decide +kernel
theorem d_P_init_55 : decode b_P_init 55 = .ok (.newarray .int, 2) := by decide +kernel
theorem d_P_init_57 : decode b_P_init 57 = .ok (.putfield 30, 3) := by decide +kernel
theorem d_P_init_60 : decode b_P_init 60 = .ok (.aload_n 0, 1) := by decide +kernel
theorem d_P_init_61 : decode b_P_init 61 = .ok (.bipush 24, 2) := by decide +kernel
theorem d_P_init_63 : decode b_P_init 63 = .ok (.newarray .int, 2) := by decide +kernel
theorem d_P_init_65 : decode b_P_init 65 = .ok (.putfield 33, 3) := by decide +kernel
theorem d_P_init_68 : decode b_P_init 68 = .ok (.return_, 1) := by decide +kernel
theorem d_P_add_0 : decode b_P_add 0 = .ok (.aload_n 0, 1) := by decide +kernel
theorem d_P_add_1 : decode b_P_add 1 = .ok (.getfield 9, 3) := by decide +kernel
theorem d_P_add_4 : decode b_P_add 4 = .ok (.aload_n 0, 1) := by decide +kernel
theorem d_P_add_5 : decode b_P_add 5 = .ok (.getfield 36, 3) := by decide +kernel
theorem d_P_add_8 : decode b_P_add 8 = .ok (.iload_n 1, 1) := by decide +kernel
theorem d_P_add_9 : decode b_P_add 9 = .ok (.iastore, 1) := by decide +kernel
theorem d_P_add_10 : decode b_P_add 10 = .ok (.aload_n 0, 1) := by decide +kernel
theorem d_P_add_11 : decode b_P_add 11 = .ok (.getfield 15, 3) := by decide +kernel
theorem d_P_add_14 : decode b_P_add 14 = .ok (.aload_n 0, 1) := by decide +kernel
theorem d_P_add_15 : decode b_P_add 15 = .ok (.getfield 36, 3) := by decide +kernel
theorem d_P_add_18 : decode b_P_add 18 = .ok (.iload_n 2, 1) := by decide +kernel
theorem d_P_add_19 : decode b_P_add 19 = .ok (.iastore, 1) := by decide +kernel
theorem d_P_add_20 : decode b_P_add 20 = .ok (.aload_n 0, 1) := by decide +kernel
theorem d_P_add_21 : decode b_P_add 21 = .ok (.getfield 18, 3) := by decide +kernel
theorem d_P_add_24 : decode b_P_add 24 = .ok (.aload_n 0, 1) := by decide +kernel
theorem d_P_add_25 : decode b_P_add 25 = .ok (.getfield 36, 3) := by decide +kernel
theorem d_P_add_28 : decode b_P_add 28 = .ok (.iconst (-1), 1) := by decide +kernel
theorem d_P_add_29 : decode b_P_add 29 = .ok (.iastore, 1) := by decide +kernel
theorem d_P_add_30 : decode b_P_add 30 = .ok (.aload_n 0, 1) := by decide +kernel
theorem d_P_add_31 : decode b_P_add 31 = .ok (.dup, 1) := by decide +kernel
theorem d_P_add_32 : decode b_P_add 32 = .ok (.getfield 36, 3) := by decide +kernel
theorem d_P_add_35 : decode b_P_add 35 = .ok (.iconst 1, 1) := by decide +kernel
theorem d_P_add_36 : decode b_P_add 36 = .ok (.iadd, 1) := by decide +kernel
theorem d_P_add_37 : decode b_P_add 37 = .ok (.putfield 36, 3) := by decide +kernel
theorem d_P_add_40 : decode b_P_add 40 = .ok (.return_, 1) := by decide +kernel
theorem d_P_isFull_0 : decode b_P_isFull 0 = .ok (.aload_n 0, 1) := by decide +kernel
theorem d_P_isFull_1 : decode b_P_isFull 1 = .ok (.getfield 36, 3) := by decide +kernel
theorem d_P_isFull_4 : decode b_P_isFull 4 = .ok (.bipush 24, 2) := by decide +kernel
theorem d_P_isFull_6 : decode b_P_isFull 6 = .ok (.if_icmp .lt 7, 3) := by decide +kernel
theorem d_P_isFull_9 : decode b_P_isFull 9 = .ok (.iconst 1, 1) := by decide +kernel
theorem d_P_isFull_10 : decode b_P_isFull 10 = .ok (.goto 4, 3) := by decide +kernel
theorem d_P_isFull_13 : decode b_P_isFull 13 = .ok (.iconst 0, 1) := by decide +kernel
theorem d_P_isFull_14 : decode b_P_isFull 14 = .ok (.ireturn, 1) := by decide +kernel
theorem d_P_findDrains_0 : decode b_P_findDrains 0 = .ok (.iconst 0, 1) := by decide +kernel
theorem d_P_findDrains_1 : decode b_P_findDrains 1 = .ok (.istore_n 1, 1) := by decide +kernel
theorem d_P_findDrains_2 : decode b_P_findDrains 2 = .ok (.iload_n 1, 1) := by decide +kernel
theorem d_P_findDrains_3 : decode b_P_findDrains 3 = .ok (.aload_n 0, 1) := by decide +kernel
theorem d_P_findDrains_4 : decode b_P_findDrains 4 = .ok (.getfield 36, 3) := by decide +kernel
theorem d_P_findDrains_7 : decode b_P_findDrains 7 = .ok (.if_icmp .ge 20, 3) := by decide +kernel
theorem d_P_findDrains_10 : decode b_P_findDrains 10 = .ok (.aload_n 0, 1) := by decide +kernel
theorem d_P_findDrains_11 : decode b_P_findDrains 11 = .ok (.getfield 21, 3) := by decide +kernel
theorem d_P_findDrains_14 : decode b_P_findDrains 14 = .ok (.iload_n 1, 1) := by decide +kernel
theorem d_P_findDrains_15 : decode b_P_findDrains 15 = .ok (.aload_n 0, 1) := by decide +kernel
theorem d_P_findDrains_16 : decode b_P_findDrains 16 = .ok (.iload_n 1, 1) := by decide +kernel
theorem d_P_findDrains_17 : decode b_P_findDrains 17 = .ok (.invokevirtual 40, 3) := by decide +kernel
theorem d_P_findDrains_20 : decode b_P_findDrains 20 = .ok (.iastore, 1) := by decide +kernel
theorem d_P_findDrains_21 : decode b_P_findDrains 21 = .ok (.iinc 1 1, 3) := by decide +kernel
theorem d_P_findDrains_24 : decode b_P_findDrains 24 = .ok (.goto (-22), 3) := by decide +kernel
theorem d_P_findDrains_27 : decode b_P_findDrains 27 = .ok (.return_, 1) := by decide +kernel
theorem d_P_drainEndFrom_0 : decode b_P_drainEndFrom 0 = .ok (.aload_n 0, 1) := by decide +kernel
theorem d_P_drainEndFrom_1 : decode b_P_drainEndFrom 1 = .ok (.getfield 9, 3) := by decide +kernel
theorem d_P_drainEndFrom_4 : decode b_P_drainEndFrom 4 = .ok (.iload_n 1, 1) := by decide +kernel
theorem d_P_drainEndFrom_5 : decode b_P_drainEndFrom 5 = .ok (.iaload, 1) := by decide +kernel
theorem d_P_drainEndFrom_6 : decode b_P_drainEndFrom 6 = .ok (.iconst 1, 1) := by decide +kernel
theorem d_P_drainEndFrom_7 : decode b_P_drainEndFrom 7 = .ok (.if_icmp .eq 5, 3) := by decide +kernel
theorem d_P_drainEndFrom_10 : decode b_P_drainEndFrom 10 = .ok (.iconst (-1), 1) := by decide +kernel
theorem d_P_drainEndFrom_11 : decode b_P_drainEndFrom 11 = .ok (.ireturn, 1) := by decide +kernel
theorem d_P_drainEndFrom_12 : decode b_P_drainEndFrom 12 = .ok (.iload_n 1, 1) := by decide +kernel
theorem d_P_drainEndFrom_13 : decode b_P_drainEndFrom 13 = .ok (.iconst 1, 1) := by decide +kernel
theorem d_P_drainEndFrom_14 : decode b_P_drainEndFrom 14 = .ok (.iadd, 1) := by decide +kernel
theorem d_P_drainEndFrom_15 : decode b_P_drainEndFrom 15 = .ok (.istore_n 2, 1) := by decide +kernel
theorem d_P_drainEndFrom_16 : decode b_P_drainEndFrom 16 = .ok (.iload_n 2, 1) := by decide +kernel
theorem d_P_drainEndFrom_17 : decode b_P_drainEndFrom 17 = .ok (.aload_n 0, 1) := by decide +kernel
theorem d_P_drainEndFrom_18 : decode b_P_drainEndFrom 18 = .ok (.getfield 36, 3) := by decide +kernel
theorem d_P_drainEndFrom_21 : decode b_P_drainEndFrom 21 = .ok (.if_icmp .ge 33, 3) := by decide +kernel
theorem d_P_drainEndFrom_24 : decode b_P_drainEndFrom 24 = .ok (.aload_n 0, 1) := by decide +kernel
theorem d_P_drainEndFrom_25 : decode b_P_drainEndFrom 25 = .ok (.getfield 9, 3) := by decide +kernel
theorem d_P_drainEndFrom_28 : decode b_P_drainEndFrom 28 = .ok (.iload_n 2, 1) := by decide +kernel
theorem d_P_drainEndFrom_29 : decode b_P_drainEndFrom 29 = .ok (.iaload, 1) := by decide +kernel
theorem d_P_drainEndFrom_30 : decode b_P_drainEndFrom 30 = .ok (.ifCond .ne 24, 3) := by decide +kernel
theorem d_P_drainEndFrom_33 : decode b_P_drainEndFrom 33 = .ok (.aload_n 0, 1) := by decide +kernel
theorem d_P_drainEndFrom_34 : decode b_P_drainEndFrom 34 = .ok (.getfield 15, 3) := by decide +kernel
theorem d_P_drainEndFrom_37 : decode b_P_drainEndFrom 37 = .ok (.iload_n 2, 1) := by decide +kernel
theorem d_P_drainEndFrom_38 : decode b_P_drainEndFrom 38 = .ok (.iaload, 1) := by decide +kernel
theorem d_P_drainEndFrom_39 : decode b_P_drainEndFrom 39 = .ok (.aload_n 0, 1) := by decide +kernel
theorem d_P_drainEndFrom_40 : decode b_P_drainEndFrom 40 = .ok (.getfield 15, 3) := by decide +kernel
theorem d_P_drainEndFrom_43 : decode b_P_drainEndFrom 43 = .ok (.iload_n 1, 1) := by decide +kernel
theorem d_P_drainEndFrom_44 : decode b_P_drainEndFrom 44 = .ok (.iaload, 1) := by decide +kernel
theorem d_P_drainEndFrom_45 : decode b_P_drainEndFrom 45 = .ok (.if_icmp .eq 9, 3) := by decide +kernel
theorem d_P_drainEndFrom_48 : decode b_P_drainEndFrom 48 = .ok (.iinc 2 1, 3) := by decide +kernel
theorem d_P_drainEndFrom_51 : decode b_P_drainEndFrom 51 = .ok (.goto (-35), 3) := by decide +kernel
theorem d_P_drainEndFrom_54 : decode b_P_drainEndFrom 54 = .ok (.iload_n 2, 1) := by decide +kernel
theorem d_P_drainEndFrom_55 : decode b_P_drainEndFrom 55 = .ok (.aload_n 0, 1) := by decide +kernel
theorem d_P_drainEndFrom_56 : decode b_P_drainEndFrom 56 = .ok (.getfield 36, 3) := by decide +kernel
theorem d_P_drainEndFrom_59 : decode b_P_drainEndFrom 59 = .ok (.if_icmp .ge 27, 3) := by decide +kernel
theorem d_P_drainEndFrom_62 : decode b_P_drainEndFrom 62 = .ok (.aload_n 0, 1) := by decide +kernel
theorem d_P_drainEndFrom_63 : decode b_P_drainEndFrom 63 = .ok (.getfield 9, 3) := by decide +kernel
theorem d_P_drainEndFrom_66 : decode b_P_drainEndFrom 66 = .ok (.iload_n 2, 1) := by decide +kernel
theorem d_P_drainEndFrom_67 : decode b_P_drainEndFrom 67 = .ok (.iaload, 1) := by decide +kernel
theorem d_P_drainEndFrom_68 : decode b_P_drainEndFrom 68 = .ok (.iconst 2, 1) := by decide +kernel
theorem d_P_drainEndFrom_69 : decode b_P_drainEndFrom 69 = .ok (.if_icmp .ne 17, 3) := by decide +kernel
theorem d_P_drainEndFrom_72 : decode b_P_drainEndFrom 72 = .ok (.aload_n 0, 1) := by decide +kernel
theorem d_P_drainEndFrom_73 : decode b_P_drainEndFrom 73 = .ok (.getfield 18, 3) := by decide +kernel
theorem d_P_drainEndFrom_76 : decode b_P_drainEndFrom 76 = .ok (.iload_n 2, 1) := by decide +kernel
theorem d_P_drainEndFrom_77 : decode b_P_drainEndFrom 77 = .ok (.iaload, 1) := by decide +kernel
theorem d_P_drainEndFrom_78 : decode b_P_drainEndFrom 78 = .ok (.iload_n 1, 1) := by decide +kernel
theorem d_P_drainEndFrom_79 : decode b_P_drainEndFrom 79 = .ok (.if_icmp .ne 7, 3) := by decide +kernel
theorem d_P_drainEndFrom_82 : decode b_P_drainEndFrom 82 = .ok (.iconst 1, 1) := by decide +kernel
theorem d_P_drainEndFrom_83 : decode b_P_drainEndFrom 83 = .ok (.goto 4, 3) := by decide +kernel
theorem d_P_drainEndFrom_86 : decode b_P_drainEndFrom 86 = .ok (.iconst 0, 1) := by decide +kernel
theorem d_P_drainEndFrom_87 : decode b_P_drainEndFrom 87 = .ok (.istore_n 3, 1) := by decide +kernel
theorem d_P_drainEndFrom_88 : decode b_P_drainEndFrom 88 = .ok (.iload_n 3, 1) := by decide +kernel
theorem d_P_drainEndFrom_89 : decode b_P_drainEndFrom 89 = .ok (.ifCond .eq 19, 3) := by decide +kernel
theorem d_P_drainEndFrom_92 : decode b_P_drainEndFrom 92 = .ok (.aload_n 0, 1) := by decide +kernel
theorem d_P_drainEndFrom_93 : decode b_P_drainEndFrom 93 = .ok (.getfield 18, 3) := by decide +kernel
theorem d_P_drainEndFrom_96 : decode b_P_drainEndFrom 96 = .ok (.iload_n 1, 1) := by decide +kernel
theorem d_P_drainEndFrom_97 : decode b_P_drainEndFrom 97 = .ok (.iaload, 1) := by decide +kernel
theorem d_P_drainEndFrom_98 : decode b_P_drainEndFrom 98 = .ok (.iload_n 2, 1) := by decide +kernel
theorem d_P_drainEndFrom_99 : decode b_P_drainEndFrom 99 = .ok (.iconst 1, 1) := by decide +kernel
theorem d_P_drainEndFrom_100 : decode b_P_drainEndFrom 100 = .ok (.iadd, 1) := by decide +kernel
theorem d_P_drainEndFrom_101 : decode b_P_drainEndFrom 101 = .ok (.if_icmp .ne 7, 3) := by decide +kernel
theorem d_P_drainEndFrom_104 : decode b_P_drainEndFrom 104 = .ok (.iload_n 2, 1) := by decide +kernel
theorem d_P_drainEndFrom_105 : decode b_P_drainEndFrom 105 = .ok (.goto 4, 3) := by decide +kernel
theorem d_P_drainEndFrom_108 : decode b_P_drainEndFrom 108 = .ok (.iconst (-1), 1) := by decide +kernel
theorem d_P_drainEndFrom_109 : decode b_P_drainEndFrom 109 = .ok (.ireturn, 1) := by decide +kernel
theorem d_P_findLoops_0 : decode b_P_findLoops 0 = .ok (.aload_n 0, 1) := by decide +kernel
theorem d_P_findLoops_1 : decode b_P_findLoops 1 = .ok (.iconst 0, 1) := by decide +kernel
theorem d_P_findLoops_2 : decode b_P_findLoops 2 = .ok (.putfield 44, 3) := by decide +kernel
theorem d_P_findLoops_5 : decode b_P_findLoops 5 = .ok (.iconst 0, 1) := by decide +kernel
theorem d_P_findLoops_6 : decode b_P_findLoops 6 = .ok (.istore_n 1, 1) := by decide +kernel
theorem d_P_findLoops_7 : decode b_P_findLoops 7 = .ok (.iload_n 1, 1) := by decide +kernel
theorem d_P_findLoops_8 : decode b_P_findLoops 8 = .ok (.aload_n 0, 1) := by decide +kernel
theorem d_P_findLoops_9 : decode b_P_findLoops 9 = .ok (.getfield 36, 3) := by decide +kernel
theorem d_P_findLoops_12 : decode b_P_findLoops 12 = .ok (.if_icmp .ge 21, 3) := by decide +kernel
theorem d_P_findLoops_15 : decode b_P_findLoops 15 = .ok (.aload_n 0, 1) := by decide +kernel
theorem d_P_findLoops_16 : decode b_P_findLoops 16 = .ok (.getfield 24, 3) := by decide +kernel
theorem d_P_findLoops_19 : decode b_P_findLoops 19 = .ok (.iload_n 1, 1) := by decide +kernel
theorem d_P_findLoops_20 : decode b_P_findLoops 20 = .ok (.iconst (-1), 1) := by decide +kernel
theorem d_P_findLoops_21 : decode b_P_findLoops 21 = .ok (.iastore, 1) := by decide +kernel
theorem d_P_findLoops_22 : decode b_P_findLoops 22 = .ok (.aload_n 0, 1) := by decide +kernel
theorem d_P_findLoops_23 : decode b_P_findLoops 23 = .ok (.iload_n 1, 1) := by decide +kernel
theorem d_P_findLoops_24 : decode b_P_findLoops 24 = .ok (.invokevirtual 47, 3) := by decide +kernel
theorem d_P_findLoops_27 : decode b_P_findLoops 27 = .ok (.iinc 1 1, 3) := by decide +kernel
theorem d_P_findLoops_30 : decode b_P_findLoops 30 = .ok (.goto (-23), 3) := by decide +kernel
theorem d_P_findLoops_33 : decode b_P_findLoops 33 = .ok (.return_, 1) := by decide +kernel
theorem d_P_addLoopFrom_0 : decode b_P_addLoopFrom 0 = .ok (.iconst 0, 1) := by decide +kernel
theorem d_P_addLoopFrom_1 : decode b_P_addLoopFrom 1 = .ok (.istore_n 2, 1) := by decide +kernel
theorem d_P_addLoopFrom_2 : decode b_P_addLoopFrom 2 = .ok (.iload_n 1, 1) := by decide +kernel
theorem d_P_addLoopFrom_3 : decode b_P_addLoopFrom 3 = .ok (.istore_n 3, 1) := by decide +kernel
theorem d_P_addLoopFrom_4 : decode b_P_addLoopFrom 4 = .ok (.iload_n 3, 1) := by decide +kernel
theorem d_P_addLoopFrom_5 : decode b_P_addLoopFrom 5 = .ok (.aload_n 0, 1) := by decide +kernel
theorem d_P_addLoopFrom_6 : decode b_P_addLoopFrom 6 = .ok (.getfield 36, 3) := by decide +kernel
theorem d_P_addLoopFrom_9 : decode b_P_addLoopFrom 9 = .ok (.if_icmp .ge 51, 3) := by decide +kernel
theorem d_P_addLoopFrom_12 : decode b_P_addLoopFrom 12 = .ok (.aload_n 0, 1) := by decide +kernel
theorem d_P_addLoopFrom_13 : decode b_P_addLoopFrom 13 = .ok (.getfield 9, 3) := by decide +kernel
theorem d_P_addLoopFrom_16 : decode b_P_addLoopFrom 16 = .ok (.iload_n 3, 1) := by decide +kernel
theorem d_P_addLoopFrom_17 : decode b_P_addLoopFrom 17 = .ok (.iaload, 1) := by decide +kernel
theorem d_P_addLoopFrom_18 : decode b_P_addLoopFrom 18 = .ok (.ifCond .eq 13, 3) := by decide +kernel
theorem d_P_addLoopFrom_21 : decode b_P_addLoopFrom 21 = .ok (.aload_n 0, 1) := by decide +kernel
theorem d_P_addLoopFrom_22 : decode b_P_addLoopFrom 22 = .ok (.getfield 9, 3) := by decide +kernel
theorem d_P_addLoopFrom_25 : decode b_P_addLoopFrom 25 = .ok (.iload_n 3, 1) := by decide +kernel
theorem d_P_addLoopFrom_26 : decode b_P_addLoopFrom 26 = .ok (.iaload, 1) := by decide +kernel
theorem d_P_addLoopFrom_27 : decode b_P_addLoopFrom 27 = .ok (.iconst 1, 1) := by decide +kernel
theorem d_P_addLoopFrom_28 : decode b_P_addLoopFrom 28 = .ok (.if_icmp .ne 32, 3) := by decide +kernel
theorem d_P_addLoopFrom_31 : decode b_P_addLoopFrom 31 = .ok (.aload_n 0, 1) := by decide +kernel
theorem d_P_addLoopFrom_32 : decode b_P_addLoopFrom 32 = .ok (.iload_n 1, 1) := by decide +kernel
theorem d_P_addLoopFrom_33 : decode b_P_addLoopFrom 33 = .ok (.iload_n 3, 1) := by decide +kernel
theorem d_P_addLoopFrom_34 : decode b_P_addLoopFrom 34 = .ok (.invokevirtual 51, 3) := by decide +kernel
theorem d_P_addLoopFrom_37 : decode b_P_addLoopFrom 37 = .ok (.istore 4, 2) := by decide +kernel
theorem d_P_addLoopFrom_39 : decode b_P_addLoopFrom 39 = .ok (.iload 4, 2) := by decide +kernel
theorem d_P_addLoopFrom_41 : decode b_P_addLoopFrom 41 = .ok (.iconst (-1), 1) := by decide +kernel
theorem d_P_addLoopFrom_42 : decode b_P_addLoopFrom 42 = .ok (.if_icmp .eq 6, 3) := by decide +kernel
theorem d_P_addLoopFrom_45 : decode b_P_addLoopFrom 45 = .ok (.iinc 2 1, 3) := by decide +kernel
theorem d_P_addLoopFrom_48 : decode b_P_addLoopFrom 48 = .ok (.iload_n 3, 1) := by decide +kernel
theorem d_P_addLoopFrom_49 : decode b_P_addLoopFrom 49 = .ok (.iload 4, 2) := by decide +kernel
theorem d_P_addLoopFrom_51 : decode b_P_addLoopFrom 51 = .ok (.invokestatic 55, 3) := by decide +kernel
theorem d_P_addLoopFrom_54 : decode b_P_addLoopFrom 54 = .ok (.iconst 1, 1) := by decide +kernel
theorem d_P_addLoopFrom_55 : decode b_P_addLoopFrom 55 = .ok (.iadd, 1) := by decide +kernel
theorem d_P_addLoopFrom_56 : decode b_P_addLoopFrom 56 = .ok (.istore_n 3, 1) := by decide +kernel
theorem d_P_addLoopFrom_57 : decode b_P_addLoopFrom 57 = .ok (.goto (-53), 3) := by decide +kernel
theorem d_P_addLoopFrom_60 : decode b_P_addLoopFrom 60 = .ok (.iload_n 3, 1) := by decide +kernel
theorem d_P_addLoopFrom_61 : decode b_P_addLoopFrom 61 = .ok (.iload_n 1, 1) := by decide +kernel
theorem d_P_addLoopFrom_62 : decode b_P_addLoopFrom 62 = .ok (.if_icmp .le 81, 3) := by decide +kernel
theorem d_P_addLoopFrom_65 : decode b_P_addLoopFrom 65 = .ok (.iload_n 3, 1) := by decide +kernel
theorem d_P_addLoopFrom_66 : decode b_P_addLoopFrom 66 = .ok (.aload_n 0, 1) := by decide +kernel
theorem d_P_addLoopFrom_67 : decode b_P_addLoopFrom 67 = .ok (.getfield 36, 3) := by decide +kernel
theorem d_P_addLoopFrom_70 : decode b_P_addLoopFrom 70 = .ok (.if_icmp .ge 73, 3) := by decide +kernel
theorem d_P_addLoopFrom_73 : decode b_P_addLoopFrom 73 = .ok (.aload_n 0, 1) := by decide +kernel
theorem d_P_addLoopFrom_74 : decode b_P_addLoopFrom 74 = .ok (.getfield 9, 3) := by decide +kernel
theorem d_P_addLoopFrom_77 : decode b_P_addLoopFrom 77 = .ok (.iload_n 3, 1) := by decide +kernel
theorem d_P_addLoopFrom_78 : decode b_P_addLoopFrom 78 = .ok (.iaload, 1) := by decide +kernel
theorem d_P_addLoopFrom_79 : decode b_P_addLoopFrom 79 = .ok (.iconst 2, 1) := by decide +kernel
theorem d_P_addLoopFrom_80 : decode b_P_addLoopFrom 80 = .ok (.if_icmp .ne 63, 3) := by decide +kernel
theorem d_P_addLoopFrom_83 : decode b_P_addLoopFrom 83 = .ok (.aload_n 0, 1) := by decide +kernel
theorem d_P_addLoopFrom_84 : decode b_P_addLoopFrom 84 = .ok (.getfield 18, 3) := by decide +kernel
theorem d_P_addLoopFrom_87 : decode b_P_addLoopFrom 87 = .ok (.iload_n 3, 1) := by decide +kernel
theorem d_P_addLoopFrom_88 : decode b_P_addLoopFrom 88 = .ok (.iaload, 1) := by decide +kernel
theorem d_P_addLoopFrom_89 : decode b_P_addLoopFrom 89 = .ok (.iload_n 1, 1) := by decide +kernel
theorem d_P_addLoopFrom_90 : decode b_P_addLoopFrom 90 = .ok (.if_icmp .ne 53, 3) := by decide +kernel
theorem d_P_addLoopFrom_93 : decode b_P_addLoopFrom 93 = .ok (.aload_n 0, 1) := by decide +kernel
theorem d_P_addLoopFrom_94 : decode b_P_addLoopFrom 94 = .ok (.getfield 24, 3) := by decide +kernel
theorem d_P_addLoopFrom_97 : decode b_P_addLoopFrom 97 = .ok (.iload_n 1, 1) := by decide +kernel
theorem d_P_addLoopFrom_98 : decode b_P_addLoopFrom 98 = .ok (.aload_n 0, 1) := by decide +kernel
theorem d_P_addLoopFrom_99 : decode b_P_addLoopFrom 99 = .ok (.getfield 44, 3) := by decide +kernel
theorem d_P_addLoopFrom_102 : decode b_P_addLoopFrom 102 = .ok (.iastore, 1) := by decide +kernel
theorem d_P_addLoopFrom_103 : decode b_P_addLoopFrom 103 = .ok (.aload_n 0, 1) := by decide +kernel
theorem d_P_addLoopFrom_104 : decode b_P_addLoopFrom 104 = .ok (.getfield 27, 3) := by decide +kernel
theorem d_P_addLoopFrom_107 : decode b_P_addLoopFrom 107 = .ok (.aload_n 0, 1) := by decide +kernel
theorem d_P_addLoopFrom_108 : decode b_P_addLoopFrom 108 = .ok (.getfield 44, 3) := by decide +kernel
theorem d_P_addLoopFrom_111 : decode b_P_addLoopFrom 111 = .ok (.iload_n 1, 1) := by decide +kernel
theorem d_P_addLoopFrom_112 : decode b_P_addLoopFrom 112 = .ok (.iastore, 1) := by decide +kernel
theorem d_P_addLoopFrom_113 : decode b_P_addLoopFrom 113 = .ok (.aload_n 0, 1) := by decide +kernel
theorem d_P_addLoopFrom_114 : decode b_P_addLoopFrom 114 = .ok (.getfield 30, 3) := by decide +kernel
theorem d_P_addLoopFrom_117 : decode b_P_addLoopFrom 117 = .ok (.aload_n 0, 1) := by decide +kernel
theorem d_P_addLoopFrom_118 : decode b_P_addLoopFrom 118 = .ok (.getfield 44, 3) := by decide +kernel
theorem d_P_addLoopFrom_121 : decode b_P_addLoopFrom 121 = .ok (.iload_n 3, 1) := by decide +kernel
theorem d_P_addLoopFrom_122 : decode b_P_addLoopFrom 122 = .ok (.iastore, 1) := by decide +kernel
theorem d_P_addLoopFrom_123 : decode b_P_addLoopFrom 123 = .ok (.aload_n 0, 1) := by decide +kernel
theorem d_P_addLoopFrom_124 : decode b_P_addLoopFrom 124 = .ok (.getfield 33, 3) := by decide +kernel
theorem d_P_addLoopFrom_127 : decode b_P_addLoopFrom 127 = .ok (.aload_n 0, 1) := by decide +kernel
theorem d_P_addLoopFrom_128 : decode b_P_addLoopFrom 128 = .ok (.getfield 44, 3) := by decide +kernel
theorem d_P_addLoopFrom_131 : decode b_P_addLoopFrom 131 = .ok (.iload_n 2, 1) := by decide +kernel
theorem d_P_addLoopFrom_132 : decode b_P_addLoopFrom 132 = .ok (.iastore, 1) := by decide +kernel
theorem d_P_addLoopFrom_133 : decode b_P_addLoopFrom 133 = .ok (.aload_n 0, 1) := by decide +kernel
theorem d_P_addLoopFrom_134 : decode b_P_addLoopFrom 134 = .ok (.dup, 1) := by decide +kernel
theorem d_P_addLoopFrom_135 : decode b_P_addLoopFrom 135 = .ok (.getfield 44, 3) := by decide +kernel
theorem d_P_addLoopFrom_138 : decode b_P_addLoopFrom 138 = .ok (.iconst 1, 1) := by decide +kernel
theorem d_P_addLoopFrom_139 : decode b_P_addLoopFrom 139 = .ok (.iadd, 1) := by decide +kernel
theorem d_P_addLoopFrom_140 : decode b_P_addLoopFrom 140 = .ok (.putfield 44, 3) := by decide +kernel
theorem d_P_addLoopFrom_143 : decode b_P_addLoopFrom 143 = .ok (.return_, 1) := by decide +kernel
theorem d_P_drainInLoop_0 : decode b_P_drainInLoop 0 = .ok (.iload_n 2, 1) := by decide +kernel
theorem d_P_drainInLoop_1 : decode b_P_drainInLoop 1 = .ok (.iload_n 1, 1) := by decide +kernel
theorem d_P_drainInLoop_2 : decode b_P_drainInLoop 2 = .ok (.if_icmp .ne 7, 3) := by decide +kernel
theorem d_P_drainInLoop_5 : decode b_P_drainInLoop 5 = .ok (.iconst (-1), 1) := by decide +kernel
theorem d_P_drainInLoop_6 : decode b_P_drainInLoop 6 = .ok (.goto 9, 3) := by decide +kernel
theorem d_P_drainInLoop_9 : decode b_P_drainInLoop 9 = .ok (.aload_n 0, 1) := by decide +kernel
theorem d_P_drainInLoop_10 : decode b_P_drainInLoop 10 = .ok (.getfield 21, 3) := by decide +kernel
theorem d_P_drainInLoop_13 : decode b_P_drainInLoop 13 = .ok (.iload_n 2, 1) := by decide +kernel
theorem d_P_drainInLoop_14 : decode b_P_drainInLoop 14 = .ok (.iaload, 1) := by decide +kernel
theorem d_P_drainInLoop_15 : decode b_P_drainInLoop 15 = .ok (.ireturn, 1) := by decide +kernel
theorem d_P_loopFrom_0 : decode b_P_loopFrom 0 = .ok (.iload_n 1, 1) := by decide +kernel
theorem d_P_loopFrom_1 : decode b_P_loopFrom 1 = .ok (.ifCond .lt 11, 3) := by decide +kernel
theorem d_P_loopFrom_4 : decode b_P_loopFrom 4 = .ok (.iload_n 1, 1) := by decide +kernel
theorem d_P_loopFrom_5 : decode b_P_loopFrom 5 = .ok (.aload_n 0, 1) := by decide +kernel
theorem d_P_loopFrom_6 : decode b_P_loopFrom 6 = .ok (.getfield 36, 3) := by decide +kernel
theorem d_P_loopFrom_9 : decode b_P_loopFrom 9 = .ok (.if_icmp .lt 7, 3) := by decide +kernel
theorem d_P_loopFrom_12 : decode b_P_loopFrom 12 = .ok (.iconst (-1), 1) := by decide +kernel
theorem d_P_loopFrom_13 : decode b_P_loopFrom 13 = .ok (.goto 9, 3) := by decide +kernel
theorem d_P_loopFrom_16 : decode b_P_loopFrom 16 = .ok (.aload_n 0, 1) := by decide +kernel
theorem d_P_loopFrom_17 : decode b_P_loopFrom 17 = .ok (.getfield 24, 3) := by decide +kernel
theorem d_P_loopFrom_20 : decode b_P_loopFrom 20 = .ok (.iload_n 1, 1) := by decide +kernel
theorem d_P_loopFrom_21 : decode b_P_loopFrom 21 = .ok (.iaload, 1) := by decide +kernel
theorem d_P_loopFrom_22 : decode b_P_loopFrom 22 = .ok (.ireturn, 1) := by decide +kernel
