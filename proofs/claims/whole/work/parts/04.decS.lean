theorem d_S_init_0 : decode b_S_init 0 = .ok (.aload_n 0, 1) := by decide +kernel
theorem d_S_init_1 : decode b_S_init 1 = .ok (.invokespecial 3, 3) := by decide +kernel
theorem d_S_init_4 : decode b_S_init 4 = .ok (.aload_n 0, 1) := by decide +kernel
theorem d_S_init_5 : decode b_S_init 5 = .ok (.bipush 8, 2) := by decide +kernel
theorem d_S_init_7 : decode b_S_init 7 = .ok (.newarray .int, 2) := by decide +kernel
theorem d_S_init_9 : decode b_S_init 9 = .ok (.putfield 9, 3) := by decide +kernel
theorem d_S_init_12 : decode b_S_init 12 = .ok (.aload_n 0, 1) := by decide +kernel
theorem d_S_init_13 : decode b_S_init 13 = .ok (.bipush 8, 2) := by decide +kernel
theorem d_S_init_15 : decode b_S_init 15 = .ok (.newarray .int, 2) := by decide +kernel
theorem d_S_init_17 : decode b_S_init 17 = .ok (.putfield 15, 3) := by decide +kernel
theorem d_S_init_20 : decode b_S_init 20 = .ok (.aload_n 0, 1) := by decide +kernel
theorem d_S_init_21 : decode b_S_init 21 = .ok (.bipush 8, 2) := by decide +kernel
theorem d_S_init_23 : decode b_S_init 23 = .ok (.newarray .int, 2) := by decide +kernel
theorem d_S_init_25 : decode b_S_init 25 = .ok (.putfield 18, 3) := by decide +kernel
theorem d_S_init_28 : decode b_S_init 28 = .ok (.aload_n 0, 1) := by decide +kernel
theorem d_S_init_29 : decode b_S_init 29 = .ok (.bipush 8, 2) := by decide +kernel
theorem d_S_init_31 : decode b_S_init 31 = .ok (.newarray .int, 2) := by decide +kernel
theorem d_S_init_33 : decode b_S_init 33 = .ok (.putfield 21, 3) := by decide +kernel
theorem d_S_init_36 : decode b_S_init 36 = .ok (.aload_n 0, 1) := by decide +kernel
theorem d_S_init_37 : decode b_S_init 37 = .ok (.bipush 8, 2) := by decide +kernel
theorem d_S_init_39 : decode b_S_init 39 = .ok (.newarray .boolean, 2) := by decide +kernel
theorem d_S_init_41 : decode b_S_init 41 = .ok (.putfield 24, 3) := by decide +kernel
theorem d_S_init_44 : decode b_S_init 44 = .ok (.return_, 1) := by decide +kernel
theorem d_S_follow_0 : decode b_S_follow 0 = .ok (.aload_n 0, 1) := by decide +kernel
theorem d_S_follow_1 : decode b_S_follow 1 = .ok (.aload_n 3, 1) := by decide +kernel
theorem d_S_follow_2 : decode b_S_follow 2 = .ok (.invokevirtual 28, 3) := by decide +kernel
theorem d_S_follow_5 : decode b_S_follow 5 = .ok (.aload_n 1, 1) := by decide +kernel
theorem d_S_follow_6 : decode b_S_follow 6 = .ok (.getfield 32, 3) := by decide +kernel
theorem d_S_follow_9 : decode b_S_follow 9 = .ok (.iload_n 2, 1) := by decide +kernel
theorem d_S_follow_10 : decode b_S_follow 10 = .ok (.iaload, 1) := by decide +kernel
theorem d_S_follow_11 : decode b_S_follow 11 = .ok (.istore 4, 2) := by decide +kernel
theorem d_S_follow_13 : decode b_S_follow 13 = .ok (.aload_n 1, 1) := by decide +kernel
theorem d_S_follow_14 : decode b_S_follow 14 = .ok (.getfield 37, 3) := by decide +kernel
theorem d_S_follow_17 : decode b_S_follow 17 = .ok (.iload_n 2, 1) := by decide +kernel
theorem d_S_follow_18 : decode b_S_follow 18 = .ok (.iaload, 1) := by decide +kernel
theorem d_S_follow_19 : decode b_S_follow 19 = .ok (.istore 5, 2) := by decide +kernel
theorem d_S_follow_21 : decode b_S_follow 21 = .ok (.iload 4, 2) := by decide +kernel
theorem d_S_follow_23 : decode b_S_follow 23 = .ok (.istore 6, 2) := by decide +kernel
theorem d_S_follow_25 : decode b_S_follow 25 = .ok (.iload 6, 2) := by decide +kernel
theorem d_S_follow_27 : decode b_S_follow 27 = .ok (.iload 5, 2) := by decide +kernel
theorem d_S_follow_29 : decode b_S_follow 29 = .ok (.if_icmp .ge 88, 3) := by decide +kernel
theorem d_S_follow_32 : decode b_S_follow 32 = .ok (.aload_n 0, 1) := by decide +kernel
theorem d_S_follow_33 : decode b_S_follow 33 = .ok (.getfield 40, 3) := by decide +kernel
theorem d_S_follow_36 : decode b_S_follow 36 = .ok (.ifCond .eq 81, 3) := by decide +kernel
theorem d_S_follow_39 : decode b_S_follow 39 = .ok (.aload_n 1, 1) := by decide +kernel
theorem d_S_follow_40 : decode b_S_follow 40 = .ok (.iload 4, 2) := by decide +kernel
theorem d_S_follow_42 : decode b_S_follow 42 = .ok (.iload 6, 2) := by decide +kernel
theorem d_S_follow_44 : decode b_S_follow 44 = .ok (.invokevirtual 44, 3) := by decide +kernel
theorem d_S_follow_47 : decode b_S_follow 47 = .ok (.istore 7, 2) := by decide +kernel
theorem d_S_follow_49 : decode b_S_follow 49 = .ok (.iload 7, 2) := by decide +kernel
theorem d_S_follow_51 : decode b_S_follow 51 = .ok (.iconst (-1), 1) := by decide +kernel
theorem d_S_follow_52 : decode b_S_follow 52 = .ok (.if_icmp .ne 42, 3) := by decide +kernel
theorem d_S_follow_55 : decode b_S_follow 55 = .ok (.aload_n 0, 1) := by decide +kernel
theorem d_S_follow_56 : decode b_S_follow 56 = .ok (.aload_n 1, 1) := by decide +kernel
theorem d_S_follow_57 : decode b_S_follow 57 = .ok (.getfield 48, 3) := by decide +kernel
theorem d_S_follow_60 : decode b_S_follow 60 = .ok (.iload 6, 2) := by decide +kernel
theorem d_S_follow_62 : decode b_S_follow 62 = .ok (.iaload, 1) := by decide +kernel
theorem d_S_follow_63 : decode b_S_follow 63 = .ok (.aload_n 1, 1) := by decide +kernel
theorem d_S_follow_64 : decode b_S_follow 64 = .ok (.getfield 51, 3) := by decide +kernel
theorem d_S_follow_67 : decode b_S_follow 67 = .ok (.iload 6, 2) := by decide +kernel
theorem d_S_follow_69 : decode b_S_follow 69 = .ok (.iaload, 1) := by decide +kernel
theorem d_S_follow_70 : decode b_S_follow 70 = .ok (.ifCond .ne 7, 3) := by decide +kernel
theorem d_S_follow_73 : decode b_S_follow 73 = .ok (.iconst 1, 1) := by decide +kernel
theorem d_S_follow_74 : decode b_S_follow 74 = .ok (.goto 4, 3) := by decide +kernel
theorem d_S_follow_77 : decode b_S_follow 77 = .ok (.iconst (-1), 1) := by decide +kernel
theorem d_S_follow_78 : decode b_S_follow 78 = .ok (.invokevirtual 54, 3) := by decide +kernel
theorem d_S_follow_81 : decode b_S_follow 81 = .ok (.aload_n 0, 1) := by decide +kernel
theorem d_S_follow_82 : decode b_S_follow 82 = .ok (.dup, 1) := by decide +kernel
theorem d_S_follow_83 : decode b_S_follow 83 = .ok (.getfield 58, 3) := by decide +kernel
theorem d_S_follow_86 : decode b_S_follow 86 = .ok (.lconst 1, 1) := by decide +kernel
theorem d_S_follow_87 : decode b_S_follow 87 = .ok (.ladd, 1) := by decide +kernel
theorem d_S_follow_88 : decode b_S_follow 88 = .ok (.putfield 58, 3) := by decide +kernel
theorem d_S_follow_91 : decode b_S_follow 91 = .ok (.goto 12, 3) := by decide +kernel
theorem d_S_follow_94 : decode b_S_follow 94 = .ok (.aload_n 0, 1) := by decide +kernel
theorem d_S_follow_95 : decode b_S_follow 95 = .ok (.aload_n 1, 1) := by decide +kernel
theorem d_S_follow_96 : decode b_S_follow 96 = .ok (.iload 6, 2) := by decide +kernel
theorem d_S_follow_98 : decode b_S_follow 98 = .ok (.iload 7, 2) := by decide +kernel
theorem d_S_follow_100 : decode b_S_follow 100 = .ok (.invokevirtual 62, 3) := by decide +kernel
theorem d_S_follow_103 : decode b_S_follow 103 = .ok (.iload 6, 2) := by decide +kernel
theorem d_S_follow_105 : decode b_S_follow 105 = .ok (.iload 7, 2) := by decide +kernel
theorem d_S_follow_107 : decode b_S_follow 107 = .ok (.invokestatic 66, 3) := by decide +kernel
theorem d_S_follow_110 : decode b_S_follow 110 = .ok (.iconst 1, 1) := by decide +kernel
theorem d_S_follow_111 : decode b_S_follow 111 = .ok (.iadd, 1) := by decide +kernel
theorem d_S_follow_112 : decode b_S_follow 112 = .ok (.istore 6, 2) := by decide +kernel
theorem d_S_follow_114 : decode b_S_follow 114 = .ok (.goto (-89), 3) := by decide +kernel
theorem d_S_follow_117 : decode b_S_follow 117 = .ok (.aload_n 0, 1) := by decide +kernel
theorem d_S_follow_118 : decode b_S_follow 118 = .ok (.dup, 1) := by decide +kernel
theorem d_S_follow_119 : decode b_S_follow 119 = .ok (.getfield 58, 3) := by decide +kernel
theorem d_S_follow_122 : decode b_S_follow 122 = .ok (.lconst 1, 1) := by decide +kernel
theorem d_S_follow_123 : decode b_S_follow 123 = .ok (.ladd, 1) := by decide +kernel
theorem d_S_follow_124 : decode b_S_follow 124 = .ok (.putfield 58, 3) := by decide +kernel
theorem d_S_follow_127 : decode b_S_follow 127 = .ok (.iconst 0, 1) := by decide +kernel
theorem d_S_follow_128 : decode b_S_follow 128 = .ok (.istore 7, 2) := by decide +kernel
theorem d_S_follow_130 : decode b_S_follow 130 = .ok (.iload 7, 2) := by decide +kernel
theorem d_S_follow_132 : decode b_S_follow 132 = .ok (.bipush 8, 2) := by decide +kernel
theorem d_S_follow_134 : decode b_S_follow 134 = .ok (.if_icmp .ge 28, 3) := by decide +kernel
theorem d_S_follow_137 : decode b_S_follow 137 = .ok (.aload_n 0, 1) := by decide +kernel
theorem d_S_follow_138 : decode b_S_follow 138 = .ok (.getfield 21, 3) := by decide +kernel
theorem d_S_follow_141 : decode b_S_follow 141 = .ok (.iload 7, 2) := by decide +kernel
theorem d_S_follow_143 : decode b_S_follow 143 = .ok (.aload_n 0, 1) := by decide +kernel
theorem d_S_follow_144 : decode b_S_follow 144 = .ok (.getfield 9, 3) := by decide +kernel
theorem d_S_follow_147 : decode b_S_follow 147 = .ok (.iload 7, 2) := by decide +kernel
theorem d_S_follow_149 : decode b_S_follow 149 = .ok (.iaload, 1) := by decide +kernel
theorem d_S_follow_150 : decode b_S_follow 150 = .ok (.aload_n 3, 1) := by decide +kernel
theorem d_S_follow_151 : decode b_S_follow 151 = .ok (.iload 7, 2) := by decide +kernel
theorem d_S_follow_153 : decode b_S_follow 153 = .ok (.iaload, 1) := by decide +kernel
theorem d_S_follow_154 : decode b_S_follow 154 = .ok (.isub, 1) := by decide +kernel
theorem d_S_follow_155 : decode b_S_follow 155 = .ok (.iastore, 1) := by decide +kernel
theorem d_S_follow_156 : decode b_S_follow 156 = .ok (.iinc 7 1, 3) := by decide +kernel
theorem d_S_follow_159 : decode b_S_follow 159 = .ok (.goto (-29), 3) := by decide +kernel
theorem d_S_follow_162 : decode b_S_follow 162 = .ok (.return_, 1) := by decide +kernel
theorem d_S_clear_0 : decode b_S_clear 0 = .ok (.aload_n 0, 1) := by decide +kernel
theorem d_S_clear_1 : decode b_S_clear 1 = .ok (.iconst 1, 1) := by decide +kernel
theorem d_S_clear_2 : decode b_S_clear 2 = .ok (.putfield 40, 3) := by decide +kernel
theorem d_S_clear_5 : decode b_S_clear 5 = .ok (.aload_n 0, 1) := by decide +kernel
theorem d_S_clear_6 : decode b_S_clear 6 = .ok (.lconst 0, 1) := by decide +kernel
theorem d_S_clear_7 : decode b_S_clear 7 = .ok (.putfield 58, 3) := by decide +kernel
theorem d_S_clear_10 : decode b_S_clear 10 = .ok (.iconst 0, 1) := by decide +kernel
theorem d_S_clear_11 : decode b_S_clear 11 = .ok (.istore_n 2, 1) := by decide +kernel
theorem d_S_clear_12 : decode b_S_clear 12 = .ok (.iload_n 2, 1) := by decide +kernel
theorem d_S_clear_13 : decode b_S_clear 13 = .ok (.bipush 8, 2) := by decide +kernel
theorem d_S_clear_15 : decode b_S_clear 15 = .ok (.if_icmp .ge 43, 3) := by decide +kernel
theorem d_S_clear_18 : decode b_S_clear 18 = .ok (.aload_n 0, 1) := by decide +kernel
theorem d_S_clear_19 : decode b_S_clear 19 = .ok (.getfield 9, 3) := by decide +kernel
theorem d_S_clear_22 : decode b_S_clear 22 = .ok (.iload_n 2, 1) := by decide +kernel
theorem d_S_clear_23 : decode b_S_clear 23 = .ok (.aload_n 1, 1) := by decide +kernel
theorem d_S_clear_24 : decode b_S_clear 24 = .ok (.iload_n 2, 1) := by decide +kernel
theorem d_S_clear_25 : decode b_S_clear 25 = .ok (.iaload, 1) := by decide +kernel
theorem d_S_clear_26 : decode b_S_clear 26 = .ok (.iastore, 1) := by decide +kernel
theorem d_S_clear_27 : decode b_S_clear 27 = .ok (.aload_n 0, 1) := by decide +kernel
theorem d_S_clear_28 : decode b_S_clear 28 = .ok (.getfield 15, 3) := by decide +kernel
theorem d_S_clear_31 : decode b_S_clear 31 = .ok (.iload_n 2, 1) := by decide +kernel
theorem d_S_clear_32 : decode b_S_clear 32 = .ok (.aload_n 1, 1) := by decide +kernel
theorem d_S_clear_33 : decode b_S_clear 33 = .ok (.iload_n 2, 1) := by decide +kernel
theorem d_S_clear_34 : decode b_S_clear 34 = .ok (.iaload, 1) := by decide +kernel
theorem d_S_clear_35 : decode b_S_clear 35 = .ok (.iastore, 1) := by decide +kernel
theorem d_S_clear_36 : decode b_S_clear 36 = .ok (.aload_n 0, 1) := by decide +kernel
theorem d_S_clear_37 : decode b_S_clear 37 = .ok (.getfield 18, 3) := by decide +kernel
theorem d_S_clear_40 : decode b_S_clear 40 = .ok (.iload_n 2, 1) := by decide +kernel
theorem d_S_clear_41 : decode b_S_clear 41 = .ok (.aload_n 1, 1) := by decide +kernel
theorem d_S_clear_42 : decode b_S_clear 42 = .ok (.iload_n 2, 1) := by decide +kernel
theorem d_S_clear_43 : decode b_S_clear 43 = .ok (.iaload, 1) := by decide +kernel
theorem d_S_clear_44 : decode b_S_clear 44 = .ok (.iastore, 1) := by decide +kernel
theorem d_S_clear_45 : decode b_S_clear 45 = .ok (.aload_n 0, 1) := by decide +kernel
theorem d_S_clear_46 : decode b_S_clear 46 = .ok (.getfield 24, 3) := by decide +kernel
theorem d_S_clear_49 : decode b_S_clear 49 = .ok (.iload_n 2, 1) := by decide +kernel
theorem d_S_clear_50 : decode b_S_clear 50 = .ok (.iconst 0, 1) := by decide +kernel
theorem d_S_clear_51 : decode b_S_clear 51 = .ok (.bastore, 1) := by decide +kernel
theorem d_S_clear_52 : decode b_S_clear 52 = .ok (.iinc 2 1, 3) := by decide +kernel
theorem d_S_clear_55 : decode b_S_clear 55 = .ok (.goto (-43), 3) := by decide +kernel
theorem d_S_clear_58 : decode b_S_clear 58 = .ok (.return_, 1) := by decide +kernel
theorem d_S_count_0 : decode b_S_count 0 = .ok (.aload_n 0, 1) := by decide +kernel
theorem d_S_count_1 : decode b_S_count 1 = .ok (.getfield 9, 3) := by decide +kernel
theorem d_S_count_4 : decode b_S_count 4 = .ok (.iload_n 1, 1) := by decide +kernel
theorem d_S_count_5 : decode b_S_count 5 = .ok (.iaload, 1) := by decide +kernel
theorem d_S_count_6 : decode b_S_count 6 = .ok (.iload_n 2, 1) := by decide +kernel
theorem d_S_count_7 : decode b_S_count 7 = .ok (.iadd, 1) := by decide +kernel
theorem d_S_count_8 : decode b_S_count 8 = .ok (.istore_n 3, 1) := by decide +kernel
theorem d_S_count_9 : decode b_S_count 9 = .ok (.iload_n 3, 1) := by decide +kernel
theorem d_S_count_10 : decode b_S_count 10 = .ok (.ifCond .lt 9, 3) := by decide +kernel
theorem d_S_count_13 : decode b_S_count 13 = .ok (.iload_n 3, 1) := by decide +kernel
theorem d_S_count_14 : decode b_S_count 14 = .ok (.ldc 71, 2) := by decide +kernel
theorem d_S_count_16 : decode b_S_count 16 = .ok (.if_icmp .le 9, 3) := by decide +kernel
theorem d_S_count_19 : decode b_S_count 19 = .ok (.aload_n 0, 1) := by decide +kernel
theorem d_S_count_20 : decode b_S_count 20 = .ok (.iconst 0, 1) := by decide +kernel
theorem d_S_count_21 : decode b_S_count 21 = .ok (.putfield 40, 3) := by decide +kernel
theorem d_S_count_24 : decode b_S_count 24 = .ok (.return_, 1) := by decide +kernel
theorem d_S_count_25 : decode b_S_count 25 = .ok (.aload_n 0, 1) := by decide +kernel
theorem d_S_count_26 : decode b_S_count 26 = .ok (.getfield 9, 3) := by decide +kernel
theorem d_S_count_29 : decode b_S_count 29 = .ok (.iload_n 1, 1) := by decide +kernel
theorem d_S_count_30 : decode b_S_count 30 = .ok (.iload_n 3, 1) := by decide +kernel
theorem d_S_count_31 : decode b_S_count 31 = .ok (.iastore, 1) := by decide +kernel
theorem d_S_count_32 : decode b_S_count 32 = .ok (.aload_n 0, 1) := by decide +kernel
theorem d_S_count_33 : decode b_S_count 33 = .ok (.getfield 15, 3) := by decide +kernel
theorem d_S_count_36 : decode b_S_count 36 = .ok (.iload_n 1, 1) := by decide +kernel
theorem d_S_count_37 : decode b_S_count 37 = .ok (.aload_n 0, 1) := by decide +kernel
theorem d_S_count_38 : decode b_S_count 38 = .ok (.getfield 15, 3) := by decide +kernel
theorem d_S_count_41 : decode b_S_count 41 = .ok (.iload_n 1, 1) := by decide +kernel
theorem d_S_count_42 : decode b_S_count 42 = .ok (.iaload, 1) := by decide +kernel
theorem d_S_count_43 : decode b_S_count 43 = .ok (.iload_n 3, 1) := by decide +kernel
theorem d_S_count_44 : decode b_S_count 44 = .ok (.invokestatic 72, 3) := by decide +kernel
theorem d_S_count_47 : decode b_S_count 47 = .ok (.iastore, 1) := by decide +kernel
theorem d_S_count_48 : decode b_S_count 48 = .ok (.aload_n 0, 1) := by decide +kernel
theorem d_S_count_49 : decode b_S_count 49 = .ok (.getfield 18, 3) := by decide +kernel
theorem d_S_count_52 : decode b_S_count 52 = .ok (.iload_n 1, 1) := by decide +kernel
theorem d_S_count_53 : decode b_S_count 53 = .ok (.aload_n 0, 1) := by decide +kernel
theorem d_S_count_54 : decode b_S_count 54 = .ok (.getfield 18, 3) := by decide +kernel
theorem d_S_count_57 : decode b_S_count 57 = .ok (.iload_n 1, 1) := by decide +kernel
theorem d_S_count_58 : decode b_S_count 58 = .ok (.iaload, 1) := by decide +kernel
theorem d_S_count_59 : decode b_S_count 59 = .ok (.iload_n 3, 1) := by decide +kernel
theorem d_S_count_60 : decode b_S_count 60 = .ok (.invokestatic 66, 3) := by decide +kernel
theorem d_S_count_63 : decode b_S_count 63 = .ok (.iastore, 1) := by decide +kernel
theorem d_S_count_64 : decode b_S_count 64 = .ok (.return_, 1) := by decide +kernel
theorem d_S_drain_0 : decode b_S_drain 0 = .ok (.aload_n 1, 1) := by decide +kernel
theorem d_S_drain_1 : decode b_S_drain 1 = .ok (.getfield 48, 3) := by decide +kernel
theorem d_S_drain_4 : decode b_S_drain 4 = .ok (.iload_n 2, 1) := by decide +kernel
theorem d_S_drain_5 : decode b_S_drain 5 = .ok (.iaload, 1) := by decide +kernel
theorem d_S_drain_6 : decode b_S_drain 6 = .ok (.istore 4, 2) := by decide +kernel
theorem d_S_drain_8 : decode b_S_drain 8 = .ok (.aload_n 0, 1) := by decide +kernel
theorem d_S_drain_9 : decode b_S_drain 9 = .ok (.getfield 9, 3) := by decide +kernel
theorem d_S_drain_12 : decode b_S_drain 12 = .ok (.iload 4, 2) := by decide +kernel
theorem d_S_drain_14 : decode b_S_drain 14 = .ok (.iaload, 1) := by decide +kernel
theorem d_S_drain_15 : decode b_S_drain 15 = .ok (.istore 5, 2) := by decide +kernel
theorem d_S_drain_17 : decode b_S_drain 17 = .ok (.iload_n 2, 1) := by decide +kernel
theorem d_S_drain_18 : decode b_S_drain 18 = .ok (.iconst 1, 1) := by decide +kernel
theorem d_S_drain_19 : decode b_S_drain 19 = .ok (.iadd, 1) := by decide +kernel
theorem d_S_drain_20 : decode b_S_drain 20 = .ok (.istore 6, 2) := by decide +kernel
theorem d_S_drain_22 : decode b_S_drain 22 = .ok (.iload 6, 2) := by decide +kernel
theorem d_S_drain_24 : decode b_S_drain 24 = .ok (.iload_n 3, 1) := by decide +kernel
theorem d_S_drain_25 : decode b_S_drain 25 = .ok (.if_icmp .ge 22, 3) := by decide +kernel
theorem d_S_drain_28 : decode b_S_drain 28 = .ok (.aload_n 0, 1) := by decide +kernel
theorem d_S_drain_29 : decode b_S_drain 29 = .ok (.aload_n 1, 1) := by decide +kernel
theorem d_S_drain_30 : decode b_S_drain 30 = .ok (.getfield 48, 3) := by decide +kernel
theorem d_S_drain_33 : decode b_S_drain 33 = .ok (.iload 6, 2) := by decide +kernel
theorem d_S_drain_35 : decode b_S_drain 35 = .ok (.iaload, 1) := by decide +kernel
theorem d_S_drain_36 : decode b_S_drain 36 = .ok (.iload 5, 2) := by decide +kernel
theorem d_S_drain_38 : decode b_S_drain 38 = .ok (.invokevirtual 54, 3) := by decide +kernel
theorem d_S_drain_41 : decode b_S_drain 41 = .ok (.iinc 6 1, 3) := by decide +kernel
theorem d_S_drain_44 : decode b_S_drain 44 = .ok (.goto (-22), 3) := by decide +kernel
theorem d_S_drain_47 : decode b_S_drain 47 = .ok (.aload_n 0, 1) := by decide +kernel
theorem d_S_drain_48 : decode b_S_drain 48 = .ok (.getfield 9, 3) := by decide +kernel
theorem d_S_drain_51 : decode b_S_drain 51 = .ok (.iload 4, 2) := by decide +kernel
theorem d_S_drain_53 : decode b_S_drain 53 = .ok (.iconst 0, 1) := by decide +kernel
theorem d_S_drain_54 : decode b_S_drain 54 = .ok (.iastore, 1) := by decide +kernel
theorem d_S_drain_55 : decode b_S_drain 55 = .ok (.aload_n 0, 1) := by decide +kernel
theorem d_S_drain_56 : decode b_S_drain 56 = .ok (.getfield 24, 3) := by decide +kernel
theorem d_S_drain_59 : decode b_S_drain 59 = .ok (.iload 4, 2) := by decide +kernel
theorem d_S_drain_61 : decode b_S_drain 61 = .ok (.iconst 1, 1) := by decide +kernel
theorem d_S_drain_62 : decode b_S_drain 62 = .ok (.bastore, 1) := by decide +kernel
theorem d_S_drain_63 : decode b_S_drain 63 = .ok (.aload_n 0, 1) := by decide +kernel
theorem d_S_drain_64 : decode b_S_drain 64 = .ok (.dup, 1) := by decide +kernel
theorem d_S_drain_65 : decode b_S_drain 65 = .ok (.getfield 58, 3) := by decide +kernel
theorem d_S_drain_68 : decode b_S_drain 68 = .ok (.iload 5, 2) := by decide +kernel
theorem d_S_drain_70 : decode b_S_drain 70 = .ok (.i2l, 1) := by decide +kernel
theorem d_S_drain_71 : decode b_S_drain 71 = .ok (.iload_n 3, 1) := by decide +kernel
theorem d_S_drain_72 : decode b_S_drain 72 = .ok (.iload_n 2, 1) := by decide +kernel
theorem d_S_drain_73 : decode b_S_drain 73 = .ok (.isub, 1) := by decide +kernel
theorem d_S_drain_74 : decode b_S_drain 74 = .ok (.iconst 1, 1) := by decide +kernel
theorem d_S_drain_75 : decode b_S_drain 75 = .ok (.iadd, 1) := by decide +kernel
theorem d_S_drain_76 : decode b_S_drain 76 = .ok (.i2l, 1) := by decide +kernel
theorem d_S_drain_77 : decode b_S_drain 77 = .ok (.lmul, 1) := by decide +kernel
theorem d_S_drain_78 : decode b_S_drain 78 = .ok (.lconst 1, 1) := by decide +kernel
theorem d_S_drain_79 : decode b_S_drain 79 = .ok (.ladd, 1) := by decide +kernel
theorem d_S_drain_80 : decode b_S_drain 80 = .ok (.ladd, 1) := by decide +kernel
theorem d_S_drain_81 : decode b_S_drain 81 = .ok (.putfield 58, 3) := by decide +kernel
theorem d_S_drain_84 : decode b_S_drain 84 = .ok (.return_, 1) := by decide +kernel
theorem d_S_changesNothing_0 : decode b_S_changesNothing 0 = .ok (.iconst 0, 1) := by decide +kernel
theorem d_S_changesNothing_1 : decode b_S_changesNothing 1 = .ok (.istore_n 1, 1) := by decide +kernel
theorem d_S_changesNothing_2 : decode b_S_changesNothing 2 = .ok (.iload_n 1, 1) := by decide +kernel
theorem d_S_changesNothing_3 : decode b_S_changesNothing 3 = .ok (.bipush 8, 2) := by decide +kernel
theorem d_S_changesNothing_5 : decode b_S_changesNothing 5 = .ok (.if_icmp .ge 20, 3) := by decide +kernel
theorem d_S_changesNothing_8 : decode b_S_changesNothing 8 = .ok (.aload_n 0, 1) := by decide +kernel
theorem d_S_changesNothing_9 : decode b_S_changesNothing 9 = .ok (.getfield 21, 3) := by decide +kernel
theorem d_S_changesNothing_12 : decode b_S_changesNothing 12 = .ok (.iload_n 1, 1) := by decide +kernel
theorem d_S_changesNothing_13 : decode b_S_changesNothing 13 = .ok (.iaload, 1) := by decide +kernel
theorem d_S_changesNothing_14 : decode b_S_changesNothing 14 = .ok (.ifCond .eq 5, 3) := by decide +kernel
theorem d_S_changesNothing_17 : decode b_S_changesNothing 17 = .ok (.iconst 0, 1) := by decide +kernel
theorem d_S_changesNothing_18 : decode b_S_changesNothing 18 = .ok (.ireturn, 1) := by decide +kernel
theorem d_S_changesNothing_19 : decode b_S_changesNothing 19 = .ok (.iinc 1 1, 3) := by decide +kernel
theorem d_S_changesNothing_22 : decode b_S_changesNothing 22 = .ok (.goto (-20), 3) := by decide +kernel
theorem d_S_changesNothing_25 : decode b_S_changesNothing 25 = .ok (.iconst 1, 1) := by decide +kernel
theorem d_S_changesNothing_26 : decode b_S_changesNothing 26 = .ok (.ireturn, 1) := by decide +kernel
theorem d_S_changesDrained_0 : decode b_S_changesDrained 0 = .ok (.iconst 0, 1) := by decide +kernel
theorem d_S_changesDrained_1 : decode b_S_changesDrained 1 = .ok (.istore_n 1, 1) := by decide +kernel
theorem d_S_changesDrained_2 : decode b_S_changesDrained 2 = .ok (.iload_n 1, 1) := by decide +kernel
theorem d_S_changesDrained_3 : decode b_S_changesDrained 3 = .ok (.bipush 8, 2) := by decide +kernel
theorem d_S_changesDrained_5 : decode b_S_changesDrained 5 = .ok (.if_icmp .ge 29, 3) := by decide +kernel
theorem d_S_changesDrained_8 : decode b_S_changesDrained 8 = .ok (.aload_n 0, 1) := by decide +kernel
theorem d_S_changesDrained_9 : decode b_S_changesDrained 9 = .ok (.getfield 24, 3) := by decide +kernel
theorem d_S_changesDrained_12 : decode b_S_changesDrained 12 = .ok (.iload_n 1, 1) := by decide +kernel
theorem d_S_changesDrained_13 : decode b_S_changesDrained 13 = .ok (.baload, 1) := by decide +kernel
theorem d_S_changesDrained_14 : decode b_S_changesDrained 14 = .ok (.ifCond .eq 14, 3) := by decide +kernel
theorem d_S_changesDrained_17 : decode b_S_changesDrained 17 = .ok (.aload_n 0, 1) := by decide +kernel
theorem d_S_changesDrained_18 : decode b_S_changesDrained 18 = .ok (.getfield 21, 3) := by decide +kernel
theorem d_S_changesDrained_21 : decode b_S_changesDrained 21 = .ok (.iload_n 1, 1) := by decide +kernel
theorem d_S_changesDrained_22 : decode b_S_changesDrained 22 = .ok (.iaload, 1) := by decide +kernel
theorem d_S_changesDrained_23 : decode b_S_changesDrained 23 = .ok (.ifCond .eq 5, 3) := by decide +kernel
theorem d_S_changesDrained_26 : decode b_S_changesDrained 26 = .ok (.iconst 1, 1) := by decide +kernel
theorem d_S_changesDrained_27 : decode b_S_changesDrained 27 = .ok (.ireturn, 1) := by decide +kernel
theorem d_S_changesDrained_28 : decode b_S_changesDrained 28 = .ok (.iinc 1 1, 3) := by decide +kernel
theorem d_S_changesDrained_31 : decode b_S_changesDrained 31 = .ok (.goto (-29), 3) := by decide +kernel
theorem d_S_changesDrained_34 : decode b_S_changesDrained 34 = .ok (.iconst 0, 1) := by decide +kernel
theorem d_S_changesDrained_35 : decode b_S_changesDrained 35 = .ok (.ireturn, 1) := by decide +kernel
theorem d_S_passesIn_0 : decode b_S_passesIn 0 = .ok (.aload_n 0, 1) := by decide +kernel
theorem d_S_passesIn_1 : decode b_S_passesIn 1 = .ok (.getfield 40, 3) := by decide +kernel
theorem d_S_passesIn_4 : decode b_S_passesIn 4 = .ok (.ifCond .eq 21, 3) := by decide +kernel
theorem d_S_passesIn_7 : decode b_S_passesIn 7 = .ok (.aload_n 0, 1) := by decide +kernel
theorem d_S_passesIn_8 : decode b_S_passesIn 8 = .ok (.getfield 58, 3) := by decide +kernel
theorem d_S_passesIn_11 : decode b_S_passesIn 11 = .ok (.lconst 1, 1) := by decide +kernel
theorem d_S_passesIn_12 : decode b_S_passesIn 12 = .ok (.lcmp, 1) := by decide +kernel
theorem d_S_passesIn_13 : decode b_S_passesIn 13 = .ok (.ifCond .lt 12, 3) := by decide +kernel
theorem d_S_passesIn_16 : decode b_S_passesIn 16 = .ok (.lload_n 1, 1) := by decide +kernel
theorem d_S_passesIn_17 : decode b_S_passesIn 17 = .ok (.aload_n 0, 1) := by decide +kernel
theorem d_S_passesIn_18 : decode b_S_passesIn 18 = .ok (.getfield 58, 3) := by decide +kernel
theorem d_S_passesIn_21 : decode b_S_passesIn 21 = .ok (.lcmp, 1) := by decide +kernel
theorem d_S_passesIn_22 : decode b_S_passesIn 22 = .ok (.ifCond .ge 5, 3) := by decide +kernel
theorem d_S_passesIn_25 : decode b_S_passesIn 25 = .ok (.lconst 0, 1) := by decide +kernel
theorem d_S_passesIn_26 : decode b_S_passesIn 26 = .ok (.lreturn, 1) := by decide +kernel
theorem d_S_passesIn_27 : decode b_S_passesIn 27 = .ok (.aload_n 0, 1) := by decide +kernel
theorem d_S_passesIn_28 : decode b_S_passesIn 28 = .ok (.invokevirtual 75, 3) := by decide +kernel
theorem d_S_passesIn_31 : decode b_S_passesIn 31 = .ok (.ifCond .eq 5, 3) := by decide +kernel
theorem d_S_passesIn_34 : decode b_S_passesIn 34 = .ok (.lconst 1, 1) := by decide +kernel
theorem d_S_passesIn_35 : decode b_S_passesIn 35 = .ok (.lreturn, 1) := by decide +kernel
theorem d_S_passesIn_36 : decode b_S_passesIn 36 = .ok (.lload_n 1, 1) := by decide +kernel
theorem d_S_passesIn_37 : decode b_S_passesIn 37 = .ok (.aload_n 0, 1) := by decide +kernel
theorem d_S_passesIn_38 : decode b_S_passesIn 38 = .ok (.getfield 58, 3) := by decide +kernel
theorem d_S_passesIn_41 : decode b_S_passesIn 41 = .ok (.ldiv, 1) := by decide +kernel
theorem d_S_passesIn_42 : decode b_S_passesIn 42 = .ok (.lstore_n 3, 1) := by decide +kernel
theorem d_S_passesIn_43 : decode b_S_passesIn 43 = .ok (.iconst 0, 1) := by decide +kernel
theorem d_S_passesIn_44 : decode b_S_passesIn 44 = .ok (.istore 5, 2) := by decide +kernel
theorem d_S_passesIn_46 : decode b_S_passesIn 46 = .ok (.iload 5, 2) := by decide +kernel
theorem d_S_passesIn_48 : decode b_S_passesIn 48 = .ok (.bipush 8, 2) := by decide +kernel
theorem d_S_passesIn_50 : decode b_S_passesIn 50 = .ok (.if_icmp .ge 20, 3) := by decide +kernel
theorem d_S_passesIn_53 : decode b_S_passesIn 53 = .ok (.lload_n 3, 1) := by decide +kernel
theorem d_S_passesIn_54 : decode b_S_passesIn 54 = .ok (.aload_n 0, 1) := by decide +kernel
theorem d_S_passesIn_55 : decode b_S_passesIn 55 = .ok (.iload 5, 2) := by decide +kernel
theorem d_S_passesIn_57 : decode b_S_passesIn 57 = .ok (.invokevirtual 79, 3) := by decide +kernel
theorem d_S_passesIn_60 : decode b_S_passesIn 60 = .ok (.invokestatic 83, 3) := by decide +kernel
theorem d_S_passesIn_63 : decode b_S_passesIn 63 = .ok (.lstore_n 3, 1) := by decide +kernel
theorem d_S_passesIn_64 : decode b_S_passesIn 64 = .ok (.iinc 5 1, 3) := by decide +kernel
theorem d_S_passesIn_67 : decode b_S_passesIn 67 = .ok (.goto (-21), 3) := by decide +kernel
theorem d_S_passesIn_70 : decode b_S_passesIn 70 = .ok (.lload_n 3, 1) := by decide +kernel
theorem d_S_passesIn_71 : decode b_S_passesIn 71 = .ok (.lreturn, 1) := by decide +kernel
theorem d_S_passesOf_0 : decode b_S_passesOf 0 = .ok (.aload_n 0, 1) := by decide +kernel
theorem d_S_passesOf_1 : decode b_S_passesOf 1 = .ok (.getfield 21, 3) := by decide +kernel
theorem d_S_passesOf_4 : decode b_S_passesOf 4 = .ok (.iload_n 1, 1) := by decide +kernel
theorem d_S_passesOf_5 : decode b_S_passesOf 5 = .ok (.iaload, 1) := by decide +kernel
theorem d_S_passesOf_6 : decode b_S_passesOf 6 = .ok (.ifCond .le 23, 3) := by decide +kernel
theorem d_S_passesOf_9 : decode b_S_passesOf 9 = .ok (.ldc 71, 2) := by decide +kernel
theorem d_S_passesOf_11 : decode b_S_passesOf 11 = .ok (.aload_n 0, 1) := by decide +kernel
theorem d_S_passesOf_12 : decode b_S_passesOf 12 = .ok (.getfield 18, 3) := by decide +kernel
theorem d_S_passesOf_15 : decode b_S_passesOf 15 = .ok (.iload_n 1, 1) := by decide +kernel
theorem d_S_passesOf_16 : decode b_S_passesOf 16 = .ok (.iaload, 1) := by decide +kernel
theorem d_S_passesOf_17 : decode b_S_passesOf 17 = .ok (.isub, 1) := by decide +kernel
theorem d_S_passesOf_18 : decode b_S_passesOf 18 = .ok (.aload_n 0, 1) := by decide +kernel
theorem d_S_passesOf_19 : decode b_S_passesOf 19 = .ok (.getfield 21, 3) := by decide +kernel
theorem d_S_passesOf_22 : decode b_S_passesOf 22 = .ok (.iload_n 1, 1) := by decide +kernel
theorem d_S_passesOf_23 : decode b_S_passesOf 23 = .ok (.iaload, 1) := by decide +kernel
theorem d_S_passesOf_24 : decode b_S_passesOf 24 = .ok (.idiv, 1) := by decide +kernel
theorem d_S_passesOf_25 : decode b_S_passesOf 25 = .ok (.iconst 1, 1) := by decide +kernel
theorem d_S_passesOf_26 : decode b_S_passesOf 26 = .ok (.iadd, 1) := by decide +kernel
theorem d_S_passesOf_27 : decode b_S_passesOf 27 = .ok (.i2l, 1) := by decide +kernel
theorem d_S_passesOf_28 : decode b_S_passesOf 28 = .ok (.lreturn, 1) := by decide +kernel
theorem d_S_passesOf_29 : decode b_S_passesOf 29 = .ok (.aload_n 0, 1) := by decide +kernel
theorem d_S_passesOf_30 : decode b_S_passesOf 30 = .ok (.getfield 21, 3) := by decide +kernel
theorem d_S_passesOf_33 : decode b_S_passesOf 33 = .ok (.iload_n 1, 1) := by decide +kernel
theorem d_S_passesOf_34 : decode b_S_passesOf 34 = .ok (.iaload, 1) := by decide +kernel
theorem d_S_passesOf_35 : decode b_S_passesOf 35 = .ok (.ifCond .ge 21, 3) := by decide +kernel
theorem d_S_passesOf_38 : decode b_S_passesOf 38 = .ok (.aload_n 0, 1) := by decide +kernel
theorem d_S_passesOf_39 : decode b_S_passesOf 39 = .ok (.getfield 15, 3) := by decide +kernel
theorem d_S_passesOf_42 : decode b_S_passesOf 42 = .ok (.iload_n 1, 1) := by decide +kernel
theorem d_S_passesOf_43 : decode b_S_passesOf 43 = .ok (.iaload, 1) := by decide +kernel
theorem d_S_passesOf_44 : decode b_S_passesOf 44 = .ok (.aload_n 0, 1) := by decide +kernel
theorem d_S_passesOf_45 : decode b_S_passesOf 45 = .ok (.getfield 21, 3) := by decide +kernel
theorem d_S_passesOf_48 : decode b_S_passesOf 48 = .ok (.iload_n 1, 1) := by decide +kernel
theorem d_S_passesOf_49 : decode b_S_passesOf 49 = .ok (.iaload, 1) := by decide +kernel
theorem d_S_passesOf_50 : decode b_S_passesOf 50 = .ok (.ineg, 1) := by decide +kernel
theorem d_S_passesOf_51 : decode b_S_passesOf 51 = .ok (.idiv, 1) := by decide +kernel
theorem d_S_passesOf_52 : decode b_S_passesOf 52 = .ok (.iconst 1, 1) := by decide +kernel
theorem d_S_passesOf_53 : decode b_S_passesOf 53 = .ok (.iadd, 1) := by decide +kernel
theorem d_S_passesOf_54 : decode b_S_passesOf 54 = .ok (.i2l, 1) := by decide +kernel
theorem d_S_passesOf_55 : decode b_S_passesOf 55 = .ok (.lreturn, 1) := by decide +kernel
theorem d_S_passesOf_56 : decode b_S_passesOf 56 = .ok (.ldc2_w 86, 3) := by decide +kernel
theorem d_S_passesOf_59 : decode b_S_passesOf 59 = .ok (.lreturn, 1) := by decide +kernel
