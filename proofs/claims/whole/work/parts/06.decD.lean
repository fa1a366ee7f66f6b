theorem d_D_init_0 : decode b_D_init 0 = .ok (.aload_n 0, 1) := by decide +kernel
theorem d_D_init_1 : decode b_D_init 1 = .ok (.invokespecial 1, 3) := by decide +kernel
theorem d_D_init_4 : decode b_D_init 4 = .ok (.aload_n 0, 1) := by decide +kernel
theorem d_D_init_5 : decode b_D_init 5 = .ok (.bipush 120, 2) := by decide +kernel
theorem d_D_init_7 : decode b_D_init 7 = .ok (.newarray .int, 2) := by decide +kernel
theorem d_D_init_9 : decode b_D_init 9 = .ok (.putfield 7, 3) := by decide +kernel
theorem d_D_init_12 : decode b_D_init 12 = .ok (.aload_n 0, 1) := by decide +kernel
theorem d_D_init_13 : decode b_D_init 13 = .ok (.bipush 24, 2) := by decide +kernel
theorem d_D_init_15 : decode b_D_init 15 = .ok (.newarray .int, 2) := by decide +kernel
theorem d_D_init_17 : decode b_D_init 17 = .ok (.putfield 13, 3) := by decide +kernel
theorem d_D_init_20 : decode b_D_init 20 = .ok (.aload_n 0, 1) := by decide +kernel
theorem d_D_init_21 : decode b_D_init 21 = .ok (.bipush 24, 2) := by decide +kernel
theorem d_D_init_23 : decode b_D_init 23 = .ok (.newarray .int, 2) := by decide +kernel
theorem d_D_init_25 : decode b_D_init 25 = .ok (.putfield 16, 3) := by decide +kernel
theorem d_D_init_28 : decode b_D_init 28 = .ok (.aload_n 0, 1) := by decide +kernel
theorem d_D_init_29 : decode b_D_init 29 = .ok (.bipush 24, 2) := by decide +kernel
theorem d_D_init_31 : decode b_D_init 31 = .ok (.newarray .int, 2) := by decide +kernel
theorem d_D_init_33 : decode b_D_init 33 = .ok (.putfield 19, 3) := by decide +kernel
theorem d_D_init_36 : decode b_D_init 36 = .ok (.aload_n 0, 1) := by decide +kernel
theorem d_D_init_37 : decode b_D_init 37 = .ok (.bipush 24, 2) := by decide +kernel
theorem d_D_init_39 : decode b_D_init 39 = .ok (.newarray .int, 2) := by decide +kernel
theorem d_D_init_41 : decode b_D_init 41 = .ok (.putfield 22, 3) := by decide +kernel
theorem d_D_init_44 : decode b_D_init 44 = .ok (.aload_n 0, 1) := by decide +kernel
theorem d_D_init_45 : decode b_D_init 45 = .ok (.bipush 26, 2) := by decide +kernel
theorem d_D_init_47 : decode b_D_init 47 = .ok (.newarray .int, 2) := by decide +kernel
theorem d_D_init_49 : decode b_D_init 49 = .ok (.putfield 25, 3) := by decide +kernel
theorem d_D_init_52 : decode b_D_init 52 = .ok (.aload_n 0, 1) := by decide +kernel
theorem d_D_init_53 : decode b_D_init 53 = .ok (.bipush 24, 2) := by decide +kernel
theorem d_D_init_55 : decode b_D_init 55 = .ok (.newarray .int, 2) := by decide +kernel
theorem d_D_init_57 : decode b_D_init 57 = .ok (.putfield 28, 3) := by decide +kernel
theorem d_D_init_60 : decode b_D_init 60 = .ok (.aload_n 0, 1) := by decide +kernel
theorem d_D_init_61 : decode b_D_init 61 = .ok (.bipush 24, 2) := by decide +kernel
theorem d_D_init_63 : decode b_D_init 63 = .ok (.newarray .int, 2) := by decide +kernel
theorem d_D_init_65 : decode b_D_init 65 = .ok (.putfield 31, 3) := by decide +kernel
theorem d_D_init_68 : decode b_D_init 68 = .ok (.aload_n 0, 1) := by decide +kernel
theorem d_D_init_69 : decode b_D_init 69 = .ok (.bipush 24, 2) := by decide +kernel
theorem d_D_init_71 : decode b_D_init 71 = .ok (.newarray .int, 2) := by decide +kernel
theorem d_D_init_73 : decode b_D_init 73 = .ok (.putfield 34, 3) := by decide +kernel
theorem d_D_init_76 : decode b_D_init 76 = .ok (.aload_n 0, 1) := by decide +kernel
theorem d_D_init_77 : decode b_D_init 77 = .ok (.bipush 24, 2) := by decide +kernel
theorem d_D_init_79 : decode b_D_init 79 = .ok (.newarray .int, 2) := by decide +kernel
theorem d_D_init_81 : decode b_D_init 81 = .ok (.putfield 37, 3) := by decide +kernel
theorem d_D_init_84 : decode b_D_init 84 = .ok (.aload_n 0, 1) := by decide +kernel
theorem d_D_init_85 : decode b_D_init 85 = .ok (.bipush 24, 2) := by decide +kernel
theorem d_D_init_87 : decode b_D_init 87 = .ok (.newarray .int, 2) := by decide +kernel
theorem d_D_init_89 : decode b_D_init 89 = .ok (.putfield 40, 3) := by decide +kernel
theorem d_D_init_92 : decode b_D_init 92 = .ok (.aload_n 0, 1) := by decide +kernel
theorem d_D_init_93 : decode b_D_init 93 = .ok (.bipush 24, 2) := by decide +kernel
theorem d_D_init_95 : decode b_D_init 95 = .ok (.newarray .int, 2) := by decide +kernel
theorem d_D_init_97 : decode b_D_init 97 = .ok (.putfield 43, 3) := by decide +kernel
theorem d_D_init_100 : decode b_D_init 100 = .ok (.aload_n 0, 1) := by decide +kernel
theorem d_D_init_101 : decode b_D_init 101 = .ok (.bipush 8, 2) := by decide +kernel
theorem d_D_init_103 : decode b_D_init 103 = .ok (.newarray .int, 2) := by decide +kernel
theorem d_D_init_105 : decode b_D_init 105 = .ok (.putfield 46, 3) := by decide +kernel
theorem d_D_init_108 : decode b_D_init 108 = .ok (.aload_n 0, 1) := by decide +kernel
theorem d_D_init_109 : decode b_D_init 109 = .ok (.bipush 8, 2) := by decide +kernel
theorem d_D_init_111 : decode b_D_init 111 = .ok (.newarray .int, 2) := by decide +kernel
theorem d_D_init_113 : decode b_D_init 113 = .ok (.putfield 49, 3) := by decide +kernel
theorem d_D_init_116 : decode b_D_init 116 = .ok (.aload_n 0, 1) := by decide +kernel
theorem d_D_init_117 : decode b_D_init 117 = .ok (.iconst 1, 1) := by decide +kernel
theorem d_D_init_118 : decode b_D_init 118 = .ok (.putfield 52, 3) := by decide +kernel
theorem d_D_init_121 : decode b_D_init 121 = .ok (.aload_n 0, 1) := by decide +kernel
theorem d_D_init_122 : decode b_D_init 122 = .ok (.bipush 8, 2) := by decide +kernel
theorem d_D_init_124 : decode b_D_init 124 = .ok (.newarray .int, 2) := by decide +kernel
theorem d_D_init_126 : decode b_D_init 126 = .ok (.putfield 56, 3) := by decide +kernel
theorem d_D_init_129 : decode b_D_init 129 = .ok (.aload_n 0, 1) := by decide +kernel
theorem d_D_init_130 : decode b_D_init 130 = .ok (.bipush 8, 2) := by decide +kernel
theorem d_D_init_132 : decode b_D_init 132 = .ok (.newarray .int, 2) := by decide +kernel
theorem d_D_init_134 : decode b_D_init 134 = .ok (.putfield 59, 3) := by decide +kernel
theorem d_D_init_137 : decode b_D_init 137 = .ok (.aload_n 0, 1) := by decide +kernel
theorem d_D_init_138 : decode b_D_init 138 = .ok (.bipush 8, 2) := by decide +kernel
theorem d_D_init_140 : decode b_D_init 140 = .ok (.newarray .int, 2) := by decide +kernel
theorem d_D_init_142 : decode b_D_init 142 = .ok (.putfield 62, 3) := by decide +kernel
theorem d_D_init_145 : decode b_D_init 145 = .ok (.aload_n 0, 1) := by decide +kernel
theorem d_D_init_146 : decode b_D_init 146 = .ok (.bipush 8, 2) := by decide +kernel
theorem d_D_init_148 : decode b_D_init 148 = .ok (.newarray .int, 2) := by decide +kernel
theorem d_D_init_150 : decode b_D_init 150 = .ok (.putfield 65, 3) := by decide +kernel
theorem d_D_init_153 : decode b_D_init 153 = .ok (.return_, 1) := by decide +kernel
theorem d_D_thrown_0 : decode b_D_thrown 0 = .ok (.aload_n 0, 1) := by decide +kernel
theorem d_D_thrown_1 : decode b_D_thrown 1 = .ok (.getfield 68, 3) := by decide +kernel
theorem d_D_thrown_4 : decode b_D_thrown 4 = .ok (.ireturn, 1) := by decide +kernel
theorem d_D_type_0 : decode b_D_type 0 = .ok (.iload_n 3, 1) := by decide +kernel
theorem d_D_type_1 : decode b_D_type 1 = .ok (.ifCond .le 13, 3) := by decide +kernel
theorem d_D_type_4 : decode b_D_type 4 = .ok (.iload_n 3, 1) := by decide +kernel
theorem d_D_type_5 : decode b_D_type 5 = .ok (.bipush 9, 2) := by decide +kernel
theorem d_D_type_7 : decode b_D_type 7 = .ok (.if_icmp .ge 7, 3) := by decide +kernel
theorem d_D_type_10 : decode b_D_type 10 = .ok (.iconst 1, 1) := by decide +kernel
theorem d_D_type_11 : decode b_D_type 11 = .ok (.goto 4, 3) := by decide +kernel
theorem d_D_type_14 : decode b_D_type 14 = .ok (.iconst 0, 1) := by decide +kernel
theorem d_D_type_15 : decode b_D_type 15 = .ok (.istore 4, 2) := by decide +kernel
theorem d_D_type_17 : decode b_D_type 17 = .ok (.iconst 0, 1) := by decide +kernel
theorem d_D_type_18 : decode b_D_type 18 = .ok (.istore 5, 2) := by decide +kernel
theorem d_D_type_20 : decode b_D_type 20 = .ok (.iload 5, 2) := by decide +kernel
theorem d_D_type_22 : decode b_D_type 22 = .ok (.iload_n 3, 1) := by decide +kernel
theorem d_D_type_23 : decode b_D_type 23 = .ok (.if_icmp .ge 49, 3) := by decide +kernel
theorem d_D_type_26 : decode b_D_type 26 = .ok (.iload 4, 2) := by decide +kernel
theorem d_D_type_28 : decode b_D_type 28 = .ok (.ifCond .eq 44, 3) := by decide +kernel
theorem d_D_type_31 : decode b_D_type 31 = .ok (.lload_n 1, 1) := by decide +kernel
theorem d_D_type_32 : decode b_D_type 32 = .ok (.bipush 8, 2) := by decide +kernel
theorem d_D_type_34 : decode b_D_type 34 = .ok (.iload 5, 2) := by decide +kernel
theorem d_D_type_36 : decode b_D_type 36 = .ok (.imul, 1) := by decide +kernel
theorem d_D_type_37 : decode b_D_type 37 = .ok (.lshr, 1) := by decide +kernel
theorem d_D_type_38 : decode b_D_type 38 = .ok (.ldc2_w 72, 3) := by decide +kernel
theorem d_D_type_41 : decode b_D_type 41 = .ok (.land, 1) := by decide +kernel
theorem d_D_type_42 : decode b_D_type 42 = .ok (.l2i, 1) := by decide +kernel
theorem d_D_type_43 : decode b_D_type 43 = .ok (.istore 6, 2) := by decide +kernel
theorem d_D_type_45 : decode b_D_type 45 = .ok (.iload 6, 2) := by decide +kernel
theorem d_D_type_47 : decode b_D_type 47 = .ok (.bipush 31, 2) := by decide +kernel
theorem d_D_type_49 : decode b_D_type 49 = .ok (.if_icmp .le 14, 3) := by decide +kernel
theorem d_D_type_52 : decode b_D_type 52 = .ok (.iload 6, 2) := by decide +kernel
theorem d_D_type_54 : decode b_D_type 54 = .ok (.bipush 127, 2) := by decide +kernel
theorem d_D_type_56 : decode b_D_type 56 = .ok (.if_icmp .ge 7, 3) := by decide +kernel
theorem d_D_type_59 : decode b_D_type 59 = .ok (.iconst 1, 1) := by decide +kernel
theorem d_D_type_60 : decode b_D_type 60 = .ok (.goto 4, 3) := by decide +kernel
theorem d_D_type_63 : decode b_D_type 63 = .ok (.iconst 0, 1) := by decide +kernel
theorem d_D_type_64 : decode b_D_type 64 = .ok (.istore 4, 2) := by decide +kernel
theorem d_D_type_66 : decode b_D_type 66 = .ok (.iinc 5 1, 3) := by decide +kernel
theorem d_D_type_69 : decode b_D_type 69 = .ok (.goto (-49), 3) := by decide +kernel
theorem d_D_type_72 : decode b_D_type 72 = .ok (.aload_n 0, 1) := by decide +kernel
theorem d_D_type_73 : decode b_D_type 73 = .ok (.iload 4, 2) := by decide +kernel
theorem d_D_type_75 : decode b_D_type 75 = .ok (.ifCond .ne 7, 3) := by decide +kernel
theorem d_D_type_78 : decode b_D_type 78 = .ok (.iconst 1, 1) := by decide +kernel
theorem d_D_type_79 : decode b_D_type 79 = .ok (.goto 19, 3) := by decide +kernel
theorem d_D_type_82 : decode b_D_type 82 = .ok (.aload_n 0, 1) := by decide +kernel
theorem d_D_type_83 : decode b_D_type 83 = .ok (.getfield 74, 3) := by decide +kernel
theorem d_D_type_86 : decode b_D_type 86 = .ok (.iload_n 3, 1) := by decide +kernel
theorem d_D_type_87 : decode b_D_type 87 = .ok (.iadd, 1) := by decide +kernel
theorem d_D_type_88 : decode b_D_type 88 = .ok (.bipush 120, 2) := by decide +kernel
theorem d_D_type_90 : decode b_D_type 90 = .ok (.if_icmp .le 7, 3) := by decide +kernel
theorem d_D_type_93 : decode b_D_type 93 = .ok (.iconst 2, 1) := by decide +kernel
theorem d_D_type_94 : decode b_D_type 94 = .ok (.goto 4, 3) := by decide +kernel
theorem d_D_type_97 : decode b_D_type 97 = .ok (.iconst 0, 1) := by decide +kernel
theorem d_D_type_98 : decode b_D_type 98 = .ok (.putfield 68, 3) := by decide +kernel
theorem d_D_type_101 : decode b_D_type 101 = .ok (.aload_n 0, 1) := by decide +kernel
theorem d_D_type_102 : decode b_D_type 102 = .ok (.getfield 68, 3) := by decide +kernel
theorem d_D_type_105 : decode b_D_type 105 = .ok (.ifCond .le 5, 3) := by decide +kernel
theorem d_D_type_108 : decode b_D_type 108 = .ok (.iconst 0, 1) := by decide +kernel
theorem d_D_type_109 : decode b_D_type 109 = .ok (.ireturn, 1) := by decide +kernel
theorem d_D_type_110 : decode b_D_type 110 = .ok (.iload_n 3, 1) := by decide +kernel
theorem d_D_type_111 : decode b_D_type 111 = .ok (.iconst 1, 1) := by decide +kernel
theorem d_D_type_112 : decode b_D_type 112 = .ok (.isub, 1) := by decide +kernel
theorem d_D_type_113 : decode b_D_type 113 = .ok (.istore 5, 2) := by decide +kernel
theorem d_D_type_115 : decode b_D_type 115 = .ok (.iload 5, 2) := by decide +kernel
theorem d_D_type_117 : decode b_D_type 117 = .ok (.ifCond .lt 40, 3) := by decide +kernel
theorem d_D_type_120 : decode b_D_type 120 = .ok (.aload_n 0, 1) := by decide +kernel
theorem d_D_type_121 : decode b_D_type 121 = .ok (.getfield 7, 3) := by decide +kernel
theorem d_D_type_124 : decode b_D_type 124 = .ok (.aload_n 0, 1) := by decide +kernel
theorem d_D_type_125 : decode b_D_type 125 = .ok (.getfield 74, 3) := by decide +kernel
theorem d_D_type_128 : decode b_D_type 128 = .ok (.lload_n 1, 1) := by decide +kernel
theorem d_D_type_129 : decode b_D_type 129 = .ok (.bipush 8, 2) := by decide +kernel
theorem d_D_type_131 : decode b_D_type 131 = .ok (.iload 5, 2) := by decide +kernel
theorem d_D_type_133 : decode b_D_type 133 = .ok (.imul, 1) := by decide +kernel
theorem d_D_type_134 : decode b_D_type 134 = .ok (.lshr, 1) := by decide +kernel
theorem d_D_type_135 : decode b_D_type 135 = .ok (.ldc2_w 72, 3) := by decide +kernel
theorem d_D_type_138 : decode b_D_type 138 = .ok (.land, 1) := by decide +kernel
theorem d_D_type_139 : decode b_D_type 139 = .ok (.l2i, 1) := by decide +kernel
theorem d_D_type_140 : decode b_D_type 140 = .ok (.iastore, 1) := by decide +kernel
theorem d_D_type_141 : decode b_D_type 141 = .ok (.aload_n 0, 1) := by decide +kernel
theorem d_D_type_142 : decode b_D_type 142 = .ok (.dup, 1) := by decide +kernel
theorem d_D_type_143 : decode b_D_type 143 = .ok (.getfield 74, 3) := by decide +kernel
theorem d_D_type_146 : decode b_D_type 146 = .ok (.iconst 1, 1) := by decide +kernel
theorem d_D_type_147 : decode b_D_type 147 = .ok (.iadd, 1) := by decide +kernel
theorem d_D_type_148 : decode b_D_type 148 = .ok (.putfield 74, 3) := by decide +kernel
theorem d_D_type_151 : decode b_D_type 151 = .ok (.iinc 5 (-1), 3) := by decide +kernel
theorem d_D_type_154 : decode b_D_type 154 = .ok (.goto (-39), 3) := by decide +kernel
theorem d_D_type_157 : decode b_D_type 157 = .ok (.aload_n 0, 1) := by decide +kernel
theorem d_D_type_158 : decode b_D_type 158 = .ok (.getfield 74, 3) := by decide +kernel
theorem d_D_type_161 : decode b_D_type 161 = .ok (.ireturn, 1) := by decide +kernel
theorem d_D_wipe_0 : decode b_D_wipe 0 = .ok (.aload_n 0, 1) := by decide +kernel
theorem d_D_wipe_1 : decode b_D_wipe 1 = .ok (.iconst 0, 1) := by decide +kernel
theorem d_D_wipe_2 : decode b_D_wipe 2 = .ok (.putfield 68, 3) := by decide +kernel
theorem d_D_wipe_5 : decode b_D_wipe 5 = .ok (.aload_n 0, 1) := by decide +kernel
theorem d_D_wipe_6 : decode b_D_wipe 6 = .ok (.getfield 74, 3) := by decide +kernel
theorem d_D_wipe_9 : decode b_D_wipe 9 = .ok (.istore_n 1, 1) := by decide +kernel
theorem d_D_wipe_10 : decode b_D_wipe 10 = .ok (.aload_n 0, 1) := by decide +kernel
theorem d_D_wipe_11 : decode b_D_wipe 11 = .ok (.iconst 0, 1) := by decide +kernel
theorem d_D_wipe_12 : decode b_D_wipe 12 = .ok (.putfield 74, 3) := by decide +kernel
theorem d_D_wipe_15 : decode b_D_wipe 15 = .ok (.iload_n 1, 1) := by decide +kernel
theorem d_D_wipe_16 : decode b_D_wipe 16 = .ok (.ireturn, 1) := by decide +kernel
theorem d_D_go_0 : decode b_D_go 0 = .ok (.aload_n 0, 1) := by decide +kernel
theorem d_D_go_1 : decode b_D_go 1 = .ok (.iload_n 1, 1) := by decide +kernel
theorem d_D_go_2 : decode b_D_go 2 = .ok (.putfield 77, 3) := by decide +kernel
theorem d_D_go_5 : decode b_D_go 5 = .ok (.aload_n 0, 1) := by decide +kernel
theorem d_D_go_6 : decode b_D_go 6 = .ok (.getfield 77, 3) := by decide +kernel
theorem d_D_go_9 : decode b_D_go 9 = .ok (.aload_n 0, 1) := by decide +kernel
theorem d_D_go_10 : decode b_D_go 10 = .ok (.getfield 74, 3) := by decide +kernel
theorem d_D_go_13 : decode b_D_go 13 = .ok (.if_icmp .ge 30, 3) := by decide +kernel
theorem d_D_go_16 : decode b_D_go 16 = .ok (.aload_n 0, 1) := by decide +kernel
theorem d_D_go_17 : decode b_D_go 17 = .ok (.getfield 7, 3) := by decide +kernel
theorem d_D_go_20 : decode b_D_go 20 = .ok (.aload_n 0, 1) := by decide +kernel
theorem d_D_go_21 : decode b_D_go 21 = .ok (.getfield 77, 3) := by decide +kernel
theorem d_D_go_24 : decode b_D_go 24 = .ok (.iaload, 1) := by decide +kernel
theorem d_D_go_25 : decode b_D_go 25 = .ok (.bipush 32, 2) := by decide +kernel
theorem d_D_go_27 : decode b_D_go 27 = .ok (.if_icmp .ne 16, 3) := by decide +kernel
theorem d_D_go_30 : decode b_D_go 30 = .ok (.aload_n 0, 1) := by decide +kernel
theorem d_D_go_31 : decode b_D_go 31 = .ok (.dup, 1) := by decide +kernel
theorem d_D_go_32 : decode b_D_go 32 = .ok (.getfield 77, 3) := by decide +kernel
theorem d_D_go_35 : decode b_D_go 35 = .ok (.iconst 1, 1) := by decide +kernel
theorem d_D_go_36 : decode b_D_go 36 = .ok (.iadd, 1) := by decide +kernel
theorem d_D_go_37 : decode b_D_go 37 = .ok (.putfield 77, 3) := by decide +kernel
theorem d_D_go_40 : decode b_D_go 40 = .ok (.goto (-35), 3) := by decide +kernel
theorem d_D_go_43 : decode b_D_go 43 = .ok (.return_, 1) := by decide +kernel
theorem d_D_isBetween_0 : decode b_D_isBetween 0 = .ok (.aload_n 0, 1) := by decide +kernel
theorem d_D_isBetween_1 : decode b_D_isBetween 1 = .ok (.getfield 77, 3) := by decide +kernel
theorem d_D_isBetween_4 : decode b_D_isBetween 4 = .ok (.aload_n 0, 1) := by decide +kernel
theorem d_D_isBetween_5 : decode b_D_isBetween 5 = .ok (.getfield 74, 3) := by decide +kernel
theorem d_D_isBetween_8 : decode b_D_isBetween 8 = .ok (.if_icmp .ge 33, 3) := by decide +kernel
theorem d_D_isBetween_11 : decode b_D_isBetween 11 = .ok (.aload_n 0, 1) := by decide +kernel
theorem d_D_isBetween_12 : decode b_D_isBetween 12 = .ok (.getfield 7, 3) := by decide +kernel
theorem d_D_isBetween_15 : decode b_D_isBetween 15 = .ok (.aload_n 0, 1) := by decide +kernel
theorem d_D_isBetween_16 : decode b_D_isBetween 16 = .ok (.getfield 77, 3) := by decide +kernel
theorem d_D_isBetween_19 : decode b_D_isBetween 19 = .ok (.iaload, 1) := by decide +kernel
theorem d_D_isBetween_20 : decode b_D_isBetween 20 = .ok (.iload_n 1, 1) := by decide +kernel
theorem d_D_isBetween_21 : decode b_D_isBetween 21 = .ok (.if_icmp .lt 20, 3) := by decide +kernel
theorem d_D_isBetween_24 : decode b_D_isBetween 24 = .ok (.aload_n 0, 1) := by decide +kernel
theorem d_D_isBetween_25 : decode b_D_isBetween 25 = .ok (.getfield 7, 3) := by decide +kernel
theorem d_D_isBetween_28 : decode b_D_isBetween 28 = .ok (.aload_n 0, 1) := by decide +kernel
theorem d_D_isBetween_29 : decode b_D_isBetween 29 = .ok (.getfield 77, 3) := by decide +kernel
theorem d_D_isBetween_32 : decode b_D_isBetween 32 = .ok (.iaload, 1) := by decide +kernel
theorem d_D_isBetween_33 : decode b_D_isBetween 33 = .ok (.iload_n 2, 1) := by decide +kernel
theorem d_D_isBetween_34 : decode b_D_isBetween 34 = .ok (.if_icmp .gt 7, 3) := by decide +kernel
theorem d_D_isBetween_37 : decode b_D_isBetween 37 = .ok (.iconst 1, 1) := by decide +kernel
theorem d_D_isBetween_38 : decode b_D_isBetween 38 = .ok (.goto 4, 3) := by decide +kernel
theorem d_D_isBetween_41 : decode b_D_isBetween 41 = .ok (.iconst 0, 1) := by decide +kernel
theorem d_D_isBetween_42 : decode b_D_isBetween 42 = .ok (.ireturn, 1) := by decide +kernel
theorem d_D_take_0 : decode b_D_take 0 = .ok (.aload_n 0, 1) := by decide +kernel
theorem d_D_take_1 : decode b_D_take 1 = .ok (.getfield 80, 3) := by decide +kernel
theorem d_D_take_4 : decode b_D_take 4 = .ok (.ifCond .lt 5, 3) := by decide +kernel
theorem d_D_take_7 : decode b_D_take 7 = .ok (.iconst (-1), 1) := by decide +kernel
theorem d_D_take_8 : decode b_D_take 8 = .ok (.ireturn, 1) := by decide +kernel
theorem d_D_take_9 : decode b_D_take 9 = .ok (.aload_n 0, 1) := by decide +kernel
theorem d_D_take_10 : decode b_D_take 10 = .ok (.iload_n 1, 1) := by decide +kernel
theorem d_D_take_11 : decode b_D_take 11 = .ok (.iload_n 2, 1) := by decide +kernel
theorem d_D_take_12 : decode b_D_take 12 = .ok (.invokevirtual 83, 3) := by decide +kernel
theorem d_D_take_15 : decode b_D_take 15 = .ok (.ifCond .ne 13, 3) := by decide +kernel
theorem d_D_take_18 : decode b_D_take 18 = .ok (.aload_n 0, 1) := by decide +kernel
theorem d_D_take_19 : decode b_D_take 19 = .ok (.aload_n 0, 1) := by decide +kernel
theorem d_D_take_20 : decode b_D_take 20 = .ok (.getfield 77, 3) := by decide +kernel
theorem d_D_take_23 : decode b_D_take 23 = .ok (.putfield 80, 3) := by decide +kernel
theorem d_D_take_26 : decode b_D_take 26 = .ok (.iconst (-1), 1) := by decide +kernel
theorem d_D_take_27 : decode b_D_take 27 = .ok (.ireturn, 1) := by decide +kernel
theorem d_D_take_28 : decode b_D_take 28 = .ok (.aload_n 0, 1) := by decide +kernel
theorem d_D_take_29 : decode b_D_take 29 = .ok (.getfield 7, 3) := by decide +kernel
theorem d_D_take_32 : decode b_D_take 32 = .ok (.aload_n 0, 1) := by decide +kernel
theorem d_D_take_33 : decode b_D_take 33 = .ok (.getfield 77, 3) := by decide +kernel
theorem d_D_take_36 : decode b_D_take 36 = .ok (.iaload, 1) := by decide +kernel
theorem d_D_take_37 : decode b_D_take 37 = .ok (.istore_n 3, 1) := by decide +kernel
theorem d_D_take_38 : decode b_D_take 38 = .ok (.aload_n 0, 1) := by decide +kernel
theorem d_D_take_39 : decode b_D_take 39 = .ok (.aload_n 0, 1) := by decide +kernel
theorem d_D_take_40 : decode b_D_take 40 = .ok (.getfield 77, 3) := by decide +kernel
theorem d_D_take_43 : decode b_D_take 43 = .ok (.iconst 1, 1) := by decide +kernel
theorem d_D_take_44 : decode b_D_take 44 = .ok (.iadd, 1) := by decide +kernel
theorem d_D_take_45 : decode b_D_take 45 = .ok (.invokevirtual 87, 3) := by decide +kernel
theorem d_D_take_48 : decode b_D_take 48 = .ok (.iload_n 3, 1) := by decide +kernel
theorem d_D_take_49 : decode b_D_take 49 = .ok (.ireturn, 1) := by decide +kernel
theorem d_D_readLabels_0 : decode b_D_readLabels 0 = .ok (.aload_n 0, 1) := by decide +kernel
theorem d_D_readLabels_1 : decode b_D_readLabels 1 = .ok (.getfield 80, 3) := by decide +kernel
theorem d_D_readLabels_4 : decode b_D_readLabels 4 = .ok (.ifCond .ge 77, 3) := by decide +kernel
theorem d_D_readLabels_7 : decode b_D_readLabels 7 = .ok (.aload_n 0, 1) := by decide +kernel
theorem d_D_readLabels_8 : decode b_D_readLabels 8 = .ok (.bipush 65, 2) := by decide +kernel
theorem d_D_readLabels_10 : decode b_D_readLabels 10 = .ok (.bipush 90, 2) := by decide +kernel
theorem d_D_readLabels_12 : decode b_D_readLabels 12 = .ok (.invokevirtual 83, 3) := by decide +kernel
theorem d_D_readLabels_15 : decode b_D_readLabels 15 = .ok (.ifCond .eq 66, 3) := by decide +kernel
theorem d_D_readLabels_18 : decode b_D_readLabels 18 = .ok (.aload_n 0, 1) := by decide +kernel
theorem d_D_readLabels_19 : decode b_D_readLabels 19 = .ok (.getfield 25, 3) := by decide +kernel
theorem d_D_readLabels_22 : decode b_D_readLabels 22 = .ok (.aload_n 0, 1) := by decide +kernel
theorem d_D_readLabels_23 : decode b_D_readLabels 23 = .ok (.getfield 7, 3) := by decide +kernel
theorem d_D_readLabels_26 : decode b_D_readLabels 26 = .ok (.aload_n 0, 1) := by decide +kernel
theorem d_D_readLabels_27 : decode b_D_readLabels 27 = .ok (.getfield 77, 3) := by decide +kernel
theorem d_D_readLabels_30 : decode b_D_readLabels 30 = .ok (.iaload, 1) := by decide +kernel
theorem d_D_readLabels_31 : decode b_D_readLabels 31 = .ok (.bipush 65, 2) := by decide +kernel
theorem d_D_readLabels_33 : decode b_D_readLabels 33 = .ok (.isub, 1) := by decide +kernel
theorem d_D_readLabels_34 : decode b_D_readLabels 34 = .ok (.iaload, 1) := by decide +kernel
theorem d_D_readLabels_35 : decode b_D_readLabels 35 = .ok (.ifCond .lt 12, 3) := by decide +kernel
theorem d_D_readLabels_38 : decode b_D_readLabels 38 = .ok (.aload_n 0, 1) := by decide +kernel
theorem d_D_readLabels_39 : decode b_D_readLabels 39 = .ok (.aload_n 0, 1) := by decide +kernel
theorem d_D_readLabels_40 : decode b_D_readLabels 40 = .ok (.getfield 77, 3) := by decide +kernel
theorem d_D_readLabels_43 : decode b_D_readLabels 43 = .ok (.putfield 80, 3) := by decide +kernel
theorem d_D_readLabels_46 : decode b_D_readLabels 46 = .ok (.return_, 1) := by decide +kernel
theorem d_D_readLabels_47 : decode b_D_readLabels 47 = .ok (.aload_n 0, 1) := by decide +kernel
theorem d_D_readLabels_48 : decode b_D_readLabels 48 = .ok (.bipush 65, 2) := by decide +kernel
theorem d_D_readLabels_50 : decode b_D_readLabels 50 = .ok (.bipush 90, 2) := by decide +kernel
theorem d_D_readLabels_52 : decode b_D_readLabels 52 = .ok (.invokevirtual 91, 3) := by decide +kernel
theorem d_D_readLabels_55 : decode b_D_readLabels 55 = .ok (.istore_n 1, 1) := by decide +kernel
theorem d_D_readLabels_56 : decode b_D_readLabels 56 = .ok (.aload_n 0, 1) := by decide +kernel
theorem d_D_readLabels_57 : decode b_D_readLabels 57 = .ok (.bipush 58, 2) := by decide +kernel
theorem d_D_readLabels_59 : decode b_D_readLabels 59 = .ok (.bipush 58, 2) := by decide +kernel
theorem d_D_readLabels_61 : decode b_D_readLabels 61 = .ok (.invokevirtual 91, 3) := by decide +kernel
theorem d_D_readLabels_64 : decode b_D_readLabels 64 = .ok (.pop, 1) := by decide +kernel
theorem d_D_readLabels_65 : decode b_D_readLabels 65 = .ok (.aload_n 0, 1) := by decide +kernel
theorem d_D_readLabels_66 : decode b_D_readLabels 66 = .ok (.getfield 25, 3) := by decide +kernel
theorem d_D_readLabels_69 : decode b_D_readLabels 69 = .ok (.iload_n 1, 1) := by decide +kernel
theorem d_D_readLabels_70 : decode b_D_readLabels 70 = .ok (.bipush 65, 2) := by decide +kernel
theorem d_D_readLabels_72 : decode b_D_readLabels 72 = .ok (.isub, 1) := by decide +kernel
theorem d_D_readLabels_73 : decode b_D_readLabels 73 = .ok (.aload_n 0, 1) := by decide +kernel
theorem d_D_readLabels_74 : decode b_D_readLabels 74 = .ok (.getfield 95, 3) := by decide +kernel
theorem d_D_readLabels_77 : decode b_D_readLabels 77 = .ok (.iastore, 1) := by decide +kernel
theorem d_D_readLabels_78 : decode b_D_readLabels 78 = .ok (.goto (-78), 3) := by decide +kernel
theorem d_D_readLabels_81 : decode b_D_readLabels 81 = .ok (.return_, 1) := by decide +kernel
theorem d_D_readName_0 : decode b_D_readName 0 = .ok (.aload_n 0, 1) := by decide +kernel
theorem d_D_readName_1 : decode b_D_readName 1 = .ok (.getfield 77, 3) := by decide +kernel
theorem d_D_readName_4 : decode b_D_readName 4 = .ok (.istore_n 1, 1) := by decide +kernel
theorem d_D_readName_5 : decode b_D_readName 5 = .ok (.aload_n 0, 1) := by decide +kernel
theorem d_D_readName_6 : decode b_D_readName 6 = .ok (.bipush 65, 2) := by decide +kernel
theorem d_D_readName_8 : decode b_D_readName 8 = .ok (.bipush 90, 2) := by decide +kernel
theorem d_D_readName_10 : decode b_D_readName 10 = .ok (.invokevirtual 91, 3) := by decide +kernel
theorem d_D_readName_13 : decode b_D_readName 13 = .ok (.istore_n 2, 1) := by decide +kernel
theorem d_D_readName_14 : decode b_D_readName 14 = .ok (.aload_n 0, 1) := by decide +kernel
theorem d_D_readName_15 : decode b_D_readName 15 = .ok (.getfield 19, 3) := by decide +kernel
theorem d_D_readName_18 : decode b_D_readName 18 = .ok (.aload_n 0, 1) := by decide +kernel
theorem d_D_readName_19 : decode b_D_readName 19 = .ok (.getfield 95, 3) := by decide +kernel
theorem d_D_readName_22 : decode b_D_readName 22 = .ok (.iload_n 2, 1) := by decide +kernel
theorem d_D_readName_23 : decode b_D_readName 23 = .ok (.bipush 65, 2) := by decide +kernel
theorem d_D_readName_25 : decode b_D_readName 25 = .ok (.isub, 1) := by decide +kernel
theorem d_D_readName_26 : decode b_D_readName 26 = .ok (.iastore, 1) := by decide +kernel
theorem d_D_readName_27 : decode b_D_readName 27 = .ok (.aload_n 0, 1) := by decide +kernel
theorem d_D_readName_28 : decode b_D_readName 28 = .ok (.getfield 22, 3) := by decide +kernel
theorem d_D_readName_31 : decode b_D_readName 31 = .ok (.aload_n 0, 1) := by decide +kernel
theorem d_D_readName_32 : decode b_D_readName 32 = .ok (.getfield 95, 3) := by decide +kernel
theorem d_D_readName_35 : decode b_D_readName 35 = .ok (.iload_n 1, 1) := by decide +kernel
theorem d_D_readName_36 : decode b_D_readName 36 = .ok (.iastore, 1) := by decide +kernel
theorem d_D_readName_37 : decode b_D_readName 37 = .ok (.return_, 1) := by decide +kernel
theorem d_D_readInstruction_0 : decode b_D_readInstruction 0 = .ok (.aload_n 0, 1) := by decide +kernel
theorem d_D_readInstruction_1 : decode b_D_readInstruction 1 = .ok (.getfield 80, 3) := by decide +kernel
theorem d_D_readInstruction_4 : decode b_D_readInstruction 4 = .ok (.ifCond .lt 4, 3) := by decide +kernel
theorem d_D_readInstruction_7 : decode b_D_readInstruction 7 = .ok (.return_, 1) := by decide +kernel
theorem d_D_readInstruction_8 : decode b_D_readInstruction 8 = .ok (.aload_n 0, 1) := by decide +kernel
theorem d_D_readInstruction_9 : decode b_D_readInstruction 9 = .ok (.getfield 77, 3) := by decide +kernel
theorem d_D_readInstruction_12 : decode b_D_readInstruction 12 = .ok (.aload_n 0, 1) := by decide +kernel
theorem d_D_readInstruction_13 : decode b_D_readInstruction 13 = .ok (.getfield 74, 3) := by decide +kernel
theorem d_D_readInstruction_16 : decode b_D_readInstruction 16 = .ok (.if_icmp .ge 15, 3) := by decide +kernel
theorem d_D_readInstruction_19 : decode b_D_readInstruction 19 = .ok (.aload_n 0, 1) := by decide +kernel
theorem d_D_readInstruction_20 : decode b_D_readInstruction 20 = .ok (.getfield 7, 3) := by decide +kernel
theorem d_D_readInstruction_23 : decode b_D_readInstruction 23 = .ok (.aload_n 0, 1) := by decide +kernel
theorem d_D_readInstruction_24 : decode b_D_readInstruction 24 = .ok (.getfield 77, 3) := by decide +kernel
theorem d_D_readInstruction_27 : decode b_D_readInstruction 27 = .ok (.iaload, 1) := by decide +kernel
theorem d_D_readInstruction_28 : decode b_D_readInstruction 28 = .ok (.goto 4, 3) := by decide +kernel
theorem d_D_readInstruction_31 : decode b_D_readInstruction 31 = .ok (.iconst 0, 1) := by decide +kernel
theorem d_D_readInstruction_32 : decode b_D_readInstruction 32 = .ok (.istore_n 1, 1) := by decide +kernel
theorem d_D_readInstruction_33 : decode b_D_readInstruction 33 = .ok (.aload_n 0, 1) := by decide +kernel
theorem d_D_readInstruction_34 : decode b_D_readInstruction 34 = .ok (.getfield 13, 3) := by decide +kernel
theorem d_D_readInstruction_37 : decode b_D_readInstruction 37 = .ok (.aload_n 0, 1) := by decide +kernel
theorem d_D_readInstruction_38 : decode b_D_readInstruction 38 = .ok (.getfield 95, 3) := by decide +kernel
theorem d_D_readInstruction_41 : decode b_D_readInstruction 41 = .ok (.iload_n 1, 1) := by decide +kernel
theorem d_D_readInstruction_42 : decode b_D_readInstruction 42 = .ok (.bipush 43, 2) := by decide +kernel
theorem d_D_readInstruction_44 : decode b_D_readInstruction 44 = .ok (.if_icmp .ne 7, 3) := by decide +kernel
theorem d_D_readInstruction_47 : decode b_D_readInstruction 47 = .ok (.iconst 0, 1) := by decide +kernel
theorem d_D_readInstruction_48 : decode b_D_readInstruction 48 = .ok (.goto 24, 3) := by decide +kernel
theorem d_D_readInstruction_51 : decode b_D_readInstruction 51 = .ok (.iload_n 1, 1) := by decide +kernel
theorem d_D_readInstruction_52 : decode b_D_readInstruction 52 = .ok (.bipush 45, 2) := by decide +kernel
theorem d_D_readInstruction_54 : decode b_D_readInstruction 54 = .ok (.if_icmp .ne 7, 3) := by decide +kernel
theorem d_D_readInstruction_57 : decode b_D_readInstruction 57 = .ok (.iconst 1, 1) := by decide +kernel
theorem d_D_readInstruction_58 : decode b_D_readInstruction 58 = .ok (.goto 14, 3) := by decide +kernel
theorem d_D_readInstruction_61 : decode b_D_readInstruction 61 = .ok (.iload_n 1, 1) := by decide +kernel
theorem d_D_readInstruction_62 : decode b_D_readInstruction 62 = .ok (.bipush 62, 2) := by decide +kernel
theorem d_D_readInstruction_64 : decode b_D_readInstruction 64 = .ok (.if_icmp .ne 7, 3) := by decide +kernel
theorem d_D_readInstruction_67 : decode b_D_readInstruction 67 = .ok (.iconst 2, 1) := by decide +kernel
theorem d_D_readInstruction_68 : decode b_D_readInstruction 68 = .ok (.goto 4, 3) := by decide +kernel
theorem d_D_readInstruction_71 : decode b_D_readInstruction 71 = .ok (.iconst 3, 1) := by decide +kernel
theorem d_D_readInstruction_72 : decode b_D_readInstruction 72 = .ok (.iastore, 1) := by decide +kernel
theorem d_D_readInstruction_73 : decode b_D_readInstruction 73 = .ok (.iload_n 1, 1) := by decide +kernel
theorem d_D_readInstruction_74 : decode b_D_readInstruction 74 = .ok (.bipush 43, 2) := by decide +kernel
theorem d_D_readInstruction_76 : decode b_D_readInstruction 76 = .ok (.if_icmp .eq 30, 3) := by decide +kernel
theorem d_D_readInstruction_79 : decode b_D_readInstruction 79 = .ok (.iload_n 1, 1) := by decide +kernel
theorem d_D_readInstruction_80 : decode b_D_readInstruction 80 = .ok (.bipush 45, 2) := by decide +kernel
theorem d_D_readInstruction_82 : decode b_D_readInstruction 82 = .ok (.if_icmp .eq 24, 3) := by decide +kernel
theorem d_D_readInstruction_85 : decode b_D_readInstruction 85 = .ok (.iload_n 1, 1) := by decide +kernel
theorem d_D_readInstruction_86 : decode b_D_readInstruction 86 = .ok (.bipush 62, 2) := by decide +kernel
theorem d_D_readInstruction_88 : decode b_D_readInstruction 88 = .ok (.if_icmp .eq 18, 3) := by decide +kernel
theorem d_D_readInstruction_91 : decode b_D_readInstruction 91 = .ok (.iload_n 1, 1) := by decide +kernel
theorem d_D_readInstruction_92 : decode b_D_readInstruction 92 = .ok (.bipush 46, 2) := by decide +kernel
theorem d_D_readInstruction_94 : decode b_D_readInstruction 94 = .ok (.if_icmp .eq 12, 3) := by decide +kernel
theorem d_D_readInstruction_97 : decode b_D_readInstruction 97 = .ok (.aload_n 0, 1) := by decide +kernel
theorem d_D_readInstruction_98 : decode b_D_readInstruction 98 = .ok (.aload_n 0, 1) := by decide +kernel
theorem d_D_readInstruction_99 : decode b_D_readInstruction 99 = .ok (.getfield 77, 3) := by decide +kernel
theorem d_D_readInstruction_102 : decode b_D_readInstruction 102 = .ok (.putfield 80, 3) := by decide +kernel
theorem d_D_readInstruction_105 : decode b_D_readInstruction 105 = .ok (.return_, 1) := by decide +kernel
theorem d_D_readInstruction_106 : decode b_D_readInstruction 106 = .ok (.aload_n 0, 1) := by decide +kernel
theorem d_D_readInstruction_107 : decode b_D_readInstruction 107 = .ok (.getfield 16, 3) := by decide +kernel
theorem d_D_readInstruction_110 : decode b_D_readInstruction 110 = .ok (.aload_n 0, 1) := by decide +kernel
theorem d_D_readInstruction_111 : decode b_D_readInstruction 111 = .ok (.getfield 95, 3) := by decide +kernel
theorem d_D_readInstruction_114 : decode b_D_readInstruction 114 = .ok (.iconst (-1), 1) := by decide +kernel
theorem d_D_readInstruction_115 : decode b_D_readInstruction 115 = .ok (.iastore, 1) := by decide +kernel
theorem d_D_readInstruction_116 : decode b_D_readInstruction 116 = .ok (.aload_n 0, 1) := by decide +kernel
theorem d_D_readInstruction_117 : decode b_D_readInstruction 117 = .ok (.getfield 19, 3) := by decide +kernel
theorem d_D_readInstruction_120 : decode b_D_readInstruction 120 = .ok (.aload_n 0, 1) := by decide +kernel
theorem d_D_readInstruction_121 : decode b_D_readInstruction 121 = .ok (.getfield 95, 3) := by decide +kernel
theorem d_D_readInstruction_124 : decode b_D_readInstruction 124 = .ok (.iconst (-1), 1) := by decide +kernel
theorem d_D_readInstruction_125 : decode b_D_readInstruction 125 = .ok (.iastore, 1) := by decide +kernel
theorem d_D_readInstruction_126 : decode b_D_readInstruction 126 = .ok (.aload_n 0, 1) := by decide +kernel
theorem d_D_readInstruction_127 : decode b_D_readInstruction 127 = .ok (.aload_n 0, 1) := by decide +kernel
theorem d_D_readInstruction_128 : decode b_D_readInstruction 128 = .ok (.getfield 77, 3) := by decide +kernel
theorem d_D_readInstruction_131 : decode b_D_readInstruction 131 = .ok (.iconst 1, 1) := by decide +kernel
theorem d_D_readInstruction_132 : decode b_D_readInstruction 132 = .ok (.iadd, 1) := by decide +kernel
theorem d_D_readInstruction_133 : decode b_D_readInstruction 133 = .ok (.invokevirtual 87, 3) := by decide +kernel
theorem d_D_readInstruction_136 : decode b_D_readInstruction 136 = .ok (.iload_n 1, 1) := by decide +kernel
theorem d_D_readInstruction_137 : decode b_D_readInstruction 137 = .ok (.bipush 43, 2) := by decide +kernel
theorem d_D_readInstruction_139 : decode b_D_readInstruction 139 = .ok (.if_icmp .eq 9, 3) := by decide +kernel
theorem d_D_readInstruction_142 : decode b_D_readInstruction 142 = .ok (.iload_n 1, 1) := by decide +kernel
theorem d_D_readInstruction_143 : decode b_D_readInstruction 143 = .ok (.bipush 45, 2) := by decide +kernel
theorem d_D_readInstruction_145 : decode b_D_readInstruction 145 = .ok (.if_icmp .ne 23, 3) := by decide +kernel
theorem d_D_readInstruction_148 : decode b_D_readInstruction 148 = .ok (.aload_n 0, 1) := by decide +kernel
theorem d_D_readInstruction_149 : decode b_D_readInstruction 149 = .ok (.getfield 16, 3) := by decide +kernel
theorem d_D_readInstruction_152 : decode b_D_readInstruction 152 = .ok (.aload_n 0, 1) := by decide +kernel
theorem d_D_readInstruction_153 : decode b_D_readInstruction 153 = .ok (.getfield 95, 3) := by decide +kernel
theorem d_D_readInstruction_156 : decode b_D_readInstruction 156 = .ok (.aload_n 0, 1) := by decide +kernel
theorem d_D_readInstruction_157 : decode b_D_readInstruction 157 = .ok (.bipush 97, 2) := by decide +kernel
theorem d_D_readInstruction_159 : decode b_D_readInstruction 159 = .ok (.bipush 104, 2) := by decide +kernel
theorem d_D_readInstruction_161 : decode b_D_readInstruction 161 = .ok (.invokevirtual 91, 3) := by decide +kernel
theorem d_D_readInstruction_164 : decode b_D_readInstruction 164 = .ok (.bipush 97, 2) := by decide +kernel
theorem d_D_readInstruction_166 : decode b_D_readInstruction 166 = .ok (.isub, 1) := by decide +kernel
theorem d_D_readInstruction_167 : decode b_D_readInstruction 167 = .ok (.iastore, 1) := by decide +kernel
theorem d_D_readInstruction_168 : decode b_D_readInstruction 168 = .ok (.iload_n 1, 1) := by decide +kernel
theorem d_D_readInstruction_169 : decode b_D_readInstruction 169 = .ok (.bipush 45, 2) := by decide +kernel
theorem d_D_readInstruction_171 : decode b_D_readInstruction 171 = .ok (.if_icmp .eq 9, 3) := by decide +kernel
theorem d_D_readInstruction_174 : decode b_D_readInstruction 174 = .ok (.iload_n 1, 1) := by decide +kernel
theorem d_D_readInstruction_175 : decode b_D_readInstruction 175 = .ok (.bipush 62, 2) := by decide +kernel
theorem d_D_readInstruction_177 : decode b_D_readInstruction 177 = .ok (.if_icmp .ne 7, 3) := by decide +kernel
theorem d_D_readInstruction_180 : decode b_D_readInstruction 180 = .ok (.aload_n 0, 1) := by decide +kernel
theorem d_D_readInstruction_181 : decode b_D_readInstruction 181 = .ok (.invokevirtual 98, 3) := by decide +kernel
theorem d_D_readInstruction_184 : decode b_D_readInstruction 184 = .ok (.aload_n 0, 1) := by decide +kernel
theorem d_D_readInstruction_185 : decode b_D_readInstruction 185 = .ok (.dup, 1) := by decide +kernel
theorem d_D_readInstruction_186 : decode b_D_readInstruction 186 = .ok (.getfield 95, 3) := by decide +kernel
theorem d_D_readInstruction_189 : decode b_D_readInstruction 189 = .ok (.iconst 1, 1) := by decide +kernel
theorem d_D_readInstruction_190 : decode b_D_readInstruction 190 = .ok (.iadd, 1) := by decide +kernel
theorem d_D_readInstruction_191 : decode b_D_readInstruction 191 = .ok (.putfield 95, 3) := by decide +kernel
theorem d_D_readInstruction_194 : decode b_D_readInstruction 194 = .ok (.return_, 1) := by decide +kernel
theorem d_D_readAll_0 : decode b_D_readAll 0 = .ok (.aload_n 0, 1) := by decide +kernel
theorem d_D_readAll_1 : decode b_D_readAll 1 = .ok (.iconst (-1), 1) := by decide +kernel
theorem d_D_readAll_2 : decode b_D_readAll 2 = .ok (.putfield 80, 3) := by decide +kernel
theorem d_D_readAll_5 : decode b_D_readAll 5 = .ok (.aload_n 0, 1) := by decide +kernel
theorem d_D_readAll_6 : decode b_D_readAll 6 = .ok (.iconst 0, 1) := by decide +kernel
theorem d_D_readAll_7 : decode b_D_readAll 7 = .ok (.putfield 95, 3) := by decide +kernel
theorem d_D_readAll_10 : decode b_D_readAll 10 = .ok (.iconst 0, 1) := by decide +kernel
theorem d_D_readAll_11 : decode b_D_readAll 11 = .ok (.istore_n 1, 1) := by decide +kernel
theorem d_D_readAll_12 : decode b_D_readAll 12 = .ok (.iload_n 1, 1) := by decide +kernel
theorem d_D_readAll_13 : decode b_D_readAll 13 = .ok (.bipush 26, 2) := by decide +kernel
theorem d_D_readAll_15 : decode b_D_readAll 15 = .ok (.if_icmp .ge 16, 3) := by decide +kernel
theorem d_D_readAll_18 : decode b_D_readAll 18 = .ok (.aload_n 0, 1) := by decide +kernel
theorem d_D_readAll_19 : decode b_D_readAll 19 = .ok (.getfield 25, 3) := by decide +kernel
theorem d_D_readAll_22 : decode b_D_readAll 22 = .ok (.iload_n 1, 1) := by decide +kernel
theorem d_D_readAll_23 : decode b_D_readAll 23 = .ok (.iconst (-1), 1) := by decide +kernel
theorem d_D_readAll_24 : decode b_D_readAll 24 = .ok (.iastore, 1) := by decide +kernel
theorem d_D_readAll_25 : decode b_D_readAll 25 = .ok (.iinc 1 1, 3) := by decide +kernel
theorem d_D_readAll_28 : decode b_D_readAll 28 = .ok (.goto (-16), 3) := by decide +kernel
theorem d_D_readAll_31 : decode b_D_readAll 31 = .ok (.aload_n 0, 1) := by decide +kernel
theorem d_D_readAll_32 : decode b_D_readAll 32 = .ok (.iconst 0, 1) := by decide +kernel
theorem d_D_readAll_33 : decode b_D_readAll 33 = .ok (.invokevirtual 87, 3) := by decide +kernel
theorem d_D_readAll_36 : decode b_D_readAll 36 = .ok (.iconst 1, 1) := by decide +kernel
theorem d_D_readAll_37 : decode b_D_readAll 37 = .ok (.istore_n 1, 1) := by decide +kernel
theorem d_D_readAll_38 : decode b_D_readAll 38 = .ok (.iload_n 1, 1) := by decide +kernel
theorem d_D_readAll_39 : decode b_D_readAll 39 = .ok (.ifCond .eq 84, 3) := by decide +kernel
theorem d_D_readAll_42 : decode b_D_readAll 42 = .ok (.aload_n 0, 1) := by decide +kernel
theorem d_D_readAll_43 : decode b_D_readAll 43 = .ok (.getfield 80, 3) := by decide +kernel
theorem d_D_readAll_46 : decode b_D_readAll 46 = .ok (.ifCond .ge 77, 3) := by decide +kernel
theorem d_D_readAll_49 : decode b_D_readAll 49 = .ok (.aload_n 0, 1) := by decide +kernel
theorem d_D_readAll_50 : decode b_D_readAll 50 = .ok (.getfield 95, 3) := by decide +kernel
theorem d_D_readAll_53 : decode b_D_readAll 53 = .ok (.bipush 24, 2) := by decide +kernel
theorem d_D_readAll_55 : decode b_D_readAll 55 = .ok (.if_icmp .ne 12, 3) := by decide +kernel
theorem d_D_readAll_58 : decode b_D_readAll 58 = .ok (.aload_n 0, 1) := by decide +kernel
theorem d_D_readAll_59 : decode b_D_readAll 59 = .ok (.aload_n 0, 1) := by decide +kernel
theorem d_D_readAll_60 : decode b_D_readAll 60 = .ok (.getfield 77, 3) := by decide +kernel
theorem d_D_readAll_63 : decode b_D_readAll 63 = .ok (.putfield 80, 3) := by decide +kernel
theorem d_D_readAll_66 : decode b_D_readAll 66 = .ok (.return_, 1) := by decide +kernel
theorem d_D_readAll_67 : decode b_D_readAll 67 = .ok (.aload_n 0, 1) := by decide +kernel
theorem d_D_readAll_68 : decode b_D_readAll 68 = .ok (.invokevirtual 100, 3) := by decide +kernel
theorem d_D_readAll_71 : decode b_D_readAll 71 = .ok (.aload_n 0, 1) := by decide +kernel
theorem d_D_readAll_72 : decode b_D_readAll 72 = .ok (.invokevirtual 103, 3) := by decide +kernel
theorem d_D_readAll_75 : decode b_D_readAll 75 = .ok (.aload_n 0, 1) := by decide +kernel
theorem d_D_readAll_76 : decode b_D_readAll 76 = .ok (.getfield 80, 3) := by decide +kernel
theorem d_D_readAll_79 : decode b_D_readAll 79 = .ok (.ifCond .ge 14, 3) := by decide +kernel
theorem d_D_readAll_82 : decode b_D_readAll 82 = .ok (.aload_n 0, 1) := by decide +kernel
theorem d_D_readAll_83 : decode b_D_readAll 83 = .ok (.getfield 77, 3) := by decide +kernel
theorem d_D_readAll_86 : decode b_D_readAll 86 = .ok (.aload_n 0, 1) := by decide +kernel
theorem d_D_readAll_87 : decode b_D_readAll 87 = .ok (.getfield 74, 3) := by decide +kernel
theorem d_D_readAll_90 : decode b_D_readAll 90 = .ok (.if_icmp .ne 4, 3) := by decide +kernel
theorem d_D_readAll_93 : decode b_D_readAll 93 = .ok (.return_, 1) := by decide +kernel
theorem d_D_readAll_94 : decode b_D_readAll 94 = .ok (.aload_n 0, 1) := by decide +kernel
theorem d_D_readAll_95 : decode b_D_readAll 95 = .ok (.bipush 59, 2) := by decide +kernel
theorem d_D_readAll_97 : decode b_D_readAll 97 = .ok (.bipush 59, 2) := by decide +kernel
theorem d_D_readAll_99 : decode b_D_readAll 99 = .ok (.invokevirtual 91, 3) := by decide +kernel
theorem d_D_readAll_102 : decode b_D_readAll 102 = .ok (.pop, 1) := by decide +kernel
theorem d_D_readAll_103 : decode b_D_readAll 103 = .ok (.aload_n 0, 1) := by decide +kernel
theorem d_D_readAll_104 : decode b_D_readAll 104 = .ok (.getfield 77, 3) := by decide +kernel
theorem d_D_readAll_107 : decode b_D_readAll 107 = .ok (.aload_n 0, 1) := by decide +kernel
theorem d_D_readAll_108 : decode b_D_readAll 108 = .ok (.getfield 74, 3) := by decide +kernel
theorem d_D_readAll_111 : decode b_D_readAll 111 = .ok (.if_icmp .ge 7, 3) := by decide +kernel
theorem d_D_readAll_114 : decode b_D_readAll 114 = .ok (.iconst 1, 1) := by decide +kernel
theorem d_D_readAll_115 : decode b_D_readAll 115 = .ok (.goto 4, 3) := by decide +kernel
theorem d_D_readAll_118 : decode b_D_readAll 118 = .ok (.iconst 0, 1) := by decide +kernel
theorem d_D_readAll_119 : decode b_D_readAll 119 = .ok (.istore_n 1, 1) := by decide +kernel
theorem d_D_readAll_120 : decode b_D_readAll 120 = .ok (.goto (-82), 3) := by decide +kernel
theorem d_D_readAll_123 : decode b_D_readAll 123 = .ok (.return_, 1) := by decide +kernel
theorem d_D_compile_0 : decode b_D_compile 0 = .ok (.aload_n 0, 1) := by decide +kernel
theorem d_D_compile_1 : decode b_D_compile 1 = .ok (.iconst 0, 1) := by decide +kernel
theorem d_D_compile_2 : decode b_D_compile 2 = .ok (.putfield 68, 3) := by decide +kernel
theorem d_D_compile_5 : decode b_D_compile 5 = .ok (.aload_n 0, 1) := by decide +kernel
theorem d_D_compile_6 : decode b_D_compile 6 = .ok (.invokevirtual 106, 3) := by decide +kernel
theorem d_D_compile_9 : decode b_D_compile 9 = .ok (.iconst 0, 1) := by decide +kernel
theorem d_D_compile_10 : decode b_D_compile 10 = .ok (.istore_n 1, 1) := by decide +kernel
theorem d_D_compile_11 : decode b_D_compile 11 = .ok (.iload_n 1, 1) := by decide +kernel
theorem d_D_compile_12 : decode b_D_compile 12 = .ok (.aload_n 0, 1) := by decide +kernel
theorem d_D_compile_13 : decode b_D_compile 13 = .ok (.getfield 95, 3) := by decide +kernel
theorem d_D_compile_16 : decode b_D_compile 16 = .ok (.if_icmp .ge 49, 3) := by decide +kernel
theorem d_D_compile_19 : decode b_D_compile 19 = .ok (.aload_n 0, 1) := by decide +kernel
theorem d_D_compile_20 : decode b_D_compile 20 = .ok (.getfield 80, 3) := by decide +kernel
theorem d_D_compile_23 : decode b_D_compile 23 = .ok (.ifCond .ge 42, 3) := by decide +kernel
theorem d_D_compile_26 : decode b_D_compile 26 = .ok (.aload_n 0, 1) := by decide +kernel
theorem d_D_compile_27 : decode b_D_compile 27 = .ok (.getfield 19, 3) := by decide +kernel
theorem d_D_compile_30 : decode b_D_compile 30 = .ok (.iload_n 1, 1) := by decide +kernel
theorem d_D_compile_31 : decode b_D_compile 31 = .ok (.iaload, 1) := by decide +kernel
theorem d_D_compile_32 : decode b_D_compile 32 = .ok (.ifCond .lt 27, 3) := by decide +kernel
theorem d_D_compile_35 : decode b_D_compile 35 = .ok (.aload_n 0, 1) := by decide +kernel
theorem d_D_compile_36 : decode b_D_compile 36 = .ok (.getfield 25, 3) := by decide +kernel
theorem d_D_compile_39 : decode b_D_compile 39 = .ok (.aload_n 0, 1) := by decide +kernel
theorem d_D_compile_40 : decode b_D_compile 40 = .ok (.getfield 19, 3) := by decide +kernel
theorem d_D_compile_43 : decode b_D_compile 43 = .ok (.iload_n 1, 1) := by decide +kernel
theorem d_D_compile_44 : decode b_D_compile 44 = .ok (.iaload, 1) := by decide +kernel
theorem d_D_compile_45 : decode b_D_compile 45 = .ok (.iaload, 1) := by decide +kernel
theorem d_D_compile_46 : decode b_D_compile 46 = .ok (.ifCond .ge 13, 3) := by decide +kernel
theorem d_D_compile_49 : decode b_D_compile 49 = .ok (.aload_n 0, 1) := by decide +kernel
theorem d_D_compile_50 : decode b_D_compile 50 = .ok (.aload_n 0, 1) := by decide +kernel
theorem d_D_compile_51 : decode b_D_compile 51 = .ok (.getfield 22, 3) := by decide +kernel
theorem d_D_compile_54 : decode b_D_compile 54 = .ok (.iload_n 1, 1) := by decide +kernel
theorem d_D_compile_55 : decode b_D_compile 55 = .ok (.iaload, 1) := by decide +kernel
theorem d_D_compile_56 : decode b_D_compile 56 = .ok (.putfield 80, 3) := by decide +kernel
theorem d_D_compile_59 : decode b_D_compile 59 = .ok (.iinc 1 1, 3) := by decide +kernel
theorem d_D_compile_62 : decode b_D_compile 62 = .ok (.goto (-51), 3) := by decide +kernel
theorem d_D_compile_65 : decode b_D_compile 65 = .ok (.aload_n 0, 1) := by decide +kernel
theorem d_D_compile_66 : decode b_D_compile 66 = .ok (.getfield 80, 3) := by decide +kernel
theorem d_D_compile_69 : decode b_D_compile 69 = .ok (.ifCond .lt 10, 3) := by decide +kernel
theorem d_D_compile_72 : decode b_D_compile 72 = .ok (.aload_n 0, 1) := by decide +kernel
theorem d_D_compile_73 : decode b_D_compile 73 = .ok (.getfield 80, 3) := by decide +kernel
theorem d_D_compile_76 : decode b_D_compile 76 = .ok (.iconst 1, 1) := by decide +kernel
theorem d_D_compile_77 : decode b_D_compile 77 = .ok (.iadd, 1) := by decide +kernel
theorem d_D_compile_78 : decode b_D_compile 78 = .ok (.ireturn, 1) := by decide +kernel
theorem d_D_compile_79 : decode b_D_compile 79 = .ok (.aload_n 0, 1) := by decide +kernel
theorem d_D_compile_80 : decode b_D_compile 80 = .ok (.aload_n 0, 1) := by decide +kernel
theorem d_D_compile_81 : decode b_D_compile 81 = .ok (.getfield 95, 3) := by decide +kernel
theorem d_D_compile_84 : decode b_D_compile 84 = .ok (.putfield 109, 3) := by decide +kernel
theorem d_D_compile_87 : decode b_D_compile 87 = .ok (.iconst 0, 1) := by decide +kernel
theorem d_D_compile_88 : decode b_D_compile 88 = .ok (.istore_n 1, 1) := by decide +kernel
theorem d_D_compile_89 : decode b_D_compile 89 = .ok (.iload_n 1, 1) := by decide +kernel
theorem d_D_compile_90 : decode b_D_compile 90 = .ok (.aload_n 0, 1) := by decide +kernel
theorem d_D_compile_91 : decode b_D_compile 91 = .ok (.getfield 109, 3) := by decide +kernel
theorem d_D_compile_94 : decode b_D_compile 94 = .ok (.if_icmp .ge 63, 3) := by decide +kernel
theorem d_D_compile_97 : decode b_D_compile 97 = .ok (.aload_n 0, 1) := by decide +kernel
theorem d_D_compile_98 : decode b_D_compile 98 = .ok (.getfield 28, 3) := by decide +kernel
theorem d_D_compile_101 : decode b_D_compile 101 = .ok (.iload_n 1, 1) := by decide +kernel
theorem d_D_compile_102 : decode b_D_compile 102 = .ok (.aload_n 0, 1) := by decide +kernel
theorem d_D_compile_103 : decode b_D_compile 103 = .ok (.getfield 13, 3) := by decide +kernel
theorem d_D_compile_106 : decode b_D_compile 106 = .ok (.iload_n 1, 1) := by decide +kernel
theorem d_D_compile_107 : decode b_D_compile 107 = .ok (.iaload, 1) := by decide +kernel
theorem d_D_compile_108 : decode b_D_compile 108 = .ok (.iastore, 1) := by decide +kernel
theorem d_D_compile_109 : decode b_D_compile 109 = .ok (.aload_n 0, 1) := by decide +kernel
theorem d_D_compile_110 : decode b_D_compile 110 = .ok (.getfield 31, 3) := by decide +kernel
theorem d_D_compile_113 : decode b_D_compile 113 = .ok (.iload_n 1, 1) := by decide +kernel
theorem d_D_compile_114 : decode b_D_compile 114 = .ok (.aload_n 0, 1) := by decide +kernel
theorem d_D_compile_115 : decode b_D_compile 115 = .ok (.getfield 16, 3) := by decide +kernel
theorem d_D_compile_118 : decode b_D_compile 118 = .ok (.iload_n 1, 1) := by decide +kernel
theorem d_D_compile_119 : decode b_D_compile 119 = .ok (.iaload, 1) := by decide +kernel
theorem d_D_compile_120 : decode b_D_compile 120 = .ok (.iastore, 1) := by decide +kernel
theorem d_D_compile_121 : decode b_D_compile 121 = .ok (.aload_n 0, 1) := by decide +kernel
theorem d_D_compile_122 : decode b_D_compile 122 = .ok (.getfield 34, 3) := by decide +kernel
theorem d_D_compile_125 : decode b_D_compile 125 = .ok (.iload_n 1, 1) := by decide +kernel
theorem d_D_compile_126 : decode b_D_compile 126 = .ok (.aload_n 0, 1) := by decide +kernel
theorem d_D_compile_127 : decode b_D_compile 127 = .ok (.getfield 19, 3) := by decide +kernel
theorem d_D_compile_130 : decode b_D_compile 130 = .ok (.iload_n 1, 1) := by decide +kernel
theorem d_D_compile_131 : decode b_D_compile 131 = .ok (.iaload, 1) := by decide +kernel
theorem d_D_compile_132 : decode b_D_compile 132 = .ok (.ifCond .ge 7, 3) := by decide +kernel
theorem d_D_compile_135 : decode b_D_compile 135 = .ok (.iconst (-1), 1) := by decide +kernel
theorem d_D_compile_136 : decode b_D_compile 136 = .ok (.goto 14, 3) := by decide +kernel
theorem d_D_compile_139 : decode b_D_compile 139 = .ok (.aload_n 0, 1) := by decide +kernel
theorem d_D_compile_140 : decode b_D_compile 140 = .ok (.getfield 25, 3) := by decide +kernel
theorem d_D_compile_143 : decode b_D_compile 143 = .ok (.aload_n 0, 1) := by decide +kernel
theorem d_D_compile_144 : decode b_D_compile 144 = .ok (.getfield 19, 3) := by decide +kernel
theorem d_D_compile_147 : decode b_D_compile 147 = .ok (.iload_n 1, 1) := by decide +kernel
theorem d_D_compile_148 : decode b_D_compile 148 = .ok (.iaload, 1) := by decide +kernel
theorem d_D_compile_149 : decode b_D_compile 149 = .ok (.iaload, 1) := by decide +kernel
theorem d_D_compile_150 : decode b_D_compile 150 = .ok (.iastore, 1) := by decide +kernel
theorem d_D_compile_151 : decode b_D_compile 151 = .ok (.iinc 1 1, 3) := by decide +kernel
theorem d_D_compile_154 : decode b_D_compile 154 = .ok (.goto (-65), 3) := by decide +kernel
theorem d_D_compile_157 : decode b_D_compile 157 = .ok (.iconst 0, 1) := by decide +kernel
theorem d_D_compile_158 : decode b_D_compile 158 = .ok (.istore_n 1, 1) := by decide +kernel
theorem d_D_compile_159 : decode b_D_compile 159 = .ok (.iload_n 1, 1) := by decide +kernel
theorem d_D_compile_160 : decode b_D_compile 160 = .ok (.aload_n 0, 1) := by decide +kernel
theorem d_D_compile_161 : decode b_D_compile 161 = .ok (.getfield 109, 3) := by decide +kernel
theorem d_D_compile_164 : decode b_D_compile 164 = .ok (.if_icmp .ge 20, 3) := by decide +kernel
theorem d_D_compile_167 : decode b_D_compile 167 = .ok (.aload_n 0, 1) := by decide +kernel
theorem d_D_compile_168 : decode b_D_compile 168 = .ok (.getfield 37, 3) := by decide +kernel
theorem d_D_compile_171 : decode b_D_compile 171 = .ok (.iload_n 1, 1) := by decide +kernel
theorem d_D_compile_172 : decode b_D_compile 172 = .ok (.aload_n 0, 1) := by decide +kernel
theorem d_D_compile_173 : decode b_D_compile 173 = .ok (.iload_n 1, 1) := by decide +kernel
theorem d_D_compile_174 : decode b_D_compile 174 = .ok (.invokevirtual 112, 3) := by decide +kernel
theorem d_D_compile_177 : decode b_D_compile 177 = .ok (.iastore, 1) := by decide +kernel
theorem d_D_compile_178 : decode b_D_compile 178 = .ok (.iinc 1 1, 3) := by decide +kernel
theorem d_D_compile_181 : decode b_D_compile 181 = .ok (.goto (-22), 3) := by decide +kernel
theorem d_D_compile_184 : decode b_D_compile 184 = .ok (.iconst 0, 1) := by decide +kernel
theorem d_D_compile_185 : decode b_D_compile 185 = .ok (.istore_n 1, 1) := by decide +kernel
theorem d_D_compile_186 : decode b_D_compile 186 = .ok (.iload_n 1, 1) := by decide +kernel
theorem d_D_compile_187 : decode b_D_compile 187 = .ok (.aload_n 0, 1) := by decide +kernel
theorem d_D_compile_188 : decode b_D_compile 188 = .ok (.getfield 109, 3) := by decide +kernel
theorem d_D_compile_191 : decode b_D_compile 191 = .ok (.if_icmp .ge 14, 3) := by decide +kernel
theorem d_D_compile_194 : decode b_D_compile 194 = .ok (.aload_n 0, 1) := by decide +kernel
theorem d_D_compile_195 : decode b_D_compile 195 = .ok (.iload_n 1, 1) := by decide +kernel
theorem d_D_compile_196 : decode b_D_compile 196 = .ok (.invokevirtual 116, 3) := by decide +kernel
theorem d_D_compile_199 : decode b_D_compile 199 = .ok (.iinc 1 1, 3) := by decide +kernel
theorem d_D_compile_202 : decode b_D_compile 202 = .ok (.goto (-16), 3) := by decide +kernel
theorem d_D_compile_205 : decode b_D_compile 205 = .ok (.aload_n 0, 1) := by decide +kernel
theorem d_D_compile_206 : decode b_D_compile 206 = .ok (.invokevirtual 119, 3) := by decide +kernel
theorem d_D_compile_209 : decode b_D_compile 209 = .ok (.iconst 0, 1) := by decide +kernel
theorem d_D_compile_210 : decode b_D_compile 210 = .ok (.ireturn, 1) := by decide +kernel
theorem d_D_findDrain_0 : decode b_D_findDrain 0 = .ok (.iload_n 1, 1) := by decide +kernel
theorem d_D_findDrain_1 : decode b_D_findDrain 1 = .ok (.iconst 1, 1) := by decide +kernel
theorem d_D_findDrain_2 : decode b_D_findDrain 2 = .ok (.iadd, 1) := by decide +kernel
theorem d_D_findDrain_3 : decode b_D_findDrain 3 = .ok (.istore_n 2, 1) := by decide +kernel
theorem d_D_findDrain_4 : decode b_D_findDrain 4 = .ok (.iload_n 2, 1) := by decide +kernel
theorem d_D_findDrain_5 : decode b_D_findDrain 5 = .ok (.aload_n 0, 1) := by decide +kernel
theorem d_D_findDrain_6 : decode b_D_findDrain 6 = .ok (.getfield 109, 3) := by decide +kernel
theorem d_D_findDrain_9 : decode b_D_findDrain 9 = .ok (.if_icmp .ge 33, 3) := by decide +kernel
theorem d_D_findDrain_12 : decode b_D_findDrain 12 = .ok (.aload_n 0, 1) := by decide +kernel
theorem d_D_findDrain_13 : decode b_D_findDrain 13 = .ok (.getfield 28, 3) := by decide +kernel
theorem d_D_findDrain_16 : decode b_D_findDrain 16 = .ok (.iload_n 2, 1) := by decide +kernel
theorem d_D_findDrain_17 : decode b_D_findDrain 17 = .ok (.iaload, 1) := by decide +kernel
theorem d_D_findDrain_18 : decode b_D_findDrain 18 = .ok (.ifCond .ne 24, 3) := by decide +kernel
theorem d_D_findDrain_21 : decode b_D_findDrain 21 = .ok (.aload_n 0, 1) := by decide +kernel
theorem d_D_findDrain_22 : decode b_D_findDrain 22 = .ok (.getfield 31, 3) := by decide +kernel
theorem d_D_findDrain_25 : decode b_D_findDrain 25 = .ok (.iload_n 2, 1) := by decide +kernel
theorem d_D_findDrain_26 : decode b_D_findDrain 26 = .ok (.iaload, 1) := by decide +kernel
theorem d_D_findDrain_27 : decode b_D_findDrain 27 = .ok (.aload_n 0, 1) := by decide +kernel
theorem d_D_findDrain_28 : decode b_D_findDrain 28 = .ok (.getfield 31, 3) := by decide +kernel
theorem d_D_findDrain_31 : decode b_D_findDrain 31 = .ok (.iload_n 1, 1) := by decide +kernel
theorem d_D_findDrain_32 : decode b_D_findDrain 32 = .ok (.iaload, 1) := by decide +kernel
theorem d_D_findDrain_33 : decode b_D_findDrain 33 = .ok (.if_icmp .eq 9, 3) := by decide +kernel
theorem d_D_findDrain_36 : decode b_D_findDrain 36 = .ok (.iinc 2 1, 3) := by decide +kernel
theorem d_D_findDrain_39 : decode b_D_findDrain 39 = .ok (.goto (-35), 3) := by decide +kernel
theorem d_D_findDrain_42 : decode b_D_findDrain 42 = .ok (.aload_n 0, 1) := by decide +kernel
theorem d_D_findDrain_43 : decode b_D_findDrain 43 = .ok (.getfield 28, 3) := by decide +kernel
theorem d_D_findDrain_46 : decode b_D_findDrain 46 = .ok (.iload_n 1, 1) := by decide +kernel
theorem d_D_findDrain_47 : decode b_D_findDrain 47 = .ok (.iaload, 1) := by decide +kernel
theorem d_D_findDrain_48 : decode b_D_findDrain 48 = .ok (.iconst 1, 1) := by decide +kernel
theorem d_D_findDrain_49 : decode b_D_findDrain 49 = .ok (.if_icmp .ne 47, 3) := by decide +kernel
theorem d_D_findDrain_52 : decode b_D_findDrain 52 = .ok (.iload_n 2, 1) := by decide +kernel
theorem d_D_findDrain_53 : decode b_D_findDrain 53 = .ok (.aload_n 0, 1) := by decide +kernel
theorem d_D_findDrain_54 : decode b_D_findDrain 54 = .ok (.getfield 109, 3) := by decide +kernel
theorem d_D_findDrain_57 : decode b_D_findDrain 57 = .ok (.if_icmp .ge 39, 3) := by decide +kernel
theorem d_D_findDrain_60 : decode b_D_findDrain 60 = .ok (.aload_n 0, 1) := by decide +kernel
theorem d_D_findDrain_61 : decode b_D_findDrain 61 = .ok (.getfield 28, 3) := by decide +kernel
theorem d_D_findDrain_64 : decode b_D_findDrain 64 = .ok (.iload_n 2, 1) := by decide +kernel
theorem d_D_findDrain_65 : decode b_D_findDrain 65 = .ok (.iaload, 1) := by decide +kernel
theorem d_D_findDrain_66 : decode b_D_findDrain 66 = .ok (.iconst 2, 1) := by decide +kernel
theorem d_D_findDrain_67 : decode b_D_findDrain 67 = .ok (.if_icmp .ne 29, 3) := by decide +kernel
theorem d_D_findDrain_70 : decode b_D_findDrain 70 = .ok (.aload_n 0, 1) := by decide +kernel
theorem d_D_findDrain_71 : decode b_D_findDrain 71 = .ok (.getfield 34, 3) := by decide +kernel
theorem d_D_findDrain_74 : decode b_D_findDrain 74 = .ok (.iload_n 2, 1) := by decide +kernel
theorem d_D_findDrain_75 : decode b_D_findDrain 75 = .ok (.iaload, 1) := by decide +kernel
theorem d_D_findDrain_76 : decode b_D_findDrain 76 = .ok (.iload_n 1, 1) := by decide +kernel
theorem d_D_findDrain_77 : decode b_D_findDrain 77 = .ok (.if_icmp .ne 19, 3) := by decide +kernel
theorem d_D_findDrain_80 : decode b_D_findDrain 80 = .ok (.aload_n 0, 1) := by decide +kernel
theorem d_D_findDrain_81 : decode b_D_findDrain 81 = .ok (.getfield 34, 3) := by decide +kernel
theorem d_D_findDrain_84 : decode b_D_findDrain 84 = .ok (.iload_n 1, 1) := by decide +kernel
theorem d_D_findDrain_85 : decode b_D_findDrain 85 = .ok (.iaload, 1) := by decide +kernel
theorem d_D_findDrain_86 : decode b_D_findDrain 86 = .ok (.iload_n 2, 1) := by decide +kernel
theorem d_D_findDrain_87 : decode b_D_findDrain 87 = .ok (.iconst 1, 1) := by decide +kernel
theorem d_D_findDrain_88 : decode b_D_findDrain 88 = .ok (.iadd, 1) := by decide +kernel
theorem d_D_findDrain_89 : decode b_D_findDrain 89 = .ok (.if_icmp .ne 7, 3) := by decide +kernel
theorem d_D_findDrain_92 : decode b_D_findDrain 92 = .ok (.iconst 1, 1) := by decide +kernel
theorem d_D_findDrain_93 : decode b_D_findDrain 93 = .ok (.goto 4, 3) := by decide +kernel
theorem d_D_findDrain_96 : decode b_D_findDrain 96 = .ok (.iconst 0, 1) := by decide +kernel
theorem d_D_findDrain_97 : decode b_D_findDrain 97 = .ok (.istore_n 3, 1) := by decide +kernel
theorem d_D_findDrain_98 : decode b_D_findDrain 98 = .ok (.iload_n 3, 1) := by decide +kernel
theorem d_D_findDrain_99 : decode b_D_findDrain 99 = .ok (.ifCond .eq 7, 3) := by decide +kernel
theorem d_D_findDrain_102 : decode b_D_findDrain 102 = .ok (.iload_n 2, 1) := by decide +kernel
theorem d_D_findDrain_103 : decode b_D_findDrain 103 = .ok (.goto 4, 3) := by decide +kernel
theorem d_D_findDrain_106 : decode b_D_findDrain 106 = .ok (.iconst (-1), 1) := by decide +kernel
theorem d_D_findDrain_107 : decode b_D_findDrain 107 = .ok (.ireturn, 1) := by decide +kernel
theorem d_D_findLoop_0 : decode b_D_findLoop 0 = .ok (.iload_n 1, 1) := by decide +kernel
theorem d_D_findLoop_1 : decode b_D_findLoop 1 = .ok (.istore_n 2, 1) := by decide +kernel
theorem d_D_findLoop_2 : decode b_D_findLoop 2 = .ok (.iconst 0, 1) := by decide +kernel
theorem d_D_findLoop_3 : decode b_D_findLoop 3 = .ok (.istore_n 3, 1) := by decide +kernel
theorem d_D_findLoop_4 : decode b_D_findLoop 4 = .ok (.iload_n 2, 1) := by decide +kernel
theorem d_D_findLoop_5 : decode b_D_findLoop 5 = .ok (.aload_n 0, 1) := by decide +kernel
theorem d_D_findLoop_6 : decode b_D_findLoop 6 = .ok (.getfield 109, 3) := by decide +kernel
theorem d_D_findLoop_9 : decode b_D_findLoop 9 = .ok (.if_icmp .ge 70, 3) := by decide +kernel
theorem d_D_findLoop_12 : decode b_D_findLoop 12 = .ok (.aload_n 0, 1) := by decide +kernel
theorem d_D_findLoop_13 : decode b_D_findLoop 13 = .ok (.getfield 28, 3) := by decide +kernel
theorem d_D_findLoop_16 : decode b_D_findLoop 16 = .ok (.iload_n 2, 1) := by decide +kernel
theorem d_D_findLoop_17 : decode b_D_findLoop 17 = .ok (.iaload, 1) := by decide +kernel
theorem d_D_findLoop_18 : decode b_D_findLoop 18 = .ok (.iconst 2, 1) := by decide +kernel
theorem d_D_findLoop_19 : decode b_D_findLoop 19 = .ok (.if_icmp .ge 60, 3) := by decide +kernel
theorem d_D_findLoop_22 : decode b_D_findLoop 22 = .ok (.iload_n 2, 1) := by decide +kernel
theorem d_D_findLoop_23 : decode b_D_findLoop 23 = .ok (.iload_n 1, 1) := by decide +kernel
theorem d_D_findLoop_24 : decode b_D_findLoop 24 = .ok (.if_icmp .eq 16, 3) := by decide +kernel
theorem d_D_findLoop_27 : decode b_D_findLoop 27 = .ok (.aload_n 0, 1) := by decide +kernel
theorem d_D_findLoop_28 : decode b_D_findLoop 28 = .ok (.getfield 37, 3) := by decide +kernel
theorem d_D_findLoop_31 : decode b_D_findLoop 31 = .ok (.iload_n 2, 1) := by decide +kernel
theorem d_D_findLoop_32 : decode b_D_findLoop 32 = .ok (.iaload, 1) := by decide +kernel
theorem d_D_findLoop_33 : decode b_D_findLoop 33 = .ok (.ifCond .lt 7, 3) := by decide +kernel
theorem d_D_findLoop_36 : decode b_D_findLoop 36 = .ok (.iconst 1, 1) := by decide +kernel
theorem d_D_findLoop_37 : decode b_D_findLoop 37 = .ok (.goto 4, 3) := by decide +kernel
theorem d_D_findLoop_40 : decode b_D_findLoop 40 = .ok (.iconst 0, 1) := by decide +kernel
theorem d_D_findLoop_41 : decode b_D_findLoop 41 = .ok (.istore 4, 2) := by decide +kernel
theorem d_D_findLoop_43 : decode b_D_findLoop 43 = .ok (.iload 4, 2) := by decide +kernel
theorem d_D_findLoop_45 : decode b_D_findLoop 45 = .ok (.ifCond .eq 9, 3) := by decide +kernel
theorem d_D_findLoop_48 : decode b_D_findLoop 48 = .ok (.iload_n 3, 1) := by decide +kernel
theorem d_D_findLoop_49 : decode b_D_findLoop 49 = .ok (.iconst 1, 1) := by decide +kernel
theorem d_D_findLoop_50 : decode b_D_findLoop 50 = .ok (.iadd, 1) := by decide +kernel
theorem d_D_findLoop_51 : decode b_D_findLoop 51 = .ok (.goto 4, 3) := by decide +kernel
theorem d_D_findLoop_54 : decode b_D_findLoop 54 = .ok (.iload_n 3, 1) := by decide +kernel
theorem d_D_findLoop_55 : decode b_D_findLoop 55 = .ok (.istore_n 3, 1) := by decide +kernel
theorem d_D_findLoop_56 : decode b_D_findLoop 56 = .ok (.iload 4, 2) := by decide +kernel
theorem d_D_findLoop_58 : decode b_D_findLoop 58 = .ok (.ifCond .eq 14, 3) := by decide +kernel
theorem d_D_findLoop_61 : decode b_D_findLoop 61 = .ok (.aload_n 0, 1) := by decide +kernel
theorem d_D_findLoop_62 : decode b_D_findLoop 62 = .ok (.getfield 37, 3) := by decide +kernel
theorem d_D_findLoop_65 : decode b_D_findLoop 65 = .ok (.iload_n 2, 1) := by decide +kernel
theorem d_D_findLoop_66 : decode b_D_findLoop 66 = .ok (.iaload, 1) := by decide +kernel
theorem d_D_findLoop_67 : decode b_D_findLoop 67 = .ok (.iconst 1, 1) := by decide +kernel
theorem d_D_findLoop_68 : decode b_D_findLoop 68 = .ok (.iadd, 1) := by decide +kernel
theorem d_D_findLoop_69 : decode b_D_findLoop 69 = .ok (.goto 6, 3) := by decide +kernel
theorem d_D_findLoop_72 : decode b_D_findLoop 72 = .ok (.iload_n 2, 1) := by decide +kernel
theorem d_D_findLoop_73 : decode b_D_findLoop 73 = .ok (.iconst 1, 1) := by decide +kernel
theorem d_D_findLoop_74 : decode b_D_findLoop 74 = .ok (.iadd, 1) := by decide +kernel
theorem d_D_findLoop_75 : decode b_D_findLoop 75 = .ok (.istore_n 2, 1) := by decide +kernel
theorem d_D_findLoop_76 : decode b_D_findLoop 76 = .ok (.goto (-72), 3) := by decide +kernel
theorem d_D_findLoop_79 : decode b_D_findLoop 79 = .ok (.aload_n 0, 1) := by decide +kernel
theorem d_D_findLoop_80 : decode b_D_findLoop 80 = .ok (.getfield 43, 3) := by decide +kernel
theorem d_D_findLoop_83 : decode b_D_findLoop 83 = .ok (.iload_n 1, 1) := by decide +kernel
theorem d_D_findLoop_84 : decode b_D_findLoop 84 = .ok (.iload_n 3, 1) := by decide +kernel
theorem d_D_findLoop_85 : decode b_D_findLoop 85 = .ok (.iastore, 1) := by decide +kernel
theorem d_D_findLoop_86 : decode b_D_findLoop 86 = .ok (.aload_n 0, 1) := by decide +kernel
theorem d_D_findLoop_87 : decode b_D_findLoop 87 = .ok (.getfield 40, 3) := by decide +kernel
theorem d_D_findLoop_90 : decode b_D_findLoop 90 = .ok (.iload_n 1, 1) := by decide +kernel
theorem d_D_findLoop_91 : decode b_D_findLoop 91 = .ok (.iload_n 2, 1) := by decide +kernel
theorem d_D_findLoop_92 : decode b_D_findLoop 92 = .ok (.iload_n 1, 1) := by decide +kernel
theorem d_D_findLoop_93 : decode b_D_findLoop 93 = .ok (.if_icmp .le 35, 3) := by decide +kernel
theorem d_D_findLoop_96 : decode b_D_findLoop 96 = .ok (.iload_n 2, 1) := by decide +kernel
theorem d_D_findLoop_97 : decode b_D_findLoop 97 = .ok (.aload_n 0, 1) := by decide +kernel
theorem d_D_findLoop_98 : decode b_D_findLoop 98 = .ok (.getfield 109, 3) := by decide +kernel
theorem d_D_findLoop_101 : decode b_D_findLoop 101 = .ok (.if_icmp .ge 27, 3) := by decide +kernel
theorem d_D_findLoop_104 : decode b_D_findLoop 104 = .ok (.aload_n 0, 1) := by decide +kernel
theorem d_D_findLoop_105 : decode b_D_findLoop 105 = .ok (.getfield 28, 3) := by decide +kernel
theorem d_D_findLoop_108 : decode b_D_findLoop 108 = .ok (.iload_n 2, 1) := by decide +kernel
theorem d_D_findLoop_109 : decode b_D_findLoop 109 = .ok (.iaload, 1) := by decide +kernel
theorem d_D_findLoop_110 : decode b_D_findLoop 110 = .ok (.iconst 2, 1) := by decide +kernel
theorem d_D_findLoop_111 : decode b_D_findLoop 111 = .ok (.if_icmp .ne 17, 3) := by decide +kernel
theorem d_D_findLoop_114 : decode b_D_findLoop 114 = .ok (.aload_n 0, 1) := by decide +kernel
theorem d_D_findLoop_115 : decode b_D_findLoop 115 = .ok (.getfield 34, 3) := by decide +kernel
theorem d_D_findLoop_118 : decode b_D_findLoop 118 = .ok (.iload_n 2, 1) := by decide +kernel
theorem d_D_findLoop_119 : decode b_D_findLoop 119 = .ok (.iaload, 1) := by decide +kernel
theorem d_D_findLoop_120 : decode b_D_findLoop 120 = .ok (.iload_n 1, 1) := by decide +kernel
theorem d_D_findLoop_121 : decode b_D_findLoop 121 = .ok (.if_icmp .ne 7, 3) := by decide +kernel
theorem d_D_findLoop_124 : decode b_D_findLoop 124 = .ok (.iload_n 2, 1) := by decide +kernel
theorem d_D_findLoop_125 : decode b_D_findLoop 125 = .ok (.goto 4, 3) := by decide +kernel
theorem d_D_findLoop_128 : decode b_D_findLoop 128 = .ok (.iconst (-1), 1) := by decide +kernel
theorem d_D_findLoop_129 : decode b_D_findLoop 129 = .ok (.iastore, 1) := by decide +kernel
theorem d_D_findLoop_130 : decode b_D_findLoop 130 = .ok (.return_, 1) := by decide +kernel
theorem d_D_size_0 : decode b_D_size 0 = .ok (.aload_n 0, 1) := by decide +kernel
theorem d_D_size_1 : decode b_D_size 1 = .ok (.iconst 0, 1) := by decide +kernel
theorem d_D_size_2 : decode b_D_size 2 = .ok (.putfield 68, 3) := by decide +kernel
theorem d_D_size_5 : decode b_D_size 5 = .ok (.aload_n 0, 1) := by decide +kernel
theorem d_D_size_6 : decode b_D_size 6 = .ok (.getfield 109, 3) := by decide +kernel
theorem d_D_size_9 : decode b_D_size 9 = .ok (.ireturn, 1) := by decide +kernel
theorem d_D_instruction_0 : decode b_D_instruction 0 = .ok (.aload_n 0, 1) := by decide +kernel
theorem d_D_instruction_1 : decode b_D_instruction 1 = .ok (.iconst 0, 1) := by decide +kernel
theorem d_D_instruction_2 : decode b_D_instruction 2 = .ok (.putfield 68, 3) := by decide +kernel
theorem d_D_instruction_5 : decode b_D_instruction 5 = .ok (.iload_n 1, 1) := by decide +kernel
theorem d_D_instruction_6 : decode b_D_instruction 6 = .ok (.ifCond .lt 11, 3) := by decide +kernel
theorem d_D_instruction_9 : decode b_D_instruction 9 = .ok (.iload_n 1, 1) := by decide +kernel
theorem d_D_instruction_10 : decode b_D_instruction 10 = .ok (.aload_n 0, 1) := by decide +kernel
theorem d_D_instruction_11 : decode b_D_instruction 11 = .ok (.getfield 109, 3) := by decide +kernel
theorem d_D_instruction_14 : decode b_D_instruction 14 = .ok (.if_icmp .lt 5, 3) := by decide +kernel
theorem d_D_instruction_17 : decode b_D_instruction 17 = .ok (.iconst (-1), 1) := by decide +kernel
theorem d_D_instruction_18 : decode b_D_instruction 18 = .ok (.ireturn, 1) := by decide +kernel
theorem d_D_instruction_19 : decode b_D_instruction 19 = .ok (.iload_n 2, 1) := by decide +kernel
theorem d_D_instruction_20 : decode b_D_instruction 20 = .ok (.ifCond .ne 12, 3) := by decide +kernel
theorem d_D_instruction_23 : decode b_D_instruction 23 = .ok (.aload_n 0, 1) := by decide +kernel
theorem d_D_instruction_24 : decode b_D_instruction 24 = .ok (.getfield 28, 3) := by decide +kernel
theorem d_D_instruction_27 : decode b_D_instruction 27 = .ok (.iload_n 1, 1) := by decide +kernel
theorem d_D_instruction_28 : decode b_D_instruction 28 = .ok (.iaload, 1) := by decide +kernel
theorem d_D_instruction_29 : decode b_D_instruction 29 = .ok (.goto 32, 3) := by decide +kernel
theorem d_D_instruction_32 : decode b_D_instruction 32 = .ok (.iload_n 2, 1) := by decide +kernel
theorem d_D_instruction_33 : decode b_D_instruction 33 = .ok (.iconst 1, 1) := by decide +kernel
theorem d_D_instruction_34 : decode b_D_instruction 34 = .ok (.if_icmp .ne 12, 3) := by decide +kernel
theorem d_D_instruction_37 : decode b_D_instruction 37 = .ok (.aload_n 0, 1) := by decide +kernel
theorem d_D_instruction_38 : decode b_D_instruction 38 = .ok (.getfield 31, 3) := by decide +kernel
theorem d_D_instruction_41 : decode b_D_instruction 41 = .ok (.iload_n 1, 1) := by decide +kernel
theorem d_D_instruction_42 : decode b_D_instruction 42 = .ok (.iaload, 1) := by decide +kernel
theorem d_D_instruction_43 : decode b_D_instruction 43 = .ok (.goto 18, 3) := by decide +kernel
theorem d_D_instruction_46 : decode b_D_instruction 46 = .ok (.iload_n 2, 1) := by decide +kernel
theorem d_D_instruction_47 : decode b_D_instruction 47 = .ok (.iconst 2, 1) := by decide +kernel
theorem d_D_instruction_48 : decode b_D_instruction 48 = .ok (.if_icmp .ne 12, 3) := by decide +kernel
theorem d_D_instruction_51 : decode b_D_instruction 51 = .ok (.aload_n 0, 1) := by decide +kernel
theorem d_D_instruction_52 : decode b_D_instruction 52 = .ok (.getfield 34, 3) := by decide +kernel
theorem d_D_instruction_55 : decode b_D_instruction 55 = .ok (.iload_n 1, 1) := by decide +kernel
theorem d_D_instruction_56 : decode b_D_instruction 56 = .ok (.iaload, 1) := by decide +kernel
theorem d_D_instruction_57 : decode b_D_instruction 57 = .ok (.goto 4, 3) := by decide +kernel
theorem d_D_instruction_60 : decode b_D_instruction 60 = .ok (.iconst (-1), 1) := by decide +kernel
theorem d_D_instruction_61 : decode b_D_instruction 61 = .ok (.ireturn, 1) := by decide +kernel
theorem d_D_loops_0 : decode b_D_loops 0 = .ok (.aload_n 0, 1) := by decide +kernel
theorem d_D_loops_1 : decode b_D_loops 1 = .ok (.iconst 0, 1) := by decide +kernel
theorem d_D_loops_2 : decode b_D_loops 2 = .ok (.putfield 68, 3) := by decide +kernel
theorem d_D_loops_5 : decode b_D_loops 5 = .ok (.iconst 0, 1) := by decide +kernel
theorem d_D_loops_6 : decode b_D_loops 6 = .ok (.istore_n 1, 1) := by decide +kernel
theorem d_D_loops_7 : decode b_D_loops 7 = .ok (.iconst 0, 1) := by decide +kernel
theorem d_D_loops_8 : decode b_D_loops 8 = .ok (.istore_n 2, 1) := by decide +kernel
theorem d_D_loops_9 : decode b_D_loops 9 = .ok (.iload_n 2, 1) := by decide +kernel
theorem d_D_loops_10 : decode b_D_loops 10 = .ok (.aload_n 0, 1) := by decide +kernel
theorem d_D_loops_11 : decode b_D_loops 11 = .ok (.getfield 109, 3) := by decide +kernel
theorem d_D_loops_14 : decode b_D_loops 14 = .ok (.if_icmp .ge 26, 3) := by decide +kernel
theorem d_D_loops_17 : decode b_D_loops 17 = .ok (.aload_n 0, 1) := by decide +kernel
theorem d_D_loops_18 : decode b_D_loops 18 = .ok (.getfield 40, 3) := by decide +kernel
theorem d_D_loops_21 : decode b_D_loops 21 = .ok (.iload_n 2, 1) := by decide +kernel
theorem d_D_loops_22 : decode b_D_loops 22 = .ok (.iaload, 1) := by decide +kernel
theorem d_D_loops_23 : decode b_D_loops 23 = .ok (.ifCond .lt 9, 3) := by decide +kernel
theorem d_D_loops_26 : decode b_D_loops 26 = .ok (.iload_n 1, 1) := by decide +kernel
theorem d_D_loops_27 : decode b_D_loops 27 = .ok (.iconst 1, 1) := by decide +kernel
theorem d_D_loops_28 : decode b_D_loops 28 = .ok (.iadd, 1) := by decide +kernel
theorem d_D_loops_29 : decode b_D_loops 29 = .ok (.goto 4, 3) := by decide +kernel
theorem d_D_loops_32 : decode b_D_loops 32 = .ok (.iload_n 1, 1) := by decide +kernel
theorem d_D_loops_33 : decode b_D_loops 33 = .ok (.istore_n 1, 1) := by decide +kernel
theorem d_D_loops_34 : decode b_D_loops 34 = .ok (.iinc 2 1, 3) := by decide +kernel
theorem d_D_loops_37 : decode b_D_loops 37 = .ok (.goto (-28), 3) := by decide +kernel
theorem d_D_loops_40 : decode b_D_loops 40 = .ok (.iload_n 1, 1) := by decide +kernel
theorem d_D_loops_41 : decode b_D_loops 41 = .ok (.ireturn, 1) := by decide +kernel
theorem d_D_headOf_0 : decode b_D_headOf 0 = .ok (.iload_n 1, 1) := by decide +kernel
theorem d_D_headOf_1 : decode b_D_headOf 1 = .ok (.istore_n 2, 1) := by decide +kernel
theorem d_D_headOf_2 : decode b_D_headOf 2 = .ok (.iconst 0, 1) := by decide +kernel
theorem d_D_headOf_3 : decode b_D_headOf 3 = .ok (.istore_n 3, 1) := by decide +kernel
theorem d_D_headOf_4 : decode b_D_headOf 4 = .ok (.iload_n 3, 1) := by decide +kernel
theorem d_D_headOf_5 : decode b_D_headOf 5 = .ok (.aload_n 0, 1) := by decide +kernel
theorem d_D_headOf_6 : decode b_D_headOf 6 = .ok (.getfield 109, 3) := by decide +kernel
theorem d_D_headOf_9 : decode b_D_headOf 9 = .ok (.if_icmp .ge 30, 3) := by decide +kernel
theorem d_D_headOf_12 : decode b_D_headOf 12 = .ok (.aload_n 0, 1) := by decide +kernel
theorem d_D_headOf_13 : decode b_D_headOf 13 = .ok (.getfield 40, 3) := by decide +kernel
theorem d_D_headOf_16 : decode b_D_headOf 16 = .ok (.iload_n 3, 1) := by decide +kernel
theorem d_D_headOf_17 : decode b_D_headOf 17 = .ok (.iaload, 1) := by decide +kernel
theorem d_D_headOf_18 : decode b_D_headOf 18 = .ok (.ifCond .ge 6, 3) := by decide +kernel
theorem d_D_headOf_21 : decode b_D_headOf 21 = .ok (.goto 12, 3) := by decide +kernel
theorem d_D_headOf_24 : decode b_D_headOf 24 = .ok (.iload_n 2, 1) := by decide +kernel
theorem d_D_headOf_25 : decode b_D_headOf 25 = .ok (.ifCond .ne 5, 3) := by decide +kernel
theorem d_D_headOf_28 : decode b_D_headOf 28 = .ok (.iload_n 3, 1) := by decide +kernel
theorem d_D_headOf_29 : decode b_D_headOf 29 = .ok (.ireturn, 1) := by decide +kernel
theorem d_D_headOf_30 : decode b_D_headOf 30 = .ok (.iinc 2 (-1), 3) := by decide +kernel
theorem d_D_headOf_33 : decode b_D_headOf 33 = .ok (.iinc 3 1, 3) := by decide +kernel
theorem d_D_headOf_36 : decode b_D_headOf 36 = .ok (.goto (-32), 3) := by decide +kernel
theorem d_D_headOf_39 : decode b_D_headOf 39 = .ok (.iconst (-1), 1) := by decide +kernel
theorem d_D_headOf_40 : decode b_D_headOf 40 = .ok (.ireturn, 1) := by decide +kernel
theorem d_D_loop_0 : decode b_D_loop 0 = .ok (.aload_n 0, 1) := by decide +kernel
theorem d_D_loop_1 : decode b_D_loop 1 = .ok (.iconst 0, 1) := by decide +kernel
theorem d_D_loop_2 : decode b_D_loop 2 = .ok (.putfield 68, 3) := by decide +kernel
theorem d_D_loop_5 : decode b_D_loop 5 = .ok (.aload_n 0, 1) := by decide +kernel
theorem d_D_loop_6 : decode b_D_loop 6 = .ok (.iload_n 1, 1) := by decide +kernel
theorem d_D_loop_7 : decode b_D_loop 7 = .ok (.invokevirtual 122, 3) := by decide +kernel
theorem d_D_loop_10 : decode b_D_loop 10 = .ok (.istore_n 3, 1) := by decide +kernel
theorem d_D_loop_11 : decode b_D_loop 11 = .ok (.iload_n 3, 1) := by decide +kernel
theorem d_D_loop_12 : decode b_D_loop 12 = .ok (.ifCond .ge 7, 3) := by decide +kernel
theorem d_D_loop_15 : decode b_D_loop 15 = .ok (.iconst (-1), 1) := by decide +kernel
theorem d_D_loop_16 : decode b_D_loop 16 = .ok (.goto 40, 3) := by decide +kernel
theorem d_D_loop_19 : decode b_D_loop 19 = .ok (.iload_n 2, 1) := by decide +kernel
theorem d_D_loop_20 : decode b_D_loop 20 = .ok (.ifCond .ne 7, 3) := by decide +kernel
theorem d_D_loop_23 : decode b_D_loop 23 = .ok (.iload_n 3, 1) := by decide +kernel
theorem d_D_loop_24 : decode b_D_loop 24 = .ok (.goto 32, 3) := by decide +kernel
theorem d_D_loop_27 : decode b_D_loop 27 = .ok (.iload_n 2, 1) := by decide +kernel
theorem d_D_loop_28 : decode b_D_loop 28 = .ok (.iconst 1, 1) := by decide +kernel
theorem d_D_loop_29 : decode b_D_loop 29 = .ok (.if_icmp .ne 12, 3) := by decide +kernel
theorem d_D_loop_32 : decode b_D_loop 32 = .ok (.aload_n 0, 1) := by decide +kernel
theorem d_D_loop_33 : decode b_D_loop 33 = .ok (.getfield 40, 3) := by decide +kernel
theorem d_D_loop_36 : decode b_D_loop 36 = .ok (.iload_n 3, 1) := by decide +kernel
theorem d_D_loop_37 : decode b_D_loop 37 = .ok (.iaload, 1) := by decide +kernel
theorem d_D_loop_38 : decode b_D_loop 38 = .ok (.goto 18, 3) := by decide +kernel
theorem d_D_loop_41 : decode b_D_loop 41 = .ok (.iload_n 2, 1) := by decide +kernel
theorem d_D_loop_42 : decode b_D_loop 42 = .ok (.iconst 2, 1) := by decide +kernel
theorem d_D_loop_43 : decode b_D_loop 43 = .ok (.if_icmp .ne 12, 3) := by decide +kernel
theorem d_D_loop_46 : decode b_D_loop 46 = .ok (.aload_n 0, 1) := by decide +kernel
theorem d_D_loop_47 : decode b_D_loop 47 = .ok (.getfield 43, 3) := by decide +kernel
theorem d_D_loop_50 : decode b_D_loop 50 = .ok (.iload_n 3, 1) := by decide +kernel
theorem d_D_loop_51 : decode b_D_loop 51 = .ok (.iaload, 1) := by decide +kernel
theorem d_D_loop_52 : decode b_D_loop 52 = .ok (.goto 4, 3) := by decide +kernel
theorem d_D_loop_55 : decode b_D_loop 55 = .ok (.iconst (-1), 1) := by decide +kernel
theorem d_D_loop_56 : decode b_D_loop 56 = .ok (.ireturn, 1) := by decide +kernel
theorem d_D_set_0 : decode b_D_set 0 = .ok (.aload_n 0, 1) := by decide +kernel
theorem d_D_set_1 : decode b_D_set 1 = .ok (.iload_n 1, 1) := by decide +kernel
theorem d_D_set_2 : decode b_D_set 2 = .ok (.ifCond .lt 19, 3) := by decide +kernel
theorem d_D_set_5 : decode b_D_set 5 = .ok (.iload_n 1, 1) := by decide +kernel
theorem d_D_set_6 : decode b_D_set 6 = .ok (.bipush 7, 2) := by decide +kernel
theorem d_D_set_8 : decode b_D_set 8 = .ok (.if_icmp .gt 13, 3) := by decide +kernel
theorem d_D_set_11 : decode b_D_set 11 = .ok (.iload_n 2, 1) := by decide +kernel
theorem d_D_set_12 : decode b_D_set 12 = .ok (.ifCond .lt 9, 3) := by decide +kernel
theorem d_D_set_15 : decode b_D_set 15 = .ok (.iload_n 2, 1) := by decide +kernel
theorem d_D_set_16 : decode b_D_set 16 = .ok (.ldc 125, 2) := by decide +kernel
theorem d_D_set_18 : decode b_D_set 18 = .ok (.if_icmp .le 7, 3) := by decide +kernel
theorem d_D_set_21 : decode b_D_set 21 = .ok (.iconst 1, 1) := by decide +kernel
theorem d_D_set_22 : decode b_D_set 22 = .ok (.goto 4, 3) := by decide +kernel
theorem d_D_set_25 : decode b_D_set 25 = .ok (.iconst 0, 1) := by decide +kernel
theorem d_D_set_26 : decode b_D_set 26 = .ok (.putfield 68, 3) := by decide +kernel
theorem d_D_set_29 : decode b_D_set 29 = .ok (.aload_n 0, 1) := by decide +kernel
theorem d_D_set_30 : decode b_D_set 30 = .ok (.getfield 68, 3) := by decide +kernel
theorem d_D_set_33 : decode b_D_set 33 = .ok (.ifCond .ne 10, 3) := by decide +kernel
theorem d_D_set_36 : decode b_D_set 36 = .ok (.aload_n 0, 1) := by decide +kernel
theorem d_D_set_37 : decode b_D_set 37 = .ok (.getfield 46, 3) := by decide +kernel
theorem d_D_set_40 : decode b_D_set 40 = .ok (.iload_n 1, 1) := by decide +kernel
theorem d_D_set_41 : decode b_D_set 41 = .ok (.iload_n 2, 1) := by decide +kernel
theorem d_D_set_42 : decode b_D_set 42 = .ok (.iastore, 1) := by decide +kernel
theorem d_D_set_43 : decode b_D_set 43 = .ok (.return_, 1) := by decide +kernel
theorem d_D_restart_0 : decode b_D_restart 0 = .ok (.aload_n 0, 1) := by decide +kernel
theorem d_D_restart_1 : decode b_D_restart 1 = .ok (.iconst 0, 1) := by decide +kernel
theorem d_D_restart_2 : decode b_D_restart 2 = .ok (.putfield 126, 3) := by decide +kernel
theorem d_D_restart_5 : decode b_D_restart 5 = .ok (.aload_n 0, 1) := by decide +kernel
theorem d_D_restart_6 : decode b_D_restart 6 = .ok (.lconst 0, 1) := by decide +kernel
theorem d_D_restart_7 : decode b_D_restart 7 = .ok (.putfield 129, 3) := by decide +kernel
theorem d_D_restart_10 : decode b_D_restart 10 = .ok (.aload_n 0, 1) := by decide +kernel
theorem d_D_restart_11 : decode b_D_restart 11 = .ok (.lconst 0, 1) := by decide +kernel
theorem d_D_restart_12 : decode b_D_restart 12 = .ok (.putfield 133, 3) := by decide +kernel
theorem d_D_restart_15 : decode b_D_restart 15 = .ok (.iconst 0, 1) := by decide +kernel
theorem d_D_restart_16 : decode b_D_restart 16 = .ok (.istore_n 1, 1) := by decide +kernel
theorem d_D_restart_17 : decode b_D_restart 17 = .ok (.iload_n 1, 1) := by decide +kernel
theorem d_D_restart_18 : decode b_D_restart 18 = .ok (.bipush 8, 2) := by decide +kernel
theorem d_D_restart_20 : decode b_D_restart 20 = .ok (.if_icmp .ge 21, 3) := by decide +kernel
theorem d_D_restart_23 : decode b_D_restart 23 = .ok (.aload_n 0, 1) := by decide +kernel
theorem d_D_restart_24 : decode b_D_restart 24 = .ok (.getfield 49, 3) := by decide +kernel
theorem d_D_restart_27 : decode b_D_restart 27 = .ok (.iload_n 1, 1) := by decide +kernel
theorem d_D_restart_28 : decode b_D_restart 28 = .ok (.aload_n 0, 1) := by decide +kernel
theorem d_D_restart_29 : decode b_D_restart 29 = .ok (.getfield 46, 3) := by decide +kernel
theorem d_D_restart_32 : decode b_D_restart 32 = .ok (.iload_n 1, 1) := by decide +kernel
theorem d_D_restart_33 : decode b_D_restart 33 = .ok (.iaload, 1) := by decide +kernel
theorem d_D_restart_34 : decode b_D_restart 34 = .ok (.iastore, 1) := by decide +kernel
theorem d_D_restart_35 : decode b_D_restart 35 = .ok (.iinc 1 1, 3) := by decide +kernel
theorem d_D_restart_38 : decode b_D_restart 38 = .ok (.goto (-21), 3) := by decide +kernel
theorem d_D_restart_41 : decode b_D_restart 41 = .ok (.return_, 1) := by decide +kernel
theorem d_D_start_0 : decode b_D_start 0 = .ok (.aload_n 0, 1) := by decide +kernel
theorem d_D_start_1 : decode b_D_start 1 = .ok (.aload_n 0, 1) := by decide +kernel
theorem d_D_start_2 : decode b_D_start 2 = .ok (.getfield 109, 3) := by decide +kernel
theorem d_D_start_5 : decode b_D_start 5 = .ok (.ifCond .ne 7, 3) := by decide +kernel
theorem d_D_start_8 : decode b_D_start 8 = .ok (.iconst 1, 1) := by decide +kernel
theorem d_D_start_9 : decode b_D_start 9 = .ok (.goto 4, 3) := by decide +kernel
theorem d_D_start_12 : decode b_D_start 12 = .ok (.iconst 0, 1) := by decide +kernel
theorem d_D_start_13 : decode b_D_start 13 = .ok (.putfield 68, 3) := by decide +kernel
theorem d_D_start_16 : decode b_D_start 16 = .ok (.aload_n 0, 1) := by decide +kernel
theorem d_D_start_17 : decode b_D_start 17 = .ok (.getfield 68, 3) := by decide +kernel
theorem d_D_start_20 : decode b_D_start 20 = .ok (.ifCond .ne 7, 3) := by decide +kernel
theorem d_D_start_23 : decode b_D_start 23 = .ok (.aload_n 0, 1) := by decide +kernel
theorem d_D_start_24 : decode b_D_start 24 = .ok (.invokevirtual 119, 3) := by decide +kernel
theorem d_D_start_27 : decode b_D_start 27 = .ok (.return_, 1) := by decide +kernel
theorem d_D_leaps_0 : decode b_D_leaps 0 = .ok (.aload_n 0, 1) := by decide +kernel
theorem d_D_leaps_1 : decode b_D_leaps 1 = .ok (.iconst 0, 1) := by decide +kernel
theorem d_D_leaps_2 : decode b_D_leaps 2 = .ok (.putfield 68, 3) := by decide +kernel
theorem d_D_leaps_5 : decode b_D_leaps 5 = .ok (.aload_n 0, 1) := by decide +kernel
theorem d_D_leaps_6 : decode b_D_leaps 6 = .ok (.iload_n 1, 1) := by decide +kernel
theorem d_D_leaps_7 : decode b_D_leaps 7 = .ok (.putfield 52, 3) := by decide +kernel
theorem d_D_leaps_10 : decode b_D_leaps 10 = .ok (.return_, 1) := by decide +kernel
theorem d_D_isHalted_0 : decode b_D_isHalted 0 = .ok (.aload_n 0, 1) := by decide +kernel
theorem d_D_isHalted_1 : decode b_D_isHalted 1 = .ok (.getfield 126, 3) := by decide +kernel
theorem d_D_isHalted_4 : decode b_D_isHalted 4 = .ok (.aload_n 0, 1) := by decide +kernel
theorem d_D_isHalted_5 : decode b_D_isHalted 5 = .ok (.getfield 109, 3) := by decide +kernel
theorem d_D_isHalted_8 : decode b_D_isHalted 8 = .ok (.if_icmp .eq 16, 3) := by decide +kernel
theorem d_D_isHalted_11 : decode b_D_isHalted 11 = .ok (.aload_n 0, 1) := by decide +kernel
theorem d_D_isHalted_12 : decode b_D_isHalted 12 = .ok (.getfield 28, 3) := by decide +kernel
theorem d_D_isHalted_15 : decode b_D_isHalted 15 = .ok (.aload_n 0, 1) := by decide +kernel
theorem d_D_isHalted_16 : decode b_D_isHalted 16 = .ok (.getfield 126, 3) := by decide +kernel
theorem d_D_isHalted_19 : decode b_D_isHalted 19 = .ok (.iaload, 1) := by decide +kernel
theorem d_D_isHalted_20 : decode b_D_isHalted 20 = .ok (.iconst 3, 1) := by decide +kernel
theorem d_D_isHalted_21 : decode b_D_isHalted 21 = .ok (.if_icmp .ne 7, 3) := by decide +kernel
theorem d_D_isHalted_24 : decode b_D_isHalted 24 = .ok (.iconst 1, 1) := by decide +kernel
theorem d_D_isHalted_25 : decode b_D_isHalted 25 = .ok (.goto 4, 3) := by decide +kernel
theorem d_D_isHalted_28 : decode b_D_isHalted 28 = .ok (.iconst 0, 1) := by decide +kernel
theorem d_D_isHalted_29 : decode b_D_isHalted 29 = .ok (.ireturn, 1) := by decide +kernel
theorem d_D_isStuck_0 : decode b_D_isStuck 0 = .ok (.aload_n 0, 1) := by decide +kernel
theorem d_D_isStuck_1 : decode b_D_isStuck 1 = .ok (.invokevirtual 136, 3) := by decide +kernel
theorem d_D_isStuck_4 : decode b_D_isStuck 4 = .ok (.ifCond .ne 49, 3) := by decide +kernel
theorem d_D_isStuck_7 : decode b_D_isStuck 7 = .ok (.aload_n 0, 1) := by decide +kernel
theorem d_D_isStuck_8 : decode b_D_isStuck 8 = .ok (.getfield 129, 3) := by decide +kernel
theorem d_D_isStuck_11 : decode b_D_isStuck 11 = .ok (.ldc2_w 140, 3) := by decide +kernel
theorem d_D_isStuck_14 : decode b_D_isStuck 14 = .ok (.lcmp, 1) := by decide +kernel
theorem d_D_isStuck_15 : decode b_D_isStuck 15 = .ok (.ifCond .eq 34, 3) := by decide +kernel
theorem d_D_isStuck_18 : decode b_D_isStuck 18 = .ok (.aload_n 0, 1) := by decide +kernel
theorem d_D_isStuck_19 : decode b_D_isStuck 19 = .ok (.getfield 28, 3) := by decide +kernel
theorem d_D_isStuck_22 : decode b_D_isStuck 22 = .ok (.aload_n 0, 1) := by decide +kernel
theorem d_D_isStuck_23 : decode b_D_isStuck 23 = .ok (.getfield 126, 3) := by decide +kernel
theorem d_D_isStuck_26 : decode b_D_isStuck 26 = .ok (.iaload, 1) := by decide +kernel
theorem d_D_isStuck_27 : decode b_D_isStuck 27 = .ok (.ifCond .ne 26, 3) := by decide +kernel
theorem d_D_isStuck_30 : decode b_D_isStuck 30 = .ok (.aload_n 0, 1) := by decide +kernel
theorem d_D_isStuck_31 : decode b_D_isStuck 31 = .ok (.getfield 46, 3) := by decide +kernel
theorem d_D_isStuck_34 : decode b_D_isStuck 34 = .ok (.aload_n 0, 1) := by decide +kernel
theorem d_D_isStuck_35 : decode b_D_isStuck 35 = .ok (.getfield 31, 3) := by decide +kernel
theorem d_D_isStuck_38 : decode b_D_isStuck 38 = .ok (.aload_n 0, 1) := by decide +kernel
theorem d_D_isStuck_39 : decode b_D_isStuck 39 = .ok (.getfield 126, 3) := by decide +kernel
theorem d_D_isStuck_42 : decode b_D_isStuck 42 = .ok (.iaload, 1) := by decide +kernel
theorem d_D_isStuck_43 : decode b_D_isStuck 43 = .ok (.iaload, 1) := by decide +kernel
theorem d_D_isStuck_44 : decode b_D_isStuck 44 = .ok (.ldc 125, 2) := by decide +kernel
theorem d_D_isStuck_46 : decode b_D_isStuck 46 = .ok (.if_icmp .ne 7, 3) := by decide +kernel
theorem d_D_isStuck_49 : decode b_D_isStuck 49 = .ok (.iconst 1, 1) := by decide +kernel
theorem d_D_isStuck_50 : decode b_D_isStuck 50 = .ok (.goto 4, 3) := by decide +kernel
theorem d_D_isStuck_53 : decode b_D_isStuck 53 = .ok (.iconst 0, 1) := by decide +kernel
theorem d_D_isStuck_54 : decode b_D_isStuck 54 = .ok (.ireturn, 1) := by decide +kernel
theorem d_D_pass_0 : decode b_D_pass 0 = .ok (.aload_n 0, 1) := by decide +kernel
theorem d_D_pass_1 : decode b_D_pass 1 = .ok (.lconst 0, 1) := by decide +kernel
theorem d_D_pass_2 : decode b_D_pass 2 = .ok (.putfield 142, 3) := by decide +kernel
theorem d_D_pass_5 : decode b_D_pass 5 = .ok (.iconst 1, 1) := by decide +kernel
theorem d_D_pass_6 : decode b_D_pass 6 = .ok (.istore 4, 2) := by decide +kernel
theorem d_D_pass_8 : decode b_D_pass 8 = .ok (.iconst 0, 1) := by decide +kernel
theorem d_D_pass_9 : decode b_D_pass 9 = .ok (.istore 5, 2) := by decide +kernel
theorem d_D_pass_11 : decode b_D_pass 11 = .ok (.iload 5, 2) := by decide +kernel
theorem d_D_pass_13 : decode b_D_pass 13 = .ok (.bipush 8, 2) := by decide +kernel
theorem d_D_pass_15 : decode b_D_pass 15 = .ok (.if_icmp .ge 57, 3) := by decide +kernel
theorem d_D_pass_18 : decode b_D_pass 18 = .ok (.aload_n 0, 1) := by decide +kernel
theorem d_D_pass_19 : decode b_D_pass 19 = .ok (.getfield 59, 3) := by decide +kernel
theorem d_D_pass_22 : decode b_D_pass 22 = .ok (.iload 5, 2) := by decide +kernel
theorem d_D_pass_24 : decode b_D_pass 24 = .ok (.aload_n 0, 1) := by decide +kernel
theorem d_D_pass_25 : decode b_D_pass 25 = .ok (.getfield 56, 3) := by decide +kernel
theorem d_D_pass_28 : decode b_D_pass 28 = .ok (.iload 5, 2) := by decide +kernel
theorem d_D_pass_30 : decode b_D_pass 30 = .ok (.iaload, 1) := by decide +kernel
theorem d_D_pass_31 : decode b_D_pass 31 = .ok (.iastore, 1) := by decide +kernel
theorem d_D_pass_32 : decode b_D_pass 32 = .ok (.iload 4, 2) := by decide +kernel
theorem d_D_pass_34 : decode b_D_pass 34 = .ok (.ifCond .eq 29, 3) := by decide +kernel
theorem d_D_pass_37 : decode b_D_pass 37 = .ok (.aload_n 0, 1) := by decide +kernel
theorem d_D_pass_38 : decode b_D_pass 38 = .ok (.getfield 56, 3) := by decide +kernel
theorem d_D_pass_41 : decode b_D_pass 41 = .ok (.iload 5, 2) := by decide +kernel
theorem d_D_pass_43 : decode b_D_pass 43 = .ok (.iaload, 1) := by decide +kernel
theorem d_D_pass_44 : decode b_D_pass 44 = .ok (.ifCond .lt 19, 3) := by decide +kernel
theorem d_D_pass_47 : decode b_D_pass 47 = .ok (.aload_n 0, 1) := by decide +kernel
theorem d_D_pass_48 : decode b_D_pass 48 = .ok (.getfield 56, 3) := by decide +kernel
theorem d_D_pass_51 : decode b_D_pass 51 = .ok (.iload 5, 2) := by decide +kernel
theorem d_D_pass_53 : decode b_D_pass 53 = .ok (.iaload, 1) := by decide +kernel
theorem d_D_pass_54 : decode b_D_pass 54 = .ok (.ldc 125, 2) := by decide +kernel
theorem d_D_pass_56 : decode b_D_pass 56 = .ok (.if_icmp .gt 7, 3) := by decide +kernel
theorem d_D_pass_59 : decode b_D_pass 59 = .ok (.iconst 1, 1) := by decide +kernel
theorem d_D_pass_60 : decode b_D_pass 60 = .ok (.goto 4, 3) := by decide +kernel
theorem d_D_pass_63 : decode b_D_pass 63 = .ok (.iconst 0, 1) := by decide +kernel
theorem d_D_pass_64 : decode b_D_pass 64 = .ok (.istore 4, 2) := by decide +kernel
theorem d_D_pass_66 : decode b_D_pass 66 = .ok (.iinc 5 1, 3) := by decide +kernel
theorem d_D_pass_69 : decode b_D_pass 69 = .ok (.goto (-58), 3) := by decide +kernel
theorem d_D_pass_72 : decode b_D_pass 72 = .ok (.iload_n 1, 1) := by decide +kernel
theorem d_D_pass_73 : decode b_D_pass 73 = .ok (.istore 5, 2) := by decide +kernel
theorem d_D_pass_75 : decode b_D_pass 75 = .ok (.iload 4, 2) := by decide +kernel
theorem d_D_pass_77 : decode b_D_pass 77 = .ok (.ifCond .eq 154, 3) := by decide +kernel
theorem d_D_pass_80 : decode b_D_pass 80 = .ok (.iload 5, 2) := by decide +kernel
theorem d_D_pass_82 : decode b_D_pass 82 = .ok (.aload_n 0, 1) := by decide +kernel
theorem d_D_pass_83 : decode b_D_pass 83 = .ok (.getfield 40, 3) := by decide +kernel
theorem d_D_pass_86 : decode b_D_pass 86 = .ok (.iload_n 1, 1) := by decide +kernel
theorem d_D_pass_87 : decode b_D_pass 87 = .ok (.iaload, 1) := by decide +kernel
theorem d_D_pass_88 : decode b_D_pass 88 = .ok (.if_icmp .ge 143, 3) := by decide +kernel
theorem d_D_pass_91 : decode b_D_pass 91 = .ok (.aload_n 0, 1) := by decide +kernel
theorem d_D_pass_92 : decode b_D_pass 92 = .ok (.getfield 31, 3) := by decide +kernel
theorem d_D_pass_95 : decode b_D_pass 95 = .ok (.iload 5, 2) := by decide +kernel
theorem d_D_pass_97 : decode b_D_pass 97 = .ok (.iaload, 1) := by decide +kernel
theorem d_D_pass_98 : decode b_D_pass 98 = .ok (.istore 6, 2) := by decide +kernel
theorem d_D_pass_100 : decode b_D_pass 100 = .ok (.iload 5, 2) := by decide +kernel
theorem d_D_pass_102 : decode b_D_pass 102 = .ok (.iload_n 1, 1) := by decide +kernel
theorem d_D_pass_103 : decode b_D_pass 103 = .ok (.if_icmp .eq 40, 3) := by decide +kernel
theorem d_D_pass_106 : decode b_D_pass 106 = .ok (.aload_n 0, 1) := by decide +kernel
theorem d_D_pass_107 : decode b_D_pass 107 = .ok (.getfield 37, 3) := by decide +kernel
theorem d_D_pass_110 : decode b_D_pass 110 = .ok (.iload 5, 2) := by decide +kernel
theorem d_D_pass_112 : decode b_D_pass 112 = .ok (.iaload, 1) := by decide +kernel
theorem d_D_pass_113 : decode b_D_pass 113 = .ok (.ifCond .lt 30, 3) := by decide +kernel
theorem d_D_pass_116 : decode b_D_pass 116 = .ok (.aload_n 0, 1) := by decide +kernel
theorem d_D_pass_117 : decode b_D_pass 117 = .ok (.iload 5, 2) := by decide +kernel
theorem d_D_pass_119 : decode b_D_pass 119 = .ok (.aload_n 0, 1) := by decide +kernel
theorem d_D_pass_120 : decode b_D_pass 120 = .ok (.getfield 59, 3) := by decide +kernel
theorem d_D_pass_123 : decode b_D_pass 123 = .ok (.iload 6, 2) := by decide +kernel
theorem d_D_pass_125 : decode b_D_pass 125 = .ok (.iaload, 1) := by decide +kernel
theorem d_D_pass_126 : decode b_D_pass 126 = .ok (.invokevirtual 145, 3) := by decide +kernel
theorem d_D_pass_129 : decode b_D_pass 129 = .ok (.istore 4, 2) := by decide +kernel
theorem d_D_pass_131 : decode b_D_pass 131 = .ok (.aload_n 0, 1) := by decide +kernel
theorem d_D_pass_132 : decode b_D_pass 132 = .ok (.getfield 37, 3) := by decide +kernel
theorem d_D_pass_135 : decode b_D_pass 135 = .ok (.iload 5, 2) := by decide +kernel
theorem d_D_pass_137 : decode b_D_pass 137 = .ok (.iaload, 1) := by decide +kernel
theorem d_D_pass_138 : decode b_D_pass 138 = .ok (.istore 5, 2) := by decide +kernel
theorem d_D_pass_140 : decode b_D_pass 140 = .ok (.goto 85, 3) := by decide +kernel
theorem d_D_pass_143 : decode b_D_pass 143 = .ok (.aload_n 0, 1) := by decide +kernel
theorem d_D_pass_144 : decode b_D_pass 144 = .ok (.getfield 28, 3) := by decide +kernel
theorem d_D_pass_147 : decode b_D_pass 147 = .ok (.iload 5, 2) := by decide +kernel
theorem d_D_pass_149 : decode b_D_pass 149 = .ok (.iaload, 1) := by decide +kernel
theorem d_D_pass_150 : decode b_D_pass 150 = .ok (.ifCond .ne 23, 3) := by decide +kernel
theorem d_D_pass_153 : decode b_D_pass 153 = .ok (.aload_n 0, 1) := by decide +kernel
theorem d_D_pass_154 : decode b_D_pass 154 = .ok (.getfield 59, 3) := by decide +kernel
theorem d_D_pass_157 : decode b_D_pass 157 = .ok (.iload 6, 2) := by decide +kernel
theorem d_D_pass_159 : decode b_D_pass 159 = .ok (.iaload, 1) := by decide +kernel
theorem d_D_pass_160 : decode b_D_pass 160 = .ok (.ldc 125, 2) := by decide +kernel
theorem d_D_pass_162 : decode b_D_pass 162 = .ok (.if_icmp .ge 7, 3) := by decide +kernel
theorem d_D_pass_165 : decode b_D_pass 165 = .ok (.iconst 1, 1) := by decide +kernel
theorem d_D_pass_166 : decode b_D_pass 166 = .ok (.goto 22, 3) := by decide +kernel
theorem d_D_pass_169 : decode b_D_pass 169 = .ok (.iconst 0, 1) := by decide +kernel
theorem d_D_pass_170 : decode b_D_pass 170 = .ok (.goto 18, 3) := by decide +kernel
theorem d_D_pass_173 : decode b_D_pass 173 = .ok (.aload_n 0, 1) := by decide +kernel
theorem d_D_pass_174 : decode b_D_pass 174 = .ok (.getfield 59, 3) := by decide +kernel
theorem d_D_pass_177 : decode b_D_pass 177 = .ok (.iload 6, 2) := by decide +kernel
theorem d_D_pass_179 : decode b_D_pass 179 = .ok (.iaload, 1) := by decide +kernel
theorem d_D_pass_180 : decode b_D_pass 180 = .ok (.ifCond .le 7, 3) := by decide +kernel
theorem d_D_pass_183 : decode b_D_pass 183 = .ok (.iconst 1, 1) := by decide +kernel
theorem d_D_pass_184 : decode b_D_pass 184 = .ok (.goto 4, 3) := by decide +kernel
theorem d_D_pass_187 : decode b_D_pass 187 = .ok (.iconst 0, 1) := by decide +kernel
theorem d_D_pass_188 : decode b_D_pass 188 = .ok (.istore 4, 2) := by decide +kernel
theorem d_D_pass_190 : decode b_D_pass 190 = .ok (.aload_n 0, 1) := by decide +kernel
theorem d_D_pass_191 : decode b_D_pass 191 = .ok (.getfield 59, 3) := by decide +kernel
theorem d_D_pass_194 : decode b_D_pass 194 = .ok (.iload 6, 2) := by decide +kernel
theorem d_D_pass_196 : decode b_D_pass 196 = .ok (.dup2, 1) := by decide +kernel
theorem d_D_pass_197 : decode b_D_pass 197 = .ok (.iaload, 1) := by decide +kernel
theorem d_D_pass_198 : decode b_D_pass 198 = .ok (.aload_n 0, 1) := by decide +kernel
theorem d_D_pass_199 : decode b_D_pass 199 = .ok (.getfield 28, 3) := by decide +kernel
theorem d_D_pass_202 : decode b_D_pass 202 = .ok (.iload 5, 2) := by decide +kernel
theorem d_D_pass_204 : decode b_D_pass 204 = .ok (.iaload, 1) := by decide +kernel
theorem d_D_pass_205 : decode b_D_pass 205 = .ok (.ifCond .ne 7, 3) := by decide +kernel
theorem d_D_pass_208 : decode b_D_pass 208 = .ok (.iconst 1, 1) := by decide +kernel
theorem d_D_pass_209 : decode b_D_pass 209 = .ok (.goto 4, 3) := by decide +kernel
theorem d_D_pass_212 : decode b_D_pass 212 = .ok (.iconst (-1), 1) := by decide +kernel
theorem d_D_pass_213 : decode b_D_pass 213 = .ok (.iadd, 1) := by decide +kernel
theorem d_D_pass_214 : decode b_D_pass 214 = .ok (.iastore, 1) := by decide +kernel
theorem d_D_pass_215 : decode b_D_pass 215 = .ok (.aload_n 0, 1) := by decide +kernel
theorem d_D_pass_216 : decode b_D_pass 216 = .ok (.dup, 1) := by decide +kernel
theorem d_D_pass_217 : decode b_D_pass 217 = .ok (.getfield 142, 3) := by decide +kernel
theorem d_D_pass_220 : decode b_D_pass 220 = .ok (.lconst 1, 1) := by decide +kernel
theorem d_D_pass_221 : decode b_D_pass 221 = .ok (.ladd, 1) := by decide +kernel
theorem d_D_pass_222 : decode b_D_pass 222 = .ok (.putfield 142, 3) := by decide +kernel
theorem d_D_pass_225 : decode b_D_pass 225 = .ok (.iinc 5 1, 3) := by decide +kernel
theorem d_D_pass_228 : decode b_D_pass 228 = .ok (.goto (-153), 3) := by decide +kernel
theorem d_D_pass_231 : decode b_D_pass 231 = .ok (.aload_n 0, 1) := by decide +kernel
theorem d_D_pass_232 : decode b_D_pass 232 = .ok (.dup, 1) := by decide +kernel
theorem d_D_pass_233 : decode b_D_pass 233 = .ok (.getfield 142, 3) := by decide +kernel
theorem d_D_pass_236 : decode b_D_pass 236 = .ok (.lconst 1, 1) := by decide +kernel
theorem d_D_pass_237 : decode b_D_pass 237 = .ok (.ladd, 1) := by decide +kernel
theorem d_D_pass_238 : decode b_D_pass 238 = .ok (.putfield 142, 3) := by decide +kernel
theorem d_D_pass_241 : decode b_D_pass 241 = .ok (.iload 4, 2) := by decide +kernel
theorem d_D_pass_243 : decode b_D_pass 243 = .ok (.ifCond .eq 20, 3) := by decide +kernel
theorem d_D_pass_246 : decode b_D_pass 246 = .ok (.lload_n 2, 1) := by decide +kernel
theorem d_D_pass_247 : decode b_D_pass 247 = .ok (.aload_n 0, 1) := by decide +kernel
theorem d_D_pass_248 : decode b_D_pass 248 = .ok (.getfield 142, 3) := by decide +kernel
theorem d_D_pass_251 : decode b_D_pass 251 = .ok (.ladd, 1) := by decide +kernel
theorem d_D_pass_252 : decode b_D_pass 252 = .ok (.ldc2_w 140, 3) := by decide +kernel
theorem d_D_pass_255 : decode b_D_pass 255 = .ok (.lcmp, 1) := by decide +kernel
theorem d_D_pass_256 : decode b_D_pass 256 = .ok (.ifCond .gt 7, 3) := by decide +kernel
theorem d_D_pass_259 : decode b_D_pass 259 = .ok (.iconst 1, 1) := by decide +kernel
theorem d_D_pass_260 : decode b_D_pass 260 = .ok (.goto 4, 3) := by decide +kernel
theorem d_D_pass_263 : decode b_D_pass 263 = .ok (.iconst 0, 1) := by decide +kernel
theorem d_D_pass_264 : decode b_D_pass 264 = .ok (.ireturn, 1) := by decide +kernel
theorem d_D_drained_0 : decode b_D_drained 0 = .ok (.iconst 1, 1) := by decide +kernel
theorem d_D_drained_1 : decode b_D_drained 1 = .ok (.istore_n 3, 1) := by decide +kernel
theorem d_D_drained_2 : decode b_D_drained 2 = .ok (.iload_n 1, 1) := by decide +kernel
theorem d_D_drained_3 : decode b_D_drained 3 = .ok (.iconst 1, 1) := by decide +kernel
theorem d_D_drained_4 : decode b_D_drained 4 = .ok (.iadd, 1) := by decide +kernel
theorem d_D_drained_5 : decode b_D_drained 5 = .ok (.istore 4, 2) := by decide +kernel
theorem d_D_drained_7 : decode b_D_drained 7 = .ok (.iload 4, 2) := by decide +kernel
theorem d_D_drained_9 : decode b_D_drained 9 = .ok (.aload_n 0, 1) := by decide +kernel
theorem d_D_drained_10 : decode b_D_drained 10 = .ok (.getfield 37, 3) := by decide +kernel
theorem d_D_drained_13 : decode b_D_drained 13 = .ok (.iload_n 1, 1) := by decide +kernel
theorem d_D_drained_14 : decode b_D_drained 14 = .ok (.iaload, 1) := by decide +kernel
theorem d_D_drained_15 : decode b_D_drained 15 = .ok (.if_icmp .ge 66, 3) := by decide +kernel
theorem d_D_drained_18 : decode b_D_drained 18 = .ok (.iload_n 3, 1) := by decide +kernel
theorem d_D_drained_19 : decode b_D_drained 19 = .ok (.ifCond .eq 62, 3) := by decide +kernel
theorem d_D_drained_22 : decode b_D_drained 22 = .ok (.aload_n 0, 1) := by decide +kernel
theorem d_D_drained_23 : decode b_D_drained 23 = .ok (.getfield 59, 3) := by decide +kernel
theorem d_D_drained_26 : decode b_D_drained 26 = .ok (.aload_n 0, 1) := by decide +kernel
theorem d_D_drained_27 : decode b_D_drained 27 = .ok (.getfield 31, 3) := by decide +kernel
theorem d_D_drained_30 : decode b_D_drained 30 = .ok (.iload 4, 2) := by decide +kernel
theorem d_D_drained_32 : decode b_D_drained 32 = .ok (.iaload, 1) := by decide +kernel
theorem d_D_drained_33 : decode b_D_drained 33 = .ok (.iaload, 1) := by decide +kernel
theorem d_D_drained_34 : decode b_D_drained 34 = .ok (.i2l, 1) := by decide +kernel
theorem d_D_drained_35 : decode b_D_drained 35 = .ok (.iload_n 2, 1) := by decide +kernel
theorem d_D_drained_36 : decode b_D_drained 36 = .ok (.i2l, 1) := by decide +kernel
theorem d_D_drained_37 : decode b_D_drained 37 = .ok (.ladd, 1) := by decide +kernel
theorem d_D_drained_38 : decode b_D_drained 38 = .ok (.ldc2_w 148, 3) := by decide +kernel
theorem d_D_drained_41 : decode b_D_drained 41 = .ok (.lcmp, 1) := by decide +kernel
theorem d_D_drained_42 : decode b_D_drained 42 = .ok (.ifCond .gt 7, 3) := by decide +kernel
theorem d_D_drained_45 : decode b_D_drained 45 = .ok (.iconst 1, 1) := by decide +kernel
theorem d_D_drained_46 : decode b_D_drained 46 = .ok (.goto 4, 3) := by decide +kernel
theorem d_D_drained_49 : decode b_D_drained 49 = .ok (.iconst 0, 1) := by decide +kernel
theorem d_D_drained_50 : decode b_D_drained 50 = .ok (.istore_n 3, 1) := by decide +kernel
theorem d_D_drained_51 : decode b_D_drained 51 = .ok (.aload_n 0, 1) := by decide +kernel
theorem d_D_drained_52 : decode b_D_drained 52 = .ok (.getfield 59, 3) := by decide +kernel
theorem d_D_drained_55 : decode b_D_drained 55 = .ok (.aload_n 0, 1) := by decide +kernel
theorem d_D_drained_56 : decode b_D_drained 56 = .ok (.getfield 31, 3) := by decide +kernel
theorem d_D_drained_59 : decode b_D_drained 59 = .ok (.iload 4, 2) := by decide +kernel
theorem d_D_drained_61 : decode b_D_drained 61 = .ok (.iaload, 1) := by decide +kernel
theorem d_D_drained_62 : decode b_D_drained 62 = .ok (.dup2, 1) := by decide +kernel
theorem d_D_drained_63 : decode b_D_drained 63 = .ok (.iaload, 1) := by decide +kernel
theorem d_D_drained_64 : decode b_D_drained 64 = .ok (.iload_n 3, 1) := by decide +kernel
theorem d_D_drained_65 : decode b_D_drained 65 = .ok (.ifCond .eq 7, 3) := by decide +kernel
theorem d_D_drained_68 : decode b_D_drained 68 = .ok (.iload_n 2, 1) := by decide +kernel
theorem d_D_drained_69 : decode b_D_drained 69 = .ok (.goto 4, 3) := by decide +kernel
theorem d_D_drained_72 : decode b_D_drained 72 = .ok (.iconst 0, 1) := by decide +kernel
theorem d_D_drained_73 : decode b_D_drained 73 = .ok (.iadd, 1) := by decide +kernel
theorem d_D_drained_74 : decode b_D_drained 74 = .ok (.iastore, 1) := by decide +kernel
theorem d_D_drained_75 : decode b_D_drained 75 = .ok (.iinc 4 1, 3) := by decide +kernel
theorem d_D_drained_78 : decode b_D_drained 78 = .ok (.goto (-71), 3) := by decide +kernel
theorem d_D_drained_81 : decode b_D_drained 81 = .ok (.aload_n 0, 1) := by decide +kernel
theorem d_D_drained_82 : decode b_D_drained 82 = .ok (.getfield 59, 3) := by decide +kernel
theorem d_D_drained_85 : decode b_D_drained 85 = .ok (.aload_n 0, 1) := by decide +kernel
theorem d_D_drained_86 : decode b_D_drained 86 = .ok (.getfield 31, 3) := by decide +kernel
theorem d_D_drained_89 : decode b_D_drained 89 = .ok (.iload_n 1, 1) := by decide +kernel
theorem d_D_drained_90 : decode b_D_drained 90 = .ok (.iaload, 1) := by decide +kernel
theorem d_D_drained_91 : decode b_D_drained 91 = .ok (.iconst 0, 1) := by decide +kernel
theorem d_D_drained_92 : decode b_D_drained 92 = .ok (.iastore, 1) := by decide +kernel
theorem d_D_drained_93 : decode b_D_drained 93 = .ok (.aload_n 0, 1) := by decide +kernel
theorem d_D_drained_94 : decode b_D_drained 94 = .ok (.dup, 1) := by decide +kernel
theorem d_D_drained_95 : decode b_D_drained 95 = .ok (.getfield 142, 3) := by decide +kernel
theorem d_D_drained_98 : decode b_D_drained 98 = .ok (.iload_n 2, 1) := by decide +kernel
theorem d_D_drained_99 : decode b_D_drained 99 = .ok (.i2l, 1) := by decide +kernel
theorem d_D_drained_100 : decode b_D_drained 100 = .ok (.aload_n 0, 1) := by decide +kernel
theorem d_D_drained_101 : decode b_D_drained 101 = .ok (.getfield 37, 3) := by decide +kernel
theorem d_D_drained_104 : decode b_D_drained 104 = .ok (.iload_n 1, 1) := by decide +kernel
theorem d_D_drained_105 : decode b_D_drained 105 = .ok (.iaload, 1) := by decide +kernel
theorem d_D_drained_106 : decode b_D_drained 106 = .ok (.iload_n 1, 1) := by decide +kernel
theorem d_D_drained_107 : decode b_D_drained 107 = .ok (.isub, 1) := by decide +kernel
theorem d_D_drained_108 : decode b_D_drained 108 = .ok (.iconst 1, 1) := by decide +kernel
theorem d_D_drained_109 : decode b_D_drained 109 = .ok (.iadd, 1) := by decide +kernel
theorem d_D_drained_110 : decode b_D_drained 110 = .ok (.i2l, 1) := by decide +kernel
theorem d_D_drained_111 : decode b_D_drained 111 = .ok (.lmul, 1) := by decide +kernel
theorem d_D_drained_112 : decode b_D_drained 112 = .ok (.lconst 1, 1) := by decide +kernel
theorem d_D_drained_113 : decode b_D_drained 113 = .ok (.ladd, 1) := by decide +kernel
theorem d_D_drained_114 : decode b_D_drained 114 = .ok (.ladd, 1) := by decide +kernel
theorem d_D_drained_115 : decode b_D_drained 115 = .ok (.putfield 142, 3) := by decide +kernel
theorem d_D_drained_118 : decode b_D_drained 118 = .ok (.iload_n 3, 1) := by decide +kernel
theorem d_D_drained_119 : decode b_D_drained 119 = .ok (.ireturn, 1) := by decide +kernel
theorem d_D_isFull_0 : decode b_D_isFull 0 = .ok (.aload_n 0, 1) := by decide +kernel
theorem d_D_isFull_1 : decode b_D_isFull 1 = .ok (.getfield 126, 3) := by decide +kernel
theorem d_D_isFull_4 : decode b_D_isFull 4 = .ok (.aload_n 0, 1) := by decide +kernel
theorem d_D_isFull_5 : decode b_D_isFull 5 = .ok (.getfield 109, 3) := by decide +kernel
theorem d_D_isFull_8 : decode b_D_isFull 8 = .ok (.if_icmp .eq 15, 3) := by decide +kernel
theorem d_D_isFull_11 : decode b_D_isFull 11 = .ok (.aload_n 0, 1) := by decide +kernel
theorem d_D_isFull_12 : decode b_D_isFull 12 = .ok (.getfield 40, 3) := by decide +kernel
theorem d_D_isFull_15 : decode b_D_isFull 15 = .ok (.aload_n 0, 1) := by decide +kernel
theorem d_D_isFull_16 : decode b_D_isFull 16 = .ok (.getfield 126, 3) := by decide +kernel
theorem d_D_isFull_19 : decode b_D_isFull 19 = .ok (.iaload, 1) := by decide +kernel
theorem d_D_isFull_20 : decode b_D_isFull 20 = .ok (.ifCond .ge 5, 3) := by decide +kernel
theorem d_D_isFull_23 : decode b_D_isFull 23 = .ok (.iconst 0, 1) := by decide +kernel
theorem d_D_isFull_24 : decode b_D_isFull 24 = .ok (.ireturn, 1) := by decide +kernel
theorem d_D_isFull_25 : decode b_D_isFull 25 = .ok (.iconst 0, 1) := by decide +kernel
theorem d_D_isFull_26 : decode b_D_isFull 26 = .ok (.istore_n 1, 1) := by decide +kernel
theorem d_D_isFull_27 : decode b_D_isFull 27 = .ok (.iload_n 1, 1) := by decide +kernel
theorem d_D_isFull_28 : decode b_D_isFull 28 = .ok (.bipush 8, 2) := by decide +kernel
theorem d_D_isFull_30 : decode b_D_isFull 30 = .ok (.if_icmp .ge 21, 3) := by decide +kernel
theorem d_D_isFull_33 : decode b_D_isFull 33 = .ok (.aload_n 0, 1) := by decide +kernel
theorem d_D_isFull_34 : decode b_D_isFull 34 = .ok (.getfield 56, 3) := by decide +kernel
theorem d_D_isFull_37 : decode b_D_isFull 37 = .ok (.iload_n 1, 1) := by decide +kernel
theorem d_D_isFull_38 : decode b_D_isFull 38 = .ok (.aload_n 0, 1) := by decide +kernel
theorem d_D_isFull_39 : decode b_D_isFull 39 = .ok (.getfield 46, 3) := by decide +kernel
theorem d_D_isFull_42 : decode b_D_isFull 42 = .ok (.iload_n 1, 1) := by decide +kernel
theorem d_D_isFull_43 : decode b_D_isFull 43 = .ok (.iaload, 1) := by decide +kernel
theorem d_D_isFull_44 : decode b_D_isFull 44 = .ok (.iastore, 1) := by decide +kernel
theorem d_D_isFull_45 : decode b_D_isFull 45 = .ok (.iinc 1 1, 3) := by decide +kernel
theorem d_D_isFull_48 : decode b_D_isFull 48 = .ok (.goto (-21), 3) := by decide +kernel
theorem d_D_isFull_51 : decode b_D_isFull 51 = .ok (.aload_n 0, 1) := by decide +kernel
theorem d_D_isFull_52 : decode b_D_isFull 52 = .ok (.aload_n 0, 1) := by decide +kernel
theorem d_D_isFull_53 : decode b_D_isFull 53 = .ok (.getfield 126, 3) := by decide +kernel
theorem d_D_isFull_56 : decode b_D_isFull 56 = .ok (.aload_n 0, 1) := by decide +kernel
theorem d_D_isFull_57 : decode b_D_isFull 57 = .ok (.getfield 129, 3) := by decide +kernel
theorem d_D_isFull_60 : decode b_D_isFull 60 = .ok (.invokevirtual 150, 3) := by decide +kernel
theorem d_D_isFull_63 : decode b_D_isFull 63 = .ok (.ireturn, 1) := by decide +kernel
theorem d_D_isChanged_0 : decode b_D_isChanged 0 = .ok (.iconst 0, 1) := by decide +kernel
theorem d_D_isChanged_1 : decode b_D_isChanged 1 = .ok (.istore_n 1, 1) := by decide +kernel
theorem d_D_isChanged_2 : decode b_D_isChanged 2 = .ok (.iconst 0, 1) := by decide +kernel
theorem d_D_isChanged_3 : decode b_D_isChanged 3 = .ok (.istore_n 2, 1) := by decide +kernel
theorem d_D_isChanged_4 : decode b_D_isChanged 4 = .ok (.iload_n 2, 1) := by decide +kernel
theorem d_D_isChanged_5 : decode b_D_isChanged 5 = .ok (.bipush 8, 2) := by decide +kernel
theorem d_D_isChanged_7 : decode b_D_isChanged 7 = .ok (.if_icmp .ge 34, 3) := by decide +kernel
theorem d_D_isChanged_10 : decode b_D_isChanged 10 = .ok (.iload_n 1, 1) := by decide +kernel
theorem d_D_isChanged_11 : decode b_D_isChanged 11 = .ok (.ifCond .ne 18, 3) := by decide +kernel
theorem d_D_isChanged_14 : decode b_D_isChanged 14 = .ok (.aload_n 0, 1) := by decide +kernel
theorem d_D_isChanged_15 : decode b_D_isChanged 15 = .ok (.getfield 56, 3) := by decide +kernel
theorem d_D_isChanged_18 : decode b_D_isChanged 18 = .ok (.iload_n 2, 1) := by decide +kernel
theorem d_D_isChanged_19 : decode b_D_isChanged 19 = .ok (.iaload, 1) := by decide +kernel
theorem d_D_isChanged_20 : decode b_D_isChanged 20 = .ok (.aload_n 0, 1) := by decide +kernel
theorem d_D_isChanged_21 : decode b_D_isChanged 21 = .ok (.getfield 59, 3) := by decide +kernel
theorem d_D_isChanged_24 : decode b_D_isChanged 24 = .ok (.iload_n 2, 1) := by decide +kernel
theorem d_D_isChanged_25 : decode b_D_isChanged 25 = .ok (.iaload, 1) := by decide +kernel
theorem d_D_isChanged_26 : decode b_D_isChanged 26 = .ok (.if_icmp .eq 7, 3) := by decide +kernel
theorem d_D_isChanged_29 : decode b_D_isChanged 29 = .ok (.iconst 1, 1) := by decide +kernel
theorem d_D_isChanged_30 : decode b_D_isChanged 30 = .ok (.goto 4, 3) := by decide +kernel
theorem d_D_isChanged_33 : decode b_D_isChanged 33 = .ok (.iconst 0, 1) := by decide +kernel
theorem d_D_isChanged_34 : decode b_D_isChanged 34 = .ok (.istore_n 1, 1) := by decide +kernel
theorem d_D_isChanged_35 : decode b_D_isChanged 35 = .ok (.iinc 2 1, 3) := by decide +kernel
theorem d_D_isChanged_38 : decode b_D_isChanged 38 = .ok (.goto (-34), 3) := by decide +kernel
theorem d_D_isChanged_41 : decode b_D_isChanged 41 = .ok (.iload_n 1, 1) := by decide +kernel
theorem d_D_isChanged_42 : decode b_D_isChanged 42 = .ok (.ireturn, 1) := by decide +kernel
theorem d_D_isDrainChanged_0 : decode b_D_isDrainChanged 0 = .ok (.iconst 0, 1) := by decide +kernel
theorem d_D_isDrainChanged_1 : decode b_D_isDrainChanged 1 = .ok (.istore_n 2, 1) := by decide +kernel
theorem d_D_isDrainChanged_2 : decode b_D_isDrainChanged 2 = .ok (.iload_n 1, 1) := by decide +kernel
theorem d_D_isDrainChanged_3 : decode b_D_isDrainChanged 3 = .ok (.iconst 1, 1) := by decide +kernel
theorem d_D_isDrainChanged_4 : decode b_D_isDrainChanged 4 = .ok (.iadd, 1) := by decide +kernel
theorem d_D_isDrainChanged_5 : decode b_D_isDrainChanged 5 = .ok (.istore_n 3, 1) := by decide +kernel
theorem d_D_isDrainChanged_6 : decode b_D_isDrainChanged 6 = .ok (.iload_n 3, 1) := by decide +kernel
theorem d_D_isDrainChanged_7 : decode b_D_isDrainChanged 7 = .ok (.aload_n 0, 1) := by decide +kernel
theorem d_D_isDrainChanged_8 : decode b_D_isDrainChanged 8 = .ok (.getfield 40, 3) := by decide +kernel
theorem d_D_isDrainChanged_11 : decode b_D_isDrainChanged 11 = .ok (.iload_n 1, 1) := by decide +kernel
theorem d_D_isDrainChanged_12 : decode b_D_isDrainChanged 12 = .ok (.iaload, 1) := by decide +kernel
theorem d_D_isDrainChanged_13 : decode b_D_isDrainChanged 13 = .ok (.if_icmp .ge 53, 3) := by decide +kernel
theorem d_D_isDrainChanged_16 : decode b_D_isDrainChanged 16 = .ok (.iload_n 2, 1) := by decide +kernel
theorem d_D_isDrainChanged_17 : decode b_D_isDrainChanged 17 = .ok (.ifCond .ne 37, 3) := by decide +kernel
theorem d_D_isDrainChanged_20 : decode b_D_isDrainChanged 20 = .ok (.aload_n 0, 1) := by decide +kernel
theorem d_D_isDrainChanged_21 : decode b_D_isDrainChanged 21 = .ok (.getfield 37, 3) := by decide +kernel
theorem d_D_isDrainChanged_24 : decode b_D_isDrainChanged 24 = .ok (.iload_n 3, 1) := by decide +kernel
theorem d_D_isDrainChanged_25 : decode b_D_isDrainChanged 25 = .ok (.iaload, 1) := by decide +kernel
theorem d_D_isDrainChanged_26 : decode b_D_isDrainChanged 26 = .ok (.ifCond .lt 32, 3) := by decide +kernel
theorem d_D_isDrainChanged_29 : decode b_D_isDrainChanged 29 = .ok (.aload_n 0, 1) := by decide +kernel
theorem d_D_isDrainChanged_30 : decode b_D_isDrainChanged 30 = .ok (.getfield 56, 3) := by decide +kernel
theorem d_D_isDrainChanged_33 : decode b_D_isDrainChanged 33 = .ok (.aload_n 0, 1) := by decide +kernel
theorem d_D_isDrainChanged_34 : decode b_D_isDrainChanged 34 = .ok (.getfield 31, 3) := by decide +kernel
theorem d_D_isDrainChanged_37 : decode b_D_isDrainChanged 37 = .ok (.iload_n 3, 1) := by decide +kernel
theorem d_D_isDrainChanged_38 : decode b_D_isDrainChanged 38 = .ok (.iaload, 1) := by decide +kernel
theorem d_D_isDrainChanged_39 : decode b_D_isDrainChanged 39 = .ok (.iaload, 1) := by decide +kernel
theorem d_D_isDrainChanged_40 : decode b_D_isDrainChanged 40 = .ok (.aload_n 0, 1) := by decide +kernel
theorem d_D_isDrainChanged_41 : decode b_D_isDrainChanged 41 = .ok (.getfield 59, 3) := by decide +kernel
theorem d_D_isDrainChanged_44 : decode b_D_isDrainChanged 44 = .ok (.aload_n 0, 1) := by decide +kernel
theorem d_D_isDrainChanged_45 : decode b_D_isDrainChanged 45 = .ok (.getfield 31, 3) := by decide +kernel
theorem d_D_isDrainChanged_48 : decode b_D_isDrainChanged 48 = .ok (.iload_n 3, 1) := by decide +kernel
theorem d_D_isDrainChanged_49 : decode b_D_isDrainChanged 49 = .ok (.iaload, 1) := by decide +kernel
theorem d_D_isDrainChanged_50 : decode b_D_isDrainChanged 50 = .ok (.iaload, 1) := by decide +kernel
theorem d_D_isDrainChanged_51 : decode b_D_isDrainChanged 51 = .ok (.if_icmp .eq 7, 3) := by decide +kernel
theorem d_D_isDrainChanged_54 : decode b_D_isDrainChanged 54 = .ok (.iconst 1, 1) := by decide +kernel
theorem d_D_isDrainChanged_55 : decode b_D_isDrainChanged 55 = .ok (.goto 4, 3) := by decide +kernel
theorem d_D_isDrainChanged_58 : decode b_D_isDrainChanged 58 = .ok (.iconst 0, 1) := by decide +kernel
theorem d_D_isDrainChanged_59 : decode b_D_isDrainChanged 59 = .ok (.istore_n 2, 1) := by decide +kernel
theorem d_D_isDrainChanged_60 : decode b_D_isDrainChanged 60 = .ok (.iinc 3 1, 3) := by decide +kernel
theorem d_D_isDrainChanged_63 : decode b_D_isDrainChanged 63 = .ok (.goto (-57), 3) := by decide +kernel
theorem d_D_isDrainChanged_66 : decode b_D_isDrainChanged 66 = .ok (.iload_n 2, 1) := by decide +kernel
theorem d_D_isDrainChanged_67 : decode b_D_isDrainChanged 67 = .ok (.ireturn, 1) := by decide +kernel
theorem d_D_stateOf_0 : decode b_D_stateOf 0 = .ok (.aload_n 0, 1) := by decide +kernel
theorem d_D_stateOf_1 : decode b_D_stateOf 1 = .ok (.invokevirtual 136, 3) := by decide +kernel
theorem d_D_stateOf_4 : decode b_D_stateOf 4 = .ok (.ifCond .eq 5, 3) := by decide +kernel
theorem d_D_stateOf_7 : decode b_D_stateOf 7 = .ok (.iconst 1, 1) := by decide +kernel
theorem d_D_stateOf_8 : decode b_D_stateOf 8 = .ok (.ireturn, 1) := by decide +kernel
theorem d_D_stateOf_9 : decode b_D_stateOf 9 = .ok (.aload_n 0, 1) := by decide +kernel
theorem d_D_stateOf_10 : decode b_D_stateOf 10 = .ok (.invokevirtual 154, 3) := by decide +kernel
theorem d_D_stateOf_13 : decode b_D_stateOf 13 = .ok (.ifCond .eq 5, 3) := by decide +kernel
theorem d_D_stateOf_16 : decode b_D_stateOf 16 = .ok (.iconst 2, 1) := by decide +kernel
theorem d_D_stateOf_17 : decode b_D_stateOf 17 = .ok (.ireturn, 1) := by decide +kernel
theorem d_D_stateOf_18 : decode b_D_stateOf 18 = .ok (.aload_n 0, 1) := by decide +kernel
theorem d_D_stateOf_19 : decode b_D_stateOf 19 = .ok (.invokevirtual 157, 3) := by decide +kernel
theorem d_D_stateOf_22 : decode b_D_stateOf 22 = .ok (.ifCond .eq 14, 3) := by decide +kernel
theorem d_D_stateOf_25 : decode b_D_stateOf 25 = .ok (.aload_n 0, 1) := by decide +kernel
theorem d_D_stateOf_26 : decode b_D_stateOf 26 = .ok (.invokevirtual 160, 3) := by decide +kernel
theorem d_D_stateOf_29 : decode b_D_stateOf 29 = .ok (.ifCond .ne 7, 3) := by decide +kernel
theorem d_D_stateOf_32 : decode b_D_stateOf 32 = .ok (.iconst 3, 1) := by decide +kernel
theorem d_D_stateOf_33 : decode b_D_stateOf 33 = .ok (.goto 4, 3) := by decide +kernel
theorem d_D_stateOf_36 : decode b_D_stateOf 36 = .ok (.iconst 0, 1) := by decide +kernel
theorem d_D_stateOf_37 : decode b_D_stateOf 37 = .ok (.ireturn, 1) := by decide +kernel
theorem d_D_passes_0 : decode b_D_passes 0 = .ok (.aload_n 0, 1) := by decide +kernel
theorem d_D_passes_1 : decode b_D_passes 1 = .ok (.invokevirtual 160, 3) := by decide +kernel
theorem d_D_passes_4 : decode b_D_passes 4 = .ok (.ifCond .ne 5, 3) := by decide +kernel
theorem d_D_passes_7 : decode b_D_passes 7 = .ok (.lconst 0, 1) := by decide +kernel
theorem d_D_passes_8 : decode b_D_passes 8 = .ok (.lreturn, 1) := by decide +kernel
theorem d_D_passes_9 : decode b_D_passes 9 = .ok (.aload_n 0, 1) := by decide +kernel
theorem d_D_passes_10 : decode b_D_passes 10 = .ok (.aload_n 0, 1) := by decide +kernel
theorem d_D_passes_11 : decode b_D_passes 11 = .ok (.getfield 126, 3) := by decide +kernel
theorem d_D_passes_14 : decode b_D_passes 14 = .ok (.invokevirtual 163, 3) := by decide +kernel
theorem d_D_passes_17 : decode b_D_passes 17 = .ok (.ifCond .eq 5, 3) := by decide +kernel
theorem d_D_passes_20 : decode b_D_passes 20 = .ok (.lconst 1, 1) := by decide +kernel
theorem d_D_passes_21 : decode b_D_passes 21 = .ok (.lreturn, 1) := by decide +kernel
theorem d_D_passes_22 : decode b_D_passes 22 = .ok (.aload_n 0, 1) := by decide +kernel
theorem d_D_passes_23 : decode b_D_passes 23 = .ok (.getfield 142, 3) := by decide +kernel
theorem d_D_passes_26 : decode b_D_passes 26 = .ok (.lstore_n 1, 1) := by decide +kernel
theorem d_D_passes_27 : decode b_D_passes 27 = .ok (.iconst 0, 1) := by decide +kernel
theorem d_D_passes_28 : decode b_D_passes 28 = .ok (.istore_n 3, 1) := by decide +kernel
theorem d_D_passes_29 : decode b_D_passes 29 = .ok (.ldc 167, 2) := by decide +kernel
theorem d_D_passes_31 : decode b_D_passes 31 = .ok (.istore 4, 2) := by decide +kernel
theorem d_D_passes_33 : decode b_D_passes 33 = .ok (.iconst 0, 1) := by decide +kernel
theorem d_D_passes_34 : decode b_D_passes 34 = .ok (.istore 5, 2) := by decide +kernel
theorem d_D_passes_36 : decode b_D_passes 36 = .ok (.iload 5, 2) := by decide +kernel
theorem d_D_passes_38 : decode b_D_passes 38 = .ok (.bipush 8, 2) := by decide +kernel
theorem d_D_passes_40 : decode b_D_passes 40 = .ok (.if_icmp .ge 31, 3) := by decide +kernel
theorem d_D_passes_43 : decode b_D_passes 43 = .ok (.aload_n 0, 1) := by decide +kernel
theorem d_D_passes_44 : decode b_D_passes 44 = .ok (.getfield 62, 3) := by decide +kernel
theorem d_D_passes_47 : decode b_D_passes 47 = .ok (.iload 5, 2) := by decide +kernel
theorem d_D_passes_49 : decode b_D_passes 49 = .ok (.aload_n 0, 1) := by decide +kernel
theorem d_D_passes_50 : decode b_D_passes 50 = .ok (.getfield 59, 3) := by decide +kernel
theorem d_D_passes_53 : decode b_D_passes 53 = .ok (.iload 5, 2) := by decide +kernel
theorem d_D_passes_55 : decode b_D_passes 55 = .ok (.iaload, 1) := by decide +kernel
theorem d_D_passes_56 : decode b_D_passes 56 = .ok (.aload_n 0, 1) := by decide +kernel
theorem d_D_passes_57 : decode b_D_passes 57 = .ok (.getfield 46, 3) := by decide +kernel
theorem d_D_passes_60 : decode b_D_passes 60 = .ok (.iload 5, 2) := by decide +kernel
theorem d_D_passes_62 : decode b_D_passes 62 = .ok (.iaload, 1) := by decide +kernel
theorem d_D_passes_63 : decode b_D_passes 63 = .ok (.isub, 1) := by decide +kernel
theorem d_D_passes_64 : decode b_D_passes 64 = .ok (.iastore, 1) := by decide +kernel
theorem d_D_passes_65 : decode b_D_passes 65 = .ok (.iinc 5 1, 3) := by decide +kernel
theorem d_D_passes_68 : decode b_D_passes 68 = .ok (.goto (-32), 3) := by decide +kernel
theorem d_D_passes_71 : decode b_D_passes 71 = .ok (.iload 4, 2) := by decide +kernel
theorem d_D_passes_73 : decode b_D_passes 73 = .ok (.iload_n 3, 1) := by decide +kernel
theorem d_D_passes_74 : decode b_D_passes 74 = .ok (.isub, 1) := by decide +kernel
theorem d_D_passes_75 : decode b_D_passes 75 = .ok (.iconst 1, 1) := by decide +kernel
theorem d_D_passes_76 : decode b_D_passes 76 = .ok (.if_icmp .le 153, 3) := by decide +kernel
theorem d_D_passes_79 : decode b_D_passes 79 = .ok (.iload_n 3, 1) := by decide +kernel
theorem d_D_passes_80 : decode b_D_passes 80 = .ok (.iload 4, 2) := by decide +kernel
theorem d_D_passes_82 : decode b_D_passes 82 = .ok (.iadd, 1) := by decide +kernel
theorem d_D_passes_83 : decode b_D_passes 83 = .ok (.iconst 2, 1) := by decide +kernel
theorem d_D_passes_84 : decode b_D_passes 84 = .ok (.idiv, 1) := by decide +kernel
theorem d_D_passes_85 : decode b_D_passes 85 = .ok (.istore 5, 2) := by decide +kernel
theorem d_D_passes_87 : decode b_D_passes 87 = .ok (.iconst 1, 1) := by decide +kernel
theorem d_D_passes_88 : decode b_D_passes 88 = .ok (.istore 6, 2) := by decide +kernel
theorem d_D_passes_90 : decode b_D_passes 90 = .ok (.iconst 0, 1) := by decide +kernel
theorem d_D_passes_91 : decode b_D_passes 91 = .ok (.istore 7, 2) := by decide +kernel
theorem d_D_passes_93 : decode b_D_passes 93 = .ok (.iload 7, 2) := by decide +kernel
theorem d_D_passes_95 : decode b_D_passes 95 = .ok (.bipush 8, 2) := by decide +kernel
theorem d_D_passes_97 : decode b_D_passes 97 = .ok (.if_icmp .ge 79, 3) := by decide +kernel
theorem d_D_passes_100 : decode b_D_passes 100 = .ok (.aload_n 0, 1) := by decide +kernel
theorem d_D_passes_101 : decode b_D_passes 101 = .ok (.getfield 46, 3) := by decide +kernel
theorem d_D_passes_104 : decode b_D_passes 104 = .ok (.iload 7, 2) := by decide +kernel
theorem d_D_passes_106 : decode b_D_passes 106 = .ok (.iaload, 1) := by decide +kernel
theorem d_D_passes_107 : decode b_D_passes 107 = .ok (.i2l, 1) := by decide +kernel
theorem d_D_passes_108 : decode b_D_passes 108 = .ok (.iload 5, 2) := by decide +kernel
theorem d_D_passes_110 : decode b_D_passes 110 = .ok (.i2l, 1) := by decide +kernel
theorem d_D_passes_111 : decode b_D_passes 111 = .ok (.aload_n 0, 1) := by decide +kernel
theorem d_D_passes_112 : decode b_D_passes 112 = .ok (.getfield 62, 3) := by decide +kernel
theorem d_D_passes_115 : decode b_D_passes 115 = .ok (.iload 7, 2) := by decide +kernel
theorem d_D_passes_117 : decode b_D_passes 117 = .ok (.iaload, 1) := by decide +kernel
theorem d_D_passes_118 : decode b_D_passes 118 = .ok (.i2l, 1) := by decide +kernel
theorem d_D_passes_119 : decode b_D_passes 119 = .ok (.lmul, 1) := by decide +kernel
theorem d_D_passes_120 : decode b_D_passes 120 = .ok (.ladd, 1) := by decide +kernel
theorem d_D_passes_121 : decode b_D_passes 121 = .ok (.lstore 8, 2) := by decide +kernel
theorem d_D_passes_123 : decode b_D_passes 123 = .ok (.iload 6, 2) := by decide +kernel
theorem d_D_passes_125 : decode b_D_passes 125 = .ok (.ifCond .eq 23, 3) := by decide +kernel
theorem d_D_passes_128 : decode b_D_passes 128 = .ok (.lload 8, 2) := by decide +kernel
theorem d_D_passes_130 : decode b_D_passes 130 = .ok (.lconst 0, 1) := by decide +kernel
theorem d_D_passes_131 : decode b_D_passes 131 = .ok (.lcmp, 1) := by decide +kernel
theorem d_D_passes_132 : decode b_D_passes 132 = .ok (.ifCond .lt 16, 3) := by decide +kernel
theorem d_D_passes_135 : decode b_D_passes 135 = .ok (.lload 8, 2) := by decide +kernel
theorem d_D_passes_137 : decode b_D_passes 137 = .ok (.ldc2_w 148, 3) := by decide +kernel
theorem d_D_passes_140 : decode b_D_passes 140 = .ok (.lcmp, 1) := by decide +kernel
theorem d_D_passes_141 : decode b_D_passes 141 = .ok (.ifCond .gt 7, 3) := by decide +kernel
theorem d_D_passes_144 : decode b_D_passes 144 = .ok (.iconst 1, 1) := by decide +kernel
theorem d_D_passes_145 : decode b_D_passes 145 = .ok (.goto 4, 3) := by decide +kernel
theorem d_D_passes_148 : decode b_D_passes 148 = .ok (.iconst 0, 1) := by decide +kernel
theorem d_D_passes_149 : decode b_D_passes 149 = .ok (.istore 6, 2) := by decide +kernel
theorem d_D_passes_151 : decode b_D_passes 151 = .ok (.aload_n 0, 1) := by decide +kernel
theorem d_D_passes_152 : decode b_D_passes 152 = .ok (.getfield 56, 3) := by decide +kernel
theorem d_D_passes_155 : decode b_D_passes 155 = .ok (.iload 7, 2) := by decide +kernel
theorem d_D_passes_157 : decode b_D_passes 157 = .ok (.iload 6, 2) := by decide +kernel
theorem d_D_passes_159 : decode b_D_passes 159 = .ok (.ifCond .eq 9, 3) := by decide +kernel
theorem d_D_passes_162 : decode b_D_passes 162 = .ok (.lload 8, 2) := by decide +kernel
theorem d_D_passes_164 : decode b_D_passes 164 = .ok (.l2i, 1) := by decide +kernel
theorem d_D_passes_165 : decode b_D_passes 165 = .ok (.goto 4, 3) := by decide +kernel
theorem d_D_passes_168 : decode b_D_passes 168 = .ok (.iconst 0, 1) := by decide +kernel
theorem d_D_passes_169 : decode b_D_passes 169 = .ok (.iastore, 1) := by decide +kernel
theorem d_D_passes_170 : decode b_D_passes 170 = .ok (.iinc 7 1, 3) := by decide +kernel
theorem d_D_passes_173 : decode b_D_passes 173 = .ok (.goto (-80), 3) := by decide +kernel
theorem d_D_passes_176 : decode b_D_passes 176 = .ok (.iload 6, 2) := by decide +kernel
theorem d_D_passes_178 : decode b_D_passes 178 = .ok (.ifCond .eq 19, 3) := by decide +kernel
theorem d_D_passes_181 : decode b_D_passes 181 = .ok (.aload_n 0, 1) := by decide +kernel
theorem d_D_passes_182 : decode b_D_passes 182 = .ok (.aload_n 0, 1) := by decide +kernel
theorem d_D_passes_183 : decode b_D_passes 183 = .ok (.getfield 126, 3) := by decide +kernel
theorem d_D_passes_186 : decode b_D_passes 186 = .ok (.lconst 0, 1) := by decide +kernel
theorem d_D_passes_187 : decode b_D_passes 187 = .ok (.invokevirtual 150, 3) := by decide +kernel
theorem d_D_passes_190 : decode b_D_passes 190 = .ok (.ifCond .eq 7, 3) := by decide +kernel
theorem d_D_passes_193 : decode b_D_passes 193 = .ok (.iconst 1, 1) := by decide +kernel
theorem d_D_passes_194 : decode b_D_passes 194 = .ok (.goto 4, 3) := by decide +kernel
theorem d_D_passes_197 : decode b_D_passes 197 = .ok (.iconst 0, 1) := by decide +kernel
theorem d_D_passes_198 : decode b_D_passes 198 = .ok (.istore 7, 2) := by decide +kernel
theorem d_D_passes_200 : decode b_D_passes 200 = .ok (.iload 7, 2) := by decide +kernel
theorem d_D_passes_202 : decode b_D_passes 202 = .ok (.ifCond .eq 8, 3) := by decide +kernel
theorem d_D_passes_205 : decode b_D_passes 205 = .ok (.iload 5, 2) := by decide +kernel
theorem d_D_passes_207 : decode b_D_passes 207 = .ok (.goto 4, 3) := by decide +kernel
theorem d_D_passes_210 : decode b_D_passes 210 = .ok (.iload_n 3, 1) := by decide +kernel
theorem d_D_passes_211 : decode b_D_passes 211 = .ok (.istore_n 3, 1) := by decide +kernel
theorem d_D_passes_212 : decode b_D_passes 212 = .ok (.iload 7, 2) := by decide +kernel
theorem d_D_passes_214 : decode b_D_passes 214 = .ok (.ifCond .eq 8, 3) := by decide +kernel
theorem d_D_passes_217 : decode b_D_passes 217 = .ok (.iload 4, 2) := by decide +kernel
theorem d_D_passes_219 : decode b_D_passes 219 = .ok (.goto 5, 3) := by decide +kernel
theorem d_D_passes_222 : decode b_D_passes 222 = .ok (.iload 5, 2) := by decide +kernel
theorem d_D_passes_224 : decode b_D_passes 224 = .ok (.istore 4, 2) := by decide +kernel
theorem d_D_passes_226 : decode b_D_passes 226 = .ok (.goto (-155), 3) := by decide +kernel
theorem d_D_passes_229 : decode b_D_passes 229 = .ok (.iconst 0, 1) := by decide +kernel
theorem d_D_passes_230 : decode b_D_passes 230 = .ok (.istore 5, 2) := by decide +kernel
theorem d_D_passes_232 : decode b_D_passes 232 = .ok (.iload 5, 2) := by decide +kernel
theorem d_D_passes_234 : decode b_D_passes 234 = .ok (.bipush 8, 2) := by decide +kernel
theorem d_D_passes_236 : decode b_D_passes 236 = .ok (.if_icmp .ge 31, 3) := by decide +kernel
theorem d_D_passes_239 : decode b_D_passes 239 = .ok (.aload_n 0, 1) := by decide +kernel
theorem d_D_passes_240 : decode b_D_passes 240 = .ok (.getfield 59, 3) := by decide +kernel
theorem d_D_passes_243 : decode b_D_passes 243 = .ok (.iload 5, 2) := by decide +kernel
theorem d_D_passes_245 : decode b_D_passes 245 = .ok (.aload_n 0, 1) := by decide +kernel
theorem d_D_passes_246 : decode b_D_passes 246 = .ok (.getfield 46, 3) := by decide +kernel
theorem d_D_passes_249 : decode b_D_passes 249 = .ok (.iload 5, 2) := by decide +kernel
theorem d_D_passes_251 : decode b_D_passes 251 = .ok (.iaload, 1) := by decide +kernel
theorem d_D_passes_252 : decode b_D_passes 252 = .ok (.aload_n 0, 1) := by decide +kernel
theorem d_D_passes_253 : decode b_D_passes 253 = .ok (.getfield 62, 3) := by decide +kernel
theorem d_D_passes_256 : decode b_D_passes 256 = .ok (.iload 5, 2) := by decide +kernel
theorem d_D_passes_258 : decode b_D_passes 258 = .ok (.iaload, 1) := by decide +kernel
theorem d_D_passes_259 : decode b_D_passes 259 = .ok (.iadd, 1) := by decide +kernel
theorem d_D_passes_260 : decode b_D_passes 260 = .ok (.iastore, 1) := by decide +kernel
theorem d_D_passes_261 : decode b_D_passes 261 = .ok (.iinc 5 1, 3) := by decide +kernel
theorem d_D_passes_264 : decode b_D_passes 264 = .ok (.goto (-32), 3) := by decide +kernel
theorem d_D_passes_267 : decode b_D_passes 267 = .ok (.aload_n 0, 1) := by decide +kernel
theorem d_D_passes_268 : decode b_D_passes 268 = .ok (.lload_n 1, 1) := by decide +kernel
theorem d_D_passes_269 : decode b_D_passes 269 = .ok (.putfield 142, 3) := by decide +kernel
theorem d_D_passes_272 : decode b_D_passes 272 = .ok (.ldc2_w 140, 3) := by decide +kernel
theorem d_D_passes_275 : decode b_D_passes 275 = .ok (.aload_n 0, 1) := by decide +kernel
theorem d_D_passes_276 : decode b_D_passes 276 = .ok (.getfield 129, 3) := by decide +kernel
theorem d_D_passes_279 : decode b_D_passes 279 = .ok (.lsub, 1) := by decide +kernel
theorem d_D_passes_280 : decode b_D_passes 280 = .ok (.lload_n 1, 1) := by decide +kernel
theorem d_D_passes_281 : decode b_D_passes 281 = .ok (.ldiv, 1) := by decide +kernel
theorem d_D_passes_282 : decode b_D_passes 282 = .ok (.lstore 5, 2) := by decide +kernel
theorem d_D_passes_284 : decode b_D_passes 284 = .ok (.iload_n 3, 1) := by decide +kernel
theorem d_D_passes_285 : decode b_D_passes 285 = .ok (.i2l, 1) := by decide +kernel
theorem d_D_passes_286 : decode b_D_passes 286 = .ok (.lconst 1, 1) := by decide +kernel
theorem d_D_passes_287 : decode b_D_passes 287 = .ok (.ladd, 1) := by decide +kernel
theorem d_D_passes_288 : decode b_D_passes 288 = .ok (.lload 5, 2) := by decide +kernel
theorem d_D_passes_290 : decode b_D_passes 290 = .ok (.lcmp, 1) := by decide +kernel
theorem d_D_passes_291 : decode b_D_passes 291 = .ok (.ifCond .ge 10, 3) := by decide +kernel
theorem d_D_passes_294 : decode b_D_passes 294 = .ok (.iload_n 3, 1) := by decide +kernel
theorem d_D_passes_295 : decode b_D_passes 295 = .ok (.i2l, 1) := by decide +kernel
theorem d_D_passes_296 : decode b_D_passes 296 = .ok (.lconst 1, 1) := by decide +kernel
theorem d_D_passes_297 : decode b_D_passes 297 = .ok (.ladd, 1) := by decide +kernel
theorem d_D_passes_298 : decode b_D_passes 298 = .ok (.goto 5, 3) := by decide +kernel
theorem d_D_passes_301 : decode b_D_passes 301 = .ok (.lload 5, 2) := by decide +kernel
theorem d_D_passes_303 : decode b_D_passes 303 = .ok (.lreturn, 1) := by decide +kernel
theorem d_D_leapBy_0 : decode b_D_leapBy 0 = .ok (.iconst 0, 1) := by decide +kernel
theorem d_D_leapBy_1 : decode b_D_leapBy 1 = .ok (.istore_n 3, 1) := by decide +kernel
theorem d_D_leapBy_2 : decode b_D_leapBy 2 = .ok (.iload_n 3, 1) := by decide +kernel
theorem d_D_leapBy_3 : decode b_D_leapBy 3 = .ok (.bipush 8, 2) := by decide +kernel
theorem d_D_leapBy_5 : decode b_D_leapBy 5 = .ok (.if_icmp .ge 35, 3) := by decide +kernel
theorem d_D_leapBy_8 : decode b_D_leapBy 8 = .ok (.aload_n 0, 1) := by decide +kernel
theorem d_D_leapBy_9 : decode b_D_leapBy 9 = .ok (.getfield 46, 3) := by decide +kernel
theorem d_D_leapBy_12 : decode b_D_leapBy 12 = .ok (.iload_n 3, 1) := by decide +kernel
theorem d_D_leapBy_13 : decode b_D_leapBy 13 = .ok (.dup2, 1) := by decide +kernel
theorem d_D_leapBy_14 : decode b_D_leapBy 14 = .ok (.iaload, 1) := by decide +kernel
theorem d_D_leapBy_15 : decode b_D_leapBy 15 = .ok (.lload_n 1, 1) := by decide +kernel
theorem d_D_leapBy_16 : decode b_D_leapBy 16 = .ok (.aload_n 0, 1) := by decide +kernel
theorem d_D_leapBy_17 : decode b_D_leapBy 17 = .ok (.getfield 59, 3) := by decide +kernel
theorem d_D_leapBy_20 : decode b_D_leapBy 20 = .ok (.iload_n 3, 1) := by decide +kernel
theorem d_D_leapBy_21 : decode b_D_leapBy 21 = .ok (.iaload, 1) := by decide +kernel
theorem d_D_leapBy_22 : decode b_D_leapBy 22 = .ok (.aload_n 0, 1) := by decide +kernel
theorem d_D_leapBy_23 : decode b_D_leapBy 23 = .ok (.getfield 46, 3) := by decide +kernel
theorem d_D_leapBy_26 : decode b_D_leapBy 26 = .ok (.iload_n 3, 1) := by decide +kernel
theorem d_D_leapBy_27 : decode b_D_leapBy 27 = .ok (.iaload, 1) := by decide +kernel
theorem d_D_leapBy_28 : decode b_D_leapBy 28 = .ok (.isub, 1) := by decide +kernel
theorem d_D_leapBy_29 : decode b_D_leapBy 29 = .ok (.i2l, 1) := by decide +kernel
theorem d_D_leapBy_30 : decode b_D_leapBy 30 = .ok (.lmul, 1) := by decide +kernel
theorem d_D_leapBy_31 : decode b_D_leapBy 31 = .ok (.l2i, 1) := by decide +kernel
theorem d_D_leapBy_32 : decode b_D_leapBy 32 = .ok (.iadd, 1) := by decide +kernel
theorem d_D_leapBy_33 : decode b_D_leapBy 33 = .ok (.iastore, 1) := by decide +kernel
theorem d_D_leapBy_34 : decode b_D_leapBy 34 = .ok (.iinc 3 1, 3) := by decide +kernel
theorem d_D_leapBy_37 : decode b_D_leapBy 37 = .ok (.goto (-35), 3) := by decide +kernel
theorem d_D_leapBy_40 : decode b_D_leapBy 40 = .ok (.aload_n 0, 1) := by decide +kernel
theorem d_D_leapBy_41 : decode b_D_leapBy 41 = .ok (.dup, 1) := by decide +kernel
theorem d_D_leapBy_42 : decode b_D_leapBy 42 = .ok (.getfield 129, 3) := by decide +kernel
theorem d_D_leapBy_45 : decode b_D_leapBy 45 = .ok (.lload_n 1, 1) := by decide +kernel
theorem d_D_leapBy_46 : decode b_D_leapBy 46 = .ok (.aload_n 0, 1) := by decide +kernel
theorem d_D_leapBy_47 : decode b_D_leapBy 47 = .ok (.getfield 142, 3) := by decide +kernel
theorem d_D_leapBy_50 : decode b_D_leapBy 50 = .ok (.lmul, 1) := by decide +kernel
theorem d_D_leapBy_51 : decode b_D_leapBy 51 = .ok (.ladd, 1) := by decide +kernel
theorem d_D_leapBy_52 : decode b_D_leapBy 52 = .ok (.putfield 129, 3) := by decide +kernel
theorem d_D_leapBy_55 : decode b_D_leapBy 55 = .ok (.return_, 1) := by decide +kernel
theorem d_D_step_0 : decode b_D_step 0 = .ok (.aload_n 0, 1) := by decide +kernel
theorem d_D_step_1 : decode b_D_step 1 = .ok (.getfield 126, 3) := by decide +kernel
theorem d_D_step_4 : decode b_D_step 4 = .ok (.istore_n 1, 1) := by decide +kernel
theorem d_D_step_5 : decode b_D_step 5 = .ok (.aload_n 0, 1) := by decide +kernel
theorem d_D_step_6 : decode b_D_step 6 = .ok (.getfield 31, 3) := by decide +kernel
theorem d_D_step_9 : decode b_D_step 9 = .ok (.iload_n 1, 1) := by decide +kernel
theorem d_D_step_10 : decode b_D_step 10 = .ok (.iaload, 1) := by decide +kernel
theorem d_D_step_11 : decode b_D_step 11 = .ok (.istore_n 2, 1) := by decide +kernel
theorem d_D_step_12 : decode b_D_step 12 = .ok (.aload_n 0, 1) := by decide +kernel
theorem d_D_step_13 : decode b_D_step 13 = .ok (.getfield 28, 3) := by decide +kernel
theorem d_D_step_16 : decode b_D_step 16 = .ok (.iload_n 1, 1) := by decide +kernel
theorem d_D_step_17 : decode b_D_step 17 = .ok (.iaload, 1) := by decide +kernel
theorem d_D_step_18 : decode b_D_step 18 = .ok (.iconst 2, 1) := by decide +kernel
theorem d_D_step_19 : decode b_D_step 19 = .ok (.if_icmp .eq 22, 3) := by decide +kernel
theorem d_D_step_22 : decode b_D_step 22 = .ok (.aload_n 0, 1) := by decide +kernel
theorem d_D_step_23 : decode b_D_step 23 = .ok (.getfield 28, 3) := by decide +kernel
theorem d_D_step_26 : decode b_D_step 26 = .ok (.iload_n 1, 1) := by decide +kernel
theorem d_D_step_27 : decode b_D_step 27 = .ok (.iaload, 1) := by decide +kernel
theorem d_D_step_28 : decode b_D_step 28 = .ok (.iconst 1, 1) := by decide +kernel
theorem d_D_step_29 : decode b_D_step 29 = .ok (.if_icmp .ne 16, 3) := by decide +kernel
theorem d_D_step_32 : decode b_D_step 32 = .ok (.aload_n 0, 1) := by decide +kernel
theorem d_D_step_33 : decode b_D_step 33 = .ok (.getfield 46, 3) := by decide +kernel
theorem d_D_step_36 : decode b_D_step 36 = .ok (.iload_n 2, 1) := by decide +kernel
theorem d_D_step_37 : decode b_D_step 37 = .ok (.iaload, 1) := by decide +kernel
theorem d_D_step_38 : decode b_D_step 38 = .ok (.ifCond .ne 7, 3) := by decide +kernel
theorem d_D_step_41 : decode b_D_step 41 = .ok (.iconst 1, 1) := by decide +kernel
theorem d_D_step_42 : decode b_D_step 42 = .ok (.goto 4, 3) := by decide +kernel
theorem d_D_step_45 : decode b_D_step 45 = .ok (.iconst 0, 1) := by decide +kernel
theorem d_D_step_46 : decode b_D_step 46 = .ok (.istore_n 3, 1) := by decide +kernel
theorem d_D_step_47 : decode b_D_step 47 = .ok (.iload_n 3, 1) := by decide +kernel
theorem d_D_step_48 : decode b_D_step 48 = .ok (.ifCond .ne 26, 3) := by decide +kernel
theorem d_D_step_51 : decode b_D_step 51 = .ok (.aload_n 0, 1) := by decide +kernel
theorem d_D_step_52 : decode b_D_step 52 = .ok (.getfield 46, 3) := by decide +kernel
theorem d_D_step_55 : decode b_D_step 55 = .ok (.iload_n 2, 1) := by decide +kernel
theorem d_D_step_56 : decode b_D_step 56 = .ok (.dup2, 1) := by decide +kernel
theorem d_D_step_57 : decode b_D_step 57 = .ok (.iaload, 1) := by decide +kernel
theorem d_D_step_58 : decode b_D_step 58 = .ok (.aload_n 0, 1) := by decide +kernel
theorem d_D_step_59 : decode b_D_step 59 = .ok (.getfield 28, 3) := by decide +kernel
theorem d_D_step_62 : decode b_D_step 62 = .ok (.iload_n 1, 1) := by decide +kernel
theorem d_D_step_63 : decode b_D_step 63 = .ok (.iaload, 1) := by decide +kernel
theorem d_D_step_64 : decode b_D_step 64 = .ok (.ifCond .ne 7, 3) := by decide +kernel
theorem d_D_step_67 : decode b_D_step 67 = .ok (.iconst 1, 1) := by decide +kernel
theorem d_D_step_68 : decode b_D_step 68 = .ok (.goto 4, 3) := by decide +kernel
theorem d_D_step_71 : decode b_D_step 71 = .ok (.iconst (-1), 1) := by decide +kernel
theorem d_D_step_72 : decode b_D_step 72 = .ok (.iadd, 1) := by decide +kernel
theorem d_D_step_73 : decode b_D_step 73 = .ok (.iastore, 1) := by decide +kernel
theorem d_D_step_74 : decode b_D_step 74 = .ok (.aload_n 0, 1) := by decide +kernel
theorem d_D_step_75 : decode b_D_step 75 = .ok (.iload_n 3, 1) := by decide +kernel
theorem d_D_step_76 : decode b_D_step 76 = .ok (.ifCond .eq 12, 3) := by decide +kernel
theorem d_D_step_79 : decode b_D_step 79 = .ok (.aload_n 0, 1) := by decide +kernel
theorem d_D_step_80 : decode b_D_step 80 = .ok (.getfield 34, 3) := by decide +kernel
theorem d_D_step_83 : decode b_D_step 83 = .ok (.iload_n 1, 1) := by decide +kernel
theorem d_D_step_84 : decode b_D_step 84 = .ok (.iaload, 1) := by decide +kernel
theorem d_D_step_85 : decode b_D_step 85 = .ok (.goto 6, 3) := by decide +kernel
theorem d_D_step_88 : decode b_D_step 88 = .ok (.iload_n 1, 1) := by decide +kernel
theorem d_D_step_89 : decode b_D_step 89 = .ok (.iconst 1, 1) := by decide +kernel
theorem d_D_step_90 : decode b_D_step 90 = .ok (.iadd, 1) := by decide +kernel
theorem d_D_step_91 : decode b_D_step 91 = .ok (.putfield 126, 3) := by decide +kernel
theorem d_D_step_94 : decode b_D_step 94 = .ok (.aload_n 0, 1) := by decide +kernel
theorem d_D_step_95 : decode b_D_step 95 = .ok (.dup, 1) := by decide +kernel
theorem d_D_step_96 : decode b_D_step 96 = .ok (.getfield 129, 3) := by decide +kernel
theorem d_D_step_99 : decode b_D_step 99 = .ok (.lconst 1, 1) := by decide +kernel
theorem d_D_step_100 : decode b_D_step 100 = .ok (.ladd, 1) := by decide +kernel
theorem d_D_step_101 : decode b_D_step 101 = .ok (.putfield 129, 3) := by decide +kernel
theorem d_D_step_104 : decode b_D_step 104 = .ok (.return_, 1) := by decide +kernel
theorem d_D_run_0 : decode b_D_run 0 = .ok (.aload_n 0, 1) := by decide +kernel
theorem d_D_run_1 : decode b_D_run 1 = .ok (.aload_n 0, 1) := by decide +kernel
theorem d_D_run_2 : decode b_D_run 2 = .ok (.getfield 109, 3) := by decide +kernel
theorem d_D_run_5 : decode b_D_run 5 = .ok (.ifCond .ne 7, 3) := by decide +kernel
theorem d_D_run_8 : decode b_D_run 8 = .ok (.iconst 1, 1) := by decide +kernel
theorem d_D_run_9 : decode b_D_run 9 = .ok (.goto 19, 3) := by decide +kernel
theorem d_D_run_12 : decode b_D_run 12 = .ok (.iload_n 1, 1) := by decide +kernel
theorem d_D_run_13 : decode b_D_run 13 = .ok (.ifCond .lt 10, 3) := by decide +kernel
theorem d_D_run_16 : decode b_D_run 16 = .ok (.iload_n 1, 1) := by decide +kernel
theorem d_D_run_17 : decode b_D_run 17 = .ok (.sipush 1000, 3) := by decide +kernel
theorem d_D_run_20 : decode b_D_run 20 = .ok (.if_icmp .le 7, 3) := by decide +kernel
theorem d_D_run_23 : decode b_D_run 23 = .ok (.iconst 2, 1) := by decide +kernel
theorem d_D_run_24 : decode b_D_run 24 = .ok (.goto 4, 3) := by decide +kernel
theorem d_D_run_27 : decode b_D_run 27 = .ok (.iconst 0, 1) := by decide +kernel
theorem d_D_run_28 : decode b_D_run 28 = .ok (.putfield 68, 3) := by decide +kernel
theorem d_D_run_31 : decode b_D_run 31 = .ok (.aload_n 0, 1) := by decide +kernel
theorem d_D_run_32 : decode b_D_run 32 = .ok (.getfield 68, 3) := by decide +kernel
theorem d_D_run_35 : decode b_D_run 35 = .ok (.ifCond .le 5, 3) := by decide +kernel
theorem d_D_run_38 : decode b_D_run 38 = .ok (.iconst 0, 1) := by decide +kernel
theorem d_D_run_39 : decode b_D_run 39 = .ok (.ireturn, 1) := by decide +kernel
theorem d_D_run_40 : decode b_D_run 40 = .ok (.iconst 0, 1) := by decide +kernel
theorem d_D_run_41 : decode b_D_run 41 = .ok (.istore_n 2, 1) := by decide +kernel
theorem d_D_run_42 : decode b_D_run 42 = .ok (.iload_n 2, 1) := by decide +kernel
theorem d_D_run_43 : decode b_D_run 43 = .ok (.iload_n 1, 1) := by decide +kernel
theorem d_D_run_44 : decode b_D_run 44 = .ok (.if_icmp .ge 78, 3) := by decide +kernel
theorem d_D_run_47 : decode b_D_run 47 = .ok (.aload_n 0, 1) := by decide +kernel
theorem d_D_run_48 : decode b_D_run 48 = .ok (.invokevirtual 168, 3) := by decide +kernel
theorem d_D_run_51 : decode b_D_run 51 = .ok (.ifCond .ne 71, 3) := by decide +kernel
theorem d_D_run_54 : decode b_D_run 54 = .ok (.aload_n 0, 1) := by decide +kernel
theorem d_D_run_55 : decode b_D_run 55 = .ok (.getfield 52, 3) := by decide +kernel
theorem d_D_run_58 : decode b_D_run 58 = .ok (.ifCond .eq 54, 3) := by decide +kernel
theorem d_D_run_61 : decode b_D_run 61 = .ok (.aload_n 0, 1) := by decide +kernel
theorem d_D_run_62 : decode b_D_run 62 = .ok (.invokevirtual 157, 3) := by decide +kernel
theorem d_D_run_65 : decode b_D_run 65 = .ok (.ifCond .eq 47, 3) := by decide +kernel
theorem d_D_run_68 : decode b_D_run 68 = .ok (.aload_n 0, 1) := by decide +kernel
theorem d_D_run_69 : decode b_D_run 69 = .ok (.invokevirtual 172, 3) := by decide +kernel
theorem d_D_run_72 : decode b_D_run 72 = .ok (.lstore_n 3, 1) := by decide +kernel
theorem d_D_run_73 : decode b_D_run 73 = .ok (.aload_n 0, 1) := by decide +kernel
theorem d_D_run_74 : decode b_D_run 74 = .ok (.lload_n 3, 1) := by decide +kernel
theorem d_D_run_75 : decode b_D_run 75 = .ok (.invokevirtual 176, 3) := by decide +kernel
theorem d_D_run_78 : decode b_D_run 78 = .ok (.aload_n 0, 1) := by decide +kernel
theorem d_D_run_79 : decode b_D_run 79 = .ok (.dup, 1) := by decide +kernel
theorem d_D_run_80 : decode b_D_run 80 = .ok (.getfield 133, 3) := by decide +kernel
theorem d_D_run_83 : decode b_D_run 83 = .ok (.lconst 1, 1) := by decide +kernel
theorem d_D_run_84 : decode b_D_run 84 = .ok (.ladd, 1) := by decide +kernel
theorem d_D_run_85 : decode b_D_run 85 = .ok (.putfield 133, 3) := by decide +kernel
theorem d_D_run_88 : decode b_D_run 88 = .ok (.aload_n 0, 1) := by decide +kernel
theorem d_D_run_89 : decode b_D_run 89 = .ok (.aload_n 0, 1) := by decide +kernel
theorem d_D_run_90 : decode b_D_run 90 = .ok (.getfield 126, 3) := by decide +kernel
theorem d_D_run_93 : decode b_D_run 93 = .ok (.putfield 180, 3) := by decide +kernel
theorem d_D_run_96 : decode b_D_run 96 = .ok (.aload_n 0, 1) := by decide +kernel
theorem d_D_run_97 : decode b_D_run 97 = .ok (.lload_n 3, 1) := by decide +kernel
theorem d_D_run_98 : decode b_D_run 98 = .ok (.putfield 183, 3) := by decide +kernel
theorem d_D_run_101 : decode b_D_run 101 = .ok (.aload_n 0, 1) := by decide +kernel
theorem d_D_run_102 : decode b_D_run 102 = .ok (.aload_n 0, 1) := by decide +kernel
theorem d_D_run_103 : decode b_D_run 103 = .ok (.getfield 142, 3) := by decide +kernel
theorem d_D_run_106 : decode b_D_run 106 = .ok (.putfield 186, 3) := by decide +kernel
theorem d_D_run_109 : decode b_D_run 109 = .ok (.goto 7, 3) := by decide +kernel
theorem d_D_run_112 : decode b_D_run 112 = .ok (.aload_n 0, 1) := by decide +kernel
theorem d_D_run_113 : decode b_D_run 113 = .ok (.invokevirtual 189, 3) := by decide +kernel
theorem d_D_run_116 : decode b_D_run 116 = .ok (.iinc 2 1, 3) := by decide +kernel
theorem d_D_run_119 : decode b_D_run 119 = .ok (.goto (-77), 3) := by decide +kernel
theorem d_D_run_122 : decode b_D_run 122 = .ok (.aload_n 0, 1) := by decide +kernel
theorem d_D_run_123 : decode b_D_run 123 = .ok (.invokevirtual 168, 3) := by decide +kernel
theorem d_D_run_126 : decode b_D_run 126 = .ok (.ireturn, 1) := by decide +kernel
theorem d_D_plain_0 : decode b_D_plain 0 = .ok (.aload_n 0, 1) := by decide +kernel
theorem d_D_plain_1 : decode b_D_plain 1 = .ok (.aload_n 0, 1) := by decide +kernel
theorem d_D_plain_2 : decode b_D_plain 2 = .ok (.getfield 109, 3) := by decide +kernel
theorem d_D_plain_5 : decode b_D_plain 5 = .ok (.ifCond .ne 7, 3) := by decide +kernel
theorem d_D_plain_8 : decode b_D_plain 8 = .ok (.iconst 1, 1) := by decide +kernel
theorem d_D_plain_9 : decode b_D_plain 9 = .ok (.goto 19, 3) := by decide +kernel
theorem d_D_plain_12 : decode b_D_plain 12 = .ok (.iload_n 1, 1) := by decide +kernel
theorem d_D_plain_13 : decode b_D_plain 13 = .ok (.ifCond .lt 10, 3) := by decide +kernel
theorem d_D_plain_16 : decode b_D_plain 16 = .ok (.iload_n 1, 1) := by decide +kernel
theorem d_D_plain_17 : decode b_D_plain 17 = .ok (.sipush 1000, 3) := by decide +kernel
theorem d_D_plain_20 : decode b_D_plain 20 = .ok (.if_icmp .le 7, 3) := by decide +kernel
theorem d_D_plain_23 : decode b_D_plain 23 = .ok (.iconst 2, 1) := by decide +kernel
theorem d_D_plain_24 : decode b_D_plain 24 = .ok (.goto 4, 3) := by decide +kernel
theorem d_D_plain_27 : decode b_D_plain 27 = .ok (.iconst 0, 1) := by decide +kernel
theorem d_D_plain_28 : decode b_D_plain 28 = .ok (.putfield 68, 3) := by decide +kernel
theorem d_D_plain_31 : decode b_D_plain 31 = .ok (.iconst 0, 1) := by decide +kernel
theorem d_D_plain_32 : decode b_D_plain 32 = .ok (.istore_n 2, 1) := by decide +kernel
theorem d_D_plain_33 : decode b_D_plain 33 = .ok (.aload_n 0, 1) := by decide +kernel
theorem d_D_plain_34 : decode b_D_plain 34 = .ok (.getfield 68, 3) := by decide +kernel
theorem d_D_plain_37 : decode b_D_plain 37 = .ok (.ifCond .ne 32, 3) := by decide +kernel
theorem d_D_plain_40 : decode b_D_plain 40 = .ok (.iload_n 2, 1) := by decide +kernel
theorem d_D_plain_41 : decode b_D_plain 41 = .ok (.iload_n 1, 1) := by decide +kernel
theorem d_D_plain_42 : decode b_D_plain 42 = .ok (.if_icmp .ge 27, 3) := by decide +kernel
theorem d_D_plain_45 : decode b_D_plain 45 = .ok (.aload_n 0, 1) := by decide +kernel
theorem d_D_plain_46 : decode b_D_plain 46 = .ok (.invokevirtual 136, 3) := by decide +kernel
theorem d_D_plain_49 : decode b_D_plain 49 = .ok (.ifCond .ne 20, 3) := by decide +kernel
theorem d_D_plain_52 : decode b_D_plain 52 = .ok (.aload_n 0, 1) := by decide +kernel
theorem d_D_plain_53 : decode b_D_plain 53 = .ok (.invokevirtual 154, 3) := by decide +kernel
theorem d_D_plain_56 : decode b_D_plain 56 = .ok (.ifCond .ne 13, 3) := by decide +kernel
theorem d_D_plain_59 : decode b_D_plain 59 = .ok (.aload_n 0, 1) := by decide +kernel
theorem d_D_plain_60 : decode b_D_plain 60 = .ok (.invokevirtual 189, 3) := by decide +kernel
theorem d_D_plain_63 : decode b_D_plain 63 = .ok (.iinc 2 1, 3) := by decide +kernel
theorem d_D_plain_66 : decode b_D_plain 66 = .ok (.goto (-33), 3) := by decide +kernel
theorem d_D_plain_69 : decode b_D_plain 69 = .ok (.iload_n 2, 1) := by decide +kernel
theorem d_D_plain_70 : decode b_D_plain 70 = .ok (.ireturn, 1) := by decide +kernel
theorem d_D_seek_0 : decode b_D_seek 0 = .ok (.aload_n 0, 1) := by decide +kernel
theorem d_D_seek_1 : decode b_D_seek 1 = .ok (.aload_n 0, 1) := by decide +kernel
theorem d_D_seek_2 : decode b_D_seek 2 = .ok (.getfield 109, 3) := by decide +kernel
theorem d_D_seek_5 : decode b_D_seek 5 = .ok (.ifCond .ne 7, 3) := by decide +kernel
theorem d_D_seek_8 : decode b_D_seek 8 = .ok (.iconst 1, 1) := by decide +kernel
theorem d_D_seek_9 : decode b_D_seek 9 = .ok (.goto 22, 3) := by decide +kernel
theorem d_D_seek_12 : decode b_D_seek 12 = .ok (.lload_n 1, 1) := by decide +kernel
theorem d_D_seek_13 : decode b_D_seek 13 = .ok (.lconst 0, 1) := by decide +kernel
theorem d_D_seek_14 : decode b_D_seek 14 = .ok (.lcmp, 1) := by decide +kernel
theorem d_D_seek_15 : decode b_D_seek 15 = .ok (.ifCond .lt 11, 3) := by decide +kernel
theorem d_D_seek_18 : decode b_D_seek 18 = .ok (.lload_n 1, 1) := by decide +kernel
theorem d_D_seek_19 : decode b_D_seek 19 = .ok (.ldc2_w 140, 3) := by decide +kernel
theorem d_D_seek_22 : decode b_D_seek 22 = .ok (.lcmp, 1) := by decide +kernel
theorem d_D_seek_23 : decode b_D_seek 23 = .ok (.ifCond .le 7, 3) := by decide +kernel
theorem d_D_seek_26 : decode b_D_seek 26 = .ok (.iconst 2, 1) := by decide +kernel
theorem d_D_seek_27 : decode b_D_seek 27 = .ok (.goto 4, 3) := by decide +kernel
theorem d_D_seek_30 : decode b_D_seek 30 = .ok (.iconst 0, 1) := by decide +kernel
theorem d_D_seek_31 : decode b_D_seek 31 = .ok (.putfield 68, 3) := by decide +kernel
theorem d_D_seek_34 : decode b_D_seek 34 = .ok (.aload_n 0, 1) := by decide +kernel
theorem d_D_seek_35 : decode b_D_seek 35 = .ok (.getfield 68, 3) := by decide +kernel
theorem d_D_seek_38 : decode b_D_seek 38 = .ok (.ifCond .le 5, 3) := by decide +kernel
theorem d_D_seek_41 : decode b_D_seek 41 = .ok (.iconst 0, 1) := by decide +kernel
theorem d_D_seek_42 : decode b_D_seek 42 = .ok (.ireturn, 1) := by decide +kernel
theorem d_D_seek_43 : decode b_D_seek 43 = .ok (.aload_n 0, 1) := by decide +kernel
theorem d_D_seek_44 : decode b_D_seek 44 = .ok (.getfield 126, 3) := by decide +kernel
theorem d_D_seek_47 : decode b_D_seek 47 = .ok (.istore_n 3, 1) := by decide +kernel
theorem d_D_seek_48 : decode b_D_seek 48 = .ok (.aload_n 0, 1) := by decide +kernel
theorem d_D_seek_49 : decode b_D_seek 49 = .ok (.getfield 129, 3) := by decide +kernel
theorem d_D_seek_52 : decode b_D_seek 52 = .ok (.lstore 4, 2) := by decide +kernel
theorem d_D_seek_54 : decode b_D_seek 54 = .ok (.iconst 0, 1) := by decide +kernel
theorem d_D_seek_55 : decode b_D_seek 55 = .ok (.istore 6, 2) := by decide +kernel
theorem d_D_seek_57 : decode b_D_seek 57 = .ok (.iload 6, 2) := by decide +kernel
theorem d_D_seek_59 : decode b_D_seek 59 = .ok (.bipush 8, 2) := by decide +kernel
theorem d_D_seek_61 : decode b_D_seek 61 = .ok (.if_icmp .ge 37, 3) := by decide +kernel
theorem d_D_seek_64 : decode b_D_seek 64 = .ok (.aload_n 0, 1) := by decide +kernel
theorem d_D_seek_65 : decode b_D_seek 65 = .ok (.getfield 65, 3) := by decide +kernel
theorem d_D_seek_68 : decode b_D_seek 68 = .ok (.iload 6, 2) := by decide +kernel
theorem d_D_seek_70 : decode b_D_seek 70 = .ok (.aload_n 0, 1) := by decide +kernel
theorem d_D_seek_71 : decode b_D_seek 71 = .ok (.getfield 46, 3) := by decide +kernel
theorem d_D_seek_74 : decode b_D_seek 74 = .ok (.iload 6, 2) := by decide +kernel
theorem d_D_seek_76 : decode b_D_seek 76 = .ok (.iaload, 1) := by decide +kernel
theorem d_D_seek_77 : decode b_D_seek 77 = .ok (.iastore, 1) := by decide +kernel
theorem d_D_seek_78 : decode b_D_seek 78 = .ok (.aload_n 0, 1) := by decide +kernel
theorem d_D_seek_79 : decode b_D_seek 79 = .ok (.getfield 46, 3) := by decide +kernel
theorem d_D_seek_82 : decode b_D_seek 82 = .ok (.iload 6, 2) := by decide +kernel
theorem d_D_seek_84 : decode b_D_seek 84 = .ok (.aload_n 0, 1) := by decide +kernel
theorem d_D_seek_85 : decode b_D_seek 85 = .ok (.getfield 49, 3) := by decide +kernel
theorem d_D_seek_88 : decode b_D_seek 88 = .ok (.iload 6, 2) := by decide +kernel
theorem d_D_seek_90 : decode b_D_seek 90 = .ok (.iaload, 1) := by decide +kernel
theorem d_D_seek_91 : decode b_D_seek 91 = .ok (.iastore, 1) := by decide +kernel
theorem d_D_seek_92 : decode b_D_seek 92 = .ok (.iinc 6 1, 3) := by decide +kernel
theorem d_D_seek_95 : decode b_D_seek 95 = .ok (.goto (-38), 3) := by decide +kernel
theorem d_D_seek_98 : decode b_D_seek 98 = .ok (.aload_n 0, 1) := by decide +kernel
theorem d_D_seek_99 : decode b_D_seek 99 = .ok (.iconst 0, 1) := by decide +kernel
theorem d_D_seek_100 : decode b_D_seek 100 = .ok (.putfield 126, 3) := by decide +kernel
theorem d_D_seek_103 : decode b_D_seek 103 = .ok (.aload_n 0, 1) := by decide +kernel
theorem d_D_seek_104 : decode b_D_seek 104 = .ok (.lconst 0, 1) := by decide +kernel
theorem d_D_seek_105 : decode b_D_seek 105 = .ok (.putfield 129, 3) := by decide +kernel
theorem d_D_seek_108 : decode b_D_seek 108 = .ok (.sipush 2000, 3) := by decide +kernel
theorem d_D_seek_111 : decode b_D_seek 111 = .ok (.istore 6, 2) := by decide +kernel
theorem d_D_seek_113 : decode b_D_seek 113 = .ok (.aload_n 0, 1) := by decide +kernel
theorem d_D_seek_114 : decode b_D_seek 114 = .ok (.getfield 129, 3) := by decide +kernel
theorem d_D_seek_117 : decode b_D_seek 117 = .ok (.lload_n 1, 1) := by decide +kernel
theorem d_D_seek_118 : decode b_D_seek 118 = .ok (.lcmp, 1) := by decide +kernel
theorem d_D_seek_119 : decode b_D_seek 119 = .ok (.ifCond .ge 106, 3) := by decide +kernel
theorem d_D_seek_122 : decode b_D_seek 122 = .ok (.aload_n 0, 1) := by decide +kernel
theorem d_D_seek_123 : decode b_D_seek 123 = .ok (.invokevirtual 136, 3) := by decide +kernel
theorem d_D_seek_126 : decode b_D_seek 126 = .ok (.ifCond .ne 99, 3) := by decide +kernel
theorem d_D_seek_129 : decode b_D_seek 129 = .ok (.aload_n 0, 1) := by decide +kernel
theorem d_D_seek_130 : decode b_D_seek 130 = .ok (.invokevirtual 154, 3) := by decide +kernel
theorem d_D_seek_133 : decode b_D_seek 133 = .ok (.ifCond .ne 92, 3) := by decide +kernel
theorem d_D_seek_136 : decode b_D_seek 136 = .ok (.iload 6, 2) := by decide +kernel
theorem d_D_seek_138 : decode b_D_seek 138 = .ok (.ifCond .le 87, 3) := by decide +kernel
theorem d_D_seek_141 : decode b_D_seek 141 = .ok (.lconst 0, 1) := by decide +kernel
theorem d_D_seek_142 : decode b_D_seek 142 = .ok (.lstore 7, 2) := by decide +kernel
theorem d_D_seek_144 : decode b_D_seek 144 = .ok (.aload_n 0, 1) := by decide +kernel
theorem d_D_seek_145 : decode b_D_seek 145 = .ok (.invokevirtual 157, 3) := by decide +kernel
theorem d_D_seek_148 : decode b_D_seek 148 = .ok (.ifCond .eq 51, 3) := by decide +kernel
theorem d_D_seek_151 : decode b_D_seek 151 = .ok (.lload_n 1, 1) := by decide +kernel
theorem d_D_seek_152 : decode b_D_seek 152 = .ok (.aload_n 0, 1) := by decide +kernel
theorem d_D_seek_153 : decode b_D_seek 153 = .ok (.getfield 129, 3) := by decide +kernel
theorem d_D_seek_156 : decode b_D_seek 156 = .ok (.lsub, 1) := by decide +kernel
theorem d_D_seek_157 : decode b_D_seek 157 = .ok (.aload_n 0, 1) := by decide +kernel
theorem d_D_seek_158 : decode b_D_seek 158 = .ok (.getfield 142, 3) := by decide +kernel
theorem d_D_seek_161 : decode b_D_seek 161 = .ok (.ldiv, 1) := by decide +kernel
theorem d_D_seek_162 : decode b_D_seek 162 = .ok (.lstore 9, 2) := by decide +kernel
theorem d_D_seek_164 : decode b_D_seek 164 = .ok (.aload_n 0, 1) := by decide +kernel
theorem d_D_seek_165 : decode b_D_seek 165 = .ok (.invokevirtual 160, 3) := by decide +kernel
theorem d_D_seek_168 : decode b_D_seek 168 = .ok (.ifCond .eq 10, 3) := by decide +kernel
theorem d_D_seek_171 : decode b_D_seek 171 = .ok (.aload_n 0, 1) := by decide +kernel
theorem d_D_seek_172 : decode b_D_seek 172 = .ok (.invokevirtual 172, 3) := by decide +kernel
theorem d_D_seek_175 : decode b_D_seek 175 = .ok (.goto 5, 3) := by decide +kernel
theorem d_D_seek_178 : decode b_D_seek 178 = .ok (.lload 9, 2) := by decide +kernel
theorem d_D_seek_180 : decode b_D_seek 180 = .ok (.lstore 7, 2) := by decide +kernel
theorem d_D_seek_182 : decode b_D_seek 182 = .ok (.lload 7, 2) := by decide +kernel
theorem d_D_seek_184 : decode b_D_seek 184 = .ok (.lload 9, 2) := by decide +kernel
theorem d_D_seek_186 : decode b_D_seek 186 = .ok (.lcmp, 1) := by decide +kernel
theorem d_D_seek_187 : decode b_D_seek 187 = .ok (.ifCond .ge 8, 3) := by decide +kernel
theorem d_D_seek_190 : decode b_D_seek 190 = .ok (.lload 7, 2) := by decide +kernel
theorem d_D_seek_192 : decode b_D_seek 192 = .ok (.goto 5, 3) := by decide +kernel
theorem d_D_seek_195 : decode b_D_seek 195 = .ok (.lload 9, 2) := by decide +kernel
theorem d_D_seek_197 : decode b_D_seek 197 = .ok (.lstore 7, 2) := by decide +kernel
theorem d_D_seek_199 : decode b_D_seek 199 = .ok (.lload 7, 2) := by decide +kernel
theorem d_D_seek_201 : decode b_D_seek 201 = .ok (.lconst 0, 1) := by decide +kernel
theorem d_D_seek_202 : decode b_D_seek 202 = .ok (.lcmp, 1) := by decide +kernel
theorem d_D_seek_203 : decode b_D_seek 203 = .ok (.ifCond .le 12, 3) := by decide +kernel
theorem d_D_seek_206 : decode b_D_seek 206 = .ok (.aload_n 0, 1) := by decide +kernel
theorem d_D_seek_207 : decode b_D_seek 207 = .ok (.lload 7, 2) := by decide +kernel
theorem d_D_seek_209 : decode b_D_seek 209 = .ok (.invokevirtual 176, 3) := by decide +kernel
theorem d_D_seek_212 : decode b_D_seek 212 = .ok (.goto 7, 3) := by decide +kernel
theorem d_D_seek_215 : decode b_D_seek 215 = .ok (.aload_n 0, 1) := by decide +kernel
theorem d_D_seek_216 : decode b_D_seek 216 = .ok (.invokevirtual 189, 3) := by decide +kernel
theorem d_D_seek_219 : decode b_D_seek 219 = .ok (.iinc 6 (-1), 3) := by decide +kernel
theorem d_D_seek_222 : decode b_D_seek 222 = .ok (.goto (-109), 3) := by decide +kernel
theorem d_D_seek_225 : decode b_D_seek 225 = .ok (.aload_n 0, 1) := by decide +kernel
theorem d_D_seek_226 : decode b_D_seek 226 = .ok (.getfield 129, 3) := by decide +kernel
theorem d_D_seek_229 : decode b_D_seek 229 = .ok (.lload_n 1, 1) := by decide +kernel
theorem d_D_seek_230 : decode b_D_seek 230 = .ok (.lcmp, 1) := by decide +kernel
theorem d_D_seek_231 : decode b_D_seek 231 = .ok (.ifCond .ne 5, 3) := by decide +kernel
theorem d_D_seek_234 : decode b_D_seek 234 = .ok (.iconst 1, 1) := by decide +kernel
theorem d_D_seek_235 : decode b_D_seek 235 = .ok (.ireturn, 1) := by decide +kernel
theorem d_D_seek_236 : decode b_D_seek 236 = .ok (.aload_n 0, 1) := by decide +kernel
theorem d_D_seek_237 : decode b_D_seek 237 = .ok (.invokevirtual 136, 3) := by decide +kernel
theorem d_D_seek_240 : decode b_D_seek 240 = .ok (.ifCond .eq 5, 3) := by decide +kernel
theorem d_D_seek_243 : decode b_D_seek 243 = .ok (.iconst 0, 1) := by decide +kernel
theorem d_D_seek_244 : decode b_D_seek 244 = .ok (.ireturn, 1) := by decide +kernel
theorem d_D_seek_245 : decode b_D_seek 245 = .ok (.aload_n 0, 1) := by decide +kernel
theorem d_D_seek_246 : decode b_D_seek 246 = .ok (.invokevirtual 154, 3) := by decide +kernel
theorem d_D_seek_249 : decode b_D_seek 249 = .ok (.ifCond .eq 5, 3) := by decide +kernel
theorem d_D_seek_252 : decode b_D_seek 252 = .ok (.iconst 2, 1) := by decide +kernel
theorem d_D_seek_253 : decode b_D_seek 253 = .ok (.ireturn, 1) := by decide +kernel
theorem d_D_seek_254 : decode b_D_seek 254 = .ok (.aload_n 0, 1) := by decide +kernel
theorem d_D_seek_255 : decode b_D_seek 255 = .ok (.iconst 3, 1) := by decide +kernel
theorem d_D_seek_256 : decode b_D_seek 256 = .ok (.putfield 68, 3) := by decide +kernel
theorem d_D_seek_259 : decode b_D_seek 259 = .ok (.aload_n 0, 1) := by decide +kernel
theorem d_D_seek_260 : decode b_D_seek 260 = .ok (.iload_n 3, 1) := by decide +kernel
theorem d_D_seek_261 : decode b_D_seek 261 = .ok (.putfield 126, 3) := by decide +kernel
theorem d_D_seek_264 : decode b_D_seek 264 = .ok (.aload_n 0, 1) := by decide +kernel
theorem d_D_seek_265 : decode b_D_seek 265 = .ok (.lload 4, 2) := by decide +kernel
theorem d_D_seek_267 : decode b_D_seek 267 = .ok (.putfield 129, 3) := by decide +kernel
theorem d_D_seek_270 : decode b_D_seek 270 = .ok (.iconst 0, 1) := by decide +kernel
theorem d_D_seek_271 : decode b_D_seek 271 = .ok (.istore 7, 2) := by decide +kernel
theorem d_D_seek_273 : decode b_D_seek 273 = .ok (.iload 7, 2) := by decide +kernel
theorem d_D_seek_275 : decode b_D_seek 275 = .ok (.bipush 8, 2) := by decide +kernel
theorem d_D_seek_277 : decode b_D_seek 277 = .ok (.if_icmp .ge 23, 3) := by decide +kernel
theorem d_D_seek_280 : decode b_D_seek 280 = .ok (.aload_n 0, 1) := by decide +kernel
theorem d_D_seek_281 : decode b_D_seek 281 = .ok (.getfield 46, 3) := by decide +kernel
theorem d_D_seek_284 : decode b_D_seek 284 = .ok (.iload 7, 2) := by decide +kernel
theorem d_D_seek_286 : decode b_D_seek 286 = .ok (.aload_n 0, 1) := by decide +kernel
theorem d_D_seek_287 : decode b_D_seek 287 = .ok (.getfield 65, 3) := by decide +kernel
theorem d_D_seek_290 : decode b_D_seek 290 = .ok (.iload 7, 2) := by decide +kernel
theorem d_D_seek_292 : decode b_D_seek 292 = .ok (.iaload, 1) := by decide +kernel
theorem d_D_seek_293 : decode b_D_seek 293 = .ok (.iastore, 1) := by decide +kernel
theorem d_D_seek_294 : decode b_D_seek 294 = .ok (.iinc 7 1, 3) := by decide +kernel
theorem d_D_seek_297 : decode b_D_seek 297 = .ok (.goto (-24), 3) := by decide +kernel
theorem d_D_seek_300 : decode b_D_seek 300 = .ok (.iconst 0, 1) := by decide +kernel
theorem d_D_seek_301 : decode b_D_seek 301 = .ok (.ireturn, 1) := by decide +kernel
theorem d_D_state_0 : decode b_D_state 0 = .ok (.aload_n 0, 1) := by decide +kernel
theorem d_D_state_1 : decode b_D_state 1 = .ok (.iconst 0, 1) := by decide +kernel
theorem d_D_state_2 : decode b_D_state 2 = .ok (.putfield 68, 3) := by decide +kernel
theorem d_D_state_5 : decode b_D_state 5 = .ok (.aload_n 0, 1) := by decide +kernel
theorem d_D_state_6 : decode b_D_state 6 = .ok (.getfield 109, 3) := by decide +kernel
theorem d_D_state_9 : decode b_D_state 9 = .ok (.ifCond .ne 7, 3) := by decide +kernel
theorem d_D_state_12 : decode b_D_state 12 = .ok (.iconst 1, 1) := by decide +kernel
theorem d_D_state_13 : decode b_D_state 13 = .ok (.goto 7, 3) := by decide +kernel
theorem d_D_state_16 : decode b_D_state 16 = .ok (.aload_n 0, 1) := by decide +kernel
theorem d_D_state_17 : decode b_D_state 17 = .ok (.invokevirtual 168, 3) := by decide +kernel
theorem d_D_state_20 : decode b_D_state 20 = .ok (.ireturn, 1) := by decide +kernel
theorem d_D_at_0 : decode b_D_at 0 = .ok (.aload_n 0, 1) := by decide +kernel
theorem d_D_at_1 : decode b_D_at 1 = .ok (.iconst 0, 1) := by decide +kernel
theorem d_D_at_2 : decode b_D_at 2 = .ok (.putfield 68, 3) := by decide +kernel
theorem d_D_at_5 : decode b_D_at 5 = .ok (.aload_n 0, 1) := by decide +kernel
theorem d_D_at_6 : decode b_D_at 6 = .ok (.getfield 126, 3) := by decide +kernel
theorem d_D_at_9 : decode b_D_at 9 = .ok (.ireturn, 1) := by decide +kernel
theorem d_D_steps_0 : decode b_D_steps 0 = .ok (.aload_n 0, 1) := by decide +kernel
theorem d_D_steps_1 : decode b_D_steps 1 = .ok (.iconst 0, 1) := by decide +kernel
theorem d_D_steps_2 : decode b_D_steps 2 = .ok (.putfield 68, 3) := by decide +kernel
theorem d_D_steps_5 : decode b_D_steps 5 = .ok (.aload_n 0, 1) := by decide +kernel
theorem d_D_steps_6 : decode b_D_steps 6 = .ok (.getfield 129, 3) := by decide +kernel
theorem d_D_steps_9 : decode b_D_steps 9 = .ok (.lreturn, 1) := by decide +kernel
theorem d_D_counter_0 : decode b_D_counter 0 = .ok (.aload_n 0, 1) := by decide +kernel
theorem d_D_counter_1 : decode b_D_counter 1 = .ok (.iconst 0, 1) := by decide +kernel
theorem d_D_counter_2 : decode b_D_counter 2 = .ok (.putfield 68, 3) := by decide +kernel
theorem d_D_counter_5 : decode b_D_counter 5 = .ok (.iload_n 1, 1) := by decide +kernel
theorem d_D_counter_6 : decode b_D_counter 6 = .ok (.ifCond .lt 9, 3) := by decide +kernel
theorem d_D_counter_9 : decode b_D_counter 9 = .ok (.iload_n 1, 1) := by decide +kernel
theorem d_D_counter_10 : decode b_D_counter 10 = .ok (.bipush 7, 2) := by decide +kernel
theorem d_D_counter_12 : decode b_D_counter 12 = .ok (.if_icmp .le 7, 3) := by decide +kernel
theorem d_D_counter_15 : decode b_D_counter 15 = .ok (.iconst (-1), 1) := by decide +kernel
theorem d_D_counter_16 : decode b_D_counter 16 = .ok (.goto 9, 3) := by decide +kernel
theorem d_D_counter_19 : decode b_D_counter 19 = .ok (.aload_n 0, 1) := by decide +kernel
theorem d_D_counter_20 : decode b_D_counter 20 = .ok (.getfield 46, 3) := by decide +kernel
theorem d_D_counter_23 : decode b_D_counter 23 = .ok (.iload_n 1, 1) := by decide +kernel
theorem d_D_counter_24 : decode b_D_counter 24 = .ok (.iaload, 1) := by decide +kernel
theorem d_D_counter_25 : decode b_D_counter 25 = .ok (.ireturn, 1) := by decide +kernel
theorem d_D_change_0 : decode b_D_change 0 = .ok (.aload_n 0, 1) := by decide +kernel
theorem d_D_change_1 : decode b_D_change 1 = .ok (.iload_n 1, 1) := by decide +kernel
theorem d_D_change_2 : decode b_D_change 2 = .ok (.invokevirtual 122, 3) := by decide +kernel
theorem d_D_change_5 : decode b_D_change 5 = .ok (.istore_n 3, 1) := by decide +kernel
theorem d_D_change_6 : decode b_D_change 6 = .ok (.aload_n 0, 1) := by decide +kernel
theorem d_D_change_7 : decode b_D_change 7 = .ok (.iload_n 3, 1) := by decide +kernel
theorem d_D_change_8 : decode b_D_change 8 = .ok (.ifCond .lt 13, 3) := by decide +kernel
theorem d_D_change_11 : decode b_D_change 11 = .ok (.iload_n 2, 1) := by decide +kernel
theorem d_D_change_12 : decode b_D_change 12 = .ok (.ifCond .lt 9, 3) := by decide +kernel
theorem d_D_change_15 : decode b_D_change 15 = .ok (.iload_n 2, 1) := by decide +kernel
theorem d_D_change_16 : decode b_D_change 16 = .ok (.bipush 7, 2) := by decide +kernel
theorem d_D_change_18 : decode b_D_change 18 = .ok (.if_icmp .le 7, 3) := by decide +kernel
theorem d_D_change_21 : decode b_D_change 21 = .ok (.iconst 1, 1) := by decide +kernel
theorem d_D_change_22 : decode b_D_change 22 = .ok (.goto 4, 3) := by decide +kernel
theorem d_D_change_25 : decode b_D_change 25 = .ok (.iconst 0, 1) := by decide +kernel
theorem d_D_change_26 : decode b_D_change 26 = .ok (.putfield 68, 3) := by decide +kernel
theorem d_D_change_29 : decode b_D_change 29 = .ok (.aload_n 0, 1) := by decide +kernel
theorem d_D_change_30 : decode b_D_change 30 = .ok (.getfield 68, 3) := by decide +kernel
theorem d_D_change_33 : decode b_D_change 33 = .ok (.ifCond .le 5, 3) := by decide +kernel
theorem d_D_change_36 : decode b_D_change 36 = .ok (.iconst 0, 1) := by decide +kernel
theorem d_D_change_37 : decode b_D_change 37 = .ok (.ireturn, 1) := by decide +kernel
theorem d_D_change_38 : decode b_D_change 38 = .ok (.iconst 0, 1) := by decide +kernel
theorem d_D_change_39 : decode b_D_change 39 = .ok (.istore 4, 2) := by decide +kernel
theorem d_D_change_41 : decode b_D_change 41 = .ok (.iload 4, 2) := by decide +kernel
theorem d_D_change_43 : decode b_D_change 43 = .ok (.bipush 8, 2) := by decide +kernel
theorem d_D_change_45 : decode b_D_change 45 = .ok (.if_icmp .ge 23, 3) := by decide +kernel
theorem d_D_change_48 : decode b_D_change 48 = .ok (.aload_n 0, 1) := by decide +kernel
theorem d_D_change_49 : decode b_D_change 49 = .ok (.getfield 56, 3) := by decide +kernel
theorem d_D_change_52 : decode b_D_change 52 = .ok (.iload 4, 2) := by decide +kernel
theorem d_D_change_54 : decode b_D_change 54 = .ok (.aload_n 0, 1) := by decide +kernel
theorem d_D_change_55 : decode b_D_change 55 = .ok (.getfield 46, 3) := by decide +kernel
theorem d_D_change_58 : decode b_D_change 58 = .ok (.iload 4, 2) := by decide +kernel
theorem d_D_change_60 : decode b_D_change 60 = .ok (.iaload, 1) := by decide +kernel
theorem d_D_change_61 : decode b_D_change 61 = .ok (.iastore, 1) := by decide +kernel
theorem d_D_change_62 : decode b_D_change 62 = .ok (.iinc 4 1, 3) := by decide +kernel
theorem d_D_change_65 : decode b_D_change 65 = .ok (.goto (-24), 3) := by decide +kernel
theorem d_D_change_68 : decode b_D_change 68 = .ok (.aload_n 0, 1) := by decide +kernel
theorem d_D_change_69 : decode b_D_change 69 = .ok (.aload_n 0, 1) := by decide +kernel
theorem d_D_change_70 : decode b_D_change 70 = .ok (.iload_n 3, 1) := by decide +kernel
theorem d_D_change_71 : decode b_D_change 71 = .ok (.lconst 0, 1) := by decide +kernel
theorem d_D_change_72 : decode b_D_change 72 = .ok (.invokevirtual 150, 3) := by decide +kernel
theorem d_D_change_75 : decode b_D_change 75 = .ok (.ifCond .eq 7, 3) := by decide +kernel
theorem d_D_change_78 : decode b_D_change 78 = .ok (.iconst 0, 1) := by decide +kernel
theorem d_D_change_79 : decode b_D_change 79 = .ok (.goto 4, 3) := by decide +kernel
theorem d_D_change_82 : decode b_D_change 82 = .ok (.iconst 2, 1) := by decide +kernel
theorem d_D_change_83 : decode b_D_change 83 = .ok (.putfield 68, 3) := by decide +kernel
theorem d_D_change_86 : decode b_D_change 86 = .ok (.aload_n 0, 1) := by decide +kernel
theorem d_D_change_87 : decode b_D_change 87 = .ok (.getfield 68, 3) := by decide +kernel
theorem d_D_change_90 : decode b_D_change 90 = .ok (.ifCond .le 7, 3) := by decide +kernel
theorem d_D_change_93 : decode b_D_change 93 = .ok (.iconst 0, 1) := by decide +kernel
theorem d_D_change_94 : decode b_D_change 94 = .ok (.goto 16, 3) := by decide +kernel
theorem d_D_change_97 : decode b_D_change 97 = .ok (.aload_n 0, 1) := by decide +kernel
theorem d_D_change_98 : decode b_D_change 98 = .ok (.getfield 59, 3) := by decide +kernel
theorem d_D_change_101 : decode b_D_change 101 = .ok (.iload_n 2, 1) := by decide +kernel
theorem d_D_change_102 : decode b_D_change 102 = .ok (.iaload, 1) := by decide +kernel
theorem d_D_change_103 : decode b_D_change 103 = .ok (.aload_n 0, 1) := by decide +kernel
theorem d_D_change_104 : decode b_D_change 104 = .ok (.getfield 56, 3) := by decide +kernel
theorem d_D_change_107 : decode b_D_change 107 = .ok (.iload_n 2, 1) := by decide +kernel
theorem d_D_change_108 : decode b_D_change 108 = .ok (.iaload, 1) := by decide +kernel
theorem d_D_change_109 : decode b_D_change 109 = .ok (.isub, 1) := by decide +kernel
theorem d_D_change_110 : decode b_D_change 110 = .ok (.ireturn, 1) := by decide +kernel
theorem d_D_leap_0 : decode b_D_leap 0 = .ok (.aload_n 0, 1) := by decide +kernel
theorem d_D_leap_1 : decode b_D_leap 1 = .ok (.iconst 0, 1) := by decide +kernel
theorem d_D_leap_2 : decode b_D_leap 2 = .ok (.putfield 68, 3) := by decide +kernel
theorem d_D_leap_5 : decode b_D_leap 5 = .ok (.iload_n 1, 1) := by decide +kernel
theorem d_D_leap_6 : decode b_D_leap 6 = .ok (.ifCond .ne 8, 3) := by decide +kernel
theorem d_D_leap_9 : decode b_D_leap 9 = .ok (.aload_n 0, 1) := by decide +kernel
theorem d_D_leap_10 : decode b_D_leap 10 = .ok (.getfield 133, 3) := by decide +kernel
theorem d_D_leap_13 : decode b_D_leap 13 = .ok (.lreturn, 1) := by decide +kernel
theorem d_D_leap_14 : decode b_D_leap 14 = .ok (.aload_n 0, 1) := by decide +kernel
theorem d_D_leap_15 : decode b_D_leap 15 = .ok (.getfield 133, 3) := by decide +kernel
theorem d_D_leap_18 : decode b_D_leap 18 = .ok (.lconst 0, 1) := by decide +kernel
theorem d_D_leap_19 : decode b_D_leap 19 = .ok (.lcmp, 1) := by decide +kernel
theorem d_D_leap_20 : decode b_D_leap 20 = .ok (.ifCond .ne 7, 3) := by decide +kernel
theorem d_D_leap_23 : decode b_D_leap 23 = .ok (.ldc2_w 192, 3) := by decide +kernel
theorem d_D_leap_26 : decode b_D_leap 26 = .ok (.lreturn, 1) := by decide +kernel
theorem d_D_leap_27 : decode b_D_leap 27 = .ok (.iload_n 1, 1) := by decide +kernel
theorem d_D_leap_28 : decode b_D_leap 28 = .ok (.iconst 1, 1) := by decide +kernel
theorem d_D_leap_29 : decode b_D_leap 29 = .ok (.if_icmp .ne 11, 3) := by decide +kernel
theorem d_D_leap_32 : decode b_D_leap 32 = .ok (.aload_n 0, 1) := by decide +kernel
theorem d_D_leap_33 : decode b_D_leap 33 = .ok (.getfield 180, 3) := by decide +kernel
theorem d_D_leap_36 : decode b_D_leap 36 = .ok (.i2l, 1) := by decide +kernel
theorem d_D_leap_37 : decode b_D_leap 37 = .ok (.goto 30, 3) := by decide +kernel
theorem d_D_leap_40 : decode b_D_leap 40 = .ok (.iload_n 1, 1) := by decide +kernel
theorem d_D_leap_41 : decode b_D_leap 41 = .ok (.iconst 2, 1) := by decide +kernel
theorem d_D_leap_42 : decode b_D_leap 42 = .ok (.if_icmp .ne 10, 3) := by decide +kernel
theorem d_D_leap_45 : decode b_D_leap 45 = .ok (.aload_n 0, 1) := by decide +kernel
theorem d_D_leap_46 : decode b_D_leap 46 = .ok (.getfield 183, 3) := by decide +kernel
theorem d_D_leap_49 : decode b_D_leap 49 = .ok (.goto 18, 3) := by decide +kernel
theorem d_D_leap_52 : decode b_D_leap 52 = .ok (.iload_n 1, 1) := by decide +kernel
theorem d_D_leap_53 : decode b_D_leap 53 = .ok (.iconst 3, 1) := by decide +kernel
theorem d_D_leap_54 : decode b_D_leap 54 = .ok (.if_icmp .ne 10, 3) := by decide +kernel
theorem d_D_leap_57 : decode b_D_leap 57 = .ok (.aload_n 0, 1) := by decide +kernel
theorem d_D_leap_58 : decode b_D_leap 58 = .ok (.getfield 186, 3) := by decide +kernel
theorem d_D_leap_61 : decode b_D_leap 61 = .ok (.goto 6, 3) := by decide +kernel
theorem d_D_leap_64 : decode b_D_leap 64 = .ok (.ldc2_w 192, 3) := by decide +kernel
theorem d_D_leap_67 : decode b_D_leap 67 = .ok (.lreturn, 1) := by decide +kernel
