theorem d_R_init_0 : decode b_R_init 0 = .ok (.aload_n 0, 1) := by decide +kernel
theorem d_R_init_1 : decode b_R_init 1 = .ok (.invokespecial 3, 3) := by decide +kernel
theorem d_R_init_4 : decode b_R_init 4 = .ok (.aload_n 0, 1) := by decide +kernel
theorem d_R_init_5 : decode b_R_init 5 = .ok (.bipush 26, 2) := by decide +kernel
theorem d_R_init_7 : decode b_R_init 7 = .ok (.newarray .int, 2) := by decide +kernel
theorem d_R_init_9 : decode b_R_init 9 = .ok (.putfield 11, 3) := by decide +kernel
theorem d_R_init_12 : decode b_R_init 12 = .ok (.aload_n 0, 1) := by decide +kernel
theorem d_R_init_13 : decode b_R_init 13 = .ok (.bipush 24, 2) := by decide +kernel
theorem d_R_init_15 : decode b_R_init 15 = .ok (.newarray .int, 2) := by decide +kernel
theorem d_R_init_17 : decode b_R_init 17 = .ok (.putfield 15, 3) := by decide +kernel
theorem d_R_init_20 : decode b_R_init 20 = .ok (.aload_n 0, 1) := by decide +kernel
theorem d_R_init_21 : decode b_R_init 21 = .ok (.bipush 24, 2) := by decide +kernel
theorem d_R_init_23 : decode b_R_init 23 = .ok (.newarray .int, 2) := by decide +kernel
theorem d_R_init_25 : decode b_R_init 25 = .ok (.putfield 18, 3) := by decide +kernel
theorem d_R_init_28 : decode b_R_init 28 = .ok (.return_, 1) := by decide +kernel
theorem d_R_faultOf_0 : decode b_R_faultOf 0 = .ok (.aload_n 0, 1) := by decide +kernel
theorem d_R_faultOf_1 : decode b_R_faultOf 1 = .ok (.aload_n 3, 1) := by decide +kernel
theorem d_R_faultOf_2 : decode b_R_faultOf 2 = .ok (.invokevirtual 21, 3) := by decide +kernel
theorem d_R_faultOf_5 : decode b_R_faultOf 5 = .ok (.iconst 0, 1) := by decide +kernel
theorem d_R_faultOf_6 : decode b_R_faultOf 6 = .ok (.istore 4, 2) := by decide +kernel
theorem d_R_faultOf_8 : decode b_R_faultOf 8 = .ok (.iload 4, 2) := by decide +kernel
theorem d_R_faultOf_10 : decode b_R_faultOf 10 = .ok (.iload_n 2, 1) := by decide +kernel
theorem d_R_faultOf_11 : decode b_R_faultOf 11 = .ok (.if_icmp .ge 34, 3) := by decide +kernel
theorem d_R_faultOf_14 : decode b_R_faultOf 14 = .ok (.aload_n 1, 1) := by decide +kernel
theorem d_R_faultOf_15 : decode b_R_faultOf 15 = .ok (.iload 4, 2) := by decide +kernel
theorem d_R_faultOf_17 : decode b_R_faultOf 17 = .ok (.caload, 1) := by decide +kernel
theorem d_R_faultOf_18 : decode b_R_faultOf 18 = .ok (.bipush 32, 2) := by decide +kernel
theorem d_R_faultOf_20 : decode b_R_faultOf 20 = .ok (.if_icmp .eq 19, 3) := by decide +kernel
theorem d_R_faultOf_23 : decode b_R_faultOf 23 = .ok (.aload_n 0, 1) := by decide +kernel
theorem d_R_faultOf_24 : decode b_R_faultOf 24 = .ok (.aload_n 1, 1) := by decide +kernel
theorem d_R_faultOf_25 : decode b_R_faultOf 25 = .ok (.iload 4, 2) := by decide +kernel
theorem d_R_faultOf_27 : decode b_R_faultOf 27 = .ok (.caload, 1) := by decide +kernel
theorem d_R_faultOf_28 : decode b_R_faultOf 28 = .ok (.iload 4, 2) := by decide +kernel
theorem d_R_faultOf_30 : decode b_R_faultOf 30 = .ok (.invokevirtual 25, 3) := by decide +kernel
theorem d_R_faultOf_33 : decode b_R_faultOf 33 = .ok (.ifCond .ne 6, 3) := by decide +kernel
theorem d_R_faultOf_36 : decode b_R_faultOf 36 = .ok (.iload 4, 2) := by decide +kernel
theorem d_R_faultOf_38 : decode b_R_faultOf 38 = .ok (.ireturn, 1) := by decide +kernel
theorem d_R_faultOf_39 : decode b_R_faultOf 39 = .ok (.iinc 4 1, 3) := by decide +kernel
theorem d_R_faultOf_42 : decode b_R_faultOf 42 = .ok (.goto (-34), 3) := by decide +kernel
theorem d_R_faultOf_45 : decode b_R_faultOf 45 = .ok (.aload_n 0, 1) := by decide +kernel
theorem d_R_faultOf_46 : decode b_R_faultOf 46 = .ok (.invokevirtual 29, 3) := by decide +kernel
theorem d_R_faultOf_49 : decode b_R_faultOf 49 = .ok (.ifCond .eq 10, 3) := by decide +kernel
theorem d_R_faultOf_52 : decode b_R_faultOf 52 = .ok (.aload_n 0, 1) := by decide +kernel
theorem d_R_faultOf_53 : decode b_R_faultOf 53 = .ok (.invokevirtual 33, 3) := by decide +kernel
theorem d_R_faultOf_56 : decode b_R_faultOf 56 = .ok (.goto 4, 3) := by decide +kernel
theorem d_R_faultOf_59 : decode b_R_faultOf 59 = .ok (.iload_n 2, 1) := by decide +kernel
theorem d_R_faultOf_60 : decode b_R_faultOf 60 = .ok (.ireturn, 1) := by decide +kernel
theorem d_R_clear_0 : decode b_R_clear 0 = .ok (.aload_n 0, 1) := by decide +kernel
theorem d_R_clear_1 : decode b_R_clear 1 = .ok (.aload_n 1, 1) := by decide +kernel
theorem d_R_clear_2 : decode b_R_clear 2 = .ok (.putfield 37, 3) := by decide +kernel
theorem d_R_clear_5 : decode b_R_clear 5 = .ok (.aload_n 0, 1) := by decide +kernel
theorem d_R_clear_6 : decode b_R_clear 6 = .ok (.getfield 37, 3) := by decide +kernel
theorem d_R_clear_9 : decode b_R_clear 9 = .ok (.iconst 0, 1) := by decide +kernel
theorem d_R_clear_10 : decode b_R_clear 10 = .ok (.putfield 41, 3) := by decide +kernel
theorem d_R_clear_13 : decode b_R_clear 13 = .ok (.aload_n 0, 1) := by decide +kernel
theorem d_R_clear_14 : decode b_R_clear 14 = .ok (.iconst 0, 1) := by decide +kernel
theorem d_R_clear_15 : decode b_R_clear 15 = .ok (.putfield 47, 3) := by decide +kernel
theorem d_R_clear_18 : decode b_R_clear 18 = .ok (.aload_n 0, 1) := by decide +kernel
theorem d_R_clear_19 : decode b_R_clear 19 = .ok (.iconst 0, 1) := by decide +kernel
theorem d_R_clear_20 : decode b_R_clear 20 = .ok (.putfield 50, 3) := by decide +kernel
theorem d_R_clear_23 : decode b_R_clear 23 = .ok (.iconst 0, 1) := by decide +kernel
theorem d_R_clear_24 : decode b_R_clear 24 = .ok (.istore_n 2, 1) := by decide +kernel
theorem d_R_clear_25 : decode b_R_clear 25 = .ok (.iload_n 2, 1) := by decide +kernel
theorem d_R_clear_26 : decode b_R_clear 26 = .ok (.bipush 26, 2) := by decide +kernel
theorem d_R_clear_28 : decode b_R_clear 28 = .ok (.if_icmp .ge 16, 3) := by decide +kernel
theorem d_R_clear_31 : decode b_R_clear 31 = .ok (.aload_n 0, 1) := by decide +kernel
theorem d_R_clear_32 : decode b_R_clear 32 = .ok (.getfield 11, 3) := by decide +kernel
theorem d_R_clear_35 : decode b_R_clear 35 = .ok (.iload_n 2, 1) := by decide +kernel
theorem d_R_clear_36 : decode b_R_clear 36 = .ok (.iconst (-1), 1) := by decide +kernel
theorem d_R_clear_37 : decode b_R_clear 37 = .ok (.iastore, 1) := by decide +kernel
theorem d_R_clear_38 : decode b_R_clear 38 = .ok (.iinc 2 1, 3) := by decide +kernel
theorem d_R_clear_41 : decode b_R_clear 41 = .ok (.goto (-16), 3) := by decide +kernel
theorem d_R_clear_44 : decode b_R_clear 44 = .ok (.return_, 1) := by decide +kernel
theorem d_R_accepts_0 : decode b_R_accepts 0 = .ok (.aload_n 0, 1) := by decide +kernel
theorem d_R_accepts_1 : decode b_R_accepts 1 = .ok (.getfield 47, 3) := by decide +kernel
theorem d_R_accepts_4 : decode b_R_accepts 4 = .ok (.tableswitch 57 0 3 #[32, 38, 44, 50], 32) := by decide +kernel
theorem d_R_accepts_36 : decode b_R_accepts 36 = .ok (.aload_n 0, 1) := by decide +kernel
theorem d_R_accepts_37 : decode b_R_accepts 37 = .ok (.iload_n 1, 1) := by decide +kernel
theorem d_R_accepts_38 : decode b_R_accepts 38 = .ok (.invokevirtual 54, 3) := by decide +kernel
theorem d_R_accepts_41 : decode b_R_accepts 41 = .ok (.ireturn, 1) := by decide +kernel
theorem d_R_accepts_42 : decode b_R_accepts 42 = .ok (.aload_n 0, 1) := by decide +kernel
theorem d_R_accepts_43 : decode b_R_accepts 43 = .ok (.iload_n 1, 1) := by decide +kernel
theorem d_R_accepts_44 : decode b_R_accepts 44 = .ok (.invokevirtual 58, 3) := by decide +kernel
theorem d_R_accepts_47 : decode b_R_accepts 47 = .ok (.ireturn, 1) := by decide +kernel
theorem d_R_accepts_48 : decode b_R_accepts 48 = .ok (.aload_n 0, 1) := by decide +kernel
theorem d_R_accepts_49 : decode b_R_accepts 49 = .ok (.iload_n 1, 1) := by decide +kernel
theorem d_R_accepts_50 : decode b_R_accepts 50 = .ok (.invokevirtual 61, 3) := by decide +kernel
theorem d_R_accepts_53 : decode b_R_accepts 53 = .ok (.ireturn, 1) := by decide +kernel
theorem d_R_accepts_54 : decode b_R_accepts 54 = .ok (.aload_n 0, 1) := by decide +kernel
theorem d_R_accepts_55 : decode b_R_accepts 55 = .ok (.iload_n 1, 1) := by decide +kernel
theorem d_R_accepts_56 : decode b_R_accepts 56 = .ok (.iload_n 2, 1) := by decide +kernel
theorem d_R_accepts_57 : decode b_R_accepts 57 = .ok (.invokevirtual 64, 3) := by decide +kernel
theorem d_R_accepts_60 : decode b_R_accepts 60 = .ok (.ireturn, 1) := by decide +kernel
theorem d_R_accepts_61 : decode b_R_accepts 61 = .ok (.aload_n 0, 1) := by decide +kernel
theorem d_R_accepts_62 : decode b_R_accepts 62 = .ok (.iload_n 1, 1) := by decide +kernel
theorem d_R_accepts_63 : decode b_R_accepts 63 = .ok (.invokevirtual 67, 3) := by decide +kernel
theorem d_R_accepts_66 : decode b_R_accepts 66 = .ok (.ireturn, 1) := by decide +kernel
theorem d_R_acceptsFirst_0 : decode b_R_acceptsFirst 0 = .ok (.aload_n 0, 1) := by decide +kernel
theorem d_R_acceptsFirst_1 : decode b_R_acceptsFirst 1 = .ok (.getfield 37, 3) := by decide +kernel
theorem d_R_acceptsFirst_4 : decode b_R_acceptsFirst 4 = .ok (.invokevirtual 70, 3) := by decide +kernel
theorem d_R_acceptsFirst_7 : decode b_R_acceptsFirst 7 = .ok (.ifCond .eq 5, 3) := by decide +kernel
theorem d_R_acceptsFirst_10 : decode b_R_acceptsFirst 10 = .ok (.iconst 0, 1) := by decide +kernel
theorem d_R_acceptsFirst_11 : decode b_R_acceptsFirst 11 = .ok (.ireturn, 1) := by decide +kernel
theorem d_R_acceptsFirst_12 : decode b_R_acceptsFirst 12 = .ok (.iload_n 1, 1) := by decide +kernel
theorem d_R_acceptsFirst_13 : decode b_R_acceptsFirst 13 = .ok (.invokestatic 73, 3) := by decide +kernel
theorem d_R_acceptsFirst_16 : decode b_R_acceptsFirst 16 = .ok (.ifCond .eq 35, 3) := by decide +kernel
theorem d_R_acceptsFirst_19 : decode b_R_acceptsFirst 19 = .ok (.aload_n 0, 1) := by decide +kernel
theorem d_R_acceptsFirst_20 : decode b_R_acceptsFirst 20 = .ok (.iload_n 1, 1) := by decide +kernel
theorem d_R_acceptsFirst_21 : decode b_R_acceptsFirst 21 = .ok (.bipush 65, 2) := by decide +kernel
theorem d_R_acceptsFirst_23 : decode b_R_acceptsFirst 23 = .ok (.isub, 1) := by decide +kernel
theorem d_R_acceptsFirst_24 : decode b_R_acceptsFirst 24 = .ok (.putfield 76, 3) := by decide +kernel
theorem d_R_acceptsFirst_27 : decode b_R_acceptsFirst 27 = .ok (.aload_n 0, 1) := by decide +kernel
theorem d_R_acceptsFirst_28 : decode b_R_acceptsFirst 28 = .ok (.iconst 1, 1) := by decide +kernel
theorem d_R_acceptsFirst_29 : decode b_R_acceptsFirst 29 = .ok (.putfield 47, 3) := by decide +kernel
theorem d_R_acceptsFirst_32 : decode b_R_acceptsFirst 32 = .ok (.aload_n 0, 1) := by decide +kernel
theorem d_R_acceptsFirst_33 : decode b_R_acceptsFirst 33 = .ok (.getfield 11, 3) := by decide +kernel
theorem d_R_acceptsFirst_36 : decode b_R_acceptsFirst 36 = .ok (.aload_n 0, 1) := by decide +kernel
theorem d_R_acceptsFirst_37 : decode b_R_acceptsFirst 37 = .ok (.getfield 76, 3) := by decide +kernel
theorem d_R_acceptsFirst_40 : decode b_R_acceptsFirst 40 = .ok (.iaload, 1) := by decide +kernel
theorem d_R_acceptsFirst_41 : decode b_R_acceptsFirst 41 = .ok (.iconst (-1), 1) := by decide +kernel
theorem d_R_acceptsFirst_42 : decode b_R_acceptsFirst 42 = .ok (.if_icmp .ne 7, 3) := by decide +kernel
theorem d_R_acceptsFirst_45 : decode b_R_acceptsFirst 45 = .ok (.iconst 1, 1) := by decide +kernel
theorem d_R_acceptsFirst_46 : decode b_R_acceptsFirst 46 = .ok (.goto 4, 3) := by decide +kernel
theorem d_R_acceptsFirst_49 : decode b_R_acceptsFirst 49 = .ok (.iconst 0, 1) := by decide +kernel
theorem d_R_acceptsFirst_50 : decode b_R_acceptsFirst 50 = .ok (.ireturn, 1) := by decide +kernel
theorem d_R_acceptsFirst_51 : decode b_R_acceptsFirst 51 = .ok (.aload_n 0, 1) := by decide +kernel
theorem d_R_acceptsFirst_52 : decode b_R_acceptsFirst 52 = .ok (.iconst (-1), 1) := by decide +kernel
theorem d_R_acceptsFirst_53 : decode b_R_acceptsFirst 53 = .ok (.putfield 79, 3) := by decide +kernel
theorem d_R_acceptsFirst_56 : decode b_R_acceptsFirst 56 = .ok (.iload_n 1, 1) := by decide +kernel
theorem d_R_acceptsFirst_57 : decode b_R_acceptsFirst 57 = .ok (.lookupswitch 78 #[(43, 43), (45, 51), (46, 67), (62, 59)], 43) := by decide +kernel
theorem d_R_acceptsFirst_100 : decode b_R_acceptsFirst 100 = .ok (.aload_n 0, 1) := by decide +kernel
theorem d_R_acceptsFirst_101 : decode b_R_acceptsFirst 101 = .ok (.iconst 0, 1) := by decide +kernel
theorem d_R_acceptsFirst_102 : decode b_R_acceptsFirst 102 = .ok (.iconst 2, 1) := by decide +kernel
theorem d_R_acceptsFirst_103 : decode b_R_acceptsFirst 103 = .ok (.invokevirtual 82, 3) := by decide +kernel
theorem d_R_acceptsFirst_106 : decode b_R_acceptsFirst 106 = .ok (.iconst 1, 1) := by decide +kernel
theorem d_R_acceptsFirst_107 : decode b_R_acceptsFirst 107 = .ok (.ireturn, 1) := by decide +kernel
theorem d_R_acceptsFirst_108 : decode b_R_acceptsFirst 108 = .ok (.aload_n 0, 1) := by decide +kernel
theorem d_R_acceptsFirst_109 : decode b_R_acceptsFirst 109 = .ok (.iconst 1, 1) := by decide +kernel
theorem d_R_acceptsFirst_110 : decode b_R_acceptsFirst 110 = .ok (.iconst 2, 1) := by decide +kernel
theorem d_R_acceptsFirst_111 : decode b_R_acceptsFirst 111 = .ok (.invokevirtual 82, 3) := by decide +kernel
theorem d_R_acceptsFirst_114 : decode b_R_acceptsFirst 114 = .ok (.iconst 1, 1) := by decide +kernel
theorem d_R_acceptsFirst_115 : decode b_R_acceptsFirst 115 = .ok (.ireturn, 1) := by decide +kernel
theorem d_R_acceptsFirst_116 : decode b_R_acceptsFirst 116 = .ok (.aload_n 0, 1) := by decide +kernel
theorem d_R_acceptsFirst_117 : decode b_R_acceptsFirst 117 = .ok (.iconst 2, 1) := by decide +kernel
theorem d_R_acceptsFirst_118 : decode b_R_acceptsFirst 118 = .ok (.iconst 3, 1) := by decide +kernel
theorem d_R_acceptsFirst_119 : decode b_R_acceptsFirst 119 = .ok (.invokevirtual 82, 3) := by decide +kernel
theorem d_R_acceptsFirst_122 : decode b_R_acceptsFirst 122 = .ok (.iconst 1, 1) := by decide +kernel
theorem d_R_acceptsFirst_123 : decode b_R_acceptsFirst 123 = .ok (.ireturn, 1) := by decide +kernel
theorem d_R_acceptsFirst_124 : decode b_R_acceptsFirst 124 = .ok (.aload_n 0, 1) := by decide +kernel
theorem d_R_acceptsFirst_125 : decode b_R_acceptsFirst 125 = .ok (.iconst 3, 1) := by decide +kernel
theorem d_R_acceptsFirst_126 : decode b_R_acceptsFirst 126 = .ok (.putfield 86, 3) := by decide +kernel
theorem d_R_acceptsFirst_129 : decode b_R_acceptsFirst 129 = .ok (.aload_n 0, 1) := by decide +kernel
theorem d_R_acceptsFirst_130 : decode b_R_acceptsFirst 130 = .ok (.invokevirtual 89, 3) := by decide +kernel
theorem d_R_acceptsFirst_133 : decode b_R_acceptsFirst 133 = .ok (.iconst 1, 1) := by decide +kernel
theorem d_R_acceptsFirst_134 : decode b_R_acceptsFirst 134 = .ok (.ireturn, 1) := by decide +kernel
theorem d_R_acceptsFirst_135 : decode b_R_acceptsFirst 135 = .ok (.iconst 0, 1) := by decide +kernel
theorem d_R_acceptsFirst_136 : decode b_R_acceptsFirst 136 = .ok (.ireturn, 1) := by decide +kernel
theorem d_R_expect_0 : decode b_R_expect 0 = .ok (.aload_n 0, 1) := by decide +kernel
theorem d_R_expect_1 : decode b_R_expect 1 = .ok (.iload_n 1, 1) := by decide +kernel
theorem d_R_expect_2 : decode b_R_expect 2 = .ok (.putfield 86, 3) := by decide +kernel
theorem d_R_expect_5 : decode b_R_expect 5 = .ok (.aload_n 0, 1) := by decide +kernel
theorem d_R_expect_6 : decode b_R_expect 6 = .ok (.iload_n 2, 1) := by decide +kernel
theorem d_R_expect_7 : decode b_R_expect 7 = .ok (.putfield 47, 3) := by decide +kernel
theorem d_R_expect_10 : decode b_R_expect 10 = .ok (.return_, 1) := by decide +kernel
theorem d_R_acceptsColon_0 : decode b_R_acceptsColon 0 = .ok (.iload_n 1, 1) := by decide +kernel
theorem d_R_acceptsColon_1 : decode b_R_acceptsColon 1 = .ok (.bipush 58, 2) := by decide +kernel
theorem d_R_acceptsColon_3 : decode b_R_acceptsColon 3 = .ok (.if_icmp .eq 5, 3) := by decide +kernel
theorem d_R_acceptsColon_6 : decode b_R_acceptsColon 6 = .ok (.iconst 0, 1) := by decide +kernel
theorem d_R_acceptsColon_7 : decode b_R_acceptsColon 7 = .ok (.ireturn, 1) := by decide +kernel
theorem d_R_acceptsColon_8 : decode b_R_acceptsColon 8 = .ok (.aload_n 0, 1) := by decide +kernel
theorem d_R_acceptsColon_9 : decode b_R_acceptsColon 9 = .ok (.getfield 11, 3) := by decide +kernel
theorem d_R_acceptsColon_12 : decode b_R_acceptsColon 12 = .ok (.aload_n 0, 1) := by decide +kernel
theorem d_R_acceptsColon_13 : decode b_R_acceptsColon 13 = .ok (.getfield 76, 3) := by decide +kernel
theorem d_R_acceptsColon_16 : decode b_R_acceptsColon 16 = .ok (.aload_n 0, 1) := by decide +kernel
theorem d_R_acceptsColon_17 : decode b_R_acceptsColon 17 = .ok (.getfield 37, 3) := by decide +kernel
theorem d_R_acceptsColon_20 : decode b_R_acceptsColon 20 = .ok (.getfield 41, 3) := by decide +kernel
theorem d_R_acceptsColon_23 : decode b_R_acceptsColon 23 = .ok (.iastore, 1) := by decide +kernel
theorem d_R_acceptsColon_24 : decode b_R_acceptsColon 24 = .ok (.aload_n 0, 1) := by decide +kernel
theorem d_R_acceptsColon_25 : decode b_R_acceptsColon 25 = .ok (.iconst 1, 1) := by decide +kernel
theorem d_R_acceptsColon_26 : decode b_R_acceptsColon 26 = .ok (.putfield 50, 3) := by decide +kernel
theorem d_R_acceptsColon_29 : decode b_R_acceptsColon 29 = .ok (.aload_n 0, 1) := by decide +kernel
theorem d_R_acceptsColon_30 : decode b_R_acceptsColon 30 = .ok (.iconst 0, 1) := by decide +kernel
theorem d_R_acceptsColon_31 : decode b_R_acceptsColon 31 = .ok (.putfield 47, 3) := by decide +kernel
theorem d_R_acceptsColon_34 : decode b_R_acceptsColon 34 = .ok (.iconst 1, 1) := by decide +kernel
theorem d_R_acceptsColon_35 : decode b_R_acceptsColon 35 = .ok (.ireturn, 1) := by decide +kernel
theorem d_R_acceptsCounter_0 : decode b_R_acceptsCounter 0 = .ok (.iload_n 1, 1) := by decide +kernel
theorem d_R_acceptsCounter_1 : decode b_R_acceptsCounter 1 = .ok (.bipush 97, 2) := by decide +kernel
theorem d_R_acceptsCounter_3 : decode b_R_acceptsCounter 3 = .ok (.if_icmp .lt 9, 3) := by decide +kernel
theorem d_R_acceptsCounter_6 : decode b_R_acceptsCounter 6 = .ok (.iload_n 1, 1) := by decide +kernel
theorem d_R_acceptsCounter_7 : decode b_R_acceptsCounter 7 = .ok (.bipush 105, 2) := by decide +kernel
theorem d_R_acceptsCounter_9 : decode b_R_acceptsCounter 9 = .ok (.if_icmp .lt 5, 3) := by decide +kernel
theorem d_R_acceptsCounter_12 : decode b_R_acceptsCounter 12 = .ok (.iconst 0, 1) := by decide +kernel
theorem d_R_acceptsCounter_13 : decode b_R_acceptsCounter 13 = .ok (.ireturn, 1) := by decide +kernel
theorem d_R_acceptsCounter_14 : decode b_R_acceptsCounter 14 = .ok (.aload_n 0, 1) := by decide +kernel
theorem d_R_acceptsCounter_15 : decode b_R_acceptsCounter 15 = .ok (.iload_n 1, 1) := by decide +kernel
theorem d_R_acceptsCounter_16 : decode b_R_acceptsCounter 16 = .ok (.bipush 97, 2) := by decide +kernel
theorem d_R_acceptsCounter_18 : decode b_R_acceptsCounter 18 = .ok (.isub, 1) := by decide +kernel
theorem d_R_acceptsCounter_19 : decode b_R_acceptsCounter 19 = .ok (.putfield 79, 3) := by decide +kernel
theorem d_R_acceptsCounter_22 : decode b_R_acceptsCounter 22 = .ok (.aload_n 0, 1) := by decide +kernel
theorem d_R_acceptsCounter_23 : decode b_R_acceptsCounter 23 = .ok (.getfield 86, 3) := by decide +kernel
theorem d_R_acceptsCounter_26 : decode b_R_acceptsCounter 26 = .ok (.iconst 1, 1) := by decide +kernel
theorem d_R_acceptsCounter_27 : decode b_R_acceptsCounter 27 = .ok (.if_icmp .ne 11, 3) := by decide +kernel
theorem d_R_acceptsCounter_30 : decode b_R_acceptsCounter 30 = .ok (.aload_n 0, 1) := by decide +kernel
theorem d_R_acceptsCounter_31 : decode b_R_acceptsCounter 31 = .ok (.iconst 3, 1) := by decide +kernel
theorem d_R_acceptsCounter_32 : decode b_R_acceptsCounter 32 = .ok (.putfield 47, 3) := by decide +kernel
theorem d_R_acceptsCounter_35 : decode b_R_acceptsCounter 35 = .ok (.goto 7, 3) := by decide +kernel
theorem d_R_acceptsCounter_38 : decode b_R_acceptsCounter 38 = .ok (.aload_n 0, 1) := by decide +kernel
theorem d_R_acceptsCounter_39 : decode b_R_acceptsCounter 39 = .ok (.invokevirtual 89, 3) := by decide +kernel
theorem d_R_acceptsCounter_42 : decode b_R_acceptsCounter 42 = .ok (.iconst 1, 1) := by decide +kernel
theorem d_R_acceptsCounter_43 : decode b_R_acceptsCounter 43 = .ok (.ireturn, 1) := by decide +kernel
theorem d_R_acceptsNamed_0 : decode b_R_acceptsNamed 0 = .ok (.iload_n 1, 1) := by decide +kernel
theorem d_R_acceptsNamed_1 : decode b_R_acceptsNamed 1 = .ok (.invokestatic 73, 3) := by decide +kernel
theorem d_R_acceptsNamed_4 : decode b_R_acceptsNamed 4 = .ok (.ifCond .ne 5, 3) := by decide +kernel
theorem d_R_acceptsNamed_7 : decode b_R_acceptsNamed 7 = .ok (.iconst 0, 1) := by decide +kernel
theorem d_R_acceptsNamed_8 : decode b_R_acceptsNamed 8 = .ok (.ireturn, 1) := by decide +kernel
theorem d_R_acceptsNamed_9 : decode b_R_acceptsNamed 9 = .ok (.aload_n 0, 1) := by decide +kernel
theorem d_R_acceptsNamed_10 : decode b_R_acceptsNamed 10 = .ok (.getfield 15, 3) := by decide +kernel
theorem d_R_acceptsNamed_13 : decode b_R_acceptsNamed 13 = .ok (.aload_n 0, 1) := by decide +kernel
theorem d_R_acceptsNamed_14 : decode b_R_acceptsNamed 14 = .ok (.getfield 37, 3) := by decide +kernel
theorem d_R_acceptsNamed_17 : decode b_R_acceptsNamed 17 = .ok (.getfield 41, 3) := by decide +kernel
theorem d_R_acceptsNamed_20 : decode b_R_acceptsNamed 20 = .ok (.iload_n 1, 1) := by decide +kernel
theorem d_R_acceptsNamed_21 : decode b_R_acceptsNamed 21 = .ok (.bipush 65, 2) := by decide +kernel
theorem d_R_acceptsNamed_23 : decode b_R_acceptsNamed 23 = .ok (.isub, 1) := by decide +kernel
theorem d_R_acceptsNamed_24 : decode b_R_acceptsNamed 24 = .ok (.iastore, 1) := by decide +kernel
theorem d_R_acceptsNamed_25 : decode b_R_acceptsNamed 25 = .ok (.aload_n 0, 1) := by decide +kernel
theorem d_R_acceptsNamed_26 : decode b_R_acceptsNamed 26 = .ok (.getfield 18, 3) := by decide +kernel
theorem d_R_acceptsNamed_29 : decode b_R_acceptsNamed 29 = .ok (.aload_n 0, 1) := by decide +kernel
theorem d_R_acceptsNamed_30 : decode b_R_acceptsNamed 30 = .ok (.getfield 37, 3) := by decide +kernel
theorem d_R_acceptsNamed_33 : decode b_R_acceptsNamed 33 = .ok (.getfield 41, 3) := by decide +kernel
theorem d_R_acceptsNamed_36 : decode b_R_acceptsNamed 36 = .ok (.iload_n 2, 1) := by decide +kernel
theorem d_R_acceptsNamed_37 : decode b_R_acceptsNamed 37 = .ok (.iastore, 1) := by decide +kernel
theorem d_R_acceptsNamed_38 : decode b_R_acceptsNamed 38 = .ok (.aload_n 0, 1) := by decide +kernel
theorem d_R_acceptsNamed_39 : decode b_R_acceptsNamed 39 = .ok (.invokevirtual 89, 3) := by decide +kernel
theorem d_R_acceptsNamed_42 : decode b_R_acceptsNamed 42 = .ok (.iconst 1, 1) := by decide +kernel
theorem d_R_acceptsNamed_43 : decode b_R_acceptsNamed 43 = .ok (.ireturn, 1) := by decide +kernel
theorem d_R_acceptsSemicolon_0 : decode b_R_acceptsSemicolon 0 = .ok (.aload_n 0, 1) := by decide +kernel
theorem d_R_acceptsSemicolon_1 : decode b_R_acceptsSemicolon 1 = .ok (.iconst 0, 1) := by decide +kernel
theorem d_R_acceptsSemicolon_2 : decode b_R_acceptsSemicolon 2 = .ok (.putfield 47, 3) := by decide +kernel
theorem d_R_acceptsSemicolon_5 : decode b_R_acceptsSemicolon 5 = .ok (.iload_n 1, 1) := by decide +kernel
theorem d_R_acceptsSemicolon_6 : decode b_R_acceptsSemicolon 6 = .ok (.bipush 59, 2) := by decide +kernel
theorem d_R_acceptsSemicolon_8 : decode b_R_acceptsSemicolon 8 = .ok (.if_icmp .ne 7, 3) := by decide +kernel
theorem d_R_acceptsSemicolon_11 : decode b_R_acceptsSemicolon 11 = .ok (.iconst 1, 1) := by decide +kernel
theorem d_R_acceptsSemicolon_12 : decode b_R_acceptsSemicolon 12 = .ok (.goto 4, 3) := by decide +kernel
theorem d_R_acceptsSemicolon_15 : decode b_R_acceptsSemicolon 15 = .ok (.iconst 0, 1) := by decide +kernel
theorem d_R_acceptsSemicolon_16 : decode b_R_acceptsSemicolon 16 = .ok (.ireturn, 1) := by decide +kernel
theorem d_R_finish_0 : decode b_R_finish 0 = .ok (.aload_n 0, 1) := by decide +kernel
theorem d_R_finish_1 : decode b_R_finish 1 = .ok (.getfield 37, 3) := by decide +kernel
theorem d_R_finish_4 : decode b_R_finish 4 = .ok (.aload_n 0, 1) := by decide +kernel
theorem d_R_finish_5 : decode b_R_finish 5 = .ok (.getfield 86, 3) := by decide +kernel
theorem d_R_finish_8 : decode b_R_finish 8 = .ok (.aload_n 0, 1) := by decide +kernel
theorem d_R_finish_9 : decode b_R_finish 9 = .ok (.getfield 79, 3) := by decide +kernel
theorem d_R_finish_12 : decode b_R_finish 12 = .ok (.invokevirtual 92, 3) := by decide +kernel
theorem d_R_finish_15 : decode b_R_finish 15 = .ok (.aload_n 0, 1) := by decide +kernel
theorem d_R_finish_16 : decode b_R_finish 16 = .ok (.iconst 0, 1) := by decide +kernel
theorem d_R_finish_17 : decode b_R_finish 17 = .ok (.putfield 50, 3) := by decide +kernel
theorem d_R_finish_20 : decode b_R_finish 20 = .ok (.aload_n 0, 1) := by decide +kernel
theorem d_R_finish_21 : decode b_R_finish 21 = .ok (.iconst 4, 1) := by decide +kernel
theorem d_R_finish_22 : decode b_R_finish 22 = .ok (.putfield 47, 3) := by decide +kernel
theorem d_R_finish_25 : decode b_R_finish 25 = .ok (.return_, 1) := by decide +kernel
theorem d_R_mayEnd_0 : decode b_R_mayEnd 0 = .ok (.aload_n 0, 1) := by decide +kernel
theorem d_R_mayEnd_1 : decode b_R_mayEnd 1 = .ok (.getfield 47, 3) := by decide +kernel
theorem d_R_mayEnd_4 : decode b_R_mayEnd 4 = .ok (.iconst 4, 1) := by decide +kernel
theorem d_R_mayEnd_5 : decode b_R_mayEnd 5 = .ok (.if_icmp .ne 7, 3) := by decide +kernel
theorem d_R_mayEnd_8 : decode b_R_mayEnd 8 = .ok (.iconst 1, 1) := by decide +kernel
theorem d_R_mayEnd_9 : decode b_R_mayEnd 9 = .ok (.goto 4, 3) := by decide +kernel
theorem d_R_mayEnd_12 : decode b_R_mayEnd 12 = .ok (.iconst 0, 1) := by decide +kernel
theorem d_R_mayEnd_13 : decode b_R_mayEnd 13 = .ok (.istore_n 1, 1) := by decide +kernel
theorem d_R_mayEnd_14 : decode b_R_mayEnd 14 = .ok (.aload_n 0, 1) := by decide +kernel
theorem d_R_mayEnd_15 : decode b_R_mayEnd 15 = .ok (.getfield 47, 3) := by decide +kernel
theorem d_R_mayEnd_18 : decode b_R_mayEnd 18 = .ok (.ifCond .ne 24, 3) := by decide +kernel
theorem d_R_mayEnd_21 : decode b_R_mayEnd 21 = .ok (.aload_n 0, 1) := by decide +kernel
theorem d_R_mayEnd_22 : decode b_R_mayEnd 22 = .ok (.getfield 37, 3) := by decide +kernel
theorem d_R_mayEnd_25 : decode b_R_mayEnd 25 = .ok (.getfield 41, 3) := by decide +kernel
theorem d_R_mayEnd_28 : decode b_R_mayEnd 28 = .ok (.ifCond .le 14, 3) := by decide +kernel
theorem d_R_mayEnd_31 : decode b_R_mayEnd 31 = .ok (.aload_n 0, 1) := by decide +kernel
theorem d_R_mayEnd_32 : decode b_R_mayEnd 32 = .ok (.getfield 50, 3) := by decide +kernel
theorem d_R_mayEnd_35 : decode b_R_mayEnd 35 = .ok (.ifCond .ne 7, 3) := by decide +kernel
theorem d_R_mayEnd_38 : decode b_R_mayEnd 38 = .ok (.iconst 1, 1) := by decide +kernel
theorem d_R_mayEnd_39 : decode b_R_mayEnd 39 = .ok (.goto 4, 3) := by decide +kernel
theorem d_R_mayEnd_42 : decode b_R_mayEnd 42 = .ok (.iconst 0, 1) := by decide +kernel
theorem d_R_mayEnd_43 : decode b_R_mayEnd 43 = .ok (.istore_n 2, 1) := by decide +kernel
theorem d_R_mayEnd_44 : decode b_R_mayEnd 44 = .ok (.iload_n 1, 1) := by decide +kernel
theorem d_R_mayEnd_45 : decode b_R_mayEnd 45 = .ok (.ifCond .ne 7, 3) := by decide +kernel
theorem d_R_mayEnd_48 : decode b_R_mayEnd 48 = .ok (.iload_n 2, 1) := by decide +kernel
theorem d_R_mayEnd_49 : decode b_R_mayEnd 49 = .ok (.ifCond .eq 7, 3) := by decide +kernel
theorem d_R_mayEnd_52 : decode b_R_mayEnd 52 = .ok (.iconst 1, 1) := by decide +kernel
theorem d_R_mayEnd_53 : decode b_R_mayEnd 53 = .ok (.goto 4, 3) := by decide +kernel
theorem d_R_mayEnd_56 : decode b_R_mayEnd 56 = .ok (.iconst 0, 1) := by decide +kernel
theorem d_R_mayEnd_57 : decode b_R_mayEnd 57 = .ok (.ireturn, 1) := by decide +kernel
theorem d_R_faultOfLabels_0 : decode b_R_faultOfLabels 0 = .ok (.iconst 0, 1) := by decide +kernel
theorem d_R_faultOfLabels_1 : decode b_R_faultOfLabels 1 = .ok (.istore_n 1, 1) := by decide +kernel
theorem d_R_faultOfLabels_2 : decode b_R_faultOfLabels 2 = .ok (.iload_n 1, 1) := by decide +kernel
theorem d_R_faultOfLabels_3 : decode b_R_faultOfLabels 3 = .ok (.aload_n 0, 1) := by decide +kernel
theorem d_R_faultOfLabels_4 : decode b_R_faultOfLabels 4 = .ok (.getfield 37, 3) := by decide +kernel
theorem d_R_faultOfLabels_7 : decode b_R_faultOfLabels 7 = .ok (.getfield 41, 3) := by decide +kernel
theorem d_R_faultOfLabels_10 : decode b_R_faultOfLabels 10 = .ok (.if_icmp .ge 75, 3) := by decide +kernel
theorem d_R_faultOfLabels_13 : decode b_R_faultOfLabels 13 = .ok (.aload_n 0, 1) := by decide +kernel
theorem d_R_faultOfLabels_14 : decode b_R_faultOfLabels 14 = .ok (.getfield 37, 3) := by decide +kernel
theorem d_R_faultOfLabels_17 : decode b_R_faultOfLabels 17 = .ok (.getfield 95, 3) := by decide +kernel
theorem d_R_faultOfLabels_20 : decode b_R_faultOfLabels 20 = .ok (.iload_n 1, 1) := by decide +kernel
theorem d_R_faultOfLabels_21 : decode b_R_faultOfLabels 21 = .ok (.iaload, 1) := by decide +kernel
theorem d_R_faultOfLabels_22 : decode b_R_faultOfLabels 22 = .ok (.iconst 1, 1) := by decide +kernel
theorem d_R_faultOfLabels_23 : decode b_R_faultOfLabels 23 = .ok (.if_icmp .eq 16, 3) := by decide +kernel
theorem d_R_faultOfLabels_26 : decode b_R_faultOfLabels 26 = .ok (.aload_n 0, 1) := by decide +kernel
theorem d_R_faultOfLabels_27 : decode b_R_faultOfLabels 27 = .ok (.getfield 37, 3) := by decide +kernel
theorem d_R_faultOfLabels_30 : decode b_R_faultOfLabels 30 = .ok (.getfield 95, 3) := by decide +kernel
theorem d_R_faultOfLabels_33 : decode b_R_faultOfLabels 33 = .ok (.iload_n 1, 1) := by decide +kernel
theorem d_R_faultOfLabels_34 : decode b_R_faultOfLabels 34 = .ok (.iaload, 1) := by decide +kernel
theorem d_R_faultOfLabels_35 : decode b_R_faultOfLabels 35 = .ok (.iconst 2, 1) := by decide +kernel
theorem d_R_faultOfLabels_36 : decode b_R_faultOfLabels 36 = .ok (.if_icmp .ne 43, 3) := by decide +kernel
theorem d_R_faultOfLabels_39 : decode b_R_faultOfLabels 39 = .ok (.aload_n 0, 1) := by decide +kernel
theorem d_R_faultOfLabels_40 : decode b_R_faultOfLabels 40 = .ok (.getfield 37, 3) := by decide +kernel
theorem d_R_faultOfLabels_43 : decode b_R_faultOfLabels 43 = .ok (.getfield 98, 3) := by decide +kernel
theorem d_R_faultOfLabels_46 : decode b_R_faultOfLabels 46 = .ok (.iload_n 1, 1) := by decide +kernel
theorem d_R_faultOfLabels_47 : decode b_R_faultOfLabels 47 = .ok (.aload_n 0, 1) := by decide +kernel
theorem d_R_faultOfLabels_48 : decode b_R_faultOfLabels 48 = .ok (.getfield 11, 3) := by decide +kernel
theorem d_R_faultOfLabels_51 : decode b_R_faultOfLabels 51 = .ok (.aload_n 0, 1) := by decide +kernel
theorem d_R_faultOfLabels_52 : decode b_R_faultOfLabels 52 = .ok (.getfield 15, 3) := by decide +kernel
theorem d_R_faultOfLabels_55 : decode b_R_faultOfLabels 55 = .ok (.iload_n 1, 1) := by decide +kernel
theorem d_R_faultOfLabels_56 : decode b_R_faultOfLabels 56 = .ok (.iaload, 1) := by decide +kernel
theorem d_R_faultOfLabels_57 : decode b_R_faultOfLabels 57 = .ok (.iaload, 1) := by decide +kernel
theorem d_R_faultOfLabels_58 : decode b_R_faultOfLabels 58 = .ok (.iastore, 1) := by decide +kernel
theorem d_R_faultOfLabels_59 : decode b_R_faultOfLabels 59 = .ok (.aload_n 0, 1) := by decide +kernel
theorem d_R_faultOfLabels_60 : decode b_R_faultOfLabels 60 = .ok (.getfield 37, 3) := by decide +kernel
theorem d_R_faultOfLabels_63 : decode b_R_faultOfLabels 63 = .ok (.getfield 98, 3) := by decide +kernel
theorem d_R_faultOfLabels_66 : decode b_R_faultOfLabels 66 = .ok (.iload_n 1, 1) := by decide +kernel
theorem d_R_faultOfLabels_67 : decode b_R_faultOfLabels 67 = .ok (.iaload, 1) := by decide +kernel
theorem d_R_faultOfLabels_68 : decode b_R_faultOfLabels 68 = .ok (.iconst (-1), 1) := by decide +kernel
theorem d_R_faultOfLabels_69 : decode b_R_faultOfLabels 69 = .ok (.if_icmp .ne 10, 3) := by decide +kernel
theorem d_R_faultOfLabels_72 : decode b_R_faultOfLabels 72 = .ok (.aload_n 0, 1) := by decide +kernel
theorem d_R_faultOfLabels_73 : decode b_R_faultOfLabels 73 = .ok (.getfield 18, 3) := by decide +kernel
theorem d_R_faultOfLabels_76 : decode b_R_faultOfLabels 76 = .ok (.iload_n 1, 1) := by decide +kernel
theorem d_R_faultOfLabels_77 : decode b_R_faultOfLabels 77 = .ok (.iaload, 1) := by decide +kernel
theorem d_R_faultOfLabels_78 : decode b_R_faultOfLabels 78 = .ok (.ireturn, 1) := by decide +kernel
theorem d_R_faultOfLabels_79 : decode b_R_faultOfLabels 79 = .ok (.iinc 1 1, 3) := by decide +kernel
theorem d_R_faultOfLabels_82 : decode b_R_faultOfLabels 82 = .ok (.goto (-80), 3) := by decide +kernel
theorem d_R_faultOfLabels_85 : decode b_R_faultOfLabels 85 = .ok (.iconst (-1), 1) := by decide +kernel
theorem d_R_faultOfLabels_86 : decode b_R_faultOfLabels 86 = .ok (.ireturn, 1) := by decide +kernel
theorem d_R_isLabel_0 : decode b_R_isLabel 0 = .ok (.iload_n 0, 1) := by decide +kernel
theorem d_R_isLabel_1 : decode b_R_isLabel 1 = .ok (.bipush 65, 2) := by decide +kernel
theorem d_R_isLabel_3 : decode b_R_isLabel 3 = .ok (.if_icmp .lt 13, 3) := by decide +kernel
theorem d_R_isLabel_6 : decode b_R_isLabel 6 = .ok (.iload_n 0, 1) := by decide +kernel
theorem d_R_isLabel_7 : decode b_R_isLabel 7 = .ok (.bipush 90, 2) := by decide +kernel
theorem d_R_isLabel_9 : decode b_R_isLabel 9 = .ok (.if_icmp .gt 7, 3) := by decide +kernel
theorem d_R_isLabel_12 : decode b_R_isLabel 12 = .ok (.iconst 1, 1) := by decide +kernel
theorem d_R_isLabel_13 : decode b_R_isLabel 13 = .ok (.goto 4, 3) := by decide +kernel
theorem d_R_isLabel_16 : decode b_R_isLabel 16 = .ok (.iconst 0, 1) := by decide +kernel
theorem d_R_isLabel_17 : decode b_R_isLabel 17 = .ok (.ireturn, 1) := by decide +kernel
