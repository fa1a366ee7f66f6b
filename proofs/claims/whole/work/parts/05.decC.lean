theorem d_C_init_0 : decode b_C_init 0 = .ok (.aload_n 0, 1) := by decide +kernel
theorem d_C_init_1 : decode b_C_init 1 = .ok (.invokespecial 1, 3) := by decide +kernel
theorem d_C_init_4 : decode b_C_init 4 = .ok (.aload_n 0, 1) := by decide +kernel
theorem d_C_init_5 : decode b_C_init 5 = .ok (.bipush 120, 2) := by decide +kernel
theorem d_C_init_7 : decode b_C_init 7 = .ok (.newarray .char, 2) := by decide +kernel
theorem d_C_init_9 : decode b_C_init 9 = .ok (.putfield 9, 3) := by decide +kernel
theorem d_C_init_12 : decode b_C_init 12 = .ok (.aload_n 0, 1) := by decide +kernel
theorem d_C_init_13 : decode b_C_init 13 = .ok (.new 13, 3) := by decide +kernel
theorem d_C_init_16 : decode b_C_init 16 = .ok (.dup, 1) := by decide +kernel
theorem d_C_init_17 : decode b_C_init 17 = .ok (.invokespecial 15, 3) := by decide +kernel
theorem d_C_init_20 : decode b_C_init 20 = .ok (.putfield 16, 3) := by decide +kernel
theorem d_C_init_23 : decode b_C_init 23 = .ok (.aload_n 0, 1) := by decide +kernel
theorem d_C_init_24 : decode b_C_init 24 = .ok (.new 20, 3) := by decide +kernel
theorem d_C_init_27 : decode b_C_init 27 = .ok (.dup, 1) := by decide +kernel
theorem d_C_init_28 : decode b_C_init 28 = .ok (.invokespecial 22, 3) := by decide +kernel
theorem d_C_init_31 : decode b_C_init 31 = .ok (.putfield 23, 3) := by decide +kernel
theorem d_C_init_34 : decode b_C_init 34 = .ok (.aload_n 0, 1) := by decide +kernel
theorem d_C_init_35 : decode b_C_init 35 = .ok (.new 20, 3) := by decide +kernel
theorem d_C_init_38 : decode b_C_init 38 = .ok (.dup, 1) := by decide +kernel
theorem d_C_init_39 : decode b_C_init 39 = .ok (.invokespecial 22, 3) := by decide +kernel
theorem d_C_init_42 : decode b_C_init 42 = .ok (.putfield 27, 3) := by decide +kernel
theorem d_C_init_45 : decode b_C_init 45 = .ok (.aload_n 0, 1) := by decide +kernel
theorem d_C_init_46 : decode b_C_init 46 = .ok (.new 30, 3) := by decide +kernel
theorem d_C_init_49 : decode b_C_init 49 = .ok (.dup, 1) := by decide +kernel
theorem d_C_init_50 : decode b_C_init 50 = .ok (.invokespecial 32, 3) := by decide +kernel
theorem d_C_init_53 : decode b_C_init 53 = .ok (.putfield 33, 3) := by decide +kernel
theorem d_C_init_56 : decode b_C_init 56 = .ok (.aload_n 0, 1) := by decide +kernel
theorem d_C_init_57 : decode b_C_init 57 = .ok (.new 30, 3) := by decide +kernel
theorem d_C_init_60 : decode b_C_init 60 = .ok (.dup, 1) := by decide +kernel
theorem d_C_init_61 : decode b_C_init 61 = .ok (.invokespecial 32, 3) := by decide +kernel
theorem d_C_init_64 : decode b_C_init 64 = .ok (.putfield 37, 3) := by decide +kernel
theorem d_C_init_67 : decode b_C_init 67 = .ok (.aload_n 0, 1) := by decide +kernel
theorem d_C_init_68 : decode b_C_init 68 = .ok (.new 30, 3) := by decide +kernel
theorem d_C_init_71 : decode b_C_init 71 = .ok (.dup, 1) := by decide +kernel
theorem d_C_init_72 : decode b_C_init 72 = .ok (.invokespecial 32, 3) := by decide +kernel
theorem d_C_init_75 : decode b_C_init 75 = .ok (.putfield 40, 3) := by decide +kernel
theorem d_C_init_78 : decode b_C_init 78 = .ok (.aload_n 0, 1) := by decide +kernel
theorem d_C_init_79 : decode b_C_init 79 = .ok (.new 43, 3) := by decide +kernel
theorem d_C_init_82 : decode b_C_init 82 = .ok (.dup, 1) := by decide +kernel
theorem d_C_init_83 : decode b_C_init 83 = .ok (.invokespecial 45, 3) := by decide +kernel
theorem d_C_init_86 : decode b_C_init 86 = .ok (.putfield 46, 3) := by decide +kernel
theorem d_C_init_89 : decode b_C_init 89 = .ok (.aload_n 0, 1) := by decide +kernel
theorem d_C_init_90 : decode b_C_init 90 = .ok (.iconst 1, 1) := by decide +kernel
theorem d_C_init_91 : decode b_C_init 91 = .ok (.putfield 50, 3) := by decide +kernel
theorem d_C_init_94 : decode b_C_init 94 = .ok (.return_, 1) := by decide +kernel
theorem d_C_type_0 : decode b_C_type 0 = .ok (.iload_n 3, 1) := by decide +kernel
theorem d_C_type_1 : decode b_C_type 1 = .ok (.iconst 1, 1) := by decide +kernel
theorem d_C_type_2 : decode b_C_type 2 = .ok (.if_icmp .lt 9, 3) := by decide +kernel
theorem d_C_type_5 : decode b_C_type 5 = .ok (.iload_n 3, 1) := by decide +kernel
theorem d_C_type_6 : decode b_C_type 6 = .ok (.bipush 8, 2) := by decide +kernel
theorem d_C_type_8 : decode b_C_type 8 = .ok (.if_icmp .le 13, 3) := by decide +kernel
theorem d_C_type_11 : decode b_C_type 11 = .ok (.new 54, 3) := by decide +kernel
theorem d_C_type_14 : decode b_C_type 14 = .ok (.dup, 1) := by decide +kernel
theorem d_C_type_15 : decode b_C_type 15 = .ok (.ldc 56, 2) := by decide +kernel
theorem d_C_type_17 : decode b_C_type 17 = .ok (.invokespecial 58, 3) := by decide +kernel
theorem d_C_type_20 : decode b_C_type 20 = .ok (.athrow, 1) := by decide +kernel
theorem d_C_type_21 : decode b_C_type 21 = .ok (.iconst 0, 1) := by decide +kernel
theorem d_C_type_22 : decode b_C_type 22 = .ok (.istore 4, 2) := by decide +kernel
theorem d_C_type_24 : decode b_C_type 24 = .ok (.iload 4, 2) := by decide +kernel
theorem d_C_type_26 : decode b_C_type 26 = .ok (.iload_n 3, 1) := by decide +kernel
theorem d_C_type_27 : decode b_C_type 27 = .ok (.if_icmp .ge 41, 3) := by decide +kernel
theorem d_C_type_30 : decode b_C_type 30 = .ok (.lload_n 1, 1) := by decide +kernel
theorem d_C_type_31 : decode b_C_type 31 = .ok (.iload 4, 2) := by decide +kernel
theorem d_C_type_33 : decode b_C_type 33 = .ok (.invokestatic 61, 3) := by decide +kernel
theorem d_C_type_36 : decode b_C_type 36 = .ok (.istore 5, 2) := by decide +kernel
theorem d_C_type_38 : decode b_C_type 38 = .ok (.iload 5, 2) := by decide +kernel
theorem d_C_type_40 : decode b_C_type 40 = .ok (.bipush 32, 2) := by decide +kernel
theorem d_C_type_42 : decode b_C_type 42 = .ok (.if_icmp .lt 10, 3) := by decide +kernel
theorem d_C_type_45 : decode b_C_type 45 = .ok (.iload 5, 2) := by decide +kernel
theorem d_C_type_47 : decode b_C_type 47 = .ok (.bipush 126, 2) := by decide +kernel
theorem d_C_type_49 : decode b_C_type 49 = .ok (.if_icmp .le 13, 3) := by decide +kernel
theorem d_C_type_52 : decode b_C_type 52 = .ok (.new 54, 3) := by decide +kernel
theorem d_C_type_55 : decode b_C_type 55 = .ok (.dup, 1) := by decide +kernel
theorem d_C_type_56 : decode b_C_type 56 = .ok (.ldc 65, 2) := by decide +kernel
theorem d_C_type_58 : decode b_C_type 58 = .ok (.invokespecial 58, 3) := by decide +kernel
theorem d_C_type_61 : decode b_C_type 61 = .ok (.athrow, 1) := by decide +kernel
theorem d_C_type_62 : decode b_C_type 62 = .ok (.iinc 4 1, 3) := by decide +kernel
theorem d_C_type_65 : decode b_C_type 65 = .ok (.goto (-41), 3) := by decide +kernel
theorem d_C_type_68 : decode b_C_type 68 = .ok (.aload_n 0, 1) := by decide +kernel
theorem d_C_type_69 : decode b_C_type 69 = .ok (.getfield 67, 3) := by decide +kernel
theorem d_C_type_72 : decode b_C_type 72 = .ok (.iload_n 3, 1) := by decide +kernel
theorem d_C_type_73 : decode b_C_type 73 = .ok (.iadd, 1) := by decide +kernel
theorem d_C_type_74 : decode b_C_type 74 = .ok (.bipush 120, 2) := by decide +kernel
theorem d_C_type_76 : decode b_C_type 76 = .ok (.if_icmp .le 13, 3) := by decide +kernel
theorem d_C_type_79 : decode b_C_type 79 = .ok (.new 71, 3) := by decide +kernel
theorem d_C_type_82 : decode b_C_type 82 = .ok (.dup, 1) := by decide +kernel
theorem d_C_type_83 : decode b_C_type 83 = .ok (.ldc 73, 2) := by decide +kernel
theorem d_C_type_85 : decode b_C_type 85 = .ok (.invokespecial 75, 3) := by decide +kernel
theorem d_C_type_88 : decode b_C_type 88 = .ok (.athrow, 1) := by decide +kernel
theorem d_C_type_89 : decode b_C_type 89 = .ok (.iload_n 3, 1) := by decide +kernel
theorem d_C_type_90 : decode b_C_type 90 = .ok (.iconst 1, 1) := by decide +kernel
theorem d_C_type_91 : decode b_C_type 91 = .ok (.isub, 1) := by decide +kernel
theorem d_C_type_92 : decode b_C_type 92 = .ok (.istore 4, 2) := by decide +kernel
theorem d_C_type_94 : decode b_C_type 94 = .ok (.iload 4, 2) := by decide +kernel
theorem d_C_type_96 : decode b_C_type 96 = .ok (.ifCond .lt 35, 3) := by decide +kernel
theorem d_C_type_99 : decode b_C_type 99 = .ok (.aload_n 0, 1) := by decide +kernel
theorem d_C_type_100 : decode b_C_type 100 = .ok (.getfield 9, 3) := by decide +kernel
theorem d_C_type_103 : decode b_C_type 103 = .ok (.aload_n 0, 1) := by decide +kernel
theorem d_C_type_104 : decode b_C_type 104 = .ok (.getfield 67, 3) := by decide +kernel
theorem d_C_type_107 : decode b_C_type 107 = .ok (.lload_n 1, 1) := by decide +kernel
theorem d_C_type_108 : decode b_C_type 108 = .ok (.iload 4, 2) := by decide +kernel
theorem d_C_type_110 : decode b_C_type 110 = .ok (.invokestatic 61, 3) := by decide +kernel
theorem d_C_type_113 : decode b_C_type 113 = .ok (.i2c, 1) := by decide +kernel
theorem d_C_type_114 : decode b_C_type 114 = .ok (.castore, 1) := by decide +kernel
theorem d_C_type_115 : decode b_C_type 115 = .ok (.aload_n 0, 1) := by decide +kernel
theorem d_C_type_116 : decode b_C_type 116 = .ok (.dup, 1) := by decide +kernel
theorem d_C_type_117 : decode b_C_type 117 = .ok (.getfield 67, 3) := by decide +kernel
theorem d_C_type_120 : decode b_C_type 120 = .ok (.iconst 1, 1) := by decide +kernel
theorem d_C_type_121 : decode b_C_type 121 = .ok (.iadd, 1) := by decide +kernel
theorem d_C_type_122 : decode b_C_type 122 = .ok (.putfield 67, 3) := by decide +kernel
theorem d_C_type_125 : decode b_C_type 125 = .ok (.iinc 4 (-1), 3) := by decide +kernel
theorem d_C_type_128 : decode b_C_type 128 = .ok (.goto (-34), 3) := by decide +kernel
theorem d_C_type_131 : decode b_C_type 131 = .ok (.aload_n 0, 1) := by decide +kernel
theorem d_C_type_132 : decode b_C_type 132 = .ok (.getfield 67, 3) := by decide +kernel
theorem d_C_type_135 : decode b_C_type 135 = .ok (.ireturn, 1) := by decide +kernel
theorem d_C_wipe_0 : decode b_C_wipe 0 = .ok (.aload_n 0, 1) := by decide +kernel
theorem d_C_wipe_1 : decode b_C_wipe 1 = .ok (.getfield 67, 3) := by decide +kernel
theorem d_C_wipe_4 : decode b_C_wipe 4 = .ok (.istore_n 1, 1) := by decide +kernel
theorem d_C_wipe_5 : decode b_C_wipe 5 = .ok (.aload_n 0, 1) := by decide +kernel
theorem d_C_wipe_6 : decode b_C_wipe 6 = .ok (.iconst 0, 1) := by decide +kernel
theorem d_C_wipe_7 : decode b_C_wipe 7 = .ok (.putfield 67, 3) := by decide +kernel
theorem d_C_wipe_10 : decode b_C_wipe 10 = .ok (.iload_n 1, 1) := by decide +kernel
theorem d_C_wipe_11 : decode b_C_wipe 11 = .ok (.ireturn, 1) := by decide +kernel
theorem d_C_compile_0 : decode b_C_compile 0 = .ok (.aload_n 0, 1) := by decide +kernel
theorem d_C_compile_1 : decode b_C_compile 1 = .ok (.getfield 16, 3) := by decide +kernel
theorem d_C_compile_4 : decode b_C_compile 4 = .ok (.aload_n 0, 1) := by decide +kernel
theorem d_C_compile_5 : decode b_C_compile 5 = .ok (.getfield 9, 3) := by decide +kernel
theorem d_C_compile_8 : decode b_C_compile 8 = .ok (.aload_n 0, 1) := by decide +kernel
theorem d_C_compile_9 : decode b_C_compile 9 = .ok (.getfield 67, 3) := by decide +kernel
theorem d_C_compile_12 : decode b_C_compile 12 = .ok (.aload_n 0, 1) := by decide +kernel
theorem d_C_compile_13 : decode b_C_compile 13 = .ok (.getfield 27, 3) := by decide +kernel
theorem d_C_compile_16 : decode b_C_compile 16 = .ok (.invokevirtual 76, 3) := by decide +kernel
theorem d_C_compile_19 : decode b_C_compile 19 = .ok (.istore_n 1, 1) := by decide +kernel
theorem d_C_compile_20 : decode b_C_compile 20 = .ok (.iload_n 1, 1) := by decide +kernel
theorem d_C_compile_21 : decode b_C_compile 21 = .ok (.iconst (-1), 1) := by decide +kernel
theorem d_C_compile_22 : decode b_C_compile 22 = .ok (.if_icmp .eq 7, 3) := by decide +kernel
theorem d_C_compile_25 : decode b_C_compile 25 = .ok (.iload_n 1, 1) := by decide +kernel
theorem d_C_compile_26 : decode b_C_compile 26 = .ok (.iconst 1, 1) := by decide +kernel
theorem d_C_compile_27 : decode b_C_compile 27 = .ok (.iadd, 1) := by decide +kernel
theorem d_C_compile_28 : decode b_C_compile 28 = .ok (.ireturn, 1) := by decide +kernel
theorem d_C_compile_29 : decode b_C_compile 29 = .ok (.aload_n 0, 1) := by decide +kernel
theorem d_C_compile_30 : decode b_C_compile 30 = .ok (.getfield 27, 3) := by decide +kernel
theorem d_C_compile_33 : decode b_C_compile 33 = .ok (.invokevirtual 80, 3) := by decide +kernel
theorem d_C_compile_36 : decode b_C_compile 36 = .ok (.aload_n 0, 1) := by decide +kernel
theorem d_C_compile_37 : decode b_C_compile 37 = .ok (.getfield 27, 3) := by decide +kernel
theorem d_C_compile_40 : decode b_C_compile 40 = .ok (.invokevirtual 83, 3) := by decide +kernel
theorem d_C_compile_43 : decode b_C_compile 43 = .ok (.aload_n 0, 1) := by decide +kernel
theorem d_C_compile_44 : decode b_C_compile 44 = .ok (.getfield 23, 3) := by decide +kernel
theorem d_C_compile_47 : decode b_C_compile 47 = .ok (.astore_n 2, 1) := by decide +kernel
theorem d_C_compile_48 : decode b_C_compile 48 = .ok (.aload_n 0, 1) := by decide +kernel
theorem d_C_compile_49 : decode b_C_compile 49 = .ok (.aload_n 0, 1) := by decide +kernel
theorem d_C_compile_50 : decode b_C_compile 50 = .ok (.getfield 27, 3) := by decide +kernel
theorem d_C_compile_53 : decode b_C_compile 53 = .ok (.putfield 23, 3) := by decide +kernel
theorem d_C_compile_56 : decode b_C_compile 56 = .ok (.aload_n 0, 1) := by decide +kernel
theorem d_C_compile_57 : decode b_C_compile 57 = .ok (.aload_n 2, 1) := by decide +kernel
theorem d_C_compile_58 : decode b_C_compile 58 = .ok (.putfield 27, 3) := by decide +kernel
theorem d_C_compile_61 : decode b_C_compile 61 = .ok (.aload_n 0, 1) := by decide +kernel
theorem d_C_compile_62 : decode b_C_compile 62 = .ok (.invokevirtual 86, 3) := by decide +kernel
theorem d_C_compile_65 : decode b_C_compile 65 = .ok (.iconst 0, 1) := by decide +kernel
theorem d_C_compile_66 : decode b_C_compile 66 = .ok (.ireturn, 1) := by decide +kernel
theorem d_C_size_0 : decode b_C_size 0 = .ok (.aload_n 0, 1) := by decide +kernel
theorem d_C_size_1 : decode b_C_size 1 = .ok (.getfield 23, 3) := by decide +kernel
theorem d_C_size_4 : decode b_C_size 4 = .ok (.getfield 89, 3) := by decide +kernel
theorem d_C_size_7 : decode b_C_size 7 = .ok (.ireturn, 1) := by decide +kernel
theorem d_C_instruction_0 : decode b_C_instruction 0 = .ok (.iload_n 1, 1) := by decide +kernel
theorem d_C_instruction_1 : decode b_C_instruction 1 = .ok (.ifCond .lt 14, 3) := by decide +kernel
theorem d_C_instruction_4 : decode b_C_instruction 4 = .ok (.iload_n 1, 1) := by decide +kernel
theorem d_C_instruction_5 : decode b_C_instruction 5 = .ok (.aload_n 0, 1) := by decide +kernel
theorem d_C_instruction_6 : decode b_C_instruction 6 = .ok (.getfield 23, 3) := by decide +kernel
theorem d_C_instruction_9 : decode b_C_instruction 9 = .ok (.getfield 89, 3) := by decide +kernel
theorem d_C_instruction_12 : decode b_C_instruction 12 = .ok (.if_icmp .lt 5, 3) := by decide +kernel
theorem d_C_instruction_15 : decode b_C_instruction 15 = .ok (.iconst (-1), 1) := by decide +kernel
theorem d_C_instruction_16 : decode b_C_instruction 16 = .ok (.ireturn, 1) := by decide +kernel
theorem d_C_instruction_17 : decode b_C_instruction 17 = .ok (.iload_n 2, 1) := by decide +kernel
theorem d_C_instruction_18 : decode b_C_instruction 18 = .ok (.tableswitch 56 0 2 #[26, 36, 46], 26) := by decide +kernel
theorem d_C_instruction_44 : decode b_C_instruction 44 = .ok (.aload_n 0, 1) := by decide +kernel
theorem d_C_instruction_45 : decode b_C_instruction 45 = .ok (.getfield 23, 3) := by decide +kernel
theorem d_C_instruction_48 : decode b_C_instruction 48 = .ok (.getfield 92, 3) := by decide +kernel
theorem d_C_instruction_51 : decode b_C_instruction 51 = .ok (.iload_n 1, 1) := by decide +kernel
theorem d_C_instruction_52 : decode b_C_instruction 52 = .ok (.iaload, 1) := by decide +kernel
theorem d_C_instruction_53 : decode b_C_instruction 53 = .ok (.ireturn, 1) := by decide +kernel
theorem d_C_instruction_54 : decode b_C_instruction 54 = .ok (.aload_n 0, 1) := by decide +kernel
theorem d_C_instruction_55 : decode b_C_instruction 55 = .ok (.getfield 23, 3) := by decide +kernel
theorem d_C_instruction_58 : decode b_C_instruction 58 = .ok (.getfield 96, 3) := by decide +kernel
theorem d_C_instruction_61 : decode b_C_instruction 61 = .ok (.iload_n 1, 1) := by decide +kernel
theorem d_C_instruction_62 : decode b_C_instruction 62 = .ok (.iaload, 1) := by decide +kernel
theorem d_C_instruction_63 : decode b_C_instruction 63 = .ok (.ireturn, 1) := by decide +kernel
theorem d_C_instruction_64 : decode b_C_instruction 64 = .ok (.aload_n 0, 1) := by decide +kernel
theorem d_C_instruction_65 : decode b_C_instruction 65 = .ok (.getfield 23, 3) := by decide +kernel
theorem d_C_instruction_68 : decode b_C_instruction 68 = .ok (.getfield 99, 3) := by decide +kernel
theorem d_C_instruction_71 : decode b_C_instruction 71 = .ok (.iload_n 1, 1) := by decide +kernel
theorem d_C_instruction_72 : decode b_C_instruction 72 = .ok (.iaload, 1) := by decide +kernel
theorem d_C_instruction_73 : decode b_C_instruction 73 = .ok (.ireturn, 1) := by decide +kernel
theorem d_C_instruction_74 : decode b_C_instruction 74 = .ok (.iconst (-1), 1) := by decide +kernel
theorem d_C_instruction_75 : decode b_C_instruction 75 = .ok (.ireturn, 1) := by decide +kernel
theorem d_C_loops_0 : decode b_C_loops 0 = .ok (.aload_n 0, 1) := by decide +kernel
theorem d_C_loops_1 : decode b_C_loops 1 = .ok (.getfield 23, 3) := by decide +kernel
theorem d_C_loops_4 : decode b_C_loops 4 = .ok (.getfield 102, 3) := by decide +kernel
theorem d_C_loops_7 : decode b_C_loops 7 = .ok (.ireturn, 1) := by decide +kernel
theorem d_C_loop_0 : decode b_C_loop 0 = .ok (.iload_n 1, 1) := by decide +kernel
theorem d_C_loop_1 : decode b_C_loop 1 = .ok (.ifCond .lt 14, 3) := by decide +kernel
theorem d_C_loop_4 : decode b_C_loop 4 = .ok (.iload_n 1, 1) := by decide +kernel
theorem d_C_loop_5 : decode b_C_loop 5 = .ok (.aload_n 0, 1) := by decide +kernel
theorem d_C_loop_6 : decode b_C_loop 6 = .ok (.getfield 23, 3) := by decide +kernel
theorem d_C_loop_9 : decode b_C_loop 9 = .ok (.getfield 102, 3) := by decide +kernel
theorem d_C_loop_12 : decode b_C_loop 12 = .ok (.if_icmp .lt 5, 3) := by decide +kernel
theorem d_C_loop_15 : decode b_C_loop 15 = .ok (.iconst (-1), 1) := by decide +kernel
theorem d_C_loop_16 : decode b_C_loop 16 = .ok (.ireturn, 1) := by decide +kernel
theorem d_C_loop_17 : decode b_C_loop 17 = .ok (.iload_n 2, 1) := by decide +kernel
theorem d_C_loop_18 : decode b_C_loop 18 = .ok (.tableswitch 56 0 2 #[26, 36, 46], 26) := by decide +kernel
theorem d_C_loop_44 : decode b_C_loop 44 = .ok (.aload_n 0, 1) := by decide +kernel
theorem d_C_loop_45 : decode b_C_loop 45 = .ok (.getfield 23, 3) := by decide +kernel
theorem d_C_loop_48 : decode b_C_loop 48 = .ok (.getfield 105, 3) := by decide +kernel
theorem d_C_loop_51 : decode b_C_loop 51 = .ok (.iload_n 1, 1) := by decide +kernel
theorem d_C_loop_52 : decode b_C_loop 52 = .ok (.iaload, 1) := by decide +kernel
theorem d_C_loop_53 : decode b_C_loop 53 = .ok (.ireturn, 1) := by decide +kernel
theorem d_C_loop_54 : decode b_C_loop 54 = .ok (.aload_n 0, 1) := by decide +kernel
theorem d_C_loop_55 : decode b_C_loop 55 = .ok (.getfield 23, 3) := by decide +kernel
theorem d_C_loop_58 : decode b_C_loop 58 = .ok (.getfield 108, 3) := by decide +kernel
theorem d_C_loop_61 : decode b_C_loop 61 = .ok (.iload_n 1, 1) := by decide +kernel
theorem d_C_loop_62 : decode b_C_loop 62 = .ok (.iaload, 1) := by decide +kernel
theorem d_C_loop_63 : decode b_C_loop 63 = .ok (.ireturn, 1) := by decide +kernel
theorem d_C_loop_64 : decode b_C_loop 64 = .ok (.aload_n 0, 1) := by decide +kernel
theorem d_C_loop_65 : decode b_C_loop 65 = .ok (.getfield 23, 3) := by decide +kernel
theorem d_C_loop_68 : decode b_C_loop 68 = .ok (.getfield 111, 3) := by decide +kernel
theorem d_C_loop_71 : decode b_C_loop 71 = .ok (.iload_n 1, 1) := by decide +kernel
theorem d_C_loop_72 : decode b_C_loop 72 = .ok (.iaload, 1) := by decide +kernel
theorem d_C_loop_73 : decode b_C_loop 73 = .ok (.ireturn, 1) := by decide +kernel
theorem d_C_loop_74 : decode b_C_loop 74 = .ok (.iconst (-1), 1) := by decide +kernel
theorem d_C_loop_75 : decode b_C_loop 75 = .ok (.ireturn, 1) := by decide +kernel
theorem d_C_set_0 : decode b_C_set 0 = .ok (.iload_n 1, 1) := by decide +kernel
theorem d_C_set_1 : decode b_C_set 1 = .ok (.ifCond .lt 19, 3) := by decide +kernel
theorem d_C_set_4 : decode b_C_set 4 = .ok (.iload_n 1, 1) := by decide +kernel
theorem d_C_set_5 : decode b_C_set 5 = .ok (.bipush 8, 2) := by decide +kernel
theorem d_C_set_7 : decode b_C_set 7 = .ok (.if_icmp .ge 13, 3) := by decide +kernel
theorem d_C_set_10 : decode b_C_set 10 = .ok (.iload_n 2, 1) := by decide +kernel
theorem d_C_set_11 : decode b_C_set 11 = .ok (.ifCond .lt 9, 3) := by decide +kernel
theorem d_C_set_14 : decode b_C_set 14 = .ok (.iload_n 2, 1) := by decide +kernel
theorem d_C_set_15 : decode b_C_set 15 = .ok (.ldc 114, 2) := by decide +kernel
theorem d_C_set_17 : decode b_C_set 17 = .ok (.if_icmp .le 13, 3) := by decide +kernel
theorem d_C_set_20 : decode b_C_set 20 = .ok (.new 54, 3) := by decide +kernel
theorem d_C_set_23 : decode b_C_set 23 = .ok (.dup, 1) := by decide +kernel
theorem d_C_set_24 : decode b_C_set 24 = .ok (.ldc 115, 2) := by decide +kernel
theorem d_C_set_26 : decode b_C_set 26 = .ok (.invokespecial 58, 3) := by decide +kernel
theorem d_C_set_29 : decode b_C_set 29 = .ok (.athrow, 1) := by decide +kernel
theorem d_C_set_30 : decode b_C_set 30 = .ok (.aload_n 0, 1) := by decide +kernel
theorem d_C_set_31 : decode b_C_set 31 = .ok (.getfield 33, 3) := by decide +kernel
theorem d_C_set_34 : decode b_C_set 34 = .ok (.getfield 117, 3) := by decide +kernel
theorem d_C_set_37 : decode b_C_set 37 = .ok (.iload_n 1, 1) := by decide +kernel
theorem d_C_set_38 : decode b_C_set 38 = .ok (.iload_n 2, 1) := by decide +kernel
theorem d_C_set_39 : decode b_C_set 39 = .ok (.iastore, 1) := by decide +kernel
theorem d_C_set_40 : decode b_C_set 40 = .ok (.return_, 1) := by decide +kernel
theorem d_C_start_0 : decode b_C_start 0 = .ok (.aload_n 0, 1) := by decide +kernel
theorem d_C_start_1 : decode b_C_start 1 = .ok (.getfield 23, 3) := by decide +kernel
theorem d_C_start_4 : decode b_C_start 4 = .ok (.getfield 89, 3) := by decide +kernel
theorem d_C_start_7 : decode b_C_start 7 = .ok (.ifCond .ne 13, 3) := by decide +kernel
theorem d_C_start_10 : decode b_C_start 10 = .ok (.new 120, 3) := by decide +kernel
theorem d_C_start_13 : decode b_C_start 13 = .ok (.dup, 1) := by decide +kernel
theorem d_C_start_14 : decode b_C_start 14 = .ok (.ldc 122, 2) := by decide +kernel
theorem d_C_start_16 : decode b_C_start 16 = .ok (.invokespecial 124, 3) := by decide +kernel
theorem d_C_start_19 : decode b_C_start 19 = .ok (.athrow, 1) := by decide +kernel
theorem d_C_start_20 : decode b_C_start 20 = .ok (.aload_n 0, 1) := by decide +kernel
theorem d_C_start_21 : decode b_C_start 21 = .ok (.invokevirtual 86, 3) := by decide +kernel
theorem d_C_start_24 : decode b_C_start 24 = .ok (.return_, 1) := by decide +kernel
theorem d_C_leaps_0 : decode b_C_leaps 0 = .ok (.aload_n 0, 1) := by decide +kernel
theorem d_C_leaps_1 : decode b_C_leaps 1 = .ok (.iload_n 1, 1) := by decide +kernel
theorem d_C_leaps_2 : decode b_C_leaps 2 = .ok (.putfield 50, 3) := by decide +kernel
theorem d_C_leaps_5 : decode b_C_leaps 5 = .ok (.return_, 1) := by decide +kernel
theorem d_C_run_0 : decode b_C_run 0 = .ok (.aload_n 0, 1) := by decide +kernel
theorem d_C_run_1 : decode b_C_run 1 = .ok (.getfield 23, 3) := by decide +kernel
theorem d_C_run_4 : decode b_C_run 4 = .ok (.getfield 89, 3) := by decide +kernel
theorem d_C_run_7 : decode b_C_run 7 = .ok (.ifCond .ne 13, 3) := by decide +kernel
theorem d_C_run_10 : decode b_C_run 10 = .ok (.new 120, 3) := by decide +kernel
theorem d_C_run_13 : decode b_C_run 13 = .ok (.dup, 1) := by decide +kernel
theorem d_C_run_14 : decode b_C_run 14 = .ok (.ldc 122, 2) := by decide +kernel
theorem d_C_run_16 : decode b_C_run 16 = .ok (.invokespecial 124, 3) := by decide +kernel
theorem d_C_run_19 : decode b_C_run 19 = .ok (.athrow, 1) := by decide +kernel
theorem d_C_run_20 : decode b_C_run 20 = .ok (.iload_n 1, 1) := by decide +kernel
theorem d_C_run_21 : decode b_C_run 21 = .ok (.ifCond .lt 10, 3) := by decide +kernel
theorem d_C_run_24 : decode b_C_run 24 = .ok (.iload_n 1, 1) := by decide +kernel
theorem d_C_run_25 : decode b_C_run 25 = .ok (.sipush 1000, 3) := by decide +kernel
theorem d_C_run_28 : decode b_C_run 28 = .ok (.if_icmp .le 13, 3) := by decide +kernel
theorem d_C_run_31 : decode b_C_run 31 = .ok (.new 54, 3) := by decide +kernel
theorem d_C_run_34 : decode b_C_run 34 = .ok (.dup, 1) := by decide +kernel
theorem d_C_run_35 : decode b_C_run 35 = .ok (.ldc 125, 2) := by decide +kernel
theorem d_C_run_37 : decode b_C_run 37 = .ok (.invokespecial 58, 3) := by decide +kernel
theorem d_C_run_40 : decode b_C_run 40 = .ok (.athrow, 1) := by decide +kernel
theorem d_C_run_41 : decode b_C_run 41 = .ok (.aload_n 0, 1) := by decide +kernel
theorem d_C_run_42 : decode b_C_run 42 = .ok (.ldc2_w 127, 3) := by decide +kernel
theorem d_C_run_45 : decode b_C_run 45 = .ok (.invokevirtual 129, 3) := by decide +kernel
theorem d_C_run_48 : decode b_C_run 48 = .ok (.lstore_n 2, 1) := by decide +kernel
theorem d_C_run_49 : decode b_C_run 49 = .ok (.iconst 0, 1) := by decide +kernel
theorem d_C_run_50 : decode b_C_run 50 = .ok (.istore 4, 2) := by decide +kernel
theorem d_C_run_52 : decode b_C_run 52 = .ok (.iload 4, 2) := by decide +kernel
theorem d_C_run_54 : decode b_C_run 54 = .ok (.iload_n 1, 1) := by decide +kernel
theorem d_C_run_55 : decode b_C_run 55 = .ok (.if_icmp .ge 30, 3) := by decide +kernel
theorem d_C_run_58 : decode b_C_run 58 = .ok (.aload_n 0, 1) := by decide +kernel
theorem d_C_run_59 : decode b_C_run 59 = .ok (.lload_n 2, 1) := by decide +kernel
theorem d_C_run_60 : decode b_C_run 60 = .ok (.invokevirtual 133, 3) := by decide +kernel
theorem d_C_run_63 : decode b_C_run 63 = .ok (.ifCond .ne 22, 3) := by decide +kernel
theorem d_C_run_66 : decode b_C_run 66 = .ok (.aload_n 0, 1) := by decide +kernel
theorem d_C_run_67 : decode b_C_run 67 = .ok (.lload_n 2, 1) := by decide +kernel
theorem d_C_run_68 : decode b_C_run 68 = .ok (.invokevirtual 137, 3) := by decide +kernel
theorem d_C_run_71 : decode b_C_run 71 = .ok (.aload_n 0, 1) := by decide +kernel
theorem d_C_run_72 : decode b_C_run 72 = .ok (.ldc2_w 127, 3) := by decide +kernel
theorem d_C_run_75 : decode b_C_run 75 = .ok (.invokevirtual 129, 3) := by decide +kernel
theorem d_C_run_78 : decode b_C_run 78 = .ok (.lstore_n 2, 1) := by decide +kernel
theorem d_C_run_79 : decode b_C_run 79 = .ok (.iinc 4 1, 3) := by decide +kernel
theorem d_C_run_82 : decode b_C_run 82 = .ok (.goto (-30), 3) := by decide +kernel
theorem d_C_run_85 : decode b_C_run 85 = .ok (.aload_n 0, 1) := by decide +kernel
theorem d_C_run_86 : decode b_C_run 86 = .ok (.lload_n 2, 1) := by decide +kernel
theorem d_C_run_87 : decode b_C_run 87 = .ok (.invokevirtual 133, 3) := by decide +kernel
theorem d_C_run_90 : decode b_C_run 90 = .ok (.ireturn, 1) := by decide +kernel
theorem d_C_plain_0 : decode b_C_plain 0 = .ok (.aload_n 0, 1) := by decide +kernel
theorem d_C_plain_1 : decode b_C_plain 1 = .ok (.getfield 23, 3) := by decide +kernel
theorem d_C_plain_4 : decode b_C_plain 4 = .ok (.getfield 89, 3) := by decide +kernel
theorem d_C_plain_7 : decode b_C_plain 7 = .ok (.ifCond .ne 13, 3) := by decide +kernel
theorem d_C_plain_10 : decode b_C_plain 10 = .ok (.new 120, 3) := by decide +kernel
theorem d_C_plain_13 : decode b_C_plain 13 = .ok (.dup, 1) := by decide +kernel
theorem d_C_plain_14 : decode b_C_plain 14 = .ok (.ldc 122, 2) := by decide +kernel
theorem d_C_plain_16 : decode b_C_plain 16 = .ok (.invokespecial 124, 3) := by decide +kernel
theorem d_C_plain_19 : decode b_C_plain 19 = .ok (.athrow, 1) := by decide +kernel
theorem d_C_plain_20 : decode b_C_plain 20 = .ok (.iload_n 1, 1) := by decide +kernel
theorem d_C_plain_21 : decode b_C_plain 21 = .ok (.ifCond .lt 10, 3) := by decide +kernel
theorem d_C_plain_24 : decode b_C_plain 24 = .ok (.iload_n 1, 1) := by decide +kernel
theorem d_C_plain_25 : decode b_C_plain 25 = .ok (.sipush 1000, 3) := by decide +kernel
theorem d_C_plain_28 : decode b_C_plain 28 = .ok (.if_icmp .le 13, 3) := by decide +kernel
theorem d_C_plain_31 : decode b_C_plain 31 = .ok (.new 54, 3) := by decide +kernel
theorem d_C_plain_34 : decode b_C_plain 34 = .ok (.dup, 1) := by decide +kernel
theorem d_C_plain_35 : decode b_C_plain 35 = .ok (.ldc 141, 2) := by decide +kernel
theorem d_C_plain_37 : decode b_C_plain 37 = .ok (.invokespecial 58, 3) := by decide +kernel
theorem d_C_plain_40 : decode b_C_plain 40 = .ok (.athrow, 1) := by decide +kernel
theorem d_C_plain_41 : decode b_C_plain 41 = .ok (.iconst 0, 1) := by decide +kernel
theorem d_C_plain_42 : decode b_C_plain 42 = .ok (.istore_n 2, 1) := by decide +kernel
theorem d_C_plain_43 : decode b_C_plain 43 = .ok (.iload_n 2, 1) := by decide +kernel
theorem d_C_plain_44 : decode b_C_plain 44 = .ok (.iload_n 1, 1) := by decide +kernel
theorem d_C_plain_45 : decode b_C_plain 45 = .ok (.if_icmp .ge 34, 3) := by decide +kernel
theorem d_C_plain_48 : decode b_C_plain 48 = .ok (.aload_n 0, 1) := by decide +kernel
theorem d_C_plain_49 : decode b_C_plain 49 = .ok (.getfield 33, 3) := by decide +kernel
theorem d_C_plain_52 : decode b_C_plain 52 = .ok (.aload_n 0, 1) := by decide +kernel
theorem d_C_plain_53 : decode b_C_plain 53 = .ok (.getfield 23, 3) := by decide +kernel
theorem d_C_plain_56 : decode b_C_plain 56 = .ok (.invokevirtual 143, 3) := by decide +kernel
theorem d_C_plain_59 : decode b_C_plain 59 = .ok (.ifCond .ne 20, 3) := by decide +kernel
theorem d_C_plain_62 : decode b_C_plain 62 = .ok (.aload_n 0, 1) := by decide +kernel
theorem d_C_plain_63 : decode b_C_plain 63 = .ok (.getfield 33, 3) := by decide +kernel
theorem d_C_plain_66 : decode b_C_plain 66 = .ok (.aload_n 0, 1) := by decide +kernel
theorem d_C_plain_67 : decode b_C_plain 67 = .ok (.getfield 23, 3) := by decide +kernel
theorem d_C_plain_70 : decode b_C_plain 70 = .ok (.invokevirtual 147, 3) := by decide +kernel
theorem d_C_plain_73 : decode b_C_plain 73 = .ok (.iinc 2 1, 3) := by decide +kernel
theorem d_C_plain_76 : decode b_C_plain 76 = .ok (.goto (-33), 3) := by decide +kernel
theorem d_C_plain_79 : decode b_C_plain 79 = .ok (.iload_n 2, 1) := by decide +kernel
theorem d_C_plain_80 : decode b_C_plain 80 = .ok (.ireturn, 1) := by decide +kernel
theorem d_C_seek_0 : decode b_C_seek 0 = .ok (.aload_n 0, 1) := by decide +kernel
theorem d_C_seek_1 : decode b_C_seek 1 = .ok (.getfield 23, 3) := by decide +kernel
theorem d_C_seek_4 : decode b_C_seek 4 = .ok (.getfield 89, 3) := by decide +kernel
theorem d_C_seek_7 : decode b_C_seek 7 = .ok (.ifCond .ne 13, 3) := by decide +kernel
theorem d_C_seek_10 : decode b_C_seek 10 = .ok (.new 120, 3) := by decide +kernel
theorem d_C_seek_13 : decode b_C_seek 13 = .ok (.dup, 1) := by decide +kernel
theorem d_C_seek_14 : decode b_C_seek 14 = .ok (.ldc 122, 2) := by decide +kernel
theorem d_C_seek_16 : decode b_C_seek 16 = .ok (.invokespecial 124, 3) := by decide +kernel
theorem d_C_seek_19 : decode b_C_seek 19 = .ok (.athrow, 1) := by decide +kernel
theorem d_C_seek_20 : decode b_C_seek 20 = .ok (.lload_n 1, 1) := by decide +kernel
theorem d_C_seek_21 : decode b_C_seek 21 = .ok (.lconst 0, 1) := by decide +kernel
theorem d_C_seek_22 : decode b_C_seek 22 = .ok (.lcmp, 1) := by decide +kernel
theorem d_C_seek_23 : decode b_C_seek 23 = .ok (.ifCond .lt 11, 3) := by decide +kernel
theorem d_C_seek_26 : decode b_C_seek 26 = .ok (.lload_n 1, 1) := by decide +kernel
theorem d_C_seek_27 : decode b_C_seek 27 = .ok (.ldc2_w 127, 3) := by decide +kernel
theorem d_C_seek_30 : decode b_C_seek 30 = .ok (.lcmp, 1) := by decide +kernel
theorem d_C_seek_31 : decode b_C_seek 31 = .ok (.ifCond .le 13, 3) := by decide +kernel
theorem d_C_seek_34 : decode b_C_seek 34 = .ok (.new 54, 3) := by decide +kernel
theorem d_C_seek_37 : decode b_C_seek 37 = .ok (.dup, 1) := by decide +kernel
theorem d_C_seek_38 : decode b_C_seek 38 = .ok (.ldc 151, 2) := by decide +kernel
theorem d_C_seek_40 : decode b_C_seek 40 = .ok (.invokespecial 58, 3) := by decide +kernel
theorem d_C_seek_43 : decode b_C_seek 43 = .ok (.athrow, 1) := by decide +kernel
theorem d_C_seek_44 : decode b_C_seek 44 = .ok (.aload_n 0, 1) := by decide +kernel
theorem d_C_seek_45 : decode b_C_seek 45 = .ok (.getfield 40, 3) := by decide +kernel
theorem d_C_seek_48 : decode b_C_seek 48 = .ok (.aload_n 0, 1) := by decide +kernel
theorem d_C_seek_49 : decode b_C_seek 49 = .ok (.getfield 33, 3) := by decide +kernel
theorem d_C_seek_52 : decode b_C_seek 52 = .ok (.invokevirtual 153, 3) := by decide +kernel
theorem d_C_seek_55 : decode b_C_seek 55 = .ok (.aload_n 0, 1) := by decide +kernel
theorem d_C_seek_56 : decode b_C_seek 56 = .ok (.getfield 33, 3) := by decide +kernel
theorem d_C_seek_59 : decode b_C_seek 59 = .ok (.aload_n 0, 1) := by decide +kernel
theorem d_C_seek_60 : decode b_C_seek 60 = .ok (.getfield 37, 3) := by decide +kernel
theorem d_C_seek_63 : decode b_C_seek 63 = .ok (.invokevirtual 153, 3) := by decide +kernel
theorem d_C_seek_66 : decode b_C_seek 66 = .ok (.iconst 0, 1) := by decide +kernel
theorem d_C_seek_67 : decode b_C_seek 67 = .ok (.istore_n 3, 1) := by decide +kernel
theorem d_C_seek_68 : decode b_C_seek 68 = .ok (.iload_n 3, 1) := by decide +kernel
theorem d_C_seek_69 : decode b_C_seek 69 = .ok (.sipush 2000, 3) := by decide +kernel
theorem d_C_seek_72 : decode b_C_seek 72 = .ok (.if_icmp .ge 26, 3) := by decide +kernel
theorem d_C_seek_75 : decode b_C_seek 75 = .ok (.aload_n 0, 1) := by decide +kernel
theorem d_C_seek_76 : decode b_C_seek 76 = .ok (.lload_n 1, 1) := by decide +kernel
theorem d_C_seek_77 : decode b_C_seek 77 = .ok (.invokevirtual 157, 3) := by decide +kernel
theorem d_C_seek_80 : decode b_C_seek 80 = .ok (.ifCond .eq 18, 3) := by decide +kernel
theorem d_C_seek_83 : decode b_C_seek 83 = .ok (.aload_n 0, 1) := by decide +kernel
theorem d_C_seek_84 : decode b_C_seek 84 = .ok (.aload_n 0, 1) := by decide +kernel
theorem d_C_seek_85 : decode b_C_seek 85 = .ok (.lload_n 1, 1) := by decide +kernel
theorem d_C_seek_86 : decode b_C_seek 86 = .ok (.invokevirtual 129, 3) := by decide +kernel
theorem d_C_seek_89 : decode b_C_seek 89 = .ok (.invokevirtual 161, 3) := by decide +kernel
theorem d_C_seek_92 : decode b_C_seek 92 = .ok (.iinc 3 1, 3) := by decide +kernel
theorem d_C_seek_95 : decode b_C_seek 95 = .ok (.goto (-27), 3) := by decide +kernel
theorem d_C_seek_98 : decode b_C_seek 98 = .ok (.aload_n 0, 1) := by decide +kernel
theorem d_C_seek_99 : decode b_C_seek 99 = .ok (.lload_n 1, 1) := by decide +kernel
theorem d_C_seek_100 : decode b_C_seek 100 = .ok (.invokevirtual 157, 3) := by decide +kernel
theorem d_C_seek_103 : decode b_C_seek 103 = .ok (.ifCond .eq 24, 3) := by decide +kernel
theorem d_C_seek_106 : decode b_C_seek 106 = .ok (.aload_n 0, 1) := by decide +kernel
theorem d_C_seek_107 : decode b_C_seek 107 = .ok (.getfield 33, 3) := by decide +kernel
theorem d_C_seek_110 : decode b_C_seek 110 = .ok (.aload_n 0, 1) := by decide +kernel
theorem d_C_seek_111 : decode b_C_seek 111 = .ok (.getfield 40, 3) := by decide +kernel
theorem d_C_seek_114 : decode b_C_seek 114 = .ok (.invokevirtual 153, 3) := by decide +kernel
theorem d_C_seek_117 : decode b_C_seek 117 = .ok (.new 71, 3) := by decide +kernel
theorem d_C_seek_120 : decode b_C_seek 120 = .ok (.dup, 1) := by decide +kernel
theorem d_C_seek_121 : decode b_C_seek 121 = .ok (.ldc 164, 2) := by decide +kernel
theorem d_C_seek_123 : decode b_C_seek 123 = .ok (.invokespecial 75, 3) := by decide +kernel
theorem d_C_seek_126 : decode b_C_seek 126 = .ok (.athrow, 1) := by decide +kernel
theorem d_C_seek_127 : decode b_C_seek 127 = .ok (.aload_n 0, 1) := by decide +kernel
theorem d_C_seek_128 : decode b_C_seek 128 = .ok (.getfield 33, 3) := by decide +kernel
theorem d_C_seek_131 : decode b_C_seek 131 = .ok (.getfield 166, 3) := by decide +kernel
theorem d_C_seek_134 : decode b_C_seek 134 = .ok (.lload_n 1, 1) := by decide +kernel
theorem d_C_seek_135 : decode b_C_seek 135 = .ok (.lcmp, 1) := by decide +kernel
theorem d_C_seek_136 : decode b_C_seek 136 = .ok (.ifCond .ne 5, 3) := by decide +kernel
theorem d_C_seek_139 : decode b_C_seek 139 = .ok (.iconst 1, 1) := by decide +kernel
theorem d_C_seek_140 : decode b_C_seek 140 = .ok (.ireturn, 1) := by decide +kernel
theorem d_C_seek_141 : decode b_C_seek 141 = .ok (.aload_n 0, 1) := by decide +kernel
theorem d_C_seek_142 : decode b_C_seek 142 = .ok (.getfield 33, 3) := by decide +kernel
theorem d_C_seek_145 : decode b_C_seek 145 = .ok (.aload_n 0, 1) := by decide +kernel
theorem d_C_seek_146 : decode b_C_seek 146 = .ok (.getfield 23, 3) := by decide +kernel
theorem d_C_seek_149 : decode b_C_seek 149 = .ok (.invokevirtual 170, 3) := by decide +kernel
theorem d_C_seek_152 : decode b_C_seek 152 = .ok (.ifCond .eq 7, 3) := by decide +kernel
theorem d_C_seek_155 : decode b_C_seek 155 = .ok (.iconst 0, 1) := by decide +kernel
theorem d_C_seek_156 : decode b_C_seek 156 = .ok (.goto 4, 3) := by decide +kernel
theorem d_C_seek_159 : decode b_C_seek 159 = .ok (.iconst 2, 1) := by decide +kernel
theorem d_C_seek_160 : decode b_C_seek 160 = .ok (.ireturn, 1) := by decide +kernel
theorem d_C_state_0 : decode b_C_state 0 = .ok (.aload_n 0, 1) := by decide +kernel
theorem d_C_state_1 : decode b_C_state 1 = .ok (.aload_n 0, 1) := by decide +kernel
theorem d_C_state_2 : decode b_C_state 2 = .ok (.ldc2_w 127, 3) := by decide +kernel
theorem d_C_state_5 : decode b_C_state 5 = .ok (.invokevirtual 129, 3) := by decide +kernel
theorem d_C_state_8 : decode b_C_state 8 = .ok (.invokevirtual 133, 3) := by decide +kernel
theorem d_C_state_11 : decode b_C_state 11 = .ok (.ireturn, 1) := by decide +kernel
theorem d_C_at_0 : decode b_C_at 0 = .ok (.aload_n 0, 1) := by decide +kernel
theorem d_C_at_1 : decode b_C_at 1 = .ok (.getfield 33, 3) := by decide +kernel
theorem d_C_at_4 : decode b_C_at 4 = .ok (.getfield 173, 3) := by decide +kernel
theorem d_C_at_7 : decode b_C_at 7 = .ok (.ireturn, 1) := by decide +kernel
theorem d_C_steps_0 : decode b_C_steps 0 = .ok (.aload_n 0, 1) := by decide +kernel
theorem d_C_steps_1 : decode b_C_steps 1 = .ok (.getfield 33, 3) := by decide +kernel
theorem d_C_steps_4 : decode b_C_steps 4 = .ok (.getfield 166, 3) := by decide +kernel
theorem d_C_steps_7 : decode b_C_steps 7 = .ok (.lreturn, 1) := by decide +kernel
theorem d_C_counter_0 : decode b_C_counter 0 = .ok (.iload_n 1, 1) := by decide +kernel
theorem d_C_counter_1 : decode b_C_counter 1 = .ok (.ifCond .lt 9, 3) := by decide +kernel
theorem d_C_counter_4 : decode b_C_counter 4 = .ok (.iload_n 1, 1) := by decide +kernel
theorem d_C_counter_5 : decode b_C_counter 5 = .ok (.bipush 8, 2) := by decide +kernel
theorem d_C_counter_7 : decode b_C_counter 7 = .ok (.if_icmp .lt 7, 3) := by decide +kernel
theorem d_C_counter_10 : decode b_C_counter 10 = .ok (.iconst (-1), 1) := by decide +kernel
theorem d_C_counter_11 : decode b_C_counter 11 = .ok (.goto 12, 3) := by decide +kernel
theorem d_C_counter_14 : decode b_C_counter 14 = .ok (.aload_n 0, 1) := by decide +kernel
theorem d_C_counter_15 : decode b_C_counter 15 = .ok (.getfield 33, 3) := by decide +kernel
theorem d_C_counter_18 : decode b_C_counter 18 = .ok (.getfield 117, 3) := by decide +kernel
theorem d_C_counter_21 : decode b_C_counter 21 = .ok (.iload_n 1, 1) := by decide +kernel
theorem d_C_counter_22 : decode b_C_counter 22 = .ok (.iaload, 1) := by decide +kernel
theorem d_C_counter_23 : decode b_C_counter 23 = .ok (.ireturn, 1) := by decide +kernel
theorem d_C_change_0 : decode b_C_change 0 = .ok (.iload_n 1, 1) := by decide +kernel
theorem d_C_change_1 : decode b_C_change 1 = .ok (.ifCond .lt 24, 3) := by decide +kernel
theorem d_C_change_4 : decode b_C_change 4 = .ok (.iload_n 1, 1) := by decide +kernel
theorem d_C_change_5 : decode b_C_change 5 = .ok (.aload_n 0, 1) := by decide +kernel
theorem d_C_change_6 : decode b_C_change 6 = .ok (.getfield 23, 3) := by decide +kernel
theorem d_C_change_9 : decode b_C_change 9 = .ok (.getfield 102, 3) := by decide +kernel
theorem d_C_change_12 : decode b_C_change 12 = .ok (.if_icmp .ge 13, 3) := by decide +kernel
theorem d_C_change_15 : decode b_C_change 15 = .ok (.iload_n 2, 1) := by decide +kernel
theorem d_C_change_16 : decode b_C_change 16 = .ok (.ifCond .lt 9, 3) := by decide +kernel
theorem d_C_change_19 : decode b_C_change 19 = .ok (.iload_n 2, 1) := by decide +kernel
theorem d_C_change_20 : decode b_C_change 20 = .ok (.bipush 8, 2) := by decide +kernel
theorem d_C_change_22 : decode b_C_change 22 = .ok (.if_icmp .lt 13, 3) := by decide +kernel
theorem d_C_change_25 : decode b_C_change 25 = .ok (.new 176, 3) := by decide +kernel
theorem d_C_change_28 : decode b_C_change 28 = .ok (.dup, 1) := by decide +kernel
theorem d_C_change_29 : decode b_C_change 29 = .ok (.ldc 178, 2) := by decide +kernel
theorem d_C_change_31 : decode b_C_change 31 = .ok (.invokespecial 180, 3) := by decide +kernel
theorem d_C_change_34 : decode b_C_change 34 = .ok (.athrow, 1) := by decide +kernel
theorem d_C_change_35 : decode b_C_change 35 = .ok (.aload_n 0, 1) := by decide +kernel
theorem d_C_change_36 : decode b_C_change 36 = .ok (.getfield 46, 3) := by decide +kernel
theorem d_C_change_39 : decode b_C_change 39 = .ok (.aload_n 0, 1) := by decide +kernel
theorem d_C_change_40 : decode b_C_change 40 = .ok (.getfield 23, 3) := by decide +kernel
theorem d_C_change_43 : decode b_C_change 43 = .ok (.iload_n 1, 1) := by decide +kernel
theorem d_C_change_44 : decode b_C_change 44 = .ok (.aload_n 0, 1) := by decide +kernel
theorem d_C_change_45 : decode b_C_change 45 = .ok (.getfield 33, 3) := by decide +kernel
theorem d_C_change_48 : decode b_C_change 48 = .ok (.getfield 117, 3) := by decide +kernel
theorem d_C_change_51 : decode b_C_change 51 = .ok (.invokevirtual 181, 3) := by decide +kernel
theorem d_C_change_54 : decode b_C_change 54 = .ok (.aload_n 0, 1) := by decide +kernel
theorem d_C_change_55 : decode b_C_change 55 = .ok (.getfield 46, 3) := by decide +kernel
theorem d_C_change_58 : decode b_C_change 58 = .ok (.ldc2_w 127, 3) := by decide +kernel
theorem d_C_change_61 : decode b_C_change 61 = .ok (.invokevirtual 185, 3) := by decide +kernel
theorem d_C_change_64 : decode b_C_change 64 = .ok (.lconst 0, 1) := by decide +kernel
theorem d_C_change_65 : decode b_C_change 65 = .ok (.lcmp, 1) := by decide +kernel
theorem d_C_change_66 : decode b_C_change 66 = .ok (.ifCond .ne 13, 3) := by decide +kernel
theorem d_C_change_69 : decode b_C_change 69 = .ok (.new 71, 3) := by decide +kernel
theorem d_C_change_72 : decode b_C_change 72 = .ok (.dup, 1) := by decide +kernel
theorem d_C_change_73 : decode b_C_change 73 = .ok (.ldc 188, 2) := by decide +kernel
theorem d_C_change_75 : decode b_C_change 75 = .ok (.invokespecial 75, 3) := by decide +kernel
theorem d_C_change_78 : decode b_C_change 78 = .ok (.athrow, 1) := by decide +kernel
theorem d_C_change_79 : decode b_C_change 79 = .ok (.aload_n 0, 1) := by decide +kernel
theorem d_C_change_80 : decode b_C_change 80 = .ok (.getfield 46, 3) := by decide +kernel
theorem d_C_change_83 : decode b_C_change 83 = .ok (.getfield 190, 3) := by decide +kernel
theorem d_C_change_86 : decode b_C_change 86 = .ok (.iload_n 2, 1) := by decide +kernel
theorem d_C_change_87 : decode b_C_change 87 = .ok (.iaload, 1) := by decide +kernel
theorem d_C_change_88 : decode b_C_change 88 = .ok (.ireturn, 1) := by decide +kernel
theorem d_C_leap_0 : decode b_C_leap 0 = .ok (.iload_n 1, 1) := by decide +kernel
theorem d_C_leap_1 : decode b_C_leap 1 = .ok (.ifCond .ne 9, 3) := by decide +kernel
theorem d_C_leap_4 : decode b_C_leap 4 = .ok (.aload_n 0, 1) := by decide +kernel
theorem d_C_leap_5 : decode b_C_leap 5 = .ok (.getfield 193, 3) := by decide +kernel
theorem d_C_leap_8 : decode b_C_leap 8 = .ok (.i2l, 1) := by decide +kernel
theorem d_C_leap_9 : decode b_C_leap 9 = .ok (.lreturn, 1) := by decide +kernel
theorem d_C_leap_10 : decode b_C_leap 10 = .ok (.aload_n 0, 1) := by decide +kernel
theorem d_C_leap_11 : decode b_C_leap 11 = .ok (.getfield 193, 3) := by decide +kernel
theorem d_C_leap_14 : decode b_C_leap 14 = .ok (.ifCond .ne 7, 3) := by decide +kernel
theorem d_C_leap_17 : decode b_C_leap 17 = .ok (.ldc2_w 196, 3) := by decide +kernel
theorem d_C_leap_20 : decode b_C_leap 20 = .ok (.lreturn, 1) := by decide +kernel
theorem d_C_leap_21 : decode b_C_leap 21 = .ok (.iload_n 1, 1) := by decide +kernel
theorem d_C_leap_22 : decode b_C_leap 22 = .ok (.tableswitch 42 1 3 #[26, 32, 37], 26) := by decide +kernel
theorem d_C_leap_48 : decode b_C_leap 48 = .ok (.aload_n 0, 1) := by decide +kernel
theorem d_C_leap_49 : decode b_C_leap 49 = .ok (.getfield 198, 3) := by decide +kernel
theorem d_C_leap_52 : decode b_C_leap 52 = .ok (.i2l, 1) := by decide +kernel
theorem d_C_leap_53 : decode b_C_leap 53 = .ok (.lreturn, 1) := by decide +kernel
theorem d_C_leap_54 : decode b_C_leap 54 = .ok (.aload_n 0, 1) := by decide +kernel
theorem d_C_leap_55 : decode b_C_leap 55 = .ok (.getfield 201, 3) := by decide +kernel
theorem d_C_leap_58 : decode b_C_leap 58 = .ok (.lreturn, 1) := by decide +kernel
theorem d_C_leap_59 : decode b_C_leap 59 = .ok (.aload_n 0, 1) := by decide +kernel
theorem d_C_leap_60 : decode b_C_leap 60 = .ok (.getfield 204, 3) := by decide +kernel
theorem d_C_leap_63 : decode b_C_leap 63 = .ok (.lreturn, 1) := by decide +kernel
theorem d_C_leap_64 : decode b_C_leap 64 = .ok (.ldc2_w 196, 3) := by decide +kernel
theorem d_C_leap_67 : decode b_C_leap 67 = .ok (.lreturn, 1) := by decide +kernel
theorem d_C_byteOf_0 : decode b_C_byteOf 0 = .ok (.lload_n 0, 1) := by decide +kernel
theorem d_C_byteOf_1 : decode b_C_byteOf 1 = .ok (.bipush 8, 2) := by decide +kernel
theorem d_C_byteOf_3 : decode b_C_byteOf 3 = .ok (.iload_n 2, 1) := by decide +kernel
theorem d_C_byteOf_4 : decode b_C_byteOf 4 = .ok (.imul, 1) := by decide +kernel
theorem d_C_byteOf_5 : decode b_C_byteOf 5 = .ok (.lushr, 1) := by decide +kernel
theorem d_C_byteOf_6 : decode b_C_byteOf 6 = .ok (.l2i, 1) := by decide +kernel
theorem d_C_byteOf_7 : decode b_C_byteOf 7 = .ok (.sipush 255, 3) := by decide +kernel
theorem d_C_byteOf_10 : decode b_C_byteOf 10 = .ok (.iand, 1) := by decide +kernel
theorem d_C_byteOf_11 : decode b_C_byteOf 11 = .ok (.ireturn, 1) := by decide +kernel
theorem d_C_begin_0 : decode b_C_begin 0 = .ok (.aload_n 0, 1) := by decide +kernel
theorem d_C_begin_1 : decode b_C_begin 1 = .ok (.getfield 33, 3) := by decide +kernel
theorem d_C_begin_4 : decode b_C_begin 4 = .ok (.iconst 0, 1) := by decide +kernel
theorem d_C_begin_5 : decode b_C_begin 5 = .ok (.putfield 173, 3) := by decide +kernel
theorem d_C_begin_8 : decode b_C_begin 8 = .ok (.aload_n 0, 1) := by decide +kernel
theorem d_C_begin_9 : decode b_C_begin 9 = .ok (.getfield 33, 3) := by decide +kernel
theorem d_C_begin_12 : decode b_C_begin 12 = .ok (.lconst 0, 1) := by decide +kernel
theorem d_C_begin_13 : decode b_C_begin 13 = .ok (.putfield 166, 3) := by decide +kernel
theorem d_C_begin_16 : decode b_C_begin 16 = .ok (.aload_n 0, 1) := by decide +kernel
theorem d_C_begin_17 : decode b_C_begin 17 = .ok (.getfield 37, 3) := by decide +kernel
theorem d_C_begin_20 : decode b_C_begin 20 = .ok (.aload_n 0, 1) := by decide +kernel
theorem d_C_begin_21 : decode b_C_begin 21 = .ok (.getfield 33, 3) := by decide +kernel
theorem d_C_begin_24 : decode b_C_begin 24 = .ok (.invokevirtual 153, 3) := by decide +kernel
theorem d_C_begin_27 : decode b_C_begin 27 = .ok (.aload_n 0, 1) := by decide +kernel
theorem d_C_begin_28 : decode b_C_begin 28 = .ok (.iconst 0, 1) := by decide +kernel
theorem d_C_begin_29 : decode b_C_begin 29 = .ok (.putfield 193, 3) := by decide +kernel
theorem d_C_begin_32 : decode b_C_begin 32 = .ok (.return_, 1) := by decide +kernel
theorem d_C_passesUntil_0 : decode b_C_passesUntil 0 = .ok (.aload_n 0, 1) := by decide +kernel
theorem d_C_passesUntil_1 : decode b_C_passesUntil 1 = .ok (.getfield 23, 3) := by decide +kernel
theorem d_C_passesUntil_4 : decode b_C_passesUntil 4 = .ok (.aload_n 0, 1) := by decide +kernel
theorem d_C_passesUntil_5 : decode b_C_passesUntil 5 = .ok (.getfield 33, 3) := by decide +kernel
theorem d_C_passesUntil_8 : decode b_C_passesUntil 8 = .ok (.getfield 173, 3) := by decide +kernel
theorem d_C_passesUntil_11 : decode b_C_passesUntil 11 = .ok (.invokevirtual 207, 3) := by decide +kernel
theorem d_C_passesUntil_14 : decode b_C_passesUntil 14 = .ok (.istore_n 3, 1) := by decide +kernel
theorem d_C_passesUntil_15 : decode b_C_passesUntil 15 = .ok (.iload_n 3, 1) := by decide +kernel
theorem d_C_passesUntil_16 : decode b_C_passesUntil 16 = .ok (.iconst (-1), 1) := by decide +kernel
theorem d_C_passesUntil_17 : decode b_C_passesUntil 17 = .ok (.if_icmp .ne 5, 3) := by decide +kernel
theorem d_C_passesUntil_20 : decode b_C_passesUntil 20 = .ok (.lconst 0, 1) := by decide +kernel
theorem d_C_passesUntil_21 : decode b_C_passesUntil 21 = .ok (.lreturn, 1) := by decide +kernel
theorem d_C_passesUntil_22 : decode b_C_passesUntil 22 = .ok (.aload_n 0, 1) := by decide +kernel
theorem d_C_passesUntil_23 : decode b_C_passesUntil 23 = .ok (.getfield 46, 3) := by decide +kernel
theorem d_C_passesUntil_26 : decode b_C_passesUntil 26 = .ok (.aload_n 0, 1) := by decide +kernel
theorem d_C_passesUntil_27 : decode b_C_passesUntil 27 = .ok (.getfield 23, 3) := by decide +kernel
theorem d_C_passesUntil_30 : decode b_C_passesUntil 30 = .ok (.iload_n 3, 1) := by decide +kernel
theorem d_C_passesUntil_31 : decode b_C_passesUntil 31 = .ok (.aload_n 0, 1) := by decide +kernel
theorem d_C_passesUntil_32 : decode b_C_passesUntil 32 = .ok (.getfield 33, 3) := by decide +kernel
theorem d_C_passesUntil_35 : decode b_C_passesUntil 35 = .ok (.getfield 117, 3) := by decide +kernel
theorem d_C_passesUntil_38 : decode b_C_passesUntil 38 = .ok (.invokevirtual 181, 3) := by decide +kernel
theorem d_C_passesUntil_41 : decode b_C_passesUntil 41 = .ok (.aload_n 0, 1) := by decide +kernel
theorem d_C_passesUntil_42 : decode b_C_passesUntil 42 = .ok (.getfield 46, 3) := by decide +kernel
theorem d_C_passesUntil_45 : decode b_C_passesUntil 45 = .ok (.lload_n 1, 1) := by decide +kernel
theorem d_C_passesUntil_46 : decode b_C_passesUntil 46 = .ok (.aload_n 0, 1) := by decide +kernel
theorem d_C_passesUntil_47 : decode b_C_passesUntil 47 = .ok (.getfield 33, 3) := by decide +kernel
theorem d_C_passesUntil_50 : decode b_C_passesUntil 50 = .ok (.getfield 166, 3) := by decide +kernel
theorem d_C_passesUntil_53 : decode b_C_passesUntil 53 = .ok (.lsub, 1) := by decide +kernel
theorem d_C_passesUntil_54 : decode b_C_passesUntil 54 = .ok (.invokevirtual 185, 3) := by decide +kernel
theorem d_C_passesUntil_57 : decode b_C_passesUntil 57 = .ok (.lreturn, 1) := by decide +kernel
theorem d_C_stateWith_0 : decode b_C_stateWith 0 = .ok (.aload_n 0, 1) := by decide +kernel
theorem d_C_stateWith_1 : decode b_C_stateWith 1 = .ok (.getfield 33, 3) := by decide +kernel
theorem d_C_stateWith_4 : decode b_C_stateWith 4 = .ok (.aload_n 0, 1) := by decide +kernel
theorem d_C_stateWith_5 : decode b_C_stateWith 5 = .ok (.getfield 23, 3) := by decide +kernel
theorem d_C_stateWith_8 : decode b_C_stateWith 8 = .ok (.invokevirtual 170, 3) := by decide +kernel
theorem d_C_stateWith_11 : decode b_C_stateWith 11 = .ok (.ifCond .eq 5, 3) := by decide +kernel
theorem d_C_stateWith_14 : decode b_C_stateWith 14 = .ok (.iconst 1, 1) := by decide +kernel
theorem d_C_stateWith_15 : decode b_C_stateWith 15 = .ok (.ireturn, 1) := by decide +kernel
theorem d_C_stateWith_16 : decode b_C_stateWith 16 = .ok (.aload_n 0, 1) := by decide +kernel
theorem d_C_stateWith_17 : decode b_C_stateWith 17 = .ok (.getfield 33, 3) := by decide +kernel
theorem d_C_stateWith_20 : decode b_C_stateWith 20 = .ok (.aload_n 0, 1) := by decide +kernel
theorem d_C_stateWith_21 : decode b_C_stateWith 21 = .ok (.getfield 23, 3) := by decide +kernel
theorem d_C_stateWith_24 : decode b_C_stateWith 24 = .ok (.invokevirtual 211, 3) := by decide +kernel
theorem d_C_stateWith_27 : decode b_C_stateWith 27 = .ok (.ifCond .eq 5, 3) := by decide +kernel
theorem d_C_stateWith_30 : decode b_C_stateWith 30 = .ok (.iconst 2, 1) := by decide +kernel
theorem d_C_stateWith_31 : decode b_C_stateWith 31 = .ok (.ireturn, 1) := by decide +kernel
theorem d_C_stateWith_32 : decode b_C_stateWith 32 = .ok (.lload_n 1, 1) := by decide +kernel
theorem d_C_stateWith_33 : decode b_C_stateWith 33 = .ok (.lconst 0, 1) := by decide +kernel
theorem d_C_stateWith_34 : decode b_C_stateWith 34 = .ok (.lcmp, 1) := by decide +kernel
theorem d_C_stateWith_35 : decode b_C_stateWith 35 = .ok (.ifCond .le 17, 3) := by decide +kernel
theorem d_C_stateWith_38 : decode b_C_stateWith 38 = .ok (.aload_n 0, 1) := by decide +kernel
theorem d_C_stateWith_39 : decode b_C_stateWith 39 = .ok (.getfield 46, 3) := by decide +kernel
theorem d_C_stateWith_42 : decode b_C_stateWith 42 = .ok (.invokevirtual 214, 3) := by decide +kernel
theorem d_C_stateWith_45 : decode b_C_stateWith 45 = .ok (.ifCond .eq 7, 3) := by decide +kernel
theorem d_C_stateWith_48 : decode b_C_stateWith 48 = .ok (.iconst 3, 1) := by decide +kernel
theorem d_C_stateWith_49 : decode b_C_stateWith 49 = .ok (.goto 4, 3) := by decide +kernel
theorem d_C_stateWith_52 : decode b_C_stateWith 52 = .ok (.iconst 0, 1) := by decide +kernel
theorem d_C_stateWith_53 : decode b_C_stateWith 53 = .ok (.ireturn, 1) := by decide +kernel
theorem d_C_move_0 : decode b_C_move 0 = .ok (.aload_n 0, 1) := by decide +kernel
theorem d_C_move_1 : decode b_C_move 1 = .ok (.getfield 50, 3) := by decide +kernel
theorem d_C_move_4 : decode b_C_move 4 = .ok (.ifCond .eq 61, 3) := by decide +kernel
theorem d_C_move_7 : decode b_C_move 7 = .ok (.lload_n 1, 1) := by decide +kernel
theorem d_C_move_8 : decode b_C_move 8 = .ok (.lconst 0, 1) := by decide +kernel
theorem d_C_move_9 : decode b_C_move 9 = .ok (.lcmp, 1) := by decide +kernel
theorem d_C_move_10 : decode b_C_move 10 = .ok (.ifCond .le 55, 3) := by decide +kernel
theorem d_C_move_13 : decode b_C_move 13 = .ok (.aload_n 0, 1) := by decide +kernel
theorem d_C_move_14 : decode b_C_move 14 = .ok (.dup, 1) := by decide +kernel
theorem d_C_move_15 : decode b_C_move 15 = .ok (.getfield 193, 3) := by decide +kernel
theorem d_C_move_18 : decode b_C_move 18 = .ok (.iconst 1, 1) := by decide +kernel
theorem d_C_move_19 : decode b_C_move 19 = .ok (.iadd, 1) := by decide +kernel
theorem d_C_move_20 : decode b_C_move 20 = .ok (.putfield 193, 3) := by decide +kernel
theorem d_C_move_23 : decode b_C_move 23 = .ok (.aload_n 0, 1) := by decide +kernel
theorem d_C_move_24 : decode b_C_move 24 = .ok (.aload_n 0, 1) := by decide +kernel
theorem d_C_move_25 : decode b_C_move 25 = .ok (.getfield 33, 3) := by decide +kernel
theorem d_C_move_28 : decode b_C_move 28 = .ok (.getfield 173, 3) := by decide +kernel
theorem d_C_move_31 : decode b_C_move 31 = .ok (.putfield 198, 3) := by decide +kernel
theorem d_C_move_34 : decode b_C_move 34 = .ok (.aload_n 0, 1) := by decide +kernel
theorem d_C_move_35 : decode b_C_move 35 = .ok (.lload_n 1, 1) := by decide +kernel
theorem d_C_move_36 : decode b_C_move 36 = .ok (.putfield 201, 3) := by decide +kernel
theorem d_C_move_39 : decode b_C_move 39 = .ok (.aload_n 0, 1) := by decide +kernel
theorem d_C_move_40 : decode b_C_move 40 = .ok (.aload_n 0, 1) := by decide +kernel
theorem d_C_move_41 : decode b_C_move 41 = .ok (.getfield 46, 3) := by decide +kernel
theorem d_C_move_44 : decode b_C_move 44 = .ok (.getfield 218, 3) := by decide +kernel
theorem d_C_move_47 : decode b_C_move 47 = .ok (.putfield 204, 3) := by decide +kernel
theorem d_C_move_50 : decode b_C_move 50 = .ok (.aload_n 0, 1) := by decide +kernel
theorem d_C_move_51 : decode b_C_move 51 = .ok (.getfield 33, 3) := by decide +kernel
theorem d_C_move_54 : decode b_C_move 54 = .ok (.aload_n 0, 1) := by decide +kernel
theorem d_C_move_55 : decode b_C_move 55 = .ok (.getfield 46, 3) := by decide +kernel
theorem d_C_move_58 : decode b_C_move 58 = .ok (.lload_n 1, 1) := by decide +kernel
theorem d_C_move_59 : decode b_C_move 59 = .ok (.invokevirtual 221, 3) := by decide +kernel
theorem d_C_move_62 : decode b_C_move 62 = .ok (.goto 14, 3) := by decide +kernel
theorem d_C_move_65 : decode b_C_move 65 = .ok (.aload_n 0, 1) := by decide +kernel
theorem d_C_move_66 : decode b_C_move 66 = .ok (.getfield 33, 3) := by decide +kernel
theorem d_C_move_69 : decode b_C_move 69 = .ok (.aload_n 0, 1) := by decide +kernel
theorem d_C_move_70 : decode b_C_move 70 = .ok (.getfield 23, 3) := by decide +kernel
theorem d_C_move_73 : decode b_C_move 73 = .ok (.invokevirtual 147, 3) := by decide +kernel
theorem d_C_move_76 : decode b_C_move 76 = .ok (.return_, 1) := by decide +kernel
theorem d_C_advance_0 : decode b_C_advance 0 = .ok (.lload_n 1, 1) := by decide +kernel
theorem d_C_advance_1 : decode b_C_advance 1 = .ok (.lconst 0, 1) := by decide +kernel
theorem d_C_advance_2 : decode b_C_advance 2 = .ok (.lcmp, 1) := by decide +kernel
theorem d_C_advance_3 : decode b_C_advance 3 = .ok (.ifCond .le 18, 3) := by decide +kernel
theorem d_C_advance_6 : decode b_C_advance 6 = .ok (.aload_n 0, 1) := by decide +kernel
theorem d_C_advance_7 : decode b_C_advance 7 = .ok (.getfield 33, 3) := by decide +kernel
theorem d_C_advance_10 : decode b_C_advance 10 = .ok (.aload_n 0, 1) := by decide +kernel
theorem d_C_advance_11 : decode b_C_advance 11 = .ok (.getfield 46, 3) := by decide +kernel
theorem d_C_advance_14 : decode b_C_advance 14 = .ok (.lload_n 1, 1) := by decide +kernel
theorem d_C_advance_15 : decode b_C_advance 15 = .ok (.invokevirtual 221, 3) := by decide +kernel
theorem d_C_advance_18 : decode b_C_advance 18 = .ok (.goto 14, 3) := by decide +kernel
theorem d_C_advance_21 : decode b_C_advance 21 = .ok (.aload_n 0, 1) := by decide +kernel
theorem d_C_advance_22 : decode b_C_advance 22 = .ok (.getfield 33, 3) := by decide +kernel
theorem d_C_advance_25 : decode b_C_advance 25 = .ok (.aload_n 0, 1) := by decide +kernel
theorem d_C_advance_26 : decode b_C_advance 26 = .ok (.getfield 23, 3) := by decide +kernel
theorem d_C_advance_29 : decode b_C_advance 29 = .ok (.invokevirtual 147, 3) := by decide +kernel
theorem d_C_advance_32 : decode b_C_advance 32 = .ok (.return_, 1) := by decide +kernel
theorem d_C_goesOnUntil_0 : decode b_C_goesOnUntil 0 = .ok (.aload_n 0, 1) := by decide +kernel
theorem d_C_goesOnUntil_1 : decode b_C_goesOnUntil 1 = .ok (.getfield 33, 3) := by decide +kernel
theorem d_C_goesOnUntil_4 : decode b_C_goesOnUntil 4 = .ok (.getfield 166, 3) := by decide +kernel
theorem d_C_goesOnUntil_7 : decode b_C_goesOnUntil 7 = .ok (.lload_n 1, 1) := by decide +kernel
theorem d_C_goesOnUntil_8 : decode b_C_goesOnUntil 8 = .ok (.lcmp, 1) := by decide +kernel
theorem d_C_goesOnUntil_9 : decode b_C_goesOnUntil 9 = .ok (.ifCond .ge 21, 3) := by decide +kernel
theorem d_C_goesOnUntil_12 : decode b_C_goesOnUntil 12 = .ok (.aload_n 0, 1) := by decide +kernel
theorem d_C_goesOnUntil_13 : decode b_C_goesOnUntil 13 = .ok (.getfield 33, 3) := by decide +kernel
theorem d_C_goesOnUntil_16 : decode b_C_goesOnUntil 16 = .ok (.aload_n 0, 1) := by decide +kernel
theorem d_C_goesOnUntil_17 : decode b_C_goesOnUntil 17 = .ok (.getfield 23, 3) := by decide +kernel
theorem d_C_goesOnUntil_20 : decode b_C_goesOnUntil 20 = .ok (.invokevirtual 143, 3) := by decide +kernel
theorem d_C_goesOnUntil_23 : decode b_C_goesOnUntil 23 = .ok (.ifCond .ne 7, 3) := by decide +kernel
theorem d_C_goesOnUntil_26 : decode b_C_goesOnUntil 26 = .ok (.iconst 1, 1) := by decide +kernel
theorem d_C_goesOnUntil_27 : decode b_C_goesOnUntil 27 = .ok (.goto 4, 3) := by decide +kernel
theorem d_C_goesOnUntil_30 : decode b_C_goesOnUntil 30 = .ok (.iconst 0, 1) := by decide +kernel
theorem d_C_goesOnUntil_31 : decode b_C_goesOnUntil 31 = .ok (.ireturn, 1) := by decide +kernel
