theorem d_L_type_0 : decode b_L_type 0 = .ok (.aload 4, 2) := by decide +kernel
theorem d_L_type_2 : decode b_L_type 2 = .ok (.iconst 0, 1) := by decide +kernel
theorem d_L_type_3 : decode b_L_type 3 = .ok (.aload_n 0, 1) := by decide +kernel
theorem d_L_type_4 : decode b_L_type 4 = .ok (.lload_n 1, 1) := by decide +kernel
theorem d_L_type_5 : decode b_L_type 5 = .ok (.iload_n 3, 1) := by decide +kernel
theorem d_L_type_6 : decode b_L_type 6 = .ok (.invokevirtual 7, 3) := by decide +kernel
theorem d_L_type_9 : decode b_L_type 9 = .ok (.i2l, 1) := by decide +kernel
theorem d_L_type_10 : decode b_L_type 10 = .ok (.lastore, 1) := by decide +kernel
theorem d_L_type_11 : decode b_L_type 11 = .ok (.goto 11, 3) := by decide +kernel
theorem d_L_type_14 : decode b_L_type 14 = .ok (.astore 5, 2) := by decide +kernel
theorem d_L_type_16 : decode b_L_type 16 = .ok (.iconst 1, 1) := by decide +kernel
theorem d_L_type_17 : decode b_L_type 17 = .ok (.ireturn, 1) := by decide +kernel
theorem d_L_type_18 : decode b_L_type 18 = .ok (.astore 5, 2) := by decide +kernel
theorem d_L_type_20 : decode b_L_type 20 = .ok (.iconst 2, 1) := by decide +kernel
theorem d_L_type_21 : decode b_L_type 21 = .ok (.ireturn, 1) := by decide +kernel
theorem d_L_type_22 : decode b_L_type 22 = .ok (.iconst 0, 1) := by decide +kernel
theorem d_L_type_23 : decode b_L_type 23 = .ok (.ireturn, 1) := by decide +kernel
theorem d_L_set_0 : decode b_L_set 0 = .ok (.aload_n 0, 1) := by decide +kernel
theorem d_L_set_1 : decode b_L_set 1 = .ok (.iload_n 1, 1) := by decide +kernel
theorem d_L_set_2 : decode b_L_set 2 = .ok (.iload_n 2, 1) := by decide +kernel
theorem d_L_set_3 : decode b_L_set 3 = .ok (.invokevirtual 17, 3) := by decide +kernel
theorem d_L_set_6 : decode b_L_set 6 = .ok (.goto 6, 3) := by decide +kernel
theorem d_L_set_9 : decode b_L_set 9 = .ok (.astore_n 3, 1) := by decide +kernel
theorem d_L_set_10 : decode b_L_set 10 = .ok (.iconst 1, 1) := by decide +kernel
theorem d_L_set_11 : decode b_L_set 11 = .ok (.ireturn, 1) := by decide +kernel
theorem d_L_set_12 : decode b_L_set 12 = .ok (.iconst 0, 1) := by decide +kernel
theorem d_L_set_13 : decode b_L_set 13 = .ok (.ireturn, 1) := by decide +kernel
theorem d_L_start_0 : decode b_L_start 0 = .ok (.aload_n 0, 1) := by decide +kernel
theorem d_L_start_1 : decode b_L_start 1 = .ok (.invokevirtual 21, 3) := by decide +kernel
theorem d_L_start_4 : decode b_L_start 4 = .ok (.goto 6, 3) := by decide +kernel
theorem d_L_start_7 : decode b_L_start 7 = .ok (.astore_n 1, 1) := by decide +kernel
theorem d_L_start_8 : decode b_L_start 8 = .ok (.iconst 1, 1) := by decide +kernel
theorem d_L_start_9 : decode b_L_start 9 = .ok (.ireturn, 1) := by decide +kernel
theorem d_L_start_10 : decode b_L_start 10 = .ok (.iconst 0, 1) := by decide +kernel
theorem d_L_start_11 : decode b_L_start 11 = .ok (.ireturn, 1) := by decide +kernel
theorem d_L_run_0 : decode b_L_run 0 = .ok (.aload_n 2, 1) := by decide +kernel
theorem d_L_run_1 : decode b_L_run 1 = .ok (.iconst 0, 1) := by decide +kernel
theorem d_L_run_2 : decode b_L_run 2 = .ok (.aload_n 0, 1) := by decide +kernel
theorem d_L_run_3 : decode b_L_run 3 = .ok (.iload_n 1, 1) := by decide +kernel
theorem d_L_run_4 : decode b_L_run 4 = .ok (.invokevirtual 26, 3) := by decide +kernel
theorem d_L_run_7 : decode b_L_run 7 = .ok (.i2l, 1) := by decide +kernel
theorem d_L_run_8 : decode b_L_run 8 = .ok (.lastore, 1) := by decide +kernel
theorem d_L_run_9 : decode b_L_run 9 = .ok (.goto 9, 3) := by decide +kernel
theorem d_L_run_12 : decode b_L_run 12 = .ok (.astore_n 3, 1) := by decide +kernel
theorem d_L_run_13 : decode b_L_run 13 = .ok (.iconst 1, 1) := by decide +kernel
theorem d_L_run_14 : decode b_L_run 14 = .ok (.ireturn, 1) := by decide +kernel
theorem d_L_run_15 : decode b_L_run 15 = .ok (.astore_n 3, 1) := by decide +kernel
theorem d_L_run_16 : decode b_L_run 16 = .ok (.iconst 2, 1) := by decide +kernel
theorem d_L_run_17 : decode b_L_run 17 = .ok (.ireturn, 1) := by decide +kernel
theorem d_L_run_18 : decode b_L_run 18 = .ok (.iconst 0, 1) := by decide +kernel
theorem d_L_run_19 : decode b_L_run 19 = .ok (.ireturn, 1) := by decide +kernel
theorem d_L_plain_0 : decode b_L_plain 0 = .ok (.aload_n 2, 1) := by decide +kernel
theorem d_L_plain_1 : decode b_L_plain 1 = .ok (.iconst 0, 1) := by decide +kernel
theorem d_L_plain_2 : decode b_L_plain 2 = .ok (.aload_n 0, 1) := by decide +kernel
theorem d_L_plain_3 : decode b_L_plain 3 = .ok (.iload_n 1, 1) := by decide +kernel
theorem d_L_plain_4 : decode b_L_plain 4 = .ok (.invokevirtual 30, 3) := by decide +kernel
theorem d_L_plain_7 : decode b_L_plain 7 = .ok (.i2l, 1) := by decide +kernel
theorem d_L_plain_8 : decode b_L_plain 8 = .ok (.lastore, 1) := by decide +kernel
theorem d_L_plain_9 : decode b_L_plain 9 = .ok (.goto 9, 3) := by decide +kernel
theorem d_L_plain_12 : decode b_L_plain 12 = .ok (.astore_n 3, 1) := by decide +kernel
theorem d_L_plain_13 : decode b_L_plain 13 = .ok (.iconst 1, 1) := by decide +kernel
theorem d_L_plain_14 : decode b_L_plain 14 = .ok (.ireturn, 1) := by decide +kernel
theorem d_L_plain_15 : decode b_L_plain 15 = .ok (.astore_n 3, 1) := by decide +kernel
theorem d_L_plain_16 : decode b_L_plain 16 = .ok (.iconst 2, 1) := by decide +kernel
theorem d_L_plain_17 : decode b_L_plain 17 = .ok (.ireturn, 1) := by decide +kernel
theorem d_L_plain_18 : decode b_L_plain 18 = .ok (.iconst 0, 1) := by decide +kernel
theorem d_L_plain_19 : decode b_L_plain 19 = .ok (.ireturn, 1) := by decide +kernel
theorem d_L_seek_0 : decode b_L_seek 0 = .ok (.aload_n 3, 1) := by decide +kernel
theorem d_L_seek_1 : decode b_L_seek 1 = .ok (.iconst 0, 1) := by decide +kernel
theorem d_L_seek_2 : decode b_L_seek 2 = .ok (.aload_n 0, 1) := by decide +kernel
theorem d_L_seek_3 : decode b_L_seek 3 = .ok (.lload_n 1, 1) := by decide +kernel
theorem d_L_seek_4 : decode b_L_seek 4 = .ok (.invokevirtual 33, 3) := by decide +kernel
theorem d_L_seek_7 : decode b_L_seek 7 = .ok (.i2l, 1) := by decide +kernel
theorem d_L_seek_8 : decode b_L_seek 8 = .ok (.lastore, 1) := by decide +kernel
theorem d_L_seek_9 : decode b_L_seek 9 = .ok (.goto 15, 3) := by decide +kernel
theorem d_L_seek_12 : decode b_L_seek 12 = .ok (.astore 4, 2) := by decide +kernel
theorem d_L_seek_14 : decode b_L_seek 14 = .ok (.iconst 1, 1) := by decide +kernel
theorem d_L_seek_15 : decode b_L_seek 15 = .ok (.ireturn, 1) := by decide +kernel
theorem d_L_seek_16 : decode b_L_seek 16 = .ok (.astore 4, 2) := by decide +kernel
theorem d_L_seek_18 : decode b_L_seek 18 = .ok (.iconst 2, 1) := by decide +kernel
theorem d_L_seek_19 : decode b_L_seek 19 = .ok (.ireturn, 1) := by decide +kernel
theorem d_L_seek_20 : decode b_L_seek 20 = .ok (.astore 4, 2) := by decide +kernel
theorem d_L_seek_22 : decode b_L_seek 22 = .ok (.iconst 3, 1) := by decide +kernel
theorem d_L_seek_23 : decode b_L_seek 23 = .ok (.ireturn, 1) := by decide +kernel
theorem d_L_seek_24 : decode b_L_seek 24 = .ok (.iconst 0, 1) := by decide +kernel
theorem d_L_seek_25 : decode b_L_seek 25 = .ok (.ireturn, 1) := by decide +kernel
theorem d_L_change_0 : decode b_L_change 0 = .ok (.aload_n 3, 1) := by decide +kernel
theorem d_L_change_1 : decode b_L_change 1 = .ok (.iconst 0, 1) := by decide +kernel
theorem d_L_change_2 : decode b_L_change 2 = .ok (.aload_n 0, 1) := by decide +kernel
theorem d_L_change_3 : decode b_L_change 3 = .ok (.iload_n 1, 1) := by decide +kernel
theorem d_L_change_4 : decode b_L_change 4 = .ok (.iload_n 2, 1) := by decide +kernel
theorem d_L_change_5 : decode b_L_change 5 = .ok (.invokevirtual 37, 3) := by decide +kernel
theorem d_L_change_8 : decode b_L_change 8 = .ok (.i2l, 1) := by decide +kernel
theorem d_L_change_9 : decode b_L_change 9 = .ok (.lastore, 1) := by decide +kernel
theorem d_L_change_10 : decode b_L_change 10 = .ok (.goto 11, 3) := by decide +kernel
theorem d_L_change_13 : decode b_L_change 13 = .ok (.astore 4, 2) := by decide +kernel
theorem d_L_change_15 : decode b_L_change 15 = .ok (.iconst 1, 1) := by decide +kernel
theorem d_L_change_16 : decode b_L_change 16 = .ok (.ireturn, 1) := by decide +kernel
theorem d_L_change_17 : decode b_L_change 17 = .ok (.astore 4, 2) := by decide +kernel
theorem d_L_change_19 : decode b_L_change 19 = .ok (.iconst 2, 1) := by decide +kernel
theorem d_L_change_20 : decode b_L_change 20 = .ok (.ireturn, 1) := by decide +kernel
theorem d_L_change_21 : decode b_L_change 21 = .ok (.iconst 0, 1) := by decide +kernel
theorem d_L_change_22 : decode b_L_change 22 = .ok (.ireturn, 1) := by decide +kernel
