theorem dc_X_init_0 : decode bc_X_init 0 = .ok (.aload_n 0, 1) := by decide +kernel
theorem dc_X_init_1 : decode bc_X_init 1 = .ok (.invokespecial 3, 3) := by decide +kernel
theorem dc_X_init_4 : decode bc_X_init 4 = .ok (.aload_n 0, 1) := by decide +kernel
theorem dc_X_init_5 : decode bc_X_init 5 = .ok (.new 9, 3) := by decide +kernel
theorem dc_X_init_8 : decode bc_X_init 8 = .ok (.dup, 1) := by decide +kernel
theorem dc_X_init_9 : decode bc_X_init 9 = .ok (.invokespecial 11, 3) := by decide +kernel
theorem dc_X_init_12 : decode bc_X_init 12 = .ok (.putfield 12, 3) := by decide +kernel
theorem dc_X_init_15 : decode bc_X_init 15 = .ok (.aload_n 0, 1) := by decide +kernel
theorem dc_X_init_16 : decode bc_X_init 16 = .ok (.new 9, 3) := by decide +kernel
theorem dc_X_init_19 : decode bc_X_init 19 = .ok (.dup, 1) := by decide +kernel
theorem dc_X_init_20 : decode bc_X_init 20 = .ok (.invokespecial 11, 3) := by decide +kernel
theorem dc_X_init_23 : decode bc_X_init 23 = .ok (.putfield 16, 3) := by decide +kernel
theorem dc_X_init_26 : decode bc_X_init 26 = .ok (.aload_n 0, 1) := by decide +kernel
theorem dc_X_init_27 : decode bc_X_init 27 = .ok (.iconst 3, 1) := by decide +kernel
theorem dc_X_init_28 : decode bc_X_init 28 = .ok (.putfield 19, 3) := by decide +kernel
theorem dc_X_init_31 : decode bc_X_init 31 = .ok (.aload_n 0, 1) := by decide +kernel
theorem dc_X_init_32 : decode bc_X_init 32 = .ok (.iload_n 1, 1) := by decide +kernel
theorem dc_X_init_33 : decode bc_X_init 33 = .ok (.ifCond .lt 13, 3) := by decide +kernel
theorem dc_X_init_36 : decode bc_X_init 36 = .ok (.iload_n 1, 1) := by decide +kernel
theorem dc_X_init_37 : decode bc_X_init 37 = .ok (.iconst 3, 1) := by decide +kernel
theorem dc_X_init_38 : decode bc_X_init 38 = .ok (.if_icmp .gt 8, 3) := by decide +kernel
theorem dc_X_init_41 : decode bc_X_init 41 = .ok (.iload_n 1, 1) := by decide +kernel
theorem dc_X_init_42 : decode bc_X_init 42 = .ok (.i2l, 1) := by decide +kernel
theorem dc_X_init_43 : decode bc_X_init 43 = .ok (.goto 4, 3) := by decide +kernel
theorem dc_X_init_46 : decode bc_X_init 46 = .ok (.lconst 0, 1) := by decide +kernel
theorem dc_X_init_47 : decode bc_X_init 47 = .ok (.putfield 23, 3) := by decide +kernel
theorem dc_X_init_50 : decode bc_X_init 50 = .ok (.return_, 1) := by decide +kernel
theorem dc_X_mode_0 : decode bc_X_mode 0 = .ok (.aload_n 0, 1) := by decide +kernel
theorem dc_X_mode_1 : decode bc_X_mode 1 = .ok (.getfield 19, 3) := by decide +kernel
theorem dc_X_mode_4 : decode bc_X_mode 4 = .ok (.ireturn, 1) := by decide +kernel
theorem dc_X_dataMode_0 : decode bc_X_dataMode 0 = .ok (.aload_n 0, 1) := by decide +kernel
theorem dc_X_dataMode_1 : decode bc_X_dataMode 1 = .ok (.ldc2_w 27, 3) := by decide +kernel
theorem dc_X_dataMode_4 : decode bc_X_dataMode 4 = .ok (.invokevirtual 29, 3) := by decide +kernel
theorem dc_X_dataMode_7 : decode bc_X_dataMode 7 = .ok (.ifCond .eq 10, 3) := by decide +kernel
theorem dc_X_dataMode_10 : decode bc_X_dataMode 10 = .ok (.aload_n 0, 1) := by decide +kernel
theorem dc_X_dataMode_11 : decode bc_X_dataMode 11 = .ok (.invokevirtual 33, 3) := by decide +kernel
theorem dc_X_dataMode_14 : decode bc_X_dataMode 14 = .ok (.goto 7, 3) := by decide +kernel
theorem dc_X_dataMode_17 : decode bc_X_dataMode 17 = .ok (.aload_n 0, 1) := by decide +kernel
theorem dc_X_dataMode_18 : decode bc_X_dataMode 18 = .ok (.getfield 19, 3) := by decide +kernel
theorem dc_X_dataMode_21 : decode bc_X_dataMode 21 = .ok (.ireturn, 1) := by decide +kernel
theorem dc_X_access_0 : decode bc_X_access 0 = .ok (.iload_n 1, 1) := by decide +kernel
theorem dc_X_access_1 : decode bc_X_access 1 = .ok (.ifCond .lt 10, 3) := by decide +kernel
theorem dc_X_access_4 : decode bc_X_access 4 = .ok (.iload_n 1, 1) := by decide +kernel
theorem dc_X_access_5 : decode bc_X_access 5 = .ok (.sipush 4095, 3) := by decide +kernel
theorem dc_X_access_8 : decode bc_X_access 8 = .ok (.if_icmp .le 13, 3) := by decide +kernel
theorem dc_X_access_11 : decode bc_X_access 11 = .ok (.new 37, 3) := by decide +kernel
theorem dc_X_access_14 : decode bc_X_access 14 = .ok (.dup, 1) := by decide +kernel
theorem dc_X_access_15 : decode bc_X_access 15 = .ok (.ldc 39, 2) := by decide +kernel
theorem dc_X_access_17 : decode bc_X_access 17 = .ok (.invokespecial 41, 3) := by decide +kernel
theorem dc_X_access_20 : decode bc_X_access 20 = .ok (.athrow, 1) := by decide +kernel
theorem dc_X_access_21 : decode bc_X_access 21 = .ok (.iload_n 2, 1) := by decide +kernel
theorem dc_X_access_22 : decode bc_X_access 22 = .ok (.iconst 1, 1) := by decide +kernel
theorem dc_X_access_23 : decode bc_X_access 23 = .ok (.if_icmp .lt 8, 3) := by decide +kernel
theorem dc_X_access_26 : decode bc_X_access 26 = .ok (.iload_n 2, 1) := by decide +kernel
theorem dc_X_access_27 : decode bc_X_access 27 = .ok (.iconst 3, 1) := by decide +kernel
theorem dc_X_access_28 : decode bc_X_access 28 = .ok (.if_icmp .le 13, 3) := by decide +kernel
theorem dc_X_access_31 : decode bc_X_access 31 = .ok (.new 37, 3) := by decide +kernel
theorem dc_X_access_34 : decode bc_X_access 34 = .ok (.dup, 1) := by decide +kernel
theorem dc_X_access_35 : decode bc_X_access 35 = .ok (.ldc 44, 2) := by decide +kernel
theorem dc_X_access_37 : decode bc_X_access 37 = .ok (.invokespecial 41, 3) := by decide +kernel
theorem dc_X_access_40 : decode bc_X_access 40 = .ok (.athrow, 1) := by decide +kernel
theorem dc_X_access_41 : decode bc_X_access 41 = .ok (.aload_n 0, 1) := by decide +kernel
theorem dc_X_access_42 : decode bc_X_access 42 = .ok (.iload_n 1, 1) := by decide +kernel
theorem dc_X_access_43 : decode bc_X_access 43 = .ok (.iload_n 3, 1) := by decide +kernel
theorem dc_X_access_44 : decode bc_X_access 44 = .ok (.invokevirtual 46, 3) := by decide +kernel
theorem dc_X_access_47 : decode bc_X_access 47 = .ok (.ifCond .eq 5, 3) := by decide +kernel
theorem dc_X_access_50 : decode bc_X_access 50 = .ok (.iconst 2, 1) := by decide +kernel
theorem dc_X_access_51 : decode bc_X_access 51 = .ok (.ireturn, 1) := by decide +kernel
theorem dc_X_access_52 : decode bc_X_access 52 = .ok (.iload_n 1, 1) := by decide +kernel
theorem dc_X_access_53 : decode bc_X_access 53 = .ok (.invokestatic 50, 3) := by decide +kernel
theorem dc_X_access_56 : decode bc_X_access 56 = .ok (.ifCond .eq 28, 3) := by decide +kernel
theorem dc_X_access_59 : decode bc_X_access 59 = .ok (.iload_n 3, 1) := by decide +kernel
theorem dc_X_access_60 : decode bc_X_access 60 = .ok (.ifCond .eq 22, 3) := by decide +kernel
theorem dc_X_access_63 : decode bc_X_access 63 = .ok (.iload_n 1, 1) := by decide +kernel
theorem dc_X_access_64 : decode bc_X_access 64 = .ok (.invokestatic 54, 3) := by decide +kernel
theorem dc_X_access_67 : decode bc_X_access 67 = .ok (.ifCond .eq 15, 3) := by decide +kernel
theorem dc_X_access_70 : decode bc_X_access 70 = .ok (.aload_n 0, 1) := by decide +kernel
theorem dc_X_access_71 : decode bc_X_access 71 = .ok (.dup, 1) := by decide +kernel
theorem dc_X_access_72 : decode bc_X_access 72 = .ok (.getfield 57, 3) := by decide +kernel
theorem dc_X_access_75 : decode bc_X_access 75 = .ok (.ldc2_w 60, 3) := by decide +kernel
theorem dc_X_access_78 : decode bc_X_access 78 = .ok (.lor, 1) := by decide +kernel
theorem dc_X_access_79 : decode bc_X_access 79 = .ok (.putfield 57, 3) := by decide +kernel
theorem dc_X_access_82 : decode bc_X_access 82 = .ok (.iconst 1, 1) := by decide +kernel
theorem dc_X_access_83 : decode bc_X_access 83 = .ok (.ireturn, 1) := by decide +kernel
theorem dc_X_access_84 : decode bc_X_access 84 = .ok (.aload_n 0, 1) := by decide +kernel
theorem dc_X_access_85 : decode bc_X_access 85 = .ok (.iload_n 1, 1) := by decide +kernel
theorem dc_X_access_86 : decode bc_X_access 86 = .ok (.invokevirtual 62, 3) := by decide +kernel
theorem dc_X_access_89 : decode bc_X_access 89 = .ok (.lstore 6, 2) := by decide +kernel
theorem dc_X_access_91 : decode bc_X_access 91 = .ok (.iload_n 3, 1) := by decide +kernel
theorem dc_X_access_92 : decode bc_X_access 92 = .ok (.ifCond .eq 21, 3) := by decide +kernel
theorem dc_X_access_95 : decode bc_X_access 95 = .ok (.aload_n 0, 1) := by decide +kernel
theorem dc_X_access_96 : decode bc_X_access 96 = .ok (.iload_n 1, 1) := by decide +kernel
theorem dc_X_access_97 : decode bc_X_access 97 = .ok (.iload_n 2, 1) := by decide +kernel
theorem dc_X_access_98 : decode bc_X_access 98 = .ok (.aload_n 0, 1) := by decide +kernel
theorem dc_X_access_99 : decode bc_X_access 99 = .ok (.iload_n 1, 1) := by decide +kernel
theorem dc_X_access_100 : decode bc_X_access 100 = .ok (.lload 6, 2) := by decide +kernel
theorem dc_X_access_102 : decode bc_X_access 102 = .ok (.invokevirtual 66, 3) := by decide +kernel
theorem dc_X_access_105 : decode bc_X_access 105 = .ok (.lload 4, 2) := by decide +kernel
theorem dc_X_access_107 : decode bc_X_access 107 = .ok (.invokestatic 70, 3) := by decide +kernel
theorem dc_X_access_110 : decode bc_X_access 110 = .ok (.invokevirtual 74, 3) := by decide +kernel
theorem dc_X_access_113 : decode bc_X_access 113 = .ok (.aload_n 0, 1) := by decide +kernel
theorem dc_X_access_114 : decode bc_X_access 114 = .ok (.lload 6, 2) := by decide +kernel
theorem dc_X_access_116 : decode bc_X_access 116 = .ok (.putfield 78, 3) := by decide +kernel
theorem dc_X_access_119 : decode bc_X_access 119 = .ok (.iconst 0, 1) := by decide +kernel
theorem dc_X_access_120 : decode bc_X_access 120 = .ok (.ireturn, 1) := by decide +kernel
theorem dc_X_had_0 : decode bc_X_had 0 = .ok (.aload_n 0, 1) := by decide +kernel
theorem dc_X_had_1 : decode bc_X_had 1 = .ok (.getfield 78, 3) := by decide +kernel
theorem dc_X_had_4 : decode bc_X_had 4 = .ok (.lreturn, 1) := by decide +kernel
theorem dc_X_peek_0 : decode bc_X_peek 0 = .ok (.aload_n 0, 1) := by decide +kernel
theorem dc_X_peek_1 : decode bc_X_peek 1 = .ok (.iload_n 1, 1) := by decide +kernel
theorem dc_X_peek_2 : decode bc_X_peek 2 = .ok (.invokevirtual 62, 3) := by decide +kernel
theorem dc_X_peek_5 : decode bc_X_peek 5 = .ok (.lreturn, 1) := by decide +kernel
theorem dc_X_trap_0 : decode bc_X_trap 0 = .ok (.iload_n 2, 1) := by decide +kernel
theorem dc_X_trap_1 : decode bc_X_trap 1 = .ok (.ifCond .lt 9, 3) := by decide +kernel
theorem dc_X_trap_4 : decode bc_X_trap 4 = .ok (.iload_n 2, 1) := by decide +kernel
theorem dc_X_trap_5 : decode bc_X_trap 5 = .ok (.bipush 63, 2) := by decide +kernel
theorem dc_X_trap_7 : decode bc_X_trap 7 = .ok (.if_icmp .le 13, 3) := by decide +kernel
theorem dc_X_trap_10 : decode bc_X_trap 10 = .ok (.new 37, 3) := by decide +kernel
theorem dc_X_trap_13 : decode bc_X_trap 13 = .ok (.dup, 1) := by decide +kernel
theorem dc_X_trap_14 : decode bc_X_trap 14 = .ok (.ldc 81, 2) := by decide +kernel
theorem dc_X_trap_16 : decode bc_X_trap 16 = .ok (.invokespecial 41, 3) := by decide +kernel
theorem dc_X_trap_19 : decode bc_X_trap 19 = .ok (.athrow, 1) := by decide +kernel
theorem dc_X_trap_20 : decode bc_X_trap 20 = .ok (.aload_n 0, 1) := by decide +kernel
theorem dc_X_trap_21 : decode bc_X_trap 21 = .ok (.iload_n 1, 1) := by decide +kernel
theorem dc_X_trap_22 : decode bc_X_trap 22 = .ok (.iload_n 2, 1) := by decide +kernel
theorem dc_X_trap_23 : decode bc_X_trap 23 = .ok (.invokevirtual 83, 3) := by decide +kernel
theorem dc_X_trap_26 : decode bc_X_trap 26 = .ok (.ifCond .eq 16, 3) := by decide +kernel
theorem dc_X_trap_29 : decode bc_X_trap 29 = .ok (.aload_n 0, 1) := by decide +kernel
theorem dc_X_trap_30 : decode bc_X_trap 30 = .ok (.getfield 16, 3) := by decide +kernel
theorem dc_X_trap_33 : decode bc_X_trap 33 = .ok (.astore 7, 2) := by decide +kernel
theorem dc_X_trap_35 : decode bc_X_trap 35 = .ok (.aload_n 0, 1) := by decide +kernel
theorem dc_X_trap_36 : decode bc_X_trap 36 = .ok (.invokevirtual 87, 3) := by decide +kernel
theorem dc_X_trap_39 : decode bc_X_trap 39 = .ok (.goto 13, 3) := by decide +kernel
theorem dc_X_trap_42 : decode bc_X_trap 42 = .ok (.aload_n 0, 1) := by decide +kernel
theorem dc_X_trap_43 : decode bc_X_trap 43 = .ok (.getfield 12, 3) := by decide +kernel
theorem dc_X_trap_46 : decode bc_X_trap 46 = .ok (.astore 7, 2) := by decide +kernel
theorem dc_X_trap_48 : decode bc_X_trap 48 = .ok (.aload_n 0, 1) := by decide +kernel
theorem dc_X_trap_49 : decode bc_X_trap 49 = .ok (.invokevirtual 90, 3) := by decide +kernel
theorem dc_X_trap_52 : decode bc_X_trap 52 = .ok (.aload 7, 2) := by decide +kernel
theorem dc_X_trap_54 : decode bc_X_trap 54 = .ok (.iload_n 1, 1) := by decide +kernel
theorem dc_X_trap_55 : decode bc_X_trap 55 = .ok (.iload_n 2, 1) := by decide +kernel
theorem dc_X_trap_56 : decode bc_X_trap 56 = .ok (.lload_n 3, 1) := by decide +kernel
theorem dc_X_trap_57 : decode bc_X_trap 57 = .ok (.lload 5, 2) := by decide +kernel
theorem dc_X_trap_59 : decode bc_X_trap 59 = .ok (.invokevirtual 93, 3) := by decide +kernel
theorem dc_X_trap_62 : decode bc_X_trap 62 = .ok (.aload_n 0, 1) := by decide +kernel
theorem dc_X_trap_63 : decode bc_X_trap 63 = .ok (.aload 7, 2) := by decide +kernel
theorem dc_X_trap_65 : decode bc_X_trap 65 = .ok (.iload_n 1, 1) := by decide +kernel
theorem dc_X_trap_66 : decode bc_X_trap 66 = .ok (.iload_n 2, 1) := by decide +kernel
theorem dc_X_trap_67 : decode bc_X_trap 67 = .ok (.invokevirtual 97, 3) := by decide +kernel
theorem dc_X_trap_70 : decode bc_X_trap 70 = .ok (.putfield 101, 3) := by decide +kernel
theorem dc_X_trap_73 : decode bc_X_trap 73 = .ok (.aload_n 0, 1) := by decide +kernel
theorem dc_X_trap_74 : decode bc_X_trap 74 = .ok (.getfield 101, 3) := by decide +kernel
theorem dc_X_trap_77 : decode bc_X_trap 77 = .ok (.lreturn, 1) := by decide +kernel
theorem dc_X_back_0 : decode bc_X_back 0 = .ok (.aload_n 0, 1) := by decide +kernel
theorem dc_X_back_1 : decode bc_X_back 1 = .ok (.iload_n 1, 1) := by decide +kernel
theorem dc_X_back_2 : decode bc_X_back 2 = .ok (.invokevirtual 104, 3) := by decide +kernel
theorem dc_X_back_5 : decode bc_X_back 5 = .ok (.ifCond .ne 5, 3) := by decide +kernel
theorem dc_X_back_8 : decode bc_X_back 8 = .ok (.iconst 0, 1) := by decide +kernel
theorem dc_X_back_9 : decode bc_X_back 9 = .ok (.ireturn, 1) := by decide +kernel
theorem dc_X_back_10 : decode bc_X_back 10 = .ok (.iload_n 1, 1) := by decide +kernel
theorem dc_X_back_11 : decode bc_X_back 11 = .ok (.ifCond .eq 10, 3) := by decide +kernel
theorem dc_X_back_14 : decode bc_X_back 14 = .ok (.aload_n 0, 1) := by decide +kernel
theorem dc_X_back_15 : decode bc_X_back 15 = .ok (.invokevirtual 108, 3) := by decide +kernel
theorem dc_X_back_18 : decode bc_X_back 18 = .ok (.goto 7, 3) := by decide +kernel
theorem dc_X_back_21 : decode bc_X_back 21 = .ok (.aload_n 0, 1) := by decide +kernel
theorem dc_X_back_22 : decode bc_X_back 22 = .ok (.invokevirtual 111, 3) := by decide +kernel
theorem dc_X_back_25 : decode bc_X_back 25 = .ok (.aload_n 0, 1) := by decide +kernel
theorem dc_X_back_26 : decode bc_X_back 26 = .ok (.getfield 19, 3) := by decide +kernel
theorem dc_X_back_29 : decode bc_X_back 29 = .ok (.iconst 3, 1) := by decide +kernel
theorem dc_X_back_30 : decode bc_X_back 30 = .ok (.if_icmp .eq 15, 3) := by decide +kernel
theorem dc_X_back_33 : decode bc_X_back 33 = .ok (.aload_n 0, 1) := by decide +kernel
theorem dc_X_back_34 : decode bc_X_back 34 = .ok (.dup, 1) := by decide +kernel
theorem dc_X_back_35 : decode bc_X_back 35 = .ok (.getfield 57, 3) := by decide +kernel
theorem dc_X_back_38 : decode bc_X_back 38 = .ok (.ldc2_w 114, 3) := by decide +kernel
theorem dc_X_back_41 : decode bc_X_back 41 = .ok (.land, 1) := by decide +kernel
theorem dc_X_back_42 : decode bc_X_back 42 = .ok (.putfield 57, 3) := by decide +kernel
theorem dc_X_back_45 : decode bc_X_back 45 = .ok (.iconst 1, 1) := by decide +kernel
theorem dc_X_back_46 : decode bc_X_back 46 = .ok (.ireturn, 1) := by decide +kernel
theorem dc_X_place_0 : decode bc_X_place 0 = .ok (.aload_n 0, 1) := by decide +kernel
theorem dc_X_place_1 : decode bc_X_place 1 = .ok (.getfield 101, 3) := by decide +kernel
theorem dc_X_place_4 : decode bc_X_place 4 = .ok (.lreturn, 1) := by decide +kernel
theorem dc_X_taken_0 : decode bc_X_taken 0 = .ok (.aload_n 0, 1) := by decide +kernel
theorem dc_X_taken_1 : decode bc_X_taken 1 = .ok (.invokevirtual 116, 3) := by decide +kernel
theorem dc_X_taken_4 : decode bc_X_taken 4 = .ok (.aload_n 0, 1) := by decide +kernel
theorem dc_X_taken_5 : decode bc_X_taken 5 = .ok (.getfield 120, 3) := by decide +kernel
theorem dc_X_taken_8 : decode bc_X_taken 8 = .ok (.land, 1) := by decide +kernel
theorem dc_X_taken_9 : decode bc_X_taken 9 = .ok (.lstore_n 1, 1) := by decide +kernel
theorem dc_X_taken_10 : decode bc_X_taken 10 = .ok (.iconst (-1), 1) := by decide +kernel
theorem dc_X_taken_11 : decode bc_X_taken 11 = .ok (.istore_n 3, 1) := by decide +kernel
theorem dc_X_taken_12 : decode bc_X_taken 12 = .ok (.aload_n 0, 1) := by decide +kernel
theorem dc_X_taken_13 : decode bc_X_taken 13 = .ok (.invokevirtual 123, 3) := by decide +kernel
theorem dc_X_taken_16 : decode bc_X_taken 16 = .ok (.ifCond .eq 17, 3) := by decide +kernel
theorem dc_X_taken_19 : decode bc_X_taken 19 = .ok (.lload_n 1, 1) := by decide +kernel
theorem dc_X_taken_20 : decode bc_X_taken 20 = .ok (.aload_n 0, 1) := by decide +kernel
theorem dc_X_taken_21 : decode bc_X_taken 21 = .ok (.getfield 127, 3) := by decide +kernel
theorem dc_X_taken_24 : decode bc_X_taken 24 = .ok (.ldc2_w 130, 3) := by decide +kernel
theorem dc_X_taken_27 : decode bc_X_taken 27 = .ok (.lxor, 1) := by decide +kernel
theorem dc_X_taken_28 : decode bc_X_taken 28 = .ok (.land, 1) := by decide +kernel
theorem dc_X_taken_29 : decode bc_X_taken 29 = .ok (.invokestatic 132, 3) := by decide +kernel
theorem dc_X_taken_32 : decode bc_X_taken 32 = .ok (.istore_n 3, 1) := by decide +kernel
theorem dc_X_taken_33 : decode bc_X_taken 33 = .ok (.iload_n 3, 1) := by decide +kernel
theorem dc_X_taken_34 : decode bc_X_taken 34 = .ok (.iconst (-1), 1) := by decide +kernel
theorem dc_X_taken_35 : decode bc_X_taken 35 = .ok (.if_icmp .ne 20, 3) := by decide +kernel
theorem dc_X_taken_38 : decode bc_X_taken 38 = .ok (.aload_n 0, 1) := by decide +kernel
theorem dc_X_taken_39 : decode bc_X_taken 39 = .ok (.invokevirtual 136, 3) := by decide +kernel
theorem dc_X_taken_42 : decode bc_X_taken 42 = .ok (.ifCond .eq 13, 3) := by decide +kernel
theorem dc_X_taken_45 : decode bc_X_taken 45 = .ok (.lload_n 1, 1) := by decide +kernel
theorem dc_X_taken_46 : decode bc_X_taken 46 = .ok (.aload_n 0, 1) := by decide +kernel
theorem dc_X_taken_47 : decode bc_X_taken 47 = .ok (.getfield 127, 3) := by decide +kernel
theorem dc_X_taken_50 : decode bc_X_taken 50 = .ok (.land, 1) := by decide +kernel
theorem dc_X_taken_51 : decode bc_X_taken 51 = .ok (.invokestatic 132, 3) := by decide +kernel
theorem dc_X_taken_54 : decode bc_X_taken 54 = .ok (.istore_n 3, 1) := by decide +kernel
theorem dc_X_taken_55 : decode bc_X_taken 55 = .ok (.iload_n 3, 1) := by decide +kernel
theorem dc_X_taken_56 : decode bc_X_taken 56 = .ok (.ireturn, 1) := by decide +kernel
theorem dc_X_wakes_0 : decode bc_X_wakes 0 = .ok (.aload_n 0, 1) := by decide +kernel
theorem dc_X_wakes_1 : decode bc_X_wakes 1 = .ok (.invokevirtual 116, 3) := by decide +kernel
theorem dc_X_wakes_4 : decode bc_X_wakes 4 = .ok (.aload_n 0, 1) := by decide +kernel
theorem dc_X_wakes_5 : decode bc_X_wakes 5 = .ok (.getfield 120, 3) := by decide +kernel
theorem dc_X_wakes_8 : decode bc_X_wakes 8 = .ok (.land, 1) := by decide +kernel
theorem dc_X_wakes_9 : decode bc_X_wakes 9 = .ok (.lconst 0, 1) := by decide +kernel
theorem dc_X_wakes_10 : decode bc_X_wakes 10 = .ok (.lcmp, 1) := by decide +kernel
theorem dc_X_wakes_11 : decode bc_X_wakes 11 = .ok (.ifCond .eq 7, 3) := by decide +kernel
theorem dc_X_wakes_14 : decode bc_X_wakes 14 = .ok (.iconst 1, 1) := by decide +kernel
theorem dc_X_wakes_15 : decode bc_X_wakes 15 = .ok (.goto 4, 3) := by decide +kernel
theorem dc_X_wakes_18 : decode bc_X_wakes 18 = .ok (.iconst 0, 1) := by decide +kernel
theorem dc_X_wakes_19 : decode bc_X_wakes 19 = .ok (.ireturn, 1) := by decide +kernel
theorem dc_X_line_0 : decode bc_X_line 0 = .ok (.iload_n 1, 1) := by decide +kernel
theorem dc_X_line_1 : decode bc_X_line 1 = .ok (.iconst 3, 1) := by decide +kernel
theorem dc_X_line_2 : decode bc_X_line 2 = .ok (.if_icmp .eq 31, 3) := by decide +kernel
theorem dc_X_line_5 : decode bc_X_line 5 = .ok (.iload_n 1, 1) := by decide +kernel
theorem dc_X_line_6 : decode bc_X_line 6 = .ok (.bipush 7, 2) := by decide +kernel
theorem dc_X_line_8 : decode bc_X_line 8 = .ok (.if_icmp .eq 25, 3) := by decide +kernel
theorem dc_X_line_11 : decode bc_X_line 11 = .ok (.iload_n 1, 1) := by decide +kernel
theorem dc_X_line_12 : decode bc_X_line 12 = .ok (.bipush 9, 2) := by decide +kernel
theorem dc_X_line_14 : decode bc_X_line 14 = .ok (.if_icmp .eq 19, 3) := by decide +kernel
theorem dc_X_line_17 : decode bc_X_line 17 = .ok (.iload_n 1, 1) := by decide +kernel
theorem dc_X_line_18 : decode bc_X_line 18 = .ok (.bipush 11, 2) := by decide +kernel
theorem dc_X_line_20 : decode bc_X_line 20 = .ok (.if_icmp .eq 13, 3) := by decide +kernel
theorem dc_X_line_23 : decode bc_X_line 23 = .ok (.new 37, 3) := by decide +kernel
theorem dc_X_line_26 : decode bc_X_line 26 = .ok (.dup, 1) := by decide +kernel
theorem dc_X_line_27 : decode bc_X_line 27 = .ok (.ldc 139, 2) := by decide +kernel
theorem dc_X_line_29 : decode bc_X_line 29 = .ok (.invokespecial 41, 3) := by decide +kernel
theorem dc_X_line_32 : decode bc_X_line 32 = .ok (.athrow, 1) := by decide +kernel
theorem dc_X_line_33 : decode bc_X_line 33 = .ok (.lconst 1, 1) := by decide +kernel
theorem dc_X_line_34 : decode bc_X_line 34 = .ok (.iload_n 1, 1) := by decide +kernel
theorem dc_X_line_35 : decode bc_X_line 35 = .ok (.lshl, 1) := by decide +kernel
theorem dc_X_line_36 : decode bc_X_line 36 = .ok (.lstore_n 3, 1) := by decide +kernel
theorem dc_X_line_37 : decode bc_X_line 37 = .ok (.aload_n 0, 1) := by decide +kernel
theorem dc_X_line_38 : decode bc_X_line 38 = .ok (.iload_n 2, 1) := by decide +kernel
theorem dc_X_line_39 : decode bc_X_line 39 = .ok (.ifCond .eq 12, 3) := by decide +kernel
theorem dc_X_line_42 : decode bc_X_line 42 = .ok (.aload_n 0, 1) := by decide +kernel
theorem dc_X_line_43 : decode bc_X_line 43 = .ok (.getfield 141, 3) := by decide +kernel
theorem dc_X_line_46 : decode bc_X_line 46 = .ok (.lload_n 3, 1) := by decide +kernel
theorem dc_X_line_47 : decode bc_X_line 47 = .ok (.lor, 1) := by decide +kernel
theorem dc_X_line_48 : decode bc_X_line 48 = .ok (.goto 13, 3) := by decide +kernel
theorem dc_X_line_51 : decode bc_X_line 51 = .ok (.aload_n 0, 1) := by decide +kernel
theorem dc_X_line_52 : decode bc_X_line 52 = .ok (.getfield 141, 3) := by decide +kernel
theorem dc_X_line_55 : decode bc_X_line 55 = .ok (.lload_n 3, 1) := by decide +kernel
theorem dc_X_line_56 : decode bc_X_line 56 = .ok (.ldc2_w 130, 3) := by decide +kernel
theorem dc_X_line_59 : decode bc_X_line 59 = .ok (.lxor, 1) := by decide +kernel
theorem dc_X_line_60 : decode bc_X_line 60 = .ok (.land, 1) := by decide +kernel
theorem dc_X_line_61 : decode bc_X_line 61 = .ok (.putfield 141, 3) := by decide +kernel
theorem dc_X_line_64 : decode bc_X_line 64 = .ok (.return_, 1) := by decide +kernel
theorem dc_X_allowed_0 : decode bc_X_allowed 0 = .ok (.iload_n 1, 1) := by decide +kernel
theorem dc_X_allowed_1 : decode bc_X_allowed 1 = .ok (.ifCond .eq 18, 3) := by decide +kernel
theorem dc_X_allowed_4 : decode bc_X_allowed 4 = .ok (.iload_n 1, 1) := by decide +kernel
theorem dc_X_allowed_5 : decode bc_X_allowed 5 = .ok (.iconst 1, 1) := by decide +kernel
theorem dc_X_allowed_6 : decode bc_X_allowed 6 = .ok (.if_icmp .eq 13, 3) := by decide +kernel
theorem dc_X_allowed_9 : decode bc_X_allowed 9 = .ok (.new 37, 3) := by decide +kernel
theorem dc_X_allowed_12 : decode bc_X_allowed 12 = .ok (.dup, 1) := by decide +kernel
theorem dc_X_allowed_13 : decode bc_X_allowed 13 = .ok (.ldc 144, 2) := by decide +kernel
theorem dc_X_allowed_15 : decode bc_X_allowed 15 = .ok (.invokespecial 41, 3) := by decide +kernel
theorem dc_X_allowed_18 : decode bc_X_allowed 18 = .ok (.athrow, 1) := by decide +kernel
theorem dc_X_allowed_19 : decode bc_X_allowed 19 = .ok (.aload_n 0, 1) := by decide +kernel
theorem dc_X_allowed_20 : decode bc_X_allowed 20 = .ok (.iload_n 1, 1) := by decide +kernel
theorem dc_X_allowed_21 : decode bc_X_allowed 21 = .ok (.ifCond .ne 9, 3) := by decide +kernel
theorem dc_X_allowed_24 : decode bc_X_allowed 24 = .ok (.ldc2_w 146, 3) := by decide +kernel
theorem dc_X_allowed_27 : decode bc_X_allowed 27 = .ok (.goto 6, 3) := by decide +kernel
theorem dc_X_allowed_30 : decode bc_X_allowed 30 = .ok (.ldc2_w 148, 3) := by decide +kernel
theorem dc_X_allowed_33 : decode bc_X_allowed 33 = .ok (.invokevirtual 150, 3) := by decide +kernel
theorem dc_X_allowed_36 : decode bc_X_allowed 36 = .ok (.ireturn, 1) := by decide +kernel
theorem dc_X_floats_0 : decode bc_X_floats 0 = .ok (.aload_n 0, 1) := by decide +kernel
theorem dc_X_floats_1 : decode bc_X_floats 1 = .ok (.ldc2_w 60, 3) := by decide +kernel
theorem dc_X_floats_4 : decode bc_X_floats 4 = .ok (.invokevirtual 29, 3) := by decide +kernel
theorem dc_X_floats_7 : decode bc_X_floats 7 = .ok (.ireturn, 1) := by decide +kernel
theorem dc_X_dirty_0 : decode bc_X_dirty 0 = .ok (.aload_n 0, 1) := by decide +kernel
theorem dc_X_dirty_1 : decode bc_X_dirty 1 = .ok (.ldc2_w 60, 3) := by decide +kernel
theorem dc_X_dirty_4 : decode bc_X_dirty 4 = .ok (.invokevirtual 29, 3) := by decide +kernel
theorem dc_X_dirty_7 : decode bc_X_dirty 7 = .ok (.ifCond .eq 15, 3) := by decide +kernel
theorem dc_X_dirty_10 : decode bc_X_dirty 10 = .ok (.aload_n 0, 1) := by decide +kernel
theorem dc_X_dirty_11 : decode bc_X_dirty 11 = .ok (.dup, 1) := by decide +kernel
theorem dc_X_dirty_12 : decode bc_X_dirty 12 = .ok (.getfield 57, 3) := by decide +kernel
theorem dc_X_dirty_15 : decode bc_X_dirty 15 = .ok (.ldc2_w 60, 3) := by decide +kernel
theorem dc_X_dirty_18 : decode bc_X_dirty 18 = .ok (.lor, 1) := by decide +kernel
theorem dc_X_dirty_19 : decode bc_X_dirty 19 = .ok (.putfield 57, 3) := by decide +kernel
theorem dc_X_dirty_22 : decode bc_X_dirty 22 = .ok (.return_, 1) := by decide +kernel
theorem dc_X_count_0 : decode bc_X_count 0 = .ok (.aload_n 0, 1) := by decide +kernel
theorem dc_X_count_1 : decode bc_X_count 1 = .ok (.dup, 1) := by decide +kernel
theorem dc_X_count_2 : decode bc_X_count 2 = .ok (.getfield 153, 3) := by decide +kernel
theorem dc_X_count_5 : decode bc_X_count 5 = .ok (.lload_n 1, 1) := by decide +kernel
theorem dc_X_count_6 : decode bc_X_count 6 = .ok (.ladd, 1) := by decide +kernel
theorem dc_X_count_7 : decode bc_X_count 7 = .ok (.putfield 153, 3) := by decide +kernel
theorem dc_X_count_10 : decode bc_X_count 10 = .ok (.aload_n 0, 1) := by decide +kernel
theorem dc_X_count_11 : decode bc_X_count 11 = .ok (.dup, 1) := by decide +kernel
theorem dc_X_count_12 : decode bc_X_count 12 = .ok (.getfield 156, 3) := by decide +kernel
theorem dc_X_count_15 : decode bc_X_count 15 = .ok (.lload_n 3, 1) := by decide +kernel
theorem dc_X_count_16 : decode bc_X_count 16 = .ok (.ladd, 1) := by decide +kernel
theorem dc_X_count_17 : decode bc_X_count 17 = .ok (.putfield 156, 3) := by decide +kernel
theorem dc_X_count_20 : decode bc_X_count 20 = .ok (.return_, 1) := by decide +kernel
theorem dc_X_time_0 : decode bc_X_time 0 = .ok (.aload_n 0, 1) := by decide +kernel
theorem dc_X_time_1 : decode bc_X_time 1 = .ok (.lload_n 1, 1) := by decide +kernel
theorem dc_X_time_2 : decode bc_X_time 2 = .ok (.putfield 159, 3) := by decide +kernel
theorem dc_X_time_5 : decode bc_X_time 5 = .ok (.return_, 1) := by decide +kernel
theorem dc_X_has_0 : decode bc_X_has 0 = .ok (.aload_n 0, 1) := by decide +kernel
theorem dc_X_has_1 : decode bc_X_has 1 = .ok (.getfield 57, 3) := by decide +kernel
theorem dc_X_has_4 : decode bc_X_has 4 = .ok (.lload_n 1, 1) := by decide +kernel
theorem dc_X_has_5 : decode bc_X_has 5 = .ok (.land, 1) := by decide +kernel
theorem dc_X_has_6 : decode bc_X_has 6 = .ok (.lconst 0, 1) := by decide +kernel
theorem dc_X_has_7 : decode bc_X_has 7 = .ok (.lcmp, 1) := by decide +kernel
theorem dc_X_has_8 : decode bc_X_has 8 = .ok (.ifCond .eq 7, 3) := by decide +kernel
theorem dc_X_has_11 : decode bc_X_has 11 = .ok (.iconst 1, 1) := by decide +kernel
theorem dc_X_has_12 : decode bc_X_has 12 = .ok (.goto 4, 3) := by decide +kernel
theorem dc_X_has_15 : decode bc_X_has 15 = .ok (.iconst 0, 1) := by decide +kernel
theorem dc_X_has_16 : decode bc_X_has 16 = .ok (.ireturn, 1) := by decide +kernel
theorem dc_X_previousMachineMode_0 : decode bc_X_previousMachineMode 0 = .ok (.aload_n 0, 1) := by decide +kernel
theorem dc_X_previousMachineMode_1 : decode bc_X_previousMachineMode 1 = .ok (.getfield 57, 3) := by decide +kernel
theorem dc_X_previousMachineMode_4 : decode bc_X_previousMachineMode 4 = .ok (.ldc2_w 162, 3) := by decide +kernel
theorem dc_X_previousMachineMode_7 : decode bc_X_previousMachineMode 7 = .ok (.land, 1) := by decide +kernel
theorem dc_X_previousMachineMode_8 : decode bc_X_previousMachineMode 8 = .ok (.bipush 11, 2) := by decide +kernel
theorem dc_X_previousMachineMode_10 : decode bc_X_previousMachineMode 10 = .ok (.lushr, 1) := by decide +kernel
theorem dc_X_previousMachineMode_11 : decode bc_X_previousMachineMode 11 = .ok (.l2i, 1) := by decide +kernel
theorem dc_X_previousMachineMode_12 : decode bc_X_previousMachineMode 12 = .ok (.ireturn, 1) := by decide +kernel
theorem dc_X_machineOrSupervisorWithout_0 : decode bc_X_machineOrSupervisorWithout 0 = .ok (.aload_n 0, 1) := by decide +kernel
theorem dc_X_machineOrSupervisorWithout_1 : decode bc_X_machineOrSupervisorWithout 1 = .ok (.getfield 19, 3) := by decide +kernel
theorem dc_X_machineOrSupervisorWithout_4 : decode bc_X_machineOrSupervisorWithout 4 = .ok (.iconst 3, 1) := by decide +kernel
theorem dc_X_machineOrSupervisorWithout_5 : decode bc_X_machineOrSupervisorWithout 5 = .ok (.if_icmp .eq 19, 3) := by decide +kernel
theorem dc_X_machineOrSupervisorWithout_8 : decode bc_X_machineOrSupervisorWithout 8 = .ok (.aload_n 0, 1) := by decide +kernel
theorem dc_X_machineOrSupervisorWithout_9 : decode bc_X_machineOrSupervisorWithout 9 = .ok (.getfield 19, 3) := by decide +kernel
theorem dc_X_machineOrSupervisorWithout_12 : decode bc_X_machineOrSupervisorWithout 12 = .ok (.iconst 1, 1) := by decide +kernel
theorem dc_X_machineOrSupervisorWithout_13 : decode bc_X_machineOrSupervisorWithout 13 = .ok (.if_icmp .ne 15, 3) := by decide +kernel
theorem dc_X_machineOrSupervisorWithout_16 : decode bc_X_machineOrSupervisorWithout 16 = .ok (.aload_n 0, 1) := by decide +kernel
theorem dc_X_machineOrSupervisorWithout_17 : decode bc_X_machineOrSupervisorWithout 17 = .ok (.lload_n 1, 1) := by decide +kernel
theorem dc_X_machineOrSupervisorWithout_18 : decode bc_X_machineOrSupervisorWithout 18 = .ok (.invokevirtual 29, 3) := by decide +kernel
theorem dc_X_machineOrSupervisorWithout_21 : decode bc_X_machineOrSupervisorWithout 21 = .ok (.ifCond .ne 7, 3) := by decide +kernel
theorem dc_X_machineOrSupervisorWithout_24 : decode bc_X_machineOrSupervisorWithout 24 = .ok (.iconst 1, 1) := by decide +kernel
theorem dc_X_machineOrSupervisorWithout_25 : decode bc_X_machineOrSupervisorWithout 25 = .ok (.goto 4, 3) := by decide +kernel
theorem dc_X_machineOrSupervisorWithout_28 : decode bc_X_machineOrSupervisorWithout 28 = .ok (.iconst 0, 1) := by decide +kernel
theorem dc_X_machineOrSupervisorWithout_29 : decode bc_X_machineOrSupervisorWithout 29 = .ok (.ireturn, 1) := by decide +kernel
theorem dc_X_isFloat_0 : decode bc_X_isFloat 0 = .ok (.iload_n 0, 1) := by decide +kernel
theorem dc_X_isFloat_1 : decode bc_X_isFloat 1 = .ok (.iconst 1, 1) := by decide +kernel
theorem dc_X_isFloat_2 : decode bc_X_isFloat 2 = .ok (.if_icmp .lt 12, 3) := by decide +kernel
theorem dc_X_isFloat_5 : decode bc_X_isFloat 5 = .ok (.iload_n 0, 1) := by decide +kernel
theorem dc_X_isFloat_6 : decode bc_X_isFloat 6 = .ok (.iconst 3, 1) := by decide +kernel
theorem dc_X_isFloat_7 : decode bc_X_isFloat 7 = .ok (.if_icmp .gt 7, 3) := by decide +kernel
theorem dc_X_isFloat_10 : decode bc_X_isFloat 10 = .ok (.iconst 1, 1) := by decide +kernel
theorem dc_X_isFloat_11 : decode bc_X_isFloat 11 = .ok (.goto 4, 3) := by decide +kernel
theorem dc_X_isFloat_14 : decode bc_X_isFloat 14 = .ok (.iconst 0, 1) := by decide +kernel
theorem dc_X_isFloat_15 : decode bc_X_isFloat 15 = .ok (.ireturn, 1) := by decide +kernel
theorem dc_X_isElsewhere_0 : decode bc_X_isElsewhere 0 = .ok (.iload_n 0, 1) := by decide +kernel
theorem dc_X_isElsewhere_1 : decode bc_X_isElsewhere 1 = .ok (.invokestatic 54, 3) := by decide +kernel
theorem dc_X_isElsewhere_4 : decode bc_X_isElsewhere 4 = .ok (.ifCond .ne 31, 3) := by decide +kernel
theorem dc_X_isElsewhere_7 : decode bc_X_isElsewhere 7 = .ok (.iload_n 0, 1) := by decide +kernel
theorem dc_X_isElsewhere_8 : decode bc_X_isElsewhere 8 = .ok (.sipush 928, 3) := by decide +kernel
theorem dc_X_isElsewhere_11 : decode bc_X_isElsewhere 11 = .ok (.if_icmp .eq 24, 3) := by decide +kernel
theorem dc_X_isElsewhere_14 : decode bc_X_isElsewhere 14 = .ok (.iload_n 0, 1) := by decide +kernel
theorem dc_X_isElsewhere_15 : decode bc_X_isElsewhere 15 = .ok (.sipush 930, 3) := by decide +kernel
theorem dc_X_isElsewhere_18 : decode bc_X_isElsewhere 18 = .ok (.if_icmp .eq 17, 3) := by decide +kernel
theorem dc_X_isElsewhere_21 : decode bc_X_isElsewhere 21 = .ok (.iload_n 0, 1) := by decide +kernel
theorem dc_X_isElsewhere_22 : decode bc_X_isElsewhere 22 = .ok (.sipush 944, 3) := by decide +kernel
theorem dc_X_isElsewhere_25 : decode bc_X_isElsewhere 25 = .ok (.if_icmp .lt 14, 3) := by decide +kernel
theorem dc_X_isElsewhere_28 : decode bc_X_isElsewhere 28 = .ok (.iload_n 0, 1) := by decide +kernel
theorem dc_X_isElsewhere_29 : decode bc_X_isElsewhere 29 = .ok (.sipush 959, 3) := by decide +kernel
theorem dc_X_isElsewhere_32 : decode bc_X_isElsewhere 32 = .ok (.if_icmp .gt 7, 3) := by decide +kernel
theorem dc_X_isElsewhere_35 : decode bc_X_isElsewhere 35 = .ok (.iconst 1, 1) := by decide +kernel
theorem dc_X_isElsewhere_36 : decode bc_X_isElsewhere 36 = .ok (.goto 4, 3) := by decide +kernel
theorem dc_X_isElsewhere_39 : decode bc_X_isElsewhere 39 = .ok (.iconst 0, 1) := by decide +kernel
theorem dc_X_isElsewhere_40 : decode bc_X_isElsewhere 40 = .ok (.ireturn, 1) := by decide +kernel
theorem dc_X_isOpenCount_0 : decode bc_X_isOpenCount 0 = .ok (.iload_n 0, 1) := by decide +kernel
theorem dc_X_isOpenCount_1 : decode bc_X_isOpenCount 1 = .ok (.sipush 3072, 3) := by decide +kernel
theorem dc_X_isOpenCount_4 : decode bc_X_isOpenCount 4 = .ok (.if_icmp .lt 14, 3) := by decide +kernel
theorem dc_X_isOpenCount_7 : decode bc_X_isOpenCount 7 = .ok (.iload_n 0, 1) := by decide +kernel
theorem dc_X_isOpenCount_8 : decode bc_X_isOpenCount 8 = .ok (.sipush 3074, 3) := by decide +kernel
theorem dc_X_isOpenCount_11 : decode bc_X_isOpenCount 11 = .ok (.if_icmp .gt 7, 3) := by decide +kernel
theorem dc_X_isOpenCount_14 : decode bc_X_isOpenCount 14 = .ok (.iconst 1, 1) := by decide +kernel
theorem dc_X_isOpenCount_15 : decode bc_X_isOpenCount 15 = .ok (.goto 4, 3) := by decide +kernel
theorem dc_X_isOpenCount_18 : decode bc_X_isOpenCount 18 = .ok (.iconst 0, 1) := by decide +kernel
theorem dc_X_isOpenCount_19 : decode bc_X_isOpenCount 19 = .ok (.ireturn, 1) := by decide +kernel
theorem dc_X_isHere_0 : decode bc_X_isHere 0 = .ok (.iload_n 0, 1) := by decide +kernel
theorem dc_X_isHere_1 : decode bc_X_isHere 1 = .ok (.lookupswitch 269 #[(256, 267), (260, 267), (261, 267), (262, 267), (320, 267), (321, 267), (322, 267), (323, 267), (324, 267), (384, 267), (768, 267), (769, 267), (770, 267), (771, 267), (772, 267), (773, 267), (774, 267), (832, 267), (833, 267), (834, 267), (835, 267), (836, 267), (2816, 267), (2818, 267), (3072, 267), (3073, 267), (3074, 267), (3857, 267), (3858, 267), (3859, 267), (3860, 267), (3861, 267)], 267) := by decide +kernel
theorem dc_X_isHere_268 : decode bc_X_isHere 268 = .ok (.iconst 1, 1) := by decide +kernel
theorem dc_X_isHere_269 : decode bc_X_isHere 269 = .ok (.ireturn, 1) := by decide +kernel
theorem dc_X_isHere_270 : decode bc_X_isHere 270 = .ok (.iconst 0, 1) := by decide +kernel
theorem dc_X_isHere_271 : decode bc_X_isHere 271 = .ok (.ireturn, 1) := by decide +kernel
theorem dc_X_isIllegal_0 : decode bc_X_isIllegal 0 = .ok (.iload_n 1, 1) := by decide +kernel
theorem dc_X_isIllegal_1 : decode bc_X_isIllegal 1 = .ok (.bipush 8, 2) := by decide +kernel
theorem dc_X_isIllegal_3 : decode bc_X_isIllegal 3 = .ok (.ishr, 1) := by decide +kernel
theorem dc_X_isIllegal_4 : decode bc_X_isIllegal 4 = .ok (.iconst 3, 1) := by decide +kernel
theorem dc_X_isIllegal_5 : decode bc_X_isIllegal 5 = .ok (.iand, 1) := by decide +kernel
theorem dc_X_isIllegal_6 : decode bc_X_isIllegal 6 = .ok (.istore_n 3, 1) := by decide +kernel
theorem dc_X_isIllegal_7 : decode bc_X_isIllegal 7 = .ok (.iload_n 1, 1) := by decide +kernel
theorem dc_X_isIllegal_8 : decode bc_X_isIllegal 8 = .ok (.bipush 10, 2) := by decide +kernel
theorem dc_X_isIllegal_10 : decode bc_X_isIllegal 10 = .ok (.ishr, 1) := by decide +kernel
theorem dc_X_isIllegal_11 : decode bc_X_isIllegal 11 = .ok (.iconst 3, 1) := by decide +kernel
theorem dc_X_isIllegal_12 : decode bc_X_isIllegal 12 = .ok (.iand, 1) := by decide +kernel
theorem dc_X_isIllegal_13 : decode bc_X_isIllegal 13 = .ok (.iconst 3, 1) := by decide +kernel
theorem dc_X_isIllegal_14 : decode bc_X_isIllegal 14 = .ok (.if_icmp .ne 7, 3) := by decide +kernel
theorem dc_X_isIllegal_17 : decode bc_X_isIllegal 17 = .ok (.iconst 1, 1) := by decide +kernel
theorem dc_X_isIllegal_18 : decode bc_X_isIllegal 18 = .ok (.goto 4, 3) := by decide +kernel
theorem dc_X_isIllegal_21 : decode bc_X_isIllegal 21 = .ok (.iconst 0, 1) := by decide +kernel
theorem dc_X_isIllegal_22 : decode bc_X_isIllegal 22 = .ok (.istore 4, 2) := by decide +kernel
theorem dc_X_isIllegal_24 : decode bc_X_isIllegal 24 = .ok (.iload_n 1, 1) := by decide +kernel
theorem dc_X_isIllegal_25 : decode bc_X_isIllegal 25 = .ok (.invokestatic 164, 3) := by decide +kernel
theorem dc_X_isIllegal_28 : decode bc_X_isIllegal 28 = .ok (.ifCond .ne 10, 3) := by decide +kernel
theorem dc_X_isIllegal_31 : decode bc_X_isIllegal 31 = .ok (.iload_n 1, 1) := by decide +kernel
theorem dc_X_isIllegal_32 : decode bc_X_isIllegal 32 = .ok (.invokestatic 50, 3) := by decide +kernel
theorem dc_X_isIllegal_35 : decode bc_X_isIllegal 35 = .ok (.ifCond .eq 81, 3) := by decide +kernel
theorem dc_X_isIllegal_38 : decode bc_X_isIllegal 38 = .ok (.iload_n 3, 1) := by decide +kernel
theorem dc_X_isIllegal_39 : decode bc_X_isIllegal 39 = .ok (.aload_n 0, 1) := by decide +kernel
theorem dc_X_isIllegal_40 : decode bc_X_isIllegal 40 = .ok (.getfield 19, 3) := by decide +kernel
theorem dc_X_isIllegal_43 : decode bc_X_isIllegal 43 = .ok (.if_icmp .gt 73, 3) := by decide +kernel
theorem dc_X_isIllegal_46 : decode bc_X_isIllegal 46 = .ok (.iload_n 2, 1) := by decide +kernel
theorem dc_X_isIllegal_47 : decode bc_X_isIllegal 47 = .ok (.ifCond .eq 8, 3) := by decide +kernel
theorem dc_X_isIllegal_50 : decode bc_X_isIllegal 50 = .ok (.iload 4, 2) := by decide +kernel
theorem dc_X_isIllegal_52 : decode bc_X_isIllegal 52 = .ok (.ifCond .ne 64, 3) := by decide +kernel
theorem dc_X_isIllegal_55 : decode bc_X_isIllegal 55 = .ok (.iload_n 1, 1) := by decide +kernel
theorem dc_X_isIllegal_56 : decode bc_X_isIllegal 56 = .ok (.sipush 384, 3) := by decide +kernel
theorem dc_X_isIllegal_59 : decode bc_X_isIllegal 59 = .ok (.if_icmp .ne 21, 3) := by decide +kernel
theorem dc_X_isIllegal_62 : decode bc_X_isIllegal 62 = .ok (.aload_n 0, 1) := by decide +kernel
theorem dc_X_isIllegal_63 : decode bc_X_isIllegal 63 = .ok (.getfield 19, 3) := by decide +kernel
theorem dc_X_isIllegal_66 : decode bc_X_isIllegal 66 = .ok (.iconst 1, 1) := by decide +kernel
theorem dc_X_isIllegal_67 : decode bc_X_isIllegal 67 = .ok (.if_icmp .ne 13, 3) := by decide +kernel
theorem dc_X_isIllegal_70 : decode bc_X_isIllegal 70 = .ok (.aload_n 0, 1) := by decide +kernel
theorem dc_X_isIllegal_71 : decode bc_X_isIllegal 71 = .ok (.ldc2_w 148, 3) := by decide +kernel
theorem dc_X_isIllegal_74 : decode bc_X_isIllegal 74 = .ok (.invokevirtual 29, 3) := by decide +kernel
theorem dc_X_isIllegal_77 : decode bc_X_isIllegal 77 = .ok (.ifCond .ne 39, 3) := by decide +kernel
theorem dc_X_isIllegal_80 : decode bc_X_isIllegal 80 = .ok (.iload_n 1, 1) := by decide +kernel
theorem dc_X_isIllegal_81 : decode bc_X_isIllegal 81 = .ok (.invokestatic 54, 3) := by decide +kernel
theorem dc_X_isIllegal_84 : decode bc_X_isIllegal 84 = .ok (.ifCond .eq 13, 3) := by decide +kernel
theorem dc_X_isIllegal_87 : decode bc_X_isIllegal 87 = .ok (.aload_n 0, 1) := by decide +kernel
theorem dc_X_isIllegal_88 : decode bc_X_isIllegal 88 = .ok (.ldc2_w 60, 3) := by decide +kernel
theorem dc_X_isIllegal_91 : decode bc_X_isIllegal 91 = .ok (.invokevirtual 29, 3) := by decide +kernel
theorem dc_X_isIllegal_94 : decode bc_X_isIllegal 94 = .ok (.ifCond .eq 22, 3) := by decide +kernel
theorem dc_X_isIllegal_97 : decode bc_X_isIllegal 97 = .ok (.iload_n 1, 1) := by decide +kernel
theorem dc_X_isIllegal_98 : decode bc_X_isIllegal 98 = .ok (.invokestatic 167, 3) := by decide +kernel
theorem dc_X_isIllegal_101 : decode bc_X_isIllegal 101 = .ok (.ifCond .eq 19, 3) := by decide +kernel
theorem dc_X_isIllegal_104 : decode bc_X_isIllegal 104 = .ok (.aload_n 0, 1) := by decide +kernel
theorem dc_X_isIllegal_105 : decode bc_X_isIllegal 105 = .ok (.iload_n 1, 1) := by decide +kernel
theorem dc_X_isIllegal_106 : decode bc_X_isIllegal 106 = .ok (.sipush 3072, 3) := by decide +kernel
theorem dc_X_isIllegal_109 : decode bc_X_isIllegal 109 = .ok (.isub, 1) := by decide +kernel
theorem dc_X_isIllegal_110 : decode bc_X_isIllegal 110 = .ok (.invokevirtual 170, 3) := by decide +kernel
theorem dc_X_isIllegal_113 : decode bc_X_isIllegal 113 = .ok (.ifCond .eq 7, 3) := by decide +kernel
theorem dc_X_isIllegal_116 : decode bc_X_isIllegal 116 = .ok (.iconst 1, 1) := by decide +kernel
theorem dc_X_isIllegal_117 : decode bc_X_isIllegal 117 = .ok (.goto 4, 3) := by decide +kernel
theorem dc_X_isIllegal_120 : decode bc_X_isIllegal 120 = .ok (.iconst 0, 1) := by decide +kernel
theorem dc_X_isIllegal_121 : decode bc_X_isIllegal 121 = .ok (.ireturn, 1) := by decide +kernel
theorem dc_X_isClosed_0 : decode bc_X_isClosed 0 = .ok (.lconst 1, 1) := by decide +kernel
theorem dc_X_isClosed_1 : decode bc_X_isClosed 1 = .ok (.iload_n 1, 1) := by decide +kernel
theorem dc_X_isClosed_2 : decode bc_X_isClosed 2 = .ok (.lshl, 1) := by decide +kernel
theorem dc_X_isClosed_3 : decode bc_X_isClosed 3 = .ok (.lstore_n 2, 1) := by decide +kernel
theorem dc_X_isClosed_4 : decode bc_X_isClosed 4 = .ok (.aload_n 0, 1) := by decide +kernel
theorem dc_X_isClosed_5 : decode bc_X_isClosed 5 = .ok (.getfield 19, 3) := by decide +kernel
theorem dc_X_isClosed_8 : decode bc_X_isClosed 8 = .ok (.iconst 3, 1) := by decide +kernel
theorem dc_X_isClosed_9 : decode bc_X_isClosed 9 = .ok (.if_icmp .eq 17, 3) := by decide +kernel
theorem dc_X_isClosed_12 : decode bc_X_isClosed 12 = .ok (.aload_n 0, 1) := by decide +kernel
theorem dc_X_isClosed_13 : decode bc_X_isClosed 13 = .ok (.getfield 12, 3) := by decide +kernel
theorem dc_X_isClosed_16 : decode bc_X_isClosed 16 = .ok (.getfield 173, 3) := by decide +kernel
theorem dc_X_isClosed_19 : decode bc_X_isClosed 19 = .ok (.lload_n 2, 1) := by decide +kernel
theorem dc_X_isClosed_20 : decode bc_X_isClosed 20 = .ok (.land, 1) := by decide +kernel
theorem dc_X_isClosed_21 : decode bc_X_isClosed 21 = .ok (.lconst 0, 1) := by decide +kernel
theorem dc_X_isClosed_22 : decode bc_X_isClosed 22 = .ok (.lcmp, 1) := by decide +kernel
theorem dc_X_isClosed_23 : decode bc_X_isClosed 23 = .ok (.ifCond .eq 24, 3) := by decide +kernel
theorem dc_X_isClosed_26 : decode bc_X_isClosed 26 = .ok (.aload_n 0, 1) := by decide +kernel
theorem dc_X_isClosed_27 : decode bc_X_isClosed 27 = .ok (.getfield 19, 3) := by decide +kernel
theorem dc_X_isClosed_30 : decode bc_X_isClosed 30 = .ok (.ifCond .ne 21, 3) := by decide +kernel
theorem dc_X_isClosed_33 : decode bc_X_isClosed 33 = .ok (.aload_n 0, 1) := by decide +kernel
theorem dc_X_isClosed_34 : decode bc_X_isClosed 34 = .ok (.getfield 16, 3) := by decide +kernel
theorem dc_X_isClosed_37 : decode bc_X_isClosed 37 = .ok (.getfield 173, 3) := by decide +kernel
theorem dc_X_isClosed_40 : decode bc_X_isClosed 40 = .ok (.lload_n 2, 1) := by decide +kernel
theorem dc_X_isClosed_41 : decode bc_X_isClosed 41 = .ok (.land, 1) := by decide +kernel
theorem dc_X_isClosed_42 : decode bc_X_isClosed 42 = .ok (.lconst 0, 1) := by decide +kernel
theorem dc_X_isClosed_43 : decode bc_X_isClosed 43 = .ok (.lcmp, 1) := by decide +kernel
theorem dc_X_isClosed_44 : decode bc_X_isClosed 44 = .ok (.ifCond .ne 7, 3) := by decide +kernel
theorem dc_X_isClosed_47 : decode bc_X_isClosed 47 = .ok (.iconst 1, 1) := by decide +kernel
theorem dc_X_isClosed_48 : decode bc_X_isClosed 48 = .ok (.goto 4, 3) := by decide +kernel
theorem dc_X_isClosed_51 : decode bc_X_isClosed 51 = .ok (.iconst 0, 1) := by decide +kernel
theorem dc_X_isClosed_52 : decode bc_X_isClosed 52 = .ok (.ireturn, 1) := by decide +kernel
theorem dc_X_shownStatus_0 : decode bc_X_shownStatus 0 = .ok (.aload_n 0, 1) := by decide +kernel
theorem dc_X_shownStatus_1 : decode bc_X_shownStatus 1 = .ok (.getfield 57, 3) := by decide +kernel
theorem dc_X_shownStatus_4 : decode bc_X_shownStatus 4 = .ok (.ldc2_w 176, 3) := by decide +kernel
theorem dc_X_shownStatus_7 : decode bc_X_shownStatus 7 = .ok (.lor, 1) := by decide +kernel
theorem dc_X_shownStatus_8 : decode bc_X_shownStatus 8 = .ok (.lstore_n 1, 1) := by decide +kernel
theorem dc_X_shownStatus_9 : decode bc_X_shownStatus 9 = .ok (.aload_n 0, 1) := by decide +kernel
theorem dc_X_shownStatus_10 : decode bc_X_shownStatus 10 = .ok (.getfield 57, 3) := by decide +kernel
theorem dc_X_shownStatus_13 : decode bc_X_shownStatus 13 = .ok (.ldc2_w 60, 3) := by decide +kernel
theorem dc_X_shownStatus_16 : decode bc_X_shownStatus 16 = .ok (.land, 1) := by decide +kernel
theorem dc_X_shownStatus_17 : decode bc_X_shownStatus 17 = .ok (.ldc2_w 60, 3) := by decide +kernel
theorem dc_X_shownStatus_20 : decode bc_X_shownStatus 20 = .ok (.lcmp, 1) := by decide +kernel
theorem dc_X_shownStatus_21 : decode bc_X_shownStatus 21 = .ok (.ifCond .ne 11, 3) := by decide +kernel
theorem dc_X_shownStatus_24 : decode bc_X_shownStatus 24 = .ok (.lload_n 1, 1) := by decide +kernel
theorem dc_X_shownStatus_25 : decode bc_X_shownStatus 25 = .ok (.ldc2_w 178, 3) := by decide +kernel
theorem dc_X_shownStatus_28 : decode bc_X_shownStatus 28 = .ok (.lor, 1) := by decide +kernel
theorem dc_X_shownStatus_29 : decode bc_X_shownStatus 29 = .ok (.goto 4, 3) := by decide +kernel
theorem dc_X_shownStatus_32 : decode bc_X_shownStatus 32 = .ok (.lload_n 1, 1) := by decide +kernel
theorem dc_X_shownStatus_33 : decode bc_X_shownStatus 33 = .ok (.lreturn, 1) := by decide +kernel
theorem dc_X_pending_0 : decode bc_X_pending 0 = .ok (.aload_n 0, 1) := by decide +kernel
theorem dc_X_pending_1 : decode bc_X_pending 1 = .ok (.getfield 180, 3) := by decide +kernel
theorem dc_X_pending_4 : decode bc_X_pending 4 = .ok (.aload_n 0, 1) := by decide +kernel
theorem dc_X_pending_5 : decode bc_X_pending 5 = .ok (.getfield 141, 3) := by decide +kernel
theorem dc_X_pending_8 : decode bc_X_pending 8 = .ok (.lor, 1) := by decide +kernel
theorem dc_X_pending_9 : decode bc_X_pending 9 = .ok (.lreturn, 1) := by decide +kernel
theorem dc_X_shown_0 : decode bc_X_shown 0 = .ok (.iload_n 1, 1) := by decide +kernel
theorem dc_X_shown_1 : decode bc_X_shown 1 = .ok (.lookupswitch 414 #[(256, 240), (260, 268), (261, 341), (262, 349), (320, 357), (321, 365), (322, 373), (323, 381), (324, 283), (384, 389), (768, 235), (769, 249), (770, 253), (771, 258), (772, 263), (773, 293), (774, 301), (832, 309), (833, 317), (834, 325), (835, 333), (836, 278), (2816, 394), (2818, 399), (3072, 394), (3073, 404), (3074, 399), (3860, 409)], 235) := by decide +kernel
theorem dc_X_shown_236 : decode bc_X_shown 236 = .ok (.aload_n 0, 1) := by decide +kernel
theorem dc_X_shown_237 : decode bc_X_shown 237 = .ok (.invokevirtual 183, 3) := by decide +kernel
theorem dc_X_shown_240 : decode bc_X_shown 240 = .ok (.lreturn, 1) := by decide +kernel
theorem dc_X_shown_241 : decode bc_X_shown 241 = .ok (.aload_n 0, 1) := by decide +kernel
theorem dc_X_shown_242 : decode bc_X_shown 242 = .ok (.invokevirtual 183, 3) := by decide +kernel
theorem dc_X_shown_245 : decode bc_X_shown 245 = .ok (.ldc2_w 186, 3) := by decide +kernel
theorem dc_X_shown_248 : decode bc_X_shown 248 = .ok (.land, 1) := by decide +kernel
theorem dc_X_shown_249 : decode bc_X_shown 249 = .ok (.lreturn, 1) := by decide +kernel
theorem dc_X_shown_250 : decode bc_X_shown 250 = .ok (.ldc2_w 188, 3) := by decide +kernel
theorem dc_X_shown_253 : decode bc_X_shown 253 = .ok (.lreturn, 1) := by decide +kernel
theorem dc_X_shown_254 : decode bc_X_shown 254 = .ok (.aload_n 0, 1) := by decide +kernel
theorem dc_X_shown_255 : decode bc_X_shown 255 = .ok (.getfield 190, 3) := by decide +kernel
theorem dc_X_shown_258 : decode bc_X_shown 258 = .ok (.lreturn, 1) := by decide +kernel
theorem dc_X_shown_259 : decode bc_X_shown 259 = .ok (.aload_n 0, 1) := by decide +kernel
theorem dc_X_shown_260 : decode bc_X_shown 260 = .ok (.getfield 127, 3) := by decide +kernel
theorem dc_X_shown_263 : decode bc_X_shown 263 = .ok (.lreturn, 1) := by decide +kernel
theorem dc_X_shown_264 : decode bc_X_shown 264 = .ok (.aload_n 0, 1) := by decide +kernel
theorem dc_X_shown_265 : decode bc_X_shown 265 = .ok (.getfield 120, 3) := by decide +kernel
theorem dc_X_shown_268 : decode bc_X_shown 268 = .ok (.lreturn, 1) := by decide +kernel
theorem dc_X_shown_269 : decode bc_X_shown 269 = .ok (.aload_n 0, 1) := by decide +kernel
theorem dc_X_shown_270 : decode bc_X_shown 270 = .ok (.getfield 120, 3) := by decide +kernel
theorem dc_X_shown_273 : decode bc_X_shown 273 = .ok (.aload_n 0, 1) := by decide +kernel
theorem dc_X_shown_274 : decode bc_X_shown 274 = .ok (.getfield 127, 3) := by decide +kernel
theorem dc_X_shown_277 : decode bc_X_shown 277 = .ok (.land, 1) := by decide +kernel
theorem dc_X_shown_278 : decode bc_X_shown 278 = .ok (.lreturn, 1) := by decide +kernel
theorem dc_X_shown_279 : decode bc_X_shown 279 = .ok (.aload_n 0, 1) := by decide +kernel
theorem dc_X_shown_280 : decode bc_X_shown 280 = .ok (.invokevirtual 116, 3) := by decide +kernel
theorem dc_X_shown_283 : decode bc_X_shown 283 = .ok (.lreturn, 1) := by decide +kernel
theorem dc_X_shown_284 : decode bc_X_shown 284 = .ok (.aload_n 0, 1) := by decide +kernel
theorem dc_X_shown_285 : decode bc_X_shown 285 = .ok (.invokevirtual 116, 3) := by decide +kernel
theorem dc_X_shown_288 : decode bc_X_shown 288 = .ok (.aload_n 0, 1) := by decide +kernel
theorem dc_X_shown_289 : decode bc_X_shown 289 = .ok (.getfield 127, 3) := by decide +kernel
theorem dc_X_shown_292 : decode bc_X_shown 292 = .ok (.land, 1) := by decide +kernel
theorem dc_X_shown_293 : decode bc_X_shown 293 = .ok (.lreturn, 1) := by decide +kernel
theorem dc_X_shown_294 : decode bc_X_shown 294 = .ok (.aload_n 0, 1) := by decide +kernel
theorem dc_X_shown_295 : decode bc_X_shown 295 = .ok (.getfield 12, 3) := by decide +kernel
theorem dc_X_shown_298 : decode bc_X_shown 298 = .ok (.getfield 193, 3) := by decide +kernel
theorem dc_X_shown_301 : decode bc_X_shown 301 = .ok (.lreturn, 1) := by decide +kernel
theorem dc_X_shown_302 : decode bc_X_shown 302 = .ok (.aload_n 0, 1) := by decide +kernel
theorem dc_X_shown_303 : decode bc_X_shown 303 = .ok (.getfield 12, 3) := by decide +kernel
theorem dc_X_shown_306 : decode bc_X_shown 306 = .ok (.getfield 173, 3) := by decide +kernel
theorem dc_X_shown_309 : decode bc_X_shown 309 = .ok (.lreturn, 1) := by decide +kernel
theorem dc_X_shown_310 : decode bc_X_shown 310 = .ok (.aload_n 0, 1) := by decide +kernel
theorem dc_X_shown_311 : decode bc_X_shown 311 = .ok (.getfield 12, 3) := by decide +kernel
theorem dc_X_shown_314 : decode bc_X_shown 314 = .ok (.getfield 196, 3) := by decide +kernel
theorem dc_X_shown_317 : decode bc_X_shown 317 = .ok (.lreturn, 1) := by decide +kernel
theorem dc_X_shown_318 : decode bc_X_shown 318 = .ok (.aload_n 0, 1) := by decide +kernel
theorem dc_X_shown_319 : decode bc_X_shown 319 = .ok (.getfield 12, 3) := by decide +kernel
theorem dc_X_shown_322 : decode bc_X_shown 322 = .ok (.getfield 199, 3) := by decide +kernel
theorem dc_X_shown_325 : decode bc_X_shown 325 = .ok (.lreturn, 1) := by decide +kernel
theorem dc_X_shown_326 : decode bc_X_shown 326 = .ok (.aload_n 0, 1) := by decide +kernel
theorem dc_X_shown_327 : decode bc_X_shown 327 = .ok (.getfield 12, 3) := by decide +kernel
theorem dc_X_shown_330 : decode bc_X_shown 330 = .ok (.getfield 202, 3) := by decide +kernel
theorem dc_X_shown_333 : decode bc_X_shown 333 = .ok (.lreturn, 1) := by decide +kernel
theorem dc_X_shown_334 : decode bc_X_shown 334 = .ok (.aload_n 0, 1) := by decide +kernel
theorem dc_X_shown_335 : decode bc_X_shown 335 = .ok (.getfield 12, 3) := by decide +kernel
theorem dc_X_shown_338 : decode bc_X_shown 338 = .ok (.getfield 205, 3) := by decide +kernel
theorem dc_X_shown_341 : decode bc_X_shown 341 = .ok (.lreturn, 1) := by decide +kernel
theorem dc_X_shown_342 : decode bc_X_shown 342 = .ok (.aload_n 0, 1) := by decide +kernel
theorem dc_X_shown_343 : decode bc_X_shown 343 = .ok (.getfield 16, 3) := by decide +kernel
theorem dc_X_shown_346 : decode bc_X_shown 346 = .ok (.getfield 193, 3) := by decide +kernel
theorem dc_X_shown_349 : decode bc_X_shown 349 = .ok (.lreturn, 1) := by decide +kernel
theorem dc_X_shown_350 : decode bc_X_shown 350 = .ok (.aload_n 0, 1) := by decide +kernel
theorem dc_X_shown_351 : decode bc_X_shown 351 = .ok (.getfield 16, 3) := by decide +kernel
theorem dc_X_shown_354 : decode bc_X_shown 354 = .ok (.getfield 173, 3) := by decide +kernel
theorem dc_X_shown_357 : decode bc_X_shown 357 = .ok (.lreturn, 1) := by decide +kernel
theorem dc_X_shown_358 : decode bc_X_shown 358 = .ok (.aload_n 0, 1) := by decide +kernel
theorem dc_X_shown_359 : decode bc_X_shown 359 = .ok (.getfield 16, 3) := by decide +kernel
theorem dc_X_shown_362 : decode bc_X_shown 362 = .ok (.getfield 196, 3) := by decide +kernel
theorem dc_X_shown_365 : decode bc_X_shown 365 = .ok (.lreturn, 1) := by decide +kernel
theorem dc_X_shown_366 : decode bc_X_shown 366 = .ok (.aload_n 0, 1) := by decide +kernel
theorem dc_X_shown_367 : decode bc_X_shown 367 = .ok (.getfield 16, 3) := by decide +kernel
theorem dc_X_shown_370 : decode bc_X_shown 370 = .ok (.getfield 199, 3) := by decide +kernel
theorem dc_X_shown_373 : decode bc_X_shown 373 = .ok (.lreturn, 1) := by decide +kernel
theorem dc_X_shown_374 : decode bc_X_shown 374 = .ok (.aload_n 0, 1) := by decide +kernel
theorem dc_X_shown_375 : decode bc_X_shown 375 = .ok (.getfield 16, 3) := by decide +kernel
theorem dc_X_shown_378 : decode bc_X_shown 378 = .ok (.getfield 202, 3) := by decide +kernel
theorem dc_X_shown_381 : decode bc_X_shown 381 = .ok (.lreturn, 1) := by decide +kernel
theorem dc_X_shown_382 : decode bc_X_shown 382 = .ok (.aload_n 0, 1) := by decide +kernel
theorem dc_X_shown_383 : decode bc_X_shown 383 = .ok (.getfield 16, 3) := by decide +kernel
theorem dc_X_shown_386 : decode bc_X_shown 386 = .ok (.getfield 205, 3) := by decide +kernel
theorem dc_X_shown_389 : decode bc_X_shown 389 = .ok (.lreturn, 1) := by decide +kernel
theorem dc_X_shown_390 : decode bc_X_shown 390 = .ok (.aload_n 0, 1) := by decide +kernel
theorem dc_X_shown_391 : decode bc_X_shown 391 = .ok (.getfield 208, 3) := by decide +kernel
theorem dc_X_shown_394 : decode bc_X_shown 394 = .ok (.lreturn, 1) := by decide +kernel
theorem dc_X_shown_395 : decode bc_X_shown 395 = .ok (.aload_n 0, 1) := by decide +kernel
theorem dc_X_shown_396 : decode bc_X_shown 396 = .ok (.getfield 153, 3) := by decide +kernel
theorem dc_X_shown_399 : decode bc_X_shown 399 = .ok (.lreturn, 1) := by decide +kernel
theorem dc_X_shown_400 : decode bc_X_shown 400 = .ok (.aload_n 0, 1) := by decide +kernel
theorem dc_X_shown_401 : decode bc_X_shown 401 = .ok (.getfield 156, 3) := by decide +kernel
theorem dc_X_shown_404 : decode bc_X_shown 404 = .ok (.lreturn, 1) := by decide +kernel
theorem dc_X_shown_405 : decode bc_X_shown 405 = .ok (.aload_n 0, 1) := by decide +kernel
theorem dc_X_shown_406 : decode bc_X_shown 406 = .ok (.getfield 159, 3) := by decide +kernel
theorem dc_X_shown_409 : decode bc_X_shown 409 = .ok (.lreturn, 1) := by decide +kernel
theorem dc_X_shown_410 : decode bc_X_shown 410 = .ok (.aload_n 0, 1) := by decide +kernel
theorem dc_X_shown_411 : decode bc_X_shown 411 = .ok (.getfield 23, 3) := by decide +kernel
theorem dc_X_shown_414 : decode bc_X_shown 414 = .ok (.lreturn, 1) := by decide +kernel
theorem dc_X_shown_415 : decode bc_X_shown 415 = .ok (.lconst 0, 1) := by decide +kernel
theorem dc_X_shown_416 : decode bc_X_shown 416 = .ok (.lreturn, 1) := by decide +kernel
theorem dc_X_changeable_0 : decode bc_X_changeable 0 = .ok (.iload_n 1, 1) := by decide +kernel
theorem dc_X_changeable_1 : decode bc_X_changeable 1 = .ok (.sipush 836, 3) := by decide +kernel
theorem dc_X_changeable_4 : decode bc_X_changeable 4 = .ok (.if_icmp .ne 17, 3) := by decide +kernel
theorem dc_X_changeable_7 : decode bc_X_changeable 7 = .ok (.lload_n 2, 1) := by decide +kernel
theorem dc_X_changeable_8 : decode bc_X_changeable 8 = .ok (.aload_n 0, 1) := by decide +kernel
theorem dc_X_changeable_9 : decode bc_X_changeable 9 = .ok (.getfield 180, 3) := by decide +kernel
theorem dc_X_changeable_12 : decode bc_X_changeable 12 = .ok (.ldc2_w 211, 3) := by decide +kernel
theorem dc_X_changeable_15 : decode bc_X_changeable 15 = .ok (.invokestatic 213, 3) := by decide +kernel
theorem dc_X_changeable_18 : decode bc_X_changeable 18 = .ok (.goto 4, 3) := by decide +kernel
theorem dc_X_changeable_21 : decode bc_X_changeable 21 = .ok (.lload_n 2, 1) := by decide +kernel
theorem dc_X_changeable_22 : decode bc_X_changeable 22 = .ok (.lreturn, 1) := by decide +kernel
theorem dc_X_combined_0 : decode bc_X_combined 0 = .ok (.iload_n 0, 1) := by decide +kernel
theorem dc_X_combined_1 : decode bc_X_combined 1 = .ok (.lookupswitch 39 #[(2, 27), (3, 31)], 27) := by decide +kernel
theorem dc_X_combined_28 : decode bc_X_combined 28 = .ok (.lload_n 1, 1) := by decide +kernel
theorem dc_X_combined_29 : decode bc_X_combined 29 = .ok (.lload_n 3, 1) := by decide +kernel
theorem dc_X_combined_30 : decode bc_X_combined 30 = .ok (.lor, 1) := by decide +kernel
theorem dc_X_combined_31 : decode bc_X_combined 31 = .ok (.lreturn, 1) := by decide +kernel
theorem dc_X_combined_32 : decode bc_X_combined 32 = .ok (.lload_n 1, 1) := by decide +kernel
theorem dc_X_combined_33 : decode bc_X_combined 33 = .ok (.lload_n 3, 1) := by decide +kernel
theorem dc_X_combined_34 : decode bc_X_combined 34 = .ok (.ldc2_w 130, 3) := by decide +kernel
theorem dc_X_combined_37 : decode bc_X_combined 37 = .ok (.lxor, 1) := by decide +kernel
theorem dc_X_combined_38 : decode bc_X_combined 38 = .ok (.land, 1) := by decide +kernel
theorem dc_X_combined_39 : decode bc_X_combined 39 = .ok (.lreturn, 1) := by decide +kernel
theorem dc_X_combined_40 : decode bc_X_combined 40 = .ok (.lload_n 3, 1) := by decide +kernel
theorem dc_X_combined_41 : decode bc_X_combined 41 = .ok (.lreturn, 1) := by decide +kernel
theorem dc_X_merged_0 : decode bc_X_merged 0 = .ok (.lload_n 0, 1) := by decide +kernel
theorem dc_X_merged_1 : decode bc_X_merged 1 = .ok (.lload 4, 2) := by decide +kernel
theorem dc_X_merged_3 : decode bc_X_merged 3 = .ok (.ldc2_w 130, 3) := by decide +kernel
theorem dc_X_merged_6 : decode bc_X_merged 6 = .ok (.lxor, 1) := by decide +kernel
theorem dc_X_merged_7 : decode bc_X_merged 7 = .ok (.land, 1) := by decide +kernel
theorem dc_X_merged_8 : decode bc_X_merged 8 = .ok (.lload_n 2, 1) := by decide +kernel
theorem dc_X_merged_9 : decode bc_X_merged 9 = .ok (.lload 4, 2) := by decide +kernel
theorem dc_X_merged_11 : decode bc_X_merged 11 = .ok (.land, 1) := by decide +kernel
theorem dc_X_merged_12 : decode bc_X_merged 12 = .ok (.lor, 1) := by decide +kernel
theorem dc_X_merged_13 : decode bc_X_merged 13 = .ok (.lreturn, 1) := by decide +kernel
theorem dc_X_store_0 : decode bc_X_store 0 = .ok (.iload_n 1, 1) := by decide +kernel
theorem dc_X_store_1 : decode bc_X_store 1 = .ok (.lookupswitch 456 #[(256, 206), (260, 253), (261, 362), (262, 373), (320, 388), (321, 399), (322, 410), (323, 421), (324, 284), (384, 432), (768, 195), (770, 217), (771, 229), (772, 241), (773, 292), (774, 303), (832, 318), (833, 329), (834, 340), (835, 351), (836, 272), (2816, 440), (2818, 448)], 195) := by decide +kernel
theorem dc_X_store_196 : decode bc_X_store 196 = .ok (.aload_n 0, 1) := by decide +kernel
theorem dc_X_store_197 : decode bc_X_store 197 = .ok (.lload_n 2, 1) := by decide +kernel
theorem dc_X_store_198 : decode bc_X_store 198 = .ok (.ldc2_w 217, 3) := by decide +kernel
theorem dc_X_store_201 : decode bc_X_store 201 = .ok (.invokevirtual 219, 3) := by decide +kernel
theorem dc_X_store_204 : decode bc_X_store 204 = .ok (.goto 253, 3) := by decide +kernel
theorem dc_X_store_207 : decode bc_X_store 207 = .ok (.aload_n 0, 1) := by decide +kernel
theorem dc_X_store_208 : decode bc_X_store 208 = .ok (.lload_n 2, 1) := by decide +kernel
theorem dc_X_store_209 : decode bc_X_store 209 = .ok (.ldc2_w 223, 3) := by decide +kernel
theorem dc_X_store_212 : decode bc_X_store 212 = .ok (.invokevirtual 219, 3) := by decide +kernel
theorem dc_X_store_215 : decode bc_X_store 215 = .ok (.goto 242, 3) := by decide +kernel
theorem dc_X_store_218 : decode bc_X_store 218 = .ok (.aload_n 0, 1) := by decide +kernel
theorem dc_X_store_219 : decode bc_X_store 219 = .ok (.lload_n 2, 1) := by decide +kernel
theorem dc_X_store_220 : decode bc_X_store 220 = .ok (.ldc2_w 225, 3) := by decide +kernel
theorem dc_X_store_223 : decode bc_X_store 223 = .ok (.land, 1) := by decide +kernel
theorem dc_X_store_224 : decode bc_X_store 224 = .ok (.putfield 190, 3) := by decide +kernel
theorem dc_X_store_227 : decode bc_X_store 227 = .ok (.goto 230, 3) := by decide +kernel
theorem dc_X_store_230 : decode bc_X_store 230 = .ok (.aload_n 0, 1) := by decide +kernel
theorem dc_X_store_231 : decode bc_X_store 231 = .ok (.lload_n 2, 1) := by decide +kernel
theorem dc_X_store_232 : decode bc_X_store 232 = .ok (.ldc2_w 227, 3) := by decide +kernel
theorem dc_X_store_235 : decode bc_X_store 235 = .ok (.land, 1) := by decide +kernel
theorem dc_X_store_236 : decode bc_X_store 236 = .ok (.putfield 127, 3) := by decide +kernel
theorem dc_X_store_239 : decode bc_X_store 239 = .ok (.goto 218, 3) := by decide +kernel
theorem dc_X_store_242 : decode bc_X_store 242 = .ok (.aload_n 0, 1) := by decide +kernel
theorem dc_X_store_243 : decode bc_X_store 243 = .ok (.lload_n 2, 1) := by decide +kernel
theorem dc_X_store_244 : decode bc_X_store 244 = .ok (.ldc2_w 229, 3) := by decide +kernel
theorem dc_X_store_247 : decode bc_X_store 247 = .ok (.land, 1) := by decide +kernel
theorem dc_X_store_248 : decode bc_X_store 248 = .ok (.putfield 120, 3) := by decide +kernel
theorem dc_X_store_251 : decode bc_X_store 251 = .ok (.goto 206, 3) := by decide +kernel
theorem dc_X_store_254 : decode bc_X_store 254 = .ok (.aload_n 0, 1) := by decide +kernel
theorem dc_X_store_255 : decode bc_X_store 255 = .ok (.aload_n 0, 1) := by decide +kernel
theorem dc_X_store_256 : decode bc_X_store 256 = .ok (.getfield 120, 3) := by decide +kernel
theorem dc_X_store_259 : decode bc_X_store 259 = .ok (.lload_n 2, 1) := by decide +kernel
theorem dc_X_store_260 : decode bc_X_store 260 = .ok (.aload_n 0, 1) := by decide +kernel
theorem dc_X_store_261 : decode bc_X_store 261 = .ok (.getfield 127, 3) := by decide +kernel
theorem dc_X_store_264 : decode bc_X_store 264 = .ok (.invokestatic 213, 3) := by decide +kernel
theorem dc_X_store_267 : decode bc_X_store 267 = .ok (.putfield 120, 3) := by decide +kernel
theorem dc_X_store_270 : decode bc_X_store 270 = .ok (.goto 187, 3) := by decide +kernel
theorem dc_X_store_273 : decode bc_X_store 273 = .ok (.aload_n 0, 1) := by decide +kernel
theorem dc_X_store_274 : decode bc_X_store 274 = .ok (.lload_n 2, 1) := by decide +kernel
theorem dc_X_store_275 : decode bc_X_store 275 = .ok (.ldc2_w 227, 3) := by decide +kernel
theorem dc_X_store_278 : decode bc_X_store 278 = .ok (.land, 1) := by decide +kernel
theorem dc_X_store_279 : decode bc_X_store 279 = .ok (.putfield 180, 3) := by decide +kernel
theorem dc_X_store_282 : decode bc_X_store 282 = .ok (.goto 175, 3) := by decide +kernel
theorem dc_X_store_285 : decode bc_X_store 285 = .ok (.aload_n 0, 1) := by decide +kernel
theorem dc_X_store_286 : decode bc_X_store 286 = .ok (.lload_n 2, 1) := by decide +kernel
theorem dc_X_store_287 : decode bc_X_store 287 = .ok (.invokevirtual 231, 3) := by decide +kernel
theorem dc_X_store_290 : decode bc_X_store 290 = .ok (.goto 167, 3) := by decide +kernel
theorem dc_X_store_293 : decode bc_X_store 293 = .ok (.aload_n 0, 1) := by decide +kernel
theorem dc_X_store_294 : decode bc_X_store 294 = .ok (.getfield 12, 3) := by decide +kernel
theorem dc_X_store_297 : decode bc_X_store 297 = .ok (.lload_n 2, 1) := by decide +kernel
theorem dc_X_store_298 : decode bc_X_store 298 = .ok (.invokevirtual 235, 3) := by decide +kernel
theorem dc_X_store_301 : decode bc_X_store 301 = .ok (.goto 156, 3) := by decide +kernel
theorem dc_X_store_304 : decode bc_X_store 304 = .ok (.aload_n 0, 1) := by decide +kernel
theorem dc_X_store_305 : decode bc_X_store 305 = .ok (.getfield 12, 3) := by decide +kernel
theorem dc_X_store_308 : decode bc_X_store 308 = .ok (.lload_n 2, 1) := by decide +kernel
theorem dc_X_store_309 : decode bc_X_store 309 = .ok (.ldc2_w 238, 3) := by decide +kernel
theorem dc_X_store_312 : decode bc_X_store 312 = .ok (.land, 1) := by decide +kernel
theorem dc_X_store_313 : decode bc_X_store 313 = .ok (.putfield 173, 3) := by decide +kernel
theorem dc_X_store_316 : decode bc_X_store 316 = .ok (.goto 141, 3) := by decide +kernel
theorem dc_X_store_319 : decode bc_X_store 319 = .ok (.aload_n 0, 1) := by decide +kernel
theorem dc_X_store_320 : decode bc_X_store 320 = .ok (.getfield 12, 3) := by decide +kernel
theorem dc_X_store_323 : decode bc_X_store 323 = .ok (.lload_n 2, 1) := by decide +kernel
theorem dc_X_store_324 : decode bc_X_store 324 = .ok (.putfield 196, 3) := by decide +kernel
theorem dc_X_store_327 : decode bc_X_store 327 = .ok (.goto 130, 3) := by decide +kernel
theorem dc_X_store_330 : decode bc_X_store 330 = .ok (.aload_n 0, 1) := by decide +kernel
theorem dc_X_store_331 : decode bc_X_store 331 = .ok (.getfield 12, 3) := by decide +kernel
theorem dc_X_store_334 : decode bc_X_store 334 = .ok (.lload_n 2, 1) := by decide +kernel
theorem dc_X_store_335 : decode bc_X_store 335 = .ok (.invokevirtual 240, 3) := by decide +kernel
theorem dc_X_store_338 : decode bc_X_store 338 = .ok (.goto 119, 3) := by decide +kernel
theorem dc_X_store_341 : decode bc_X_store 341 = .ok (.aload_n 0, 1) := by decide +kernel
theorem dc_X_store_342 : decode bc_X_store 342 = .ok (.getfield 12, 3) := by decide +kernel
theorem dc_X_store_345 : decode bc_X_store 345 = .ok (.lload_n 2, 1) := by decide +kernel
theorem dc_X_store_346 : decode bc_X_store 346 = .ok (.putfield 202, 3) := by decide +kernel
theorem dc_X_store_349 : decode bc_X_store 349 = .ok (.goto 108, 3) := by decide +kernel
theorem dc_X_store_352 : decode bc_X_store 352 = .ok (.aload_n 0, 1) := by decide +kernel
theorem dc_X_store_353 : decode bc_X_store 353 = .ok (.getfield 12, 3) := by decide +kernel
theorem dc_X_store_356 : decode bc_X_store 356 = .ok (.lload_n 2, 1) := by decide +kernel
theorem dc_X_store_357 : decode bc_X_store 357 = .ok (.putfield 205, 3) := by decide +kernel
theorem dc_X_store_360 : decode bc_X_store 360 = .ok (.goto 97, 3) := by decide +kernel
theorem dc_X_store_363 : decode bc_X_store 363 = .ok (.aload_n 0, 1) := by decide +kernel
theorem dc_X_store_364 : decode bc_X_store 364 = .ok (.getfield 16, 3) := by decide +kernel
theorem dc_X_store_367 : decode bc_X_store 367 = .ok (.lload_n 2, 1) := by decide +kernel
theorem dc_X_store_368 : decode bc_X_store 368 = .ok (.invokevirtual 235, 3) := by decide +kernel
theorem dc_X_store_371 : decode bc_X_store 371 = .ok (.goto 86, 3) := by decide +kernel
theorem dc_X_store_374 : decode bc_X_store 374 = .ok (.aload_n 0, 1) := by decide +kernel
theorem dc_X_store_375 : decode bc_X_store 375 = .ok (.getfield 16, 3) := by decide +kernel
theorem dc_X_store_378 : decode bc_X_store 378 = .ok (.lload_n 2, 1) := by decide +kernel
theorem dc_X_store_379 : decode bc_X_store 379 = .ok (.ldc2_w 238, 3) := by decide +kernel
theorem dc_X_store_382 : decode bc_X_store 382 = .ok (.land, 1) := by decide +kernel
theorem dc_X_store_383 : decode bc_X_store 383 = .ok (.putfield 173, 3) := by decide +kernel
theorem dc_X_store_386 : decode bc_X_store 386 = .ok (.goto 71, 3) := by decide +kernel
theorem dc_X_store_389 : decode bc_X_store 389 = .ok (.aload_n 0, 1) := by decide +kernel
theorem dc_X_store_390 : decode bc_X_store 390 = .ok (.getfield 16, 3) := by decide +kernel
theorem dc_X_store_393 : decode bc_X_store 393 = .ok (.lload_n 2, 1) := by decide +kernel
theorem dc_X_store_394 : decode bc_X_store 394 = .ok (.putfield 196, 3) := by decide +kernel
theorem dc_X_store_397 : decode bc_X_store 397 = .ok (.goto 60, 3) := by decide +kernel
theorem dc_X_store_400 : decode bc_X_store 400 = .ok (.aload_n 0, 1) := by decide +kernel
theorem dc_X_store_401 : decode bc_X_store 401 = .ok (.getfield 16, 3) := by decide +kernel
theorem dc_X_store_404 : decode bc_X_store 404 = .ok (.lload_n 2, 1) := by decide +kernel
theorem dc_X_store_405 : decode bc_X_store 405 = .ok (.invokevirtual 240, 3) := by decide +kernel
theorem dc_X_store_408 : decode bc_X_store 408 = .ok (.goto 49, 3) := by decide +kernel
theorem dc_X_store_411 : decode bc_X_store 411 = .ok (.aload_n 0, 1) := by decide +kernel
theorem dc_X_store_412 : decode bc_X_store 412 = .ok (.getfield 16, 3) := by decide +kernel
theorem dc_X_store_415 : decode bc_X_store 415 = .ok (.lload_n 2, 1) := by decide +kernel
theorem dc_X_store_416 : decode bc_X_store 416 = .ok (.putfield 202, 3) := by decide +kernel
theorem dc_X_store_419 : decode bc_X_store 419 = .ok (.goto 38, 3) := by decide +kernel
theorem dc_X_store_422 : decode bc_X_store 422 = .ok (.aload_n 0, 1) := by decide +kernel
theorem dc_X_store_423 : decode bc_X_store 423 = .ok (.getfield 16, 3) := by decide +kernel
theorem dc_X_store_426 : decode bc_X_store 426 = .ok (.lload_n 2, 1) := by decide +kernel
theorem dc_X_store_427 : decode bc_X_store 427 = .ok (.putfield 205, 3) := by decide +kernel
theorem dc_X_store_430 : decode bc_X_store 430 = .ok (.goto 27, 3) := by decide +kernel
theorem dc_X_store_433 : decode bc_X_store 433 = .ok (.aload_n 0, 1) := by decide +kernel
theorem dc_X_store_434 : decode bc_X_store 434 = .ok (.lload_n 2, 1) := by decide +kernel
theorem dc_X_store_435 : decode bc_X_store 435 = .ok (.invokevirtual 243, 3) := by decide +kernel
theorem dc_X_store_438 : decode bc_X_store 438 = .ok (.goto 19, 3) := by decide +kernel
theorem dc_X_store_441 : decode bc_X_store 441 = .ok (.aload_n 0, 1) := by decide +kernel
theorem dc_X_store_442 : decode bc_X_store 442 = .ok (.lload_n 2, 1) := by decide +kernel
theorem dc_X_store_443 : decode bc_X_store 443 = .ok (.putfield 153, 3) := by decide +kernel
theorem dc_X_store_446 : decode bc_X_store 446 = .ok (.goto 11, 3) := by decide +kernel
theorem dc_X_store_449 : decode bc_X_store 449 = .ok (.aload_n 0, 1) := by decide +kernel
theorem dc_X_store_450 : decode bc_X_store 450 = .ok (.lload_n 2, 1) := by decide +kernel
theorem dc_X_store_451 : decode bc_X_store 451 = .ok (.putfield 156, 3) := by decide +kernel
theorem dc_X_store_454 : decode bc_X_store 454 = .ok (.goto 3, 3) := by decide +kernel
theorem dc_X_store_457 : decode bc_X_store 457 = .ok (.return_, 1) := by decide +kernel
theorem dc_X_storeStatus_0 : decode bc_X_storeStatus 0 = .ok (.aload_n 0, 1) := by decide +kernel
theorem dc_X_storeStatus_1 : decode bc_X_storeStatus 1 = .ok (.getfield 57, 3) := by decide +kernel
theorem dc_X_storeStatus_4 : decode bc_X_storeStatus 4 = .ok (.lload_n 1, 1) := by decide +kernel
theorem dc_X_storeStatus_5 : decode bc_X_storeStatus 5 = .ok (.lload_n 3, 1) := by decide +kernel
theorem dc_X_storeStatus_6 : decode bc_X_storeStatus 6 = .ok (.invokestatic 213, 3) := by decide +kernel
theorem dc_X_storeStatus_9 : decode bc_X_storeStatus 9 = .ok (.lstore 5, 2) := by decide +kernel
theorem dc_X_storeStatus_11 : decode bc_X_storeStatus 11 = .ok (.lload 5, 2) := by decide +kernel
theorem dc_X_storeStatus_13 : decode bc_X_storeStatus 13 = .ok (.ldc2_w 162, 3) := by decide +kernel
theorem dc_X_storeStatus_16 : decode bc_X_storeStatus 16 = .ok (.land, 1) := by decide +kernel
theorem dc_X_storeStatus_17 : decode bc_X_storeStatus 17 = .ok (.ldc2_w 246, 3) := by decide +kernel
theorem dc_X_storeStatus_20 : decode bc_X_storeStatus 20 = .ok (.lcmp, 1) := by decide +kernel
theorem dc_X_storeStatus_21 : decode bc_X_storeStatus 21 = .ok (.ifCond .ne 7, 3) := by decide +kernel
theorem dc_X_storeStatus_24 : decode bc_X_storeStatus 24 = .ok (.iconst 1, 1) := by decide +kernel
theorem dc_X_storeStatus_25 : decode bc_X_storeStatus 25 = .ok (.goto 4, 3) := by decide +kernel
theorem dc_X_storeStatus_28 : decode bc_X_storeStatus 28 = .ok (.iconst 0, 1) := by decide +kernel
theorem dc_X_storeStatus_29 : decode bc_X_storeStatus 29 = .ok (.istore 7, 2) := by decide +kernel
theorem dc_X_storeStatus_31 : decode bc_X_storeStatus 31 = .ok (.aload_n 0, 1) := by decide +kernel
theorem dc_X_storeStatus_32 : decode bc_X_storeStatus 32 = .ok (.iload 7, 2) := by decide +kernel
theorem dc_X_storeStatus_34 : decode bc_X_storeStatus 34 = .ok (.ifCond .eq 18, 3) := by decide +kernel
theorem dc_X_storeStatus_37 : decode bc_X_storeStatus 37 = .ok (.lload 5, 2) := by decide +kernel
theorem dc_X_storeStatus_39 : decode bc_X_storeStatus 39 = .ok (.aload_n 0, 1) := by decide +kernel
theorem dc_X_storeStatus_40 : decode bc_X_storeStatus 40 = .ok (.getfield 57, 3) := by decide +kernel
theorem dc_X_storeStatus_43 : decode bc_X_storeStatus 43 = .ok (.ldc2_w 162, 3) := by decide +kernel
theorem dc_X_storeStatus_46 : decode bc_X_storeStatus 46 = .ok (.invokestatic 213, 3) := by decide +kernel
theorem dc_X_storeStatus_49 : decode bc_X_storeStatus 49 = .ok (.goto 5, 3) := by decide +kernel
theorem dc_X_storeStatus_52 : decode bc_X_storeStatus 52 = .ok (.lload 5, 2) := by decide +kernel
theorem dc_X_storeStatus_54 : decode bc_X_storeStatus 54 = .ok (.putfield 57, 3) := by decide +kernel
theorem dc_X_storeStatus_57 : decode bc_X_storeStatus 57 = .ok (.return_, 1) := by decide +kernel
theorem dc_X_storeSupervisorPending_0 : decode bc_X_storeSupervisorPending 0 = .ok (.aload_n 0, 1) := by decide +kernel
theorem dc_X_storeSupervisorPending_1 : decode bc_X_storeSupervisorPending 1 = .ok (.aload_n 0, 1) := by decide +kernel
theorem dc_X_storeSupervisorPending_2 : decode bc_X_storeSupervisorPending 2 = .ok (.getfield 180, 3) := by decide +kernel
theorem dc_X_storeSupervisorPending_5 : decode bc_X_storeSupervisorPending 5 = .ok (.lload_n 1, 1) := by decide +kernel
theorem dc_X_storeSupervisorPending_6 : decode bc_X_storeSupervisorPending 6 = .ok (.ldc2_w 248, 3) := by decide +kernel
theorem dc_X_storeSupervisorPending_9 : decode bc_X_storeSupervisorPending 9 = .ok (.aload_n 0, 1) := by decide +kernel
theorem dc_X_storeSupervisorPending_10 : decode bc_X_storeSupervisorPending 10 = .ok (.getfield 127, 3) := by decide +kernel
theorem dc_X_storeSupervisorPending_13 : decode bc_X_storeSupervisorPending 13 = .ok (.land, 1) := by decide +kernel
theorem dc_X_storeSupervisorPending_14 : decode bc_X_storeSupervisorPending 14 = .ok (.invokestatic 213, 3) := by decide +kernel
theorem dc_X_storeSupervisorPending_17 : decode bc_X_storeSupervisorPending 17 = .ok (.putfield 180, 3) := by decide +kernel
theorem dc_X_storeSupervisorPending_20 : decode bc_X_storeSupervisorPending 20 = .ok (.return_, 1) := by decide +kernel
theorem dc_X_storeTable_0 : decode bc_X_storeTable 0 = .ok (.lload_n 1, 1) := by decide +kernel
theorem dc_X_storeTable_1 : decode bc_X_storeTable 1 = .ok (.bipush 60, 2) := by decide +kernel
theorem dc_X_storeTable_3 : decode bc_X_storeTable 3 = .ok (.lushr, 1) := by decide +kernel
theorem dc_X_storeTable_4 : decode bc_X_storeTable 4 = .ok (.lstore_n 3, 1) := by decide +kernel
theorem dc_X_storeTable_5 : decode bc_X_storeTable 5 = .ok (.lload_n 3, 1) := by decide +kernel
theorem dc_X_storeTable_6 : decode bc_X_storeTable 6 = .ok (.lconst 0, 1) := by decide +kernel
theorem dc_X_storeTable_7 : decode bc_X_storeTable 7 = .ok (.lcmp, 1) := by decide +kernel
theorem dc_X_storeTable_8 : decode bc_X_storeTable 8 = .ok (.ifCond .eq 19, 3) := by decide +kernel
theorem dc_X_storeTable_11 : decode bc_X_storeTable 11 = .ok (.lload_n 3, 1) := by decide +kernel
theorem dc_X_storeTable_12 : decode bc_X_storeTable 12 = .ok (.ldc2_w 250, 3) := by decide +kernel
theorem dc_X_storeTable_15 : decode bc_X_storeTable 15 = .ok (.lcmp, 1) := by decide +kernel
theorem dc_X_storeTable_16 : decode bc_X_storeTable 16 = .ok (.ifCond .eq 11, 3) := by decide +kernel
theorem dc_X_storeTable_19 : decode bc_X_storeTable 19 = .ok (.lload_n 3, 1) := by decide +kernel
theorem dc_X_storeTable_20 : decode bc_X_storeTable 20 = .ok (.ldc2_w 252, 3) := by decide +kernel
theorem dc_X_storeTable_23 : decode bc_X_storeTable 23 = .ok (.lcmp, 1) := by decide +kernel
theorem dc_X_storeTable_24 : decode bc_X_storeTable 24 = .ok (.ifCond .ne 8, 3) := by decide +kernel
theorem dc_X_storeTable_27 : decode bc_X_storeTable 27 = .ok (.aload_n 0, 1) := by decide +kernel
theorem dc_X_storeTable_28 : decode bc_X_storeTable 28 = .ok (.lload_n 1, 1) := by decide +kernel
theorem dc_X_storeTable_29 : decode bc_X_storeTable 29 = .ok (.putfield 208, 3) := by decide +kernel
theorem dc_X_storeTable_32 : decode bc_X_storeTable 32 = .ok (.return_, 1) := by decide +kernel
theorem dc_X_goesToSupervisor_0 : decode bc_X_goesToSupervisor 0 = .ok (.iload_n 1, 1) := by decide +kernel
theorem dc_X_goesToSupervisor_1 : decode bc_X_goesToSupervisor 1 = .ok (.ifCond .eq 10, 3) := by decide +kernel
theorem dc_X_goesToSupervisor_4 : decode bc_X_goesToSupervisor 4 = .ok (.aload_n 0, 1) := by decide +kernel
theorem dc_X_goesToSupervisor_5 : decode bc_X_goesToSupervisor 5 = .ok (.getfield 127, 3) := by decide +kernel
theorem dc_X_goesToSupervisor_8 : decode bc_X_goesToSupervisor 8 = .ok (.goto 7, 3) := by decide +kernel
theorem dc_X_goesToSupervisor_11 : decode bc_X_goesToSupervisor 11 = .ok (.aload_n 0, 1) := by decide +kernel
theorem dc_X_goesToSupervisor_12 : decode bc_X_goesToSupervisor 12 = .ok (.getfield 190, 3) := by decide +kernel
theorem dc_X_goesToSupervisor_15 : decode bc_X_goesToSupervisor 15 = .ok (.lstore_n 3, 1) := by decide +kernel
theorem dc_X_goesToSupervisor_16 : decode bc_X_goesToSupervisor 16 = .ok (.aload_n 0, 1) := by decide +kernel
theorem dc_X_goesToSupervisor_17 : decode bc_X_goesToSupervisor 17 = .ok (.getfield 19, 3) := by decide +kernel
theorem dc_X_goesToSupervisor_20 : decode bc_X_goesToSupervisor 20 = .ok (.iconst 3, 1) := by decide +kernel
theorem dc_X_goesToSupervisor_21 : decode bc_X_goesToSupervisor 21 = .ok (.if_icmp .eq 17, 3) := by decide +kernel
theorem dc_X_goesToSupervisor_24 : decode bc_X_goesToSupervisor 24 = .ok (.lload_n 3, 1) := by decide +kernel
theorem dc_X_goesToSupervisor_25 : decode bc_X_goesToSupervisor 25 = .ok (.iload_n 2, 1) := by decide +kernel
theorem dc_X_goesToSupervisor_26 : decode bc_X_goesToSupervisor 26 = .ok (.lushr, 1) := by decide +kernel
theorem dc_X_goesToSupervisor_27 : decode bc_X_goesToSupervisor 27 = .ok (.lconst 1, 1) := by decide +kernel
theorem dc_X_goesToSupervisor_28 : decode bc_X_goesToSupervisor 28 = .ok (.land, 1) := by decide +kernel
theorem dc_X_goesToSupervisor_29 : decode bc_X_goesToSupervisor 29 = .ok (.lconst 0, 1) := by decide +kernel
theorem dc_X_goesToSupervisor_30 : decode bc_X_goesToSupervisor 30 = .ok (.lcmp, 1) := by decide +kernel
theorem dc_X_goesToSupervisor_31 : decode bc_X_goesToSupervisor 31 = .ok (.ifCond .eq 7, 3) := by decide +kernel
theorem dc_X_goesToSupervisor_34 : decode bc_X_goesToSupervisor 34 = .ok (.iconst 1, 1) := by decide +kernel
theorem dc_X_goesToSupervisor_35 : decode bc_X_goesToSupervisor 35 = .ok (.goto 4, 3) := by decide +kernel
theorem dc_X_goesToSupervisor_38 : decode bc_X_goesToSupervisor 38 = .ok (.iconst 0, 1) := by decide +kernel
theorem dc_X_goesToSupervisor_39 : decode bc_X_goesToSupervisor 39 = .ok (.ireturn, 1) := by decide +kernel
theorem dc_X_enterSupervisor_0 : decode bc_X_enterSupervisor 0 = .ok (.aload_n 0, 1) := by decide +kernel
theorem dc_X_enterSupervisor_1 : decode bc_X_enterSupervisor 1 = .ok (.getfield 57, 3) := by decide +kernel
theorem dc_X_enterSupervisor_4 : decode bc_X_enterSupervisor 4 = .ok (.ldc2_w 254, 3) := by decide +kernel
theorem dc_X_enterSupervisor_7 : decode bc_X_enterSupervisor 7 = .ok (.land, 1) := by decide +kernel
theorem dc_X_enterSupervisor_8 : decode bc_X_enterSupervisor 8 = .ok (.lstore_n 1, 1) := by decide +kernel
theorem dc_X_enterSupervisor_9 : decode bc_X_enterSupervisor 9 = .ok (.aload_n 0, 1) := by decide +kernel
theorem dc_X_enterSupervisor_10 : decode bc_X_enterSupervisor 10 = .ok (.getfield 19, 3) := by decide +kernel
theorem dc_X_enterSupervisor_13 : decode bc_X_enterSupervisor 13 = .ok (.iconst 1, 1) := by decide +kernel
theorem dc_X_enterSupervisor_14 : decode bc_X_enterSupervisor 14 = .ok (.if_icmp .ne 9, 3) := by decide +kernel
theorem dc_X_enterSupervisor_17 : decode bc_X_enterSupervisor 17 = .ok (.ldc2_w 256, 3) := by decide +kernel
theorem dc_X_enterSupervisor_20 : decode bc_X_enterSupervisor 20 = .ok (.goto 4, 3) := by decide +kernel
theorem dc_X_enterSupervisor_23 : decode bc_X_enterSupervisor 23 = .ok (.lconst 0, 1) := by decide +kernel
theorem dc_X_enterSupervisor_24 : decode bc_X_enterSupervisor 24 = .ok (.lstore_n 3, 1) := by decide +kernel
theorem dc_X_enterSupervisor_25 : decode bc_X_enterSupervisor 25 = .ok (.aload_n 0, 1) := by decide +kernel
theorem dc_X_enterSupervisor_26 : decode bc_X_enterSupervisor 26 = .ok (.ldc2_w 248, 3) := by decide +kernel
theorem dc_X_enterSupervisor_29 : decode bc_X_enterSupervisor 29 = .ok (.invokevirtual 29, 3) := by decide +kernel
theorem dc_X_enterSupervisor_32 : decode bc_X_enterSupervisor 32 = .ok (.ifCond .eq 9, 3) := by decide +kernel
theorem dc_X_enterSupervisor_35 : decode bc_X_enterSupervisor 35 = .ok (.ldc2_w 258, 3) := by decide +kernel
theorem dc_X_enterSupervisor_38 : decode bc_X_enterSupervisor 38 = .ok (.goto 4, 3) := by decide +kernel
theorem dc_X_enterSupervisor_41 : decode bc_X_enterSupervisor 41 = .ok (.lconst 0, 1) := by decide +kernel
theorem dc_X_enterSupervisor_42 : decode bc_X_enterSupervisor 42 = .ok (.lstore 5, 2) := by decide +kernel
theorem dc_X_enterSupervisor_44 : decode bc_X_enterSupervisor 44 = .ok (.aload_n 0, 1) := by decide +kernel
theorem dc_X_enterSupervisor_45 : decode bc_X_enterSupervisor 45 = .ok (.lload_n 1, 1) := by decide +kernel
theorem dc_X_enterSupervisor_46 : decode bc_X_enterSupervisor 46 = .ok (.lload_n 3, 1) := by decide +kernel
theorem dc_X_enterSupervisor_47 : decode bc_X_enterSupervisor 47 = .ok (.lor, 1) := by decide +kernel
theorem dc_X_enterSupervisor_48 : decode bc_X_enterSupervisor 48 = .ok (.lload 5, 2) := by decide +kernel
theorem dc_X_enterSupervisor_50 : decode bc_X_enterSupervisor 50 = .ok (.lor, 1) := by decide +kernel
theorem dc_X_enterSupervisor_51 : decode bc_X_enterSupervisor 51 = .ok (.putfield 57, 3) := by decide +kernel
theorem dc_X_enterSupervisor_54 : decode bc_X_enterSupervisor 54 = .ok (.aload_n 0, 1) := by decide +kernel
theorem dc_X_enterSupervisor_55 : decode bc_X_enterSupervisor 55 = .ok (.iconst 1, 1) := by decide +kernel
theorem dc_X_enterSupervisor_56 : decode bc_X_enterSupervisor 56 = .ok (.putfield 19, 3) := by decide +kernel
theorem dc_X_enterSupervisor_59 : decode bc_X_enterSupervisor 59 = .ok (.return_, 1) := by decide +kernel
theorem dc_X_enterMachine_0 : decode bc_X_enterMachine 0 = .ok (.aload_n 0, 1) := by decide +kernel
theorem dc_X_enterMachine_1 : decode bc_X_enterMachine 1 = .ok (.getfield 57, 3) := by decide +kernel
theorem dc_X_enterMachine_4 : decode bc_X_enterMachine 4 = .ok (.ldc2_w 260, 3) := by decide +kernel
theorem dc_X_enterMachine_7 : decode bc_X_enterMachine 7 = .ok (.land, 1) := by decide +kernel
theorem dc_X_enterMachine_8 : decode bc_X_enterMachine 8 = .ok (.lstore_n 1, 1) := by decide +kernel
theorem dc_X_enterMachine_9 : decode bc_X_enterMachine 9 = .ok (.aload_n 0, 1) := by decide +kernel
theorem dc_X_enterMachine_10 : decode bc_X_enterMachine 10 = .ok (.getfield 19, 3) := by decide +kernel
theorem dc_X_enterMachine_13 : decode bc_X_enterMachine 13 = .ok (.i2l, 1) := by decide +kernel
theorem dc_X_enterMachine_14 : decode bc_X_enterMachine 14 = .ok (.bipush 11, 2) := by decide +kernel
theorem dc_X_enterMachine_16 : decode bc_X_enterMachine 16 = .ok (.lshl, 1) := by decide +kernel
theorem dc_X_enterMachine_17 : decode bc_X_enterMachine 17 = .ok (.lstore_n 3, 1) := by decide +kernel
theorem dc_X_enterMachine_18 : decode bc_X_enterMachine 18 = .ok (.aload_n 0, 1) := by decide +kernel
theorem dc_X_enterMachine_19 : decode bc_X_enterMachine 19 = .ok (.ldc2_w 250, 3) := by decide +kernel
theorem dc_X_enterMachine_22 : decode bc_X_enterMachine 22 = .ok (.invokevirtual 29, 3) := by decide +kernel
theorem dc_X_enterMachine_25 : decode bc_X_enterMachine 25 = .ok (.ifCond .eq 9, 3) := by decide +kernel
theorem dc_X_enterMachine_28 : decode bc_X_enterMachine 28 = .ok (.ldc2_w 262, 3) := by decide +kernel
theorem dc_X_enterMachine_31 : decode bc_X_enterMachine 31 = .ok (.goto 4, 3) := by decide +kernel
theorem dc_X_enterMachine_34 : decode bc_X_enterMachine 34 = .ok (.lconst 0, 1) := by decide +kernel
theorem dc_X_enterMachine_35 : decode bc_X_enterMachine 35 = .ok (.lstore 5, 2) := by decide +kernel
theorem dc_X_enterMachine_37 : decode bc_X_enterMachine 37 = .ok (.aload_n 0, 1) := by decide +kernel
theorem dc_X_enterMachine_38 : decode bc_X_enterMachine 38 = .ok (.lload_n 1, 1) := by decide +kernel
theorem dc_X_enterMachine_39 : decode bc_X_enterMachine 39 = .ok (.lload_n 3, 1) := by decide +kernel
theorem dc_X_enterMachine_40 : decode bc_X_enterMachine 40 = .ok (.lor, 1) := by decide +kernel
theorem dc_X_enterMachine_41 : decode bc_X_enterMachine 41 = .ok (.lload 5, 2) := by decide +kernel
theorem dc_X_enterMachine_43 : decode bc_X_enterMachine 43 = .ok (.lor, 1) := by decide +kernel
theorem dc_X_enterMachine_44 : decode bc_X_enterMachine 44 = .ok (.putfield 57, 3) := by decide +kernel
theorem dc_X_enterMachine_47 : decode bc_X_enterMachine 47 = .ok (.aload_n 0, 1) := by decide +kernel
theorem dc_X_enterMachine_48 : decode bc_X_enterMachine 48 = .ok (.iconst 3, 1) := by decide +kernel
theorem dc_X_enterMachine_49 : decode bc_X_enterMachine 49 = .ok (.putfield 19, 3) := by decide +kernel
theorem dc_X_enterMachine_52 : decode bc_X_enterMachine 52 = .ok (.return_, 1) := by decide +kernel
theorem dc_X_mayReturn_0 : decode bc_X_mayReturn 0 = .ok (.iload_n 1, 1) := by decide +kernel
theorem dc_X_mayReturn_1 : decode bc_X_mayReturn 1 = .ok (.ifCond .eq 19, 3) := by decide +kernel
theorem dc_X_mayReturn_4 : decode bc_X_mayReturn 4 = .ok (.aload_n 0, 1) := by decide +kernel
theorem dc_X_mayReturn_5 : decode bc_X_mayReturn 5 = .ok (.getfield 19, 3) := by decide +kernel
theorem dc_X_mayReturn_8 : decode bc_X_mayReturn 8 = .ok (.iconst 3, 1) := by decide +kernel
theorem dc_X_mayReturn_9 : decode bc_X_mayReturn 9 = .ok (.if_icmp .ne 7, 3) := by decide +kernel
theorem dc_X_mayReturn_12 : decode bc_X_mayReturn 12 = .ok (.iconst 1, 1) := by decide +kernel
theorem dc_X_mayReturn_13 : decode bc_X_mayReturn 13 = .ok (.goto 14, 3) := by decide +kernel
theorem dc_X_mayReturn_16 : decode bc_X_mayReturn 16 = .ok (.iconst 0, 1) := by decide +kernel
theorem dc_X_mayReturn_17 : decode bc_X_mayReturn 17 = .ok (.goto 10, 3) := by decide +kernel
theorem dc_X_mayReturn_20 : decode bc_X_mayReturn 20 = .ok (.aload_n 0, 1) := by decide +kernel
theorem dc_X_mayReturn_21 : decode bc_X_mayReturn 21 = .ok (.ldc2_w 264, 3) := by decide +kernel
theorem dc_X_mayReturn_24 : decode bc_X_mayReturn 24 = .ok (.invokevirtual 150, 3) := by decide +kernel
theorem dc_X_mayReturn_27 : decode bc_X_mayReturn 27 = .ok (.ireturn, 1) := by decide +kernel
theorem dc_X_leaveMachine_0 : decode bc_X_leaveMachine 0 = .ok (.aload_n 0, 1) := by decide +kernel
theorem dc_X_leaveMachine_1 : decode bc_X_leaveMachine 1 = .ok (.ldc2_w 262, 3) := by decide +kernel
theorem dc_X_leaveMachine_4 : decode bc_X_leaveMachine 4 = .ok (.invokevirtual 29, 3) := by decide +kernel
theorem dc_X_leaveMachine_7 : decode bc_X_leaveMachine 7 = .ok (.ifCond .eq 9, 3) := by decide +kernel
theorem dc_X_leaveMachine_10 : decode bc_X_leaveMachine 10 = .ok (.ldc2_w 250, 3) := by decide +kernel
theorem dc_X_leaveMachine_13 : decode bc_X_leaveMachine 13 = .ok (.goto 4, 3) := by decide +kernel
theorem dc_X_leaveMachine_16 : decode bc_X_leaveMachine 16 = .ok (.lconst 0, 1) := by decide +kernel
theorem dc_X_leaveMachine_17 : decode bc_X_leaveMachine 17 = .ok (.lstore_n 1, 1) := by decide +kernel
theorem dc_X_leaveMachine_18 : decode bc_X_leaveMachine 18 = .ok (.aload_n 0, 1) := by decide +kernel
theorem dc_X_leaveMachine_19 : decode bc_X_leaveMachine 19 = .ok (.aload_n 0, 1) := by decide +kernel
theorem dc_X_leaveMachine_20 : decode bc_X_leaveMachine 20 = .ok (.invokevirtual 33, 3) := by decide +kernel
theorem dc_X_leaveMachine_23 : decode bc_X_leaveMachine 23 = .ok (.putfield 19, 3) := by decide +kernel
theorem dc_X_leaveMachine_26 : decode bc_X_leaveMachine 26 = .ok (.aload_n 0, 1) := by decide +kernel
theorem dc_X_leaveMachine_27 : decode bc_X_leaveMachine 27 = .ok (.aload_n 0, 1) := by decide +kernel
theorem dc_X_leaveMachine_28 : decode bc_X_leaveMachine 28 = .ok (.getfield 57, 3) := by decide +kernel
theorem dc_X_leaveMachine_31 : decode bc_X_leaveMachine 31 = .ok (.ldc2_w 266, 3) := by decide +kernel
theorem dc_X_leaveMachine_34 : decode bc_X_leaveMachine 34 = .ok (.land, 1) := by decide +kernel
theorem dc_X_leaveMachine_35 : decode bc_X_leaveMachine 35 = .ok (.ldc2_w 262, 3) := by decide +kernel
theorem dc_X_leaveMachine_38 : decode bc_X_leaveMachine 38 = .ok (.lor, 1) := by decide +kernel
theorem dc_X_leaveMachine_39 : decode bc_X_leaveMachine 39 = .ok (.lload_n 1, 1) := by decide +kernel
theorem dc_X_leaveMachine_40 : decode bc_X_leaveMachine 40 = .ok (.lor, 1) := by decide +kernel
theorem dc_X_leaveMachine_41 : decode bc_X_leaveMachine 41 = .ok (.putfield 57, 3) := by decide +kernel
theorem dc_X_leaveMachine_44 : decode bc_X_leaveMachine 44 = .ok (.aload_n 0, 1) := by decide +kernel
theorem dc_X_leaveMachine_45 : decode bc_X_leaveMachine 45 = .ok (.aload_n 0, 1) := by decide +kernel
theorem dc_X_leaveMachine_46 : decode bc_X_leaveMachine 46 = .ok (.getfield 12, 3) := by decide +kernel
theorem dc_X_leaveMachine_49 : decode bc_X_leaveMachine 49 = .ok (.getfield 199, 3) := by decide +kernel
theorem dc_X_leaveMachine_52 : decode bc_X_leaveMachine 52 = .ok (.putfield 101, 3) := by decide +kernel
theorem dc_X_leaveMachine_55 : decode bc_X_leaveMachine 55 = .ok (.return_, 1) := by decide +kernel
theorem dc_X_leaveSupervisor_0 : decode bc_X_leaveSupervisor 0 = .ok (.aload_n 0, 1) := by decide +kernel
theorem dc_X_leaveSupervisor_1 : decode bc_X_leaveSupervisor 1 = .ok (.ldc2_w 258, 3) := by decide +kernel
theorem dc_X_leaveSupervisor_4 : decode bc_X_leaveSupervisor 4 = .ok (.invokevirtual 29, 3) := by decide +kernel
theorem dc_X_leaveSupervisor_7 : decode bc_X_leaveSupervisor 7 = .ok (.ifCond .eq 9, 3) := by decide +kernel
theorem dc_X_leaveSupervisor_10 : decode bc_X_leaveSupervisor 10 = .ok (.ldc2_w 248, 3) := by decide +kernel
theorem dc_X_leaveSupervisor_13 : decode bc_X_leaveSupervisor 13 = .ok (.goto 4, 3) := by decide +kernel
theorem dc_X_leaveSupervisor_16 : decode bc_X_leaveSupervisor 16 = .ok (.lconst 0, 1) := by decide +kernel
theorem dc_X_leaveSupervisor_17 : decode bc_X_leaveSupervisor 17 = .ok (.lstore_n 1, 1) := by decide +kernel
theorem dc_X_leaveSupervisor_18 : decode bc_X_leaveSupervisor 18 = .ok (.aload_n 0, 1) := by decide +kernel
theorem dc_X_leaveSupervisor_19 : decode bc_X_leaveSupervisor 19 = .ok (.aload_n 0, 1) := by decide +kernel
theorem dc_X_leaveSupervisor_20 : decode bc_X_leaveSupervisor 20 = .ok (.ldc2_w 256, 3) := by decide +kernel
theorem dc_X_leaveSupervisor_23 : decode bc_X_leaveSupervisor 23 = .ok (.invokevirtual 29, 3) := by decide +kernel
theorem dc_X_leaveSupervisor_26 : decode bc_X_leaveSupervisor 26 = .ok (.ifCond .eq 7, 3) := by decide +kernel
theorem dc_X_leaveSupervisor_29 : decode bc_X_leaveSupervisor 29 = .ok (.iconst 1, 1) := by decide +kernel
theorem dc_X_leaveSupervisor_30 : decode bc_X_leaveSupervisor 30 = .ok (.goto 4, 3) := by decide +kernel
theorem dc_X_leaveSupervisor_33 : decode bc_X_leaveSupervisor 33 = .ok (.iconst 0, 1) := by decide +kernel
theorem dc_X_leaveSupervisor_34 : decode bc_X_leaveSupervisor 34 = .ok (.putfield 19, 3) := by decide +kernel
theorem dc_X_leaveSupervisor_37 : decode bc_X_leaveSupervisor 37 = .ok (.aload_n 0, 1) := by decide +kernel
theorem dc_X_leaveSupervisor_38 : decode bc_X_leaveSupervisor 38 = .ok (.aload_n 0, 1) := by decide +kernel
theorem dc_X_leaveSupervisor_39 : decode bc_X_leaveSupervisor 39 = .ok (.getfield 57, 3) := by decide +kernel
theorem dc_X_leaveSupervisor_42 : decode bc_X_leaveSupervisor 42 = .ok (.ldc2_w 268, 3) := by decide +kernel
theorem dc_X_leaveSupervisor_45 : decode bc_X_leaveSupervisor 45 = .ok (.land, 1) := by decide +kernel
theorem dc_X_leaveSupervisor_46 : decode bc_X_leaveSupervisor 46 = .ok (.ldc2_w 258, 3) := by decide +kernel
theorem dc_X_leaveSupervisor_49 : decode bc_X_leaveSupervisor 49 = .ok (.lor, 1) := by decide +kernel
theorem dc_X_leaveSupervisor_50 : decode bc_X_leaveSupervisor 50 = .ok (.lload_n 1, 1) := by decide +kernel
theorem dc_X_leaveSupervisor_51 : decode bc_X_leaveSupervisor 51 = .ok (.lor, 1) := by decide +kernel
theorem dc_X_leaveSupervisor_52 : decode bc_X_leaveSupervisor 52 = .ok (.putfield 57, 3) := by decide +kernel
theorem dc_X_leaveSupervisor_55 : decode bc_X_leaveSupervisor 55 = .ok (.aload_n 0, 1) := by decide +kernel
theorem dc_X_leaveSupervisor_56 : decode bc_X_leaveSupervisor 56 = .ok (.aload_n 0, 1) := by decide +kernel
theorem dc_X_leaveSupervisor_57 : decode bc_X_leaveSupervisor 57 = .ok (.getfield 16, 3) := by decide +kernel
theorem dc_X_leaveSupervisor_60 : decode bc_X_leaveSupervisor 60 = .ok (.getfield 199, 3) := by decide +kernel
theorem dc_X_leaveSupervisor_63 : decode bc_X_leaveSupervisor 63 = .ok (.putfield 101, 3) := by decide +kernel
theorem dc_X_leaveSupervisor_66 : decode bc_X_leaveSupervisor 66 = .ok (.return_, 1) := by decide +kernel
theorem dc_X_takesUndelegated_0 : decode bc_X_takesUndelegated 0 = .ok (.aload_n 0, 1) := by decide +kernel
theorem dc_X_takesUndelegated_1 : decode bc_X_takesUndelegated 1 = .ok (.getfield 19, 3) := by decide +kernel
theorem dc_X_takesUndelegated_4 : decode bc_X_takesUndelegated 4 = .ok (.iconst 3, 1) := by decide +kernel
theorem dc_X_takesUndelegated_5 : decode bc_X_takesUndelegated 5 = .ok (.if_icmp .ne 13, 3) := by decide +kernel
theorem dc_X_takesUndelegated_8 : decode bc_X_takesUndelegated 8 = .ok (.aload_n 0, 1) := by decide +kernel
theorem dc_X_takesUndelegated_9 : decode bc_X_takesUndelegated 9 = .ok (.ldc2_w 250, 3) := by decide +kernel
theorem dc_X_takesUndelegated_12 : decode bc_X_takesUndelegated 12 = .ok (.invokevirtual 29, 3) := by decide +kernel
theorem dc_X_takesUndelegated_15 : decode bc_X_takesUndelegated 15 = .ok (.ifCond .eq 7, 3) := by decide +kernel
theorem dc_X_takesUndelegated_18 : decode bc_X_takesUndelegated 18 = .ok (.iconst 1, 1) := by decide +kernel
theorem dc_X_takesUndelegated_19 : decode bc_X_takesUndelegated 19 = .ok (.goto 4, 3) := by decide +kernel
theorem dc_X_takesUndelegated_22 : decode bc_X_takesUndelegated 22 = .ok (.iconst 0, 1) := by decide +kernel
theorem dc_X_takesUndelegated_23 : decode bc_X_takesUndelegated 23 = .ok (.ireturn, 1) := by decide +kernel
theorem dc_X_takesDelegated_0 : decode bc_X_takesDelegated 0 = .ok (.aload_n 0, 1) := by decide +kernel
theorem dc_X_takesDelegated_1 : decode bc_X_takesDelegated 1 = .ok (.getfield 19, 3) := by decide +kernel
theorem dc_X_takesDelegated_4 : decode bc_X_takesDelegated 4 = .ok (.ifCond .eq 21, 3) := by decide +kernel
theorem dc_X_takesDelegated_7 : decode bc_X_takesDelegated 7 = .ok (.aload_n 0, 1) := by decide +kernel
theorem dc_X_takesDelegated_8 : decode bc_X_takesDelegated 8 = .ok (.getfield 19, 3) := by decide +kernel
theorem dc_X_takesDelegated_11 : decode bc_X_takesDelegated 11 = .ok (.iconst 1, 1) := by decide +kernel
theorem dc_X_takesDelegated_12 : decode bc_X_takesDelegated 12 = .ok (.if_icmp .ne 17, 3) := by decide +kernel
theorem dc_X_takesDelegated_15 : decode bc_X_takesDelegated 15 = .ok (.aload_n 0, 1) := by decide +kernel
theorem dc_X_takesDelegated_16 : decode bc_X_takesDelegated 16 = .ok (.ldc2_w 248, 3) := by decide +kernel
theorem dc_X_takesDelegated_19 : decode bc_X_takesDelegated 19 = .ok (.invokevirtual 29, 3) := by decide +kernel
theorem dc_X_takesDelegated_22 : decode bc_X_takesDelegated 22 = .ok (.ifCond .eq 7, 3) := by decide +kernel
theorem dc_X_takesDelegated_25 : decode bc_X_takesDelegated 25 = .ok (.iconst 1, 1) := by decide +kernel
theorem dc_X_takesDelegated_26 : decode bc_X_takesDelegated 26 = .ok (.goto 4, 3) := by decide +kernel
theorem dc_X_takesDelegated_29 : decode bc_X_takesDelegated 29 = .ok (.iconst 0, 1) := by decide +kernel
theorem dc_X_takesDelegated_30 : decode bc_X_takesDelegated 30 = .ok (.ireturn, 1) := by decide +kernel
theorem dc_X_firstInOrder_0 : decode bc_X_firstInOrder 0 = .ok (.getstatic 270, 3) := by decide +kernel
theorem dc_X_firstInOrder_3 : decode bc_X_firstInOrder 3 = .ok (.astore_n 2, 1) := by decide +kernel
theorem dc_X_firstInOrder_4 : decode bc_X_firstInOrder 4 = .ok (.aload_n 2, 1) := by decide +kernel
theorem dc_X_firstInOrder_5 : decode bc_X_firstInOrder 5 = .ok (.arraylength, 1) := by decide +kernel
theorem dc_X_firstInOrder_6 : decode bc_X_firstInOrder 6 = .ok (.istore_n 3, 1) := by decide +kernel
theorem dc_X_firstInOrder_7 : decode bc_X_firstInOrder 7 = .ok (.iconst 0, 1) := by decide +kernel
theorem dc_X_firstInOrder_8 : decode bc_X_firstInOrder 8 = .ok (.istore 4, 2) := by decide +kernel
theorem dc_X_firstInOrder_10 : decode bc_X_firstInOrder 10 = .ok (.iload 4, 2) := by decide +kernel
theorem dc_X_firstInOrder_12 : decode bc_X_firstInOrder 12 = .ok (.iload_n 3, 1) := by decide +kernel
theorem dc_X_firstInOrder_13 : decode bc_X_firstInOrder 13 = .ok (.if_icmp .ge 29, 3) := by decide +kernel
theorem dc_X_firstInOrder_16 : decode bc_X_firstInOrder 16 = .ok (.aload_n 2, 1) := by decide +kernel
theorem dc_X_firstInOrder_17 : decode bc_X_firstInOrder 17 = .ok (.iload 4, 2) := by decide +kernel
theorem dc_X_firstInOrder_19 : decode bc_X_firstInOrder 19 = .ok (.iaload, 1) := by decide +kernel
theorem dc_X_firstInOrder_20 : decode bc_X_firstInOrder 20 = .ok (.istore 5, 2) := by decide +kernel
theorem dc_X_firstInOrder_22 : decode bc_X_firstInOrder 22 = .ok (.lload_n 0, 1) := by decide +kernel
theorem dc_X_firstInOrder_23 : decode bc_X_firstInOrder 23 = .ok (.iload 5, 2) := by decide +kernel
theorem dc_X_firstInOrder_25 : decode bc_X_firstInOrder 25 = .ok (.lushr, 1) := by decide +kernel
theorem dc_X_firstInOrder_26 : decode bc_X_firstInOrder 26 = .ok (.lconst 1, 1) := by decide +kernel
theorem dc_X_firstInOrder_27 : decode bc_X_firstInOrder 27 = .ok (.land, 1) := by decide +kernel
theorem dc_X_firstInOrder_28 : decode bc_X_firstInOrder 28 = .ok (.lconst 0, 1) := by decide +kernel
theorem dc_X_firstInOrder_29 : decode bc_X_firstInOrder 29 = .ok (.lcmp, 1) := by decide +kernel
theorem dc_X_firstInOrder_30 : decode bc_X_firstInOrder 30 = .ok (.ifCond .eq 6, 3) := by decide +kernel
theorem dc_X_firstInOrder_33 : decode bc_X_firstInOrder 33 = .ok (.iload 5, 2) := by decide +kernel
theorem dc_X_firstInOrder_35 : decode bc_X_firstInOrder 35 = .ok (.ireturn, 1) := by decide +kernel
theorem dc_X_firstInOrder_36 : decode bc_X_firstInOrder 36 = .ok (.iinc 4 1, 3) := by decide +kernel
theorem dc_X_firstInOrder_39 : decode bc_X_firstInOrder 39 = .ok (.goto (-29), 3) := by decide +kernel
theorem dc_X_firstInOrder_42 : decode bc_X_firstInOrder 42 = .ok (.iconst (-1), 1) := by decide +kernel
theorem dc_X_firstInOrder_43 : decode bc_X_firstInOrder 43 = .ok (.ireturn, 1) := by decide +kernel
theorem dc_B_init_0 : decode bc_B_init 0 = .ok (.aload_n 0, 1) := by decide +kernel
theorem dc_B_init_1 : decode bc_B_init 1 = .ok (.invokespecial 3, 3) := by decide +kernel
theorem dc_B_init_4 : decode bc_B_init 4 = .ok (.return_, 1) := by decide +kernel
theorem dc_B_keepVectors_0 : decode bc_B_keepVectors 0 = .ok (.aload_n 0, 1) := by decide +kernel
theorem dc_B_keepVectors_1 : decode bc_B_keepVectors 1 = .ok (.lload_n 1, 1) := by decide +kernel
theorem dc_B_keepVectors_2 : decode bc_B_keepVectors 2 = .ok (.ldc2_w 9, 3) := by decide +kernel
theorem dc_B_keepVectors_5 : decode bc_B_keepVectors 5 = .ok (.land, 1) := by decide +kernel
theorem dc_B_keepVectors_6 : decode bc_B_keepVectors 6 = .ok (.putfield 11, 3) := by decide +kernel
theorem dc_B_keepVectors_9 : decode bc_B_keepVectors 9 = .ok (.return_, 1) := by decide +kernel
theorem dc_B_keepResume_0 : decode bc_B_keepResume 0 = .ok (.aload_n 0, 1) := by decide +kernel
theorem dc_B_keepResume_1 : decode bc_B_keepResume 1 = .ok (.lload_n 1, 1) := by decide +kernel
theorem dc_B_keepResume_2 : decode bc_B_keepResume 2 = .ok (.ldc2_w 17, 3) := by decide +kernel
theorem dc_B_keepResume_5 : decode bc_B_keepResume 5 = .ok (.land, 1) := by decide +kernel
theorem dc_B_keepResume_6 : decode bc_B_keepResume 6 = .ok (.putfield 19, 3) := by decide +kernel
theorem dc_B_keepResume_9 : decode bc_B_keepResume 9 = .ok (.return_, 1) := by decide +kernel
theorem dc_B_remember_0 : decode bc_B_remember 0 = .ok (.aload_n 0, 1) := by decide +kernel
theorem dc_B_remember_1 : decode bc_B_remember 1 = .ok (.lload 5, 2) := by decide +kernel
theorem dc_B_remember_3 : decode bc_B_remember 3 = .ok (.invokevirtual 22, 3) := by decide +kernel
theorem dc_B_remember_6 : decode bc_B_remember 6 = .ok (.aload_n 0, 1) := by decide +kernel
theorem dc_B_remember_7 : decode bc_B_remember 7 = .ok (.iload_n 1, 1) := by decide +kernel
theorem dc_B_remember_8 : decode bc_B_remember 8 = .ok (.ifCond .eq 12, 3) := by decide +kernel
theorem dc_B_remember_11 : decode bc_B_remember 11 = .ok (.iload_n 2, 1) := by decide +kernel
theorem dc_B_remember_12 : decode bc_B_remember 12 = .ok (.i2l, 1) := by decide +kernel
theorem dc_B_remember_13 : decode bc_B_remember 13 = .ok (.ldc2_w 26, 3) := by decide +kernel
theorem dc_B_remember_16 : decode bc_B_remember 16 = .ok (.lor, 1) := by decide +kernel
theorem dc_B_remember_17 : decode bc_B_remember 17 = .ok (.goto 5, 3) := by decide +kernel
theorem dc_B_remember_20 : decode bc_B_remember 20 = .ok (.iload_n 2, 1) := by decide +kernel
theorem dc_B_remember_21 : decode bc_B_remember 21 = .ok (.i2l, 1) := by decide +kernel
theorem dc_B_remember_22 : decode bc_B_remember 22 = .ok (.putfield 28, 3) := by decide +kernel
theorem dc_B_remember_25 : decode bc_B_remember 25 = .ok (.aload_n 0, 1) := by decide +kernel
theorem dc_B_remember_26 : decode bc_B_remember 26 = .ok (.lload_n 3, 1) := by decide +kernel
theorem dc_B_remember_27 : decode bc_B_remember 27 = .ok (.putfield 31, 3) := by decide +kernel
theorem dc_B_remember_30 : decode bc_B_remember 30 = .ok (.return_, 1) := by decide +kernel
theorem dc_B_entry_0 : decode bc_B_entry 0 = .ok (.aload_n 0, 1) := by decide +kernel
theorem dc_B_entry_1 : decode bc_B_entry 1 = .ok (.getfield 11, 3) := by decide +kernel
theorem dc_B_entry_4 : decode bc_B_entry 4 = .ok (.ldc2_w 34, 3) := by decide +kernel
theorem dc_B_entry_7 : decode bc_B_entry 7 = .ok (.land, 1) := by decide +kernel
theorem dc_B_entry_8 : decode bc_B_entry 8 = .ok (.lstore_n 3, 1) := by decide +kernel
theorem dc_B_entry_9 : decode bc_B_entry 9 = .ok (.iload_n 1, 1) := by decide +kernel
theorem dc_B_entry_10 : decode bc_B_entry 10 = .ok (.ifCond .eq 18, 3) := by decide +kernel
theorem dc_B_entry_13 : decode bc_B_entry 13 = .ok (.aload_n 0, 1) := by decide +kernel
theorem dc_B_entry_14 : decode bc_B_entry 14 = .ok (.getfield 11, 3) := by decide +kernel
theorem dc_B_entry_17 : decode bc_B_entry 17 = .ok (.lconst 1, 1) := by decide +kernel
theorem dc_B_entry_18 : decode bc_B_entry 18 = .ok (.land, 1) := by decide +kernel
theorem dc_B_entry_19 : decode bc_B_entry 19 = .ok (.lconst 0, 1) := by decide +kernel
theorem dc_B_entry_20 : decode bc_B_entry 20 = .ok (.lcmp, 1) := by decide +kernel
theorem dc_B_entry_21 : decode bc_B_entry 21 = .ok (.ifCond .eq 7, 3) := by decide +kernel
theorem dc_B_entry_24 : decode bc_B_entry 24 = .ok (.iconst 1, 1) := by decide +kernel
theorem dc_B_entry_25 : decode bc_B_entry 25 = .ok (.goto 4, 3) := by decide +kernel
theorem dc_B_entry_28 : decode bc_B_entry 28 = .ok (.iconst 0, 1) := by decide +kernel
theorem dc_B_entry_29 : decode bc_B_entry 29 = .ok (.istore 5, 2) := by decide +kernel
theorem dc_B_entry_31 : decode bc_B_entry 31 = .ok (.iload 5, 2) := by decide +kernel
theorem dc_B_entry_33 : decode bc_B_entry 33 = .ok (.ifCond .eq 14, 3) := by decide +kernel
theorem dc_B_entry_36 : decode bc_B_entry 36 = .ok (.lload_n 3, 1) := by decide +kernel
theorem dc_B_entry_37 : decode bc_B_entry 37 = .ok (.ldc2_w 36, 3) := by decide +kernel
theorem dc_B_entry_40 : decode bc_B_entry 40 = .ok (.iload_n 2, 1) := by decide +kernel
theorem dc_B_entry_41 : decode bc_B_entry 41 = .ok (.i2l, 1) := by decide +kernel
theorem dc_B_entry_42 : decode bc_B_entry 42 = .ok (.lmul, 1) := by decide +kernel
theorem dc_B_entry_43 : decode bc_B_entry 43 = .ok (.ladd, 1) := by decide +kernel
theorem dc_B_entry_44 : decode bc_B_entry 44 = .ok (.goto 4, 3) := by decide +kernel
theorem dc_B_entry_47 : decode bc_B_entry 47 = .ok (.lload_n 3, 1) := by decide +kernel
theorem dc_B_entry_48 : decode bc_B_entry 48 = .ok (.lreturn, 1) := by decide +kernel
