theorem dc_M_init_0 : decode bc_M_init 0 = .ok (.aload_n 0, 1) := by decide +kernel
theorem dc_M_init_1 : decode bc_M_init 1 = .ok (.invokespecial 1, 3) := by decide +kernel
theorem dc_M_init_4 : decode bc_M_init 4 = .ok (.aload_n 0, 1) := by decide +kernel
theorem dc_M_init_5 : decode bc_M_init 5 = .ok (.iconst 3, 1) := by decide +kernel
theorem dc_M_init_6 : decode bc_M_init 6 = .ok (.putfield 7, 3) := by decide +kernel
theorem dc_M_init_9 : decode bc_M_init 9 = .ok (.aload_n 0, 1) := by decide +kernel
theorem dc_M_init_10 : decode bc_M_init 10 = .ok (.sipush 4096, 3) := by decide +kernel
theorem dc_M_init_13 : decode bc_M_init 13 = .ok (.newarray .long, 2) := by decide +kernel
theorem dc_M_init_15 : decode bc_M_init 15 = .ok (.putfield 13, 3) := by decide +kernel
theorem dc_M_init_18 : decode bc_M_init 18 = .ok (.aload_n 0, 1) := by decide +kernel
theorem dc_M_init_19 : decode bc_M_init 19 = .ok (.bipush 12, 2) := by decide +kernel
theorem dc_M_init_21 : decode bc_M_init 21 = .ok (.newarray .boolean, 2) := by decide +kernel
theorem dc_M_init_23 : decode bc_M_init 23 = .ok (.putfield 17, 3) := by decide +kernel
theorem dc_M_init_26 : decode bc_M_init 26 = .ok (.aload_n 0, 1) := by decide +kernel
theorem dc_M_init_27 : decode bc_M_init 27 = .ok (.iload_n 1, 1) := by decide +kernel
theorem dc_M_init_28 : decode bc_M_init 28 = .ok (.ifCond .lt 12, 3) := by decide +kernel
theorem dc_M_init_31 : decode bc_M_init 31 = .ok (.iload_n 1, 1) := by decide +kernel
theorem dc_M_init_32 : decode bc_M_init 32 = .ok (.iconst 4, 1) := by decide +kernel
theorem dc_M_init_33 : decode bc_M_init 33 = .ok (.if_icmp .ge 7, 3) := by decide +kernel
theorem dc_M_init_36 : decode bc_M_init 36 = .ok (.iload_n 1, 1) := by decide +kernel
theorem dc_M_init_37 : decode bc_M_init 37 = .ok (.goto 4, 3) := by decide +kernel
theorem dc_M_init_40 : decode bc_M_init 40 = .ok (.iconst 0, 1) := by decide +kernel
theorem dc_M_init_41 : decode bc_M_init 41 = .ok (.putfield 21, 3) := by decide +kernel
theorem dc_M_init_44 : decode bc_M_init 44 = .ok (.return_, 1) := by decide +kernel
theorem dc_M_thrown_0 : decode bc_M_thrown 0 = .ok (.aload_n 0, 1) := by decide +kernel
theorem dc_M_thrown_1 : decode bc_M_thrown 1 = .ok (.getfield 24, 3) := by decide +kernel
theorem dc_M_thrown_4 : decode bc_M_thrown 4 = .ok (.ireturn, 1) := by decide +kernel
theorem dc_M_status_0 : decode bc_M_status 0 = .ok (.aload_n 0, 1) := by decide +kernel
theorem dc_M_status_1 : decode bc_M_status 1 = .ok (.getfield 13, 3) := by decide +kernel
theorem dc_M_status_4 : decode bc_M_status 4 = .ok (.sipush 768, 3) := by decide +kernel
theorem dc_M_status_7 : decode bc_M_status 7 = .ok (.laload, 1) := by decide +kernel
theorem dc_M_status_8 : decode bc_M_status 8 = .ok (.iload_n 1, 1) := by decide +kernel
theorem dc_M_status_9 : decode bc_M_status 9 = .ok (.lshr, 1) := by decide +kernel
theorem dc_M_status_10 : decode bc_M_status 10 = .ok (.lconst 1, 1) := by decide +kernel
theorem dc_M_status_11 : decode bc_M_status 11 = .ok (.land, 1) := by decide +kernel
theorem dc_M_status_12 : decode bc_M_status 12 = .ok (.l2i, 1) := by decide +kernel
theorem dc_M_status_13 : decode bc_M_status 13 = .ok (.ireturn, 1) := by decide +kernel
theorem dc_M_put_0 : decode bc_M_put 0 = .ok (.aload_n 0, 1) := by decide +kernel
theorem dc_M_put_1 : decode bc_M_put 1 = .ok (.getfield 13, 3) := by decide +kernel
theorem dc_M_put_4 : decode bc_M_put 4 = .ok (.sipush 768, 3) := by decide +kernel
theorem dc_M_put_7 : decode bc_M_put 7 = .ok (.aload_n 0, 1) := by decide +kernel
theorem dc_M_put_8 : decode bc_M_put 8 = .ok (.getfield 13, 3) := by decide +kernel
theorem dc_M_put_11 : decode bc_M_put 11 = .ok (.sipush 768, 3) := by decide +kernel
theorem dc_M_put_14 : decode bc_M_put 14 = .ok (.laload, 1) := by decide +kernel
theorem dc_M_put_15 : decode bc_M_put 15 = .ok (.lconst 1, 1) := by decide +kernel
theorem dc_M_put_16 : decode bc_M_put 16 = .ok (.iload_n 1, 1) := by decide +kernel
theorem dc_M_put_17 : decode bc_M_put 17 = .ok (.lshl, 1) := by decide +kernel
theorem dc_M_put_18 : decode bc_M_put 18 = .ok (.ldc2_w 27, 3) := by decide +kernel
theorem dc_M_put_21 : decode bc_M_put 21 = .ok (.lxor, 1) := by decide +kernel
theorem dc_M_put_22 : decode bc_M_put 22 = .ok (.land, 1) := by decide +kernel
theorem dc_M_put_23 : decode bc_M_put 23 = .ok (.iload_n 2, 1) := by decide +kernel
theorem dc_M_put_24 : decode bc_M_put 24 = .ok (.i2l, 1) := by decide +kernel
theorem dc_M_put_25 : decode bc_M_put 25 = .ok (.iload_n 1, 1) := by decide +kernel
theorem dc_M_put_26 : decode bc_M_put 26 = .ok (.lshl, 1) := by decide +kernel
theorem dc_M_put_27 : decode bc_M_put 27 = .ok (.lor, 1) := by decide +kernel
theorem dc_M_put_28 : decode bc_M_put 28 = .ok (.lastore, 1) := by decide +kernel
theorem dc_M_put_29 : decode bc_M_put 29 = .ok (.return_, 1) := by decide +kernel
theorem dc_M_below_0 : decode bc_M_below 0 = .ok (.aload_n 0, 1) := by decide +kernel
theorem dc_M_below_1 : decode bc_M_below 1 = .ok (.bipush 11, 2) := by decide +kernel
theorem dc_M_below_3 : decode bc_M_below 3 = .ok (.invokevirtual 29, 3) := by decide +kernel
theorem dc_M_below_6 : decode bc_M_below 6 = .ok (.iconst 2, 1) := by decide +kernel
theorem dc_M_below_7 : decode bc_M_below 7 = .ok (.aload_n 0, 1) := by decide +kernel
theorem dc_M_below_8 : decode bc_M_below 8 = .ok (.bipush 12, 2) := by decide +kernel
theorem dc_M_below_10 : decode bc_M_below 10 = .ok (.invokevirtual 29, 3) := by decide +kernel
theorem dc_M_below_13 : decode bc_M_below 13 = .ok (.imul, 1) := by decide +kernel
theorem dc_M_below_14 : decode bc_M_below 14 = .ok (.iadd, 1) := by decide +kernel
theorem dc_M_below_15 : decode bc_M_below 15 = .ok (.ireturn, 1) := by decide +kernel
theorem dc_M_floating_0 : decode bc_M_floating 0 = .ok (.aload_n 0, 1) := by decide +kernel
theorem dc_M_floating_1 : decode bc_M_floating 1 = .ok (.bipush 13, 2) := by decide +kernel
theorem dc_M_floating_3 : decode bc_M_floating 3 = .ok (.invokevirtual 29, 3) := by decide +kernel
theorem dc_M_floating_6 : decode bc_M_floating 6 = .ok (.iconst 2, 1) := by decide +kernel
theorem dc_M_floating_7 : decode bc_M_floating 7 = .ok (.aload_n 0, 1) := by decide +kernel
theorem dc_M_floating_8 : decode bc_M_floating 8 = .ok (.bipush 14, 2) := by decide +kernel
theorem dc_M_floating_10 : decode bc_M_floating 10 = .ok (.invokevirtual 29, 3) := by decide +kernel
theorem dc_M_floating_13 : decode bc_M_floating 13 = .ok (.imul, 1) := by decide +kernel
theorem dc_M_floating_14 : decode bc_M_floating 14 = .ok (.iadd, 1) := by decide +kernel
theorem dc_M_floating_15 : decode bc_M_floating 15 = .ok (.ireturn, 1) := by decide +kernel
theorem dc_M_mode_0 : decode bc_M_mode 0 = .ok (.aload_n 0, 1) := by decide +kernel
theorem dc_M_mode_1 : decode bc_M_mode 1 = .ok (.iconst 0, 1) := by decide +kernel
theorem dc_M_mode_2 : decode bc_M_mode 2 = .ok (.putfield 24, 3) := by decide +kernel
theorem dc_M_mode_5 : decode bc_M_mode 5 = .ok (.aload_n 0, 1) := by decide +kernel
theorem dc_M_mode_6 : decode bc_M_mode 6 = .ok (.getfield 7, 3) := by decide +kernel
theorem dc_M_mode_9 : decode bc_M_mode 9 = .ok (.ireturn, 1) := by decide +kernel
theorem dc_M_dataMode_0 : decode bc_M_dataMode 0 = .ok (.aload_n 0, 1) := by decide +kernel
theorem dc_M_dataMode_1 : decode bc_M_dataMode 1 = .ok (.iconst 0, 1) := by decide +kernel
theorem dc_M_dataMode_2 : decode bc_M_dataMode 2 = .ok (.putfield 24, 3) := by decide +kernel
theorem dc_M_dataMode_5 : decode bc_M_dataMode 5 = .ok (.aload_n 0, 1) := by decide +kernel
theorem dc_M_dataMode_6 : decode bc_M_dataMode 6 = .ok (.bipush 17, 2) := by decide +kernel
theorem dc_M_dataMode_8 : decode bc_M_dataMode 8 = .ok (.invokevirtual 29, 3) := by decide +kernel
theorem dc_M_dataMode_11 : decode bc_M_dataMode 11 = .ok (.iconst 1, 1) := by decide +kernel
theorem dc_M_dataMode_12 : decode bc_M_dataMode 12 = .ok (.if_icmp .ne 10, 3) := by decide +kernel
theorem dc_M_dataMode_15 : decode bc_M_dataMode 15 = .ok (.aload_n 0, 1) := by decide +kernel
theorem dc_M_dataMode_16 : decode bc_M_dataMode 16 = .ok (.invokevirtual 33, 3) := by decide +kernel
theorem dc_M_dataMode_19 : decode bc_M_dataMode 19 = .ok (.goto 7, 3) := by decide +kernel
theorem dc_M_dataMode_22 : decode bc_M_dataMode 22 = .ok (.aload_n 0, 1) := by decide +kernel
theorem dc_M_dataMode_23 : decode bc_M_dataMode 23 = .ok (.getfield 7, 3) := by decide +kernel
theorem dc_M_dataMode_26 : decode bc_M_dataMode 26 = .ok (.ireturn, 1) := by decide +kernel
theorem dc_M_isElsewhere_0 : decode bc_M_isElsewhere 0 = .ok (.iload_n 0, 1) := by decide +kernel
theorem dc_M_isElsewhere_1 : decode bc_M_isElsewhere 1 = .ok (.ifCond .le 8, 3) := by decide +kernel
theorem dc_M_isElsewhere_4 : decode bc_M_isElsewhere 4 = .ok (.iload_n 0, 1) := by decide +kernel
theorem dc_M_isElsewhere_5 : decode bc_M_isElsewhere 5 = .ok (.iconst 4, 1) := by decide +kernel
theorem dc_M_isElsewhere_6 : decode bc_M_isElsewhere 6 = .ok (.if_icmp .lt 31, 3) := by decide +kernel
theorem dc_M_isElsewhere_9 : decode bc_M_isElsewhere 9 = .ok (.iload_n 0, 1) := by decide +kernel
theorem dc_M_isElsewhere_10 : decode bc_M_isElsewhere 10 = .ok (.sipush 928, 3) := by decide +kernel
theorem dc_M_isElsewhere_13 : decode bc_M_isElsewhere 13 = .ok (.if_icmp .eq 24, 3) := by decide +kernel
theorem dc_M_isElsewhere_16 : decode bc_M_isElsewhere 16 = .ok (.iload_n 0, 1) := by decide +kernel
theorem dc_M_isElsewhere_17 : decode bc_M_isElsewhere 17 = .ok (.sipush 930, 3) := by decide +kernel
theorem dc_M_isElsewhere_20 : decode bc_M_isElsewhere 20 = .ok (.if_icmp .eq 17, 3) := by decide +kernel
theorem dc_M_isElsewhere_23 : decode bc_M_isElsewhere 23 = .ok (.iload_n 0, 1) := by decide +kernel
theorem dc_M_isElsewhere_24 : decode bc_M_isElsewhere 24 = .ok (.sipush 944, 3) := by decide +kernel
theorem dc_M_isElsewhere_27 : decode bc_M_isElsewhere 27 = .ok (.if_icmp .lt 14, 3) := by decide +kernel
theorem dc_M_isElsewhere_30 : decode bc_M_isElsewhere 30 = .ok (.iload_n 0, 1) := by decide +kernel
theorem dc_M_isElsewhere_31 : decode bc_M_isElsewhere 31 = .ok (.sipush 960, 3) := by decide +kernel
theorem dc_M_isElsewhere_34 : decode bc_M_isElsewhere 34 = .ok (.if_icmp .ge 7, 3) := by decide +kernel
theorem dc_M_isElsewhere_37 : decode bc_M_isElsewhere 37 = .ok (.iconst 1, 1) := by decide +kernel
theorem dc_M_isElsewhere_38 : decode bc_M_isElsewhere 38 = .ok (.goto 4, 3) := by decide +kernel
theorem dc_M_isElsewhere_41 : decode bc_M_isElsewhere 41 = .ok (.iconst 0, 1) := by decide +kernel
theorem dc_M_isElsewhere_42 : decode bc_M_isElsewhere 42 = .ok (.ireturn, 1) := by decide +kernel
theorem dc_M_isCount_0 : decode bc_M_isCount 0 = .ok (.iload_n 0, 1) := by decide +kernel
theorem dc_M_isCount_1 : decode bc_M_isCount 1 = .ok (.sipush 3072, 3) := by decide +kernel
theorem dc_M_isCount_4 : decode bc_M_isCount 4 = .ok (.if_icmp .lt 14, 3) := by decide +kernel
theorem dc_M_isCount_7 : decode bc_M_isCount 7 = .ok (.iload_n 0, 1) := by decide +kernel
theorem dc_M_isCount_8 : decode bc_M_isCount 8 = .ok (.sipush 3075, 3) := by decide +kernel
theorem dc_M_isCount_11 : decode bc_M_isCount 11 = .ok (.if_icmp .ge 7, 3) := by decide +kernel
theorem dc_M_isCount_14 : decode bc_M_isCount 14 = .ok (.iconst 1, 1) := by decide +kernel
theorem dc_M_isCount_15 : decode bc_M_isCount 15 = .ok (.goto 4, 3) := by decide +kernel
theorem dc_M_isCount_18 : decode bc_M_isCount 18 = .ok (.iconst 0, 1) := by decide +kernel
theorem dc_M_isCount_19 : decode bc_M_isCount 19 = .ok (.ireturn, 1) := by decide +kernel
theorem dc_M_isThere_0 : decode bc_M_isThere 0 = .ok (.iload_n 0, 1) := by decide +kernel
theorem dc_M_isThere_1 : decode bc_M_isThere 1 = .ok (.sipush 768, 3) := by decide +kernel
theorem dc_M_isThere_4 : decode bc_M_isThere 4 = .ok (.if_icmp .lt 10, 3) := by decide +kernel
theorem dc_M_isThere_7 : decode bc_M_isThere 7 = .ok (.iload_n 0, 1) := by decide +kernel
theorem dc_M_isThere_8 : decode bc_M_isThere 8 = .ok (.sipush 775, 3) := by decide +kernel
theorem dc_M_isThere_11 : decode bc_M_isThere 11 = .ok (.if_icmp .lt 45, 3) := by decide +kernel
theorem dc_M_isThere_14 : decode bc_M_isThere 14 = .ok (.iload_n 0, 1) := by decide +kernel
theorem dc_M_isThere_15 : decode bc_M_isThere 15 = .ok (.sipush 832, 3) := by decide +kernel
theorem dc_M_isThere_18 : decode bc_M_isThere 18 = .ok (.if_icmp .lt 10, 3) := by decide +kernel
theorem dc_M_isThere_21 : decode bc_M_isThere 21 = .ok (.iload_n 0, 1) := by decide +kernel
theorem dc_M_isThere_22 : decode bc_M_isThere 22 = .ok (.sipush 837, 3) := by decide +kernel
theorem dc_M_isThere_25 : decode bc_M_isThere 25 = .ok (.if_icmp .lt 31, 3) := by decide +kernel
theorem dc_M_isThere_28 : decode bc_M_isThere 28 = .ok (.iload_n 0, 1) := by decide +kernel
theorem dc_M_isThere_29 : decode bc_M_isThere 29 = .ok (.sipush 2816, 3) := by decide +kernel
theorem dc_M_isThere_32 : decode bc_M_isThere 32 = .ok (.if_icmp .eq 24, 3) := by decide +kernel
theorem dc_M_isThere_35 : decode bc_M_isThere 35 = .ok (.iload_n 0, 1) := by decide +kernel
theorem dc_M_isThere_36 : decode bc_M_isThere 36 = .ok (.sipush 2818, 3) := by decide +kernel
theorem dc_M_isThere_39 : decode bc_M_isThere 39 = .ok (.if_icmp .eq 17, 3) := by decide +kernel
theorem dc_M_isThere_42 : decode bc_M_isThere 42 = .ok (.iload_n 0, 1) := by decide +kernel
theorem dc_M_isThere_43 : decode bc_M_isThere 43 = .ok (.sipush 3857, 3) := by decide +kernel
theorem dc_M_isThere_46 : decode bc_M_isThere 46 = .ok (.if_icmp .lt 14, 3) := by decide +kernel
theorem dc_M_isThere_49 : decode bc_M_isThere 49 = .ok (.iload_n 0, 1) := by decide +kernel
theorem dc_M_isThere_50 : decode bc_M_isThere 50 = .ok (.sipush 3862, 3) := by decide +kernel
theorem dc_M_isThere_53 : decode bc_M_isThere 53 = .ok (.if_icmp .ge 7, 3) := by decide +kernel
theorem dc_M_isThere_56 : decode bc_M_isThere 56 = .ok (.iconst 1, 1) := by decide +kernel
theorem dc_M_isThere_57 : decode bc_M_isThere 57 = .ok (.goto 4, 3) := by decide +kernel
theorem dc_M_isThere_60 : decode bc_M_isThere 60 = .ok (.iconst 0, 1) := by decide +kernel
theorem dc_M_isThere_61 : decode bc_M_isThere 61 = .ok (.istore_n 1, 1) := by decide +kernel
theorem dc_M_isThere_62 : decode bc_M_isThere 62 = .ok (.iload_n 0, 1) := by decide +kernel
theorem dc_M_isThere_63 : decode bc_M_isThere 63 = .ok (.sipush 256, 3) := by decide +kernel
theorem dc_M_isThere_66 : decode bc_M_isThere 66 = .ok (.if_icmp .eq 38, 3) := by decide +kernel
theorem dc_M_isThere_69 : decode bc_M_isThere 69 = .ok (.iload_n 0, 1) := by decide +kernel
theorem dc_M_isThere_70 : decode bc_M_isThere 70 = .ok (.sipush 260, 3) := by decide +kernel
theorem dc_M_isThere_73 : decode bc_M_isThere 73 = .ok (.if_icmp .lt 10, 3) := by decide +kernel
theorem dc_M_isThere_76 : decode bc_M_isThere 76 = .ok (.iload_n 0, 1) := by decide +kernel
theorem dc_M_isThere_77 : decode bc_M_isThere 77 = .ok (.sipush 263, 3) := by decide +kernel
theorem dc_M_isThere_80 : decode bc_M_isThere 80 = .ok (.if_icmp .lt 24, 3) := by decide +kernel
theorem dc_M_isThere_83 : decode bc_M_isThere 83 = .ok (.iload_n 0, 1) := by decide +kernel
theorem dc_M_isThere_84 : decode bc_M_isThere 84 = .ok (.sipush 320, 3) := by decide +kernel
theorem dc_M_isThere_87 : decode bc_M_isThere 87 = .ok (.if_icmp .lt 10, 3) := by decide +kernel
theorem dc_M_isThere_90 : decode bc_M_isThere 90 = .ok (.iload_n 0, 1) := by decide +kernel
theorem dc_M_isThere_91 : decode bc_M_isThere 91 = .ok (.sipush 325, 3) := by decide +kernel
theorem dc_M_isThere_94 : decode bc_M_isThere 94 = .ok (.if_icmp .lt 10, 3) := by decide +kernel
theorem dc_M_isThere_97 : decode bc_M_isThere 97 = .ok (.iload_n 0, 1) := by decide +kernel
theorem dc_M_isThere_98 : decode bc_M_isThere 98 = .ok (.sipush 384, 3) := by decide +kernel
theorem dc_M_isThere_101 : decode bc_M_isThere 101 = .ok (.if_icmp .ne 7, 3) := by decide +kernel
theorem dc_M_isThere_104 : decode bc_M_isThere 104 = .ok (.iconst 1, 1) := by decide +kernel
theorem dc_M_isThere_105 : decode bc_M_isThere 105 = .ok (.goto 4, 3) := by decide +kernel
theorem dc_M_isThere_108 : decode bc_M_isThere 108 = .ok (.iconst 0, 1) := by decide +kernel
theorem dc_M_isThere_109 : decode bc_M_isThere 109 = .ok (.istore_n 2, 1) := by decide +kernel
theorem dc_M_isThere_110 : decode bc_M_isThere 110 = .ok (.iload_n 1, 1) := by decide +kernel
theorem dc_M_isThere_111 : decode bc_M_isThere 111 = .ok (.ifCond .ne 21, 3) := by decide +kernel
theorem dc_M_isThere_114 : decode bc_M_isThere 114 = .ok (.iload_n 2, 1) := by decide +kernel
theorem dc_M_isThere_115 : decode bc_M_isThere 115 = .ok (.ifCond .ne 17, 3) := by decide +kernel
theorem dc_M_isThere_118 : decode bc_M_isThere 118 = .ok (.iload_n 0, 1) := by decide +kernel
theorem dc_M_isThere_119 : decode bc_M_isThere 119 = .ok (.invokestatic 37, 3) := by decide +kernel
theorem dc_M_isThere_122 : decode bc_M_isThere 122 = .ok (.ifCond .ne 10, 3) := by decide +kernel
theorem dc_M_isThere_125 : decode bc_M_isThere 125 = .ok (.iload_n 0, 1) := by decide +kernel
theorem dc_M_isThere_126 : decode bc_M_isThere 126 = .ok (.invokestatic 41, 3) := by decide +kernel
theorem dc_M_isThere_129 : decode bc_M_isThere 129 = .ok (.ifCond .eq 7, 3) := by decide +kernel
theorem dc_M_isThere_132 : decode bc_M_isThere 132 = .ok (.iconst 1, 1) := by decide +kernel
theorem dc_M_isThere_133 : decode bc_M_isThere 133 = .ok (.goto 4, 3) := by decide +kernel
theorem dc_M_isThere_136 : decode bc_M_isThere 136 = .ok (.iconst 0, 1) := by decide +kernel
theorem dc_M_isThere_137 : decode bc_M_isThere 137 = .ok (.ireturn, 1) := by decide +kernel
theorem dc_M_lineBits_0 : decode bc_M_lineBits 0 = .ok (.lconst 0, 1) := by decide +kernel
theorem dc_M_lineBits_1 : decode bc_M_lineBits 1 = .ok (.lstore_n 1, 1) := by decide +kernel
theorem dc_M_lineBits_2 : decode bc_M_lineBits 2 = .ok (.iconst 3, 1) := by decide +kernel
theorem dc_M_lineBits_3 : decode bc_M_lineBits 3 = .ok (.istore_n 3, 1) := by decide +kernel
theorem dc_M_lineBits_4 : decode bc_M_lineBits 4 = .ok (.iload_n 3, 1) := by decide +kernel
theorem dc_M_lineBits_5 : decode bc_M_lineBits 5 = .ok (.bipush 12, 2) := by decide +kernel
theorem dc_M_lineBits_7 : decode bc_M_lineBits 7 = .ok (.if_icmp .ge 28, 3) := by decide +kernel
theorem dc_M_lineBits_10 : decode bc_M_lineBits 10 = .ok (.aload_n 0, 1) := by decide +kernel
theorem dc_M_lineBits_11 : decode bc_M_lineBits 11 = .ok (.getfield 17, 3) := by decide +kernel
theorem dc_M_lineBits_14 : decode bc_M_lineBits 14 = .ok (.iload_n 3, 1) := by decide +kernel
theorem dc_M_lineBits_15 : decode bc_M_lineBits 15 = .ok (.baload, 1) := by decide +kernel
theorem dc_M_lineBits_16 : decode bc_M_lineBits 16 = .ok (.ifCond .eq 11, 3) := by decide +kernel
theorem dc_M_lineBits_19 : decode bc_M_lineBits 19 = .ok (.lload_n 1, 1) := by decide +kernel
theorem dc_M_lineBits_20 : decode bc_M_lineBits 20 = .ok (.lconst 1, 1) := by decide +kernel
theorem dc_M_lineBits_21 : decode bc_M_lineBits 21 = .ok (.iload_n 3, 1) := by decide +kernel
theorem dc_M_lineBits_22 : decode bc_M_lineBits 22 = .ok (.lshl, 1) := by decide +kernel
theorem dc_M_lineBits_23 : decode bc_M_lineBits 23 = .ok (.lor, 1) := by decide +kernel
theorem dc_M_lineBits_24 : decode bc_M_lineBits 24 = .ok (.goto 4, 3) := by decide +kernel
theorem dc_M_lineBits_27 : decode bc_M_lineBits 27 = .ok (.lload_n 1, 1) := by decide +kernel
theorem dc_M_lineBits_28 : decode bc_M_lineBits 28 = .ok (.lstore_n 1, 1) := by decide +kernel
theorem dc_M_lineBits_29 : decode bc_M_lineBits 29 = .ok (.iinc 3 1, 3) := by decide +kernel
theorem dc_M_lineBits_32 : decode bc_M_lineBits 32 = .ok (.goto (-28), 3) := by decide +kernel
theorem dc_M_lineBits_35 : decode bc_M_lineBits 35 = .ok (.lload_n 1, 1) := by decide +kernel
theorem dc_M_lineBits_36 : decode bc_M_lineBits 36 = .ok (.lreturn, 1) := by decide +kernel
theorem dc_M_statusSeen_0 : decode bc_M_statusSeen 0 = .ok (.lconst 0, 1) := by decide +kernel
theorem dc_M_statusSeen_1 : decode bc_M_statusSeen 1 = .ok (.lstore_n 1, 1) := by decide +kernel
theorem dc_M_statusSeen_2 : decode bc_M_statusSeen 2 = .ok (.iconst 0, 1) := by decide +kernel
theorem dc_M_statusSeen_3 : decode bc_M_statusSeen 3 = .ok (.istore_n 3, 1) := by decide +kernel
theorem dc_M_statusSeen_4 : decode bc_M_statusSeen 4 = .ok (.iload_n 3, 1) := by decide +kernel
theorem dc_M_statusSeen_5 : decode bc_M_statusSeen 5 = .ok (.bipush 23, 2) := by decide +kernel
theorem dc_M_statusSeen_7 : decode bc_M_statusSeen 7 = .ok (.if_icmp .ge 134, 3) := by decide +kernel
theorem dc_M_statusSeen_10 : decode bc_M_statusSeen 10 = .ok (.iload_n 3, 1) := by decide +kernel
theorem dc_M_statusSeen_11 : decode bc_M_statusSeen 11 = .ok (.iconst 1, 1) := by decide +kernel
theorem dc_M_statusSeen_12 : decode bc_M_statusSeen 12 = .ok (.if_icmp .eq 38, 3) := by decide +kernel
theorem dc_M_statusSeen_15 : decode bc_M_statusSeen 15 = .ok (.iload_n 3, 1) := by decide +kernel
theorem dc_M_statusSeen_16 : decode bc_M_statusSeen 16 = .ok (.iconst 5, 1) := by decide +kernel
theorem dc_M_statusSeen_17 : decode bc_M_statusSeen 17 = .ok (.if_icmp .eq 33, 3) := by decide +kernel
theorem dc_M_statusSeen_20 : decode bc_M_statusSeen 20 = .ok (.iload_n 3, 1) := by decide +kernel
theorem dc_M_statusSeen_21 : decode bc_M_statusSeen 21 = .ok (.bipush 8, 2) := by decide +kernel
theorem dc_M_statusSeen_23 : decode bc_M_statusSeen 23 = .ok (.if_icmp .eq 27, 3) := by decide +kernel
theorem dc_M_statusSeen_26 : decode bc_M_statusSeen 26 = .ok (.iload_n 3, 1) := by decide +kernel
theorem dc_M_statusSeen_27 : decode bc_M_statusSeen 27 = .ok (.bipush 13, 2) := by decide +kernel
theorem dc_M_statusSeen_29 : decode bc_M_statusSeen 29 = .ok (.if_icmp .eq 21, 3) := by decide +kernel
theorem dc_M_statusSeen_32 : decode bc_M_statusSeen 32 = .ok (.iload_n 3, 1) := by decide +kernel
theorem dc_M_statusSeen_33 : decode bc_M_statusSeen 33 = .ok (.bipush 14, 2) := by decide +kernel
theorem dc_M_statusSeen_35 : decode bc_M_statusSeen 35 = .ok (.if_icmp .eq 15, 3) := by decide +kernel
theorem dc_M_statusSeen_38 : decode bc_M_statusSeen 38 = .ok (.iload_n 3, 1) := by decide +kernel
theorem dc_M_statusSeen_39 : decode bc_M_statusSeen 39 = .ok (.bipush 18, 2) := by decide +kernel
theorem dc_M_statusSeen_41 : decode bc_M_statusSeen 41 = .ok (.if_icmp .eq 9, 3) := by decide +kernel
theorem dc_M_statusSeen_44 : decode bc_M_statusSeen 44 = .ok (.iload_n 3, 1) := by decide +kernel
theorem dc_M_statusSeen_45 : decode bc_M_statusSeen 45 = .ok (.bipush 19, 2) := by decide +kernel
theorem dc_M_statusSeen_47 : decode bc_M_statusSeen 47 = .ok (.if_icmp .ne 7, 3) := by decide +kernel
theorem dc_M_statusSeen_50 : decode bc_M_statusSeen 50 = .ok (.iconst 1, 1) := by decide +kernel
theorem dc_M_statusSeen_51 : decode bc_M_statusSeen 51 = .ok (.goto 4, 3) := by decide +kernel
theorem dc_M_statusSeen_54 : decode bc_M_statusSeen 54 = .ok (.iconst 0, 1) := by decide +kernel
theorem dc_M_statusSeen_55 : decode bc_M_statusSeen 55 = .ok (.istore 4, 2) := by decide +kernel
theorem dc_M_statusSeen_57 : decode bc_M_statusSeen 57 = .ok (.iload_n 3, 1) := by decide +kernel
theorem dc_M_statusSeen_58 : decode bc_M_statusSeen 58 = .ok (.iconst 3, 1) := by decide +kernel
theorem dc_M_statusSeen_59 : decode bc_M_statusSeen 59 = .ok (.if_icmp .eq 45, 3) := by decide +kernel
theorem dc_M_statusSeen_62 : decode bc_M_statusSeen 62 = .ok (.iload_n 3, 1) := by decide +kernel
theorem dc_M_statusSeen_63 : decode bc_M_statusSeen 63 = .ok (.bipush 7, 2) := by decide +kernel
theorem dc_M_statusSeen_65 : decode bc_M_statusSeen 65 = .ok (.if_icmp .eq 39, 3) := by decide +kernel
theorem dc_M_statusSeen_68 : decode bc_M_statusSeen 68 = .ok (.iload_n 3, 1) := by decide +kernel
theorem dc_M_statusSeen_69 : decode bc_M_statusSeen 69 = .ok (.bipush 11, 2) := by decide +kernel
theorem dc_M_statusSeen_71 : decode bc_M_statusSeen 71 = .ok (.if_icmp .eq 33, 3) := by decide +kernel
theorem dc_M_statusSeen_74 : decode bc_M_statusSeen 74 = .ok (.iload_n 3, 1) := by decide +kernel
theorem dc_M_statusSeen_75 : decode bc_M_statusSeen 75 = .ok (.bipush 12, 2) := by decide +kernel
theorem dc_M_statusSeen_77 : decode bc_M_statusSeen 77 = .ok (.if_icmp .eq 27, 3) := by decide +kernel
theorem dc_M_statusSeen_80 : decode bc_M_statusSeen 80 = .ok (.iload_n 3, 1) := by decide +kernel
theorem dc_M_statusSeen_81 : decode bc_M_statusSeen 81 = .ok (.bipush 17, 2) := by decide +kernel
theorem dc_M_statusSeen_83 : decode bc_M_statusSeen 83 = .ok (.if_icmp .eq 21, 3) := by decide +kernel
theorem dc_M_statusSeen_86 : decode bc_M_statusSeen 86 = .ok (.iload_n 3, 1) := by decide +kernel
theorem dc_M_statusSeen_87 : decode bc_M_statusSeen 87 = .ok (.bipush 20, 2) := by decide +kernel
theorem dc_M_statusSeen_89 : decode bc_M_statusSeen 89 = .ok (.if_icmp .eq 15, 3) := by decide +kernel
theorem dc_M_statusSeen_92 : decode bc_M_statusSeen 92 = .ok (.iload_n 3, 1) := by decide +kernel
theorem dc_M_statusSeen_93 : decode bc_M_statusSeen 93 = .ok (.bipush 21, 2) := by decide +kernel
theorem dc_M_statusSeen_95 : decode bc_M_statusSeen 95 = .ok (.if_icmp .eq 9, 3) := by decide +kernel
theorem dc_M_statusSeen_98 : decode bc_M_statusSeen 98 = .ok (.iload_n 3, 1) := by decide +kernel
theorem dc_M_statusSeen_99 : decode bc_M_statusSeen 99 = .ok (.bipush 22, 2) := by decide +kernel
theorem dc_M_statusSeen_101 : decode bc_M_statusSeen 101 = .ok (.if_icmp .ne 7, 3) := by decide +kernel
theorem dc_M_statusSeen_104 : decode bc_M_statusSeen 104 = .ok (.iconst 1, 1) := by decide +kernel
theorem dc_M_statusSeen_105 : decode bc_M_statusSeen 105 = .ok (.goto 4, 3) := by decide +kernel
theorem dc_M_statusSeen_108 : decode bc_M_statusSeen 108 = .ok (.iconst 0, 1) := by decide +kernel
theorem dc_M_statusSeen_109 : decode bc_M_statusSeen 109 = .ok (.istore 5, 2) := by decide +kernel
theorem dc_M_statusSeen_111 : decode bc_M_statusSeen 111 = .ok (.iload 4, 2) := by decide +kernel
theorem dc_M_statusSeen_113 : decode bc_M_statusSeen 113 = .ok (.ifCond .ne 12, 3) := by decide +kernel
theorem dc_M_statusSeen_116 : decode bc_M_statusSeen 116 = .ok (.iload_n 0, 1) := by decide +kernel
theorem dc_M_statusSeen_117 : decode bc_M_statusSeen 117 = .ok (.ifCond .eq 16, 3) := by decide +kernel
theorem dc_M_statusSeen_120 : decode bc_M_statusSeen 120 = .ok (.iload 5, 2) := by decide +kernel
theorem dc_M_statusSeen_122 : decode bc_M_statusSeen 122 = .ok (.ifCond .eq 11, 3) := by decide +kernel
theorem dc_M_statusSeen_125 : decode bc_M_statusSeen 125 = .ok (.lload_n 1, 1) := by decide +kernel
theorem dc_M_statusSeen_126 : decode bc_M_statusSeen 126 = .ok (.lconst 1, 1) := by decide +kernel
theorem dc_M_statusSeen_127 : decode bc_M_statusSeen 127 = .ok (.iload_n 3, 1) := by decide +kernel
theorem dc_M_statusSeen_128 : decode bc_M_statusSeen 128 = .ok (.lshl, 1) := by decide +kernel
theorem dc_M_statusSeen_129 : decode bc_M_statusSeen 129 = .ok (.lor, 1) := by decide +kernel
theorem dc_M_statusSeen_130 : decode bc_M_statusSeen 130 = .ok (.goto 4, 3) := by decide +kernel
theorem dc_M_statusSeen_133 : decode bc_M_statusSeen 133 = .ok (.lload_n 1, 1) := by decide +kernel
theorem dc_M_statusSeen_134 : decode bc_M_statusSeen 134 = .ok (.lstore_n 1, 1) := by decide +kernel
theorem dc_M_statusSeen_135 : decode bc_M_statusSeen 135 = .ok (.iinc 3 1, 3) := by decide +kernel
theorem dc_M_statusSeen_138 : decode bc_M_statusSeen 138 = .ok (.goto (-134), 3) := by decide +kernel
theorem dc_M_statusSeen_141 : decode bc_M_statusSeen 141 = .ok (.lload_n 1, 1) := by decide +kernel
theorem dc_M_statusSeen_142 : decode bc_M_statusSeen 142 = .ok (.lreturn, 1) := by decide +kernel
theorem dc_M_shown_0 : decode bc_M_shown 0 = .ok (.aload_n 0, 1) := by decide +kernel
theorem dc_M_shown_1 : decode bc_M_shown 1 = .ok (.invokevirtual 44, 3) := by decide +kernel
theorem dc_M_shown_4 : decode bc_M_shown 4 = .ok (.iconst 3, 1) := by decide +kernel
theorem dc_M_shown_5 : decode bc_M_shown 5 = .ok (.if_icmp .ne 9, 3) := by decide +kernel
theorem dc_M_shown_8 : decode bc_M_shown 8 = .ok (.ldc2_w 47, 3) := by decide +kernel
theorem dc_M_shown_11 : decode bc_M_shown 11 = .ok (.goto 4, 3) := by decide +kernel
theorem dc_M_shown_14 : decode bc_M_shown 14 = .ok (.lconst 0, 1) := by decide +kernel
theorem dc_M_shown_15 : decode bc_M_shown 15 = .ok (.lstore_n 2, 1) := by decide +kernel
theorem dc_M_shown_16 : decode bc_M_shown 16 = .ok (.iload_n 1, 1) := by decide +kernel
theorem dc_M_shown_17 : decode bc_M_shown 17 = .ok (.lookupswitch 214 #[(256, 106), (260, 130), (324, 162), (768, 91), (769, 126), (836, 148), (3072, 191), (3073, 200), (3074, 205), (3860, 185)], 91) := by decide +kernel
theorem dc_M_shown_108 : decode bc_M_shown 108 = .ok (.aload_n 0, 1) := by decide +kernel
theorem dc_M_shown_109 : decode bc_M_shown 109 = .ok (.getfield 13, 3) := by decide +kernel
theorem dc_M_shown_112 : decode bc_M_shown 112 = .ok (.sipush 768, 3) := by decide +kernel
theorem dc_M_shown_115 : decode bc_M_shown 115 = .ok (.laload, 1) := by decide +kernel
theorem dc_M_shown_116 : decode bc_M_shown 116 = .ok (.ldc2_w 49, 3) := by decide +kernel
theorem dc_M_shown_119 : decode bc_M_shown 119 = .ok (.lor, 1) := by decide +kernel
theorem dc_M_shown_120 : decode bc_M_shown 120 = .ok (.lload_n 2, 1) := by decide +kernel
theorem dc_M_shown_121 : decode bc_M_shown 121 = .ok (.lor, 1) := by decide +kernel
theorem dc_M_shown_122 : decode bc_M_shown 122 = .ok (.lreturn, 1) := by decide +kernel
theorem dc_M_shown_123 : decode bc_M_shown 123 = .ok (.aload_n 0, 1) := by decide +kernel
theorem dc_M_shown_124 : decode bc_M_shown 124 = .ok (.getfield 13, 3) := by decide +kernel
theorem dc_M_shown_127 : decode bc_M_shown 127 = .ok (.sipush 768, 3) := by decide +kernel
theorem dc_M_shown_130 : decode bc_M_shown 130 = .ok (.laload, 1) := by decide +kernel
theorem dc_M_shown_131 : decode bc_M_shown 131 = .ok (.iconst 0, 1) := by decide +kernel
theorem dc_M_shown_132 : decode bc_M_shown 132 = .ok (.invokestatic 51, 3) := by decide +kernel
theorem dc_M_shown_135 : decode bc_M_shown 135 = .ok (.land, 1) := by decide +kernel
theorem dc_M_shown_136 : decode bc_M_shown 136 = .ok (.ldc2_w 55, 3) := by decide +kernel
theorem dc_M_shown_139 : decode bc_M_shown 139 = .ok (.lor, 1) := by decide +kernel
theorem dc_M_shown_140 : decode bc_M_shown 140 = .ok (.lload_n 2, 1) := by decide +kernel
theorem dc_M_shown_141 : decode bc_M_shown 141 = .ok (.lor, 1) := by decide +kernel
theorem dc_M_shown_142 : decode bc_M_shown 142 = .ok (.lreturn, 1) := by decide +kernel
theorem dc_M_shown_143 : decode bc_M_shown 143 = .ok (.ldc2_w 57, 3) := by decide +kernel
theorem dc_M_shown_146 : decode bc_M_shown 146 = .ok (.lreturn, 1) := by decide +kernel
theorem dc_M_shown_147 : decode bc_M_shown 147 = .ok (.aload_n 0, 1) := by decide +kernel
theorem dc_M_shown_148 : decode bc_M_shown 148 = .ok (.getfield 13, 3) := by decide +kernel
theorem dc_M_shown_151 : decode bc_M_shown 151 = .ok (.sipush 772, 3) := by decide +kernel
theorem dc_M_shown_154 : decode bc_M_shown 154 = .ok (.laload, 1) := by decide +kernel
theorem dc_M_shown_155 : decode bc_M_shown 155 = .ok (.aload_n 0, 1) := by decide +kernel
theorem dc_M_shown_156 : decode bc_M_shown 156 = .ok (.getfield 13, 3) := by decide +kernel
theorem dc_M_shown_159 : decode bc_M_shown 159 = .ok (.sipush 771, 3) := by decide +kernel
theorem dc_M_shown_162 : decode bc_M_shown 162 = .ok (.laload, 1) := by decide +kernel
theorem dc_M_shown_163 : decode bc_M_shown 163 = .ok (.land, 1) := by decide +kernel
theorem dc_M_shown_164 : decode bc_M_shown 164 = .ok (.lreturn, 1) := by decide +kernel
theorem dc_M_shown_165 : decode bc_M_shown 165 = .ok (.aload_n 0, 1) := by decide +kernel
theorem dc_M_shown_166 : decode bc_M_shown 166 = .ok (.getfield 13, 3) := by decide +kernel
theorem dc_M_shown_169 : decode bc_M_shown 169 = .ok (.sipush 836, 3) := by decide +kernel
theorem dc_M_shown_172 : decode bc_M_shown 172 = .ok (.laload, 1) := by decide +kernel
theorem dc_M_shown_173 : decode bc_M_shown 173 = .ok (.aload_n 0, 1) := by decide +kernel
theorem dc_M_shown_174 : decode bc_M_shown 174 = .ok (.invokevirtual 59, 3) := by decide +kernel
theorem dc_M_shown_177 : decode bc_M_shown 177 = .ok (.lor, 1) := by decide +kernel
theorem dc_M_shown_178 : decode bc_M_shown 178 = .ok (.lreturn, 1) := by decide +kernel
theorem dc_M_shown_179 : decode bc_M_shown 179 = .ok (.aload_n 0, 1) := by decide +kernel
theorem dc_M_shown_180 : decode bc_M_shown 180 = .ok (.getfield 13, 3) := by decide +kernel
theorem dc_M_shown_183 : decode bc_M_shown 183 = .ok (.sipush 836, 3) := by decide +kernel
theorem dc_M_shown_186 : decode bc_M_shown 186 = .ok (.laload, 1) := by decide +kernel
theorem dc_M_shown_187 : decode bc_M_shown 187 = .ok (.aload_n 0, 1) := by decide +kernel
theorem dc_M_shown_188 : decode bc_M_shown 188 = .ok (.invokevirtual 59, 3) := by decide +kernel
theorem dc_M_shown_191 : decode bc_M_shown 191 = .ok (.lor, 1) := by decide +kernel
theorem dc_M_shown_192 : decode bc_M_shown 192 = .ok (.aload_n 0, 1) := by decide +kernel
theorem dc_M_shown_193 : decode bc_M_shown 193 = .ok (.getfield 13, 3) := by decide +kernel
theorem dc_M_shown_196 : decode bc_M_shown 196 = .ok (.sipush 771, 3) := by decide +kernel
theorem dc_M_shown_199 : decode bc_M_shown 199 = .ok (.laload, 1) := by decide +kernel
theorem dc_M_shown_200 : decode bc_M_shown 200 = .ok (.land, 1) := by decide +kernel
theorem dc_M_shown_201 : decode bc_M_shown 201 = .ok (.lreturn, 1) := by decide +kernel
theorem dc_M_shown_202 : decode bc_M_shown 202 = .ok (.aload_n 0, 1) := by decide +kernel
theorem dc_M_shown_203 : decode bc_M_shown 203 = .ok (.getfield 21, 3) := by decide +kernel
theorem dc_M_shown_206 : decode bc_M_shown 206 = .ok (.i2l, 1) := by decide +kernel
theorem dc_M_shown_207 : decode bc_M_shown 207 = .ok (.lreturn, 1) := by decide +kernel
theorem dc_M_shown_208 : decode bc_M_shown 208 = .ok (.aload_n 0, 1) := by decide +kernel
theorem dc_M_shown_209 : decode bc_M_shown 209 = .ok (.getfield 13, 3) := by decide +kernel
theorem dc_M_shown_212 : decode bc_M_shown 212 = .ok (.sipush 2816, 3) := by decide +kernel
theorem dc_M_shown_215 : decode bc_M_shown 215 = .ok (.laload, 1) := by decide +kernel
theorem dc_M_shown_216 : decode bc_M_shown 216 = .ok (.lreturn, 1) := by decide +kernel
theorem dc_M_shown_217 : decode bc_M_shown 217 = .ok (.aload_n 0, 1) := by decide +kernel
theorem dc_M_shown_218 : decode bc_M_shown 218 = .ok (.getfield 63, 3) := by decide +kernel
theorem dc_M_shown_221 : decode bc_M_shown 221 = .ok (.lreturn, 1) := by decide +kernel
theorem dc_M_shown_222 : decode bc_M_shown 222 = .ok (.aload_n 0, 1) := by decide +kernel
theorem dc_M_shown_223 : decode bc_M_shown 223 = .ok (.getfield 13, 3) := by decide +kernel
theorem dc_M_shown_226 : decode bc_M_shown 226 = .ok (.sipush 2818, 3) := by decide +kernel
theorem dc_M_shown_229 : decode bc_M_shown 229 = .ok (.laload, 1) := by decide +kernel
theorem dc_M_shown_230 : decode bc_M_shown 230 = .ok (.lreturn, 1) := by decide +kernel
theorem dc_M_shown_231 : decode bc_M_shown 231 = .ok (.iload_n 1, 1) := by decide +kernel
theorem dc_M_shown_232 : decode bc_M_shown 232 = .ok (.invokestatic 67, 3) := by decide +kernel
theorem dc_M_shown_235 : decode bc_M_shown 235 = .ok (.ifCond .eq 19, 3) := by decide +kernel
theorem dc_M_shown_238 : decode bc_M_shown 238 = .ok (.iload_n 1, 1) := by decide +kernel
theorem dc_M_shown_239 : decode bc_M_shown 239 = .ok (.invokestatic 41, 3) := by decide +kernel
theorem dc_M_shown_242 : decode bc_M_shown 242 = .ok (.ifCond .ne 12, 3) := by decide +kernel
theorem dc_M_shown_245 : decode bc_M_shown 245 = .ok (.aload_n 0, 1) := by decide +kernel
theorem dc_M_shown_246 : decode bc_M_shown 246 = .ok (.getfield 13, 3) := by decide +kernel
theorem dc_M_shown_249 : decode bc_M_shown 249 = .ok (.iload_n 1, 1) := by decide +kernel
theorem dc_M_shown_250 : decode bc_M_shown 250 = .ok (.laload, 1) := by decide +kernel
theorem dc_M_shown_251 : decode bc_M_shown 251 = .ok (.goto 4, 3) := by decide +kernel
theorem dc_M_shown_254 : decode bc_M_shown 254 = .ok (.lconst 0, 1) := by decide +kernel
theorem dc_M_shown_255 : decode bc_M_shown 255 = .ok (.lreturn, 1) := by decide +kernel
theorem dc_M_peek_0 : decode bc_M_peek 0 = .ok (.aload_n 0, 1) := by decide +kernel
theorem dc_M_peek_1 : decode bc_M_peek 1 = .ok (.iconst 0, 1) := by decide +kernel
theorem dc_M_peek_2 : decode bc_M_peek 2 = .ok (.putfield 24, 3) := by decide +kernel
theorem dc_M_peek_5 : decode bc_M_peek 5 = .ok (.iload_n 1, 1) := by decide +kernel
theorem dc_M_peek_6 : decode bc_M_peek 6 = .ok (.ifCond .lt 10, 3) := by decide +kernel
theorem dc_M_peek_9 : decode bc_M_peek 9 = .ok (.iload_n 1, 1) := by decide +kernel
theorem dc_M_peek_10 : decode bc_M_peek 10 = .ok (.sipush 4095, 3) := by decide +kernel
theorem dc_M_peek_13 : decode bc_M_peek 13 = .ok (.if_icmp .le 7, 3) := by decide +kernel
theorem dc_M_peek_16 : decode bc_M_peek 16 = .ok (.lconst 0, 1) := by decide +kernel
theorem dc_M_peek_17 : decode bc_M_peek 17 = .ok (.goto 8, 3) := by decide +kernel
theorem dc_M_peek_20 : decode bc_M_peek 20 = .ok (.aload_n 0, 1) := by decide +kernel
theorem dc_M_peek_21 : decode bc_M_peek 21 = .ok (.iload_n 1, 1) := by decide +kernel
theorem dc_M_peek_22 : decode bc_M_peek 22 = .ok (.invokevirtual 70, 3) := by decide +kernel
theorem dc_M_peek_25 : decode bc_M_peek 25 = .ok (.lreturn, 1) := by decide +kernel
theorem dc_M_through_0 : decode bc_M_through 0 = .ok (.aload_n 0, 1) := by decide +kernel
theorem dc_M_through_1 : decode bc_M_through 1 = .ok (.getfield 13, 3) := by decide +kernel
theorem dc_M_through_4 : decode bc_M_through 4 = .ok (.iload_n 1, 1) := by decide +kernel
theorem dc_M_through_5 : decode bc_M_through 5 = .ok (.aload_n 0, 1) := by decide +kernel
theorem dc_M_through_6 : decode bc_M_through 6 = .ok (.getfield 13, 3) := by decide +kernel
theorem dc_M_through_9 : decode bc_M_through 9 = .ok (.iload_n 1, 1) := by decide +kernel
theorem dc_M_through_10 : decode bc_M_through 10 = .ok (.laload, 1) := by decide +kernel
theorem dc_M_through_11 : decode bc_M_through 11 = .ok (.lload_n 2, 1) := by decide +kernel
theorem dc_M_through_12 : decode bc_M_through 12 = .ok (.ldc2_w 27, 3) := by decide +kernel
theorem dc_M_through_15 : decode bc_M_through 15 = .ok (.lxor, 1) := by decide +kernel
theorem dc_M_through_16 : decode bc_M_through 16 = .ok (.land, 1) := by decide +kernel
theorem dc_M_through_17 : decode bc_M_through 17 = .ok (.lload 4, 2) := by decide +kernel
theorem dc_M_through_19 : decode bc_M_through 19 = .ok (.lload_n 2, 1) := by decide +kernel
theorem dc_M_through_20 : decode bc_M_through 20 = .ok (.land, 1) := by decide +kernel
theorem dc_M_through_21 : decode bc_M_through 21 = .ok (.lor, 1) := by decide +kernel
theorem dc_M_through_22 : decode bc_M_through 22 = .ok (.lastore, 1) := by decide +kernel
theorem dc_M_through_23 : decode bc_M_through 23 = .ok (.return_, 1) := by decide +kernel
theorem dc_M_writeStatus_0 : decode bc_M_writeStatus 0 = .ok (.aload_n 0, 1) := by decide +kernel
theorem dc_M_writeStatus_1 : decode bc_M_writeStatus 1 = .ok (.invokevirtual 33, 3) := by decide +kernel
theorem dc_M_writeStatus_4 : decode bc_M_writeStatus 4 = .ok (.istore 5, 2) := by decide +kernel
theorem dc_M_writeStatus_6 : decode bc_M_writeStatus 6 = .ok (.aload_n 0, 1) := by decide +kernel
theorem dc_M_writeStatus_7 : decode bc_M_writeStatus 7 = .ok (.sipush 768, 3) := by decide +kernel
theorem dc_M_writeStatus_10 : decode bc_M_writeStatus 10 = .ok (.lload_n 1, 1) := by decide +kernel
theorem dc_M_writeStatus_11 : decode bc_M_writeStatus 11 = .ok (.lload_n 3, 1) := by decide +kernel
theorem dc_M_writeStatus_12 : decode bc_M_writeStatus 12 = .ok (.invokevirtual 74, 3) := by decide +kernel
theorem dc_M_writeStatus_15 : decode bc_M_writeStatus 15 = .ok (.aload_n 0, 1) := by decide +kernel
theorem dc_M_writeStatus_16 : decode bc_M_writeStatus 16 = .ok (.invokevirtual 33, 3) := by decide +kernel
theorem dc_M_writeStatus_19 : decode bc_M_writeStatus 19 = .ok (.iconst 2, 1) := by decide +kernel
theorem dc_M_writeStatus_20 : decode bc_M_writeStatus 20 = .ok (.if_icmp .ne 23, 3) := by decide +kernel
theorem dc_M_writeStatus_23 : decode bc_M_writeStatus 23 = .ok (.aload_n 0, 1) := by decide +kernel
theorem dc_M_writeStatus_24 : decode bc_M_writeStatus 24 = .ok (.bipush 11, 2) := by decide +kernel
theorem dc_M_writeStatus_26 : decode bc_M_writeStatus 26 = .ok (.iload 5, 2) := by decide +kernel
theorem dc_M_writeStatus_28 : decode bc_M_writeStatus 28 = .ok (.iconst 2, 1) := by decide +kernel
theorem dc_M_writeStatus_29 : decode bc_M_writeStatus 29 = .ok (.irem, 1) := by decide +kernel
theorem dc_M_writeStatus_30 : decode bc_M_writeStatus 30 = .ok (.invokevirtual 78, 3) := by decide +kernel
theorem dc_M_writeStatus_33 : decode bc_M_writeStatus 33 = .ok (.aload_n 0, 1) := by decide +kernel
theorem dc_M_writeStatus_34 : decode bc_M_writeStatus 34 = .ok (.bipush 12, 2) := by decide +kernel
theorem dc_M_writeStatus_36 : decode bc_M_writeStatus 36 = .ok (.iload 5, 2) := by decide +kernel
theorem dc_M_writeStatus_38 : decode bc_M_writeStatus 38 = .ok (.iconst 2, 1) := by decide +kernel
theorem dc_M_writeStatus_39 : decode bc_M_writeStatus 39 = .ok (.idiv, 1) := by decide +kernel
theorem dc_M_writeStatus_40 : decode bc_M_writeStatus 40 = .ok (.invokevirtual 78, 3) := by decide +kernel
theorem dc_M_writeStatus_43 : decode bc_M_writeStatus 43 = .ok (.return_, 1) := by decide +kernel
theorem dc_M_write_0 : decode bc_M_write 0 = .ok (.iload_n 1, 1) := by decide +kernel
theorem dc_M_write_1 : decode bc_M_write 1 = .ok (.lookupswitch 351 #[(256, 151), (260, 205), (261, 261), (262, 285), (321, 273), (324, 238), (384, 297), (768, 139), (769, 348), (770, 163), (771, 177), (772, 191), (773, 261), (774, 285), (833, 273), (836, 224)], 139) := by decide +kernel
theorem dc_M_write_140 : decode bc_M_write 140 = .ok (.aload_n 0, 1) := by decide +kernel
theorem dc_M_write_141 : decode bc_M_write 141 = .ok (.iconst 1, 1) := by decide +kernel
theorem dc_M_write_142 : decode bc_M_write 142 = .ok (.invokestatic 51, 3) := by decide +kernel
theorem dc_M_write_145 : decode bc_M_write 145 = .ok (.lload_n 2, 1) := by decide +kernel
theorem dc_M_write_146 : decode bc_M_write 146 = .ok (.invokevirtual 82, 3) := by decide +kernel
theorem dc_M_write_149 : decode bc_M_write 149 = .ok (.goto 210, 3) := by decide +kernel
theorem dc_M_write_152 : decode bc_M_write 152 = .ok (.aload_n 0, 1) := by decide +kernel
theorem dc_M_write_153 : decode bc_M_write 153 = .ok (.iconst 0, 1) := by decide +kernel
theorem dc_M_write_154 : decode bc_M_write 154 = .ok (.invokestatic 51, 3) := by decide +kernel
theorem dc_M_write_157 : decode bc_M_write 157 = .ok (.lload_n 2, 1) := by decide +kernel
theorem dc_M_write_158 : decode bc_M_write 158 = .ok (.invokevirtual 82, 3) := by decide +kernel
theorem dc_M_write_161 : decode bc_M_write 161 = .ok (.goto 198, 3) := by decide +kernel
theorem dc_M_write_164 : decode bc_M_write 164 = .ok (.aload_n 0, 1) := by decide +kernel
theorem dc_M_write_165 : decode bc_M_write 165 = .ok (.sipush 770, 3) := by decide +kernel
theorem dc_M_write_168 : decode bc_M_write 168 = .ok (.ldc2_w 86, 3) := by decide +kernel
theorem dc_M_write_171 : decode bc_M_write 171 = .ok (.lload_n 2, 1) := by decide +kernel
theorem dc_M_write_172 : decode bc_M_write 172 = .ok (.invokevirtual 74, 3) := by decide +kernel
theorem dc_M_write_175 : decode bc_M_write 175 = .ok (.goto 184, 3) := by decide +kernel
theorem dc_M_write_178 : decode bc_M_write 178 = .ok (.aload_n 0, 1) := by decide +kernel
theorem dc_M_write_179 : decode bc_M_write 179 = .ok (.sipush 771, 3) := by decide +kernel
theorem dc_M_write_182 : decode bc_M_write 182 = .ok (.ldc2_w 88, 3) := by decide +kernel
theorem dc_M_write_185 : decode bc_M_write 185 = .ok (.lload_n 2, 1) := by decide +kernel
theorem dc_M_write_186 : decode bc_M_write 186 = .ok (.invokevirtual 74, 3) := by decide +kernel
theorem dc_M_write_189 : decode bc_M_write 189 = .ok (.goto 170, 3) := by decide +kernel
theorem dc_M_write_192 : decode bc_M_write 192 = .ok (.aload_n 0, 1) := by decide +kernel
theorem dc_M_write_193 : decode bc_M_write 193 = .ok (.sipush 772, 3) := by decide +kernel
theorem dc_M_write_196 : decode bc_M_write 196 = .ok (.ldc2_w 90, 3) := by decide +kernel
theorem dc_M_write_199 : decode bc_M_write 199 = .ok (.lload_n 2, 1) := by decide +kernel
theorem dc_M_write_200 : decode bc_M_write 200 = .ok (.invokevirtual 74, 3) := by decide +kernel
theorem dc_M_write_203 : decode bc_M_write 203 = .ok (.goto 156, 3) := by decide +kernel
theorem dc_M_write_206 : decode bc_M_write 206 = .ok (.aload_n 0, 1) := by decide +kernel
theorem dc_M_write_207 : decode bc_M_write 207 = .ok (.sipush 772, 3) := by decide +kernel
theorem dc_M_write_210 : decode bc_M_write 210 = .ok (.aload_n 0, 1) := by decide +kernel
theorem dc_M_write_211 : decode bc_M_write 211 = .ok (.getfield 13, 3) := by decide +kernel
theorem dc_M_write_214 : decode bc_M_write 214 = .ok (.sipush 771, 3) := by decide +kernel
theorem dc_M_write_217 : decode bc_M_write 217 = .ok (.laload, 1) := by decide +kernel
theorem dc_M_write_218 : decode bc_M_write 218 = .ok (.lload_n 2, 1) := by decide +kernel
theorem dc_M_write_219 : decode bc_M_write 219 = .ok (.invokevirtual 74, 3) := by decide +kernel
theorem dc_M_write_222 : decode bc_M_write 222 = .ok (.goto 137, 3) := by decide +kernel
theorem dc_M_write_225 : decode bc_M_write 225 = .ok (.aload_n 0, 1) := by decide +kernel
theorem dc_M_write_226 : decode bc_M_write 226 = .ok (.sipush 836, 3) := by decide +kernel
theorem dc_M_write_229 : decode bc_M_write 229 = .ok (.ldc2_w 88, 3) := by decide +kernel
theorem dc_M_write_232 : decode bc_M_write 232 = .ok (.lload_n 2, 1) := by decide +kernel
theorem dc_M_write_233 : decode bc_M_write 233 = .ok (.invokevirtual 74, 3) := by decide +kernel
theorem dc_M_write_236 : decode bc_M_write 236 = .ok (.goto 123, 3) := by decide +kernel
theorem dc_M_write_239 : decode bc_M_write 239 = .ok (.aload_n 0, 1) := by decide +kernel
theorem dc_M_write_240 : decode bc_M_write 240 = .ok (.sipush 836, 3) := by decide +kernel
theorem dc_M_write_243 : decode bc_M_write 243 = .ok (.aload_n 0, 1) := by decide +kernel
theorem dc_M_write_244 : decode bc_M_write 244 = .ok (.getfield 13, 3) := by decide +kernel
theorem dc_M_write_247 : decode bc_M_write 247 = .ok (.sipush 771, 3) := by decide +kernel
theorem dc_M_write_250 : decode bc_M_write 250 = .ok (.laload, 1) := by decide +kernel
theorem dc_M_write_251 : decode bc_M_write 251 = .ok (.ldc2_w 92, 3) := by decide +kernel
theorem dc_M_write_254 : decode bc_M_write 254 = .ok (.land, 1) := by decide +kernel
theorem dc_M_write_255 : decode bc_M_write 255 = .ok (.lload_n 2, 1) := by decide +kernel
theorem dc_M_write_256 : decode bc_M_write 256 = .ok (.invokevirtual 74, 3) := by decide +kernel
theorem dc_M_write_259 : decode bc_M_write 259 = .ok (.goto 100, 3) := by decide +kernel
theorem dc_M_write_262 : decode bc_M_write 262 = .ok (.aload_n 0, 1) := by decide +kernel
theorem dc_M_write_263 : decode bc_M_write 263 = .ok (.iload_n 1, 1) := by decide +kernel
theorem dc_M_write_264 : decode bc_M_write 264 = .ok (.ldc2_w 94, 3) := by decide +kernel
theorem dc_M_write_267 : decode bc_M_write 267 = .ok (.lload_n 2, 1) := by decide +kernel
theorem dc_M_write_268 : decode bc_M_write 268 = .ok (.invokevirtual 74, 3) := by decide +kernel
theorem dc_M_write_271 : decode bc_M_write 271 = .ok (.goto 88, 3) := by decide +kernel
theorem dc_M_write_274 : decode bc_M_write 274 = .ok (.aload_n 0, 1) := by decide +kernel
theorem dc_M_write_275 : decode bc_M_write 275 = .ok (.iload_n 1, 1) := by decide +kernel
theorem dc_M_write_276 : decode bc_M_write 276 = .ok (.ldc2_w 96, 3) := by decide +kernel
theorem dc_M_write_279 : decode bc_M_write 279 = .ok (.lload_n 2, 1) := by decide +kernel
theorem dc_M_write_280 : decode bc_M_write 280 = .ok (.invokevirtual 74, 3) := by decide +kernel
theorem dc_M_write_283 : decode bc_M_write 283 = .ok (.goto 76, 3) := by decide +kernel
theorem dc_M_write_286 : decode bc_M_write 286 = .ok (.aload_n 0, 1) := by decide +kernel
theorem dc_M_write_287 : decode bc_M_write 287 = .ok (.iload_n 1, 1) := by decide +kernel
theorem dc_M_write_288 : decode bc_M_write 288 = .ok (.ldc2_w 98, 3) := by decide +kernel
theorem dc_M_write_291 : decode bc_M_write 291 = .ok (.lload_n 2, 1) := by decide +kernel
theorem dc_M_write_292 : decode bc_M_write 292 = .ok (.invokevirtual 74, 3) := by decide +kernel
theorem dc_M_write_295 : decode bc_M_write 295 = .ok (.goto 64, 3) := by decide +kernel
theorem dc_M_write_298 : decode bc_M_write 298 = .ok (.lload_n 2, 1) := by decide +kernel
theorem dc_M_write_299 : decode bc_M_write 299 = .ok (.bipush 60, 2) := by decide +kernel
theorem dc_M_write_301 : decode bc_M_write 301 = .ok (.lshr, 1) := by decide +kernel
theorem dc_M_write_302 : decode bc_M_write 302 = .ok (.ldc2_w 100, 3) := by decide +kernel
theorem dc_M_write_305 : decode bc_M_write 305 = .ok (.land, 1) := by decide +kernel
theorem dc_M_write_306 : decode bc_M_write 306 = .ok (.lstore 4, 2) := by decide +kernel
theorem dc_M_write_308 : decode bc_M_write 308 = .ok (.aload_n 0, 1) := by decide +kernel
theorem dc_M_write_309 : decode bc_M_write 309 = .ok (.iload_n 1, 1) := by decide +kernel
theorem dc_M_write_310 : decode bc_M_write 310 = .ok (.lload 4, 2) := by decide +kernel
theorem dc_M_write_312 : decode bc_M_write 312 = .ok (.lconst 0, 1) := by decide +kernel
theorem dc_M_write_313 : decode bc_M_write 313 = .ok (.lcmp, 1) := by decide +kernel
theorem dc_M_write_314 : decode bc_M_write 314 = .ok (.ifCond .eq 21, 3) := by decide +kernel
theorem dc_M_write_317 : decode bc_M_write 317 = .ok (.lload 4, 2) := by decide +kernel
theorem dc_M_write_319 : decode bc_M_write 319 = .ok (.ldc2_w 102, 3) := by decide +kernel
theorem dc_M_write_322 : decode bc_M_write 322 = .ok (.lcmp, 1) := by decide +kernel
theorem dc_M_write_323 : decode bc_M_write 323 = .ok (.ifCond .eq 12, 3) := by decide +kernel
theorem dc_M_write_326 : decode bc_M_write 326 = .ok (.lload 4, 2) := by decide +kernel
theorem dc_M_write_328 : decode bc_M_write 328 = .ok (.ldc2_w 104, 3) := by decide +kernel
theorem dc_M_write_331 : decode bc_M_write 331 = .ok (.lcmp, 1) := by decide +kernel
theorem dc_M_write_332 : decode bc_M_write 332 = .ok (.ifCond .ne 9, 3) := by decide +kernel
theorem dc_M_write_335 : decode bc_M_write 335 = .ok (.ldc2_w 27, 3) := by decide +kernel
theorem dc_M_write_338 : decode bc_M_write 338 = .ok (.goto 4, 3) := by decide +kernel
theorem dc_M_write_341 : decode bc_M_write 341 = .ok (.lconst 0, 1) := by decide +kernel
theorem dc_M_write_342 : decode bc_M_write 342 = .ok (.lload_n 2, 1) := by decide +kernel
theorem dc_M_write_343 : decode bc_M_write 343 = .ok (.invokevirtual 74, 3) := by decide +kernel
theorem dc_M_write_346 : decode bc_M_write 346 = .ok (.goto 13, 3) := by decide +kernel
theorem dc_M_write_349 : decode bc_M_write 349 = .ok (.goto 10, 3) := by decide +kernel
theorem dc_M_write_352 : decode bc_M_write 352 = .ok (.aload_n 0, 1) := by decide +kernel
theorem dc_M_write_353 : decode bc_M_write 353 = .ok (.getfield 13, 3) := by decide +kernel
theorem dc_M_write_356 : decode bc_M_write 356 = .ok (.iload_n 1, 1) := by decide +kernel
theorem dc_M_write_357 : decode bc_M_write 357 = .ok (.lload_n 2, 1) := by decide +kernel
theorem dc_M_write_358 : decode bc_M_write 358 = .ok (.lastore, 1) := by decide +kernel
theorem dc_M_write_359 : decode bc_M_write 359 = .ok (.return_, 1) := by decide +kernel
theorem dc_M_isIllegal_0 : decode bc_M_isIllegal 0 = .ok (.iload_n 1, 1) := by decide +kernel
theorem dc_M_isIllegal_1 : decode bc_M_isIllegal 1 = .ok (.invokestatic 67, 3) := by decide +kernel
theorem dc_M_isIllegal_4 : decode bc_M_isIllegal 4 = .ok (.ifCond .eq 30, 3) := by decide +kernel
theorem dc_M_isIllegal_7 : decode bc_M_isIllegal 7 = .ok (.iload_n 1, 1) := by decide +kernel
theorem dc_M_isIllegal_8 : decode bc_M_isIllegal 8 = .ok (.bipush 8, 2) := by decide +kernel
theorem dc_M_isIllegal_10 : decode bc_M_isIllegal 10 = .ok (.ishr, 1) := by decide +kernel
theorem dc_M_isIllegal_11 : decode bc_M_isIllegal 11 = .ok (.iconst 3, 1) := by decide +kernel
theorem dc_M_isIllegal_12 : decode bc_M_isIllegal 12 = .ok (.iand, 1) := by decide +kernel
theorem dc_M_isIllegal_13 : decode bc_M_isIllegal 13 = .ok (.aload_n 0, 1) := by decide +kernel
theorem dc_M_isIllegal_14 : decode bc_M_isIllegal 14 = .ok (.getfield 7, 3) := by decide +kernel
theorem dc_M_isIllegal_17 : decode bc_M_isIllegal 17 = .ok (.if_icmp .gt 17, 3) := by decide +kernel
theorem dc_M_isIllegal_20 : decode bc_M_isIllegal 20 = .ok (.iload_n 2, 1) := by decide +kernel
theorem dc_M_isIllegal_21 : decode bc_M_isIllegal 21 = .ok (.ifCond .eq 17, 3) := by decide +kernel
theorem dc_M_isIllegal_24 : decode bc_M_isIllegal 24 = .ok (.iload_n 1, 1) := by decide +kernel
theorem dc_M_isIllegal_25 : decode bc_M_isIllegal 25 = .ok (.bipush 10, 2) := by decide +kernel
theorem dc_M_isIllegal_27 : decode bc_M_isIllegal 27 = .ok (.ishr, 1) := by decide +kernel
theorem dc_M_isIllegal_28 : decode bc_M_isIllegal 28 = .ok (.iconst 3, 1) := by decide +kernel
theorem dc_M_isIllegal_29 : decode bc_M_isIllegal 29 = .ok (.iand, 1) := by decide +kernel
theorem dc_M_isIllegal_30 : decode bc_M_isIllegal 30 = .ok (.iconst 3, 1) := by decide +kernel
theorem dc_M_isIllegal_31 : decode bc_M_isIllegal 31 = .ok (.if_icmp .ne 7, 3) := by decide +kernel
theorem dc_M_isIllegal_34 : decode bc_M_isIllegal 34 = .ok (.iconst 1, 1) := by decide +kernel
theorem dc_M_isIllegal_35 : decode bc_M_isIllegal 35 = .ok (.goto 4, 3) := by decide +kernel
theorem dc_M_isIllegal_38 : decode bc_M_isIllegal 38 = .ok (.iconst 0, 1) := by decide +kernel
theorem dc_M_isIllegal_39 : decode bc_M_isIllegal 39 = .ok (.istore_n 3, 1) := by decide +kernel
theorem dc_M_isIllegal_40 : decode bc_M_isIllegal 40 = .ok (.iload_n 1, 1) := by decide +kernel
theorem dc_M_isIllegal_41 : decode bc_M_isIllegal 41 = .ok (.sipush 384, 3) := by decide +kernel
theorem dc_M_isIllegal_44 : decode bc_M_isIllegal 44 = .ok (.if_icmp .ne 21, 3) := by decide +kernel
theorem dc_M_isIllegal_47 : decode bc_M_isIllegal 47 = .ok (.aload_n 0, 1) := by decide +kernel
theorem dc_M_isIllegal_48 : decode bc_M_isIllegal 48 = .ok (.getfield 7, 3) := by decide +kernel
theorem dc_M_isIllegal_51 : decode bc_M_isIllegal 51 = .ok (.iconst 1, 1) := by decide +kernel
theorem dc_M_isIllegal_52 : decode bc_M_isIllegal 52 = .ok (.if_icmp .ne 13, 3) := by decide +kernel
theorem dc_M_isIllegal_55 : decode bc_M_isIllegal 55 = .ok (.aload_n 0, 1) := by decide +kernel
theorem dc_M_isIllegal_56 : decode bc_M_isIllegal 56 = .ok (.bipush 20, 2) := by decide +kernel
theorem dc_M_isIllegal_58 : decode bc_M_isIllegal 58 = .ok (.invokevirtual 29, 3) := by decide +kernel
theorem dc_M_isIllegal_61 : decode bc_M_isIllegal 61 = .ok (.iconst 1, 1) := by decide +kernel
theorem dc_M_isIllegal_62 : decode bc_M_isIllegal 62 = .ok (.if_icmp .eq 19, 3) := by decide +kernel
theorem dc_M_isIllegal_65 : decode bc_M_isIllegal 65 = .ok (.iload_n 1, 1) := by decide +kernel
theorem dc_M_isIllegal_66 : decode bc_M_isIllegal 66 = .ok (.ifCond .le 19, 3) := by decide +kernel
theorem dc_M_isIllegal_69 : decode bc_M_isIllegal 69 = .ok (.iload_n 1, 1) := by decide +kernel
theorem dc_M_isIllegal_70 : decode bc_M_isIllegal 70 = .ok (.iconst 4, 1) := by decide +kernel
theorem dc_M_isIllegal_71 : decode bc_M_isIllegal 71 = .ok (.if_icmp .ge 14, 3) := by decide +kernel
theorem dc_M_isIllegal_74 : decode bc_M_isIllegal 74 = .ok (.aload_n 0, 1) := by decide +kernel
theorem dc_M_isIllegal_75 : decode bc_M_isIllegal 75 = .ok (.invokevirtual 44, 3) := by decide +kernel
theorem dc_M_isIllegal_78 : decode bc_M_isIllegal 78 = .ok (.ifCond .ne 7, 3) := by decide +kernel
theorem dc_M_isIllegal_81 : decode bc_M_isIllegal 81 = .ok (.iconst 1, 1) := by decide +kernel
theorem dc_M_isIllegal_82 : decode bc_M_isIllegal 82 = .ok (.goto 4, 3) := by decide +kernel
theorem dc_M_isIllegal_85 : decode bc_M_isIllegal 85 = .ok (.iconst 0, 1) := by decide +kernel
theorem dc_M_isIllegal_86 : decode bc_M_isIllegal 86 = .ok (.istore 4, 2) := by decide +kernel
theorem dc_M_isIllegal_88 : decode bc_M_isIllegal 88 = .ok (.iload_n 1, 1) := by decide +kernel
theorem dc_M_isIllegal_89 : decode bc_M_isIllegal 89 = .ok (.invokestatic 37, 3) := by decide +kernel
theorem dc_M_isIllegal_92 : decode bc_M_isIllegal 92 = .ok (.ifCond .eq 71, 3) := by decide +kernel
theorem dc_M_isIllegal_95 : decode bc_M_isIllegal 95 = .ok (.lconst 1, 1) := by decide +kernel
theorem dc_M_isIllegal_96 : decode bc_M_isIllegal 96 = .ok (.iload_n 1, 1) := by decide +kernel
theorem dc_M_isIllegal_97 : decode bc_M_isIllegal 97 = .ok (.sipush 3072, 3) := by decide +kernel
theorem dc_M_isIllegal_100 : decode bc_M_isIllegal 100 = .ok (.isub, 1) := by decide +kernel
theorem dc_M_isIllegal_101 : decode bc_M_isIllegal 101 = .ok (.lshl, 1) := by decide +kernel
theorem dc_M_isIllegal_102 : decode bc_M_isIllegal 102 = .ok (.lstore 5, 2) := by decide +kernel
theorem dc_M_isIllegal_104 : decode bc_M_isIllegal 104 = .ok (.iload 4, 2) := by decide +kernel
theorem dc_M_isIllegal_106 : decode bc_M_isIllegal 106 = .ok (.ifCond .ne 50, 3) := by decide +kernel
theorem dc_M_isIllegal_109 : decode bc_M_isIllegal 109 = .ok (.aload_n 0, 1) := by decide +kernel
theorem dc_M_isIllegal_110 : decode bc_M_isIllegal 110 = .ok (.getfield 7, 3) := by decide +kernel
theorem dc_M_isIllegal_113 : decode bc_M_isIllegal 113 = .ok (.iconst 3, 1) := by decide +kernel
theorem dc_M_isIllegal_114 : decode bc_M_isIllegal 114 = .ok (.if_icmp .ge 19, 3) := by decide +kernel
theorem dc_M_isIllegal_117 : decode bc_M_isIllegal 117 = .ok (.aload_n 0, 1) := by decide +kernel
theorem dc_M_isIllegal_118 : decode bc_M_isIllegal 118 = .ok (.getfield 13, 3) := by decide +kernel
theorem dc_M_isIllegal_121 : decode bc_M_isIllegal 121 = .ok (.sipush 774, 3) := by decide +kernel
theorem dc_M_isIllegal_124 : decode bc_M_isIllegal 124 = .ok (.laload, 1) := by decide +kernel
theorem dc_M_isIllegal_125 : decode bc_M_isIllegal 125 = .ok (.lload 5, 2) := by decide +kernel
theorem dc_M_isIllegal_127 : decode bc_M_isIllegal 127 = .ok (.land, 1) := by decide +kernel
theorem dc_M_isIllegal_128 : decode bc_M_isIllegal 128 = .ok (.lconst 0, 1) := by decide +kernel
theorem dc_M_isIllegal_129 : decode bc_M_isIllegal 129 = .ok (.lcmp, 1) := by decide +kernel
theorem dc_M_isIllegal_130 : decode bc_M_isIllegal 130 = .ok (.ifCond .eq 26, 3) := by decide +kernel
theorem dc_M_isIllegal_133 : decode bc_M_isIllegal 133 = .ok (.aload_n 0, 1) := by decide +kernel
theorem dc_M_isIllegal_134 : decode bc_M_isIllegal 134 = .ok (.getfield 7, 3) := by decide +kernel
theorem dc_M_isIllegal_137 : decode bc_M_isIllegal 137 = .ok (.ifCond .ne 23, 3) := by decide +kernel
theorem dc_M_isIllegal_140 : decode bc_M_isIllegal 140 = .ok (.aload_n 0, 1) := by decide +kernel
theorem dc_M_isIllegal_141 : decode bc_M_isIllegal 141 = .ok (.getfield 13, 3) := by decide +kernel
theorem dc_M_isIllegal_144 : decode bc_M_isIllegal 144 = .ok (.sipush 262, 3) := by decide +kernel
theorem dc_M_isIllegal_147 : decode bc_M_isIllegal 147 = .ok (.laload, 1) := by decide +kernel
theorem dc_M_isIllegal_148 : decode bc_M_isIllegal 148 = .ok (.lload 5, 2) := by decide +kernel
theorem dc_M_isIllegal_150 : decode bc_M_isIllegal 150 = .ok (.land, 1) := by decide +kernel
theorem dc_M_isIllegal_151 : decode bc_M_isIllegal 151 = .ok (.lconst 0, 1) := by decide +kernel
theorem dc_M_isIllegal_152 : decode bc_M_isIllegal 152 = .ok (.lcmp, 1) := by decide +kernel
theorem dc_M_isIllegal_153 : decode bc_M_isIllegal 153 = .ok (.ifCond .ne 7, 3) := by decide +kernel
theorem dc_M_isIllegal_156 : decode bc_M_isIllegal 156 = .ok (.iconst 1, 1) := by decide +kernel
theorem dc_M_isIllegal_157 : decode bc_M_isIllegal 157 = .ok (.goto 4, 3) := by decide +kernel
theorem dc_M_isIllegal_160 : decode bc_M_isIllegal 160 = .ok (.iconst 0, 1) := by decide +kernel
theorem dc_M_isIllegal_161 : decode bc_M_isIllegal 161 = .ok (.istore 4, 2) := by decide +kernel
theorem dc_M_isIllegal_163 : decode bc_M_isIllegal 163 = .ok (.iload_n 3, 1) := by decide +kernel
theorem dc_M_isIllegal_164 : decode bc_M_isIllegal 164 = .ok (.ifCond .ne 8, 3) := by decide +kernel
theorem dc_M_isIllegal_167 : decode bc_M_isIllegal 167 = .ok (.iload 4, 2) := by decide +kernel
theorem dc_M_isIllegal_169 : decode bc_M_isIllegal 169 = .ok (.ifCond .eq 7, 3) := by decide +kernel
theorem dc_M_isIllegal_172 : decode bc_M_isIllegal 172 = .ok (.iconst 1, 1) := by decide +kernel
theorem dc_M_isIllegal_173 : decode bc_M_isIllegal 173 = .ok (.goto 4, 3) := by decide +kernel
theorem dc_M_isIllegal_176 : decode bc_M_isIllegal 176 = .ok (.iconst 0, 1) := by decide +kernel
theorem dc_M_isIllegal_177 : decode bc_M_isIllegal 177 = .ok (.ireturn, 1) := by decide +kernel
theorem dc_M_access_0 : decode bc_M_access 0 = .ok (.aload_n 0, 1) := by decide +kernel
theorem dc_M_access_1 : decode bc_M_access 1 = .ok (.iload_n 1, 1) := by decide +kernel
theorem dc_M_access_2 : decode bc_M_access 2 = .ok (.ifCond .lt 20, 3) := by decide +kernel
theorem dc_M_access_5 : decode bc_M_access 5 = .ok (.iload_n 1, 1) := by decide +kernel
theorem dc_M_access_6 : decode bc_M_access 6 = .ok (.sipush 4095, 3) := by decide +kernel
theorem dc_M_access_9 : decode bc_M_access 9 = .ok (.if_icmp .gt 13, 3) := by decide +kernel
theorem dc_M_access_12 : decode bc_M_access 12 = .ok (.iload_n 2, 1) := by decide +kernel
theorem dc_M_access_13 : decode bc_M_access 13 = .ok (.iconst 1, 1) := by decide +kernel
theorem dc_M_access_14 : decode bc_M_access 14 = .ok (.if_icmp .lt 8, 3) := by decide +kernel
theorem dc_M_access_17 : decode bc_M_access 17 = .ok (.iload_n 2, 1) := by decide +kernel
theorem dc_M_access_18 : decode bc_M_access 18 = .ok (.iconst 3, 1) := by decide +kernel
theorem dc_M_access_19 : decode bc_M_access 19 = .ok (.if_icmp .le 7, 3) := by decide +kernel
theorem dc_M_access_22 : decode bc_M_access 22 = .ok (.iconst 1, 1) := by decide +kernel
theorem dc_M_access_23 : decode bc_M_access 23 = .ok (.goto 4, 3) := by decide +kernel
theorem dc_M_access_26 : decode bc_M_access 26 = .ok (.iconst 0, 1) := by decide +kernel
theorem dc_M_access_27 : decode bc_M_access 27 = .ok (.putfield 24, 3) := by decide +kernel
theorem dc_M_access_30 : decode bc_M_access 30 = .ok (.aload_n 0, 1) := by decide +kernel
theorem dc_M_access_31 : decode bc_M_access 31 = .ok (.getfield 24, 3) := by decide +kernel
theorem dc_M_access_34 : decode bc_M_access 34 = .ok (.ifCond .le 5, 3) := by decide +kernel
theorem dc_M_access_37 : decode bc_M_access 37 = .ok (.iconst 0, 1) := by decide +kernel
theorem dc_M_access_38 : decode bc_M_access 38 = .ok (.ireturn, 1) := by decide +kernel
theorem dc_M_access_39 : decode bc_M_access 39 = .ok (.aload_n 0, 1) := by decide +kernel
theorem dc_M_access_40 : decode bc_M_access 40 = .ok (.iload_n 1, 1) := by decide +kernel
theorem dc_M_access_41 : decode bc_M_access 41 = .ok (.iload_n 3, 1) := by decide +kernel
theorem dc_M_access_42 : decode bc_M_access 42 = .ok (.invokevirtual 106, 3) := by decide +kernel
theorem dc_M_access_45 : decode bc_M_access 45 = .ok (.ifCond .eq 5, 3) := by decide +kernel
theorem dc_M_access_48 : decode bc_M_access 48 = .ok (.iconst 2, 1) := by decide +kernel
theorem dc_M_access_49 : decode bc_M_access 49 = .ok (.ireturn, 1) := by decide +kernel
theorem dc_M_access_50 : decode bc_M_access 50 = .ok (.iload_n 1, 1) := by decide +kernel
theorem dc_M_access_51 : decode bc_M_access 51 = .ok (.invokestatic 41, 3) := by decide +kernel
theorem dc_M_access_54 : decode bc_M_access 54 = .ok (.ifCond .eq 28, 3) := by decide +kernel
theorem dc_M_access_57 : decode bc_M_access 57 = .ok (.iload_n 3, 1) := by decide +kernel
theorem dc_M_access_58 : decode bc_M_access 58 = .ok (.ifCond .eq 22, 3) := by decide +kernel
theorem dc_M_access_61 : decode bc_M_access 61 = .ok (.iload_n 1, 1) := by decide +kernel
theorem dc_M_access_62 : decode bc_M_access 62 = .ok (.iconst 4, 1) := by decide +kernel
theorem dc_M_access_63 : decode bc_M_access 63 = .ok (.if_icmp .ge 17, 3) := by decide +kernel
theorem dc_M_access_66 : decode bc_M_access 66 = .ok (.aload_n 0, 1) := by decide +kernel
theorem dc_M_access_67 : decode bc_M_access 67 = .ok (.bipush 13, 2) := by decide +kernel
theorem dc_M_access_69 : decode bc_M_access 69 = .ok (.iconst 1, 1) := by decide +kernel
theorem dc_M_access_70 : decode bc_M_access 70 = .ok (.invokevirtual 78, 3) := by decide +kernel
theorem dc_M_access_73 : decode bc_M_access 73 = .ok (.aload_n 0, 1) := by decide +kernel
theorem dc_M_access_74 : decode bc_M_access 74 = .ok (.bipush 14, 2) := by decide +kernel
theorem dc_M_access_76 : decode bc_M_access 76 = .ok (.iconst 1, 1) := by decide +kernel
theorem dc_M_access_77 : decode bc_M_access 77 = .ok (.invokevirtual 78, 3) := by decide +kernel
theorem dc_M_access_80 : decode bc_M_access 80 = .ok (.iconst 1, 1) := by decide +kernel
theorem dc_M_access_81 : decode bc_M_access 81 = .ok (.ireturn, 1) := by decide +kernel
theorem dc_M_access_82 : decode bc_M_access 82 = .ok (.aload_n 0, 1) := by decide +kernel
theorem dc_M_access_83 : decode bc_M_access 83 = .ok (.aload_n 0, 1) := by decide +kernel
theorem dc_M_access_84 : decode bc_M_access 84 = .ok (.iload_n 1, 1) := by decide +kernel
theorem dc_M_access_85 : decode bc_M_access 85 = .ok (.invokevirtual 70, 3) := by decide +kernel
theorem dc_M_access_88 : decode bc_M_access 88 = .ok (.putfield 110, 3) := by decide +kernel
theorem dc_M_access_91 : decode bc_M_access 91 = .ok (.iload_n 1, 1) := by decide +kernel
theorem dc_M_access_92 : decode bc_M_access 92 = .ok (.sipush 836, 3) := by decide +kernel
theorem dc_M_access_95 : decode bc_M_access 95 = .ok (.if_icmp .ne 23, 3) := by decide +kernel
theorem dc_M_access_98 : decode bc_M_access 98 = .ok (.aload_n 0, 1) := by decide +kernel
theorem dc_M_access_99 : decode bc_M_access 99 = .ok (.getfield 13, 3) := by decide +kernel
theorem dc_M_access_102 : decode bc_M_access 102 = .ok (.sipush 836, 3) := by decide +kernel
theorem dc_M_access_105 : decode bc_M_access 105 = .ok (.laload, 1) := by decide +kernel
theorem dc_M_access_106 : decode bc_M_access 106 = .ok (.aload_n 0, 1) := by decide +kernel
theorem dc_M_access_107 : decode bc_M_access 107 = .ok (.invokevirtual 59, 3) := by decide +kernel
theorem dc_M_access_110 : decode bc_M_access 110 = .ok (.ldc2_w 113, 3) := by decide +kernel
theorem dc_M_access_113 : decode bc_M_access 113 = .ok (.land, 1) := by decide +kernel
theorem dc_M_access_114 : decode bc_M_access 114 = .ok (.lor, 1) := by decide +kernel
theorem dc_M_access_115 : decode bc_M_access 115 = .ok (.goto 7, 3) := by decide +kernel
theorem dc_M_access_118 : decode bc_M_access 118 = .ok (.aload_n 0, 1) := by decide +kernel
theorem dc_M_access_119 : decode bc_M_access 119 = .ok (.getfield 110, 3) := by decide +kernel
theorem dc_M_access_122 : decode bc_M_access 122 = .ok (.lstore 6, 2) := by decide +kernel
theorem dc_M_access_124 : decode bc_M_access 124 = .ok (.iload_n 3, 1) := by decide +kernel
theorem dc_M_access_125 : decode bc_M_access 125 = .ok (.ifCond .eq 40, 3) := by decide +kernel
theorem dc_M_access_128 : decode bc_M_access 128 = .ok (.aload_n 0, 1) := by decide +kernel
theorem dc_M_access_129 : decode bc_M_access 129 = .ok (.iload_n 1, 1) := by decide +kernel
theorem dc_M_access_130 : decode bc_M_access 130 = .ok (.iload_n 2, 1) := by decide +kernel
theorem dc_M_access_131 : decode bc_M_access 131 = .ok (.iconst 1, 1) := by decide +kernel
theorem dc_M_access_132 : decode bc_M_access 132 = .ok (.if_icmp .ne 8, 3) := by decide +kernel
theorem dc_M_access_135 : decode bc_M_access 135 = .ok (.lload 4, 2) := by decide +kernel
theorem dc_M_access_137 : decode bc_M_access 137 = .ok (.goto 25, 3) := by decide +kernel
theorem dc_M_access_140 : decode bc_M_access 140 = .ok (.iload_n 2, 1) := by decide +kernel
theorem dc_M_access_141 : decode bc_M_access 141 = .ok (.iconst 2, 1) := by decide +kernel
theorem dc_M_access_142 : decode bc_M_access 142 = .ok (.if_icmp .ne 11, 3) := by decide +kernel
theorem dc_M_access_145 : decode bc_M_access 145 = .ok (.lload 6, 2) := by decide +kernel
theorem dc_M_access_147 : decode bc_M_access 147 = .ok (.lload 4, 2) := by decide +kernel
theorem dc_M_access_149 : decode bc_M_access 149 = .ok (.lor, 1) := by decide +kernel
theorem dc_M_access_150 : decode bc_M_access 150 = .ok (.goto 12, 3) := by decide +kernel
theorem dc_M_access_153 : decode bc_M_access 153 = .ok (.lload 6, 2) := by decide +kernel
theorem dc_M_access_155 : decode bc_M_access 155 = .ok (.lload 4, 2) := by decide +kernel
theorem dc_M_access_157 : decode bc_M_access 157 = .ok (.ldc2_w 27, 3) := by decide +kernel
theorem dc_M_access_160 : decode bc_M_access 160 = .ok (.lxor, 1) := by decide +kernel
theorem dc_M_access_161 : decode bc_M_access 161 = .ok (.land, 1) := by decide +kernel
theorem dc_M_access_162 : decode bc_M_access 162 = .ok (.invokevirtual 115, 3) := by decide +kernel
theorem dc_M_access_165 : decode bc_M_access 165 = .ok (.iconst 0, 1) := by decide +kernel
theorem dc_M_access_166 : decode bc_M_access 166 = .ok (.ireturn, 1) := by decide +kernel
theorem dc_M_had_0 : decode bc_M_had 0 = .ok (.aload_n 0, 1) := by decide +kernel
theorem dc_M_had_1 : decode bc_M_had 1 = .ok (.iconst 0, 1) := by decide +kernel
theorem dc_M_had_2 : decode bc_M_had 2 = .ok (.putfield 24, 3) := by decide +kernel
theorem dc_M_had_5 : decode bc_M_had 5 = .ok (.aload_n 0, 1) := by decide +kernel
theorem dc_M_had_6 : decode bc_M_had 6 = .ok (.getfield 110, 3) := by decide +kernel
theorem dc_M_had_9 : decode bc_M_had 9 = .ok (.lreturn, 1) := by decide +kernel
theorem dc_M_beginning_0 : decode bc_M_beginning 0 = .ok (.lload_n 0, 1) := by decide +kernel
theorem dc_M_beginning_1 : decode bc_M_beginning 1 = .ok (.ldc2_w 119, 3) := by decide +kernel
theorem dc_M_beginning_4 : decode bc_M_beginning 4 = .ok (.land, 1) := by decide +kernel
theorem dc_M_beginning_5 : decode bc_M_beginning 5 = .ok (.lstore 4, 2) := by decide +kernel
theorem dc_M_beginning_7 : decode bc_M_beginning 7 = .ok (.iload_n 2, 1) := by decide +kernel
theorem dc_M_beginning_8 : decode bc_M_beginning 8 = .ok (.ifCond .eq 23, 3) := by decide +kernel
theorem dc_M_beginning_11 : decode bc_M_beginning 11 = .ok (.lload_n 0, 1) := by decide +kernel
theorem dc_M_beginning_12 : decode bc_M_beginning 12 = .ok (.lconst 1, 1) := by decide +kernel
theorem dc_M_beginning_13 : decode bc_M_beginning 13 = .ok (.land, 1) := by decide +kernel
theorem dc_M_beginning_14 : decode bc_M_beginning 14 = .ok (.lconst 1, 1) := by decide +kernel
theorem dc_M_beginning_15 : decode bc_M_beginning 15 = .ok (.lcmp, 1) := by decide +kernel
theorem dc_M_beginning_16 : decode bc_M_beginning 16 = .ok (.ifCond .ne 15, 3) := by decide +kernel
theorem dc_M_beginning_19 : decode bc_M_beginning 19 = .ok (.lload 4, 2) := by decide +kernel
theorem dc_M_beginning_21 : decode bc_M_beginning 21 = .ok (.ldc2_w 121, 3) := by decide +kernel
theorem dc_M_beginning_24 : decode bc_M_beginning 24 = .ok (.iload_n 3, 1) := by decide +kernel
theorem dc_M_beginning_25 : decode bc_M_beginning 25 = .ok (.i2l, 1) := by decide +kernel
theorem dc_M_beginning_26 : decode bc_M_beginning 26 = .ok (.lmul, 1) := by decide +kernel
theorem dc_M_beginning_27 : decode bc_M_beginning 27 = .ok (.ladd, 1) := by decide +kernel
theorem dc_M_beginning_28 : decode bc_M_beginning 28 = .ok (.goto 5, 3) := by decide +kernel
theorem dc_M_beginning_31 : decode bc_M_beginning 31 = .ok (.lload 4, 2) := by decide +kernel
theorem dc_M_beginning_33 : decode bc_M_beginning 33 = .ok (.lreturn, 1) := by decide +kernel
theorem dc_M_trap_0 : decode bc_M_trap 0 = .ok (.aload_n 0, 1) := by decide +kernel
theorem dc_M_trap_1 : decode bc_M_trap 1 = .ok (.iload_n 2, 1) := by decide +kernel
theorem dc_M_trap_2 : decode bc_M_trap 2 = .ok (.ifCond .lt 9, 3) := by decide +kernel
theorem dc_M_trap_5 : decode bc_M_trap 5 = .ok (.iload_n 2, 1) := by decide +kernel
theorem dc_M_trap_6 : decode bc_M_trap 6 = .ok (.bipush 63, 2) := by decide +kernel
theorem dc_M_trap_8 : decode bc_M_trap 8 = .ok (.if_icmp .le 7, 3) := by decide +kernel
theorem dc_M_trap_11 : decode bc_M_trap 11 = .ok (.iconst 1, 1) := by decide +kernel
theorem dc_M_trap_12 : decode bc_M_trap 12 = .ok (.goto 4, 3) := by decide +kernel
theorem dc_M_trap_15 : decode bc_M_trap 15 = .ok (.iconst 0, 1) := by decide +kernel
theorem dc_M_trap_16 : decode bc_M_trap 16 = .ok (.putfield 24, 3) := by decide +kernel
theorem dc_M_trap_19 : decode bc_M_trap 19 = .ok (.aload_n 0, 1) := by decide +kernel
theorem dc_M_trap_20 : decode bc_M_trap 20 = .ok (.getfield 24, 3) := by decide +kernel
theorem dc_M_trap_23 : decode bc_M_trap 23 = .ok (.ifCond .le 5, 3) := by decide +kernel
theorem dc_M_trap_26 : decode bc_M_trap 26 = .ok (.lconst 0, 1) := by decide +kernel
theorem dc_M_trap_27 : decode bc_M_trap 27 = .ok (.lreturn, 1) := by decide +kernel
theorem dc_M_trap_28 : decode bc_M_trap 28 = .ok (.iload_n 1, 1) := by decide +kernel
theorem dc_M_trap_29 : decode bc_M_trap 29 = .ok (.ifCond .eq 12, 3) := by decide +kernel
theorem dc_M_trap_32 : decode bc_M_trap 32 = .ok (.iload_n 2, 1) := by decide +kernel
theorem dc_M_trap_33 : decode bc_M_trap 33 = .ok (.i2l, 1) := by decide +kernel
theorem dc_M_trap_34 : decode bc_M_trap 34 = .ok (.ldc2_w 47, 3) := by decide +kernel
theorem dc_M_trap_37 : decode bc_M_trap 37 = .ok (.lor, 1) := by decide +kernel
theorem dc_M_trap_38 : decode bc_M_trap 38 = .ok (.goto 5, 3) := by decide +kernel
theorem dc_M_trap_41 : decode bc_M_trap 41 = .ok (.iload_n 2, 1) := by decide +kernel
theorem dc_M_trap_42 : decode bc_M_trap 42 = .ok (.i2l, 1) := by decide +kernel
theorem dc_M_trap_43 : decode bc_M_trap 43 = .ok (.lstore 7, 2) := by decide +kernel
theorem dc_M_trap_45 : decode bc_M_trap 45 = .ok (.aload_n 0, 1) := by decide +kernel
theorem dc_M_trap_46 : decode bc_M_trap 46 = .ok (.getfield 7, 3) := by decide +kernel
theorem dc_M_trap_49 : decode bc_M_trap 49 = .ok (.iconst 3, 1) := by decide +kernel
theorem dc_M_trap_50 : decode bc_M_trap 50 = .ok (.if_icmp .ge 34, 3) := by decide +kernel
theorem dc_M_trap_53 : decode bc_M_trap 53 = .ok (.aload_n 0, 1) := by decide +kernel
theorem dc_M_trap_54 : decode bc_M_trap 54 = .ok (.getfield 13, 3) := by decide +kernel
theorem dc_M_trap_57 : decode bc_M_trap 57 = .ok (.iload_n 1, 1) := by decide +kernel
theorem dc_M_trap_58 : decode bc_M_trap 58 = .ok (.ifCond .eq 9, 3) := by decide +kernel
theorem dc_M_trap_61 : decode bc_M_trap 61 = .ok (.sipush 771, 3) := by decide +kernel
theorem dc_M_trap_64 : decode bc_M_trap 64 = .ok (.goto 6, 3) := by decide +kernel
theorem dc_M_trap_67 : decode bc_M_trap 67 = .ok (.sipush 770, 3) := by decide +kernel
theorem dc_M_trap_70 : decode bc_M_trap 70 = .ok (.laload, 1) := by decide +kernel
theorem dc_M_trap_71 : decode bc_M_trap 71 = .ok (.iload_n 2, 1) := by decide +kernel
theorem dc_M_trap_72 : decode bc_M_trap 72 = .ok (.lshr, 1) := by decide +kernel
theorem dc_M_trap_73 : decode bc_M_trap 73 = .ok (.lconst 1, 1) := by decide +kernel
theorem dc_M_trap_74 : decode bc_M_trap 74 = .ok (.land, 1) := by decide +kernel
theorem dc_M_trap_75 : decode bc_M_trap 75 = .ok (.lconst 1, 1) := by decide +kernel
theorem dc_M_trap_76 : decode bc_M_trap 76 = .ok (.lcmp, 1) := by decide +kernel
theorem dc_M_trap_77 : decode bc_M_trap 77 = .ok (.ifCond .ne 7, 3) := by decide +kernel
theorem dc_M_trap_80 : decode bc_M_trap 80 = .ok (.iconst 1, 1) := by decide +kernel
theorem dc_M_trap_81 : decode bc_M_trap 81 = .ok (.goto 4, 3) := by decide +kernel
theorem dc_M_trap_84 : decode bc_M_trap 84 = .ok (.iconst 0, 1) := by decide +kernel
theorem dc_M_trap_85 : decode bc_M_trap 85 = .ok (.istore 9, 2) := by decide +kernel
theorem dc_M_trap_87 : decode bc_M_trap 87 = .ok (.iload 9, 2) := by decide +kernel
theorem dc_M_trap_89 : decode bc_M_trap 89 = .ok (.ifCond .eq 9, 3) := by decide +kernel
theorem dc_M_trap_92 : decode bc_M_trap 92 = .ok (.sipush 320, 3) := by decide +kernel
theorem dc_M_trap_95 : decode bc_M_trap 95 = .ok (.goto 6, 3) := by decide +kernel
theorem dc_M_trap_98 : decode bc_M_trap 98 = .ok (.sipush 832, 3) := by decide +kernel
theorem dc_M_trap_101 : decode bc_M_trap 101 = .ok (.istore 10, 2) := by decide +kernel
theorem dc_M_trap_103 : decode bc_M_trap 103 = .ok (.aload_n 0, 1) := by decide +kernel
theorem dc_M_trap_104 : decode bc_M_trap 104 = .ok (.getfield 13, 3) := by decide +kernel
theorem dc_M_trap_107 : decode bc_M_trap 107 = .ok (.iload 10, 2) := by decide +kernel
theorem dc_M_trap_109 : decode bc_M_trap 109 = .ok (.iconst 1, 1) := by decide +kernel
theorem dc_M_trap_110 : decode bc_M_trap 110 = .ok (.iadd, 1) := by decide +kernel
theorem dc_M_trap_111 : decode bc_M_trap 111 = .ok (.lload 5, 2) := by decide +kernel
theorem dc_M_trap_113 : decode bc_M_trap 113 = .ok (.ldc2_w 96, 3) := by decide +kernel
theorem dc_M_trap_116 : decode bc_M_trap 116 = .ok (.land, 1) := by decide +kernel
theorem dc_M_trap_117 : decode bc_M_trap 117 = .ok (.lastore, 1) := by decide +kernel
theorem dc_M_trap_118 : decode bc_M_trap 118 = .ok (.aload_n 0, 1) := by decide +kernel
theorem dc_M_trap_119 : decode bc_M_trap 119 = .ok (.getfield 13, 3) := by decide +kernel
theorem dc_M_trap_122 : decode bc_M_trap 122 = .ok (.iload 10, 2) := by decide +kernel
theorem dc_M_trap_124 : decode bc_M_trap 124 = .ok (.iconst 2, 1) := by decide +kernel
theorem dc_M_trap_125 : decode bc_M_trap 125 = .ok (.iadd, 1) := by decide +kernel
theorem dc_M_trap_126 : decode bc_M_trap 126 = .ok (.lload 7, 2) := by decide +kernel
theorem dc_M_trap_128 : decode bc_M_trap 128 = .ok (.lastore, 1) := by decide +kernel
theorem dc_M_trap_129 : decode bc_M_trap 129 = .ok (.aload_n 0, 1) := by decide +kernel
theorem dc_M_trap_130 : decode bc_M_trap 130 = .ok (.getfield 13, 3) := by decide +kernel
theorem dc_M_trap_133 : decode bc_M_trap 133 = .ok (.iload 10, 2) := by decide +kernel
theorem dc_M_trap_135 : decode bc_M_trap 135 = .ok (.iconst 3, 1) := by decide +kernel
theorem dc_M_trap_136 : decode bc_M_trap 136 = .ok (.iadd, 1) := by decide +kernel
theorem dc_M_trap_137 : decode bc_M_trap 137 = .ok (.lload_n 3, 1) := by decide +kernel
theorem dc_M_trap_138 : decode bc_M_trap 138 = .ok (.lastore, 1) := by decide +kernel
theorem dc_M_trap_139 : decode bc_M_trap 139 = .ok (.iload 9, 2) := by decide +kernel
theorem dc_M_trap_141 : decode bc_M_trap 141 = .ok (.ifCond .eq 37, 3) := by decide +kernel
theorem dc_M_trap_144 : decode bc_M_trap 144 = .ok (.aload_n 0, 1) := by decide +kernel
theorem dc_M_trap_145 : decode bc_M_trap 145 = .ok (.bipush 8, 2) := by decide +kernel
theorem dc_M_trap_147 : decode bc_M_trap 147 = .ok (.aload_n 0, 1) := by decide +kernel
theorem dc_M_trap_148 : decode bc_M_trap 148 = .ok (.getfield 7, 3) := by decide +kernel
theorem dc_M_trap_151 : decode bc_M_trap 151 = .ok (.invokevirtual 78, 3) := by decide +kernel
theorem dc_M_trap_154 : decode bc_M_trap 154 = .ok (.aload_n 0, 1) := by decide +kernel
theorem dc_M_trap_155 : decode bc_M_trap 155 = .ok (.iconst 5, 1) := by decide +kernel
theorem dc_M_trap_156 : decode bc_M_trap 156 = .ok (.aload_n 0, 1) := by decide +kernel
theorem dc_M_trap_157 : decode bc_M_trap 157 = .ok (.iconst 1, 1) := by decide +kernel
theorem dc_M_trap_158 : decode bc_M_trap 158 = .ok (.invokevirtual 29, 3) := by decide +kernel
theorem dc_M_trap_161 : decode bc_M_trap 161 = .ok (.invokevirtual 78, 3) := by decide +kernel
theorem dc_M_trap_164 : decode bc_M_trap 164 = .ok (.aload_n 0, 1) := by decide +kernel
theorem dc_M_trap_165 : decode bc_M_trap 165 = .ok (.iconst 1, 1) := by decide +kernel
theorem dc_M_trap_166 : decode bc_M_trap 166 = .ok (.iconst 0, 1) := by decide +kernel
theorem dc_M_trap_167 : decode bc_M_trap 167 = .ok (.invokevirtual 78, 3) := by decide +kernel
theorem dc_M_trap_170 : decode bc_M_trap 170 = .ok (.aload_n 0, 1) := by decide +kernel
theorem dc_M_trap_171 : decode bc_M_trap 171 = .ok (.iconst 1, 1) := by decide +kernel
theorem dc_M_trap_172 : decode bc_M_trap 172 = .ok (.putfield 7, 3) := by decide +kernel
theorem dc_M_trap_175 : decode bc_M_trap 175 = .ok (.goto 49, 3) := by decide +kernel
theorem dc_M_trap_178 : decode bc_M_trap 178 = .ok (.aload_n 0, 1) := by decide +kernel
theorem dc_M_trap_179 : decode bc_M_trap 179 = .ok (.bipush 11, 2) := by decide +kernel
theorem dc_M_trap_181 : decode bc_M_trap 181 = .ok (.aload_n 0, 1) := by decide +kernel
theorem dc_M_trap_182 : decode bc_M_trap 182 = .ok (.getfield 7, 3) := by decide +kernel
theorem dc_M_trap_185 : decode bc_M_trap 185 = .ok (.iconst 2, 1) := by decide +kernel
theorem dc_M_trap_186 : decode bc_M_trap 186 = .ok (.irem, 1) := by decide +kernel
theorem dc_M_trap_187 : decode bc_M_trap 187 = .ok (.invokevirtual 78, 3) := by decide +kernel
theorem dc_M_trap_190 : decode bc_M_trap 190 = .ok (.aload_n 0, 1) := by decide +kernel
theorem dc_M_trap_191 : decode bc_M_trap 191 = .ok (.bipush 12, 2) := by decide +kernel
theorem dc_M_trap_193 : decode bc_M_trap 193 = .ok (.aload_n 0, 1) := by decide +kernel
theorem dc_M_trap_194 : decode bc_M_trap 194 = .ok (.getfield 7, 3) := by decide +kernel
theorem dc_M_trap_197 : decode bc_M_trap 197 = .ok (.iconst 2, 1) := by decide +kernel
theorem dc_M_trap_198 : decode bc_M_trap 198 = .ok (.idiv, 1) := by decide +kernel
theorem dc_M_trap_199 : decode bc_M_trap 199 = .ok (.invokevirtual 78, 3) := by decide +kernel
theorem dc_M_trap_202 : decode bc_M_trap 202 = .ok (.aload_n 0, 1) := by decide +kernel
theorem dc_M_trap_203 : decode bc_M_trap 203 = .ok (.bipush 7, 2) := by decide +kernel
theorem dc_M_trap_205 : decode bc_M_trap 205 = .ok (.aload_n 0, 1) := by decide +kernel
theorem dc_M_trap_206 : decode bc_M_trap 206 = .ok (.iconst 3, 1) := by decide +kernel
theorem dc_M_trap_207 : decode bc_M_trap 207 = .ok (.invokevirtual 29, 3) := by decide +kernel
theorem dc_M_trap_210 : decode bc_M_trap 210 = .ok (.invokevirtual 78, 3) := by decide +kernel
theorem dc_M_trap_213 : decode bc_M_trap 213 = .ok (.aload_n 0, 1) := by decide +kernel
theorem dc_M_trap_214 : decode bc_M_trap 214 = .ok (.iconst 3, 1) := by decide +kernel
theorem dc_M_trap_215 : decode bc_M_trap 215 = .ok (.iconst 0, 1) := by decide +kernel
theorem dc_M_trap_216 : decode bc_M_trap 216 = .ok (.invokevirtual 78, 3) := by decide +kernel
theorem dc_M_trap_219 : decode bc_M_trap 219 = .ok (.aload_n 0, 1) := by decide +kernel
theorem dc_M_trap_220 : decode bc_M_trap 220 = .ok (.iconst 3, 1) := by decide +kernel
theorem dc_M_trap_221 : decode bc_M_trap 221 = .ok (.putfield 7, 3) := by decide +kernel
theorem dc_M_trap_224 : decode bc_M_trap 224 = .ok (.aload_n 0, 1) := by decide +kernel
theorem dc_M_trap_225 : decode bc_M_trap 225 = .ok (.aload_n 0, 1) := by decide +kernel
theorem dc_M_trap_226 : decode bc_M_trap 226 = .ok (.getfield 13, 3) := by decide +kernel
theorem dc_M_trap_229 : decode bc_M_trap 229 = .ok (.iload 9, 2) := by decide +kernel
theorem dc_M_trap_231 : decode bc_M_trap 231 = .ok (.ifCond .eq 9, 3) := by decide +kernel
theorem dc_M_trap_234 : decode bc_M_trap 234 = .ok (.sipush 261, 3) := by decide +kernel
theorem dc_M_trap_237 : decode bc_M_trap 237 = .ok (.goto 6, 3) := by decide +kernel
theorem dc_M_trap_240 : decode bc_M_trap 240 = .ok (.sipush 773, 3) := by decide +kernel
theorem dc_M_trap_243 : decode bc_M_trap 243 = .ok (.laload, 1) := by decide +kernel
theorem dc_M_trap_244 : decode bc_M_trap 244 = .ok (.iload_n 1, 1) := by decide +kernel
theorem dc_M_trap_245 : decode bc_M_trap 245 = .ok (.iload_n 2, 1) := by decide +kernel
theorem dc_M_trap_246 : decode bc_M_trap 246 = .ok (.invokestatic 123, 3) := by decide +kernel
theorem dc_M_trap_249 : decode bc_M_trap 249 = .ok (.putfield 127, 3) := by decide +kernel
theorem dc_M_trap_252 : decode bc_M_trap 252 = .ok (.aload_n 0, 1) := by decide +kernel
theorem dc_M_trap_253 : decode bc_M_trap 253 = .ok (.getfield 127, 3) := by decide +kernel
theorem dc_M_trap_256 : decode bc_M_trap 256 = .ok (.lreturn, 1) := by decide +kernel
theorem dc_M_back_0 : decode bc_M_back 0 = .ok (.aload_n 0, 1) := by decide +kernel
theorem dc_M_back_1 : decode bc_M_back 1 = .ok (.iconst 0, 1) := by decide +kernel
theorem dc_M_back_2 : decode bc_M_back 2 = .ok (.putfield 24, 3) := by decide +kernel
theorem dc_M_back_5 : decode bc_M_back 5 = .ok (.aload_n 0, 1) := by decide +kernel
theorem dc_M_back_6 : decode bc_M_back 6 = .ok (.getfield 7, 3) := by decide +kernel
theorem dc_M_back_9 : decode bc_M_back 9 = .ok (.iconst 3, 1) := by decide +kernel
theorem dc_M_back_10 : decode bc_M_back 10 = .ok (.if_icmp .eq 24, 3) := by decide +kernel
theorem dc_M_back_13 : decode bc_M_back 13 = .ok (.iload_n 1, 1) := by decide +kernel
theorem dc_M_back_14 : decode bc_M_back 14 = .ok (.ifCond .ne 24, 3) := by decide +kernel
theorem dc_M_back_17 : decode bc_M_back 17 = .ok (.aload_n 0, 1) := by decide +kernel
theorem dc_M_back_18 : decode bc_M_back 18 = .ok (.getfield 7, 3) := by decide +kernel
theorem dc_M_back_21 : decode bc_M_back 21 = .ok (.iconst 1, 1) := by decide +kernel
theorem dc_M_back_22 : decode bc_M_back 22 = .ok (.if_icmp .ne 16, 3) := by decide +kernel
theorem dc_M_back_25 : decode bc_M_back 25 = .ok (.aload_n 0, 1) := by decide +kernel
theorem dc_M_back_26 : decode bc_M_back 26 = .ok (.bipush 22, 2) := by decide +kernel
theorem dc_M_back_28 : decode bc_M_back 28 = .ok (.invokevirtual 29, 3) := by decide +kernel
theorem dc_M_back_31 : decode bc_M_back 31 = .ok (.ifCond .ne 7, 3) := by decide +kernel
theorem dc_M_back_34 : decode bc_M_back 34 = .ok (.iconst 1, 1) := by decide +kernel
theorem dc_M_back_35 : decode bc_M_back 35 = .ok (.goto 4, 3) := by decide +kernel
theorem dc_M_back_38 : decode bc_M_back 38 = .ok (.iconst 0, 1) := by decide +kernel
theorem dc_M_back_39 : decode bc_M_back 39 = .ok (.istore_n 2, 1) := by decide +kernel
theorem dc_M_back_40 : decode bc_M_back 40 = .ok (.iload_n 2, 1) := by decide +kernel
theorem dc_M_back_41 : decode bc_M_back 41 = .ok (.ifCond .ne 5, 3) := by decide +kernel
theorem dc_M_back_44 : decode bc_M_back 44 = .ok (.iconst 0, 1) := by decide +kernel
theorem dc_M_back_45 : decode bc_M_back 45 = .ok (.ireturn, 1) := by decide +kernel
theorem dc_M_back_46 : decode bc_M_back 46 = .ok (.iload_n 1, 1) := by decide +kernel
theorem dc_M_back_47 : decode bc_M_back 47 = .ok (.ifCond .eq 7, 3) := by decide +kernel
theorem dc_M_back_50 : decode bc_M_back 50 = .ok (.iconst 3, 1) := by decide +kernel
theorem dc_M_back_51 : decode bc_M_back 51 = .ok (.goto 4, 3) := by decide +kernel
theorem dc_M_back_54 : decode bc_M_back 54 = .ok (.iconst 1, 1) := by decide +kernel
theorem dc_M_back_55 : decode bc_M_back 55 = .ok (.istore_n 3, 1) := by decide +kernel
theorem dc_M_back_56 : decode bc_M_back 56 = .ok (.aload_n 0, 1) := by decide +kernel
theorem dc_M_back_57 : decode bc_M_back 57 = .ok (.iload_n 3, 1) := by decide +kernel
theorem dc_M_back_58 : decode bc_M_back 58 = .ok (.aload_n 0, 1) := by decide +kernel
theorem dc_M_back_59 : decode bc_M_back 59 = .ok (.iload_n 3, 1) := by decide +kernel
theorem dc_M_back_60 : decode bc_M_back 60 = .ok (.iconst 4, 1) := by decide +kernel
theorem dc_M_back_61 : decode bc_M_back 61 = .ok (.iadd, 1) := by decide +kernel
theorem dc_M_back_62 : decode bc_M_back 62 = .ok (.invokevirtual 29, 3) := by decide +kernel
theorem dc_M_back_65 : decode bc_M_back 65 = .ok (.invokevirtual 78, 3) := by decide +kernel
theorem dc_M_back_68 : decode bc_M_back 68 = .ok (.aload_n 0, 1) := by decide +kernel
theorem dc_M_back_69 : decode bc_M_back 69 = .ok (.iload_n 3, 1) := by decide +kernel
theorem dc_M_back_70 : decode bc_M_back 70 = .ok (.iconst 4, 1) := by decide +kernel
theorem dc_M_back_71 : decode bc_M_back 71 = .ok (.iadd, 1) := by decide +kernel
theorem dc_M_back_72 : decode bc_M_back 72 = .ok (.iconst 1, 1) := by decide +kernel
theorem dc_M_back_73 : decode bc_M_back 73 = .ok (.invokevirtual 78, 3) := by decide +kernel
theorem dc_M_back_76 : decode bc_M_back 76 = .ok (.aload_n 0, 1) := by decide +kernel
theorem dc_M_back_77 : decode bc_M_back 77 = .ok (.iload_n 1, 1) := by decide +kernel
theorem dc_M_back_78 : decode bc_M_back 78 = .ok (.ifCond .eq 10, 3) := by decide +kernel
theorem dc_M_back_81 : decode bc_M_back 81 = .ok (.aload_n 0, 1) := by decide +kernel
theorem dc_M_back_82 : decode bc_M_back 82 = .ok (.invokevirtual 33, 3) := by decide +kernel
theorem dc_M_back_85 : decode bc_M_back 85 = .ok (.goto 9, 3) := by decide +kernel
theorem dc_M_back_88 : decode bc_M_back 88 = .ok (.aload_n 0, 1) := by decide +kernel
theorem dc_M_back_89 : decode bc_M_back 89 = .ok (.bipush 8, 2) := by decide +kernel
theorem dc_M_back_91 : decode bc_M_back 91 = .ok (.invokevirtual 29, 3) := by decide +kernel
theorem dc_M_back_94 : decode bc_M_back 94 = .ok (.putfield 7, 3) := by decide +kernel
theorem dc_M_back_97 : decode bc_M_back 97 = .ok (.iload_n 1, 1) := by decide +kernel
theorem dc_M_back_98 : decode bc_M_back 98 = .ok (.ifCond .eq 20, 3) := by decide +kernel
theorem dc_M_back_101 : decode bc_M_back 101 = .ok (.aload_n 0, 1) := by decide +kernel
theorem dc_M_back_102 : decode bc_M_back 102 = .ok (.bipush 11, 2) := by decide +kernel
theorem dc_M_back_104 : decode bc_M_back 104 = .ok (.iconst 0, 1) := by decide +kernel
theorem dc_M_back_105 : decode bc_M_back 105 = .ok (.invokevirtual 78, 3) := by decide +kernel
theorem dc_M_back_108 : decode bc_M_back 108 = .ok (.aload_n 0, 1) := by decide +kernel
theorem dc_M_back_109 : decode bc_M_back 109 = .ok (.bipush 12, 2) := by decide +kernel
theorem dc_M_back_111 : decode bc_M_back 111 = .ok (.iconst 0, 1) := by decide +kernel
theorem dc_M_back_112 : decode bc_M_back 112 = .ok (.invokevirtual 78, 3) := by decide +kernel
theorem dc_M_back_115 : decode bc_M_back 115 = .ok (.goto 10, 3) := by decide +kernel
theorem dc_M_back_118 : decode bc_M_back 118 = .ok (.aload_n 0, 1) := by decide +kernel
theorem dc_M_back_119 : decode bc_M_back 119 = .ok (.bipush 8, 2) := by decide +kernel
theorem dc_M_back_121 : decode bc_M_back 121 = .ok (.iconst 0, 1) := by decide +kernel
theorem dc_M_back_122 : decode bc_M_back 122 = .ok (.invokevirtual 78, 3) := by decide +kernel
theorem dc_M_back_125 : decode bc_M_back 125 = .ok (.aload_n 0, 1) := by decide +kernel
theorem dc_M_back_126 : decode bc_M_back 126 = .ok (.getfield 7, 3) := by decide +kernel
theorem dc_M_back_129 : decode bc_M_back 129 = .ok (.iconst 3, 1) := by decide +kernel
theorem dc_M_back_130 : decode bc_M_back 130 = .ok (.if_icmp .ge 10, 3) := by decide +kernel
theorem dc_M_back_133 : decode bc_M_back 133 = .ok (.aload_n 0, 1) := by decide +kernel
theorem dc_M_back_134 : decode bc_M_back 134 = .ok (.bipush 17, 2) := by decide +kernel
theorem dc_M_back_136 : decode bc_M_back 136 = .ok (.iconst 0, 1) := by decide +kernel
theorem dc_M_back_137 : decode bc_M_back 137 = .ok (.invokevirtual 78, 3) := by decide +kernel
theorem dc_M_back_140 : decode bc_M_back 140 = .ok (.aload_n 0, 1) := by decide +kernel
theorem dc_M_back_141 : decode bc_M_back 141 = .ok (.aload_n 0, 1) := by decide +kernel
theorem dc_M_back_142 : decode bc_M_back 142 = .ok (.getfield 13, 3) := by decide +kernel
theorem dc_M_back_145 : decode bc_M_back 145 = .ok (.iload_n 1, 1) := by decide +kernel
theorem dc_M_back_146 : decode bc_M_back 146 = .ok (.ifCond .eq 9, 3) := by decide +kernel
theorem dc_M_back_149 : decode bc_M_back 149 = .ok (.sipush 833, 3) := by decide +kernel
theorem dc_M_back_152 : decode bc_M_back 152 = .ok (.goto 6, 3) := by decide +kernel
theorem dc_M_back_155 : decode bc_M_back 155 = .ok (.sipush 321, 3) := by decide +kernel
theorem dc_M_back_158 : decode bc_M_back 158 = .ok (.laload, 1) := by decide +kernel
theorem dc_M_back_159 : decode bc_M_back 159 = .ok (.putfield 127, 3) := by decide +kernel
theorem dc_M_back_162 : decode bc_M_back 162 = .ok (.iconst 1, 1) := by decide +kernel
theorem dc_M_back_163 : decode bc_M_back 163 = .ok (.ireturn, 1) := by decide +kernel
theorem dc_M_place_0 : decode bc_M_place 0 = .ok (.aload_n 0, 1) := by decide +kernel
theorem dc_M_place_1 : decode bc_M_place 1 = .ok (.iconst 0, 1) := by decide +kernel
theorem dc_M_place_2 : decode bc_M_place 2 = .ok (.putfield 24, 3) := by decide +kernel
theorem dc_M_place_5 : decode bc_M_place 5 = .ok (.aload_n 0, 1) := by decide +kernel
theorem dc_M_place_6 : decode bc_M_place 6 = .ok (.getfield 127, 3) := by decide +kernel
theorem dc_M_place_9 : decode bc_M_place 9 = .ok (.lreturn, 1) := by decide +kernel
theorem dc_M_isPending_0 : decode bc_M_isPending 0 = .ok (.aload_n 0, 1) := by decide +kernel
theorem dc_M_isPending_1 : decode bc_M_isPending 1 = .ok (.sipush 836, 3) := by decide +kernel
theorem dc_M_isPending_4 : decode bc_M_isPending 4 = .ok (.invokevirtual 70, 3) := by decide +kernel
theorem dc_M_isPending_7 : decode bc_M_isPending 7 = .ok (.aload_n 0, 1) := by decide +kernel
theorem dc_M_isPending_8 : decode bc_M_isPending 8 = .ok (.getfield 13, 3) := by decide +kernel
theorem dc_M_isPending_11 : decode bc_M_isPending 11 = .ok (.sipush 772, 3) := by decide +kernel
theorem dc_M_isPending_14 : decode bc_M_isPending 14 = .ok (.laload, 1) := by decide +kernel
theorem dc_M_isPending_15 : decode bc_M_isPending 15 = .ok (.land, 1) := by decide +kernel
theorem dc_M_isPending_16 : decode bc_M_isPending 16 = .ok (.lconst 1, 1) := by decide +kernel
theorem dc_M_isPending_17 : decode bc_M_isPending 17 = .ok (.iload_n 1, 1) := by decide +kernel
theorem dc_M_isPending_18 : decode bc_M_isPending 18 = .ok (.lshl, 1) := by decide +kernel
theorem dc_M_isPending_19 : decode bc_M_isPending 19 = .ok (.land, 1) := by decide +kernel
theorem dc_M_isPending_20 : decode bc_M_isPending 20 = .ok (.lconst 0, 1) := by decide +kernel
theorem dc_M_isPending_21 : decode bc_M_isPending 21 = .ok (.lcmp, 1) := by decide +kernel
theorem dc_M_isPending_22 : decode bc_M_isPending 22 = .ok (.ifCond .eq 7, 3) := by decide +kernel
theorem dc_M_isPending_25 : decode bc_M_isPending 25 = .ok (.iconst 1, 1) := by decide +kernel
theorem dc_M_isPending_26 : decode bc_M_isPending 26 = .ok (.goto 4, 3) := by decide +kernel
theorem dc_M_isPending_29 : decode bc_M_isPending 29 = .ok (.iconst 0, 1) := by decide +kernel
theorem dc_M_isPending_30 : decode bc_M_isPending 30 = .ok (.ireturn, 1) := by decide +kernel
theorem dc_M_mayBe_0 : decode bc_M_mayBe 0 = .ok (.aload_n 0, 1) := by decide +kernel
theorem dc_M_mayBe_1 : decode bc_M_mayBe 1 = .ok (.getfield 13, 3) := by decide +kernel
theorem dc_M_mayBe_4 : decode bc_M_mayBe 4 = .ok (.sipush 771, 3) := by decide +kernel
theorem dc_M_mayBe_7 : decode bc_M_mayBe 7 = .ok (.laload, 1) := by decide +kernel
theorem dc_M_mayBe_8 : decode bc_M_mayBe 8 = .ok (.iload_n 1, 1) := by decide +kernel
theorem dc_M_mayBe_9 : decode bc_M_mayBe 9 = .ok (.lshr, 1) := by decide +kernel
theorem dc_M_mayBe_10 : decode bc_M_mayBe 10 = .ok (.lconst 1, 1) := by decide +kernel
theorem dc_M_mayBe_11 : decode bc_M_mayBe 11 = .ok (.land, 1) := by decide +kernel
theorem dc_M_mayBe_12 : decode bc_M_mayBe 12 = .ok (.lconst 1, 1) := by decide +kernel
theorem dc_M_mayBe_13 : decode bc_M_mayBe 13 = .ok (.lcmp, 1) := by decide +kernel
theorem dc_M_mayBe_14 : decode bc_M_mayBe 14 = .ok (.ifCond .ne 7, 3) := by decide +kernel
theorem dc_M_mayBe_17 : decode bc_M_mayBe 17 = .ok (.iconst 1, 1) := by decide +kernel
theorem dc_M_mayBe_18 : decode bc_M_mayBe 18 = .ok (.goto 4, 3) := by decide +kernel
theorem dc_M_mayBe_21 : decode bc_M_mayBe 21 = .ok (.iconst 0, 1) := by decide +kernel
theorem dc_M_mayBe_22 : decode bc_M_mayBe 22 = .ok (.istore_n 3, 1) := by decide +kernel
theorem dc_M_mayBe_23 : decode bc_M_mayBe 23 = .ok (.iload_n 2, 1) := by decide +kernel
theorem dc_M_mayBe_24 : decode bc_M_mayBe 24 = .ok (.ifCond .eq 35, 3) := by decide +kernel
theorem dc_M_mayBe_27 : decode bc_M_mayBe 27 = .ok (.aload_n 0, 1) := by decide +kernel
theorem dc_M_mayBe_28 : decode bc_M_mayBe 28 = .ok (.getfield 7, 3) := by decide +kernel
theorem dc_M_mayBe_31 : decode bc_M_mayBe 31 = .ok (.ifCond .eq 20, 3) := by decide +kernel
theorem dc_M_mayBe_34 : decode bc_M_mayBe 34 = .ok (.aload_n 0, 1) := by decide +kernel
theorem dc_M_mayBe_35 : decode bc_M_mayBe 35 = .ok (.getfield 7, 3) := by decide +kernel
theorem dc_M_mayBe_38 : decode bc_M_mayBe 38 = .ok (.iconst 1, 1) := by decide +kernel
theorem dc_M_mayBe_39 : decode bc_M_mayBe 39 = .ok (.if_icmp .ne 16, 3) := by decide +kernel
theorem dc_M_mayBe_42 : decode bc_M_mayBe 42 = .ok (.aload_n 0, 1) := by decide +kernel
theorem dc_M_mayBe_43 : decode bc_M_mayBe 43 = .ok (.iconst 1, 1) := by decide +kernel
theorem dc_M_mayBe_44 : decode bc_M_mayBe 44 = .ok (.invokevirtual 29, 3) := by decide +kernel
theorem dc_M_mayBe_47 : decode bc_M_mayBe 47 = .ok (.iconst 1, 1) := by decide +kernel
theorem dc_M_mayBe_48 : decode bc_M_mayBe 48 = .ok (.if_icmp .ne 7, 3) := by decide +kernel
theorem dc_M_mayBe_51 : decode bc_M_mayBe 51 = .ok (.iconst 1, 1) := by decide +kernel
theorem dc_M_mayBe_52 : decode bc_M_mayBe 52 = .ok (.goto 29, 3) := by decide +kernel
theorem dc_M_mayBe_55 : decode bc_M_mayBe 55 = .ok (.iconst 0, 1) := by decide +kernel
theorem dc_M_mayBe_56 : decode bc_M_mayBe 56 = .ok (.goto 25, 3) := by decide +kernel
theorem dc_M_mayBe_59 : decode bc_M_mayBe 59 = .ok (.aload_n 0, 1) := by decide +kernel
theorem dc_M_mayBe_60 : decode bc_M_mayBe 60 = .ok (.getfield 7, 3) := by decide +kernel
theorem dc_M_mayBe_63 : decode bc_M_mayBe 63 = .ok (.iconst 3, 1) := by decide +kernel
theorem dc_M_mayBe_64 : decode bc_M_mayBe 64 = .ok (.if_icmp .lt 12, 3) := by decide +kernel
theorem dc_M_mayBe_67 : decode bc_M_mayBe 67 = .ok (.aload_n 0, 1) := by decide +kernel
theorem dc_M_mayBe_68 : decode bc_M_mayBe 68 = .ok (.iconst 3, 1) := by decide +kernel
theorem dc_M_mayBe_69 : decode bc_M_mayBe 69 = .ok (.invokevirtual 29, 3) := by decide +kernel
theorem dc_M_mayBe_72 : decode bc_M_mayBe 72 = .ok (.iconst 1, 1) := by decide +kernel
theorem dc_M_mayBe_73 : decode bc_M_mayBe 73 = .ok (.if_icmp .ne 7, 3) := by decide +kernel
theorem dc_M_mayBe_76 : decode bc_M_mayBe 76 = .ok (.iconst 1, 1) := by decide +kernel
theorem dc_M_mayBe_77 : decode bc_M_mayBe 77 = .ok (.goto 4, 3) := by decide +kernel
theorem dc_M_mayBe_80 : decode bc_M_mayBe 80 = .ok (.iconst 0, 1) := by decide +kernel
theorem dc_M_mayBe_81 : decode bc_M_mayBe 81 = .ok (.istore 4, 2) := by decide +kernel
theorem dc_M_mayBe_83 : decode bc_M_mayBe 83 = .ok (.aload_n 0, 1) := by decide +kernel
theorem dc_M_mayBe_84 : decode bc_M_mayBe 84 = .ok (.iload_n 1, 1) := by decide +kernel
theorem dc_M_mayBe_85 : decode bc_M_mayBe 85 = .ok (.invokevirtual 130, 3) := by decide +kernel
theorem dc_M_mayBe_88 : decode bc_M_mayBe 88 = .ok (.ifCond .eq 17, 3) := by decide +kernel
theorem dc_M_mayBe_91 : decode bc_M_mayBe 91 = .ok (.iload_n 3, 1) := by decide +kernel
theorem dc_M_mayBe_92 : decode bc_M_mayBe 92 = .ok (.iload_n 2, 1) := by decide +kernel
theorem dc_M_mayBe_93 : decode bc_M_mayBe 93 = .ok (.if_icmp .ne 12, 3) := by decide +kernel
theorem dc_M_mayBe_96 : decode bc_M_mayBe 96 = .ok (.iload 4, 2) := by decide +kernel
theorem dc_M_mayBe_98 : decode bc_M_mayBe 98 = .ok (.ifCond .eq 7, 3) := by decide +kernel
theorem dc_M_mayBe_101 : decode bc_M_mayBe 101 = .ok (.iconst 1, 1) := by decide +kernel
theorem dc_M_mayBe_102 : decode bc_M_mayBe 102 = .ok (.goto 4, 3) := by decide +kernel
theorem dc_M_mayBe_105 : decode bc_M_mayBe 105 = .ok (.iconst 0, 1) := by decide +kernel
theorem dc_M_mayBe_106 : decode bc_M_mayBe 106 = .ok (.ireturn, 1) := by decide +kernel
theorem dc_M_first_0 : decode bc_M_first 0 = .ok (.iconst 0, 1) := by decide +kernel
theorem dc_M_first_1 : decode bc_M_first 1 = .ok (.istore_n 2, 1) := by decide +kernel
theorem dc_M_first_2 : decode bc_M_first 2 = .ok (.iload_n 2, 1) := by decide +kernel
theorem dc_M_first_3 : decode bc_M_first 3 = .ok (.bipush 6, 2) := by decide +kernel
theorem dc_M_first_5 : decode bc_M_first 5 = .ok (.if_icmp .ge 69, 3) := by decide +kernel
theorem dc_M_first_8 : decode bc_M_first 8 = .ok (.iload_n 2, 1) := by decide +kernel
theorem dc_M_first_9 : decode bc_M_first 9 = .ok (.ifCond .ne 8, 3) := by decide +kernel
theorem dc_M_first_12 : decode bc_M_first 12 = .ok (.bipush 11, 2) := by decide +kernel
theorem dc_M_first_14 : decode bc_M_first 14 = .ok (.goto 42, 3) := by decide +kernel
theorem dc_M_first_17 : decode bc_M_first 17 = .ok (.iload_n 2, 1) := by decide +kernel
theorem dc_M_first_18 : decode bc_M_first 18 = .ok (.iconst 1, 1) := by decide +kernel
theorem dc_M_first_19 : decode bc_M_first 19 = .ok (.if_icmp .ne 7, 3) := by decide +kernel
theorem dc_M_first_22 : decode bc_M_first 22 = .ok (.iconst 3, 1) := by decide +kernel
theorem dc_M_first_23 : decode bc_M_first 23 = .ok (.goto 33, 3) := by decide +kernel
theorem dc_M_first_26 : decode bc_M_first 26 = .ok (.iload_n 2, 1) := by decide +kernel
theorem dc_M_first_27 : decode bc_M_first 27 = .ok (.iconst 2, 1) := by decide +kernel
theorem dc_M_first_28 : decode bc_M_first 28 = .ok (.if_icmp .ne 8, 3) := by decide +kernel
theorem dc_M_first_31 : decode bc_M_first 31 = .ok (.bipush 7, 2) := by decide +kernel
theorem dc_M_first_33 : decode bc_M_first 33 = .ok (.goto 23, 3) := by decide +kernel
theorem dc_M_first_36 : decode bc_M_first 36 = .ok (.iload_n 2, 1) := by decide +kernel
theorem dc_M_first_37 : decode bc_M_first 37 = .ok (.iconst 3, 1) := by decide +kernel
theorem dc_M_first_38 : decode bc_M_first 38 = .ok (.if_icmp .ne 8, 3) := by decide +kernel
theorem dc_M_first_41 : decode bc_M_first 41 = .ok (.bipush 9, 2) := by decide +kernel
theorem dc_M_first_43 : decode bc_M_first 43 = .ok (.goto 13, 3) := by decide +kernel
theorem dc_M_first_46 : decode bc_M_first 46 = .ok (.iload_n 2, 1) := by decide +kernel
theorem dc_M_first_47 : decode bc_M_first 47 = .ok (.iconst 4, 1) := by decide +kernel
theorem dc_M_first_48 : decode bc_M_first 48 = .ok (.if_icmp .ne 7, 3) := by decide +kernel
theorem dc_M_first_51 : decode bc_M_first 51 = .ok (.iconst 1, 1) := by decide +kernel
theorem dc_M_first_52 : decode bc_M_first 52 = .ok (.goto 4, 3) := by decide +kernel
theorem dc_M_first_55 : decode bc_M_first 55 = .ok (.iconst 5, 1) := by decide +kernel
theorem dc_M_first_56 : decode bc_M_first 56 = .ok (.istore_n 3, 1) := by decide +kernel
theorem dc_M_first_57 : decode bc_M_first 57 = .ok (.aload_n 0, 1) := by decide +kernel
theorem dc_M_first_58 : decode bc_M_first 58 = .ok (.iload_n 3, 1) := by decide +kernel
theorem dc_M_first_59 : decode bc_M_first 59 = .ok (.iload_n 1, 1) := by decide +kernel
theorem dc_M_first_60 : decode bc_M_first 60 = .ok (.invokevirtual 133, 3) := by decide +kernel
theorem dc_M_first_63 : decode bc_M_first 63 = .ok (.ifCond .eq 5, 3) := by decide +kernel
theorem dc_M_first_66 : decode bc_M_first 66 = .ok (.iload_n 3, 1) := by decide +kernel
theorem dc_M_first_67 : decode bc_M_first 67 = .ok (.ireturn, 1) := by decide +kernel
theorem dc_M_first_68 : decode bc_M_first 68 = .ok (.iinc 2 1, 3) := by decide +kernel
theorem dc_M_first_71 : decode bc_M_first 71 = .ok (.goto (-69), 3) := by decide +kernel
theorem dc_M_first_74 : decode bc_M_first 74 = .ok (.iconst (-1), 1) := by decide +kernel
theorem dc_M_first_75 : decode bc_M_first 75 = .ok (.ireturn, 1) := by decide +kernel
theorem dc_M_taken_0 : decode bc_M_taken 0 = .ok (.aload_n 0, 1) := by decide +kernel
theorem dc_M_taken_1 : decode bc_M_taken 1 = .ok (.iconst 0, 1) := by decide +kernel
theorem dc_M_taken_2 : decode bc_M_taken 2 = .ok (.putfield 24, 3) := by decide +kernel
theorem dc_M_taken_5 : decode bc_M_taken 5 = .ok (.aload_n 0, 1) := by decide +kernel
theorem dc_M_taken_6 : decode bc_M_taken 6 = .ok (.iconst 0, 1) := by decide +kernel
theorem dc_M_taken_7 : decode bc_M_taken 7 = .ok (.invokevirtual 136, 3) := by decide +kernel
theorem dc_M_taken_10 : decode bc_M_taken 10 = .ok (.istore_n 1, 1) := by decide +kernel
theorem dc_M_taken_11 : decode bc_M_taken 11 = .ok (.iload_n 1, 1) := by decide +kernel
theorem dc_M_taken_12 : decode bc_M_taken 12 = .ok (.ifCond .lt 7, 3) := by decide +kernel
theorem dc_M_taken_15 : decode bc_M_taken 15 = .ok (.iload_n 1, 1) := by decide +kernel
theorem dc_M_taken_16 : decode bc_M_taken 16 = .ok (.goto 8, 3) := by decide +kernel
theorem dc_M_taken_19 : decode bc_M_taken 19 = .ok (.aload_n 0, 1) := by decide +kernel
theorem dc_M_taken_20 : decode bc_M_taken 20 = .ok (.iconst 1, 1) := by decide +kernel
theorem dc_M_taken_21 : decode bc_M_taken 21 = .ok (.invokevirtual 136, 3) := by decide +kernel
theorem dc_M_taken_24 : decode bc_M_taken 24 = .ok (.ireturn, 1) := by decide +kernel
theorem dc_M_wakes_0 : decode bc_M_wakes 0 = .ok (.aload_n 0, 1) := by decide +kernel
theorem dc_M_wakes_1 : decode bc_M_wakes 1 = .ok (.iconst 0, 1) := by decide +kernel
theorem dc_M_wakes_2 : decode bc_M_wakes 2 = .ok (.putfield 24, 3) := by decide +kernel
theorem dc_M_wakes_5 : decode bc_M_wakes 5 = .ok (.aload_n 0, 1) := by decide +kernel
theorem dc_M_wakes_6 : decode bc_M_wakes 6 = .ok (.sipush 836, 3) := by decide +kernel
theorem dc_M_wakes_9 : decode bc_M_wakes 9 = .ok (.invokevirtual 70, 3) := by decide +kernel
theorem dc_M_wakes_12 : decode bc_M_wakes 12 = .ok (.aload_n 0, 1) := by decide +kernel
theorem dc_M_wakes_13 : decode bc_M_wakes 13 = .ok (.getfield 13, 3) := by decide +kernel
theorem dc_M_wakes_16 : decode bc_M_wakes 16 = .ok (.sipush 772, 3) := by decide +kernel
theorem dc_M_wakes_19 : decode bc_M_wakes 19 = .ok (.laload, 1) := by decide +kernel
theorem dc_M_wakes_20 : decode bc_M_wakes 20 = .ok (.land, 1) := by decide +kernel
theorem dc_M_wakes_21 : decode bc_M_wakes 21 = .ok (.lconst 0, 1) := by decide +kernel
theorem dc_M_wakes_22 : decode bc_M_wakes 22 = .ok (.lcmp, 1) := by decide +kernel
theorem dc_M_wakes_23 : decode bc_M_wakes 23 = .ok (.ifCond .eq 7, 3) := by decide +kernel
theorem dc_M_wakes_26 : decode bc_M_wakes 26 = .ok (.iconst 1, 1) := by decide +kernel
theorem dc_M_wakes_27 : decode bc_M_wakes 27 = .ok (.goto 4, 3) := by decide +kernel
theorem dc_M_wakes_30 : decode bc_M_wakes 30 = .ok (.iconst 0, 1) := by decide +kernel
theorem dc_M_wakes_31 : decode bc_M_wakes 31 = .ok (.ireturn, 1) := by decide +kernel
theorem dc_M_line_0 : decode bc_M_line 0 = .ok (.aload_n 0, 1) := by decide +kernel
theorem dc_M_line_1 : decode bc_M_line 1 = .ok (.iload_n 1, 1) := by decide +kernel
theorem dc_M_line_2 : decode bc_M_line 2 = .ok (.iconst 3, 1) := by decide +kernel
theorem dc_M_line_3 : decode bc_M_line 3 = .ok (.if_icmp .eq 21, 3) := by decide +kernel
theorem dc_M_line_6 : decode bc_M_line 6 = .ok (.iload_n 1, 1) := by decide +kernel
theorem dc_M_line_7 : decode bc_M_line 7 = .ok (.bipush 7, 2) := by decide +kernel
theorem dc_M_line_9 : decode bc_M_line 9 = .ok (.if_icmp .eq 15, 3) := by decide +kernel
theorem dc_M_line_12 : decode bc_M_line 12 = .ok (.iload_n 1, 1) := by decide +kernel
theorem dc_M_line_13 : decode bc_M_line 13 = .ok (.bipush 9, 2) := by decide +kernel
theorem dc_M_line_15 : decode bc_M_line 15 = .ok (.if_icmp .eq 9, 3) := by decide +kernel
theorem dc_M_line_18 : decode bc_M_line 18 = .ok (.iload_n 1, 1) := by decide +kernel
theorem dc_M_line_19 : decode bc_M_line 19 = .ok (.bipush 11, 2) := by decide +kernel
theorem dc_M_line_21 : decode bc_M_line 21 = .ok (.if_icmp .ne 7, 3) := by decide +kernel
theorem dc_M_line_24 : decode bc_M_line 24 = .ok (.iconst 0, 1) := by decide +kernel
theorem dc_M_line_25 : decode bc_M_line 25 = .ok (.goto 4, 3) := by decide +kernel
theorem dc_M_line_28 : decode bc_M_line 28 = .ok (.iconst 1, 1) := by decide +kernel
theorem dc_M_line_29 : decode bc_M_line 29 = .ok (.putfield 24, 3) := by decide +kernel
theorem dc_M_line_32 : decode bc_M_line 32 = .ok (.aload_n 0, 1) := by decide +kernel
theorem dc_M_line_33 : decode bc_M_line 33 = .ok (.getfield 24, 3) := by decide +kernel
theorem dc_M_line_36 : decode bc_M_line 36 = .ok (.ifCond .ne 10, 3) := by decide +kernel
theorem dc_M_line_39 : decode bc_M_line 39 = .ok (.aload_n 0, 1) := by decide +kernel
theorem dc_M_line_40 : decode bc_M_line 40 = .ok (.getfield 17, 3) := by decide +kernel
theorem dc_M_line_43 : decode bc_M_line 43 = .ok (.iload_n 1, 1) := by decide +kernel
theorem dc_M_line_44 : decode bc_M_line 44 = .ok (.iload_n 2, 1) := by decide +kernel
theorem dc_M_line_45 : decode bc_M_line 45 = .ok (.bastore, 1) := by decide +kernel
theorem dc_M_line_46 : decode bc_M_line 46 = .ok (.return_, 1) := by decide +kernel
theorem dc_M_allowed_0 : decode bc_M_allowed 0 = .ok (.aload_n 0, 1) := by decide +kernel
theorem dc_M_allowed_1 : decode bc_M_allowed 1 = .ok (.iload_n 1, 1) := by decide +kernel
theorem dc_M_allowed_2 : decode bc_M_allowed 2 = .ok (.ifCond .eq 8, 3) := by decide +kernel
theorem dc_M_allowed_5 : decode bc_M_allowed 5 = .ok (.iload_n 1, 1) := by decide +kernel
theorem dc_M_allowed_6 : decode bc_M_allowed 6 = .ok (.iconst 1, 1) := by decide +kernel
theorem dc_M_allowed_7 : decode bc_M_allowed 7 = .ok (.if_icmp .ne 7, 3) := by decide +kernel
theorem dc_M_allowed_10 : decode bc_M_allowed 10 = .ok (.iconst 0, 1) := by decide +kernel
theorem dc_M_allowed_11 : decode bc_M_allowed 11 = .ok (.goto 4, 3) := by decide +kernel
theorem dc_M_allowed_14 : decode bc_M_allowed 14 = .ok (.iconst 1, 1) := by decide +kernel
theorem dc_M_allowed_15 : decode bc_M_allowed 15 = .ok (.putfield 24, 3) := by decide +kernel
theorem dc_M_allowed_18 : decode bc_M_allowed 18 = .ok (.aload_n 0, 1) := by decide +kernel
theorem dc_M_allowed_19 : decode bc_M_allowed 19 = .ok (.getfield 24, 3) := by decide +kernel
theorem dc_M_allowed_22 : decode bc_M_allowed 22 = .ok (.ifCond .ne 41, 3) := by decide +kernel
theorem dc_M_allowed_25 : decode bc_M_allowed 25 = .ok (.aload_n 0, 1) := by decide +kernel
theorem dc_M_allowed_26 : decode bc_M_allowed 26 = .ok (.getfield 7, 3) := by decide +kernel
theorem dc_M_allowed_29 : decode bc_M_allowed 29 = .ok (.iconst 3, 1) := by decide +kernel
theorem dc_M_allowed_30 : decode bc_M_allowed 30 = .ok (.if_icmp .eq 29, 3) := by decide +kernel
theorem dc_M_allowed_33 : decode bc_M_allowed 33 = .ok (.aload_n 0, 1) := by decide +kernel
theorem dc_M_allowed_34 : decode bc_M_allowed 34 = .ok (.getfield 7, 3) := by decide +kernel
theorem dc_M_allowed_37 : decode bc_M_allowed 37 = .ok (.iconst 1, 1) := by decide +kernel
theorem dc_M_allowed_38 : decode bc_M_allowed 38 = .ok (.if_icmp .ne 25, 3) := by decide +kernel
theorem dc_M_allowed_41 : decode bc_M_allowed 41 = .ok (.aload_n 0, 1) := by decide +kernel
theorem dc_M_allowed_42 : decode bc_M_allowed 42 = .ok (.iload_n 1, 1) := by decide +kernel
theorem dc_M_allowed_43 : decode bc_M_allowed 43 = .ok (.ifCond .ne 8, 3) := by decide +kernel
theorem dc_M_allowed_46 : decode bc_M_allowed 46 = .ok (.bipush 21, 2) := by decide +kernel
theorem dc_M_allowed_48 : decode bc_M_allowed 48 = .ok (.goto 5, 3) := by decide +kernel
theorem dc_M_allowed_51 : decode bc_M_allowed 51 = .ok (.bipush 20, 2) := by decide +kernel
theorem dc_M_allowed_53 : decode bc_M_allowed 53 = .ok (.invokevirtual 29, 3) := by decide +kernel
theorem dc_M_allowed_56 : decode bc_M_allowed 56 = .ok (.ifCond .ne 7, 3) := by decide +kernel
theorem dc_M_allowed_59 : decode bc_M_allowed 59 = .ok (.iconst 1, 1) := by decide +kernel
theorem dc_M_allowed_60 : decode bc_M_allowed 60 = .ok (.goto 4, 3) := by decide +kernel
theorem dc_M_allowed_63 : decode bc_M_allowed 63 = .ok (.iconst 0, 1) := by decide +kernel
theorem dc_M_allowed_64 : decode bc_M_allowed 64 = .ok (.ireturn, 1) := by decide +kernel
theorem dc_M_floats_0 : decode bc_M_floats 0 = .ok (.aload_n 0, 1) := by decide +kernel
theorem dc_M_floats_1 : decode bc_M_floats 1 = .ok (.iconst 0, 1) := by decide +kernel
theorem dc_M_floats_2 : decode bc_M_floats 2 = .ok (.putfield 24, 3) := by decide +kernel
theorem dc_M_floats_5 : decode bc_M_floats 5 = .ok (.aload_n 0, 1) := by decide +kernel
theorem dc_M_floats_6 : decode bc_M_floats 6 = .ok (.invokevirtual 44, 3) := by decide +kernel
theorem dc_M_floats_9 : decode bc_M_floats 9 = .ok (.ifCond .le 7, 3) := by decide +kernel
theorem dc_M_floats_12 : decode bc_M_floats 12 = .ok (.iconst 1, 1) := by decide +kernel
theorem dc_M_floats_13 : decode bc_M_floats 13 = .ok (.goto 4, 3) := by decide +kernel
theorem dc_M_floats_16 : decode bc_M_floats 16 = .ok (.iconst 0, 1) := by decide +kernel
theorem dc_M_floats_17 : decode bc_M_floats 17 = .ok (.ireturn, 1) := by decide +kernel
theorem dc_M_dirty_0 : decode bc_M_dirty 0 = .ok (.aload_n 0, 1) := by decide +kernel
theorem dc_M_dirty_1 : decode bc_M_dirty 1 = .ok (.iconst 0, 1) := by decide +kernel
theorem dc_M_dirty_2 : decode bc_M_dirty 2 = .ok (.putfield 24, 3) := by decide +kernel
theorem dc_M_dirty_5 : decode bc_M_dirty 5 = .ok (.aload_n 0, 1) := by decide +kernel
theorem dc_M_dirty_6 : decode bc_M_dirty 6 = .ok (.invokevirtual 44, 3) := by decide +kernel
theorem dc_M_dirty_9 : decode bc_M_dirty 9 = .ok (.ifCond .le 17, 3) := by decide +kernel
theorem dc_M_dirty_12 : decode bc_M_dirty 12 = .ok (.aload_n 0, 1) := by decide +kernel
theorem dc_M_dirty_13 : decode bc_M_dirty 13 = .ok (.bipush 13, 2) := by decide +kernel
theorem dc_M_dirty_15 : decode bc_M_dirty 15 = .ok (.iconst 1, 1) := by decide +kernel
theorem dc_M_dirty_16 : decode bc_M_dirty 16 = .ok (.invokevirtual 78, 3) := by decide +kernel
theorem dc_M_dirty_19 : decode bc_M_dirty 19 = .ok (.aload_n 0, 1) := by decide +kernel
theorem dc_M_dirty_20 : decode bc_M_dirty 20 = .ok (.bipush 14, 2) := by decide +kernel
theorem dc_M_dirty_22 : decode bc_M_dirty 22 = .ok (.iconst 1, 1) := by decide +kernel
theorem dc_M_dirty_23 : decode bc_M_dirty 23 = .ok (.invokevirtual 78, 3) := by decide +kernel
theorem dc_M_dirty_26 : decode bc_M_dirty 26 = .ok (.return_, 1) := by decide +kernel
theorem dc_M_count_0 : decode bc_M_count 0 = .ok (.aload_n 0, 1) := by decide +kernel
theorem dc_M_count_1 : decode bc_M_count 1 = .ok (.iconst 0, 1) := by decide +kernel
theorem dc_M_count_2 : decode bc_M_count 2 = .ok (.putfield 24, 3) := by decide +kernel
theorem dc_M_count_5 : decode bc_M_count 5 = .ok (.aload_n 0, 1) := by decide +kernel
theorem dc_M_count_6 : decode bc_M_count 6 = .ok (.getfield 13, 3) := by decide +kernel
theorem dc_M_count_9 : decode bc_M_count 9 = .ok (.sipush 2816, 3) := by decide +kernel
theorem dc_M_count_12 : decode bc_M_count 12 = .ok (.aload_n 0, 1) := by decide +kernel
theorem dc_M_count_13 : decode bc_M_count 13 = .ok (.getfield 13, 3) := by decide +kernel
theorem dc_M_count_16 : decode bc_M_count 16 = .ok (.sipush 2816, 3) := by decide +kernel
theorem dc_M_count_19 : decode bc_M_count 19 = .ok (.laload, 1) := by decide +kernel
theorem dc_M_count_20 : decode bc_M_count 20 = .ok (.lload_n 1, 1) := by decide +kernel
theorem dc_M_count_21 : decode bc_M_count 21 = .ok (.ladd, 1) := by decide +kernel
theorem dc_M_count_22 : decode bc_M_count 22 = .ok (.lastore, 1) := by decide +kernel
theorem dc_M_count_23 : decode bc_M_count 23 = .ok (.aload_n 0, 1) := by decide +kernel
theorem dc_M_count_24 : decode bc_M_count 24 = .ok (.getfield 13, 3) := by decide +kernel
theorem dc_M_count_27 : decode bc_M_count 27 = .ok (.sipush 2818, 3) := by decide +kernel
theorem dc_M_count_30 : decode bc_M_count 30 = .ok (.aload_n 0, 1) := by decide +kernel
theorem dc_M_count_31 : decode bc_M_count 31 = .ok (.getfield 13, 3) := by decide +kernel
theorem dc_M_count_34 : decode bc_M_count 34 = .ok (.sipush 2818, 3) := by decide +kernel
theorem dc_M_count_37 : decode bc_M_count 37 = .ok (.laload, 1) := by decide +kernel
theorem dc_M_count_38 : decode bc_M_count 38 = .ok (.lload_n 3, 1) := by decide +kernel
theorem dc_M_count_39 : decode bc_M_count 39 = .ok (.ladd, 1) := by decide +kernel
theorem dc_M_count_40 : decode bc_M_count 40 = .ok (.lastore, 1) := by decide +kernel
theorem dc_M_count_41 : decode bc_M_count 41 = .ok (.return_, 1) := by decide +kernel
theorem dc_M_time_0 : decode bc_M_time 0 = .ok (.aload_n 0, 1) := by decide +kernel
theorem dc_M_time_1 : decode bc_M_time 1 = .ok (.iconst 0, 1) := by decide +kernel
theorem dc_M_time_2 : decode bc_M_time 2 = .ok (.putfield 24, 3) := by decide +kernel
theorem dc_M_time_5 : decode bc_M_time 5 = .ok (.aload_n 0, 1) := by decide +kernel
theorem dc_M_time_6 : decode bc_M_time 6 = .ok (.lload_n 1, 1) := by decide +kernel
theorem dc_M_time_7 : decode bc_M_time 7 = .ok (.putfield 63, 3) := by decide +kernel
theorem dc_M_time_10 : decode bc_M_time 10 = .ok (.return_, 1) := by decide +kernel
