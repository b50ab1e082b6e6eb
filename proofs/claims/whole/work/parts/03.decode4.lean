theorem d_I_sort_2 : decode b_I_sort 2 = .ok (.ireturn, 1) := by decide +kernel
theorem d_I_type_0 : decode b_I_type 0 = .ok (.iconst 5, 1) := by decide +kernel
theorem d_I_type_1 : decode b_I_type 1 = .ok (.ireturn, 1) := by decide +kernel
theorem d_I_pick_0 : decode b_I_pick 0 = .ok (.aload_n 0, 1) := by decide +kernel
theorem d_I_pick_1 : decode b_I_pick 1 = .ok (.getfield 9, 3) := by decide +kernel
theorem d_I_pick_4 : decode b_I_pick 4 = .ok (.aload_n 1, 1) := by decide +kernel
theorem d_I_pick_5 : decode b_I_pick 5 = .ok (.getfield 9, 3) := by decide +kernel
theorem d_I_pick_8 : decode b_I_pick 8 = .ok (.isub, 1) := by decide +kernel
theorem d_I_pick_9 : decode b_I_pick 9 = .ok (.ireturn, 1) := by decide +kernel
theorem d_I_read_0 : decode b_I_read 0 = .ok (.iload_n 1, 1) := by decide +kernel
theorem d_I_read_1 : decode b_I_read 1 = .ok (.tableswitch 96 0 6 #[43, 53, 63, 73, 78, 83, 88], 43) := by decide +kernel
theorem d_I_read_44 : decode b_I_read 44 = .ok (.iconst 4, 1) := by decide +kernel
theorem d_I_read_45 : decode b_I_read 45 = .ok (.aload_n 0, 1) := by decide +kernel
theorem d_I_read_46 : decode b_I_read 46 = .ok (.getfield 9, 3) := by decide +kernel
theorem d_I_read_49 : decode b_I_read 49 = .ok (.i2l, 1) := by decide +kernel
theorem d_I_read_50 : decode b_I_read 50 = .ok (.invokestatic 15, 3) := by decide +kernel
theorem d_I_read_53 : decode b_I_read 53 = .ok (.areturn, 1) := by decide +kernel
theorem d_I_read_54 : decode b_I_read 54 = .ok (.iconst 1, 1) := by decide +kernel
theorem d_I_read_55 : decode b_I_read 55 = .ok (.aload_n 0, 1) := by decide +kernel
theorem d_I_read_56 : decode b_I_read 56 = .ok (.getfield 19, 3) := by decide +kernel
theorem d_I_read_59 : decode b_I_read 59 = .ok (.i2l, 1) := by decide +kernel
theorem d_I_read_60 : decode b_I_read 60 = .ok (.invokestatic 15, 3) := by decide +kernel
theorem d_I_read_63 : decode b_I_read 63 = .ok (.areturn, 1) := by decide +kernel
theorem d_I_read_64 : decode b_I_read 64 = .ok (.bipush 7, 2) := by decide +kernel
theorem d_I_read_66 : decode b_I_read 66 = .ok (.aload_n 0, 1) := by decide +kernel
theorem d_I_read_67 : decode b_I_read 67 = .ok (.getfield 23, 3) := by decide +kernel
theorem d_I_read_70 : decode b_I_read 70 = .ok (.invokestatic 27, 3) := by decide +kernel
theorem d_I_read_73 : decode b_I_read 73 = .ok (.areturn, 1) := by decide +kernel
theorem d_I_read_74 : decode b_I_read 74 = .ok (.aload_n 0, 1) := by decide +kernel
theorem d_I_read_75 : decode b_I_read 75 = .ok (.getfield 31, 3) := by decide +kernel
theorem d_I_read_78 : decode b_I_read 78 = .ok (.areturn, 1) := by decide +kernel
theorem d_I_read_79 : decode b_I_read 79 = .ok (.aload_n 0, 1) := by decide +kernel
theorem d_I_read_80 : decode b_I_read 80 = .ok (.getfield 35, 3) := by decide +kernel
theorem d_I_read_83 : decode b_I_read 83 = .ok (.areturn, 1) := by decide +kernel
theorem d_I_read_84 : decode b_I_read 84 = .ok (.aload_n 0, 1) := by decide +kernel
theorem d_I_read_85 : decode b_I_read 85 = .ok (.getfield 39, 3) := by decide +kernel
theorem d_I_read_88 : decode b_I_read 88 = .ok (.areturn, 1) := by decide +kernel
theorem d_I_read_89 : decode b_I_read 89 = .ok (.iconst 4, 1) := by decide +kernel
theorem d_I_read_90 : decode b_I_read 90 = .ok (.ldc2_w 43, 3) := by decide +kernel
theorem d_I_read_93 : decode b_I_read 93 = .ok (.invokestatic 15, 3) := by decide +kernel
theorem d_I_read_96 : decode b_I_read 96 = .ok (.areturn, 1) := by decide +kernel
theorem d_I_read_97 : decode b_I_read 97 = .ok (.aconst_null, 1) := by decide +kernel
theorem d_I_read_98 : decode b_I_read 98 = .ok (.areturn, 1) := by decide +kernel
theorem d_I_write_0 : decode b_I_write 0 = .ok (.iload_n 1, 1) := by decide +kernel
theorem d_I_write_1 : decode b_I_write 1 = .ok (.tableswitch 105 0 5 #[39, 51, 64, 75, 86, 94], 39) := by decide +kernel
theorem d_I_write_40 : decode b_I_write 40 = .ok (.aload_n 0, 1) := by decide +kernel
theorem d_I_write_41 : decode b_I_write 41 = .ok (.aload_n 2, 1) := by decide +kernel
theorem d_I_write_42 : decode b_I_write 42 = .ok (.invokestatic 45, 3) := by decide +kernel
theorem d_I_write_45 : decode b_I_write 45 = .ok (.l2i, 1) := by decide +kernel
theorem d_I_write_46 : decode b_I_write 46 = .ok (.putfield 9, 3) := by decide +kernel
theorem d_I_write_49 : decode b_I_write 49 = .ok (.goto 57, 3) := by decide +kernel
theorem d_I_write_52 : decode b_I_write 52 = .ok (.aload_n 0, 1) := by decide +kernel
theorem d_I_write_53 : decode b_I_write 53 = .ok (.aload_n 2, 1) := by decide +kernel
theorem d_I_write_54 : decode b_I_write 54 = .ok (.invokestatic 45, 3) := by decide +kernel
theorem d_I_write_57 : decode b_I_write 57 = .ok (.l2i, 1) := by decide +kernel
theorem d_I_write_58 : decode b_I_write 58 = .ok (.i2b, 1) := by decide +kernel
theorem d_I_write_59 : decode b_I_write 59 = .ok (.putfield 19, 3) := by decide +kernel
theorem d_I_write_62 : decode b_I_write 62 = .ok (.goto 44, 3) := by decide +kernel
theorem d_I_write_65 : decode b_I_write 65 = .ok (.aload_n 0, 1) := by decide +kernel
theorem d_I_write_66 : decode b_I_write 66 = .ok (.aload_n 2, 1) := by decide +kernel
theorem d_I_write_67 : decode b_I_write 67 = .ok (.invokestatic 49, 3) := by decide +kernel
theorem d_I_write_70 : decode b_I_write 70 = .ok (.putfield 23, 3) := by decide +kernel
theorem d_I_write_73 : decode b_I_write 73 = .ok (.goto 33, 3) := by decide +kernel
theorem d_I_write_76 : decode b_I_write 76 = .ok (.aload_n 0, 1) := by decide +kernel
theorem d_I_write_77 : decode b_I_write 77 = .ok (.aload_n 2, 1) := by decide +kernel
theorem d_I_write_78 : decode b_I_write 78 = .ok (.invokestatic 53, 3) := by decide +kernel
theorem d_I_write_81 : decode b_I_write 81 = .ok (.putfield 31, 3) := by decide +kernel
theorem d_I_write_84 : decode b_I_write 84 = .ok (.goto 22, 3) := by decide +kernel
theorem d_I_write_87 : decode b_I_write 87 = .ok (.aload_n 0, 1) := by decide +kernel
theorem d_I_write_88 : decode b_I_write 88 = .ok (.aload_n 2, 1) := by decide +kernel
theorem d_I_write_89 : decode b_I_write 89 = .ok (.putfield 35, 3) := by decide +kernel
theorem d_I_write_92 : decode b_I_write 92 = .ok (.goto 14, 3) := by decide +kernel
theorem d_I_write_95 : decode b_I_write 95 = .ok (.aload_n 0, 1) := by decide +kernel
theorem d_I_write_96 : decode b_I_write 96 = .ok (.aload_n 2, 1) := by decide +kernel
theorem d_I_write_97 : decode b_I_write 97 = .ok (.invokestatic 57, 3) := by decide +kernel
theorem d_I_write_100 : decode b_I_write 100 = .ok (.putfield 39, 3) := by decide +kernel
theorem d_I_write_103 : decode b_I_write 103 = .ok (.goto 3, 3) := by decide +kernel
theorem d_I_write_106 : decode b_I_write 106 = .ok (.return_, 1) := by decide +kernel
theorem d_P_init_0 : decode b_P_init 0 = .ok (.aload_n 0, 1) := by decide +kernel
theorem d_P_init_1 : decode b_P_init 1 = .ok (.invokespecial 3, 3) := by decide +kernel
theorem d_P_init_4 : decode b_P_init 4 = .ok (.return_, 1) := by decide +kernel
theorem d_P_sort_0 : decode b_P_sort 0 = .ok (.bipush 12, 2) := by decide +kernel
theorem d_P_sort_2 : decode b_P_sort 2 = .ok (.ireturn, 1) := by decide +kernel
theorem d_P_type_0 : decode b_P_type 0 = .ok (.iconst 0, 1) := by decide +kernel
theorem d_P_type_1 : decode b_P_type 1 = .ok (.ireturn, 1) := by decide +kernel
theorem d_S_init_0 : decode b_S_init 0 = .ok (.aload_n 0, 1) := by decide +kernel
theorem d_S_init_1 : decode b_S_init 1 = .ok (.iload_n 1, 1) := by decide +kernel
theorem d_S_init_2 : decode b_S_init 2 = .ok (.iconst 1, 1) := by decide +kernel
theorem d_S_init_3 : decode b_S_init 3 = .ok (.iadd, 1) := by decide +kernel
theorem d_S_init_4 : decode b_S_init 4 = .ok (.invokespecial 3, 3) := by decide +kernel
theorem d_S_init_7 : decode b_S_init 7 = .ok (.aload_n 0, 1) := by decide +kernel
theorem d_S_init_8 : decode b_S_init 8 = .ok (.iconst 5, 1) := by decide +kernel
theorem d_S_init_9 : decode b_S_init 9 = .ok (.putfield 9, 3) := by decide +kernel
theorem d_S_init_12 : decode b_S_init 12 = .ok (.return_, 1) := by decide +kernel
theorem d_S_sort_0 : decode b_S_sort 0 = .ok (.bipush 11, 2) := by decide +kernel
theorem d_S_sort_2 : decode b_S_sort 2 = .ok (.ireturn, 1) := by decide +kernel
theorem d_S_type_0 : decode b_S_type 0 = .ok (.bipush 6, 2) := by decide +kernel
theorem d_S_type_2 : decode b_S_type 2 = .ok (.ireturn, 1) := by decide +kernel
theorem d_S_pick_0 : decode b_S_pick 0 = .ok (.aload_n 0, 1) := by decide +kernel
theorem d_S_pick_1 : decode b_S_pick 1 = .ok (.getfield 9, 3) := by decide +kernel
theorem d_S_pick_4 : decode b_S_pick 4 = .ok (.aload_n 1, 1) := by decide +kernel
theorem d_S_pick_5 : decode b_S_pick 5 = .ok (.getfield 15, 3) := by decide +kernel
theorem d_S_pick_8 : decode b_S_pick 8 = .ok (.iadd, 1) := by decide +kernel
theorem d_S_pick_9 : decode b_S_pick 9 = .ok (.ireturn, 1) := by decide +kernel
theorem d_S_read_0 : decode b_S_read 0 = .ok (.iload_n 1, 1) := by decide +kernel
theorem d_S_read_1 : decode b_S_read 1 = .ok (.bipush 8, 2) := by decide +kernel
theorem d_S_read_3 : decode b_S_read 3 = .ok (.if_icmp .ne 15, 3) := by decide +kernel
theorem d_S_read_6 : decode b_S_read 6 = .ok (.iconst 3, 1) := by decide +kernel
theorem d_S_read_7 : decode b_S_read 7 = .ok (.aload_n 0, 1) := by decide +kernel
theorem d_S_read_8 : decode b_S_read 8 = .ok (.getfield 9, 3) := by decide +kernel
theorem d_S_read_11 : decode b_S_read 11 = .ok (.i2l, 1) := by decide +kernel
theorem d_S_read_12 : decode b_S_read 12 = .ok (.invokestatic 19, 3) := by decide +kernel
theorem d_S_read_15 : decode b_S_read 15 = .ok (.goto 8, 3) := by decide +kernel
theorem d_S_read_18 : decode b_S_read 18 = .ok (.aload_n 0, 1) := by decide +kernel
theorem d_S_read_19 : decode b_S_read 19 = .ok (.iload_n 1, 1) := by decide +kernel
theorem d_S_read_20 : decode b_S_read 20 = .ok (.invokespecial 23, 3) := by decide +kernel
theorem d_S_read_23 : decode b_S_read 23 = .ok (.areturn, 1) := by decide +kernel
theorem d_S_write_0 : decode b_S_write 0 = .ok (.iload_n 1, 1) := by decide +kernel
theorem d_S_write_1 : decode b_S_write 1 = .ok (.bipush 8, 2) := by decide +kernel
theorem d_S_write_3 : decode b_S_write 3 = .ok (.if_icmp .ne 16, 3) := by decide +kernel
theorem d_S_write_6 : decode b_S_write 6 = .ok (.aload_n 0, 1) := by decide +kernel
theorem d_S_write_7 : decode b_S_write 7 = .ok (.aload_n 2, 1) := by decide +kernel
theorem d_S_write_8 : decode b_S_write 8 = .ok (.invokestatic 27, 3) := by decide +kernel
theorem d_S_write_11 : decode b_S_write 11 = .ok (.l2i, 1) := by decide +kernel
theorem d_S_write_12 : decode b_S_write 12 = .ok (.i2s, 1) := by decide +kernel
theorem d_S_write_13 : decode b_S_write 13 = .ok (.putfield 9, 3) := by decide +kernel
theorem d_S_write_16 : decode b_S_write 16 = .ok (.goto 9, 3) := by decide +kernel
theorem d_S_write_19 : decode b_S_write 19 = .ok (.aload_n 0, 1) := by decide +kernel
theorem d_S_write_20 : decode b_S_write 20 = .ok (.iload_n 1, 1) := by decide +kernel
theorem d_S_write_21 : decode b_S_write 21 = .ok (.aload_n 2, 1) := by decide +kernel
theorem d_S_write_22 : decode b_S_write 22 = .ok (.invokespecial 31, 3) := by decide +kernel
theorem d_S_write_25 : decode b_S_write 25 = .ok (.return_, 1) := by decide +kernel
theorem d_T_init_0 : decode b_T_init 0 = .ok (.aload_n 0, 1) := by decide +kernel
theorem d_T_init_1 : decode b_T_init 1 = .ok (.invokespecial 3, 3) := by decide +kernel
theorem d_T_init_4 : decode b_T_init 4 = .ok (.aload_n 0, 1) := by decide +kernel
theorem d_T_init_5 : decode b_T_init 5 = .ok (.iload_n 1, 1) := by decide +kernel
theorem d_T_init_6 : decode b_T_init 6 = .ok (.putfield 9, 3) := by decide +kernel
theorem d_T_init_9 : decode b_T_init 9 = .ok (.return_, 1) := by decide +kernel
theorem d_T_sort_0 : decode b_T_sort 0 = .ok (.bipush 9, 2) := by decide +kernel
theorem d_T_sort_2 : decode b_T_sort 2 = .ok (.ireturn, 1) := by decide +kernel
theorem d_T_type_0 : decode b_T_type 0 = .ok (.iconst 3, 1) := by decide +kernel
theorem d_T_type_1 : decode b_T_type 1 = .ok (.ireturn, 1) := by decide +kernel
theorem d_T_told_0 : decode b_T_told 0 = .ok (.aload_n 0, 1) := by decide +kernel
theorem d_T_told_1 : decode b_T_told 1 = .ok (.getfield 9, 3) := by decide +kernel
theorem d_T_told_4 : decode b_T_told 4 = .ok (.i2l, 1) := by decide +kernel
theorem d_T_told_5 : decode b_T_told 5 = .ok (.lreturn, 1) := by decide +kernel
theorem d_J_floorMod_0 : decode b_J_floorMod 0 = .ok (.lload_n 0, 1) := by decide +kernel
theorem d_J_floorMod_1 : decode b_J_floorMod 1 = .ok (.lload_n 2, 1) := by decide +kernel
theorem d_J_floorMod_2 : decode b_J_floorMod 2 = .ok (.lrem, 1) := by decide +kernel
theorem d_J_floorMod_3 : decode b_J_floorMod 3 = .ok (.lstore 4, 2) := by decide +kernel
theorem d_J_floorMod_5 : decode b_J_floorMod 5 = .ok (.lload_n 0, 1) := by decide +kernel
theorem d_J_floorMod_6 : decode b_J_floorMod 6 = .ok (.lload_n 2, 1) := by decide +kernel
theorem d_J_floorMod_7 : decode b_J_floorMod 7 = .ok (.lxor, 1) := by decide +kernel
theorem d_J_floorMod_8 : decode b_J_floorMod 8 = .ok (.lconst 0, 1) := by decide +kernel
theorem d_J_floorMod_9 : decode b_J_floorMod 9 = .ok (.lcmp, 1) := by decide +kernel
theorem d_J_floorMod_10 : decode b_J_floorMod 10 = .ok (.ifCond .ge 15, 3) := by decide +kernel
theorem d_J_floorMod_13 : decode b_J_floorMod 13 = .ok (.lload 4, 2) := by decide +kernel
theorem d_J_floorMod_15 : decode b_J_floorMod 15 = .ok (.lconst 0, 1) := by decide +kernel
theorem d_J_floorMod_16 : decode b_J_floorMod 16 = .ok (.lcmp, 1) := by decide +kernel
theorem d_J_floorMod_17 : decode b_J_floorMod 17 = .ok (.ifCond .eq 8, 3) := by decide +kernel
theorem d_J_floorMod_20 : decode b_J_floorMod 20 = .ok (.lload 4, 2) := by decide +kernel
theorem d_J_floorMod_22 : decode b_J_floorMod 22 = .ok (.lload_n 2, 1) := by decide +kernel
theorem d_J_floorMod_23 : decode b_J_floorMod 23 = .ok (.ladd, 1) := by decide +kernel
theorem d_J_floorMod_24 : decode b_J_floorMod 24 = .ok (.lreturn, 1) := by decide +kernel
theorem d_J_floorMod_25 : decode b_J_floorMod 25 = .ok (.lload 4, 2) := by decide +kernel
theorem d_J_floorMod_27 : decode b_J_floorMod 27 = .ok (.lreturn, 1) := by decide +kernel
theorem d_L_law_0 : decode b_L_law 0 = .ok (.new 7, 3) := by decide +kernel
theorem d_L_law_3 : decode b_L_law 3 = .ok (.dup, 1) := by decide +kernel
theorem d_L_law_4 : decode b_L_law 4 = .ok (.invokespecial 9, 3) := by decide +kernel
theorem d_L_law_7 : decode b_L_law 7 = .ok (.astore_n 1, 1) := by decide +kernel
theorem d_L_law_8 : decode b_L_law 8 = .ok (.new 10, 3) := by decide +kernel
theorem d_L_law_11 : decode b_L_law 11 = .ok (.dup, 1) := by decide +kernel
theorem d_L_law_12 : decode b_L_law 12 = .ok (.invokespecial 12, 3) := by decide +kernel
theorem d_L_law_15 : decode b_L_law 15 = .ok (.astore_n 2, 1) := by decide +kernel
theorem d_L_law_16 : decode b_L_law 16 = .ok (.iconst 0, 1) := by decide +kernel
theorem d_L_law_17 : decode b_L_law 17 = .ok (.istore_n 3, 1) := by decide +kernel
theorem d_L_law_18 : decode b_L_law 18 = .ok (.iload_n 3, 1) := by decide +kernel
theorem d_L_law_19 : decode b_L_law 19 = .ok (.aload_n 0, 1) := by decide +kernel
theorem d_L_law_20 : decode b_L_law 20 = .ok (.arraylength, 1) := by decide +kernel
theorem d_L_law_21 : decode b_L_law 21 = .ok (.iconst 5, 1) := by decide +kernel
theorem d_L_law_22 : decode b_L_law 22 = .ok (.isub, 1) := by decide +kernel
theorem d_L_law_23 : decode b_L_law 23 = .ok (.if_icmp .gt 579, 3) := by decide +kernel
theorem d_L_law_26 : decode b_L_law 26 = .ok (.aload_n 0, 1) := by decide +kernel
theorem d_L_law_27 : decode b_L_law 27 = .ok (.iload_n 3, 1) := by decide +kernel
theorem d_L_law_28 : decode b_L_law 28 = .ok (.iaload, 1) := by decide +kernel
theorem d_L_law_29 : decode b_L_law 29 = .ok (.bipush 15, 2) := by decide +kernel
theorem d_L_law_31 : decode b_L_law 31 = .ok (.iand, 1) := by decide +kernel
theorem d_L_law_32 : decode b_L_law 32 = .ok (.tableswitch 564 0 11 #[64, 137, 170, 229, 262, 305, 348, 401, 434, 448, 497, 521], 64) := by decide +kernel
theorem d_L_law_96 : decode b_L_law 96 = .ok (.aload_n 1, 1) := by decide +kernel
theorem d_L_law_97 : decode b_L_law 97 = .ok (.aload_n 0, 1) := by decide +kernel
theorem d_L_law_98 : decode b_L_law 98 = .ok (.iload_n 3, 1) := by decide +kernel
theorem d_L_law_99 : decode b_L_law 99 = .ok (.iconst 1, 1) := by decide +kernel
theorem d_L_law_100 : decode b_L_law 100 = .ok (.iadd, 1) := by decide +kernel
theorem d_L_law_101 : decode b_L_law 101 = .ok (.iaload, 1) := by decide +kernel
theorem d_L_law_102 : decode b_L_law 102 = .ok (.aload_n 0, 1) := by decide +kernel
theorem d_L_law_103 : decode b_L_law 103 = .ok (.iload_n 3, 1) := by decide +kernel
theorem d_L_law_104 : decode b_L_law 104 = .ok (.iconst 2, 1) := by decide +kernel
theorem d_L_law_105 : decode b_L_law 105 = .ok (.iadd, 1) := by decide +kernel
theorem d_L_law_106 : decode b_L_law 106 = .ok (.iaload, 1) := by decide +kernel
theorem d_L_law_107 : decode b_L_law 107 = .ok (.aload_n 0, 1) := by decide +kernel
theorem d_L_law_108 : decode b_L_law 108 = .ok (.iload_n 3, 1) := by decide +kernel
theorem d_L_law_109 : decode b_L_law 109 = .ok (.iconst 3, 1) := by decide +kernel
theorem d_L_law_110 : decode b_L_law 110 = .ok (.iadd, 1) := by decide +kernel
theorem d_L_law_111 : decode b_L_law 111 = .ok (.iaload, 1) := by decide +kernel
theorem d_L_law_112 : decode b_L_law 112 = .ok (.i2l, 1) := by decide +kernel
theorem d_L_law_113 : decode b_L_law 113 = .ok (.bipush 32, 2) := by decide +kernel
theorem d_L_law_115 : decode b_L_law 115 = .ok (.lshl, 1) := by decide +kernel
theorem d_L_law_116 : decode b_L_law 116 = .ok (.aload_n 0, 1) := by decide +kernel
theorem d_L_law_117 : decode b_L_law 117 = .ok (.iload_n 3, 1) := by decide +kernel
theorem d_L_law_118 : decode b_L_law 118 = .ok (.iconst 4, 1) := by decide +kernel
theorem d_L_law_119 : decode b_L_law 119 = .ok (.iadd, 1) := by decide +kernel
theorem d_L_law_120 : decode b_L_law 120 = .ok (.iaload, 1) := by decide +kernel
theorem d_L_law_121 : decode b_L_law 121 = .ok (.i2l, 1) := by decide +kernel
theorem d_L_law_122 : decode b_L_law 122 = .ok (.ldc2_w 13, 3) := by decide +kernel
theorem d_L_law_125 : decode b_L_law 125 = .ok (.land, 1) := by decide +kernel
theorem d_L_law_126 : decode b_L_law 126 = .ok (.lor, 1) := by decide +kernel
theorem d_L_law_127 : decode b_L_law 127 = .ok (.invokevirtual 15, 3) := by decide +kernel
theorem d_L_law_130 : decode b_L_law 130 = .ok (.aload_n 2, 1) := by decide +kernel
theorem d_L_law_131 : decode b_L_law 131 = .ok (.aload_n 0, 1) := by decide +kernel
theorem d_L_law_132 : decode b_L_law 132 = .ok (.iload_n 3, 1) := by decide +kernel
theorem d_L_law_133 : decode b_L_law 133 = .ok (.iconst 1, 1) := by decide +kernel
theorem d_L_law_134 : decode b_L_law 134 = .ok (.iadd, 1) := by decide +kernel
theorem d_L_law_135 : decode b_L_law 135 = .ok (.iaload, 1) := by decide +kernel
theorem d_L_law_136 : decode b_L_law 136 = .ok (.aload_n 0, 1) := by decide +kernel
theorem d_L_law_137 : decode b_L_law 137 = .ok (.iload_n 3, 1) := by decide +kernel
theorem d_L_law_138 : decode b_L_law 138 = .ok (.iconst 2, 1) := by decide +kernel
theorem d_L_law_139 : decode b_L_law 139 = .ok (.iadd, 1) := by decide +kernel
theorem d_L_law_140 : decode b_L_law 140 = .ok (.iaload, 1) := by decide +kernel
theorem d_L_law_141 : decode b_L_law 141 = .ok (.aload_n 0, 1) := by decide +kernel
theorem d_L_law_142 : decode b_L_law 142 = .ok (.iload_n 3, 1) := by decide +kernel
theorem d_L_law_143 : decode b_L_law 143 = .ok (.iconst 3, 1) := by decide +kernel
theorem d_L_law_144 : decode b_L_law 144 = .ok (.iadd, 1) := by decide +kernel
theorem d_L_law_145 : decode b_L_law 145 = .ok (.iaload, 1) := by decide +kernel
theorem d_L_law_146 : decode b_L_law 146 = .ok (.i2l, 1) := by decide +kernel
theorem d_L_law_147 : decode b_L_law 147 = .ok (.bipush 32, 2) := by decide +kernel
theorem d_L_law_149 : decode b_L_law 149 = .ok (.lshl, 1) := by decide +kernel
theorem d_L_law_150 : decode b_L_law 150 = .ok (.aload_n 0, 1) := by decide +kernel
theorem d_L_law_151 : decode b_L_law 151 = .ok (.iload_n 3, 1) := by decide +kernel
theorem d_L_law_152 : decode b_L_law 152 = .ok (.iconst 4, 1) := by decide +kernel
theorem d_L_law_153 : decode b_L_law 153 = .ok (.iadd, 1) := by decide +kernel
theorem d_L_law_154 : decode b_L_law 154 = .ok (.iaload, 1) := by decide +kernel
theorem d_L_law_155 : decode b_L_law 155 = .ok (.i2l, 1) := by decide +kernel
theorem d_L_law_156 : decode b_L_law 156 = .ok (.ldc2_w 13, 3) := by decide +kernel
theorem d_L_law_159 : decode b_L_law 159 = .ok (.land, 1) := by decide +kernel
theorem d_L_law_160 : decode b_L_law 160 = .ok (.lor, 1) := by decide +kernel
theorem d_L_law_161 : decode b_L_law 161 = .ok (.invokevirtual 19, 3) := by decide +kernel
theorem d_L_law_164 : decode b_L_law 164 = .ok (.if_icmp .eq 432, 3) := by decide +kernel
theorem d_L_law_167 : decode b_L_law 167 = .ok (.iconst 0, 1) := by decide +kernel
theorem d_L_law_168 : decode b_L_law 168 = .ok (.ireturn, 1) := by decide +kernel
theorem d_L_law_169 : decode b_L_law 169 = .ok (.aload_n 1, 1) := by decide +kernel
theorem d_L_law_170 : decode b_L_law 170 = .ok (.aload_n 0, 1) := by decide +kernel
theorem d_L_law_171 : decode b_L_law 171 = .ok (.iload_n 3, 1) := by decide +kernel
theorem d_L_law_172 : decode b_L_law 172 = .ok (.iconst 1, 1) := by decide +kernel
theorem d_L_law_173 : decode b_L_law 173 = .ok (.iadd, 1) := by decide +kernel
theorem d_L_law_174 : decode b_L_law 174 = .ok (.iaload, 1) := by decide +kernel
theorem d_L_law_175 : decode b_L_law 175 = .ok (.aload_n 0, 1) := by decide +kernel
theorem d_L_law_176 : decode b_L_law 176 = .ok (.iload_n 3, 1) := by decide +kernel
theorem d_L_law_177 : decode b_L_law 177 = .ok (.iconst 2, 1) := by decide +kernel
theorem d_L_law_178 : decode b_L_law 178 = .ok (.iadd, 1) := by decide +kernel
theorem d_L_law_179 : decode b_L_law 179 = .ok (.iaload, 1) := by decide +kernel
theorem d_L_law_180 : decode b_L_law 180 = .ok (.invokevirtual 20, 3) := by decide +kernel
theorem d_L_law_183 : decode b_L_law 183 = .ok (.aload_n 2, 1) := by decide +kernel
theorem d_L_law_184 : decode b_L_law 184 = .ok (.aload_n 0, 1) := by decide +kernel
theorem d_L_law_185 : decode b_L_law 185 = .ok (.iload_n 3, 1) := by decide +kernel
theorem d_L_law_186 : decode b_L_law 186 = .ok (.iconst 1, 1) := by decide +kernel
theorem d_L_law_187 : decode b_L_law 187 = .ok (.iadd, 1) := by decide +kernel
theorem d_L_law_188 : decode b_L_law 188 = .ok (.iaload, 1) := by decide +kernel
theorem d_L_law_189 : decode b_L_law 189 = .ok (.aload_n 0, 1) := by decide +kernel
theorem d_L_law_190 : decode b_L_law 190 = .ok (.iload_n 3, 1) := by decide +kernel
theorem d_L_law_191 : decode b_L_law 191 = .ok (.iconst 2, 1) := by decide +kernel
theorem d_L_law_192 : decode b_L_law 192 = .ok (.iadd, 1) := by decide +kernel
theorem d_L_law_193 : decode b_L_law 193 = .ok (.iaload, 1) := by decide +kernel
theorem d_L_law_194 : decode b_L_law 194 = .ok (.invokevirtual 24, 3) := by decide +kernel
theorem d_L_law_197 : decode b_L_law 197 = .ok (.if_icmp .eq 399, 3) := by decide +kernel
theorem d_L_law_200 : decode b_L_law 200 = .ok (.iconst 0, 1) := by decide +kernel
theorem d_L_law_201 : decode b_L_law 201 = .ok (.ireturn, 1) := by decide +kernel
theorem d_L_law_202 : decode b_L_law 202 = .ok (.aload_n 1, 1) := by decide +kernel
theorem d_L_law_203 : decode b_L_law 203 = .ok (.aload_n 0, 1) := by decide +kernel
theorem d_L_law_204 : decode b_L_law 204 = .ok (.iload_n 3, 1) := by decide +kernel
theorem d_L_law_205 : decode b_L_law 205 = .ok (.iconst 1, 1) := by decide +kernel
theorem d_L_law_206 : decode b_L_law 206 = .ok (.iadd, 1) := by decide +kernel
theorem d_L_law_207 : decode b_L_law 207 = .ok (.iaload, 1) := by decide +kernel
theorem d_L_law_208 : decode b_L_law 208 = .ok (.aload_n 0, 1) := by decide +kernel
theorem d_L_law_209 : decode b_L_law 209 = .ok (.iload_n 3, 1) := by decide +kernel
theorem d_L_law_210 : decode b_L_law 210 = .ok (.iconst 2, 1) := by decide +kernel
theorem d_L_law_211 : decode b_L_law 211 = .ok (.iadd, 1) := by decide +kernel
theorem d_L_law_212 : decode b_L_law 212 = .ok (.iaload, 1) := by decide +kernel
theorem d_L_law_213 : decode b_L_law 213 = .ok (.ifCond .eq 7, 3) := by decide +kernel
theorem d_L_law_216 : decode b_L_law 216 = .ok (.iconst 1, 1) := by decide +kernel
theorem d_L_law_217 : decode b_L_law 217 = .ok (.goto 4, 3) := by decide +kernel
theorem d_L_law_220 : decode b_L_law 220 = .ok (.iconst 0, 1) := by decide +kernel
theorem d_L_law_221 : decode b_L_law 221 = .ok (.aload_n 0, 1) := by decide +kernel
theorem d_L_law_222 : decode b_L_law 222 = .ok (.iload_n 3, 1) := by decide +kernel
theorem d_L_law_223 : decode b_L_law 223 = .ok (.iconst 3, 1) := by decide +kernel
theorem d_L_law_224 : decode b_L_law 224 = .ok (.iadd, 1) := by decide +kernel
theorem d_L_law_225 : decode b_L_law 225 = .ok (.iaload, 1) := by decide +kernel
theorem d_L_law_226 : decode b_L_law 226 = .ok (.invokevirtual 25, 3) := by decide +kernel
theorem d_L_law_229 : decode b_L_law 229 = .ok (.aload_n 2, 1) := by decide +kernel
theorem d_L_law_230 : decode b_L_law 230 = .ok (.aload_n 0, 1) := by decide +kernel
theorem d_L_law_231 : decode b_L_law 231 = .ok (.iload_n 3, 1) := by decide +kernel
theorem d_L_law_232 : decode b_L_law 232 = .ok (.iconst 1, 1) := by decide +kernel
theorem d_L_law_233 : decode b_L_law 233 = .ok (.iadd, 1) := by decide +kernel
theorem d_L_law_234 : decode b_L_law 234 = .ok (.iaload, 1) := by decide +kernel
theorem d_L_law_235 : decode b_L_law 235 = .ok (.aload_n 0, 1) := by decide +kernel
theorem d_L_law_236 : decode b_L_law 236 = .ok (.iload_n 3, 1) := by decide +kernel
theorem d_L_law_237 : decode b_L_law 237 = .ok (.iconst 2, 1) := by decide +kernel
theorem d_L_law_238 : decode b_L_law 238 = .ok (.iadd, 1) := by decide +kernel
theorem d_L_law_239 : decode b_L_law 239 = .ok (.iaload, 1) := by decide +kernel
theorem d_L_law_240 : decode b_L_law 240 = .ok (.ifCond .eq 7, 3) := by decide +kernel
theorem d_L_law_243 : decode b_L_law 243 = .ok (.iconst 1, 1) := by decide +kernel
theorem d_L_law_244 : decode b_L_law 244 = .ok (.goto 4, 3) := by decide +kernel
theorem d_L_law_247 : decode b_L_law 247 = .ok (.iconst 0, 1) := by decide +kernel
theorem d_L_law_248 : decode b_L_law 248 = .ok (.aload_n 0, 1) := by decide +kernel
theorem d_L_law_249 : decode b_L_law 249 = .ok (.iload_n 3, 1) := by decide +kernel
theorem d_L_law_250 : decode b_L_law 250 = .ok (.iconst 3, 1) := by decide +kernel
theorem d_L_law_251 : decode b_L_law 251 = .ok (.iadd, 1) := by decide +kernel
theorem d_L_law_252 : decode b_L_law 252 = .ok (.iaload, 1) := by decide +kernel
theorem d_L_law_253 : decode b_L_law 253 = .ok (.invokevirtual 29, 3) := by decide +kernel
theorem d_L_law_256 : decode b_L_law 256 = .ok (.if_icmp .eq 340, 3) := by decide +kernel
theorem d_L_law_259 : decode b_L_law 259 = .ok (.iconst 0, 1) := by decide +kernel
theorem d_L_law_260 : decode b_L_law 260 = .ok (.ireturn, 1) := by decide +kernel
theorem d_L_law_261 : decode b_L_law 261 = .ok (.aload_n 1, 1) := by decide +kernel
theorem d_L_law_262 : decode b_L_law 262 = .ok (.aload_n 0, 1) := by decide +kernel
theorem d_L_law_263 : decode b_L_law 263 = .ok (.iload_n 3, 1) := by decide +kernel
theorem d_L_law_264 : decode b_L_law 264 = .ok (.iconst 1, 1) := by decide +kernel
theorem d_L_law_265 : decode b_L_law 265 = .ok (.iadd, 1) := by decide +kernel
theorem d_L_law_266 : decode b_L_law 266 = .ok (.iaload, 1) := by decide +kernel
theorem d_L_law_267 : decode b_L_law 267 = .ok (.aload_n 0, 1) := by decide +kernel
theorem d_L_law_268 : decode b_L_law 268 = .ok (.iload_n 3, 1) := by decide +kernel
theorem d_L_law_269 : decode b_L_law 269 = .ok (.iconst 2, 1) := by decide +kernel
theorem d_L_law_270 : decode b_L_law 270 = .ok (.iadd, 1) := by decide +kernel
theorem d_L_law_271 : decode b_L_law 271 = .ok (.iaload, 1) := by decide +kernel
theorem d_L_law_272 : decode b_L_law 272 = .ok (.invokevirtual 30, 3) := by decide +kernel
theorem d_L_law_275 : decode b_L_law 275 = .ok (.aload_n 2, 1) := by decide +kernel
theorem d_L_law_276 : decode b_L_law 276 = .ok (.aload_n 0, 1) := by decide +kernel
theorem d_L_law_277 : decode b_L_law 277 = .ok (.iload_n 3, 1) := by decide +kernel
theorem d_L_law_278 : decode b_L_law 278 = .ok (.iconst 1, 1) := by decide +kernel
theorem d_L_law_279 : decode b_L_law 279 = .ok (.iadd, 1) := by decide +kernel
theorem d_L_law_280 : decode b_L_law 280 = .ok (.iaload, 1) := by decide +kernel
theorem d_L_law_281 : decode b_L_law 281 = .ok (.aload_n 0, 1) := by decide +kernel
theorem d_L_law_282 : decode b_L_law 282 = .ok (.iload_n 3, 1) := by decide +kernel
theorem d_L_law_283 : decode b_L_law 283 = .ok (.iconst 2, 1) := by decide +kernel
theorem d_L_law_284 : decode b_L_law 284 = .ok (.iadd, 1) := by decide +kernel
theorem d_L_law_285 : decode b_L_law 285 = .ok (.iaload, 1) := by decide +kernel
theorem d_L_law_286 : decode b_L_law 286 = .ok (.invokevirtual 33, 3) := by decide +kernel
theorem d_L_law_289 : decode b_L_law 289 = .ok (.if_icmp .eq 307, 3) := by decide +kernel
theorem d_L_law_292 : decode b_L_law 292 = .ok (.iconst 0, 1) := by decide +kernel
theorem d_L_law_293 : decode b_L_law 293 = .ok (.ireturn, 1) := by decide +kernel
theorem d_L_law_294 : decode b_L_law 294 = .ok (.aload_n 1, 1) := by decide +kernel
theorem d_L_law_295 : decode b_L_law 295 = .ok (.aload_n 0, 1) := by decide +kernel
theorem d_L_law_296 : decode b_L_law 296 = .ok (.iload_n 3, 1) := by decide +kernel
theorem d_L_law_297 : decode b_L_law 297 = .ok (.iconst 1, 1) := by decide +kernel
theorem d_L_law_298 : decode b_L_law 298 = .ok (.iadd, 1) := by decide +kernel
theorem d_L_law_299 : decode b_L_law 299 = .ok (.iaload, 1) := by decide +kernel
theorem d_L_law_300 : decode b_L_law 300 = .ok (.aload_n 0, 1) := by decide +kernel
theorem d_L_law_301 : decode b_L_law 301 = .ok (.iload_n 3, 1) := by decide +kernel
theorem d_L_law_302 : decode b_L_law 302 = .ok (.iconst 2, 1) := by decide +kernel
theorem d_L_law_303 : decode b_L_law 303 = .ok (.iadd, 1) := by decide +kernel
theorem d_L_law_304 : decode b_L_law 304 = .ok (.iaload, 1) := by decide +kernel
theorem d_L_law_305 : decode b_L_law 305 = .ok (.aload_n 0, 1) := by decide +kernel
theorem d_L_law_306 : decode b_L_law 306 = .ok (.iload_n 3, 1) := by decide +kernel
theorem d_L_law_307 : decode b_L_law 307 = .ok (.iconst 3, 1) := by decide +kernel
theorem d_L_law_308 : decode b_L_law 308 = .ok (.iadd, 1) := by decide +kernel
theorem d_L_law_309 : decode b_L_law 309 = .ok (.iaload, 1) := by decide +kernel
theorem d_L_law_310 : decode b_L_law 310 = .ok (.invokevirtual 34, 3) := by decide +kernel
theorem d_L_law_313 : decode b_L_law 313 = .ok (.aload_n 2, 1) := by decide +kernel
theorem d_L_law_314 : decode b_L_law 314 = .ok (.aload_n 0, 1) := by decide +kernel
theorem d_L_law_315 : decode b_L_law 315 = .ok (.iload_n 3, 1) := by decide +kernel
theorem d_L_law_316 : decode b_L_law 316 = .ok (.iconst 1, 1) := by decide +kernel
theorem d_L_law_317 : decode b_L_law 317 = .ok (.iadd, 1) := by decide +kernel
theorem d_L_law_318 : decode b_L_law 318 = .ok (.iaload, 1) := by decide +kernel
theorem d_L_law_319 : decode b_L_law 319 = .ok (.aload_n 0, 1) := by decide +kernel
theorem d_L_law_320 : decode b_L_law 320 = .ok (.iload_n 3, 1) := by decide +kernel
theorem d_L_law_321 : decode b_L_law 321 = .ok (.iconst 2, 1) := by decide +kernel
theorem d_L_law_322 : decode b_L_law 322 = .ok (.iadd, 1) := by decide +kernel
theorem d_L_law_323 : decode b_L_law 323 = .ok (.iaload, 1) := by decide +kernel
theorem d_L_law_324 : decode b_L_law 324 = .ok (.aload_n 0, 1) := by decide +kernel
theorem d_L_law_325 : decode b_L_law 325 = .ok (.iload_n 3, 1) := by decide +kernel
theorem d_L_law_326 : decode b_L_law 326 = .ok (.iconst 3, 1) := by decide +kernel
theorem d_L_law_327 : decode b_L_law 327 = .ok (.iadd, 1) := by decide +kernel
theorem d_L_law_328 : decode b_L_law 328 = .ok (.iaload, 1) := by decide +kernel
theorem d_L_law_329 : decode b_L_law 329 = .ok (.invokevirtual 38, 3) := by decide +kernel
theorem d_L_law_332 : decode b_L_law 332 = .ok (.if_icmp .eq 264, 3) := by decide +kernel
theorem d_L_law_335 : decode b_L_law 335 = .ok (.iconst 0, 1) := by decide +kernel
theorem d_L_law_336 : decode b_L_law 336 = .ok (.ireturn, 1) := by decide +kernel
theorem d_L_law_337 : decode b_L_law 337 = .ok (.aload_n 1, 1) := by decide +kernel
theorem d_L_law_338 : decode b_L_law 338 = .ok (.aload_n 0, 1) := by decide +kernel
theorem d_L_law_339 : decode b_L_law 339 = .ok (.iload_n 3, 1) := by decide +kernel
theorem d_L_law_340 : decode b_L_law 340 = .ok (.iconst 1, 1) := by decide +kernel
theorem d_L_law_341 : decode b_L_law 341 = .ok (.iadd, 1) := by decide +kernel
theorem d_L_law_342 : decode b_L_law 342 = .ok (.iaload, 1) := by decide +kernel
theorem d_L_law_343 : decode b_L_law 343 = .ok (.aload_n 0, 1) := by decide +kernel
theorem d_L_law_344 : decode b_L_law 344 = .ok (.iload_n 3, 1) := by decide +kernel
theorem d_L_law_345 : decode b_L_law 345 = .ok (.iconst 2, 1) := by decide +kernel
theorem d_L_law_346 : decode b_L_law 346 = .ok (.iadd, 1) := by decide +kernel
theorem d_L_law_347 : decode b_L_law 347 = .ok (.iaload, 1) := by decide +kernel
theorem d_L_law_348 : decode b_L_law 348 = .ok (.aload_n 0, 1) := by decide +kernel
theorem d_L_law_349 : decode b_L_law 349 = .ok (.iload_n 3, 1) := by decide +kernel
theorem d_L_law_350 : decode b_L_law 350 = .ok (.iconst 3, 1) := by decide +kernel
theorem d_L_law_351 : decode b_L_law 351 = .ok (.iadd, 1) := by decide +kernel
theorem d_L_law_352 : decode b_L_law 352 = .ok (.iaload, 1) := by decide +kernel
theorem d_L_law_353 : decode b_L_law 353 = .ok (.invokevirtual 39, 3) := by decide +kernel
theorem d_L_law_356 : decode b_L_law 356 = .ok (.aload_n 2, 1) := by decide +kernel
theorem d_L_law_357 : decode b_L_law 357 = .ok (.aload_n 0, 1) := by decide +kernel
theorem d_L_law_358 : decode b_L_law 358 = .ok (.iload_n 3, 1) := by decide +kernel
theorem d_L_law_359 : decode b_L_law 359 = .ok (.iconst 1, 1) := by decide +kernel
theorem d_L_law_360 : decode b_L_law 360 = .ok (.iadd, 1) := by decide +kernel
theorem d_L_law_361 : decode b_L_law 361 = .ok (.iaload, 1) := by decide +kernel
theorem d_L_law_362 : decode b_L_law 362 = .ok (.aload_n 0, 1) := by decide +kernel
theorem d_L_law_363 : decode b_L_law 363 = .ok (.iload_n 3, 1) := by decide +kernel
theorem d_L_law_364 : decode b_L_law 364 = .ok (.iconst 2, 1) := by decide +kernel
theorem d_L_law_365 : decode b_L_law 365 = .ok (.iadd, 1) := by decide +kernel
theorem d_L_law_366 : decode b_L_law 366 = .ok (.iaload, 1) := by decide +kernel
theorem d_L_law_367 : decode b_L_law 367 = .ok (.aload_n 0, 1) := by decide +kernel
theorem d_L_law_368 : decode b_L_law 368 = .ok (.iload_n 3, 1) := by decide +kernel
theorem d_L_law_369 : decode b_L_law 369 = .ok (.iconst 3, 1) := by decide +kernel
theorem d_L_law_370 : decode b_L_law 370 = .ok (.iadd, 1) := by decide +kernel
theorem d_L_law_371 : decode b_L_law 371 = .ok (.iaload, 1) := by decide +kernel
theorem d_L_law_372 : decode b_L_law 372 = .ok (.invokevirtual 42, 3) := by decide +kernel
theorem d_L_law_375 : decode b_L_law 375 = .ok (.if_icmp .eq 221, 3) := by decide +kernel
theorem d_L_law_378 : decode b_L_law 378 = .ok (.iconst 0, 1) := by decide +kernel
theorem d_L_law_379 : decode b_L_law 379 = .ok (.ireturn, 1) := by decide +kernel
theorem d_L_law_380 : decode b_L_law 380 = .ok (.aload_n 1, 1) := by decide +kernel
theorem d_L_law_381 : decode b_L_law 381 = .ok (.aload_n 0, 1) := by decide +kernel
theorem d_L_law_382 : decode b_L_law 382 = .ok (.iload_n 3, 1) := by decide +kernel
theorem d_L_law_383 : decode b_L_law 383 = .ok (.iconst 1, 1) := by decide +kernel
theorem d_L_law_384 : decode b_L_law 384 = .ok (.iadd, 1) := by decide +kernel
theorem d_L_law_385 : decode b_L_law 385 = .ok (.iaload, 1) := by decide +kernel
theorem d_L_law_386 : decode b_L_law 386 = .ok (.aload_n 0, 1) := by decide +kernel
theorem d_L_law_387 : decode b_L_law 387 = .ok (.iload_n 3, 1) := by decide +kernel
theorem d_L_law_388 : decode b_L_law 388 = .ok (.iconst 2, 1) := by decide +kernel
theorem d_L_law_389 : decode b_L_law 389 = .ok (.iadd, 1) := by decide +kernel
theorem d_L_law_390 : decode b_L_law 390 = .ok (.iaload, 1) := by decide +kernel
theorem d_L_law_391 : decode b_L_law 391 = .ok (.aload_n 0, 1) := by decide +kernel
theorem d_L_law_392 : decode b_L_law 392 = .ok (.iload_n 3, 1) := by decide +kernel
theorem d_L_law_393 : decode b_L_law 393 = .ok (.iconst 3, 1) := by decide +kernel
theorem d_L_law_394 : decode b_L_law 394 = .ok (.iadd, 1) := by decide +kernel
theorem d_L_law_395 : decode b_L_law 395 = .ok (.iaload, 1) := by decide +kernel
theorem d_L_law_396 : decode b_L_law 396 = .ok (.aload_n 0, 1) := by decide +kernel
theorem d_L_law_397 : decode b_L_law 397 = .ok (.iload_n 3, 1) := by decide +kernel
theorem d_L_law_398 : decode b_L_law 398 = .ok (.iconst 4, 1) := by decide +kernel
theorem d_L_law_399 : decode b_L_law 399 = .ok (.iadd, 1) := by decide +kernel
theorem d_L_law_400 : decode b_L_law 400 = .ok (.iaload, 1) := by decide +kernel
theorem d_L_law_401 : decode b_L_law 401 = .ok (.invokevirtual 43, 3) := by decide +kernel
theorem d_L_law_404 : decode b_L_law 404 = .ok (.aload_n 2, 1) := by decide +kernel
theorem d_L_law_405 : decode b_L_law 405 = .ok (.aload_n 0, 1) := by decide +kernel
theorem d_L_law_406 : decode b_L_law 406 = .ok (.iload_n 3, 1) := by decide +kernel
theorem d_L_law_407 : decode b_L_law 407 = .ok (.iconst 1, 1) := by decide +kernel
theorem d_L_law_408 : decode b_L_law 408 = .ok (.iadd, 1) := by decide +kernel
theorem d_L_law_409 : decode b_L_law 409 = .ok (.iaload, 1) := by decide +kernel
theorem d_L_law_410 : decode b_L_law 410 = .ok (.aload_n 0, 1) := by decide +kernel
theorem d_L_law_411 : decode b_L_law 411 = .ok (.iload_n 3, 1) := by decide +kernel
theorem d_L_law_412 : decode b_L_law 412 = .ok (.iconst 2, 1) := by decide +kernel
theorem d_L_law_413 : decode b_L_law 413 = .ok (.iadd, 1) := by decide +kernel
theorem d_L_law_414 : decode b_L_law 414 = .ok (.iaload, 1) := by decide +kernel
theorem d_L_law_415 : decode b_L_law 415 = .ok (.aload_n 0, 1) := by decide +kernel
theorem d_L_law_416 : decode b_L_law 416 = .ok (.iload_n 3, 1) := by decide +kernel
theorem d_L_law_417 : decode b_L_law 417 = .ok (.iconst 3, 1) := by decide +kernel
theorem d_L_law_418 : decode b_L_law 418 = .ok (.iadd, 1) := by decide +kernel
theorem d_L_law_419 : decode b_L_law 419 = .ok (.iaload, 1) := by decide +kernel
theorem d_L_law_420 : decode b_L_law 420 = .ok (.aload_n 0, 1) := by decide +kernel
theorem d_L_law_421 : decode b_L_law 421 = .ok (.iload_n 3, 1) := by decide +kernel
theorem d_L_law_422 : decode b_L_law 422 = .ok (.iconst 4, 1) := by decide +kernel
theorem d_L_law_423 : decode b_L_law 423 = .ok (.iadd, 1) := by decide +kernel
theorem d_L_law_424 : decode b_L_law 424 = .ok (.iaload, 1) := by decide +kernel
theorem d_L_law_425 : decode b_L_law 425 = .ok (.invokevirtual 47, 3) := by decide +kernel
theorem d_L_law_428 : decode b_L_law 428 = .ok (.if_icmp .eq 168, 3) := by decide +kernel
theorem d_L_law_431 : decode b_L_law 431 = .ok (.iconst 0, 1) := by decide +kernel
theorem d_L_law_432 : decode b_L_law 432 = .ok (.ireturn, 1) := by decide +kernel
theorem d_L_law_433 : decode b_L_law 433 = .ok (.aload_n 1, 1) := by decide +kernel
theorem d_L_law_434 : decode b_L_law 434 = .ok (.aload_n 0, 1) := by decide +kernel
theorem d_L_law_435 : decode b_L_law 435 = .ok (.iload_n 3, 1) := by decide +kernel
theorem d_L_law_436 : decode b_L_law 436 = .ok (.iconst 1, 1) := by decide +kernel
theorem d_L_law_437 : decode b_L_law 437 = .ok (.iadd, 1) := by decide +kernel
theorem d_L_law_438 : decode b_L_law 438 = .ok (.iaload, 1) := by decide +kernel
theorem d_L_law_439 : decode b_L_law 439 = .ok (.aload_n 0, 1) := by decide +kernel
theorem d_L_law_440 : decode b_L_law 440 = .ok (.iload_n 3, 1) := by decide +kernel
theorem d_L_law_441 : decode b_L_law 441 = .ok (.iconst 2, 1) := by decide +kernel
theorem d_L_law_442 : decode b_L_law 442 = .ok (.iadd, 1) := by decide +kernel
theorem d_L_law_443 : decode b_L_law 443 = .ok (.iaload, 1) := by decide +kernel
theorem d_L_law_444 : decode b_L_law 444 = .ok (.invokevirtual 48, 3) := by decide +kernel
theorem d_L_law_447 : decode b_L_law 447 = .ok (.aload_n 2, 1) := by decide +kernel
theorem d_L_law_448 : decode b_L_law 448 = .ok (.aload_n 0, 1) := by decide +kernel
theorem d_L_law_449 : decode b_L_law 449 = .ok (.iload_n 3, 1) := by decide +kernel
theorem d_L_law_450 : decode b_L_law 450 = .ok (.iconst 1, 1) := by decide +kernel
theorem d_L_law_451 : decode b_L_law 451 = .ok (.iadd, 1) := by decide +kernel
theorem d_L_law_452 : decode b_L_law 452 = .ok (.iaload, 1) := by decide +kernel
theorem d_L_law_453 : decode b_L_law 453 = .ok (.aload_n 0, 1) := by decide +kernel
theorem d_L_law_454 : decode b_L_law 454 = .ok (.iload_n 3, 1) := by decide +kernel
theorem d_L_law_455 : decode b_L_law 455 = .ok (.iconst 2, 1) := by decide +kernel
theorem d_L_law_456 : decode b_L_law 456 = .ok (.iadd, 1) := by decide +kernel
theorem d_L_law_457 : decode b_L_law 457 = .ok (.iaload, 1) := by decide +kernel
theorem d_L_law_458 : decode b_L_law 458 = .ok (.invokevirtual 51, 3) := by decide +kernel
theorem d_L_law_461 : decode b_L_law 461 = .ok (.if_icmp .eq 135, 3) := by decide +kernel
theorem d_L_law_464 : decode b_L_law 464 = .ok (.iconst 0, 1) := by decide +kernel
theorem d_L_law_465 : decode b_L_law 465 = .ok (.ireturn, 1) := by decide +kernel
theorem d_L_law_466 : decode b_L_law 466 = .ok (.aload_n 1, 1) := by decide +kernel
theorem d_L_law_467 : decode b_L_law 467 = .ok (.invokevirtual 52, 3) := by decide +kernel
theorem d_L_law_470 : decode b_L_law 470 = .ok (.aload_n 2, 1) := by decide +kernel
theorem d_L_law_471 : decode b_L_law 471 = .ok (.invokevirtual 56, 3) := by decide +kernel
theorem d_L_law_474 : decode b_L_law 474 = .ok (.lcmp, 1) := by decide +kernel
theorem d_L_law_475 : decode b_L_law 475 = .ok (.ifCond .eq 121, 3) := by decide +kernel
theorem d_L_law_478 : decode b_L_law 478 = .ok (.iconst 0, 1) := by decide +kernel
theorem d_L_law_479 : decode b_L_law 479 = .ok (.ireturn, 1) := by decide +kernel
theorem d_L_law_480 : decode b_L_law 480 = .ok (.aload_n 1, 1) := by decide +kernel
theorem d_L_law_481 : decode b_L_law 481 = .ok (.aload_n 0, 1) := by decide +kernel
theorem d_L_law_482 : decode b_L_law 482 = .ok (.iload_n 3, 1) := by decide +kernel
theorem d_L_law_483 : decode b_L_law 483 = .ok (.iconst 1, 1) := by decide +kernel
theorem d_L_law_484 : decode b_L_law 484 = .ok (.iadd, 1) := by decide +kernel
theorem d_L_law_485 : decode b_L_law 485 = .ok (.iaload, 1) := by decide +kernel
theorem d_L_law_486 : decode b_L_law 486 = .ok (.aload_n 0, 1) := by decide +kernel
theorem d_L_law_487 : decode b_L_law 487 = .ok (.iload_n 3, 1) := by decide +kernel
theorem d_L_law_488 : decode b_L_law 488 = .ok (.iconst 2, 1) := by decide +kernel
theorem d_L_law_489 : decode b_L_law 489 = .ok (.iadd, 1) := by decide +kernel
theorem d_L_law_490 : decode b_L_law 490 = .ok (.iaload, 1) := by decide +kernel
theorem d_L_law_491 : decode b_L_law 491 = .ok (.ifCond .eq 7, 3) := by decide +kernel
theorem d_L_law_494 : decode b_L_law 494 = .ok (.iconst 1, 1) := by decide +kernel
theorem d_L_law_495 : decode b_L_law 495 = .ok (.goto 4, 3) := by decide +kernel
theorem d_L_law_498 : decode b_L_law 498 = .ok (.iconst 0, 1) := by decide +kernel
theorem d_L_law_499 : decode b_L_law 499 = .ok (.invokevirtual 57, 3) := by decide +kernel
theorem d_L_law_502 : decode b_L_law 502 = .ok (.aload_n 2, 1) := by decide +kernel
theorem d_L_law_503 : decode b_L_law 503 = .ok (.aload_n 0, 1) := by decide +kernel
theorem d_L_law_504 : decode b_L_law 504 = .ok (.iload_n 3, 1) := by decide +kernel
theorem d_L_law_505 : decode b_L_law 505 = .ok (.iconst 1, 1) := by decide +kernel
theorem d_L_law_506 : decode b_L_law 506 = .ok (.iadd, 1) := by decide +kernel
theorem d_L_law_507 : decode b_L_law 507 = .ok (.iaload, 1) := by decide +kernel
theorem d_L_law_508 : decode b_L_law 508 = .ok (.aload_n 0, 1) := by decide +kernel
theorem d_L_law_509 : decode b_L_law 509 = .ok (.iload_n 3, 1) := by decide +kernel
theorem d_L_law_510 : decode b_L_law 510 = .ok (.iconst 2, 1) := by decide +kernel
theorem d_L_law_511 : decode b_L_law 511 = .ok (.iadd, 1) := by decide +kernel
theorem d_L_law_512 : decode b_L_law 512 = .ok (.iaload, 1) := by decide +kernel
theorem d_L_law_513 : decode b_L_law 513 = .ok (.ifCond .eq 7, 3) := by decide +kernel
theorem d_L_law_516 : decode b_L_law 516 = .ok (.iconst 1, 1) := by decide +kernel
theorem d_L_law_517 : decode b_L_law 517 = .ok (.goto 4, 3) := by decide +kernel
theorem d_L_law_520 : decode b_L_law 520 = .ok (.iconst 0, 1) := by decide +kernel
theorem d_L_law_521 : decode b_L_law 521 = .ok (.invokevirtual 61, 3) := by decide +kernel
theorem d_L_law_524 : decode b_L_law 524 = .ok (.if_icmp .eq 72, 3) := by decide +kernel
theorem d_L_law_527 : decode b_L_law 527 = .ok (.iconst 0, 1) := by decide +kernel
theorem d_L_law_528 : decode b_L_law 528 = .ok (.ireturn, 1) := by decide +kernel
theorem d_L_law_529 : decode b_L_law 529 = .ok (.aload_n 1, 1) := by decide +kernel
theorem d_L_law_530 : decode b_L_law 530 = .ok (.aload_n 0, 1) := by decide +kernel
theorem d_L_law_531 : decode b_L_law 531 = .ok (.iload_n 3, 1) := by decide +kernel
theorem d_L_law_532 : decode b_L_law 532 = .ok (.iconst 1, 1) := by decide +kernel
theorem d_L_law_533 : decode b_L_law 533 = .ok (.iadd, 1) := by decide +kernel
theorem d_L_law_534 : decode b_L_law 534 = .ok (.iaload, 1) := by decide +kernel
theorem d_L_law_535 : decode b_L_law 535 = .ok (.invokevirtual 62, 3) := by decide +kernel
theorem d_L_law_538 : decode b_L_law 538 = .ok (.aload_n 2, 1) := by decide +kernel
theorem d_L_law_539 : decode b_L_law 539 = .ok (.aload_n 0, 1) := by decide +kernel
theorem d_L_law_540 : decode b_L_law 540 = .ok (.iload_n 3, 1) := by decide +kernel
theorem d_L_law_541 : decode b_L_law 541 = .ok (.iconst 1, 1) := by decide +kernel
theorem d_L_law_542 : decode b_L_law 542 = .ok (.iadd, 1) := by decide +kernel
theorem d_L_law_543 : decode b_L_law 543 = .ok (.iaload, 1) := by decide +kernel
theorem d_L_law_544 : decode b_L_law 544 = .ok (.invokevirtual 66, 3) := by decide +kernel
theorem d_L_law_547 : decode b_L_law 547 = .ok (.lcmp, 1) := by decide +kernel
theorem d_L_law_548 : decode b_L_law 548 = .ok (.ifCond .eq 48, 3) := by decide +kernel
theorem d_L_law_551 : decode b_L_law 551 = .ok (.iconst 0, 1) := by decide +kernel
theorem d_L_law_552 : decode b_L_law 552 = .ok (.ireturn, 1) := by decide +kernel
theorem d_L_law_553 : decode b_L_law 553 = .ok (.aload_n 1, 1) := by decide +kernel
theorem d_L_law_554 : decode b_L_law 554 = .ok (.aload_n 0, 1) := by decide +kernel
theorem d_L_law_555 : decode b_L_law 555 = .ok (.iload_n 3, 1) := by decide +kernel
theorem d_L_law_556 : decode b_L_law 556 = .ok (.iconst 1, 1) := by decide +kernel
theorem d_L_law_557 : decode b_L_law 557 = .ok (.iadd, 1) := by decide +kernel
theorem d_L_law_558 : decode b_L_law 558 = .ok (.iaload, 1) := by decide +kernel
theorem d_L_law_559 : decode b_L_law 559 = .ok (.aload_n 0, 1) := by decide +kernel
theorem d_L_law_560 : decode b_L_law 560 = .ok (.iload_n 3, 1) := by decide +kernel
theorem d_L_law_561 : decode b_L_law 561 = .ok (.iconst 2, 1) := by decide +kernel
theorem d_L_law_562 : decode b_L_law 562 = .ok (.iadd, 1) := by decide +kernel
theorem d_L_law_563 : decode b_L_law 563 = .ok (.iaload, 1) := by decide +kernel
theorem d_L_law_564 : decode b_L_law 564 = .ok (.aload_n 0, 1) := by decide +kernel
theorem d_L_law_565 : decode b_L_law 565 = .ok (.iload_n 3, 1) := by decide +kernel
theorem d_L_law_566 : decode b_L_law 566 = .ok (.iconst 3, 1) := by decide +kernel
theorem d_L_law_567 : decode b_L_law 567 = .ok (.iadd, 1) := by decide +kernel
theorem d_L_law_568 : decode b_L_law 568 = .ok (.iaload, 1) := by decide +kernel
theorem d_L_law_569 : decode b_L_law 569 = .ok (.invokevirtual 67, 3) := by decide +kernel
theorem d_L_law_572 : decode b_L_law 572 = .ok (.aload_n 2, 1) := by decide +kernel
theorem d_L_law_573 : decode b_L_law 573 = .ok (.aload_n 0, 1) := by decide +kernel
theorem d_L_law_574 : decode b_L_law 574 = .ok (.iload_n 3, 1) := by decide +kernel
theorem d_L_law_575 : decode b_L_law 575 = .ok (.iconst 1, 1) := by decide +kernel
theorem d_L_law_576 : decode b_L_law 576 = .ok (.iadd, 1) := by decide +kernel
theorem d_L_law_577 : decode b_L_law 577 = .ok (.iaload, 1) := by decide +kernel
theorem d_L_law_578 : decode b_L_law 578 = .ok (.aload_n 0, 1) := by decide +kernel
theorem d_L_law_579 : decode b_L_law 579 = .ok (.iload_n 3, 1) := by decide +kernel
theorem d_L_law_580 : decode b_L_law 580 = .ok (.iconst 2, 1) := by decide +kernel
theorem d_L_law_581 : decode b_L_law 581 = .ok (.iadd, 1) := by decide +kernel
theorem d_L_law_582 : decode b_L_law 582 = .ok (.iaload, 1) := by decide +kernel
theorem d_L_law_583 : decode b_L_law 583 = .ok (.aload_n 0, 1) := by decide +kernel
theorem d_L_law_584 : decode b_L_law 584 = .ok (.iload_n 3, 1) := by decide +kernel
theorem d_L_law_585 : decode b_L_law 585 = .ok (.iconst 3, 1) := by decide +kernel
theorem d_L_law_586 : decode b_L_law 586 = .ok (.iadd, 1) := by decide +kernel
theorem d_L_law_587 : decode b_L_law 587 = .ok (.iaload, 1) := by decide +kernel
theorem d_L_law_588 : decode b_L_law 588 = .ok (.invokevirtual 70, 3) := by decide +kernel
theorem d_L_law_591 : decode b_L_law 591 = .ok (.if_icmp .eq 5, 3) := by decide +kernel
theorem d_L_law_594 : decode b_L_law 594 = .ok (.iconst 0, 1) := by decide +kernel
theorem d_L_law_595 : decode b_L_law 595 = .ok (.ireturn, 1) := by decide +kernel
theorem d_L_law_596 : decode b_L_law 596 = .ok (.iinc 3 5, 3) := by decide +kernel
theorem d_L_law_599 : decode b_L_law 599 = .ok (.goto (-581), 3) := by decide +kernel
theorem d_L_law_602 : decode b_L_law 602 = .ok (.iconst 1, 1) := by decide +kernel
theorem d_L_law_603 : decode b_L_law 603 = .ok (.ireturn, 1) := by decide +kernel
