theorem d_C_tagOf_35 : decode b_C_tagOf 35 = .ok (.iconst 2, 1) := by decide +kernel
theorem d_C_tagOf_36 : decode b_C_tagOf 36 = .ok (.invokevirtual 211, 3) := by decide +kernel
theorem d_C_tagOf_39 : decode b_C_tagOf 39 = .ok (.ireturn, 1) := by decide +kernel
theorem d_C_quotientOf_0 : decode b_C_quotientOf 0 = .ok (.iload_n 2, 1) := by decide +kernel
theorem d_C_quotientOf_1 : decode b_C_quotientOf 1 = .ok (.ifCond .ne 9, 3) := by decide +kernel
theorem d_C_quotientOf_4 : decode b_C_quotientOf 4 = .ok (.aload_n 0, 1) := by decide +kernel
theorem d_C_quotientOf_5 : decode b_C_quotientOf 5 = .ok (.iconst 1, 1) := by decide +kernel
theorem d_C_quotientOf_6 : decode b_C_quotientOf 6 = .ok (.invokevirtual 211, 3) := by decide +kernel
theorem d_C_quotientOf_9 : decode b_C_quotientOf 9 = .ok (.ireturn, 1) := by decide +kernel
theorem d_C_quotientOf_10 : decode b_C_quotientOf 10 = .ok (.aload_n 0, 1) := by decide +kernel
theorem d_C_quotientOf_11 : decode b_C_quotientOf 11 = .ok (.iconst 4, 1) := by decide +kernel
theorem d_C_quotientOf_12 : decode b_C_quotientOf 12 = .ok (.iload_n 1, 1) := by decide +kernel
theorem d_C_quotientOf_13 : decode b_C_quotientOf 13 = .ok (.iload_n 2, 1) := by decide +kernel
theorem d_C_quotientOf_14 : decode b_C_quotientOf 14 = .ok (.idiv, 1) := by decide +kernel
theorem d_C_quotientOf_15 : decode b_C_quotientOf 15 = .ok (.i2l, 1) := by decide +kernel
theorem d_C_quotientOf_16 : decode b_C_quotientOf 16 = .ok (.invokestatic 150, 3) := by decide +kernel
theorem d_C_quotientOf_19 : decode b_C_quotientOf 19 = .ok (.invokevirtual 60, 3) := by decide +kernel
theorem d_C_quotientOf_22 : decode b_C_quotientOf 22 = .ok (.ireturn, 1) := by decide +kernel
theorem d_C_pickOf_0 : decode b_C_pickOf 0 = .ok (.aload_n 2, 1) := by decide +kernel
theorem d_C_pickOf_1 : decode b_C_pickOf 1 = .ok (.instanceof 112, 3) := by decide +kernel
theorem d_C_pickOf_4 : decode b_C_pickOf 4 = .ok (.ifCond .eq 23, 3) := by decide +kernel
theorem d_C_pickOf_7 : decode b_C_pickOf 7 = .ok (.aload_n 2, 1) := by decide +kernel
theorem d_C_pickOf_8 : decode b_C_pickOf 8 = .ok (.checkcast 112, 3) := by decide +kernel
theorem d_C_pickOf_11 : decode b_C_pickOf 11 = .ok (.astore_n 3, 1) := by decide +kernel
theorem d_C_pickOf_12 : decode b_C_pickOf 12 = .ok (.aload_n 0, 1) := by decide +kernel
theorem d_C_pickOf_13 : decode b_C_pickOf 13 = .ok (.iconst 4, 1) := by decide +kernel
theorem d_C_pickOf_14 : decode b_C_pickOf 14 = .ok (.aload_n 1, 1) := by decide +kernel
theorem d_C_pickOf_15 : decode b_C_pickOf 15 = .ok (.aload_n 3, 1) := by decide +kernel
theorem d_C_pickOf_16 : decode b_C_pickOf 16 = .ok (.invokevirtual 215, 3) := by decide +kernel
theorem d_C_pickOf_19 : decode b_C_pickOf 19 = .ok (.i2l, 1) := by decide +kernel
theorem d_C_pickOf_20 : decode b_C_pickOf 20 = .ok (.invokestatic 150, 3) := by decide +kernel
theorem d_C_pickOf_23 : decode b_C_pickOf 23 = .ok (.invokevirtual 60, 3) := by decide +kernel
theorem d_C_pickOf_26 : decode b_C_pickOf 26 = .ok (.ireturn, 1) := by decide +kernel
theorem d_C_pickOf_27 : decode b_C_pickOf 27 = .ok (.aload_n 0, 1) := by decide +kernel
theorem d_C_pickOf_28 : decode b_C_pickOf 28 = .ok (.iconst 2, 1) := by decide +kernel
theorem d_C_pickOf_29 : decode b_C_pickOf 29 = .ok (.invokevirtual 211, 3) := by decide +kernel
theorem d_C_pickOf_32 : decode b_C_pickOf 32 = .ok (.ireturn, 1) := by decide +kernel
theorem d_C_typedTakes_0 : decode b_C_typedTakes 0 = .ok (.iload_n 1, 1) := by decide +kernel
theorem d_C_typedTakes_1 : decode b_C_typedTakes 1 = .ok (.bipush 13, 2) := by decide +kernel
theorem d_C_typedTakes_3 : decode b_C_typedTakes 3 = .ok (.invokestatic 24, 3) := by decide +kernel
theorem d_C_typedTakes_6 : decode b_C_typedTakes 6 = .ok (.ifCond .ne 5, 3) := by decide +kernel
theorem d_C_typedTakes_9 : decode b_C_typedTakes 9 = .ok (.iconst (-1), 1) := by decide +kernel
theorem d_C_typedTakes_10 : decode b_C_typedTakes 10 = .ok (.ireturn, 1) := by decide +kernel
theorem d_C_typedTakes_11 : decode b_C_typedTakes 11 = .ok (.iload_n 0, 1) := by decide +kernel
theorem d_C_typedTakes_12 : decode b_C_typedTakes 12 = .ok (.iload_n 1, 1) := by decide +kernel
theorem d_C_typedTakes_13 : decode b_C_typedTakes 13 = .ok (.invokestatic 122, 3) := by decide +kernel
theorem d_C_typedTakes_16 : decode b_C_typedTakes 16 = .ok (.ifCond .eq 7, 3) := by decide +kernel
theorem d_C_typedTakes_19 : decode b_C_typedTakes 19 = .ok (.iconst 1, 1) := by decide +kernel
theorem d_C_typedTakes_20 : decode b_C_typedTakes 20 = .ok (.goto 4, 3) := by decide +kernel
theorem d_C_typedTakes_23 : decode b_C_typedTakes 23 = .ok (.iconst 0, 1) := by decide +kernel
theorem d_C_typedTakes_24 : decode b_C_typedTakes 24 = .ok (.ireturn, 1) := by decide +kernel
theorem d_C_takes_0 : decode b_C_takes 0 = .ok (.iload_n 0, 1) := by decide +kernel
theorem d_C_takes_1 : decode b_C_takes 1 = .ok (.iload_n 1, 1) := by decide +kernel
theorem d_C_takes_2 : decode b_C_takes 2 = .ok (.if_icmp .ne 5, 3) := by decide +kernel
theorem d_C_takes_5 : decode b_C_takes 5 = .ok (.iconst 1, 1) := by decide +kernel
theorem d_C_takes_6 : decode b_C_takes 6 = .ok (.ireturn, 1) := by decide +kernel
theorem d_C_takes_7 : decode b_C_takes 7 = .ok (.iload_n 0, 1) := by decide +kernel
theorem d_C_takes_8 : decode b_C_takes 8 = .ok (.lookupswitch 104 #[(0, 44), (4, 56), (10, 74), (11, 92)], 44) := by decide +kernel
theorem d_C_takes_52 : decode b_C_takes 52 = .ok (.iload_n 1, 1) := by decide +kernel
theorem d_C_takes_53 : decode b_C_takes 53 = .ok (.bipush 8, 2) := by decide +kernel
theorem d_C_takes_55 : decode b_C_takes 55 = .ok (.if_icmp .eq 7, 3) := by decide +kernel
theorem d_C_takes_58 : decode b_C_takes 58 = .ok (.iconst 1, 1) := by decide +kernel
theorem d_C_takes_59 : decode b_C_takes 59 = .ok (.goto 4, 3) := by decide +kernel
theorem d_C_takes_62 : decode b_C_takes 62 = .ok (.iconst 0, 1) := by decide +kernel
theorem d_C_takes_63 : decode b_C_takes 63 = .ok (.ireturn, 1) := by decide +kernel
theorem d_C_takes_64 : decode b_C_takes 64 = .ok (.iload_n 1, 1) := by decide +kernel
theorem d_C_takes_65 : decode b_C_takes 65 = .ok (.bipush 6, 2) := by decide +kernel
theorem d_C_takes_67 : decode b_C_takes 67 = .ok (.if_icmp .eq 9, 3) := by decide +kernel
theorem d_C_takes_70 : decode b_C_takes 70 = .ok (.iload_n 1, 1) := by decide +kernel
theorem d_C_takes_71 : decode b_C_takes 71 = .ok (.bipush 7, 2) := by decide +kernel
theorem d_C_takes_73 : decode b_C_takes 73 = .ok (.if_icmp .ne 7, 3) := by decide +kernel
theorem d_C_takes_76 : decode b_C_takes 76 = .ok (.iconst 1, 1) := by decide +kernel
theorem d_C_takes_77 : decode b_C_takes 77 = .ok (.goto 4, 3) := by decide +kernel
theorem d_C_takes_80 : decode b_C_takes 80 = .ok (.iconst 0, 1) := by decide +kernel
theorem d_C_takes_81 : decode b_C_takes 81 = .ok (.ireturn, 1) := by decide +kernel
theorem d_C_takes_82 : decode b_C_takes 82 = .ok (.iload_n 1, 1) := by decide +kernel
theorem d_C_takes_83 : decode b_C_takes 83 = .ok (.bipush 11, 2) := by decide +kernel
theorem d_C_takes_85 : decode b_C_takes 85 = .ok (.if_icmp .eq 9, 3) := by decide +kernel
theorem d_C_takes_88 : decode b_C_takes 88 = .ok (.iload_n 1, 1) := by decide +kernel
theorem d_C_takes_89 : decode b_C_takes 89 = .ok (.bipush 12, 2) := by decide +kernel
theorem d_C_takes_91 : decode b_C_takes 91 = .ok (.if_icmp .ne 7, 3) := by decide +kernel
theorem d_C_takes_94 : decode b_C_takes 94 = .ok (.iconst 1, 1) := by decide +kernel
theorem d_C_takes_95 : decode b_C_takes 95 = .ok (.goto 4, 3) := by decide +kernel
theorem d_C_takes_98 : decode b_C_takes 98 = .ok (.iconst 0, 1) := by decide +kernel
theorem d_C_takes_99 : decode b_C_takes 99 = .ok (.ireturn, 1) := by decide +kernel
theorem d_C_takes_100 : decode b_C_takes 100 = .ok (.iload_n 1, 1) := by decide +kernel
theorem d_C_takes_101 : decode b_C_takes 101 = .ok (.bipush 12, 2) := by decide +kernel
theorem d_C_takes_103 : decode b_C_takes 103 = .ok (.if_icmp .ne 7, 3) := by decide +kernel
theorem d_C_takes_106 : decode b_C_takes 106 = .ok (.iconst 1, 1) := by decide +kernel
theorem d_C_takes_107 : decode b_C_takes 107 = .ok (.goto 4, 3) := by decide +kernel
theorem d_C_takes_110 : decode b_C_takes 110 = .ok (.iconst 0, 1) := by decide +kernel
theorem d_C_takes_111 : decode b_C_takes 111 = .ok (.ireturn, 1) := by decide +kernel
theorem d_C_takes_112 : decode b_C_takes 112 = .ok (.getstatic 141, 3) := by decide +kernel
theorem d_C_takes_115 : decode b_C_takes 115 = .ok (.iload_n 1, 1) := by decide +kernel
theorem d_C_takes_116 : decode b_C_takes 116 = .ok (.iaload, 1) := by decide +kernel
theorem d_C_takes_117 : decode b_C_takes 117 = .ok (.iload_n 0, 1) := by decide +kernel
theorem d_C_takes_118 : decode b_C_takes 118 = .ok (.if_icmp .ne 7, 3) := by decide +kernel
theorem d_C_takes_121 : decode b_C_takes 121 = .ok (.iconst 1, 1) := by decide +kernel
theorem d_C_takes_122 : decode b_C_takes 122 = .ok (.goto 4, 3) := by decide +kernel
theorem d_C_takes_125 : decode b_C_takes 125 = .ok (.iconst 0, 1) := by decide +kernel
theorem d_C_takes_126 : decode b_C_takes 126 = .ok (.ireturn, 1) := by decide +kernel
theorem d_M_init_0 : decode b_M_init 0 = .ok (.aload_n 0, 1) := by decide +kernel
theorem d_M_init_1 : decode b_M_init 1 = .ok (.invokespecial 1, 3) := by decide +kernel
theorem d_M_init_4 : decode b_M_init 4 = .ok (.aload_n 0, 1) := by decide +kernel
theorem d_M_init_5 : decode b_M_init 5 = .ok (.sipush 520, 3) := by decide +kernel
theorem d_M_init_8 : decode b_M_init 8 = .ok (.newarray .int, 2) := by decide +kernel
theorem d_M_init_10 : decode b_M_init 10 = .ok (.putfield 7, 3) := by decide +kernel
theorem d_M_init_13 : decode b_M_init 13 = .ok (.aload_n 0, 1) := by decide +kernel
theorem d_M_init_14 : decode b_M_init 14 = .ok (.sipush 520, 3) := by decide +kernel
theorem d_M_init_17 : decode b_M_init 17 = .ok (.newarray .long, 2) := by decide +kernel
theorem d_M_init_19 : decode b_M_init 19 = .ok (.putfield 13, 3) := by decide +kernel
theorem d_M_init_22 : decode b_M_init 22 = .ok (.aload_n 0, 1) := by decide +kernel
theorem d_M_init_23 : decode b_M_init 23 = .ok (.sipush 520, 3) := by decide +kernel
theorem d_M_init_26 : decode b_M_init 26 = .ok (.newarray .double, 2) := by decide +kernel
theorem d_M_init_28 : decode b_M_init 28 = .ok (.putfield 17, 3) := by decide +kernel
theorem d_M_init_31 : decode b_M_init 31 = .ok (.aload_n 0, 1) := by decide +kernel
theorem d_M_init_32 : decode b_M_init 32 = .ok (.sipush 520, 3) := by decide +kernel
theorem d_M_init_35 : decode b_M_init 35 = .ok (.newarray .int, 2) := by decide +kernel
theorem d_M_init_37 : decode b_M_init 37 = .ok (.putfield 21, 3) := by decide +kernel
theorem d_M_init_40 : decode b_M_init 40 = .ok (.aload_n 0, 1) := by decide +kernel
theorem d_M_init_41 : decode b_M_init 41 = .ok (.sipush 520, 3) := by decide +kernel
theorem d_M_init_44 : decode b_M_init 44 = .ok (.newarray .int, 2) := by decide +kernel
theorem d_M_init_46 : decode b_M_init 46 = .ok (.putfield 24, 3) := by decide +kernel
theorem d_M_init_49 : decode b_M_init 49 = .ok (.aload_n 0, 1) := by decide +kernel
theorem d_M_init_50 : decode b_M_init 50 = .ok (.sipush 520, 3) := by decide +kernel
theorem d_M_init_53 : decode b_M_init 53 = .ok (.newarray .int, 2) := by decide +kernel
theorem d_M_init_55 : decode b_M_init 55 = .ok (.putfield 27, 3) := by decide +kernel
theorem d_M_init_58 : decode b_M_init 58 = .ok (.aload_n 0, 1) := by decide +kernel
theorem d_M_init_59 : decode b_M_init 59 = .ok (.sipush 520, 3) := by decide +kernel
theorem d_M_init_62 : decode b_M_init 62 = .ok (.newarray .int, 2) := by decide +kernel
theorem d_M_init_64 : decode b_M_init 64 = .ok (.putfield 30, 3) := by decide +kernel
theorem d_M_init_67 : decode b_M_init 67 = .ok (.aload_n 0, 1) := by decide +kernel
theorem d_M_init_68 : decode b_M_init 68 = .ok (.sipush 520, 3) := by decide +kernel
theorem d_M_init_71 : decode b_M_init 71 = .ok (.newarray .int, 2) := by decide +kernel
theorem d_M_init_73 : decode b_M_init 73 = .ok (.putfield 33, 3) := by decide +kernel
theorem d_M_init_76 : decode b_M_init 76 = .ok (.aload_n 0, 1) := by decide +kernel
theorem d_M_init_77 : decode b_M_init 77 = .ok (.bipush 9, 2) := by decide +kernel
theorem d_M_init_79 : decode b_M_init 79 = .ok (.newarray .int, 2) := by decide +kernel
theorem d_M_init_81 : decode b_M_init 81 = .ok (.putfield 36, 3) := by decide +kernel
theorem d_M_init_84 : decode b_M_init 84 = .ok (.aload_n 0, 1) := by decide +kernel
theorem d_M_init_85 : decode b_M_init 85 = .ok (.ldc2_w 39, 3) := by decide +kernel
theorem d_M_init_88 : decode b_M_init 88 = .ok (.putfield 41, 3) := by decide +kernel
theorem d_M_init_91 : decode b_M_init 91 = .ok (.return_, 1) := by decide +kernel
theorem d_M_in_0 : decode b_M_in 0 = .ok (.iload_n 0, 1) := by decide +kernel
theorem d_M_in_1 : decode b_M_in 1 = .ok (.iload_n 1, 1) := by decide +kernel
theorem d_M_in_2 : decode b_M_in 2 = .ok (.if_icmp .lt 12, 3) := by decide +kernel
theorem d_M_in_5 : decode b_M_in 5 = .ok (.iload_n 0, 1) := by decide +kernel
theorem d_M_in_6 : decode b_M_in 6 = .ok (.iload_n 2, 1) := by decide +kernel
theorem d_M_in_7 : decode b_M_in 7 = .ok (.if_icmp .gt 7, 3) := by decide +kernel
theorem d_M_in_10 : decode b_M_in 10 = .ok (.iconst 1, 1) := by decide +kernel
theorem d_M_in_11 : decode b_M_in 11 = .ok (.goto 4, 3) := by decide +kernel
theorem d_M_in_14 : decode b_M_in 14 = .ok (.iconst 0, 1) := by decide +kernel
theorem d_M_in_15 : decode b_M_in 15 = .ok (.ireturn, 1) := by decide +kernel
theorem d_M_tell_0 : decode b_M_tell 0 = .ok (.aload_n 0, 1) := by decide +kernel
theorem d_M_tell_1 : decode b_M_tell 1 = .ok (.lload_n 2, 1) := by decide +kernel
theorem d_M_tell_2 : decode b_M_tell 2 = .ok (.putfield 45, 3) := by decide +kernel
theorem d_M_tell_5 : decode b_M_tell 5 = .ok (.iload_n 1, 1) := by decide +kernel
theorem d_M_tell_6 : decode b_M_tell 6 = .ok (.ireturn, 1) := by decide +kernel
theorem d_M_create_0 : decode b_M_create 0 = .ok (.aload_n 0, 1) := by decide +kernel
theorem d_M_create_1 : decode b_M_create 1 = .ok (.dup, 1) := by decide +kernel
theorem d_M_create_2 : decode b_M_create 2 = .ok (.getfield 48, 3) := by decide +kernel
theorem d_M_create_5 : decode b_M_create 5 = .ok (.iconst 1, 1) := by decide +kernel
theorem d_M_create_6 : decode b_M_create 6 = .ok (.iadd, 1) := by decide +kernel
theorem d_M_create_7 : decode b_M_create 7 = .ok (.putfield 48, 3) := by decide +kernel
theorem d_M_create_10 : decode b_M_create 10 = .ok (.aload_n 0, 1) := by decide +kernel
theorem d_M_create_11 : decode b_M_create 11 = .ok (.getfield 7, 3) := by decide +kernel
theorem d_M_create_14 : decode b_M_create 14 = .ok (.aload_n 0, 1) := by decide +kernel
theorem d_M_create_15 : decode b_M_create 15 = .ok (.getfield 48, 3) := by decide +kernel
theorem d_M_create_18 : decode b_M_create 18 = .ok (.iload_n 1, 1) := by decide +kernel
theorem d_M_create_19 : decode b_M_create 19 = .ok (.iastore, 1) := by decide +kernel
theorem d_M_create_20 : decode b_M_create 20 = .ok (.aload_n 0, 1) := by decide +kernel
theorem d_M_create_21 : decode b_M_create 21 = .ok (.getfield 48, 3) := by decide +kernel
theorem d_M_create_24 : decode b_M_create 24 = .ok (.ireturn, 1) := by decide +kernel
theorem d_M_isBox_0 : decode b_M_isBox 0 = .ok (.aload_n 0, 1) := by decide +kernel
theorem d_M_isBox_1 : decode b_M_isBox 1 = .ok (.getfield 7, 3) := by decide +kernel
theorem d_M_isBox_4 : decode b_M_isBox 4 = .ok (.iload_n 1, 1) := by decide +kernel
theorem d_M_isBox_5 : decode b_M_isBox 5 = .ok (.iaload, 1) := by decide +kernel
theorem d_M_isBox_6 : decode b_M_isBox 6 = .ok (.iconst 1, 1) := by decide +kernel
theorem d_M_isBox_7 : decode b_M_isBox 7 = .ok (.bipush 8, 2) := by decide +kernel
theorem d_M_isBox_9 : decode b_M_isBox 9 = .ok (.invokestatic 52, 3) := by decide +kernel
theorem d_M_isBox_12 : decode b_M_isBox 12 = .ok (.ireturn, 1) := by decide +kernel
theorem d_M_isItem_0 : decode b_M_isItem 0 = .ok (.aload_n 0, 1) := by decide +kernel
theorem d_M_isItem_1 : decode b_M_isItem 1 = .ok (.getfield 7, 3) := by decide +kernel
theorem d_M_isItem_4 : decode b_M_isItem 4 = .ok (.iload_n 1, 1) := by decide +kernel
theorem d_M_isItem_5 : decode b_M_isItem 5 = .ok (.iaload, 1) := by decide +kernel
theorem d_M_isItem_6 : decode b_M_isItem 6 = .ok (.bipush 10, 2) := by decide +kernel
theorem d_M_isItem_8 : decode b_M_isItem 8 = .ok (.if_icmp .eq 14, 3) := by decide +kernel
theorem d_M_isItem_11 : decode b_M_isItem 11 = .ok (.aload_n 0, 1) := by decide +kernel
theorem d_M_isItem_12 : decode b_M_isItem 12 = .ok (.getfield 7, 3) := by decide +kernel
theorem d_M_isItem_15 : decode b_M_isItem 15 = .ok (.iload_n 1, 1) := by decide +kernel
theorem d_M_isItem_16 : decode b_M_isItem 16 = .ok (.iaload, 1) := by decide +kernel
theorem d_M_isItem_17 : decode b_M_isItem 17 = .ok (.bipush 11, 2) := by decide +kernel
theorem d_M_isItem_19 : decode b_M_isItem 19 = .ok (.if_icmp .ne 7, 3) := by decide +kernel
theorem d_M_isItem_22 : decode b_M_isItem 22 = .ok (.iconst 1, 1) := by decide +kernel
theorem d_M_isItem_23 : decode b_M_isItem 23 = .ok (.goto 4, 3) := by decide +kernel
theorem d_M_isItem_26 : decode b_M_isItem 26 = .ok (.iconst 0, 1) := by decide +kernel
theorem d_M_isItem_27 : decode b_M_isItem 27 = .ok (.ireturn, 1) := by decide +kernel
theorem d_M_widens_0 : decode b_M_widens 0 = .ok (.iload_n 0, 1) := by decide +kernel
theorem d_M_widens_1 : decode b_M_widens 1 = .ok (.iload_n 1, 1) := by decide +kernel
theorem d_M_widens_2 : decode b_M_widens 2 = .ok (.if_icmp .ne 5, 3) := by decide +kernel
theorem d_M_widens_5 : decode b_M_widens 5 = .ok (.iconst 1, 1) := by decide +kernel
theorem d_M_widens_6 : decode b_M_widens 6 = .ok (.ireturn, 1) := by decide +kernel
theorem d_M_widens_7 : decode b_M_widens 7 = .ok (.iload_n 0, 1) := by decide +kernel
theorem d_M_widens_8 : decode b_M_widens 8 = .ok (.ifCond .eq 7, 3) := by decide +kernel
theorem d_M_widens_11 : decode b_M_widens 11 = .ok (.iload_n 1, 1) := by decide +kernel
theorem d_M_widens_12 : decode b_M_widens 12 = .ok (.ifCond .ne 5, 3) := by decide +kernel
theorem d_M_widens_15 : decode b_M_widens 15 = .ok (.iconst 0, 1) := by decide +kernel
theorem d_M_widens_16 : decode b_M_widens 16 = .ok (.ireturn, 1) := by decide +kernel
theorem d_M_widens_17 : decode b_M_widens 17 = .ok (.iload_n 0, 1) := by decide +kernel
theorem d_M_widens_18 : decode b_M_widens 18 = .ok (.iconst 1, 1) := by decide +kernel
theorem d_M_widens_19 : decode b_M_widens 19 = .ok (.if_icmp .ne 14, 3) := by decide +kernel
theorem d_M_widens_22 : decode b_M_widens 22 = .ok (.iload_n 1, 1) := by decide +kernel
theorem d_M_widens_23 : decode b_M_widens 23 = .ok (.iconst 3, 1) := by decide +kernel
theorem d_M_widens_24 : decode b_M_widens 24 = .ok (.if_icmp .lt 7, 3) := by decide +kernel
theorem d_M_widens_27 : decode b_M_widens 27 = .ok (.iconst 1, 1) := by decide +kernel
theorem d_M_widens_28 : decode b_M_widens 28 = .ok (.goto 4, 3) := by decide +kernel
theorem d_M_widens_31 : decode b_M_widens 31 = .ok (.iconst 0, 1) := by decide +kernel
theorem d_M_widens_32 : decode b_M_widens 32 = .ok (.ireturn, 1) := by decide +kernel
theorem d_M_widens_33 : decode b_M_widens 33 = .ok (.iload_n 0, 1) := by decide +kernel
theorem d_M_widens_34 : decode b_M_widens 34 = .ok (.iconst 2, 1) := by decide +kernel
theorem d_M_widens_35 : decode b_M_widens 35 = .ok (.if_icmp .ne 14, 3) := by decide +kernel
theorem d_M_widens_38 : decode b_M_widens 38 = .ok (.iload_n 1, 1) := by decide +kernel
theorem d_M_widens_39 : decode b_M_widens 39 = .ok (.iconst 4, 1) := by decide +kernel
theorem d_M_widens_40 : decode b_M_widens 40 = .ok (.if_icmp .lt 7, 3) := by decide +kernel
theorem d_M_widens_43 : decode b_M_widens 43 = .ok (.iconst 1, 1) := by decide +kernel
theorem d_M_widens_44 : decode b_M_widens 44 = .ok (.goto 4, 3) := by decide +kernel
theorem d_M_widens_47 : decode b_M_widens 47 = .ok (.iconst 0, 1) := by decide +kernel
theorem d_M_widens_48 : decode b_M_widens 48 = .ok (.ireturn, 1) := by decide +kernel
theorem d_M_widens_49 : decode b_M_widens 49 = .ok (.iload_n 1, 1) := by decide +kernel
theorem d_M_widens_50 : decode b_M_widens 50 = .ok (.iload_n 0, 1) := by decide +kernel
theorem d_M_widens_51 : decode b_M_widens 51 = .ok (.if_icmp .le 7, 3) := by decide +kernel
theorem d_M_widens_54 : decode b_M_widens 54 = .ok (.iconst 1, 1) := by decide +kernel
theorem d_M_widens_55 : decode b_M_widens 55 = .ok (.goto 4, 3) := by decide +kernel
theorem d_M_widens_58 : decode b_M_widens 58 = .ok (.iconst 0, 1) := by decide +kernel
theorem d_M_widens_59 : decode b_M_widens 59 = .ok (.ireturn, 1) := by decide +kernel
theorem d_M_convert_0 : decode b_M_convert 0 = .ok (.iload_n 1, 1) := by decide +kernel
theorem d_M_convert_1 : decode b_M_convert 1 = .ok (.bipush 6, 2) := by decide +kernel
theorem d_M_convert_3 : decode b_M_convert 3 = .ok (.if_icmp .ge 19, 3) := by decide +kernel
theorem d_M_convert_6 : decode b_M_convert 6 = .ok (.iload_n 2, 1) := by decide +kernel
theorem d_M_convert_7 : decode b_M_convert 7 = .ok (.bipush 6, 2) := by decide +kernel
theorem d_M_convert_9 : decode b_M_convert 9 = .ok (.if_icmp .ne 13, 3) := by decide +kernel
theorem d_M_convert_12 : decode b_M_convert 12 = .ok (.aload_n 0, 1) := by decide +kernel
theorem d_M_convert_13 : decode b_M_convert 13 = .ok (.aload_n 0, 1) := by decide +kernel
theorem d_M_convert_14 : decode b_M_convert 14 = .ok (.getfield 56, 3) := by decide +kernel
theorem d_M_convert_17 : decode b_M_convert 17 = .ok (.l2f, 1) := by decide +kernel
theorem d_M_convert_18 : decode b_M_convert 18 = .ok (.f2d, 1) := by decide +kernel
theorem d_M_convert_19 : decode b_M_convert 19 = .ok (.putfield 59, 3) := by decide +kernel
theorem d_M_convert_22 : decode b_M_convert 22 = .ok (.iload_n 1, 1) := by decide +kernel
theorem d_M_convert_23 : decode b_M_convert 23 = .ok (.bipush 6, 2) := by decide +kernel
theorem d_M_convert_25 : decode b_M_convert 25 = .ok (.if_icmp .ge 18, 3) := by decide +kernel
theorem d_M_convert_28 : decode b_M_convert 28 = .ok (.iload_n 2, 1) := by decide +kernel
theorem d_M_convert_29 : decode b_M_convert 29 = .ok (.bipush 7, 2) := by decide +kernel
theorem d_M_convert_31 : decode b_M_convert 31 = .ok (.if_icmp .ne 12, 3) := by decide +kernel
theorem d_M_convert_34 : decode b_M_convert 34 = .ok (.aload_n 0, 1) := by decide +kernel
theorem d_M_convert_35 : decode b_M_convert 35 = .ok (.aload_n 0, 1) := by decide +kernel
theorem d_M_convert_36 : decode b_M_convert 36 = .ok (.getfield 56, 3) := by decide +kernel
theorem d_M_convert_39 : decode b_M_convert 39 = .ok (.l2d, 1) := by decide +kernel
theorem d_M_convert_40 : decode b_M_convert 40 = .ok (.putfield 59, 3) := by decide +kernel
theorem d_M_convert_43 : decode b_M_convert 43 = .ok (.return_, 1) := by decide +kernel
theorem d_M_told_0 : decode b_M_told 0 = .ok (.iload_n 1, 1) := by decide +kernel
theorem d_M_told_1 : decode b_M_told 1 = .ok (.bipush 6, 2) := by decide +kernel
theorem d_M_told_3 : decode b_M_told 3 = .ok (.if_icmp .ge 10, 3) := by decide +kernel
theorem d_M_told_6 : decode b_M_told 6 = .ok (.aload_n 0, 1) := by decide +kernel
theorem d_M_told_7 : decode b_M_told 7 = .ok (.getfield 56, 3) := by decide +kernel
theorem d_M_told_10 : decode b_M_told 10 = .ok (.goto 12, 3) := by decide +kernel
theorem d_M_told_13 : decode b_M_told 13 = .ok (.aload_n 0, 1) := by decide +kernel
theorem d_M_told_14 : decode b_M_told 14 = .ok (.getfield 59, 3) := by decide +kernel
theorem d_M_told_17 : decode b_M_told 17 = .ok (.ldc2_w 63, 3) := by decide +kernel
theorem d_M_told_20 : decode b_M_told 20 = .ok (.dmul, 1) := by decide +kernel
theorem d_M_told_21 : decode b_M_told 21 = .ok (.d2l, 1) := by decide +kernel
theorem d_M_told_22 : decode b_M_told 22 = .ok (.lreturn, 1) := by decide +kernel
theorem d_M_box_0 : decode b_M_box 0 = .ok (.aload_n 0, 1) := by decide +kernel
theorem d_M_box_1 : decode b_M_box 1 = .ok (.iload_n 1, 1) := by decide +kernel
theorem d_M_box_2 : decode b_M_box 2 = .ok (.iconst 1, 1) := by decide +kernel
theorem d_M_box_3 : decode b_M_box 3 = .ok (.iadd, 1) := by decide +kernel
theorem d_M_box_4 : decode b_M_box 4 = .ok (.invokevirtual 65, 3) := by decide +kernel
theorem d_M_box_7 : decode b_M_box 7 = .ok (.istore_n 2, 1) := by decide +kernel
theorem d_M_box_8 : decode b_M_box 8 = .ok (.aload_n 0, 1) := by decide +kernel
theorem d_M_box_9 : decode b_M_box 9 = .ok (.getfield 13, 3) := by decide +kernel
theorem d_M_box_12 : decode b_M_box 12 = .ok (.iload_n 2, 1) := by decide +kernel
theorem d_M_box_13 : decode b_M_box 13 = .ok (.aload_n 0, 1) := by decide +kernel
theorem d_M_box_14 : decode b_M_box 14 = .ok (.getfield 56, 3) := by decide +kernel
theorem d_M_box_17 : decode b_M_box 17 = .ok (.lastore, 1) := by decide +kernel
theorem d_M_box_18 : decode b_M_box 18 = .ok (.aload_n 0, 1) := by decide +kernel
theorem d_M_box_19 : decode b_M_box 19 = .ok (.getfield 17, 3) := by decide +kernel
theorem d_M_box_22 : decode b_M_box 22 = .ok (.iload_n 2, 1) := by decide +kernel
theorem d_M_box_23 : decode b_M_box 23 = .ok (.aload_n 0, 1) := by decide +kernel
theorem d_M_box_24 : decode b_M_box 24 = .ok (.getfield 59, 3) := by decide +kernel
theorem d_M_box_27 : decode b_M_box 27 = .ok (.dastore, 1) := by decide +kernel
theorem d_M_box_28 : decode b_M_box 28 = .ok (.iload_n 2, 1) := by decide +kernel
theorem d_M_box_29 : decode b_M_box 29 = .ok (.ireturn, 1) := by decide +kernel
theorem d_M_unboxes_0 : decode b_M_unboxes 0 = .ok (.aload_n 0, 1) := by decide +kernel
theorem d_M_unboxes_1 : decode b_M_unboxes 1 = .ok (.iload_n 1, 1) := by decide +kernel
theorem d_M_unboxes_2 : decode b_M_unboxes 2 = .ok (.invokevirtual 69, 3) := by decide +kernel
theorem d_M_unboxes_5 : decode b_M_unboxes 5 = .ok (.ifCond .eq 18, 3) := by decide +kernel
theorem d_M_unboxes_8 : decode b_M_unboxes 8 = .ok (.aload_n 0, 1) := by decide +kernel
theorem d_M_unboxes_9 : decode b_M_unboxes 9 = .ok (.getfield 7, 3) := by decide +kernel
theorem d_M_unboxes_12 : decode b_M_unboxes 12 = .ok (.iload_n 1, 1) := by decide +kernel
theorem d_M_unboxes_13 : decode b_M_unboxes 13 = .ok (.iaload, 1) := by decide +kernel
theorem d_M_unboxes_14 : decode b_M_unboxes 14 = .ok (.iconst 1, 1) := by decide +kernel
theorem d_M_unboxes_15 : decode b_M_unboxes 15 = .ok (.isub, 1) := by decide +kernel
theorem d_M_unboxes_16 : decode b_M_unboxes 16 = .ok (.iload_n 2, 1) := by decide +kernel
theorem d_M_unboxes_17 : decode b_M_unboxes 17 = .ok (.invokestatic 73, 3) := by decide +kernel
theorem d_M_unboxes_20 : decode b_M_unboxes 20 = .ok (.ifCond .ne 5, 3) := by decide +kernel
theorem d_M_unboxes_23 : decode b_M_unboxes 23 = .ok (.iconst 0, 1) := by decide +kernel
theorem d_M_unboxes_24 : decode b_M_unboxes 24 = .ok (.ireturn, 1) := by decide +kernel
theorem d_M_unboxes_25 : decode b_M_unboxes 25 = .ok (.aload_n 0, 1) := by decide +kernel
theorem d_M_unboxes_26 : decode b_M_unboxes 26 = .ok (.aload_n 0, 1) := by decide +kernel
theorem d_M_unboxes_27 : decode b_M_unboxes 27 = .ok (.getfield 13, 3) := by decide +kernel
theorem d_M_unboxes_30 : decode b_M_unboxes 30 = .ok (.iload_n 1, 1) := by decide +kernel
theorem d_M_unboxes_31 : decode b_M_unboxes 31 = .ok (.laload, 1) := by decide +kernel
theorem d_M_unboxes_32 : decode b_M_unboxes 32 = .ok (.putfield 56, 3) := by decide +kernel
theorem d_M_unboxes_35 : decode b_M_unboxes 35 = .ok (.aload_n 0, 1) := by decide +kernel
theorem d_M_unboxes_36 : decode b_M_unboxes 36 = .ok (.aload_n 0, 1) := by decide +kernel
theorem d_M_unboxes_37 : decode b_M_unboxes 37 = .ok (.getfield 17, 3) := by decide +kernel
theorem d_M_unboxes_40 : decode b_M_unboxes 40 = .ok (.iload_n 1, 1) := by decide +kernel
theorem d_M_unboxes_41 : decode b_M_unboxes 41 = .ok (.daload, 1) := by decide +kernel
theorem d_M_unboxes_42 : decode b_M_unboxes 42 = .ok (.putfield 59, 3) := by decide +kernel
theorem d_M_unboxes_45 : decode b_M_unboxes 45 = .ok (.aload_n 0, 1) := by decide +kernel
theorem d_M_unboxes_46 : decode b_M_unboxes 46 = .ok (.aload_n 0, 1) := by decide +kernel
theorem d_M_unboxes_47 : decode b_M_unboxes 47 = .ok (.getfield 7, 3) := by decide +kernel
theorem d_M_unboxes_50 : decode b_M_unboxes 50 = .ok (.iload_n 1, 1) := by decide +kernel
theorem d_M_unboxes_51 : decode b_M_unboxes 51 = .ok (.iaload, 1) := by decide +kernel
theorem d_M_unboxes_52 : decode b_M_unboxes 52 = .ok (.iconst 1, 1) := by decide +kernel
theorem d_M_unboxes_53 : decode b_M_unboxes 53 = .ok (.isub, 1) := by decide +kernel
theorem d_M_unboxes_54 : decode b_M_unboxes 54 = .ok (.iload_n 2, 1) := by decide +kernel
theorem d_M_unboxes_55 : decode b_M_unboxes 55 = .ok (.invokevirtual 77, 3) := by decide +kernel
theorem d_M_unboxes_58 : decode b_M_unboxes 58 = .ok (.iconst 1, 1) := by decide +kernel
theorem d_M_unboxes_59 : decode b_M_unboxes 59 = .ok (.ireturn, 1) := by decide +kernel
theorem d_M_put_0 : decode b_M_put 0 = .ok (.iload_n 1, 1) := by decide +kernel
theorem d_M_put_1 : decode b_M_put 1 = .ok (.iconst 0, 1) := by decide +kernel
theorem d_M_put_2 : decode b_M_put 2 = .ok (.bipush 7, 2) := by decide +kernel
theorem d_M_put_4 : decode b_M_put 4 = .ok (.invokestatic 52, 3) := by decide +kernel
theorem d_M_put_7 : decode b_M_put 7 = .ok (.ifCond .eq 13, 3) := by decide +kernel
theorem d_M_put_10 : decode b_M_put 10 = .ok (.iload_n 2, 1) := by decide +kernel
theorem d_M_put_11 : decode b_M_put 11 = .ok (.iconst 0, 1) := by decide +kernel
theorem d_M_put_12 : decode b_M_put 12 = .ok (.bipush 8, 2) := by decide +kernel
theorem d_M_put_14 : decode b_M_put 14 = .ok (.invokestatic 52, 3) := by decide +kernel
theorem d_M_put_17 : decode b_M_put 17 = .ok (.ifCond .ne 5, 3) := by decide +kernel
theorem d_M_put_20 : decode b_M_put 20 = .ok (.iconst (-1), 1) := by decide +kernel
theorem d_M_put_21 : decode b_M_put 21 = .ok (.ireturn, 1) := by decide +kernel
theorem d_M_put_22 : decode b_M_put 22 = .ok (.iload_n 2, 1) := by decide +kernel
theorem d_M_put_23 : decode b_M_put 23 = .ok (.bipush 8, 2) := by decide +kernel
theorem d_M_put_25 : decode b_M_put 25 = .ok (.if_icmp .ne 46, 3) := by decide +kernel
theorem d_M_put_28 : decode b_M_put 28 = .ok (.aload_n 0, 1) := by decide +kernel
theorem d_M_put_29 : decode b_M_put 29 = .ok (.bipush 9, 2) := by decide +kernel
theorem d_M_put_31 : decode b_M_put 31 = .ok (.invokevirtual 65, 3) := by decide +kernel
theorem d_M_put_34 : decode b_M_put 34 = .ok (.istore 5, 2) := by decide +kernel
theorem d_M_put_36 : decode b_M_put 36 = .ok (.aload_n 0, 1) := by decide +kernel
theorem d_M_put_37 : decode b_M_put 37 = .ok (.getfield 13, 3) := by decide +kernel
theorem d_M_put_40 : decode b_M_put 40 = .ok (.iload 5, 2) := by decide +kernel
theorem d_M_put_42 : decode b_M_put 42 = .ok (.lload_n 3, 1) := by decide +kernel
theorem d_M_put_43 : decode b_M_put 43 = .ok (.ldc2_w 81, 3) := by decide +kernel
theorem d_M_put_46 : decode b_M_put 46 = .ok (.lrem, 1) := by decide +kernel
theorem d_M_put_47 : decode b_M_put 47 = .ok (.ldc2_w 81, 3) := by decide +kernel
theorem d_M_put_50 : decode b_M_put 50 = .ok (.ladd, 1) := by decide +kernel
theorem d_M_put_51 : decode b_M_put 51 = .ok (.ldc2_w 81, 3) := by decide +kernel
theorem d_M_put_54 : decode b_M_put 54 = .ok (.lrem, 1) := by decide +kernel
theorem d_M_put_55 : decode b_M_put 55 = .ok (.lastore, 1) := by decide +kernel
theorem d_M_put_56 : decode b_M_put 56 = .ok (.aload_n 0, 1) := by decide +kernel
theorem d_M_put_57 : decode b_M_put 57 = .ok (.getfield 36, 3) := by decide +kernel
theorem d_M_put_60 : decode b_M_put 60 = .ok (.iload_n 1, 1) := by decide +kernel
theorem d_M_put_61 : decode b_M_put 61 = .ok (.iload 5, 2) := by decide +kernel
theorem d_M_put_63 : decode b_M_put 63 = .ok (.iastore, 1) := by decide +kernel
theorem d_M_put_64 : decode b_M_put 64 = .ok (.aload_n 0, 1) := by decide +kernel
theorem d_M_put_65 : decode b_M_put 65 = .ok (.iconst 0, 1) := by decide +kernel
theorem d_M_put_66 : decode b_M_put 66 = .ok (.lconst 0, 1) := by decide +kernel
theorem d_M_put_67 : decode b_M_put 67 = .ok (.invokevirtual 83, 3) := by decide +kernel
theorem d_M_put_70 : decode b_M_put 70 = .ok (.ireturn, 1) := by decide +kernel
theorem d_M_put_71 : decode b_M_put 71 = .ok (.aload_n 0, 1) := by decide +kernel
theorem d_M_put_72 : decode b_M_put 72 = .ok (.lload_n 3, 1) := by decide +kernel
theorem d_M_put_73 : decode b_M_put 73 = .ok (.putfield 56, 3) := by decide +kernel
theorem d_M_put_76 : decode b_M_put 76 = .ok (.iload_n 2, 1) := by decide +kernel
theorem d_M_put_77 : decode b_M_put 77 = .ok (.ifCond .ne 10, 3) := by decide +kernel
theorem d_M_put_80 : decode b_M_put 80 = .ok (.aload_n 0, 1) := by decide +kernel
theorem d_M_put_81 : decode b_M_put 81 = .ok (.lload_n 3, 1) := by decide +kernel
theorem d_M_put_82 : decode b_M_put 82 = .ok (.lconst 1, 1) := by decide +kernel
theorem d_M_put_83 : decode b_M_put 83 = .ok (.land, 1) := by decide +kernel
theorem d_M_put_84 : decode b_M_put 84 = .ok (.putfield 56, 3) := by decide +kernel
theorem d_M_put_87 : decode b_M_put 87 = .ok (.iload_n 2, 1) := by decide +kernel
theorem d_M_put_88 : decode b_M_put 88 = .ok (.iconst 1, 1) := by decide +kernel
theorem d_M_put_89 : decode b_M_put 89 = .ok (.if_icmp .ne 11, 3) := by decide +kernel
theorem d_M_put_92 : decode b_M_put 92 = .ok (.aload_n 0, 1) := by decide +kernel
theorem d_M_put_93 : decode b_M_put 93 = .ok (.lload_n 3, 1) := by decide +kernel
theorem d_M_put_94 : decode b_M_put 94 = .ok (.l2i, 1) := by decide +kernel
theorem d_M_put_95 : decode b_M_put 95 = .ok (.i2b, 1) := by decide +kernel
theorem d_M_put_96 : decode b_M_put 96 = .ok (.i2l, 1) := by decide +kernel
theorem d_M_put_97 : decode b_M_put 97 = .ok (.putfield 56, 3) := by decide +kernel
theorem d_M_put_100 : decode b_M_put 100 = .ok (.iload_n 2, 1) := by decide +kernel
theorem d_M_put_101 : decode b_M_put 101 = .ok (.iconst 2, 1) := by decide +kernel
theorem d_M_put_102 : decode b_M_put 102 = .ok (.if_icmp .ne 12, 3) := by decide +kernel
theorem d_M_put_105 : decode b_M_put 105 = .ok (.aload_n 0, 1) := by decide +kernel
theorem d_M_put_106 : decode b_M_put 106 = .ok (.lload_n 3, 1) := by decide +kernel
theorem d_M_put_107 : decode b_M_put 107 = .ok (.ldc2_w 87, 3) := by decide +kernel
theorem d_M_put_110 : decode b_M_put 110 = .ok (.land, 1) := by decide +kernel
theorem d_M_put_111 : decode b_M_put 111 = .ok (.putfield 56, 3) := by decide +kernel
theorem d_M_put_114 : decode b_M_put 114 = .ok (.iload_n 2, 1) := by decide +kernel
theorem d_M_put_115 : decode b_M_put 115 = .ok (.iconst 3, 1) := by decide +kernel
theorem d_M_put_116 : decode b_M_put 116 = .ok (.if_icmp .ne 11, 3) := by decide +kernel
theorem d_M_put_119 : decode b_M_put 119 = .ok (.aload_n 0, 1) := by decide +kernel
theorem d_M_put_120 : decode b_M_put 120 = .ok (.lload_n 3, 1) := by decide +kernel
theorem d_M_put_121 : decode b_M_put 121 = .ok (.l2i, 1) := by decide +kernel
theorem d_M_put_122 : decode b_M_put 122 = .ok (.i2s, 1) := by decide +kernel
theorem d_M_put_123 : decode b_M_put 123 = .ok (.i2l, 1) := by decide +kernel
theorem d_M_put_124 : decode b_M_put 124 = .ok (.putfield 56, 3) := by decide +kernel
theorem d_M_put_127 : decode b_M_put 127 = .ok (.iload_n 2, 1) := by decide +kernel
theorem d_M_put_128 : decode b_M_put 128 = .ok (.iconst 4, 1) := by decide +kernel
theorem d_M_put_129 : decode b_M_put 129 = .ok (.if_icmp .ne 10, 3) := by decide +kernel
theorem d_M_put_132 : decode b_M_put 132 = .ok (.aload_n 0, 1) := by decide +kernel
theorem d_M_put_133 : decode b_M_put 133 = .ok (.lload_n 3, 1) := by decide +kernel
theorem d_M_put_134 : decode b_M_put 134 = .ok (.l2i, 1) := by decide +kernel
theorem d_M_put_135 : decode b_M_put 135 = .ok (.i2l, 1) := by decide +kernel
theorem d_M_put_136 : decode b_M_put 136 = .ok (.putfield 56, 3) := by decide +kernel
theorem d_M_put_139 : decode b_M_put 139 = .ok (.iload_n 2, 1) := by decide +kernel
theorem d_M_put_140 : decode b_M_put 140 = .ok (.bipush 6, 2) := by decide +kernel
theorem d_M_put_142 : decode b_M_put 142 = .ok (.if_icmp .ne 13, 3) := by decide +kernel
theorem d_M_put_145 : decode b_M_put 145 = .ok (.aload_n 0, 1) := by decide +kernel
theorem d_M_put_146 : decode b_M_put 146 = .ok (.lload_n 3, 1) := by decide +kernel
theorem d_M_put_147 : decode b_M_put 147 = .ok (.l2f, 1) := by decide +kernel
theorem d_M_put_148 : decode b_M_put 148 = .ok (.ldc 89, 2) := by decide +kernel
theorem d_M_put_150 : decode b_M_put 150 = .ok (.fmul, 1) := by decide +kernel
theorem d_M_put_151 : decode b_M_put 151 = .ok (.f2d, 1) := by decide +kernel
theorem d_M_put_152 : decode b_M_put 152 = .ok (.putfield 59, 3) := by decide +kernel
theorem d_M_put_155 : decode b_M_put 155 = .ok (.iload_n 2, 1) := by decide +kernel
theorem d_M_put_156 : decode b_M_put 156 = .ok (.bipush 7, 2) := by decide +kernel
theorem d_M_put_158 : decode b_M_put 158 = .ok (.if_icmp .ne 13, 3) := by decide +kernel
theorem d_M_put_161 : decode b_M_put 161 = .ok (.aload_n 0, 1) := by decide +kernel
theorem d_M_put_162 : decode b_M_put 162 = .ok (.lload_n 3, 1) := by decide +kernel
theorem d_M_put_163 : decode b_M_put 163 = .ok (.l2d, 1) := by decide +kernel
theorem d_M_put_164 : decode b_M_put 164 = .ok (.ldc2_w 90, 3) := by decide +kernel
theorem d_M_put_167 : decode b_M_put 167 = .ok (.dmul, 1) := by decide +kernel
theorem d_M_put_168 : decode b_M_put 168 = .ok (.putfield 59, 3) := by decide +kernel
theorem d_M_put_171 : decode b_M_put 171 = .ok (.aload_n 0, 1) := by decide +kernel
theorem d_M_put_172 : decode b_M_put 172 = .ok (.getfield 36, 3) := by decide +kernel
theorem d_M_put_175 : decode b_M_put 175 = .ok (.iload_n 1, 1) := by decide +kernel
theorem d_M_put_176 : decode b_M_put 176 = .ok (.aload_n 0, 1) := by decide +kernel
theorem d_M_put_177 : decode b_M_put 177 = .ok (.iload_n 2, 1) := by decide +kernel
theorem d_M_put_178 : decode b_M_put 178 = .ok (.invokevirtual 92, 3) := by decide +kernel
theorem d_M_put_181 : decode b_M_put 181 = .ok (.iastore, 1) := by decide +kernel
theorem d_M_put_182 : decode b_M_put 182 = .ok (.aload_n 0, 1) := by decide +kernel
theorem d_M_put_183 : decode b_M_put 183 = .ok (.iconst 0, 1) := by decide +kernel
theorem d_M_put_184 : decode b_M_put 184 = .ok (.lconst 0, 1) := by decide +kernel
theorem d_M_put_185 : decode b_M_put 185 = .ok (.invokevirtual 83, 3) := by decide +kernel
theorem d_M_put_188 : decode b_M_put 188 = .ok (.ireturn, 1) := by decide +kernel
theorem d_M_hold_0 : decode b_M_hold 0 = .ok (.iload_n 1, 1) := by decide +kernel
theorem d_M_hold_1 : decode b_M_hold 1 = .ok (.iconst 0, 1) := by decide +kernel
theorem d_M_hold_2 : decode b_M_hold 2 = .ok (.bipush 7, 2) := by decide +kernel
theorem d_M_hold_4 : decode b_M_hold 4 = .ok (.invokestatic 52, 3) := by decide +kernel
theorem d_M_hold_7 : decode b_M_hold 7 = .ok (.ifCond .eq 13, 3) := by decide +kernel
theorem d_M_hold_10 : decode b_M_hold 10 = .ok (.iload_n 2, 1) := by decide +kernel
theorem d_M_hold_11 : decode b_M_hold 11 = .ok (.iconst (-1), 1) := by decide +kernel
theorem d_M_hold_12 : decode b_M_hold 12 = .ok (.bipush 8, 2) := by decide +kernel
theorem d_M_hold_14 : decode b_M_hold 14 = .ok (.invokestatic 52, 3) := by decide +kernel
theorem d_M_hold_17 : decode b_M_hold 17 = .ok (.ifCond .ne 5, 3) := by decide +kernel
theorem d_M_hold_20 : decode b_M_hold 20 = .ok (.iconst (-1), 1) := by decide +kernel
theorem d_M_hold_21 : decode b_M_hold 21 = .ok (.ireturn, 1) := by decide +kernel
theorem d_M_hold_22 : decode b_M_hold 22 = .ok (.aload_n 0, 1) := by decide +kernel
theorem d_M_hold_23 : decode b_M_hold 23 = .ok (.getfield 36, 3) := by decide +kernel
theorem d_M_hold_26 : decode b_M_hold 26 = .ok (.iload_n 1, 1) := by decide +kernel
theorem d_M_hold_27 : decode b_M_hold 27 = .ok (.iload_n 2, 1) := by decide +kernel
theorem d_M_hold_28 : decode b_M_hold 28 = .ok (.ifCond .ge 7, 3) := by decide +kernel
theorem d_M_hold_31 : decode b_M_hold 31 = .ok (.iconst 0, 1) := by decide +kernel
theorem d_M_hold_32 : decode b_M_hold 32 = .ok (.goto 9, 3) := by decide +kernel
theorem d_M_hold_35 : decode b_M_hold 35 = .ok (.aload_n 0, 1) := by decide +kernel
theorem d_M_hold_36 : decode b_M_hold 36 = .ok (.getfield 36, 3) := by decide +kernel
theorem d_M_hold_39 : decode b_M_hold 39 = .ok (.iload_n 2, 1) := by decide +kernel
theorem d_M_hold_40 : decode b_M_hold 40 = .ok (.iaload, 1) := by decide +kernel
theorem d_M_hold_41 : decode b_M_hold 41 = .ok (.iastore, 1) := by decide +kernel
theorem d_M_hold_42 : decode b_M_hold 42 = .ok (.aload_n 0, 1) := by decide +kernel
theorem d_M_hold_43 : decode b_M_hold 43 = .ok (.iconst 0, 1) := by decide +kernel
theorem d_M_hold_44 : decode b_M_hold 44 = .ok (.lconst 0, 1) := by decide +kernel
theorem d_M_hold_45 : decode b_M_hold 45 = .ok (.invokevirtual 83, 3) := by decide +kernel
theorem d_M_hold_48 : decode b_M_hold 48 = .ok (.ireturn, 1) := by decide +kernel
theorem d_M_make_0 : decode b_M_make 0 = .ok (.iload_n 1, 1) := by decide +kernel
theorem d_M_make_1 : decode b_M_make 1 = .ok (.iconst 0, 1) := by decide +kernel
theorem d_M_make_2 : decode b_M_make 2 = .ok (.bipush 7, 2) := by decide +kernel
theorem d_M_make_4 : decode b_M_make 4 = .ok (.invokestatic 52, 3) := by decide +kernel
theorem d_M_make_7 : decode b_M_make 7 = .ok (.ifCond .ne 5, 3) := by decide +kernel
theorem d_M_make_10 : decode b_M_make 10 = .ok (.iconst (-1), 1) := by decide +kernel
theorem d_M_make_11 : decode b_M_make 11 = .ok (.ireturn, 1) := by decide +kernel
theorem d_M_make_12 : decode b_M_make 12 = .ok (.iload_n 2, 1) := by decide +kernel
theorem d_M_make_13 : decode b_M_make 13 = .ok (.ifCond .eq 21, 3) := by decide +kernel
theorem d_M_make_16 : decode b_M_make 16 = .ok (.iload_n 1, 1) := by decide +kernel
theorem d_M_make_17 : decode b_M_make 17 = .ok (.iconst 2, 1) := by decide +kernel
theorem d_M_make_18 : decode b_M_make 18 = .ok (.if_icmp .eq 8, 3) := by decide +kernel
theorem d_M_make_21 : decode b_M_make 21 = .ok (.iload_n 1, 1) := by decide +kernel
theorem d_M_make_22 : decode b_M_make 22 = .ok (.iconst 5, 1) := by decide +kernel
theorem d_M_make_23 : decode b_M_make 23 = .ok (.if_icmp .lt 7, 3) := by decide +kernel
theorem d_M_make_26 : decode b_M_make 26 = .ok (.iconst 1, 1) := by decide +kernel
theorem d_M_make_27 : decode b_M_make 27 = .ok (.goto 37, 3) := by decide +kernel
theorem d_M_make_30 : decode b_M_make 30 = .ok (.iconst 0, 1) := by decide +kernel
theorem d_M_make_31 : decode b_M_make 31 = .ok (.goto 33, 3) := by decide +kernel
theorem d_M_make_34 : decode b_M_make 34 = .ok (.iload_n 1, 1) := by decide +kernel
theorem d_M_make_35 : decode b_M_make 35 = .ok (.ifCond .eq 24, 3) := by decide +kernel
theorem d_M_make_38 : decode b_M_make 38 = .ok (.iload_n 1, 1) := by decide +kernel
theorem d_M_make_39 : decode b_M_make 39 = .ok (.iconst 1, 1) := by decide +kernel
theorem d_M_make_40 : decode b_M_make 40 = .ok (.if_icmp .eq 19, 3) := by decide +kernel
theorem d_M_make_43 : decode b_M_make 43 = .ok (.iload_n 1, 1) := by decide +kernel
theorem d_M_make_44 : decode b_M_make 44 = .ok (.iconst 3, 1) := by decide +kernel
theorem d_M_make_45 : decode b_M_make 45 = .ok (.if_icmp .eq 14, 3) := by decide +kernel
theorem d_M_make_48 : decode b_M_make 48 = .ok (.iload_n 1, 1) := by decide +kernel
theorem d_M_make_49 : decode b_M_make 49 = .ok (.iconst 5, 1) := by decide +kernel
theorem d_M_make_50 : decode b_M_make 50 = .ok (.if_icmp .eq 9, 3) := by decide +kernel
theorem d_M_make_53 : decode b_M_make 53 = .ok (.iload_n 1, 1) := by decide +kernel
theorem d_M_make_54 : decode b_M_make 54 = .ok (.bipush 7, 2) := by decide +kernel
theorem d_M_make_56 : decode b_M_make 56 = .ok (.if_icmp .ne 7, 3) := by decide +kernel
theorem d_M_make_59 : decode b_M_make 59 = .ok (.iconst 1, 1) := by decide +kernel
theorem d_M_make_60 : decode b_M_make 60 = .ok (.goto 4, 3) := by decide +kernel
theorem d_M_make_63 : decode b_M_make 63 = .ok (.iconst 0, 1) := by decide +kernel
theorem d_M_make_64 : decode b_M_make 64 = .ok (.istore 4, 2) := by decide +kernel
theorem d_M_make_66 : decode b_M_make 66 = .ok (.iload 4, 2) := by decide +kernel
theorem d_M_make_68 : decode b_M_make 68 = .ok (.ifCond .ne 10, 3) := by decide +kernel
theorem d_M_make_71 : decode b_M_make 71 = .ok (.aload_n 0, 1) := by decide +kernel
theorem d_M_make_72 : decode b_M_make 72 = .ok (.iconst 5, 1) := by decide +kernel
theorem d_M_make_73 : decode b_M_make 73 = .ok (.lconst 0, 1) := by decide +kernel
theorem d_M_make_74 : decode b_M_make 74 = .ok (.invokevirtual 83, 3) := by decide +kernel
theorem d_M_make_77 : decode b_M_make 77 = .ok (.ireturn, 1) := by decide +kernel
theorem d_M_make_78 : decode b_M_make 78 = .ok (.iload_n 1, 1) := by decide +kernel
theorem d_M_make_79 : decode b_M_make 79 = .ok (.iconst 1, 1) := by decide +kernel
theorem d_M_make_80 : decode b_M_make 80 = .ok (.if_icmp .eq 9, 3) := by decide +kernel
theorem d_M_make_83 : decode b_M_make 83 = .ok (.iload_n 1, 1) := by decide +kernel
theorem d_M_make_84 : decode b_M_make 84 = .ok (.bipush 7, 2) := by decide +kernel
theorem d_M_make_86 : decode b_M_make 86 = .ok (.if_icmp .ne 11, 3) := by decide +kernel
theorem d_M_make_89 : decode b_M_make 89 = .ok (.aload_n 0, 1) := by decide +kernel
theorem d_M_make_90 : decode b_M_make 90 = .ok (.bipush 6, 2) := by decide +kernel
theorem d_M_make_92 : decode b_M_make 92 = .ok (.lconst 0, 1) := by decide +kernel
theorem d_M_make_93 : decode b_M_make 93 = .ok (.invokevirtual 83, 3) := by decide +kernel
theorem d_M_make_96 : decode b_M_make 96 = .ok (.ireturn, 1) := by decide +kernel
theorem d_M_make_97 : decode b_M_make 97 = .ok (.aload_n 0, 1) := by decide +kernel
theorem d_M_make_98 : decode b_M_make 98 = .ok (.iload_n 1, 1) := by decide +kernel
theorem d_M_make_99 : decode b_M_make 99 = .ok (.ifCond .ne 8, 3) := by decide +kernel
theorem d_M_make_102 : decode b_M_make 102 = .ok (.bipush 12, 2) := by decide +kernel
theorem d_M_make_104 : decode b_M_make 104 = .ok (.goto 34, 3) := by decide +kernel
theorem d_M_make_107 : decode b_M_make 107 = .ok (.iload_n 1, 1) := by decide +kernel
theorem d_M_make_108 : decode b_M_make 108 = .ok (.iconst 2, 1) := by decide +kernel
theorem d_M_make_109 : decode b_M_make 109 = .ok (.if_icmp .ne 7, 3) := by decide +kernel
theorem d_M_make_112 : decode b_M_make 112 = .ok (.iconst 5, 1) := by decide +kernel
theorem d_M_make_113 : decode b_M_make 113 = .ok (.goto 25, 3) := by decide +kernel
theorem d_M_make_116 : decode b_M_make 116 = .ok (.iload_n 1, 1) := by decide +kernel
theorem d_M_make_117 : decode b_M_make 117 = .ok (.iconst 3, 1) := by decide +kernel
theorem d_M_make_118 : decode b_M_make 118 = .ok (.if_icmp .ne 8, 3) := by decide +kernel
theorem d_M_make_121 : decode b_M_make 121 = .ok (.bipush 9, 2) := by decide +kernel
theorem d_M_make_123 : decode b_M_make 123 = .ok (.goto 15, 3) := by decide +kernel
theorem d_M_make_126 : decode b_M_make 126 = .ok (.iload_n 1, 1) := by decide +kernel
theorem d_M_make_127 : decode b_M_make 127 = .ok (.iconst 5, 1) := by decide +kernel
theorem d_M_make_128 : decode b_M_make 128 = .ok (.if_icmp .ne 8, 3) := by decide +kernel
theorem d_M_make_131 : decode b_M_make 131 = .ok (.bipush 10, 2) := by decide +kernel
theorem d_M_make_133 : decode b_M_make 133 = .ok (.goto 5, 3) := by decide +kernel
theorem d_M_make_136 : decode b_M_make 136 = .ok (.bipush 11, 2) := by decide +kernel
theorem d_M_make_138 : decode b_M_make 138 = .ok (.invokevirtual 65, 3) := by decide +kernel
theorem d_M_make_141 : decode b_M_make 141 = .ok (.istore 5, 2) := by decide +kernel
theorem d_M_make_143 : decode b_M_make 143 = .ok (.iload_n 1, 1) := by decide +kernel
theorem d_M_make_144 : decode b_M_make 144 = .ok (.iconst 2, 1) := by decide +kernel
theorem d_M_make_145 : decode b_M_make 145 = .ok (.if_icmp .eq 12, 3) := by decide +kernel
theorem d_M_make_148 : decode b_M_make 148 = .ok (.iload_n 1, 1) := by decide +kernel
theorem d_M_make_149 : decode b_M_make 149 = .ok (.iconst 5, 1) := by decide +kernel
theorem d_M_make_150 : decode b_M_make 150 = .ok (.if_icmp .ne 16, 3) := by decide +kernel
theorem d_M_make_153 : decode b_M_make 153 = .ok (.iload_n 2, 1) := by decide +kernel
theorem d_M_make_154 : decode b_M_make 154 = .ok (.ifCond .eq 12, 3) := by decide +kernel
theorem d_M_make_157 : decode b_M_make 157 = .ok (.aload_n 0, 1) := by decide +kernel
theorem d_M_make_158 : decode b_M_make 158 = .ok (.getfield 13, 3) := by decide +kernel
theorem d_M_make_161 : decode b_M_make 161 = .ok (.iload 5, 2) := by decide +kernel
theorem d_M_make_163 : decode b_M_make 163 = .ok (.iload_n 3, 1) := by decide +kernel
theorem d_M_make_164 : decode b_M_make 164 = .ok (.i2l, 1) := by decide +kernel
theorem d_M_make_165 : decode b_M_make 165 = .ok (.lastore, 1) := by decide +kernel
theorem d_M_make_166 : decode b_M_make 166 = .ok (.iload_n 1, 1) := by decide +kernel
theorem d_M_make_167 : decode b_M_make 167 = .ok (.bipush 6, 2) := by decide +kernel
theorem d_M_make_169 : decode b_M_make 169 = .ok (.if_icmp .ne 22, 3) := by decide +kernel
theorem d_M_make_172 : decode b_M_make 172 = .ok (.aload_n 0, 1) := by decide +kernel
theorem d_M_make_173 : decode b_M_make 173 = .ok (.getfield 13, 3) := by decide +kernel
theorem d_M_make_176 : decode b_M_make 176 = .ok (.iload 5, 2) := by decide +kernel
theorem d_M_make_178 : decode b_M_make 178 = .ok (.iload_n 3, 1) := by decide +kernel
theorem d_M_make_179 : decode b_M_make 179 = .ok (.iconst 1, 1) := by decide +kernel
theorem d_M_make_180 : decode b_M_make 180 = .ok (.iadd, 1) := by decide +kernel
theorem d_M_make_181 : decode b_M_make 181 = .ok (.i2l, 1) := by decide +kernel
theorem d_M_make_182 : decode b_M_make 182 = .ok (.lastore, 1) := by decide +kernel
theorem d_M_make_183 : decode b_M_make 183 = .ok (.aload_n 0, 1) := by decide +kernel
theorem d_M_make_184 : decode b_M_make 184 = .ok (.getfield 24, 3) := by decide +kernel
theorem d_M_make_187 : decode b_M_make 187 = .ok (.iload 5, 2) := by decide +kernel
theorem d_M_make_189 : decode b_M_make 189 = .ok (.iconst 5, 1) := by decide +kernel
theorem d_M_make_190 : decode b_M_make 190 = .ok (.iastore, 1) := by decide +kernel
theorem d_M_make_191 : decode b_M_make 191 = .ok (.aload_n 0, 1) := by decide +kernel
theorem d_M_make_192 : decode b_M_make 192 = .ok (.getfield 36, 3) := by decide +kernel
theorem d_M_make_195 : decode b_M_make 195 = .ok (.bipush 8, 2) := by decide +kernel
theorem d_M_make_197 : decode b_M_make 197 = .ok (.iload 5, 2) := by decide +kernel
theorem d_M_make_199 : decode b_M_make 199 = .ok (.iastore, 1) := by decide +kernel
theorem d_M_make_200 : decode b_M_make 200 = .ok (.aload_n 0, 1) := by decide +kernel
theorem d_M_make_201 : decode b_M_make 201 = .ok (.iconst 0, 1) := by decide +kernel
theorem d_M_make_202 : decode b_M_make 202 = .ok (.lconst 0, 1) := by decide +kernel
theorem d_M_make_203 : decode b_M_make 203 = .ok (.invokevirtual 83, 3) := by decide +kernel
theorem d_M_make_206 : decode b_M_make 206 = .ok (.ireturn, 1) := by decide +kernel
theorem d_M_reach_0 : decode b_M_reach 0 = .ok (.iload_n 2, 1) := by decide +kernel
theorem d_M_reach_1 : decode b_M_reach 1 = .ok (.bipush 7, 2) := by decide +kernel
theorem d_M_reach_3 : decode b_M_reach 3 = .ok (.if_icmp .ne 5, 3) := by decide +kernel
theorem d_M_reach_6 : decode b_M_reach 6 = .ok (.iconst 0, 1) := by decide +kernel
theorem d_M_reach_7 : decode b_M_reach 7 = .ok (.ireturn, 1) := by decide +kernel
theorem d_M_reach_8 : decode b_M_reach 8 = .ok (.iload_n 1, 1) := by decide +kernel
theorem d_M_reach_9 : decode b_M_reach 9 = .ok (.ifCond .ne 5, 3) := by decide +kernel
theorem d_M_reach_12 : decode b_M_reach 12 = .ok (.iconst 1, 1) := by decide +kernel
theorem d_M_reach_13 : decode b_M_reach 13 = .ok (.ireturn, 1) := by decide +kernel
theorem d_M_reach_14 : decode b_M_reach 14 = .ok (.aload_n 0, 1) := by decide +kernel
theorem d_M_reach_15 : decode b_M_reach 15 = .ok (.getfield 7, 3) := by decide +kernel
theorem d_M_reach_18 : decode b_M_reach 18 = .ok (.iload_n 1, 1) := by decide +kernel
theorem d_M_reach_19 : decode b_M_reach 19 = .ok (.iaload, 1) := by decide +kernel
theorem d_M_reach_20 : decode b_M_reach 20 = .ok (.bipush 11, 2) := by decide +kernel
theorem d_M_reach_22 : decode b_M_reach 22 = .ok (.if_icmp .eq 20, 3) := by decide +kernel
theorem d_M_reach_25 : decode b_M_reach 25 = .ok (.aload_n 0, 1) := by decide +kernel
theorem d_M_reach_26 : decode b_M_reach 26 = .ok (.getfield 7, 3) := by decide +kernel
theorem d_M_reach_29 : decode b_M_reach 29 = .ok (.iload_n 1, 1) := by decide +kernel
theorem d_M_reach_30 : decode b_M_reach 30 = .ok (.iaload, 1) := by decide +kernel
theorem d_M_reach_31 : decode b_M_reach 31 = .ok (.bipush 10, 2) := by decide +kernel
theorem d_M_reach_33 : decode b_M_reach 33 = .ok (.if_icmp .ne 13, 3) := by decide +kernel
theorem d_M_reach_36 : decode b_M_reach 36 = .ok (.iload_n 2, 1) := by decide +kernel
theorem d_M_reach_37 : decode b_M_reach 37 = .ok (.bipush 8, 2) := by decide +kernel
theorem d_M_reach_39 : decode b_M_reach 39 = .ok (.if_icmp .eq 7, 3) := by decide +kernel
theorem d_M_reach_42 : decode b_M_reach 42 = .ok (.iconst 0, 1) := by decide +kernel
theorem d_M_reach_43 : decode b_M_reach 43 = .ok (.goto 4, 3) := by decide +kernel
theorem d_M_reach_46 : decode b_M_reach 46 = .ok (.iconst 2, 1) := by decide +kernel
theorem d_M_reach_47 : decode b_M_reach 47 = .ok (.ireturn, 1) := by decide +kernel
theorem d_M_kindOf_0 : decode b_M_kindOf 0 = .ok (.iload_n 0, 1) := by decide +kernel
theorem d_M_kindOf_1 : decode b_M_kindOf 1 = .ok (.ifCond .eq 9, 3) := by decide +kernel
theorem d_M_kindOf_4 : decode b_M_kindOf 4 = .ok (.iload_n 0, 1) := by decide +kernel
theorem d_M_kindOf_5 : decode b_M_kindOf 5 = .ok (.bipush 6, 2) := by decide +kernel
theorem d_M_kindOf_7 : decode b_M_kindOf 7 = .ok (.if_icmp .ne 5, 3) := by decide +kernel
theorem d_M_kindOf_10 : decode b_M_kindOf 10 = .ok (.iconst 4, 1) := by decide +kernel
theorem d_M_kindOf_11 : decode b_M_kindOf 11 = .ok (.ireturn, 1) := by decide +kernel
theorem d_M_kindOf_12 : decode b_M_kindOf 12 = .ok (.iload_n 0, 1) := by decide +kernel
theorem d_M_kindOf_13 : decode b_M_kindOf 13 = .ok (.iconst 1, 1) := by decide +kernel
theorem d_M_kindOf_14 : decode b_M_kindOf 14 = .ok (.if_icmp .ne 5, 3) := by decide +kernel
theorem d_M_kindOf_17 : decode b_M_kindOf 17 = .ok (.iconst 1, 1) := by decide +kernel
theorem d_M_kindOf_18 : decode b_M_kindOf 18 = .ok (.ireturn, 1) := by decide +kernel
theorem d_M_kindOf_19 : decode b_M_kindOf 19 = .ok (.iload_n 0, 1) := by decide +kernel
theorem d_M_kindOf_20 : decode b_M_kindOf 20 = .ok (.iconst 2, 1) := by decide +kernel
theorem d_M_kindOf_21 : decode b_M_kindOf 21 = .ok (.if_icmp .ne 6, 3) := by decide +kernel
theorem d_M_kindOf_24 : decode b_M_kindOf 24 = .ok (.bipush 7, 2) := by decide +kernel
theorem d_M_kindOf_26 : decode b_M_kindOf 26 = .ok (.ireturn, 1) := by decide +kernel
theorem d_M_kindOf_27 : decode b_M_kindOf 27 = .ok (.iload_n 0, 1) := by decide +kernel
theorem d_M_kindOf_28 : decode b_M_kindOf 28 = .ok (.bipush 7, 2) := by decide +kernel
theorem d_M_kindOf_30 : decode b_M_kindOf 30 = .ok (.if_icmp .ne 5, 3) := by decide +kernel
theorem d_M_kindOf_33 : decode b_M_kindOf 33 = .ok (.iconst 5, 1) := by decide +kernel
theorem d_M_kindOf_34 : decode b_M_kindOf 34 = .ok (.ireturn, 1) := by decide +kernel
theorem d_M_kindOf_35 : decode b_M_kindOf 35 = .ok (.iload_n 0, 1) := by decide +kernel
theorem d_M_kindOf_36 : decode b_M_kindOf 36 = .ok (.bipush 8, 2) := by decide +kernel
theorem d_M_kindOf_38 : decode b_M_kindOf 38 = .ok (.if_icmp .ne 7, 3) := by decide +kernel
theorem d_M_kindOf_41 : decode b_M_kindOf 41 = .ok (.iconst 3, 1) := by decide +kernel
theorem d_M_kindOf_42 : decode b_M_kindOf 42 = .ok (.goto 4, 3) := by decide +kernel
theorem d_M_kindOf_45 : decode b_M_kindOf 45 = .ok (.iconst (-1), 1) := by decide +kernel
theorem d_M_kindOf_46 : decode b_M_kindOf 46 = .ok (.ireturn, 1) := by decide +kernel
theorem d_M_take_0 : decode b_M_take 0 = .ok (.iload_n 2, 1) := by decide +kernel
theorem d_M_take_1 : decode b_M_take 1 = .ok (.ifCond .ne 13, 3) := by decide +kernel
theorem d_M_take_4 : decode b_M_take 4 = .ok (.aload_n 0, 1) := by decide +kernel
theorem d_M_take_5 : decode b_M_take 5 = .ok (.aload_n 0, 1) := by decide +kernel
theorem d_M_take_6 : decode b_M_take 6 = .ok (.getfield 13, 3) := by decide +kernel
theorem d_M_take_9 : decode b_M_take 9 = .ok (.iload_n 1, 1) := by decide +kernel
theorem d_M_take_10 : decode b_M_take 10 = .ok (.laload, 1) := by decide +kernel
theorem d_M_take_11 : decode b_M_take 11 = .ok (.putfield 56, 3) := by decide +kernel
theorem d_M_take_14 : decode b_M_take 14 = .ok (.iload_n 2, 1) := by decide +kernel
theorem d_M_take_15 : decode b_M_take 15 = .ok (.iconst 1, 1) := by decide +kernel
theorem d_M_take_16 : decode b_M_take 16 = .ok (.if_icmp .ne 14, 3) := by decide +kernel
theorem d_M_take_19 : decode b_M_take 19 = .ok (.aload_n 0, 1) := by decide +kernel
theorem d_M_take_20 : decode b_M_take 20 = .ok (.aload_n 0, 1) := by decide +kernel
theorem d_M_take_21 : decode b_M_take 21 = .ok (.getfield 21, 3) := by decide +kernel
theorem d_M_take_24 : decode b_M_take 24 = .ok (.iload_n 1, 1) := by decide +kernel
theorem d_M_take_25 : decode b_M_take 25 = .ok (.iaload, 1) := by decide +kernel
theorem d_M_take_26 : decode b_M_take 26 = .ok (.i2l, 1) := by decide +kernel
theorem d_M_take_27 : decode b_M_take 27 = .ok (.putfield 56, 3) := by decide +kernel
theorem d_M_take_30 : decode b_M_take 30 = .ok (.iload_n 2, 1) := by decide +kernel
theorem d_M_take_31 : decode b_M_take 31 = .ok (.iconst 2, 1) := by decide +kernel
theorem d_M_take_32 : decode b_M_take 32 = .ok (.if_icmp .ne 13, 3) := by decide +kernel
theorem d_M_take_35 : decode b_M_take 35 = .ok (.aload_n 0, 1) := by decide +kernel
theorem d_M_take_36 : decode b_M_take 36 = .ok (.aload_n 0, 1) := by decide +kernel
theorem d_M_take_37 : decode b_M_take 37 = .ok (.getfield 17, 3) := by decide +kernel
theorem d_M_take_40 : decode b_M_take 40 = .ok (.iload_n 1, 1) := by decide +kernel
theorem d_M_take_41 : decode b_M_take 41 = .ok (.daload, 1) := by decide +kernel
theorem d_M_take_42 : decode b_M_take 42 = .ok (.putfield 59, 3) := by decide +kernel
theorem d_M_take_45 : decode b_M_take 45 = .ok (.iload_n 2, 1) := by decide +kernel
theorem d_M_take_46 : decode b_M_take 46 = .ok (.bipush 6, 2) := by decide +kernel
theorem d_M_take_48 : decode b_M_take 48 = .ok (.if_icmp .ne 10, 3) := by decide +kernel
theorem d_M_take_51 : decode b_M_take 51 = .ok (.aload_n 0, 1) := by decide +kernel
theorem d_M_take_52 : decode b_M_take 52 = .ok (.ldc2_w 95, 3) := by decide +kernel
theorem d_M_take_55 : decode b_M_take 55 = .ok (.putfield 56, 3) := by decide +kernel
theorem d_M_take_58 : decode b_M_take 58 = .ok (.iload_n 2, 1) := by decide +kernel
theorem d_M_take_59 : decode b_M_take 59 = .ok (.bipush 7, 2) := by decide +kernel
theorem d_M_take_61 : decode b_M_take 61 = .ok (.if_icmp .ne 11, 3) := by decide +kernel
theorem d_M_take_64 : decode b_M_take 64 = .ok (.aload_n 0, 1) := by decide +kernel
theorem d_M_take_65 : decode b_M_take 65 = .ok (.aload_n 0, 1) := by decide +kernel
theorem d_M_take_66 : decode b_M_take 66 = .ok (.getfield 41, 3) := by decide +kernel
theorem d_M_take_69 : decode b_M_take 69 = .ok (.putfield 56, 3) := by decide +kernel
theorem d_M_take_72 : decode b_M_take 72 = .ok (.iload_n 2, 1) := by decide +kernel
theorem d_M_take_73 : decode b_M_take 73 = .ok (.bipush 8, 2) := by decide +kernel
theorem d_M_take_75 : decode b_M_take 75 = .ok (.if_icmp .ne 14, 3) := by decide +kernel
theorem d_M_take_78 : decode b_M_take 78 = .ok (.aload_n 0, 1) := by decide +kernel
theorem d_M_take_79 : decode b_M_take 79 = .ok (.aload_n 0, 1) := by decide +kernel
theorem d_M_take_80 : decode b_M_take 80 = .ok (.getfield 24, 3) := by decide +kernel
theorem d_M_take_83 : decode b_M_take 83 = .ok (.iload_n 1, 1) := by decide +kernel
theorem d_M_take_84 : decode b_M_take 84 = .ok (.iaload, 1) := by decide +kernel
theorem d_M_take_85 : decode b_M_take 85 = .ok (.i2l, 1) := by decide +kernel
theorem d_M_take_86 : decode b_M_take 86 = .ok (.putfield 56, 3) := by decide +kernel
theorem d_M_take_89 : decode b_M_take 89 = .ok (.return_, 1) := by decide +kernel
theorem d_M_get_0 : decode b_M_get 0 = .ok (.iload_n 1, 1) := by decide +kernel
theorem d_M_get_1 : decode b_M_get 1 = .ok (.iconst 0, 1) := by decide +kernel
theorem d_M_get_2 : decode b_M_get 2 = .ok (.bipush 8, 2) := by decide +kernel
theorem d_M_get_4 : decode b_M_get 4 = .ok (.invokestatic 52, 3) := by decide +kernel
theorem d_M_get_7 : decode b_M_get 7 = .ok (.ifCond .eq 13, 3) := by decide +kernel
theorem d_M_get_10 : decode b_M_get 10 = .ok (.iload_n 2, 1) := by decide +kernel
theorem d_M_get_11 : decode b_M_get 11 = .ok (.iconst 0, 1) := by decide +kernel
theorem d_M_get_12 : decode b_M_get 12 = .ok (.bipush 8, 2) := by decide +kernel
theorem d_M_get_14 : decode b_M_get 14 = .ok (.invokestatic 52, 3) := by decide +kernel
theorem d_M_get_17 : decode b_M_get 17 = .ok (.ifCond .ne 5, 3) := by decide +kernel
theorem d_M_get_20 : decode b_M_get 20 = .ok (.iconst (-1), 1) := by decide +kernel
theorem d_M_get_21 : decode b_M_get 21 = .ok (.ireturn, 1) := by decide +kernel
theorem d_M_get_22 : decode b_M_get 22 = .ok (.aload_n 0, 1) := by decide +kernel
theorem d_M_get_23 : decode b_M_get 23 = .ok (.getfield 36, 3) := by decide +kernel
theorem d_M_get_26 : decode b_M_get 26 = .ok (.iload_n 1, 1) := by decide +kernel
theorem d_M_get_27 : decode b_M_get 27 = .ok (.iaload, 1) := by decide +kernel
theorem d_M_get_28 : decode b_M_get 28 = .ok (.istore_n 3, 1) := by decide +kernel
theorem d_M_get_29 : decode b_M_get 29 = .ok (.aload_n 0, 1) := by decide +kernel
theorem d_M_get_30 : decode b_M_get 30 = .ok (.iload_n 3, 1) := by decide +kernel
theorem d_M_get_31 : decode b_M_get 31 = .ok (.iload_n 2, 1) := by decide +kernel
theorem d_M_get_32 : decode b_M_get 32 = .ok (.invokevirtual 97, 3) := by decide +kernel
theorem d_M_get_35 : decode b_M_get 35 = .ok (.istore 4, 2) := by decide +kernel
theorem d_M_get_37 : decode b_M_get 37 = .ok (.iload 4, 2) := by decide +kernel
theorem d_M_get_39 : decode b_M_get 39 = .ok (.ifCond .eq 11, 3) := by decide +kernel
theorem d_M_get_42 : decode b_M_get 42 = .ok (.aload_n 0, 1) := by decide +kernel
theorem d_M_get_43 : decode b_M_get 43 = .ok (.iload 4, 2) := by decide +kernel
theorem d_M_get_45 : decode b_M_get 45 = .ok (.lconst 0, 1) := by decide +kernel
theorem d_M_get_46 : decode b_M_get 46 = .ok (.invokevirtual 83, 3) := by decide +kernel
theorem d_M_get_49 : decode b_M_get 49 = .ok (.ireturn, 1) := by decide +kernel
theorem d_M_get_50 : decode b_M_get 50 = .ok (.iload_n 2, 1) := by decide +kernel
theorem d_M_get_51 : decode b_M_get 51 = .ok (.invokestatic 101, 3) := by decide +kernel
theorem d_M_get_54 : decode b_M_get 54 = .ok (.ifCond .lt 27, 3) := by decide +kernel
theorem d_M_get_57 : decode b_M_get 57 = .ok (.aload_n 0, 1) := by decide +kernel
theorem d_M_get_58 : decode b_M_get 58 = .ok (.iload_n 3, 1) := by decide +kernel
theorem d_M_get_59 : decode b_M_get 59 = .ok (.iload_n 2, 1) := by decide +kernel
theorem d_M_get_60 : decode b_M_get 60 = .ok (.invokevirtual 104, 3) := by decide +kernel
theorem d_M_get_63 : decode b_M_get 63 = .ok (.aload_n 0, 1) := by decide +kernel
theorem d_M_get_64 : decode b_M_get 64 = .ok (.getfield 36, 3) := by decide +kernel
theorem d_M_get_67 : decode b_M_get 67 = .ok (.bipush 8, 2) := by decide +kernel
theorem d_M_get_69 : decode b_M_get 69 = .ok (.aload_n 0, 1) := by decide +kernel
theorem d_M_get_70 : decode b_M_get 70 = .ok (.iload_n 2, 1) := by decide +kernel
theorem d_M_get_71 : decode b_M_get 71 = .ok (.invokestatic 101, 3) := by decide +kernel
theorem d_M_get_74 : decode b_M_get 74 = .ok (.invokevirtual 92, 3) := by decide +kernel
theorem d_M_get_77 : decode b_M_get 77 = .ok (.iastore, 1) := by decide +kernel
theorem d_M_get_78 : decode b_M_get 78 = .ok (.goto 44, 3) := by decide +kernel
theorem d_M_get_81 : decode b_M_get 81 = .ok (.aload_n 0, 1) := by decide +kernel
theorem d_M_get_82 : decode b_M_get 82 = .ok (.getfield 36, 3) := by decide +kernel
theorem d_M_get_85 : decode b_M_get 85 = .ok (.bipush 8, 2) := by decide +kernel
theorem d_M_get_87 : decode b_M_get 87 = .ok (.iload_n 2, 1) := by decide +kernel
theorem d_M_get_88 : decode b_M_get 88 = .ok (.iconst 3, 1) := by decide +kernel
theorem d_M_get_89 : decode b_M_get 89 = .ok (.if_icmp .ne 12, 3) := by decide +kernel
theorem d_M_get_92 : decode b_M_get 92 = .ok (.aload_n 0, 1) := by decide +kernel
theorem d_M_get_93 : decode b_M_get 93 = .ok (.getfield 27, 3) := by decide +kernel
theorem d_M_get_96 : decode b_M_get 96 = .ok (.iload_n 3, 1) := by decide +kernel
theorem d_M_get_97 : decode b_M_get 97 = .ok (.iaload, 1) := by decide +kernel
theorem d_M_get_98 : decode b_M_get 98 = .ok (.goto 23, 3) := by decide +kernel
theorem d_M_get_101 : decode b_M_get 101 = .ok (.iload_n 2, 1) := by decide +kernel
theorem d_M_get_102 : decode b_M_get 102 = .ok (.iconst 4, 1) := by decide +kernel
theorem d_M_get_103 : decode b_M_get 103 = .ok (.if_icmp .ne 12, 3) := by decide +kernel
theorem d_M_get_106 : decode b_M_get 106 = .ok (.aload_n 0, 1) := by decide +kernel
theorem d_M_get_107 : decode b_M_get 107 = .ok (.getfield 30, 3) := by decide +kernel
theorem d_M_get_110 : decode b_M_get 110 = .ok (.iload_n 3, 1) := by decide +kernel
theorem d_M_get_111 : decode b_M_get 111 = .ok (.iaload, 1) := by decide +kernel
theorem d_M_get_112 : decode b_M_get 112 = .ok (.goto 9, 3) := by decide +kernel
theorem d_M_get_115 : decode b_M_get 115 = .ok (.aload_n 0, 1) := by decide +kernel
theorem d_M_get_116 : decode b_M_get 116 = .ok (.getfield 33, 3) := by decide +kernel
theorem d_M_get_119 : decode b_M_get 119 = .ok (.iload_n 3, 1) := by decide +kernel
theorem d_M_get_120 : decode b_M_get 120 = .ok (.iaload, 1) := by decide +kernel
theorem d_M_get_121 : decode b_M_get 121 = .ok (.iastore, 1) := by decide +kernel
theorem d_M_get_122 : decode b_M_get 122 = .ok (.aload_n 0, 1) := by decide +kernel
theorem d_M_get_123 : decode b_M_get 123 = .ok (.iconst 0, 1) := by decide +kernel
theorem d_M_get_124 : decode b_M_get 124 = .ok (.lconst 0, 1) := by decide +kernel
theorem d_M_get_125 : decode b_M_get 125 = .ok (.invokevirtual 83, 3) := by decide +kernel
theorem d_M_get_128 : decode b_M_get 128 = .ok (.ireturn, 1) := by decide +kernel
theorem d_M_getAs_0 : decode b_M_getAs 0 = .ok (.iload_n 1, 1) := by decide +kernel
theorem d_M_getAs_1 : decode b_M_getAs 1 = .ok (.iconst 0, 1) := by decide +kernel
theorem d_M_getAs_2 : decode b_M_getAs 2 = .ok (.bipush 8, 2) := by decide +kernel
theorem d_M_getAs_4 : decode b_M_getAs 4 = .ok (.invokestatic 52, 3) := by decide +kernel
theorem d_M_getAs_7 : decode b_M_getAs 7 = .ok (.ifCond .eq 23, 3) := by decide +kernel
theorem d_M_getAs_10 : decode b_M_getAs 10 = .ok (.iload_n 2, 1) := by decide +kernel
theorem d_M_getAs_11 : decode b_M_getAs 11 = .ok (.iconst 0, 1) := by decide +kernel
theorem d_M_getAs_12 : decode b_M_getAs 12 = .ok (.bipush 8, 2) := by decide +kernel
theorem d_M_getAs_14 : decode b_M_getAs 14 = .ok (.invokestatic 52, 3) := by decide +kernel
theorem d_M_getAs_17 : decode b_M_getAs 17 = .ok (.ifCond .eq 13, 3) := by decide +kernel
theorem d_M_getAs_20 : decode b_M_getAs 20 = .ok (.iload_n 3, 1) := by decide +kernel
theorem d_M_getAs_21 : decode b_M_getAs 21 = .ok (.iconst 0, 1) := by decide +kernel
theorem d_M_getAs_22 : decode b_M_getAs 22 = .ok (.bipush 7, 2) := by decide +kernel
theorem d_M_getAs_24 : decode b_M_getAs 24 = .ok (.invokestatic 52, 3) := by decide +kernel
theorem d_M_getAs_27 : decode b_M_getAs 27 = .ok (.ifCond .ne 5, 3) := by decide +kernel
theorem d_M_getAs_30 : decode b_M_getAs 30 = .ok (.iconst (-1), 1) := by decide +kernel
theorem d_M_getAs_31 : decode b_M_getAs 31 = .ok (.ireturn, 1) := by decide +kernel
theorem d_M_getAs_32 : decode b_M_getAs 32 = .ok (.aload_n 0, 1) := by decide +kernel
theorem d_M_getAs_33 : decode b_M_getAs 33 = .ok (.getfield 36, 3) := by decide +kernel
theorem d_M_getAs_36 : decode b_M_getAs 36 = .ok (.iload_n 1, 1) := by decide +kernel
theorem d_M_getAs_37 : decode b_M_getAs 37 = .ok (.iaload, 1) := by decide +kernel
theorem d_M_getAs_38 : decode b_M_getAs 38 = .ok (.istore 4, 2) := by decide +kernel
theorem d_M_getAs_40 : decode b_M_getAs 40 = .ok (.aload_n 0, 1) := by decide +kernel
theorem d_M_getAs_41 : decode b_M_getAs 41 = .ok (.iload 4, 2) := by decide +kernel
theorem d_M_getAs_43 : decode b_M_getAs 43 = .ok (.iload_n 2, 1) := by decide +kernel
theorem d_M_getAs_44 : decode b_M_getAs 44 = .ok (.invokevirtual 97, 3) := by decide +kernel
theorem d_M_getAs_47 : decode b_M_getAs 47 = .ok (.istore 5, 2) := by decide +kernel
theorem d_M_getAs_49 : decode b_M_getAs 49 = .ok (.iload 5, 2) := by decide +kernel
theorem d_M_getAs_51 : decode b_M_getAs 51 = .ok (.ifCond .eq 11, 3) := by decide +kernel
theorem d_M_getAs_54 : decode b_M_getAs 54 = .ok (.aload_n 0, 1) := by decide +kernel
theorem d_M_getAs_55 : decode b_M_getAs 55 = .ok (.iload 5, 2) := by decide +kernel
theorem d_M_getAs_57 : decode b_M_getAs 57 = .ok (.lconst 0, 1) := by decide +kernel
theorem d_M_getAs_58 : decode b_M_getAs 58 = .ok (.invokevirtual 83, 3) := by decide +kernel
theorem d_M_getAs_61 : decode b_M_getAs 61 = .ok (.ireturn, 1) := by decide +kernel
theorem d_M_getAs_62 : decode b_M_getAs 62 = .ok (.iload_n 2, 1) := by decide +kernel
theorem d_M_getAs_63 : decode b_M_getAs 63 = .ok (.invokestatic 101, 3) := by decide +kernel
theorem d_M_getAs_66 : decode b_M_getAs 66 = .ok (.istore 6, 2) := by decide +kernel
theorem d_M_getAs_68 : decode b_M_getAs 68 = .ok (.iload 6, 2) := by decide +kernel
theorem d_M_getAs_70 : decode b_M_getAs 70 = .ok (.ifCond .lt 12, 3) := by decide +kernel
theorem d_M_getAs_73 : decode b_M_getAs 73 = .ok (.iload 6, 2) := by decide +kernel
theorem d_M_getAs_75 : decode b_M_getAs 75 = .ok (.iload_n 3, 1) := by decide +kernel
theorem d_M_getAs_76 : decode b_M_getAs 76 = .ok (.invokestatic 73, 3) := by decide +kernel
theorem d_M_getAs_79 : decode b_M_getAs 79 = .ok (.ifCond .ne 10, 3) := by decide +kernel
theorem d_M_getAs_82 : decode b_M_getAs 82 = .ok (.aload_n 0, 1) := by decide +kernel
theorem d_M_getAs_83 : decode b_M_getAs 83 = .ok (.iconst 2, 1) := by decide +kernel
theorem d_M_getAs_84 : decode b_M_getAs 84 = .ok (.lconst 0, 1) := by decide +kernel
theorem d_M_getAs_85 : decode b_M_getAs 85 = .ok (.invokevirtual 83, 3) := by decide +kernel
theorem d_M_getAs_88 : decode b_M_getAs 88 = .ok (.ireturn, 1) := by decide +kernel
theorem d_M_getAs_89 : decode b_M_getAs 89 = .ok (.aload_n 0, 1) := by decide +kernel
theorem d_M_getAs_90 : decode b_M_getAs 90 = .ok (.iload 4, 2) := by decide +kernel
theorem d_M_getAs_92 : decode b_M_getAs 92 = .ok (.iload_n 2, 1) := by decide +kernel
theorem d_M_getAs_93 : decode b_M_getAs 93 = .ok (.invokevirtual 104, 3) := by decide +kernel
theorem d_M_getAs_96 : decode b_M_getAs 96 = .ok (.aload_n 0, 1) := by decide +kernel
theorem d_M_getAs_97 : decode b_M_getAs 97 = .ok (.iload 6, 2) := by decide +kernel
theorem d_M_getAs_99 : decode b_M_getAs 99 = .ok (.iload_n 3, 1) := by decide +kernel
theorem d_M_getAs_100 : decode b_M_getAs 100 = .ok (.invokevirtual 77, 3) := by decide +kernel
theorem d_M_getAs_103 : decode b_M_getAs 103 = .ok (.aload_n 0, 1) := by decide +kernel
theorem d_M_getAs_104 : decode b_M_getAs 104 = .ok (.iconst 0, 1) := by decide +kernel
theorem d_M_getAs_105 : decode b_M_getAs 105 = .ok (.aload_n 0, 1) := by decide +kernel
theorem d_M_getAs_106 : decode b_M_getAs 106 = .ok (.iload_n 3, 1) := by decide +kernel
theorem d_M_getAs_107 : decode b_M_getAs 107 = .ok (.invokevirtual 107, 3) := by decide +kernel
theorem d_M_getAs_110 : decode b_M_getAs 110 = .ok (.invokevirtual 83, 3) := by decide +kernel
theorem d_M_getAs_113 : decode b_M_getAs 113 = .ok (.ireturn, 1) := by decide +kernel
theorem d_M_fits_0 : decode b_M_fits 0 = .ok (.iload_n 2, 1) := by decide +kernel
theorem d_M_fits_1 : decode b_M_fits 1 = .ok (.iconst 3, 1) := by decide +kernel
theorem d_M_fits_2 : decode b_M_fits 2 = .ok (.if_icmp .ne 24, 3) := by decide +kernel
theorem d_M_fits_5 : decode b_M_fits 5 = .ok (.iload_n 1, 1) := by decide +kernel
theorem d_M_fits_6 : decode b_M_fits 6 = .ok (.ifCond .eq 14, 3) := by decide +kernel
theorem d_M_fits_9 : decode b_M_fits 9 = .ok (.aload_n 0, 1) := by decide +kernel
theorem d_M_fits_10 : decode b_M_fits 10 = .ok (.getfield 7, 3) := by decide +kernel
theorem d_M_fits_13 : decode b_M_fits 13 = .ok (.iload_n 1, 1) := by decide +kernel
theorem d_M_fits_14 : decode b_M_fits 14 = .ok (.iaload, 1) := by decide +kernel
theorem d_M_fits_15 : decode b_M_fits 15 = .ok (.bipush 9, 2) := by decide +kernel
theorem d_M_fits_17 : decode b_M_fits 17 = .ok (.if_icmp .ne 7, 3) := by decide +kernel
theorem d_M_fits_20 : decode b_M_fits 20 = .ok (.iconst 1, 1) := by decide +kernel
theorem d_M_fits_21 : decode b_M_fits 21 = .ok (.goto 4, 3) := by decide +kernel
theorem d_M_fits_24 : decode b_M_fits 24 = .ok (.iconst 0, 1) := by decide +kernel
theorem d_M_fits_25 : decode b_M_fits 25 = .ok (.ireturn, 1) := by decide +kernel
theorem d_M_fits_26 : decode b_M_fits 26 = .ok (.iload_n 2, 1) := by decide +kernel
theorem d_M_fits_27 : decode b_M_fits 27 = .ok (.iconst 4, 1) := by decide +kernel
theorem d_M_fits_28 : decode b_M_fits 28 = .ok (.if_icmp .eq 15, 3) := by decide +kernel
theorem d_M_fits_31 : decode b_M_fits 31 = .ok (.iload_n 1, 1) := by decide +kernel
theorem d_M_fits_32 : decode b_M_fits 32 = .ok (.ifCond .eq 11, 3) := by decide +kernel
theorem d_M_fits_35 : decode b_M_fits 35 = .ok (.aload_n 0, 1) := by decide +kernel
theorem d_M_fits_36 : decode b_M_fits 36 = .ok (.iload_n 1, 1) := by decide +kernel
theorem d_M_fits_37 : decode b_M_fits 37 = .ok (.invokevirtual 111, 3) := by decide +kernel
theorem d_M_fits_40 : decode b_M_fits 40 = .ok (.ifCond .eq 7, 3) := by decide +kernel
theorem d_M_fits_43 : decode b_M_fits 43 = .ok (.iconst 1, 1) := by decide +kernel
theorem d_M_fits_44 : decode b_M_fits 44 = .ok (.goto 4, 3) := by decide +kernel
theorem d_M_fits_47 : decode b_M_fits 47 = .ok (.iconst 0, 1) := by decide +kernel
theorem d_M_fits_48 : decode b_M_fits 48 = .ok (.ireturn, 1) := by decide +kernel
theorem d_M_set_0 : decode b_M_set 0 = .ok (.iload_n 1, 1) := by decide +kernel
theorem d_M_set_1 : decode b_M_set 1 = .ok (.iconst 0, 1) := by decide +kernel
theorem d_M_set_2 : decode b_M_set 2 = .ok (.bipush 8, 2) := by decide +kernel
theorem d_M_set_4 : decode b_M_set 4 = .ok (.invokestatic 52, 3) := by decide +kernel
theorem d_M_set_7 : decode b_M_set 7 = .ok (.ifCond .eq 23, 3) := by decide +kernel
theorem d_M_set_10 : decode b_M_set 10 = .ok (.iload_n 2, 1) := by decide +kernel
theorem d_M_set_11 : decode b_M_set 11 = .ok (.iconst 0, 1) := by decide +kernel
theorem d_M_set_12 : decode b_M_set 12 = .ok (.bipush 8, 2) := by decide +kernel
theorem d_M_set_14 : decode b_M_set 14 = .ok (.invokestatic 52, 3) := by decide +kernel
theorem d_M_set_17 : decode b_M_set 17 = .ok (.ifCond .eq 13, 3) := by decide +kernel
theorem d_M_set_20 : decode b_M_set 20 = .ok (.iload_n 3, 1) := by decide +kernel
theorem d_M_set_21 : decode b_M_set 21 = .ok (.iconst 0, 1) := by decide +kernel
theorem d_M_set_22 : decode b_M_set 22 = .ok (.bipush 8, 2) := by decide +kernel
theorem d_M_set_24 : decode b_M_set 24 = .ok (.invokestatic 52, 3) := by decide +kernel
theorem d_M_set_27 : decode b_M_set 27 = .ok (.ifCond .ne 5, 3) := by decide +kernel
theorem d_M_set_30 : decode b_M_set 30 = .ok (.iconst (-1), 1) := by decide +kernel
theorem d_M_set_31 : decode b_M_set 31 = .ok (.ireturn, 1) := by decide +kernel
theorem d_M_set_32 : decode b_M_set 32 = .ok (.aload_n 0, 1) := by decide +kernel
theorem d_M_set_33 : decode b_M_set 33 = .ok (.getfield 36, 3) := by decide +kernel
theorem d_M_set_36 : decode b_M_set 36 = .ok (.iload_n 1, 1) := by decide +kernel
theorem d_M_set_37 : decode b_M_set 37 = .ok (.iaload, 1) := by decide +kernel
theorem d_M_set_38 : decode b_M_set 38 = .ok (.istore 4, 2) := by decide +kernel
theorem d_M_set_40 : decode b_M_set 40 = .ok (.aload_n 0, 1) := by decide +kernel
theorem d_M_set_41 : decode b_M_set 41 = .ok (.getfield 36, 3) := by decide +kernel
theorem d_M_set_44 : decode b_M_set 44 = .ok (.iload_n 3, 1) := by decide +kernel
theorem d_M_set_45 : decode b_M_set 45 = .ok (.iaload, 1) := by decide +kernel
theorem d_M_set_46 : decode b_M_set 46 = .ok (.istore 5, 2) := by decide +kernel
theorem d_M_set_48 : decode b_M_set 48 = .ok (.aload_n 0, 1) := by decide +kernel
theorem d_M_set_49 : decode b_M_set 49 = .ok (.iload 4, 2) := by decide +kernel
theorem d_M_set_51 : decode b_M_set 51 = .ok (.iload_n 2, 1) := by decide +kernel
theorem d_M_set_52 : decode b_M_set 52 = .ok (.invokevirtual 97, 3) := by decide +kernel
theorem d_M_set_55 : decode b_M_set 55 = .ok (.istore 6, 2) := by decide +kernel
theorem d_M_set_57 : decode b_M_set 57 = .ok (.iload 6, 2) := by decide +kernel
theorem d_M_set_59 : decode b_M_set 59 = .ok (.ifCond .ne 12, 3) := by decide +kernel
theorem d_M_set_62 : decode b_M_set 62 = .ok (.iload_n 2, 1) := by decide +kernel
theorem d_M_set_63 : decode b_M_set 63 = .ok (.bipush 6, 2) := by decide +kernel
