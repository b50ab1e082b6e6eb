theorem d_C_init_0 : decode b_C_init 0 = .ok (.aload_n 0, 1) := by decide +kernel
theorem d_C_init_1 : decode b_C_init 1 = .ok (.invokespecial 1, 3) := by decide +kernel
theorem d_C_init_4 : decode b_C_init 4 = .ok (.aload_n 0, 1) := by decide +kernel
theorem d_C_init_5 : decode b_C_init 5 = .ok (.bipush 9, 2) := by decide +kernel
theorem d_C_init_7 : decode b_C_init 7 = .ok (.anewarray 9, 3) := by decide +kernel
theorem d_C_init_10 : decode b_C_init 10 = .ok (.putfield 11, 3) := by decide +kernel
theorem d_C_init_13 : decode b_C_init 13 = .ok (.aload_n 0, 1) := by decide +kernel
theorem d_C_init_14 : decode b_C_init 14 = .ok (.ldc2_w 15, 3) := by decide +kernel
theorem d_C_init_17 : decode b_C_init 17 = .ok (.putfield 17, 3) := by decide +kernel
theorem d_C_init_20 : decode b_C_init 20 = .ok (.aload_n 0, 1) := by decide +kernel
theorem d_C_init_21 : decode b_C_init 21 = .ok (.lconst 0, 1) := by decide +kernel
theorem d_C_init_22 : decode b_C_init 22 = .ok (.putfield 21, 3) := by decide +kernel
theorem d_C_init_25 : decode b_C_init 25 = .ok (.return_, 1) := by decide +kernel
theorem d_C_put_0 : decode b_C_put 0 = .ok (.iload_n 1, 1) := by decide +kernel
theorem d_C_put_1 : decode b_C_put 1 = .ok (.bipush 8, 2) := by decide +kernel
theorem d_C_put_3 : decode b_C_put 3 = .ok (.invokestatic 24, 3) := by decide +kernel
theorem d_C_put_6 : decode b_C_put 6 = .ok (.ifCond .eq 12, 3) := by decide +kernel
theorem d_C_put_9 : decode b_C_put 9 = .ok (.iload_n 2, 1) := by decide +kernel
theorem d_C_put_10 : decode b_C_put 10 = .ok (.bipush 9, 2) := by decide +kernel
theorem d_C_put_12 : decode b_C_put 12 = .ok (.invokestatic 24, 3) := by decide +kernel
theorem d_C_put_15 : decode b_C_put 15 = .ok (.ifCond .ne 5, 3) := by decide +kernel
theorem d_C_put_18 : decode b_C_put 18 = .ok (.iconst (-1), 1) := by decide +kernel
theorem d_C_put_19 : decode b_C_put 19 = .ok (.ireturn, 1) := by decide +kernel
theorem d_C_put_20 : decode b_C_put 20 = .ok (.aload_n 0, 1) := by decide +kernel
theorem d_C_put_21 : decode b_C_put 21 = .ok (.lconst 0, 1) := by decide +kernel
theorem d_C_put_22 : decode b_C_put 22 = .ok (.putfield 21, 3) := by decide +kernel
theorem d_C_put_25 : decode b_C_put 25 = .ok (.iload_n 2, 1) := by decide +kernel
theorem d_C_put_26 : decode b_C_put 26 = .ok (.bipush 8, 2) := by decide +kernel
theorem d_C_put_28 : decode b_C_put 28 = .ok (.if_icmp .ne 27, 3) := by decide +kernel
theorem d_C_put_31 : decode b_C_put 31 = .ok (.aload_n 0, 1) := by decide +kernel
theorem d_C_put_32 : decode b_C_put 32 = .ok (.getfield 11, 3) := by decide +kernel
theorem d_C_put_35 : decode b_C_put 35 = .ok (.iload_n 1, 1) := by decide +kernel
theorem d_C_put_36 : decode b_C_put 36 = .ok (.new 28, 3) := by decide +kernel
theorem d_C_put_39 : decode b_C_put 39 = .ok (.dup, 1) := by decide +kernel
theorem d_C_put_40 : decode b_C_put 40 = .ok (.lload_n 3, 1) := by decide +kernel
theorem d_C_put_41 : decode b_C_put 41 = .ok (.ldc2_w 30, 3) := by decide +kernel
theorem d_C_put_44 : decode b_C_put 44 = .ok (.invokestatic 32, 3) := by decide +kernel
theorem d_C_put_47 : decode b_C_put 47 = .ok (.l2i, 1) := by decide +kernel
theorem d_C_put_48 : decode b_C_put 48 = .ok (.invokespecial 38, 3) := by decide +kernel
theorem d_C_put_51 : decode b_C_put 51 = .ok (.aastore, 1) := by decide +kernel
theorem d_C_put_52 : decode b_C_put 52 = .ok (.goto 14, 3) := by decide +kernel
theorem d_C_put_55 : decode b_C_put 55 = .ok (.aload_n 0, 1) := by decide +kernel
theorem d_C_put_56 : decode b_C_put 56 = .ok (.getfield 11, 3) := by decide +kernel
theorem d_C_put_59 : decode b_C_put 59 = .ok (.iload_n 1, 1) := by decide +kernel
theorem d_C_put_60 : decode b_C_put 60 = .ok (.iload_n 2, 1) := by decide +kernel
theorem d_C_put_61 : decode b_C_put 61 = .ok (.lload_n 3, 1) := by decide +kernel
theorem d_C_put_62 : decode b_C_put 62 = .ok (.invokestatic 41, 3) := by decide +kernel
theorem d_C_put_65 : decode b_C_put 65 = .ok (.aastore, 1) := by decide +kernel
theorem d_C_put_66 : decode b_C_put 66 = .ok (.iconst 0, 1) := by decide +kernel
theorem d_C_put_67 : decode b_C_put 67 = .ok (.ireturn, 1) := by decide +kernel
theorem d_C_hold_0 : decode b_C_hold 0 = .ok (.iload_n 1, 1) := by decide +kernel
theorem d_C_hold_1 : decode b_C_hold 1 = .ok (.bipush 8, 2) := by decide +kernel
theorem d_C_hold_3 : decode b_C_hold 3 = .ok (.invokestatic 24, 3) := by decide +kernel
theorem d_C_hold_6 : decode b_C_hold 6 = .ok (.ifCond .eq 17, 3) := by decide +kernel
theorem d_C_hold_9 : decode b_C_hold 9 = .ok (.iload_n 2, 1) := by decide +kernel
theorem d_C_hold_10 : decode b_C_hold 10 = .ok (.iconst (-1), 1) := by decide +kernel
theorem d_C_hold_11 : decode b_C_hold 11 = .ok (.if_icmp .eq 14, 3) := by decide +kernel
theorem d_C_hold_14 : decode b_C_hold 14 = .ok (.iload_n 2, 1) := by decide +kernel
theorem d_C_hold_15 : decode b_C_hold 15 = .ok (.bipush 9, 2) := by decide +kernel
theorem d_C_hold_17 : decode b_C_hold 17 = .ok (.invokestatic 24, 3) := by decide +kernel
theorem d_C_hold_20 : decode b_C_hold 20 = .ok (.ifCond .ne 5, 3) := by decide +kernel
theorem d_C_hold_23 : decode b_C_hold 23 = .ok (.iconst (-1), 1) := by decide +kernel
theorem d_C_hold_24 : decode b_C_hold 24 = .ok (.ireturn, 1) := by decide +kernel
theorem d_C_hold_25 : decode b_C_hold 25 = .ok (.aload_n 0, 1) := by decide +kernel
theorem d_C_hold_26 : decode b_C_hold 26 = .ok (.lconst 0, 1) := by decide +kernel
theorem d_C_hold_27 : decode b_C_hold 27 = .ok (.putfield 21, 3) := by decide +kernel
theorem d_C_hold_30 : decode b_C_hold 30 = .ok (.aload_n 0, 1) := by decide +kernel
theorem d_C_hold_31 : decode b_C_hold 31 = .ok (.getfield 11, 3) := by decide +kernel
theorem d_C_hold_34 : decode b_C_hold 34 = .ok (.iload_n 1, 1) := by decide +kernel
theorem d_C_hold_35 : decode b_C_hold 35 = .ok (.iload_n 2, 1) := by decide +kernel
theorem d_C_hold_36 : decode b_C_hold 36 = .ok (.iconst (-1), 1) := by decide +kernel
theorem d_C_hold_37 : decode b_C_hold 37 = .ok (.if_icmp .ne 7, 3) := by decide +kernel
theorem d_C_hold_40 : decode b_C_hold 40 = .ok (.aconst_null, 1) := by decide +kernel
theorem d_C_hold_41 : decode b_C_hold 41 = .ok (.goto 9, 3) := by decide +kernel
theorem d_C_hold_44 : decode b_C_hold 44 = .ok (.aload_n 0, 1) := by decide +kernel
theorem d_C_hold_45 : decode b_C_hold 45 = .ok (.getfield 11, 3) := by decide +kernel
theorem d_C_hold_48 : decode b_C_hold 48 = .ok (.iload_n 2, 1) := by decide +kernel
theorem d_C_hold_49 : decode b_C_hold 49 = .ok (.aaload, 1) := by decide +kernel
theorem d_C_hold_50 : decode b_C_hold 50 = .ok (.aastore, 1) := by decide +kernel
theorem d_C_hold_51 : decode b_C_hold 51 = .ok (.iconst 0, 1) := by decide +kernel
theorem d_C_hold_52 : decode b_C_hold 52 = .ok (.ireturn, 1) := by decide +kernel
theorem d_C_make_0 : decode b_C_make 0 = .ok (.iload_n 1, 1) := by decide +kernel
theorem d_C_make_1 : decode b_C_make 1 = .ok (.bipush 8, 2) := by decide +kernel
theorem d_C_make_3 : decode b_C_make 3 = .ok (.invokestatic 24, 3) := by decide +kernel
theorem d_C_make_6 : decode b_C_make 6 = .ok (.ifCond .ne 5, 3) := by decide +kernel
theorem d_C_make_9 : decode b_C_make 9 = .ok (.iconst (-1), 1) := by decide +kernel
theorem d_C_make_10 : decode b_C_make 10 = .ok (.ireturn, 1) := by decide +kernel
theorem d_C_make_11 : decode b_C_make 11 = .ok (.aload_n 0, 1) := by decide +kernel
theorem d_C_make_12 : decode b_C_make 12 = .ok (.lconst 0, 1) := by decide +kernel
theorem d_C_make_13 : decode b_C_make 13 = .ok (.putfield 21, 3) := by decide +kernel
theorem d_C_make_16 : decode b_C_make 16 = .ok (.iload_n 2, 1) := by decide +kernel
theorem d_C_make_17 : decode b_C_make 17 = .ok (.ifCond .eq 10, 3) := by decide +kernel
theorem d_C_make_20 : decode b_C_make 20 = .ok (.iload_n 1, 1) := by decide +kernel
theorem d_C_make_21 : decode b_C_make 21 = .ok (.invokestatic 45, 3) := by decide +kernel
theorem d_C_make_24 : decode b_C_make 24 = .ok (.goto 7, 3) := by decide +kernel
theorem d_C_make_27 : decode b_C_make 27 = .ok (.iload_n 1, 1) := by decide +kernel
theorem d_C_make_28 : decode b_C_make 28 = .ok (.invokestatic 49, 3) := by decide +kernel
theorem d_C_make_31 : decode b_C_make 31 = .ok (.istore 4, 2) := by decide +kernel
theorem d_C_make_33 : decode b_C_make 33 = .ok (.iload 4, 2) := by decide +kernel
theorem d_C_make_35 : decode b_C_make 35 = .ok (.ifCond .ne 5, 3) := by decide +kernel
theorem d_C_make_38 : decode b_C_make 38 = .ok (.iconst 5, 1) := by decide +kernel
theorem d_C_make_39 : decode b_C_make 39 = .ok (.ireturn, 1) := by decide +kernel
theorem d_C_make_40 : decode b_C_make 40 = .ok (.getstatic 52, 3) := by decide +kernel
theorem d_C_make_43 : decode b_C_make 43 = .ok (.iload_n 1, 1) := by decide +kernel
theorem d_C_make_44 : decode b_C_make 44 = .ok (.iaload, 1) := by decide +kernel
theorem d_C_make_45 : decode b_C_make 45 = .ok (.iconst 1, 1) := by decide +kernel
theorem d_C_make_46 : decode b_C_make 46 = .ok (.if_icmp .ne 6, 3) := by decide +kernel
theorem d_C_make_49 : decode b_C_make 49 = .ok (.bipush 6, 2) := by decide +kernel
theorem d_C_make_51 : decode b_C_make 51 = .ok (.ireturn, 1) := by decide +kernel
theorem d_C_make_52 : decode b_C_make 52 = .ok (.aload_n 0, 1) := by decide +kernel
theorem d_C_make_53 : decode b_C_make 53 = .ok (.iload_n 1, 1) := by decide +kernel
theorem d_C_make_54 : decode b_C_make 54 = .ok (.iload_n 2, 1) := by decide +kernel
theorem d_C_make_55 : decode b_C_make 55 = .ok (.ifCond .eq 7, 3) := by decide +kernel
theorem d_C_make_58 : decode b_C_make 58 = .ok (.iload_n 3, 1) := by decide +kernel
theorem d_C_make_59 : decode b_C_make 59 = .ok (.goto 4, 3) := by decide +kernel
theorem d_C_make_62 : decode b_C_make 62 = .ok (.iconst 0, 1) := by decide +kernel
theorem d_C_make_63 : decode b_C_make 63 = .ok (.invokestatic 56, 3) := by decide +kernel
theorem d_C_make_66 : decode b_C_make 66 = .ok (.invokevirtual 60, 3) := by decide +kernel
theorem d_C_make_69 : decode b_C_make 69 = .ok (.ireturn, 1) := by decide +kernel
theorem d_C_get_0 : decode b_C_get 0 = .ok (.iload_n 1, 1) := by decide +kernel
theorem d_C_get_1 : decode b_C_get 1 = .ok (.bipush 9, 2) := by decide +kernel
theorem d_C_get_3 : decode b_C_get 3 = .ok (.invokestatic 24, 3) := by decide +kernel
theorem d_C_get_6 : decode b_C_get 6 = .ok (.ifCond .eq 12, 3) := by decide +kernel
theorem d_C_get_9 : decode b_C_get 9 = .ok (.iload_n 2, 1) := by decide +kernel
theorem d_C_get_10 : decode b_C_get 10 = .ok (.bipush 9, 2) := by decide +kernel
theorem d_C_get_12 : decode b_C_get 12 = .ok (.invokestatic 24, 3) := by decide +kernel
theorem d_C_get_15 : decode b_C_get 15 = .ok (.ifCond .ne 5, 3) := by decide +kernel
theorem d_C_get_18 : decode b_C_get 18 = .ok (.iconst (-1), 1) := by decide +kernel
theorem d_C_get_19 : decode b_C_get 19 = .ok (.ireturn, 1) := by decide +kernel
theorem d_C_get_20 : decode b_C_get 20 = .ok (.aload_n 0, 1) := by decide +kernel
theorem d_C_get_21 : decode b_C_get 21 = .ok (.lconst 0, 1) := by decide +kernel
theorem d_C_get_22 : decode b_C_get 22 = .ok (.putfield 21, 3) := by decide +kernel
theorem d_C_get_25 : decode b_C_get 25 = .ok (.aload_n 0, 1) := by decide +kernel
theorem d_C_get_26 : decode b_C_get 26 = .ok (.getfield 11, 3) := by decide +kernel
theorem d_C_get_29 : decode b_C_get 29 = .ok (.iload_n 1, 1) := by decide +kernel
theorem d_C_get_30 : decode b_C_get 30 = .ok (.aaload, 1) := by decide +kernel
theorem d_C_get_31 : decode b_C_get 31 = .ok (.astore_n 3, 1) := by decide +kernel
theorem d_C_get_32 : decode b_C_get 32 = .ok (.aload_n 3, 1) := by decide +kernel
theorem d_C_get_33 : decode b_C_get 33 = .ok (.iload_n 2, 1) := by decide +kernel
theorem d_C_get_34 : decode b_C_get 34 = .ok (.invokestatic 64, 3) := by decide +kernel
theorem d_C_get_37 : decode b_C_get 37 = .ok (.istore 4, 2) := by decide +kernel
theorem d_C_get_39 : decode b_C_get 39 = .ok (.iload 4, 2) := by decide +kernel
theorem d_C_get_41 : decode b_C_get 41 = .ok (.ifCond .eq 6, 3) := by decide +kernel
theorem d_C_get_44 : decode b_C_get 44 = .ok (.iload 4, 2) := by decide +kernel
theorem d_C_get_46 : decode b_C_get 46 = .ok (.ireturn, 1) := by decide +kernel
theorem d_C_get_47 : decode b_C_get 47 = .ok (.aload_n 0, 1) := by decide +kernel
theorem d_C_get_48 : decode b_C_get 48 = .ok (.aload_n 0, 1) := by decide +kernel
theorem d_C_get_49 : decode b_C_get 49 = .ok (.aload_n 3, 1) := by decide +kernel
theorem d_C_get_50 : decode b_C_get 50 = .ok (.iload_n 2, 1) := by decide +kernel
theorem d_C_get_51 : decode b_C_get 51 = .ok (.invokevirtual 68, 3) := by decide +kernel
theorem d_C_get_54 : decode b_C_get 54 = .ok (.invokevirtual 60, 3) := by decide +kernel
theorem d_C_get_57 : decode b_C_get 57 = .ok (.ireturn, 1) := by decide +kernel
theorem d_C_getAs_0 : decode b_C_getAs 0 = .ok (.iload_n 1, 1) := by decide +kernel
theorem d_C_getAs_1 : decode b_C_getAs 1 = .ok (.bipush 9, 2) := by decide +kernel
theorem d_C_getAs_3 : decode b_C_getAs 3 = .ok (.invokestatic 24, 3) := by decide +kernel
theorem d_C_getAs_6 : decode b_C_getAs 6 = .ok (.ifCond .eq 21, 3) := by decide +kernel
theorem d_C_getAs_9 : decode b_C_getAs 9 = .ok (.iload_n 2, 1) := by decide +kernel
theorem d_C_getAs_10 : decode b_C_getAs 10 = .ok (.bipush 9, 2) := by decide +kernel
theorem d_C_getAs_12 : decode b_C_getAs 12 = .ok (.invokestatic 24, 3) := by decide +kernel
theorem d_C_getAs_15 : decode b_C_getAs 15 = .ok (.ifCond .eq 12, 3) := by decide +kernel
theorem d_C_getAs_18 : decode b_C_getAs 18 = .ok (.iload_n 3, 1) := by decide +kernel
theorem d_C_getAs_19 : decode b_C_getAs 19 = .ok (.bipush 8, 2) := by decide +kernel
theorem d_C_getAs_21 : decode b_C_getAs 21 = .ok (.invokestatic 24, 3) := by decide +kernel
theorem d_C_getAs_24 : decode b_C_getAs 24 = .ok (.ifCond .ne 5, 3) := by decide +kernel
theorem d_C_getAs_27 : decode b_C_getAs 27 = .ok (.iconst (-1), 1) := by decide +kernel
theorem d_C_getAs_28 : decode b_C_getAs 28 = .ok (.ireturn, 1) := by decide +kernel
theorem d_C_getAs_29 : decode b_C_getAs 29 = .ok (.aload_n 0, 1) := by decide +kernel
theorem d_C_getAs_30 : decode b_C_getAs 30 = .ok (.lconst 0, 1) := by decide +kernel
theorem d_C_getAs_31 : decode b_C_getAs 31 = .ok (.putfield 21, 3) := by decide +kernel
theorem d_C_getAs_34 : decode b_C_getAs 34 = .ok (.aload_n 0, 1) := by decide +kernel
theorem d_C_getAs_35 : decode b_C_getAs 35 = .ok (.getfield 11, 3) := by decide +kernel
theorem d_C_getAs_38 : decode b_C_getAs 38 = .ok (.iload_n 1, 1) := by decide +kernel
theorem d_C_getAs_39 : decode b_C_getAs 39 = .ok (.aaload, 1) := by decide +kernel
theorem d_C_getAs_40 : decode b_C_getAs 40 = .ok (.astore 4, 2) := by decide +kernel
theorem d_C_getAs_42 : decode b_C_getAs 42 = .ok (.aload 4, 2) := by decide +kernel
theorem d_C_getAs_44 : decode b_C_getAs 44 = .ok (.iload_n 2, 1) := by decide +kernel
theorem d_C_getAs_45 : decode b_C_getAs 45 = .ok (.invokestatic 64, 3) := by decide +kernel
theorem d_C_getAs_48 : decode b_C_getAs 48 = .ok (.istore 5, 2) := by decide +kernel
theorem d_C_getAs_50 : decode b_C_getAs 50 = .ok (.iload 5, 2) := by decide +kernel
theorem d_C_getAs_52 : decode b_C_getAs 52 = .ok (.ifCond .eq 6, 3) := by decide +kernel
theorem d_C_getAs_55 : decode b_C_getAs 55 = .ok (.iload 5, 2) := by decide +kernel
theorem d_C_getAs_57 : decode b_C_getAs 57 = .ok (.ireturn, 1) := by decide +kernel
theorem d_C_getAs_58 : decode b_C_getAs 58 = .ok (.getstatic 72, 3) := by decide +kernel
theorem d_C_getAs_61 : decode b_C_getAs 61 = .ok (.iload_n 2, 1) := by decide +kernel
theorem d_C_getAs_62 : decode b_C_getAs 62 = .ok (.iaload, 1) := by decide +kernel
theorem d_C_getAs_63 : decode b_C_getAs 63 = .ok (.bipush 8, 2) := by decide +kernel
theorem d_C_getAs_65 : decode b_C_getAs 65 = .ok (.if_icmp .ge 15, 3) := by decide +kernel
theorem d_C_getAs_68 : decode b_C_getAs 68 = .ok (.getstatic 72, 3) := by decide +kernel
theorem d_C_getAs_71 : decode b_C_getAs 71 = .ok (.iload_n 2, 1) := by decide +kernel
theorem d_C_getAs_72 : decode b_C_getAs 72 = .ok (.iaload, 1) := by decide +kernel
theorem d_C_getAs_73 : decode b_C_getAs 73 = .ok (.iload_n 3, 1) := by decide +kernel
theorem d_C_getAs_74 : decode b_C_getAs 74 = .ok (.invokestatic 75, 3) := by decide +kernel
theorem d_C_getAs_77 : decode b_C_getAs 77 = .ok (.ifCond .ne 5, 3) := by decide +kernel
theorem d_C_getAs_80 : decode b_C_getAs 80 = .ok (.iconst 2, 1) := by decide +kernel
theorem d_C_getAs_81 : decode b_C_getAs 81 = .ok (.ireturn, 1) := by decide +kernel
theorem d_C_getAs_82 : decode b_C_getAs 82 = .ok (.aload_n 0, 1) := by decide +kernel
theorem d_C_getAs_83 : decode b_C_getAs 83 = .ok (.aload 4, 2) := by decide +kernel
theorem d_C_getAs_85 : decode b_C_getAs 85 = .ok (.iload_n 2, 1) := by decide +kernel
theorem d_C_getAs_86 : decode b_C_getAs 86 = .ok (.invokevirtual 68, 3) := by decide +kernel
theorem d_C_getAs_89 : decode b_C_getAs 89 = .ok (.astore 6, 2) := by decide +kernel
theorem d_C_getAs_91 : decode b_C_getAs 91 = .ok (.aload 6, 2) := by decide +kernel
theorem d_C_getAs_93 : decode b_C_getAs 93 = .ok (.instanceof 78, 3) := by decide +kernel
theorem d_C_getAs_96 : decode b_C_getAs 96 = .ok (.ifCond .eq 20, 3) := by decide +kernel
theorem d_C_getAs_99 : decode b_C_getAs 99 = .ok (.aload 6, 2) := by decide +kernel
theorem d_C_getAs_101 : decode b_C_getAs 101 = .ok (.checkcast 78, 3) := by decide +kernel
theorem d_C_getAs_104 : decode b_C_getAs 104 = .ok (.astore 7, 2) := by decide +kernel
theorem d_C_getAs_106 : decode b_C_getAs 106 = .ok (.aload_n 0, 1) := by decide +kernel
theorem d_C_getAs_107 : decode b_C_getAs 107 = .ok (.aload 7, 2) := by decide +kernel
theorem d_C_getAs_109 : decode b_C_getAs 109 = .ok (.iload_n 3, 1) := by decide +kernel
theorem d_C_getAs_110 : decode b_C_getAs 110 = .ok (.invokevirtual 80, 3) := by decide +kernel
theorem d_C_getAs_113 : decode b_C_getAs 113 = .ok (.putfield 21, 3) := by decide +kernel
theorem d_C_getAs_116 : decode b_C_getAs 116 = .ok (.iconst 0, 1) := by decide +kernel
theorem d_C_getAs_117 : decode b_C_getAs 117 = .ok (.ireturn, 1) := by decide +kernel
theorem d_C_set_0 : decode b_C_set 0 = .ok (.iload_n 1, 1) := by decide +kernel
theorem d_C_set_1 : decode b_C_set 1 = .ok (.bipush 9, 2) := by decide +kernel
theorem d_C_set_3 : decode b_C_set 3 = .ok (.invokestatic 24, 3) := by decide +kernel
theorem d_C_set_6 : decode b_C_set 6 = .ok (.ifCond .eq 21, 3) := by decide +kernel
theorem d_C_set_9 : decode b_C_set 9 = .ok (.iload_n 2, 1) := by decide +kernel
theorem d_C_set_10 : decode b_C_set 10 = .ok (.bipush 9, 2) := by decide +kernel
theorem d_C_set_12 : decode b_C_set 12 = .ok (.invokestatic 24, 3) := by decide +kernel
theorem d_C_set_15 : decode b_C_set 15 = .ok (.ifCond .eq 12, 3) := by decide +kernel
theorem d_C_set_18 : decode b_C_set 18 = .ok (.iload_n 3, 1) := by decide +kernel
theorem d_C_set_19 : decode b_C_set 19 = .ok (.bipush 9, 2) := by decide +kernel
theorem d_C_set_21 : decode b_C_set 21 = .ok (.invokestatic 24, 3) := by decide +kernel
theorem d_C_set_24 : decode b_C_set 24 = .ok (.ifCond .ne 5, 3) := by decide +kernel
theorem d_C_set_27 : decode b_C_set 27 = .ok (.iconst (-1), 1) := by decide +kernel
theorem d_C_set_28 : decode b_C_set 28 = .ok (.ireturn, 1) := by decide +kernel
theorem d_C_set_29 : decode b_C_set 29 = .ok (.aload_n 0, 1) := by decide +kernel
theorem d_C_set_30 : decode b_C_set 30 = .ok (.lconst 0, 1) := by decide +kernel
theorem d_C_set_31 : decode b_C_set 31 = .ok (.putfield 21, 3) := by decide +kernel
theorem d_C_set_34 : decode b_C_set 34 = .ok (.aload_n 0, 1) := by decide +kernel
theorem d_C_set_35 : decode b_C_set 35 = .ok (.getfield 11, 3) := by decide +kernel
theorem d_C_set_38 : decode b_C_set 38 = .ok (.iload_n 1, 1) := by decide +kernel
theorem d_C_set_39 : decode b_C_set 39 = .ok (.aaload, 1) := by decide +kernel
theorem d_C_set_40 : decode b_C_set 40 = .ok (.astore 4, 2) := by decide +kernel
theorem d_C_set_42 : decode b_C_set 42 = .ok (.aload_n 0, 1) := by decide +kernel
theorem d_C_set_43 : decode b_C_set 43 = .ok (.getfield 11, 3) := by decide +kernel
theorem d_C_set_46 : decode b_C_set 46 = .ok (.iload_n 3, 1) := by decide +kernel
theorem d_C_set_47 : decode b_C_set 47 = .ok (.aaload, 1) := by decide +kernel
theorem d_C_set_48 : decode b_C_set 48 = .ok (.astore 5, 2) := by decide +kernel
theorem d_C_set_50 : decode b_C_set 50 = .ok (.aload 4, 2) := by decide +kernel
theorem d_C_set_52 : decode b_C_set 52 = .ok (.iload_n 2, 1) := by decide +kernel
theorem d_C_set_53 : decode b_C_set 53 = .ok (.invokestatic 64, 3) := by decide +kernel
theorem d_C_set_56 : decode b_C_set 56 = .ok (.istore 6, 2) := by decide +kernel
theorem d_C_set_58 : decode b_C_set 58 = .ok (.iload 6, 2) := by decide +kernel
theorem d_C_set_60 : decode b_C_set 60 = .ok (.ifCond .eq 6, 3) := by decide +kernel
theorem d_C_set_63 : decode b_C_set 63 = .ok (.iload 6, 2) := by decide +kernel
theorem d_C_set_65 : decode b_C_set 65 = .ok (.ireturn, 1) := by decide +kernel
theorem d_C_set_66 : decode b_C_set 66 = .ok (.iload_n 2, 1) := by decide +kernel
theorem d_C_set_67 : decode b_C_set 67 = .ok (.bipush 6, 2) := by decide +kernel
theorem d_C_set_69 : decode b_C_set 69 = .ok (.if_icmp .ne 5, 3) := by decide +kernel
theorem d_C_set_72 : decode b_C_set 72 = .ok (.iconst 3, 1) := by decide +kernel
theorem d_C_set_73 : decode b_C_set 73 = .ok (.ireturn, 1) := by decide +kernel
theorem d_C_set_74 : decode b_C_set 74 = .ok (.aload 5, 2) := by decide +kernel
theorem d_C_set_76 : decode b_C_set 76 = .ok (.getstatic 72, 3) := by decide +kernel
theorem d_C_set_79 : decode b_C_set 79 = .ok (.iload_n 2, 1) := by decide +kernel
theorem d_C_set_80 : decode b_C_set 80 = .ok (.iaload, 1) := by decide +kernel
theorem d_C_set_81 : decode b_C_set 81 = .ok (.invokestatic 84, 3) := by decide +kernel
theorem d_C_set_84 : decode b_C_set 84 = .ok (.ifCond .ne 5, 3) := by decide +kernel
theorem d_C_set_87 : decode b_C_set 87 = .ok (.iconst 2, 1) := by decide +kernel
theorem d_C_set_88 : decode b_C_set 88 = .ok (.ireturn, 1) := by decide +kernel
theorem d_C_set_89 : decode b_C_set 89 = .ok (.aload_n 0, 1) := by decide +kernel
theorem d_C_set_90 : decode b_C_set 90 = .ok (.aload 4, 2) := by decide +kernel
theorem d_C_set_92 : decode b_C_set 92 = .ok (.iload_n 2, 1) := by decide +kernel
theorem d_C_set_93 : decode b_C_set 93 = .ok (.aload 5, 2) := by decide +kernel
theorem d_C_set_95 : decode b_C_set 95 = .ok (.invokevirtual 88, 3) := by decide +kernel
theorem d_C_set_98 : decode b_C_set 98 = .ok (.iconst 0, 1) := by decide +kernel
theorem d_C_set_99 : decode b_C_set 99 = .ok (.ireturn, 1) := by decide +kernel
theorem d_C_invoke_0 : decode b_C_invoke 0 = .ok (.iload_n 1, 1) := by decide +kernel
theorem d_C_invoke_1 : decode b_C_invoke 1 = .ok (.bipush 9, 2) := by decide +kernel
theorem d_C_invoke_3 : decode b_C_invoke 3 = .ok (.invokestatic 24, 3) := by decide +kernel
theorem d_C_invoke_6 : decode b_C_invoke 6 = .ok (.ifCond .eq 30, 3) := by decide +kernel
theorem d_C_invoke_9 : decode b_C_invoke 9 = .ok (.iload_n 2, 1) := by decide +kernel
theorem d_C_invoke_10 : decode b_C_invoke 10 = .ok (.bipush 6, 2) := by decide +kernel
theorem d_C_invoke_12 : decode b_C_invoke 12 = .ok (.invokestatic 24, 3) := by decide +kernel
theorem d_C_invoke_15 : decode b_C_invoke 15 = .ok (.ifCond .eq 21, 3) := by decide +kernel
theorem d_C_invoke_18 : decode b_C_invoke 18 = .ok (.iload_n 3, 1) := by decide +kernel
theorem d_C_invoke_19 : decode b_C_invoke 19 = .ok (.iconst 3, 1) := by decide +kernel
theorem d_C_invoke_20 : decode b_C_invoke 20 = .ok (.invokestatic 24, 3) := by decide +kernel
theorem d_C_invoke_23 : decode b_C_invoke 23 = .ok (.ifCond .eq 13, 3) := by decide +kernel
theorem d_C_invoke_26 : decode b_C_invoke 26 = .ok (.iload 4, 2) := by decide +kernel
theorem d_C_invoke_28 : decode b_C_invoke 28 = .ok (.bipush 81, 2) := by decide +kernel
theorem d_C_invoke_30 : decode b_C_invoke 30 = .ok (.invokestatic 24, 3) := by decide +kernel
theorem d_C_invoke_33 : decode b_C_invoke 33 = .ok (.ifCond .ne 5, 3) := by decide +kernel
theorem d_C_invoke_36 : decode b_C_invoke 36 = .ok (.iconst (-1), 1) := by decide +kernel
theorem d_C_invoke_37 : decode b_C_invoke 37 = .ok (.ireturn, 1) := by decide +kernel
theorem d_C_invoke_38 : decode b_C_invoke 38 = .ok (.aload_n 0, 1) := by decide +kernel
theorem d_C_invoke_39 : decode b_C_invoke 39 = .ok (.lconst 0, 1) := by decide +kernel
theorem d_C_invoke_40 : decode b_C_invoke 40 = .ok (.putfield 21, 3) := by decide +kernel
theorem d_C_invoke_43 : decode b_C_invoke 43 = .ok (.aload_n 0, 1) := by decide +kernel
theorem d_C_invoke_44 : decode b_C_invoke 44 = .ok (.getfield 11, 3) := by decide +kernel
theorem d_C_invoke_47 : decode b_C_invoke 47 = .ok (.iload_n 1, 1) := by decide +kernel
theorem d_C_invoke_48 : decode b_C_invoke 48 = .ok (.aaload, 1) := by decide +kernel
theorem d_C_invoke_49 : decode b_C_invoke 49 = .ok (.astore 5, 2) := by decide +kernel
theorem d_C_invoke_51 : decode b_C_invoke 51 = .ok (.iload_n 2, 1) := by decide +kernel
theorem d_C_invoke_52 : decode b_C_invoke 52 = .ok (.iconst 2, 1) := by decide +kernel
theorem d_C_invoke_53 : decode b_C_invoke 53 = .ok (.if_icmp .ne 7, 3) := by decide +kernel
theorem d_C_invoke_56 : decode b_C_invoke 56 = .ok (.iconst 0, 1) := by decide +kernel
theorem d_C_invoke_57 : decode b_C_invoke 57 = .ok (.goto 8, 3) := by decide +kernel
theorem d_C_invoke_60 : decode b_C_invoke 60 = .ok (.aload 5, 2) := by decide +kernel
theorem d_C_invoke_62 : decode b_C_invoke 62 = .ok (.invokestatic 92, 3) := by decide +kernel
theorem d_C_invoke_65 : decode b_C_invoke 65 = .ok (.istore 6, 2) := by decide +kernel
theorem d_C_invoke_67 : decode b_C_invoke 67 = .ok (.iload 6, 2) := by decide +kernel
theorem d_C_invoke_69 : decode b_C_invoke 69 = .ok (.ifCond .eq 6, 3) := by decide +kernel
theorem d_C_invoke_72 : decode b_C_invoke 72 = .ok (.iload 6, 2) := by decide +kernel
theorem d_C_invoke_74 : decode b_C_invoke 74 = .ok (.ireturn, 1) := by decide +kernel
theorem d_C_invoke_75 : decode b_C_invoke 75 = .ok (.iload_n 3, 1) := by decide +kernel
theorem d_C_invoke_76 : decode b_C_invoke 76 = .ok (.getstatic 95, 3) := by decide +kernel
theorem d_C_invoke_79 : decode b_C_invoke 79 = .ok (.iload_n 2, 1) := by decide +kernel
theorem d_C_invoke_80 : decode b_C_invoke 80 = .ok (.iaload, 1) := by decide +kernel
theorem d_C_invoke_81 : decode b_C_invoke 81 = .ok (.if_icmp .eq 5, 3) := by decide +kernel
theorem d_C_invoke_84 : decode b_C_invoke 84 = .ok (.iconst 2, 1) := by decide +kernel
theorem d_C_invoke_85 : decode b_C_invoke 85 = .ok (.ireturn, 1) := by decide +kernel
theorem d_C_invoke_86 : decode b_C_invoke 86 = .ok (.aload_n 0, 1) := by decide +kernel
theorem d_C_invoke_87 : decode b_C_invoke 87 = .ok (.getfield 11, 3) := by decide +kernel
theorem d_C_invoke_90 : decode b_C_invoke 90 = .ok (.iload 4, 2) := by decide +kernel
theorem d_C_invoke_92 : decode b_C_invoke 92 = .ok (.bipush 9, 2) := by decide +kernel
theorem d_C_invoke_94 : decode b_C_invoke 94 = .ok (.idiv, 1) := by decide +kernel
theorem d_C_invoke_95 : decode b_C_invoke 95 = .ok (.aaload, 1) := by decide +kernel
theorem d_C_invoke_96 : decode b_C_invoke 96 = .ok (.astore 7, 2) := by decide +kernel
theorem d_C_invoke_98 : decode b_C_invoke 98 = .ok (.aload_n 0, 1) := by decide +kernel
theorem d_C_invoke_99 : decode b_C_invoke 99 = .ok (.getfield 11, 3) := by decide +kernel
theorem d_C_invoke_102 : decode b_C_invoke 102 = .ok (.iload 4, 2) := by decide +kernel
theorem d_C_invoke_104 : decode b_C_invoke 104 = .ok (.bipush 9, 2) := by decide +kernel
theorem d_C_invoke_106 : decode b_C_invoke 106 = .ok (.irem, 1) := by decide +kernel
theorem d_C_invoke_107 : decode b_C_invoke 107 = .ok (.aaload, 1) := by decide +kernel
theorem d_C_invoke_108 : decode b_C_invoke 108 = .ok (.astore 8, 2) := by decide +kernel
theorem d_C_invoke_110 : decode b_C_invoke 110 = .ok (.aload 7, 2) := by decide +kernel
theorem d_C_invoke_112 : decode b_C_invoke 112 = .ok (.getstatic 98, 3) := by decide +kernel
theorem d_C_invoke_115 : decode b_C_invoke 115 = .ok (.iload_n 2, 1) := by decide +kernel
theorem d_C_invoke_116 : decode b_C_invoke 116 = .ok (.iaload, 1) := by decide +kernel
theorem d_C_invoke_117 : decode b_C_invoke 117 = .ok (.invokestatic 84, 3) := by decide +kernel
theorem d_C_invoke_120 : decode b_C_invoke 120 = .ok (.ifCond .eq 16, 3) := by decide +kernel
theorem d_C_invoke_123 : decode b_C_invoke 123 = .ok (.aload 8, 2) := by decide +kernel
theorem d_C_invoke_125 : decode b_C_invoke 125 = .ok (.getstatic 101, 3) := by decide +kernel
theorem d_C_invoke_128 : decode b_C_invoke 128 = .ok (.iload_n 2, 1) := by decide +kernel
theorem d_C_invoke_129 : decode b_C_invoke 129 = .ok (.iaload, 1) := by decide +kernel
theorem d_C_invoke_130 : decode b_C_invoke 130 = .ok (.invokestatic 84, 3) := by decide +kernel
theorem d_C_invoke_133 : decode b_C_invoke 133 = .ok (.ifCond .ne 5, 3) := by decide +kernel
theorem d_C_invoke_136 : decode b_C_invoke 136 = .ok (.iconst 2, 1) := by decide +kernel
theorem d_C_invoke_137 : decode b_C_invoke 137 = .ok (.ireturn, 1) := by decide +kernel
theorem d_C_invoke_138 : decode b_C_invoke 138 = .ok (.iload_n 2, 1) := by decide +kernel
theorem d_C_invoke_139 : decode b_C_invoke 139 = .ok (.iconst 2, 1) := by decide +kernel
theorem d_C_invoke_140 : decode b_C_invoke 140 = .ok (.if_icmp .ne 24, 3) := by decide +kernel
theorem d_C_invoke_143 : decode b_C_invoke 143 = .ok (.aload_n 0, 1) := by decide +kernel
theorem d_C_invoke_144 : decode b_C_invoke 144 = .ok (.bipush 7, 2) := by decide +kernel
theorem d_C_invoke_146 : decode b_C_invoke 146 = .ok (.aload 7, 2) := by decide +kernel
theorem d_C_invoke_148 : decode b_C_invoke 148 = .ok (.invokestatic 104, 3) := by decide +kernel
theorem d_C_invoke_151 : decode b_C_invoke 151 = .ok (.aload 7, 2) := by decide +kernel
theorem d_C_invoke_153 : decode b_C_invoke 153 = .ok (.invokestatic 104, 3) := by decide +kernel
theorem d_C_invoke_156 : decode b_C_invoke 156 = .ok (.dadd, 1) := by decide +kernel
theorem d_C_invoke_157 : decode b_C_invoke 157 = .ok (.invokestatic 108, 3) := by decide +kernel
theorem d_C_invoke_160 : decode b_C_invoke 160 = .ok (.invokevirtual 60, 3) := by decide +kernel
theorem d_C_invoke_163 : decode b_C_invoke 163 = .ok (.ireturn, 1) := by decide +kernel
theorem d_C_invoke_164 : decode b_C_invoke 164 = .ok (.aload 5, 2) := by decide +kernel
theorem d_C_invoke_166 : decode b_C_invoke 166 = .ok (.instanceof 112, 3) := by decide +kernel
theorem d_C_invoke_169 : decode b_C_invoke 169 = .ok (.ifCond .eq 22, 3) := by decide +kernel
theorem d_C_invoke_172 : decode b_C_invoke 172 = .ok (.aload 5, 2) := by decide +kernel
theorem d_C_invoke_174 : decode b_C_invoke 174 = .ok (.checkcast 112, 3) := by decide +kernel
theorem d_C_invoke_177 : decode b_C_invoke 177 = .ok (.astore 9, 2) := by decide +kernel
theorem d_C_invoke_179 : decode b_C_invoke 179 = .ok (.aload_n 0, 1) := by decide +kernel
theorem d_C_invoke_180 : decode b_C_invoke 180 = .ok (.aload 9, 2) := by decide +kernel
theorem d_C_invoke_182 : decode b_C_invoke 182 = .ok (.iload_n 2, 1) := by decide +kernel
theorem d_C_invoke_183 : decode b_C_invoke 183 = .ok (.aload 7, 2) := by decide +kernel
theorem d_C_invoke_185 : decode b_C_invoke 185 = .ok (.aload 8, 2) := by decide +kernel
theorem d_C_invoke_187 : decode b_C_invoke 187 = .ok (.invokevirtual 114, 3) := by decide +kernel
theorem d_C_invoke_190 : decode b_C_invoke 190 = .ok (.ireturn, 1) := by decide +kernel
theorem d_C_invoke_191 : decode b_C_invoke 191 = .ok (.iconst 2, 1) := by decide +kernel
theorem d_C_invoke_192 : decode b_C_invoke 192 = .ok (.ireturn, 1) := by decide +kernel
theorem d_C_cast_0 : decode b_C_cast 0 = .ok (.iload_n 1, 1) := by decide +kernel
theorem d_C_cast_1 : decode b_C_cast 1 = .ok (.bipush 9, 2) := by decide +kernel
theorem d_C_cast_3 : decode b_C_cast 3 = .ok (.invokestatic 24, 3) := by decide +kernel
theorem d_C_cast_6 : decode b_C_cast 6 = .ok (.ifCond .eq 12, 3) := by decide +kernel
theorem d_C_cast_9 : decode b_C_cast 9 = .ok (.iload_n 2, 1) := by decide +kernel
theorem d_C_cast_10 : decode b_C_cast 10 = .ok (.bipush 8, 2) := by decide +kernel
theorem d_C_cast_12 : decode b_C_cast 12 = .ok (.invokestatic 24, 3) := by decide +kernel
theorem d_C_cast_15 : decode b_C_cast 15 = .ok (.ifCond .ne 5, 3) := by decide +kernel
theorem d_C_cast_18 : decode b_C_cast 18 = .ok (.iconst (-1), 1) := by decide +kernel
theorem d_C_cast_19 : decode b_C_cast 19 = .ok (.ireturn, 1) := by decide +kernel
theorem d_C_cast_20 : decode b_C_cast 20 = .ok (.aload_n 0, 1) := by decide +kernel
theorem d_C_cast_21 : decode b_C_cast 21 = .ok (.lconst 0, 1) := by decide +kernel
theorem d_C_cast_22 : decode b_C_cast 22 = .ok (.putfield 21, 3) := by decide +kernel
theorem d_C_cast_25 : decode b_C_cast 25 = .ok (.aload_n 0, 1) := by decide +kernel
theorem d_C_cast_26 : decode b_C_cast 26 = .ok (.getfield 11, 3) := by decide +kernel
theorem d_C_cast_29 : decode b_C_cast 29 = .ok (.iload_n 1, 1) := by decide +kernel
theorem d_C_cast_30 : decode b_C_cast 30 = .ok (.aaload, 1) := by decide +kernel
theorem d_C_cast_31 : decode b_C_cast 31 = .ok (.astore_n 3, 1) := by decide +kernel
theorem d_C_cast_32 : decode b_C_cast 32 = .ok (.aload_n 3, 1) := by decide +kernel
theorem d_C_cast_33 : decode b_C_cast 33 = .ok (.ifnull 17, 3) := by decide +kernel
theorem d_C_cast_36 : decode b_C_cast 36 = .ok (.iload_n 2, 1) := by decide +kernel
theorem d_C_cast_37 : decode b_C_cast 37 = .ok (.aload_n 3, 1) := by decide +kernel
theorem d_C_cast_38 : decode b_C_cast 38 = .ok (.invokevirtual 118, 3) := by decide +kernel
theorem d_C_cast_41 : decode b_C_cast 41 = .ok (.invokestatic 122, 3) := by decide +kernel
theorem d_C_cast_44 : decode b_C_cast 44 = .ok (.ifCond .ne 6, 3) := by decide +kernel
theorem d_C_cast_47 : decode b_C_cast 47 = .ok (.bipush 7, 2) := by decide +kernel
theorem d_C_cast_49 : decode b_C_cast 49 = .ok (.ireturn, 1) := by decide +kernel
theorem d_C_cast_50 : decode b_C_cast 50 = .ok (.aload_n 0, 1) := by decide +kernel
theorem d_C_cast_51 : decode b_C_cast 51 = .ok (.aload_n 3, 1) := by decide +kernel
theorem d_C_cast_52 : decode b_C_cast 52 = .ok (.invokevirtual 60, 3) := by decide +kernel
theorem d_C_cast_55 : decode b_C_cast 55 = .ok (.ireturn, 1) := by decide +kernel
theorem d_C_last_0 : decode b_C_last 0 = .ok (.aload_n 0, 1) := by decide +kernel
theorem d_C_last_1 : decode b_C_last 1 = .ok (.getfield 21, 3) := by decide +kernel
theorem d_C_last_4 : decode b_C_last 4 = .ok (.lreturn, 1) := by decide +kernel
theorem d_C_look_0 : decode b_C_look 0 = .ok (.iload_n 1, 1) := by decide +kernel
theorem d_C_look_1 : decode b_C_look 1 = .ok (.bipush 9, 2) := by decide +kernel
theorem d_C_look_3 : decode b_C_look 3 = .ok (.invokestatic 24, 3) := by decide +kernel
theorem d_C_look_6 : decode b_C_look 6 = .ok (.ifCond .ne 5, 3) := by decide +kernel
theorem d_C_look_9 : decode b_C_look 9 = .ok (.iconst (-1), 1) := by decide +kernel
theorem d_C_look_10 : decode b_C_look 10 = .ok (.ireturn, 1) := by decide +kernel
theorem d_C_look_11 : decode b_C_look 11 = .ok (.iload_n 2, 1) := by decide +kernel
theorem d_C_look_12 : decode b_C_look 12 = .ok (.ifCond .eq 16, 3) := by decide +kernel
theorem d_C_look_15 : decode b_C_look 15 = .ok (.aload_n 0, 1) := by decide +kernel
theorem d_C_look_16 : decode b_C_look 16 = .ok (.aload_n 0, 1) := by decide +kernel
theorem d_C_look_17 : decode b_C_look 17 = .ok (.getfield 11, 3) := by decide +kernel
theorem d_C_look_20 : decode b_C_look 20 = .ok (.iload_n 1, 1) := by decide +kernel
theorem d_C_look_21 : decode b_C_look 21 = .ok (.aaload, 1) := by decide +kernel
theorem d_C_look_22 : decode b_C_look 22 = .ok (.invokevirtual 125, 3) := by decide +kernel
theorem d_C_look_25 : decode b_C_look 25 = .ok (.goto 12, 3) := by decide +kernel
theorem d_C_look_28 : decode b_C_look 28 = .ok (.aload_n 0, 1) := by decide +kernel
theorem d_C_look_29 : decode b_C_look 29 = .ok (.getfield 11, 3) := by decide +kernel
theorem d_C_look_32 : decode b_C_look 32 = .ok (.iload_n 1, 1) := by decide +kernel
theorem d_C_look_33 : decode b_C_look 33 = .ok (.aaload, 1) := by decide +kernel
theorem d_C_look_34 : decode b_C_look 34 = .ok (.invokestatic 128, 3) := by decide +kernel
theorem d_C_look_37 : decode b_C_look 37 = .ok (.ireturn, 1) := by decide +kernel
theorem d_C_value_0 : decode b_C_value 0 = .ok (.iload_n 1, 1) := by decide +kernel
theorem d_C_value_1 : decode b_C_value 1 = .ok (.bipush 9, 2) := by decide +kernel
theorem d_C_value_3 : decode b_C_value 3 = .ok (.invokestatic 24, 3) := by decide +kernel
theorem d_C_value_6 : decode b_C_value 6 = .ok (.ifCond .ne 7, 3) := by decide +kernel
theorem d_C_value_9 : decode b_C_value 9 = .ok (.ldc2_w 131, 3) := by decide +kernel
theorem d_C_value_12 : decode b_C_value 12 = .ok (.lreturn, 1) := by decide +kernel
theorem d_C_value_13 : decode b_C_value 13 = .ok (.aload_n 0, 1) := by decide +kernel
theorem d_C_value_14 : decode b_C_value 14 = .ok (.getfield 11, 3) := by decide +kernel
theorem d_C_value_17 : decode b_C_value 17 = .ok (.iload_n 1, 1) := by decide +kernel
theorem d_C_value_18 : decode b_C_value 18 = .ok (.aaload, 1) := by decide +kernel
theorem d_C_value_19 : decode b_C_value 19 = .ok (.astore_n 2, 1) := by decide +kernel
theorem d_C_value_20 : decode b_C_value 20 = .ok (.aload_n 2, 1) := by decide +kernel
theorem d_C_value_21 : decode b_C_value 21 = .ok (.ifnonnull 7, 3) := by decide +kernel
theorem d_C_value_24 : decode b_C_value 24 = .ok (.lconst 0, 1) := by decide +kernel
theorem d_C_value_25 : decode b_C_value 25 = .ok (.goto 7, 3) := by decide +kernel
theorem d_C_value_28 : decode b_C_value 28 = .ok (.aload_n 2, 1) := by decide +kernel
theorem d_C_value_29 : decode b_C_value 29 = .ok (.invokevirtual 133, 3) := by decide +kernel
theorem d_C_value_32 : decode b_C_value 32 = .ok (.lreturn, 1) := by decide +kernel
theorem d_C_typed_0 : decode b_C_typed 0 = .ok (.iload_n 1, 1) := by decide +kernel
theorem d_C_typed_1 : decode b_C_typed 1 = .ok (.bipush 13, 2) := by decide +kernel
theorem d_C_typed_3 : decode b_C_typed 3 = .ok (.invokestatic 24, 3) := by decide +kernel
theorem d_C_typed_6 : decode b_C_typed 6 = .ok (.ifCond .ne 5, 3) := by decide +kernel
theorem d_C_typed_9 : decode b_C_typed 9 = .ok (.iconst (-1), 1) := by decide +kernel
theorem d_C_typed_10 : decode b_C_typed 10 = .ok (.ireturn, 1) := by decide +kernel
theorem d_C_typed_11 : decode b_C_typed 11 = .ok (.iload_n 3, 1) := by decide +kernel
theorem d_C_typed_12 : decode b_C_typed 12 = .ok (.tableswitch 56 0 3 #[32, 38, 44, 50], 32) := by decide +kernel
theorem d_C_typed_44 : decode b_C_typed 44 = .ok (.iload_n 1, 1) := by decide +kernel
theorem d_C_typed_45 : decode b_C_typed 45 = .ok (.iload_n 2, 1) := by decide +kernel
theorem d_C_typed_46 : decode b_C_typed 46 = .ok (.invokestatic 137, 3) := by decide +kernel
theorem d_C_typed_49 : decode b_C_typed 49 = .ok (.ireturn, 1) := by decide +kernel
theorem d_C_typed_50 : decode b_C_typed 50 = .ok (.getstatic 141, 3) := by decide +kernel
theorem d_C_typed_53 : decode b_C_typed 53 = .ok (.iload_n 1, 1) := by decide +kernel
theorem d_C_typed_54 : decode b_C_typed 54 = .ok (.iaload, 1) := by decide +kernel
theorem d_C_typed_55 : decode b_C_typed 55 = .ok (.ireturn, 1) := by decide +kernel
theorem d_C_typed_56 : decode b_C_typed 56 = .ok (.getstatic 144, 3) := by decide +kernel
theorem d_C_typed_59 : decode b_C_typed 59 = .ok (.iload_n 1, 1) := by decide +kernel
theorem d_C_typed_60 : decode b_C_typed 60 = .ok (.iaload, 1) := by decide +kernel
theorem d_C_typed_61 : decode b_C_typed 61 = .ok (.ireturn, 1) := by decide +kernel
theorem d_C_typed_62 : decode b_C_typed 62 = .ok (.getstatic 52, 3) := by decide +kernel
theorem d_C_typed_65 : decode b_C_typed 65 = .ok (.iload_n 1, 1) := by decide +kernel
theorem d_C_typed_66 : decode b_C_typed 66 = .ok (.iaload, 1) := by decide +kernel
theorem d_C_typed_67 : decode b_C_typed 67 = .ok (.ireturn, 1) := by decide +kernel
theorem d_C_typed_68 : decode b_C_typed 68 = .ok (.iconst (-1), 1) := by decide +kernel
theorem d_C_typed_69 : decode b_C_typed 69 = .ok (.ireturn, 1) := by decide +kernel
theorem d_C_isBelow_0 : decode b_C_isBelow 0 = .ok (.iload_n 0, 1) := by decide +kernel
theorem d_C_isBelow_1 : decode b_C_isBelow 1 = .ok (.ifCond .lt 12, 3) := by decide +kernel
theorem d_C_isBelow_4 : decode b_C_isBelow 4 = .ok (.iload_n 0, 1) := by decide +kernel
theorem d_C_isBelow_5 : decode b_C_isBelow 5 = .ok (.iload_n 1, 1) := by decide +kernel
theorem d_C_isBelow_6 : decode b_C_isBelow 6 = .ok (.if_icmp .ge 7, 3) := by decide +kernel
theorem d_C_isBelow_9 : decode b_C_isBelow 9 = .ok (.iconst 1, 1) := by decide +kernel
theorem d_C_isBelow_10 : decode b_C_isBelow 10 = .ok (.goto 4, 3) := by decide +kernel
theorem d_C_isBelow_13 : decode b_C_isBelow 13 = .ok (.iconst 0, 1) := by decide +kernel
theorem d_C_isBelow_14 : decode b_C_isBelow 14 = .ok (.ireturn, 1) := by decide +kernel
theorem d_C_answer_0 : decode b_C_answer 0 = .ok (.aload_n 0, 1) := by decide +kernel
theorem d_C_answer_1 : decode b_C_answer 1 = .ok (.getfield 11, 3) := by decide +kernel
theorem d_C_answer_4 : decode b_C_answer 4 = .ok (.bipush 8, 2) := by decide +kernel
theorem d_C_answer_6 : decode b_C_answer 6 = .ok (.aload_n 1, 1) := by decide +kernel
theorem d_C_answer_7 : decode b_C_answer 7 = .ok (.aastore, 1) := by decide +kernel
theorem d_C_answer_8 : decode b_C_answer 8 = .ok (.iconst 0, 1) := by decide +kernel
theorem d_C_answer_9 : decode b_C_answer 9 = .ok (.ireturn, 1) := by decide +kernel
theorem d_C_fail_0 : decode b_C_fail 0 = .ok (.aload_n 0, 1) := by decide +kernel
theorem d_C_fail_1 : decode b_C_fail 1 = .ok (.iload_n 1, 1) := by decide +kernel
theorem d_C_fail_2 : decode b_C_fail 2 = .ok (.i2l, 1) := by decide +kernel
theorem d_C_fail_3 : decode b_C_fail 3 = .ok (.putfield 21, 3) := by decide +kernel
theorem d_C_fail_6 : decode b_C_fail 6 = .ok (.iconst 4, 1) := by decide +kernel
theorem d_C_fail_7 : decode b_C_fail 7 = .ok (.ireturn, 1) := by decide +kernel
theorem d_C_boxOfWhole_0 : decode b_C_boxOfWhole 0 = .ok (.new 78, 3) := by decide +kernel
theorem d_C_boxOfWhole_3 : decode b_C_boxOfWhole 3 = .ok (.dup, 1) := by decide +kernel
theorem d_C_boxOfWhole_4 : decode b_C_boxOfWhole 4 = .ok (.iload_n 0, 1) := by decide +kernel
theorem d_C_boxOfWhole_5 : decode b_C_boxOfWhole 5 = .ok (.lload_n 1, 1) := by decide +kernel
theorem d_C_boxOfWhole_6 : decode b_C_boxOfWhole 6 = .ok (.lload_n 1, 1) := by decide +kernel
theorem d_C_boxOfWhole_7 : decode b_C_boxOfWhole 7 = .ok (.l2d, 1) := by decide +kernel
theorem d_C_boxOfWhole_8 : decode b_C_boxOfWhole 8 = .ok (.invokespecial 147, 3) := by decide +kernel
theorem d_C_boxOfWhole_11 : decode b_C_boxOfWhole 11 = .ok (.areturn, 1) := by decide +kernel
theorem d_C_boxOfReal_0 : decode b_C_boxOfReal 0 = .ok (.new 78, 3) := by decide +kernel
theorem d_C_boxOfReal_3 : decode b_C_boxOfReal 3 = .ok (.dup, 1) := by decide +kernel
theorem d_C_boxOfReal_4 : decode b_C_boxOfReal 4 = .ok (.iload_n 0, 1) := by decide +kernel
theorem d_C_boxOfReal_5 : decode b_C_boxOfReal 5 = .ok (.lconst 0, 1) := by decide +kernel
theorem d_C_boxOfReal_6 : decode b_C_boxOfReal 6 = .ok (.dload_n 1, 1) := by decide +kernel
theorem d_C_boxOfReal_7 : decode b_C_boxOfReal 7 = .ok (.invokespecial 147, 3) := by decide +kernel
theorem d_C_boxOfReal_10 : decode b_C_boxOfReal 10 = .ok (.areturn, 1) := by decide +kernel
theorem d_C_boxMade_0 : decode b_C_boxMade 0 = .ok (.iload_n 0, 1) := by decide +kernel
theorem d_C_boxMade_1 : decode b_C_boxMade 1 = .ok (.tableswitch 113 0 7 #[47, 55, 64, 74, 83, 113, 91, 102], 47) := by decide +kernel
theorem d_C_boxMade_48 : decode b_C_boxMade 48 = .ok (.iload_n 0, 1) := by decide +kernel
theorem d_C_boxMade_49 : decode b_C_boxMade 49 = .ok (.lload_n 1, 1) := by decide +kernel
theorem d_C_boxMade_50 : decode b_C_boxMade 50 = .ok (.lconst 1, 1) := by decide +kernel
theorem d_C_boxMade_51 : decode b_C_boxMade 51 = .ok (.land, 1) := by decide +kernel
theorem d_C_boxMade_52 : decode b_C_boxMade 52 = .ok (.invokestatic 150, 3) := by decide +kernel
theorem d_C_boxMade_55 : decode b_C_boxMade 55 = .ok (.areturn, 1) := by decide +kernel
theorem d_C_boxMade_56 : decode b_C_boxMade 56 = .ok (.iload_n 0, 1) := by decide +kernel
theorem d_C_boxMade_57 : decode b_C_boxMade 57 = .ok (.lload_n 1, 1) := by decide +kernel
theorem d_C_boxMade_58 : decode b_C_boxMade 58 = .ok (.l2i, 1) := by decide +kernel
theorem d_C_boxMade_59 : decode b_C_boxMade 59 = .ok (.i2b, 1) := by decide +kernel
theorem d_C_boxMade_60 : decode b_C_boxMade 60 = .ok (.i2l, 1) := by decide +kernel
theorem d_C_boxMade_61 : decode b_C_boxMade 61 = .ok (.invokestatic 150, 3) := by decide +kernel
theorem d_C_boxMade_64 : decode b_C_boxMade 64 = .ok (.areturn, 1) := by decide +kernel
theorem d_C_boxMade_65 : decode b_C_boxMade 65 = .ok (.iload_n 0, 1) := by decide +kernel
theorem d_C_boxMade_66 : decode b_C_boxMade 66 = .ok (.lload_n 1, 1) := by decide +kernel
theorem d_C_boxMade_67 : decode b_C_boxMade 67 = .ok (.ldc2_w 153, 3) := by decide +kernel
theorem d_C_boxMade_70 : decode b_C_boxMade 70 = .ok (.land, 1) := by decide +kernel
theorem d_C_boxMade_71 : decode b_C_boxMade 71 = .ok (.invokestatic 150, 3) := by decide +kernel
theorem d_C_boxMade_74 : decode b_C_boxMade 74 = .ok (.areturn, 1) := by decide +kernel
theorem d_C_boxMade_75 : decode b_C_boxMade 75 = .ok (.iload_n 0, 1) := by decide +kernel
theorem d_C_boxMade_76 : decode b_C_boxMade 76 = .ok (.lload_n 1, 1) := by decide +kernel
theorem d_C_boxMade_77 : decode b_C_boxMade 77 = .ok (.l2i, 1) := by decide +kernel
theorem d_C_boxMade_78 : decode b_C_boxMade 78 = .ok (.i2s, 1) := by decide +kernel
theorem d_C_boxMade_79 : decode b_C_boxMade 79 = .ok (.i2l, 1) := by decide +kernel
theorem d_C_boxMade_80 : decode b_C_boxMade 80 = .ok (.invokestatic 150, 3) := by decide +kernel
theorem d_C_boxMade_83 : decode b_C_boxMade 83 = .ok (.areturn, 1) := by decide +kernel
theorem d_C_boxMade_84 : decode b_C_boxMade 84 = .ok (.iload_n 0, 1) := by decide +kernel
theorem d_C_boxMade_85 : decode b_C_boxMade 85 = .ok (.lload_n 1, 1) := by decide +kernel
theorem d_C_boxMade_86 : decode b_C_boxMade 86 = .ok (.l2i, 1) := by decide +kernel
theorem d_C_boxMade_87 : decode b_C_boxMade 87 = .ok (.i2l, 1) := by decide +kernel
theorem d_C_boxMade_88 : decode b_C_boxMade 88 = .ok (.invokestatic 150, 3) := by decide +kernel
theorem d_C_boxMade_91 : decode b_C_boxMade 91 = .ok (.areturn, 1) := by decide +kernel
theorem d_C_boxMade_92 : decode b_C_boxMade 92 = .ok (.iload_n 0, 1) := by decide +kernel
theorem d_C_boxMade_93 : decode b_C_boxMade 93 = .ok (.lload_n 1, 1) := by decide +kernel
theorem d_C_boxMade_94 : decode b_C_boxMade 94 = .ok (.l2f, 1) := by decide +kernel
theorem d_C_boxMade_95 : decode b_C_boxMade 95 = .ok (.ldc 155, 2) := by decide +kernel
theorem d_C_boxMade_97 : decode b_C_boxMade 97 = .ok (.fmul, 1) := by decide +kernel
theorem d_C_boxMade_98 : decode b_C_boxMade 98 = .ok (.f2d, 1) := by decide +kernel
theorem d_C_boxMade_99 : decode b_C_boxMade 99 = .ok (.invokestatic 108, 3) := by decide +kernel
theorem d_C_boxMade_102 : decode b_C_boxMade 102 = .ok (.areturn, 1) := by decide +kernel
theorem d_C_boxMade_103 : decode b_C_boxMade 103 = .ok (.iload_n 0, 1) := by decide +kernel
theorem d_C_boxMade_104 : decode b_C_boxMade 104 = .ok (.lload_n 1, 1) := by decide +kernel
theorem d_C_boxMade_105 : decode b_C_boxMade 105 = .ok (.l2d, 1) := by decide +kernel
theorem d_C_boxMade_106 : decode b_C_boxMade 106 = .ok (.ldc2_w 156, 3) := by decide +kernel
theorem d_C_boxMade_109 : decode b_C_boxMade 109 = .ok (.dmul, 1) := by decide +kernel
theorem d_C_boxMade_110 : decode b_C_boxMade 110 = .ok (.invokestatic 108, 3) := by decide +kernel
theorem d_C_boxMade_113 : decode b_C_boxMade 113 = .ok (.areturn, 1) := by decide +kernel
theorem d_C_boxMade_114 : decode b_C_boxMade 114 = .ok (.iconst 5, 1) := by decide +kernel
theorem d_C_boxMade_115 : decode b_C_boxMade 115 = .ok (.lload_n 1, 1) := by decide +kernel
theorem d_C_boxMade_116 : decode b_C_boxMade 116 = .ok (.invokestatic 150, 3) := by decide +kernel
theorem d_C_boxMade_119 : decode b_C_boxMade 119 = .ok (.areturn, 1) := by decide +kernel
theorem d_C_widens_0 : decode b_C_widens 0 = .ok (.iload_n 0, 1) := by decide +kernel
theorem d_C_widens_1 : decode b_C_widens 1 = .ok (.iload_n 1, 1) := by decide +kernel
theorem d_C_widens_2 : decode b_C_widens 2 = .ok (.if_icmp .ne 5, 3) := by decide +kernel
theorem d_C_widens_5 : decode b_C_widens 5 = .ok (.iconst 1, 1) := by decide +kernel
theorem d_C_widens_6 : decode b_C_widens 6 = .ok (.ireturn, 1) := by decide +kernel
theorem d_C_widens_7 : decode b_C_widens 7 = .ok (.iload_n 0, 1) := by decide +kernel
theorem d_C_widens_8 : decode b_C_widens 8 = .ok (.ifCond .eq 12, 3) := by decide +kernel
theorem d_C_widens_11 : decode b_C_widens 11 = .ok (.iload_n 1, 1) := by decide +kernel
theorem d_C_widens_12 : decode b_C_widens 12 = .ok (.ifCond .eq 8, 3) := by decide +kernel
theorem d_C_widens_15 : decode b_C_widens 15 = .ok (.iload_n 1, 1) := by decide +kernel
theorem d_C_widens_16 : decode b_C_widens 16 = .ok (.iconst 2, 1) := by decide +kernel
theorem d_C_widens_17 : decode b_C_widens 17 = .ok (.if_icmp .ne 5, 3) := by decide +kernel
theorem d_C_widens_20 : decode b_C_widens 20 = .ok (.iconst 0, 1) := by decide +kernel
theorem d_C_widens_21 : decode b_C_widens 21 = .ok (.ireturn, 1) := by decide +kernel
theorem d_C_widens_22 : decode b_C_widens 22 = .ok (.iload_n 0, 1) := by decide +kernel
theorem d_C_widens_23 : decode b_C_widens 23 = .ok (.iconst 2, 1) := by decide +kernel
theorem d_C_widens_24 : decode b_C_widens 24 = .ok (.if_icmp .ne 14, 3) := by decide +kernel
theorem d_C_widens_27 : decode b_C_widens 27 = .ok (.iload_n 1, 1) := by decide +kernel
theorem d_C_widens_28 : decode b_C_widens 28 = .ok (.iconst 4, 1) := by decide +kernel
theorem d_C_widens_29 : decode b_C_widens 29 = .ok (.if_icmp .lt 7, 3) := by decide +kernel
theorem d_C_widens_32 : decode b_C_widens 32 = .ok (.iconst 1, 1) := by decide +kernel
theorem d_C_widens_33 : decode b_C_widens 33 = .ok (.goto 4, 3) := by decide +kernel
theorem d_C_widens_36 : decode b_C_widens 36 = .ok (.iconst 0, 1) := by decide +kernel
theorem d_C_widens_37 : decode b_C_widens 37 = .ok (.ireturn, 1) := by decide +kernel
theorem d_C_widens_38 : decode b_C_widens 38 = .ok (.iload_n 0, 1) := by decide +kernel
theorem d_C_widens_39 : decode b_C_widens 39 = .ok (.iload_n 1, 1) := by decide +kernel
theorem d_C_widens_40 : decode b_C_widens 40 = .ok (.if_icmp .ge 7, 3) := by decide +kernel
theorem d_C_widens_43 : decode b_C_widens 43 = .ok (.iconst 1, 1) := by decide +kernel
theorem d_C_widens_44 : decode b_C_widens 44 = .ok (.goto 4, 3) := by decide +kernel
theorem d_C_widens_47 : decode b_C_widens 47 = .ok (.iconst 0, 1) := by decide +kernel
theorem d_C_widens_48 : decode b_C_widens 48 = .ok (.ireturn, 1) := by decide +kernel
theorem d_C_converts_0 : decode b_C_converts 0 = .ok (.iload_n 1, 1) := by decide +kernel
theorem d_C_converts_1 : decode b_C_converts 1 = .ok (.bipush 10, 2) := by decide +kernel
theorem d_C_converts_3 : decode b_C_converts 3 = .ok (.if_icmp .ne 5, 3) := by decide +kernel
theorem d_C_converts_6 : decode b_C_converts 6 = .ok (.iconst 1, 1) := by decide +kernel
theorem d_C_converts_7 : decode b_C_converts 7 = .ok (.ireturn, 1) := by decide +kernel
theorem d_C_converts_8 : decode b_C_converts 8 = .ok (.iload_n 1, 1) := by decide +kernel
theorem d_C_converts_9 : decode b_C_converts 9 = .ok (.bipush 8, 2) := by decide +kernel
theorem d_C_converts_11 : decode b_C_converts 11 = .ok (.if_icmp .ne 20, 3) := by decide +kernel
theorem d_C_converts_14 : decode b_C_converts 14 = .ok (.aload_n 0, 1) := by decide +kernel
theorem d_C_converts_15 : decode b_C_converts 15 = .ok (.ifnull 10, 3) := by decide +kernel
theorem d_C_converts_18 : decode b_C_converts 18 = .ok (.aload_n 0, 1) := by decide +kernel
theorem d_C_converts_19 : decode b_C_converts 19 = .ok (.instanceof 28, 3) := by decide +kernel
theorem d_C_converts_22 : decode b_C_converts 22 = .ok (.ifCond .eq 7, 3) := by decide +kernel
theorem d_C_converts_25 : decode b_C_converts 25 = .ok (.iconst 1, 1) := by decide +kernel
theorem d_C_converts_26 : decode b_C_converts 26 = .ok (.goto 4, 3) := by decide +kernel
theorem d_C_converts_29 : decode b_C_converts 29 = .ok (.iconst 0, 1) := by decide +kernel
theorem d_C_converts_30 : decode b_C_converts 30 = .ok (.ireturn, 1) := by decide +kernel
theorem d_C_converts_31 : decode b_C_converts 31 = .ok (.iload_n 1, 1) := by decide +kernel
theorem d_C_converts_32 : decode b_C_converts 32 = .ok (.bipush 9, 2) := by decide +kernel
theorem d_C_converts_34 : decode b_C_converts 34 = .ok (.if_icmp .ne 20, 3) := by decide +kernel
theorem d_C_converts_37 : decode b_C_converts 37 = .ok (.aload_n 0, 1) := by decide +kernel
theorem d_C_converts_38 : decode b_C_converts 38 = .ok (.ifnull 10, 3) := by decide +kernel
theorem d_C_converts_41 : decode b_C_converts 41 = .ok (.aload_n 0, 1) := by decide +kernel
theorem d_C_converts_42 : decode b_C_converts 42 = .ok (.instanceof 112, 3) := by decide +kernel
theorem d_C_converts_45 : decode b_C_converts 45 = .ok (.ifCond .eq 7, 3) := by decide +kernel
theorem d_C_converts_48 : decode b_C_converts 48 = .ok (.iconst 1, 1) := by decide +kernel
theorem d_C_converts_49 : decode b_C_converts 49 = .ok (.goto 4, 3) := by decide +kernel
theorem d_C_converts_52 : decode b_C_converts 52 = .ok (.iconst 0, 1) := by decide +kernel
theorem d_C_converts_53 : decode b_C_converts 53 = .ok (.ireturn, 1) := by decide +kernel
theorem d_C_converts_54 : decode b_C_converts 54 = .ok (.aload_n 0, 1) := by decide +kernel
theorem d_C_converts_55 : decode b_C_converts 55 = .ok (.instanceof 78, 3) := by decide +kernel
theorem d_C_converts_58 : decode b_C_converts 58 = .ok (.ifCond .eq 17, 3) := by decide +kernel
theorem d_C_converts_61 : decode b_C_converts 61 = .ok (.aload_n 0, 1) := by decide +kernel
theorem d_C_converts_62 : decode b_C_converts 62 = .ok (.checkcast 78, 3) := by decide +kernel
theorem d_C_converts_65 : decode b_C_converts 65 = .ok (.astore_n 2, 1) := by decide +kernel
theorem d_C_converts_66 : decode b_C_converts 66 = .ok (.aload_n 2, 1) := by decide +kernel
theorem d_C_converts_67 : decode b_C_converts 67 = .ok (.getfield 158, 3) := by decide +kernel
theorem d_C_converts_70 : decode b_C_converts 70 = .ok (.iload_n 1, 1) := by decide +kernel
theorem d_C_converts_71 : decode b_C_converts 71 = .ok (.invokestatic 75, 3) := by decide +kernel
theorem d_C_converts_74 : decode b_C_converts 74 = .ok (.ireturn, 1) := by decide +kernel
theorem d_C_converts_75 : decode b_C_converts 75 = .ok (.iconst 0, 1) := by decide +kernel
theorem d_C_converts_76 : decode b_C_converts 76 = .ok (.ireturn, 1) := by decide +kernel
theorem d_C_wholeOf_0 : decode b_C_wholeOf 0 = .ok (.aload_n 0, 1) := by decide +kernel
theorem d_C_wholeOf_1 : decode b_C_wholeOf 1 = .ok (.instanceof 78, 3) := by decide +kernel
theorem d_C_wholeOf_4 : decode b_C_wholeOf 4 = .ok (.ifCond .eq 13, 3) := by decide +kernel
theorem d_C_wholeOf_7 : decode b_C_wholeOf 7 = .ok (.aload_n 0, 1) := by decide +kernel
theorem d_C_wholeOf_8 : decode b_C_wholeOf 8 = .ok (.checkcast 78, 3) := by decide +kernel
theorem d_C_wholeOf_11 : decode b_C_wholeOf 11 = .ok (.astore_n 1, 1) := by decide +kernel
theorem d_C_wholeOf_12 : decode b_C_wholeOf 12 = .ok (.aload_n 1, 1) := by decide +kernel
theorem d_C_wholeOf_13 : decode b_C_wholeOf 13 = .ok (.getfield 162, 3) := by decide +kernel
theorem d_C_wholeOf_16 : decode b_C_wholeOf 16 = .ok (.lreturn, 1) := by decide +kernel
theorem d_C_wholeOf_17 : decode b_C_wholeOf 17 = .ok (.lconst 0, 1) := by decide +kernel
theorem d_C_wholeOf_18 : decode b_C_wholeOf 18 = .ok (.lreturn, 1) := by decide +kernel
theorem d_C_realOf_0 : decode b_C_realOf 0 = .ok (.aload_n 0, 1) := by decide +kernel
theorem d_C_realOf_1 : decode b_C_realOf 1 = .ok (.instanceof 78, 3) := by decide +kernel
theorem d_C_realOf_4 : decode b_C_realOf 4 = .ok (.ifCond .eq 13, 3) := by decide +kernel
theorem d_C_realOf_7 : decode b_C_realOf 7 = .ok (.aload_n 0, 1) := by decide +kernel
theorem d_C_realOf_8 : decode b_C_realOf 8 = .ok (.checkcast 78, 3) := by decide +kernel
theorem d_C_realOf_11 : decode b_C_realOf 11 = .ok (.astore_n 1, 1) := by decide +kernel
theorem d_C_realOf_12 : decode b_C_realOf 12 = .ok (.aload_n 1, 1) := by decide +kernel
theorem d_C_realOf_13 : decode b_C_realOf 13 = .ok (.getfield 165, 3) := by decide +kernel
theorem d_C_realOf_16 : decode b_C_realOf 16 = .ok (.dreturn, 1) := by decide +kernel
theorem d_C_realOf_17 : decode b_C_realOf 17 = .ok (.dconst 0, 1) := by decide +kernel
theorem d_C_realOf_18 : decode b_C_realOf 18 = .ok (.dreturn, 1) := by decide +kernel
theorem d_C_textOf_0 : decode b_C_textOf 0 = .ok (.aload_n 0, 1) := by decide +kernel
theorem d_C_textOf_1 : decode b_C_textOf 1 = .ok (.instanceof 28, 3) := by decide +kernel
theorem d_C_textOf_4 : decode b_C_textOf 4 = .ok (.ifCond .eq 10, 3) := by decide +kernel
theorem d_C_textOf_7 : decode b_C_textOf 7 = .ok (.aload_n 0, 1) := by decide +kernel
theorem d_C_textOf_8 : decode b_C_textOf 8 = .ok (.checkcast 28, 3) := by decide +kernel
theorem d_C_textOf_11 : decode b_C_textOf 11 = .ok (.astore_n 1, 1) := by decide +kernel
theorem d_C_textOf_12 : decode b_C_textOf 12 = .ok (.aload_n 1, 1) := by decide +kernel
theorem d_C_textOf_13 : decode b_C_textOf 13 = .ok (.areturn, 1) := by decide +kernel
theorem d_C_textOf_14 : decode b_C_textOf 14 = .ok (.aconst_null, 1) := by decide +kernel
theorem d_C_textOf_15 : decode b_C_textOf 15 = .ok (.areturn, 1) := by decide +kernel
theorem d_C_itemOf_0 : decode b_C_itemOf 0 = .ok (.aload_n 0, 1) := by decide +kernel
theorem d_C_itemOf_1 : decode b_C_itemOf 1 = .ok (.instanceof 112, 3) := by decide +kernel
theorem d_C_itemOf_4 : decode b_C_itemOf 4 = .ok (.ifCond .eq 10, 3) := by decide +kernel
theorem d_C_itemOf_7 : decode b_C_itemOf 7 = .ok (.aload_n 0, 1) := by decide +kernel
theorem d_C_itemOf_8 : decode b_C_itemOf 8 = .ok (.checkcast 112, 3) := by decide +kernel
theorem d_C_itemOf_11 : decode b_C_itemOf 11 = .ok (.astore_n 1, 1) := by decide +kernel
theorem d_C_itemOf_12 : decode b_C_itemOf 12 = .ok (.aload_n 1, 1) := by decide +kernel
theorem d_C_itemOf_13 : decode b_C_itemOf 13 = .ok (.areturn, 1) := by decide +kernel
theorem d_C_itemOf_14 : decode b_C_itemOf 14 = .ok (.aconst_null, 1) := by decide +kernel
theorem d_C_itemOf_15 : decode b_C_itemOf 15 = .ok (.areturn, 1) := by decide +kernel
theorem d_C_sortOf_0 : decode b_C_sortOf 0 = .ok (.aload_n 0, 1) := by decide +kernel
theorem d_C_sortOf_1 : decode b_C_sortOf 1 = .ok (.ifnonnull 7, 3) := by decide +kernel
theorem d_C_sortOf_4 : decode b_C_sortOf 4 = .ok (.iconst 0, 1) := by decide +kernel
theorem d_C_sortOf_5 : decode b_C_sortOf 5 = .ok (.goto 7, 3) := by decide +kernel
theorem d_C_sortOf_8 : decode b_C_sortOf 8 = .ok (.aload_n 0, 1) := by decide +kernel
theorem d_C_sortOf_9 : decode b_C_sortOf 9 = .ok (.invokevirtual 169, 3) := by decide +kernel
theorem d_C_sortOf_12 : decode b_C_sortOf 12 = .ok (.ireturn, 1) := by decide +kernel
theorem d_C_leastHandleOf_0 : decode b_C_leastHandleOf 0 = .ok (.aload_n 1, 1) := by decide +kernel
theorem d_C_leastHandleOf_1 : decode b_C_leastHandleOf 1 = .ok (.instanceof 112, 3) := by decide +kernel
theorem d_C_leastHandleOf_4 : decode b_C_leastHandleOf 4 = .ok (.ifCond .ne 10, 3) := by decide +kernel
theorem d_C_leastHandleOf_7 : decode b_C_leastHandleOf 7 = .ok (.aload_n 1, 1) := by decide +kernel
theorem d_C_leastHandleOf_8 : decode b_C_leastHandleOf 8 = .ok (.instanceof 172, 3) := by decide +kernel
theorem d_C_leastHandleOf_11 : decode b_C_leastHandleOf 11 = .ok (.ifCond .eq 29, 3) := by decide +kernel
theorem d_C_leastHandleOf_14 : decode b_C_leastHandleOf 14 = .ok (.iconst 0, 1) := by decide +kernel
theorem d_C_leastHandleOf_15 : decode b_C_leastHandleOf 15 = .ok (.istore_n 2, 1) := by decide +kernel
theorem d_C_leastHandleOf_16 : decode b_C_leastHandleOf 16 = .ok (.iload_n 2, 1) := by decide +kernel
theorem d_C_leastHandleOf_17 : decode b_C_leastHandleOf 17 = .ok (.bipush 8, 2) := by decide +kernel
theorem d_C_leastHandleOf_19 : decode b_C_leastHandleOf 19 = .ok (.if_icmp .ge 21, 3) := by decide +kernel
theorem d_C_leastHandleOf_22 : decode b_C_leastHandleOf 22 = .ok (.aload_n 0, 1) := by decide +kernel
theorem d_C_leastHandleOf_23 : decode b_C_leastHandleOf 23 = .ok (.getfield 11, 3) := by decide +kernel
theorem d_C_leastHandleOf_26 : decode b_C_leastHandleOf 26 = .ok (.iload_n 2, 1) := by decide +kernel
theorem d_C_leastHandleOf_27 : decode b_C_leastHandleOf 27 = .ok (.aaload, 1) := by decide +kernel
theorem d_C_leastHandleOf_28 : decode b_C_leastHandleOf 28 = .ok (.aload_n 1, 1) := by decide +kernel
theorem d_C_leastHandleOf_29 : decode b_C_leastHandleOf 29 = .ok (.if_acmp .ne 5, 3) := by decide +kernel
theorem d_C_leastHandleOf_32 : decode b_C_leastHandleOf 32 = .ok (.iload_n 2, 1) := by decide +kernel
theorem d_C_leastHandleOf_33 : decode b_C_leastHandleOf 33 = .ok (.ireturn, 1) := by decide +kernel
theorem d_C_leastHandleOf_34 : decode b_C_leastHandleOf 34 = .ok (.iinc 2 1, 3) := by decide +kernel
theorem d_C_leastHandleOf_37 : decode b_C_leastHandleOf 37 = .ok (.goto (-21), 3) := by decide +kernel
theorem d_C_leastHandleOf_40 : decode b_C_leastHandleOf 40 = .ok (.bipush (-2), 2) := by decide +kernel
theorem d_C_leastHandleOf_42 : decode b_C_leastHandleOf 42 = .ok (.ireturn, 1) := by decide +kernel
theorem d_C_hasEmptyConstructor_0 : decode b_C_hasEmptyConstructor 0 = .ok (.iload_n 0, 1) := by decide +kernel
theorem d_C_hasEmptyConstructor_1 : decode b_C_hasEmptyConstructor 1 = .ok (.ifCond .eq 24, 3) := by decide +kernel
theorem d_C_hasEmptyConstructor_4 : decode b_C_hasEmptyConstructor 4 = .ok (.iload_n 0, 1) := by decide +kernel
theorem d_C_hasEmptyConstructor_5 : decode b_C_hasEmptyConstructor 5 = .ok (.iconst 1, 1) := by decide +kernel
theorem d_C_hasEmptyConstructor_6 : decode b_C_hasEmptyConstructor 6 = .ok (.if_icmp .eq 19, 3) := by decide +kernel
theorem d_C_hasEmptyConstructor_9 : decode b_C_hasEmptyConstructor 9 = .ok (.iload_n 0, 1) := by decide +kernel
theorem d_C_hasEmptyConstructor_10 : decode b_C_hasEmptyConstructor 10 = .ok (.iconst 3, 1) := by decide +kernel
theorem d_C_hasEmptyConstructor_11 : decode b_C_hasEmptyConstructor 11 = .ok (.if_icmp .eq 14, 3) := by decide +kernel
theorem d_C_hasEmptyConstructor_14 : decode b_C_hasEmptyConstructor 14 = .ok (.iload_n 0, 1) := by decide +kernel
theorem d_C_hasEmptyConstructor_15 : decode b_C_hasEmptyConstructor 15 = .ok (.iconst 5, 1) := by decide +kernel
theorem d_C_hasEmptyConstructor_16 : decode b_C_hasEmptyConstructor 16 = .ok (.if_icmp .eq 9, 3) := by decide +kernel
theorem d_C_hasEmptyConstructor_19 : decode b_C_hasEmptyConstructor 19 = .ok (.iload_n 0, 1) := by decide +kernel
theorem d_C_hasEmptyConstructor_20 : decode b_C_hasEmptyConstructor 20 = .ok (.bipush 7, 2) := by decide +kernel
theorem d_C_hasEmptyConstructor_22 : decode b_C_hasEmptyConstructor 22 = .ok (.if_icmp .ne 7, 3) := by decide +kernel
theorem d_C_hasEmptyConstructor_25 : decode b_C_hasEmptyConstructor 25 = .ok (.iconst 1, 1) := by decide +kernel
theorem d_C_hasEmptyConstructor_26 : decode b_C_hasEmptyConstructor 26 = .ok (.goto 4, 3) := by decide +kernel
theorem d_C_hasEmptyConstructor_29 : decode b_C_hasEmptyConstructor 29 = .ok (.iconst 0, 1) := by decide +kernel
theorem d_C_hasEmptyConstructor_30 : decode b_C_hasEmptyConstructor 30 = .ok (.ireturn, 1) := by decide +kernel
theorem d_C_hasIntConstructor_0 : decode b_C_hasIntConstructor 0 = .ok (.iload_n 0, 1) := by decide +kernel
theorem d_C_hasIntConstructor_1 : decode b_C_hasIntConstructor 1 = .ok (.iconst 2, 1) := by decide +kernel
theorem d_C_hasIntConstructor_2 : decode b_C_hasIntConstructor 2 = .ok (.if_icmp .eq 20, 3) := by decide +kernel
theorem d_C_hasIntConstructor_5 : decode b_C_hasIntConstructor 5 = .ok (.iload_n 0, 1) := by decide +kernel
theorem d_C_hasIntConstructor_6 : decode b_C_hasIntConstructor 6 = .ok (.iconst 5, 1) := by decide +kernel
theorem d_C_hasIntConstructor_7 : decode b_C_hasIntConstructor 7 = .ok (.if_icmp .eq 15, 3) := by decide +kernel
theorem d_C_hasIntConstructor_10 : decode b_C_hasIntConstructor 10 = .ok (.iload_n 0, 1) := by decide +kernel
theorem d_C_hasIntConstructor_11 : decode b_C_hasIntConstructor 11 = .ok (.bipush 6, 2) := by decide +kernel
theorem d_C_hasIntConstructor_13 : decode b_C_hasIntConstructor 13 = .ok (.if_icmp .eq 9, 3) := by decide +kernel
theorem d_C_hasIntConstructor_16 : decode b_C_hasIntConstructor 16 = .ok (.iload_n 0, 1) := by decide +kernel
theorem d_C_hasIntConstructor_17 : decode b_C_hasIntConstructor 17 = .ok (.bipush 7, 2) := by decide +kernel
theorem d_C_hasIntConstructor_19 : decode b_C_hasIntConstructor 19 = .ok (.if_icmp .ne 7, 3) := by decide +kernel
theorem d_C_hasIntConstructor_22 : decode b_C_hasIntConstructor 22 = .ok (.iconst 1, 1) := by decide +kernel
theorem d_C_hasIntConstructor_23 : decode b_C_hasIntConstructor 23 = .ok (.goto 4, 3) := by decide +kernel
theorem d_C_hasIntConstructor_26 : decode b_C_hasIntConstructor 26 = .ok (.iconst 0, 1) := by decide +kernel
theorem d_C_hasIntConstructor_27 : decode b_C_hasIntConstructor 27 = .ok (.ireturn, 1) := by decide +kernel
theorem d_C_newObject_0 : decode b_C_newObject 0 = .ok (.iload_n 0, 1) := by decide +kernel
theorem d_C_newObject_1 : decode b_C_newObject 1 = .ok (.tableswitch 69 2 6 #[35, 42, 69, 51, 60], 35) := by decide +kernel
theorem d_C_newObject_36 : decode b_C_newObject 36 = .ok (.iconst 4, 1) := by decide +kernel
theorem d_C_newObject_37 : decode b_C_newObject 37 = .ok (.iload_n 1, 1) := by decide +kernel
theorem d_C_newObject_38 : decode b_C_newObject 38 = .ok (.i2l, 1) := by decide +kernel
theorem d_C_newObject_39 : decode b_C_newObject 39 = .ok (.invokestatic 150, 3) := by decide +kernel
theorem d_C_newObject_42 : decode b_C_newObject 42 = .ok (.areturn, 1) := by decide +kernel
theorem d_C_newObject_43 : decode b_C_newObject 43 = .ok (.new 28, 3) := by decide +kernel
theorem d_C_newObject_46 : decode b_C_newObject 46 = .ok (.dup, 1) := by decide +kernel
theorem d_C_newObject_47 : decode b_C_newObject 47 = .ok (.iconst 0, 1) := by decide +kernel
theorem d_C_newObject_48 : decode b_C_newObject 48 = .ok (.invokespecial 38, 3) := by decide +kernel
theorem d_C_newObject_51 : decode b_C_newObject 51 = .ok (.areturn, 1) := by decide +kernel
theorem d_C_newObject_52 : decode b_C_newObject 52 = .ok (.new 112, 3) := by decide +kernel
theorem d_C_newObject_55 : decode b_C_newObject 55 = .ok (.dup, 1) := by decide +kernel
theorem d_C_newObject_56 : decode b_C_newObject 56 = .ok (.iload_n 1, 1) := by decide +kernel
theorem d_C_newObject_57 : decode b_C_newObject 57 = .ok (.invokespecial 174, 3) := by decide +kernel
theorem d_C_newObject_60 : decode b_C_newObject 60 = .ok (.areturn, 1) := by decide +kernel
theorem d_C_newObject_61 : decode b_C_newObject 61 = .ok (.new 175, 3) := by decide +kernel
theorem d_C_newObject_64 : decode b_C_newObject 64 = .ok (.dup, 1) := by decide +kernel
theorem d_C_newObject_65 : decode b_C_newObject 65 = .ok (.iload_n 1, 1) := by decide +kernel
theorem d_C_newObject_66 : decode b_C_newObject 66 = .ok (.invokespecial 177, 3) := by decide +kernel
theorem d_C_newObject_69 : decode b_C_newObject 69 = .ok (.areturn, 1) := by decide +kernel
theorem d_C_newObject_70 : decode b_C_newObject 70 = .ok (.new 172, 3) := by decide +kernel
theorem d_C_newObject_73 : decode b_C_newObject 73 = .ok (.dup, 1) := by decide +kernel
theorem d_C_newObject_74 : decode b_C_newObject 74 = .ok (.invokespecial 178, 3) := by decide +kernel
theorem d_C_newObject_77 : decode b_C_newObject 77 = .ok (.areturn, 1) := by decide +kernel
theorem d_C_itemRefusal_0 : decode b_C_itemRefusal 0 = .ok (.aload_n 0, 1) := by decide +kernel
theorem d_C_itemRefusal_1 : decode b_C_itemRefusal 1 = .ok (.ifnonnull 5, 3) := by decide +kernel
theorem d_C_itemRefusal_4 : decode b_C_itemRefusal 4 = .ok (.iconst 1, 1) := by decide +kernel
theorem d_C_itemRefusal_5 : decode b_C_itemRefusal 5 = .ok (.ireturn, 1) := by decide +kernel
theorem d_C_itemRefusal_6 : decode b_C_itemRefusal 6 = .ok (.aload_n 0, 1) := by decide +kernel
theorem d_C_itemRefusal_7 : decode b_C_itemRefusal 7 = .ok (.instanceof 112, 3) := by decide +kernel
theorem d_C_itemRefusal_10 : decode b_C_itemRefusal 10 = .ok (.ifCond .eq 7, 3) := by decide +kernel
theorem d_C_itemRefusal_13 : decode b_C_itemRefusal 13 = .ok (.iconst 0, 1) := by decide +kernel
theorem d_C_itemRefusal_14 : decode b_C_itemRefusal 14 = .ok (.goto 4, 3) := by decide +kernel
theorem d_C_itemRefusal_17 : decode b_C_itemRefusal 17 = .ok (.iconst 2, 1) := by decide +kernel
theorem d_C_itemRefusal_18 : decode b_C_itemRefusal 18 = .ok (.ireturn, 1) := by decide +kernel
theorem d_C_ownerRefusal_0 : decode b_C_ownerRefusal 0 = .ok (.iload_n 1, 1) := by decide +kernel
theorem d_C_ownerRefusal_1 : decode b_C_ownerRefusal 1 = .ok (.bipush 7, 2) := by decide +kernel
theorem d_C_ownerRefusal_3 : decode b_C_ownerRefusal 3 = .ok (.if_icmp .ne 5, 3) := by decide +kernel
theorem d_C_ownerRefusal_6 : decode b_C_ownerRefusal 6 = .ok (.iconst 0, 1) := by decide +kernel
theorem d_C_ownerRefusal_7 : decode b_C_ownerRefusal 7 = .ok (.ireturn, 1) := by decide +kernel
theorem d_C_ownerRefusal_8 : decode b_C_ownerRefusal 8 = .ok (.aload_n 0, 1) := by decide +kernel
theorem d_C_ownerRefusal_9 : decode b_C_ownerRefusal 9 = .ok (.invokestatic 92, 3) := by decide +kernel
theorem d_C_ownerRefusal_12 : decode b_C_ownerRefusal 12 = .ok (.istore_n 2, 1) := by decide +kernel
theorem d_C_ownerRefusal_13 : decode b_C_ownerRefusal 13 = .ok (.iload_n 2, 1) := by decide +kernel
theorem d_C_ownerRefusal_14 : decode b_C_ownerRefusal 14 = .ok (.ifCond .ne 18, 3) := by decide +kernel
theorem d_C_ownerRefusal_17 : decode b_C_ownerRefusal 17 = .ok (.iload_n 1, 1) := by decide +kernel
theorem d_C_ownerRefusal_18 : decode b_C_ownerRefusal 18 = .ok (.bipush 8, 2) := by decide +kernel
theorem d_C_ownerRefusal_20 : decode b_C_ownerRefusal 20 = .ok (.if_icmp .ne 12, 3) := by decide +kernel
theorem d_C_ownerRefusal_23 : decode b_C_ownerRefusal 23 = .ok (.aload_n 0, 1) := by decide +kernel
theorem d_C_ownerRefusal_24 : decode b_C_ownerRefusal 24 = .ok (.instanceof 175, 3) := by decide +kernel
theorem d_C_ownerRefusal_27 : decode b_C_ownerRefusal 27 = .ok (.ifCond .ne 5, 3) := by decide +kernel
theorem d_C_ownerRefusal_30 : decode b_C_ownerRefusal 30 = .ok (.iconst 2, 1) := by decide +kernel
theorem d_C_ownerRefusal_31 : decode b_C_ownerRefusal 31 = .ok (.ireturn, 1) := by decide +kernel
theorem d_C_ownerRefusal_32 : decode b_C_ownerRefusal 32 = .ok (.iload_n 2, 1) := by decide +kernel
theorem d_C_ownerRefusal_33 : decode b_C_ownerRefusal 33 = .ok (.ireturn, 1) := by decide +kernel
theorem d_C_fieldOf_0 : decode b_C_fieldOf 0 = .ok (.iload_n 2, 1) := by decide +kernel
theorem d_C_fieldOf_1 : decode b_C_fieldOf 1 = .ok (.bipush 7, 2) := by decide +kernel
theorem d_C_fieldOf_3 : decode b_C_fieldOf 3 = .ok (.if_icmp .ne 12, 3) := by decide +kernel
theorem d_C_fieldOf_6 : decode b_C_fieldOf 6 = .ok (.iconst 5, 1) := by decide +kernel
theorem d_C_fieldOf_7 : decode b_C_fieldOf 7 = .ok (.aload_n 0, 1) := by decide +kernel
theorem d_C_fieldOf_8 : decode b_C_fieldOf 8 = .ok (.getfield 17, 3) := by decide +kernel
theorem d_C_fieldOf_11 : decode b_C_fieldOf 11 = .ok (.invokestatic 150, 3) := by decide +kernel
theorem d_C_fieldOf_14 : decode b_C_fieldOf 14 = .ok (.areturn, 1) := by decide +kernel
theorem d_C_fieldOf_15 : decode b_C_fieldOf 15 = .ok (.aload_n 1, 1) := by decide +kernel
theorem d_C_fieldOf_16 : decode b_C_fieldOf 16 = .ok (.instanceof 112, 3) := by decide +kernel
theorem d_C_fieldOf_19 : decode b_C_fieldOf 19 = .ok (.ifCond .eq 14, 3) := by decide +kernel
theorem d_C_fieldOf_22 : decode b_C_fieldOf 22 = .ok (.aload_n 1, 1) := by decide +kernel
theorem d_C_fieldOf_23 : decode b_C_fieldOf 23 = .ok (.checkcast 112, 3) := by decide +kernel
theorem d_C_fieldOf_26 : decode b_C_fieldOf 26 = .ok (.astore_n 3, 1) := by decide +kernel
theorem d_C_fieldOf_27 : decode b_C_fieldOf 27 = .ok (.aload_n 3, 1) := by decide +kernel
theorem d_C_fieldOf_28 : decode b_C_fieldOf 28 = .ok (.iload_n 2, 1) := by decide +kernel
theorem d_C_fieldOf_29 : decode b_C_fieldOf 29 = .ok (.invokevirtual 179, 3) := by decide +kernel
theorem d_C_fieldOf_32 : decode b_C_fieldOf 32 = .ok (.areturn, 1) := by decide +kernel
theorem d_C_fieldOf_33 : decode b_C_fieldOf 33 = .ok (.aconst_null, 1) := by decide +kernel
theorem d_C_fieldOf_34 : decode b_C_fieldOf 34 = .ok (.areturn, 1) := by decide +kernel
theorem d_C_store_0 : decode b_C_store 0 = .ok (.iload_n 2, 1) := by decide +kernel
theorem d_C_store_1 : decode b_C_store 1 = .ok (.bipush 7, 2) := by decide +kernel
theorem d_C_store_3 : decode b_C_store 3 = .ok (.if_icmp .ne 14, 3) := by decide +kernel
theorem d_C_store_6 : decode b_C_store 6 = .ok (.aload_n 0, 1) := by decide +kernel
theorem d_C_store_7 : decode b_C_store 7 = .ok (.aload_n 3, 1) := by decide +kernel
theorem d_C_store_8 : decode b_C_store 8 = .ok (.invokestatic 183, 3) := by decide +kernel
theorem d_C_store_11 : decode b_C_store 11 = .ok (.putfield 17, 3) := by decide +kernel
theorem d_C_store_14 : decode b_C_store 14 = .ok (.goto 23, 3) := by decide +kernel
theorem d_C_store_17 : decode b_C_store 17 = .ok (.aload_n 1, 1) := by decide +kernel
theorem d_C_store_18 : decode b_C_store 18 = .ok (.instanceof 112, 3) := by decide +kernel
theorem d_C_store_21 : decode b_C_store 21 = .ok (.ifCond .eq 16, 3) := by decide +kernel
theorem d_C_store_24 : decode b_C_store 24 = .ok (.aload_n 1, 1) := by decide +kernel
theorem d_C_store_25 : decode b_C_store 25 = .ok (.checkcast 112, 3) := by decide +kernel
theorem d_C_store_28 : decode b_C_store 28 = .ok (.astore 4, 2) := by decide +kernel
theorem d_C_store_30 : decode b_C_store 30 = .ok (.aload 4, 2) := by decide +kernel
theorem d_C_store_32 : decode b_C_store 32 = .ok (.iload_n 2, 1) := by decide +kernel
theorem d_C_store_33 : decode b_C_store 33 = .ok (.aload_n 3, 1) := by decide +kernel
theorem d_C_store_34 : decode b_C_store 34 = .ok (.invokevirtual 187, 3) := by decide +kernel
theorem d_C_store_37 : decode b_C_store 37 = .ok (.return_, 1) := by decide +kernel
theorem d_C_invokeOn_0 : decode b_C_invokeOn 0 = .ok (.iload_n 2, 1) := by decide +kernel
theorem d_C_invokeOn_1 : decode b_C_invokeOn 1 = .ok (.tableswitch 111 0 5 #[39, 64, 111, 72, 88, 95], 39) := by decide +kernel
theorem d_C_invokeOn_40 : decode b_C_invokeOn 40 = .ok (.aload_n 0, 1) := by decide +kernel
theorem d_C_invokeOn_41 : decode b_C_invokeOn 41 = .ok (.iconst 5, 1) := by decide +kernel
theorem d_C_invokeOn_42 : decode b_C_invokeOn 42 = .ok (.aload_n 3, 1) := by decide +kernel
theorem d_C_invokeOn_43 : decode b_C_invokeOn 43 = .ok (.invokestatic 183, 3) := by decide +kernel
theorem d_C_invokeOn_46 : decode b_C_invokeOn 46 = .ok (.aload 4, 2) := by decide +kernel
theorem d_C_invokeOn_48 : decode b_C_invokeOn 48 = .ok (.invokestatic 183, 3) := by decide +kernel
theorem d_C_invokeOn_51 : decode b_C_invokeOn 51 = .ok (.ladd, 1) := by decide +kernel
theorem d_C_invokeOn_52 : decode b_C_invokeOn 52 = .ok (.aload_n 1, 1) := by decide +kernel
theorem d_C_invokeOn_53 : decode b_C_invokeOn 53 = .ok (.getfield 191, 3) := by decide +kernel
theorem d_C_invokeOn_56 : decode b_C_invokeOn 56 = .ok (.i2l, 1) := by decide +kernel
theorem d_C_invokeOn_57 : decode b_C_invokeOn 57 = .ok (.ladd, 1) := by decide +kernel
theorem d_C_invokeOn_58 : decode b_C_invokeOn 58 = .ok (.invokestatic 150, 3) := by decide +kernel
theorem d_C_invokeOn_61 : decode b_C_invokeOn 61 = .ok (.invokevirtual 60, 3) := by decide +kernel
theorem d_C_invokeOn_64 : decode b_C_invokeOn 64 = .ok (.ireturn, 1) := by decide +kernel
theorem d_C_invokeOn_65 : decode b_C_invokeOn 65 = .ok (.aload_n 0, 1) := by decide +kernel
theorem d_C_invokeOn_66 : decode b_C_invokeOn 66 = .ok (.aload_n 3, 1) := by decide +kernel
theorem d_C_invokeOn_67 : decode b_C_invokeOn 67 = .ok (.aload 4, 2) := by decide +kernel
theorem d_C_invokeOn_69 : decode b_C_invokeOn 69 = .ok (.invokevirtual 193, 3) := by decide +kernel
theorem d_C_invokeOn_72 : decode b_C_invokeOn 72 = .ok (.ireturn, 1) := by decide +kernel
theorem d_C_invokeOn_73 : decode b_C_invokeOn 73 = .ok (.aload_n 0, 1) := by decide +kernel
theorem d_C_invokeOn_74 : decode b_C_invokeOn 74 = .ok (.aload_n 3, 1) := by decide +kernel
theorem d_C_invokeOn_75 : decode b_C_invokeOn 75 = .ok (.invokestatic 183, 3) := by decide +kernel
theorem d_C_invokeOn_78 : decode b_C_invokeOn 78 = .ok (.l2i, 1) := by decide +kernel
theorem d_C_invokeOn_79 : decode b_C_invokeOn 79 = .ok (.aload 4, 2) := by decide +kernel
theorem d_C_invokeOn_81 : decode b_C_invokeOn 81 = .ok (.invokestatic 183, 3) := by decide +kernel
theorem d_C_invokeOn_84 : decode b_C_invokeOn 84 = .ok (.l2i, 1) := by decide +kernel
theorem d_C_invokeOn_85 : decode b_C_invokeOn 85 = .ok (.invokevirtual 197, 3) := by decide +kernel
theorem d_C_invokeOn_88 : decode b_C_invokeOn 88 = .ok (.ireturn, 1) := by decide +kernel
theorem d_C_invokeOn_89 : decode b_C_invokeOn 89 = .ok (.aload_n 0, 1) := by decide +kernel
theorem d_C_invokeOn_90 : decode b_C_invokeOn 90 = .ok (.aload_n 1, 1) := by decide +kernel
theorem d_C_invokeOn_91 : decode b_C_invokeOn 91 = .ok (.aload_n 3, 1) := by decide +kernel
theorem d_C_invokeOn_92 : decode b_C_invokeOn 92 = .ok (.invokevirtual 200, 3) := by decide +kernel
theorem d_C_invokeOn_95 : decode b_C_invokeOn 95 = .ok (.ireturn, 1) := by decide +kernel
theorem d_C_invokeOn_96 : decode b_C_invokeOn 96 = .ok (.aload_n 1, 1) := by decide +kernel
theorem d_C_invokeOn_97 : decode b_C_invokeOn 97 = .ok (.aload_n 3, 1) := by decide +kernel
theorem d_C_invokeOn_98 : decode b_C_invokeOn 98 = .ok (.invokestatic 183, 3) := by decide +kernel
theorem d_C_invokeOn_101 : decode b_C_invokeOn 101 = .ok (.l2i, 1) := by decide +kernel
theorem d_C_invokeOn_102 : decode b_C_invokeOn 102 = .ok (.i2b, 1) := by decide +kernel
theorem d_C_invokeOn_103 : decode b_C_invokeOn 103 = .ok (.putfield 204, 3) := by decide +kernel
theorem d_C_invokeOn_106 : decode b_C_invokeOn 106 = .ok (.aload_n 0, 1) := by decide +kernel
theorem d_C_invokeOn_107 : decode b_C_invokeOn 107 = .ok (.aload_n 1, 1) := by decide +kernel
theorem d_C_invokeOn_108 : decode b_C_invokeOn 108 = .ok (.invokevirtual 60, 3) := by decide +kernel
theorem d_C_invokeOn_111 : decode b_C_invokeOn 111 = .ok (.ireturn, 1) := by decide +kernel
theorem d_C_invokeOn_112 : decode b_C_invokeOn 112 = .ok (.iconst 2, 1) := by decide +kernel
theorem d_C_invokeOn_113 : decode b_C_invokeOn 113 = .ok (.ireturn, 1) := by decide +kernel
theorem d_C_tagOf_0 : decode b_C_tagOf 0 = .ok (.aload_n 1, 1) := by decide +kernel
theorem d_C_tagOf_1 : decode b_C_tagOf 1 = .ok (.instanceof 28, 3) := by decide +kernel
theorem d_C_tagOf_4 : decode b_C_tagOf 4 = .ok (.ifCond .eq 30, 3) := by decide +kernel
theorem d_C_tagOf_7 : decode b_C_tagOf 7 = .ok (.aload_n 1, 1) := by decide +kernel
theorem d_C_tagOf_8 : decode b_C_tagOf 8 = .ok (.checkcast 28, 3) := by decide +kernel
theorem d_C_tagOf_11 : decode b_C_tagOf 11 = .ok (.astore_n 3, 1) := by decide +kernel
theorem d_C_tagOf_12 : decode b_C_tagOf 12 = .ok (.aload_n 0, 1) := by decide +kernel
theorem d_C_tagOf_13 : decode b_C_tagOf 13 = .ok (.iconst 4, 1) := by decide +kernel
theorem d_C_tagOf_14 : decode b_C_tagOf 14 = .ok (.bipush 100, 2) := by decide +kernel
theorem d_C_tagOf_16 : decode b_C_tagOf 16 = .ok (.aload_n 3, 1) := by decide +kernel
theorem d_C_tagOf_17 : decode b_C_tagOf 17 = .ok (.getfield 208, 3) := by decide +kernel
theorem d_C_tagOf_20 : decode b_C_tagOf 20 = .ok (.imul, 1) := by decide +kernel
theorem d_C_tagOf_21 : decode b_C_tagOf 21 = .ok (.aload_n 2, 1) := by decide +kernel
theorem d_C_tagOf_22 : decode b_C_tagOf 22 = .ok (.invokestatic 128, 3) := by decide +kernel
theorem d_C_tagOf_25 : decode b_C_tagOf 25 = .ok (.iadd, 1) := by decide +kernel
theorem d_C_tagOf_26 : decode b_C_tagOf 26 = .ok (.i2l, 1) := by decide +kernel
theorem d_C_tagOf_27 : decode b_C_tagOf 27 = .ok (.invokestatic 150, 3) := by decide +kernel
theorem d_C_tagOf_30 : decode b_C_tagOf 30 = .ok (.invokevirtual 60, 3) := by decide +kernel
theorem d_C_tagOf_33 : decode b_C_tagOf 33 = .ok (.ireturn, 1) := by decide +kernel
theorem d_C_tagOf_34 : decode b_C_tagOf 34 = .ok (.aload_n 0, 1) := by decide +kernel
