theorem dX5_init_0 : decode cX5_init 0 = .ok (.aload_n 0, 1) := by decide +kernel
theorem dX5_init_1 : decode cX5_init 1 = .ok (.invokespecial 3, 3) := by decide +kernel
theorem dX5_init_4 : decode cX5_init 4 = .ok (.aload_n 0, 1) := by decide +kernel
theorem dX5_init_5 : decode cX5_init 5 = .ok (.bipush 11, 2) := by decide +kernel
theorem dX5_init_7 : decode cX5_init 7 = .ok (.newarray .int, 2) := by decide +kernel
theorem dX5_init_9 : decode cX5_init 9 = .ok (.putfield 9, 3) := by decide +kernel
theorem dX5_init_12 : decode cX5_init 12 = .ok (.aload_n 0, 1) := by decide +kernel
theorem dX5_init_13 : decode cX5_init 13 = .ok (.bipush 11, 2) := by decide +kernel
theorem dX5_init_15 : decode cX5_init 15 = .ok (.newarray .boolean, 2) := by decide +kernel
theorem dX5_init_17 : decode cX5_init 17 = .ok (.putfield 15, 3) := by decide +kernel
theorem dX5_init_20 : decode cX5_init 20 = .ok (.aload_n 0, 1) := by decide +kernel
theorem dX5_init_21 : decode cX5_init 21 = .ok (.bipush 11, 2) := by decide +kernel
theorem dX5_init_23 : decode cX5_init 23 = .ok (.newarray .int, 2) := by decide +kernel
theorem dX5_init_25 : decode cX5_init 25 = .ok (.putfield 19, 3) := by decide +kernel
theorem dX5_init_28 : decode cX5_init 28 = .ok (.aload_n 0, 1) := by decide +kernel
theorem dX5_init_29 : decode cX5_init 29 = .ok (.bipush 11, 2) := by decide +kernel
theorem dX5_init_31 : decode cX5_init 31 = .ok (.newarray .int, 2) := by decide +kernel
theorem dX5_init_33 : decode cX5_init 33 = .ok (.putfield 22, 3) := by decide +kernel
theorem dX5_init_36 : decode cX5_init 36 = .ok (.aload_n 0, 1) := by decide +kernel
theorem dX5_init_37 : decode cX5_init 37 = .ok (.sipush 400, 3) := by decide +kernel
theorem dX5_init_40 : decode cX5_init 40 = .ok (.newarray .int, 2) := by decide +kernel
theorem dX5_init_42 : decode cX5_init 42 = .ok (.putfield 25, 3) := by decide +kernel
theorem dX5_init_45 : decode cX5_init 45 = .ok (.aload_n 0, 1) := by decide +kernel
theorem dX5_init_46 : decode cX5_init 46 = .ok (.sipush 400, 3) := by decide +kernel
theorem dX5_init_49 : decode cX5_init 49 = .ok (.newarray .int, 2) := by decide +kernel
theorem dX5_init_51 : decode cX5_init 51 = .ok (.putfield 28, 3) := by decide +kernel
theorem dX5_init_54 : decode cX5_init 54 = .ok (.aload_n 0, 1) := by decide +kernel
theorem dX5_init_55 : decode cX5_init 55 = .ok (.aload_n 1, 1) := by decide +kernel
theorem dX5_init_56 : decode cX5_init 56 = .ok (.putfield 31, 3) := by decide +kernel
theorem dX5_init_59 : decode cX5_init 59 = .ok (.aload_n 0, 1) := by decide +kernel
theorem dX5_init_60 : decode cX5_init 60 = .ok (.new 35, 3) := by decide +kernel
theorem dX5_init_63 : decode cX5_init 63 = .ok (.dup, 1) := by decide +kernel
theorem dX5_init_64 : decode cX5_init 64 = .ok (.aload_n 1, 1) := by decide +kernel
theorem dX5_init_65 : decode cX5_init 65 = .ok (.invokespecial 37, 3) := by decide +kernel
theorem dX5_init_68 : decode cX5_init 68 = .ok (.putfield 40, 3) := by decide +kernel
theorem dX5_init_71 : decode cX5_init 71 = .ok (.return_, 1) := by decide +kernel
theorem dX5_go_0 : decode cX5_go 0 = .ok (.aload_n 0, 1) := by decide +kernel
theorem dX5_go_1 : decode cX5_go 1 = .ok (.aload_n 1, 1) := by decide +kernel
theorem dX5_go_2 : decode cX5_go 2 = .ok (.invokevirtual 44, 3) := by decide +kernel
theorem dX5_go_5 : decode cX5_go 5 = .ok (.iconst (-1), 1) := by decide +kernel
theorem dX5_go_6 : decode cX5_go 6 = .ok (.istore_n 3, 1) := by decide +kernel
theorem dX5_go_7 : decode cX5_go 7 = .ok (.iconst 0, 1) := by decide +kernel
theorem dX5_go_8 : decode cX5_go 8 = .ok (.istore 4, 2) := by decide +kernel
theorem dX5_go_10 : decode cX5_go 10 = .ok (.iload 4, 2) := by decide +kernel
theorem dX5_go_12 : decode cX5_go 12 = .ok (.sipush 400, 3) := by decide +kernel
theorem dX5_go_15 : decode cX5_go 15 = .ok (.if_icmp .gt 57, 3) := by decide +kernel
theorem dX5_go_18 : decode cX5_go 18 = .ok (.aload_n 0, 1) := by decide +kernel
theorem dX5_go_19 : decode cX5_go 19 = .ok (.aload_n 0, 1) := by decide +kernel
theorem dX5_go_20 : decode cX5_go 20 = .ok (.getfield 48, 3) := by decide +kernel
theorem dX5_go_23 : decode cX5_go 23 = .ok (.getfield 52, 3) := by decide +kernel
theorem dX5_go_26 : decode cX5_go 26 = .ok (.invokevirtual 58, 3) := by decide +kernel
theorem dX5_go_29 : decode cX5_go 29 = .ok (.istore 5, 2) := by decide +kernel
theorem dX5_go_31 : decode cX5_go 31 = .ok (.iload 5, 2) := by decide +kernel
theorem dX5_go_33 : decode cX5_go 33 = .ok (.iconst (-1), 1) := by decide +kernel
theorem dX5_go_34 : decode cX5_go 34 = .ok (.if_icmp .ne 6, 3) := by decide +kernel
theorem dX5_go_37 : decode cX5_go 37 = .ok (.goto 35, 3) := by decide +kernel
theorem dX5_go_40 : decode cX5_go 40 = .ok (.aload_n 0, 1) := by decide +kernel
theorem dX5_go_41 : decode cX5_go 41 = .ok (.dup, 1) := by decide +kernel
theorem dX5_go_42 : decode cX5_go 42 = .ok (.getfield 62, 3) := by decide +kernel
theorem dX5_go_45 : decode cX5_go 45 = .ok (.iconst 1, 1) := by decide +kernel
theorem dX5_go_46 : decode cX5_go 46 = .ok (.iadd, 1) := by decide +kernel
theorem dX5_go_47 : decode cX5_go 47 = .ok (.putfield 62, 3) := by decide +kernel
theorem dX5_go_50 : decode cX5_go 50 = .ok (.iload 5, 2) := by decide +kernel
theorem dX5_go_52 : decode cX5_go 52 = .ok (.istore_n 3, 1) := by decide +kernel
theorem dX5_go_53 : decode cX5_go 53 = .ok (.aload_n 0, 1) := by decide +kernel
theorem dX5_go_54 : decode cX5_go 54 = .ok (.iload 5, 2) := by decide +kernel
theorem dX5_go_56 : decode cX5_go 56 = .ok (.iload_n 2, 1) := by decide +kernel
theorem dX5_go_57 : decode cX5_go 57 = .ok (.invokevirtual 65, 3) := by decide +kernel
theorem dX5_go_60 : decode cX5_go 60 = .ok (.ifCond .eq 6, 3) := by decide +kernel
theorem dX5_go_63 : decode cX5_go 63 = .ok (.goto 9, 3) := by decide +kernel
theorem dX5_go_66 : decode cX5_go 66 = .ok (.iinc 4 1, 3) := by decide +kernel
theorem dX5_go_69 : decode cX5_go 69 = .ok (.goto (-59), 3) := by decide +kernel
theorem dX5_go_72 : decode cX5_go 72 = .ok (.aload_n 0, 1) := by decide +kernel
theorem dX5_go_73 : decode cX5_go 73 = .ok (.iload_n 3, 1) := by decide +kernel
theorem dX5_go_74 : decode cX5_go 74 = .ok (.iload_n 2, 1) := by decide +kernel
theorem dX5_go_75 : decode cX5_go 75 = .ok (.invokevirtual 69, 3) := by decide +kernel
theorem dX5_go_78 : decode cX5_go 78 = .ok (.ireturn, 1) := by decide +kernel
theorem dX5_clear_0 : decode cX5_clear 0 = .ok (.aload_n 0, 1) := by decide +kernel
theorem dX5_clear_1 : decode cX5_clear 1 = .ok (.aload_n 1, 1) := by decide +kernel
theorem dX5_clear_2 : decode cX5_clear 2 = .ok (.putfield 48, 3) := by decide +kernel
theorem dX5_clear_5 : decode cX5_clear 5 = .ok (.aload_n 0, 1) := by decide +kernel
theorem dX5_clear_6 : decode cX5_clear 6 = .ok (.getfield 40, 3) := by decide +kernel
theorem dX5_clear_9 : decode cX5_clear 9 = .ok (.invokevirtual 73, 3) := by decide +kernel
theorem dX5_clear_12 : decode cX5_clear 12 = .ok (.aload_n 0, 1) := by decide +kernel
theorem dX5_clear_13 : decode cX5_clear 13 = .ok (.iconst 0, 1) := by decide +kernel
theorem dX5_clear_14 : decode cX5_clear 14 = .ok (.putfield 75, 3) := by decide +kernel
theorem dX5_clear_17 : decode cX5_clear 17 = .ok (.aload_n 0, 1) := by decide +kernel
theorem dX5_clear_18 : decode cX5_clear 18 = .ok (.iconst 0, 1) := by decide +kernel
theorem dX5_clear_19 : decode cX5_clear 19 = .ok (.putfield 78, 3) := by decide +kernel
theorem dX5_clear_22 : decode cX5_clear 22 = .ok (.aload_n 0, 1) := by decide +kernel
theorem dX5_clear_23 : decode cX5_clear 23 = .ok (.iconst 0, 1) := by decide +kernel
theorem dX5_clear_24 : decode cX5_clear 24 = .ok (.putfield 62, 3) := by decide +kernel
theorem dX5_clear_27 : decode cX5_clear 27 = .ok (.aload_n 0, 1) := by decide +kernel
theorem dX5_clear_28 : decode cX5_clear 28 = .ok (.lconst 0, 1) := by decide +kernel
theorem dX5_clear_29 : decode cX5_clear 29 = .ok (.putfield 81, 3) := by decide +kernel
theorem dX5_clear_32 : decode cX5_clear 32 = .ok (.aload_n 0, 1) := by decide +kernel
theorem dX5_clear_33 : decode cX5_clear 33 = .ok (.iconst 0, 1) := by decide +kernel
theorem dX5_clear_34 : decode cX5_clear 34 = .ok (.putfield 85, 3) := by decide +kernel
theorem dX5_clear_37 : decode cX5_clear 37 = .ok (.aload_n 0, 1) := by decide +kernel
theorem dX5_clear_38 : decode cX5_clear 38 = .ok (.iconst 0, 1) := by decide +kernel
theorem dX5_clear_39 : decode cX5_clear 39 = .ok (.putfield 88, 3) := by decide +kernel
theorem dX5_clear_42 : decode cX5_clear 42 = .ok (.aload_n 0, 1) := by decide +kernel
theorem dX5_clear_43 : decode cX5_clear 43 = .ok (.aload_n 1, 1) := by decide +kernel
theorem dX5_clear_44 : decode cX5_clear 44 = .ok (.getfield 91, 3) := by decide +kernel
theorem dX5_clear_47 : decode cX5_clear 47 = .ok (.putfield 94, 3) := by decide +kernel
theorem dX5_clear_50 : decode cX5_clear 50 = .ok (.aload_n 0, 1) := by decide +kernel
theorem dX5_clear_51 : decode cX5_clear 51 = .ok (.iconst 0, 1) := by decide +kernel
theorem dX5_clear_52 : decode cX5_clear 52 = .ok (.putfield 97, 3) := by decide +kernel
theorem dX5_clear_55 : decode cX5_clear 55 = .ok (.aload_n 0, 1) := by decide +kernel
theorem dX5_clear_56 : decode cX5_clear 56 = .ok (.getfield 9, 3) := by decide +kernel
theorem dX5_clear_59 : decode cX5_clear 59 = .ok (.iconst 0, 1) := by decide +kernel
theorem dX5_clear_60 : decode cX5_clear 60 = .ok (.invokestatic 101, 3) := by decide +kernel
theorem dX5_clear_63 : decode cX5_clear 63 = .ok (.aload_n 0, 1) := by decide +kernel
theorem dX5_clear_64 : decode cX5_clear 64 = .ok (.getfield 19, 3) := by decide +kernel
theorem dX5_clear_67 : decode cX5_clear 67 = .ok (.iconst (-1), 1) := by decide +kernel
theorem dX5_clear_68 : decode cX5_clear 68 = .ok (.invokestatic 101, 3) := by decide +kernel
theorem dX5_clear_71 : decode cX5_clear 71 = .ok (.aload_n 0, 1) := by decide +kernel
theorem dX5_clear_72 : decode cX5_clear 72 = .ok (.getfield 22, 3) := by decide +kernel
theorem dX5_clear_75 : decode cX5_clear 75 = .ok (.iconst (-1), 1) := by decide +kernel
theorem dX5_clear_76 : decode cX5_clear 76 = .ok (.invokestatic 101, 3) := by decide +kernel
theorem dX5_clear_79 : decode cX5_clear 79 = .ok (.iconst 0, 1) := by decide +kernel
theorem dX5_clear_80 : decode cX5_clear 80 = .ok (.istore_n 2, 1) := by decide +kernel
theorem dX5_clear_81 : decode cX5_clear 81 = .ok (.iload_n 2, 1) := by decide +kernel
theorem dX5_clear_82 : decode cX5_clear 82 = .ok (.aload_n 0, 1) := by decide +kernel
theorem dX5_clear_83 : decode cX5_clear 83 = .ok (.getfield 15, 3) := by decide +kernel
theorem dX5_clear_86 : decode cX5_clear 86 = .ok (.arraylength, 1) := by decide +kernel
theorem dX5_clear_87 : decode cX5_clear 87 = .ok (.if_icmp .ge 16, 3) := by decide +kernel
theorem dX5_clear_90 : decode cX5_clear 90 = .ok (.aload_n 0, 1) := by decide +kernel
theorem dX5_clear_91 : decode cX5_clear 91 = .ok (.getfield 15, 3) := by decide +kernel
theorem dX5_clear_94 : decode cX5_clear 94 = .ok (.iload_n 2, 1) := by decide +kernel
theorem dX5_clear_95 : decode cX5_clear 95 = .ok (.iconst 0, 1) := by decide +kernel
theorem dX5_clear_96 : decode cX5_clear 96 = .ok (.bastore, 1) := by decide +kernel
theorem dX5_clear_97 : decode cX5_clear 97 = .ok (.iinc 2 1, 3) := by decide +kernel
theorem dX5_clear_100 : decode cX5_clear 100 = .ok (.goto (-19), 3) := by decide +kernel
theorem dX5_clear_103 : decode cX5_clear 103 = .ok (.return_, 1) := by decide +kernel
theorem dX5_isEnough_0 : decode cX5_isEnough 0 = .ok (.iload_n 2, 1) := by decide +kernel
theorem dX5_isEnough_1 : decode cX5_isEnough 1 = .ok (.iconst 1, 1) := by decide +kernel
theorem dX5_isEnough_2 : decode cX5_isEnough 2 = .ok (.if_icmp .eq 8, 3) := by decide +kernel
theorem dX5_isEnough_5 : decode cX5_isEnough 5 = .ok (.iload_n 2, 1) := by decide +kernel
theorem dX5_isEnough_6 : decode cX5_isEnough 6 = .ok (.iconst 3, 1) := by decide +kernel
theorem dX5_isEnough_7 : decode cX5_isEnough 7 = .ok (.if_icmp .ne 5, 3) := by decide +kernel
theorem dX5_isEnough_10 : decode cX5_isEnough 10 = .ok (.iconst 0, 1) := by decide +kernel
theorem dX5_isEnough_11 : decode cX5_isEnough 11 = .ok (.ireturn, 1) := by decide +kernel
theorem dX5_isEnough_12 : decode cX5_isEnough 12 = .ok (.aload_n 0, 1) := by decide +kernel
theorem dX5_isEnough_13 : decode cX5_isEnough 13 = .ok (.getfield 40, 3) := by decide +kernel
theorem dX5_isEnough_16 : decode cX5_isEnough 16 = .ok (.iload_n 1, 1) := by decide +kernel
theorem dX5_isEnough_17 : decode cX5_isEnough 17 = .ok (.invokevirtual 107, 3) := by decide +kernel
theorem dX5_isEnough_20 : decode cX5_isEnough 20 = .ok (.ifCond .ne 5, 3) := by decide +kernel
theorem dX5_isEnough_23 : decode cX5_isEnough 23 = .ok (.iconst 1, 1) := by decide +kernel
theorem dX5_isEnough_24 : decode cX5_isEnough 24 = .ok (.ireturn, 1) := by decide +kernel
theorem dX5_isEnough_25 : decode cX5_isEnough 25 = .ok (.aload_n 0, 1) := by decide +kernel
theorem dX5_isEnough_26 : decode cX5_isEnough 26 = .ok (.getfield 40, 3) := by decide +kernel
theorem dX5_isEnough_29 : decode cX5_isEnough 29 = .ok (.iload_n 1, 1) := by decide +kernel
theorem dX5_isEnough_30 : decode cX5_isEnough 30 = .ok (.invokevirtual 111, 3) := by decide +kernel
theorem dX5_isEnough_33 : decode cX5_isEnough 33 = .ok (.lstore_n 3, 1) := by decide +kernel
theorem dX5_isEnough_34 : decode cX5_isEnough 34 = .ok (.iload_n 2, 1) := by decide +kernel
theorem dX5_isEnough_35 : decode cX5_isEnough 35 = .ok (.lookupswitch 44 #[(0, 25), (2, 37)], 25) := by decide +kernel
theorem dX5_isEnough_60 : decode cX5_isEnough 60 = .ok (.aload_n 0, 1) := by decide +kernel
theorem dX5_isEnough_61 : decode cX5_isEnough 61 = .ok (.dup, 1) := by decide +kernel
theorem dX5_isEnough_62 : decode cX5_isEnough 62 = .ok (.getfield 81, 3) := by decide +kernel
theorem dX5_isEnough_65 : decode cX5_isEnough 65 = .ok (.lload_n 3, 1) := by decide +kernel
theorem dX5_isEnough_66 : decode cX5_isEnough 66 = .ok (.ladd, 1) := by decide +kernel
theorem dX5_isEnough_67 : decode cX5_isEnough 67 = .ok (.putfield 81, 3) := by decide +kernel
theorem dX5_isEnough_70 : decode cX5_isEnough 70 = .ok (.iconst 0, 1) := by decide +kernel
theorem dX5_isEnough_71 : decode cX5_isEnough 71 = .ok (.ireturn, 1) := by decide +kernel
theorem dX5_isEnough_72 : decode cX5_isEnough 72 = .ok (.aload_n 0, 1) := by decide +kernel
theorem dX5_isEnough_73 : decode cX5_isEnough 73 = .ok (.lload_n 3, 1) := by decide +kernel
theorem dX5_isEnough_74 : decode cX5_isEnough 74 = .ok (.putfield 81, 3) := by decide +kernel
theorem dX5_isEnough_77 : decode cX5_isEnough 77 = .ok (.iconst 1, 1) := by decide +kernel
theorem dX5_isEnough_78 : decode cX5_isEnough 78 = .ok (.ireturn, 1) := by decide +kernel
theorem dX5_isEnough_79 : decode cX5_isEnough 79 = .ok (.aload_n 0, 1) := by decide +kernel
theorem dX5_isEnough_80 : decode cX5_isEnough 80 = .ok (.lload_n 3, 1) := by decide +kernel
theorem dX5_isEnough_81 : decode cX5_isEnough 81 = .ok (.ldc2_w 115, 3) := by decide +kernel
theorem dX5_isEnough_84 : decode cX5_isEnough 84 = .ok (.lcmp, 1) := by decide +kernel
theorem dX5_isEnough_85 : decode cX5_isEnough 85 = .ok (.ifCond .le 7, 3) := by decide +kernel
theorem dX5_isEnough_88 : decode cX5_isEnough 88 = .ok (.lconst 1, 1) := by decide +kernel
theorem dX5_isEnough_89 : decode cX5_isEnough 89 = .ok (.goto 4, 3) := by decide +kernel
theorem dX5_isEnough_92 : decode cX5_isEnough 92 = .ok (.lconst 0, 1) := by decide +kernel
theorem dX5_isEnough_93 : decode cX5_isEnough 93 = .ok (.putfield 81, 3) := by decide +kernel
theorem dX5_isEnough_96 : decode cX5_isEnough 96 = .ok (.aload_n 0, 1) := by decide +kernel
theorem dX5_isEnough_97 : decode cX5_isEnough 97 = .ok (.getfield 81, 3) := by decide +kernel
theorem dX5_isEnough_100 : decode cX5_isEnough 100 = .ok (.lconst 1, 1) := by decide +kernel
theorem dX5_isEnough_101 : decode cX5_isEnough 101 = .ok (.lcmp, 1) := by decide +kernel
theorem dX5_isEnough_102 : decode cX5_isEnough 102 = .ok (.ifCond .ne 7, 3) := by decide +kernel
theorem dX5_isEnough_105 : decode cX5_isEnough 105 = .ok (.iconst 1, 1) := by decide +kernel
theorem dX5_isEnough_106 : decode cX5_isEnough 106 = .ok (.goto 4, 3) := by decide +kernel
theorem dX5_isEnough_109 : decode cX5_isEnough 109 = .ok (.iconst 0, 1) := by decide +kernel
theorem dX5_isEnough_110 : decode cX5_isEnough 110 = .ok (.ireturn, 1) := by decide +kernel
theorem dX5_close_0 : decode cX5_close 0 = .ok (.iload_n 2, 1) := by decide +kernel
theorem dX5_close_1 : decode cX5_close 1 = .ok (.iconst 1, 1) := by decide +kernel
theorem dX5_close_2 : decode cX5_close 2 = .ok (.if_icmp .ne 12, 3) := by decide +kernel
theorem dX5_close_5 : decode cX5_close 5 = .ok (.aload_n 0, 1) := by decide +kernel
theorem dX5_close_6 : decode cX5_close 6 = .ok (.aload_n 0, 1) := by decide +kernel
theorem dX5_close_7 : decode cX5_close 7 = .ok (.getfield 62, 3) := by decide +kernel
theorem dX5_close_10 : decode cX5_close 10 = .ok (.i2l, 1) := by decide +kernel
theorem dX5_close_11 : decode cX5_close 11 = .ok (.putfield 81, 3) := by decide +kernel
theorem dX5_close_14 : decode cX5_close 14 = .ok (.iload_n 2, 1) := by decide +kernel
theorem dX5_close_15 : decode cX5_close 15 = .ok (.iconst 3, 1) := by decide +kernel
theorem dX5_close_16 : decode cX5_close 16 = .ok (.if_icmp .ne 33, 3) := by decide +kernel
theorem dX5_close_19 : decode cX5_close 19 = .ok (.aload_n 0, 1) := by decide +kernel
theorem dX5_close_20 : decode cX5_close 20 = .ok (.invokevirtual 117, 3) := by decide +kernel
theorem dX5_close_23 : decode cX5_close 23 = .ok (.ifCond .ne 26, 3) := by decide +kernel
theorem dX5_close_26 : decode cX5_close 26 = .ok (.aload_n 0, 1) := by decide +kernel
theorem dX5_close_27 : decode cX5_close 27 = .ok (.getfield 40, 3) := by decide +kernel
theorem dX5_close_30 : decode cX5_close 30 = .ok (.iload_n 1, 1) := by decide +kernel
theorem dX5_close_31 : decode cX5_close 31 = .ok (.invokevirtual 107, 3) := by decide +kernel
theorem dX5_close_34 : decode cX5_close 34 = .ok (.ifCond .eq 15, 3) := by decide +kernel
theorem dX5_close_37 : decode cX5_close 37 = .ok (.aload_n 0, 1) := by decide +kernel
theorem dX5_close_38 : decode cX5_close 38 = .ok (.aload_n 0, 1) := by decide +kernel
theorem dX5_close_39 : decode cX5_close 39 = .ok (.getfield 40, 3) := by decide +kernel
theorem dX5_close_42 : decode cX5_close 42 = .ok (.iload_n 1, 1) := by decide +kernel
theorem dX5_close_43 : decode cX5_close 43 = .ok (.invokevirtual 111, 3) := by decide +kernel
theorem dX5_close_46 : decode cX5_close 46 = .ok (.putfield 81, 3) := by decide +kernel
theorem dX5_close_49 : decode cX5_close 49 = .ok (.aload_n 0, 1) := by decide +kernel
theorem dX5_close_50 : decode cX5_close 50 = .ok (.getfield 97, 3) := by decide +kernel
theorem dX5_close_53 : decode cX5_close 53 = .ok (.ifCond .eq 6, 3) := by decide +kernel
theorem dX5_close_56 : decode cX5_close 56 = .ok (.bipush (-20), 2) := by decide +kernel
theorem dX5_close_58 : decode cX5_close 58 = .ok (.ireturn, 1) := by decide +kernel
theorem dX5_close_59 : decode cX5_close 59 = .ok (.aload_n 0, 1) := by decide +kernel
theorem dX5_close_60 : decode cX5_close 60 = .ok (.getfield 40, 3) := by decide +kernel
theorem dX5_close_63 : decode cX5_close 63 = .ok (.getfield 121, 3) := by decide +kernel
theorem dX5_close_66 : decode cX5_close 66 = .ok (.ifCond .eq 14, 3) := by decide +kernel
theorem dX5_close_69 : decode cX5_close 69 = .ok (.bipush (-10), 2) := by decide +kernel
theorem dX5_close_71 : decode cX5_close 71 = .ok (.aload_n 0, 1) := by decide +kernel
theorem dX5_close_72 : decode cX5_close 72 = .ok (.getfield 40, 3) := by decide +kernel
theorem dX5_close_75 : decode cX5_close 75 = .ok (.getfield 121, 3) := by decide +kernel
theorem dX5_close_78 : decode cX5_close 78 = .ok (.isub, 1) := by decide +kernel
theorem dX5_close_79 : decode cX5_close 79 = .ok (.ireturn, 1) := by decide +kernel
theorem dX5_close_80 : decode cX5_close 80 = .ok (.aload_n 0, 1) := by decide +kernel
theorem dX5_close_81 : decode cX5_close 81 = .ok (.getfield 62, 3) := by decide +kernel
theorem dX5_close_84 : decode cX5_close 84 = .ok (.ifCond .ne 17, 3) := by decide +kernel
theorem dX5_close_87 : decode cX5_close 87 = .ok (.iload_n 2, 1) := by decide +kernel
theorem dX5_close_88 : decode cX5_close 88 = .ok (.iconst 2, 1) := by decide +kernel
theorem dX5_close_89 : decode cX5_close 89 = .ok (.if_icmp .eq 8, 3) := by decide +kernel
theorem dX5_close_92 : decode cX5_close 92 = .ok (.iload_n 2, 1) := by decide +kernel
theorem dX5_close_93 : decode cX5_close 93 = .ok (.iconst 3, 1) := by decide +kernel
theorem dX5_close_94 : decode cX5_close 94 = .ok (.if_icmp .ne 7, 3) := by decide +kernel
theorem dX5_close_97 : decode cX5_close 97 = .ok (.iconst 1, 1) := by decide +kernel
theorem dX5_close_98 : decode cX5_close 98 = .ok (.goto 4, 3) := by decide +kernel
theorem dX5_close_101 : decode cX5_close 101 = .ok (.iconst 0, 1) := by decide +kernel
theorem dX5_close_102 : decode cX5_close 102 = .ok (.ireturn, 1) := by decide +kernel
theorem dX5_isOver_0 : decode cX5_isOver 0 = .ok (.aload_n 0, 1) := by decide +kernel
theorem dX5_isOver_1 : decode cX5_isOver 1 = .ok (.getfield 97, 3) := by decide +kernel
theorem dX5_isOver_4 : decode cX5_isOver 4 = .ok (.ifCond .ne 13, 3) := by decide +kernel
theorem dX5_isOver_7 : decode cX5_isOver 7 = .ok (.aload_n 0, 1) := by decide +kernel
theorem dX5_isOver_8 : decode cX5_isOver 8 = .ok (.getfield 40, 3) := by decide +kernel
theorem dX5_isOver_11 : decode cX5_isOver 11 = .ok (.getfield 121, 3) := by decide +kernel
theorem dX5_isOver_14 : decode cX5_isOver 14 = .ok (.ifCond .eq 7, 3) := by decide +kernel
theorem dX5_isOver_17 : decode cX5_isOver 17 = .ok (.iconst 1, 1) := by decide +kernel
theorem dX5_isOver_18 : decode cX5_isOver 18 = .ok (.goto 4, 3) := by decide +kernel
theorem dX5_isOver_21 : decode cX5_isOver 21 = .ok (.iconst 0, 1) := by decide +kernel
theorem dX5_isOver_22 : decode cX5_isOver 22 = .ok (.ireturn, 1) := by decide +kernel
theorem dX5_ask_0 : decode cX5_ask 0 = .ok (.aload_n 0, 1) := by decide +kernel
theorem dX5_ask_1 : decode cX5_ask 1 = .ok (.invokevirtual 117, 3) := by decide +kernel
theorem dX5_ask_4 : decode cX5_ask 4 = .ok (.ifCond .eq 5, 3) := by decide +kernel
theorem dX5_ask_7 : decode cX5_ask 7 = .ok (.iconst (-1), 1) := by decide +kernel
theorem dX5_ask_8 : decode cX5_ask 8 = .ok (.ireturn, 1) := by decide +kernel
theorem dX5_ask_9 : decode cX5_ask 9 = .ok (.aload_n 0, 1) := by decide +kernel
theorem dX5_ask_10 : decode cX5_ask 10 = .ok (.getfield 78, 3) := by decide +kernel
theorem dX5_ask_13 : decode cX5_ask 13 = .ok (.sipush 400, 3) := by decide +kernel
theorem dX5_ask_16 : decode cX5_ask 16 = .ok (.if_icmp .lt 10, 3) := by decide +kernel
theorem dX5_ask_19 : decode cX5_ask 19 = .ok (.aload_n 0, 1) := by decide +kernel
theorem dX5_ask_20 : decode cX5_ask 20 = .ok (.iconst 1, 1) := by decide +kernel
theorem dX5_ask_21 : decode cX5_ask 21 = .ok (.putfield 97, 3) := by decide +kernel
theorem dX5_ask_24 : decode cX5_ask 24 = .ok (.iconst (-1), 1) := by decide +kernel
theorem dX5_ask_25 : decode cX5_ask 25 = .ok (.ireturn, 1) := by decide +kernel
theorem dX5_ask_26 : decode cX5_ask 26 = .ok (.aload_n 0, 1) := by decide +kernel
theorem dX5_ask_27 : decode cX5_ask 27 = .ok (.dup, 1) := by decide +kernel
theorem dX5_ask_28 : decode cX5_ask 28 = .ok (.getfield 78, 3) := by decide +kernel
theorem dX5_ask_31 : decode cX5_ask 31 = .ok (.iconst 1, 1) := by decide +kernel
theorem dX5_ask_32 : decode cX5_ask 32 = .ok (.iadd, 1) := by decide +kernel
theorem dX5_ask_33 : decode cX5_ask 33 = .ok (.putfield 78, 3) := by decide +kernel
theorem dX5_ask_36 : decode cX5_ask 36 = .ok (.iload_n 1, 1) := by decide +kernel
theorem dX5_ask_37 : decode cX5_ask 37 = .ok (.ifCond .le 14, 3) := by decide +kernel
theorem dX5_ask_40 : decode cX5_ask 40 = .ok (.iload_n 1, 1) := by decide +kernel
theorem dX5_ask_41 : decode cX5_ask 41 = .ok (.aload_n 0, 1) := by decide +kernel
theorem dX5_ask_42 : decode cX5_ask 42 = .ok (.getfield 48, 3) := by decide +kernel
theorem dX5_ask_45 : decode cX5_ask 45 = .ok (.getfield 52, 3) := by decide +kernel
theorem dX5_ask_48 : decode cX5_ask 48 = .ok (.if_icmp .le 8, 3) := by decide +kernel
theorem dX5_ask_51 : decode cX5_ask 51 = .ok (.aload_n 0, 1) := by decide +kernel
theorem dX5_ask_52 : decode cX5_ask 52 = .ok (.invokevirtual 124, 3) := by decide +kernel
theorem dX5_ask_55 : decode cX5_ask 55 = .ok (.ireturn, 1) := by decide +kernel
theorem dX5_ask_56 : decode cX5_ask 56 = .ok (.aload_n 0, 1) := by decide +kernel
theorem dX5_ask_57 : decode cX5_ask 57 = .ok (.getfield 48, 3) := by decide +kernel
theorem dX5_ask_60 : decode cX5_ask 60 = .ok (.getfield 128, 3) := by decide +kernel
theorem dX5_ask_63 : decode cX5_ask 63 = .ok (.iload_n 1, 1) := by decide +kernel
theorem dX5_ask_64 : decode cX5_ask 64 = .ok (.iconst 1, 1) := by decide +kernel
theorem dX5_ask_65 : decode cX5_ask 65 = .ok (.isub, 1) := by decide +kernel
theorem dX5_ask_66 : decode cX5_ask 66 = .ok (.aaload, 1) := by decide +kernel
theorem dX5_ask_67 : decode cX5_ask 67 = .ok (.astore_n 2, 1) := by decide +kernel
theorem dX5_ask_68 : decode cX5_ask 68 = .ok (.iconst (-1), 1) := by decide +kernel
theorem dX5_ask_69 : decode cX5_ask 69 = .ok (.istore_n 3, 1) := by decide +kernel
theorem dX5_ask_70 : decode cX5_ask 70 = .ok (.aload_n 2, 1) := by decide +kernel
theorem dX5_ask_71 : decode cX5_ask 71 = .ok (.getfield 132, 3) := by decide +kernel
theorem dX5_ask_74 : decode cX5_ask 74 = .ok (.iconst 0, 1) := by decide +kernel
theorem dX5_ask_75 : decode cX5_ask 75 = .ok (.iaload, 1) := by decide +kernel
theorem dX5_ask_76 : decode cX5_ask 76 = .ok (.tableswitch 116 0 10 #[60, 60, 60, 60, 70, 70, 70, 80, 90, 97, 107], 60) := by decide +kernel
theorem dX5_ask_136 : decode cX5_ask 136 = .ok (.aload_n 0, 1) := by decide +kernel
theorem dX5_ask_137 : decode cX5_ask 137 = .ok (.aload_n 2, 1) := by decide +kernel
theorem dX5_ask_138 : decode cX5_ask 138 = .ok (.iload_n 1, 1) := by decide +kernel
theorem dX5_ask_139 : decode cX5_ask 139 = .ok (.invokevirtual 137, 3) := by decide +kernel
theorem dX5_ask_142 : decode cX5_ask 142 = .ok (.istore_n 3, 1) := by decide +kernel
theorem dX5_ask_143 : decode cX5_ask 143 = .ok (.goto 55, 3) := by decide +kernel
theorem dX5_ask_146 : decode cX5_ask 146 = .ok (.aload_n 0, 1) := by decide +kernel
theorem dX5_ask_147 : decode cX5_ask 147 = .ok (.aload_n 2, 1) := by decide +kernel
theorem dX5_ask_148 : decode cX5_ask 148 = .ok (.iload_n 1, 1) := by decide +kernel
theorem dX5_ask_149 : decode cX5_ask 149 = .ok (.invokevirtual 141, 3) := by decide +kernel
theorem dX5_ask_152 : decode cX5_ask 152 = .ok (.istore_n 3, 1) := by decide +kernel
theorem dX5_ask_153 : decode cX5_ask 153 = .ok (.goto 45, 3) := by decide +kernel
theorem dX5_ask_156 : decode cX5_ask 156 = .ok (.aload_n 0, 1) := by decide +kernel
theorem dX5_ask_157 : decode cX5_ask 157 = .ok (.aload_n 2, 1) := by decide +kernel
theorem dX5_ask_158 : decode cX5_ask 158 = .ok (.iload_n 1, 1) := by decide +kernel
theorem dX5_ask_159 : decode cX5_ask 159 = .ok (.invokevirtual 144, 3) := by decide +kernel
theorem dX5_ask_162 : decode cX5_ask 162 = .ok (.istore_n 3, 1) := by decide +kernel
theorem dX5_ask_163 : decode cX5_ask 163 = .ok (.goto 35, 3) := by decide +kernel
theorem dX5_ask_166 : decode cX5_ask 166 = .ok (.aload_n 0, 1) := by decide +kernel
theorem dX5_ask_167 : decode cX5_ask 167 = .ok (.aload_n 2, 1) := by decide +kernel
theorem dX5_ask_168 : decode cX5_ask 168 = .ok (.iload_n 1, 1) := by decide +kernel
theorem dX5_ask_169 : decode cX5_ask 169 = .ok (.invokevirtual 147, 3) := by decide +kernel
theorem dX5_ask_172 : decode cX5_ask 172 = .ok (.ireturn, 1) := by decide +kernel
theorem dX5_ask_173 : decode cX5_ask 173 = .ok (.aload_n 0, 1) := by decide +kernel
theorem dX5_ask_174 : decode cX5_ask 174 = .ok (.aload_n 2, 1) := by decide +kernel
theorem dX5_ask_175 : decode cX5_ask 175 = .ok (.iload_n 1, 1) := by decide +kernel
theorem dX5_ask_176 : decode cX5_ask 176 = .ok (.invokevirtual 150, 3) := by decide +kernel
theorem dX5_ask_179 : decode cX5_ask 179 = .ok (.istore_n 3, 1) := by decide +kernel
theorem dX5_ask_180 : decode cX5_ask 180 = .ok (.goto 18, 3) := by decide +kernel
theorem dX5_ask_183 : decode cX5_ask 183 = .ok (.aload_n 0, 1) := by decide +kernel
theorem dX5_ask_184 : decode cX5_ask 184 = .ok (.iload_n 1, 1) := by decide +kernel
theorem dX5_ask_185 : decode cX5_ask 185 = .ok (.invokevirtual 153, 3) := by decide +kernel
theorem dX5_ask_188 : decode cX5_ask 188 = .ok (.istore_n 3, 1) := by decide +kernel
theorem dX5_ask_189 : decode cX5_ask 189 = .ok (.goto 9, 3) := by decide +kernel
theorem dX5_ask_192 : decode cX5_ask 192 = .ok (.aload_n 0, 1) := by decide +kernel
theorem dX5_ask_193 : decode cX5_ask 193 = .ok (.iload_n 1, 1) := by decide +kernel
theorem dX5_ask_194 : decode cX5_ask 194 = .ok (.invokevirtual 156, 3) := by decide +kernel
theorem dX5_ask_197 : decode cX5_ask 197 = .ok (.istore_n 3, 1) := by decide +kernel
theorem dX5_ask_198 : decode cX5_ask 198 = .ok (.iload_n 3, 1) := by decide +kernel
theorem dX5_ask_199 : decode cX5_ask 199 = .ok (.iconst (-1), 1) := by decide +kernel
theorem dX5_ask_200 : decode cX5_ask 200 = .ok (.if_icmp .eq 13, 3) := by decide +kernel
theorem dX5_ask_203 : decode cX5_ask 203 = .ok (.aload_n 0, 1) := by decide +kernel
theorem dX5_ask_204 : decode cX5_ask 204 = .ok (.dup, 1) := by decide +kernel
theorem dX5_ask_205 : decode cX5_ask 205 = .ok (.getfield 75, 3) := by decide +kernel
theorem dX5_ask_208 : decode cX5_ask 208 = .ok (.iconst 1, 1) := by decide +kernel
theorem dX5_ask_209 : decode cX5_ask 209 = .ok (.iadd, 1) := by decide +kernel
theorem dX5_ask_210 : decode cX5_ask 210 = .ok (.putfield 75, 3) := by decide +kernel
theorem dX5_ask_213 : decode cX5_ask 213 = .ok (.iload_n 3, 1) := by decide +kernel
theorem dX5_ask_214 : decode cX5_ask 214 = .ok (.ireturn, 1) := by decide +kernel
theorem dX5_askSource_0 : decode cX5_askSource 0 = .ok (.aload_n 0, 1) := by decide +kernel
theorem dX5_askSource_1 : decode cX5_askSource 1 = .ok (.getfield 48, 3) := by decide +kernel
theorem dX5_askSource_4 : decode cX5_askSource 4 = .ok (.getfield 159, 3) := by decide +kernel
theorem dX5_askSource_7 : decode cX5_askSource 7 = .ok (.iconst 1, 1) := by decide +kernel
theorem dX5_askSource_8 : decode cX5_askSource 8 = .ok (.if_icmp .ne 8, 3) := by decide +kernel
theorem dX5_askSource_11 : decode cX5_askSource 11 = .ok (.aload_n 0, 1) := by decide +kernel
theorem dX5_askSource_12 : decode cX5_askSource 12 = .ok (.invokevirtual 162, 3) := by decide +kernel
theorem dX5_askSource_15 : decode cX5_askSource 15 = .ok (.ireturn, 1) := by decide +kernel
theorem dX5_askSource_16 : decode cX5_askSource 16 = .ok (.aload_n 0, 1) := by decide +kernel
theorem dX5_askSource_17 : decode cX5_askSource 17 = .ok (.getfield 48, 3) := by decide +kernel
theorem dX5_askSource_20 : decode cX5_askSource 20 = .ok (.getfield 165, 3) := by decide +kernel
theorem dX5_askSource_23 : decode cX5_askSource 23 = .ok (.iconst (-1), 1) := by decide +kernel
theorem dX5_askSource_24 : decode cX5_askSource 24 = .ok (.if_icmp .eq 19, 3) := by decide +kernel
theorem dX5_askSource_27 : decode cX5_askSource 27 = .ok (.aload_n 0, 1) := by decide +kernel
theorem dX5_askSource_28 : decode cX5_askSource 28 = .ok (.getfield 88, 3) := by decide +kernel
theorem dX5_askSource_31 : decode cX5_askSource 31 = .ok (.aload_n 0, 1) := by decide +kernel
theorem dX5_askSource_32 : decode cX5_askSource 32 = .ok (.getfield 48, 3) := by decide +kernel
theorem dX5_askSource_35 : decode cX5_askSource 35 = .ok (.getfield 165, 3) := by decide +kernel
theorem dX5_askSource_38 : decode cX5_askSource 38 = .ok (.if_icmp .lt 5, 3) := by decide +kernel
theorem dX5_askSource_41 : decode cX5_askSource 41 = .ok (.iconst (-1), 1) := by decide +kernel
theorem dX5_askSource_42 : decode cX5_askSource 42 = .ok (.ireturn, 1) := by decide +kernel
theorem dX5_askSource_43 : decode cX5_askSource 43 = .ok (.aload_n 0, 1) := by decide +kernel
theorem dX5_askSource_44 : decode cX5_askSource 44 = .ok (.getfield 94, 3) := by decide +kernel
theorem dX5_askSource_47 : decode cX5_askSource 47 = .ok (.lstore_n 1, 1) := by decide +kernel
theorem dX5_askSource_48 : decode cX5_askSource 48 = .ok (.aload_n 0, 1) := by decide +kernel
theorem dX5_askSource_49 : decode cX5_askSource 49 = .ok (.dup, 1) := by decide +kernel
theorem dX5_askSource_50 : decode cX5_askSource 50 = .ok (.getfield 94, 3) := by decide +kernel
theorem dX5_askSource_53 : decode cX5_askSource 53 = .ok (.aload_n 0, 1) := by decide +kernel
theorem dX5_askSource_54 : decode cX5_askSource 54 = .ok (.getfield 48, 3) := by decide +kernel
theorem dX5_askSource_57 : decode cX5_askSource 57 = .ok (.getfield 168, 3) := by decide +kernel
theorem dX5_askSource_60 : decode cX5_askSource 60 = .ok (.ladd, 1) := by decide +kernel
theorem dX5_askSource_61 : decode cX5_askSource 61 = .ok (.putfield 94, 3) := by decide +kernel
theorem dX5_askSource_64 : decode cX5_askSource 64 = .ok (.aload_n 0, 1) := by decide +kernel
theorem dX5_askSource_65 : decode cX5_askSource 65 = .ok (.dup, 1) := by decide +kernel
theorem dX5_askSource_66 : decode cX5_askSource 66 = .ok (.getfield 88, 3) := by decide +kernel
theorem dX5_askSource_69 : decode cX5_askSource 69 = .ok (.iconst 1, 1) := by decide +kernel
theorem dX5_askSource_70 : decode cX5_askSource 70 = .ok (.iadd, 1) := by decide +kernel
theorem dX5_askSource_71 : decode cX5_askSource 71 = .ok (.putfield 88, 3) := by decide +kernel
theorem dX5_askSource_74 : decode cX5_askSource 74 = .ok (.aload_n 0, 1) := by decide +kernel
theorem dX5_askSource_75 : decode cX5_askSource 75 = .ok (.getfield 40, 3) := by decide +kernel
theorem dX5_askSource_78 : decode cX5_askSource 78 = .ok (.lload_n 1, 1) := by decide +kernel
theorem dX5_askSource_79 : decode cX5_askSource 79 = .ok (.invokevirtual 171, 3) := by decide +kernel
theorem dX5_askSource_82 : decode cX5_askSource 82 = .ok (.ireturn, 1) := by decide +kernel
theorem dX5_askRow_0 : decode cX5_askRow 0 = .ok (.aload_n 0, 1) := by decide +kernel
theorem dX5_askRow_1 : decode cX5_askRow 1 = .ok (.getfield 48, 3) := by decide +kernel
theorem dX5_askRow_4 : decode cX5_askRow 4 = .ok (.getfield 175, 3) := by decide +kernel
theorem dX5_askRow_7 : decode cX5_askRow 7 = .ok (.invokestatic 178, 3) := by decide +kernel
theorem dX5_askRow_10 : decode cX5_askRow 10 = .ok (.ifCond .ne 5, 3) := by decide +kernel
theorem dX5_askRow_13 : decode cX5_askRow 13 = .ok (.iconst (-1), 1) := by decide +kernel
theorem dX5_askRow_14 : decode cX5_askRow 14 = .ok (.ireturn, 1) := by decide +kernel
theorem dX5_askRow_15 : decode cX5_askRow 15 = .ok (.aload_n 0, 1) := by decide +kernel
theorem dX5_askRow_16 : decode cX5_askRow 16 = .ok (.getfield 31, 3) := by decide +kernel
theorem dX5_askRow_19 : decode cX5_askRow 19 = .ok (.aload_n 0, 1) := by decide +kernel
theorem dX5_askRow_20 : decode cX5_askRow 20 = .ok (.getfield 48, 3) := by decide +kernel
theorem dX5_askRow_23 : decode cX5_askRow 23 = .ok (.getfield 175, 3) := by decide +kernel
theorem dX5_askRow_26 : decode cX5_askRow 26 = .ok (.aaload, 1) := by decide +kernel
theorem dX5_askRow_27 : decode cX5_askRow 27 = .ok (.astore_n 1, 1) := by decide +kernel
theorem dX5_askRow_28 : decode cX5_askRow 28 = .ok (.aload_n 1, 1) := by decide +kernel
theorem dX5_askRow_29 : decode cX5_askRow 29 = .ok (.getfield 181, 3) := by decide +kernel
theorem dX5_askRow_32 : decode cX5_askRow 32 = .ok (.ifCond .ne 13, 3) := by decide +kernel
theorem dX5_askRow_35 : decode cX5_askRow 35 = .ok (.aload_n 0, 1) := by decide +kernel
theorem dX5_askRow_36 : decode cX5_askRow 36 = .ok (.getfield 40, 3) := by decide +kernel
theorem dX5_askRow_39 : decode cX5_askRow 39 = .ok (.iconst 1, 1) := by decide +kernel
theorem dX5_askRow_40 : decode cX5_askRow 40 = .ok (.putfield 121, 3) := by decide +kernel
theorem dX5_askRow_43 : decode cX5_askRow 43 = .ok (.iconst (-1), 1) := by decide +kernel
theorem dX5_askRow_44 : decode cX5_askRow 44 = .ok (.ireturn, 1) := by decide +kernel
theorem dX5_askRow_45 : decode cX5_askRow 45 = .ok (.aload_n 1, 1) := by decide +kernel
theorem dX5_askRow_46 : decode cX5_askRow 46 = .ok (.aload_n 0, 1) := by decide +kernel
theorem dX5_askRow_47 : decode cX5_askRow 47 = .ok (.getfield 88, 3) := by decide +kernel
theorem dX5_askRow_50 : decode cX5_askRow 50 = .ok (.invokevirtual 186, 3) := by decide +kernel
theorem dX5_askRow_53 : decode cX5_askRow 53 = .ok (.ifCond .ne 5, 3) := by decide +kernel
theorem dX5_askRow_56 : decode cX5_askRow 56 = .ok (.iconst (-1), 1) := by decide +kernel
theorem dX5_askRow_57 : decode cX5_askRow 57 = .ok (.ireturn, 1) := by decide +kernel
theorem dX5_askRow_58 : decode cX5_askRow 58 = .ok (.aload_n 1, 1) := by decide +kernel
theorem dX5_askRow_59 : decode cX5_askRow 59 = .ok (.getfield 189, 3) := by decide +kernel
theorem dX5_askRow_62 : decode cX5_askRow 62 = .ok (.aload_n 0, 1) := by decide +kernel
theorem dX5_askRow_63 : decode cX5_askRow 63 = .ok (.getfield 88, 3) := by decide +kernel
theorem dX5_askRow_66 : decode cX5_askRow 66 = .ok (.laload, 1) := by decide +kernel
theorem dX5_askRow_67 : decode cX5_askRow 67 = .ok (.lstore_n 2, 1) := by decide +kernel
theorem dX5_askRow_68 : decode cX5_askRow 68 = .ok (.aload_n 0, 1) := by decide +kernel
theorem dX5_askRow_69 : decode cX5_askRow 69 = .ok (.dup, 1) := by decide +kernel
theorem dX5_askRow_70 : decode cX5_askRow 70 = .ok (.getfield 88, 3) := by decide +kernel
theorem dX5_askRow_73 : decode cX5_askRow 73 = .ok (.iconst 1, 1) := by decide +kernel
theorem dX5_askRow_74 : decode cX5_askRow 74 = .ok (.iadd, 1) := by decide +kernel
theorem dX5_askRow_75 : decode cX5_askRow 75 = .ok (.putfield 88, 3) := by decide +kernel
theorem dX5_askRow_78 : decode cX5_askRow 78 = .ok (.aload_n 0, 1) := by decide +kernel
theorem dX5_askRow_79 : decode cX5_askRow 79 = .ok (.getfield 40, 3) := by decide +kernel
theorem dX5_askRow_82 : decode cX5_askRow 82 = .ok (.lload_n 2, 1) := by decide +kernel
theorem dX5_askRow_83 : decode cX5_askRow 83 = .ok (.invokevirtual 171, 3) := by decide +kernel
theorem dX5_askRow_86 : decode cX5_askRow 86 = .ok (.ireturn, 1) := by decide +kernel
theorem dX5_askMap_0 : decode cX5_askMap 0 = .ok (.aload_n 0, 1) := by decide +kernel
theorem dX5_askMap_1 : decode cX5_askMap 1 = .ok (.iload_n 2, 1) := by decide +kernel
theorem dX5_askMap_2 : decode cX5_askMap 2 = .ok (.iconst 1, 1) := by decide +kernel
theorem dX5_askMap_3 : decode cX5_askMap 3 = .ok (.isub, 1) := by decide +kernel
theorem dX5_askMap_4 : decode cX5_askMap 4 = .ok (.invokevirtual 58, 3) := by decide +kernel
theorem dX5_askMap_7 : decode cX5_askMap 7 = .ok (.istore_n 3, 1) := by decide +kernel
theorem dX5_askMap_8 : decode cX5_askMap 8 = .ok (.iload_n 3, 1) := by decide +kernel
theorem dX5_askMap_9 : decode cX5_askMap 9 = .ok (.iconst (-1), 1) := by decide +kernel
theorem dX5_askMap_10 : decode cX5_askMap 10 = .ok (.if_icmp .ne 7, 3) := by decide +kernel
theorem dX5_askMap_13 : decode cX5_askMap 13 = .ok (.iconst (-1), 1) := by decide +kernel
theorem dX5_askMap_14 : decode cX5_askMap 14 = .ok (.goto 12, 3) := by decide +kernel
theorem dX5_askMap_17 : decode cX5_askMap 17 = .ok (.aload_n 0, 1) := by decide +kernel
theorem dX5_askMap_18 : decode cX5_askMap 18 = .ok (.getfield 40, 3) := by decide +kernel
theorem dX5_askMap_21 : decode cX5_askMap 21 = .ok (.aload_n 1, 1) := by decide +kernel
theorem dX5_askMap_22 : decode cX5_askMap 22 = .ok (.iload_n 3, 1) := by decide +kernel
theorem dX5_askMap_23 : decode cX5_askMap 23 = .ok (.invokevirtual 192, 3) := by decide +kernel
theorem dX5_askMap_26 : decode cX5_askMap 26 = .ok (.ireturn, 1) := by decide +kernel
theorem dX5_askTest_0 : decode cX5_askTest 0 = .ok (.iconst 0, 1) := by decide +kernel
theorem dX5_askTest_1 : decode cX5_askTest 1 = .ok (.istore_n 3, 1) := by decide +kernel
theorem dX5_askTest_2 : decode cX5_askTest 2 = .ok (.iload_n 3, 1) := by decide +kernel
theorem dX5_askTest_3 : decode cX5_askTest 3 = .ok (.sipush 400, 3) := by decide +kernel
theorem dX5_askTest_6 : decode cX5_askTest 6 = .ok (.if_icmp .gt 57, 3) := by decide +kernel
theorem dX5_askTest_9 : decode cX5_askTest 9 = .ok (.aload_n 0, 1) := by decide +kernel
theorem dX5_askTest_10 : decode cX5_askTest 10 = .ok (.iload_n 2, 1) := by decide +kernel
theorem dX5_askTest_11 : decode cX5_askTest 11 = .ok (.iconst 1, 1) := by decide +kernel
theorem dX5_askTest_12 : decode cX5_askTest 12 = .ok (.isub, 1) := by decide +kernel
theorem dX5_askTest_13 : decode cX5_askTest 13 = .ok (.invokevirtual 58, 3) := by decide +kernel
theorem dX5_askTest_16 : decode cX5_askTest 16 = .ok (.istore 4, 2) := by decide +kernel
theorem dX5_askTest_18 : decode cX5_askTest 18 = .ok (.iload 4, 2) := by decide +kernel
theorem dX5_askTest_20 : decode cX5_askTest 20 = .ok (.iconst (-1), 1) := by decide +kernel
theorem dX5_askTest_21 : decode cX5_askTest 21 = .ok (.if_icmp .eq 15, 3) := by decide +kernel
theorem dX5_askTest_24 : decode cX5_askTest 24 = .ok (.aload_n 0, 1) := by decide +kernel
theorem dX5_askTest_25 : decode cX5_askTest 25 = .ok (.getfield 40, 3) := by decide +kernel
theorem dX5_askTest_28 : decode cX5_askTest 28 = .ok (.iload 4, 2) := by decide +kernel
theorem dX5_askTest_30 : decode cX5_askTest 30 = .ok (.invokevirtual 107, 3) := by decide +kernel
theorem dX5_askTest_33 : decode cX5_askTest 33 = .ok (.ifCond .ne 5, 3) := by decide +kernel
theorem dX5_askTest_36 : decode cX5_askTest 36 = .ok (.iconst (-1), 1) := by decide +kernel
theorem dX5_askTest_37 : decode cX5_askTest 37 = .ok (.ireturn, 1) := by decide +kernel
theorem dX5_askTest_38 : decode cX5_askTest 38 = .ok (.aload_n 1, 1) := by decide +kernel
theorem dX5_askTest_39 : decode cX5_askTest 39 = .ok (.aload_n 0, 1) := by decide +kernel
theorem dX5_askTest_40 : decode cX5_askTest 40 = .ok (.getfield 40, 3) := by decide +kernel
theorem dX5_askTest_43 : decode cX5_askTest 43 = .ok (.iload 4, 2) := by decide +kernel
theorem dX5_askTest_45 : decode cX5_askTest 45 = .ok (.invokevirtual 111, 3) := by decide +kernel
theorem dX5_askTest_48 : decode cX5_askTest 48 = .ok (.invokevirtual 195, 3) := by decide +kernel
theorem dX5_askTest_51 : decode cX5_askTest 51 = .ok (.ifCond .eq 6, 3) := by decide +kernel
theorem dX5_askTest_54 : decode cX5_askTest 54 = .ok (.iload 4, 2) := by decide +kernel
theorem dX5_askTest_56 : decode cX5_askTest 56 = .ok (.ireturn, 1) := by decide +kernel
theorem dX5_askTest_57 : decode cX5_askTest 57 = .ok (.iinc 3 1, 3) := by decide +kernel
theorem dX5_askTest_60 : decode cX5_askTest 60 = .ok (.goto (-58), 3) := by decide +kernel
theorem dX5_askTest_63 : decode cX5_askTest 63 = .ok (.iconst (-1), 1) := by decide +kernel
theorem dX5_askTest_64 : decode cX5_askTest 64 = .ok (.ireturn, 1) := by decide +kernel
theorem dX5_askTake_0 : decode cX5_askTake 0 = .ok (.aload_n 0, 1) := by decide +kernel
theorem dX5_askTake_1 : decode cX5_askTake 1 = .ok (.getfield 9, 3) := by decide +kernel
theorem dX5_askTake_4 : decode cX5_askTake 4 = .ok (.iload_n 2, 1) := by decide +kernel
theorem dX5_askTake_5 : decode cX5_askTake 5 = .ok (.iaload, 1) := by decide +kernel
theorem dX5_askTake_6 : decode cX5_askTake 6 = .ok (.i2l, 1) := by decide +kernel
theorem dX5_askTake_7 : decode cX5_askTake 7 = .ok (.aload_n 1, 1) := by decide +kernel
theorem dX5_askTake_8 : decode cX5_askTake 8 = .ok (.getfield 199, 3) := by decide +kernel
theorem dX5_askTake_11 : decode cX5_askTake 11 = .ok (.iconst 0, 1) := by decide +kernel
theorem dX5_askTake_12 : decode cX5_askTake 12 = .ok (.laload, 1) := by decide +kernel
theorem dX5_askTake_13 : decode cX5_askTake 13 = .ok (.lcmp, 1) := by decide +kernel
theorem dX5_askTake_14 : decode cX5_askTake 14 = .ok (.ifCond .lt 5, 3) := by decide +kernel
theorem dX5_askTake_17 : decode cX5_askTake 17 = .ok (.iconst (-1), 1) := by decide +kernel
theorem dX5_askTake_18 : decode cX5_askTake 18 = .ok (.ireturn, 1) := by decide +kernel
theorem dX5_askTake_19 : decode cX5_askTake 19 = .ok (.aload_n 0, 1) := by decide +kernel
theorem dX5_askTake_20 : decode cX5_askTake 20 = .ok (.getfield 9, 3) := by decide +kernel
theorem dX5_askTake_23 : decode cX5_askTake 23 = .ok (.iload_n 2, 1) := by decide +kernel
theorem dX5_askTake_24 : decode cX5_askTake 24 = .ok (.dup2, 1) := by decide +kernel
theorem dX5_askTake_25 : decode cX5_askTake 25 = .ok (.iaload, 1) := by decide +kernel
theorem dX5_askTake_26 : decode cX5_askTake 26 = .ok (.iconst 1, 1) := by decide +kernel
theorem dX5_askTake_27 : decode cX5_askTake 27 = .ok (.iadd, 1) := by decide +kernel
theorem dX5_askTake_28 : decode cX5_askTake 28 = .ok (.iastore, 1) := by decide +kernel
theorem dX5_askTake_29 : decode cX5_askTake 29 = .ok (.aload_n 0, 1) := by decide +kernel
theorem dX5_askTake_30 : decode cX5_askTake 30 = .ok (.iload_n 2, 1) := by decide +kernel
theorem dX5_askTake_31 : decode cX5_askTake 31 = .ok (.iconst 1, 1) := by decide +kernel
theorem dX5_askTake_32 : decode cX5_askTake 32 = .ok (.isub, 1) := by decide +kernel
theorem dX5_askTake_33 : decode cX5_askTake 33 = .ok (.invokevirtual 58, 3) := by decide +kernel
theorem dX5_askTake_36 : decode cX5_askTake 36 = .ok (.ireturn, 1) := by decide +kernel
theorem dX5_askSkip_0 : decode cX5_askSkip 0 = .ok (.aload_n 0, 1) := by decide +kernel
theorem dX5_askSkip_1 : decode cX5_askSkip 1 = .ok (.getfield 15, 3) := by decide +kernel
theorem dX5_askSkip_4 : decode cX5_askSkip 4 = .ok (.iload_n 2, 1) := by decide +kernel
theorem dX5_askSkip_5 : decode cX5_askSkip 5 = .ok (.baload, 1) := by decide +kernel
theorem dX5_askSkip_6 : decode cX5_askSkip 6 = .ok (.ifCond .ne 50, 3) := by decide +kernel
theorem dX5_askSkip_9 : decode cX5_askSkip 9 = .ok (.aload_n 0, 1) := by decide +kernel
theorem dX5_askSkip_10 : decode cX5_askSkip 10 = .ok (.getfield 15, 3) := by decide +kernel
theorem dX5_askSkip_13 : decode cX5_askSkip 13 = .ok (.iload_n 2, 1) := by decide +kernel
theorem dX5_askSkip_14 : decode cX5_askSkip 14 = .ok (.iconst 1, 1) := by decide +kernel
theorem dX5_askSkip_15 : decode cX5_askSkip 15 = .ok (.bastore, 1) := by decide +kernel
theorem dX5_askSkip_16 : decode cX5_askSkip 16 = .ok (.iconst 0, 1) := by decide +kernel
theorem dX5_askSkip_17 : decode cX5_askSkip 17 = .ok (.istore_n 3, 1) := by decide +kernel
theorem dX5_askSkip_18 : decode cX5_askSkip 18 = .ok (.iload_n 3, 1) := by decide +kernel
theorem dX5_askSkip_19 : decode cX5_askSkip 19 = .ok (.i2l, 1) := by decide +kernel
theorem dX5_askSkip_20 : decode cX5_askSkip 20 = .ok (.aload_n 1, 1) := by decide +kernel
theorem dX5_askSkip_21 : decode cX5_askSkip 21 = .ok (.getfield 199, 3) := by decide +kernel
theorem dX5_askSkip_24 : decode cX5_askSkip 24 = .ok (.iconst 0, 1) := by decide +kernel
theorem dX5_askSkip_25 : decode cX5_askSkip 25 = .ok (.laload, 1) := by decide +kernel
theorem dX5_askSkip_26 : decode cX5_askSkip 26 = .ok (.lcmp, 1) := by decide +kernel
theorem dX5_askSkip_27 : decode cX5_askSkip 27 = .ok (.ifCond .ge 29, 3) := by decide +kernel
theorem dX5_askSkip_30 : decode cX5_askSkip 30 = .ok (.iload_n 3, 1) := by decide +kernel
theorem dX5_askSkip_31 : decode cX5_askSkip 31 = .ok (.sipush 400, 3) := by decide +kernel
theorem dX5_askSkip_34 : decode cX5_askSkip 34 = .ok (.if_icmp .gt 22, 3) := by decide +kernel
theorem dX5_askSkip_37 : decode cX5_askSkip 37 = .ok (.aload_n 0, 1) := by decide +kernel
theorem dX5_askSkip_38 : decode cX5_askSkip 38 = .ok (.iload_n 2, 1) := by decide +kernel
theorem dX5_askSkip_39 : decode cX5_askSkip 39 = .ok (.iconst 1, 1) := by decide +kernel
theorem dX5_askSkip_40 : decode cX5_askSkip 40 = .ok (.isub, 1) := by decide +kernel
theorem dX5_askSkip_41 : decode cX5_askSkip 41 = .ok (.invokevirtual 58, 3) := by decide +kernel
theorem dX5_askSkip_44 : decode cX5_askSkip 44 = .ok (.iconst (-1), 1) := by decide +kernel
theorem dX5_askSkip_45 : decode cX5_askSkip 45 = .ok (.if_icmp .ne 5, 3) := by decide +kernel
theorem dX5_askSkip_48 : decode cX5_askSkip 48 = .ok (.iconst (-1), 1) := by decide +kernel
theorem dX5_askSkip_49 : decode cX5_askSkip 49 = .ok (.ireturn, 1) := by decide +kernel
theorem dX5_askSkip_50 : decode cX5_askSkip 50 = .ok (.iinc 3 1, 3) := by decide +kernel
theorem dX5_askSkip_53 : decode cX5_askSkip 53 = .ok (.goto (-35), 3) := by decide +kernel
theorem dX5_askSkip_56 : decode cX5_askSkip 56 = .ok (.aload_n 0, 1) := by decide +kernel
theorem dX5_askSkip_57 : decode cX5_askSkip 57 = .ok (.iload_n 2, 1) := by decide +kernel
theorem dX5_askSkip_58 : decode cX5_askSkip 58 = .ok (.iconst 1, 1) := by decide +kernel
theorem dX5_askSkip_59 : decode cX5_askSkip 59 = .ok (.isub, 1) := by decide +kernel
theorem dX5_askSkip_60 : decode cX5_askSkip 60 = .ok (.invokevirtual 58, 3) := by decide +kernel
theorem dX5_askSkip_63 : decode cX5_askSkip 63 = .ok (.ireturn, 1) := by decide +kernel
theorem dX5_askWhile_0 : decode cX5_askWhile 0 = .ok (.aload_n 0, 1) := by decide +kernel
theorem dX5_askWhile_1 : decode cX5_askWhile 1 = .ok (.iload_n 2, 1) := by decide +kernel
theorem dX5_askWhile_2 : decode cX5_askWhile 2 = .ok (.iconst 1, 1) := by decide +kernel
theorem dX5_askWhile_3 : decode cX5_askWhile 3 = .ok (.isub, 1) := by decide +kernel
theorem dX5_askWhile_4 : decode cX5_askWhile 4 = .ok (.invokevirtual 58, 3) := by decide +kernel
theorem dX5_askWhile_7 : decode cX5_askWhile 7 = .ok (.istore_n 3, 1) := by decide +kernel
theorem dX5_askWhile_8 : decode cX5_askWhile 8 = .ok (.iload_n 3, 1) := by decide +kernel
theorem dX5_askWhile_9 : decode cX5_askWhile 9 = .ok (.iconst (-1), 1) := by decide +kernel
theorem dX5_askWhile_10 : decode cX5_askWhile 10 = .ok (.if_icmp .eq 14, 3) := by decide +kernel
theorem dX5_askWhile_13 : decode cX5_askWhile 13 = .ok (.aload_n 0, 1) := by decide +kernel
theorem dX5_askWhile_14 : decode cX5_askWhile 14 = .ok (.getfield 40, 3) := by decide +kernel
theorem dX5_askWhile_17 : decode cX5_askWhile 17 = .ok (.iload_n 3, 1) := by decide +kernel
theorem dX5_askWhile_18 : decode cX5_askWhile 18 = .ok (.invokevirtual 107, 3) := by decide +kernel
theorem dX5_askWhile_21 : decode cX5_askWhile 21 = .ok (.ifCond .ne 5, 3) := by decide +kernel
theorem dX5_askWhile_24 : decode cX5_askWhile 24 = .ok (.iconst (-1), 1) := by decide +kernel
theorem dX5_askWhile_25 : decode cX5_askWhile 25 = .ok (.ireturn, 1) := by decide +kernel
theorem dX5_askWhile_26 : decode cX5_askWhile 26 = .ok (.aload_n 0, 1) := by decide +kernel
theorem dX5_askWhile_27 : decode cX5_askWhile 27 = .ok (.getfield 40, 3) := by decide +kernel
theorem dX5_askWhile_30 : decode cX5_askWhile 30 = .ok (.iload_n 3, 1) := by decide +kernel
theorem dX5_askWhile_31 : decode cX5_askWhile 31 = .ok (.invokevirtual 111, 3) := by decide +kernel
theorem dX5_askWhile_34 : decode cX5_askWhile 34 = .ok (.aload_n 1, 1) := by decide +kernel
theorem dX5_askWhile_35 : decode cX5_askWhile 35 = .ok (.getfield 199, 3) := by decide +kernel
theorem dX5_askWhile_38 : decode cX5_askWhile 38 = .ok (.iconst 0, 1) := by decide +kernel
theorem dX5_askWhile_39 : decode cX5_askWhile 39 = .ok (.laload, 1) := by decide +kernel
theorem dX5_askWhile_40 : decode cX5_askWhile 40 = .ok (.lcmp, 1) := by decide +kernel
theorem dX5_askWhile_41 : decode cX5_askWhile 41 = .ok (.ifCond .ge 7, 3) := by decide +kernel
theorem dX5_askWhile_44 : decode cX5_askWhile 44 = .ok (.iload_n 3, 1) := by decide +kernel
theorem dX5_askWhile_45 : decode cX5_askWhile 45 = .ok (.goto 4, 3) := by decide +kernel
theorem dX5_askWhile_48 : decode cX5_askWhile 48 = .ok (.iconst (-1), 1) := by decide +kernel
theorem dX5_askWhile_49 : decode cX5_askWhile 49 = .ok (.ireturn, 1) := by decide +kernel
theorem dX5_askSums_0 : decode cX5_askSums 0 = .ok (.aload_n 0, 1) := by decide +kernel
theorem dX5_askSums_1 : decode cX5_askSums 1 = .ok (.iload_n 1, 1) := by decide +kernel
theorem dX5_askSums_2 : decode cX5_askSums 2 = .ok (.iconst 1, 1) := by decide +kernel
theorem dX5_askSums_3 : decode cX5_askSums 3 = .ok (.isub, 1) := by decide +kernel
theorem dX5_askSums_4 : decode cX5_askSums 4 = .ok (.invokevirtual 58, 3) := by decide +kernel
theorem dX5_askSums_7 : decode cX5_askSums 7 = .ok (.istore_n 2, 1) := by decide +kernel
theorem dX5_askSums_8 : decode cX5_askSums 8 = .ok (.iload_n 2, 1) := by decide +kernel
theorem dX5_askSums_9 : decode cX5_askSums 9 = .ok (.iconst (-1), 1) := by decide +kernel
theorem dX5_askSums_10 : decode cX5_askSums 10 = .ok (.if_icmp .ne 5, 3) := by decide +kernel
theorem dX5_askSums_13 : decode cX5_askSums 13 = .ok (.iconst (-1), 1) := by decide +kernel
theorem dX5_askSums_14 : decode cX5_askSums 14 = .ok (.ireturn, 1) := by decide +kernel
theorem dX5_askSums_15 : decode cX5_askSums 15 = .ok (.aload_n 0, 1) := by decide +kernel
theorem dX5_askSums_16 : decode cX5_askSums 16 = .ok (.getfield 19, 3) := by decide +kernel
theorem dX5_askSums_19 : decode cX5_askSums 19 = .ok (.iload_n 1, 1) := by decide +kernel
theorem dX5_askSums_20 : decode cX5_askSums 20 = .ok (.aload_n 0, 1) := by decide +kernel
theorem dX5_askSums_21 : decode cX5_askSums 21 = .ok (.getfield 40, 3) := by decide +kernel
theorem dX5_askSums_24 : decode cX5_askSums 24 = .ok (.aload_n 0, 1) := by decide +kernel
theorem dX5_askSums_25 : decode cX5_askSums 25 = .ok (.getfield 19, 3) := by decide +kernel
theorem dX5_askSums_28 : decode cX5_askSums 28 = .ok (.iload_n 1, 1) := by decide +kernel
theorem dX5_askSums_29 : decode cX5_askSums 29 = .ok (.iaload, 1) := by decide +kernel
theorem dX5_askSums_30 : decode cX5_askSums 30 = .ok (.iload_n 2, 1) := by decide +kernel
theorem dX5_askSums_31 : decode cX5_askSums 31 = .ok (.invokevirtual 202, 3) := by decide +kernel
theorem dX5_askSums_34 : decode cX5_askSums 34 = .ok (.iastore, 1) := by decide +kernel
theorem dX5_askSums_35 : decode cX5_askSums 35 = .ok (.aload_n 0, 1) := by decide +kernel
theorem dX5_askSums_36 : decode cX5_askSums 36 = .ok (.getfield 19, 3) := by decide +kernel
theorem dX5_askSums_39 : decode cX5_askSums 39 = .ok (.iload_n 1, 1) := by decide +kernel
theorem dX5_askSums_40 : decode cX5_askSums 40 = .ok (.iaload, 1) := by decide +kernel
theorem dX5_askSums_41 : decode cX5_askSums 41 = .ok (.ireturn, 1) := by decide +kernel
theorem dX5_askTurn_0 : decode cX5_askTurn 0 = .ok (.aload_n 0, 1) := by decide +kernel
theorem dX5_askTurn_1 : decode cX5_askTurn 1 = .ok (.getfield 15, 3) := by decide +kernel
theorem dX5_askTurn_4 : decode cX5_askTurn 4 = .ok (.iload_n 1, 1) := by decide +kernel
theorem dX5_askTurn_5 : decode cX5_askTurn 5 = .ok (.baload, 1) := by decide +kernel
theorem dX5_askTurn_6 : decode cX5_askTurn 6 = .ok (.ifCond .ne 15, 3) := by decide +kernel
theorem dX5_askTurn_9 : decode cX5_askTurn 9 = .ok (.aload_n 0, 1) := by decide +kernel
theorem dX5_askTurn_10 : decode cX5_askTurn 10 = .ok (.getfield 15, 3) := by decide +kernel
theorem dX5_askTurn_13 : decode cX5_askTurn 13 = .ok (.iload_n 1, 1) := by decide +kernel
theorem dX5_askTurn_14 : decode cX5_askTurn 14 = .ok (.iconst 1, 1) := by decide +kernel
theorem dX5_askTurn_15 : decode cX5_askTurn 15 = .ok (.bastore, 1) := by decide +kernel
theorem dX5_askTurn_16 : decode cX5_askTurn 16 = .ok (.aload_n 0, 1) := by decide +kernel
theorem dX5_askTurn_17 : decode cX5_askTurn 17 = .ok (.iload_n 1, 1) := by decide +kernel
theorem dX5_askTurn_18 : decode cX5_askTurn 18 = .ok (.invokevirtual 205, 3) := by decide +kernel
theorem dX5_askTurn_21 : decode cX5_askTurn 21 = .ok (.aload_n 0, 1) := by decide +kernel
theorem dX5_askTurn_22 : decode cX5_askTurn 22 = .ok (.getfield 22, 3) := by decide +kernel
theorem dX5_askTurn_25 : decode cX5_askTurn 25 = .ok (.iload_n 1, 1) := by decide +kernel
theorem dX5_askTurn_26 : decode cX5_askTurn 26 = .ok (.iaload, 1) := by decide +kernel
theorem dX5_askTurn_27 : decode cX5_askTurn 27 = .ok (.istore_n 2, 1) := by decide +kernel
theorem dX5_askTurn_28 : decode cX5_askTurn 28 = .ok (.aload_n 0, 1) := by decide +kernel
theorem dX5_askTurn_29 : decode cX5_askTurn 29 = .ok (.invokevirtual 117, 3) := by decide +kernel
theorem dX5_askTurn_32 : decode cX5_askTurn 32 = .ok (.ifCond .ne 15, 3) := by decide +kernel
theorem dX5_askTurn_35 : decode cX5_askTurn 35 = .ok (.iload_n 2, 1) := by decide +kernel
theorem dX5_askTurn_36 : decode cX5_askTurn 36 = .ok (.ifCond .lt 11, 3) := by decide +kernel
theorem dX5_askTurn_39 : decode cX5_askTurn 39 = .ok (.iload_n 2, 1) := by decide +kernel
theorem dX5_askTurn_40 : decode cX5_askTurn 40 = .ok (.aload_n 0, 1) := by decide +kernel
theorem dX5_askTurn_41 : decode cX5_askTurn 41 = .ok (.getfield 85, 3) := by decide +kernel
theorem dX5_askTurn_44 : decode cX5_askTurn 44 = .ok (.if_icmp .lt 5, 3) := by decide +kernel
theorem dX5_askTurn_47 : decode cX5_askTurn 47 = .ok (.iconst (-1), 1) := by decide +kernel
theorem dX5_askTurn_48 : decode cX5_askTurn 48 = .ok (.ireturn, 1) := by decide +kernel
theorem dX5_askTurn_49 : decode cX5_askTurn 49 = .ok (.aload_n 0, 1) := by decide +kernel
theorem dX5_askTurn_50 : decode cX5_askTurn 50 = .ok (.getfield 22, 3) := by decide +kernel
theorem dX5_askTurn_53 : decode cX5_askTurn 53 = .ok (.iload_n 1, 1) := by decide +kernel
theorem dX5_askTurn_54 : decode cX5_askTurn 54 = .ok (.aload_n 0, 1) := by decide +kernel
theorem dX5_askTurn_55 : decode cX5_askTurn 55 = .ok (.getfield 28, 3) := by decide +kernel
theorem dX5_askTurn_58 : decode cX5_askTurn 58 = .ok (.iload_n 2, 1) := by decide +kernel
theorem dX5_askTurn_59 : decode cX5_askTurn 59 = .ok (.iaload, 1) := by decide +kernel
theorem dX5_askTurn_60 : decode cX5_askTurn 60 = .ok (.iastore, 1) := by decide +kernel
theorem dX5_askTurn_61 : decode cX5_askTurn 61 = .ok (.aload_n 0, 1) := by decide +kernel
theorem dX5_askTurn_62 : decode cX5_askTurn 62 = .ok (.getfield 25, 3) := by decide +kernel
theorem dX5_askTurn_65 : decode cX5_askTurn 65 = .ok (.iload_n 2, 1) := by decide +kernel
theorem dX5_askTurn_66 : decode cX5_askTurn 66 = .ok (.iaload, 1) := by decide +kernel
theorem dX5_askTurn_67 : decode cX5_askTurn 67 = .ok (.ireturn, 1) := by decide +kernel
theorem dX5_pileUp_0 : decode cX5_pileUp 0 = .ok (.iconst 0, 1) := by decide +kernel
theorem dX5_pileUp_1 : decode cX5_pileUp 1 = .ok (.istore_n 2, 1) := by decide +kernel
theorem dX5_pileUp_2 : decode cX5_pileUp 2 = .ok (.iload_n 2, 1) := by decide +kernel
theorem dX5_pileUp_3 : decode cX5_pileUp 3 = .ok (.sipush 400, 3) := by decide +kernel
theorem dX5_pileUp_6 : decode cX5_pileUp 6 = .ok (.if_icmp .gt 88, 3) := by decide +kernel
theorem dX5_pileUp_9 : decode cX5_pileUp 9 = .ok (.aload_n 0, 1) := by decide +kernel
theorem dX5_pileUp_10 : decode cX5_pileUp 10 = .ok (.getfield 85, 3) := by decide +kernel
theorem dX5_pileUp_13 : decode cX5_pileUp 13 = .ok (.sipush 400, 3) := by decide +kernel
theorem dX5_pileUp_16 : decode cX5_pileUp 16 = .ok (.if_icmp .ge 78, 3) := by decide +kernel
theorem dX5_pileUp_19 : decode cX5_pileUp 19 = .ok (.aload_n 0, 1) := by decide +kernel
theorem dX5_pileUp_20 : decode cX5_pileUp 20 = .ok (.iload_n 1, 1) := by decide +kernel
theorem dX5_pileUp_21 : decode cX5_pileUp 21 = .ok (.iconst 1, 1) := by decide +kernel
theorem dX5_pileUp_22 : decode cX5_pileUp 22 = .ok (.isub, 1) := by decide +kernel
theorem dX5_pileUp_23 : decode cX5_pileUp 23 = .ok (.invokevirtual 58, 3) := by decide +kernel
theorem dX5_pileUp_26 : decode cX5_pileUp 26 = .ok (.istore_n 3, 1) := by decide +kernel
theorem dX5_pileUp_27 : decode cX5_pileUp 27 = .ok (.iload_n 3, 1) := by decide +kernel
theorem dX5_pileUp_28 : decode cX5_pileUp 28 = .ok (.iconst (-1), 1) := by decide +kernel
theorem dX5_pileUp_29 : decode cX5_pileUp 29 = .ok (.if_icmp .ne 4, 3) := by decide +kernel
theorem dX5_pileUp_32 : decode cX5_pileUp 32 = .ok (.return_, 1) := by decide +kernel
theorem dX5_pileUp_33 : decode cX5_pileUp 33 = .ok (.aload_n 0, 1) := by decide +kernel
theorem dX5_pileUp_34 : decode cX5_pileUp 34 = .ok (.dup, 1) := by decide +kernel
theorem dX5_pileUp_35 : decode cX5_pileUp 35 = .ok (.getfield 75, 3) := by decide +kernel
theorem dX5_pileUp_38 : decode cX5_pileUp 38 = .ok (.iconst 1, 1) := by decide +kernel
theorem dX5_pileUp_39 : decode cX5_pileUp 39 = .ok (.iadd, 1) := by decide +kernel
theorem dX5_pileUp_40 : decode cX5_pileUp 40 = .ok (.putfield 75, 3) := by decide +kernel
theorem dX5_pileUp_43 : decode cX5_pileUp 43 = .ok (.aload_n 0, 1) := by decide +kernel
theorem dX5_pileUp_44 : decode cX5_pileUp 44 = .ok (.getfield 25, 3) := by decide +kernel
theorem dX5_pileUp_47 : decode cX5_pileUp 47 = .ok (.aload_n 0, 1) := by decide +kernel
theorem dX5_pileUp_48 : decode cX5_pileUp 48 = .ok (.getfield 85, 3) := by decide +kernel
theorem dX5_pileUp_51 : decode cX5_pileUp 51 = .ok (.iload_n 3, 1) := by decide +kernel
theorem dX5_pileUp_52 : decode cX5_pileUp 52 = .ok (.iastore, 1) := by decide +kernel
theorem dX5_pileUp_53 : decode cX5_pileUp 53 = .ok (.aload_n 0, 1) := by decide +kernel
theorem dX5_pileUp_54 : decode cX5_pileUp 54 = .ok (.getfield 28, 3) := by decide +kernel
theorem dX5_pileUp_57 : decode cX5_pileUp 57 = .ok (.aload_n 0, 1) := by decide +kernel
theorem dX5_pileUp_58 : decode cX5_pileUp 58 = .ok (.getfield 85, 3) := by decide +kernel
theorem dX5_pileUp_61 : decode cX5_pileUp 61 = .ok (.aload_n 0, 1) := by decide +kernel
theorem dX5_pileUp_62 : decode cX5_pileUp 62 = .ok (.getfield 22, 3) := by decide +kernel
theorem dX5_pileUp_65 : decode cX5_pileUp 65 = .ok (.iload_n 1, 1) := by decide +kernel
theorem dX5_pileUp_66 : decode cX5_pileUp 66 = .ok (.iaload, 1) := by decide +kernel
theorem dX5_pileUp_67 : decode cX5_pileUp 67 = .ok (.iastore, 1) := by decide +kernel
theorem dX5_pileUp_68 : decode cX5_pileUp 68 = .ok (.aload_n 0, 1) := by decide +kernel
theorem dX5_pileUp_69 : decode cX5_pileUp 69 = .ok (.getfield 22, 3) := by decide +kernel
theorem dX5_pileUp_72 : decode cX5_pileUp 72 = .ok (.iload_n 1, 1) := by decide +kernel
theorem dX5_pileUp_73 : decode cX5_pileUp 73 = .ok (.aload_n 0, 1) := by decide +kernel
theorem dX5_pileUp_74 : decode cX5_pileUp 74 = .ok (.getfield 85, 3) := by decide +kernel
theorem dX5_pileUp_77 : decode cX5_pileUp 77 = .ok (.iastore, 1) := by decide +kernel
