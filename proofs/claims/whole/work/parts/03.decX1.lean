theorem dX1_init_0 : decode cX1_init 0 = .ok (.aload_n 0, 1) := by decide +kernel
theorem dX1_init_1 : decode cX1_init 1 = .ok (.invokespecial 3, 3) := by decide +kernel
theorem dX1_init_4 : decode cX1_init 4 = .ok (.aload_n 0, 1) := by decide +kernel
theorem dX1_init_5 : decode cX1_init 5 = .ok (.sipush 400, 3) := by decide +kernel
theorem dX1_init_8 : decode cX1_init 8 = .ok (.newarray .int, 2) := by decide +kernel
theorem dX1_init_10 : decode cX1_init 10 = .ok (.putfield 9, 3) := by decide +kernel
theorem dX1_init_13 : decode cX1_init 13 = .ok (.aload_n 0, 1) := by decide +kernel
theorem dX1_init_14 : decode cX1_init 14 = .ok (.sipush 400, 3) := by decide +kernel
theorem dX1_init_17 : decode cX1_init 17 = .ok (.newarray .long, 2) := by decide +kernel
theorem dX1_init_19 : decode cX1_init 19 = .ok (.putfield 15, 3) := by decide +kernel
theorem dX1_init_22 : decode cX1_init 22 = .ok (.aload_n 0, 1) := by decide +kernel
theorem dX1_init_23 : decode cX1_init 23 = .ok (.sipush 400, 3) := by decide +kernel
theorem dX1_init_26 : decode cX1_init 26 = .ok (.anewarray 19, 3) := by decide +kernel
theorem dX1_init_29 : decode cX1_init 29 = .ok (.putfield 21, 3) := by decide +kernel
theorem dX1_init_32 : decode cX1_init 32 = .ok (.aload_n 0, 1) := by decide +kernel
theorem dX1_init_33 : decode cX1_init 33 = .ok (.sipush 400, 3) := by decide +kernel
theorem dX1_init_36 : decode cX1_init 36 = .ok (.newarray .int, 2) := by decide +kernel
theorem dX1_init_38 : decode cX1_init 38 = .ok (.putfield 25, 3) := by decide +kernel
theorem dX1_init_41 : decode cX1_init 41 = .ok (.aload_n 0, 1) := by decide +kernel
theorem dX1_init_42 : decode cX1_init 42 = .ok (.sipush 400, 3) := by decide +kernel
theorem dX1_init_45 : decode cX1_init 45 = .ok (.newarray .int, 2) := by decide +kernel
theorem dX1_init_47 : decode cX1_init 47 = .ok (.putfield 28, 3) := by decide +kernel
theorem dX1_init_50 : decode cX1_init 50 = .ok (.aload_n 0, 1) := by decide +kernel
theorem dX1_init_51 : decode cX1_init 51 = .ok (.sipush 400, 3) := by decide +kernel
theorem dX1_init_54 : decode cX1_init 54 = .ok (.newarray .int, 2) := by decide +kernel
theorem dX1_init_56 : decode cX1_init 56 = .ok (.putfield 31, 3) := by decide +kernel
theorem dX1_init_59 : decode cX1_init 59 = .ok (.aload_n 0, 1) := by decide +kernel
theorem dX1_init_60 : decode cX1_init 60 = .ok (.aload_n 1, 1) := by decide +kernel
theorem dX1_init_61 : decode cX1_init 61 = .ok (.putfield 34, 3) := by decide +kernel
theorem dX1_init_64 : decode cX1_init 64 = .ok (.return_, 1) := by decide +kernel
theorem dX1_clear_0 : decode cX1_clear 0 = .ok (.aload_n 0, 1) := by decide +kernel
theorem dX1_clear_1 : decode cX1_clear 1 = .ok (.iconst 0, 1) := by decide +kernel
theorem dX1_clear_2 : decode cX1_clear 2 = .ok (.putfield 38, 3) := by decide +kernel
theorem dX1_clear_5 : decode cX1_clear 5 = .ok (.aload_n 0, 1) := by decide +kernel
theorem dX1_clear_6 : decode cX1_clear 6 = .ok (.iconst 0, 1) := by decide +kernel
theorem dX1_clear_7 : decode cX1_clear 7 = .ok (.putfield 42, 3) := by decide +kernel
theorem dX1_clear_10 : decode cX1_clear 10 = .ok (.aload_n 0, 1) := by decide +kernel
theorem dX1_clear_11 : decode cX1_clear 11 = .ok (.iconst 0, 1) := by decide +kernel
theorem dX1_clear_12 : decode cX1_clear 12 = .ok (.putfield 45, 3) := by decide +kernel
theorem dX1_clear_15 : decode cX1_clear 15 = .ok (.return_, 1) := by decide +kernel
theorem dX1_addWorked_0 : decode cX1_addWorked 0 = .ok (.aload_n 0, 1) := by decide +kernel
theorem dX1_addWorked_1 : decode cX1_addWorked 1 = .ok (.getfield 38, 3) := by decide +kernel
theorem dX1_addWorked_4 : decode cX1_addWorked 4 = .ok (.sipush 400, 3) := by decide +kernel
theorem dX1_addWorked_7 : decode cX1_addWorked 7 = .ok (.if_icmp .lt 5, 3) := by decide +kernel
theorem dX1_addWorked_10 : decode cX1_addWorked 10 = .ok (.iconst (-1), 1) := by decide +kernel
theorem dX1_addWorked_11 : decode cX1_addWorked 11 = .ok (.ireturn, 1) := by decide +kernel
theorem dX1_addWorked_12 : decode cX1_addWorked 12 = .ok (.aload_n 0, 1) := by decide +kernel
theorem dX1_addWorked_13 : decode cX1_addWorked 13 = .ok (.getfield 15, 3) := by decide +kernel
theorem dX1_addWorked_16 : decode cX1_addWorked 16 = .ok (.aload_n 0, 1) := by decide +kernel
theorem dX1_addWorked_17 : decode cX1_addWorked 17 = .ok (.getfield 38, 3) := by decide +kernel
theorem dX1_addWorked_20 : decode cX1_addWorked 20 = .ok (.lload_n 1, 1) := by decide +kernel
theorem dX1_addWorked_21 : decode cX1_addWorked 21 = .ok (.lastore, 1) := by decide +kernel
theorem dX1_addWorked_22 : decode cX1_addWorked 22 = .ok (.aload_n 0, 1) := by decide +kernel
theorem dX1_addWorked_23 : decode cX1_addWorked 23 = .ok (.iconst 0, 1) := by decide +kernel
theorem dX1_addWorked_24 : decode cX1_addWorked 24 = .ok (.aconst_null, 1) := by decide +kernel
theorem dX1_addWorked_25 : decode cX1_addWorked 25 = .ok (.iconst (-1), 1) := by decide +kernel
theorem dX1_addWorked_26 : decode cX1_addWorked 26 = .ok (.iconst (-1), 1) := by decide +kernel
theorem dX1_addWorked_27 : decode cX1_addWorked 27 = .ok (.invokevirtual 48, 3) := by decide +kernel
theorem dX1_addWorked_30 : decode cX1_addWorked 30 = .ok (.ireturn, 1) := by decide +kernel
theorem dX1_addMapped_0 : decode cX1_addMapped 0 = .ok (.aload_n 0, 1) := by decide +kernel
theorem dX1_addMapped_1 : decode cX1_addMapped 1 = .ok (.iconst 1, 1) := by decide +kernel
theorem dX1_addMapped_2 : decode cX1_addMapped 2 = .ok (.aload_n 1, 1) := by decide +kernel
theorem dX1_addMapped_3 : decode cX1_addMapped 3 = .ok (.iload_n 2, 1) := by decide +kernel
theorem dX1_addMapped_4 : decode cX1_addMapped 4 = .ok (.iconst (-1), 1) := by decide +kernel
theorem dX1_addMapped_5 : decode cX1_addMapped 5 = .ok (.invokevirtual 48, 3) := by decide +kernel
theorem dX1_addMapped_8 : decode cX1_addMapped 8 = .ok (.ireturn, 1) := by decide +kernel
theorem dX1_addSummed_0 : decode cX1_addSummed 0 = .ok (.aload_n 0, 1) := by decide +kernel
theorem dX1_addSummed_1 : decode cX1_addSummed 1 = .ok (.iconst 2, 1) := by decide +kernel
theorem dX1_addSummed_2 : decode cX1_addSummed 2 = .ok (.aconst_null, 1) := by decide +kernel
theorem dX1_addSummed_3 : decode cX1_addSummed 3 = .ok (.iload_n 2, 1) := by decide +kernel
theorem dX1_addSummed_4 : decode cX1_addSummed 4 = .ok (.iload_n 1, 1) := by decide +kernel
theorem dX1_addSummed_5 : decode cX1_addSummed 5 = .ok (.invokevirtual 48, 3) := by decide +kernel
theorem dX1_addSummed_8 : decode cX1_addSummed 8 = .ok (.ireturn, 1) := by decide +kernel
theorem dX1_valueOf_0 : decode cX1_valueOf 0 = .ok (.iload_n 1, 1) := by decide +kernel
theorem dX1_valueOf_1 : decode cX1_valueOf 1 = .ok (.ifCond .lt 20, 3) := by decide +kernel
theorem dX1_valueOf_4 : decode cX1_valueOf 4 = .ok (.iload_n 1, 1) := by decide +kernel
theorem dX1_valueOf_5 : decode cX1_valueOf 5 = .ok (.aload_n 0, 1) := by decide +kernel
theorem dX1_valueOf_6 : decode cX1_valueOf 6 = .ok (.getfield 38, 3) := by decide +kernel
theorem dX1_valueOf_9 : decode cX1_valueOf 9 = .ok (.if_icmp .ge 12, 3) := by decide +kernel
theorem dX1_valueOf_12 : decode cX1_valueOf 12 = .ok (.aload_n 0, 1) := by decide +kernel
theorem dX1_valueOf_13 : decode cX1_valueOf 13 = .ok (.getfield 15, 3) := by decide +kernel
theorem dX1_valueOf_16 : decode cX1_valueOf 16 = .ok (.iload_n 1, 1) := by decide +kernel
theorem dX1_valueOf_17 : decode cX1_valueOf 17 = .ok (.laload, 1) := by decide +kernel
theorem dX1_valueOf_18 : decode cX1_valueOf 18 = .ok (.goto 4, 3) := by decide +kernel
theorem dX1_valueOf_21 : decode cX1_valueOf 21 = .ok (.lconst 0, 1) := by decide +kernel
theorem dX1_valueOf_22 : decode cX1_valueOf 22 = .ok (.lreturn, 1) := by decide +kernel
theorem dX1_work_0 : decode cX1_work 0 = .ok (.aload_n 0, 1) := by decide +kernel
theorem dX1_work_1 : decode cX1_work 1 = .ok (.iload_n 1, 1) := by decide +kernel
theorem dX1_work_2 : decode cX1_work 2 = .ok (.invokevirtual 52, 3) := by decide +kernel
theorem dX1_work_5 : decode cX1_work 5 = .ok (.ifCond .ne 16, 3) := by decide +kernel
theorem dX1_work_8 : decode cX1_work 8 = .ok (.aload_n 0, 1) := by decide +kernel
theorem dX1_work_9 : decode cX1_work 9 = .ok (.getfield 45, 3) := by decide +kernel
theorem dX1_work_12 : decode cX1_work 12 = .ok (.ifCond .ne 7, 3) := by decide +kernel
theorem dX1_work_15 : decode cX1_work 15 = .ok (.iconst 1, 1) := by decide +kernel
theorem dX1_work_16 : decode cX1_work 16 = .ok (.goto 4, 3) := by decide +kernel
theorem dX1_work_19 : decode cX1_work 19 = .ok (.iconst 0, 1) := by decide +kernel
theorem dX1_work_20 : decode cX1_work 20 = .ok (.ireturn, 1) := by decide +kernel
theorem dX1_work_21 : decode cX1_work 21 = .ok (.aload_n 0, 1) := by decide +kernel
theorem dX1_work_22 : decode cX1_work 22 = .ok (.getfield 31, 3) := by decide +kernel
theorem dX1_work_25 : decode cX1_work 25 = .ok (.iconst 0, 1) := by decide +kernel
theorem dX1_work_26 : decode cX1_work 26 = .ok (.iload_n 1, 1) := by decide +kernel
theorem dX1_work_27 : decode cX1_work 27 = .ok (.iastore, 1) := by decide +kernel
theorem dX1_work_28 : decode cX1_work 28 = .ok (.iconst 1, 1) := by decide +kernel
theorem dX1_work_29 : decode cX1_work 29 = .ok (.istore_n 2, 1) := by decide +kernel
theorem dX1_work_30 : decode cX1_work 30 = .ok (.iconst 0, 1) := by decide +kernel
theorem dX1_work_31 : decode cX1_work 31 = .ok (.istore_n 3, 1) := by decide +kernel
theorem dX1_work_32 : decode cX1_work 32 = .ok (.iload_n 3, 1) := by decide +kernel
theorem dX1_work_33 : decode cX1_work 33 = .ok (.sipush 1600, 3) := by decide +kernel
theorem dX1_work_36 : decode cX1_work 36 = .ok (.if_icmp .ge 88, 3) := by decide +kernel
theorem dX1_work_39 : decode cX1_work 39 = .ok (.iload_n 2, 1) := by decide +kernel
theorem dX1_work_40 : decode cX1_work 40 = .ok (.ifCond .le 84, 3) := by decide +kernel
theorem dX1_work_43 : decode cX1_work 43 = .ok (.aload_n 0, 1) := by decide +kernel
theorem dX1_work_44 : decode cX1_work 44 = .ok (.getfield 45, 3) := by decide +kernel
theorem dX1_work_47 : decode cX1_work 47 = .ok (.ifCond .ne 77, 3) := by decide +kernel
theorem dX1_work_50 : decode cX1_work 50 = .ok (.aload_n 0, 1) := by decide +kernel
theorem dX1_work_51 : decode cX1_work 51 = .ok (.getfield 31, 3) := by decide +kernel
theorem dX1_work_54 : decode cX1_work 54 = .ok (.iload_n 2, 1) := by decide +kernel
theorem dX1_work_55 : decode cX1_work 55 = .ok (.iconst 1, 1) := by decide +kernel
theorem dX1_work_56 : decode cX1_work 56 = .ok (.isub, 1) := by decide +kernel
theorem dX1_work_57 : decode cX1_work 57 = .ok (.iaload, 1) := by decide +kernel
theorem dX1_work_58 : decode cX1_work 58 = .ok (.istore 4, 2) := by decide +kernel
theorem dX1_work_60 : decode cX1_work 60 = .ok (.aload_n 0, 1) := by decide +kernel
theorem dX1_work_61 : decode cX1_work 61 = .ok (.getfield 9, 3) := by decide +kernel
theorem dX1_work_64 : decode cX1_work 64 = .ok (.iload 4, 2) := by decide +kernel
theorem dX1_work_66 : decode cX1_work 66 = .ok (.iaload, 1) := by decide +kernel
theorem dX1_work_67 : decode cX1_work 67 = .ok (.iconst 1, 1) := by decide +kernel
theorem dX1_work_68 : decode cX1_work 68 = .ok (.if_icmp .ne 12, 3) := by decide +kernel
theorem dX1_work_71 : decode cX1_work 71 = .ok (.aload_n 0, 1) := by decide +kernel
theorem dX1_work_72 : decode cX1_work 72 = .ok (.iload 4, 2) := by decide +kernel
theorem dX1_work_74 : decode cX1_work 74 = .ok (.invokevirtual 56, 3) := by decide +kernel
theorem dX1_work_77 : decode cX1_work 77 = .ok (.goto 9, 3) := by decide +kernel
theorem dX1_work_80 : decode cX1_work 80 = .ok (.aload_n 0, 1) := by decide +kernel
theorem dX1_work_81 : decode cX1_work 81 = .ok (.iload 4, 2) := by decide +kernel
theorem dX1_work_83 : decode cX1_work 83 = .ok (.invokevirtual 60, 3) := by decide +kernel
theorem dX1_work_86 : decode cX1_work 86 = .ok (.istore 5, 2) := by decide +kernel
theorem dX1_work_88 : decode cX1_work 88 = .ok (.iload 5, 2) := by decide +kernel
theorem dX1_work_90 : decode cX1_work 90 = .ok (.iconst (-1), 1) := by decide +kernel
theorem dX1_work_91 : decode cX1_work 91 = .ok (.if_icmp .ne 9, 3) := by decide +kernel
theorem dX1_work_94 : decode cX1_work 94 = .ok (.iinc 2 (-1), 3) := by decide +kernel
theorem dX1_work_97 : decode cX1_work 97 = .ok (.goto 21, 3) := by decide +kernel
theorem dX1_work_100 : decode cX1_work 100 = .ok (.iload_n 2, 1) := by decide +kernel
theorem dX1_work_101 : decode cX1_work 101 = .ok (.sipush 400, 3) := by decide +kernel
theorem dX1_work_104 : decode cX1_work 104 = .ok (.if_icmp .ge 14, 3) := by decide +kernel
theorem dX1_work_107 : decode cX1_work 107 = .ok (.aload_n 0, 1) := by decide +kernel
theorem dX1_work_108 : decode cX1_work 108 = .ok (.getfield 31, 3) := by decide +kernel
theorem dX1_work_111 : decode cX1_work 111 = .ok (.iload_n 2, 1) := by decide +kernel
theorem dX1_work_112 : decode cX1_work 112 = .ok (.iload 5, 2) := by decide +kernel
theorem dX1_work_114 : decode cX1_work 114 = .ok (.iastore, 1) := by decide +kernel
theorem dX1_work_115 : decode cX1_work 115 = .ok (.iinc 2 1, 3) := by decide +kernel
theorem dX1_work_118 : decode cX1_work 118 = .ok (.iinc 3 1, 3) := by decide +kernel
theorem dX1_work_121 : decode cX1_work 121 = .ok (.goto (-89), 3) := by decide +kernel
theorem dX1_work_124 : decode cX1_work 124 = .ok (.aload_n 0, 1) := by decide +kernel
theorem dX1_work_125 : decode cX1_work 125 = .ok (.getfield 45, 3) := by decide +kernel
theorem dX1_work_128 : decode cX1_work 128 = .ok (.ifCond .ne 7, 3) := by decide +kernel
theorem dX1_work_131 : decode cX1_work 131 = .ok (.iconst 1, 1) := by decide +kernel
theorem dX1_work_132 : decode cX1_work 132 = .ok (.goto 4, 3) := by decide +kernel
theorem dX1_work_135 : decode cX1_work 135 = .ok (.iconst 0, 1) := by decide +kernel
theorem dX1_work_136 : decode cX1_work 136 = .ok (.ireturn, 1) := by decide +kernel
theorem dX1_add_0 : decode cX1_add 0 = .ok (.aload_n 0, 1) := by decide +kernel
theorem dX1_add_1 : decode cX1_add 1 = .ok (.getfield 38, 3) := by decide +kernel
theorem dX1_add_4 : decode cX1_add 4 = .ok (.sipush 400, 3) := by decide +kernel
theorem dX1_add_7 : decode cX1_add 7 = .ok (.if_icmp .lt 5, 3) := by decide +kernel
theorem dX1_add_10 : decode cX1_add 10 = .ok (.iconst (-1), 1) := by decide +kernel
theorem dX1_add_11 : decode cX1_add 11 = .ok (.ireturn, 1) := by decide +kernel
theorem dX1_add_12 : decode cX1_add 12 = .ok (.aload_n 0, 1) := by decide +kernel
theorem dX1_add_13 : decode cX1_add 13 = .ok (.getfield 9, 3) := by decide +kernel
theorem dX1_add_16 : decode cX1_add 16 = .ok (.aload_n 0, 1) := by decide +kernel
theorem dX1_add_17 : decode cX1_add 17 = .ok (.getfield 38, 3) := by decide +kernel
theorem dX1_add_20 : decode cX1_add 20 = .ok (.iload_n 1, 1) := by decide +kernel
theorem dX1_add_21 : decode cX1_add 21 = .ok (.iastore, 1) := by decide +kernel
theorem dX1_add_22 : decode cX1_add 22 = .ok (.aload_n 0, 1) := by decide +kernel
theorem dX1_add_23 : decode cX1_add 23 = .ok (.getfield 21, 3) := by decide +kernel
theorem dX1_add_26 : decode cX1_add 26 = .ok (.aload_n 0, 1) := by decide +kernel
theorem dX1_add_27 : decode cX1_add 27 = .ok (.getfield 38, 3) := by decide +kernel
theorem dX1_add_30 : decode cX1_add 30 = .ok (.aload_n 2, 1) := by decide +kernel
theorem dX1_add_31 : decode cX1_add 31 = .ok (.aastore, 1) := by decide +kernel
theorem dX1_add_32 : decode cX1_add 32 = .ok (.aload_n 0, 1) := by decide +kernel
theorem dX1_add_33 : decode cX1_add 33 = .ok (.getfield 25, 3) := by decide +kernel
theorem dX1_add_36 : decode cX1_add 36 = .ok (.aload_n 0, 1) := by decide +kernel
theorem dX1_add_37 : decode cX1_add 37 = .ok (.getfield 38, 3) := by decide +kernel
theorem dX1_add_40 : decode cX1_add 40 = .ok (.iload_n 3, 1) := by decide +kernel
theorem dX1_add_41 : decode cX1_add 41 = .ok (.iastore, 1) := by decide +kernel
theorem dX1_add_42 : decode cX1_add 42 = .ok (.aload_n 0, 1) := by decide +kernel
theorem dX1_add_43 : decode cX1_add 43 = .ok (.getfield 28, 3) := by decide +kernel
theorem dX1_add_46 : decode cX1_add 46 = .ok (.aload_n 0, 1) := by decide +kernel
theorem dX1_add_47 : decode cX1_add 47 = .ok (.getfield 38, 3) := by decide +kernel
theorem dX1_add_50 : decode cX1_add 50 = .ok (.iload 4, 2) := by decide +kernel
theorem dX1_add_52 : decode cX1_add 52 = .ok (.iastore, 1) := by decide +kernel
theorem dX1_add_53 : decode cX1_add 53 = .ok (.aload_n 0, 1) := by decide +kernel
theorem dX1_add_54 : decode cX1_add 54 = .ok (.dup, 1) := by decide +kernel
theorem dX1_add_55 : decode cX1_add 55 = .ok (.getfield 38, 3) := by decide +kernel
theorem dX1_add_58 : decode cX1_add 58 = .ok (.iconst 1, 1) := by decide +kernel
theorem dX1_add_59 : decode cX1_add 59 = .ok (.iadd, 1) := by decide +kernel
theorem dX1_add_60 : decode cX1_add 60 = .ok (.putfield 38, 3) := by decide +kernel
theorem dX1_add_63 : decode cX1_add 63 = .ok (.aload_n 0, 1) := by decide +kernel
theorem dX1_add_64 : decode cX1_add 64 = .ok (.getfield 38, 3) := by decide +kernel
theorem dX1_add_67 : decode cX1_add 67 = .ok (.iconst 1, 1) := by decide +kernel
theorem dX1_add_68 : decode cX1_add 68 = .ok (.isub, 1) := by decide +kernel
theorem dX1_add_69 : decode cX1_add 69 = .ok (.ireturn, 1) := by decide +kernel
theorem dX1_waitsFor_0 : decode cX1_waitsFor 0 = .ok (.iload_n 1, 1) := by decide +kernel
theorem dX1_waitsFor_1 : decode cX1_waitsFor 1 = .ok (.ifCond .lt 24, 3) := by decide +kernel
theorem dX1_waitsFor_4 : decode cX1_waitsFor 4 = .ok (.iload_n 1, 1) := by decide +kernel
theorem dX1_waitsFor_5 : decode cX1_waitsFor 5 = .ok (.aload_n 0, 1) := by decide +kernel
theorem dX1_waitsFor_6 : decode cX1_waitsFor 6 = .ok (.getfield 38, 3) := by decide +kernel
theorem dX1_waitsFor_9 : decode cX1_waitsFor 9 = .ok (.if_icmp .ge 16, 3) := by decide +kernel
theorem dX1_waitsFor_12 : decode cX1_waitsFor 12 = .ok (.aload_n 0, 1) := by decide +kernel
theorem dX1_waitsFor_13 : decode cX1_waitsFor 13 = .ok (.getfield 9, 3) := by decide +kernel
theorem dX1_waitsFor_16 : decode cX1_waitsFor 16 = .ok (.iload_n 1, 1) := by decide +kernel
theorem dX1_waitsFor_17 : decode cX1_waitsFor 17 = .ok (.iaload, 1) := by decide +kernel
theorem dX1_waitsFor_18 : decode cX1_waitsFor 18 = .ok (.ifCond .eq 7, 3) := by decide +kernel
theorem dX1_waitsFor_21 : decode cX1_waitsFor 21 = .ok (.iconst 1, 1) := by decide +kernel
theorem dX1_waitsFor_22 : decode cX1_waitsFor 22 = .ok (.goto 4, 3) := by decide +kernel
theorem dX1_waitsFor_25 : decode cX1_waitsFor 25 = .ok (.iconst 0, 1) := by decide +kernel
theorem dX1_waitsFor_26 : decode cX1_waitsFor 26 = .ok (.ireturn, 1) := by decide +kernel
theorem dX1_workMapped_0 : decode cX1_workMapped 0 = .ok (.aload_n 0, 1) := by decide +kernel
theorem dX1_workMapped_1 : decode cX1_workMapped 1 = .ok (.getfield 25, 3) := by decide +kernel
theorem dX1_workMapped_4 : decode cX1_workMapped 4 = .ok (.iload_n 1, 1) := by decide +kernel
theorem dX1_workMapped_5 : decode cX1_workMapped 5 = .ok (.iaload, 1) := by decide +kernel
theorem dX1_workMapped_6 : decode cX1_workMapped 6 = .ok (.istore_n 2, 1) := by decide +kernel
theorem dX1_workMapped_7 : decode cX1_workMapped 7 = .ok (.aload_n 0, 1) := by decide +kernel
theorem dX1_workMapped_8 : decode cX1_workMapped 8 = .ok (.getfield 21, 3) := by decide +kernel
theorem dX1_workMapped_11 : decode cX1_workMapped 11 = .ok (.iload_n 1, 1) := by decide +kernel
theorem dX1_workMapped_12 : decode cX1_workMapped 12 = .ok (.aaload, 1) := by decide +kernel
theorem dX1_workMapped_13 : decode cX1_workMapped 13 = .ok (.astore_n 3, 1) := by decide +kernel
theorem dX1_workMapped_14 : decode cX1_workMapped 14 = .ok (.aload_n 0, 1) := by decide +kernel
theorem dX1_workMapped_15 : decode cX1_workMapped 15 = .ok (.iload_n 2, 1) := by decide +kernel
theorem dX1_workMapped_16 : decode cX1_workMapped 16 = .ok (.invokevirtual 52, 3) := by decide +kernel
theorem dX1_workMapped_19 : decode cX1_workMapped 19 = .ok (.ifCond .eq 5, 3) := by decide +kernel
theorem dX1_workMapped_22 : decode cX1_workMapped 22 = .ok (.iload_n 2, 1) := by decide +kernel
theorem dX1_workMapped_23 : decode cX1_workMapped 23 = .ok (.ireturn, 1) := by decide +kernel
theorem dX1_workMapped_24 : decode cX1_workMapped 24 = .ok (.aload_n 0, 1) := by decide +kernel
theorem dX1_workMapped_25 : decode cX1_workMapped 25 = .ok (.iload_n 2, 1) := by decide +kernel
theorem dX1_workMapped_26 : decode cX1_workMapped 26 = .ok (.invokevirtual 63, 3) := by decide +kernel
theorem dX1_workMapped_29 : decode cX1_workMapped 29 = .ok (.lstore 4, 2) := by decide +kernel
theorem dX1_workMapped_31 : decode cX1_workMapped 31 = .ok (.iconst 0, 1) := by decide +kernel
theorem dX1_workMapped_32 : decode cX1_workMapped 32 = .ok (.istore 6, 2) := by decide +kernel
theorem dX1_workMapped_34 : decode cX1_workMapped 34 = .ok (.aload_n 3, 1) := by decide +kernel
theorem dX1_workMapped_35 : decode cX1_workMapped 35 = .ok (.ifnull 57, 3) := by decide +kernel
theorem dX1_workMapped_38 : decode cX1_workMapped 38 = .ok (.iload 6, 2) := by decide +kernel
theorem dX1_workMapped_40 : decode cX1_workMapped 40 = .ok (.aload_n 3, 1) := by decide +kernel
theorem dX1_workMapped_41 : decode cX1_workMapped 41 = .ok (.getfield 67, 3) := by decide +kernel
theorem dX1_workMapped_44 : decode cX1_workMapped 44 = .ok (.if_icmp .ge 48, 3) := by decide +kernel
theorem dX1_workMapped_47 : decode cX1_workMapped 47 = .ok (.aload_n 0, 1) := by decide +kernel
theorem dX1_workMapped_48 : decode cX1_workMapped 48 = .ok (.getfield 45, 3) := by decide +kernel
theorem dX1_workMapped_51 : decode cX1_workMapped 51 = .ok (.ifCond .ne 41, 3) := by decide +kernel
theorem dX1_workMapped_54 : decode cX1_workMapped 54 = .ok (.aload_n 0, 1) := by decide +kernel
theorem dX1_workMapped_55 : decode cX1_workMapped 55 = .ok (.dup, 1) := by decide +kernel
theorem dX1_workMapped_56 : decode cX1_workMapped 56 = .ok (.getfield 42, 3) := by decide +kernel
theorem dX1_workMapped_59 : decode cX1_workMapped 59 = .ok (.iconst 1, 1) := by decide +kernel
theorem dX1_workMapped_60 : decode cX1_workMapped 60 = .ok (.iadd, 1) := by decide +kernel
theorem dX1_workMapped_61 : decode cX1_workMapped 61 = .ok (.putfield 42, 3) := by decide +kernel
theorem dX1_workMapped_64 : decode cX1_workMapped 64 = .ok (.aload_n 0, 1) := by decide +kernel
theorem dX1_workMapped_65 : decode cX1_workMapped 65 = .ok (.aload_n 3, 1) := by decide +kernel
theorem dX1_workMapped_66 : decode cX1_workMapped 66 = .ok (.getfield 70, 3) := by decide +kernel
theorem dX1_workMapped_69 : decode cX1_workMapped 69 = .ok (.iload 6, 2) := by decide +kernel
theorem dX1_workMapped_71 : decode cX1_workMapped 71 = .ok (.iaload, 1) := by decide +kernel
theorem dX1_workMapped_72 : decode cX1_workMapped 72 = .ok (.aload_n 3, 1) := by decide +kernel
theorem dX1_workMapped_73 : decode cX1_workMapped 73 = .ok (.getfield 73, 3) := by decide +kernel
theorem dX1_workMapped_76 : decode cX1_workMapped 76 = .ok (.iload 6, 2) := by decide +kernel
theorem dX1_workMapped_78 : decode cX1_workMapped 78 = .ok (.laload, 1) := by decide +kernel
theorem dX1_workMapped_79 : decode cX1_workMapped 79 = .ok (.lload 4, 2) := by decide +kernel
theorem dX1_workMapped_81 : decode cX1_workMapped 81 = .ok (.invokevirtual 76, 3) := by decide +kernel
theorem dX1_workMapped_84 : decode cX1_workMapped 84 = .ok (.lstore 4, 2) := by decide +kernel
theorem dX1_workMapped_86 : decode cX1_workMapped 86 = .ok (.iinc 6 1, 3) := by decide +kernel
theorem dX1_workMapped_89 : decode cX1_workMapped 89 = .ok (.goto (-55), 3) := by decide +kernel
theorem dX1_workMapped_92 : decode cX1_workMapped 92 = .ok (.aload_n 0, 1) := by decide +kernel
theorem dX1_workMapped_93 : decode cX1_workMapped 93 = .ok (.iload_n 1, 1) := by decide +kernel
theorem dX1_workMapped_94 : decode cX1_workMapped 94 = .ok (.lload 4, 2) := by decide +kernel
theorem dX1_workMapped_96 : decode cX1_workMapped 96 = .ok (.invokevirtual 80, 3) := by decide +kernel
theorem dX1_workMapped_99 : decode cX1_workMapped 99 = .ok (.ireturn, 1) := by decide +kernel
theorem dX1_workSummed_0 : decode cX1_workSummed 0 = .ok (.aload_n 0, 1) := by decide +kernel
theorem dX1_workSummed_1 : decode cX1_workSummed 1 = .ok (.getfield 28, 3) := by decide +kernel
theorem dX1_workSummed_4 : decode cX1_workSummed 4 = .ok (.iload_n 1, 1) := by decide +kernel
theorem dX1_workSummed_5 : decode cX1_workSummed 5 = .ok (.iaload, 1) := by decide +kernel
theorem dX1_workSummed_6 : decode cX1_workSummed 6 = .ok (.istore_n 2, 1) := by decide +kernel
theorem dX1_workSummed_7 : decode cX1_workSummed 7 = .ok (.aload_n 0, 1) := by decide +kernel
theorem dX1_workSummed_8 : decode cX1_workSummed 8 = .ok (.getfield 25, 3) := by decide +kernel
theorem dX1_workSummed_11 : decode cX1_workSummed 11 = .ok (.iload_n 1, 1) := by decide +kernel
theorem dX1_workSummed_12 : decode cX1_workSummed 12 = .ok (.iaload, 1) := by decide +kernel
theorem dX1_workSummed_13 : decode cX1_workSummed 13 = .ok (.istore_n 3, 1) := by decide +kernel
theorem dX1_workSummed_14 : decode cX1_workSummed 14 = .ok (.aload_n 0, 1) := by decide +kernel
theorem dX1_workSummed_15 : decode cX1_workSummed 15 = .ok (.getfield 9, 3) := by decide +kernel
theorem dX1_workSummed_18 : decode cX1_workSummed 18 = .ok (.iload_n 1, 1) := by decide +kernel
theorem dX1_workSummed_19 : decode cX1_workSummed 19 = .ok (.iaload, 1) := by decide +kernel
theorem dX1_workSummed_20 : decode cX1_workSummed 20 = .ok (.iconst 2, 1) := by decide +kernel
theorem dX1_workSummed_21 : decode cX1_workSummed 21 = .ok (.if_icmp .ne 20, 3) := by decide +kernel
theorem dX1_workSummed_24 : decode cX1_workSummed 24 = .ok (.aload_n 0, 1) := by decide +kernel
theorem dX1_workSummed_25 : decode cX1_workSummed 25 = .ok (.dup, 1) := by decide +kernel
theorem dX1_workSummed_26 : decode cX1_workSummed 26 = .ok (.getfield 42, 3) := by decide +kernel
theorem dX1_workSummed_29 : decode cX1_workSummed 29 = .ok (.iconst 1, 1) := by decide +kernel
theorem dX1_workSummed_30 : decode cX1_workSummed 30 = .ok (.iadd, 1) := by decide +kernel
theorem dX1_workSummed_31 : decode cX1_workSummed 31 = .ok (.putfield 42, 3) := by decide +kernel
theorem dX1_workSummed_34 : decode cX1_workSummed 34 = .ok (.aload_n 0, 1) := by decide +kernel
theorem dX1_workSummed_35 : decode cX1_workSummed 35 = .ok (.getfield 9, 3) := by decide +kernel
theorem dX1_workSummed_38 : decode cX1_workSummed 38 = .ok (.iload_n 1, 1) := by decide +kernel
theorem dX1_workSummed_39 : decode cX1_workSummed 39 = .ok (.iconst 3, 1) := by decide +kernel
theorem dX1_workSummed_40 : decode cX1_workSummed 40 = .ok (.iastore, 1) := by decide +kernel
theorem dX1_workSummed_41 : decode cX1_workSummed 41 = .ok (.aload_n 0, 1) := by decide +kernel
theorem dX1_workSummed_42 : decode cX1_workSummed 42 = .ok (.iload_n 2, 1) := by decide +kernel
theorem dX1_workSummed_43 : decode cX1_workSummed 43 = .ok (.invokevirtual 52, 3) := by decide +kernel
theorem dX1_workSummed_46 : decode cX1_workSummed 46 = .ok (.ifCond .eq 5, 3) := by decide +kernel
theorem dX1_workSummed_49 : decode cX1_workSummed 49 = .ok (.iload_n 2, 1) := by decide +kernel
theorem dX1_workSummed_50 : decode cX1_workSummed 50 = .ok (.ireturn, 1) := by decide +kernel
theorem dX1_workSummed_51 : decode cX1_workSummed 51 = .ok (.aload_n 0, 1) := by decide +kernel
theorem dX1_workSummed_52 : decode cX1_workSummed 52 = .ok (.iload_n 3, 1) := by decide +kernel
theorem dX1_workSummed_53 : decode cX1_workSummed 53 = .ok (.invokevirtual 52, 3) := by decide +kernel
theorem dX1_workSummed_56 : decode cX1_workSummed 56 = .ok (.ifCond .eq 5, 3) := by decide +kernel
theorem dX1_workSummed_59 : decode cX1_workSummed 59 = .ok (.iload_n 3, 1) := by decide +kernel
theorem dX1_workSummed_60 : decode cX1_workSummed 60 = .ok (.ireturn, 1) := by decide +kernel
theorem dX1_workSummed_61 : decode cX1_workSummed 61 = .ok (.aload_n 0, 1) := by decide +kernel
theorem dX1_workSummed_62 : decode cX1_workSummed 62 = .ok (.iload_n 1, 1) := by decide +kernel
theorem dX1_workSummed_63 : decode cX1_workSummed 63 = .ok (.aload_n 0, 1) := by decide +kernel
theorem dX1_workSummed_64 : decode cX1_workSummed 64 = .ok (.iload_n 2, 1) := by decide +kernel
theorem dX1_workSummed_65 : decode cX1_workSummed 65 = .ok (.invokevirtual 63, 3) := by decide +kernel
theorem dX1_workSummed_68 : decode cX1_workSummed 68 = .ok (.aload_n 0, 1) := by decide +kernel
theorem dX1_workSummed_69 : decode cX1_workSummed 69 = .ok (.iload_n 3, 1) := by decide +kernel
theorem dX1_workSummed_70 : decode cX1_workSummed 70 = .ok (.invokevirtual 63, 3) := by decide +kernel
theorem dX1_workSummed_73 : decode cX1_workSummed 73 = .ok (.ladd, 1) := by decide +kernel
theorem dX1_workSummed_74 : decode cX1_workSummed 74 = .ok (.invokevirtual 80, 3) := by decide +kernel
theorem dX1_workSummed_77 : decode cX1_workSummed 77 = .ok (.ireturn, 1) := by decide +kernel
theorem dX1_finish_0 : decode cX1_finish 0 = .ok (.aload_n 0, 1) := by decide +kernel
theorem dX1_finish_1 : decode cX1_finish 1 = .ok (.getfield 15, 3) := by decide +kernel
theorem dX1_finish_4 : decode cX1_finish 4 = .ok (.iload_n 1, 1) := by decide +kernel
theorem dX1_finish_5 : decode cX1_finish 5 = .ok (.lload_n 2, 1) := by decide +kernel
theorem dX1_finish_6 : decode cX1_finish 6 = .ok (.lastore, 1) := by decide +kernel
theorem dX1_finish_7 : decode cX1_finish 7 = .ok (.aload_n 0, 1) := by decide +kernel
theorem dX1_finish_8 : decode cX1_finish 8 = .ok (.getfield 9, 3) := by decide +kernel
theorem dX1_finish_11 : decode cX1_finish 11 = .ok (.iload_n 1, 1) := by decide +kernel
theorem dX1_finish_12 : decode cX1_finish 12 = .ok (.iconst 0, 1) := by decide +kernel
theorem dX1_finish_13 : decode cX1_finish 13 = .ok (.iastore, 1) := by decide +kernel
theorem dX1_finish_14 : decode cX1_finish 14 = .ok (.iconst (-1), 1) := by decide +kernel
theorem dX1_finish_15 : decode cX1_finish 15 = .ok (.ireturn, 1) := by decide +kernel
theorem dX1_apply_0 : decode cX1_apply 0 = .ok (.iload_n 1, 1) := by decide +kernel
theorem dX1_apply_1 : decode cX1_apply 1 = .ok (.tableswitch 56 0 2 #[27, 32, 37], 27) := by decide +kernel
theorem dX1_apply_28 : decode cX1_apply 28 = .ok (.lload 4, 2) := by decide +kernel
theorem dX1_apply_30 : decode cX1_apply 30 = .ok (.lload_n 2, 1) := by decide +kernel
theorem dX1_apply_31 : decode cX1_apply 31 = .ok (.ladd, 1) := by decide +kernel
theorem dX1_apply_32 : decode cX1_apply 32 = .ok (.lreturn, 1) := by decide +kernel
theorem dX1_apply_33 : decode cX1_apply 33 = .ok (.lload 4, 2) := by decide +kernel
theorem dX1_apply_35 : decode cX1_apply 35 = .ok (.lload_n 2, 1) := by decide +kernel
theorem dX1_apply_36 : decode cX1_apply 36 = .ok (.lmul, 1) := by decide +kernel
theorem dX1_apply_37 : decode cX1_apply 37 = .ok (.lreturn, 1) := by decide +kernel
theorem dX1_apply_38 : decode cX1_apply 38 = .ok (.lload 4, 2) := by decide +kernel
theorem dX1_apply_40 : decode cX1_apply 40 = .ok (.lconst 0, 1) := by decide +kernel
theorem dX1_apply_41 : decode cX1_apply 41 = .ok (.lcmp, 1) := by decide +kernel
theorem dX1_apply_42 : decode cX1_apply 42 = .ok (.ifCond .ne 10, 3) := by decide +kernel
theorem dX1_apply_45 : decode cX1_apply 45 = .ok (.aload_n 0, 1) := by decide +kernel
theorem dX1_apply_46 : decode cX1_apply 46 = .ok (.iconst 4, 1) := by decide +kernel
theorem dX1_apply_47 : decode cX1_apply 47 = .ok (.putfield 45, 3) := by decide +kernel
theorem dX1_apply_50 : decode cX1_apply 50 = .ok (.lconst 0, 1) := by decide +kernel
theorem dX1_apply_51 : decode cX1_apply 51 = .ok (.lreturn, 1) := by decide +kernel
theorem dX1_apply_52 : decode cX1_apply 52 = .ok (.lload_n 2, 1) := by decide +kernel
theorem dX1_apply_53 : decode cX1_apply 53 = .ok (.lload 4, 2) := by decide +kernel
theorem dX1_apply_55 : decode cX1_apply 55 = .ok (.ldiv, 1) := by decide +kernel
theorem dX1_apply_56 : decode cX1_apply 56 = .ok (.lreturn, 1) := by decide +kernel
theorem dX1_apply_57 : decode cX1_apply 57 = .ok (.aload_n 0, 1) := by decide +kernel
theorem dX1_apply_58 : decode cX1_apply 58 = .ok (.lload_n 2, 1) := by decide +kernel
theorem dX1_apply_59 : decode cX1_apply 59 = .ok (.lload 4, 2) := by decide +kernel
theorem dX1_apply_61 : decode cX1_apply 61 = .ok (.l2i, 1) := by decide +kernel
theorem dX1_apply_62 : decode cX1_apply 62 = .ok (.invokevirtual 84, 3) := by decide +kernel
theorem dX1_apply_65 : decode cX1_apply 65 = .ok (.lreturn, 1) := by decide +kernel
theorem dX1_pick_0 : decode cX1_pick 0 = .ok (.lload_n 1, 1) := by decide +kernel
theorem dX1_pick_1 : decode cX1_pick 1 = .ok (.lconst 0, 1) := by decide +kernel
theorem dX1_pick_2 : decode cX1_pick 2 = .ok (.lcmp, 1) := by decide +kernel
theorem dX1_pick_3 : decode cX1_pick 3 = .ok (.ifCond .lt 14, 3) := by decide +kernel
theorem dX1_pick_6 : decode cX1_pick 6 = .ok (.lload_n 1, 1) := by decide +kernel
theorem dX1_pick_7 : decode cX1_pick 7 = .ok (.aload_n 0, 1) := by decide +kernel
theorem dX1_pick_8 : decode cX1_pick 8 = .ok (.getfield 34, 3) := by decide +kernel
theorem dX1_pick_11 : decode cX1_pick 11 = .ok (.arraylength, 1) := by decide +kernel
theorem dX1_pick_12 : decode cX1_pick 12 = .ok (.i2l, 1) := by decide +kernel
theorem dX1_pick_13 : decode cX1_pick 13 = .ok (.lcmp, 1) := by decide +kernel
theorem dX1_pick_14 : decode cX1_pick 14 = .ok (.ifCond .lt 10, 3) := by decide +kernel
theorem dX1_pick_17 : decode cX1_pick 17 = .ok (.aload_n 0, 1) := by decide +kernel
theorem dX1_pick_18 : decode cX1_pick 18 = .ok (.iconst 1, 1) := by decide +kernel
theorem dX1_pick_19 : decode cX1_pick 19 = .ok (.putfield 45, 3) := by decide +kernel
theorem dX1_pick_22 : decode cX1_pick 22 = .ok (.lconst 0, 1) := by decide +kernel
theorem dX1_pick_23 : decode cX1_pick 23 = .ok (.lreturn, 1) := by decide +kernel
theorem dX1_pick_24 : decode cX1_pick 24 = .ok (.aload_n 0, 1) := by decide +kernel
theorem dX1_pick_25 : decode cX1_pick 25 = .ok (.getfield 34, 3) := by decide +kernel
theorem dX1_pick_28 : decode cX1_pick 28 = .ok (.lload_n 1, 1) := by decide +kernel
theorem dX1_pick_29 : decode cX1_pick 29 = .ok (.l2i, 1) := by decide +kernel
theorem dX1_pick_30 : decode cX1_pick 30 = .ok (.aaload, 1) := by decide +kernel
theorem dX1_pick_31 : decode cX1_pick 31 = .ok (.astore 4, 2) := by decide +kernel
theorem dX1_pick_33 : decode cX1_pick 33 = .ok (.aload 4, 2) := by decide +kernel
theorem dX1_pick_35 : decode cX1_pick 35 = .ok (.getfield 88, 3) := by decide +kernel
theorem dX1_pick_38 : decode cX1_pick 38 = .ok (.ifCond .ne 11, 3) := by decide +kernel
theorem dX1_pick_41 : decode cX1_pick 41 = .ok (.aload_n 0, 1) := by decide +kernel
theorem dX1_pick_42 : decode cX1_pick 42 = .ok (.iconst 1, 1) := by decide +kernel
theorem dX1_pick_43 : decode cX1_pick 43 = .ok (.putfield 45, 3) := by decide +kernel
theorem dX1_pick_46 : decode cX1_pick 46 = .ok (.goto 49, 3) := by decide +kernel
theorem dX1_pick_49 : decode cX1_pick 49 = .ok (.aload 4, 2) := by decide +kernel
theorem dX1_pick_51 : decode cX1_pick 51 = .ok (.getfield 88, 3) := by decide +kernel
theorem dX1_pick_54 : decode cX1_pick 54 = .ok (.iconst 1, 1) := by decide +kernel
theorem dX1_pick_55 : decode cX1_pick 55 = .ok (.if_icmp .eq 11, 3) := by decide +kernel
theorem dX1_pick_58 : decode cX1_pick 58 = .ok (.aload_n 0, 1) := by decide +kernel
theorem dX1_pick_59 : decode cX1_pick 59 = .ok (.iconst 2, 1) := by decide +kernel
theorem dX1_pick_60 : decode cX1_pick 60 = .ok (.putfield 45, 3) := by decide +kernel
theorem dX1_pick_63 : decode cX1_pick 63 = .ok (.goto 32, 3) := by decide +kernel
theorem dX1_pick_66 : decode cX1_pick 66 = .ok (.iload_n 3, 1) := by decide +kernel
theorem dX1_pick_67 : decode cX1_pick 67 = .ok (.ifCond .lt 12, 3) := by decide +kernel
theorem dX1_pick_70 : decode cX1_pick 70 = .ok (.iload_n 3, 1) := by decide +kernel
theorem dX1_pick_71 : decode cX1_pick 71 = .ok (.aload 4, 2) := by decide +kernel
theorem dX1_pick_73 : decode cX1_pick 73 = .ok (.getfield 93, 3) := by decide +kernel
theorem dX1_pick_76 : decode cX1_pick 76 = .ok (.if_icmp .lt 11, 3) := by decide +kernel
theorem dX1_pick_79 : decode cX1_pick 79 = .ok (.aload_n 0, 1) := by decide +kernel
theorem dX1_pick_80 : decode cX1_pick 80 = .ok (.iconst 3, 1) := by decide +kernel
theorem dX1_pick_81 : decode cX1_pick 81 = .ok (.putfield 45, 3) := by decide +kernel
theorem dX1_pick_84 : decode cX1_pick 84 = .ok (.goto 11, 3) := by decide +kernel
theorem dX1_pick_87 : decode cX1_pick 87 = .ok (.aload 4, 2) := by decide +kernel
theorem dX1_pick_89 : decode cX1_pick 89 = .ok (.getfield 96, 3) := by decide +kernel
theorem dX1_pick_92 : decode cX1_pick 92 = .ok (.iload_n 3, 1) := by decide +kernel
theorem dX1_pick_93 : decode cX1_pick 93 = .ok (.laload, 1) := by decide +kernel
theorem dX1_pick_94 : decode cX1_pick 94 = .ok (.lreturn, 1) := by decide +kernel
theorem dX1_pick_95 : decode cX1_pick 95 = .ok (.lconst 0, 1) := by decide +kernel
theorem dX1_pick_96 : decode cX1_pick 96 = .ok (.lreturn, 1) := by decide +kernel
