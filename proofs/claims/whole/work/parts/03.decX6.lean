theorem dX6_init_0 : decode cX6_init 0 = .ok (.aload_n 0, 1) := by decide +kernel
theorem dX6_init_1 : decode cX6_init 1 = .ok (.invokespecial 1, 3) := by decide +kernel
theorem dX6_init_4 : decode cX6_init 4 = .ok (.aload_n 0, 1) := by decide +kernel
theorem dX6_init_5 : decode cX6_init 5 = .ok (.bipush 6, 2) := by decide +kernel
theorem dX6_init_7 : decode cX6_init 7 = .ok (.anewarray 9, 3) := by decide +kernel
theorem dX6_init_10 : decode cX6_init 10 = .ok (.putfield 11, 3) := by decide +kernel
theorem dX6_init_13 : decode cX6_init 13 = .ok (.iconst 0, 1) := by decide +kernel
theorem dX6_init_14 : decode cX6_init 14 = .ok (.istore_n 1, 1) := by decide +kernel
theorem dX6_init_15 : decode cX6_init 15 = .ok (.iload_n 1, 1) := by decide +kernel
theorem dX6_init_16 : decode cX6_init 16 = .ok (.bipush 6, 2) := by decide +kernel
theorem dX6_init_18 : decode cX6_init 18 = .ok (.if_icmp .ge 22, 3) := by decide +kernel
theorem dX6_init_21 : decode cX6_init 21 = .ok (.aload_n 0, 1) := by decide +kernel
theorem dX6_init_22 : decode cX6_init 22 = .ok (.getfield 11, 3) := by decide +kernel
theorem dX6_init_25 : decode cX6_init 25 = .ok (.iload_n 1, 1) := by decide +kernel
theorem dX6_init_26 : decode cX6_init 26 = .ok (.new 9, 3) := by decide +kernel
theorem dX6_init_29 : decode cX6_init 29 = .ok (.dup, 1) := by decide +kernel
theorem dX6_init_30 : decode cX6_init 30 = .ok (.invokespecial 15, 3) := by decide +kernel
theorem dX6_init_33 : decode cX6_init 33 = .ok (.aastore, 1) := by decide +kernel
theorem dX6_init_34 : decode cX6_init 34 = .ok (.iinc 1 1, 3) := by decide +kernel
theorem dX6_init_37 : decode cX6_init 37 = .ok (.goto (-22), 3) := by decide +kernel
theorem dX6_init_40 : decode cX6_init 40 = .ok (.aload_n 0, 1) := by decide +kernel
theorem dX6_init_41 : decode cX6_init 41 = .ok (.iconst 4, 1) := by decide +kernel
theorem dX6_init_42 : decode cX6_init 42 = .ok (.anewarray 16, 3) := by decide +kernel
theorem dX6_init_45 : decode cX6_init 45 = .ok (.putfield 18, 3) := by decide +kernel
theorem dX6_init_48 : decode cX6_init 48 = .ok (.iconst 0, 1) := by decide +kernel
theorem dX6_init_49 : decode cX6_init 49 = .ok (.istore_n 1, 1) := by decide +kernel
theorem dX6_init_50 : decode cX6_init 50 = .ok (.iload_n 1, 1) := by decide +kernel
theorem dX6_init_51 : decode cX6_init 51 = .ok (.iconst 4, 1) := by decide +kernel
theorem dX6_init_52 : decode cX6_init 52 = .ok (.if_icmp .ge 22, 3) := by decide +kernel
theorem dX6_init_55 : decode cX6_init 55 = .ok (.aload_n 0, 1) := by decide +kernel
theorem dX6_init_56 : decode cX6_init 56 = .ok (.getfield 18, 3) := by decide +kernel
theorem dX6_init_59 : decode cX6_init 59 = .ok (.iload_n 1, 1) := by decide +kernel
theorem dX6_init_60 : decode cX6_init 60 = .ok (.new 16, 3) := by decide +kernel
theorem dX6_init_63 : decode cX6_init 63 = .ok (.dup, 1) := by decide +kernel
theorem dX6_init_64 : decode cX6_init 64 = .ok (.invokespecial 22, 3) := by decide +kernel
theorem dX6_init_67 : decode cX6_init 67 = .ok (.aastore, 1) := by decide +kernel
theorem dX6_init_68 : decode cX6_init 68 = .ok (.iinc 1 1, 3) := by decide +kernel
theorem dX6_init_71 : decode cX6_init 71 = .ok (.goto (-21), 3) := by decide +kernel
theorem dX6_init_74 : decode cX6_init 74 = .ok (.aload_n 0, 1) := by decide +kernel
theorem dX6_init_75 : decode cX6_init 75 = .ok (.bipush 8, 2) := by decide +kernel
theorem dX6_init_77 : decode cX6_init 77 = .ok (.newarray .int, 2) := by decide +kernel
theorem dX6_init_79 : decode cX6_init 79 = .ok (.putfield 23, 3) := by decide +kernel
theorem dX6_init_82 : decode cX6_init 82 = .ok (.aload_n 0, 1) := by decide +kernel
theorem dX6_init_83 : decode cX6_init 83 = .ok (.new 27, 3) := by decide +kernel
theorem dX6_init_86 : decode cX6_init 86 = .ok (.dup, 1) := by decide +kernel
theorem dX6_init_87 : decode cX6_init 87 = .ok (.aload_n 0, 1) := by decide +kernel
theorem dX6_init_88 : decode cX6_init 88 = .ok (.getfield 11, 3) := by decide +kernel
theorem dX6_init_91 : decode cX6_init 91 = .ok (.invokespecial 29, 3) := by decide +kernel
theorem dX6_init_94 : decode cX6_init 94 = .ok (.putfield 32, 3) := by decide +kernel
theorem dX6_init_97 : decode cX6_init 97 = .ok (.return_, 1) := by decide +kernel
theorem dX6_row_0 : decode cX6_row 0 = .ok (.iload_n 1, 1) := by decide +kernel
theorem dX6_row_1 : decode cX6_row 1 = .ok (.invokestatic 36, 3) := by decide +kernel
theorem dX6_row_4 : decode cX6_row 4 = .ok (.ifCond .ne 5, 3) := by decide +kernel
theorem dX6_row_7 : decode cX6_row 7 = .ok (.iconst (-1), 1) := by decide +kernel
theorem dX6_row_8 : decode cX6_row 8 = .ok (.ireturn, 1) := by decide +kernel
theorem dX6_row_9 : decode cX6_row 9 = .ok (.iload_n 2, 1) := by decide +kernel
theorem dX6_row_10 : decode cX6_row 10 = .ok (.ifCond .lt 18, 3) := by decide +kernel
theorem dX6_row_13 : decode cX6_row 13 = .ok (.iload_n 2, 1) := by decide +kernel
theorem dX6_row_14 : decode cX6_row 14 = .ok (.iconst 3, 1) := by decide +kernel
theorem dX6_row_15 : decode cX6_row 15 = .ok (.if_icmp .gt 13, 3) := by decide +kernel
theorem dX6_row_18 : decode cX6_row 18 = .ok (.iload_n 3, 1) := by decide +kernel
theorem dX6_row_19 : decode cX6_row 19 = .ok (.ifCond .lt 9, 3) := by decide +kernel
theorem dX6_row_22 : decode cX6_row 22 = .ok (.iload_n 3, 1) := by decide +kernel
theorem dX6_row_23 : decode cX6_row 23 = .ok (.bipush 16, 2) := by decide +kernel
theorem dX6_row_25 : decode cX6_row 25 = .ok (.if_icmp .le 6, 3) := by decide +kernel
theorem dX6_row_28 : decode cX6_row 28 = .ok (.bipush (-2), 2) := by decide +kernel
theorem dX6_row_30 : decode cX6_row 30 = .ok (.ireturn, 1) := by decide +kernel
theorem dX6_row_31 : decode cX6_row 31 = .ok (.aload_n 0, 1) := by decide +kernel
theorem dX6_row_32 : decode cX6_row 32 = .ok (.getfield 11, 3) := by decide +kernel
theorem dX6_row_35 : decode cX6_row 35 = .ok (.iload_n 1, 1) := by decide +kernel
theorem dX6_row_36 : decode cX6_row 36 = .ok (.aaload, 1) := by decide +kernel
theorem dX6_row_37 : decode cX6_row 37 = .ok (.iload_n 2, 1) := by decide +kernel
theorem dX6_row_38 : decode cX6_row 38 = .ok (.iload_n 3, 1) := by decide +kernel
theorem dX6_row_39 : decode cX6_row 39 = .ok (.invokevirtual 40, 3) := by decide +kernel
theorem dX6_row_42 : decode cX6_row 42 = .ok (.iconst 1, 1) := by decide +kernel
theorem dX6_row_43 : decode cX6_row 43 = .ok (.ireturn, 1) := by decide +kernel
theorem dX6_set_0 : decode cX6_set 0 = .ok (.iload_n 1, 1) := by decide +kernel
theorem dX6_set_1 : decode cX6_set 1 = .ok (.invokestatic 36, 3) := by decide +kernel
theorem dX6_set_4 : decode cX6_set 4 = .ok (.ifCond .eq 16, 3) := by decide +kernel
theorem dX6_set_7 : decode cX6_set 7 = .ok (.aload_n 0, 1) := by decide +kernel
theorem dX6_set_8 : decode cX6_set 8 = .ok (.getfield 11, 3) := by decide +kernel
theorem dX6_set_11 : decode cX6_set 11 = .ok (.iload_n 1, 1) := by decide +kernel
theorem dX6_set_12 : decode cX6_set 12 = .ok (.aaload, 1) := by decide +kernel
theorem dX6_set_13 : decode cX6_set 13 = .ok (.iload_n 2, 1) := by decide +kernel
theorem dX6_set_14 : decode cX6_set 14 = .ok (.invokevirtual 44, 3) := by decide +kernel
theorem dX6_set_17 : decode cX6_set 17 = .ok (.ifCond .ne 5, 3) := by decide +kernel
theorem dX6_set_20 : decode cX6_set 20 = .ok (.iconst (-1), 1) := by decide +kernel
theorem dX6_set_21 : decode cX6_set 21 = .ok (.ireturn, 1) := by decide +kernel
theorem dX6_set_22 : decode cX6_set 22 = .ok (.aload_n 0, 1) := by decide +kernel
theorem dX6_set_23 : decode cX6_set 23 = .ok (.getfield 11, 3) := by decide +kernel
theorem dX6_set_26 : decode cX6_set 26 = .ok (.iload_n 1, 1) := by decide +kernel
theorem dX6_set_27 : decode cX6_set 27 = .ok (.aaload, 1) := by decide +kernel
theorem dX6_set_28 : decode cX6_set 28 = .ok (.iload_n 2, 1) := by decide +kernel
theorem dX6_set_29 : decode cX6_set 29 = .ok (.lload_n 3, 1) := by decide +kernel
theorem dX6_set_30 : decode cX6_set 30 = .ok (.invokevirtual 47, 3) := by decide +kernel
theorem dX6_set_33 : decode cX6_set 33 = .ok (.iconst 1, 1) := by decide +kernel
theorem dX6_set_34 : decode cX6_set 34 = .ok (.ireturn, 1) := by decide +kernel
theorem dX6_range_0 : decode cX6_range 0 = .ok (.iload_n 1, 1) := by decide +kernel
theorem dX6_range_1 : decode cX6_range 1 = .ok (.invokestatic 51, 3) := by decide +kernel
theorem dX6_range_4 : decode cX6_range 4 = .ok (.ifCond .ne 5, 3) := by decide +kernel
theorem dX6_range_7 : decode cX6_range 7 = .ok (.iconst (-1), 1) := by decide +kernel
theorem dX6_range_8 : decode cX6_range 8 = .ok (.ireturn, 1) := by decide +kernel
theorem dX6_range_9 : decode cX6_range 9 = .ok (.iload 6, 2) := by decide +kernel
theorem dX6_range_11 : decode cX6_range 11 = .ok (.iconst (-1), 1) := by decide +kernel
theorem dX6_range_12 : decode cX6_range 12 = .ok (.if_icmp .lt 10, 3) := by decide +kernel
theorem dX6_range_15 : decode cX6_range 15 = .ok (.iload 6, 2) := by decide +kernel
theorem dX6_range_17 : decode cX6_range 17 = .ok (.bipush 40, 2) := by decide +kernel
theorem dX6_range_19 : decode cX6_range 19 = .ok (.if_icmp .le 6, 3) := by decide +kernel
theorem dX6_range_22 : decode cX6_range 22 = .ok (.bipush (-2), 2) := by decide +kernel
theorem dX6_range_24 : decode cX6_range 24 = .ok (.ireturn, 1) := by decide +kernel
theorem dX6_range_25 : decode cX6_range 25 = .ok (.aload_n 0, 1) := by decide +kernel
theorem dX6_range_26 : decode cX6_range 26 = .ok (.getfield 18, 3) := by decide +kernel
theorem dX6_range_29 : decode cX6_range 29 = .ok (.iload_n 1, 1) := by decide +kernel
theorem dX6_range_30 : decode cX6_range 30 = .ok (.aaload, 1) := by decide +kernel
theorem dX6_range_31 : decode cX6_range 31 = .ok (.lload_n 2, 1) := by decide +kernel
theorem dX6_range_32 : decode cX6_range 32 = .ok (.lload 4, 2) := by decide +kernel
theorem dX6_range_34 : decode cX6_range 34 = .ok (.iload 6, 2) := by decide +kernel
theorem dX6_range_36 : decode cX6_range 36 = .ok (.invokevirtual 54, 3) := by decide +kernel
theorem dX6_range_39 : decode cX6_range 39 = .ok (.iconst 1, 1) := by decide +kernel
theorem dX6_range_40 : decode cX6_range 40 = .ok (.ireturn, 1) := by decide +kernel
theorem dX6_fromRow_0 : decode cX6_fromRow 0 = .ok (.iload_n 1, 1) := by decide +kernel
theorem dX6_fromRow_1 : decode cX6_fromRow 1 = .ok (.invokestatic 51, 3) := by decide +kernel
theorem dX6_fromRow_4 : decode cX6_fromRow 4 = .ok (.ifCond .eq 10, 3) := by decide +kernel
theorem dX6_fromRow_7 : decode cX6_fromRow 7 = .ok (.iload_n 2, 1) := by decide +kernel
theorem dX6_fromRow_8 : decode cX6_fromRow 8 = .ok (.invokestatic 36, 3) := by decide +kernel
theorem dX6_fromRow_11 : decode cX6_fromRow 11 = .ok (.ifCond .ne 5, 3) := by decide +kernel
theorem dX6_fromRow_14 : decode cX6_fromRow 14 = .ok (.iconst (-1), 1) := by decide +kernel
theorem dX6_fromRow_15 : decode cX6_fromRow 15 = .ok (.ireturn, 1) := by decide +kernel
theorem dX6_fromRow_16 : decode cX6_fromRow 16 = .ok (.aload_n 0, 1) := by decide +kernel
theorem dX6_fromRow_17 : decode cX6_fromRow 17 = .ok (.getfield 18, 3) := by decide +kernel
theorem dX6_fromRow_20 : decode cX6_fromRow 20 = .ok (.iload_n 1, 1) := by decide +kernel
theorem dX6_fromRow_21 : decode cX6_fromRow 21 = .ok (.aaload, 1) := by decide +kernel
theorem dX6_fromRow_22 : decode cX6_fromRow 22 = .ok (.iload_n 2, 1) := by decide +kernel
theorem dX6_fromRow_23 : decode cX6_fromRow 23 = .ok (.invokevirtual 58, 3) := by decide +kernel
theorem dX6_fromRow_26 : decode cX6_fromRow 26 = .ok (.iconst 1, 1) := by decide +kernel
theorem dX6_fromRow_27 : decode cX6_fromRow 27 = .ok (.ireturn, 1) := by decide +kernel
theorem dX6_act_0 : decode cX6_act 0 = .ok (.iload_n 1, 1) := by decide +kernel
theorem dX6_act_1 : decode cX6_act 1 = .ok (.invokestatic 51, 3) := by decide +kernel
theorem dX6_act_4 : decode cX6_act 4 = .ok (.ifCond .ne 5, 3) := by decide +kernel
theorem dX6_act_7 : decode cX6_act 7 = .ok (.iconst (-1), 1) := by decide +kernel
theorem dX6_act_8 : decode cX6_act 8 = .ok (.ireturn, 1) := by decide +kernel
theorem dX6_act_9 : decode cX6_act 9 = .ok (.iload_n 2, 1) := by decide +kernel
theorem dX6_act_10 : decode cX6_act 10 = .ok (.ifCond .lt 17, 3) := by decide +kernel
theorem dX6_act_13 : decode cX6_act 13 = .ok (.iload_n 2, 1) := by decide +kernel
theorem dX6_act_14 : decode cX6_act 14 = .ok (.bipush 11, 2) := by decide +kernel
theorem dX6_act_16 : decode cX6_act 16 = .ok (.if_icmp .gt 11, 3) := by decide +kernel
theorem dX6_act_19 : decode cX6_act 19 = .ok (.iload_n 2, 1) := by decide +kernel
theorem dX6_act_20 : decode cX6_act 20 = .ok (.lload_n 3, 1) := by decide +kernel
theorem dX6_act_21 : decode cX6_act 21 = .ok (.invokestatic 62, 3) := by decide +kernel
theorem dX6_act_24 : decode cX6_act 24 = .ok (.ifCond .ne 6, 3) := by decide +kernel
theorem dX6_act_27 : decode cX6_act 27 = .ok (.bipush (-2), 2) := by decide +kernel
theorem dX6_act_29 : decode cX6_act 29 = .ok (.ireturn, 1) := by decide +kernel
theorem dX6_act_30 : decode cX6_act 30 = .ok (.aload_n 0, 1) := by decide +kernel
theorem dX6_act_31 : decode cX6_act 31 = .ok (.getfield 18, 3) := by decide +kernel
theorem dX6_act_34 : decode cX6_act 34 = .ok (.iload_n 1, 1) := by decide +kernel
theorem dX6_act_35 : decode cX6_act 35 = .ok (.aaload, 1) := by decide +kernel
theorem dX6_act_36 : decode cX6_act 36 = .ok (.getfield 66, 3) := by decide +kernel
theorem dX6_act_39 : decode cX6_act 39 = .ok (.bipush 10, 2) := by decide +kernel
theorem dX6_act_41 : decode cX6_act 41 = .ok (.if_icmp .lt 6, 3) := by decide +kernel
theorem dX6_act_44 : decode cX6_act 44 = .ok (.bipush (-4), 2) := by decide +kernel
theorem dX6_act_46 : decode cX6_act 46 = .ok (.ireturn, 1) := by decide +kernel
theorem dX6_act_47 : decode cX6_act 47 = .ok (.aload_n 0, 1) := by decide +kernel
theorem dX6_act_48 : decode cX6_act 48 = .ok (.getfield 18, 3) := by decide +kernel
theorem dX6_act_51 : decode cX6_act 51 = .ok (.iload_n 1, 1) := by decide +kernel
theorem dX6_act_52 : decode cX6_act 52 = .ok (.aaload, 1) := by decide +kernel
theorem dX6_act_53 : decode cX6_act 53 = .ok (.iload_n 2, 1) := by decide +kernel
theorem dX6_act_54 : decode cX6_act 54 = .ok (.lload_n 3, 1) := by decide +kernel
theorem dX6_act_55 : decode cX6_act 55 = .ok (.invokevirtual 70, 3) := by decide +kernel
theorem dX6_act_58 : decode cX6_act 58 = .ok (.aload_n 0, 1) := by decide +kernel
theorem dX6_act_59 : decode cX6_act 59 = .ok (.getfield 18, 3) := by decide +kernel
theorem dX6_act_62 : decode cX6_act 62 = .ok (.iload_n 1, 1) := by decide +kernel
theorem dX6_act_63 : decode cX6_act 63 = .ok (.aaload, 1) := by decide +kernel
theorem dX6_act_64 : decode cX6_act 64 = .ok (.getfield 66, 3) := by decide +kernel
theorem dX6_act_67 : decode cX6_act 67 = .ok (.ireturn, 1) := by decide +kernel
theorem dX6_twin_0 : decode cX6_twin 0 = .ok (.iload_n 1, 1) := by decide +kernel
theorem dX6_twin_1 : decode cX6_twin 1 = .ok (.invokestatic 51, 3) := by decide +kernel
theorem dX6_twin_4 : decode cX6_twin 4 = .ok (.ifCond .eq 10, 3) := by decide +kernel
theorem dX6_twin_7 : decode cX6_twin 7 = .ok (.iload_n 2, 1) := by decide +kernel
theorem dX6_twin_8 : decode cX6_twin 8 = .ok (.invokestatic 51, 3) := by decide +kernel
theorem dX6_twin_11 : decode cX6_twin 11 = .ok (.ifCond .ne 5, 3) := by decide +kernel
theorem dX6_twin_14 : decode cX6_twin 14 = .ok (.iconst (-1), 1) := by decide +kernel
theorem dX6_twin_15 : decode cX6_twin 15 = .ok (.ireturn, 1) := by decide +kernel
theorem dX6_twin_16 : decode cX6_twin 16 = .ok (.aload_n 0, 1) := by decide +kernel
theorem dX6_twin_17 : decode cX6_twin 17 = .ok (.getfield 18, 3) := by decide +kernel
theorem dX6_twin_20 : decode cX6_twin 20 = .ok (.iload_n 1, 1) := by decide +kernel
theorem dX6_twin_21 : decode cX6_twin 21 = .ok (.aaload, 1) := by decide +kernel
theorem dX6_twin_22 : decode cX6_twin 22 = .ok (.aload_n 0, 1) := by decide +kernel
theorem dX6_twin_23 : decode cX6_twin 23 = .ok (.getfield 18, 3) := by decide +kernel
theorem dX6_twin_26 : decode cX6_twin 26 = .ok (.iload_n 2, 1) := by decide +kernel
theorem dX6_twin_27 : decode cX6_twin 27 = .ok (.aaload, 1) := by decide +kernel
theorem dX6_twin_28 : decode cX6_twin 28 = .ok (.invokevirtual 73, 3) := by decide +kernel
theorem dX6_twin_31 : decode cX6_twin 31 = .ok (.aload_n 0, 1) := by decide +kernel
theorem dX6_twin_32 : decode cX6_twin 32 = .ok (.getfield 18, 3) := by decide +kernel
theorem dX6_twin_35 : decode cX6_twin 35 = .ok (.iload_n 1, 1) := by decide +kernel
theorem dX6_twin_36 : decode cX6_twin 36 = .ok (.aaload, 1) := by decide +kernel
theorem dX6_twin_37 : decode cX6_twin 37 = .ok (.getfield 66, 3) := by decide +kernel
theorem dX6_twin_40 : decode cX6_twin 40 = .ok (.ireturn, 1) := by decide +kernel
theorem dX6_actOf_0 : decode cX6_actOf 0 = .ok (.iload_n 1, 1) := by decide +kernel
theorem dX6_actOf_1 : decode cX6_actOf 1 = .ok (.invokestatic 51, 3) := by decide +kernel
theorem dX6_actOf_4 : decode cX6_actOf 4 = .ok (.ifCond .eq 16, 3) := by decide +kernel
theorem dX6_actOf_7 : decode cX6_actOf 7 = .ok (.aload_n 0, 1) := by decide +kernel
theorem dX6_actOf_8 : decode cX6_actOf 8 = .ok (.getfield 18, 3) := by decide +kernel
theorem dX6_actOf_11 : decode cX6_actOf 11 = .ok (.iload_n 1, 1) := by decide +kernel
theorem dX6_actOf_12 : decode cX6_actOf 12 = .ok (.aaload, 1) := by decide +kernel
theorem dX6_actOf_13 : decode cX6_actOf 13 = .ok (.iload_n 2, 1) := by decide +kernel
theorem dX6_actOf_14 : decode cX6_actOf 14 = .ok (.invokevirtual 77, 3) := by decide +kernel
theorem dX6_actOf_17 : decode cX6_actOf 17 = .ok (.ifCond .ne 5, 3) := by decide +kernel
theorem dX6_actOf_20 : decode cX6_actOf 20 = .ok (.iconst (-1), 1) := by decide +kernel
theorem dX6_actOf_21 : decode cX6_actOf 21 = .ok (.ireturn, 1) := by decide +kernel
theorem dX6_actOf_22 : decode cX6_actOf 22 = .ok (.aload_n 0, 1) := by decide +kernel
theorem dX6_actOf_23 : decode cX6_actOf 23 = .ok (.getfield 18, 3) := by decide +kernel
theorem dX6_actOf_26 : decode cX6_actOf 26 = .ok (.iload_n 1, 1) := by decide +kernel
theorem dX6_actOf_27 : decode cX6_actOf 27 = .ok (.aaload, 1) := by decide +kernel
theorem dX6_actOf_28 : decode cX6_actOf 28 = .ok (.getfield 78, 3) := by decide +kernel
theorem dX6_actOf_31 : decode cX6_actOf 31 = .ok (.iload_n 2, 1) := by decide +kernel
theorem dX6_actOf_32 : decode cX6_actOf 32 = .ok (.aaload, 1) := by decide +kernel
theorem dX6_actOf_33 : decode cX6_actOf 33 = .ok (.astore 4, 2) := by decide +kernel
theorem dX6_actOf_35 : decode cX6_actOf 35 = .ok (.iload_n 3, 1) := by decide +kernel
theorem dX6_actOf_36 : decode cX6_actOf 36 = .ok (.lookupswitch 42 #[(0, 28), (1, 36)], 28) := by decide +kernel
theorem dX6_actOf_64 : decode cX6_actOf 64 = .ok (.aload 4, 2) := by decide +kernel
theorem dX6_actOf_66 : decode cX6_actOf 66 = .ok (.getfield 82, 3) := by decide +kernel
theorem dX6_actOf_69 : decode cX6_actOf 69 = .ok (.iconst 0, 1) := by decide +kernel
theorem dX6_actOf_70 : decode cX6_actOf 70 = .ok (.iaload, 1) := by decide +kernel
theorem dX6_actOf_71 : decode cX6_actOf 71 = .ok (.ireturn, 1) := by decide +kernel
theorem dX6_actOf_72 : decode cX6_actOf 72 = .ok (.aload 4, 2) := by decide +kernel
theorem dX6_actOf_74 : decode cX6_actOf 74 = .ok (.getfield 87, 3) := by decide +kernel
theorem dX6_actOf_77 : decode cX6_actOf 77 = .ok (.ireturn, 1) := by decide +kernel
theorem dX6_actOf_78 : decode cX6_actOf 78 = .ok (.bipush (-2), 2) := by decide +kernel
theorem dX6_actOf_80 : decode cX6_actOf 80 = .ok (.ireturn, 1) := by decide +kernel
theorem dX6_number_0 : decode cX6_number 0 = .ok (.iload_n 1, 1) := by decide +kernel
theorem dX6_number_1 : decode cX6_number 1 = .ok (.invokestatic 51, 3) := by decide +kernel
theorem dX6_number_4 : decode cX6_number 4 = .ok (.ifCond .eq 16, 3) := by decide +kernel
theorem dX6_number_7 : decode cX6_number 7 = .ok (.aload_n 0, 1) := by decide +kernel
theorem dX6_number_8 : decode cX6_number 8 = .ok (.getfield 18, 3) := by decide +kernel
theorem dX6_number_11 : decode cX6_number 11 = .ok (.iload_n 1, 1) := by decide +kernel
theorem dX6_number_12 : decode cX6_number 12 = .ok (.aaload, 1) := by decide +kernel
theorem dX6_number_13 : decode cX6_number 13 = .ok (.iload_n 2, 1) := by decide +kernel
theorem dX6_number_14 : decode cX6_number 14 = .ok (.invokevirtual 77, 3) := by decide +kernel
theorem dX6_number_17 : decode cX6_number 17 = .ok (.ifCond .ne 5, 3) := by decide +kernel
theorem dX6_number_20 : decode cX6_number 20 = .ok (.lconst 0, 1) := by decide +kernel
theorem dX6_number_21 : decode cX6_number 21 = .ok (.lreturn, 1) := by decide +kernel
theorem dX6_number_22 : decode cX6_number 22 = .ok (.aload_n 0, 1) := by decide +kernel
theorem dX6_number_23 : decode cX6_number 23 = .ok (.getfield 18, 3) := by decide +kernel
theorem dX6_number_26 : decode cX6_number 26 = .ok (.iload_n 1, 1) := by decide +kernel
theorem dX6_number_27 : decode cX6_number 27 = .ok (.aaload, 1) := by decide +kernel
theorem dX6_number_28 : decode cX6_number 28 = .ok (.getfield 78, 3) := by decide +kernel
theorem dX6_number_31 : decode cX6_number 31 = .ok (.iload_n 2, 1) := by decide +kernel
theorem dX6_number_32 : decode cX6_number 32 = .ok (.aaload, 1) := by decide +kernel
theorem dX6_number_33 : decode cX6_number 33 = .ok (.astore 4, 2) := by decide +kernel
theorem dX6_number_35 : decode cX6_number 35 = .ok (.iload_n 3, 1) := by decide +kernel
theorem dX6_number_36 : decode cX6_number 36 = .ok (.ifCond .lt 22, 3) := by decide +kernel
theorem dX6_number_39 : decode cX6_number 39 = .ok (.iload_n 3, 1) := by decide +kernel
theorem dX6_number_40 : decode cX6_number 40 = .ok (.aload 4, 2) := by decide +kernel
theorem dX6_number_42 : decode cX6_number 42 = .ok (.getfield 87, 3) := by decide +kernel
theorem dX6_number_45 : decode cX6_number 45 = .ok (.if_icmp .ge 13, 3) := by decide +kernel
theorem dX6_number_48 : decode cX6_number 48 = .ok (.aload 4, 2) := by decide +kernel
theorem dX6_number_50 : decode cX6_number 50 = .ok (.getfield 90, 3) := by decide +kernel
theorem dX6_number_53 : decode cX6_number 53 = .ok (.iload_n 3, 1) := by decide +kernel
theorem dX6_number_54 : decode cX6_number 54 = .ok (.laload, 1) := by decide +kernel
theorem dX6_number_55 : decode cX6_number 55 = .ok (.goto 4, 3) := by decide +kernel
theorem dX6_number_58 : decode cX6_number 58 = .ok (.lconst 0, 1) := by decide +kernel
theorem dX6_number_59 : decode cX6_number 59 = .ok (.lreturn, 1) := by decide +kernel
theorem dX6_run_0 : decode cX6_run 0 = .ok (.iload_n 1, 1) := by decide +kernel
theorem dX6_run_1 : decode cX6_run 1 = .ok (.invokestatic 51, 3) := by decide +kernel
theorem dX6_run_4 : decode cX6_run 4 = .ok (.ifCond .ne 5, 3) := by decide +kernel
theorem dX6_run_7 : decode cX6_run 7 = .ok (.iconst (-1), 1) := by decide +kernel
theorem dX6_run_8 : decode cX6_run 8 = .ok (.ireturn, 1) := by decide +kernel
theorem dX6_run_9 : decode cX6_run 9 = .ok (.iload_n 2, 1) := by decide +kernel
theorem dX6_run_10 : decode cX6_run 10 = .ok (.ifCond .lt 8, 3) := by decide +kernel
theorem dX6_run_13 : decode cX6_run 13 = .ok (.iload_n 2, 1) := by decide +kernel
theorem dX6_run_14 : decode cX6_run 14 = .ok (.iconst 4, 1) := by decide +kernel
theorem dX6_run_15 : decode cX6_run 15 = .ok (.if_icmp .le 6, 3) := by decide +kernel
theorem dX6_run_18 : decode cX6_run 18 = .ok (.bipush (-2), 2) := by decide +kernel
theorem dX6_run_20 : decode cX6_run 20 = .ok (.ireturn, 1) := by decide +kernel
theorem dX6_run_21 : decode cX6_run 21 = .ok (.aload_n 0, 1) := by decide +kernel
theorem dX6_run_22 : decode cX6_run 22 = .ok (.getfield 32, 3) := by decide +kernel
theorem dX6_run_25 : decode cX6_run 25 = .ok (.aload_n 0, 1) := by decide +kernel
theorem dX6_run_26 : decode cX6_run 26 = .ok (.getfield 18, 3) := by decide +kernel
theorem dX6_run_29 : decode cX6_run 29 = .ok (.iload_n 1, 1) := by decide +kernel
theorem dX6_run_30 : decode cX6_run 30 = .ok (.aaload, 1) := by decide +kernel
theorem dX6_run_31 : decode cX6_run 31 = .ok (.iload_n 2, 1) := by decide +kernel
theorem dX6_run_32 : decode cX6_run 32 = .ok (.invokevirtual 94, 3) := by decide +kernel
theorem dX6_run_35 : decode cX6_run 35 = .ok (.istore_n 3, 1) := by decide +kernel
theorem dX6_run_36 : decode cX6_run 36 = .ok (.aload_n 0, 1) := by decide +kernel
theorem dX6_run_37 : decode cX6_run 37 = .ok (.iload_n 3, 1) := by decide +kernel
theorem dX6_run_38 : decode cX6_run 38 = .ok (.invokevirtual 98, 3) := by decide +kernel
theorem dX6_run_41 : decode cX6_run 41 = .ok (.iload_n 3, 1) := by decide +kernel
theorem dX6_run_42 : decode cX6_run 42 = .ok (.ireturn, 1) := by decide +kernel
theorem dX6_value_0 : decode cX6_value 0 = .ok (.aload_n 0, 1) := by decide +kernel
theorem dX6_value_1 : decode cX6_value 1 = .ok (.getfield 101, 3) := by decide +kernel
theorem dX6_value_4 : decode cX6_value 4 = .ok (.lreturn, 1) := by decide +kernel
theorem dX6_ran_0 : decode cX6_ran 0 = .ok (.iload_n 1, 1) := by decide +kernel
theorem dX6_ran_1 : decode cX6_ran 1 = .ok (.ifCond .lt 8, 3) := by decide +kernel
theorem dX6_ran_4 : decode cX6_ran 4 = .ok (.iload_n 1, 1) := by decide +kernel
theorem dX6_ran_5 : decode cX6_ran 5 = .ok (.iconst 3, 1) := by decide +kernel
theorem dX6_ran_6 : decode cX6_ran 6 = .ok (.if_icmp .le 6, 3) := by decide +kernel
theorem dX6_ran_9 : decode cX6_ran 9 = .ok (.bipush (-2), 2) := by decide +kernel
theorem dX6_ran_11 : decode cX6_ran 11 = .ok (.ireturn, 1) := by decide +kernel
theorem dX6_ran_12 : decode cX6_ran 12 = .ok (.aload_n 0, 1) := by decide +kernel
theorem dX6_ran_13 : decode cX6_ran 13 = .ok (.getfield 105, 3) := by decide +kernel
theorem dX6_ran_16 : decode cX6_ran 16 = .ok (.ifCond .ne 6, 3) := by decide +kernel
theorem dX6_ran_19 : decode cX6_ran 19 = .ok (.bipush (-3), 2) := by decide +kernel
theorem dX6_ran_21 : decode cX6_ran 21 = .ok (.ireturn, 1) := by decide +kernel
theorem dX6_ran_22 : decode cX6_ran 22 = .ok (.iload_n 1, 1) := by decide +kernel
theorem dX6_ran_23 : decode cX6_ran 23 = .ok (.tableswitch 52 0 2 #[25, 33, 41], 25) := by decide +kernel
theorem dX6_ran_48 : decode cX6_ran 48 = .ok (.aload_n 0, 1) := by decide +kernel
theorem dX6_ran_49 : decode cX6_ran 49 = .ok (.getfield 32, 3) := by decide +kernel
theorem dX6_ran_52 : decode cX6_ran 52 = .ok (.getfield 108, 3) := by decide +kernel
theorem dX6_ran_55 : decode cX6_ran 55 = .ok (.ireturn, 1) := by decide +kernel
theorem dX6_ran_56 : decode cX6_ran 56 = .ok (.aload_n 0, 1) := by decide +kernel
theorem dX6_ran_57 : decode cX6_ran 57 = .ok (.getfield 32, 3) := by decide +kernel
theorem dX6_ran_60 : decode cX6_ran 60 = .ok (.getfield 111, 3) := by decide +kernel
theorem dX6_ran_63 : decode cX6_ran 63 = .ok (.ireturn, 1) := by decide +kernel
theorem dX6_ran_64 : decode cX6_ran 64 = .ok (.aload_n 0, 1) := by decide +kernel
theorem dX6_ran_65 : decode cX6_ran 65 = .ok (.getfield 32, 3) := by decide +kernel
theorem dX6_ran_68 : decode cX6_ran 68 = .ok (.getfield 114, 3) := by decide +kernel
theorem dX6_ran_71 : decode cX6_ran 71 = .ok (.getfield 118, 3) := by decide +kernel
theorem dX6_ran_74 : decode cX6_ran 74 = .ok (.ireturn, 1) := by decide +kernel
theorem dX6_ran_75 : decode cX6_ran 75 = .ok (.aload_n 0, 1) := by decide +kernel
theorem dX6_ran_76 : decode cX6_ran 76 = .ok (.getfield 32, 3) := by decide +kernel
theorem dX6_ran_79 : decode cX6_ran 79 = .ok (.getfield 123, 3) := by decide +kernel
theorem dX6_ran_82 : decode cX6_ran 82 = .ok (.ireturn, 1) := by decide +kernel
theorem dX6_phase_0 : decode cX6_phase 0 = .ok (.iload_n 1, 1) := by decide +kernel
theorem dX6_phase_1 : decode cX6_phase 1 = .ok (.iconst (-1), 1) := by decide +kernel
theorem dX6_phase_2 : decode cX6_phase 2 = .ok (.if_icmp .ne 10, 3) := by decide +kernel
theorem dX6_phase_5 : decode cX6_phase 5 = .ok (.aload_n 0, 1) := by decide +kernel
theorem dX6_phase_6 : decode cX6_phase 6 = .ok (.iconst 0, 1) := by decide +kernel
theorem dX6_phase_7 : decode cX6_phase 7 = .ok (.putfield 126, 3) := by decide +kernel
theorem dX6_phase_10 : decode cX6_phase 10 = .ok (.iconst 0, 1) := by decide +kernel
theorem dX6_phase_11 : decode cX6_phase 11 = .ok (.ireturn, 1) := by decide +kernel
theorem dX6_phase_12 : decode cX6_phase 12 = .ok (.iload_n 1, 1) := by decide +kernel
theorem dX6_phase_13 : decode cX6_phase 13 = .ok (.invokestatic 129, 3) := by decide +kernel
theorem dX6_phase_16 : decode cX6_phase 16 = .ok (.ifCond .ne 6, 3) := by decide +kernel
theorem dX6_phase_19 : decode cX6_phase 19 = .ok (.bipush (-2), 2) := by decide +kernel
theorem dX6_phase_21 : decode cX6_phase 21 = .ok (.ireturn, 1) := by decide +kernel
theorem dX6_phase_22 : decode cX6_phase 22 = .ok (.aload_n 0, 1) := by decide +kernel
theorem dX6_phase_23 : decode cX6_phase 23 = .ok (.getfield 126, 3) := by decide +kernel
theorem dX6_phase_26 : decode cX6_phase 26 = .ok (.bipush 8, 2) := by decide +kernel
theorem dX6_phase_28 : decode cX6_phase 28 = .ok (.if_icmp .lt 6, 3) := by decide +kernel
theorem dX6_phase_31 : decode cX6_phase 31 = .ok (.bipush (-4), 2) := by decide +kernel
theorem dX6_phase_33 : decode cX6_phase 33 = .ok (.ireturn, 1) := by decide +kernel
theorem dX6_phase_34 : decode cX6_phase 34 = .ok (.aload_n 0, 1) := by decide +kernel
theorem dX6_phase_35 : decode cX6_phase 35 = .ok (.getfield 23, 3) := by decide +kernel
theorem dX6_phase_38 : decode cX6_phase 38 = .ok (.aload_n 0, 1) := by decide +kernel
theorem dX6_phase_39 : decode cX6_phase 39 = .ok (.getfield 126, 3) := by decide +kernel
theorem dX6_phase_42 : decode cX6_phase 42 = .ok (.iload_n 1, 1) := by decide +kernel
theorem dX6_phase_43 : decode cX6_phase 43 = .ok (.iastore, 1) := by decide +kernel
theorem dX6_phase_44 : decode cX6_phase 44 = .ok (.aload_n 0, 1) := by decide +kernel
theorem dX6_phase_45 : decode cX6_phase 45 = .ok (.dup, 1) := by decide +kernel
theorem dX6_phase_46 : decode cX6_phase 46 = .ok (.getfield 126, 3) := by decide +kernel
theorem dX6_phase_49 : decode cX6_phase 49 = .ok (.iconst 1, 1) := by decide +kernel
theorem dX6_phase_50 : decode cX6_phase 50 = .ok (.iadd, 1) := by decide +kernel
theorem dX6_phase_51 : decode cX6_phase 51 = .ok (.putfield 126, 3) := by decide +kernel
theorem dX6_phase_54 : decode cX6_phase 54 = .ok (.aload_n 0, 1) := by decide +kernel
theorem dX6_phase_55 : decode cX6_phase 55 = .ok (.getfield 126, 3) := by decide +kernel
theorem dX6_phase_58 : decode cX6_phase 58 = .ok (.ireturn, 1) := by decide +kernel
theorem dX6_why_0 : decode cX6_why 0 = .ok (.iload_n 1, 1) := by decide +kernel
theorem dX6_why_1 : decode cX6_why 1 = .ok (.invokestatic 51, 3) := by decide +kernel
theorem dX6_why_4 : decode cX6_why 4 = .ok (.ifCond .eq 16, 3) := by decide +kernel
theorem dX6_why_7 : decode cX6_why 7 = .ok (.aload_n 0, 1) := by decide +kernel
theorem dX6_why_8 : decode cX6_why 8 = .ok (.getfield 18, 3) := by decide +kernel
theorem dX6_why_11 : decode cX6_why 11 = .ok (.iload_n 1, 1) := by decide +kernel
theorem dX6_why_12 : decode cX6_why 12 = .ok (.aaload, 1) := by decide +kernel
theorem dX6_why_13 : decode cX6_why 13 = .ok (.iload_n 2, 1) := by decide +kernel
theorem dX6_why_14 : decode cX6_why 14 = .ok (.invokevirtual 77, 3) := by decide +kernel
theorem dX6_why_17 : decode cX6_why 17 = .ok (.ifCond .ne 5, 3) := by decide +kernel
theorem dX6_why_20 : decode cX6_why 20 = .ok (.iconst (-1), 1) := by decide +kernel
theorem dX6_why_21 : decode cX6_why 21 = .ok (.ireturn, 1) := by decide +kernel
theorem dX6_why_22 : decode cX6_why 22 = .ok (.iload_n 3, 1) := by decide +kernel
theorem dX6_why_23 : decode cX6_why 23 = .ok (.invokestatic 129, 3) := by decide +kernel
theorem dX6_why_26 : decode cX6_why 26 = .ok (.ifCond .ne 6, 3) := by decide +kernel
theorem dX6_why_29 : decode cX6_why 29 = .ok (.bipush (-2), 2) := by decide +kernel
theorem dX6_why_31 : decode cX6_why 31 = .ok (.ireturn, 1) := by decide +kernel
theorem dX6_why_32 : decode cX6_why 32 = .ok (.iload_n 3, 1) := by decide +kernel
theorem dX6_why_33 : decode cX6_why 33 = .ok (.bipush 7, 2) := by decide +kernel
theorem dX6_why_35 : decode cX6_why 35 = .ok (.if_icmp .eq 20, 3) := by decide +kernel
theorem dX6_why_38 : decode cX6_why 38 = .ok (.aload_n 0, 1) := by decide +kernel
theorem dX6_why_39 : decode cX6_why 39 = .ok (.getfield 18, 3) := by decide +kernel
theorem dX6_why_42 : decode cX6_why 42 = .ok (.iload_n 1, 1) := by decide +kernel
theorem dX6_why_43 : decode cX6_why 43 = .ok (.aaload, 1) := by decide +kernel
theorem dX6_why_44 : decode cX6_why 44 = .ok (.iload_n 2, 1) := by decide +kernel
theorem dX6_why_45 : decode cX6_why 45 = .ok (.iconst 1, 1) := by decide +kernel
theorem dX6_why_46 : decode cX6_why 46 = .ok (.iadd, 1) := by decide +kernel
theorem dX6_why_47 : decode cX6_why 47 = .ok (.invokevirtual 77, 3) := by decide +kernel
theorem dX6_why_50 : decode cX6_why 50 = .ok (.ifCond .ne 5, 3) := by decide +kernel
theorem dX6_why_53 : decode cX6_why 53 = .ok (.iconst (-1), 1) := by decide +kernel
theorem dX6_why_54 : decode cX6_why 54 = .ok (.ireturn, 1) := by decide +kernel
theorem dX6_why_55 : decode cX6_why 55 = .ok (.aload_n 0, 1) := by decide +kernel
theorem dX6_why_56 : decode cX6_why 56 = .ok (.getfield 18, 3) := by decide +kernel
theorem dX6_why_59 : decode cX6_why 59 = .ok (.iload_n 1, 1) := by decide +kernel
theorem dX6_why_60 : decode cX6_why 60 = .ok (.aaload, 1) := by decide +kernel
theorem dX6_why_61 : decode cX6_why 61 = .ok (.iload_n 2, 1) := by decide +kernel
theorem dX6_why_62 : decode cX6_why 62 = .ok (.iload_n 3, 1) := by decide +kernel
theorem dX6_why_63 : decode cX6_why 63 = .ok (.invokestatic 132, 3) := by decide +kernel
theorem dX6_why_66 : decode cX6_why 66 = .ok (.ireturn, 1) := by decide +kernel
theorem dX6_fuse_0 : decode cX6_fuse 0 = .ok (.iload_n 1, 1) := by decide +kernel
theorem dX6_fuse_1 : decode cX6_fuse 1 = .ok (.invokestatic 51, 3) := by decide +kernel
theorem dX6_fuse_4 : decode cX6_fuse 4 = .ok (.ifCond .ne 5, 3) := by decide +kernel
theorem dX6_fuse_7 : decode cX6_fuse 7 = .ok (.iconst (-1), 1) := by decide +kernel
theorem dX6_fuse_8 : decode cX6_fuse 8 = .ok (.ireturn, 1) := by decide +kernel
theorem dX6_fuse_9 : decode cX6_fuse 9 = .ok (.iconst 0, 1) := by decide +kernel
theorem dX6_fuse_10 : decode cX6_fuse 10 = .ok (.istore_n 2, 1) := by decide +kernel
theorem dX6_fuse_11 : decode cX6_fuse 11 = .ok (.iconst 0, 1) := by decide +kernel
theorem dX6_fuse_12 : decode cX6_fuse 12 = .ok (.istore_n 3, 1) := by decide +kernel
theorem dX6_fuse_13 : decode cX6_fuse 13 = .ok (.iload_n 3, 1) := by decide +kernel
theorem dX6_fuse_14 : decode cX6_fuse 14 = .ok (.aload_n 0, 1) := by decide +kernel
theorem dX6_fuse_15 : decode cX6_fuse 15 = .ok (.getfield 126, 3) := by decide +kernel
theorem dX6_fuse_18 : decode cX6_fuse 18 = .ok (.if_icmp .ge 27, 3) := by decide +kernel
theorem dX6_fuse_21 : decode cX6_fuse 21 = .ok (.iload_n 2, 1) := by decide +kernel
theorem dX6_fuse_22 : decode cX6_fuse 22 = .ok (.aload_n 0, 1) := by decide +kernel
theorem dX6_fuse_23 : decode cX6_fuse 23 = .ok (.getfield 18, 3) := by decide +kernel
theorem dX6_fuse_26 : decode cX6_fuse 26 = .ok (.iload_n 1, 1) := by decide +kernel
theorem dX6_fuse_27 : decode cX6_fuse 27 = .ok (.aaload, 1) := by decide +kernel
theorem dX6_fuse_28 : decode cX6_fuse 28 = .ok (.aload_n 0, 1) := by decide +kernel
theorem dX6_fuse_29 : decode cX6_fuse 29 = .ok (.getfield 23, 3) := by decide +kernel
theorem dX6_fuse_32 : decode cX6_fuse 32 = .ok (.iload_n 3, 1) := by decide +kernel
theorem dX6_fuse_33 : decode cX6_fuse 33 = .ok (.iaload, 1) := by decide +kernel
theorem dX6_fuse_34 : decode cX6_fuse 34 = .ok (.invokestatic 138, 3) := by decide +kernel
theorem dX6_fuse_37 : decode cX6_fuse 37 = .ok (.iadd, 1) := by decide +kernel
theorem dX6_fuse_38 : decode cX6_fuse 38 = .ok (.istore_n 2, 1) := by decide +kernel
theorem dX6_fuse_39 : decode cX6_fuse 39 = .ok (.iinc 3 1, 3) := by decide +kernel
theorem dX6_fuse_42 : decode cX6_fuse 42 = .ok (.goto (-29), 3) := by decide +kernel
theorem dX6_fuse_45 : decode cX6_fuse 45 = .ok (.iload_n 2, 1) := by decide +kernel
theorem dX6_fuse_46 : decode cX6_fuse 46 = .ok (.ireturn, 1) := by decide +kernel
theorem dX6_pipe_0 : decode cX6_pipe 0 = .ok (.iload_n 1, 1) := by decide +kernel
theorem dX6_pipe_1 : decode cX6_pipe 1 = .ok (.invokestatic 51, 3) := by decide +kernel
theorem dX6_pipe_4 : decode cX6_pipe 4 = .ok (.ifCond .ne 5, 3) := by decide +kernel
theorem dX6_pipe_7 : decode cX6_pipe 7 = .ok (.iconst (-1), 1) := by decide +kernel
theorem dX6_pipe_8 : decode cX6_pipe 8 = .ok (.ireturn, 1) := by decide +kernel
theorem dX6_pipe_9 : decode cX6_pipe 9 = .ok (.iload_n 2, 1) := by decide +kernel
theorem dX6_pipe_10 : decode cX6_pipe 10 = .ok (.lookupswitch 46 #[(0, 26), (1, 36)], 26) := by decide +kernel
theorem dX6_pipe_36 : decode cX6_pipe 36 = .ok (.aload_n 0, 1) := by decide +kernel
theorem dX6_pipe_37 : decode cX6_pipe 37 = .ok (.getfield 18, 3) := by decide +kernel
theorem dX6_pipe_40 : decode cX6_pipe 40 = .ok (.iload_n 1, 1) := by decide +kernel
theorem dX6_pipe_41 : decode cX6_pipe 41 = .ok (.aaload, 1) := by decide +kernel
theorem dX6_pipe_42 : decode cX6_pipe 42 = .ok (.getfield 66, 3) := by decide +kernel
theorem dX6_pipe_45 : decode cX6_pipe 45 = .ok (.ireturn, 1) := by decide +kernel
theorem dX6_pipe_46 : decode cX6_pipe 46 = .ok (.aload_n 0, 1) := by decide +kernel
theorem dX6_pipe_47 : decode cX6_pipe 47 = .ok (.getfield 18, 3) := by decide +kernel
theorem dX6_pipe_50 : decode cX6_pipe 50 = .ok (.iload_n 1, 1) := by decide +kernel
theorem dX6_pipe_51 : decode cX6_pipe 51 = .ok (.aaload, 1) := by decide +kernel
theorem dX6_pipe_52 : decode cX6_pipe 52 = .ok (.getfield 141, 3) := by decide +kernel
theorem dX6_pipe_55 : decode cX6_pipe 55 = .ok (.ireturn, 1) := by decide +kernel
theorem dX6_pipe_56 : decode cX6_pipe 56 = .ok (.bipush (-2), 2) := by decide +kernel
theorem dX6_pipe_58 : decode cX6_pipe 58 = .ok (.ireturn, 1) := by decide +kernel
theorem dX6_count_0 : decode cX6_count 0 = .ok (.iload_n 1, 1) := by decide +kernel
theorem dX6_count_1 : decode cX6_count 1 = .ok (.tableswitch 51 0 3 #[31, 36, 41, 46], 31) := by decide +kernel
theorem dX6_count_32 : decode cX6_count 32 = .ok (.aload_n 0, 1) := by decide +kernel
theorem dX6_count_33 : decode cX6_count 33 = .ok (.getfield 105, 3) := by decide +kernel
theorem dX6_count_36 : decode cX6_count 36 = .ok (.ireturn, 1) := by decide +kernel
theorem dX6_count_37 : decode cX6_count 37 = .ok (.aload_n 0, 1) := by decide +kernel
theorem dX6_count_38 : decode cX6_count 38 = .ok (.getfield 144, 3) := by decide +kernel
theorem dX6_count_41 : decode cX6_count 41 = .ok (.ireturn, 1) := by decide +kernel
theorem dX6_count_42 : decode cX6_count 42 = .ok (.aload_n 0, 1) := by decide +kernel
theorem dX6_count_43 : decode cX6_count 43 = .ok (.getfield 147, 3) := by decide +kernel
theorem dX6_count_46 : decode cX6_count 46 = .ok (.ireturn, 1) := by decide +kernel
theorem dX6_count_47 : decode cX6_count 47 = .ok (.aload_n 0, 1) := by decide +kernel
theorem dX6_count_48 : decode cX6_count 48 = .ok (.getfield 126, 3) := by decide +kernel
theorem dX6_count_51 : decode cX6_count 51 = .ok (.ireturn, 1) := by decide +kernel
theorem dX6_count_52 : decode cX6_count 52 = .ok (.bipush (-2), 2) := by decide +kernel
theorem dX6_count_54 : decode cX6_count 54 = .ok (.ireturn, 1) := by decide +kernel
theorem dX6_mean_0 : decode cX6_mean 0 = .ok (.aload_n 0, 1) := by decide +kernel
theorem dX6_mean_1 : decode cX6_mean 1 = .ok (.getfield 150, 3) := by decide +kernel
theorem dX6_mean_4 : decode cX6_mean 4 = .ok (.ifCond .ne 13, 3) := by decide +kernel
theorem dX6_mean_7 : decode cX6_mean 7 = .ok (.new 153, 3) := by decide +kernel
theorem dX6_mean_10 : decode cX6_mean 10 = .ok (.dup, 1) := by decide +kernel
theorem dX6_mean_11 : decode cX6_mean 11 = .ok (.ldc 155, 2) := by decide +kernel
theorem dX6_mean_13 : decode cX6_mean 13 = .ok (.invokespecial 157, 3) := by decide +kernel
theorem dX6_mean_16 : decode cX6_mean 16 = .ok (.athrow, 1) := by decide +kernel
theorem dX6_mean_17 : decode cX6_mean 17 = .ok (.aload_n 0, 1) := by decide +kernel
theorem dX6_mean_18 : decode cX6_mean 18 = .ok (.getfield 160, 3) := by decide +kernel
theorem dX6_mean_21 : decode cX6_mean 21 = .ok (.aload_n 0, 1) := by decide +kernel
theorem dX6_mean_22 : decode cX6_mean 22 = .ok (.getfield 150, 3) := by decide +kernel
theorem dX6_mean_25 : decode cX6_mean 25 = .ok (.idiv, 1) := by decide +kernel
theorem dX6_mean_26 : decode cX6_mean 26 = .ok (.ireturn, 1) := by decide +kernel
theorem dX6_keepBook_0 : decode cX6_keepBook 0 = .ok (.aload_n 0, 1) := by decide +kernel
theorem dX6_keepBook_1 : decode cX6_keepBook 1 = .ok (.dup, 1) := by decide +kernel
theorem dX6_keepBook_2 : decode cX6_keepBook 2 = .ok (.getfield 105, 3) := by decide +kernel
theorem dX6_keepBook_5 : decode cX6_keepBook 5 = .ok (.iconst 1, 1) := by decide +kernel
theorem dX6_keepBook_6 : decode cX6_keepBook 6 = .ok (.iadd, 1) := by decide +kernel
theorem dX6_keepBook_7 : decode cX6_keepBook 7 = .ok (.putfield 105, 3) := by decide +kernel
theorem dX6_keepBook_10 : decode cX6_keepBook 10 = .ok (.iload_n 1, 1) := by decide +kernel
theorem dX6_keepBook_11 : decode cX6_keepBook 11 = .ok (.bipush (-20), 2) := by decide +kernel
theorem dX6_keepBook_13 : decode cX6_keepBook 13 = .ok (.if_icmp .ne 16, 3) := by decide +kernel
theorem dX6_keepBook_16 : decode cX6_keepBook 16 = .ok (.aload_n 0, 1) := by decide +kernel
theorem dX6_keepBook_17 : decode cX6_keepBook 17 = .ok (.dup, 1) := by decide +kernel
theorem dX6_keepBook_18 : decode cX6_keepBook 18 = .ok (.getfield 147, 3) := by decide +kernel
theorem dX6_keepBook_21 : decode cX6_keepBook 21 = .ok (.iconst 1, 1) := by decide +kernel
theorem dX6_keepBook_22 : decode cX6_keepBook 22 = .ok (.iadd, 1) := by decide +kernel
theorem dX6_keepBook_23 : decode cX6_keepBook 23 = .ok (.putfield 147, 3) := by decide +kernel
theorem dX6_keepBook_26 : decode cX6_keepBook 26 = .ok (.goto 46, 3) := by decide +kernel
theorem dX6_keepBook_29 : decode cX6_keepBook 29 = .ok (.iload_n 1, 1) := by decide +kernel
theorem dX6_keepBook_30 : decode cX6_keepBook 30 = .ok (.ifCond .ge 16, 3) := by decide +kernel
theorem dX6_keepBook_33 : decode cX6_keepBook 33 = .ok (.aload_n 0, 1) := by decide +kernel
theorem dX6_keepBook_34 : decode cX6_keepBook 34 = .ok (.dup, 1) := by decide +kernel
theorem dX6_keepBook_35 : decode cX6_keepBook 35 = .ok (.getfield 144, 3) := by decide +kernel
theorem dX6_keepBook_38 : decode cX6_keepBook 38 = .ok (.iconst 1, 1) := by decide +kernel
theorem dX6_keepBook_39 : decode cX6_keepBook 39 = .ok (.iadd, 1) := by decide +kernel
theorem dX6_keepBook_40 : decode cX6_keepBook 40 = .ok (.putfield 144, 3) := by decide +kernel
theorem dX6_keepBook_43 : decode cX6_keepBook 43 = .ok (.goto 29, 3) := by decide +kernel
theorem dX6_keepBook_46 : decode cX6_keepBook 46 = .ok (.aload_n 0, 1) := by decide +kernel
theorem dX6_keepBook_47 : decode cX6_keepBook 47 = .ok (.dup, 1) := by decide +kernel
theorem dX6_keepBook_48 : decode cX6_keepBook 48 = .ok (.getfield 150, 3) := by decide +kernel
theorem dX6_keepBook_51 : decode cX6_keepBook 51 = .ok (.iconst 1, 1) := by decide +kernel
theorem dX6_keepBook_52 : decode cX6_keepBook 52 = .ok (.iadd, 1) := by decide +kernel
theorem dX6_keepBook_53 : decode cX6_keepBook 53 = .ok (.putfield 150, 3) := by decide +kernel
theorem dX6_keepBook_56 : decode cX6_keepBook 56 = .ok (.aload_n 0, 1) := by decide +kernel
theorem dX6_keepBook_57 : decode cX6_keepBook 57 = .ok (.dup, 1) := by decide +kernel
theorem dX6_keepBook_58 : decode cX6_keepBook 58 = .ok (.getfield 160, 3) := by decide +kernel
theorem dX6_keepBook_61 : decode cX6_keepBook 61 = .ok (.aload_n 0, 1) := by decide +kernel
theorem dX6_keepBook_62 : decode cX6_keepBook 62 = .ok (.getfield 32, 3) := by decide +kernel
theorem dX6_keepBook_65 : decode cX6_keepBook 65 = .ok (.getfield 108, 3) := by decide +kernel
theorem dX6_keepBook_68 : decode cX6_keepBook 68 = .ok (.iadd, 1) := by decide +kernel
theorem dX6_keepBook_69 : decode cX6_keepBook 69 = .ok (.putfield 160, 3) := by decide +kernel
theorem dX6_keepBook_72 : decode cX6_keepBook 72 = .ok (.iload_n 1, 1) := by decide +kernel
theorem dX6_keepBook_73 : decode cX6_keepBook 73 = .ok (.ifCond .ne 14, 3) := by decide +kernel
theorem dX6_keepBook_76 : decode cX6_keepBook 76 = .ok (.aload_n 0, 1) := by decide +kernel
theorem dX6_keepBook_77 : decode cX6_keepBook 77 = .ok (.aload_n 0, 1) := by decide +kernel
theorem dX6_keepBook_78 : decode cX6_keepBook 78 = .ok (.getfield 32, 3) := by decide +kernel
theorem dX6_keepBook_81 : decode cX6_keepBook 81 = .ok (.getfield 163, 3) := by decide +kernel
theorem dX6_keepBook_84 : decode cX6_keepBook 84 = .ok (.putfield 101, 3) := by decide +kernel
theorem dX6_keepBook_87 : decode cX6_keepBook 87 = .ok (.return_, 1) := by decide +kernel
theorem dX6_isRow_0 : decode cX6_isRow 0 = .ok (.iload_n 0, 1) := by decide +kernel
theorem dX6_isRow_1 : decode cX6_isRow 1 = .ok (.ifCond .lt 13, 3) := by decide +kernel
theorem dX6_isRow_4 : decode cX6_isRow 4 = .ok (.iload_n 0, 1) := by decide +kernel
theorem dX6_isRow_5 : decode cX6_isRow 5 = .ok (.bipush 6, 2) := by decide +kernel
theorem dX6_isRow_7 : decode cX6_isRow 7 = .ok (.if_icmp .ge 7, 3) := by decide +kernel
theorem dX6_isRow_10 : decode cX6_isRow 10 = .ok (.iconst 1, 1) := by decide +kernel
theorem dX6_isRow_11 : decode cX6_isRow 11 = .ok (.goto 4, 3) := by decide +kernel
theorem dX6_isRow_14 : decode cX6_isRow 14 = .ok (.iconst 0, 1) := by decide +kernel
theorem dX6_isRow_15 : decode cX6_isRow 15 = .ok (.ireturn, 1) := by decide +kernel
theorem dX6_isPipe_0 : decode cX6_isPipe 0 = .ok (.iload_n 0, 1) := by decide +kernel
theorem dX6_isPipe_1 : decode cX6_isPipe 1 = .ok (.ifCond .lt 12, 3) := by decide +kernel
theorem dX6_isPipe_4 : decode cX6_isPipe 4 = .ok (.iload_n 0, 1) := by decide +kernel
theorem dX6_isPipe_5 : decode cX6_isPipe 5 = .ok (.iconst 4, 1) := by decide +kernel
theorem dX6_isPipe_6 : decode cX6_isPipe 6 = .ok (.if_icmp .ge 7, 3) := by decide +kernel
theorem dX6_isPipe_9 : decode cX6_isPipe 9 = .ok (.iconst 1, 1) := by decide +kernel
theorem dX6_isPipe_10 : decode cX6_isPipe 10 = .ok (.goto 4, 3) := by decide +kernel
theorem dX6_isPipe_13 : decode cX6_isPipe 13 = .ok (.iconst 0, 1) := by decide +kernel
theorem dX6_isPipe_14 : decode cX6_isPipe 14 = .ok (.ireturn, 1) := by decide +kernel
theorem dX6_isRule_0 : decode cX6_isRule 0 = .ok (.iload_n 0, 1) := by decide +kernel
theorem dX6_isRule_1 : decode cX6_isRule 1 = .ok (.ifCond .lt 13, 3) := by decide +kernel
theorem dX6_isRule_4 : decode cX6_isRule 4 = .ok (.iload_n 0, 1) := by decide +kernel
theorem dX6_isRule_5 : decode cX6_isRule 5 = .ok (.bipush 7, 2) := by decide +kernel
theorem dX6_isRule_7 : decode cX6_isRule 7 = .ok (.if_icmp .gt 7, 3) := by decide +kernel
theorem dX6_isRule_10 : decode cX6_isRule 10 = .ok (.iconst 1, 1) := by decide +kernel
theorem dX6_isRule_11 : decode cX6_isRule 11 = .ok (.goto 4, 3) := by decide +kernel
theorem dX6_isRule_14 : decode cX6_isRule 14 = .ok (.iconst 0, 1) := by decide +kernel
theorem dX6_isRule_15 : decode cX6_isRule 15 = .ok (.ireturn, 1) := by decide +kernel
theorem dX6_isNumberOf_0 : decode cX6_isNumberOf 0 = .ok (.iload_n 0, 1) := by decide +kernel
theorem dX6_isNumberOf_1 : decode cX6_isNumberOf 1 = .ok (.lookupswitch 75 #[(3, 35), (7, 55), (8, 55)], 35) := by decide +kernel
theorem dX6_isNumberOf_36 : decode cX6_isNumberOf 36 = .ok (.lload_n 1, 1) := by decide +kernel
theorem dX6_isNumberOf_37 : decode cX6_isNumberOf 37 = .ok (.lconst 0, 1) := by decide +kernel
theorem dX6_isNumberOf_38 : decode cX6_isNumberOf 38 = .ok (.lcmp, 1) := by decide +kernel
theorem dX6_isNumberOf_39 : decode cX6_isNumberOf 39 = .ok (.ifCond .lt 15, 3) := by decide +kernel
theorem dX6_isNumberOf_42 : decode cX6_isNumberOf 42 = .ok (.lload_n 1, 1) := by decide +kernel
theorem dX6_isNumberOf_43 : decode cX6_isNumberOf 43 = .ok (.ldc2_w 166, 3) := by decide +kernel
theorem dX6_isNumberOf_46 : decode cX6_isNumberOf 46 = .ok (.lcmp, 1) := by decide +kernel
theorem dX6_isNumberOf_47 : decode cX6_isNumberOf 47 = .ok (.ifCond .ge 7, 3) := by decide +kernel
theorem dX6_isNumberOf_50 : decode cX6_isNumberOf 50 = .ok (.iconst 1, 1) := by decide +kernel
theorem dX6_isNumberOf_51 : decode cX6_isNumberOf 51 = .ok (.goto 4, 3) := by decide +kernel
theorem dX6_isNumberOf_54 : decode cX6_isNumberOf 54 = .ok (.iconst 0, 1) := by decide +kernel
theorem dX6_isNumberOf_55 : decode cX6_isNumberOf 55 = .ok (.ireturn, 1) := by decide +kernel
theorem dX6_isNumberOf_56 : decode cX6_isNumberOf 56 = .ok (.lload_n 1, 1) := by decide +kernel
theorem dX6_isNumberOf_57 : decode cX6_isNumberOf 57 = .ok (.lconst 0, 1) := by decide +kernel
theorem dX6_isNumberOf_58 : decode cX6_isNumberOf 58 = .ok (.lcmp, 1) := by decide +kernel
theorem dX6_isNumberOf_59 : decode cX6_isNumberOf 59 = .ok (.ifCond .lt 15, 3) := by decide +kernel
theorem dX6_isNumberOf_62 : decode cX6_isNumberOf 62 = .ok (.lload_n 1, 1) := by decide +kernel
theorem dX6_isNumberOf_63 : decode cX6_isNumberOf 63 = .ok (.ldc2_w 168, 3) := by decide +kernel
theorem dX6_isNumberOf_66 : decode cX6_isNumberOf 66 = .ok (.lcmp, 1) := by decide +kernel
theorem dX6_isNumberOf_67 : decode cX6_isNumberOf 67 = .ok (.ifCond .gt 7, 3) := by decide +kernel
theorem dX6_isNumberOf_70 : decode cX6_isNumberOf 70 = .ok (.iconst 1, 1) := by decide +kernel
theorem dX6_isNumberOf_71 : decode cX6_isNumberOf 71 = .ok (.goto 4, 3) := by decide +kernel
theorem dX6_isNumberOf_74 : decode cX6_isNumberOf 74 = .ok (.iconst 0, 1) := by decide +kernel
theorem dX6_isNumberOf_75 : decode cX6_isNumberOf 75 = .ok (.ireturn, 1) := by decide +kernel
theorem dX6_isNumberOf_76 : decode cX6_isNumberOf 76 = .ok (.iconst 1, 1) := by decide +kernel
theorem dX6_isNumberOf_77 : decode cX6_isNumberOf 77 = .ok (.ireturn, 1) := by decide +kernel
