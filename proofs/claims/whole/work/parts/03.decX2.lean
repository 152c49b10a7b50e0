theorem dX2_init_0 : decode cX2_init 0 = .ok (.aload_n 0, 1) := by decide +kernel
theorem dX2_init_1 : decode cX2_init 1 = .ok (.invokespecial 3, 3) := by decide +kernel
theorem dX2_init_4 : decode cX2_init 4 = .ok (.aload_n 0, 1) := by decide +kernel
theorem dX2_init_5 : decode cX2_init 5 = .ok (.bipush 10, 2) := by decide +kernel
theorem dX2_init_7 : decode cX2_init 7 = .ok (.anewarray 9, 3) := by decide +kernel
theorem dX2_init_10 : decode cX2_init 10 = .ok (.putfield 11, 3) := by decide +kernel
theorem dX2_init_13 : decode cX2_init 13 = .ok (.iconst 0, 1) := by decide +kernel
theorem dX2_init_14 : decode cX2_init 14 = .ok (.istore_n 1, 1) := by decide +kernel
theorem dX2_init_15 : decode cX2_init 15 = .ok (.iload_n 1, 1) := by decide +kernel
theorem dX2_init_16 : decode cX2_init 16 = .ok (.bipush 10, 2) := by decide +kernel
theorem dX2_init_18 : decode cX2_init 18 = .ok (.if_icmp .ge 22, 3) := by decide +kernel
theorem dX2_init_21 : decode cX2_init 21 = .ok (.aload_n 0, 1) := by decide +kernel
theorem dX2_init_22 : decode cX2_init 22 = .ok (.getfield 11, 3) := by decide +kernel
theorem dX2_init_25 : decode cX2_init 25 = .ok (.iload_n 1, 1) := by decide +kernel
theorem dX2_init_26 : decode cX2_init 26 = .ok (.new 9, 3) := by decide +kernel
theorem dX2_init_29 : decode cX2_init 29 = .ok (.dup, 1) := by decide +kernel
theorem dX2_init_30 : decode cX2_init 30 = .ok (.invokespecial 17, 3) := by decide +kernel
theorem dX2_init_33 : decode cX2_init 33 = .ok (.aastore, 1) := by decide +kernel
theorem dX2_init_34 : decode cX2_init 34 = .ok (.iinc 1 1, 3) := by decide +kernel
theorem dX2_init_37 : decode cX2_init 37 = .ok (.goto (-22), 3) := by decide +kernel
theorem dX2_init_40 : decode cX2_init 40 = .ok (.return_, 1) := by decide +kernel
theorem dX2_becomeRange_0 : decode cX2_becomeRange 0 = .ok (.aload_n 0, 1) := by decide +kernel
theorem dX2_becomeRange_1 : decode cX2_becomeRange 1 = .ok (.iconst 0, 1) := by decide +kernel
theorem dX2_becomeRange_2 : decode cX2_becomeRange 2 = .ok (.putfield 18, 3) := by decide +kernel
theorem dX2_becomeRange_5 : decode cX2_becomeRange 5 = .ok (.aload_n 0, 1) := by decide +kernel
theorem dX2_becomeRange_6 : decode cX2_becomeRange 6 = .ok (.lload_n 1, 1) := by decide +kernel
theorem dX2_becomeRange_7 : decode cX2_becomeRange 7 = .ok (.putfield 22, 3) := by decide +kernel
theorem dX2_becomeRange_10 : decode cX2_becomeRange 10 = .ok (.aload_n 0, 1) := by decide +kernel
theorem dX2_becomeRange_11 : decode cX2_becomeRange 11 = .ok (.lload_n 3, 1) := by decide +kernel
theorem dX2_becomeRange_12 : decode cX2_becomeRange 12 = .ok (.putfield 26, 3) := by decide +kernel
theorem dX2_becomeRange_15 : decode cX2_becomeRange 15 = .ok (.aload_n 0, 1) := by decide +kernel
theorem dX2_becomeRange_16 : decode cX2_becomeRange 16 = .ok (.iload 5, 2) := by decide +kernel
theorem dX2_becomeRange_18 : decode cX2_becomeRange 18 = .ok (.putfield 29, 3) := by decide +kernel
theorem dX2_becomeRange_21 : decode cX2_becomeRange 21 = .ok (.aload_n 0, 1) := by decide +kernel
theorem dX2_becomeRange_22 : decode cX2_becomeRange 22 = .ok (.iconst 0, 1) := by decide +kernel
theorem dX2_becomeRange_23 : decode cX2_becomeRange 23 = .ok (.putfield 32, 3) := by decide +kernel
theorem dX2_becomeRange_26 : decode cX2_becomeRange 26 = .ok (.return_, 1) := by decide +kernel
theorem dX2_becomeRow_0 : decode cX2_becomeRow 0 = .ok (.aload_n 0, 1) := by decide +kernel
theorem dX2_becomeRow_1 : decode cX2_becomeRow 1 = .ok (.iconst 1, 1) := by decide +kernel
theorem dX2_becomeRow_2 : decode cX2_becomeRow 2 = .ok (.putfield 18, 3) := by decide +kernel
theorem dX2_becomeRow_5 : decode cX2_becomeRow 5 = .ok (.aload_n 0, 1) := by decide +kernel
theorem dX2_becomeRow_6 : decode cX2_becomeRow 6 = .ok (.iload_n 1, 1) := by decide +kernel
theorem dX2_becomeRow_7 : decode cX2_becomeRow 7 = .ok (.putfield 35, 3) := by decide +kernel
theorem dX2_becomeRow_10 : decode cX2_becomeRow 10 = .ok (.aload_n 0, 1) := by decide +kernel
theorem dX2_becomeRow_11 : decode cX2_becomeRow 11 = .ok (.iconst 0, 1) := by decide +kernel
theorem dX2_becomeRow_12 : decode cX2_becomeRow 12 = .ok (.putfield 32, 3) := by decide +kernel
theorem dX2_becomeRow_15 : decode cX2_becomeRow 15 = .ok (.return_, 1) := by decide +kernel
theorem dX2_becomeLike_0 : decode cX2_becomeLike 0 = .ok (.aload_n 1, 1) := by decide +kernel
theorem dX2_becomeLike_1 : decode cX2_becomeLike 1 = .ok (.aload_n 0, 1) := by decide +kernel
theorem dX2_becomeLike_2 : decode cX2_becomeLike 2 = .ok (.if_acmp .ne 4, 3) := by decide +kernel
theorem dX2_becomeLike_5 : decode cX2_becomeLike 5 = .ok (.return_, 1) := by decide +kernel
theorem dX2_becomeLike_6 : decode cX2_becomeLike 6 = .ok (.aload_n 0, 1) := by decide +kernel
theorem dX2_becomeLike_7 : decode cX2_becomeLike 7 = .ok (.aload_n 1, 1) := by decide +kernel
theorem dX2_becomeLike_8 : decode cX2_becomeLike 8 = .ok (.getfield 18, 3) := by decide +kernel
theorem dX2_becomeLike_11 : decode cX2_becomeLike 11 = .ok (.putfield 18, 3) := by decide +kernel
theorem dX2_becomeLike_14 : decode cX2_becomeLike 14 = .ok (.aload_n 0, 1) := by decide +kernel
theorem dX2_becomeLike_15 : decode cX2_becomeLike 15 = .ok (.aload_n 1, 1) := by decide +kernel
theorem dX2_becomeLike_16 : decode cX2_becomeLike 16 = .ok (.getfield 22, 3) := by decide +kernel
theorem dX2_becomeLike_19 : decode cX2_becomeLike 19 = .ok (.putfield 22, 3) := by decide +kernel
theorem dX2_becomeLike_22 : decode cX2_becomeLike 22 = .ok (.aload_n 0, 1) := by decide +kernel
theorem dX2_becomeLike_23 : decode cX2_becomeLike 23 = .ok (.aload_n 1, 1) := by decide +kernel
theorem dX2_becomeLike_24 : decode cX2_becomeLike 24 = .ok (.getfield 26, 3) := by decide +kernel
theorem dX2_becomeLike_27 : decode cX2_becomeLike 27 = .ok (.putfield 26, 3) := by decide +kernel
theorem dX2_becomeLike_30 : decode cX2_becomeLike 30 = .ok (.aload_n 0, 1) := by decide +kernel
theorem dX2_becomeLike_31 : decode cX2_becomeLike 31 = .ok (.aload_n 1, 1) := by decide +kernel
theorem dX2_becomeLike_32 : decode cX2_becomeLike 32 = .ok (.getfield 29, 3) := by decide +kernel
theorem dX2_becomeLike_35 : decode cX2_becomeLike 35 = .ok (.putfield 29, 3) := by decide +kernel
theorem dX2_becomeLike_38 : decode cX2_becomeLike 38 = .ok (.aload_n 0, 1) := by decide +kernel
theorem dX2_becomeLike_39 : decode cX2_becomeLike 39 = .ok (.aload_n 1, 1) := by decide +kernel
theorem dX2_becomeLike_40 : decode cX2_becomeLike 40 = .ok (.getfield 35, 3) := by decide +kernel
theorem dX2_becomeLike_43 : decode cX2_becomeLike 43 = .ok (.putfield 35, 3) := by decide +kernel
theorem dX2_becomeLike_46 : decode cX2_becomeLike 46 = .ok (.aload_n 0, 1) := by decide +kernel
theorem dX2_becomeLike_47 : decode cX2_becomeLike 47 = .ok (.aload_n 1, 1) := by decide +kernel
theorem dX2_becomeLike_48 : decode cX2_becomeLike 48 = .ok (.getfield 32, 3) := by decide +kernel
theorem dX2_becomeLike_51 : decode cX2_becomeLike 51 = .ok (.putfield 32, 3) := by decide +kernel
theorem dX2_becomeLike_54 : decode cX2_becomeLike 54 = .ok (.iconst 0, 1) := by decide +kernel
theorem dX2_becomeLike_55 : decode cX2_becomeLike 55 = .ok (.istore_n 2, 1) := by decide +kernel
theorem dX2_becomeLike_56 : decode cX2_becomeLike 56 = .ok (.iload_n 2, 1) := by decide +kernel
theorem dX2_becomeLike_57 : decode cX2_becomeLike 57 = .ok (.aload_n 0, 1) := by decide +kernel
theorem dX2_becomeLike_58 : decode cX2_becomeLike 58 = .ok (.getfield 32, 3) := by decide +kernel
theorem dX2_becomeLike_61 : decode cX2_becomeLike 61 = .ok (.if_icmp .ge 24, 3) := by decide +kernel
theorem dX2_becomeLike_64 : decode cX2_becomeLike 64 = .ok (.aload_n 0, 1) := by decide +kernel
theorem dX2_becomeLike_65 : decode cX2_becomeLike 65 = .ok (.getfield 11, 3) := by decide +kernel
theorem dX2_becomeLike_68 : decode cX2_becomeLike 68 = .ok (.iload_n 2, 1) := by decide +kernel
theorem dX2_becomeLike_69 : decode cX2_becomeLike 69 = .ok (.aaload, 1) := by decide +kernel
theorem dX2_becomeLike_70 : decode cX2_becomeLike 70 = .ok (.aload_n 1, 1) := by decide +kernel
theorem dX2_becomeLike_71 : decode cX2_becomeLike 71 = .ok (.getfield 11, 3) := by decide +kernel
theorem dX2_becomeLike_74 : decode cX2_becomeLike 74 = .ok (.iload_n 2, 1) := by decide +kernel
theorem dX2_becomeLike_75 : decode cX2_becomeLike 75 = .ok (.aaload, 1) := by decide +kernel
theorem dX2_becomeLike_76 : decode cX2_becomeLike 76 = .ok (.invokevirtual 38, 3) := by decide +kernel
theorem dX2_becomeLike_79 : decode cX2_becomeLike 79 = .ok (.iinc 2 1, 3) := by decide +kernel
theorem dX2_becomeLike_82 : decode cX2_becomeLike 82 = .ok (.goto (-26), 3) := by decide +kernel
theorem dX2_becomeLike_85 : decode cX2_becomeLike 85 = .ok (.return_, 1) := by decide +kernel
theorem dX2_has_0 : decode cX2_has 0 = .ok (.iload_n 1, 1) := by decide +kernel
theorem dX2_has_1 : decode cX2_has 1 = .ok (.ifCond .lt 15, 3) := by decide +kernel
theorem dX2_has_4 : decode cX2_has 4 = .ok (.iload_n 1, 1) := by decide +kernel
theorem dX2_has_5 : decode cX2_has 5 = .ok (.aload_n 0, 1) := by decide +kernel
theorem dX2_has_6 : decode cX2_has 6 = .ok (.getfield 32, 3) := by decide +kernel
theorem dX2_has_9 : decode cX2_has 9 = .ok (.if_icmp .ge 7, 3) := by decide +kernel
theorem dX2_has_12 : decode cX2_has 12 = .ok (.iconst 1, 1) := by decide +kernel
theorem dX2_has_13 : decode cX2_has 13 = .ok (.goto 4, 3) := by decide +kernel
theorem dX2_has_16 : decode cX2_has 16 = .ok (.iconst 0, 1) := by decide +kernel
theorem dX2_has_17 : decode cX2_has 17 = .ok (.ireturn, 1) := by decide +kernel
theorem dX2_addAct_0 : decode cX2_addAct 0 = .ok (.aload_n 0, 1) := by decide +kernel
theorem dX2_addAct_1 : decode cX2_addAct 1 = .ok (.getfield 32, 3) := by decide +kernel
theorem dX2_addAct_4 : decode cX2_addAct 4 = .ok (.bipush 10, 2) := by decide +kernel
theorem dX2_addAct_6 : decode cX2_addAct 6 = .ok (.if_icmp .ge 27, 3) := by decide +kernel
theorem dX2_addAct_9 : decode cX2_addAct 9 = .ok (.aload_n 0, 1) := by decide +kernel
theorem dX2_addAct_10 : decode cX2_addAct 10 = .ok (.getfield 11, 3) := by decide +kernel
theorem dX2_addAct_13 : decode cX2_addAct 13 = .ok (.aload_n 0, 1) := by decide +kernel
theorem dX2_addAct_14 : decode cX2_addAct 14 = .ok (.getfield 32, 3) := by decide +kernel
theorem dX2_addAct_17 : decode cX2_addAct 17 = .ok (.aaload, 1) := by decide +kernel
theorem dX2_addAct_18 : decode cX2_addAct 18 = .ok (.iload_n 1, 1) := by decide +kernel
theorem dX2_addAct_19 : decode cX2_addAct 19 = .ok (.lload_n 2, 1) := by decide +kernel
theorem dX2_addAct_20 : decode cX2_addAct 20 = .ok (.invokevirtual 42, 3) := by decide +kernel
theorem dX2_addAct_23 : decode cX2_addAct 23 = .ok (.aload_n 0, 1) := by decide +kernel
theorem dX2_addAct_24 : decode cX2_addAct 24 = .ok (.dup, 1) := by decide +kernel
theorem dX2_addAct_25 : decode cX2_addAct 25 = .ok (.getfield 32, 3) := by decide +kernel
theorem dX2_addAct_28 : decode cX2_addAct 28 = .ok (.iconst 1, 1) := by decide +kernel
theorem dX2_addAct_29 : decode cX2_addAct 29 = .ok (.iadd, 1) := by decide +kernel
theorem dX2_addAct_30 : decode cX2_addAct 30 = .ok (.putfield 32, 3) := by decide +kernel
theorem dX2_addAct_33 : decode cX2_addAct 33 = .ok (.return_, 1) := by decide +kernel
theorem dX2_removeAct_0 : decode cX2_removeAct 0 = .ok (.iload_n 1, 1) := by decide +kernel
theorem dX2_removeAct_1 : decode cX2_removeAct 1 = .ok (.istore_n 2, 1) := by decide +kernel
theorem dX2_removeAct_2 : decode cX2_removeAct 2 = .ok (.iload_n 2, 1) := by decide +kernel
theorem dX2_removeAct_3 : decode cX2_removeAct 3 = .ok (.iconst 1, 1) := by decide +kernel
theorem dX2_removeAct_4 : decode cX2_removeAct 4 = .ok (.iadd, 1) := by decide +kernel
theorem dX2_removeAct_5 : decode cX2_removeAct 5 = .ok (.aload_n 0, 1) := by decide +kernel
theorem dX2_removeAct_6 : decode cX2_removeAct 6 = .ok (.getfield 32, 3) := by decide +kernel
theorem dX2_removeAct_9 : decode cX2_removeAct 9 = .ok (.if_icmp .ge 14, 3) := by decide +kernel
theorem dX2_removeAct_12 : decode cX2_removeAct 12 = .ok (.aload_n 0, 1) := by decide +kernel
theorem dX2_removeAct_13 : decode cX2_removeAct 13 = .ok (.iload_n 2, 1) := by decide +kernel
theorem dX2_removeAct_14 : decode cX2_removeAct 14 = .ok (.invokevirtual 46, 3) := by decide +kernel
theorem dX2_removeAct_17 : decode cX2_removeAct 17 = .ok (.iinc 2 1, 3) := by decide +kernel
theorem dX2_removeAct_20 : decode cX2_removeAct 20 = .ok (.goto (-18), 3) := by decide +kernel
theorem dX2_removeAct_23 : decode cX2_removeAct 23 = .ok (.aload_n 0, 1) := by decide +kernel
theorem dX2_removeAct_24 : decode cX2_removeAct 24 = .ok (.dup, 1) := by decide +kernel
theorem dX2_removeAct_25 : decode cX2_removeAct 25 = .ok (.getfield 32, 3) := by decide +kernel
theorem dX2_removeAct_28 : decode cX2_removeAct 28 = .ok (.iconst 1, 1) := by decide +kernel
theorem dX2_removeAct_29 : decode cX2_removeAct 29 = .ok (.isub, 1) := by decide +kernel
theorem dX2_removeAct_30 : decode cX2_removeAct 30 = .ok (.putfield 32, 3) := by decide +kernel
theorem dX2_removeAct_33 : decode cX2_removeAct 33 = .ok (.return_, 1) := by decide +kernel
theorem dX2_swapWithNext_0 : decode cX2_swapWithNext 0 = .ok (.aload_n 0, 1) := by decide +kernel
theorem dX2_swapWithNext_1 : decode cX2_swapWithNext 1 = .ok (.getfield 11, 3) := by decide +kernel
theorem dX2_swapWithNext_4 : decode cX2_swapWithNext 4 = .ok (.iload_n 1, 1) := by decide +kernel
theorem dX2_swapWithNext_5 : decode cX2_swapWithNext 5 = .ok (.aaload, 1) := by decide +kernel
theorem dX2_swapWithNext_6 : decode cX2_swapWithNext 6 = .ok (.astore_n 2, 1) := by decide +kernel
theorem dX2_swapWithNext_7 : decode cX2_swapWithNext 7 = .ok (.aload_n 0, 1) := by decide +kernel
theorem dX2_swapWithNext_8 : decode cX2_swapWithNext 8 = .ok (.getfield 11, 3) := by decide +kernel
theorem dX2_swapWithNext_11 : decode cX2_swapWithNext 11 = .ok (.iload_n 1, 1) := by decide +kernel
theorem dX2_swapWithNext_12 : decode cX2_swapWithNext 12 = .ok (.aload_n 0, 1) := by decide +kernel
theorem dX2_swapWithNext_13 : decode cX2_swapWithNext 13 = .ok (.getfield 11, 3) := by decide +kernel
theorem dX2_swapWithNext_16 : decode cX2_swapWithNext 16 = .ok (.iload_n 1, 1) := by decide +kernel
theorem dX2_swapWithNext_17 : decode cX2_swapWithNext 17 = .ok (.iconst 1, 1) := by decide +kernel
theorem dX2_swapWithNext_18 : decode cX2_swapWithNext 18 = .ok (.iadd, 1) := by decide +kernel
theorem dX2_swapWithNext_19 : decode cX2_swapWithNext 19 = .ok (.aaload, 1) := by decide +kernel
theorem dX2_swapWithNext_20 : decode cX2_swapWithNext 20 = .ok (.aastore, 1) := by decide +kernel
theorem dX2_swapWithNext_21 : decode cX2_swapWithNext 21 = .ok (.aload_n 0, 1) := by decide +kernel
theorem dX2_swapWithNext_22 : decode cX2_swapWithNext 22 = .ok (.getfield 11, 3) := by decide +kernel
theorem dX2_swapWithNext_25 : decode cX2_swapWithNext 25 = .ok (.iload_n 1, 1) := by decide +kernel
theorem dX2_swapWithNext_26 : decode cX2_swapWithNext 26 = .ok (.iconst 1, 1) := by decide +kernel
theorem dX2_swapWithNext_27 : decode cX2_swapWithNext 27 = .ok (.iadd, 1) := by decide +kernel
theorem dX2_swapWithNext_28 : decode cX2_swapWithNext 28 = .ok (.aload_n 2, 1) := by decide +kernel
theorem dX2_swapWithNext_29 : decode cX2_swapWithNext 29 = .ok (.aastore, 1) := by decide +kernel
theorem dX2_swapWithNext_30 : decode cX2_swapWithNext 30 = .ok (.return_, 1) := by decide +kernel
theorem dX2_endsAhead_0 : decode cX2_endsAhead 0 = .ok (.aload_n 0, 1) := by decide +kernel
theorem dX2_endsAhead_1 : decode cX2_endsAhead 1 = .ok (.getfield 18, 3) := by decide +kernel
theorem dX2_endsAhead_4 : decode cX2_endsAhead 4 = .ok (.iconst 1, 1) := by decide +kernel
theorem dX2_endsAhead_5 : decode cX2_endsAhead 5 = .ok (.if_icmp .eq 11, 3) := by decide +kernel
theorem dX2_endsAhead_8 : decode cX2_endsAhead 8 = .ok (.aload_n 0, 1) := by decide +kernel
theorem dX2_endsAhead_9 : decode cX2_endsAhead 9 = .ok (.getfield 29, 3) := by decide +kernel
theorem dX2_endsAhead_12 : decode cX2_endsAhead 12 = .ok (.iconst (-1), 1) := by decide +kernel
theorem dX2_endsAhead_13 : decode cX2_endsAhead 13 = .ok (.if_icmp .eq 5, 3) := by decide +kernel
theorem dX2_endsAhead_16 : decode cX2_endsAhead 16 = .ok (.iconst 1, 1) := by decide +kernel
theorem dX2_endsAhead_17 : decode cX2_endsAhead 17 = .ok (.ireturn, 1) := by decide +kernel
theorem dX2_endsAhead_18 : decode cX2_endsAhead 18 = .ok (.iconst 0, 1) := by decide +kernel
theorem dX2_endsAhead_19 : decode cX2_endsAhead 19 = .ok (.istore_n 2, 1) := by decide +kernel
theorem dX2_endsAhead_20 : decode cX2_endsAhead 20 = .ok (.iload_n 2, 1) := by decide +kernel
theorem dX2_endsAhead_21 : decode cX2_endsAhead 21 = .ok (.iload_n 1, 1) := by decide +kernel
theorem dX2_endsAhead_22 : decode cX2_endsAhead 22 = .ok (.if_icmp .ge 33, 3) := by decide +kernel
theorem dX2_endsAhead_25 : decode cX2_endsAhead 25 = .ok (.iload_n 2, 1) := by decide +kernel
theorem dX2_endsAhead_26 : decode cX2_endsAhead 26 = .ok (.aload_n 0, 1) := by decide +kernel
theorem dX2_endsAhead_27 : decode cX2_endsAhead 27 = .ok (.getfield 32, 3) := by decide +kernel
theorem dX2_endsAhead_30 : decode cX2_endsAhead 30 = .ok (.if_icmp .ge 25, 3) := by decide +kernel
theorem dX2_endsAhead_33 : decode cX2_endsAhead 33 = .ok (.aload_n 0, 1) := by decide +kernel
theorem dX2_endsAhead_34 : decode cX2_endsAhead 34 = .ok (.getfield 11, 3) := by decide +kernel
theorem dX2_endsAhead_37 : decode cX2_endsAhead 37 = .ok (.iload_n 2, 1) := by decide +kernel
theorem dX2_endsAhead_38 : decode cX2_endsAhead 38 = .ok (.aaload, 1) := by decide +kernel
theorem dX2_endsAhead_39 : decode cX2_endsAhead 39 = .ok (.bipush 7, 2) := by decide +kernel
theorem dX2_endsAhead_41 : decode cX2_endsAhead 41 = .ok (.invokevirtual 50, 3) := by decide +kernel
theorem dX2_endsAhead_44 : decode cX2_endsAhead 44 = .ok (.ifCond .eq 5, 3) := by decide +kernel
theorem dX2_endsAhead_47 : decode cX2_endsAhead 47 = .ok (.iconst 1, 1) := by decide +kernel
theorem dX2_endsAhead_48 : decode cX2_endsAhead 48 = .ok (.ireturn, 1) := by decide +kernel
theorem dX2_endsAhead_49 : decode cX2_endsAhead 49 = .ok (.iinc 2 1, 3) := by decide +kernel
theorem dX2_endsAhead_52 : decode cX2_endsAhead 52 = .ok (.goto (-32), 3) := by decide +kernel
theorem dX2_endsAhead_55 : decode cX2_endsAhead 55 = .ok (.iconst 0, 1) := by decide +kernel
theorem dX2_endsAhead_56 : decode cX2_endsAhead 56 = .ok (.ireturn, 1) := by decide +kernel
