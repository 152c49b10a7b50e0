theorem dX0_init_0 : decode cX0_init 0 = .ok (.aload_n 0, 1) := by decide +kernel
theorem dX0_init_1 : decode cX0_init 1 = .ok (.invokespecial 3, 3) := by decide +kernel
theorem dX0_init_4 : decode cX0_init 4 = .ok (.aload_n 0, 1) := by decide +kernel
theorem dX0_init_5 : decode cX0_init 5 = .ok (.iconst 4, 1) := by decide +kernel
theorem dX0_init_6 : decode cX0_init 6 = .ok (.newarray .int, 2) := by decide +kernel
theorem dX0_init_8 : decode cX0_init 8 = .ok (.putfield 9, 3) := by decide +kernel
theorem dX0_init_11 : decode cX0_init 11 = .ok (.aload_n 0, 1) := by decide +kernel
theorem dX0_init_12 : decode cX0_init 12 = .ok (.iconst 4, 1) := by decide +kernel
theorem dX0_init_13 : decode cX0_init 13 = .ok (.newarray .long, 2) := by decide +kernel
theorem dX0_init_15 : decode cX0_init 15 = .ok (.putfield 15, 3) := by decide +kernel
theorem dX0_init_18 : decode cX0_init 18 = .ok (.return_, 1) := by decide +kernel
theorem dX0_become_0 : decode cX0_become 0 = .ok (.iload_n 1, 1) := by decide +kernel
theorem dX0_become_1 : decode cX0_become 1 = .ok (.iconst 5, 1) := by decide +kernel
theorem dX0_become_2 : decode cX0_become 2 = .ok (.if_icmp .eq 19, 3) := by decide +kernel
theorem dX0_become_5 : decode cX0_become 5 = .ok (.iload_n 1, 1) := by decide +kernel
theorem dX0_become_6 : decode cX0_become 6 = .ok (.bipush 10, 2) := by decide +kernel
theorem dX0_become_8 : decode cX0_become 8 = .ok (.if_icmp .eq 13, 3) := by decide +kernel
theorem dX0_become_11 : decode cX0_become 11 = .ok (.iload_n 1, 1) := by decide +kernel
theorem dX0_become_12 : decode cX0_become 12 = .ok (.bipush 11, 2) := by decide +kernel
theorem dX0_become_14 : decode cX0_become 14 = .ok (.if_icmp .eq 7, 3) := by decide +kernel
theorem dX0_become_17 : decode cX0_become 17 = .ok (.iconst 1, 1) := by decide +kernel
theorem dX0_become_18 : decode cX0_become 18 = .ok (.goto 4, 3) := by decide +kernel
theorem dX0_become_21 : decode cX0_become 21 = .ok (.iconst 0, 1) := by decide +kernel
theorem dX0_become_22 : decode cX0_become 22 = .ok (.istore 4, 2) := by decide +kernel
theorem dX0_become_24 : decode cX0_become 24 = .ok (.aload_n 0, 1) := by decide +kernel
theorem dX0_become_25 : decode cX0_become 25 = .ok (.getfield 9, 3) := by decide +kernel
theorem dX0_become_28 : decode cX0_become 28 = .ok (.iconst 0, 1) := by decide +kernel
theorem dX0_become_29 : decode cX0_become 29 = .ok (.iload_n 1, 1) := by decide +kernel
theorem dX0_become_30 : decode cX0_become 30 = .ok (.iastore, 1) := by decide +kernel
theorem dX0_become_31 : decode cX0_become 31 = .ok (.aload_n 0, 1) := by decide +kernel
theorem dX0_become_32 : decode cX0_become 32 = .ok (.getfield 15, 3) := by decide +kernel
theorem dX0_become_35 : decode cX0_become 35 = .ok (.iconst 0, 1) := by decide +kernel
theorem dX0_become_36 : decode cX0_become 36 = .ok (.iload 4, 2) := by decide +kernel
theorem dX0_become_38 : decode cX0_become 38 = .ok (.ifCond .eq 7, 3) := by decide +kernel
theorem dX0_become_41 : decode cX0_become 41 = .ok (.lload_n 2, 1) := by decide +kernel
theorem dX0_become_42 : decode cX0_become 42 = .ok (.goto 4, 3) := by decide +kernel
theorem dX0_become_45 : decode cX0_become 45 = .ok (.lconst 0, 1) := by decide +kernel
theorem dX0_become_46 : decode cX0_become 46 = .ok (.lastore, 1) := by decide +kernel
theorem dX0_become_47 : decode cX0_become 47 = .ok (.aload_n 0, 1) := by decide +kernel
theorem dX0_become_48 : decode cX0_become 48 = .ok (.iconst 1, 1) := by decide +kernel
theorem dX0_become_49 : decode cX0_become 49 = .ok (.putfield 19, 3) := by decide +kernel
theorem dX0_become_52 : decode cX0_become 52 = .ok (.return_, 1) := by decide +kernel
theorem dX0_becomeLike_0 : decode cX0_becomeLike 0 = .ok (.aload_n 0, 1) := by decide +kernel
theorem dX0_becomeLike_1 : decode cX0_becomeLike 1 = .ok (.iconst 0, 1) := by decide +kernel
theorem dX0_becomeLike_2 : decode cX0_becomeLike 2 = .ok (.putfield 19, 3) := by decide +kernel
theorem dX0_becomeLike_5 : decode cX0_becomeLike 5 = .ok (.aload_n 0, 1) := by decide +kernel
theorem dX0_becomeLike_6 : decode cX0_becomeLike 6 = .ok (.aload_n 1, 1) := by decide +kernel
theorem dX0_becomeLike_7 : decode cX0_becomeLike 7 = .ok (.invokevirtual 23, 3) := by decide +kernel
theorem dX0_becomeLike_10 : decode cX0_becomeLike 10 = .ok (.return_, 1) := by decide +kernel
theorem dX0_append_0 : decode cX0_append 0 = .ok (.aload_n 1, 1) := by decide +kernel
theorem dX0_append_1 : decode cX0_append 1 = .ok (.getfield 19, 3) := by decide +kernel
theorem dX0_append_4 : decode cX0_append 4 = .ok (.istore_n 2, 1) := by decide +kernel
theorem dX0_append_5 : decode cX0_append 5 = .ok (.iconst 0, 1) := by decide +kernel
theorem dX0_append_6 : decode cX0_append 6 = .ok (.istore_n 3, 1) := by decide +kernel
theorem dX0_append_7 : decode cX0_append 7 = .ok (.iload_n 3, 1) := by decide +kernel
theorem dX0_append_8 : decode cX0_append 8 = .ok (.iload_n 2, 1) := by decide +kernel
theorem dX0_append_9 : decode cX0_append 9 = .ok (.if_icmp .ge 57, 3) := by decide +kernel
theorem dX0_append_12 : decode cX0_append 12 = .ok (.aload_n 0, 1) := by decide +kernel
theorem dX0_append_13 : decode cX0_append 13 = .ok (.getfield 19, 3) := by decide +kernel
theorem dX0_append_16 : decode cX0_append 16 = .ok (.iconst 4, 1) := by decide +kernel
theorem dX0_append_17 : decode cX0_append 17 = .ok (.if_icmp .ge 49, 3) := by decide +kernel
theorem dX0_append_20 : decode cX0_append 20 = .ok (.aload_n 0, 1) := by decide +kernel
theorem dX0_append_21 : decode cX0_append 21 = .ok (.getfield 9, 3) := by decide +kernel
theorem dX0_append_24 : decode cX0_append 24 = .ok (.aload_n 0, 1) := by decide +kernel
theorem dX0_append_25 : decode cX0_append 25 = .ok (.getfield 19, 3) := by decide +kernel
theorem dX0_append_28 : decode cX0_append 28 = .ok (.aload_n 1, 1) := by decide +kernel
theorem dX0_append_29 : decode cX0_append 29 = .ok (.getfield 9, 3) := by decide +kernel
theorem dX0_append_32 : decode cX0_append 32 = .ok (.iload_n 3, 1) := by decide +kernel
theorem dX0_append_33 : decode cX0_append 33 = .ok (.iaload, 1) := by decide +kernel
theorem dX0_append_34 : decode cX0_append 34 = .ok (.iastore, 1) := by decide +kernel
theorem dX0_append_35 : decode cX0_append 35 = .ok (.aload_n 0, 1) := by decide +kernel
theorem dX0_append_36 : decode cX0_append 36 = .ok (.getfield 15, 3) := by decide +kernel
theorem dX0_append_39 : decode cX0_append 39 = .ok (.aload_n 0, 1) := by decide +kernel
theorem dX0_append_40 : decode cX0_append 40 = .ok (.getfield 19, 3) := by decide +kernel
theorem dX0_append_43 : decode cX0_append 43 = .ok (.aload_n 1, 1) := by decide +kernel
theorem dX0_append_44 : decode cX0_append 44 = .ok (.getfield 15, 3) := by decide +kernel
theorem dX0_append_47 : decode cX0_append 47 = .ok (.iload_n 3, 1) := by decide +kernel
theorem dX0_append_48 : decode cX0_append 48 = .ok (.laload, 1) := by decide +kernel
theorem dX0_append_49 : decode cX0_append 49 = .ok (.lastore, 1) := by decide +kernel
theorem dX0_append_50 : decode cX0_append 50 = .ok (.aload_n 0, 1) := by decide +kernel
theorem dX0_append_51 : decode cX0_append 51 = .ok (.dup, 1) := by decide +kernel
theorem dX0_append_52 : decode cX0_append 52 = .ok (.getfield 19, 3) := by decide +kernel
theorem dX0_append_55 : decode cX0_append 55 = .ok (.iconst 1, 1) := by decide +kernel
theorem dX0_append_56 : decode cX0_append 56 = .ok (.iadd, 1) := by decide +kernel
theorem dX0_append_57 : decode cX0_append 57 = .ok (.putfield 19, 3) := by decide +kernel
theorem dX0_append_60 : decode cX0_append 60 = .ok (.iinc 3 1, 3) := by decide +kernel
theorem dX0_append_63 : decode cX0_append 63 = .ok (.goto (-56), 3) := by decide +kernel
theorem dX0_append_66 : decode cX0_append 66 = .ok (.return_, 1) := by decide +kernel
theorem dX0_is_0 : decode cX0_is 0 = .ok (.aload_n 0, 1) := by decide +kernel
theorem dX0_is_1 : decode cX0_is 1 = .ok (.getfield 9, 3) := by decide +kernel
theorem dX0_is_4 : decode cX0_is 4 = .ok (.iconst 0, 1) := by decide +kernel
theorem dX0_is_5 : decode cX0_is 5 = .ok (.iaload, 1) := by decide +kernel
theorem dX0_is_6 : decode cX0_is 6 = .ok (.iload_n 1, 1) := by decide +kernel
theorem dX0_is_7 : decode cX0_is 7 = .ok (.if_icmp .ne 7, 3) := by decide +kernel
theorem dX0_is_10 : decode cX0_is 10 = .ok (.iconst 1, 1) := by decide +kernel
theorem dX0_is_11 : decode cX0_is 11 = .ok (.goto 4, 3) := by decide +kernel
theorem dX0_is_14 : decode cX0_is 14 = .ok (.iconst 0, 1) := by decide +kernel
theorem dX0_is_15 : decode cX0_is 15 = .ok (.ireturn, 1) := by decide +kernel
theorem dX0_isMap_0 : decode cX0_isMap 0 = .ok (.aload_n 0, 1) := by decide +kernel
theorem dX0_isMap_1 : decode cX0_isMap 1 = .ok (.getfield 9, 3) := by decide +kernel
theorem dX0_isMap_4 : decode cX0_isMap 4 = .ok (.iconst 0, 1) := by decide +kernel
theorem dX0_isMap_5 : decode cX0_isMap 5 = .ok (.iaload, 1) := by decide +kernel
theorem dX0_isMap_6 : decode cX0_isMap 6 = .ok (.iconst 3, 1) := by decide +kernel
theorem dX0_isMap_7 : decode cX0_isMap 7 = .ok (.if_icmp .gt 7, 3) := by decide +kernel
theorem dX0_isMap_10 : decode cX0_isMap 10 = .ok (.iconst 1, 1) := by decide +kernel
theorem dX0_isMap_11 : decode cX0_isMap 11 = .ok (.goto 4, 3) := by decide +kernel
theorem dX0_isMap_14 : decode cX0_isMap 14 = .ok (.iconst 0, 1) := by decide +kernel
theorem dX0_isMap_15 : decode cX0_isMap 15 = .ok (.ireturn, 1) := by decide +kernel
theorem dX0_isTest_0 : decode cX0_isTest 0 = .ok (.aload_n 0, 1) := by decide +kernel
theorem dX0_isTest_1 : decode cX0_isTest 1 = .ok (.getfield 9, 3) := by decide +kernel
theorem dX0_isTest_4 : decode cX0_isTest 4 = .ok (.iconst 0, 1) := by decide +kernel
theorem dX0_isTest_5 : decode cX0_isTest 5 = .ok (.iaload, 1) := by decide +kernel
theorem dX0_isTest_6 : decode cX0_isTest 6 = .ok (.iconst 4, 1) := by decide +kernel
theorem dX0_isTest_7 : decode cX0_isTest 7 = .ok (.if_icmp .lt 18, 3) := by decide +kernel
theorem dX0_isTest_10 : decode cX0_isTest 10 = .ok (.aload_n 0, 1) := by decide +kernel
theorem dX0_isTest_11 : decode cX0_isTest 11 = .ok (.getfield 9, 3) := by decide +kernel
theorem dX0_isTest_14 : decode cX0_isTest 14 = .ok (.iconst 0, 1) := by decide +kernel
theorem dX0_isTest_15 : decode cX0_isTest 15 = .ok (.iaload, 1) := by decide +kernel
theorem dX0_isTest_16 : decode cX0_isTest 16 = .ok (.bipush 6, 2) := by decide +kernel
theorem dX0_isTest_18 : decode cX0_isTest 18 = .ok (.if_icmp .gt 7, 3) := by decide +kernel
theorem dX0_isTest_21 : decode cX0_isTest 21 = .ok (.iconst 1, 1) := by decide +kernel
theorem dX0_isTest_22 : decode cX0_isTest 22 = .ok (.goto 4, 3) := by decide +kernel
theorem dX0_isTest_25 : decode cX0_isTest 25 = .ok (.iconst 0, 1) := by decide +kernel
theorem dX0_isTest_26 : decode cX0_isTest 26 = .ok (.ireturn, 1) := by decide +kernel
theorem dX0_isIdle_0 : decode cX0_isIdle 0 = .ok (.aload_n 0, 1) := by decide +kernel
theorem dX0_isIdle_1 : decode cX0_isIdle 1 = .ok (.getfield 19, 3) := by decide +kernel
theorem dX0_isIdle_4 : decode cX0_isIdle 4 = .ok (.iconst 1, 1) := by decide +kernel
theorem dX0_isIdle_5 : decode cX0_isIdle 5 = .ok (.if_icmp .ne 35, 3) := by decide +kernel
theorem dX0_isIdle_8 : decode cX0_isIdle 8 = .ok (.aload_n 0, 1) := by decide +kernel
theorem dX0_isIdle_9 : decode cX0_isIdle 9 = .ok (.iconst 0, 1) := by decide +kernel
theorem dX0_isIdle_10 : decode cX0_isIdle 10 = .ok (.lconst 0, 1) := by decide +kernel
theorem dX0_isIdle_11 : decode cX0_isIdle 11 = .ok (.invokevirtual 27, 3) := by decide +kernel
theorem dX0_isIdle_14 : decode cX0_isIdle 14 = .ok (.ifCond .ne 22, 3) := by decide +kernel
theorem dX0_isIdle_17 : decode cX0_isIdle 17 = .ok (.aload_n 0, 1) := by decide +kernel
theorem dX0_isIdle_18 : decode cX0_isIdle 18 = .ok (.iconst 1, 1) := by decide +kernel
theorem dX0_isIdle_19 : decode cX0_isIdle 19 = .ok (.lconst 1, 1) := by decide +kernel
theorem dX0_isIdle_20 : decode cX0_isIdle 20 = .ok (.invokevirtual 27, 3) := by decide +kernel
theorem dX0_isIdle_23 : decode cX0_isIdle 23 = .ok (.ifCond .ne 13, 3) := by decide +kernel
theorem dX0_isIdle_26 : decode cX0_isIdle 26 = .ok (.aload_n 0, 1) := by decide +kernel
theorem dX0_isIdle_27 : decode cX0_isIdle 27 = .ok (.bipush 8, 2) := by decide +kernel
theorem dX0_isIdle_29 : decode cX0_isIdle 29 = .ok (.lconst 0, 1) := by decide +kernel
theorem dX0_isIdle_30 : decode cX0_isIdle 30 = .ok (.invokevirtual 27, 3) := by decide +kernel
theorem dX0_isIdle_33 : decode cX0_isIdle 33 = .ok (.ifCond .eq 7, 3) := by decide +kernel
theorem dX0_isIdle_36 : decode cX0_isIdle 36 = .ok (.iconst 1, 1) := by decide +kernel
theorem dX0_isIdle_37 : decode cX0_isIdle 37 = .ok (.goto 4, 3) := by decide +kernel
theorem dX0_isIdle_40 : decode cX0_isIdle 40 = .ok (.iconst 0, 1) := by decide +kernel
theorem dX0_isIdle_41 : decode cX0_isIdle 41 = .ok (.ireturn, 1) := by decide +kernel
theorem dX0_passes_0 : decode cX0_passes 0 = .ok (.iconst 0, 1) := by decide +kernel
theorem dX0_passes_1 : decode cX0_passes 1 = .ok (.istore_n 3, 1) := by decide +kernel
theorem dX0_passes_2 : decode cX0_passes 2 = .ok (.iload_n 3, 1) := by decide +kernel
theorem dX0_passes_3 : decode cX0_passes 3 = .ok (.aload_n 0, 1) := by decide +kernel
theorem dX0_passes_4 : decode cX0_passes 4 = .ok (.getfield 19, 3) := by decide +kernel
theorem dX0_passes_7 : decode cX0_passes 7 = .ok (.if_icmp .ge 20, 3) := by decide +kernel
theorem dX0_passes_10 : decode cX0_passes 10 = .ok (.aload_n 0, 1) := by decide +kernel
theorem dX0_passes_11 : decode cX0_passes 11 = .ok (.iload_n 3, 1) := by decide +kernel
theorem dX0_passes_12 : decode cX0_passes 12 = .ok (.lload_n 1, 1) := by decide +kernel
theorem dX0_passes_13 : decode cX0_passes 13 = .ok (.invokevirtual 31, 3) := by decide +kernel
theorem dX0_passes_16 : decode cX0_passes 16 = .ok (.ifCond .ne 5, 3) := by decide +kernel
theorem dX0_passes_19 : decode cX0_passes 19 = .ok (.iconst 0, 1) := by decide +kernel
theorem dX0_passes_20 : decode cX0_passes 20 = .ok (.ireturn, 1) := by decide +kernel
theorem dX0_passes_21 : decode cX0_passes 21 = .ok (.iinc 3 1, 3) := by decide +kernel
theorem dX0_passes_24 : decode cX0_passes 24 = .ok (.goto (-22), 3) := by decide +kernel
theorem dX0_passes_27 : decode cX0_passes 27 = .ok (.iconst 1, 1) := by decide +kernel
theorem dX0_passes_28 : decode cX0_passes 28 = .ok (.ireturn, 1) := by decide +kernel
theorem dX0_isPart_0 : decode cX0_isPart 0 = .ok (.aload_n 0, 1) := by decide +kernel
theorem dX0_isPart_1 : decode cX0_isPart 1 = .ok (.getfield 9, 3) := by decide +kernel
theorem dX0_isPart_4 : decode cX0_isPart 4 = .ok (.iconst 0, 1) := by decide +kernel
theorem dX0_isPart_5 : decode cX0_isPart 5 = .ok (.iaload, 1) := by decide +kernel
theorem dX0_isPart_6 : decode cX0_isPart 6 = .ok (.iload_n 1, 1) := by decide +kernel
theorem dX0_isPart_7 : decode cX0_isPart 7 = .ok (.if_icmp .ne 18, 3) := by decide +kernel
theorem dX0_isPart_10 : decode cX0_isPart 10 = .ok (.aload_n 0, 1) := by decide +kernel
theorem dX0_isPart_11 : decode cX0_isPart 11 = .ok (.getfield 15, 3) := by decide +kernel
theorem dX0_isPart_14 : decode cX0_isPart 14 = .ok (.iconst 0, 1) := by decide +kernel
theorem dX0_isPart_15 : decode cX0_isPart 15 = .ok (.laload, 1) := by decide +kernel
theorem dX0_isPart_16 : decode cX0_isPart 16 = .ok (.lload_n 2, 1) := by decide +kernel
theorem dX0_isPart_17 : decode cX0_isPart 17 = .ok (.lcmp, 1) := by decide +kernel
theorem dX0_isPart_18 : decode cX0_isPart 18 = .ok (.ifCond .ne 7, 3) := by decide +kernel
theorem dX0_isPart_21 : decode cX0_isPart 21 = .ok (.iconst 1, 1) := by decide +kernel
theorem dX0_isPart_22 : decode cX0_isPart 22 = .ok (.goto 4, 3) := by decide +kernel
theorem dX0_isPart_25 : decode cX0_isPart 25 = .ok (.iconst 0, 1) := by decide +kernel
theorem dX0_isPart_26 : decode cX0_isPart 26 = .ok (.ireturn, 1) := by decide +kernel
theorem dX0_passesPart_0 : decode cX0_passesPart 0 = .ok (.aload_n 0, 1) := by decide +kernel
theorem dX0_passesPart_1 : decode cX0_passesPart 1 = .ok (.getfield 9, 3) := by decide +kernel
theorem dX0_passesPart_4 : decode cX0_passesPart 4 = .ok (.iload_n 1, 1) := by decide +kernel
theorem dX0_passesPart_5 : decode cX0_passesPart 5 = .ok (.iaload, 1) := by decide +kernel
theorem dX0_passesPart_6 : decode cX0_passesPart 6 = .ok (.lookupswitch 57 #[(4, 26), (5, 43)], 26) := by decide +kernel
theorem dX0_passesPart_32 : decode cX0_passesPart 32 = .ok (.lload_n 2, 1) := by decide +kernel
theorem dX0_passesPart_33 : decode cX0_passesPart 33 = .ok (.aload_n 0, 1) := by decide +kernel
theorem dX0_passesPart_34 : decode cX0_passesPart 34 = .ok (.getfield 15, 3) := by decide +kernel
theorem dX0_passesPart_37 : decode cX0_passesPart 37 = .ok (.iload_n 1, 1) := by decide +kernel
theorem dX0_passesPart_38 : decode cX0_passesPart 38 = .ok (.laload, 1) := by decide +kernel
theorem dX0_passesPart_39 : decode cX0_passesPart 39 = .ok (.lcmp, 1) := by decide +kernel
theorem dX0_passesPart_40 : decode cX0_passesPart 40 = .ok (.ifCond .le 7, 3) := by decide +kernel
theorem dX0_passesPart_43 : decode cX0_passesPart 43 = .ok (.iconst 1, 1) := by decide +kernel
theorem dX0_passesPart_44 : decode cX0_passesPart 44 = .ok (.goto 4, 3) := by decide +kernel
theorem dX0_passesPart_47 : decode cX0_passesPart 47 = .ok (.iconst 0, 1) := by decide +kernel
theorem dX0_passesPart_48 : decode cX0_passesPart 48 = .ok (.ireturn, 1) := by decide +kernel
theorem dX0_passesPart_49 : decode cX0_passesPart 49 = .ok (.lload_n 2, 1) := by decide +kernel
theorem dX0_passesPart_50 : decode cX0_passesPart 50 = .ok (.lconst 1, 1) := by decide +kernel
theorem dX0_passesPart_51 : decode cX0_passesPart 51 = .ok (.land, 1) := by decide +kernel
theorem dX0_passesPart_52 : decode cX0_passesPart 52 = .ok (.lconst 0, 1) := by decide +kernel
theorem dX0_passesPart_53 : decode cX0_passesPart 53 = .ok (.lcmp, 1) := by decide +kernel
theorem dX0_passesPart_54 : decode cX0_passesPart 54 = .ok (.ifCond .ne 7, 3) := by decide +kernel
theorem dX0_passesPart_57 : decode cX0_passesPart 57 = .ok (.iconst 1, 1) := by decide +kernel
theorem dX0_passesPart_58 : decode cX0_passesPart 58 = .ok (.goto 4, 3) := by decide +kernel
theorem dX0_passesPart_61 : decode cX0_passesPart 61 = .ok (.iconst 0, 1) := by decide +kernel
theorem dX0_passesPart_62 : decode cX0_passesPart 62 = .ok (.ireturn, 1) := by decide +kernel
theorem dX0_passesPart_63 : decode cX0_passesPart 63 = .ok (.lload_n 2, 1) := by decide +kernel
theorem dX0_passesPart_64 : decode cX0_passesPart 64 = .ok (.aload_n 0, 1) := by decide +kernel
theorem dX0_passesPart_65 : decode cX0_passesPart 65 = .ok (.getfield 15, 3) := by decide +kernel
theorem dX0_passesPart_68 : decode cX0_passesPart 68 = .ok (.iload_n 1, 1) := by decide +kernel
theorem dX0_passesPart_69 : decode cX0_passesPart 69 = .ok (.laload, 1) := by decide +kernel
theorem dX0_passesPart_70 : decode cX0_passesPart 70 = .ok (.lcmp, 1) := by decide +kernel
theorem dX0_passesPart_71 : decode cX0_passesPart 71 = .ok (.ifCond .eq 7, 3) := by decide +kernel
theorem dX0_passesPart_74 : decode cX0_passesPart 74 = .ok (.iconst 1, 1) := by decide +kernel
theorem dX0_passesPart_75 : decode cX0_passesPart 75 = .ok (.goto 4, 3) := by decide +kernel
theorem dX0_passesPart_78 : decode cX0_passesPart 78 = .ok (.iconst 0, 1) := by decide +kernel
theorem dX0_passesPart_79 : decode cX0_passesPart 79 = .ok (.ireturn, 1) := by decide +kernel
