theorem dX3_init_0 : decode cX3_init 0 = .ok (.aload_n 0, 1) := by decide +kernel
theorem dX3_init_1 : decode cX3_init 1 = .ok (.invokespecial 3, 3) := by decide +kernel
theorem dX3_init_4 : decode cX3_init 4 = .ok (.aload_n 0, 1) := by decide +kernel
theorem dX3_init_5 : decode cX3_init 5 = .ok (.bipush 16, 2) := by decide +kernel
theorem dX3_init_7 : decode cX3_init 7 = .ok (.newarray .long, 2) := by decide +kernel
theorem dX3_init_9 : decode cX3_init 9 = .ok (.putfield 9, 3) := by decide +kernel
theorem dX3_init_12 : decode cX3_init 12 = .ok (.return_, 1) := by decide +kernel
theorem dX3_become_0 : decode cX3_become 0 = .ok (.aload_n 0, 1) := by decide +kernel
theorem dX3_become_1 : decode cX3_become 1 = .ok (.getfield 9, 3) := by decide +kernel
theorem dX3_become_4 : decode cX3_become 4 = .ok (.lconst 0, 1) := by decide +kernel
theorem dX3_become_5 : decode cX3_become 5 = .ok (.invokestatic 15, 3) := by decide +kernel
theorem dX3_become_8 : decode cX3_become 8 = .ok (.aload_n 0, 1) := by decide +kernel
theorem dX3_become_9 : decode cX3_become 9 = .ok (.iload_n 1, 1) := by decide +kernel
theorem dX3_become_10 : decode cX3_become 10 = .ok (.putfield 21, 3) := by decide +kernel
theorem dX3_become_13 : decode cX3_become 13 = .ok (.aload_n 0, 1) := by decide +kernel
theorem dX3_become_14 : decode cX3_become 14 = .ok (.iload_n 1, 1) := by decide +kernel
theorem dX3_become_15 : decode cX3_become 15 = .ok (.ifCond .ne 7, 3) := by decide +kernel
theorem dX3_become_18 : decode cX3_become 18 = .ok (.iconst 0, 1) := by decide +kernel
theorem dX3_become_19 : decode cX3_become 19 = .ok (.goto 4, 3) := by decide +kernel
theorem dX3_become_22 : decode cX3_become 22 = .ok (.iload_n 2, 1) := by decide +kernel
theorem dX3_become_23 : decode cX3_become 23 = .ok (.putfield 25, 3) := by decide +kernel
theorem dX3_become_26 : decode cX3_become 26 = .ok (.return_, 1) := by decide +kernel
theorem dX3_has_0 : decode cX3_has 0 = .ok (.iload_n 1, 1) := by decide +kernel
theorem dX3_has_1 : decode cX3_has 1 = .ok (.ifCond .lt 15, 3) := by decide +kernel
theorem dX3_has_4 : decode cX3_has 4 = .ok (.iload_n 1, 1) := by decide +kernel
theorem dX3_has_5 : decode cX3_has 5 = .ok (.aload_n 0, 1) := by decide +kernel
theorem dX3_has_6 : decode cX3_has 6 = .ok (.getfield 25, 3) := by decide +kernel
theorem dX3_has_9 : decode cX3_has 9 = .ok (.if_icmp .ge 7, 3) := by decide +kernel
theorem dX3_has_12 : decode cX3_has 12 = .ok (.iconst 1, 1) := by decide +kernel
theorem dX3_has_13 : decode cX3_has 13 = .ok (.goto 4, 3) := by decide +kernel
theorem dX3_has_16 : decode cX3_has 16 = .ok (.iconst 0, 1) := by decide +kernel
theorem dX3_has_17 : decode cX3_has 17 = .ok (.ireturn, 1) := by decide +kernel
theorem dX3_put_0 : decode cX3_put 0 = .ok (.aload_n 0, 1) := by decide +kernel
theorem dX3_put_1 : decode cX3_put 1 = .ok (.getfield 21, 3) := by decide +kernel
theorem dX3_put_4 : decode cX3_put 4 = .ok (.lookupswitch 53 #[(1, 28), (2, 40)], 28) := by decide +kernel
theorem dX3_put_32 : decode cX3_put 32 = .ok (.aload_n 0, 1) := by decide +kernel
theorem dX3_put_33 : decode cX3_put 33 = .ok (.getfield 9, 3) := by decide +kernel
theorem dX3_put_36 : decode cX3_put 36 = .ok (.iload_n 1, 1) := by decide +kernel
theorem dX3_put_37 : decode cX3_put 37 = .ok (.lload_n 2, 1) := by decide +kernel
theorem dX3_put_38 : decode cX3_put 38 = .ok (.l2i, 1) := by decide +kernel
theorem dX3_put_39 : decode cX3_put 39 = .ok (.i2l, 1) := by decide +kernel
theorem dX3_put_40 : decode cX3_put 40 = .ok (.lastore, 1) := by decide +kernel
theorem dX3_put_41 : decode cX3_put 41 = .ok (.goto 23, 3) := by decide +kernel
theorem dX3_put_44 : decode cX3_put 44 = .ok (.aload_n 0, 1) := by decide +kernel
theorem dX3_put_45 : decode cX3_put 45 = .ok (.getfield 9, 3) := by decide +kernel
theorem dX3_put_48 : decode cX3_put 48 = .ok (.iload_n 1, 1) := by decide +kernel
theorem dX3_put_49 : decode cX3_put 49 = .ok (.lload_n 2, 1) := by decide +kernel
theorem dX3_put_50 : decode cX3_put 50 = .ok (.l2i, 1) := by decide +kernel
theorem dX3_put_51 : decode cX3_put 51 = .ok (.i2b, 1) := by decide +kernel
theorem dX3_put_52 : decode cX3_put 52 = .ok (.i2l, 1) := by decide +kernel
theorem dX3_put_53 : decode cX3_put 53 = .ok (.lastore, 1) := by decide +kernel
theorem dX3_put_54 : decode cX3_put 54 = .ok (.goto 10, 3) := by decide +kernel
theorem dX3_put_57 : decode cX3_put 57 = .ok (.aload_n 0, 1) := by decide +kernel
theorem dX3_put_58 : decode cX3_put 58 = .ok (.getfield 9, 3) := by decide +kernel
theorem dX3_put_61 : decode cX3_put 61 = .ok (.iload_n 1, 1) := by decide +kernel
theorem dX3_put_62 : decode cX3_put 62 = .ok (.lload_n 2, 1) := by decide +kernel
theorem dX3_put_63 : decode cX3_put 63 = .ok (.lastore, 1) := by decide +kernel
theorem dX3_put_64 : decode cX3_put 64 = .ok (.return_, 1) := by decide +kernel
