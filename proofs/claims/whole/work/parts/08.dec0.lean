theorem dX0_init_0 : decode cX0_init 0 = .ok (.aload_n 0, 1) := by decide +kernel
theorem dX0_init_1 : decode cX0_init 1 = .ok (.invokespecial 3, 3) := by decide +kernel
theorem dX0_init_4 : decode cX0_init 4 = .ok (.aload_n 0, 1) := by decide +kernel
theorem dX0_init_5 : decode cX0_init 5 = .ok (.sipush 2100, 3) := by decide +kernel
theorem dX0_init_8 : decode cX0_init 8 = .ok (.newarray .int, 2) := by decide +kernel
theorem dX0_init_10 : decode cX0_init 10 = .ok (.putfield 9, 3) := by decide +kernel
theorem dX0_init_13 : decode cX0_init 13 = .ok (.aload_n 0, 1) := by decide +kernel
theorem dX0_init_14 : decode cX0_init 14 = .ok (.iconst 0, 1) := by decide +kernel
theorem dX0_init_15 : decode cX0_init 15 = .ok (.putfield 15, 3) := by decide +kernel
theorem dX0_init_18 : decode cX0_init 18 = .ok (.return_, 1) := by decide +kernel
theorem dX0_hasPlace_0 : decode cX0_hasPlace 0 = .ok (.iload_n 1, 1) := by decide +kernel
theorem dX0_hasPlace_1 : decode cX0_hasPlace 1 = .ok (.ifCond .lt 15, 3) := by decide +kernel
theorem dX0_hasPlace_4 : decode cX0_hasPlace 4 = .ok (.iload_n 1, 1) := by decide +kernel
theorem dX0_hasPlace_5 : decode cX0_hasPlace 5 = .ok (.aload_n 0, 1) := by decide +kernel
theorem dX0_hasPlace_6 : decode cX0_hasPlace 6 = .ok (.getfield 15, 3) := by decide +kernel
theorem dX0_hasPlace_9 : decode cX0_hasPlace 9 = .ok (.if_icmp .ge 7, 3) := by decide +kernel
theorem dX0_hasPlace_12 : decode cX0_hasPlace 12 = .ok (.iconst 1, 1) := by decide +kernel
theorem dX0_hasPlace_13 : decode cX0_hasPlace 13 = .ok (.goto 4, 3) := by decide +kernel
theorem dX0_hasPlace_16 : decode cX0_hasPlace 16 = .ok (.iconst 0, 1) := by decide +kernel
theorem dX0_hasPlace_17 : decode cX0_hasPlace 17 = .ok (.ireturn, 1) := by decide +kernel
theorem dX0_hasPlaceOrEnd_0 : decode cX0_hasPlaceOrEnd 0 = .ok (.iload_n 1, 1) := by decide +kernel
theorem dX0_hasPlaceOrEnd_1 : decode cX0_hasPlaceOrEnd 1 = .ok (.ifCond .lt 15, 3) := by decide +kernel
theorem dX0_hasPlaceOrEnd_4 : decode cX0_hasPlaceOrEnd 4 = .ok (.iload_n 1, 1) := by decide +kernel
theorem dX0_hasPlaceOrEnd_5 : decode cX0_hasPlaceOrEnd 5 = .ok (.aload_n 0, 1) := by decide +kernel
theorem dX0_hasPlaceOrEnd_6 : decode cX0_hasPlaceOrEnd 6 = .ok (.getfield 15, 3) := by decide +kernel
theorem dX0_hasPlaceOrEnd_9 : decode cX0_hasPlaceOrEnd 9 = .ok (.if_icmp .gt 7, 3) := by decide +kernel
theorem dX0_hasPlaceOrEnd_12 : decode cX0_hasPlaceOrEnd 12 = .ok (.iconst 1, 1) := by decide +kernel
theorem dX0_hasPlaceOrEnd_13 : decode cX0_hasPlaceOrEnd 13 = .ok (.goto 4, 3) := by decide +kernel
theorem dX0_hasPlaceOrEnd_16 : decode cX0_hasPlaceOrEnd 16 = .ok (.iconst 0, 1) := by decide +kernel
theorem dX0_hasPlaceOrEnd_17 : decode cX0_hasPlaceOrEnd 17 = .ok (.ireturn, 1) := by decide +kernel
theorem dX0_at_0 : decode cX0_at 0 = .ok (.aload_n 0, 1) := by decide +kernel
theorem dX0_at_1 : decode cX0_at 1 = .ok (.iload_n 1, 1) := by decide +kernel
theorem dX0_at_2 : decode cX0_at 2 = .ok (.invokevirtual 19, 3) := by decide +kernel
theorem dX0_at_5 : decode cX0_at 5 = .ok (.ifCond .eq 13, 3) := by decide +kernel
theorem dX0_at_8 : decode cX0_at 8 = .ok (.aload_n 0, 1) := by decide +kernel
theorem dX0_at_9 : decode cX0_at 9 = .ok (.getfield 9, 3) := by decide +kernel
theorem dX0_at_12 : decode cX0_at 12 = .ok (.iload_n 1, 1) := by decide +kernel
theorem dX0_at_13 : decode cX0_at 13 = .ok (.iaload, 1) := by decide +kernel
theorem dX0_at_14 : decode cX0_at 14 = .ok (.i2l, 1) := by decide +kernel
theorem dX0_at_15 : decode cX0_at 15 = .ok (.goto 6, 3) := by decide +kernel
theorem dX0_at_18 : decode cX0_at 18 = .ok (.ldc2_w 23, 3) := by decide +kernel
theorem dX0_at_21 : decode cX0_at 21 = .ok (.lreturn, 1) := by decide +kernel
theorem dX0_put_0 : decode cX0_put 0 = .ok (.aload_n 0, 1) := by decide +kernel
theorem dX0_put_1 : decode cX0_put 1 = .ok (.getfield 15, 3) := by decide +kernel
theorem dX0_put_4 : decode cX0_put 4 = .ok (.sipush 2000, 3) := by decide +kernel
theorem dX0_put_7 : decode cX0_put 7 = .ok (.if_icmp .ge 11, 3) := by decide +kernel
theorem dX0_put_10 : decode cX0_put 10 = .ok (.aload_n 0, 1) := by decide +kernel
theorem dX0_put_11 : decode cX0_put 11 = .ok (.iload_n 1, 1) := by decide +kernel
theorem dX0_put_12 : decode cX0_put 12 = .ok (.invokevirtual 25, 3) := by decide +kernel
theorem dX0_put_15 : decode cX0_put 15 = .ok (.ifCond .ne 5, 3) := by decide +kernel
theorem dX0_put_18 : decode cX0_put 18 = .ok (.iconst 0, 1) := by decide +kernel
theorem dX0_put_19 : decode cX0_put 19 = .ok (.ireturn, 1) := by decide +kernel
theorem dX0_put_20 : decode cX0_put 20 = .ok (.aload_n 0, 1) := by decide +kernel
theorem dX0_put_21 : decode cX0_put 21 = .ok (.getfield 9, 3) := by decide +kernel
theorem dX0_put_24 : decode cX0_put 24 = .ok (.iload_n 1, 1) := by decide +kernel
theorem dX0_put_25 : decode cX0_put 25 = .ok (.aload_n 0, 1) := by decide +kernel
theorem dX0_put_26 : decode cX0_put 26 = .ok (.getfield 9, 3) := by decide +kernel
theorem dX0_put_29 : decode cX0_put 29 = .ok (.iload_n 1, 1) := by decide +kernel
theorem dX0_put_30 : decode cX0_put 30 = .ok (.iconst 1, 1) := by decide +kernel
theorem dX0_put_31 : decode cX0_put 31 = .ok (.iadd, 1) := by decide +kernel
theorem dX0_put_32 : decode cX0_put 32 = .ok (.aload_n 0, 1) := by decide +kernel
theorem dX0_put_33 : decode cX0_put 33 = .ok (.getfield 15, 3) := by decide +kernel
theorem dX0_put_36 : decode cX0_put 36 = .ok (.iload_n 1, 1) := by decide +kernel
theorem dX0_put_37 : decode cX0_put 37 = .ok (.isub, 1) := by decide +kernel
theorem dX0_put_38 : decode cX0_put 38 = .ok (.invokestatic 28, 3) := by decide +kernel
theorem dX0_put_41 : decode cX0_put 41 = .ok (.aload_n 0, 1) := by decide +kernel
theorem dX0_put_42 : decode cX0_put 42 = .ok (.getfield 9, 3) := by decide +kernel
theorem dX0_put_45 : decode cX0_put 45 = .ok (.iload_n 1, 1) := by decide +kernel
theorem dX0_put_46 : decode cX0_put 46 = .ok (.iload_n 2, 1) := by decide +kernel
theorem dX0_put_47 : decode cX0_put 47 = .ok (.iastore, 1) := by decide +kernel
theorem dX0_put_48 : decode cX0_put 48 = .ok (.aload_n 0, 1) := by decide +kernel
theorem dX0_put_49 : decode cX0_put 49 = .ok (.dup, 1) := by decide +kernel
theorem dX0_put_50 : decode cX0_put 50 = .ok (.getfield 15, 3) := by decide +kernel
theorem dX0_put_53 : decode cX0_put 53 = .ok (.iconst 1, 1) := by decide +kernel
theorem dX0_put_54 : decode cX0_put 54 = .ok (.iadd, 1) := by decide +kernel
theorem dX0_put_55 : decode cX0_put 55 = .ok (.putfield 15, 3) := by decide +kernel
theorem dX0_put_58 : decode cX0_put 58 = .ok (.iconst 1, 1) := by decide +kernel
theorem dX0_put_59 : decode cX0_put 59 = .ok (.ireturn, 1) := by decide +kernel
theorem dX0_take_0 : decode cX0_take 0 = .ok (.aload_n 0, 1) := by decide +kernel
theorem dX0_take_1 : decode cX0_take 1 = .ok (.iload_n 1, 1) := by decide +kernel
theorem dX0_take_2 : decode cX0_take 2 = .ok (.invokevirtual 19, 3) := by decide +kernel
theorem dX0_take_5 : decode cX0_take 5 = .ok (.ifCond .ne 7, 3) := by decide +kernel
theorem dX0_take_8 : decode cX0_take 8 = .ok (.ldc2_w 23, 3) := by decide +kernel
theorem dX0_take_11 : decode cX0_take 11 = .ok (.lreturn, 1) := by decide +kernel
theorem dX0_take_12 : decode cX0_take 12 = .ok (.aload_n 0, 1) := by decide +kernel
theorem dX0_take_13 : decode cX0_take 13 = .ok (.getfield 9, 3) := by decide +kernel
theorem dX0_take_16 : decode cX0_take 16 = .ok (.iload_n 1, 1) := by decide +kernel
theorem dX0_take_17 : decode cX0_take 17 = .ok (.iaload, 1) := by decide +kernel
theorem dX0_take_18 : decode cX0_take 18 = .ok (.istore_n 2, 1) := by decide +kernel
theorem dX0_take_19 : decode cX0_take 19 = .ok (.aload_n 0, 1) := by decide +kernel
theorem dX0_take_20 : decode cX0_take 20 = .ok (.dup, 1) := by decide +kernel
theorem dX0_take_21 : decode cX0_take 21 = .ok (.getfield 15, 3) := by decide +kernel
theorem dX0_take_24 : decode cX0_take 24 = .ok (.iconst 1, 1) := by decide +kernel
theorem dX0_take_25 : decode cX0_take 25 = .ok (.isub, 1) := by decide +kernel
theorem dX0_take_26 : decode cX0_take 26 = .ok (.putfield 15, 3) := by decide +kernel
theorem dX0_take_29 : decode cX0_take 29 = .ok (.aload_n 0, 1) := by decide +kernel
theorem dX0_take_30 : decode cX0_take 30 = .ok (.getfield 9, 3) := by decide +kernel
theorem dX0_take_33 : decode cX0_take 33 = .ok (.iload_n 1, 1) := by decide +kernel
theorem dX0_take_34 : decode cX0_take 34 = .ok (.iconst 1, 1) := by decide +kernel
theorem dX0_take_35 : decode cX0_take 35 = .ok (.iadd, 1) := by decide +kernel
theorem dX0_take_36 : decode cX0_take 36 = .ok (.aload_n 0, 1) := by decide +kernel
theorem dX0_take_37 : decode cX0_take 37 = .ok (.getfield 9, 3) := by decide +kernel
theorem dX0_take_40 : decode cX0_take 40 = .ok (.iload_n 1, 1) := by decide +kernel
theorem dX0_take_41 : decode cX0_take 41 = .ok (.aload_n 0, 1) := by decide +kernel
theorem dX0_take_42 : decode cX0_take 42 = .ok (.getfield 15, 3) := by decide +kernel
theorem dX0_take_45 : decode cX0_take 45 = .ok (.iload_n 1, 1) := by decide +kernel
theorem dX0_take_46 : decode cX0_take 46 = .ok (.isub, 1) := by decide +kernel
theorem dX0_take_47 : decode cX0_take 47 = .ok (.invokestatic 28, 3) := by decide +kernel
theorem dX0_take_50 : decode cX0_take 50 = .ok (.iload_n 2, 1) := by decide +kernel
theorem dX0_take_51 : decode cX0_take 51 = .ok (.i2l, 1) := by decide +kernel
theorem dX0_take_52 : decode cX0_take 52 = .ok (.lreturn, 1) := by decide +kernel
theorem dX0_swap_0 : decode cX0_swap 0 = .ok (.aload_n 0, 1) := by decide +kernel
theorem dX0_swap_1 : decode cX0_swap 1 = .ok (.iload_n 1, 1) := by decide +kernel
theorem dX0_swap_2 : decode cX0_swap 2 = .ok (.invokevirtual 19, 3) := by decide +kernel
theorem dX0_swap_5 : decode cX0_swap 5 = .ok (.ifCond .ne 7, 3) := by decide +kernel
theorem dX0_swap_8 : decode cX0_swap 8 = .ok (.ldc2_w 23, 3) := by decide +kernel
theorem dX0_swap_11 : decode cX0_swap 11 = .ok (.lreturn, 1) := by decide +kernel
theorem dX0_swap_12 : decode cX0_swap 12 = .ok (.aload_n 0, 1) := by decide +kernel
theorem dX0_swap_13 : decode cX0_swap 13 = .ok (.getfield 9, 3) := by decide +kernel
theorem dX0_swap_16 : decode cX0_swap 16 = .ok (.iload_n 1, 1) := by decide +kernel
theorem dX0_swap_17 : decode cX0_swap 17 = .ok (.iaload, 1) := by decide +kernel
theorem dX0_swap_18 : decode cX0_swap 18 = .ok (.istore_n 3, 1) := by decide +kernel
theorem dX0_swap_19 : decode cX0_swap 19 = .ok (.aload_n 0, 1) := by decide +kernel
theorem dX0_swap_20 : decode cX0_swap 20 = .ok (.getfield 9, 3) := by decide +kernel
theorem dX0_swap_23 : decode cX0_swap 23 = .ok (.iload_n 1, 1) := by decide +kernel
theorem dX0_swap_24 : decode cX0_swap 24 = .ok (.iload_n 2, 1) := by decide +kernel
theorem dX0_swap_25 : decode cX0_swap 25 = .ok (.iastore, 1) := by decide +kernel
theorem dX0_swap_26 : decode cX0_swap 26 = .ok (.iload_n 3, 1) := by decide +kernel
theorem dX0_swap_27 : decode cX0_swap 27 = .ok (.i2l, 1) := by decide +kernel
theorem dX0_swap_28 : decode cX0_swap 28 = .ok (.lreturn, 1) := by decide +kernel
theorem dX0_wipe_0 : decode cX0_wipe 0 = .ok (.aload_n 0, 1) := by decide +kernel
theorem dX0_wipe_1 : decode cX0_wipe 1 = .ok (.getfield 15, 3) := by decide +kernel
theorem dX0_wipe_4 : decode cX0_wipe 4 = .ok (.istore_n 1, 1) := by decide +kernel
theorem dX0_wipe_5 : decode cX0_wipe 5 = .ok (.aload_n 0, 1) := by decide +kernel
theorem dX0_wipe_6 : decode cX0_wipe 6 = .ok (.iconst 0, 1) := by decide +kernel
theorem dX0_wipe_7 : decode cX0_wipe 7 = .ok (.putfield 15, 3) := by decide +kernel
theorem dX0_wipe_10 : decode cX0_wipe 10 = .ok (.iload_n 1, 1) := by decide +kernel
theorem dX0_wipe_11 : decode cX0_wipe 11 = .ok (.ireturn, 1) := by decide +kernel
theorem dX0_firstPlace_0 : decode cX0_firstPlace 0 = .ok (.iconst 0, 1) := by decide +kernel
theorem dX0_firstPlace_1 : decode cX0_firstPlace 1 = .ok (.istore_n 2, 1) := by decide +kernel
theorem dX0_firstPlace_2 : decode cX0_firstPlace 2 = .ok (.iload_n 2, 1) := by decide +kernel
theorem dX0_firstPlace_3 : decode cX0_firstPlace 3 = .ok (.aload_n 0, 1) := by decide +kernel
theorem dX0_firstPlace_4 : decode cX0_firstPlace 4 = .ok (.getfield 15, 3) := by decide +kernel
theorem dX0_firstPlace_7 : decode cX0_firstPlace 7 = .ok (.if_icmp .ge 21, 3) := by decide +kernel
theorem dX0_firstPlace_10 : decode cX0_firstPlace 10 = .ok (.aload_n 0, 1) := by decide +kernel
theorem dX0_firstPlace_11 : decode cX0_firstPlace 11 = .ok (.getfield 9, 3) := by decide +kernel
theorem dX0_firstPlace_14 : decode cX0_firstPlace 14 = .ok (.iload_n 2, 1) := by decide +kernel
theorem dX0_firstPlace_15 : decode cX0_firstPlace 15 = .ok (.iaload, 1) := by decide +kernel
theorem dX0_firstPlace_16 : decode cX0_firstPlace 16 = .ok (.iload_n 1, 1) := by decide +kernel
theorem dX0_firstPlace_17 : decode cX0_firstPlace 17 = .ok (.if_icmp .ne 5, 3) := by decide +kernel
theorem dX0_firstPlace_20 : decode cX0_firstPlace 20 = .ok (.iload_n 2, 1) := by decide +kernel
theorem dX0_firstPlace_21 : decode cX0_firstPlace 21 = .ok (.ireturn, 1) := by decide +kernel
theorem dX0_firstPlace_22 : decode cX0_firstPlace 22 = .ok (.iinc 2 1, 3) := by decide +kernel
theorem dX0_firstPlace_25 : decode cX0_firstPlace 25 = .ok (.goto (-23), 3) := by decide +kernel
theorem dX0_firstPlace_28 : decode cX0_firstPlace 28 = .ok (.iconst (-1), 1) := by decide +kernel
theorem dX0_firstPlace_29 : decode cX0_firstPlace 29 = .ok (.ireturn, 1) := by decide +kernel
theorem dX0_lastPlace_0 : decode cX0_lastPlace 0 = .ok (.aload_n 0, 1) := by decide +kernel
theorem dX0_lastPlace_1 : decode cX0_lastPlace 1 = .ok (.getfield 15, 3) := by decide +kernel
theorem dX0_lastPlace_4 : decode cX0_lastPlace 4 = .ok (.iconst 1, 1) := by decide +kernel
theorem dX0_lastPlace_5 : decode cX0_lastPlace 5 = .ok (.isub, 1) := by decide +kernel
theorem dX0_lastPlace_6 : decode cX0_lastPlace 6 = .ok (.istore_n 2, 1) := by decide +kernel
theorem dX0_lastPlace_7 : decode cX0_lastPlace 7 = .ok (.iload_n 2, 1) := by decide +kernel
theorem dX0_lastPlace_8 : decode cX0_lastPlace 8 = .ok (.ifCond .lt 21, 3) := by decide +kernel
theorem dX0_lastPlace_11 : decode cX0_lastPlace 11 = .ok (.aload_n 0, 1) := by decide +kernel
theorem dX0_lastPlace_12 : decode cX0_lastPlace 12 = .ok (.getfield 9, 3) := by decide +kernel
theorem dX0_lastPlace_15 : decode cX0_lastPlace 15 = .ok (.iload_n 2, 1) := by decide +kernel
theorem dX0_lastPlace_16 : decode cX0_lastPlace 16 = .ok (.iaload, 1) := by decide +kernel
theorem dX0_lastPlace_17 : decode cX0_lastPlace 17 = .ok (.iload_n 1, 1) := by decide +kernel
theorem dX0_lastPlace_18 : decode cX0_lastPlace 18 = .ok (.if_icmp .ne 5, 3) := by decide +kernel
theorem dX0_lastPlace_21 : decode cX0_lastPlace 21 = .ok (.iload_n 2, 1) := by decide +kernel
theorem dX0_lastPlace_22 : decode cX0_lastPlace 22 = .ok (.ireturn, 1) := by decide +kernel
theorem dX0_lastPlace_23 : decode cX0_lastPlace 23 = .ok (.iinc 2 (-1), 3) := by decide +kernel
theorem dX0_lastPlace_26 : decode cX0_lastPlace 26 = .ok (.goto (-19), 3) := by decide +kernel
theorem dX0_lastPlace_29 : decode cX0_lastPlace 29 = .ok (.iconst (-1), 1) := by decide +kernel
theorem dX0_lastPlace_30 : decode cX0_lastPlace 30 = .ok (.ireturn, 1) := by decide +kernel
theorem dX0_countBelow_0 : decode cX0_countBelow 0 = .ok (.iconst 0, 1) := by decide +kernel
theorem dX0_countBelow_1 : decode cX0_countBelow 1 = .ok (.istore_n 2, 1) := by decide +kernel
theorem dX0_countBelow_2 : decode cX0_countBelow 2 = .ok (.iconst 0, 1) := by decide +kernel
theorem dX0_countBelow_3 : decode cX0_countBelow 3 = .ok (.istore_n 3, 1) := by decide +kernel
theorem dX0_countBelow_4 : decode cX0_countBelow 4 = .ok (.iload_n 3, 1) := by decide +kernel
theorem dX0_countBelow_5 : decode cX0_countBelow 5 = .ok (.aload_n 0, 1) := by decide +kernel
theorem dX0_countBelow_6 : decode cX0_countBelow 6 = .ok (.getfield 15, 3) := by decide +kernel
theorem dX0_countBelow_9 : decode cX0_countBelow 9 = .ok (.if_icmp .ge 22, 3) := by decide +kernel
theorem dX0_countBelow_12 : decode cX0_countBelow 12 = .ok (.aload_n 0, 1) := by decide +kernel
theorem dX0_countBelow_13 : decode cX0_countBelow 13 = .ok (.getfield 9, 3) := by decide +kernel
theorem dX0_countBelow_16 : decode cX0_countBelow 16 = .ok (.iload_n 3, 1) := by decide +kernel
theorem dX0_countBelow_17 : decode cX0_countBelow 17 = .ok (.iaload, 1) := by decide +kernel
theorem dX0_countBelow_18 : decode cX0_countBelow 18 = .ok (.iload_n 1, 1) := by decide +kernel
theorem dX0_countBelow_19 : decode cX0_countBelow 19 = .ok (.if_icmp .ge 6, 3) := by decide +kernel
theorem dX0_countBelow_22 : decode cX0_countBelow 22 = .ok (.iinc 2 1, 3) := by decide +kernel
theorem dX0_countBelow_25 : decode cX0_countBelow 25 = .ok (.iinc 3 1, 3) := by decide +kernel
theorem dX0_countBelow_28 : decode cX0_countBelow 28 = .ok (.goto (-24), 3) := by decide +kernel
theorem dX0_countBelow_31 : decode cX0_countBelow 31 = .ok (.iload_n 2, 1) := by decide +kernel
theorem dX0_countBelow_32 : decode cX0_countBelow 32 = .ok (.ireturn, 1) := by decide +kernel
theorem dJ9_floorMod_7cf53_0 : decode cJ9_floorMod_7cf53 0 = .ok (.iload_n 0, 1) := by decide +kernel
theorem dJ9_floorMod_7cf53_1 : decode cJ9_floorMod_7cf53 1 = .ok (.iload_n 1, 1) := by decide +kernel
theorem dJ9_floorMod_7cf53_2 : decode cJ9_floorMod_7cf53 2 = .ok (.irem, 1) := by decide +kernel
theorem dJ9_floorMod_7cf53_3 : decode cJ9_floorMod_7cf53 3 = .ok (.istore_n 2, 1) := by decide +kernel
theorem dJ9_floorMod_7cf53_4 : decode cJ9_floorMod_7cf53 4 = .ok (.iload_n 0, 1) := by decide +kernel
theorem dJ9_floorMod_7cf53_5 : decode cJ9_floorMod_7cf53 5 = .ok (.iload_n 1, 1) := by decide +kernel
theorem dJ9_floorMod_7cf53_6 : decode cJ9_floorMod_7cf53 6 = .ok (.ixor, 1) := by decide +kernel
theorem dJ9_floorMod_7cf53_7 : decode cJ9_floorMod_7cf53 7 = .ok (.ifCond .ge 11, 3) := by decide +kernel
theorem dJ9_floorMod_7cf53_10 : decode cJ9_floorMod_7cf53 10 = .ok (.iload_n 2, 1) := by decide +kernel
theorem dJ9_floorMod_7cf53_11 : decode cJ9_floorMod_7cf53 11 = .ok (.ifCond .eq 7, 3) := by decide +kernel
theorem dJ9_floorMod_7cf53_14 : decode cJ9_floorMod_7cf53 14 = .ok (.iload_n 2, 1) := by decide +kernel
theorem dJ9_floorMod_7cf53_15 : decode cJ9_floorMod_7cf53 15 = .ok (.iload_n 1, 1) := by decide +kernel
theorem dJ9_floorMod_7cf53_16 : decode cJ9_floorMod_7cf53 16 = .ok (.iadd, 1) := by decide +kernel
theorem dJ9_floorMod_7cf53_17 : decode cJ9_floorMod_7cf53 17 = .ok (.ireturn, 1) := by decide +kernel
theorem dJ9_floorMod_7cf53_18 : decode cJ9_floorMod_7cf53 18 = .ok (.iload_n 2, 1) := by decide +kernel
theorem dJ9_floorMod_7cf53_19 : decode cJ9_floorMod_7cf53 19 = .ok (.ireturn, 1) := by decide +kernel
theorem dX0_takeRest_0 : decode cX0_takeRest 0 = .ok (.iload_n 1, 1) := by decide +kernel
theorem dX0_takeRest_1 : decode cX0_takeRest 1 = .ok (.iconst 1, 1) := by decide +kernel
theorem dX0_takeRest_2 : decode cX0_takeRest 2 = .ok (.if_icmp .ge 5, 3) := by decide +kernel
theorem dX0_takeRest_5 : decode cX0_takeRest 5 = .ok (.iconst (-1), 1) := by decide +kernel
theorem dX0_takeRest_6 : decode cX0_takeRest 6 = .ok (.ireturn, 1) := by decide +kernel
theorem dX0_takeRest_7 : decode cX0_takeRest 7 = .ok (.iconst 0, 1) := by decide +kernel
theorem dX0_takeRest_8 : decode cX0_takeRest 8 = .ok (.istore_n 3, 1) := by decide +kernel
theorem dX0_takeRest_9 : decode cX0_takeRest 9 = .ok (.iconst 0, 1) := by decide +kernel
theorem dX0_takeRest_10 : decode cX0_takeRest 10 = .ok (.istore 4, 2) := by decide +kernel
theorem dX0_takeRest_12 : decode cX0_takeRest 12 = .ok (.iload 4, 2) := by decide +kernel
theorem dX0_takeRest_14 : decode cX0_takeRest 14 = .ok (.aload_n 0, 1) := by decide +kernel
theorem dX0_takeRest_15 : decode cX0_takeRest 15 = .ok (.getfield 15, 3) := by decide +kernel
theorem dX0_takeRest_18 : decode cX0_takeRest 18 = .ok (.if_icmp .ge 40, 3) := by decide +kernel
theorem dX0_takeRest_21 : decode cX0_takeRest 21 = .ok (.aload_n 0, 1) := by decide +kernel
theorem dX0_takeRest_22 : decode cX0_takeRest 22 = .ok (.getfield 9, 3) := by decide +kernel
theorem dX0_takeRest_25 : decode cX0_takeRest 25 = .ok (.iload 4, 2) := by decide +kernel
theorem dX0_takeRest_27 : decode cX0_takeRest 27 = .ok (.iaload, 1) := by decide +kernel
theorem dX0_takeRest_28 : decode cX0_takeRest 28 = .ok (.iload_n 1, 1) := by decide +kernel
theorem dX0_takeRest_29 : decode cX0_takeRest 29 = .ok (.invokestatic 34, 3) := by decide +kernel
theorem dX0_takeRest_32 : decode cX0_takeRest 32 = .ok (.iload_n 2, 1) := by decide +kernel
theorem dX0_takeRest_33 : decode cX0_takeRest 33 = .ok (.if_icmp .eq 19, 3) := by decide +kernel
theorem dX0_takeRest_36 : decode cX0_takeRest 36 = .ok (.aload_n 0, 1) := by decide +kernel
theorem dX0_takeRest_37 : decode cX0_takeRest 37 = .ok (.getfield 9, 3) := by decide +kernel
theorem dX0_takeRest_40 : decode cX0_takeRest 40 = .ok (.iload_n 3, 1) := by decide +kernel
theorem dX0_takeRest_41 : decode cX0_takeRest 41 = .ok (.aload_n 0, 1) := by decide +kernel
theorem dX0_takeRest_42 : decode cX0_takeRest 42 = .ok (.getfield 9, 3) := by decide +kernel
theorem dX0_takeRest_45 : decode cX0_takeRest 45 = .ok (.iload 4, 2) := by decide +kernel
theorem dX0_takeRest_47 : decode cX0_takeRest 47 = .ok (.iaload, 1) := by decide +kernel
theorem dX0_takeRest_48 : decode cX0_takeRest 48 = .ok (.iastore, 1) := by decide +kernel
theorem dX0_takeRest_49 : decode cX0_takeRest 49 = .ok (.iinc 3 1, 3) := by decide +kernel
theorem dX0_takeRest_52 : decode cX0_takeRest 52 = .ok (.iinc 4 1, 3) := by decide +kernel
theorem dX0_takeRest_55 : decode cX0_takeRest 55 = .ok (.goto (-43), 3) := by decide +kernel
theorem dX0_takeRest_58 : decode cX0_takeRest 58 = .ok (.aload_n 0, 1) := by decide +kernel
theorem dX0_takeRest_59 : decode cX0_takeRest 59 = .ok (.getfield 15, 3) := by decide +kernel
theorem dX0_takeRest_62 : decode cX0_takeRest 62 = .ok (.iload_n 3, 1) := by decide +kernel
theorem dX0_takeRest_63 : decode cX0_takeRest 63 = .ok (.isub, 1) := by decide +kernel
theorem dX0_takeRest_64 : decode cX0_takeRest 64 = .ok (.istore 4, 2) := by decide +kernel
theorem dX0_takeRest_66 : decode cX0_takeRest 66 = .ok (.aload_n 0, 1) := by decide +kernel
theorem dX0_takeRest_67 : decode cX0_takeRest 67 = .ok (.iload_n 3, 1) := by decide +kernel
theorem dX0_takeRest_68 : decode cX0_takeRest 68 = .ok (.putfield 15, 3) := by decide +kernel
theorem dX0_takeRest_71 : decode cX0_takeRest 71 = .ok (.iload 4, 2) := by decide +kernel
theorem dX0_takeRest_73 : decode cX0_takeRest 73 = .ok (.ireturn, 1) := by decide +kernel
theorem dX0_turn_0 : decode cX0_turn 0 = .ok (.iload_n 1, 1) := by decide +kernel
theorem dX0_turn_1 : decode cX0_turn 1 = .ok (.ifCond .lt 9, 3) := by decide +kernel
theorem dX0_turn_4 : decode cX0_turn 4 = .ok (.iload_n 1, 1) := by decide +kernel
theorem dX0_turn_5 : decode cX0_turn 5 = .ok (.bipush 100, 2) := by decide +kernel
theorem dX0_turn_7 : decode cX0_turn 7 = .ok (.if_icmp .le 5, 3) := by decide +kernel
theorem dX0_turn_10 : decode cX0_turn 10 = .ok (.iconst (-1), 1) := by decide +kernel
theorem dX0_turn_11 : decode cX0_turn 11 = .ok (.ireturn, 1) := by decide +kernel
theorem dX0_turn_12 : decode cX0_turn 12 = .ok (.aload_n 0, 1) := by decide +kernel
theorem dX0_turn_13 : decode cX0_turn 13 = .ok (.getfield 15, 3) := by decide +kernel
theorem dX0_turn_16 : decode cX0_turn 16 = .ok (.ifCond .le 44, 3) := by decide +kernel
theorem dX0_turn_19 : decode cX0_turn 19 = .ok (.iload_n 1, 1) := by decide +kernel
theorem dX0_turn_20 : decode cX0_turn 20 = .ok (.aload_n 0, 1) := by decide +kernel
theorem dX0_turn_21 : decode cX0_turn 21 = .ok (.getfield 15, 3) := by decide +kernel
theorem dX0_turn_24 : decode cX0_turn 24 = .ok (.irem, 1) := by decide +kernel
theorem dX0_turn_25 : decode cX0_turn 25 = .ok (.istore_n 2, 1) := by decide +kernel
theorem dX0_turn_26 : decode cX0_turn 26 = .ok (.aload_n 0, 1) := by decide +kernel
theorem dX0_turn_27 : decode cX0_turn 27 = .ok (.getfield 9, 3) := by decide +kernel
theorem dX0_turn_30 : decode cX0_turn 30 = .ok (.iconst 0, 1) := by decide +kernel
theorem dX0_turn_31 : decode cX0_turn 31 = .ok (.aload_n 0, 1) := by decide +kernel
theorem dX0_turn_32 : decode cX0_turn 32 = .ok (.getfield 9, 3) := by decide +kernel
theorem dX0_turn_35 : decode cX0_turn 35 = .ok (.aload_n 0, 1) := by decide +kernel
theorem dX0_turn_36 : decode cX0_turn 36 = .ok (.getfield 15, 3) := by decide +kernel
theorem dX0_turn_39 : decode cX0_turn 39 = .ok (.iload_n 2, 1) := by decide +kernel
theorem dX0_turn_40 : decode cX0_turn 40 = .ok (.invokestatic 28, 3) := by decide +kernel
theorem dX0_turn_43 : decode cX0_turn 43 = .ok (.aload_n 0, 1) := by decide +kernel
theorem dX0_turn_44 : decode cX0_turn 44 = .ok (.getfield 9, 3) := by decide +kernel
theorem dX0_turn_47 : decode cX0_turn 47 = .ok (.iload_n 2, 1) := by decide +kernel
theorem dX0_turn_48 : decode cX0_turn 48 = .ok (.aload_n 0, 1) := by decide +kernel
theorem dX0_turn_49 : decode cX0_turn 49 = .ok (.getfield 9, 3) := by decide +kernel
theorem dX0_turn_52 : decode cX0_turn 52 = .ok (.iconst 0, 1) := by decide +kernel
theorem dX0_turn_53 : decode cX0_turn 53 = .ok (.aload_n 0, 1) := by decide +kernel
theorem dX0_turn_54 : decode cX0_turn 54 = .ok (.getfield 15, 3) := by decide +kernel
theorem dX0_turn_57 : decode cX0_turn 57 = .ok (.invokestatic 28, 3) := by decide +kernel
theorem dX0_turn_60 : decode cX0_turn 60 = .ok (.aload_n 0, 1) := by decide +kernel
theorem dX0_turn_61 : decode cX0_turn 61 = .ok (.getfield 15, 3) := by decide +kernel
theorem dX0_turn_64 : decode cX0_turn 64 = .ok (.ireturn, 1) := by decide +kernel
theorem dX0_takeAll_0 : decode cX0_takeAll 0 = .ok (.aload_n 0, 1) := by decide +kernel
theorem dX0_takeAll_1 : decode cX0_takeAll 1 = .ok (.getfield 15, 3) := by decide +kernel
theorem dX0_takeAll_4 : decode cX0_takeAll 4 = .ok (.aload_n 1, 1) := by decide +kernel
theorem dX0_takeAll_5 : decode cX0_takeAll 5 = .ok (.getfield 15, 3) := by decide +kernel
theorem dX0_takeAll_8 : decode cX0_takeAll 8 = .ok (.iadd, 1) := by decide +kernel
theorem dX0_takeAll_9 : decode cX0_takeAll 9 = .ok (.sipush 2000, 3) := by decide +kernel
theorem dX0_takeAll_12 : decode cX0_takeAll 12 = .ok (.if_icmp .gt 11, 3) := by decide +kernel
theorem dX0_takeAll_15 : decode cX0_takeAll 15 = .ok (.aload_n 0, 1) := by decide +kernel
theorem dX0_takeAll_16 : decode cX0_takeAll 16 = .ok (.iload_n 2, 1) := by decide +kernel
theorem dX0_takeAll_17 : decode cX0_takeAll 17 = .ok (.invokevirtual 25, 3) := by decide +kernel
theorem dX0_takeAll_20 : decode cX0_takeAll 20 = .ok (.ifCond .ne 5, 3) := by decide +kernel
theorem dX0_takeAll_23 : decode cX0_takeAll 23 = .ok (.iconst 0, 1) := by decide +kernel
theorem dX0_takeAll_24 : decode cX0_takeAll 24 = .ok (.ireturn, 1) := by decide +kernel
theorem dX0_takeAll_25 : decode cX0_takeAll 25 = .ok (.aload_n 0, 1) := by decide +kernel
theorem dX0_takeAll_26 : decode cX0_takeAll 26 = .ok (.getfield 9, 3) := by decide +kernel
theorem dX0_takeAll_29 : decode cX0_takeAll 29 = .ok (.iload_n 2, 1) := by decide +kernel
theorem dX0_takeAll_30 : decode cX0_takeAll 30 = .ok (.aload_n 0, 1) := by decide +kernel
theorem dX0_takeAll_31 : decode cX0_takeAll 31 = .ok (.getfield 9, 3) := by decide +kernel
theorem dX0_takeAll_34 : decode cX0_takeAll 34 = .ok (.iload_n 2, 1) := by decide +kernel
theorem dX0_takeAll_35 : decode cX0_takeAll 35 = .ok (.aload_n 1, 1) := by decide +kernel
theorem dX0_takeAll_36 : decode cX0_takeAll 36 = .ok (.getfield 15, 3) := by decide +kernel
theorem dX0_takeAll_39 : decode cX0_takeAll 39 = .ok (.iadd, 1) := by decide +kernel
theorem dX0_takeAll_40 : decode cX0_takeAll 40 = .ok (.aload_n 0, 1) := by decide +kernel
theorem dX0_takeAll_41 : decode cX0_takeAll 41 = .ok (.getfield 15, 3) := by decide +kernel
theorem dX0_takeAll_44 : decode cX0_takeAll 44 = .ok (.iload_n 2, 1) := by decide +kernel
theorem dX0_takeAll_45 : decode cX0_takeAll 45 = .ok (.isub, 1) := by decide +kernel
theorem dX0_takeAll_46 : decode cX0_takeAll 46 = .ok (.invokestatic 28, 3) := by decide +kernel
theorem dX0_takeAll_49 : decode cX0_takeAll 49 = .ok (.aload_n 1, 1) := by decide +kernel
theorem dX0_takeAll_50 : decode cX0_takeAll 50 = .ok (.getfield 9, 3) := by decide +kernel
theorem dX0_takeAll_53 : decode cX0_takeAll 53 = .ok (.iconst 0, 1) := by decide +kernel
theorem dX0_takeAll_54 : decode cX0_takeAll 54 = .ok (.aload_n 0, 1) := by decide +kernel
theorem dX0_takeAll_55 : decode cX0_takeAll 55 = .ok (.getfield 9, 3) := by decide +kernel
theorem dX0_takeAll_58 : decode cX0_takeAll 58 = .ok (.iload_n 2, 1) := by decide +kernel
theorem dX0_takeAll_59 : decode cX0_takeAll 59 = .ok (.aload_n 1, 1) := by decide +kernel
theorem dX0_takeAll_60 : decode cX0_takeAll 60 = .ok (.getfield 15, 3) := by decide +kernel
theorem dX0_takeAll_63 : decode cX0_takeAll 63 = .ok (.invokestatic 28, 3) := by decide +kernel
theorem dX0_takeAll_66 : decode cX0_takeAll 66 = .ok (.aload_n 0, 1) := by decide +kernel
theorem dX0_takeAll_67 : decode cX0_takeAll 67 = .ok (.dup, 1) := by decide +kernel
theorem dX0_takeAll_68 : decode cX0_takeAll 68 = .ok (.getfield 15, 3) := by decide +kernel
theorem dX0_takeAll_71 : decode cX0_takeAll 71 = .ok (.aload_n 1, 1) := by decide +kernel
theorem dX0_takeAll_72 : decode cX0_takeAll 72 = .ok (.invokevirtual 40, 3) := by decide +kernel
theorem dX0_takeAll_75 : decode cX0_takeAll 75 = .ok (.iadd, 1) := by decide +kernel
theorem dX0_takeAll_76 : decode cX0_takeAll 76 = .ok (.putfield 15, 3) := by decide +kernel
theorem dX0_takeAll_79 : decode cX0_takeAll 79 = .ok (.iconst 1, 1) := by decide +kernel
theorem dX0_takeAll_80 : decode cX0_takeAll 80 = .ok (.ireturn, 1) := by decide +kernel
