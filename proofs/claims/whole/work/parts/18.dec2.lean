theorem dX2_init_0 : decode cX2_init 0 = .ok (.aload_n 0, 1) := by decide +kernel
theorem dX2_init_1 : decode cX2_init 1 = .ok (.invokespecial 1, 3) := by decide +kernel
theorem dX2_init_4 : decode cX2_init 4 = .ok (.aload_n 0, 1) := by decide +kernel
theorem dX2_init_5 : decode cX2_init 5 = .ok (.sipush 2000, 3) := by decide +kernel
theorem dX2_init_8 : decode cX2_init 8 = .ok (.newarray .int, 2) := by decide +kernel
theorem dX2_init_10 : decode cX2_init 10 = .ok (.putfield 9, 3) := by decide +kernel
theorem dX2_init_13 : decode cX2_init 13 = .ok (.aload_n 0, 1) := by decide +kernel
theorem dX2_init_14 : decode cX2_init 14 = .ok (.sipush 2000, 3) := by decide +kernel
theorem dX2_init_17 : decode cX2_init 17 = .ok (.newarray .int, 2) := by decide +kernel
theorem dX2_init_19 : decode cX2_init 19 = .ok (.putfield 13, 3) := by decide +kernel
theorem dX2_init_22 : decode cX2_init 22 = .ok (.aload_n 0, 1) := by decide +kernel
theorem dX2_init_23 : decode cX2_init 23 = .ok (.sipush 2000, 3) := by decide +kernel
theorem dX2_init_26 : decode cX2_init 26 = .ok (.newarray .int, 2) := by decide +kernel
theorem dX2_init_28 : decode cX2_init 28 = .ok (.putfield 16, 3) := by decide +kernel
theorem dX2_init_31 : decode cX2_init 31 = .ok (.aload_n 0, 1) := by decide +kernel
theorem dX2_init_32 : decode cX2_init 32 = .ok (.iconst (-1), 1) := by decide +kernel
theorem dX2_init_33 : decode cX2_init 33 = .ok (.putfield 19, 3) := by decide +kernel
theorem dX2_init_36 : decode cX2_init 36 = .ok (.aload_n 0, 1) := by decide +kernel
theorem dX2_init_37 : decode cX2_init 37 = .ok (.iconst (-1), 1) := by decide +kernel
theorem dX2_init_38 : decode cX2_init 38 = .ok (.putfield 23, 3) := by decide +kernel
theorem dX2_init_41 : decode cX2_init 41 = .ok (.return_, 1) := by decide +kernel
theorem dX2_put_0 : decode cX2_put 0 = .ok (.iload_n 1, 1) := by decide +kernel
theorem dX2_put_1 : decode cX2_put 1 = .ok (.istore 4, 2) := by decide +kernel
theorem dX2_put_3 : decode cX2_put 3 = .ok (.iload 4, 2) := by decide +kernel
theorem dX2_put_5 : decode cX2_put 5 = .ok (.iload_n 2, 1) := by decide +kernel
theorem dX2_put_6 : decode cX2_put 6 = .ok (.if_icmp .le 19, 3) := by decide +kernel
theorem dX2_put_9 : decode cX2_put 9 = .ok (.aload_n 0, 1) := by decide +kernel
theorem dX2_put_10 : decode cX2_put 10 = .ok (.iload 4, 2) := by decide +kernel
theorem dX2_put_12 : decode cX2_put 12 = .ok (.aload_n 0, 1) := by decide +kernel
theorem dX2_put_13 : decode cX2_put 13 = .ok (.iload 4, 2) := by decide +kernel
theorem dX2_put_15 : decode cX2_put 15 = .ok (.iconst 1, 1) := by decide +kernel
theorem dX2_put_16 : decode cX2_put 16 = .ok (.isub, 1) := by decide +kernel
theorem dX2_put_17 : decode cX2_put 17 = .ok (.iaload, 1) := by decide +kernel
theorem dX2_put_18 : decode cX2_put 18 = .ok (.iastore, 1) := by decide +kernel
theorem dX2_put_19 : decode cX2_put 19 = .ok (.iinc 4 (-1), 3) := by decide +kernel
theorem dX2_put_22 : decode cX2_put 22 = .ok (.goto (-19), 3) := by decide +kernel
theorem dX2_put_25 : decode cX2_put 25 = .ok (.aload_n 0, 1) := by decide +kernel
theorem dX2_put_26 : decode cX2_put 26 = .ok (.iload_n 2, 1) := by decide +kernel
theorem dX2_put_27 : decode cX2_put 27 = .ok (.iload_n 3, 1) := by decide +kernel
theorem dX2_put_28 : decode cX2_put 28 = .ok (.iastore, 1) := by decide +kernel
theorem dX2_put_29 : decode cX2_put 29 = .ok (.return_, 1) := by decide +kernel
theorem dX2_take_0 : decode cX2_take 0 = .ok (.iload_n 2, 1) := by decide +kernel
theorem dX2_take_1 : decode cX2_take 1 = .ok (.istore_n 3, 1) := by decide +kernel
theorem dX2_take_2 : decode cX2_take 2 = .ok (.iload_n 3, 1) := by decide +kernel
theorem dX2_take_3 : decode cX2_take 3 = .ok (.iconst 1, 1) := by decide +kernel
theorem dX2_take_4 : decode cX2_take 4 = .ok (.iadd, 1) := by decide +kernel
theorem dX2_take_5 : decode cX2_take 5 = .ok (.iload_n 1, 1) := by decide +kernel
theorem dX2_take_6 : decode cX2_take 6 = .ok (.if_icmp .ge 17, 3) := by decide +kernel
theorem dX2_take_9 : decode cX2_take 9 = .ok (.aload_n 0, 1) := by decide +kernel
theorem dX2_take_10 : decode cX2_take 10 = .ok (.iload_n 3, 1) := by decide +kernel
theorem dX2_take_11 : decode cX2_take 11 = .ok (.aload_n 0, 1) := by decide +kernel
theorem dX2_take_12 : decode cX2_take 12 = .ok (.iload_n 3, 1) := by decide +kernel
theorem dX2_take_13 : decode cX2_take 13 = .ok (.iconst 1, 1) := by decide +kernel
theorem dX2_take_14 : decode cX2_take 14 = .ok (.iadd, 1) := by decide +kernel
theorem dX2_take_15 : decode cX2_take 15 = .ok (.iaload, 1) := by decide +kernel
theorem dX2_take_16 : decode cX2_take 16 = .ok (.iastore, 1) := by decide +kernel
theorem dX2_take_17 : decode cX2_take 17 = .ok (.iinc 3 1, 3) := by decide +kernel
theorem dX2_take_20 : decode cX2_take 20 = .ok (.goto (-18), 3) := by decide +kernel
theorem dX2_take_23 : decode cX2_take 23 = .ok (.return_, 1) := by decide +kernel
theorem dX2_place_0 : decode cX2_place 0 = .ok (.iconst (-1), 1) := by decide +kernel
theorem dX2_place_1 : decode cX2_place 1 = .ok (.istore 4, 2) := by decide +kernel
theorem dX2_place_3 : decode cX2_place 3 = .ok (.iconst 0, 1) := by decide +kernel
theorem dX2_place_4 : decode cX2_place 4 = .ok (.istore 5, 2) := by decide +kernel
theorem dX2_place_6 : decode cX2_place 6 = .ok (.iload 5, 2) := by decide +kernel
theorem dX2_place_8 : decode cX2_place 8 = .ok (.iload_n 1, 1) := by decide +kernel
theorem dX2_place_9 : decode cX2_place 9 = .ok (.if_icmp .ge 30, 3) := by decide +kernel
theorem dX2_place_12 : decode cX2_place 12 = .ok (.aload_n 0, 1) := by decide +kernel
theorem dX2_place_13 : decode cX2_place 13 = .ok (.iload 5, 2) := by decide +kernel
theorem dX2_place_15 : decode cX2_place 15 = .ok (.iaload, 1) := by decide +kernel
theorem dX2_place_16 : decode cX2_place 16 = .ok (.iload_n 2, 1) := by decide +kernel
theorem dX2_place_17 : decode cX2_place 17 = .ok (.if_icmp .ne 16, 3) := by decide +kernel
theorem dX2_place_20 : decode cX2_place 20 = .ok (.iload_n 3, 1) := by decide +kernel
theorem dX2_place_21 : decode cX2_place 21 = .ok (.ifCond .ne 8, 3) := by decide +kernel
theorem dX2_place_24 : decode cX2_place 24 = .ok (.iload 4, 2) := by decide +kernel
theorem dX2_place_26 : decode cX2_place 26 = .ok (.ifCond .ge 7, 3) := by decide +kernel
theorem dX2_place_29 : decode cX2_place 29 = .ok (.iload 5, 2) := by decide +kernel
theorem dX2_place_31 : decode cX2_place 31 = .ok (.istore 4, 2) := by decide +kernel
theorem dX2_place_33 : decode cX2_place 33 = .ok (.iinc 5 1, 3) := by decide +kernel
theorem dX2_place_36 : decode cX2_place 36 = .ok (.goto (-30), 3) := by decide +kernel
theorem dX2_place_39 : decode cX2_place 39 = .ok (.iload 4, 2) := by decide +kernel
theorem dX2_place_41 : decode cX2_place 41 = .ok (.ireturn, 1) := by decide +kernel
theorem dX2_many_0 : decode cX2_many 0 = .ok (.iload_n 1, 1) := by decide +kernel
theorem dX2_many_1 : decode cX2_many 1 = .ok (.ifCond .ne 10, 3) := by decide +kernel
theorem dX2_many_4 : decode cX2_many 4 = .ok (.aload_n 0, 1) := by decide +kernel
theorem dX2_many_5 : decode cX2_many 5 = .ok (.getfield 26, 3) := by decide +kernel
theorem dX2_many_8 : decode cX2_many 8 = .ok (.goto 28, 3) := by decide +kernel
theorem dX2_many_11 : decode cX2_many 11 = .ok (.iload_n 1, 1) := by decide +kernel
theorem dX2_many_12 : decode cX2_many 12 = .ok (.iconst 1, 1) := by decide +kernel
theorem dX2_many_13 : decode cX2_many 13 = .ok (.if_icmp .ne 10, 3) := by decide +kernel
theorem dX2_many_16 : decode cX2_many 16 = .ok (.aload_n 0, 1) := by decide +kernel
theorem dX2_many_17 : decode cX2_many 17 = .ok (.getfield 29, 3) := by decide +kernel
theorem dX2_many_20 : decode cX2_many 20 = .ok (.goto 16, 3) := by decide +kernel
theorem dX2_many_23 : decode cX2_many 23 = .ok (.iload_n 1, 1) := by decide +kernel
theorem dX2_many_24 : decode cX2_many 24 = .ok (.iconst 2, 1) := by decide +kernel
theorem dX2_many_25 : decode cX2_many 25 = .ok (.if_icmp .ne 10, 3) := by decide +kernel
theorem dX2_many_28 : decode cX2_many 28 = .ok (.aload_n 0, 1) := by decide +kernel
theorem dX2_many_29 : decode cX2_many 29 = .ok (.getfield 32, 3) := by decide +kernel
theorem dX2_many_32 : decode cX2_many 32 = .ok (.goto 4, 3) := by decide +kernel
theorem dX2_many_35 : decode cX2_many 35 = .ok (.iconst (-1), 1) := by decide +kernel
theorem dX2_many_36 : decode cX2_many 36 = .ok (.ireturn, 1) := by decide +kernel
theorem dX2_lift_0 : decode cX2_lift 0 = .ok (.aload_n 0, 1) := by decide +kernel
theorem dX2_lift_1 : decode cX2_lift 1 = .ok (.iconst (-1), 1) := by decide +kernel
theorem dX2_lift_2 : decode cX2_lift 2 = .ok (.putfield 19, 3) := by decide +kernel
theorem dX2_lift_5 : decode cX2_lift 5 = .ok (.aload_n 0, 1) := by decide +kernel
theorem dX2_lift_6 : decode cX2_lift 6 = .ok (.iconst (-1), 1) := by decide +kernel
theorem dX2_lift_7 : decode cX2_lift 7 = .ok (.putfield 23, 3) := by decide +kernel
theorem dX2_lift_10 : decode cX2_lift 10 = .ok (.return_, 1) := by decide +kernel
theorem dX2_enter_0 : decode cX2_enter 0 = .ok (.aload_n 0, 1) := by decide +kernel
theorem dX2_enter_1 : decode cX2_enter 1 = .ok (.getfield 26, 3) := by decide +kernel
theorem dX2_enter_4 : decode cX2_enter 4 = .ok (.sipush 2000, 3) := by decide +kernel
theorem dX2_enter_7 : decode cX2_enter 7 = .ok (.if_icmp .ne 6, 3) := by decide +kernel
theorem dX2_enter_10 : decode cX2_enter 10 = .ok (.bipush (-3), 2) := by decide +kernel
theorem dX2_enter_12 : decode cX2_enter 12 = .ok (.ireturn, 1) := by decide +kernel
theorem dX2_enter_13 : decode cX2_enter 13 = .ok (.iconst 0, 1) := by decide +kernel
theorem dX2_enter_14 : decode cX2_enter 14 = .ok (.istore_n 2, 1) := by decide +kernel
theorem dX2_enter_15 : decode cX2_enter 15 = .ok (.iload_n 2, 1) := by decide +kernel
theorem dX2_enter_16 : decode cX2_enter 16 = .ok (.aload_n 0, 1) := by decide +kernel
theorem dX2_enter_17 : decode cX2_enter 17 = .ok (.getfield 26, 3) := by decide +kernel
theorem dX2_enter_20 : decode cX2_enter 20 = .ok (.if_icmp .ge 19, 3) := by decide +kernel
theorem dX2_enter_23 : decode cX2_enter 23 = .ok (.aload_n 0, 1) := by decide +kernel
theorem dX2_enter_24 : decode cX2_enter 24 = .ok (.getfield 9, 3) := by decide +kernel
theorem dX2_enter_27 : decode cX2_enter 27 = .ok (.iload_n 2, 1) := by decide +kernel
theorem dX2_enter_28 : decode cX2_enter 28 = .ok (.iaload, 1) := by decide +kernel
theorem dX2_enter_29 : decode cX2_enter 29 = .ok (.iload_n 1, 1) := by decide +kernel
theorem dX2_enter_30 : decode cX2_enter 30 = .ok (.if_icmp .gt 9, 3) := by decide +kernel
theorem dX2_enter_33 : decode cX2_enter 33 = .ok (.iinc 2 1, 3) := by decide +kernel
theorem dX2_enter_36 : decode cX2_enter 36 = .ok (.goto (-21), 3) := by decide +kernel
theorem dX2_enter_39 : decode cX2_enter 39 = .ok (.aload_n 0, 1) := by decide +kernel
theorem dX2_enter_40 : decode cX2_enter 40 = .ok (.getfield 9, 3) := by decide +kernel
theorem dX2_enter_43 : decode cX2_enter 43 = .ok (.aload_n 0, 1) := by decide +kernel
theorem dX2_enter_44 : decode cX2_enter 44 = .ok (.getfield 26, 3) := by decide +kernel
theorem dX2_enter_47 : decode cX2_enter 47 = .ok (.iload_n 2, 1) := by decide +kernel
theorem dX2_enter_48 : decode cX2_enter 48 = .ok (.iload_n 1, 1) := by decide +kernel
theorem dX2_enter_49 : decode cX2_enter 49 = .ok (.invokestatic 35, 3) := by decide +kernel
theorem dX2_enter_52 : decode cX2_enter 52 = .ok (.aload_n 0, 1) := by decide +kernel
theorem dX2_enter_53 : decode cX2_enter 53 = .ok (.dup, 1) := by decide +kernel
theorem dX2_enter_54 : decode cX2_enter 54 = .ok (.getfield 26, 3) := by decide +kernel
theorem dX2_enter_57 : decode cX2_enter 57 = .ok (.iconst 1, 1) := by decide +kernel
theorem dX2_enter_58 : decode cX2_enter 58 = .ok (.iadd, 1) := by decide +kernel
theorem dX2_enter_59 : decode cX2_enter 59 = .ok (.dup_x1, 1) := by decide +kernel
theorem dX2_enter_60 : decode cX2_enter 60 = .ok (.putfield 26, 3) := by decide +kernel
theorem dX2_enter_63 : decode cX2_enter 63 = .ok (.ireturn, 1) := by decide +kernel
theorem dX2_call_0 : decode cX2_call 0 = .ok (.aload_n 0, 1) := by decide +kernel
theorem dX2_call_1 : decode cX2_call 1 = .ok (.getfield 26, 3) := by decide +kernel
theorem dX2_call_4 : decode cX2_call 4 = .ok (.ifCond .ne 7, 3) := by decide +kernel
theorem dX2_call_7 : decode cX2_call 7 = .ok (.ldc2_w 39, 3) := by decide +kernel
theorem dX2_call_10 : decode cX2_call 10 = .ok (.lreturn, 1) := by decide +kernel
theorem dX2_call_11 : decode cX2_call 11 = .ok (.aload_n 0, 1) := by decide +kernel
theorem dX2_call_12 : decode cX2_call 12 = .ok (.getfield 9, 3) := by decide +kernel
theorem dX2_call_15 : decode cX2_call 15 = .ok (.iconst 0, 1) := by decide +kernel
theorem dX2_call_16 : decode cX2_call 16 = .ok (.iaload, 1) := by decide +kernel
theorem dX2_call_17 : decode cX2_call 17 = .ok (.istore_n 2, 1) := by decide +kernel
theorem dX2_call_18 : decode cX2_call 18 = .ok (.iload_n 1, 1) := by decide +kernel
theorem dX2_call_19 : decode cX2_call 19 = .ok (.ifCond .ne 25, 3) := by decide +kernel
theorem dX2_call_22 : decode cX2_call 22 = .ok (.aload_n 0, 1) := by decide +kernel
theorem dX2_call_23 : decode cX2_call 23 = .ok (.getfield 9, 3) := by decide +kernel
theorem dX2_call_26 : decode cX2_call 26 = .ok (.aload_n 0, 1) := by decide +kernel
theorem dX2_call_27 : decode cX2_call 27 = .ok (.getfield 26, 3) := by decide +kernel
theorem dX2_call_30 : decode cX2_call 30 = .ok (.iconst 0, 1) := by decide +kernel
theorem dX2_call_31 : decode cX2_call 31 = .ok (.invokestatic 41, 3) := by decide +kernel
theorem dX2_call_34 : decode cX2_call 34 = .ok (.aload_n 0, 1) := by decide +kernel
theorem dX2_call_35 : decode cX2_call 35 = .ok (.dup, 1) := by decide +kernel
theorem dX2_call_36 : decode cX2_call 36 = .ok (.getfield 26, 3) := by decide +kernel
theorem dX2_call_39 : decode cX2_call 39 = .ok (.iconst 1, 1) := by decide +kernel
theorem dX2_call_40 : decode cX2_call 40 = .ok (.isub, 1) := by decide +kernel
theorem dX2_call_41 : decode cX2_call 41 = .ok (.putfield 26, 3) := by decide +kernel
theorem dX2_call_44 : decode cX2_call 44 = .ok (.iload_n 2, 1) := by decide +kernel
theorem dX2_call_45 : decode cX2_call 45 = .ok (.i2l, 1) := by decide +kernel
theorem dX2_call_46 : decode cX2_call 46 = .ok (.lreturn, 1) := by decide +kernel
theorem dX2_leave_0 : decode cX2_leave 0 = .ok (.aload_n 0, 1) := by decide +kernel
theorem dX2_leave_1 : decode cX2_leave 1 = .ok (.getfield 9, 3) := by decide +kernel
theorem dX2_leave_4 : decode cX2_leave 4 = .ok (.aload_n 0, 1) := by decide +kernel
theorem dX2_leave_5 : decode cX2_leave 5 = .ok (.getfield 26, 3) := by decide +kernel
theorem dX2_leave_8 : decode cX2_leave 8 = .ok (.iload_n 1, 1) := by decide +kernel
theorem dX2_leave_9 : decode cX2_leave 9 = .ok (.iconst 0, 1) := by decide +kernel
theorem dX2_leave_10 : decode cX2_leave 10 = .ok (.invokestatic 45, 3) := by decide +kernel
theorem dX2_leave_13 : decode cX2_leave 13 = .ok (.istore_n 2, 1) := by decide +kernel
theorem dX2_leave_14 : decode cX2_leave 14 = .ok (.iload_n 2, 1) := by decide +kernel
theorem dX2_leave_15 : decode cX2_leave 15 = .ok (.ifCond .ge 5, 3) := by decide +kernel
theorem dX2_leave_18 : decode cX2_leave 18 = .ok (.iconst 0, 1) := by decide +kernel
theorem dX2_leave_19 : decode cX2_leave 19 = .ok (.ireturn, 1) := by decide +kernel
theorem dX2_leave_20 : decode cX2_leave 20 = .ok (.aload_n 0, 1) := by decide +kernel
theorem dX2_leave_21 : decode cX2_leave 21 = .ok (.getfield 9, 3) := by decide +kernel
theorem dX2_leave_24 : decode cX2_leave 24 = .ok (.aload_n 0, 1) := by decide +kernel
theorem dX2_leave_25 : decode cX2_leave 25 = .ok (.getfield 26, 3) := by decide +kernel
theorem dX2_leave_28 : decode cX2_leave 28 = .ok (.iload_n 2, 1) := by decide +kernel
theorem dX2_leave_29 : decode cX2_leave 29 = .ok (.invokestatic 41, 3) := by decide +kernel
theorem dX2_leave_32 : decode cX2_leave 32 = .ok (.aload_n 0, 1) := by decide +kernel
theorem dX2_leave_33 : decode cX2_leave 33 = .ok (.dup, 1) := by decide +kernel
theorem dX2_leave_34 : decode cX2_leave 34 = .ok (.getfield 26, 3) := by decide +kernel
theorem dX2_leave_37 : decode cX2_leave 37 = .ok (.iconst 1, 1) := by decide +kernel
theorem dX2_leave_38 : decode cX2_leave 38 = .ok (.isub, 1) := by decide +kernel
theorem dX2_leave_39 : decode cX2_leave 39 = .ok (.putfield 26, 3) := by decide +kernel
theorem dX2_leave_42 : decode cX2_leave 42 = .ok (.iconst 1, 1) := by decide +kernel
theorem dX2_leave_43 : decode cX2_leave 43 = .ok (.ireturn, 1) := by decide +kernel
theorem dX2_has_0 : decode cX2_has 0 = .ok (.iload_n 1, 1) := by decide +kernel
theorem dX2_has_1 : decode cX2_has 1 = .ok (.ifCond .ne 10, 3) := by decide +kernel
theorem dX2_has_4 : decode cX2_has 4 = .ok (.aload_n 0, 1) := by decide +kernel
theorem dX2_has_5 : decode cX2_has 5 = .ok (.getfield 9, 3) := by decide +kernel
theorem dX2_has_8 : decode cX2_has 8 = .ok (.goto 19, 3) := by decide +kernel
theorem dX2_has_11 : decode cX2_has 11 = .ok (.iload_n 1, 1) := by decide +kernel
theorem dX2_has_12 : decode cX2_has 12 = .ok (.iconst 1, 1) := by decide +kernel
theorem dX2_has_13 : decode cX2_has 13 = .ok (.if_icmp .ne 10, 3) := by decide +kernel
theorem dX2_has_16 : decode cX2_has 16 = .ok (.aload_n 0, 1) := by decide +kernel
theorem dX2_has_17 : decode cX2_has 17 = .ok (.getfield 13, 3) := by decide +kernel
theorem dX2_has_20 : decode cX2_has 20 = .ok (.goto 7, 3) := by decide +kernel
theorem dX2_has_23 : decode cX2_has 23 = .ok (.aload_n 0, 1) := by decide +kernel
theorem dX2_has_24 : decode cX2_has 24 = .ok (.getfield 16, 3) := by decide +kernel
theorem dX2_has_27 : decode cX2_has 27 = .ok (.astore_n 3, 1) := by decide +kernel
theorem dX2_has_28 : decode cX2_has 28 = .ok (.aload_n 3, 1) := by decide +kernel
theorem dX2_has_29 : decode cX2_has 29 = .ok (.aload_n 0, 1) := by decide +kernel
theorem dX2_has_30 : decode cX2_has 30 = .ok (.iload_n 1, 1) := by decide +kernel
theorem dX2_has_31 : decode cX2_has 31 = .ok (.invokevirtual 49, 3) := by decide +kernel
theorem dX2_has_34 : decode cX2_has 34 = .ok (.iload_n 2, 1) := by decide +kernel
theorem dX2_has_35 : decode cX2_has 35 = .ok (.iconst 0, 1) := by decide +kernel
theorem dX2_has_36 : decode cX2_has 36 = .ok (.invokestatic 45, 3) := by decide +kernel
theorem dX2_has_39 : decode cX2_has 39 = .ok (.ifCond .lt 7, 3) := by decide +kernel
theorem dX2_has_42 : decode cX2_has 42 = .ok (.iconst 1, 1) := by decide +kernel
theorem dX2_has_43 : decode cX2_has 43 = .ok (.goto 4, 3) := by decide +kernel
theorem dX2_has_46 : decode cX2_has 46 = .ok (.iconst 0, 1) := by decide +kernel
theorem dX2_has_47 : decode cX2_has 47 = .ok (.ireturn, 1) := by decide +kernel
theorem dX2_size_0 : decode cX2_size 0 = .ok (.aload_n 0, 1) := by decide +kernel
theorem dX2_size_1 : decode cX2_size 1 = .ok (.iload_n 1, 1) := by decide +kernel
theorem dX2_size_2 : decode cX2_size 2 = .ok (.invokevirtual 49, 3) := by decide +kernel
theorem dX2_size_5 : decode cX2_size 5 = .ok (.ireturn, 1) := by decide +kernel
theorem dX2_clear_0 : decode cX2_clear 0 = .ok (.aload_n 0, 1) := by decide +kernel
theorem dX2_clear_1 : decode cX2_clear 1 = .ok (.iload_n 1, 1) := by decide +kernel
theorem dX2_clear_2 : decode cX2_clear 2 = .ok (.invokevirtual 49, 3) := by decide +kernel
theorem dX2_clear_5 : decode cX2_clear 5 = .ok (.istore_n 2, 1) := by decide +kernel
theorem dX2_clear_6 : decode cX2_clear 6 = .ok (.iload_n 1, 1) := by decide +kernel
theorem dX2_clear_7 : decode cX2_clear 7 = .ok (.ifCond .ne 8, 3) := by decide +kernel
theorem dX2_clear_10 : decode cX2_clear 10 = .ok (.aload_n 0, 1) := by decide +kernel
theorem dX2_clear_11 : decode cX2_clear 11 = .ok (.iconst 0, 1) := by decide +kernel
theorem dX2_clear_12 : decode cX2_clear 12 = .ok (.putfield 26, 3) := by decide +kernel
theorem dX2_clear_15 : decode cX2_clear 15 = .ok (.iload_n 1, 1) := by decide +kernel
theorem dX2_clear_16 : decode cX2_clear 16 = .ok (.iconst 1, 1) := by decide +kernel
theorem dX2_clear_17 : decode cX2_clear 17 = .ok (.if_icmp .ne 8, 3) := by decide +kernel
theorem dX2_clear_20 : decode cX2_clear 20 = .ok (.aload_n 0, 1) := by decide +kernel
theorem dX2_clear_21 : decode cX2_clear 21 = .ok (.iconst 0, 1) := by decide +kernel
theorem dX2_clear_22 : decode cX2_clear 22 = .ok (.putfield 29, 3) := by decide +kernel
theorem dX2_clear_25 : decode cX2_clear 25 = .ok (.iload_n 1, 1) := by decide +kernel
theorem dX2_clear_26 : decode cX2_clear 26 = .ok (.iconst 2, 1) := by decide +kernel
theorem dX2_clear_27 : decode cX2_clear 27 = .ok (.if_icmp .ne 16, 3) := by decide +kernel
theorem dX2_clear_30 : decode cX2_clear 30 = .ok (.iload_n 2, 1) := by decide +kernel
theorem dX2_clear_31 : decode cX2_clear 31 = .ok (.ifCond .le 7, 3) := by decide +kernel
theorem dX2_clear_34 : decode cX2_clear 34 = .ok (.aload_n 0, 1) := by decide +kernel
theorem dX2_clear_35 : decode cX2_clear 35 = .ok (.invokevirtual 53, 3) := by decide +kernel
theorem dX2_clear_38 : decode cX2_clear 38 = .ok (.aload_n 0, 1) := by decide +kernel
theorem dX2_clear_39 : decode cX2_clear 39 = .ok (.iconst 0, 1) := by decide +kernel
theorem dX2_clear_40 : decode cX2_clear 40 = .ok (.putfield 32, 3) := by decide +kernel
theorem dX2_clear_43 : decode cX2_clear 43 = .ok (.iload_n 2, 1) := by decide +kernel
theorem dX2_clear_44 : decode cX2_clear 44 = .ok (.ireturn, 1) := by decide +kernel
theorem dX2_join_0 : decode cX2_join 0 = .ok (.aload_n 0, 1) := by decide +kernel
theorem dX2_join_1 : decode cX2_join 1 = .ok (.getfield 29, 3) := by decide +kernel
theorem dX2_join_4 : decode cX2_join 4 = .ok (.sipush 2000, 3) := by decide +kernel
theorem dX2_join_7 : decode cX2_join 7 = .ok (.if_icmp .ne 6, 3) := by decide +kernel
theorem dX2_join_10 : decode cX2_join 10 = .ok (.bipush (-3), 2) := by decide +kernel
theorem dX2_join_12 : decode cX2_join 12 = .ok (.ireturn, 1) := by decide +kernel
theorem dX2_join_13 : decode cX2_join 13 = .ok (.aload_n 0, 1) := by decide +kernel
theorem dX2_join_14 : decode cX2_join 14 = .ok (.getfield 13, 3) := by decide +kernel
theorem dX2_join_17 : decode cX2_join 17 = .ok (.aload_n 0, 1) := by decide +kernel
theorem dX2_join_18 : decode cX2_join 18 = .ok (.getfield 29, 3) := by decide +kernel
theorem dX2_join_21 : decode cX2_join 21 = .ok (.iload_n 2, 1) := by decide +kernel
theorem dX2_join_22 : decode cX2_join 22 = .ok (.ifCond .eq 7, 3) := by decide +kernel
theorem dX2_join_25 : decode cX2_join 25 = .ok (.iconst 0, 1) := by decide +kernel
theorem dX2_join_26 : decode cX2_join 26 = .ok (.goto 7, 3) := by decide +kernel
theorem dX2_join_29 : decode cX2_join 29 = .ok (.aload_n 0, 1) := by decide +kernel
theorem dX2_join_30 : decode cX2_join 30 = .ok (.getfield 29, 3) := by decide +kernel
theorem dX2_join_33 : decode cX2_join 33 = .ok (.iload_n 1, 1) := by decide +kernel
theorem dX2_join_34 : decode cX2_join 34 = .ok (.invokestatic 35, 3) := by decide +kernel
theorem dX2_join_37 : decode cX2_join 37 = .ok (.aload_n 0, 1) := by decide +kernel
theorem dX2_join_38 : decode cX2_join 38 = .ok (.dup, 1) := by decide +kernel
theorem dX2_join_39 : decode cX2_join 39 = .ok (.getfield 29, 3) := by decide +kernel
theorem dX2_join_42 : decode cX2_join 42 = .ok (.iconst 1, 1) := by decide +kernel
theorem dX2_join_43 : decode cX2_join 43 = .ok (.iadd, 1) := by decide +kernel
theorem dX2_join_44 : decode cX2_join 44 = .ok (.dup_x1, 1) := by decide +kernel
theorem dX2_join_45 : decode cX2_join 45 = .ok (.putfield 29, 3) := by decide +kernel
theorem dX2_join_48 : decode cX2_join 48 = .ok (.ireturn, 1) := by decide +kernel
theorem dX2_serve_0 : decode cX2_serve 0 = .ok (.aload_n 0, 1) := by decide +kernel
theorem dX2_serve_1 : decode cX2_serve 1 = .ok (.getfield 29, 3) := by decide +kernel
theorem dX2_serve_4 : decode cX2_serve 4 = .ok (.ifCond .ne 7, 3) := by decide +kernel
theorem dX2_serve_7 : decode cX2_serve 7 = .ok (.ldc2_w 39, 3) := by decide +kernel
theorem dX2_serve_10 : decode cX2_serve 10 = .ok (.lreturn, 1) := by decide +kernel
theorem dX2_serve_11 : decode cX2_serve 11 = .ok (.iload_n 1, 1) := by decide +kernel
theorem dX2_serve_12 : decode cX2_serve 12 = .ok (.ifCond .eq 7, 3) := by decide +kernel
theorem dX2_serve_15 : decode cX2_serve 15 = .ok (.iconst 0, 1) := by decide +kernel
theorem dX2_serve_16 : decode cX2_serve 16 = .ok (.goto 9, 3) := by decide +kernel
theorem dX2_serve_19 : decode cX2_serve 19 = .ok (.aload_n 0, 1) := by decide +kernel
theorem dX2_serve_20 : decode cX2_serve 20 = .ok (.getfield 29, 3) := by decide +kernel
theorem dX2_serve_23 : decode cX2_serve 23 = .ok (.iconst 1, 1) := by decide +kernel
theorem dX2_serve_24 : decode cX2_serve 24 = .ok (.isub, 1) := by decide +kernel
theorem dX2_serve_25 : decode cX2_serve 25 = .ok (.istore_n 3, 1) := by decide +kernel
theorem dX2_serve_26 : decode cX2_serve 26 = .ok (.aload_n 0, 1) := by decide +kernel
theorem dX2_serve_27 : decode cX2_serve 27 = .ok (.getfield 13, 3) := by decide +kernel
theorem dX2_serve_30 : decode cX2_serve 30 = .ok (.iload_n 3, 1) := by decide +kernel
theorem dX2_serve_31 : decode cX2_serve 31 = .ok (.iaload, 1) := by decide +kernel
theorem dX2_serve_32 : decode cX2_serve 32 = .ok (.istore 4, 2) := by decide +kernel
theorem dX2_serve_34 : decode cX2_serve 34 = .ok (.iload_n 2, 1) := by decide +kernel
theorem dX2_serve_35 : decode cX2_serve 35 = .ok (.ifCond .ne 25, 3) := by decide +kernel
theorem dX2_serve_38 : decode cX2_serve 38 = .ok (.aload_n 0, 1) := by decide +kernel
theorem dX2_serve_39 : decode cX2_serve 39 = .ok (.getfield 13, 3) := by decide +kernel
theorem dX2_serve_42 : decode cX2_serve 42 = .ok (.aload_n 0, 1) := by decide +kernel
theorem dX2_serve_43 : decode cX2_serve 43 = .ok (.getfield 29, 3) := by decide +kernel
theorem dX2_serve_46 : decode cX2_serve 46 = .ok (.iload_n 3, 1) := by decide +kernel
theorem dX2_serve_47 : decode cX2_serve 47 = .ok (.invokestatic 41, 3) := by decide +kernel
theorem dX2_serve_50 : decode cX2_serve 50 = .ok (.aload_n 0, 1) := by decide +kernel
theorem dX2_serve_51 : decode cX2_serve 51 = .ok (.dup, 1) := by decide +kernel
theorem dX2_serve_52 : decode cX2_serve 52 = .ok (.getfield 29, 3) := by decide +kernel
theorem dX2_serve_55 : decode cX2_serve 55 = .ok (.iconst 1, 1) := by decide +kernel
theorem dX2_serve_56 : decode cX2_serve 56 = .ok (.isub, 1) := by decide +kernel
theorem dX2_serve_57 : decode cX2_serve 57 = .ok (.putfield 29, 3) := by decide +kernel
theorem dX2_serve_60 : decode cX2_serve 60 = .ok (.iload 4, 2) := by decide +kernel
theorem dX2_serve_62 : decode cX2_serve 62 = .ok (.i2l, 1) := by decide +kernel
theorem dX2_serve_63 : decode cX2_serve 63 = .ok (.lreturn, 1) := by decide +kernel
theorem dX2_drop_0 : decode cX2_drop 0 = .ok (.aload_n 0, 1) := by decide +kernel
theorem dX2_drop_1 : decode cX2_drop 1 = .ok (.getfield 13, 3) := by decide +kernel
theorem dX2_drop_4 : decode cX2_drop 4 = .ok (.aload_n 0, 1) := by decide +kernel
theorem dX2_drop_5 : decode cX2_drop 5 = .ok (.getfield 29, 3) := by decide +kernel
theorem dX2_drop_8 : decode cX2_drop 8 = .ok (.iload_n 1, 1) := by decide +kernel
theorem dX2_drop_9 : decode cX2_drop 9 = .ok (.iload_n 2, 1) := by decide +kernel
theorem dX2_drop_10 : decode cX2_drop 10 = .ok (.ifCond .ne 7, 3) := by decide +kernel
theorem dX2_drop_13 : decode cX2_drop 13 = .ok (.iconst 1, 1) := by decide +kernel
theorem dX2_drop_14 : decode cX2_drop 14 = .ok (.goto 4, 3) := by decide +kernel
theorem dX2_drop_17 : decode cX2_drop 17 = .ok (.iconst 0, 1) := by decide +kernel
theorem dX2_drop_18 : decode cX2_drop 18 = .ok (.invokestatic 45, 3) := by decide +kernel
theorem dX2_drop_21 : decode cX2_drop 21 = .ok (.istore_n 3, 1) := by decide +kernel
theorem dX2_drop_22 : decode cX2_drop 22 = .ok (.iload_n 3, 1) := by decide +kernel
theorem dX2_drop_23 : decode cX2_drop 23 = .ok (.ifCond .ge 5, 3) := by decide +kernel
theorem dX2_drop_26 : decode cX2_drop 26 = .ok (.iconst 0, 1) := by decide +kernel
theorem dX2_drop_27 : decode cX2_drop 27 = .ok (.ireturn, 1) := by decide +kernel
theorem dX2_drop_28 : decode cX2_drop 28 = .ok (.aload_n 0, 1) := by decide +kernel
theorem dX2_drop_29 : decode cX2_drop 29 = .ok (.getfield 13, 3) := by decide +kernel
theorem dX2_drop_32 : decode cX2_drop 32 = .ok (.aload_n 0, 1) := by decide +kernel
theorem dX2_drop_33 : decode cX2_drop 33 = .ok (.getfield 29, 3) := by decide +kernel
theorem dX2_drop_36 : decode cX2_drop 36 = .ok (.iload_n 3, 1) := by decide +kernel
theorem dX2_drop_37 : decode cX2_drop 37 = .ok (.invokestatic 41, 3) := by decide +kernel
theorem dX2_drop_40 : decode cX2_drop 40 = .ok (.aload_n 0, 1) := by decide +kernel
theorem dX2_drop_41 : decode cX2_drop 41 = .ok (.dup, 1) := by decide +kernel
theorem dX2_drop_42 : decode cX2_drop 42 = .ok (.getfield 29, 3) := by decide +kernel
theorem dX2_drop_45 : decode cX2_drop 45 = .ok (.iconst 1, 1) := by decide +kernel
theorem dX2_drop_46 : decode cX2_drop 46 = .ok (.isub, 1) := by decide +kernel
theorem dX2_drop_47 : decode cX2_drop 47 = .ok (.putfield 29, 3) := by decide +kernel
theorem dX2_drop_50 : decode cX2_drop 50 = .ok (.iconst 1, 1) := by decide +kernel
theorem dX2_drop_51 : decode cX2_drop 51 = .ok (.ireturn, 1) := by decide +kernel
theorem dX2_ring_0 : decode cX2_ring 0 = .ok (.iload_n 1, 1) := by decide +kernel
theorem dX2_ring_1 : decode cX2_ring 1 = .ok (.ifCond .lt 11, 3) := by decide +kernel
theorem dX2_ring_4 : decode cX2_ring 4 = .ok (.iload_n 1, 1) := by decide +kernel
theorem dX2_ring_5 : decode cX2_ring 5 = .ok (.aload_n 0, 1) := by decide +kernel
theorem dX2_ring_6 : decode cX2_ring 6 = .ok (.getfield 29, 3) := by decide +kernel
theorem dX2_ring_9 : decode cX2_ring 9 = .ok (.if_icmp .lt 7, 3) := by decide +kernel
theorem dX2_ring_12 : decode cX2_ring 12 = .ok (.ldc2_w 39, 3) := by decide +kernel
theorem dX2_ring_15 : decode cX2_ring 15 = .ok (.lreturn, 1) := by decide +kernel
theorem dX2_ring_16 : decode cX2_ring 16 = .ok (.aload_n 0, 1) := by decide +kernel
theorem dX2_ring_17 : decode cX2_ring 17 = .ok (.getfield 13, 3) := by decide +kernel
theorem dX2_ring_20 : decode cX2_ring 20 = .ok (.iload_n 2, 1) := by decide +kernel
theorem dX2_ring_21 : decode cX2_ring 21 = .ok (.ifCond .eq 14, 3) := by decide +kernel
theorem dX2_ring_24 : decode cX2_ring 24 = .ok (.aload_n 0, 1) := by decide +kernel
theorem dX2_ring_25 : decode cX2_ring 25 = .ok (.getfield 29, 3) := by decide +kernel
theorem dX2_ring_28 : decode cX2_ring 28 = .ok (.iconst 1, 1) := by decide +kernel
theorem dX2_ring_29 : decode cX2_ring 29 = .ok (.isub, 1) := by decide +kernel
theorem dX2_ring_30 : decode cX2_ring 30 = .ok (.iload_n 1, 1) := by decide +kernel
theorem dX2_ring_31 : decode cX2_ring 31 = .ok (.isub, 1) := by decide +kernel
theorem dX2_ring_32 : decode cX2_ring 32 = .ok (.goto 4, 3) := by decide +kernel
theorem dX2_ring_35 : decode cX2_ring 35 = .ok (.iload_n 1, 1) := by decide +kernel
theorem dX2_ring_36 : decode cX2_ring 36 = .ok (.iaload, 1) := by decide +kernel
theorem dX2_ring_37 : decode cX2_ring 37 = .ok (.i2l, 1) := by decide +kernel
theorem dX2_ring_38 : decode cX2_ring 38 = .ok (.lreturn, 1) := by decide +kernel
theorem dX2_sieve_0 : decode cX2_sieve 0 = .ok (.iload_n 1, 1) := by decide +kernel
theorem dX2_sieve_1 : decode cX2_sieve 1 = .ok (.iconst 1, 1) := by decide +kernel
theorem dX2_sieve_2 : decode cX2_sieve 2 = .ok (.if_icmp .ge 5, 3) := by decide +kernel
theorem dX2_sieve_5 : decode cX2_sieve 5 = .ok (.iconst (-1), 1) := by decide +kernel
theorem dX2_sieve_6 : decode cX2_sieve 6 = .ok (.ireturn, 1) := by decide +kernel
theorem dX2_sieve_7 : decode cX2_sieve 7 = .ok (.iconst 0, 1) := by decide +kernel
theorem dX2_sieve_8 : decode cX2_sieve 8 = .ok (.istore_n 3, 1) := by decide +kernel
theorem dX2_sieve_9 : decode cX2_sieve 9 = .ok (.iconst 0, 1) := by decide +kernel
theorem dX2_sieve_10 : decode cX2_sieve 10 = .ok (.istore 4, 2) := by decide +kernel
theorem dX2_sieve_12 : decode cX2_sieve 12 = .ok (.iload 4, 2) := by decide +kernel
theorem dX2_sieve_14 : decode cX2_sieve 14 = .ok (.aload_n 0, 1) := by decide +kernel
theorem dX2_sieve_15 : decode cX2_sieve 15 = .ok (.getfield 29, 3) := by decide +kernel
theorem dX2_sieve_18 : decode cX2_sieve 18 = .ok (.if_icmp .ge 43, 3) := by decide +kernel
theorem dX2_sieve_21 : decode cX2_sieve 21 = .ok (.aload_n 0, 1) := by decide +kernel
theorem dX2_sieve_22 : decode cX2_sieve 22 = .ok (.getfield 13, 3) := by decide +kernel
theorem dX2_sieve_25 : decode cX2_sieve 25 = .ok (.iload 4, 2) := by decide +kernel
theorem dX2_sieve_27 : decode cX2_sieve 27 = .ok (.iaload, 1) := by decide +kernel
theorem dX2_sieve_28 : decode cX2_sieve 28 = .ok (.iload_n 1, 1) := by decide +kernel
theorem dX2_sieve_29 : decode cX2_sieve 29 = .ok (.invokestatic 56, 3) := by decide +kernel
theorem dX2_sieve_32 : decode cX2_sieve 32 = .ok (.iload_n 2, 1) := by decide +kernel
theorem dX2_sieve_33 : decode cX2_sieve 33 = .ok (.if_icmp .ne 6, 3) := by decide +kernel
theorem dX2_sieve_36 : decode cX2_sieve 36 = .ok (.goto 19, 3) := by decide +kernel
theorem dX2_sieve_39 : decode cX2_sieve 39 = .ok (.aload_n 0, 1) := by decide +kernel
theorem dX2_sieve_40 : decode cX2_sieve 40 = .ok (.getfield 13, 3) := by decide +kernel
theorem dX2_sieve_43 : decode cX2_sieve 43 = .ok (.iload_n 3, 1) := by decide +kernel
theorem dX2_sieve_44 : decode cX2_sieve 44 = .ok (.aload_n 0, 1) := by decide +kernel
theorem dX2_sieve_45 : decode cX2_sieve 45 = .ok (.getfield 13, 3) := by decide +kernel
theorem dX2_sieve_48 : decode cX2_sieve 48 = .ok (.iload 4, 2) := by decide +kernel
theorem dX2_sieve_50 : decode cX2_sieve 50 = .ok (.iaload, 1) := by decide +kernel
theorem dX2_sieve_51 : decode cX2_sieve 51 = .ok (.iastore, 1) := by decide +kernel
theorem dX2_sieve_52 : decode cX2_sieve 52 = .ok (.iinc 3 1, 3) := by decide +kernel
theorem dX2_sieve_55 : decode cX2_sieve 55 = .ok (.iinc 4 1, 3) := by decide +kernel
theorem dX2_sieve_58 : decode cX2_sieve 58 = .ok (.goto (-46), 3) := by decide +kernel
theorem dX2_sieve_61 : decode cX2_sieve 61 = .ok (.aload_n 0, 1) := by decide +kernel
theorem dX2_sieve_62 : decode cX2_sieve 62 = .ok (.getfield 29, 3) := by decide +kernel
theorem dX2_sieve_65 : decode cX2_sieve 65 = .ok (.iload_n 3, 1) := by decide +kernel
theorem dX2_sieve_66 : decode cX2_sieve 66 = .ok (.isub, 1) := by decide +kernel
theorem dX2_sieve_67 : decode cX2_sieve 67 = .ok (.istore 4, 2) := by decide +kernel
theorem dX2_sieve_69 : decode cX2_sieve 69 = .ok (.aload_n 0, 1) := by decide +kernel
theorem dX2_sieve_70 : decode cX2_sieve 70 = .ok (.iload_n 3, 1) := by decide +kernel
theorem dX2_sieve_71 : decode cX2_sieve 71 = .ok (.putfield 29, 3) := by decide +kernel
theorem dX2_sieve_74 : decode cX2_sieve 74 = .ok (.iload 4, 2) := by decide +kernel
theorem dX2_sieve_76 : decode cX2_sieve 76 = .ok (.ireturn, 1) := by decide +kernel
theorem dX2_roll_0 : decode cX2_roll 0 = .ok (.iload_n 1, 1) := by decide +kernel
theorem dX2_roll_1 : decode cX2_roll 1 = .ok (.ifCond .lt 9, 3) := by decide +kernel
theorem dX2_roll_4 : decode cX2_roll 4 = .ok (.iload_n 1, 1) := by decide +kernel
theorem dX2_roll_5 : decode cX2_roll 5 = .ok (.bipush 100, 2) := by decide +kernel
theorem dX2_roll_7 : decode cX2_roll 7 = .ok (.if_icmp .le 5, 3) := by decide +kernel
theorem dX2_roll_10 : decode cX2_roll 10 = .ok (.iconst (-1), 1) := by decide +kernel
theorem dX2_roll_11 : decode cX2_roll 11 = .ok (.ireturn, 1) := by decide +kernel
theorem dX2_roll_12 : decode cX2_roll 12 = .ok (.iconst 0, 1) := by decide +kernel
theorem dX2_roll_13 : decode cX2_roll 13 = .ok (.istore_n 2, 1) := by decide +kernel
theorem dX2_roll_14 : decode cX2_roll 14 = .ok (.iload_n 2, 1) := by decide +kernel
theorem dX2_roll_15 : decode cX2_roll 15 = .ok (.iload_n 1, 1) := by decide +kernel
theorem dX2_roll_16 : decode cX2_roll 16 = .ok (.if_icmp .ge 47, 3) := by decide +kernel
theorem dX2_roll_19 : decode cX2_roll 19 = .ok (.aload_n 0, 1) := by decide +kernel
theorem dX2_roll_20 : decode cX2_roll 20 = .ok (.getfield 29, 3) := by decide +kernel
theorem dX2_roll_23 : decode cX2_roll 23 = .ok (.ifCond .le 40, 3) := by decide +kernel
theorem dX2_roll_26 : decode cX2_roll 26 = .ok (.aload_n 0, 1) := by decide +kernel
theorem dX2_roll_27 : decode cX2_roll 27 = .ok (.getfield 13, 3) := by decide +kernel
theorem dX2_roll_30 : decode cX2_roll 30 = .ok (.iconst 0, 1) := by decide +kernel
theorem dX2_roll_31 : decode cX2_roll 31 = .ok (.iaload, 1) := by decide +kernel
theorem dX2_roll_32 : decode cX2_roll 32 = .ok (.istore_n 3, 1) := by decide +kernel
theorem dX2_roll_33 : decode cX2_roll 33 = .ok (.aload_n 0, 1) := by decide +kernel
theorem dX2_roll_34 : decode cX2_roll 34 = .ok (.getfield 13, 3) := by decide +kernel
theorem dX2_roll_37 : decode cX2_roll 37 = .ok (.aload_n 0, 1) := by decide +kernel
theorem dX2_roll_38 : decode cX2_roll 38 = .ok (.getfield 29, 3) := by decide +kernel
theorem dX2_roll_41 : decode cX2_roll 41 = .ok (.iconst 0, 1) := by decide +kernel
theorem dX2_roll_42 : decode cX2_roll 42 = .ok (.invokestatic 41, 3) := by decide +kernel
theorem dX2_roll_45 : decode cX2_roll 45 = .ok (.aload_n 0, 1) := by decide +kernel
theorem dX2_roll_46 : decode cX2_roll 46 = .ok (.getfield 13, 3) := by decide +kernel
theorem dX2_roll_49 : decode cX2_roll 49 = .ok (.aload_n 0, 1) := by decide +kernel
theorem dX2_roll_50 : decode cX2_roll 50 = .ok (.getfield 29, 3) := by decide +kernel
theorem dX2_roll_53 : decode cX2_roll 53 = .ok (.iconst 1, 1) := by decide +kernel
theorem dX2_roll_54 : decode cX2_roll 54 = .ok (.isub, 1) := by decide +kernel
theorem dX2_roll_55 : decode cX2_roll 55 = .ok (.iload_n 3, 1) := by decide +kernel
theorem dX2_roll_56 : decode cX2_roll 56 = .ok (.iastore, 1) := by decide +kernel
theorem dX2_roll_57 : decode cX2_roll 57 = .ok (.iinc 2 1, 3) := by decide +kernel
theorem dX2_roll_60 : decode cX2_roll 60 = .ok (.goto (-46), 3) := by decide +kernel
theorem dX2_roll_63 : decode cX2_roll 63 = .ok (.aload_n 0, 1) := by decide +kernel
theorem dX2_roll_64 : decode cX2_roll 64 = .ok (.getfield 29, 3) := by decide +kernel
theorem dX2_roll_67 : decode cX2_roll 67 = .ok (.ireturn, 1) := by decide +kernel
theorem dX2_insert_0 : decode cX2_insert 0 = .ok (.iload_n 1, 1) := by decide +kernel
theorem dX2_insert_1 : decode cX2_insert 1 = .ok (.ifCond .lt 11, 3) := by decide +kernel
theorem dX2_insert_4 : decode cX2_insert 4 = .ok (.iload_n 1, 1) := by decide +kernel
theorem dX2_insert_5 : decode cX2_insert 5 = .ok (.aload_n 0, 1) := by decide +kernel
theorem dX2_insert_6 : decode cX2_insert 6 = .ok (.getfield 32, 3) := by decide +kernel
theorem dX2_insert_9 : decode cX2_insert 9 = .ok (.if_icmp .le 5, 3) := by decide +kernel
theorem dX2_insert_12 : decode cX2_insert 12 = .ok (.iconst (-1), 1) := by decide +kernel
theorem dX2_insert_13 : decode cX2_insert 13 = .ok (.ireturn, 1) := by decide +kernel
theorem dX2_insert_14 : decode cX2_insert 14 = .ok (.aload_n 0, 1) := by decide +kernel
theorem dX2_insert_15 : decode cX2_insert 15 = .ok (.getfield 32, 3) := by decide +kernel
theorem dX2_insert_18 : decode cX2_insert 18 = .ok (.sipush 2000, 3) := by decide +kernel
theorem dX2_insert_21 : decode cX2_insert 21 = .ok (.if_icmp .ne 6, 3) := by decide +kernel
theorem dX2_insert_24 : decode cX2_insert 24 = .ok (.bipush (-3), 2) := by decide +kernel
theorem dX2_insert_26 : decode cX2_insert 26 = .ok (.ireturn, 1) := by decide +kernel
theorem dX2_insert_27 : decode cX2_insert 27 = .ok (.aload_n 0, 1) := by decide +kernel
theorem dX2_insert_28 : decode cX2_insert 28 = .ok (.getfield 16, 3) := by decide +kernel
theorem dX2_insert_31 : decode cX2_insert 31 = .ok (.aload_n 0, 1) := by decide +kernel
theorem dX2_insert_32 : decode cX2_insert 32 = .ok (.getfield 32, 3) := by decide +kernel
theorem dX2_insert_35 : decode cX2_insert 35 = .ok (.iload_n 1, 1) := by decide +kernel
theorem dX2_insert_36 : decode cX2_insert 36 = .ok (.iload_n 2, 1) := by decide +kernel
theorem dX2_insert_37 : decode cX2_insert 37 = .ok (.invokestatic 35, 3) := by decide +kernel
theorem dX2_insert_40 : decode cX2_insert 40 = .ok (.aload_n 0, 1) := by decide +kernel
theorem dX2_insert_41 : decode cX2_insert 41 = .ok (.invokevirtual 53, 3) := by decide +kernel
theorem dX2_insert_44 : decode cX2_insert 44 = .ok (.aload_n 0, 1) := by decide +kernel
theorem dX2_insert_45 : decode cX2_insert 45 = .ok (.dup, 1) := by decide +kernel
theorem dX2_insert_46 : decode cX2_insert 46 = .ok (.getfield 32, 3) := by decide +kernel
theorem dX2_insert_49 : decode cX2_insert 49 = .ok (.iconst 1, 1) := by decide +kernel
theorem dX2_insert_50 : decode cX2_insert 50 = .ok (.iadd, 1) := by decide +kernel
theorem dX2_insert_51 : decode cX2_insert 51 = .ok (.dup_x1, 1) := by decide +kernel
theorem dX2_insert_52 : decode cX2_insert 52 = .ok (.putfield 32, 3) := by decide +kernel
theorem dX2_insert_55 : decode cX2_insert 55 = .ok (.ireturn, 1) := by decide +kernel
theorem dX2_change_0 : decode cX2_change 0 = .ok (.iload_n 1, 1) := by decide +kernel
theorem dX2_change_1 : decode cX2_change 1 = .ok (.ifCond .lt 11, 3) := by decide +kernel
theorem dX2_change_4 : decode cX2_change 4 = .ok (.iload_n 1, 1) := by decide +kernel
theorem dX2_change_5 : decode cX2_change 5 = .ok (.aload_n 0, 1) := by decide +kernel
theorem dX2_change_6 : decode cX2_change 6 = .ok (.getfield 32, 3) := by decide +kernel
theorem dX2_change_9 : decode cX2_change 9 = .ok (.if_icmp .lt 7, 3) := by decide +kernel
theorem dX2_change_12 : decode cX2_change 12 = .ok (.ldc2_w 39, 3) := by decide +kernel
theorem dX2_change_15 : decode cX2_change 15 = .ok (.lreturn, 1) := by decide +kernel
theorem dX2_change_16 : decode cX2_change 16 = .ok (.aload_n 0, 1) := by decide +kernel
theorem dX2_change_17 : decode cX2_change 17 = .ok (.getfield 16, 3) := by decide +kernel
theorem dX2_change_20 : decode cX2_change 20 = .ok (.iload_n 1, 1) := by decide +kernel
theorem dX2_change_21 : decode cX2_change 21 = .ok (.iaload, 1) := by decide +kernel
theorem dX2_change_22 : decode cX2_change 22 = .ok (.istore 4, 2) := by decide +kernel
theorem dX2_change_24 : decode cX2_change 24 = .ok (.iload_n 3, 1) := by decide +kernel
theorem dX2_change_25 : decode cX2_change 25 = .ok (.ifCond .eq 32, 3) := by decide +kernel
theorem dX2_change_28 : decode cX2_change 28 = .ok (.aload_n 0, 1) := by decide +kernel
theorem dX2_change_29 : decode cX2_change 29 = .ok (.getfield 16, 3) := by decide +kernel
theorem dX2_change_32 : decode cX2_change 32 = .ok (.aload_n 0, 1) := by decide +kernel
theorem dX2_change_33 : decode cX2_change 33 = .ok (.getfield 32, 3) := by decide +kernel
theorem dX2_change_36 : decode cX2_change 36 = .ok (.iload_n 1, 1) := by decide +kernel
theorem dX2_change_37 : decode cX2_change 37 = .ok (.invokestatic 41, 3) := by decide +kernel
theorem dX2_change_40 : decode cX2_change 40 = .ok (.aload_n 0, 1) := by decide +kernel
theorem dX2_change_41 : decode cX2_change 41 = .ok (.dup, 1) := by decide +kernel
theorem dX2_change_42 : decode cX2_change 42 = .ok (.getfield 32, 3) := by decide +kernel
theorem dX2_change_45 : decode cX2_change 45 = .ok (.iconst 1, 1) := by decide +kernel
theorem dX2_change_46 : decode cX2_change 46 = .ok (.isub, 1) := by decide +kernel
theorem dX2_change_47 : decode cX2_change 47 = .ok (.putfield 32, 3) := by decide +kernel
theorem dX2_change_50 : decode cX2_change 50 = .ok (.aload_n 0, 1) := by decide +kernel
theorem dX2_change_51 : decode cX2_change 51 = .ok (.invokevirtual 53, 3) := by decide +kernel
theorem dX2_change_54 : decode cX2_change 54 = .ok (.goto 10, 3) := by decide +kernel
theorem dX2_change_57 : decode cX2_change 57 = .ok (.aload_n 0, 1) := by decide +kernel
theorem dX2_change_58 : decode cX2_change 58 = .ok (.getfield 16, 3) := by decide +kernel
theorem dX2_change_61 : decode cX2_change 61 = .ok (.iload_n 1, 1) := by decide +kernel
theorem dX2_change_62 : decode cX2_change 62 = .ok (.iload_n 2, 1) := by decide +kernel
theorem dX2_change_63 : decode cX2_change 63 = .ok (.iastore, 1) := by decide +kernel
theorem dX2_change_64 : decode cX2_change 64 = .ok (.iload 4, 2) := by decide +kernel
theorem dX2_change_66 : decode cX2_change 66 = .ok (.i2l, 1) := by decide +kernel
theorem dX2_change_67 : decode cX2_change 67 = .ok (.lreturn, 1) := by decide +kernel
theorem dX2_chain_0 : decode cX2_chain 0 = .ok (.iload_n 1, 1) := by decide +kernel
theorem dX2_chain_1 : decode cX2_chain 1 = .ok (.ifCond .lt 11, 3) := by decide +kernel
theorem dX2_chain_4 : decode cX2_chain 4 = .ok (.iload_n 1, 1) := by decide +kernel
theorem dX2_chain_5 : decode cX2_chain 5 = .ok (.aload_n 0, 1) := by decide +kernel
theorem dX2_chain_6 : decode cX2_chain 6 = .ok (.getfield 32, 3) := by decide +kernel
theorem dX2_chain_9 : decode cX2_chain 9 = .ok (.if_icmp .lt 9, 3) := by decide +kernel
theorem dX2_chain_12 : decode cX2_chain 12 = .ok (.ldc2_w 39, 3) := by decide +kernel
theorem dX2_chain_15 : decode cX2_chain 15 = .ok (.goto 10, 3) := by decide +kernel
theorem dX2_chain_18 : decode cX2_chain 18 = .ok (.aload_n 0, 1) := by decide +kernel
theorem dX2_chain_19 : decode cX2_chain 19 = .ok (.getfield 16, 3) := by decide +kernel
theorem dX2_chain_22 : decode cX2_chain 22 = .ok (.iload_n 1, 1) := by decide +kernel
theorem dX2_chain_23 : decode cX2_chain 23 = .ok (.iaload, 1) := by decide +kernel
theorem dX2_chain_24 : decode cX2_chain 24 = .ok (.i2l, 1) := by decide +kernel
theorem dX2_chain_25 : decode cX2_chain 25 = .ok (.lreturn, 1) := by decide +kernel
theorem dX2_find_0 : decode cX2_find 0 = .ok (.aload_n 0, 1) := by decide +kernel
theorem dX2_find_1 : decode cX2_find 1 = .ok (.getfield 16, 3) := by decide +kernel
theorem dX2_find_4 : decode cX2_find 4 = .ok (.aload_n 0, 1) := by decide +kernel
theorem dX2_find_5 : decode cX2_find 5 = .ok (.getfield 32, 3) := by decide +kernel
theorem dX2_find_8 : decode cX2_find 8 = .ok (.iload_n 1, 1) := by decide +kernel
theorem dX2_find_9 : decode cX2_find 9 = .ok (.iload_n 2, 1) := by decide +kernel
theorem dX2_find_10 : decode cX2_find 10 = .ok (.invokestatic 45, 3) := by decide +kernel
theorem dX2_find_13 : decode cX2_find 13 = .ok (.ireturn, 1) := by decide +kernel
theorem dX2_unlink_0 : decode cX2_unlink 0 = .ok (.aload_n 0, 1) := by decide +kernel
theorem dX2_unlink_1 : decode cX2_unlink 1 = .ok (.getfield 16, 3) := by decide +kernel
theorem dX2_unlink_4 : decode cX2_unlink 4 = .ok (.aload_n 0, 1) := by decide +kernel
theorem dX2_unlink_5 : decode cX2_unlink 5 = .ok (.getfield 32, 3) := by decide +kernel
theorem dX2_unlink_8 : decode cX2_unlink 8 = .ok (.iload_n 1, 1) := by decide +kernel
theorem dX2_unlink_9 : decode cX2_unlink 9 = .ok (.iconst 0, 1) := by decide +kernel
theorem dX2_unlink_10 : decode cX2_unlink 10 = .ok (.invokestatic 45, 3) := by decide +kernel
theorem dX2_unlink_13 : decode cX2_unlink 13 = .ok (.istore_n 2, 1) := by decide +kernel
theorem dX2_unlink_14 : decode cX2_unlink 14 = .ok (.iload_n 2, 1) := by decide +kernel
theorem dX2_unlink_15 : decode cX2_unlink 15 = .ok (.ifCond .ge 5, 3) := by decide +kernel
theorem dX2_unlink_18 : decode cX2_unlink 18 = .ok (.iconst 0, 1) := by decide +kernel
theorem dX2_unlink_19 : decode cX2_unlink 19 = .ok (.ireturn, 1) := by decide +kernel
theorem dX2_unlink_20 : decode cX2_unlink 20 = .ok (.aload_n 0, 1) := by decide +kernel
theorem dX2_unlink_21 : decode cX2_unlink 21 = .ok (.getfield 16, 3) := by decide +kernel
theorem dX2_unlink_24 : decode cX2_unlink 24 = .ok (.aload_n 0, 1) := by decide +kernel
theorem dX2_unlink_25 : decode cX2_unlink 25 = .ok (.getfield 32, 3) := by decide +kernel
theorem dX2_unlink_28 : decode cX2_unlink 28 = .ok (.iload_n 2, 1) := by decide +kernel
theorem dX2_unlink_29 : decode cX2_unlink 29 = .ok (.invokestatic 41, 3) := by decide +kernel
theorem dX2_unlink_32 : decode cX2_unlink 32 = .ok (.aload_n 0, 1) := by decide +kernel
theorem dX2_unlink_33 : decode cX2_unlink 33 = .ok (.dup, 1) := by decide +kernel
theorem dX2_unlink_34 : decode cX2_unlink 34 = .ok (.getfield 32, 3) := by decide +kernel
theorem dX2_unlink_37 : decode cX2_unlink 37 = .ok (.iconst 1, 1) := by decide +kernel
theorem dX2_unlink_38 : decode cX2_unlink 38 = .ok (.isub, 1) := by decide +kernel
theorem dX2_unlink_39 : decode cX2_unlink 39 = .ok (.putfield 32, 3) := by decide +kernel
theorem dX2_unlink_42 : decode cX2_unlink 42 = .ok (.aload_n 0, 1) := by decide +kernel
theorem dX2_unlink_43 : decode cX2_unlink 43 = .ok (.invokevirtual 53, 3) := by decide +kernel
theorem dX2_unlink_46 : decode cX2_unlink 46 = .ok (.iconst 1, 1) := by decide +kernel
theorem dX2_unlink_47 : decode cX2_unlink 47 = .ok (.ireturn, 1) := by decide +kernel
theorem dX2_point_0 : decode cX2_point 0 = .ok (.iload_n 1, 1) := by decide +kernel
theorem dX2_point_1 : decode cX2_point 1 = .ok (.ifCond .lt 11, 3) := by decide +kernel
theorem dX2_point_4 : decode cX2_point 4 = .ok (.iload_n 1, 1) := by decide +kernel
theorem dX2_point_5 : decode cX2_point 5 = .ok (.aload_n 0, 1) := by decide +kernel
theorem dX2_point_6 : decode cX2_point 6 = .ok (.getfield 32, 3) := by decide +kernel
theorem dX2_point_9 : decode cX2_point 9 = .ok (.if_icmp .le 5, 3) := by decide +kernel
theorem dX2_point_12 : decode cX2_point 12 = .ok (.iconst (-1), 1) := by decide +kernel
theorem dX2_point_13 : decode cX2_point 13 = .ok (.ireturn, 1) := by decide +kernel
theorem dX2_point_14 : decode cX2_point 14 = .ok (.aload_n 0, 1) := by decide +kernel
theorem dX2_point_15 : decode cX2_point 15 = .ok (.iload_n 1, 1) := by decide +kernel
theorem dX2_point_16 : decode cX2_point 16 = .ok (.putfield 19, 3) := by decide +kernel
theorem dX2_point_19 : decode cX2_point 19 = .ok (.aload_n 0, 1) := by decide +kernel
theorem dX2_point_20 : decode cX2_point 20 = .ok (.iconst (-1), 1) := by decide +kernel
theorem dX2_point_21 : decode cX2_point 21 = .ok (.putfield 23, 3) := by decide +kernel
theorem dX2_point_24 : decode cX2_point 24 = .ok (.iload_n 1, 1) := by decide +kernel
theorem dX2_point_25 : decode cX2_point 25 = .ok (.ireturn, 1) := by decide +kernel
theorem dX2_pass_0 : decode cX2_pass 0 = .ok (.aload_n 0, 1) := by decide +kernel
theorem dX2_pass_1 : decode cX2_pass 1 = .ok (.getfield 19, 3) := by decide +kernel
theorem dX2_pass_4 : decode cX2_pass 4 = .ok (.ifCond .lt 22, 3) := by decide +kernel
theorem dX2_pass_7 : decode cX2_pass 7 = .ok (.aload_n 0, 1) := by decide +kernel
theorem dX2_pass_8 : decode cX2_pass 8 = .ok (.getfield 19, 3) := by decide +kernel
theorem dX2_pass_11 : decode cX2_pass 11 = .ok (.iload_n 1, 1) := by decide +kernel
theorem dX2_pass_12 : decode cX2_pass 12 = .ok (.ifCond .eq 7, 3) := by decide +kernel
theorem dX2_pass_15 : decode cX2_pass 15 = .ok (.iconst 0, 1) := by decide +kernel
theorem dX2_pass_16 : decode cX2_pass 16 = .ok (.goto 7, 3) := by decide +kernel
theorem dX2_pass_19 : decode cX2_pass 19 = .ok (.aload_n 0, 1) := by decide +kernel
theorem dX2_pass_20 : decode cX2_pass 20 = .ok (.getfield 32, 3) := by decide +kernel
theorem dX2_pass_23 : decode cX2_pass 23 = .ok (.if_icmp .ne 7, 3) := by decide +kernel
theorem dX2_pass_26 : decode cX2_pass 26 = .ok (.ldc2_w 39, 3) := by decide +kernel
theorem dX2_pass_29 : decode cX2_pass 29 = .ok (.lreturn, 1) := by decide +kernel
theorem dX2_pass_30 : decode cX2_pass 30 = .ok (.aload_n 0, 1) := by decide +kernel
theorem dX2_pass_31 : decode cX2_pass 31 = .ok (.iload_n 1, 1) := by decide +kernel
theorem dX2_pass_32 : decode cX2_pass 32 = .ok (.ifCond .eq 12, 3) := by decide +kernel
theorem dX2_pass_35 : decode cX2_pass 35 = .ok (.aload_n 0, 1) := by decide +kernel
theorem dX2_pass_36 : decode cX2_pass 36 = .ok (.getfield 19, 3) := by decide +kernel
theorem dX2_pass_39 : decode cX2_pass 39 = .ok (.iconst 1, 1) := by decide +kernel
theorem dX2_pass_40 : decode cX2_pass 40 = .ok (.isub, 1) := by decide +kernel
theorem dX2_pass_41 : decode cX2_pass 41 = .ok (.goto 7, 3) := by decide +kernel
theorem dX2_pass_44 : decode cX2_pass 44 = .ok (.aload_n 0, 1) := by decide +kernel
theorem dX2_pass_45 : decode cX2_pass 45 = .ok (.getfield 19, 3) := by decide +kernel
theorem dX2_pass_48 : decode cX2_pass 48 = .ok (.putfield 23, 3) := by decide +kernel
theorem dX2_pass_51 : decode cX2_pass 51 = .ok (.aload_n 0, 1) := by decide +kernel
theorem dX2_pass_52 : decode cX2_pass 52 = .ok (.dup, 1) := by decide +kernel
theorem dX2_pass_53 : decode cX2_pass 53 = .ok (.getfield 19, 3) := by decide +kernel
theorem dX2_pass_56 : decode cX2_pass 56 = .ok (.iload_n 1, 1) := by decide +kernel
theorem dX2_pass_57 : decode cX2_pass 57 = .ok (.ifCond .eq 7, 3) := by decide +kernel
theorem dX2_pass_60 : decode cX2_pass 60 = .ok (.iconst (-1), 1) := by decide +kernel
theorem dX2_pass_61 : decode cX2_pass 61 = .ok (.goto 4, 3) := by decide +kernel
theorem dX2_pass_64 : decode cX2_pass 64 = .ok (.iconst 1, 1) := by decide +kernel
theorem dX2_pass_65 : decode cX2_pass 65 = .ok (.iadd, 1) := by decide +kernel
theorem dX2_pass_66 : decode cX2_pass 66 = .ok (.putfield 19, 3) := by decide +kernel
theorem dX2_pass_69 : decode cX2_pass 69 = .ok (.aload_n 0, 1) := by decide +kernel
theorem dX2_pass_70 : decode cX2_pass 70 = .ok (.getfield 16, 3) := by decide +kernel
theorem dX2_pass_73 : decode cX2_pass 73 = .ok (.aload_n 0, 1) := by decide +kernel
theorem dX2_pass_74 : decode cX2_pass 74 = .ok (.getfield 23, 3) := by decide +kernel
theorem dX2_pass_77 : decode cX2_pass 77 = .ok (.iaload, 1) := by decide +kernel
theorem dX2_pass_78 : decode cX2_pass 78 = .ok (.i2l, 1) := by decide +kernel
theorem dX2_pass_79 : decode cX2_pass 79 = .ok (.lreturn, 1) := by decide +kernel
theorem dX2_touch_0 : decode cX2_touch 0 = .ok (.aload_n 0, 1) := by decide +kernel
theorem dX2_touch_1 : decode cX2_touch 1 = .ok (.getfield 19, 3) := by decide +kernel
theorem dX2_touch_4 : decode cX2_touch 4 = .ok (.ifCond .lt 24, 3) := by decide +kernel
theorem dX2_touch_7 : decode cX2_touch 7 = .ok (.iload_n 1, 1) := by decide +kernel
theorem dX2_touch_8 : decode cX2_touch 8 = .ok (.ifCond .lt 20, 3) := by decide +kernel
theorem dX2_touch_11 : decode cX2_touch 11 = .ok (.iload_n 1, 1) := by decide +kernel
theorem dX2_touch_12 : decode cX2_touch 12 = .ok (.iconst 2, 1) := by decide +kernel
theorem dX2_touch_13 : decode cX2_touch 13 = .ok (.if_icmp .gt 15, 3) := by decide +kernel
theorem dX2_touch_16 : decode cX2_touch 16 = .ok (.iload_n 1, 1) := by decide +kernel
theorem dX2_touch_17 : decode cX2_touch 17 = .ok (.iconst 2, 1) := by decide +kernel
theorem dX2_touch_18 : decode cX2_touch 18 = .ok (.if_icmp .ge 12, 3) := by decide +kernel
theorem dX2_touch_21 : decode cX2_touch 21 = .ok (.aload_n 0, 1) := by decide +kernel
theorem dX2_touch_22 : decode cX2_touch 22 = .ok (.getfield 23, 3) := by decide +kernel
theorem dX2_touch_25 : decode cX2_touch 25 = .ok (.ifCond .ge 5, 3) := by decide +kernel
theorem dX2_touch_28 : decode cX2_touch 28 = .ok (.iconst (-1), 1) := by decide +kernel
theorem dX2_touch_29 : decode cX2_touch 29 = .ok (.ireturn, 1) := by decide +kernel
theorem dX2_touch_30 : decode cX2_touch 30 = .ok (.iload_n 1, 1) := by decide +kernel
theorem dX2_touch_31 : decode cX2_touch 31 = .ok (.ifCond .ne 16, 3) := by decide +kernel
theorem dX2_touch_34 : decode cX2_touch 34 = .ok (.aload_n 0, 1) := by decide +kernel
theorem dX2_touch_35 : decode cX2_touch 35 = .ok (.getfield 16, 3) := by decide +kernel
theorem dX2_touch_38 : decode cX2_touch 38 = .ok (.aload_n 0, 1) := by decide +kernel
theorem dX2_touch_39 : decode cX2_touch 39 = .ok (.getfield 23, 3) := by decide +kernel
theorem dX2_touch_42 : decode cX2_touch 42 = .ok (.iload_n 2, 1) := by decide +kernel
theorem dX2_touch_43 : decode cX2_touch 43 = .ok (.iastore, 1) := by decide +kernel
theorem dX2_touch_44 : decode cX2_touch 44 = .ok (.goto 116, 3) := by decide +kernel
theorem dX2_touch_47 : decode cX2_touch 47 = .ok (.iload_n 1, 1) := by decide +kernel
theorem dX2_touch_48 : decode cX2_touch 48 = .ok (.iconst 1, 1) := by decide +kernel
theorem dX2_touch_49 : decode cX2_touch 49 = .ok (.if_icmp .ne 57, 3) := by decide +kernel
theorem dX2_touch_52 : decode cX2_touch 52 = .ok (.aload_n 0, 1) := by decide +kernel
theorem dX2_touch_53 : decode cX2_touch 53 = .ok (.getfield 16, 3) := by decide +kernel
theorem dX2_touch_56 : decode cX2_touch 56 = .ok (.aload_n 0, 1) := by decide +kernel
theorem dX2_touch_57 : decode cX2_touch 57 = .ok (.getfield 32, 3) := by decide +kernel
theorem dX2_touch_60 : decode cX2_touch 60 = .ok (.aload_n 0, 1) := by decide +kernel
theorem dX2_touch_61 : decode cX2_touch 61 = .ok (.getfield 23, 3) := by decide +kernel
theorem dX2_touch_64 : decode cX2_touch 64 = .ok (.invokestatic 41, 3) := by decide +kernel
theorem dX2_touch_67 : decode cX2_touch 67 = .ok (.aload_n 0, 1) := by decide +kernel
theorem dX2_touch_68 : decode cX2_touch 68 = .ok (.dup, 1) := by decide +kernel
theorem dX2_touch_69 : decode cX2_touch 69 = .ok (.getfield 32, 3) := by decide +kernel
theorem dX2_touch_72 : decode cX2_touch 72 = .ok (.iconst 1, 1) := by decide +kernel
theorem dX2_touch_73 : decode cX2_touch 73 = .ok (.isub, 1) := by decide +kernel
theorem dX2_touch_74 : decode cX2_touch 74 = .ok (.putfield 32, 3) := by decide +kernel
theorem dX2_touch_77 : decode cX2_touch 77 = .ok (.aload_n 0, 1) := by decide +kernel
theorem dX2_touch_78 : decode cX2_touch 78 = .ok (.getfield 23, 3) := by decide +kernel
theorem dX2_touch_81 : decode cX2_touch 81 = .ok (.aload_n 0, 1) := by decide +kernel
theorem dX2_touch_82 : decode cX2_touch 82 = .ok (.getfield 19, 3) := by decide +kernel
theorem dX2_touch_85 : decode cX2_touch 85 = .ok (.if_icmp .ge 13, 3) := by decide +kernel
theorem dX2_touch_88 : decode cX2_touch 88 = .ok (.aload_n 0, 1) := by decide +kernel
theorem dX2_touch_89 : decode cX2_touch 89 = .ok (.dup, 1) := by decide +kernel
theorem dX2_touch_90 : decode cX2_touch 90 = .ok (.getfield 19, 3) := by decide +kernel
theorem dX2_touch_93 : decode cX2_touch 93 = .ok (.iconst 1, 1) := by decide +kernel
theorem dX2_touch_94 : decode cX2_touch 94 = .ok (.isub, 1) := by decide +kernel
theorem dX2_touch_95 : decode cX2_touch 95 = .ok (.putfield 19, 3) := by decide +kernel
theorem dX2_touch_98 : decode cX2_touch 98 = .ok (.aload_n 0, 1) := by decide +kernel
theorem dX2_touch_99 : decode cX2_touch 99 = .ok (.iconst (-1), 1) := by decide +kernel
theorem dX2_touch_100 : decode cX2_touch 100 = .ok (.putfield 23, 3) := by decide +kernel
theorem dX2_touch_103 : decode cX2_touch 103 = .ok (.goto 57, 3) := by decide +kernel
theorem dX2_touch_106 : decode cX2_touch 106 = .ok (.aload_n 0, 1) := by decide +kernel
theorem dX2_touch_107 : decode cX2_touch 107 = .ok (.getfield 32, 3) := by decide +kernel
theorem dX2_touch_110 : decode cX2_touch 110 = .ok (.sipush 2000, 3) := by decide +kernel
theorem dX2_touch_113 : decode cX2_touch 113 = .ok (.if_icmp .ne 6, 3) := by decide +kernel
theorem dX2_touch_116 : decode cX2_touch 116 = .ok (.bipush (-3), 2) := by decide +kernel
theorem dX2_touch_118 : decode cX2_touch 118 = .ok (.ireturn, 1) := by decide +kernel
theorem dX2_touch_119 : decode cX2_touch 119 = .ok (.aload_n 0, 1) := by decide +kernel
theorem dX2_touch_120 : decode cX2_touch 120 = .ok (.getfield 16, 3) := by decide +kernel
theorem dX2_touch_123 : decode cX2_touch 123 = .ok (.aload_n 0, 1) := by decide +kernel
theorem dX2_touch_124 : decode cX2_touch 124 = .ok (.getfield 32, 3) := by decide +kernel
theorem dX2_touch_127 : decode cX2_touch 127 = .ok (.aload_n 0, 1) := by decide +kernel
theorem dX2_touch_128 : decode cX2_touch 128 = .ok (.getfield 19, 3) := by decide +kernel
theorem dX2_touch_131 : decode cX2_touch 131 = .ok (.iload_n 2, 1) := by decide +kernel
theorem dX2_touch_132 : decode cX2_touch 132 = .ok (.invokestatic 35, 3) := by decide +kernel
theorem dX2_touch_135 : decode cX2_touch 135 = .ok (.aload_n 0, 1) := by decide +kernel
theorem dX2_touch_136 : decode cX2_touch 136 = .ok (.dup, 1) := by decide +kernel
theorem dX2_touch_137 : decode cX2_touch 137 = .ok (.getfield 32, 3) := by decide +kernel
theorem dX2_touch_140 : decode cX2_touch 140 = .ok (.iconst 1, 1) := by decide +kernel
theorem dX2_touch_141 : decode cX2_touch 141 = .ok (.iadd, 1) := by decide +kernel
theorem dX2_touch_142 : decode cX2_touch 142 = .ok (.putfield 32, 3) := by decide +kernel
theorem dX2_touch_145 : decode cX2_touch 145 = .ok (.aload_n 0, 1) := by decide +kernel
theorem dX2_touch_146 : decode cX2_touch 146 = .ok (.dup, 1) := by decide +kernel
theorem dX2_touch_147 : decode cX2_touch 147 = .ok (.getfield 19, 3) := by decide +kernel
theorem dX2_touch_150 : decode cX2_touch 150 = .ok (.iconst 1, 1) := by decide +kernel
theorem dX2_touch_151 : decode cX2_touch 151 = .ok (.iadd, 1) := by decide +kernel
theorem dX2_touch_152 : decode cX2_touch 152 = .ok (.putfield 19, 3) := by decide +kernel
theorem dX2_touch_155 : decode cX2_touch 155 = .ok (.aload_n 0, 1) := by decide +kernel
theorem dX2_touch_156 : decode cX2_touch 156 = .ok (.iconst (-1), 1) := by decide +kernel
theorem dX2_touch_157 : decode cX2_touch 157 = .ok (.putfield 23, 3) := by decide +kernel
theorem dX2_touch_160 : decode cX2_touch 160 = .ok (.aload_n 0, 1) := by decide +kernel
theorem dX2_touch_161 : decode cX2_touch 161 = .ok (.getfield 32, 3) := by decide +kernel
theorem dX2_touch_164 : decode cX2_touch 164 = .ok (.ireturn, 1) := by decide +kernel
theorem dX2_finger_0 : decode cX2_finger 0 = .ok (.aload_n 0, 1) := by decide +kernel
theorem dX2_finger_1 : decode cX2_finger 1 = .ok (.getfield 19, 3) := by decide +kernel
theorem dX2_finger_4 : decode cX2_finger 4 = .ok (.ireturn, 1) := by decide +kernel
theorem dX2_empty_0 : decode cX2_empty 0 = .ok (.aload_n 0, 1) := by decide +kernel
theorem dX2_empty_1 : decode cX2_empty 1 = .ok (.getfield 29, 3) := by decide +kernel
theorem dX2_empty_4 : decode cX2_empty 4 = .ok (.aload_n 0, 1) := by decide +kernel
theorem dX2_empty_5 : decode cX2_empty 5 = .ok (.getfield 26, 3) := by decide +kernel
theorem dX2_empty_8 : decode cX2_empty 8 = .ok (.iadd, 1) := by decide +kernel
theorem dX2_empty_9 : decode cX2_empty 9 = .ok (.sipush 2000, 3) := by decide +kernel
theorem dX2_empty_12 : decode cX2_empty 12 = .ok (.if_icmp .le 6, 3) := by decide +kernel
theorem dX2_empty_15 : decode cX2_empty 15 = .ok (.bipush (-3), 2) := by decide +kernel
theorem dX2_empty_17 : decode cX2_empty 17 = .ok (.ireturn, 1) := by decide +kernel
theorem dX2_empty_18 : decode cX2_empty 18 = .ok (.iconst 0, 1) := by decide +kernel
theorem dX2_empty_19 : decode cX2_empty 19 = .ok (.istore_n 1, 1) := by decide +kernel
theorem dX2_empty_20 : decode cX2_empty 20 = .ok (.iload_n 1, 1) := by decide +kernel
theorem dX2_empty_21 : decode cX2_empty 21 = .ok (.aload_n 0, 1) := by decide +kernel
theorem dX2_empty_22 : decode cX2_empty 22 = .ok (.getfield 26, 3) := by decide +kernel
theorem dX2_empty_25 : decode cX2_empty 25 = .ok (.if_icmp .ge 26, 3) := by decide +kernel
theorem dX2_empty_28 : decode cX2_empty 28 = .ok (.aload_n 0, 1) := by decide +kernel
theorem dX2_empty_29 : decode cX2_empty 29 = .ok (.getfield 13, 3) := by decide +kernel
theorem dX2_empty_32 : decode cX2_empty 32 = .ok (.aload_n 0, 1) := by decide +kernel
theorem dX2_empty_33 : decode cX2_empty 33 = .ok (.getfield 29, 3) := by decide +kernel
theorem dX2_empty_36 : decode cX2_empty 36 = .ok (.iload_n 1, 1) := by decide +kernel
theorem dX2_empty_37 : decode cX2_empty 37 = .ok (.iadd, 1) := by decide +kernel
theorem dX2_empty_38 : decode cX2_empty 38 = .ok (.aload_n 0, 1) := by decide +kernel
theorem dX2_empty_39 : decode cX2_empty 39 = .ok (.getfield 9, 3) := by decide +kernel
theorem dX2_empty_42 : decode cX2_empty 42 = .ok (.iload_n 1, 1) := by decide +kernel
theorem dX2_empty_43 : decode cX2_empty 43 = .ok (.iaload, 1) := by decide +kernel
theorem dX2_empty_44 : decode cX2_empty 44 = .ok (.iastore, 1) := by decide +kernel
theorem dX2_empty_45 : decode cX2_empty 45 = .ok (.iinc 1 1, 3) := by decide +kernel
theorem dX2_empty_48 : decode cX2_empty 48 = .ok (.goto (-28), 3) := by decide +kernel
theorem dX2_empty_51 : decode cX2_empty 51 = .ok (.aload_n 0, 1) := by decide +kernel
theorem dX2_empty_52 : decode cX2_empty 52 = .ok (.dup, 1) := by decide +kernel
theorem dX2_empty_53 : decode cX2_empty 53 = .ok (.getfield 29, 3) := by decide +kernel
theorem dX2_empty_56 : decode cX2_empty 56 = .ok (.aload_n 0, 1) := by decide +kernel
theorem dX2_empty_57 : decode cX2_empty 57 = .ok (.getfield 26, 3) := by decide +kernel
theorem dX2_empty_60 : decode cX2_empty 60 = .ok (.iadd, 1) := by decide +kernel
theorem dX2_empty_61 : decode cX2_empty 61 = .ok (.putfield 29, 3) := by decide +kernel
theorem dX2_empty_64 : decode cX2_empty 64 = .ok (.aload_n 0, 1) := by decide +kernel
theorem dX2_empty_65 : decode cX2_empty 65 = .ok (.iconst 0, 1) := by decide +kernel
theorem dX2_empty_66 : decode cX2_empty 66 = .ok (.putfield 26, 3) := by decide +kernel
theorem dX2_empty_69 : decode cX2_empty 69 = .ok (.aload_n 0, 1) := by decide +kernel
theorem dX2_empty_70 : decode cX2_empty 70 = .ok (.getfield 29, 3) := by decide +kernel
theorem dX2_empty_73 : decode cX2_empty 73 = .ok (.ireturn, 1) := by decide +kernel
theorem dX2_hand_0 : decode cX2_hand 0 = .ok (.aload_n 0, 1) := by decide +kernel
theorem dX2_hand_1 : decode cX2_hand 1 = .ok (.getfield 29, 3) := by decide +kernel
theorem dX2_hand_4 : decode cX2_hand 4 = .ok (.aload_n 0, 1) := by decide +kernel
theorem dX2_hand_5 : decode cX2_hand 5 = .ok (.getfield 32, 3) := by decide +kernel
theorem dX2_hand_8 : decode cX2_hand 8 = .ok (.iadd, 1) := by decide +kernel
theorem dX2_hand_9 : decode cX2_hand 9 = .ok (.sipush 2000, 3) := by decide +kernel
theorem dX2_hand_12 : decode cX2_hand 12 = .ok (.if_icmp .le 6, 3) := by decide +kernel
theorem dX2_hand_15 : decode cX2_hand 15 = .ok (.bipush (-3), 2) := by decide +kernel
theorem dX2_hand_17 : decode cX2_hand 17 = .ok (.ireturn, 1) := by decide +kernel
theorem dX2_hand_18 : decode cX2_hand 18 = .ok (.aload_n 0, 1) := by decide +kernel
theorem dX2_hand_19 : decode cX2_hand 19 = .ok (.getfield 32, 3) := by decide +kernel
theorem dX2_hand_22 : decode cX2_hand 22 = .ok (.ifCond .le 7, 3) := by decide +kernel
theorem dX2_hand_25 : decode cX2_hand 25 = .ok (.aload_n 0, 1) := by decide +kernel
theorem dX2_hand_26 : decode cX2_hand 26 = .ok (.invokevirtual 53, 3) := by decide +kernel
theorem dX2_hand_29 : decode cX2_hand 29 = .ok (.aload_n 0, 1) := by decide +kernel
theorem dX2_hand_30 : decode cX2_hand 30 = .ok (.getfield 29, 3) := by decide +kernel
theorem dX2_hand_33 : decode cX2_hand 33 = .ok (.iconst 1, 1) := by decide +kernel
theorem dX2_hand_34 : decode cX2_hand 34 = .ok (.isub, 1) := by decide +kernel
theorem dX2_hand_35 : decode cX2_hand 35 = .ok (.istore_n 1, 1) := by decide +kernel
theorem dX2_hand_36 : decode cX2_hand 36 = .ok (.iload_n 1, 1) := by decide +kernel
theorem dX2_hand_37 : decode cX2_hand 37 = .ok (.ifCond .lt 26, 3) := by decide +kernel
theorem dX2_hand_40 : decode cX2_hand 40 = .ok (.aload_n 0, 1) := by decide +kernel
theorem dX2_hand_41 : decode cX2_hand 41 = .ok (.getfield 13, 3) := by decide +kernel
theorem dX2_hand_44 : decode cX2_hand 44 = .ok (.iload_n 1, 1) := by decide +kernel
theorem dX2_hand_45 : decode cX2_hand 45 = .ok (.aload_n 0, 1) := by decide +kernel
theorem dX2_hand_46 : decode cX2_hand 46 = .ok (.getfield 32, 3) := by decide +kernel
theorem dX2_hand_49 : decode cX2_hand 49 = .ok (.iadd, 1) := by decide +kernel
theorem dX2_hand_50 : decode cX2_hand 50 = .ok (.aload_n 0, 1) := by decide +kernel
theorem dX2_hand_51 : decode cX2_hand 51 = .ok (.getfield 13, 3) := by decide +kernel
theorem dX2_hand_54 : decode cX2_hand 54 = .ok (.iload_n 1, 1) := by decide +kernel
theorem dX2_hand_55 : decode cX2_hand 55 = .ok (.iaload, 1) := by decide +kernel
theorem dX2_hand_56 : decode cX2_hand 56 = .ok (.iastore, 1) := by decide +kernel
theorem dX2_hand_57 : decode cX2_hand 57 = .ok (.iinc 1 (-1), 3) := by decide +kernel
theorem dX2_hand_60 : decode cX2_hand 60 = .ok (.goto (-24), 3) := by decide +kernel
theorem dX2_hand_63 : decode cX2_hand 63 = .ok (.iconst 0, 1) := by decide +kernel
theorem dX2_hand_64 : decode cX2_hand 64 = .ok (.istore_n 1, 1) := by decide +kernel
theorem dX2_hand_65 : decode cX2_hand 65 = .ok (.iload_n 1, 1) := by decide +kernel
theorem dX2_hand_66 : decode cX2_hand 66 = .ok (.aload_n 0, 1) := by decide +kernel
theorem dX2_hand_67 : decode cX2_hand 67 = .ok (.getfield 32, 3) := by decide +kernel
theorem dX2_hand_70 : decode cX2_hand 70 = .ok (.if_icmp .ge 21, 3) := by decide +kernel
theorem dX2_hand_73 : decode cX2_hand 73 = .ok (.aload_n 0, 1) := by decide +kernel
theorem dX2_hand_74 : decode cX2_hand 74 = .ok (.getfield 13, 3) := by decide +kernel
theorem dX2_hand_77 : decode cX2_hand 77 = .ok (.iload_n 1, 1) := by decide +kernel
theorem dX2_hand_78 : decode cX2_hand 78 = .ok (.aload_n 0, 1) := by decide +kernel
theorem dX2_hand_79 : decode cX2_hand 79 = .ok (.getfield 16, 3) := by decide +kernel
theorem dX2_hand_82 : decode cX2_hand 82 = .ok (.iload_n 1, 1) := by decide +kernel
theorem dX2_hand_83 : decode cX2_hand 83 = .ok (.iaload, 1) := by decide +kernel
theorem dX2_hand_84 : decode cX2_hand 84 = .ok (.iastore, 1) := by decide +kernel
theorem dX2_hand_85 : decode cX2_hand 85 = .ok (.iinc 1 1, 3) := by decide +kernel
theorem dX2_hand_88 : decode cX2_hand 88 = .ok (.goto (-23), 3) := by decide +kernel
theorem dX2_hand_91 : decode cX2_hand 91 = .ok (.aload_n 0, 1) := by decide +kernel
theorem dX2_hand_92 : decode cX2_hand 92 = .ok (.dup, 1) := by decide +kernel
theorem dX2_hand_93 : decode cX2_hand 93 = .ok (.getfield 29, 3) := by decide +kernel
theorem dX2_hand_96 : decode cX2_hand 96 = .ok (.aload_n 0, 1) := by decide +kernel
theorem dX2_hand_97 : decode cX2_hand 97 = .ok (.getfield 32, 3) := by decide +kernel
theorem dX2_hand_100 : decode cX2_hand 100 = .ok (.iadd, 1) := by decide +kernel
theorem dX2_hand_101 : decode cX2_hand 101 = .ok (.putfield 29, 3) := by decide +kernel
theorem dX2_hand_104 : decode cX2_hand 104 = .ok (.aload_n 0, 1) := by decide +kernel
theorem dX2_hand_105 : decode cX2_hand 105 = .ok (.iconst 0, 1) := by decide +kernel
theorem dX2_hand_106 : decode cX2_hand 106 = .ok (.putfield 32, 3) := by decide +kernel
theorem dX2_hand_109 : decode cX2_hand 109 = .ok (.aload_n 0, 1) := by decide +kernel
theorem dX2_hand_110 : decode cX2_hand 110 = .ok (.getfield 29, 3) := by decide +kernel
theorem dX2_hand_113 : decode cX2_hand 113 = .ok (.ireturn, 1) := by decide +kernel
