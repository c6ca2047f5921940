theorem dX1_init_0 : decode cX1_init 0 = .ok (.aload_n 0, 1) := by decide +kernel
theorem dX1_init_1 : decode cX1_init 1 = .ok (.invokespecial 1, 3) := by decide +kernel
theorem dX1_init_4 : decode cX1_init 4 = .ok (.aload_n 0, 1) := by decide +kernel
theorem dX1_init_5 : decode cX1_init 5 = .ok (.new 7, 3) := by decide +kernel
theorem dX1_init_8 : decode cX1_init 8 = .ok (.dup, 1) := by decide +kernel
theorem dX1_init_9 : decode cX1_init 9 = .ok (.invokespecial 9, 3) := by decide +kernel
theorem dX1_init_12 : decode cX1_init 12 = .ok (.putfield 10, 3) := by decide +kernel
theorem dX1_init_15 : decode cX1_init 15 = .ok (.aload_n 0, 1) := by decide +kernel
theorem dX1_init_16 : decode cX1_init 16 = .ok (.new 7, 3) := by decide +kernel
theorem dX1_init_19 : decode cX1_init 19 = .ok (.dup, 1) := by decide +kernel
theorem dX1_init_20 : decode cX1_init 20 = .ok (.invokespecial 9, 3) := by decide +kernel
theorem dX1_init_23 : decode cX1_init 23 = .ok (.putfield 16, 3) := by decide +kernel
theorem dX1_init_26 : decode cX1_init 26 = .ok (.aload_n 0, 1) := by decide +kernel
theorem dX1_init_27 : decode cX1_init 27 = .ok (.new 7, 3) := by decide +kernel
theorem dX1_init_30 : decode cX1_init 30 = .ok (.dup, 1) := by decide +kernel
theorem dX1_init_31 : decode cX1_init 31 = .ok (.invokespecial 9, 3) := by decide +kernel
theorem dX1_init_34 : decode cX1_init 34 = .ok (.putfield 19, 3) := by decide +kernel
theorem dX1_init_37 : decode cX1_init 37 = .ok (.aload_n 0, 1) := by decide +kernel
theorem dX1_init_38 : decode cX1_init 38 = .ok (.iconst (-1), 1) := by decide +kernel
theorem dX1_init_39 : decode cX1_init 39 = .ok (.putfield 22, 3) := by decide +kernel
theorem dX1_init_42 : decode cX1_init 42 = .ok (.aload_n 0, 1) := by decide +kernel
theorem dX1_init_43 : decode cX1_init 43 = .ok (.iconst (-1), 1) := by decide +kernel
theorem dX1_init_44 : decode cX1_init 44 = .ok (.putfield 26, 3) := by decide +kernel
theorem dX1_init_47 : decode cX1_init 47 = .ok (.return_, 1) := by decide +kernel
theorem dX1_enter_0 : decode cX1_enter 0 = .ok (.aload_n 0, 1) := by decide +kernel
theorem dX1_enter_1 : decode cX1_enter 1 = .ok (.getfield 10, 3) := by decide +kernel
theorem dX1_enter_4 : decode cX1_enter 4 = .ok (.aload_n 0, 1) := by decide +kernel
theorem dX1_enter_5 : decode cX1_enter 5 = .ok (.getfield 10, 3) := by decide +kernel
theorem dX1_enter_8 : decode cX1_enter 8 = .ok (.iload_n 1, 1) := by decide +kernel
theorem dX1_enter_9 : decode cX1_enter 9 = .ok (.invokevirtual 29, 3) := by decide +kernel
theorem dX1_enter_12 : decode cX1_enter 12 = .ok (.iload_n 1, 1) := by decide +kernel
theorem dX1_enter_13 : decode cX1_enter 13 = .ok (.invokevirtual 33, 3) := by decide +kernel
theorem dX1_enter_16 : decode cX1_enter 16 = .ok (.ifCond .eq 13, 3) := by decide +kernel
theorem dX1_enter_19 : decode cX1_enter 19 = .ok (.aload_n 0, 1) := by decide +kernel
theorem dX1_enter_20 : decode cX1_enter 20 = .ok (.getfield 10, 3) := by decide +kernel
theorem dX1_enter_23 : decode cX1_enter 23 = .ok (.getfield 37, 3) := by decide +kernel
theorem dX1_enter_26 : decode cX1_enter 26 = .ok (.goto 5, 3) := by decide +kernel
theorem dX1_enter_29 : decode cX1_enter 29 = .ok (.bipush (-3), 2) := by decide +kernel
theorem dX1_enter_31 : decode cX1_enter 31 = .ok (.ireturn, 1) := by decide +kernel
theorem dX1_call_0 : decode cX1_call 0 = .ok (.iload_n 1, 1) := by decide +kernel
theorem dX1_call_1 : decode cX1_call 1 = .ok (.ifCond .eq 14, 3) := by decide +kernel
theorem dX1_call_4 : decode cX1_call 4 = .ok (.aload_n 0, 1) := by decide +kernel
theorem dX1_call_5 : decode cX1_call 5 = .ok (.getfield 10, 3) := by decide +kernel
theorem dX1_call_8 : decode cX1_call 8 = .ok (.iconst 0, 1) := by decide +kernel
theorem dX1_call_9 : decode cX1_call 9 = .ok (.invokevirtual 40, 3) := by decide +kernel
theorem dX1_call_12 : decode cX1_call 12 = .ok (.goto 11, 3) := by decide +kernel
theorem dX1_call_15 : decode cX1_call 15 = .ok (.aload_n 0, 1) := by decide +kernel
theorem dX1_call_16 : decode cX1_call 16 = .ok (.getfield 10, 3) := by decide +kernel
theorem dX1_call_19 : decode cX1_call 19 = .ok (.iconst 0, 1) := by decide +kernel
theorem dX1_call_20 : decode cX1_call 20 = .ok (.invokevirtual 44, 3) := by decide +kernel
theorem dX1_call_23 : decode cX1_call 23 = .ok (.lreturn, 1) := by decide +kernel
theorem dX1_leave_0 : decode cX1_leave 0 = .ok (.aload_n 0, 1) := by decide +kernel
theorem dX1_leave_1 : decode cX1_leave 1 = .ok (.getfield 10, 3) := by decide +kernel
theorem dX1_leave_4 : decode cX1_leave 4 = .ok (.aload_n 0, 1) := by decide +kernel
theorem dX1_leave_5 : decode cX1_leave 5 = .ok (.getfield 10, 3) := by decide +kernel
theorem dX1_leave_8 : decode cX1_leave 8 = .ok (.iload_n 1, 1) := by decide +kernel
theorem dX1_leave_9 : decode cX1_leave 9 = .ok (.invokevirtual 47, 3) := by decide +kernel
theorem dX1_leave_12 : decode cX1_leave 12 = .ok (.invokevirtual 44, 3) := by decide +kernel
theorem dX1_leave_15 : decode cX1_leave 15 = .ok (.ldc2_w 50, 3) := by decide +kernel
theorem dX1_leave_18 : decode cX1_leave 18 = .ok (.lcmp, 1) := by decide +kernel
theorem dX1_leave_19 : decode cX1_leave 19 = .ok (.ifCond .eq 7, 3) := by decide +kernel
theorem dX1_leave_22 : decode cX1_leave 22 = .ok (.iconst 1, 1) := by decide +kernel
theorem dX1_leave_23 : decode cX1_leave 23 = .ok (.goto 4, 3) := by decide +kernel
theorem dX1_leave_26 : decode cX1_leave 26 = .ok (.iconst 0, 1) := by decide +kernel
theorem dX1_leave_27 : decode cX1_leave 27 = .ok (.ireturn, 1) := by decide +kernel
theorem dX1_rowOf_0 : decode cX1_rowOf 0 = .ok (.iload_n 1, 1) := by decide +kernel
theorem dX1_rowOf_1 : decode cX1_rowOf 1 = .ok (.tableswitch 42 0 2 #[27, 32, 37], 27) := by decide +kernel
theorem dX1_rowOf_28 : decode cX1_rowOf 28 = .ok (.aload_n 0, 1) := by decide +kernel
theorem dX1_rowOf_29 : decode cX1_rowOf 29 = .ok (.getfield 10, 3) := by decide +kernel
theorem dX1_rowOf_32 : decode cX1_rowOf 32 = .ok (.areturn, 1) := by decide +kernel
theorem dX1_rowOf_33 : decode cX1_rowOf 33 = .ok (.aload_n 0, 1) := by decide +kernel
theorem dX1_rowOf_34 : decode cX1_rowOf 34 = .ok (.getfield 16, 3) := by decide +kernel
theorem dX1_rowOf_37 : decode cX1_rowOf 37 = .ok (.areturn, 1) := by decide +kernel
theorem dX1_rowOf_38 : decode cX1_rowOf 38 = .ok (.aload_n 0, 1) := by decide +kernel
theorem dX1_rowOf_39 : decode cX1_rowOf 39 = .ok (.getfield 19, 3) := by decide +kernel
theorem dX1_rowOf_42 : decode cX1_rowOf 42 = .ok (.areturn, 1) := by decide +kernel
theorem dX1_rowOf_43 : decode cX1_rowOf 43 = .ok (.aconst_null, 1) := by decide +kernel
theorem dX1_rowOf_44 : decode cX1_rowOf 44 = .ok (.areturn, 1) := by decide +kernel
theorem dX1_has_0 : decode cX1_has 0 = .ok (.aload_n 0, 1) := by decide +kernel
theorem dX1_has_1 : decode cX1_has 1 = .ok (.iload_n 1, 1) := by decide +kernel
theorem dX1_has_2 : decode cX1_has 2 = .ok (.invokevirtual 52, 3) := by decide +kernel
theorem dX1_has_5 : decode cX1_has 5 = .ok (.astore_n 3, 1) := by decide +kernel
theorem dX1_has_6 : decode cX1_has 6 = .ok (.aload_n 3, 1) := by decide +kernel
theorem dX1_has_7 : decode cX1_has 7 = .ok (.ifnull 16, 3) := by decide +kernel
theorem dX1_has_10 : decode cX1_has 10 = .ok (.aload_n 3, 1) := by decide +kernel
theorem dX1_has_11 : decode cX1_has 11 = .ok (.iload_n 2, 1) := by decide +kernel
theorem dX1_has_12 : decode cX1_has 12 = .ok (.invokevirtual 47, 3) := by decide +kernel
theorem dX1_has_15 : decode cX1_has 15 = .ok (.iconst (-1), 1) := by decide +kernel
theorem dX1_has_16 : decode cX1_has 16 = .ok (.if_icmp .eq 7, 3) := by decide +kernel
theorem dX1_has_19 : decode cX1_has 19 = .ok (.iconst 1, 1) := by decide +kernel
theorem dX1_has_20 : decode cX1_has 20 = .ok (.goto 4, 3) := by decide +kernel
theorem dX1_has_23 : decode cX1_has 23 = .ok (.iconst 0, 1) := by decide +kernel
theorem dX1_has_24 : decode cX1_has 24 = .ok (.ireturn, 1) := by decide +kernel
theorem dX1_size_0 : decode cX1_size 0 = .ok (.aload_n 0, 1) := by decide +kernel
theorem dX1_size_1 : decode cX1_size 1 = .ok (.iload_n 1, 1) := by decide +kernel
theorem dX1_size_2 : decode cX1_size 2 = .ok (.invokevirtual 52, 3) := by decide +kernel
theorem dX1_size_5 : decode cX1_size 5 = .ok (.astore_n 2, 1) := by decide +kernel
theorem dX1_size_6 : decode cX1_size 6 = .ok (.aload_n 2, 1) := by decide +kernel
theorem dX1_size_7 : decode cX1_size 7 = .ok (.ifnonnull 7, 3) := by decide +kernel
theorem dX1_size_10 : decode cX1_size 10 = .ok (.iconst (-1), 1) := by decide +kernel
theorem dX1_size_11 : decode cX1_size 11 = .ok (.goto 7, 3) := by decide +kernel
theorem dX1_size_14 : decode cX1_size 14 = .ok (.aload_n 2, 1) := by decide +kernel
theorem dX1_size_15 : decode cX1_size 15 = .ok (.getfield 37, 3) := by decide +kernel
theorem dX1_size_18 : decode cX1_size 18 = .ok (.ireturn, 1) := by decide +kernel
theorem dX1_liftFinger_0 : decode cX1_liftFinger 0 = .ok (.aload_n 0, 1) := by decide +kernel
theorem dX1_liftFinger_1 : decode cX1_liftFinger 1 = .ok (.iconst (-1), 1) := by decide +kernel
theorem dX1_liftFinger_2 : decode cX1_liftFinger 2 = .ok (.putfield 22, 3) := by decide +kernel
theorem dX1_liftFinger_5 : decode cX1_liftFinger 5 = .ok (.aload_n 0, 1) := by decide +kernel
theorem dX1_liftFinger_6 : decode cX1_liftFinger 6 = .ok (.iconst (-1), 1) := by decide +kernel
theorem dX1_liftFinger_7 : decode cX1_liftFinger 7 = .ok (.putfield 26, 3) := by decide +kernel
theorem dX1_liftFinger_10 : decode cX1_liftFinger 10 = .ok (.return_, 1) := by decide +kernel
theorem dX1_clear_0 : decode cX1_clear 0 = .ok (.aload_n 0, 1) := by decide +kernel
theorem dX1_clear_1 : decode cX1_clear 1 = .ok (.iload_n 1, 1) := by decide +kernel
theorem dX1_clear_2 : decode cX1_clear 2 = .ok (.invokevirtual 52, 3) := by decide +kernel
theorem dX1_clear_5 : decode cX1_clear 5 = .ok (.astore_n 2, 1) := by decide +kernel
theorem dX1_clear_6 : decode cX1_clear 6 = .ok (.aload_n 2, 1) := by decide +kernel
theorem dX1_clear_7 : decode cX1_clear 7 = .ok (.ifnonnull 5, 3) := by decide +kernel
theorem dX1_clear_10 : decode cX1_clear 10 = .ok (.iconst (-1), 1) := by decide +kernel
theorem dX1_clear_11 : decode cX1_clear 11 = .ok (.ireturn, 1) := by decide +kernel
theorem dX1_clear_12 : decode cX1_clear 12 = .ok (.aload_n 2, 1) := by decide +kernel
theorem dX1_clear_13 : decode cX1_clear 13 = .ok (.invokevirtual 56, 3) := by decide +kernel
theorem dX1_clear_16 : decode cX1_clear 16 = .ok (.istore_n 3, 1) := by decide +kernel
theorem dX1_clear_17 : decode cX1_clear 17 = .ok (.aload_n 2, 1) := by decide +kernel
theorem dX1_clear_18 : decode cX1_clear 18 = .ok (.aload_n 0, 1) := by decide +kernel
theorem dX1_clear_19 : decode cX1_clear 19 = .ok (.getfield 19, 3) := by decide +kernel
theorem dX1_clear_22 : decode cX1_clear 22 = .ok (.if_acmp .ne 11, 3) := by decide +kernel
theorem dX1_clear_25 : decode cX1_clear 25 = .ok (.iload_n 3, 1) := by decide +kernel
theorem dX1_clear_26 : decode cX1_clear 26 = .ok (.ifCond .le 7, 3) := by decide +kernel
theorem dX1_clear_29 : decode cX1_clear 29 = .ok (.aload_n 0, 1) := by decide +kernel
theorem dX1_clear_30 : decode cX1_clear 30 = .ok (.invokevirtual 60, 3) := by decide +kernel
theorem dX1_clear_33 : decode cX1_clear 33 = .ok (.iload_n 3, 1) := by decide +kernel
theorem dX1_clear_34 : decode cX1_clear 34 = .ok (.ireturn, 1) := by decide +kernel
theorem dX1_join_0 : decode cX1_join 0 = .ok (.aload_n 0, 1) := by decide +kernel
theorem dX1_join_1 : decode cX1_join 1 = .ok (.getfield 16, 3) := by decide +kernel
theorem dX1_join_4 : decode cX1_join 4 = .ok (.iload_n 2, 1) := by decide +kernel
theorem dX1_join_5 : decode cX1_join 5 = .ok (.ifCond .eq 7, 3) := by decide +kernel
theorem dX1_join_8 : decode cX1_join 8 = .ok (.iconst 0, 1) := by decide +kernel
theorem dX1_join_9 : decode cX1_join 9 = .ok (.goto 10, 3) := by decide +kernel
theorem dX1_join_12 : decode cX1_join 12 = .ok (.aload_n 0, 1) := by decide +kernel
theorem dX1_join_13 : decode cX1_join 13 = .ok (.getfield 16, 3) := by decide +kernel
theorem dX1_join_16 : decode cX1_join 16 = .ok (.getfield 37, 3) := by decide +kernel
theorem dX1_join_19 : decode cX1_join 19 = .ok (.iload_n 1, 1) := by decide +kernel
theorem dX1_join_20 : decode cX1_join 20 = .ok (.invokevirtual 33, 3) := by decide +kernel
theorem dX1_join_23 : decode cX1_join 23 = .ok (.ifCond .eq 13, 3) := by decide +kernel
theorem dX1_join_26 : decode cX1_join 26 = .ok (.aload_n 0, 1) := by decide +kernel
theorem dX1_join_27 : decode cX1_join 27 = .ok (.getfield 16, 3) := by decide +kernel
theorem dX1_join_30 : decode cX1_join 30 = .ok (.getfield 37, 3) := by decide +kernel
theorem dX1_join_33 : decode cX1_join 33 = .ok (.goto 5, 3) := by decide +kernel
theorem dX1_join_36 : decode cX1_join 36 = .ok (.bipush (-3), 2) := by decide +kernel
theorem dX1_join_38 : decode cX1_join 38 = .ok (.ireturn, 1) := by decide +kernel
theorem dX1_serve_0 : decode cX1_serve 0 = .ok (.iload_n 1, 1) := by decide +kernel
theorem dX1_serve_1 : decode cX1_serve 1 = .ok (.ifCond .eq 7, 3) := by decide +kernel
theorem dX1_serve_4 : decode cX1_serve 4 = .ok (.iconst 0, 1) := by decide +kernel
theorem dX1_serve_5 : decode cX1_serve 5 = .ok (.goto 12, 3) := by decide +kernel
theorem dX1_serve_8 : decode cX1_serve 8 = .ok (.aload_n 0, 1) := by decide +kernel
theorem dX1_serve_9 : decode cX1_serve 9 = .ok (.getfield 16, 3) := by decide +kernel
theorem dX1_serve_12 : decode cX1_serve 12 = .ok (.getfield 37, 3) := by decide +kernel
theorem dX1_serve_15 : decode cX1_serve 15 = .ok (.iconst 1, 1) := by decide +kernel
theorem dX1_serve_16 : decode cX1_serve 16 = .ok (.isub, 1) := by decide +kernel
theorem dX1_serve_17 : decode cX1_serve 17 = .ok (.istore_n 3, 1) := by decide +kernel
theorem dX1_serve_18 : decode cX1_serve 18 = .ok (.iload_n 2, 1) := by decide +kernel
theorem dX1_serve_19 : decode cX1_serve 19 = .ok (.ifCond .eq 14, 3) := by decide +kernel
theorem dX1_serve_22 : decode cX1_serve 22 = .ok (.aload_n 0, 1) := by decide +kernel
theorem dX1_serve_23 : decode cX1_serve 23 = .ok (.getfield 16, 3) := by decide +kernel
theorem dX1_serve_26 : decode cX1_serve 26 = .ok (.iload_n 3, 1) := by decide +kernel
theorem dX1_serve_27 : decode cX1_serve 27 = .ok (.invokevirtual 40, 3) := by decide +kernel
theorem dX1_serve_30 : decode cX1_serve 30 = .ok (.goto 11, 3) := by decide +kernel
theorem dX1_serve_33 : decode cX1_serve 33 = .ok (.aload_n 0, 1) := by decide +kernel
theorem dX1_serve_34 : decode cX1_serve 34 = .ok (.getfield 16, 3) := by decide +kernel
theorem dX1_serve_37 : decode cX1_serve 37 = .ok (.iload_n 3, 1) := by decide +kernel
theorem dX1_serve_38 : decode cX1_serve 38 = .ok (.invokevirtual 44, 3) := by decide +kernel
theorem dX1_serve_41 : decode cX1_serve 41 = .ok (.lreturn, 1) := by decide +kernel
theorem dX1_drop_0 : decode cX1_drop 0 = .ok (.iload_n 2, 1) := by decide +kernel
theorem dX1_drop_1 : decode cX1_drop 1 = .ok (.ifCond .eq 14, 3) := by decide +kernel
theorem dX1_drop_4 : decode cX1_drop 4 = .ok (.aload_n 0, 1) := by decide +kernel
theorem dX1_drop_5 : decode cX1_drop 5 = .ok (.getfield 16, 3) := by decide +kernel
theorem dX1_drop_8 : decode cX1_drop 8 = .ok (.iload_n 1, 1) := by decide +kernel
theorem dX1_drop_9 : decode cX1_drop 9 = .ok (.invokevirtual 47, 3) := by decide +kernel
theorem dX1_drop_12 : decode cX1_drop 12 = .ok (.goto 11, 3) := by decide +kernel
theorem dX1_drop_15 : decode cX1_drop 15 = .ok (.aload_n 0, 1) := by decide +kernel
theorem dX1_drop_16 : decode cX1_drop 16 = .ok (.getfield 16, 3) := by decide +kernel
theorem dX1_drop_19 : decode cX1_drop 19 = .ok (.iload_n 1, 1) := by decide +kernel
theorem dX1_drop_20 : decode cX1_drop 20 = .ok (.invokevirtual 63, 3) := by decide +kernel
theorem dX1_drop_23 : decode cX1_drop 23 = .ok (.istore_n 3, 1) := by decide +kernel
theorem dX1_drop_24 : decode cX1_drop 24 = .ok (.aload_n 0, 1) := by decide +kernel
theorem dX1_drop_25 : decode cX1_drop 25 = .ok (.getfield 16, 3) := by decide +kernel
theorem dX1_drop_28 : decode cX1_drop 28 = .ok (.iload_n 3, 1) := by decide +kernel
theorem dX1_drop_29 : decode cX1_drop 29 = .ok (.invokevirtual 44, 3) := by decide +kernel
theorem dX1_drop_32 : decode cX1_drop 32 = .ok (.ldc2_w 50, 3) := by decide +kernel
theorem dX1_drop_35 : decode cX1_drop 35 = .ok (.lcmp, 1) := by decide +kernel
theorem dX1_drop_36 : decode cX1_drop 36 = .ok (.ifCond .eq 7, 3) := by decide +kernel
theorem dX1_drop_39 : decode cX1_drop 39 = .ok (.iconst 1, 1) := by decide +kernel
theorem dX1_drop_40 : decode cX1_drop 40 = .ok (.goto 4, 3) := by decide +kernel
theorem dX1_drop_43 : decode cX1_drop 43 = .ok (.iconst 0, 1) := by decide +kernel
theorem dX1_drop_44 : decode cX1_drop 44 = .ok (.ireturn, 1) := by decide +kernel
theorem dX1_ring_0 : decode cX1_ring 0 = .ok (.aload_n 0, 1) := by decide +kernel
theorem dX1_ring_1 : decode cX1_ring 1 = .ok (.getfield 16, 3) := by decide +kernel
theorem dX1_ring_4 : decode cX1_ring 4 = .ok (.iload_n 1, 1) := by decide +kernel
theorem dX1_ring_5 : decode cX1_ring 5 = .ok (.invokevirtual 66, 3) := by decide +kernel
theorem dX1_ring_8 : decode cX1_ring 8 = .ok (.ifCond .ne 7, 3) := by decide +kernel
theorem dX1_ring_11 : decode cX1_ring 11 = .ok (.ldc2_w 50, 3) := by decide +kernel
theorem dX1_ring_14 : decode cX1_ring 14 = .ok (.lreturn, 1) := by decide +kernel
theorem dX1_ring_15 : decode cX1_ring 15 = .ok (.aload_n 0, 1) := by decide +kernel
theorem dX1_ring_16 : decode cX1_ring 16 = .ok (.getfield 16, 3) := by decide +kernel
theorem dX1_ring_19 : decode cX1_ring 19 = .ok (.iload_n 2, 1) := by decide +kernel
theorem dX1_ring_20 : decode cX1_ring 20 = .ok (.ifCond .eq 17, 3) := by decide +kernel
theorem dX1_ring_23 : decode cX1_ring 23 = .ok (.aload_n 0, 1) := by decide +kernel
theorem dX1_ring_24 : decode cX1_ring 24 = .ok (.getfield 16, 3) := by decide +kernel
theorem dX1_ring_27 : decode cX1_ring 27 = .ok (.getfield 37, 3) := by decide +kernel
theorem dX1_ring_30 : decode cX1_ring 30 = .ok (.iconst 1, 1) := by decide +kernel
theorem dX1_ring_31 : decode cX1_ring 31 = .ok (.isub, 1) := by decide +kernel
theorem dX1_ring_32 : decode cX1_ring 32 = .ok (.iload_n 1, 1) := by decide +kernel
theorem dX1_ring_33 : decode cX1_ring 33 = .ok (.isub, 1) := by decide +kernel
theorem dX1_ring_34 : decode cX1_ring 34 = .ok (.goto 4, 3) := by decide +kernel
theorem dX1_ring_37 : decode cX1_ring 37 = .ok (.iload_n 1, 1) := by decide +kernel
theorem dX1_ring_38 : decode cX1_ring 38 = .ok (.invokevirtual 40, 3) := by decide +kernel
theorem dX1_ring_41 : decode cX1_ring 41 = .ok (.lreturn, 1) := by decide +kernel
theorem dX1_sieve_0 : decode cX1_sieve 0 = .ok (.aload_n 0, 1) := by decide +kernel
theorem dX1_sieve_1 : decode cX1_sieve 1 = .ok (.getfield 16, 3) := by decide +kernel
theorem dX1_sieve_4 : decode cX1_sieve 4 = .ok (.iload_n 1, 1) := by decide +kernel
theorem dX1_sieve_5 : decode cX1_sieve 5 = .ok (.iload_n 2, 1) := by decide +kernel
theorem dX1_sieve_6 : decode cX1_sieve 6 = .ok (.invokevirtual 70, 3) := by decide +kernel
theorem dX1_sieve_9 : decode cX1_sieve 9 = .ok (.ireturn, 1) := by decide +kernel
theorem dX1_roll_0 : decode cX1_roll 0 = .ok (.aload_n 0, 1) := by decide +kernel
theorem dX1_roll_1 : decode cX1_roll 1 = .ok (.getfield 16, 3) := by decide +kernel
theorem dX1_roll_4 : decode cX1_roll 4 = .ok (.iload_n 1, 1) := by decide +kernel
theorem dX1_roll_5 : decode cX1_roll 5 = .ok (.invokevirtual 74, 3) := by decide +kernel
theorem dX1_roll_8 : decode cX1_roll 8 = .ok (.ireturn, 1) := by decide +kernel
theorem dX1_insert_0 : decode cX1_insert 0 = .ok (.aload_n 0, 1) := by decide +kernel
theorem dX1_insert_1 : decode cX1_insert 1 = .ok (.getfield 19, 3) := by decide +kernel
theorem dX1_insert_4 : decode cX1_insert 4 = .ok (.iload_n 1, 1) := by decide +kernel
theorem dX1_insert_5 : decode cX1_insert 5 = .ok (.invokevirtual 77, 3) := by decide +kernel
theorem dX1_insert_8 : decode cX1_insert 8 = .ok (.ifCond .ne 5, 3) := by decide +kernel
theorem dX1_insert_11 : decode cX1_insert 11 = .ok (.iconst (-1), 1) := by decide +kernel
theorem dX1_insert_12 : decode cX1_insert 12 = .ok (.ireturn, 1) := by decide +kernel
theorem dX1_insert_13 : decode cX1_insert 13 = .ok (.aload_n 0, 1) := by decide +kernel
theorem dX1_insert_14 : decode cX1_insert 14 = .ok (.getfield 19, 3) := by decide +kernel
theorem dX1_insert_17 : decode cX1_insert 17 = .ok (.iload_n 1, 1) := by decide +kernel
theorem dX1_insert_18 : decode cX1_insert 18 = .ok (.iload_n 2, 1) := by decide +kernel
theorem dX1_insert_19 : decode cX1_insert 19 = .ok (.invokevirtual 33, 3) := by decide +kernel
theorem dX1_insert_22 : decode cX1_insert 22 = .ok (.ifCond .ne 6, 3) := by decide +kernel
theorem dX1_insert_25 : decode cX1_insert 25 = .ok (.bipush (-3), 2) := by decide +kernel
theorem dX1_insert_27 : decode cX1_insert 27 = .ok (.ireturn, 1) := by decide +kernel
theorem dX1_insert_28 : decode cX1_insert 28 = .ok (.aload_n 0, 1) := by decide +kernel
theorem dX1_insert_29 : decode cX1_insert 29 = .ok (.invokevirtual 60, 3) := by decide +kernel
theorem dX1_insert_32 : decode cX1_insert 32 = .ok (.aload_n 0, 1) := by decide +kernel
theorem dX1_insert_33 : decode cX1_insert 33 = .ok (.getfield 19, 3) := by decide +kernel
theorem dX1_insert_36 : decode cX1_insert 36 = .ok (.getfield 37, 3) := by decide +kernel
theorem dX1_insert_39 : decode cX1_insert 39 = .ok (.ireturn, 1) := by decide +kernel
theorem dX1_change_0 : decode cX1_change 0 = .ok (.iload_n 3, 1) := by decide +kernel
theorem dX1_change_1 : decode cX1_change 1 = .ok (.ifCond .eq 14, 3) := by decide +kernel
theorem dX1_change_4 : decode cX1_change 4 = .ok (.aload_n 0, 1) := by decide +kernel
theorem dX1_change_5 : decode cX1_change 5 = .ok (.getfield 19, 3) := by decide +kernel
theorem dX1_change_8 : decode cX1_change 8 = .ok (.iload_n 1, 1) := by decide +kernel
theorem dX1_change_9 : decode cX1_change 9 = .ok (.invokevirtual 44, 3) := by decide +kernel
theorem dX1_change_12 : decode cX1_change 12 = .ok (.goto 12, 3) := by decide +kernel
theorem dX1_change_15 : decode cX1_change 15 = .ok (.aload_n 0, 1) := by decide +kernel
theorem dX1_change_16 : decode cX1_change 16 = .ok (.getfield 19, 3) := by decide +kernel
theorem dX1_change_19 : decode cX1_change 19 = .ok (.iload_n 1, 1) := by decide +kernel
theorem dX1_change_20 : decode cX1_change 20 = .ok (.iload_n 2, 1) := by decide +kernel
theorem dX1_change_21 : decode cX1_change 21 = .ok (.invokevirtual 80, 3) := by decide +kernel
theorem dX1_change_24 : decode cX1_change 24 = .ok (.lstore 4, 2) := by decide +kernel
theorem dX1_change_26 : decode cX1_change 26 = .ok (.iload_n 3, 1) := by decide +kernel
theorem dX1_change_27 : decode cX1_change 27 = .ok (.ifCond .eq 16, 3) := by decide +kernel
theorem dX1_change_30 : decode cX1_change 30 = .ok (.lload 4, 2) := by decide +kernel
theorem dX1_change_32 : decode cX1_change 32 = .ok (.ldc2_w 50, 3) := by decide +kernel
theorem dX1_change_35 : decode cX1_change 35 = .ok (.lcmp, 1) := by decide +kernel
theorem dX1_change_36 : decode cX1_change 36 = .ok (.ifCond .eq 7, 3) := by decide +kernel
theorem dX1_change_39 : decode cX1_change 39 = .ok (.aload_n 0, 1) := by decide +kernel
theorem dX1_change_40 : decode cX1_change 40 = .ok (.invokevirtual 60, 3) := by decide +kernel
theorem dX1_change_43 : decode cX1_change 43 = .ok (.lload 4, 2) := by decide +kernel
theorem dX1_change_45 : decode cX1_change 45 = .ok (.lreturn, 1) := by decide +kernel
theorem dX1_chain_0 : decode cX1_chain 0 = .ok (.aload_n 0, 1) := by decide +kernel
theorem dX1_chain_1 : decode cX1_chain 1 = .ok (.getfield 19, 3) := by decide +kernel
theorem dX1_chain_4 : decode cX1_chain 4 = .ok (.iload_n 1, 1) := by decide +kernel
theorem dX1_chain_5 : decode cX1_chain 5 = .ok (.invokevirtual 40, 3) := by decide +kernel
theorem dX1_chain_8 : decode cX1_chain 8 = .ok (.lreturn, 1) := by decide +kernel
theorem dX1_find_0 : decode cX1_find 0 = .ok (.iload_n 2, 1) := by decide +kernel
theorem dX1_find_1 : decode cX1_find 1 = .ok (.ifCond .eq 14, 3) := by decide +kernel
theorem dX1_find_4 : decode cX1_find 4 = .ok (.aload_n 0, 1) := by decide +kernel
theorem dX1_find_5 : decode cX1_find 5 = .ok (.getfield 19, 3) := by decide +kernel
theorem dX1_find_8 : decode cX1_find 8 = .ok (.iload_n 1, 1) := by decide +kernel
theorem dX1_find_9 : decode cX1_find 9 = .ok (.invokevirtual 63, 3) := by decide +kernel
theorem dX1_find_12 : decode cX1_find 12 = .ok (.goto 11, 3) := by decide +kernel
theorem dX1_find_15 : decode cX1_find 15 = .ok (.aload_n 0, 1) := by decide +kernel
theorem dX1_find_16 : decode cX1_find 16 = .ok (.getfield 19, 3) := by decide +kernel
theorem dX1_find_19 : decode cX1_find 19 = .ok (.iload_n 1, 1) := by decide +kernel
theorem dX1_find_20 : decode cX1_find 20 = .ok (.invokevirtual 47, 3) := by decide +kernel
theorem dX1_find_23 : decode cX1_find 23 = .ok (.ireturn, 1) := by decide +kernel
theorem dX1_unlink_0 : decode cX1_unlink 0 = .ok (.aload_n 0, 1) := by decide +kernel
theorem dX1_unlink_1 : decode cX1_unlink 1 = .ok (.getfield 19, 3) := by decide +kernel
theorem dX1_unlink_4 : decode cX1_unlink 4 = .ok (.aload_n 0, 1) := by decide +kernel
theorem dX1_unlink_5 : decode cX1_unlink 5 = .ok (.getfield 19, 3) := by decide +kernel
theorem dX1_unlink_8 : decode cX1_unlink 8 = .ok (.iload_n 1, 1) := by decide +kernel
theorem dX1_unlink_9 : decode cX1_unlink 9 = .ok (.invokevirtual 47, 3) := by decide +kernel
theorem dX1_unlink_12 : decode cX1_unlink 12 = .ok (.invokevirtual 44, 3) := by decide +kernel
theorem dX1_unlink_15 : decode cX1_unlink 15 = .ok (.ldc2_w 50, 3) := by decide +kernel
theorem dX1_unlink_18 : decode cX1_unlink 18 = .ok (.lcmp, 1) := by decide +kernel
theorem dX1_unlink_19 : decode cX1_unlink 19 = .ok (.ifCond .ne 5, 3) := by decide +kernel
theorem dX1_unlink_22 : decode cX1_unlink 22 = .ok (.iconst 0, 1) := by decide +kernel
theorem dX1_unlink_23 : decode cX1_unlink 23 = .ok (.ireturn, 1) := by decide +kernel
theorem dX1_unlink_24 : decode cX1_unlink 24 = .ok (.aload_n 0, 1) := by decide +kernel
theorem dX1_unlink_25 : decode cX1_unlink 25 = .ok (.invokevirtual 60, 3) := by decide +kernel
theorem dX1_unlink_28 : decode cX1_unlink 28 = .ok (.iconst 1, 1) := by decide +kernel
theorem dX1_unlink_29 : decode cX1_unlink 29 = .ok (.ireturn, 1) := by decide +kernel
theorem dX1_point_0 : decode cX1_point 0 = .ok (.aload_n 0, 1) := by decide +kernel
theorem dX1_point_1 : decode cX1_point 1 = .ok (.getfield 19, 3) := by decide +kernel
theorem dX1_point_4 : decode cX1_point 4 = .ok (.iload_n 1, 1) := by decide +kernel
theorem dX1_point_5 : decode cX1_point 5 = .ok (.invokevirtual 77, 3) := by decide +kernel
theorem dX1_point_8 : decode cX1_point 8 = .ok (.ifCond .ne 5, 3) := by decide +kernel
theorem dX1_point_11 : decode cX1_point 11 = .ok (.iconst (-1), 1) := by decide +kernel
theorem dX1_point_12 : decode cX1_point 12 = .ok (.ireturn, 1) := by decide +kernel
theorem dX1_point_13 : decode cX1_point 13 = .ok (.aload_n 0, 1) := by decide +kernel
theorem dX1_point_14 : decode cX1_point 14 = .ok (.iload_n 1, 1) := by decide +kernel
theorem dX1_point_15 : decode cX1_point 15 = .ok (.putfield 22, 3) := by decide +kernel
theorem dX1_point_18 : decode cX1_point 18 = .ok (.aload_n 0, 1) := by decide +kernel
theorem dX1_point_19 : decode cX1_point 19 = .ok (.iconst (-1), 1) := by decide +kernel
theorem dX1_point_20 : decode cX1_point 20 = .ok (.putfield 26, 3) := by decide +kernel
theorem dX1_point_23 : decode cX1_point 23 = .ok (.iload_n 1, 1) := by decide +kernel
theorem dX1_point_24 : decode cX1_point 24 = .ok (.ireturn, 1) := by decide +kernel
theorem dX1_pass_0 : decode cX1_pass 0 = .ok (.aload_n 0, 1) := by decide +kernel
theorem dX1_pass_1 : decode cX1_pass 1 = .ok (.getfield 22, 3) := by decide +kernel
theorem dX1_pass_4 : decode cX1_pass 4 = .ok (.iconst (-1), 1) := by decide +kernel
theorem dX1_pass_5 : decode cX1_pass 5 = .ok (.if_icmp .ne 7, 3) := by decide +kernel
theorem dX1_pass_8 : decode cX1_pass 8 = .ok (.ldc2_w 50, 3) := by decide +kernel
theorem dX1_pass_11 : decode cX1_pass 11 = .ok (.lreturn, 1) := by decide +kernel
theorem dX1_pass_12 : decode cX1_pass 12 = .ok (.iload_n 1, 1) := by decide +kernel
theorem dX1_pass_13 : decode cX1_pass 13 = .ok (.ifCond .eq 12, 3) := by decide +kernel
theorem dX1_pass_16 : decode cX1_pass 16 = .ok (.aload_n 0, 1) := by decide +kernel
theorem dX1_pass_17 : decode cX1_pass 17 = .ok (.getfield 22, 3) := by decide +kernel
theorem dX1_pass_20 : decode cX1_pass 20 = .ok (.iconst 1, 1) := by decide +kernel
theorem dX1_pass_21 : decode cX1_pass 21 = .ok (.isub, 1) := by decide +kernel
theorem dX1_pass_22 : decode cX1_pass 22 = .ok (.goto 7, 3) := by decide +kernel
theorem dX1_pass_25 : decode cX1_pass 25 = .ok (.aload_n 0, 1) := by decide +kernel
theorem dX1_pass_26 : decode cX1_pass 26 = .ok (.getfield 22, 3) := by decide +kernel
theorem dX1_pass_29 : decode cX1_pass 29 = .ok (.istore_n 2, 1) := by decide +kernel
theorem dX1_pass_30 : decode cX1_pass 30 = .ok (.aload_n 0, 1) := by decide +kernel
theorem dX1_pass_31 : decode cX1_pass 31 = .ok (.getfield 19, 3) := by decide +kernel
theorem dX1_pass_34 : decode cX1_pass 34 = .ok (.iload_n 2, 1) := by decide +kernel
theorem dX1_pass_35 : decode cX1_pass 35 = .ok (.invokevirtual 66, 3) := by decide +kernel
theorem dX1_pass_38 : decode cX1_pass 38 = .ok (.ifCond .ne 7, 3) := by decide +kernel
theorem dX1_pass_41 : decode cX1_pass 41 = .ok (.ldc2_w 50, 3) := by decide +kernel
theorem dX1_pass_44 : decode cX1_pass 44 = .ok (.lreturn, 1) := by decide +kernel
theorem dX1_pass_45 : decode cX1_pass 45 = .ok (.aload_n 0, 1) := by decide +kernel
theorem dX1_pass_46 : decode cX1_pass 46 = .ok (.iload_n 1, 1) := by decide +kernel
theorem dX1_pass_47 : decode cX1_pass 47 = .ok (.ifCond .eq 7, 3) := by decide +kernel
theorem dX1_pass_50 : decode cX1_pass 50 = .ok (.iload_n 2, 1) := by decide +kernel
theorem dX1_pass_51 : decode cX1_pass 51 = .ok (.goto 6, 3) := by decide +kernel
theorem dX1_pass_54 : decode cX1_pass 54 = .ok (.iload_n 2, 1) := by decide +kernel
theorem dX1_pass_55 : decode cX1_pass 55 = .ok (.iconst 1, 1) := by decide +kernel
theorem dX1_pass_56 : decode cX1_pass 56 = .ok (.iadd, 1) := by decide +kernel
theorem dX1_pass_57 : decode cX1_pass 57 = .ok (.putfield 22, 3) := by decide +kernel
theorem dX1_pass_60 : decode cX1_pass 60 = .ok (.aload_n 0, 1) := by decide +kernel
theorem dX1_pass_61 : decode cX1_pass 61 = .ok (.iload_n 2, 1) := by decide +kernel
theorem dX1_pass_62 : decode cX1_pass 62 = .ok (.putfield 26, 3) := by decide +kernel
theorem dX1_pass_65 : decode cX1_pass 65 = .ok (.aload_n 0, 1) := by decide +kernel
theorem dX1_pass_66 : decode cX1_pass 66 = .ok (.getfield 19, 3) := by decide +kernel
theorem dX1_pass_69 : decode cX1_pass 69 = .ok (.iload_n 2, 1) := by decide +kernel
theorem dX1_pass_70 : decode cX1_pass 70 = .ok (.invokevirtual 40, 3) := by decide +kernel
theorem dX1_pass_73 : decode cX1_pass 73 = .ok (.lreturn, 1) := by decide +kernel
theorem dX1_changeMet_0 : decode cX1_changeMet 0 = .ok (.aload_n 0, 1) := by decide +kernel
theorem dX1_changeMet_1 : decode cX1_changeMet 1 = .ok (.getfield 19, 3) := by decide +kernel
theorem dX1_changeMet_4 : decode cX1_changeMet 4 = .ok (.aload_n 0, 1) := by decide +kernel
theorem dX1_changeMet_5 : decode cX1_changeMet 5 = .ok (.getfield 26, 3) := by decide +kernel
theorem dX1_changeMet_8 : decode cX1_changeMet 8 = .ok (.iload_n 1, 1) := by decide +kernel
theorem dX1_changeMet_9 : decode cX1_changeMet 9 = .ok (.invokevirtual 80, 3) := by decide +kernel
theorem dX1_changeMet_12 : decode cX1_changeMet 12 = .ok (.ldc2_w 50, 3) := by decide +kernel
theorem dX1_changeMet_15 : decode cX1_changeMet 15 = .ok (.lcmp, 1) := by decide +kernel
theorem dX1_changeMet_16 : decode cX1_changeMet 16 = .ok (.ifCond .ne 7, 3) := by decide +kernel
theorem dX1_changeMet_19 : decode cX1_changeMet 19 = .ok (.iconst (-1), 1) := by decide +kernel
theorem dX1_changeMet_20 : decode cX1_changeMet 20 = .ok (.goto 10, 3) := by decide +kernel
theorem dX1_changeMet_23 : decode cX1_changeMet 23 = .ok (.aload_n 0, 1) := by decide +kernel
theorem dX1_changeMet_24 : decode cX1_changeMet 24 = .ok (.getfield 19, 3) := by decide +kernel
theorem dX1_changeMet_27 : decode cX1_changeMet 27 = .ok (.getfield 37, 3) := by decide +kernel
theorem dX1_changeMet_30 : decode cX1_changeMet 30 = .ok (.ireturn, 1) := by decide +kernel
theorem dX1_takeMet_0 : decode cX1_takeMet 0 = .ok (.aload_n 0, 1) := by decide +kernel
theorem dX1_takeMet_1 : decode cX1_takeMet 1 = .ok (.getfield 19, 3) := by decide +kernel
theorem dX1_takeMet_4 : decode cX1_takeMet 4 = .ok (.aload_n 0, 1) := by decide +kernel
theorem dX1_takeMet_5 : decode cX1_takeMet 5 = .ok (.getfield 26, 3) := by decide +kernel
theorem dX1_takeMet_8 : decode cX1_takeMet 8 = .ok (.invokevirtual 44, 3) := by decide +kernel
theorem dX1_takeMet_11 : decode cX1_takeMet 11 = .ok (.ldc2_w 50, 3) := by decide +kernel
theorem dX1_takeMet_14 : decode cX1_takeMet 14 = .ok (.lcmp, 1) := by decide +kernel
theorem dX1_takeMet_15 : decode cX1_takeMet 15 = .ok (.ifCond .ne 5, 3) := by decide +kernel
theorem dX1_takeMet_18 : decode cX1_takeMet 18 = .ok (.iconst (-1), 1) := by decide +kernel
theorem dX1_takeMet_19 : decode cX1_takeMet 19 = .ok (.ireturn, 1) := by decide +kernel
theorem dX1_takeMet_20 : decode cX1_takeMet 20 = .ok (.aload_n 0, 1) := by decide +kernel
theorem dX1_takeMet_21 : decode cX1_takeMet 21 = .ok (.getfield 26, 3) := by decide +kernel
theorem dX1_takeMet_24 : decode cX1_takeMet 24 = .ok (.aload_n 0, 1) := by decide +kernel
theorem dX1_takeMet_25 : decode cX1_takeMet 25 = .ok (.getfield 22, 3) := by decide +kernel
theorem dX1_takeMet_28 : decode cX1_takeMet 28 = .ok (.if_icmp .ge 13, 3) := by decide +kernel
theorem dX1_takeMet_31 : decode cX1_takeMet 31 = .ok (.aload_n 0, 1) := by decide +kernel
theorem dX1_takeMet_32 : decode cX1_takeMet 32 = .ok (.dup, 1) := by decide +kernel
theorem dX1_takeMet_33 : decode cX1_takeMet 33 = .ok (.getfield 22, 3) := by decide +kernel
theorem dX1_takeMet_36 : decode cX1_takeMet 36 = .ok (.iconst 1, 1) := by decide +kernel
theorem dX1_takeMet_37 : decode cX1_takeMet 37 = .ok (.isub, 1) := by decide +kernel
theorem dX1_takeMet_38 : decode cX1_takeMet 38 = .ok (.putfield 22, 3) := by decide +kernel
theorem dX1_takeMet_41 : decode cX1_takeMet 41 = .ok (.aload_n 0, 1) := by decide +kernel
theorem dX1_takeMet_42 : decode cX1_takeMet 42 = .ok (.iconst (-1), 1) := by decide +kernel
theorem dX1_takeMet_43 : decode cX1_takeMet 43 = .ok (.putfield 26, 3) := by decide +kernel
theorem dX1_takeMet_46 : decode cX1_takeMet 46 = .ok (.aload_n 0, 1) := by decide +kernel
theorem dX1_takeMet_47 : decode cX1_takeMet 47 = .ok (.getfield 19, 3) := by decide +kernel
theorem dX1_takeMet_50 : decode cX1_takeMet 50 = .ok (.getfield 37, 3) := by decide +kernel
theorem dX1_takeMet_53 : decode cX1_takeMet 53 = .ok (.ireturn, 1) := by decide +kernel
theorem dX1_putAtFinger_0 : decode cX1_putAtFinger 0 = .ok (.aload_n 0, 1) := by decide +kernel
theorem dX1_putAtFinger_1 : decode cX1_putAtFinger 1 = .ok (.getfield 19, 3) := by decide +kernel
theorem dX1_putAtFinger_4 : decode cX1_putAtFinger 4 = .ok (.aload_n 0, 1) := by decide +kernel
theorem dX1_putAtFinger_5 : decode cX1_putAtFinger 5 = .ok (.getfield 22, 3) := by decide +kernel
theorem dX1_putAtFinger_8 : decode cX1_putAtFinger 8 = .ok (.iload_n 1, 1) := by decide +kernel
theorem dX1_putAtFinger_9 : decode cX1_putAtFinger 9 = .ok (.invokevirtual 33, 3) := by decide +kernel
theorem dX1_putAtFinger_12 : decode cX1_putAtFinger 12 = .ok (.ifCond .ne 6, 3) := by decide +kernel
theorem dX1_putAtFinger_15 : decode cX1_putAtFinger 15 = .ok (.bipush (-3), 2) := by decide +kernel
theorem dX1_putAtFinger_17 : decode cX1_putAtFinger 17 = .ok (.ireturn, 1) := by decide +kernel
theorem dX1_putAtFinger_18 : decode cX1_putAtFinger 18 = .ok (.aload_n 0, 1) := by decide +kernel
theorem dX1_putAtFinger_19 : decode cX1_putAtFinger 19 = .ok (.dup, 1) := by decide +kernel
theorem dX1_putAtFinger_20 : decode cX1_putAtFinger 20 = .ok (.getfield 22, 3) := by decide +kernel
theorem dX1_putAtFinger_23 : decode cX1_putAtFinger 23 = .ok (.iconst 1, 1) := by decide +kernel
theorem dX1_putAtFinger_24 : decode cX1_putAtFinger 24 = .ok (.iadd, 1) := by decide +kernel
theorem dX1_putAtFinger_25 : decode cX1_putAtFinger 25 = .ok (.putfield 22, 3) := by decide +kernel
theorem dX1_putAtFinger_28 : decode cX1_putAtFinger 28 = .ok (.aload_n 0, 1) := by decide +kernel
theorem dX1_putAtFinger_29 : decode cX1_putAtFinger 29 = .ok (.iconst (-1), 1) := by decide +kernel
theorem dX1_putAtFinger_30 : decode cX1_putAtFinger 30 = .ok (.putfield 26, 3) := by decide +kernel
theorem dX1_putAtFinger_33 : decode cX1_putAtFinger 33 = .ok (.aload_n 0, 1) := by decide +kernel
theorem dX1_putAtFinger_34 : decode cX1_putAtFinger 34 = .ok (.getfield 19, 3) := by decide +kernel
theorem dX1_putAtFinger_37 : decode cX1_putAtFinger 37 = .ok (.getfield 37, 3) := by decide +kernel
theorem dX1_putAtFinger_40 : decode cX1_putAtFinger 40 = .ok (.ireturn, 1) := by decide +kernel
theorem dX1_touch_0 : decode cX1_touch 0 = .ok (.aload_n 0, 1) := by decide +kernel
theorem dX1_touch_1 : decode cX1_touch 1 = .ok (.getfield 22, 3) := by decide +kernel
theorem dX1_touch_4 : decode cX1_touch 4 = .ok (.iconst (-1), 1) := by decide +kernel
theorem dX1_touch_5 : decode cX1_touch 5 = .ok (.if_icmp .ne 5, 3) := by decide +kernel
theorem dX1_touch_8 : decode cX1_touch 8 = .ok (.iconst (-1), 1) := by decide +kernel
theorem dX1_touch_9 : decode cX1_touch 9 = .ok (.ireturn, 1) := by decide +kernel
theorem dX1_touch_10 : decode cX1_touch 10 = .ok (.iload_n 1, 1) := by decide +kernel
theorem dX1_touch_11 : decode cX1_touch 11 = .ok (.tableswitch 42 0 2 #[25, 31, 36], 25) := by decide +kernel
theorem dX1_touch_36 : decode cX1_touch 36 = .ok (.aload_n 0, 1) := by decide +kernel
theorem dX1_touch_37 : decode cX1_touch 37 = .ok (.iload_n 2, 1) := by decide +kernel
theorem dX1_touch_38 : decode cX1_touch 38 = .ok (.invokevirtual 84, 3) := by decide +kernel
theorem dX1_touch_41 : decode cX1_touch 41 = .ok (.ireturn, 1) := by decide +kernel
theorem dX1_touch_42 : decode cX1_touch 42 = .ok (.aload_n 0, 1) := by decide +kernel
theorem dX1_touch_43 : decode cX1_touch 43 = .ok (.invokevirtual 87, 3) := by decide +kernel
theorem dX1_touch_46 : decode cX1_touch 46 = .ok (.ireturn, 1) := by decide +kernel
theorem dX1_touch_47 : decode cX1_touch 47 = .ok (.aload_n 0, 1) := by decide +kernel
theorem dX1_touch_48 : decode cX1_touch 48 = .ok (.iload_n 2, 1) := by decide +kernel
theorem dX1_touch_49 : decode cX1_touch 49 = .ok (.invokevirtual 90, 3) := by decide +kernel
theorem dX1_touch_52 : decode cX1_touch 52 = .ok (.ireturn, 1) := by decide +kernel
theorem dX1_touch_53 : decode cX1_touch 53 = .ok (.iconst (-1), 1) := by decide +kernel
theorem dX1_touch_54 : decode cX1_touch 54 = .ok (.ireturn, 1) := by decide +kernel
theorem dX1_finger_0 : decode cX1_finger 0 = .ok (.aload_n 0, 1) := by decide +kernel
theorem dX1_finger_1 : decode cX1_finger 1 = .ok (.getfield 22, 3) := by decide +kernel
theorem dX1_finger_4 : decode cX1_finger 4 = .ok (.ireturn, 1) := by decide +kernel
theorem dX1_empty_0 : decode cX1_empty 0 = .ok (.aload_n 0, 1) := by decide +kernel
theorem dX1_empty_1 : decode cX1_empty 1 = .ok (.getfield 16, 3) := by decide +kernel
theorem dX1_empty_4 : decode cX1_empty 4 = .ok (.aload_n 0, 1) := by decide +kernel
theorem dX1_empty_5 : decode cX1_empty 5 = .ok (.getfield 10, 3) := by decide +kernel
theorem dX1_empty_8 : decode cX1_empty 8 = .ok (.aload_n 0, 1) := by decide +kernel
theorem dX1_empty_9 : decode cX1_empty 9 = .ok (.getfield 16, 3) := by decide +kernel
theorem dX1_empty_12 : decode cX1_empty 12 = .ok (.getfield 37, 3) := by decide +kernel
theorem dX1_empty_15 : decode cX1_empty 15 = .ok (.invokevirtual 93, 3) := by decide +kernel
theorem dX1_empty_18 : decode cX1_empty 18 = .ok (.ifCond .eq 13, 3) := by decide +kernel
theorem dX1_empty_21 : decode cX1_empty 21 = .ok (.aload_n 0, 1) := by decide +kernel
theorem dX1_empty_22 : decode cX1_empty 22 = .ok (.getfield 16, 3) := by decide +kernel
theorem dX1_empty_25 : decode cX1_empty 25 = .ok (.getfield 37, 3) := by decide +kernel
theorem dX1_empty_28 : decode cX1_empty 28 = .ok (.goto 5, 3) := by decide +kernel
theorem dX1_empty_31 : decode cX1_empty 31 = .ok (.bipush (-3), 2) := by decide +kernel
theorem dX1_empty_33 : decode cX1_empty 33 = .ok (.ireturn, 1) := by decide +kernel
theorem dX1_hand_0 : decode cX1_hand 0 = .ok (.aload_n 0, 1) := by decide +kernel
theorem dX1_hand_1 : decode cX1_hand 1 = .ok (.getfield 19, 3) := by decide +kernel
theorem dX1_hand_4 : decode cX1_hand 4 = .ok (.getfield 37, 3) := by decide +kernel
theorem dX1_hand_7 : decode cX1_hand 7 = .ok (.ifCond .le 7, 3) := by decide +kernel
theorem dX1_hand_10 : decode cX1_hand 10 = .ok (.iconst 1, 1) := by decide +kernel
theorem dX1_hand_11 : decode cX1_hand 11 = .ok (.goto 4, 3) := by decide +kernel
theorem dX1_hand_14 : decode cX1_hand 14 = .ok (.iconst 0, 1) := by decide +kernel
theorem dX1_hand_15 : decode cX1_hand 15 = .ok (.istore_n 1, 1) := by decide +kernel
theorem dX1_hand_16 : decode cX1_hand 16 = .ok (.aload_n 0, 1) := by decide +kernel
theorem dX1_hand_17 : decode cX1_hand 17 = .ok (.getfield 16, 3) := by decide +kernel
theorem dX1_hand_20 : decode cX1_hand 20 = .ok (.aload_n 0, 1) := by decide +kernel
theorem dX1_hand_21 : decode cX1_hand 21 = .ok (.getfield 19, 3) := by decide +kernel
theorem dX1_hand_24 : decode cX1_hand 24 = .ok (.iconst 0, 1) := by decide +kernel
theorem dX1_hand_25 : decode cX1_hand 25 = .ok (.invokevirtual 93, 3) := by decide +kernel
theorem dX1_hand_28 : decode cX1_hand 28 = .ok (.ifCond .ne 6, 3) := by decide +kernel
theorem dX1_hand_31 : decode cX1_hand 31 = .ok (.bipush (-3), 2) := by decide +kernel
theorem dX1_hand_33 : decode cX1_hand 33 = .ok (.ireturn, 1) := by decide +kernel
theorem dX1_hand_34 : decode cX1_hand 34 = .ok (.iload_n 1, 1) := by decide +kernel
theorem dX1_hand_35 : decode cX1_hand 35 = .ok (.ifCond .eq 7, 3) := by decide +kernel
theorem dX1_hand_38 : decode cX1_hand 38 = .ok (.aload_n 0, 1) := by decide +kernel
theorem dX1_hand_39 : decode cX1_hand 39 = .ok (.invokevirtual 60, 3) := by decide +kernel
theorem dX1_hand_42 : decode cX1_hand 42 = .ok (.aload_n 0, 1) := by decide +kernel
theorem dX1_hand_43 : decode cX1_hand 43 = .ok (.getfield 16, 3) := by decide +kernel
theorem dX1_hand_46 : decode cX1_hand 46 = .ok (.getfield 37, 3) := by decide +kernel
theorem dX1_hand_49 : decode cX1_hand 49 = .ok (.ireturn, 1) := by decide +kernel
