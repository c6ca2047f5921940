theorem inX1_init_X0 : ∀ w ∈ wsX00, w ∈ wsX1_init := by decide +kernel
set_option maxRecDepth 20000 in
theorem gX1_init_X0_init : GoodIn wsX1_init wsX0_init := goodIn_r _ [8, 9, 2, 3, 10, 11, 12, 18, 19] (by decide +kernel) (by decide +kernel)
theorem inX1_init_X1 : ∀ w ∈ wsX10, w ∈ wsX1_init := by decide +kernel
theorem inX1_liftFinger_X1 : ∀ w ∈ wsX10, w ∈ wsX1_liftFinger := by decide +kernel
theorem inX1_rowOf_X1 : ∀ w ∈ wsX10, w ∈ wsX1_rowOf := by decide +kernel
theorem inX1_enter_X1 : ∀ w ∈ wsX10, w ∈ wsX1_enter := by decide +kernel
set_option maxRecDepth 20000 in
theorem gX1_enter_X0_countBelow : GoodIn wsX1_enter wsX0_countBelow := goodIn_r _ [5, 6, 7, 24, 25] (by decide +kernel) (by decide +kernel)
set_option maxRecDepth 20000 in
theorem gX1_enter_X0_put : GoodIn wsX1_enter wsX0_put := goodIn_r _ [10, 6, 11, 12, 13, 4, 14, 7, 15, 16, 17, 18, 24, 25] (by decide +kernel) (by decide +kernel)
theorem inX1_enter_X0 : ∀ w ∈ wsX00, w ∈ wsX1_enter := by decide +kernel
theorem inX1_call_X1 : ∀ w ∈ wsX10, w ∈ wsX1_call := by decide +kernel
set_option maxRecDepth 20000 in
theorem gX1_call_X0_take : GoodIn wsX1_call wsX0_take := goodIn_r _ [15, 6, 7, 8, 4, 9, 10, 12, 11, 16, 17, 18, 19, 25, 26] (by decide +kernel) (by decide +kernel)
set_option maxRecDepth 20000 in
theorem gX1_call_X0_at : GoodIn wsX1_call wsX0_at := goodIn_r _ [5, 6, 7, 8, 4, 9, 10, 11, 12, 25, 26] (by decide +kernel) (by decide +kernel)
theorem inX1_leave_X1 : ∀ w ∈ wsX10, w ∈ wsX1_leave := by decide +kernel
set_option maxRecDepth 20000 in
theorem gX1_leave_X0_firstPlace : GoodIn wsX1_leave wsX0_firstPlace := goodIn_r _ [5, 6, 7, 26, 27] (by decide +kernel) (by decide +kernel)
set_option maxRecDepth 20000 in
theorem gX1_leave_X0_take : GoodIn wsX1_leave wsX0_take := goodIn_r _ [10, 11, 12, 13, 4, 14, 6, 15, 7, 16, 17, 18, 19, 26, 27] (by decide +kernel) (by decide +kernel)
theorem inX1_unlink_X1 : ∀ w ∈ wsX10, w ∈ wsX1_unlink := by decide +kernel
set_option maxRecDepth 20000 in
theorem gX1_unlink_X0_firstPlace : GoodIn wsX1_unlink wsX0_firstPlace := goodIn_r _ [5, 6, 7, 33, 34] (by decide +kernel) (by decide +kernel)
set_option maxRecDepth 20000 in
theorem gX1_unlink_X0_take : GoodIn wsX1_unlink wsX0_take := goodIn_r _ [10, 11, 12, 13, 4, 14, 6, 15, 7, 16, 17, 18, 19, 33, 34] (by decide +kernel) (by decide +kernel)
set_option maxRecDepth 20000 in
theorem gX1_unlink_X1_liftFinger : GoodIn wsX1_unlink wsX1_liftFinger := goodIn_r _ [25, 26, 27, 28, 29, 30, 31, 32] (by decide +kernel) (by decide +kernel)
set_option maxRecDepth 20000 in
theorem gX1_unlink_X1_liftFinger_v : GoodIn wsX1_unlink (wsV RX1 60 RX1 yX1_liftFinger wsX1_liftFinger) := goodIn_app (goodIn_r _ [21, 22, 23, 24] (by decide +kernel) (by decide +kernel)) gX1_unlink_X1_liftFinger
set_option maxRecDepth 20000 in
theorem gX1_has_X1_rowOf : GoodIn wsX1_has wsX1_rowOf := goodIn_r _ [5, 6, 7, 8, 15, 16, 17, 18, 19] (by decide +kernel) (by decide +kernel)
set_option maxRecDepth 20000 in
theorem gX1_has_X1_rowOf_v : GoodIn wsX1_has (wsV RX1 52 RX1 yX1_rowOf wsX1_rowOf) := goodIn_app (goodIn_r _ [1, 2, 3, 4] (by decide +kernel) (by decide +kernel)) gX1_has_X1_rowOf
set_option maxRecDepth 20000 in
theorem gX1_has_X0_firstPlace : GoodIn wsX1_has wsX0_firstPlace := goodIn_r _ [12, 13, 14, 20, 21] (by decide +kernel) (by decide +kernel)
set_option maxRecDepth 20000 in
theorem gX1_size_X1_rowOf : GoodIn wsX1_size wsX1_rowOf := goodIn_r _ [5, 6, 7, 8, 9, 10, 11, 12, 13] (by decide +kernel) (by decide +kernel)
set_option maxRecDepth 20000 in
theorem gX1_size_X1_rowOf_v : GoodIn wsX1_size (wsV RX1 52 RX1 yX1_rowOf wsX1_rowOf) := goodIn_app (goodIn_r _ [1, 2, 3, 4] (by decide +kernel) (by decide +kernel)) gX1_size_X1_rowOf
theorem inX1_size_X0 : ∀ w ∈ wsX00, w ∈ wsX1_size := by decide +kernel
set_option maxRecDepth 20000 in
theorem gX1_clear_X1_rowOf : GoodIn wsX1_clear wsX1_rowOf := goodIn_r _ [5, 6, 7, 8, 20, 21, 22, 23, 24] (by decide +kernel) (by decide +kernel)
set_option maxRecDepth 20000 in
theorem gX1_clear_X1_rowOf_v : GoodIn wsX1_clear (wsV RX1 52 RX1 yX1_rowOf wsX1_rowOf) := goodIn_app (goodIn_r _ [1, 2, 3, 4] (by decide +kernel) (by decide +kernel)) gX1_clear_X1_rowOf
set_option maxRecDepth 20000 in
theorem gX1_clear_X0_wipe : GoodIn wsX1_clear wsX0_wipe := goodIn_r _ [12, 13, 25, 26] (by decide +kernel) (by decide +kernel)
theorem inX1_clear_X1 : ∀ w ∈ wsX10, w ∈ wsX1_clear := by decide +kernel
set_option maxRecDepth 20000 in
theorem gX1_clear_X1_liftFinger : GoodIn wsX1_clear wsX1_liftFinger := goodIn_r _ [17, 18, 19, 20, 21, 22, 23, 24] (by decide +kernel) (by decide +kernel)
set_option maxRecDepth 20000 in
theorem gX1_clear_X1_liftFinger_v : GoodIn wsX1_clear (wsV RX1 60 RX1 yX1_liftFinger wsX1_liftFinger) := goodIn_app (goodIn_r _ [14, 15, 16, 4] (by decide +kernel) (by decide +kernel)) gX1_clear_X1_liftFinger
theorem inX1_join_X1 : ∀ w ∈ wsX10, w ∈ wsX1_join := by decide +kernel
theorem inX1_join_X0 : ∀ w ∈ wsX00, w ∈ wsX1_join := by decide +kernel
set_option maxRecDepth 20000 in
theorem gX1_join_X0_put : GoodIn wsX1_join wsX0_put := goodIn_r _ [5, 6, 7, 8, 9, 4, 10, 11, 12, 13, 14, 15, 21, 22] (by decide +kernel) (by decide +kernel)
theorem inX1_serve_X1 : ∀ w ∈ wsX10, w ∈ wsX1_serve := by decide +kernel
theorem inX1_serve_X0 : ∀ w ∈ wsX00, w ∈ wsX1_serve := by decide +kernel
set_option maxRecDepth 20000 in
theorem gX1_serve_X0_take : GoodIn wsX1_serve wsX0_take := goodIn_r _ [15, 6, 7, 8, 4, 9, 10, 12, 11, 16, 17, 18, 19, 25, 26] (by decide +kernel) (by decide +kernel)
set_option maxRecDepth 20000 in
theorem gX1_serve_X0_at : GoodIn wsX1_serve wsX0_at := goodIn_r _ [5, 6, 7, 8, 4, 9, 10, 11, 12, 25, 26] (by decide +kernel) (by decide +kernel)
theorem inX1_drop_X1 : ∀ w ∈ wsX10, w ∈ wsX1_drop := by decide +kernel
set_option maxRecDepth 20000 in
theorem gX1_drop_X0_lastPlace : GoodIn wsX1_drop wsX0_lastPlace := goodIn_r _ [10, 6, 7, 29, 30] (by decide +kernel) (by decide +kernel)
set_option maxRecDepth 20000 in
theorem gX1_drop_X0_take : GoodIn wsX1_drop wsX0_take := goodIn_r _ [13, 14, 15, 16, 4, 17, 6, 18, 7, 19, 20, 21, 22, 29, 30] (by decide +kernel) (by decide +kernel)
set_option maxRecDepth 20000 in
theorem gX1_drop_X0_firstPlace : GoodIn wsX1_drop wsX0_firstPlace := goodIn_r _ [5, 6, 7, 29, 30] (by decide +kernel) (by decide +kernel)
theorem inX1_ring_X1 : ∀ w ∈ wsX10, w ∈ wsX1_ring := by decide +kernel
set_option maxRecDepth 20000 in
theorem gX1_ring_X0_hasPlace : GoodIn wsX1_ring wsX0_hasPlace := goodIn_r _ [5, 6, 19, 20] (by decide +kernel) (by decide +kernel)
set_option maxRecDepth 20000 in
theorem gX1_ring_X0_at : GoodIn wsX1_ring wsX0_at := goodIn_r _ [10, 11, 2, 3, 4, 5, 6, 12, 13, 19, 20] (by decide +kernel) (by decide +kernel)
theorem inX1_ring_X0 : ∀ w ∈ wsX00, w ∈ wsX1_ring := by decide +kernel
theorem inX1_sieve_X1 : ∀ w ∈ wsX10, w ∈ wsX1_sieve := by decide +kernel
set_option maxRecDepth 20000 in
theorem gX1_sieve_X0_takeRest : GoodIn wsX1_sieve wsX0_takeRest := goodIn_r _ [5, 6, 7, 8, 9, 10, 11, 17, 18] (by decide +kernel) (by decide +kernel)
theorem inX1_roll_X1 : ∀ w ∈ wsX10, w ∈ wsX1_roll := by decide +kernel
set_option maxRecDepth 20000 in
theorem gX1_roll_X0_turn : GoodIn wsX1_roll wsX0_turn := goodIn_r _ [5, 6, 7, 8, 9, 10, 11, 17, 18] (by decide +kernel) (by decide +kernel)
theorem inX1_insert_X1 : ∀ w ∈ wsX10, w ∈ wsX1_insert := by decide +kernel
set_option maxRecDepth 20000 in
theorem gX1_insert_X0_hasPlaceOrEnd : GoodIn wsX1_insert wsX0_hasPlaceOrEnd := goodIn_r _ [5, 6, 28, 29] (by decide +kernel) (by decide +kernel)
set_option maxRecDepth 20000 in
theorem gX1_insert_X0_put : GoodIn wsX1_insert wsX0_put := goodIn_r _ [9, 6, 10, 2, 3, 4, 5, 11, 12, 13, 14, 15, 28, 29] (by decide +kernel) (by decide +kernel)
set_option maxRecDepth 20000 in
theorem gX1_insert_X1_liftFinger : GoodIn wsX1_insert wsX1_liftFinger := goodIn_r _ [20, 21, 22, 23, 24, 25, 26, 27] (by decide +kernel) (by decide +kernel)
set_option maxRecDepth 20000 in
theorem gX1_insert_X1_liftFinger_v : GoodIn wsX1_insert (wsV RX1 60 RX1 yX1_liftFinger wsX1_liftFinger) := goodIn_app (goodIn_r _ [16, 17, 18, 19] (by decide +kernel) (by decide +kernel)) gX1_insert_X1_liftFinger
theorem inX1_insert_X0 : ∀ w ∈ wsX00, w ∈ wsX1_insert := by decide +kernel
theorem inX1_point_X1 : ∀ w ∈ wsX10, w ∈ wsX1_point := by decide +kernel
set_option maxRecDepth 20000 in
theorem gX1_point_X0_hasPlaceOrEnd : GoodIn wsX1_point wsX0_hasPlaceOrEnd := goodIn_r _ [5, 6, 14, 15] (by decide +kernel) (by decide +kernel)
theorem inX1_change_X1 : ∀ w ∈ wsX10, w ∈ wsX1_change := by decide +kernel
set_option maxRecDepth 20000 in
theorem gX1_change_X0_swap : GoodIn wsX1_change wsX0_swap := goodIn_r _ [19, 6, 7, 8, 4, 9, 10, 11, 12, 33, 34] (by decide +kernel) (by decide +kernel)
set_option maxRecDepth 20000 in
theorem gX1_change_X0_take : GoodIn wsX1_change wsX0_take := goodIn_r _ [5, 6, 7, 8, 4, 9, 10, 11, 12, 13, 14, 15, 16, 33, 34] (by decide +kernel) (by decide +kernel)
set_option maxRecDepth 20000 in
theorem gX1_change_X1_liftFinger : GoodIn wsX1_change wsX1_liftFinger := goodIn_r _ [25, 26, 27, 28, 29, 30, 31, 32] (by decide +kernel) (by decide +kernel)
set_option maxRecDepth 20000 in
theorem gX1_change_X1_liftFinger_v : GoodIn wsX1_change (wsV RX1 60 RX1 yX1_liftFinger wsX1_liftFinger) := goodIn_app (goodIn_r _ [21, 22, 23, 24] (by decide +kernel) (by decide +kernel)) gX1_change_X1_liftFinger
theorem inX1_chain_X1 : ∀ w ∈ wsX10, w ∈ wsX1_chain := by decide +kernel
set_option maxRecDepth 20000 in
theorem gX1_chain_X0_at : GoodIn wsX1_chain wsX0_at := goodIn_r _ [5, 6, 7, 8, 4, 9, 10, 11, 12, 18, 19] (by decide +kernel) (by decide +kernel)
theorem inX1_find_X1 : ∀ w ∈ wsX10, w ∈ wsX1_find := by decide +kernel
set_option maxRecDepth 20000 in
theorem gX1_find_X0_firstPlace : GoodIn wsX1_find wsX0_firstPlace := goodIn_r _ [10, 6, 7, 16, 17] (by decide +kernel) (by decide +kernel)
set_option maxRecDepth 20000 in
theorem gX1_find_X0_lastPlace : GoodIn wsX1_find wsX0_lastPlace := goodIn_r _ [5, 6, 7, 16, 17] (by decide +kernel) (by decide +kernel)
theorem inX1_finger_X1 : ∀ w ∈ wsX10, w ∈ wsX1_finger := by decide +kernel
theorem inX1_pass_X1 : ∀ w ∈ wsX10, w ∈ wsX1_pass := by decide +kernel
set_option maxRecDepth 20000 in
theorem gX1_pass_X0_hasPlace : GoodIn wsX1_pass wsX0_hasPlace := goodIn_r _ [7, 8, 21, 22] (by decide +kernel) (by decide +kernel)
set_option maxRecDepth 20000 in
theorem gX1_pass_X0_at : GoodIn wsX1_pass wsX0_at := goodIn_r _ [12, 13, 4, 5, 6, 7, 8, 14, 15, 21, 22] (by decide +kernel) (by decide +kernel)
theorem inX1_changeMet_X1 : ∀ w ∈ wsX10, w ∈ wsX1_changeMet := by decide +kernel
set_option maxRecDepth 20000 in
theorem gX1_changeMet_X0_swap : GoodIn wsX1_changeMet wsX0_swap := goodIn_r _ [6, 7, 8, 9, 5, 10, 11, 12, 13, 20, 21] (by decide +kernel) (by decide +kernel)
theorem inX1_changeMet_X0 : ∀ w ∈ wsX00, w ∈ wsX1_changeMet := by decide +kernel
theorem inX1_takeMet_X1 : ∀ w ∈ wsX10, w ∈ wsX1_takeMet := by decide +kernel
set_option maxRecDepth 20000 in
theorem gX1_takeMet_X0_take : GoodIn wsX1_takeMet wsX0_take := goodIn_r _ [6, 7, 8, 9, 5, 10, 11, 12, 13, 14, 15, 16, 17, 25, 26] (by decide +kernel) (by decide +kernel)
theorem inX1_takeMet_X0 : ∀ w ∈ wsX00, w ∈ wsX1_takeMet := by decide +kernel
theorem inX1_putAtFinger_X1 : ∀ w ∈ wsX10, w ∈ wsX1_putAtFinger := by decide +kernel
set_option maxRecDepth 20000 in
theorem gX1_putAtFinger_X0_put : GoodIn wsX1_putAtFinger wsX0_put := goodIn_r _ [6, 7, 8, 9, 10, 5, 11, 12, 13, 14, 15, 16, 23, 24] (by decide +kernel) (by decide +kernel)
theorem inX1_putAtFinger_X0 : ∀ w ∈ wsX00, w ∈ wsX1_putAtFinger := by decide +kernel
theorem inX1_touch_X1 : ∀ w ∈ wsX10, w ∈ wsX1_touch := by decide +kernel
set_option maxRecDepth 20000 in
theorem gX1_touch_X1_changeMet : GoodIn wsX1_touch wsX1_changeMet := goodIn_r _ [6, 7, 8, 9, 10, 11, 12, 13, 14, 15, 16, 17, 18, 19, 20, 43, 44, 45, 46, 47, 48, 49] (by decide +kernel) (by decide +kernel)
set_option maxRecDepth 20000 in
theorem gX1_touch_X1_changeMet_v : GoodIn wsX1_touch (wsV RX1 84 RX1 yX1_changeMet wsX1_changeMet) := goodIn_app (goodIn_r _ [2, 3, 4, 5] (by decide +kernel) (by decide +kernel)) gX1_touch_X1_changeMet
set_option maxRecDepth 20000 in
theorem gX1_touch_X1_takeMet : GoodIn wsX1_touch wsX1_takeMet := goodIn_r _ [24, 7, 8, 25, 26, 11, 27, 13, 14, 15, 16, 17, 18, 19, 28, 29, 30, 31, 20, 1, 43, 44, 45, 46, 47, 48, 49] (by decide +kernel) (by decide +kernel)
set_option maxRecDepth 20000 in
theorem gX1_touch_X1_takeMet_v : GoodIn wsX1_touch (wsV RX1 87 RX1 yX1_takeMet wsX1_takeMet) := goodIn_app (goodIn_r _ [21, 22, 23, 5] (by decide +kernel) (by decide +kernel)) gX1_touch_X1_takeMet
set_option maxRecDepth 20000 in
theorem gX1_touch_X1_putAtFinger : GoodIn wsX1_touch wsX1_putAtFinger := goodIn_r _ [35, 7, 1, 36, 37, 11, 38, 17, 39, 40, 41, 42, 19, 28, 29, 30, 31, 8, 43, 44, 45, 46, 47, 48, 49] (by decide +kernel) (by decide +kernel)
set_option maxRecDepth 20000 in
theorem gX1_touch_X1_putAtFinger_v : GoodIn wsX1_touch (wsV RX1 90 RX1 yX1_putAtFinger wsX1_putAtFinger) := goodIn_app (goodIn_r _ [32, 33, 34, 5] (by decide +kernel) (by decide +kernel)) gX1_touch_X1_putAtFinger
theorem inX1_empty_X1 : ∀ w ∈ wsX10, w ∈ wsX1_empty := by decide +kernel
theorem inX1_empty_X0 : ∀ w ∈ wsX00, w ∈ wsX1_empty := by decide +kernel
set_option maxRecDepth 20000 in
theorem gX1_empty_X0_takeAll : GoodIn wsX1_empty wsX0_takeAll := goodIn_r _ [6, 7, 8, 9, 10, 5, 11, 12, 13, 14, 15, 16, 17, 18, 19, 20, 26, 27] (by decide +kernel) (by decide +kernel)
theorem inX1_hand_X1 : ∀ w ∈ wsX10, w ∈ wsX1_hand := by decide +kernel
theorem inX1_hand_X0 : ∀ w ∈ wsX00, w ∈ wsX1_hand := by decide +kernel
set_option maxRecDepth 20000 in
theorem gX1_hand_X0_takeAll : GoodIn wsX1_hand wsX0_takeAll := goodIn_r _ [6, 7, 8, 9, 10, 5, 11, 12, 13, 14, 15, 16, 17, 18, 19, 20, 33, 34] (by decide +kernel) (by decide +kernel)
set_option maxRecDepth 20000 in
theorem gX1_hand_X1_liftFinger : GoodIn wsX1_hand wsX1_liftFinger := goodIn_r _ [25, 26, 27, 28, 29, 30, 31, 32] (by decide +kernel) (by decide +kernel)
set_option maxRecDepth 20000 in
theorem gX1_hand_X1_liftFinger_v : GoodIn wsX1_hand (wsV RX1 60 RX1 yX1_liftFinger wsX1_liftFinger) := goodIn_app (goodIn_r _ [21, 22, 23, 24] (by decide +kernel) (by decide +kernel)) gX1_hand_X1_liftFinger
set_option maxHeartbeats 4000000 in
set_option maxRecDepth 100000 in
theorem c_Hall_init (l : Launch) (dC : Nat → ClassId) (dI : Nat → Nat → Nat) (sz : Nat) (x0 : Nat) : Met l yX1_init wsX1_init ({ frames := 2, cells := 6, slots := 6306, locals := 32 }) (va_Pc [.ref x0] (fun U => U.heap.size = sz ∧ va_P (dC, dI) vwCl [(x0, .inr (1, [.null, .null, .null, .int (nI 0), .int (nI 0)]))] U.heap ∧ va_K (dC, dI) vwCl [] U ∧ va_D (fun _ => True) [(x0, .inr (1, [.null, .null, .null, .int (nI 0), .int (nI 0)]))] ∧ qNest U)) (va_Qv (fun (u : ClassId × Nat × Nat × Nat × Nat × Nat × Nat) => True) (at_HI dC dI (va_A [(x0, .inr (1, [.null, .null, .null, .int (nI 0), .int (nI 0)]))] sz) x0) (va_A [(x0, .inr (1, [.null, .null, .null, .int (nI 0), .int (nI 0)]))] sz)) 6 6306 (va_A [(x0, .inr (1, [.null, .null, .null, .int (nI 0), .int (nI 0)]))] sz) := by
  refine Met.ofW (cc := cX1_init) (maxL := 1) (ret := none) (by decide +kernel) rfl ?_
  intro p e s m args below meth c s₁ B hml hv
  obtain ⟨rfl, hsz, hP, hK, hD0, hN⟩ := hv
  have hx := B.exec
  have hb := B.bytes
  have hr := B.returns
  have hts := atoms_spec (ws := wsX1_init) B.pre
  have hown : s.vm.findClass RX1 = some m.cls := findClass_of_methodNamed B.named
  have hlocks := B.notSynchronized
  have hin : meth.name = "<init>" := (name_of_methodNamed B.named B.method).1
  subst hsz
  have hD := hD0.self (sz := s.heap.size)
  generalize hAe : va_A [(x0, .inr (1, [.null, .null, .null, .int (nI 0), .int (nI 0)]))] s.heap.size = A at hD ⊢
  have hA : ∀ q : Nat, s.heap.size ≤ q → A q := fun q h => by rw [← hAe]; exact Or.inr h
  have hS : va_S A s.heap s.heap [] := va_S.rf
  have hl := lv_entry ([.ref x0]) (n := 1) (Nat.le_of_ble_eq_true rfl)
  rw [lg_entry_eq]
  generalize (lg_sl ([.ref x0]) ++ List.replicate (1 - (lg_sl ([.ref x0])).length) Slot.unset).toArray = ls at hl ⊢
  have hl : lv_has ls 1 [(0, .ref x0)] := hl
  refine lv_aload_n hx hb dX1_init_0 rfl (lv_at hl 0 rfl) ?_
  refine W.objInit hx hb hown (hts (.methodLink RX1 1 objectInit) (List.mem_of_getElem? (i := 1) (by decide +kernel))) (hts (.instanceMethod objectInit) (List.mem_of_getElem? (i := 2) (by decide +kernel))) (hts (.code objectInit ⟨#[0xb1]⟩ 1 none) (List.mem_of_getElem? (i := 3) (by decide +kernel))) rfl (by rw [hml]; exact hl.1) rfl dX1_init_1 (Nat.le_of_ble_eq_true rfl) (Nat.le_of_ble_eq_true rfl) ?_
  refine W.eq (g2 := F0 m 4 ls []) rfl ?_
  refine lv_aload_n hx hb dX1_init_4 rfl (lv_at hl 0 rfl) ?_
  refine va_new (ci := 0) (fs := [.null, .int (nI 0)]) (C := RX0) (T := TX0) (N := 2) hx hb hts inX1_init_X0 tyX0 tyX0_ok hown (hts (.classLink RX1 7 RX0) (List.mem_of_getElem? (i := 4) (by decide +kernel))) (hts (.instantiable RX0 2) (List.mem_of_getElem? (i := 5) (by decide +kernel))) (hts (.initialized RX0) (List.mem_of_getElem? (i := 6) (by decide +kernel))) hK hP hD hS hA rfl (fun j hj => by rcases (show j = 0 ∨ j = 1 by omega) with rfl | rfl <;> rfl) (by decide +kernel) (by decide +kernel) dX1_init_5 (fun a1 H hP hD hS => ?_)
  have hP : va_P (dC, dI) vwCl [(x0, .inr (1, [.null, .null, .null, .int (nI 0), .int (nI 0)])), (a1, .inr (0, [.null, .int (nI 0)]))] H := hP
  have hD : va_D A [(x0, .inr (1, [.null, .null, .null, .int (nI 0), .int (nI 0)])), (a1, .inr (0, [.null, .int (nI 0)]))] := hD
  refine lv_dup hx hb dX1_init_8 rfl ?_
  have hPc := hP.sub (ws' := [(a1, .inr (0, [.null, .int (nI 0)]))]) [1] rfl
  have hKc := hK.sub (tys' := []) [] rfl
  have hDc := hD.sub (ws' := [(a1, .inr (0, [.null, .int (nI 0)]))]) [1] (by decide) rfl
  have hFc := va_free (wc := [(a1, .inr (0, [.null, .int (nI 0)]))]) hD hS hA [1] rfl
  refine va_callv (va_runIN (As := []) (rest := [.ref a1, .ref x0]) ⟨hx, hb, hml, hown, hts⟩ (c_Row_init l dC dI H.size a1) ⟨va_cnB 0 hts gX1_init_X0_init rfl rfl rfl (qN_init hN) (hts (.initialized RX0) (List.mem_of_getElem? (i := 6) (by decide +kernel))) (by decide +kernel) ⟨Nat.le_of_ble_eq_true rfl, Nat.le_of_ble_eq_true rfl⟩, rfl, (hts (.instanceMethod yX0_init) (List.mem_of_getElem? (i := 7) (by decide +kernel)))⟩ ⟨q_blW, fun U hU hW => ⟨rfl, by rw [hU], by rw [hU]; exact hPc, va_K.moved hW.alike hKc, hDc.weaken (fun _ _ _ _ => trivial)⟩⟩ rfl rfl hl.1 rfl (lv_room (Nat.le_of_ble_eq_true rfl)) dX1_init_9 ⟨by decide +kernel, by decide +kernel⟩) hS (fun q _ h => hFc q h) hFc (fun u_1 t_1 H1 locs ht hvm hw hB hz1 hk1 hS => ?_)
  obtain ⟨cA_1, q_1⟩ := u_1
  obtain ⟨hP1, hK1, hD1⟩ := hB
  rw [ht] at hP1
  have hK := (hK.sub (tys' := []) [] rfl).app (va_K.moved hvm.symm hK1)
  have hK : va_K (dC, dI) vwCl [(cA_1, .int)] s := hK
  obtain ⟨hP, hD⟩ := q_join (wr := [(x0, .inr (1, [.null, .null, .null, .int (nI 0), .int (nI 0)]))]) (w1 := [(a1, .inr (0, [.ref q_1, .int (nI 0)])), (q_1, .inl (cA_1, 2100, .inl (fun _ => 0)))]) (wz := [(x0, .inr (1, [.null, .null, .null, .int (nI 0), .int (nI 0)])), (a1, .inr (0, [.ref q_1, .int (nI 0)])), (q_1, .inl (cA_1, 2100, .inl (fun _ => 0)))]) hP hD [1] [0] [0, 1, 2] rfl rfl (by decide) (by decide) hk1 hFc hP1 hD1 rfl rfl (by decide)
  generalize H1 = H at hP hS ⊢
  refine va_putF (D := (dC, dI)) (ci := 1) (v := .ref a1) (ty := .object "QueueHall$Row") (C := RX1) (T := TX1) (N := 5) hx hb hts inX1_init_X1 tyX1 tyX1_ok nmX1 hown hK hP hD hS 0 rfl rfl 0 (by decide) (hts (.fieldLink RX1 10 "QueueHall" "hallRow" "LQueueHall$Row;") (List.mem_of_getElem? (i := 13) (by decide +kernel))) (fun _ h9 => h9) rfl hin rfl (by decide +kernel) rfl rfl (Nat.le_of_ble_eq_true rfl) dX1_init_12 (fun H locs hP hD hS => ?_)
  have hP : va_P (dC, dI) vwCl [(x0, .inr (1, [.ref a1, .null, .null, .int (nI 0), .int (nI 0)])), (a1, .inr (0, [.ref q_1, .int (nI 0)])), (q_1, .inl (cA_1, 2100, .inl (fun _ => 0)))] H := hP
  have hD : va_D A [(x0, .inr (1, [.ref a1, .null, .null, .int (nI 0), .int (nI 0)])), (a1, .inr (0, [.ref q_1, .int (nI 0)])), (q_1, .inl (cA_1, 2100, .inl (fun _ => 0)))] := hD
  refine lv_aload_n hx hb dX1_init_15 rfl (lv_at hl 0 rfl) ?_
  refine va_new (ci := 0) (fs := [.null, .int (nI 0)]) (C := RX0) (T := TX0) (N := 2) hx hb hts inX1_init_X0 tyX0 tyX0_ok hown (hts (.classLink RX1 7 RX0) (List.mem_of_getElem? (i := 4) (by decide +kernel))) (hts (.instantiable RX0 2) (List.mem_of_getElem? (i := 5) (by decide +kernel))) (hts (.initialized RX0) (List.mem_of_getElem? (i := 6) (by decide +kernel))) hK hP hD hS hA rfl (fun j hj => by rcases (show j = 0 ∨ j = 1 by omega) with rfl | rfl <;> rfl) (by decide +kernel) (by decide +kernel) dX1_init_16 (fun a2 H hP hD hS => ?_)
  have hP : va_P (dC, dI) vwCl [(x0, .inr (1, [.ref a1, .null, .null, .int (nI 0), .int (nI 0)])), (a1, .inr (0, [.ref q_1, .int (nI 0)])), (q_1, .inl (cA_1, 2100, .inl (fun _ => 0))), (a2, .inr (0, [.null, .int (nI 0)]))] H := hP
  have hD : va_D A [(x0, .inr (1, [.ref a1, .null, .null, .int (nI 0), .int (nI 0)])), (a1, .inr (0, [.ref q_1, .int (nI 0)])), (q_1, .inl (cA_1, 2100, .inl (fun _ => 0))), (a2, .inr (0, [.null, .int (nI 0)]))] := hD
  refine lv_dup hx hb dX1_init_19 rfl ?_
  have hPc := hP.sub (ws' := [(a2, .inr (0, [.null, .int (nI 0)]))]) [3] rfl
  have hKc := hK.sub (tys' := []) [] rfl
  have hDc := hD.sub (ws' := [(a2, .inr (0, [.null, .int (nI 0)]))]) [3] (by decide) rfl
  have hFc := va_free (wc := [(a2, .inr (0, [.null, .int (nI 0)]))]) hD hS hA [3] rfl
  refine va_callv (va_runIN (As := []) (rest := [.ref a2, .ref x0]) ⟨hx, hb, hml, hown, hts⟩ (c_Row_init l dC dI H.size a2) ⟨va_cnB 0 hts gX1_init_X0_init rfl rfl rfl (qN_init hN) (hts (.initialized RX0) (List.mem_of_getElem? (i := 6) (by decide +kernel))) (by decide +kernel) ⟨Nat.le_of_ble_eq_true rfl, Nat.le_of_ble_eq_true rfl⟩, rfl, (hts (.instanceMethod yX0_init) (List.mem_of_getElem? (i := 7) (by decide +kernel)))⟩ ⟨q_blW, fun U hU hW => ⟨rfl, by rw [hU], by rw [hU]; exact hPc, va_K.moved hW.alike hKc, hDc.weaken (fun _ _ _ _ => trivial)⟩⟩ rfl rfl hl.1 rfl (lv_room (Nat.le_of_ble_eq_true rfl)) dX1_init_20 ⟨by decide +kernel, by decide +kernel⟩) hS (fun q _ h => hFc q h) hFc (fun u_2 t_2 H1 locs ht hvm hw hB hz1 hk1 hS => ?_)
  obtain ⟨cA_2, q_2⟩ := u_2
  obtain ⟨hP1, hK1, hD1⟩ := hB
  rw [ht] at hP1
  obtain rfl : cA_1 = cA_2 := Option.some.inj ((va_nm_int (hK.2 0 _ rfl).2).symm.trans (va_nm_int ((va_K.moved hvm.symm hK1).2 0 _ rfl).2))
  obtain ⟨hP, hD⟩ := q_join (wr := [(x0, .inr (1, [.ref a1, .null, .null, .int (nI 0), .int (nI 0)])), (a1, .inr (0, [.ref q_1, .int (nI 0)])), (q_1, .inl (cA_1, 2100, .inl (fun _ => 0)))]) (w1 := [(a2, .inr (0, [.ref q_2, .int (nI 0)])), (q_2, .inl (cA_1, 2100, .inl (fun _ => 0)))]) (wz := [(x0, .inr (1, [.ref a1, .null, .null, .int (nI 0), .int (nI 0)])), (a1, .inr (0, [.ref q_1, .int (nI 0)])), (q_1, .inl (cA_1, 2100, .inl (fun _ => 0))), (a2, .inr (0, [.ref q_2, .int (nI 0)])), (q_2, .inl (cA_1, 2100, .inl (fun _ => 0)))]) hP hD [3] [0, 1, 2] [0, 1, 2, 3, 4] rfl rfl (by decide) (by decide) hk1 hFc hP1 hD1 rfl rfl (by decide)
  generalize H1 = H at hP hS ⊢
  refine va_putF (D := (dC, dI)) (ci := 1) (v := .ref a2) (ty := .object "QueueHall$Row") (C := RX1) (T := TX1) (N := 5) hx hb hts inX1_init_X1 tyX1 tyX1_ok nmX1 hown hK hP hD hS 0 rfl rfl 1 (by decide) (hts (.fieldLink RX1 16 "QueueHall" "ringRow" "LQueueHall$Row;") (List.mem_of_getElem? (i := 14) (by decide +kernel))) (fun _ h9 => h9) rfl hin rfl (by decide +kernel) rfl rfl (Nat.le_of_ble_eq_true rfl) dX1_init_23 (fun H locs hP hD hS => ?_)
  have hP : va_P (dC, dI) vwCl [(x0, .inr (1, [.ref a1, .ref a2, .null, .int (nI 0), .int (nI 0)])), (a1, .inr (0, [.ref q_1, .int (nI 0)])), (q_1, .inl (cA_1, 2100, .inl (fun _ => 0))), (a2, .inr (0, [.ref q_2, .int (nI 0)])), (q_2, .inl (cA_1, 2100, .inl (fun _ => 0)))] H := hP
  have hD : va_D A [(x0, .inr (1, [.ref a1, .ref a2, .null, .int (nI 0), .int (nI 0)])), (a1, .inr (0, [.ref q_1, .int (nI 0)])), (q_1, .inl (cA_1, 2100, .inl (fun _ => 0))), (a2, .inr (0, [.ref q_2, .int (nI 0)])), (q_2, .inl (cA_1, 2100, .inl (fun _ => 0)))] := hD
  refine lv_aload_n hx hb dX1_init_26 rfl (lv_at hl 0 rfl) ?_
  refine va_new (ci := 0) (fs := [.null, .int (nI 0)]) (C := RX0) (T := TX0) (N := 2) hx hb hts inX1_init_X0 tyX0 tyX0_ok hown (hts (.classLink RX1 7 RX0) (List.mem_of_getElem? (i := 4) (by decide +kernel))) (hts (.instantiable RX0 2) (List.mem_of_getElem? (i := 5) (by decide +kernel))) (hts (.initialized RX0) (List.mem_of_getElem? (i := 6) (by decide +kernel))) hK hP hD hS hA rfl (fun j hj => by rcases (show j = 0 ∨ j = 1 by omega) with rfl | rfl <;> rfl) (by decide +kernel) (by decide +kernel) dX1_init_27 (fun a3 H hP hD hS => ?_)
  have hP : va_P (dC, dI) vwCl [(x0, .inr (1, [.ref a1, .ref a2, .null, .int (nI 0), .int (nI 0)])), (a1, .inr (0, [.ref q_1, .int (nI 0)])), (q_1, .inl (cA_1, 2100, .inl (fun _ => 0))), (a2, .inr (0, [.ref q_2, .int (nI 0)])), (q_2, .inl (cA_1, 2100, .inl (fun _ => 0))), (a3, .inr (0, [.null, .int (nI 0)]))] H := hP
  have hD : va_D A [(x0, .inr (1, [.ref a1, .ref a2, .null, .int (nI 0), .int (nI 0)])), (a1, .inr (0, [.ref q_1, .int (nI 0)])), (q_1, .inl (cA_1, 2100, .inl (fun _ => 0))), (a2, .inr (0, [.ref q_2, .int (nI 0)])), (q_2, .inl (cA_1, 2100, .inl (fun _ => 0))), (a3, .inr (0, [.null, .int (nI 0)]))] := hD
  refine lv_dup hx hb dX1_init_30 rfl ?_
  have hPc := hP.sub (ws' := [(a3, .inr (0, [.null, .int (nI 0)]))]) [5] rfl
  have hKc := hK.sub (tys' := []) [] rfl
  have hDc := hD.sub (ws' := [(a3, .inr (0, [.null, .int (nI 0)]))]) [5] (by decide) rfl
  have hFc := va_free (wc := [(a3, .inr (0, [.null, .int (nI 0)]))]) hD hS hA [5] rfl
  refine va_callv (va_runIN (As := []) (rest := [.ref a3, .ref x0]) ⟨hx, hb, hml, hown, hts⟩ (c_Row_init l dC dI H.size a3) ⟨va_cnB 0 hts gX1_init_X0_init rfl rfl rfl (qN_init hN) (hts (.initialized RX0) (List.mem_of_getElem? (i := 6) (by decide +kernel))) (by decide +kernel) ⟨Nat.le_of_ble_eq_true rfl, Nat.le_of_ble_eq_true rfl⟩, rfl, (hts (.instanceMethod yX0_init) (List.mem_of_getElem? (i := 7) (by decide +kernel)))⟩ ⟨q_blW, fun U hU hW => ⟨rfl, by rw [hU], by rw [hU]; exact hPc, va_K.moved hW.alike hKc, hDc.weaken (fun _ _ _ _ => trivial)⟩⟩ rfl rfl hl.1 rfl (lv_room (Nat.le_of_ble_eq_true rfl)) dX1_init_31 ⟨by decide +kernel, by decide +kernel⟩) hS (fun q _ h => hFc q h) hFc (fun u_3 t_3 H1 locs ht hvm hw hB hz1 hk1 hS => ?_)
  obtain ⟨cA_3, q_3⟩ := u_3
  obtain ⟨hP1, hK1, hD1⟩ := hB
  rw [ht] at hP1
  obtain rfl : cA_1 = cA_3 := Option.some.inj ((va_nm_int (hK.2 0 _ rfl).2).symm.trans (va_nm_int ((va_K.moved hvm.symm hK1).2 0 _ rfl).2))
  obtain ⟨hP, hD⟩ := q_join (wr := [(x0, .inr (1, [.ref a1, .ref a2, .null, .int (nI 0), .int (nI 0)])), (a1, .inr (0, [.ref q_1, .int (nI 0)])), (q_1, .inl (cA_1, 2100, .inl (fun _ => 0))), (a2, .inr (0, [.ref q_2, .int (nI 0)])), (q_2, .inl (cA_1, 2100, .inl (fun _ => 0)))]) (w1 := [(a3, .inr (0, [.ref q_3, .int (nI 0)])), (q_3, .inl (cA_1, 2100, .inl (fun _ => 0)))]) (wz := [(x0, .inr (1, [.ref a1, .ref a2, .null, .int (nI 0), .int (nI 0)])), (a1, .inr (0, [.ref q_1, .int (nI 0)])), (q_1, .inl (cA_1, 2100, .inl (fun _ => 0))), (a2, .inr (0, [.ref q_2, .int (nI 0)])), (q_2, .inl (cA_1, 2100, .inl (fun _ => 0))), (a3, .inr (0, [.ref q_3, .int (nI 0)])), (q_3, .inl (cA_1, 2100, .inl (fun _ => 0)))]) hP hD [5] [0, 1, 2, 3, 4] [0, 1, 2, 3, 4, 5, 6] rfl rfl (by decide) (by decide) hk1 hFc hP1 hD1 rfl rfl (by decide)
  generalize H1 = H at hP hS ⊢
  refine va_putF (D := (dC, dI)) (ci := 1) (v := .ref a3) (ty := .object "QueueHall$Row") (C := RX1) (T := TX1) (N := 5) hx hb hts inX1_init_X1 tyX1 tyX1_ok nmX1 hown hK hP hD hS 0 rfl rfl 2 (by decide) (hts (.fieldLink RX1 19 "QueueHall" "chainRow" "LQueueHall$Row;") (List.mem_of_getElem? (i := 15) (by decide +kernel))) (fun _ h9 => h9) rfl hin rfl (by decide +kernel) rfl rfl (Nat.le_of_ble_eq_true rfl) dX1_init_34 (fun H locs hP hD hS => ?_)
  have hP : va_P (dC, dI) vwCl [(x0, .inr (1, [.ref a1, .ref a2, .ref a3, .int (nI 0), .int (nI 0)])), (a1, .inr (0, [.ref q_1, .int (nI 0)])), (q_1, .inl (cA_1, 2100, .inl (fun _ => 0))), (a2, .inr (0, [.ref q_2, .int (nI 0)])), (q_2, .inl (cA_1, 2100, .inl (fun _ => 0))), (a3, .inr (0, [.ref q_3, .int (nI 0)])), (q_3, .inl (cA_1, 2100, .inl (fun _ => 0)))] H := hP
  have hD : va_D A [(x0, .inr (1, [.ref a1, .ref a2, .ref a3, .int (nI 0), .int (nI 0)])), (a1, .inr (0, [.ref q_1, .int (nI 0)])), (q_1, .inl (cA_1, 2100, .inl (fun _ => 0))), (a2, .inr (0, [.ref q_2, .int (nI 0)])), (q_2, .inl (cA_1, 2100, .inl (fun _ => 0))), (a3, .inr (0, [.ref q_3, .int (nI 0)])), (q_3, .inl (cA_1, 2100, .inl (fun _ => 0)))] := hD
  refine lv_aload_n hx hb dX1_init_37 rfl (lv_at hl 0 rfl) ?_
  refine lv_iconst (v := -1) hx hb dX1_init_38 (by decide) ?_
  refine va_put (D := (dC, dI)) (ci := 1) (v := .int (-1)) (ty := .int) (C := RX1) (T := TX1) (N := 5) hx hb hts inX1_init_X1 tyX1 tyX1_ok nmX1 hown hK hP hD hS 0 rfl rfl 3 (by decide) (hts (.fieldLink RX1 22 "QueueHall" "fingerPlace" "I") (List.mem_of_getElem? (i := 16) (by decide +kernel))) (fun _ h9 => h9) rfl (by decide +kernel) rfl rfl (Nat.le_of_ble_eq_true rfl) dX1_init_39 (fun H locs hP hD hS => ?_)
  have hP : va_P (dC, dI) vwCl [(x0, .inr (1, [.ref a1, .ref a2, .ref a3, .int (-1), .int (nI 0)])), (a1, .inr (0, [.ref q_1, .int (nI 0)])), (q_1, .inl (cA_1, 2100, .inl (fun _ => 0))), (a2, .inr (0, [.ref q_2, .int (nI 0)])), (q_2, .inl (cA_1, 2100, .inl (fun _ => 0))), (a3, .inr (0, [.ref q_3, .int (nI 0)])), (q_3, .inl (cA_1, 2100, .inl (fun _ => 0)))] H := hP
  have hD : va_D A [(x0, .inr (1, [.ref a1, .ref a2, .ref a3, .int (-1), .int (nI 0)])), (a1, .inr (0, [.ref q_1, .int (nI 0)])), (q_1, .inl (cA_1, 2100, .inl (fun _ => 0))), (a2, .inr (0, [.ref q_2, .int (nI 0)])), (q_2, .inl (cA_1, 2100, .inl (fun _ => 0))), (a3, .inr (0, [.ref q_3, .int (nI 0)])), (q_3, .inl (cA_1, 2100, .inl (fun _ => 0)))] := hD
  refine lv_aload_n hx hb dX1_init_42 rfl (lv_at hl 0 rfl) ?_
  refine lv_iconst (v := -1) hx hb dX1_init_43 (by decide) ?_
  refine va_put (D := (dC, dI)) (ci := 1) (v := .int (-1)) (ty := .int) (C := RX1) (T := TX1) (N := 5) hx hb hts inX1_init_X1 tyX1 tyX1_ok nmX1 hown hK hP hD hS 0 rfl rfl 4 (by decide) (hts (.fieldLink RX1 26 "QueueHall" "metPlace" "I") (List.mem_of_getElem? (i := 17) (by decide +kernel))) (fun _ h9 => h9) rfl (by decide +kernel) rfl rfl (Nat.le_of_ble_eq_true rfl) dX1_init_44 (fun H locs hP hD hS => ?_)
  have hP : va_P (dC, dI) vwCl [(x0, .inr (1, [.ref a1, .ref a2, .ref a3, .int (-1), .int (-1)])), (a1, .inr (0, [.ref q_1, .int (nI 0)])), (q_1, .inl (cA_1, 2100, .inl (fun _ => 0))), (a2, .inr (0, [.ref q_2, .int (nI 0)])), (q_2, .inl (cA_1, 2100, .inl (fun _ => 0))), (a3, .inr (0, [.ref q_3, .int (nI 0)])), (q_3, .inl (cA_1, 2100, .inl (fun _ => 0)))] H := hP
  have hD : va_D A [(x0, .inr (1, [.ref a1, .ref a2, .ref a3, .int (-1), .int (-1)])), (a1, .inr (0, [.ref q_1, .int (nI 0)])), (q_1, .inl (cA_1, 2100, .inl (fun _ => 0))), (a2, .inr (0, [.ref q_2, .int (nI 0)])), (q_2, .inl (cA_1, 2100, .inl (fun _ => 0))), (a3, .inr (0, [.ref q_3, .int (nI 0)])), (q_3, .inl (cA_1, 2100, .inl (fun _ => 0)))] := hD
  refine W.widen (k := 6) (n := 6306) (by omega) (by omega) ?_
  exact W.vret hx hb hr (fun t ht hW => ⟨⟨(cA_1, a1, q_1, a2, q_2, a3, q_3), rfl, trivial, by rw [ht]; exact hP, va_K.moved hW.alike hK, hD⟩, hS.F ht⟩) hS.2.2 dX1_init_47

set_option maxHeartbeats 4000000 in
set_option maxRecDepth 100000 in
theorem c_Hall_liftFinger (l : Launch) (dC : Nat → ClassId) (dI : Nat → Nat → Nat) (sz : Nat) (x0 a1 a2 a3 : Nat) (fi me : Int32) : Met l yX1_liftFinger wsX1_liftFinger ({ frames := 0, cells := 0, slots := 0, locals := 0 }) (va_Pc [.ref x0] (fun U => U.heap.size = sz ∧ va_P (dC, dI) vwCl [(x0, .inr (1, [.ref a1, .ref a2, .ref a3, .int fi, .int me]))] U.heap ∧ va_K (dC, dI) vwCl [] U ∧ va_D (fun _ => True) [(x0, .inr (1, [.ref a1, .ref a2, .ref a3, .int fi, .int me]))])) (va_Qv (fun (u : Unit) => u = ()) (at_X dC dI (va_A [(x0, .inr (1, [.ref a1, .ref a2, .ref a3, .int fi, .int me]))] sz) x0 a1 a2 a3) (va_A [(x0, .inr (1, [.ref a1, .ref a2, .ref a3, .int fi, .int me]))] sz)) 0 0 (va_A [(x0, .inr (1, [.ref a1, .ref a2, .ref a3, .int fi, .int me]))] sz) := by
  refine Met.ofW (cc := cX1_liftFinger) (maxL := 1) (ret := none) (by decide +kernel) rfl ?_
  intro p e s m args below meth c s₁ B hml hv
  obtain ⟨rfl, hsz, hP, hK, hD0⟩ := hv
  have hx := B.exec
  have hb := B.bytes
  have hr := B.returns
  have hts := atoms_spec (ws := wsX1_liftFinger) B.pre
  have hown : s.vm.findClass RX1 = some m.cls := findClass_of_methodNamed B.named
  have hlocks := B.notSynchronized
  subst hsz
  have hD := hD0.self (sz := s.heap.size)
  generalize hAe : va_A [(x0, .inr (1, [.ref a1, .ref a2, .ref a3, .int fi, .int me]))] s.heap.size = A at hD ⊢
  have hA : ∀ q : Nat, s.heap.size ≤ q → A q := fun q h => by rw [← hAe]; exact Or.inr h
  have hS : va_S A s.heap s.heap [] := va_S.rf
  have hl := lv_entry ([.ref x0]) (n := 1) (Nat.le_of_ble_eq_true rfl)
  rw [lg_entry_eq]
  generalize (lg_sl ([.ref x0]) ++ List.replicate (1 - (lg_sl ([.ref x0])).length) Slot.unset).toArray = ls at hl ⊢
  have hl : lv_has ls 1 [(0, .ref x0)] := hl
  refine lv_aload_n hx hb dX1_liftFinger_0 rfl (lv_at hl 0 rfl) ?_
  refine lv_iconst (v := -1) hx hb dX1_liftFinger_1 (by decide) ?_
  refine va_put (D := (dC, dI)) (ci := 1) (v := .int (-1)) (ty := .int) (C := RX1) (T := TX1) (N := 5) hx hb hts inX1_liftFinger_X1 tyX1 tyX1_ok nmX1 hown hK hP hD hS 0 rfl rfl 3 (by decide) (hts (.fieldLink RX1 22 "QueueHall" "fingerPlace" "I") (List.mem_of_getElem? (i := 1) (by decide +kernel))) (fun _ h9 => h9) rfl (by decide +kernel) rfl rfl (Nat.le_of_ble_eq_true rfl) dX1_liftFinger_2 (fun H locs hP hD hS => ?_)
  have hP : va_P (dC, dI) vwCl [(x0, .inr (1, [.ref a1, .ref a2, .ref a3, .int (-1), .int me]))] H := hP
  have hD : va_D A [(x0, .inr (1, [.ref a1, .ref a2, .ref a3, .int (-1), .int me]))] := hD
  refine lv_aload_n hx hb dX1_liftFinger_5 rfl (lv_at hl 0 rfl) ?_
  refine lv_iconst (v := -1) hx hb dX1_liftFinger_6 (by decide) ?_
  refine va_put (D := (dC, dI)) (ci := 1) (v := .int (-1)) (ty := .int) (C := RX1) (T := TX1) (N := 5) hx hb hts inX1_liftFinger_X1 tyX1 tyX1_ok nmX1 hown hK hP hD hS 0 rfl rfl 4 (by decide) (hts (.fieldLink RX1 26 "QueueHall" "metPlace" "I") (List.mem_of_getElem? (i := 2) (by decide +kernel))) (fun _ h9 => h9) rfl (by decide +kernel) rfl rfl (Nat.le_of_ble_eq_true rfl) dX1_liftFinger_7 (fun H locs hP hD hS => ?_)
  have hP : va_P (dC, dI) vwCl [(x0, .inr (1, [.ref a1, .ref a2, .ref a3, .int (-1), .int (-1)]))] H := hP
  have hD : va_D A [(x0, .inr (1, [.ref a1, .ref a2, .ref a3, .int (-1), .int (-1)]))] := hD
  exact W.vret hx hb hr (fun t ht hW => ⟨⟨(), rfl, rfl, by rw [ht]; exact hP, va_K.moved hW.alike hK, hD⟩, hS.F ht⟩) hS.2.2 dX1_liftFinger_10

set_option maxHeartbeats 4000000 in
set_option maxRecDepth 100000 in
theorem c_Hall_rowOf (l : Launch) (dC : Nat → ClassId) (dI : Nat → Nat → Nat) (x0 a1 a2 a3 : Nat) (fi me p0 : Int32) : Met l yX1_rowOf wsX1_rowOf ({ frames := 0, cells := 0, slots := 0, locals := 0 }) (va_Pc [.ref x0, .int p0] (fun U => va_P (dC, dI) vwCl [(x0, .inr (1, [.ref a1, .ref a2, .ref a3, .int fi, .int me]))] U.heap ∧ va_K (dC, dI) vwCl [] U)) (va_Sq (fun r => r = qRow a1 a2 a3 p0)) 0 0 (fun _ => False) := by
  refine Met.ofW (cc := cX1_rowOf) (maxL := 2) (ret := (some (.object "QueueHall$Row"))) (by decide +kernel) rfl ?_
  intro p e s m args below meth c s₁ B hml hv
  obtain ⟨rfl, hP, hK⟩ := hv
  have hx := B.exec
  have hb := B.bytes
  have hr := B.returns
  have hts := atoms_spec (ws := wsX1_rowOf) B.pre
  have hown : s.vm.findClass RX1 = some m.cls := findClass_of_methodNamed B.named
  have hlocks := B.notSynchronized
  have hl := lv_entry ([.ref x0, .int p0]) (n := 2) (Nat.le_of_ble_eq_true rfl)
  rw [lg_entry_eq]
  generalize (lg_sl ([.ref x0, .int p0]) ++ List.replicate (2 - (lg_sl ([.ref x0, .int p0])).length) Slot.unset).toArray = ls at hl ⊢
  have hl : lv_has ls 2 [(0, .ref x0), (1, .int p0)] := hl
  rcases q_w p0 with rfl | rfl | rfl | ⟨w0, w1, w2⟩
  · refine lv_iload_n hx hb dX1_rowOf_0 rfl (lv_at hl 1 rfl) ?_
    refine lv_tableIn (off := 27) (tgt := 28) hx hb dX1_rowOf_1 (by decide) (by decide) (by decide +kernel) (by decide) ?_
    refine lv_aload_n hx hb dX1_rowOf_28 rfl (lv_at hl 0 rfl) ?_
    refine va_get (D := (dC, dI)) (ci := 1) (v := .ref a1) (C := RX1) (T := TX1) (N := 5) hx hb hts inX1_rowOf_X1 hown hK hP 0 rfl rfl 0 (by decide) (hts (.fieldLink RX1 10 "QueueHall" "hallRow" "LQueueHall$Row;") (List.mem_of_getElem? (i := 1) (by decide +kernel))) (fun _ h9 => h9) rfl dX1_rowOf_29 ?_
    exact W.aret (v := va_rf (some a1)) hx hb hr (Or.inl ⟨_, rfl⟩) (va_rf_or _) (fun t ht hW => ⟨some a1, rfl, qRow_0.symm, ht⟩) (fun q h => by cases h) dX1_rowOf_32
  · refine lv_iload_n hx hb dX1_rowOf_0 rfl (lv_at hl 1 rfl) ?_
    refine lv_tableIn (off := 32) (tgt := 33) hx hb dX1_rowOf_1 (by decide) (by decide) (by decide +kernel) (by decide) ?_
    refine lv_aload_n hx hb dX1_rowOf_33 rfl (lv_at hl 0 rfl) ?_
    refine va_get (D := (dC, dI)) (ci := 1) (v := .ref a2) (C := RX1) (T := TX1) (N := 5) hx hb hts inX1_rowOf_X1 hown hK hP 0 rfl rfl 1 (by decide) (hts (.fieldLink RX1 16 "QueueHall" "ringRow" "LQueueHall$Row;") (List.mem_of_getElem? (i := 2) (by decide +kernel))) (fun _ h9 => h9) rfl dX1_rowOf_34 ?_
    exact W.aret (v := va_rf (some a2)) hx hb hr (Or.inl ⟨_, rfl⟩) (va_rf_or _) (fun t ht hW => ⟨some a2, rfl, qRow_1.symm, ht⟩) (fun q h => by cases h) dX1_rowOf_37
  · refine lv_iload_n hx hb dX1_rowOf_0 rfl (lv_at hl 1 rfl) ?_
    refine lv_tableIn (off := 37) (tgt := 38) hx hb dX1_rowOf_1 (by decide) (by decide) (by decide +kernel) (by decide) ?_
    refine lv_aload_n hx hb dX1_rowOf_38 rfl (lv_at hl 0 rfl) ?_
    refine va_get (D := (dC, dI)) (ci := 1) (v := .ref a3) (C := RX1) (T := TX1) (N := 5) hx hb hts inX1_rowOf_X1 hown hK hP 0 rfl rfl 2 (by decide) (hts (.fieldLink RX1 19 "QueueHall" "chainRow" "LQueueHall$Row;") (List.mem_of_getElem? (i := 3) (by decide +kernel))) (fun _ h9 => h9) rfl dX1_rowOf_39 ?_
    exact W.aret (v := va_rf (some a3)) hx hb hr (Or.inl ⟨_, rfl⟩) (va_rf_or _) (fun t ht hW => ⟨some a3, rfl, qRow_2.symm, ht⟩) (fun q h => by cases h) dX1_rowOf_42
  · refine lv_iload_n hx hb dX1_rowOf_0 rfl (lv_at hl 1 rfl) ?_
    refine lv_tableOut (tgt := 43) hx hb dX1_rowOf_1 (q_wo w0 w1 w2) (by decide) ?_
    refine lv_null hx hb dX1_rowOf_43 ?_
    exact W.aret (v := va_rf (none)) hx hb hr (Or.inl ⟨_, rfl⟩) (va_rf_or _) (fun t ht hW => ⟨none, rfl, (qRow_n w0 w1 w2).symm, ht⟩) (fun q h => by cases h) dX1_rowOf_44

set_option maxHeartbeats 4000000 in
set_option maxRecDepth 100000 in
theorem c_Hall_enter (l : Launch) (dC : Nat → ClassId) (dI : Nat → Nat → Nat) (sz : Nat) (x0 a1 b1 a2 b2 a3 b3 nh nr nk : Nat) (cA : ClassId) (fh gh fr gr fk gk : Nat → Int32) (fi me : Int32) (p0 : Int32) (hn : nh + nr + nk < 2000) (ha1 : qAg nh fh gh) (ha2 : qAg nr fr gr) (ha3 : qAg nk fk gk) (hF : qFok fi me nk) : Met l yX1_enter wsX1_enter ({ frames := 2, cells := 0, slots := 0, locals := 58 }) (va_Pc [.ref x0, .int p0] (fun U => U.heap.size = sz ∧ va_P (dC, dI) vwCl [(x0, .inr (1, [.ref a1, .ref a2, .ref a3, .int fi, .int me])), (a1, .inr (0, [.ref b1, .int (nI nh)])), (b1, .inl (cA, 2100, .inl fh)), (a2, .inr (0, [.ref b2, .int (nI nr)])), (b2, .inl (cA, 2100, .inl fr)), (a3, .inr (0, [.ref b3, .int (nI nk)])), (b3, .inl (cA, 2100, .inl fk))] U.heap ∧ va_K (dC, dI) vwCl [(cA, .int)] U ∧ va_D (fun _ => True) [(x0, .inr (1, [.ref a1, .ref a2, .ref a3, .int fi, .int me])), (a1, .inr (0, [.ref b1, .int (nI nh)])), (b1, .inl (cA, 2100, .inl fh)), (a2, .inr (0, [.ref b2, .int (nI nr)])), (b2, .inl (cA, 2100, .inl fr)), (a3, .inr (0, [.ref b3, .int (nI nk)])), (b3, .inl (cA, 2100, .inl fk))] ∧ qNest U)) (va_Qi (fun (r : Int32) (u : qS) => (r, u) = qEnter p0 ((gh, nh), (gr, nr), (gk, nk), fi, me)) (at_H dC dI (va_A [(x0, .inr (1, [.ref a1, .ref a2, .ref a3, .int fi, .int me])), (a1, .inr (0, [.ref b1, .int (nI nh)])), (b1, .inl (cA, 2100, .inl fh)), (a2, .inr (0, [.ref b2, .int (nI nr)])), (b2, .inl (cA, 2100, .inl fr)), (a3, .inr (0, [.ref b3, .int (nI nk)])), (b3, .inl (cA, 2100, .inl fk))] sz) x0 a1 b1 a2 b2 a3 b3 cA) (va_A [(x0, .inr (1, [.ref a1, .ref a2, .ref a3, .int fi, .int me])), (a1, .inr (0, [.ref b1, .int (nI nh)])), (b1, .inl (cA, 2100, .inl fh)), (a2, .inr (0, [.ref b2, .int (nI nr)])), (b2, .inl (cA, 2100, .inl fr)), (a3, .inr (0, [.ref b3, .int (nI nk)])), (b3, .inl (cA, 2100, .inl fk))] sz)) 0 0 (va_A [(x0, .inr (1, [.ref a1, .ref a2, .ref a3, .int fi, .int me])), (a1, .inr (0, [.ref b1, .int (nI nh)])), (b1, .inl (cA, 2100, .inl fh)), (a2, .inr (0, [.ref b2, .int (nI nr)])), (b2, .inl (cA, 2100, .inl fr)), (a3, .inr (0, [.ref b3, .int (nI nk)])), (b3, .inl (cA, 2100, .inl fk))] sz) := by
  refine Met.ofW (cc := cX1_enter) (maxL := 2) (ret := (some .int)) (by decide +kernel) rfl ?_
  intro p e s m args below meth c s₁ B hml hv
  obtain ⟨rfl, hsz, hP, hK, hD0, hN⟩ := hv
  have hx := B.exec
  have hb := B.bytes
  have hr := B.returns
  have hts := atoms_spec (ws := wsX1_enter) B.pre
  have hown : s.vm.findClass RX1 = some m.cls := findClass_of_methodNamed B.named
  have hlocks := B.notSynchronized
  subst hsz
  have hD := hD0.self (sz := s.heap.size)
  generalize hAe : va_A [(x0, .inr (1, [.ref a1, .ref a2, .ref a3, .int fi, .int me])), (a1, .inr (0, [.ref b1, .int (nI nh)])), (b1, .inl (cA, 2100, .inl fh)), (a2, .inr (0, [.ref b2, .int (nI nr)])), (b2, .inl (cA, 2100, .inl fr)), (a3, .inr (0, [.ref b3, .int (nI nk)])), (b3, .inl (cA, 2100, .inl fk))] s.heap.size = A at hD ⊢
  have hA : ∀ q : Nat, s.heap.size ≤ q → A q := fun q h => by rw [← hAe]; exact Or.inr h
  have hS : va_S A s.heap s.heap [] := va_S.rf
  have hl := lv_entry ([.ref x0, .int p0]) (n := 2) (Nat.le_of_ble_eq_true rfl)
  rw [lg_entry_eq]
  generalize (lg_sl ([.ref x0, .int p0]) ++ List.replicate (2 - (lg_sl ([.ref x0, .int p0])).length) Slot.unset).toArray = ls at hl ⊢
  have hl : lv_has ls 2 [(0, .ref x0), (1, .int p0)] := hl
  have hcb := qCb_le (g := gh) (v := p0) nh
  refine lv_aload_n hx hb dX1_enter_0 rfl (lv_at hl 0 rfl) ?_
  refine va_get (D := (dC, dI)) (ci := 1) (v := .ref a1) (C := RX1) (T := TX1) (N := 5) hx hb hts inX1_enter_X1 hown hK hP 0 rfl rfl 0 (by decide) (hts (.fieldLink RX1 10 "QueueHall" "hallRow" "LQueueHall$Row;") (List.mem_of_getElem? (i := 1) (by decide +kernel))) (fun _ h9 => h9) rfl dX1_enter_1 ?_
  refine lv_aload_n hx hb dX1_enter_4 rfl (lv_at hl 0 rfl) ?_
  refine va_get (D := (dC, dI)) (ci := 1) (v := .ref a1) (C := RX1) (T := TX1) (N := 5) hx hb hts inX1_enter_X1 hown hK hP 0 rfl rfl 0 (by decide) (hts (.fieldLink RX1 10 "QueueHall" "hallRow" "LQueueHall$Row;") (List.mem_of_getElem? (i := 1) (by decide +kernel))) (fun _ h9 => h9) rfl dX1_enter_5 ?_
  refine lv_iload_n hx hb dX1_enter_8 rfl (lv_at hl 1 rfl) ?_
  have hPc := hP.sub (ws' := [(a1, .inr (0, [.ref b1, .int (nI nh)])), (b1, .inl (cA, 2100, .inl fh))]) [1, 2] rfl
  have hKc := hK.sub (tys' := [(cA, .int)]) [0] rfl
  refine q_csiE (va_runVN (As := [.int p0]) (rest := [.ref a1]) ⟨hx, hb, hml, hown, hts⟩ (c_Row_countBelow l dC dI a1 b1 nh cA fh gh p0 (by omega) ha1) ⟨va_cnB 1 hts gX1_enter_X0_countBelow rfl rfl rfl (qN_countBelow hN) (hts (.initialized RX0) (List.mem_of_getElem? (i := 4) (by decide +kernel))) (by decide +kernel) ⟨Nat.le_of_ble_eq_true rfl, Nat.le_of_ble_eq_true rfl⟩, (hts (.instanceMethod yX0_countBelow) (List.mem_of_getElem? (i := 2) (by decide +kernel))), (hts (.selects RX0 yX0_countBelow yX0_countBelow) (List.mem_of_getElem? (i := 3) (by decide +kernel)))⟩ ⟨q_blR, va_recv hKc hPc (ci := 0) (q0 := 0) rfl rfl, fun U hU hW => ⟨rfl, by rw [hU]; exact hPc, va_K.moved hW.alike hKc⟩⟩ rfl rfl hl.1 rfl (lv_room (Nat.le_of_ble_eq_true rfl)) dX1_enter_9 ⟨Nat.le_of_ble_eq_true rfl, Nat.le_of_ble_eq_true rfl⟩) ?_
  refine lv_iload_n hx hb dX1_enter_12 rfl (lv_at hl 1 rfl) ?_
  have hPc := hP.sub (ws' := [(a1, .inr (0, [.ref b1, .int (nI nh)])), (b1, .inl (cA, 2100, .inl fh))]) [1, 2] rfl
  have hKc := hK.sub (tys' := [(cA, .int)]) [0] rfl
  have hDc := hD.sub (ws' := [(a1, .inr (0, [.ref b1, .int (nI nh)])), (b1, .inl (cA, 2100, .inl fh))]) [1, 2] (by decide) rfl
  have hFc := va_free (wc := [(a1, .inr (0, [.ref b1, .int (nI nh)])), (b1, .inl (cA, 2100, .inl fh))]) hD hS hA [1, 2] rfl
  refine va_calli (va_runVN (As := [.int (nI (qCb gh p0 nh)), .int p0]) (rest := []) ⟨hx, hb, hml, hown, hts⟩ (c_Row_put l dC dI s.heap.size a1 b1 nh cA fh gh (nI (qCb gh p0 nh)) p0 (by omega) ha1) ⟨va_cnB 2 hts gX1_enter_X0_put rfl rfl rfl (qN_put hN) (hts (.initialized RX0) (List.mem_of_getElem? (i := 4) (by decide +kernel))) (by decide +kernel) ⟨Nat.le_of_ble_eq_true rfl, Nat.le_of_ble_eq_true rfl⟩, (hts (.instanceMethod yX0_put) (List.mem_of_getElem? (i := 8) (by decide +kernel))), (hts (.selects RX0 yX0_put yX0_put) (List.mem_of_getElem? (i := 9) (by decide +kernel)))⟩ ⟨q_blW, va_recv hKc hPc (ci := 0) (q0 := 0) rfl rfl, fun U hU hW => ⟨rfl, by rw [hU], by rw [hU]; exact hPc, va_K.moved hW.alike hKc, hDc.weaken (fun _ _ _ _ => trivial)⟩⟩ rfl rfl hl.1 rfl (lv_room (Nat.le_of_ble_eq_true rfl)) dX1_enter_13 ⟨Nat.le_of_ble_eq_true rfl, Nat.le_of_ble_eq_true rfl⟩) hS (fun q _ h => hFc q h) hFc (fun r_1 u_1 t_1 H1 locs ht hvm hw hB hz1 hk1 hS => ?_)
  have hw := hw.trans (qPut_i (k := qCb gh p0 nh) (by omega) (by omega))
  obtain ⟨rfl, rfl⟩ := Prod.mk.inj hw
  obtain ⟨f_1, hg_1, hP1, hK1, hD1⟩ := hB
  rw [ht] at hP1
  obtain ⟨hP, hD⟩ := q_join (wr := [(x0, .inr (1, [.ref a1, .ref a2, .ref a3, .int fi, .int me])), (a2, .inr (0, [.ref b2, .int (nI nr)])), (b2, .inl (cA, 2100, .inl fr)), (a3, .inr (0, [.ref b3, .int (nI nk)])), (b3, .inl (cA, 2100, .inl fk))]) (w1 := [(a1, .inr (0, [.ref b1, .int (nI (nh + 1))])), (b1, .inl (cA, 2100, .inl f_1))]) (wz := [(x0, .inr (1, [.ref a1, .ref a2, .ref a3, .int fi, .int me])), (a1, .inr (0, [.ref b1, .int (nI (nh + 1))])), (b1, .inl (cA, 2100, .inl f_1)), (a2, .inr (0, [.ref b2, .int (nI nr)])), (b2, .inl (cA, 2100, .inl fr)), (a3, .inr (0, [.ref b3, .int (nI nk)])), (b3, .inl (cA, 2100, .inl fk))]) hP hD [1, 2] [0, 3, 4, 5, 6] [0, 5, 6, 1, 2, 3, 4] rfl rfl (by decide) (by decide) hk1 hFc hP1 hD1 rfl rfl (by decide)
  generalize H1 = H at hP hS ⊢
  refine lv_if_eq (tgt := 29) hx hb dX1_enter_16 (by decide) (fun c_0 => absurd c_0 (show ¬ (1 : Int32) = (0 : Int32) from (by decide))) (fun c_2 => ?_)
  refine lv_aload_n hx hb dX1_enter_19 rfl (lv_at hl 0 rfl) ?_
  refine va_get (D := (dC, dI)) (ci := 1) (v := .ref a1) (C := RX1) (T := TX1) (N := 5) hx hb hts inX1_enter_X1 hown hK hP 0 rfl rfl 0 (by decide) (hts (.fieldLink RX1 10 "QueueHall" "hallRow" "LQueueHall$Row;") (List.mem_of_getElem? (i := 1) (by decide +kernel))) (fun _ h9 => h9) rfl dX1_enter_20 ?_
  refine va_getN (D := (dC, dI)) (ci := 0) (v := .int (nI (nh + 1))) (C := RX0) (T := TX0) (N := 2) hx hb hts inX1_enter_X0 hown hK hP 1 rfl rfl 1 (by decide) (qN_count hN) (fun _ h9 => h9) rfl dX1_enter_23 ?_
  refine lv_goto (tgt := 31) hx hb dX1_enter_26 (by decide) ?_
  exact W.iret (v := nI (nh + 1)) hx hb hr (fun t ht hW => ⟨⟨nI (nh + 1), ((qIns gh (qCb gh p0 nh) p0, nh + 1), (gr, nr), (gk, nk), fi, me), rfl, rfl, f_1, fr, fk, hg_1, ha2, ha3, by rw [ht]; exact hP, va_K.moved hW.alike hK, hD⟩, hS.F ht⟩) hS.2.2 dX1_enter_31

set_option maxHeartbeats 4000000 in
set_option maxRecDepth 100000 in
theorem c_Hall_call (l : Launch) (dC : Nat → ClassId) (dI : Nat → Nat → Nat) (sz : Nat) (x0 a1 b1 a2 b2 a3 b3 nh nr nk : Nat) (cA : ClassId) (fh gh fr gr fk gk : Nat → Int32) (fi me : Int32) (p0 : Int32) (hn : nh + nr + nk < 2000) (ha1 : qAg nh fh gh) (ha2 : qAg nr fr gr) (ha3 : qAg nk fk gk) (hF : qFok fi me nk) : Met l yX1_call wsX1_call ({ frames := 2, cells := 0, slots := 0, locals := 58 }) (va_Pc [.ref x0, .int p0] (fun U => U.heap.size = sz ∧ va_P (dC, dI) vwCl [(x0, .inr (1, [.ref a1, .ref a2, .ref a3, .int fi, .int me])), (a1, .inr (0, [.ref b1, .int (nI nh)])), (b1, .inl (cA, 2100, .inl fh)), (a2, .inr (0, [.ref b2, .int (nI nr)])), (b2, .inl (cA, 2100, .inl fr)), (a3, .inr (0, [.ref b3, .int (nI nk)])), (b3, .inl (cA, 2100, .inl fk))] U.heap ∧ va_K (dC, dI) vwCl [(cA, .int)] U ∧ va_D (fun _ => True) [(x0, .inr (1, [.ref a1, .ref a2, .ref a3, .int fi, .int me])), (a1, .inr (0, [.ref b1, .int (nI nh)])), (b1, .inl (cA, 2100, .inl fh)), (a2, .inr (0, [.ref b2, .int (nI nr)])), (b2, .inl (cA, 2100, .inl fr)), (a3, .inr (0, [.ref b3, .int (nI nk)])), (b3, .inl (cA, 2100, .inl fk))] ∧ qNest U)) (va_Ql (fun (r : Int64) (u : qS) => (r, u) = qCall p0 ((gh, nh), (gr, nr), (gk, nk), fi, me)) (at_H dC dI (va_A [(x0, .inr (1, [.ref a1, .ref a2, .ref a3, .int fi, .int me])), (a1, .inr (0, [.ref b1, .int (nI nh)])), (b1, .inl (cA, 2100, .inl fh)), (a2, .inr (0, [.ref b2, .int (nI nr)])), (b2, .inl (cA, 2100, .inl fr)), (a3, .inr (0, [.ref b3, .int (nI nk)])), (b3, .inl (cA, 2100, .inl fk))] sz) x0 a1 b1 a2 b2 a3 b3 cA) (va_A [(x0, .inr (1, [.ref a1, .ref a2, .ref a3, .int fi, .int me])), (a1, .inr (0, [.ref b1, .int (nI nh)])), (b1, .inl (cA, 2100, .inl fh)), (a2, .inr (0, [.ref b2, .int (nI nr)])), (b2, .inl (cA, 2100, .inl fr)), (a3, .inr (0, [.ref b3, .int (nI nk)])), (b3, .inl (cA, 2100, .inl fk))] sz)) 0 0 (va_A [(x0, .inr (1, [.ref a1, .ref a2, .ref a3, .int fi, .int me])), (a1, .inr (0, [.ref b1, .int (nI nh)])), (b1, .inl (cA, 2100, .inl fh)), (a2, .inr (0, [.ref b2, .int (nI nr)])), (b2, .inl (cA, 2100, .inl fr)), (a3, .inr (0, [.ref b3, .int (nI nk)])), (b3, .inl (cA, 2100, .inl fk))] sz) := by
  refine Met.ofW (cc := cX1_call) (maxL := 2) (ret := (some .long)) (by decide +kernel) rfl ?_
  intro p e s m args below meth c s₁ B hml hv
  obtain ⟨rfl, hsz, hP, hK, hD0, hN⟩ := hv
  have hx := B.exec
  have hb := B.bytes
  have hr := B.returns
  have hts := atoms_spec (ws := wsX1_call) B.pre
  have hown : s.vm.findClass RX1 = some m.cls := findClass_of_methodNamed B.named
  have hlocks := B.notSynchronized
  subst hsz
  have hD := hD0.self (sz := s.heap.size)
  generalize hAe : va_A [(x0, .inr (1, [.ref a1, .ref a2, .ref a3, .int fi, .int me])), (a1, .inr (0, [.ref b1, .int (nI nh)])), (b1, .inl (cA, 2100, .inl fh)), (a2, .inr (0, [.ref b2, .int (nI nr)])), (b2, .inl (cA, 2100, .inl fr)), (a3, .inr (0, [.ref b3, .int (nI nk)])), (b3, .inl (cA, 2100, .inl fk))] s.heap.size = A at hD ⊢
  have hA : ∀ q : Nat, s.heap.size ≤ q → A q := fun q h => by rw [← hAe]; exact Or.inr h
  have hS : va_S A s.heap s.heap [] := va_S.rf
  have hl := lv_entry ([.ref x0, .int p0]) (n := 2) (Nat.le_of_ble_eq_true rfl)
  rw [lg_entry_eq]
  generalize (lg_sl ([.ref x0, .int p0]) ++ List.replicate (2 - (lg_sl ([.ref x0, .int p0])).length) Slot.unset).toArray = ls at hl ⊢
  have hl : lv_has ls 2 [(0, .ref x0), (1, .int p0)] := hl
  by_cases hz : p0 = 0 <;> rcases Nat.eq_zero_or_pos nh with hn0 | hn0
  · have h00 := q_hp00 hn0
    refine lv_iload_n hx hb dX1_call_0 rfl (lv_at hl 1 rfl) ?_
    refine lv_if_eq (tgt := 15) hx hb dX1_call_1 (by decide) (fun c_1 => ?_) (fun c_0 => absurd (show p0 = (0 : Int32) from hz) c_0)
    refine lv_aload_n hx hb dX1_call_15 rfl (lv_at hl 0 rfl) ?_
    refine va_get (D := (dC, dI)) (ci := 1) (v := .ref a1) (C := RX1) (T := TX1) (N := 5) hx hb hts inX1_call_X1 hown hK hP 0 rfl rfl 0 (by decide) (hts (.fieldLink RX1 10 "QueueHall" "hallRow" "LQueueHall$Row;") (List.mem_of_getElem? (i := 1) (by decide +kernel))) (fun _ h9 => h9) rfl dX1_call_16 ?_
    refine lv_iconst (v := nI 0) hx hb dX1_call_19 (by decide) ?_
    have hPc := hP.sub (ws' := [(a1, .inr (0, [.ref b1, .int (nI nh)])), (b1, .inl (cA, 2100, .inl fh))]) [1, 2] rfl
    have hKc := hK.sub (tys' := [(cA, .int)]) [0] rfl
    have hDc := hD.sub (ws' := [(a1, .inr (0, [.ref b1, .int (nI nh)])), (b1, .inl (cA, 2100, .inl fh))]) [1, 2] (by decide) rfl
    have hFc := va_free (wc := [(a1, .inr (0, [.ref b1, .int (nI nh)])), (b1, .inl (cA, 2100, .inl fh))]) hD hS hA [1, 2] rfl
    refine va_calll (va_runVN (As := [.int (nI 0)]) (rest := []) ⟨hx, hb, hml, hown, hts⟩ (c_Row_take l dC dI s.heap.size a1 b1 nh cA fh gh (nI 0) (by omega) ha1) ⟨va_cnB 1 hts gX1_call_X0_take rfl rfl rfl (qN_take hN) (hts (.initialized RX0) (List.mem_of_getElem? (i := 4) (by decide +kernel))) (by decide +kernel) ⟨Nat.le_of_ble_eq_true rfl, Nat.le_of_ble_eq_true rfl⟩, (hts (.instanceMethod yX0_take) (List.mem_of_getElem? (i := 13) (by decide +kernel))), (hts (.selects RX0 yX0_take yX0_take) (List.mem_of_getElem? (i := 14) (by decide +kernel)))⟩ ⟨q_blW, va_recv hKc hPc (ci := 0) (q0 := 0) rfl rfl, fun U hU hW => ⟨rfl, by rw [hU], by rw [hU]; exact hPc, va_K.moved hW.alike hKc, hDc.weaken (fun _ _ _ _ => trivial)⟩⟩ rfl rfl hl.1 rfl (lv_room (Nat.le_of_ble_eq_true rfl)) dX1_call_20 ⟨Nat.le_of_ble_eq_true rfl, Nat.le_of_ble_eq_true rfl⟩) hS (fun q _ h => hFc q h) hFc (fun r_2 u_2 t_2 H1 locs ht hvm hw hB hz1 hk1 hS => ?_)
    have hw := hw.trans (qTake_o h00)
    obtain ⟨rfl, rfl⟩ := Prod.mk.inj hw
    obtain ⟨f_2, hg_2, hP1, hK1, hD1⟩ := hB
    rw [ht] at hP1
    obtain ⟨hP, hD⟩ := q_join (wr := [(x0, .inr (1, [.ref a1, .ref a2, .ref a3, .int fi, .int me])), (a2, .inr (0, [.ref b2, .int (nI nr)])), (b2, .inl (cA, 2100, .inl fr)), (a3, .inr (0, [.ref b3, .int (nI nk)])), (b3, .inl (cA, 2100, .inl fk))]) (w1 := [(a1, .inr (0, [.ref b1, .int (nI nh)])), (b1, .inl (cA, 2100, .inl f_2))]) (wz := [(x0, .inr (1, [.ref a1, .ref a2, .ref a3, .int fi, .int me])), (a1, .inr (0, [.ref b1, .int (nI nh)])), (b1, .inl (cA, 2100, .inl f_2)), (a2, .inr (0, [.ref b2, .int (nI nr)])), (b2, .inl (cA, 2100, .inl fr)), (a3, .inr (0, [.ref b3, .int (nI nk)])), (b3, .inl (cA, 2100, .inl fk))]) hP hD [1, 2] [0, 3, 4, 5, 6] [0, 5, 6, 1, 2, 3, 4] rfl rfl (by decide) (by decide) hk1 hFc hP1 hD1 rfl rfl (by decide)
    generalize H1 = H at hP hS ⊢
    exact W.lret (v := qNo) hx hb hr (fun t ht hW => ⟨⟨qNo, ((gh, nh), (gr, nr), (gk, nk), fi, me), rfl, (by simp only [qCall, if_pos hz, qTake_o h00]), f_2, fr, fk, hg_2, ha2, ha3, by rw [ht]; exact hP, va_K.moved hW.alike hK, hD⟩, hS.F ht⟩) hS.2.2 dX1_call_23
  · refine lv_iload_n hx hb dX1_call_0 rfl (lv_at hl 1 rfl) ?_
    refine lv_if_eq (tgt := 15) hx hb dX1_call_1 (by decide) (fun c_3 => ?_) (fun c_0 => absurd (show p0 = (0 : Int32) from hz) c_0)
    refine lv_aload_n hx hb dX1_call_15 rfl (lv_at hl 0 rfl) ?_
    refine va_get (D := (dC, dI)) (ci := 1) (v := .ref a1) (C := RX1) (T := TX1) (N := 5) hx hb hts inX1_call_X1 hown hK hP 0 rfl rfl 0 (by decide) (hts (.fieldLink RX1 10 "QueueHall" "hallRow" "LQueueHall$Row;") (List.mem_of_getElem? (i := 1) (by decide +kernel))) (fun _ h9 => h9) rfl dX1_call_16 ?_
    refine lv_iconst (v := nI 0) hx hb dX1_call_19 (by decide) ?_
    have hPc := hP.sub (ws' := [(a1, .inr (0, [.ref b1, .int (nI nh)])), (b1, .inl (cA, 2100, .inl fh))]) [1, 2] rfl
    have hKc := hK.sub (tys' := [(cA, .int)]) [0] rfl
    have hDc := hD.sub (ws' := [(a1, .inr (0, [.ref b1, .int (nI nh)])), (b1, .inl (cA, 2100, .inl fh))]) [1, 2] (by decide) rfl
    have hFc := va_free (wc := [(a1, .inr (0, [.ref b1, .int (nI nh)])), (b1, .inl (cA, 2100, .inl fh))]) hD hS hA [1, 2] rfl
    refine va_calll (va_runVN (As := [.int (nI 0)]) (rest := []) ⟨hx, hb, hml, hown, hts⟩ (c_Row_take l dC dI s.heap.size a1 b1 nh cA fh gh (nI 0) (by omega) ha1) ⟨va_cnB 1 hts gX1_call_X0_take rfl rfl rfl (qN_take hN) (hts (.initialized RX0) (List.mem_of_getElem? (i := 4) (by decide +kernel))) (by decide +kernel) ⟨Nat.le_of_ble_eq_true rfl, Nat.le_of_ble_eq_true rfl⟩, (hts (.instanceMethod yX0_take) (List.mem_of_getElem? (i := 13) (by decide +kernel))), (hts (.selects RX0 yX0_take yX0_take) (List.mem_of_getElem? (i := 14) (by decide +kernel)))⟩ ⟨q_blW, va_recv hKc hPc (ci := 0) (q0 := 0) rfl rfl, fun U hU hW => ⟨rfl, by rw [hU], by rw [hU]; exact hPc, va_K.moved hW.alike hKc, hDc.weaken (fun _ _ _ _ => trivial)⟩⟩ rfl rfl hl.1 rfl (lv_room (Nat.le_of_ble_eq_true rfl)) dX1_call_20 ⟨Nat.le_of_ble_eq_true rfl, Nat.le_of_ble_eq_true rfl⟩) hS (fun q _ h => hFc q h) hFc (fun r_4 u_4 t_4 H1 locs ht hvm hw hB hz1 hk1 hS => ?_)
    have hw := hw.trans (qTake_i (k := 0) (by omega) (by omega))
    obtain ⟨rfl, rfl⟩ := Prod.mk.inj hw
    obtain ⟨f_4, hg_4, hP1, hK1, hD1⟩ := hB
    rw [ht] at hP1
    obtain ⟨hP, hD⟩ := q_join (wr := [(x0, .inr (1, [.ref a1, .ref a2, .ref a3, .int fi, .int me])), (a2, .inr (0, [.ref b2, .int (nI nr)])), (b2, .inl (cA, 2100, .inl fr)), (a3, .inr (0, [.ref b3, .int (nI nk)])), (b3, .inl (cA, 2100, .inl fk))]) (w1 := [(a1, .inr (0, [.ref b1, .int (nI (nh - 1))])), (b1, .inl (cA, 2100, .inl f_4))]) (wz := [(x0, .inr (1, [.ref a1, .ref a2, .ref a3, .int fi, .int me])), (a1, .inr (0, [.ref b1, .int (nI (nh - 1))])), (b1, .inl (cA, 2100, .inl f_4)), (a2, .inr (0, [.ref b2, .int (nI nr)])), (b2, .inl (cA, 2100, .inl fr)), (a3, .inr (0, [.ref b3, .int (nI nk)])), (b3, .inl (cA, 2100, .inl fk))]) hP hD [1, 2] [0, 3, 4, 5, 6] [0, 5, 6, 1, 2, 3, 4] rfl rfl (by decide) (by decide) hk1 hFc hP1 hD1 rfl rfl (by decide)
    generalize H1 = H at hP hS ⊢
    exact W.lret (v := (gh 0).toInt64) hx hb hr (fun t ht hW => ⟨⟨(gh 0).toInt64, ((qDel gh 0, nh - 1), (gr, nr), (gk, nk), fi, me), rfl, (by simp only [qCall, if_pos hz, qTake_i (show 0 < nh by omega) (show nh < 2 ^ 31 by omega)]), f_4, fr, fk, hg_4, ha2, ha3, by rw [ht]; exact hP, va_K.moved hW.alike hK, hD⟩, hS.F ht⟩) hS.2.2 dX1_call_23
  · have h00 := q_hp00 hn0
    refine lv_iload_n hx hb dX1_call_0 rfl (lv_at hl 1 rfl) ?_
    refine lv_if_eq (tgt := 15) hx hb dX1_call_1 (by decide) (fun c_0 => absurd c_0 (show ¬ p0 = (0 : Int32) from hz)) (fun c_5 => ?_)
    refine lv_aload_n hx hb dX1_call_4 rfl (lv_at hl 0 rfl) ?_
    refine va_get (D := (dC, dI)) (ci := 1) (v := .ref a1) (C := RX1) (T := TX1) (N := 5) hx hb hts inX1_call_X1 hown hK hP 0 rfl rfl 0 (by decide) (hts (.fieldLink RX1 10 "QueueHall" "hallRow" "LQueueHall$Row;") (List.mem_of_getElem? (i := 1) (by decide +kernel))) (fun _ h9 => h9) rfl dX1_call_5 ?_
    refine lv_iconst (v := nI 0) hx hb dX1_call_8 (by decide) ?_
    have hPc := hP.sub (ws' := [(a1, .inr (0, [.ref b1, .int (nI nh)])), (b1, .inl (cA, 2100, .inl fh))]) [1, 2] rfl
    have hKc := hK.sub (tys' := [(cA, .int)]) [0] rfl
    refine q_cslE (va_runVN (As := [.int (nI 0)]) (rest := []) ⟨hx, hb, hml, hown, hts⟩ (c_Row_at l dC dI a1 b1 nh cA fh gh (nI 0) (by omega) ha1) ⟨va_cnB 1 hts gX1_call_X0_at rfl rfl rfl (qN_at hN) (hts (.initialized RX0) (List.mem_of_getElem? (i := 4) (by decide +kernel))) (by decide +kernel) ⟨Nat.le_of_ble_eq_true rfl, Nat.le_of_ble_eq_true rfl⟩, (hts (.instanceMethod yX0_at) (List.mem_of_getElem? (i := 2) (by decide +kernel))), (hts (.selects RX0 yX0_at yX0_at) (List.mem_of_getElem? (i := 3) (by decide +kernel)))⟩ ⟨q_blR, va_recv hKc hPc (ci := 0) (q0 := 0) rfl rfl, fun U hU hW => ⟨rfl, by rw [hU]; exact hPc, va_K.moved hW.alike hKc⟩⟩ rfl rfl hl.1 rfl (lv_room (Nat.le_of_ble_eq_true rfl)) dX1_call_9 ⟨Nat.le_of_ble_eq_true rfl, Nat.le_of_ble_eq_true rfl⟩) ?_
    refine q_topl (y := qNo) (qAt_o h00) ?_
    refine lv_goto (tgt := 23) hx hb dX1_call_12 (by decide) ?_
    exact W.lret (v := qNo) hx hb hr (fun t ht hW => ⟨⟨qNo, ((gh, nh), (gr, nr), (gk, nk), fi, me), rfl, (by simp only [qCall, if_neg hz, qAt_o h00]), fh, fr, fk, ha1, ha2, ha3, by rw [ht]; exact hP, va_K.moved hW.alike hK, hD⟩, hS.F ht⟩) hS.2.2 dX1_call_23
  · refine lv_iload_n hx hb dX1_call_0 rfl (lv_at hl 1 rfl) ?_
    refine lv_if_eq (tgt := 15) hx hb dX1_call_1 (by decide) (fun c_0 => absurd c_0 (show ¬ p0 = (0 : Int32) from hz)) (fun c_6 => ?_)
    refine lv_aload_n hx hb dX1_call_4 rfl (lv_at hl 0 rfl) ?_
    refine va_get (D := (dC, dI)) (ci := 1) (v := .ref a1) (C := RX1) (T := TX1) (N := 5) hx hb hts inX1_call_X1 hown hK hP 0 rfl rfl 0 (by decide) (hts (.fieldLink RX1 10 "QueueHall" "hallRow" "LQueueHall$Row;") (List.mem_of_getElem? (i := 1) (by decide +kernel))) (fun _ h9 => h9) rfl dX1_call_5 ?_
    refine lv_iconst (v := nI 0) hx hb dX1_call_8 (by decide) ?_
    have hPc := hP.sub (ws' := [(a1, .inr (0, [.ref b1, .int (nI nh)])), (b1, .inl (cA, 2100, .inl fh))]) [1, 2] rfl
    have hKc := hK.sub (tys' := [(cA, .int)]) [0] rfl
    refine q_cslE (va_runVN (As := [.int (nI 0)]) (rest := []) ⟨hx, hb, hml, hown, hts⟩ (c_Row_at l dC dI a1 b1 nh cA fh gh (nI 0) (by omega) ha1) ⟨va_cnB 1 hts gX1_call_X0_at rfl rfl rfl (qN_at hN) (hts (.initialized RX0) (List.mem_of_getElem? (i := 4) (by decide +kernel))) (by decide +kernel) ⟨Nat.le_of_ble_eq_true rfl, Nat.le_of_ble_eq_true rfl⟩, (hts (.instanceMethod yX0_at) (List.mem_of_getElem? (i := 2) (by decide +kernel))), (hts (.selects RX0 yX0_at yX0_at) (List.mem_of_getElem? (i := 3) (by decide +kernel)))⟩ ⟨q_blR, va_recv hKc hPc (ci := 0) (q0 := 0) rfl rfl, fun U hU hW => ⟨rfl, by rw [hU]; exact hPc, va_K.moved hW.alike hKc⟩⟩ rfl rfl hl.1 rfl (lv_room (Nat.le_of_ble_eq_true rfl)) dX1_call_9 ⟨Nat.le_of_ble_eq_true rfl, Nat.le_of_ble_eq_true rfl⟩) ?_
    refine q_topl (y := (gh 0).toInt64) (qAt_i (by omega) (by omega)) ?_
    refine lv_goto (tgt := 23) hx hb dX1_call_12 (by decide) ?_
    exact W.lret (v := (gh 0).toInt64) hx hb hr (fun t ht hW => ⟨⟨(gh 0).toInt64, ((gh, nh), (gr, nr), (gk, nk), fi, me), rfl, (by simp only [qCall, if_neg hz, qAt_i (show 0 < nh by omega) (show nh < 2 ^ 31 by omega)]), fh, fr, fk, ha1, ha2, ha3, by rw [ht]; exact hP, va_K.moved hW.alike hK, hD⟩, hS.F ht⟩) hS.2.2 dX1_call_23

set_option maxHeartbeats 4000000 in
set_option maxRecDepth 100000 in
theorem c_Hall_leave (l : Launch) (dC : Nat → ClassId) (dI : Nat → Nat → Nat) (sz : Nat) (x0 a1 b1 a2 b2 a3 b3 nh nr nk : Nat) (cA : ClassId) (fh gh fr gr fk gk : Nat → Int32) (fi me : Int32) (p0 : Int32) (hn : nh + nr + nk < 2000) (ha1 : qAg nh fh gh) (ha2 : qAg nr fr gr) (ha3 : qAg nk fk gk) (hF : qFok fi me nk) : Met l yX1_leave wsX1_leave ({ frames := 2, cells := 0, slots := 0, locals := 58 }) (va_Pc [.ref x0, .int p0] (fun U => U.heap.size = sz ∧ va_P (dC, dI) vwCl [(x0, .inr (1, [.ref a1, .ref a2, .ref a3, .int fi, .int me])), (a1, .inr (0, [.ref b1, .int (nI nh)])), (b1, .inl (cA, 2100, .inl fh)), (a2, .inr (0, [.ref b2, .int (nI nr)])), (b2, .inl (cA, 2100, .inl fr)), (a3, .inr (0, [.ref b3, .int (nI nk)])), (b3, .inl (cA, 2100, .inl fk))] U.heap ∧ va_K (dC, dI) vwCl [(cA, .int)] U ∧ va_D (fun _ => True) [(x0, .inr (1, [.ref a1, .ref a2, .ref a3, .int fi, .int me])), (a1, .inr (0, [.ref b1, .int (nI nh)])), (b1, .inl (cA, 2100, .inl fh)), (a2, .inr (0, [.ref b2, .int (nI nr)])), (b2, .inl (cA, 2100, .inl fr)), (a3, .inr (0, [.ref b3, .int (nI nk)])), (b3, .inl (cA, 2100, .inl fk))] ∧ qNest U)) (va_Qi (fun (r : Int32) (u : qS) => (r, u) = qLeave p0 ((gh, nh), (gr, nr), (gk, nk), fi, me)) (at_H dC dI (va_A [(x0, .inr (1, [.ref a1, .ref a2, .ref a3, .int fi, .int me])), (a1, .inr (0, [.ref b1, .int (nI nh)])), (b1, .inl (cA, 2100, .inl fh)), (a2, .inr (0, [.ref b2, .int (nI nr)])), (b2, .inl (cA, 2100, .inl fr)), (a3, .inr (0, [.ref b3, .int (nI nk)])), (b3, .inl (cA, 2100, .inl fk))] sz) x0 a1 b1 a2 b2 a3 b3 cA) (va_A [(x0, .inr (1, [.ref a1, .ref a2, .ref a3, .int fi, .int me])), (a1, .inr (0, [.ref b1, .int (nI nh)])), (b1, .inl (cA, 2100, .inl fh)), (a2, .inr (0, [.ref b2, .int (nI nr)])), (b2, .inl (cA, 2100, .inl fr)), (a3, .inr (0, [.ref b3, .int (nI nk)])), (b3, .inl (cA, 2100, .inl fk))] sz)) 0 0 (va_A [(x0, .inr (1, [.ref a1, .ref a2, .ref a3, .int fi, .int me])), (a1, .inr (0, [.ref b1, .int (nI nh)])), (b1, .inl (cA, 2100, .inl fh)), (a2, .inr (0, [.ref b2, .int (nI nr)])), (b2, .inl (cA, 2100, .inl fr)), (a3, .inr (0, [.ref b3, .int (nI nk)])), (b3, .inl (cA, 2100, .inl fk))] sz) := by
  refine Met.ofW (cc := cX1_leave) (maxL := 2) (ret := (some .boolean)) (by decide +kernel) rfl ?_
  intro p e s m args below meth c s₁ B hml hv
  obtain ⟨rfl, hsz, hP, hK, hD0, hN⟩ := hv
  have hx := B.exec
  have hb := B.bytes
  have hr := B.returns
  have hts := atoms_spec (ws := wsX1_leave) B.pre
  have hown : s.vm.findClass RX1 = some m.cls := findClass_of_methodNamed B.named
  have hlocks := B.notSynchronized
  subst hsz
  have hD := hD0.self (sz := s.heap.size)
  generalize hAe : va_A [(x0, .inr (1, [.ref a1, .ref a2, .ref a3, .int fi, .int me])), (a1, .inr (0, [.ref b1, .int (nI nh)])), (b1, .inl (cA, 2100, .inl fh)), (a2, .inr (0, [.ref b2, .int (nI nr)])), (b2, .inl (cA, 2100, .inl fr)), (a3, .inr (0, [.ref b3, .int (nI nk)])), (b3, .inl (cA, 2100, .inl fk))] s.heap.size = A at hD ⊢
  have hA : ∀ q : Nat, s.heap.size ≤ q → A q := fun q h => by rw [← hAe]; exact Or.inr h
  have hS : va_S A s.heap s.heap [] := va_S.rf
  have hl := lv_entry ([.ref x0, .int p0]) (n := 2) (Nat.le_of_ble_eq_true rfl)
  rw [lg_entry_eq]
  generalize (lg_sl ([.ref x0, .int p0]) ++ List.replicate (2 - (lg_sl ([.ref x0, .int p0])).length) Slot.unset).toArray = ls at hl ⊢
  have hl : lv_has ls 2 [(0, .ref x0), (1, .int p0)] := hl
  rcases qPl_r (g := gh) (v := p0) (z := 0) nh with hq | ⟨k, hk, hq, hv⟩
  · refine lv_aload_n hx hb dX1_leave_0 rfl (lv_at hl 0 rfl) ?_
    refine va_get (D := (dC, dI)) (ci := 1) (v := .ref a1) (C := RX1) (T := TX1) (N := 5) hx hb hts inX1_leave_X1 hown hK hP 0 rfl rfl 0 (by decide) (hts (.fieldLink RX1 10 "QueueHall" "hallRow" "LQueueHall$Row;") (List.mem_of_getElem? (i := 1) (by decide +kernel))) (fun _ h9 => h9) rfl dX1_leave_1 ?_
    refine lv_aload_n hx hb dX1_leave_4 rfl (lv_at hl 0 rfl) ?_
    refine va_get (D := (dC, dI)) (ci := 1) (v := .ref a1) (C := RX1) (T := TX1) (N := 5) hx hb hts inX1_leave_X1 hown hK hP 0 rfl rfl 0 (by decide) (hts (.fieldLink RX1 10 "QueueHall" "hallRow" "LQueueHall$Row;") (List.mem_of_getElem? (i := 1) (by decide +kernel))) (fun _ h9 => h9) rfl dX1_leave_5 ?_
    refine lv_iload_n hx hb dX1_leave_8 rfl (lv_at hl 1 rfl) ?_
    have hPc := hP.sub (ws' := [(a1, .inr (0, [.ref b1, .int (nI nh)])), (b1, .inl (cA, 2100, .inl fh))]) [1, 2] rfl
    have hKc := hK.sub (tys' := [(cA, .int)]) [0] rfl
    refine q_csiE (va_runVN (As := [.int p0]) (rest := [.ref a1]) ⟨hx, hb, hml, hown, hts⟩ (c_Row_firstPlace l dC dI a1 b1 nh cA fh gh p0 (by omega) ha1) ⟨va_cnB 1 hts gX1_leave_X0_firstPlace rfl rfl rfl (qN_firstPlace hN) (hts (.initialized RX0) (List.mem_of_getElem? (i := 4) (by decide +kernel))) (by decide +kernel) ⟨Nat.le_of_ble_eq_true rfl, Nat.le_of_ble_eq_true rfl⟩, (hts (.instanceMethod yX0_firstPlace) (List.mem_of_getElem? (i := 2) (by decide +kernel))), (hts (.selects RX0 yX0_firstPlace yX0_firstPlace) (List.mem_of_getElem? (i := 3) (by decide +kernel)))⟩ ⟨q_blR, va_recv hKc hPc (ci := 0) (q0 := 0) rfl rfl, fun U hU hW => ⟨rfl, by rw [hU]; exact hPc, va_K.moved hW.alike hKc⟩⟩ rfl rfl hl.1 rfl (lv_room (Nat.le_of_ble_eq_true rfl)) dX1_leave_9 ⟨Nat.le_of_ble_eq_true rfl, Nat.le_of_ble_eq_true rfl⟩) ?_
    refine q_top (y := -1) hq ?_
    have hPc := hP.sub (ws' := [(a1, .inr (0, [.ref b1, .int (nI nh)])), (b1, .inl (cA, 2100, .inl fh))]) [1, 2] rfl
    have hKc := hK.sub (tys' := [(cA, .int)]) [0] rfl
    have hDc := hD.sub (ws' := [(a1, .inr (0, [.ref b1, .int (nI nh)])), (b1, .inl (cA, 2100, .inl fh))]) [1, 2] (by decide) rfl
    have hFc := va_free (wc := [(a1, .inr (0, [.ref b1, .int (nI nh)])), (b1, .inl (cA, 2100, .inl fh))]) hD hS hA [1, 2] rfl
    refine va_calll (va_runVN (As := [.int (-1)]) (rest := []) ⟨hx, hb, hml, hown, hts⟩ (c_Row_take l dC dI s.heap.size a1 b1 nh cA fh gh (-1) (by omega) ha1) ⟨va_cnB 1 hts gX1_leave_X0_take rfl rfl rfl (qN_take hN) (hts (.initialized RX0) (List.mem_of_getElem? (i := 4) (by decide +kernel))) (by decide +kernel) ⟨Nat.le_of_ble_eq_true rfl, Nat.le_of_ble_eq_true rfl⟩, (hts (.instanceMethod yX0_take) (List.mem_of_getElem? (i := 8) (by decide +kernel))), (hts (.selects RX0 yX0_take yX0_take) (List.mem_of_getElem? (i := 9) (by decide +kernel)))⟩ ⟨q_blW, va_recv hKc hPc (ci := 0) (q0 := 0) rfl rfl, fun U hU hW => ⟨rfl, by rw [hU], by rw [hU]; exact hPc, va_K.moved hW.alike hKc, hDc.weaken (fun _ _ _ _ => trivial)⟩⟩ rfl rfl hl.1 rfl (lv_room (Nat.le_of_ble_eq_true rfl)) dX1_leave_12 ⟨Nat.le_of_ble_eq_true rfl, Nat.le_of_ble_eq_true rfl⟩) hS (fun q _ h => hFc q h) hFc (fun r_1 u_1 t_1 H1 locs ht hvm hw hB hz1 hk1 hS => ?_)
    have hw := hw.trans (qTake_o (qHp_m1))
    obtain ⟨rfl, rfl⟩ := Prod.mk.inj hw
    obtain ⟨f_1, hg_1, hP1, hK1, hD1⟩ := hB
    rw [ht] at hP1
    obtain ⟨hP, hD⟩ := q_join (wr := [(x0, .inr (1, [.ref a1, .ref a2, .ref a3, .int fi, .int me])), (a2, .inr (0, [.ref b2, .int (nI nr)])), (b2, .inl (cA, 2100, .inl fr)), (a3, .inr (0, [.ref b3, .int (nI nk)])), (b3, .inl (cA, 2100, .inl fk))]) (w1 := [(a1, .inr (0, [.ref b1, .int (nI nh)])), (b1, .inl (cA, 2100, .inl f_1))]) (wz := [(x0, .inr (1, [.ref a1, .ref a2, .ref a3, .int fi, .int me])), (a1, .inr (0, [.ref b1, .int (nI nh)])), (b1, .inl (cA, 2100, .inl f_1)), (a2, .inr (0, [.ref b2, .int (nI nr)])), (b2, .inl (cA, 2100, .inl fr)), (a3, .inr (0, [.ref b3, .int (nI nk)])), (b3, .inl (cA, 2100, .inl fk))]) hP hD [1, 2] [0, 3, 4, 5, 6] [0, 5, 6, 1, 2, 3, 4] rfl rfl (by decide) (by decide) hk1 hFc hP1 hD1 rfl rfl (by decide)
    generalize H1 = H at hP hS ⊢
    refine lv_ldc2 (v := qNo) hx hb hown (hts (.constantLong RX1 50 (1099511627776)) (List.mem_of_getElem? (i := 20) (by decide +kernel))) dX1_leave_15 ?_
    refine W.lcmp hx hb dX1_leave_18 ?_
    refine lv_if_eq (tgt := 26) hx hb dX1_leave_19 (by decide) (fun _ => ?_) (fun c_0 => absurd ((lg_cmp_eq _ _).mpr rfl) c_0)
    refine lv_iconst (v := 0) hx hb dX1_leave_26 (by decide) ?_
    exact W.zret (v := 0) hx hb hr rfl (fun t ht hW => ⟨⟨0, ((gh, nh), (gr, nr), (gk, nk), fi, me), rfl, (by simp only [qLeave, hq, if_pos (show (-1 : Int32) < 0 by decide)]), f_1, fr, fk, hg_1, ha2, ha3, by rw [ht]; exact hP, va_K.moved hW.alike hK, hD⟩, hS.F ht⟩) hS.2.2 dX1_leave_27
  · refine lv_aload_n hx hb dX1_leave_0 rfl (lv_at hl 0 rfl) ?_
    refine va_get (D := (dC, dI)) (ci := 1) (v := .ref a1) (C := RX1) (T := TX1) (N := 5) hx hb hts inX1_leave_X1 hown hK hP 0 rfl rfl 0 (by decide) (hts (.fieldLink RX1 10 "QueueHall" "hallRow" "LQueueHall$Row;") (List.mem_of_getElem? (i := 1) (by decide +kernel))) (fun _ h9 => h9) rfl dX1_leave_1 ?_
    refine lv_aload_n hx hb dX1_leave_4 rfl (lv_at hl 0 rfl) ?_
    refine va_get (D := (dC, dI)) (ci := 1) (v := .ref a1) (C := RX1) (T := TX1) (N := 5) hx hb hts inX1_leave_X1 hown hK hP 0 rfl rfl 0 (by decide) (hts (.fieldLink RX1 10 "QueueHall" "hallRow" "LQueueHall$Row;") (List.mem_of_getElem? (i := 1) (by decide +kernel))) (fun _ h9 => h9) rfl dX1_leave_5 ?_
    refine lv_iload_n hx hb dX1_leave_8 rfl (lv_at hl 1 rfl) ?_
    have hPc := hP.sub (ws' := [(a1, .inr (0, [.ref b1, .int (nI nh)])), (b1, .inl (cA, 2100, .inl fh))]) [1, 2] rfl
    have hKc := hK.sub (tys' := [(cA, .int)]) [0] rfl
    refine q_csiE (va_runVN (As := [.int p0]) (rest := [.ref a1]) ⟨hx, hb, hml, hown, hts⟩ (c_Row_firstPlace l dC dI a1 b1 nh cA fh gh p0 (by omega) ha1) ⟨va_cnB 1 hts gX1_leave_X0_firstPlace rfl rfl rfl (qN_firstPlace hN) (hts (.initialized RX0) (List.mem_of_getElem? (i := 4) (by decide +kernel))) (by decide +kernel) ⟨Nat.le_of_ble_eq_true rfl, Nat.le_of_ble_eq_true rfl⟩, (hts (.instanceMethod yX0_firstPlace) (List.mem_of_getElem? (i := 2) (by decide +kernel))), (hts (.selects RX0 yX0_firstPlace yX0_firstPlace) (List.mem_of_getElem? (i := 3) (by decide +kernel)))⟩ ⟨q_blR, va_recv hKc hPc (ci := 0) (q0 := 0) rfl rfl, fun U hU hW => ⟨rfl, by rw [hU]; exact hPc, va_K.moved hW.alike hKc⟩⟩ rfl rfl hl.1 rfl (lv_room (Nat.le_of_ble_eq_true rfl)) dX1_leave_9 ⟨Nat.le_of_ble_eq_true rfl, Nat.le_of_ble_eq_true rfl⟩) ?_
    refine q_top (y := nI k) hq ?_
    have hPc := hP.sub (ws' := [(a1, .inr (0, [.ref b1, .int (nI nh)])), (b1, .inl (cA, 2100, .inl fh))]) [1, 2] rfl
    have hKc := hK.sub (tys' := [(cA, .int)]) [0] rfl
    have hDc := hD.sub (ws' := [(a1, .inr (0, [.ref b1, .int (nI nh)])), (b1, .inl (cA, 2100, .inl fh))]) [1, 2] (by decide) rfl
    have hFc := va_free (wc := [(a1, .inr (0, [.ref b1, .int (nI nh)])), (b1, .inl (cA, 2100, .inl fh))]) hD hS hA [1, 2] rfl
    refine va_calll (va_runVN (As := [.int (nI k)]) (rest := []) ⟨hx, hb, hml, hown, hts⟩ (c_Row_take l dC dI s.heap.size a1 b1 nh cA fh gh (nI k) (by omega) ha1) ⟨va_cnB 1 hts gX1_leave_X0_take rfl rfl rfl (qN_take hN) (hts (.initialized RX0) (List.mem_of_getElem? (i := 4) (by decide +kernel))) (by decide +kernel) ⟨Nat.le_of_ble_eq_true rfl, Nat.le_of_ble_eq_true rfl⟩, (hts (.instanceMethod yX0_take) (List.mem_of_getElem? (i := 8) (by decide +kernel))), (hts (.selects RX0 yX0_take yX0_take) (List.mem_of_getElem? (i := 9) (by decide +kernel)))⟩ ⟨q_blW, va_recv hKc hPc (ci := 0) (q0 := 0) rfl rfl, fun U hU hW => ⟨rfl, by rw [hU], by rw [hU]; exact hPc, va_K.moved hW.alike hKc, hDc.weaken (fun _ _ _ _ => trivial)⟩⟩ rfl rfl hl.1 rfl (lv_room (Nat.le_of_ble_eq_true rfl)) dX1_leave_12 ⟨Nat.le_of_ble_eq_true rfl, Nat.le_of_ble_eq_true rfl⟩) hS (fun q _ h => hFc q h) hFc (fun r_2 u_2 t_2 H1 locs ht hvm hw hB hz1 hk1 hS => ?_)
    have hw := hw.trans (qTake_i (k := k) (by omega) (by omega))
    obtain ⟨rfl, rfl⟩ := Prod.mk.inj hw
    obtain ⟨f_2, hg_2, hP1, hK1, hD1⟩ := hB
    rw [ht] at hP1
    obtain ⟨hP, hD⟩ := q_join (wr := [(x0, .inr (1, [.ref a1, .ref a2, .ref a3, .int fi, .int me])), (a2, .inr (0, [.ref b2, .int (nI nr)])), (b2, .inl (cA, 2100, .inl fr)), (a3, .inr (0, [.ref b3, .int (nI nk)])), (b3, .inl (cA, 2100, .inl fk))]) (w1 := [(a1, .inr (0, [.ref b1, .int (nI (nh - 1))])), (b1, .inl (cA, 2100, .inl f_2))]) (wz := [(x0, .inr (1, [.ref a1, .ref a2, .ref a3, .int fi, .int me])), (a1, .inr (0, [.ref b1, .int (nI (nh - 1))])), (b1, .inl (cA, 2100, .inl f_2)), (a2, .inr (0, [.ref b2, .int (nI nr)])), (b2, .inl (cA, 2100, .inl fr)), (a3, .inr (0, [.ref b3, .int (nI nk)])), (b3, .inl (cA, 2100, .inl fk))]) hP hD [1, 2] [0, 3, 4, 5, 6] [0, 5, 6, 1, 2, 3, 4] rfl rfl (by decide) (by decide) hk1 hFc hP1 hD1 rfl rfl (by decide)
    generalize H1 = H at hP hS ⊢
    refine lv_ldc2 (v := qNo) hx hb hown (hts (.constantLong RX1 50 (1099511627776)) (List.mem_of_getElem? (i := 20) (by decide +kernel))) dX1_leave_15 ?_
    refine W.lcmp hx hb dX1_leave_18 ?_
    refine lv_if_eq (tgt := 26) hx hb dX1_leave_19 (by decide) (fun c_0 => absurd c_0 (fun q => q_no _ ((lg_cmp_eq _ _).mp q))) (fun _ => ?_)
    refine lv_iconst (v := 1) hx hb dX1_leave_22 (by decide) ?_
    refine lv_goto (tgt := 27) hx hb dX1_leave_23 (by decide) ?_
    exact W.zret (v := 1) hx hb hr rfl (fun t ht hW => ⟨⟨1, ((qDel gh k, nh - 1), (gr, nr), (gk, nk), fi, me), rfl, (by simp only [qLeave, hq, if_neg (nI_pos (show k < 2 ^ 31 by omega)), nI_clamp (show k < 2 ^ 31 by omega)]), f_2, fr, fk, hg_2, ha2, ha3, by rw [ht]; exact hP, va_K.moved hW.alike hK, hD⟩, hS.F ht⟩) hS.2.2 dX1_leave_27

set_option maxHeartbeats 4000000 in
set_option maxRecDepth 100000 in
theorem c_Hall_unlink (l : Launch) (dC : Nat → ClassId) (dI : Nat → Nat → Nat) (sz : Nat) (x0 a1 b1 a2 b2 a3 b3 nh nr nk : Nat) (cA : ClassId) (fh gh fr gr fk gk : Nat → Int32) (fi me : Int32) (p0 : Int32) (hn : nh + nr + nk < 2000) (ha1 : qAg nh fh gh) (ha2 : qAg nr fr gr) (ha3 : qAg nk fk gk) (hF : qFok fi me nk) : Met l yX1_unlink wsX1_unlink ({ frames := 2, cells := 0, slots := 0, locals := 58 }) (va_Pc [.ref x0, .int p0] (fun U => U.heap.size = sz ∧ va_P (dC, dI) vwCl [(x0, .inr (1, [.ref a1, .ref a2, .ref a3, .int fi, .int me])), (a1, .inr (0, [.ref b1, .int (nI nh)])), (b1, .inl (cA, 2100, .inl fh)), (a2, .inr (0, [.ref b2, .int (nI nr)])), (b2, .inl (cA, 2100, .inl fr)), (a3, .inr (0, [.ref b3, .int (nI nk)])), (b3, .inl (cA, 2100, .inl fk))] U.heap ∧ va_K (dC, dI) vwCl [(cA, .int)] U ∧ va_D (fun _ => True) [(x0, .inr (1, [.ref a1, .ref a2, .ref a3, .int fi, .int me])), (a1, .inr (0, [.ref b1, .int (nI nh)])), (b1, .inl (cA, 2100, .inl fh)), (a2, .inr (0, [.ref b2, .int (nI nr)])), (b2, .inl (cA, 2100, .inl fr)), (a3, .inr (0, [.ref b3, .int (nI nk)])), (b3, .inl (cA, 2100, .inl fk))] ∧ qNest U)) (va_Qi (fun (r : Int32) (u : qS) => (r, u) = qUnlink p0 ((gh, nh), (gr, nr), (gk, nk), fi, me)) (at_H dC dI (va_A [(x0, .inr (1, [.ref a1, .ref a2, .ref a3, .int fi, .int me])), (a1, .inr (0, [.ref b1, .int (nI nh)])), (b1, .inl (cA, 2100, .inl fh)), (a2, .inr (0, [.ref b2, .int (nI nr)])), (b2, .inl (cA, 2100, .inl fr)), (a3, .inr (0, [.ref b3, .int (nI nk)])), (b3, .inl (cA, 2100, .inl fk))] sz) x0 a1 b1 a2 b2 a3 b3 cA) (va_A [(x0, .inr (1, [.ref a1, .ref a2, .ref a3, .int fi, .int me])), (a1, .inr (0, [.ref b1, .int (nI nh)])), (b1, .inl (cA, 2100, .inl fh)), (a2, .inr (0, [.ref b2, .int (nI nr)])), (b2, .inl (cA, 2100, .inl fr)), (a3, .inr (0, [.ref b3, .int (nI nk)])), (b3, .inl (cA, 2100, .inl fk))] sz)) 0 0 (va_A [(x0, .inr (1, [.ref a1, .ref a2, .ref a3, .int fi, .int me])), (a1, .inr (0, [.ref b1, .int (nI nh)])), (b1, .inl (cA, 2100, .inl fh)), (a2, .inr (0, [.ref b2, .int (nI nr)])), (b2, .inl (cA, 2100, .inl fr)), (a3, .inr (0, [.ref b3, .int (nI nk)])), (b3, .inl (cA, 2100, .inl fk))] sz) := by
  refine Met.ofW (cc := cX1_unlink) (maxL := 2) (ret := (some .boolean)) (by decide +kernel) rfl ?_
  intro p e s m args below meth c s₁ B hml hv
  obtain ⟨rfl, hsz, hP, hK, hD0, hN⟩ := hv
  have hx := B.exec
  have hb := B.bytes
  have hr := B.returns
  have hts := atoms_spec (ws := wsX1_unlink) B.pre
  have hown : s.vm.findClass RX1 = some m.cls := findClass_of_methodNamed B.named
  have hlocks := B.notSynchronized
  subst hsz
  have hD := hD0.self (sz := s.heap.size)
  generalize hAe : va_A [(x0, .inr (1, [.ref a1, .ref a2, .ref a3, .int fi, .int me])), (a1, .inr (0, [.ref b1, .int (nI nh)])), (b1, .inl (cA, 2100, .inl fh)), (a2, .inr (0, [.ref b2, .int (nI nr)])), (b2, .inl (cA, 2100, .inl fr)), (a3, .inr (0, [.ref b3, .int (nI nk)])), (b3, .inl (cA, 2100, .inl fk))] s.heap.size = A at hD ⊢
  have hA : ∀ q : Nat, s.heap.size ≤ q → A q := fun q h => by rw [← hAe]; exact Or.inr h
  have hS : va_S A s.heap s.heap [] := va_S.rf
  have hl := lv_entry ([.ref x0, .int p0]) (n := 2) (Nat.le_of_ble_eq_true rfl)
  rw [lg_entry_eq]
  generalize (lg_sl ([.ref x0, .int p0]) ++ List.replicate (2 - (lg_sl ([.ref x0, .int p0])).length) Slot.unset).toArray = ls at hl ⊢
  have hl : lv_has ls 2 [(0, .ref x0), (1, .int p0)] := hl
  rcases qPl_r (g := gk) (v := p0) (z := 0) nk with hq | ⟨k, hk, hq, hv⟩
  · refine lv_aload_n hx hb dX1_unlink_0 rfl (lv_at hl 0 rfl) ?_
    refine va_get (D := (dC, dI)) (ci := 1) (v := .ref a3) (C := RX1) (T := TX1) (N := 5) hx hb hts inX1_unlink_X1 hown hK hP 0 rfl rfl 2 (by decide) (hts (.fieldLink RX1 19 "QueueHall" "chainRow" "LQueueHall$Row;") (List.mem_of_getElem? (i := 1) (by decide +kernel))) (fun _ h9 => h9) rfl dX1_unlink_1 ?_
    refine lv_aload_n hx hb dX1_unlink_4 rfl (lv_at hl 0 rfl) ?_
    refine va_get (D := (dC, dI)) (ci := 1) (v := .ref a3) (C := RX1) (T := TX1) (N := 5) hx hb hts inX1_unlink_X1 hown hK hP 0 rfl rfl 2 (by decide) (hts (.fieldLink RX1 19 "QueueHall" "chainRow" "LQueueHall$Row;") (List.mem_of_getElem? (i := 1) (by decide +kernel))) (fun _ h9 => h9) rfl dX1_unlink_5 ?_
    refine lv_iload_n hx hb dX1_unlink_8 rfl (lv_at hl 1 rfl) ?_
    have hPc := hP.sub (ws' := [(a3, .inr (0, [.ref b3, .int (nI nk)])), (b3, .inl (cA, 2100, .inl fk))]) [5, 6] rfl
    have hKc := hK.sub (tys' := [(cA, .int)]) [0] rfl
    refine q_csiE (va_runVN (As := [.int p0]) (rest := [.ref a3]) ⟨hx, hb, hml, hown, hts⟩ (c_Row_firstPlace l dC dI a3 b3 nk cA fk gk p0 (by omega) ha3) ⟨va_cnB 1 hts gX1_unlink_X0_firstPlace rfl rfl rfl (qN_firstPlace hN) (hts (.initialized RX0) (List.mem_of_getElem? (i := 4) (by decide +kernel))) (by decide +kernel) ⟨Nat.le_of_ble_eq_true rfl, Nat.le_of_ble_eq_true rfl⟩, (hts (.instanceMethod yX0_firstPlace) (List.mem_of_getElem? (i := 2) (by decide +kernel))), (hts (.selects RX0 yX0_firstPlace yX0_firstPlace) (List.mem_of_getElem? (i := 3) (by decide +kernel)))⟩ ⟨q_blR, va_recv hKc hPc (ci := 0) (q0 := 0) rfl rfl, fun U hU hW => ⟨rfl, by rw [hU]; exact hPc, va_K.moved hW.alike hKc⟩⟩ rfl rfl hl.1 rfl (lv_room (Nat.le_of_ble_eq_true rfl)) dX1_unlink_9 ⟨Nat.le_of_ble_eq_true rfl, Nat.le_of_ble_eq_true rfl⟩) ?_
    refine q_top (y := -1) hq ?_
    have hPc := hP.sub (ws' := [(a3, .inr (0, [.ref b3, .int (nI nk)])), (b3, .inl (cA, 2100, .inl fk))]) [5, 6] rfl
    have hKc := hK.sub (tys' := [(cA, .int)]) [0] rfl
    have hDc := hD.sub (ws' := [(a3, .inr (0, [.ref b3, .int (nI nk)])), (b3, .inl (cA, 2100, .inl fk))]) [5, 6] (by decide) rfl
    have hFc := va_free (wc := [(a3, .inr (0, [.ref b3, .int (nI nk)])), (b3, .inl (cA, 2100, .inl fk))]) hD hS hA [5, 6] rfl
    refine va_calll (va_runVN (As := [.int (-1)]) (rest := []) ⟨hx, hb, hml, hown, hts⟩ (c_Row_take l dC dI s.heap.size a3 b3 nk cA fk gk (-1) (by omega) ha3) ⟨va_cnB 1 hts gX1_unlink_X0_take rfl rfl rfl (qN_take hN) (hts (.initialized RX0) (List.mem_of_getElem? (i := 4) (by decide +kernel))) (by decide +kernel) ⟨Nat.le_of_ble_eq_true rfl, Nat.le_of_ble_eq_true rfl⟩, (hts (.instanceMethod yX0_take) (List.mem_of_getElem? (i := 8) (by decide +kernel))), (hts (.selects RX0 yX0_take yX0_take) (List.mem_of_getElem? (i := 9) (by decide +kernel)))⟩ ⟨q_blW, va_recv hKc hPc (ci := 0) (q0 := 0) rfl rfl, fun U hU hW => ⟨rfl, by rw [hU], by rw [hU]; exact hPc, va_K.moved hW.alike hKc, hDc.weaken (fun _ _ _ _ => trivial)⟩⟩ rfl rfl hl.1 rfl (lv_room (Nat.le_of_ble_eq_true rfl)) dX1_unlink_12 ⟨Nat.le_of_ble_eq_true rfl, Nat.le_of_ble_eq_true rfl⟩) hS (fun q _ h => hFc q h) hFc (fun r_1 u_1 t_1 H1 locs ht hvm hw hB hz1 hk1 hS => ?_)
    have hw := hw.trans (qTake_o (qHp_m1))
    obtain ⟨rfl, rfl⟩ := Prod.mk.inj hw
    obtain ⟨f_1, hg_1, hP1, hK1, hD1⟩ := hB
    rw [ht] at hP1
    obtain ⟨hP, hD⟩ := q_join (wr := [(x0, .inr (1, [.ref a1, .ref a2, .ref a3, .int fi, .int me])), (a1, .inr (0, [.ref b1, .int (nI nh)])), (b1, .inl (cA, 2100, .inl fh)), (a2, .inr (0, [.ref b2, .int (nI nr)])), (b2, .inl (cA, 2100, .inl fr))]) (w1 := [(a3, .inr (0, [.ref b3, .int (nI nk)])), (b3, .inl (cA, 2100, .inl f_1))]) (wz := [(x0, .inr (1, [.ref a1, .ref a2, .ref a3, .int fi, .int me])), (a1, .inr (0, [.ref b1, .int (nI nh)])), (b1, .inl (cA, 2100, .inl fh)), (a2, .inr (0, [.ref b2, .int (nI nr)])), (b2, .inl (cA, 2100, .inl fr)), (a3, .inr (0, [.ref b3, .int (nI nk)])), (b3, .inl (cA, 2100, .inl f_1))]) hP hD [5, 6] [0, 1, 2, 3, 4] [0, 1, 2, 3, 4, 5, 6] rfl rfl (by decide) (by decide) hk1 hFc hP1 hD1 rfl rfl (by decide)
    generalize H1 = H at hP hS ⊢
    refine lv_ldc2 (v := qNo) hx hb hown (hts (.constantLong RX1 50 (1099511627776)) (List.mem_of_getElem? (i := 20) (by decide +kernel))) dX1_unlink_15 ?_
    refine W.lcmp hx hb dX1_unlink_18 ?_
    refine lv_if_ne (tgt := 24) hx hb dX1_unlink_19 (by decide) (fun c_0 => absurd ((lg_cmp_eq _ _).mpr rfl) c_0) (fun _ => ?_)
    refine lv_iconst (v := 0) hx hb dX1_unlink_22 (by decide) ?_
    exact W.zret (v := 0) hx hb hr rfl (fun t ht hW => ⟨⟨0, ((gh, nh), (gr, nr), (gk, nk), fi, me), rfl, (by simp only [qUnlink, hq, if_pos (show (-1 : Int32) < 0 by decide)]), fh, fr, f_1, ha1, ha2, hg_1, by rw [ht]; exact hP, va_K.moved hW.alike hK, hD⟩, hS.F ht⟩) hS.2.2 dX1_unlink_23
  · refine lv_aload_n hx hb dX1_unlink_0 rfl (lv_at hl 0 rfl) ?_
    refine va_get (D := (dC, dI)) (ci := 1) (v := .ref a3) (C := RX1) (T := TX1) (N := 5) hx hb hts inX1_unlink_X1 hown hK hP 0 rfl rfl 2 (by decide) (hts (.fieldLink RX1 19 "QueueHall" "chainRow" "LQueueHall$Row;") (List.mem_of_getElem? (i := 1) (by decide +kernel))) (fun _ h9 => h9) rfl dX1_unlink_1 ?_
    refine lv_aload_n hx hb dX1_unlink_4 rfl (lv_at hl 0 rfl) ?_
    refine va_get (D := (dC, dI)) (ci := 1) (v := .ref a3) (C := RX1) (T := TX1) (N := 5) hx hb hts inX1_unlink_X1 hown hK hP 0 rfl rfl 2 (by decide) (hts (.fieldLink RX1 19 "QueueHall" "chainRow" "LQueueHall$Row;") (List.mem_of_getElem? (i := 1) (by decide +kernel))) (fun _ h9 => h9) rfl dX1_unlink_5 ?_
    refine lv_iload_n hx hb dX1_unlink_8 rfl (lv_at hl 1 rfl) ?_
    have hPc := hP.sub (ws' := [(a3, .inr (0, [.ref b3, .int (nI nk)])), (b3, .inl (cA, 2100, .inl fk))]) [5, 6] rfl
    have hKc := hK.sub (tys' := [(cA, .int)]) [0] rfl
    refine q_csiE (va_runVN (As := [.int p0]) (rest := [.ref a3]) ⟨hx, hb, hml, hown, hts⟩ (c_Row_firstPlace l dC dI a3 b3 nk cA fk gk p0 (by omega) ha3) ⟨va_cnB 1 hts gX1_unlink_X0_firstPlace rfl rfl rfl (qN_firstPlace hN) (hts (.initialized RX0) (List.mem_of_getElem? (i := 4) (by decide +kernel))) (by decide +kernel) ⟨Nat.le_of_ble_eq_true rfl, Nat.le_of_ble_eq_true rfl⟩, (hts (.instanceMethod yX0_firstPlace) (List.mem_of_getElem? (i := 2) (by decide +kernel))), (hts (.selects RX0 yX0_firstPlace yX0_firstPlace) (List.mem_of_getElem? (i := 3) (by decide +kernel)))⟩ ⟨q_blR, va_recv hKc hPc (ci := 0) (q0 := 0) rfl rfl, fun U hU hW => ⟨rfl, by rw [hU]; exact hPc, va_K.moved hW.alike hKc⟩⟩ rfl rfl hl.1 rfl (lv_room (Nat.le_of_ble_eq_true rfl)) dX1_unlink_9 ⟨Nat.le_of_ble_eq_true rfl, Nat.le_of_ble_eq_true rfl⟩) ?_
    refine q_top (y := nI k) hq ?_
    have hPc := hP.sub (ws' := [(a3, .inr (0, [.ref b3, .int (nI nk)])), (b3, .inl (cA, 2100, .inl fk))]) [5, 6] rfl
    have hKc := hK.sub (tys' := [(cA, .int)]) [0] rfl
    have hDc := hD.sub (ws' := [(a3, .inr (0, [.ref b3, .int (nI nk)])), (b3, .inl (cA, 2100, .inl fk))]) [5, 6] (by decide) rfl
    have hFc := va_free (wc := [(a3, .inr (0, [.ref b3, .int (nI nk)])), (b3, .inl (cA, 2100, .inl fk))]) hD hS hA [5, 6] rfl
    refine va_calll (va_runVN (As := [.int (nI k)]) (rest := []) ⟨hx, hb, hml, hown, hts⟩ (c_Row_take l dC dI s.heap.size a3 b3 nk cA fk gk (nI k) (by omega) ha3) ⟨va_cnB 1 hts gX1_unlink_X0_take rfl rfl rfl (qN_take hN) (hts (.initialized RX0) (List.mem_of_getElem? (i := 4) (by decide +kernel))) (by decide +kernel) ⟨Nat.le_of_ble_eq_true rfl, Nat.le_of_ble_eq_true rfl⟩, (hts (.instanceMethod yX0_take) (List.mem_of_getElem? (i := 8) (by decide +kernel))), (hts (.selects RX0 yX0_take yX0_take) (List.mem_of_getElem? (i := 9) (by decide +kernel)))⟩ ⟨q_blW, va_recv hKc hPc (ci := 0) (q0 := 0) rfl rfl, fun U hU hW => ⟨rfl, by rw [hU], by rw [hU]; exact hPc, va_K.moved hW.alike hKc, hDc.weaken (fun _ _ _ _ => trivial)⟩⟩ rfl rfl hl.1 rfl (lv_room (Nat.le_of_ble_eq_true rfl)) dX1_unlink_12 ⟨Nat.le_of_ble_eq_true rfl, Nat.le_of_ble_eq_true rfl⟩) hS (fun q _ h => hFc q h) hFc (fun r_2 u_2 t_2 H1 locs ht hvm hw hB hz1 hk1 hS => ?_)
    have hw := hw.trans (qTake_i (k := k) (by omega) (by omega))
    obtain ⟨rfl, rfl⟩ := Prod.mk.inj hw
    obtain ⟨f_2, hg_2, hP1, hK1, hD1⟩ := hB
    rw [ht] at hP1
    obtain ⟨hP, hD⟩ := q_join (wr := [(x0, .inr (1, [.ref a1, .ref a2, .ref a3, .int fi, .int me])), (a1, .inr (0, [.ref b1, .int (nI nh)])), (b1, .inl (cA, 2100, .inl fh)), (a2, .inr (0, [.ref b2, .int (nI nr)])), (b2, .inl (cA, 2100, .inl fr))]) (w1 := [(a3, .inr (0, [.ref b3, .int (nI (nk - 1))])), (b3, .inl (cA, 2100, .inl f_2))]) (wz := [(x0, .inr (1, [.ref a1, .ref a2, .ref a3, .int fi, .int me])), (a1, .inr (0, [.ref b1, .int (nI nh)])), (b1, .inl (cA, 2100, .inl fh)), (a2, .inr (0, [.ref b2, .int (nI nr)])), (b2, .inl (cA, 2100, .inl fr)), (a3, .inr (0, [.ref b3, .int (nI (nk - 1))])), (b3, .inl (cA, 2100, .inl f_2))]) hP hD [5, 6] [0, 1, 2, 3, 4] [0, 1, 2, 3, 4, 5, 6] rfl rfl (by decide) (by decide) hk1 hFc hP1 hD1 rfl rfl (by decide)
    generalize H1 = H at hP hS ⊢
    refine lv_ldc2 (v := qNo) hx hb hown (hts (.constantLong RX1 50 (1099511627776)) (List.mem_of_getElem? (i := 20) (by decide +kernel))) dX1_unlink_15 ?_
    refine W.lcmp hx hb dX1_unlink_18 ?_
    refine lv_if_ne (tgt := 24) hx hb dX1_unlink_19 (by decide) (fun _ => ?_) (fun c_0 => absurd c_0 (fun q => q_no _ ((lg_cmp_eq _ _).mp q)))
    refine lv_aload_n hx hb dX1_unlink_24 rfl (lv_at hl 0 rfl) ?_
    have hPc := hP.sub (ws' := [(x0, .inr (1, [.ref a1, .ref a2, .ref a3, .int fi, .int me]))]) [0] rfl
    have hKc := hK.sub (tys' := []) [] rfl
    have hDc := hD.sub (ws' := [(x0, .inr (1, [.ref a1, .ref a2, .ref a3, .int fi, .int me]))]) [0] (by decide) rfl
    have hFc := va_free (wc := [(x0, .inr (1, [.ref a1, .ref a2, .ref a3, .int fi, .int me]))]) hD hS hA [0] rfl
    refine va_callv (va_runV (As := []) (rest := []) ⟨hx, hb, hml, hown, hts⟩ (c_Hall_liftFinger l dC dI H.size x0 a1 a2 a3 fi me) (cwV 0 hts gX1_unlink_X1_liftFinger_v rfl rfl rfl (by decide +kernel) ⟨Nat.le_of_ble_eq_true rfl, Nat.le_of_ble_eq_true rfl⟩) ⟨q_blW, va_recv hKc hPc (ci := 1) (q0 := 0) rfl rfl, fun U hU hW => ⟨rfl, by rw [hU], by rw [hU]; exact hPc, va_K.moved hW.alike hKc, hDc.weaken (fun _ _ _ _ => trivial)⟩⟩ rfl rfl hl.1 rfl (lv_room (Nat.le_of_ble_eq_true rfl)) dX1_unlink_25 ⟨Nat.le_of_ble_eq_true rfl, Nat.le_of_ble_eq_true rfl⟩) hS (fun q _ h => hFc q h) hFc (fun u_3 t_3 H1 locs ht hvm hw hB hz1 hk1 hS => ?_)
    subst hw
    obtain ⟨hP1, hK1, hD1⟩ := hB
    rw [ht] at hP1
    obtain ⟨hP, hD⟩ := q_join (wr := [(a1, .inr (0, [.ref b1, .int (nI nh)])), (b1, .inl (cA, 2100, .inl fh)), (a2, .inr (0, [.ref b2, .int (nI nr)])), (b2, .inl (cA, 2100, .inl fr)), (a3, .inr (0, [.ref b3, .int (nI (nk - 1))])), (b3, .inl (cA, 2100, .inl f_2))]) (w1 := [(x0, .inr (1, [.ref a1, .ref a2, .ref a3, .int (-1), .int (-1)]))]) (wz := [(x0, .inr (1, [.ref a1, .ref a2, .ref a3, .int (-1), .int (-1)])), (a1, .inr (0, [.ref b1, .int (nI nh)])), (b1, .inl (cA, 2100, .inl fh)), (a2, .inr (0, [.ref b2, .int (nI nr)])), (b2, .inl (cA, 2100, .inl fr)), (a3, .inr (0, [.ref b3, .int (nI (nk - 1))])), (b3, .inl (cA, 2100, .inl f_2))]) hP hD [0] [1, 2, 3, 4, 5, 6] [6, 0, 1, 2, 3, 4, 5] rfl rfl (by decide) (by decide) hk1 hFc hP1 hD1 rfl rfl (by decide)
    generalize H1 = H at hP hS ⊢
    refine lv_iconst (v := 1) hx hb dX1_unlink_28 (by decide) ?_
    exact W.zret (v := 1) hx hb hr rfl (fun t ht hW => ⟨⟨1, ((gh, nh), (gr, nr), (qDel gk k, nk - 1), -1, -1), rfl, (by simp only [qUnlink, hq, if_neg (nI_pos (show k < 2 ^ 31 by omega)), nI_clamp (show k < 2 ^ 31 by omega)]), fh, fr, f_2, ha1, ha2, hg_2, by rw [ht]; exact hP, va_K.moved hW.alike hK, hD⟩, hS.F ht⟩) hS.2.2 dX1_unlink_29

set_option maxHeartbeats 4000000 in
set_option maxRecDepth 100000 in
theorem c_Hall_has (l : Launch) (dC : Nat → ClassId) (dI : Nat → Nat → Nat) (x0 a1 b1 a2 b2 a3 b3 nh nr nk : Nat) (cA : ClassId) (fh gh fr gr fk gk : Nat → Int32) (fi me : Int32) (p0 p1 : Int32) (hn : nh + nr + nk < 2000) (ha1 : qAg nh fh gh) (ha2 : qAg nr fr gr) (ha3 : qAg nk fk gk) (hF : qFok fi me nk) : Met l yX1_has wsX1_has ({ frames := 2, cells := 0, slots := 0, locals := 58 }) (va_Pc [.ref x0, .int p0, .int p1] (fun U => va_P (dC, dI) vwCl [(x0, .inr (1, [.ref a1, .ref a2, .ref a3, .int fi, .int me])), (a1, .inr (0, [.ref b1, .int (nI nh)])), (b1, .inl (cA, 2100, .inl fh)), (a2, .inr (0, [.ref b2, .int (nI nr)])), (b2, .inl (cA, 2100, .inl fr)), (a3, .inr (0, [.ref b3, .int (nI nk)])), (b3, .inl (cA, 2100, .inl fk))] U.heap ∧ va_K (dC, dI) vwCl [(cA, .int)] U ∧ qNest U)) (vp_Si (fun r => r = (qHas p0 p1 ((gh, nh), (gr, nr), (gk, nk), fi, me)).1)) 0 0 (fun _ => False) := by
  refine Met.ofW (cc := cX1_has) (maxL := 4) (ret := (some .boolean)) (by decide +kernel) rfl ?_
  intro p e s m args below meth c s₁ B hml hv
  obtain ⟨rfl, hP, hK, hN⟩ := hv
  have hx := B.exec
  have hb := B.bytes
  have hr := B.returns
  have hts := atoms_spec (ws := wsX1_has) B.pre
  have hown : s.vm.findClass RX1 = some m.cls := findClass_of_methodNamed B.named
  have hlocks := B.notSynchronized
  have hl := lv_entry ([.ref x0, .int p0, .int p1]) (n := 4) (Nat.le_of_ble_eq_true rfl)
  rw [lg_entry_eq]
  generalize (lg_sl ([.ref x0, .int p0, .int p1]) ++ List.replicate (4 - (lg_sl ([.ref x0, .int p0, .int p1])).length) Slot.unset).toArray = ls at hl ⊢
  have hl : lv_has ls 4 [(0, .ref x0), (1, .int p0), (2, .int p1)] := hl
  rcases q_w p0 with rfl | rfl | rfl | ⟨w0, w1, w2⟩
  · refine lv_aload_n hx hb dX1_has_0 rfl (lv_at hl 0 rfl) ?_
    refine lv_iload_n hx hb dX1_has_1 rfl (lv_at hl 1 rfl) ?_
    have hPc := hP.sub (ws' := [(x0, .inr (1, [.ref a1, .ref a2, .ref a3, .int fi, .int me]))]) [0] rfl
    have hKc := hK.sub (tys' := []) [] rfl
    refine q_csqE (va_runV (As := [.int 0]) (rest := []) ⟨hx, hb, hml, hown, hts⟩ (c_Hall_rowOf l dC dI x0 a1 a2 a3 fi me 0) (cwV 1 hts gX1_has_X1_rowOf_v rfl rfl rfl (by decide +kernel) ⟨Nat.le_of_ble_eq_true rfl, Nat.le_of_ble_eq_true rfl⟩) ⟨q_blR, va_recv hKc hPc (ci := 1) (q0 := 0) rfl rfl, fun U hU hW => ⟨rfl, by rw [hU]; exact hPc, va_K.moved hW.alike hKc⟩⟩ rfl rfl hl.1 rfl (lv_room (Nat.le_of_ble_eq_true rfl)) dX1_has_2 ⟨Nat.le_of_ble_eq_true rfl, Nat.le_of_ble_eq_true rfl⟩) ?_
    refine q_topr qRow_0 ?_
    refine lv_astore_n (lv' := [(3, .ref a1), (0, .ref x0), (1, .int 0), (2, .int p1)]) hx hb dX1_has_5 rfl hl (by decide) rfl (fun ls hl => ?_)
    refine lv_aload_n hx hb dX1_has_6 rfl (lv_at hl 0 rfl) ?_
    refine lv_ifnull hx hb dX1_has_7 ?_
    refine lv_aload_n hx hb dX1_has_10 rfl (lv_at hl 0 rfl) ?_
    refine lv_iload_n hx hb dX1_has_11 rfl (lv_at hl 3 rfl) ?_
    have hPc := hP.sub (ws' := [(a1, .inr (0, [.ref b1, .int (nI nh)])), (b1, .inl (cA, 2100, .inl fh))]) [1, 2] rfl
    have hKc := hK.sub (tys' := [(cA, .int)]) [0] rfl
    refine q_csiE (va_runVN (As := [.int p1]) (rest := []) ⟨hx, hb, hml, hown, hts⟩ (c_Row_firstPlace l dC dI a1 b1 nh cA fh gh p1 (by omega) ha1) ⟨va_cnB 1 hts gX1_has_X0_firstPlace rfl rfl rfl (qN_firstPlace hN) (hts (.initialized RX0) (List.mem_of_getElem? (i := 11) (by decide +kernel))) (by decide +kernel) ⟨Nat.le_of_ble_eq_true rfl, Nat.le_of_ble_eq_true rfl⟩, (hts (.instanceMethod yX0_firstPlace) (List.mem_of_getElem? (i := 9) (by decide +kernel))), (hts (.selects RX0 yX0_firstPlace yX0_firstPlace) (List.mem_of_getElem? (i := 10) (by decide +kernel)))⟩ ⟨q_blR, va_recv hKc hPc (ci := 0) (q0 := 0) rfl rfl, fun U hU hW => ⟨rfl, by rw [hU]; exact hPc, va_K.moved hW.alike hKc⟩⟩ rfl rfl hl.1 rfl (lv_room (Nat.le_of_ble_eq_true rfl)) dX1_has_12 ⟨Nat.le_of_ble_eq_true rfl, Nat.le_of_ble_eq_true rfl⟩) ?_
    refine lv_iconst (v := -1) hx hb dX1_has_15 (by decide) ?_
    refine lv_icmp_eq (tgt := 23) hx hb dX1_has_16 (by decide) (fun c_1 => ?_) (fun c_1 => ?_)
    · refine lv_iconst (v := 0) hx hb dX1_has_23 (by decide) ?_
      exact W.zret (v := 0) hx hb hr rfl (fun t ht hW => ⟨0, rfl, (by simp only [qHas, if_pos True.intro]; exact (qHasR_n c_1).symm), ht⟩) (fun q h => by cases h) dX1_has_24
    · refine lv_iconst (v := 1) hx hb dX1_has_19 (by decide) ?_
      refine lv_goto (tgt := 24) hx hb dX1_has_20 (by decide) ?_
      exact W.zret (v := 1) hx hb hr rfl (fun t ht hW => ⟨1, rfl, (by simp only [qHas, if_pos True.intro]; exact (qHasR_y c_1 (by omega)).symm), ht⟩) (fun q h => by cases h) dX1_has_24
  · refine lv_aload_n hx hb dX1_has_0 rfl (lv_at hl 0 rfl) ?_
    refine lv_iload_n hx hb dX1_has_1 rfl (lv_at hl 1 rfl) ?_
    have hPc := hP.sub (ws' := [(x0, .inr (1, [.ref a1, .ref a2, .ref a3, .int fi, .int me]))]) [0] rfl
    have hKc := hK.sub (tys' := []) [] rfl
    refine q_csqE (va_runV (As := [.int 1]) (rest := []) ⟨hx, hb, hml, hown, hts⟩ (c_Hall_rowOf l dC dI x0 a1 a2 a3 fi me 1) (cwV 1 hts gX1_has_X1_rowOf_v rfl rfl rfl (by decide +kernel) ⟨Nat.le_of_ble_eq_true rfl, Nat.le_of_ble_eq_true rfl⟩) ⟨q_blR, va_recv hKc hPc (ci := 1) (q0 := 0) rfl rfl, fun U hU hW => ⟨rfl, by rw [hU]; exact hPc, va_K.moved hW.alike hKc⟩⟩ rfl rfl hl.1 rfl (lv_room (Nat.le_of_ble_eq_true rfl)) dX1_has_2 ⟨Nat.le_of_ble_eq_true rfl, Nat.le_of_ble_eq_true rfl⟩) ?_
    refine q_topr qRow_1 ?_
    refine lv_astore_n (lv' := [(3, .ref a2), (0, .ref x0), (1, .int 1), (2, .int p1)]) hx hb dX1_has_5 rfl hl (by decide) rfl (fun ls hl => ?_)
    refine lv_aload_n hx hb dX1_has_6 rfl (lv_at hl 0 rfl) ?_
    refine lv_ifnull hx hb dX1_has_7 ?_
    refine lv_aload_n hx hb dX1_has_10 rfl (lv_at hl 0 rfl) ?_
    refine lv_iload_n hx hb dX1_has_11 rfl (lv_at hl 3 rfl) ?_
    have hPc := hP.sub (ws' := [(a2, .inr (0, [.ref b2, .int (nI nr)])), (b2, .inl (cA, 2100, .inl fr))]) [3, 4] rfl
    have hKc := hK.sub (tys' := [(cA, .int)]) [0] rfl
    refine q_csiE (va_runVN (As := [.int p1]) (rest := []) ⟨hx, hb, hml, hown, hts⟩ (c_Row_firstPlace l dC dI a2 b2 nr cA fr gr p1 (by omega) ha2) ⟨va_cnB 1 hts gX1_has_X0_firstPlace rfl rfl rfl (qN_firstPlace hN) (hts (.initialized RX0) (List.mem_of_getElem? (i := 11) (by decide +kernel))) (by decide +kernel) ⟨Nat.le_of_ble_eq_true rfl, Nat.le_of_ble_eq_true rfl⟩, (hts (.instanceMethod yX0_firstPlace) (List.mem_of_getElem? (i := 9) (by decide +kernel))), (hts (.selects RX0 yX0_firstPlace yX0_firstPlace) (List.mem_of_getElem? (i := 10) (by decide +kernel)))⟩ ⟨q_blR, va_recv hKc hPc (ci := 0) (q0 := 0) rfl rfl, fun U hU hW => ⟨rfl, by rw [hU]; exact hPc, va_K.moved hW.alike hKc⟩⟩ rfl rfl hl.1 rfl (lv_room (Nat.le_of_ble_eq_true rfl)) dX1_has_12 ⟨Nat.le_of_ble_eq_true rfl, Nat.le_of_ble_eq_true rfl⟩) ?_
    refine lv_iconst (v := -1) hx hb dX1_has_15 (by decide) ?_
    refine lv_icmp_eq (tgt := 23) hx hb dX1_has_16 (by decide) (fun c_2 => ?_) (fun c_2 => ?_)
    · refine lv_iconst (v := 0) hx hb dX1_has_23 (by decide) ?_
      exact W.zret (v := 0) hx hb hr rfl (fun t ht hW => ⟨0, rfl, (by simp only [qHas, if_neg (show ¬ (1 : Int32) = 0 by decide), if_pos True.intro]; exact (qHasR_n c_2).symm), ht⟩) (fun q h => by cases h) dX1_has_24
    · refine lv_iconst (v := 1) hx hb dX1_has_19 (by decide) ?_
      refine lv_goto (tgt := 24) hx hb dX1_has_20 (by decide) ?_
      exact W.zret (v := 1) hx hb hr rfl (fun t ht hW => ⟨1, rfl, (by simp only [qHas, if_neg (show ¬ (1 : Int32) = 0 by decide), if_pos True.intro]; exact (qHasR_y c_2 (by omega)).symm), ht⟩) (fun q h => by cases h) dX1_has_24
  · refine lv_aload_n hx hb dX1_has_0 rfl (lv_at hl 0 rfl) ?_
    refine lv_iload_n hx hb dX1_has_1 rfl (lv_at hl 1 rfl) ?_
    have hPc := hP.sub (ws' := [(x0, .inr (1, [.ref a1, .ref a2, .ref a3, .int fi, .int me]))]) [0] rfl
    have hKc := hK.sub (tys' := []) [] rfl
    refine q_csqE (va_runV (As := [.int 2]) (rest := []) ⟨hx, hb, hml, hown, hts⟩ (c_Hall_rowOf l dC dI x0 a1 a2 a3 fi me 2) (cwV 1 hts gX1_has_X1_rowOf_v rfl rfl rfl (by decide +kernel) ⟨Nat.le_of_ble_eq_true rfl, Nat.le_of_ble_eq_true rfl⟩) ⟨q_blR, va_recv hKc hPc (ci := 1) (q0 := 0) rfl rfl, fun U hU hW => ⟨rfl, by rw [hU]; exact hPc, va_K.moved hW.alike hKc⟩⟩ rfl rfl hl.1 rfl (lv_room (Nat.le_of_ble_eq_true rfl)) dX1_has_2 ⟨Nat.le_of_ble_eq_true rfl, Nat.le_of_ble_eq_true rfl⟩) ?_
    refine q_topr qRow_2 ?_
    refine lv_astore_n (lv' := [(3, .ref a3), (0, .ref x0), (1, .int 2), (2, .int p1)]) hx hb dX1_has_5 rfl hl (by decide) rfl (fun ls hl => ?_)
    refine lv_aload_n hx hb dX1_has_6 rfl (lv_at hl 0 rfl) ?_
    refine lv_ifnull hx hb dX1_has_7 ?_
    refine lv_aload_n hx hb dX1_has_10 rfl (lv_at hl 0 rfl) ?_
    refine lv_iload_n hx hb dX1_has_11 rfl (lv_at hl 3 rfl) ?_
    have hPc := hP.sub (ws' := [(a3, .inr (0, [.ref b3, .int (nI nk)])), (b3, .inl (cA, 2100, .inl fk))]) [5, 6] rfl
    have hKc := hK.sub (tys' := [(cA, .int)]) [0] rfl
    refine q_csiE (va_runVN (As := [.int p1]) (rest := []) ⟨hx, hb, hml, hown, hts⟩ (c_Row_firstPlace l dC dI a3 b3 nk cA fk gk p1 (by omega) ha3) ⟨va_cnB 1 hts gX1_has_X0_firstPlace rfl rfl rfl (qN_firstPlace hN) (hts (.initialized RX0) (List.mem_of_getElem? (i := 11) (by decide +kernel))) (by decide +kernel) ⟨Nat.le_of_ble_eq_true rfl, Nat.le_of_ble_eq_true rfl⟩, (hts (.instanceMethod yX0_firstPlace) (List.mem_of_getElem? (i := 9) (by decide +kernel))), (hts (.selects RX0 yX0_firstPlace yX0_firstPlace) (List.mem_of_getElem? (i := 10) (by decide +kernel)))⟩ ⟨q_blR, va_recv hKc hPc (ci := 0) (q0 := 0) rfl rfl, fun U hU hW => ⟨rfl, by rw [hU]; exact hPc, va_K.moved hW.alike hKc⟩⟩ rfl rfl hl.1 rfl (lv_room (Nat.le_of_ble_eq_true rfl)) dX1_has_12 ⟨Nat.le_of_ble_eq_true rfl, Nat.le_of_ble_eq_true rfl⟩) ?_
    refine lv_iconst (v := -1) hx hb dX1_has_15 (by decide) ?_
    refine lv_icmp_eq (tgt := 23) hx hb dX1_has_16 (by decide) (fun c_3 => ?_) (fun c_3 => ?_)
    · refine lv_iconst (v := 0) hx hb dX1_has_23 (by decide) ?_
      exact W.zret (v := 0) hx hb hr rfl (fun t ht hW => ⟨0, rfl, (by simp only [qHas, if_neg (show ¬ (2 : Int32) = 0 by decide), if_neg (show ¬ (2 : Int32) = 1 by decide), if_pos True.intro]; exact (qHasR_n c_3).symm), ht⟩) (fun q h => by cases h) dX1_has_24
    · refine lv_iconst (v := 1) hx hb dX1_has_19 (by decide) ?_
      refine lv_goto (tgt := 24) hx hb dX1_has_20 (by decide) ?_
      exact W.zret (v := 1) hx hb hr rfl (fun t ht hW => ⟨1, rfl, (by simp only [qHas, if_neg (show ¬ (2 : Int32) = 0 by decide), if_neg (show ¬ (2 : Int32) = 1 by decide), if_pos True.intro]; exact (qHasR_y c_3 (by omega)).symm), ht⟩) (fun q h => by cases h) dX1_has_24
  · refine lv_aload_n hx hb dX1_has_0 rfl (lv_at hl 0 rfl) ?_
    refine lv_iload_n hx hb dX1_has_1 rfl (lv_at hl 1 rfl) ?_
    have hPc := hP.sub (ws' := [(x0, .inr (1, [.ref a1, .ref a2, .ref a3, .int fi, .int me]))]) [0] rfl
    have hKc := hK.sub (tys' := []) [] rfl
    refine q_csqE (va_runV (As := [.int p0]) (rest := []) ⟨hx, hb, hml, hown, hts⟩ (c_Hall_rowOf l dC dI x0 a1 a2 a3 fi me p0) (cwV 1 hts gX1_has_X1_rowOf_v rfl rfl rfl (by decide +kernel) ⟨Nat.le_of_ble_eq_true rfl, Nat.le_of_ble_eq_true rfl⟩) ⟨q_blR, va_recv hKc hPc (ci := 1) (q0 := 0) rfl rfl, fun U hU hW => ⟨rfl, by rw [hU]; exact hPc, va_K.moved hW.alike hKc⟩⟩ rfl rfl hl.1 rfl (lv_room (Nat.le_of_ble_eq_true rfl)) dX1_has_2 ⟨Nat.le_of_ble_eq_true rfl, Nat.le_of_ble_eq_true rfl⟩) ?_
    refine q_topn (qRow_n w0 w1 w2) ?_
    refine lv_astore_nN (lv' := [(3, .null), (0, .ref x0), (1, .int p0), (2, .int p1)]) hx hb dX1_has_5 rfl hl (by decide) rfl (fun ls hl => ?_)
    refine lv_aload_nN hx hb dX1_has_6 rfl (lv_at hl 0 rfl) ?_
    refine lv_ifnullN (tgt := 23) hx hb dX1_has_7 (by decide) ?_
    refine lv_iconst (v := 0) hx hb dX1_has_23 (by decide) ?_
    exact W.zret (v := 0) hx hb hr rfl (fun t ht hW => ⟨0, rfl, (by simp only [qHas, if_neg w0, if_neg w1, if_neg w2]), ht⟩) (fun q h => by cases h) dX1_has_24

set_option maxHeartbeats 4000000 in
set_option maxRecDepth 100000 in
theorem c_Hall_size (l : Launch) (dC : Nat → ClassId) (dI : Nat → Nat → Nat) (x0 a1 b1 a2 b2 a3 b3 nh nr nk : Nat) (cA : ClassId) (fh gh fr gr fk gk : Nat → Int32) (fi me : Int32) (p0 : Int32) (hn : nh + nr + nk < 2000) (ha1 : qAg nh fh gh) (ha2 : qAg nr fr gr) (ha3 : qAg nk fk gk) (hF : qFok fi me nk) : Met l yX1_size wsX1_size ({ frames := 2, cells := 0, slots := 0, locals := 58 }) (va_Pc [.ref x0, .int p0] (fun U => va_P (dC, dI) vwCl [(x0, .inr (1, [.ref a1, .ref a2, .ref a3, .int fi, .int me])), (a1, .inr (0, [.ref b1, .int (nI nh)])), (b1, .inl (cA, 2100, .inl fh)), (a2, .inr (0, [.ref b2, .int (nI nr)])), (b2, .inl (cA, 2100, .inl fr)), (a3, .inr (0, [.ref b3, .int (nI nk)])), (b3, .inl (cA, 2100, .inl fk))] U.heap ∧ va_K (dC, dI) vwCl [(cA, .int)] U ∧ qNest U)) (vp_Si (fun r => r = (qSize p0 ((gh, nh), (gr, nr), (gk, nk), fi, me)).1)) 0 0 (fun _ => False) := by
  refine Met.ofW (cc := cX1_size) (maxL := 3) (ret := (some .int)) (by decide +kernel) rfl ?_
  intro p e s m args below meth c s₁ B hml hv
  obtain ⟨rfl, hP, hK, hN⟩ := hv
  have hx := B.exec
  have hb := B.bytes
  have hr := B.returns
  have hts := atoms_spec (ws := wsX1_size) B.pre
  have hown : s.vm.findClass RX1 = some m.cls := findClass_of_methodNamed B.named
  have hlocks := B.notSynchronized
  have hl := lv_entry ([.ref x0, .int p0]) (n := 3) (Nat.le_of_ble_eq_true rfl)
  rw [lg_entry_eq]
  generalize (lg_sl ([.ref x0, .int p0]) ++ List.replicate (3 - (lg_sl ([.ref x0, .int p0])).length) Slot.unset).toArray = ls at hl ⊢
  have hl : lv_has ls 3 [(0, .ref x0), (1, .int p0)] := hl
  rcases q_w p0 with rfl | rfl | rfl | ⟨w0, w1, w2⟩
  · refine lv_aload_n hx hb dX1_size_0 rfl (lv_at hl 0 rfl) ?_
    refine lv_iload_n hx hb dX1_size_1 rfl (lv_at hl 1 rfl) ?_
    have hPc := hP.sub (ws' := [(x0, .inr (1, [.ref a1, .ref a2, .ref a3, .int fi, .int me]))]) [0] rfl
    have hKc := hK.sub (tys' := []) [] rfl
    refine q_csqE (va_runV (As := [.int 0]) (rest := []) ⟨hx, hb, hml, hown, hts⟩ (c_Hall_rowOf l dC dI x0 a1 a2 a3 fi me 0) (cwV 1 hts gX1_size_X1_rowOf_v rfl rfl rfl (by decide +kernel) ⟨Nat.le_of_ble_eq_true rfl, Nat.le_of_ble_eq_true rfl⟩) ⟨q_blR, va_recv hKc hPc (ci := 1) (q0 := 0) rfl rfl, fun U hU hW => ⟨rfl, by rw [hU]; exact hPc, va_K.moved hW.alike hKc⟩⟩ rfl rfl hl.1 rfl (lv_room (Nat.le_of_ble_eq_true rfl)) dX1_size_2 ⟨Nat.le_of_ble_eq_true rfl, Nat.le_of_ble_eq_true rfl⟩) ?_
    refine q_topr qRow_0 ?_
    refine lv_astore_n (lv' := [(2, .ref a1), (0, .ref x0), (1, .int 0)]) hx hb dX1_size_5 rfl hl (by decide) rfl (fun ls hl => ?_)
    refine lv_aload_n hx hb dX1_size_6 rfl (lv_at hl 0 rfl) ?_
    refine lv_ifnonnull (tgt := 14) hx hb dX1_size_7 (by decide) ?_
    refine lv_aload_n hx hb dX1_size_14 rfl (lv_at hl 0 rfl) ?_
    refine va_getN (D := (dC, dI)) (ci := 0) (v := .int (nI nh)) (C := RX0) (T := TX0) (N := 2) hx hb hts inX1_size_X0 hown hK hP 1 rfl rfl 1 (by decide) (qN_count hN) (fun _ h9 => h9) rfl dX1_size_15 ?_
    exact W.iret (v := nI nh) hx hb hr (fun t ht hW => ⟨nI nh, rfl, (by simp only [qSize, if_pos True.intro]), ht⟩) (fun q h => by cases h) dX1_size_18
  · refine lv_aload_n hx hb dX1_size_0 rfl (lv_at hl 0 rfl) ?_
    refine lv_iload_n hx hb dX1_size_1 rfl (lv_at hl 1 rfl) ?_
    have hPc := hP.sub (ws' := [(x0, .inr (1, [.ref a1, .ref a2, .ref a3, .int fi, .int me]))]) [0] rfl
    have hKc := hK.sub (tys' := []) [] rfl
    refine q_csqE (va_runV (As := [.int 1]) (rest := []) ⟨hx, hb, hml, hown, hts⟩ (c_Hall_rowOf l dC dI x0 a1 a2 a3 fi me 1) (cwV 1 hts gX1_size_X1_rowOf_v rfl rfl rfl (by decide +kernel) ⟨Nat.le_of_ble_eq_true rfl, Nat.le_of_ble_eq_true rfl⟩) ⟨q_blR, va_recv hKc hPc (ci := 1) (q0 := 0) rfl rfl, fun U hU hW => ⟨rfl, by rw [hU]; exact hPc, va_K.moved hW.alike hKc⟩⟩ rfl rfl hl.1 rfl (lv_room (Nat.le_of_ble_eq_true rfl)) dX1_size_2 ⟨Nat.le_of_ble_eq_true rfl, Nat.le_of_ble_eq_true rfl⟩) ?_
    refine q_topr qRow_1 ?_
    refine lv_astore_n (lv' := [(2, .ref a2), (0, .ref x0), (1, .int 1)]) hx hb dX1_size_5 rfl hl (by decide) rfl (fun ls hl => ?_)
    refine lv_aload_n hx hb dX1_size_6 rfl (lv_at hl 0 rfl) ?_
    refine lv_ifnonnull (tgt := 14) hx hb dX1_size_7 (by decide) ?_
    refine lv_aload_n hx hb dX1_size_14 rfl (lv_at hl 0 rfl) ?_
    refine va_getN (D := (dC, dI)) (ci := 0) (v := .int (nI nr)) (C := RX0) (T := TX0) (N := 2) hx hb hts inX1_size_X0 hown hK hP 3 rfl rfl 1 (by decide) (qN_count hN) (fun _ h9 => h9) rfl dX1_size_15 ?_
    exact W.iret (v := nI nr) hx hb hr (fun t ht hW => ⟨nI nr, rfl, (by simp only [qSize, if_neg (show ¬ (1 : Int32) = 0 by decide), if_pos True.intro]), ht⟩) (fun q h => by cases h) dX1_size_18
  · refine lv_aload_n hx hb dX1_size_0 rfl (lv_at hl 0 rfl) ?_
    refine lv_iload_n hx hb dX1_size_1 rfl (lv_at hl 1 rfl) ?_
    have hPc := hP.sub (ws' := [(x0, .inr (1, [.ref a1, .ref a2, .ref a3, .int fi, .int me]))]) [0] rfl
    have hKc := hK.sub (tys' := []) [] rfl
    refine q_csqE (va_runV (As := [.int 2]) (rest := []) ⟨hx, hb, hml, hown, hts⟩ (c_Hall_rowOf l dC dI x0 a1 a2 a3 fi me 2) (cwV 1 hts gX1_size_X1_rowOf_v rfl rfl rfl (by decide +kernel) ⟨Nat.le_of_ble_eq_true rfl, Nat.le_of_ble_eq_true rfl⟩) ⟨q_blR, va_recv hKc hPc (ci := 1) (q0 := 0) rfl rfl, fun U hU hW => ⟨rfl, by rw [hU]; exact hPc, va_K.moved hW.alike hKc⟩⟩ rfl rfl hl.1 rfl (lv_room (Nat.le_of_ble_eq_true rfl)) dX1_size_2 ⟨Nat.le_of_ble_eq_true rfl, Nat.le_of_ble_eq_true rfl⟩) ?_
    refine q_topr qRow_2 ?_
    refine lv_astore_n (lv' := [(2, .ref a3), (0, .ref x0), (1, .int 2)]) hx hb dX1_size_5 rfl hl (by decide) rfl (fun ls hl => ?_)
    refine lv_aload_n hx hb dX1_size_6 rfl (lv_at hl 0 rfl) ?_
    refine lv_ifnonnull (tgt := 14) hx hb dX1_size_7 (by decide) ?_
    refine lv_aload_n hx hb dX1_size_14 rfl (lv_at hl 0 rfl) ?_
    refine va_getN (D := (dC, dI)) (ci := 0) (v := .int (nI nk)) (C := RX0) (T := TX0) (N := 2) hx hb hts inX1_size_X0 hown hK hP 5 rfl rfl 1 (by decide) (qN_count hN) (fun _ h9 => h9) rfl dX1_size_15 ?_
    exact W.iret (v := nI nk) hx hb hr (fun t ht hW => ⟨nI nk, rfl, (by simp only [qSize, if_neg (show ¬ (2 : Int32) = 0 by decide), if_neg (show ¬ (2 : Int32) = 1 by decide), if_pos True.intro]), ht⟩) (fun q h => by cases h) dX1_size_18
  · refine lv_aload_n hx hb dX1_size_0 rfl (lv_at hl 0 rfl) ?_
    refine lv_iload_n hx hb dX1_size_1 rfl (lv_at hl 1 rfl) ?_
    have hPc := hP.sub (ws' := [(x0, .inr (1, [.ref a1, .ref a2, .ref a3, .int fi, .int me]))]) [0] rfl
    have hKc := hK.sub (tys' := []) [] rfl
    refine q_csqE (va_runV (As := [.int p0]) (rest := []) ⟨hx, hb, hml, hown, hts⟩ (c_Hall_rowOf l dC dI x0 a1 a2 a3 fi me p0) (cwV 1 hts gX1_size_X1_rowOf_v rfl rfl rfl (by decide +kernel) ⟨Nat.le_of_ble_eq_true rfl, Nat.le_of_ble_eq_true rfl⟩) ⟨q_blR, va_recv hKc hPc (ci := 1) (q0 := 0) rfl rfl, fun U hU hW => ⟨rfl, by rw [hU]; exact hPc, va_K.moved hW.alike hKc⟩⟩ rfl rfl hl.1 rfl (lv_room (Nat.le_of_ble_eq_true rfl)) dX1_size_2 ⟨Nat.le_of_ble_eq_true rfl, Nat.le_of_ble_eq_true rfl⟩) ?_
    refine q_topn (qRow_n w0 w1 w2) ?_
    refine lv_astore_nN (lv' := [(2, .null), (0, .ref x0), (1, .int p0)]) hx hb dX1_size_5 rfl hl (by decide) rfl (fun ls hl => ?_)
    refine lv_aload_nN hx hb dX1_size_6 rfl (lv_at hl 0 rfl) ?_
    refine lv_ifnonnullN hx hb dX1_size_7 ?_
    refine lv_iconst (v := -1) hx hb dX1_size_10 (by decide) ?_
    refine lv_goto (tgt := 18) hx hb dX1_size_11 (by decide) ?_
    exact W.iret (v := -1) hx hb hr (fun t ht hW => ⟨-1, rfl, (by simp only [qSize, if_neg w0, if_neg w1, if_neg w2]), ht⟩) (fun q h => by cases h) dX1_size_18

