theorem inX2_init_X2 : ∀ w ∈ wsX20, w ∈ wsX2_init := by decide +kernel
theorem inX2_many_X2 : ∀ w ∈ wsX20, w ∈ wsX2_many := by decide +kernel
theorem inX2_lift_X2 : ∀ w ∈ wsX20, w ∈ wsX2_lift := by decide +kernel
theorem inX2_enter_X2 : ∀ w ∈ wsX20, w ∈ wsX2_enter := by decide +kernel
set_option maxRecDepth 20000 in
theorem gX2_enter_X2_put : GoodIn wsX2_enter wsX2_put := goodIn_r _ [6] (by decide +kernel) (by decide +kernel)
set_option maxRecDepth 20000 in
theorem gX2_enter_X2_put_v : GoodIn wsX2_enter (wsS RX2 35 yX2_put wsX2_put) := goodIn_app (goodIn_r _ [3, 4, 5] (by decide +kernel) (by decide +kernel)) gX2_enter_X2_put
theorem inX2_call_X2 : ∀ w ∈ wsX20, w ∈ wsX2_call := by decide +kernel
set_option maxRecDepth 20000 in
theorem gX2_call_X2_take : GoodIn wsX2_call wsX2_take := goodIn_r _ [7] (by decide +kernel) (by decide +kernel)
set_option maxRecDepth 20000 in
theorem gX2_call_X2_take_v : GoodIn wsX2_call (wsS RX2 41 yX2_take wsX2_take) := goodIn_app (goodIn_r _ [4, 5, 6] (by decide +kernel) (by decide +kernel)) gX2_call_X2_take
theorem inX2_leave_X2 : ∀ w ∈ wsX20, w ∈ wsX2_leave := by decide +kernel
set_option maxRecDepth 20000 in
theorem gX2_leave_X2_place : GoodIn wsX2_leave wsX2_place := goodIn_r _ [6] (by decide +kernel) (by decide +kernel)
set_option maxRecDepth 20000 in
theorem gX2_leave_X2_place_v : GoodIn wsX2_leave (wsS RX2 45 yX2_place wsX2_place) := goodIn_app (goodIn_r _ [3, 4, 5] (by decide +kernel) (by decide +kernel)) gX2_leave_X2_place
set_option maxRecDepth 20000 in
theorem gX2_leave_X2_take : GoodIn wsX2_leave wsX2_take := goodIn_r _ [9] (by decide +kernel) (by decide +kernel)
set_option maxRecDepth 20000 in
theorem gX2_leave_X2_take_v : GoodIn wsX2_leave (wsS RX2 41 yX2_take wsX2_take) := goodIn_app (goodIn_r _ [7, 8, 5] (by decide +kernel) (by decide +kernel)) gX2_leave_X2_take
theorem inX2_unlink_X2 : ∀ w ∈ wsX20, w ∈ wsX2_unlink := by decide +kernel
set_option maxRecDepth 20000 in
theorem gX2_unlink_X2_place : GoodIn wsX2_unlink wsX2_place := goodIn_r _ [6] (by decide +kernel) (by decide +kernel)
set_option maxRecDepth 20000 in
theorem gX2_unlink_X2_place_v : GoodIn wsX2_unlink (wsS RX2 45 yX2_place wsX2_place) := goodIn_app (goodIn_r _ [3, 4, 5] (by decide +kernel) (by decide +kernel)) gX2_unlink_X2_place
set_option maxRecDepth 20000 in
theorem gX2_unlink_X2_take : GoodIn wsX2_unlink wsX2_take := goodIn_r _ [9] (by decide +kernel) (by decide +kernel)
set_option maxRecDepth 20000 in
theorem gX2_unlink_X2_take_v : GoodIn wsX2_unlink (wsS RX2 41 yX2_take wsX2_take) := goodIn_app (goodIn_r _ [7, 8, 5] (by decide +kernel) (by decide +kernel)) gX2_unlink_X2_take
set_option maxRecDepth 20000 in
theorem gX2_unlink_X2_lift : GoodIn wsX2_unlink wsX2_lift := goodIn_r _ [13, 14, 15, 16, 17, 18, 19, 20, 21, 22, 23] (by decide +kernel) (by decide +kernel)
set_option maxRecDepth 20000 in
theorem gX2_unlink_X2_lift_v : GoodIn wsX2_unlink (wsV RX2 53 RX2 yX2_lift wsX2_lift) := goodIn_app (goodIn_r _ [10, 11, 12, 5] (by decide +kernel) (by decide +kernel)) gX2_unlink_X2_lift
theorem inX2_has_X2 : ∀ w ∈ wsX20, w ∈ wsX2_has := by decide +kernel
set_option maxRecDepth 20000 in
theorem gX2_has_X2_many : GoodIn wsX2_has wsX2_many := goodIn_r _ [8, 9, 10, 11, 15, 16, 17, 18, 19, 20, 21, 22] (by decide +kernel) (by decide +kernel)
set_option maxRecDepth 20000 in
theorem gX2_has_X2_many_v : GoodIn wsX2_has (wsV RX2 49 RX2 yX2_many wsX2_many) := goodIn_app (goodIn_r _ [4, 5, 6, 7] (by decide +kernel) (by decide +kernel)) gX2_has_X2_many
set_option maxRecDepth 20000 in
theorem gX2_has_X2_place : GoodIn wsX2_has wsX2_place := goodIn_r _ [14] (by decide +kernel) (by decide +kernel)
set_option maxRecDepth 20000 in
theorem gX2_has_X2_place_v : GoodIn wsX2_has (wsS RX2 45 yX2_place wsX2_place) := goodIn_app (goodIn_r _ [12, 13, 7] (by decide +kernel) (by decide +kernel)) gX2_has_X2_place
set_option maxRecDepth 20000 in
theorem gX2_size_X2_many : GoodIn wsX2_size wsX2_many := goodIn_r _ [5, 6, 7, 8, 9, 10, 11, 12, 13, 14, 15, 16] (by decide +kernel) (by decide +kernel)
set_option maxRecDepth 20000 in
theorem gX2_size_X2_many_v : GoodIn wsX2_size (wsV RX2 49 RX2 yX2_many wsX2_many) := goodIn_app (goodIn_r _ [1, 2, 3, 4] (by decide +kernel) (by decide +kernel)) gX2_size_X2_many
set_option maxRecDepth 20000 in
theorem gX2_clear_X2_many : GoodIn wsX2_clear wsX2_many := goodIn_r _ [5, 6, 7, 8, 15, 16, 17, 18, 19, 20, 21, 22] (by decide +kernel) (by decide +kernel)
set_option maxRecDepth 20000 in
theorem gX2_clear_X2_many_v : GoodIn wsX2_clear (wsV RX2 49 RX2 yX2_many wsX2_many) := goodIn_app (goodIn_r _ [1, 2, 3, 4] (by decide +kernel) (by decide +kernel)) gX2_clear_X2_many
theorem inX2_clear_X2 : ∀ w ∈ wsX20, w ∈ wsX2_clear := by decide +kernel
set_option maxRecDepth 20000 in
theorem gX2_clear_X2_lift : GoodIn wsX2_clear wsX2_lift := goodIn_r _ [12, 13, 14, 15, 16, 17, 18, 19, 20, 21, 22] (by decide +kernel) (by decide +kernel)
set_option maxRecDepth 20000 in
theorem gX2_clear_X2_lift_v : GoodIn wsX2_clear (wsV RX2 53 RX2 yX2_lift wsX2_lift) := goodIn_app (goodIn_r _ [9, 10, 11, 4] (by decide +kernel) (by decide +kernel)) gX2_clear_X2_lift
theorem inX2_join_X2 : ∀ w ∈ wsX20, w ∈ wsX2_join := by decide +kernel
set_option maxRecDepth 20000 in
theorem gX2_join_X2_put : GoodIn wsX2_join wsX2_put := goodIn_r _ [6] (by decide +kernel) (by decide +kernel)
set_option maxRecDepth 20000 in
theorem gX2_join_X2_put_v : GoodIn wsX2_join (wsS RX2 35 yX2_put wsX2_put) := goodIn_app (goodIn_r _ [3, 4, 5] (by decide +kernel) (by decide +kernel)) gX2_join_X2_put
theorem inX2_serve_X2 : ∀ w ∈ wsX20, w ∈ wsX2_serve := by decide +kernel
set_option maxRecDepth 20000 in
theorem gX2_serve_X2_take : GoodIn wsX2_serve wsX2_take := goodIn_r _ [7] (by decide +kernel) (by decide +kernel)
set_option maxRecDepth 20000 in
theorem gX2_serve_X2_take_v : GoodIn wsX2_serve (wsS RX2 41 yX2_take wsX2_take) := goodIn_app (goodIn_r _ [4, 5, 6] (by decide +kernel) (by decide +kernel)) gX2_serve_X2_take
theorem inX2_drop_X2 : ∀ w ∈ wsX20, w ∈ wsX2_drop := by decide +kernel
set_option maxRecDepth 20000 in
theorem gX2_drop_X2_place : GoodIn wsX2_drop wsX2_place := goodIn_r _ [6] (by decide +kernel) (by decide +kernel)
set_option maxRecDepth 20000 in
theorem gX2_drop_X2_place_v : GoodIn wsX2_drop (wsS RX2 45 yX2_place wsX2_place) := goodIn_app (goodIn_r _ [3, 4, 5] (by decide +kernel) (by decide +kernel)) gX2_drop_X2_place
set_option maxRecDepth 20000 in
theorem gX2_drop_X2_take : GoodIn wsX2_drop wsX2_take := goodIn_r _ [9] (by decide +kernel) (by decide +kernel)
set_option maxRecDepth 20000 in
theorem gX2_drop_X2_take_v : GoodIn wsX2_drop (wsS RX2 41 yX2_take wsX2_take) := goodIn_app (goodIn_r _ [7, 8, 5] (by decide +kernel) (by decide +kernel)) gX2_drop_X2_take
theorem inX2_ring_X2 : ∀ w ∈ wsX20, w ∈ wsX2_ring := by decide +kernel
theorem inX2_insert_X2 : ∀ w ∈ wsX20, w ∈ wsX2_insert := by decide +kernel
set_option maxRecDepth 20000 in
theorem gX2_insert_X2_put : GoodIn wsX2_insert wsX2_put := goodIn_r _ [6] (by decide +kernel) (by decide +kernel)
set_option maxRecDepth 20000 in
theorem gX2_insert_X2_put_v : GoodIn wsX2_insert (wsS RX2 35 yX2_put wsX2_put) := goodIn_app (goodIn_r _ [3, 4, 5] (by decide +kernel) (by decide +kernel)) gX2_insert_X2_put
set_option maxRecDepth 20000 in
theorem gX2_insert_X2_lift : GoodIn wsX2_insert wsX2_lift := goodIn_r _ [10, 11, 12, 13, 14, 15, 16, 17, 18, 19, 20] (by decide +kernel) (by decide +kernel)
set_option maxRecDepth 20000 in
theorem gX2_insert_X2_lift_v : GoodIn wsX2_insert (wsV RX2 53 RX2 yX2_lift wsX2_lift) := goodIn_app (goodIn_r _ [7, 8, 9, 5] (by decide +kernel) (by decide +kernel)) gX2_insert_X2_lift
theorem inX2_point_X2 : ∀ w ∈ wsX20, w ∈ wsX2_point := by decide +kernel
theorem inX2_change_X2 : ∀ w ∈ wsX20, w ∈ wsX2_change := by decide +kernel
set_option maxRecDepth 20000 in
theorem gX2_change_X2_take : GoodIn wsX2_change wsX2_take := goodIn_r _ [7] (by decide +kernel) (by decide +kernel)
set_option maxRecDepth 20000 in
theorem gX2_change_X2_take_v : GoodIn wsX2_change (wsS RX2 41 yX2_take wsX2_take) := goodIn_app (goodIn_r _ [4, 5, 6] (by decide +kernel) (by decide +kernel)) gX2_change_X2_take
set_option maxRecDepth 20000 in
theorem gX2_change_X2_lift : GoodIn wsX2_change wsX2_lift := goodIn_r _ [11, 12, 13, 14, 15, 16, 17, 18, 19, 20, 21] (by decide +kernel) (by decide +kernel)
set_option maxRecDepth 20000 in
theorem gX2_change_X2_lift_v : GoodIn wsX2_change (wsV RX2 53 RX2 yX2_lift wsX2_lift) := goodIn_app (goodIn_r _ [8, 9, 10, 6] (by decide +kernel) (by decide +kernel)) gX2_change_X2_lift
theorem inX2_chain_X2 : ∀ w ∈ wsX20, w ∈ wsX2_chain := by decide +kernel
theorem inX2_find_X2 : ∀ w ∈ wsX20, w ∈ wsX2_find := by decide +kernel
set_option maxRecDepth 20000 in
theorem gX2_find_X2_place : GoodIn wsX2_find wsX2_place := goodIn_r _ [6] (by decide +kernel) (by decide +kernel)
set_option maxRecDepth 20000 in
theorem gX2_find_X2_place_v : GoodIn wsX2_find (wsS RX2 45 yX2_place wsX2_place) := goodIn_app (goodIn_r _ [3, 4, 5] (by decide +kernel) (by decide +kernel)) gX2_find_X2_place
theorem inX2_finger_X2 : ∀ w ∈ wsX20, w ∈ wsX2_finger := by decide +kernel
theorem inX2_sieve_X2 : ∀ w ∈ wsX20, w ∈ wsX2_sieve := by decide +kernel
set_option maxRecDepth 20000 in
theorem gX2_sieve_J9_floorMod_7cf53 : GoodIn wsX2_sieve wsJ9_floorMod_7cf53 := goodIn_r _ [6] (by decide +kernel) (by decide +kernel)
set_option maxRecDepth 20000 in
theorem gX2_sieve_J9_floorMod_7cf53_v : GoodIn wsX2_sieve (va_wsS RX2 56 yJ9_floorMod_7cf53 wsJ9_floorMod_7cf53) := goodIn_app (goodIn_r _ [3, 4, 5] (by decide +kernel) (by decide +kernel)) gX2_sieve_J9_floorMod_7cf53
theorem inX2_roll_X2 : ∀ w ∈ wsX20, w ∈ wsX2_roll := by decide +kernel
set_option maxRecDepth 20000 in
theorem gX2_roll_X2_take : GoodIn wsX2_roll wsX2_take := goodIn_r _ [6] (by decide +kernel) (by decide +kernel)
set_option maxRecDepth 20000 in
theorem gX2_roll_X2_take_v : GoodIn wsX2_roll (wsS RX2 41 yX2_take wsX2_take) := goodIn_app (goodIn_r _ [3, 4, 5] (by decide +kernel) (by decide +kernel)) gX2_roll_X2_take
theorem inX2_pass_X2 : ∀ w ∈ wsX20, w ∈ wsX2_pass := by decide +kernel
theorem inX2_touch_X2 : ∀ w ∈ wsX20, w ∈ wsX2_touch := by decide +kernel
set_option maxRecDepth 20000 in
theorem gX2_touch_X2_take : GoodIn wsX2_touch wsX2_take := goodIn_r _ [8] (by decide +kernel) (by decide +kernel)
set_option maxRecDepth 20000 in
theorem gX2_touch_X2_take_v : GoodIn wsX2_touch (wsS RX2 41 yX2_take wsX2_take) := goodIn_app (goodIn_r _ [5, 6, 7] (by decide +kernel) (by decide +kernel)) gX2_touch_X2_take
set_option maxRecDepth 20000 in
theorem gX2_touch_X2_put : GoodIn wsX2_touch wsX2_put := goodIn_r _ [11] (by decide +kernel) (by decide +kernel)
set_option maxRecDepth 20000 in
theorem gX2_touch_X2_put_v : GoodIn wsX2_touch (wsS RX2 35 yX2_put wsX2_put) := goodIn_app (goodIn_r _ [9, 10, 7] (by decide +kernel) (by decide +kernel)) gX2_touch_X2_put
theorem inX2_empty_X2 : ∀ w ∈ wsX20, w ∈ wsX2_empty := by decide +kernel
theorem inX2_hand_X2 : ∀ w ∈ wsX20, w ∈ wsX2_hand := by decide +kernel
set_option maxRecDepth 20000 in
theorem gX2_hand_X2_lift : GoodIn wsX2_hand wsX2_lift := goodIn_r _ [7, 8, 9, 12, 13, 14, 15, 16, 17, 18, 19] (by decide +kernel) (by decide +kernel)
set_option maxRecDepth 20000 in
theorem gX2_hand_X2_lift_v : GoodIn wsX2_hand (wsV RX2 53 RX2 yX2_lift wsX2_lift) := goodIn_app (goodIn_r _ [3, 4, 5, 6] (by decide +kernel) (by decide +kernel)) gX2_hand_X2_lift
set_option maxHeartbeats 4000000 in
set_option maxRecDepth 100000 in
theorem c_Mod_init (l : Launch) (dC : Nat → ClassId) (dI : Nat → Nat → Nat) (sz : Nat) (m0 : Nat) : Met l yX2_init wsX2_init ({ frames := 1, cells := 3, slots := 6000, locals := 12 }) (va_Pc [.ref m0] (fun U => U.heap.size = sz ∧ va_P (dC, dI) vwCl [(m0, .inr (2, [.null, .null, .null, .int (nI 0), .int (nI 0), .int (nI 0), .int (nI 0), .int (nI 0)]))] U.heap ∧ va_K (dC, dI) vwCl [] U ∧ va_D (fun _ => True) [(m0, .inr (2, [.null, .null, .null, .int (nI 0), .int (nI 0), .int (nI 0), .int (nI 0), .int (nI 0)]))])) (va_Qv (fun (u : ClassId × Nat × Nat × Nat) => True) (at_MI dC dI (va_A [(m0, .inr (2, [.null, .null, .null, .int (nI 0), .int (nI 0), .int (nI 0), .int (nI 0), .int (nI 0)]))] sz) m0) (va_A [(m0, .inr (2, [.null, .null, .null, .int (nI 0), .int (nI 0), .int (nI 0), .int (nI 0), .int (nI 0)]))] sz)) 3 6000 (va_A [(m0, .inr (2, [.null, .null, .null, .int (nI 0), .int (nI 0), .int (nI 0), .int (nI 0), .int (nI 0)]))] sz) := by
  refine Met.ofW (cc := cX2_init) (maxL := 1) (ret := none) (by decide +kernel) rfl ?_
  intro p e s m args below meth c s₁ B hml hv
  obtain ⟨rfl, hsz, hP, hK, hD0⟩ := hv
  have hx := B.exec
  have hb := B.bytes
  have hr := B.returns
  have hts := atoms_spec (ws := wsX2_init) B.pre
  have hown : s.vm.findClass RX2 = some m.cls := findClass_of_methodNamed B.named
  have hlocks := B.notSynchronized
  have hin : meth.name = "<init>" := (name_of_methodNamed B.named B.method).1
  subst hsz
  have hD := hD0.self (sz := s.heap.size)
  generalize hAe : va_A [(m0, .inr (2, [.null, .null, .null, .int (nI 0), .int (nI 0), .int (nI 0), .int (nI 0), .int (nI 0)]))] s.heap.size = A at hD ⊢
  have hA : ∀ q : Nat, s.heap.size ≤ q → A q := fun q h => by rw [← hAe]; exact Or.inr h
  have hS : va_S A s.heap s.heap [] := va_S.rf
  have hl := lv_entry ([.ref m0]) (n := 1) (Nat.le_of_ble_eq_true rfl)
  rw [lg_entry_eq]
  generalize (lg_sl ([.ref m0]) ++ List.replicate (1 - (lg_sl ([.ref m0])).length) Slot.unset).toArray = ls at hl ⊢
  have hl : lv_has ls 1 [(0, .ref m0)] := hl
  refine lv_aload_n hx hb dX2_init_0 rfl (lv_at hl 0 rfl) ?_
  refine W.objInit hx hb hown (hts (.methodLink RX2 1 objectInit) (List.mem_of_getElem? (i := 1) (by decide +kernel))) (hts (.instanceMethod objectInit) (List.mem_of_getElem? (i := 2) (by decide +kernel))) (hts (.code objectInit ⟨#[0xb1]⟩ 1 none) (List.mem_of_getElem? (i := 3) (by decide +kernel))) rfl (by rw [hml]; exact hl.1) rfl dX2_init_1 (Nat.le_of_ble_eq_true rfl) (Nat.le_of_ble_eq_true rfl) ?_
  refine W.eq (g2 := F0 m 4 ls []) rfl ?_
  refine lv_aload_n hx hb dX2_init_4 rfl (lv_at hl 0 rfl) ?_
  refine lv_sipush (v := 2000) hx hb dX2_init_5 (by decide) ?_
  refine q_newi (N := 2000) hx hb (hts (.arrayClass .int) (List.mem_of_getElem? (i := 4) (by decide +kernel))) hK hP hD hS hA (by decide +kernel) (by decide +kernel) (by decide +kernel) (by decide +kernel) (by decide +kernel) dX2_init_8 (fun c1 cA1 H hK hP hD hS => ?_)
  have hK : va_K (dC, dI) vwCl [(cA1, .int)] s := hK
  have hP : va_P (dC, dI) vwCl [(m0, .inr (2, [.null, .null, .null, .int (nI 0), .int (nI 0), .int (nI 0), .int (nI 0), .int (nI 0)])), (c1, .inl (cA1, 2000, .inl (fun _ => 0)))] H := hP
  have hD : va_D A [(m0, .inr (2, [.null, .null, .null, .int (nI 0), .int (nI 0), .int (nI 0), .int (nI 0), .int (nI 0)])), (c1, .inl (cA1, 2000, .inl (fun _ => 0)))] := hD
  refine va_putF (D := (dC, dI)) (ci := 2) (v := .ref c1) (ty := .array .int) (C := RX2) (T := TX2) (N := 8) hx hb hts inX2_init_X2 tyX2 tyX2_ok nmX2 hown hK hP hD hS 0 rfl rfl 0 (by decide) (hts (.fieldLink RX2 9 "QueueHallModel" "hall" "[I") (List.mem_of_getElem? (i := 5) (by decide +kernel))) (fun _ h9 => h9) rfl hin rfl (by decide +kernel) rfl rfl (Nat.le_of_ble_eq_true rfl) dX2_init_10 (fun H locs hP hD hS => ?_)
  have hP : va_P (dC, dI) vwCl [(m0, .inr (2, [.ref c1, .null, .null, .int (nI 0), .int (nI 0), .int (nI 0), .int (nI 0), .int (nI 0)])), (c1, .inl (cA1, 2000, .inl (fun _ => 0)))] H := hP
  have hD : va_D A [(m0, .inr (2, [.ref c1, .null, .null, .int (nI 0), .int (nI 0), .int (nI 0), .int (nI 0), .int (nI 0)])), (c1, .inl (cA1, 2000, .inl (fun _ => 0)))] := hD
  refine lv_aload_n hx hb dX2_init_13 rfl (lv_at hl 0 rfl) ?_
  refine lv_sipush (v := 2000) hx hb dX2_init_14 (by decide) ?_
  refine q_newi (N := 2000) hx hb (hts (.arrayClass .int) (List.mem_of_getElem? (i := 4) (by decide +kernel))) hK hP hD hS hA (by decide +kernel) (by decide +kernel) (by decide +kernel) (by decide +kernel) (by decide +kernel) dX2_init_17 (fun c2 cA2 H hK hP hD hS => ?_)
  obtain rfl : cA1 = cA2 := Option.some.inj ((va_nm_int (hK.2 0 _ rfl).2).symm.trans (va_nm_int (hK.2 1 _ rfl).2))
  have hK := hK.sub (tys' := [(cA1, .int)]) [0] rfl
  have hP : va_P (dC, dI) vwCl [(m0, .inr (2, [.ref c1, .null, .null, .int (nI 0), .int (nI 0), .int (nI 0), .int (nI 0), .int (nI 0)])), (c1, .inl (cA1, 2000, .inl (fun _ => 0))), (c2, .inl (cA1, 2000, .inl (fun _ => 0)))] H := hP
  have hD : va_D A [(m0, .inr (2, [.ref c1, .null, .null, .int (nI 0), .int (nI 0), .int (nI 0), .int (nI 0), .int (nI 0)])), (c1, .inl (cA1, 2000, .inl (fun _ => 0))), (c2, .inl (cA1, 2000, .inl (fun _ => 0)))] := hD
  refine va_putF (D := (dC, dI)) (ci := 2) (v := .ref c2) (ty := .array .int) (C := RX2) (T := TX2) (N := 8) hx hb hts inX2_init_X2 tyX2 tyX2_ok nmX2 hown hK hP hD hS 0 rfl rfl 1 (by decide) (hts (.fieldLink RX2 13 "QueueHallModel" "ring" "[I") (List.mem_of_getElem? (i := 6) (by decide +kernel))) (fun _ h9 => h9) rfl hin rfl (by decide +kernel) rfl rfl (Nat.le_of_ble_eq_true rfl) dX2_init_19 (fun H locs hP hD hS => ?_)
  have hP : va_P (dC, dI) vwCl [(m0, .inr (2, [.ref c1, .ref c2, .null, .int (nI 0), .int (nI 0), .int (nI 0), .int (nI 0), .int (nI 0)])), (c1, .inl (cA1, 2000, .inl (fun _ => 0))), (c2, .inl (cA1, 2000, .inl (fun _ => 0)))] H := hP
  have hD : va_D A [(m0, .inr (2, [.ref c1, .ref c2, .null, .int (nI 0), .int (nI 0), .int (nI 0), .int (nI 0), .int (nI 0)])), (c1, .inl (cA1, 2000, .inl (fun _ => 0))), (c2, .inl (cA1, 2000, .inl (fun _ => 0)))] := hD
  refine lv_aload_n hx hb dX2_init_22 rfl (lv_at hl 0 rfl) ?_
  refine lv_sipush (v := 2000) hx hb dX2_init_23 (by decide) ?_
  refine q_newi (N := 2000) hx hb (hts (.arrayClass .int) (List.mem_of_getElem? (i := 4) (by decide +kernel))) hK hP hD hS hA (by decide +kernel) (by decide +kernel) (by decide +kernel) (by decide +kernel) (by decide +kernel) dX2_init_26 (fun c3 cA3 H hK hP hD hS => ?_)
  obtain rfl : cA1 = cA3 := Option.some.inj ((va_nm_int (hK.2 0 _ rfl).2).symm.trans (va_nm_int (hK.2 1 _ rfl).2))
  have hK := hK.sub (tys' := [(cA1, .int)]) [0] rfl
  have hP : va_P (dC, dI) vwCl [(m0, .inr (2, [.ref c1, .ref c2, .null, .int (nI 0), .int (nI 0), .int (nI 0), .int (nI 0), .int (nI 0)])), (c1, .inl (cA1, 2000, .inl (fun _ => 0))), (c2, .inl (cA1, 2000, .inl (fun _ => 0))), (c3, .inl (cA1, 2000, .inl (fun _ => 0)))] H := hP
  have hD : va_D A [(m0, .inr (2, [.ref c1, .ref c2, .null, .int (nI 0), .int (nI 0), .int (nI 0), .int (nI 0), .int (nI 0)])), (c1, .inl (cA1, 2000, .inl (fun _ => 0))), (c2, .inl (cA1, 2000, .inl (fun _ => 0))), (c3, .inl (cA1, 2000, .inl (fun _ => 0)))] := hD
  refine va_putF (D := (dC, dI)) (ci := 2) (v := .ref c3) (ty := .array .int) (C := RX2) (T := TX2) (N := 8) hx hb hts inX2_init_X2 tyX2 tyX2_ok nmX2 hown hK hP hD hS 0 rfl rfl 2 (by decide) (hts (.fieldLink RX2 16 "QueueHallModel" "chain" "[I") (List.mem_of_getElem? (i := 7) (by decide +kernel))) (fun _ h9 => h9) rfl hin rfl (by decide +kernel) rfl rfl (Nat.le_of_ble_eq_true rfl) dX2_init_28 (fun H locs hP hD hS => ?_)
  have hP : va_P (dC, dI) vwCl [(m0, .inr (2, [.ref c1, .ref c2, .ref c3, .int (nI 0), .int (nI 0), .int (nI 0), .int (nI 0), .int (nI 0)])), (c1, .inl (cA1, 2000, .inl (fun _ => 0))), (c2, .inl (cA1, 2000, .inl (fun _ => 0))), (c3, .inl (cA1, 2000, .inl (fun _ => 0)))] H := hP
  have hD : va_D A [(m0, .inr (2, [.ref c1, .ref c2, .ref c3, .int (nI 0), .int (nI 0), .int (nI 0), .int (nI 0), .int (nI 0)])), (c1, .inl (cA1, 2000, .inl (fun _ => 0))), (c2, .inl (cA1, 2000, .inl (fun _ => 0))), (c3, .inl (cA1, 2000, .inl (fun _ => 0)))] := hD
  refine lv_aload_n hx hb dX2_init_31 rfl (lv_at hl 0 rfl) ?_
  refine lv_iconst (v := -1) hx hb dX2_init_32 (by decide) ?_
  refine va_put (D := (dC, dI)) (ci := 2) (v := .int (-1)) (ty := .int) (C := RX2) (T := TX2) (N := 8) hx hb hts inX2_init_X2 tyX2 tyX2_ok nmX2 hown hK hP hD hS 0 rfl rfl 6 (by decide) (hts (.fieldLink RX2 19 "QueueHallModel" "finger" "I") (List.mem_of_getElem? (i := 8) (by decide +kernel))) (fun _ h9 => h9) rfl (by decide +kernel) rfl rfl (Nat.le_of_ble_eq_true rfl) dX2_init_33 (fun H locs hP hD hS => ?_)
  have hP : va_P (dC, dI) vwCl [(m0, .inr (2, [.ref c1, .ref c2, .ref c3, .int (nI 0), .int (nI 0), .int (nI 0), .int (-1), .int (nI 0)])), (c1, .inl (cA1, 2000, .inl (fun _ => 0))), (c2, .inl (cA1, 2000, .inl (fun _ => 0))), (c3, .inl (cA1, 2000, .inl (fun _ => 0)))] H := hP
  have hD : va_D A [(m0, .inr (2, [.ref c1, .ref c2, .ref c3, .int (nI 0), .int (nI 0), .int (nI 0), .int (-1), .int (nI 0)])), (c1, .inl (cA1, 2000, .inl (fun _ => 0))), (c2, .inl (cA1, 2000, .inl (fun _ => 0))), (c3, .inl (cA1, 2000, .inl (fun _ => 0)))] := hD
  refine lv_aload_n hx hb dX2_init_36 rfl (lv_at hl 0 rfl) ?_
  refine lv_iconst (v := -1) hx hb dX2_init_37 (by decide) ?_
  refine va_put (D := (dC, dI)) (ci := 2) (v := .int (-1)) (ty := .int) (C := RX2) (T := TX2) (N := 8) hx hb hts inX2_init_X2 tyX2 tyX2_ok nmX2 hown hK hP hD hS 0 rfl rfl 7 (by decide) (hts (.fieldLink RX2 23 "QueueHallModel" "met" "I") (List.mem_of_getElem? (i := 9) (by decide +kernel))) (fun _ h9 => h9) rfl (by decide +kernel) rfl rfl (Nat.le_of_ble_eq_true rfl) dX2_init_38 (fun H locs hP hD hS => ?_)
  have hP : va_P (dC, dI) vwCl [(m0, .inr (2, [.ref c1, .ref c2, .ref c3, .int (nI 0), .int (nI 0), .int (nI 0), .int (-1), .int (-1)])), (c1, .inl (cA1, 2000, .inl (fun _ => 0))), (c2, .inl (cA1, 2000, .inl (fun _ => 0))), (c3, .inl (cA1, 2000, .inl (fun _ => 0)))] H := hP
  have hD : va_D A [(m0, .inr (2, [.ref c1, .ref c2, .ref c3, .int (nI 0), .int (nI 0), .int (nI 0), .int (-1), .int (-1)])), (c1, .inl (cA1, 2000, .inl (fun _ => 0))), (c2, .inl (cA1, 2000, .inl (fun _ => 0))), (c3, .inl (cA1, 2000, .inl (fun _ => 0)))] := hD
  refine W.widen (k := 3) (n := 6000) (by omega) (by omega) ?_
  exact W.vret hx hb hr (fun t ht hW => ⟨⟨(cA1, c1, c2, c3), rfl, trivial, by rw [ht]; exact hP, va_K.moved hW.alike hK, hD⟩, hS.F ht⟩) hS.2.2 dX2_init_41

set_option maxHeartbeats 4000000 in
set_option maxRecDepth 100000 in
theorem lp_put {p : Program} {l : Launch} {e : Env} {s : State} {m : MethodId} {args : Array Value} {below : List Frame} {meth : Method} {c : Code} {Q : State → Prop} {dC : Nat → ClassId} {dI : Nat → Nat → Nat} {A : Nat → Prop} (h1 n k : Nat) (cA : ClassId) (f g : Nat → Int32) (p3 : Int32) (hn : n < 2000) (hk : k ≤ n) (hg : qAg n f g) (hx : p.tables.exec = Jvm.exec) (hb : c.code = cX2_put) (hml : c.maxLocals = 5) (hts : ∀ w ∈ wsX2_put, w.before args s = true) (hown : s.vm.findClass RX2 = some m.cls) (hK : va_K (dC, dI) vwCl [(cA, .int)] s) (hA : ∀ q : Nat, s.heap.size ≤ q → A q)
    (E0 : ∀ (a : Nat → Int32), (qMp a f k n) → ∀ (H : Heap) (locs : List Loc), va_P (dC, dI) vwCl [(h1, .inl (cA, 2000, .inl a))] H → va_D A [(h1, .inl (cA, 2000, .inl a))] → va_S A s.heap H locs → ∀ ls : Array Slot, lv_has ls 5 [(0, .ref h1), (1, .int (nI n)), (2, .int (nI k)), (3, .int p3)] → W p l e (headSpec wsX2_put ({ frames := 0, cells := 0, slots := 0, locals := 0 })).room s m args below meth c H locs 0 0 Q (F0 m 25 ls [])) :
    ∀ (fu : Nat) (i : Nat) (a : Nat → Int32), (i + 1 ≤ k + fu) → (k ≤ i) → (i ≤ n) → (qMp a f i n) → ∀ (H : Heap) (locs : List Loc), va_P (dC, dI) vwCl [(h1, .inl (cA, 2000, .inl a))] H → va_D A [(h1, .inl (cA, 2000, .inl a))] → va_S A s.heap H locs → ∀ ls : Array Slot, lv_has ls 5 [(0, .ref h1), (1, .int (nI n)), (2, .int (nI k)), (3, .int p3), (4, .int (nI i))] → W p l e (headSpec wsX2_put ({ frames := 0, cells := 0, slots := 0, locals := 0 })).room s m args below meth c H locs 0 0 Q (F0 m 3 ls []) := by
  intro fu
  induction fu with
  | zero =>
    intro i a hfu hi hi2 hv
    exact absurd hfu (by omega)
  | succ fu ih =>
    intro i a hfu hi hi2 hv H locs hP hD hS ls hl
    refine lv_iload hx hb dX2_put_3 (lv_at hl 4 rfl) ?_
    refine lv_iload_n hx hb dX2_put_5 rfl (lv_at hl 2 rfl) ?_
    refine lv_icmp_le (tgt := 25) hx hb dX2_put_6 (by decide) (fun c_1 => ?_) (fun c_1 => ?_)
    · have k_1 : i ≤ k := by
        simp (disch := omega) only [ti_lt, ti_le, ti_eq, ti_0, ti_1, ti_2, ti_m1, ti_100, ti_2000, nI_toInt] at c_1
        omega
      exact E0 a (by rw [show k = i by omega]; exact hv) _ _ hP hD hS ls (lv_sub hl [0, 1, 2, 3] rfl)
    · have k_1 : i > k := by
        simp (disch := omega) only [ti_lt, ti_le, ti_eq, ti_0, ti_1, ti_2, ti_m1, ti_100, ti_2000, nI_toInt] at c_1
        omega
      refine lv_aload_n hx hb dX2_put_9 rfl (lv_at hl 0 rfl) ?_
      refine lv_iload hx hb dX2_put_10 (lv_at hl 4 rfl) ?_
      refine lv_aload_n hx hb dX2_put_12 rfl (lv_at hl 0 rfl) ?_
      refine lv_iload hx hb dX2_put_13 (lv_at hl 4 rfl) ?_
      refine lv_iconst (v := 1) hx hb dX2_put_15 (by decide) ?_
      refine lv_isub hx hb dX2_put_16 ?_
      refine q_top (y := nI (i - 1)) (q_m1 (by omega)) ?_
      refine q_iald (k := i - 1) hx hb hK hP 0 0 rfl rfl (by omega) (by omega) dX2_put_17 ?_
      refine q_iast (k := i) hx hb hK hP hD hS 0 0 rfl rfl (by omega) (by omega) dX2_put_18 (fun H locs hP hD hS => ?_)
      have hP : va_P (dC, dI) vwCl [(h1, .inl (cA, 2000, .inl (upd a i (a (i - 1)))))] H := hP
      have hD : va_D A [(h1, .inl (cA, 2000, .inl (upd a i (a (i - 1)))))] := hD
      refine lv_iinc (v := nI (i - 1)) (lv' := [(4, .int (nI (i - 1))), (0, .ref h1), (1, .int (nI n)), (2, .int (nI k)), (3, .int p3)]) hx hb dX2_put_19 hl (k := 4) rfl (sb_m1 (by omega)) (by decide) rfl (fun ls hl => ?_)
      refine lv_goto (tgt := 3) hx hb dX2_put_22 (by decide) ?_
      exact ih (i - 1) (upd a i (a (i - 1))) (by omega) (by omega) (by omega) (qMp_s hv (by omega) hi2) _ _ hP hD hS ls (lv_sub hl [1, 2, 3, 4, 0] rfl)

set_option maxHeartbeats 4000000 in
set_option maxRecDepth 100000 in
theorem c_Mod_put (l : Launch) (dC : Nat → ClassId) (dI : Nat → Nat → Nat) (sz : Nat) (h1 n k : Nat) (cA : ClassId) (f g : Nat → Int32) (p3 : Int32) (hn : n < 2000) (hk : k ≤ n) (hg : qAg n f g) : Met l yX2_put wsX2_put ({ frames := 0, cells := 0, slots := 0, locals := 0 }) (va_Pc [.ref h1, .int (nI n), .int (nI k), .int p3] (fun U => U.heap.size = sz ∧ va_P (dC, dI) vwCl [(h1, .inl (cA, 2000, .inl f))] U.heap ∧ va_K (dC, dI) vwCl [(cA, .int)] U ∧ va_D (fun _ => True) [(h1, .inl (cA, 2000, .inl f))])) (va_Qv (fun (u : qR) => u = (qIns g k p3, n + 1)) (at_Arr dC dI (va_A [(h1, .inl (cA, 2000, .inl f))] sz) h1 cA) (va_A [(h1, .inl (cA, 2000, .inl f))] sz)) 0 0 (va_A [(h1, .inl (cA, 2000, .inl f))] sz) := by
  refine Met.ofW (cc := cX2_put) (maxL := 5) (ret := none) (by decide +kernel) rfl ?_
  intro p e s m args below meth c s₁ B hml hv
  obtain ⟨rfl, hsz, hP, hK, hD0⟩ := hv
  have hx := B.exec
  have hb := B.bytes
  have hr := B.returns
  have hts := atoms_spec (ws := wsX2_put) B.pre
  have hown : s.vm.findClass RX2 = some m.cls := findClass_of_methodNamed B.named
  have hlocks := B.notSynchronized
  subst hsz
  have hD := hD0.self (sz := s.heap.size)
  generalize hAe : va_A [(h1, .inl (cA, 2000, .inl f))] s.heap.size = A at hD ⊢
  have hA : ∀ q : Nat, s.heap.size ≤ q → A q := fun q h => by rw [← hAe]; exact Or.inr h
  have hS : va_S A s.heap s.heap [] := va_S.rf
  have hl := lv_entry ([.ref h1, .int (nI n), .int (nI k), .int p3]) (n := 5) (Nat.le_of_ble_eq_true rfl)
  rw [lg_entry_eq]
  generalize (lg_sl ([.ref h1, .int (nI n), .int (nI k), .int p3]) ++ List.replicate (5 - (lg_sl ([.ref h1, .int (nI n), .int (nI k), .int p3])).length) Slot.unset).toArray = ls at hl ⊢
  have hl : lv_has ls 5 [(0, .ref h1), (1, .int (nI n)), (2, .int (nI k)), (3, .int p3)] := hl
  refine lv_iload_n hx hb dX2_put_0 rfl (lv_at hl 1 rfl) ?_
  refine lv_istore (lv' := [(4, .int (nI n)), (0, .ref h1), (1, .int (nI n)), (2, .int (nI k)), (3, .int p3)]) hx hb dX2_put_1 hl (by decide) rfl (fun ls hl => ?_)
  refine lp_put h1 n k cA f g p3 hn hk hg hx hb hml hts hown hK hA (fun a hv H locs hP hD hS ls hl => ?_) (n + 1) n f (by omega) (by omega) (by omega) qMp_0 _ _ hP hD hS ls (lv_sub hl [1, 2, 3, 4, 0] rfl)
  refine lv_aload_n hx hb dX2_put_25 rfl (lv_at hl 0 rfl) ?_
  refine lv_iload_n hx hb dX2_put_26 rfl (lv_at hl 2 rfl) ?_
  refine lv_iload_n hx hb dX2_put_27 rfl (lv_at hl 3 rfl) ?_
  refine q_iast (k := k) hx hb hK hP hD hS 0 0 rfl rfl (by omega) (by omega) dX2_put_28 (fun H locs hP hD hS => ?_)
  have hP : va_P (dC, dI) vwCl [(h1, .inl (cA, 2000, .inl (upd a k p3)))] H := hP
  have hD : va_D A [(h1, .inl (cA, 2000, .inl (upd a k p3)))] := hD
  exact W.vret hx hb hr (fun t ht hW => ⟨⟨(qIns g k p3, n + 1), rfl, rfl, _, qMp_e hv hk hg, by rw [ht]; exact hP, va_K.moved hW.alike hK, hD⟩, hS.F ht⟩) hS.2.2 dX2_put_29

set_option maxHeartbeats 4000000 in
set_option maxRecDepth 100000 in
theorem lp_take {p : Program} {l : Launch} {e : Env} {s : State} {m : MethodId} {args : Array Value} {below : List Frame} {meth : Method} {c : Code} {Q : State → Prop} {dC : Nat → ClassId} {dI : Nat → Nat → Nat} {A : Nat → Prop} (h1 n k : Nat) (cA : ClassId) (f g : Nat → Int32) (hn : n < 2000) (hk : k < n) (hg : qAg n f g) (hx : p.tables.exec = Jvm.exec) (hb : c.code = cX2_take) (hml : c.maxLocals = 4) (hts : ∀ w ∈ wsX2_take, w.before args s = true) (hown : s.vm.findClass RX2 = some m.cls) (hK : va_K (dC, dI) vwCl [(cA, .int)] s) (hA : ∀ q : Nat, s.heap.size ≤ q → A q)
    (E0 : ∀ (i : Nat) (a : Nat → Int32), (n ≤ i + 1) → (qMt a f k i n) → ∀ (H : Heap) (locs : List Loc), va_P (dC, dI) vwCl [(h1, .inl (cA, 2000, .inl a))] H → va_D A [(h1, .inl (cA, 2000, .inl a))] → va_S A s.heap H locs → ∀ ls : Array Slot, lv_has ls 4 [(0, .ref h1)] → W p l e (headSpec wsX2_take ({ frames := 0, cells := 0, slots := 0, locals := 0 })).room s m args below meth c H locs 0 0 Q (F0 m 23 ls [])) :
    ∀ (fu : Nat) (i : Nat) (a : Nat → Int32), (n + 1 ≤ i + fu) → (k ≤ i) → (i < n) → (qMt a f k i n) → ∀ (H : Heap) (locs : List Loc), va_P (dC, dI) vwCl [(h1, .inl (cA, 2000, .inl a))] H → va_D A [(h1, .inl (cA, 2000, .inl a))] → va_S A s.heap H locs → ∀ ls : Array Slot, lv_has ls 4 [(0, .ref h1), (1, .int (nI n)), (2, .int (nI k)), (3, .int (nI i))] → W p l e (headSpec wsX2_take ({ frames := 0, cells := 0, slots := 0, locals := 0 })).room s m args below meth c H locs 0 0 Q (F0 m 2 ls []) := by
  intro fu
  induction fu with
  | zero =>
    intro i a hfu hi hi2 hv
    exact absurd hfu (by omega)
  | succ fu ih =>
    intro i a hfu hi hi2 hv H locs hP hD hS ls hl
    refine lv_iload_n hx hb dX2_take_2 rfl (lv_at hl 3 rfl) ?_
    refine lv_iconst (v := 1) hx hb dX2_take_3 (by decide) ?_
    refine lv_iadd hx hb dX2_take_4 ?_
    refine q_top (y := nI (i + 1)) (nI_1 i) ?_
    refine lv_iload_n hx hb dX2_take_5 rfl (lv_at hl 1 rfl) ?_
    refine lv_icmp_ge (tgt := 23) hx hb dX2_take_6 (by decide) (fun c_1 => ?_) (fun c_1 => ?_)
    · have k_1 : (i + 1) ≥ n := by
        simp (disch := omega) only [ti_lt, ti_le, ti_eq, ti_0, ti_1, ti_2, ti_m1, ti_100, ti_2000, nI_toInt] at c_1
        omega
      exact E0 i a (by omega) hv _ _ hP hD hS ls (lv_sub hl [0] rfl)
    · have k_1 : (i + 1) < n := by
        simp (disch := omega) only [ti_lt, ti_le, ti_eq, ti_0, ti_1, ti_2, ti_m1, ti_100, ti_2000, nI_toInt] at c_1
        omega
      refine lv_aload_n hx hb dX2_take_9 rfl (lv_at hl 0 rfl) ?_
      refine lv_iload_n hx hb dX2_take_10 rfl (lv_at hl 3 rfl) ?_
      refine lv_aload_n hx hb dX2_take_11 rfl (lv_at hl 0 rfl) ?_
      refine lv_iload_n hx hb dX2_take_12 rfl (lv_at hl 3 rfl) ?_
      refine lv_iconst (v := 1) hx hb dX2_take_13 (by decide) ?_
      refine lv_iadd hx hb dX2_take_14 ?_
      refine q_top (y := nI (i + 1)) (nI_1 i) ?_
      refine q_iald (k := i + 1) hx hb hK hP 0 0 rfl rfl (by omega) (by omega) dX2_take_15 ?_
      refine q_iast (k := i) hx hb hK hP hD hS 0 0 rfl rfl (by omega) (by omega) dX2_take_16 (fun H locs hP hD hS => ?_)
      have hP : va_P (dC, dI) vwCl [(h1, .inl (cA, 2000, .inl (upd a i (a (i + 1)))))] H := hP
      have hD : va_D A [(h1, .inl (cA, 2000, .inl (upd a i (a (i + 1)))))] := hD
      refine lv_iinc (v := nI (i + 1)) (lv' := [(3, .int (nI (i + 1))), (0, .ref h1), (1, .int (nI n)), (2, .int (nI k))]) hx hb dX2_take_17 hl (k := 3) rfl (nI_1 i) (by decide) rfl (fun ls hl => ?_)
      refine lv_goto (tgt := 2) hx hb dX2_take_20 (by decide) ?_
      exact ih (i + 1) (upd a i (a (i + 1))) (by omega) (by omega) (by omega) (qMt_s hv hi (by omega)) _ _ hP hD hS ls (lv_sub hl [1, 2, 3, 0] rfl)

set_option maxHeartbeats 4000000 in
set_option maxRecDepth 100000 in
theorem c_Mod_take (l : Launch) (dC : Nat → ClassId) (dI : Nat → Nat → Nat) (sz : Nat) (h1 n k : Nat) (cA : ClassId) (f g : Nat → Int32) (hn : n < 2000) (hk : k < n) (hg : qAg n f g) : Met l yX2_take wsX2_take ({ frames := 0, cells := 0, slots := 0, locals := 0 }) (va_Pc [.ref h1, .int (nI n), .int (nI k)] (fun U => U.heap.size = sz ∧ va_P (dC, dI) vwCl [(h1, .inl (cA, 2000, .inl f))] U.heap ∧ va_K (dC, dI) vwCl [(cA, .int)] U ∧ va_D (fun _ => True) [(h1, .inl (cA, 2000, .inl f))])) (va_Qv (fun (u : qR) => u = (qDel g k, n - 1)) (at_Arr dC dI (va_A [(h1, .inl (cA, 2000, .inl f))] sz) h1 cA) (va_A [(h1, .inl (cA, 2000, .inl f))] sz)) 0 0 (va_A [(h1, .inl (cA, 2000, .inl f))] sz) := by
  refine Met.ofW (cc := cX2_take) (maxL := 4) (ret := none) (by decide +kernel) rfl ?_
  intro p e s m args below meth c s₁ B hml hv
  obtain ⟨rfl, hsz, hP, hK, hD0⟩ := hv
  have hx := B.exec
  have hb := B.bytes
  have hr := B.returns
  have hts := atoms_spec (ws := wsX2_take) B.pre
  have hown : s.vm.findClass RX2 = some m.cls := findClass_of_methodNamed B.named
  have hlocks := B.notSynchronized
  subst hsz
  have hD := hD0.self (sz := s.heap.size)
  generalize hAe : va_A [(h1, .inl (cA, 2000, .inl f))] s.heap.size = A at hD ⊢
  have hA : ∀ q : Nat, s.heap.size ≤ q → A q := fun q h => by rw [← hAe]; exact Or.inr h
  have hS : va_S A s.heap s.heap [] := va_S.rf
  have hl := lv_entry ([.ref h1, .int (nI n), .int (nI k)]) (n := 4) (Nat.le_of_ble_eq_true rfl)
  rw [lg_entry_eq]
  generalize (lg_sl ([.ref h1, .int (nI n), .int (nI k)]) ++ List.replicate (4 - (lg_sl ([.ref h1, .int (nI n), .int (nI k)])).length) Slot.unset).toArray = ls at hl ⊢
  have hl : lv_has ls 4 [(0, .ref h1), (1, .int (nI n)), (2, .int (nI k))] := hl
  refine lv_iload_n hx hb dX2_take_0 rfl (lv_at hl 2 rfl) ?_
  refine lv_istore_n (lv' := [(3, .int (nI k)), (0, .ref h1), (1, .int (nI n)), (2, .int (nI k))]) hx hb dX2_take_1 rfl hl (by decide) rfl (fun ls hl => ?_)
  refine lp_take h1 n k cA f g hn hk hg hx hb hml hts hown hK hA (fun i a hi hv H locs hP hD hS ls hl => ?_) (n + 1) k f (by omega) (by omega) (by omega) qMt_0 _ _ hP hD hS ls (lv_sub hl [1, 2, 3, 0] rfl)
  exact W.vret hx hb hr (fun t ht hW => ⟨⟨(qDel g k, n - 1), rfl, rfl, _, qMt_e hv hi hg, by rw [ht]; exact hP, va_K.moved hW.alike hK, hD⟩, hS.F ht⟩) hS.2.2 dX2_take_23

set_option maxHeartbeats 4000000 in
set_option maxRecDepth 100000 in
theorem lp_place {p : Program} {l : Launch} {e : Env} {s : State} {m : MethodId} {args : Array Value} {below : List Frame} {meth : Method} {c : Code} {Q : State → Prop} {dC : Nat → ClassId} {dI : Nat → Nat → Nat} {H : Heap} {locs : List Loc} (h1 n : Nat) (cA : ClassId) (f g : Nat → Int32) (p2 p3 : Int32) (hn : n < 2000) (hg : qAg n f g) (hx : p.tables.exec = Jvm.exec) (hb : c.code = cX2_place) (hml : c.maxLocals = 6) (hts : ∀ w ∈ wsX2_place, w.before args s = true) (hown : s.vm.findClass RX2 = some m.cls) (hK : va_K (dC, dI) vwCl [(cA, .int)] s) (hP : va_P (dC, dI) vwCl [(h1, .inl (cA, 2000, .inl f))] H)
    (E0 : ∀ (z : Int32), (z = qPl f p2 p3 n) → ∀ ls : Array Slot, lv_has ls 6 [(0, .ref h1), (1, .int (nI n)), (2, .int p2), (3, .int p3), (4, .int z)] → W p l e (headSpec wsX2_place ({ frames := 0, cells := 0, slots := 0, locals := 0 })).room s m args below meth c H locs 0 0 Q (F0 m 39 ls [])) :
    ∀ (fu : Nat) (i : Nat) (z : Int32), (n + 1 ≤ i + fu) → (i ≤ n) → (z = qPl f p2 p3 i) → ∀ ls : Array Slot, lv_has ls 6 [(0, .ref h1), (1, .int (nI n)), (2, .int p2), (3, .int p3), (4, .int z), (5, .int (nI i))] → W p l e (headSpec wsX2_place ({ frames := 0, cells := 0, slots := 0, locals := 0 })).room s m args below meth c H locs 0 0 Q (F0 m 6 ls []) := by
  intro fu
  induction fu with
  | zero =>
    intro i z hfu hi hz0
    exact absurd hfu (by omega)
  | succ fu ih =>
    intro i z hfu hi hz0 ls hl
    refine lv_iload hx hb dX2_place_6 (lv_at hl 5 rfl) ?_
    refine lv_iload_n hx hb dX2_place_8 rfl (lv_at hl 1 rfl) ?_
    refine lv_icmp_ge (tgt := 39) hx hb dX2_place_9 (by decide) (fun c_1 => ?_) (fun c_1 => ?_)
    · have k_1 : i ≥ n := by
        simp (disch := omega) only [ti_lt, ti_le, ti_eq, ti_0, ti_1, ti_2, ti_m1, ti_100, ti_2000, nI_toInt] at c_1
        omega
      exact E0 z (by rw [hz0, show i = n by omega]) ls (lv_sub hl [0, 1, 2, 3, 4] rfl)
    · have k_1 : i < n := by
        simp (disch := omega) only [ti_lt, ti_le, ti_eq, ti_0, ti_1, ti_2, ti_m1, ti_100, ti_2000, nI_toInt] at c_1
        omega
      refine lv_aload_n hx hb dX2_place_12 rfl (lv_at hl 0 rfl) ?_
      refine lv_iload hx hb dX2_place_13 (lv_at hl 5 rfl) ?_
      refine q_iald (k := i) hx hb hK hP 0 0 rfl rfl (by omega) (by omega) dX2_place_15 ?_
      refine lv_iload_n hx hb dX2_place_16 rfl (lv_at hl 2 rfl) ?_
      refine lv_icmp_ne (tgt := 33) hx hb dX2_place_17 (by decide) (fun c_2 => ?_) (fun c_2 => ?_)
      · refine lv_iinc (v := nI (i + 1)) (lv' := [(5, .int (nI (i + 1))), (0, .ref h1), (1, .int (nI n)), (2, .int p2), (3, .int p3), (4, .int z)]) hx hb dX2_place_33 hl (k := 5) rfl (nI_1 i) (by decide) rfl (fun ls hl => ?_)
        refine lv_goto (tgt := 6) hx hb dX2_place_36 (by decide) ?_
        exact ih (i + 1) z (by omega) (by omega) (by rw [hz0]; simp only [qPl]; rw [if_neg (fun q => c_2 q.1)]) ls (lv_sub hl [1, 2, 3, 4, 5, 0] rfl)
      · refine lv_iload_n hx hb dX2_place_20 rfl (lv_at hl 3 rfl) ?_
        refine lv_if_ne (tgt := 29) hx hb dX2_place_21 (by decide) (fun c_3 => ?_) (fun c_3 => ?_)
        · refine lv_iload hx hb dX2_place_29 (lv_at hl 5 rfl) ?_
          refine lv_istore (lv' := [(4, .int (nI i)), (0, .ref h1), (1, .int (nI n)), (2, .int p2), (3, .int p3), (5, .int (nI i))]) hx hb dX2_place_31 hl (by decide) rfl (fun ls hl => ?_)
          refine lv_iinc (v := nI (i + 1)) (lv' := [(5, .int (nI (i + 1))), (4, .int (nI i)), (0, .ref h1), (1, .int (nI n)), (2, .int p2), (3, .int p3)]) hx hb dX2_place_33 hl (k := 5) rfl (nI_1 i) (by decide) rfl (fun ls hl => ?_)
          refine lv_goto (tgt := 6) hx hb dX2_place_36 (by decide) ?_
          exact ih (i + 1) (nI i) (by omega) (by omega) (by simp only [qPl]; rw [if_pos ⟨c_2, Or.inl c_3⟩]) ls (lv_sub hl [2, 3, 4, 5, 1, 0] rfl)
        · refine lv_iload hx hb dX2_place_24 (lv_at hl 4 rfl) ?_
          refine lv_if_ge (tgt := 33) hx hb dX2_place_26 (by decide) (fun c_4 => ?_) (fun c_4 => ?_)
          · refine lv_iinc (v := nI (i + 1)) (lv' := [(5, .int (nI (i + 1))), (0, .ref h1), (1, .int (nI n)), (2, .int p2), (3, .int p3), (4, .int z)]) hx hb dX2_place_33 hl (k := 5) rfl (nI_1 i) (by decide) rfl (fun ls hl => ?_)
            refine lv_goto (tgt := 6) hx hb dX2_place_36 (by decide) ?_
            exact ih (i + 1) z (by omega) (by omega) (by
              simp only [qPl]
              rw [← hz0, if_neg (fun q => by
                rcases q.2 with q2 | q2
                · exact q2 c_3
                · have q3 := c_4
                  rw [ti_lt] at q2
                  rw [ti_le] at q3
                  omega)]) ls (lv_sub hl [1, 2, 3, 4, 5, 0] rfl)
          · refine lv_iload hx hb dX2_place_29 (lv_at hl 5 rfl) ?_
            refine lv_istore (lv' := [(4, .int (nI i)), (0, .ref h1), (1, .int (nI n)), (2, .int p2), (3, .int p3), (5, .int (nI i))]) hx hb dX2_place_31 hl (by decide) rfl (fun ls hl => ?_)
            refine lv_iinc (v := nI (i + 1)) (lv' := [(5, .int (nI (i + 1))), (4, .int (nI i)), (0, .ref h1), (1, .int (nI n)), (2, .int p2), (3, .int p3)]) hx hb dX2_place_33 hl (k := 5) rfl (nI_1 i) (by decide) rfl (fun ls hl => ?_)
            refine lv_goto (tgt := 6) hx hb dX2_place_36 (by decide) ?_
            exact ih (i + 1) (nI i) (by omega) (by omega) (by
              simp only [qPl]
              rw [if_pos ⟨c_2, Or.inr (by
                rw [← hz0]
                have q3 := c_4
                rw [ti_le] at q3
                rw [ti_lt]
                omega)⟩]) ls (lv_sub hl [2, 3, 4, 5, 1, 0] rfl)

set_option maxHeartbeats 4000000 in
set_option maxRecDepth 100000 in
theorem c_Mod_place (l : Launch) (dC : Nat → ClassId) (dI : Nat → Nat → Nat) (h1 n : Nat) (cA : ClassId) (f g : Nat → Int32) (p2 p3 : Int32) (hn : n < 2000) (hg : qAg n f g) : Met l yX2_place wsX2_place ({ frames := 0, cells := 0, slots := 0, locals := 0 }) (va_Pc [.ref h1, .int (nI n), .int p2, .int p3] (fun U => va_P (dC, dI) vwCl [(h1, .inl (cA, 2000, .inl f))] U.heap ∧ va_K (dC, dI) vwCl [(cA, .int)] U)) (vp_Si (fun r => r = qPl g p2 p3 n)) 0 0 (fun _ => False) := by
  refine Met.ofW (cc := cX2_place) (maxL := 6) (ret := (some .int)) (by decide +kernel) rfl ?_
  intro p e s m args below meth c s₁ B hml hv
  obtain ⟨rfl, hP, hK⟩ := hv
  have hx := B.exec
  have hb := B.bytes
  have hr := B.returns
  have hts := atoms_spec (ws := wsX2_place) B.pre
  have hown : s.vm.findClass RX2 = some m.cls := findClass_of_methodNamed B.named
  have hlocks := B.notSynchronized
  have hl := lv_entry ([.ref h1, .int (nI n), .int p2, .int p3]) (n := 6) (Nat.le_of_ble_eq_true rfl)
  rw [lg_entry_eq]
  generalize (lg_sl ([.ref h1, .int (nI n), .int p2, .int p3]) ++ List.replicate (6 - (lg_sl ([.ref h1, .int (nI n), .int p2, .int p3])).length) Slot.unset).toArray = ls at hl ⊢
  have hl : lv_has ls 6 [(0, .ref h1), (1, .int (nI n)), (2, .int p2), (3, .int p3)] := hl
  refine lv_iconst (v := -1) hx hb dX2_place_0 (by decide) ?_
  refine lv_istore (lv' := [(4, .int (-1)), (0, .ref h1), (1, .int (nI n)), (2, .int p2), (3, .int p3)]) hx hb dX2_place_1 hl (by decide) rfl (fun ls hl => ?_)
  refine lv_iconst (v := nI 0) hx hb dX2_place_3 (by decide) ?_
  refine lv_istore (lv' := [(5, .int (nI 0)), (4, .int (-1)), (0, .ref h1), (1, .int (nI n)), (2, .int p2), (3, .int p3)]) hx hb dX2_place_4 hl (by decide) rfl (fun ls hl => ?_)
  refine lp_place h1 n cA f g p2 p3 hn hg hx hb hml hts hown hK hP (fun z hz0 ls hl => ?_) (n + 1) 0 (-1) (by omega) (by omega) rfl ls (lv_sub hl [2, 3, 4, 5, 1, 0] rfl)
  refine lv_iload hx hb dX2_place_39 (lv_at hl 4 rfl) ?_
  exact W.iret (v := z) hx hb hr (fun t ht hW => ⟨z, rfl, (hz0.trans (qPl_ag hg)), ht⟩) (fun q h => by cases h) dX2_place_41

set_option maxHeartbeats 4000000 in
set_option maxRecDepth 100000 in
theorem c_Mod_place_n (l : Launch) (dC : Nat → ClassId) (dI : Nat → Nat → Nat) (h1 : Nat) (cA : ClassId) (f : Nat → Int32) (p2 p3 : Int32) : Met l yX2_place wsX2_place ({ frames := 0, cells := 0, slots := 0, locals := 0 }) (va_Pc [.ref h1, .int (-1), .int p2, .int p3] (fun U => va_P (dC, dI) vwCl [(h1, .inl (cA, 2000, .inl f))] U.heap ∧ va_K (dC, dI) vwCl [(cA, .int)] U)) (vp_Si (fun r => r = -1)) 0 0 (fun _ => False) := by
  refine Met.ofW (cc := cX2_place) (maxL := 6) (ret := (some .int)) (by decide +kernel) rfl ?_
  intro p e s m args below meth c s₁ B hml hv
  obtain ⟨rfl, hP, hK⟩ := hv
  have hx := B.exec
  have hb := B.bytes
  have hr := B.returns
  have hts := atoms_spec (ws := wsX2_place) B.pre
  have hown : s.vm.findClass RX2 = some m.cls := findClass_of_methodNamed B.named
  have hlocks := B.notSynchronized
  have hl := lv_entry ([.ref h1, .int (-1), .int p2, .int p3]) (n := 6) (Nat.le_of_ble_eq_true rfl)
  rw [lg_entry_eq]
  generalize (lg_sl ([.ref h1, .int (-1), .int p2, .int p3]) ++ List.replicate (6 - (lg_sl ([.ref h1, .int (-1), .int p2, .int p3])).length) Slot.unset).toArray = ls at hl ⊢
  have hl : lv_has ls 6 [(0, .ref h1), (1, .int (-1)), (2, .int p2), (3, .int p3)] := hl
  refine lv_iconst (v := -1) hx hb dX2_place_0 (by decide) ?_
  refine lv_istore (lv' := [(4, .int (-1)), (0, .ref h1), (1, .int (-1)), (2, .int p2), (3, .int p3)]) hx hb dX2_place_1 hl (by decide) rfl (fun ls hl => ?_)
  refine lv_iconst (v := 0) hx hb dX2_place_3 (by decide) ?_
  refine lv_istore (lv' := [(5, .int 0), (4, .int (-1)), (0, .ref h1), (1, .int (-1)), (2, .int p2), (3, .int p3)]) hx hb dX2_place_4 hl (by decide) rfl (fun ls hl => ?_)
  refine lv_iload hx hb dX2_place_6 (lv_at hl 0 rfl) ?_
  refine lv_iload_n hx hb dX2_place_8 rfl (lv_at hl 3 rfl) ?_
  refine lv_icmp_ge (tgt := 39) hx hb dX2_place_9 (by decide) (fun c_1 => ?_) (fun c_0 => absurd (show (-1 : Int32) ≤ (0 : Int32) from (by decide)) c_0)
  refine lv_iload hx hb dX2_place_39 (lv_at hl 1 rfl) ?_
  exact W.iret (v := -1) hx hb hr (fun t ht hW => ⟨-1, rfl, rfl, ht⟩) (fun q h => by cases h) dX2_place_41

set_option maxHeartbeats 4000000 in
set_option maxRecDepth 100000 in
theorem c_Mod_many (l : Launch) (dC : Nat → ClassId) (dI : Nat → Nat → Nat) (m0 c1 c2 c3 nh nr nk : Nat) (fi me p0 : Int32) : Met l yX2_many wsX2_many ({ frames := 0, cells := 0, slots := 0, locals := 0 }) (va_Pc [.ref m0, .int p0] (fun U => va_P (dC, dI) vwCl [(m0, .inr (2, [.ref c1, .ref c2, .ref c3, .int (nI nh), .int (nI nr), .int (nI nk), .int fi, .int me]))] U.heap ∧ va_K (dC, dI) vwCl [] U)) (vp_Si (fun r => r = qMany nh nr nk p0)) 0 0 (fun _ => False) := by
  refine Met.ofW (cc := cX2_many) (maxL := 2) (ret := (some .int)) (by decide +kernel) rfl ?_
  intro p e s m args below meth c s₁ B hml hv
  obtain ⟨rfl, hP, hK⟩ := hv
  have hx := B.exec
  have hb := B.bytes
  have hr := B.returns
  have hts := atoms_spec (ws := wsX2_many) B.pre
  have hown : s.vm.findClass RX2 = some m.cls := findClass_of_methodNamed B.named
  have hlocks := B.notSynchronized
  have hl := lv_entry ([.ref m0, .int p0]) (n := 2) (Nat.le_of_ble_eq_true rfl)
  rw [lg_entry_eq]
  generalize (lg_sl ([.ref m0, .int p0]) ++ List.replicate (2 - (lg_sl ([.ref m0, .int p0])).length) Slot.unset).toArray = ls at hl ⊢
  have hl : lv_has ls 2 [(0, .ref m0), (1, .int p0)] := hl
  rcases q_w p0 with rfl | rfl | rfl | ⟨w0, w1, w2⟩
  · refine lv_iload_n hx hb dX2_many_0 rfl (lv_at hl 1 rfl) ?_
    refine lv_if_ne (tgt := 11) hx hb dX2_many_1 (by decide) (fun c_0 => absurd (show (0 : Int32) = (0 : Int32) from (by decide)) c_0) (fun c_1 => ?_)
    refine lv_aload_n hx hb dX2_many_4 rfl (lv_at hl 0 rfl) ?_
    refine va_get (D := (dC, dI)) (ci := 2) (v := .int (nI nh)) (C := RX2) (T := TX2) (N := 8) hx hb hts inX2_many_X2 hown hK hP 0 rfl rfl 3 (by decide) (hts (.fieldLink RX2 26 "QueueHallModel" "halls" "I") (List.mem_of_getElem? (i := 1) (by decide +kernel))) (fun _ h9 => h9) rfl dX2_many_5 ?_
    refine lv_goto (tgt := 36) hx hb dX2_many_8 (by decide) ?_
    exact W.iret (v := nI nh) hx hb hr (fun t ht hW => ⟨nI nh, rfl, qMany_0.symm, ht⟩) (fun q h => by cases h) dX2_many_36
  · refine lv_iload_n hx hb dX2_many_0 rfl (lv_at hl 1 rfl) ?_
    refine lv_if_ne (tgt := 11) hx hb dX2_many_1 (by decide) (fun c_2 => ?_) (fun c_0 => absurd c_0 (show ¬ (1 : Int32) = (0 : Int32) from (by decide)))
    refine lv_iload_n hx hb dX2_many_11 rfl (lv_at hl 1 rfl) ?_
    refine lv_iconst (v := 1) hx hb dX2_many_12 (by decide) ?_
    refine lv_icmp_ne (tgt := 23) hx hb dX2_many_13 (by decide) (fun c_0 => absurd (show (1 : Int32) = (1 : Int32) from (by decide)) c_0) (fun c_3 => ?_)
    refine lv_aload_n hx hb dX2_many_16 rfl (lv_at hl 0 rfl) ?_
    refine va_get (D := (dC, dI)) (ci := 2) (v := .int (nI nr)) (C := RX2) (T := TX2) (N := 8) hx hb hts inX2_many_X2 hown hK hP 0 rfl rfl 4 (by decide) (hts (.fieldLink RX2 29 "QueueHallModel" "rings" "I") (List.mem_of_getElem? (i := 2) (by decide +kernel))) (fun _ h9 => h9) rfl dX2_many_17 ?_
    refine lv_goto (tgt := 36) hx hb dX2_many_20 (by decide) ?_
    exact W.iret (v := nI nr) hx hb hr (fun t ht hW => ⟨nI nr, rfl, qMany_1.symm, ht⟩) (fun q h => by cases h) dX2_many_36
  · refine lv_iload_n hx hb dX2_many_0 rfl (lv_at hl 1 rfl) ?_
    refine lv_if_ne (tgt := 11) hx hb dX2_many_1 (by decide) (fun c_4 => ?_) (fun c_0 => absurd c_0 (show ¬ (2 : Int32) = (0 : Int32) from (by decide)))
    refine lv_iload_n hx hb dX2_many_11 rfl (lv_at hl 1 rfl) ?_
    refine lv_iconst (v := 1) hx hb dX2_many_12 (by decide) ?_
    refine lv_icmp_ne (tgt := 23) hx hb dX2_many_13 (by decide) (fun c_5 => ?_) (fun c_0 => absurd c_0 (show ¬ (2 : Int32) = (1 : Int32) from (by decide)))
    refine lv_iload_n hx hb dX2_many_23 rfl (lv_at hl 1 rfl) ?_
    refine lv_iconst (v := 2) hx hb dX2_many_24 (by decide) ?_
    refine lv_icmp_ne (tgt := 35) hx hb dX2_many_25 (by decide) (fun c_0 => absurd (show (2 : Int32) = (2 : Int32) from (by decide)) c_0) (fun c_6 => ?_)
    refine lv_aload_n hx hb dX2_many_28 rfl (lv_at hl 0 rfl) ?_
    refine va_get (D := (dC, dI)) (ci := 2) (v := .int (nI nk)) (C := RX2) (T := TX2) (N := 8) hx hb hts inX2_many_X2 hown hK hP 0 rfl rfl 5 (by decide) (hts (.fieldLink RX2 32 "QueueHallModel" "chains" "I") (List.mem_of_getElem? (i := 3) (by decide +kernel))) (fun _ h9 => h9) rfl dX2_many_29 ?_
    refine lv_goto (tgt := 36) hx hb dX2_many_32 (by decide) ?_
    exact W.iret (v := nI nk) hx hb hr (fun t ht hW => ⟨nI nk, rfl, qMany_2.symm, ht⟩) (fun q h => by cases h) dX2_many_36
  · refine lv_iload_n hx hb dX2_many_0 rfl (lv_at hl 1 rfl) ?_
    refine lv_if_ne (tgt := 11) hx hb dX2_many_1 (by decide) (fun c_7 => ?_) (fun c_0 => absurd c_0 (show ¬ p0 = (0 : Int32) from w0))
    refine lv_iload_n hx hb dX2_many_11 rfl (lv_at hl 1 rfl) ?_
    refine lv_iconst (v := 1) hx hb dX2_many_12 (by decide) ?_
    refine lv_icmp_ne (tgt := 23) hx hb dX2_many_13 (by decide) (fun c_8 => ?_) (fun c_0 => absurd c_0 (show ¬ p0 = (1 : Int32) from w1))
    refine lv_iload_n hx hb dX2_many_23 rfl (lv_at hl 1 rfl) ?_
    refine lv_iconst (v := 2) hx hb dX2_many_24 (by decide) ?_
    refine lv_icmp_ne (tgt := 35) hx hb dX2_many_25 (by decide) (fun c_9 => ?_) (fun c_0 => absurd c_0 (show ¬ p0 = (2 : Int32) from w2))
    refine lv_iconst (v := -1) hx hb dX2_many_35 (by decide) ?_
    exact W.iret (v := -1) hx hb hr (fun t ht hW => ⟨-1, rfl, (qMany_n w0 w1 w2).symm, ht⟩) (fun q h => by cases h) dX2_many_36

set_option maxHeartbeats 4000000 in
set_option maxRecDepth 100000 in
theorem c_Mod_lift (l : Launch) (dC : Nat → ClassId) (dI : Nat → Nat → Nat) (sz : Nat) (m0 c1 c2 c3 nh nr nk : Nat) (fi me : Int32) : Met l yX2_lift wsX2_lift ({ frames := 0, cells := 0, slots := 0, locals := 0 }) (va_Pc [.ref m0] (fun U => U.heap.size = sz ∧ va_P (dC, dI) vwCl [(m0, .inr (2, [.ref c1, .ref c2, .ref c3, .int (nI nh), .int (nI nr), .int (nI nk), .int fi, .int me]))] U.heap ∧ va_K (dC, dI) vwCl [] U ∧ va_D (fun _ => True) [(m0, .inr (2, [.ref c1, .ref c2, .ref c3, .int (nI nh), .int (nI nr), .int (nI nk), .int fi, .int me]))])) (va_Qv (fun (u : Unit) => u = ()) (at_M1 dC dI (va_A [(m0, .inr (2, [.ref c1, .ref c2, .ref c3, .int (nI nh), .int (nI nr), .int (nI nk), .int fi, .int me]))] sz) m0 c1 c2 c3 nh nr nk) (va_A [(m0, .inr (2, [.ref c1, .ref c2, .ref c3, .int (nI nh), .int (nI nr), .int (nI nk), .int fi, .int me]))] sz)) 0 0 (va_A [(m0, .inr (2, [.ref c1, .ref c2, .ref c3, .int (nI nh), .int (nI nr), .int (nI nk), .int fi, .int me]))] sz) := by
  refine Met.ofW (cc := cX2_lift) (maxL := 1) (ret := none) (by decide +kernel) rfl ?_
  intro p e s m args below meth c s₁ B hml hv
  obtain ⟨rfl, hsz, hP, hK, hD0⟩ := hv
  have hx := B.exec
  have hb := B.bytes
  have hr := B.returns
  have hts := atoms_spec (ws := wsX2_lift) B.pre
  have hown : s.vm.findClass RX2 = some m.cls := findClass_of_methodNamed B.named
  have hlocks := B.notSynchronized
  subst hsz
  have hD := hD0.self (sz := s.heap.size)
  generalize hAe : va_A [(m0, .inr (2, [.ref c1, .ref c2, .ref c3, .int (nI nh), .int (nI nr), .int (nI nk), .int fi, .int me]))] s.heap.size = A at hD ⊢
  have hA : ∀ q : Nat, s.heap.size ≤ q → A q := fun q h => by rw [← hAe]; exact Or.inr h
  have hS : va_S A s.heap s.heap [] := va_S.rf
  have hl := lv_entry ([.ref m0]) (n := 1) (Nat.le_of_ble_eq_true rfl)
  rw [lg_entry_eq]
  generalize (lg_sl ([.ref m0]) ++ List.replicate (1 - (lg_sl ([.ref m0])).length) Slot.unset).toArray = ls at hl ⊢
  have hl : lv_has ls 1 [(0, .ref m0)] := hl
  refine lv_aload_n hx hb dX2_lift_0 rfl (lv_at hl 0 rfl) ?_
  refine lv_iconst (v := -1) hx hb dX2_lift_1 (by decide) ?_
  refine va_put (D := (dC, dI)) (ci := 2) (v := .int (-1)) (ty := .int) (C := RX2) (T := TX2) (N := 8) hx hb hts inX2_lift_X2 tyX2 tyX2_ok nmX2 hown hK hP hD hS 0 rfl rfl 6 (by decide) (hts (.fieldLink RX2 19 "QueueHallModel" "finger" "I") (List.mem_of_getElem? (i := 1) (by decide +kernel))) (fun _ h9 => h9) rfl (by decide +kernel) rfl rfl (Nat.le_of_ble_eq_true rfl) dX2_lift_2 (fun H locs hP hD hS => ?_)
  have hP : va_P (dC, dI) vwCl [(m0, .inr (2, [.ref c1, .ref c2, .ref c3, .int (nI nh), .int (nI nr), .int (nI nk), .int (-1), .int me]))] H := hP
  have hD : va_D A [(m0, .inr (2, [.ref c1, .ref c2, .ref c3, .int (nI nh), .int (nI nr), .int (nI nk), .int (-1), .int me]))] := hD
  refine lv_aload_n hx hb dX2_lift_5 rfl (lv_at hl 0 rfl) ?_
  refine lv_iconst (v := -1) hx hb dX2_lift_6 (by decide) ?_
  refine va_put (D := (dC, dI)) (ci := 2) (v := .int (-1)) (ty := .int) (C := RX2) (T := TX2) (N := 8) hx hb hts inX2_lift_X2 tyX2 tyX2_ok nmX2 hown hK hP hD hS 0 rfl rfl 7 (by decide) (hts (.fieldLink RX2 23 "QueueHallModel" "met" "I") (List.mem_of_getElem? (i := 2) (by decide +kernel))) (fun _ h9 => h9) rfl (by decide +kernel) rfl rfl (Nat.le_of_ble_eq_true rfl) dX2_lift_7 (fun H locs hP hD hS => ?_)
  have hP : va_P (dC, dI) vwCl [(m0, .inr (2, [.ref c1, .ref c2, .ref c3, .int (nI nh), .int (nI nr), .int (nI nk), .int (-1), .int (-1)]))] H := hP
  have hD : va_D A [(m0, .inr (2, [.ref c1, .ref c2, .ref c3, .int (nI nh), .int (nI nr), .int (nI nk), .int (-1), .int (-1)]))] := hD
  exact W.vret hx hb hr (fun t ht hW => ⟨⟨(), rfl, rfl, by rw [ht]; exact hP, va_K.moved hW.alike hK, hD⟩, hS.F ht⟩) hS.2.2 dX2_lift_10

set_option maxHeartbeats 4000000 in
set_option maxRecDepth 100000 in
theorem lp_enter {p : Program} {l : Launch} {e : Env} {s : State} {m : MethodId} {args : Array Value} {below : List Frame} {meth : Method} {c : Code} {Q : State → Prop} {dC : Nat → ClassId} {dI : Nat → Nat → Nat} {A : Nat → Prop} (m0 c1 c2 c3 nh nr nk : Nat) (cA : ClassId) (eh gh er gr ek gk : Nat → Int32) (fi me : Int32) (p0 : Int32) (hn : nh + nr + nk < 2000) (ha1 : qAg nh eh gh) (ha2 : qAg nr er gr) (ha3 : qAg nk ek gk) (hF : qFok fi me nk) (hs : qSorted gh nh) (hx : p.tables.exec = Jvm.exec) (hb : c.code = cX2_enter) (hml : c.maxLocals = 3) (hts : ∀ w ∈ wsX2_enter, w.before args s = true) (hown : s.vm.findClass RX2 = some m.cls) (hK : va_K (dC, dI) vwCl [(cA, .int)] s) (hA : ∀ q : Nat, s.heap.size ≤ q → A q)
    (E0 : ∀ (i : Nat), (i ≤ nh) → (∀ j, j < i → eh j ≤ p0) → (i < nh → p0 < eh i) → ∀ (H : Heap) (locs : List Loc), va_P (dC, dI) vwCl [(m0, .inr (2, [.ref c1, .ref c2, .ref c3, .int (nI nh), .int (nI nr), .int (nI nk), .int fi, .int me])), (c1, .inl (cA, 2000, .inl eh)), (c2, .inl (cA, 2000, .inl er)), (c3, .inl (cA, 2000, .inl ek))] H → va_D A [(m0, .inr (2, [.ref c1, .ref c2, .ref c3, .int (nI nh), .int (nI nr), .int (nI nk), .int fi, .int me])), (c1, .inl (cA, 2000, .inl eh)), (c2, .inl (cA, 2000, .inl er)), (c3, .inl (cA, 2000, .inl ek))] → va_S A s.heap H locs → ∀ ls : Array Slot, lv_has ls 3 [(0, .ref m0), (1, .int p0), (2, .int (nI i))] → W p l e (headSpec wsX2_enter ({ frames := 1, cells := 0, slots := 0, locals := 25 })).room s m args below meth c H locs 0 0 Q (F0 m 39 ls [])) :
    ∀ (fu : Nat) (i : Nat), (nh + 1 ≤ i + fu) → (i ≤ nh) → (∀ j, j < i → eh j ≤ p0) → ∀ (H : Heap) (locs : List Loc), va_P (dC, dI) vwCl [(m0, .inr (2, [.ref c1, .ref c2, .ref c3, .int (nI nh), .int (nI nr), .int (nI nk), .int fi, .int me])), (c1, .inl (cA, 2000, .inl eh)), (c2, .inl (cA, 2000, .inl er)), (c3, .inl (cA, 2000, .inl ek))] H → va_D A [(m0, .inr (2, [.ref c1, .ref c2, .ref c3, .int (nI nh), .int (nI nr), .int (nI nk), .int fi, .int me])), (c1, .inl (cA, 2000, .inl eh)), (c2, .inl (cA, 2000, .inl er)), (c3, .inl (cA, 2000, .inl ek))] → va_S A s.heap H locs → ∀ ls : Array Slot, lv_has ls 3 [(0, .ref m0), (1, .int p0), (2, .int (nI i))] → W p l e (headSpec wsX2_enter ({ frames := 1, cells := 0, slots := 0, locals := 25 })).room s m args below meth c H locs 0 0 Q (F0 m 15 ls []) := by
  intro fu
  induction fu with
  | zero =>
    intro i hfu hi hq
    exact absurd hfu (by omega)
  | succ fu ih =>
    intro i hfu hi hq H locs hP hD hS ls hl
    refine lv_iload_n hx hb dX2_enter_15 rfl (lv_at hl 2 rfl) ?_
    refine lv_aload_n hx hb dX2_enter_16 rfl (lv_at hl 0 rfl) ?_
    refine va_get (D := (dC, dI)) (ci := 2) (v := .int (nI nh)) (C := RX2) (T := TX2) (N := 8) hx hb hts inX2_enter_X2 hown hK hP 0 rfl rfl 3 (by decide) (hts (.fieldLink RX2 26 "QueueHallModel" "halls" "I") (List.mem_of_getElem? (i := 1) (by decide +kernel))) (fun _ h9 => h9) rfl dX2_enter_17 ?_
    refine lv_icmp_ge (tgt := 39) hx hb dX2_enter_20 (by decide) (fun c_1 => ?_) (fun c_1 => ?_)
    · have k_1 : i ≥ nh := by
        simp (disch := omega) only [ti_lt, ti_le, ti_eq, ti_0, ti_1, ti_2, ti_m1, ti_100, ti_2000, nI_toInt] at c_1
        omega
      exact E0 i hi hq (fun q => absurd q (by omega)) _ _ hP hD hS ls (lv_sub hl [0, 1, 2] rfl)
    · have k_1 : i < nh := by
        simp (disch := omega) only [ti_lt, ti_le, ti_eq, ti_0, ti_1, ti_2, ti_m1, ti_100, ti_2000, nI_toInt] at c_1
        omega
      refine lv_aload_n hx hb dX2_enter_23 rfl (lv_at hl 0 rfl) ?_
      refine va_get (D := (dC, dI)) (ci := 2) (v := .ref c1) (C := RX2) (T := TX2) (N := 8) hx hb hts inX2_enter_X2 hown hK hP 0 rfl rfl 0 (by decide) (hts (.fieldLink RX2 9 "QueueHallModel" "hall" "[I") (List.mem_of_getElem? (i := 2) (by decide +kernel))) (fun _ h9 => h9) rfl dX2_enter_24 ?_
      refine lv_iload_n hx hb dX2_enter_27 rfl (lv_at hl 2 rfl) ?_
      refine q_iald (k := i) hx hb hK hP 1 0 rfl rfl (by omega) (by omega) dX2_enter_28 ?_
      refine lv_iload_n hx hb dX2_enter_29 rfl (lv_at hl 1 rfl) ?_
      refine lv_icmp_gt (tgt := 39) hx hb dX2_enter_30 (by decide) (fun c_2 => ?_) (fun c_2 => ?_)
      · exact E0 i hi hq (fun _ => c_2) _ _ hP hD hS ls (lv_sub hl [0, 1, 2] rfl)
      · refine lv_iinc (v := nI (i + 1)) (lv' := [(2, .int (nI (i + 1))), (0, .ref m0), (1, .int p0)]) hx hb dX2_enter_33 hl (k := 2) rfl (nI_1 i) (by decide) rfl (fun ls hl => ?_)
        refine lv_goto (tgt := 15) hx hb dX2_enter_36 (by decide) ?_
        exact ih (i + 1) (by omega) (by omega) (lt_s hq (by have q3 := c_2; rw [ti_lt] at q3; rw [ti_le]; omega)) _ _ hP hD hS ls (lv_sub hl [1, 2, 0] rfl)

set_option maxHeartbeats 4000000 in
set_option maxRecDepth 100000 in
theorem c_Mod_enter (l : Launch) (dC : Nat → ClassId) (dI : Nat → Nat → Nat) (sz : Nat) (m0 c1 c2 c3 nh nr nk : Nat) (cA : ClassId) (eh gh er gr ek gk : Nat → Int32) (fi me : Int32) (p0 : Int32) (hn : nh + nr + nk < 2000) (ha1 : qAg nh eh gh) (ha2 : qAg nr er gr) (ha3 : qAg nk ek gk) (hF : qFok fi me nk) (hs : qSorted gh nh) : Met l yX2_enter wsX2_enter ({ frames := 1, cells := 0, slots := 0, locals := 25 }) (va_Pc [.ref m0, .int p0] (fun U => U.heap.size = sz ∧ va_P (dC, dI) vwCl [(m0, .inr (2, [.ref c1, .ref c2, .ref c3, .int (nI nh), .int (nI nr), .int (nI nk), .int fi, .int me])), (c1, .inl (cA, 2000, .inl eh)), (c2, .inl (cA, 2000, .inl er)), (c3, .inl (cA, 2000, .inl ek))] U.heap ∧ va_K (dC, dI) vwCl [(cA, .int)] U ∧ va_D (fun _ => True) [(m0, .inr (2, [.ref c1, .ref c2, .ref c3, .int (nI nh), .int (nI nr), .int (nI nk), .int fi, .int me])), (c1, .inl (cA, 2000, .inl eh)), (c2, .inl (cA, 2000, .inl er)), (c3, .inl (cA, 2000, .inl ek))])) (va_Qi (fun (r : Int32) (u : qS) => (r, u) = qEnter p0 ((gh, nh), (gr, nr), (gk, nk), fi, me)) (at_M dC dI (va_A [(m0, .inr (2, [.ref c1, .ref c2, .ref c3, .int (nI nh), .int (nI nr), .int (nI nk), .int fi, .int me])), (c1, .inl (cA, 2000, .inl eh)), (c2, .inl (cA, 2000, .inl er)), (c3, .inl (cA, 2000, .inl ek))] sz) m0 c1 c2 c3 cA) (va_A [(m0, .inr (2, [.ref c1, .ref c2, .ref c3, .int (nI nh), .int (nI nr), .int (nI nk), .int fi, .int me])), (c1, .inl (cA, 2000, .inl eh)), (c2, .inl (cA, 2000, .inl er)), (c3, .inl (cA, 2000, .inl ek))] sz)) 0 0 (va_A [(m0, .inr (2, [.ref c1, .ref c2, .ref c3, .int (nI nh), .int (nI nr), .int (nI nk), .int fi, .int me])), (c1, .inl (cA, 2000, .inl eh)), (c2, .inl (cA, 2000, .inl er)), (c3, .inl (cA, 2000, .inl ek))] sz) := by
  refine Met.ofW (cc := cX2_enter) (maxL := 3) (ret := (some .int)) (by decide +kernel) rfl ?_
  intro p e s m args below meth c s₁ B hml hv
  obtain ⟨rfl, hsz, hP, hK, hD0⟩ := hv
  have hx := B.exec
  have hb := B.bytes
  have hr := B.returns
  have hts := atoms_spec (ws := wsX2_enter) B.pre
  have hown : s.vm.findClass RX2 = some m.cls := findClass_of_methodNamed B.named
  have hlocks := B.notSynchronized
  subst hsz
  have hD := hD0.self (sz := s.heap.size)
  generalize hAe : va_A [(m0, .inr (2, [.ref c1, .ref c2, .ref c3, .int (nI nh), .int (nI nr), .int (nI nk), .int fi, .int me])), (c1, .inl (cA, 2000, .inl eh)), (c2, .inl (cA, 2000, .inl er)), (c3, .inl (cA, 2000, .inl ek))] s.heap.size = A at hD ⊢
  have hA : ∀ q : Nat, s.heap.size ≤ q → A q := fun q h => by rw [← hAe]; exact Or.inr h
  have hS : va_S A s.heap s.heap [] := va_S.rf
  have hl := lv_entry ([.ref m0, .int p0]) (n := 3) (Nat.le_of_ble_eq_true rfl)
  rw [lg_entry_eq]
  generalize (lg_sl ([.ref m0, .int p0]) ++ List.replicate (3 - (lg_sl ([.ref m0, .int p0])).length) Slot.unset).toArray = ls at hl ⊢
  have hl : lv_has ls 3 [(0, .ref m0), (1, .int p0)] := hl
  refine lv_aload_n hx hb dX2_enter_0 rfl (lv_at hl 0 rfl) ?_
  refine va_get (D := (dC, dI)) (ci := 2) (v := .int (nI nh)) (C := RX2) (T := TX2) (N := 8) hx hb hts inX2_enter_X2 hown hK hP 0 rfl rfl 3 (by decide) (hts (.fieldLink RX2 26 "QueueHallModel" "halls" "I") (List.mem_of_getElem? (i := 1) (by decide +kernel))) (fun _ h9 => h9) rfl dX2_enter_1 ?_
  refine lv_sipush (v := 2000) hx hb dX2_enter_4 (by decide) ?_
  refine lv_icmp_ne (tgt := 13) hx hb dX2_enter_7 (by decide) (fun c_1 => ?_) (fun c_0 => absurd c_0 (show ¬ (nI nh) = (2000 : Int32) from (by simp (disch := omega) only [ti_lt, ti_le, ti_eq, ti_0, ti_1, ti_2, ti_m1, ti_100, ti_2000, nI_toInt] <;> omega)))
  have k_1 : ¬ nh = 2000 := by
    simp (disch := omega) only [ti_lt, ti_le, ti_eq, ti_0, ti_1, ti_2, ti_m1, ti_100, ti_2000, nI_toInt] at c_1
    omega
  refine lv_iconst (v := nI 0) hx hb dX2_enter_13 (by decide) ?_
  refine lv_istore_n (lv' := [(2, .int (nI 0)), (0, .ref m0), (1, .int p0)]) hx hb dX2_enter_14 rfl hl (by decide) rfl (fun ls hl => ?_)
  refine lp_enter m0 c1 c2 c3 nh nr nk cA eh gh er gr ek gk fi me p0 hn ha1 ha2 ha3 hF hs hx hb hml hts hown hK hA (fun i hi hq he H locs hP hD hS ls hl => ?_) (nh + 1) 0 (by omega) (by omega) (fun j hj => absurd hj (Nat.not_lt_zero j)) _ _ hP hD hS ls (lv_sub hl [1, 2, 0] rfl)
  refine lv_aload_n hx hb dX2_enter_39 rfl (lv_at hl 0 rfl) ?_
  refine va_get (D := (dC, dI)) (ci := 2) (v := .ref c1) (C := RX2) (T := TX2) (N := 8) hx hb hts inX2_enter_X2 hown hK hP 0 rfl rfl 0 (by decide) (hts (.fieldLink RX2 9 "QueueHallModel" "hall" "[I") (List.mem_of_getElem? (i := 2) (by decide +kernel))) (fun _ h9 => h9) rfl dX2_enter_40 ?_
  refine lv_aload_n hx hb dX2_enter_43 rfl (lv_at hl 0 rfl) ?_
  refine va_get (D := (dC, dI)) (ci := 2) (v := .int (nI nh)) (C := RX2) (T := TX2) (N := 8) hx hb hts inX2_enter_X2 hown hK hP 0 rfl rfl 3 (by decide) (hts (.fieldLink RX2 26 "QueueHallModel" "halls" "I") (List.mem_of_getElem? (i := 1) (by decide +kernel))) (fun _ h9 => h9) rfl dX2_enter_44 ?_
  refine lv_iload_n hx hb dX2_enter_47 rfl (lv_at hl 2 rfl) ?_
  refine lv_iload_n hx hb dX2_enter_48 rfl (lv_at hl 1 rfl) ?_
  have hPc := hP.sub (ws' := [(c1, .inl (cA, 2000, .inl eh))]) [1] rfl
  have hKc := hK.sub (tys' := [(cA, .int)]) [0] rfl
  have hDc := hD.sub (ws' := [(c1, .inl (cA, 2000, .inl eh))]) [1] (by decide) rfl
  have hFc := va_free (wc := [(c1, .inl (cA, 2000, .inl eh))]) hD hS hA [1] rfl
  refine va_callv (va_runS (As := [.ref c1, .int (nI nh), .int (nI i), .int p0]) (rest := []) ⟨hx, hb, hml, hown, hts⟩ (c_Mod_put l dC dI H.size c1 nh i cA eh gh p0 (by omega) (by omega) ha1) (cwS 4 hts gX2_enter_X2_put_v rfl rfl rfl (by decide +kernel) ⟨Nat.le_of_ble_eq_true rfl, Nat.le_of_ble_eq_true rfl⟩) ⟨q_blW, fun U hU hW => ⟨rfl, by rw [hU], by rw [hU]; exact hPc, va_K.moved hW.alike hKc, hDc.weaken (fun _ _ _ _ => trivial)⟩⟩ rfl rfl hl.1 rfl (lv_room (Nat.le_of_ble_eq_true rfl)) dX2_enter_49 ⟨Nat.le_of_ble_eq_true rfl, Nat.le_of_ble_eq_true rfl⟩) hS (fun q _ h => hFc q h) hFc (fun u_2 t_2 H1 locs ht hvm hw hB hz1 hk1 hS => ?_)
  subst hw
  obtain ⟨f_2, hg_2, hP1, hK1, hD1⟩ := hB
  rw [ht] at hP1
  obtain ⟨hP, hD⟩ := q_join (wr := [(m0, .inr (2, [.ref c1, .ref c2, .ref c3, .int (nI nh), .int (nI nr), .int (nI nk), .int fi, .int me])), (c2, .inl (cA, 2000, .inl er)), (c3, .inl (cA, 2000, .inl ek))]) (w1 := [(c1, .inl (cA, 2000, .inl f_2))]) (wz := [(m0, .inr (2, [.ref c1, .ref c2, .ref c3, .int (nI nh), .int (nI nr), .int (nI nk), .int fi, .int me])), (c1, .inl (cA, 2000, .inl f_2)), (c2, .inl (cA, 2000, .inl er)), (c3, .inl (cA, 2000, .inl ek))]) hP hD [1] [0, 2, 3] [0, 3, 1, 2] rfl rfl (by decide) (by decide) hk1 hFc hP1 hD1 rfl rfl (by decide)
  generalize H1 = H at hP hS ⊢
  refine lv_aload_n hx hb dX2_enter_52 rfl (lv_at hl 0 rfl) ?_
  refine lv_dup hx hb dX2_enter_53 rfl ?_
  refine va_get (D := (dC, dI)) (ci := 2) (v := .int (nI nh)) (C := RX2) (T := TX2) (N := 8) hx hb hts inX2_enter_X2 hown hK hP 0 rfl rfl 3 (by decide) (hts (.fieldLink RX2 26 "QueueHallModel" "halls" "I") (List.mem_of_getElem? (i := 1) (by decide +kernel))) (fun _ h9 => h9) rfl dX2_enter_54 ?_
  refine lv_iconst (v := 1) hx hb dX2_enter_57 (by decide) ?_
  refine lv_iadd hx hb dX2_enter_58 ?_
  refine q_top (y := nI (nh + 1)) (nI_1 nh) ?_
  refine lv_dup_x1 hx hb dX2_enter_59 rfl rfl ?_
  refine va_put (D := (dC, dI)) (ci := 2) (v := .int (nI (nh + 1))) (ty := .int) (C := RX2) (T := TX2) (N := 8) hx hb hts inX2_enter_X2 tyX2 tyX2_ok nmX2 hown hK hP hD hS 0 rfl rfl 3 (by decide) (hts (.fieldLink RX2 26 "QueueHallModel" "halls" "I") (List.mem_of_getElem? (i := 1) (by decide +kernel))) (fun _ h9 => h9) rfl (by decide +kernel) rfl rfl (Nat.le_of_ble_eq_true rfl) dX2_enter_60 (fun H locs hP hD hS => ?_)
  have hP : va_P (dC, dI) vwCl [(m0, .inr (2, [.ref c1, .ref c2, .ref c3, .int (nI (nh + 1)), .int (nI nr), .int (nI nk), .int fi, .int me])), (c1, .inl (cA, 2000, .inl f_2)), (c2, .inl (cA, 2000, .inl er)), (c3, .inl (cA, 2000, .inl ek))] H := hP
  have hD : va_D A [(m0, .inr (2, [.ref c1, .ref c2, .ref c3, .int (nI (nh + 1)), .int (nI nr), .int (nI nk), .int fi, .int me])), (c1, .inl (cA, 2000, .inl f_2)), (c2, .inl (cA, 2000, .inl er)), (c3, .inl (cA, 2000, .inl ek))] := hD
  exact W.iret (v := nI (nh + 1)) hx hb hr (fun t ht hW => ⟨⟨nI (nh + 1), ((qIns gh (qCb gh p0 nh) p0, nh + 1), (gr, nr), (gk, nk), fi, me), rfl, rfl, f_2, er, ek, (qAg_tr hg_2 (qEnt hs hi (fun j hj => by rw [← ha1 j (by omega)]; exact hq j hj) (fun q => by rw [← ha1 i q]; exact he q))), ha2, ha3, by rw [ht]; exact hP, va_K.moved hW.alike hK, hD⟩, hS.F ht⟩) hS.2.2 dX2_enter_63

set_option maxHeartbeats 4000000 in
set_option maxRecDepth 100000 in
theorem c_Mod_call (l : Launch) (dC : Nat → ClassId) (dI : Nat → Nat → Nat) (sz : Nat) (m0 c1 c2 c3 nh nr nk : Nat) (cA : ClassId) (eh gh er gr ek gk : Nat → Int32) (fi me : Int32) (p0 : Int32) (hn : nh + nr + nk < 2000) (ha1 : qAg nh eh gh) (ha2 : qAg nr er gr) (ha3 : qAg nk ek gk) (hF : qFok fi me nk) : Met l yX2_call wsX2_call ({ frames := 1, cells := 0, slots := 0, locals := 25 }) (va_Pc [.ref m0, .int p0] (fun U => U.heap.size = sz ∧ va_P (dC, dI) vwCl [(m0, .inr (2, [.ref c1, .ref c2, .ref c3, .int (nI nh), .int (nI nr), .int (nI nk), .int fi, .int me])), (c1, .inl (cA, 2000, .inl eh)), (c2, .inl (cA, 2000, .inl er)), (c3, .inl (cA, 2000, .inl ek))] U.heap ∧ va_K (dC, dI) vwCl [(cA, .int)] U ∧ va_D (fun _ => True) [(m0, .inr (2, [.ref c1, .ref c2, .ref c3, .int (nI nh), .int (nI nr), .int (nI nk), .int fi, .int me])), (c1, .inl (cA, 2000, .inl eh)), (c2, .inl (cA, 2000, .inl er)), (c3, .inl (cA, 2000, .inl ek))])) (va_Ql (fun (r : Int64) (u : qS) => (r, u) = qCall p0 ((gh, nh), (gr, nr), (gk, nk), fi, me)) (at_M dC dI (va_A [(m0, .inr (2, [.ref c1, .ref c2, .ref c3, .int (nI nh), .int (nI nr), .int (nI nk), .int fi, .int me])), (c1, .inl (cA, 2000, .inl eh)), (c2, .inl (cA, 2000, .inl er)), (c3, .inl (cA, 2000, .inl ek))] sz) m0 c1 c2 c3 cA) (va_A [(m0, .inr (2, [.ref c1, .ref c2, .ref c3, .int (nI nh), .int (nI nr), .int (nI nk), .int fi, .int me])), (c1, .inl (cA, 2000, .inl eh)), (c2, .inl (cA, 2000, .inl er)), (c3, .inl (cA, 2000, .inl ek))] sz)) 0 0 (va_A [(m0, .inr (2, [.ref c1, .ref c2, .ref c3, .int (nI nh), .int (nI nr), .int (nI nk), .int fi, .int me])), (c1, .inl (cA, 2000, .inl eh)), (c2, .inl (cA, 2000, .inl er)), (c3, .inl (cA, 2000, .inl ek))] sz) := by
  refine Met.ofW (cc := cX2_call) (maxL := 3) (ret := (some .long)) (by decide +kernel) rfl ?_
  intro p e s m args below meth c s₁ B hml hv
  obtain ⟨rfl, hsz, hP, hK, hD0⟩ := hv
  have hx := B.exec
  have hb := B.bytes
  have hr := B.returns
  have hts := atoms_spec (ws := wsX2_call) B.pre
  have hown : s.vm.findClass RX2 = some m.cls := findClass_of_methodNamed B.named
  have hlocks := B.notSynchronized
  subst hsz
  have hD := hD0.self (sz := s.heap.size)
  generalize hAe : va_A [(m0, .inr (2, [.ref c1, .ref c2, .ref c3, .int (nI nh), .int (nI nr), .int (nI nk), .int fi, .int me])), (c1, .inl (cA, 2000, .inl eh)), (c2, .inl (cA, 2000, .inl er)), (c3, .inl (cA, 2000, .inl ek))] s.heap.size = A at hD ⊢
  have hA : ∀ q : Nat, s.heap.size ≤ q → A q := fun q h => by rw [← hAe]; exact Or.inr h
  have hS : va_S A s.heap s.heap [] := va_S.rf
  have hl := lv_entry ([.ref m0, .int p0]) (n := 3) (Nat.le_of_ble_eq_true rfl)
  rw [lg_entry_eq]
  generalize (lg_sl ([.ref m0, .int p0]) ++ List.replicate (3 - (lg_sl ([.ref m0, .int p0])).length) Slot.unset).toArray = ls at hl ⊢
  have hl : lv_has ls 3 [(0, .ref m0), (1, .int p0)] := hl
  by_cases hz : p0 = 0 <;> rcases Nat.eq_zero_or_pos nh with hn0 | hn0
  · refine lv_aload_n hx hb dX2_call_0 rfl (lv_at hl 0 rfl) ?_
    refine va_get (D := (dC, dI)) (ci := 2) (v := .int (nI nh)) (C := RX2) (T := TX2) (N := 8) hx hb hts inX2_call_X2 hown hK hP 0 rfl rfl 3 (by decide) (hts (.fieldLink RX2 26 "QueueHallModel" "halls" "I") (List.mem_of_getElem? (i := 1) (by decide +kernel))) (fun _ h9 => h9) rfl dX2_call_1 ?_
    refine lv_if_ne (tgt := 11) hx hb dX2_call_4 (by decide) (fun c_0 => absurd (show (nI nh) = (0 : Int32) from (by simp (disch := omega) only [ti_lt, ti_le, ti_eq, ti_0, ti_1, ti_2, ti_m1, ti_100, ti_2000, nI_toInt] <;> omega)) c_0) (fun c_1 => ?_)
    have k_1 : nh = 0 := by
      simp (disch := omega) only [ti_lt, ti_le, ti_eq, ti_0, ti_1, ti_2, ti_m1, ti_100, ti_2000, nI_toInt] at c_1
      omega
    refine lv_ldc2 (v := qNo) hx hb hown (hts (.constantLong RX2 39 (1099511627776)) (List.mem_of_getElem? (i := 2) (by decide +kernel))) dX2_call_7 ?_
    exact W.lret (v := qNo) hx hb hr (fun t ht hW => ⟨⟨qNo, ((gh, nh), (gr, nr), (gk, nk), fi, me), rfl, (by simp only [qCall, if_pos hz, qTake_o (q_hp00 hn0)]), eh, er, ek, ha1, ha2, ha3, by rw [ht]; exact hP, va_K.moved hW.alike hK, hD⟩, hS.F ht⟩) hS.2.2 dX2_call_10
  · refine lv_aload_n hx hb dX2_call_0 rfl (lv_at hl 0 rfl) ?_
    refine va_get (D := (dC, dI)) (ci := 2) (v := .int (nI nh)) (C := RX2) (T := TX2) (N := 8) hx hb hts inX2_call_X2 hown hK hP 0 rfl rfl 3 (by decide) (hts (.fieldLink RX2 26 "QueueHallModel" "halls" "I") (List.mem_of_getElem? (i := 1) (by decide +kernel))) (fun _ h9 => h9) rfl dX2_call_1 ?_
    refine lv_if_ne (tgt := 11) hx hb dX2_call_4 (by decide) (fun c_2 => ?_) (fun c_0 => absurd c_0 (show ¬ (nI nh) = (0 : Int32) from (by simp (disch := omega) only [ti_lt, ti_le, ti_eq, ti_0, ti_1, ti_2, ti_m1, ti_100, ti_2000, nI_toInt] <;> omega)))
    have k_2 : ¬ nh = 0 := by
      simp (disch := omega) only [ti_lt, ti_le, ti_eq, ti_0, ti_1, ti_2, ti_m1, ti_100, ti_2000, nI_toInt] at c_2
      omega
    refine lv_aload_n hx hb dX2_call_11 rfl (lv_at hl 0 rfl) ?_
    refine va_get (D := (dC, dI)) (ci := 2) (v := .ref c1) (C := RX2) (T := TX2) (N := 8) hx hb hts inX2_call_X2 hown hK hP 0 rfl rfl 0 (by decide) (hts (.fieldLink RX2 9 "QueueHallModel" "hall" "[I") (List.mem_of_getElem? (i := 3) (by decide +kernel))) (fun _ h9 => h9) rfl dX2_call_12 ?_
    refine lv_iconst (v := 0) hx hb dX2_call_15 (by decide) ?_
    refine q_top (y := nI 0) rfl ?_
    refine q_iald (k := 0) hx hb hK hP 1 0 rfl rfl (by omega) (by omega) dX2_call_16 ?_
    refine lv_istore_n (lv' := [(2, .int (eh 0)), (0, .ref m0), (1, .int p0)]) hx hb dX2_call_17 rfl hl (by decide) rfl (fun ls hl => ?_)
    refine lv_iload_n hx hb dX2_call_18 rfl (lv_at hl 2 rfl) ?_
    refine lv_if_ne (tgt := 44) hx hb dX2_call_19 (by decide) (fun c_0 => absurd (show p0 = (0 : Int32) from hz) c_0) (fun c_3 => ?_)
    refine lv_aload_n hx hb dX2_call_22 rfl (lv_at hl 1 rfl) ?_
    refine va_get (D := (dC, dI)) (ci := 2) (v := .ref c1) (C := RX2) (T := TX2) (N := 8) hx hb hts inX2_call_X2 hown hK hP 0 rfl rfl 0 (by decide) (hts (.fieldLink RX2 9 "QueueHallModel" "hall" "[I") (List.mem_of_getElem? (i := 3) (by decide +kernel))) (fun _ h9 => h9) rfl dX2_call_23 ?_
    refine lv_aload_n hx hb dX2_call_26 rfl (lv_at hl 1 rfl) ?_
    refine va_get (D := (dC, dI)) (ci := 2) (v := .int (nI nh)) (C := RX2) (T := TX2) (N := 8) hx hb hts inX2_call_X2 hown hK hP 0 rfl rfl 3 (by decide) (hts (.fieldLink RX2 26 "QueueHallModel" "halls" "I") (List.mem_of_getElem? (i := 1) (by decide +kernel))) (fun _ h9 => h9) rfl dX2_call_27 ?_
    refine lv_iconst (v := nI 0) hx hb dX2_call_30 (by decide) ?_
    have hPc := hP.sub (ws' := [(c1, .inl (cA, 2000, .inl eh))]) [1] rfl
    have hKc := hK.sub (tys' := [(cA, .int)]) [0] rfl
    have hDc := hD.sub (ws' := [(c1, .inl (cA, 2000, .inl eh))]) [1] (by decide) rfl
    have hFc := va_free (wc := [(c1, .inl (cA, 2000, .inl eh))]) hD hS hA [1] rfl
    refine va_callv (va_runS (As := [.ref c1, .int (nI nh), .int (nI 0)]) (rest := []) ⟨hx, hb, hml, hown, hts⟩ (c_Mod_take l dC dI s.heap.size c1 nh 0 cA eh gh (by omega) (by omega) ha1) (cwS 3 hts gX2_call_X2_take_v rfl rfl rfl (by decide +kernel) ⟨Nat.le_of_ble_eq_true rfl, Nat.le_of_ble_eq_true rfl⟩) ⟨q_blW, fun U hU hW => ⟨rfl, by rw [hU], by rw [hU]; exact hPc, va_K.moved hW.alike hKc, hDc.weaken (fun _ _ _ _ => trivial)⟩⟩ rfl rfl hl.1 rfl (lv_room (Nat.le_of_ble_eq_true rfl)) dX2_call_31 ⟨Nat.le_of_ble_eq_true rfl, Nat.le_of_ble_eq_true rfl⟩) hS (fun q _ h => hFc q h) hFc (fun u_4 t_4 H1 locs ht hvm hw hB hz1 hk1 hS => ?_)
    subst hw
    obtain ⟨f_4, hg_4, hP1, hK1, hD1⟩ := hB
    rw [ht] at hP1
    obtain ⟨hP, hD⟩ := q_join (wr := [(m0, .inr (2, [.ref c1, .ref c2, .ref c3, .int (nI nh), .int (nI nr), .int (nI nk), .int fi, .int me])), (c2, .inl (cA, 2000, .inl er)), (c3, .inl (cA, 2000, .inl ek))]) (w1 := [(c1, .inl (cA, 2000, .inl f_4))]) (wz := [(m0, .inr (2, [.ref c1, .ref c2, .ref c3, .int (nI nh), .int (nI nr), .int (nI nk), .int fi, .int me])), (c1, .inl (cA, 2000, .inl f_4)), (c2, .inl (cA, 2000, .inl er)), (c3, .inl (cA, 2000, .inl ek))]) hP hD [1] [0, 2, 3] [0, 3, 1, 2] rfl rfl (by decide) (by decide) hk1 hFc hP1 hD1 rfl rfl (by decide)
    generalize H1 = H at hP hS ⊢
    refine lv_aload_n hx hb dX2_call_34 rfl (lv_at hl 1 rfl) ?_
    refine lv_dup hx hb dX2_call_35 rfl ?_
    refine va_get (D := (dC, dI)) (ci := 2) (v := .int (nI nh)) (C := RX2) (T := TX2) (N := 8) hx hb hts inX2_call_X2 hown hK hP 0 rfl rfl 3 (by decide) (hts (.fieldLink RX2 26 "QueueHallModel" "halls" "I") (List.mem_of_getElem? (i := 1) (by decide +kernel))) (fun _ h9 => h9) rfl dX2_call_36 ?_
    refine lv_iconst (v := 1) hx hb dX2_call_39 (by decide) ?_
    refine lv_isub hx hb dX2_call_40 ?_
    refine q_top (y := nI (nh - 1)) (q_m1 (by omega)) ?_
    refine va_put (D := (dC, dI)) (ci := 2) (v := .int (nI (nh - 1))) (ty := .int) (C := RX2) (T := TX2) (N := 8) hx hb hts inX2_call_X2 tyX2 tyX2_ok nmX2 hown hK hP hD hS 0 rfl rfl 3 (by decide) (hts (.fieldLink RX2 26 "QueueHallModel" "halls" "I") (List.mem_of_getElem? (i := 1) (by decide +kernel))) (fun _ h9 => h9) rfl (by decide +kernel) rfl rfl (Nat.le_of_ble_eq_true rfl) dX2_call_41 (fun H locs hP hD hS => ?_)
    have hP : va_P (dC, dI) vwCl [(m0, .inr (2, [.ref c1, .ref c2, .ref c3, .int (nI (nh - 1)), .int (nI nr), .int (nI nk), .int fi, .int me])), (c1, .inl (cA, 2000, .inl f_4)), (c2, .inl (cA, 2000, .inl er)), (c3, .inl (cA, 2000, .inl ek))] H := hP
    have hD : va_D A [(m0, .inr (2, [.ref c1, .ref c2, .ref c3, .int (nI (nh - 1)), .int (nI nr), .int (nI nk), .int fi, .int me])), (c1, .inl (cA, 2000, .inl f_4)), (c2, .inl (cA, 2000, .inl er)), (c3, .inl (cA, 2000, .inl ek))] := hD
    refine lv_iload_n hx hb dX2_call_44 rfl (lv_at hl 0 rfl) ?_
    refine lv_i2l (v := (eh 0).toInt64) hx hb dX2_call_45 rfl ?_
    exact W.lret (v := (eh 0).toInt64) hx hb hr (fun t ht hW => ⟨⟨(eh 0).toInt64, ((qDel gh 0, nh - 1), (gr, nr), (gk, nk), fi, me), rfl, (by simp only [qCall, if_pos hz, qTake_i (show 0 < nh by omega) (show nh < 2 ^ 31 by omega), ha1 0 (show 0 < nh by omega)]), f_4, er, ek, hg_4, ha2, ha3, by rw [ht]; exact hP, va_K.moved hW.alike hK, hD⟩, hS.F ht⟩) hS.2.2 dX2_call_46
  · refine lv_aload_n hx hb dX2_call_0 rfl (lv_at hl 0 rfl) ?_
    refine va_get (D := (dC, dI)) (ci := 2) (v := .int (nI nh)) (C := RX2) (T := TX2) (N := 8) hx hb hts inX2_call_X2 hown hK hP 0 rfl rfl 3 (by decide) (hts (.fieldLink RX2 26 "QueueHallModel" "halls" "I") (List.mem_of_getElem? (i := 1) (by decide +kernel))) (fun _ h9 => h9) rfl dX2_call_1 ?_
    refine lv_if_ne (tgt := 11) hx hb dX2_call_4 (by decide) (fun c_0 => absurd (show (nI nh) = (0 : Int32) from (by simp (disch := omega) only [ti_lt, ti_le, ti_eq, ti_0, ti_1, ti_2, ti_m1, ti_100, ti_2000, nI_toInt] <;> omega)) c_0) (fun c_5 => ?_)
    have k_5 : nh = 0 := by
      simp (disch := omega) only [ti_lt, ti_le, ti_eq, ti_0, ti_1, ti_2, ti_m1, ti_100, ti_2000, nI_toInt] at c_5
      omega
    refine lv_ldc2 (v := qNo) hx hb hown (hts (.constantLong RX2 39 (1099511627776)) (List.mem_of_getElem? (i := 2) (by decide +kernel))) dX2_call_7 ?_
    exact W.lret (v := qNo) hx hb hr (fun t ht hW => ⟨⟨qNo, ((gh, nh), (gr, nr), (gk, nk), fi, me), rfl, (by simp only [qCall, if_neg hz, qAt_o (q_hp00 hn0)]), eh, er, ek, ha1, ha2, ha3, by rw [ht]; exact hP, va_K.moved hW.alike hK, hD⟩, hS.F ht⟩) hS.2.2 dX2_call_10
  · refine lv_aload_n hx hb dX2_call_0 rfl (lv_at hl 0 rfl) ?_
    refine va_get (D := (dC, dI)) (ci := 2) (v := .int (nI nh)) (C := RX2) (T := TX2) (N := 8) hx hb hts inX2_call_X2 hown hK hP 0 rfl rfl 3 (by decide) (hts (.fieldLink RX2 26 "QueueHallModel" "halls" "I") (List.mem_of_getElem? (i := 1) (by decide +kernel))) (fun _ h9 => h9) rfl dX2_call_1 ?_
    refine lv_if_ne (tgt := 11) hx hb dX2_call_4 (by decide) (fun c_6 => ?_) (fun c_0 => absurd c_0 (show ¬ (nI nh) = (0 : Int32) from (by simp (disch := omega) only [ti_lt, ti_le, ti_eq, ti_0, ti_1, ti_2, ti_m1, ti_100, ti_2000, nI_toInt] <;> omega)))
    have k_6 : ¬ nh = 0 := by
      simp (disch := omega) only [ti_lt, ti_le, ti_eq, ti_0, ti_1, ti_2, ti_m1, ti_100, ti_2000, nI_toInt] at c_6
      omega
    refine lv_aload_n hx hb dX2_call_11 rfl (lv_at hl 0 rfl) ?_
    refine va_get (D := (dC, dI)) (ci := 2) (v := .ref c1) (C := RX2) (T := TX2) (N := 8) hx hb hts inX2_call_X2 hown hK hP 0 rfl rfl 0 (by decide) (hts (.fieldLink RX2 9 "QueueHallModel" "hall" "[I") (List.mem_of_getElem? (i := 3) (by decide +kernel))) (fun _ h9 => h9) rfl dX2_call_12 ?_
    refine lv_iconst (v := 0) hx hb dX2_call_15 (by decide) ?_
    refine q_top (y := nI 0) rfl ?_
    refine q_iald (k := 0) hx hb hK hP 1 0 rfl rfl (by omega) (by omega) dX2_call_16 ?_
    refine lv_istore_n (lv' := [(2, .int (eh 0)), (0, .ref m0), (1, .int p0)]) hx hb dX2_call_17 rfl hl (by decide) rfl (fun ls hl => ?_)
    refine lv_iload_n hx hb dX2_call_18 rfl (lv_at hl 2 rfl) ?_
    refine lv_if_ne (tgt := 44) hx hb dX2_call_19 (by decide) (fun c_7 => ?_) (fun c_0 => absurd c_0 (show ¬ p0 = (0 : Int32) from hz))
    refine lv_iload_n hx hb dX2_call_44 rfl (lv_at hl 0 rfl) ?_
    refine lv_i2l (v := (eh 0).toInt64) hx hb dX2_call_45 rfl ?_
    exact W.lret (v := (eh 0).toInt64) hx hb hr (fun t ht hW => ⟨⟨(eh 0).toInt64, ((gh, nh), (gr, nr), (gk, nk), fi, me), rfl, (by simp only [qCall, if_neg hz, qAt_i (show 0 < nh by omega) (show nh < 2 ^ 31 by omega), ha1 0 (show 0 < nh by omega)]), eh, er, ek, ha1, ha2, ha3, by rw [ht]; exact hP, va_K.moved hW.alike hK, hD⟩, hS.F ht⟩) hS.2.2 dX2_call_46

set_option maxHeartbeats 4000000 in
set_option maxRecDepth 100000 in
theorem c_Mod_leave (l : Launch) (dC : Nat → ClassId) (dI : Nat → Nat → Nat) (sz : Nat) (m0 c1 c2 c3 nh nr nk : Nat) (cA : ClassId) (eh gh er gr ek gk : Nat → Int32) (fi me : Int32) (p0 : Int32) (hn : nh + nr + nk < 2000) (ha1 : qAg nh eh gh) (ha2 : qAg nr er gr) (ha3 : qAg nk ek gk) (hF : qFok fi me nk) : Met l yX2_leave wsX2_leave ({ frames := 1, cells := 0, slots := 0, locals := 25 }) (va_Pc [.ref m0, .int p0] (fun U => U.heap.size = sz ∧ va_P (dC, dI) vwCl [(m0, .inr (2, [.ref c1, .ref c2, .ref c3, .int (nI nh), .int (nI nr), .int (nI nk), .int fi, .int me])), (c1, .inl (cA, 2000, .inl eh)), (c2, .inl (cA, 2000, .inl er)), (c3, .inl (cA, 2000, .inl ek))] U.heap ∧ va_K (dC, dI) vwCl [(cA, .int)] U ∧ va_D (fun _ => True) [(m0, .inr (2, [.ref c1, .ref c2, .ref c3, .int (nI nh), .int (nI nr), .int (nI nk), .int fi, .int me])), (c1, .inl (cA, 2000, .inl eh)), (c2, .inl (cA, 2000, .inl er)), (c3, .inl (cA, 2000, .inl ek))])) (va_Qi (fun (r : Int32) (u : qS) => (r, u) = qLeave p0 ((gh, nh), (gr, nr), (gk, nk), fi, me)) (at_M dC dI (va_A [(m0, .inr (2, [.ref c1, .ref c2, .ref c3, .int (nI nh), .int (nI nr), .int (nI nk), .int fi, .int me])), (c1, .inl (cA, 2000, .inl eh)), (c2, .inl (cA, 2000, .inl er)), (c3, .inl (cA, 2000, .inl ek))] sz) m0 c1 c2 c3 cA) (va_A [(m0, .inr (2, [.ref c1, .ref c2, .ref c3, .int (nI nh), .int (nI nr), .int (nI nk), .int fi, .int me])), (c1, .inl (cA, 2000, .inl eh)), (c2, .inl (cA, 2000, .inl er)), (c3, .inl (cA, 2000, .inl ek))] sz)) 0 0 (va_A [(m0, .inr (2, [.ref c1, .ref c2, .ref c3, .int (nI nh), .int (nI nr), .int (nI nk), .int fi, .int me])), (c1, .inl (cA, 2000, .inl eh)), (c2, .inl (cA, 2000, .inl er)), (c3, .inl (cA, 2000, .inl ek))] sz) := by
  refine Met.ofW (cc := cX2_leave) (maxL := 3) (ret := (some .boolean)) (by decide +kernel) rfl ?_
  intro p e s m args below meth c s₁ B hml hv
  obtain ⟨rfl, hsz, hP, hK, hD0⟩ := hv
  have hx := B.exec
  have hb := B.bytes
  have hr := B.returns
  have hts := atoms_spec (ws := wsX2_leave) B.pre
  have hown : s.vm.findClass RX2 = some m.cls := findClass_of_methodNamed B.named
  have hlocks := B.notSynchronized
  subst hsz
  have hD := hD0.self (sz := s.heap.size)
  generalize hAe : va_A [(m0, .inr (2, [.ref c1, .ref c2, .ref c3, .int (nI nh), .int (nI nr), .int (nI nk), .int fi, .int me])), (c1, .inl (cA, 2000, .inl eh)), (c2, .inl (cA, 2000, .inl er)), (c3, .inl (cA, 2000, .inl ek))] s.heap.size = A at hD ⊢
  have hA : ∀ q : Nat, s.heap.size ≤ q → A q := fun q h => by rw [← hAe]; exact Or.inr h
  have hS : va_S A s.heap s.heap [] := va_S.rf
  have hl := lv_entry ([.ref m0, .int p0]) (n := 3) (Nat.le_of_ble_eq_true rfl)
  rw [lg_entry_eq]
  generalize (lg_sl ([.ref m0, .int p0]) ++ List.replicate (3 - (lg_sl ([.ref m0, .int p0])).length) Slot.unset).toArray = ls at hl ⊢
  have hl : lv_has ls 3 [(0, .ref m0), (1, .int p0)] := hl
  rcases qPl_r (g := gh) (v := p0) (z := 0) nh with hq | ⟨k, hk, hq, hv⟩
  · refine lv_aload_n hx hb dX2_leave_0 rfl (lv_at hl 0 rfl) ?_
    refine va_get (D := (dC, dI)) (ci := 2) (v := .ref c1) (C := RX2) (T := TX2) (N := 8) hx hb hts inX2_leave_X2 hown hK hP 0 rfl rfl 0 (by decide) (hts (.fieldLink RX2 9 "QueueHallModel" "hall" "[I") (List.mem_of_getElem? (i := 1) (by decide +kernel))) (fun _ h9 => h9) rfl dX2_leave_1 ?_
    refine lv_aload_n hx hb dX2_leave_4 rfl (lv_at hl 0 rfl) ?_
    refine va_get (D := (dC, dI)) (ci := 2) (v := .int (nI nh)) (C := RX2) (T := TX2) (N := 8) hx hb hts inX2_leave_X2 hown hK hP 0 rfl rfl 3 (by decide) (hts (.fieldLink RX2 26 "QueueHallModel" "halls" "I") (List.mem_of_getElem? (i := 2) (by decide +kernel))) (fun _ h9 => h9) rfl dX2_leave_5 ?_
    refine lv_iload_n hx hb dX2_leave_8 rfl (lv_at hl 1 rfl) ?_
    refine lv_iconst (v := 0) hx hb dX2_leave_9 (by decide) ?_
    have hPc := hP.sub (ws' := [(c1, .inl (cA, 2000, .inl eh))]) [1] rfl
    have hKc := hK.sub (tys' := [(cA, .int)]) [0] rfl
    refine q_csiE (va_runS (As := [.ref c1, .int (nI nh), .int p0, .int 0]) (rest := []) ⟨hx, hb, hml, hown, hts⟩ (c_Mod_place l dC dI c1 nh cA eh gh p0 0 (by omega) ha1) (cwS 4 hts gX2_leave_X2_place_v rfl rfl rfl (by decide +kernel) ⟨Nat.le_of_ble_eq_true rfl, Nat.le_of_ble_eq_true rfl⟩) ⟨q_blR, fun U hU hW => ⟨rfl, by rw [hU]; exact hPc, va_K.moved hW.alike hKc⟩⟩ rfl rfl hl.1 rfl (lv_room (Nat.le_of_ble_eq_true rfl)) dX2_leave_10 ⟨Nat.le_of_ble_eq_true rfl, Nat.le_of_ble_eq_true rfl⟩) ?_
    refine q_top (y := -1) hq ?_
    refine lv_istore_n (lv' := [(2, .int (-1)), (0, .ref m0), (1, .int p0)]) hx hb dX2_leave_13 rfl hl (by decide) rfl (fun ls hl => ?_)
    refine lv_iload_n hx hb dX2_leave_14 rfl (lv_at hl 0 rfl) ?_
    refine lv_if_ge (tgt := 20) hx hb dX2_leave_15 (by decide) (fun c_0 => absurd c_0 (show ¬ (0 : Int32) ≤ (-1 : Int32) from (by decide))) (fun c_1 => ?_)
    refine lv_iconst (v := 0) hx hb dX2_leave_18 (by decide) ?_
    exact W.zret (v := 0) hx hb hr rfl (fun t ht hW => ⟨⟨0, ((gh, nh), (gr, nr), (gk, nk), fi, me), rfl, (by simp only [qLeave, hq, if_pos (show (-1 : Int32) < 0 by decide)]), eh, er, ek, ha1, ha2, ha3, by rw [ht]; exact hP, va_K.moved hW.alike hK, hD⟩, hS.F ht⟩) hS.2.2 dX2_leave_19
  · refine lv_aload_n hx hb dX2_leave_0 rfl (lv_at hl 0 rfl) ?_
    refine va_get (D := (dC, dI)) (ci := 2) (v := .ref c1) (C := RX2) (T := TX2) (N := 8) hx hb hts inX2_leave_X2 hown hK hP 0 rfl rfl 0 (by decide) (hts (.fieldLink RX2 9 "QueueHallModel" "hall" "[I") (List.mem_of_getElem? (i := 1) (by decide +kernel))) (fun _ h9 => h9) rfl dX2_leave_1 ?_
    refine lv_aload_n hx hb dX2_leave_4 rfl (lv_at hl 0 rfl) ?_
    refine va_get (D := (dC, dI)) (ci := 2) (v := .int (nI nh)) (C := RX2) (T := TX2) (N := 8) hx hb hts inX2_leave_X2 hown hK hP 0 rfl rfl 3 (by decide) (hts (.fieldLink RX2 26 "QueueHallModel" "halls" "I") (List.mem_of_getElem? (i := 2) (by decide +kernel))) (fun _ h9 => h9) rfl dX2_leave_5 ?_
    refine lv_iload_n hx hb dX2_leave_8 rfl (lv_at hl 1 rfl) ?_
    refine lv_iconst (v := 0) hx hb dX2_leave_9 (by decide) ?_
    have hPc := hP.sub (ws' := [(c1, .inl (cA, 2000, .inl eh))]) [1] rfl
    have hKc := hK.sub (tys' := [(cA, .int)]) [0] rfl
    refine q_csiE (va_runS (As := [.ref c1, .int (nI nh), .int p0, .int 0]) (rest := []) ⟨hx, hb, hml, hown, hts⟩ (c_Mod_place l dC dI c1 nh cA eh gh p0 0 (by omega) ha1) (cwS 4 hts gX2_leave_X2_place_v rfl rfl rfl (by decide +kernel) ⟨Nat.le_of_ble_eq_true rfl, Nat.le_of_ble_eq_true rfl⟩) ⟨q_blR, fun U hU hW => ⟨rfl, by rw [hU]; exact hPc, va_K.moved hW.alike hKc⟩⟩ rfl rfl hl.1 rfl (lv_room (Nat.le_of_ble_eq_true rfl)) dX2_leave_10 ⟨Nat.le_of_ble_eq_true rfl, Nat.le_of_ble_eq_true rfl⟩) ?_
    refine q_top (y := nI k) hq ?_
    refine lv_istore_n (lv' := [(2, .int (nI k)), (0, .ref m0), (1, .int p0)]) hx hb dX2_leave_13 rfl hl (by decide) rfl (fun ls hl => ?_)
    refine lv_iload_n hx hb dX2_leave_14 rfl (lv_at hl 0 rfl) ?_
    refine lv_if_ge (tgt := 20) hx hb dX2_leave_15 (by decide) (fun c_2 => ?_) (fun c_0 => absurd (show (0 : Int32) ≤ (nI k) from (by simp (disch := omega) only [ti_lt, ti_le, ti_eq, ti_0, ti_1, ti_2, ti_m1, ti_100, ti_2000, nI_toInt] <;> omega)) c_0)
    have k_2 : k ≥ 0 := by
      simp (disch := omega) only [ti_lt, ti_le, ti_eq, ti_0, ti_1, ti_2, ti_m1, ti_100, ti_2000, nI_toInt] at c_2
      omega
    refine lv_aload_n hx hb dX2_leave_20 rfl (lv_at hl 1 rfl) ?_
    refine va_get (D := (dC, dI)) (ci := 2) (v := .ref c1) (C := RX2) (T := TX2) (N := 8) hx hb hts inX2_leave_X2 hown hK hP 0 rfl rfl 0 (by decide) (hts (.fieldLink RX2 9 "QueueHallModel" "hall" "[I") (List.mem_of_getElem? (i := 1) (by decide +kernel))) (fun _ h9 => h9) rfl dX2_leave_21 ?_
    refine lv_aload_n hx hb dX2_leave_24 rfl (lv_at hl 1 rfl) ?_
    refine va_get (D := (dC, dI)) (ci := 2) (v := .int (nI nh)) (C := RX2) (T := TX2) (N := 8) hx hb hts inX2_leave_X2 hown hK hP 0 rfl rfl 3 (by decide) (hts (.fieldLink RX2 26 "QueueHallModel" "halls" "I") (List.mem_of_getElem? (i := 2) (by decide +kernel))) (fun _ h9 => h9) rfl dX2_leave_25 ?_
    refine lv_iload_n hx hb dX2_leave_28 rfl (lv_at hl 0 rfl) ?_
    have hPc := hP.sub (ws' := [(c1, .inl (cA, 2000, .inl eh))]) [1] rfl
    have hKc := hK.sub (tys' := [(cA, .int)]) [0] rfl
    have hDc := hD.sub (ws' := [(c1, .inl (cA, 2000, .inl eh))]) [1] (by decide) rfl
    have hFc := va_free (wc := [(c1, .inl (cA, 2000, .inl eh))]) hD hS hA [1] rfl
    refine va_callv (va_runS (As := [.ref c1, .int (nI nh), .int (nI k)]) (rest := []) ⟨hx, hb, hml, hown, hts⟩ (c_Mod_take l dC dI s.heap.size c1 nh k cA eh gh (by omega) (by omega) ha1) (cwS 3 hts gX2_leave_X2_take_v rfl rfl rfl (by decide +kernel) ⟨Nat.le_of_ble_eq_true rfl, Nat.le_of_ble_eq_true rfl⟩) ⟨q_blW, fun U hU hW => ⟨rfl, by rw [hU], by rw [hU]; exact hPc, va_K.moved hW.alike hKc, hDc.weaken (fun _ _ _ _ => trivial)⟩⟩ rfl rfl hl.1 rfl (lv_room (Nat.le_of_ble_eq_true rfl)) dX2_leave_29 ⟨Nat.le_of_ble_eq_true rfl, Nat.le_of_ble_eq_true rfl⟩) hS (fun q _ h => hFc q h) hFc (fun u_3 t_3 H1 locs ht hvm hw hB hz1 hk1 hS => ?_)
    subst hw
    obtain ⟨f_3, hg_3, hP1, hK1, hD1⟩ := hB
    rw [ht] at hP1
    obtain ⟨hP, hD⟩ := q_join (wr := [(m0, .inr (2, [.ref c1, .ref c2, .ref c3, .int (nI nh), .int (nI nr), .int (nI nk), .int fi, .int me])), (c2, .inl (cA, 2000, .inl er)), (c3, .inl (cA, 2000, .inl ek))]) (w1 := [(c1, .inl (cA, 2000, .inl f_3))]) (wz := [(m0, .inr (2, [.ref c1, .ref c2, .ref c3, .int (nI nh), .int (nI nr), .int (nI nk), .int fi, .int me])), (c1, .inl (cA, 2000, .inl f_3)), (c2, .inl (cA, 2000, .inl er)), (c3, .inl (cA, 2000, .inl ek))]) hP hD [1] [0, 2, 3] [0, 3, 1, 2] rfl rfl (by decide) (by decide) hk1 hFc hP1 hD1 rfl rfl (by decide)
    generalize H1 = H at hP hS ⊢
    refine lv_aload_n hx hb dX2_leave_32 rfl (lv_at hl 1 rfl) ?_
    refine lv_dup hx hb dX2_leave_33 rfl ?_
    refine va_get (D := (dC, dI)) (ci := 2) (v := .int (nI nh)) (C := RX2) (T := TX2) (N := 8) hx hb hts inX2_leave_X2 hown hK hP 0 rfl rfl 3 (by decide) (hts (.fieldLink RX2 26 "QueueHallModel" "halls" "I") (List.mem_of_getElem? (i := 2) (by decide +kernel))) (fun _ h9 => h9) rfl dX2_leave_34 ?_
    refine lv_iconst (v := 1) hx hb dX2_leave_37 (by decide) ?_
    refine lv_isub hx hb dX2_leave_38 ?_
    refine q_top (y := nI (nh - 1)) (q_m1 (by omega)) ?_
    refine va_put (D := (dC, dI)) (ci := 2) (v := .int (nI (nh - 1))) (ty := .int) (C := RX2) (T := TX2) (N := 8) hx hb hts inX2_leave_X2 tyX2 tyX2_ok nmX2 hown hK hP hD hS 0 rfl rfl 3 (by decide) (hts (.fieldLink RX2 26 "QueueHallModel" "halls" "I") (List.mem_of_getElem? (i := 2) (by decide +kernel))) (fun _ h9 => h9) rfl (by decide +kernel) rfl rfl (Nat.le_of_ble_eq_true rfl) dX2_leave_39 (fun H locs hP hD hS => ?_)
    have hP : va_P (dC, dI) vwCl [(m0, .inr (2, [.ref c1, .ref c2, .ref c3, .int (nI (nh - 1)), .int (nI nr), .int (nI nk), .int fi, .int me])), (c1, .inl (cA, 2000, .inl f_3)), (c2, .inl (cA, 2000, .inl er)), (c3, .inl (cA, 2000, .inl ek))] H := hP
    have hD : va_D A [(m0, .inr (2, [.ref c1, .ref c2, .ref c3, .int (nI (nh - 1)), .int (nI nr), .int (nI nk), .int fi, .int me])), (c1, .inl (cA, 2000, .inl f_3)), (c2, .inl (cA, 2000, .inl er)), (c3, .inl (cA, 2000, .inl ek))] := hD
    refine lv_iconst (v := 1) hx hb dX2_leave_42 (by decide) ?_
    exact W.zret (v := 1) hx hb hr rfl (fun t ht hW => ⟨⟨1, ((qDel gh k, nh - 1), (gr, nr), (gk, nk), fi, me), rfl, (by simp only [qLeave, hq, if_neg (nI_pos (show k < 2 ^ 31 by omega)), nI_clamp (show k < 2 ^ 31 by omega)]), f_3, er, ek, hg_3, ha2, ha3, by rw [ht]; exact hP, va_K.moved hW.alike hK, hD⟩, hS.F ht⟩) hS.2.2 dX2_leave_43

set_option maxHeartbeats 4000000 in
set_option maxRecDepth 100000 in
theorem c_Mod_unlink (l : Launch) (dC : Nat → ClassId) (dI : Nat → Nat → Nat) (sz : Nat) (m0 c1 c2 c3 nh nr nk : Nat) (cA : ClassId) (eh gh er gr ek gk : Nat → Int32) (fi me : Int32) (p0 : Int32) (hn : nh + nr + nk < 2000) (ha1 : qAg nh eh gh) (ha2 : qAg nr er gr) (ha3 : qAg nk ek gk) (hF : qFok fi me nk) : Met l yX2_unlink wsX2_unlink ({ frames := 1, cells := 0, slots := 0, locals := 25 }) (va_Pc [.ref m0, .int p0] (fun U => U.heap.size = sz ∧ va_P (dC, dI) vwCl [(m0, .inr (2, [.ref c1, .ref c2, .ref c3, .int (nI nh), .int (nI nr), .int (nI nk), .int fi, .int me])), (c1, .inl (cA, 2000, .inl eh)), (c2, .inl (cA, 2000, .inl er)), (c3, .inl (cA, 2000, .inl ek))] U.heap ∧ va_K (dC, dI) vwCl [(cA, .int)] U ∧ va_D (fun _ => True) [(m0, .inr (2, [.ref c1, .ref c2, .ref c3, .int (nI nh), .int (nI nr), .int (nI nk), .int fi, .int me])), (c1, .inl (cA, 2000, .inl eh)), (c2, .inl (cA, 2000, .inl er)), (c3, .inl (cA, 2000, .inl ek))])) (va_Qi (fun (r : Int32) (u : qS) => (r, u) = qUnlink p0 ((gh, nh), (gr, nr), (gk, nk), fi, me)) (at_M dC dI (va_A [(m0, .inr (2, [.ref c1, .ref c2, .ref c3, .int (nI nh), .int (nI nr), .int (nI nk), .int fi, .int me])), (c1, .inl (cA, 2000, .inl eh)), (c2, .inl (cA, 2000, .inl er)), (c3, .inl (cA, 2000, .inl ek))] sz) m0 c1 c2 c3 cA) (va_A [(m0, .inr (2, [.ref c1, .ref c2, .ref c3, .int (nI nh), .int (nI nr), .int (nI nk), .int fi, .int me])), (c1, .inl (cA, 2000, .inl eh)), (c2, .inl (cA, 2000, .inl er)), (c3, .inl (cA, 2000, .inl ek))] sz)) 0 0 (va_A [(m0, .inr (2, [.ref c1, .ref c2, .ref c3, .int (nI nh), .int (nI nr), .int (nI nk), .int fi, .int me])), (c1, .inl (cA, 2000, .inl eh)), (c2, .inl (cA, 2000, .inl er)), (c3, .inl (cA, 2000, .inl ek))] sz) := by
  refine Met.ofW (cc := cX2_unlink) (maxL := 3) (ret := (some .boolean)) (by decide +kernel) rfl ?_
  intro p e s m args below meth c s₁ B hml hv
  obtain ⟨rfl, hsz, hP, hK, hD0⟩ := hv
  have hx := B.exec
  have hb := B.bytes
  have hr := B.returns
  have hts := atoms_spec (ws := wsX2_unlink) B.pre
  have hown : s.vm.findClass RX2 = some m.cls := findClass_of_methodNamed B.named
  have hlocks := B.notSynchronized
  subst hsz
  have hD := hD0.self (sz := s.heap.size)
  generalize hAe : va_A [(m0, .inr (2, [.ref c1, .ref c2, .ref c3, .int (nI nh), .int (nI nr), .int (nI nk), .int fi, .int me])), (c1, .inl (cA, 2000, .inl eh)), (c2, .inl (cA, 2000, .inl er)), (c3, .inl (cA, 2000, .inl ek))] s.heap.size = A at hD ⊢
  have hA : ∀ q : Nat, s.heap.size ≤ q → A q := fun q h => by rw [← hAe]; exact Or.inr h
  have hS : va_S A s.heap s.heap [] := va_S.rf
  have hl := lv_entry ([.ref m0, .int p0]) (n := 3) (Nat.le_of_ble_eq_true rfl)
  rw [lg_entry_eq]
  generalize (lg_sl ([.ref m0, .int p0]) ++ List.replicate (3 - (lg_sl ([.ref m0, .int p0])).length) Slot.unset).toArray = ls at hl ⊢
  have hl : lv_has ls 3 [(0, .ref m0), (1, .int p0)] := hl
  rcases qPl_r (g := gk) (v := p0) (z := 0) nk with hq | ⟨k, hk, hq, hv⟩
  · refine lv_aload_n hx hb dX2_unlink_0 rfl (lv_at hl 0 rfl) ?_
    refine va_get (D := (dC, dI)) (ci := 2) (v := .ref c3) (C := RX2) (T := TX2) (N := 8) hx hb hts inX2_unlink_X2 hown hK hP 0 rfl rfl 2 (by decide) (hts (.fieldLink RX2 16 "QueueHallModel" "chain" "[I") (List.mem_of_getElem? (i := 1) (by decide +kernel))) (fun _ h9 => h9) rfl dX2_unlink_1 ?_
    refine lv_aload_n hx hb dX2_unlink_4 rfl (lv_at hl 0 rfl) ?_
    refine va_get (D := (dC, dI)) (ci := 2) (v := .int (nI nk)) (C := RX2) (T := TX2) (N := 8) hx hb hts inX2_unlink_X2 hown hK hP 0 rfl rfl 5 (by decide) (hts (.fieldLink RX2 32 "QueueHallModel" "chains" "I") (List.mem_of_getElem? (i := 2) (by decide +kernel))) (fun _ h9 => h9) rfl dX2_unlink_5 ?_
    refine lv_iload_n hx hb dX2_unlink_8 rfl (lv_at hl 1 rfl) ?_
    refine lv_iconst (v := 0) hx hb dX2_unlink_9 (by decide) ?_
    have hPc := hP.sub (ws' := [(c3, .inl (cA, 2000, .inl ek))]) [3] rfl
    have hKc := hK.sub (tys' := [(cA, .int)]) [0] rfl
    refine q_csiE (va_runS (As := [.ref c3, .int (nI nk), .int p0, .int 0]) (rest := []) ⟨hx, hb, hml, hown, hts⟩ (c_Mod_place l dC dI c3 nk cA ek gk p0 0 (by omega) ha3) (cwS 4 hts gX2_unlink_X2_place_v rfl rfl rfl (by decide +kernel) ⟨Nat.le_of_ble_eq_true rfl, Nat.le_of_ble_eq_true rfl⟩) ⟨q_blR, fun U hU hW => ⟨rfl, by rw [hU]; exact hPc, va_K.moved hW.alike hKc⟩⟩ rfl rfl hl.1 rfl (lv_room (Nat.le_of_ble_eq_true rfl)) dX2_unlink_10 ⟨Nat.le_of_ble_eq_true rfl, Nat.le_of_ble_eq_true rfl⟩) ?_
    refine q_top (y := -1) hq ?_
    refine lv_istore_n (lv' := [(2, .int (-1)), (0, .ref m0), (1, .int p0)]) hx hb dX2_unlink_13 rfl hl (by decide) rfl (fun ls hl => ?_)
    refine lv_iload_n hx hb dX2_unlink_14 rfl (lv_at hl 0 rfl) ?_
    refine lv_if_ge (tgt := 20) hx hb dX2_unlink_15 (by decide) (fun c_0 => absurd c_0 (show ¬ (0 : Int32) ≤ (-1 : Int32) from (by decide))) (fun c_1 => ?_)
    refine lv_iconst (v := 0) hx hb dX2_unlink_18 (by decide) ?_
    exact W.zret (v := 0) hx hb hr rfl (fun t ht hW => ⟨⟨0, ((gh, nh), (gr, nr), (gk, nk), fi, me), rfl, (by simp only [qUnlink, hq, if_pos (show (-1 : Int32) < 0 by decide)]), eh, er, ek, ha1, ha2, ha3, by rw [ht]; exact hP, va_K.moved hW.alike hK, hD⟩, hS.F ht⟩) hS.2.2 dX2_unlink_19
  · refine lv_aload_n hx hb dX2_unlink_0 rfl (lv_at hl 0 rfl) ?_
    refine va_get (D := (dC, dI)) (ci := 2) (v := .ref c3) (C := RX2) (T := TX2) (N := 8) hx hb hts inX2_unlink_X2 hown hK hP 0 rfl rfl 2 (by decide) (hts (.fieldLink RX2 16 "QueueHallModel" "chain" "[I") (List.mem_of_getElem? (i := 1) (by decide +kernel))) (fun _ h9 => h9) rfl dX2_unlink_1 ?_
    refine lv_aload_n hx hb dX2_unlink_4 rfl (lv_at hl 0 rfl) ?_
    refine va_get (D := (dC, dI)) (ci := 2) (v := .int (nI nk)) (C := RX2) (T := TX2) (N := 8) hx hb hts inX2_unlink_X2 hown hK hP 0 rfl rfl 5 (by decide) (hts (.fieldLink RX2 32 "QueueHallModel" "chains" "I") (List.mem_of_getElem? (i := 2) (by decide +kernel))) (fun _ h9 => h9) rfl dX2_unlink_5 ?_
    refine lv_iload_n hx hb dX2_unlink_8 rfl (lv_at hl 1 rfl) ?_
    refine lv_iconst (v := 0) hx hb dX2_unlink_9 (by decide) ?_
    have hPc := hP.sub (ws' := [(c3, .inl (cA, 2000, .inl ek))]) [3] rfl
    have hKc := hK.sub (tys' := [(cA, .int)]) [0] rfl
    refine q_csiE (va_runS (As := [.ref c3, .int (nI nk), .int p0, .int 0]) (rest := []) ⟨hx, hb, hml, hown, hts⟩ (c_Mod_place l dC dI c3 nk cA ek gk p0 0 (by omega) ha3) (cwS 4 hts gX2_unlink_X2_place_v rfl rfl rfl (by decide +kernel) ⟨Nat.le_of_ble_eq_true rfl, Nat.le_of_ble_eq_true rfl⟩) ⟨q_blR, fun U hU hW => ⟨rfl, by rw [hU]; exact hPc, va_K.moved hW.alike hKc⟩⟩ rfl rfl hl.1 rfl (lv_room (Nat.le_of_ble_eq_true rfl)) dX2_unlink_10 ⟨Nat.le_of_ble_eq_true rfl, Nat.le_of_ble_eq_true rfl⟩) ?_
    refine q_top (y := nI k) hq ?_
    refine lv_istore_n (lv' := [(2, .int (nI k)), (0, .ref m0), (1, .int p0)]) hx hb dX2_unlink_13 rfl hl (by decide) rfl (fun ls hl => ?_)
    refine lv_iload_n hx hb dX2_unlink_14 rfl (lv_at hl 0 rfl) ?_
    refine lv_if_ge (tgt := 20) hx hb dX2_unlink_15 (by decide) (fun c_2 => ?_) (fun c_0 => absurd (show (0 : Int32) ≤ (nI k) from (by simp (disch := omega) only [ti_lt, ti_le, ti_eq, ti_0, ti_1, ti_2, ti_m1, ti_100, ti_2000, nI_toInt] <;> omega)) c_0)
    have k_2 : k ≥ 0 := by
      simp (disch := omega) only [ti_lt, ti_le, ti_eq, ti_0, ti_1, ti_2, ti_m1, ti_100, ti_2000, nI_toInt] at c_2
      omega
    refine lv_aload_n hx hb dX2_unlink_20 rfl (lv_at hl 1 rfl) ?_
    refine va_get (D := (dC, dI)) (ci := 2) (v := .ref c3) (C := RX2) (T := TX2) (N := 8) hx hb hts inX2_unlink_X2 hown hK hP 0 rfl rfl 2 (by decide) (hts (.fieldLink RX2 16 "QueueHallModel" "chain" "[I") (List.mem_of_getElem? (i := 1) (by decide +kernel))) (fun _ h9 => h9) rfl dX2_unlink_21 ?_
    refine lv_aload_n hx hb dX2_unlink_24 rfl (lv_at hl 1 rfl) ?_
    refine va_get (D := (dC, dI)) (ci := 2) (v := .int (nI nk)) (C := RX2) (T := TX2) (N := 8) hx hb hts inX2_unlink_X2 hown hK hP 0 rfl rfl 5 (by decide) (hts (.fieldLink RX2 32 "QueueHallModel" "chains" "I") (List.mem_of_getElem? (i := 2) (by decide +kernel))) (fun _ h9 => h9) rfl dX2_unlink_25 ?_
    refine lv_iload_n hx hb dX2_unlink_28 rfl (lv_at hl 0 rfl) ?_
    have hPc := hP.sub (ws' := [(c3, .inl (cA, 2000, .inl ek))]) [3] rfl
    have hKc := hK.sub (tys' := [(cA, .int)]) [0] rfl
    have hDc := hD.sub (ws' := [(c3, .inl (cA, 2000, .inl ek))]) [3] (by decide) rfl
    have hFc := va_free (wc := [(c3, .inl (cA, 2000, .inl ek))]) hD hS hA [3] rfl
    refine va_callv (va_runS (As := [.ref c3, .int (nI nk), .int (nI k)]) (rest := []) ⟨hx, hb, hml, hown, hts⟩ (c_Mod_take l dC dI s.heap.size c3 nk k cA ek gk (by omega) (by omega) ha3) (cwS 3 hts gX2_unlink_X2_take_v rfl rfl rfl (by decide +kernel) ⟨Nat.le_of_ble_eq_true rfl, Nat.le_of_ble_eq_true rfl⟩) ⟨q_blW, fun U hU hW => ⟨rfl, by rw [hU], by rw [hU]; exact hPc, va_K.moved hW.alike hKc, hDc.weaken (fun _ _ _ _ => trivial)⟩⟩ rfl rfl hl.1 rfl (lv_room (Nat.le_of_ble_eq_true rfl)) dX2_unlink_29 ⟨Nat.le_of_ble_eq_true rfl, Nat.le_of_ble_eq_true rfl⟩) hS (fun q _ h => hFc q h) hFc (fun u_3 t_3 H1 locs ht hvm hw hB hz1 hk1 hS => ?_)
    subst hw
    obtain ⟨f_3, hg_3, hP1, hK1, hD1⟩ := hB
    rw [ht] at hP1
    obtain ⟨hP, hD⟩ := q_join (wr := [(m0, .inr (2, [.ref c1, .ref c2, .ref c3, .int (nI nh), .int (nI nr), .int (nI nk), .int fi, .int me])), (c1, .inl (cA, 2000, .inl eh)), (c2, .inl (cA, 2000, .inl er))]) (w1 := [(c3, .inl (cA, 2000, .inl f_3))]) (wz := [(m0, .inr (2, [.ref c1, .ref c2, .ref c3, .int (nI nh), .int (nI nr), .int (nI nk), .int fi, .int me])), (c1, .inl (cA, 2000, .inl eh)), (c2, .inl (cA, 2000, .inl er)), (c3, .inl (cA, 2000, .inl f_3))]) hP hD [3] [0, 1, 2] [0, 1, 2, 3] rfl rfl (by decide) (by decide) hk1 hFc hP1 hD1 rfl rfl (by decide)
    generalize H1 = H at hP hS ⊢
    refine lv_aload_n hx hb dX2_unlink_32 rfl (lv_at hl 1 rfl) ?_
    refine lv_dup hx hb dX2_unlink_33 rfl ?_
    refine va_get (D := (dC, dI)) (ci := 2) (v := .int (nI nk)) (C := RX2) (T := TX2) (N := 8) hx hb hts inX2_unlink_X2 hown hK hP 0 rfl rfl 5 (by decide) (hts (.fieldLink RX2 32 "QueueHallModel" "chains" "I") (List.mem_of_getElem? (i := 2) (by decide +kernel))) (fun _ h9 => h9) rfl dX2_unlink_34 ?_
    refine lv_iconst (v := 1) hx hb dX2_unlink_37 (by decide) ?_
    refine lv_isub hx hb dX2_unlink_38 ?_
    refine q_top (y := nI (nk - 1)) (q_m1 (by omega)) ?_
    refine va_put (D := (dC, dI)) (ci := 2) (v := .int (nI (nk - 1))) (ty := .int) (C := RX2) (T := TX2) (N := 8) hx hb hts inX2_unlink_X2 tyX2 tyX2_ok nmX2 hown hK hP hD hS 0 rfl rfl 5 (by decide) (hts (.fieldLink RX2 32 "QueueHallModel" "chains" "I") (List.mem_of_getElem? (i := 2) (by decide +kernel))) (fun _ h9 => h9) rfl (by decide +kernel) rfl rfl (Nat.le_of_ble_eq_true rfl) dX2_unlink_39 (fun H locs hP hD hS => ?_)
    have hP : va_P (dC, dI) vwCl [(m0, .inr (2, [.ref c1, .ref c2, .ref c3, .int (nI nh), .int (nI nr), .int (nI (nk - 1)), .int fi, .int me])), (c1, .inl (cA, 2000, .inl eh)), (c2, .inl (cA, 2000, .inl er)), (c3, .inl (cA, 2000, .inl f_3))] H := hP
    have hD : va_D A [(m0, .inr (2, [.ref c1, .ref c2, .ref c3, .int (nI nh), .int (nI nr), .int (nI (nk - 1)), .int fi, .int me])), (c1, .inl (cA, 2000, .inl eh)), (c2, .inl (cA, 2000, .inl er)), (c3, .inl (cA, 2000, .inl f_3))] := hD
    refine lv_aload_n hx hb dX2_unlink_42 rfl (lv_at hl 1 rfl) ?_
    have hPc := hP.sub (ws' := [(m0, .inr (2, [.ref c1, .ref c2, .ref c3, .int (nI nh), .int (nI nr), .int (nI (nk - 1)), .int fi, .int me]))]) [0] rfl
    have hKc := hK.sub (tys' := []) [] rfl
    have hDc := hD.sub (ws' := [(m0, .inr (2, [.ref c1, .ref c2, .ref c3, .int (nI nh), .int (nI nr), .int (nI (nk - 1)), .int fi, .int me]))]) [0] (by decide) rfl
    have hFc := va_free (wc := [(m0, .inr (2, [.ref c1, .ref c2, .ref c3, .int (nI nh), .int (nI nr), .int (nI (nk - 1)), .int fi, .int me]))]) hD hS hA [0] rfl
    refine va_callv (va_runV (As := []) (rest := []) ⟨hx, hb, hml, hown, hts⟩ (c_Mod_lift l dC dI H.size m0 c1 c2 c3 nh nr (nk - 1) fi me) (cwV 0 hts gX2_unlink_X2_lift_v rfl rfl rfl (by decide +kernel) ⟨Nat.le_of_ble_eq_true rfl, Nat.le_of_ble_eq_true rfl⟩) ⟨q_blW, va_recv hKc hPc (ci := 2) (q0 := 0) rfl rfl, fun U hU hW => ⟨rfl, by rw [hU], by rw [hU]; exact hPc, va_K.moved hW.alike hKc, hDc.weaken (fun _ _ _ _ => trivial)⟩⟩ rfl rfl hl.1 rfl (lv_room (Nat.le_of_ble_eq_true rfl)) dX2_unlink_43 ⟨Nat.le_of_ble_eq_true rfl, Nat.le_of_ble_eq_true rfl⟩) hS (fun q _ h => hFc q h) hFc (fun u_4 t_4 H1 locs ht hvm hw hB hz1 hk1 hS => ?_)
    subst hw
    obtain ⟨hP1, hK1, hD1⟩ := hB
    rw [ht] at hP1
    obtain ⟨hP, hD⟩ := q_join (wr := [(c1, .inl (cA, 2000, .inl eh)), (c2, .inl (cA, 2000, .inl er)), (c3, .inl (cA, 2000, .inl f_3))]) (w1 := [(m0, .inr (2, [.ref c1, .ref c2, .ref c3, .int (nI nh), .int (nI nr), .int (nI (nk - 1)), .int (-1), .int (-1)]))]) (wz := [(m0, .inr (2, [.ref c1, .ref c2, .ref c3, .int (nI nh), .int (nI nr), .int (nI (nk - 1)), .int (-1), .int (-1)])), (c1, .inl (cA, 2000, .inl eh)), (c2, .inl (cA, 2000, .inl er)), (c3, .inl (cA, 2000, .inl f_3))]) hP hD [0] [1, 2, 3] [3, 0, 1, 2] rfl rfl (by decide) (by decide) hk1 hFc hP1 hD1 rfl rfl (by decide)
    generalize H1 = H at hP hS ⊢
    refine lv_iconst (v := 1) hx hb dX2_unlink_46 (by decide) ?_
    exact W.zret (v := 1) hx hb hr rfl (fun t ht hW => ⟨⟨1, ((gh, nh), (gr, nr), (qDel gk k, nk - 1), -1, -1), rfl, (by simp only [qUnlink, hq, if_neg (nI_pos (show k < 2 ^ 31 by omega)), nI_clamp (show k < 2 ^ 31 by omega)]), eh, er, f_3, ha1, ha2, hg_3, by rw [ht]; exact hP, va_K.moved hW.alike hK, hD⟩, hS.F ht⟩) hS.2.2 dX2_unlink_47

