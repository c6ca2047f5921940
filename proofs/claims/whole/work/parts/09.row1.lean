theorem inX0_hasPlace_X0 : ∀ w ∈ wsX00, w ∈ wsX0_hasPlace := by decide +kernel
theorem inX0_hasPlaceOrEnd_X0 : ∀ w ∈ wsX00, w ∈ wsX0_hasPlaceOrEnd := by decide +kernel
set_option maxRecDepth 20000 in
theorem gX0_at_X0_hasPlace : GoodIn wsX0_at wsX0_hasPlace := goodIn_r _ [5, 6, 9, 10] (by decide +kernel) (by decide +kernel)
set_option maxRecDepth 20000 in
theorem gX0_at_X0_hasPlace_v : GoodIn wsX0_at (wsV RX0 19 RX0 yX0_hasPlace wsX0_hasPlace) := goodIn_app (goodIn_r _ [1, 2, 3, 4] (by decide +kernel) (by decide +kernel)) gX0_at_X0_hasPlace
theorem inX0_at_X0 : ∀ w ∈ wsX00, w ∈ wsX0_at := by decide +kernel
theorem inX0_put_X0 : ∀ w ∈ wsX00, w ∈ wsX0_put := by decide +kernel
set_option maxRecDepth 20000 in
theorem gX0_put_X0_hasPlaceOrEnd : GoodIn wsX0_put wsX0_hasPlaceOrEnd := goodIn_r _ [6, 1, 12, 13] (by decide +kernel) (by decide +kernel)
set_option maxRecDepth 20000 in
theorem gX0_put_X0_hasPlaceOrEnd_v : GoodIn wsX0_put (wsV RX0 25 RX0 yX0_hasPlaceOrEnd wsX0_hasPlaceOrEnd) := goodIn_app (goodIn_r _ [2, 3, 4, 5] (by decide +kernel) (by decide +kernel)) gX0_put_X0_hasPlaceOrEnd
set_option maxRecDepth 20000 in
theorem gX0_take_X0_hasPlace : GoodIn wsX0_take wsX0_hasPlace := goodIn_r _ [5, 6, 13, 14] (by decide +kernel) (by decide +kernel)
set_option maxRecDepth 20000 in
theorem gX0_take_X0_hasPlace_v : GoodIn wsX0_take (wsV RX0 19 RX0 yX0_hasPlace wsX0_hasPlace) := goodIn_app (goodIn_r _ [1, 2, 3, 4] (by decide +kernel) (by decide +kernel)) gX0_take_X0_hasPlace
theorem inX0_take_X0 : ∀ w ∈ wsX00, w ∈ wsX0_take := by decide +kernel
set_option maxRecDepth 20000 in
theorem gX0_swap_X0_hasPlace : GoodIn wsX0_swap wsX0_hasPlace := goodIn_r _ [5, 6, 9, 10] (by decide +kernel) (by decide +kernel)
set_option maxRecDepth 20000 in
theorem gX0_swap_X0_hasPlace_v : GoodIn wsX0_swap (wsV RX0 19 RX0 yX0_hasPlace wsX0_hasPlace) := goodIn_app (goodIn_r _ [1, 2, 3, 4] (by decide +kernel) (by decide +kernel)) gX0_swap_X0_hasPlace
theorem inX0_swap_X0 : ∀ w ∈ wsX00, w ∈ wsX0_swap := by decide +kernel
theorem inX0_wipe_X0 : ∀ w ∈ wsX00, w ∈ wsX0_wipe := by decide +kernel
theorem inX0_firstPlace_X0 : ∀ w ∈ wsX00, w ∈ wsX0_firstPlace := by decide +kernel
theorem inX0_lastPlace_X0 : ∀ w ∈ wsX00, w ∈ wsX0_lastPlace := by decide +kernel
theorem inX0_countBelow_X0 : ∀ w ∈ wsX00, w ∈ wsX0_countBelow := by decide +kernel
theorem inX0_takeRest_X0 : ∀ w ∈ wsX00, w ∈ wsX0_takeRest := by decide +kernel
set_option maxRecDepth 20000 in
theorem gX0_takeRest_J9_floorMod_7cf53 : GoodIn wsX0_takeRest wsJ9_floorMod_7cf53 := goodIn_r _ [6] (by decide +kernel) (by decide +kernel)
set_option maxRecDepth 20000 in
theorem gX0_takeRest_J9_floorMod_7cf53_v : GoodIn wsX0_takeRest (va_wsS RX0 34 yJ9_floorMod_7cf53 wsJ9_floorMod_7cf53) := goodIn_app (goodIn_r _ [3, 4, 5] (by decide +kernel) (by decide +kernel)) gX0_takeRest_J9_floorMod_7cf53
theorem inX0_turn_X0 : ∀ w ∈ wsX00, w ∈ wsX0_turn := by decide +kernel
theorem inX0_takeAll_X0 : ∀ w ∈ wsX00, w ∈ wsX0_takeAll := by decide +kernel
set_option maxRecDepth 20000 in
theorem gX0_takeAll_X0_hasPlaceOrEnd : GoodIn wsX0_takeAll wsX0_hasPlaceOrEnd := goodIn_r _ [6, 1, 16, 17] (by decide +kernel) (by decide +kernel)
set_option maxRecDepth 20000 in
theorem gX0_takeAll_X0_hasPlaceOrEnd_v : GoodIn wsX0_takeAll (wsV RX0 25 RX0 yX0_hasPlaceOrEnd wsX0_hasPlaceOrEnd) := goodIn_app (goodIn_r _ [2, 3, 4, 5] (by decide +kernel) (by decide +kernel)) gX0_takeAll_X0_hasPlaceOrEnd
set_option maxRecDepth 20000 in
theorem gX0_takeAll_X0_wipe : GoodIn wsX0_takeAll wsX0_wipe := goodIn_r _ [15, 1, 16, 17] (by decide +kernel) (by decide +kernel)
set_option maxRecDepth 20000 in
theorem gX0_takeAll_X0_wipe_v : GoodIn wsX0_takeAll (wsV RX0 40 RX0 yX0_wipe wsX0_wipe) := goodIn_app (goodIn_r _ [12, 13, 14, 5] (by decide +kernel) (by decide +kernel)) gX0_takeAll_X0_wipe
theorem inX0_init_X0 : ∀ w ∈ wsX00, w ∈ wsX0_init := by decide +kernel
set_option maxHeartbeats 4000000 in
set_option maxRecDepth 100000 in
theorem c_floorMod (l : Launch) (dC : Nat → ClassId) (dI : Nat → Nat → Nat) (p0 p1 : Int32) (h1 : ¬ p1 = 0) : Met l yJ9_floorMod_7cf53 wsJ9_floorMod_7cf53 ({ frames := 0, cells := 0, slots := 0, locals := 0 }) (va_Pc [.int p0, .int p1] (fun U => va_P (dC, dI) vwCl [] U.heap ∧ va_K (dC, dI) vwCl [] U)) (vp_Si (fun r => r = qFm p0 p1)) 0 0 (fun _ => False) := by
  refine va_MetF (cc := cJ9_floorMod_7cf53) (maxL := 3) (ret := (some .int)) (by decide +kernel) rfl ?_
  intro p e s m args below meth c s₁ B hml hv
  obtain ⟨rfl, hP, hK⟩ := hv
  have hx := B.exec
  have hb := B.bytes
  have hr := B.returns
  have hts := atoms_spec (ws := wsJ9_floorMod_7cf53) B.pre
  have hown : s.vm.findClass RJ9 = some m.cls := findClass_of_methodNamed B.named
  have hlocks := B.notSynchronized
  have hl := lv_entry ([.int p0, .int p1]) (n := 3) (Nat.le_of_ble_eq_true rfl)
  rw [lg_entry_eq]
  generalize (lg_sl ([.int p0, .int p1]) ++ List.replicate (3 - (lg_sl ([.int p0, .int p1])).length) Slot.unset).toArray = ls at hl ⊢
  have hl : lv_has ls 3 [(0, .int p0), (1, .int p1)] := hl
  refine lv_iload_n hx hb dJ9_floorMod_7cf53_0 rfl (lv_at hl 0 rfl) ?_
  refine lv_iload_n hx hb dJ9_floorMod_7cf53_1 rfl (lv_at hl 1 rfl) ?_
  refine lv_irem hx hb dJ9_floorMod_7cf53_2 h1 ?_
  refine lv_istore_n (lv' := [(2, .int (p0 - p0 / p1 * p1)), (0, .int p0), (1, .int p1)]) hx hb dJ9_floorMod_7cf53_3 rfl hl (by decide) rfl (fun ls hl => ?_)
  refine lv_iload_n hx hb dJ9_floorMod_7cf53_4 rfl (lv_at hl 1 rfl) ?_
  refine lv_iload_n hx hb dJ9_floorMod_7cf53_5 rfl (lv_at hl 2 rfl) ?_
  refine lv_ixor hx hb dJ9_floorMod_7cf53_6 ?_
  refine lv_if_ge (tgt := 18) hx hb dJ9_floorMod_7cf53_7 (by decide) (fun c_1 => ?_) (fun c_1 => ?_)
  · refine lv_iload_n hx hb dJ9_floorMod_7cf53_18 rfl (lv_at hl 0 rfl) ?_
    exact W.iret (v := p0 - p0 / p1 * p1) hx hb hr (fun t ht hW => ⟨p0 - p0 / p1 * p1, rfl, (by simp only [qFm]; rw [if_neg (show ¬ ((p0 ^^^ p1) < 0 ∧ ¬ (p0 - p0 / p1 * p1) = 0) from fun q => by have q1 := q.1; rw [ti_lt] at q1; rw [ti_le] at c_1; omega)]), ht⟩) (fun q h => by cases h) dJ9_floorMod_7cf53_19
  · refine lv_iload_n hx hb dJ9_floorMod_7cf53_10 rfl (lv_at hl 0 rfl) ?_
    refine lv_if_eq (tgt := 18) hx hb dJ9_floorMod_7cf53_11 (by decide) (fun c_2 => ?_) (fun c_2 => ?_)
    · refine lv_iload_n hx hb dJ9_floorMod_7cf53_18 rfl (lv_at hl 0 rfl) ?_
      exact W.iret (v := p0 - p0 / p1 * p1) hx hb hr (fun t ht hW => ⟨p0 - p0 / p1 * p1, rfl, (by simp only [qFm]; rw [if_neg (show ¬ ((p0 ^^^ p1) < 0 ∧ ¬ (p0 - p0 / p1 * p1) = 0) from fun q => q.2 c_2)]), ht⟩) (fun q h => by cases h) dJ9_floorMod_7cf53_19
    · refine lv_iload_n hx hb dJ9_floorMod_7cf53_14 rfl (lv_at hl 0 rfl) ?_
      refine lv_iload_n hx hb dJ9_floorMod_7cf53_15 rfl (lv_at hl 2 rfl) ?_
      refine lv_iadd hx hb dJ9_floorMod_7cf53_16 ?_
      exact W.iret (v := (p0 - p0 / p1 * p1) + p1) hx hb hr (fun t ht hW => ⟨(p0 - p0 / p1 * p1) + p1, rfl, (by simp only [qFm]; rw [if_pos ⟨show (p0 ^^^ p1) < 0 from by rw [ti_le] at c_1; rw [ti_lt]; omega, c_2⟩]), ht⟩) (fun q h => by cases h) dJ9_floorMod_7cf53_17

set_option maxHeartbeats 4000000 in
set_option maxRecDepth 100000 in
theorem c_Row_hasPlace (l : Launch) (dC : Nat → ClassId) (dI : Nat → Nat → Nat) (h0 h1 n : Nat) (p0 : Int32) : Met l yX0_hasPlace wsX0_hasPlace ({ frames := 0, cells := 0, slots := 0, locals := 0 }) (va_Pc [.ref h0, .int p0] (fun U => va_P (dC, dI) vwCl [(h0, .inr (0, [.ref h1, .int (nI n)]))] U.heap ∧ va_K (dC, dI) vwCl [] U)) (vp_Si (fun r => r = qHp p0 n)) 0 0 (fun _ => False) := by
  refine Met.ofW (cc := cX0_hasPlace) (maxL := 2) (ret := (some .boolean)) (by decide +kernel) rfl ?_
  intro p e s m args below meth c s₁ B hml hv
  obtain ⟨rfl, hP, hK⟩ := hv
  have hx := B.exec
  have hb := B.bytes
  have hr := B.returns
  have hts := atoms_spec (ws := wsX0_hasPlace) B.pre
  have hown : s.vm.findClass RX0 = some m.cls := findClass_of_methodNamed B.named
  have hlocks := B.notSynchronized
  have hl := lv_entry ([.ref h0, .int p0]) (n := 2) (Nat.le_of_ble_eq_true rfl)
  rw [lg_entry_eq]
  generalize (lg_sl ([.ref h0, .int p0]) ++ List.replicate (2 - (lg_sl ([.ref h0, .int p0])).length) Slot.unset).toArray = ls at hl ⊢
  have hl : lv_has ls 2 [(0, .ref h0), (1, .int p0)] := hl
  refine lv_iload_n hx hb dX0_hasPlace_0 rfl (lv_at hl 1 rfl) ?_
  refine lv_if_lt (tgt := 16) hx hb dX0_hasPlace_1 (by decide) (fun c_1 => ?_) (fun c_1 => ?_)
  · refine lv_iconst (v := 0) hx hb dX0_hasPlace_16 (by decide) ?_
    exact W.zret (v := 0) hx hb hr rfl (fun t ht hW => ⟨0, rfl, (by simp only [qHp, if_pos c_1]), ht⟩) (fun q h => by cases h) dX0_hasPlace_17
  · refine lv_iload_n hx hb dX0_hasPlace_4 rfl (lv_at hl 1 rfl) ?_
    refine lv_aload_n hx hb dX0_hasPlace_5 rfl (lv_at hl 0 rfl) ?_
    refine va_get (D := (dC, dI)) (ci := 0) (v := .int (nI n)) (C := RX0) (T := TX0) (N := 2) hx hb hts inX0_hasPlace_X0 hown hK hP 0 rfl rfl 1 (by decide) (hts (.fieldLink RX0 15 "QueueHall$Row" "count" "I") (List.mem_of_getElem? (i := 1) (by decide +kernel))) (fun _ h9 => h9) rfl dX0_hasPlace_6 ?_
    refine lv_icmp_ge (tgt := 16) hx hb dX0_hasPlace_9 (by decide) (fun c_2 => ?_) (fun c_2 => ?_)
    · refine lv_iconst (v := 0) hx hb dX0_hasPlace_16 (by decide) ?_
      exact W.zret (v := 0) hx hb hr rfl (fun t ht hW => ⟨0, rfl, (by simp only [qHp, if_neg c_1, if_pos c_2]), ht⟩) (fun q h => by cases h) dX0_hasPlace_17
    · refine lv_iconst (v := 1) hx hb dX0_hasPlace_12 (by decide) ?_
      refine lv_goto (tgt := 17) hx hb dX0_hasPlace_13 (by decide) ?_
      exact W.zret (v := 1) hx hb hr rfl (fun t ht hW => ⟨1, rfl, (by simp only [qHp, if_neg c_1, if_neg c_2]), ht⟩) (fun q h => by cases h) dX0_hasPlace_17

set_option maxHeartbeats 4000000 in
set_option maxRecDepth 100000 in
theorem c_Row_hasPlaceOrEnd (l : Launch) (dC : Nat → ClassId) (dI : Nat → Nat → Nat) (h0 h1 n : Nat) (p0 : Int32) : Met l yX0_hasPlaceOrEnd wsX0_hasPlaceOrEnd ({ frames := 0, cells := 0, slots := 0, locals := 0 }) (va_Pc [.ref h0, .int p0] (fun U => va_P (dC, dI) vwCl [(h0, .inr (0, [.ref h1, .int (nI n)]))] U.heap ∧ va_K (dC, dI) vwCl [] U)) (vp_Si (fun r => r = qHe p0 n)) 0 0 (fun _ => False) := by
  refine Met.ofW (cc := cX0_hasPlaceOrEnd) (maxL := 2) (ret := (some .boolean)) (by decide +kernel) rfl ?_
  intro p e s m args below meth c s₁ B hml hv
  obtain ⟨rfl, hP, hK⟩ := hv
  have hx := B.exec
  have hb := B.bytes
  have hr := B.returns
  have hts := atoms_spec (ws := wsX0_hasPlaceOrEnd) B.pre
  have hown : s.vm.findClass RX0 = some m.cls := findClass_of_methodNamed B.named
  have hlocks := B.notSynchronized
  have hl := lv_entry ([.ref h0, .int p0]) (n := 2) (Nat.le_of_ble_eq_true rfl)
  rw [lg_entry_eq]
  generalize (lg_sl ([.ref h0, .int p0]) ++ List.replicate (2 - (lg_sl ([.ref h0, .int p0])).length) Slot.unset).toArray = ls at hl ⊢
  have hl : lv_has ls 2 [(0, .ref h0), (1, .int p0)] := hl
  refine lv_iload_n hx hb dX0_hasPlaceOrEnd_0 rfl (lv_at hl 1 rfl) ?_
  refine lv_if_lt (tgt := 16) hx hb dX0_hasPlaceOrEnd_1 (by decide) (fun c_1 => ?_) (fun c_1 => ?_)
  · refine lv_iconst (v := 0) hx hb dX0_hasPlaceOrEnd_16 (by decide) ?_
    exact W.zret (v := 0) hx hb hr rfl (fun t ht hW => ⟨0, rfl, (by simp only [qHe, if_pos c_1]), ht⟩) (fun q h => by cases h) dX0_hasPlaceOrEnd_17
  · refine lv_iload_n hx hb dX0_hasPlaceOrEnd_4 rfl (lv_at hl 1 rfl) ?_
    refine lv_aload_n hx hb dX0_hasPlaceOrEnd_5 rfl (lv_at hl 0 rfl) ?_
    refine va_get (D := (dC, dI)) (ci := 0) (v := .int (nI n)) (C := RX0) (T := TX0) (N := 2) hx hb hts inX0_hasPlaceOrEnd_X0 hown hK hP 0 rfl rfl 1 (by decide) (hts (.fieldLink RX0 15 "QueueHall$Row" "count" "I") (List.mem_of_getElem? (i := 1) (by decide +kernel))) (fun _ h9 => h9) rfl dX0_hasPlaceOrEnd_6 ?_
    refine lv_icmp_gt (tgt := 16) hx hb dX0_hasPlaceOrEnd_9 (by decide) (fun c_2 => ?_) (fun c_2 => ?_)
    · refine lv_iconst (v := 0) hx hb dX0_hasPlaceOrEnd_16 (by decide) ?_
      exact W.zret (v := 0) hx hb hr rfl (fun t ht hW => ⟨0, rfl, (by simp only [qHe, if_neg c_1, if_pos c_2]), ht⟩) (fun q h => by cases h) dX0_hasPlaceOrEnd_17
    · refine lv_iconst (v := 1) hx hb dX0_hasPlaceOrEnd_12 (by decide) ?_
      refine lv_goto (tgt := 17) hx hb dX0_hasPlaceOrEnd_13 (by decide) ?_
      exact W.zret (v := 1) hx hb hr rfl (fun t ht hW => ⟨1, rfl, (by simp only [qHe, if_neg c_1, if_neg c_2]), ht⟩) (fun q h => by cases h) dX0_hasPlaceOrEnd_17

set_option maxHeartbeats 4000000 in
set_option maxRecDepth 100000 in
theorem c_Row_at (l : Launch) (dC : Nat → ClassId) (dI : Nat → Nat → Nat) (h0 h1 n : Nat) (cA : ClassId) (f g : Nat → Int32) (p0 : Int32) (hn : n < 2100) (hg : qAg n f g) : Met l yX0_at wsX0_at ({ frames := 1, cells := 0, slots := 0, locals := 21 }) (va_Pc [.ref h0, .int p0] (fun U => va_P (dC, dI) vwCl [(h0, .inr (0, [.ref h1, .int (nI n)])), (h1, .inl (cA, 2100, .inl f))] U.heap ∧ va_K (dC, dI) vwCl [(cA, .int)] U)) (vp_Sl (fun r => r = qAt g n p0)) 0 0 (fun _ => False) := by
  refine Met.ofW (cc := cX0_at) (maxL := 2) (ret := (some .long)) (by decide +kernel) rfl ?_
  intro p e s m args below meth c s₁ B hml hv
  obtain ⟨rfl, hP, hK⟩ := hv
  have hx := B.exec
  have hb := B.bytes
  have hr := B.returns
  have hts := atoms_spec (ws := wsX0_at) B.pre
  have hown : s.vm.findClass RX0 = some m.cls := findClass_of_methodNamed B.named
  have hlocks := B.notSynchronized
  have hl := lv_entry ([.ref h0, .int p0]) (n := 2) (Nat.le_of_ble_eq_true rfl)
  rw [lg_entry_eq]
  generalize (lg_sl ([.ref h0, .int p0]) ++ List.replicate (2 - (lg_sl ([.ref h0, .int p0])).length) Slot.unset).toArray = ls at hl ⊢
  have hl : lv_has ls 2 [(0, .ref h0), (1, .int p0)] := hl
  rcases qHp_c p0 (n := n) (by omega) with h | ⟨k, hk, rfl⟩
  · refine lv_aload_n hx hb dX0_at_0 rfl (lv_at hl 0 rfl) ?_
    refine lv_iload_n hx hb dX0_at_1 rfl (lv_at hl 1 rfl) ?_
    have hPc := hP.sub (ws' := [(h0, .inr (0, [.ref h1, .int (nI n)]))]) [0] rfl
    have hKc := hK.sub (tys' := []) [] rfl
    refine q_csiE (va_runV (As := [.int p0]) (rest := []) ⟨hx, hb, hml, hown, hts⟩ (c_Row_hasPlace l dC dI h0 h1 n p0) (cwV 1 hts gX0_at_X0_hasPlace_v rfl rfl rfl (by decide +kernel) ⟨Nat.le_of_ble_eq_true rfl, Nat.le_of_ble_eq_true rfl⟩) ⟨q_blR, va_recv hKc hPc (ci := 0) (q0 := 0) rfl rfl, fun U hU hW => ⟨rfl, by rw [hU]; exact hPc, va_K.moved hW.alike hKc⟩⟩ rfl rfl hl.1 rfl (lv_room (Nat.le_of_ble_eq_true rfl)) dX0_at_2 ⟨Nat.le_of_ble_eq_true rfl, Nat.le_of_ble_eq_true rfl⟩) ?_
    refine q_top (y := 0) h ?_
    refine lv_if_eq (tgt := 18) hx hb dX0_at_5 (by decide) (fun c_1 => ?_) (fun c_0 => absurd (show (0 : Int32) = (0 : Int32) from (by decide)) c_0)
    refine lv_ldc2 (v := qNo) hx hb hown (hts (.constantLong RX0 23 (1099511627776)) (List.mem_of_getElem? (i := 8) (by decide +kernel))) dX0_at_18 ?_
    exact W.lret (v := qNo) hx hb hr (fun t ht hW => ⟨qNo, rfl, (qAt_o h).symm, ht⟩) (fun q h => by cases h) dX0_at_21
  · refine lv_aload_n hx hb dX0_at_0 rfl (lv_at hl 0 rfl) ?_
    refine lv_iload_n hx hb dX0_at_1 rfl (lv_at hl 1 rfl) ?_
    have hPc := hP.sub (ws' := [(h0, .inr (0, [.ref h1, .int (nI n)]))]) [0] rfl
    have hKc := hK.sub (tys' := []) [] rfl
    refine q_csiE (va_runV (As := [.int (nI k)]) (rest := []) ⟨hx, hb, hml, hown, hts⟩ (c_Row_hasPlace l dC dI h0 h1 n (nI k)) (cwV 1 hts gX0_at_X0_hasPlace_v rfl rfl rfl (by decide +kernel) ⟨Nat.le_of_ble_eq_true rfl, Nat.le_of_ble_eq_true rfl⟩) ⟨q_blR, va_recv hKc hPc (ci := 0) (q0 := 0) rfl rfl, fun U hU hW => ⟨rfl, by rw [hU]; exact hPc, va_K.moved hW.alike hKc⟩⟩ rfl rfl hl.1 rfl (lv_room (Nat.le_of_ble_eq_true rfl)) dX0_at_2 ⟨Nat.le_of_ble_eq_true rfl, Nat.le_of_ble_eq_true rfl⟩) ?_
    refine q_top (y := 1) (qHp_in (by omega) (by omega)) ?_
    refine lv_if_eq (tgt := 18) hx hb dX0_at_5 (by decide) (fun c_0 => absurd c_0 (show ¬ (1 : Int32) = (0 : Int32) from (by decide))) (fun c_2 => ?_)
    refine lv_aload_n hx hb dX0_at_8 rfl (lv_at hl 0 rfl) ?_
    refine va_get (D := (dC, dI)) (ci := 0) (v := .ref h1) (C := RX0) (T := TX0) (N := 2) hx hb hts inX0_at_X0 hown hK hP 0 rfl rfl 0 (by decide) (hts (.fieldLink RX0 9 "QueueHall$Row" "numbers" "[I") (List.mem_of_getElem? (i := 7) (by decide +kernel))) (fun _ h9 => h9) rfl dX0_at_9 ?_
    refine lv_iload_n hx hb dX0_at_12 rfl (lv_at hl 1 rfl) ?_
    refine q_iald (k := k) hx hb hK hP 1 0 rfl rfl (by omega) (by omega) dX0_at_13 ?_
    refine lv_i2l (v := (f k).toInt64) hx hb dX0_at_14 rfl ?_
    refine lv_goto (tgt := 21) hx hb dX0_at_15 (by decide) ?_
    exact W.lret (v := (f k).toInt64) hx hb hr (fun t ht hW => ⟨(f k).toInt64, rfl, (by rw [qAt_i hk (by omega), hg k hk]), ht⟩) (fun q h => by cases h) dX0_at_21

set_option maxHeartbeats 4000000 in
set_option maxRecDepth 100000 in
theorem c_Row_put (l : Launch) (dC : Nat → ClassId) (dI : Nat → Nat → Nat) (sz : Nat) (h0 h1 n : Nat) (cA : ClassId) (f g : Nat → Int32) (p0 p1 : Int32) (hn : n < 2000) (hg : qAg n f g) : Met l yX0_put wsX0_put ({ frames := 1, cells := 0, slots := 0, locals := 21 }) (va_Pc [.ref h0, .int p0, .int p1] (fun U => U.heap.size = sz ∧ va_P (dC, dI) vwCl [(h0, .inr (0, [.ref h1, .int (nI n)])), (h1, .inl (cA, 2100, .inl f))] U.heap ∧ va_K (dC, dI) vwCl [(cA, .int)] U ∧ va_D (fun _ => True) [(h0, .inr (0, [.ref h1, .int (nI n)])), (h1, .inl (cA, 2100, .inl f))])) (va_Qi (fun (r : Int32) (u : qR) => (r, u) = qPut g n p0 p1) (at_Row dC dI (va_A [(h0, .inr (0, [.ref h1, .int (nI n)])), (h1, .inl (cA, 2100, .inl f))] sz) h0 h1 cA) (va_A [(h0, .inr (0, [.ref h1, .int (nI n)])), (h1, .inl (cA, 2100, .inl f))] sz)) 0 0 (va_A [(h0, .inr (0, [.ref h1, .int (nI n)])), (h1, .inl (cA, 2100, .inl f))] sz) := by
  refine Met.ofW (cc := cX0_put) (maxL := 3) (ret := (some .boolean)) (by decide +kernel) rfl ?_
  intro p e s m args below meth c s₁ B hml hv
  obtain ⟨rfl, hsz, hP, hK, hD0⟩ := hv
  have hx := B.exec
  have hb := B.bytes
  have hr := B.returns
  have hts := atoms_spec (ws := wsX0_put) B.pre
  have hown : s.vm.findClass RX0 = some m.cls := findClass_of_methodNamed B.named
  have hlocks := B.notSynchronized
  subst hsz
  have hD := hD0.self (sz := s.heap.size)
  generalize hAe : va_A [(h0, .inr (0, [.ref h1, .int (nI n)])), (h1, .inl (cA, 2100, .inl f))] s.heap.size = A at hD ⊢
  have hA : ∀ q : Nat, s.heap.size ≤ q → A q := fun q h => by rw [← hAe]; exact Or.inr h
  have hS : va_S A s.heap s.heap [] := va_S.rf
  have hl := lv_entry ([.ref h0, .int p0, .int p1]) (n := 3) (Nat.le_of_ble_eq_true rfl)
  rw [lg_entry_eq]
  generalize (lg_sl ([.ref h0, .int p0, .int p1]) ++ List.replicate (3 - (lg_sl ([.ref h0, .int p0, .int p1])).length) Slot.unset).toArray = ls at hl ⊢
  have hl : lv_has ls 3 [(0, .ref h0), (1, .int p0), (2, .int p1)] := hl
  rcases qHe_c p0 (n := n) (by omega) with h | ⟨k, hk, rfl⟩
  · refine lv_aload_n hx hb dX0_put_0 rfl (lv_at hl 0 rfl) ?_
    refine va_get (D := (dC, dI)) (ci := 0) (v := .int (nI n)) (C := RX0) (T := TX0) (N := 2) hx hb hts inX0_put_X0 hown hK hP 0 rfl rfl 1 (by decide) (hts (.fieldLink RX0 15 "QueueHall$Row" "count" "I") (List.mem_of_getElem? (i := 1) (by decide +kernel))) (fun _ h9 => h9) rfl dX0_put_1 ?_
    refine lv_sipush (v := 2000) hx hb dX0_put_4 (by decide) ?_
    refine lv_icmp_ge (tgt := 18) hx hb dX0_put_7 (by decide) (fun c_0 => absurd c_0 (show ¬ (2000 : Int32) ≤ (nI n) from (by simp (disch := omega) only [ti_lt, ti_le, ti_eq, ti_0, ti_1, ti_2, ti_m1, ti_100, ti_2000, nI_toInt] <;> omega))) (fun c_1 => ?_)
    have k_1 : n < 2000 := by
      simp (disch := omega) only [ti_lt, ti_le, ti_eq, ti_0, ti_1, ti_2, ti_m1, ti_100, ti_2000, nI_toInt] at c_1
      omega
    refine lv_aload_n hx hb dX0_put_10 rfl (lv_at hl 0 rfl) ?_
    refine lv_iload_n hx hb dX0_put_11 rfl (lv_at hl 1 rfl) ?_
    have hPc := hP.sub (ws' := [(h0, .inr (0, [.ref h1, .int (nI n)]))]) [0] rfl
    have hKc := hK.sub (tys' := []) [] rfl
    refine q_csiE (va_runV (As := [.int p0]) (rest := []) ⟨hx, hb, hml, hown, hts⟩ (c_Row_hasPlaceOrEnd l dC dI h0 h1 n p0) (cwV 1 hts gX0_put_X0_hasPlaceOrEnd_v rfl rfl rfl (by decide +kernel) ⟨Nat.le_of_ble_eq_true rfl, Nat.le_of_ble_eq_true rfl⟩) ⟨q_blR, va_recv hKc hPc (ci := 0) (q0 := 0) rfl rfl, fun U hU hW => ⟨rfl, by rw [hU]; exact hPc, va_K.moved hW.alike hKc⟩⟩ rfl rfl hl.1 rfl (lv_room (Nat.le_of_ble_eq_true rfl)) dX0_put_12 ⟨Nat.le_of_ble_eq_true rfl, Nat.le_of_ble_eq_true rfl⟩) ?_
    refine q_top (y := 0) h ?_
    refine lv_if_ne (tgt := 20) hx hb dX0_put_15 (by decide) (fun c_0 => absurd (show (0 : Int32) = (0 : Int32) from (by decide)) c_0) (fun c_2 => ?_)
    refine lv_iconst (v := 0) hx hb dX0_put_18 (by decide) ?_
    exact W.zret (v := 0) hx hb hr rfl (fun t ht hW => ⟨⟨0, (g, n), rfl, (qPut_o h).symm, f, hg, by rw [ht]; exact hP, va_K.moved hW.alike hK, hD⟩, hS.F ht⟩) hS.2.2 dX0_put_19
  · refine lv_aload_n hx hb dX0_put_0 rfl (lv_at hl 0 rfl) ?_
    refine va_get (D := (dC, dI)) (ci := 0) (v := .int (nI n)) (C := RX0) (T := TX0) (N := 2) hx hb hts inX0_put_X0 hown hK hP 0 rfl rfl 1 (by decide) (hts (.fieldLink RX0 15 "QueueHall$Row" "count" "I") (List.mem_of_getElem? (i := 1) (by decide +kernel))) (fun _ h9 => h9) rfl dX0_put_1 ?_
    refine lv_sipush (v := 2000) hx hb dX0_put_4 (by decide) ?_
    refine lv_icmp_ge (tgt := 18) hx hb dX0_put_7 (by decide) (fun c_0 => absurd c_0 (show ¬ (2000 : Int32) ≤ (nI n) from (by simp (disch := omega) only [ti_lt, ti_le, ti_eq, ti_0, ti_1, ti_2, ti_m1, ti_100, ti_2000, nI_toInt] <;> omega))) (fun c_3 => ?_)
    have k_3 : n < 2000 := by
      simp (disch := omega) only [ti_lt, ti_le, ti_eq, ti_0, ti_1, ti_2, ti_m1, ti_100, ti_2000, nI_toInt] at c_3
      omega
    refine lv_aload_n hx hb dX0_put_10 rfl (lv_at hl 0 rfl) ?_
    refine lv_iload_n hx hb dX0_put_11 rfl (lv_at hl 1 rfl) ?_
    have hPc := hP.sub (ws' := [(h0, .inr (0, [.ref h1, .int (nI n)]))]) [0] rfl
    have hKc := hK.sub (tys' := []) [] rfl
    refine q_csiE (va_runV (As := [.int (nI k)]) (rest := []) ⟨hx, hb, hml, hown, hts⟩ (c_Row_hasPlaceOrEnd l dC dI h0 h1 n (nI k)) (cwV 1 hts gX0_put_X0_hasPlaceOrEnd_v rfl rfl rfl (by decide +kernel) ⟨Nat.le_of_ble_eq_true rfl, Nat.le_of_ble_eq_true rfl⟩) ⟨q_blR, va_recv hKc hPc (ci := 0) (q0 := 0) rfl rfl, fun U hU hW => ⟨rfl, by rw [hU]; exact hPc, va_K.moved hW.alike hKc⟩⟩ rfl rfl hl.1 rfl (lv_room (Nat.le_of_ble_eq_true rfl)) dX0_put_12 ⟨Nat.le_of_ble_eq_true rfl, Nat.le_of_ble_eq_true rfl⟩) ?_
    refine q_top (y := 1) (qHe_in (by omega) (by omega)) ?_
    refine lv_if_ne (tgt := 20) hx hb dX0_put_15 (by decide) (fun c_4 => ?_) (fun c_0 => absurd c_0 (show ¬ (1 : Int32) = (0 : Int32) from (by decide)))
    refine lv_aload_n hx hb dX0_put_20 rfl (lv_at hl 0 rfl) ?_
    refine va_get (D := (dC, dI)) (ci := 0) (v := .ref h1) (C := RX0) (T := TX0) (N := 2) hx hb hts inX0_put_X0 hown hK hP 0 rfl rfl 0 (by decide) (hts (.fieldLink RX0 9 "QueueHall$Row" "numbers" "[I") (List.mem_of_getElem? (i := 7) (by decide +kernel))) (fun _ h9 => h9) rfl dX0_put_21 ?_
    refine lv_iload_n hx hb dX0_put_24 rfl (lv_at hl 1 rfl) ?_
    refine lv_aload_n hx hb dX0_put_25 rfl (lv_at hl 0 rfl) ?_
    refine va_get (D := (dC, dI)) (ci := 0) (v := .ref h1) (C := RX0) (T := TX0) (N := 2) hx hb hts inX0_put_X0 hown hK hP 0 rfl rfl 0 (by decide) (hts (.fieldLink RX0 9 "QueueHall$Row" "numbers" "[I") (List.mem_of_getElem? (i := 7) (by decide +kernel))) (fun _ h9 => h9) rfl dX0_put_26 ?_
    refine lv_iload_n hx hb dX0_put_29 rfl (lv_at hl 1 rfl) ?_
    refine lv_iconst (v := 1) hx hb dX0_put_30 (by decide) ?_
    refine lv_iadd hx hb dX0_put_31 ?_
    refine q_top (y := nI (k + 1)) (nI_1 k) ?_
    refine lv_aload_n hx hb dX0_put_32 rfl (lv_at hl 0 rfl) ?_
    refine va_get (D := (dC, dI)) (ci := 0) (v := .int (nI n)) (C := RX0) (T := TX0) (N := 2) hx hb hts inX0_put_X0 hown hK hP 0 rfl rfl 1 (by decide) (hts (.fieldLink RX0 15 "QueueHall$Row" "count" "I") (List.mem_of_getElem? (i := 1) (by decide +kernel))) (fun _ h9 => h9) rfl dX0_put_33 ?_
    refine lv_iload_n hx hb dX0_put_36 rfl (lv_at hl 1 rfl) ?_
    refine lv_isub hx hb dX0_put_37 ?_
    refine q_top (y := nI (n - k)) (pk_sub (by omega)) ?_
    refine q_copy (sp := k) (dp := k + 1) (n := n - k) hx hb (by rw [hml]; exact hl.1.symm) hown (hts (.methodLink RX0 28 arraycopyName) (List.mem_of_getElem? (i := 8) (by decide +kernel))) (hts (.native arraycopyName) (List.mem_of_getElem? (i := 9) (by decide +kernel))) (hts (.static arraycopyName) (List.mem_of_getElem? (i := 10) (by decide +kernel))) (hts (.initialized "java/lang/System") (List.mem_of_getElem? (i := 11) (by decide +kernel))) hK hP hD hS 1 1 0 0 rfl rfl rfl rfl (by omega) (by omega) (by omega) (by omega) (Nat.le_of_ble_eq_true rfl) (Nat.le_of_ble_eq_true rfl) dX0_put_38 (fun H locs hP hD hS => ?_)
    have hP : va_P (dC, dI) vwCl [(h0, .inr (0, [.ref h1, .int (nI n)])), (h1, .inl (cA, 2100, .inl (va_cpy f f k (k + 1) (n - k))))] H := hP
    have hD : va_D A [(h0, .inr (0, [.ref h1, .int (nI n)])), (h1, .inl (cA, 2100, .inl (va_cpy f f k (k + 1) (n - k))))] := hD
    refine lv_aload_n hx hb dX0_put_41 rfl (lv_at hl 0 rfl) ?_
    refine va_get (D := (dC, dI)) (ci := 0) (v := .ref h1) (C := RX0) (T := TX0) (N := 2) hx hb hts inX0_put_X0 hown hK hP 0 rfl rfl 0 (by decide) (hts (.fieldLink RX0 9 "QueueHall$Row" "numbers" "[I") (List.mem_of_getElem? (i := 7) (by decide +kernel))) (fun _ h9 => h9) rfl dX0_put_42 ?_
    refine lv_iload_n hx hb dX0_put_45 rfl (lv_at hl 1 rfl) ?_
    refine lv_iload_n hx hb dX0_put_46 rfl (lv_at hl 2 rfl) ?_
    refine q_iast (k := k) hx hb hK hP hD hS 1 0 rfl rfl (by omega) (by omega) dX0_put_47 (fun H locs hP hD hS => ?_)
    have hP : va_P (dC, dI) vwCl [(h0, .inr (0, [.ref h1, .int (nI n)])), (h1, .inl (cA, 2100, .inl (upd (va_cpy f f k (k + 1) (n - k)) k p1)))] H := hP
    have hD : va_D A [(h0, .inr (0, [.ref h1, .int (nI n)])), (h1, .inl (cA, 2100, .inl (upd (va_cpy f f k (k + 1) (n - k)) k p1)))] := hD
    refine lv_aload_n hx hb dX0_put_48 rfl (lv_at hl 0 rfl) ?_
    refine lv_dup hx hb dX0_put_49 rfl ?_
    refine va_get (D := (dC, dI)) (ci := 0) (v := .int (nI n)) (C := RX0) (T := TX0) (N := 2) hx hb hts inX0_put_X0 hown hK hP 0 rfl rfl 1 (by decide) (hts (.fieldLink RX0 15 "QueueHall$Row" "count" "I") (List.mem_of_getElem? (i := 1) (by decide +kernel))) (fun _ h9 => h9) rfl dX0_put_50 ?_
    refine lv_iconst (v := 1) hx hb dX0_put_53 (by decide) ?_
    refine lv_iadd hx hb dX0_put_54 ?_
    refine q_top (y := nI (n + 1)) (nI_1 n) ?_
    refine va_put (D := (dC, dI)) (ci := 0) (v := .int (nI (n + 1))) (ty := .int) (C := RX0) (T := TX0) (N := 2) hx hb hts inX0_put_X0 tyX0 tyX0_ok nmX0 hown hK hP hD hS 0 rfl rfl 1 (by decide) (hts (.fieldLink RX0 15 "QueueHall$Row" "count" "I") (List.mem_of_getElem? (i := 1) (by decide +kernel))) (fun _ h9 => h9) rfl (by decide +kernel) rfl rfl (Nat.le_of_ble_eq_true rfl) dX0_put_55 (fun H locs hP hD hS => ?_)
    have hP : va_P (dC, dI) vwCl [(h0, .inr (0, [.ref h1, .int (nI (n + 1))])), (h1, .inl (cA, 2100, .inl (upd (va_cpy f f k (k + 1) (n - k)) k p1)))] H := hP
    have hD : va_D A [(h0, .inr (0, [.ref h1, .int (nI (n + 1))])), (h1, .inl (cA, 2100, .inl (upd (va_cpy f f k (k + 1) (n - k)) k p1)))] := hD
    refine lv_iconst (v := 1) hx hb dX0_put_58 (by decide) ?_
    exact W.zret (v := 1) hx hb hr rfl (fun t ht hW => ⟨⟨1, (qIns g k p1, n + 1), rfl, (qPut_i hk (by omega)).symm, _, qAg_put hg hk, by rw [ht]; exact hP, va_K.moved hW.alike hK, hD⟩, hS.F ht⟩) hS.2.2 dX0_put_59

set_option maxHeartbeats 4000000 in
set_option maxRecDepth 100000 in
theorem c_Row_take (l : Launch) (dC : Nat → ClassId) (dI : Nat → Nat → Nat) (sz : Nat) (h0 h1 n : Nat) (cA : ClassId) (f g : Nat → Int32) (p0 : Int32) (hn : n < 2100) (hg : qAg n f g) : Met l yX0_take wsX0_take ({ frames := 1, cells := 0, slots := 0, locals := 21 }) (va_Pc [.ref h0, .int p0] (fun U => U.heap.size = sz ∧ va_P (dC, dI) vwCl [(h0, .inr (0, [.ref h1, .int (nI n)])), (h1, .inl (cA, 2100, .inl f))] U.heap ∧ va_K (dC, dI) vwCl [(cA, .int)] U ∧ va_D (fun _ => True) [(h0, .inr (0, [.ref h1, .int (nI n)])), (h1, .inl (cA, 2100, .inl f))])) (va_Ql (fun (r : Int64) (u : qR) => (r, u) = qTake g n p0) (at_Row dC dI (va_A [(h0, .inr (0, [.ref h1, .int (nI n)])), (h1, .inl (cA, 2100, .inl f))] sz) h0 h1 cA) (va_A [(h0, .inr (0, [.ref h1, .int (nI n)])), (h1, .inl (cA, 2100, .inl f))] sz)) 0 0 (va_A [(h0, .inr (0, [.ref h1, .int (nI n)])), (h1, .inl (cA, 2100, .inl f))] sz) := by
  refine Met.ofW (cc := cX0_take) (maxL := 3) (ret := (some .long)) (by decide +kernel) rfl ?_
  intro p e s m args below meth c s₁ B hml hv
  obtain ⟨rfl, hsz, hP, hK, hD0⟩ := hv
  have hx := B.exec
  have hb := B.bytes
  have hr := B.returns
  have hts := atoms_spec (ws := wsX0_take) B.pre
  have hown : s.vm.findClass RX0 = some m.cls := findClass_of_methodNamed B.named
  have hlocks := B.notSynchronized
  subst hsz
  have hD := hD0.self (sz := s.heap.size)
  generalize hAe : va_A [(h0, .inr (0, [.ref h1, .int (nI n)])), (h1, .inl (cA, 2100, .inl f))] s.heap.size = A at hD ⊢
  have hA : ∀ q : Nat, s.heap.size ≤ q → A q := fun q h => by rw [← hAe]; exact Or.inr h
  have hS : va_S A s.heap s.heap [] := va_S.rf
  have hl := lv_entry ([.ref h0, .int p0]) (n := 3) (Nat.le_of_ble_eq_true rfl)
  rw [lg_entry_eq]
  generalize (lg_sl ([.ref h0, .int p0]) ++ List.replicate (3 - (lg_sl ([.ref h0, .int p0])).length) Slot.unset).toArray = ls at hl ⊢
  have hl : lv_has ls 3 [(0, .ref h0), (1, .int p0)] := hl
  rcases qHp_c p0 (n := n) (by omega) with h | ⟨k, hk, rfl⟩
  · refine lv_aload_n hx hb dX0_take_0 rfl (lv_at hl 0 rfl) ?_
    refine lv_iload_n hx hb dX0_take_1 rfl (lv_at hl 1 rfl) ?_
    have hPc := hP.sub (ws' := [(h0, .inr (0, [.ref h1, .int (nI n)]))]) [0] rfl
    have hKc := hK.sub (tys' := []) [] rfl
    refine q_csiE (va_runV (As := [.int p0]) (rest := []) ⟨hx, hb, hml, hown, hts⟩ (c_Row_hasPlace l dC dI h0 h1 n p0) (cwV 1 hts gX0_take_X0_hasPlace_v rfl rfl rfl (by decide +kernel) ⟨Nat.le_of_ble_eq_true rfl, Nat.le_of_ble_eq_true rfl⟩) ⟨q_blR, va_recv hKc hPc (ci := 0) (q0 := 0) rfl rfl, fun U hU hW => ⟨rfl, by rw [hU]; exact hPc, va_K.moved hW.alike hKc⟩⟩ rfl rfl hl.1 rfl (lv_room (Nat.le_of_ble_eq_true rfl)) dX0_take_2 ⟨Nat.le_of_ble_eq_true rfl, Nat.le_of_ble_eq_true rfl⟩) ?_
    refine q_top (y := 0) h ?_
    refine lv_if_ne (tgt := 12) hx hb dX0_take_5 (by decide) (fun c_0 => absurd (show (0 : Int32) = (0 : Int32) from (by decide)) c_0) (fun c_1 => ?_)
    refine lv_ldc2 (v := qNo) hx hb hown (hts (.constantLong RX0 23 (1099511627776)) (List.mem_of_getElem? (i := 7) (by decide +kernel))) dX0_take_8 ?_
    exact W.lret (v := qNo) hx hb hr (fun t ht hW => ⟨⟨qNo, (g, n), rfl, (qTake_o h).symm, f, hg, by rw [ht]; exact hP, va_K.moved hW.alike hK, hD⟩, hS.F ht⟩) hS.2.2 dX0_take_11
  · refine lv_aload_n hx hb dX0_take_0 rfl (lv_at hl 0 rfl) ?_
    refine lv_iload_n hx hb dX0_take_1 rfl (lv_at hl 1 rfl) ?_
    have hPc := hP.sub (ws' := [(h0, .inr (0, [.ref h1, .int (nI n)]))]) [0] rfl
    have hKc := hK.sub (tys' := []) [] rfl
    refine q_csiE (va_runV (As := [.int (nI k)]) (rest := []) ⟨hx, hb, hml, hown, hts⟩ (c_Row_hasPlace l dC dI h0 h1 n (nI k)) (cwV 1 hts gX0_take_X0_hasPlace_v rfl rfl rfl (by decide +kernel) ⟨Nat.le_of_ble_eq_true rfl, Nat.le_of_ble_eq_true rfl⟩) ⟨q_blR, va_recv hKc hPc (ci := 0) (q0 := 0) rfl rfl, fun U hU hW => ⟨rfl, by rw [hU]; exact hPc, va_K.moved hW.alike hKc⟩⟩ rfl rfl hl.1 rfl (lv_room (Nat.le_of_ble_eq_true rfl)) dX0_take_2 ⟨Nat.le_of_ble_eq_true rfl, Nat.le_of_ble_eq_true rfl⟩) ?_
    refine q_top (y := 1) (qHp_in (by omega) (by omega)) ?_
    refine lv_if_ne (tgt := 12) hx hb dX0_take_5 (by decide) (fun c_2 => ?_) (fun c_0 => absurd c_0 (show ¬ (1 : Int32) = (0 : Int32) from (by decide)))
    refine lv_aload_n hx hb dX0_take_12 rfl (lv_at hl 0 rfl) ?_
    refine va_get (D := (dC, dI)) (ci := 0) (v := .ref h1) (C := RX0) (T := TX0) (N := 2) hx hb hts inX0_take_X0 hown hK hP 0 rfl rfl 0 (by decide) (hts (.fieldLink RX0 9 "QueueHall$Row" "numbers" "[I") (List.mem_of_getElem? (i := 8) (by decide +kernel))) (fun _ h9 => h9) rfl dX0_take_13 ?_
    refine lv_iload_n hx hb dX0_take_16 rfl (lv_at hl 1 rfl) ?_
    refine q_iald (k := k) hx hb hK hP 1 0 rfl rfl (by omega) (by omega) dX0_take_17 ?_
    refine lv_istore_n (lv' := [(2, .int (f k)), (0, .ref h0), (1, .int (nI k))]) hx hb dX0_take_18 rfl hl (by decide) rfl (fun ls hl => ?_)
    refine lv_aload_n hx hb dX0_take_19 rfl (lv_at hl 1 rfl) ?_
    refine lv_dup hx hb dX0_take_20 rfl ?_
    refine va_get (D := (dC, dI)) (ci := 0) (v := .int (nI n)) (C := RX0) (T := TX0) (N := 2) hx hb hts inX0_take_X0 hown hK hP 0 rfl rfl 1 (by decide) (hts (.fieldLink RX0 15 "QueueHall$Row" "count" "I") (List.mem_of_getElem? (i := 6) (by decide +kernel))) (fun _ h9 => h9) rfl dX0_take_21 ?_
    refine lv_iconst (v := 1) hx hb dX0_take_24 (by decide) ?_
    refine lv_isub hx hb dX0_take_25 ?_
    refine q_top (y := nI (n - 1)) (q_m1 (by omega)) ?_
    refine va_put (D := (dC, dI)) (ci := 0) (v := .int (nI (n - 1))) (ty := .int) (C := RX0) (T := TX0) (N := 2) hx hb hts inX0_take_X0 tyX0 tyX0_ok nmX0 hown hK hP hD hS 0 rfl rfl 1 (by decide) (hts (.fieldLink RX0 15 "QueueHall$Row" "count" "I") (List.mem_of_getElem? (i := 6) (by decide +kernel))) (fun _ h9 => h9) rfl (by decide +kernel) rfl rfl (Nat.le_of_ble_eq_true rfl) dX0_take_26 (fun H locs hP hD hS => ?_)
    have hP : va_P (dC, dI) vwCl [(h0, .inr (0, [.ref h1, .int (nI (n - 1))])), (h1, .inl (cA, 2100, .inl f))] H := hP
    have hD : va_D A [(h0, .inr (0, [.ref h1, .int (nI (n - 1))])), (h1, .inl (cA, 2100, .inl f))] := hD
    refine lv_aload_n hx hb dX0_take_29 rfl (lv_at hl 1 rfl) ?_
    refine va_get (D := (dC, dI)) (ci := 0) (v := .ref h1) (C := RX0) (T := TX0) (N := 2) hx hb hts inX0_take_X0 hown hK hP 0 rfl rfl 0 (by decide) (hts (.fieldLink RX0 9 "QueueHall$Row" "numbers" "[I") (List.mem_of_getElem? (i := 8) (by decide +kernel))) (fun _ h9 => h9) rfl dX0_take_30 ?_
    refine lv_iload_n hx hb dX0_take_33 rfl (lv_at hl 2 rfl) ?_
    refine lv_iconst (v := 1) hx hb dX0_take_34 (by decide) ?_
    refine lv_iadd hx hb dX0_take_35 ?_
    refine q_top (y := nI (k + 1)) (nI_1 k) ?_
    refine lv_aload_n hx hb dX0_take_36 rfl (lv_at hl 1 rfl) ?_
    refine va_get (D := (dC, dI)) (ci := 0) (v := .ref h1) (C := RX0) (T := TX0) (N := 2) hx hb hts inX0_take_X0 hown hK hP 0 rfl rfl 0 (by decide) (hts (.fieldLink RX0 9 "QueueHall$Row" "numbers" "[I") (List.mem_of_getElem? (i := 8) (by decide +kernel))) (fun _ h9 => h9) rfl dX0_take_37 ?_
    refine lv_iload_n hx hb dX0_take_40 rfl (lv_at hl 2 rfl) ?_
    refine lv_aload_n hx hb dX0_take_41 rfl (lv_at hl 1 rfl) ?_
    refine va_get (D := (dC, dI)) (ci := 0) (v := .int (nI (n - 1))) (C := RX0) (T := TX0) (N := 2) hx hb hts inX0_take_X0 hown hK hP 0 rfl rfl 1 (by decide) (hts (.fieldLink RX0 15 "QueueHall$Row" "count" "I") (List.mem_of_getElem? (i := 6) (by decide +kernel))) (fun _ h9 => h9) rfl dX0_take_42 ?_
    refine lv_iload_n hx hb dX0_take_45 rfl (lv_at hl 2 rfl) ?_
    refine lv_isub hx hb dX0_take_46 ?_
    refine q_top (y := nI ((n - 1) - k)) (pk_sub (by omega)) ?_
    refine q_copy (sp := k + 1) (dp := k) (n := (n - 1) - k) hx hb (by rw [hml]; exact hl.1.symm) hown (hts (.methodLink RX0 28 arraycopyName) (List.mem_of_getElem? (i := 9) (by decide +kernel))) (hts (.native arraycopyName) (List.mem_of_getElem? (i := 10) (by decide +kernel))) (hts (.static arraycopyName) (List.mem_of_getElem? (i := 11) (by decide +kernel))) (hts (.initialized "java/lang/System") (List.mem_of_getElem? (i := 12) (by decide +kernel))) hK hP hD hS 1 1 0 0 rfl rfl rfl rfl (by omega) (by omega) (by omega) (by omega) (Nat.le_of_ble_eq_true rfl) (Nat.le_of_ble_eq_true rfl) dX0_take_47 (fun H locs hP hD hS => ?_)
    have hP : va_P (dC, dI) vwCl [(h0, .inr (0, [.ref h1, .int (nI (n - 1))])), (h1, .inl (cA, 2100, .inl (va_cpy f f (k + 1) k ((n - 1) - k))))] H := hP
    have hD : va_D A [(h0, .inr (0, [.ref h1, .int (nI (n - 1))])), (h1, .inl (cA, 2100, .inl (va_cpy f f (k + 1) k ((n - 1) - k))))] := hD
    refine lv_iload_n hx hb dX0_take_50 rfl (lv_at hl 0 rfl) ?_
    refine lv_i2l (v := (f k).toInt64) hx hb dX0_take_51 rfl ?_
    exact W.lret (v := (f k).toInt64) hx hb hr (fun t ht hW => ⟨⟨(f k).toInt64, (qDel g k, n - 1), rfl, (by rw [qTake_i hk (by omega), hg k hk]), _, qAg_take hg hk, by rw [ht]; exact hP, va_K.moved hW.alike hK, hD⟩, hS.F ht⟩) hS.2.2 dX0_take_52

set_option maxHeartbeats 4000000 in
set_option maxRecDepth 100000 in
theorem c_Row_swap (l : Launch) (dC : Nat → ClassId) (dI : Nat → Nat → Nat) (sz : Nat) (h0 h1 n : Nat) (cA : ClassId) (f g : Nat → Int32) (p0 p1 : Int32) (hn : n < 2100) (hg : qAg n f g) : Met l yX0_swap wsX0_swap ({ frames := 1, cells := 0, slots := 0, locals := 21 }) (va_Pc [.ref h0, .int p0, .int p1] (fun U => U.heap.size = sz ∧ va_P (dC, dI) vwCl [(h0, .inr (0, [.ref h1, .int (nI n)])), (h1, .inl (cA, 2100, .inl f))] U.heap ∧ va_K (dC, dI) vwCl [(cA, .int)] U ∧ va_D (fun _ => True) [(h0, .inr (0, [.ref h1, .int (nI n)])), (h1, .inl (cA, 2100, .inl f))])) (va_Ql (fun (r : Int64) (u : qR) => (r, u) = qSwap g n p0 p1) (at_Row dC dI (va_A [(h0, .inr (0, [.ref h1, .int (nI n)])), (h1, .inl (cA, 2100, .inl f))] sz) h0 h1 cA) (va_A [(h0, .inr (0, [.ref h1, .int (nI n)])), (h1, .inl (cA, 2100, .inl f))] sz)) 0 0 (va_A [(h0, .inr (0, [.ref h1, .int (nI n)])), (h1, .inl (cA, 2100, .inl f))] sz) := by
  refine Met.ofW (cc := cX0_swap) (maxL := 4) (ret := (some .long)) (by decide +kernel) rfl ?_
  intro p e s m args below meth c s₁ B hml hv
  obtain ⟨rfl, hsz, hP, hK, hD0⟩ := hv
  have hx := B.exec
  have hb := B.bytes
  have hr := B.returns
  have hts := atoms_spec (ws := wsX0_swap) B.pre
  have hown : s.vm.findClass RX0 = some m.cls := findClass_of_methodNamed B.named
  have hlocks := B.notSynchronized
  subst hsz
  have hD := hD0.self (sz := s.heap.size)
  generalize hAe : va_A [(h0, .inr (0, [.ref h1, .int (nI n)])), (h1, .inl (cA, 2100, .inl f))] s.heap.size = A at hD ⊢
  have hA : ∀ q : Nat, s.heap.size ≤ q → A q := fun q h => by rw [← hAe]; exact Or.inr h
  have hS : va_S A s.heap s.heap [] := va_S.rf
  have hl := lv_entry ([.ref h0, .int p0, .int p1]) (n := 4) (Nat.le_of_ble_eq_true rfl)
  rw [lg_entry_eq]
  generalize (lg_sl ([.ref h0, .int p0, .int p1]) ++ List.replicate (4 - (lg_sl ([.ref h0, .int p0, .int p1])).length) Slot.unset).toArray = ls at hl ⊢
  have hl : lv_has ls 4 [(0, .ref h0), (1, .int p0), (2, .int p1)] := hl
  rcases qHp_c p0 (n := n) (by omega) with h | ⟨k, hk, rfl⟩
  · refine lv_aload_n hx hb dX0_swap_0 rfl (lv_at hl 0 rfl) ?_
    refine lv_iload_n hx hb dX0_swap_1 rfl (lv_at hl 1 rfl) ?_
    have hPc := hP.sub (ws' := [(h0, .inr (0, [.ref h1, .int (nI n)]))]) [0] rfl
    have hKc := hK.sub (tys' := []) [] rfl
    refine q_csiE (va_runV (As := [.int p0]) (rest := []) ⟨hx, hb, hml, hown, hts⟩ (c_Row_hasPlace l dC dI h0 h1 n p0) (cwV 1 hts gX0_swap_X0_hasPlace_v rfl rfl rfl (by decide +kernel) ⟨Nat.le_of_ble_eq_true rfl, Nat.le_of_ble_eq_true rfl⟩) ⟨q_blR, va_recv hKc hPc (ci := 0) (q0 := 0) rfl rfl, fun U hU hW => ⟨rfl, by rw [hU]; exact hPc, va_K.moved hW.alike hKc⟩⟩ rfl rfl hl.1 rfl (lv_room (Nat.le_of_ble_eq_true rfl)) dX0_swap_2 ⟨Nat.le_of_ble_eq_true rfl, Nat.le_of_ble_eq_true rfl⟩) ?_
    refine q_top (y := 0) h ?_
    refine lv_if_ne (tgt := 12) hx hb dX0_swap_5 (by decide) (fun c_0 => absurd (show (0 : Int32) = (0 : Int32) from (by decide)) c_0) (fun c_1 => ?_)
    refine lv_ldc2 (v := qNo) hx hb hown (hts (.constantLong RX0 23 (1099511627776)) (List.mem_of_getElem? (i := 7) (by decide +kernel))) dX0_swap_8 ?_
    exact W.lret (v := qNo) hx hb hr (fun t ht hW => ⟨⟨qNo, (g, n), rfl, (qSwap_o h).symm, f, hg, by rw [ht]; exact hP, va_K.moved hW.alike hK, hD⟩, hS.F ht⟩) hS.2.2 dX0_swap_11
  · refine lv_aload_n hx hb dX0_swap_0 rfl (lv_at hl 0 rfl) ?_
    refine lv_iload_n hx hb dX0_swap_1 rfl (lv_at hl 1 rfl) ?_
    have hPc := hP.sub (ws' := [(h0, .inr (0, [.ref h1, .int (nI n)]))]) [0] rfl
    have hKc := hK.sub (tys' := []) [] rfl
    refine q_csiE (va_runV (As := [.int (nI k)]) (rest := []) ⟨hx, hb, hml, hown, hts⟩ (c_Row_hasPlace l dC dI h0 h1 n (nI k)) (cwV 1 hts gX0_swap_X0_hasPlace_v rfl rfl rfl (by decide +kernel) ⟨Nat.le_of_ble_eq_true rfl, Nat.le_of_ble_eq_true rfl⟩) ⟨q_blR, va_recv hKc hPc (ci := 0) (q0 := 0) rfl rfl, fun U hU hW => ⟨rfl, by rw [hU]; exact hPc, va_K.moved hW.alike hKc⟩⟩ rfl rfl hl.1 rfl (lv_room (Nat.le_of_ble_eq_true rfl)) dX0_swap_2 ⟨Nat.le_of_ble_eq_true rfl, Nat.le_of_ble_eq_true rfl⟩) ?_
    refine q_top (y := 1) (qHp_in (by omega) (by omega)) ?_
    refine lv_if_ne (tgt := 12) hx hb dX0_swap_5 (by decide) (fun c_2 => ?_) (fun c_0 => absurd c_0 (show ¬ (1 : Int32) = (0 : Int32) from (by decide)))
    refine lv_aload_n hx hb dX0_swap_12 rfl (lv_at hl 0 rfl) ?_
    refine va_get (D := (dC, dI)) (ci := 0) (v := .ref h1) (C := RX0) (T := TX0) (N := 2) hx hb hts inX0_swap_X0 hown hK hP 0 rfl rfl 0 (by decide) (hts (.fieldLink RX0 9 "QueueHall$Row" "numbers" "[I") (List.mem_of_getElem? (i := 8) (by decide +kernel))) (fun _ h9 => h9) rfl dX0_swap_13 ?_
    refine lv_iload_n hx hb dX0_swap_16 rfl (lv_at hl 1 rfl) ?_
    refine q_iald (k := k) hx hb hK hP 1 0 rfl rfl (by omega) (by omega) dX0_swap_17 ?_
    refine lv_istore_n (lv' := [(3, .int (f k)), (0, .ref h0), (1, .int (nI k)), (2, .int p1)]) hx hb dX0_swap_18 rfl hl (by decide) rfl (fun ls hl => ?_)
    refine lv_aload_n hx hb dX0_swap_19 rfl (lv_at hl 1 rfl) ?_
    refine va_get (D := (dC, dI)) (ci := 0) (v := .ref h1) (C := RX0) (T := TX0) (N := 2) hx hb hts inX0_swap_X0 hown hK hP 0 rfl rfl 0 (by decide) (hts (.fieldLink RX0 9 "QueueHall$Row" "numbers" "[I") (List.mem_of_getElem? (i := 8) (by decide +kernel))) (fun _ h9 => h9) rfl dX0_swap_20 ?_
    refine lv_iload_n hx hb dX0_swap_23 rfl (lv_at hl 2 rfl) ?_
    refine lv_iload_n hx hb dX0_swap_24 rfl (lv_at hl 3 rfl) ?_
    refine q_iast (k := k) hx hb hK hP hD hS 1 0 rfl rfl (by omega) (by omega) dX0_swap_25 (fun H locs hP hD hS => ?_)
    have hP : va_P (dC, dI) vwCl [(h0, .inr (0, [.ref h1, .int (nI n)])), (h1, .inl (cA, 2100, .inl (upd f k p1)))] H := hP
    have hD : va_D A [(h0, .inr (0, [.ref h1, .int (nI n)])), (h1, .inl (cA, 2100, .inl (upd f k p1)))] := hD
    refine lv_iload_n hx hb dX0_swap_26 rfl (lv_at hl 0 rfl) ?_
    refine lv_i2l (v := (f k).toInt64) hx hb dX0_swap_27 rfl ?_
    exact W.lret (v := (f k).toInt64) hx hb hr (fun t ht hW => ⟨⟨(f k).toInt64, (upd g k p1, n), rfl, (by rw [qSwap_i hk (by omega), hg k hk]), _, qAg_upd hg, by rw [ht]; exact hP, va_K.moved hW.alike hK, hD⟩, hS.F ht⟩) hS.2.2 dX0_swap_28

set_option maxHeartbeats 4000000 in
set_option maxRecDepth 100000 in
theorem c_Row_wipe (l : Launch) (dC : Nat → ClassId) (dI : Nat → Nat → Nat) (sz : Nat) (h0 h1 n : Nat) (cA : ClassId) (f g : Nat → Int32) (hg : qAg n f g) : Met l yX0_wipe wsX0_wipe ({ frames := 0, cells := 0, slots := 0, locals := 0 }) (va_Pc [.ref h0] (fun U => U.heap.size = sz ∧ va_P (dC, dI) vwCl [(h0, .inr (0, [.ref h1, .int (nI n)])), (h1, .inl (cA, 2100, .inl f))] U.heap ∧ va_K (dC, dI) vwCl [(cA, .int)] U ∧ va_D (fun _ => True) [(h0, .inr (0, [.ref h1, .int (nI n)])), (h1, .inl (cA, 2100, .inl f))])) (va_Qi (fun (r : Int32) (u : qR) => (r, u) = (nI n, (g, 0))) (at_Row dC dI (va_A [(h0, .inr (0, [.ref h1, .int (nI n)])), (h1, .inl (cA, 2100, .inl f))] sz) h0 h1 cA) (va_A [(h0, .inr (0, [.ref h1, .int (nI n)])), (h1, .inl (cA, 2100, .inl f))] sz)) 0 0 (va_A [(h0, .inr (0, [.ref h1, .int (nI n)])), (h1, .inl (cA, 2100, .inl f))] sz) := by
  refine Met.ofW (cc := cX0_wipe) (maxL := 2) (ret := (some .int)) (by decide +kernel) rfl ?_
  intro p e s m args below meth c s₁ B hml hv
  obtain ⟨rfl, hsz, hP, hK, hD0⟩ := hv
  have hx := B.exec
  have hb := B.bytes
  have hr := B.returns
  have hts := atoms_spec (ws := wsX0_wipe) B.pre
  have hown : s.vm.findClass RX0 = some m.cls := findClass_of_methodNamed B.named
  have hlocks := B.notSynchronized
  subst hsz
  have hD := hD0.self (sz := s.heap.size)
  generalize hAe : va_A [(h0, .inr (0, [.ref h1, .int (nI n)])), (h1, .inl (cA, 2100, .inl f))] s.heap.size = A at hD ⊢
  have hA : ∀ q : Nat, s.heap.size ≤ q → A q := fun q h => by rw [← hAe]; exact Or.inr h
  have hS : va_S A s.heap s.heap [] := va_S.rf
  have hl := lv_entry ([.ref h0]) (n := 2) (Nat.le_of_ble_eq_true rfl)
  rw [lg_entry_eq]
  generalize (lg_sl ([.ref h0]) ++ List.replicate (2 - (lg_sl ([.ref h0])).length) Slot.unset).toArray = ls at hl ⊢
  have hl : lv_has ls 2 [(0, .ref h0)] := hl
  refine lv_aload_n hx hb dX0_wipe_0 rfl (lv_at hl 0 rfl) ?_
  refine va_get (D := (dC, dI)) (ci := 0) (v := .int (nI n)) (C := RX0) (T := TX0) (N := 2) hx hb hts inX0_wipe_X0 hown hK hP 0 rfl rfl 1 (by decide) (hts (.fieldLink RX0 15 "QueueHall$Row" "count" "I") (List.mem_of_getElem? (i := 1) (by decide +kernel))) (fun _ h9 => h9) rfl dX0_wipe_1 ?_
  refine lv_istore_n (lv' := [(1, .int (nI n)), (0, .ref h0)]) hx hb dX0_wipe_4 rfl hl (by decide) rfl (fun ls hl => ?_)
  refine lv_aload_n hx hb dX0_wipe_5 rfl (lv_at hl 1 rfl) ?_
  refine lv_iconst (v := nI 0) hx hb dX0_wipe_6 (by decide) ?_
  refine va_put (D := (dC, dI)) (ci := 0) (v := .int (nI 0)) (ty := .int) (C := RX0) (T := TX0) (N := 2) hx hb hts inX0_wipe_X0 tyX0 tyX0_ok nmX0 hown hK hP hD hS 0 rfl rfl 1 (by decide) (hts (.fieldLink RX0 15 "QueueHall$Row" "count" "I") (List.mem_of_getElem? (i := 1) (by decide +kernel))) (fun _ h9 => h9) rfl (by decide +kernel) rfl rfl (Nat.le_of_ble_eq_true rfl) dX0_wipe_7 (fun H locs hP hD hS => ?_)
  have hP : va_P (dC, dI) vwCl [(h0, .inr (0, [.ref h1, .int (nI 0)])), (h1, .inl (cA, 2100, .inl f))] H := hP
  have hD : va_D A [(h0, .inr (0, [.ref h1, .int (nI 0)])), (h1, .inl (cA, 2100, .inl f))] := hD
  refine lv_iload_n hx hb dX0_wipe_10 rfl (lv_at hl 0 rfl) ?_
  exact W.iret (v := nI n) hx hb hr (fun t ht hW => ⟨⟨nI n, (g, 0), rfl, rfl, f, qAg_0, by rw [ht]; exact hP, va_K.moved hW.alike hK, hD⟩, hS.F ht⟩) hS.2.2 dX0_wipe_11

