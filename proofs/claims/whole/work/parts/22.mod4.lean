set_option maxHeartbeats 4000000 in
set_option maxRecDepth 100000 in
theorem c_Mod_pass (l : Launch) (dC : Nat → ClassId) (dI : Nat → Nat → Nat) (sz : Nat) (m0 c1 c2 c3 nh nr nk : Nat) (cA : ClassId) (eh gh er gr ek gk : Nat → Int32) (fi me : Int32) (p0 : Int32) (hn : nh + nr + nk < 2000) (ha1 : qAg nh eh gh) (ha2 : qAg nr er gr) (ha3 : qAg nk ek gk) (hF : qFok fi me nk) : Met l yX2_pass wsX2_pass ({ frames := 1, cells := 0, slots := 0, locals := 25 }) (va_Pc [.ref m0, .int p0] (fun U => U.heap.size = sz ∧ va_P (dC, dI) vwCl [(m0, .inr (2, [.ref c1, .ref c2, .ref c3, .int (nI nh), .int (nI nr), .int (nI nk), .int fi, .int me])), (c1, .inl (cA, 2000, .inl eh)), (c2, .inl (cA, 2000, .inl er)), (c3, .inl (cA, 2000, .inl ek))] U.heap ∧ va_K (dC, dI) vwCl [(cA, .int)] U ∧ va_D (fun _ => True) [(m0, .inr (2, [.ref c1, .ref c2, .ref c3, .int (nI nh), .int (nI nr), .int (nI nk), .int fi, .int me])), (c1, .inl (cA, 2000, .inl eh)), (c2, .inl (cA, 2000, .inl er)), (c3, .inl (cA, 2000, .inl ek))])) (va_Ql (fun (r : Int64) (u : qS) => (r, u) = qPass p0 ((gh, nh), (gr, nr), (gk, nk), fi, me)) (at_M dC dI (va_A [(m0, .inr (2, [.ref c1, .ref c2, .ref c3, .int (nI nh), .int (nI nr), .int (nI nk), .int fi, .int me])), (c1, .inl (cA, 2000, .inl eh)), (c2, .inl (cA, 2000, .inl er)), (c3, .inl (cA, 2000, .inl ek))] sz) m0 c1 c2 c3 cA) (va_A [(m0, .inr (2, [.ref c1, .ref c2, .ref c3, .int (nI nh), .int (nI nr), .int (nI nk), .int fi, .int me])), (c1, .inl (cA, 2000, .inl eh)), (c2, .inl (cA, 2000, .inl er)), (c3, .inl (cA, 2000, .inl ek))] sz)) 0 0 (va_A [(m0, .inr (2, [.ref c1, .ref c2, .ref c3, .int (nI nh), .int (nI nr), .int (nI nk), .int fi, .int me])), (c1, .inl (cA, 2000, .inl eh)), (c2, .inl (cA, 2000, .inl er)), (c3, .inl (cA, 2000, .inl ek))] sz) := by
  refine Met.ofW (cc := cX2_pass) (maxL := 2) (ret := (some .long)) (by decide +kernel) rfl ?_
  intro p e s m args below meth c s₁ B hml hv
  obtain ⟨rfl, hsz, hP, hK, hD0⟩ := hv
  have hx := B.exec
  have hb := B.bytes
  have hr := B.returns
  have hts := atoms_spec (ws := wsX2_pass) B.pre
  have hown : s.vm.findClass RX2 = some m.cls := findClass_of_methodNamed B.named
  have hlocks := B.notSynchronized
  subst hsz
  have hD := hD0.self (sz := s.heap.size)
  generalize hAe : va_A [(m0, .inr (2, [.ref c1, .ref c2, .ref c3, .int (nI nh), .int (nI nr), .int (nI nk), .int fi, .int me])), (c1, .inl (cA, 2000, .inl eh)), (c2, .inl (cA, 2000, .inl er)), (c3, .inl (cA, 2000, .inl ek))] s.heap.size = A at hD ⊢
  have hA : ∀ q : Nat, s.heap.size ≤ q → A q := fun q h => by rw [← hAe]; exact Or.inr h
  have hS : va_S A s.heap s.heap [] := va_S.rf
  have hl := lv_entry ([.ref m0, .int p0]) (n := 2) (Nat.le_of_ble_eq_true rfl)
  rw [lg_entry_eq]
  generalize (lg_sl ([.ref m0, .int p0]) ++ List.replicate (2 - (lg_sl ([.ref m0, .int p0])).length) Slot.unset).toArray = ls at hl ⊢
  have hl : lv_has ls 2 [(0, .ref m0), (1, .int p0)] := hl
  rcases q_pass hF p0 with rfl | ⟨hz, rfl⟩ | ⟨hz, a, ha, rfl⟩ | ⟨hz, rfl⟩ | ⟨hz, a, ha, rfl⟩
  · refine lv_aload_n hx hb dX2_pass_0 rfl (lv_at hl 0 rfl) ?_
    refine va_get (D := (dC, dI)) (ci := 2) (v := .int (-1)) (C := RX2) (T := TX2) (N := 8) hx hb hts inX2_pass_X2 hown hK hP 0 rfl rfl 6 (by decide) (hts (.fieldLink RX2 19 "QueueHallModel" "finger" "I") (List.mem_of_getElem? (i := 1) (by decide +kernel))) (fun _ h9 => h9) rfl dX2_pass_1 ?_
    refine lv_if_lt (tgt := 26) hx hb dX2_pass_4 (by decide) (fun c_1 => ?_) (fun c_0 => absurd (show (-1 : Int32) < (0 : Int32) from (by decide)) c_0)
    refine lv_ldc2 (v := qNo) hx hb hown (hts (.constantLong RX2 39 (1099511627776)) (List.mem_of_getElem? (i := 3) (by decide +kernel))) dX2_pass_26 ?_
    exact W.lret (v := qNo) hx hb hr (fun t ht hW => ⟨⟨qNo, ((gh, nh), (gr, nr), (gk, nk), -1, me), rfl, (by simp only [qPass, if_pos (show (-1 : Int32) < 0 by decide)]), eh, er, ek, ha1, ha2, ha3, by rw [ht]; exact hP, va_K.moved hW.alike hK, hD⟩, hS.F ht⟩) hS.2.2 dX2_pass_29
  · refine lv_aload_n hx hb dX2_pass_0 rfl (lv_at hl 0 rfl) ?_
    refine va_get (D := (dC, dI)) (ci := 2) (v := .int (nI nk)) (C := RX2) (T := TX2) (N := 8) hx hb hts inX2_pass_X2 hown hK hP 0 rfl rfl 6 (by decide) (hts (.fieldLink RX2 19 "QueueHallModel" "finger" "I") (List.mem_of_getElem? (i := 1) (by decide +kernel))) (fun _ h9 => h9) rfl dX2_pass_1 ?_
    refine lv_if_lt (tgt := 26) hx hb dX2_pass_4 (by decide) (fun c_0 => absurd c_0 (show ¬ (nI nk) < (0 : Int32) from (by simp (disch := omega) only [ti_lt, ti_le, ti_eq, ti_0, ti_1, ti_2, ti_m1, ti_100, ti_2000, nI_toInt] <;> omega))) (fun c_2 => ?_)
    have k_2 : nk ≥ 0 := by
      simp (disch := omega) only [ti_lt, ti_le, ti_eq, ti_0, ti_1, ti_2, ti_m1, ti_100, ti_2000, nI_toInt] at c_2
      omega
    refine lv_aload_n hx hb dX2_pass_7 rfl (lv_at hl 0 rfl) ?_
    refine va_get (D := (dC, dI)) (ci := 2) (v := .int (nI nk)) (C := RX2) (T := TX2) (N := 8) hx hb hts inX2_pass_X2 hown hK hP 0 rfl rfl 6 (by decide) (hts (.fieldLink RX2 19 "QueueHallModel" "finger" "I") (List.mem_of_getElem? (i := 1) (by decide +kernel))) (fun _ h9 => h9) rfl dX2_pass_8 ?_
    refine lv_iload_n hx hb dX2_pass_11 rfl (lv_at hl 1 rfl) ?_
    refine lv_if_eq (tgt := 19) hx hb dX2_pass_12 (by decide) (fun c_3 => ?_) (fun c_0 => absurd (show p0 = (0 : Int32) from hz) c_0)
    refine lv_aload_n hx hb dX2_pass_19 rfl (lv_at hl 0 rfl) ?_
    refine va_get (D := (dC, dI)) (ci := 2) (v := .int (nI nk)) (C := RX2) (T := TX2) (N := 8) hx hb hts inX2_pass_X2 hown hK hP 0 rfl rfl 5 (by decide) (hts (.fieldLink RX2 32 "QueueHallModel" "chains" "I") (List.mem_of_getElem? (i := 2) (by decide +kernel))) (fun _ h9 => h9) rfl dX2_pass_20 ?_
    refine lv_icmp_ne (tgt := 30) hx hb dX2_pass_23 (by decide) (fun c_0 => absurd (show (nI nk) = (nI nk) from (by simp (disch := omega) only [ti_lt, ti_le, ti_eq, ti_0, ti_1, ti_2, ti_m1, ti_100, ti_2000, nI_toInt] <;> omega)) c_0) (fun c_4 => ?_)
    have k_4 : nk = nk := by
      simp (disch := omega) only [ti_lt, ti_le, ti_eq, ti_0, ti_1, ti_2, ti_m1, ti_100, ti_2000, nI_toInt] at c_4
      omega
    refine lv_ldc2 (v := qNo) hx hb hown (hts (.constantLong RX2 39 (1099511627776)) (List.mem_of_getElem? (i := 3) (by decide +kernel))) dX2_pass_26 ?_
    exact W.lret (v := qNo) hx hb hr (fun t ht hW => ⟨⟨qNo, ((gh, nh), (gr, nr), (gk, nk), nI nk, me), rfl, (by simp only [qPass, if_neg (nI_pos (show nk < 2 ^ 31 by omega)), if_pos hz, if_pos True.intro]), eh, er, ek, ha1, ha2, ha3, by rw [ht]; exact hP, va_K.moved hW.alike hK, hD⟩, hS.F ht⟩) hS.2.2 dX2_pass_29
  · refine lv_aload_n hx hb dX2_pass_0 rfl (lv_at hl 0 rfl) ?_
    refine va_get (D := (dC, dI)) (ci := 2) (v := .int (nI a)) (C := RX2) (T := TX2) (N := 8) hx hb hts inX2_pass_X2 hown hK hP 0 rfl rfl 6 (by decide) (hts (.fieldLink RX2 19 "QueueHallModel" "finger" "I") (List.mem_of_getElem? (i := 1) (by decide +kernel))) (fun _ h9 => h9) rfl dX2_pass_1 ?_
    refine lv_if_lt (tgt := 26) hx hb dX2_pass_4 (by decide) (fun c_0 => absurd c_0 (show ¬ (nI a) < (0 : Int32) from (by simp (disch := omega) only [ti_lt, ti_le, ti_eq, ti_0, ti_1, ti_2, ti_m1, ti_100, ti_2000, nI_toInt] <;> omega))) (fun c_5 => ?_)
    have k_5 : a ≥ 0 := by
      simp (disch := omega) only [ti_lt, ti_le, ti_eq, ti_0, ti_1, ti_2, ti_m1, ti_100, ti_2000, nI_toInt] at c_5
      omega
    refine lv_aload_n hx hb dX2_pass_7 rfl (lv_at hl 0 rfl) ?_
    refine va_get (D := (dC, dI)) (ci := 2) (v := .int (nI a)) (C := RX2) (T := TX2) (N := 8) hx hb hts inX2_pass_X2 hown hK hP 0 rfl rfl 6 (by decide) (hts (.fieldLink RX2 19 "QueueHallModel" "finger" "I") (List.mem_of_getElem? (i := 1) (by decide +kernel))) (fun _ h9 => h9) rfl dX2_pass_8 ?_
    refine lv_iload_n hx hb dX2_pass_11 rfl (lv_at hl 1 rfl) ?_
    refine lv_if_eq (tgt := 19) hx hb dX2_pass_12 (by decide) (fun c_6 => ?_) (fun c_0 => absurd (show p0 = (0 : Int32) from hz) c_0)
    refine lv_aload_n hx hb dX2_pass_19 rfl (lv_at hl 0 rfl) ?_
    refine va_get (D := (dC, dI)) (ci := 2) (v := .int (nI nk)) (C := RX2) (T := TX2) (N := 8) hx hb hts inX2_pass_X2 hown hK hP 0 rfl rfl 5 (by decide) (hts (.fieldLink RX2 32 "QueueHallModel" "chains" "I") (List.mem_of_getElem? (i := 2) (by decide +kernel))) (fun _ h9 => h9) rfl dX2_pass_20 ?_
    refine lv_icmp_ne (tgt := 30) hx hb dX2_pass_23 (by decide) (fun c_7 => ?_) (fun c_0 => absurd c_0 (show ¬ (nI a) = (nI nk) from (by simp (disch := omega) only [ti_lt, ti_le, ti_eq, ti_0, ti_1, ti_2, ti_m1, ti_100, ti_2000, nI_toInt] <;> omega)))
    have k_7 : ¬ a = nk := by
      simp (disch := omega) only [ti_lt, ti_le, ti_eq, ti_0, ti_1, ti_2, ti_m1, ti_100, ti_2000, nI_toInt] at c_7
      omega
    refine lv_aload_n hx hb dX2_pass_30 rfl (lv_at hl 0 rfl) ?_
    refine lv_iload_n hx hb dX2_pass_31 rfl (lv_at hl 1 rfl) ?_
    refine lv_if_eq (tgt := 44) hx hb dX2_pass_32 (by decide) (fun c_8 => ?_) (fun c_0 => absurd (show p0 = (0 : Int32) from hz) c_0)
    refine lv_aload_n hx hb dX2_pass_44 rfl (lv_at hl 0 rfl) ?_
    refine va_get (D := (dC, dI)) (ci := 2) (v := .int (nI a)) (C := RX2) (T := TX2) (N := 8) hx hb hts inX2_pass_X2 hown hK hP 0 rfl rfl 6 (by decide) (hts (.fieldLink RX2 19 "QueueHallModel" "finger" "I") (List.mem_of_getElem? (i := 1) (by decide +kernel))) (fun _ h9 => h9) rfl dX2_pass_45 ?_
    refine va_put (D := (dC, dI)) (ci := 2) (v := .int (nI a)) (ty := .int) (C := RX2) (T := TX2) (N := 8) hx hb hts inX2_pass_X2 tyX2 tyX2_ok nmX2 hown hK hP hD hS 0 rfl rfl 7 (by decide) (hts (.fieldLink RX2 23 "QueueHallModel" "met" "I") (List.mem_of_getElem? (i := 4) (by decide +kernel))) (fun _ h9 => h9) rfl (by decide +kernel) rfl rfl (Nat.le_of_ble_eq_true rfl) dX2_pass_48 (fun H locs hP hD hS => ?_)
    have hP : va_P (dC, dI) vwCl [(m0, .inr (2, [.ref c1, .ref c2, .ref c3, .int (nI nh), .int (nI nr), .int (nI nk), .int (nI a), .int (nI a)])), (c1, .inl (cA, 2000, .inl eh)), (c2, .inl (cA, 2000, .inl er)), (c3, .inl (cA, 2000, .inl ek))] H := hP
    have hD : va_D A [(m0, .inr (2, [.ref c1, .ref c2, .ref c3, .int (nI nh), .int (nI nr), .int (nI nk), .int (nI a), .int (nI a)])), (c1, .inl (cA, 2000, .inl eh)), (c2, .inl (cA, 2000, .inl er)), (c3, .inl (cA, 2000, .inl ek))] := hD
    refine lv_aload_n hx hb dX2_pass_51 rfl (lv_at hl 0 rfl) ?_
    refine lv_dup hx hb dX2_pass_52 rfl ?_
    refine va_get (D := (dC, dI)) (ci := 2) (v := .int (nI a)) (C := RX2) (T := TX2) (N := 8) hx hb hts inX2_pass_X2 hown hK hP 0 rfl rfl 6 (by decide) (hts (.fieldLink RX2 19 "QueueHallModel" "finger" "I") (List.mem_of_getElem? (i := 1) (by decide +kernel))) (fun _ h9 => h9) rfl dX2_pass_53 ?_
    refine lv_iload_n hx hb dX2_pass_56 rfl (lv_at hl 1 rfl) ?_
    refine lv_if_eq (tgt := 64) hx hb dX2_pass_57 (by decide) (fun c_9 => ?_) (fun c_0 => absurd (show p0 = (0 : Int32) from hz) c_0)
    refine lv_iconst (v := 1) hx hb dX2_pass_64 (by decide) ?_
    refine lv_iadd hx hb dX2_pass_65 ?_
    refine q_top (y := nI (a + 1)) (nI_1 a) ?_
    refine va_put (D := (dC, dI)) (ci := 2) (v := .int (nI (a + 1))) (ty := .int) (C := RX2) (T := TX2) (N := 8) hx hb hts inX2_pass_X2 tyX2 tyX2_ok nmX2 hown hK hP hD hS 0 rfl rfl 6 (by decide) (hts (.fieldLink RX2 19 "QueueHallModel" "finger" "I") (List.mem_of_getElem? (i := 1) (by decide +kernel))) (fun _ h9 => h9) rfl (by decide +kernel) rfl rfl (Nat.le_of_ble_eq_true rfl) dX2_pass_66 (fun H locs hP hD hS => ?_)
    have hP : va_P (dC, dI) vwCl [(m0, .inr (2, [.ref c1, .ref c2, .ref c3, .int (nI nh), .int (nI nr), .int (nI nk), .int (nI (a + 1)), .int (nI a)])), (c1, .inl (cA, 2000, .inl eh)), (c2, .inl (cA, 2000, .inl er)), (c3, .inl (cA, 2000, .inl ek))] H := hP
    have hD : va_D A [(m0, .inr (2, [.ref c1, .ref c2, .ref c3, .int (nI nh), .int (nI nr), .int (nI nk), .int (nI (a + 1)), .int (nI a)])), (c1, .inl (cA, 2000, .inl eh)), (c2, .inl (cA, 2000, .inl er)), (c3, .inl (cA, 2000, .inl ek))] := hD
    refine lv_aload_n hx hb dX2_pass_69 rfl (lv_at hl 0 rfl) ?_
    refine va_get (D := (dC, dI)) (ci := 2) (v := .ref c3) (C := RX2) (T := TX2) (N := 8) hx hb hts inX2_pass_X2 hown hK hP 0 rfl rfl 2 (by decide) (hts (.fieldLink RX2 16 "QueueHallModel" "chain" "[I") (List.mem_of_getElem? (i := 5) (by decide +kernel))) (fun _ h9 => h9) rfl dX2_pass_70 ?_
    refine lv_aload_n hx hb dX2_pass_73 rfl (lv_at hl 0 rfl) ?_
    refine va_get (D := (dC, dI)) (ci := 2) (v := .int (nI a)) (C := RX2) (T := TX2) (N := 8) hx hb hts inX2_pass_X2 hown hK hP 0 rfl rfl 7 (by decide) (hts (.fieldLink RX2 23 "QueueHallModel" "met" "I") (List.mem_of_getElem? (i := 4) (by decide +kernel))) (fun _ h9 => h9) rfl dX2_pass_74 ?_
    refine q_iald (k := a) hx hb hK hP 3 0 rfl rfl (by omega) (by omega) dX2_pass_77 ?_
    refine lv_i2l (v := (ek a).toInt64) hx hb dX2_pass_78 rfl ?_
    exact W.lret (v := (ek a).toInt64) hx hb hr (fun t ht hW => ⟨⟨(ek a).toInt64, ((gh, nh), (gr, nr), (gk, nk), nI (a + 1), nI a), rfl, (by simp only [qPass, if_neg (nI_pos (show a < 2 ^ 31 by omega)), if_pos hz, if_neg (show ¬ nI a = nI nk from fun q => by rw [nI_eq (by omega) (by omega)] at q; omega), nI_clamp (show a < 2 ^ 31 by omega), nI_1, ha3 a ha]), eh, er, ek, ha1, ha2, ha3, by rw [ht]; exact hP, va_K.moved hW.alike hK, hD⟩, hS.F ht⟩) hS.2.2 dX2_pass_79
  · refine lv_aload_n hx hb dX2_pass_0 rfl (lv_at hl 0 rfl) ?_
    refine va_get (D := (dC, dI)) (ci := 2) (v := .int (nI 0)) (C := RX2) (T := TX2) (N := 8) hx hb hts inX2_pass_X2 hown hK hP 0 rfl rfl 6 (by decide) (hts (.fieldLink RX2 19 "QueueHallModel" "finger" "I") (List.mem_of_getElem? (i := 1) (by decide +kernel))) (fun _ h9 => h9) rfl dX2_pass_1 ?_
    refine lv_if_lt (tgt := 26) hx hb dX2_pass_4 (by decide) (fun c_0 => absurd c_0 (show ¬ (nI 0) < (0 : Int32) from (by simp (disch := omega) only [ti_lt, ti_le, ti_eq, ti_0, ti_1, ti_2, ti_m1, ti_100, ti_2000, nI_toInt] <;> omega))) (fun c_10 => ?_)
    have k_10 : 0 ≥ 0 := by
      simp (disch := omega) only [ti_lt, ti_le, ti_eq, ti_0, ti_1, ti_2, ti_m1, ti_100, ti_2000, nI_toInt] at c_10
      omega
    refine lv_aload_n hx hb dX2_pass_7 rfl (lv_at hl 0 rfl) ?_
    refine va_get (D := (dC, dI)) (ci := 2) (v := .int (nI 0)) (C := RX2) (T := TX2) (N := 8) hx hb hts inX2_pass_X2 hown hK hP 0 rfl rfl 6 (by decide) (hts (.fieldLink RX2 19 "QueueHallModel" "finger" "I") (List.mem_of_getElem? (i := 1) (by decide +kernel))) (fun _ h9 => h9) rfl dX2_pass_8 ?_
    refine lv_iload_n hx hb dX2_pass_11 rfl (lv_at hl 1 rfl) ?_
    refine lv_if_eq (tgt := 19) hx hb dX2_pass_12 (by decide) (fun c_0 => absurd c_0 (show ¬ p0 = (0 : Int32) from hz)) (fun c_11 => ?_)
    refine lv_iconst (v := 0) hx hb dX2_pass_15 (by decide) ?_
    refine lv_goto (tgt := 23) hx hb dX2_pass_16 (by decide) ?_
    refine lv_icmp_ne (tgt := 30) hx hb dX2_pass_23 (by decide) (fun c_0 => absurd (show (nI 0) = (0 : Int32) from (by simp (disch := omega) only [ti_lt, ti_le, ti_eq, ti_0, ti_1, ti_2, ti_m1, ti_100, ti_2000, nI_toInt] <;> omega)) c_0) (fun c_12 => ?_)
    have k_12 : 0 = 0 := by
      simp (disch := omega) only [ti_lt, ti_le, ti_eq, ti_0, ti_1, ti_2, ti_m1, ti_100, ti_2000, nI_toInt] at c_12
      omega
    refine lv_ldc2 (v := qNo) hx hb hown (hts (.constantLong RX2 39 (1099511627776)) (List.mem_of_getElem? (i := 3) (by decide +kernel))) dX2_pass_26 ?_
    exact W.lret (v := qNo) hx hb hr (fun t ht hW => ⟨⟨qNo, ((gh, nh), (gr, nr), (gk, nk), nI 0, me), rfl, (by simp only [qPass, if_neg (nI_pos (show 0 < 2 ^ 31 by omega)), if_neg hz, if_pos (show nI 0 = 0 from rfl)]), eh, er, ek, ha1, ha2, ha3, by rw [ht]; exact hP, va_K.moved hW.alike hK, hD⟩, hS.F ht⟩) hS.2.2 dX2_pass_29
  · refine lv_aload_n hx hb dX2_pass_0 rfl (lv_at hl 0 rfl) ?_
    refine va_get (D := (dC, dI)) (ci := 2) (v := .int (nI (a + 1))) (C := RX2) (T := TX2) (N := 8) hx hb hts inX2_pass_X2 hown hK hP 0 rfl rfl 6 (by decide) (hts (.fieldLink RX2 19 "QueueHallModel" "finger" "I") (List.mem_of_getElem? (i := 1) (by decide +kernel))) (fun _ h9 => h9) rfl dX2_pass_1 ?_
    refine lv_if_lt (tgt := 26) hx hb dX2_pass_4 (by decide) (fun c_0 => absurd c_0 (show ¬ (nI (a + 1)) < (0 : Int32) from (by simp (disch := omega) only [ti_lt, ti_le, ti_eq, ti_0, ti_1, ti_2, ti_m1, ti_100, ti_2000, nI_toInt] <;> omega))) (fun c_13 => ?_)
    have k_13 : (a + 1) ≥ 0 := by
      simp (disch := omega) only [ti_lt, ti_le, ti_eq, ti_0, ti_1, ti_2, ti_m1, ti_100, ti_2000, nI_toInt] at c_13
      omega
    refine lv_aload_n hx hb dX2_pass_7 rfl (lv_at hl 0 rfl) ?_
    refine va_get (D := (dC, dI)) (ci := 2) (v := .int (nI (a + 1))) (C := RX2) (T := TX2) (N := 8) hx hb hts inX2_pass_X2 hown hK hP 0 rfl rfl 6 (by decide) (hts (.fieldLink RX2 19 "QueueHallModel" "finger" "I") (List.mem_of_getElem? (i := 1) (by decide +kernel))) (fun _ h9 => h9) rfl dX2_pass_8 ?_
    refine lv_iload_n hx hb dX2_pass_11 rfl (lv_at hl 1 rfl) ?_
    refine lv_if_eq (tgt := 19) hx hb dX2_pass_12 (by decide) (fun c_0 => absurd c_0 (show ¬ p0 = (0 : Int32) from hz)) (fun c_14 => ?_)
    refine lv_iconst (v := 0) hx hb dX2_pass_15 (by decide) ?_
    refine lv_goto (tgt := 23) hx hb dX2_pass_16 (by decide) ?_
    refine lv_icmp_ne (tgt := 30) hx hb dX2_pass_23 (by decide) (fun c_15 => ?_) (fun c_0 => absurd c_0 (show ¬ (nI (a + 1)) = (0 : Int32) from (by simp (disch := omega) only [ti_lt, ti_le, ti_eq, ti_0, ti_1, ti_2, ti_m1, ti_100, ti_2000, nI_toInt] <;> omega)))
    have k_15 : ¬ (a + 1) = 0 := by
      simp (disch := omega) only [ti_lt, ti_le, ti_eq, ti_0, ti_1, ti_2, ti_m1, ti_100, ti_2000, nI_toInt] at c_15
      omega
    refine lv_aload_n hx hb dX2_pass_30 rfl (lv_at hl 0 rfl) ?_
    refine lv_iload_n hx hb dX2_pass_31 rfl (lv_at hl 1 rfl) ?_
    refine lv_if_eq (tgt := 44) hx hb dX2_pass_32 (by decide) (fun c_0 => absurd c_0 (show ¬ p0 = (0 : Int32) from hz)) (fun c_16 => ?_)
    refine lv_aload_n hx hb dX2_pass_35 rfl (lv_at hl 0 rfl) ?_
    refine va_get (D := (dC, dI)) (ci := 2) (v := .int (nI (a + 1))) (C := RX2) (T := TX2) (N := 8) hx hb hts inX2_pass_X2 hown hK hP 0 rfl rfl 6 (by decide) (hts (.fieldLink RX2 19 "QueueHallModel" "finger" "I") (List.mem_of_getElem? (i := 1) (by decide +kernel))) (fun _ h9 => h9) rfl dX2_pass_36 ?_
    refine lv_iconst (v := 1) hx hb dX2_pass_39 (by decide) ?_
    refine lv_isub hx hb dX2_pass_40 ?_
    refine q_top (y := nI a) (nI_pred a) ?_
    refine lv_goto (tgt := 48) hx hb dX2_pass_41 (by decide) ?_
    refine va_put (D := (dC, dI)) (ci := 2) (v := .int (nI a)) (ty := .int) (C := RX2) (T := TX2) (N := 8) hx hb hts inX2_pass_X2 tyX2 tyX2_ok nmX2 hown hK hP hD hS 0 rfl rfl 7 (by decide) (hts (.fieldLink RX2 23 "QueueHallModel" "met" "I") (List.mem_of_getElem? (i := 4) (by decide +kernel))) (fun _ h9 => h9) rfl (by decide +kernel) rfl rfl (Nat.le_of_ble_eq_true rfl) dX2_pass_48 (fun H locs hP hD hS => ?_)
    have hP : va_P (dC, dI) vwCl [(m0, .inr (2, [.ref c1, .ref c2, .ref c3, .int (nI nh), .int (nI nr), .int (nI nk), .int (nI (a + 1)), .int (nI a)])), (c1, .inl (cA, 2000, .inl eh)), (c2, .inl (cA, 2000, .inl er)), (c3, .inl (cA, 2000, .inl ek))] H := hP
    have hD : va_D A [(m0, .inr (2, [.ref c1, .ref c2, .ref c3, .int (nI nh), .int (nI nr), .int (nI nk), .int (nI (a + 1)), .int (nI a)])), (c1, .inl (cA, 2000, .inl eh)), (c2, .inl (cA, 2000, .inl er)), (c3, .inl (cA, 2000, .inl ek))] := hD
    refine lv_aload_n hx hb dX2_pass_51 rfl (lv_at hl 0 rfl) ?_
    refine lv_dup hx hb dX2_pass_52 rfl ?_
    refine va_get (D := (dC, dI)) (ci := 2) (v := .int (nI (a + 1))) (C := RX2) (T := TX2) (N := 8) hx hb hts inX2_pass_X2 hown hK hP 0 rfl rfl 6 (by decide) (hts (.fieldLink RX2 19 "QueueHallModel" "finger" "I") (List.mem_of_getElem? (i := 1) (by decide +kernel))) (fun _ h9 => h9) rfl dX2_pass_53 ?_
    refine lv_iload_n hx hb dX2_pass_56 rfl (lv_at hl 1 rfl) ?_
    refine lv_if_eq (tgt := 64) hx hb dX2_pass_57 (by decide) (fun c_0 => absurd c_0 (show ¬ p0 = (0 : Int32) from hz)) (fun c_17 => ?_)
    refine lv_iconst (v := -1) hx hb dX2_pass_60 (by decide) ?_
    refine lv_goto (tgt := 65) hx hb dX2_pass_61 (by decide) ?_
    refine lv_iadd hx hb dX2_pass_65 ?_
    refine q_top (y := nI a) (pk_m1 a) ?_
    refine va_put (D := (dC, dI)) (ci := 2) (v := .int (nI a)) (ty := .int) (C := RX2) (T := TX2) (N := 8) hx hb hts inX2_pass_X2 tyX2 tyX2_ok nmX2 hown hK hP hD hS 0 rfl rfl 6 (by decide) (hts (.fieldLink RX2 19 "QueueHallModel" "finger" "I") (List.mem_of_getElem? (i := 1) (by decide +kernel))) (fun _ h9 => h9) rfl (by decide +kernel) rfl rfl (Nat.le_of_ble_eq_true rfl) dX2_pass_66 (fun H locs hP hD hS => ?_)
    have hP : va_P (dC, dI) vwCl [(m0, .inr (2, [.ref c1, .ref c2, .ref c3, .int (nI nh), .int (nI nr), .int (nI nk), .int (nI a), .int (nI a)])), (c1, .inl (cA, 2000, .inl eh)), (c2, .inl (cA, 2000, .inl er)), (c3, .inl (cA, 2000, .inl ek))] H := hP
    have hD : va_D A [(m0, .inr (2, [.ref c1, .ref c2, .ref c3, .int (nI nh), .int (nI nr), .int (nI nk), .int (nI a), .int (nI a)])), (c1, .inl (cA, 2000, .inl eh)), (c2, .inl (cA, 2000, .inl er)), (c3, .inl (cA, 2000, .inl ek))] := hD
    refine lv_aload_n hx hb dX2_pass_69 rfl (lv_at hl 0 rfl) ?_
    refine va_get (D := (dC, dI)) (ci := 2) (v := .ref c3) (C := RX2) (T := TX2) (N := 8) hx hb hts inX2_pass_X2 hown hK hP 0 rfl rfl 2 (by decide) (hts (.fieldLink RX2 16 "QueueHallModel" "chain" "[I") (List.mem_of_getElem? (i := 5) (by decide +kernel))) (fun _ h9 => h9) rfl dX2_pass_70 ?_
    refine lv_aload_n hx hb dX2_pass_73 rfl (lv_at hl 0 rfl) ?_
    refine va_get (D := (dC, dI)) (ci := 2) (v := .int (nI a)) (C := RX2) (T := TX2) (N := 8) hx hb hts inX2_pass_X2 hown hK hP 0 rfl rfl 7 (by decide) (hts (.fieldLink RX2 23 "QueueHallModel" "met" "I") (List.mem_of_getElem? (i := 4) (by decide +kernel))) (fun _ h9 => h9) rfl dX2_pass_74 ?_
    refine q_iald (k := a) hx hb hK hP 3 0 rfl rfl (by omega) (by omega) dX2_pass_77 ?_
    refine lv_i2l (v := (ek a).toInt64) hx hb dX2_pass_78 rfl ?_
    exact W.lret (v := (ek a).toInt64) hx hb hr (fun t ht hW => ⟨⟨(ek a).toInt64, ((gh, nh), (gr, nr), (gk, nk), nI a, nI a), rfl, (by simp only [qPass, if_neg (nI_pos (show a + 1 < 2 ^ 31 by omega)), if_neg hz, if_neg (nI_ne0 (show 0 < a + 1 by omega) (show a + 1 < 2 ^ 31 by omega)), nI_clamp (show a + 1 < 2 ^ 31 by omega), nI_pred, Nat.add_sub_cancel, ha3 a ha]), eh, er, ek, ha1, ha2, ha3, by rw [ht]; exact hP, va_K.moved hW.alike hK, hD⟩, hS.F ht⟩) hS.2.2 dX2_pass_79

set_option maxHeartbeats 4000000 in
set_option maxRecDepth 100000 in
theorem c_Mod_touch (l : Launch) (dC : Nat → ClassId) (dI : Nat → Nat → Nat) (sz : Nat) (m0 c1 c2 c3 nh nr nk : Nat) (cA : ClassId) (eh gh er gr ek gk : Nat → Int32) (fi me : Int32) (p0 p1 : Int32) (hn : nh + nr + nk < 2000) (ha1 : qAg nh eh gh) (ha2 : qAg nr er gr) (ha3 : qAg nk ek gk) (hF : qFok fi me nk) : Met l yX2_touch wsX2_touch ({ frames := 1, cells := 0, slots := 0, locals := 25 }) (va_Pc [.ref m0, .int p0, .int p1] (fun U => U.heap.size = sz ∧ va_P (dC, dI) vwCl [(m0, .inr (2, [.ref c1, .ref c2, .ref c3, .int (nI nh), .int (nI nr), .int (nI nk), .int fi, .int me])), (c1, .inl (cA, 2000, .inl eh)), (c2, .inl (cA, 2000, .inl er)), (c3, .inl (cA, 2000, .inl ek))] U.heap ∧ va_K (dC, dI) vwCl [(cA, .int)] U ∧ va_D (fun _ => True) [(m0, .inr (2, [.ref c1, .ref c2, .ref c3, .int (nI nh), .int (nI nr), .int (nI nk), .int fi, .int me])), (c1, .inl (cA, 2000, .inl eh)), (c2, .inl (cA, 2000, .inl er)), (c3, .inl (cA, 2000, .inl ek))])) (va_Qi (fun (r : Int32) (u : qS) => (r, u) = qTouch p0 p1 ((gh, nh), (gr, nr), (gk, nk), fi, me)) (at_M dC dI (va_A [(m0, .inr (2, [.ref c1, .ref c2, .ref c3, .int (nI nh), .int (nI nr), .int (nI nk), .int fi, .int me])), (c1, .inl (cA, 2000, .inl eh)), (c2, .inl (cA, 2000, .inl er)), (c3, .inl (cA, 2000, .inl ek))] sz) m0 c1 c2 c3 cA) (va_A [(m0, .inr (2, [.ref c1, .ref c2, .ref c3, .int (nI nh), .int (nI nr), .int (nI nk), .int fi, .int me])), (c1, .inl (cA, 2000, .inl eh)), (c2, .inl (cA, 2000, .inl er)), (c3, .inl (cA, 2000, .inl ek))] sz)) 0 0 (va_A [(m0, .inr (2, [.ref c1, .ref c2, .ref c3, .int (nI nh), .int (nI nr), .int (nI nk), .int fi, .int me])), (c1, .inl (cA, 2000, .inl eh)), (c2, .inl (cA, 2000, .inl er)), (c3, .inl (cA, 2000, .inl ek))] sz) := by
  refine Met.ofW (cc := cX2_touch) (maxL := 3) (ret := (some .int)) (by decide +kernel) rfl ?_
  intro p e s m args below meth c s₁ B hml hv
  obtain ⟨rfl, hsz, hP, hK, hD0⟩ := hv
  have hx := B.exec
  have hb := B.bytes
  have hr := B.returns
  have hts := atoms_spec (ws := wsX2_touch) B.pre
  have hown : s.vm.findClass RX2 = some m.cls := findClass_of_methodNamed B.named
  have hlocks := B.notSynchronized
  subst hsz
  have hD := hD0.self (sz := s.heap.size)
  generalize hAe : va_A [(m0, .inr (2, [.ref c1, .ref c2, .ref c3, .int (nI nh), .int (nI nr), .int (nI nk), .int fi, .int me])), (c1, .inl (cA, 2000, .inl eh)), (c2, .inl (cA, 2000, .inl er)), (c3, .inl (cA, 2000, .inl ek))] s.heap.size = A at hD ⊢
  have hA : ∀ q : Nat, s.heap.size ≤ q → A q := fun q h => by rw [← hAe]; exact Or.inr h
  have hS : va_S A s.heap s.heap [] := va_S.rf
  have hl := lv_entry ([.ref m0, .int p0, .int p1]) (n := 3) (Nat.le_of_ble_eq_true rfl)
  rw [lg_entry_eq]
  generalize (lg_sl ([.ref m0, .int p0, .int p1]) ++ List.replicate (3 - (lg_sl ([.ref m0, .int p0, .int p1])).length) Slot.unset).toArray = ls at hl ⊢
  have hl : lv_has ls 3 [(0, .ref m0), (1, .int p0), (2, .int p1)] := hl
  rcases q_tm hF p0 with rfl | ⟨a, ha, rfl, rfl, rfl⟩ | ⟨a, b, ha, hb0, rfl, rfl, rfl⟩ | ⟨a, ha, rfl, rfl, rfl⟩ | ⟨a, b, ha, hb0, rfl, rfl, rfl⟩ | ⟨a, ha, rfl, rfl⟩ | ⟨a, ha, rfl, w0, w1, w2⟩
  · refine lv_aload_n hx hb dX2_touch_0 rfl (lv_at hl 0 rfl) ?_
    refine va_get (D := (dC, dI)) (ci := 2) (v := .int (-1)) (C := RX2) (T := TX2) (N := 8) hx hb hts inX2_touch_X2 hown hK hP 0 rfl rfl 6 (by decide) (hts (.fieldLink RX2 19 "QueueHallModel" "finger" "I") (List.mem_of_getElem? (i := 1) (by decide +kernel))) (fun _ h9 => h9) rfl dX2_touch_1 ?_
    refine lv_if_lt (tgt := 28) hx hb dX2_touch_4 (by decide) (fun c_1 => ?_) (fun c_0 => absurd (show (-1 : Int32) < (0 : Int32) from (by decide)) c_0)
    refine lv_iconst (v := -1) hx hb dX2_touch_28 (by decide) ?_
    exact W.iret (v := -1) hx hb hr (fun t ht hW => ⟨⟨-1, ((gh, nh), (gr, nr), (gk, nk), -1, me), rfl, (by simp only [qTouch, if_pos (show (-1 : Int32) < 0 by decide)]), eh, er, ek, ha1, ha2, ha3, by rw [ht]; exact hP, va_K.moved hW.alike hK, hD⟩, hS.F ht⟩) hS.2.2 dX2_touch_29
  · refine lv_aload_n hx hb dX2_touch_0 rfl (lv_at hl 0 rfl) ?_
    refine va_get (D := (dC, dI)) (ci := 2) (v := .int (nI a)) (C := RX2) (T := TX2) (N := 8) hx hb hts inX2_touch_X2 hown hK hP 0 rfl rfl 6 (by decide) (hts (.fieldLink RX2 19 "QueueHallModel" "finger" "I") (List.mem_of_getElem? (i := 1) (by decide +kernel))) (fun _ h9 => h9) rfl dX2_touch_1 ?_
    refine lv_if_lt (tgt := 28) hx hb dX2_touch_4 (by decide) (fun c_0 => absurd c_0 (show ¬ (nI a) < (0 : Int32) from (by simp (disch := omega) only [ti_lt, ti_le, ti_eq, ti_0, ti_1, ti_2, ti_m1, ti_100, ti_2000, nI_toInt] <;> omega))) (fun c_2 => ?_)
    have k_2 : a ≥ 0 := by
      simp (disch := omega) only [ti_lt, ti_le, ti_eq, ti_0, ti_1, ti_2, ti_m1, ti_100, ti_2000, nI_toInt] at c_2
      omega
    refine lv_iload_n hx hb dX2_touch_7 rfl (lv_at hl 1 rfl) ?_
    refine lv_if_lt (tgt := 28) hx hb dX2_touch_8 (by decide) (fun c_0 => absurd c_0 (show ¬ (0 : Int32) < (0 : Int32) from (by decide))) (fun c_3 => ?_)
    refine lv_iload_n hx hb dX2_touch_11 rfl (lv_at hl 1 rfl) ?_
    refine lv_iconst (v := 2) hx hb dX2_touch_12 (by decide) ?_
    refine lv_icmp_gt (tgt := 28) hx hb dX2_touch_13 (by decide) (fun c_0 => absurd c_0 (show ¬ (2 : Int32) < (0 : Int32) from (by decide))) (fun c_4 => ?_)
    refine lv_iload_n hx hb dX2_touch_16 rfl (lv_at hl 1 rfl) ?_
    refine lv_iconst (v := 2) hx hb dX2_touch_17 (by decide) ?_
    refine lv_icmp_ge (tgt := 30) hx hb dX2_touch_18 (by decide) (fun c_0 => absurd c_0 (show ¬ (2 : Int32) ≤ (0 : Int32) from (by decide))) (fun c_5 => ?_)
    refine lv_aload_n hx hb dX2_touch_21 rfl (lv_at hl 0 rfl) ?_
    refine va_get (D := (dC, dI)) (ci := 2) (v := .int (-1)) (C := RX2) (T := TX2) (N := 8) hx hb hts inX2_touch_X2 hown hK hP 0 rfl rfl 7 (by decide) (hts (.fieldLink RX2 23 "QueueHallModel" "met" "I") (List.mem_of_getElem? (i := 2) (by decide +kernel))) (fun _ h9 => h9) rfl dX2_touch_22 ?_
    refine lv_if_ge (tgt := 30) hx hb dX2_touch_25 (by decide) (fun c_0 => absurd c_0 (show ¬ (0 : Int32) ≤ (-1 : Int32) from (by decide))) (fun c_6 => ?_)
    refine lv_iconst (v := -1) hx hb dX2_touch_28 (by decide) ?_
    exact W.iret (v := -1) hx hb hr (fun t ht hW => ⟨⟨-1, ((gh, nh), (gr, nr), (gk, nk), nI a, -1), rfl, (by simp only [qTouch, if_neg (nI_pos (show a < 2 ^ 31 by omega)), if_pos True.intro, if_pos (show (-1 : Int32) < 0 by decide)]), eh, er, ek, ha1, ha2, ha3, by rw [ht]; exact hP, va_K.moved hW.alike hK, hD⟩, hS.F ht⟩) hS.2.2 dX2_touch_29
  · refine lv_aload_n hx hb dX2_touch_0 rfl (lv_at hl 0 rfl) ?_
    refine va_get (D := (dC, dI)) (ci := 2) (v := .int (nI a)) (C := RX2) (T := TX2) (N := 8) hx hb hts inX2_touch_X2 hown hK hP 0 rfl rfl 6 (by decide) (hts (.fieldLink RX2 19 "QueueHallModel" "finger" "I") (List.mem_of_getElem? (i := 1) (by decide +kernel))) (fun _ h9 => h9) rfl dX2_touch_1 ?_
    refine lv_if_lt (tgt := 28) hx hb dX2_touch_4 (by decide) (fun c_0 => absurd c_0 (show ¬ (nI a) < (0 : Int32) from (by simp (disch := omega) only [ti_lt, ti_le, ti_eq, ti_0, ti_1, ti_2, ti_m1, ti_100, ti_2000, nI_toInt] <;> omega))) (fun c_7 => ?_)
    have k_7 : a ≥ 0 := by
      simp (disch := omega) only [ti_lt, ti_le, ti_eq, ti_0, ti_1, ti_2, ti_m1, ti_100, ti_2000, nI_toInt] at c_7
      omega
    refine lv_iload_n hx hb dX2_touch_7 rfl (lv_at hl 1 rfl) ?_
    refine lv_if_lt (tgt := 28) hx hb dX2_touch_8 (by decide) (fun c_0 => absurd c_0 (show ¬ (0 : Int32) < (0 : Int32) from (by decide))) (fun c_8 => ?_)
    refine lv_iload_n hx hb dX2_touch_11 rfl (lv_at hl 1 rfl) ?_
    refine lv_iconst (v := 2) hx hb dX2_touch_12 (by decide) ?_
    refine lv_icmp_gt (tgt := 28) hx hb dX2_touch_13 (by decide) (fun c_0 => absurd c_0 (show ¬ (2 : Int32) < (0 : Int32) from (by decide))) (fun c_9 => ?_)
    refine lv_iload_n hx hb dX2_touch_16 rfl (lv_at hl 1 rfl) ?_
    refine lv_iconst (v := 2) hx hb dX2_touch_17 (by decide) ?_
    refine lv_icmp_ge (tgt := 30) hx hb dX2_touch_18 (by decide) (fun c_0 => absurd c_0 (show ¬ (2 : Int32) ≤ (0 : Int32) from (by decide))) (fun c_10 => ?_)
    refine lv_aload_n hx hb dX2_touch_21 rfl (lv_at hl 0 rfl) ?_
    refine va_get (D := (dC, dI)) (ci := 2) (v := .int (nI b)) (C := RX2) (T := TX2) (N := 8) hx hb hts inX2_touch_X2 hown hK hP 0 rfl rfl 7 (by decide) (hts (.fieldLink RX2 23 "QueueHallModel" "met" "I") (List.mem_of_getElem? (i := 2) (by decide +kernel))) (fun _ h9 => h9) rfl dX2_touch_22 ?_
    refine lv_if_ge (tgt := 30) hx hb dX2_touch_25 (by decide) (fun c_11 => ?_) (fun c_0 => absurd (show (0 : Int32) ≤ (nI b) from (by simp (disch := omega) only [ti_lt, ti_le, ti_eq, ti_0, ti_1, ti_2, ti_m1, ti_100, ti_2000, nI_toInt] <;> omega)) c_0)
    have k_11 : b ≥ 0 := by
      simp (disch := omega) only [ti_lt, ti_le, ti_eq, ti_0, ti_1, ti_2, ti_m1, ti_100, ti_2000, nI_toInt] at c_11
      omega
    refine lv_iload_n hx hb dX2_touch_30 rfl (lv_at hl 1 rfl) ?_
    refine lv_if_ne (tgt := 47) hx hb dX2_touch_31 (by decide) (fun c_0 => absurd (show (0 : Int32) = (0 : Int32) from (by decide)) c_0) (fun c_12 => ?_)
    refine lv_aload_n hx hb dX2_touch_34 rfl (lv_at hl 0 rfl) ?_
    refine va_get (D := (dC, dI)) (ci := 2) (v := .ref c3) (C := RX2) (T := TX2) (N := 8) hx hb hts inX2_touch_X2 hown hK hP 0 rfl rfl 2 (by decide) (hts (.fieldLink RX2 16 "QueueHallModel" "chain" "[I") (List.mem_of_getElem? (i := 3) (by decide +kernel))) (fun _ h9 => h9) rfl dX2_touch_35 ?_
    refine lv_aload_n hx hb dX2_touch_38 rfl (lv_at hl 0 rfl) ?_
    refine va_get (D := (dC, dI)) (ci := 2) (v := .int (nI b)) (C := RX2) (T := TX2) (N := 8) hx hb hts inX2_touch_X2 hown hK hP 0 rfl rfl 7 (by decide) (hts (.fieldLink RX2 23 "QueueHallModel" "met" "I") (List.mem_of_getElem? (i := 2) (by decide +kernel))) (fun _ h9 => h9) rfl dX2_touch_39 ?_
    refine lv_iload_n hx hb dX2_touch_42 rfl (lv_at hl 2 rfl) ?_
    refine q_iast (k := b) hx hb hK hP hD hS 3 0 rfl rfl (by omega) (by omega) dX2_touch_43 (fun H locs hP hD hS => ?_)
    have hP : va_P (dC, dI) vwCl [(m0, .inr (2, [.ref c1, .ref c2, .ref c3, .int (nI nh), .int (nI nr), .int (nI nk), .int (nI a), .int (nI b)])), (c1, .inl (cA, 2000, .inl eh)), (c2, .inl (cA, 2000, .inl er)), (c3, .inl (cA, 2000, .inl (upd ek b p1)))] H := hP
    have hD : va_D A [(m0, .inr (2, [.ref c1, .ref c2, .ref c3, .int (nI nh), .int (nI nr), .int (nI nk), .int (nI a), .int (nI b)])), (c1, .inl (cA, 2000, .inl eh)), (c2, .inl (cA, 2000, .inl er)), (c3, .inl (cA, 2000, .inl (upd ek b p1)))] := hD
    refine lv_goto (tgt := 160) hx hb dX2_touch_44 (by decide) ?_
    refine lv_aload_n hx hb dX2_touch_160 rfl (lv_at hl 0 rfl) ?_
    refine va_get (D := (dC, dI)) (ci := 2) (v := .int (nI nk)) (C := RX2) (T := TX2) (N := 8) hx hb hts inX2_touch_X2 hown hK hP 0 rfl rfl 5 (by decide) (hts (.fieldLink RX2 32 "QueueHallModel" "chains" "I") (List.mem_of_getElem? (i := 4) (by decide +kernel))) (fun _ h9 => h9) rfl dX2_touch_161 ?_
    exact W.iret (v := nI nk) hx hb hr (fun t ht hW => ⟨⟨nI nk, ((gh, nh), (gr, nr), (upd gk b p1, nk), nI a, nI b), rfl, (by simp only [qTouch, if_neg (nI_pos (show a < 2 ^ 31 by omega)), if_pos True.intro, if_neg (nI_pos (show b < 2 ^ 31 by omega)), nI_clamp (show b < 2 ^ 31 by omega)]), eh, er, upd ek b p1, ha1, ha2, (qAg_upd ha3), by rw [ht]; exact hP, va_K.moved hW.alike hK, hD⟩, hS.F ht⟩) hS.2.2 dX2_touch_164
  · refine lv_aload_n hx hb dX2_touch_0 rfl (lv_at hl 0 rfl) ?_
    refine va_get (D := (dC, dI)) (ci := 2) (v := .int (nI a)) (C := RX2) (T := TX2) (N := 8) hx hb hts inX2_touch_X2 hown hK hP 0 rfl rfl 6 (by decide) (hts (.fieldLink RX2 19 "QueueHallModel" "finger" "I") (List.mem_of_getElem? (i := 1) (by decide +kernel))) (fun _ h9 => h9) rfl dX2_touch_1 ?_
    refine lv_if_lt (tgt := 28) hx hb dX2_touch_4 (by decide) (fun c_0 => absurd c_0 (show ¬ (nI a) < (0 : Int32) from (by simp (disch := omega) only [ti_lt, ti_le, ti_eq, ti_0, ti_1, ti_2, ti_m1, ti_100, ti_2000, nI_toInt] <;> omega))) (fun c_13 => ?_)
    have k_13 : a ≥ 0 := by
      simp (disch := omega) only [ti_lt, ti_le, ti_eq, ti_0, ti_1, ti_2, ti_m1, ti_100, ti_2000, nI_toInt] at c_13
      omega
    refine lv_iload_n hx hb dX2_touch_7 rfl (lv_at hl 1 rfl) ?_
    refine lv_if_lt (tgt := 28) hx hb dX2_touch_8 (by decide) (fun c_0 => absurd c_0 (show ¬ (1 : Int32) < (0 : Int32) from (by decide))) (fun c_14 => ?_)
    refine lv_iload_n hx hb dX2_touch_11 rfl (lv_at hl 1 rfl) ?_
    refine lv_iconst (v := 2) hx hb dX2_touch_12 (by decide) ?_
    refine lv_icmp_gt (tgt := 28) hx hb dX2_touch_13 (by decide) (fun c_0 => absurd c_0 (show ¬ (2 : Int32) < (1 : Int32) from (by decide))) (fun c_15 => ?_)
    refine lv_iload_n hx hb dX2_touch_16 rfl (lv_at hl 1 rfl) ?_
    refine lv_iconst (v := 2) hx hb dX2_touch_17 (by decide) ?_
    refine lv_icmp_ge (tgt := 30) hx hb dX2_touch_18 (by decide) (fun c_0 => absurd c_0 (show ¬ (2 : Int32) ≤ (1 : Int32) from (by decide))) (fun c_16 => ?_)
    refine lv_aload_n hx hb dX2_touch_21 rfl (lv_at hl 0 rfl) ?_
    refine va_get (D := (dC, dI)) (ci := 2) (v := .int (-1)) (C := RX2) (T := TX2) (N := 8) hx hb hts inX2_touch_X2 hown hK hP 0 rfl rfl 7 (by decide) (hts (.fieldLink RX2 23 "QueueHallModel" "met" "I") (List.mem_of_getElem? (i := 2) (by decide +kernel))) (fun _ h9 => h9) rfl dX2_touch_22 ?_
    refine lv_if_ge (tgt := 30) hx hb dX2_touch_25 (by decide) (fun c_0 => absurd c_0 (show ¬ (0 : Int32) ≤ (-1 : Int32) from (by decide))) (fun c_17 => ?_)
    refine lv_iconst (v := -1) hx hb dX2_touch_28 (by decide) ?_
    exact W.iret (v := -1) hx hb hr (fun t ht hW => ⟨⟨-1, ((gh, nh), (gr, nr), (gk, nk), nI a, -1), rfl, (by simp only [qTouch, if_neg (nI_pos (show a < 2 ^ 31 by omega)), if_neg (show ¬ (1 : Int32) = 0 by decide), if_pos True.intro, if_pos (show (-1 : Int32) < 0 by decide)]), eh, er, ek, ha1, ha2, ha3, by rw [ht]; exact hP, va_K.moved hW.alike hK, hD⟩, hS.F ht⟩) hS.2.2 dX2_touch_29
  · refine lv_aload_n hx hb dX2_touch_0 rfl (lv_at hl 0 rfl) ?_
    refine va_get (D := (dC, dI)) (ci := 2) (v := .int (nI a)) (C := RX2) (T := TX2) (N := 8) hx hb hts inX2_touch_X2 hown hK hP 0 rfl rfl 6 (by decide) (hts (.fieldLink RX2 19 "QueueHallModel" "finger" "I") (List.mem_of_getElem? (i := 1) (by decide +kernel))) (fun _ h9 => h9) rfl dX2_touch_1 ?_
    refine lv_if_lt (tgt := 28) hx hb dX2_touch_4 (by decide) (fun c_0 => absurd c_0 (show ¬ (nI a) < (0 : Int32) from (by simp (disch := omega) only [ti_lt, ti_le, ti_eq, ti_0, ti_1, ti_2, ti_m1, ti_100, ti_2000, nI_toInt] <;> omega))) (fun c_18 => ?_)
    have k_18 : a ≥ 0 := by
      simp (disch := omega) only [ti_lt, ti_le, ti_eq, ti_0, ti_1, ti_2, ti_m1, ti_100, ti_2000, nI_toInt] at c_18
      omega
    refine lv_iload_n hx hb dX2_touch_7 rfl (lv_at hl 1 rfl) ?_
    refine lv_if_lt (tgt := 28) hx hb dX2_touch_8 (by decide) (fun c_0 => absurd c_0 (show ¬ (1 : Int32) < (0 : Int32) from (by decide))) (fun c_19 => ?_)
    refine lv_iload_n hx hb dX2_touch_11 rfl (lv_at hl 1 rfl) ?_
    refine lv_iconst (v := 2) hx hb dX2_touch_12 (by decide) ?_
    refine lv_icmp_gt (tgt := 28) hx hb dX2_touch_13 (by decide) (fun c_0 => absurd c_0 (show ¬ (2 : Int32) < (1 : Int32) from (by decide))) (fun c_20 => ?_)
    refine lv_iload_n hx hb dX2_touch_16 rfl (lv_at hl 1 rfl) ?_
    refine lv_iconst (v := 2) hx hb dX2_touch_17 (by decide) ?_
    refine lv_icmp_ge (tgt := 30) hx hb dX2_touch_18 (by decide) (fun c_0 => absurd c_0 (show ¬ (2 : Int32) ≤ (1 : Int32) from (by decide))) (fun c_21 => ?_)
    refine lv_aload_n hx hb dX2_touch_21 rfl (lv_at hl 0 rfl) ?_
    refine va_get (D := (dC, dI)) (ci := 2) (v := .int (nI b)) (C := RX2) (T := TX2) (N := 8) hx hb hts inX2_touch_X2 hown hK hP 0 rfl rfl 7 (by decide) (hts (.fieldLink RX2 23 "QueueHallModel" "met" "I") (List.mem_of_getElem? (i := 2) (by decide +kernel))) (fun _ h9 => h9) rfl dX2_touch_22 ?_
    refine lv_if_ge (tgt := 30) hx hb dX2_touch_25 (by decide) (fun c_22 => ?_) (fun c_0 => absurd (show (0 : Int32) ≤ (nI b) from (by simp (disch := omega) only [ti_lt, ti_le, ti_eq, ti_0, ti_1, ti_2, ti_m1, ti_100, ti_2000, nI_toInt] <;> omega)) c_0)
    have k_22 : b ≥ 0 := by
      simp (disch := omega) only [ti_lt, ti_le, ti_eq, ti_0, ti_1, ti_2, ti_m1, ti_100, ti_2000, nI_toInt] at c_22
      omega
    refine lv_iload_n hx hb dX2_touch_30 rfl (lv_at hl 1 rfl) ?_
    refine lv_if_ne (tgt := 47) hx hb dX2_touch_31 (by decide) (fun c_23 => ?_) (fun c_0 => absurd c_0 (show ¬ (1 : Int32) = (0 : Int32) from (by decide)))
    refine lv_iload_n hx hb dX2_touch_47 rfl (lv_at hl 1 rfl) ?_
    refine lv_iconst (v := 1) hx hb dX2_touch_48 (by decide) ?_
    refine lv_icmp_ne (tgt := 106) hx hb dX2_touch_49 (by decide) (fun c_0 => absurd (show (1 : Int32) = (1 : Int32) from (by decide)) c_0) (fun c_24 => ?_)
    refine lv_aload_n hx hb dX2_touch_52 rfl (lv_at hl 0 rfl) ?_
    refine va_get (D := (dC, dI)) (ci := 2) (v := .ref c3) (C := RX2) (T := TX2) (N := 8) hx hb hts inX2_touch_X2 hown hK hP 0 rfl rfl 2 (by decide) (hts (.fieldLink RX2 16 "QueueHallModel" "chain" "[I") (List.mem_of_getElem? (i := 3) (by decide +kernel))) (fun _ h9 => h9) rfl dX2_touch_53 ?_
    refine lv_aload_n hx hb dX2_touch_56 rfl (lv_at hl 0 rfl) ?_
    refine va_get (D := (dC, dI)) (ci := 2) (v := .int (nI nk)) (C := RX2) (T := TX2) (N := 8) hx hb hts inX2_touch_X2 hown hK hP 0 rfl rfl 5 (by decide) (hts (.fieldLink RX2 32 "QueueHallModel" "chains" "I") (List.mem_of_getElem? (i := 4) (by decide +kernel))) (fun _ h9 => h9) rfl dX2_touch_57 ?_
    refine lv_aload_n hx hb dX2_touch_60 rfl (lv_at hl 0 rfl) ?_
    refine va_get (D := (dC, dI)) (ci := 2) (v := .int (nI b)) (C := RX2) (T := TX2) (N := 8) hx hb hts inX2_touch_X2 hown hK hP 0 rfl rfl 7 (by decide) (hts (.fieldLink RX2 23 "QueueHallModel" "met" "I") (List.mem_of_getElem? (i := 2) (by decide +kernel))) (fun _ h9 => h9) rfl dX2_touch_61 ?_
    have hPc := hP.sub (ws' := [(c3, .inl (cA, 2000, .inl ek))]) [3] rfl
    have hKc := hK.sub (tys' := [(cA, .int)]) [0] rfl
    have hDc := hD.sub (ws' := [(c3, .inl (cA, 2000, .inl ek))]) [3] (by decide) rfl
    have hFc := va_free (wc := [(c3, .inl (cA, 2000, .inl ek))]) hD hS hA [3] rfl
    refine va_callv (va_runS (As := [.ref c3, .int (nI nk), .int (nI b)]) (rest := []) ⟨hx, hb, hml, hown, hts⟩ (c_Mod_take l dC dI s.heap.size c3 nk b cA ek gk (by omega) (by omega) ha3) (cwS 3 hts gX2_touch_X2_take_v rfl rfl rfl (by decide +kernel) ⟨Nat.le_of_ble_eq_true rfl, Nat.le_of_ble_eq_true rfl⟩) ⟨q_blW, fun U hU hW => ⟨rfl, by rw [hU], by rw [hU]; exact hPc, va_K.moved hW.alike hKc, hDc.weaken (fun _ _ _ _ => trivial)⟩⟩ rfl rfl hl.1 rfl (lv_room (Nat.le_of_ble_eq_true rfl)) dX2_touch_64 ⟨Nat.le_of_ble_eq_true rfl, Nat.le_of_ble_eq_true rfl⟩) hS (fun q _ h => hFc q h) hFc (fun u_25 t_25 H1 locs ht hvm hw hB hz1 hk1 hS => ?_)
    subst hw
    obtain ⟨f_25, hg_25, hP1, hK1, hD1⟩ := hB
    rw [ht] at hP1
    obtain ⟨hP, hD⟩ := q_join (wr := [(m0, .inr (2, [.ref c1, .ref c2, .ref c3, .int (nI nh), .int (nI nr), .int (nI nk), .int (nI a), .int (nI b)])), (c1, .inl (cA, 2000, .inl eh)), (c2, .inl (cA, 2000, .inl er))]) (w1 := [(c3, .inl (cA, 2000, .inl f_25))]) (wz := [(m0, .inr (2, [.ref c1, .ref c2, .ref c3, .int (nI nh), .int (nI nr), .int (nI nk), .int (nI a), .int (nI b)])), (c1, .inl (cA, 2000, .inl eh)), (c2, .inl (cA, 2000, .inl er)), (c3, .inl (cA, 2000, .inl f_25))]) hP hD [3] [0, 1, 2] [0, 1, 2, 3] rfl rfl (by decide) (by decide) hk1 hFc hP1 hD1 rfl rfl (by decide)
    generalize H1 = H at hP hS ⊢
    refine lv_aload_n hx hb dX2_touch_67 rfl (lv_at hl 0 rfl) ?_
    refine lv_dup hx hb dX2_touch_68 rfl ?_
    refine va_get (D := (dC, dI)) (ci := 2) (v := .int (nI nk)) (C := RX2) (T := TX2) (N := 8) hx hb hts inX2_touch_X2 hown hK hP 0 rfl rfl 5 (by decide) (hts (.fieldLink RX2 32 "QueueHallModel" "chains" "I") (List.mem_of_getElem? (i := 4) (by decide +kernel))) (fun _ h9 => h9) rfl dX2_touch_69 ?_
    refine lv_iconst (v := 1) hx hb dX2_touch_72 (by decide) ?_
    refine lv_isub hx hb dX2_touch_73 ?_
    refine q_top (y := nI (nk - 1)) (q_m1 (by omega)) ?_
    refine va_put (D := (dC, dI)) (ci := 2) (v := .int (nI (nk - 1))) (ty := .int) (C := RX2) (T := TX2) (N := 8) hx hb hts inX2_touch_X2 tyX2 tyX2_ok nmX2 hown hK hP hD hS 0 rfl rfl 5 (by decide) (hts (.fieldLink RX2 32 "QueueHallModel" "chains" "I") (List.mem_of_getElem? (i := 4) (by decide +kernel))) (fun _ h9 => h9) rfl (by decide +kernel) rfl rfl (Nat.le_of_ble_eq_true rfl) dX2_touch_74 (fun H locs hP hD hS => ?_)
    have hP : va_P (dC, dI) vwCl [(m0, .inr (2, [.ref c1, .ref c2, .ref c3, .int (nI nh), .int (nI nr), .int (nI (nk - 1)), .int (nI a), .int (nI b)])), (c1, .inl (cA, 2000, .inl eh)), (c2, .inl (cA, 2000, .inl er)), (c3, .inl (cA, 2000, .inl f_25))] H := hP
    have hD : va_D A [(m0, .inr (2, [.ref c1, .ref c2, .ref c3, .int (nI nh), .int (nI nr), .int (nI (nk - 1)), .int (nI a), .int (nI b)])), (c1, .inl (cA, 2000, .inl eh)), (c2, .inl (cA, 2000, .inl er)), (c3, .inl (cA, 2000, .inl f_25))] := hD
    refine lv_aload_n hx hb dX2_touch_77 rfl (lv_at hl 0 rfl) ?_
    refine va_get (D := (dC, dI)) (ci := 2) (v := .int (nI b)) (C := RX2) (T := TX2) (N := 8) hx hb hts inX2_touch_X2 hown hK hP 0 rfl rfl 7 (by decide) (hts (.fieldLink RX2 23 "QueueHallModel" "met" "I") (List.mem_of_getElem? (i := 2) (by decide +kernel))) (fun _ h9 => h9) rfl dX2_touch_78 ?_
    refine lv_aload_n hx hb dX2_touch_81 rfl (lv_at hl 0 rfl) ?_
    refine va_get (D := (dC, dI)) (ci := 2) (v := .int (nI a)) (C := RX2) (T := TX2) (N := 8) hx hb hts inX2_touch_X2 hown hK hP 0 rfl rfl 6 (by decide) (hts (.fieldLink RX2 19 "QueueHallModel" "finger" "I") (List.mem_of_getElem? (i := 1) (by decide +kernel))) (fun _ h9 => h9) rfl dX2_touch_82 ?_
    refine lv_icmp_ge (tgt := 98) hx hb dX2_touch_85 (by decide) (fun c_26 => ?_) (fun c_26 => ?_)
    · have k_26 : b ≥ a := by
        simp (disch := omega) only [ti_lt, ti_le, ti_eq, ti_0, ti_1, ti_2, ti_m1, ti_100, ti_2000, nI_toInt] at c_26
        omega
      refine lv_aload_n hx hb dX2_touch_98 rfl (lv_at hl 0 rfl) ?_
      refine lv_iconst (v := -1) hx hb dX2_touch_99 (by decide) ?_
      refine va_put (D := (dC, dI)) (ci := 2) (v := .int (-1)) (ty := .int) (C := RX2) (T := TX2) (N := 8) hx hb hts inX2_touch_X2 tyX2 tyX2_ok nmX2 hown hK hP hD hS 0 rfl rfl 7 (by decide) (hts (.fieldLink RX2 23 "QueueHallModel" "met" "I") (List.mem_of_getElem? (i := 2) (by decide +kernel))) (fun _ h9 => h9) rfl (by decide +kernel) rfl rfl (Nat.le_of_ble_eq_true rfl) dX2_touch_100 (fun H locs hP hD hS => ?_)
      have hP : va_P (dC, dI) vwCl [(m0, .inr (2, [.ref c1, .ref c2, .ref c3, .int (nI nh), .int (nI nr), .int (nI (nk - 1)), .int (nI a), .int (-1)])), (c1, .inl (cA, 2000, .inl eh)), (c2, .inl (cA, 2000, .inl er)), (c3, .inl (cA, 2000, .inl f_25))] H := hP
      have hD : va_D A [(m0, .inr (2, [.ref c1, .ref c2, .ref c3, .int (nI nh), .int (nI nr), .int (nI (nk - 1)), .int (nI a), .int (-1)])), (c1, .inl (cA, 2000, .inl eh)), (c2, .inl (cA, 2000, .inl er)), (c3, .inl (cA, 2000, .inl f_25))] := hD
      refine lv_goto (tgt := 160) hx hb dX2_touch_103 (by decide) ?_
      refine lv_aload_n hx hb dX2_touch_160 rfl (lv_at hl 0 rfl) ?_
      refine va_get (D := (dC, dI)) (ci := 2) (v := .int (nI (nk - 1))) (C := RX2) (T := TX2) (N := 8) hx hb hts inX2_touch_X2 hown hK hP 0 rfl rfl 5 (by decide) (hts (.fieldLink RX2 32 "QueueHallModel" "chains" "I") (List.mem_of_getElem? (i := 4) (by decide +kernel))) (fun _ h9 => h9) rfl dX2_touch_161 ?_
      exact W.iret (v := nI (nk - 1)) hx hb hr (fun t ht hW => ⟨⟨nI (nk - 1), ((gh, nh), (gr, nr), (qDel gk b, nk - 1), nI a, -1), rfl, (by simp only [qTouch, if_neg (nI_pos (show a < 2 ^ 31 by omega)), if_neg (show ¬ (1 : Int32) = 0 by decide), if_pos True.intro, if_neg (nI_pos (show b < 2 ^ 31 by omega)), nI_clamp (show b < 2 ^ 31 by omega), if_neg (nI_nlt (show a ≤ b by omega) (show b < 2 ^ 31 by omega))]), eh, er, f_25, ha1, ha2, hg_25, by rw [ht]; exact hP, va_K.moved hW.alike hK, hD⟩, hS.F ht⟩) hS.2.2 dX2_touch_164
    · have k_26 : b < a := by
        simp (disch := omega) only [ti_lt, ti_le, ti_eq, ti_0, ti_1, ti_2, ti_m1, ti_100, ti_2000, nI_toInt] at c_26
        omega
      refine lv_aload_n hx hb dX2_touch_88 rfl (lv_at hl 0 rfl) ?_
      refine lv_dup hx hb dX2_touch_89 rfl ?_
      refine va_get (D := (dC, dI)) (ci := 2) (v := .int (nI a)) (C := RX2) (T := TX2) (N := 8) hx hb hts inX2_touch_X2 hown hK hP 0 rfl rfl 6 (by decide) (hts (.fieldLink RX2 19 "QueueHallModel" "finger" "I") (List.mem_of_getElem? (i := 1) (by decide +kernel))) (fun _ h9 => h9) rfl dX2_touch_90 ?_
      refine lv_iconst (v := 1) hx hb dX2_touch_93 (by decide) ?_
      refine lv_isub hx hb dX2_touch_94 ?_
      refine q_top (y := nI (a - 1)) (q_m1 (by omega)) ?_
      refine va_put (D := (dC, dI)) (ci := 2) (v := .int (nI (a - 1))) (ty := .int) (C := RX2) (T := TX2) (N := 8) hx hb hts inX2_touch_X2 tyX2 tyX2_ok nmX2 hown hK hP hD hS 0 rfl rfl 6 (by decide) (hts (.fieldLink RX2 19 "QueueHallModel" "finger" "I") (List.mem_of_getElem? (i := 1) (by decide +kernel))) (fun _ h9 => h9) rfl (by decide +kernel) rfl rfl (Nat.le_of_ble_eq_true rfl) dX2_touch_95 (fun H locs hP hD hS => ?_)
      have hP : va_P (dC, dI) vwCl [(m0, .inr (2, [.ref c1, .ref c2, .ref c3, .int (nI nh), .int (nI nr), .int (nI (nk - 1)), .int (nI (a - 1)), .int (nI b)])), (c1, .inl (cA, 2000, .inl eh)), (c2, .inl (cA, 2000, .inl er)), (c3, .inl (cA, 2000, .inl f_25))] H := hP
      have hD : va_D A [(m0, .inr (2, [.ref c1, .ref c2, .ref c3, .int (nI nh), .int (nI nr), .int (nI (nk - 1)), .int (nI (a - 1)), .int (nI b)])), (c1, .inl (cA, 2000, .inl eh)), (c2, .inl (cA, 2000, .inl er)), (c3, .inl (cA, 2000, .inl f_25))] := hD
      refine lv_aload_n hx hb dX2_touch_98 rfl (lv_at hl 0 rfl) ?_
      refine lv_iconst (v := -1) hx hb dX2_touch_99 (by decide) ?_
      refine va_put (D := (dC, dI)) (ci := 2) (v := .int (-1)) (ty := .int) (C := RX2) (T := TX2) (N := 8) hx hb hts inX2_touch_X2 tyX2 tyX2_ok nmX2 hown hK hP hD hS 0 rfl rfl 7 (by decide) (hts (.fieldLink RX2 23 "QueueHallModel" "met" "I") (List.mem_of_getElem? (i := 2) (by decide +kernel))) (fun _ h9 => h9) rfl (by decide +kernel) rfl rfl (Nat.le_of_ble_eq_true rfl) dX2_touch_100 (fun H locs hP hD hS => ?_)
      have hP : va_P (dC, dI) vwCl [(m0, .inr (2, [.ref c1, .ref c2, .ref c3, .int (nI nh), .int (nI nr), .int (nI (nk - 1)), .int (nI (a - 1)), .int (-1)])), (c1, .inl (cA, 2000, .inl eh)), (c2, .inl (cA, 2000, .inl er)), (c3, .inl (cA, 2000, .inl f_25))] H := hP
      have hD : va_D A [(m0, .inr (2, [.ref c1, .ref c2, .ref c3, .int (nI nh), .int (nI nr), .int (nI (nk - 1)), .int (nI (a - 1)), .int (-1)])), (c1, .inl (cA, 2000, .inl eh)), (c2, .inl (cA, 2000, .inl er)), (c3, .inl (cA, 2000, .inl f_25))] := hD
      refine lv_goto (tgt := 160) hx hb dX2_touch_103 (by decide) ?_
      refine lv_aload_n hx hb dX2_touch_160 rfl (lv_at hl 0 rfl) ?_
      refine va_get (D := (dC, dI)) (ci := 2) (v := .int (nI (nk - 1))) (C := RX2) (T := TX2) (N := 8) hx hb hts inX2_touch_X2 hown hK hP 0 rfl rfl 5 (by decide) (hts (.fieldLink RX2 32 "QueueHallModel" "chains" "I") (List.mem_of_getElem? (i := 4) (by decide +kernel))) (fun _ h9 => h9) rfl dX2_touch_161 ?_
      exact W.iret (v := nI (nk - 1)) hx hb hr (fun t ht hW => ⟨⟨nI (nk - 1), ((gh, nh), (gr, nr), (qDel gk b, nk - 1), nI (a - 1), -1), rfl, (by simp only [qTouch, if_neg (nI_pos (show a < 2 ^ 31 by omega)), if_neg (show ¬ (1 : Int32) = 0 by decide), if_pos True.intro, if_neg (nI_pos (show b < 2 ^ 31 by omega)), nI_clamp (show b < 2 ^ 31 by omega), if_pos (nI_lt (show b < a by omega) (show a < 2 ^ 31 by omega)), q_m1 (show 0 < a by omega)]), eh, er, f_25, ha1, ha2, hg_25, by rw [ht]; exact hP, va_K.moved hW.alike hK, hD⟩, hS.F ht⟩) hS.2.2 dX2_touch_164
  · refine lv_aload_n hx hb dX2_touch_0 rfl (lv_at hl 0 rfl) ?_
    refine va_get (D := (dC, dI)) (ci := 2) (v := .int (nI a)) (C := RX2) (T := TX2) (N := 8) hx hb hts inX2_touch_X2 hown hK hP 0 rfl rfl 6 (by decide) (hts (.fieldLink RX2 19 "QueueHallModel" "finger" "I") (List.mem_of_getElem? (i := 1) (by decide +kernel))) (fun _ h9 => h9) rfl dX2_touch_1 ?_
    refine lv_if_lt (tgt := 28) hx hb dX2_touch_4 (by decide) (fun c_0 => absurd c_0 (show ¬ (nI a) < (0 : Int32) from (by simp (disch := omega) only [ti_lt, ti_le, ti_eq, ti_0, ti_1, ti_2, ti_m1, ti_100, ti_2000, nI_toInt] <;> omega))) (fun c_27 => ?_)
    have k_27 : a ≥ 0 := by
      simp (disch := omega) only [ti_lt, ti_le, ti_eq, ti_0, ti_1, ti_2, ti_m1, ti_100, ti_2000, nI_toInt] at c_27
      omega
    refine lv_iload_n hx hb dX2_touch_7 rfl (lv_at hl 1 rfl) ?_
    refine lv_if_lt (tgt := 28) hx hb dX2_touch_8 (by decide) (fun c_0 => absurd c_0 (show ¬ (2 : Int32) < (0 : Int32) from (by decide))) (fun c_28 => ?_)
    refine lv_iload_n hx hb dX2_touch_11 rfl (lv_at hl 1 rfl) ?_
    refine lv_iconst (v := 2) hx hb dX2_touch_12 (by decide) ?_
    refine lv_icmp_gt (tgt := 28) hx hb dX2_touch_13 (by decide) (fun c_0 => absurd c_0 (show ¬ (2 : Int32) < (2 : Int32) from (by decide))) (fun c_29 => ?_)
    refine lv_iload_n hx hb dX2_touch_16 rfl (lv_at hl 1 rfl) ?_
    refine lv_iconst (v := 2) hx hb dX2_touch_17 (by decide) ?_
    refine lv_icmp_ge (tgt := 30) hx hb dX2_touch_18 (by decide) (fun c_30 => ?_) (fun c_0 => absurd (show (2 : Int32) ≤ (2 : Int32) from (by decide)) c_0)
    refine lv_iload_n hx hb dX2_touch_30 rfl (lv_at hl 1 rfl) ?_
    refine lv_if_ne (tgt := 47) hx hb dX2_touch_31 (by decide) (fun c_31 => ?_) (fun c_0 => absurd c_0 (show ¬ (2 : Int32) = (0 : Int32) from (by decide)))
    refine lv_iload_n hx hb dX2_touch_47 rfl (lv_at hl 1 rfl) ?_
    refine lv_iconst (v := 1) hx hb dX2_touch_48 (by decide) ?_
    refine lv_icmp_ne (tgt := 106) hx hb dX2_touch_49 (by decide) (fun c_32 => ?_) (fun c_0 => absurd c_0 (show ¬ (2 : Int32) = (1 : Int32) from (by decide)))
    refine lv_aload_n hx hb dX2_touch_106 rfl (lv_at hl 0 rfl) ?_
    refine va_get (D := (dC, dI)) (ci := 2) (v := .int (nI nk)) (C := RX2) (T := TX2) (N := 8) hx hb hts inX2_touch_X2 hown hK hP 0 rfl rfl 5 (by decide) (hts (.fieldLink RX2 32 "QueueHallModel" "chains" "I") (List.mem_of_getElem? (i := 4) (by decide +kernel))) (fun _ h9 => h9) rfl dX2_touch_107 ?_
    refine lv_sipush (v := 2000) hx hb dX2_touch_110 (by decide) ?_
    refine lv_icmp_ne (tgt := 119) hx hb dX2_touch_113 (by decide) (fun c_33 => ?_) (fun c_0 => absurd c_0 (show ¬ (nI nk) = (2000 : Int32) from (by simp (disch := omega) only [ti_lt, ti_le, ti_eq, ti_0, ti_1, ti_2, ti_m1, ti_100, ti_2000, nI_toInt] <;> omega)))
    have k_33 : ¬ nk = 2000 := by
      simp (disch := omega) only [ti_lt, ti_le, ti_eq, ti_0, ti_1, ti_2, ti_m1, ti_100, ti_2000, nI_toInt] at c_33
      omega
    refine lv_aload_n hx hb dX2_touch_119 rfl (lv_at hl 0 rfl) ?_
    refine va_get (D := (dC, dI)) (ci := 2) (v := .ref c3) (C := RX2) (T := TX2) (N := 8) hx hb hts inX2_touch_X2 hown hK hP 0 rfl rfl 2 (by decide) (hts (.fieldLink RX2 16 "QueueHallModel" "chain" "[I") (List.mem_of_getElem? (i := 3) (by decide +kernel))) (fun _ h9 => h9) rfl dX2_touch_120 ?_
    refine lv_aload_n hx hb dX2_touch_123 rfl (lv_at hl 0 rfl) ?_
    refine va_get (D := (dC, dI)) (ci := 2) (v := .int (nI nk)) (C := RX2) (T := TX2) (N := 8) hx hb hts inX2_touch_X2 hown hK hP 0 rfl rfl 5 (by decide) (hts (.fieldLink RX2 32 "QueueHallModel" "chains" "I") (List.mem_of_getElem? (i := 4) (by decide +kernel))) (fun _ h9 => h9) rfl dX2_touch_124 ?_
    refine lv_aload_n hx hb dX2_touch_127 rfl (lv_at hl 0 rfl) ?_
    refine va_get (D := (dC, dI)) (ci := 2) (v := .int (nI a)) (C := RX2) (T := TX2) (N := 8) hx hb hts inX2_touch_X2 hown hK hP 0 rfl rfl 6 (by decide) (hts (.fieldLink RX2 19 "QueueHallModel" "finger" "I") (List.mem_of_getElem? (i := 1) (by decide +kernel))) (fun _ h9 => h9) rfl dX2_touch_128 ?_
    refine lv_iload_n hx hb dX2_touch_131 rfl (lv_at hl 2 rfl) ?_
    have hPc := hP.sub (ws' := [(c3, .inl (cA, 2000, .inl ek))]) [3] rfl
    have hKc := hK.sub (tys' := [(cA, .int)]) [0] rfl
    have hDc := hD.sub (ws' := [(c3, .inl (cA, 2000, .inl ek))]) [3] (by decide) rfl
    have hFc := va_free (wc := [(c3, .inl (cA, 2000, .inl ek))]) hD hS hA [3] rfl
    refine va_callv (va_runS (As := [.ref c3, .int (nI nk), .int (nI a), .int p1]) (rest := []) ⟨hx, hb, hml, hown, hts⟩ (c_Mod_put l dC dI s.heap.size c3 nk a cA ek gk p1 (by omega) (by omega) ha3) (cwS 4 hts gX2_touch_X2_put_v rfl rfl rfl (by decide +kernel) ⟨Nat.le_of_ble_eq_true rfl, Nat.le_of_ble_eq_true rfl⟩) ⟨q_blW, fun U hU hW => ⟨rfl, by rw [hU], by rw [hU]; exact hPc, va_K.moved hW.alike hKc, hDc.weaken (fun _ _ _ _ => trivial)⟩⟩ rfl rfl hl.1 rfl (lv_room (Nat.le_of_ble_eq_true rfl)) dX2_touch_132 ⟨Nat.le_of_ble_eq_true rfl, Nat.le_of_ble_eq_true rfl⟩) hS (fun q _ h => hFc q h) hFc (fun u_34 t_34 H1 locs ht hvm hw hB hz1 hk1 hS => ?_)
    subst hw
    obtain ⟨f_34, hg_34, hP1, hK1, hD1⟩ := hB
    rw [ht] at hP1
    obtain ⟨hP, hD⟩ := q_join (wr := [(m0, .inr (2, [.ref c1, .ref c2, .ref c3, .int (nI nh), .int (nI nr), .int (nI nk), .int (nI a), .int me])), (c1, .inl (cA, 2000, .inl eh)), (c2, .inl (cA, 2000, .inl er))]) (w1 := [(c3, .inl (cA, 2000, .inl f_34))]) (wz := [(m0, .inr (2, [.ref c1, .ref c2, .ref c3, .int (nI nh), .int (nI nr), .int (nI nk), .int (nI a), .int me])), (c1, .inl (cA, 2000, .inl eh)), (c2, .inl (cA, 2000, .inl er)), (c3, .inl (cA, 2000, .inl f_34))]) hP hD [3] [0, 1, 2] [0, 1, 2, 3] rfl rfl (by decide) (by decide) hk1 hFc hP1 hD1 rfl rfl (by decide)
    generalize H1 = H at hP hS ⊢
    refine lv_aload_n hx hb dX2_touch_135 rfl (lv_at hl 0 rfl) ?_
    refine lv_dup hx hb dX2_touch_136 rfl ?_
    refine va_get (D := (dC, dI)) (ci := 2) (v := .int (nI nk)) (C := RX2) (T := TX2) (N := 8) hx hb hts inX2_touch_X2 hown hK hP 0 rfl rfl 5 (by decide) (hts (.fieldLink RX2 32 "QueueHallModel" "chains" "I") (List.mem_of_getElem? (i := 4) (by decide +kernel))) (fun _ h9 => h9) rfl dX2_touch_137 ?_
    refine lv_iconst (v := 1) hx hb dX2_touch_140 (by decide) ?_
    refine lv_iadd hx hb dX2_touch_141 ?_
    refine q_top (y := nI (nk + 1)) (nI_1 nk) ?_
    refine va_put (D := (dC, dI)) (ci := 2) (v := .int (nI (nk + 1))) (ty := .int) (C := RX2) (T := TX2) (N := 8) hx hb hts inX2_touch_X2 tyX2 tyX2_ok nmX2 hown hK hP hD hS 0 rfl rfl 5 (by decide) (hts (.fieldLink RX2 32 "QueueHallModel" "chains" "I") (List.mem_of_getElem? (i := 4) (by decide +kernel))) (fun _ h9 => h9) rfl (by decide +kernel) rfl rfl (Nat.le_of_ble_eq_true rfl) dX2_touch_142 (fun H locs hP hD hS => ?_)
    have hP : va_P (dC, dI) vwCl [(m0, .inr (2, [.ref c1, .ref c2, .ref c3, .int (nI nh), .int (nI nr), .int (nI (nk + 1)), .int (nI a), .int me])), (c1, .inl (cA, 2000, .inl eh)), (c2, .inl (cA, 2000, .inl er)), (c3, .inl (cA, 2000, .inl f_34))] H := hP
    have hD : va_D A [(m0, .inr (2, [.ref c1, .ref c2, .ref c3, .int (nI nh), .int (nI nr), .int (nI (nk + 1)), .int (nI a), .int me])), (c1, .inl (cA, 2000, .inl eh)), (c2, .inl (cA, 2000, .inl er)), (c3, .inl (cA, 2000, .inl f_34))] := hD
    refine lv_aload_n hx hb dX2_touch_145 rfl (lv_at hl 0 rfl) ?_
    refine lv_dup hx hb dX2_touch_146 rfl ?_
    refine va_get (D := (dC, dI)) (ci := 2) (v := .int (nI a)) (C := RX2) (T := TX2) (N := 8) hx hb hts inX2_touch_X2 hown hK hP 0 rfl rfl 6 (by decide) (hts (.fieldLink RX2 19 "QueueHallModel" "finger" "I") (List.mem_of_getElem? (i := 1) (by decide +kernel))) (fun _ h9 => h9) rfl dX2_touch_147 ?_
    refine lv_iconst (v := 1) hx hb dX2_touch_150 (by decide) ?_
    refine lv_iadd hx hb dX2_touch_151 ?_
    refine q_top (y := nI (a + 1)) (nI_1 a) ?_
    refine va_put (D := (dC, dI)) (ci := 2) (v := .int (nI (a + 1))) (ty := .int) (C := RX2) (T := TX2) (N := 8) hx hb hts inX2_touch_X2 tyX2 tyX2_ok nmX2 hown hK hP hD hS 0 rfl rfl 6 (by decide) (hts (.fieldLink RX2 19 "QueueHallModel" "finger" "I") (List.mem_of_getElem? (i := 1) (by decide +kernel))) (fun _ h9 => h9) rfl (by decide +kernel) rfl rfl (Nat.le_of_ble_eq_true rfl) dX2_touch_152 (fun H locs hP hD hS => ?_)
    have hP : va_P (dC, dI) vwCl [(m0, .inr (2, [.ref c1, .ref c2, .ref c3, .int (nI nh), .int (nI nr), .int (nI (nk + 1)), .int (nI (a + 1)), .int me])), (c1, .inl (cA, 2000, .inl eh)), (c2, .inl (cA, 2000, .inl er)), (c3, .inl (cA, 2000, .inl f_34))] H := hP
    have hD : va_D A [(m0, .inr (2, [.ref c1, .ref c2, .ref c3, .int (nI nh), .int (nI nr), .int (nI (nk + 1)), .int (nI (a + 1)), .int me])), (c1, .inl (cA, 2000, .inl eh)), (c2, .inl (cA, 2000, .inl er)), (c3, .inl (cA, 2000, .inl f_34))] := hD
    refine lv_aload_n hx hb dX2_touch_155 rfl (lv_at hl 0 rfl) ?_
    refine lv_iconst (v := -1) hx hb dX2_touch_156 (by decide) ?_
    refine va_put (D := (dC, dI)) (ci := 2) (v := .int (-1)) (ty := .int) (C := RX2) (T := TX2) (N := 8) hx hb hts inX2_touch_X2 tyX2 tyX2_ok nmX2 hown hK hP hD hS 0 rfl rfl 7 (by decide) (hts (.fieldLink RX2 23 "QueueHallModel" "met" "I") (List.mem_of_getElem? (i := 2) (by decide +kernel))) (fun _ h9 => h9) rfl (by decide +kernel) rfl rfl (Nat.le_of_ble_eq_true rfl) dX2_touch_157 (fun H locs hP hD hS => ?_)
    have hP : va_P (dC, dI) vwCl [(m0, .inr (2, [.ref c1, .ref c2, .ref c3, .int (nI nh), .int (nI nr), .int (nI (nk + 1)), .int (nI (a + 1)), .int (-1)])), (c1, .inl (cA, 2000, .inl eh)), (c2, .inl (cA, 2000, .inl er)), (c3, .inl (cA, 2000, .inl f_34))] H := hP
    have hD : va_D A [(m0, .inr (2, [.ref c1, .ref c2, .ref c3, .int (nI nh), .int (nI nr), .int (nI (nk + 1)), .int (nI (a + 1)), .int (-1)])), (c1, .inl (cA, 2000, .inl eh)), (c2, .inl (cA, 2000, .inl er)), (c3, .inl (cA, 2000, .inl f_34))] := hD
    refine lv_aload_n hx hb dX2_touch_160 rfl (lv_at hl 0 rfl) ?_
    refine va_get (D := (dC, dI)) (ci := 2) (v := .int (nI (nk + 1))) (C := RX2) (T := TX2) (N := 8) hx hb hts inX2_touch_X2 hown hK hP 0 rfl rfl 5 (by decide) (hts (.fieldLink RX2 32 "QueueHallModel" "chains" "I") (List.mem_of_getElem? (i := 4) (by decide +kernel))) (fun _ h9 => h9) rfl dX2_touch_161 ?_
    exact W.iret (v := nI (nk + 1)) hx hb hr (fun t ht hW => ⟨⟨nI (nk + 1), ((gh, nh), (gr, nr), (qIns gk a p1, nk + 1), nI (a + 1), -1), rfl, (by simp only [qTouch, if_neg (nI_pos (show a < 2 ^ 31 by omega)), if_neg (show ¬ (2 : Int32) = 0 by decide), if_neg (show ¬ (2 : Int32) = 1 by decide), if_pos True.intro, nI_clamp (show a < 2 ^ 31 by omega), nI_1]), eh, er, f_34, ha1, ha2, hg_34, by rw [ht]; exact hP, va_K.moved hW.alike hK, hD⟩, hS.F ht⟩) hS.2.2 dX2_touch_164
  · refine lv_aload_n hx hb dX2_touch_0 rfl (lv_at hl 0 rfl) ?_
    refine va_get (D := (dC, dI)) (ci := 2) (v := .int (nI a)) (C := RX2) (T := TX2) (N := 8) hx hb hts inX2_touch_X2 hown hK hP 0 rfl rfl 6 (by decide) (hts (.fieldLink RX2 19 "QueueHallModel" "finger" "I") (List.mem_of_getElem? (i := 1) (by decide +kernel))) (fun _ h9 => h9) rfl dX2_touch_1 ?_
    refine lv_if_lt (tgt := 28) hx hb dX2_touch_4 (by decide) (fun c_0 => absurd c_0 (show ¬ (nI a) < (0 : Int32) from (by simp (disch := omega) only [ti_lt, ti_le, ti_eq, ti_0, ti_1, ti_2, ti_m1, ti_100, ti_2000, nI_toInt] <;> omega))) (fun c_35 => ?_)
    have k_35 : a ≥ 0 := by
      simp (disch := omega) only [ti_lt, ti_le, ti_eq, ti_0, ti_1, ti_2, ti_m1, ti_100, ti_2000, nI_toInt] at c_35
      omega
    refine lv_iload_n hx hb dX2_touch_7 rfl (lv_at hl 1 rfl) ?_
    refine lv_if_lt (tgt := 28) hx hb dX2_touch_8 (by decide) (fun c_36 => ?_) (fun c_36 => ?_)
    · refine lv_iconst (v := -1) hx hb dX2_touch_28 (by decide) ?_
      exact W.iret (v := -1) hx hb hr (fun t ht hW => ⟨⟨-1, ((gh, nh), (gr, nr), (gk, nk), nI a, me), rfl, (by simp only [qTouch, if_neg (nI_pos (show a < 2 ^ 31 by omega)), if_neg w0, if_neg w1, if_neg w2]), eh, er, ek, ha1, ha2, ha3, by rw [ht]; exact hP, va_K.moved hW.alike hK, hD⟩, hS.F ht⟩) hS.2.2 dX2_touch_29
    · refine lv_iload_n hx hb dX2_touch_11 rfl (lv_at hl 1 rfl) ?_
      refine lv_iconst (v := 2) hx hb dX2_touch_12 (by decide) ?_
      refine lv_icmp_gt (tgt := 28) hx hb dX2_touch_13 (by decide) (fun c_37 => ?_) (fun c_0 => absurd (show (2 : Int32) < p0 from (by have q := q_wo w0 w1 w2; have q2 := c_36; rw [ti_lt, ti_0] at q2; rw [ti_lt, ti_2]; omega)) c_0)
      refine lv_iconst (v := -1) hx hb dX2_touch_28 (by decide) ?_
      exact W.iret (v := -1) hx hb hr (fun t ht hW => ⟨⟨-1, ((gh, nh), (gr, nr), (gk, nk), nI a, me), rfl, (by simp only [qTouch, if_neg (nI_pos (show a < 2 ^ 31 by omega)), if_neg w0, if_neg w1, if_neg w2]), eh, er, ek, ha1, ha2, ha3, by rw [ht]; exact hP, va_K.moved hW.alike hK, hD⟩, hS.F ht⟩) hS.2.2 dX2_touch_29

set_option maxHeartbeats 4000000 in
set_option maxRecDepth 100000 in
theorem lp_empty {p : Program} {l : Launch} {e : Env} {s : State} {m : MethodId} {args : Array Value} {below : List Frame} {meth : Method} {c : Code} {Q : State → Prop} {dC : Nat → ClassId} {dI : Nat → Nat → Nat} {A : Nat → Prop} (m0 c1 c2 c3 nh nr nk : Nat) (cA : ClassId) (eh gh er gr ek gk : Nat → Int32) (fi me : Int32) (hn : nh + nr + nk < 2000) (ha1 : qAg nh eh gh) (ha2 : qAg nr er gr) (ha3 : qAg nk ek gk) (hF : qFok fi me nk) (hx : p.tables.exec = Jvm.exec) (hb : c.code = cX2_empty) (hml : c.maxLocals = 2) (hts : ∀ w ∈ wsX2_empty, w.before args s = true) (hown : s.vm.findClass RX2 = some m.cls) (hK : va_K (dC, dI) vwCl [(cA, .int)] s) (hA : ∀ q : Nat, s.heap.size ≤ q → A q)
    (E0 : ∀ (a : Nat → Int32), (qAg (nr + nh) a (qCat gr nr gh nh)) → ∀ (H : Heap) (locs : List Loc), va_P (dC, dI) vwCl [(m0, .inr (2, [.ref c1, .ref c2, .ref c3, .int (nI nh), .int (nI nr), .int (nI nk), .int fi, .int me])), (c1, .inl (cA, 2000, .inl eh)), (c2, .inl (cA, 2000, .inl a)), (c3, .inl (cA, 2000, .inl ek))] H → va_D A [(m0, .inr (2, [.ref c1, .ref c2, .ref c3, .int (nI nh), .int (nI nr), .int (nI nk), .int fi, .int me])), (c1, .inl (cA, 2000, .inl eh)), (c2, .inl (cA, 2000, .inl a)), (c3, .inl (cA, 2000, .inl ek))] → va_S A s.heap H locs → ∀ ls : Array Slot, lv_has ls 2 [(0, .ref m0)] → W p l e (headSpec wsX2_empty ({ frames := 1, cells := 0, slots := 0, locals := 25 })).room s m args below meth c H locs 0 0 Q (F0 m 51 ls [])) :
    ∀ (fu : Nat) (i : Nat) (a : Nat → Int32), (nh + 1 ≤ i + fu) → (i ≤ nh) → (qAg (nr + i) a (qCat gr nr gh i)) → ∀ (H : Heap) (locs : List Loc), va_P (dC, dI) vwCl [(m0, .inr (2, [.ref c1, .ref c2, .ref c3, .int (nI nh), .int (nI nr), .int (nI nk), .int fi, .int me])), (c1, .inl (cA, 2000, .inl eh)), (c2, .inl (cA, 2000, .inl a)), (c3, .inl (cA, 2000, .inl ek))] H → va_D A [(m0, .inr (2, [.ref c1, .ref c2, .ref c3, .int (nI nh), .int (nI nr), .int (nI nk), .int fi, .int me])), (c1, .inl (cA, 2000, .inl eh)), (c2, .inl (cA, 2000, .inl a)), (c3, .inl (cA, 2000, .inl ek))] → va_S A s.heap H locs → ∀ ls : Array Slot, lv_has ls 2 [(0, .ref m0), (1, .int (nI i))] → W p l e (headSpec wsX2_empty ({ frames := 1, cells := 0, slots := 0, locals := 25 })).room s m args below meth c H locs 0 0 Q (F0 m 20 ls []) := by
  intro fu
  induction fu with
  | zero =>
    intro i a hfu hi hv
    exact absurd hfu (by omega)
  | succ fu ih =>
    intro i a hfu hi hv H locs hP hD hS ls hl
    refine lv_iload_n hx hb dX2_empty_20 rfl (lv_at hl 1 rfl) ?_
    refine lv_aload_n hx hb dX2_empty_21 rfl (lv_at hl 0 rfl) ?_
    refine va_get (D := (dC, dI)) (ci := 2) (v := .int (nI nh)) (C := RX2) (T := TX2) (N := 8) hx hb hts inX2_empty_X2 hown hK hP 0 rfl rfl 3 (by decide) (hts (.fieldLink RX2 26 "QueueHallModel" "halls" "I") (List.mem_of_getElem? (i := 2) (by decide +kernel))) (fun _ h9 => h9) rfl dX2_empty_22 ?_
    refine lv_icmp_ge (tgt := 51) hx hb dX2_empty_25 (by decide) (fun c_1 => ?_) (fun c_1 => ?_)
    · have k_1 : i ≥ nh := by
        simp (disch := omega) only [ti_lt, ti_le, ti_eq, ti_0, ti_1, ti_2, ti_m1, ti_100, ti_2000, nI_toInt] at c_1
        omega
      exact E0 a (by rw [← show i = nh by omega]; exact hv) _ _ hP hD hS ls (lv_sub hl [0] rfl)
    · have k_1 : i < nh := by
        simp (disch := omega) only [ti_lt, ti_le, ti_eq, ti_0, ti_1, ti_2, ti_m1, ti_100, ti_2000, nI_toInt] at c_1
        omega
      refine lv_aload_n hx hb dX2_empty_28 rfl (lv_at hl 0 rfl) ?_
      refine va_get (D := (dC, dI)) (ci := 2) (v := .ref c2) (C := RX2) (T := TX2) (N := 8) hx hb hts inX2_empty_X2 hown hK hP 0 rfl rfl 1 (by decide) (hts (.fieldLink RX2 13 "QueueHallModel" "ring" "[I") (List.mem_of_getElem? (i := 3) (by decide +kernel))) (fun _ h9 => h9) rfl dX2_empty_29 ?_
      refine lv_aload_n hx hb dX2_empty_32 rfl (lv_at hl 0 rfl) ?_
      refine va_get (D := (dC, dI)) (ci := 2) (v := .int (nI nr)) (C := RX2) (T := TX2) (N := 8) hx hb hts inX2_empty_X2 hown hK hP 0 rfl rfl 4 (by decide) (hts (.fieldLink RX2 29 "QueueHallModel" "rings" "I") (List.mem_of_getElem? (i := 1) (by decide +kernel))) (fun _ h9 => h9) rfl dX2_empty_33 ?_
      refine lv_iload_n hx hb dX2_empty_36 rfl (lv_at hl 1 rfl) ?_
      refine lv_iadd hx hb dX2_empty_37 ?_
      refine q_top (y := nI (nr + i)) (nI_add nr i) ?_
      refine lv_aload_n hx hb dX2_empty_38 rfl (lv_at hl 0 rfl) ?_
      refine va_get (D := (dC, dI)) (ci := 2) (v := .ref c1) (C := RX2) (T := TX2) (N := 8) hx hb hts inX2_empty_X2 hown hK hP 0 rfl rfl 0 (by decide) (hts (.fieldLink RX2 9 "QueueHallModel" "hall" "[I") (List.mem_of_getElem? (i := 4) (by decide +kernel))) (fun _ h9 => h9) rfl dX2_empty_39 ?_
      refine lv_iload_n hx hb dX2_empty_42 rfl (lv_at hl 1 rfl) ?_
      refine q_iald (k := i) hx hb hK hP 1 0 rfl rfl (by omega) (by omega) dX2_empty_43 ?_
      refine q_iast (k := nr + i) hx hb hK hP hD hS 2 0 rfl rfl (by omega) (by omega) dX2_empty_44 (fun H locs hP hD hS => ?_)
      have hP : va_P (dC, dI) vwCl [(m0, .inr (2, [.ref c1, .ref c2, .ref c3, .int (nI nh), .int (nI nr), .int (nI nk), .int fi, .int me])), (c1, .inl (cA, 2000, .inl eh)), (c2, .inl (cA, 2000, .inl (upd a (nr + i) (eh i)))), (c3, .inl (cA, 2000, .inl ek))] H := hP
      have hD : va_D A [(m0, .inr (2, [.ref c1, .ref c2, .ref c3, .int (nI nh), .int (nI nr), .int (nI nk), .int fi, .int me])), (c1, .inl (cA, 2000, .inl eh)), (c2, .inl (cA, 2000, .inl (upd a (nr + i) (eh i)))), (c3, .inl (cA, 2000, .inl ek))] := hD
      refine lv_iinc (v := nI (i + 1)) (lv' := [(1, .int (nI (i + 1))), (0, .ref m0)]) hx hb dX2_empty_45 hl (k := 1) rfl (nI_1 i) (by decide) rfl (fun ls hl => ?_)
      refine lv_goto (tgt := 20) hx hb dX2_empty_48 (by decide) ?_
      exact ih (i + 1) (upd a (nr + i) (eh i)) (by omega) (by omega) (qEm_s hv ha1 (by omega)) _ _ hP hD hS ls (lv_sub hl [1, 0] rfl)

set_option maxHeartbeats 4000000 in
set_option maxRecDepth 100000 in
theorem c_Mod_empty (l : Launch) (dC : Nat → ClassId) (dI : Nat → Nat → Nat) (sz : Nat) (m0 c1 c2 c3 nh nr nk : Nat) (cA : ClassId) (eh gh er gr ek gk : Nat → Int32) (fi me : Int32) (hn : nh + nr + nk < 2000) (ha1 : qAg nh eh gh) (ha2 : qAg nr er gr) (ha3 : qAg nk ek gk) (hF : qFok fi me nk) : Met l yX2_empty wsX2_empty ({ frames := 1, cells := 0, slots := 0, locals := 25 }) (va_Pc [.ref m0] (fun U => U.heap.size = sz ∧ va_P (dC, dI) vwCl [(m0, .inr (2, [.ref c1, .ref c2, .ref c3, .int (nI nh), .int (nI nr), .int (nI nk), .int fi, .int me])), (c1, .inl (cA, 2000, .inl eh)), (c2, .inl (cA, 2000, .inl er)), (c3, .inl (cA, 2000, .inl ek))] U.heap ∧ va_K (dC, dI) vwCl [(cA, .int)] U ∧ va_D (fun _ => True) [(m0, .inr (2, [.ref c1, .ref c2, .ref c3, .int (nI nh), .int (nI nr), .int (nI nk), .int fi, .int me])), (c1, .inl (cA, 2000, .inl eh)), (c2, .inl (cA, 2000, .inl er)), (c3, .inl (cA, 2000, .inl ek))])) (va_Qi (fun (r : Int32) (u : qS) => (r, u) = qEmpty ((gh, nh), (gr, nr), (gk, nk), fi, me)) (at_M dC dI (va_A [(m0, .inr (2, [.ref c1, .ref c2, .ref c3, .int (nI nh), .int (nI nr), .int (nI nk), .int fi, .int me])), (c1, .inl (cA, 2000, .inl eh)), (c2, .inl (cA, 2000, .inl er)), (c3, .inl (cA, 2000, .inl ek))] sz) m0 c1 c2 c3 cA) (va_A [(m0, .inr (2, [.ref c1, .ref c2, .ref c3, .int (nI nh), .int (nI nr), .int (nI nk), .int fi, .int me])), (c1, .inl (cA, 2000, .inl eh)), (c2, .inl (cA, 2000, .inl er)), (c3, .inl (cA, 2000, .inl ek))] sz)) 0 0 (va_A [(m0, .inr (2, [.ref c1, .ref c2, .ref c3, .int (nI nh), .int (nI nr), .int (nI nk), .int fi, .int me])), (c1, .inl (cA, 2000, .inl eh)), (c2, .inl (cA, 2000, .inl er)), (c3, .inl (cA, 2000, .inl ek))] sz) := by
  refine Met.ofW (cc := cX2_empty) (maxL := 2) (ret := (some .int)) (by decide +kernel) rfl ?_
  intro p e s m args below meth c s₁ B hml hv
  obtain ⟨rfl, hsz, hP, hK, hD0⟩ := hv
  have hx := B.exec
  have hb := B.bytes
  have hr := B.returns
  have hts := atoms_spec (ws := wsX2_empty) B.pre
  have hown : s.vm.findClass RX2 = some m.cls := findClass_of_methodNamed B.named
  have hlocks := B.notSynchronized
  subst hsz
  have hD := hD0.self (sz := s.heap.size)
  generalize hAe : va_A [(m0, .inr (2, [.ref c1, .ref c2, .ref c3, .int (nI nh), .int (nI nr), .int (nI nk), .int fi, .int me])), (c1, .inl (cA, 2000, .inl eh)), (c2, .inl (cA, 2000, .inl er)), (c3, .inl (cA, 2000, .inl ek))] s.heap.size = A at hD ⊢
  have hA : ∀ q : Nat, s.heap.size ≤ q → A q := fun q h => by rw [← hAe]; exact Or.inr h
  have hS : va_S A s.heap s.heap [] := va_S.rf
  have hl := lv_entry ([.ref m0]) (n := 2) (Nat.le_of_ble_eq_true rfl)
  rw [lg_entry_eq]
  generalize (lg_sl ([.ref m0]) ++ List.replicate (2 - (lg_sl ([.ref m0])).length) Slot.unset).toArray = ls at hl ⊢
  have hl : lv_has ls 2 [(0, .ref m0)] := hl
  refine lv_aload_n hx hb dX2_empty_0 rfl (lv_at hl 0 rfl) ?_
  refine va_get (D := (dC, dI)) (ci := 2) (v := .int (nI nr)) (C := RX2) (T := TX2) (N := 8) hx hb hts inX2_empty_X2 hown hK hP 0 rfl rfl 4 (by decide) (hts (.fieldLink RX2 29 "QueueHallModel" "rings" "I") (List.mem_of_getElem? (i := 1) (by decide +kernel))) (fun _ h9 => h9) rfl dX2_empty_1 ?_
  refine lv_aload_n hx hb dX2_empty_4 rfl (lv_at hl 0 rfl) ?_
  refine va_get (D := (dC, dI)) (ci := 2) (v := .int (nI nh)) (C := RX2) (T := TX2) (N := 8) hx hb hts inX2_empty_X2 hown hK hP 0 rfl rfl 3 (by decide) (hts (.fieldLink RX2 26 "QueueHallModel" "halls" "I") (List.mem_of_getElem? (i := 2) (by decide +kernel))) (fun _ h9 => h9) rfl dX2_empty_5 ?_
  refine lv_iadd hx hb dX2_empty_8 ?_
  refine q_top (y := nI (nr + nh)) (nI_add nr nh) ?_
  refine lv_sipush (v := 2000) hx hb dX2_empty_9 (by decide) ?_
  refine lv_icmp_le (tgt := 18) hx hb dX2_empty_12 (by decide) (fun c_1 => ?_) (fun c_0 => absurd (show (nI (nr + nh)) ≤ (2000 : Int32) from (by simp (disch := omega) only [ti_lt, ti_le, ti_eq, ti_0, ti_1, ti_2, ti_m1, ti_100, ti_2000, nI_toInt] <;> omega)) c_0)
  have k_1 : (nr + nh) ≤ 2000 := by
    simp (disch := omega) only [ti_lt, ti_le, ti_eq, ti_0, ti_1, ti_2, ti_m1, ti_100, ti_2000, nI_toInt] at c_1
    omega
  refine lv_iconst (v := nI 0) hx hb dX2_empty_18 (by decide) ?_
  refine lv_istore_n (lv' := [(1, .int (nI 0)), (0, .ref m0)]) hx hb dX2_empty_19 rfl hl (by decide) rfl (fun ls hl => ?_)
  refine lp_empty m0 c1 c2 c3 nh nr nk cA eh gh er gr ek gk fi me hn ha1 ha2 ha3 hF hx hb hml hts hown hK hA (fun a hv H locs hP hD hS ls hl => ?_) (nh + 1) 0 er (by omega) (by omega) (qEm_0 ha2) _ _ hP hD hS ls (lv_sub hl [1, 0] rfl)
  refine lv_aload_n hx hb dX2_empty_51 rfl (lv_at hl 0 rfl) ?_
  refine lv_dup hx hb dX2_empty_52 rfl ?_
  refine va_get (D := (dC, dI)) (ci := 2) (v := .int (nI nr)) (C := RX2) (T := TX2) (N := 8) hx hb hts inX2_empty_X2 hown hK hP 0 rfl rfl 4 (by decide) (hts (.fieldLink RX2 29 "QueueHallModel" "rings" "I") (List.mem_of_getElem? (i := 1) (by decide +kernel))) (fun _ h9 => h9) rfl dX2_empty_53 ?_
  refine lv_aload_n hx hb dX2_empty_56 rfl (lv_at hl 0 rfl) ?_
  refine va_get (D := (dC, dI)) (ci := 2) (v := .int (nI nh)) (C := RX2) (T := TX2) (N := 8) hx hb hts inX2_empty_X2 hown hK hP 0 rfl rfl 3 (by decide) (hts (.fieldLink RX2 26 "QueueHallModel" "halls" "I") (List.mem_of_getElem? (i := 2) (by decide +kernel))) (fun _ h9 => h9) rfl dX2_empty_57 ?_
  refine lv_iadd hx hb dX2_empty_60 ?_
  refine q_top (y := nI (nr + nh)) (nI_add nr nh) ?_
  refine va_put (D := (dC, dI)) (ci := 2) (v := .int (nI (nr + nh))) (ty := .int) (C := RX2) (T := TX2) (N := 8) hx hb hts inX2_empty_X2 tyX2 tyX2_ok nmX2 hown hK hP hD hS 0 rfl rfl 4 (by decide) (hts (.fieldLink RX2 29 "QueueHallModel" "rings" "I") (List.mem_of_getElem? (i := 1) (by decide +kernel))) (fun _ h9 => h9) rfl (by decide +kernel) rfl rfl (Nat.le_of_ble_eq_true rfl) dX2_empty_61 (fun H locs hP hD hS => ?_)
  have hP : va_P (dC, dI) vwCl [(m0, .inr (2, [.ref c1, .ref c2, .ref c3, .int (nI nh), .int (nI (nr + nh)), .int (nI nk), .int fi, .int me])), (c1, .inl (cA, 2000, .inl eh)), (c2, .inl (cA, 2000, .inl a)), (c3, .inl (cA, 2000, .inl ek))] H := hP
  have hD : va_D A [(m0, .inr (2, [.ref c1, .ref c2, .ref c3, .int (nI nh), .int (nI (nr + nh)), .int (nI nk), .int fi, .int me])), (c1, .inl (cA, 2000, .inl eh)), (c2, .inl (cA, 2000, .inl a)), (c3, .inl (cA, 2000, .inl ek))] := hD
  refine lv_aload_n hx hb dX2_empty_64 rfl (lv_at hl 0 rfl) ?_
  refine lv_iconst (v := nI 0) hx hb dX2_empty_65 (by decide) ?_
  refine va_put (D := (dC, dI)) (ci := 2) (v := .int (nI 0)) (ty := .int) (C := RX2) (T := TX2) (N := 8) hx hb hts inX2_empty_X2 tyX2 tyX2_ok nmX2 hown hK hP hD hS 0 rfl rfl 3 (by decide) (hts (.fieldLink RX2 26 "QueueHallModel" "halls" "I") (List.mem_of_getElem? (i := 2) (by decide +kernel))) (fun _ h9 => h9) rfl (by decide +kernel) rfl rfl (Nat.le_of_ble_eq_true rfl) dX2_empty_66 (fun H locs hP hD hS => ?_)
  have hP : va_P (dC, dI) vwCl [(m0, .inr (2, [.ref c1, .ref c2, .ref c3, .int (nI 0), .int (nI (nr + nh)), .int (nI nk), .int fi, .int me])), (c1, .inl (cA, 2000, .inl eh)), (c2, .inl (cA, 2000, .inl a)), (c3, .inl (cA, 2000, .inl ek))] H := hP
  have hD : va_D A [(m0, .inr (2, [.ref c1, .ref c2, .ref c3, .int (nI 0), .int (nI (nr + nh)), .int (nI nk), .int fi, .int me])), (c1, .inl (cA, 2000, .inl eh)), (c2, .inl (cA, 2000, .inl a)), (c3, .inl (cA, 2000, .inl ek))] := hD
  refine lv_aload_n hx hb dX2_empty_69 rfl (lv_at hl 0 rfl) ?_
  refine va_get (D := (dC, dI)) (ci := 2) (v := .int (nI (nr + nh))) (C := RX2) (T := TX2) (N := 8) hx hb hts inX2_empty_X2 hown hK hP 0 rfl rfl 4 (by decide) (hts (.fieldLink RX2 29 "QueueHallModel" "rings" "I") (List.mem_of_getElem? (i := 1) (by decide +kernel))) (fun _ h9 => h9) rfl dX2_empty_70 ?_
  exact W.iret (v := nI (nr + nh)) hx hb hr (fun t ht hW => ⟨⟨nI (nr + nh), ((gh, 0), (qCat gr nr gh nh, nr + nh), (gk, nk), fi, me), rfl, rfl, eh, a, ek, qAg_0, hv, ha3, by rw [ht]; exact hP, va_K.moved hW.alike hK, hD⟩, hS.F ht⟩) hS.2.2 dX2_empty_73

set_option maxHeartbeats 4000000 in
set_option maxRecDepth 100000 in
theorem lp_hand1 {p : Program} {l : Launch} {e : Env} {s : State} {m : MethodId} {args : Array Value} {below : List Frame} {meth : Method} {c : Code} {Q : State → Prop} {dC : Nat → ClassId} {dI : Nat → Nat → Nat} {A : Nat → Prop} (m0 c1 c2 c3 nh nr nk : Nat) (cA : ClassId) (eh gh er gr ek gk : Nat → Int32) (fi me : Int32) (hn : nh + nr + nk < 2000) (ha1 : qAg nh eh gh) (ha2 : qAg nr er gr) (ha3 : qAg nk ek gk) (hF : qFok fi me nk) (hx : p.tables.exec = Jvm.exec) (hb : c.code = cX2_hand) (hml : c.maxLocals = 2) (hts : ∀ w ∈ wsX2_hand, w.before args s = true) (hown : s.vm.findClass RX2 = some m.cls) (hK : va_K (dC, dI) vwCl [(cA, .int)] s) (hA : ∀ q : Nat, s.heap.size ≤ q → A q)
    (E0 : ∀ (a : Nat → Int32), (qHd a gr 0 nr nk) → ∀ (H : Heap) (locs : List Loc), va_P (dC, dI) vwCl [(m0, .inr (2, [.ref c1, .ref c2, .ref c3, .int (nI nh), .int (nI nr), .int (nI nk), .int fi, .int me])), (c1, .inl (cA, 2000, .inl eh)), (c2, .inl (cA, 2000, .inl a)), (c3, .inl (cA, 2000, .inl ek))] H → va_D A [(m0, .inr (2, [.ref c1, .ref c2, .ref c3, .int (nI nh), .int (nI nr), .int (nI nk), .int fi, .int me])), (c1, .inl (cA, 2000, .inl eh)), (c2, .inl (cA, 2000, .inl a)), (c3, .inl (cA, 2000, .inl ek))] → va_S A s.heap H locs → ∀ ls : Array Slot, lv_has ls 2 [(0, .ref m0)] → W p l e (headSpec wsX2_hand ({ frames := 1, cells := 0, slots := 0, locals := 25 })).room s m args below meth c H locs 0 0 Q (F0 m 63 ls [])) :
    ∀ (fu : Nat) (b : Nat) (x : Int32) (a : Nat → Int32), (b + 1 ≤ fu) → (x = nI b - 1) → (b ≤ nr) → (qHd a gr b nr nk) → ∀ (H : Heap) (locs : List Loc), va_P (dC, dI) vwCl [(m0, .inr (2, [.ref c1, .ref c2, .ref c3, .int (nI nh), .int (nI nr), .int (nI nk), .int fi, .int me])), (c1, .inl (cA, 2000, .inl eh)), (c2, .inl (cA, 2000, .inl a)), (c3, .inl (cA, 2000, .inl ek))] H → va_D A [(m0, .inr (2, [.ref c1, .ref c2, .ref c3, .int (nI nh), .int (nI nr), .int (nI nk), .int fi, .int me])), (c1, .inl (cA, 2000, .inl eh)), (c2, .inl (cA, 2000, .inl a)), (c3, .inl (cA, 2000, .inl ek))] → va_S A s.heap H locs → ∀ ls : Array Slot, lv_has ls 2 [(0, .ref m0), (1, .int x)] → W p l e (headSpec wsX2_hand ({ frames := 1, cells := 0, slots := 0, locals := 25 })).room s m args below meth c H locs 0 0 Q (F0 m 36 ls []) := by
  intro fu
  induction fu with
  | zero =>
    intro b x a hfu hx0 hi hv
    exact absurd hfu (by omega)
  | succ fu ih =>
    intro b x a hfu hx0 hi hv H locs hP hD hS ls hl
    rcases b with _ | d
    · obtain rfl : x = -1 := hx0.trans q_0m1
      refine lv_iload_n hx hb dX2_hand_36 rfl (lv_at hl 1 rfl) ?_
      refine lv_if_lt (tgt := 63) hx hb dX2_hand_37 (by decide) (fun c_1 => ?_) (fun c_0 => absurd (show (-1 : Int32) < (0 : Int32) from (by decide)) c_0)
      exact E0 a hv _ _ hP hD hS ls (lv_sub hl [0] rfl)
    · obtain rfl : x = nI d := hx0.trans (nI_pred d)
      refine lv_iload_n hx hb dX2_hand_36 rfl (lv_at hl 1 rfl) ?_
      refine lv_if_lt (tgt := 63) hx hb dX2_hand_37 (by decide) (fun c_0 => absurd c_0 (show ¬ (nI d) < (0 : Int32) from (by simp (disch := omega) only [ti_lt, ti_le, ti_eq, ti_0, ti_1, ti_2, ti_m1, ti_100, ti_2000, nI_toInt] <;> omega))) (fun c_2 => ?_)
      have k_2 : d ≥ 0 := by
        simp (disch := omega) only [ti_lt, ti_le, ti_eq, ti_0, ti_1, ti_2, ti_m1, ti_100, ti_2000, nI_toInt] at c_2
        omega
      refine lv_aload_n hx hb dX2_hand_40 rfl (lv_at hl 0 rfl) ?_
      refine va_get (D := (dC, dI)) (ci := 2) (v := .ref c2) (C := RX2) (T := TX2) (N := 8) hx hb hts inX2_hand_X2 hown hK hP 0 rfl rfl 1 (by decide) (hts (.fieldLink RX2 13 "QueueHallModel" "ring" "[I") (List.mem_of_getElem? (i := 10) (by decide +kernel))) (fun _ h9 => h9) rfl dX2_hand_41 ?_
      refine lv_iload_n hx hb dX2_hand_44 rfl (lv_at hl 1 rfl) ?_
      refine lv_aload_n hx hb dX2_hand_45 rfl (lv_at hl 0 rfl) ?_
      refine va_get (D := (dC, dI)) (ci := 2) (v := .int (nI nk)) (C := RX2) (T := TX2) (N := 8) hx hb hts inX2_hand_X2 hown hK hP 0 rfl rfl 5 (by decide) (hts (.fieldLink RX2 32 "QueueHallModel" "chains" "I") (List.mem_of_getElem? (i := 2) (by decide +kernel))) (fun _ h9 => h9) rfl dX2_hand_46 ?_
      refine lv_iadd hx hb dX2_hand_49 ?_
      refine q_top (y := nI (d + nk)) (nI_add d nk) ?_
      refine lv_aload_n hx hb dX2_hand_50 rfl (lv_at hl 0 rfl) ?_
      refine va_get (D := (dC, dI)) (ci := 2) (v := .ref c2) (C := RX2) (T := TX2) (N := 8) hx hb hts inX2_hand_X2 hown hK hP 0 rfl rfl 1 (by decide) (hts (.fieldLink RX2 13 "QueueHallModel" "ring" "[I") (List.mem_of_getElem? (i := 10) (by decide +kernel))) (fun _ h9 => h9) rfl dX2_hand_51 ?_
      refine lv_iload_n hx hb dX2_hand_54 rfl (lv_at hl 1 rfl) ?_
      refine q_iald (k := d) hx hb hK hP 2 0 rfl rfl (by omega) (by omega) dX2_hand_55 ?_
      refine q_iast (k := d + nk) hx hb hK hP hD hS 2 0 rfl rfl (by omega) (by omega) dX2_hand_56 (fun H locs hP hD hS => ?_)
      have hP : va_P (dC, dI) vwCl [(m0, .inr (2, [.ref c1, .ref c2, .ref c3, .int (nI nh), .int (nI nr), .int (nI nk), .int fi, .int me])), (c1, .inl (cA, 2000, .inl eh)), (c2, .inl (cA, 2000, .inl (upd a (d + nk) (a d)))), (c3, .inl (cA, 2000, .inl ek))] H := hP
      have hD : va_D A [(m0, .inr (2, [.ref c1, .ref c2, .ref c3, .int (nI nh), .int (nI nr), .int (nI nk), .int fi, .int me])), (c1, .inl (cA, 2000, .inl eh)), (c2, .inl (cA, 2000, .inl (upd a (d + nk) (a d)))), (c3, .inl (cA, 2000, .inl ek))] := hD
      refine lv_iinc (v := nI d - 1) (lv' := [(1, .int (nI d - 1)), (0, .ref m0)]) hx hb dX2_hand_57 hl (k := 1) rfl (q_dec (nI d)) (by decide) rfl (fun ls hl => ?_)
      refine lv_goto (tgt := 36) hx hb dX2_hand_60 (by decide) ?_
      exact ih d (nI d - 1) (upd a (d + nk) (a d)) (by omega) rfl (by omega) (qHd_s hv) _ _ hP hD hS ls (lv_sub hl [1, 0] rfl)

set_option maxHeartbeats 4000000 in
set_option maxRecDepth 100000 in
theorem lp_hand2 {p : Program} {l : Launch} {e : Env} {s : State} {m : MethodId} {args : Array Value} {below : List Frame} {meth : Method} {c : Code} {Q : State → Prop} {dC : Nat → ClassId} {dI : Nat → Nat → Nat} {A : Nat → Prop} (m0 c1 c2 c3 nh nr nk : Nat) (cA : ClassId) (eh gh er gr ek gk : Nat → Int32) (fi me : Int32) (hn : nh + nr + nk < 2000) (ha1 : qAg nh eh gh) (ha2 : qAg nr er gr) (ha3 : qAg nk ek gk) (hF : qFok fi me nk) (hx : p.tables.exec = Jvm.exec) (hb : c.code = cX2_hand) (hml : c.maxLocals = 2) (hts : ∀ w ∈ wsX2_hand, w.before args s = true) (hown : s.vm.findClass RX2 = some m.cls) (hK : va_K (dC, dI) vwCl [(cA, .int)] s) (hA : ∀ q : Nat, s.heap.size ≤ q → A q)
    (E0 : ∀ (a : Nat → Int32), (qHc a gr gk nk nr nk) → ∀ (H : Heap) (locs : List Loc), va_P (dC, dI) vwCl [(m0, .inr (2, [.ref c1, .ref c2, .ref c3, .int (nI nh), .int (nI nr), .int (nI nk), .int fi, .int me])), (c1, .inl (cA, 2000, .inl eh)), (c2, .inl (cA, 2000, .inl a)), (c3, .inl (cA, 2000, .inl ek))] H → va_D A [(m0, .inr (2, [.ref c1, .ref c2, .ref c3, .int (nI nh), .int (nI nr), .int (nI nk), .int fi, .int me])), (c1, .inl (cA, 2000, .inl eh)), (c2, .inl (cA, 2000, .inl a)), (c3, .inl (cA, 2000, .inl ek))] → va_S A s.heap H locs → ∀ ls : Array Slot, lv_has ls 2 [(0, .ref m0)] → W p l e (headSpec wsX2_hand ({ frames := 1, cells := 0, slots := 0, locals := 25 })).room s m args below meth c H locs 0 0 Q (F0 m 91 ls [])) :
    ∀ (fu : Nat) (i : Nat) (a : Nat → Int32), (nk + 1 ≤ i + fu) → (i ≤ nk) → (qHc a gr gk i nr nk) → ∀ (H : Heap) (locs : List Loc), va_P (dC, dI) vwCl [(m0, .inr (2, [.ref c1, .ref c2, .ref c3, .int (nI nh), .int (nI nr), .int (nI nk), .int fi, .int me])), (c1, .inl (cA, 2000, .inl eh)), (c2, .inl (cA, 2000, .inl a)), (c3, .inl (cA, 2000, .inl ek))] H → va_D A [(m0, .inr (2, [.ref c1, .ref c2, .ref c3, .int (nI nh), .int (nI nr), .int (nI nk), .int fi, .int me])), (c1, .inl (cA, 2000, .inl eh)), (c2, .inl (cA, 2000, .inl a)), (c3, .inl (cA, 2000, .inl ek))] → va_S A s.heap H locs → ∀ ls : Array Slot, lv_has ls 2 [(0, .ref m0), (1, .int (nI i))] → W p l e (headSpec wsX2_hand ({ frames := 1, cells := 0, slots := 0, locals := 25 })).room s m args below meth c H locs 0 0 Q (F0 m 65 ls []) := by
  intro fu
  induction fu with
  | zero =>
    intro i a hfu hi hv
    exact absurd hfu (by omega)
  | succ fu ih =>
    intro i a hfu hi hv H locs hP hD hS ls hl
    refine lv_iload_n hx hb dX2_hand_65 rfl (lv_at hl 1 rfl) ?_
    refine lv_aload_n hx hb dX2_hand_66 rfl (lv_at hl 0 rfl) ?_
    refine va_get (D := (dC, dI)) (ci := 2) (v := .int (nI nk)) (C := RX2) (T := TX2) (N := 8) hx hb hts inX2_hand_X2 hown hK hP 0 rfl rfl 5 (by decide) (hts (.fieldLink RX2 32 "QueueHallModel" "chains" "I") (List.mem_of_getElem? (i := 2) (by decide +kernel))) (fun _ h9 => h9) rfl dX2_hand_67 ?_
    refine lv_icmp_ge (tgt := 91) hx hb dX2_hand_70 (by decide) (fun c_1 => ?_) (fun c_1 => ?_)
    · have k_1 : i ≥ nk := by
        simp (disch := omega) only [ti_lt, ti_le, ti_eq, ti_0, ti_1, ti_2, ti_m1, ti_100, ti_2000, nI_toInt] at c_1
        omega
      exact E0 a (by rw [show qHc a gr gk nk nr nk = qHc a gr gk i nr nk by rw [show i = nk by omega]]; exact hv) _ _ hP hD hS ls (lv_sub hl [0] rfl)
    · have k_1 : i < nk := by
        simp (disch := omega) only [ti_lt, ti_le, ti_eq, ti_0, ti_1, ti_2, ti_m1, ti_100, ti_2000, nI_toInt] at c_1
        omega
      refine lv_aload_n hx hb dX2_hand_73 rfl (lv_at hl 0 rfl) ?_
      refine va_get (D := (dC, dI)) (ci := 2) (v := .ref c2) (C := RX2) (T := TX2) (N := 8) hx hb hts inX2_hand_X2 hown hK hP 0 rfl rfl 1 (by decide) (hts (.fieldLink RX2 13 "QueueHallModel" "ring" "[I") (List.mem_of_getElem? (i := 10) (by decide +kernel))) (fun _ h9 => h9) rfl dX2_hand_74 ?_
      refine lv_iload_n hx hb dX2_hand_77 rfl (lv_at hl 1 rfl) ?_
      refine lv_aload_n hx hb dX2_hand_78 rfl (lv_at hl 0 rfl) ?_
      refine va_get (D := (dC, dI)) (ci := 2) (v := .ref c3) (C := RX2) (T := TX2) (N := 8) hx hb hts inX2_hand_X2 hown hK hP 0 rfl rfl 2 (by decide) (hts (.fieldLink RX2 16 "QueueHallModel" "chain" "[I") (List.mem_of_getElem? (i := 11) (by decide +kernel))) (fun _ h9 => h9) rfl dX2_hand_79 ?_
      refine lv_iload_n hx hb dX2_hand_82 rfl (lv_at hl 1 rfl) ?_
      refine q_iald (k := i) hx hb hK hP 3 0 rfl rfl (by omega) (by omega) dX2_hand_83 ?_
      refine q_iast (k := i) hx hb hK hP hD hS 2 0 rfl rfl (by omega) (by omega) dX2_hand_84 (fun H locs hP hD hS => ?_)
      have hP : va_P (dC, dI) vwCl [(m0, .inr (2, [.ref c1, .ref c2, .ref c3, .int (nI nh), .int (nI nr), .int (nI nk), .int fi, .int me])), (c1, .inl (cA, 2000, .inl eh)), (c2, .inl (cA, 2000, .inl (upd a i (ek i)))), (c3, .inl (cA, 2000, .inl ek))] H := hP
      have hD : va_D A [(m0, .inr (2, [.ref c1, .ref c2, .ref c3, .int (nI nh), .int (nI nr), .int (nI nk), .int fi, .int me])), (c1, .inl (cA, 2000, .inl eh)), (c2, .inl (cA, 2000, .inl (upd a i (ek i)))), (c3, .inl (cA, 2000, .inl ek))] := hD
      refine lv_iinc (v := nI (i + 1)) (lv' := [(1, .int (nI (i + 1))), (0, .ref m0)]) hx hb dX2_hand_85 hl (k := 1) rfl (nI_1 i) (by decide) rfl (fun ls hl => ?_)
      refine lv_goto (tgt := 65) hx hb dX2_hand_88 (by decide) ?_
      exact ih (i + 1) (upd a i (ek i)) (by omega) (by omega) (qHc_s hv ha3 (by omega)) _ _ hP hD hS ls (lv_sub hl [1, 0] rfl)

set_option maxHeartbeats 4000000 in
set_option maxRecDepth 100000 in
theorem c_Mod_hand (l : Launch) (dC : Nat → ClassId) (dI : Nat → Nat → Nat) (sz : Nat) (m0 c1 c2 c3 nh nr nk : Nat) (cA : ClassId) (eh gh er gr ek gk : Nat → Int32) (fi me : Int32) (hn : nh + nr + nk < 2000) (ha1 : qAg nh eh gh) (ha2 : qAg nr er gr) (ha3 : qAg nk ek gk) (hF : qFok fi me nk) : Met l yX2_hand wsX2_hand ({ frames := 1, cells := 0, slots := 0, locals := 25 }) (va_Pc [.ref m0] (fun U => U.heap.size = sz ∧ va_P (dC, dI) vwCl [(m0, .inr (2, [.ref c1, .ref c2, .ref c3, .int (nI nh), .int (nI nr), .int (nI nk), .int fi, .int me])), (c1, .inl (cA, 2000, .inl eh)), (c2, .inl (cA, 2000, .inl er)), (c3, .inl (cA, 2000, .inl ek))] U.heap ∧ va_K (dC, dI) vwCl [(cA, .int)] U ∧ va_D (fun _ => True) [(m0, .inr (2, [.ref c1, .ref c2, .ref c3, .int (nI nh), .int (nI nr), .int (nI nk), .int fi, .int me])), (c1, .inl (cA, 2000, .inl eh)), (c2, .inl (cA, 2000, .inl er)), (c3, .inl (cA, 2000, .inl ek))])) (va_Qi (fun (r : Int32) (u : qS) => (r, u) = qHand ((gh, nh), (gr, nr), (gk, nk), fi, me)) (at_M dC dI (va_A [(m0, .inr (2, [.ref c1, .ref c2, .ref c3, .int (nI nh), .int (nI nr), .int (nI nk), .int fi, .int me])), (c1, .inl (cA, 2000, .inl eh)), (c2, .inl (cA, 2000, .inl er)), (c3, .inl (cA, 2000, .inl ek))] sz) m0 c1 c2 c3 cA) (va_A [(m0, .inr (2, [.ref c1, .ref c2, .ref c3, .int (nI nh), .int (nI nr), .int (nI nk), .int fi, .int me])), (c1, .inl (cA, 2000, .inl eh)), (c2, .inl (cA, 2000, .inl er)), (c3, .inl (cA, 2000, .inl ek))] sz)) 0 0 (va_A [(m0, .inr (2, [.ref c1, .ref c2, .ref c3, .int (nI nh), .int (nI nr), .int (nI nk), .int fi, .int me])), (c1, .inl (cA, 2000, .inl eh)), (c2, .inl (cA, 2000, .inl er)), (c3, .inl (cA, 2000, .inl ek))] sz) := by
  refine Met.ofW (cc := cX2_hand) (maxL := 2) (ret := (some .int)) (by decide +kernel) rfl ?_
  intro p e s m args below meth c s₁ B hml hv
  obtain ⟨rfl, hsz, hP, hK, hD0⟩ := hv
  have hx := B.exec
  have hb := B.bytes
  have hr := B.returns
  have hts := atoms_spec (ws := wsX2_hand) B.pre
  have hown : s.vm.findClass RX2 = some m.cls := findClass_of_methodNamed B.named
  have hlocks := B.notSynchronized
  subst hsz
  have hD := hD0.self (sz := s.heap.size)
  generalize hAe : va_A [(m0, .inr (2, [.ref c1, .ref c2, .ref c3, .int (nI nh), .int (nI nr), .int (nI nk), .int fi, .int me])), (c1, .inl (cA, 2000, .inl eh)), (c2, .inl (cA, 2000, .inl er)), (c3, .inl (cA, 2000, .inl ek))] s.heap.size = A at hD ⊢
  have hA : ∀ q : Nat, s.heap.size ≤ q → A q := fun q h => by rw [← hAe]; exact Or.inr h
  have hS : va_S A s.heap s.heap [] := va_S.rf
  have hl := lv_entry ([.ref m0]) (n := 2) (Nat.le_of_ble_eq_true rfl)
  rw [lg_entry_eq]
  generalize (lg_sl ([.ref m0]) ++ List.replicate (2 - (lg_sl ([.ref m0])).length) Slot.unset).toArray = ls at hl ⊢
  have hl : lv_has ls 2 [(0, .ref m0)] := hl
  refine lv_aload_n hx hb dX2_hand_0 rfl (lv_at hl 0 rfl) ?_
  refine va_get (D := (dC, dI)) (ci := 2) (v := .int (nI nr)) (C := RX2) (T := TX2) (N := 8) hx hb hts inX2_hand_X2 hown hK hP 0 rfl rfl 4 (by decide) (hts (.fieldLink RX2 29 "QueueHallModel" "rings" "I") (List.mem_of_getElem? (i := 1) (by decide +kernel))) (fun _ h9 => h9) rfl dX2_hand_1 ?_
  refine lv_aload_n hx hb dX2_hand_4 rfl (lv_at hl 0 rfl) ?_
  refine va_get (D := (dC, dI)) (ci := 2) (v := .int (nI nk)) (C := RX2) (T := TX2) (N := 8) hx hb hts inX2_hand_X2 hown hK hP 0 rfl rfl 5 (by decide) (hts (.fieldLink RX2 32 "QueueHallModel" "chains" "I") (List.mem_of_getElem? (i := 2) (by decide +kernel))) (fun _ h9 => h9) rfl dX2_hand_5 ?_
  refine lv_iadd hx hb dX2_hand_8 ?_
  refine q_top (y := nI (nr + nk)) (nI_add nr nk) ?_
  refine lv_sipush (v := 2000) hx hb dX2_hand_9 (by decide) ?_
  refine lv_icmp_le (tgt := 18) hx hb dX2_hand_12 (by decide) (fun c_1 => ?_) (fun c_0 => absurd (show (nI (nr + nk)) ≤ (2000 : Int32) from (by simp (disch := omega) only [ti_lt, ti_le, ti_eq, ti_0, ti_1, ti_2, ti_m1, ti_100, ti_2000, nI_toInt] <;> omega)) c_0)
  have k_1 : (nr + nk) ≤ 2000 := by
    simp (disch := omega) only [ti_lt, ti_le, ti_eq, ti_0, ti_1, ti_2, ti_m1, ti_100, ti_2000, nI_toInt] at c_1
    omega
  refine lv_aload_n hx hb dX2_hand_18 rfl (lv_at hl 0 rfl) ?_
  refine va_get (D := (dC, dI)) (ci := 2) (v := .int (nI nk)) (C := RX2) (T := TX2) (N := 8) hx hb hts inX2_hand_X2 hown hK hP 0 rfl rfl 5 (by decide) (hts (.fieldLink RX2 32 "QueueHallModel" "chains" "I") (List.mem_of_getElem? (i := 2) (by decide +kernel))) (fun _ h9 => h9) rfl dX2_hand_19 ?_
  refine lv_if_le (tgt := 29) hx hb dX2_hand_22 (by decide) (fun c_2 => ?_) (fun c_2 => ?_)
  · have k_2 : nk ≤ 0 := by
      simp (disch := omega) only [ti_lt, ti_le, ti_eq, ti_0, ti_1, ti_2, ti_m1, ti_100, ti_2000, nI_toInt] at c_2
      omega
    refine lv_aload_n hx hb dX2_hand_29 rfl (lv_at hl 0 rfl) ?_
    refine va_get (D := (dC, dI)) (ci := 2) (v := .int (nI nr)) (C := RX2) (T := TX2) (N := 8) hx hb hts inX2_hand_X2 hown hK hP 0 rfl rfl 4 (by decide) (hts (.fieldLink RX2 29 "QueueHallModel" "rings" "I") (List.mem_of_getElem? (i := 1) (by decide +kernel))) (fun _ h9 => h9) rfl dX2_hand_30 ?_
    refine lv_iconst (v := 1) hx hb dX2_hand_33 (by decide) ?_
    refine lv_isub hx hb dX2_hand_34 ?_
    refine lv_istore_n (lv' := [(1, .int ((nI nr) - 1)), (0, .ref m0)]) hx hb dX2_hand_35 rfl hl (by decide) rfl (fun ls hl => ?_)
    refine lp_hand1 m0 c1 c2 c3 nh nr nk cA eh gh er gr ek gk fi me hn ha1 ha2 ha3 hF hx hb hml hts hown hK hA (fun a hv H locs hP hD hS ls hl => ?_) (nr + 1) nr (nI nr - 1) er (by omega) rfl (by omega) (qHd_0 ha2) _ _ hP hD hS ls (lv_sub hl [1, 0] rfl)
    refine lv_iconst (v := nI 0) hx hb dX2_hand_63 (by decide) ?_
    refine lv_istore_n (lv' := [(1, .int (nI 0)), (0, .ref m0)]) hx hb dX2_hand_64 rfl hl (by decide) rfl (fun ls hl => ?_)
    refine lp_hand2 m0 c1 c2 c3 nh nr nk cA eh gh er gr ek gk fi me hn ha1 ha2 ha3 hF hx hb hml hts hown hK hA (fun a hv H locs hP hD hS ls hl => ?_) (nk + 1) 0 a (by omega) (by omega) (qHc_0 hv) _ _ hP hD hS ls (lv_sub hl [1, 0] rfl)
    refine lv_aload_n hx hb dX2_hand_91 rfl (lv_at hl 0 rfl) ?_
    refine lv_dup hx hb dX2_hand_92 rfl ?_
    refine va_get (D := (dC, dI)) (ci := 2) (v := .int (nI nr)) (C := RX2) (T := TX2) (N := 8) hx hb hts inX2_hand_X2 hown hK hP 0 rfl rfl 4 (by decide) (hts (.fieldLink RX2 29 "QueueHallModel" "rings" "I") (List.mem_of_getElem? (i := 1) (by decide +kernel))) (fun _ h9 => h9) rfl dX2_hand_93 ?_
    refine lv_aload_n hx hb dX2_hand_96 rfl (lv_at hl 0 rfl) ?_
    refine va_get (D := (dC, dI)) (ci := 2) (v := .int (nI nk)) (C := RX2) (T := TX2) (N := 8) hx hb hts inX2_hand_X2 hown hK hP 0 rfl rfl 5 (by decide) (hts (.fieldLink RX2 32 "QueueHallModel" "chains" "I") (List.mem_of_getElem? (i := 2) (by decide +kernel))) (fun _ h9 => h9) rfl dX2_hand_97 ?_
    refine lv_iadd hx hb dX2_hand_100 ?_
    refine q_top (y := nI (nr + nk)) (nI_add nr nk) ?_
    refine va_put (D := (dC, dI)) (ci := 2) (v := .int (nI (nr + nk))) (ty := .int) (C := RX2) (T := TX2) (N := 8) hx hb hts inX2_hand_X2 tyX2 tyX2_ok nmX2 hown hK hP hD hS 0 rfl rfl 4 (by decide) (hts (.fieldLink RX2 29 "QueueHallModel" "rings" "I") (List.mem_of_getElem? (i := 1) (by decide +kernel))) (fun _ h9 => h9) rfl (by decide +kernel) rfl rfl (Nat.le_of_ble_eq_true rfl) dX2_hand_101 (fun H locs hP hD hS => ?_)
    have hP : va_P (dC, dI) vwCl [(m0, .inr (2, [.ref c1, .ref c2, .ref c3, .int (nI nh), .int (nI (nr + nk)), .int (nI nk), .int fi, .int me])), (c1, .inl (cA, 2000, .inl eh)), (c2, .inl (cA, 2000, .inl a)), (c3, .inl (cA, 2000, .inl ek))] H := hP
    have hD : va_D A [(m0, .inr (2, [.ref c1, .ref c2, .ref c3, .int (nI nh), .int (nI (nr + nk)), .int (nI nk), .int fi, .int me])), (c1, .inl (cA, 2000, .inl eh)), (c2, .inl (cA, 2000, .inl a)), (c3, .inl (cA, 2000, .inl ek))] := hD
    refine lv_aload_n hx hb dX2_hand_104 rfl (lv_at hl 0 rfl) ?_
    refine lv_iconst (v := nI 0) hx hb dX2_hand_105 (by decide) ?_
    refine va_put (D := (dC, dI)) (ci := 2) (v := .int (nI 0)) (ty := .int) (C := RX2) (T := TX2) (N := 8) hx hb hts inX2_hand_X2 tyX2 tyX2_ok nmX2 hown hK hP hD hS 0 rfl rfl 5 (by decide) (hts (.fieldLink RX2 32 "QueueHallModel" "chains" "I") (List.mem_of_getElem? (i := 2) (by decide +kernel))) (fun _ h9 => h9) rfl (by decide +kernel) rfl rfl (Nat.le_of_ble_eq_true rfl) dX2_hand_106 (fun H locs hP hD hS => ?_)
    have hP : va_P (dC, dI) vwCl [(m0, .inr (2, [.ref c1, .ref c2, .ref c3, .int (nI nh), .int (nI (nr + nk)), .int (nI 0), .int fi, .int me])), (c1, .inl (cA, 2000, .inl eh)), (c2, .inl (cA, 2000, .inl a)), (c3, .inl (cA, 2000, .inl ek))] H := hP
    have hD : va_D A [(m0, .inr (2, [.ref c1, .ref c2, .ref c3, .int (nI nh), .int (nI (nr + nk)), .int (nI 0), .int fi, .int me])), (c1, .inl (cA, 2000, .inl eh)), (c2, .inl (cA, 2000, .inl a)), (c3, .inl (cA, 2000, .inl ek))] := hD
    refine lv_aload_n hx hb dX2_hand_109 rfl (lv_at hl 0 rfl) ?_
    refine va_get (D := (dC, dI)) (ci := 2) (v := .int (nI (nr + nk))) (C := RX2) (T := TX2) (N := 8) hx hb hts inX2_hand_X2 hown hK hP 0 rfl rfl 4 (by decide) (hts (.fieldLink RX2 29 "QueueHallModel" "rings" "I") (List.mem_of_getElem? (i := 1) (by decide +kernel))) (fun _ h9 => h9) rfl dX2_hand_110 ?_
    exact W.iret (v := nI (nr + nk)) hx hb hr (fun t ht hW => ⟨⟨nI (nr + nk), ((gh, nh), (qCat gr 0 gk nk, nr + nk), (gk, 0), fi, me), rfl, (by simp only [qHand, if_neg (show ¬ 0 < nk by omega)]), eh, a, ek, ha1, (qHc_e hv), qAg_0, by rw [ht]; exact hP, va_K.moved hW.alike hK, hD⟩, hS.F ht⟩) hS.2.2 dX2_hand_113
  · have k_2 : nk > 0 := by
      simp (disch := omega) only [ti_lt, ti_le, ti_eq, ti_0, ti_1, ti_2, ti_m1, ti_100, ti_2000, nI_toInt] at c_2
      omega
    refine lv_aload_n hx hb dX2_hand_25 rfl (lv_at hl 0 rfl) ?_
    have hPc := hP.sub (ws' := [(m0, .inr (2, [.ref c1, .ref c2, .ref c3, .int (nI nh), .int (nI nr), .int (nI nk), .int fi, .int me]))]) [0] rfl
    have hKc := hK.sub (tys' := []) [] rfl
    have hDc := hD.sub (ws' := [(m0, .inr (2, [.ref c1, .ref c2, .ref c3, .int (nI nh), .int (nI nr), .int (nI nk), .int fi, .int me]))]) [0] (by decide) rfl
    have hFc := va_free (wc := [(m0, .inr (2, [.ref c1, .ref c2, .ref c3, .int (nI nh), .int (nI nr), .int (nI nk), .int fi, .int me]))]) hD hS hA [0] rfl
    refine va_callv (va_runV (As := []) (rest := []) ⟨hx, hb, hml, hown, hts⟩ (c_Mod_lift l dC dI s.heap.size m0 c1 c2 c3 nh nr nk fi me) (cwV 0 hts gX2_hand_X2_lift_v rfl rfl rfl (by decide +kernel) ⟨Nat.le_of_ble_eq_true rfl, Nat.le_of_ble_eq_true rfl⟩) ⟨q_blW, va_recv hKc hPc (ci := 2) (q0 := 0) rfl rfl, fun U hU hW => ⟨rfl, by rw [hU], by rw [hU]; exact hPc, va_K.moved hW.alike hKc, hDc.weaken (fun _ _ _ _ => trivial)⟩⟩ rfl rfl hl.1 rfl (lv_room (Nat.le_of_ble_eq_true rfl)) dX2_hand_26 ⟨Nat.le_of_ble_eq_true rfl, Nat.le_of_ble_eq_true rfl⟩) hS (fun q _ h => hFc q h) hFc (fun u_3 t_3 H1 locs ht hvm hw hB hz1 hk1 hS => ?_)
    subst hw
    obtain ⟨hP1, hK1, hD1⟩ := hB
    rw [ht] at hP1
    obtain ⟨hP, hD⟩ := q_join (wr := [(c1, .inl (cA, 2000, .inl eh)), (c2, .inl (cA, 2000, .inl er)), (c3, .inl (cA, 2000, .inl ek))]) (w1 := [(m0, .inr (2, [.ref c1, .ref c2, .ref c3, .int (nI nh), .int (nI nr), .int (nI nk), .int (-1), .int (-1)]))]) (wz := [(m0, .inr (2, [.ref c1, .ref c2, .ref c3, .int (nI nh), .int (nI nr), .int (nI nk), .int (-1), .int (-1)])), (c1, .inl (cA, 2000, .inl eh)), (c2, .inl (cA, 2000, .inl er)), (c3, .inl (cA, 2000, .inl ek))]) hP hD [0] [1, 2, 3] [3, 0, 1, 2] rfl rfl (by decide) (by decide) hk1 hFc hP1 hD1 rfl rfl (by decide)
    generalize H1 = H at hP hS ⊢
    refine lv_aload_n hx hb dX2_hand_29 rfl (lv_at hl 0 rfl) ?_
    refine va_get (D := (dC, dI)) (ci := 2) (v := .int (nI nr)) (C := RX2) (T := TX2) (N := 8) hx hb hts inX2_hand_X2 hown hK hP 0 rfl rfl 4 (by decide) (hts (.fieldLink RX2 29 "QueueHallModel" "rings" "I") (List.mem_of_getElem? (i := 1) (by decide +kernel))) (fun _ h9 => h9) rfl dX2_hand_30 ?_
    refine lv_iconst (v := 1) hx hb dX2_hand_33 (by decide) ?_
    refine lv_isub hx hb dX2_hand_34 ?_
    refine lv_istore_n (lv' := [(1, .int ((nI nr) - 1)), (0, .ref m0)]) hx hb dX2_hand_35 rfl hl (by decide) rfl (fun ls hl => ?_)
    refine lp_hand1 m0 c1 c2 c3 nh nr nk cA eh gh er gr ek gk (-1) (-1) hn ha1 ha2 ha3 qFok_none hx hb hml hts hown hK hA (fun a hv H locs hP hD hS ls hl => ?_) (nr + 1) nr (nI nr - 1) er (by omega) rfl (by omega) (qHd_0 ha2) _ _ hP hD hS ls (lv_sub hl [1, 0] rfl)
    refine lv_iconst (v := nI 0) hx hb dX2_hand_63 (by decide) ?_
    refine lv_istore_n (lv' := [(1, .int (nI 0)), (0, .ref m0)]) hx hb dX2_hand_64 rfl hl (by decide) rfl (fun ls hl => ?_)
    refine lp_hand2 m0 c1 c2 c3 nh nr nk cA eh gh er gr ek gk (-1) (-1) hn ha1 ha2 ha3 qFok_none hx hb hml hts hown hK hA (fun a hv H locs hP hD hS ls hl => ?_) (nk + 1) 0 a (by omega) (by omega) (qHc_0 hv) _ _ hP hD hS ls (lv_sub hl [1, 0] rfl)
    refine lv_aload_n hx hb dX2_hand_91 rfl (lv_at hl 0 rfl) ?_
    refine lv_dup hx hb dX2_hand_92 rfl ?_
    refine va_get (D := (dC, dI)) (ci := 2) (v := .int (nI nr)) (C := RX2) (T := TX2) (N := 8) hx hb hts inX2_hand_X2 hown hK hP 0 rfl rfl 4 (by decide) (hts (.fieldLink RX2 29 "QueueHallModel" "rings" "I") (List.mem_of_getElem? (i := 1) (by decide +kernel))) (fun _ h9 => h9) rfl dX2_hand_93 ?_
    refine lv_aload_n hx hb dX2_hand_96 rfl (lv_at hl 0 rfl) ?_
    refine va_get (D := (dC, dI)) (ci := 2) (v := .int (nI nk)) (C := RX2) (T := TX2) (N := 8) hx hb hts inX2_hand_X2 hown hK hP 0 rfl rfl 5 (by decide) (hts (.fieldLink RX2 32 "QueueHallModel" "chains" "I") (List.mem_of_getElem? (i := 2) (by decide +kernel))) (fun _ h9 => h9) rfl dX2_hand_97 ?_
    refine lv_iadd hx hb dX2_hand_100 ?_
    refine q_top (y := nI (nr + nk)) (nI_add nr nk) ?_
    refine va_put (D := (dC, dI)) (ci := 2) (v := .int (nI (nr + nk))) (ty := .int) (C := RX2) (T := TX2) (N := 8) hx hb hts inX2_hand_X2 tyX2 tyX2_ok nmX2 hown hK hP hD hS 0 rfl rfl 4 (by decide) (hts (.fieldLink RX2 29 "QueueHallModel" "rings" "I") (List.mem_of_getElem? (i := 1) (by decide +kernel))) (fun _ h9 => h9) rfl (by decide +kernel) rfl rfl (Nat.le_of_ble_eq_true rfl) dX2_hand_101 (fun H locs hP hD hS => ?_)
    have hP : va_P (dC, dI) vwCl [(m0, .inr (2, [.ref c1, .ref c2, .ref c3, .int (nI nh), .int (nI (nr + nk)), .int (nI nk), .int (-1), .int (-1)])), (c1, .inl (cA, 2000, .inl eh)), (c2, .inl (cA, 2000, .inl a)), (c3, .inl (cA, 2000, .inl ek))] H := hP
    have hD : va_D A [(m0, .inr (2, [.ref c1, .ref c2, .ref c3, .int (nI nh), .int (nI (nr + nk)), .int (nI nk), .int (-1), .int (-1)])), (c1, .inl (cA, 2000, .inl eh)), (c2, .inl (cA, 2000, .inl a)), (c3, .inl (cA, 2000, .inl ek))] := hD
    refine lv_aload_n hx hb dX2_hand_104 rfl (lv_at hl 0 rfl) ?_
    refine lv_iconst (v := nI 0) hx hb dX2_hand_105 (by decide) ?_
    refine va_put (D := (dC, dI)) (ci := 2) (v := .int (nI 0)) (ty := .int) (C := RX2) (T := TX2) (N := 8) hx hb hts inX2_hand_X2 tyX2 tyX2_ok nmX2 hown hK hP hD hS 0 rfl rfl 5 (by decide) (hts (.fieldLink RX2 32 "QueueHallModel" "chains" "I") (List.mem_of_getElem? (i := 2) (by decide +kernel))) (fun _ h9 => h9) rfl (by decide +kernel) rfl rfl (Nat.le_of_ble_eq_true rfl) dX2_hand_106 (fun H locs hP hD hS => ?_)
    have hP : va_P (dC, dI) vwCl [(m0, .inr (2, [.ref c1, .ref c2, .ref c3, .int (nI nh), .int (nI (nr + nk)), .int (nI 0), .int (-1), .int (-1)])), (c1, .inl (cA, 2000, .inl eh)), (c2, .inl (cA, 2000, .inl a)), (c3, .inl (cA, 2000, .inl ek))] H := hP
    have hD : va_D A [(m0, .inr (2, [.ref c1, .ref c2, .ref c3, .int (nI nh), .int (nI (nr + nk)), .int (nI 0), .int (-1), .int (-1)])), (c1, .inl (cA, 2000, .inl eh)), (c2, .inl (cA, 2000, .inl a)), (c3, .inl (cA, 2000, .inl ek))] := hD
    refine lv_aload_n hx hb dX2_hand_109 rfl (lv_at hl 0 rfl) ?_
    refine va_get (D := (dC, dI)) (ci := 2) (v := .int (nI (nr + nk))) (C := RX2) (T := TX2) (N := 8) hx hb hts inX2_hand_X2 hown hK hP 0 rfl rfl 4 (by decide) (hts (.fieldLink RX2 29 "QueueHallModel" "rings" "I") (List.mem_of_getElem? (i := 1) (by decide +kernel))) (fun _ h9 => h9) rfl dX2_hand_110 ?_
    exact W.iret (v := nI (nr + nk)) hx hb hr (fun t ht hW => ⟨⟨nI (nr + nk), ((gh, nh), (qCat gr 0 gk nk, nr + nk), (gk, 0), -1, -1), rfl, (by simp only [qHand, if_pos (show 0 < nk by omega)]), eh, a, ek, ha1, (qHc_e hv), qAg_0, by rw [ht]; exact hP, va_K.moved hW.alike hK, hD⟩, hS.F ht⟩) hS.2.2 dX2_hand_113

