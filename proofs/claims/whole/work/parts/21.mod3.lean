set_option maxHeartbeats 4000000 in
set_option maxRecDepth 100000 in
theorem c_Mod_ring (l : Launch) (dC : Nat → ClassId) (dI : Nat → Nat → Nat) (m0 c1 c2 c3 nh nr nk : Nat) (cA : ClassId) (eh gh er gr ek gk : Nat → Int32) (fi me : Int32) (p0 p1 : Int32) (hn : nh + nr + nk < 2000) (ha1 : qAg nh eh gh) (ha2 : qAg nr er gr) (ha3 : qAg nk ek gk) (hF : qFok fi me nk) : Met l yX2_ring wsX2_ring ({ frames := 1, cells := 0, slots := 0, locals := 25 }) (va_Pc [.ref m0, .int p0, .int p1] (fun U => va_P (dC, dI) vwCl [(m0, .inr (2, [.ref c1, .ref c2, .ref c3, .int (nI nh), .int (nI nr), .int (nI nk), .int fi, .int me])), (c1, .inl (cA, 2000, .inl eh)), (c2, .inl (cA, 2000, .inl er)), (c3, .inl (cA, 2000, .inl ek))] U.heap ∧ va_K (dC, dI) vwCl [(cA, .int)] U)) (vp_Sl (fun r => r = (qRing p0 p1 ((gh, nh), (gr, nr), (gk, nk), fi, me)).1)) 0 0 (fun _ => False) := by
  refine Met.ofW (cc := cX2_ring) (maxL := 3) (ret := (some .long)) (by decide +kernel) rfl ?_
  intro p e s m args below meth c s₁ B hml hv
  obtain ⟨rfl, hP, hK⟩ := hv
  have hx := B.exec
  have hb := B.bytes
  have hr := B.returns
  have hts := atoms_spec (ws := wsX2_ring) B.pre
  have hown : s.vm.findClass RX2 = some m.cls := findClass_of_methodNamed B.named
  have hlocks := B.notSynchronized
  have hl := lv_entry ([.ref m0, .int p0, .int p1]) (n := 3) (Nat.le_of_ble_eq_true rfl)
  rw [lg_entry_eq]
  generalize (lg_sl ([.ref m0, .int p0, .int p1]) ++ List.replicate (3 - (lg_sl ([.ref m0, .int p0, .int p1])).length) Slot.unset).toArray = ls at hl ⊢
  have hl : lv_has ls 3 [(0, .ref m0), (1, .int p0), (2, .int p1)] := hl
  rcases qHp_c p0 (n := nr) (by omega) with h | ⟨k, hk, rfl⟩ <;> by_cases hz : p1 = 0
  · refine lv_iload_n hx hb dX2_ring_0 rfl (lv_at hl 1 rfl) ?_
    refine lv_if_lt (tgt := 12) hx hb dX2_ring_1 (by decide) (fun c_1 => ?_) (fun c_1 => ?_)
    · refine lv_ldc2 (v := qNo) hx hb hown (hts (.constantLong RX2 39 (1099511627776)) (List.mem_of_getElem? (i := 2) (by decide +kernel))) dX2_ring_12 ?_
      exact W.lret (v := qNo) hx hb hr (fun t ht hW => ⟨qNo, rfl, (by simp only [qRing, if_pos h]), ht⟩) (fun q h => by cases h) dX2_ring_15
    · refine lv_iload_n hx hb dX2_ring_4 rfl (lv_at hl 1 rfl) ?_
      refine lv_aload_n hx hb dX2_ring_5 rfl (lv_at hl 0 rfl) ?_
      refine va_get (D := (dC, dI)) (ci := 2) (v := .int (nI nr)) (C := RX2) (T := TX2) (N := 8) hx hb hts inX2_ring_X2 hown hK hP 0 rfl rfl 4 (by decide) (hts (.fieldLink RX2 29 "QueueHallModel" "rings" "I") (List.mem_of_getElem? (i := 1) (by decide +kernel))) (fun _ h9 => h9) rfl dX2_ring_6 ?_
      refine lv_icmp_lt (tgt := 16) hx hb dX2_ring_9 (by decide) (fun c_0 => absurd c_0 (show ¬ p0 < (nI nr) from (fun q => by have q3 := qHp_o h c_1; rw [ti_le] at q3; rw [ti_lt] at q; omega))) (fun c_2 => ?_)
      refine lv_ldc2 (v := qNo) hx hb hown (hts (.constantLong RX2 39 (1099511627776)) (List.mem_of_getElem? (i := 2) (by decide +kernel))) dX2_ring_12 ?_
      exact W.lret (v := qNo) hx hb hr (fun t ht hW => ⟨qNo, rfl, (by simp only [qRing, if_pos h]), ht⟩) (fun q h => by cases h) dX2_ring_15
  · refine lv_iload_n hx hb dX2_ring_0 rfl (lv_at hl 1 rfl) ?_
    refine lv_if_lt (tgt := 12) hx hb dX2_ring_1 (by decide) (fun c_3 => ?_) (fun c_3 => ?_)
    · refine lv_ldc2 (v := qNo) hx hb hown (hts (.constantLong RX2 39 (1099511627776)) (List.mem_of_getElem? (i := 2) (by decide +kernel))) dX2_ring_12 ?_
      exact W.lret (v := qNo) hx hb hr (fun t ht hW => ⟨qNo, rfl, (by simp only [qRing, if_pos h]), ht⟩) (fun q h => by cases h) dX2_ring_15
    · refine lv_iload_n hx hb dX2_ring_4 rfl (lv_at hl 1 rfl) ?_
      refine lv_aload_n hx hb dX2_ring_5 rfl (lv_at hl 0 rfl) ?_
      refine va_get (D := (dC, dI)) (ci := 2) (v := .int (nI nr)) (C := RX2) (T := TX2) (N := 8) hx hb hts inX2_ring_X2 hown hK hP 0 rfl rfl 4 (by decide) (hts (.fieldLink RX2 29 "QueueHallModel" "rings" "I") (List.mem_of_getElem? (i := 1) (by decide +kernel))) (fun _ h9 => h9) rfl dX2_ring_6 ?_
      refine lv_icmp_lt (tgt := 16) hx hb dX2_ring_9 (by decide) (fun c_0 => absurd c_0 (show ¬ p0 < (nI nr) from (fun q => by have q3 := qHp_o h c_3; rw [ti_le] at q3; rw [ti_lt] at q; omega))) (fun c_4 => ?_)
      refine lv_ldc2 (v := qNo) hx hb hown (hts (.constantLong RX2 39 (1099511627776)) (List.mem_of_getElem? (i := 2) (by decide +kernel))) dX2_ring_12 ?_
      exact W.lret (v := qNo) hx hb hr (fun t ht hW => ⟨qNo, rfl, (by simp only [qRing, if_pos h]), ht⟩) (fun q h => by cases h) dX2_ring_15
  · refine lv_iload_n hx hb dX2_ring_0 rfl (lv_at hl 1 rfl) ?_
    refine lv_if_lt (tgt := 12) hx hb dX2_ring_1 (by decide) (fun c_0 => absurd c_0 (show ¬ (nI k) < (0 : Int32) from (by simp (disch := omega) only [ti_lt, ti_le, ti_eq, ti_0, ti_1, ti_2, ti_m1, ti_100, ti_2000, nI_toInt] <;> omega))) (fun c_5 => ?_)
    have k_5 : k ≥ 0 := by
      simp (disch := omega) only [ti_lt, ti_le, ti_eq, ti_0, ti_1, ti_2, ti_m1, ti_100, ti_2000, nI_toInt] at c_5
      omega
    refine lv_iload_n hx hb dX2_ring_4 rfl (lv_at hl 1 rfl) ?_
    refine lv_aload_n hx hb dX2_ring_5 rfl (lv_at hl 0 rfl) ?_
    refine va_get (D := (dC, dI)) (ci := 2) (v := .int (nI nr)) (C := RX2) (T := TX2) (N := 8) hx hb hts inX2_ring_X2 hown hK hP 0 rfl rfl 4 (by decide) (hts (.fieldLink RX2 29 "QueueHallModel" "rings" "I") (List.mem_of_getElem? (i := 1) (by decide +kernel))) (fun _ h9 => h9) rfl dX2_ring_6 ?_
    refine lv_icmp_lt (tgt := 16) hx hb dX2_ring_9 (by decide) (fun c_6 => ?_) (fun c_0 => absurd (show (nI k) < (nI nr) from (by simp (disch := omega) only [ti_lt, ti_le, ti_eq, ti_0, ti_1, ti_2, ti_m1, ti_100, ti_2000, nI_toInt] <;> omega)) c_0)
    have k_6 : k < nr := by
      simp (disch := omega) only [ti_lt, ti_le, ti_eq, ti_0, ti_1, ti_2, ti_m1, ti_100, ti_2000, nI_toInt] at c_6
      omega
    refine lv_aload_n hx hb dX2_ring_16 rfl (lv_at hl 0 rfl) ?_
    refine va_get (D := (dC, dI)) (ci := 2) (v := .ref c2) (C := RX2) (T := TX2) (N := 8) hx hb hts inX2_ring_X2 hown hK hP 0 rfl rfl 1 (by decide) (hts (.fieldLink RX2 13 "QueueHallModel" "ring" "[I") (List.mem_of_getElem? (i := 3) (by decide +kernel))) (fun _ h9 => h9) rfl dX2_ring_17 ?_
    refine lv_iload_n hx hb dX2_ring_20 rfl (lv_at hl 2 rfl) ?_
    refine lv_if_eq (tgt := 35) hx hb dX2_ring_21 (by decide) (fun c_7 => ?_) (fun c_0 => absurd (show p1 = (0 : Int32) from hz) c_0)
    refine lv_iload_n hx hb dX2_ring_35 rfl (lv_at hl 1 rfl) ?_
    refine q_iald (k := k) hx hb hK hP 2 0 rfl rfl (by omega) (by omega) dX2_ring_36 ?_
    refine lv_i2l (v := (er k).toInt64) hx hb dX2_ring_37 rfl ?_
    exact W.lret (v := (er k).toInt64) hx hb hr (fun t ht hW => ⟨(er k).toInt64, rfl, (by simp only [qRing, qHp_in hk (show nr < 2 ^ 31 by omega), if_neg q_ne10, nI_clamp (show k < 2 ^ 31 by omega), if_pos hz, ha2 k hk]), ht⟩) (fun q h => by cases h) dX2_ring_38
  · refine lv_iload_n hx hb dX2_ring_0 rfl (lv_at hl 1 rfl) ?_
    refine lv_if_lt (tgt := 12) hx hb dX2_ring_1 (by decide) (fun c_0 => absurd c_0 (show ¬ (nI k) < (0 : Int32) from (by simp (disch := omega) only [ti_lt, ti_le, ti_eq, ti_0, ti_1, ti_2, ti_m1, ti_100, ti_2000, nI_toInt] <;> omega))) (fun c_8 => ?_)
    have k_8 : k ≥ 0 := by
      simp (disch := omega) only [ti_lt, ti_le, ti_eq, ti_0, ti_1, ti_2, ti_m1, ti_100, ti_2000, nI_toInt] at c_8
      omega
    refine lv_iload_n hx hb dX2_ring_4 rfl (lv_at hl 1 rfl) ?_
    refine lv_aload_n hx hb dX2_ring_5 rfl (lv_at hl 0 rfl) ?_
    refine va_get (D := (dC, dI)) (ci := 2) (v := .int (nI nr)) (C := RX2) (T := TX2) (N := 8) hx hb hts inX2_ring_X2 hown hK hP 0 rfl rfl 4 (by decide) (hts (.fieldLink RX2 29 "QueueHallModel" "rings" "I") (List.mem_of_getElem? (i := 1) (by decide +kernel))) (fun _ h9 => h9) rfl dX2_ring_6 ?_
    refine lv_icmp_lt (tgt := 16) hx hb dX2_ring_9 (by decide) (fun c_9 => ?_) (fun c_0 => absurd (show (nI k) < (nI nr) from (by simp (disch := omega) only [ti_lt, ti_le, ti_eq, ti_0, ti_1, ti_2, ti_m1, ti_100, ti_2000, nI_toInt] <;> omega)) c_0)
    have k_9 : k < nr := by
      simp (disch := omega) only [ti_lt, ti_le, ti_eq, ti_0, ti_1, ti_2, ti_m1, ti_100, ti_2000, nI_toInt] at c_9
      omega
    refine lv_aload_n hx hb dX2_ring_16 rfl (lv_at hl 0 rfl) ?_
    refine va_get (D := (dC, dI)) (ci := 2) (v := .ref c2) (C := RX2) (T := TX2) (N := 8) hx hb hts inX2_ring_X2 hown hK hP 0 rfl rfl 1 (by decide) (hts (.fieldLink RX2 13 "QueueHallModel" "ring" "[I") (List.mem_of_getElem? (i := 3) (by decide +kernel))) (fun _ h9 => h9) rfl dX2_ring_17 ?_
    refine lv_iload_n hx hb dX2_ring_20 rfl (lv_at hl 2 rfl) ?_
    refine lv_if_eq (tgt := 35) hx hb dX2_ring_21 (by decide) (fun c_0 => absurd c_0 (show ¬ p1 = (0 : Int32) from hz)) (fun c_10 => ?_)
    refine lv_aload_n hx hb dX2_ring_24 rfl (lv_at hl 0 rfl) ?_
    refine va_get (D := (dC, dI)) (ci := 2) (v := .int (nI nr)) (C := RX2) (T := TX2) (N := 8) hx hb hts inX2_ring_X2 hown hK hP 0 rfl rfl 4 (by decide) (hts (.fieldLink RX2 29 "QueueHallModel" "rings" "I") (List.mem_of_getElem? (i := 1) (by decide +kernel))) (fun _ h9 => h9) rfl dX2_ring_25 ?_
    refine lv_iconst (v := 1) hx hb dX2_ring_28 (by decide) ?_
    refine lv_isub hx hb dX2_ring_29 ?_
    refine q_top (y := nI (nr - 1)) (q_m1 (by omega)) ?_
    refine lv_iload_n hx hb dX2_ring_30 rfl (lv_at hl 1 rfl) ?_
    refine lv_isub hx hb dX2_ring_31 ?_
    refine q_top (y := nI ((nr - 1) - k)) (pk_sub (by omega)) ?_
    refine lv_goto (tgt := 36) hx hb dX2_ring_32 (by decide) ?_
    refine q_iald (k := (nr - 1) - k) hx hb hK hP 2 0 rfl rfl (by omega) (by omega) dX2_ring_36 ?_
    refine lv_i2l (v := (er ((nr - 1) - k)).toInt64) hx hb dX2_ring_37 rfl ?_
    exact W.lret (v := (er ((nr - 1) - k)).toInt64) hx hb hr (fun t ht hW => ⟨(er ((nr - 1) - k)).toInt64, rfl, (by simp only [qRing, qHp_in hk (show nr < 2 ^ 31 by omega), if_neg q_ne10, nI_clamp (show k < 2 ^ 31 by omega), if_neg hz, ha2 (nr - 1 - k) (by omega)]), ht⟩) (fun q h => by cases h) dX2_ring_38

set_option maxHeartbeats 4000000 in
set_option maxRecDepth 100000 in
theorem c_Mod_insert (l : Launch) (dC : Nat → ClassId) (dI : Nat → Nat → Nat) (sz : Nat) (m0 c1 c2 c3 nh nr nk : Nat) (cA : ClassId) (eh gh er gr ek gk : Nat → Int32) (fi me : Int32) (p0 p1 : Int32) (hn : nh + nr + nk < 2000) (ha1 : qAg nh eh gh) (ha2 : qAg nr er gr) (ha3 : qAg nk ek gk) (hF : qFok fi me nk) : Met l yX2_insert wsX2_insert ({ frames := 1, cells := 0, slots := 0, locals := 25 }) (va_Pc [.ref m0, .int p0, .int p1] (fun U => U.heap.size = sz ∧ va_P (dC, dI) vwCl [(m0, .inr (2, [.ref c1, .ref c2, .ref c3, .int (nI nh), .int (nI nr), .int (nI nk), .int fi, .int me])), (c1, .inl (cA, 2000, .inl eh)), (c2, .inl (cA, 2000, .inl er)), (c3, .inl (cA, 2000, .inl ek))] U.heap ∧ va_K (dC, dI) vwCl [(cA, .int)] U ∧ va_D (fun _ => True) [(m0, .inr (2, [.ref c1, .ref c2, .ref c3, .int (nI nh), .int (nI nr), .int (nI nk), .int fi, .int me])), (c1, .inl (cA, 2000, .inl eh)), (c2, .inl (cA, 2000, .inl er)), (c3, .inl (cA, 2000, .inl ek))])) (va_Qi (fun (r : Int32) (u : qS) => (r, u) = qInsert p0 p1 ((gh, nh), (gr, nr), (gk, nk), fi, me)) (at_M dC dI (va_A [(m0, .inr (2, [.ref c1, .ref c2, .ref c3, .int (nI nh), .int (nI nr), .int (nI nk), .int fi, .int me])), (c1, .inl (cA, 2000, .inl eh)), (c2, .inl (cA, 2000, .inl er)), (c3, .inl (cA, 2000, .inl ek))] sz) m0 c1 c2 c3 cA) (va_A [(m0, .inr (2, [.ref c1, .ref c2, .ref c3, .int (nI nh), .int (nI nr), .int (nI nk), .int fi, .int me])), (c1, .inl (cA, 2000, .inl eh)), (c2, .inl (cA, 2000, .inl er)), (c3, .inl (cA, 2000, .inl ek))] sz)) 0 0 (va_A [(m0, .inr (2, [.ref c1, .ref c2, .ref c3, .int (nI nh), .int (nI nr), .int (nI nk), .int fi, .int me])), (c1, .inl (cA, 2000, .inl eh)), (c2, .inl (cA, 2000, .inl er)), (c3, .inl (cA, 2000, .inl ek))] sz) := by
  refine Met.ofW (cc := cX2_insert) (maxL := 3) (ret := (some .int)) (by decide +kernel) rfl ?_
  intro p e s m args below meth c s₁ B hml hv
  obtain ⟨rfl, hsz, hP, hK, hD0⟩ := hv
  have hx := B.exec
  have hb := B.bytes
  have hr := B.returns
  have hts := atoms_spec (ws := wsX2_insert) B.pre
  have hown : s.vm.findClass RX2 = some m.cls := findClass_of_methodNamed B.named
  have hlocks := B.notSynchronized
  subst hsz
  have hD := hD0.self (sz := s.heap.size)
  generalize hAe : va_A [(m0, .inr (2, [.ref c1, .ref c2, .ref c3, .int (nI nh), .int (nI nr), .int (nI nk), .int fi, .int me])), (c1, .inl (cA, 2000, .inl eh)), (c2, .inl (cA, 2000, .inl er)), (c3, .inl (cA, 2000, .inl ek))] s.heap.size = A at hD ⊢
  have hA : ∀ q : Nat, s.heap.size ≤ q → A q := fun q h => by rw [← hAe]; exact Or.inr h
  have hS : va_S A s.heap s.heap [] := va_S.rf
  have hl := lv_entry ([.ref m0, .int p0, .int p1]) (n := 3) (Nat.le_of_ble_eq_true rfl)
  rw [lg_entry_eq]
  generalize (lg_sl ([.ref m0, .int p0, .int p1]) ++ List.replicate (3 - (lg_sl ([.ref m0, .int p0, .int p1])).length) Slot.unset).toArray = ls at hl ⊢
  have hl : lv_has ls 3 [(0, .ref m0), (1, .int p0), (2, .int p1)] := hl
  rcases qHe_c p0 (n := nk) (by omega) with h | ⟨k, hk, rfl⟩
  · refine lv_iload_n hx hb dX2_insert_0 rfl (lv_at hl 1 rfl) ?_
    refine lv_if_lt (tgt := 12) hx hb dX2_insert_1 (by decide) (fun c_1 => ?_) (fun c_1 => ?_)
    · refine lv_iconst (v := -1) hx hb dX2_insert_12 (by decide) ?_
      exact W.iret (v := -1) hx hb hr (fun t ht hW => ⟨⟨-1, ((gh, nh), (gr, nr), (gk, nk), fi, me), rfl, (by simp only [qInsert, if_pos h]), eh, er, ek, ha1, ha2, ha3, by rw [ht]; exact hP, va_K.moved hW.alike hK, hD⟩, hS.F ht⟩) hS.2.2 dX2_insert_13
    · refine lv_iload_n hx hb dX2_insert_4 rfl (lv_at hl 1 rfl) ?_
      refine lv_aload_n hx hb dX2_insert_5 rfl (lv_at hl 0 rfl) ?_
      refine va_get (D := (dC, dI)) (ci := 2) (v := .int (nI nk)) (C := RX2) (T := TX2) (N := 8) hx hb hts inX2_insert_X2 hown hK hP 0 rfl rfl 5 (by decide) (hts (.fieldLink RX2 32 "QueueHallModel" "chains" "I") (List.mem_of_getElem? (i := 1) (by decide +kernel))) (fun _ h9 => h9) rfl dX2_insert_6 ?_
      refine lv_icmp_le (tgt := 14) hx hb dX2_insert_9 (by decide) (fun c_0 => absurd c_0 (show ¬ p0 ≤ (nI nk) from (fun q => by have q3 := qHe_o h c_1; rw [ti_lt] at q3; rw [ti_le] at q; omega))) (fun c_2 => ?_)
      refine lv_iconst (v := -1) hx hb dX2_insert_12 (by decide) ?_
      exact W.iret (v := -1) hx hb hr (fun t ht hW => ⟨⟨-1, ((gh, nh), (gr, nr), (gk, nk), fi, me), rfl, (by simp only [qInsert, if_pos h]), eh, er, ek, ha1, ha2, ha3, by rw [ht]; exact hP, va_K.moved hW.alike hK, hD⟩, hS.F ht⟩) hS.2.2 dX2_insert_13
  · refine lv_iload_n hx hb dX2_insert_0 rfl (lv_at hl 1 rfl) ?_
    refine lv_if_lt (tgt := 12) hx hb dX2_insert_1 (by decide) (fun c_0 => absurd c_0 (show ¬ (nI k) < (0 : Int32) from (by simp (disch := omega) only [ti_lt, ti_le, ti_eq, ti_0, ti_1, ti_2, ti_m1, ti_100, ti_2000, nI_toInt] <;> omega))) (fun c_3 => ?_)
    have k_3 : k ≥ 0 := by
      simp (disch := omega) only [ti_lt, ti_le, ti_eq, ti_0, ti_1, ti_2, ti_m1, ti_100, ti_2000, nI_toInt] at c_3
      omega
    refine lv_iload_n hx hb dX2_insert_4 rfl (lv_at hl 1 rfl) ?_
    refine lv_aload_n hx hb dX2_insert_5 rfl (lv_at hl 0 rfl) ?_
    refine va_get (D := (dC, dI)) (ci := 2) (v := .int (nI nk)) (C := RX2) (T := TX2) (N := 8) hx hb hts inX2_insert_X2 hown hK hP 0 rfl rfl 5 (by decide) (hts (.fieldLink RX2 32 "QueueHallModel" "chains" "I") (List.mem_of_getElem? (i := 1) (by decide +kernel))) (fun _ h9 => h9) rfl dX2_insert_6 ?_
    refine lv_icmp_le (tgt := 14) hx hb dX2_insert_9 (by decide) (fun c_4 => ?_) (fun c_0 => absurd (show (nI k) ≤ (nI nk) from (by simp (disch := omega) only [ti_lt, ti_le, ti_eq, ti_0, ti_1, ti_2, ti_m1, ti_100, ti_2000, nI_toInt] <;> omega)) c_0)
    have k_4 : k ≤ nk := by
      simp (disch := omega) only [ti_lt, ti_le, ti_eq, ti_0, ti_1, ti_2, ti_m1, ti_100, ti_2000, nI_toInt] at c_4
      omega
    refine lv_aload_n hx hb dX2_insert_14 rfl (lv_at hl 0 rfl) ?_
    refine va_get (D := (dC, dI)) (ci := 2) (v := .int (nI nk)) (C := RX2) (T := TX2) (N := 8) hx hb hts inX2_insert_X2 hown hK hP 0 rfl rfl 5 (by decide) (hts (.fieldLink RX2 32 "QueueHallModel" "chains" "I") (List.mem_of_getElem? (i := 1) (by decide +kernel))) (fun _ h9 => h9) rfl dX2_insert_15 ?_
    refine lv_sipush (v := 2000) hx hb dX2_insert_18 (by decide) ?_
    refine lv_icmp_ne (tgt := 27) hx hb dX2_insert_21 (by decide) (fun c_5 => ?_) (fun c_0 => absurd c_0 (show ¬ (nI nk) = (2000 : Int32) from (by simp (disch := omega) only [ti_lt, ti_le, ti_eq, ti_0, ti_1, ti_2, ti_m1, ti_100, ti_2000, nI_toInt] <;> omega)))
    have k_5 : ¬ nk = 2000 := by
      simp (disch := omega) only [ti_lt, ti_le, ti_eq, ti_0, ti_1, ti_2, ti_m1, ti_100, ti_2000, nI_toInt] at c_5
      omega
    refine lv_aload_n hx hb dX2_insert_27 rfl (lv_at hl 0 rfl) ?_
    refine va_get (D := (dC, dI)) (ci := 2) (v := .ref c3) (C := RX2) (T := TX2) (N := 8) hx hb hts inX2_insert_X2 hown hK hP 0 rfl rfl 2 (by decide) (hts (.fieldLink RX2 16 "QueueHallModel" "chain" "[I") (List.mem_of_getElem? (i := 2) (by decide +kernel))) (fun _ h9 => h9) rfl dX2_insert_28 ?_
    refine lv_aload_n hx hb dX2_insert_31 rfl (lv_at hl 0 rfl) ?_
    refine va_get (D := (dC, dI)) (ci := 2) (v := .int (nI nk)) (C := RX2) (T := TX2) (N := 8) hx hb hts inX2_insert_X2 hown hK hP 0 rfl rfl 5 (by decide) (hts (.fieldLink RX2 32 "QueueHallModel" "chains" "I") (List.mem_of_getElem? (i := 1) (by decide +kernel))) (fun _ h9 => h9) rfl dX2_insert_32 ?_
    refine lv_iload_n hx hb dX2_insert_35 rfl (lv_at hl 1 rfl) ?_
    refine lv_iload_n hx hb dX2_insert_36 rfl (lv_at hl 2 rfl) ?_
    have hPc := hP.sub (ws' := [(c3, .inl (cA, 2000, .inl ek))]) [3] rfl
    have hKc := hK.sub (tys' := [(cA, .int)]) [0] rfl
    have hDc := hD.sub (ws' := [(c3, .inl (cA, 2000, .inl ek))]) [3] (by decide) rfl
    have hFc := va_free (wc := [(c3, .inl (cA, 2000, .inl ek))]) hD hS hA [3] rfl
    refine va_callv (va_runS (As := [.ref c3, .int (nI nk), .int (nI k), .int p1]) (rest := []) ⟨hx, hb, hml, hown, hts⟩ (c_Mod_put l dC dI s.heap.size c3 nk k cA ek gk p1 (by omega) (by omega) ha3) (cwS 4 hts gX2_insert_X2_put_v rfl rfl rfl (by decide +kernel) ⟨Nat.le_of_ble_eq_true rfl, Nat.le_of_ble_eq_true rfl⟩) ⟨q_blW, fun U hU hW => ⟨rfl, by rw [hU], by rw [hU]; exact hPc, va_K.moved hW.alike hKc, hDc.weaken (fun _ _ _ _ => trivial)⟩⟩ rfl rfl hl.1 rfl (lv_room (Nat.le_of_ble_eq_true rfl)) dX2_insert_37 ⟨Nat.le_of_ble_eq_true rfl, Nat.le_of_ble_eq_true rfl⟩) hS (fun q _ h => hFc q h) hFc (fun u_6 t_6 H1 locs ht hvm hw hB hz1 hk1 hS => ?_)
    subst hw
    obtain ⟨f_6, hg_6, hP1, hK1, hD1⟩ := hB
    rw [ht] at hP1
    obtain ⟨hP, hD⟩ := q_join (wr := [(m0, .inr (2, [.ref c1, .ref c2, .ref c3, .int (nI nh), .int (nI nr), .int (nI nk), .int fi, .int me])), (c1, .inl (cA, 2000, .inl eh)), (c2, .inl (cA, 2000, .inl er))]) (w1 := [(c3, .inl (cA, 2000, .inl f_6))]) (wz := [(m0, .inr (2, [.ref c1, .ref c2, .ref c3, .int (nI nh), .int (nI nr), .int (nI nk), .int fi, .int me])), (c1, .inl (cA, 2000, .inl eh)), (c2, .inl (cA, 2000, .inl er)), (c3, .inl (cA, 2000, .inl f_6))]) hP hD [3] [0, 1, 2] [0, 1, 2, 3] rfl rfl (by decide) (by decide) hk1 hFc hP1 hD1 rfl rfl (by decide)
    generalize H1 = H at hP hS ⊢
    refine lv_aload_n hx hb dX2_insert_40 rfl (lv_at hl 0 rfl) ?_
    have hPc := hP.sub (ws' := [(m0, .inr (2, [.ref c1, .ref c2, .ref c3, .int (nI nh), .int (nI nr), .int (nI nk), .int fi, .int me]))]) [0] rfl
    have hKc := hK.sub (tys' := []) [] rfl
    have hDc := hD.sub (ws' := [(m0, .inr (2, [.ref c1, .ref c2, .ref c3, .int (nI nh), .int (nI nr), .int (nI nk), .int fi, .int me]))]) [0] (by decide) rfl
    have hFc := va_free (wc := [(m0, .inr (2, [.ref c1, .ref c2, .ref c3, .int (nI nh), .int (nI nr), .int (nI nk), .int fi, .int me]))]) hD hS hA [0] rfl
    refine va_callv (va_runV (As := []) (rest := []) ⟨hx, hb, hml, hown, hts⟩ (c_Mod_lift l dC dI H.size m0 c1 c2 c3 nh nr nk fi me) (cwV 0 hts gX2_insert_X2_lift_v rfl rfl rfl (by decide +kernel) ⟨Nat.le_of_ble_eq_true rfl, Nat.le_of_ble_eq_true rfl⟩) ⟨q_blW, va_recv hKc hPc (ci := 2) (q0 := 0) rfl rfl, fun U hU hW => ⟨rfl, by rw [hU], by rw [hU]; exact hPc, va_K.moved hW.alike hKc, hDc.weaken (fun _ _ _ _ => trivial)⟩⟩ rfl rfl hl.1 rfl (lv_room (Nat.le_of_ble_eq_true rfl)) dX2_insert_41 ⟨Nat.le_of_ble_eq_true rfl, Nat.le_of_ble_eq_true rfl⟩) hS (fun q _ h => hFc q h) hFc (fun u_7 t_7 H1 locs ht hvm hw hB hz1 hk1 hS => ?_)
    subst hw
    obtain ⟨hP1, hK1, hD1⟩ := hB
    rw [ht] at hP1
    obtain ⟨hP, hD⟩ := q_join (wr := [(c1, .inl (cA, 2000, .inl eh)), (c2, .inl (cA, 2000, .inl er)), (c3, .inl (cA, 2000, .inl f_6))]) (w1 := [(m0, .inr (2, [.ref c1, .ref c2, .ref c3, .int (nI nh), .int (nI nr), .int (nI nk), .int (-1), .int (-1)]))]) (wz := [(m0, .inr (2, [.ref c1, .ref c2, .ref c3, .int (nI nh), .int (nI nr), .int (nI nk), .int (-1), .int (-1)])), (c1, .inl (cA, 2000, .inl eh)), (c2, .inl (cA, 2000, .inl er)), (c3, .inl (cA, 2000, .inl f_6))]) hP hD [0] [1, 2, 3] [3, 0, 1, 2] rfl rfl (by decide) (by decide) hk1 hFc hP1 hD1 rfl rfl (by decide)
    generalize H1 = H at hP hS ⊢
    refine lv_aload_n hx hb dX2_insert_44 rfl (lv_at hl 0 rfl) ?_
    refine lv_dup hx hb dX2_insert_45 rfl ?_
    refine va_get (D := (dC, dI)) (ci := 2) (v := .int (nI nk)) (C := RX2) (T := TX2) (N := 8) hx hb hts inX2_insert_X2 hown hK hP 0 rfl rfl 5 (by decide) (hts (.fieldLink RX2 32 "QueueHallModel" "chains" "I") (List.mem_of_getElem? (i := 1) (by decide +kernel))) (fun _ h9 => h9) rfl dX2_insert_46 ?_
    refine lv_iconst (v := 1) hx hb dX2_insert_49 (by decide) ?_
    refine lv_iadd hx hb dX2_insert_50 ?_
    refine q_top (y := nI (nk + 1)) (nI_1 nk) ?_
    refine lv_dup_x1 hx hb dX2_insert_51 rfl rfl ?_
    refine va_put (D := (dC, dI)) (ci := 2) (v := .int (nI (nk + 1))) (ty := .int) (C := RX2) (T := TX2) (N := 8) hx hb hts inX2_insert_X2 tyX2 tyX2_ok nmX2 hown hK hP hD hS 0 rfl rfl 5 (by decide) (hts (.fieldLink RX2 32 "QueueHallModel" "chains" "I") (List.mem_of_getElem? (i := 1) (by decide +kernel))) (fun _ h9 => h9) rfl (by decide +kernel) rfl rfl (Nat.le_of_ble_eq_true rfl) dX2_insert_52 (fun H locs hP hD hS => ?_)
    have hP : va_P (dC, dI) vwCl [(m0, .inr (2, [.ref c1, .ref c2, .ref c3, .int (nI nh), .int (nI nr), .int (nI (nk + 1)), .int (-1), .int (-1)])), (c1, .inl (cA, 2000, .inl eh)), (c2, .inl (cA, 2000, .inl er)), (c3, .inl (cA, 2000, .inl f_6))] H := hP
    have hD : va_D A [(m0, .inr (2, [.ref c1, .ref c2, .ref c3, .int (nI nh), .int (nI nr), .int (nI (nk + 1)), .int (-1), .int (-1)])), (c1, .inl (cA, 2000, .inl eh)), (c2, .inl (cA, 2000, .inl er)), (c3, .inl (cA, 2000, .inl f_6))] := hD
    exact W.iret (v := nI (nk + 1)) hx hb hr (fun t ht hW => ⟨⟨nI (nk + 1), ((gh, nh), (gr, nr), (qIns gk k p1, nk + 1), -1, -1), rfl, (by simp only [qInsert, qHe_in hk (show nk < 2 ^ 31 by omega), if_neg q_ne10, nI_clamp (show k < 2 ^ 31 by omega)]), eh, er, f_6, ha1, ha2, hg_6, by rw [ht]; exact hP, va_K.moved hW.alike hK, hD⟩, hS.F ht⟩) hS.2.2 dX2_insert_55

set_option maxHeartbeats 4000000 in
set_option maxRecDepth 100000 in
theorem c_Mod_point (l : Launch) (dC : Nat → ClassId) (dI : Nat → Nat → Nat) (sz : Nat) (m0 c1 c2 c3 nh nr nk : Nat) (cA : ClassId) (eh gh er gr ek gk : Nat → Int32) (fi me : Int32) (p0 : Int32) (hn : nh + nr + nk < 2000) (ha1 : qAg nh eh gh) (ha2 : qAg nr er gr) (ha3 : qAg nk ek gk) (hF : qFok fi me nk) : Met l yX2_point wsX2_point ({ frames := 1, cells := 0, slots := 0, locals := 25 }) (va_Pc [.ref m0, .int p0] (fun U => U.heap.size = sz ∧ va_P (dC, dI) vwCl [(m0, .inr (2, [.ref c1, .ref c2, .ref c3, .int (nI nh), .int (nI nr), .int (nI nk), .int fi, .int me])), (c1, .inl (cA, 2000, .inl eh)), (c2, .inl (cA, 2000, .inl er)), (c3, .inl (cA, 2000, .inl ek))] U.heap ∧ va_K (dC, dI) vwCl [(cA, .int)] U ∧ va_D (fun _ => True) [(m0, .inr (2, [.ref c1, .ref c2, .ref c3, .int (nI nh), .int (nI nr), .int (nI nk), .int fi, .int me])), (c1, .inl (cA, 2000, .inl eh)), (c2, .inl (cA, 2000, .inl er)), (c3, .inl (cA, 2000, .inl ek))])) (va_Qi (fun (r : Int32) (u : qS) => (r, u) = qPoint p0 ((gh, nh), (gr, nr), (gk, nk), fi, me)) (at_M dC dI (va_A [(m0, .inr (2, [.ref c1, .ref c2, .ref c3, .int (nI nh), .int (nI nr), .int (nI nk), .int fi, .int me])), (c1, .inl (cA, 2000, .inl eh)), (c2, .inl (cA, 2000, .inl er)), (c3, .inl (cA, 2000, .inl ek))] sz) m0 c1 c2 c3 cA) (va_A [(m0, .inr (2, [.ref c1, .ref c2, .ref c3, .int (nI nh), .int (nI nr), .int (nI nk), .int fi, .int me])), (c1, .inl (cA, 2000, .inl eh)), (c2, .inl (cA, 2000, .inl er)), (c3, .inl (cA, 2000, .inl ek))] sz)) 0 0 (va_A [(m0, .inr (2, [.ref c1, .ref c2, .ref c3, .int (nI nh), .int (nI nr), .int (nI nk), .int fi, .int me])), (c1, .inl (cA, 2000, .inl eh)), (c2, .inl (cA, 2000, .inl er)), (c3, .inl (cA, 2000, .inl ek))] sz) := by
  refine Met.ofW (cc := cX2_point) (maxL := 2) (ret := (some .int)) (by decide +kernel) rfl ?_
  intro p e s m args below meth c s₁ B hml hv
  obtain ⟨rfl, hsz, hP, hK, hD0⟩ := hv
  have hx := B.exec
  have hb := B.bytes
  have hr := B.returns
  have hts := atoms_spec (ws := wsX2_point) B.pre
  have hown : s.vm.findClass RX2 = some m.cls := findClass_of_methodNamed B.named
  have hlocks := B.notSynchronized
  subst hsz
  have hD := hD0.self (sz := s.heap.size)
  generalize hAe : va_A [(m0, .inr (2, [.ref c1, .ref c2, .ref c3, .int (nI nh), .int (nI nr), .int (nI nk), .int fi, .int me])), (c1, .inl (cA, 2000, .inl eh)), (c2, .inl (cA, 2000, .inl er)), (c3, .inl (cA, 2000, .inl ek))] s.heap.size = A at hD ⊢
  have hA : ∀ q : Nat, s.heap.size ≤ q → A q := fun q h => by rw [← hAe]; exact Or.inr h
  have hS : va_S A s.heap s.heap [] := va_S.rf
  have hl := lv_entry ([.ref m0, .int p0]) (n := 2) (Nat.le_of_ble_eq_true rfl)
  rw [lg_entry_eq]
  generalize (lg_sl ([.ref m0, .int p0]) ++ List.replicate (2 - (lg_sl ([.ref m0, .int p0])).length) Slot.unset).toArray = ls at hl ⊢
  have hl : lv_has ls 2 [(0, .ref m0), (1, .int p0)] := hl
  rcases qHe_c p0 (n := nk) (by omega) with h | ⟨k, hk, rfl⟩
  · refine lv_iload_n hx hb dX2_point_0 rfl (lv_at hl 1 rfl) ?_
    refine lv_if_lt (tgt := 12) hx hb dX2_point_1 (by decide) (fun c_1 => ?_) (fun c_1 => ?_)
    · refine lv_iconst (v := -1) hx hb dX2_point_12 (by decide) ?_
      exact W.iret (v := -1) hx hb hr (fun t ht hW => ⟨⟨-1, ((gh, nh), (gr, nr), (gk, nk), fi, me), rfl, (by simp only [qPoint, if_pos h]), eh, er, ek, ha1, ha2, ha3, by rw [ht]; exact hP, va_K.moved hW.alike hK, hD⟩, hS.F ht⟩) hS.2.2 dX2_point_13
    · refine lv_iload_n hx hb dX2_point_4 rfl (lv_at hl 1 rfl) ?_
      refine lv_aload_n hx hb dX2_point_5 rfl (lv_at hl 0 rfl) ?_
      refine va_get (D := (dC, dI)) (ci := 2) (v := .int (nI nk)) (C := RX2) (T := TX2) (N := 8) hx hb hts inX2_point_X2 hown hK hP 0 rfl rfl 5 (by decide) (hts (.fieldLink RX2 32 "QueueHallModel" "chains" "I") (List.mem_of_getElem? (i := 1) (by decide +kernel))) (fun _ h9 => h9) rfl dX2_point_6 ?_
      refine lv_icmp_le (tgt := 14) hx hb dX2_point_9 (by decide) (fun c_0 => absurd c_0 (show ¬ p0 ≤ (nI nk) from (fun q => by have q3 := qHe_o h c_1; rw [ti_lt] at q3; rw [ti_le] at q; omega))) (fun c_2 => ?_)
      refine lv_iconst (v := -1) hx hb dX2_point_12 (by decide) ?_
      exact W.iret (v := -1) hx hb hr (fun t ht hW => ⟨⟨-1, ((gh, nh), (gr, nr), (gk, nk), fi, me), rfl, (by simp only [qPoint, if_pos h]), eh, er, ek, ha1, ha2, ha3, by rw [ht]; exact hP, va_K.moved hW.alike hK, hD⟩, hS.F ht⟩) hS.2.2 dX2_point_13
  · refine lv_iload_n hx hb dX2_point_0 rfl (lv_at hl 1 rfl) ?_
    refine lv_if_lt (tgt := 12) hx hb dX2_point_1 (by decide) (fun c_0 => absurd c_0 (show ¬ (nI k) < (0 : Int32) from (by simp (disch := omega) only [ti_lt, ti_le, ti_eq, ti_0, ti_1, ti_2, ti_m1, ti_100, ti_2000, nI_toInt] <;> omega))) (fun c_3 => ?_)
    have k_3 : k ≥ 0 := by
      simp (disch := omega) only [ti_lt, ti_le, ti_eq, ti_0, ti_1, ti_2, ti_m1, ti_100, ti_2000, nI_toInt] at c_3
      omega
    refine lv_iload_n hx hb dX2_point_4 rfl (lv_at hl 1 rfl) ?_
    refine lv_aload_n hx hb dX2_point_5 rfl (lv_at hl 0 rfl) ?_
    refine va_get (D := (dC, dI)) (ci := 2) (v := .int (nI nk)) (C := RX2) (T := TX2) (N := 8) hx hb hts inX2_point_X2 hown hK hP 0 rfl rfl 5 (by decide) (hts (.fieldLink RX2 32 "QueueHallModel" "chains" "I") (List.mem_of_getElem? (i := 1) (by decide +kernel))) (fun _ h9 => h9) rfl dX2_point_6 ?_
    refine lv_icmp_le (tgt := 14) hx hb dX2_point_9 (by decide) (fun c_4 => ?_) (fun c_0 => absurd (show (nI k) ≤ (nI nk) from (by simp (disch := omega) only [ti_lt, ti_le, ti_eq, ti_0, ti_1, ti_2, ti_m1, ti_100, ti_2000, nI_toInt] <;> omega)) c_0)
    have k_4 : k ≤ nk := by
      simp (disch := omega) only [ti_lt, ti_le, ti_eq, ti_0, ti_1, ti_2, ti_m1, ti_100, ti_2000, nI_toInt] at c_4
      omega
    refine lv_aload_n hx hb dX2_point_14 rfl (lv_at hl 0 rfl) ?_
    refine lv_iload_n hx hb dX2_point_15 rfl (lv_at hl 1 rfl) ?_
    refine va_put (D := (dC, dI)) (ci := 2) (v := .int (nI k)) (ty := .int) (C := RX2) (T := TX2) (N := 8) hx hb hts inX2_point_X2 tyX2 tyX2_ok nmX2 hown hK hP hD hS 0 rfl rfl 6 (by decide) (hts (.fieldLink RX2 19 "QueueHallModel" "finger" "I") (List.mem_of_getElem? (i := 2) (by decide +kernel))) (fun _ h9 => h9) rfl (by decide +kernel) rfl rfl (Nat.le_of_ble_eq_true rfl) dX2_point_16 (fun H locs hP hD hS => ?_)
    have hP : va_P (dC, dI) vwCl [(m0, .inr (2, [.ref c1, .ref c2, .ref c3, .int (nI nh), .int (nI nr), .int (nI nk), .int (nI k), .int me])), (c1, .inl (cA, 2000, .inl eh)), (c2, .inl (cA, 2000, .inl er)), (c3, .inl (cA, 2000, .inl ek))] H := hP
    have hD : va_D A [(m0, .inr (2, [.ref c1, .ref c2, .ref c3, .int (nI nh), .int (nI nr), .int (nI nk), .int (nI k), .int me])), (c1, .inl (cA, 2000, .inl eh)), (c2, .inl (cA, 2000, .inl er)), (c3, .inl (cA, 2000, .inl ek))] := hD
    refine lv_aload_n hx hb dX2_point_19 rfl (lv_at hl 0 rfl) ?_
    refine lv_iconst (v := -1) hx hb dX2_point_20 (by decide) ?_
    refine va_put (D := (dC, dI)) (ci := 2) (v := .int (-1)) (ty := .int) (C := RX2) (T := TX2) (N := 8) hx hb hts inX2_point_X2 tyX2 tyX2_ok nmX2 hown hK hP hD hS 0 rfl rfl 7 (by decide) (hts (.fieldLink RX2 23 "QueueHallModel" "met" "I") (List.mem_of_getElem? (i := 3) (by decide +kernel))) (fun _ h9 => h9) rfl (by decide +kernel) rfl rfl (Nat.le_of_ble_eq_true rfl) dX2_point_21 (fun H locs hP hD hS => ?_)
    have hP : va_P (dC, dI) vwCl [(m0, .inr (2, [.ref c1, .ref c2, .ref c3, .int (nI nh), .int (nI nr), .int (nI nk), .int (nI k), .int (-1)])), (c1, .inl (cA, 2000, .inl eh)), (c2, .inl (cA, 2000, .inl er)), (c3, .inl (cA, 2000, .inl ek))] H := hP
    have hD : va_D A [(m0, .inr (2, [.ref c1, .ref c2, .ref c3, .int (nI nh), .int (nI nr), .int (nI nk), .int (nI k), .int (-1)])), (c1, .inl (cA, 2000, .inl eh)), (c2, .inl (cA, 2000, .inl er)), (c3, .inl (cA, 2000, .inl ek))] := hD
    refine lv_iload_n hx hb dX2_point_24 rfl (lv_at hl 1 rfl) ?_
    exact W.iret (v := nI k) hx hb hr (fun t ht hW => ⟨⟨nI k, ((gh, nh), (gr, nr), (gk, nk), nI k, -1), rfl, (by simp only [qPoint, qHe_in hk (show nk < 2 ^ 31 by omega), if_neg q_ne10, nI_clamp (show k < 2 ^ 31 by omega)]), eh, er, ek, ha1, ha2, ha3, by rw [ht]; exact hP, va_K.moved hW.alike hK, hD⟩, hS.F ht⟩) hS.2.2 dX2_point_25

set_option maxHeartbeats 4000000 in
set_option maxRecDepth 100000 in
theorem c_Mod_change (l : Launch) (dC : Nat → ClassId) (dI : Nat → Nat → Nat) (sz : Nat) (m0 c1 c2 c3 nh nr nk : Nat) (cA : ClassId) (eh gh er gr ek gk : Nat → Int32) (fi me : Int32) (p0 p1 p2 : Int32) (hn : nh + nr + nk < 2000) (ha1 : qAg nh eh gh) (ha2 : qAg nr er gr) (ha3 : qAg nk ek gk) (hF : qFok fi me nk) : Met l yX2_change wsX2_change ({ frames := 1, cells := 0, slots := 0, locals := 25 }) (va_Pc [.ref m0, .int p0, .int p1, .int p2] (fun U => U.heap.size = sz ∧ va_P (dC, dI) vwCl [(m0, .inr (2, [.ref c1, .ref c2, .ref c3, .int (nI nh), .int (nI nr), .int (nI nk), .int fi, .int me])), (c1, .inl (cA, 2000, .inl eh)), (c2, .inl (cA, 2000, .inl er)), (c3, .inl (cA, 2000, .inl ek))] U.heap ∧ va_K (dC, dI) vwCl [(cA, .int)] U ∧ va_D (fun _ => True) [(m0, .inr (2, [.ref c1, .ref c2, .ref c3, .int (nI nh), .int (nI nr), .int (nI nk), .int fi, .int me])), (c1, .inl (cA, 2000, .inl eh)), (c2, .inl (cA, 2000, .inl er)), (c3, .inl (cA, 2000, .inl ek))])) (va_Ql (fun (r : Int64) (u : qS) => (r, u) = qChange p0 p1 p2 ((gh, nh), (gr, nr), (gk, nk), fi, me)) (at_M dC dI (va_A [(m0, .inr (2, [.ref c1, .ref c2, .ref c3, .int (nI nh), .int (nI nr), .int (nI nk), .int fi, .int me])), (c1, .inl (cA, 2000, .inl eh)), (c2, .inl (cA, 2000, .inl er)), (c3, .inl (cA, 2000, .inl ek))] sz) m0 c1 c2 c3 cA) (va_A [(m0, .inr (2, [.ref c1, .ref c2, .ref c3, .int (nI nh), .int (nI nr), .int (nI nk), .int fi, .int me])), (c1, .inl (cA, 2000, .inl eh)), (c2, .inl (cA, 2000, .inl er)), (c3, .inl (cA, 2000, .inl ek))] sz)) 0 0 (va_A [(m0, .inr (2, [.ref c1, .ref c2, .ref c3, .int (nI nh), .int (nI nr), .int (nI nk), .int fi, .int me])), (c1, .inl (cA, 2000, .inl eh)), (c2, .inl (cA, 2000, .inl er)), (c3, .inl (cA, 2000, .inl ek))] sz) := by
  refine Met.ofW (cc := cX2_change) (maxL := 5) (ret := (some .long)) (by decide +kernel) rfl ?_
  intro p e s m args below meth c s₁ B hml hv
  obtain ⟨rfl, hsz, hP, hK, hD0⟩ := hv
  have hx := B.exec
  have hb := B.bytes
  have hr := B.returns
  have hts := atoms_spec (ws := wsX2_change) B.pre
  have hown : s.vm.findClass RX2 = some m.cls := findClass_of_methodNamed B.named
  have hlocks := B.notSynchronized
  subst hsz
  have hD := hD0.self (sz := s.heap.size)
  generalize hAe : va_A [(m0, .inr (2, [.ref c1, .ref c2, .ref c3, .int (nI nh), .int (nI nr), .int (nI nk), .int fi, .int me])), (c1, .inl (cA, 2000, .inl eh)), (c2, .inl (cA, 2000, .inl er)), (c3, .inl (cA, 2000, .inl ek))] s.heap.size = A at hD ⊢
  have hA : ∀ q : Nat, s.heap.size ≤ q → A q := fun q h => by rw [← hAe]; exact Or.inr h
  have hS : va_S A s.heap s.heap [] := va_S.rf
  have hl := lv_entry ([.ref m0, .int p0, .int p1, .int p2]) (n := 5) (Nat.le_of_ble_eq_true rfl)
  rw [lg_entry_eq]
  generalize (lg_sl ([.ref m0, .int p0, .int p1, .int p2]) ++ List.replicate (5 - (lg_sl ([.ref m0, .int p0, .int p1, .int p2])).length) Slot.unset).toArray = ls at hl ⊢
  have hl : lv_has ls 5 [(0, .ref m0), (1, .int p0), (2, .int p1), (3, .int p2)] := hl
  rcases qHp_c p0 (n := nk) (by omega) with h | ⟨k, hk, rfl⟩ <;> by_cases hz : p2 = 0
  · refine lv_iload_n hx hb dX2_change_0 rfl (lv_at hl 1 rfl) ?_
    refine lv_if_lt (tgt := 12) hx hb dX2_change_1 (by decide) (fun c_1 => ?_) (fun c_1 => ?_)
    · refine lv_ldc2 (v := qNo) hx hb hown (hts (.constantLong RX2 39 (1099511627776)) (List.mem_of_getElem? (i := 2) (by decide +kernel))) dX2_change_12 ?_
      exact W.lret (v := qNo) hx hb hr (fun t ht hW => ⟨⟨qNo, ((gh, nh), (gr, nr), (gk, nk), fi, me), rfl, (by simp only [qChange, if_pos h]), eh, er, ek, ha1, ha2, ha3, by rw [ht]; exact hP, va_K.moved hW.alike hK, hD⟩, hS.F ht⟩) hS.2.2 dX2_change_15
    · refine lv_iload_n hx hb dX2_change_4 rfl (lv_at hl 1 rfl) ?_
      refine lv_aload_n hx hb dX2_change_5 rfl (lv_at hl 0 rfl) ?_
      refine va_get (D := (dC, dI)) (ci := 2) (v := .int (nI nk)) (C := RX2) (T := TX2) (N := 8) hx hb hts inX2_change_X2 hown hK hP 0 rfl rfl 5 (by decide) (hts (.fieldLink RX2 32 "QueueHallModel" "chains" "I") (List.mem_of_getElem? (i := 1) (by decide +kernel))) (fun _ h9 => h9) rfl dX2_change_6 ?_
      refine lv_icmp_lt (tgt := 16) hx hb dX2_change_9 (by decide) (fun c_0 => absurd c_0 (show ¬ p0 < (nI nk) from (fun q => by have q3 := qHp_o h c_1; rw [ti_le] at q3; rw [ti_lt] at q; omega))) (fun c_2 => ?_)
      refine lv_ldc2 (v := qNo) hx hb hown (hts (.constantLong RX2 39 (1099511627776)) (List.mem_of_getElem? (i := 2) (by decide +kernel))) dX2_change_12 ?_
      exact W.lret (v := qNo) hx hb hr (fun t ht hW => ⟨⟨qNo, ((gh, nh), (gr, nr), (gk, nk), fi, me), rfl, (by simp only [qChange, if_pos h]), eh, er, ek, ha1, ha2, ha3, by rw [ht]; exact hP, va_K.moved hW.alike hK, hD⟩, hS.F ht⟩) hS.2.2 dX2_change_15
  · refine lv_iload_n hx hb dX2_change_0 rfl (lv_at hl 1 rfl) ?_
    refine lv_if_lt (tgt := 12) hx hb dX2_change_1 (by decide) (fun c_3 => ?_) (fun c_3 => ?_)
    · refine lv_ldc2 (v := qNo) hx hb hown (hts (.constantLong RX2 39 (1099511627776)) (List.mem_of_getElem? (i := 2) (by decide +kernel))) dX2_change_12 ?_
      exact W.lret (v := qNo) hx hb hr (fun t ht hW => ⟨⟨qNo, ((gh, nh), (gr, nr), (gk, nk), fi, me), rfl, (by simp only [qChange, if_pos h]), eh, er, ek, ha1, ha2, ha3, by rw [ht]; exact hP, va_K.moved hW.alike hK, hD⟩, hS.F ht⟩) hS.2.2 dX2_change_15
    · refine lv_iload_n hx hb dX2_change_4 rfl (lv_at hl 1 rfl) ?_
      refine lv_aload_n hx hb dX2_change_5 rfl (lv_at hl 0 rfl) ?_
      refine va_get (D := (dC, dI)) (ci := 2) (v := .int (nI nk)) (C := RX2) (T := TX2) (N := 8) hx hb hts inX2_change_X2 hown hK hP 0 rfl rfl 5 (by decide) (hts (.fieldLink RX2 32 "QueueHallModel" "chains" "I") (List.mem_of_getElem? (i := 1) (by decide +kernel))) (fun _ h9 => h9) rfl dX2_change_6 ?_
      refine lv_icmp_lt (tgt := 16) hx hb dX2_change_9 (by decide) (fun c_0 => absurd c_0 (show ¬ p0 < (nI nk) from (fun q => by have q3 := qHp_o h c_3; rw [ti_le] at q3; rw [ti_lt] at q; omega))) (fun c_4 => ?_)
      refine lv_ldc2 (v := qNo) hx hb hown (hts (.constantLong RX2 39 (1099511627776)) (List.mem_of_getElem? (i := 2) (by decide +kernel))) dX2_change_12 ?_
      exact W.lret (v := qNo) hx hb hr (fun t ht hW => ⟨⟨qNo, ((gh, nh), (gr, nr), (gk, nk), fi, me), rfl, (by simp only [qChange, if_pos h]), eh, er, ek, ha1, ha2, ha3, by rw [ht]; exact hP, va_K.moved hW.alike hK, hD⟩, hS.F ht⟩) hS.2.2 dX2_change_15
  · refine lv_iload_n hx hb dX2_change_0 rfl (lv_at hl 1 rfl) ?_
    refine lv_if_lt (tgt := 12) hx hb dX2_change_1 (by decide) (fun c_0 => absurd c_0 (show ¬ (nI k) < (0 : Int32) from (by simp (disch := omega) only [ti_lt, ti_le, ti_eq, ti_0, ti_1, ti_2, ti_m1, ti_100, ti_2000, nI_toInt] <;> omega))) (fun c_5 => ?_)
    have k_5 : k ≥ 0 := by
      simp (disch := omega) only [ti_lt, ti_le, ti_eq, ti_0, ti_1, ti_2, ti_m1, ti_100, ti_2000, nI_toInt] at c_5
      omega
    refine lv_iload_n hx hb dX2_change_4 rfl (lv_at hl 1 rfl) ?_
    refine lv_aload_n hx hb dX2_change_5 rfl (lv_at hl 0 rfl) ?_
    refine va_get (D := (dC, dI)) (ci := 2) (v := .int (nI nk)) (C := RX2) (T := TX2) (N := 8) hx hb hts inX2_change_X2 hown hK hP 0 rfl rfl 5 (by decide) (hts (.fieldLink RX2 32 "QueueHallModel" "chains" "I") (List.mem_of_getElem? (i := 1) (by decide +kernel))) (fun _ h9 => h9) rfl dX2_change_6 ?_
    refine lv_icmp_lt (tgt := 16) hx hb dX2_change_9 (by decide) (fun c_6 => ?_) (fun c_0 => absurd (show (nI k) < (nI nk) from (by simp (disch := omega) only [ti_lt, ti_le, ti_eq, ti_0, ti_1, ti_2, ti_m1, ti_100, ti_2000, nI_toInt] <;> omega)) c_0)
    have k_6 : k < nk := by
      simp (disch := omega) only [ti_lt, ti_le, ti_eq, ti_0, ti_1, ti_2, ti_m1, ti_100, ti_2000, nI_toInt] at c_6
      omega
    refine lv_aload_n hx hb dX2_change_16 rfl (lv_at hl 0 rfl) ?_
    refine va_get (D := (dC, dI)) (ci := 2) (v := .ref c3) (C := RX2) (T := TX2) (N := 8) hx hb hts inX2_change_X2 hown hK hP 0 rfl rfl 2 (by decide) (hts (.fieldLink RX2 16 "QueueHallModel" "chain" "[I") (List.mem_of_getElem? (i := 3) (by decide +kernel))) (fun _ h9 => h9) rfl dX2_change_17 ?_
    refine lv_iload_n hx hb dX2_change_20 rfl (lv_at hl 1 rfl) ?_
    refine q_iald (k := k) hx hb hK hP 3 0 rfl rfl (by omega) (by omega) dX2_change_21 ?_
    refine lv_istore (lv' := [(4, .int (ek k)), (0, .ref m0), (1, .int (nI k)), (2, .int p1), (3, .int p2)]) hx hb dX2_change_22 hl (by decide) rfl (fun ls hl => ?_)
    refine lv_iload_n hx hb dX2_change_24 rfl (lv_at hl 4 rfl) ?_
    refine lv_if_eq (tgt := 57) hx hb dX2_change_25 (by decide) (fun c_7 => ?_) (fun c_0 => absurd (show p2 = (0 : Int32) from hz) c_0)
    refine lv_aload_n hx hb dX2_change_57 rfl (lv_at hl 1 rfl) ?_
    refine va_get (D := (dC, dI)) (ci := 2) (v := .ref c3) (C := RX2) (T := TX2) (N := 8) hx hb hts inX2_change_X2 hown hK hP 0 rfl rfl 2 (by decide) (hts (.fieldLink RX2 16 "QueueHallModel" "chain" "[I") (List.mem_of_getElem? (i := 3) (by decide +kernel))) (fun _ h9 => h9) rfl dX2_change_58 ?_
    refine lv_iload_n hx hb dX2_change_61 rfl (lv_at hl 2 rfl) ?_
    refine lv_iload_n hx hb dX2_change_62 rfl (lv_at hl 3 rfl) ?_
    refine q_iast (k := k) hx hb hK hP hD hS 3 0 rfl rfl (by omega) (by omega) dX2_change_63 (fun H locs hP hD hS => ?_)
    have hP : va_P (dC, dI) vwCl [(m0, .inr (2, [.ref c1, .ref c2, .ref c3, .int (nI nh), .int (nI nr), .int (nI nk), .int fi, .int me])), (c1, .inl (cA, 2000, .inl eh)), (c2, .inl (cA, 2000, .inl er)), (c3, .inl (cA, 2000, .inl (upd ek k p1)))] H := hP
    have hD : va_D A [(m0, .inr (2, [.ref c1, .ref c2, .ref c3, .int (nI nh), .int (nI nr), .int (nI nk), .int fi, .int me])), (c1, .inl (cA, 2000, .inl eh)), (c2, .inl (cA, 2000, .inl er)), (c3, .inl (cA, 2000, .inl (upd ek k p1)))] := hD
    refine lv_iload hx hb dX2_change_64 (lv_at hl 0 rfl) ?_
    refine lv_i2l (v := (ek k).toInt64) hx hb dX2_change_66 rfl ?_
    exact W.lret (v := (ek k).toInt64) hx hb hr (fun t ht hW => ⟨⟨(ek k).toInt64, ((gh, nh), (gr, nr), (upd gk k p1, nk), fi, me), rfl, (by simp only [qChange, qHp_in hk (show nk < 2 ^ 31 by omega), if_neg q_ne10, nI_clamp (show k < 2 ^ 31 by omega), if_pos hz, ha3 k hk]), eh, er, upd ek k p1, ha1, ha2, (qAg_upd ha3), by rw [ht]; exact hP, va_K.moved hW.alike hK, hD⟩, hS.F ht⟩) hS.2.2 dX2_change_67
  · refine lv_iload_n hx hb dX2_change_0 rfl (lv_at hl 1 rfl) ?_
    refine lv_if_lt (tgt := 12) hx hb dX2_change_1 (by decide) (fun c_0 => absurd c_0 (show ¬ (nI k) < (0 : Int32) from (by simp (disch := omega) only [ti_lt, ti_le, ti_eq, ti_0, ti_1, ti_2, ti_m1, ti_100, ti_2000, nI_toInt] <;> omega))) (fun c_8 => ?_)
    have k_8 : k ≥ 0 := by
      simp (disch := omega) only [ti_lt, ti_le, ti_eq, ti_0, ti_1, ti_2, ti_m1, ti_100, ti_2000, nI_toInt] at c_8
      omega
    refine lv_iload_n hx hb dX2_change_4 rfl (lv_at hl 1 rfl) ?_
    refine lv_aload_n hx hb dX2_change_5 rfl (lv_at hl 0 rfl) ?_
    refine va_get (D := (dC, dI)) (ci := 2) (v := .int (nI nk)) (C := RX2) (T := TX2) (N := 8) hx hb hts inX2_change_X2 hown hK hP 0 rfl rfl 5 (by decide) (hts (.fieldLink RX2 32 "QueueHallModel" "chains" "I") (List.mem_of_getElem? (i := 1) (by decide +kernel))) (fun _ h9 => h9) rfl dX2_change_6 ?_
    refine lv_icmp_lt (tgt := 16) hx hb dX2_change_9 (by decide) (fun c_9 => ?_) (fun c_0 => absurd (show (nI k) < (nI nk) from (by simp (disch := omega) only [ti_lt, ti_le, ti_eq, ti_0, ti_1, ti_2, ti_m1, ti_100, ti_2000, nI_toInt] <;> omega)) c_0)
    have k_9 : k < nk := by
      simp (disch := omega) only [ti_lt, ti_le, ti_eq, ti_0, ti_1, ti_2, ti_m1, ti_100, ti_2000, nI_toInt] at c_9
      omega
    refine lv_aload_n hx hb dX2_change_16 rfl (lv_at hl 0 rfl) ?_
    refine va_get (D := (dC, dI)) (ci := 2) (v := .ref c3) (C := RX2) (T := TX2) (N := 8) hx hb hts inX2_change_X2 hown hK hP 0 rfl rfl 2 (by decide) (hts (.fieldLink RX2 16 "QueueHallModel" "chain" "[I") (List.mem_of_getElem? (i := 3) (by decide +kernel))) (fun _ h9 => h9) rfl dX2_change_17 ?_
    refine lv_iload_n hx hb dX2_change_20 rfl (lv_at hl 1 rfl) ?_
    refine q_iald (k := k) hx hb hK hP 3 0 rfl rfl (by omega) (by omega) dX2_change_21 ?_
    refine lv_istore (lv' := [(4, .int (ek k)), (0, .ref m0), (1, .int (nI k)), (2, .int p1), (3, .int p2)]) hx hb dX2_change_22 hl (by decide) rfl (fun ls hl => ?_)
    refine lv_iload_n hx hb dX2_change_24 rfl (lv_at hl 4 rfl) ?_
    refine lv_if_eq (tgt := 57) hx hb dX2_change_25 (by decide) (fun c_0 => absurd c_0 (show ¬ p2 = (0 : Int32) from hz)) (fun c_10 => ?_)
    refine lv_aload_n hx hb dX2_change_28 rfl (lv_at hl 1 rfl) ?_
    refine va_get (D := (dC, dI)) (ci := 2) (v := .ref c3) (C := RX2) (T := TX2) (N := 8) hx hb hts inX2_change_X2 hown hK hP 0 rfl rfl 2 (by decide) (hts (.fieldLink RX2 16 "QueueHallModel" "chain" "[I") (List.mem_of_getElem? (i := 3) (by decide +kernel))) (fun _ h9 => h9) rfl dX2_change_29 ?_
    refine lv_aload_n hx hb dX2_change_32 rfl (lv_at hl 1 rfl) ?_
    refine va_get (D := (dC, dI)) (ci := 2) (v := .int (nI nk)) (C := RX2) (T := TX2) (N := 8) hx hb hts inX2_change_X2 hown hK hP 0 rfl rfl 5 (by decide) (hts (.fieldLink RX2 32 "QueueHallModel" "chains" "I") (List.mem_of_getElem? (i := 1) (by decide +kernel))) (fun _ h9 => h9) rfl dX2_change_33 ?_
    refine lv_iload_n hx hb dX2_change_36 rfl (lv_at hl 2 rfl) ?_
    have hPc := hP.sub (ws' := [(c3, .inl (cA, 2000, .inl ek))]) [3] rfl
    have hKc := hK.sub (tys' := [(cA, .int)]) [0] rfl
    have hDc := hD.sub (ws' := [(c3, .inl (cA, 2000, .inl ek))]) [3] (by decide) rfl
    have hFc := va_free (wc := [(c3, .inl (cA, 2000, .inl ek))]) hD hS hA [3] rfl
    refine va_callv (va_runS (As := [.ref c3, .int (nI nk), .int (nI k)]) (rest := []) ⟨hx, hb, hml, hown, hts⟩ (c_Mod_take l dC dI s.heap.size c3 nk k cA ek gk (by omega) (by omega) ha3) (cwS 3 hts gX2_change_X2_take_v rfl rfl rfl (by decide +kernel) ⟨Nat.le_of_ble_eq_true rfl, Nat.le_of_ble_eq_true rfl⟩) ⟨q_blW, fun U hU hW => ⟨rfl, by rw [hU], by rw [hU]; exact hPc, va_K.moved hW.alike hKc, hDc.weaken (fun _ _ _ _ => trivial)⟩⟩ rfl rfl hl.1 rfl (lv_room (Nat.le_of_ble_eq_true rfl)) dX2_change_37 ⟨Nat.le_of_ble_eq_true rfl, Nat.le_of_ble_eq_true rfl⟩) hS (fun q _ h => hFc q h) hFc (fun u_11 t_11 H1 locs ht hvm hw hB hz1 hk1 hS => ?_)
    subst hw
    obtain ⟨f_11, hg_11, hP1, hK1, hD1⟩ := hB
    rw [ht] at hP1
    obtain ⟨hP, hD⟩ := q_join (wr := [(m0, .inr (2, [.ref c1, .ref c2, .ref c3, .int (nI nh), .int (nI nr), .int (nI nk), .int fi, .int me])), (c1, .inl (cA, 2000, .inl eh)), (c2, .inl (cA, 2000, .inl er))]) (w1 := [(c3, .inl (cA, 2000, .inl f_11))]) (wz := [(m0, .inr (2, [.ref c1, .ref c2, .ref c3, .int (nI nh), .int (nI nr), .int (nI nk), .int fi, .int me])), (c1, .inl (cA, 2000, .inl eh)), (c2, .inl (cA, 2000, .inl er)), (c3, .inl (cA, 2000, .inl f_11))]) hP hD [3] [0, 1, 2] [0, 1, 2, 3] rfl rfl (by decide) (by decide) hk1 hFc hP1 hD1 rfl rfl (by decide)
    generalize H1 = H at hP hS ⊢
    refine lv_aload_n hx hb dX2_change_40 rfl (lv_at hl 1 rfl) ?_
    refine lv_dup hx hb dX2_change_41 rfl ?_
    refine va_get (D := (dC, dI)) (ci := 2) (v := .int (nI nk)) (C := RX2) (T := TX2) (N := 8) hx hb hts inX2_change_X2 hown hK hP 0 rfl rfl 5 (by decide) (hts (.fieldLink RX2 32 "QueueHallModel" "chains" "I") (List.mem_of_getElem? (i := 1) (by decide +kernel))) (fun _ h9 => h9) rfl dX2_change_42 ?_
    refine lv_iconst (v := 1) hx hb dX2_change_45 (by decide) ?_
    refine lv_isub hx hb dX2_change_46 ?_
    refine q_top (y := nI (nk - 1)) (q_m1 (by omega)) ?_
    refine va_put (D := (dC, dI)) (ci := 2) (v := .int (nI (nk - 1))) (ty := .int) (C := RX2) (T := TX2) (N := 8) hx hb hts inX2_change_X2 tyX2 tyX2_ok nmX2 hown hK hP hD hS 0 rfl rfl 5 (by decide) (hts (.fieldLink RX2 32 "QueueHallModel" "chains" "I") (List.mem_of_getElem? (i := 1) (by decide +kernel))) (fun _ h9 => h9) rfl (by decide +kernel) rfl rfl (Nat.le_of_ble_eq_true rfl) dX2_change_47 (fun H locs hP hD hS => ?_)
    have hP : va_P (dC, dI) vwCl [(m0, .inr (2, [.ref c1, .ref c2, .ref c3, .int (nI nh), .int (nI nr), .int (nI (nk - 1)), .int fi, .int me])), (c1, .inl (cA, 2000, .inl eh)), (c2, .inl (cA, 2000, .inl er)), (c3, .inl (cA, 2000, .inl f_11))] H := hP
    have hD : va_D A [(m0, .inr (2, [.ref c1, .ref c2, .ref c3, .int (nI nh), .int (nI nr), .int (nI (nk - 1)), .int fi, .int me])), (c1, .inl (cA, 2000, .inl eh)), (c2, .inl (cA, 2000, .inl er)), (c3, .inl (cA, 2000, .inl f_11))] := hD
    refine lv_aload_n hx hb dX2_change_50 rfl (lv_at hl 1 rfl) ?_
    have hPc := hP.sub (ws' := [(m0, .inr (2, [.ref c1, .ref c2, .ref c3, .int (nI nh), .int (nI nr), .int (nI (nk - 1)), .int fi, .int me]))]) [0] rfl
    have hKc := hK.sub (tys' := []) [] rfl
    have hDc := hD.sub (ws' := [(m0, .inr (2, [.ref c1, .ref c2, .ref c3, .int (nI nh), .int (nI nr), .int (nI (nk - 1)), .int fi, .int me]))]) [0] (by decide) rfl
    have hFc := va_free (wc := [(m0, .inr (2, [.ref c1, .ref c2, .ref c3, .int (nI nh), .int (nI nr), .int (nI (nk - 1)), .int fi, .int me]))]) hD hS hA [0] rfl
    refine va_callv (va_runV (As := []) (rest := []) ⟨hx, hb, hml, hown, hts⟩ (c_Mod_lift l dC dI H.size m0 c1 c2 c3 nh nr (nk - 1) fi me) (cwV 0 hts gX2_change_X2_lift_v rfl rfl rfl (by decide +kernel) ⟨Nat.le_of_ble_eq_true rfl, Nat.le_of_ble_eq_true rfl⟩) ⟨q_blW, va_recv hKc hPc (ci := 2) (q0 := 0) rfl rfl, fun U hU hW => ⟨rfl, by rw [hU], by rw [hU]; exact hPc, va_K.moved hW.alike hKc, hDc.weaken (fun _ _ _ _ => trivial)⟩⟩ rfl rfl hl.1 rfl (lv_room (Nat.le_of_ble_eq_true rfl)) dX2_change_51 ⟨Nat.le_of_ble_eq_true rfl, Nat.le_of_ble_eq_true rfl⟩) hS (fun q _ h => hFc q h) hFc (fun u_12 t_12 H1 locs ht hvm hw hB hz1 hk1 hS => ?_)
    subst hw
    obtain ⟨hP1, hK1, hD1⟩ := hB
    rw [ht] at hP1
    obtain ⟨hP, hD⟩ := q_join (wr := [(c1, .inl (cA, 2000, .inl eh)), (c2, .inl (cA, 2000, .inl er)), (c3, .inl (cA, 2000, .inl f_11))]) (w1 := [(m0, .inr (2, [.ref c1, .ref c2, .ref c3, .int (nI nh), .int (nI nr), .int (nI (nk - 1)), .int (-1), .int (-1)]))]) (wz := [(m0, .inr (2, [.ref c1, .ref c2, .ref c3, .int (nI nh), .int (nI nr), .int (nI (nk - 1)), .int (-1), .int (-1)])), (c1, .inl (cA, 2000, .inl eh)), (c2, .inl (cA, 2000, .inl er)), (c3, .inl (cA, 2000, .inl f_11))]) hP hD [0] [1, 2, 3] [3, 0, 1, 2] rfl rfl (by decide) (by decide) hk1 hFc hP1 hD1 rfl rfl (by decide)
    generalize H1 = H at hP hS ⊢
    refine lv_goto (tgt := 64) hx hb dX2_change_54 (by decide) ?_
    refine lv_iload hx hb dX2_change_64 (lv_at hl 0 rfl) ?_
    refine lv_i2l (v := (ek k).toInt64) hx hb dX2_change_66 rfl ?_
    exact W.lret (v := (ek k).toInt64) hx hb hr (fun t ht hW => ⟨⟨(ek k).toInt64, ((gh, nh), (gr, nr), (qDel gk k, nk - 1), -1, -1), rfl, (by simp only [qChange, qHp_in hk (show nk < 2 ^ 31 by omega), if_neg q_ne10, nI_clamp (show k < 2 ^ 31 by omega), if_neg hz, ha3 k hk]), eh, er, f_11, ha1, ha2, hg_11, by rw [ht]; exact hP, va_K.moved hW.alike hK, hD⟩, hS.F ht⟩) hS.2.2 dX2_change_67

set_option maxHeartbeats 4000000 in
set_option maxRecDepth 100000 in
theorem c_Mod_chain (l : Launch) (dC : Nat → ClassId) (dI : Nat → Nat → Nat) (m0 c1 c2 c3 nh nr nk : Nat) (cA : ClassId) (eh gh er gr ek gk : Nat → Int32) (fi me : Int32) (p0 : Int32) (hn : nh + nr + nk < 2000) (ha1 : qAg nh eh gh) (ha2 : qAg nr er gr) (ha3 : qAg nk ek gk) (hF : qFok fi me nk) : Met l yX2_chain wsX2_chain ({ frames := 1, cells := 0, slots := 0, locals := 25 }) (va_Pc [.ref m0, .int p0] (fun U => va_P (dC, dI) vwCl [(m0, .inr (2, [.ref c1, .ref c2, .ref c3, .int (nI nh), .int (nI nr), .int (nI nk), .int fi, .int me])), (c1, .inl (cA, 2000, .inl eh)), (c2, .inl (cA, 2000, .inl er)), (c3, .inl (cA, 2000, .inl ek))] U.heap ∧ va_K (dC, dI) vwCl [(cA, .int)] U)) (vp_Sl (fun r => r = (qChain p0 ((gh, nh), (gr, nr), (gk, nk), fi, me)).1)) 0 0 (fun _ => False) := by
  refine Met.ofW (cc := cX2_chain) (maxL := 2) (ret := (some .long)) (by decide +kernel) rfl ?_
  intro p e s m args below meth c s₁ B hml hv
  obtain ⟨rfl, hP, hK⟩ := hv
  have hx := B.exec
  have hb := B.bytes
  have hr := B.returns
  have hts := atoms_spec (ws := wsX2_chain) B.pre
  have hown : s.vm.findClass RX2 = some m.cls := findClass_of_methodNamed B.named
  have hlocks := B.notSynchronized
  have hl := lv_entry ([.ref m0, .int p0]) (n := 2) (Nat.le_of_ble_eq_true rfl)
  rw [lg_entry_eq]
  generalize (lg_sl ([.ref m0, .int p0]) ++ List.replicate (2 - (lg_sl ([.ref m0, .int p0])).length) Slot.unset).toArray = ls at hl ⊢
  have hl : lv_has ls 2 [(0, .ref m0), (1, .int p0)] := hl
  rcases qHp_c p0 (n := nk) (by omega) with h | ⟨k, hk, rfl⟩
  · refine lv_iload_n hx hb dX2_chain_0 rfl (lv_at hl 1 rfl) ?_
    refine lv_if_lt (tgt := 12) hx hb dX2_chain_1 (by decide) (fun c_1 => ?_) (fun c_1 => ?_)
    · refine lv_ldc2 (v := qNo) hx hb hown (hts (.constantLong RX2 39 (1099511627776)) (List.mem_of_getElem? (i := 2) (by decide +kernel))) dX2_chain_12 ?_
      refine lv_goto (tgt := 25) hx hb dX2_chain_15 (by decide) ?_
      exact W.lret (v := qNo) hx hb hr (fun t ht hW => ⟨qNo, rfl, (qAt_o h).symm, ht⟩) (fun q h => by cases h) dX2_chain_25
    · refine lv_iload_n hx hb dX2_chain_4 rfl (lv_at hl 1 rfl) ?_
      refine lv_aload_n hx hb dX2_chain_5 rfl (lv_at hl 0 rfl) ?_
      refine va_get (D := (dC, dI)) (ci := 2) (v := .int (nI nk)) (C := RX2) (T := TX2) (N := 8) hx hb hts inX2_chain_X2 hown hK hP 0 rfl rfl 5 (by decide) (hts (.fieldLink RX2 32 "QueueHallModel" "chains" "I") (List.mem_of_getElem? (i := 1) (by decide +kernel))) (fun _ h9 => h9) rfl dX2_chain_6 ?_
      refine lv_icmp_lt (tgt := 18) hx hb dX2_chain_9 (by decide) (fun c_0 => absurd c_0 (show ¬ p0 < (nI nk) from (fun q => by have q3 := qHp_o h c_1; rw [ti_le] at q3; rw [ti_lt] at q; omega))) (fun c_2 => ?_)
      refine lv_ldc2 (v := qNo) hx hb hown (hts (.constantLong RX2 39 (1099511627776)) (List.mem_of_getElem? (i := 2) (by decide +kernel))) dX2_chain_12 ?_
      refine lv_goto (tgt := 25) hx hb dX2_chain_15 (by decide) ?_
      exact W.lret (v := qNo) hx hb hr (fun t ht hW => ⟨qNo, rfl, (qAt_o h).symm, ht⟩) (fun q h => by cases h) dX2_chain_25
  · refine lv_iload_n hx hb dX2_chain_0 rfl (lv_at hl 1 rfl) ?_
    refine lv_if_lt (tgt := 12) hx hb dX2_chain_1 (by decide) (fun c_0 => absurd c_0 (show ¬ (nI k) < (0 : Int32) from (by simp (disch := omega) only [ti_lt, ti_le, ti_eq, ti_0, ti_1, ti_2, ti_m1, ti_100, ti_2000, nI_toInt] <;> omega))) (fun c_3 => ?_)
    have k_3 : k ≥ 0 := by
      simp (disch := omega) only [ti_lt, ti_le, ti_eq, ti_0, ti_1, ti_2, ti_m1, ti_100, ti_2000, nI_toInt] at c_3
      omega
    refine lv_iload_n hx hb dX2_chain_4 rfl (lv_at hl 1 rfl) ?_
    refine lv_aload_n hx hb dX2_chain_5 rfl (lv_at hl 0 rfl) ?_
    refine va_get (D := (dC, dI)) (ci := 2) (v := .int (nI nk)) (C := RX2) (T := TX2) (N := 8) hx hb hts inX2_chain_X2 hown hK hP 0 rfl rfl 5 (by decide) (hts (.fieldLink RX2 32 "QueueHallModel" "chains" "I") (List.mem_of_getElem? (i := 1) (by decide +kernel))) (fun _ h9 => h9) rfl dX2_chain_6 ?_
    refine lv_icmp_lt (tgt := 18) hx hb dX2_chain_9 (by decide) (fun c_4 => ?_) (fun c_0 => absurd (show (nI k) < (nI nk) from (by simp (disch := omega) only [ti_lt, ti_le, ti_eq, ti_0, ti_1, ti_2, ti_m1, ti_100, ti_2000, nI_toInt] <;> omega)) c_0)
    have k_4 : k < nk := by
      simp (disch := omega) only [ti_lt, ti_le, ti_eq, ti_0, ti_1, ti_2, ti_m1, ti_100, ti_2000, nI_toInt] at c_4
      omega
    refine lv_aload_n hx hb dX2_chain_18 rfl (lv_at hl 0 rfl) ?_
    refine va_get (D := (dC, dI)) (ci := 2) (v := .ref c3) (C := RX2) (T := TX2) (N := 8) hx hb hts inX2_chain_X2 hown hK hP 0 rfl rfl 2 (by decide) (hts (.fieldLink RX2 16 "QueueHallModel" "chain" "[I") (List.mem_of_getElem? (i := 3) (by decide +kernel))) (fun _ h9 => h9) rfl dX2_chain_19 ?_
    refine lv_iload_n hx hb dX2_chain_22 rfl (lv_at hl 1 rfl) ?_
    refine q_iald (k := k) hx hb hK hP 3 0 rfl rfl (by omega) (by omega) dX2_chain_23 ?_
    refine lv_i2l (v := (ek k).toInt64) hx hb dX2_chain_24 rfl ?_
    exact W.lret (v := (ek k).toInt64) hx hb hr (fun t ht hW => ⟨(ek k).toInt64, rfl, (by simp only [qChain, qAt_i hk (show nk < 2 ^ 31 by omega), ha3 k hk]), ht⟩) (fun q h => by cases h) dX2_chain_25

set_option maxHeartbeats 4000000 in
set_option maxRecDepth 100000 in
theorem c_Mod_find (l : Launch) (dC : Nat → ClassId) (dI : Nat → Nat → Nat) (m0 c1 c2 c3 nh nr nk : Nat) (cA : ClassId) (eh gh er gr ek gk : Nat → Int32) (fi me : Int32) (p0 p1 : Int32) (hn : nh + nr + nk < 2000) (ha1 : qAg nh eh gh) (ha2 : qAg nr er gr) (ha3 : qAg nk ek gk) (hF : qFok fi me nk) : Met l yX2_find wsX2_find ({ frames := 1, cells := 0, slots := 0, locals := 25 }) (va_Pc [.ref m0, .int p0, .int p1] (fun U => va_P (dC, dI) vwCl [(m0, .inr (2, [.ref c1, .ref c2, .ref c3, .int (nI nh), .int (nI nr), .int (nI nk), .int fi, .int me])), (c1, .inl (cA, 2000, .inl eh)), (c2, .inl (cA, 2000, .inl er)), (c3, .inl (cA, 2000, .inl ek))] U.heap ∧ va_K (dC, dI) vwCl [(cA, .int)] U)) (vp_Si (fun r => r = (qFind p0 p1 ((gh, nh), (gr, nr), (gk, nk), fi, me)).1)) 0 0 (fun _ => False) := by
  refine Met.ofW (cc := cX2_find) (maxL := 3) (ret := (some .int)) (by decide +kernel) rfl ?_
  intro p e s m args below meth c s₁ B hml hv
  obtain ⟨rfl, hP, hK⟩ := hv
  have hx := B.exec
  have hb := B.bytes
  have hr := B.returns
  have hts := atoms_spec (ws := wsX2_find) B.pre
  have hown : s.vm.findClass RX2 = some m.cls := findClass_of_methodNamed B.named
  have hlocks := B.notSynchronized
  have hl := lv_entry ([.ref m0, .int p0, .int p1]) (n := 3) (Nat.le_of_ble_eq_true rfl)
  rw [lg_entry_eq]
  generalize (lg_sl ([.ref m0, .int p0, .int p1]) ++ List.replicate (3 - (lg_sl ([.ref m0, .int p0, .int p1])).length) Slot.unset).toArray = ls at hl ⊢
  have hl : lv_has ls 3 [(0, .ref m0), (1, .int p0), (2, .int p1)] := hl
  refine lv_aload_n hx hb dX2_find_0 rfl (lv_at hl 0 rfl) ?_
  refine va_get (D := (dC, dI)) (ci := 2) (v := .ref c3) (C := RX2) (T := TX2) (N := 8) hx hb hts inX2_find_X2 hown hK hP 0 rfl rfl 2 (by decide) (hts (.fieldLink RX2 16 "QueueHallModel" "chain" "[I") (List.mem_of_getElem? (i := 1) (by decide +kernel))) (fun _ h9 => h9) rfl dX2_find_1 ?_
  refine lv_aload_n hx hb dX2_find_4 rfl (lv_at hl 0 rfl) ?_
  refine va_get (D := (dC, dI)) (ci := 2) (v := .int (nI nk)) (C := RX2) (T := TX2) (N := 8) hx hb hts inX2_find_X2 hown hK hP 0 rfl rfl 5 (by decide) (hts (.fieldLink RX2 32 "QueueHallModel" "chains" "I") (List.mem_of_getElem? (i := 2) (by decide +kernel))) (fun _ h9 => h9) rfl dX2_find_5 ?_
  refine lv_iload_n hx hb dX2_find_8 rfl (lv_at hl 1 rfl) ?_
  refine lv_iload_n hx hb dX2_find_9 rfl (lv_at hl 2 rfl) ?_
  have hPc := hP.sub (ws' := [(c3, .inl (cA, 2000, .inl ek))]) [3] rfl
  have hKc := hK.sub (tys' := [(cA, .int)]) [0] rfl
  refine q_csiE (va_runS (As := [.ref c3, .int (nI nk), .int p0, .int p1]) (rest := []) ⟨hx, hb, hml, hown, hts⟩ (c_Mod_place l dC dI c3 nk cA ek gk p0 p1 (by omega) ha3) (cwS 4 hts gX2_find_X2_place_v rfl rfl rfl (by decide +kernel) ⟨Nat.le_of_ble_eq_true rfl, Nat.le_of_ble_eq_true rfl⟩) ⟨q_blR, fun U hU hW => ⟨rfl, by rw [hU]; exact hPc, va_K.moved hW.alike hKc⟩⟩ rfl rfl hl.1 rfl (lv_room (Nat.le_of_ble_eq_true rfl)) dX2_find_10 ⟨Nat.le_of_ble_eq_true rfl, Nat.le_of_ble_eq_true rfl⟩) ?_
  exact W.iret (v := qPl gk p0 p1 nk) hx hb hr (fun t ht hW => ⟨qPl gk p0 p1 nk, rfl, rfl, ht⟩) (fun q h => by cases h) dX2_find_13

set_option maxHeartbeats 4000000 in
set_option maxRecDepth 100000 in
theorem c_Mod_finger (l : Launch) (dC : Nat → ClassId) (dI : Nat → Nat → Nat) (m0 c1 c2 c3 nh nr nk : Nat) (cA : ClassId) (eh gh er gr ek gk : Nat → Int32) (fi me : Int32) (hn : nh + nr + nk < 2000) (ha1 : qAg nh eh gh) (ha2 : qAg nr er gr) (ha3 : qAg nk ek gk) (hF : qFok fi me nk) : Met l yX2_finger wsX2_finger ({ frames := 1, cells := 0, slots := 0, locals := 25 }) (va_Pc [.ref m0] (fun U => va_P (dC, dI) vwCl [(m0, .inr (2, [.ref c1, .ref c2, .ref c3, .int (nI nh), .int (nI nr), .int (nI nk), .int fi, .int me])), (c1, .inl (cA, 2000, .inl eh)), (c2, .inl (cA, 2000, .inl er)), (c3, .inl (cA, 2000, .inl ek))] U.heap ∧ va_K (dC, dI) vwCl [(cA, .int)] U)) (vp_Si (fun r => r = (qFinger ((gh, nh), (gr, nr), (gk, nk), fi, me)).1)) 0 0 (fun _ => False) := by
  refine Met.ofW (cc := cX2_finger) (maxL := 1) (ret := (some .int)) (by decide +kernel) rfl ?_
  intro p e s m args below meth c s₁ B hml hv
  obtain ⟨rfl, hP, hK⟩ := hv
  have hx := B.exec
  have hb := B.bytes
  have hr := B.returns
  have hts := atoms_spec (ws := wsX2_finger) B.pre
  have hown : s.vm.findClass RX2 = some m.cls := findClass_of_methodNamed B.named
  have hlocks := B.notSynchronized
  have hl := lv_entry ([.ref m0]) (n := 1) (Nat.le_of_ble_eq_true rfl)
  rw [lg_entry_eq]
  generalize (lg_sl ([.ref m0]) ++ List.replicate (1 - (lg_sl ([.ref m0])).length) Slot.unset).toArray = ls at hl ⊢
  have hl : lv_has ls 1 [(0, .ref m0)] := hl
  refine lv_aload_n hx hb dX2_finger_0 rfl (lv_at hl 0 rfl) ?_
  refine va_get (D := (dC, dI)) (ci := 2) (v := .int fi) (C := RX2) (T := TX2) (N := 8) hx hb hts inX2_finger_X2 hown hK hP 0 rfl rfl 6 (by decide) (hts (.fieldLink RX2 19 "QueueHallModel" "finger" "I") (List.mem_of_getElem? (i := 1) (by decide +kernel))) (fun _ h9 => h9) rfl dX2_finger_1 ?_
  exact W.iret (v := fi) hx hb hr (fun t ht hW => ⟨fi, rfl, rfl, ht⟩) (fun q h => by cases h) dX2_finger_4

set_option maxHeartbeats 4000000 in
set_option maxRecDepth 100000 in
theorem lp_sieve {p : Program} {l : Launch} {e : Env} {s : State} {m : MethodId} {args : Array Value} {below : List Frame} {meth : Method} {c : Code} {Q : State → Prop} {dC : Nat → ClassId} {dI : Nat → Nat → Nat} {A : Nat → Prop} (m0 c1 c2 c3 nh nr nk : Nat) (cA : ClassId) (eh gh er gr ek gk : Nat → Int32) (fi me : Int32) (p0 p1 : Int32) (hn : nh + nr + nk < 2000) (ha1 : qAg nh eh gh) (ha2 : qAg nr er gr) (ha3 : qAg nk ek gk) (hF : qFok fi me nk) (hnz : ¬ p0 = 0) (hx : p.tables.exec = Jvm.exec) (hb : c.code = cX2_sieve) (hml : c.maxLocals = 5) (hts : ∀ w ∈ wsX2_sieve, w.before args s = true) (hown : s.vm.findClass RX2 = some m.cls) (hK : va_K (dC, dI) vwCl [(cA, .int)] s) (hA : ∀ q : Nat, s.heap.size ≤ q → A q)
    (E0 : ∀ (b : Nat) (a : Nat → Int32), (b = qSc gr p0 p1 nr) → (qSv a gr p0 p1 nr nr) → ∀ (H : Heap) (locs : List Loc), va_P (dC, dI) vwCl [(m0, .inr (2, [.ref c1, .ref c2, .ref c3, .int (nI nh), .int (nI nr), .int (nI nk), .int fi, .int me])), (c1, .inl (cA, 2000, .inl eh)), (c2, .inl (cA, 2000, .inl a)), (c3, .inl (cA, 2000, .inl ek))] H → va_D A [(m0, .inr (2, [.ref c1, .ref c2, .ref c3, .int (nI nh), .int (nI nr), .int (nI nk), .int fi, .int me])), (c1, .inl (cA, 2000, .inl eh)), (c2, .inl (cA, 2000, .inl a)), (c3, .inl (cA, 2000, .inl ek))] → va_S A s.heap H locs → ∀ ls : Array Slot, lv_has ls 5 [(0, .ref m0), (1, .int p0), (2, .int p1), (3, .int (nI b))] → W p l e (headSpec wsX2_sieve ({ frames := 1, cells := 0, slots := 0, locals := 25 })).room s m args below meth c H locs 0 0 Q (F0 m 61 ls [])) :
    ∀ (fu : Nat) (i : Nat) (b : Nat) (a : Nat → Int32), (nr + 1 ≤ i + fu) → (i ≤ nr) → (b = qSc gr p0 p1 i) → (qSv a gr p0 p1 i nr) → ∀ (H : Heap) (locs : List Loc), va_P (dC, dI) vwCl [(m0, .inr (2, [.ref c1, .ref c2, .ref c3, .int (nI nh), .int (nI nr), .int (nI nk), .int fi, .int me])), (c1, .inl (cA, 2000, .inl eh)), (c2, .inl (cA, 2000, .inl a)), (c3, .inl (cA, 2000, .inl ek))] H → va_D A [(m0, .inr (2, [.ref c1, .ref c2, .ref c3, .int (nI nh), .int (nI nr), .int (nI nk), .int fi, .int me])), (c1, .inl (cA, 2000, .inl eh)), (c2, .inl (cA, 2000, .inl a)), (c3, .inl (cA, 2000, .inl ek))] → va_S A s.heap H locs → ∀ ls : Array Slot, lv_has ls 5 [(0, .ref m0), (1, .int p0), (2, .int p1), (3, .int (nI b)), (4, .int (nI i))] → W p l e (headSpec wsX2_sieve ({ frames := 1, cells := 0, slots := 0, locals := 25 })).room s m args below meth c H locs 0 0 Q (F0 m 12 ls []) := by
  intro fu
  induction fu with
  | zero =>
    intro i b a hfu hi hb0 hv
    exact absurd hfu (by omega)
  | succ fu ih =>
    intro i b a hfu hi hb0 hv H locs hP hD hS ls hl
    have hbi := qSc_le (g := gr) (st := p0) (re := p1) i
    refine lv_iload hx hb dX2_sieve_12 (lv_at hl 4 rfl) ?_
    refine lv_aload_n hx hb dX2_sieve_14 rfl (lv_at hl 0 rfl) ?_
    refine va_get (D := (dC, dI)) (ci := 2) (v := .int (nI nr)) (C := RX2) (T := TX2) (N := 8) hx hb hts inX2_sieve_X2 hown hK hP 0 rfl rfl 4 (by decide) (hts (.fieldLink RX2 29 "QueueHallModel" "rings" "I") (List.mem_of_getElem? (i := 1) (by decide +kernel))) (fun _ h9 => h9) rfl dX2_sieve_15 ?_
    refine lv_icmp_ge (tgt := 61) hx hb dX2_sieve_18 (by decide) (fun c_1 => ?_) (fun c_1 => ?_)
    · have k_1 : i ≥ nr := by
        simp (disch := omega) only [ti_lt, ti_le, ti_eq, ti_0, ti_1, ti_2, ti_m1, ti_100, ti_2000, nI_toInt] at c_1
        omega
      exact E0 b a (by rw [hb0, show i = nr by omega]) (qSv_end hv (by omega)) _ _ hP hD hS ls (lv_sub hl [0, 1, 2, 3] rfl)
    · have k_1 : i < nr := by
        simp (disch := omega) only [ti_lt, ti_le, ti_eq, ti_0, ti_1, ti_2, ti_m1, ti_100, ti_2000, nI_toInt] at c_1
        omega
      refine lv_aload_n hx hb dX2_sieve_21 rfl (lv_at hl 0 rfl) ?_
      refine va_get (D := (dC, dI)) (ci := 2) (v := .ref c2) (C := RX2) (T := TX2) (N := 8) hx hb hts inX2_sieve_X2 hown hK hP 0 rfl rfl 1 (by decide) (hts (.fieldLink RX2 13 "QueueHallModel" "ring" "[I") (List.mem_of_getElem? (i := 2) (by decide +kernel))) (fun _ h9 => h9) rfl dX2_sieve_22 ?_
      refine lv_iload hx hb dX2_sieve_25 (lv_at hl 4 rfl) ?_
      refine q_iald (k := i) hx hb hK hP 2 0 rfl rfl (by omega) (by omega) dX2_sieve_27 ?_
      refine lv_iload_n hx hb dX2_sieve_28 rfl (lv_at hl 1 rfl) ?_
      have hPc := hP.sub (ws' := []) [] rfl
      have hKc := hK.sub (tys' := []) [] rfl
      refine q_csiE (va_runS (As := [.int (a i), .int p0]) (rest := []) ⟨hx, hb, hml, hown, hts⟩ (c_floorMod l dC dI (a i) p0 hnz) (va_cwS 2 hts gX2_sieve_J9_floorMod_7cf53_v rfl rfl rfl (by decide +kernel) ⟨Nat.le_of_ble_eq_true rfl, Nat.le_of_ble_eq_true rfl⟩) ⟨q_blR, fun U hU hW => ⟨rfl, by rw [hU]; exact hPc, va_K.moved hW.alike hKc⟩⟩ rfl rfl hl.1 rfl (lv_room (Nat.le_of_ble_eq_true rfl)) dX2_sieve_29 ⟨Nat.le_of_ble_eq_true rfl, Nat.le_of_ble_eq_true rfl⟩) ?_
      refine lv_iload_n hx hb dX2_sieve_32 rfl (lv_at hl 2 rfl) ?_
      refine lv_icmp_ne (tgt := 39) hx hb dX2_sieve_33 (by decide) (fun c_2 => ?_) (fun c_2 => ?_)
      · refine lv_aload_n hx hb dX2_sieve_39 rfl (lv_at hl 0 rfl) ?_
        refine va_get (D := (dC, dI)) (ci := 2) (v := .ref c2) (C := RX2) (T := TX2) (N := 8) hx hb hts inX2_sieve_X2 hown hK hP 0 rfl rfl 1 (by decide) (hts (.fieldLink RX2 13 "QueueHallModel" "ring" "[I") (List.mem_of_getElem? (i := 2) (by decide +kernel))) (fun _ h9 => h9) rfl dX2_sieve_40 ?_
        refine lv_iload_n hx hb dX2_sieve_43 rfl (lv_at hl 3 rfl) ?_
        refine lv_aload_n hx hb dX2_sieve_44 rfl (lv_at hl 0 rfl) ?_
        refine va_get (D := (dC, dI)) (ci := 2) (v := .ref c2) (C := RX2) (T := TX2) (N := 8) hx hb hts inX2_sieve_X2 hown hK hP 0 rfl rfl 1 (by decide) (hts (.fieldLink RX2 13 "QueueHallModel" "ring" "[I") (List.mem_of_getElem? (i := 2) (by decide +kernel))) (fun _ h9 => h9) rfl dX2_sieve_45 ?_
        refine lv_iload hx hb dX2_sieve_48 (lv_at hl 4 rfl) ?_
        refine q_iald (k := i) hx hb hK hP 2 0 rfl rfl (by omega) (by omega) dX2_sieve_50 ?_
        refine q_iast (k := b) hx hb hK hP hD hS 2 0 rfl rfl (by omega) (by omega) dX2_sieve_51 (fun H locs hP hD hS => ?_)
        have hP : va_P (dC, dI) vwCl [(m0, .inr (2, [.ref c1, .ref c2, .ref c3, .int (nI nh), .int (nI nr), .int (nI nk), .int fi, .int me])), (c1, .inl (cA, 2000, .inl eh)), (c2, .inl (cA, 2000, .inl (upd a b (a i)))), (c3, .inl (cA, 2000, .inl ek))] H := hP
        have hD : va_D A [(m0, .inr (2, [.ref c1, .ref c2, .ref c3, .int (nI nh), .int (nI nr), .int (nI nk), .int fi, .int me])), (c1, .inl (cA, 2000, .inl eh)), (c2, .inl (cA, 2000, .inl (upd a b (a i)))), (c3, .inl (cA, 2000, .inl ek))] := hD
        refine lv_iinc (v := nI (b + 1)) (lv' := [(3, .int (nI (b + 1))), (0, .ref m0), (1, .int p0), (2, .int p1), (4, .int (nI i))]) hx hb dX2_sieve_52 hl (k := 3) rfl (nI_1 b) (by decide) rfl (fun ls hl => ?_)
        refine lv_iinc (v := nI (i + 1)) (lv' := [(4, .int (nI (i + 1))), (3, .int (nI (b + 1))), (0, .ref m0), (1, .int p0), (2, .int p1)]) hx hb dX2_sieve_55 hl (k := 4) rfl (nI_1 i) (by decide) rfl (fun ls hl => ?_)
        refine lv_goto (tgt := 12) hx hb dX2_sieve_58 (by decide) ?_
        exact ih (i + 1) (b + 1) (upd a b (a i)) (by omega) (by omega) (by rw [(qSv_y hv k_1 c_2).2, hb0]) (by rw [hb0]; exact (qSv_y hv k_1 c_2).1) _ _ hP hD hS ls (lv_sub hl [2, 3, 4, 1, 0] rfl)
      · refine lv_goto (tgt := 55) hx hb dX2_sieve_36 (by decide) ?_
        refine lv_iinc (v := nI (i + 1)) (lv' := [(4, .int (nI (i + 1))), (0, .ref m0), (1, .int p0), (2, .int p1), (3, .int (nI b))]) hx hb dX2_sieve_55 hl (k := 4) rfl (nI_1 i) (by decide) rfl (fun ls hl => ?_)
        refine lv_goto (tgt := 12) hx hb dX2_sieve_58 (by decide) ?_
        exact ih (i + 1) b a (by omega) (by omega) (by rw [(qSv_n hv k_1 c_2).2]; exact hb0) ((qSv_n hv k_1 c_2).1) _ _ hP hD hS ls (lv_sub hl [1, 2, 3, 4, 0] rfl)

set_option maxHeartbeats 4000000 in
set_option maxRecDepth 100000 in
theorem c_Mod_sieve (l : Launch) (dC : Nat → ClassId) (dI : Nat → Nat → Nat) (sz : Nat) (m0 c1 c2 c3 nh nr nk : Nat) (cA : ClassId) (eh gh er gr ek gk : Nat → Int32) (fi me : Int32) (p0 p1 : Int32) (hn : nh + nr + nk < 2000) (ha1 : qAg nh eh gh) (ha2 : qAg nr er gr) (ha3 : qAg nk ek gk) (hF : qFok fi me nk) : Met l yX2_sieve wsX2_sieve ({ frames := 1, cells := 0, slots := 0, locals := 25 }) (va_Pc [.ref m0, .int p0, .int p1] (fun U => U.heap.size = sz ∧ va_P (dC, dI) vwCl [(m0, .inr (2, [.ref c1, .ref c2, .ref c3, .int (nI nh), .int (nI nr), .int (nI nk), .int fi, .int me])), (c1, .inl (cA, 2000, .inl eh)), (c2, .inl (cA, 2000, .inl er)), (c3, .inl (cA, 2000, .inl ek))] U.heap ∧ va_K (dC, dI) vwCl [(cA, .int)] U ∧ va_D (fun _ => True) [(m0, .inr (2, [.ref c1, .ref c2, .ref c3, .int (nI nh), .int (nI nr), .int (nI nk), .int fi, .int me])), (c1, .inl (cA, 2000, .inl eh)), (c2, .inl (cA, 2000, .inl er)), (c3, .inl (cA, 2000, .inl ek))])) (va_Qi (fun (r : Int32) (u : qS) => (r, u) = qSieveS p0 p1 ((gh, nh), (gr, nr), (gk, nk), fi, me)) (at_M dC dI (va_A [(m0, .inr (2, [.ref c1, .ref c2, .ref c3, .int (nI nh), .int (nI nr), .int (nI nk), .int fi, .int me])), (c1, .inl (cA, 2000, .inl eh)), (c2, .inl (cA, 2000, .inl er)), (c3, .inl (cA, 2000, .inl ek))] sz) m0 c1 c2 c3 cA) (va_A [(m0, .inr (2, [.ref c1, .ref c2, .ref c3, .int (nI nh), .int (nI nr), .int (nI nk), .int fi, .int me])), (c1, .inl (cA, 2000, .inl eh)), (c2, .inl (cA, 2000, .inl er)), (c3, .inl (cA, 2000, .inl ek))] sz)) 0 0 (va_A [(m0, .inr (2, [.ref c1, .ref c2, .ref c3, .int (nI nh), .int (nI nr), .int (nI nk), .int fi, .int me])), (c1, .inl (cA, 2000, .inl eh)), (c2, .inl (cA, 2000, .inl er)), (c3, .inl (cA, 2000, .inl ek))] sz) := by
  refine Met.ofW (cc := cX2_sieve) (maxL := 5) (ret := (some .int)) (by decide +kernel) rfl ?_
  intro p e s m args below meth c s₁ B hml hv
  obtain ⟨rfl, hsz, hP, hK, hD0⟩ := hv
  have hx := B.exec
  have hb := B.bytes
  have hr := B.returns
  have hts := atoms_spec (ws := wsX2_sieve) B.pre
  have hown : s.vm.findClass RX2 = some m.cls := findClass_of_methodNamed B.named
  have hlocks := B.notSynchronized
  subst hsz
  have hD := hD0.self (sz := s.heap.size)
  generalize hAe : va_A [(m0, .inr (2, [.ref c1, .ref c2, .ref c3, .int (nI nh), .int (nI nr), .int (nI nk), .int fi, .int me])), (c1, .inl (cA, 2000, .inl eh)), (c2, .inl (cA, 2000, .inl er)), (c3, .inl (cA, 2000, .inl ek))] s.heap.size = A at hD ⊢
  have hA : ∀ q : Nat, s.heap.size ≤ q → A q := fun q h => by rw [← hAe]; exact Or.inr h
  have hS : va_S A s.heap s.heap [] := va_S.rf
  have hl := lv_entry ([.ref m0, .int p0, .int p1]) (n := 5) (Nat.le_of_ble_eq_true rfl)
  rw [lg_entry_eq]
  generalize (lg_sl ([.ref m0, .int p0, .int p1]) ++ List.replicate (5 - (lg_sl ([.ref m0, .int p0, .int p1])).length) Slot.unset).toArray = ls at hl ⊢
  have hl : lv_has ls 5 [(0, .ref m0), (1, .int p0), (2, .int p1)] := hl
  by_cases h : p0 < 1
  · refine lv_iload_n hx hb dX2_sieve_0 rfl (lv_at hl 1 rfl) ?_
    refine lv_iconst (v := 1) hx hb dX2_sieve_1 (by decide) ?_
    refine lv_icmp_ge (tgt := 7) hx hb dX2_sieve_2 (by decide) (fun c_0 => absurd c_0 (show ¬ (1 : Int32) ≤ p0 from (fun q => by rw [ti_le, ti_1] at q; rw [ti_lt, ti_1] at h; omega))) (fun c_1 => ?_)
    refine lv_iconst (v := -1) hx hb dX2_sieve_5 (by decide) ?_
    exact W.iret (v := -1) hx hb hr (fun t ht hW => ⟨⟨-1, ((gh, nh), (gr, nr), (gk, nk), fi, me), rfl, (by simp only [qSieveS, qSieve, if_pos h]), eh, er, ek, ha1, ha2, ha3, by rw [ht]; exact hP, va_K.moved hW.alike hK, hD⟩, hS.F ht⟩) hS.2.2 dX2_sieve_6
  · refine lv_iload_n hx hb dX2_sieve_0 rfl (lv_at hl 1 rfl) ?_
    refine lv_iconst (v := 1) hx hb dX2_sieve_1 (by decide) ?_
    refine lv_icmp_ge (tgt := 7) hx hb dX2_sieve_2 (by decide) (fun c_2 => ?_) (fun c_0 => absurd (show (1 : Int32) ≤ p0 from (by rw [ti_lt, ti_1] at h; rw [ti_le, ti_1]; omega)) c_0)
    refine lv_iconst (v := nI 0) hx hb dX2_sieve_7 (by decide) ?_
    refine lv_istore_n (lv' := [(3, .int (nI 0)), (0, .ref m0), (1, .int p0), (2, .int p1)]) hx hb dX2_sieve_8 rfl hl (by decide) rfl (fun ls hl => ?_)
    refine lv_iconst (v := nI 0) hx hb dX2_sieve_9 (by decide) ?_
    refine lv_istore (lv' := [(4, .int (nI 0)), (3, .int (nI 0)), (0, .ref m0), (1, .int p0), (2, .int p1)]) hx hb dX2_sieve_10 hl (by decide) rfl (fun ls hl => ?_)
    refine lp_sieve m0 c1 c2 c3 nh nr nk cA eh gh er gr ek gk fi me p0 p1 hn ha1 ha2 ha3 hF (fun q => by rw [q] at h; exact h (by decide)) hx hb hml hts hown hK hA (fun b a hb0 hv H locs hP hD hS ls hl => ?_) (nr + 1) 0 0 er (by omega) (by omega) rfl (qSv_0 ha2) _ _ hP hD hS ls (lv_sub hl [2, 3, 4, 1, 0] rfl)
    have hbn := qSc_le (g := gr) (st := p0) (re := p1) nr
    refine lv_aload_n hx hb dX2_sieve_61 rfl (lv_at hl 0 rfl) ?_
    refine va_get (D := (dC, dI)) (ci := 2) (v := .int (nI nr)) (C := RX2) (T := TX2) (N := 8) hx hb hts inX2_sieve_X2 hown hK hP 0 rfl rfl 4 (by decide) (hts (.fieldLink RX2 29 "QueueHallModel" "rings" "I") (List.mem_of_getElem? (i := 1) (by decide +kernel))) (fun _ h9 => h9) rfl dX2_sieve_62 ?_
    refine lv_iload_n hx hb dX2_sieve_65 rfl (lv_at hl 3 rfl) ?_
    refine lv_isub hx hb dX2_sieve_66 ?_
    refine q_top (y := nI (nr - b)) (pk_sub (by omega)) ?_
    refine lv_istore (lv' := [(4, .int (nI (nr - b))), (0, .ref m0), (1, .int p0), (2, .int p1), (3, .int (nI b))]) hx hb dX2_sieve_67 hl (by decide) rfl (fun ls hl => ?_)
    refine lv_aload_n hx hb dX2_sieve_69 rfl (lv_at hl 1 rfl) ?_
    refine lv_iload_n hx hb dX2_sieve_70 rfl (lv_at hl 4 rfl) ?_
    refine va_put (D := (dC, dI)) (ci := 2) (v := .int (nI b)) (ty := .int) (C := RX2) (T := TX2) (N := 8) hx hb hts inX2_sieve_X2 tyX2 tyX2_ok nmX2 hown hK hP hD hS 0 rfl rfl 4 (by decide) (hts (.fieldLink RX2 29 "QueueHallModel" "rings" "I") (List.mem_of_getElem? (i := 1) (by decide +kernel))) (fun _ h9 => h9) rfl (by decide +kernel) rfl rfl (Nat.le_of_ble_eq_true rfl) dX2_sieve_71 (fun H locs hP hD hS => ?_)
    have hP : va_P (dC, dI) vwCl [(m0, .inr (2, [.ref c1, .ref c2, .ref c3, .int (nI nh), .int (nI b), .int (nI nk), .int fi, .int me])), (c1, .inl (cA, 2000, .inl eh)), (c2, .inl (cA, 2000, .inl a)), (c3, .inl (cA, 2000, .inl ek))] H := hP
    have hD : va_D A [(m0, .inr (2, [.ref c1, .ref c2, .ref c3, .int (nI nh), .int (nI b), .int (nI nk), .int fi, .int me])), (c1, .inl (cA, 2000, .inl eh)), (c2, .inl (cA, 2000, .inl a)), (c3, .inl (cA, 2000, .inl ek))] := hD
    refine lv_iload hx hb dX2_sieve_74 (lv_at hl 0 rfl) ?_
    exact W.iret (v := nI (nr - b)) hx hb hr (fun t ht hW => ⟨⟨nI (nr - b), ((gh, nh), (qSf gr p0 p1 nr, b), (gk, nk), fi, me), rfl, (by simp only [qSieveS, qSieve, if_neg h, hb0]), eh, a, ek, ha1, (fun j hj => hv.1 j (by rw [← hb0]; exact hj)), ha3, by rw [ht]; exact hP, va_K.moved hW.alike hK, hD⟩, hS.F ht⟩) hS.2.2 dX2_sieve_76

set_option maxHeartbeats 4000000 in
set_option maxRecDepth 100000 in
theorem lp_roll {p : Program} {l : Launch} {e : Env} {s : State} {m : MethodId} {args : Array Value} {below : List Frame} {meth : Method} {c : Code} {Q : State → Prop} {dC : Nat → ClassId} {dI : Nat → Nat → Nat} {A : Nat → Prop} (m0 c1 c2 c3 nh nr nk : Nat) (cA : ClassId) (eh gh er gr ek gk : Nat → Int32) (fi me : Int32) (p0 : Int32) (hn : nh + nr + nk < 2000) (ha1 : qAg nh eh gh) (ha2 : qAg nr er gr) (ha3 : qAg nk ek gk) (hF : qFok fi me nk) (k : Nat) (hk : k ≤ 100) (hx : p.tables.exec = Jvm.exec) (hb : c.code = cX2_roll) (hml : c.maxLocals = 4) (hts : ∀ w ∈ wsX2_roll, w.before args s = true) (hown : s.vm.findClass RX2 = some m.cls) (hK : va_K (dC, dI) vwCl [(cA, .int)] s) (hA : ∀ q : Nat, s.heap.size ≤ q → A q)
    (E0 : ∀ (a : Nat → Int32), (qAg nr a (qRot gr nr k)) → ∀ (H : Heap) (locs : List Loc), va_P (dC, dI) vwCl [(m0, .inr (2, [.ref c1, .ref c2, .ref c3, .int (nI nh), .int (nI nr), .int (nI nk), .int fi, .int me])), (c1, .inl (cA, 2000, .inl eh)), (c2, .inl (cA, 2000, .inl a)), (c3, .inl (cA, 2000, .inl ek))] H → va_D A [(m0, .inr (2, [.ref c1, .ref c2, .ref c3, .int (nI nh), .int (nI nr), .int (nI nk), .int fi, .int me])), (c1, .inl (cA, 2000, .inl eh)), (c2, .inl (cA, 2000, .inl a)), (c3, .inl (cA, 2000, .inl ek))] → va_S A s.heap H locs → ∀ ls : Array Slot, lv_has ls 4 [(0, .ref m0), (1, .int (nI k))] → W p l e (headSpec wsX2_roll ({ frames := 1, cells := 0, slots := 0, locals := 25 })).room s m args below meth c H locs 0 0 Q (F0 m 63 ls [])) :
    ∀ (fu : Nat) (i : Nat) (a : Nat → Int32), (k + 1 ≤ i + fu) → (i ≤ k) → (qAg nr a (qRot gr nr i)) → ∀ (H : Heap) (locs : List Loc), va_P (dC, dI) vwCl [(m0, .inr (2, [.ref c1, .ref c2, .ref c3, .int (nI nh), .int (nI nr), .int (nI nk), .int fi, .int me])), (c1, .inl (cA, 2000, .inl eh)), (c2, .inl (cA, 2000, .inl a)), (c3, .inl (cA, 2000, .inl ek))] H → va_D A [(m0, .inr (2, [.ref c1, .ref c2, .ref c3, .int (nI nh), .int (nI nr), .int (nI nk), .int fi, .int me])), (c1, .inl (cA, 2000, .inl eh)), (c2, .inl (cA, 2000, .inl a)), (c3, .inl (cA, 2000, .inl ek))] → va_S A s.heap H locs → ∀ ls : Array Slot, lv_has ls 4 [(0, .ref m0), (1, .int (nI k)), (2, .int (nI i))] → W p l e (headSpec wsX2_roll ({ frames := 1, cells := 0, slots := 0, locals := 25 })).room s m args below meth c H locs 0 0 Q (F0 m 14 ls []) := by
  intro fu
  induction fu with
  | zero =>
    intro i a hfu hi hv
    exact absurd hfu (by omega)
  | succ fu ih =>
    intro i a hfu hi hv H locs hP hD hS ls hl
    refine lv_iload_n hx hb dX2_roll_14 rfl (lv_at hl 2 rfl) ?_
    refine lv_iload_n hx hb dX2_roll_15 rfl (lv_at hl 1 rfl) ?_
    refine lv_icmp_ge (tgt := 63) hx hb dX2_roll_16 (by decide) (fun c_1 => ?_) (fun c_1 => ?_)
    · have k_1 : i ≥ k := by
        simp (disch := omega) only [ti_lt, ti_le, ti_eq, ti_0, ti_1, ti_2, ti_m1, ti_100, ti_2000, nI_toInt] at c_1
        omega
      exact E0 a (by rw [show k = i by omega]; exact hv) _ _ hP hD hS ls (lv_sub hl [0, 1] rfl)
    · have k_1 : i < k := by
        simp (disch := omega) only [ti_lt, ti_le, ti_eq, ti_0, ti_1, ti_2, ti_m1, ti_100, ti_2000, nI_toInt] at c_1
        omega
      refine lv_aload_n hx hb dX2_roll_19 rfl (lv_at hl 0 rfl) ?_
      refine va_get (D := (dC, dI)) (ci := 2) (v := .int (nI nr)) (C := RX2) (T := TX2) (N := 8) hx hb hts inX2_roll_X2 hown hK hP 0 rfl rfl 4 (by decide) (hts (.fieldLink RX2 29 "QueueHallModel" "rings" "I") (List.mem_of_getElem? (i := 1) (by decide +kernel))) (fun _ h9 => h9) rfl dX2_roll_20 ?_
      refine lv_if_le (tgt := 63) hx hb dX2_roll_23 (by decide) (fun c_2 => ?_) (fun c_2 => ?_)
      · have k_2 : nr ≤ 0 := by
          simp (disch := omega) only [ti_lt, ti_le, ti_eq, ti_0, ti_1, ti_2, ti_m1, ti_100, ti_2000, nI_toInt] at c_2
          omega
        exact E0 a (by rw [show nr = 0 by omega]; exact qAg_0) _ _ hP hD hS ls (lv_sub hl [0, 1] rfl)
      · have k_2 : nr > 0 := by
          simp (disch := omega) only [ti_lt, ti_le, ti_eq, ti_0, ti_1, ti_2, ti_m1, ti_100, ti_2000, nI_toInt] at c_2
          omega
        refine lv_aload_n hx hb dX2_roll_26 rfl (lv_at hl 0 rfl) ?_
        refine va_get (D := (dC, dI)) (ci := 2) (v := .ref c2) (C := RX2) (T := TX2) (N := 8) hx hb hts inX2_roll_X2 hown hK hP 0 rfl rfl 1 (by decide) (hts (.fieldLink RX2 13 "QueueHallModel" "ring" "[I") (List.mem_of_getElem? (i := 2) (by decide +kernel))) (fun _ h9 => h9) rfl dX2_roll_27 ?_
        refine lv_iconst (v := 0) hx hb dX2_roll_30 (by decide) ?_
        refine q_top (y := nI 0) rfl ?_
        refine q_iald (k := 0) hx hb hK hP 2 0 rfl rfl (by omega) (by omega) dX2_roll_31 ?_
        refine lv_istore_n (lv' := [(3, .int (a 0)), (0, .ref m0), (1, .int (nI k)), (2, .int (nI i))]) hx hb dX2_roll_32 rfl hl (by decide) rfl (fun ls hl => ?_)
        refine lv_aload_n hx hb dX2_roll_33 rfl (lv_at hl 1 rfl) ?_
        refine va_get (D := (dC, dI)) (ci := 2) (v := .ref c2) (C := RX2) (T := TX2) (N := 8) hx hb hts inX2_roll_X2 hown hK hP 0 rfl rfl 1 (by decide) (hts (.fieldLink RX2 13 "QueueHallModel" "ring" "[I") (List.mem_of_getElem? (i := 2) (by decide +kernel))) (fun _ h9 => h9) rfl dX2_roll_34 ?_
        refine lv_aload_n hx hb dX2_roll_37 rfl (lv_at hl 1 rfl) ?_
        refine va_get (D := (dC, dI)) (ci := 2) (v := .int (nI nr)) (C := RX2) (T := TX2) (N := 8) hx hb hts inX2_roll_X2 hown hK hP 0 rfl rfl 4 (by decide) (hts (.fieldLink RX2 29 "QueueHallModel" "rings" "I") (List.mem_of_getElem? (i := 1) (by decide +kernel))) (fun _ h9 => h9) rfl dX2_roll_38 ?_
        refine lv_iconst (v := nI 0) hx hb dX2_roll_41 (by decide) ?_
        have hPc := hP.sub (ws' := [(c2, .inl (cA, 2000, .inl a))]) [2] rfl
        have hKc := hK.sub (tys' := [(cA, .int)]) [0] rfl
        have hDc := hD.sub (ws' := [(c2, .inl (cA, 2000, .inl a))]) [2] (by decide) rfl
        have hFc := va_free (wc := [(c2, .inl (cA, 2000, .inl a))]) hD hS hA [2] rfl
        refine va_callv (va_runS (As := [.ref c2, .int (nI nr), .int (nI 0)]) (rest := []) ⟨hx, hb, hml, hown, hts⟩ (c_Mod_take l dC dI H.size c2 nr 0 cA a a (by omega) (by omega) qAg_rf) (cwS 3 hts gX2_roll_X2_take_v rfl rfl rfl (by decide +kernel) ⟨Nat.le_of_ble_eq_true rfl, Nat.le_of_ble_eq_true rfl⟩) ⟨q_blW, fun U hU hW => ⟨rfl, by rw [hU], by rw [hU]; exact hPc, va_K.moved hW.alike hKc, hDc.weaken (fun _ _ _ _ => trivial)⟩⟩ rfl rfl hl.1 rfl (lv_room (Nat.le_of_ble_eq_true rfl)) dX2_roll_42 ⟨Nat.le_of_ble_eq_true rfl, Nat.le_of_ble_eq_true rfl⟩) hS (fun q _ h => hFc q h) hFc (fun u_3 t_3 H1 locs ht hvm hw hB hz1 hk1 hS => ?_)
        subst hw
        obtain ⟨f_3, hg_3, hP1, hK1, hD1⟩ := hB
        rw [ht] at hP1
        obtain ⟨hP, hD⟩ := q_join (wr := [(m0, .inr (2, [.ref c1, .ref c2, .ref c3, .int (nI nh), .int (nI nr), .int (nI nk), .int fi, .int me])), (c1, .inl (cA, 2000, .inl eh)), (c3, .inl (cA, 2000, .inl ek))]) (w1 := [(c2, .inl (cA, 2000, .inl f_3))]) (wz := [(m0, .inr (2, [.ref c1, .ref c2, .ref c3, .int (nI nh), .int (nI nr), .int (nI nk), .int fi, .int me])), (c1, .inl (cA, 2000, .inl eh)), (c2, .inl (cA, 2000, .inl f_3)), (c3, .inl (cA, 2000, .inl ek))]) hP hD [2] [0, 1, 3] [0, 1, 3, 2] rfl rfl (by decide) (by decide) hk1 hFc hP1 hD1 rfl rfl (by decide)
        generalize H1 = H at hP hS ⊢
        refine lv_aload_n hx hb dX2_roll_45 rfl (lv_at hl 1 rfl) ?_
        refine va_get (D := (dC, dI)) (ci := 2) (v := .ref c2) (C := RX2) (T := TX2) (N := 8) hx hb hts inX2_roll_X2 hown hK hP 0 rfl rfl 1 (by decide) (hts (.fieldLink RX2 13 "QueueHallModel" "ring" "[I") (List.mem_of_getElem? (i := 2) (by decide +kernel))) (fun _ h9 => h9) rfl dX2_roll_46 ?_
        refine lv_aload_n hx hb dX2_roll_49 rfl (lv_at hl 1 rfl) ?_
        refine va_get (D := (dC, dI)) (ci := 2) (v := .int (nI nr)) (C := RX2) (T := TX2) (N := 8) hx hb hts inX2_roll_X2 hown hK hP 0 rfl rfl 4 (by decide) (hts (.fieldLink RX2 29 "QueueHallModel" "rings" "I") (List.mem_of_getElem? (i := 1) (by decide +kernel))) (fun _ h9 => h9) rfl dX2_roll_50 ?_
        refine lv_iconst (v := 1) hx hb dX2_roll_53 (by decide) ?_
        refine lv_isub hx hb dX2_roll_54 ?_
        refine q_top (y := nI (nr - 1)) (q_m1 (by omega)) ?_
        refine lv_iload_n hx hb dX2_roll_55 rfl (lv_at hl 0 rfl) ?_
        refine q_iast (k := nr - 1) hx hb hK hP hD hS 2 0 rfl rfl (by omega) (by omega) dX2_roll_56 (fun H locs hP hD hS => ?_)
        have hP : va_P (dC, dI) vwCl [(m0, .inr (2, [.ref c1, .ref c2, .ref c3, .int (nI nh), .int (nI nr), .int (nI nk), .int fi, .int me])), (c1, .inl (cA, 2000, .inl eh)), (c2, .inl (cA, 2000, .inl (upd f_3 (nr - 1) (a 0)))), (c3, .inl (cA, 2000, .inl ek))] H := hP
        have hD : va_D A [(m0, .inr (2, [.ref c1, .ref c2, .ref c3, .int (nI nh), .int (nI nr), .int (nI nk), .int fi, .int me])), (c1, .inl (cA, 2000, .inl eh)), (c2, .inl (cA, 2000, .inl (upd f_3 (nr - 1) (a 0)))), (c3, .inl (cA, 2000, .inl ek))] := hD
        refine lv_iinc (v := nI (i + 1)) (lv' := [(2, .int (nI (i + 1))), (3, .int (a 0)), (0, .ref m0), (1, .int (nI k))]) hx hb dX2_roll_57 hl (k := 3) rfl (nI_1 i) (by decide) rfl (fun ls hl => ?_)
        refine lv_goto (tgt := 14) hx hb dX2_roll_60 (by decide) ?_
        exact ih (i + 1) (upd f_3 (nr - 1) (a 0)) (by omega) (by omega) (qRot_s hv hg_3 (by omega)) _ _ hP hD hS ls (lv_sub hl [2, 3, 0] rfl)

set_option maxHeartbeats 4000000 in
set_option maxRecDepth 100000 in
theorem c_Mod_roll (l : Launch) (dC : Nat → ClassId) (dI : Nat → Nat → Nat) (sz : Nat) (m0 c1 c2 c3 nh nr nk : Nat) (cA : ClassId) (eh gh er gr ek gk : Nat → Int32) (fi me : Int32) (p0 : Int32) (hn : nh + nr + nk < 2000) (ha1 : qAg nh eh gh) (ha2 : qAg nr er gr) (ha3 : qAg nk ek gk) (hF : qFok fi me nk) : Met l yX2_roll wsX2_roll ({ frames := 1, cells := 0, slots := 0, locals := 25 }) (va_Pc [.ref m0, .int p0] (fun U => U.heap.size = sz ∧ va_P (dC, dI) vwCl [(m0, .inr (2, [.ref c1, .ref c2, .ref c3, .int (nI nh), .int (nI nr), .int (nI nk), .int fi, .int me])), (c1, .inl (cA, 2000, .inl eh)), (c2, .inl (cA, 2000, .inl er)), (c3, .inl (cA, 2000, .inl ek))] U.heap ∧ va_K (dC, dI) vwCl [(cA, .int)] U ∧ va_D (fun _ => True) [(m0, .inr (2, [.ref c1, .ref c2, .ref c3, .int (nI nh), .int (nI nr), .int (nI nk), .int fi, .int me])), (c1, .inl (cA, 2000, .inl eh)), (c2, .inl (cA, 2000, .inl er)), (c3, .inl (cA, 2000, .inl ek))])) (va_Qi (fun (r : Int32) (u : qS) => (r, u) = qRollS p0 ((gh, nh), (gr, nr), (gk, nk), fi, me)) (at_M dC dI (va_A [(m0, .inr (2, [.ref c1, .ref c2, .ref c3, .int (nI nh), .int (nI nr), .int (nI nk), .int fi, .int me])), (c1, .inl (cA, 2000, .inl eh)), (c2, .inl (cA, 2000, .inl er)), (c3, .inl (cA, 2000, .inl ek))] sz) m0 c1 c2 c3 cA) (va_A [(m0, .inr (2, [.ref c1, .ref c2, .ref c3, .int (nI nh), .int (nI nr), .int (nI nk), .int fi, .int me])), (c1, .inl (cA, 2000, .inl eh)), (c2, .inl (cA, 2000, .inl er)), (c3, .inl (cA, 2000, .inl ek))] sz)) 0 0 (va_A [(m0, .inr (2, [.ref c1, .ref c2, .ref c3, .int (nI nh), .int (nI nr), .int (nI nk), .int fi, .int me])), (c1, .inl (cA, 2000, .inl eh)), (c2, .inl (cA, 2000, .inl er)), (c3, .inl (cA, 2000, .inl ek))] sz) := by
  refine Met.ofW (cc := cX2_roll) (maxL := 4) (ret := (some .int)) (by decide +kernel) rfl ?_
  intro p e s m args below meth c s₁ B hml hv
  obtain ⟨rfl, hsz, hP, hK, hD0⟩ := hv
  have hx := B.exec
  have hb := B.bytes
  have hr := B.returns
  have hts := atoms_spec (ws := wsX2_roll) B.pre
  have hown : s.vm.findClass RX2 = some m.cls := findClass_of_methodNamed B.named
  have hlocks := B.notSynchronized
  subst hsz
  have hD := hD0.self (sz := s.heap.size)
  generalize hAe : va_A [(m0, .inr (2, [.ref c1, .ref c2, .ref c3, .int (nI nh), .int (nI nr), .int (nI nk), .int fi, .int me])), (c1, .inl (cA, 2000, .inl eh)), (c2, .inl (cA, 2000, .inl er)), (c3, .inl (cA, 2000, .inl ek))] s.heap.size = A at hD ⊢
  have hA : ∀ q : Nat, s.heap.size ≤ q → A q := fun q h => by rw [← hAe]; exact Or.inr h
  have hS : va_S A s.heap s.heap [] := va_S.rf
  have hl := lv_entry ([.ref m0, .int p0]) (n := 4) (Nat.le_of_ble_eq_true rfl)
  rw [lg_entry_eq]
  generalize (lg_sl ([.ref m0, .int p0]) ++ List.replicate (4 - (lg_sl ([.ref m0, .int p0])).length) Slot.unset).toArray = ls at hl ⊢
  have hl : lv_has ls 4 [(0, .ref m0), (1, .int p0)] := hl
  rcases q_turn p0 with h | ⟨h, hh⟩ | ⟨k, hk, rfl⟩
  · refine lv_iload_n hx hb dX2_roll_0 rfl (lv_at hl 1 rfl) ?_
    refine lv_if_lt (tgt := 10) hx hb dX2_roll_1 (by decide) (fun c_1 => ?_) (fun c_0 => absurd (show p0 < (0 : Int32) from h) c_0)
    refine lv_iconst (v := -1) hx hb dX2_roll_10 (by decide) ?_
    exact W.iret (v := -1) hx hb hr (fun t ht hW => ⟨⟨-1, ((gh, nh), (gr, nr), (gk, nk), fi, me), rfl, (by simp only [qRollS, qTurn, if_pos h]), eh, er, ek, ha1, ha2, ha3, by rw [ht]; exact hP, va_K.moved hW.alike hK, hD⟩, hS.F ht⟩) hS.2.2 dX2_roll_11
  · refine lv_iload_n hx hb dX2_roll_0 rfl (lv_at hl 1 rfl) ?_
    refine lv_if_lt (tgt := 10) hx hb dX2_roll_1 (by decide) (fun c_0 => absurd c_0 (show ¬ p0 < (0 : Int32) from h)) (fun c_2 => ?_)
    refine lv_iload_n hx hb dX2_roll_4 rfl (lv_at hl 1 rfl) ?_
    refine lv_bipush (v := 100) hx hb dX2_roll_5 (by decide) ?_
    refine lv_icmp_le (tgt := 12) hx hb dX2_roll_7 (by decide) (fun c_0 => absurd c_0 (show ¬ p0 ≤ (100 : Int32) from (fun q => by rw [ti_le, ti_100] at q; rw [ti_lt, ti_100] at hh; omega))) (fun c_3 => ?_)
    refine lv_iconst (v := -1) hx hb dX2_roll_10 (by decide) ?_
    exact W.iret (v := -1) hx hb hr (fun t ht hW => ⟨⟨-1, ((gh, nh), (gr, nr), (gk, nk), fi, me), rfl, (by simp only [qRollS, qTurn, if_neg h, if_pos hh]), eh, er, ek, ha1, ha2, ha3, by rw [ht]; exact hP, va_K.moved hW.alike hK, hD⟩, hS.F ht⟩) hS.2.2 dX2_roll_11
  · refine lv_iload_n hx hb dX2_roll_0 rfl (lv_at hl 1 rfl) ?_
    refine lv_if_lt (tgt := 10) hx hb dX2_roll_1 (by decide) (fun c_0 => absurd c_0 (show ¬ (nI k) < (0 : Int32) from (by simp (disch := omega) only [ti_lt, ti_le, ti_eq, ti_0, ti_1, ti_2, ti_m1, ti_100, ti_2000, nI_toInt] <;> omega))) (fun c_4 => ?_)
    have k_4 : k ≥ 0 := by
      simp (disch := omega) only [ti_lt, ti_le, ti_eq, ti_0, ti_1, ti_2, ti_m1, ti_100, ti_2000, nI_toInt] at c_4
      omega
    refine lv_iload_n hx hb dX2_roll_4 rfl (lv_at hl 1 rfl) ?_
    refine lv_bipush (v := 100) hx hb dX2_roll_5 (by decide) ?_
    refine lv_icmp_le (tgt := 12) hx hb dX2_roll_7 (by decide) (fun c_5 => ?_) (fun c_0 => absurd (show (nI k) ≤ (100 : Int32) from (by simp (disch := omega) only [ti_lt, ti_le, ti_eq, ti_0, ti_1, ti_2, ti_m1, ti_100, ti_2000, nI_toInt] <;> omega)) c_0)
    have k_5 : k ≤ 100 := by
      simp (disch := omega) only [ti_lt, ti_le, ti_eq, ti_0, ti_1, ti_2, ti_m1, ti_100, ti_2000, nI_toInt] at c_5
      omega
    refine lv_iconst (v := nI 0) hx hb dX2_roll_12 (by decide) ?_
    refine lv_istore_n (lv' := [(2, .int (nI 0)), (0, .ref m0), (1, .int (nI k))]) hx hb dX2_roll_13 rfl hl (by decide) rfl (fun ls hl => ?_)
    refine lp_roll m0 c1 c2 c3 nh nr nk cA eh gh er gr ek gk fi me (nI k) hn ha1 ha2 ha3 hF k hk hx hb hml hts hown hK hA (fun a hv H locs hP hD hS ls hl => ?_) (k + 1) 0 er (by omega) (by omega) (qRot_0 ha2) _ _ hP hD hS ls (lv_sub hl [1, 2, 0] rfl)
    refine lv_aload_n hx hb dX2_roll_63 rfl (lv_at hl 0 rfl) ?_
    refine va_get (D := (dC, dI)) (ci := 2) (v := .int (nI nr)) (C := RX2) (T := TX2) (N := 8) hx hb hts inX2_roll_X2 hown hK hP 0 rfl rfl 4 (by decide) (hts (.fieldLink RX2 29 "QueueHallModel" "rings" "I") (List.mem_of_getElem? (i := 1) (by decide +kernel))) (fun _ h9 => h9) rfl dX2_roll_64 ?_
    exact W.iret (v := nI nr) hx hb hr (fun t ht hW => ⟨⟨nI nr, ((gh, nh), (qRot gr nr k, nr), (gk, nk), fi, me), rfl, (by simp only [qRollS, qTurn_i hk]), eh, a, ek, ha1, hv, ha3, by rw [ht]; exact hP, va_K.moved hW.alike hK, hD⟩, hS.F ht⟩) hS.2.2 dX2_roll_67

