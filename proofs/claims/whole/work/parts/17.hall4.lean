set_option maxHeartbeats 4000000 in
set_option maxRecDepth 100000 in
theorem c_Hall_changeMet (l : Launch) (dC : Nat → ClassId) (dI : Nat → Nat → Nat) (sz : Nat) (x0 a1 b1 a2 b2 a3 b3 nh nr nk : Nat) (cA : ClassId) (fh gh fr gr fk gk : Nat → Int32) (fi me : Int32) (p0 : Int32) (hn : nh + nr + nk < 2000) (ha1 : qAg nh fh gh) (ha2 : qAg nr fr gr) (ha3 : qAg nk fk gk) (hF : qFok fi me nk) (hfi : ¬ fi < 0) : Met l yX1_changeMet wsX1_changeMet ({ frames := 2, cells := 0, slots := 0, locals := 58 }) (va_Pc [.ref x0, .int p0] (fun U => U.heap.size = sz ∧ va_P (dC, dI) vwCl [(x0, .inr (1, [.ref a1, .ref a2, .ref a3, .int fi, .int me])), (a1, .inr (0, [.ref b1, .int (nI nh)])), (b1, .inl (cA, 2100, .inl fh)), (a2, .inr (0, [.ref b2, .int (nI nr)])), (b2, .inl (cA, 2100, .inl fr)), (a3, .inr (0, [.ref b3, .int (nI nk)])), (b3, .inl (cA, 2100, .inl fk))] U.heap ∧ va_K (dC, dI) vwCl [(cA, .int)] U ∧ va_D (fun _ => True) [(x0, .inr (1, [.ref a1, .ref a2, .ref a3, .int fi, .int me])), (a1, .inr (0, [.ref b1, .int (nI nh)])), (b1, .inl (cA, 2100, .inl fh)), (a2, .inr (0, [.ref b2, .int (nI nr)])), (b2, .inl (cA, 2100, .inl fr)), (a3, .inr (0, [.ref b3, .int (nI nk)])), (b3, .inl (cA, 2100, .inl fk))] ∧ qNest U)) (va_Qi (fun (r : Int32) (u : qS) => (r, u) = qTouch 0 p0 ((gh, nh), (gr, nr), (gk, nk), fi, me)) (at_H dC dI (va_A [(x0, .inr (1, [.ref a1, .ref a2, .ref a3, .int fi, .int me])), (a1, .inr (0, [.ref b1, .int (nI nh)])), (b1, .inl (cA, 2100, .inl fh)), (a2, .inr (0, [.ref b2, .int (nI nr)])), (b2, .inl (cA, 2100, .inl fr)), (a3, .inr (0, [.ref b3, .int (nI nk)])), (b3, .inl (cA, 2100, .inl fk))] sz) x0 a1 b1 a2 b2 a3 b3 cA) (va_A [(x0, .inr (1, [.ref a1, .ref a2, .ref a3, .int fi, .int me])), (a1, .inr (0, [.ref b1, .int (nI nh)])), (b1, .inl (cA, 2100, .inl fh)), (a2, .inr (0, [.ref b2, .int (nI nr)])), (b2, .inl (cA, 2100, .inl fr)), (a3, .inr (0, [.ref b3, .int (nI nk)])), (b3, .inl (cA, 2100, .inl fk))] sz)) 0 0 (va_A [(x0, .inr (1, [.ref a1, .ref a2, .ref a3, .int fi, .int me])), (a1, .inr (0, [.ref b1, .int (nI nh)])), (b1, .inl (cA, 2100, .inl fh)), (a2, .inr (0, [.ref b2, .int (nI nr)])), (b2, .inl (cA, 2100, .inl fr)), (a3, .inr (0, [.ref b3, .int (nI nk)])), (b3, .inl (cA, 2100, .inl fk))] sz) := by
  refine Met.ofW (cc := cX1_changeMet) (maxL := 2) (ret := (some .int)) (by decide +kernel) rfl ?_
  intro p e s m args below meth c s₁ B hml hv
  obtain ⟨rfl, hsz, hP, hK, hD0, hN⟩ := hv
  have hx := B.exec
  have hb := B.bytes
  have hr := B.returns
  have hts := atoms_spec (ws := wsX1_changeMet) B.pre
  have hown : s.vm.findClass RX1 = some m.cls := findClass_of_methodNamed B.named
  have hlocks := B.notSynchronized
  subst hsz
  have hD := hD0.self (sz := s.heap.size)
  generalize hAe : va_A [(x0, .inr (1, [.ref a1, .ref a2, .ref a3, .int fi, .int me])), (a1, .inr (0, [.ref b1, .int (nI nh)])), (b1, .inl (cA, 2100, .inl fh)), (a2, .inr (0, [.ref b2, .int (nI nr)])), (b2, .inl (cA, 2100, .inl fr)), (a3, .inr (0, [.ref b3, .int (nI nk)])), (b3, .inl (cA, 2100, .inl fk))] s.heap.size = A at hD ⊢
  have hA : ∀ q : Nat, s.heap.size ≤ q → A q := fun q h => by rw [← hAe]; exact Or.inr h
  have hS : va_S A s.heap s.heap [] := va_S.rf
  have hl := lv_entry ([.ref x0, .int p0]) (n := 2) (Nat.le_of_ble_eq_true rfl)
  rw [lg_entry_eq]
  generalize (lg_sl ([.ref x0, .int p0]) ++ List.replicate (2 - (lg_sl ([.ref x0, .int p0])).length) Slot.unset).toArray = ls at hl ⊢
  have hl : lv_has ls 2 [(0, .ref x0), (1, .int p0)] := hl
  rcases qFok_m hF with rfl | ⟨b, hb0, rfl⟩
  · refine lv_aload_n hx hb dX1_changeMet_0 rfl (lv_at hl 0 rfl) ?_
    refine va_get (D := (dC, dI)) (ci := 1) (v := .ref a3) (C := RX1) (T := TX1) (N := 5) hx hb hts inX1_changeMet_X1 hown hK hP 0 rfl rfl 2 (by decide) (hts (.fieldLink RX1 19 "QueueHall" "chainRow" "LQueueHall$Row;") (List.mem_of_getElem? (i := 1) (by decide +kernel))) (fun _ h9 => h9) rfl dX1_changeMet_1 ?_
    refine lv_aload_n hx hb dX1_changeMet_4 rfl (lv_at hl 0 rfl) ?_
    refine va_get (D := (dC, dI)) (ci := 1) (v := .int (-1)) (C := RX1) (T := TX1) (N := 5) hx hb hts inX1_changeMet_X1 hown hK hP 0 rfl rfl 4 (by decide) (hts (.fieldLink RX1 26 "QueueHall" "metPlace" "I") (List.mem_of_getElem? (i := 2) (by decide +kernel))) (fun _ h9 => h9) rfl dX1_changeMet_5 ?_
    refine lv_iload_n hx hb dX1_changeMet_8 rfl (lv_at hl 1 rfl) ?_
    have hPc := hP.sub (ws' := [(a3, .inr (0, [.ref b3, .int (nI nk)])), (b3, .inl (cA, 2100, .inl fk))]) [5, 6] rfl
    have hKc := hK.sub (tys' := [(cA, .int)]) [0] rfl
    have hDc := hD.sub (ws' := [(a3, .inr (0, [.ref b3, .int (nI nk)])), (b3, .inl (cA, 2100, .inl fk))]) [5, 6] (by decide) rfl
    have hFc := va_free (wc := [(a3, .inr (0, [.ref b3, .int (nI nk)])), (b3, .inl (cA, 2100, .inl fk))]) hD hS hA [5, 6] rfl
    refine va_calll (va_runVN (As := [.int (-1), .int p0]) (rest := []) ⟨hx, hb, hml, hown, hts⟩ (c_Row_swap l dC dI s.heap.size a3 b3 nk cA fk gk (-1) p0 (by omega) ha3) ⟨va_cnB 2 hts gX1_changeMet_X0_swap rfl rfl rfl (qN_swap hN) (hts (.initialized RX0) (List.mem_of_getElem? (i := 5) (by decide +kernel))) (by decide +kernel) ⟨Nat.le_of_ble_eq_true rfl, Nat.le_of_ble_eq_true rfl⟩, (hts (.instanceMethod yX0_swap) (List.mem_of_getElem? (i := 3) (by decide +kernel))), (hts (.selects RX0 yX0_swap yX0_swap) (List.mem_of_getElem? (i := 4) (by decide +kernel)))⟩ ⟨q_blW, va_recv hKc hPc (ci := 0) (q0 := 0) rfl rfl, fun U hU hW => ⟨rfl, by rw [hU], by rw [hU]; exact hPc, va_K.moved hW.alike hKc, hDc.weaken (fun _ _ _ _ => trivial)⟩⟩ rfl rfl hl.1 rfl (lv_room (Nat.le_of_ble_eq_true rfl)) dX1_changeMet_9 ⟨Nat.le_of_ble_eq_true rfl, Nat.le_of_ble_eq_true rfl⟩) hS (fun q _ h => hFc q h) hFc (fun r_1 u_1 t_1 H1 locs ht hvm hw hB hz1 hk1 hS => ?_)
    have hw := hw.trans (qSwap_o (qHp_m1))
    obtain ⟨rfl, rfl⟩ := Prod.mk.inj hw
    obtain ⟨f_1, hg_1, hP1, hK1, hD1⟩ := hB
    rw [ht] at hP1
    obtain ⟨hP, hD⟩ := q_join (wr := [(x0, .inr (1, [.ref a1, .ref a2, .ref a3, .int fi, .int (-1)])), (a1, .inr (0, [.ref b1, .int (nI nh)])), (b1, .inl (cA, 2100, .inl fh)), (a2, .inr (0, [.ref b2, .int (nI nr)])), (b2, .inl (cA, 2100, .inl fr))]) (w1 := [(a3, .inr (0, [.ref b3, .int (nI nk)])), (b3, .inl (cA, 2100, .inl f_1))]) (wz := [(x0, .inr (1, [.ref a1, .ref a2, .ref a3, .int fi, .int (-1)])), (a1, .inr (0, [.ref b1, .int (nI nh)])), (b1, .inl (cA, 2100, .inl fh)), (a2, .inr (0, [.ref b2, .int (nI nr)])), (b2, .inl (cA, 2100, .inl fr)), (a3, .inr (0, [.ref b3, .int (nI nk)])), (b3, .inl (cA, 2100, .inl f_1))]) hP hD [5, 6] [0, 1, 2, 3, 4] [0, 1, 2, 3, 4, 5, 6] rfl rfl (by decide) (by decide) hk1 hFc hP1 hD1 rfl rfl (by decide)
    generalize H1 = H at hP hS ⊢
    refine lv_ldc2 (v := qNo) hx hb hown (hts (.constantLong RX1 50 (1099511627776)) (List.mem_of_getElem? (i := 14) (by decide +kernel))) dX1_changeMet_12 ?_
    refine W.lcmp hx hb dX1_changeMet_15 ?_
    refine lv_if_ne (tgt := 23) hx hb dX1_changeMet_16 (by decide) (fun c_0 => absurd ((lg_cmp_eq _ _).mpr rfl) c_0) (fun _ => ?_)
    refine lv_iconst (v := -1) hx hb dX1_changeMet_19 (by decide) ?_
    refine lv_goto (tgt := 30) hx hb dX1_changeMet_20 (by decide) ?_
    exact W.iret (v := -1) hx hb hr (fun t ht hW => ⟨⟨-1, ((gh, nh), (gr, nr), (gk, nk), fi, -1), rfl, (by simp only [qTouch, if_neg hfi, if_pos True.intro, if_pos (show (-1 : Int32) < 0 by decide)]), fh, fr, f_1, ha1, ha2, hg_1, by rw [ht]; exact hP, va_K.moved hW.alike hK, hD⟩, hS.F ht⟩) hS.2.2 dX1_changeMet_30
  · refine lv_aload_n hx hb dX1_changeMet_0 rfl (lv_at hl 0 rfl) ?_
    refine va_get (D := (dC, dI)) (ci := 1) (v := .ref a3) (C := RX1) (T := TX1) (N := 5) hx hb hts inX1_changeMet_X1 hown hK hP 0 rfl rfl 2 (by decide) (hts (.fieldLink RX1 19 "QueueHall" "chainRow" "LQueueHall$Row;") (List.mem_of_getElem? (i := 1) (by decide +kernel))) (fun _ h9 => h9) rfl dX1_changeMet_1 ?_
    refine lv_aload_n hx hb dX1_changeMet_4 rfl (lv_at hl 0 rfl) ?_
    refine va_get (D := (dC, dI)) (ci := 1) (v := .int (nI b)) (C := RX1) (T := TX1) (N := 5) hx hb hts inX1_changeMet_X1 hown hK hP 0 rfl rfl 4 (by decide) (hts (.fieldLink RX1 26 "QueueHall" "metPlace" "I") (List.mem_of_getElem? (i := 2) (by decide +kernel))) (fun _ h9 => h9) rfl dX1_changeMet_5 ?_
    refine lv_iload_n hx hb dX1_changeMet_8 rfl (lv_at hl 1 rfl) ?_
    have hPc := hP.sub (ws' := [(a3, .inr (0, [.ref b3, .int (nI nk)])), (b3, .inl (cA, 2100, .inl fk))]) [5, 6] rfl
    have hKc := hK.sub (tys' := [(cA, .int)]) [0] rfl
    have hDc := hD.sub (ws' := [(a3, .inr (0, [.ref b3, .int (nI nk)])), (b3, .inl (cA, 2100, .inl fk))]) [5, 6] (by decide) rfl
    have hFc := va_free (wc := [(a3, .inr (0, [.ref b3, .int (nI nk)])), (b3, .inl (cA, 2100, .inl fk))]) hD hS hA [5, 6] rfl
    refine va_calll (va_runVN (As := [.int (nI b), .int p0]) (rest := []) ⟨hx, hb, hml, hown, hts⟩ (c_Row_swap l dC dI s.heap.size a3 b3 nk cA fk gk (nI b) p0 (by omega) ha3) ⟨va_cnB 2 hts gX1_changeMet_X0_swap rfl rfl rfl (qN_swap hN) (hts (.initialized RX0) (List.mem_of_getElem? (i := 5) (by decide +kernel))) (by decide +kernel) ⟨Nat.le_of_ble_eq_true rfl, Nat.le_of_ble_eq_true rfl⟩, (hts (.instanceMethod yX0_swap) (List.mem_of_getElem? (i := 3) (by decide +kernel))), (hts (.selects RX0 yX0_swap yX0_swap) (List.mem_of_getElem? (i := 4) (by decide +kernel)))⟩ ⟨q_blW, va_recv hKc hPc (ci := 0) (q0 := 0) rfl rfl, fun U hU hW => ⟨rfl, by rw [hU], by rw [hU]; exact hPc, va_K.moved hW.alike hKc, hDc.weaken (fun _ _ _ _ => trivial)⟩⟩ rfl rfl hl.1 rfl (lv_room (Nat.le_of_ble_eq_true rfl)) dX1_changeMet_9 ⟨Nat.le_of_ble_eq_true rfl, Nat.le_of_ble_eq_true rfl⟩) hS (fun q _ h => hFc q h) hFc (fun r_2 u_2 t_2 H1 locs ht hvm hw hB hz1 hk1 hS => ?_)
    have hw := hw.trans (qSwap_i (k := b) (by omega) (by omega))
    obtain ⟨rfl, rfl⟩ := Prod.mk.inj hw
    obtain ⟨f_2, hg_2, hP1, hK1, hD1⟩ := hB
    rw [ht] at hP1
    obtain ⟨hP, hD⟩ := q_join (wr := [(x0, .inr (1, [.ref a1, .ref a2, .ref a3, .int fi, .int (nI b)])), (a1, .inr (0, [.ref b1, .int (nI nh)])), (b1, .inl (cA, 2100, .inl fh)), (a2, .inr (0, [.ref b2, .int (nI nr)])), (b2, .inl (cA, 2100, .inl fr))]) (w1 := [(a3, .inr (0, [.ref b3, .int (nI nk)])), (b3, .inl (cA, 2100, .inl f_2))]) (wz := [(x0, .inr (1, [.ref a1, .ref a2, .ref a3, .int fi, .int (nI b)])), (a1, .inr (0, [.ref b1, .int (nI nh)])), (b1, .inl (cA, 2100, .inl fh)), (a2, .inr (0, [.ref b2, .int (nI nr)])), (b2, .inl (cA, 2100, .inl fr)), (a3, .inr (0, [.ref b3, .int (nI nk)])), (b3, .inl (cA, 2100, .inl f_2))]) hP hD [5, 6] [0, 1, 2, 3, 4] [0, 1, 2, 3, 4, 5, 6] rfl rfl (by decide) (by decide) hk1 hFc hP1 hD1 rfl rfl (by decide)
    generalize H1 = H at hP hS ⊢
    refine lv_ldc2 (v := qNo) hx hb hown (hts (.constantLong RX1 50 (1099511627776)) (List.mem_of_getElem? (i := 14) (by decide +kernel))) dX1_changeMet_12 ?_
    refine W.lcmp hx hb dX1_changeMet_15 ?_
    refine lv_if_ne (tgt := 23) hx hb dX1_changeMet_16 (by decide) (fun _ => ?_) (fun c_0 => absurd c_0 (fun q => q_no _ ((lg_cmp_eq _ _).mp q)))
    refine lv_aload_n hx hb dX1_changeMet_23 rfl (lv_at hl 0 rfl) ?_
    refine va_get (D := (dC, dI)) (ci := 1) (v := .ref a3) (C := RX1) (T := TX1) (N := 5) hx hb hts inX1_changeMet_X1 hown hK hP 0 rfl rfl 2 (by decide) (hts (.fieldLink RX1 19 "QueueHall" "chainRow" "LQueueHall$Row;") (List.mem_of_getElem? (i := 1) (by decide +kernel))) (fun _ h9 => h9) rfl dX1_changeMet_24 ?_
    refine va_getN (D := (dC, dI)) (ci := 0) (v := .int (nI nk)) (C := RX0) (T := TX0) (N := 2) hx hb hts inX1_changeMet_X0 hown hK hP 5 rfl rfl 1 (by decide) (qN_count hN) (fun _ h9 => h9) rfl dX1_changeMet_27 ?_
    exact W.iret (v := nI nk) hx hb hr (fun t ht hW => ⟨⟨nI nk, ((gh, nh), (gr, nr), (upd gk b p0, nk), fi, nI b), rfl, (by simp only [qTouch, if_neg hfi, if_pos True.intro, if_neg (nI_pos (show b < 2 ^ 31 by omega)), nI_clamp (show b < 2 ^ 31 by omega)]), fh, fr, f_2, ha1, ha2, hg_2, by rw [ht]; exact hP, va_K.moved hW.alike hK, hD⟩, hS.F ht⟩) hS.2.2 dX1_changeMet_30

set_option maxHeartbeats 4000000 in
set_option maxRecDepth 100000 in
theorem c_Hall_takeMet (l : Launch) (dC : Nat → ClassId) (dI : Nat → Nat → Nat) (sz : Nat) (x0 a1 b1 a2 b2 a3 b3 nh nr nk : Nat) (cA : ClassId) (fh gh fr gr fk gk : Nat → Int32) (fi me : Int32) (hn : nh + nr + nk < 2000) (ha1 : qAg nh fh gh) (ha2 : qAg nr fr gr) (ha3 : qAg nk fk gk) (hF : qFok fi me nk) (hfi : ¬ fi < 0) : Met l yX1_takeMet wsX1_takeMet ({ frames := 2, cells := 0, slots := 0, locals := 58 }) (va_Pc [.ref x0] (fun U => U.heap.size = sz ∧ va_P (dC, dI) vwCl [(x0, .inr (1, [.ref a1, .ref a2, .ref a3, .int fi, .int me])), (a1, .inr (0, [.ref b1, .int (nI nh)])), (b1, .inl (cA, 2100, .inl fh)), (a2, .inr (0, [.ref b2, .int (nI nr)])), (b2, .inl (cA, 2100, .inl fr)), (a3, .inr (0, [.ref b3, .int (nI nk)])), (b3, .inl (cA, 2100, .inl fk))] U.heap ∧ va_K (dC, dI) vwCl [(cA, .int)] U ∧ va_D (fun _ => True) [(x0, .inr (1, [.ref a1, .ref a2, .ref a3, .int fi, .int me])), (a1, .inr (0, [.ref b1, .int (nI nh)])), (b1, .inl (cA, 2100, .inl fh)), (a2, .inr (0, [.ref b2, .int (nI nr)])), (b2, .inl (cA, 2100, .inl fr)), (a3, .inr (0, [.ref b3, .int (nI nk)])), (b3, .inl (cA, 2100, .inl fk))] ∧ qNest U)) (va_Qi (fun (r : Int32) (u : qS) => (r, u) = qTouch 1 0 ((gh, nh), (gr, nr), (gk, nk), fi, me)) (at_H dC dI (va_A [(x0, .inr (1, [.ref a1, .ref a2, .ref a3, .int fi, .int me])), (a1, .inr (0, [.ref b1, .int (nI nh)])), (b1, .inl (cA, 2100, .inl fh)), (a2, .inr (0, [.ref b2, .int (nI nr)])), (b2, .inl (cA, 2100, .inl fr)), (a3, .inr (0, [.ref b3, .int (nI nk)])), (b3, .inl (cA, 2100, .inl fk))] sz) x0 a1 b1 a2 b2 a3 b3 cA) (va_A [(x0, .inr (1, [.ref a1, .ref a2, .ref a3, .int fi, .int me])), (a1, .inr (0, [.ref b1, .int (nI nh)])), (b1, .inl (cA, 2100, .inl fh)), (a2, .inr (0, [.ref b2, .int (nI nr)])), (b2, .inl (cA, 2100, .inl fr)), (a3, .inr (0, [.ref b3, .int (nI nk)])), (b3, .inl (cA, 2100, .inl fk))] sz)) 0 0 (va_A [(x0, .inr (1, [.ref a1, .ref a2, .ref a3, .int fi, .int me])), (a1, .inr (0, [.ref b1, .int (nI nh)])), (b1, .inl (cA, 2100, .inl fh)), (a2, .inr (0, [.ref b2, .int (nI nr)])), (b2, .inl (cA, 2100, .inl fr)), (a3, .inr (0, [.ref b3, .int (nI nk)])), (b3, .inl (cA, 2100, .inl fk))] sz) := by
  refine Met.ofW (cc := cX1_takeMet) (maxL := 1) (ret := (some .int)) (by decide +kernel) rfl ?_
  intro p e s m args below meth c s₁ B hml hv
  obtain ⟨rfl, hsz, hP, hK, hD0, hN⟩ := hv
  have hx := B.exec
  have hb := B.bytes
  have hr := B.returns
  have hts := atoms_spec (ws := wsX1_takeMet) B.pre
  have hown : s.vm.findClass RX1 = some m.cls := findClass_of_methodNamed B.named
  have hlocks := B.notSynchronized
  subst hsz
  have hD := hD0.self (sz := s.heap.size)
  generalize hAe : va_A [(x0, .inr (1, [.ref a1, .ref a2, .ref a3, .int fi, .int me])), (a1, .inr (0, [.ref b1, .int (nI nh)])), (b1, .inl (cA, 2100, .inl fh)), (a2, .inr (0, [.ref b2, .int (nI nr)])), (b2, .inl (cA, 2100, .inl fr)), (a3, .inr (0, [.ref b3, .int (nI nk)])), (b3, .inl (cA, 2100, .inl fk))] s.heap.size = A at hD ⊢
  have hA : ∀ q : Nat, s.heap.size ≤ q → A q := fun q h => by rw [← hAe]; exact Or.inr h
  have hS : va_S A s.heap s.heap [] := va_S.rf
  have hl := lv_entry ([.ref x0]) (n := 1) (Nat.le_of_ble_eq_true rfl)
  rw [lg_entry_eq]
  generalize (lg_sl ([.ref x0]) ++ List.replicate (1 - (lg_sl ([.ref x0])).length) Slot.unset).toArray = ls at hl ⊢
  have hl : lv_has ls 1 [(0, .ref x0)] := hl
  rcases q_met hF hfi with ⟨a, ha, rfl, rfl⟩ | ⟨a, b, ha, hb0, rfl, rfl⟩
  · refine lv_aload_n hx hb dX1_takeMet_0 rfl (lv_at hl 0 rfl) ?_
    refine va_get (D := (dC, dI)) (ci := 1) (v := .ref a3) (C := RX1) (T := TX1) (N := 5) hx hb hts inX1_takeMet_X1 hown hK hP 0 rfl rfl 2 (by decide) (hts (.fieldLink RX1 19 "QueueHall" "chainRow" "LQueueHall$Row;") (List.mem_of_getElem? (i := 1) (by decide +kernel))) (fun _ h9 => h9) rfl dX1_takeMet_1 ?_
    refine lv_aload_n hx hb dX1_takeMet_4 rfl (lv_at hl 0 rfl) ?_
    refine va_get (D := (dC, dI)) (ci := 1) (v := .int (-1)) (C := RX1) (T := TX1) (N := 5) hx hb hts inX1_takeMet_X1 hown hK hP 0 rfl rfl 4 (by decide) (hts (.fieldLink RX1 26 "QueueHall" "metPlace" "I") (List.mem_of_getElem? (i := 2) (by decide +kernel))) (fun _ h9 => h9) rfl dX1_takeMet_5 ?_
    have hPc := hP.sub (ws' := [(a3, .inr (0, [.ref b3, .int (nI nk)])), (b3, .inl (cA, 2100, .inl fk))]) [5, 6] rfl
    have hKc := hK.sub (tys' := [(cA, .int)]) [0] rfl
    have hDc := hD.sub (ws' := [(a3, .inr (0, [.ref b3, .int (nI nk)])), (b3, .inl (cA, 2100, .inl fk))]) [5, 6] (by decide) rfl
    have hFc := va_free (wc := [(a3, .inr (0, [.ref b3, .int (nI nk)])), (b3, .inl (cA, 2100, .inl fk))]) hD hS hA [5, 6] rfl
    refine va_calll (va_runVN (As := [.int (-1)]) (rest := []) ⟨hx, hb, hml, hown, hts⟩ (c_Row_take l dC dI s.heap.size a3 b3 nk cA fk gk (-1) (by omega) ha3) ⟨va_cnB 1 hts gX1_takeMet_X0_take rfl rfl rfl (qN_take hN) (hts (.initialized RX0) (List.mem_of_getElem? (i := 5) (by decide +kernel))) (by decide +kernel) ⟨Nat.le_of_ble_eq_true rfl, Nat.le_of_ble_eq_true rfl⟩, (hts (.instanceMethod yX0_take) (List.mem_of_getElem? (i := 3) (by decide +kernel))), (hts (.selects RX0 yX0_take yX0_take) (List.mem_of_getElem? (i := 4) (by decide +kernel)))⟩ ⟨q_blW, va_recv hKc hPc (ci := 0) (q0 := 0) rfl rfl, fun U hU hW => ⟨rfl, by rw [hU], by rw [hU]; exact hPc, va_K.moved hW.alike hKc, hDc.weaken (fun _ _ _ _ => trivial)⟩⟩ rfl rfl hl.1 rfl (lv_room (Nat.le_of_ble_eq_true rfl)) dX1_takeMet_8 ⟨Nat.le_of_ble_eq_true rfl, Nat.le_of_ble_eq_true rfl⟩) hS (fun q _ h => hFc q h) hFc (fun r_1 u_1 t_1 H1 locs ht hvm hw hB hz1 hk1 hS => ?_)
    have hw := hw.trans (qTake_o (qHp_m1))
    obtain ⟨rfl, rfl⟩ := Prod.mk.inj hw
    obtain ⟨f_1, hg_1, hP1, hK1, hD1⟩ := hB
    rw [ht] at hP1
    obtain ⟨hP, hD⟩ := q_join (wr := [(x0, .inr (1, [.ref a1, .ref a2, .ref a3, .int (nI a), .int (-1)])), (a1, .inr (0, [.ref b1, .int (nI nh)])), (b1, .inl (cA, 2100, .inl fh)), (a2, .inr (0, [.ref b2, .int (nI nr)])), (b2, .inl (cA, 2100, .inl fr))]) (w1 := [(a3, .inr (0, [.ref b3, .int (nI nk)])), (b3, .inl (cA, 2100, .inl f_1))]) (wz := [(x0, .inr (1, [.ref a1, .ref a2, .ref a3, .int (nI a), .int (-1)])), (a1, .inr (0, [.ref b1, .int (nI nh)])), (b1, .inl (cA, 2100, .inl fh)), (a2, .inr (0, [.ref b2, .int (nI nr)])), (b2, .inl (cA, 2100, .inl fr)), (a3, .inr (0, [.ref b3, .int (nI nk)])), (b3, .inl (cA, 2100, .inl f_1))]) hP hD [5, 6] [0, 1, 2, 3, 4] [0, 1, 2, 3, 4, 5, 6] rfl rfl (by decide) (by decide) hk1 hFc hP1 hD1 rfl rfl (by decide)
    generalize H1 = H at hP hS ⊢
    refine lv_ldc2 (v := qNo) hx hb hown (hts (.constantLong RX1 50 (1099511627776)) (List.mem_of_getElem? (i := 18) (by decide +kernel))) dX1_takeMet_11 ?_
    refine W.lcmp hx hb dX1_takeMet_14 ?_
    refine lv_if_ne (tgt := 20) hx hb dX1_takeMet_15 (by decide) (fun c_0 => absurd ((lg_cmp_eq _ _).mpr rfl) c_0) (fun _ => ?_)
    refine lv_iconst (v := -1) hx hb dX1_takeMet_18 (by decide) ?_
    exact W.iret (v := -1) hx hb hr (fun t ht hW => ⟨⟨-1, ((gh, nh), (gr, nr), (gk, nk), nI a, -1), rfl, (by simp only [qTouch, if_neg hfi, if_neg (show ¬ (1 : Int32) = 0 by decide), if_pos True.intro, if_pos (show (-1 : Int32) < 0 by decide)]), fh, fr, f_1, ha1, ha2, hg_1, by rw [ht]; exact hP, va_K.moved hW.alike hK, hD⟩, hS.F ht⟩) hS.2.2 dX1_takeMet_19
  · refine lv_aload_n hx hb dX1_takeMet_0 rfl (lv_at hl 0 rfl) ?_
    refine va_get (D := (dC, dI)) (ci := 1) (v := .ref a3) (C := RX1) (T := TX1) (N := 5) hx hb hts inX1_takeMet_X1 hown hK hP 0 rfl rfl 2 (by decide) (hts (.fieldLink RX1 19 "QueueHall" "chainRow" "LQueueHall$Row;") (List.mem_of_getElem? (i := 1) (by decide +kernel))) (fun _ h9 => h9) rfl dX1_takeMet_1 ?_
    refine lv_aload_n hx hb dX1_takeMet_4 rfl (lv_at hl 0 rfl) ?_
    refine va_get (D := (dC, dI)) (ci := 1) (v := .int (nI b)) (C := RX1) (T := TX1) (N := 5) hx hb hts inX1_takeMet_X1 hown hK hP 0 rfl rfl 4 (by decide) (hts (.fieldLink RX1 26 "QueueHall" "metPlace" "I") (List.mem_of_getElem? (i := 2) (by decide +kernel))) (fun _ h9 => h9) rfl dX1_takeMet_5 ?_
    have hPc := hP.sub (ws' := [(a3, .inr (0, [.ref b3, .int (nI nk)])), (b3, .inl (cA, 2100, .inl fk))]) [5, 6] rfl
    have hKc := hK.sub (tys' := [(cA, .int)]) [0] rfl
    have hDc := hD.sub (ws' := [(a3, .inr (0, [.ref b3, .int (nI nk)])), (b3, .inl (cA, 2100, .inl fk))]) [5, 6] (by decide) rfl
    have hFc := va_free (wc := [(a3, .inr (0, [.ref b3, .int (nI nk)])), (b3, .inl (cA, 2100, .inl fk))]) hD hS hA [5, 6] rfl
    refine va_calll (va_runVN (As := [.int (nI b)]) (rest := []) ⟨hx, hb, hml, hown, hts⟩ (c_Row_take l dC dI s.heap.size a3 b3 nk cA fk gk (nI b) (by omega) ha3) ⟨va_cnB 1 hts gX1_takeMet_X0_take rfl rfl rfl (qN_take hN) (hts (.initialized RX0) (List.mem_of_getElem? (i := 5) (by decide +kernel))) (by decide +kernel) ⟨Nat.le_of_ble_eq_true rfl, Nat.le_of_ble_eq_true rfl⟩, (hts (.instanceMethod yX0_take) (List.mem_of_getElem? (i := 3) (by decide +kernel))), (hts (.selects RX0 yX0_take yX0_take) (List.mem_of_getElem? (i := 4) (by decide +kernel)))⟩ ⟨q_blW, va_recv hKc hPc (ci := 0) (q0 := 0) rfl rfl, fun U hU hW => ⟨rfl, by rw [hU], by rw [hU]; exact hPc, va_K.moved hW.alike hKc, hDc.weaken (fun _ _ _ _ => trivial)⟩⟩ rfl rfl hl.1 rfl (lv_room (Nat.le_of_ble_eq_true rfl)) dX1_takeMet_8 ⟨Nat.le_of_ble_eq_true rfl, Nat.le_of_ble_eq_true rfl⟩) hS (fun q _ h => hFc q h) hFc (fun r_2 u_2 t_2 H1 locs ht hvm hw hB hz1 hk1 hS => ?_)
    have hw := hw.trans (qTake_i (k := b) (by omega) (by omega))
    obtain ⟨rfl, rfl⟩ := Prod.mk.inj hw
    obtain ⟨f_2, hg_2, hP1, hK1, hD1⟩ := hB
    rw [ht] at hP1
    obtain ⟨hP, hD⟩ := q_join (wr := [(x0, .inr (1, [.ref a1, .ref a2, .ref a3, .int (nI a), .int (nI b)])), (a1, .inr (0, [.ref b1, .int (nI nh)])), (b1, .inl (cA, 2100, .inl fh)), (a2, .inr (0, [.ref b2, .int (nI nr)])), (b2, .inl (cA, 2100, .inl fr))]) (w1 := [(a3, .inr (0, [.ref b3, .int (nI (nk - 1))])), (b3, .inl (cA, 2100, .inl f_2))]) (wz := [(x0, .inr (1, [.ref a1, .ref a2, .ref a3, .int (nI a), .int (nI b)])), (a1, .inr (0, [.ref b1, .int (nI nh)])), (b1, .inl (cA, 2100, .inl fh)), (a2, .inr (0, [.ref b2, .int (nI nr)])), (b2, .inl (cA, 2100, .inl fr)), (a3, .inr (0, [.ref b3, .int (nI (nk - 1))])), (b3, .inl (cA, 2100, .inl f_2))]) hP hD [5, 6] [0, 1, 2, 3, 4] [0, 1, 2, 3, 4, 5, 6] rfl rfl (by decide) (by decide) hk1 hFc hP1 hD1 rfl rfl (by decide)
    generalize H1 = H at hP hS ⊢
    refine lv_ldc2 (v := qNo) hx hb hown (hts (.constantLong RX1 50 (1099511627776)) (List.mem_of_getElem? (i := 18) (by decide +kernel))) dX1_takeMet_11 ?_
    refine W.lcmp hx hb dX1_takeMet_14 ?_
    refine lv_if_ne (tgt := 20) hx hb dX1_takeMet_15 (by decide) (fun _ => ?_) (fun c_0 => absurd c_0 (fun q => q_no _ ((lg_cmp_eq _ _).mp q)))
    refine lv_aload_n hx hb dX1_takeMet_20 rfl (lv_at hl 0 rfl) ?_
    refine va_get (D := (dC, dI)) (ci := 1) (v := .int (nI b)) (C := RX1) (T := TX1) (N := 5) hx hb hts inX1_takeMet_X1 hown hK hP 0 rfl rfl 4 (by decide) (hts (.fieldLink RX1 26 "QueueHall" "metPlace" "I") (List.mem_of_getElem? (i := 2) (by decide +kernel))) (fun _ h9 => h9) rfl dX1_takeMet_21 ?_
    refine lv_aload_n hx hb dX1_takeMet_24 rfl (lv_at hl 0 rfl) ?_
    refine va_get (D := (dC, dI)) (ci := 1) (v := .int (nI a)) (C := RX1) (T := TX1) (N := 5) hx hb hts inX1_takeMet_X1 hown hK hP 0 rfl rfl 3 (by decide) (hts (.fieldLink RX1 22 "QueueHall" "fingerPlace" "I") (List.mem_of_getElem? (i := 19) (by decide +kernel))) (fun _ h9 => h9) rfl dX1_takeMet_25 ?_
    refine lv_icmp_ge (tgt := 41) hx hb dX1_takeMet_28 (by decide) (fun c_3 => ?_) (fun c_3 => ?_)
    · have k_3 : b ≥ a := by
        simp (disch := omega) only [ti_lt, ti_le, ti_eq, ti_0, ti_1, ti_2, ti_m1, ti_100, ti_2000, nI_toInt] at c_3
        omega
      refine lv_aload_n hx hb dX1_takeMet_41 rfl (lv_at hl 0 rfl) ?_
      refine lv_iconst (v := -1) hx hb dX1_takeMet_42 (by decide) ?_
      refine va_put (D := (dC, dI)) (ci := 1) (v := .int (-1)) (ty := .int) (C := RX1) (T := TX1) (N := 5) hx hb hts inX1_takeMet_X1 tyX1 tyX1_ok nmX1 hown hK hP hD hS 0 rfl rfl 4 (by decide) (hts (.fieldLink RX1 26 "QueueHall" "metPlace" "I") (List.mem_of_getElem? (i := 2) (by decide +kernel))) (fun _ h9 => h9) rfl (by decide +kernel) rfl rfl (Nat.le_of_ble_eq_true rfl) dX1_takeMet_43 (fun H locs hP hD hS => ?_)
      have hP : va_P (dC, dI) vwCl [(x0, .inr (1, [.ref a1, .ref a2, .ref a3, .int (nI a), .int (-1)])), (a1, .inr (0, [.ref b1, .int (nI nh)])), (b1, .inl (cA, 2100, .inl fh)), (a2, .inr (0, [.ref b2, .int (nI nr)])), (b2, .inl (cA, 2100, .inl fr)), (a3, .inr (0, [.ref b3, .int (nI (nk - 1))])), (b3, .inl (cA, 2100, .inl f_2))] H := hP
      have hD : va_D A [(x0, .inr (1, [.ref a1, .ref a2, .ref a3, .int (nI a), .int (-1)])), (a1, .inr (0, [.ref b1, .int (nI nh)])), (b1, .inl (cA, 2100, .inl fh)), (a2, .inr (0, [.ref b2, .int (nI nr)])), (b2, .inl (cA, 2100, .inl fr)), (a3, .inr (0, [.ref b3, .int (nI (nk - 1))])), (b3, .inl (cA, 2100, .inl f_2))] := hD
      refine lv_aload_n hx hb dX1_takeMet_46 rfl (lv_at hl 0 rfl) ?_
      refine va_get (D := (dC, dI)) (ci := 1) (v := .ref a3) (C := RX1) (T := TX1) (N := 5) hx hb hts inX1_takeMet_X1 hown hK hP 0 rfl rfl 2 (by decide) (hts (.fieldLink RX1 19 "QueueHall" "chainRow" "LQueueHall$Row;") (List.mem_of_getElem? (i := 1) (by decide +kernel))) (fun _ h9 => h9) rfl dX1_takeMet_47 ?_
      refine va_getN (D := (dC, dI)) (ci := 0) (v := .int (nI (nk - 1))) (C := RX0) (T := TX0) (N := 2) hx hb hts inX1_takeMet_X0 hown hK hP 5 rfl rfl 1 (by decide) (qN_count hN) (fun _ h9 => h9) rfl dX1_takeMet_50 ?_
      exact W.iret (v := nI (nk - 1)) hx hb hr (fun t ht hW => ⟨⟨nI (nk - 1), ((gh, nh), (gr, nr), (qDel gk b, nk - 1), nI a, -1), rfl, (by simp only [qTouch, if_neg hfi, if_neg (show ¬ (1 : Int32) = 0 by decide), if_pos True.intro, if_neg (nI_pos (show b < 2 ^ 31 by omega)), nI_clamp (show b < 2 ^ 31 by omega), if_neg (nI_nlt (show a ≤ b by omega) (show b < 2 ^ 31 by omega))]), fh, fr, f_2, ha1, ha2, hg_2, by rw [ht]; exact hP, va_K.moved hW.alike hK, hD⟩, hS.F ht⟩) hS.2.2 dX1_takeMet_53
    · have k_3 : b < a := by
        simp (disch := omega) only [ti_lt, ti_le, ti_eq, ti_0, ti_1, ti_2, ti_m1, ti_100, ti_2000, nI_toInt] at c_3
        omega
      refine lv_aload_n hx hb dX1_takeMet_31 rfl (lv_at hl 0 rfl) ?_
      refine lv_dup hx hb dX1_takeMet_32 rfl ?_
      refine va_get (D := (dC, dI)) (ci := 1) (v := .int (nI a)) (C := RX1) (T := TX1) (N := 5) hx hb hts inX1_takeMet_X1 hown hK hP 0 rfl rfl 3 (by decide) (hts (.fieldLink RX1 22 "QueueHall" "fingerPlace" "I") (List.mem_of_getElem? (i := 19) (by decide +kernel))) (fun _ h9 => h9) rfl dX1_takeMet_33 ?_
      refine lv_iconst (v := 1) hx hb dX1_takeMet_36 (by decide) ?_
      refine lv_isub hx hb dX1_takeMet_37 ?_
      refine q_top (y := nI (a - 1)) (q_m1 (by omega)) ?_
      refine va_put (D := (dC, dI)) (ci := 1) (v := .int (nI (a - 1))) (ty := .int) (C := RX1) (T := TX1) (N := 5) hx hb hts inX1_takeMet_X1 tyX1 tyX1_ok nmX1 hown hK hP hD hS 0 rfl rfl 3 (by decide) (hts (.fieldLink RX1 22 "QueueHall" "fingerPlace" "I") (List.mem_of_getElem? (i := 19) (by decide +kernel))) (fun _ h9 => h9) rfl (by decide +kernel) rfl rfl (Nat.le_of_ble_eq_true rfl) dX1_takeMet_38 (fun H locs hP hD hS => ?_)
      have hP : va_P (dC, dI) vwCl [(x0, .inr (1, [.ref a1, .ref a2, .ref a3, .int (nI (a - 1)), .int (nI b)])), (a1, .inr (0, [.ref b1, .int (nI nh)])), (b1, .inl (cA, 2100, .inl fh)), (a2, .inr (0, [.ref b2, .int (nI nr)])), (b2, .inl (cA, 2100, .inl fr)), (a3, .inr (0, [.ref b3, .int (nI (nk - 1))])), (b3, .inl (cA, 2100, .inl f_2))] H := hP
      have hD : va_D A [(x0, .inr (1, [.ref a1, .ref a2, .ref a3, .int (nI (a - 1)), .int (nI b)])), (a1, .inr (0, [.ref b1, .int (nI nh)])), (b1, .inl (cA, 2100, .inl fh)), (a2, .inr (0, [.ref b2, .int (nI nr)])), (b2, .inl (cA, 2100, .inl fr)), (a3, .inr (0, [.ref b3, .int (nI (nk - 1))])), (b3, .inl (cA, 2100, .inl f_2))] := hD
      refine lv_aload_n hx hb dX1_takeMet_41 rfl (lv_at hl 0 rfl) ?_
      refine lv_iconst (v := -1) hx hb dX1_takeMet_42 (by decide) ?_
      refine va_put (D := (dC, dI)) (ci := 1) (v := .int (-1)) (ty := .int) (C := RX1) (T := TX1) (N := 5) hx hb hts inX1_takeMet_X1 tyX1 tyX1_ok nmX1 hown hK hP hD hS 0 rfl rfl 4 (by decide) (hts (.fieldLink RX1 26 "QueueHall" "metPlace" "I") (List.mem_of_getElem? (i := 2) (by decide +kernel))) (fun _ h9 => h9) rfl (by decide +kernel) rfl rfl (Nat.le_of_ble_eq_true rfl) dX1_takeMet_43 (fun H locs hP hD hS => ?_)
      have hP : va_P (dC, dI) vwCl [(x0, .inr (1, [.ref a1, .ref a2, .ref a3, .int (nI (a - 1)), .int (-1)])), (a1, .inr (0, [.ref b1, .int (nI nh)])), (b1, .inl (cA, 2100, .inl fh)), (a2, .inr (0, [.ref b2, .int (nI nr)])), (b2, .inl (cA, 2100, .inl fr)), (a3, .inr (0, [.ref b3, .int (nI (nk - 1))])), (b3, .inl (cA, 2100, .inl f_2))] H := hP
      have hD : va_D A [(x0, .inr (1, [.ref a1, .ref a2, .ref a3, .int (nI (a - 1)), .int (-1)])), (a1, .inr (0, [.ref b1, .int (nI nh)])), (b1, .inl (cA, 2100, .inl fh)), (a2, .inr (0, [.ref b2, .int (nI nr)])), (b2, .inl (cA, 2100, .inl fr)), (a3, .inr (0, [.ref b3, .int (nI (nk - 1))])), (b3, .inl (cA, 2100, .inl f_2))] := hD
      refine lv_aload_n hx hb dX1_takeMet_46 rfl (lv_at hl 0 rfl) ?_
      refine va_get (D := (dC, dI)) (ci := 1) (v := .ref a3) (C := RX1) (T := TX1) (N := 5) hx hb hts inX1_takeMet_X1 hown hK hP 0 rfl rfl 2 (by decide) (hts (.fieldLink RX1 19 "QueueHall" "chainRow" "LQueueHall$Row;") (List.mem_of_getElem? (i := 1) (by decide +kernel))) (fun _ h9 => h9) rfl dX1_takeMet_47 ?_
      refine va_getN (D := (dC, dI)) (ci := 0) (v := .int (nI (nk - 1))) (C := RX0) (T := TX0) (N := 2) hx hb hts inX1_takeMet_X0 hown hK hP 5 rfl rfl 1 (by decide) (qN_count hN) (fun _ h9 => h9) rfl dX1_takeMet_50 ?_
      exact W.iret (v := nI (nk - 1)) hx hb hr (fun t ht hW => ⟨⟨nI (nk - 1), ((gh, nh), (gr, nr), (qDel gk b, nk - 1), nI (a - 1), -1), rfl, (by simp only [qTouch, if_neg hfi, if_neg (show ¬ (1 : Int32) = 0 by decide), if_pos True.intro, if_neg (nI_pos (show b < 2 ^ 31 by omega)), nI_clamp (show b < 2 ^ 31 by omega), if_pos (nI_lt (show b < a by omega) (show a < 2 ^ 31 by omega)), q_m1 (show 0 < a by omega)]), fh, fr, f_2, ha1, ha2, hg_2, by rw [ht]; exact hP, va_K.moved hW.alike hK, hD⟩, hS.F ht⟩) hS.2.2 dX1_takeMet_53

set_option maxHeartbeats 4000000 in
set_option maxRecDepth 100000 in
theorem c_Hall_putAtFinger (l : Launch) (dC : Nat → ClassId) (dI : Nat → Nat → Nat) (sz : Nat) (x0 a1 b1 a2 b2 a3 b3 nh nr nk : Nat) (cA : ClassId) (fh gh fr gr fk gk : Nat → Int32) (fi me : Int32) (p0 : Int32) (hn : nh + nr + nk < 2000) (ha1 : qAg nh fh gh) (ha2 : qAg nr fr gr) (ha3 : qAg nk fk gk) (hF : qFok fi me nk) (hfi : ¬ fi < 0) : Met l yX1_putAtFinger wsX1_putAtFinger ({ frames := 2, cells := 0, slots := 0, locals := 58 }) (va_Pc [.ref x0, .int p0] (fun U => U.heap.size = sz ∧ va_P (dC, dI) vwCl [(x0, .inr (1, [.ref a1, .ref a2, .ref a3, .int fi, .int me])), (a1, .inr (0, [.ref b1, .int (nI nh)])), (b1, .inl (cA, 2100, .inl fh)), (a2, .inr (0, [.ref b2, .int (nI nr)])), (b2, .inl (cA, 2100, .inl fr)), (a3, .inr (0, [.ref b3, .int (nI nk)])), (b3, .inl (cA, 2100, .inl fk))] U.heap ∧ va_K (dC, dI) vwCl [(cA, .int)] U ∧ va_D (fun _ => True) [(x0, .inr (1, [.ref a1, .ref a2, .ref a3, .int fi, .int me])), (a1, .inr (0, [.ref b1, .int (nI nh)])), (b1, .inl (cA, 2100, .inl fh)), (a2, .inr (0, [.ref b2, .int (nI nr)])), (b2, .inl (cA, 2100, .inl fr)), (a3, .inr (0, [.ref b3, .int (nI nk)])), (b3, .inl (cA, 2100, .inl fk))] ∧ qNest U)) (va_Qi (fun (r : Int32) (u : qS) => (r, u) = qTouch 2 p0 ((gh, nh), (gr, nr), (gk, nk), fi, me)) (at_H dC dI (va_A [(x0, .inr (1, [.ref a1, .ref a2, .ref a3, .int fi, .int me])), (a1, .inr (0, [.ref b1, .int (nI nh)])), (b1, .inl (cA, 2100, .inl fh)), (a2, .inr (0, [.ref b2, .int (nI nr)])), (b2, .inl (cA, 2100, .inl fr)), (a3, .inr (0, [.ref b3, .int (nI nk)])), (b3, .inl (cA, 2100, .inl fk))] sz) x0 a1 b1 a2 b2 a3 b3 cA) (va_A [(x0, .inr (1, [.ref a1, .ref a2, .ref a3, .int fi, .int me])), (a1, .inr (0, [.ref b1, .int (nI nh)])), (b1, .inl (cA, 2100, .inl fh)), (a2, .inr (0, [.ref b2, .int (nI nr)])), (b2, .inl (cA, 2100, .inl fr)), (a3, .inr (0, [.ref b3, .int (nI nk)])), (b3, .inl (cA, 2100, .inl fk))] sz)) 0 0 (va_A [(x0, .inr (1, [.ref a1, .ref a2, .ref a3, .int fi, .int me])), (a1, .inr (0, [.ref b1, .int (nI nh)])), (b1, .inl (cA, 2100, .inl fh)), (a2, .inr (0, [.ref b2, .int (nI nr)])), (b2, .inl (cA, 2100, .inl fr)), (a3, .inr (0, [.ref b3, .int (nI nk)])), (b3, .inl (cA, 2100, .inl fk))] sz) := by
  refine Met.ofW (cc := cX1_putAtFinger) (maxL := 2) (ret := (some .int)) (by decide +kernel) rfl ?_
  intro p e s m args below meth c s₁ B hml hv
  obtain ⟨rfl, hsz, hP, hK, hD0, hN⟩ := hv
  have hx := B.exec
  have hb := B.bytes
  have hr := B.returns
  have hts := atoms_spec (ws := wsX1_putAtFinger) B.pre
  have hown : s.vm.findClass RX1 = some m.cls := findClass_of_methodNamed B.named
  have hlocks := B.notSynchronized
  subst hsz
  have hD := hD0.self (sz := s.heap.size)
  generalize hAe : va_A [(x0, .inr (1, [.ref a1, .ref a2, .ref a3, .int fi, .int me])), (a1, .inr (0, [.ref b1, .int (nI nh)])), (b1, .inl (cA, 2100, .inl fh)), (a2, .inr (0, [.ref b2, .int (nI nr)])), (b2, .inl (cA, 2100, .inl fr)), (a3, .inr (0, [.ref b3, .int (nI nk)])), (b3, .inl (cA, 2100, .inl fk))] s.heap.size = A at hD ⊢
  have hA : ∀ q : Nat, s.heap.size ≤ q → A q := fun q h => by rw [← hAe]; exact Or.inr h
  have hS : va_S A s.heap s.heap [] := va_S.rf
  have hl := lv_entry ([.ref x0, .int p0]) (n := 2) (Nat.le_of_ble_eq_true rfl)
  rw [lg_entry_eq]
  generalize (lg_sl ([.ref x0, .int p0]) ++ List.replicate (2 - (lg_sl ([.ref x0, .int p0])).length) Slot.unset).toArray = ls at hl ⊢
  have hl : lv_has ls 2 [(0, .ref x0), (1, .int p0)] := hl
  obtain ⟨a, ha, rfl⟩ := qFok_a hF hfi
  · refine lv_aload_n hx hb dX1_putAtFinger_0 rfl (lv_at hl 0 rfl) ?_
    refine va_get (D := (dC, dI)) (ci := 1) (v := .ref a3) (C := RX1) (T := TX1) (N := 5) hx hb hts inX1_putAtFinger_X1 hown hK hP 0 rfl rfl 2 (by decide) (hts (.fieldLink RX1 19 "QueueHall" "chainRow" "LQueueHall$Row;") (List.mem_of_getElem? (i := 1) (by decide +kernel))) (fun _ h9 => h9) rfl dX1_putAtFinger_1 ?_
    refine lv_aload_n hx hb dX1_putAtFinger_4 rfl (lv_at hl 0 rfl) ?_
    refine va_get (D := (dC, dI)) (ci := 1) (v := .int (nI a)) (C := RX1) (T := TX1) (N := 5) hx hb hts inX1_putAtFinger_X1 hown hK hP 0 rfl rfl 3 (by decide) (hts (.fieldLink RX1 22 "QueueHall" "fingerPlace" "I") (List.mem_of_getElem? (i := 2) (by decide +kernel))) (fun _ h9 => h9) rfl dX1_putAtFinger_5 ?_
    refine lv_iload_n hx hb dX1_putAtFinger_8 rfl (lv_at hl 1 rfl) ?_
    have hPc := hP.sub (ws' := [(a3, .inr (0, [.ref b3, .int (nI nk)])), (b3, .inl (cA, 2100, .inl fk))]) [5, 6] rfl
    have hKc := hK.sub (tys' := [(cA, .int)]) [0] rfl
    have hDc := hD.sub (ws' := [(a3, .inr (0, [.ref b3, .int (nI nk)])), (b3, .inl (cA, 2100, .inl fk))]) [5, 6] (by decide) rfl
    have hFc := va_free (wc := [(a3, .inr (0, [.ref b3, .int (nI nk)])), (b3, .inl (cA, 2100, .inl fk))]) hD hS hA [5, 6] rfl
    refine va_calli (va_runVN (As := [.int (nI a), .int p0]) (rest := []) ⟨hx, hb, hml, hown, hts⟩ (c_Row_put l dC dI s.heap.size a3 b3 nk cA fk gk (nI a) p0 (by omega) ha3) ⟨va_cnB 2 hts gX1_putAtFinger_X0_put rfl rfl rfl (qN_put hN) (hts (.initialized RX0) (List.mem_of_getElem? (i := 5) (by decide +kernel))) (by decide +kernel) ⟨Nat.le_of_ble_eq_true rfl, Nat.le_of_ble_eq_true rfl⟩, (hts (.instanceMethod yX0_put) (List.mem_of_getElem? (i := 3) (by decide +kernel))), (hts (.selects RX0 yX0_put yX0_put) (List.mem_of_getElem? (i := 4) (by decide +kernel)))⟩ ⟨q_blW, va_recv hKc hPc (ci := 0) (q0 := 0) rfl rfl, fun U hU hW => ⟨rfl, by rw [hU], by rw [hU]; exact hPc, va_K.moved hW.alike hKc, hDc.weaken (fun _ _ _ _ => trivial)⟩⟩ rfl rfl hl.1 rfl (lv_room (Nat.le_of_ble_eq_true rfl)) dX1_putAtFinger_9 ⟨Nat.le_of_ble_eq_true rfl, Nat.le_of_ble_eq_true rfl⟩) hS (fun q _ h => hFc q h) hFc (fun r_1 u_1 t_1 H1 locs ht hvm hw hB hz1 hk1 hS => ?_)
    have hw := hw.trans (qPut_i (k := a) (by omega) (by omega))
    obtain ⟨rfl, rfl⟩ := Prod.mk.inj hw
    obtain ⟨f_1, hg_1, hP1, hK1, hD1⟩ := hB
    rw [ht] at hP1
    obtain ⟨hP, hD⟩ := q_join (wr := [(x0, .inr (1, [.ref a1, .ref a2, .ref a3, .int (nI a), .int me])), (a1, .inr (0, [.ref b1, .int (nI nh)])), (b1, .inl (cA, 2100, .inl fh)), (a2, .inr (0, [.ref b2, .int (nI nr)])), (b2, .inl (cA, 2100, .inl fr))]) (w1 := [(a3, .inr (0, [.ref b3, .int (nI (nk + 1))])), (b3, .inl (cA, 2100, .inl f_1))]) (wz := [(x0, .inr (1, [.ref a1, .ref a2, .ref a3, .int (nI a), .int me])), (a1, .inr (0, [.ref b1, .int (nI nh)])), (b1, .inl (cA, 2100, .inl fh)), (a2, .inr (0, [.ref b2, .int (nI nr)])), (b2, .inl (cA, 2100, .inl fr)), (a3, .inr (0, [.ref b3, .int (nI (nk + 1))])), (b3, .inl (cA, 2100, .inl f_1))]) hP hD [5, 6] [0, 1, 2, 3, 4] [0, 1, 2, 3, 4, 5, 6] rfl rfl (by decide) (by decide) hk1 hFc hP1 hD1 rfl rfl (by decide)
    generalize H1 = H at hP hS ⊢
    refine lv_if_ne (tgt := 18) hx hb dX1_putAtFinger_12 (by decide) (fun c_2 => ?_) (fun c_0 => absurd c_0 (show ¬ (1 : Int32) = (0 : Int32) from (by decide)))
    refine lv_aload_n hx hb dX1_putAtFinger_18 rfl (lv_at hl 0 rfl) ?_
    refine lv_dup hx hb dX1_putAtFinger_19 rfl ?_
    refine va_get (D := (dC, dI)) (ci := 1) (v := .int (nI a)) (C := RX1) (T := TX1) (N := 5) hx hb hts inX1_putAtFinger_X1 hown hK hP 0 rfl rfl 3 (by decide) (hts (.fieldLink RX1 22 "QueueHall" "fingerPlace" "I") (List.mem_of_getElem? (i := 2) (by decide +kernel))) (fun _ h9 => h9) rfl dX1_putAtFinger_20 ?_
    refine lv_iconst (v := 1) hx hb dX1_putAtFinger_23 (by decide) ?_
    refine lv_iadd hx hb dX1_putAtFinger_24 ?_
    refine q_top (y := nI (a + 1)) (nI_1 a) ?_
    refine va_put (D := (dC, dI)) (ci := 1) (v := .int (nI (a + 1))) (ty := .int) (C := RX1) (T := TX1) (N := 5) hx hb hts inX1_putAtFinger_X1 tyX1 tyX1_ok nmX1 hown hK hP hD hS 0 rfl rfl 3 (by decide) (hts (.fieldLink RX1 22 "QueueHall" "fingerPlace" "I") (List.mem_of_getElem? (i := 2) (by decide +kernel))) (fun _ h9 => h9) rfl (by decide +kernel) rfl rfl (Nat.le_of_ble_eq_true rfl) dX1_putAtFinger_25 (fun H locs hP hD hS => ?_)
    have hP : va_P (dC, dI) vwCl [(x0, .inr (1, [.ref a1, .ref a2, .ref a3, .int (nI (a + 1)), .int me])), (a1, .inr (0, [.ref b1, .int (nI nh)])), (b1, .inl (cA, 2100, .inl fh)), (a2, .inr (0, [.ref b2, .int (nI nr)])), (b2, .inl (cA, 2100, .inl fr)), (a3, .inr (0, [.ref b3, .int (nI (nk + 1))])), (b3, .inl (cA, 2100, .inl f_1))] H := hP
    have hD : va_D A [(x0, .inr (1, [.ref a1, .ref a2, .ref a3, .int (nI (a + 1)), .int me])), (a1, .inr (0, [.ref b1, .int (nI nh)])), (b1, .inl (cA, 2100, .inl fh)), (a2, .inr (0, [.ref b2, .int (nI nr)])), (b2, .inl (cA, 2100, .inl fr)), (a3, .inr (0, [.ref b3, .int (nI (nk + 1))])), (b3, .inl (cA, 2100, .inl f_1))] := hD
    refine lv_aload_n hx hb dX1_putAtFinger_28 rfl (lv_at hl 0 rfl) ?_
    refine lv_iconst (v := -1) hx hb dX1_putAtFinger_29 (by decide) ?_
    refine va_put (D := (dC, dI)) (ci := 1) (v := .int (-1)) (ty := .int) (C := RX1) (T := TX1) (N := 5) hx hb hts inX1_putAtFinger_X1 tyX1 tyX1_ok nmX1 hown hK hP hD hS 0 rfl rfl 4 (by decide) (hts (.fieldLink RX1 26 "QueueHall" "metPlace" "I") (List.mem_of_getElem? (i := 17) (by decide +kernel))) (fun _ h9 => h9) rfl (by decide +kernel) rfl rfl (Nat.le_of_ble_eq_true rfl) dX1_putAtFinger_30 (fun H locs hP hD hS => ?_)
    have hP : va_P (dC, dI) vwCl [(x0, .inr (1, [.ref a1, .ref a2, .ref a3, .int (nI (a + 1)), .int (-1)])), (a1, .inr (0, [.ref b1, .int (nI nh)])), (b1, .inl (cA, 2100, .inl fh)), (a2, .inr (0, [.ref b2, .int (nI nr)])), (b2, .inl (cA, 2100, .inl fr)), (a3, .inr (0, [.ref b3, .int (nI (nk + 1))])), (b3, .inl (cA, 2100, .inl f_1))] H := hP
    have hD : va_D A [(x0, .inr (1, [.ref a1, .ref a2, .ref a3, .int (nI (a + 1)), .int (-1)])), (a1, .inr (0, [.ref b1, .int (nI nh)])), (b1, .inl (cA, 2100, .inl fh)), (a2, .inr (0, [.ref b2, .int (nI nr)])), (b2, .inl (cA, 2100, .inl fr)), (a3, .inr (0, [.ref b3, .int (nI (nk + 1))])), (b3, .inl (cA, 2100, .inl f_1))] := hD
    refine lv_aload_n hx hb dX1_putAtFinger_33 rfl (lv_at hl 0 rfl) ?_
    refine va_get (D := (dC, dI)) (ci := 1) (v := .ref a3) (C := RX1) (T := TX1) (N := 5) hx hb hts inX1_putAtFinger_X1 hown hK hP 0 rfl rfl 2 (by decide) (hts (.fieldLink RX1 19 "QueueHall" "chainRow" "LQueueHall$Row;") (List.mem_of_getElem? (i := 1) (by decide +kernel))) (fun _ h9 => h9) rfl dX1_putAtFinger_34 ?_
    refine va_getN (D := (dC, dI)) (ci := 0) (v := .int (nI (nk + 1))) (C := RX0) (T := TX0) (N := 2) hx hb hts inX1_putAtFinger_X0 hown hK hP 5 rfl rfl 1 (by decide) (qN_count hN) (fun _ h9 => h9) rfl dX1_putAtFinger_37 ?_
    exact W.iret (v := nI (nk + 1)) hx hb hr (fun t ht hW => ⟨⟨nI (nk + 1), ((gh, nh), (gr, nr), (qIns gk a p0, nk + 1), nI (a + 1), -1), rfl, (by simp only [qTouch, if_neg hfi, if_neg (show ¬ (2 : Int32) = 0 by decide), if_neg (show ¬ (2 : Int32) = 1 by decide), if_pos True.intro, nI_clamp (show a < 2 ^ 31 by omega), nI_1]), fh, fr, f_1, ha1, ha2, hg_1, by rw [ht]; exact hP, va_K.moved hW.alike hK, hD⟩, hS.F ht⟩) hS.2.2 dX1_putAtFinger_40

set_option maxHeartbeats 4000000 in
set_option maxRecDepth 100000 in
theorem c_Hall_touch (l : Launch) (dC : Nat → ClassId) (dI : Nat → Nat → Nat) (sz : Nat) (x0 a1 b1 a2 b2 a3 b3 nh nr nk : Nat) (cA : ClassId) (fh gh fr gr fk gk : Nat → Int32) (fi me : Int32) (p0 p1 : Int32) (hn : nh + nr + nk < 2000) (ha1 : qAg nh fh gh) (ha2 : qAg nr fr gr) (ha3 : qAg nk fk gk) (hF : qFok fi me nk) : Met l yX1_touch wsX1_touch ({ frames := 3, cells := 0, slots := 0, locals := 90 }) (va_Pc [.ref x0, .int p0, .int p1] (fun U => U.heap.size = sz ∧ va_P (dC, dI) vwCl [(x0, .inr (1, [.ref a1, .ref a2, .ref a3, .int fi, .int me])), (a1, .inr (0, [.ref b1, .int (nI nh)])), (b1, .inl (cA, 2100, .inl fh)), (a2, .inr (0, [.ref b2, .int (nI nr)])), (b2, .inl (cA, 2100, .inl fr)), (a3, .inr (0, [.ref b3, .int (nI nk)])), (b3, .inl (cA, 2100, .inl fk))] U.heap ∧ va_K (dC, dI) vwCl [(cA, .int)] U ∧ va_D (fun _ => True) [(x0, .inr (1, [.ref a1, .ref a2, .ref a3, .int fi, .int me])), (a1, .inr (0, [.ref b1, .int (nI nh)])), (b1, .inl (cA, 2100, .inl fh)), (a2, .inr (0, [.ref b2, .int (nI nr)])), (b2, .inl (cA, 2100, .inl fr)), (a3, .inr (0, [.ref b3, .int (nI nk)])), (b3, .inl (cA, 2100, .inl fk))] ∧ qNest U)) (va_Qi (fun (r : Int32) (u : qS) => (r, u) = qTouch p0 p1 ((gh, nh), (gr, nr), (gk, nk), fi, me)) (at_H dC dI (va_A [(x0, .inr (1, [.ref a1, .ref a2, .ref a3, .int fi, .int me])), (a1, .inr (0, [.ref b1, .int (nI nh)])), (b1, .inl (cA, 2100, .inl fh)), (a2, .inr (0, [.ref b2, .int (nI nr)])), (b2, .inl (cA, 2100, .inl fr)), (a3, .inr (0, [.ref b3, .int (nI nk)])), (b3, .inl (cA, 2100, .inl fk))] sz) x0 a1 b1 a2 b2 a3 b3 cA) (va_A [(x0, .inr (1, [.ref a1, .ref a2, .ref a3, .int fi, .int me])), (a1, .inr (0, [.ref b1, .int (nI nh)])), (b1, .inl (cA, 2100, .inl fh)), (a2, .inr (0, [.ref b2, .int (nI nr)])), (b2, .inl (cA, 2100, .inl fr)), (a3, .inr (0, [.ref b3, .int (nI nk)])), (b3, .inl (cA, 2100, .inl fk))] sz)) 0 0 (va_A [(x0, .inr (1, [.ref a1, .ref a2, .ref a3, .int fi, .int me])), (a1, .inr (0, [.ref b1, .int (nI nh)])), (b1, .inl (cA, 2100, .inl fh)), (a2, .inr (0, [.ref b2, .int (nI nr)])), (b2, .inl (cA, 2100, .inl fr)), (a3, .inr (0, [.ref b3, .int (nI nk)])), (b3, .inl (cA, 2100, .inl fk))] sz) := by
  refine Met.ofW (cc := cX1_touch) (maxL := 3) (ret := (some .int)) (by decide +kernel) rfl ?_
  intro p e s m args below meth c s₁ B hml hv
  obtain ⟨rfl, hsz, hP, hK, hD0, hN⟩ := hv
  have hx := B.exec
  have hb := B.bytes
  have hr := B.returns
  have hts := atoms_spec (ws := wsX1_touch) B.pre
  have hown : s.vm.findClass RX1 = some m.cls := findClass_of_methodNamed B.named
  have hlocks := B.notSynchronized
  subst hsz
  have hD := hD0.self (sz := s.heap.size)
  generalize hAe : va_A [(x0, .inr (1, [.ref a1, .ref a2, .ref a3, .int fi, .int me])), (a1, .inr (0, [.ref b1, .int (nI nh)])), (b1, .inl (cA, 2100, .inl fh)), (a2, .inr (0, [.ref b2, .int (nI nr)])), (b2, .inl (cA, 2100, .inl fr)), (a3, .inr (0, [.ref b3, .int (nI nk)])), (b3, .inl (cA, 2100, .inl fk))] s.heap.size = A at hD ⊢
  have hA : ∀ q : Nat, s.heap.size ≤ q → A q := fun q h => by rw [← hAe]; exact Or.inr h
  have hS : va_S A s.heap s.heap [] := va_S.rf
  have hl := lv_entry ([.ref x0, .int p0, .int p1]) (n := 3) (Nat.le_of_ble_eq_true rfl)
  rw [lg_entry_eq]
  generalize (lg_sl ([.ref x0, .int p0, .int p1]) ++ List.replicate (3 - (lg_sl ([.ref x0, .int p0, .int p1])).length) Slot.unset).toArray = ls at hl ⊢
  have hl : lv_has ls 3 [(0, .ref x0), (1, .int p0), (2, .int p1)] := hl
  rcases q_tw fi p0 with hfi | ⟨hfi, rfl⟩ | ⟨hfi, rfl⟩ | ⟨hfi, rfl⟩ | ⟨hfi, w0, w1, w2⟩
  · refine lv_aload_n hx hb dX1_touch_0 rfl (lv_at hl 0 rfl) ?_
    refine va_get (D := (dC, dI)) (ci := 1) (v := .int fi) (C := RX1) (T := TX1) (N := 5) hx hb hts inX1_touch_X1 hown hK hP 0 rfl rfl 3 (by decide) (hts (.fieldLink RX1 22 "QueueHall" "fingerPlace" "I") (List.mem_of_getElem? (i := 1) (by decide +kernel))) (fun _ h9 => h9) rfl dX1_touch_1 ?_
    refine lv_iconst (v := -1) hx hb dX1_touch_4 (by decide) ?_
    refine lv_icmp_ne (tgt := 10) hx hb dX1_touch_5 (by decide) (fun c_0 => absurd (show fi = (-1 : Int32) from (qFok_n hF hfi (by omega))) c_0) (fun c_1 => ?_)
    refine lv_iconst (v := -1) hx hb dX1_touch_8 (by decide) ?_
    exact W.iret (v := -1) hx hb hr (fun t ht hW => ⟨⟨-1, ((gh, nh), (gr, nr), (gk, nk), fi, me), rfl, (by simp only [qTouch, if_pos hfi]), fh, fr, fk, ha1, ha2, ha3, by rw [ht]; exact hP, va_K.moved hW.alike hK, hD⟩, hS.F ht⟩) hS.2.2 dX1_touch_9
  · refine lv_aload_n hx hb dX1_touch_0 rfl (lv_at hl 0 rfl) ?_
    refine va_get (D := (dC, dI)) (ci := 1) (v := .int fi) (C := RX1) (T := TX1) (N := 5) hx hb hts inX1_touch_X1 hown hK hP 0 rfl rfl 3 (by decide) (hts (.fieldLink RX1 22 "QueueHall" "fingerPlace" "I") (List.mem_of_getElem? (i := 1) (by decide +kernel))) (fun _ h9 => h9) rfl dX1_touch_1 ?_
    refine lv_iconst (v := -1) hx hb dX1_touch_4 (by decide) ?_
    refine lv_icmp_ne (tgt := 10) hx hb dX1_touch_5 (by decide) (fun c_2 => ?_) (fun c_0 => absurd c_0 (show ¬ fi = (-1 : Int32) from (qFok_nn hfi)))
    refine lv_iload_n hx hb dX1_touch_10 rfl (lv_at hl 1 rfl) ?_
    refine lv_tableIn (off := 25) (tgt := 36) hx hb dX1_touch_11 (by decide) (by decide) (by decide +kernel) (by decide) ?_
    refine lv_aload_n hx hb dX1_touch_36 rfl (lv_at hl 0 rfl) ?_
    refine lv_iload_n hx hb dX1_touch_37 rfl (lv_at hl 2 rfl) ?_
    have hPc := hP.sub (ws' := [(x0, .inr (1, [.ref a1, .ref a2, .ref a3, .int fi, .int me])), (a1, .inr (0, [.ref b1, .int (nI nh)])), (b1, .inl (cA, 2100, .inl fh)), (a2, .inr (0, [.ref b2, .int (nI nr)])), (b2, .inl (cA, 2100, .inl fr)), (a3, .inr (0, [.ref b3, .int (nI nk)])), (b3, .inl (cA, 2100, .inl fk))]) [0, 1, 2, 3, 4, 5, 6] rfl
    have hKc := hK.sub (tys' := [(cA, .int)]) [0] rfl
    have hDc := hD.sub (ws' := [(x0, .inr (1, [.ref a1, .ref a2, .ref a3, .int fi, .int me])), (a1, .inr (0, [.ref b1, .int (nI nh)])), (b1, .inl (cA, 2100, .inl fh)), (a2, .inr (0, [.ref b2, .int (nI nr)])), (b2, .inl (cA, 2100, .inl fr)), (a3, .inr (0, [.ref b3, .int (nI nk)])), (b3, .inl (cA, 2100, .inl fk))]) [0, 1, 2, 3, 4, 5, 6] (by decide) rfl
    have hFc := va_free (wc := [(x0, .inr (1, [.ref a1, .ref a2, .ref a3, .int fi, .int me])), (a1, .inr (0, [.ref b1, .int (nI nh)])), (b1, .inl (cA, 2100, .inl fh)), (a2, .inr (0, [.ref b2, .int (nI nr)])), (b2, .inl (cA, 2100, .inl fr)), (a3, .inr (0, [.ref b3, .int (nI nk)])), (b3, .inl (cA, 2100, .inl fk))]) hD hS hA [0, 1, 2, 3, 4, 5, 6] rfl
    refine va_calli (va_runV (As := [.int p1]) (rest := []) ⟨hx, hb, hml, hown, hts⟩ (c_Hall_changeMet l dC dI s.heap.size x0 a1 b1 a2 b2 a3 b3 nh nr nk cA fh gh fr gr fk gk fi me p1 (by omega) ha1 ha2 ha3 hF hfi) (cwV 1 hts gX1_touch_X1_changeMet_v rfl rfl rfl (by decide +kernel) ⟨Nat.le_of_ble_eq_true rfl, Nat.le_of_ble_eq_true rfl⟩) ⟨q_blWN, va_recv hKc hPc (ci := 1) (q0 := 0) rfl rfl, fun U hU hW => ⟨rfl, by rw [hU], by rw [hU]; exact hPc, va_K.moved hW.alike hKc, hDc.weaken (fun _ _ _ _ => trivial), hN.warm hW⟩⟩ rfl rfl hl.1 rfl (lv_room (Nat.le_of_ble_eq_true rfl)) dX1_touch_38 ⟨Nat.le_of_ble_eq_true rfl, Nat.le_of_ble_eq_true rfl⟩) hS (fun q _ h => hFc q h) hFc (fun r_3 u_3 t_3 H1 locs ht hvm hw hB hz1 hk1 hS => ?_)
    obtain ⟨⟨gh_3, nh_3⟩, ⟨gr_3, nr_3⟩, ⟨gk_3, nk_3⟩, fi_3, me_3⟩ := u_3
    obtain ⟨fh_3, fr_3, fk_3, hh_3, hr_3, hk_3, hP1, hK1, hD1⟩ := hB
    rw [ht] at hP1
    obtain ⟨hP, hD⟩ := q_join (wr := []) (w1 := [(x0, .inr (1, [.ref a1, .ref a2, .ref a3, .int fi_3, .int me_3])), (a1, .inr (0, [.ref b1, .int (nI nh_3)])), (b1, .inl (cA, 2100, .inl fh_3)), (a2, .inr (0, [.ref b2, .int (nI nr_3)])), (b2, .inl (cA, 2100, .inl fr_3)), (a3, .inr (0, [.ref b3, .int (nI nk_3)])), (b3, .inl (cA, 2100, .inl fk_3))]) (wz := [(x0, .inr (1, [.ref a1, .ref a2, .ref a3, .int fi_3, .int me_3])), (a1, .inr (0, [.ref b1, .int (nI nh_3)])), (b1, .inl (cA, 2100, .inl fh_3)), (a2, .inr (0, [.ref b2, .int (nI nr_3)])), (b2, .inl (cA, 2100, .inl fr_3)), (a3, .inr (0, [.ref b3, .int (nI nk_3)])), (b3, .inl (cA, 2100, .inl fk_3))]) hP hD [0, 1, 2, 3, 4, 5, 6] [] [0, 1, 2, 3, 4, 5, 6] rfl rfl (by decide) (by decide) hk1 hFc hP1 hD1 rfl rfl (by decide)
    generalize H1 = H at hP hS ⊢
    exact W.iret (v := r_3) hx hb hr (fun t ht hW => ⟨⟨r_3, ((gh_3, nh_3), (gr_3, nr_3), (gk_3, nk_3), fi_3, me_3), rfl, hw, fh_3, fr_3, fk_3, hh_3, hr_3, hk_3, by rw [ht]; exact hP, va_K.moved hW.alike hK, hD⟩, hS.F ht⟩) hS.2.2 dX1_touch_41
  · refine lv_aload_n hx hb dX1_touch_0 rfl (lv_at hl 0 rfl) ?_
    refine va_get (D := (dC, dI)) (ci := 1) (v := .int fi) (C := RX1) (T := TX1) (N := 5) hx hb hts inX1_touch_X1 hown hK hP 0 rfl rfl 3 (by decide) (hts (.fieldLink RX1 22 "QueueHall" "fingerPlace" "I") (List.mem_of_getElem? (i := 1) (by decide +kernel))) (fun _ h9 => h9) rfl dX1_touch_1 ?_
    refine lv_iconst (v := -1) hx hb dX1_touch_4 (by decide) ?_
    refine lv_icmp_ne (tgt := 10) hx hb dX1_touch_5 (by decide) (fun c_4 => ?_) (fun c_0 => absurd c_0 (show ¬ fi = (-1 : Int32) from (qFok_nn hfi)))
    refine lv_iload_n hx hb dX1_touch_10 rfl (lv_at hl 1 rfl) ?_
    refine lv_tableIn (off := 31) (tgt := 42) hx hb dX1_touch_11 (by decide) (by decide) (by decide +kernel) (by decide) ?_
    refine lv_aload_n hx hb dX1_touch_42 rfl (lv_at hl 0 rfl) ?_
    have hPc := hP.sub (ws' := [(x0, .inr (1, [.ref a1, .ref a2, .ref a3, .int fi, .int me])), (a1, .inr (0, [.ref b1, .int (nI nh)])), (b1, .inl (cA, 2100, .inl fh)), (a2, .inr (0, [.ref b2, .int (nI nr)])), (b2, .inl (cA, 2100, .inl fr)), (a3, .inr (0, [.ref b3, .int (nI nk)])), (b3, .inl (cA, 2100, .inl fk))]) [0, 1, 2, 3, 4, 5, 6] rfl
    have hKc := hK.sub (tys' := [(cA, .int)]) [0] rfl
    have hDc := hD.sub (ws' := [(x0, .inr (1, [.ref a1, .ref a2, .ref a3, .int fi, .int me])), (a1, .inr (0, [.ref b1, .int (nI nh)])), (b1, .inl (cA, 2100, .inl fh)), (a2, .inr (0, [.ref b2, .int (nI nr)])), (b2, .inl (cA, 2100, .inl fr)), (a3, .inr (0, [.ref b3, .int (nI nk)])), (b3, .inl (cA, 2100, .inl fk))]) [0, 1, 2, 3, 4, 5, 6] (by decide) rfl
    have hFc := va_free (wc := [(x0, .inr (1, [.ref a1, .ref a2, .ref a3, .int fi, .int me])), (a1, .inr (0, [.ref b1, .int (nI nh)])), (b1, .inl (cA, 2100, .inl fh)), (a2, .inr (0, [.ref b2, .int (nI nr)])), (b2, .inl (cA, 2100, .inl fr)), (a3, .inr (0, [.ref b3, .int (nI nk)])), (b3, .inl (cA, 2100, .inl fk))]) hD hS hA [0, 1, 2, 3, 4, 5, 6] rfl
    refine va_calli (va_runV (As := []) (rest := []) ⟨hx, hb, hml, hown, hts⟩ (c_Hall_takeMet l dC dI s.heap.size x0 a1 b1 a2 b2 a3 b3 nh nr nk cA fh gh fr gr fk gk fi me (by omega) ha1 ha2 ha3 hF hfi) (cwV 0 hts gX1_touch_X1_takeMet_v rfl rfl rfl (by decide +kernel) ⟨Nat.le_of_ble_eq_true rfl, Nat.le_of_ble_eq_true rfl⟩) ⟨q_blWN, va_recv hKc hPc (ci := 1) (q0 := 0) rfl rfl, fun U hU hW => ⟨rfl, by rw [hU], by rw [hU]; exact hPc, va_K.moved hW.alike hKc, hDc.weaken (fun _ _ _ _ => trivial), hN.warm hW⟩⟩ rfl rfl hl.1 rfl (lv_room (Nat.le_of_ble_eq_true rfl)) dX1_touch_43 ⟨Nat.le_of_ble_eq_true rfl, Nat.le_of_ble_eq_true rfl⟩) hS (fun q _ h => hFc q h) hFc (fun r_5 u_5 t_5 H1 locs ht hvm hw hB hz1 hk1 hS => ?_)
    obtain ⟨⟨gh_5, nh_5⟩, ⟨gr_5, nr_5⟩, ⟨gk_5, nk_5⟩, fi_5, me_5⟩ := u_5
    obtain ⟨fh_5, fr_5, fk_5, hh_5, hr_5, hk_5, hP1, hK1, hD1⟩ := hB
    rw [ht] at hP1
    obtain ⟨hP, hD⟩ := q_join (wr := []) (w1 := [(x0, .inr (1, [.ref a1, .ref a2, .ref a3, .int fi_5, .int me_5])), (a1, .inr (0, [.ref b1, .int (nI nh_5)])), (b1, .inl (cA, 2100, .inl fh_5)), (a2, .inr (0, [.ref b2, .int (nI nr_5)])), (b2, .inl (cA, 2100, .inl fr_5)), (a3, .inr (0, [.ref b3, .int (nI nk_5)])), (b3, .inl (cA, 2100, .inl fk_5))]) (wz := [(x0, .inr (1, [.ref a1, .ref a2, .ref a3, .int fi_5, .int me_5])), (a1, .inr (0, [.ref b1, .int (nI nh_5)])), (b1, .inl (cA, 2100, .inl fh_5)), (a2, .inr (0, [.ref b2, .int (nI nr_5)])), (b2, .inl (cA, 2100, .inl fr_5)), (a3, .inr (0, [.ref b3, .int (nI nk_5)])), (b3, .inl (cA, 2100, .inl fk_5))]) hP hD [0, 1, 2, 3, 4, 5, 6] [] [0, 1, 2, 3, 4, 5, 6] rfl rfl (by decide) (by decide) hk1 hFc hP1 hD1 rfl rfl (by decide)
    generalize H1 = H at hP hS ⊢
    exact W.iret (v := r_5) hx hb hr (fun t ht hW => ⟨⟨r_5, ((gh_5, nh_5), (gr_5, nr_5), (gk_5, nk_5), fi_5, me_5), rfl, (hw.trans (by simp only [qTouch, if_neg (show ¬ (1 : Int32) = 0 by decide), if_pos True.intro])), fh_5, fr_5, fk_5, hh_5, hr_5, hk_5, by rw [ht]; exact hP, va_K.moved hW.alike hK, hD⟩, hS.F ht⟩) hS.2.2 dX1_touch_46
  · refine lv_aload_n hx hb dX1_touch_0 rfl (lv_at hl 0 rfl) ?_
    refine va_get (D := (dC, dI)) (ci := 1) (v := .int fi) (C := RX1) (T := TX1) (N := 5) hx hb hts inX1_touch_X1 hown hK hP 0 rfl rfl 3 (by decide) (hts (.fieldLink RX1 22 "QueueHall" "fingerPlace" "I") (List.mem_of_getElem? (i := 1) (by decide +kernel))) (fun _ h9 => h9) rfl dX1_touch_1 ?_
    refine lv_iconst (v := -1) hx hb dX1_touch_4 (by decide) ?_
    refine lv_icmp_ne (tgt := 10) hx hb dX1_touch_5 (by decide) (fun c_6 => ?_) (fun c_0 => absurd c_0 (show ¬ fi = (-1 : Int32) from (qFok_nn hfi)))
    refine lv_iload_n hx hb dX1_touch_10 rfl (lv_at hl 1 rfl) ?_
    refine lv_tableIn (off := 36) (tgt := 47) hx hb dX1_touch_11 (by decide) (by decide) (by decide +kernel) (by decide) ?_
    refine lv_aload_n hx hb dX1_touch_47 rfl (lv_at hl 0 rfl) ?_
    refine lv_iload_n hx hb dX1_touch_48 rfl (lv_at hl 2 rfl) ?_
    have hPc := hP.sub (ws' := [(x0, .inr (1, [.ref a1, .ref a2, .ref a3, .int fi, .int me])), (a1, .inr (0, [.ref b1, .int (nI nh)])), (b1, .inl (cA, 2100, .inl fh)), (a2, .inr (0, [.ref b2, .int (nI nr)])), (b2, .inl (cA, 2100, .inl fr)), (a3, .inr (0, [.ref b3, .int (nI nk)])), (b3, .inl (cA, 2100, .inl fk))]) [0, 1, 2, 3, 4, 5, 6] rfl
    have hKc := hK.sub (tys' := [(cA, .int)]) [0] rfl
    have hDc := hD.sub (ws' := [(x0, .inr (1, [.ref a1, .ref a2, .ref a3, .int fi, .int me])), (a1, .inr (0, [.ref b1, .int (nI nh)])), (b1, .inl (cA, 2100, .inl fh)), (a2, .inr (0, [.ref b2, .int (nI nr)])), (b2, .inl (cA, 2100, .inl fr)), (a3, .inr (0, [.ref b3, .int (nI nk)])), (b3, .inl (cA, 2100, .inl fk))]) [0, 1, 2, 3, 4, 5, 6] (by decide) rfl
    have hFc := va_free (wc := [(x0, .inr (1, [.ref a1, .ref a2, .ref a3, .int fi, .int me])), (a1, .inr (0, [.ref b1, .int (nI nh)])), (b1, .inl (cA, 2100, .inl fh)), (a2, .inr (0, [.ref b2, .int (nI nr)])), (b2, .inl (cA, 2100, .inl fr)), (a3, .inr (0, [.ref b3, .int (nI nk)])), (b3, .inl (cA, 2100, .inl fk))]) hD hS hA [0, 1, 2, 3, 4, 5, 6] rfl
    refine va_calli (va_runV (As := [.int p1]) (rest := []) ⟨hx, hb, hml, hown, hts⟩ (c_Hall_putAtFinger l dC dI s.heap.size x0 a1 b1 a2 b2 a3 b3 nh nr nk cA fh gh fr gr fk gk fi me p1 (by omega) ha1 ha2 ha3 hF hfi) (cwV 1 hts gX1_touch_X1_putAtFinger_v rfl rfl rfl (by decide +kernel) ⟨Nat.le_of_ble_eq_true rfl, Nat.le_of_ble_eq_true rfl⟩) ⟨q_blWN, va_recv hKc hPc (ci := 1) (q0 := 0) rfl rfl, fun U hU hW => ⟨rfl, by rw [hU], by rw [hU]; exact hPc, va_K.moved hW.alike hKc, hDc.weaken (fun _ _ _ _ => trivial), hN.warm hW⟩⟩ rfl rfl hl.1 rfl (lv_room (Nat.le_of_ble_eq_true rfl)) dX1_touch_49 ⟨Nat.le_of_ble_eq_true rfl, Nat.le_of_ble_eq_true rfl⟩) hS (fun q _ h => hFc q h) hFc (fun r_7 u_7 t_7 H1 locs ht hvm hw hB hz1 hk1 hS => ?_)
    obtain ⟨⟨gh_7, nh_7⟩, ⟨gr_7, nr_7⟩, ⟨gk_7, nk_7⟩, fi_7, me_7⟩ := u_7
    obtain ⟨fh_7, fr_7, fk_7, hh_7, hr_7, hk_7, hP1, hK1, hD1⟩ := hB
    rw [ht] at hP1
    obtain ⟨hP, hD⟩ := q_join (wr := []) (w1 := [(x0, .inr (1, [.ref a1, .ref a2, .ref a3, .int fi_7, .int me_7])), (a1, .inr (0, [.ref b1, .int (nI nh_7)])), (b1, .inl (cA, 2100, .inl fh_7)), (a2, .inr (0, [.ref b2, .int (nI nr_7)])), (b2, .inl (cA, 2100, .inl fr_7)), (a3, .inr (0, [.ref b3, .int (nI nk_7)])), (b3, .inl (cA, 2100, .inl fk_7))]) (wz := [(x0, .inr (1, [.ref a1, .ref a2, .ref a3, .int fi_7, .int me_7])), (a1, .inr (0, [.ref b1, .int (nI nh_7)])), (b1, .inl (cA, 2100, .inl fh_7)), (a2, .inr (0, [.ref b2, .int (nI nr_7)])), (b2, .inl (cA, 2100, .inl fr_7)), (a3, .inr (0, [.ref b3, .int (nI nk_7)])), (b3, .inl (cA, 2100, .inl fk_7))]) hP hD [0, 1, 2, 3, 4, 5, 6] [] [0, 1, 2, 3, 4, 5, 6] rfl rfl (by decide) (by decide) hk1 hFc hP1 hD1 rfl rfl (by decide)
    generalize H1 = H at hP hS ⊢
    exact W.iret (v := r_7) hx hb hr (fun t ht hW => ⟨⟨r_7, ((gh_7, nh_7), (gr_7, nr_7), (gk_7, nk_7), fi_7, me_7), rfl, hw, fh_7, fr_7, fk_7, hh_7, hr_7, hk_7, by rw [ht]; exact hP, va_K.moved hW.alike hK, hD⟩, hS.F ht⟩) hS.2.2 dX1_touch_52
  · refine lv_aload_n hx hb dX1_touch_0 rfl (lv_at hl 0 rfl) ?_
    refine va_get (D := (dC, dI)) (ci := 1) (v := .int fi) (C := RX1) (T := TX1) (N := 5) hx hb hts inX1_touch_X1 hown hK hP 0 rfl rfl 3 (by decide) (hts (.fieldLink RX1 22 "QueueHall" "fingerPlace" "I") (List.mem_of_getElem? (i := 1) (by decide +kernel))) (fun _ h9 => h9) rfl dX1_touch_1 ?_
    refine lv_iconst (v := -1) hx hb dX1_touch_4 (by decide) ?_
    refine lv_icmp_ne (tgt := 10) hx hb dX1_touch_5 (by decide) (fun c_8 => ?_) (fun c_0 => absurd c_0 (show ¬ fi = (-1 : Int32) from (qFok_nn hfi)))
    refine lv_iload_n hx hb dX1_touch_10 rfl (lv_at hl 1 rfl) ?_
    refine lv_tableOut (tgt := 53) hx hb dX1_touch_11 (q_wo w0 w1 w2) (by decide) ?_
    refine lv_iconst (v := -1) hx hb dX1_touch_53 (by decide) ?_
    exact W.iret (v := -1) hx hb hr (fun t ht hW => ⟨⟨-1, ((gh, nh), (gr, nr), (gk, nk), fi, me), rfl, (by simp only [qTouch, if_neg hfi, if_neg w0, if_neg w1, if_neg w2]), fh, fr, fk, ha1, ha2, ha3, by rw [ht]; exact hP, va_K.moved hW.alike hK, hD⟩, hS.F ht⟩) hS.2.2 dX1_touch_54

set_option maxHeartbeats 4000000 in
set_option maxRecDepth 100000 in
theorem c_Hall_empty (l : Launch) (dC : Nat → ClassId) (dI : Nat → Nat → Nat) (sz : Nat) (x0 a1 b1 a2 b2 a3 b3 nh nr nk : Nat) (cA : ClassId) (fh gh fr gr fk gk : Nat → Int32) (fi me : Int32) (hn : nh + nr + nk < 2000) (ha1 : qAg nh fh gh) (ha2 : qAg nr fr gr) (ha3 : qAg nk fk gk) (hF : qFok fi me nk) : Met l yX1_empty wsX1_empty ({ frames := 2, cells := 0, slots := 0, locals := 58 }) (va_Pc [.ref x0] (fun U => U.heap.size = sz ∧ va_P (dC, dI) vwCl [(x0, .inr (1, [.ref a1, .ref a2, .ref a3, .int fi, .int me])), (a1, .inr (0, [.ref b1, .int (nI nh)])), (b1, .inl (cA, 2100, .inl fh)), (a2, .inr (0, [.ref b2, .int (nI nr)])), (b2, .inl (cA, 2100, .inl fr)), (a3, .inr (0, [.ref b3, .int (nI nk)])), (b3, .inl (cA, 2100, .inl fk))] U.heap ∧ va_K (dC, dI) vwCl [(cA, .int)] U ∧ va_D (fun _ => True) [(x0, .inr (1, [.ref a1, .ref a2, .ref a3, .int fi, .int me])), (a1, .inr (0, [.ref b1, .int (nI nh)])), (b1, .inl (cA, 2100, .inl fh)), (a2, .inr (0, [.ref b2, .int (nI nr)])), (b2, .inl (cA, 2100, .inl fr)), (a3, .inr (0, [.ref b3, .int (nI nk)])), (b3, .inl (cA, 2100, .inl fk))] ∧ qNest U)) (va_Qi (fun (r : Int32) (u : qS) => (r, u) = qEmpty ((gh, nh), (gr, nr), (gk, nk), fi, me)) (at_H dC dI (va_A [(x0, .inr (1, [.ref a1, .ref a2, .ref a3, .int fi, .int me])), (a1, .inr (0, [.ref b1, .int (nI nh)])), (b1, .inl (cA, 2100, .inl fh)), (a2, .inr (0, [.ref b2, .int (nI nr)])), (b2, .inl (cA, 2100, .inl fr)), (a3, .inr (0, [.ref b3, .int (nI nk)])), (b3, .inl (cA, 2100, .inl fk))] sz) x0 a1 b1 a2 b2 a3 b3 cA) (va_A [(x0, .inr (1, [.ref a1, .ref a2, .ref a3, .int fi, .int me])), (a1, .inr (0, [.ref b1, .int (nI nh)])), (b1, .inl (cA, 2100, .inl fh)), (a2, .inr (0, [.ref b2, .int (nI nr)])), (b2, .inl (cA, 2100, .inl fr)), (a3, .inr (0, [.ref b3, .int (nI nk)])), (b3, .inl (cA, 2100, .inl fk))] sz)) 0 0 (va_A [(x0, .inr (1, [.ref a1, .ref a2, .ref a3, .int fi, .int me])), (a1, .inr (0, [.ref b1, .int (nI nh)])), (b1, .inl (cA, 2100, .inl fh)), (a2, .inr (0, [.ref b2, .int (nI nr)])), (b2, .inl (cA, 2100, .inl fr)), (a3, .inr (0, [.ref b3, .int (nI nk)])), (b3, .inl (cA, 2100, .inl fk))] sz) := by
  refine Met.ofW (cc := cX1_empty) (maxL := 1) (ret := (some .int)) (by decide +kernel) rfl ?_
  intro p e s m args below meth c s₁ B hml hv
  obtain ⟨rfl, hsz, hP, hK, hD0, hN⟩ := hv
  have hx := B.exec
  have hb := B.bytes
  have hr := B.returns
  have hts := atoms_spec (ws := wsX1_empty) B.pre
  have hown : s.vm.findClass RX1 = some m.cls := findClass_of_methodNamed B.named
  have hlocks := B.notSynchronized
  subst hsz
  have hD := hD0.self (sz := s.heap.size)
  generalize hAe : va_A [(x0, .inr (1, [.ref a1, .ref a2, .ref a3, .int fi, .int me])), (a1, .inr (0, [.ref b1, .int (nI nh)])), (b1, .inl (cA, 2100, .inl fh)), (a2, .inr (0, [.ref b2, .int (nI nr)])), (b2, .inl (cA, 2100, .inl fr)), (a3, .inr (0, [.ref b3, .int (nI nk)])), (b3, .inl (cA, 2100, .inl fk))] s.heap.size = A at hD ⊢
  have hA : ∀ q : Nat, s.heap.size ≤ q → A q := fun q h => by rw [← hAe]; exact Or.inr h
  have hS : va_S A s.heap s.heap [] := va_S.rf
  have hl := lv_entry ([.ref x0]) (n := 1) (Nat.le_of_ble_eq_true rfl)
  rw [lg_entry_eq]
  generalize (lg_sl ([.ref x0]) ++ List.replicate (1 - (lg_sl ([.ref x0])).length) Slot.unset).toArray = ls at hl ⊢
  have hl : lv_has ls 1 [(0, .ref x0)] := hl
  refine lv_aload_n hx hb dX1_empty_0 rfl (lv_at hl 0 rfl) ?_
  refine va_get (D := (dC, dI)) (ci := 1) (v := .ref a2) (C := RX1) (T := TX1) (N := 5) hx hb hts inX1_empty_X1 hown hK hP 0 rfl rfl 1 (by decide) (hts (.fieldLink RX1 16 "QueueHall" "ringRow" "LQueueHall$Row;") (List.mem_of_getElem? (i := 1) (by decide +kernel))) (fun _ h9 => h9) rfl dX1_empty_1 ?_
  refine lv_aload_n hx hb dX1_empty_4 rfl (lv_at hl 0 rfl) ?_
  refine va_get (D := (dC, dI)) (ci := 1) (v := .ref a1) (C := RX1) (T := TX1) (N := 5) hx hb hts inX1_empty_X1 hown hK hP 0 rfl rfl 0 (by decide) (hts (.fieldLink RX1 10 "QueueHall" "hallRow" "LQueueHall$Row;") (List.mem_of_getElem? (i := 2) (by decide +kernel))) (fun _ h9 => h9) rfl dX1_empty_5 ?_
  refine lv_aload_n hx hb dX1_empty_8 rfl (lv_at hl 0 rfl) ?_
  refine va_get (D := (dC, dI)) (ci := 1) (v := .ref a2) (C := RX1) (T := TX1) (N := 5) hx hb hts inX1_empty_X1 hown hK hP 0 rfl rfl 1 (by decide) (hts (.fieldLink RX1 16 "QueueHall" "ringRow" "LQueueHall$Row;") (List.mem_of_getElem? (i := 1) (by decide +kernel))) (fun _ h9 => h9) rfl dX1_empty_9 ?_
  refine va_getN (D := (dC, dI)) (ci := 0) (v := .int (nI nr)) (C := RX0) (T := TX0) (N := 2) hx hb hts inX1_empty_X0 hown hK hP 3 rfl rfl 1 (by decide) (qN_count hN) (fun _ h9 => h9) rfl dX1_empty_12 ?_
  have hPc := hP.sub (ws' := [(a2, .inr (0, [.ref b2, .int (nI nr)])), (b2, .inl (cA, 2100, .inl fr)), (a1, .inr (0, [.ref b1, .int (nI nh)])), (b1, .inl (cA, 2100, .inl fh))]) [3, 4, 1, 2] rfl
  have hKc := hK.sub (tys' := [(cA, .int)]) [0] rfl
  have hDc := hD.sub (ws' := [(a2, .inr (0, [.ref b2, .int (nI nr)])), (b2, .inl (cA, 2100, .inl fr)), (a1, .inr (0, [.ref b1, .int (nI nh)])), (b1, .inl (cA, 2100, .inl fh))]) [3, 4, 1, 2] (by decide) rfl
  have hFc := va_free (wc := [(a2, .inr (0, [.ref b2, .int (nI nr)])), (b2, .inl (cA, 2100, .inl fr)), (a1, .inr (0, [.ref b1, .int (nI nh)])), (b1, .inl (cA, 2100, .inl fh))]) hD hS hA [3, 4, 1, 2] rfl
  refine va_calli (va_runVN (As := [.ref a1, .int (nI nr)]) (rest := []) ⟨hx, hb, hml, hown, hts⟩ (c_Row_takeAll l dC dI s.heap.size a2 b2 nr a1 b1 nh nr cA fr gr fh gh (by omega) (by omega) ha2 ha1) ⟨va_cnB 2 hts gX1_empty_X0_takeAll rfl rfl rfl (qN_takeAll hN) (hts (.initialized RX0) (List.mem_of_getElem? (i := 5) (by decide +kernel))) (by decide +kernel) ⟨Nat.le_of_ble_eq_true rfl, Nat.le_of_ble_eq_true rfl⟩, (hts (.instanceMethod yX0_takeAll) (List.mem_of_getElem? (i := 3) (by decide +kernel))), (hts (.selects RX0 yX0_takeAll yX0_takeAll) (List.mem_of_getElem? (i := 4) (by decide +kernel)))⟩ ⟨q_blW, va_recv hKc hPc (ci := 0) (q0 := 0) rfl rfl, fun U hU hW => ⟨rfl, by rw [hU], by rw [hU]; exact hPc, va_K.moved hW.alike hKc, hDc.weaken (fun _ _ _ _ => trivial)⟩⟩ rfl rfl hl.1 rfl (lv_room (Nat.le_of_ble_eq_true rfl)) dX1_empty_15 ⟨Nat.le_of_ble_eq_true rfl, Nat.le_of_ble_eq_true rfl⟩) hS (fun q _ h => hFc q h) hFc (fun r_1 u_1 t_1 H1 locs ht hvm hw hB hz1 hk1 hS => ?_)
  obtain ⟨rfl, rfl⟩ := Prod.mk.inj hw
  obtain ⟨f_1, fo_1, hg_1, ho_1, hP1, hK1, hD1⟩ := hB
  rw [ht] at hP1
  obtain ⟨hP, hD⟩ := q_join (wr := [(x0, .inr (1, [.ref a1, .ref a2, .ref a3, .int fi, .int me])), (a3, .inr (0, [.ref b3, .int (nI nk)])), (b3, .inl (cA, 2100, .inl fk))]) (w1 := [(a2, .inr (0, [.ref b2, .int (nI (nr + nh))])), (b2, .inl (cA, 2100, .inl f_1)), (a1, .inr (0, [.ref b1, .int (nI 0)])), (b1, .inl (cA, 2100, .inl fo_1))]) (wz := [(x0, .inr (1, [.ref a1, .ref a2, .ref a3, .int fi, .int me])), (a1, .inr (0, [.ref b1, .int (nI 0)])), (b1, .inl (cA, 2100, .inl fo_1)), (a2, .inr (0, [.ref b2, .int (nI (nr + nh))])), (b2, .inl (cA, 2100, .inl f_1)), (a3, .inr (0, [.ref b3, .int (nI nk)])), (b3, .inl (cA, 2100, .inl fk))]) hP hD [3, 4, 1, 2] [0, 5, 6] [0, 5, 6, 3, 4, 1, 2] rfl rfl (by decide) (by decide) hk1 hFc hP1 hD1 rfl rfl (by decide)
  generalize H1 = H at hP hS ⊢
  refine lv_if_eq (tgt := 31) hx hb dX1_empty_18 (by decide) (fun c_0 => absurd c_0 (show ¬ (1 : Int32) = (0 : Int32) from (by decide))) (fun c_2 => ?_)
  refine lv_aload_n hx hb dX1_empty_21 rfl (lv_at hl 0 rfl) ?_
  refine va_get (D := (dC, dI)) (ci := 1) (v := .ref a2) (C := RX1) (T := TX1) (N := 5) hx hb hts inX1_empty_X1 hown hK hP 0 rfl rfl 1 (by decide) (hts (.fieldLink RX1 16 "QueueHall" "ringRow" "LQueueHall$Row;") (List.mem_of_getElem? (i := 1) (by decide +kernel))) (fun _ h9 => h9) rfl dX1_empty_22 ?_
  refine va_getN (D := (dC, dI)) (ci := 0) (v := .int (nI (nr + nh))) (C := RX0) (T := TX0) (N := 2) hx hb hts inX1_empty_X0 hown hK hP 3 rfl rfl 1 (by decide) (qN_count hN) (fun _ h9 => h9) rfl dX1_empty_25 ?_
  refine lv_goto (tgt := 33) hx hb dX1_empty_28 (by decide) ?_
  exact W.iret (v := nI (nr + nh)) hx hb hr (fun t ht hW => ⟨⟨nI (nr + nh), ((gh, 0), (qCat gr nr gh nh, nr + nh), (gk, nk), fi, me), rfl, rfl, fo_1, f_1, fk, ho_1, hg_1, ha3, by rw [ht]; exact hP, va_K.moved hW.alike hK, hD⟩, hS.F ht⟩) hS.2.2 dX1_empty_33

set_option maxHeartbeats 4000000 in
set_option maxRecDepth 100000 in
theorem c_Hall_hand (l : Launch) (dC : Nat → ClassId) (dI : Nat → Nat → Nat) (sz : Nat) (x0 a1 b1 a2 b2 a3 b3 nh nr nk : Nat) (cA : ClassId) (fh gh fr gr fk gk : Nat → Int32) (fi me : Int32) (hn : nh + nr + nk < 2000) (ha1 : qAg nh fh gh) (ha2 : qAg nr fr gr) (ha3 : qAg nk fk gk) (hF : qFok fi me nk) : Met l yX1_hand wsX1_hand ({ frames := 2, cells := 0, slots := 0, locals := 58 }) (va_Pc [.ref x0] (fun U => U.heap.size = sz ∧ va_P (dC, dI) vwCl [(x0, .inr (1, [.ref a1, .ref a2, .ref a3, .int fi, .int me])), (a1, .inr (0, [.ref b1, .int (nI nh)])), (b1, .inl (cA, 2100, .inl fh)), (a2, .inr (0, [.ref b2, .int (nI nr)])), (b2, .inl (cA, 2100, .inl fr)), (a3, .inr (0, [.ref b3, .int (nI nk)])), (b3, .inl (cA, 2100, .inl fk))] U.heap ∧ va_K (dC, dI) vwCl [(cA, .int)] U ∧ va_D (fun _ => True) [(x0, .inr (1, [.ref a1, .ref a2, .ref a3, .int fi, .int me])), (a1, .inr (0, [.ref b1, .int (nI nh)])), (b1, .inl (cA, 2100, .inl fh)), (a2, .inr (0, [.ref b2, .int (nI nr)])), (b2, .inl (cA, 2100, .inl fr)), (a3, .inr (0, [.ref b3, .int (nI nk)])), (b3, .inl (cA, 2100, .inl fk))] ∧ qNest U)) (va_Qi (fun (r : Int32) (u : qS) => (r, u) = qHand ((gh, nh), (gr, nr), (gk, nk), fi, me)) (at_H dC dI (va_A [(x0, .inr (1, [.ref a1, .ref a2, .ref a3, .int fi, .int me])), (a1, .inr (0, [.ref b1, .int (nI nh)])), (b1, .inl (cA, 2100, .inl fh)), (a2, .inr (0, [.ref b2, .int (nI nr)])), (b2, .inl (cA, 2100, .inl fr)), (a3, .inr (0, [.ref b3, .int (nI nk)])), (b3, .inl (cA, 2100, .inl fk))] sz) x0 a1 b1 a2 b2 a3 b3 cA) (va_A [(x0, .inr (1, [.ref a1, .ref a2, .ref a3, .int fi, .int me])), (a1, .inr (0, [.ref b1, .int (nI nh)])), (b1, .inl (cA, 2100, .inl fh)), (a2, .inr (0, [.ref b2, .int (nI nr)])), (b2, .inl (cA, 2100, .inl fr)), (a3, .inr (0, [.ref b3, .int (nI nk)])), (b3, .inl (cA, 2100, .inl fk))] sz)) 0 0 (va_A [(x0, .inr (1, [.ref a1, .ref a2, .ref a3, .int fi, .int me])), (a1, .inr (0, [.ref b1, .int (nI nh)])), (b1, .inl (cA, 2100, .inl fh)), (a2, .inr (0, [.ref b2, .int (nI nr)])), (b2, .inl (cA, 2100, .inl fr)), (a3, .inr (0, [.ref b3, .int (nI nk)])), (b3, .inl (cA, 2100, .inl fk))] sz) := by
  refine Met.ofW (cc := cX1_hand) (maxL := 2) (ret := (some .int)) (by decide +kernel) rfl ?_
  intro p e s m args below meth c s₁ B hml hv
  obtain ⟨rfl, hsz, hP, hK, hD0, hN⟩ := hv
  have hx := B.exec
  have hb := B.bytes
  have hr := B.returns
  have hts := atoms_spec (ws := wsX1_hand) B.pre
  have hown : s.vm.findClass RX1 = some m.cls := findClass_of_methodNamed B.named
  have hlocks := B.notSynchronized
  subst hsz
  have hD := hD0.self (sz := s.heap.size)
  generalize hAe : va_A [(x0, .inr (1, [.ref a1, .ref a2, .ref a3, .int fi, .int me])), (a1, .inr (0, [.ref b1, .int (nI nh)])), (b1, .inl (cA, 2100, .inl fh)), (a2, .inr (0, [.ref b2, .int (nI nr)])), (b2, .inl (cA, 2100, .inl fr)), (a3, .inr (0, [.ref b3, .int (nI nk)])), (b3, .inl (cA, 2100, .inl fk))] s.heap.size = A at hD ⊢
  have hA : ∀ q : Nat, s.heap.size ≤ q → A q := fun q h => by rw [← hAe]; exact Or.inr h
  have hS : va_S A s.heap s.heap [] := va_S.rf
  have hl := lv_entry ([.ref x0]) (n := 2) (Nat.le_of_ble_eq_true rfl)
  rw [lg_entry_eq]
  generalize (lg_sl ([.ref x0]) ++ List.replicate (2 - (lg_sl ([.ref x0])).length) Slot.unset).toArray = ls at hl ⊢
  have hl : lv_has ls 2 [(0, .ref x0)] := hl
  refine lv_aload_n hx hb dX1_hand_0 rfl (lv_at hl 0 rfl) ?_
  refine va_get (D := (dC, dI)) (ci := 1) (v := .ref a3) (C := RX1) (T := TX1) (N := 5) hx hb hts inX1_hand_X1 hown hK hP 0 rfl rfl 2 (by decide) (hts (.fieldLink RX1 19 "QueueHall" "chainRow" "LQueueHall$Row;") (List.mem_of_getElem? (i := 1) (by decide +kernel))) (fun _ h9 => h9) rfl dX1_hand_1 ?_
  refine va_getN (D := (dC, dI)) (ci := 0) (v := .int (nI nk)) (C := RX0) (T := TX0) (N := 2) hx hb hts inX1_hand_X0 hown hK hP 5 rfl rfl 1 (by decide) (qN_count hN) (fun _ h9 => h9) rfl dX1_hand_4 ?_
  refine lv_if_le (tgt := 14) hx hb dX1_hand_7 (by decide) (fun c_1 => ?_) (fun c_1 => ?_)
  · have k_1 : nk ≤ 0 := by
      simp (disch := omega) only [ti_lt, ti_le, ti_eq, ti_0, ti_1, ti_2, ti_m1, ti_100, ti_2000, nI_toInt] at c_1
      omega
    refine lv_iconst (v := 0) hx hb dX1_hand_14 (by decide) ?_
    refine lv_istore_n (lv' := [(1, .int 0), (0, .ref x0)]) hx hb dX1_hand_15 rfl hl (by decide) rfl (fun ls hl => ?_)
    refine lv_aload_n hx hb dX1_hand_16 rfl (lv_at hl 1 rfl) ?_
    refine va_get (D := (dC, dI)) (ci := 1) (v := .ref a2) (C := RX1) (T := TX1) (N := 5) hx hb hts inX1_hand_X1 hown hK hP 0 rfl rfl 1 (by decide) (hts (.fieldLink RX1 16 "QueueHall" "ringRow" "LQueueHall$Row;") (List.mem_of_getElem? (i := 2) (by decide +kernel))) (fun _ h9 => h9) rfl dX1_hand_17 ?_
    refine lv_aload_n hx hb dX1_hand_20 rfl (lv_at hl 1 rfl) ?_
    refine va_get (D := (dC, dI)) (ci := 1) (v := .ref a3) (C := RX1) (T := TX1) (N := 5) hx hb hts inX1_hand_X1 hown hK hP 0 rfl rfl 2 (by decide) (hts (.fieldLink RX1 19 "QueueHall" "chainRow" "LQueueHall$Row;") (List.mem_of_getElem? (i := 1) (by decide +kernel))) (fun _ h9 => h9) rfl dX1_hand_21 ?_
    refine lv_iconst (v := nI 0) hx hb dX1_hand_24 (by decide) ?_
    have hPc := hP.sub (ws' := [(a2, .inr (0, [.ref b2, .int (nI nr)])), (b2, .inl (cA, 2100, .inl fr)), (a3, .inr (0, [.ref b3, .int (nI nk)])), (b3, .inl (cA, 2100, .inl fk))]) [3, 4, 5, 6] rfl
    have hKc := hK.sub (tys' := [(cA, .int)]) [0] rfl
    have hDc := hD.sub (ws' := [(a2, .inr (0, [.ref b2, .int (nI nr)])), (b2, .inl (cA, 2100, .inl fr)), (a3, .inr (0, [.ref b3, .int (nI nk)])), (b3, .inl (cA, 2100, .inl fk))]) [3, 4, 5, 6] (by decide) rfl
    have hFc := va_free (wc := [(a2, .inr (0, [.ref b2, .int (nI nr)])), (b2, .inl (cA, 2100, .inl fr)), (a3, .inr (0, [.ref b3, .int (nI nk)])), (b3, .inl (cA, 2100, .inl fk))]) hD hS hA [3, 4, 5, 6] rfl
    refine va_calli (va_runVN (As := [.ref a3, .int (nI 0)]) (rest := []) ⟨hx, hb, hml, hown, hts⟩ (c_Row_takeAll l dC dI s.heap.size a2 b2 nr a3 b3 nk 0 cA fr gr fk gk (by omega) (by omega) ha2 ha3) ⟨va_cnB 2 hts gX1_hand_X0_takeAll rfl rfl rfl (qN_takeAll hN) (hts (.initialized RX0) (List.mem_of_getElem? (i := 5) (by decide +kernel))) (by decide +kernel) ⟨Nat.le_of_ble_eq_true rfl, Nat.le_of_ble_eq_true rfl⟩, (hts (.instanceMethod yX0_takeAll) (List.mem_of_getElem? (i := 3) (by decide +kernel))), (hts (.selects RX0 yX0_takeAll yX0_takeAll) (List.mem_of_getElem? (i := 4) (by decide +kernel)))⟩ ⟨q_blW, va_recv hKc hPc (ci := 0) (q0 := 0) rfl rfl, fun U hU hW => ⟨rfl, by rw [hU], by rw [hU]; exact hPc, va_K.moved hW.alike hKc, hDc.weaken (fun _ _ _ _ => trivial)⟩⟩ rfl rfl hl.1 rfl (lv_room (Nat.le_of_ble_eq_true rfl)) dX1_hand_25 ⟨Nat.le_of_ble_eq_true rfl, Nat.le_of_ble_eq_true rfl⟩) hS (fun q _ h => hFc q h) hFc (fun r_2 u_2 t_2 H1 locs ht hvm hw hB hz1 hk1 hS => ?_)
    obtain ⟨rfl, rfl⟩ := Prod.mk.inj hw
    obtain ⟨f_2, fo_2, hg_2, ho_2, hP1, hK1, hD1⟩ := hB
    rw [ht] at hP1
    obtain ⟨hP, hD⟩ := q_join (wr := [(x0, .inr (1, [.ref a1, .ref a2, .ref a3, .int fi, .int me])), (a1, .inr (0, [.ref b1, .int (nI nh)])), (b1, .inl (cA, 2100, .inl fh))]) (w1 := [(a2, .inr (0, [.ref b2, .int (nI (nr + nk))])), (b2, .inl (cA, 2100, .inl f_2)), (a3, .inr (0, [.ref b3, .int (nI 0)])), (b3, .inl (cA, 2100, .inl fo_2))]) (wz := [(x0, .inr (1, [.ref a1, .ref a2, .ref a3, .int fi, .int me])), (a1, .inr (0, [.ref b1, .int (nI nh)])), (b1, .inl (cA, 2100, .inl fh)), (a2, .inr (0, [.ref b2, .int (nI (nr + nk))])), (b2, .inl (cA, 2100, .inl f_2)), (a3, .inr (0, [.ref b3, .int (nI 0)])), (b3, .inl (cA, 2100, .inl fo_2))]) hP hD [3, 4, 5, 6] [0, 1, 2] [0, 1, 2, 3, 4, 5, 6] rfl rfl (by decide) (by decide) hk1 hFc hP1 hD1 rfl rfl (by decide)
    generalize H1 = H at hP hS ⊢
    refine lv_if_ne (tgt := 34) hx hb dX1_hand_28 (by decide) (fun c_3 => ?_) (fun c_0 => absurd c_0 (show ¬ (1 : Int32) = (0 : Int32) from (by decide)))
    refine lv_iload_n hx hb dX1_hand_34 rfl (lv_at hl 0 rfl) ?_
    refine lv_if_eq (tgt := 42) hx hb dX1_hand_35 (by decide) (fun c_4 => ?_) (fun c_0 => absurd (show (0 : Int32) = (0 : Int32) from (by decide)) c_0)
    refine lv_aload_n hx hb dX1_hand_42 rfl (lv_at hl 1 rfl) ?_
    refine va_get (D := (dC, dI)) (ci := 1) (v := .ref a2) (C := RX1) (T := TX1) (N := 5) hx hb hts inX1_hand_X1 hown hK hP 0 rfl rfl 1 (by decide) (hts (.fieldLink RX1 16 "QueueHall" "ringRow" "LQueueHall$Row;") (List.mem_of_getElem? (i := 2) (by decide +kernel))) (fun _ h9 => h9) rfl dX1_hand_43 ?_
    refine va_getN (D := (dC, dI)) (ci := 0) (v := .int (nI (nr + nk))) (C := RX0) (T := TX0) (N := 2) hx hb hts inX1_hand_X0 hown hK hP 3 rfl rfl 1 (by decide) (qN_count hN) (fun _ h9 => h9) rfl dX1_hand_46 ?_
    exact W.iret (v := nI (nr + nk)) hx hb hr (fun t ht hW => ⟨⟨nI (nr + nk), ((gh, nh), (qCat gr 0 gk nk, nr + nk), (gk, 0), fi, me), rfl, (by simp only [qHand, if_neg (show ¬ 0 < nk by omega)]), fh, f_2, fo_2, ha1, hg_2, ho_2, by rw [ht]; exact hP, va_K.moved hW.alike hK, hD⟩, hS.F ht⟩) hS.2.2 dX1_hand_49
  · have k_1 : nk > 0 := by
      simp (disch := omega) only [ti_lt, ti_le, ti_eq, ti_0, ti_1, ti_2, ti_m1, ti_100, ti_2000, nI_toInt] at c_1
      omega
    refine lv_iconst (v := 1) hx hb dX1_hand_10 (by decide) ?_
    refine lv_goto (tgt := 15) hx hb dX1_hand_11 (by decide) ?_
    refine lv_istore_n (lv' := [(1, .int 1), (0, .ref x0)]) hx hb dX1_hand_15 rfl hl (by decide) rfl (fun ls hl => ?_)
    refine lv_aload_n hx hb dX1_hand_16 rfl (lv_at hl 1 rfl) ?_
    refine va_get (D := (dC, dI)) (ci := 1) (v := .ref a2) (C := RX1) (T := TX1) (N := 5) hx hb hts inX1_hand_X1 hown hK hP 0 rfl rfl 1 (by decide) (hts (.fieldLink RX1 16 "QueueHall" "ringRow" "LQueueHall$Row;") (List.mem_of_getElem? (i := 2) (by decide +kernel))) (fun _ h9 => h9) rfl dX1_hand_17 ?_
    refine lv_aload_n hx hb dX1_hand_20 rfl (lv_at hl 1 rfl) ?_
    refine va_get (D := (dC, dI)) (ci := 1) (v := .ref a3) (C := RX1) (T := TX1) (N := 5) hx hb hts inX1_hand_X1 hown hK hP 0 rfl rfl 2 (by decide) (hts (.fieldLink RX1 19 "QueueHall" "chainRow" "LQueueHall$Row;") (List.mem_of_getElem? (i := 1) (by decide +kernel))) (fun _ h9 => h9) rfl dX1_hand_21 ?_
    refine lv_iconst (v := nI 0) hx hb dX1_hand_24 (by decide) ?_
    have hPc := hP.sub (ws' := [(a2, .inr (0, [.ref b2, .int (nI nr)])), (b2, .inl (cA, 2100, .inl fr)), (a3, .inr (0, [.ref b3, .int (nI nk)])), (b3, .inl (cA, 2100, .inl fk))]) [3, 4, 5, 6] rfl
    have hKc := hK.sub (tys' := [(cA, .int)]) [0] rfl
    have hDc := hD.sub (ws' := [(a2, .inr (0, [.ref b2, .int (nI nr)])), (b2, .inl (cA, 2100, .inl fr)), (a3, .inr (0, [.ref b3, .int (nI nk)])), (b3, .inl (cA, 2100, .inl fk))]) [3, 4, 5, 6] (by decide) rfl
    have hFc := va_free (wc := [(a2, .inr (0, [.ref b2, .int (nI nr)])), (b2, .inl (cA, 2100, .inl fr)), (a3, .inr (0, [.ref b3, .int (nI nk)])), (b3, .inl (cA, 2100, .inl fk))]) hD hS hA [3, 4, 5, 6] rfl
    refine va_calli (va_runVN (As := [.ref a3, .int (nI 0)]) (rest := []) ⟨hx, hb, hml, hown, hts⟩ (c_Row_takeAll l dC dI s.heap.size a2 b2 nr a3 b3 nk 0 cA fr gr fk gk (by omega) (by omega) ha2 ha3) ⟨va_cnB 2 hts gX1_hand_X0_takeAll rfl rfl rfl (qN_takeAll hN) (hts (.initialized RX0) (List.mem_of_getElem? (i := 5) (by decide +kernel))) (by decide +kernel) ⟨Nat.le_of_ble_eq_true rfl, Nat.le_of_ble_eq_true rfl⟩, (hts (.instanceMethod yX0_takeAll) (List.mem_of_getElem? (i := 3) (by decide +kernel))), (hts (.selects RX0 yX0_takeAll yX0_takeAll) (List.mem_of_getElem? (i := 4) (by decide +kernel)))⟩ ⟨q_blW, va_recv hKc hPc (ci := 0) (q0 := 0) rfl rfl, fun U hU hW => ⟨rfl, by rw [hU], by rw [hU]; exact hPc, va_K.moved hW.alike hKc, hDc.weaken (fun _ _ _ _ => trivial)⟩⟩ rfl rfl hl.1 rfl (lv_room (Nat.le_of_ble_eq_true rfl)) dX1_hand_25 ⟨Nat.le_of_ble_eq_true rfl, Nat.le_of_ble_eq_true rfl⟩) hS (fun q _ h => hFc q h) hFc (fun r_5 u_5 t_5 H1 locs ht hvm hw hB hz1 hk1 hS => ?_)
    obtain ⟨rfl, rfl⟩ := Prod.mk.inj hw
    obtain ⟨f_5, fo_5, hg_5, ho_5, hP1, hK1, hD1⟩ := hB
    rw [ht] at hP1
    obtain ⟨hP, hD⟩ := q_join (wr := [(x0, .inr (1, [.ref a1, .ref a2, .ref a3, .int fi, .int me])), (a1, .inr (0, [.ref b1, .int (nI nh)])), (b1, .inl (cA, 2100, .inl fh))]) (w1 := [(a2, .inr (0, [.ref b2, .int (nI (nr + nk))])), (b2, .inl (cA, 2100, .inl f_5)), (a3, .inr (0, [.ref b3, .int (nI 0)])), (b3, .inl (cA, 2100, .inl fo_5))]) (wz := [(x0, .inr (1, [.ref a1, .ref a2, .ref a3, .int fi, .int me])), (a1, .inr (0, [.ref b1, .int (nI nh)])), (b1, .inl (cA, 2100, .inl fh)), (a2, .inr (0, [.ref b2, .int (nI (nr + nk))])), (b2, .inl (cA, 2100, .inl f_5)), (a3, .inr (0, [.ref b3, .int (nI 0)])), (b3, .inl (cA, 2100, .inl fo_5))]) hP hD [3, 4, 5, 6] [0, 1, 2] [0, 1, 2, 3, 4, 5, 6] rfl rfl (by decide) (by decide) hk1 hFc hP1 hD1 rfl rfl (by decide)
    generalize H1 = H at hP hS ⊢
    refine lv_if_ne (tgt := 34) hx hb dX1_hand_28 (by decide) (fun c_6 => ?_) (fun c_0 => absurd c_0 (show ¬ (1 : Int32) = (0 : Int32) from (by decide)))
    refine lv_iload_n hx hb dX1_hand_34 rfl (lv_at hl 0 rfl) ?_
    refine lv_if_eq (tgt := 42) hx hb dX1_hand_35 (by decide) (fun c_0 => absurd c_0 (show ¬ (1 : Int32) = (0 : Int32) from (by decide))) (fun c_7 => ?_)
    refine lv_aload_n hx hb dX1_hand_38 rfl (lv_at hl 1 rfl) ?_
    have hPc := hP.sub (ws' := [(x0, .inr (1, [.ref a1, .ref a2, .ref a3, .int fi, .int me]))]) [0] rfl
    have hKc := hK.sub (tys' := []) [] rfl
    have hDc := hD.sub (ws' := [(x0, .inr (1, [.ref a1, .ref a2, .ref a3, .int fi, .int me]))]) [0] (by decide) rfl
    have hFc := va_free (wc := [(x0, .inr (1, [.ref a1, .ref a2, .ref a3, .int fi, .int me]))]) hD hS hA [0] rfl
    refine va_callv (va_runV (As := []) (rest := []) ⟨hx, hb, hml, hown, hts⟩ (c_Hall_liftFinger l dC dI H.size x0 a1 a2 a3 fi me) (cwV 0 hts gX1_hand_X1_liftFinger_v rfl rfl rfl (by decide +kernel) ⟨Nat.le_of_ble_eq_true rfl, Nat.le_of_ble_eq_true rfl⟩) ⟨q_blW, va_recv hKc hPc (ci := 1) (q0 := 0) rfl rfl, fun U hU hW => ⟨rfl, by rw [hU], by rw [hU]; exact hPc, va_K.moved hW.alike hKc, hDc.weaken (fun _ _ _ _ => trivial)⟩⟩ rfl rfl hl.1 rfl (lv_room (Nat.le_of_ble_eq_true rfl)) dX1_hand_39 ⟨Nat.le_of_ble_eq_true rfl, Nat.le_of_ble_eq_true rfl⟩) hS (fun q _ h => hFc q h) hFc (fun u_8 t_8 H1 locs ht hvm hw hB hz1 hk1 hS => ?_)
    subst hw
    obtain ⟨hP1, hK1, hD1⟩ := hB
    rw [ht] at hP1
    obtain ⟨hP, hD⟩ := q_join (wr := [(a1, .inr (0, [.ref b1, .int (nI nh)])), (b1, .inl (cA, 2100, .inl fh)), (a2, .inr (0, [.ref b2, .int (nI (nr + nk))])), (b2, .inl (cA, 2100, .inl f_5)), (a3, .inr (0, [.ref b3, .int (nI 0)])), (b3, .inl (cA, 2100, .inl fo_5))]) (w1 := [(x0, .inr (1, [.ref a1, .ref a2, .ref a3, .int (-1), .int (-1)]))]) (wz := [(x0, .inr (1, [.ref a1, .ref a2, .ref a3, .int (-1), .int (-1)])), (a1, .inr (0, [.ref b1, .int (nI nh)])), (b1, .inl (cA, 2100, .inl fh)), (a2, .inr (0, [.ref b2, .int (nI (nr + nk))])), (b2, .inl (cA, 2100, .inl f_5)), (a3, .inr (0, [.ref b3, .int (nI 0)])), (b3, .inl (cA, 2100, .inl fo_5))]) hP hD [0] [1, 2, 3, 4, 5, 6] [6, 0, 1, 2, 3, 4, 5] rfl rfl (by decide) (by decide) hk1 hFc hP1 hD1 rfl rfl (by decide)
    generalize H1 = H at hP hS ⊢
    refine lv_aload_n hx hb dX1_hand_42 rfl (lv_at hl 1 rfl) ?_
    refine va_get (D := (dC, dI)) (ci := 1) (v := .ref a2) (C := RX1) (T := TX1) (N := 5) hx hb hts inX1_hand_X1 hown hK hP 0 rfl rfl 1 (by decide) (hts (.fieldLink RX1 16 "QueueHall" "ringRow" "LQueueHall$Row;") (List.mem_of_getElem? (i := 2) (by decide +kernel))) (fun _ h9 => h9) rfl dX1_hand_43 ?_
    refine va_getN (D := (dC, dI)) (ci := 0) (v := .int (nI (nr + nk))) (C := RX0) (T := TX0) (N := 2) hx hb hts inX1_hand_X0 hown hK hP 3 rfl rfl 1 (by decide) (qN_count hN) (fun _ h9 => h9) rfl dX1_hand_46 ?_
    exact W.iret (v := nI (nr + nk)) hx hb hr (fun t ht hW => ⟨⟨nI (nr + nk), ((gh, nh), (qCat gr 0 gk nk, nr + nk), (gk, 0), -1, -1), rfl, (by simp only [qHand, if_pos (show 0 < nk by omega)]), fh, f_5, fo_5, ha1, hg_5, ho_5, by rw [ht]; exact hP, va_K.moved hW.alike hK, hD⟩, hS.F ht⟩) hS.2.2 dX1_hand_49

