set_option maxHeartbeats 4000000 in
set_option maxRecDepth 100000 in
theorem c_Hall_clear (l : Launch) (dC : Nat → ClassId) (dI : Nat → Nat → Nat) (sz : Nat) (x0 a1 b1 a2 b2 a3 b3 nh nr nk : Nat) (cA : ClassId) (fh gh fr gr fk gk : Nat → Int32) (fi me : Int32) (p0 : Int32) (hn : nh + nr + nk < 2000) (ha1 : qAg nh fh gh) (ha2 : qAg nr fr gr) (ha3 : qAg nk fk gk) (hF : qFok fi me nk) : Met l yX1_clear wsX1_clear ({ frames := 2, cells := 0, slots := 0, locals := 58 }) (va_Pc [.ref x0, .int p0] (fun U => U.heap.size = sz ∧ va_P (dC, dI) vwCl [(x0, .inr (1, [.ref a1, .ref a2, .ref a3, .int fi, .int me])), (a1, .inr (0, [.ref b1, .int (nI nh)])), (b1, .inl (cA, 2100, .inl fh)), (a2, .inr (0, [.ref b2, .int (nI nr)])), (b2, .inl (cA, 2100, .inl fr)), (a3, .inr (0, [.ref b3, .int (nI nk)])), (b3, .inl (cA, 2100, .inl fk))] U.heap ∧ va_K (dC, dI) vwCl [(cA, .int)] U ∧ va_D (fun _ => True) [(x0, .inr (1, [.ref a1, .ref a2, .ref a3, .int fi, .int me])), (a1, .inr (0, [.ref b1, .int (nI nh)])), (b1, .inl (cA, 2100, .inl fh)), (a2, .inr (0, [.ref b2, .int (nI nr)])), (b2, .inl (cA, 2100, .inl fr)), (a3, .inr (0, [.ref b3, .int (nI nk)])), (b3, .inl (cA, 2100, .inl fk))] ∧ qNest U)) (va_Qi (fun (r : Int32) (u : qS) => (r, u) = qClear p0 ((gh, nh), (gr, nr), (gk, nk), fi, me)) (at_H dC dI (va_A [(x0, .inr (1, [.ref a1, .ref a2, .ref a3, .int fi, .int me])), (a1, .inr (0, [.ref b1, .int (nI nh)])), (b1, .inl (cA, 2100, .inl fh)), (a2, .inr (0, [.ref b2, .int (nI nr)])), (b2, .inl (cA, 2100, .inl fr)), (a3, .inr (0, [.ref b3, .int (nI nk)])), (b3, .inl (cA, 2100, .inl fk))] sz) x0 a1 b1 a2 b2 a3 b3 cA) (va_A [(x0, .inr (1, [.ref a1, .ref a2, .ref a3, .int fi, .int me])), (a1, .inr (0, [.ref b1, .int (nI nh)])), (b1, .inl (cA, 2100, .inl fh)), (a2, .inr (0, [.ref b2, .int (nI nr)])), (b2, .inl (cA, 2100, .inl fr)), (a3, .inr (0, [.ref b3, .int (nI nk)])), (b3, .inl (cA, 2100, .inl fk))] sz)) 0 0 (va_A [(x0, .inr (1, [.ref a1, .ref a2, .ref a3, .int fi, .int me])), (a1, .inr (0, [.ref b1, .int (nI nh)])), (b1, .inl (cA, 2100, .inl fh)), (a2, .inr (0, [.ref b2, .int (nI nr)])), (b2, .inl (cA, 2100, .inl fr)), (a3, .inr (0, [.ref b3, .int (nI nk)])), (b3, .inl (cA, 2100, .inl fk))] sz) := by
  refine Met.ofW (cc := cX1_clear) (maxL := 4) (ret := (some .int)) (by decide +kernel) rfl ?_
  intro p e s m args below meth c s₁ B hml hv
  obtain ⟨rfl, hsz, hP, hK, hD0, hN⟩ := hv
  have hx := B.exec
  have hb := B.bytes
  have hr := B.returns
  have hts := atoms_spec (ws := wsX1_clear) B.pre
  have hown : s.vm.findClass RX1 = some m.cls := findClass_of_methodNamed B.named
  have hlocks := B.notSynchronized
  subst hsz
  have hD := hD0.self (sz := s.heap.size)
  generalize hAe : va_A [(x0, .inr (1, [.ref a1, .ref a2, .ref a3, .int fi, .int me])), (a1, .inr (0, [.ref b1, .int (nI nh)])), (b1, .inl (cA, 2100, .inl fh)), (a2, .inr (0, [.ref b2, .int (nI nr)])), (b2, .inl (cA, 2100, .inl fr)), (a3, .inr (0, [.ref b3, .int (nI nk)])), (b3, .inl (cA, 2100, .inl fk))] s.heap.size = A at hD ⊢
  have hA : ∀ q : Nat, s.heap.size ≤ q → A q := fun q h => by rw [← hAe]; exact Or.inr h
  have hS : va_S A s.heap s.heap [] := va_S.rf
  have hl := lv_entry ([.ref x0, .int p0]) (n := 4) (Nat.le_of_ble_eq_true rfl)
  rw [lg_entry_eq]
  generalize (lg_sl ([.ref x0, .int p0]) ++ List.replicate (4 - (lg_sl ([.ref x0, .int p0])).length) Slot.unset).toArray = ls at hl ⊢
  have hl : lv_has ls 4 [(0, .ref x0), (1, .int p0)] := hl
  rcases q_w p0 with rfl | rfl | rfl | ⟨w0, w1, w2⟩
  · refine lv_aload_n hx hb dX1_clear_0 rfl (lv_at hl 0 rfl) ?_
    refine lv_iload_n hx hb dX1_clear_1 rfl (lv_at hl 1 rfl) ?_
    have hPc := hP.sub (ws' := [(x0, .inr (1, [.ref a1, .ref a2, .ref a3, .int fi, .int me]))]) [0] rfl
    have hKc := hK.sub (tys' := []) [] rfl
    refine q_csqE (va_runV (As := [.int 0]) (rest := []) ⟨hx, hb, hml, hown, hts⟩ (c_Hall_rowOf l dC dI x0 a1 a2 a3 fi me 0) (cwV 1 hts gX1_clear_X1_rowOf_v rfl rfl rfl (by decide +kernel) ⟨Nat.le_of_ble_eq_true rfl, Nat.le_of_ble_eq_true rfl⟩) ⟨q_blR, va_recv hKc hPc (ci := 1) (q0 := 0) rfl rfl, fun U hU hW => ⟨rfl, by rw [hU]; exact hPc, va_K.moved hW.alike hKc⟩⟩ rfl rfl hl.1 rfl (lv_room (Nat.le_of_ble_eq_true rfl)) dX1_clear_2 ⟨Nat.le_of_ble_eq_true rfl, Nat.le_of_ble_eq_true rfl⟩) ?_
    refine q_topr qRow_0 ?_
    refine lv_astore_n (lv' := [(2, .ref a1), (0, .ref x0), (1, .int 0)]) hx hb dX1_clear_5 rfl hl (by decide) rfl (fun ls hl => ?_)
    refine lv_aload_n hx hb dX1_clear_6 rfl (lv_at hl 0 rfl) ?_
    refine lv_ifnonnull (tgt := 12) hx hb dX1_clear_7 (by decide) ?_
    refine lv_aload_n hx hb dX1_clear_12 rfl (lv_at hl 0 rfl) ?_
    have hPc := hP.sub (ws' := [(a1, .inr (0, [.ref b1, .int (nI nh)])), (b1, .inl (cA, 2100, .inl fh))]) [1, 2] rfl
    have hKc := hK.sub (tys' := [(cA, .int)]) [0] rfl
    have hDc := hD.sub (ws' := [(a1, .inr (0, [.ref b1, .int (nI nh)])), (b1, .inl (cA, 2100, .inl fh))]) [1, 2] (by decide) rfl
    have hFc := va_free (wc := [(a1, .inr (0, [.ref b1, .int (nI nh)])), (b1, .inl (cA, 2100, .inl fh))]) hD hS hA [1, 2] rfl
    refine va_calli (va_runVN (As := []) (rest := []) ⟨hx, hb, hml, hown, hts⟩ (c_Row_wipe l dC dI s.heap.size a1 b1 nh cA fh gh ha1) ⟨va_cnB 0 hts gX1_clear_X0_wipe rfl rfl rfl (qN_wipe hN) (hts (.initialized RX0) (List.mem_of_getElem? (i := 11) (by decide +kernel))) (by decide +kernel) ⟨Nat.le_of_ble_eq_true rfl, Nat.le_of_ble_eq_true rfl⟩, (hts (.instanceMethod yX0_wipe) (List.mem_of_getElem? (i := 9) (by decide +kernel))), (hts (.selects RX0 yX0_wipe yX0_wipe) (List.mem_of_getElem? (i := 10) (by decide +kernel)))⟩ ⟨q_blW, va_recv hKc hPc (ci := 0) (q0 := 0) rfl rfl, fun U hU hW => ⟨rfl, by rw [hU], by rw [hU]; exact hPc, va_K.moved hW.alike hKc, hDc.weaken (fun _ _ _ _ => trivial)⟩⟩ rfl rfl hl.1 rfl (lv_room (Nat.le_of_ble_eq_true rfl)) dX1_clear_13 ⟨Nat.le_of_ble_eq_true rfl, Nat.le_of_ble_eq_true rfl⟩) hS (fun q _ h => hFc q h) hFc (fun r_1 u_1 t_1 H1 locs ht hvm hw hB hz1 hk1 hS => ?_)
    obtain ⟨rfl, rfl⟩ := Prod.mk.inj hw
    obtain ⟨f_1, hg_1, hP1, hK1, hD1⟩ := hB
    rw [ht] at hP1
    obtain ⟨hP, hD⟩ := q_join (wr := [(x0, .inr (1, [.ref a1, .ref a2, .ref a3, .int fi, .int me])), (a2, .inr (0, [.ref b2, .int (nI nr)])), (b2, .inl (cA, 2100, .inl fr)), (a3, .inr (0, [.ref b3, .int (nI nk)])), (b3, .inl (cA, 2100, .inl fk))]) (w1 := [(a1, .inr (0, [.ref b1, .int (nI 0)])), (b1, .inl (cA, 2100, .inl f_1))]) (wz := [(x0, .inr (1, [.ref a1, .ref a2, .ref a3, .int fi, .int me])), (a1, .inr (0, [.ref b1, .int (nI 0)])), (b1, .inl (cA, 2100, .inl f_1)), (a2, .inr (0, [.ref b2, .int (nI nr)])), (b2, .inl (cA, 2100, .inl fr)), (a3, .inr (0, [.ref b3, .int (nI nk)])), (b3, .inl (cA, 2100, .inl fk))]) hP hD [1, 2] [0, 3, 4, 5, 6] [0, 5, 6, 1, 2, 3, 4] rfl rfl (by decide) (by decide) hk1 hFc hP1 hD1 rfl rfl (by decide)
    generalize H1 = H at hP hS ⊢
    refine lv_istore_n (lv' := [(3, .int (nI nh)), (2, .ref a1), (0, .ref x0), (1, .int 0)]) hx hb dX1_clear_16 rfl hl (by decide) rfl (fun ls hl => ?_)
    refine lv_aload_n hx hb dX1_clear_17 rfl (lv_at hl 1 rfl) ?_
    refine lv_aload_n hx hb dX1_clear_18 rfl (lv_at hl 2 rfl) ?_
    refine va_get (D := (dC, dI)) (ci := 1) (v := .ref a3) (C := RX1) (T := TX1) (N := 5) hx hb hts inX1_clear_X1 hown hK hP 0 rfl rfl 2 (by decide) (hts (.fieldLink RX1 19 "QueueHall" "chainRow" "LQueueHall$Row;") (List.mem_of_getElem? (i := 8) (by decide +kernel))) (fun _ h9 => h9) rfl dX1_clear_19 ?_
    refine lv_acmp_ne (rx := some a1) (ry := some a3) (tgt := 33) hx hb dX1_clear_22 (by decide) (fun _ => ?_) (fun c_0 => absurd (Option.some.inj c_0) (fun q => absurd (hD.1 1 5 _ _ rfl rfl q) (by decide)))
    refine lv_iload_n hx hb dX1_clear_33 rfl (lv_at hl 0 rfl) ?_
    exact W.iret (v := nI nh) hx hb hr (fun t ht hW => ⟨⟨nI nh, ((gh, 0), (gr, nr), (gk, nk), fi, me), rfl, (by simp only [qClear, if_pos True.intro]), f_1, fr, fk, hg_1, ha2, ha3, by rw [ht]; exact hP, va_K.moved hW.alike hK, hD⟩, hS.F ht⟩) hS.2.2 dX1_clear_34
  · refine lv_aload_n hx hb dX1_clear_0 rfl (lv_at hl 0 rfl) ?_
    refine lv_iload_n hx hb dX1_clear_1 rfl (lv_at hl 1 rfl) ?_
    have hPc := hP.sub (ws' := [(x0, .inr (1, [.ref a1, .ref a2, .ref a3, .int fi, .int me]))]) [0] rfl
    have hKc := hK.sub (tys' := []) [] rfl
    refine q_csqE (va_runV (As := [.int 1]) (rest := []) ⟨hx, hb, hml, hown, hts⟩ (c_Hall_rowOf l dC dI x0 a1 a2 a3 fi me 1) (cwV 1 hts gX1_clear_X1_rowOf_v rfl rfl rfl (by decide +kernel) ⟨Nat.le_of_ble_eq_true rfl, Nat.le_of_ble_eq_true rfl⟩) ⟨q_blR, va_recv hKc hPc (ci := 1) (q0 := 0) rfl rfl, fun U hU hW => ⟨rfl, by rw [hU]; exact hPc, va_K.moved hW.alike hKc⟩⟩ rfl rfl hl.1 rfl (lv_room (Nat.le_of_ble_eq_true rfl)) dX1_clear_2 ⟨Nat.le_of_ble_eq_true rfl, Nat.le_of_ble_eq_true rfl⟩) ?_
    refine q_topr qRow_1 ?_
    refine lv_astore_n (lv' := [(2, .ref a2), (0, .ref x0), (1, .int 1)]) hx hb dX1_clear_5 rfl hl (by decide) rfl (fun ls hl => ?_)
    refine lv_aload_n hx hb dX1_clear_6 rfl (lv_at hl 0 rfl) ?_
    refine lv_ifnonnull (tgt := 12) hx hb dX1_clear_7 (by decide) ?_
    refine lv_aload_n hx hb dX1_clear_12 rfl (lv_at hl 0 rfl) ?_
    have hPc := hP.sub (ws' := [(a2, .inr (0, [.ref b2, .int (nI nr)])), (b2, .inl (cA, 2100, .inl fr))]) [3, 4] rfl
    have hKc := hK.sub (tys' := [(cA, .int)]) [0] rfl
    have hDc := hD.sub (ws' := [(a2, .inr (0, [.ref b2, .int (nI nr)])), (b2, .inl (cA, 2100, .inl fr))]) [3, 4] (by decide) rfl
    have hFc := va_free (wc := [(a2, .inr (0, [.ref b2, .int (nI nr)])), (b2, .inl (cA, 2100, .inl fr))]) hD hS hA [3, 4] rfl
    refine va_calli (va_runVN (As := []) (rest := []) ⟨hx, hb, hml, hown, hts⟩ (c_Row_wipe l dC dI s.heap.size a2 b2 nr cA fr gr ha2) ⟨va_cnB 0 hts gX1_clear_X0_wipe rfl rfl rfl (qN_wipe hN) (hts (.initialized RX0) (List.mem_of_getElem? (i := 11) (by decide +kernel))) (by decide +kernel) ⟨Nat.le_of_ble_eq_true rfl, Nat.le_of_ble_eq_true rfl⟩, (hts (.instanceMethod yX0_wipe) (List.mem_of_getElem? (i := 9) (by decide +kernel))), (hts (.selects RX0 yX0_wipe yX0_wipe) (List.mem_of_getElem? (i := 10) (by decide +kernel)))⟩ ⟨q_blW, va_recv hKc hPc (ci := 0) (q0 := 0) rfl rfl, fun U hU hW => ⟨rfl, by rw [hU], by rw [hU]; exact hPc, va_K.moved hW.alike hKc, hDc.weaken (fun _ _ _ _ => trivial)⟩⟩ rfl rfl hl.1 rfl (lv_room (Nat.le_of_ble_eq_true rfl)) dX1_clear_13 ⟨Nat.le_of_ble_eq_true rfl, Nat.le_of_ble_eq_true rfl⟩) hS (fun q _ h => hFc q h) hFc (fun r_2 u_2 t_2 H1 locs ht hvm hw hB hz1 hk1 hS => ?_)
    obtain ⟨rfl, rfl⟩ := Prod.mk.inj hw
    obtain ⟨f_2, hg_2, hP1, hK1, hD1⟩ := hB
    rw [ht] at hP1
    obtain ⟨hP, hD⟩ := q_join (wr := [(x0, .inr (1, [.ref a1, .ref a2, .ref a3, .int fi, .int me])), (a1, .inr (0, [.ref b1, .int (nI nh)])), (b1, .inl (cA, 2100, .inl fh)), (a3, .inr (0, [.ref b3, .int (nI nk)])), (b3, .inl (cA, 2100, .inl fk))]) (w1 := [(a2, .inr (0, [.ref b2, .int (nI 0)])), (b2, .inl (cA, 2100, .inl f_2))]) (wz := [(x0, .inr (1, [.ref a1, .ref a2, .ref a3, .int fi, .int me])), (a1, .inr (0, [.ref b1, .int (nI nh)])), (b1, .inl (cA, 2100, .inl fh)), (a2, .inr (0, [.ref b2, .int (nI 0)])), (b2, .inl (cA, 2100, .inl f_2)), (a3, .inr (0, [.ref b3, .int (nI nk)])), (b3, .inl (cA, 2100, .inl fk))]) hP hD [3, 4] [0, 1, 2, 5, 6] [0, 1, 2, 5, 6, 3, 4] rfl rfl (by decide) (by decide) hk1 hFc hP1 hD1 rfl rfl (by decide)
    generalize H1 = H at hP hS ⊢
    refine lv_istore_n (lv' := [(3, .int (nI nr)), (2, .ref a2), (0, .ref x0), (1, .int 1)]) hx hb dX1_clear_16 rfl hl (by decide) rfl (fun ls hl => ?_)
    refine lv_aload_n hx hb dX1_clear_17 rfl (lv_at hl 1 rfl) ?_
    refine lv_aload_n hx hb dX1_clear_18 rfl (lv_at hl 2 rfl) ?_
    refine va_get (D := (dC, dI)) (ci := 1) (v := .ref a3) (C := RX1) (T := TX1) (N := 5) hx hb hts inX1_clear_X1 hown hK hP 0 rfl rfl 2 (by decide) (hts (.fieldLink RX1 19 "QueueHall" "chainRow" "LQueueHall$Row;") (List.mem_of_getElem? (i := 8) (by decide +kernel))) (fun _ h9 => h9) rfl dX1_clear_19 ?_
    refine lv_acmp_ne (rx := some a2) (ry := some a3) (tgt := 33) hx hb dX1_clear_22 (by decide) (fun _ => ?_) (fun c_0 => absurd (Option.some.inj c_0) (fun q => absurd (hD.1 3 5 _ _ rfl rfl q) (by decide)))
    refine lv_iload_n hx hb dX1_clear_33 rfl (lv_at hl 0 rfl) ?_
    exact W.iret (v := nI nr) hx hb hr (fun t ht hW => ⟨⟨nI nr, ((gh, nh), (gr, 0), (gk, nk), fi, me), rfl, (by simp only [qClear, if_neg (show ¬ (1 : Int32) = 0 by decide), if_pos True.intro]), fh, f_2, fk, ha1, hg_2, ha3, by rw [ht]; exact hP, va_K.moved hW.alike hK, hD⟩, hS.F ht⟩) hS.2.2 dX1_clear_34
  · refine lv_aload_n hx hb dX1_clear_0 rfl (lv_at hl 0 rfl) ?_
    refine lv_iload_n hx hb dX1_clear_1 rfl (lv_at hl 1 rfl) ?_
    have hPc := hP.sub (ws' := [(x0, .inr (1, [.ref a1, .ref a2, .ref a3, .int fi, .int me]))]) [0] rfl
    have hKc := hK.sub (tys' := []) [] rfl
    refine q_csqE (va_runV (As := [.int 2]) (rest := []) ⟨hx, hb, hml, hown, hts⟩ (c_Hall_rowOf l dC dI x0 a1 a2 a3 fi me 2) (cwV 1 hts gX1_clear_X1_rowOf_v rfl rfl rfl (by decide +kernel) ⟨Nat.le_of_ble_eq_true rfl, Nat.le_of_ble_eq_true rfl⟩) ⟨q_blR, va_recv hKc hPc (ci := 1) (q0 := 0) rfl rfl, fun U hU hW => ⟨rfl, by rw [hU]; exact hPc, va_K.moved hW.alike hKc⟩⟩ rfl rfl hl.1 rfl (lv_room (Nat.le_of_ble_eq_true rfl)) dX1_clear_2 ⟨Nat.le_of_ble_eq_true rfl, Nat.le_of_ble_eq_true rfl⟩) ?_
    refine q_topr qRow_2 ?_
    refine lv_astore_n (lv' := [(2, .ref a3), (0, .ref x0), (1, .int 2)]) hx hb dX1_clear_5 rfl hl (by decide) rfl (fun ls hl => ?_)
    refine lv_aload_n hx hb dX1_clear_6 rfl (lv_at hl 0 rfl) ?_
    refine lv_ifnonnull (tgt := 12) hx hb dX1_clear_7 (by decide) ?_
    refine lv_aload_n hx hb dX1_clear_12 rfl (lv_at hl 0 rfl) ?_
    have hPc := hP.sub (ws' := [(a3, .inr (0, [.ref b3, .int (nI nk)])), (b3, .inl (cA, 2100, .inl fk))]) [5, 6] rfl
    have hKc := hK.sub (tys' := [(cA, .int)]) [0] rfl
    have hDc := hD.sub (ws' := [(a3, .inr (0, [.ref b3, .int (nI nk)])), (b3, .inl (cA, 2100, .inl fk))]) [5, 6] (by decide) rfl
    have hFc := va_free (wc := [(a3, .inr (0, [.ref b3, .int (nI nk)])), (b3, .inl (cA, 2100, .inl fk))]) hD hS hA [5, 6] rfl
    refine va_calli (va_runVN (As := []) (rest := []) ⟨hx, hb, hml, hown, hts⟩ (c_Row_wipe l dC dI s.heap.size a3 b3 nk cA fk gk ha3) ⟨va_cnB 0 hts gX1_clear_X0_wipe rfl rfl rfl (qN_wipe hN) (hts (.initialized RX0) (List.mem_of_getElem? (i := 11) (by decide +kernel))) (by decide +kernel) ⟨Nat.le_of_ble_eq_true rfl, Nat.le_of_ble_eq_true rfl⟩, (hts (.instanceMethod yX0_wipe) (List.mem_of_getElem? (i := 9) (by decide +kernel))), (hts (.selects RX0 yX0_wipe yX0_wipe) (List.mem_of_getElem? (i := 10) (by decide +kernel)))⟩ ⟨q_blW, va_recv hKc hPc (ci := 0) (q0 := 0) rfl rfl, fun U hU hW => ⟨rfl, by rw [hU], by rw [hU]; exact hPc, va_K.moved hW.alike hKc, hDc.weaken (fun _ _ _ _ => trivial)⟩⟩ rfl rfl hl.1 rfl (lv_room (Nat.le_of_ble_eq_true rfl)) dX1_clear_13 ⟨Nat.le_of_ble_eq_true rfl, Nat.le_of_ble_eq_true rfl⟩) hS (fun q _ h => hFc q h) hFc (fun r_3 u_3 t_3 H1 locs ht hvm hw hB hz1 hk1 hS => ?_)
    obtain ⟨rfl, rfl⟩ := Prod.mk.inj hw
    obtain ⟨f_3, hg_3, hP1, hK1, hD1⟩ := hB
    rw [ht] at hP1
    obtain ⟨hP, hD⟩ := q_join (wr := [(x0, .inr (1, [.ref a1, .ref a2, .ref a3, .int fi, .int me])), (a1, .inr (0, [.ref b1, .int (nI nh)])), (b1, .inl (cA, 2100, .inl fh)), (a2, .inr (0, [.ref b2, .int (nI nr)])), (b2, .inl (cA, 2100, .inl fr))]) (w1 := [(a3, .inr (0, [.ref b3, .int (nI 0)])), (b3, .inl (cA, 2100, .inl f_3))]) (wz := [(x0, .inr (1, [.ref a1, .ref a2, .ref a3, .int fi, .int me])), (a1, .inr (0, [.ref b1, .int (nI nh)])), (b1, .inl (cA, 2100, .inl fh)), (a2, .inr (0, [.ref b2, .int (nI nr)])), (b2, .inl (cA, 2100, .inl fr)), (a3, .inr (0, [.ref b3, .int (nI 0)])), (b3, .inl (cA, 2100, .inl f_3))]) hP hD [5, 6] [0, 1, 2, 3, 4] [0, 1, 2, 3, 4, 5, 6] rfl rfl (by decide) (by decide) hk1 hFc hP1 hD1 rfl rfl (by decide)
    generalize H1 = H at hP hS ⊢
    refine lv_istore_n (lv' := [(3, .int (nI nk)), (2, .ref a3), (0, .ref x0), (1, .int 2)]) hx hb dX1_clear_16 rfl hl (by decide) rfl (fun ls hl => ?_)
    refine lv_aload_n hx hb dX1_clear_17 rfl (lv_at hl 1 rfl) ?_
    refine lv_aload_n hx hb dX1_clear_18 rfl (lv_at hl 2 rfl) ?_
    refine va_get (D := (dC, dI)) (ci := 1) (v := .ref a3) (C := RX1) (T := TX1) (N := 5) hx hb hts inX1_clear_X1 hown hK hP 0 rfl rfl 2 (by decide) (hts (.fieldLink RX1 19 "QueueHall" "chainRow" "LQueueHall$Row;") (List.mem_of_getElem? (i := 8) (by decide +kernel))) (fun _ h9 => h9) rfl dX1_clear_19 ?_
    refine lv_acmp_ne (rx := some a3) (ry := some a3) (tgt := 33) hx hb dX1_clear_22 (by decide) (fun c_0 => absurd rfl c_0) (fun _ => ?_)
    refine lv_iload_n hx hb dX1_clear_25 rfl (lv_at hl 0 rfl) ?_
    refine lv_if_le (tgt := 33) hx hb dX1_clear_26 (by decide) (fun c_4 => ?_) (fun c_4 => ?_)
    · have k_4 : nk ≤ 0 := by
        simp (disch := omega) only [ti_lt, ti_le, ti_eq, ti_0, ti_1, ti_2, ti_m1, ti_100, ti_2000, nI_toInt] at c_4
        omega
      refine lv_iload_n hx hb dX1_clear_33 rfl (lv_at hl 0 rfl) ?_
      exact W.iret (v := nI nk) hx hb hr (fun t ht hW => ⟨⟨nI nk, ((gh, nh), (gr, nr), (gk, 0), fi, me), rfl, (by simp only [qClear, if_neg (show ¬ (2 : Int32) = 0 by decide), if_neg (show ¬ (2 : Int32) = 1 by decide), if_pos True.intro, if_neg (show ¬ 0 < nk by omega)]), fh, fr, f_3, ha1, ha2, hg_3, by rw [ht]; exact hP, va_K.moved hW.alike hK, hD⟩, hS.F ht⟩) hS.2.2 dX1_clear_34
    · have k_4 : nk > 0 := by
        simp (disch := omega) only [ti_lt, ti_le, ti_eq, ti_0, ti_1, ti_2, ti_m1, ti_100, ti_2000, nI_toInt] at c_4
        omega
      refine lv_aload_n hx hb dX1_clear_29 rfl (lv_at hl 2 rfl) ?_
      have hPc := hP.sub (ws' := [(x0, .inr (1, [.ref a1, .ref a2, .ref a3, .int fi, .int me]))]) [0] rfl
      have hKc := hK.sub (tys' := []) [] rfl
      have hDc := hD.sub (ws' := [(x0, .inr (1, [.ref a1, .ref a2, .ref a3, .int fi, .int me]))]) [0] (by decide) rfl
      have hFc := va_free (wc := [(x0, .inr (1, [.ref a1, .ref a2, .ref a3, .int fi, .int me]))]) hD hS hA [0] rfl
      refine va_callv (va_runV (As := []) (rest := []) ⟨hx, hb, hml, hown, hts⟩ (c_Hall_liftFinger l dC dI H.size x0 a1 a2 a3 fi me) (cwV 0 hts gX1_clear_X1_liftFinger_v rfl rfl rfl (by decide +kernel) ⟨Nat.le_of_ble_eq_true rfl, Nat.le_of_ble_eq_true rfl⟩) ⟨q_blW, va_recv hKc hPc (ci := 1) (q0 := 0) rfl rfl, fun U hU hW => ⟨rfl, by rw [hU], by rw [hU]; exact hPc, va_K.moved hW.alike hKc, hDc.weaken (fun _ _ _ _ => trivial)⟩⟩ rfl rfl hl.1 rfl (lv_room (Nat.le_of_ble_eq_true rfl)) dX1_clear_30 ⟨Nat.le_of_ble_eq_true rfl, Nat.le_of_ble_eq_true rfl⟩) hS (fun q _ h => hFc q h) hFc (fun u_5 t_5 H1 locs ht hvm hw hB hz1 hk1 hS => ?_)
      subst hw
      obtain ⟨hP1, hK1, hD1⟩ := hB
      rw [ht] at hP1
      obtain ⟨hP, hD⟩ := q_join (wr := [(a1, .inr (0, [.ref b1, .int (nI nh)])), (b1, .inl (cA, 2100, .inl fh)), (a2, .inr (0, [.ref b2, .int (nI nr)])), (b2, .inl (cA, 2100, .inl fr)), (a3, .inr (0, [.ref b3, .int (nI 0)])), (b3, .inl (cA, 2100, .inl f_3))]) (w1 := [(x0, .inr (1, [.ref a1, .ref a2, .ref a3, .int (-1), .int (-1)]))]) (wz := [(x0, .inr (1, [.ref a1, .ref a2, .ref a3, .int (-1), .int (-1)])), (a1, .inr (0, [.ref b1, .int (nI nh)])), (b1, .inl (cA, 2100, .inl fh)), (a2, .inr (0, [.ref b2, .int (nI nr)])), (b2, .inl (cA, 2100, .inl fr)), (a3, .inr (0, [.ref b3, .int (nI 0)])), (b3, .inl (cA, 2100, .inl f_3))]) hP hD [0] [1, 2, 3, 4, 5, 6] [6, 0, 1, 2, 3, 4, 5] rfl rfl (by decide) (by decide) hk1 hFc hP1 hD1 rfl rfl (by decide)
      generalize H1 = H at hP hS ⊢
      refine lv_iload_n hx hb dX1_clear_33 rfl (lv_at hl 0 rfl) ?_
      exact W.iret (v := nI nk) hx hb hr (fun t ht hW => ⟨⟨nI nk, ((gh, nh), (gr, nr), (gk, 0), -1, -1), rfl, (by simp only [qClear, if_neg (show ¬ (2 : Int32) = 0 by decide), if_neg (show ¬ (2 : Int32) = 1 by decide), if_pos True.intro, if_pos (show 0 < nk by omega)]), fh, fr, f_3, ha1, ha2, hg_3, by rw [ht]; exact hP, va_K.moved hW.alike hK, hD⟩, hS.F ht⟩) hS.2.2 dX1_clear_34
  · refine lv_aload_n hx hb dX1_clear_0 rfl (lv_at hl 0 rfl) ?_
    refine lv_iload_n hx hb dX1_clear_1 rfl (lv_at hl 1 rfl) ?_
    have hPc := hP.sub (ws' := [(x0, .inr (1, [.ref a1, .ref a2, .ref a3, .int fi, .int me]))]) [0] rfl
    have hKc := hK.sub (tys' := []) [] rfl
    refine q_csqE (va_runV (As := [.int p0]) (rest := []) ⟨hx, hb, hml, hown, hts⟩ (c_Hall_rowOf l dC dI x0 a1 a2 a3 fi me p0) (cwV 1 hts gX1_clear_X1_rowOf_v rfl rfl rfl (by decide +kernel) ⟨Nat.le_of_ble_eq_true rfl, Nat.le_of_ble_eq_true rfl⟩) ⟨q_blR, va_recv hKc hPc (ci := 1) (q0 := 0) rfl rfl, fun U hU hW => ⟨rfl, by rw [hU]; exact hPc, va_K.moved hW.alike hKc⟩⟩ rfl rfl hl.1 rfl (lv_room (Nat.le_of_ble_eq_true rfl)) dX1_clear_2 ⟨Nat.le_of_ble_eq_true rfl, Nat.le_of_ble_eq_true rfl⟩) ?_
    refine q_topn (qRow_n w0 w1 w2) ?_
    refine lv_astore_nN (lv' := [(2, .null), (0, .ref x0), (1, .int p0)]) hx hb dX1_clear_5 rfl hl (by decide) rfl (fun ls hl => ?_)
    refine lv_aload_nN hx hb dX1_clear_6 rfl (lv_at hl 0 rfl) ?_
    refine lv_ifnonnullN hx hb dX1_clear_7 ?_
    refine lv_iconst (v := -1) hx hb dX1_clear_10 (by decide) ?_
    exact W.iret (v := -1) hx hb hr (fun t ht hW => ⟨⟨-1, ((gh, nh), (gr, nr), (gk, nk), fi, me), rfl, (by simp only [qClear, if_neg w0, if_neg w1, if_neg w2]), fh, fr, fk, ha1, ha2, ha3, by rw [ht]; exact hP, va_K.moved hW.alike hK, hD⟩, hS.F ht⟩) hS.2.2 dX1_clear_11

set_option maxHeartbeats 4000000 in
set_option maxRecDepth 100000 in
theorem c_Hall_join (l : Launch) (dC : Nat → ClassId) (dI : Nat → Nat → Nat) (sz : Nat) (x0 a1 b1 a2 b2 a3 b3 nh nr nk : Nat) (cA : ClassId) (fh gh fr gr fk gk : Nat → Int32) (fi me : Int32) (p0 p1 : Int32) (hn : nh + nr + nk < 2000) (ha1 : qAg nh fh gh) (ha2 : qAg nr fr gr) (ha3 : qAg nk fk gk) (hF : qFok fi me nk) : Met l yX1_join wsX1_join ({ frames := 2, cells := 0, slots := 0, locals := 58 }) (va_Pc [.ref x0, .int p0, .int p1] (fun U => U.heap.size = sz ∧ va_P (dC, dI) vwCl [(x0, .inr (1, [.ref a1, .ref a2, .ref a3, .int fi, .int me])), (a1, .inr (0, [.ref b1, .int (nI nh)])), (b1, .inl (cA, 2100, .inl fh)), (a2, .inr (0, [.ref b2, .int (nI nr)])), (b2, .inl (cA, 2100, .inl fr)), (a3, .inr (0, [.ref b3, .int (nI nk)])), (b3, .inl (cA, 2100, .inl fk))] U.heap ∧ va_K (dC, dI) vwCl [(cA, .int)] U ∧ va_D (fun _ => True) [(x0, .inr (1, [.ref a1, .ref a2, .ref a3, .int fi, .int me])), (a1, .inr (0, [.ref b1, .int (nI nh)])), (b1, .inl (cA, 2100, .inl fh)), (a2, .inr (0, [.ref b2, .int (nI nr)])), (b2, .inl (cA, 2100, .inl fr)), (a3, .inr (0, [.ref b3, .int (nI nk)])), (b3, .inl (cA, 2100, .inl fk))] ∧ qNest U)) (va_Qi (fun (r : Int32) (u : qS) => (r, u) = qJoin p0 p1 ((gh, nh), (gr, nr), (gk, nk), fi, me)) (at_H dC dI (va_A [(x0, .inr (1, [.ref a1, .ref a2, .ref a3, .int fi, .int me])), (a1, .inr (0, [.ref b1, .int (nI nh)])), (b1, .inl (cA, 2100, .inl fh)), (a2, .inr (0, [.ref b2, .int (nI nr)])), (b2, .inl (cA, 2100, .inl fr)), (a3, .inr (0, [.ref b3, .int (nI nk)])), (b3, .inl (cA, 2100, .inl fk))] sz) x0 a1 b1 a2 b2 a3 b3 cA) (va_A [(x0, .inr (1, [.ref a1, .ref a2, .ref a3, .int fi, .int me])), (a1, .inr (0, [.ref b1, .int (nI nh)])), (b1, .inl (cA, 2100, .inl fh)), (a2, .inr (0, [.ref b2, .int (nI nr)])), (b2, .inl (cA, 2100, .inl fr)), (a3, .inr (0, [.ref b3, .int (nI nk)])), (b3, .inl (cA, 2100, .inl fk))] sz)) 0 0 (va_A [(x0, .inr (1, [.ref a1, .ref a2, .ref a3, .int fi, .int me])), (a1, .inr (0, [.ref b1, .int (nI nh)])), (b1, .inl (cA, 2100, .inl fh)), (a2, .inr (0, [.ref b2, .int (nI nr)])), (b2, .inl (cA, 2100, .inl fr)), (a3, .inr (0, [.ref b3, .int (nI nk)])), (b3, .inl (cA, 2100, .inl fk))] sz) := by
  refine Met.ofW (cc := cX1_join) (maxL := 3) (ret := (some .int)) (by decide +kernel) rfl ?_
  intro p e s m args below meth c s₁ B hml hv
  obtain ⟨rfl, hsz, hP, hK, hD0, hN⟩ := hv
  have hx := B.exec
  have hb := B.bytes
  have hr := B.returns
  have hts := atoms_spec (ws := wsX1_join) B.pre
  have hown : s.vm.findClass RX1 = some m.cls := findClass_of_methodNamed B.named
  have hlocks := B.notSynchronized
  subst hsz
  have hD := hD0.self (sz := s.heap.size)
  generalize hAe : va_A [(x0, .inr (1, [.ref a1, .ref a2, .ref a3, .int fi, .int me])), (a1, .inr (0, [.ref b1, .int (nI nh)])), (b1, .inl (cA, 2100, .inl fh)), (a2, .inr (0, [.ref b2, .int (nI nr)])), (b2, .inl (cA, 2100, .inl fr)), (a3, .inr (0, [.ref b3, .int (nI nk)])), (b3, .inl (cA, 2100, .inl fk))] s.heap.size = A at hD ⊢
  have hA : ∀ q : Nat, s.heap.size ≤ q → A q := fun q h => by rw [← hAe]; exact Or.inr h
  have hS : va_S A s.heap s.heap [] := va_S.rf
  have hl := lv_entry ([.ref x0, .int p0, .int p1]) (n := 3) (Nat.le_of_ble_eq_true rfl)
  rw [lg_entry_eq]
  generalize (lg_sl ([.ref x0, .int p0, .int p1]) ++ List.replicate (3 - (lg_sl ([.ref x0, .int p0, .int p1])).length) Slot.unset).toArray = ls at hl ⊢
  have hl : lv_has ls 3 [(0, .ref x0), (1, .int p0), (2, .int p1)] := hl
  by_cases hz : p1 = 0
  · refine lv_aload_n hx hb dX1_join_0 rfl (lv_at hl 0 rfl) ?_
    refine va_get (D := (dC, dI)) (ci := 1) (v := .ref a2) (C := RX1) (T := TX1) (N := 5) hx hb hts inX1_join_X1 hown hK hP 0 rfl rfl 1 (by decide) (hts (.fieldLink RX1 16 "QueueHall" "ringRow" "LQueueHall$Row;") (List.mem_of_getElem? (i := 1) (by decide +kernel))) (fun _ h9 => h9) rfl dX1_join_1 ?_
    refine lv_iload_n hx hb dX1_join_4 rfl (lv_at hl 2 rfl) ?_
    refine lv_if_eq (tgt := 12) hx hb dX1_join_5 (by decide) (fun c_1 => ?_) (fun c_0 => absurd (show p1 = (0 : Int32) from hz) c_0)
    refine lv_aload_n hx hb dX1_join_12 rfl (lv_at hl 0 rfl) ?_
    refine va_get (D := (dC, dI)) (ci := 1) (v := .ref a2) (C := RX1) (T := TX1) (N := 5) hx hb hts inX1_join_X1 hown hK hP 0 rfl rfl 1 (by decide) (hts (.fieldLink RX1 16 "QueueHall" "ringRow" "LQueueHall$Row;") (List.mem_of_getElem? (i := 1) (by decide +kernel))) (fun _ h9 => h9) rfl dX1_join_13 ?_
    refine va_getN (D := (dC, dI)) (ci := 0) (v := .int (nI nr)) (C := RX0) (T := TX0) (N := 2) hx hb hts inX1_join_X0 hown hK hP 3 rfl rfl 1 (by decide) (qN_count hN) (fun _ h9 => h9) rfl dX1_join_16 ?_
    refine lv_iload_n hx hb dX1_join_19 rfl (lv_at hl 1 rfl) ?_
    have hPc := hP.sub (ws' := [(a2, .inr (0, [.ref b2, .int (nI nr)])), (b2, .inl (cA, 2100, .inl fr))]) [3, 4] rfl
    have hKc := hK.sub (tys' := [(cA, .int)]) [0] rfl
    have hDc := hD.sub (ws' := [(a2, .inr (0, [.ref b2, .int (nI nr)])), (b2, .inl (cA, 2100, .inl fr))]) [3, 4] (by decide) rfl
    have hFc := va_free (wc := [(a2, .inr (0, [.ref b2, .int (nI nr)])), (b2, .inl (cA, 2100, .inl fr))]) hD hS hA [3, 4] rfl
    refine va_calli (va_runVN (As := [.int (nI nr), .int p0]) (rest := []) ⟨hx, hb, hml, hown, hts⟩ (c_Row_put l dC dI s.heap.size a2 b2 nr cA fr gr (nI nr) p0 (by omega) ha2) ⟨va_cnB 2 hts gX1_join_X0_put rfl rfl rfl (qN_put hN) (hts (.initialized RX0) (List.mem_of_getElem? (i := 4) (by decide +kernel))) (by decide +kernel) ⟨Nat.le_of_ble_eq_true rfl, Nat.le_of_ble_eq_true rfl⟩, (hts (.instanceMethod yX0_put) (List.mem_of_getElem? (i := 2) (by decide +kernel))), (hts (.selects RX0 yX0_put yX0_put) (List.mem_of_getElem? (i := 3) (by decide +kernel)))⟩ ⟨q_blW, va_recv hKc hPc (ci := 0) (q0 := 0) rfl rfl, fun U hU hW => ⟨rfl, by rw [hU], by rw [hU]; exact hPc, va_K.moved hW.alike hKc, hDc.weaken (fun _ _ _ _ => trivial)⟩⟩ rfl rfl hl.1 rfl (lv_room (Nat.le_of_ble_eq_true rfl)) dX1_join_20 ⟨Nat.le_of_ble_eq_true rfl, Nat.le_of_ble_eq_true rfl⟩) hS (fun q _ h => hFc q h) hFc (fun r_2 u_2 t_2 H1 locs ht hvm hw hB hz1 hk1 hS => ?_)
    have hw := hw.trans (qPut_i (k := nr) (by omega) (by omega))
    obtain ⟨rfl, rfl⟩ := Prod.mk.inj hw
    obtain ⟨f_2, hg_2, hP1, hK1, hD1⟩ := hB
    rw [ht] at hP1
    obtain ⟨hP, hD⟩ := q_join (wr := [(x0, .inr (1, [.ref a1, .ref a2, .ref a3, .int fi, .int me])), (a1, .inr (0, [.ref b1, .int (nI nh)])), (b1, .inl (cA, 2100, .inl fh)), (a3, .inr (0, [.ref b3, .int (nI nk)])), (b3, .inl (cA, 2100, .inl fk))]) (w1 := [(a2, .inr (0, [.ref b2, .int (nI (nr + 1))])), (b2, .inl (cA, 2100, .inl f_2))]) (wz := [(x0, .inr (1, [.ref a1, .ref a2, .ref a3, .int fi, .int me])), (a1, .inr (0, [.ref b1, .int (nI nh)])), (b1, .inl (cA, 2100, .inl fh)), (a2, .inr (0, [.ref b2, .int (nI (nr + 1))])), (b2, .inl (cA, 2100, .inl f_2)), (a3, .inr (0, [.ref b3, .int (nI nk)])), (b3, .inl (cA, 2100, .inl fk))]) hP hD [3, 4] [0, 1, 2, 5, 6] [0, 1, 2, 5, 6, 3, 4] rfl rfl (by decide) (by decide) hk1 hFc hP1 hD1 rfl rfl (by decide)
    generalize H1 = H at hP hS ⊢
    refine lv_if_eq (tgt := 36) hx hb dX1_join_23 (by decide) (fun c_0 => absurd c_0 (show ¬ (1 : Int32) = (0 : Int32) from (by decide))) (fun c_3 => ?_)
    refine lv_aload_n hx hb dX1_join_26 rfl (lv_at hl 0 rfl) ?_
    refine va_get (D := (dC, dI)) (ci := 1) (v := .ref a2) (C := RX1) (T := TX1) (N := 5) hx hb hts inX1_join_X1 hown hK hP 0 rfl rfl 1 (by decide) (hts (.fieldLink RX1 16 "QueueHall" "ringRow" "LQueueHall$Row;") (List.mem_of_getElem? (i := 1) (by decide +kernel))) (fun _ h9 => h9) rfl dX1_join_27 ?_
    refine va_getN (D := (dC, dI)) (ci := 0) (v := .int (nI (nr + 1))) (C := RX0) (T := TX0) (N := 2) hx hb hts inX1_join_X0 hown hK hP 3 rfl rfl 1 (by decide) (qN_count hN) (fun _ h9 => h9) rfl dX1_join_30 ?_
    refine lv_goto (tgt := 38) hx hb dX1_join_33 (by decide) ?_
    exact W.iret (v := nI (nr + 1)) hx hb hr (fun t ht hW => ⟨⟨nI (nr + 1), ((gh, nh), (qIns gr nr p0, nr + 1), (gk, nk), fi, me), rfl, (by simp only [qJoin, if_pos hz]), fh, f_2, fk, ha1, hg_2, ha3, by rw [ht]; exact hP, va_K.moved hW.alike hK, hD⟩, hS.F ht⟩) hS.2.2 dX1_join_38
  · refine lv_aload_n hx hb dX1_join_0 rfl (lv_at hl 0 rfl) ?_
    refine va_get (D := (dC, dI)) (ci := 1) (v := .ref a2) (C := RX1) (T := TX1) (N := 5) hx hb hts inX1_join_X1 hown hK hP 0 rfl rfl 1 (by decide) (hts (.fieldLink RX1 16 "QueueHall" "ringRow" "LQueueHall$Row;") (List.mem_of_getElem? (i := 1) (by decide +kernel))) (fun _ h9 => h9) rfl dX1_join_1 ?_
    refine lv_iload_n hx hb dX1_join_4 rfl (lv_at hl 2 rfl) ?_
    refine lv_if_eq (tgt := 12) hx hb dX1_join_5 (by decide) (fun c_0 => absurd c_0 (show ¬ p1 = (0 : Int32) from hz)) (fun c_4 => ?_)
    refine lv_iconst (v := nI 0) hx hb dX1_join_8 (by decide) ?_
    refine lv_goto (tgt := 19) hx hb dX1_join_9 (by decide) ?_
    refine lv_iload_n hx hb dX1_join_19 rfl (lv_at hl 1 rfl) ?_
    have hPc := hP.sub (ws' := [(a2, .inr (0, [.ref b2, .int (nI nr)])), (b2, .inl (cA, 2100, .inl fr))]) [3, 4] rfl
    have hKc := hK.sub (tys' := [(cA, .int)]) [0] rfl
    have hDc := hD.sub (ws' := [(a2, .inr (0, [.ref b2, .int (nI nr)])), (b2, .inl (cA, 2100, .inl fr))]) [3, 4] (by decide) rfl
    have hFc := va_free (wc := [(a2, .inr (0, [.ref b2, .int (nI nr)])), (b2, .inl (cA, 2100, .inl fr))]) hD hS hA [3, 4] rfl
    refine va_calli (va_runVN (As := [.int (nI 0), .int p0]) (rest := []) ⟨hx, hb, hml, hown, hts⟩ (c_Row_put l dC dI s.heap.size a2 b2 nr cA fr gr (nI 0) p0 (by omega) ha2) ⟨va_cnB 2 hts gX1_join_X0_put rfl rfl rfl (qN_put hN) (hts (.initialized RX0) (List.mem_of_getElem? (i := 4) (by decide +kernel))) (by decide +kernel) ⟨Nat.le_of_ble_eq_true rfl, Nat.le_of_ble_eq_true rfl⟩, (hts (.instanceMethod yX0_put) (List.mem_of_getElem? (i := 2) (by decide +kernel))), (hts (.selects RX0 yX0_put yX0_put) (List.mem_of_getElem? (i := 3) (by decide +kernel)))⟩ ⟨q_blW, va_recv hKc hPc (ci := 0) (q0 := 0) rfl rfl, fun U hU hW => ⟨rfl, by rw [hU], by rw [hU]; exact hPc, va_K.moved hW.alike hKc, hDc.weaken (fun _ _ _ _ => trivial)⟩⟩ rfl rfl hl.1 rfl (lv_room (Nat.le_of_ble_eq_true rfl)) dX1_join_20 ⟨Nat.le_of_ble_eq_true rfl, Nat.le_of_ble_eq_true rfl⟩) hS (fun q _ h => hFc q h) hFc (fun r_5 u_5 t_5 H1 locs ht hvm hw hB hz1 hk1 hS => ?_)
    have hw := hw.trans (qPut_i (k := 0) (by omega) (by omega))
    obtain ⟨rfl, rfl⟩ := Prod.mk.inj hw
    obtain ⟨f_5, hg_5, hP1, hK1, hD1⟩ := hB
    rw [ht] at hP1
    obtain ⟨hP, hD⟩ := q_join (wr := [(x0, .inr (1, [.ref a1, .ref a2, .ref a3, .int fi, .int me])), (a1, .inr (0, [.ref b1, .int (nI nh)])), (b1, .inl (cA, 2100, .inl fh)), (a3, .inr (0, [.ref b3, .int (nI nk)])), (b3, .inl (cA, 2100, .inl fk))]) (w1 := [(a2, .inr (0, [.ref b2, .int (nI (nr + 1))])), (b2, .inl (cA, 2100, .inl f_5))]) (wz := [(x0, .inr (1, [.ref a1, .ref a2, .ref a3, .int fi, .int me])), (a1, .inr (0, [.ref b1, .int (nI nh)])), (b1, .inl (cA, 2100, .inl fh)), (a2, .inr (0, [.ref b2, .int (nI (nr + 1))])), (b2, .inl (cA, 2100, .inl f_5)), (a3, .inr (0, [.ref b3, .int (nI nk)])), (b3, .inl (cA, 2100, .inl fk))]) hP hD [3, 4] [0, 1, 2, 5, 6] [0, 1, 2, 5, 6, 3, 4] rfl rfl (by decide) (by decide) hk1 hFc hP1 hD1 rfl rfl (by decide)
    generalize H1 = H at hP hS ⊢
    refine lv_if_eq (tgt := 36) hx hb dX1_join_23 (by decide) (fun c_0 => absurd c_0 (show ¬ (1 : Int32) = (0 : Int32) from (by decide))) (fun c_6 => ?_)
    refine lv_aload_n hx hb dX1_join_26 rfl (lv_at hl 0 rfl) ?_
    refine va_get (D := (dC, dI)) (ci := 1) (v := .ref a2) (C := RX1) (T := TX1) (N := 5) hx hb hts inX1_join_X1 hown hK hP 0 rfl rfl 1 (by decide) (hts (.fieldLink RX1 16 "QueueHall" "ringRow" "LQueueHall$Row;") (List.mem_of_getElem? (i := 1) (by decide +kernel))) (fun _ h9 => h9) rfl dX1_join_27 ?_
    refine va_getN (D := (dC, dI)) (ci := 0) (v := .int (nI (nr + 1))) (C := RX0) (T := TX0) (N := 2) hx hb hts inX1_join_X0 hown hK hP 3 rfl rfl 1 (by decide) (qN_count hN) (fun _ h9 => h9) rfl dX1_join_30 ?_
    refine lv_goto (tgt := 38) hx hb dX1_join_33 (by decide) ?_
    exact W.iret (v := nI (nr + 1)) hx hb hr (fun t ht hW => ⟨⟨nI (nr + 1), ((gh, nh), (qIns gr 0 p0, nr + 1), (gk, nk), fi, me), rfl, (by simp only [qJoin, if_neg hz]), fh, f_5, fk, ha1, hg_5, ha3, by rw [ht]; exact hP, va_K.moved hW.alike hK, hD⟩, hS.F ht⟩) hS.2.2 dX1_join_38

set_option maxHeartbeats 4000000 in
set_option maxRecDepth 100000 in
theorem c_Hall_serve (l : Launch) (dC : Nat → ClassId) (dI : Nat → Nat → Nat) (sz : Nat) (x0 a1 b1 a2 b2 a3 b3 nh nr nk : Nat) (cA : ClassId) (fh gh fr gr fk gk : Nat → Int32) (fi me : Int32) (p0 p1 : Int32) (hn : nh + nr + nk < 2000) (ha1 : qAg nh fh gh) (ha2 : qAg nr fr gr) (ha3 : qAg nk fk gk) (hF : qFok fi me nk) : Met l yX1_serve wsX1_serve ({ frames := 2, cells := 0, slots := 0, locals := 58 }) (va_Pc [.ref x0, .int p0, .int p1] (fun U => U.heap.size = sz ∧ va_P (dC, dI) vwCl [(x0, .inr (1, [.ref a1, .ref a2, .ref a3, .int fi, .int me])), (a1, .inr (0, [.ref b1, .int (nI nh)])), (b1, .inl (cA, 2100, .inl fh)), (a2, .inr (0, [.ref b2, .int (nI nr)])), (b2, .inl (cA, 2100, .inl fr)), (a3, .inr (0, [.ref b3, .int (nI nk)])), (b3, .inl (cA, 2100, .inl fk))] U.heap ∧ va_K (dC, dI) vwCl [(cA, .int)] U ∧ va_D (fun _ => True) [(x0, .inr (1, [.ref a1, .ref a2, .ref a3, .int fi, .int me])), (a1, .inr (0, [.ref b1, .int (nI nh)])), (b1, .inl (cA, 2100, .inl fh)), (a2, .inr (0, [.ref b2, .int (nI nr)])), (b2, .inl (cA, 2100, .inl fr)), (a3, .inr (0, [.ref b3, .int (nI nk)])), (b3, .inl (cA, 2100, .inl fk))] ∧ qNest U)) (va_Ql (fun (r : Int64) (u : qS) => (r, u) = qServe p0 p1 ((gh, nh), (gr, nr), (gk, nk), fi, me)) (at_H dC dI (va_A [(x0, .inr (1, [.ref a1, .ref a2, .ref a3, .int fi, .int me])), (a1, .inr (0, [.ref b1, .int (nI nh)])), (b1, .inl (cA, 2100, .inl fh)), (a2, .inr (0, [.ref b2, .int (nI nr)])), (b2, .inl (cA, 2100, .inl fr)), (a3, .inr (0, [.ref b3, .int (nI nk)])), (b3, .inl (cA, 2100, .inl fk))] sz) x0 a1 b1 a2 b2 a3 b3 cA) (va_A [(x0, .inr (1, [.ref a1, .ref a2, .ref a3, .int fi, .int me])), (a1, .inr (0, [.ref b1, .int (nI nh)])), (b1, .inl (cA, 2100, .inl fh)), (a2, .inr (0, [.ref b2, .int (nI nr)])), (b2, .inl (cA, 2100, .inl fr)), (a3, .inr (0, [.ref b3, .int (nI nk)])), (b3, .inl (cA, 2100, .inl fk))] sz)) 0 0 (va_A [(x0, .inr (1, [.ref a1, .ref a2, .ref a3, .int fi, .int me])), (a1, .inr (0, [.ref b1, .int (nI nh)])), (b1, .inl (cA, 2100, .inl fh)), (a2, .inr (0, [.ref b2, .int (nI nr)])), (b2, .inl (cA, 2100, .inl fr)), (a3, .inr (0, [.ref b3, .int (nI nk)])), (b3, .inl (cA, 2100, .inl fk))] sz) := by
  refine Met.ofW (cc := cX1_serve) (maxL := 4) (ret := (some .long)) (by decide +kernel) rfl ?_
  intro p e s m args below meth c s₁ B hml hv
  obtain ⟨rfl, hsz, hP, hK, hD0, hN⟩ := hv
  have hx := B.exec
  have hb := B.bytes
  have hr := B.returns
  have hts := atoms_spec (ws := wsX1_serve) B.pre
  have hown : s.vm.findClass RX1 = some m.cls := findClass_of_methodNamed B.named
  have hlocks := B.notSynchronized
  subst hsz
  have hD := hD0.self (sz := s.heap.size)
  generalize hAe : va_A [(x0, .inr (1, [.ref a1, .ref a2, .ref a3, .int fi, .int me])), (a1, .inr (0, [.ref b1, .int (nI nh)])), (b1, .inl (cA, 2100, .inl fh)), (a2, .inr (0, [.ref b2, .int (nI nr)])), (b2, .inl (cA, 2100, .inl fr)), (a3, .inr (0, [.ref b3, .int (nI nk)])), (b3, .inl (cA, 2100, .inl fk))] s.heap.size = A at hD ⊢
  have hA : ∀ q : Nat, s.heap.size ≤ q → A q := fun q h => by rw [← hAe]; exact Or.inr h
  have hS : va_S A s.heap s.heap [] := va_S.rf
  have hl := lv_entry ([.ref x0, .int p0, .int p1]) (n := 4) (Nat.le_of_ble_eq_true rfl)
  rw [lg_entry_eq]
  generalize (lg_sl ([.ref x0, .int p0, .int p1]) ++ List.replicate (4 - (lg_sl ([.ref x0, .int p0, .int p1])).length) Slot.unset).toArray = ls at hl ⊢
  have hl : lv_has ls 4 [(0, .ref x0), (1, .int p0), (2, .int p1)] := hl
  by_cases hz : p0 = 0 <;> by_cases hy : p1 = 0 <;> rcases Nat.eq_zero_or_pos nr with hn0 | hn0
  · have h00 := q_hp00 hn0
    refine lv_iload_n hx hb dX1_serve_0 rfl (lv_at hl 1 rfl) ?_
    refine lv_if_eq (tgt := 8) hx hb dX1_serve_1 (by decide) (fun c_1 => ?_) (fun c_0 => absurd (show p0 = (0 : Int32) from hz) c_0)
    refine lv_aload_n hx hb dX1_serve_8 rfl (lv_at hl 0 rfl) ?_
    refine va_get (D := (dC, dI)) (ci := 1) (v := .ref a2) (C := RX1) (T := TX1) (N := 5) hx hb hts inX1_serve_X1 hown hK hP 0 rfl rfl 1 (by decide) (hts (.fieldLink RX1 16 "QueueHall" "ringRow" "LQueueHall$Row;") (List.mem_of_getElem? (i := 1) (by decide +kernel))) (fun _ h9 => h9) rfl dX1_serve_9 ?_
    refine va_getN (D := (dC, dI)) (ci := 0) (v := .int (nI nr)) (C := RX0) (T := TX0) (N := 2) hx hb hts inX1_serve_X0 hown hK hP 3 rfl rfl 1 (by decide) (qN_count hN) (fun _ h9 => h9) rfl dX1_serve_12 ?_
    refine lv_iconst (v := 1) hx hb dX1_serve_15 (by decide) ?_
    refine lv_isub hx hb dX1_serve_16 ?_
    refine q_top (y := -1) (by rw [hn0]; exact q_0m1) ?_
    refine lv_istore_n (lv' := [(3, .int (-1)), (0, .ref x0), (1, .int p0), (2, .int p1)]) hx hb dX1_serve_17 rfl hl (by decide) rfl (fun ls hl => ?_)
    refine lv_iload_n hx hb dX1_serve_18 rfl (lv_at hl 3 rfl) ?_
    refine lv_if_eq (tgt := 33) hx hb dX1_serve_19 (by decide) (fun c_2 => ?_) (fun c_0 => absurd (show p1 = (0 : Int32) from hy) c_0)
    refine lv_aload_n hx hb dX1_serve_33 rfl (lv_at hl 1 rfl) ?_
    refine va_get (D := (dC, dI)) (ci := 1) (v := .ref a2) (C := RX1) (T := TX1) (N := 5) hx hb hts inX1_serve_X1 hown hK hP 0 rfl rfl 1 (by decide) (hts (.fieldLink RX1 16 "QueueHall" "ringRow" "LQueueHall$Row;") (List.mem_of_getElem? (i := 1) (by decide +kernel))) (fun _ h9 => h9) rfl dX1_serve_34 ?_
    refine lv_iload_n hx hb dX1_serve_37 rfl (lv_at hl 0 rfl) ?_
    have hPc := hP.sub (ws' := [(a2, .inr (0, [.ref b2, .int (nI nr)])), (b2, .inl (cA, 2100, .inl fr))]) [3, 4] rfl
    have hKc := hK.sub (tys' := [(cA, .int)]) [0] rfl
    have hDc := hD.sub (ws' := [(a2, .inr (0, [.ref b2, .int (nI nr)])), (b2, .inl (cA, 2100, .inl fr))]) [3, 4] (by decide) rfl
    have hFc := va_free (wc := [(a2, .inr (0, [.ref b2, .int (nI nr)])), (b2, .inl (cA, 2100, .inl fr))]) hD hS hA [3, 4] rfl
    refine va_calll (va_runVN (As := [.int (-1)]) (rest := []) ⟨hx, hb, hml, hown, hts⟩ (c_Row_take l dC dI s.heap.size a2 b2 nr cA fr gr (-1) (by omega) ha2) ⟨va_cnB 1 hts gX1_serve_X0_take rfl rfl rfl (qN_take hN) (hts (.initialized RX0) (List.mem_of_getElem? (i := 4) (by decide +kernel))) (by decide +kernel) ⟨Nat.le_of_ble_eq_true rfl, Nat.le_of_ble_eq_true rfl⟩, (hts (.instanceMethod yX0_take) (List.mem_of_getElem? (i := 13) (by decide +kernel))), (hts (.selects RX0 yX0_take yX0_take) (List.mem_of_getElem? (i := 14) (by decide +kernel)))⟩ ⟨q_blW, va_recv hKc hPc (ci := 0) (q0 := 0) rfl rfl, fun U hU hW => ⟨rfl, by rw [hU], by rw [hU]; exact hPc, va_K.moved hW.alike hKc, hDc.weaken (fun _ _ _ _ => trivial)⟩⟩ rfl rfl hl.1 rfl (lv_room (Nat.le_of_ble_eq_true rfl)) dX1_serve_38 ⟨Nat.le_of_ble_eq_true rfl, Nat.le_of_ble_eq_true rfl⟩) hS (fun q _ h => hFc q h) hFc (fun r_3 u_3 t_3 H1 locs ht hvm hw hB hz1 hk1 hS => ?_)
    have hw := hw.trans (qTake_o (qHp_m1))
    obtain ⟨rfl, rfl⟩ := Prod.mk.inj hw
    obtain ⟨f_3, hg_3, hP1, hK1, hD1⟩ := hB
    rw [ht] at hP1
    obtain ⟨hP, hD⟩ := q_join (wr := [(x0, .inr (1, [.ref a1, .ref a2, .ref a3, .int fi, .int me])), (a1, .inr (0, [.ref b1, .int (nI nh)])), (b1, .inl (cA, 2100, .inl fh)), (a3, .inr (0, [.ref b3, .int (nI nk)])), (b3, .inl (cA, 2100, .inl fk))]) (w1 := [(a2, .inr (0, [.ref b2, .int (nI nr)])), (b2, .inl (cA, 2100, .inl f_3))]) (wz := [(x0, .inr (1, [.ref a1, .ref a2, .ref a3, .int fi, .int me])), (a1, .inr (0, [.ref b1, .int (nI nh)])), (b1, .inl (cA, 2100, .inl fh)), (a2, .inr (0, [.ref b2, .int (nI nr)])), (b2, .inl (cA, 2100, .inl f_3)), (a3, .inr (0, [.ref b3, .int (nI nk)])), (b3, .inl (cA, 2100, .inl fk))]) hP hD [3, 4] [0, 1, 2, 5, 6] [0, 1, 2, 5, 6, 3, 4] rfl rfl (by decide) (by decide) hk1 hFc hP1 hD1 rfl rfl (by decide)
    generalize H1 = H at hP hS ⊢
    exact W.lret (v := qNo) hx hb hr (fun t ht hW => ⟨⟨qNo, ((gh, nh), (gr, nr), (gk, nk), fi, me), rfl, (by simp only [qServe, if_pos hn0]), fh, f_3, fk, ha1, hg_3, ha3, by rw [ht]; exact hP, va_K.moved hW.alike hK, hD⟩, hS.F ht⟩) hS.2.2 dX1_serve_41
  · refine lv_iload_n hx hb dX1_serve_0 rfl (lv_at hl 1 rfl) ?_
    refine lv_if_eq (tgt := 8) hx hb dX1_serve_1 (by decide) (fun c_4 => ?_) (fun c_0 => absurd (show p0 = (0 : Int32) from hz) c_0)
    refine lv_aload_n hx hb dX1_serve_8 rfl (lv_at hl 0 rfl) ?_
    refine va_get (D := (dC, dI)) (ci := 1) (v := .ref a2) (C := RX1) (T := TX1) (N := 5) hx hb hts inX1_serve_X1 hown hK hP 0 rfl rfl 1 (by decide) (hts (.fieldLink RX1 16 "QueueHall" "ringRow" "LQueueHall$Row;") (List.mem_of_getElem? (i := 1) (by decide +kernel))) (fun _ h9 => h9) rfl dX1_serve_9 ?_
    refine va_getN (D := (dC, dI)) (ci := 0) (v := .int (nI nr)) (C := RX0) (T := TX0) (N := 2) hx hb hts inX1_serve_X0 hown hK hP 3 rfl rfl 1 (by decide) (qN_count hN) (fun _ h9 => h9) rfl dX1_serve_12 ?_
    refine lv_iconst (v := 1) hx hb dX1_serve_15 (by decide) ?_
    refine lv_isub hx hb dX1_serve_16 ?_
    refine q_top (y := nI (nr - 1)) (q_m1 (by omega)) ?_
    refine lv_istore_n (lv' := [(3, .int (nI (nr - 1))), (0, .ref x0), (1, .int p0), (2, .int p1)]) hx hb dX1_serve_17 rfl hl (by decide) rfl (fun ls hl => ?_)
    refine lv_iload_n hx hb dX1_serve_18 rfl (lv_at hl 3 rfl) ?_
    refine lv_if_eq (tgt := 33) hx hb dX1_serve_19 (by decide) (fun c_5 => ?_) (fun c_0 => absurd (show p1 = (0 : Int32) from hy) c_0)
    refine lv_aload_n hx hb dX1_serve_33 rfl (lv_at hl 1 rfl) ?_
    refine va_get (D := (dC, dI)) (ci := 1) (v := .ref a2) (C := RX1) (T := TX1) (N := 5) hx hb hts inX1_serve_X1 hown hK hP 0 rfl rfl 1 (by decide) (hts (.fieldLink RX1 16 "QueueHall" "ringRow" "LQueueHall$Row;") (List.mem_of_getElem? (i := 1) (by decide +kernel))) (fun _ h9 => h9) rfl dX1_serve_34 ?_
    refine lv_iload_n hx hb dX1_serve_37 rfl (lv_at hl 0 rfl) ?_
    have hPc := hP.sub (ws' := [(a2, .inr (0, [.ref b2, .int (nI nr)])), (b2, .inl (cA, 2100, .inl fr))]) [3, 4] rfl
    have hKc := hK.sub (tys' := [(cA, .int)]) [0] rfl
    have hDc := hD.sub (ws' := [(a2, .inr (0, [.ref b2, .int (nI nr)])), (b2, .inl (cA, 2100, .inl fr))]) [3, 4] (by decide) rfl
    have hFc := va_free (wc := [(a2, .inr (0, [.ref b2, .int (nI nr)])), (b2, .inl (cA, 2100, .inl fr))]) hD hS hA [3, 4] rfl
    refine va_calll (va_runVN (As := [.int (nI (nr - 1))]) (rest := []) ⟨hx, hb, hml, hown, hts⟩ (c_Row_take l dC dI s.heap.size a2 b2 nr cA fr gr (nI (nr - 1)) (by omega) ha2) ⟨va_cnB 1 hts gX1_serve_X0_take rfl rfl rfl (qN_take hN) (hts (.initialized RX0) (List.mem_of_getElem? (i := 4) (by decide +kernel))) (by decide +kernel) ⟨Nat.le_of_ble_eq_true rfl, Nat.le_of_ble_eq_true rfl⟩, (hts (.instanceMethod yX0_take) (List.mem_of_getElem? (i := 13) (by decide +kernel))), (hts (.selects RX0 yX0_take yX0_take) (List.mem_of_getElem? (i := 14) (by decide +kernel)))⟩ ⟨q_blW, va_recv hKc hPc (ci := 0) (q0 := 0) rfl rfl, fun U hU hW => ⟨rfl, by rw [hU], by rw [hU]; exact hPc, va_K.moved hW.alike hKc, hDc.weaken (fun _ _ _ _ => trivial)⟩⟩ rfl rfl hl.1 rfl (lv_room (Nat.le_of_ble_eq_true rfl)) dX1_serve_38 ⟨Nat.le_of_ble_eq_true rfl, Nat.le_of_ble_eq_true rfl⟩) hS (fun q _ h => hFc q h) hFc (fun r_6 u_6 t_6 H1 locs ht hvm hw hB hz1 hk1 hS => ?_)
    have hw := hw.trans (qTake_i (k := nr - 1) (by omega) (by omega))
    obtain ⟨rfl, rfl⟩ := Prod.mk.inj hw
    obtain ⟨f_6, hg_6, hP1, hK1, hD1⟩ := hB
    rw [ht] at hP1
    obtain ⟨hP, hD⟩ := q_join (wr := [(x0, .inr (1, [.ref a1, .ref a2, .ref a3, .int fi, .int me])), (a1, .inr (0, [.ref b1, .int (nI nh)])), (b1, .inl (cA, 2100, .inl fh)), (a3, .inr (0, [.ref b3, .int (nI nk)])), (b3, .inl (cA, 2100, .inl fk))]) (w1 := [(a2, .inr (0, [.ref b2, .int (nI (nr - 1))])), (b2, .inl (cA, 2100, .inl f_6))]) (wz := [(x0, .inr (1, [.ref a1, .ref a2, .ref a3, .int fi, .int me])), (a1, .inr (0, [.ref b1, .int (nI nh)])), (b1, .inl (cA, 2100, .inl fh)), (a2, .inr (0, [.ref b2, .int (nI (nr - 1))])), (b2, .inl (cA, 2100, .inl f_6)), (a3, .inr (0, [.ref b3, .int (nI nk)])), (b3, .inl (cA, 2100, .inl fk))]) hP hD [3, 4] [0, 1, 2, 5, 6] [0, 1, 2, 5, 6, 3, 4] rfl rfl (by decide) (by decide) hk1 hFc hP1 hD1 rfl rfl (by decide)
    generalize H1 = H at hP hS ⊢
    exact W.lret (v := (gr (nr - 1)).toInt64) hx hb hr (fun t ht hW => ⟨⟨(gr (nr - 1)).toInt64, ((gh, nh), (qDel gr (nr - 1), nr - 1), (gk, nk), fi, me), rfl, (by simp only [qServe, if_neg (show ¬ nr = 0 by omega), if_pos hy, if_pos hz]), fh, f_6, fk, ha1, hg_6, ha3, by rw [ht]; exact hP, va_K.moved hW.alike hK, hD⟩, hS.F ht⟩) hS.2.2 dX1_serve_41
  · have h00 := q_hp00 hn0
    refine lv_iload_n hx hb dX1_serve_0 rfl (lv_at hl 1 rfl) ?_
    refine lv_if_eq (tgt := 8) hx hb dX1_serve_1 (by decide) (fun c_7 => ?_) (fun c_0 => absurd (show p0 = (0 : Int32) from hz) c_0)
    refine lv_aload_n hx hb dX1_serve_8 rfl (lv_at hl 0 rfl) ?_
    refine va_get (D := (dC, dI)) (ci := 1) (v := .ref a2) (C := RX1) (T := TX1) (N := 5) hx hb hts inX1_serve_X1 hown hK hP 0 rfl rfl 1 (by decide) (hts (.fieldLink RX1 16 "QueueHall" "ringRow" "LQueueHall$Row;") (List.mem_of_getElem? (i := 1) (by decide +kernel))) (fun _ h9 => h9) rfl dX1_serve_9 ?_
    refine va_getN (D := (dC, dI)) (ci := 0) (v := .int (nI nr)) (C := RX0) (T := TX0) (N := 2) hx hb hts inX1_serve_X0 hown hK hP 3 rfl rfl 1 (by decide) (qN_count hN) (fun _ h9 => h9) rfl dX1_serve_12 ?_
    refine lv_iconst (v := 1) hx hb dX1_serve_15 (by decide) ?_
    refine lv_isub hx hb dX1_serve_16 ?_
    refine q_top (y := -1) (by rw [hn0]; exact q_0m1) ?_
    refine lv_istore_n (lv' := [(3, .int (-1)), (0, .ref x0), (1, .int p0), (2, .int p1)]) hx hb dX1_serve_17 rfl hl (by decide) rfl (fun ls hl => ?_)
    refine lv_iload_n hx hb dX1_serve_18 rfl (lv_at hl 3 rfl) ?_
    refine lv_if_eq (tgt := 33) hx hb dX1_serve_19 (by decide) (fun c_0 => absurd c_0 (show ¬ p1 = (0 : Int32) from hy)) (fun c_8 => ?_)
    refine lv_aload_n hx hb dX1_serve_22 rfl (lv_at hl 1 rfl) ?_
    refine va_get (D := (dC, dI)) (ci := 1) (v := .ref a2) (C := RX1) (T := TX1) (N := 5) hx hb hts inX1_serve_X1 hown hK hP 0 rfl rfl 1 (by decide) (hts (.fieldLink RX1 16 "QueueHall" "ringRow" "LQueueHall$Row;") (List.mem_of_getElem? (i := 1) (by decide +kernel))) (fun _ h9 => h9) rfl dX1_serve_23 ?_
    refine lv_iload_n hx hb dX1_serve_26 rfl (lv_at hl 0 rfl) ?_
    have hPc := hP.sub (ws' := [(a2, .inr (0, [.ref b2, .int (nI nr)])), (b2, .inl (cA, 2100, .inl fr))]) [3, 4] rfl
    have hKc := hK.sub (tys' := [(cA, .int)]) [0] rfl
    refine q_cslE (va_runVN (As := [.int (-1)]) (rest := []) ⟨hx, hb, hml, hown, hts⟩ (c_Row_at l dC dI a2 b2 nr cA fr gr (-1) (by omega) ha2) ⟨va_cnB 1 hts gX1_serve_X0_at rfl rfl rfl (qN_at hN) (hts (.initialized RX0) (List.mem_of_getElem? (i := 4) (by decide +kernel))) (by decide +kernel) ⟨Nat.le_of_ble_eq_true rfl, Nat.le_of_ble_eq_true rfl⟩, (hts (.instanceMethod yX0_at) (List.mem_of_getElem? (i := 2) (by decide +kernel))), (hts (.selects RX0 yX0_at yX0_at) (List.mem_of_getElem? (i := 3) (by decide +kernel)))⟩ ⟨q_blR, va_recv hKc hPc (ci := 0) (q0 := 0) rfl rfl, fun U hU hW => ⟨rfl, by rw [hU]; exact hPc, va_K.moved hW.alike hKc⟩⟩ rfl rfl hl.1 rfl (lv_room (Nat.le_of_ble_eq_true rfl)) dX1_serve_27 ⟨Nat.le_of_ble_eq_true rfl, Nat.le_of_ble_eq_true rfl⟩) ?_
    refine q_topl (y := qNo) (qAt_o (qHp_m1)) ?_
    refine lv_goto (tgt := 41) hx hb dX1_serve_30 (by decide) ?_
    exact W.lret (v := qNo) hx hb hr (fun t ht hW => ⟨⟨qNo, ((gh, nh), (gr, nr), (gk, nk), fi, me), rfl, (by simp only [qServe, if_pos hn0]), fh, fr, fk, ha1, ha2, ha3, by rw [ht]; exact hP, va_K.moved hW.alike hK, hD⟩, hS.F ht⟩) hS.2.2 dX1_serve_41
  · refine lv_iload_n hx hb dX1_serve_0 rfl (lv_at hl 1 rfl) ?_
    refine lv_if_eq (tgt := 8) hx hb dX1_serve_1 (by decide) (fun c_9 => ?_) (fun c_0 => absurd (show p0 = (0 : Int32) from hz) c_0)
    refine lv_aload_n hx hb dX1_serve_8 rfl (lv_at hl 0 rfl) ?_
    refine va_get (D := (dC, dI)) (ci := 1) (v := .ref a2) (C := RX1) (T := TX1) (N := 5) hx hb hts inX1_serve_X1 hown hK hP 0 rfl rfl 1 (by decide) (hts (.fieldLink RX1 16 "QueueHall" "ringRow" "LQueueHall$Row;") (List.mem_of_getElem? (i := 1) (by decide +kernel))) (fun _ h9 => h9) rfl dX1_serve_9 ?_
    refine va_getN (D := (dC, dI)) (ci := 0) (v := .int (nI nr)) (C := RX0) (T := TX0) (N := 2) hx hb hts inX1_serve_X0 hown hK hP 3 rfl rfl 1 (by decide) (qN_count hN) (fun _ h9 => h9) rfl dX1_serve_12 ?_
    refine lv_iconst (v := 1) hx hb dX1_serve_15 (by decide) ?_
    refine lv_isub hx hb dX1_serve_16 ?_
    refine q_top (y := nI (nr - 1)) (q_m1 (by omega)) ?_
    refine lv_istore_n (lv' := [(3, .int (nI (nr - 1))), (0, .ref x0), (1, .int p0), (2, .int p1)]) hx hb dX1_serve_17 rfl hl (by decide) rfl (fun ls hl => ?_)
    refine lv_iload_n hx hb dX1_serve_18 rfl (lv_at hl 3 rfl) ?_
    refine lv_if_eq (tgt := 33) hx hb dX1_serve_19 (by decide) (fun c_0 => absurd c_0 (show ¬ p1 = (0 : Int32) from hy)) (fun c_10 => ?_)
    refine lv_aload_n hx hb dX1_serve_22 rfl (lv_at hl 1 rfl) ?_
    refine va_get (D := (dC, dI)) (ci := 1) (v := .ref a2) (C := RX1) (T := TX1) (N := 5) hx hb hts inX1_serve_X1 hown hK hP 0 rfl rfl 1 (by decide) (hts (.fieldLink RX1 16 "QueueHall" "ringRow" "LQueueHall$Row;") (List.mem_of_getElem? (i := 1) (by decide +kernel))) (fun _ h9 => h9) rfl dX1_serve_23 ?_
    refine lv_iload_n hx hb dX1_serve_26 rfl (lv_at hl 0 rfl) ?_
    have hPc := hP.sub (ws' := [(a2, .inr (0, [.ref b2, .int (nI nr)])), (b2, .inl (cA, 2100, .inl fr))]) [3, 4] rfl
    have hKc := hK.sub (tys' := [(cA, .int)]) [0] rfl
    refine q_cslE (va_runVN (As := [.int (nI (nr - 1))]) (rest := []) ⟨hx, hb, hml, hown, hts⟩ (c_Row_at l dC dI a2 b2 nr cA fr gr (nI (nr - 1)) (by omega) ha2) ⟨va_cnB 1 hts gX1_serve_X0_at rfl rfl rfl (qN_at hN) (hts (.initialized RX0) (List.mem_of_getElem? (i := 4) (by decide +kernel))) (by decide +kernel) ⟨Nat.le_of_ble_eq_true rfl, Nat.le_of_ble_eq_true rfl⟩, (hts (.instanceMethod yX0_at) (List.mem_of_getElem? (i := 2) (by decide +kernel))), (hts (.selects RX0 yX0_at yX0_at) (List.mem_of_getElem? (i := 3) (by decide +kernel)))⟩ ⟨q_blR, va_recv hKc hPc (ci := 0) (q0 := 0) rfl rfl, fun U hU hW => ⟨rfl, by rw [hU]; exact hPc, va_K.moved hW.alike hKc⟩⟩ rfl rfl hl.1 rfl (lv_room (Nat.le_of_ble_eq_true rfl)) dX1_serve_27 ⟨Nat.le_of_ble_eq_true rfl, Nat.le_of_ble_eq_true rfl⟩) ?_
    refine q_topl (y := (gr (nr - 1)).toInt64) (qAt_i (by omega) (by omega)) ?_
    refine lv_goto (tgt := 41) hx hb dX1_serve_30 (by decide) ?_
    exact W.lret (v := (gr (nr - 1)).toInt64) hx hb hr (fun t ht hW => ⟨⟨(gr (nr - 1)).toInt64, ((gh, nh), (gr, nr), (gk, nk), fi, me), rfl, (by simp only [qServe, if_neg (show ¬ nr = 0 by omega), if_neg hy, if_pos hz]), fh, fr, fk, ha1, ha2, ha3, by rw [ht]; exact hP, va_K.moved hW.alike hK, hD⟩, hS.F ht⟩) hS.2.2 dX1_serve_41
  · have h00 := q_hp00 hn0
    refine lv_iload_n hx hb dX1_serve_0 rfl (lv_at hl 1 rfl) ?_
    refine lv_if_eq (tgt := 8) hx hb dX1_serve_1 (by decide) (fun c_0 => absurd c_0 (show ¬ p0 = (0 : Int32) from hz)) (fun c_11 => ?_)
    refine lv_iconst (v := nI 0) hx hb dX1_serve_4 (by decide) ?_
    refine lv_goto (tgt := 17) hx hb dX1_serve_5 (by decide) ?_
    refine lv_istore_n (lv' := [(3, .int (nI 0)), (0, .ref x0), (1, .int p0), (2, .int p1)]) hx hb dX1_serve_17 rfl hl (by decide) rfl (fun ls hl => ?_)
    refine lv_iload_n hx hb dX1_serve_18 rfl (lv_at hl 3 rfl) ?_
    refine lv_if_eq (tgt := 33) hx hb dX1_serve_19 (by decide) (fun c_12 => ?_) (fun c_0 => absurd (show p1 = (0 : Int32) from hy) c_0)
    refine lv_aload_n hx hb dX1_serve_33 rfl (lv_at hl 1 rfl) ?_
    refine va_get (D := (dC, dI)) (ci := 1) (v := .ref a2) (C := RX1) (T := TX1) (N := 5) hx hb hts inX1_serve_X1 hown hK hP 0 rfl rfl 1 (by decide) (hts (.fieldLink RX1 16 "QueueHall" "ringRow" "LQueueHall$Row;") (List.mem_of_getElem? (i := 1) (by decide +kernel))) (fun _ h9 => h9) rfl dX1_serve_34 ?_
    refine lv_iload_n hx hb dX1_serve_37 rfl (lv_at hl 0 rfl) ?_
    have hPc := hP.sub (ws' := [(a2, .inr (0, [.ref b2, .int (nI nr)])), (b2, .inl (cA, 2100, .inl fr))]) [3, 4] rfl
    have hKc := hK.sub (tys' := [(cA, .int)]) [0] rfl
    have hDc := hD.sub (ws' := [(a2, .inr (0, [.ref b2, .int (nI nr)])), (b2, .inl (cA, 2100, .inl fr))]) [3, 4] (by decide) rfl
    have hFc := va_free (wc := [(a2, .inr (0, [.ref b2, .int (nI nr)])), (b2, .inl (cA, 2100, .inl fr))]) hD hS hA [3, 4] rfl
    refine va_calll (va_runVN (As := [.int (nI 0)]) (rest := []) ⟨hx, hb, hml, hown, hts⟩ (c_Row_take l dC dI s.heap.size a2 b2 nr cA fr gr (nI 0) (by omega) ha2) ⟨va_cnB 1 hts gX1_serve_X0_take rfl rfl rfl (qN_take hN) (hts (.initialized RX0) (List.mem_of_getElem? (i := 4) (by decide +kernel))) (by decide +kernel) ⟨Nat.le_of_ble_eq_true rfl, Nat.le_of_ble_eq_true rfl⟩, (hts (.instanceMethod yX0_take) (List.mem_of_getElem? (i := 13) (by decide +kernel))), (hts (.selects RX0 yX0_take yX0_take) (List.mem_of_getElem? (i := 14) (by decide +kernel)))⟩ ⟨q_blW, va_recv hKc hPc (ci := 0) (q0 := 0) rfl rfl, fun U hU hW => ⟨rfl, by rw [hU], by rw [hU]; exact hPc, va_K.moved hW.alike hKc, hDc.weaken (fun _ _ _ _ => trivial)⟩⟩ rfl rfl hl.1 rfl (lv_room (Nat.le_of_ble_eq_true rfl)) dX1_serve_38 ⟨Nat.le_of_ble_eq_true rfl, Nat.le_of_ble_eq_true rfl⟩) hS (fun q _ h => hFc q h) hFc (fun r_13 u_13 t_13 H1 locs ht hvm hw hB hz1 hk1 hS => ?_)
    have hw := hw.trans (qTake_o h00)
    obtain ⟨rfl, rfl⟩ := Prod.mk.inj hw
    obtain ⟨f_13, hg_13, hP1, hK1, hD1⟩ := hB
    rw [ht] at hP1
    obtain ⟨hP, hD⟩ := q_join (wr := [(x0, .inr (1, [.ref a1, .ref a2, .ref a3, .int fi, .int me])), (a1, .inr (0, [.ref b1, .int (nI nh)])), (b1, .inl (cA, 2100, .inl fh)), (a3, .inr (0, [.ref b3, .int (nI nk)])), (b3, .inl (cA, 2100, .inl fk))]) (w1 := [(a2, .inr (0, [.ref b2, .int (nI nr)])), (b2, .inl (cA, 2100, .inl f_13))]) (wz := [(x0, .inr (1, [.ref a1, .ref a2, .ref a3, .int fi, .int me])), (a1, .inr (0, [.ref b1, .int (nI nh)])), (b1, .inl (cA, 2100, .inl fh)), (a2, .inr (0, [.ref b2, .int (nI nr)])), (b2, .inl (cA, 2100, .inl f_13)), (a3, .inr (0, [.ref b3, .int (nI nk)])), (b3, .inl (cA, 2100, .inl fk))]) hP hD [3, 4] [0, 1, 2, 5, 6] [0, 1, 2, 5, 6, 3, 4] rfl rfl (by decide) (by decide) hk1 hFc hP1 hD1 rfl rfl (by decide)
    generalize H1 = H at hP hS ⊢
    exact W.lret (v := qNo) hx hb hr (fun t ht hW => ⟨⟨qNo, ((gh, nh), (gr, nr), (gk, nk), fi, me), rfl, (by simp only [qServe, if_pos hn0]), fh, f_13, fk, ha1, hg_13, ha3, by rw [ht]; exact hP, va_K.moved hW.alike hK, hD⟩, hS.F ht⟩) hS.2.2 dX1_serve_41
  · refine lv_iload_n hx hb dX1_serve_0 rfl (lv_at hl 1 rfl) ?_
    refine lv_if_eq (tgt := 8) hx hb dX1_serve_1 (by decide) (fun c_0 => absurd c_0 (show ¬ p0 = (0 : Int32) from hz)) (fun c_14 => ?_)
    refine lv_iconst (v := nI 0) hx hb dX1_serve_4 (by decide) ?_
    refine lv_goto (tgt := 17) hx hb dX1_serve_5 (by decide) ?_
    refine lv_istore_n (lv' := [(3, .int (nI 0)), (0, .ref x0), (1, .int p0), (2, .int p1)]) hx hb dX1_serve_17 rfl hl (by decide) rfl (fun ls hl => ?_)
    refine lv_iload_n hx hb dX1_serve_18 rfl (lv_at hl 3 rfl) ?_
    refine lv_if_eq (tgt := 33) hx hb dX1_serve_19 (by decide) (fun c_15 => ?_) (fun c_0 => absurd (show p1 = (0 : Int32) from hy) c_0)
    refine lv_aload_n hx hb dX1_serve_33 rfl (lv_at hl 1 rfl) ?_
    refine va_get (D := (dC, dI)) (ci := 1) (v := .ref a2) (C := RX1) (T := TX1) (N := 5) hx hb hts inX1_serve_X1 hown hK hP 0 rfl rfl 1 (by decide) (hts (.fieldLink RX1 16 "QueueHall" "ringRow" "LQueueHall$Row;") (List.mem_of_getElem? (i := 1) (by decide +kernel))) (fun _ h9 => h9) rfl dX1_serve_34 ?_
    refine lv_iload_n hx hb dX1_serve_37 rfl (lv_at hl 0 rfl) ?_
    have hPc := hP.sub (ws' := [(a2, .inr (0, [.ref b2, .int (nI nr)])), (b2, .inl (cA, 2100, .inl fr))]) [3, 4] rfl
    have hKc := hK.sub (tys' := [(cA, .int)]) [0] rfl
    have hDc := hD.sub (ws' := [(a2, .inr (0, [.ref b2, .int (nI nr)])), (b2, .inl (cA, 2100, .inl fr))]) [3, 4] (by decide) rfl
    have hFc := va_free (wc := [(a2, .inr (0, [.ref b2, .int (nI nr)])), (b2, .inl (cA, 2100, .inl fr))]) hD hS hA [3, 4] rfl
    refine va_calll (va_runVN (As := [.int (nI 0)]) (rest := []) ⟨hx, hb, hml, hown, hts⟩ (c_Row_take l dC dI s.heap.size a2 b2 nr cA fr gr (nI 0) (by omega) ha2) ⟨va_cnB 1 hts gX1_serve_X0_take rfl rfl rfl (qN_take hN) (hts (.initialized RX0) (List.mem_of_getElem? (i := 4) (by decide +kernel))) (by decide +kernel) ⟨Nat.le_of_ble_eq_true rfl, Nat.le_of_ble_eq_true rfl⟩, (hts (.instanceMethod yX0_take) (List.mem_of_getElem? (i := 13) (by decide +kernel))), (hts (.selects RX0 yX0_take yX0_take) (List.mem_of_getElem? (i := 14) (by decide +kernel)))⟩ ⟨q_blW, va_recv hKc hPc (ci := 0) (q0 := 0) rfl rfl, fun U hU hW => ⟨rfl, by rw [hU], by rw [hU]; exact hPc, va_K.moved hW.alike hKc, hDc.weaken (fun _ _ _ _ => trivial)⟩⟩ rfl rfl hl.1 rfl (lv_room (Nat.le_of_ble_eq_true rfl)) dX1_serve_38 ⟨Nat.le_of_ble_eq_true rfl, Nat.le_of_ble_eq_true rfl⟩) hS (fun q _ h => hFc q h) hFc (fun r_16 u_16 t_16 H1 locs ht hvm hw hB hz1 hk1 hS => ?_)
    have hw := hw.trans (qTake_i (k := 0) (by omega) (by omega))
    obtain ⟨rfl, rfl⟩ := Prod.mk.inj hw
    obtain ⟨f_16, hg_16, hP1, hK1, hD1⟩ := hB
    rw [ht] at hP1
    obtain ⟨hP, hD⟩ := q_join (wr := [(x0, .inr (1, [.ref a1, .ref a2, .ref a3, .int fi, .int me])), (a1, .inr (0, [.ref b1, .int (nI nh)])), (b1, .inl (cA, 2100, .inl fh)), (a3, .inr (0, [.ref b3, .int (nI nk)])), (b3, .inl (cA, 2100, .inl fk))]) (w1 := [(a2, .inr (0, [.ref b2, .int (nI (nr - 1))])), (b2, .inl (cA, 2100, .inl f_16))]) (wz := [(x0, .inr (1, [.ref a1, .ref a2, .ref a3, .int fi, .int me])), (a1, .inr (0, [.ref b1, .int (nI nh)])), (b1, .inl (cA, 2100, .inl fh)), (a2, .inr (0, [.ref b2, .int (nI (nr - 1))])), (b2, .inl (cA, 2100, .inl f_16)), (a3, .inr (0, [.ref b3, .int (nI nk)])), (b3, .inl (cA, 2100, .inl fk))]) hP hD [3, 4] [0, 1, 2, 5, 6] [0, 1, 2, 5, 6, 3, 4] rfl rfl (by decide) (by decide) hk1 hFc hP1 hD1 rfl rfl (by decide)
    generalize H1 = H at hP hS ⊢
    exact W.lret (v := (gr 0).toInt64) hx hb hr (fun t ht hW => ⟨⟨(gr 0).toInt64, ((gh, nh), (qDel gr 0, nr - 1), (gk, nk), fi, me), rfl, (by simp only [qServe, if_neg (show ¬ nr = 0 by omega), if_pos hy, if_neg hz]), fh, f_16, fk, ha1, hg_16, ha3, by rw [ht]; exact hP, va_K.moved hW.alike hK, hD⟩, hS.F ht⟩) hS.2.2 dX1_serve_41
  · have h00 := q_hp00 hn0
    refine lv_iload_n hx hb dX1_serve_0 rfl (lv_at hl 1 rfl) ?_
    refine lv_if_eq (tgt := 8) hx hb dX1_serve_1 (by decide) (fun c_0 => absurd c_0 (show ¬ p0 = (0 : Int32) from hz)) (fun c_17 => ?_)
    refine lv_iconst (v := nI 0) hx hb dX1_serve_4 (by decide) ?_
    refine lv_goto (tgt := 17) hx hb dX1_serve_5 (by decide) ?_
    refine lv_istore_n (lv' := [(3, .int (nI 0)), (0, .ref x0), (1, .int p0), (2, .int p1)]) hx hb dX1_serve_17 rfl hl (by decide) rfl (fun ls hl => ?_)
    refine lv_iload_n hx hb dX1_serve_18 rfl (lv_at hl 3 rfl) ?_
    refine lv_if_eq (tgt := 33) hx hb dX1_serve_19 (by decide) (fun c_0 => absurd c_0 (show ¬ p1 = (0 : Int32) from hy)) (fun c_18 => ?_)
    refine lv_aload_n hx hb dX1_serve_22 rfl (lv_at hl 1 rfl) ?_
    refine va_get (D := (dC, dI)) (ci := 1) (v := .ref a2) (C := RX1) (T := TX1) (N := 5) hx hb hts inX1_serve_X1 hown hK hP 0 rfl rfl 1 (by decide) (hts (.fieldLink RX1 16 "QueueHall" "ringRow" "LQueueHall$Row;") (List.mem_of_getElem? (i := 1) (by decide +kernel))) (fun _ h9 => h9) rfl dX1_serve_23 ?_
    refine lv_iload_n hx hb dX1_serve_26 rfl (lv_at hl 0 rfl) ?_
    have hPc := hP.sub (ws' := [(a2, .inr (0, [.ref b2, .int (nI nr)])), (b2, .inl (cA, 2100, .inl fr))]) [3, 4] rfl
    have hKc := hK.sub (tys' := [(cA, .int)]) [0] rfl
    refine q_cslE (va_runVN (As := [.int (nI 0)]) (rest := []) ⟨hx, hb, hml, hown, hts⟩ (c_Row_at l dC dI a2 b2 nr cA fr gr (nI 0) (by omega) ha2) ⟨va_cnB 1 hts gX1_serve_X0_at rfl rfl rfl (qN_at hN) (hts (.initialized RX0) (List.mem_of_getElem? (i := 4) (by decide +kernel))) (by decide +kernel) ⟨Nat.le_of_ble_eq_true rfl, Nat.le_of_ble_eq_true rfl⟩, (hts (.instanceMethod yX0_at) (List.mem_of_getElem? (i := 2) (by decide +kernel))), (hts (.selects RX0 yX0_at yX0_at) (List.mem_of_getElem? (i := 3) (by decide +kernel)))⟩ ⟨q_blR, va_recv hKc hPc (ci := 0) (q0 := 0) rfl rfl, fun U hU hW => ⟨rfl, by rw [hU]; exact hPc, va_K.moved hW.alike hKc⟩⟩ rfl rfl hl.1 rfl (lv_room (Nat.le_of_ble_eq_true rfl)) dX1_serve_27 ⟨Nat.le_of_ble_eq_true rfl, Nat.le_of_ble_eq_true rfl⟩) ?_
    refine q_topl (y := qNo) (qAt_o h00) ?_
    refine lv_goto (tgt := 41) hx hb dX1_serve_30 (by decide) ?_
    exact W.lret (v := qNo) hx hb hr (fun t ht hW => ⟨⟨qNo, ((gh, nh), (gr, nr), (gk, nk), fi, me), rfl, (by simp only [qServe, if_pos hn0]), fh, fr, fk, ha1, ha2, ha3, by rw [ht]; exact hP, va_K.moved hW.alike hK, hD⟩, hS.F ht⟩) hS.2.2 dX1_serve_41
  · refine lv_iload_n hx hb dX1_serve_0 rfl (lv_at hl 1 rfl) ?_
    refine lv_if_eq (tgt := 8) hx hb dX1_serve_1 (by decide) (fun c_0 => absurd c_0 (show ¬ p0 = (0 : Int32) from hz)) (fun c_19 => ?_)
    refine lv_iconst (v := nI 0) hx hb dX1_serve_4 (by decide) ?_
    refine lv_goto (tgt := 17) hx hb dX1_serve_5 (by decide) ?_
    refine lv_istore_n (lv' := [(3, .int (nI 0)), (0, .ref x0), (1, .int p0), (2, .int p1)]) hx hb dX1_serve_17 rfl hl (by decide) rfl (fun ls hl => ?_)
    refine lv_iload_n hx hb dX1_serve_18 rfl (lv_at hl 3 rfl) ?_
    refine lv_if_eq (tgt := 33) hx hb dX1_serve_19 (by decide) (fun c_0 => absurd c_0 (show ¬ p1 = (0 : Int32) from hy)) (fun c_20 => ?_)
    refine lv_aload_n hx hb dX1_serve_22 rfl (lv_at hl 1 rfl) ?_
    refine va_get (D := (dC, dI)) (ci := 1) (v := .ref a2) (C := RX1) (T := TX1) (N := 5) hx hb hts inX1_serve_X1 hown hK hP 0 rfl rfl 1 (by decide) (hts (.fieldLink RX1 16 "QueueHall" "ringRow" "LQueueHall$Row;") (List.mem_of_getElem? (i := 1) (by decide +kernel))) (fun _ h9 => h9) rfl dX1_serve_23 ?_
    refine lv_iload_n hx hb dX1_serve_26 rfl (lv_at hl 0 rfl) ?_
    have hPc := hP.sub (ws' := [(a2, .inr (0, [.ref b2, .int (nI nr)])), (b2, .inl (cA, 2100, .inl fr))]) [3, 4] rfl
    have hKc := hK.sub (tys' := [(cA, .int)]) [0] rfl
    refine q_cslE (va_runVN (As := [.int (nI 0)]) (rest := []) ⟨hx, hb, hml, hown, hts⟩ (c_Row_at l dC dI a2 b2 nr cA fr gr (nI 0) (by omega) ha2) ⟨va_cnB 1 hts gX1_serve_X0_at rfl rfl rfl (qN_at hN) (hts (.initialized RX0) (List.mem_of_getElem? (i := 4) (by decide +kernel))) (by decide +kernel) ⟨Nat.le_of_ble_eq_true rfl, Nat.le_of_ble_eq_true rfl⟩, (hts (.instanceMethod yX0_at) (List.mem_of_getElem? (i := 2) (by decide +kernel))), (hts (.selects RX0 yX0_at yX0_at) (List.mem_of_getElem? (i := 3) (by decide +kernel)))⟩ ⟨q_blR, va_recv hKc hPc (ci := 0) (q0 := 0) rfl rfl, fun U hU hW => ⟨rfl, by rw [hU]; exact hPc, va_K.moved hW.alike hKc⟩⟩ rfl rfl hl.1 rfl (lv_room (Nat.le_of_ble_eq_true rfl)) dX1_serve_27 ⟨Nat.le_of_ble_eq_true rfl, Nat.le_of_ble_eq_true rfl⟩) ?_
    refine q_topl (y := (gr 0).toInt64) (qAt_i (by omega) (by omega)) ?_
    refine lv_goto (tgt := 41) hx hb dX1_serve_30 (by decide) ?_
    exact W.lret (v := (gr 0).toInt64) hx hb hr (fun t ht hW => ⟨⟨(gr 0).toInt64, ((gh, nh), (gr, nr), (gk, nk), fi, me), rfl, (by simp only [qServe, if_neg (show ¬ nr = 0 by omega), if_neg hy, if_neg hz]), fh, fr, fk, ha1, ha2, ha3, by rw [ht]; exact hP, va_K.moved hW.alike hK, hD⟩, hS.F ht⟩) hS.2.2 dX1_serve_41

set_option maxHeartbeats 4000000 in
set_option maxRecDepth 100000 in
theorem c_Hall_drop (l : Launch) (dC : Nat → ClassId) (dI : Nat → Nat → Nat) (sz : Nat) (x0 a1 b1 a2 b2 a3 b3 nh nr nk : Nat) (cA : ClassId) (fh gh fr gr fk gk : Nat → Int32) (fi me : Int32) (p0 p1 : Int32) (hn : nh + nr + nk < 2000) (ha1 : qAg nh fh gh) (ha2 : qAg nr fr gr) (ha3 : qAg nk fk gk) (hF : qFok fi me nk) : Met l yX1_drop wsX1_drop ({ frames := 2, cells := 0, slots := 0, locals := 58 }) (va_Pc [.ref x0, .int p0, .int p1] (fun U => U.heap.size = sz ∧ va_P (dC, dI) vwCl [(x0, .inr (1, [.ref a1, .ref a2, .ref a3, .int fi, .int me])), (a1, .inr (0, [.ref b1, .int (nI nh)])), (b1, .inl (cA, 2100, .inl fh)), (a2, .inr (0, [.ref b2, .int (nI nr)])), (b2, .inl (cA, 2100, .inl fr)), (a3, .inr (0, [.ref b3, .int (nI nk)])), (b3, .inl (cA, 2100, .inl fk))] U.heap ∧ va_K (dC, dI) vwCl [(cA, .int)] U ∧ va_D (fun _ => True) [(x0, .inr (1, [.ref a1, .ref a2, .ref a3, .int fi, .int me])), (a1, .inr (0, [.ref b1, .int (nI nh)])), (b1, .inl (cA, 2100, .inl fh)), (a2, .inr (0, [.ref b2, .int (nI nr)])), (b2, .inl (cA, 2100, .inl fr)), (a3, .inr (0, [.ref b3, .int (nI nk)])), (b3, .inl (cA, 2100, .inl fk))] ∧ qNest U)) (va_Qi (fun (r : Int32) (u : qS) => (r, u) = qDrop p0 p1 ((gh, nh), (gr, nr), (gk, nk), fi, me)) (at_H dC dI (va_A [(x0, .inr (1, [.ref a1, .ref a2, .ref a3, .int fi, .int me])), (a1, .inr (0, [.ref b1, .int (nI nh)])), (b1, .inl (cA, 2100, .inl fh)), (a2, .inr (0, [.ref b2, .int (nI nr)])), (b2, .inl (cA, 2100, .inl fr)), (a3, .inr (0, [.ref b3, .int (nI nk)])), (b3, .inl (cA, 2100, .inl fk))] sz) x0 a1 b1 a2 b2 a3 b3 cA) (va_A [(x0, .inr (1, [.ref a1, .ref a2, .ref a3, .int fi, .int me])), (a1, .inr (0, [.ref b1, .int (nI nh)])), (b1, .inl (cA, 2100, .inl fh)), (a2, .inr (0, [.ref b2, .int (nI nr)])), (b2, .inl (cA, 2100, .inl fr)), (a3, .inr (0, [.ref b3, .int (nI nk)])), (b3, .inl (cA, 2100, .inl fk))] sz)) 0 0 (va_A [(x0, .inr (1, [.ref a1, .ref a2, .ref a3, .int fi, .int me])), (a1, .inr (0, [.ref b1, .int (nI nh)])), (b1, .inl (cA, 2100, .inl fh)), (a2, .inr (0, [.ref b2, .int (nI nr)])), (b2, .inl (cA, 2100, .inl fr)), (a3, .inr (0, [.ref b3, .int (nI nk)])), (b3, .inl (cA, 2100, .inl fk))] sz) := by
  refine Met.ofW (cc := cX1_drop) (maxL := 4) (ret := (some .boolean)) (by decide +kernel) rfl ?_
  intro p e s m args below meth c s₁ B hml hv
  obtain ⟨rfl, hsz, hP, hK, hD0, hN⟩ := hv
  have hx := B.exec
  have hb := B.bytes
  have hr := B.returns
  have hts := atoms_spec (ws := wsX1_drop) B.pre
  have hown : s.vm.findClass RX1 = some m.cls := findClass_of_methodNamed B.named
  have hlocks := B.notSynchronized
  subst hsz
  have hD := hD0.self (sz := s.heap.size)
  generalize hAe : va_A [(x0, .inr (1, [.ref a1, .ref a2, .ref a3, .int fi, .int me])), (a1, .inr (0, [.ref b1, .int (nI nh)])), (b1, .inl (cA, 2100, .inl fh)), (a2, .inr (0, [.ref b2, .int (nI nr)])), (b2, .inl (cA, 2100, .inl fr)), (a3, .inr (0, [.ref b3, .int (nI nk)])), (b3, .inl (cA, 2100, .inl fk))] s.heap.size = A at hD ⊢
  have hA : ∀ q : Nat, s.heap.size ≤ q → A q := fun q h => by rw [← hAe]; exact Or.inr h
  have hS : va_S A s.heap s.heap [] := va_S.rf
  have hl := lv_entry ([.ref x0, .int p0, .int p1]) (n := 4) (Nat.le_of_ble_eq_true rfl)
  rw [lg_entry_eq]
  generalize (lg_sl ([.ref x0, .int p0, .int p1]) ++ List.replicate (4 - (lg_sl ([.ref x0, .int p0, .int p1])).length) Slot.unset).toArray = ls at hl ⊢
  have hl : lv_has ls 4 [(0, .ref x0), (1, .int p0), (2, .int p1)] := hl
  rcases qPl_r (g := gr) (v := p0) (z := if p1 = 0 then 1 else 0) nr with hq | ⟨k, hk, hq, hv⟩ <;> by_cases hz : p1 = 0
  · rw [if_pos hz] at hq
    refine lv_iload_n hx hb dX1_drop_0 rfl (lv_at hl 2 rfl) ?_
    refine lv_if_eq (tgt := 15) hx hb dX1_drop_1 (by decide) (fun c_1 => ?_) (fun c_0 => absurd (show p1 = (0 : Int32) from hz) c_0)
    refine lv_aload_n hx hb dX1_drop_15 rfl (lv_at hl 0 rfl) ?_
    refine va_get (D := (dC, dI)) (ci := 1) (v := .ref a2) (C := RX1) (T := TX1) (N := 5) hx hb hts inX1_drop_X1 hown hK hP 0 rfl rfl 1 (by decide) (hts (.fieldLink RX1 16 "QueueHall" "ringRow" "LQueueHall$Row;") (List.mem_of_getElem? (i := 1) (by decide +kernel))) (fun _ h9 => h9) rfl dX1_drop_16 ?_
    refine lv_iload_n hx hb dX1_drop_19 rfl (lv_at hl 1 rfl) ?_
    have hPc := hP.sub (ws' := [(a2, .inr (0, [.ref b2, .int (nI nr)])), (b2, .inl (cA, 2100, .inl fr))]) [3, 4] rfl
    have hKc := hK.sub (tys' := [(cA, .int)]) [0] rfl
    refine q_csiE (va_runVN (As := [.int p0]) (rest := []) ⟨hx, hb, hml, hown, hts⟩ (c_Row_lastPlace l dC dI a2 b2 nr cA fr gr p0 (by omega) ha2) ⟨va_cnB 1 hts gX1_drop_X0_lastPlace rfl rfl rfl (qN_lastPlace hN) (hts (.initialized RX0) (List.mem_of_getElem? (i := 4) (by decide +kernel))) (by decide +kernel) ⟨Nat.le_of_ble_eq_true rfl, Nat.le_of_ble_eq_true rfl⟩, (hts (.instanceMethod yX0_lastPlace) (List.mem_of_getElem? (i := 8) (by decide +kernel))), (hts (.selects RX0 yX0_lastPlace yX0_lastPlace) (List.mem_of_getElem? (i := 9) (by decide +kernel)))⟩ ⟨q_blR, va_recv hKc hPc (ci := 0) (q0 := 0) rfl rfl, fun U hU hW => ⟨rfl, by rw [hU]; exact hPc, va_K.moved hW.alike hKc⟩⟩ rfl rfl hl.1 rfl (lv_room (Nat.le_of_ble_eq_true rfl)) dX1_drop_20 ⟨Nat.le_of_ble_eq_true rfl, Nat.le_of_ble_eq_true rfl⟩) ?_
    refine q_top (y := -1) hq ?_
    refine lv_istore_n (lv' := [(3, .int (-1)), (0, .ref x0), (1, .int p0), (2, .int p1)]) hx hb dX1_drop_23 rfl hl (by decide) rfl (fun ls hl => ?_)
    refine lv_aload_n hx hb dX1_drop_24 rfl (lv_at hl 1 rfl) ?_
    refine va_get (D := (dC, dI)) (ci := 1) (v := .ref a2) (C := RX1) (T := TX1) (N := 5) hx hb hts inX1_drop_X1 hown hK hP 0 rfl rfl 1 (by decide) (hts (.fieldLink RX1 16 "QueueHall" "ringRow" "LQueueHall$Row;") (List.mem_of_getElem? (i := 1) (by decide +kernel))) (fun _ h9 => h9) rfl dX1_drop_25 ?_
    refine lv_iload_n hx hb dX1_drop_28 rfl (lv_at hl 0 rfl) ?_
    have hPc := hP.sub (ws' := [(a2, .inr (0, [.ref b2, .int (nI nr)])), (b2, .inl (cA, 2100, .inl fr))]) [3, 4] rfl
    have hKc := hK.sub (tys' := [(cA, .int)]) [0] rfl
    have hDc := hD.sub (ws' := [(a2, .inr (0, [.ref b2, .int (nI nr)])), (b2, .inl (cA, 2100, .inl fr))]) [3, 4] (by decide) rfl
    have hFc := va_free (wc := [(a2, .inr (0, [.ref b2, .int (nI nr)])), (b2, .inl (cA, 2100, .inl fr))]) hD hS hA [3, 4] rfl
    refine va_calll (va_runVN (As := [.int (-1)]) (rest := []) ⟨hx, hb, hml, hown, hts⟩ (c_Row_take l dC dI s.heap.size a2 b2 nr cA fr gr (-1) (by omega) ha2) ⟨va_cnB 1 hts gX1_drop_X0_take rfl rfl rfl (qN_take hN) (hts (.initialized RX0) (List.mem_of_getElem? (i := 4) (by decide +kernel))) (by decide +kernel) ⟨Nat.le_of_ble_eq_true rfl, Nat.le_of_ble_eq_true rfl⟩, (hts (.instanceMethod yX0_take) (List.mem_of_getElem? (i := 11) (by decide +kernel))), (hts (.selects RX0 yX0_take yX0_take) (List.mem_of_getElem? (i := 12) (by decide +kernel)))⟩ ⟨q_blW, va_recv hKc hPc (ci := 0) (q0 := 0) rfl rfl, fun U hU hW => ⟨rfl, by rw [hU], by rw [hU]; exact hPc, va_K.moved hW.alike hKc, hDc.weaken (fun _ _ _ _ => trivial)⟩⟩ rfl rfl hl.1 rfl (lv_room (Nat.le_of_ble_eq_true rfl)) dX1_drop_29 ⟨Nat.le_of_ble_eq_true rfl, Nat.le_of_ble_eq_true rfl⟩) hS (fun q _ h => hFc q h) hFc (fun r_2 u_2 t_2 H1 locs ht hvm hw hB hz1 hk1 hS => ?_)
    have hw := hw.trans (qTake_o (qHp_m1))
    obtain ⟨rfl, rfl⟩ := Prod.mk.inj hw
    obtain ⟨f_2, hg_2, hP1, hK1, hD1⟩ := hB
    rw [ht] at hP1
    obtain ⟨hP, hD⟩ := q_join (wr := [(x0, .inr (1, [.ref a1, .ref a2, .ref a3, .int fi, .int me])), (a1, .inr (0, [.ref b1, .int (nI nh)])), (b1, .inl (cA, 2100, .inl fh)), (a3, .inr (0, [.ref b3, .int (nI nk)])), (b3, .inl (cA, 2100, .inl fk))]) (w1 := [(a2, .inr (0, [.ref b2, .int (nI nr)])), (b2, .inl (cA, 2100, .inl f_2))]) (wz := [(x0, .inr (1, [.ref a1, .ref a2, .ref a3, .int fi, .int me])), (a1, .inr (0, [.ref b1, .int (nI nh)])), (b1, .inl (cA, 2100, .inl fh)), (a2, .inr (0, [.ref b2, .int (nI nr)])), (b2, .inl (cA, 2100, .inl f_2)), (a3, .inr (0, [.ref b3, .int (nI nk)])), (b3, .inl (cA, 2100, .inl fk))]) hP hD [3, 4] [0, 1, 2, 5, 6] [0, 1, 2, 5, 6, 3, 4] rfl rfl (by decide) (by decide) hk1 hFc hP1 hD1 rfl rfl (by decide)
    generalize H1 = H at hP hS ⊢
    refine lv_ldc2 (v := qNo) hx hb hown (hts (.constantLong RX1 50 (1099511627776)) (List.mem_of_getElem? (i := 23) (by decide +kernel))) dX1_drop_32 ?_
    refine W.lcmp hx hb dX1_drop_35 ?_
    refine lv_if_eq (tgt := 43) hx hb dX1_drop_36 (by decide) (fun _ => ?_) (fun c_0 => absurd ((lg_cmp_eq _ _).mpr rfl) c_0)
    refine lv_iconst (v := 0) hx hb dX1_drop_43 (by decide) ?_
    exact W.zret (v := 0) hx hb hr rfl (fun t ht hW => ⟨⟨0, ((gh, nh), (gr, nr), (gk, nk), fi, me), rfl, (by simp only [qDrop, if_pos hz, hq, if_pos (show (-1 : Int32) < 0 by decide)]), fh, f_2, fk, ha1, hg_2, ha3, by rw [ht]; exact hP, va_K.moved hW.alike hK, hD⟩, hS.F ht⟩) hS.2.2 dX1_drop_44
  · rw [if_neg hz] at hq
    refine lv_iload_n hx hb dX1_drop_0 rfl (lv_at hl 2 rfl) ?_
    refine lv_if_eq (tgt := 15) hx hb dX1_drop_1 (by decide) (fun c_0 => absurd c_0 (show ¬ p1 = (0 : Int32) from hz)) (fun c_3 => ?_)
    refine lv_aload_n hx hb dX1_drop_4 rfl (lv_at hl 0 rfl) ?_
    refine va_get (D := (dC, dI)) (ci := 1) (v := .ref a2) (C := RX1) (T := TX1) (N := 5) hx hb hts inX1_drop_X1 hown hK hP 0 rfl rfl 1 (by decide) (hts (.fieldLink RX1 16 "QueueHall" "ringRow" "LQueueHall$Row;") (List.mem_of_getElem? (i := 1) (by decide +kernel))) (fun _ h9 => h9) rfl dX1_drop_5 ?_
    refine lv_iload_n hx hb dX1_drop_8 rfl (lv_at hl 1 rfl) ?_
    have hPc := hP.sub (ws' := [(a2, .inr (0, [.ref b2, .int (nI nr)])), (b2, .inl (cA, 2100, .inl fr))]) [3, 4] rfl
    have hKc := hK.sub (tys' := [(cA, .int)]) [0] rfl
    refine q_csiE (va_runVN (As := [.int p0]) (rest := []) ⟨hx, hb, hml, hown, hts⟩ (c_Row_firstPlace l dC dI a2 b2 nr cA fr gr p0 (by omega) ha2) ⟨va_cnB 1 hts gX1_drop_X0_firstPlace rfl rfl rfl (qN_firstPlace hN) (hts (.initialized RX0) (List.mem_of_getElem? (i := 4) (by decide +kernel))) (by decide +kernel) ⟨Nat.le_of_ble_eq_true rfl, Nat.le_of_ble_eq_true rfl⟩, (hts (.instanceMethod yX0_firstPlace) (List.mem_of_getElem? (i := 2) (by decide +kernel))), (hts (.selects RX0 yX0_firstPlace yX0_firstPlace) (List.mem_of_getElem? (i := 3) (by decide +kernel)))⟩ ⟨q_blR, va_recv hKc hPc (ci := 0) (q0 := 0) rfl rfl, fun U hU hW => ⟨rfl, by rw [hU]; exact hPc, va_K.moved hW.alike hKc⟩⟩ rfl rfl hl.1 rfl (lv_room (Nat.le_of_ble_eq_true rfl)) dX1_drop_9 ⟨Nat.le_of_ble_eq_true rfl, Nat.le_of_ble_eq_true rfl⟩) ?_
    refine q_top (y := -1) hq ?_
    refine lv_goto (tgt := 23) hx hb dX1_drop_12 (by decide) ?_
    refine lv_istore_n (lv' := [(3, .int (-1)), (0, .ref x0), (1, .int p0), (2, .int p1)]) hx hb dX1_drop_23 rfl hl (by decide) rfl (fun ls hl => ?_)
    refine lv_aload_n hx hb dX1_drop_24 rfl (lv_at hl 1 rfl) ?_
    refine va_get (D := (dC, dI)) (ci := 1) (v := .ref a2) (C := RX1) (T := TX1) (N := 5) hx hb hts inX1_drop_X1 hown hK hP 0 rfl rfl 1 (by decide) (hts (.fieldLink RX1 16 "QueueHall" "ringRow" "LQueueHall$Row;") (List.mem_of_getElem? (i := 1) (by decide +kernel))) (fun _ h9 => h9) rfl dX1_drop_25 ?_
    refine lv_iload_n hx hb dX1_drop_28 rfl (lv_at hl 0 rfl) ?_
    have hPc := hP.sub (ws' := [(a2, .inr (0, [.ref b2, .int (nI nr)])), (b2, .inl (cA, 2100, .inl fr))]) [3, 4] rfl
    have hKc := hK.sub (tys' := [(cA, .int)]) [0] rfl
    have hDc := hD.sub (ws' := [(a2, .inr (0, [.ref b2, .int (nI nr)])), (b2, .inl (cA, 2100, .inl fr))]) [3, 4] (by decide) rfl
    have hFc := va_free (wc := [(a2, .inr (0, [.ref b2, .int (nI nr)])), (b2, .inl (cA, 2100, .inl fr))]) hD hS hA [3, 4] rfl
    refine va_calll (va_runVN (As := [.int (-1)]) (rest := []) ⟨hx, hb, hml, hown, hts⟩ (c_Row_take l dC dI s.heap.size a2 b2 nr cA fr gr (-1) (by omega) ha2) ⟨va_cnB 1 hts gX1_drop_X0_take rfl rfl rfl (qN_take hN) (hts (.initialized RX0) (List.mem_of_getElem? (i := 4) (by decide +kernel))) (by decide +kernel) ⟨Nat.le_of_ble_eq_true rfl, Nat.le_of_ble_eq_true rfl⟩, (hts (.instanceMethod yX0_take) (List.mem_of_getElem? (i := 11) (by decide +kernel))), (hts (.selects RX0 yX0_take yX0_take) (List.mem_of_getElem? (i := 12) (by decide +kernel)))⟩ ⟨q_blW, va_recv hKc hPc (ci := 0) (q0 := 0) rfl rfl, fun U hU hW => ⟨rfl, by rw [hU], by rw [hU]; exact hPc, va_K.moved hW.alike hKc, hDc.weaken (fun _ _ _ _ => trivial)⟩⟩ rfl rfl hl.1 rfl (lv_room (Nat.le_of_ble_eq_true rfl)) dX1_drop_29 ⟨Nat.le_of_ble_eq_true rfl, Nat.le_of_ble_eq_true rfl⟩) hS (fun q _ h => hFc q h) hFc (fun r_4 u_4 t_4 H1 locs ht hvm hw hB hz1 hk1 hS => ?_)
    have hw := hw.trans (qTake_o (qHp_m1))
    obtain ⟨rfl, rfl⟩ := Prod.mk.inj hw
    obtain ⟨f_4, hg_4, hP1, hK1, hD1⟩ := hB
    rw [ht] at hP1
    obtain ⟨hP, hD⟩ := q_join (wr := [(x0, .inr (1, [.ref a1, .ref a2, .ref a3, .int fi, .int me])), (a1, .inr (0, [.ref b1, .int (nI nh)])), (b1, .inl (cA, 2100, .inl fh)), (a3, .inr (0, [.ref b3, .int (nI nk)])), (b3, .inl (cA, 2100, .inl fk))]) (w1 := [(a2, .inr (0, [.ref b2, .int (nI nr)])), (b2, .inl (cA, 2100, .inl f_4))]) (wz := [(x0, .inr (1, [.ref a1, .ref a2, .ref a3, .int fi, .int me])), (a1, .inr (0, [.ref b1, .int (nI nh)])), (b1, .inl (cA, 2100, .inl fh)), (a2, .inr (0, [.ref b2, .int (nI nr)])), (b2, .inl (cA, 2100, .inl f_4)), (a3, .inr (0, [.ref b3, .int (nI nk)])), (b3, .inl (cA, 2100, .inl fk))]) hP hD [3, 4] [0, 1, 2, 5, 6] [0, 1, 2, 5, 6, 3, 4] rfl rfl (by decide) (by decide) hk1 hFc hP1 hD1 rfl rfl (by decide)
    generalize H1 = H at hP hS ⊢
    refine lv_ldc2 (v := qNo) hx hb hown (hts (.constantLong RX1 50 (1099511627776)) (List.mem_of_getElem? (i := 23) (by decide +kernel))) dX1_drop_32 ?_
    refine W.lcmp hx hb dX1_drop_35 ?_
    refine lv_if_eq (tgt := 43) hx hb dX1_drop_36 (by decide) (fun _ => ?_) (fun c_0 => absurd ((lg_cmp_eq _ _).mpr rfl) c_0)
    refine lv_iconst (v := 0) hx hb dX1_drop_43 (by decide) ?_
    exact W.zret (v := 0) hx hb hr rfl (fun t ht hW => ⟨⟨0, ((gh, nh), (gr, nr), (gk, nk), fi, me), rfl, (by simp only [qDrop, if_neg hz, hq, if_pos (show (-1 : Int32) < 0 by decide)]), fh, f_4, fk, ha1, hg_4, ha3, by rw [ht]; exact hP, va_K.moved hW.alike hK, hD⟩, hS.F ht⟩) hS.2.2 dX1_drop_44
  · rw [if_pos hz] at hq
    refine lv_iload_n hx hb dX1_drop_0 rfl (lv_at hl 2 rfl) ?_
    refine lv_if_eq (tgt := 15) hx hb dX1_drop_1 (by decide) (fun c_5 => ?_) (fun c_0 => absurd (show p1 = (0 : Int32) from hz) c_0)
    refine lv_aload_n hx hb dX1_drop_15 rfl (lv_at hl 0 rfl) ?_
    refine va_get (D := (dC, dI)) (ci := 1) (v := .ref a2) (C := RX1) (T := TX1) (N := 5) hx hb hts inX1_drop_X1 hown hK hP 0 rfl rfl 1 (by decide) (hts (.fieldLink RX1 16 "QueueHall" "ringRow" "LQueueHall$Row;") (List.mem_of_getElem? (i := 1) (by decide +kernel))) (fun _ h9 => h9) rfl dX1_drop_16 ?_
    refine lv_iload_n hx hb dX1_drop_19 rfl (lv_at hl 1 rfl) ?_
    have hPc := hP.sub (ws' := [(a2, .inr (0, [.ref b2, .int (nI nr)])), (b2, .inl (cA, 2100, .inl fr))]) [3, 4] rfl
    have hKc := hK.sub (tys' := [(cA, .int)]) [0] rfl
    refine q_csiE (va_runVN (As := [.int p0]) (rest := []) ⟨hx, hb, hml, hown, hts⟩ (c_Row_lastPlace l dC dI a2 b2 nr cA fr gr p0 (by omega) ha2) ⟨va_cnB 1 hts gX1_drop_X0_lastPlace rfl rfl rfl (qN_lastPlace hN) (hts (.initialized RX0) (List.mem_of_getElem? (i := 4) (by decide +kernel))) (by decide +kernel) ⟨Nat.le_of_ble_eq_true rfl, Nat.le_of_ble_eq_true rfl⟩, (hts (.instanceMethod yX0_lastPlace) (List.mem_of_getElem? (i := 8) (by decide +kernel))), (hts (.selects RX0 yX0_lastPlace yX0_lastPlace) (List.mem_of_getElem? (i := 9) (by decide +kernel)))⟩ ⟨q_blR, va_recv hKc hPc (ci := 0) (q0 := 0) rfl rfl, fun U hU hW => ⟨rfl, by rw [hU]; exact hPc, va_K.moved hW.alike hKc⟩⟩ rfl rfl hl.1 rfl (lv_room (Nat.le_of_ble_eq_true rfl)) dX1_drop_20 ⟨Nat.le_of_ble_eq_true rfl, Nat.le_of_ble_eq_true rfl⟩) ?_
    refine q_top (y := nI k) hq ?_
    refine lv_istore_n (lv' := [(3, .int (nI k)), (0, .ref x0), (1, .int p0), (2, .int p1)]) hx hb dX1_drop_23 rfl hl (by decide) rfl (fun ls hl => ?_)
    refine lv_aload_n hx hb dX1_drop_24 rfl (lv_at hl 1 rfl) ?_
    refine va_get (D := (dC, dI)) (ci := 1) (v := .ref a2) (C := RX1) (T := TX1) (N := 5) hx hb hts inX1_drop_X1 hown hK hP 0 rfl rfl 1 (by decide) (hts (.fieldLink RX1 16 "QueueHall" "ringRow" "LQueueHall$Row;") (List.mem_of_getElem? (i := 1) (by decide +kernel))) (fun _ h9 => h9) rfl dX1_drop_25 ?_
    refine lv_iload_n hx hb dX1_drop_28 rfl (lv_at hl 0 rfl) ?_
    have hPc := hP.sub (ws' := [(a2, .inr (0, [.ref b2, .int (nI nr)])), (b2, .inl (cA, 2100, .inl fr))]) [3, 4] rfl
    have hKc := hK.sub (tys' := [(cA, .int)]) [0] rfl
    have hDc := hD.sub (ws' := [(a2, .inr (0, [.ref b2, .int (nI nr)])), (b2, .inl (cA, 2100, .inl fr))]) [3, 4] (by decide) rfl
    have hFc := va_free (wc := [(a2, .inr (0, [.ref b2, .int (nI nr)])), (b2, .inl (cA, 2100, .inl fr))]) hD hS hA [3, 4] rfl
    refine va_calll (va_runVN (As := [.int (nI k)]) (rest := []) ⟨hx, hb, hml, hown, hts⟩ (c_Row_take l dC dI s.heap.size a2 b2 nr cA fr gr (nI k) (by omega) ha2) ⟨va_cnB 1 hts gX1_drop_X0_take rfl rfl rfl (qN_take hN) (hts (.initialized RX0) (List.mem_of_getElem? (i := 4) (by decide +kernel))) (by decide +kernel) ⟨Nat.le_of_ble_eq_true rfl, Nat.le_of_ble_eq_true rfl⟩, (hts (.instanceMethod yX0_take) (List.mem_of_getElem? (i := 11) (by decide +kernel))), (hts (.selects RX0 yX0_take yX0_take) (List.mem_of_getElem? (i := 12) (by decide +kernel)))⟩ ⟨q_blW, va_recv hKc hPc (ci := 0) (q0 := 0) rfl rfl, fun U hU hW => ⟨rfl, by rw [hU], by rw [hU]; exact hPc, va_K.moved hW.alike hKc, hDc.weaken (fun _ _ _ _ => trivial)⟩⟩ rfl rfl hl.1 rfl (lv_room (Nat.le_of_ble_eq_true rfl)) dX1_drop_29 ⟨Nat.le_of_ble_eq_true rfl, Nat.le_of_ble_eq_true rfl⟩) hS (fun q _ h => hFc q h) hFc (fun r_6 u_6 t_6 H1 locs ht hvm hw hB hz1 hk1 hS => ?_)
    have hw := hw.trans (qTake_i (k := k) (by omega) (by omega))
    obtain ⟨rfl, rfl⟩ := Prod.mk.inj hw
    obtain ⟨f_6, hg_6, hP1, hK1, hD1⟩ := hB
    rw [ht] at hP1
    obtain ⟨hP, hD⟩ := q_join (wr := [(x0, .inr (1, [.ref a1, .ref a2, .ref a3, .int fi, .int me])), (a1, .inr (0, [.ref b1, .int (nI nh)])), (b1, .inl (cA, 2100, .inl fh)), (a3, .inr (0, [.ref b3, .int (nI nk)])), (b3, .inl (cA, 2100, .inl fk))]) (w1 := [(a2, .inr (0, [.ref b2, .int (nI (nr - 1))])), (b2, .inl (cA, 2100, .inl f_6))]) (wz := [(x0, .inr (1, [.ref a1, .ref a2, .ref a3, .int fi, .int me])), (a1, .inr (0, [.ref b1, .int (nI nh)])), (b1, .inl (cA, 2100, .inl fh)), (a2, .inr (0, [.ref b2, .int (nI (nr - 1))])), (b2, .inl (cA, 2100, .inl f_6)), (a3, .inr (0, [.ref b3, .int (nI nk)])), (b3, .inl (cA, 2100, .inl fk))]) hP hD [3, 4] [0, 1, 2, 5, 6] [0, 1, 2, 5, 6, 3, 4] rfl rfl (by decide) (by decide) hk1 hFc hP1 hD1 rfl rfl (by decide)
    generalize H1 = H at hP hS ⊢
    refine lv_ldc2 (v := qNo) hx hb hown (hts (.constantLong RX1 50 (1099511627776)) (List.mem_of_getElem? (i := 23) (by decide +kernel))) dX1_drop_32 ?_
    refine W.lcmp hx hb dX1_drop_35 ?_
    refine lv_if_eq (tgt := 43) hx hb dX1_drop_36 (by decide) (fun c_0 => absurd c_0 (fun q => q_no _ ((lg_cmp_eq _ _).mp q))) (fun _ => ?_)
    refine lv_iconst (v := 1) hx hb dX1_drop_39 (by decide) ?_
    refine lv_goto (tgt := 44) hx hb dX1_drop_40 (by decide) ?_
    exact W.zret (v := 1) hx hb hr rfl (fun t ht hW => ⟨⟨1, ((gh, nh), (qDel gr k, nr - 1), (gk, nk), fi, me), rfl, (by simp only [qDrop, if_pos hz, hq, if_neg (nI_pos (show k < 2 ^ 31 by omega)), nI_clamp (show k < 2 ^ 31 by omega)]), fh, f_6, fk, ha1, hg_6, ha3, by rw [ht]; exact hP, va_K.moved hW.alike hK, hD⟩, hS.F ht⟩) hS.2.2 dX1_drop_44
  · rw [if_neg hz] at hq
    refine lv_iload_n hx hb dX1_drop_0 rfl (lv_at hl 2 rfl) ?_
    refine lv_if_eq (tgt := 15) hx hb dX1_drop_1 (by decide) (fun c_0 => absurd c_0 (show ¬ p1 = (0 : Int32) from hz)) (fun c_7 => ?_)
    refine lv_aload_n hx hb dX1_drop_4 rfl (lv_at hl 0 rfl) ?_
    refine va_get (D := (dC, dI)) (ci := 1) (v := .ref a2) (C := RX1) (T := TX1) (N := 5) hx hb hts inX1_drop_X1 hown hK hP 0 rfl rfl 1 (by decide) (hts (.fieldLink RX1 16 "QueueHall" "ringRow" "LQueueHall$Row;") (List.mem_of_getElem? (i := 1) (by decide +kernel))) (fun _ h9 => h9) rfl dX1_drop_5 ?_
    refine lv_iload_n hx hb dX1_drop_8 rfl (lv_at hl 1 rfl) ?_
    have hPc := hP.sub (ws' := [(a2, .inr (0, [.ref b2, .int (nI nr)])), (b2, .inl (cA, 2100, .inl fr))]) [3, 4] rfl
    have hKc := hK.sub (tys' := [(cA, .int)]) [0] rfl
    refine q_csiE (va_runVN (As := [.int p0]) (rest := []) ⟨hx, hb, hml, hown, hts⟩ (c_Row_firstPlace l dC dI a2 b2 nr cA fr gr p0 (by omega) ha2) ⟨va_cnB 1 hts gX1_drop_X0_firstPlace rfl rfl rfl (qN_firstPlace hN) (hts (.initialized RX0) (List.mem_of_getElem? (i := 4) (by decide +kernel))) (by decide +kernel) ⟨Nat.le_of_ble_eq_true rfl, Nat.le_of_ble_eq_true rfl⟩, (hts (.instanceMethod yX0_firstPlace) (List.mem_of_getElem? (i := 2) (by decide +kernel))), (hts (.selects RX0 yX0_firstPlace yX0_firstPlace) (List.mem_of_getElem? (i := 3) (by decide +kernel)))⟩ ⟨q_blR, va_recv hKc hPc (ci := 0) (q0 := 0) rfl rfl, fun U hU hW => ⟨rfl, by rw [hU]; exact hPc, va_K.moved hW.alike hKc⟩⟩ rfl rfl hl.1 rfl (lv_room (Nat.le_of_ble_eq_true rfl)) dX1_drop_9 ⟨Nat.le_of_ble_eq_true rfl, Nat.le_of_ble_eq_true rfl⟩) ?_
    refine q_top (y := nI k) hq ?_
    refine lv_goto (tgt := 23) hx hb dX1_drop_12 (by decide) ?_
    refine lv_istore_n (lv' := [(3, .int (nI k)), (0, .ref x0), (1, .int p0), (2, .int p1)]) hx hb dX1_drop_23 rfl hl (by decide) rfl (fun ls hl => ?_)
    refine lv_aload_n hx hb dX1_drop_24 rfl (lv_at hl 1 rfl) ?_
    refine va_get (D := (dC, dI)) (ci := 1) (v := .ref a2) (C := RX1) (T := TX1) (N := 5) hx hb hts inX1_drop_X1 hown hK hP 0 rfl rfl 1 (by decide) (hts (.fieldLink RX1 16 "QueueHall" "ringRow" "LQueueHall$Row;") (List.mem_of_getElem? (i := 1) (by decide +kernel))) (fun _ h9 => h9) rfl dX1_drop_25 ?_
    refine lv_iload_n hx hb dX1_drop_28 rfl (lv_at hl 0 rfl) ?_
    have hPc := hP.sub (ws' := [(a2, .inr (0, [.ref b2, .int (nI nr)])), (b2, .inl (cA, 2100, .inl fr))]) [3, 4] rfl
    have hKc := hK.sub (tys' := [(cA, .int)]) [0] rfl
    have hDc := hD.sub (ws' := [(a2, .inr (0, [.ref b2, .int (nI nr)])), (b2, .inl (cA, 2100, .inl fr))]) [3, 4] (by decide) rfl
    have hFc := va_free (wc := [(a2, .inr (0, [.ref b2, .int (nI nr)])), (b2, .inl (cA, 2100, .inl fr))]) hD hS hA [3, 4] rfl
    refine va_calll (va_runVN (As := [.int (nI k)]) (rest := []) ⟨hx, hb, hml, hown, hts⟩ (c_Row_take l dC dI s.heap.size a2 b2 nr cA fr gr (nI k) (by omega) ha2) ⟨va_cnB 1 hts gX1_drop_X0_take rfl rfl rfl (qN_take hN) (hts (.initialized RX0) (List.mem_of_getElem? (i := 4) (by decide +kernel))) (by decide +kernel) ⟨Nat.le_of_ble_eq_true rfl, Nat.le_of_ble_eq_true rfl⟩, (hts (.instanceMethod yX0_take) (List.mem_of_getElem? (i := 11) (by decide +kernel))), (hts (.selects RX0 yX0_take yX0_take) (List.mem_of_getElem? (i := 12) (by decide +kernel)))⟩ ⟨q_blW, va_recv hKc hPc (ci := 0) (q0 := 0) rfl rfl, fun U hU hW => ⟨rfl, by rw [hU], by rw [hU]; exact hPc, va_K.moved hW.alike hKc, hDc.weaken (fun _ _ _ _ => trivial)⟩⟩ rfl rfl hl.1 rfl (lv_room (Nat.le_of_ble_eq_true rfl)) dX1_drop_29 ⟨Nat.le_of_ble_eq_true rfl, Nat.le_of_ble_eq_true rfl⟩) hS (fun q _ h => hFc q h) hFc (fun r_8 u_8 t_8 H1 locs ht hvm hw hB hz1 hk1 hS => ?_)
    have hw := hw.trans (qTake_i (k := k) (by omega) (by omega))
    obtain ⟨rfl, rfl⟩ := Prod.mk.inj hw
    obtain ⟨f_8, hg_8, hP1, hK1, hD1⟩ := hB
    rw [ht] at hP1
    obtain ⟨hP, hD⟩ := q_join (wr := [(x0, .inr (1, [.ref a1, .ref a2, .ref a3, .int fi, .int me])), (a1, .inr (0, [.ref b1, .int (nI nh)])), (b1, .inl (cA, 2100, .inl fh)), (a3, .inr (0, [.ref b3, .int (nI nk)])), (b3, .inl (cA, 2100, .inl fk))]) (w1 := [(a2, .inr (0, [.ref b2, .int (nI (nr - 1))])), (b2, .inl (cA, 2100, .inl f_8))]) (wz := [(x0, .inr (1, [.ref a1, .ref a2, .ref a3, .int fi, .int me])), (a1, .inr (0, [.ref b1, .int (nI nh)])), (b1, .inl (cA, 2100, .inl fh)), (a2, .inr (0, [.ref b2, .int (nI (nr - 1))])), (b2, .inl (cA, 2100, .inl f_8)), (a3, .inr (0, [.ref b3, .int (nI nk)])), (b3, .inl (cA, 2100, .inl fk))]) hP hD [3, 4] [0, 1, 2, 5, 6] [0, 1, 2, 5, 6, 3, 4] rfl rfl (by decide) (by decide) hk1 hFc hP1 hD1 rfl rfl (by decide)
    generalize H1 = H at hP hS ⊢
    refine lv_ldc2 (v := qNo) hx hb hown (hts (.constantLong RX1 50 (1099511627776)) (List.mem_of_getElem? (i := 23) (by decide +kernel))) dX1_drop_32 ?_
    refine W.lcmp hx hb dX1_drop_35 ?_
    refine lv_if_eq (tgt := 43) hx hb dX1_drop_36 (by decide) (fun c_0 => absurd c_0 (fun q => q_no _ ((lg_cmp_eq _ _).mp q))) (fun _ => ?_)
    refine lv_iconst (v := 1) hx hb dX1_drop_39 (by decide) ?_
    refine lv_goto (tgt := 44) hx hb dX1_drop_40 (by decide) ?_
    exact W.zret (v := 1) hx hb hr rfl (fun t ht hW => ⟨⟨1, ((gh, nh), (qDel gr k, nr - 1), (gk, nk), fi, me), rfl, (by simp only [qDrop, if_neg hz, hq, if_neg (nI_pos (show k < 2 ^ 31 by omega)), nI_clamp (show k < 2 ^ 31 by omega)]), fh, f_8, fk, ha1, hg_8, ha3, by rw [ht]; exact hP, va_K.moved hW.alike hK, hD⟩, hS.F ht⟩) hS.2.2 dX1_drop_44

set_option maxHeartbeats 4000000 in
set_option maxRecDepth 100000 in
theorem c_Hall_ring (l : Launch) (dC : Nat → ClassId) (dI : Nat → Nat → Nat) (x0 a1 b1 a2 b2 a3 b3 nh nr nk : Nat) (cA : ClassId) (fh gh fr gr fk gk : Nat → Int32) (fi me : Int32) (p0 p1 : Int32) (hn : nh + nr + nk < 2000) (ha1 : qAg nh fh gh) (ha2 : qAg nr fr gr) (ha3 : qAg nk fk gk) (hF : qFok fi me nk) : Met l yX1_ring wsX1_ring ({ frames := 2, cells := 0, slots := 0, locals := 58 }) (va_Pc [.ref x0, .int p0, .int p1] (fun U => va_P (dC, dI) vwCl [(x0, .inr (1, [.ref a1, .ref a2, .ref a3, .int fi, .int me])), (a1, .inr (0, [.ref b1, .int (nI nh)])), (b1, .inl (cA, 2100, .inl fh)), (a2, .inr (0, [.ref b2, .int (nI nr)])), (b2, .inl (cA, 2100, .inl fr)), (a3, .inr (0, [.ref b3, .int (nI nk)])), (b3, .inl (cA, 2100, .inl fk))] U.heap ∧ va_K (dC, dI) vwCl [(cA, .int)] U ∧ qNest U)) (vp_Sl (fun r => r = (qRing p0 p1 ((gh, nh), (gr, nr), (gk, nk), fi, me)).1)) 0 0 (fun _ => False) := by
  refine Met.ofW (cc := cX1_ring) (maxL := 3) (ret := (some .long)) (by decide +kernel) rfl ?_
  intro p e s m args below meth c s₁ B hml hv
  obtain ⟨rfl, hP, hK, hN⟩ := hv
  have hx := B.exec
  have hb := B.bytes
  have hr := B.returns
  have hts := atoms_spec (ws := wsX1_ring) B.pre
  have hown : s.vm.findClass RX1 = some m.cls := findClass_of_methodNamed B.named
  have hlocks := B.notSynchronized
  have hl := lv_entry ([.ref x0, .int p0, .int p1]) (n := 3) (Nat.le_of_ble_eq_true rfl)
  rw [lg_entry_eq]
  generalize (lg_sl ([.ref x0, .int p0, .int p1]) ++ List.replicate (3 - (lg_sl ([.ref x0, .int p0, .int p1])).length) Slot.unset).toArray = ls at hl ⊢
  have hl : lv_has ls 3 [(0, .ref x0), (1, .int p0), (2, .int p1)] := hl
  rcases qHp_c p0 (n := nr) (by omega) with h | ⟨k, hk, rfl⟩ <;> by_cases hz : p1 = 0
  · refine lv_aload_n hx hb dX1_ring_0 rfl (lv_at hl 0 rfl) ?_
    refine va_get (D := (dC, dI)) (ci := 1) (v := .ref a2) (C := RX1) (T := TX1) (N := 5) hx hb hts inX1_ring_X1 hown hK hP 0 rfl rfl 1 (by decide) (hts (.fieldLink RX1 16 "QueueHall" "ringRow" "LQueueHall$Row;") (List.mem_of_getElem? (i := 1) (by decide +kernel))) (fun _ h9 => h9) rfl dX1_ring_1 ?_
    refine lv_iload_n hx hb dX1_ring_4 rfl (lv_at hl 1 rfl) ?_
    have hPc := hP.sub (ws' := [(a2, .inr (0, [.ref b2, .int (nI nr)]))]) [3] rfl
    have hKc := hK.sub (tys' := []) [] rfl
    refine q_csiE (va_runVN (As := [.int p0]) (rest := []) ⟨hx, hb, hml, hown, hts⟩ (c_Row_hasPlace l dC dI a2 b2 nr p0) ⟨va_cnB 1 hts gX1_ring_X0_hasPlace rfl rfl rfl (qN_hasPlace hN) (hts (.initialized RX0) (List.mem_of_getElem? (i := 4) (by decide +kernel))) (by decide +kernel) ⟨Nat.le_of_ble_eq_true rfl, Nat.le_of_ble_eq_true rfl⟩, (hts (.instanceMethod yX0_hasPlace) (List.mem_of_getElem? (i := 2) (by decide +kernel))), (hts (.selects RX0 yX0_hasPlace yX0_hasPlace) (List.mem_of_getElem? (i := 3) (by decide +kernel)))⟩ ⟨q_blR, va_recv hKc hPc (ci := 0) (q0 := 0) rfl rfl, fun U hU hW => ⟨rfl, by rw [hU]; exact hPc, va_K.moved hW.alike hKc⟩⟩ rfl rfl hl.1 rfl (lv_room (Nat.le_of_ble_eq_true rfl)) dX1_ring_5 ⟨Nat.le_of_ble_eq_true rfl, Nat.le_of_ble_eq_true rfl⟩) ?_
    refine q_top (y := 0) h ?_
    refine lv_if_ne (tgt := 15) hx hb dX1_ring_8 (by decide) (fun c_0 => absurd (show (0 : Int32) = (0 : Int32) from (by decide)) c_0) (fun c_1 => ?_)
    refine lv_ldc2 (v := qNo) hx hb hown (hts (.constantLong RX1 50 (1099511627776)) (List.mem_of_getElem? (i := 7) (by decide +kernel))) dX1_ring_11 ?_
    exact W.lret (v := qNo) hx hb hr (fun t ht hW => ⟨qNo, rfl, (by simp only [qRing, if_pos h]), ht⟩) (fun q h => by cases h) dX1_ring_14
  · refine lv_aload_n hx hb dX1_ring_0 rfl (lv_at hl 0 rfl) ?_
    refine va_get (D := (dC, dI)) (ci := 1) (v := .ref a2) (C := RX1) (T := TX1) (N := 5) hx hb hts inX1_ring_X1 hown hK hP 0 rfl rfl 1 (by decide) (hts (.fieldLink RX1 16 "QueueHall" "ringRow" "LQueueHall$Row;") (List.mem_of_getElem? (i := 1) (by decide +kernel))) (fun _ h9 => h9) rfl dX1_ring_1 ?_
    refine lv_iload_n hx hb dX1_ring_4 rfl (lv_at hl 1 rfl) ?_
    have hPc := hP.sub (ws' := [(a2, .inr (0, [.ref b2, .int (nI nr)]))]) [3] rfl
    have hKc := hK.sub (tys' := []) [] rfl
    refine q_csiE (va_runVN (As := [.int p0]) (rest := []) ⟨hx, hb, hml, hown, hts⟩ (c_Row_hasPlace l dC dI a2 b2 nr p0) ⟨va_cnB 1 hts gX1_ring_X0_hasPlace rfl rfl rfl (qN_hasPlace hN) (hts (.initialized RX0) (List.mem_of_getElem? (i := 4) (by decide +kernel))) (by decide +kernel) ⟨Nat.le_of_ble_eq_true rfl, Nat.le_of_ble_eq_true rfl⟩, (hts (.instanceMethod yX0_hasPlace) (List.mem_of_getElem? (i := 2) (by decide +kernel))), (hts (.selects RX0 yX0_hasPlace yX0_hasPlace) (List.mem_of_getElem? (i := 3) (by decide +kernel)))⟩ ⟨q_blR, va_recv hKc hPc (ci := 0) (q0 := 0) rfl rfl, fun U hU hW => ⟨rfl, by rw [hU]; exact hPc, va_K.moved hW.alike hKc⟩⟩ rfl rfl hl.1 rfl (lv_room (Nat.le_of_ble_eq_true rfl)) dX1_ring_5 ⟨Nat.le_of_ble_eq_true rfl, Nat.le_of_ble_eq_true rfl⟩) ?_
    refine q_top (y := 0) h ?_
    refine lv_if_ne (tgt := 15) hx hb dX1_ring_8 (by decide) (fun c_0 => absurd (show (0 : Int32) = (0 : Int32) from (by decide)) c_0) (fun c_2 => ?_)
    refine lv_ldc2 (v := qNo) hx hb hown (hts (.constantLong RX1 50 (1099511627776)) (List.mem_of_getElem? (i := 7) (by decide +kernel))) dX1_ring_11 ?_
    exact W.lret (v := qNo) hx hb hr (fun t ht hW => ⟨qNo, rfl, (by simp only [qRing, if_pos h]), ht⟩) (fun q h => by cases h) dX1_ring_14
  · refine lv_aload_n hx hb dX1_ring_0 rfl (lv_at hl 0 rfl) ?_
    refine va_get (D := (dC, dI)) (ci := 1) (v := .ref a2) (C := RX1) (T := TX1) (N := 5) hx hb hts inX1_ring_X1 hown hK hP 0 rfl rfl 1 (by decide) (hts (.fieldLink RX1 16 "QueueHall" "ringRow" "LQueueHall$Row;") (List.mem_of_getElem? (i := 1) (by decide +kernel))) (fun _ h9 => h9) rfl dX1_ring_1 ?_
    refine lv_iload_n hx hb dX1_ring_4 rfl (lv_at hl 1 rfl) ?_
    have hPc := hP.sub (ws' := [(a2, .inr (0, [.ref b2, .int (nI nr)]))]) [3] rfl
    have hKc := hK.sub (tys' := []) [] rfl
    refine q_csiE (va_runVN (As := [.int (nI k)]) (rest := []) ⟨hx, hb, hml, hown, hts⟩ (c_Row_hasPlace l dC dI a2 b2 nr (nI k)) ⟨va_cnB 1 hts gX1_ring_X0_hasPlace rfl rfl rfl (qN_hasPlace hN) (hts (.initialized RX0) (List.mem_of_getElem? (i := 4) (by decide +kernel))) (by decide +kernel) ⟨Nat.le_of_ble_eq_true rfl, Nat.le_of_ble_eq_true rfl⟩, (hts (.instanceMethod yX0_hasPlace) (List.mem_of_getElem? (i := 2) (by decide +kernel))), (hts (.selects RX0 yX0_hasPlace yX0_hasPlace) (List.mem_of_getElem? (i := 3) (by decide +kernel)))⟩ ⟨q_blR, va_recv hKc hPc (ci := 0) (q0 := 0) rfl rfl, fun U hU hW => ⟨rfl, by rw [hU]; exact hPc, va_K.moved hW.alike hKc⟩⟩ rfl rfl hl.1 rfl (lv_room (Nat.le_of_ble_eq_true rfl)) dX1_ring_5 ⟨Nat.le_of_ble_eq_true rfl, Nat.le_of_ble_eq_true rfl⟩) ?_
    refine q_top (y := 1) (qHp_in (by omega) (by omega)) ?_
    refine lv_if_ne (tgt := 15) hx hb dX1_ring_8 (by decide) (fun c_3 => ?_) (fun c_0 => absurd c_0 (show ¬ (1 : Int32) = (0 : Int32) from (by decide)))
    refine lv_aload_n hx hb dX1_ring_15 rfl (lv_at hl 0 rfl) ?_
    refine va_get (D := (dC, dI)) (ci := 1) (v := .ref a2) (C := RX1) (T := TX1) (N := 5) hx hb hts inX1_ring_X1 hown hK hP 0 rfl rfl 1 (by decide) (hts (.fieldLink RX1 16 "QueueHall" "ringRow" "LQueueHall$Row;") (List.mem_of_getElem? (i := 1) (by decide +kernel))) (fun _ h9 => h9) rfl dX1_ring_16 ?_
    refine lv_iload_n hx hb dX1_ring_19 rfl (lv_at hl 2 rfl) ?_
    refine lv_if_eq (tgt := 37) hx hb dX1_ring_20 (by decide) (fun c_4 => ?_) (fun c_0 => absurd (show p1 = (0 : Int32) from hz) c_0)
    refine lv_iload_n hx hb dX1_ring_37 rfl (lv_at hl 1 rfl) ?_
    have hPc := hP.sub (ws' := [(a2, .inr (0, [.ref b2, .int (nI nr)])), (b2, .inl (cA, 2100, .inl fr))]) [3, 4] rfl
    have hKc := hK.sub (tys' := [(cA, .int)]) [0] rfl
    refine q_cslE (va_runVN (As := [.int (nI k)]) (rest := []) ⟨hx, hb, hml, hown, hts⟩ (c_Row_at l dC dI a2 b2 nr cA fr gr (nI k) (by omega) ha2) ⟨va_cnB 1 hts gX1_ring_X0_at rfl rfl rfl (qN_at hN) (hts (.initialized RX0) (List.mem_of_getElem? (i := 4) (by decide +kernel))) (by decide +kernel) ⟨Nat.le_of_ble_eq_true rfl, Nat.le_of_ble_eq_true rfl⟩, (hts (.instanceMethod yX0_at) (List.mem_of_getElem? (i := 8) (by decide +kernel))), (hts (.selects RX0 yX0_at yX0_at) (List.mem_of_getElem? (i := 9) (by decide +kernel)))⟩ ⟨q_blR, va_recv hKc hPc (ci := 0) (q0 := 0) rfl rfl, fun U hU hW => ⟨rfl, by rw [hU]; exact hPc, va_K.moved hW.alike hKc⟩⟩ rfl rfl hl.1 rfl (lv_room (Nat.le_of_ble_eq_true rfl)) dX1_ring_38 ⟨Nat.le_of_ble_eq_true rfl, Nat.le_of_ble_eq_true rfl⟩) ?_
    refine q_topl (y := (gr k).toInt64) (qAt_i (by omega) (by omega)) ?_
    exact W.lret (v := (gr k).toInt64) hx hb hr (fun t ht hW => ⟨(gr k).toInt64, rfl, (by simp only [qRing, qHp_in hk (show nr < 2 ^ 31 by omega), if_neg q_ne10, nI_clamp (show k < 2 ^ 31 by omega), if_pos hz]), ht⟩) (fun q h => by cases h) dX1_ring_41
  · refine lv_aload_n hx hb dX1_ring_0 rfl (lv_at hl 0 rfl) ?_
    refine va_get (D := (dC, dI)) (ci := 1) (v := .ref a2) (C := RX1) (T := TX1) (N := 5) hx hb hts inX1_ring_X1 hown hK hP 0 rfl rfl 1 (by decide) (hts (.fieldLink RX1 16 "QueueHall" "ringRow" "LQueueHall$Row;") (List.mem_of_getElem? (i := 1) (by decide +kernel))) (fun _ h9 => h9) rfl dX1_ring_1 ?_
    refine lv_iload_n hx hb dX1_ring_4 rfl (lv_at hl 1 rfl) ?_
    have hPc := hP.sub (ws' := [(a2, .inr (0, [.ref b2, .int (nI nr)]))]) [3] rfl
    have hKc := hK.sub (tys' := []) [] rfl
    refine q_csiE (va_runVN (As := [.int (nI k)]) (rest := []) ⟨hx, hb, hml, hown, hts⟩ (c_Row_hasPlace l dC dI a2 b2 nr (nI k)) ⟨va_cnB 1 hts gX1_ring_X0_hasPlace rfl rfl rfl (qN_hasPlace hN) (hts (.initialized RX0) (List.mem_of_getElem? (i := 4) (by decide +kernel))) (by decide +kernel) ⟨Nat.le_of_ble_eq_true rfl, Nat.le_of_ble_eq_true rfl⟩, (hts (.instanceMethod yX0_hasPlace) (List.mem_of_getElem? (i := 2) (by decide +kernel))), (hts (.selects RX0 yX0_hasPlace yX0_hasPlace) (List.mem_of_getElem? (i := 3) (by decide +kernel)))⟩ ⟨q_blR, va_recv hKc hPc (ci := 0) (q0 := 0) rfl rfl, fun U hU hW => ⟨rfl, by rw [hU]; exact hPc, va_K.moved hW.alike hKc⟩⟩ rfl rfl hl.1 rfl (lv_room (Nat.le_of_ble_eq_true rfl)) dX1_ring_5 ⟨Nat.le_of_ble_eq_true rfl, Nat.le_of_ble_eq_true rfl⟩) ?_
    refine q_top (y := 1) (qHp_in (by omega) (by omega)) ?_
    refine lv_if_ne (tgt := 15) hx hb dX1_ring_8 (by decide) (fun c_5 => ?_) (fun c_0 => absurd c_0 (show ¬ (1 : Int32) = (0 : Int32) from (by decide)))
    refine lv_aload_n hx hb dX1_ring_15 rfl (lv_at hl 0 rfl) ?_
    refine va_get (D := (dC, dI)) (ci := 1) (v := .ref a2) (C := RX1) (T := TX1) (N := 5) hx hb hts inX1_ring_X1 hown hK hP 0 rfl rfl 1 (by decide) (hts (.fieldLink RX1 16 "QueueHall" "ringRow" "LQueueHall$Row;") (List.mem_of_getElem? (i := 1) (by decide +kernel))) (fun _ h9 => h9) rfl dX1_ring_16 ?_
    refine lv_iload_n hx hb dX1_ring_19 rfl (lv_at hl 2 rfl) ?_
    refine lv_if_eq (tgt := 37) hx hb dX1_ring_20 (by decide) (fun c_0 => absurd c_0 (show ¬ p1 = (0 : Int32) from hz)) (fun c_6 => ?_)
    refine lv_aload_n hx hb dX1_ring_23 rfl (lv_at hl 0 rfl) ?_
    refine va_get (D := (dC, dI)) (ci := 1) (v := .ref a2) (C := RX1) (T := TX1) (N := 5) hx hb hts inX1_ring_X1 hown hK hP 0 rfl rfl 1 (by decide) (hts (.fieldLink RX1 16 "QueueHall" "ringRow" "LQueueHall$Row;") (List.mem_of_getElem? (i := 1) (by decide +kernel))) (fun _ h9 => h9) rfl dX1_ring_24 ?_
    refine va_getN (D := (dC, dI)) (ci := 0) (v := .int (nI nr)) (C := RX0) (T := TX0) (N := 2) hx hb hts inX1_ring_X0 hown hK hP 3 rfl rfl 1 (by decide) (qN_count hN) (fun _ h9 => h9) rfl dX1_ring_27 ?_
    refine lv_iconst (v := 1) hx hb dX1_ring_30 (by decide) ?_
    refine lv_isub hx hb dX1_ring_31 ?_
    refine q_top (y := nI (nr - 1)) (q_m1 (by omega)) ?_
    refine lv_iload_n hx hb dX1_ring_32 rfl (lv_at hl 1 rfl) ?_
    refine lv_isub hx hb dX1_ring_33 ?_
    refine q_top (y := nI ((nr - 1) - k)) (pk_sub (by omega)) ?_
    refine lv_goto (tgt := 38) hx hb dX1_ring_34 (by decide) ?_
    have hPc := hP.sub (ws' := [(a2, .inr (0, [.ref b2, .int (nI nr)])), (b2, .inl (cA, 2100, .inl fr))]) [3, 4] rfl
    have hKc := hK.sub (tys' := [(cA, .int)]) [0] rfl
    refine q_cslE (va_runVN (As := [.int (nI ((nr - 1) - k))]) (rest := []) ⟨hx, hb, hml, hown, hts⟩ (c_Row_at l dC dI a2 b2 nr cA fr gr (nI ((nr - 1) - k)) (by omega) ha2) ⟨va_cnB 1 hts gX1_ring_X0_at rfl rfl rfl (qN_at hN) (hts (.initialized RX0) (List.mem_of_getElem? (i := 4) (by decide +kernel))) (by decide +kernel) ⟨Nat.le_of_ble_eq_true rfl, Nat.le_of_ble_eq_true rfl⟩, (hts (.instanceMethod yX0_at) (List.mem_of_getElem? (i := 8) (by decide +kernel))), (hts (.selects RX0 yX0_at yX0_at) (List.mem_of_getElem? (i := 9) (by decide +kernel)))⟩ ⟨q_blR, va_recv hKc hPc (ci := 0) (q0 := 0) rfl rfl, fun U hU hW => ⟨rfl, by rw [hU]; exact hPc, va_K.moved hW.alike hKc⟩⟩ rfl rfl hl.1 rfl (lv_room (Nat.le_of_ble_eq_true rfl)) dX1_ring_38 ⟨Nat.le_of_ble_eq_true rfl, Nat.le_of_ble_eq_true rfl⟩) ?_
    refine q_topl (y := (gr ((nr - 1) - k)).toInt64) (qAt_i (by omega) (by omega)) ?_
    exact W.lret (v := (gr ((nr - 1) - k)).toInt64) hx hb hr (fun t ht hW => ⟨(gr ((nr - 1) - k)).toInt64, rfl, (by simp only [qRing, qHp_in hk (show nr < 2 ^ 31 by omega), if_neg q_ne10, nI_clamp (show k < 2 ^ 31 by omega), if_neg hz]), ht⟩) (fun q h => by cases h) dX1_ring_41

