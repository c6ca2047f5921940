set_option maxHeartbeats 4000000 in
set_option maxRecDepth 100000 in
theorem c_Hall_sieve (l : Launch) (dC : Nat → ClassId) (dI : Nat → Nat → Nat) (sz : Nat) (x0 a1 b1 a2 b2 a3 b3 nh nr nk : Nat) (cA : ClassId) (fh gh fr gr fk gk : Nat → Int32) (fi me : Int32) (p0 p1 : Int32) (hn : nh + nr + nk < 2000) (ha1 : qAg nh fh gh) (ha2 : qAg nr fr gr) (ha3 : qAg nk fk gk) (hF : qFok fi me nk) : Met l yX1_sieve wsX1_sieve ({ frames := 2, cells := 0, slots := 0, locals := 58 }) (va_Pc [.ref x0, .int p0, .int p1] (fun U => U.heap.size = sz ∧ va_P (dC, dI) vwCl [(x0, .inr (1, [.ref a1, .ref a2, .ref a3, .int fi, .int me])), (a1, .inr (0, [.ref b1, .int (nI nh)])), (b1, .inl (cA, 2100, .inl fh)), (a2, .inr (0, [.ref b2, .int (nI nr)])), (b2, .inl (cA, 2100, .inl fr)), (a3, .inr (0, [.ref b3, .int (nI nk)])), (b3, .inl (cA, 2100, .inl fk))] U.heap ∧ va_K (dC, dI) vwCl [(cA, .int)] U ∧ va_D (fun _ => True) [(x0, .inr (1, [.ref a1, .ref a2, .ref a3, .int fi, .int me])), (a1, .inr (0, [.ref b1, .int (nI nh)])), (b1, .inl (cA, 2100, .inl fh)), (a2, .inr (0, [.ref b2, .int (nI nr)])), (b2, .inl (cA, 2100, .inl fr)), (a3, .inr (0, [.ref b3, .int (nI nk)])), (b3, .inl (cA, 2100, .inl fk))] ∧ qNest U)) (va_Qi (fun (r : Int32) (u : qS) => (r, u) = qSieveS p0 p1 ((gh, nh), (gr, nr), (gk, nk), fi, me)) (at_H dC dI (va_A [(x0, .inr (1, [.ref a1, .ref a2, .ref a3, .int fi, .int me])), (a1, .inr (0, [.ref b1, .int (nI nh)])), (b1, .inl (cA, 2100, .inl fh)), (a2, .inr (0, [.ref b2, .int (nI nr)])), (b2, .inl (cA, 2100, .inl fr)), (a3, .inr (0, [.ref b3, .int (nI nk)])), (b3, .inl (cA, 2100, .inl fk))] sz) x0 a1 b1 a2 b2 a3 b3 cA) (va_A [(x0, .inr (1, [.ref a1, .ref a2, .ref a3, .int fi, .int me])), (a1, .inr (0, [.ref b1, .int (nI nh)])), (b1, .inl (cA, 2100, .inl fh)), (a2, .inr (0, [.ref b2, .int (nI nr)])), (b2, .inl (cA, 2100, .inl fr)), (a3, .inr (0, [.ref b3, .int (nI nk)])), (b3, .inl (cA, 2100, .inl fk))] sz)) 0 0 (va_A [(x0, .inr (1, [.ref a1, .ref a2, .ref a3, .int fi, .int me])), (a1, .inr (0, [.ref b1, .int (nI nh)])), (b1, .inl (cA, 2100, .inl fh)), (a2, .inr (0, [.ref b2, .int (nI nr)])), (b2, .inl (cA, 2100, .inl fr)), (a3, .inr (0, [.ref b3, .int (nI nk)])), (b3, .inl (cA, 2100, .inl fk))] sz) := by
  refine Met.ofW (cc := cX1_sieve) (maxL := 3) (ret := (some .int)) (by decide +kernel) rfl ?_
  intro p e s m args below meth c s₁ B hml hv
  obtain ⟨rfl, hsz, hP, hK, hD0, hN⟩ := hv
  have hx := B.exec
  have hb := B.bytes
  have hr := B.returns
  have hts := atoms_spec (ws := wsX1_sieve) B.pre
  have hown : s.vm.findClass RX1 = some m.cls := findClass_of_methodNamed B.named
  have hlocks := B.notSynchronized
  subst hsz
  have hD := hD0.self (sz := s.heap.size)
  generalize hAe : va_A [(x0, .inr (1, [.ref a1, .ref a2, .ref a3, .int fi, .int me])), (a1, .inr (0, [.ref b1, .int (nI nh)])), (b1, .inl (cA, 2100, .inl fh)), (a2, .inr (0, [.ref b2, .int (nI nr)])), (b2, .inl (cA, 2100, .inl fr)), (a3, .inr (0, [.ref b3, .int (nI nk)])), (b3, .inl (cA, 2100, .inl fk))] s.heap.size = A at hD ⊢
  have hA : ∀ q : Nat, s.heap.size ≤ q → A q := fun q h => by rw [← hAe]; exact Or.inr h
  have hS : va_S A s.heap s.heap [] := va_S.rf
  have hl := lv_entry ([.ref x0, .int p0, .int p1]) (n := 3) (Nat.le_of_ble_eq_true rfl)
  rw [lg_entry_eq]
  generalize (lg_sl ([.ref x0, .int p0, .int p1]) ++ List.replicate (3 - (lg_sl ([.ref x0, .int p0, .int p1])).length) Slot.unset).toArray = ls at hl ⊢
  have hl : lv_has ls 3 [(0, .ref x0), (1, .int p0), (2, .int p1)] := hl
  refine lv_aload_n hx hb dX1_sieve_0 rfl (lv_at hl 0 rfl) ?_
  refine va_get (D := (dC, dI)) (ci := 1) (v := .ref a2) (C := RX1) (T := TX1) (N := 5) hx hb hts inX1_sieve_X1 hown hK hP 0 rfl rfl 1 (by decide) (hts (.fieldLink RX1 16 "QueueHall" "ringRow" "LQueueHall$Row;") (List.mem_of_getElem? (i := 1) (by decide +kernel))) (fun _ h9 => h9) rfl dX1_sieve_1 ?_
  refine lv_iload_n hx hb dX1_sieve_4 rfl (lv_at hl 1 rfl) ?_
  refine lv_iload_n hx hb dX1_sieve_5 rfl (lv_at hl 2 rfl) ?_
  have hPc := hP.sub (ws' := [(a2, .inr (0, [.ref b2, .int (nI nr)])), (b2, .inl (cA, 2100, .inl fr))]) [3, 4] rfl
  have hKc := hK.sub (tys' := [(cA, .int)]) [0] rfl
  have hDc := hD.sub (ws' := [(a2, .inr (0, [.ref b2, .int (nI nr)])), (b2, .inl (cA, 2100, .inl fr))]) [3, 4] (by decide) rfl
  have hFc := va_free (wc := [(a2, .inr (0, [.ref b2, .int (nI nr)])), (b2, .inl (cA, 2100, .inl fr))]) hD hS hA [3, 4] rfl
  refine va_calli (va_runVN (As := [.int p0, .int p1]) (rest := []) ⟨hx, hb, hml, hown, hts⟩ (c_Row_takeRest l dC dI s.heap.size a2 b2 nr cA fr gr p0 p1 (by omega) ha2) ⟨va_cnB 2 hts gX1_sieve_X0_takeRest rfl rfl rfl (qN_takeRest hN) (hts (.initialized RX0) (List.mem_of_getElem? (i := 4) (by decide +kernel))) (by decide +kernel) ⟨Nat.le_of_ble_eq_true rfl, Nat.le_of_ble_eq_true rfl⟩, (hts (.instanceMethod yX0_takeRest) (List.mem_of_getElem? (i := 2) (by decide +kernel))), (hts (.selects RX0 yX0_takeRest yX0_takeRest) (List.mem_of_getElem? (i := 3) (by decide +kernel)))⟩ ⟨q_blW, va_recv hKc hPc (ci := 0) (q0 := 0) rfl rfl, fun U hU hW => ⟨rfl, by rw [hU], by rw [hU]; exact hPc, va_K.moved hW.alike hKc, hDc.weaken (fun _ _ _ _ => trivial)⟩⟩ rfl rfl hl.1 rfl (lv_room (Nat.le_of_ble_eq_true rfl)) dX1_sieve_6 ⟨Nat.le_of_ble_eq_true rfl, Nat.le_of_ble_eq_true rfl⟩) hS (fun q _ h => hFc q h) hFc (fun r_1 u_1 t_1 H1 locs ht hvm hw hB hz1 hk1 hS => ?_)
  obtain ⟨g_1, n_1⟩ := u_1
  obtain ⟨f_1, hg_1, hP1, hK1, hD1⟩ := hB
  rw [ht] at hP1
  obtain ⟨hP, hD⟩ := q_join (wr := [(x0, .inr (1, [.ref a1, .ref a2, .ref a3, .int fi, .int me])), (a1, .inr (0, [.ref b1, .int (nI nh)])), (b1, .inl (cA, 2100, .inl fh)), (a3, .inr (0, [.ref b3, .int (nI nk)])), (b3, .inl (cA, 2100, .inl fk))]) (w1 := [(a2, .inr (0, [.ref b2, .int (nI n_1)])), (b2, .inl (cA, 2100, .inl f_1))]) (wz := [(x0, .inr (1, [.ref a1, .ref a2, .ref a3, .int fi, .int me])), (a1, .inr (0, [.ref b1, .int (nI nh)])), (b1, .inl (cA, 2100, .inl fh)), (a2, .inr (0, [.ref b2, .int (nI n_1)])), (b2, .inl (cA, 2100, .inl f_1)), (a3, .inr (0, [.ref b3, .int (nI nk)])), (b3, .inl (cA, 2100, .inl fk))]) hP hD [3, 4] [0, 1, 2, 5, 6] [0, 1, 2, 5, 6, 3, 4] rfl rfl (by decide) (by decide) hk1 hFc hP1 hD1 rfl rfl (by decide)
  generalize H1 = H at hP hS ⊢
  exact W.iret (v := r_1) hx hb hr (fun t ht hW => ⟨⟨r_1, ((gh, nh), (g_1, n_1), (gk, nk), fi, me), rfl, (by simp only [qSieveS, ← hw]), fh, f_1, fk, ha1, hg_1, ha3, by rw [ht]; exact hP, va_K.moved hW.alike hK, hD⟩, hS.F ht⟩) hS.2.2 dX1_sieve_9

set_option maxHeartbeats 4000000 in
set_option maxRecDepth 100000 in
theorem c_Hall_roll (l : Launch) (dC : Nat → ClassId) (dI : Nat → Nat → Nat) (sz : Nat) (x0 a1 b1 a2 b2 a3 b3 nh nr nk : Nat) (cA : ClassId) (fh gh fr gr fk gk : Nat → Int32) (fi me : Int32) (p0 : Int32) (hn : nh + nr + nk < 2000) (ha1 : qAg nh fh gh) (ha2 : qAg nr fr gr) (ha3 : qAg nk fk gk) (hF : qFok fi me nk) : Met l yX1_roll wsX1_roll ({ frames := 2, cells := 0, slots := 0, locals := 58 }) (va_Pc [.ref x0, .int p0] (fun U => U.heap.size = sz ∧ va_P (dC, dI) vwCl [(x0, .inr (1, [.ref a1, .ref a2, .ref a3, .int fi, .int me])), (a1, .inr (0, [.ref b1, .int (nI nh)])), (b1, .inl (cA, 2100, .inl fh)), (a2, .inr (0, [.ref b2, .int (nI nr)])), (b2, .inl (cA, 2100, .inl fr)), (a3, .inr (0, [.ref b3, .int (nI nk)])), (b3, .inl (cA, 2100, .inl fk))] U.heap ∧ va_K (dC, dI) vwCl [(cA, .int)] U ∧ va_D (fun _ => True) [(x0, .inr (1, [.ref a1, .ref a2, .ref a3, .int fi, .int me])), (a1, .inr (0, [.ref b1, .int (nI nh)])), (b1, .inl (cA, 2100, .inl fh)), (a2, .inr (0, [.ref b2, .int (nI nr)])), (b2, .inl (cA, 2100, .inl fr)), (a3, .inr (0, [.ref b3, .int (nI nk)])), (b3, .inl (cA, 2100, .inl fk))] ∧ qNest U)) (va_Qi (fun (r : Int32) (u : qS) => (r, u) = qRollS p0 ((gh, nh), (gr, nr), (gk, nk), fi, me)) (at_H dC dI (va_A [(x0, .inr (1, [.ref a1, .ref a2, .ref a3, .int fi, .int me])), (a1, .inr (0, [.ref b1, .int (nI nh)])), (b1, .inl (cA, 2100, .inl fh)), (a2, .inr (0, [.ref b2, .int (nI nr)])), (b2, .inl (cA, 2100, .inl fr)), (a3, .inr (0, [.ref b3, .int (nI nk)])), (b3, .inl (cA, 2100, .inl fk))] sz) x0 a1 b1 a2 b2 a3 b3 cA) (va_A [(x0, .inr (1, [.ref a1, .ref a2, .ref a3, .int fi, .int me])), (a1, .inr (0, [.ref b1, .int (nI nh)])), (b1, .inl (cA, 2100, .inl fh)), (a2, .inr (0, [.ref b2, .int (nI nr)])), (b2, .inl (cA, 2100, .inl fr)), (a3, .inr (0, [.ref b3, .int (nI nk)])), (b3, .inl (cA, 2100, .inl fk))] sz)) 0 0 (va_A [(x0, .inr (1, [.ref a1, .ref a2, .ref a3, .int fi, .int me])), (a1, .inr (0, [.ref b1, .int (nI nh)])), (b1, .inl (cA, 2100, .inl fh)), (a2, .inr (0, [.ref b2, .int (nI nr)])), (b2, .inl (cA, 2100, .inl fr)), (a3, .inr (0, [.ref b3, .int (nI nk)])), (b3, .inl (cA, 2100, .inl fk))] sz) := by
  refine Met.ofW (cc := cX1_roll) (maxL := 2) (ret := (some .int)) (by decide +kernel) rfl ?_
  intro p e s m args below meth c s₁ B hml hv
  obtain ⟨rfl, hsz, hP, hK, hD0, hN⟩ := hv
  have hx := B.exec
  have hb := B.bytes
  have hr := B.returns
  have hts := atoms_spec (ws := wsX1_roll) B.pre
  have hown : s.vm.findClass RX1 = some m.cls := findClass_of_methodNamed B.named
  have hlocks := B.notSynchronized
  subst hsz
  have hD := hD0.self (sz := s.heap.size)
  generalize hAe : va_A [(x0, .inr (1, [.ref a1, .ref a2, .ref a3, .int fi, .int me])), (a1, .inr (0, [.ref b1, .int (nI nh)])), (b1, .inl (cA, 2100, .inl fh)), (a2, .inr (0, [.ref b2, .int (nI nr)])), (b2, .inl (cA, 2100, .inl fr)), (a3, .inr (0, [.ref b3, .int (nI nk)])), (b3, .inl (cA, 2100, .inl fk))] s.heap.size = A at hD ⊢
  have hA : ∀ q : Nat, s.heap.size ≤ q → A q := fun q h => by rw [← hAe]; exact Or.inr h
  have hS : va_S A s.heap s.heap [] := va_S.rf
  have hl := lv_entry ([.ref x0, .int p0]) (n := 2) (Nat.le_of_ble_eq_true rfl)
  rw [lg_entry_eq]
  generalize (lg_sl ([.ref x0, .int p0]) ++ List.replicate (2 - (lg_sl ([.ref x0, .int p0])).length) Slot.unset).toArray = ls at hl ⊢
  have hl : lv_has ls 2 [(0, .ref x0), (1, .int p0)] := hl
  refine lv_aload_n hx hb dX1_roll_0 rfl (lv_at hl 0 rfl) ?_
  refine va_get (D := (dC, dI)) (ci := 1) (v := .ref a2) (C := RX1) (T := TX1) (N := 5) hx hb hts inX1_roll_X1 hown hK hP 0 rfl rfl 1 (by decide) (hts (.fieldLink RX1 16 "QueueHall" "ringRow" "LQueueHall$Row;") (List.mem_of_getElem? (i := 1) (by decide +kernel))) (fun _ h9 => h9) rfl dX1_roll_1 ?_
  refine lv_iload_n hx hb dX1_roll_4 rfl (lv_at hl 1 rfl) ?_
  have hPc := hP.sub (ws' := [(a2, .inr (0, [.ref b2, .int (nI nr)])), (b2, .inl (cA, 2100, .inl fr))]) [3, 4] rfl
  have hKc := hK.sub (tys' := [(cA, .int)]) [0] rfl
  have hDc := hD.sub (ws' := [(a2, .inr (0, [.ref b2, .int (nI nr)])), (b2, .inl (cA, 2100, .inl fr))]) [3, 4] (by decide) rfl
  have hFc := va_free (wc := [(a2, .inr (0, [.ref b2, .int (nI nr)])), (b2, .inl (cA, 2100, .inl fr))]) hD hS hA [3, 4] rfl
  refine va_calli (va_runVN (As := [.int p0]) (rest := []) ⟨hx, hb, hml, hown, hts⟩ (c_Row_turn l dC dI s.heap.size a2 b2 nr cA fr gr p0 (by omega) ha2) ⟨va_cnB 1 hts gX1_roll_X0_turn rfl rfl rfl (qN_turn hN) (hts (.initialized RX0) (List.mem_of_getElem? (i := 4) (by decide +kernel))) (by decide +kernel) ⟨Nat.le_of_ble_eq_true rfl, Nat.le_of_ble_eq_true rfl⟩, (hts (.instanceMethod yX0_turn) (List.mem_of_getElem? (i := 2) (by decide +kernel))), (hts (.selects RX0 yX0_turn yX0_turn) (List.mem_of_getElem? (i := 3) (by decide +kernel)))⟩ ⟨q_blW, va_recv hKc hPc (ci := 0) (q0 := 0) rfl rfl, fun U hU hW => ⟨rfl, by rw [hU], by rw [hU]; exact hPc, va_K.moved hW.alike hKc, hDc.weaken (fun _ _ _ _ => trivial)⟩⟩ rfl rfl hl.1 rfl (lv_room (Nat.le_of_ble_eq_true rfl)) dX1_roll_5 ⟨Nat.le_of_ble_eq_true rfl, Nat.le_of_ble_eq_true rfl⟩) hS (fun q _ h => hFc q h) hFc (fun r_1 u_1 t_1 H1 locs ht hvm hw hB hz1 hk1 hS => ?_)
  obtain ⟨g_1, n_1⟩ := u_1
  obtain ⟨f_1, hg_1, hP1, hK1, hD1⟩ := hB
  rw [ht] at hP1
  obtain ⟨hP, hD⟩ := q_join (wr := [(x0, .inr (1, [.ref a1, .ref a2, .ref a3, .int fi, .int me])), (a1, .inr (0, [.ref b1, .int (nI nh)])), (b1, .inl (cA, 2100, .inl fh)), (a3, .inr (0, [.ref b3, .int (nI nk)])), (b3, .inl (cA, 2100, .inl fk))]) (w1 := [(a2, .inr (0, [.ref b2, .int (nI n_1)])), (b2, .inl (cA, 2100, .inl f_1))]) (wz := [(x0, .inr (1, [.ref a1, .ref a2, .ref a3, .int fi, .int me])), (a1, .inr (0, [.ref b1, .int (nI nh)])), (b1, .inl (cA, 2100, .inl fh)), (a2, .inr (0, [.ref b2, .int (nI n_1)])), (b2, .inl (cA, 2100, .inl f_1)), (a3, .inr (0, [.ref b3, .int (nI nk)])), (b3, .inl (cA, 2100, .inl fk))]) hP hD [3, 4] [0, 1, 2, 5, 6] [0, 1, 2, 5, 6, 3, 4] rfl rfl (by decide) (by decide) hk1 hFc hP1 hD1 rfl rfl (by decide)
  generalize H1 = H at hP hS ⊢
  exact W.iret (v := r_1) hx hb hr (fun t ht hW => ⟨⟨r_1, ((gh, nh), (g_1, n_1), (gk, nk), fi, me), rfl, (by simp only [qRollS, ← hw]), fh, f_1, fk, ha1, hg_1, ha3, by rw [ht]; exact hP, va_K.moved hW.alike hK, hD⟩, hS.F ht⟩) hS.2.2 dX1_roll_8

set_option maxHeartbeats 4000000 in
set_option maxRecDepth 100000 in
theorem c_Hall_insert (l : Launch) (dC : Nat → ClassId) (dI : Nat → Nat → Nat) (sz : Nat) (x0 a1 b1 a2 b2 a3 b3 nh nr nk : Nat) (cA : ClassId) (fh gh fr gr fk gk : Nat → Int32) (fi me : Int32) (p0 p1 : Int32) (hn : nh + nr + nk < 2000) (ha1 : qAg nh fh gh) (ha2 : qAg nr fr gr) (ha3 : qAg nk fk gk) (hF : qFok fi me nk) : Met l yX1_insert wsX1_insert ({ frames := 2, cells := 0, slots := 0, locals := 58 }) (va_Pc [.ref x0, .int p0, .int p1] (fun U => U.heap.size = sz ∧ va_P (dC, dI) vwCl [(x0, .inr (1, [.ref a1, .ref a2, .ref a3, .int fi, .int me])), (a1, .inr (0, [.ref b1, .int (nI nh)])), (b1, .inl (cA, 2100, .inl fh)), (a2, .inr (0, [.ref b2, .int (nI nr)])), (b2, .inl (cA, 2100, .inl fr)), (a3, .inr (0, [.ref b3, .int (nI nk)])), (b3, .inl (cA, 2100, .inl fk))] U.heap ∧ va_K (dC, dI) vwCl [(cA, .int)] U ∧ va_D (fun _ => True) [(x0, .inr (1, [.ref a1, .ref a2, .ref a3, .int fi, .int me])), (a1, .inr (0, [.ref b1, .int (nI nh)])), (b1, .inl (cA, 2100, .inl fh)), (a2, .inr (0, [.ref b2, .int (nI nr)])), (b2, .inl (cA, 2100, .inl fr)), (a3, .inr (0, [.ref b3, .int (nI nk)])), (b3, .inl (cA, 2100, .inl fk))] ∧ qNest U)) (va_Qi (fun (r : Int32) (u : qS) => (r, u) = qInsert p0 p1 ((gh, nh), (gr, nr), (gk, nk), fi, me)) (at_H dC dI (va_A [(x0, .inr (1, [.ref a1, .ref a2, .ref a3, .int fi, .int me])), (a1, .inr (0, [.ref b1, .int (nI nh)])), (b1, .inl (cA, 2100, .inl fh)), (a2, .inr (0, [.ref b2, .int (nI nr)])), (b2, .inl (cA, 2100, .inl fr)), (a3, .inr (0, [.ref b3, .int (nI nk)])), (b3, .inl (cA, 2100, .inl fk))] sz) x0 a1 b1 a2 b2 a3 b3 cA) (va_A [(x0, .inr (1, [.ref a1, .ref a2, .ref a3, .int fi, .int me])), (a1, .inr (0, [.ref b1, .int (nI nh)])), (b1, .inl (cA, 2100, .inl fh)), (a2, .inr (0, [.ref b2, .int (nI nr)])), (b2, .inl (cA, 2100, .inl fr)), (a3, .inr (0, [.ref b3, .int (nI nk)])), (b3, .inl (cA, 2100, .inl fk))] sz)) 0 0 (va_A [(x0, .inr (1, [.ref a1, .ref a2, .ref a3, .int fi, .int me])), (a1, .inr (0, [.ref b1, .int (nI nh)])), (b1, .inl (cA, 2100, .inl fh)), (a2, .inr (0, [.ref b2, .int (nI nr)])), (b2, .inl (cA, 2100, .inl fr)), (a3, .inr (0, [.ref b3, .int (nI nk)])), (b3, .inl (cA, 2100, .inl fk))] sz) := by
  refine Met.ofW (cc := cX1_insert) (maxL := 3) (ret := (some .int)) (by decide +kernel) rfl ?_
  intro p e s m args below meth c s₁ B hml hv
  obtain ⟨rfl, hsz, hP, hK, hD0, hN⟩ := hv
  have hx := B.exec
  have hb := B.bytes
  have hr := B.returns
  have hts := atoms_spec (ws := wsX1_insert) B.pre
  have hown : s.vm.findClass RX1 = some m.cls := findClass_of_methodNamed B.named
  have hlocks := B.notSynchronized
  subst hsz
  have hD := hD0.self (sz := s.heap.size)
  generalize hAe : va_A [(x0, .inr (1, [.ref a1, .ref a2, .ref a3, .int fi, .int me])), (a1, .inr (0, [.ref b1, .int (nI nh)])), (b1, .inl (cA, 2100, .inl fh)), (a2, .inr (0, [.ref b2, .int (nI nr)])), (b2, .inl (cA, 2100, .inl fr)), (a3, .inr (0, [.ref b3, .int (nI nk)])), (b3, .inl (cA, 2100, .inl fk))] s.heap.size = A at hD ⊢
  have hA : ∀ q : Nat, s.heap.size ≤ q → A q := fun q h => by rw [← hAe]; exact Or.inr h
  have hS : va_S A s.heap s.heap [] := va_S.rf
  have hl := lv_entry ([.ref x0, .int p0, .int p1]) (n := 3) (Nat.le_of_ble_eq_true rfl)
  rw [lg_entry_eq]
  generalize (lg_sl ([.ref x0, .int p0, .int p1]) ++ List.replicate (3 - (lg_sl ([.ref x0, .int p0, .int p1])).length) Slot.unset).toArray = ls at hl ⊢
  have hl : lv_has ls 3 [(0, .ref x0), (1, .int p0), (2, .int p1)] := hl
  rcases qHe_c p0 (n := nk) (by omega) with h | ⟨k, hk, rfl⟩
  · refine lv_aload_n hx hb dX1_insert_0 rfl (lv_at hl 0 rfl) ?_
    refine va_get (D := (dC, dI)) (ci := 1) (v := .ref a3) (C := RX1) (T := TX1) (N := 5) hx hb hts inX1_insert_X1 hown hK hP 0 rfl rfl 2 (by decide) (hts (.fieldLink RX1 19 "QueueHall" "chainRow" "LQueueHall$Row;") (List.mem_of_getElem? (i := 1) (by decide +kernel))) (fun _ h9 => h9) rfl dX1_insert_1 ?_
    refine lv_iload_n hx hb dX1_insert_4 rfl (lv_at hl 1 rfl) ?_
    have hPc := hP.sub (ws' := [(a3, .inr (0, [.ref b3, .int (nI nk)]))]) [5] rfl
    have hKc := hK.sub (tys' := []) [] rfl
    refine q_csiE (va_runVN (As := [.int p0]) (rest := []) ⟨hx, hb, hml, hown, hts⟩ (c_Row_hasPlaceOrEnd l dC dI a3 b3 nk p0) ⟨va_cnB 1 hts gX1_insert_X0_hasPlaceOrEnd rfl rfl rfl (qN_hasPlaceOrEnd hN) (hts (.initialized RX0) (List.mem_of_getElem? (i := 4) (by decide +kernel))) (by decide +kernel) ⟨Nat.le_of_ble_eq_true rfl, Nat.le_of_ble_eq_true rfl⟩, (hts (.instanceMethod yX0_hasPlaceOrEnd) (List.mem_of_getElem? (i := 2) (by decide +kernel))), (hts (.selects RX0 yX0_hasPlaceOrEnd yX0_hasPlaceOrEnd) (List.mem_of_getElem? (i := 3) (by decide +kernel)))⟩ ⟨q_blR, va_recv hKc hPc (ci := 0) (q0 := 0) rfl rfl, fun U hU hW => ⟨rfl, by rw [hU]; exact hPc, va_K.moved hW.alike hKc⟩⟩ rfl rfl hl.1 rfl (lv_room (Nat.le_of_ble_eq_true rfl)) dX1_insert_5 ⟨Nat.le_of_ble_eq_true rfl, Nat.le_of_ble_eq_true rfl⟩) ?_
    refine q_top (y := 0) h ?_
    refine lv_if_ne (tgt := 13) hx hb dX1_insert_8 (by decide) (fun c_0 => absurd (show (0 : Int32) = (0 : Int32) from (by decide)) c_0) (fun c_1 => ?_)
    refine lv_iconst (v := -1) hx hb dX1_insert_11 (by decide) ?_
    exact W.iret (v := -1) hx hb hr (fun t ht hW => ⟨⟨-1, ((gh, nh), (gr, nr), (gk, nk), fi, me), rfl, (by simp only [qInsert, if_pos h]), fh, fr, fk, ha1, ha2, ha3, by rw [ht]; exact hP, va_K.moved hW.alike hK, hD⟩, hS.F ht⟩) hS.2.2 dX1_insert_12
  · refine lv_aload_n hx hb dX1_insert_0 rfl (lv_at hl 0 rfl) ?_
    refine va_get (D := (dC, dI)) (ci := 1) (v := .ref a3) (C := RX1) (T := TX1) (N := 5) hx hb hts inX1_insert_X1 hown hK hP 0 rfl rfl 2 (by decide) (hts (.fieldLink RX1 19 "QueueHall" "chainRow" "LQueueHall$Row;") (List.mem_of_getElem? (i := 1) (by decide +kernel))) (fun _ h9 => h9) rfl dX1_insert_1 ?_
    refine lv_iload_n hx hb dX1_insert_4 rfl (lv_at hl 1 rfl) ?_
    have hPc := hP.sub (ws' := [(a3, .inr (0, [.ref b3, .int (nI nk)]))]) [5] rfl
    have hKc := hK.sub (tys' := []) [] rfl
    refine q_csiE (va_runVN (As := [.int (nI k)]) (rest := []) ⟨hx, hb, hml, hown, hts⟩ (c_Row_hasPlaceOrEnd l dC dI a3 b3 nk (nI k)) ⟨va_cnB 1 hts gX1_insert_X0_hasPlaceOrEnd rfl rfl rfl (qN_hasPlaceOrEnd hN) (hts (.initialized RX0) (List.mem_of_getElem? (i := 4) (by decide +kernel))) (by decide +kernel) ⟨Nat.le_of_ble_eq_true rfl, Nat.le_of_ble_eq_true rfl⟩, (hts (.instanceMethod yX0_hasPlaceOrEnd) (List.mem_of_getElem? (i := 2) (by decide +kernel))), (hts (.selects RX0 yX0_hasPlaceOrEnd yX0_hasPlaceOrEnd) (List.mem_of_getElem? (i := 3) (by decide +kernel)))⟩ ⟨q_blR, va_recv hKc hPc (ci := 0) (q0 := 0) rfl rfl, fun U hU hW => ⟨rfl, by rw [hU]; exact hPc, va_K.moved hW.alike hKc⟩⟩ rfl rfl hl.1 rfl (lv_room (Nat.le_of_ble_eq_true rfl)) dX1_insert_5 ⟨Nat.le_of_ble_eq_true rfl, Nat.le_of_ble_eq_true rfl⟩) ?_
    refine q_top (y := 1) (qHe_in (by omega) (by omega)) ?_
    refine lv_if_ne (tgt := 13) hx hb dX1_insert_8 (by decide) (fun c_2 => ?_) (fun c_0 => absurd c_0 (show ¬ (1 : Int32) = (0 : Int32) from (by decide)))
    refine lv_aload_n hx hb dX1_insert_13 rfl (lv_at hl 0 rfl) ?_
    refine va_get (D := (dC, dI)) (ci := 1) (v := .ref a3) (C := RX1) (T := TX1) (N := 5) hx hb hts inX1_insert_X1 hown hK hP 0 rfl rfl 2 (by decide) (hts (.fieldLink RX1 19 "QueueHall" "chainRow" "LQueueHall$Row;") (List.mem_of_getElem? (i := 1) (by decide +kernel))) (fun _ h9 => h9) rfl dX1_insert_14 ?_
    refine lv_iload_n hx hb dX1_insert_17 rfl (lv_at hl 1 rfl) ?_
    refine lv_iload_n hx hb dX1_insert_18 rfl (lv_at hl 2 rfl) ?_
    have hPc := hP.sub (ws' := [(a3, .inr (0, [.ref b3, .int (nI nk)])), (b3, .inl (cA, 2100, .inl fk))]) [5, 6] rfl
    have hKc := hK.sub (tys' := [(cA, .int)]) [0] rfl
    have hDc := hD.sub (ws' := [(a3, .inr (0, [.ref b3, .int (nI nk)])), (b3, .inl (cA, 2100, .inl fk))]) [5, 6] (by decide) rfl
    have hFc := va_free (wc := [(a3, .inr (0, [.ref b3, .int (nI nk)])), (b3, .inl (cA, 2100, .inl fk))]) hD hS hA [5, 6] rfl
    refine va_calli (va_runVN (As := [.int (nI k), .int p1]) (rest := []) ⟨hx, hb, hml, hown, hts⟩ (c_Row_put l dC dI s.heap.size a3 b3 nk cA fk gk (nI k) p1 (by omega) ha3) ⟨va_cnB 2 hts gX1_insert_X0_put rfl rfl rfl (qN_put hN) (hts (.initialized RX0) (List.mem_of_getElem? (i := 4) (by decide +kernel))) (by decide +kernel) ⟨Nat.le_of_ble_eq_true rfl, Nat.le_of_ble_eq_true rfl⟩, (hts (.instanceMethod yX0_put) (List.mem_of_getElem? (i := 7) (by decide +kernel))), (hts (.selects RX0 yX0_put yX0_put) (List.mem_of_getElem? (i := 8) (by decide +kernel)))⟩ ⟨q_blW, va_recv hKc hPc (ci := 0) (q0 := 0) rfl rfl, fun U hU hW => ⟨rfl, by rw [hU], by rw [hU]; exact hPc, va_K.moved hW.alike hKc, hDc.weaken (fun _ _ _ _ => trivial)⟩⟩ rfl rfl hl.1 rfl (lv_room (Nat.le_of_ble_eq_true rfl)) dX1_insert_19 ⟨Nat.le_of_ble_eq_true rfl, Nat.le_of_ble_eq_true rfl⟩) hS (fun q _ h => hFc q h) hFc (fun r_3 u_3 t_3 H1 locs ht hvm hw hB hz1 hk1 hS => ?_)
    have hw := hw.trans (qPut_i (k := k) (by omega) (by omega))
    obtain ⟨rfl, rfl⟩ := Prod.mk.inj hw
    obtain ⟨f_3, hg_3, hP1, hK1, hD1⟩ := hB
    rw [ht] at hP1
    obtain ⟨hP, hD⟩ := q_join (wr := [(x0, .inr (1, [.ref a1, .ref a2, .ref a3, .int fi, .int me])), (a1, .inr (0, [.ref b1, .int (nI nh)])), (b1, .inl (cA, 2100, .inl fh)), (a2, .inr (0, [.ref b2, .int (nI nr)])), (b2, .inl (cA, 2100, .inl fr))]) (w1 := [(a3, .inr (0, [.ref b3, .int (nI (nk + 1))])), (b3, .inl (cA, 2100, .inl f_3))]) (wz := [(x0, .inr (1, [.ref a1, .ref a2, .ref a3, .int fi, .int me])), (a1, .inr (0, [.ref b1, .int (nI nh)])), (b1, .inl (cA, 2100, .inl fh)), (a2, .inr (0, [.ref b2, .int (nI nr)])), (b2, .inl (cA, 2100, .inl fr)), (a3, .inr (0, [.ref b3, .int (nI (nk + 1))])), (b3, .inl (cA, 2100, .inl f_3))]) hP hD [5, 6] [0, 1, 2, 3, 4] [0, 1, 2, 3, 4, 5, 6] rfl rfl (by decide) (by decide) hk1 hFc hP1 hD1 rfl rfl (by decide)
    generalize H1 = H at hP hS ⊢
    refine lv_if_ne (tgt := 28) hx hb dX1_insert_22 (by decide) (fun c_4 => ?_) (fun c_0 => absurd c_0 (show ¬ (1 : Int32) = (0 : Int32) from (by decide)))
    refine lv_aload_n hx hb dX1_insert_28 rfl (lv_at hl 0 rfl) ?_
    have hPc := hP.sub (ws' := [(x0, .inr (1, [.ref a1, .ref a2, .ref a3, .int fi, .int me]))]) [0] rfl
    have hKc := hK.sub (tys' := []) [] rfl
    have hDc := hD.sub (ws' := [(x0, .inr (1, [.ref a1, .ref a2, .ref a3, .int fi, .int me]))]) [0] (by decide) rfl
    have hFc := va_free (wc := [(x0, .inr (1, [.ref a1, .ref a2, .ref a3, .int fi, .int me]))]) hD hS hA [0] rfl
    refine va_callv (va_runV (As := []) (rest := []) ⟨hx, hb, hml, hown, hts⟩ (c_Hall_liftFinger l dC dI H.size x0 a1 a2 a3 fi me) (cwV 0 hts gX1_insert_X1_liftFinger_v rfl rfl rfl (by decide +kernel) ⟨Nat.le_of_ble_eq_true rfl, Nat.le_of_ble_eq_true rfl⟩) ⟨q_blW, va_recv hKc hPc (ci := 1) (q0 := 0) rfl rfl, fun U hU hW => ⟨rfl, by rw [hU], by rw [hU]; exact hPc, va_K.moved hW.alike hKc, hDc.weaken (fun _ _ _ _ => trivial)⟩⟩ rfl rfl hl.1 rfl (lv_room (Nat.le_of_ble_eq_true rfl)) dX1_insert_29 ⟨Nat.le_of_ble_eq_true rfl, Nat.le_of_ble_eq_true rfl⟩) hS (fun q _ h => hFc q h) hFc (fun u_5 t_5 H1 locs ht hvm hw hB hz1 hk1 hS => ?_)
    subst hw
    obtain ⟨hP1, hK1, hD1⟩ := hB
    rw [ht] at hP1
    obtain ⟨hP, hD⟩ := q_join (wr := [(a1, .inr (0, [.ref b1, .int (nI nh)])), (b1, .inl (cA, 2100, .inl fh)), (a2, .inr (0, [.ref b2, .int (nI nr)])), (b2, .inl (cA, 2100, .inl fr)), (a3, .inr (0, [.ref b3, .int (nI (nk + 1))])), (b3, .inl (cA, 2100, .inl f_3))]) (w1 := [(x0, .inr (1, [.ref a1, .ref a2, .ref a3, .int (-1), .int (-1)]))]) (wz := [(x0, .inr (1, [.ref a1, .ref a2, .ref a3, .int (-1), .int (-1)])), (a1, .inr (0, [.ref b1, .int (nI nh)])), (b1, .inl (cA, 2100, .inl fh)), (a2, .inr (0, [.ref b2, .int (nI nr)])), (b2, .inl (cA, 2100, .inl fr)), (a3, .inr (0, [.ref b3, .int (nI (nk + 1))])), (b3, .inl (cA, 2100, .inl f_3))]) hP hD [0] [1, 2, 3, 4, 5, 6] [6, 0, 1, 2, 3, 4, 5] rfl rfl (by decide) (by decide) hk1 hFc hP1 hD1 rfl rfl (by decide)
    generalize H1 = H at hP hS ⊢
    refine lv_aload_n hx hb dX1_insert_32 rfl (lv_at hl 0 rfl) ?_
    refine va_get (D := (dC, dI)) (ci := 1) (v := .ref a3) (C := RX1) (T := TX1) (N := 5) hx hb hts inX1_insert_X1 hown hK hP 0 rfl rfl 2 (by decide) (hts (.fieldLink RX1 19 "QueueHall" "chainRow" "LQueueHall$Row;") (List.mem_of_getElem? (i := 1) (by decide +kernel))) (fun _ h9 => h9) rfl dX1_insert_33 ?_
    refine va_getN (D := (dC, dI)) (ci := 0) (v := .int (nI (nk + 1))) (C := RX0) (T := TX0) (N := 2) hx hb hts inX1_insert_X0 hown hK hP 5 rfl rfl 1 (by decide) (qN_count hN) (fun _ h9 => h9) rfl dX1_insert_36 ?_
    exact W.iret (v := nI (nk + 1)) hx hb hr (fun t ht hW => ⟨⟨nI (nk + 1), ((gh, nh), (gr, nr), (qIns gk k p1, nk + 1), -1, -1), rfl, (by simp only [qInsert, qHe_in hk (show nk < 2 ^ 31 by omega), if_neg q_ne10, nI_clamp (show k < 2 ^ 31 by omega)]), fh, fr, f_3, ha1, ha2, hg_3, by rw [ht]; exact hP, va_K.moved hW.alike hK, hD⟩, hS.F ht⟩) hS.2.2 dX1_insert_39

set_option maxHeartbeats 4000000 in
set_option maxRecDepth 100000 in
theorem c_Hall_point (l : Launch) (dC : Nat → ClassId) (dI : Nat → Nat → Nat) (sz : Nat) (x0 a1 b1 a2 b2 a3 b3 nh nr nk : Nat) (cA : ClassId) (fh gh fr gr fk gk : Nat → Int32) (fi me : Int32) (p0 : Int32) (hn : nh + nr + nk < 2000) (ha1 : qAg nh fh gh) (ha2 : qAg nr fr gr) (ha3 : qAg nk fk gk) (hF : qFok fi me nk) : Met l yX1_point wsX1_point ({ frames := 2, cells := 0, slots := 0, locals := 58 }) (va_Pc [.ref x0, .int p0] (fun U => U.heap.size = sz ∧ va_P (dC, dI) vwCl [(x0, .inr (1, [.ref a1, .ref a2, .ref a3, .int fi, .int me])), (a1, .inr (0, [.ref b1, .int (nI nh)])), (b1, .inl (cA, 2100, .inl fh)), (a2, .inr (0, [.ref b2, .int (nI nr)])), (b2, .inl (cA, 2100, .inl fr)), (a3, .inr (0, [.ref b3, .int (nI nk)])), (b3, .inl (cA, 2100, .inl fk))] U.heap ∧ va_K (dC, dI) vwCl [(cA, .int)] U ∧ va_D (fun _ => True) [(x0, .inr (1, [.ref a1, .ref a2, .ref a3, .int fi, .int me])), (a1, .inr (0, [.ref b1, .int (nI nh)])), (b1, .inl (cA, 2100, .inl fh)), (a2, .inr (0, [.ref b2, .int (nI nr)])), (b2, .inl (cA, 2100, .inl fr)), (a3, .inr (0, [.ref b3, .int (nI nk)])), (b3, .inl (cA, 2100, .inl fk))] ∧ qNest U)) (va_Qi (fun (r : Int32) (u : qS) => (r, u) = qPoint p0 ((gh, nh), (gr, nr), (gk, nk), fi, me)) (at_H dC dI (va_A [(x0, .inr (1, [.ref a1, .ref a2, .ref a3, .int fi, .int me])), (a1, .inr (0, [.ref b1, .int (nI nh)])), (b1, .inl (cA, 2100, .inl fh)), (a2, .inr (0, [.ref b2, .int (nI nr)])), (b2, .inl (cA, 2100, .inl fr)), (a3, .inr (0, [.ref b3, .int (nI nk)])), (b3, .inl (cA, 2100, .inl fk))] sz) x0 a1 b1 a2 b2 a3 b3 cA) (va_A [(x0, .inr (1, [.ref a1, .ref a2, .ref a3, .int fi, .int me])), (a1, .inr (0, [.ref b1, .int (nI nh)])), (b1, .inl (cA, 2100, .inl fh)), (a2, .inr (0, [.ref b2, .int (nI nr)])), (b2, .inl (cA, 2100, .inl fr)), (a3, .inr (0, [.ref b3, .int (nI nk)])), (b3, .inl (cA, 2100, .inl fk))] sz)) 0 0 (va_A [(x0, .inr (1, [.ref a1, .ref a2, .ref a3, .int fi, .int me])), (a1, .inr (0, [.ref b1, .int (nI nh)])), (b1, .inl (cA, 2100, .inl fh)), (a2, .inr (0, [.ref b2, .int (nI nr)])), (b2, .inl (cA, 2100, .inl fr)), (a3, .inr (0, [.ref b3, .int (nI nk)])), (b3, .inl (cA, 2100, .inl fk))] sz) := by
  refine Met.ofW (cc := cX1_point) (maxL := 2) (ret := (some .int)) (by decide +kernel) rfl ?_
  intro p e s m args below meth c s₁ B hml hv
  obtain ⟨rfl, hsz, hP, hK, hD0, hN⟩ := hv
  have hx := B.exec
  have hb := B.bytes
  have hr := B.returns
  have hts := atoms_spec (ws := wsX1_point) B.pre
  have hown : s.vm.findClass RX1 = some m.cls := findClass_of_methodNamed B.named
  have hlocks := B.notSynchronized
  subst hsz
  have hD := hD0.self (sz := s.heap.size)
  generalize hAe : va_A [(x0, .inr (1, [.ref a1, .ref a2, .ref a3, .int fi, .int me])), (a1, .inr (0, [.ref b1, .int (nI nh)])), (b1, .inl (cA, 2100, .inl fh)), (a2, .inr (0, [.ref b2, .int (nI nr)])), (b2, .inl (cA, 2100, .inl fr)), (a3, .inr (0, [.ref b3, .int (nI nk)])), (b3, .inl (cA, 2100, .inl fk))] s.heap.size = A at hD ⊢
  have hA : ∀ q : Nat, s.heap.size ≤ q → A q := fun q h => by rw [← hAe]; exact Or.inr h
  have hS : va_S A s.heap s.heap [] := va_S.rf
  have hl := lv_entry ([.ref x0, .int p0]) (n := 2) (Nat.le_of_ble_eq_true rfl)
  rw [lg_entry_eq]
  generalize (lg_sl ([.ref x0, .int p0]) ++ List.replicate (2 - (lg_sl ([.ref x0, .int p0])).length) Slot.unset).toArray = ls at hl ⊢
  have hl : lv_has ls 2 [(0, .ref x0), (1, .int p0)] := hl
  rcases qHe_c p0 (n := nk) (by omega) with h | ⟨k, hk, rfl⟩
  · refine lv_aload_n hx hb dX1_point_0 rfl (lv_at hl 0 rfl) ?_
    refine va_get (D := (dC, dI)) (ci := 1) (v := .ref a3) (C := RX1) (T := TX1) (N := 5) hx hb hts inX1_point_X1 hown hK hP 0 rfl rfl 2 (by decide) (hts (.fieldLink RX1 19 "QueueHall" "chainRow" "LQueueHall$Row;") (List.mem_of_getElem? (i := 1) (by decide +kernel))) (fun _ h9 => h9) rfl dX1_point_1 ?_
    refine lv_iload_n hx hb dX1_point_4 rfl (lv_at hl 1 rfl) ?_
    have hPc := hP.sub (ws' := [(a3, .inr (0, [.ref b3, .int (nI nk)]))]) [5] rfl
    have hKc := hK.sub (tys' := []) [] rfl
    refine q_csiE (va_runVN (As := [.int p0]) (rest := []) ⟨hx, hb, hml, hown, hts⟩ (c_Row_hasPlaceOrEnd l dC dI a3 b3 nk p0) ⟨va_cnB 1 hts gX1_point_X0_hasPlaceOrEnd rfl rfl rfl (qN_hasPlaceOrEnd hN) (hts (.initialized RX0) (List.mem_of_getElem? (i := 4) (by decide +kernel))) (by decide +kernel) ⟨Nat.le_of_ble_eq_true rfl, Nat.le_of_ble_eq_true rfl⟩, (hts (.instanceMethod yX0_hasPlaceOrEnd) (List.mem_of_getElem? (i := 2) (by decide +kernel))), (hts (.selects RX0 yX0_hasPlaceOrEnd yX0_hasPlaceOrEnd) (List.mem_of_getElem? (i := 3) (by decide +kernel)))⟩ ⟨q_blR, va_recv hKc hPc (ci := 0) (q0 := 0) rfl rfl, fun U hU hW => ⟨rfl, by rw [hU]; exact hPc, va_K.moved hW.alike hKc⟩⟩ rfl rfl hl.1 rfl (lv_room (Nat.le_of_ble_eq_true rfl)) dX1_point_5 ⟨Nat.le_of_ble_eq_true rfl, Nat.le_of_ble_eq_true rfl⟩) ?_
    refine q_top (y := 0) h ?_
    refine lv_if_ne (tgt := 13) hx hb dX1_point_8 (by decide) (fun c_0 => absurd (show (0 : Int32) = (0 : Int32) from (by decide)) c_0) (fun c_1 => ?_)
    refine lv_iconst (v := -1) hx hb dX1_point_11 (by decide) ?_
    exact W.iret (v := -1) hx hb hr (fun t ht hW => ⟨⟨-1, ((gh, nh), (gr, nr), (gk, nk), fi, me), rfl, (by simp only [qPoint, if_pos h]), fh, fr, fk, ha1, ha2, ha3, by rw [ht]; exact hP, va_K.moved hW.alike hK, hD⟩, hS.F ht⟩) hS.2.2 dX1_point_12
  · refine lv_aload_n hx hb dX1_point_0 rfl (lv_at hl 0 rfl) ?_
    refine va_get (D := (dC, dI)) (ci := 1) (v := .ref a3) (C := RX1) (T := TX1) (N := 5) hx hb hts inX1_point_X1 hown hK hP 0 rfl rfl 2 (by decide) (hts (.fieldLink RX1 19 "QueueHall" "chainRow" "LQueueHall$Row;") (List.mem_of_getElem? (i := 1) (by decide +kernel))) (fun _ h9 => h9) rfl dX1_point_1 ?_
    refine lv_iload_n hx hb dX1_point_4 rfl (lv_at hl 1 rfl) ?_
    have hPc := hP.sub (ws' := [(a3, .inr (0, [.ref b3, .int (nI nk)]))]) [5] rfl
    have hKc := hK.sub (tys' := []) [] rfl
    refine q_csiE (va_runVN (As := [.int (nI k)]) (rest := []) ⟨hx, hb, hml, hown, hts⟩ (c_Row_hasPlaceOrEnd l dC dI a3 b3 nk (nI k)) ⟨va_cnB 1 hts gX1_point_X0_hasPlaceOrEnd rfl rfl rfl (qN_hasPlaceOrEnd hN) (hts (.initialized RX0) (List.mem_of_getElem? (i := 4) (by decide +kernel))) (by decide +kernel) ⟨Nat.le_of_ble_eq_true rfl, Nat.le_of_ble_eq_true rfl⟩, (hts (.instanceMethod yX0_hasPlaceOrEnd) (List.mem_of_getElem? (i := 2) (by decide +kernel))), (hts (.selects RX0 yX0_hasPlaceOrEnd yX0_hasPlaceOrEnd) (List.mem_of_getElem? (i := 3) (by decide +kernel)))⟩ ⟨q_blR, va_recv hKc hPc (ci := 0) (q0 := 0) rfl rfl, fun U hU hW => ⟨rfl, by rw [hU]; exact hPc, va_K.moved hW.alike hKc⟩⟩ rfl rfl hl.1 rfl (lv_room (Nat.le_of_ble_eq_true rfl)) dX1_point_5 ⟨Nat.le_of_ble_eq_true rfl, Nat.le_of_ble_eq_true rfl⟩) ?_
    refine q_top (y := 1) (qHe_in (by omega) (by omega)) ?_
    refine lv_if_ne (tgt := 13) hx hb dX1_point_8 (by decide) (fun c_2 => ?_) (fun c_0 => absurd c_0 (show ¬ (1 : Int32) = (0 : Int32) from (by decide)))
    refine lv_aload_n hx hb dX1_point_13 rfl (lv_at hl 0 rfl) ?_
    refine lv_iload_n hx hb dX1_point_14 rfl (lv_at hl 1 rfl) ?_
    refine va_put (D := (dC, dI)) (ci := 1) (v := .int (nI k)) (ty := .int) (C := RX1) (T := TX1) (N := 5) hx hb hts inX1_point_X1 tyX1 tyX1_ok nmX1 hown hK hP hD hS 0 rfl rfl 3 (by decide) (hts (.fieldLink RX1 22 "QueueHall" "fingerPlace" "I") (List.mem_of_getElem? (i := 7) (by decide +kernel))) (fun _ h9 => h9) rfl (by decide +kernel) rfl rfl (Nat.le_of_ble_eq_true rfl) dX1_point_15 (fun H locs hP hD hS => ?_)
    have hP : va_P (dC, dI) vwCl [(x0, .inr (1, [.ref a1, .ref a2, .ref a3, .int (nI k), .int me])), (a1, .inr (0, [.ref b1, .int (nI nh)])), (b1, .inl (cA, 2100, .inl fh)), (a2, .inr (0, [.ref b2, .int (nI nr)])), (b2, .inl (cA, 2100, .inl fr)), (a3, .inr (0, [.ref b3, .int (nI nk)])), (b3, .inl (cA, 2100, .inl fk))] H := hP
    have hD : va_D A [(x0, .inr (1, [.ref a1, .ref a2, .ref a3, .int (nI k), .int me])), (a1, .inr (0, [.ref b1, .int (nI nh)])), (b1, .inl (cA, 2100, .inl fh)), (a2, .inr (0, [.ref b2, .int (nI nr)])), (b2, .inl (cA, 2100, .inl fr)), (a3, .inr (0, [.ref b3, .int (nI nk)])), (b3, .inl (cA, 2100, .inl fk))] := hD
    refine lv_aload_n hx hb dX1_point_18 rfl (lv_at hl 0 rfl) ?_
    refine lv_iconst (v := -1) hx hb dX1_point_19 (by decide) ?_
    refine va_put (D := (dC, dI)) (ci := 1) (v := .int (-1)) (ty := .int) (C := RX1) (T := TX1) (N := 5) hx hb hts inX1_point_X1 tyX1 tyX1_ok nmX1 hown hK hP hD hS 0 rfl rfl 4 (by decide) (hts (.fieldLink RX1 26 "QueueHall" "metPlace" "I") (List.mem_of_getElem? (i := 8) (by decide +kernel))) (fun _ h9 => h9) rfl (by decide +kernel) rfl rfl (Nat.le_of_ble_eq_true rfl) dX1_point_20 (fun H locs hP hD hS => ?_)
    have hP : va_P (dC, dI) vwCl [(x0, .inr (1, [.ref a1, .ref a2, .ref a3, .int (nI k), .int (-1)])), (a1, .inr (0, [.ref b1, .int (nI nh)])), (b1, .inl (cA, 2100, .inl fh)), (a2, .inr (0, [.ref b2, .int (nI nr)])), (b2, .inl (cA, 2100, .inl fr)), (a3, .inr (0, [.ref b3, .int (nI nk)])), (b3, .inl (cA, 2100, .inl fk))] H := hP
    have hD : va_D A [(x0, .inr (1, [.ref a1, .ref a2, .ref a3, .int (nI k), .int (-1)])), (a1, .inr (0, [.ref b1, .int (nI nh)])), (b1, .inl (cA, 2100, .inl fh)), (a2, .inr (0, [.ref b2, .int (nI nr)])), (b2, .inl (cA, 2100, .inl fr)), (a3, .inr (0, [.ref b3, .int (nI nk)])), (b3, .inl (cA, 2100, .inl fk))] := hD
    refine lv_iload_n hx hb dX1_point_23 rfl (lv_at hl 1 rfl) ?_
    exact W.iret (v := nI k) hx hb hr (fun t ht hW => ⟨⟨nI k, ((gh, nh), (gr, nr), (gk, nk), nI k, -1), rfl, (by simp only [qPoint, qHe_in hk (show nk < 2 ^ 31 by omega), if_neg q_ne10, nI_clamp (show k < 2 ^ 31 by omega)]), fh, fr, fk, ha1, ha2, ha3, by rw [ht]; exact hP, va_K.moved hW.alike hK, hD⟩, hS.F ht⟩) hS.2.2 dX1_point_24

set_option maxHeartbeats 4000000 in
set_option maxRecDepth 100000 in
theorem c_Hall_change (l : Launch) (dC : Nat → ClassId) (dI : Nat → Nat → Nat) (sz : Nat) (x0 a1 b1 a2 b2 a3 b3 nh nr nk : Nat) (cA : ClassId) (fh gh fr gr fk gk : Nat → Int32) (fi me : Int32) (p0 p1 p2 : Int32) (hn : nh + nr + nk < 2000) (ha1 : qAg nh fh gh) (ha2 : qAg nr fr gr) (ha3 : qAg nk fk gk) (hF : qFok fi me nk) : Met l yX1_change wsX1_change ({ frames := 2, cells := 0, slots := 0, locals := 58 }) (va_Pc [.ref x0, .int p0, .int p1, .int p2] (fun U => U.heap.size = sz ∧ va_P (dC, dI) vwCl [(x0, .inr (1, [.ref a1, .ref a2, .ref a3, .int fi, .int me])), (a1, .inr (0, [.ref b1, .int (nI nh)])), (b1, .inl (cA, 2100, .inl fh)), (a2, .inr (0, [.ref b2, .int (nI nr)])), (b2, .inl (cA, 2100, .inl fr)), (a3, .inr (0, [.ref b3, .int (nI nk)])), (b3, .inl (cA, 2100, .inl fk))] U.heap ∧ va_K (dC, dI) vwCl [(cA, .int)] U ∧ va_D (fun _ => True) [(x0, .inr (1, [.ref a1, .ref a2, .ref a3, .int fi, .int me])), (a1, .inr (0, [.ref b1, .int (nI nh)])), (b1, .inl (cA, 2100, .inl fh)), (a2, .inr (0, [.ref b2, .int (nI nr)])), (b2, .inl (cA, 2100, .inl fr)), (a3, .inr (0, [.ref b3, .int (nI nk)])), (b3, .inl (cA, 2100, .inl fk))] ∧ qNest U)) (va_Ql (fun (r : Int64) (u : qS) => (r, u) = qChange p0 p1 p2 ((gh, nh), (gr, nr), (gk, nk), fi, me)) (at_H dC dI (va_A [(x0, .inr (1, [.ref a1, .ref a2, .ref a3, .int fi, .int me])), (a1, .inr (0, [.ref b1, .int (nI nh)])), (b1, .inl (cA, 2100, .inl fh)), (a2, .inr (0, [.ref b2, .int (nI nr)])), (b2, .inl (cA, 2100, .inl fr)), (a3, .inr (0, [.ref b3, .int (nI nk)])), (b3, .inl (cA, 2100, .inl fk))] sz) x0 a1 b1 a2 b2 a3 b3 cA) (va_A [(x0, .inr (1, [.ref a1, .ref a2, .ref a3, .int fi, .int me])), (a1, .inr (0, [.ref b1, .int (nI nh)])), (b1, .inl (cA, 2100, .inl fh)), (a2, .inr (0, [.ref b2, .int (nI nr)])), (b2, .inl (cA, 2100, .inl fr)), (a3, .inr (0, [.ref b3, .int (nI nk)])), (b3, .inl (cA, 2100, .inl fk))] sz)) 0 0 (va_A [(x0, .inr (1, [.ref a1, .ref a2, .ref a3, .int fi, .int me])), (a1, .inr (0, [.ref b1, .int (nI nh)])), (b1, .inl (cA, 2100, .inl fh)), (a2, .inr (0, [.ref b2, .int (nI nr)])), (b2, .inl (cA, 2100, .inl fr)), (a3, .inr (0, [.ref b3, .int (nI nk)])), (b3, .inl (cA, 2100, .inl fk))] sz) := by
  refine Met.ofW (cc := cX1_change) (maxL := 6) (ret := (some .long)) (by decide +kernel) rfl ?_
  intro p e s m args below meth c s₁ B hml hv
  obtain ⟨rfl, hsz, hP, hK, hD0, hN⟩ := hv
  have hx := B.exec
  have hb := B.bytes
  have hr := B.returns
  have hts := atoms_spec (ws := wsX1_change) B.pre
  have hown : s.vm.findClass RX1 = some m.cls := findClass_of_methodNamed B.named
  have hlocks := B.notSynchronized
  subst hsz
  have hD := hD0.self (sz := s.heap.size)
  generalize hAe : va_A [(x0, .inr (1, [.ref a1, .ref a2, .ref a3, .int fi, .int me])), (a1, .inr (0, [.ref b1, .int (nI nh)])), (b1, .inl (cA, 2100, .inl fh)), (a2, .inr (0, [.ref b2, .int (nI nr)])), (b2, .inl (cA, 2100, .inl fr)), (a3, .inr (0, [.ref b3, .int (nI nk)])), (b3, .inl (cA, 2100, .inl fk))] s.heap.size = A at hD ⊢
  have hA : ∀ q : Nat, s.heap.size ≤ q → A q := fun q h => by rw [← hAe]; exact Or.inr h
  have hS : va_S A s.heap s.heap [] := va_S.rf
  have hl := lv_entry ([.ref x0, .int p0, .int p1, .int p2]) (n := 6) (Nat.le_of_ble_eq_true rfl)
  rw [lg_entry_eq]
  generalize (lg_sl ([.ref x0, .int p0, .int p1, .int p2]) ++ List.replicate (6 - (lg_sl ([.ref x0, .int p0, .int p1, .int p2])).length) Slot.unset).toArray = ls at hl ⊢
  have hl : lv_has ls 6 [(0, .ref x0), (1, .int p0), (2, .int p1), (3, .int p2)] := hl
  rcases qHp_c p0 (n := nk) (by omega) with h | ⟨k, hk, rfl⟩ <;> by_cases hz : p2 = 0
  · refine lv_iload_n hx hb dX1_change_0 rfl (lv_at hl 3 rfl) ?_
    refine lv_if_eq (tgt := 15) hx hb dX1_change_1 (by decide) (fun c_1 => ?_) (fun c_0 => absurd (show p2 = (0 : Int32) from hz) c_0)
    refine lv_aload_n hx hb dX1_change_15 rfl (lv_at hl 0 rfl) ?_
    refine va_get (D := (dC, dI)) (ci := 1) (v := .ref a3) (C := RX1) (T := TX1) (N := 5) hx hb hts inX1_change_X1 hown hK hP 0 rfl rfl 2 (by decide) (hts (.fieldLink RX1 19 "QueueHall" "chainRow" "LQueueHall$Row;") (List.mem_of_getElem? (i := 1) (by decide +kernel))) (fun _ h9 => h9) rfl dX1_change_16 ?_
    refine lv_iload_n hx hb dX1_change_19 rfl (lv_at hl 1 rfl) ?_
    refine lv_iload_n hx hb dX1_change_20 rfl (lv_at hl 2 rfl) ?_
    have hPc := hP.sub (ws' := [(a3, .inr (0, [.ref b3, .int (nI nk)])), (b3, .inl (cA, 2100, .inl fk))]) [5, 6] rfl
    have hKc := hK.sub (tys' := [(cA, .int)]) [0] rfl
    have hDc := hD.sub (ws' := [(a3, .inr (0, [.ref b3, .int (nI nk)])), (b3, .inl (cA, 2100, .inl fk))]) [5, 6] (by decide) rfl
    have hFc := va_free (wc := [(a3, .inr (0, [.ref b3, .int (nI nk)])), (b3, .inl (cA, 2100, .inl fk))]) hD hS hA [5, 6] rfl
    refine va_calll (va_runVN (As := [.int p0, .int p1]) (rest := []) ⟨hx, hb, hml, hown, hts⟩ (c_Row_swap l dC dI s.heap.size a3 b3 nk cA fk gk p0 p1 (by omega) ha3) ⟨va_cnB 2 hts gX1_change_X0_swap rfl rfl rfl (qN_swap hN) (hts (.initialized RX0) (List.mem_of_getElem? (i := 4) (by decide +kernel))) (by decide +kernel) ⟨Nat.le_of_ble_eq_true rfl, Nat.le_of_ble_eq_true rfl⟩, (hts (.instanceMethod yX0_swap) (List.mem_of_getElem? (i := 17) (by decide +kernel))), (hts (.selects RX0 yX0_swap yX0_swap) (List.mem_of_getElem? (i := 18) (by decide +kernel)))⟩ ⟨q_blW, va_recv hKc hPc (ci := 0) (q0 := 0) rfl rfl, fun U hU hW => ⟨rfl, by rw [hU], by rw [hU]; exact hPc, va_K.moved hW.alike hKc, hDc.weaken (fun _ _ _ _ => trivial)⟩⟩ rfl rfl hl.1 rfl (lv_room (Nat.le_of_ble_eq_true rfl)) dX1_change_21 ⟨Nat.le_of_ble_eq_true rfl, Nat.le_of_ble_eq_true rfl⟩) hS (fun q _ h => hFc q h) hFc (fun r_2 u_2 t_2 H1 locs ht hvm hw hB hz1 hk1 hS => ?_)
    have hw := hw.trans (qSwap_o h)
    obtain ⟨rfl, rfl⟩ := Prod.mk.inj hw
    obtain ⟨f_2, hg_2, hP1, hK1, hD1⟩ := hB
    rw [ht] at hP1
    obtain ⟨hP, hD⟩ := q_join (wr := [(x0, .inr (1, [.ref a1, .ref a2, .ref a3, .int fi, .int me])), (a1, .inr (0, [.ref b1, .int (nI nh)])), (b1, .inl (cA, 2100, .inl fh)), (a2, .inr (0, [.ref b2, .int (nI nr)])), (b2, .inl (cA, 2100, .inl fr))]) (w1 := [(a3, .inr (0, [.ref b3, .int (nI nk)])), (b3, .inl (cA, 2100, .inl f_2))]) (wz := [(x0, .inr (1, [.ref a1, .ref a2, .ref a3, .int fi, .int me])), (a1, .inr (0, [.ref b1, .int (nI nh)])), (b1, .inl (cA, 2100, .inl fh)), (a2, .inr (0, [.ref b2, .int (nI nr)])), (b2, .inl (cA, 2100, .inl fr)), (a3, .inr (0, [.ref b3, .int (nI nk)])), (b3, .inl (cA, 2100, .inl f_2))]) hP hD [5, 6] [0, 1, 2, 3, 4] [0, 1, 2, 3, 4, 5, 6] rfl rfl (by decide) (by decide) hk1 hFc hP1 hD1 rfl rfl (by decide)
    generalize H1 = H at hP hS ⊢
    refine lv_lstore (lv' := [(4, .long qNo), (0, .ref x0), (1, .int p0), (2, .int p1), (3, .int p2)]) hx hb dX1_change_24 hl (by decide) rfl (fun ls hl => ?_)
    refine lv_iload_n hx hb dX1_change_26 rfl (lv_at hl 4 rfl) ?_
    refine lv_if_eq (tgt := 43) hx hb dX1_change_27 (by decide) (fun c_3 => ?_) (fun c_0 => absurd (show p2 = (0 : Int32) from hz) c_0)
    refine lv_lload hx hb dX1_change_43 (lv_at hl 0 rfl) ?_
    exact W.lret (v := qNo) hx hb hr (fun t ht hW => ⟨⟨qNo, ((gh, nh), (gr, nr), (gk, nk), fi, me), rfl, (by simp only [qChange, if_pos h]), fh, fr, f_2, ha1, ha2, hg_2, by rw [ht]; exact hP, va_K.moved hW.alike hK, hD⟩, hS.F ht⟩) hS.2.2 dX1_change_45
  · refine lv_iload_n hx hb dX1_change_0 rfl (lv_at hl 3 rfl) ?_
    refine lv_if_eq (tgt := 15) hx hb dX1_change_1 (by decide) (fun c_0 => absurd c_0 (show ¬ p2 = (0 : Int32) from hz)) (fun c_4 => ?_)
    refine lv_aload_n hx hb dX1_change_4 rfl (lv_at hl 0 rfl) ?_
    refine va_get (D := (dC, dI)) (ci := 1) (v := .ref a3) (C := RX1) (T := TX1) (N := 5) hx hb hts inX1_change_X1 hown hK hP 0 rfl rfl 2 (by decide) (hts (.fieldLink RX1 19 "QueueHall" "chainRow" "LQueueHall$Row;") (List.mem_of_getElem? (i := 1) (by decide +kernel))) (fun _ h9 => h9) rfl dX1_change_5 ?_
    refine lv_iload_n hx hb dX1_change_8 rfl (lv_at hl 1 rfl) ?_
    have hPc := hP.sub (ws' := [(a3, .inr (0, [.ref b3, .int (nI nk)])), (b3, .inl (cA, 2100, .inl fk))]) [5, 6] rfl
    have hKc := hK.sub (tys' := [(cA, .int)]) [0] rfl
    have hDc := hD.sub (ws' := [(a3, .inr (0, [.ref b3, .int (nI nk)])), (b3, .inl (cA, 2100, .inl fk))]) [5, 6] (by decide) rfl
    have hFc := va_free (wc := [(a3, .inr (0, [.ref b3, .int (nI nk)])), (b3, .inl (cA, 2100, .inl fk))]) hD hS hA [5, 6] rfl
    refine va_calll (va_runVN (As := [.int p0]) (rest := []) ⟨hx, hb, hml, hown, hts⟩ (c_Row_take l dC dI s.heap.size a3 b3 nk cA fk gk p0 (by omega) ha3) ⟨va_cnB 1 hts gX1_change_X0_take rfl rfl rfl (qN_take hN) (hts (.initialized RX0) (List.mem_of_getElem? (i := 4) (by decide +kernel))) (by decide +kernel) ⟨Nat.le_of_ble_eq_true rfl, Nat.le_of_ble_eq_true rfl⟩, (hts (.instanceMethod yX0_take) (List.mem_of_getElem? (i := 2) (by decide +kernel))), (hts (.selects RX0 yX0_take yX0_take) (List.mem_of_getElem? (i := 3) (by decide +kernel)))⟩ ⟨q_blW, va_recv hKc hPc (ci := 0) (q0 := 0) rfl rfl, fun U hU hW => ⟨rfl, by rw [hU], by rw [hU]; exact hPc, va_K.moved hW.alike hKc, hDc.weaken (fun _ _ _ _ => trivial)⟩⟩ rfl rfl hl.1 rfl (lv_room (Nat.le_of_ble_eq_true rfl)) dX1_change_9 ⟨Nat.le_of_ble_eq_true rfl, Nat.le_of_ble_eq_true rfl⟩) hS (fun q _ h => hFc q h) hFc (fun r_5 u_5 t_5 H1 locs ht hvm hw hB hz1 hk1 hS => ?_)
    have hw := hw.trans (qTake_o h)
    obtain ⟨rfl, rfl⟩ := Prod.mk.inj hw
    obtain ⟨f_5, hg_5, hP1, hK1, hD1⟩ := hB
    rw [ht] at hP1
    obtain ⟨hP, hD⟩ := q_join (wr := [(x0, .inr (1, [.ref a1, .ref a2, .ref a3, .int fi, .int me])), (a1, .inr (0, [.ref b1, .int (nI nh)])), (b1, .inl (cA, 2100, .inl fh)), (a2, .inr (0, [.ref b2, .int (nI nr)])), (b2, .inl (cA, 2100, .inl fr))]) (w1 := [(a3, .inr (0, [.ref b3, .int (nI nk)])), (b3, .inl (cA, 2100, .inl f_5))]) (wz := [(x0, .inr (1, [.ref a1, .ref a2, .ref a3, .int fi, .int me])), (a1, .inr (0, [.ref b1, .int (nI nh)])), (b1, .inl (cA, 2100, .inl fh)), (a2, .inr (0, [.ref b2, .int (nI nr)])), (b2, .inl (cA, 2100, .inl fr)), (a3, .inr (0, [.ref b3, .int (nI nk)])), (b3, .inl (cA, 2100, .inl f_5))]) hP hD [5, 6] [0, 1, 2, 3, 4] [0, 1, 2, 3, 4, 5, 6] rfl rfl (by decide) (by decide) hk1 hFc hP1 hD1 rfl rfl (by decide)
    generalize H1 = H at hP hS ⊢
    refine lv_goto (tgt := 24) hx hb dX1_change_12 (by decide) ?_
    refine lv_lstore (lv' := [(4, .long qNo), (0, .ref x0), (1, .int p0), (2, .int p1), (3, .int p2)]) hx hb dX1_change_24 hl (by decide) rfl (fun ls hl => ?_)
    refine lv_iload_n hx hb dX1_change_26 rfl (lv_at hl 4 rfl) ?_
    refine lv_if_eq (tgt := 43) hx hb dX1_change_27 (by decide) (fun c_0 => absurd c_0 (show ¬ p2 = (0 : Int32) from hz)) (fun c_6 => ?_)
    refine lv_lload hx hb dX1_change_30 (lv_at hl 0 rfl) ?_
    refine lv_ldc2 (v := qNo) hx hb hown (hts (.constantLong RX1 50 (1099511627776)) (List.mem_of_getElem? (i := 20) (by decide +kernel))) dX1_change_32 ?_
    refine W.lcmp hx hb dX1_change_35 ?_
    refine lv_if_eq (tgt := 43) hx hb dX1_change_36 (by decide) (fun _ => ?_) (fun c_0 => absurd ((lg_cmp_eq _ _).mpr rfl) c_0)
    refine lv_lload hx hb dX1_change_43 (lv_at hl 0 rfl) ?_
    exact W.lret (v := qNo) hx hb hr (fun t ht hW => ⟨⟨qNo, ((gh, nh), (gr, nr), (gk, nk), fi, me), rfl, (by simp only [qChange, if_pos h]), fh, fr, f_5, ha1, ha2, hg_5, by rw [ht]; exact hP, va_K.moved hW.alike hK, hD⟩, hS.F ht⟩) hS.2.2 dX1_change_45
  · refine lv_iload_n hx hb dX1_change_0 rfl (lv_at hl 3 rfl) ?_
    refine lv_if_eq (tgt := 15) hx hb dX1_change_1 (by decide) (fun c_7 => ?_) (fun c_0 => absurd (show p2 = (0 : Int32) from hz) c_0)
    refine lv_aload_n hx hb dX1_change_15 rfl (lv_at hl 0 rfl) ?_
    refine va_get (D := (dC, dI)) (ci := 1) (v := .ref a3) (C := RX1) (T := TX1) (N := 5) hx hb hts inX1_change_X1 hown hK hP 0 rfl rfl 2 (by decide) (hts (.fieldLink RX1 19 "QueueHall" "chainRow" "LQueueHall$Row;") (List.mem_of_getElem? (i := 1) (by decide +kernel))) (fun _ h9 => h9) rfl dX1_change_16 ?_
    refine lv_iload_n hx hb dX1_change_19 rfl (lv_at hl 1 rfl) ?_
    refine lv_iload_n hx hb dX1_change_20 rfl (lv_at hl 2 rfl) ?_
    have hPc := hP.sub (ws' := [(a3, .inr (0, [.ref b3, .int (nI nk)])), (b3, .inl (cA, 2100, .inl fk))]) [5, 6] rfl
    have hKc := hK.sub (tys' := [(cA, .int)]) [0] rfl
    have hDc := hD.sub (ws' := [(a3, .inr (0, [.ref b3, .int (nI nk)])), (b3, .inl (cA, 2100, .inl fk))]) [5, 6] (by decide) rfl
    have hFc := va_free (wc := [(a3, .inr (0, [.ref b3, .int (nI nk)])), (b3, .inl (cA, 2100, .inl fk))]) hD hS hA [5, 6] rfl
    refine va_calll (va_runVN (As := [.int (nI k), .int p1]) (rest := []) ⟨hx, hb, hml, hown, hts⟩ (c_Row_swap l dC dI s.heap.size a3 b3 nk cA fk gk (nI k) p1 (by omega) ha3) ⟨va_cnB 2 hts gX1_change_X0_swap rfl rfl rfl (qN_swap hN) (hts (.initialized RX0) (List.mem_of_getElem? (i := 4) (by decide +kernel))) (by decide +kernel) ⟨Nat.le_of_ble_eq_true rfl, Nat.le_of_ble_eq_true rfl⟩, (hts (.instanceMethod yX0_swap) (List.mem_of_getElem? (i := 17) (by decide +kernel))), (hts (.selects RX0 yX0_swap yX0_swap) (List.mem_of_getElem? (i := 18) (by decide +kernel)))⟩ ⟨q_blW, va_recv hKc hPc (ci := 0) (q0 := 0) rfl rfl, fun U hU hW => ⟨rfl, by rw [hU], by rw [hU]; exact hPc, va_K.moved hW.alike hKc, hDc.weaken (fun _ _ _ _ => trivial)⟩⟩ rfl rfl hl.1 rfl (lv_room (Nat.le_of_ble_eq_true rfl)) dX1_change_21 ⟨Nat.le_of_ble_eq_true rfl, Nat.le_of_ble_eq_true rfl⟩) hS (fun q _ h => hFc q h) hFc (fun r_8 u_8 t_8 H1 locs ht hvm hw hB hz1 hk1 hS => ?_)
    have hw := hw.trans (qSwap_i (k := k) (by omega) (by omega))
    obtain ⟨rfl, rfl⟩ := Prod.mk.inj hw
    obtain ⟨f_8, hg_8, hP1, hK1, hD1⟩ := hB
    rw [ht] at hP1
    obtain ⟨hP, hD⟩ := q_join (wr := [(x0, .inr (1, [.ref a1, .ref a2, .ref a3, .int fi, .int me])), (a1, .inr (0, [.ref b1, .int (nI nh)])), (b1, .inl (cA, 2100, .inl fh)), (a2, .inr (0, [.ref b2, .int (nI nr)])), (b2, .inl (cA, 2100, .inl fr))]) (w1 := [(a3, .inr (0, [.ref b3, .int (nI nk)])), (b3, .inl (cA, 2100, .inl f_8))]) (wz := [(x0, .inr (1, [.ref a1, .ref a2, .ref a3, .int fi, .int me])), (a1, .inr (0, [.ref b1, .int (nI nh)])), (b1, .inl (cA, 2100, .inl fh)), (a2, .inr (0, [.ref b2, .int (nI nr)])), (b2, .inl (cA, 2100, .inl fr)), (a3, .inr (0, [.ref b3, .int (nI nk)])), (b3, .inl (cA, 2100, .inl f_8))]) hP hD [5, 6] [0, 1, 2, 3, 4] [0, 1, 2, 3, 4, 5, 6] rfl rfl (by decide) (by decide) hk1 hFc hP1 hD1 rfl rfl (by decide)
    generalize H1 = H at hP hS ⊢
    refine lv_lstore (lv' := [(4, .long ((gk k).toInt64)), (0, .ref x0), (1, .int (nI k)), (2, .int p1), (3, .int p2)]) hx hb dX1_change_24 hl (by decide) rfl (fun ls hl => ?_)
    refine lv_iload_n hx hb dX1_change_26 rfl (lv_at hl 4 rfl) ?_
    refine lv_if_eq (tgt := 43) hx hb dX1_change_27 (by decide) (fun c_9 => ?_) (fun c_0 => absurd (show p2 = (0 : Int32) from hz) c_0)
    refine lv_lload hx hb dX1_change_43 (lv_at hl 0 rfl) ?_
    exact W.lret (v := (gk k).toInt64) hx hb hr (fun t ht hW => ⟨⟨(gk k).toInt64, ((gh, nh), (gr, nr), (upd gk k p1, nk), fi, me), rfl, (by simp only [qChange, qHp_in hk (show nk < 2 ^ 31 by omega), if_neg q_ne10, nI_clamp (show k < 2 ^ 31 by omega), if_pos hz]), fh, fr, f_8, ha1, ha2, hg_8, by rw [ht]; exact hP, va_K.moved hW.alike hK, hD⟩, hS.F ht⟩) hS.2.2 dX1_change_45
  · refine lv_iload_n hx hb dX1_change_0 rfl (lv_at hl 3 rfl) ?_
    refine lv_if_eq (tgt := 15) hx hb dX1_change_1 (by decide) (fun c_0 => absurd c_0 (show ¬ p2 = (0 : Int32) from hz)) (fun c_10 => ?_)
    refine lv_aload_n hx hb dX1_change_4 rfl (lv_at hl 0 rfl) ?_
    refine va_get (D := (dC, dI)) (ci := 1) (v := .ref a3) (C := RX1) (T := TX1) (N := 5) hx hb hts inX1_change_X1 hown hK hP 0 rfl rfl 2 (by decide) (hts (.fieldLink RX1 19 "QueueHall" "chainRow" "LQueueHall$Row;") (List.mem_of_getElem? (i := 1) (by decide +kernel))) (fun _ h9 => h9) rfl dX1_change_5 ?_
    refine lv_iload_n hx hb dX1_change_8 rfl (lv_at hl 1 rfl) ?_
    have hPc := hP.sub (ws' := [(a3, .inr (0, [.ref b3, .int (nI nk)])), (b3, .inl (cA, 2100, .inl fk))]) [5, 6] rfl
    have hKc := hK.sub (tys' := [(cA, .int)]) [0] rfl
    have hDc := hD.sub (ws' := [(a3, .inr (0, [.ref b3, .int (nI nk)])), (b3, .inl (cA, 2100, .inl fk))]) [5, 6] (by decide) rfl
    have hFc := va_free (wc := [(a3, .inr (0, [.ref b3, .int (nI nk)])), (b3, .inl (cA, 2100, .inl fk))]) hD hS hA [5, 6] rfl
    refine va_calll (va_runVN (As := [.int (nI k)]) (rest := []) ⟨hx, hb, hml, hown, hts⟩ (c_Row_take l dC dI s.heap.size a3 b3 nk cA fk gk (nI k) (by omega) ha3) ⟨va_cnB 1 hts gX1_change_X0_take rfl rfl rfl (qN_take hN) (hts (.initialized RX0) (List.mem_of_getElem? (i := 4) (by decide +kernel))) (by decide +kernel) ⟨Nat.le_of_ble_eq_true rfl, Nat.le_of_ble_eq_true rfl⟩, (hts (.instanceMethod yX0_take) (List.mem_of_getElem? (i := 2) (by decide +kernel))), (hts (.selects RX0 yX0_take yX0_take) (List.mem_of_getElem? (i := 3) (by decide +kernel)))⟩ ⟨q_blW, va_recv hKc hPc (ci := 0) (q0 := 0) rfl rfl, fun U hU hW => ⟨rfl, by rw [hU], by rw [hU]; exact hPc, va_K.moved hW.alike hKc, hDc.weaken (fun _ _ _ _ => trivial)⟩⟩ rfl rfl hl.1 rfl (lv_room (Nat.le_of_ble_eq_true rfl)) dX1_change_9 ⟨Nat.le_of_ble_eq_true rfl, Nat.le_of_ble_eq_true rfl⟩) hS (fun q _ h => hFc q h) hFc (fun r_11 u_11 t_11 H1 locs ht hvm hw hB hz1 hk1 hS => ?_)
    have hw := hw.trans (qTake_i (k := k) (by omega) (by omega))
    obtain ⟨rfl, rfl⟩ := Prod.mk.inj hw
    obtain ⟨f_11, hg_11, hP1, hK1, hD1⟩ := hB
    rw [ht] at hP1
    obtain ⟨hP, hD⟩ := q_join (wr := [(x0, .inr (1, [.ref a1, .ref a2, .ref a3, .int fi, .int me])), (a1, .inr (0, [.ref b1, .int (nI nh)])), (b1, .inl (cA, 2100, .inl fh)), (a2, .inr (0, [.ref b2, .int (nI nr)])), (b2, .inl (cA, 2100, .inl fr))]) (w1 := [(a3, .inr (0, [.ref b3, .int (nI (nk - 1))])), (b3, .inl (cA, 2100, .inl f_11))]) (wz := [(x0, .inr (1, [.ref a1, .ref a2, .ref a3, .int fi, .int me])), (a1, .inr (0, [.ref b1, .int (nI nh)])), (b1, .inl (cA, 2100, .inl fh)), (a2, .inr (0, [.ref b2, .int (nI nr)])), (b2, .inl (cA, 2100, .inl fr)), (a3, .inr (0, [.ref b3, .int (nI (nk - 1))])), (b3, .inl (cA, 2100, .inl f_11))]) hP hD [5, 6] [0, 1, 2, 3, 4] [0, 1, 2, 3, 4, 5, 6] rfl rfl (by decide) (by decide) hk1 hFc hP1 hD1 rfl rfl (by decide)
    generalize H1 = H at hP hS ⊢
    refine lv_goto (tgt := 24) hx hb dX1_change_12 (by decide) ?_
    refine lv_lstore (lv' := [(4, .long ((gk k).toInt64)), (0, .ref x0), (1, .int (nI k)), (2, .int p1), (3, .int p2)]) hx hb dX1_change_24 hl (by decide) rfl (fun ls hl => ?_)
    refine lv_iload_n hx hb dX1_change_26 rfl (lv_at hl 4 rfl) ?_
    refine lv_if_eq (tgt := 43) hx hb dX1_change_27 (by decide) (fun c_0 => absurd c_0 (show ¬ p2 = (0 : Int32) from hz)) (fun c_12 => ?_)
    refine lv_lload hx hb dX1_change_30 (lv_at hl 0 rfl) ?_
    refine lv_ldc2 (v := qNo) hx hb hown (hts (.constantLong RX1 50 (1099511627776)) (List.mem_of_getElem? (i := 20) (by decide +kernel))) dX1_change_32 ?_
    refine W.lcmp hx hb dX1_change_35 ?_
    refine lv_if_eq (tgt := 43) hx hb dX1_change_36 (by decide) (fun c_0 => absurd c_0 (fun q => q_no _ ((lg_cmp_eq _ _).mp q))) (fun _ => ?_)
    refine lv_aload_n hx hb dX1_change_39 rfl (lv_at hl 1 rfl) ?_
    have hPc := hP.sub (ws' := [(x0, .inr (1, [.ref a1, .ref a2, .ref a3, .int fi, .int me]))]) [0] rfl
    have hKc := hK.sub (tys' := []) [] rfl
    have hDc := hD.sub (ws' := [(x0, .inr (1, [.ref a1, .ref a2, .ref a3, .int fi, .int me]))]) [0] (by decide) rfl
    have hFc := va_free (wc := [(x0, .inr (1, [.ref a1, .ref a2, .ref a3, .int fi, .int me]))]) hD hS hA [0] rfl
    refine va_callv (va_runV (As := []) (rest := []) ⟨hx, hb, hml, hown, hts⟩ (c_Hall_liftFinger l dC dI H.size x0 a1 a2 a3 fi me) (cwV 0 hts gX1_change_X1_liftFinger_v rfl rfl rfl (by decide +kernel) ⟨Nat.le_of_ble_eq_true rfl, Nat.le_of_ble_eq_true rfl⟩) ⟨q_blW, va_recv hKc hPc (ci := 1) (q0 := 0) rfl rfl, fun U hU hW => ⟨rfl, by rw [hU], by rw [hU]; exact hPc, va_K.moved hW.alike hKc, hDc.weaken (fun _ _ _ _ => trivial)⟩⟩ rfl rfl hl.1 rfl (lv_room (Nat.le_of_ble_eq_true rfl)) dX1_change_40 ⟨Nat.le_of_ble_eq_true rfl, Nat.le_of_ble_eq_true rfl⟩) hS (fun q _ h => hFc q h) hFc (fun u_13 t_13 H1 locs ht hvm hw hB hz1 hk1 hS => ?_)
    subst hw
    obtain ⟨hP1, hK1, hD1⟩ := hB
    rw [ht] at hP1
    obtain ⟨hP, hD⟩ := q_join (wr := [(a1, .inr (0, [.ref b1, .int (nI nh)])), (b1, .inl (cA, 2100, .inl fh)), (a2, .inr (0, [.ref b2, .int (nI nr)])), (b2, .inl (cA, 2100, .inl fr)), (a3, .inr (0, [.ref b3, .int (nI (nk - 1))])), (b3, .inl (cA, 2100, .inl f_11))]) (w1 := [(x0, .inr (1, [.ref a1, .ref a2, .ref a3, .int (-1), .int (-1)]))]) (wz := [(x0, .inr (1, [.ref a1, .ref a2, .ref a3, .int (-1), .int (-1)])), (a1, .inr (0, [.ref b1, .int (nI nh)])), (b1, .inl (cA, 2100, .inl fh)), (a2, .inr (0, [.ref b2, .int (nI nr)])), (b2, .inl (cA, 2100, .inl fr)), (a3, .inr (0, [.ref b3, .int (nI (nk - 1))])), (b3, .inl (cA, 2100, .inl f_11))]) hP hD [0] [1, 2, 3, 4, 5, 6] [6, 0, 1, 2, 3, 4, 5] rfl rfl (by decide) (by decide) hk1 hFc hP1 hD1 rfl rfl (by decide)
    generalize H1 = H at hP hS ⊢
    refine lv_lload hx hb dX1_change_43 (lv_at hl 0 rfl) ?_
    exact W.lret (v := (gk k).toInt64) hx hb hr (fun t ht hW => ⟨⟨(gk k).toInt64, ((gh, nh), (gr, nr), (qDel gk k, nk - 1), -1, -1), rfl, (by simp only [qChange, qHp_in hk (show nk < 2 ^ 31 by omega), if_neg q_ne10, nI_clamp (show k < 2 ^ 31 by omega), if_neg hz]), fh, fr, f_11, ha1, ha2, hg_11, by rw [ht]; exact hP, va_K.moved hW.alike hK, hD⟩, hS.F ht⟩) hS.2.2 dX1_change_45

set_option maxHeartbeats 4000000 in
set_option maxRecDepth 100000 in
theorem c_Hall_chain (l : Launch) (dC : Nat → ClassId) (dI : Nat → Nat → Nat) (x0 a1 b1 a2 b2 a3 b3 nh nr nk : Nat) (cA : ClassId) (fh gh fr gr fk gk : Nat → Int32) (fi me : Int32) (p0 : Int32) (hn : nh + nr + nk < 2000) (ha1 : qAg nh fh gh) (ha2 : qAg nr fr gr) (ha3 : qAg nk fk gk) (hF : qFok fi me nk) : Met l yX1_chain wsX1_chain ({ frames := 2, cells := 0, slots := 0, locals := 58 }) (va_Pc [.ref x0, .int p0] (fun U => va_P (dC, dI) vwCl [(x0, .inr (1, [.ref a1, .ref a2, .ref a3, .int fi, .int me])), (a1, .inr (0, [.ref b1, .int (nI nh)])), (b1, .inl (cA, 2100, .inl fh)), (a2, .inr (0, [.ref b2, .int (nI nr)])), (b2, .inl (cA, 2100, .inl fr)), (a3, .inr (0, [.ref b3, .int (nI nk)])), (b3, .inl (cA, 2100, .inl fk))] U.heap ∧ va_K (dC, dI) vwCl [(cA, .int)] U ∧ qNest U)) (vp_Sl (fun r => r = (qChain p0 ((gh, nh), (gr, nr), (gk, nk), fi, me)).1)) 0 0 (fun _ => False) := by
  refine Met.ofW (cc := cX1_chain) (maxL := 2) (ret := (some .long)) (by decide +kernel) rfl ?_
  intro p e s m args below meth c s₁ B hml hv
  obtain ⟨rfl, hP, hK, hN⟩ := hv
  have hx := B.exec
  have hb := B.bytes
  have hr := B.returns
  have hts := atoms_spec (ws := wsX1_chain) B.pre
  have hown : s.vm.findClass RX1 = some m.cls := findClass_of_methodNamed B.named
  have hlocks := B.notSynchronized
  have hl := lv_entry ([.ref x0, .int p0]) (n := 2) (Nat.le_of_ble_eq_true rfl)
  rw [lg_entry_eq]
  generalize (lg_sl ([.ref x0, .int p0]) ++ List.replicate (2 - (lg_sl ([.ref x0, .int p0])).length) Slot.unset).toArray = ls at hl ⊢
  have hl : lv_has ls 2 [(0, .ref x0), (1, .int p0)] := hl
  refine lv_aload_n hx hb dX1_chain_0 rfl (lv_at hl 0 rfl) ?_
  refine va_get (D := (dC, dI)) (ci := 1) (v := .ref a3) (C := RX1) (T := TX1) (N := 5) hx hb hts inX1_chain_X1 hown hK hP 0 rfl rfl 2 (by decide) (hts (.fieldLink RX1 19 "QueueHall" "chainRow" "LQueueHall$Row;") (List.mem_of_getElem? (i := 1) (by decide +kernel))) (fun _ h9 => h9) rfl dX1_chain_1 ?_
  refine lv_iload_n hx hb dX1_chain_4 rfl (lv_at hl 1 rfl) ?_
  have hPc := hP.sub (ws' := [(a3, .inr (0, [.ref b3, .int (nI nk)])), (b3, .inl (cA, 2100, .inl fk))]) [5, 6] rfl
  have hKc := hK.sub (tys' := [(cA, .int)]) [0] rfl
  refine q_cslE (va_runVN (As := [.int p0]) (rest := []) ⟨hx, hb, hml, hown, hts⟩ (c_Row_at l dC dI a3 b3 nk cA fk gk p0 (by omega) ha3) ⟨va_cnB 1 hts gX1_chain_X0_at rfl rfl rfl (qN_at hN) (hts (.initialized RX0) (List.mem_of_getElem? (i := 4) (by decide +kernel))) (by decide +kernel) ⟨Nat.le_of_ble_eq_true rfl, Nat.le_of_ble_eq_true rfl⟩, (hts (.instanceMethod yX0_at) (List.mem_of_getElem? (i := 2) (by decide +kernel))), (hts (.selects RX0 yX0_at yX0_at) (List.mem_of_getElem? (i := 3) (by decide +kernel)))⟩ ⟨q_blR, va_recv hKc hPc (ci := 0) (q0 := 0) rfl rfl, fun U hU hW => ⟨rfl, by rw [hU]; exact hPc, va_K.moved hW.alike hKc⟩⟩ rfl rfl hl.1 rfl (lv_room (Nat.le_of_ble_eq_true rfl)) dX1_chain_5 ⟨Nat.le_of_ble_eq_true rfl, Nat.le_of_ble_eq_true rfl⟩) ?_
  exact W.lret (v := qAt gk nk p0) hx hb hr (fun t ht hW => ⟨qAt gk nk p0, rfl, rfl, ht⟩) (fun q h => by cases h) dX1_chain_8

set_option maxHeartbeats 4000000 in
set_option maxRecDepth 100000 in
theorem c_Hall_find (l : Launch) (dC : Nat → ClassId) (dI : Nat → Nat → Nat) (x0 a1 b1 a2 b2 a3 b3 nh nr nk : Nat) (cA : ClassId) (fh gh fr gr fk gk : Nat → Int32) (fi me : Int32) (p0 p1 : Int32) (hn : nh + nr + nk < 2000) (ha1 : qAg nh fh gh) (ha2 : qAg nr fr gr) (ha3 : qAg nk fk gk) (hF : qFok fi me nk) : Met l yX1_find wsX1_find ({ frames := 2, cells := 0, slots := 0, locals := 58 }) (va_Pc [.ref x0, .int p0, .int p1] (fun U => va_P (dC, dI) vwCl [(x0, .inr (1, [.ref a1, .ref a2, .ref a3, .int fi, .int me])), (a1, .inr (0, [.ref b1, .int (nI nh)])), (b1, .inl (cA, 2100, .inl fh)), (a2, .inr (0, [.ref b2, .int (nI nr)])), (b2, .inl (cA, 2100, .inl fr)), (a3, .inr (0, [.ref b3, .int (nI nk)])), (b3, .inl (cA, 2100, .inl fk))] U.heap ∧ va_K (dC, dI) vwCl [(cA, .int)] U ∧ qNest U)) (vp_Si (fun r => r = (qFind p0 p1 ((gh, nh), (gr, nr), (gk, nk), fi, me)).1)) 0 0 (fun _ => False) := by
  refine Met.ofW (cc := cX1_find) (maxL := 3) (ret := (some .int)) (by decide +kernel) rfl ?_
  intro p e s m args below meth c s₁ B hml hv
  obtain ⟨rfl, hP, hK, hN⟩ := hv
  have hx := B.exec
  have hb := B.bytes
  have hr := B.returns
  have hts := atoms_spec (ws := wsX1_find) B.pre
  have hown : s.vm.findClass RX1 = some m.cls := findClass_of_methodNamed B.named
  have hlocks := B.notSynchronized
  have hl := lv_entry ([.ref x0, .int p0, .int p1]) (n := 3) (Nat.le_of_ble_eq_true rfl)
  rw [lg_entry_eq]
  generalize (lg_sl ([.ref x0, .int p0, .int p1]) ++ List.replicate (3 - (lg_sl ([.ref x0, .int p0, .int p1])).length) Slot.unset).toArray = ls at hl ⊢
  have hl : lv_has ls 3 [(0, .ref x0), (1, .int p0), (2, .int p1)] := hl
  by_cases hz : p1 = 0
  · refine lv_iload_n hx hb dX1_find_0 rfl (lv_at hl 2 rfl) ?_
    refine lv_if_eq (tgt := 15) hx hb dX1_find_1 (by decide) (fun c_1 => ?_) (fun c_0 => absurd (show p1 = (0 : Int32) from hz) c_0)
    refine lv_aload_n hx hb dX1_find_15 rfl (lv_at hl 0 rfl) ?_
    refine va_get (D := (dC, dI)) (ci := 1) (v := .ref a3) (C := RX1) (T := TX1) (N := 5) hx hb hts inX1_find_X1 hown hK hP 0 rfl rfl 2 (by decide) (hts (.fieldLink RX1 19 "QueueHall" "chainRow" "LQueueHall$Row;") (List.mem_of_getElem? (i := 1) (by decide +kernel))) (fun _ h9 => h9) rfl dX1_find_16 ?_
    refine lv_iload_n hx hb dX1_find_19 rfl (lv_at hl 1 rfl) ?_
    have hPc := hP.sub (ws' := [(a3, .inr (0, [.ref b3, .int (nI nk)])), (b3, .inl (cA, 2100, .inl fk))]) [5, 6] rfl
    have hKc := hK.sub (tys' := [(cA, .int)]) [0] rfl
    refine q_csiE (va_runVN (As := [.int p0]) (rest := []) ⟨hx, hb, hml, hown, hts⟩ (c_Row_firstPlace l dC dI a3 b3 nk cA fk gk p0 (by omega) ha3) ⟨va_cnB 1 hts gX1_find_X0_firstPlace rfl rfl rfl (qN_firstPlace hN) (hts (.initialized RX0) (List.mem_of_getElem? (i := 4) (by decide +kernel))) (by decide +kernel) ⟨Nat.le_of_ble_eq_true rfl, Nat.le_of_ble_eq_true rfl⟩, (hts (.instanceMethod yX0_firstPlace) (List.mem_of_getElem? (i := 8) (by decide +kernel))), (hts (.selects RX0 yX0_firstPlace yX0_firstPlace) (List.mem_of_getElem? (i := 9) (by decide +kernel)))⟩ ⟨q_blR, va_recv hKc hPc (ci := 0) (q0 := 0) rfl rfl, fun U hU hW => ⟨rfl, by rw [hU]; exact hPc, va_K.moved hW.alike hKc⟩⟩ rfl rfl hl.1 rfl (lv_room (Nat.le_of_ble_eq_true rfl)) dX1_find_20 ⟨Nat.le_of_ble_eq_true rfl, Nat.le_of_ble_eq_true rfl⟩) ?_
    exact W.iret (v := qPl gk p0 0 nk) hx hb hr (fun t ht hW => ⟨qPl gk p0 0 nk, rfl, (by rw [hz]; rfl), ht⟩) (fun q h => by cases h) dX1_find_23
  · refine lv_iload_n hx hb dX1_find_0 rfl (lv_at hl 2 rfl) ?_
    refine lv_if_eq (tgt := 15) hx hb dX1_find_1 (by decide) (fun c_0 => absurd c_0 (show ¬ p1 = (0 : Int32) from hz)) (fun c_2 => ?_)
    refine lv_aload_n hx hb dX1_find_4 rfl (lv_at hl 0 rfl) ?_
    refine va_get (D := (dC, dI)) (ci := 1) (v := .ref a3) (C := RX1) (T := TX1) (N := 5) hx hb hts inX1_find_X1 hown hK hP 0 rfl rfl 2 (by decide) (hts (.fieldLink RX1 19 "QueueHall" "chainRow" "LQueueHall$Row;") (List.mem_of_getElem? (i := 1) (by decide +kernel))) (fun _ h9 => h9) rfl dX1_find_5 ?_
    refine lv_iload_n hx hb dX1_find_8 rfl (lv_at hl 1 rfl) ?_
    have hPc := hP.sub (ws' := [(a3, .inr (0, [.ref b3, .int (nI nk)])), (b3, .inl (cA, 2100, .inl fk))]) [5, 6] rfl
    have hKc := hK.sub (tys' := [(cA, .int)]) [0] rfl
    refine q_csiE (va_runVN (As := [.int p0]) (rest := []) ⟨hx, hb, hml, hown, hts⟩ (c_Row_lastPlace l dC dI a3 b3 nk cA fk gk p0 (by omega) ha3) ⟨va_cnB 1 hts gX1_find_X0_lastPlace rfl rfl rfl (qN_lastPlace hN) (hts (.initialized RX0) (List.mem_of_getElem? (i := 4) (by decide +kernel))) (by decide +kernel) ⟨Nat.le_of_ble_eq_true rfl, Nat.le_of_ble_eq_true rfl⟩, (hts (.instanceMethod yX0_lastPlace) (List.mem_of_getElem? (i := 2) (by decide +kernel))), (hts (.selects RX0 yX0_lastPlace yX0_lastPlace) (List.mem_of_getElem? (i := 3) (by decide +kernel)))⟩ ⟨q_blR, va_recv hKc hPc (ci := 0) (q0 := 0) rfl rfl, fun U hU hW => ⟨rfl, by rw [hU]; exact hPc, va_K.moved hW.alike hKc⟩⟩ rfl rfl hl.1 rfl (lv_room (Nat.le_of_ble_eq_true rfl)) dX1_find_9 ⟨Nat.le_of_ble_eq_true rfl, Nat.le_of_ble_eq_true rfl⟩) ?_
    refine lv_goto (tgt := 23) hx hb dX1_find_12 (by decide) ?_
    exact W.iret (v := qPl gk p0 1 nk) hx hb hr (fun t ht hW => ⟨qPl gk p0 1 nk, rfl, (qPl_z hz nk).symm, ht⟩) (fun q h => by cases h) dX1_find_23

set_option maxHeartbeats 4000000 in
set_option maxRecDepth 100000 in
theorem c_Hall_finger (l : Launch) (dC : Nat → ClassId) (dI : Nat → Nat → Nat) (x0 a1 b1 a2 b2 a3 b3 nh nr nk : Nat) (cA : ClassId) (fh gh fr gr fk gk : Nat → Int32) (fi me : Int32) (hn : nh + nr + nk < 2000) (ha1 : qAg nh fh gh) (ha2 : qAg nr fr gr) (ha3 : qAg nk fk gk) (hF : qFok fi me nk) : Met l yX1_finger wsX1_finger ({ frames := 2, cells := 0, slots := 0, locals := 58 }) (va_Pc [.ref x0] (fun U => va_P (dC, dI) vwCl [(x0, .inr (1, [.ref a1, .ref a2, .ref a3, .int fi, .int me])), (a1, .inr (0, [.ref b1, .int (nI nh)])), (b1, .inl (cA, 2100, .inl fh)), (a2, .inr (0, [.ref b2, .int (nI nr)])), (b2, .inl (cA, 2100, .inl fr)), (a3, .inr (0, [.ref b3, .int (nI nk)])), (b3, .inl (cA, 2100, .inl fk))] U.heap ∧ va_K (dC, dI) vwCl [(cA, .int)] U)) (vp_Si (fun r => r = (qFinger ((gh, nh), (gr, nr), (gk, nk), fi, me)).1)) 0 0 (fun _ => False) := by
  refine Met.ofW (cc := cX1_finger) (maxL := 1) (ret := (some .int)) (by decide +kernel) rfl ?_
  intro p e s m args below meth c s₁ B hml hv
  obtain ⟨rfl, hP, hK⟩ := hv
  have hx := B.exec
  have hb := B.bytes
  have hr := B.returns
  have hts := atoms_spec (ws := wsX1_finger) B.pre
  have hown : s.vm.findClass RX1 = some m.cls := findClass_of_methodNamed B.named
  have hlocks := B.notSynchronized
  have hl := lv_entry ([.ref x0]) (n := 1) (Nat.le_of_ble_eq_true rfl)
  rw [lg_entry_eq]
  generalize (lg_sl ([.ref x0]) ++ List.replicate (1 - (lg_sl ([.ref x0])).length) Slot.unset).toArray = ls at hl ⊢
  have hl : lv_has ls 1 [(0, .ref x0)] := hl
  refine lv_aload_n hx hb dX1_finger_0 rfl (lv_at hl 0 rfl) ?_
  refine va_get (D := (dC, dI)) (ci := 1) (v := .int fi) (C := RX1) (T := TX1) (N := 5) hx hb hts inX1_finger_X1 hown hK hP 0 rfl rfl 3 (by decide) (hts (.fieldLink RX1 22 "QueueHall" "fingerPlace" "I") (List.mem_of_getElem? (i := 1) (by decide +kernel))) (fun _ h9 => h9) rfl dX1_finger_1 ?_
  exact W.iret (v := fi) hx hb hr (fun t ht hW => ⟨fi, rfl, rfl, ht⟩) (fun q h => by cases h) dX1_finger_4

set_option maxHeartbeats 4000000 in
set_option maxRecDepth 100000 in
theorem c_Hall_pass (l : Launch) (dC : Nat → ClassId) (dI : Nat → Nat → Nat) (sz : Nat) (x0 a1 b1 a2 b2 a3 b3 nh nr nk : Nat) (cA : ClassId) (fh gh fr gr fk gk : Nat → Int32) (fi me : Int32) (p0 : Int32) (hn : nh + nr + nk < 2000) (ha1 : qAg nh fh gh) (ha2 : qAg nr fr gr) (ha3 : qAg nk fk gk) (hF : qFok fi me nk) : Met l yX1_pass wsX1_pass ({ frames := 2, cells := 0, slots := 0, locals := 58 }) (va_Pc [.ref x0, .int p0] (fun U => U.heap.size = sz ∧ va_P (dC, dI) vwCl [(x0, .inr (1, [.ref a1, .ref a2, .ref a3, .int fi, .int me])), (a1, .inr (0, [.ref b1, .int (nI nh)])), (b1, .inl (cA, 2100, .inl fh)), (a2, .inr (0, [.ref b2, .int (nI nr)])), (b2, .inl (cA, 2100, .inl fr)), (a3, .inr (0, [.ref b3, .int (nI nk)])), (b3, .inl (cA, 2100, .inl fk))] U.heap ∧ va_K (dC, dI) vwCl [(cA, .int)] U ∧ va_D (fun _ => True) [(x0, .inr (1, [.ref a1, .ref a2, .ref a3, .int fi, .int me])), (a1, .inr (0, [.ref b1, .int (nI nh)])), (b1, .inl (cA, 2100, .inl fh)), (a2, .inr (0, [.ref b2, .int (nI nr)])), (b2, .inl (cA, 2100, .inl fr)), (a3, .inr (0, [.ref b3, .int (nI nk)])), (b3, .inl (cA, 2100, .inl fk))] ∧ qNest U)) (va_Ql (fun (r : Int64) (u : qS) => (r, u) = qPass p0 ((gh, nh), (gr, nr), (gk, nk), fi, me)) (at_H dC dI (va_A [(x0, .inr (1, [.ref a1, .ref a2, .ref a3, .int fi, .int me])), (a1, .inr (0, [.ref b1, .int (nI nh)])), (b1, .inl (cA, 2100, .inl fh)), (a2, .inr (0, [.ref b2, .int (nI nr)])), (b2, .inl (cA, 2100, .inl fr)), (a3, .inr (0, [.ref b3, .int (nI nk)])), (b3, .inl (cA, 2100, .inl fk))] sz) x0 a1 b1 a2 b2 a3 b3 cA) (va_A [(x0, .inr (1, [.ref a1, .ref a2, .ref a3, .int fi, .int me])), (a1, .inr (0, [.ref b1, .int (nI nh)])), (b1, .inl (cA, 2100, .inl fh)), (a2, .inr (0, [.ref b2, .int (nI nr)])), (b2, .inl (cA, 2100, .inl fr)), (a3, .inr (0, [.ref b3, .int (nI nk)])), (b3, .inl (cA, 2100, .inl fk))] sz)) 0 0 (va_A [(x0, .inr (1, [.ref a1, .ref a2, .ref a3, .int fi, .int me])), (a1, .inr (0, [.ref b1, .int (nI nh)])), (b1, .inl (cA, 2100, .inl fh)), (a2, .inr (0, [.ref b2, .int (nI nr)])), (b2, .inl (cA, 2100, .inl fr)), (a3, .inr (0, [.ref b3, .int (nI nk)])), (b3, .inl (cA, 2100, .inl fk))] sz) := by
  refine Met.ofW (cc := cX1_pass) (maxL := 3) (ret := (some .long)) (by decide +kernel) rfl ?_
  intro p e s m args below meth c s₁ B hml hv
  obtain ⟨rfl, hsz, hP, hK, hD0, hN⟩ := hv
  have hx := B.exec
  have hb := B.bytes
  have hr := B.returns
  have hts := atoms_spec (ws := wsX1_pass) B.pre
  have hown : s.vm.findClass RX1 = some m.cls := findClass_of_methodNamed B.named
  have hlocks := B.notSynchronized
  subst hsz
  have hD := hD0.self (sz := s.heap.size)
  generalize hAe : va_A [(x0, .inr (1, [.ref a1, .ref a2, .ref a3, .int fi, .int me])), (a1, .inr (0, [.ref b1, .int (nI nh)])), (b1, .inl (cA, 2100, .inl fh)), (a2, .inr (0, [.ref b2, .int (nI nr)])), (b2, .inl (cA, 2100, .inl fr)), (a3, .inr (0, [.ref b3, .int (nI nk)])), (b3, .inl (cA, 2100, .inl fk))] s.heap.size = A at hD ⊢
  have hA : ∀ q : Nat, s.heap.size ≤ q → A q := fun q h => by rw [← hAe]; exact Or.inr h
  have hS : va_S A s.heap s.heap [] := va_S.rf
  have hl := lv_entry ([.ref x0, .int p0]) (n := 3) (Nat.le_of_ble_eq_true rfl)
  rw [lg_entry_eq]
  generalize (lg_sl ([.ref x0, .int p0]) ++ List.replicate (3 - (lg_sl ([.ref x0, .int p0])).length) Slot.unset).toArray = ls at hl ⊢
  have hl : lv_has ls 3 [(0, .ref x0), (1, .int p0)] := hl
  rcases q_pass hF p0 with rfl | ⟨hz, rfl⟩ | ⟨hz, a, ha, rfl⟩ | ⟨hz, rfl⟩ | ⟨hz, a, ha, rfl⟩
  · refine lv_aload_n hx hb dX1_pass_0 rfl (lv_at hl 0 rfl) ?_
    refine va_get (D := (dC, dI)) (ci := 1) (v := .int (-1)) (C := RX1) (T := TX1) (N := 5) hx hb hts inX1_pass_X1 hown hK hP 0 rfl rfl 3 (by decide) (hts (.fieldLink RX1 22 "QueueHall" "fingerPlace" "I") (List.mem_of_getElem? (i := 1) (by decide +kernel))) (fun _ h9 => h9) rfl dX1_pass_1 ?_
    refine lv_iconst (v := -1) hx hb dX1_pass_4 (by decide) ?_
    refine lv_icmp_ne (tgt := 12) hx hb dX1_pass_5 (by decide) (fun c_0 => absurd (show (-1 : Int32) = (-1 : Int32) from (by decide)) c_0) (fun c_1 => ?_)
    refine lv_ldc2 (v := qNo) hx hb hown (hts (.constantLong RX1 50 (1099511627776)) (List.mem_of_getElem? (i := 2) (by decide +kernel))) dX1_pass_8 ?_
    exact W.lret (v := qNo) hx hb hr (fun t ht hW => ⟨⟨qNo, ((gh, nh), (gr, nr), (gk, nk), -1, me), rfl, (by simp only [qPass, if_pos (show (-1 : Int32) < 0 by decide)]), fh, fr, fk, ha1, ha2, ha3, by rw [ht]; exact hP, va_K.moved hW.alike hK, hD⟩, hS.F ht⟩) hS.2.2 dX1_pass_11
  · refine lv_aload_n hx hb dX1_pass_0 rfl (lv_at hl 0 rfl) ?_
    refine va_get (D := (dC, dI)) (ci := 1) (v := .int (nI nk)) (C := RX1) (T := TX1) (N := 5) hx hb hts inX1_pass_X1 hown hK hP 0 rfl rfl 3 (by decide) (hts (.fieldLink RX1 22 "QueueHall" "fingerPlace" "I") (List.mem_of_getElem? (i := 1) (by decide +kernel))) (fun _ h9 => h9) rfl dX1_pass_1 ?_
    refine lv_iconst (v := -1) hx hb dX1_pass_4 (by decide) ?_
    refine lv_icmp_ne (tgt := 12) hx hb dX1_pass_5 (by decide) (fun c_2 => ?_) (fun c_0 => absurd c_0 (show ¬ (nI nk) = (-1 : Int32) from (by simp (disch := omega) only [ti_lt, ti_le, ti_eq, ti_0, ti_1, ti_2, ti_m1, ti_100, ti_2000, nI_toInt] <;> omega)))
    refine lv_iload_n hx hb dX1_pass_12 rfl (lv_at hl 1 rfl) ?_
    refine lv_if_eq (tgt := 25) hx hb dX1_pass_13 (by decide) (fun c_3 => ?_) (fun c_0 => absurd (show p0 = (0 : Int32) from hz) c_0)
    refine lv_aload_n hx hb dX1_pass_25 rfl (lv_at hl 0 rfl) ?_
    refine va_get (D := (dC, dI)) (ci := 1) (v := .int (nI nk)) (C := RX1) (T := TX1) (N := 5) hx hb hts inX1_pass_X1 hown hK hP 0 rfl rfl 3 (by decide) (hts (.fieldLink RX1 22 "QueueHall" "fingerPlace" "I") (List.mem_of_getElem? (i := 1) (by decide +kernel))) (fun _ h9 => h9) rfl dX1_pass_26 ?_
    refine lv_istore_n (lv' := [(2, .int (nI nk)), (0, .ref x0), (1, .int p0)]) hx hb dX1_pass_29 rfl hl (by decide) rfl (fun ls hl => ?_)
    refine lv_aload_n hx hb dX1_pass_30 rfl (lv_at hl 1 rfl) ?_
    refine va_get (D := (dC, dI)) (ci := 1) (v := .ref a3) (C := RX1) (T := TX1) (N := 5) hx hb hts inX1_pass_X1 hown hK hP 0 rfl rfl 2 (by decide) (hts (.fieldLink RX1 19 "QueueHall" "chainRow" "LQueueHall$Row;") (List.mem_of_getElem? (i := 3) (by decide +kernel))) (fun _ h9 => h9) rfl dX1_pass_31 ?_
    refine lv_iload_n hx hb dX1_pass_34 rfl (lv_at hl 0 rfl) ?_
    have hPc := hP.sub (ws' := [(a3, .inr (0, [.ref b3, .int (nI nk)]))]) [5] rfl
    have hKc := hK.sub (tys' := []) [] rfl
    refine q_csiE (va_runVN (As := [.int (nI nk)]) (rest := []) ⟨hx, hb, hml, hown, hts⟩ (c_Row_hasPlace l dC dI a3 b3 nk (nI nk)) ⟨va_cnB 1 hts gX1_pass_X0_hasPlace rfl rfl rfl (qN_hasPlace hN) (hts (.initialized RX0) (List.mem_of_getElem? (i := 6) (by decide +kernel))) (by decide +kernel) ⟨Nat.le_of_ble_eq_true rfl, Nat.le_of_ble_eq_true rfl⟩, (hts (.instanceMethod yX0_hasPlace) (List.mem_of_getElem? (i := 4) (by decide +kernel))), (hts (.selects RX0 yX0_hasPlace yX0_hasPlace) (List.mem_of_getElem? (i := 5) (by decide +kernel)))⟩ ⟨q_blR, va_recv hKc hPc (ci := 0) (q0 := 0) rfl rfl, fun U hU hW => ⟨rfl, by rw [hU]; exact hPc, va_K.moved hW.alike hKc⟩⟩ rfl rfl hl.1 rfl (lv_room (Nat.le_of_ble_eq_true rfl)) dX1_pass_35 ⟨Nat.le_of_ble_eq_true rfl, Nat.le_of_ble_eq_true rfl⟩) ?_
    refine q_top (y := 0) (qHp_e (by omega)) ?_
    refine lv_if_ne (tgt := 45) hx hb dX1_pass_38 (by decide) (fun c_0 => absurd (show (0 : Int32) = (0 : Int32) from (by decide)) c_0) (fun c_4 => ?_)
    refine lv_ldc2 (v := qNo) hx hb hown (hts (.constantLong RX1 50 (1099511627776)) (List.mem_of_getElem? (i := 2) (by decide +kernel))) dX1_pass_41 ?_
    exact W.lret (v := qNo) hx hb hr (fun t ht hW => ⟨⟨qNo, ((gh, nh), (gr, nr), (gk, nk), nI nk, me), rfl, (by simp only [qPass, if_neg (nI_pos (show nk < 2 ^ 31 by omega)), if_pos hz, if_pos True.intro]), fh, fr, fk, ha1, ha2, ha3, by rw [ht]; exact hP, va_K.moved hW.alike hK, hD⟩, hS.F ht⟩) hS.2.2 dX1_pass_44
  · refine lv_aload_n hx hb dX1_pass_0 rfl (lv_at hl 0 rfl) ?_
    refine va_get (D := (dC, dI)) (ci := 1) (v := .int (nI a)) (C := RX1) (T := TX1) (N := 5) hx hb hts inX1_pass_X1 hown hK hP 0 rfl rfl 3 (by decide) (hts (.fieldLink RX1 22 "QueueHall" "fingerPlace" "I") (List.mem_of_getElem? (i := 1) (by decide +kernel))) (fun _ h9 => h9) rfl dX1_pass_1 ?_
    refine lv_iconst (v := -1) hx hb dX1_pass_4 (by decide) ?_
    refine lv_icmp_ne (tgt := 12) hx hb dX1_pass_5 (by decide) (fun c_5 => ?_) (fun c_0 => absurd c_0 (show ¬ (nI a) = (-1 : Int32) from (by simp (disch := omega) only [ti_lt, ti_le, ti_eq, ti_0, ti_1, ti_2, ti_m1, ti_100, ti_2000, nI_toInt] <;> omega)))
    refine lv_iload_n hx hb dX1_pass_12 rfl (lv_at hl 1 rfl) ?_
    refine lv_if_eq (tgt := 25) hx hb dX1_pass_13 (by decide) (fun c_6 => ?_) (fun c_0 => absurd (show p0 = (0 : Int32) from hz) c_0)
    refine lv_aload_n hx hb dX1_pass_25 rfl (lv_at hl 0 rfl) ?_
    refine va_get (D := (dC, dI)) (ci := 1) (v := .int (nI a)) (C := RX1) (T := TX1) (N := 5) hx hb hts inX1_pass_X1 hown hK hP 0 rfl rfl 3 (by decide) (hts (.fieldLink RX1 22 "QueueHall" "fingerPlace" "I") (List.mem_of_getElem? (i := 1) (by decide +kernel))) (fun _ h9 => h9) rfl dX1_pass_26 ?_
    refine lv_istore_n (lv' := [(2, .int (nI a)), (0, .ref x0), (1, .int p0)]) hx hb dX1_pass_29 rfl hl (by decide) rfl (fun ls hl => ?_)
    refine lv_aload_n hx hb dX1_pass_30 rfl (lv_at hl 1 rfl) ?_
    refine va_get (D := (dC, dI)) (ci := 1) (v := .ref a3) (C := RX1) (T := TX1) (N := 5) hx hb hts inX1_pass_X1 hown hK hP 0 rfl rfl 2 (by decide) (hts (.fieldLink RX1 19 "QueueHall" "chainRow" "LQueueHall$Row;") (List.mem_of_getElem? (i := 3) (by decide +kernel))) (fun _ h9 => h9) rfl dX1_pass_31 ?_
    refine lv_iload_n hx hb dX1_pass_34 rfl (lv_at hl 0 rfl) ?_
    have hPc := hP.sub (ws' := [(a3, .inr (0, [.ref b3, .int (nI nk)]))]) [5] rfl
    have hKc := hK.sub (tys' := []) [] rfl
    refine q_csiE (va_runVN (As := [.int (nI a)]) (rest := []) ⟨hx, hb, hml, hown, hts⟩ (c_Row_hasPlace l dC dI a3 b3 nk (nI a)) ⟨va_cnB 1 hts gX1_pass_X0_hasPlace rfl rfl rfl (qN_hasPlace hN) (hts (.initialized RX0) (List.mem_of_getElem? (i := 6) (by decide +kernel))) (by decide +kernel) ⟨Nat.le_of_ble_eq_true rfl, Nat.le_of_ble_eq_true rfl⟩, (hts (.instanceMethod yX0_hasPlace) (List.mem_of_getElem? (i := 4) (by decide +kernel))), (hts (.selects RX0 yX0_hasPlace yX0_hasPlace) (List.mem_of_getElem? (i := 5) (by decide +kernel)))⟩ ⟨q_blR, va_recv hKc hPc (ci := 0) (q0 := 0) rfl rfl, fun U hU hW => ⟨rfl, by rw [hU]; exact hPc, va_K.moved hW.alike hKc⟩⟩ rfl rfl hl.1 rfl (lv_room (Nat.le_of_ble_eq_true rfl)) dX1_pass_35 ⟨Nat.le_of_ble_eq_true rfl, Nat.le_of_ble_eq_true rfl⟩) ?_
    refine q_top (y := 1) (qHp_in (by omega) (by omega)) ?_
    refine lv_if_ne (tgt := 45) hx hb dX1_pass_38 (by decide) (fun c_7 => ?_) (fun c_0 => absurd c_0 (show ¬ (1 : Int32) = (0 : Int32) from (by decide)))
    refine lv_aload_n hx hb dX1_pass_45 rfl (lv_at hl 1 rfl) ?_
    refine lv_iload_n hx hb dX1_pass_46 rfl (lv_at hl 2 rfl) ?_
    refine lv_if_eq (tgt := 54) hx hb dX1_pass_47 (by decide) (fun c_8 => ?_) (fun c_0 => absurd (show p0 = (0 : Int32) from hz) c_0)
    refine lv_iload_n hx hb dX1_pass_54 rfl (lv_at hl 0 rfl) ?_
    refine lv_iconst (v := 1) hx hb dX1_pass_55 (by decide) ?_
    refine lv_iadd hx hb dX1_pass_56 ?_
    refine q_top (y := nI (a + 1)) (nI_1 a) ?_
    refine va_put (D := (dC, dI)) (ci := 1) (v := .int (nI (a + 1))) (ty := .int) (C := RX1) (T := TX1) (N := 5) hx hb hts inX1_pass_X1 tyX1 tyX1_ok nmX1 hown hK hP hD hS 0 rfl rfl 3 (by decide) (hts (.fieldLink RX1 22 "QueueHall" "fingerPlace" "I") (List.mem_of_getElem? (i := 1) (by decide +kernel))) (fun _ h9 => h9) rfl (by decide +kernel) rfl rfl (Nat.le_of_ble_eq_true rfl) dX1_pass_57 (fun H locs hP hD hS => ?_)
    have hP : va_P (dC, dI) vwCl [(x0, .inr (1, [.ref a1, .ref a2, .ref a3, .int (nI (a + 1)), .int me])), (a1, .inr (0, [.ref b1, .int (nI nh)])), (b1, .inl (cA, 2100, .inl fh)), (a2, .inr (0, [.ref b2, .int (nI nr)])), (b2, .inl (cA, 2100, .inl fr)), (a3, .inr (0, [.ref b3, .int (nI nk)])), (b3, .inl (cA, 2100, .inl fk))] H := hP
    have hD : va_D A [(x0, .inr (1, [.ref a1, .ref a2, .ref a3, .int (nI (a + 1)), .int me])), (a1, .inr (0, [.ref b1, .int (nI nh)])), (b1, .inl (cA, 2100, .inl fh)), (a2, .inr (0, [.ref b2, .int (nI nr)])), (b2, .inl (cA, 2100, .inl fr)), (a3, .inr (0, [.ref b3, .int (nI nk)])), (b3, .inl (cA, 2100, .inl fk))] := hD
    refine lv_aload_n hx hb dX1_pass_60 rfl (lv_at hl 1 rfl) ?_
    refine lv_iload_n hx hb dX1_pass_61 rfl (lv_at hl 0 rfl) ?_
    refine va_put (D := (dC, dI)) (ci := 1) (v := .int (nI a)) (ty := .int) (C := RX1) (T := TX1) (N := 5) hx hb hts inX1_pass_X1 tyX1 tyX1_ok nmX1 hown hK hP hD hS 0 rfl rfl 4 (by decide) (hts (.fieldLink RX1 26 "QueueHall" "metPlace" "I") (List.mem_of_getElem? (i := 9) (by decide +kernel))) (fun _ h9 => h9) rfl (by decide +kernel) rfl rfl (Nat.le_of_ble_eq_true rfl) dX1_pass_62 (fun H locs hP hD hS => ?_)
    have hP : va_P (dC, dI) vwCl [(x0, .inr (1, [.ref a1, .ref a2, .ref a3, .int (nI (a + 1)), .int (nI a)])), (a1, .inr (0, [.ref b1, .int (nI nh)])), (b1, .inl (cA, 2100, .inl fh)), (a2, .inr (0, [.ref b2, .int (nI nr)])), (b2, .inl (cA, 2100, .inl fr)), (a3, .inr (0, [.ref b3, .int (nI nk)])), (b3, .inl (cA, 2100, .inl fk))] H := hP
    have hD : va_D A [(x0, .inr (1, [.ref a1, .ref a2, .ref a3, .int (nI (a + 1)), .int (nI a)])), (a1, .inr (0, [.ref b1, .int (nI nh)])), (b1, .inl (cA, 2100, .inl fh)), (a2, .inr (0, [.ref b2, .int (nI nr)])), (b2, .inl (cA, 2100, .inl fr)), (a3, .inr (0, [.ref b3, .int (nI nk)])), (b3, .inl (cA, 2100, .inl fk))] := hD
    refine lv_aload_n hx hb dX1_pass_65 rfl (lv_at hl 1 rfl) ?_
    refine va_get (D := (dC, dI)) (ci := 1) (v := .ref a3) (C := RX1) (T := TX1) (N := 5) hx hb hts inX1_pass_X1 hown hK hP 0 rfl rfl 2 (by decide) (hts (.fieldLink RX1 19 "QueueHall" "chainRow" "LQueueHall$Row;") (List.mem_of_getElem? (i := 3) (by decide +kernel))) (fun _ h9 => h9) rfl dX1_pass_66 ?_
    refine lv_iload_n hx hb dX1_pass_69 rfl (lv_at hl 0 rfl) ?_
    have hPc := hP.sub (ws' := [(a3, .inr (0, [.ref b3, .int (nI nk)])), (b3, .inl (cA, 2100, .inl fk))]) [5, 6] rfl
    have hKc := hK.sub (tys' := [(cA, .int)]) [0] rfl
    refine q_cslE (va_runVN (As := [.int (nI a)]) (rest := []) ⟨hx, hb, hml, hown, hts⟩ (c_Row_at l dC dI a3 b3 nk cA fk gk (nI a) (by omega) ha3) ⟨va_cnB 1 hts gX1_pass_X0_at rfl rfl rfl (qN_at hN) (hts (.initialized RX0) (List.mem_of_getElem? (i := 6) (by decide +kernel))) (by decide +kernel) ⟨Nat.le_of_ble_eq_true rfl, Nat.le_of_ble_eq_true rfl⟩, (hts (.instanceMethod yX0_at) (List.mem_of_getElem? (i := 10) (by decide +kernel))), (hts (.selects RX0 yX0_at yX0_at) (List.mem_of_getElem? (i := 11) (by decide +kernel)))⟩ ⟨q_blR, va_recv hKc hPc (ci := 0) (q0 := 0) rfl rfl, fun U hU hW => ⟨rfl, by rw [hU]; exact hPc, va_K.moved hW.alike hKc⟩⟩ rfl rfl hl.1 rfl (lv_room (Nat.le_of_ble_eq_true rfl)) dX1_pass_70 ⟨Nat.le_of_ble_eq_true rfl, Nat.le_of_ble_eq_true rfl⟩) ?_
    refine q_topl (y := (gk a).toInt64) (qAt_i (by omega) (by omega)) ?_
    exact W.lret (v := (gk a).toInt64) hx hb hr (fun t ht hW => ⟨⟨(gk a).toInt64, ((gh, nh), (gr, nr), (gk, nk), nI (a + 1), nI a), rfl, (by simp only [qPass, if_neg (nI_pos (show a < 2 ^ 31 by omega)), if_pos hz, if_neg (show ¬ nI a = nI nk from fun q => by rw [nI_eq (by omega) (by omega)] at q; omega), nI_clamp (show a < 2 ^ 31 by omega), nI_1]), fh, fr, fk, ha1, ha2, ha3, by rw [ht]; exact hP, va_K.moved hW.alike hK, hD⟩, hS.F ht⟩) hS.2.2 dX1_pass_73
  · refine lv_aload_n hx hb dX1_pass_0 rfl (lv_at hl 0 rfl) ?_
    refine va_get (D := (dC, dI)) (ci := 1) (v := .int (nI 0)) (C := RX1) (T := TX1) (N := 5) hx hb hts inX1_pass_X1 hown hK hP 0 rfl rfl 3 (by decide) (hts (.fieldLink RX1 22 "QueueHall" "fingerPlace" "I") (List.mem_of_getElem? (i := 1) (by decide +kernel))) (fun _ h9 => h9) rfl dX1_pass_1 ?_
    refine lv_iconst (v := -1) hx hb dX1_pass_4 (by decide) ?_
    refine lv_icmp_ne (tgt := 12) hx hb dX1_pass_5 (by decide) (fun c_9 => ?_) (fun c_0 => absurd c_0 (show ¬ (nI 0) = (-1 : Int32) from (by simp (disch := omega) only [ti_lt, ti_le, ti_eq, ti_0, ti_1, ti_2, ti_m1, ti_100, ti_2000, nI_toInt] <;> omega)))
    refine lv_iload_n hx hb dX1_pass_12 rfl (lv_at hl 1 rfl) ?_
    refine lv_if_eq (tgt := 25) hx hb dX1_pass_13 (by decide) (fun c_0 => absurd c_0 (show ¬ p0 = (0 : Int32) from hz)) (fun c_10 => ?_)
    refine lv_aload_n hx hb dX1_pass_16 rfl (lv_at hl 0 rfl) ?_
    refine va_get (D := (dC, dI)) (ci := 1) (v := .int (nI 0)) (C := RX1) (T := TX1) (N := 5) hx hb hts inX1_pass_X1 hown hK hP 0 rfl rfl 3 (by decide) (hts (.fieldLink RX1 22 "QueueHall" "fingerPlace" "I") (List.mem_of_getElem? (i := 1) (by decide +kernel))) (fun _ h9 => h9) rfl dX1_pass_17 ?_
    refine lv_iconst (v := 1) hx hb dX1_pass_20 (by decide) ?_
    refine lv_isub hx hb dX1_pass_21 ?_
    refine q_top (y := -1) q_0m1 ?_
    refine lv_goto (tgt := 29) hx hb dX1_pass_22 (by decide) ?_
    refine lv_istore_n (lv' := [(2, .int (-1)), (0, .ref x0), (1, .int p0)]) hx hb dX1_pass_29 rfl hl (by decide) rfl (fun ls hl => ?_)
    refine lv_aload_n hx hb dX1_pass_30 rfl (lv_at hl 1 rfl) ?_
    refine va_get (D := (dC, dI)) (ci := 1) (v := .ref a3) (C := RX1) (T := TX1) (N := 5) hx hb hts inX1_pass_X1 hown hK hP 0 rfl rfl 2 (by decide) (hts (.fieldLink RX1 19 "QueueHall" "chainRow" "LQueueHall$Row;") (List.mem_of_getElem? (i := 3) (by decide +kernel))) (fun _ h9 => h9) rfl dX1_pass_31 ?_
    refine lv_iload_n hx hb dX1_pass_34 rfl (lv_at hl 0 rfl) ?_
    have hPc := hP.sub (ws' := [(a3, .inr (0, [.ref b3, .int (nI nk)]))]) [5] rfl
    have hKc := hK.sub (tys' := []) [] rfl
    refine q_csiE (va_runVN (As := [.int (-1)]) (rest := []) ⟨hx, hb, hml, hown, hts⟩ (c_Row_hasPlace l dC dI a3 b3 nk (-1)) ⟨va_cnB 1 hts gX1_pass_X0_hasPlace rfl rfl rfl (qN_hasPlace hN) (hts (.initialized RX0) (List.mem_of_getElem? (i := 6) (by decide +kernel))) (by decide +kernel) ⟨Nat.le_of_ble_eq_true rfl, Nat.le_of_ble_eq_true rfl⟩, (hts (.instanceMethod yX0_hasPlace) (List.mem_of_getElem? (i := 4) (by decide +kernel))), (hts (.selects RX0 yX0_hasPlace yX0_hasPlace) (List.mem_of_getElem? (i := 5) (by decide +kernel)))⟩ ⟨q_blR, va_recv hKc hPc (ci := 0) (q0 := 0) rfl rfl, fun U hU hW => ⟨rfl, by rw [hU]; exact hPc, va_K.moved hW.alike hKc⟩⟩ rfl rfl hl.1 rfl (lv_room (Nat.le_of_ble_eq_true rfl)) dX1_pass_35 ⟨Nat.le_of_ble_eq_true rfl, Nat.le_of_ble_eq_true rfl⟩) ?_
    refine q_top (y := 0) (qHp_m1) ?_
    refine lv_if_ne (tgt := 45) hx hb dX1_pass_38 (by decide) (fun c_0 => absurd (show (0 : Int32) = (0 : Int32) from (by decide)) c_0) (fun c_11 => ?_)
    refine lv_ldc2 (v := qNo) hx hb hown (hts (.constantLong RX1 50 (1099511627776)) (List.mem_of_getElem? (i := 2) (by decide +kernel))) dX1_pass_41 ?_
    exact W.lret (v := qNo) hx hb hr (fun t ht hW => ⟨⟨qNo, ((gh, nh), (gr, nr), (gk, nk), nI 0, me), rfl, (by simp only [qPass, if_neg (nI_pos (show 0 < 2 ^ 31 by omega)), if_neg hz, if_pos (show nI 0 = 0 from rfl)]), fh, fr, fk, ha1, ha2, ha3, by rw [ht]; exact hP, va_K.moved hW.alike hK, hD⟩, hS.F ht⟩) hS.2.2 dX1_pass_44
  · refine lv_aload_n hx hb dX1_pass_0 rfl (lv_at hl 0 rfl) ?_
    refine va_get (D := (dC, dI)) (ci := 1) (v := .int (nI (a + 1))) (C := RX1) (T := TX1) (N := 5) hx hb hts inX1_pass_X1 hown hK hP 0 rfl rfl 3 (by decide) (hts (.fieldLink RX1 22 "QueueHall" "fingerPlace" "I") (List.mem_of_getElem? (i := 1) (by decide +kernel))) (fun _ h9 => h9) rfl dX1_pass_1 ?_
    refine lv_iconst (v := -1) hx hb dX1_pass_4 (by decide) ?_
    refine lv_icmp_ne (tgt := 12) hx hb dX1_pass_5 (by decide) (fun c_12 => ?_) (fun c_0 => absurd c_0 (show ¬ (nI (a + 1)) = (-1 : Int32) from (by simp (disch := omega) only [ti_lt, ti_le, ti_eq, ti_0, ti_1, ti_2, ti_m1, ti_100, ti_2000, nI_toInt] <;> omega)))
    refine lv_iload_n hx hb dX1_pass_12 rfl (lv_at hl 1 rfl) ?_
    refine lv_if_eq (tgt := 25) hx hb dX1_pass_13 (by decide) (fun c_0 => absurd c_0 (show ¬ p0 = (0 : Int32) from hz)) (fun c_13 => ?_)
    refine lv_aload_n hx hb dX1_pass_16 rfl (lv_at hl 0 rfl) ?_
    refine va_get (D := (dC, dI)) (ci := 1) (v := .int (nI (a + 1))) (C := RX1) (T := TX1) (N := 5) hx hb hts inX1_pass_X1 hown hK hP 0 rfl rfl 3 (by decide) (hts (.fieldLink RX1 22 "QueueHall" "fingerPlace" "I") (List.mem_of_getElem? (i := 1) (by decide +kernel))) (fun _ h9 => h9) rfl dX1_pass_17 ?_
    refine lv_iconst (v := 1) hx hb dX1_pass_20 (by decide) ?_
    refine lv_isub hx hb dX1_pass_21 ?_
    refine q_top (y := nI a) (nI_pred a) ?_
    refine lv_goto (tgt := 29) hx hb dX1_pass_22 (by decide) ?_
    refine lv_istore_n (lv' := [(2, .int (nI a)), (0, .ref x0), (1, .int p0)]) hx hb dX1_pass_29 rfl hl (by decide) rfl (fun ls hl => ?_)
    refine lv_aload_n hx hb dX1_pass_30 rfl (lv_at hl 1 rfl) ?_
    refine va_get (D := (dC, dI)) (ci := 1) (v := .ref a3) (C := RX1) (T := TX1) (N := 5) hx hb hts inX1_pass_X1 hown hK hP 0 rfl rfl 2 (by decide) (hts (.fieldLink RX1 19 "QueueHall" "chainRow" "LQueueHall$Row;") (List.mem_of_getElem? (i := 3) (by decide +kernel))) (fun _ h9 => h9) rfl dX1_pass_31 ?_
    refine lv_iload_n hx hb dX1_pass_34 rfl (lv_at hl 0 rfl) ?_
    have hPc := hP.sub (ws' := [(a3, .inr (0, [.ref b3, .int (nI nk)]))]) [5] rfl
    have hKc := hK.sub (tys' := []) [] rfl
    refine q_csiE (va_runVN (As := [.int (nI a)]) (rest := []) ⟨hx, hb, hml, hown, hts⟩ (c_Row_hasPlace l dC dI a3 b3 nk (nI a)) ⟨va_cnB 1 hts gX1_pass_X0_hasPlace rfl rfl rfl (qN_hasPlace hN) (hts (.initialized RX0) (List.mem_of_getElem? (i := 6) (by decide +kernel))) (by decide +kernel) ⟨Nat.le_of_ble_eq_true rfl, Nat.le_of_ble_eq_true rfl⟩, (hts (.instanceMethod yX0_hasPlace) (List.mem_of_getElem? (i := 4) (by decide +kernel))), (hts (.selects RX0 yX0_hasPlace yX0_hasPlace) (List.mem_of_getElem? (i := 5) (by decide +kernel)))⟩ ⟨q_blR, va_recv hKc hPc (ci := 0) (q0 := 0) rfl rfl, fun U hU hW => ⟨rfl, by rw [hU]; exact hPc, va_K.moved hW.alike hKc⟩⟩ rfl rfl hl.1 rfl (lv_room (Nat.le_of_ble_eq_true rfl)) dX1_pass_35 ⟨Nat.le_of_ble_eq_true rfl, Nat.le_of_ble_eq_true rfl⟩) ?_
    refine q_top (y := 1) (qHp_in (by omega) (by omega)) ?_
    refine lv_if_ne (tgt := 45) hx hb dX1_pass_38 (by decide) (fun c_14 => ?_) (fun c_0 => absurd c_0 (show ¬ (1 : Int32) = (0 : Int32) from (by decide)))
    refine lv_aload_n hx hb dX1_pass_45 rfl (lv_at hl 1 rfl) ?_
    refine lv_iload_n hx hb dX1_pass_46 rfl (lv_at hl 2 rfl) ?_
    refine lv_if_eq (tgt := 54) hx hb dX1_pass_47 (by decide) (fun c_0 => absurd c_0 (show ¬ p0 = (0 : Int32) from hz)) (fun c_15 => ?_)
    refine lv_iload_n hx hb dX1_pass_50 rfl (lv_at hl 0 rfl) ?_
    refine lv_goto (tgt := 57) hx hb dX1_pass_51 (by decide) ?_
    refine va_put (D := (dC, dI)) (ci := 1) (v := .int (nI a)) (ty := .int) (C := RX1) (T := TX1) (N := 5) hx hb hts inX1_pass_X1 tyX1 tyX1_ok nmX1 hown hK hP hD hS 0 rfl rfl 3 (by decide) (hts (.fieldLink RX1 22 "QueueHall" "fingerPlace" "I") (List.mem_of_getElem? (i := 1) (by decide +kernel))) (fun _ h9 => h9) rfl (by decide +kernel) rfl rfl (Nat.le_of_ble_eq_true rfl) dX1_pass_57 (fun H locs hP hD hS => ?_)
    have hP : va_P (dC, dI) vwCl [(x0, .inr (1, [.ref a1, .ref a2, .ref a3, .int (nI a), .int me])), (a1, .inr (0, [.ref b1, .int (nI nh)])), (b1, .inl (cA, 2100, .inl fh)), (a2, .inr (0, [.ref b2, .int (nI nr)])), (b2, .inl (cA, 2100, .inl fr)), (a3, .inr (0, [.ref b3, .int (nI nk)])), (b3, .inl (cA, 2100, .inl fk))] H := hP
    have hD : va_D A [(x0, .inr (1, [.ref a1, .ref a2, .ref a3, .int (nI a), .int me])), (a1, .inr (0, [.ref b1, .int (nI nh)])), (b1, .inl (cA, 2100, .inl fh)), (a2, .inr (0, [.ref b2, .int (nI nr)])), (b2, .inl (cA, 2100, .inl fr)), (a3, .inr (0, [.ref b3, .int (nI nk)])), (b3, .inl (cA, 2100, .inl fk))] := hD
    refine lv_aload_n hx hb dX1_pass_60 rfl (lv_at hl 1 rfl) ?_
    refine lv_iload_n hx hb dX1_pass_61 rfl (lv_at hl 0 rfl) ?_
    refine va_put (D := (dC, dI)) (ci := 1) (v := .int (nI a)) (ty := .int) (C := RX1) (T := TX1) (N := 5) hx hb hts inX1_pass_X1 tyX1 tyX1_ok nmX1 hown hK hP hD hS 0 rfl rfl 4 (by decide) (hts (.fieldLink RX1 26 "QueueHall" "metPlace" "I") (List.mem_of_getElem? (i := 9) (by decide +kernel))) (fun _ h9 => h9) rfl (by decide +kernel) rfl rfl (Nat.le_of_ble_eq_true rfl) dX1_pass_62 (fun H locs hP hD hS => ?_)
    have hP : va_P (dC, dI) vwCl [(x0, .inr (1, [.ref a1, .ref a2, .ref a3, .int (nI a), .int (nI a)])), (a1, .inr (0, [.ref b1, .int (nI nh)])), (b1, .inl (cA, 2100, .inl fh)), (a2, .inr (0, [.ref b2, .int (nI nr)])), (b2, .inl (cA, 2100, .inl fr)), (a3, .inr (0, [.ref b3, .int (nI nk)])), (b3, .inl (cA, 2100, .inl fk))] H := hP
    have hD : va_D A [(x0, .inr (1, [.ref a1, .ref a2, .ref a3, .int (nI a), .int (nI a)])), (a1, .inr (0, [.ref b1, .int (nI nh)])), (b1, .inl (cA, 2100, .inl fh)), (a2, .inr (0, [.ref b2, .int (nI nr)])), (b2, .inl (cA, 2100, .inl fr)), (a3, .inr (0, [.ref b3, .int (nI nk)])), (b3, .inl (cA, 2100, .inl fk))] := hD
    refine lv_aload_n hx hb dX1_pass_65 rfl (lv_at hl 1 rfl) ?_
    refine va_get (D := (dC, dI)) (ci := 1) (v := .ref a3) (C := RX1) (T := TX1) (N := 5) hx hb hts inX1_pass_X1 hown hK hP 0 rfl rfl 2 (by decide) (hts (.fieldLink RX1 19 "QueueHall" "chainRow" "LQueueHall$Row;") (List.mem_of_getElem? (i := 3) (by decide +kernel))) (fun _ h9 => h9) rfl dX1_pass_66 ?_
    refine lv_iload_n hx hb dX1_pass_69 rfl (lv_at hl 0 rfl) ?_
    have hPc := hP.sub (ws' := [(a3, .inr (0, [.ref b3, .int (nI nk)])), (b3, .inl (cA, 2100, .inl fk))]) [5, 6] rfl
    have hKc := hK.sub (tys' := [(cA, .int)]) [0] rfl
    refine q_cslE (va_runVN (As := [.int (nI a)]) (rest := []) ⟨hx, hb, hml, hown, hts⟩ (c_Row_at l dC dI a3 b3 nk cA fk gk (nI a) (by omega) ha3) ⟨va_cnB 1 hts gX1_pass_X0_at rfl rfl rfl (qN_at hN) (hts (.initialized RX0) (List.mem_of_getElem? (i := 6) (by decide +kernel))) (by decide +kernel) ⟨Nat.le_of_ble_eq_true rfl, Nat.le_of_ble_eq_true rfl⟩, (hts (.instanceMethod yX0_at) (List.mem_of_getElem? (i := 10) (by decide +kernel))), (hts (.selects RX0 yX0_at yX0_at) (List.mem_of_getElem? (i := 11) (by decide +kernel)))⟩ ⟨q_blR, va_recv hKc hPc (ci := 0) (q0 := 0) rfl rfl, fun U hU hW => ⟨rfl, by rw [hU]; exact hPc, va_K.moved hW.alike hKc⟩⟩ rfl rfl hl.1 rfl (lv_room (Nat.le_of_ble_eq_true rfl)) dX1_pass_70 ⟨Nat.le_of_ble_eq_true rfl, Nat.le_of_ble_eq_true rfl⟩) ?_
    refine q_topl (y := (gk a).toInt64) (qAt_i (by omega) (by omega)) ?_
    exact W.lret (v := (gk a).toInt64) hx hb hr (fun t ht hW => ⟨⟨(gk a).toInt64, ((gh, nh), (gr, nr), (gk, nk), nI a, nI a), rfl, (by simp only [qPass, if_neg (nI_pos (show a + 1 < 2 ^ 31 by omega)), if_neg hz, if_neg (nI_ne0 (show 0 < a + 1 by omega) (show a + 1 < 2 ^ 31 by omega)), nI_clamp (show a + 1 < 2 ^ 31 by omega), nI_pred, Nat.add_sub_cancel]), fh, fr, fk, ha1, ha2, ha3, by rw [ht]; exact hP, va_K.moved hW.alike hK, hD⟩, hS.F ht⟩) hS.2.2 dX1_pass_73

