set_option maxHeartbeats 4000000 in
set_option maxRecDepth 100000 in
theorem lp_rest {p : Program} {l : Launch} {e : Env} {s : State} {m : MethodId} {args : Array Value} {below : List Frame} {meth : Method} {c : Code} {Q : State → Prop} {dC : Nat → ClassId} {dI : Nat → Nat → Nat} {A : Nat → Prop} (h0 h1 n : Nat) (cA : ClassId) (f g : Nat → Int32) (p0 p1 : Int32) (hn : n < 2100) (hg : qAg n f g) (hnz : ¬ p0 = 0) (hx : p.tables.exec = Jvm.exec) (hb : c.code = cX0_takeRest) (hml : c.maxLocals = 5) (hts : ∀ w ∈ wsX0_takeRest, w.before args s = true) (hown : s.vm.findClass RX0 = some m.cls) (hK : va_K (dC, dI) vwCl [(cA, .int)] s) (hA : ∀ q : Nat, s.heap.size ≤ q → A q)
    (E0 : ∀ (b : Nat) (a : Nat → Int32), (b = qSc g p0 p1 n) → (qSv a g p0 p1 n n) → ∀ (H : Heap) (locs : List Loc), va_P (dC, dI) vwCl [(h0, .inr (0, [.ref h1, .int (nI n)])), (h1, .inl (cA, 2100, .inl a))] H → va_D A [(h0, .inr (0, [.ref h1, .int (nI n)])), (h1, .inl (cA, 2100, .inl a))] → va_S A s.heap H locs → ∀ ls : Array Slot, lv_has ls 5 [(0, .ref h0), (1, .int p0), (2, .int p1), (3, .int (nI b))] → W p l e (headSpec wsX0_takeRest ({ frames := 1, cells := 0, slots := 0, locals := 22 })).room s m args below meth c H locs 0 0 Q (F0 m 58 ls [])) :
    ∀ (fu : Nat) (i : Nat) (b : Nat) (a : Nat → Int32), (n + 1 ≤ i + fu) → (i ≤ n) → (b = qSc g p0 p1 i) → (qSv a g p0 p1 i n) → ∀ (H : Heap) (locs : List Loc), va_P (dC, dI) vwCl [(h0, .inr (0, [.ref h1, .int (nI n)])), (h1, .inl (cA, 2100, .inl a))] H → va_D A [(h0, .inr (0, [.ref h1, .int (nI n)])), (h1, .inl (cA, 2100, .inl a))] → va_S A s.heap H locs → ∀ ls : Array Slot, lv_has ls 5 [(0, .ref h0), (1, .int p0), (2, .int p1), (3, .int (nI b)), (4, .int (nI i))] → W p l e (headSpec wsX0_takeRest ({ frames := 1, cells := 0, slots := 0, locals := 22 })).room s m args below meth c H locs 0 0 Q (F0 m 12 ls []) := by
  intro fu
  induction fu with
  | zero =>
    intro i b a hfu hi hb0 hv
    exact absurd hfu (by omega)
  | succ fu ih =>
    intro i b a hfu hi hb0 hv H locs hP hD hS ls hl
    have hbi := qSc_le (g := g) (st := p0) (re := p1) i
    refine lv_iload hx hb dX0_takeRest_12 (lv_at hl 4 rfl) ?_
    refine lv_aload_n hx hb dX0_takeRest_14 rfl (lv_at hl 0 rfl) ?_
    refine va_get (D := (dC, dI)) (ci := 0) (v := .int (nI n)) (C := RX0) (T := TX0) (N := 2) hx hb hts inX0_takeRest_X0 hown hK hP 0 rfl rfl 1 (by decide) (hts (.fieldLink RX0 15 "QueueHall$Row" "count" "I") (List.mem_of_getElem? (i := 1) (by decide +kernel))) (fun _ h9 => h9) rfl dX0_takeRest_15 ?_
    refine lv_icmp_ge (tgt := 58) hx hb dX0_takeRest_18 (by decide) (fun c_1 => ?_) (fun c_1 => ?_)
    · have k_1 : i ≥ n := by
        simp (disch := omega) only [ti_lt, ti_le, ti_eq, ti_0, ti_1, ti_2, ti_m1, ti_100, ti_2000, nI_toInt] at c_1
        omega
      exact E0 b a (by rw [hb0, show i = n by omega]) (qSv_end hv (by omega)) _ _ hP hD hS ls (lv_sub hl [0, 1, 2, 3] rfl)
    · have k_1 : i < n := by
        simp (disch := omega) only [ti_lt, ti_le, ti_eq, ti_0, ti_1, ti_2, ti_m1, ti_100, ti_2000, nI_toInt] at c_1
        omega
      refine lv_aload_n hx hb dX0_takeRest_21 rfl (lv_at hl 0 rfl) ?_
      refine va_get (D := (dC, dI)) (ci := 0) (v := .ref h1) (C := RX0) (T := TX0) (N := 2) hx hb hts inX0_takeRest_X0 hown hK hP 0 rfl rfl 0 (by decide) (hts (.fieldLink RX0 9 "QueueHall$Row" "numbers" "[I") (List.mem_of_getElem? (i := 2) (by decide +kernel))) (fun _ h9 => h9) rfl dX0_takeRest_22 ?_
      refine lv_iload hx hb dX0_takeRest_25 (lv_at hl 4 rfl) ?_
      refine q_iald (k := i) hx hb hK hP 1 0 rfl rfl (by omega) (by omega) dX0_takeRest_27 ?_
      refine lv_iload_n hx hb dX0_takeRest_28 rfl (lv_at hl 1 rfl) ?_
      have hPc := hP.sub (ws' := []) [] rfl
      have hKc := hK.sub (tys' := []) [] rfl
      refine q_csiE (va_runS (As := [.int (a i), .int p0]) (rest := []) ⟨hx, hb, hml, hown, hts⟩ (c_floorMod l dC dI (a i) p0 hnz) (va_cwS 2 hts gX0_takeRest_J9_floorMod_7cf53_v rfl rfl rfl (by decide +kernel) ⟨Nat.le_of_ble_eq_true rfl, Nat.le_of_ble_eq_true rfl⟩) ⟨q_blR, fun U hU hW => ⟨rfl, by rw [hU]; exact hPc, va_K.moved hW.alike hKc⟩⟩ rfl rfl hl.1 rfl (lv_room (Nat.le_of_ble_eq_true rfl)) dX0_takeRest_29 ⟨Nat.le_of_ble_eq_true rfl, Nat.le_of_ble_eq_true rfl⟩) ?_
      refine lv_iload_n hx hb dX0_takeRest_32 rfl (lv_at hl 2 rfl) ?_
      refine lv_icmp_eq (tgt := 52) hx hb dX0_takeRest_33 (by decide) (fun c_2 => ?_) (fun c_2 => ?_)
      · refine lv_iinc (v := nI (i + 1)) (lv' := [(4, .int (nI (i + 1))), (0, .ref h0), (1, .int p0), (2, .int p1), (3, .int (nI b))]) hx hb dX0_takeRest_52 hl (k := 4) rfl (nI_1 i) (by decide) rfl (fun ls hl => ?_)
        refine lv_goto (tgt := 12) hx hb dX0_takeRest_55 (by decide) ?_
        exact ih (i + 1) b a (by omega) (by omega) (by rw [(qSv_n hv k_1 c_2).2]; exact hb0) ((qSv_n hv k_1 c_2).1) _ _ hP hD hS ls (lv_sub hl [1, 2, 3, 4, 0] rfl)
      · refine lv_aload_n hx hb dX0_takeRest_36 rfl (lv_at hl 0 rfl) ?_
        refine va_get (D := (dC, dI)) (ci := 0) (v := .ref h1) (C := RX0) (T := TX0) (N := 2) hx hb hts inX0_takeRest_X0 hown hK hP 0 rfl rfl 0 (by decide) (hts (.fieldLink RX0 9 "QueueHall$Row" "numbers" "[I") (List.mem_of_getElem? (i := 2) (by decide +kernel))) (fun _ h9 => h9) rfl dX0_takeRest_37 ?_
        refine lv_iload_n hx hb dX0_takeRest_40 rfl (lv_at hl 3 rfl) ?_
        refine lv_aload_n hx hb dX0_takeRest_41 rfl (lv_at hl 0 rfl) ?_
        refine va_get (D := (dC, dI)) (ci := 0) (v := .ref h1) (C := RX0) (T := TX0) (N := 2) hx hb hts inX0_takeRest_X0 hown hK hP 0 rfl rfl 0 (by decide) (hts (.fieldLink RX0 9 "QueueHall$Row" "numbers" "[I") (List.mem_of_getElem? (i := 2) (by decide +kernel))) (fun _ h9 => h9) rfl dX0_takeRest_42 ?_
        refine lv_iload hx hb dX0_takeRest_45 (lv_at hl 4 rfl) ?_
        refine q_iald (k := i) hx hb hK hP 1 0 rfl rfl (by omega) (by omega) dX0_takeRest_47 ?_
        refine q_iast (k := b) hx hb hK hP hD hS 1 0 rfl rfl (by omega) (by omega) dX0_takeRest_48 (fun H locs hP hD hS => ?_)
        have hP : va_P (dC, dI) vwCl [(h0, .inr (0, [.ref h1, .int (nI n)])), (h1, .inl (cA, 2100, .inl (upd a b (a i))))] H := hP
        have hD : va_D A [(h0, .inr (0, [.ref h1, .int (nI n)])), (h1, .inl (cA, 2100, .inl (upd a b (a i))))] := hD
        refine lv_iinc (v := nI (b + 1)) (lv' := [(3, .int (nI (b + 1))), (0, .ref h0), (1, .int p0), (2, .int p1), (4, .int (nI i))]) hx hb dX0_takeRest_49 hl (k := 3) rfl (nI_1 b) (by decide) rfl (fun ls hl => ?_)
        refine lv_iinc (v := nI (i + 1)) (lv' := [(4, .int (nI (i + 1))), (3, .int (nI (b + 1))), (0, .ref h0), (1, .int p0), (2, .int p1)]) hx hb dX0_takeRest_52 hl (k := 4) rfl (nI_1 i) (by decide) rfl (fun ls hl => ?_)
        refine lv_goto (tgt := 12) hx hb dX0_takeRest_55 (by decide) ?_
        exact ih (i + 1) (b + 1) (upd a b (a i)) (by omega) (by omega) (by rw [(qSv_y hv k_1 c_2).2, hb0]) (by rw [hb0]; exact (qSv_y hv k_1 c_2).1) _ _ hP hD hS ls (lv_sub hl [2, 3, 4, 1, 0] rfl)

set_option maxHeartbeats 4000000 in
set_option maxRecDepth 100000 in
theorem c_Row_takeRest (l : Launch) (dC : Nat → ClassId) (dI : Nat → Nat → Nat) (sz : Nat) (h0 h1 n : Nat) (cA : ClassId) (f g : Nat → Int32) (p0 p1 : Int32) (hn : n < 2100) (hg : qAg n f g) : Met l yX0_takeRest wsX0_takeRest ({ frames := 1, cells := 0, slots := 0, locals := 22 }) (va_Pc [.ref h0, .int p0, .int p1] (fun U => U.heap.size = sz ∧ va_P (dC, dI) vwCl [(h0, .inr (0, [.ref h1, .int (nI n)])), (h1, .inl (cA, 2100, .inl f))] U.heap ∧ va_K (dC, dI) vwCl [(cA, .int)] U ∧ va_D (fun _ => True) [(h0, .inr (0, [.ref h1, .int (nI n)])), (h1, .inl (cA, 2100, .inl f))])) (va_Qi (fun (r : Int32) (u : qR) => (r, u) = qSieve g n p0 p1) (at_Row dC dI (va_A [(h0, .inr (0, [.ref h1, .int (nI n)])), (h1, .inl (cA, 2100, .inl f))] sz) h0 h1 cA) (va_A [(h0, .inr (0, [.ref h1, .int (nI n)])), (h1, .inl (cA, 2100, .inl f))] sz)) 0 0 (va_A [(h0, .inr (0, [.ref h1, .int (nI n)])), (h1, .inl (cA, 2100, .inl f))] sz) := by
  refine Met.ofW (cc := cX0_takeRest) (maxL := 5) (ret := (some .int)) (by decide +kernel) rfl ?_
  intro p e s m args below meth c s₁ B hml hv
  obtain ⟨rfl, hsz, hP, hK, hD0⟩ := hv
  have hx := B.exec
  have hb := B.bytes
  have hr := B.returns
  have hts := atoms_spec (ws := wsX0_takeRest) B.pre
  have hown : s.vm.findClass RX0 = some m.cls := findClass_of_methodNamed B.named
  have hlocks := B.notSynchronized
  subst hsz
  have hD := hD0.self (sz := s.heap.size)
  generalize hAe : va_A [(h0, .inr (0, [.ref h1, .int (nI n)])), (h1, .inl (cA, 2100, .inl f))] s.heap.size = A at hD ⊢
  have hA : ∀ q : Nat, s.heap.size ≤ q → A q := fun q h => by rw [← hAe]; exact Or.inr h
  have hS : va_S A s.heap s.heap [] := va_S.rf
  have hl := lv_entry ([.ref h0, .int p0, .int p1]) (n := 5) (Nat.le_of_ble_eq_true rfl)
  rw [lg_entry_eq]
  generalize (lg_sl ([.ref h0, .int p0, .int p1]) ++ List.replicate (5 - (lg_sl ([.ref h0, .int p0, .int p1])).length) Slot.unset).toArray = ls at hl ⊢
  have hl : lv_has ls 5 [(0, .ref h0), (1, .int p0), (2, .int p1)] := hl
  by_cases h : p0 < 1
  · refine lv_iload_n hx hb dX0_takeRest_0 rfl (lv_at hl 1 rfl) ?_
    refine lv_iconst (v := 1) hx hb dX0_takeRest_1 (by decide) ?_
    refine lv_icmp_ge (tgt := 7) hx hb dX0_takeRest_2 (by decide) (fun c_0 => absurd c_0 (show ¬ (1 : Int32) ≤ p0 from (fun q => by rw [ti_le, ti_1] at q; rw [ti_lt, ti_1] at h; omega))) (fun c_1 => ?_)
    refine lv_iconst (v := -1) hx hb dX0_takeRest_5 (by decide) ?_
    exact W.iret (v := -1) hx hb hr (fun t ht hW => ⟨⟨-1, (g, n), rfl, (by simp only [qSieve, if_pos h]), f, hg, by rw [ht]; exact hP, va_K.moved hW.alike hK, hD⟩, hS.F ht⟩) hS.2.2 dX0_takeRest_6
  · refine lv_iload_n hx hb dX0_takeRest_0 rfl (lv_at hl 1 rfl) ?_
    refine lv_iconst (v := 1) hx hb dX0_takeRest_1 (by decide) ?_
    refine lv_icmp_ge (tgt := 7) hx hb dX0_takeRest_2 (by decide) (fun c_2 => ?_) (fun c_0 => absurd (show (1 : Int32) ≤ p0 from (by rw [ti_lt, ti_1] at h; rw [ti_le, ti_1]; omega)) c_0)
    refine lv_iconst (v := nI 0) hx hb dX0_takeRest_7 (by decide) ?_
    refine lv_istore_n (lv' := [(3, .int (nI 0)), (0, .ref h0), (1, .int p0), (2, .int p1)]) hx hb dX0_takeRest_8 rfl hl (by decide) rfl (fun ls hl => ?_)
    refine lv_iconst (v := nI 0) hx hb dX0_takeRest_9 (by decide) ?_
    refine lv_istore (lv' := [(4, .int (nI 0)), (3, .int (nI 0)), (0, .ref h0), (1, .int p0), (2, .int p1)]) hx hb dX0_takeRest_10 hl (by decide) rfl (fun ls hl => ?_)
    refine lp_rest h0 h1 n cA f g p0 p1 hn hg (fun q => by rw [q] at h; exact h (by decide)) hx hb hml hts hown hK hA (fun b a hb0 hv H locs hP hD hS ls hl => ?_) (n + 1) 0 0 f (by omega) (by omega) rfl (qSv_0 hg) _ _ hP hD hS ls (lv_sub hl [2, 3, 4, 1, 0] rfl)
    have hbn := qSc_le (g := g) (st := p0) (re := p1) n
    refine lv_aload_n hx hb dX0_takeRest_58 rfl (lv_at hl 0 rfl) ?_
    refine va_get (D := (dC, dI)) (ci := 0) (v := .int (nI n)) (C := RX0) (T := TX0) (N := 2) hx hb hts inX0_takeRest_X0 hown hK hP 0 rfl rfl 1 (by decide) (hts (.fieldLink RX0 15 "QueueHall$Row" "count" "I") (List.mem_of_getElem? (i := 1) (by decide +kernel))) (fun _ h9 => h9) rfl dX0_takeRest_59 ?_
    refine lv_iload_n hx hb dX0_takeRest_62 rfl (lv_at hl 3 rfl) ?_
    refine lv_isub hx hb dX0_takeRest_63 ?_
    refine q_top (y := nI (n - b)) (pk_sub (by omega)) ?_
    refine lv_istore (lv' := [(4, .int (nI (n - b))), (0, .ref h0), (1, .int p0), (2, .int p1), (3, .int (nI b))]) hx hb dX0_takeRest_64 hl (by decide) rfl (fun ls hl => ?_)
    refine lv_aload_n hx hb dX0_takeRest_66 rfl (lv_at hl 1 rfl) ?_
    refine lv_iload_n hx hb dX0_takeRest_67 rfl (lv_at hl 4 rfl) ?_
    refine va_put (D := (dC, dI)) (ci := 0) (v := .int (nI b)) (ty := .int) (C := RX0) (T := TX0) (N := 2) hx hb hts inX0_takeRest_X0 tyX0 tyX0_ok nmX0 hown hK hP hD hS 0 rfl rfl 1 (by decide) (hts (.fieldLink RX0 15 "QueueHall$Row" "count" "I") (List.mem_of_getElem? (i := 1) (by decide +kernel))) (fun _ h9 => h9) rfl (by decide +kernel) rfl rfl (Nat.le_of_ble_eq_true rfl) dX0_takeRest_68 (fun H locs hP hD hS => ?_)
    have hP : va_P (dC, dI) vwCl [(h0, .inr (0, [.ref h1, .int (nI b)])), (h1, .inl (cA, 2100, .inl a))] H := hP
    have hD : va_D A [(h0, .inr (0, [.ref h1, .int (nI b)])), (h1, .inl (cA, 2100, .inl a))] := hD
    refine lv_iload hx hb dX0_takeRest_71 (lv_at hl 0 rfl) ?_
    exact W.iret (v := nI (n - b)) hx hb hr (fun t ht hW => ⟨⟨nI (n - b), (qSf g p0 p1 n, b), rfl, (by simp only [qSieve, if_neg h, hb0]), a, fun j hj => hv.1 j (by rw [← hb0]; exact hj), by rw [ht]; exact hP, va_K.moved hW.alike hK, hD⟩, hS.F ht⟩) hS.2.2 dX0_takeRest_73

set_option maxHeartbeats 4000000 in
set_option maxRecDepth 100000 in
theorem c_Row_turn (l : Launch) (dC : Nat → ClassId) (dI : Nat → Nat → Nat) (sz : Nat) (h0 h1 n : Nat) (cA : ClassId) (f g : Nat → Int32) (p0 : Int32) (hn : n < 2000) (hg : qAg n f g) : Met l yX0_turn wsX0_turn ({ frames := 1, cells := 0, slots := 0, locals := 22 }) (va_Pc [.ref h0, .int p0] (fun U => U.heap.size = sz ∧ va_P (dC, dI) vwCl [(h0, .inr (0, [.ref h1, .int (nI n)])), (h1, .inl (cA, 2100, .inl f))] U.heap ∧ va_K (dC, dI) vwCl [(cA, .int)] U ∧ va_D (fun _ => True) [(h0, .inr (0, [.ref h1, .int (nI n)])), (h1, .inl (cA, 2100, .inl f))])) (va_Qi (fun (r : Int32) (u : qR) => (r, u) = qTurn g n p0) (at_Row dC dI (va_A [(h0, .inr (0, [.ref h1, .int (nI n)])), (h1, .inl (cA, 2100, .inl f))] sz) h0 h1 cA) (va_A [(h0, .inr (0, [.ref h1, .int (nI n)])), (h1, .inl (cA, 2100, .inl f))] sz)) 0 0 (va_A [(h0, .inr (0, [.ref h1, .int (nI n)])), (h1, .inl (cA, 2100, .inl f))] sz) := by
  refine Met.ofW (cc := cX0_turn) (maxL := 3) (ret := (some .int)) (by decide +kernel) rfl ?_
  intro p e s m args below meth c s₁ B hml hv
  obtain ⟨rfl, hsz, hP, hK, hD0⟩ := hv
  have hx := B.exec
  have hb := B.bytes
  have hr := B.returns
  have hts := atoms_spec (ws := wsX0_turn) B.pre
  have hown : s.vm.findClass RX0 = some m.cls := findClass_of_methodNamed B.named
  have hlocks := B.notSynchronized
  subst hsz
  have hD := hD0.self (sz := s.heap.size)
  generalize hAe : va_A [(h0, .inr (0, [.ref h1, .int (nI n)])), (h1, .inl (cA, 2100, .inl f))] s.heap.size = A at hD ⊢
  have hA : ∀ q : Nat, s.heap.size ≤ q → A q := fun q h => by rw [← hAe]; exact Or.inr h
  have hS : va_S A s.heap s.heap [] := va_S.rf
  have hl := lv_entry ([.ref h0, .int p0]) (n := 3) (Nat.le_of_ble_eq_true rfl)
  rw [lg_entry_eq]
  generalize (lg_sl ([.ref h0, .int p0]) ++ List.replicate (3 - (lg_sl ([.ref h0, .int p0])).length) Slot.unset).toArray = ls at hl ⊢
  have hl : lv_has ls 3 [(0, .ref h0), (1, .int p0)] := hl
  rcases q_turn p0 with h | ⟨h, hh⟩ | ⟨k, hk, rfl⟩
  · refine lv_iload_n hx hb dX0_turn_0 rfl (lv_at hl 1 rfl) ?_
    refine lv_if_lt (tgt := 10) hx hb dX0_turn_1 (by decide) (fun c_1 => ?_) (fun c_0 => absurd (show p0 < (0 : Int32) from h) c_0)
    refine lv_iconst (v := -1) hx hb dX0_turn_10 (by decide) ?_
    exact W.iret (v := -1) hx hb hr (fun t ht hW => ⟨⟨-1, (g, n), rfl, (by simp only [qTurn, if_pos h]), f, hg, by rw [ht]; exact hP, va_K.moved hW.alike hK, hD⟩, hS.F ht⟩) hS.2.2 dX0_turn_11
  · refine lv_iload_n hx hb dX0_turn_0 rfl (lv_at hl 1 rfl) ?_
    refine lv_if_lt (tgt := 10) hx hb dX0_turn_1 (by decide) (fun c_0 => absurd c_0 (show ¬ p0 < (0 : Int32) from h)) (fun c_2 => ?_)
    refine lv_iload_n hx hb dX0_turn_4 rfl (lv_at hl 1 rfl) ?_
    refine lv_bipush (v := 100) hx hb dX0_turn_5 (by decide) ?_
    refine lv_icmp_le (tgt := 12) hx hb dX0_turn_7 (by decide) (fun c_0 => absurd c_0 (show ¬ p0 ≤ (100 : Int32) from (fun q => by rw [ti_le, ti_100] at q; rw [ti_lt, ti_100] at hh; omega))) (fun c_3 => ?_)
    refine lv_iconst (v := -1) hx hb dX0_turn_10 (by decide) ?_
    exact W.iret (v := -1) hx hb hr (fun t ht hW => ⟨⟨-1, (g, n), rfl, (by simp only [qTurn, if_neg h, if_pos hh]), f, hg, by rw [ht]; exact hP, va_K.moved hW.alike hK, hD⟩, hS.F ht⟩) hS.2.2 dX0_turn_11
  · refine lv_iload_n hx hb dX0_turn_0 rfl (lv_at hl 1 rfl) ?_
    refine lv_if_lt (tgt := 10) hx hb dX0_turn_1 (by decide) (fun c_0 => absurd c_0 (show ¬ (nI k) < (0 : Int32) from (by simp (disch := omega) only [ti_lt, ti_le, ti_eq, ti_0, ti_1, ti_2, ti_m1, ti_100, ti_2000, nI_toInt] <;> omega))) (fun c_4 => ?_)
    have k_4 : k ≥ 0 := by
      simp (disch := omega) only [ti_lt, ti_le, ti_eq, ti_0, ti_1, ti_2, ti_m1, ti_100, ti_2000, nI_toInt] at c_4
      omega
    refine lv_iload_n hx hb dX0_turn_4 rfl (lv_at hl 1 rfl) ?_
    refine lv_bipush (v := 100) hx hb dX0_turn_5 (by decide) ?_
    refine lv_icmp_le (tgt := 12) hx hb dX0_turn_7 (by decide) (fun c_5 => ?_) (fun c_0 => absurd (show (nI k) ≤ (100 : Int32) from (by simp (disch := omega) only [ti_lt, ti_le, ti_eq, ti_0, ti_1, ti_2, ti_m1, ti_100, ti_2000, nI_toInt] <;> omega)) c_0)
    have k_5 : k ≤ 100 := by
      simp (disch := omega) only [ti_lt, ti_le, ti_eq, ti_0, ti_1, ti_2, ti_m1, ti_100, ti_2000, nI_toInt] at c_5
      omega
    refine lv_aload_n hx hb dX0_turn_12 rfl (lv_at hl 0 rfl) ?_
    refine va_get (D := (dC, dI)) (ci := 0) (v := .int (nI n)) (C := RX0) (T := TX0) (N := 2) hx hb hts inX0_turn_X0 hown hK hP 0 rfl rfl 1 (by decide) (hts (.fieldLink RX0 15 "QueueHall$Row" "count" "I") (List.mem_of_getElem? (i := 1) (by decide +kernel))) (fun _ h9 => h9) rfl dX0_turn_13 ?_
    refine lv_if_le (tgt := 60) hx hb dX0_turn_16 (by decide) (fun c_6 => ?_) (fun c_6 => ?_)
    · have k_6 : n ≤ 0 := by
        simp (disch := omega) only [ti_lt, ti_le, ti_eq, ti_0, ti_1, ti_2, ti_m1, ti_100, ti_2000, nI_toInt] at c_6
        omega
      refine lv_aload_n hx hb dX0_turn_60 rfl (lv_at hl 0 rfl) ?_
      refine va_get (D := (dC, dI)) (ci := 0) (v := .int (nI n)) (C := RX0) (T := TX0) (N := 2) hx hb hts inX0_turn_X0 hown hK hP 0 rfl rfl 1 (by decide) (hts (.fieldLink RX0 15 "QueueHall$Row" "count" "I") (List.mem_of_getElem? (i := 1) (by decide +kernel))) (fun _ h9 => h9) rfl dX0_turn_61 ?_
      exact W.iret (v := nI n) hx hb hr (fun t ht hW => ⟨⟨nI n, (qRot g n k, n), rfl, (qTurn_i hk).symm, f, (by rw [show n = 0 by omega]; exact qAg_0), by rw [ht]; exact hP, va_K.moved hW.alike hK, hD⟩, hS.F ht⟩) hS.2.2 dX0_turn_64
    · have k_6 : n > 0 := by
        simp (disch := omega) only [ti_lt, ti_le, ti_eq, ti_0, ti_1, ti_2, ti_m1, ti_100, ti_2000, nI_toInt] at c_6
        omega
      have hm := Nat.mod_lt k (show n > 0 by omega)
      have hm2 := Nat.mod_le k n
      refine lv_iload_n hx hb dX0_turn_19 rfl (lv_at hl 1 rfl) ?_
      refine lv_aload_n hx hb dX0_turn_20 rfl (lv_at hl 0 rfl) ?_
      refine va_get (D := (dC, dI)) (ci := 0) (v := .int (nI n)) (C := RX0) (T := TX0) (N := 2) hx hb hts inX0_turn_X0 hown hK hP 0 rfl rfl 1 (by decide) (hts (.fieldLink RX0 15 "QueueHall$Row" "count" "I") (List.mem_of_getElem? (i := 1) (by decide +kernel))) (fun _ h9 => h9) rfl dX0_turn_21 ?_
      refine lv_irem hx hb dX0_turn_24 (nI_ne0 (by omega) (by omega)) ?_
      refine q_top (y := nI (k % n)) (pk_rem (by omega) (by omega) (by omega)) ?_
      refine lv_istore_n (lv' := [(2, .int (nI (k % n))), (0, .ref h0), (1, .int (nI k))]) hx hb dX0_turn_25 rfl hl (by decide) rfl (fun ls hl => ?_)
      refine lv_aload_n hx hb dX0_turn_26 rfl (lv_at hl 1 rfl) ?_
      refine va_get (D := (dC, dI)) (ci := 0) (v := .ref h1) (C := RX0) (T := TX0) (N := 2) hx hb hts inX0_turn_X0 hown hK hP 0 rfl rfl 0 (by decide) (hts (.fieldLink RX0 9 "QueueHall$Row" "numbers" "[I") (List.mem_of_getElem? (i := 2) (by decide +kernel))) (fun _ h9 => h9) rfl dX0_turn_27 ?_
      refine lv_iconst (v := nI 0) hx hb dX0_turn_30 (by decide) ?_
      refine lv_aload_n hx hb dX0_turn_31 rfl (lv_at hl 1 rfl) ?_
      refine va_get (D := (dC, dI)) (ci := 0) (v := .ref h1) (C := RX0) (T := TX0) (N := 2) hx hb hts inX0_turn_X0 hown hK hP 0 rfl rfl 0 (by decide) (hts (.fieldLink RX0 9 "QueueHall$Row" "numbers" "[I") (List.mem_of_getElem? (i := 2) (by decide +kernel))) (fun _ h9 => h9) rfl dX0_turn_32 ?_
      refine lv_aload_n hx hb dX0_turn_35 rfl (lv_at hl 1 rfl) ?_
      refine va_get (D := (dC, dI)) (ci := 0) (v := .int (nI n)) (C := RX0) (T := TX0) (N := 2) hx hb hts inX0_turn_X0 hown hK hP 0 rfl rfl 1 (by decide) (hts (.fieldLink RX0 15 "QueueHall$Row" "count" "I") (List.mem_of_getElem? (i := 1) (by decide +kernel))) (fun _ h9 => h9) rfl dX0_turn_36 ?_
      refine lv_iload_n hx hb dX0_turn_39 rfl (lv_at hl 0 rfl) ?_
      refine q_copy (sp := 0) (dp := n) (n := k % n) hx hb (by rw [hml]; exact hl.1.symm) hown (hts (.methodLink RX0 28 arraycopyName) (List.mem_of_getElem? (i := 3) (by decide +kernel))) (hts (.native arraycopyName) (List.mem_of_getElem? (i := 4) (by decide +kernel))) (hts (.static arraycopyName) (List.mem_of_getElem? (i := 5) (by decide +kernel))) (hts (.initialized "java/lang/System") (List.mem_of_getElem? (i := 6) (by decide +kernel))) hK hP hD hS 1 1 0 0 rfl rfl rfl rfl (by omega) (by omega) (by omega) (by omega) (Nat.le_of_ble_eq_true rfl) (Nat.le_of_ble_eq_true rfl) dX0_turn_40 (fun H locs hP hD hS => ?_)
      have hP : va_P (dC, dI) vwCl [(h0, .inr (0, [.ref h1, .int (nI n)])), (h1, .inl (cA, 2100, .inl (va_cpy f f 0 n (k % n))))] H := hP
      have hD : va_D A [(h0, .inr (0, [.ref h1, .int (nI n)])), (h1, .inl (cA, 2100, .inl (va_cpy f f 0 n (k % n))))] := hD
      refine lv_aload_n hx hb dX0_turn_43 rfl (lv_at hl 1 rfl) ?_
      refine va_get (D := (dC, dI)) (ci := 0) (v := .ref h1) (C := RX0) (T := TX0) (N := 2) hx hb hts inX0_turn_X0 hown hK hP 0 rfl rfl 0 (by decide) (hts (.fieldLink RX0 9 "QueueHall$Row" "numbers" "[I") (List.mem_of_getElem? (i := 2) (by decide +kernel))) (fun _ h9 => h9) rfl dX0_turn_44 ?_
      refine lv_iload_n hx hb dX0_turn_47 rfl (lv_at hl 0 rfl) ?_
      refine lv_aload_n hx hb dX0_turn_48 rfl (lv_at hl 1 rfl) ?_
      refine va_get (D := (dC, dI)) (ci := 0) (v := .ref h1) (C := RX0) (T := TX0) (N := 2) hx hb hts inX0_turn_X0 hown hK hP 0 rfl rfl 0 (by decide) (hts (.fieldLink RX0 9 "QueueHall$Row" "numbers" "[I") (List.mem_of_getElem? (i := 2) (by decide +kernel))) (fun _ h9 => h9) rfl dX0_turn_49 ?_
      refine lv_iconst (v := nI 0) hx hb dX0_turn_52 (by decide) ?_
      refine lv_aload_n hx hb dX0_turn_53 rfl (lv_at hl 1 rfl) ?_
      refine va_get (D := (dC, dI)) (ci := 0) (v := .int (nI n)) (C := RX0) (T := TX0) (N := 2) hx hb hts inX0_turn_X0 hown hK hP 0 rfl rfl 1 (by decide) (hts (.fieldLink RX0 15 "QueueHall$Row" "count" "I") (List.mem_of_getElem? (i := 1) (by decide +kernel))) (fun _ h9 => h9) rfl dX0_turn_54 ?_
      refine q_copy (sp := k % n) (dp := 0) (n := n) hx hb (by rw [hml]; exact hl.1.symm) hown (hts (.methodLink RX0 28 arraycopyName) (List.mem_of_getElem? (i := 3) (by decide +kernel))) (hts (.native arraycopyName) (List.mem_of_getElem? (i := 4) (by decide +kernel))) (hts (.static arraycopyName) (List.mem_of_getElem? (i := 5) (by decide +kernel))) (hts (.initialized "java/lang/System") (List.mem_of_getElem? (i := 6) (by decide +kernel))) hK hP hD hS 1 1 0 0 rfl rfl rfl rfl (by omega) (by omega) (by omega) (by omega) (Nat.le_of_ble_eq_true rfl) (Nat.le_of_ble_eq_true rfl) dX0_turn_57 (fun H locs hP hD hS => ?_)
      have hP : va_P (dC, dI) vwCl [(h0, .inr (0, [.ref h1, .int (nI n)])), (h1, .inl (cA, 2100, .inl (va_cpy (va_cpy f f 0 n (k % n)) (va_cpy f f 0 n (k % n)) (k % n) 0 n)))] H := hP
      have hD : va_D A [(h0, .inr (0, [.ref h1, .int (nI n)])), (h1, .inl (cA, 2100, .inl (va_cpy (va_cpy f f 0 n (k % n)) (va_cpy f f 0 n (k % n)) (k % n) 0 n)))] := hD
      refine lv_aload_n hx hb dX0_turn_60 rfl (lv_at hl 1 rfl) ?_
      refine va_get (D := (dC, dI)) (ci := 0) (v := .int (nI n)) (C := RX0) (T := TX0) (N := 2) hx hb hts inX0_turn_X0 hown hK hP 0 rfl rfl 1 (by decide) (hts (.fieldLink RX0 15 "QueueHall$Row" "count" "I") (List.mem_of_getElem? (i := 1) (by decide +kernel))) (fun _ h9 => h9) rfl dX0_turn_61 ?_
      exact W.iret (v := nI n) hx hb hr (fun t ht hW => ⟨⟨nI n, (qRot g n k, n), rfl, (qTurn_i hk).symm, _, qAg_turn hg (by omega), by rw [ht]; exact hP, va_K.moved hW.alike hK, hD⟩, hS.F ht⟩) hS.2.2 dX0_turn_64

set_option maxHeartbeats 4000000 in
set_option maxRecDepth 100000 in
theorem c_Row_takeAll (l : Launch) (dC : Nat → ClassId) (dI : Nat → Nat → Nat) (sz : Nat) (h0 h1 n o0 o1 q k : Nat) (cA : ClassId) (f g fo go : Nat → Int32) (hn : n + q ≤ 2000) (hk : k ≤ n) (hg : qAg n f g) (ho : qAg q fo go) : Met l yX0_takeAll wsX0_takeAll ({ frames := 1, cells := 0, slots := 0, locals := 21 }) (va_Pc [.ref h0, .ref o0, .int (nI k)] (fun U => U.heap.size = sz ∧ va_P (dC, dI) vwCl [(h0, .inr (0, [.ref h1, .int (nI n)])), (h1, .inl (cA, 2100, .inl f)), (o0, .inr (0, [.ref o1, .int (nI q)])), (o1, .inl (cA, 2100, .inl fo))] U.heap ∧ va_K (dC, dI) vwCl [(cA, .int)] U ∧ va_D (fun _ => True) [(h0, .inr (0, [.ref h1, .int (nI n)])), (h1, .inl (cA, 2100, .inl f)), (o0, .inr (0, [.ref o1, .int (nI q)])), (o1, .inl (cA, 2100, .inl fo))])) (va_Qi (fun (r : Int32) (u : qR × qR) => (r, u) = (1, ((qCat g k go q, n + q), (go, 0)))) (at_Row2 dC dI (va_A [(h0, .inr (0, [.ref h1, .int (nI n)])), (h1, .inl (cA, 2100, .inl f)), (o0, .inr (0, [.ref o1, .int (nI q)])), (o1, .inl (cA, 2100, .inl fo))] sz) h0 h1 o0 o1 cA) (va_A [(h0, .inr (0, [.ref h1, .int (nI n)])), (h1, .inl (cA, 2100, .inl f)), (o0, .inr (0, [.ref o1, .int (nI q)])), (o1, .inl (cA, 2100, .inl fo))] sz)) 0 0 (va_A [(h0, .inr (0, [.ref h1, .int (nI n)])), (h1, .inl (cA, 2100, .inl f)), (o0, .inr (0, [.ref o1, .int (nI q)])), (o1, .inl (cA, 2100, .inl fo))] sz) := by
  refine Met.ofW (cc := cX0_takeAll) (maxL := 3) (ret := (some .boolean)) (by decide +kernel) rfl ?_
  intro p e s m args below meth c s₁ B hml hv
  obtain ⟨rfl, hsz, hP, hK, hD0⟩ := hv
  have hx := B.exec
  have hb := B.bytes
  have hr := B.returns
  have hts := atoms_spec (ws := wsX0_takeAll) B.pre
  have hown : s.vm.findClass RX0 = some m.cls := findClass_of_methodNamed B.named
  have hlocks := B.notSynchronized
  subst hsz
  have hD := hD0.self (sz := s.heap.size)
  generalize hAe : va_A [(h0, .inr (0, [.ref h1, .int (nI n)])), (h1, .inl (cA, 2100, .inl f)), (o0, .inr (0, [.ref o1, .int (nI q)])), (o1, .inl (cA, 2100, .inl fo))] s.heap.size = A at hD ⊢
  have hA : ∀ q : Nat, s.heap.size ≤ q → A q := fun q h => by rw [← hAe]; exact Or.inr h
  have hS : va_S A s.heap s.heap [] := va_S.rf
  have hl := lv_entry ([.ref h0, .ref o0, .int (nI k)]) (n := 3) (Nat.le_of_ble_eq_true rfl)
  rw [lg_entry_eq]
  generalize (lg_sl ([.ref h0, .ref o0, .int (nI k)]) ++ List.replicate (3 - (lg_sl ([.ref h0, .ref o0, .int (nI k)])).length) Slot.unset).toArray = ls at hl ⊢
  have hl : lv_has ls 3 [(0, .ref h0), (1, .ref o0), (2, .int (nI k))] := hl
  refine lv_aload_n hx hb dX0_takeAll_0 rfl (lv_at hl 0 rfl) ?_
  refine va_get (D := (dC, dI)) (ci := 0) (v := .int (nI n)) (C := RX0) (T := TX0) (N := 2) hx hb hts inX0_takeAll_X0 hown hK hP 0 rfl rfl 1 (by decide) (hts (.fieldLink RX0 15 "QueueHall$Row" "count" "I") (List.mem_of_getElem? (i := 1) (by decide +kernel))) (fun _ h9 => h9) rfl dX0_takeAll_1 ?_
  refine lv_aload_n hx hb dX0_takeAll_4 rfl (lv_at hl 1 rfl) ?_
  refine va_get (D := (dC, dI)) (ci := 0) (v := .int (nI q)) (C := RX0) (T := TX0) (N := 2) hx hb hts inX0_takeAll_X0 hown hK hP 2 rfl rfl 1 (by decide) (hts (.fieldLink RX0 15 "QueueHall$Row" "count" "I") (List.mem_of_getElem? (i := 1) (by decide +kernel))) (fun _ h9 => h9) rfl dX0_takeAll_5 ?_
  refine lv_iadd hx hb dX0_takeAll_8 ?_
  refine q_top (y := nI (n + q)) (nI_add n q) ?_
  refine lv_sipush (v := 2000) hx hb dX0_takeAll_9 (by decide) ?_
  refine lv_icmp_gt (tgt := 23) hx hb dX0_takeAll_12 (by decide) (fun c_0 => absurd c_0 (show ¬ (2000 : Int32) < (nI (n + q)) from (by simp (disch := omega) only [ti_lt, ti_le, ti_eq, ti_0, ti_1, ti_2, ti_m1, ti_100, ti_2000, nI_toInt] <;> omega))) (fun c_1 => ?_)
  have k_1 : (n + q) ≤ 2000 := by
    simp (disch := omega) only [ti_lt, ti_le, ti_eq, ti_0, ti_1, ti_2, ti_m1, ti_100, ti_2000, nI_toInt] at c_1
    omega
  refine lv_aload_n hx hb dX0_takeAll_15 rfl (lv_at hl 0 rfl) ?_
  refine lv_iload_n hx hb dX0_takeAll_16 rfl (lv_at hl 2 rfl) ?_
  have hPc := hP.sub (ws' := [(h0, .inr (0, [.ref h1, .int (nI n)]))]) [0] rfl
  have hKc := hK.sub (tys' := []) [] rfl
  refine q_csiE (va_runV (As := [.int (nI k)]) (rest := []) ⟨hx, hb, hml, hown, hts⟩ (c_Row_hasPlaceOrEnd l dC dI h0 h1 n (nI k)) (cwV 1 hts gX0_takeAll_X0_hasPlaceOrEnd_v rfl rfl rfl (by decide +kernel) ⟨Nat.le_of_ble_eq_true rfl, Nat.le_of_ble_eq_true rfl⟩) ⟨q_blR, va_recv hKc hPc (ci := 0) (q0 := 0) rfl rfl, fun U hU hW => ⟨rfl, by rw [hU]; exact hPc, va_K.moved hW.alike hKc⟩⟩ rfl rfl hl.1 rfl (lv_room (Nat.le_of_ble_eq_true rfl)) dX0_takeAll_17 ⟨Nat.le_of_ble_eq_true rfl, Nat.le_of_ble_eq_true rfl⟩) ?_
  refine q_top (y := 1) (qHe_in (by omega) (by omega)) ?_
  refine lv_if_ne (tgt := 25) hx hb dX0_takeAll_20 (by decide) (fun c_2 => ?_) (fun c_0 => absurd c_0 (show ¬ (1 : Int32) = (0 : Int32) from (by decide)))
  refine lv_aload_n hx hb dX0_takeAll_25 rfl (lv_at hl 0 rfl) ?_
  refine va_get (D := (dC, dI)) (ci := 0) (v := .ref h1) (C := RX0) (T := TX0) (N := 2) hx hb hts inX0_takeAll_X0 hown hK hP 0 rfl rfl 0 (by decide) (hts (.fieldLink RX0 9 "QueueHall$Row" "numbers" "[I") (List.mem_of_getElem? (i := 7) (by decide +kernel))) (fun _ h9 => h9) rfl dX0_takeAll_26 ?_
  refine lv_iload_n hx hb dX0_takeAll_29 rfl (lv_at hl 2 rfl) ?_
  refine lv_aload_n hx hb dX0_takeAll_30 rfl (lv_at hl 0 rfl) ?_
  refine va_get (D := (dC, dI)) (ci := 0) (v := .ref h1) (C := RX0) (T := TX0) (N := 2) hx hb hts inX0_takeAll_X0 hown hK hP 0 rfl rfl 0 (by decide) (hts (.fieldLink RX0 9 "QueueHall$Row" "numbers" "[I") (List.mem_of_getElem? (i := 7) (by decide +kernel))) (fun _ h9 => h9) rfl dX0_takeAll_31 ?_
  refine lv_iload_n hx hb dX0_takeAll_34 rfl (lv_at hl 2 rfl) ?_
  refine lv_aload_n hx hb dX0_takeAll_35 rfl (lv_at hl 1 rfl) ?_
  refine va_get (D := (dC, dI)) (ci := 0) (v := .int (nI q)) (C := RX0) (T := TX0) (N := 2) hx hb hts inX0_takeAll_X0 hown hK hP 2 rfl rfl 1 (by decide) (hts (.fieldLink RX0 15 "QueueHall$Row" "count" "I") (List.mem_of_getElem? (i := 1) (by decide +kernel))) (fun _ h9 => h9) rfl dX0_takeAll_36 ?_
  refine lv_iadd hx hb dX0_takeAll_39 ?_
  refine q_top (y := nI (k + q)) (nI_add k q) ?_
  refine lv_aload_n hx hb dX0_takeAll_40 rfl (lv_at hl 0 rfl) ?_
  refine va_get (D := (dC, dI)) (ci := 0) (v := .int (nI n)) (C := RX0) (T := TX0) (N := 2) hx hb hts inX0_takeAll_X0 hown hK hP 0 rfl rfl 1 (by decide) (hts (.fieldLink RX0 15 "QueueHall$Row" "count" "I") (List.mem_of_getElem? (i := 1) (by decide +kernel))) (fun _ h9 => h9) rfl dX0_takeAll_41 ?_
  refine lv_iload_n hx hb dX0_takeAll_44 rfl (lv_at hl 2 rfl) ?_
  refine lv_isub hx hb dX0_takeAll_45 ?_
  refine q_top (y := nI (n - k)) (pk_sub (by omega)) ?_
  refine q_copy (sp := k) (dp := k + q) (n := n - k) hx hb (by rw [hml]; exact hl.1.symm) hown (hts (.methodLink RX0 28 arraycopyName) (List.mem_of_getElem? (i := 8) (by decide +kernel))) (hts (.native arraycopyName) (List.mem_of_getElem? (i := 9) (by decide +kernel))) (hts (.static arraycopyName) (List.mem_of_getElem? (i := 10) (by decide +kernel))) (hts (.initialized "java/lang/System") (List.mem_of_getElem? (i := 11) (by decide +kernel))) hK hP hD hS 1 1 0 0 rfl rfl rfl rfl (by omega) (by omega) (by omega) (by omega) (Nat.le_of_ble_eq_true rfl) (Nat.le_of_ble_eq_true rfl) dX0_takeAll_46 (fun H locs hP hD hS => ?_)
  have hP : va_P (dC, dI) vwCl [(h0, .inr (0, [.ref h1, .int (nI n)])), (h1, .inl (cA, 2100, .inl (va_cpy f f k (k + q) (n - k)))), (o0, .inr (0, [.ref o1, .int (nI q)])), (o1, .inl (cA, 2100, .inl fo))] H := hP
  have hD : va_D A [(h0, .inr (0, [.ref h1, .int (nI n)])), (h1, .inl (cA, 2100, .inl (va_cpy f f k (k + q) (n - k)))), (o0, .inr (0, [.ref o1, .int (nI q)])), (o1, .inl (cA, 2100, .inl fo))] := hD
  refine lv_aload_n hx hb dX0_takeAll_49 rfl (lv_at hl 1 rfl) ?_
  refine va_get (D := (dC, dI)) (ci := 0) (v := .ref o1) (C := RX0) (T := TX0) (N := 2) hx hb hts inX0_takeAll_X0 hown hK hP 2 rfl rfl 0 (by decide) (hts (.fieldLink RX0 9 "QueueHall$Row" "numbers" "[I") (List.mem_of_getElem? (i := 7) (by decide +kernel))) (fun _ h9 => h9) rfl dX0_takeAll_50 ?_
  refine lv_iconst (v := nI 0) hx hb dX0_takeAll_53 (by decide) ?_
  refine lv_aload_n hx hb dX0_takeAll_54 rfl (lv_at hl 0 rfl) ?_
  refine va_get (D := (dC, dI)) (ci := 0) (v := .ref h1) (C := RX0) (T := TX0) (N := 2) hx hb hts inX0_takeAll_X0 hown hK hP 0 rfl rfl 0 (by decide) (hts (.fieldLink RX0 9 "QueueHall$Row" "numbers" "[I") (List.mem_of_getElem? (i := 7) (by decide +kernel))) (fun _ h9 => h9) rfl dX0_takeAll_55 ?_
  refine lv_iload_n hx hb dX0_takeAll_58 rfl (lv_at hl 2 rfl) ?_
  refine lv_aload_n hx hb dX0_takeAll_59 rfl (lv_at hl 1 rfl) ?_
  refine va_get (D := (dC, dI)) (ci := 0) (v := .int (nI q)) (C := RX0) (T := TX0) (N := 2) hx hb hts inX0_takeAll_X0 hown hK hP 2 rfl rfl 1 (by decide) (hts (.fieldLink RX0 15 "QueueHall$Row" "count" "I") (List.mem_of_getElem? (i := 1) (by decide +kernel))) (fun _ h9 => h9) rfl dX0_takeAll_60 ?_
  refine q_copy (sp := 0) (dp := k) (n := q) hx hb (by rw [hml]; exact hl.1.symm) hown (hts (.methodLink RX0 28 arraycopyName) (List.mem_of_getElem? (i := 8) (by decide +kernel))) (hts (.native arraycopyName) (List.mem_of_getElem? (i := 9) (by decide +kernel))) (hts (.static arraycopyName) (List.mem_of_getElem? (i := 10) (by decide +kernel))) (hts (.initialized "java/lang/System") (List.mem_of_getElem? (i := 11) (by decide +kernel))) hK hP hD hS 3 1 0 0 rfl rfl rfl rfl (by omega) (by omega) (by omega) (by omega) (Nat.le_of_ble_eq_true rfl) (Nat.le_of_ble_eq_true rfl) dX0_takeAll_63 (fun H locs hP hD hS => ?_)
  have hP : va_P (dC, dI) vwCl [(h0, .inr (0, [.ref h1, .int (nI n)])), (h1, .inl (cA, 2100, .inl (va_cpy fo (va_cpy f f k (k + q) (n - k)) 0 k q))), (o0, .inr (0, [.ref o1, .int (nI q)])), (o1, .inl (cA, 2100, .inl fo))] H := hP
  have hD : va_D A [(h0, .inr (0, [.ref h1, .int (nI n)])), (h1, .inl (cA, 2100, .inl (va_cpy fo (va_cpy f f k (k + q) (n - k)) 0 k q))), (o0, .inr (0, [.ref o1, .int (nI q)])), (o1, .inl (cA, 2100, .inl fo))] := hD
  refine lv_aload_n hx hb dX0_takeAll_66 rfl (lv_at hl 0 rfl) ?_
  refine lv_dup hx hb dX0_takeAll_67 rfl ?_
  refine va_get (D := (dC, dI)) (ci := 0) (v := .int (nI n)) (C := RX0) (T := TX0) (N := 2) hx hb hts inX0_takeAll_X0 hown hK hP 0 rfl rfl 1 (by decide) (hts (.fieldLink RX0 15 "QueueHall$Row" "count" "I") (List.mem_of_getElem? (i := 1) (by decide +kernel))) (fun _ h9 => h9) rfl dX0_takeAll_68 ?_
  refine lv_aload_n hx hb dX0_takeAll_71 rfl (lv_at hl 1 rfl) ?_
  have hPc := hP.sub (ws' := [(o0, .inr (0, [.ref o1, .int (nI q)])), (o1, .inl (cA, 2100, .inl fo))]) [2, 3] rfl
  have hKc := hK.sub (tys' := [(cA, .int)]) [0] rfl
  have hDc := hD.sub (ws' := [(o0, .inr (0, [.ref o1, .int (nI q)])), (o1, .inl (cA, 2100, .inl fo))]) [2, 3] (by decide) rfl
  have hFc := va_free (wc := [(o0, .inr (0, [.ref o1, .int (nI q)])), (o1, .inl (cA, 2100, .inl fo))]) hD hS hA [2, 3] rfl
  refine va_calli (va_runV (As := []) (rest := [.int (nI n), .ref h0]) ⟨hx, hb, hml, hown, hts⟩ (c_Row_wipe l dC dI H.size o0 o1 q cA fo go ho) (cwV 0 hts gX0_takeAll_X0_wipe_v rfl rfl rfl (by decide +kernel) ⟨Nat.le_of_ble_eq_true rfl, Nat.le_of_ble_eq_true rfl⟩) ⟨q_blW, va_recv hKc hPc (ci := 0) (q0 := 0) rfl rfl, fun U hU hW => ⟨rfl, by rw [hU], by rw [hU]; exact hPc, va_K.moved hW.alike hKc, hDc.weaken (fun _ _ _ _ => trivial)⟩⟩ rfl rfl hl.1 rfl (lv_room (Nat.le_of_ble_eq_true rfl)) dX0_takeAll_72 ⟨Nat.le_of_ble_eq_true rfl, Nat.le_of_ble_eq_true rfl⟩) hS (fun q _ h => hFc q h) hFc (fun r_3 u_3 t_3 H1 locs ht hvm hw hB hz1 hk1 hS => ?_)
  obtain ⟨rfl, rfl⟩ := Prod.mk.inj hw
  obtain ⟨f_3, hg_3, hP1, hK1, hD1⟩ := hB
  rw [ht] at hP1
  obtain ⟨hP, hD⟩ := q_join (wr := [(h0, .inr (0, [.ref h1, .int (nI n)])), (h1, .inl (cA, 2100, .inl (va_cpy fo (va_cpy f f k (k + q) (n - k)) 0 k q)))]) (w1 := [(o0, .inr (0, [.ref o1, .int (nI 0)])), (o1, .inl (cA, 2100, .inl f_3))]) (wz := [(h0, .inr (0, [.ref h1, .int (nI n)])), (h1, .inl (cA, 2100, .inl (va_cpy fo (va_cpy f f k (k + q) (n - k)) 0 k q))), (o0, .inr (0, [.ref o1, .int (nI 0)])), (o1, .inl (cA, 2100, .inl f_3))]) hP hD [2, 3] [0, 1] [0, 1, 2, 3] rfl rfl (by decide) (by decide) hk1 hFc hP1 hD1 rfl rfl (by decide)
  generalize H1 = H at hP hS ⊢
  refine lv_iadd hx hb dX0_takeAll_75 ?_
  refine q_top (y := nI (n + q)) (nI_add n q) ?_
  refine va_put (D := (dC, dI)) (ci := 0) (v := .int (nI (n + q))) (ty := .int) (C := RX0) (T := TX0) (N := 2) hx hb hts inX0_takeAll_X0 tyX0 tyX0_ok nmX0 hown hK hP hD hS 0 rfl rfl 1 (by decide) (hts (.fieldLink RX0 15 "QueueHall$Row" "count" "I") (List.mem_of_getElem? (i := 1) (by decide +kernel))) (fun _ h9 => h9) rfl (by decide +kernel) rfl rfl (Nat.le_of_ble_eq_true rfl) dX0_takeAll_76 (fun H locs hP hD hS => ?_)
  have hP : va_P (dC, dI) vwCl [(h0, .inr (0, [.ref h1, .int (nI (n + q))])), (h1, .inl (cA, 2100, .inl (va_cpy fo (va_cpy f f k (k + q) (n - k)) 0 k q))), (o0, .inr (0, [.ref o1, .int (nI 0)])), (o1, .inl (cA, 2100, .inl f_3))] H := hP
  have hD : va_D A [(h0, .inr (0, [.ref h1, .int (nI (n + q))])), (h1, .inl (cA, 2100, .inl (va_cpy fo (va_cpy f f k (k + q) (n - k)) 0 k q))), (o0, .inr (0, [.ref o1, .int (nI 0)])), (o1, .inl (cA, 2100, .inl f_3))] := hD
  refine lv_iconst (v := 1) hx hb dX0_takeAll_79 (by decide) ?_
  exact W.zret (v := 1) hx hb hr rfl (fun t ht hW => ⟨⟨1, ((qCat g k go q, n + q), (go, 0)), rfl, rfl, _, _, qAg_cat hg ho hk, qAg_0, by rw [ht]; exact hP, va_K.moved hW.alike hK, hD⟩, hS.F ht⟩) hS.2.2 dX0_takeAll_80

set_option maxHeartbeats 4000000 in
set_option maxRecDepth 100000 in
theorem c_Row_init (l : Launch) (dC : Nat → ClassId) (dI : Nat → Nat → Nat) (sz : Nat) (h0 : Nat) : Met l yX0_init wsX0_init ({ frames := 1, cells := 1, slots := 2100, locals := 12 }) (va_Pc [.ref h0] (fun U => U.heap.size = sz ∧ va_P (dC, dI) vwCl [(h0, .inr (0, [.null, .int (nI 0)]))] U.heap ∧ va_K (dC, dI) vwCl [] U ∧ va_D (fun _ => True) [(h0, .inr (0, [.null, .int (nI 0)]))])) (va_Qv (fun (u : ClassId × Nat) => True) (at_RowI dC dI (va_A [(h0, .inr (0, [.null, .int (nI 0)]))] sz) h0) (va_A [(h0, .inr (0, [.null, .int (nI 0)]))] sz)) 1 2100 (va_A [(h0, .inr (0, [.null, .int (nI 0)]))] sz) := by
  refine Met.ofW (cc := cX0_init) (maxL := 1) (ret := none) (by decide +kernel) rfl ?_
  intro p e s m args below meth c s₁ B hml hv
  obtain ⟨rfl, hsz, hP, hK, hD0⟩ := hv
  have hx := B.exec
  have hb := B.bytes
  have hr := B.returns
  have hts := atoms_spec (ws := wsX0_init) B.pre
  have hown : s.vm.findClass RX0 = some m.cls := findClass_of_methodNamed B.named
  have hlocks := B.notSynchronized
  have hin : meth.name = "<init>" := (name_of_methodNamed B.named B.method).1
  subst hsz
  have hD := hD0.self (sz := s.heap.size)
  generalize hAe : va_A [(h0, .inr (0, [.null, .int (nI 0)]))] s.heap.size = A at hD ⊢
  have hA : ∀ q : Nat, s.heap.size ≤ q → A q := fun q h => by rw [← hAe]; exact Or.inr h
  have hS : va_S A s.heap s.heap [] := va_S.rf
  have hl := lv_entry ([.ref h0]) (n := 1) (Nat.le_of_ble_eq_true rfl)
  rw [lg_entry_eq]
  generalize (lg_sl ([.ref h0]) ++ List.replicate (1 - (lg_sl ([.ref h0])).length) Slot.unset).toArray = ls at hl ⊢
  have hl : lv_has ls 1 [(0, .ref h0)] := hl
  refine lv_aload_n hx hb dX0_init_0 rfl (lv_at hl 0 rfl) ?_
  refine W.objInit hx hb hown (hts (.methodLink RX0 3 objectInit) (List.mem_of_getElem? (i := 1) (by decide +kernel))) (hts (.instanceMethod objectInit) (List.mem_of_getElem? (i := 2) (by decide +kernel))) (hts (.code objectInit ⟨#[0xb1]⟩ 1 none) (List.mem_of_getElem? (i := 3) (by decide +kernel))) rfl (by rw [hml]; exact hl.1) rfl dX0_init_1 (Nat.le_of_ble_eq_true rfl) (Nat.le_of_ble_eq_true rfl) ?_
  refine W.eq (g2 := F0 m 4 ls []) rfl ?_
  refine lv_aload_n hx hb dX0_init_4 rfl (lv_at hl 0 rfl) ?_
  refine lv_sipush (v := 2100) hx hb dX0_init_5 (by decide) ?_
  refine q_newi (N := 2100) hx hb (hts (.arrayClass .int) (List.mem_of_getElem? (i := 4) (by decide +kernel))) hK hP hD hS hA (by decide +kernel) (by decide +kernel) (by decide +kernel) (by decide +kernel) (by decide +kernel) dX0_init_8 (fun q0 cA0 H hK hP hD hS => ?_)
  have hK : va_K (dC, dI) vwCl [(cA0, .int)] s := hK
  have hP : va_P (dC, dI) vwCl [(h0, .inr (0, [.null, .int (nI 0)])), (q0, .inl (cA0, 2100, .inl (fun _ => 0)))] H := hP
  have hD : va_D A [(h0, .inr (0, [.null, .int (nI 0)])), (q0, .inl (cA0, 2100, .inl (fun _ => 0)))] := hD
  refine va_putF (D := (dC, dI)) (ci := 0) (v := .ref q0) (ty := .array .int) (C := RX0) (T := TX0) (N := 2) hx hb hts inX0_init_X0 tyX0 tyX0_ok nmX0 hown hK hP hD hS 0 rfl rfl 0 (by decide) (hts (.fieldLink RX0 9 "QueueHall$Row" "numbers" "[I") (List.mem_of_getElem? (i := 5) (by decide +kernel))) (fun _ h9 => h9) rfl hin rfl (by decide +kernel) rfl rfl (Nat.le_of_ble_eq_true rfl) dX0_init_10 (fun H locs hP hD hS => ?_)
  have hP : va_P (dC, dI) vwCl [(h0, .inr (0, [.ref q0, .int (nI 0)])), (q0, .inl (cA0, 2100, .inl (fun _ => 0)))] H := hP
  have hD : va_D A [(h0, .inr (0, [.ref q0, .int (nI 0)])), (q0, .inl (cA0, 2100, .inl (fun _ => 0)))] := hD
  refine lv_aload_n hx hb dX0_init_13 rfl (lv_at hl 0 rfl) ?_
  refine lv_iconst (v := nI 0) hx hb dX0_init_14 (by decide) ?_
  refine va_put (D := (dC, dI)) (ci := 0) (v := .int (nI 0)) (ty := .int) (C := RX0) (T := TX0) (N := 2) hx hb hts inX0_init_X0 tyX0 tyX0_ok nmX0 hown hK hP hD hS 0 rfl rfl 1 (by decide) (hts (.fieldLink RX0 15 "QueueHall$Row" "count" "I") (List.mem_of_getElem? (i := 6) (by decide +kernel))) (fun _ h9 => h9) rfl (by decide +kernel) rfl rfl (Nat.le_of_ble_eq_true rfl) dX0_init_15 (fun H locs hP hD hS => ?_)
  have hP : va_P (dC, dI) vwCl [(h0, .inr (0, [.ref q0, .int (nI 0)])), (q0, .inl (cA0, 2100, .inl (fun _ => 0)))] H := hP
  have hD : va_D A [(h0, .inr (0, [.ref q0, .int (nI 0)])), (q0, .inl (cA0, 2100, .inl (fun _ => 0)))] := hD
  refine W.widen (k := 1) (n := 2100) (by omega) (by omega) ?_
  exact W.vret hx hb hr (fun t ht hW => ⟨⟨(cA0, q0), rfl, trivial, by rw [ht]; exact hP, va_K.moved hW.alike hK, hD⟩, hS.F ht⟩) hS.2.2 dX0_init_18

