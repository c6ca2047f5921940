set_option maxHeartbeats 4000000 in
set_option maxRecDepth 100000 in
theorem lp_first {p : Program} {l : Launch} {e : Env} {s : State} {m : MethodId} {args : Array Value} {below : List Frame} {meth : Method} {c : Code} {Q : State → Prop} {dC : Nat → ClassId} {dI : Nat → Nat → Nat} {H : Heap} {locs : List Loc} (h0 h1 n : Nat) (cA : ClassId) (f g : Nat → Int32) (p0 : Int32) (hn : n < 2100) (hg : qAg n f g) (hx : p.tables.exec = Jvm.exec) (hb : c.code = cX0_firstPlace) (hml : c.maxLocals = 3) (hts : ∀ w ∈ wsX0_firstPlace, w.before args s = true) (hown : s.vm.findClass RX0 = some m.cls) (hK : va_K (dC, dI) vwCl [(cA, .int)] s) (hP : va_P (dC, dI) vwCl [(h0, .inr (0, [.ref h1, .int (nI n)])), (h1, .inl (cA, 2100, .inl f))] H)
    (E0 : (∀ j, j < n → ¬ f j = p0) → ∀ ls : Array Slot, lv_has ls 3 [(0, .ref h0), (1, .int p0)] → W p l e (headSpec wsX0_firstPlace ({ frames := 0, cells := 0, slots := 0, locals := 0 })).room s m args below meth c H locs 0 0 Q (F0 m 28 ls []))
    (E1 : ∀ (i : Nat), (i < n) → (∀ j, j < i → ¬ f j = p0) → (f i = p0) → ∀ ls : Array Slot, lv_has ls 3 [(0, .ref h0), (1, .int p0), (2, .int (nI i))] → W p l e (headSpec wsX0_firstPlace ({ frames := 0, cells := 0, slots := 0, locals := 0 })).room s m args below meth c H locs 0 0 Q (F0 m 20 ls [])) :
    ∀ (fu : Nat) (i : Nat), (n + 1 ≤ i + fu) → (i ≤ n) → (∀ j, j < i → ¬ f j = p0) → ∀ ls : Array Slot, lv_has ls 3 [(0, .ref h0), (1, .int p0), (2, .int (nI i))] → W p l e (headSpec wsX0_firstPlace ({ frames := 0, cells := 0, slots := 0, locals := 0 })).room s m args below meth c H locs 0 0 Q (F0 m 2 ls []) := by
  intro fu
  induction fu with
  | zero =>
    intro i hfu hi hq
    exact absurd hfu (by omega)
  | succ fu ih =>
    intro i hfu hi hq ls hl
    refine lv_iload_n hx hb dX0_firstPlace_2 rfl (lv_at hl 2 rfl) ?_
    refine lv_aload_n hx hb dX0_firstPlace_3 rfl (lv_at hl 0 rfl) ?_
    refine va_get (D := (dC, dI)) (ci := 0) (v := .int (nI n)) (C := RX0) (T := TX0) (N := 2) hx hb hts inX0_firstPlace_X0 hown hK hP 0 rfl rfl 1 (by decide) (hts (.fieldLink RX0 15 "QueueHall$Row" "count" "I") (List.mem_of_getElem? (i := 1) (by decide +kernel))) (fun _ h9 => h9) rfl dX0_firstPlace_4 ?_
    refine lv_icmp_ge (tgt := 28) hx hb dX0_firstPlace_7 (by decide) (fun c_1 => ?_) (fun c_1 => ?_)
    · have k_1 : i ≥ n := by
        simp (disch := omega) only [ti_lt, ti_le, ti_eq, ti_0, ti_1, ti_2, ti_m1, ti_100, ti_2000, nI_toInt] at c_1
        omega
      exact E0  (fun j hj => hq j (by omega)) ls (lv_sub hl [0, 1] rfl)
    · have k_1 : i < n := by
        simp (disch := omega) only [ti_lt, ti_le, ti_eq, ti_0, ti_1, ti_2, ti_m1, ti_100, ti_2000, nI_toInt] at c_1
        omega
      refine lv_aload_n hx hb dX0_firstPlace_10 rfl (lv_at hl 0 rfl) ?_
      refine va_get (D := (dC, dI)) (ci := 0) (v := .ref h1) (C := RX0) (T := TX0) (N := 2) hx hb hts inX0_firstPlace_X0 hown hK hP 0 rfl rfl 0 (by decide) (hts (.fieldLink RX0 9 "QueueHall$Row" "numbers" "[I") (List.mem_of_getElem? (i := 2) (by decide +kernel))) (fun _ h9 => h9) rfl dX0_firstPlace_11 ?_
      refine lv_iload_n hx hb dX0_firstPlace_14 rfl (lv_at hl 2 rfl) ?_
      refine q_iald (k := i) hx hb hK hP 1 0 rfl rfl (by omega) (by omega) dX0_firstPlace_15 ?_
      refine lv_iload_n hx hb dX0_firstPlace_16 rfl (lv_at hl 1 rfl) ?_
      refine lv_icmp_ne (tgt := 22) hx hb dX0_firstPlace_17 (by decide) (fun c_2 => ?_) (fun c_2 => ?_)
      · refine lv_iinc (v := nI (i + 1)) (lv' := [(2, .int (nI (i + 1))), (0, .ref h0), (1, .int p0)]) hx hb dX0_firstPlace_22 hl (k := 2) rfl (nI_1 i) (by decide) rfl (fun ls hl => ?_)
        refine lv_goto (tgt := 2) hx hb dX0_firstPlace_25 (by decide) ?_
        exact ih (i + 1) (by omega) (by omega) (lt_s hq c_2) ls (lv_sub hl [1, 2, 0] rfl)
      · exact E1 i (by omega) hq c_2 ls (lv_sub hl [0, 1, 2] rfl)

set_option maxHeartbeats 4000000 in
set_option maxRecDepth 100000 in
theorem c_Row_firstPlace (l : Launch) (dC : Nat → ClassId) (dI : Nat → Nat → Nat) (h0 h1 n : Nat) (cA : ClassId) (f g : Nat → Int32) (p0 : Int32) (hn : n < 2100) (hg : qAg n f g) : Met l yX0_firstPlace wsX0_firstPlace ({ frames := 0, cells := 0, slots := 0, locals := 0 }) (va_Pc [.ref h0, .int p0] (fun U => va_P (dC, dI) vwCl [(h0, .inr (0, [.ref h1, .int (nI n)])), (h1, .inl (cA, 2100, .inl f))] U.heap ∧ va_K (dC, dI) vwCl [(cA, .int)] U)) (vp_Si (fun r => r = qPl g p0 0 n)) 0 0 (fun _ => False) := by
  refine Met.ofW (cc := cX0_firstPlace) (maxL := 3) (ret := (some .int)) (by decide +kernel) rfl ?_
  intro p e s m args below meth c s₁ B hml hv
  obtain ⟨rfl, hP, hK⟩ := hv
  have hx := B.exec
  have hb := B.bytes
  have hr := B.returns
  have hts := atoms_spec (ws := wsX0_firstPlace) B.pre
  have hown : s.vm.findClass RX0 = some m.cls := findClass_of_methodNamed B.named
  have hlocks := B.notSynchronized
  have hl := lv_entry ([.ref h0, .int p0]) (n := 3) (Nat.le_of_ble_eq_true rfl)
  rw [lg_entry_eq]
  generalize (lg_sl ([.ref h0, .int p0]) ++ List.replicate (3 - (lg_sl ([.ref h0, .int p0])).length) Slot.unset).toArray = ls at hl ⊢
  have hl : lv_has ls 3 [(0, .ref h0), (1, .int p0)] := hl
  refine lv_iconst (v := nI 0) hx hb dX0_firstPlace_0 (by decide) ?_
  refine lv_istore_n (lv' := [(2, .int (nI 0)), (0, .ref h0), (1, .int p0)]) hx hb dX0_firstPlace_1 rfl hl (by decide) rfl (fun ls hl => ?_)
  refine lp_first h0 h1 n cA f g p0 hn hg hx hb hml hts hown hK hP (fun hq ls hl => ?_) (fun i hi hq he ls hl => ?_) (n + 1) 0 (by omega) (by omega) (fun j hj => absurd hj (Nat.not_lt_zero j)) ls (lv_sub hl [1, 2, 0] rfl)
  · refine lv_iconst (v := -1) hx hb dX0_firstPlace_28 (by decide) ?_
    exact W.iret (v := -1) hx hb hr (fun t ht hW => ⟨-1, rfl, ((qPl_none hq).symm.trans (qPl_ag hg)), ht⟩) (fun q h => by cases h) dX0_firstPlace_29
  · refine lv_iload_n hx hb dX0_firstPlace_20 rfl (lv_at hl 2 rfl) ?_
    exact W.iret (v := nI i) hx hb hr (fun t ht hW => ⟨nI i, rfl, ((qPl_first hq he (by omega) n hi).symm.trans (qPl_ag hg)), ht⟩) (fun q h => by cases h) dX0_firstPlace_21

set_option maxHeartbeats 4000000 in
set_option maxRecDepth 100000 in
theorem lp_last {p : Program} {l : Launch} {e : Env} {s : State} {m : MethodId} {args : Array Value} {below : List Frame} {meth : Method} {c : Code} {Q : State → Prop} {dC : Nat → ClassId} {dI : Nat → Nat → Nat} {H : Heap} {locs : List Loc} (h0 h1 n : Nat) (cA : ClassId) (f g : Nat → Int32) (p0 : Int32) (hn : n < 2100) (hg : qAg n f g) (hx : p.tables.exec = Jvm.exec) (hb : c.code = cX0_lastPlace) (hml : c.maxLocals = 3) (hts : ∀ w ∈ wsX0_lastPlace, w.before args s = true) (hown : s.vm.findClass RX0 = some m.cls) (hK : va_K (dC, dI) vwCl [(cA, .int)] s) (hP : va_P (dC, dI) vwCl [(h0, .inr (0, [.ref h1, .int (nI n)])), (h1, .inl (cA, 2100, .inl f))] H)
    (E0 : (∀ j, j < n → ¬ f j = p0) → ∀ ls : Array Slot, lv_has ls 3 [(0, .ref h0), (1, .int p0)] → W p l e (headSpec wsX0_lastPlace ({ frames := 0, cells := 0, slots := 0, locals := 0 })).room s m args below meth c H locs 0 0 Q (F0 m 29 ls []))
    (E1 : ∀ (i : Nat), (i < n) → (∀ j, i < j → j < n → ¬ f j = p0) → (f i = p0) → ∀ ls : Array Slot, lv_has ls 3 [(0, .ref h0), (1, .int p0), (2, .int (nI i))] → W p l e (headSpec wsX0_lastPlace ({ frames := 0, cells := 0, slots := 0, locals := 0 })).room s m args below meth c H locs 0 0 Q (F0 m 21 ls [])) :
    ∀ (fu : Nat) (b : Nat) (x : Int32), (b + 1 ≤ fu) → (x = nI b - 1) → (b ≤ n) → (∀ j, b ≤ j → j < n → ¬ f j = p0) → ∀ ls : Array Slot, lv_has ls 3 [(0, .ref h0), (1, .int p0), (2, .int x)] → W p l e (headSpec wsX0_lastPlace ({ frames := 0, cells := 0, slots := 0, locals := 0 })).room s m args below meth c H locs 0 0 Q (F0 m 7 ls []) := by
  intro fu
  induction fu with
  | zero =>
    intro b x hfu hx0 hi hq
    exact absurd hfu (by omega)
  | succ fu ih =>
    intro b x hfu hx0 hi hq ls hl
    rcases b with _ | d
    · obtain rfl : x = -1 := hx0.trans q_0m1
      refine lv_iload_n hx hb dX0_lastPlace_7 rfl (lv_at hl 2 rfl) ?_
      refine lv_if_lt (tgt := 29) hx hb dX0_lastPlace_8 (by decide) (fun c_1 => ?_) (fun c_0 => absurd (show (-1 : Int32) < (0 : Int32) from (by decide)) c_0)
      exact E0  (fun j hj => hq j (Nat.zero_le j) hj) ls (lv_sub hl [0, 1] rfl)
    · obtain rfl : x = nI d := hx0.trans (nI_pred d)
      refine lv_iload_n hx hb dX0_lastPlace_7 rfl (lv_at hl 2 rfl) ?_
      refine lv_if_lt (tgt := 29) hx hb dX0_lastPlace_8 (by decide) (fun c_0 => absurd c_0 (show ¬ (nI d) < (0 : Int32) from (by simp (disch := omega) only [ti_lt, ti_le, ti_eq, ti_0, ti_1, ti_2, ti_m1, ti_100, ti_2000, nI_toInt] <;> omega))) (fun c_2 => ?_)
      have k_2 : d ≥ 0 := by
        simp (disch := omega) only [ti_lt, ti_le, ti_eq, ti_0, ti_1, ti_2, ti_m1, ti_100, ti_2000, nI_toInt] at c_2
        omega
      refine lv_aload_n hx hb dX0_lastPlace_11 rfl (lv_at hl 0 rfl) ?_
      refine va_get (D := (dC, dI)) (ci := 0) (v := .ref h1) (C := RX0) (T := TX0) (N := 2) hx hb hts inX0_lastPlace_X0 hown hK hP 0 rfl rfl 0 (by decide) (hts (.fieldLink RX0 9 "QueueHall$Row" "numbers" "[I") (List.mem_of_getElem? (i := 2) (by decide +kernel))) (fun _ h9 => h9) rfl dX0_lastPlace_12 ?_
      refine lv_iload_n hx hb dX0_lastPlace_15 rfl (lv_at hl 2 rfl) ?_
      refine q_iald (k := d) hx hb hK hP 1 0 rfl rfl (by omega) (by omega) dX0_lastPlace_16 ?_
      refine lv_iload_n hx hb dX0_lastPlace_17 rfl (lv_at hl 1 rfl) ?_
      refine lv_icmp_ne (tgt := 23) hx hb dX0_lastPlace_18 (by decide) (fun c_3 => ?_) (fun c_3 => ?_)
      · refine lv_iinc (v := nI d - 1) (lv' := [(2, .int (nI d - 1)), (0, .ref h0), (1, .int p0)]) hx hb dX0_lastPlace_23 hl (k := 2) rfl (q_dec (nI d)) (by decide) rfl (fun ls hl => ?_)
        refine lv_goto (tgt := 7) hx hb dX0_lastPlace_26 (by decide) ?_
        exact ih d (nI d - 1) (by omega) rfl (by omega) (fun j a b => by
            by_cases e1 : j = d
            · rw [e1]
              exact c_3
            · exact hq j (by omega) b) ls (lv_sub hl [1, 2, 0] rfl)
      · exact E1 d (by omega) (fun j a b => hq j (by omega) b) c_3 ls (lv_sub hl [0, 1, 2] rfl)

set_option maxHeartbeats 4000000 in
set_option maxRecDepth 100000 in
theorem c_Row_lastPlace (l : Launch) (dC : Nat → ClassId) (dI : Nat → Nat → Nat) (h0 h1 n : Nat) (cA : ClassId) (f g : Nat → Int32) (p0 : Int32) (hn : n < 2100) (hg : qAg n f g) : Met l yX0_lastPlace wsX0_lastPlace ({ frames := 0, cells := 0, slots := 0, locals := 0 }) (va_Pc [.ref h0, .int p0] (fun U => va_P (dC, dI) vwCl [(h0, .inr (0, [.ref h1, .int (nI n)])), (h1, .inl (cA, 2100, .inl f))] U.heap ∧ va_K (dC, dI) vwCl [(cA, .int)] U)) (vp_Si (fun r => r = qPl g p0 1 n)) 0 0 (fun _ => False) := by
  refine Met.ofW (cc := cX0_lastPlace) (maxL := 3) (ret := (some .int)) (by decide +kernel) rfl ?_
  intro p e s m args below meth c s₁ B hml hv
  obtain ⟨rfl, hP, hK⟩ := hv
  have hx := B.exec
  have hb := B.bytes
  have hr := B.returns
  have hts := atoms_spec (ws := wsX0_lastPlace) B.pre
  have hown : s.vm.findClass RX0 = some m.cls := findClass_of_methodNamed B.named
  have hlocks := B.notSynchronized
  have hl := lv_entry ([.ref h0, .int p0]) (n := 3) (Nat.le_of_ble_eq_true rfl)
  rw [lg_entry_eq]
  generalize (lg_sl ([.ref h0, .int p0]) ++ List.replicate (3 - (lg_sl ([.ref h0, .int p0])).length) Slot.unset).toArray = ls at hl ⊢
  have hl : lv_has ls 3 [(0, .ref h0), (1, .int p0)] := hl
  refine lv_aload_n hx hb dX0_lastPlace_0 rfl (lv_at hl 0 rfl) ?_
  refine va_get (D := (dC, dI)) (ci := 0) (v := .int (nI n)) (C := RX0) (T := TX0) (N := 2) hx hb hts inX0_lastPlace_X0 hown hK hP 0 rfl rfl 1 (by decide) (hts (.fieldLink RX0 15 "QueueHall$Row" "count" "I") (List.mem_of_getElem? (i := 1) (by decide +kernel))) (fun _ h9 => h9) rfl dX0_lastPlace_1 ?_
  refine lv_iconst (v := 1) hx hb dX0_lastPlace_4 (by decide) ?_
  refine lv_isub hx hb dX0_lastPlace_5 ?_
  refine lv_istore_n (lv' := [(2, .int ((nI n) - 1)), (0, .ref h0), (1, .int p0)]) hx hb dX0_lastPlace_6 rfl hl (by decide) rfl (fun ls hl => ?_)
  refine lp_last h0 h1 n cA f g p0 hn hg hx hb hml hts hown hK hP (fun hq ls hl => ?_) (fun i hi hq he ls hl => ?_) (n + 1) n (nI n - 1) (by omega) rfl (by omega) (fun j a b => absurd a (by omega)) ls (lv_sub hl [1, 2, 0] rfl)
  · refine lv_iconst (v := -1) hx hb dX0_lastPlace_29 (by decide) ?_
    exact W.iret (v := -1) hx hb hr (fun t ht hW => ⟨-1, rfl, ((qPl_none hq).symm.trans (qPl_ag hg)), ht⟩) (fun q h => by cases h) dX0_lastPlace_30
  · refine lv_iload_n hx hb dX0_lastPlace_21 rfl (lv_at hl 2 rfl) ?_
    exact W.iret (v := nI i) hx hb hr (fun t ht hW => ⟨nI i, rfl, ((qPl_last he n hi hq).symm.trans (qPl_ag hg)), ht⟩) (fun q h => by cases h) dX0_lastPlace_22

set_option maxHeartbeats 4000000 in
set_option maxRecDepth 100000 in
theorem lp_below {p : Program} {l : Launch} {e : Env} {s : State} {m : MethodId} {args : Array Value} {below : List Frame} {meth : Method} {c : Code} {Q : State → Prop} {dC : Nat → ClassId} {dI : Nat → Nat → Nat} {H : Heap} {locs : List Loc} (h0 h1 n : Nat) (cA : ClassId) (f g : Nat → Int32) (p0 : Int32) (hn : n < 2100) (hg : qAg n f g) (hx : p.tables.exec = Jvm.exec) (hb : c.code = cX0_countBelow) (hml : c.maxLocals = 4) (hts : ∀ w ∈ wsX0_countBelow, w.before args s = true) (hown : s.vm.findClass RX0 = some m.cls) (hK : va_K (dC, dI) vwCl [(cA, .int)] s) (hP : va_P (dC, dI) vwCl [(h0, .inr (0, [.ref h1, .int (nI n)])), (h1, .inl (cA, 2100, .inl f))] H)
    (E0 : ∀ (b : Nat), (b = qCb f p0 n) → ∀ ls : Array Slot, lv_has ls 4 [(0, .ref h0), (1, .int p0), (2, .int (nI b))] → W p l e (headSpec wsX0_countBelow ({ frames := 0, cells := 0, slots := 0, locals := 0 })).room s m args below meth c H locs 0 0 Q (F0 m 31 ls [])) :
    ∀ (fu : Nat) (i : Nat) (b : Nat), (n + 1 ≤ i + fu) → (i ≤ n) → (b = qCb f p0 i) → ∀ ls : Array Slot, lv_has ls 4 [(0, .ref h0), (1, .int p0), (2, .int (nI b)), (3, .int (nI i))] → W p l e (headSpec wsX0_countBelow ({ frames := 0, cells := 0, slots := 0, locals := 0 })).room s m args below meth c H locs 0 0 Q (F0 m 4 ls []) := by
  intro fu
  induction fu with
  | zero =>
    intro i b hfu hi hb0
    exact absurd hfu (by omega)
  | succ fu ih =>
    intro i b hfu hi hb0 ls hl
    refine lv_iload_n hx hb dX0_countBelow_4 rfl (lv_at hl 3 rfl) ?_
    refine lv_aload_n hx hb dX0_countBelow_5 rfl (lv_at hl 0 rfl) ?_
    refine va_get (D := (dC, dI)) (ci := 0) (v := .int (nI n)) (C := RX0) (T := TX0) (N := 2) hx hb hts inX0_countBelow_X0 hown hK hP 0 rfl rfl 1 (by decide) (hts (.fieldLink RX0 15 "QueueHall$Row" "count" "I") (List.mem_of_getElem? (i := 1) (by decide +kernel))) (fun _ h9 => h9) rfl dX0_countBelow_6 ?_
    refine lv_icmp_ge (tgt := 31) hx hb dX0_countBelow_9 (by decide) (fun c_1 => ?_) (fun c_1 => ?_)
    · have k_1 : i ≥ n := by
        simp (disch := omega) only [ti_lt, ti_le, ti_eq, ti_0, ti_1, ti_2, ti_m1, ti_100, ti_2000, nI_toInt] at c_1
        omega
      exact E0 b (by rw [hb0, show i = n by omega]) ls (lv_sub hl [0, 1, 2] rfl)
    · have k_1 : i < n := by
        simp (disch := omega) only [ti_lt, ti_le, ti_eq, ti_0, ti_1, ti_2, ti_m1, ti_100, ti_2000, nI_toInt] at c_1
        omega
      refine lv_aload_n hx hb dX0_countBelow_12 rfl (lv_at hl 0 rfl) ?_
      refine va_get (D := (dC, dI)) (ci := 0) (v := .ref h1) (C := RX0) (T := TX0) (N := 2) hx hb hts inX0_countBelow_X0 hown hK hP 0 rfl rfl 0 (by decide) (hts (.fieldLink RX0 9 "QueueHall$Row" "numbers" "[I") (List.mem_of_getElem? (i := 2) (by decide +kernel))) (fun _ h9 => h9) rfl dX0_countBelow_13 ?_
      refine lv_iload_n hx hb dX0_countBelow_16 rfl (lv_at hl 3 rfl) ?_
      refine q_iald (k := i) hx hb hK hP 1 0 rfl rfl (by omega) (by omega) dX0_countBelow_17 ?_
      refine lv_iload_n hx hb dX0_countBelow_18 rfl (lv_at hl 1 rfl) ?_
      refine lv_icmp_ge (tgt := 25) hx hb dX0_countBelow_19 (by decide) (fun c_2 => ?_) (fun c_2 => ?_)
      · refine lv_iinc (v := nI (i + 1)) (lv' := [(3, .int (nI (i + 1))), (0, .ref h0), (1, .int p0), (2, .int (nI b))]) hx hb dX0_countBelow_25 hl (k := 3) rfl (nI_1 i) (by decide) rfl (fun ls hl => ?_)
        refine lv_goto (tgt := 4) hx hb dX0_countBelow_28 (by decide) ?_
        exact ih (i + 1) b (by omega) (by omega) (by rw [hb0]; simp only [qCb, if_neg (show ¬ f i < p0 from fun q => by rw [ti_lt] at q; rw [ti_le] at c_2; omega)]) ls (lv_sub hl [1, 2, 3, 0] rfl)
      · refine lv_iinc (v := nI (b + 1)) (lv' := [(2, .int (nI (b + 1))), (0, .ref h0), (1, .int p0), (3, .int (nI i))]) hx hb dX0_countBelow_22 hl (k := 2) rfl (nI_1 b) (by decide) rfl (fun ls hl => ?_)
        refine lv_iinc (v := nI (i + 1)) (lv' := [(3, .int (nI (i + 1))), (2, .int (nI (b + 1))), (0, .ref h0), (1, .int p0)]) hx hb dX0_countBelow_25 hl (k := 3) rfl (nI_1 i) (by decide) rfl (fun ls hl => ?_)
        refine lv_goto (tgt := 4) hx hb dX0_countBelow_28 (by decide) ?_
        exact ih (i + 1) (b + 1) (by omega) (by omega) (by rw [hb0]; simp only [qCb, if_pos (show f i < p0 from by rw [ti_le] at c_2; rw [ti_lt]; omega)]) ls (lv_sub hl [2, 3, 1, 0] rfl)

set_option maxHeartbeats 4000000 in
set_option maxRecDepth 100000 in
theorem c_Row_countBelow (l : Launch) (dC : Nat → ClassId) (dI : Nat → Nat → Nat) (h0 h1 n : Nat) (cA : ClassId) (f g : Nat → Int32) (p0 : Int32) (hn : n < 2100) (hg : qAg n f g) : Met l yX0_countBelow wsX0_countBelow ({ frames := 0, cells := 0, slots := 0, locals := 0 }) (va_Pc [.ref h0, .int p0] (fun U => va_P (dC, dI) vwCl [(h0, .inr (0, [.ref h1, .int (nI n)])), (h1, .inl (cA, 2100, .inl f))] U.heap ∧ va_K (dC, dI) vwCl [(cA, .int)] U)) (vp_Si (fun r => r = nI (qCb g p0 n))) 0 0 (fun _ => False) := by
  refine Met.ofW (cc := cX0_countBelow) (maxL := 4) (ret := (some .int)) (by decide +kernel) rfl ?_
  intro p e s m args below meth c s₁ B hml hv
  obtain ⟨rfl, hP, hK⟩ := hv
  have hx := B.exec
  have hb := B.bytes
  have hr := B.returns
  have hts := atoms_spec (ws := wsX0_countBelow) B.pre
  have hown : s.vm.findClass RX0 = some m.cls := findClass_of_methodNamed B.named
  have hlocks := B.notSynchronized
  have hl := lv_entry ([.ref h0, .int p0]) (n := 4) (Nat.le_of_ble_eq_true rfl)
  rw [lg_entry_eq]
  generalize (lg_sl ([.ref h0, .int p0]) ++ List.replicate (4 - (lg_sl ([.ref h0, .int p0])).length) Slot.unset).toArray = ls at hl ⊢
  have hl : lv_has ls 4 [(0, .ref h0), (1, .int p0)] := hl
  refine lv_iconst (v := nI 0) hx hb dX0_countBelow_0 (by decide) ?_
  refine lv_istore_n (lv' := [(2, .int (nI 0)), (0, .ref h0), (1, .int p0)]) hx hb dX0_countBelow_1 rfl hl (by decide) rfl (fun ls hl => ?_)
  refine lv_iconst (v := nI 0) hx hb dX0_countBelow_2 (by decide) ?_
  refine lv_istore_n (lv' := [(3, .int (nI 0)), (2, .int (nI 0)), (0, .ref h0), (1, .int p0)]) hx hb dX0_countBelow_3 rfl hl (by decide) rfl (fun ls hl => ?_)
  refine lp_below h0 h1 n cA f g p0 hn hg hx hb hml hts hown hK hP (fun b hb0 ls hl => ?_) (n + 1) 0 0 (by omega) (by omega) rfl ls (lv_sub hl [2, 3, 1, 0] rfl)
  refine lv_iload_n hx hb dX0_countBelow_31 rfl (lv_at hl 2 rfl) ?_
  exact W.iret (v := nI b) hx hb hr (fun t ht hW => ⟨nI b, rfl, (by rw [hb0, qCb_ag hg]), ht⟩) (fun q h => by cases h) dX0_countBelow_32

