/-! What links nest mates, as a premise that goes from state to state. -/
def qNf : List (String × Nat × String × String × String × String) := [(RX1, 37, "QueueHall$Row", "count", "I", "QueueHall")]
def qNm : List (String × Nat × MethodName × String) := [(RX1, 9, yX0_init, "QueueHall"), (RX1, 29, yX0_countBelow, "QueueHall"), (RX1, 33, yX0_put, "QueueHall"), (RX1, 40, yX0_at, "QueueHall"), (RX1, 44, yX0_take, "QueueHall"), (RX1, 47, yX0_firstPlace, "QueueHall"), (RX1, 56, yX0_wipe, "QueueHall"), (RX1, 63, yX0_lastPlace, "QueueHall"), (RX1, 66, yX0_hasPlace, "QueueHall"), (RX1, 70, yX0_takeRest, "QueueHall"), (RX1, 74, yX0_turn, "QueueHall"), (RX1, 77, yX0_hasPlaceOrEnd, "QueueHall"), (RX1, 80, yX0_swap, "QueueHall"), (RX1, 93, yX0_takeAll, "QueueHall")]
def qNest (U : State) : Prop := (∀ q ∈ qNf, va_Nw (.fieldLinkNest q.1 q.2.1 q.2.2.1 q.2.2.2.1 q.2.2.2.2.1 q.2.2.2.2.2) U) ∧ ∀ q ∈ qNm, va_Nw (.methodLinkNest q.1 q.2.1 q.2.2.1 q.2.2.2) U
theorem qNest.warm {s U : State} (h : qNest s) (hW : s.WarmedH U.vm) : qNest U := ⟨fun q hq => va_Nw.warmF hW (h.1 q hq), fun q hq => va_Nw.warmM hW (h.2 q hq)⟩
theorem qNest.same {u U : State} (hN : qNest u) (h : u.vm = U.vm) : qNest U := ⟨fun q hq => va_Nw.same rfl h (hN.1 q hq), fun q hq => va_Nw.same rfl h (hN.2 q hq)⟩
theorem qN_count {A : Array Value} {U : State} (h : qNest U) : (Cond.fieldLinkNest RX1 37 "QueueHall$Row" "count" "I" "QueueHall").before A U = true := va_Nw.use rfl (h.1 (RX1, 37, "QueueHall$Row", "count", "I", "QueueHall") (List.mem_of_getElem? (i := 0) rfl))
theorem qN_init {U : State} (h : qNest U) : va_Nw (.methodLinkNest RX1 9 yX0_init "QueueHall") U := h.2 (RX1, 9, yX0_init, "QueueHall") (List.mem_of_getElem? (i := 0) rfl)
theorem qN_countBelow {U : State} (h : qNest U) : va_Nw (.methodLinkNest RX1 29 yX0_countBelow "QueueHall") U := h.2 (RX1, 29, yX0_countBelow, "QueueHall") (List.mem_of_getElem? (i := 1) rfl)
theorem qN_put {U : State} (h : qNest U) : va_Nw (.methodLinkNest RX1 33 yX0_put "QueueHall") U := h.2 (RX1, 33, yX0_put, "QueueHall") (List.mem_of_getElem? (i := 2) rfl)
theorem qN_at {U : State} (h : qNest U) : va_Nw (.methodLinkNest RX1 40 yX0_at "QueueHall") U := h.2 (RX1, 40, yX0_at, "QueueHall") (List.mem_of_getElem? (i := 3) rfl)
theorem qN_take {U : State} (h : qNest U) : va_Nw (.methodLinkNest RX1 44 yX0_take "QueueHall") U := h.2 (RX1, 44, yX0_take, "QueueHall") (List.mem_of_getElem? (i := 4) rfl)
theorem qN_firstPlace {U : State} (h : qNest U) : va_Nw (.methodLinkNest RX1 47 yX0_firstPlace "QueueHall") U := h.2 (RX1, 47, yX0_firstPlace, "QueueHall") (List.mem_of_getElem? (i := 5) rfl)
theorem qN_wipe {U : State} (h : qNest U) : va_Nw (.methodLinkNest RX1 56 yX0_wipe "QueueHall") U := h.2 (RX1, 56, yX0_wipe, "QueueHall") (List.mem_of_getElem? (i := 6) rfl)
theorem qN_lastPlace {U : State} (h : qNest U) : va_Nw (.methodLinkNest RX1 63 yX0_lastPlace "QueueHall") U := h.2 (RX1, 63, yX0_lastPlace, "QueueHall") (List.mem_of_getElem? (i := 7) rfl)
theorem qN_hasPlace {U : State} (h : qNest U) : va_Nw (.methodLinkNest RX1 66 yX0_hasPlace "QueueHall") U := h.2 (RX1, 66, yX0_hasPlace, "QueueHall") (List.mem_of_getElem? (i := 8) rfl)
theorem qN_takeRest {U : State} (h : qNest U) : va_Nw (.methodLinkNest RX1 70 yX0_takeRest "QueueHall") U := h.2 (RX1, 70, yX0_takeRest, "QueueHall") (List.mem_of_getElem? (i := 9) rfl)
theorem qN_turn {U : State} (h : qNest U) : va_Nw (.methodLinkNest RX1 74 yX0_turn "QueueHall") U := h.2 (RX1, 74, yX0_turn, "QueueHall") (List.mem_of_getElem? (i := 10) rfl)
theorem qN_hasPlaceOrEnd {U : State} (h : qNest U) : va_Nw (.methodLinkNest RX1 77 yX0_hasPlaceOrEnd "QueueHall") U := h.2 (RX1, 77, yX0_hasPlaceOrEnd, "QueueHall") (List.mem_of_getElem? (i := 11) rfl)
theorem qN_swap {U : State} (h : qNest U) : va_Nw (.methodLinkNest RX1 80 yX0_swap "QueueHall") U := h.2 (RX1, 80, yX0_swap, "QueueHall") (List.mem_of_getElem? (i := 12) rfl)
theorem qN_takeAll {U : State} (h : qNest U) : va_Nw (.methodLinkNest RX1 93 yX0_takeAll "QueueHall") U := h.2 (RX1, 93, yX0_takeAll, "QueueHall") (List.mem_of_getElem? (i := 13) rfl)
theorem q_blRN {D : va_G} {cl : List vw_C} {tys : List (ClassId × FieldType)} {ws : va_W} {av : List Value} : FrameBlind (va_Pc av (fun U => va_P D cl ws U.heap ∧ va_K D cl tys U ∧ qNest U)) := fun a U g mk q => by
  obtain ⟨q1, qP, qK, qN⟩ := q
  exact ⟨q1, qP, va_K.moved (u := U) (U := U.calling g mk a) (Vm.Alike.refl U.vm) qK, qN.same rfl⟩
theorem q_blWN {D : va_G} {cl : List vw_C} {tys : List (ClassId × FieldType)} {ws : va_W} {av : List Value} {sz : Nat} {A : Nat → Prop} : FrameBlind (va_Pc av (fun U => U.heap.size = sz ∧ va_P D cl ws U.heap ∧ va_K D cl tys U ∧ va_D A ws ∧ qNest U)) := fun a U g mk q => by
  obtain ⟨q0, q1, qP, qK, qD, qN⟩ := q
  exact ⟨q0, q1, qP, va_K.moved (u := U) (U := U.calling g mk a) (Vm.Alike.refl U.vm) qK, qD, qN.same rfl⟩

