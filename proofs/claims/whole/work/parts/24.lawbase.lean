/-! THE CLAIM OUT OF ONE WALK OF THE LAW'S BODY. Your part is whole_start (and what it stands on); all else here is the same for every law, but numbers. -/
def R_law : String := "QueueHallLaw"
def lw_P (b : Addr) (xs : List Int32) (args : Array Value) (s : State) : Prop := args = #[.ref b] ∧ s.IntsAt b xs ∧ xs.length ≤ 2048 ∧ (Jvm.Cond.and given_1 narrow_1).before args s = true
def lw_Q (_ : Array Value) (s : State) (o : Outcome) (t : State) : Prop := o = .returned (some (.int 1)) ∧ Framed s o t [] 11 12319
def lw_Z (below : List Frame) (a : Array Value) (s : State) : State → Prop := fun t => ∃ o, t.status = .running ∧ Ended t below o ∧ lw_Q a s o t
/-- the law's own end, with 1 on the stack, nothing written that was there before, its room as the claim has it -/
theorem lw_ret {p : Program} {l : Launch} {e : Env} {s : State} {m : MethodId} {below : List Frame} {meth : Method} {c : Code} {b : Nat} (hx : p.tables.exec = Jvm.exec) (hb : c.code = code) (hr : meth.sig.returnType = ret) (hlocks : meth.locks = false) {pc : Nat} {H : Heap} {ls : Array Slot} (hdg : decode code pc = .ok (.ireturn, 1)) : W p l e room_1 s m #[Value.ref b] below meth c H [] 11 12319 (lw_Z below #[Value.ref b] s) (F0 m pc ls [.int 1]) := by
  intro T hT X
  obtain ⟨fs, hret, hrun, hended, hW, hframe⟩ := X.leave (v := some (.int 1)) (hlocks := hlocks) (fun h => by rw [hr] at h; cases h)
  have hmeth' : T.vm.method? m = some meth := X.method'
  refine ⟨T.setFrames fs, ?_, .returned (some (.int 1)), hrun, hended, rfl, ⟨_, rfl⟩, hW, hframe⟩
  jvm_step X.here [X.here.top, hx, hb, hdg, hmeth', hr, ret, narrow_b1]
  (try refine ⟨rfl, ?_⟩); (try refine ⟨rfl, ?_⟩)
  first | (intro acts; rw [hret _ acts rfl rfl rfl]) | rw [hret _ _ rfl rfl rfl]
  exact Steps.refl _
/-- what holds at the law's entry: the machine, the code, the tables' words (any of lw_tbl by 'hts w (by decide +kernel)'), the script of L ints xs at the cell b, what the Statement gives of the start (any of its parts by flat_of_before) -/
def lw_At (p : Program) (s : State) (m : MethodId) (meth : Method) (c : Code) (b L : Nat) (xs : Nat → Int32) : Prop :=
  p.tables.exec = Jvm.exec ∧ c.code = code ∧ meth.sig.returnType = ret ∧ c.maxLocals = 4 ∧ s.vm.findClass R_law = some m.cls ∧ (∀ w ∈ lw_tbl, w.before #[Value.ref b] s = true) ∧ va_X b L xs s s.heap ∧ b < s.heap.size ∧ meth.locks = false ∧ (Jvm.Cond.and given_1 narrow_1).before #[Value.ref b] s = true
set_option maxRecDepth 20000 in
theorem gL_law_X1_enter : GoodIn lw_tbl wsX1_enter := goodIn_r _ [68, 49, 71, 0, 22, 72, 41, 40, 75, 1, 76, 77, 79, 2, 80, 81, 83, 82, 24, 54, 56, 58, 60, 62, 43, 45] (by decide +kernel) (by decide +kernel)
set_option maxRecDepth 20000 in
theorem gL_law_X1_enter_v : GoodIn lw_tbl (wsV RL 13 RX1 yX1_enter wsX1_enter) := goodIn_app (goodIn_r _ [65, 66, 67, 21] (by decide +kernel) (by decide +kernel)) gL_law_X1_enter
set_option maxRecDepth 20000 in
theorem gL_law_X2_enter : GoodIn lw_tbl wsX2_enter := goodIn_r _ [274, 249, 246, 275, 276, 23, 277, 254, 256, 258, 260, 262, 264, 266, 268] (by decide +kernel) (by decide +kernel)
set_option maxRecDepth 20000 in
theorem gL_law_X2_enter_v : GoodIn lw_tbl (wsV RL 17 RX2 yX2_enter wsX2_enter) := goodIn_app (goodIn_r _ [271, 272, 273, 23] (by decide +kernel) (by decide +kernel)) gL_law_X2_enter
set_option maxRecDepth 20000 in
theorem gL_law_X1_call : GoodIn lw_tbl wsX1_call := goodIn_r _ [87, 49, 90, 3, 22, 91, 92, 94, 4, 95, 41, 40, 96, 99, 5, 100, 81, 83, 82, 24, 54, 56, 58, 60, 62, 43, 45] (by decide +kernel) (by decide +kernel)
set_option maxRecDepth 20000 in
theorem gL_law_X1_call_v : GoodIn lw_tbl (wsV RL 18 RX1 yX1_call wsX1_call) := goodIn_app (goodIn_r _ [84, 85, 86, 21] (by decide +kernel) (by decide +kernel)) gL_law_X1_call
set_option maxRecDepth 20000 in
theorem gL_law_X2_call : GoodIn lw_tbl wsX2_call := goodIn_r _ [281, 249, 282, 246, 283, 284, 23, 285, 254, 256, 258, 260, 262, 264, 266, 268] (by decide +kernel) (by decide +kernel)
set_option maxRecDepth 20000 in
theorem gL_law_X2_call_v : GoodIn lw_tbl (wsV RL 22 RX2 yX2_call wsX2_call) := goodIn_app (goodIn_r _ [278, 279, 280, 23] (by decide +kernel) (by decide +kernel)) gL_law_X2_call
set_option maxRecDepth 20000 in
theorem gL_law_X1_leave : GoodIn lw_tbl wsX1_leave := goodIn_r _ [104, 49, 107, 6, 22, 108, 41, 40, 99, 5, 100, 92, 94, 4, 95, 96, 81, 83, 82, 24, 109, 54, 56, 58, 60, 62, 43, 45] (by decide +kernel) (by decide +kernel)
set_option maxRecDepth 20000 in
theorem gL_law_X1_leave_v : GoodIn lw_tbl (wsV RL 23 RX1 yX1_leave wsX1_leave) := goodIn_app (goodIn_r _ [101, 102, 103, 21] (by decide +kernel) (by decide +kernel)) gL_law_X1_leave
set_option maxRecDepth 20000 in
theorem gL_law_X2_leave : GoodIn lw_tbl wsX2_leave := goodIn_r _ [289, 246, 249, 290, 291, 23, 292, 283, 284, 285, 254, 256, 258, 260, 262, 264, 266, 268] (by decide +kernel) (by decide +kernel)
set_option maxRecDepth 20000 in
theorem gL_law_X2_leave_v : GoodIn lw_tbl (wsV RL 27 RX2 yX2_leave wsX2_leave) := goodIn_app (goodIn_r _ [286, 287, 288, 23] (by decide +kernel) (by decide +kernel)) gL_law_X2_leave
set_option maxRecDepth 20000 in
theorem gL_law_X1_has : GoodIn lw_tbl wsX1_has := goodIn_r _ [113, 114, 116, 7, 21, 117, 49, 50, 51, 107, 6, 22, 108, 41, 40, 54, 56, 58, 60, 62, 43, 45] (by decide +kernel) (by decide +kernel)
set_option maxRecDepth 20000 in
theorem gL_law_X1_has_v : GoodIn lw_tbl (wsV RL 28 RX1 yX1_has wsX1_has) := goodIn_app (goodIn_r _ [110, 111, 112, 21] (by decide +kernel) (by decide +kernel)) gL_law_X1_has
set_option maxRecDepth 20000 in
theorem gL_law_X2_has : GoodIn lw_tbl wsX2_has := goodIn_r _ [296, 246, 247, 248, 297, 299, 18, 23, 300, 249, 250, 251, 290, 291, 292, 254, 256, 258, 260, 262, 264, 266, 268] (by decide +kernel) (by decide +kernel)
set_option maxRecDepth 20000 in
theorem gL_law_X2_has_v : GoodIn lw_tbl (wsV RL 32 RX2 yX2_has wsX2_has) := goodIn_app (goodIn_r _ [293, 294, 295, 23] (by decide +kernel) (by decide +kernel)) gL_law_X2_has
set_option maxRecDepth 20000 in
theorem gL_law_X1_size : GoodIn lw_tbl wsX1_size := goodIn_r _ [121, 114, 116, 7, 21, 117, 49, 50, 51, 54, 56, 58, 60, 62, 43, 45] (by decide +kernel) (by decide +kernel)
set_option maxRecDepth 20000 in
theorem gL_law_X1_size_v : GoodIn lw_tbl (wsV RL 33 RX1 yX1_size wsX1_size) := goodIn_app (goodIn_r _ [118, 119, 120, 21] (by decide +kernel) (by decide +kernel)) gL_law_X1_size
set_option maxRecDepth 20000 in
theorem gL_law_X2_size : GoodIn lw_tbl wsX2_size := goodIn_r _ [304, 297, 299, 18, 23, 300, 249, 250, 251, 254, 256, 258, 260, 262, 264, 266, 268] (by decide +kernel) (by decide +kernel)
set_option maxRecDepth 20000 in
theorem gL_law_X2_size_v : GoodIn lw_tbl (wsV RL 36 RX2 yX2_size wsX2_size) := goodIn_app (goodIn_r _ [301, 302, 303, 23] (by decide +kernel) (by decide +kernel)) gL_law_X2_size
set_option maxRecDepth 20000 in
theorem gL_law_X1_clear : GoodIn lw_tbl wsX1_clear := goodIn_r _ [125, 114, 116, 7, 21, 117, 49, 50, 51, 128, 8, 22, 129, 41, 130, 132, 9, 133, 52, 53, 54, 56, 58, 60, 62, 43, 45] (by decide +kernel) (by decide +kernel)
set_option maxRecDepth 20000 in
theorem gL_law_X1_clear_v : GoodIn lw_tbl (wsV RL 37 RX1 yX1_clear wsX1_clear) := goodIn_app (goodIn_r _ [122, 123, 124, 21] (by decide +kernel) (by decide +kernel)) gL_law_X1_clear
set_option maxRecDepth 20000 in
theorem gL_law_X2_clear : GoodIn lw_tbl wsX2_clear := goodIn_r _ [308, 297, 299, 18, 23, 300, 249, 250, 251, 309, 311, 19, 312, 252, 253, 254, 256, 258, 260, 262, 264, 266, 268] (by decide +kernel) (by decide +kernel)
set_option maxRecDepth 20000 in
theorem gL_law_X2_clear_v : GoodIn lw_tbl (wsV RL 40 RX2 yX2_clear wsX2_clear) := goodIn_app (goodIn_r _ [305, 306, 307, 23] (by decide +kernel) (by decide +kernel)) gL_law_X2_clear
set_option maxRecDepth 20000 in
theorem gL_law_X1_join : GoodIn lw_tbl wsX1_join := goodIn_r _ [137, 50, 75, 1, 22, 76, 41, 77, 79, 2, 80, 40, 81, 83, 82, 24, 54, 56, 58, 60, 62, 43, 45] (by decide +kernel) (by decide +kernel)
set_option maxRecDepth 20000 in
theorem gL_law_X1_join_v : GoodIn lw_tbl (wsV RL 41 RX1 yX1_join wsX1_join) := goodIn_app (goodIn_r _ [134, 135, 136, 21] (by decide +kernel) (by decide +kernel)) gL_law_X1_join
set_option maxRecDepth 20000 in
theorem gL_law_X2_join : GoodIn lw_tbl wsX2_join := goodIn_r _ [316, 250, 247, 275, 276, 23, 277, 254, 256, 258, 260, 262, 264, 266, 268] (by decide +kernel) (by decide +kernel)
set_option maxRecDepth 20000 in
theorem gL_law_X2_join_v : GoodIn lw_tbl (wsV RL 45 RX2 yX2_join wsX2_join) := goodIn_app (goodIn_r _ [313, 314, 315, 23] (by decide +kernel) (by decide +kernel)) gL_law_X2_join
set_option maxRecDepth 20000 in
theorem gL_law_X1_serve : GoodIn lw_tbl wsX1_serve := goodIn_r _ [141, 50, 90, 3, 22, 91, 92, 94, 4, 95, 41, 40, 96, 99, 5, 100, 81, 83, 82, 24, 54, 56, 58, 60, 62, 43, 45] (by decide +kernel) (by decide +kernel)
set_option maxRecDepth 20000 in
theorem gL_law_X1_serve_v : GoodIn lw_tbl (wsV RL 46 RX1 yX1_serve wsX1_serve) := goodIn_app (goodIn_r _ [138, 139, 140, 21] (by decide +kernel) (by decide +kernel)) gL_law_X1_serve
set_option maxRecDepth 20000 in
theorem gL_law_X2_serve : GoodIn lw_tbl wsX2_serve := goodIn_r _ [320, 250, 282, 247, 283, 284, 23, 285, 254, 256, 258, 260, 262, 264, 266, 268] (by decide +kernel) (by decide +kernel)
set_option maxRecDepth 20000 in
theorem gL_law_X2_serve_v : GoodIn lw_tbl (wsV RL 50 RX2 yX2_serve wsX2_serve) := goodIn_app (goodIn_r _ [317, 318, 319, 23] (by decide +kernel) (by decide +kernel)) gL_law_X2_serve
set_option maxRecDepth 20000 in
theorem gL_law_X1_drop : GoodIn lw_tbl wsX1_drop := goodIn_r _ [145, 50, 107, 6, 22, 108, 41, 40, 148, 10, 149, 99, 5, 100, 92, 94, 4, 95, 96, 81, 83, 82, 24, 109, 54, 56, 58, 60, 62, 43, 45] (by decide +kernel) (by decide +kernel)
set_option maxRecDepth 20000 in
theorem gL_law_X1_drop_v : GoodIn lw_tbl (wsV RL 51 RX1 yX1_drop wsX1_drop) := goodIn_app (goodIn_r _ [142, 143, 144, 21] (by decide +kernel) (by decide +kernel)) gL_law_X1_drop
set_option maxRecDepth 20000 in
theorem gL_law_X2_drop : GoodIn lw_tbl wsX2_drop := goodIn_r _ [324, 247, 250, 290, 291, 23, 292, 283, 284, 285, 254, 256, 258, 260, 262, 264, 266, 268] (by decide +kernel) (by decide +kernel)
set_option maxRecDepth 20000 in
theorem gL_law_X2_drop_v : GoodIn lw_tbl (wsV RL 55 RX2 yX2_drop wsX2_drop) := goodIn_app (goodIn_r _ [321, 322, 323, 23] (by decide +kernel) (by decide +kernel)) gL_law_X2_drop
set_option maxRecDepth 20000 in
theorem gL_law_X1_ring : GoodIn lw_tbl wsX1_ring := goodIn_r _ [153, 50, 94, 4, 22, 95, 41, 109, 90, 3, 91, 92, 40, 96, 54, 56, 58, 60, 62, 43, 45] (by decide +kernel) (by decide +kernel)
set_option maxRecDepth 20000 in
theorem gL_law_X1_ring_v : GoodIn lw_tbl (wsV RL 56 RX1 yX1_ring wsX1_ring) := goodIn_app (goodIn_r _ [150, 151, 152, 21] (by decide +kernel) (by decide +kernel)) gL_law_X1_ring
set_option maxRecDepth 20000 in
theorem gL_law_X2_ring : GoodIn lw_tbl wsX2_ring := goodIn_r _ [328, 250, 282, 247, 254, 256, 258, 260, 262, 264, 266, 268] (by decide +kernel) (by decide +kernel)
set_option maxRecDepth 20000 in
theorem gL_law_X2_ring_v : GoodIn lw_tbl (wsV RL 60 RX2 yX2_ring wsX2_ring) := goodIn_app (goodIn_r _ [325, 326, 327, 23] (by decide +kernel) (by decide +kernel)) gL_law_X2_ring
set_option maxRecDepth 20000 in
theorem gL_law_X1_sieve : GoodIn lw_tbl wsX1_sieve := goodIn_r _ [158, 50, 161, 11, 22, 162, 41, 40, 163, 164, 25, 165, 54, 56, 58, 60, 62, 43, 45] (by decide +kernel) (by decide +kernel)
set_option maxRecDepth 20000 in
theorem gL_law_X1_sieve_v : GoodIn lw_tbl (wsV RL 61 RX1 yX1_sieve wsX1_sieve) := goodIn_app (goodIn_r _ [155, 156, 157, 21] (by decide +kernel) (by decide +kernel)) gL_law_X1_sieve
set_option maxRecDepth 20000 in
theorem gL_law_X2_sieve : GoodIn lw_tbl wsX2_sieve := goodIn_r _ [332, 250, 247, 333, 164, 25, 165, 254, 256, 258, 260, 262, 264, 266, 268] (by decide +kernel) (by decide +kernel)
set_option maxRecDepth 20000 in
theorem gL_law_X2_sieve_v : GoodIn lw_tbl (wsV RL 65 RX2 yX2_sieve wsX2_sieve) := goodIn_app (goodIn_r _ [329, 330, 331, 23] (by decide +kernel) (by decide +kernel)) gL_law_X2_sieve
set_option maxRecDepth 20000 in
theorem gL_law_X1_roll : GoodIn lw_tbl wsX1_roll := goodIn_r _ [169, 50, 172, 12, 22, 173, 41, 40, 81, 83, 82, 24, 54, 56, 58, 60, 62, 43, 45] (by decide +kernel) (by decide +kernel)
set_option maxRecDepth 20000 in
theorem gL_law_X1_roll_v : GoodIn lw_tbl (wsV RL 66 RX1 yX1_roll wsX1_roll) := goodIn_app (goodIn_r _ [166, 167, 168, 21] (by decide +kernel) (by decide +kernel)) gL_law_X1_roll
set_option maxRecDepth 20000 in
theorem gL_law_X2_roll : GoodIn lw_tbl wsX2_roll := goodIn_r _ [337, 250, 247, 283, 284, 23, 285, 254, 256, 258, 260, 262, 264, 266, 268] (by decide +kernel) (by decide +kernel)
set_option maxRecDepth 20000 in
theorem gL_law_X2_roll_v : GoodIn lw_tbl (wsV RL 69 RX2 yX2_roll wsX2_roll) := goodIn_app (goodIn_r _ [334, 335, 336, 23] (by decide +kernel) (by decide +kernel)) gL_law_X2_roll
set_option maxRecDepth 20000 in
theorem gL_law_X1_insert : GoodIn lw_tbl wsX1_insert := goodIn_r _ [177, 51, 79, 2, 22, 80, 41, 75, 1, 76, 77, 40, 81, 83, 82, 24, 130, 132, 9, 21, 133, 52, 53, 54, 56, 58, 60, 62, 43, 45] (by decide +kernel) (by decide +kernel)
set_option maxRecDepth 20000 in
theorem gL_law_X1_insert_v : GoodIn lw_tbl (wsV RL 70 RX1 yX1_insert wsX1_insert) := goodIn_app (goodIn_r _ [174, 175, 176, 21] (by decide +kernel) (by decide +kernel)) gL_law_X1_insert
set_option maxRecDepth 20000 in
theorem gL_law_X2_insert : GoodIn lw_tbl wsX2_insert := goodIn_r _ [341, 251, 248, 275, 276, 23, 277, 309, 311, 19, 312, 252, 253, 254, 256, 258, 260, 262, 264, 266, 268] (by decide +kernel) (by decide +kernel)
set_option maxRecDepth 20000 in
theorem gL_law_X2_insert_v : GoodIn lw_tbl (wsV RL 73 RX2 yX2_insert wsX2_insert) := goodIn_app (goodIn_r _ [338, 339, 340, 23] (by decide +kernel) (by decide +kernel)) gL_law_X2_insert
set_option maxRecDepth 20000 in
theorem gL_law_X1_change : GoodIn lw_tbl wsX1_change := goodIn_r _ [182, 51, 99, 5, 22, 100, 92, 94, 4, 95, 41, 96, 40, 81, 83, 82, 24, 185, 13, 186, 109, 130, 132, 9, 21, 133, 52, 53, 54, 56, 58, 60, 62, 43, 45] (by decide +kernel) (by decide +kernel)
set_option maxRecDepth 20000 in
theorem gL_law_X1_change_v : GoodIn lw_tbl (wsV RL 74 RX1 yX1_change wsX1_change) := goodIn_app (goodIn_r _ [179, 180, 181, 21] (by decide +kernel) (by decide +kernel)) gL_law_X1_change
set_option maxRecDepth 20000 in
theorem gL_law_X2_change : GoodIn lw_tbl wsX2_change := goodIn_r _ [345, 251, 282, 248, 283, 284, 23, 285, 309, 311, 19, 312, 252, 253, 254, 256, 258, 260, 262, 264, 266, 268] (by decide +kernel) (by decide +kernel)
set_option maxRecDepth 20000 in
theorem gL_law_X2_change_v : GoodIn lw_tbl (wsV RL 78 RX2 yX2_change wsX2_change) := goodIn_app (goodIn_r _ [342, 343, 344, 23] (by decide +kernel) (by decide +kernel)) gL_law_X2_change
set_option maxRecDepth 20000 in
theorem gL_law_X1_chain : GoodIn lw_tbl wsX1_chain := goodIn_r _ [190, 51, 90, 3, 22, 91, 92, 94, 4, 95, 41, 40, 96, 54, 56, 58, 60, 62, 43, 45] (by decide +kernel) (by decide +kernel)
set_option maxRecDepth 20000 in
theorem gL_law_X1_chain_v : GoodIn lw_tbl (wsV RL 79 RX1 yX1_chain wsX1_chain) := goodIn_app (goodIn_r _ [187, 188, 189, 21] (by decide +kernel) (by decide +kernel)) gL_law_X1_chain
set_option maxRecDepth 20000 in
theorem gL_law_X2_chain : GoodIn lw_tbl wsX2_chain := goodIn_r _ [349, 251, 282, 248, 254, 256, 258, 260, 262, 264, 266, 268] (by decide +kernel) (by decide +kernel)
set_option maxRecDepth 20000 in
theorem gL_law_X2_chain_v : GoodIn lw_tbl (wsV RL 83 RX2 yX2_chain wsX2_chain) := goodIn_app (goodIn_r _ [346, 347, 348, 23] (by decide +kernel) (by decide +kernel)) gL_law_X2_chain
set_option maxRecDepth 20000 in
theorem gL_law_X1_find : GoodIn lw_tbl wsX1_find := goodIn_r _ [194, 51, 148, 10, 22, 149, 41, 40, 107, 6, 108, 54, 56, 58, 60, 62, 43, 45] (by decide +kernel) (by decide +kernel)
set_option maxRecDepth 20000 in
theorem gL_law_X1_find_v : GoodIn lw_tbl (wsV RL 84 RX1 yX1_find wsX1_find) := goodIn_app (goodIn_r _ [191, 192, 193, 21] (by decide +kernel) (by decide +kernel)) gL_law_X1_find
set_option maxRecDepth 20000 in
theorem gL_law_X2_find : GoodIn lw_tbl wsX2_find := goodIn_r _ [353, 248, 251, 290, 291, 23, 292, 254, 256, 258, 260, 262, 264, 266, 268] (by decide +kernel) (by decide +kernel)
set_option maxRecDepth 20000 in
theorem gL_law_X2_find_v : GoodIn lw_tbl (wsV RL 87 RX2 yX2_find wsX2_find) := goodIn_app (goodIn_r _ [350, 351, 352, 23] (by decide +kernel) (by decide +kernel)) gL_law_X2_find
set_option maxRecDepth 20000 in
theorem gL_law_X1_unlink : GoodIn lw_tbl wsX1_unlink := goodIn_r _ [198, 51, 107, 6, 22, 108, 41, 40, 99, 5, 100, 92, 94, 4, 95, 96, 81, 83, 82, 24, 109, 130, 132, 9, 21, 133, 52, 53, 54, 56, 58, 60, 62, 43, 45] (by decide +kernel) (by decide +kernel)
set_option maxRecDepth 20000 in
theorem gL_law_X1_unlink_v : GoodIn lw_tbl (wsV RL 88 RX1 yX1_unlink wsX1_unlink) := goodIn_app (goodIn_r _ [195, 196, 197, 21] (by decide +kernel) (by decide +kernel)) gL_law_X1_unlink
set_option maxRecDepth 20000 in
theorem gL_law_X2_unlink : GoodIn lw_tbl wsX2_unlink := goodIn_r _ [357, 248, 251, 290, 291, 23, 292, 283, 284, 285, 309, 311, 19, 312, 252, 253, 254, 256, 258, 260, 262, 264, 266, 268] (by decide +kernel) (by decide +kernel)
set_option maxRecDepth 20000 in
theorem gL_law_X2_unlink_v : GoodIn lw_tbl (wsV RL 91 RX2 yX2_unlink wsX2_unlink) := goodIn_app (goodIn_r _ [354, 355, 356, 23] (by decide +kernel) (by decide +kernel)) gL_law_X2_unlink
set_option maxRecDepth 20000 in
theorem gL_law_X1_point : GoodIn lw_tbl wsX1_point := goodIn_r _ [202, 51, 79, 2, 22, 80, 41, 52, 53, 54, 56, 58, 60, 62, 43, 45] (by decide +kernel) (by decide +kernel)
set_option maxRecDepth 20000 in
theorem gL_law_X1_point_v : GoodIn lw_tbl (wsV RL 92 RX1 yX1_point wsX1_point) := goodIn_app (goodIn_r _ [199, 200, 201, 21] (by decide +kernel) (by decide +kernel)) gL_law_X1_point
set_option maxRecDepth 20000 in
theorem gL_law_X2_point : GoodIn lw_tbl wsX2_point := goodIn_r _ [361, 251, 252, 253, 254, 256, 258, 260, 262, 264, 266, 268] (by decide +kernel) (by decide +kernel)
set_option maxRecDepth 20000 in
theorem gL_law_X2_point_v : GoodIn lw_tbl (wsV RL 95 RX2 yX2_point wsX2_point) := goodIn_app (goodIn_r _ [358, 359, 360, 23] (by decide +kernel) (by decide +kernel)) gL_law_X2_point
set_option maxRecDepth 20000 in
theorem gL_law_X1_pass : GoodIn lw_tbl wsX1_pass := goodIn_r _ [206, 52, 109, 51, 94, 4, 22, 95, 41, 53, 90, 3, 91, 92, 40, 96, 54, 56, 58, 60, 62, 43, 45] (by decide +kernel) (by decide +kernel)
set_option maxRecDepth 20000 in
theorem gL_law_X1_pass_v : GoodIn lw_tbl (wsV RL 96 RX1 yX1_pass wsX1_pass) := goodIn_app (goodIn_r _ [203, 204, 205, 21] (by decide +kernel) (by decide +kernel)) gL_law_X1_pass
set_option maxRecDepth 20000 in
theorem gL_law_X2_pass : GoodIn lw_tbl wsX2_pass := goodIn_r _ [365, 252, 251, 282, 253, 248, 254, 256, 258, 260, 262, 264, 266, 268] (by decide +kernel) (by decide +kernel)
set_option maxRecDepth 20000 in
theorem gL_law_X2_pass_v : GoodIn lw_tbl (wsV RL 99 RX2 yX2_pass wsX2_pass) := goodIn_app (goodIn_r _ [362, 363, 364, 23] (by decide +kernel) (by decide +kernel)) gL_law_X2_pass
set_option maxRecDepth 20000 in
theorem gL_law_X1_touch : GoodIn lw_tbl wsX1_touch := goodIn_r _ [210, 52, 211, 213, 14, 21, 214, 51, 53, 185, 13, 22, 186, 92, 94, 4, 95, 41, 96, 40, 109, 215, 217, 15, 218, 99, 5, 100, 81, 83, 82, 24, 219, 221, 16, 222, 75, 1, 76, 77, 79, 2, 80, 54, 56, 58, 60, 62, 43, 45] (by decide +kernel) (by decide +kernel)
set_option maxRecDepth 20000 in
theorem gL_law_X1_touch_v : GoodIn lw_tbl (wsV RL 100 RX1 yX1_touch wsX1_touch) := goodIn_app (goodIn_r _ [207, 208, 209, 21] (by decide +kernel) (by decide +kernel)) gL_law_X1_touch
set_option maxRecDepth 20000 in
theorem gL_law_X2_touch : GoodIn lw_tbl wsX2_touch := goodIn_r _ [369, 252, 253, 248, 251, 283, 284, 23, 285, 275, 276, 277, 254, 256, 258, 260, 262, 264, 266, 268] (by decide +kernel) (by decide +kernel)
set_option maxRecDepth 20000 in
theorem gL_law_X2_touch_v : GoodIn lw_tbl (wsV RL 103 RX2 yX2_touch wsX2_touch) := goodIn_app (goodIn_r _ [366, 367, 368, 23] (by decide +kernel) (by decide +kernel)) gL_law_X2_touch
set_option maxRecDepth 20000 in
theorem gL_law_X1_finger : GoodIn lw_tbl wsX1_finger := goodIn_r _ [226, 52, 54, 56, 58, 60, 62] (by decide +kernel) (by decide +kernel)
set_option maxRecDepth 20000 in
theorem gL_law_X1_finger_v : GoodIn lw_tbl (wsV RL 104 RX1 yX1_finger wsX1_finger) := goodIn_app (goodIn_r _ [223, 224, 225, 21] (by decide +kernel) (by decide +kernel)) gL_law_X1_finger
set_option maxRecDepth 20000 in
theorem gL_law_X2_finger : GoodIn lw_tbl wsX2_finger := goodIn_r _ [373, 252, 254, 256, 258, 260, 262, 264, 266, 268] (by decide +kernel) (by decide +kernel)
set_option maxRecDepth 20000 in
theorem gL_law_X2_finger_v : GoodIn lw_tbl (wsV RL 108 RX2 yX2_finger wsX2_finger) := goodIn_app (goodIn_r _ [370, 371, 372, 23] (by decide +kernel) (by decide +kernel)) gL_law_X2_finger
set_option maxRecDepth 20000 in
theorem gL_law_X1_empty : GoodIn lw_tbl wsX1_empty := goodIn_r _ [230, 50, 49, 233, 17, 22, 234, 41, 77, 79, 2, 80, 40, 81, 83, 82, 24, 235, 128, 8, 129, 54, 56, 58, 60, 62, 43, 45] (by decide +kernel) (by decide +kernel)
set_option maxRecDepth 20000 in
theorem gL_law_X1_empty_v : GoodIn lw_tbl (wsV RL 109 RX1 yX1_empty wsX1_empty) := goodIn_app (goodIn_r _ [227, 228, 229, 21] (by decide +kernel) (by decide +kernel)) gL_law_X1_empty
set_option maxRecDepth 20000 in
theorem gL_law_X2_empty : GoodIn lw_tbl wsX2_empty := goodIn_r _ [377, 250, 249, 247, 246, 254, 256, 258, 260, 262, 264, 266, 268] (by decide +kernel) (by decide +kernel)
set_option maxRecDepth 20000 in
theorem gL_law_X2_empty_v : GoodIn lw_tbl (wsV RL 112 RX2 yX2_empty wsX2_empty) := goodIn_app (goodIn_r _ [374, 375, 376, 23] (by decide +kernel) (by decide +kernel)) gL_law_X2_empty
set_option maxRecDepth 20000 in
theorem gL_law_X1_hand : GoodIn lw_tbl wsX1_hand := goodIn_r _ [239, 51, 50, 233, 17, 22, 234, 41, 77, 79, 2, 80, 40, 81, 83, 82, 24, 235, 128, 8, 129, 130, 132, 9, 21, 133, 52, 53, 54, 56, 58, 60, 62, 43, 45] (by decide +kernel) (by decide +kernel)
set_option maxRecDepth 20000 in
theorem gL_law_X1_hand_v : GoodIn lw_tbl (wsV RL 113 RX1 yX1_hand wsX1_hand) := goodIn_app (goodIn_r _ [236, 237, 238, 21] (by decide +kernel) (by decide +kernel)) gL_law_X1_hand
set_option maxRecDepth 20000 in
theorem gL_law_X2_hand : GoodIn lw_tbl wsX2_hand := goodIn_r _ [381, 250, 251, 309, 311, 19, 23, 312, 252, 253, 247, 248, 254, 256, 258, 260, 262, 264, 266, 268] (by decide +kernel) (by decide +kernel)
set_option maxRecDepth 20000 in
theorem gL_law_X2_hand_v : GoodIn lw_tbl (wsV RL 116 RX2 yX2_hand wsX2_hand) := goodIn_app (goodIn_r _ [378, 379, 380, 23] (by decide +kernel) (by decide +kernel)) gL_law_X2_hand
theorem inlaw_X1 : ∀ w ∈ wsX10, w ∈ lw_tbl := by decide +kernel
set_option maxRecDepth 20000 in
theorem gL_law_X1_init : GoodIn lw_tbl wsX1_init := goodIn_r _ [30, 31, 32, 33, 34, 35, 22, 37, 38, 39, 48, 40, 41, 49, 50, 51, 52, 53, 43, 45, 54, 56, 58, 60, 62] (by decide +kernel) (by decide +kernel)
theorem inlaw_X2 : ∀ w ∈ wsX20, w ∈ lw_tbl := by decide +kernel
set_option maxRecDepth 20000 in
theorem gL_law_X2_init : GoodIn lw_tbl wsX2_init := goodIn_r _ [244, 245, 32, 33, 48, 246, 247, 248, 252, 253, 254, 256, 258, 260, 262, 264, 266, 268] (by decide +kernel) (by decide +kernel)
def lw_K (p : Program) (l : Launch) (e : Env) (s : State) (m : MethodId) (below : List Frame) (meth : Method) (c : Code) (dC : Nat → ClassId) (dI : Nat → Nat → Nat) (b x0 a1 b1 a2 b2 a3 b3 m0 c1 c2 c3 : Nat) (cA : ClassId) (pc i t : Nat) : Prop := ∀ (gh gr gk fh fr fk eh er ek : Nat → Int32) (nh nr nk : Nat) (fi me : Int32), qInv t ((gh, nh), (gr, nr), (gk, nk), fi, me) → qAg nh fh gh → qAg nr fr gr → qAg nk fk gk → qAg nh eh gh → qAg nr er gr → qAg nk ek gk → ∀ (H : Heap) (locs : List Loc), va_P (dC, dI) vwCl [(x0, .inr (1, [.ref a1, .ref a2, .ref a3, .int fi, .int me])), (a1, .inr (0, [.ref b1, .int (nI nh)])), (b1, .inl (cA, 2100, .inl fh)), (a2, .inr (0, [.ref b2, .int (nI nr)])), (b2, .inl (cA, 2100, .inl fr)), (a3, .inr (0, [.ref b3, .int (nI nk)])), (b3, .inl (cA, 2100, .inl fk)), (m0, .inr (2, [.ref c1, .ref c2, .ref c3, .int (nI nh), .int (nI nr), .int (nI nk), .int fi, .int me])), (c1, .inl (cA, 2000, .inl eh)), (c2, .inl (cA, 2000, .inl er)), (c3, .inl (cA, 2000, .inl ek))] H → va_D (fun q : Nat => s.heap.size ≤ q) [(x0, .inr (1, [.ref a1, .ref a2, .ref a3, .int fi, .int me])), (a1, .inr (0, [.ref b1, .int (nI nh)])), (b1, .inl (cA, 2100, .inl fh)), (a2, .inr (0, [.ref b2, .int (nI nr)])), (b2, .inl (cA, 2100, .inl fr)), (a3, .inr (0, [.ref b3, .int (nI nk)])), (b3, .inl (cA, 2100, .inl fk)), (m0, .inr (2, [.ref c1, .ref c2, .ref c3, .int (nI nh), .int (nI nr), .int (nI nk), .int fi, .int me])), (c1, .inl (cA, 2000, .inl eh)), (c2, .inl (cA, 2000, .inl er)), (c3, .inl (cA, 2000, .inl ek))] → va_S (fun q : Nat => s.heap.size ≤ q) s.heap H locs → ∀ ls : Array Slot, lv_has ls 4 [(0, .ref b), (1, .ref x0), (2, .ref m0), (3, .int (nI i))] → W p l e room_1 s m #[Value.ref b] below meth c H locs 11 12319 (lw_Z below #[Value.ref b] s) (F0 m pc ls [])

theorem law_nest {s : State} {A : Array Value} (hts : ∀ w ∈ lw_tbl, w.before A s = true) : qNest s :=
  ⟨List.forall_mem_cons.mpr ⟨va_Nw.of rfl (hts (.fieldLinkNest RX1 37 "QueueHall$Row" "count" "I" "QueueHall") (List.mem_of_getElem? (i := 42) (by decide +kernel))), fun _ h => absurd h List.not_mem_nil⟩,
   List.forall_mem_cons.mpr ⟨va_Nw.of rfl (hts (.methodLinkNest RX1 9 yX0_init "QueueHall") (List.mem_of_getElem? (i := 36) (by decide +kernel))), List.forall_mem_cons.mpr ⟨va_Nw.of rfl (hts (.methodLinkNest RX1 29 yX0_countBelow "QueueHall") (List.mem_of_getElem? (i := 69) (by decide +kernel))), List.forall_mem_cons.mpr ⟨va_Nw.of rfl (hts (.methodLinkNest RX1 33 yX0_put "QueueHall") (List.mem_of_getElem? (i := 73) (by decide +kernel))), List.forall_mem_cons.mpr ⟨va_Nw.of rfl (hts (.methodLinkNest RX1 40 yX0_at "QueueHall") (List.mem_of_getElem? (i := 88) (by decide +kernel))), List.forall_mem_cons.mpr ⟨va_Nw.of rfl (hts (.methodLinkNest RX1 44 yX0_take "QueueHall") (List.mem_of_getElem? (i := 97) (by decide +kernel))), List.forall_mem_cons.mpr ⟨va_Nw.of rfl (hts (.methodLinkNest RX1 47 yX0_firstPlace "QueueHall") (List.mem_of_getElem? (i := 105) (by decide +kernel))), List.forall_mem_cons.mpr ⟨va_Nw.of rfl (hts (.methodLinkNest RX1 56 yX0_wipe "QueueHall") (List.mem_of_getElem? (i := 126) (by decide +kernel))), List.forall_mem_cons.mpr ⟨va_Nw.of rfl (hts (.methodLinkNest RX1 63 yX0_lastPlace "QueueHall") (List.mem_of_getElem? (i := 146) (by decide +kernel))), List.forall_mem_cons.mpr ⟨va_Nw.of rfl (hts (.methodLinkNest RX1 66 yX0_hasPlace "QueueHall") (List.mem_of_getElem? (i := 154) (by decide +kernel))), List.forall_mem_cons.mpr ⟨va_Nw.of rfl (hts (.methodLinkNest RX1 70 yX0_takeRest "QueueHall") (List.mem_of_getElem? (i := 159) (by decide +kernel))), List.forall_mem_cons.mpr ⟨va_Nw.of rfl (hts (.methodLinkNest RX1 74 yX0_turn "QueueHall") (List.mem_of_getElem? (i := 170) (by decide +kernel))), List.forall_mem_cons.mpr ⟨va_Nw.of rfl (hts (.methodLinkNest RX1 77 yX0_hasPlaceOrEnd "QueueHall") (List.mem_of_getElem? (i := 178) (by decide +kernel))), List.forall_mem_cons.mpr ⟨va_Nw.of rfl (hts (.methodLinkNest RX1 80 yX0_swap "QueueHall") (List.mem_of_getElem? (i := 183) (by decide +kernel))), List.forall_mem_cons.mpr ⟨va_Nw.of rfl (hts (.methodLinkNest RX1 93 yX0_takeAll "QueueHall") (List.mem_of_getElem? (i := 231) (by decide +kernel))), fun _ h => absurd h List.not_mem_nil⟩⟩⟩⟩⟩⟩⟩⟩⟩⟩⟩⟩⟩⟩⟩
