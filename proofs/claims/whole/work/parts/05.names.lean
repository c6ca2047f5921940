-- ===== PART A: goes FIRST, ahead of the names: the tables' words, and 'selects' of the private methods out of them =====
/-- a private method of a class that the tables say can be made, by its rows of tables_1 -/
def lw_okq (q : MethodName × Nat) : Prop := (q.1.cls ≠ "java/lang/invoke/MethodHandle" ∧ q.1.cls ≠ "java/lang/invoke/VarHandle") ∧ Cond.instantiable q.1.cls q.2 ∈ tables_1 ∧ Cond.privateMethod q.1 ∈ tables_1 ∧ Cond.instanceMethod q.1 ∈ tables_1
theorem lw_p0 : lw_okq (⟨"QueueHall$Row", "countBelow", "(I)I"⟩, 2) := ⟨⟨by decide +kernel, by decide +kernel⟩, List.mem_of_getElem? (i := 15) (by decide +kernel), List.mem_of_getElem? (i := 50) (by decide +kernel), List.mem_of_getElem? (i := 51) (by decide +kernel)⟩
theorem lw_p1 : lw_okq (⟨"QueueHall$Row", "put", "(II)Z"⟩, 2) := ⟨⟨by decide +kernel, by decide +kernel⟩, List.mem_of_getElem? (i := 15) (by decide +kernel), List.mem_of_getElem? (i := 54) (by decide +kernel), List.mem_of_getElem? (i := 55) (by decide +kernel)⟩
theorem lw_p2 : lw_okq (⟨"QueueHall$Row", "hasPlaceOrEnd", "(I)Z"⟩, 2) := ⟨⟨by decide +kernel, by decide +kernel⟩, List.mem_of_getElem? (i := 15) (by decide +kernel), List.mem_of_getElem? (i := 58) (by decide +kernel), List.mem_of_getElem? (i := 59) (by decide +kernel)⟩
theorem lw_p3 : lw_okq (⟨"QueueHall$Row", "at", "(I)J"⟩, 2) := ⟨⟨by decide +kernel, by decide +kernel⟩, List.mem_of_getElem? (i := 15) (by decide +kernel), List.mem_of_getElem? (i := 69) (by decide +kernel), List.mem_of_getElem? (i := 70) (by decide +kernel)⟩
theorem lw_p4 : lw_okq (⟨"QueueHall$Row", "hasPlace", "(I)Z"⟩, 2) := ⟨⟨by decide +kernel, by decide +kernel⟩, List.mem_of_getElem? (i := 15) (by decide +kernel), List.mem_of_getElem? (i := 73) (by decide +kernel), List.mem_of_getElem? (i := 74) (by decide +kernel)⟩
theorem lw_p5 : lw_okq (⟨"QueueHall$Row", "take", "(I)J"⟩, 2) := ⟨⟨by decide +kernel, by decide +kernel⟩, List.mem_of_getElem? (i := 15) (by decide +kernel), List.mem_of_getElem? (i := 78) (by decide +kernel), List.mem_of_getElem? (i := 79) (by decide +kernel)⟩
theorem lw_p6 : lw_okq (⟨"QueueHall$Row", "firstPlace", "(I)I"⟩, 2) := ⟨⟨by decide +kernel, by decide +kernel⟩, List.mem_of_getElem? (i := 15) (by decide +kernel), List.mem_of_getElem? (i := 86) (by decide +kernel), List.mem_of_getElem? (i := 87) (by decide +kernel)⟩
theorem lw_p7 : lw_okq (⟨"QueueHall", "rowOf", "(I)LQueueHall$Row;"⟩, 5) := ⟨⟨by decide +kernel, by decide +kernel⟩, List.mem_of_getElem? (i := 7) (by decide +kernel), List.mem_of_getElem? (i := 95) (by decide +kernel), List.mem_of_getElem? (i := 96) (by decide +kernel)⟩
theorem lw_p8 : lw_okq (⟨"QueueHall$Row", "wipe", "()I"⟩, 2) := ⟨⟨by decide +kernel, by decide +kernel⟩, List.mem_of_getElem? (i := 15) (by decide +kernel), List.mem_of_getElem? (i := 107) (by decide +kernel), List.mem_of_getElem? (i := 108) (by decide +kernel)⟩
theorem lw_p9 : lw_okq (⟨"QueueHall", "liftFinger", "()V"⟩, 5) := ⟨⟨by decide +kernel, by decide +kernel⟩, List.mem_of_getElem? (i := 7) (by decide +kernel), List.mem_of_getElem? (i := 111) (by decide +kernel), List.mem_of_getElem? (i := 112) (by decide +kernel)⟩
theorem lw_p10 : lw_okq (⟨"QueueHall$Row", "lastPlace", "(I)I"⟩, 2) := ⟨⟨by decide +kernel, by decide +kernel⟩, List.mem_of_getElem? (i := 15) (by decide +kernel), List.mem_of_getElem? (i := 127) (by decide +kernel), List.mem_of_getElem? (i := 128) (by decide +kernel)⟩
theorem lw_p11 : lw_okq (⟨"QueueHall$Row", "takeRest", "(II)I"⟩, 2) := ⟨⟨by decide +kernel, by decide +kernel⟩, List.mem_of_getElem? (i := 15) (by decide +kernel), List.mem_of_getElem? (i := 140) (by decide +kernel), List.mem_of_getElem? (i := 141) (by decide +kernel)⟩
theorem lw_p12 : lw_okq (⟨"QueueHall$Row", "turn", "(I)I"⟩, 2) := ⟨⟨by decide +kernel, by decide +kernel⟩, List.mem_of_getElem? (i := 15) (by decide +kernel), List.mem_of_getElem? (i := 151) (by decide +kernel), List.mem_of_getElem? (i := 152) (by decide +kernel)⟩
theorem lw_p13 : lw_okq (⟨"QueueHall$Row", "swap", "(II)J"⟩, 2) := ⟨⟨by decide +kernel, by decide +kernel⟩, List.mem_of_getElem? (i := 15) (by decide +kernel), List.mem_of_getElem? (i := 164) (by decide +kernel), List.mem_of_getElem? (i := 165) (by decide +kernel)⟩
theorem lw_p14 : lw_okq (⟨"QueueHall", "changeMet", "(I)I"⟩, 5) := ⟨⟨by decide +kernel, by decide +kernel⟩, List.mem_of_getElem? (i := 7) (by decide +kernel), List.mem_of_getElem? (i := 192) (by decide +kernel), List.mem_of_getElem? (i := 193) (by decide +kernel)⟩
theorem lw_p15 : lw_okq (⟨"QueueHall", "takeMet", "()I"⟩, 5) := ⟨⟨by decide +kernel, by decide +kernel⟩, List.mem_of_getElem? (i := 7) (by decide +kernel), List.mem_of_getElem? (i := 196) (by decide +kernel), List.mem_of_getElem? (i := 197) (by decide +kernel)⟩
def lw_privs_1 : List (MethodName × Nat) := [(⟨"QueueHall$Row", "countBelow", "(I)I"⟩, 2), (⟨"QueueHall$Row", "put", "(II)Z"⟩, 2), (⟨"QueueHall$Row", "hasPlaceOrEnd", "(I)Z"⟩, 2), (⟨"QueueHall$Row", "at", "(I)J"⟩, 2), (⟨"QueueHall$Row", "hasPlace", "(I)Z"⟩, 2), (⟨"QueueHall$Row", "take", "(I)J"⟩, 2), (⟨"QueueHall$Row", "firstPlace", "(I)I"⟩, 2), (⟨"QueueHall", "rowOf", "(I)LQueueHall$Row;"⟩, 5), (⟨"QueueHall$Row", "wipe", "()I"⟩, 2), (⟨"QueueHall", "liftFinger", "()V"⟩, 5), (⟨"QueueHall$Row", "lastPlace", "(I)I"⟩, 2), (⟨"QueueHall$Row", "takeRest", "(II)I"⟩, 2), (⟨"QueueHall$Row", "turn", "(I)I"⟩, 2), (⟨"QueueHall$Row", "swap", "(II)J"⟩, 2), (⟨"QueueHall", "changeMet", "(I)I"⟩, 5), (⟨"QueueHall", "takeMet", "()I"⟩, 5)]
theorem lw_r1 : ∀ q ∈ lw_privs_1, lw_okq q := List.forall_mem_cons.mpr ⟨lw_p0, List.forall_mem_cons.mpr ⟨lw_p1, List.forall_mem_cons.mpr ⟨lw_p2, List.forall_mem_cons.mpr ⟨lw_p3, List.forall_mem_cons.mpr ⟨lw_p4, List.forall_mem_cons.mpr ⟨lw_p5, List.forall_mem_cons.mpr ⟨lw_p6, List.forall_mem_cons.mpr ⟨lw_p7, List.forall_mem_cons.mpr ⟨lw_p8, List.forall_mem_cons.mpr ⟨lw_p9, List.forall_mem_cons.mpr ⟨lw_p10, List.forall_mem_cons.mpr ⟨lw_p11, List.forall_mem_cons.mpr ⟨lw_p12, List.forall_mem_cons.mpr ⟨lw_p13, List.forall_mem_cons.mpr ⟨lw_p14, List.forall_mem_cons.mpr ⟨lw_p15, fun _ h => absurd h List.not_mem_nil⟩⟩⟩⟩⟩⟩⟩⟩⟩⟩⟩⟩⟩⟩⟩⟩
theorem lw_p16 : lw_okq (⟨"QueueHall", "putAtFinger", "(I)I"⟩, 5) := ⟨⟨by decide +kernel, by decide +kernel⟩, List.mem_of_getElem? (i := 7) (by decide +kernel), List.mem_of_getElem? (i := 200) (by decide +kernel), List.mem_of_getElem? (i := 201) (by decide +kernel)⟩
theorem lw_p17 : lw_okq (⟨"QueueHall$Row", "takeAll", "(LQueueHall$Row;I)Z"⟩, 2) := ⟨⟨by decide +kernel, by decide +kernel⟩, List.mem_of_getElem? (i := 15) (by decide +kernel), List.mem_of_getElem? (i := 212) (by decide +kernel), List.mem_of_getElem? (i := 213) (by decide +kernel)⟩
theorem lw_p18 : lw_okq (⟨"QueueHallModel", "many", "(I)I"⟩, 8) := ⟨⟨by decide +kernel, by decide +kernel⟩, List.mem_of_getElem? (i := 221) (by decide +kernel), List.mem_of_getElem? (i := 278) (by decide +kernel), List.mem_of_getElem? (i := 279) (by decide +kernel)⟩
theorem lw_p19 : lw_okq (⟨"QueueHallModel", "lift", "()V"⟩, 8) := ⟨⟨by decide +kernel, by decide +kernel⟩, List.mem_of_getElem? (i := 221) (by decide +kernel), List.mem_of_getElem? (i := 290) (by decide +kernel), List.mem_of_getElem? (i := 291) (by decide +kernel)⟩
def lw_privs_2 : List (MethodName × Nat) := [(⟨"QueueHall", "putAtFinger", "(I)I"⟩, 5), (⟨"QueueHall$Row", "takeAll", "(LQueueHall$Row;I)Z"⟩, 2), (⟨"QueueHallModel", "many", "(I)I"⟩, 8), (⟨"QueueHallModel", "lift", "()V"⟩, 8)]
theorem lw_r2 : ∀ q ∈ lw_privs_2, lw_okq q := List.forall_mem_cons.mpr ⟨lw_p16, List.forall_mem_cons.mpr ⟨lw_p17, List.forall_mem_cons.mpr ⟨lw_p18, List.forall_mem_cons.mpr ⟨lw_p19, fun _ h => absurd h List.not_mem_nil⟩⟩⟩⟩
def lw_privs : List (MethodName × Nat) := lw_privs_1 ++ (lw_privs_2)
def lw_tbl : List Cond := k2_sels lw_privs ++ tables_1
theorem lw_privs_ok : ∀ q ∈ lw_privs, lw_okq q := by
  show ∀ q ∈ lw_privs_1 ++ (lw_privs_2), lw_okq q
  exact List.forall_mem_append.mpr ⟨lw_r1, lw_r2⟩
/-! ===== BEGIN words of one list among another's, by their places ===== -/
theorem goodIn_r {big : List Cond} (ws : List Cond) (ps : List Nat) (hp : ws = ps.filterMap (fun i => big[i]?)) (h : ws.all goodWord = true) : GoodIn big ws := by
  intro w hw
  have h1 := List.all_eq_true.mp h w hw
  rw [hp] at hw
  obtain ⟨i, -, hi⟩ := List.mem_filterMap.mp hw
  have hm : w ∈ big := by first | exact List.mem_of_getElem? hi | exact List.getElem?_mem hi
  exact ⟨hm, good_of_word h1⟩
theorem goodIn_app {big a b : List Cond} (ha : GoodIn big a) (hb : GoodIn big b) : GoodIn big (a ++ b) := fun w h => (List.mem_append.mp h).elim (ha w) (hb w)
theorem goodIn_ca {big a b : List Cond} {c : Cond} (ha : GoodIn big (c :: a)) (hb : GoodIn big b) : GoodIn big (c :: (a ++ b)) := fun w h => (List.mem_cons.mp h).elim (fun e => ha w (List.mem_cons.mpr (Or.inl e))) (fun h => (List.mem_append.mp h).elim (fun h => ha w (List.mem_cons.mpr (Or.inr h))) (hb w))
theorem goodIn_sub {big ws : List Cond} (hm : ∀ w ∈ ws, w ∈ big) (h : ws.all goodWord = true) : GoodIn big ws := fun w hw => ⟨hm w hw, good_of_word (List.all_eq_true.mp h w hw)⟩
/-! ===== END ===== -/
def RX0 : String := "QueueHall$Row"
def TX0 : u_T := fun k => match k with
  | 0 => ("QueueHall$Row", "numbers", "[I", true)
  | _ => ("QueueHall$Row", "count", "I", false)
def tyX0 : Nat → FieldType := fun k => match k with
  | 0 => .array .int
  | _ => .int
abbrev wsX00 : List Cond := u_ws RX0 TX0 2
theorem nmX0 : ∀ a, a < 2 → ∀ b, b < 2 → a ≠ b → (TX0 a).2.1 ≠ (TX0 b).2.1 := by decide +kernel
theorem tyX0_ok : ∀ k, k < 2 → parseFieldDescriptor (TX0 k).2.2.1 = some (tyX0 k) := by decide +kernel
def RX1 : String := "QueueHall"
def TX1 : u_T := fun k => match k with
  | 0 => ("QueueHall", "hallRow", "LQueueHall$Row;", true)
  | 1 => ("QueueHall", "ringRow", "LQueueHall$Row;", true)
  | 2 => ("QueueHall", "chainRow", "LQueueHall$Row;", true)
  | 3 => ("QueueHall", "fingerPlace", "I", false)
  | _ => ("QueueHall", "metPlace", "I", false)
def tyX1 : Nat → FieldType := fun k => match k with
  | 0 => .object "QueueHall$Row"
  | 1 => .object "QueueHall$Row"
  | 2 => .object "QueueHall$Row"
  | 3 => .int
  | _ => .int
abbrev wsX10 : List Cond := u_ws RX1 TX1 5
theorem nmX1 : ∀ a, a < 5 → ∀ b, b < 5 → a ≠ b → (TX1 a).2.1 ≠ (TX1 b).2.1 := by decide +kernel
theorem tyX1_ok : ∀ k, k < 5 → parseFieldDescriptor (TX1 k).2.2.1 = some (tyX1 k) := by decide +kernel
def RX2 : String := "QueueHallModel"
def TX2 : u_T := fun k => match k with
  | 0 => ("QueueHallModel", "hall", "[I", true)
  | 1 => ("QueueHallModel", "ring", "[I", true)
  | 2 => ("QueueHallModel", "chain", "[I", true)
  | 3 => ("QueueHallModel", "halls", "I", false)
  | 4 => ("QueueHallModel", "rings", "I", false)
  | 5 => ("QueueHallModel", "chains", "I", false)
  | 6 => ("QueueHallModel", "finger", "I", false)
  | _ => ("QueueHallModel", "met", "I", false)
def tyX2 : Nat → FieldType := fun k => match k with
  | 0 => .array .int
  | 1 => .array .int
  | 2 => .array .int
  | 3 => .int
  | 4 => .int
  | 5 => .int
  | 6 => .int
  | _ => .int
abbrev wsX20 : List Cond := u_ws RX2 TX2 8
theorem nmX2 : ∀ a, a < 8 → ∀ b, b < 8 → a ≠ b → (TX2 a).2.1 ≠ (TX2 b).2.1 := by decide +kernel
theorem tyX2_ok : ∀ k, k < 8 → parseFieldDescriptor (TX2 k).2.2.1 = some (tyX2 k) := by decide +kernel
def RJ9 : String := "java/lang/Math"
def RL : String := "QueueHallLaw"
abbrev cX0_init : ByteArray := prog_2_method_1_code
def yX0_init : MethodName := ⟨RX0, "<init>", "()V"⟩
abbrev cX0_hasPlace : ByteArray := prog_2_method_2_code
def yX0_hasPlace : MethodName := ⟨RX0, "hasPlace", "(I)Z"⟩
abbrev cX0_hasPlaceOrEnd : ByteArray := prog_2_method_3_code
def yX0_hasPlaceOrEnd : MethodName := ⟨RX0, "hasPlaceOrEnd", "(I)Z"⟩
abbrev cX0_at : ByteArray := prog_2_method_4_code
def yX0_at : MethodName := ⟨RX0, "at", "(I)J"⟩
abbrev cX0_put : ByteArray := prog_2_method_5_code
def yX0_put : MethodName := ⟨RX0, "put", "(II)Z"⟩
abbrev cX0_take : ByteArray := prog_2_method_6_code
def yX0_take : MethodName := ⟨RX0, "take", "(I)J"⟩
abbrev cX0_swap : ByteArray := prog_2_method_7_code
def yX0_swap : MethodName := ⟨RX0, "swap", "(II)J"⟩
abbrev cX0_wipe : ByteArray := prog_2_method_8_code
def yX0_wipe : MethodName := ⟨RX0, "wipe", "()I"⟩
abbrev cX0_firstPlace : ByteArray := prog_2_method_9_code
def yX0_firstPlace : MethodName := ⟨RX0, "firstPlace", "(I)I"⟩
abbrev cX0_lastPlace : ByteArray := prog_2_method_10_code
def yX0_lastPlace : MethodName := ⟨RX0, "lastPlace", "(I)I"⟩
abbrev cX0_countBelow : ByteArray := prog_2_method_11_code
def yX0_countBelow : MethodName := ⟨RX0, "countBelow", "(I)I"⟩
abbrev cJ9_floorMod_7cf53 : ByteArray := prog_5_method_50_code
def yJ9_floorMod_7cf53 : MethodName := ⟨RJ9, "floorMod", "(II)I"⟩
abbrev cX0_takeRest : ByteArray := prog_2_method_12_code
def yX0_takeRest : MethodName := ⟨RX0, "takeRest", "(II)I"⟩
abbrev cX0_turn : ByteArray := prog_2_method_13_code
def yX0_turn : MethodName := ⟨RX0, "turn", "(I)I"⟩
abbrev cX0_takeAll : ByteArray := prog_2_method_14_code
def yX0_takeAll : MethodName := ⟨RX0, "takeAll", "(LQueueHall$Row;I)Z"⟩
abbrev cX1_init : ByteArray := prog_1_method_1_code
def yX1_init : MethodName := ⟨RX1, "<init>", "()V"⟩
abbrev cX1_enter : ByteArray := prog_1_method_2_code
def yX1_enter : MethodName := ⟨RX1, "enter", "(I)I"⟩
abbrev cX1_call : ByteArray := prog_1_method_3_code
def yX1_call : MethodName := ⟨RX1, "call", "(Z)J"⟩
abbrev cX1_leave : ByteArray := prog_1_method_4_code
def yX1_leave : MethodName := ⟨RX1, "leave", "(I)Z"⟩
abbrev cX1_rowOf : ByteArray := prog_1_method_25_code
def yX1_rowOf : MethodName := ⟨RX1, "rowOf", "(I)LQueueHall$Row;"⟩
abbrev cX1_has : ByteArray := prog_1_method_5_code
def yX1_has : MethodName := ⟨RX1, "has", "(II)Z"⟩
abbrev cX1_size : ByteArray := prog_1_method_6_code
def yX1_size : MethodName := ⟨RX1, "size", "(I)I"⟩
abbrev cX1_liftFinger : ByteArray := prog_1_method_26_code
def yX1_liftFinger : MethodName := ⟨RX1, "liftFinger", "()V"⟩
abbrev cX1_clear : ByteArray := prog_1_method_7_code
def yX1_clear : MethodName := ⟨RX1, "clear", "(I)I"⟩
abbrev cX1_join : ByteArray := prog_1_method_8_code
def yX1_join : MethodName := ⟨RX1, "join", "(IZ)I"⟩
abbrev cX1_serve : ByteArray := prog_1_method_9_code
def yX1_serve : MethodName := ⟨RX1, "serve", "(ZZ)J"⟩
abbrev cX1_drop : ByteArray := prog_1_method_10_code
def yX1_drop : MethodName := ⟨RX1, "drop", "(IZ)Z"⟩
abbrev cX1_ring : ByteArray := prog_1_method_11_code
def yX1_ring : MethodName := ⟨RX1, "ring", "(IZ)J"⟩
abbrev cX1_sieve : ByteArray := prog_1_method_12_code
def yX1_sieve : MethodName := ⟨RX1, "sieve", "(II)I"⟩
abbrev cX1_roll : ByteArray := prog_1_method_13_code
def yX1_roll : MethodName := ⟨RX1, "roll", "(I)I"⟩
abbrev cX1_insert : ByteArray := prog_1_method_14_code
def yX1_insert : MethodName := ⟨RX1, "insert", "(II)I"⟩
abbrev cX1_change : ByteArray := prog_1_method_15_code
def yX1_change : MethodName := ⟨RX1, "change", "(IIZ)J"⟩
abbrev cX1_chain : ByteArray := prog_1_method_16_code
def yX1_chain : MethodName := ⟨RX1, "chain", "(I)J"⟩
abbrev cX1_find : ByteArray := prog_1_method_17_code
def yX1_find : MethodName := ⟨RX1, "find", "(IZ)I"⟩
abbrev cX1_unlink : ByteArray := prog_1_method_18_code
def yX1_unlink : MethodName := ⟨RX1, "unlink", "(I)Z"⟩
abbrev cX1_point : ByteArray := prog_1_method_19_code
def yX1_point : MethodName := ⟨RX1, "point", "(I)I"⟩
abbrev cX1_pass : ByteArray := prog_1_method_20_code
def yX1_pass : MethodName := ⟨RX1, "pass", "(Z)J"⟩
abbrev cX1_changeMet : ByteArray := prog_1_method_27_code
def yX1_changeMet : MethodName := ⟨RX1, "changeMet", "(I)I"⟩
abbrev cX1_takeMet : ByteArray := prog_1_method_28_code
def yX1_takeMet : MethodName := ⟨RX1, "takeMet", "()I"⟩
abbrev cX1_putAtFinger : ByteArray := prog_1_method_29_code
def yX1_putAtFinger : MethodName := ⟨RX1, "putAtFinger", "(I)I"⟩
abbrev cX1_touch : ByteArray := prog_1_method_21_code
def yX1_touch : MethodName := ⟨RX1, "touch", "(II)I"⟩
abbrev cX1_finger : ByteArray := prog_1_method_22_code
def yX1_finger : MethodName := ⟨RX1, "finger", "()I"⟩
abbrev cX1_empty : ByteArray := prog_1_method_23_code
def yX1_empty : MethodName := ⟨RX1, "empty", "()I"⟩
abbrev cX1_hand : ByteArray := prog_1_method_24_code
def yX1_hand : MethodName := ⟨RX1, "hand", "()I"⟩
abbrev cX2_init : ByteArray := prog_4_method_1_code
def yX2_init : MethodName := ⟨RX2, "<init>", "()V"⟩
abbrev cX2_put : ByteArray := prog_4_method_3_code
def yX2_put : MethodName := ⟨RX2, "put", "([IIII)V"⟩
abbrev cX2_take : ByteArray := prog_4_method_4_code
def yX2_take : MethodName := ⟨RX2, "take", "([III)V"⟩
abbrev cX2_place : ByteArray := prog_4_method_5_code
def yX2_place : MethodName := ⟨RX2, "place", "([IIIZ)I"⟩
abbrev cX2_many : ByteArray := prog_4_method_6_code
def yX2_many : MethodName := ⟨RX2, "many", "(I)I"⟩
abbrev cX2_lift : ByteArray := prog_4_method_7_code
def yX2_lift : MethodName := ⟨RX2, "lift", "()V"⟩
abbrev cX2_enter : ByteArray := prog_4_method_8_code
def yX2_enter : MethodName := ⟨RX2, "enter", "(I)I"⟩
abbrev cX2_call : ByteArray := prog_4_method_9_code
def yX2_call : MethodName := ⟨RX2, "call", "(Z)J"⟩
abbrev cX2_leave : ByteArray := prog_4_method_10_code
def yX2_leave : MethodName := ⟨RX2, "leave", "(I)Z"⟩
abbrev cX2_has : ByteArray := prog_4_method_11_code
def yX2_has : MethodName := ⟨RX2, "has", "(II)Z"⟩
abbrev cX2_size : ByteArray := prog_4_method_12_code
def yX2_size : MethodName := ⟨RX2, "size", "(I)I"⟩
abbrev cX2_clear : ByteArray := prog_4_method_13_code
def yX2_clear : MethodName := ⟨RX2, "clear", "(I)I"⟩
abbrev cX2_join : ByteArray := prog_4_method_14_code
def yX2_join : MethodName := ⟨RX2, "join", "(IZ)I"⟩
abbrev cX2_serve : ByteArray := prog_4_method_15_code
def yX2_serve : MethodName := ⟨RX2, "serve", "(ZZ)J"⟩
abbrev cX2_drop : ByteArray := prog_4_method_16_code
def yX2_drop : MethodName := ⟨RX2, "drop", "(IZ)Z"⟩
abbrev cX2_ring : ByteArray := prog_4_method_17_code
def yX2_ring : MethodName := ⟨RX2, "ring", "(IZ)J"⟩
abbrev cX2_sieve : ByteArray := prog_4_method_18_code
def yX2_sieve : MethodName := ⟨RX2, "sieve", "(II)I"⟩
abbrev cX2_roll : ByteArray := prog_4_method_19_code
def yX2_roll : MethodName := ⟨RX2, "roll", "(I)I"⟩
abbrev cX2_insert : ByteArray := prog_4_method_20_code
def yX2_insert : MethodName := ⟨RX2, "insert", "(II)I"⟩
abbrev cX2_change : ByteArray := prog_4_method_21_code
def yX2_change : MethodName := ⟨RX2, "change", "(IIZ)J"⟩
abbrev cX2_chain : ByteArray := prog_4_method_22_code
def yX2_chain : MethodName := ⟨RX2, "chain", "(I)J"⟩
abbrev cX2_find : ByteArray := prog_4_method_23_code
def yX2_find : MethodName := ⟨RX2, "find", "(IZ)I"⟩
abbrev cX2_unlink : ByteArray := prog_4_method_24_code
def yX2_unlink : MethodName := ⟨RX2, "unlink", "(I)Z"⟩
abbrev cX2_point : ByteArray := prog_4_method_25_code
def yX2_point : MethodName := ⟨RX2, "point", "(I)I"⟩
abbrev cX2_pass : ByteArray := prog_4_method_26_code
def yX2_pass : MethodName := ⟨RX2, "pass", "(Z)J"⟩
abbrev cX2_touch : ByteArray := prog_4_method_27_code
def yX2_touch : MethodName := ⟨RX2, "touch", "(II)I"⟩
abbrev cX2_finger : ByteArray := prog_4_method_28_code
def yX2_finger : MethodName := ⟨RX2, "finger", "()I"⟩
abbrev cX2_empty : ByteArray := prog_4_method_29_code
def yX2_empty : MethodName := ⟨RX2, "empty", "()I"⟩
abbrev cX2_hand : ByteArray := prog_4_method_30_code
def yX2_hand : MethodName := ⟨RX2, "hand", "()I"⟩
abbrev cL_law : ByteArray := code
def wsX0_init : List Cond := .code yX0_init cX0_init 1 none :: ([.methodLink RX0 3 objectInit, .instanceMethod objectInit, .code objectInit ⟨#[0xb1]⟩ 1 none, .arrayClass .int, .fieldLink RX0 9 "QueueHall$Row" "numbers" "[I", .fieldLink RX0 15 "QueueHall$Row" "count" "I"] ++ wsX00)
def wsX0_hasPlace : List Cond := .code yX0_hasPlace cX0_hasPlace 2 (some .boolean) :: ([.fieldLink RX0 15 "QueueHall$Row" "count" "I"] ++ wsX00)
def wsX0_hasPlaceOrEnd : List Cond := .code yX0_hasPlaceOrEnd cX0_hasPlaceOrEnd 2 (some .boolean) :: ([.fieldLink RX0 15 "QueueHall$Row" "count" "I"] ++ wsX00)
def wsX0_at : List Cond := .code yX0_at cX0_at 2 (some .long) :: ([.methodLink RX0 19 yX0_hasPlace, .instanceMethod yX0_hasPlace, .selects RX0 yX0_hasPlace yX0_hasPlace, .initialized RX0, .code yX0_hasPlace cX0_hasPlace 2 (some .boolean), .fieldLink RX0 15 "QueueHall$Row" "count" "I", .fieldLink RX0 9 "QueueHall$Row" "numbers" "[I", .constantLong RX0 23 (1099511627776)] ++ wsX00)
def wsX0_put : List Cond := .code yX0_put cX0_put 3 (some .boolean) :: ([.fieldLink RX0 15 "QueueHall$Row" "count" "I", .methodLink RX0 25 yX0_hasPlaceOrEnd, .instanceMethod yX0_hasPlaceOrEnd, .selects RX0 yX0_hasPlaceOrEnd yX0_hasPlaceOrEnd, .initialized RX0, .code yX0_hasPlaceOrEnd cX0_hasPlaceOrEnd 2 (some .boolean), .fieldLink RX0 9 "QueueHall$Row" "numbers" "[I", .methodLink RX0 28 arraycopyName, .native arraycopyName, .static arraycopyName, .initialized "java/lang/System"] ++ wsX00)
def wsX0_take : List Cond := .code yX0_take cX0_take 3 (some .long) :: ([.methodLink RX0 19 yX0_hasPlace, .instanceMethod yX0_hasPlace, .selects RX0 yX0_hasPlace yX0_hasPlace, .initialized RX0, .code yX0_hasPlace cX0_hasPlace 2 (some .boolean), .fieldLink RX0 15 "QueueHall$Row" "count" "I", .constantLong RX0 23 (1099511627776), .fieldLink RX0 9 "QueueHall$Row" "numbers" "[I", .methodLink RX0 28 arraycopyName, .native arraycopyName, .static arraycopyName, .initialized "java/lang/System"] ++ wsX00)
def wsX0_swap : List Cond := .code yX0_swap cX0_swap 4 (some .long) :: ([.methodLink RX0 19 yX0_hasPlace, .instanceMethod yX0_hasPlace, .selects RX0 yX0_hasPlace yX0_hasPlace, .initialized RX0, .code yX0_hasPlace cX0_hasPlace 2 (some .boolean), .fieldLink RX0 15 "QueueHall$Row" "count" "I", .constantLong RX0 23 (1099511627776), .fieldLink RX0 9 "QueueHall$Row" "numbers" "[I"] ++ wsX00)
def wsX0_wipe : List Cond := .code yX0_wipe cX0_wipe 2 (some .int) :: ([.fieldLink RX0 15 "QueueHall$Row" "count" "I"] ++ wsX00)
def wsX0_firstPlace : List Cond := .code yX0_firstPlace cX0_firstPlace 3 (some .int) :: ([.fieldLink RX0 15 "QueueHall$Row" "count" "I", .fieldLink RX0 9 "QueueHall$Row" "numbers" "[I"] ++ wsX00)
def wsX0_lastPlace : List Cond := .code yX0_lastPlace cX0_lastPlace 3 (some .int) :: ([.fieldLink RX0 15 "QueueHall$Row" "count" "I", .fieldLink RX0 9 "QueueHall$Row" "numbers" "[I"] ++ wsX00)
def wsX0_countBelow : List Cond := .code yX0_countBelow cX0_countBelow 4 (some .int) :: ([.fieldLink RX0 15 "QueueHall$Row" "count" "I", .fieldLink RX0 9 "QueueHall$Row" "numbers" "[I"] ++ wsX00)
def wsJ9_floorMod_7cf53 : List Cond := .code yJ9_floorMod_7cf53 cJ9_floorMod_7cf53 3 (some .int) :: ([])
def wsX0_takeRest : List Cond := .code yX0_takeRest cX0_takeRest 5 (some .int) :: ([.fieldLink RX0 15 "QueueHall$Row" "count" "I", .fieldLink RX0 9 "QueueHall$Row" "numbers" "[I", .methodLink RX0 34 yJ9_floorMod_7cf53, .static yJ9_floorMod_7cf53, .initialized RJ9, .code yJ9_floorMod_7cf53 cJ9_floorMod_7cf53 3 (some .int)] ++ wsX00)
def wsX0_turn : List Cond := .code yX0_turn cX0_turn 3 (some .int) :: ([.fieldLink RX0 15 "QueueHall$Row" "count" "I", .fieldLink RX0 9 "QueueHall$Row" "numbers" "[I", .methodLink RX0 28 arraycopyName, .native arraycopyName, .static arraycopyName, .initialized "java/lang/System"] ++ wsX00)
def wsX0_takeAll : List Cond := .code yX0_takeAll cX0_takeAll 3 (some .boolean) :: ([.fieldLink RX0 15 "QueueHall$Row" "count" "I", .methodLink RX0 25 yX0_hasPlaceOrEnd, .instanceMethod yX0_hasPlaceOrEnd, .selects RX0 yX0_hasPlaceOrEnd yX0_hasPlaceOrEnd, .initialized RX0, .code yX0_hasPlaceOrEnd cX0_hasPlaceOrEnd 2 (some .boolean), .fieldLink RX0 9 "QueueHall$Row" "numbers" "[I", .methodLink RX0 28 arraycopyName, .native arraycopyName, .static arraycopyName, .initialized "java/lang/System", .methodLink RX0 40 yX0_wipe, .instanceMethod yX0_wipe, .selects RX0 yX0_wipe yX0_wipe, .code yX0_wipe cX0_wipe 2 (some .int)] ++ wsX00)
def wsX1_init : List Cond := .code yX1_init cX1_init 1 none :: ([.methodLink RX1 1 objectInit, .instanceMethod objectInit, .code objectInit ⟨#[0xb1]⟩ 1 none, .classLink RX1 7 RX0, .instantiable RX0 2, .initialized RX0, .instanceMethod yX0_init, .code yX0_init cX0_init 1 none, .methodLink RX0 3 objectInit, .arrayClass .int, .fieldLink RX0 9 "QueueHall$Row" "numbers" "[I", .fieldLink RX0 15 "QueueHall$Row" "count" "I", .fieldLink RX1 10 "QueueHall" "hallRow" "LQueueHall$Row;", .fieldLink RX1 16 "QueueHall" "ringRow" "LQueueHall$Row;", .fieldLink RX1 19 "QueueHall" "chainRow" "LQueueHall$Row;", .fieldLink RX1 22 "QueueHall" "fingerPlace" "I", .fieldLink RX1 26 "QueueHall" "metPlace" "I"] ++ wsX00 ++ wsX10)
def wsX1_enter : List Cond := .code yX1_enter cX1_enter 2 (some .int) :: ([.fieldLink RX1 10 "QueueHall" "hallRow" "LQueueHall$Row;", .instanceMethod yX0_countBelow, .selects RX0 yX0_countBelow yX0_countBelow, .initialized RX0, .code yX0_countBelow cX0_countBelow 4 (some .int), .fieldLink RX0 15 "QueueHall$Row" "count" "I", .fieldLink RX0 9 "QueueHall$Row" "numbers" "[I", .instanceMethod yX0_put, .selects RX0 yX0_put yX0_put, .code yX0_put cX0_put 3 (some .boolean), .methodLink RX0 25 yX0_hasPlaceOrEnd, .instanceMethod yX0_hasPlaceOrEnd, .selects RX0 yX0_hasPlaceOrEnd yX0_hasPlaceOrEnd, .code yX0_hasPlaceOrEnd cX0_hasPlaceOrEnd 2 (some .boolean), .methodLink RX0 28 arraycopyName, .native arraycopyName, .static arraycopyName, .initialized "java/lang/System"] ++ wsX10 ++ wsX00)
def wsX1_call : List Cond := .code yX1_call cX1_call 2 (some .long) :: ([.fieldLink RX1 10 "QueueHall" "hallRow" "LQueueHall$Row;", .instanceMethod yX0_at, .selects RX0 yX0_at yX0_at, .initialized RX0, .code yX0_at cX0_at 2 (some .long), .methodLink RX0 19 yX0_hasPlace, .instanceMethod yX0_hasPlace, .selects RX0 yX0_hasPlace yX0_hasPlace, .code yX0_hasPlace cX0_hasPlace 2 (some .boolean), .fieldLink RX0 15 "QueueHall$Row" "count" "I", .fieldLink RX0 9 "QueueHall$Row" "numbers" "[I", .constantLong RX0 23 (1099511627776), .instanceMethod yX0_take, .selects RX0 yX0_take yX0_take, .code yX0_take cX0_take 3 (some .long), .methodLink RX0 28 arraycopyName, .native arraycopyName, .static arraycopyName, .initialized "java/lang/System"] ++ wsX10 ++ wsX00)
def wsX1_leave : List Cond := .code yX1_leave cX1_leave 2 (some .boolean) :: ([.fieldLink RX1 10 "QueueHall" "hallRow" "LQueueHall$Row;", .instanceMethod yX0_firstPlace, .selects RX0 yX0_firstPlace yX0_firstPlace, .initialized RX0, .code yX0_firstPlace cX0_firstPlace 3 (some .int), .fieldLink RX0 15 "QueueHall$Row" "count" "I", .fieldLink RX0 9 "QueueHall$Row" "numbers" "[I", .instanceMethod yX0_take, .selects RX0 yX0_take yX0_take, .code yX0_take cX0_take 3 (some .long), .methodLink RX0 19 yX0_hasPlace, .instanceMethod yX0_hasPlace, .selects RX0 yX0_hasPlace yX0_hasPlace, .code yX0_hasPlace cX0_hasPlace 2 (some .boolean), .constantLong RX0 23 (1099511627776), .methodLink RX0 28 arraycopyName, .native arraycopyName, .static arraycopyName, .initialized "java/lang/System", .constantLong RX1 50 (1099511627776)] ++ wsX10 ++ wsX00)
def wsX1_rowOf : List Cond := .code yX1_rowOf cX1_rowOf 2 (some (.object "QueueHall$Row")) :: ([.fieldLink RX1 10 "QueueHall" "hallRow" "LQueueHall$Row;", .fieldLink RX1 16 "QueueHall" "ringRow" "LQueueHall$Row;", .fieldLink RX1 19 "QueueHall" "chainRow" "LQueueHall$Row;"] ++ wsX10)
def wsX1_has : List Cond := .code yX1_has cX1_has 4 (some .boolean) :: ([.methodLink RX1 52 yX1_rowOf, .instanceMethod yX1_rowOf, .selects RX1 yX1_rowOf yX1_rowOf, .initialized RX1, .code yX1_rowOf cX1_rowOf 2 (some (.object "QueueHall$Row")), .fieldLink RX1 10 "QueueHall" "hallRow" "LQueueHall$Row;", .fieldLink RX1 16 "QueueHall" "ringRow" "LQueueHall$Row;", .fieldLink RX1 19 "QueueHall" "chainRow" "LQueueHall$Row;", .instanceMethod yX0_firstPlace, .selects RX0 yX0_firstPlace yX0_firstPlace, .initialized RX0, .code yX0_firstPlace cX0_firstPlace 3 (some .int), .fieldLink RX0 15 "QueueHall$Row" "count" "I", .fieldLink RX0 9 "QueueHall$Row" "numbers" "[I"] ++ wsX10 ++ wsX00)
def wsX1_size : List Cond := .code yX1_size cX1_size 3 (some .int) :: ([.methodLink RX1 52 yX1_rowOf, .instanceMethod yX1_rowOf, .selects RX1 yX1_rowOf yX1_rowOf, .initialized RX1, .code yX1_rowOf cX1_rowOf 2 (some (.object "QueueHall$Row")), .fieldLink RX1 10 "QueueHall" "hallRow" "LQueueHall$Row;", .fieldLink RX1 16 "QueueHall" "ringRow" "LQueueHall$Row;", .fieldLink RX1 19 "QueueHall" "chainRow" "LQueueHall$Row;"] ++ wsX10 ++ wsX00)
def wsX1_liftFinger : List Cond := .code yX1_liftFinger cX1_liftFinger 1 none :: ([.fieldLink RX1 22 "QueueHall" "fingerPlace" "I", .fieldLink RX1 26 "QueueHall" "metPlace" "I"] ++ wsX10)
def wsX1_clear : List Cond := .code yX1_clear cX1_clear 4 (some .int) :: ([.methodLink RX1 52 yX1_rowOf, .instanceMethod yX1_rowOf, .selects RX1 yX1_rowOf yX1_rowOf, .initialized RX1, .code yX1_rowOf cX1_rowOf 2 (some (.object "QueueHall$Row")), .fieldLink RX1 10 "QueueHall" "hallRow" "LQueueHall$Row;", .fieldLink RX1 16 "QueueHall" "ringRow" "LQueueHall$Row;", .fieldLink RX1 19 "QueueHall" "chainRow" "LQueueHall$Row;", .instanceMethod yX0_wipe, .selects RX0 yX0_wipe yX0_wipe, .initialized RX0, .code yX0_wipe cX0_wipe 2 (some .int), .fieldLink RX0 15 "QueueHall$Row" "count" "I", .methodLink RX1 60 yX1_liftFinger, .instanceMethod yX1_liftFinger, .selects RX1 yX1_liftFinger yX1_liftFinger, .code yX1_liftFinger cX1_liftFinger 1 none, .fieldLink RX1 22 "QueueHall" "fingerPlace" "I", .fieldLink RX1 26 "QueueHall" "metPlace" "I"] ++ wsX10 ++ wsX00)
def wsX1_join : List Cond := .code yX1_join cX1_join 3 (some .int) :: ([.fieldLink RX1 16 "QueueHall" "ringRow" "LQueueHall$Row;", .instanceMethod yX0_put, .selects RX0 yX0_put yX0_put, .initialized RX0, .code yX0_put cX0_put 3 (some .boolean), .fieldLink RX0 15 "QueueHall$Row" "count" "I", .methodLink RX0 25 yX0_hasPlaceOrEnd, .instanceMethod yX0_hasPlaceOrEnd, .selects RX0 yX0_hasPlaceOrEnd yX0_hasPlaceOrEnd, .code yX0_hasPlaceOrEnd cX0_hasPlaceOrEnd 2 (some .boolean), .fieldLink RX0 9 "QueueHall$Row" "numbers" "[I", .methodLink RX0 28 arraycopyName, .native arraycopyName, .static arraycopyName, .initialized "java/lang/System"] ++ wsX10 ++ wsX00)
def wsX1_serve : List Cond := .code yX1_serve cX1_serve 4 (some .long) :: ([.fieldLink RX1 16 "QueueHall" "ringRow" "LQueueHall$Row;", .instanceMethod yX0_at, .selects RX0 yX0_at yX0_at, .initialized RX0, .code yX0_at cX0_at 2 (some .long), .methodLink RX0 19 yX0_hasPlace, .instanceMethod yX0_hasPlace, .selects RX0 yX0_hasPlace yX0_hasPlace, .code yX0_hasPlace cX0_hasPlace 2 (some .boolean), .fieldLink RX0 15 "QueueHall$Row" "count" "I", .fieldLink RX0 9 "QueueHall$Row" "numbers" "[I", .constantLong RX0 23 (1099511627776), .instanceMethod yX0_take, .selects RX0 yX0_take yX0_take, .code yX0_take cX0_take 3 (some .long), .methodLink RX0 28 arraycopyName, .native arraycopyName, .static arraycopyName, .initialized "java/lang/System"] ++ wsX10 ++ wsX00)
def wsX1_drop : List Cond := .code yX1_drop cX1_drop 4 (some .boolean) :: ([.fieldLink RX1 16 "QueueHall" "ringRow" "LQueueHall$Row;", .instanceMethod yX0_firstPlace, .selects RX0 yX0_firstPlace yX0_firstPlace, .initialized RX0, .code yX0_firstPlace cX0_firstPlace 3 (some .int), .fieldLink RX0 15 "QueueHall$Row" "count" "I", .fieldLink RX0 9 "QueueHall$Row" "numbers" "[I", .instanceMethod yX0_lastPlace, .selects RX0 yX0_lastPlace yX0_lastPlace, .code yX0_lastPlace cX0_lastPlace 3 (some .int), .instanceMethod yX0_take, .selects RX0 yX0_take yX0_take, .code yX0_take cX0_take 3 (some .long), .methodLink RX0 19 yX0_hasPlace, .instanceMethod yX0_hasPlace, .selects RX0 yX0_hasPlace yX0_hasPlace, .code yX0_hasPlace cX0_hasPlace 2 (some .boolean), .constantLong RX0 23 (1099511627776), .methodLink RX0 28 arraycopyName, .native arraycopyName, .static arraycopyName, .initialized "java/lang/System", .constantLong RX1 50 (1099511627776)] ++ wsX10 ++ wsX00)
def wsX1_ring : List Cond := .code yX1_ring cX1_ring 3 (some .long) :: ([.fieldLink RX1 16 "QueueHall" "ringRow" "LQueueHall$Row;", .instanceMethod yX0_hasPlace, .selects RX0 yX0_hasPlace yX0_hasPlace, .initialized RX0, .code yX0_hasPlace cX0_hasPlace 2 (some .boolean), .fieldLink RX0 15 "QueueHall$Row" "count" "I", .constantLong RX1 50 (1099511627776), .instanceMethod yX0_at, .selects RX0 yX0_at yX0_at, .code yX0_at cX0_at 2 (some .long), .methodLink RX0 19 yX0_hasPlace, .fieldLink RX0 9 "QueueHall$Row" "numbers" "[I", .constantLong RX0 23 (1099511627776)] ++ wsX10 ++ wsX00)
def wsX1_sieve : List Cond := .code yX1_sieve cX1_sieve 3 (some .int) :: ([.fieldLink RX1 16 "QueueHall" "ringRow" "LQueueHall$Row;", .instanceMethod yX0_takeRest, .selects RX0 yX0_takeRest yX0_takeRest, .initialized RX0, .code yX0_takeRest cX0_takeRest 5 (some .int), .fieldLink RX0 15 "QueueHall$Row" "count" "I", .fieldLink RX0 9 "QueueHall$Row" "numbers" "[I", .methodLink RX0 34 yJ9_floorMod_7cf53, .static yJ9_floorMod_7cf53, .initialized RJ9, .code yJ9_floorMod_7cf53 cJ9_floorMod_7cf53 3 (some .int)] ++ wsX10 ++ wsX00)
def wsX1_roll : List Cond := .code yX1_roll cX1_roll 2 (some .int) :: ([.fieldLink RX1 16 "QueueHall" "ringRow" "LQueueHall$Row;", .instanceMethod yX0_turn, .selects RX0 yX0_turn yX0_turn, .initialized RX0, .code yX0_turn cX0_turn 3 (some .int), .fieldLink RX0 15 "QueueHall$Row" "count" "I", .fieldLink RX0 9 "QueueHall$Row" "numbers" "[I", .methodLink RX0 28 arraycopyName, .native arraycopyName, .static arraycopyName, .initialized "java/lang/System"] ++ wsX10 ++ wsX00)
def wsX1_insert : List Cond := .code yX1_insert cX1_insert 3 (some .int) :: ([.fieldLink RX1 19 "QueueHall" "chainRow" "LQueueHall$Row;", .instanceMethod yX0_hasPlaceOrEnd, .selects RX0 yX0_hasPlaceOrEnd yX0_hasPlaceOrEnd, .initialized RX0, .code yX0_hasPlaceOrEnd cX0_hasPlaceOrEnd 2 (some .boolean), .fieldLink RX0 15 "QueueHall$Row" "count" "I", .instanceMethod yX0_put, .selects RX0 yX0_put yX0_put, .code yX0_put cX0_put 3 (some .boolean), .methodLink RX0 25 yX0_hasPlaceOrEnd, .fieldLink RX0 9 "QueueHall$Row" "numbers" "[I", .methodLink RX0 28 arraycopyName, .native arraycopyName, .static arraycopyName, .initialized "java/lang/System", .methodLink RX1 60 yX1_liftFinger, .instanceMethod yX1_liftFinger, .selects RX1 yX1_liftFinger yX1_liftFinger, .initialized RX1, .code yX1_liftFinger cX1_liftFinger 1 none, .fieldLink RX1 22 "QueueHall" "fingerPlace" "I", .fieldLink RX1 26 "QueueHall" "metPlace" "I"] ++ wsX10 ++ wsX00)
def wsX1_change_r1 : List Cond := [Cond.fieldLink RX1 19 "QueueHall" "chainRow" "LQueueHall$Row;", Cond.instanceMethod yX0_take, Cond.selects RX0 yX0_take yX0_take, Cond.initialized RX0, Cond.code yX0_take cX0_take 3 (some .long), Cond.methodLink RX0 19 yX0_hasPlace, Cond.instanceMethod yX0_hasPlace, Cond.selects RX0 yX0_hasPlace yX0_hasPlace, Cond.code yX0_hasPlace cX0_hasPlace 2 (some .boolean), Cond.fieldLink RX0 15 "QueueHall$Row" "count" "I", Cond.constantLong RX0 23 (1099511627776), Cond.fieldLink RX0 9 "QueueHall$Row" "numbers" "[I", Cond.methodLink RX0 28 arraycopyName, Cond.native arraycopyName, Cond.static arraycopyName, Cond.initialized "java/lang/System", Cond.instanceMethod yX0_swap, Cond.selects RX0 yX0_swap yX0_swap, Cond.code yX0_swap cX0_swap 4 (some .long), Cond.constantLong RX1 50 (1099511627776), Cond.methodLink RX1 60 yX1_liftFinger, Cond.instanceMethod yX1_liftFinger, Cond.selects RX1 yX1_liftFinger yX1_liftFinger, Cond.initialized RX1]
def wsX1_change_r2 : List Cond := [Cond.code yX1_liftFinger cX1_liftFinger 1 none, Cond.fieldLink RX1 22 "QueueHall" "fingerPlace" "I", Cond.fieldLink RX1 26 "QueueHall" "metPlace" "I"]
def wsX1_change : List Cond := .code yX1_change cX1_change 6 (some .long) :: ((wsX1_change_r1 ++ wsX1_change_r2) ++ wsX10 ++ wsX00)
def wsX1_chain : List Cond := .code yX1_chain cX1_chain 2 (some .long) :: ([.fieldLink RX1 19 "QueueHall" "chainRow" "LQueueHall$Row;", .instanceMethod yX0_at, .selects RX0 yX0_at yX0_at, .initialized RX0, .code yX0_at cX0_at 2 (some .long), .methodLink RX0 19 yX0_hasPlace, .instanceMethod yX0_hasPlace, .selects RX0 yX0_hasPlace yX0_hasPlace, .code yX0_hasPlace cX0_hasPlace 2 (some .boolean), .fieldLink RX0 15 "QueueHall$Row" "count" "I", .fieldLink RX0 9 "QueueHall$Row" "numbers" "[I", .constantLong RX0 23 (1099511627776)] ++ wsX10 ++ wsX00)
def wsX1_find : List Cond := .code yX1_find cX1_find 3 (some .int) :: ([.fieldLink RX1 19 "QueueHall" "chainRow" "LQueueHall$Row;", .instanceMethod yX0_lastPlace, .selects RX0 yX0_lastPlace yX0_lastPlace, .initialized RX0, .code yX0_lastPlace cX0_lastPlace 3 (some .int), .fieldLink RX0 15 "QueueHall$Row" "count" "I", .fieldLink RX0 9 "QueueHall$Row" "numbers" "[I", .instanceMethod yX0_firstPlace, .selects RX0 yX0_firstPlace yX0_firstPlace, .code yX0_firstPlace cX0_firstPlace 3 (some .int)] ++ wsX10 ++ wsX00)
def wsX1_unlink_r1 : List Cond := [Cond.fieldLink RX1 19 "QueueHall" "chainRow" "LQueueHall$Row;", Cond.instanceMethod yX0_firstPlace, Cond.selects RX0 yX0_firstPlace yX0_firstPlace, Cond.initialized RX0, Cond.code yX0_firstPlace cX0_firstPlace 3 (some .int), Cond.fieldLink RX0 15 "QueueHall$Row" "count" "I", Cond.fieldLink RX0 9 "QueueHall$Row" "numbers" "[I", Cond.instanceMethod yX0_take, Cond.selects RX0 yX0_take yX0_take, Cond.code yX0_take cX0_take 3 (some .long), Cond.methodLink RX0 19 yX0_hasPlace, Cond.instanceMethod yX0_hasPlace, Cond.selects RX0 yX0_hasPlace yX0_hasPlace, Cond.code yX0_hasPlace cX0_hasPlace 2 (some .boolean), Cond.constantLong RX0 23 (1099511627776), Cond.methodLink RX0 28 arraycopyName, Cond.native arraycopyName, Cond.static arraycopyName, Cond.initialized "java/lang/System", Cond.constantLong RX1 50 (1099511627776), Cond.methodLink RX1 60 yX1_liftFinger, Cond.instanceMethod yX1_liftFinger, Cond.selects RX1 yX1_liftFinger yX1_liftFinger, Cond.initialized RX1]
def wsX1_unlink_r2 : List Cond := [Cond.code yX1_liftFinger cX1_liftFinger 1 none, Cond.fieldLink RX1 22 "QueueHall" "fingerPlace" "I", Cond.fieldLink RX1 26 "QueueHall" "metPlace" "I"]
def wsX1_unlink : List Cond := .code yX1_unlink cX1_unlink 2 (some .boolean) :: ((wsX1_unlink_r1 ++ wsX1_unlink_r2) ++ wsX10 ++ wsX00)
def wsX1_point : List Cond := .code yX1_point cX1_point 2 (some .int) :: ([.fieldLink RX1 19 "QueueHall" "chainRow" "LQueueHall$Row;", .instanceMethod yX0_hasPlaceOrEnd, .selects RX0 yX0_hasPlaceOrEnd yX0_hasPlaceOrEnd, .initialized RX0, .code yX0_hasPlaceOrEnd cX0_hasPlaceOrEnd 2 (some .boolean), .fieldLink RX0 15 "QueueHall$Row" "count" "I", .fieldLink RX1 22 "QueueHall" "fingerPlace" "I", .fieldLink RX1 26 "QueueHall" "metPlace" "I"] ++ wsX10 ++ wsX00)
def wsX1_pass : List Cond := .code yX1_pass cX1_pass 3 (some .long) :: ([.fieldLink RX1 22 "QueueHall" "fingerPlace" "I", .constantLong RX1 50 (1099511627776), .fieldLink RX1 19 "QueueHall" "chainRow" "LQueueHall$Row;", .instanceMethod yX0_hasPlace, .selects RX0 yX0_hasPlace yX0_hasPlace, .initialized RX0, .code yX0_hasPlace cX0_hasPlace 2 (some .boolean), .fieldLink RX0 15 "QueueHall$Row" "count" "I", .fieldLink RX1 26 "QueueHall" "metPlace" "I", .instanceMethod yX0_at, .selects RX0 yX0_at yX0_at, .code yX0_at cX0_at 2 (some .long), .methodLink RX0 19 yX0_hasPlace, .fieldLink RX0 9 "QueueHall$Row" "numbers" "[I", .constantLong RX0 23 (1099511627776)] ++ wsX10 ++ wsX00)
def wsX1_changeMet : List Cond := .code yX1_changeMet cX1_changeMet 2 (some .int) :: ([.fieldLink RX1 19 "QueueHall" "chainRow" "LQueueHall$Row;", .fieldLink RX1 26 "QueueHall" "metPlace" "I", .instanceMethod yX0_swap, .selects RX0 yX0_swap yX0_swap, .initialized RX0, .code yX0_swap cX0_swap 4 (some .long), .methodLink RX0 19 yX0_hasPlace, .instanceMethod yX0_hasPlace, .selects RX0 yX0_hasPlace yX0_hasPlace, .code yX0_hasPlace cX0_hasPlace 2 (some .boolean), .fieldLink RX0 15 "QueueHall$Row" "count" "I", .constantLong RX0 23 (1099511627776), .fieldLink RX0 9 "QueueHall$Row" "numbers" "[I", .constantLong RX1 50 (1099511627776)] ++ wsX10 ++ wsX00)
def wsX1_takeMet : List Cond := .code yX1_takeMet cX1_takeMet 1 (some .int) :: ([.fieldLink RX1 19 "QueueHall" "chainRow" "LQueueHall$Row;", .fieldLink RX1 26 "QueueHall" "metPlace" "I", .instanceMethod yX0_take, .selects RX0 yX0_take yX0_take, .initialized RX0, .code yX0_take cX0_take 3 (some .long), .methodLink RX0 19 yX0_hasPlace, .instanceMethod yX0_hasPlace, .selects RX0 yX0_hasPlace yX0_hasPlace, .code yX0_hasPlace cX0_hasPlace 2 (some .boolean), .fieldLink RX0 15 "QueueHall$Row" "count" "I", .constantLong RX0 23 (1099511627776), .fieldLink RX0 9 "QueueHall$Row" "numbers" "[I", .methodLink RX0 28 arraycopyName, .native arraycopyName, .static arraycopyName, .initialized "java/lang/System", .constantLong RX1 50 (1099511627776), .fieldLink RX1 22 "QueueHall" "fingerPlace" "I"] ++ wsX10 ++ wsX00)
def wsX1_putAtFinger : List Cond := .code yX1_putAtFinger cX1_putAtFinger 2 (some .int) :: ([.fieldLink RX1 19 "QueueHall" "chainRow" "LQueueHall$Row;", .fieldLink RX1 22 "QueueHall" "fingerPlace" "I", .instanceMethod yX0_put, .selects RX0 yX0_put yX0_put, .initialized RX0, .code yX0_put cX0_put 3 (some .boolean), .fieldLink RX0 15 "QueueHall$Row" "count" "I", .methodLink RX0 25 yX0_hasPlaceOrEnd, .instanceMethod yX0_hasPlaceOrEnd, .selects RX0 yX0_hasPlaceOrEnd yX0_hasPlaceOrEnd, .code yX0_hasPlaceOrEnd cX0_hasPlaceOrEnd 2 (some .boolean), .fieldLink RX0 9 "QueueHall$Row" "numbers" "[I", .methodLink RX0 28 arraycopyName, .native arraycopyName, .static arraycopyName, .initialized "java/lang/System", .fieldLink RX1 26 "QueueHall" "metPlace" "I"] ++ wsX10 ++ wsX00)
def wsX1_touch_r1 : List Cond := [Cond.fieldLink RX1 22 "QueueHall" "fingerPlace" "I", Cond.methodLink RX1 84 yX1_changeMet, Cond.instanceMethod yX1_changeMet, Cond.selects RX1 yX1_changeMet yX1_changeMet, Cond.initialized RX1, Cond.code yX1_changeMet cX1_changeMet 2 (some .int), Cond.fieldLink RX1 19 "QueueHall" "chainRow" "LQueueHall$Row;", Cond.fieldLink RX1 26 "QueueHall" "metPlace" "I", Cond.instanceMethod yX0_swap, Cond.selects RX0 yX0_swap yX0_swap, Cond.initialized RX0, Cond.code yX0_swap cX0_swap 4 (some .long), Cond.methodLink RX0 19 yX0_hasPlace, Cond.instanceMethod yX0_hasPlace, Cond.selects RX0 yX0_hasPlace yX0_hasPlace, Cond.code yX0_hasPlace cX0_hasPlace 2 (some .boolean), Cond.fieldLink RX0 15 "QueueHall$Row" "count" "I", Cond.constantLong RX0 23 (1099511627776), Cond.fieldLink RX0 9 "QueueHall$Row" "numbers" "[I", Cond.constantLong RX1 50 (1099511627776), Cond.methodLink RX1 87 yX1_takeMet, Cond.instanceMethod yX1_takeMet, Cond.selects RX1 yX1_takeMet yX1_takeMet, Cond.code yX1_takeMet cX1_takeMet 1 (some .int)]
def wsX1_touch_r2 : List Cond := [Cond.instanceMethod yX0_take, Cond.selects RX0 yX0_take yX0_take, Cond.code yX0_take cX0_take 3 (some .long), Cond.methodLink RX0 28 arraycopyName, Cond.native arraycopyName, Cond.static arraycopyName, Cond.initialized "java/lang/System", Cond.methodLink RX1 90 yX1_putAtFinger, Cond.instanceMethod yX1_putAtFinger, Cond.selects RX1 yX1_putAtFinger yX1_putAtFinger, Cond.code yX1_putAtFinger cX1_putAtFinger 2 (some .int), Cond.instanceMethod yX0_put, Cond.selects RX0 yX0_put yX0_put, Cond.code yX0_put cX0_put 3 (some .boolean), Cond.methodLink RX0 25 yX0_hasPlaceOrEnd, Cond.instanceMethod yX0_hasPlaceOrEnd, Cond.selects RX0 yX0_hasPlaceOrEnd yX0_hasPlaceOrEnd, Cond.code yX0_hasPlaceOrEnd cX0_hasPlaceOrEnd 2 (some .boolean)]
def wsX1_touch : List Cond := .code yX1_touch cX1_touch 3 (some .int) :: ((wsX1_touch_r1 ++ wsX1_touch_r2) ++ wsX10 ++ wsX00)
def wsX1_finger : List Cond := .code yX1_finger cX1_finger 1 (some .int) :: ([.fieldLink RX1 22 "QueueHall" "fingerPlace" "I"] ++ wsX10)
def wsX1_empty : List Cond := .code yX1_empty cX1_empty 1 (some .int) :: ([.fieldLink RX1 16 "QueueHall" "ringRow" "LQueueHall$Row;", .fieldLink RX1 10 "QueueHall" "hallRow" "LQueueHall$Row;", .instanceMethod yX0_takeAll, .selects RX0 yX0_takeAll yX0_takeAll, .initialized RX0, .code yX0_takeAll cX0_takeAll 3 (some .boolean), .fieldLink RX0 15 "QueueHall$Row" "count" "I", .methodLink RX0 25 yX0_hasPlaceOrEnd, .instanceMethod yX0_hasPlaceOrEnd, .selects RX0 yX0_hasPlaceOrEnd yX0_hasPlaceOrEnd, .code yX0_hasPlaceOrEnd cX0_hasPlaceOrEnd 2 (some .boolean), .fieldLink RX0 9 "QueueHall$Row" "numbers" "[I", .methodLink RX0 28 arraycopyName, .native arraycopyName, .static arraycopyName, .initialized "java/lang/System", .methodLink RX0 40 yX0_wipe, .instanceMethod yX0_wipe, .selects RX0 yX0_wipe yX0_wipe, .code yX0_wipe cX0_wipe 2 (some .int)] ++ wsX10 ++ wsX00)
def wsX1_hand_r1 : List Cond := [Cond.fieldLink RX1 19 "QueueHall" "chainRow" "LQueueHall$Row;", Cond.fieldLink RX1 16 "QueueHall" "ringRow" "LQueueHall$Row;", Cond.instanceMethod yX0_takeAll, Cond.selects RX0 yX0_takeAll yX0_takeAll, Cond.initialized RX0, Cond.code yX0_takeAll cX0_takeAll 3 (some .boolean), Cond.fieldLink RX0 15 "QueueHall$Row" "count" "I", Cond.methodLink RX0 25 yX0_hasPlaceOrEnd, Cond.instanceMethod yX0_hasPlaceOrEnd, Cond.selects RX0 yX0_hasPlaceOrEnd yX0_hasPlaceOrEnd, Cond.code yX0_hasPlaceOrEnd cX0_hasPlaceOrEnd 2 (some .boolean), Cond.fieldLink RX0 9 "QueueHall$Row" "numbers" "[I", Cond.methodLink RX0 28 arraycopyName, Cond.native arraycopyName, Cond.static arraycopyName, Cond.initialized "java/lang/System", Cond.methodLink RX0 40 yX0_wipe, Cond.instanceMethod yX0_wipe, Cond.selects RX0 yX0_wipe yX0_wipe, Cond.code yX0_wipe cX0_wipe 2 (some .int), Cond.methodLink RX1 60 yX1_liftFinger, Cond.instanceMethod yX1_liftFinger, Cond.selects RX1 yX1_liftFinger yX1_liftFinger, Cond.initialized RX1]
def wsX1_hand_r2 : List Cond := [Cond.code yX1_liftFinger cX1_liftFinger 1 none, Cond.fieldLink RX1 22 "QueueHall" "fingerPlace" "I", Cond.fieldLink RX1 26 "QueueHall" "metPlace" "I"]
def wsX1_hand : List Cond := .code yX1_hand cX1_hand 2 (some .int) :: ((wsX1_hand_r1 ++ wsX1_hand_r2) ++ wsX10 ++ wsX00)
def wsX2_init : List Cond := .code yX2_init cX2_init 1 none :: ([.methodLink RX2 1 objectInit, .instanceMethod objectInit, .code objectInit ⟨#[0xb1]⟩ 1 none, .arrayClass .int, .fieldLink RX2 9 "QueueHallModel" "hall" "[I", .fieldLink RX2 13 "QueueHallModel" "ring" "[I", .fieldLink RX2 16 "QueueHallModel" "chain" "[I", .fieldLink RX2 19 "QueueHallModel" "finger" "I", .fieldLink RX2 23 "QueueHallModel" "met" "I"] ++ wsX20)
def wsX2_put : List Cond := .code yX2_put cX2_put 5 none :: ([])
def wsX2_take : List Cond := .code yX2_take cX2_take 4 none :: ([])
def wsX2_place : List Cond := .code yX2_place cX2_place 6 (some .int) :: ([])
def wsX2_many : List Cond := .code yX2_many cX2_many 2 (some .int) :: ([.fieldLink RX2 26 "QueueHallModel" "halls" "I", .fieldLink RX2 29 "QueueHallModel" "rings" "I", .fieldLink RX2 32 "QueueHallModel" "chains" "I"] ++ wsX20)
def wsX2_lift : List Cond := .code yX2_lift cX2_lift 1 none :: ([.fieldLink RX2 19 "QueueHallModel" "finger" "I", .fieldLink RX2 23 "QueueHallModel" "met" "I"] ++ wsX20)
def wsX2_enter : List Cond := .code yX2_enter cX2_enter 3 (some .int) :: ([.fieldLink RX2 26 "QueueHallModel" "halls" "I", .fieldLink RX2 9 "QueueHallModel" "hall" "[I", .methodLink RX2 35 yX2_put, .static yX2_put, .initialized RX2, .code yX2_put cX2_put 5 none] ++ wsX20)
def wsX2_call : List Cond := .code yX2_call cX2_call 3 (some .long) :: ([.fieldLink RX2 26 "QueueHallModel" "halls" "I", .constantLong RX2 39 (1099511627776), .fieldLink RX2 9 "QueueHallModel" "hall" "[I", .methodLink RX2 41 yX2_take, .static yX2_take, .initialized RX2, .code yX2_take cX2_take 4 none] ++ wsX20)
def wsX2_leave : List Cond := .code yX2_leave cX2_leave 3 (some .boolean) :: ([.fieldLink RX2 9 "QueueHallModel" "hall" "[I", .fieldLink RX2 26 "QueueHallModel" "halls" "I", .methodLink RX2 45 yX2_place, .static yX2_place, .initialized RX2, .code yX2_place cX2_place 6 (some .int), .methodLink RX2 41 yX2_take, .static yX2_take, .code yX2_take cX2_take 4 none] ++ wsX20)
def wsX2_has : List Cond := .code yX2_has cX2_has 4 (some .boolean) :: ([.fieldLink RX2 9 "QueueHallModel" "hall" "[I", .fieldLink RX2 13 "QueueHallModel" "ring" "[I", .fieldLink RX2 16 "QueueHallModel" "chain" "[I", .methodLink RX2 49 yX2_many, .instanceMethod yX2_many, .selects RX2 yX2_many yX2_many, .initialized RX2, .code yX2_many cX2_many 2 (some .int), .fieldLink RX2 26 "QueueHallModel" "halls" "I", .fieldLink RX2 29 "QueueHallModel" "rings" "I", .fieldLink RX2 32 "QueueHallModel" "chains" "I", .methodLink RX2 45 yX2_place, .static yX2_place, .code yX2_place cX2_place 6 (some .int)] ++ wsX20)
def wsX2_size : List Cond := .code yX2_size cX2_size 2 (some .int) :: ([.methodLink RX2 49 yX2_many, .instanceMethod yX2_many, .selects RX2 yX2_many yX2_many, .initialized RX2, .code yX2_many cX2_many 2 (some .int), .fieldLink RX2 26 "QueueHallModel" "halls" "I", .fieldLink RX2 29 "QueueHallModel" "rings" "I", .fieldLink RX2 32 "QueueHallModel" "chains" "I"] ++ wsX20)
def wsX2_clear : List Cond := .code yX2_clear cX2_clear 3 (some .int) :: ([.methodLink RX2 49 yX2_many, .instanceMethod yX2_many, .selects RX2 yX2_many yX2_many, .initialized RX2, .code yX2_many cX2_many 2 (some .int), .fieldLink RX2 26 "QueueHallModel" "halls" "I", .fieldLink RX2 29 "QueueHallModel" "rings" "I", .fieldLink RX2 32 "QueueHallModel" "chains" "I", .methodLink RX2 53 yX2_lift, .instanceMethod yX2_lift, .selects RX2 yX2_lift yX2_lift, .code yX2_lift cX2_lift 1 none, .fieldLink RX2 19 "QueueHallModel" "finger" "I", .fieldLink RX2 23 "QueueHallModel" "met" "I"] ++ wsX20)
def wsX2_join : List Cond := .code yX2_join cX2_join 3 (some .int) :: ([.fieldLink RX2 29 "QueueHallModel" "rings" "I", .fieldLink RX2 13 "QueueHallModel" "ring" "[I", .methodLink RX2 35 yX2_put, .static yX2_put, .initialized RX2, .code yX2_put cX2_put 5 none] ++ wsX20)
def wsX2_serve : List Cond := .code yX2_serve cX2_serve 5 (some .long) :: ([.fieldLink RX2 29 "QueueHallModel" "rings" "I", .constantLong RX2 39 (1099511627776), .fieldLink RX2 13 "QueueHallModel" "ring" "[I", .methodLink RX2 41 yX2_take, .static yX2_take, .initialized RX2, .code yX2_take cX2_take 4 none] ++ wsX20)
def wsX2_drop : List Cond := .code yX2_drop cX2_drop 4 (some .boolean) :: ([.fieldLink RX2 13 "QueueHallModel" "ring" "[I", .fieldLink RX2 29 "QueueHallModel" "rings" "I", .methodLink RX2 45 yX2_place, .static yX2_place, .initialized RX2, .code yX2_place cX2_place 6 (some .int), .methodLink RX2 41 yX2_take, .static yX2_take, .code yX2_take cX2_take 4 none] ++ wsX20)
def wsX2_ring : List Cond := .code yX2_ring cX2_ring 3 (some .long) :: ([.fieldLink RX2 29 "QueueHallModel" "rings" "I", .constantLong RX2 39 (1099511627776), .fieldLink RX2 13 "QueueHallModel" "ring" "[I"] ++ wsX20)
def wsX2_sieve : List Cond := .code yX2_sieve cX2_sieve 5 (some .int) :: ([.fieldLink RX2 29 "QueueHallModel" "rings" "I", .fieldLink RX2 13 "QueueHallModel" "ring" "[I", .methodLink RX2 56 yJ9_floorMod_7cf53, .static yJ9_floorMod_7cf53, .initialized RJ9, .code yJ9_floorMod_7cf53 cJ9_floorMod_7cf53 3 (some .int)] ++ wsX20)
def wsX2_roll : List Cond := .code yX2_roll cX2_roll 4 (some .int) :: ([.fieldLink RX2 29 "QueueHallModel" "rings" "I", .fieldLink RX2 13 "QueueHallModel" "ring" "[I", .methodLink RX2 41 yX2_take, .static yX2_take, .initialized RX2, .code yX2_take cX2_take 4 none] ++ wsX20)
def wsX2_insert : List Cond := .code yX2_insert cX2_insert 3 (some .int) :: ([.fieldLink RX2 32 "QueueHallModel" "chains" "I", .fieldLink RX2 16 "QueueHallModel" "chain" "[I", .methodLink RX2 35 yX2_put, .static yX2_put, .initialized RX2, .code yX2_put cX2_put 5 none, .methodLink RX2 53 yX2_lift, .instanceMethod yX2_lift, .selects RX2 yX2_lift yX2_lift, .code yX2_lift cX2_lift 1 none, .fieldLink RX2 19 "QueueHallModel" "finger" "I", .fieldLink RX2 23 "QueueHallModel" "met" "I"] ++ wsX20)
def wsX2_change : List Cond := .code yX2_change cX2_change 5 (some .long) :: ([.fieldLink RX2 32 "QueueHallModel" "chains" "I", .constantLong RX2 39 (1099511627776), .fieldLink RX2 16 "QueueHallModel" "chain" "[I", .methodLink RX2 41 yX2_take, .static yX2_take, .initialized RX2, .code yX2_take cX2_take 4 none, .methodLink RX2 53 yX2_lift, .instanceMethod yX2_lift, .selects RX2 yX2_lift yX2_lift, .code yX2_lift cX2_lift 1 none, .fieldLink RX2 19 "QueueHallModel" "finger" "I", .fieldLink RX2 23 "QueueHallModel" "met" "I"] ++ wsX20)
def wsX2_chain : List Cond := .code yX2_chain cX2_chain 2 (some .long) :: ([.fieldLink RX2 32 "QueueHallModel" "chains" "I", .constantLong RX2 39 (1099511627776), .fieldLink RX2 16 "QueueHallModel" "chain" "[I"] ++ wsX20)
def wsX2_find : List Cond := .code yX2_find cX2_find 3 (some .int) :: ([.fieldLink RX2 16 "QueueHallModel" "chain" "[I", .fieldLink RX2 32 "QueueHallModel" "chains" "I", .methodLink RX2 45 yX2_place, .static yX2_place, .initialized RX2, .code yX2_place cX2_place 6 (some .int)] ++ wsX20)
def wsX2_unlink : List Cond := .code yX2_unlink cX2_unlink 3 (some .boolean) :: ([.fieldLink RX2 16 "QueueHallModel" "chain" "[I", .fieldLink RX2 32 "QueueHallModel" "chains" "I", .methodLink RX2 45 yX2_place, .static yX2_place, .initialized RX2, .code yX2_place cX2_place 6 (some .int), .methodLink RX2 41 yX2_take, .static yX2_take, .code yX2_take cX2_take 4 none, .methodLink RX2 53 yX2_lift, .instanceMethod yX2_lift, .selects RX2 yX2_lift yX2_lift, .code yX2_lift cX2_lift 1 none, .fieldLink RX2 19 "QueueHallModel" "finger" "I", .fieldLink RX2 23 "QueueHallModel" "met" "I"] ++ wsX20)
def wsX2_point : List Cond := .code yX2_point cX2_point 2 (some .int) :: ([.fieldLink RX2 32 "QueueHallModel" "chains" "I", .fieldLink RX2 19 "QueueHallModel" "finger" "I", .fieldLink RX2 23 "QueueHallModel" "met" "I"] ++ wsX20)
def wsX2_pass : List Cond := .code yX2_pass cX2_pass 2 (some .long) :: ([.fieldLink RX2 19 "QueueHallModel" "finger" "I", .fieldLink RX2 32 "QueueHallModel" "chains" "I", .constantLong RX2 39 (1099511627776), .fieldLink RX2 23 "QueueHallModel" "met" "I", .fieldLink RX2 16 "QueueHallModel" "chain" "[I"] ++ wsX20)
def wsX2_touch : List Cond := .code yX2_touch cX2_touch 3 (some .int) :: ([.fieldLink RX2 19 "QueueHallModel" "finger" "I", .fieldLink RX2 23 "QueueHallModel" "met" "I", .fieldLink RX2 16 "QueueHallModel" "chain" "[I", .fieldLink RX2 32 "QueueHallModel" "chains" "I", .methodLink RX2 41 yX2_take, .static yX2_take, .initialized RX2, .code yX2_take cX2_take 4 none, .methodLink RX2 35 yX2_put, .static yX2_put, .code yX2_put cX2_put 5 none] ++ wsX20)
def wsX2_finger : List Cond := .code yX2_finger cX2_finger 1 (some .int) :: ([.fieldLink RX2 19 "QueueHallModel" "finger" "I"] ++ wsX20)
def wsX2_empty : List Cond := .code yX2_empty cX2_empty 2 (some .int) :: ([.fieldLink RX2 29 "QueueHallModel" "rings" "I", .fieldLink RX2 26 "QueueHallModel" "halls" "I", .fieldLink RX2 13 "QueueHallModel" "ring" "[I", .fieldLink RX2 9 "QueueHallModel" "hall" "[I"] ++ wsX20)
def wsX2_hand : List Cond := .code yX2_hand cX2_hand 2 (some .int) :: ([.fieldLink RX2 29 "QueueHallModel" "rings" "I", .fieldLink RX2 32 "QueueHallModel" "chains" "I", .methodLink RX2 53 yX2_lift, .instanceMethod yX2_lift, .selects RX2 yX2_lift yX2_lift, .initialized RX2, .code yX2_lift cX2_lift 1 none, .fieldLink RX2 19 "QueueHallModel" "finger" "I", .fieldLink RX2 23 "QueueHallModel" "met" "I", .fieldLink RX2 13 "QueueHallModel" "ring" "[I", .fieldLink RX2 16 "QueueHallModel" "chain" "[I"] ++ wsX20)
abbrev vwCl : List vw_C := [(RX0, TX0, 2), (RX1, TX1, 5), (RX2, TX2, 8)]
