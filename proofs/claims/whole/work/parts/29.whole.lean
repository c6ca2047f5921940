theorem inlaw_X0 : ∀ w ∈ wsX00, w ∈ lw_tbl := by decide +kernel
set_option maxHeartbeats 4000000 in
set_option maxRecDepth 100000 in
theorem whole_start {p : Program} {e : Env} {s : State} {m : MethodId} {below : List Frame} {meth : Method} {c : Code} (l : Launch) {b L : Nat} {xs : Nat → Int32} (hL : L ≤ 2048) (C0 : lw_At p s m meth c b L xs) : W p l e room_1 s m #[Value.ref b] below meth c s.heap [] 0 0 (lw_Z below #[Value.ref b] s) (entryFrame m ([Value.ref b] : List Value).toArray 4) := by
  obtain ⟨hx, hb, hr, hml, hown, hts, hX, hbl, hlocks, hgv⟩ := id C0
  have hN := law_nest hts
  have hA : ∀ q : Nat, s.heap.size ≤ q → (fun q : Nat => s.heap.size ≤ q) q := fun _ h => h
  have hbA : ¬ (fun q : Nat => s.heap.size ≤ q) b := Nat.not_le.mpr hbl
  obtain ⟨c0, iS0, hKn0⟩ := u_known (C := RX0) (T := TX0) (N := 2) (n := 2) hts inlaw_X0 (hts (.instantiable RX0 2) (List.mem_of_getElem? (i := 35) (by decide +kernel)))
  obtain ⟨c1, iS1, hKn1⟩ := u_known (C := RX1) (T := TX1) (N := 5) (n := 5) hts inlaw_X1 (hts (.instantiable RX1 5) (List.mem_of_getElem? (i := 27) (by decide +kernel)))
  obtain ⟨c2, iS2, hKn2⟩ := u_known (C := RX2) (T := TX2) (N := 8) (n := 8) hts inlaw_X2 (hts (.instantiable RX2 8) (List.mem_of_getElem? (i := 241) (by decide +kernel)))
  obtain ⟨dC, dI, hKc⟩ : ∃ (dC : Nat → ClassId) (dI : Nat → Nat → Nat), ∀ (k : Nat) (q : vw_C), vwCl[k]? = some q → u_Kn s q.1 q.2.1 q.2.2 (dC k) (dI k) := by
    refine ⟨fun k => if k = 0 then c0 else if k = 1 then c1 else c2, fun k => if k = 0 then iS0 else if k = 1 then iS1 else iS2, ?_⟩
    intro k q hq
    match k, hq with
    | 0, hq => cases hq; exact hKn0
    | 1, hq => cases hq; exact hKn1
    | 2, hq => cases hq; exact hKn2
    | k + 3, hq => simp [vwCl] at hq
  have hS : va_S (fun q : Nat => s.heap.size ≤ q) s.heap s.heap [] := va_S.rf
  have hK : va_K (dC, dI) vwCl [] s := ⟨hKc, fun k q h => by simp at h⟩
  have hP : va_P (dC, dI) vwCl [] s.heap := fun k q h => by simp at h
  have hD : va_D (fun q : Nat => s.heap.size ≤ q) [] := ⟨fun i j p q h => by simp at h, fun k q h => by simp at h⟩
  have hl := lv_entry ([.ref b]) (n := 4) (Nat.le_of_ble_eq_true rfl)
  rw [lg_entry_eq]
  generalize (lg_sl ([.ref b]) ++ List.replicate (4 - (lg_sl ([.ref b])).length) Slot.unset).toArray = ls at hl ⊢
  have hl : lv_has ls 4 [(0, .ref b)] := hl
  refine va_new (ci := 1) (fs := [.null, .null, .null, .int (nI 0), .int (nI 0)]) (C := RX1) (T := TX1) (N := 5) hx hb hts inlaw_X1 tyX1 tyX1_ok hown (hts (.classLink RL 7 RX1) (List.mem_of_getElem? (i := 26) (by decide +kernel))) (hts (.instantiable RX1 5) (List.mem_of_getElem? (i := 27) (by decide +kernel))) (hts (.initialized RX1) (List.mem_of_getElem? (i := 21) (by decide +kernel))) hK hP hD hS hA rfl (fun j hj => by rcases (show j = 0 ∨ j = 1 ∨ j = 2 ∨ j = 3 ∨ j = 4 by omega) with rfl | rfl | rfl | rfl | rfl <;> rfl) (by decide +kernel) (by decide +kernel) dL_law_0 (fun x0 H hP hD hS => ?_)
  have hP : va_P (dC, dI) vwCl [(x0, .inr (1, [.null, .null, .null, .int (nI 0), .int (nI 0)]))] H := hP
  have hD : va_D (fun q : Nat => s.heap.size ≤ q) [(x0, .inr (1, [.null, .null, .null, .int (nI 0), .int (nI 0)]))] := hD
  refine lv_dup hx hb dL_law_3 rfl ?_
  have hPc := hP.sub (ws' := [(x0, .inr (1, [.null, .null, .null, .int (nI 0), .int (nI 0)]))]) [0] rfl
  have hKc := hK.sub (tys' := []) [] rfl
  have hDc := hD.sub (ws' := [(x0, .inr (1, [.null, .null, .null, .int (nI 0), .int (nI 0)]))]) [0] (by decide) rfl
  have hFc := va_free (wc := [(x0, .inr (1, [.null, .null, .null, .int (nI 0), .int (nI 0)]))]) hD hS hA [0] rfl
  refine va_callv (va_runI (As := []) (rest := [.ref x0]) ⟨hx, hb, hml, hown, hts⟩ (c_Hall_init l dC dI (H.size) x0) (cwI 0 hts gL_law_X1_init rfl rfl rfl (hts (.initialized RX1) (List.mem_of_getElem? (i := 21) (by decide +kernel))) (hts (.methodLink RL 9 yX1_init) (List.mem_of_getElem? (i := 28) (by decide +kernel))) (hts (.instanceMethod yX1_init) (List.mem_of_getElem? (i := 29) (by decide +kernel))) rfl (by decide +kernel) ⟨Nat.le_of_ble_eq_true rfl, Nat.le_of_ble_eq_true rfl⟩) ⟨q_blWN, fun U hU hW => ⟨rfl, by rw [hU], by rw [hU]; exact hPc, va_K.moved hW.alike hKc, hDc.weaken (fun _ _ _ _ => trivial), hN.warm hW⟩⟩ rfl rfl hl.1 rfl (lv_room (Nat.le_of_ble_eq_true rfl)) dL_law_4 ⟨by decide +kernel, by decide +kernel⟩) hS (fun q _ h => hFc q h) hFc (fun u_1 t_1 H1 locs ht hvm hw hB hz1 hk1 hS => ?_)
  obtain ⟨cA, a1, b1, a2, b2, a3, b3⟩ := u_1
  obtain ⟨hP1, hK1, hD1⟩ := hB
  rw [ht] at hP1
  have hK := (hK.sub (tys' := []) [] rfl).app (va_K.moved hvm.symm hK1)
  have hK : va_K (dC, dI) vwCl [(cA, .int)] s := hK
  obtain ⟨hP, hD⟩ := q_join (wr := []) (w1 := [(x0, .inr (1, [.ref a1, .ref a2, .ref a3, .int (-1), .int (-1)])), (a1, .inr (0, [.ref b1, .int (nI 0)])), (b1, .inl (cA, 2100, .inl (fun _ => 0))), (a2, .inr (0, [.ref b2, .int (nI 0)])), (b2, .inl (cA, 2100, .inl (fun _ => 0))), (a3, .inr (0, [.ref b3, .int (nI 0)])), (b3, .inl (cA, 2100, .inl (fun _ => 0)))]) (wz := [(x0, .inr (1, [.ref a1, .ref a2, .ref a3, .int (-1), .int (-1)])), (a1, .inr (0, [.ref b1, .int (nI 0)])), (b1, .inl (cA, 2100, .inl (fun _ => 0))), (a2, .inr (0, [.ref b2, .int (nI 0)])), (b2, .inl (cA, 2100, .inl (fun _ => 0))), (a3, .inr (0, [.ref b3, .int (nI 0)])), (b3, .inl (cA, 2100, .inl (fun _ => 0)))]) hP hD [0] [] [0, 1, 2, 3, 4, 5, 6] rfl rfl (by decide) (by decide) hk1 hFc hP1 hD1 rfl rfl (by decide)
  generalize H1 = H at hP hS ⊢
  refine lv_astore_n (lv' := [(1, .ref x0), (0, .ref b)]) hx hb dL_law_7 rfl hl (by decide) rfl (fun ls hl => ?_)
  refine va_new (ci := 2) (fs := [.null, .null, .null, .int (nI 0), .int (nI 0), .int (nI 0), .int (nI 0), .int (nI 0)]) (C := RX2) (T := TX2) (N := 8) hx hb hts inlaw_X2 tyX2 tyX2_ok hown (hts (.classLink RL 10 RX2) (List.mem_of_getElem? (i := 240) (by decide +kernel))) (hts (.instantiable RX2 8) (List.mem_of_getElem? (i := 241) (by decide +kernel))) (hts (.initialized RX2) (List.mem_of_getElem? (i := 23) (by decide +kernel))) hK hP hD hS hA rfl (fun j hj => by rcases (show j = 0 ∨ j = 1 ∨ j = 2 ∨ j = 3 ∨ j = 4 ∨ j = 5 ∨ j = 6 ∨ j = 7 by omega) with rfl | rfl | rfl | rfl | rfl | rfl | rfl | rfl <;> rfl) (by decide +kernel) (by decide +kernel) dL_law_8 (fun m0 H hP hD hS => ?_)
  have hP : va_P (dC, dI) vwCl [(x0, .inr (1, [.ref a1, .ref a2, .ref a3, .int (-1), .int (-1)])), (a1, .inr (0, [.ref b1, .int (nI 0)])), (b1, .inl (cA, 2100, .inl (fun _ => 0))), (a2, .inr (0, [.ref b2, .int (nI 0)])), (b2, .inl (cA, 2100, .inl (fun _ => 0))), (a3, .inr (0, [.ref b3, .int (nI 0)])), (b3, .inl (cA, 2100, .inl (fun _ => 0))), (m0, .inr (2, [.null, .null, .null, .int (nI 0), .int (nI 0), .int (nI 0), .int (nI 0), .int (nI 0)]))] H := hP
  have hD : va_D (fun q : Nat => s.heap.size ≤ q) [(x0, .inr (1, [.ref a1, .ref a2, .ref a3, .int (-1), .int (-1)])), (a1, .inr (0, [.ref b1, .int (nI 0)])), (b1, .inl (cA, 2100, .inl (fun _ => 0))), (a2, .inr (0, [.ref b2, .int (nI 0)])), (b2, .inl (cA, 2100, .inl (fun _ => 0))), (a3, .inr (0, [.ref b3, .int (nI 0)])), (b3, .inl (cA, 2100, .inl (fun _ => 0))), (m0, .inr (2, [.null, .null, .null, .int (nI 0), .int (nI 0), .int (nI 0), .int (nI 0), .int (nI 0)]))] := hD
  refine lv_dup hx hb dL_law_11 rfl ?_
  have hPc := hP.sub (ws' := [(m0, .inr (2, [.null, .null, .null, .int (nI 0), .int (nI 0), .int (nI 0), .int (nI 0), .int (nI 0)]))]) [7] rfl
  have hKc := hK.sub (tys' := []) [] rfl
  have hDc := hD.sub (ws' := [(m0, .inr (2, [.null, .null, .null, .int (nI 0), .int (nI 0), .int (nI 0), .int (nI 0), .int (nI 0)]))]) [7] (by decide) rfl
  have hFc := va_free (wc := [(m0, .inr (2, [.null, .null, .null, .int (nI 0), .int (nI 0), .int (nI 0), .int (nI 0), .int (nI 0)]))]) hD hS hA [7] rfl
  refine va_callv (va_runI (As := []) (rest := [.ref m0]) ⟨hx, hb, hml, hown, hts⟩ (c_Mod_init l dC dI (H.size) m0) (cwI 0 hts gL_law_X2_init rfl rfl rfl (hts (.initialized RX2) (List.mem_of_getElem? (i := 23) (by decide +kernel))) (hts (.methodLink RL 12 yX2_init) (List.mem_of_getElem? (i := 242) (by decide +kernel))) (hts (.instanceMethod yX2_init) (List.mem_of_getElem? (i := 243) (by decide +kernel))) rfl (by decide +kernel) ⟨Nat.le_of_ble_eq_true rfl, Nat.le_of_ble_eq_true rfl⟩) ⟨q_blW, fun U hU hW => ⟨rfl, by rw [hU], by rw [hU]; exact hPc, va_K.moved hW.alike hKc, hDc.weaken (fun _ _ _ _ => trivial)⟩⟩ rfl rfl hl.1 rfl (lv_room (Nat.le_of_ble_eq_true rfl)) dL_law_12 ⟨by decide +kernel, by decide +kernel⟩) hS (fun q _ h => hFc q h) hFc (fun u_2 t_2 H1 locs ht hvm hw hB hz1 hk1 hS => ?_)
  obtain ⟨cB, c1, c2, c3⟩ := u_2
  obtain ⟨hP1, hK1, hD1⟩ := hB
  rw [ht] at hP1
  obtain rfl : cA = cB := Option.some.inj ((va_nm_int (hK.2 0 _ rfl).2).symm.trans (va_nm_int ((va_K.moved hvm.symm hK1).2 0 _ rfl).2))
  obtain ⟨hP, hD⟩ := q_join (wr := [(x0, .inr (1, [.ref a1, .ref a2, .ref a3, .int (-1), .int (-1)])), (a1, .inr (0, [.ref b1, .int (nI 0)])), (b1, .inl (cA, 2100, .inl (fun _ => 0))), (a2, .inr (0, [.ref b2, .int (nI 0)])), (b2, .inl (cA, 2100, .inl (fun _ => 0))), (a3, .inr (0, [.ref b3, .int (nI 0)])), (b3, .inl (cA, 2100, .inl (fun _ => 0)))]) (w1 := [(m0, .inr (2, [.ref c1, .ref c2, .ref c3, .int (nI 0), .int (nI 0), .int (nI 0), .int (-1), .int (-1)])), (c1, .inl (cA, 2000, .inl (fun _ => 0))), (c2, .inl (cA, 2000, .inl (fun _ => 0))), (c3, .inl (cA, 2000, .inl (fun _ => 0)))]) (wz := [(x0, .inr (1, [.ref a1, .ref a2, .ref a3, .int (-1), .int (-1)])), (a1, .inr (0, [.ref b1, .int (nI 0)])), (b1, .inl (cA, 2100, .inl (fun _ => 0))), (a2, .inr (0, [.ref b2, .int (nI 0)])), (b2, .inl (cA, 2100, .inl (fun _ => 0))), (a3, .inr (0, [.ref b3, .int (nI 0)])), (b3, .inl (cA, 2100, .inl (fun _ => 0))), (m0, .inr (2, [.ref c1, .ref c2, .ref c3, .int (nI 0), .int (nI 0), .int (nI 0), .int (-1), .int (-1)])), (c1, .inl (cA, 2000, .inl (fun _ => 0))), (c2, .inl (cA, 2000, .inl (fun _ => 0))), (c3, .inl (cA, 2000, .inl (fun _ => 0)))]) hP hD [7] [0, 1, 2, 3, 4, 5, 6] [0, 1, 2, 3, 4, 5, 6, 7, 8, 9, 10] rfl rfl (by decide) (by decide) hk1 hFc hP1 hD1 rfl rfl (by decide)
  generalize H1 = H at hP hS ⊢
  refine lv_astore_n (lv' := [(2, .ref m0), (1, .ref x0), (0, .ref b)]) hx hb dL_law_15 rfl hl (by decide) rfl (fun ls hl => ?_)
  refine lv_iconst (v := nI 0) hx hb dL_law_16 (by decide) ?_
  refine lv_istore_n (lv' := [(3, .int (nI 0)), (2, .ref m0), (1, .ref x0), (0, .ref b)]) hx hb dL_law_17 rfl hl (by decide) rfl (fun ls hl => ?_)
  refine W.widen (k := 11) (n := 12319) (by omega) (by omega) ?_
  exact law_loop hL C0 hK (L + 1) 0 0 (by omega) rfl (Nat.zero_le L) (fun _ => 0) (fun _ => 0) (fun _ => 0) (fun _ => 0) (fun _ => 0) (fun _ => 0) (fun _ => 0) (fun _ => 0) (fun _ => 0) 0 0 0 (-1) (-1) ⟨Nat.le_refl 0, qSorted_0, qFok_none⟩ qAg_rf qAg_rf qAg_rf qAg_rf qAg_rf qAg_rf H _ hP hD hS ls (lv_sub hl [3, 2, 1, 0] rfl)
set_option maxHeartbeats 4000000 in
theorem lw_walk (l : Launch) (b : Addr) (xs : List Int32) : MetFree l x (headSpec (Jvm.Cond.code x code maxLocals ret :: tables_1) room_1) (lw_P b xs) (fun _ _ _ _ _ => True) lw_Q := by
  refine MetFree.of_bodyS (code := code) (maxLocals := maxLocals) (ret := ret) (by decide) ?_ ?_
  · intro args s m h hn
    obtain ⟨meth, c, h1, h2, h3, h4, h5, h6, -, -⟩ := Cond.code_spec hn (atoms_spec (ws := Jvm.Cond.code x code maxLocals ret :: tables_1) h _ List.mem_cons_self)
    exact ⟨meth, c, h1, h2, h3, h4, h5, h6⟩
  · intro p e s m args below meth c s₁ B hml0 hP _
    obtain ⟨rfl, hx, hbd, hgv⟩ := hP
    obtain ⟨scr, harrAt, hlist, hof, hsmall⟩ := hx
    obtain ⟨hcb, hkn, -, -⟩ := State.arrayAt?_spec harrAt
    have hown : s.vm.findClass R_law = some m.cls := findClass_of_methodNamed B.named
    have hts0 : ∀ c ∈ (Jvm.Cond.code x code maxLocals ret :: tables_1), c.before #[Value.ref b] s = true := atoms_spec (ws := Jvm.Cond.code x code maxLocals ret :: tables_1) B.pre
    have hts : ∀ w ∈ lw_tbl, w.before #[Value.ref b] s = true := k2_hts_sels lw_privs (fun w hw => hts0 w (List.mem_cons_of_mem _ hw)) lw_privs_ok
    have hml : c.maxLocals = 4 := B.maxLocals_eq (hts0 _ List.mem_cons_self)
    have X₀ : Stand p l e room_1 s m #[Value.ref b] below meth c s₁ [] 0 0 := Stand.of_body B
    have hh0 : s₁.heap = s.heap := by rw [B.state]; rfl
    have hsz : scr.slots.size = xs.length := by rw [← Array.length_toList, hlist, List.length_map]
    have hval : ∀ j : Nat, j < xs.length → scr.slots[j]? = some (.int (xs.getD j 0)) := fun j hj => by
      rw [← Array.getElem?_toList, hlist]
      simp [hj]
    have hbl : b < s.heap.size := (Array.getElem?_eq_some_iff.mp hcb).1
    have hX : va_X b xs.length (fun j => xs.getD j 0) s s.heap := ⟨scr, hcb, hof, hkn, hsz, hval⟩
    have K : W p l e room_1 s m #[Value.ref b] below meth c s₁.heap [] 0 0 (lw_Z below #[Value.ref b] s) (entryFrame m ([Value.ref b] : List Value).toArray 4) := by
      rw [hh0]
      exact whole_start l hbd ⟨B.exec, B.bytes, B.returns, hml, hown, hts, hX, hbl, B.notSynchronized, hgv⟩
    obtain ⟨t, a1, o, b1, b2, b3⟩ := K s₁ rfl X₀
    exact ⟨t, o, a1, b1, b2, b3⟩
theorem lw_pre_spec {args : Array Value} {s : State} (h : (Jvm.Cond.and given_1 narrow_1).before args s = true) (hr : rest_1_c.before args s = true) : ∃ (b : Addr) (xs : List Int32), lw_P b xs args s := by
  have hs := flat_of_before _ h
  have hq := flat_of_before _ hr
  have hc : (Cond.count 1).before args s = true := hs _ (by decide +kernel)
  have harr : (Cond.arrayOf (.arg 0) .int).before args s = true := hs _ (by decide +kernel)
  have hle : (Cond.le (.length (.arg 0)) (.int 2048)).before args s = true := hs _ (by decide +kernel)
  have hlen : (Cond.isInt (.length (.arg 0))).before args s = true := hq _ (by decide +kernel)
  have hall : (Cond.all (.arg 0) (.isInt (.elem (.arg 0) (.index 0)))).before args s = true := hq _ (by decide +kernel)
  obtain ⟨b, xs, hb, hx⟩ := State.ints_of_pre rfl harr hlen hall
  have hsm : xs.length < 2 ^ 31 := hx.choose_spec.2.2.2
  have hev : (Term.length (.arg 0)).eval args s none [] s = some (.int xs.length.toInt32) := hx.length_eval hb
  have hv := Cond.le_ints hev (show (Term.int 2048).eval args s none [] s = some (.int 2048) from rfl)
  have hd : xs.length.toInt32 ≤ 2048 := by
    simpa [Cond.before, Cond.holds, hv] using hle
  have hN : xs.length ≤ 2048 := (Int32.ofNat_le_ofNat hsm (by decide)).mp (show Int32.ofNat xs.length ≤ Int32.ofNat 2048 from hd)
  exact ⟨b, xs, Cond.one_arg hc (show args[0]? = some (.ref b) from hb), hx, hN, h⟩
theorem lw_comes (l : Launch) : Comes l x (Jvm.Cond.code x code maxLocals ret :: tables_1) room_1 (fun tb e args s => Calls_1 tb e args s ∧ rest_1 tb e args s ∧ Pre_1 tb e args s)
    (fun _ _ args s o t => lw_Q args s o t) := by
  intro p e ha hc hk s m args below hf hfit hheap happ hpre
  obtain ⟨b, xs, hP⟩ := lw_pre_spec hpre.2.2 hpre.2.1
  obtain ⟨k, o, h1, h2, h3, hQ⟩ := lw_walk l b xs p e ha hc hk s m args below hf ((Spec.applies_iff_loose hf).mp happ).1 hP trivial
  exact ⟨k, o, h1, h2, h3, hQ⟩
theorem lw_frame {s t : State} {o : Outcome} {args : Array Value} (h : Framed s o t [] 11 12319) :
    Framed s o t (fieldLocs frame_1_writes args s ++ arrayLocs frame_1_arrays args s ++ staticLocs frame_1_statics s) 11 12319 := h
theorem lw_limb (L : Cond) (hL : ∀ (args : Array Value) (s t : State), L.after args s (.returned (some (.int 1))) t = true) :
    ArmFor flags0 classFile x code maxLocals ret World_1 tables_1 room_1 Calls_1 rest_1 Pre_1
      (fun tb e a s o t => postC L tb e a s o t ∧ Framed s o t (fieldLocs frame_1_writes a s ++ arrayLocs frame_1_arrays a s ++ staticLocs frame_1_statics s) 11 12319) := by
  intro l _ _ _ p e ha hc hk s m args below hf hfit hheap happ hpre
  obtain ⟨k, o, h1, h2, h3, rfl, hF⟩ := lw_comes l p e ha hc hk s m args below hf hfit hheap happ hpre
  exact ⟨k, _, h1, h2, h3, hL args s _, lw_frame hF⟩
theorem i_vc : Claimed_1_1 ∧ Claimed_1_2 := ⟨lw_limb limb_1_1 (fun args s t => by simp [limb_1_1, Cond.after, Cond.holds, Cond.value]), lw_limb limb_1_2 (fun args s t => Cond.after_iff.mpr (by
  first | (rw [show limb_1_2 = Cond.eq .result (.int 1) from rfl, Cond.eq_ints (x := 1) (y := 1) rfl rfl]; simp; done) | (simp [limb_1_2, Cond.value, Term.eval]; done)))⟩
