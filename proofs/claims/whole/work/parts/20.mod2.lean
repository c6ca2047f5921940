set_option maxHeartbeats 4000000 in
set_option maxRecDepth 100000 in
theorem c_Mod_has (l : Launch) (dC : Nat → ClassId) (dI : Nat → Nat → Nat) (m0 c1 c2 c3 nh nr nk : Nat) (cA : ClassId) (eh gh er gr ek gk : Nat → Int32) (fi me : Int32) (p0 p1 : Int32) (hn : nh + nr + nk < 2000) (ha1 : qAg nh eh gh) (ha2 : qAg nr er gr) (ha3 : qAg nk ek gk) (hF : qFok fi me nk) : Met l yX2_has wsX2_has ({ frames := 1, cells := 0, slots := 0, locals := 25 }) (va_Pc [.ref m0, .int p0, .int p1] (fun U => va_P (dC, dI) vwCl [(m0, .inr (2, [.ref c1, .ref c2, .ref c3, .int (nI nh), .int (nI nr), .int (nI nk), .int fi, .int me])), (c1, .inl (cA, 2000, .inl eh)), (c2, .inl (cA, 2000, .inl er)), (c3, .inl (cA, 2000, .inl ek))] U.heap ∧ va_K (dC, dI) vwCl [(cA, .int)] U)) (vp_Si (fun r => r = (qHas p0 p1 ((gh, nh), (gr, nr), (gk, nk), fi, me)).1)) 0 0 (fun _ => False) := by
  refine Met.ofW (cc := cX2_has) (maxL := 4) (ret := (some .boolean)) (by decide +kernel) rfl ?_
  intro p e s m args below meth c s₁ B hml hv
  obtain ⟨rfl, hP, hK⟩ := hv
  have hx := B.exec
  have hb := B.bytes
  have hr := B.returns
  have hts := atoms_spec (ws := wsX2_has) B.pre
  have hown : s.vm.findClass RX2 = some m.cls := findClass_of_methodNamed B.named
  have hlocks := B.notSynchronized
  have hl := lv_entry ([.ref m0, .int p0, .int p1]) (n := 4) (Nat.le_of_ble_eq_true rfl)
  rw [lg_entry_eq]
  generalize (lg_sl ([.ref m0, .int p0, .int p1]) ++ List.replicate (4 - (lg_sl ([.ref m0, .int p0, .int p1])).length) Slot.unset).toArray = ls at hl ⊢
  have hl : lv_has ls 4 [(0, .ref m0), (1, .int p0), (2, .int p1)] := hl
  rcases q_w p0 with rfl | rfl | rfl | ⟨w0, w1, w2⟩
  · refine lv_iload_n hx hb dX2_has_0 rfl (lv_at hl 1 rfl) ?_
    refine lv_if_ne (tgt := 11) hx hb dX2_has_1 (by decide) (fun c_0 => absurd (show (0 : Int32) = (0 : Int32) from (by decide)) c_0) (fun c_1 => ?_)
    refine lv_aload_n hx hb dX2_has_4 rfl (lv_at hl 0 rfl) ?_
    refine va_get (D := (dC, dI)) (ci := 2) (v := .ref c1) (C := RX2) (T := TX2) (N := 8) hx hb hts inX2_has_X2 hown hK hP 0 rfl rfl 0 (by decide) (hts (.fieldLink RX2 9 "QueueHallModel" "hall" "[I") (List.mem_of_getElem? (i := 1) (by decide +kernel))) (fun _ h9 => h9) rfl dX2_has_5 ?_
    refine lv_goto (tgt := 27) hx hb dX2_has_8 (by decide) ?_
    refine lv_astore_n (lv' := [(3, .ref c1), (0, .ref m0), (1, .int 0), (2, .int p1)]) hx hb dX2_has_27 rfl hl (by decide) rfl (fun ls hl => ?_)
    refine lv_aload_n hx hb dX2_has_28 rfl (lv_at hl 0 rfl) ?_
    refine lv_aload_n hx hb dX2_has_29 rfl (lv_at hl 1 rfl) ?_
    refine lv_iload_n hx hb dX2_has_30 rfl (lv_at hl 2 rfl) ?_
    have hPc := hP.sub (ws' := [(m0, .inr (2, [.ref c1, .ref c2, .ref c3, .int (nI nh), .int (nI nr), .int (nI nk), .int fi, .int me]))]) [0] rfl
    have hKc := hK.sub (tys' := []) [] rfl
    refine q_csiE (va_runV (As := [.int 0]) (rest := [.ref c1]) ⟨hx, hb, hml, hown, hts⟩ (c_Mod_many l dC dI m0 c1 c2 c3 nh nr nk fi me 0) (cwV 1 hts gX2_has_X2_many_v rfl rfl rfl (by decide +kernel) ⟨Nat.le_of_ble_eq_true rfl, Nat.le_of_ble_eq_true rfl⟩) ⟨q_blR, va_recv hKc hPc (ci := 2) (q0 := 0) rfl rfl, fun U hU hW => ⟨rfl, by rw [hU]; exact hPc, va_K.moved hW.alike hKc⟩⟩ rfl rfl hl.1 rfl (lv_room (Nat.le_of_ble_eq_true rfl)) dX2_has_31 ⟨Nat.le_of_ble_eq_true rfl, Nat.le_of_ble_eq_true rfl⟩) ?_
    refine q_top (y := nI nh) qMany_0 ?_
    refine lv_iload_n hx hb dX2_has_34 rfl (lv_at hl 3 rfl) ?_
    refine lv_iconst (v := 0) hx hb dX2_has_35 (by decide) ?_
    have hPc := hP.sub (ws' := [(c1, .inl (cA, 2000, .inl eh))]) [1] rfl
    have hKc := hK.sub (tys' := [(cA, .int)]) [0] rfl
    refine q_csiE (va_runS (As := [.ref c1, .int (nI nh), .int p1, .int 0]) (rest := []) ⟨hx, hb, hml, hown, hts⟩ (c_Mod_place l dC dI c1 nh cA eh gh p1 0 (by omega) ha1) (cwS 4 hts gX2_has_X2_place_v rfl rfl rfl (by decide +kernel) ⟨Nat.le_of_ble_eq_true rfl, Nat.le_of_ble_eq_true rfl⟩) ⟨q_blR, fun U hU hW => ⟨rfl, by rw [hU]; exact hPc, va_K.moved hW.alike hKc⟩⟩ rfl rfl hl.1 rfl (lv_room (Nat.le_of_ble_eq_true rfl)) dX2_has_36 ⟨Nat.le_of_ble_eq_true rfl, Nat.le_of_ble_eq_true rfl⟩) ?_
    refine lv_if_lt (tgt := 46) hx hb dX2_has_39 (by decide) (fun c_2 => ?_) (fun c_2 => ?_)
    · refine lv_iconst (v := 0) hx hb dX2_has_46 (by decide) ?_
      exact W.zret (v := 0) hx hb hr rfl (fun t ht hW => ⟨0, rfl, (by simp only [qHas, if_pos True.intro, qHasR, if_pos c_2]), ht⟩) (fun q h => by cases h) dX2_has_47
    · refine lv_iconst (v := 1) hx hb dX2_has_42 (by decide) ?_
      refine lv_goto (tgt := 47) hx hb dX2_has_43 (by decide) ?_
      exact W.zret (v := 1) hx hb hr rfl (fun t ht hW => ⟨1, rfl, (by simp only [qHas, if_pos True.intro, qHasR, if_neg c_2]), ht⟩) (fun q h => by cases h) dX2_has_47
  · refine lv_iload_n hx hb dX2_has_0 rfl (lv_at hl 1 rfl) ?_
    refine lv_if_ne (tgt := 11) hx hb dX2_has_1 (by decide) (fun c_3 => ?_) (fun c_0 => absurd c_0 (show ¬ (1 : Int32) = (0 : Int32) from (by decide)))
    refine lv_iload_n hx hb dX2_has_11 rfl (lv_at hl 1 rfl) ?_
    refine lv_iconst (v := 1) hx hb dX2_has_12 (by decide) ?_
    refine lv_icmp_ne (tgt := 23) hx hb dX2_has_13 (by decide) (fun c_0 => absurd (show (1 : Int32) = (1 : Int32) from (by decide)) c_0) (fun c_4 => ?_)
    refine lv_aload_n hx hb dX2_has_16 rfl (lv_at hl 0 rfl) ?_
    refine va_get (D := (dC, dI)) (ci := 2) (v := .ref c2) (C := RX2) (T := TX2) (N := 8) hx hb hts inX2_has_X2 hown hK hP 0 rfl rfl 1 (by decide) (hts (.fieldLink RX2 13 "QueueHallModel" "ring" "[I") (List.mem_of_getElem? (i := 2) (by decide +kernel))) (fun _ h9 => h9) rfl dX2_has_17 ?_
    refine lv_goto (tgt := 27) hx hb dX2_has_20 (by decide) ?_
    refine lv_astore_n (lv' := [(3, .ref c2), (0, .ref m0), (1, .int 1), (2, .int p1)]) hx hb dX2_has_27 rfl hl (by decide) rfl (fun ls hl => ?_)
    refine lv_aload_n hx hb dX2_has_28 rfl (lv_at hl 0 rfl) ?_
    refine lv_aload_n hx hb dX2_has_29 rfl (lv_at hl 1 rfl) ?_
    refine lv_iload_n hx hb dX2_has_30 rfl (lv_at hl 2 rfl) ?_
    have hPc := hP.sub (ws' := [(m0, .inr (2, [.ref c1, .ref c2, .ref c3, .int (nI nh), .int (nI nr), .int (nI nk), .int fi, .int me]))]) [0] rfl
    have hKc := hK.sub (tys' := []) [] rfl
    refine q_csiE (va_runV (As := [.int 1]) (rest := [.ref c2]) ⟨hx, hb, hml, hown, hts⟩ (c_Mod_many l dC dI m0 c1 c2 c3 nh nr nk fi me 1) (cwV 1 hts gX2_has_X2_many_v rfl rfl rfl (by decide +kernel) ⟨Nat.le_of_ble_eq_true rfl, Nat.le_of_ble_eq_true rfl⟩) ⟨q_blR, va_recv hKc hPc (ci := 2) (q0 := 0) rfl rfl, fun U hU hW => ⟨rfl, by rw [hU]; exact hPc, va_K.moved hW.alike hKc⟩⟩ rfl rfl hl.1 rfl (lv_room (Nat.le_of_ble_eq_true rfl)) dX2_has_31 ⟨Nat.le_of_ble_eq_true rfl, Nat.le_of_ble_eq_true rfl⟩) ?_
    refine q_top (y := nI nr) qMany_1 ?_
    refine lv_iload_n hx hb dX2_has_34 rfl (lv_at hl 3 rfl) ?_
    refine lv_iconst (v := 0) hx hb dX2_has_35 (by decide) ?_
    have hPc := hP.sub (ws' := [(c2, .inl (cA, 2000, .inl er))]) [2] rfl
    have hKc := hK.sub (tys' := [(cA, .int)]) [0] rfl
    refine q_csiE (va_runS (As := [.ref c2, .int (nI nr), .int p1, .int 0]) (rest := []) ⟨hx, hb, hml, hown, hts⟩ (c_Mod_place l dC dI c2 nr cA er gr p1 0 (by omega) ha2) (cwS 4 hts gX2_has_X2_place_v rfl rfl rfl (by decide +kernel) ⟨Nat.le_of_ble_eq_true rfl, Nat.le_of_ble_eq_true rfl⟩) ⟨q_blR, fun U hU hW => ⟨rfl, by rw [hU]; exact hPc, va_K.moved hW.alike hKc⟩⟩ rfl rfl hl.1 rfl (lv_room (Nat.le_of_ble_eq_true rfl)) dX2_has_36 ⟨Nat.le_of_ble_eq_true rfl, Nat.le_of_ble_eq_true rfl⟩) ?_
    refine lv_if_lt (tgt := 46) hx hb dX2_has_39 (by decide) (fun c_5 => ?_) (fun c_5 => ?_)
    · refine lv_iconst (v := 0) hx hb dX2_has_46 (by decide) ?_
      exact W.zret (v := 0) hx hb hr rfl (fun t ht hW => ⟨0, rfl, (by simp only [qHas, if_neg (show ¬ (1 : Int32) = 0 by decide), if_pos True.intro, qHasR, if_pos c_5]), ht⟩) (fun q h => by cases h) dX2_has_47
    · refine lv_iconst (v := 1) hx hb dX2_has_42 (by decide) ?_
      refine lv_goto (tgt := 47) hx hb dX2_has_43 (by decide) ?_
      exact W.zret (v := 1) hx hb hr rfl (fun t ht hW => ⟨1, rfl, (by simp only [qHas, if_neg (show ¬ (1 : Int32) = 0 by decide), if_pos True.intro, qHasR, if_neg c_5]), ht⟩) (fun q h => by cases h) dX2_has_47
  · refine lv_iload_n hx hb dX2_has_0 rfl (lv_at hl 1 rfl) ?_
    refine lv_if_ne (tgt := 11) hx hb dX2_has_1 (by decide) (fun c_6 => ?_) (fun c_0 => absurd c_0 (show ¬ (2 : Int32) = (0 : Int32) from (by decide)))
    refine lv_iload_n hx hb dX2_has_11 rfl (lv_at hl 1 rfl) ?_
    refine lv_iconst (v := 1) hx hb dX2_has_12 (by decide) ?_
    refine lv_icmp_ne (tgt := 23) hx hb dX2_has_13 (by decide) (fun c_7 => ?_) (fun c_0 => absurd c_0 (show ¬ (2 : Int32) = (1 : Int32) from (by decide)))
    refine lv_aload_n hx hb dX2_has_23 rfl (lv_at hl 0 rfl) ?_
    refine va_get (D := (dC, dI)) (ci := 2) (v := .ref c3) (C := RX2) (T := TX2) (N := 8) hx hb hts inX2_has_X2 hown hK hP 0 rfl rfl 2 (by decide) (hts (.fieldLink RX2 16 "QueueHallModel" "chain" "[I") (List.mem_of_getElem? (i := 3) (by decide +kernel))) (fun _ h9 => h9) rfl dX2_has_24 ?_
    refine lv_astore_n (lv' := [(3, .ref c3), (0, .ref m0), (1, .int 2), (2, .int p1)]) hx hb dX2_has_27 rfl hl (by decide) rfl (fun ls hl => ?_)
    refine lv_aload_n hx hb dX2_has_28 rfl (lv_at hl 0 rfl) ?_
    refine lv_aload_n hx hb dX2_has_29 rfl (lv_at hl 1 rfl) ?_
    refine lv_iload_n hx hb dX2_has_30 rfl (lv_at hl 2 rfl) ?_
    have hPc := hP.sub (ws' := [(m0, .inr (2, [.ref c1, .ref c2, .ref c3, .int (nI nh), .int (nI nr), .int (nI nk), .int fi, .int me]))]) [0] rfl
    have hKc := hK.sub (tys' := []) [] rfl
    refine q_csiE (va_runV (As := [.int 2]) (rest := [.ref c3]) ⟨hx, hb, hml, hown, hts⟩ (c_Mod_many l dC dI m0 c1 c2 c3 nh nr nk fi me 2) (cwV 1 hts gX2_has_X2_many_v rfl rfl rfl (by decide +kernel) ⟨Nat.le_of_ble_eq_true rfl, Nat.le_of_ble_eq_true rfl⟩) ⟨q_blR, va_recv hKc hPc (ci := 2) (q0 := 0) rfl rfl, fun U hU hW => ⟨rfl, by rw [hU]; exact hPc, va_K.moved hW.alike hKc⟩⟩ rfl rfl hl.1 rfl (lv_room (Nat.le_of_ble_eq_true rfl)) dX2_has_31 ⟨Nat.le_of_ble_eq_true rfl, Nat.le_of_ble_eq_true rfl⟩) ?_
    refine q_top (y := nI nk) qMany_2 ?_
    refine lv_iload_n hx hb dX2_has_34 rfl (lv_at hl 3 rfl) ?_
    refine lv_iconst (v := 0) hx hb dX2_has_35 (by decide) ?_
    have hPc := hP.sub (ws' := [(c3, .inl (cA, 2000, .inl ek))]) [3] rfl
    have hKc := hK.sub (tys' := [(cA, .int)]) [0] rfl
    refine q_csiE (va_runS (As := [.ref c3, .int (nI nk), .int p1, .int 0]) (rest := []) ⟨hx, hb, hml, hown, hts⟩ (c_Mod_place l dC dI c3 nk cA ek gk p1 0 (by omega) ha3) (cwS 4 hts gX2_has_X2_place_v rfl rfl rfl (by decide +kernel) ⟨Nat.le_of_ble_eq_true rfl, Nat.le_of_ble_eq_true rfl⟩) ⟨q_blR, fun U hU hW => ⟨rfl, by rw [hU]; exact hPc, va_K.moved hW.alike hKc⟩⟩ rfl rfl hl.1 rfl (lv_room (Nat.le_of_ble_eq_true rfl)) dX2_has_36 ⟨Nat.le_of_ble_eq_true rfl, Nat.le_of_ble_eq_true rfl⟩) ?_
    refine lv_if_lt (tgt := 46) hx hb dX2_has_39 (by decide) (fun c_8 => ?_) (fun c_8 => ?_)
    · refine lv_iconst (v := 0) hx hb dX2_has_46 (by decide) ?_
      exact W.zret (v := 0) hx hb hr rfl (fun t ht hW => ⟨0, rfl, (by simp only [qHas, if_neg (show ¬ (2 : Int32) = 0 by decide), if_neg (show ¬ (2 : Int32) = 1 by decide), if_pos True.intro, qHasR, if_pos c_8]), ht⟩) (fun q h => by cases h) dX2_has_47
    · refine lv_iconst (v := 1) hx hb dX2_has_42 (by decide) ?_
      refine lv_goto (tgt := 47) hx hb dX2_has_43 (by decide) ?_
      exact W.zret (v := 1) hx hb hr rfl (fun t ht hW => ⟨1, rfl, (by simp only [qHas, if_neg (show ¬ (2 : Int32) = 0 by decide), if_neg (show ¬ (2 : Int32) = 1 by decide), if_pos True.intro, qHasR, if_neg c_8]), ht⟩) (fun q h => by cases h) dX2_has_47
  · refine lv_iload_n hx hb dX2_has_0 rfl (lv_at hl 1 rfl) ?_
    refine lv_if_ne (tgt := 11) hx hb dX2_has_1 (by decide) (fun c_9 => ?_) (fun c_0 => absurd c_0 (show ¬ p0 = (0 : Int32) from w0))
    refine lv_iload_n hx hb dX2_has_11 rfl (lv_at hl 1 rfl) ?_
    refine lv_iconst (v := 1) hx hb dX2_has_12 (by decide) ?_
    refine lv_icmp_ne (tgt := 23) hx hb dX2_has_13 (by decide) (fun c_10 => ?_) (fun c_0 => absurd c_0 (show ¬ p0 = (1 : Int32) from w1))
    refine lv_aload_n hx hb dX2_has_23 rfl (lv_at hl 0 rfl) ?_
    refine va_get (D := (dC, dI)) (ci := 2) (v := .ref c3) (C := RX2) (T := TX2) (N := 8) hx hb hts inX2_has_X2 hown hK hP 0 rfl rfl 2 (by decide) (hts (.fieldLink RX2 16 "QueueHallModel" "chain" "[I") (List.mem_of_getElem? (i := 3) (by decide +kernel))) (fun _ h9 => h9) rfl dX2_has_24 ?_
    refine lv_astore_n (lv' := [(3, .ref c3), (0, .ref m0), (1, .int p0), (2, .int p1)]) hx hb dX2_has_27 rfl hl (by decide) rfl (fun ls hl => ?_)
    refine lv_aload_n hx hb dX2_has_28 rfl (lv_at hl 0 rfl) ?_
    refine lv_aload_n hx hb dX2_has_29 rfl (lv_at hl 1 rfl) ?_
    refine lv_iload_n hx hb dX2_has_30 rfl (lv_at hl 2 rfl) ?_
    have hPc := hP.sub (ws' := [(m0, .inr (2, [.ref c1, .ref c2, .ref c3, .int (nI nh), .int (nI nr), .int (nI nk), .int fi, .int me]))]) [0] rfl
    have hKc := hK.sub (tys' := []) [] rfl
    refine q_csiE (va_runV (As := [.int p0]) (rest := [.ref c3]) ⟨hx, hb, hml, hown, hts⟩ (c_Mod_many l dC dI m0 c1 c2 c3 nh nr nk fi me p0) (cwV 1 hts gX2_has_X2_many_v rfl rfl rfl (by decide +kernel) ⟨Nat.le_of_ble_eq_true rfl, Nat.le_of_ble_eq_true rfl⟩) ⟨q_blR, va_recv hKc hPc (ci := 2) (q0 := 0) rfl rfl, fun U hU hW => ⟨rfl, by rw [hU]; exact hPc, va_K.moved hW.alike hKc⟩⟩ rfl rfl hl.1 rfl (lv_room (Nat.le_of_ble_eq_true rfl)) dX2_has_31 ⟨Nat.le_of_ble_eq_true rfl, Nat.le_of_ble_eq_true rfl⟩) ?_
    refine q_top (y := -1) (qMany_n w0 w1 w2) ?_
    refine lv_iload_n hx hb dX2_has_34 rfl (lv_at hl 3 rfl) ?_
    refine lv_iconst (v := 0) hx hb dX2_has_35 (by decide) ?_
    have hPc := hP.sub (ws' := [(c3, .inl (cA, 2000, .inl ek))]) [3] rfl
    have hKc := hK.sub (tys' := [(cA, .int)]) [0] rfl
    refine q_csiE (va_runS (As := [.ref c3, .int (-1), .int p1, .int 0]) (rest := []) ⟨hx, hb, hml, hown, hts⟩ (c_Mod_place_n l dC dI c3 cA ek p1 0) (cwS 4 hts gX2_has_X2_place_v rfl rfl rfl (by decide +kernel) ⟨Nat.le_of_ble_eq_true rfl, Nat.le_of_ble_eq_true rfl⟩) ⟨q_blR, fun U hU hW => ⟨rfl, by rw [hU]; exact hPc, va_K.moved hW.alike hKc⟩⟩ rfl rfl hl.1 rfl (lv_room (Nat.le_of_ble_eq_true rfl)) dX2_has_36 ⟨Nat.le_of_ble_eq_true rfl, Nat.le_of_ble_eq_true rfl⟩) ?_
    refine lv_if_lt (tgt := 46) hx hb dX2_has_39 (by decide) (fun c_11 => ?_) (fun c_0 => absurd (show (-1 : Int32) < (0 : Int32) from (by decide)) c_0)
    refine lv_iconst (v := 0) hx hb dX2_has_46 (by decide) ?_
    exact W.zret (v := 0) hx hb hr rfl (fun t ht hW => ⟨0, rfl, (by simp only [qHas, if_neg w0, if_neg w1, if_neg w2]), ht⟩) (fun q h => by cases h) dX2_has_47

set_option maxHeartbeats 4000000 in
set_option maxRecDepth 100000 in
theorem c_Mod_size (l : Launch) (dC : Nat → ClassId) (dI : Nat → Nat → Nat) (m0 c1 c2 c3 nh nr nk : Nat) (cA : ClassId) (eh gh er gr ek gk : Nat → Int32) (fi me : Int32) (p0 : Int32) (hn : nh + nr + nk < 2000) (ha1 : qAg nh eh gh) (ha2 : qAg nr er gr) (ha3 : qAg nk ek gk) (hF : qFok fi me nk) : Met l yX2_size wsX2_size ({ frames := 1, cells := 0, slots := 0, locals := 25 }) (va_Pc [.ref m0, .int p0] (fun U => va_P (dC, dI) vwCl [(m0, .inr (2, [.ref c1, .ref c2, .ref c3, .int (nI nh), .int (nI nr), .int (nI nk), .int fi, .int me])), (c1, .inl (cA, 2000, .inl eh)), (c2, .inl (cA, 2000, .inl er)), (c3, .inl (cA, 2000, .inl ek))] U.heap ∧ va_K (dC, dI) vwCl [(cA, .int)] U)) (vp_Si (fun r => r = (qSize p0 ((gh, nh), (gr, nr), (gk, nk), fi, me)).1)) 0 0 (fun _ => False) := by
  refine Met.ofW (cc := cX2_size) (maxL := 2) (ret := (some .int)) (by decide +kernel) rfl ?_
  intro p e s m args below meth c s₁ B hml hv
  obtain ⟨rfl, hP, hK⟩ := hv
  have hx := B.exec
  have hb := B.bytes
  have hr := B.returns
  have hts := atoms_spec (ws := wsX2_size) B.pre
  have hown : s.vm.findClass RX2 = some m.cls := findClass_of_methodNamed B.named
  have hlocks := B.notSynchronized
  have hl := lv_entry ([.ref m0, .int p0]) (n := 2) (Nat.le_of_ble_eq_true rfl)
  rw [lg_entry_eq]
  generalize (lg_sl ([.ref m0, .int p0]) ++ List.replicate (2 - (lg_sl ([.ref m0, .int p0])).length) Slot.unset).toArray = ls at hl ⊢
  have hl : lv_has ls 2 [(0, .ref m0), (1, .int p0)] := hl
  refine lv_aload_n hx hb dX2_size_0 rfl (lv_at hl 0 rfl) ?_
  refine lv_iload_n hx hb dX2_size_1 rfl (lv_at hl 1 rfl) ?_
  have hPc := hP.sub (ws' := [(m0, .inr (2, [.ref c1, .ref c2, .ref c3, .int (nI nh), .int (nI nr), .int (nI nk), .int fi, .int me]))]) [0] rfl
  have hKc := hK.sub (tys' := []) [] rfl
  refine q_csiE (va_runV (As := [.int p0]) (rest := []) ⟨hx, hb, hml, hown, hts⟩ (c_Mod_many l dC dI m0 c1 c2 c3 nh nr nk fi me p0) (cwV 1 hts gX2_size_X2_many_v rfl rfl rfl (by decide +kernel) ⟨Nat.le_of_ble_eq_true rfl, Nat.le_of_ble_eq_true rfl⟩) ⟨q_blR, va_recv hKc hPc (ci := 2) (q0 := 0) rfl rfl, fun U hU hW => ⟨rfl, by rw [hU]; exact hPc, va_K.moved hW.alike hKc⟩⟩ rfl rfl hl.1 rfl (lv_room (Nat.le_of_ble_eq_true rfl)) dX2_size_2 ⟨Nat.le_of_ble_eq_true rfl, Nat.le_of_ble_eq_true rfl⟩) ?_
  exact W.iret (v := qMany nh nr nk p0) hx hb hr (fun t ht hW => ⟨qMany nh nr nk p0, rfl, rfl, ht⟩) (fun q h => by cases h) dX2_size_5

set_option maxHeartbeats 4000000 in
set_option maxRecDepth 100000 in
theorem c_Mod_clear (l : Launch) (dC : Nat → ClassId) (dI : Nat → Nat → Nat) (sz : Nat) (m0 c1 c2 c3 nh nr nk : Nat) (cA : ClassId) (eh gh er gr ek gk : Nat → Int32) (fi me : Int32) (p0 : Int32) (hn : nh + nr + nk < 2000) (ha1 : qAg nh eh gh) (ha2 : qAg nr er gr) (ha3 : qAg nk ek gk) (hF : qFok fi me nk) : Met l yX2_clear wsX2_clear ({ frames := 1, cells := 0, slots := 0, locals := 25 }) (va_Pc [.ref m0, .int p0] (fun U => U.heap.size = sz ∧ va_P (dC, dI) vwCl [(m0, .inr (2, [.ref c1, .ref c2, .ref c3, .int (nI nh), .int (nI nr), .int (nI nk), .int fi, .int me])), (c1, .inl (cA, 2000, .inl eh)), (c2, .inl (cA, 2000, .inl er)), (c3, .inl (cA, 2000, .inl ek))] U.heap ∧ va_K (dC, dI) vwCl [(cA, .int)] U ∧ va_D (fun _ => True) [(m0, .inr (2, [.ref c1, .ref c2, .ref c3, .int (nI nh), .int (nI nr), .int (nI nk), .int fi, .int me])), (c1, .inl (cA, 2000, .inl eh)), (c2, .inl (cA, 2000, .inl er)), (c3, .inl (cA, 2000, .inl ek))])) (va_Qi (fun (r : Int32) (u : qS) => (r, u) = qClear p0 ((gh, nh), (gr, nr), (gk, nk), fi, me)) (at_M dC dI (va_A [(m0, .inr (2, [.ref c1, .ref c2, .ref c3, .int (nI nh), .int (nI nr), .int (nI nk), .int fi, .int me])), (c1, .inl (cA, 2000, .inl eh)), (c2, .inl (cA, 2000, .inl er)), (c3, .inl (cA, 2000, .inl ek))] sz) m0 c1 c2 c3 cA) (va_A [(m0, .inr (2, [.ref c1, .ref c2, .ref c3, .int (nI nh), .int (nI nr), .int (nI nk), .int fi, .int me])), (c1, .inl (cA, 2000, .inl eh)), (c2, .inl (cA, 2000, .inl er)), (c3, .inl (cA, 2000, .inl ek))] sz)) 0 0 (va_A [(m0, .inr (2, [.ref c1, .ref c2, .ref c3, .int (nI nh), .int (nI nr), .int (nI nk), .int fi, .int me])), (c1, .inl (cA, 2000, .inl eh)), (c2, .inl (cA, 2000, .inl er)), (c3, .inl (cA, 2000, .inl ek))] sz) := by
  refine Met.ofW (cc := cX2_clear) (maxL := 3) (ret := (some .int)) (by decide +kernel) rfl ?_
  intro p e s m args below meth c s₁ B hml hv
  obtain ⟨rfl, hsz, hP, hK, hD0⟩ := hv
  have hx := B.exec
  have hb := B.bytes
  have hr := B.returns
  have hts := atoms_spec (ws := wsX2_clear) B.pre
  have hown : s.vm.findClass RX2 = some m.cls := findClass_of_methodNamed B.named
  have hlocks := B.notSynchronized
  subst hsz
  have hD := hD0.self (sz := s.heap.size)
  generalize hAe : va_A [(m0, .inr (2, [.ref c1, .ref c2, .ref c3, .int (nI nh), .int (nI nr), .int (nI nk), .int fi, .int me])), (c1, .inl (cA, 2000, .inl eh)), (c2, .inl (cA, 2000, .inl er)), (c3, .inl (cA, 2000, .inl ek))] s.heap.size = A at hD ⊢
  have hA : ∀ q : Nat, s.heap.size ≤ q → A q := fun q h => by rw [← hAe]; exact Or.inr h
  have hS : va_S A s.heap s.heap [] := va_S.rf
  have hl := lv_entry ([.ref m0, .int p0]) (n := 3) (Nat.le_of_ble_eq_true rfl)
  rw [lg_entry_eq]
  generalize (lg_sl ([.ref m0, .int p0]) ++ List.replicate (3 - (lg_sl ([.ref m0, .int p0])).length) Slot.unset).toArray = ls at hl ⊢
  have hl : lv_has ls 3 [(0, .ref m0), (1, .int p0)] := hl
  rcases q_w p0 with rfl | rfl | rfl | ⟨w0, w1, w2⟩
  · refine lv_aload_n hx hb dX2_clear_0 rfl (lv_at hl 0 rfl) ?_
    refine lv_iload_n hx hb dX2_clear_1 rfl (lv_at hl 1 rfl) ?_
    have hPc := hP.sub (ws' := [(m0, .inr (2, [.ref c1, .ref c2, .ref c3, .int (nI nh), .int (nI nr), .int (nI nk), .int fi, .int me]))]) [0] rfl
    have hKc := hK.sub (tys' := []) [] rfl
    refine q_csiE (va_runV (As := [.int 0]) (rest := []) ⟨hx, hb, hml, hown, hts⟩ (c_Mod_many l dC dI m0 c1 c2 c3 nh nr nk fi me 0) (cwV 1 hts gX2_clear_X2_many_v rfl rfl rfl (by decide +kernel) ⟨Nat.le_of_ble_eq_true rfl, Nat.le_of_ble_eq_true rfl⟩) ⟨q_blR, va_recv hKc hPc (ci := 2) (q0 := 0) rfl rfl, fun U hU hW => ⟨rfl, by rw [hU]; exact hPc, va_K.moved hW.alike hKc⟩⟩ rfl rfl hl.1 rfl (lv_room (Nat.le_of_ble_eq_true rfl)) dX2_clear_2 ⟨Nat.le_of_ble_eq_true rfl, Nat.le_of_ble_eq_true rfl⟩) ?_
    refine q_top (y := nI nh) qMany_0 ?_
    refine lv_istore_n (lv' := [(2, .int (nI nh)), (0, .ref m0), (1, .int 0)]) hx hb dX2_clear_5 rfl hl (by decide) rfl (fun ls hl => ?_)
    refine lv_iload_n hx hb dX2_clear_6 rfl (lv_at hl 2 rfl) ?_
    refine lv_if_ne (tgt := 15) hx hb dX2_clear_7 (by decide) (fun c_0 => absurd (show (0 : Int32) = (0 : Int32) from (by decide)) c_0) (fun c_1 => ?_)
    refine lv_aload_n hx hb dX2_clear_10 rfl (lv_at hl 1 rfl) ?_
    refine lv_iconst (v := nI 0) hx hb dX2_clear_11 (by decide) ?_
    refine va_put (D := (dC, dI)) (ci := 2) (v := .int (nI 0)) (ty := .int) (C := RX2) (T := TX2) (N := 8) hx hb hts inX2_clear_X2 tyX2 tyX2_ok nmX2 hown hK hP hD hS 0 rfl rfl 3 (by decide) (hts (.fieldLink RX2 26 "QueueHallModel" "halls" "I") (List.mem_of_getElem? (i := 6) (by decide +kernel))) (fun _ h9 => h9) rfl (by decide +kernel) rfl rfl (Nat.le_of_ble_eq_true rfl) dX2_clear_12 (fun H locs hP hD hS => ?_)
    have hP : va_P (dC, dI) vwCl [(m0, .inr (2, [.ref c1, .ref c2, .ref c3, .int (nI 0), .int (nI nr), .int (nI nk), .int fi, .int me])), (c1, .inl (cA, 2000, .inl eh)), (c2, .inl (cA, 2000, .inl er)), (c3, .inl (cA, 2000, .inl ek))] H := hP
    have hD : va_D A [(m0, .inr (2, [.ref c1, .ref c2, .ref c3, .int (nI 0), .int (nI nr), .int (nI nk), .int fi, .int me])), (c1, .inl (cA, 2000, .inl eh)), (c2, .inl (cA, 2000, .inl er)), (c3, .inl (cA, 2000, .inl ek))] := hD
    refine lv_iload_n hx hb dX2_clear_15 rfl (lv_at hl 2 rfl) ?_
    refine lv_iconst (v := 1) hx hb dX2_clear_16 (by decide) ?_
    refine lv_icmp_ne (tgt := 25) hx hb dX2_clear_17 (by decide) (fun c_2 => ?_) (fun c_0 => absurd c_0 (show ¬ (0 : Int32) = (1 : Int32) from (by decide)))
    refine lv_iload_n hx hb dX2_clear_25 rfl (lv_at hl 2 rfl) ?_
    refine lv_iconst (v := 2) hx hb dX2_clear_26 (by decide) ?_
    refine lv_icmp_ne (tgt := 43) hx hb dX2_clear_27 (by decide) (fun c_3 => ?_) (fun c_0 => absurd c_0 (show ¬ (0 : Int32) = (2 : Int32) from (by decide)))
    refine lv_iload_n hx hb dX2_clear_43 rfl (lv_at hl 0 rfl) ?_
    exact W.iret (v := nI nh) hx hb hr (fun t ht hW => ⟨⟨nI nh, ((gh, 0), (gr, nr), (gk, nk), fi, me), rfl, (by simp only [qClear, if_pos True.intro]), eh, er, ek, qAg_0, ha2, ha3, by rw [ht]; exact hP, va_K.moved hW.alike hK, hD⟩, hS.F ht⟩) hS.2.2 dX2_clear_44
  · refine lv_aload_n hx hb dX2_clear_0 rfl (lv_at hl 0 rfl) ?_
    refine lv_iload_n hx hb dX2_clear_1 rfl (lv_at hl 1 rfl) ?_
    have hPc := hP.sub (ws' := [(m0, .inr (2, [.ref c1, .ref c2, .ref c3, .int (nI nh), .int (nI nr), .int (nI nk), .int fi, .int me]))]) [0] rfl
    have hKc := hK.sub (tys' := []) [] rfl
    refine q_csiE (va_runV (As := [.int 1]) (rest := []) ⟨hx, hb, hml, hown, hts⟩ (c_Mod_many l dC dI m0 c1 c2 c3 nh nr nk fi me 1) (cwV 1 hts gX2_clear_X2_many_v rfl rfl rfl (by decide +kernel) ⟨Nat.le_of_ble_eq_true rfl, Nat.le_of_ble_eq_true rfl⟩) ⟨q_blR, va_recv hKc hPc (ci := 2) (q0 := 0) rfl rfl, fun U hU hW => ⟨rfl, by rw [hU]; exact hPc, va_K.moved hW.alike hKc⟩⟩ rfl rfl hl.1 rfl (lv_room (Nat.le_of_ble_eq_true rfl)) dX2_clear_2 ⟨Nat.le_of_ble_eq_true rfl, Nat.le_of_ble_eq_true rfl⟩) ?_
    refine q_top (y := nI nr) qMany_1 ?_
    refine lv_istore_n (lv' := [(2, .int (nI nr)), (0, .ref m0), (1, .int 1)]) hx hb dX2_clear_5 rfl hl (by decide) rfl (fun ls hl => ?_)
    refine lv_iload_n hx hb dX2_clear_6 rfl (lv_at hl 2 rfl) ?_
    refine lv_if_ne (tgt := 15) hx hb dX2_clear_7 (by decide) (fun c_4 => ?_) (fun c_0 => absurd c_0 (show ¬ (1 : Int32) = (0 : Int32) from (by decide)))
    refine lv_iload_n hx hb dX2_clear_15 rfl (lv_at hl 2 rfl) ?_
    refine lv_iconst (v := 1) hx hb dX2_clear_16 (by decide) ?_
    refine lv_icmp_ne (tgt := 25) hx hb dX2_clear_17 (by decide) (fun c_0 => absurd (show (1 : Int32) = (1 : Int32) from (by decide)) c_0) (fun c_5 => ?_)
    refine lv_aload_n hx hb dX2_clear_20 rfl (lv_at hl 1 rfl) ?_
    refine lv_iconst (v := nI 0) hx hb dX2_clear_21 (by decide) ?_
    refine va_put (D := (dC, dI)) (ci := 2) (v := .int (nI 0)) (ty := .int) (C := RX2) (T := TX2) (N := 8) hx hb hts inX2_clear_X2 tyX2 tyX2_ok nmX2 hown hK hP hD hS 0 rfl rfl 4 (by decide) (hts (.fieldLink RX2 29 "QueueHallModel" "rings" "I") (List.mem_of_getElem? (i := 7) (by decide +kernel))) (fun _ h9 => h9) rfl (by decide +kernel) rfl rfl (Nat.le_of_ble_eq_true rfl) dX2_clear_22 (fun H locs hP hD hS => ?_)
    have hP : va_P (dC, dI) vwCl [(m0, .inr (2, [.ref c1, .ref c2, .ref c3, .int (nI nh), .int (nI 0), .int (nI nk), .int fi, .int me])), (c1, .inl (cA, 2000, .inl eh)), (c2, .inl (cA, 2000, .inl er)), (c3, .inl (cA, 2000, .inl ek))] H := hP
    have hD : va_D A [(m0, .inr (2, [.ref c1, .ref c2, .ref c3, .int (nI nh), .int (nI 0), .int (nI nk), .int fi, .int me])), (c1, .inl (cA, 2000, .inl eh)), (c2, .inl (cA, 2000, .inl er)), (c3, .inl (cA, 2000, .inl ek))] := hD
    refine lv_iload_n hx hb dX2_clear_25 rfl (lv_at hl 2 rfl) ?_
    refine lv_iconst (v := 2) hx hb dX2_clear_26 (by decide) ?_
    refine lv_icmp_ne (tgt := 43) hx hb dX2_clear_27 (by decide) (fun c_6 => ?_) (fun c_0 => absurd c_0 (show ¬ (1 : Int32) = (2 : Int32) from (by decide)))
    refine lv_iload_n hx hb dX2_clear_43 rfl (lv_at hl 0 rfl) ?_
    exact W.iret (v := nI nr) hx hb hr (fun t ht hW => ⟨⟨nI nr, ((gh, nh), (gr, 0), (gk, nk), fi, me), rfl, (by simp only [qClear, if_neg (show ¬ (1 : Int32) = 0 by decide), if_pos True.intro]), eh, er, ek, ha1, qAg_0, ha3, by rw [ht]; exact hP, va_K.moved hW.alike hK, hD⟩, hS.F ht⟩) hS.2.2 dX2_clear_44
  · refine lv_aload_n hx hb dX2_clear_0 rfl (lv_at hl 0 rfl) ?_
    refine lv_iload_n hx hb dX2_clear_1 rfl (lv_at hl 1 rfl) ?_
    have hPc := hP.sub (ws' := [(m0, .inr (2, [.ref c1, .ref c2, .ref c3, .int (nI nh), .int (nI nr), .int (nI nk), .int fi, .int me]))]) [0] rfl
    have hKc := hK.sub (tys' := []) [] rfl
    refine q_csiE (va_runV (As := [.int 2]) (rest := []) ⟨hx, hb, hml, hown, hts⟩ (c_Mod_many l dC dI m0 c1 c2 c3 nh nr nk fi me 2) (cwV 1 hts gX2_clear_X2_many_v rfl rfl rfl (by decide +kernel) ⟨Nat.le_of_ble_eq_true rfl, Nat.le_of_ble_eq_true rfl⟩) ⟨q_blR, va_recv hKc hPc (ci := 2) (q0 := 0) rfl rfl, fun U hU hW => ⟨rfl, by rw [hU]; exact hPc, va_K.moved hW.alike hKc⟩⟩ rfl rfl hl.1 rfl (lv_room (Nat.le_of_ble_eq_true rfl)) dX2_clear_2 ⟨Nat.le_of_ble_eq_true rfl, Nat.le_of_ble_eq_true rfl⟩) ?_
    refine q_top (y := nI nk) qMany_2 ?_
    refine lv_istore_n (lv' := [(2, .int (nI nk)), (0, .ref m0), (1, .int 2)]) hx hb dX2_clear_5 rfl hl (by decide) rfl (fun ls hl => ?_)
    refine lv_iload_n hx hb dX2_clear_6 rfl (lv_at hl 2 rfl) ?_
    refine lv_if_ne (tgt := 15) hx hb dX2_clear_7 (by decide) (fun c_7 => ?_) (fun c_0 => absurd c_0 (show ¬ (2 : Int32) = (0 : Int32) from (by decide)))
    refine lv_iload_n hx hb dX2_clear_15 rfl (lv_at hl 2 rfl) ?_
    refine lv_iconst (v := 1) hx hb dX2_clear_16 (by decide) ?_
    refine lv_icmp_ne (tgt := 25) hx hb dX2_clear_17 (by decide) (fun c_8 => ?_) (fun c_0 => absurd c_0 (show ¬ (2 : Int32) = (1 : Int32) from (by decide)))
    refine lv_iload_n hx hb dX2_clear_25 rfl (lv_at hl 2 rfl) ?_
    refine lv_iconst (v := 2) hx hb dX2_clear_26 (by decide) ?_
    refine lv_icmp_ne (tgt := 43) hx hb dX2_clear_27 (by decide) (fun c_0 => absurd (show (2 : Int32) = (2 : Int32) from (by decide)) c_0) (fun c_9 => ?_)
    refine lv_iload_n hx hb dX2_clear_30 rfl (lv_at hl 0 rfl) ?_
    refine lv_if_le (tgt := 38) hx hb dX2_clear_31 (by decide) (fun c_10 => ?_) (fun c_10 => ?_)
    · have k_10 : nk ≤ 0 := by
        simp (disch := omega) only [ti_lt, ti_le, ti_eq, ti_0, ti_1, ti_2, ti_m1, ti_100, ti_2000, nI_toInt] at c_10
        omega
      refine lv_aload_n hx hb dX2_clear_38 rfl (lv_at hl 1 rfl) ?_
      refine lv_iconst (v := nI 0) hx hb dX2_clear_39 (by decide) ?_
      refine va_put (D := (dC, dI)) (ci := 2) (v := .int (nI 0)) (ty := .int) (C := RX2) (T := TX2) (N := 8) hx hb hts inX2_clear_X2 tyX2 tyX2_ok nmX2 hown hK hP hD hS 0 rfl rfl 5 (by decide) (hts (.fieldLink RX2 32 "QueueHallModel" "chains" "I") (List.mem_of_getElem? (i := 8) (by decide +kernel))) (fun _ h9 => h9) rfl (by decide +kernel) rfl rfl (Nat.le_of_ble_eq_true rfl) dX2_clear_40 (fun H locs hP hD hS => ?_)
      have hP : va_P (dC, dI) vwCl [(m0, .inr (2, [.ref c1, .ref c2, .ref c3, .int (nI nh), .int (nI nr), .int (nI 0), .int fi, .int me])), (c1, .inl (cA, 2000, .inl eh)), (c2, .inl (cA, 2000, .inl er)), (c3, .inl (cA, 2000, .inl ek))] H := hP
      have hD : va_D A [(m0, .inr (2, [.ref c1, .ref c2, .ref c3, .int (nI nh), .int (nI nr), .int (nI 0), .int fi, .int me])), (c1, .inl (cA, 2000, .inl eh)), (c2, .inl (cA, 2000, .inl er)), (c3, .inl (cA, 2000, .inl ek))] := hD
      refine lv_iload_n hx hb dX2_clear_43 rfl (lv_at hl 0 rfl) ?_
      exact W.iret (v := nI nk) hx hb hr (fun t ht hW => ⟨⟨nI nk, ((gh, nh), (gr, nr), (gk, 0), fi, me), rfl, (by simp only [qClear, if_neg (show ¬ (2 : Int32) = 0 by decide), if_neg (show ¬ (2 : Int32) = 1 by decide), if_pos True.intro, if_neg (show ¬ 0 < nk by omega)]), eh, er, ek, ha1, ha2, qAg_0, by rw [ht]; exact hP, va_K.moved hW.alike hK, hD⟩, hS.F ht⟩) hS.2.2 dX2_clear_44
    · have k_10 : nk > 0 := by
        simp (disch := omega) only [ti_lt, ti_le, ti_eq, ti_0, ti_1, ti_2, ti_m1, ti_100, ti_2000, nI_toInt] at c_10
        omega
      refine lv_aload_n hx hb dX2_clear_34 rfl (lv_at hl 1 rfl) ?_
      have hPc := hP.sub (ws' := [(m0, .inr (2, [.ref c1, .ref c2, .ref c3, .int (nI nh), .int (nI nr), .int (nI nk), .int fi, .int me]))]) [0] rfl
      have hKc := hK.sub (tys' := []) [] rfl
      have hDc := hD.sub (ws' := [(m0, .inr (2, [.ref c1, .ref c2, .ref c3, .int (nI nh), .int (nI nr), .int (nI nk), .int fi, .int me]))]) [0] (by decide) rfl
      have hFc := va_free (wc := [(m0, .inr (2, [.ref c1, .ref c2, .ref c3, .int (nI nh), .int (nI nr), .int (nI nk), .int fi, .int me]))]) hD hS hA [0] rfl
      refine va_callv (va_runV (As := []) (rest := []) ⟨hx, hb, hml, hown, hts⟩ (c_Mod_lift l dC dI s.heap.size m0 c1 c2 c3 nh nr nk fi me) (cwV 0 hts gX2_clear_X2_lift_v rfl rfl rfl (by decide +kernel) ⟨Nat.le_of_ble_eq_true rfl, Nat.le_of_ble_eq_true rfl⟩) ⟨q_blW, va_recv hKc hPc (ci := 2) (q0 := 0) rfl rfl, fun U hU hW => ⟨rfl, by rw [hU], by rw [hU]; exact hPc, va_K.moved hW.alike hKc, hDc.weaken (fun _ _ _ _ => trivial)⟩⟩ rfl rfl hl.1 rfl (lv_room (Nat.le_of_ble_eq_true rfl)) dX2_clear_35 ⟨Nat.le_of_ble_eq_true rfl, Nat.le_of_ble_eq_true rfl⟩) hS (fun q _ h => hFc q h) hFc (fun u_11 t_11 H1 locs ht hvm hw hB hz1 hk1 hS => ?_)
      subst hw
      obtain ⟨hP1, hK1, hD1⟩ := hB
      rw [ht] at hP1
      obtain ⟨hP, hD⟩ := q_join (wr := [(c1, .inl (cA, 2000, .inl eh)), (c2, .inl (cA, 2000, .inl er)), (c3, .inl (cA, 2000, .inl ek))]) (w1 := [(m0, .inr (2, [.ref c1, .ref c2, .ref c3, .int (nI nh), .int (nI nr), .int (nI nk), .int (-1), .int (-1)]))]) (wz := [(m0, .inr (2, [.ref c1, .ref c2, .ref c3, .int (nI nh), .int (nI nr), .int (nI nk), .int (-1), .int (-1)])), (c1, .inl (cA, 2000, .inl eh)), (c2, .inl (cA, 2000, .inl er)), (c3, .inl (cA, 2000, .inl ek))]) hP hD [0] [1, 2, 3] [3, 0, 1, 2] rfl rfl (by decide) (by decide) hk1 hFc hP1 hD1 rfl rfl (by decide)
      generalize H1 = H at hP hS ⊢
      refine lv_aload_n hx hb dX2_clear_38 rfl (lv_at hl 1 rfl) ?_
      refine lv_iconst (v := nI 0) hx hb dX2_clear_39 (by decide) ?_
      refine va_put (D := (dC, dI)) (ci := 2) (v := .int (nI 0)) (ty := .int) (C := RX2) (T := TX2) (N := 8) hx hb hts inX2_clear_X2 tyX2 tyX2_ok nmX2 hown hK hP hD hS 0 rfl rfl 5 (by decide) (hts (.fieldLink RX2 32 "QueueHallModel" "chains" "I") (List.mem_of_getElem? (i := 8) (by decide +kernel))) (fun _ h9 => h9) rfl (by decide +kernel) rfl rfl (Nat.le_of_ble_eq_true rfl) dX2_clear_40 (fun H locs hP hD hS => ?_)
      have hP : va_P (dC, dI) vwCl [(m0, .inr (2, [.ref c1, .ref c2, .ref c3, .int (nI nh), .int (nI nr), .int (nI 0), .int (-1), .int (-1)])), (c1, .inl (cA, 2000, .inl eh)), (c2, .inl (cA, 2000, .inl er)), (c3, .inl (cA, 2000, .inl ek))] H := hP
      have hD : va_D A [(m0, .inr (2, [.ref c1, .ref c2, .ref c3, .int (nI nh), .int (nI nr), .int (nI 0), .int (-1), .int (-1)])), (c1, .inl (cA, 2000, .inl eh)), (c2, .inl (cA, 2000, .inl er)), (c3, .inl (cA, 2000, .inl ek))] := hD
      refine lv_iload_n hx hb dX2_clear_43 rfl (lv_at hl 0 rfl) ?_
      exact W.iret (v := nI nk) hx hb hr (fun t ht hW => ⟨⟨nI nk, ((gh, nh), (gr, nr), (gk, 0), -1, -1), rfl, (by simp only [qClear, if_neg (show ¬ (2 : Int32) = 0 by decide), if_neg (show ¬ (2 : Int32) = 1 by decide), if_pos True.intro, if_pos (show 0 < nk by omega)]), eh, er, ek, ha1, ha2, qAg_0, by rw [ht]; exact hP, va_K.moved hW.alike hK, hD⟩, hS.F ht⟩) hS.2.2 dX2_clear_44
  · refine lv_aload_n hx hb dX2_clear_0 rfl (lv_at hl 0 rfl) ?_
    refine lv_iload_n hx hb dX2_clear_1 rfl (lv_at hl 1 rfl) ?_
    have hPc := hP.sub (ws' := [(m0, .inr (2, [.ref c1, .ref c2, .ref c3, .int (nI nh), .int (nI nr), .int (nI nk), .int fi, .int me]))]) [0] rfl
    have hKc := hK.sub (tys' := []) [] rfl
    refine q_csiE (va_runV (As := [.int p0]) (rest := []) ⟨hx, hb, hml, hown, hts⟩ (c_Mod_many l dC dI m0 c1 c2 c3 nh nr nk fi me p0) (cwV 1 hts gX2_clear_X2_many_v rfl rfl rfl (by decide +kernel) ⟨Nat.le_of_ble_eq_true rfl, Nat.le_of_ble_eq_true rfl⟩) ⟨q_blR, va_recv hKc hPc (ci := 2) (q0 := 0) rfl rfl, fun U hU hW => ⟨rfl, by rw [hU]; exact hPc, va_K.moved hW.alike hKc⟩⟩ rfl rfl hl.1 rfl (lv_room (Nat.le_of_ble_eq_true rfl)) dX2_clear_2 ⟨Nat.le_of_ble_eq_true rfl, Nat.le_of_ble_eq_true rfl⟩) ?_
    refine q_top (y := -1) (qMany_n w0 w1 w2) ?_
    refine lv_istore_n (lv' := [(2, .int (-1)), (0, .ref m0), (1, .int p0)]) hx hb dX2_clear_5 rfl hl (by decide) rfl (fun ls hl => ?_)
    refine lv_iload_n hx hb dX2_clear_6 rfl (lv_at hl 2 rfl) ?_
    refine lv_if_ne (tgt := 15) hx hb dX2_clear_7 (by decide) (fun c_12 => ?_) (fun c_0 => absurd c_0 (show ¬ p0 = (0 : Int32) from w0))
    refine lv_iload_n hx hb dX2_clear_15 rfl (lv_at hl 2 rfl) ?_
    refine lv_iconst (v := 1) hx hb dX2_clear_16 (by decide) ?_
    refine lv_icmp_ne (tgt := 25) hx hb dX2_clear_17 (by decide) (fun c_13 => ?_) (fun c_0 => absurd c_0 (show ¬ p0 = (1 : Int32) from w1))
    refine lv_iload_n hx hb dX2_clear_25 rfl (lv_at hl 2 rfl) ?_
    refine lv_iconst (v := 2) hx hb dX2_clear_26 (by decide) ?_
    refine lv_icmp_ne (tgt := 43) hx hb dX2_clear_27 (by decide) (fun c_14 => ?_) (fun c_0 => absurd c_0 (show ¬ p0 = (2 : Int32) from w2))
    refine lv_iload_n hx hb dX2_clear_43 rfl (lv_at hl 0 rfl) ?_
    exact W.iret (v := -1) hx hb hr (fun t ht hW => ⟨⟨-1, ((gh, nh), (gr, nr), (gk, nk), fi, me), rfl, (by simp only [qClear, if_neg w0, if_neg w1, if_neg w2]), eh, er, ek, ha1, ha2, ha3, by rw [ht]; exact hP, va_K.moved hW.alike hK, hD⟩, hS.F ht⟩) hS.2.2 dX2_clear_44

set_option maxHeartbeats 4000000 in
set_option maxRecDepth 100000 in
theorem c_Mod_join (l : Launch) (dC : Nat → ClassId) (dI : Nat → Nat → Nat) (sz : Nat) (m0 c1 c2 c3 nh nr nk : Nat) (cA : ClassId) (eh gh er gr ek gk : Nat → Int32) (fi me : Int32) (p0 p1 : Int32) (hn : nh + nr + nk < 2000) (ha1 : qAg nh eh gh) (ha2 : qAg nr er gr) (ha3 : qAg nk ek gk) (hF : qFok fi me nk) : Met l yX2_join wsX2_join ({ frames := 1, cells := 0, slots := 0, locals := 25 }) (va_Pc [.ref m0, .int p0, .int p1] (fun U => U.heap.size = sz ∧ va_P (dC, dI) vwCl [(m0, .inr (2, [.ref c1, .ref c2, .ref c3, .int (nI nh), .int (nI nr), .int (nI nk), .int fi, .int me])), (c1, .inl (cA, 2000, .inl eh)), (c2, .inl (cA, 2000, .inl er)), (c3, .inl (cA, 2000, .inl ek))] U.heap ∧ va_K (dC, dI) vwCl [(cA, .int)] U ∧ va_D (fun _ => True) [(m0, .inr (2, [.ref c1, .ref c2, .ref c3, .int (nI nh), .int (nI nr), .int (nI nk), .int fi, .int me])), (c1, .inl (cA, 2000, .inl eh)), (c2, .inl (cA, 2000, .inl er)), (c3, .inl (cA, 2000, .inl ek))])) (va_Qi (fun (r : Int32) (u : qS) => (r, u) = qJoin p0 p1 ((gh, nh), (gr, nr), (gk, nk), fi, me)) (at_M dC dI (va_A [(m0, .inr (2, [.ref c1, .ref c2, .ref c3, .int (nI nh), .int (nI nr), .int (nI nk), .int fi, .int me])), (c1, .inl (cA, 2000, .inl eh)), (c2, .inl (cA, 2000, .inl er)), (c3, .inl (cA, 2000, .inl ek))] sz) m0 c1 c2 c3 cA) (va_A [(m0, .inr (2, [.ref c1, .ref c2, .ref c3, .int (nI nh), .int (nI nr), .int (nI nk), .int fi, .int me])), (c1, .inl (cA, 2000, .inl eh)), (c2, .inl (cA, 2000, .inl er)), (c3, .inl (cA, 2000, .inl ek))] sz)) 0 0 (va_A [(m0, .inr (2, [.ref c1, .ref c2, .ref c3, .int (nI nh), .int (nI nr), .int (nI nk), .int fi, .int me])), (c1, .inl (cA, 2000, .inl eh)), (c2, .inl (cA, 2000, .inl er)), (c3, .inl (cA, 2000, .inl ek))] sz) := by
  refine Met.ofW (cc := cX2_join) (maxL := 3) (ret := (some .int)) (by decide +kernel) rfl ?_
  intro p e s m args below meth c s₁ B hml hv
  obtain ⟨rfl, hsz, hP, hK, hD0⟩ := hv
  have hx := B.exec
  have hb := B.bytes
  have hr := B.returns
  have hts := atoms_spec (ws := wsX2_join) B.pre
  have hown : s.vm.findClass RX2 = some m.cls := findClass_of_methodNamed B.named
  have hlocks := B.notSynchronized
  subst hsz
  have hD := hD0.self (sz := s.heap.size)
  generalize hAe : va_A [(m0, .inr (2, [.ref c1, .ref c2, .ref c3, .int (nI nh), .int (nI nr), .int (nI nk), .int fi, .int me])), (c1, .inl (cA, 2000, .inl eh)), (c2, .inl (cA, 2000, .inl er)), (c3, .inl (cA, 2000, .inl ek))] s.heap.size = A at hD ⊢
  have hA : ∀ q : Nat, s.heap.size ≤ q → A q := fun q h => by rw [← hAe]; exact Or.inr h
  have hS : va_S A s.heap s.heap [] := va_S.rf
  have hl := lv_entry ([.ref m0, .int p0, .int p1]) (n := 3) (Nat.le_of_ble_eq_true rfl)
  rw [lg_entry_eq]
  generalize (lg_sl ([.ref m0, .int p0, .int p1]) ++ List.replicate (3 - (lg_sl ([.ref m0, .int p0, .int p1])).length) Slot.unset).toArray = ls at hl ⊢
  have hl : lv_has ls 3 [(0, .ref m0), (1, .int p0), (2, .int p1)] := hl
  by_cases hz : p1 = 0
  · refine lv_aload_n hx hb dX2_join_0 rfl (lv_at hl 0 rfl) ?_
    refine va_get (D := (dC, dI)) (ci := 2) (v := .int (nI nr)) (C := RX2) (T := TX2) (N := 8) hx hb hts inX2_join_X2 hown hK hP 0 rfl rfl 4 (by decide) (hts (.fieldLink RX2 29 "QueueHallModel" "rings" "I") (List.mem_of_getElem? (i := 1) (by decide +kernel))) (fun _ h9 => h9) rfl dX2_join_1 ?_
    refine lv_sipush (v := 2000) hx hb dX2_join_4 (by decide) ?_
    refine lv_icmp_ne (tgt := 13) hx hb dX2_join_7 (by decide) (fun c_1 => ?_) (fun c_0 => absurd c_0 (show ¬ (nI nr) = (2000 : Int32) from (by simp (disch := omega) only [ti_lt, ti_le, ti_eq, ti_0, ti_1, ti_2, ti_m1, ti_100, ti_2000, nI_toInt] <;> omega)))
    have k_1 : ¬ nr = 2000 := by
      simp (disch := omega) only [ti_lt, ti_le, ti_eq, ti_0, ti_1, ti_2, ti_m1, ti_100, ti_2000, nI_toInt] at c_1
      omega
    refine lv_aload_n hx hb dX2_join_13 rfl (lv_at hl 0 rfl) ?_
    refine va_get (D := (dC, dI)) (ci := 2) (v := .ref c2) (C := RX2) (T := TX2) (N := 8) hx hb hts inX2_join_X2 hown hK hP 0 rfl rfl 1 (by decide) (hts (.fieldLink RX2 13 "QueueHallModel" "ring" "[I") (List.mem_of_getElem? (i := 2) (by decide +kernel))) (fun _ h9 => h9) rfl dX2_join_14 ?_
    refine lv_aload_n hx hb dX2_join_17 rfl (lv_at hl 0 rfl) ?_
    refine va_get (D := (dC, dI)) (ci := 2) (v := .int (nI nr)) (C := RX2) (T := TX2) (N := 8) hx hb hts inX2_join_X2 hown hK hP 0 rfl rfl 4 (by decide) (hts (.fieldLink RX2 29 "QueueHallModel" "rings" "I") (List.mem_of_getElem? (i := 1) (by decide +kernel))) (fun _ h9 => h9) rfl dX2_join_18 ?_
    refine lv_iload_n hx hb dX2_join_21 rfl (lv_at hl 2 rfl) ?_
    refine lv_if_eq (tgt := 29) hx hb dX2_join_22 (by decide) (fun c_2 => ?_) (fun c_0 => absurd (show p1 = (0 : Int32) from hz) c_0)
    refine lv_aload_n hx hb dX2_join_29 rfl (lv_at hl 0 rfl) ?_
    refine va_get (D := (dC, dI)) (ci := 2) (v := .int (nI nr)) (C := RX2) (T := TX2) (N := 8) hx hb hts inX2_join_X2 hown hK hP 0 rfl rfl 4 (by decide) (hts (.fieldLink RX2 29 "QueueHallModel" "rings" "I") (List.mem_of_getElem? (i := 1) (by decide +kernel))) (fun _ h9 => h9) rfl dX2_join_30 ?_
    refine lv_iload_n hx hb dX2_join_33 rfl (lv_at hl 1 rfl) ?_
    have hPc := hP.sub (ws' := [(c2, .inl (cA, 2000, .inl er))]) [2] rfl
    have hKc := hK.sub (tys' := [(cA, .int)]) [0] rfl
    have hDc := hD.sub (ws' := [(c2, .inl (cA, 2000, .inl er))]) [2] (by decide) rfl
    have hFc := va_free (wc := [(c2, .inl (cA, 2000, .inl er))]) hD hS hA [2] rfl
    refine va_callv (va_runS (As := [.ref c2, .int (nI nr), .int (nI nr), .int p0]) (rest := []) ⟨hx, hb, hml, hown, hts⟩ (c_Mod_put l dC dI s.heap.size c2 nr nr cA er gr p0 (by omega) (by omega) ha2) (cwS 4 hts gX2_join_X2_put_v rfl rfl rfl (by decide +kernel) ⟨Nat.le_of_ble_eq_true rfl, Nat.le_of_ble_eq_true rfl⟩) ⟨q_blW, fun U hU hW => ⟨rfl, by rw [hU], by rw [hU]; exact hPc, va_K.moved hW.alike hKc, hDc.weaken (fun _ _ _ _ => trivial)⟩⟩ rfl rfl hl.1 rfl (lv_room (Nat.le_of_ble_eq_true rfl)) dX2_join_34 ⟨Nat.le_of_ble_eq_true rfl, Nat.le_of_ble_eq_true rfl⟩) hS (fun q _ h => hFc q h) hFc (fun u_3 t_3 H1 locs ht hvm hw hB hz1 hk1 hS => ?_)
    subst hw
    obtain ⟨f_3, hg_3, hP1, hK1, hD1⟩ := hB
    rw [ht] at hP1
    obtain ⟨hP, hD⟩ := q_join (wr := [(m0, .inr (2, [.ref c1, .ref c2, .ref c3, .int (nI nh), .int (nI nr), .int (nI nk), .int fi, .int me])), (c1, .inl (cA, 2000, .inl eh)), (c3, .inl (cA, 2000, .inl ek))]) (w1 := [(c2, .inl (cA, 2000, .inl f_3))]) (wz := [(m0, .inr (2, [.ref c1, .ref c2, .ref c3, .int (nI nh), .int (nI nr), .int (nI nk), .int fi, .int me])), (c1, .inl (cA, 2000, .inl eh)), (c2, .inl (cA, 2000, .inl f_3)), (c3, .inl (cA, 2000, .inl ek))]) hP hD [2] [0, 1, 3] [0, 1, 3, 2] rfl rfl (by decide) (by decide) hk1 hFc hP1 hD1 rfl rfl (by decide)
    generalize H1 = H at hP hS ⊢
    refine lv_aload_n hx hb dX2_join_37 rfl (lv_at hl 0 rfl) ?_
    refine lv_dup hx hb dX2_join_38 rfl ?_
    refine va_get (D := (dC, dI)) (ci := 2) (v := .int (nI nr)) (C := RX2) (T := TX2) (N := 8) hx hb hts inX2_join_X2 hown hK hP 0 rfl rfl 4 (by decide) (hts (.fieldLink RX2 29 "QueueHallModel" "rings" "I") (List.mem_of_getElem? (i := 1) (by decide +kernel))) (fun _ h9 => h9) rfl dX2_join_39 ?_
    refine lv_iconst (v := 1) hx hb dX2_join_42 (by decide) ?_
    refine lv_iadd hx hb dX2_join_43 ?_
    refine q_top (y := nI (nr + 1)) (nI_1 nr) ?_
    refine lv_dup_x1 hx hb dX2_join_44 rfl rfl ?_
    refine va_put (D := (dC, dI)) (ci := 2) (v := .int (nI (nr + 1))) (ty := .int) (C := RX2) (T := TX2) (N := 8) hx hb hts inX2_join_X2 tyX2 tyX2_ok nmX2 hown hK hP hD hS 0 rfl rfl 4 (by decide) (hts (.fieldLink RX2 29 "QueueHallModel" "rings" "I") (List.mem_of_getElem? (i := 1) (by decide +kernel))) (fun _ h9 => h9) rfl (by decide +kernel) rfl rfl (Nat.le_of_ble_eq_true rfl) dX2_join_45 (fun H locs hP hD hS => ?_)
    have hP : va_P (dC, dI) vwCl [(m0, .inr (2, [.ref c1, .ref c2, .ref c3, .int (nI nh), .int (nI (nr + 1)), .int (nI nk), .int fi, .int me])), (c1, .inl (cA, 2000, .inl eh)), (c2, .inl (cA, 2000, .inl f_3)), (c3, .inl (cA, 2000, .inl ek))] H := hP
    have hD : va_D A [(m0, .inr (2, [.ref c1, .ref c2, .ref c3, .int (nI nh), .int (nI (nr + 1)), .int (nI nk), .int fi, .int me])), (c1, .inl (cA, 2000, .inl eh)), (c2, .inl (cA, 2000, .inl f_3)), (c3, .inl (cA, 2000, .inl ek))] := hD
    exact W.iret (v := nI (nr + 1)) hx hb hr (fun t ht hW => ⟨⟨nI (nr + 1), ((gh, nh), (qIns gr nr p0, nr + 1), (gk, nk), fi, me), rfl, (by simp only [qJoin, if_pos hz]), eh, f_3, ek, ha1, hg_3, ha3, by rw [ht]; exact hP, va_K.moved hW.alike hK, hD⟩, hS.F ht⟩) hS.2.2 dX2_join_48
  · refine lv_aload_n hx hb dX2_join_0 rfl (lv_at hl 0 rfl) ?_
    refine va_get (D := (dC, dI)) (ci := 2) (v := .int (nI nr)) (C := RX2) (T := TX2) (N := 8) hx hb hts inX2_join_X2 hown hK hP 0 rfl rfl 4 (by decide) (hts (.fieldLink RX2 29 "QueueHallModel" "rings" "I") (List.mem_of_getElem? (i := 1) (by decide +kernel))) (fun _ h9 => h9) rfl dX2_join_1 ?_
    refine lv_sipush (v := 2000) hx hb dX2_join_4 (by decide) ?_
    refine lv_icmp_ne (tgt := 13) hx hb dX2_join_7 (by decide) (fun c_4 => ?_) (fun c_0 => absurd c_0 (show ¬ (nI nr) = (2000 : Int32) from (by simp (disch := omega) only [ti_lt, ti_le, ti_eq, ti_0, ti_1, ti_2, ti_m1, ti_100, ti_2000, nI_toInt] <;> omega)))
    have k_4 : ¬ nr = 2000 := by
      simp (disch := omega) only [ti_lt, ti_le, ti_eq, ti_0, ti_1, ti_2, ti_m1, ti_100, ti_2000, nI_toInt] at c_4
      omega
    refine lv_aload_n hx hb dX2_join_13 rfl (lv_at hl 0 rfl) ?_
    refine va_get (D := (dC, dI)) (ci := 2) (v := .ref c2) (C := RX2) (T := TX2) (N := 8) hx hb hts inX2_join_X2 hown hK hP 0 rfl rfl 1 (by decide) (hts (.fieldLink RX2 13 "QueueHallModel" "ring" "[I") (List.mem_of_getElem? (i := 2) (by decide +kernel))) (fun _ h9 => h9) rfl dX2_join_14 ?_
    refine lv_aload_n hx hb dX2_join_17 rfl (lv_at hl 0 rfl) ?_
    refine va_get (D := (dC, dI)) (ci := 2) (v := .int (nI nr)) (C := RX2) (T := TX2) (N := 8) hx hb hts inX2_join_X2 hown hK hP 0 rfl rfl 4 (by decide) (hts (.fieldLink RX2 29 "QueueHallModel" "rings" "I") (List.mem_of_getElem? (i := 1) (by decide +kernel))) (fun _ h9 => h9) rfl dX2_join_18 ?_
    refine lv_iload_n hx hb dX2_join_21 rfl (lv_at hl 2 rfl) ?_
    refine lv_if_eq (tgt := 29) hx hb dX2_join_22 (by decide) (fun c_0 => absurd c_0 (show ¬ p1 = (0 : Int32) from hz)) (fun c_5 => ?_)
    refine lv_iconst (v := nI 0) hx hb dX2_join_25 (by decide) ?_
    refine lv_goto (tgt := 33) hx hb dX2_join_26 (by decide) ?_
    refine lv_iload_n hx hb dX2_join_33 rfl (lv_at hl 1 rfl) ?_
    have hPc := hP.sub (ws' := [(c2, .inl (cA, 2000, .inl er))]) [2] rfl
    have hKc := hK.sub (tys' := [(cA, .int)]) [0] rfl
    have hDc := hD.sub (ws' := [(c2, .inl (cA, 2000, .inl er))]) [2] (by decide) rfl
    have hFc := va_free (wc := [(c2, .inl (cA, 2000, .inl er))]) hD hS hA [2] rfl
    refine va_callv (va_runS (As := [.ref c2, .int (nI nr), .int (nI 0), .int p0]) (rest := []) ⟨hx, hb, hml, hown, hts⟩ (c_Mod_put l dC dI s.heap.size c2 nr 0 cA er gr p0 (by omega) (by omega) ha2) (cwS 4 hts gX2_join_X2_put_v rfl rfl rfl (by decide +kernel) ⟨Nat.le_of_ble_eq_true rfl, Nat.le_of_ble_eq_true rfl⟩) ⟨q_blW, fun U hU hW => ⟨rfl, by rw [hU], by rw [hU]; exact hPc, va_K.moved hW.alike hKc, hDc.weaken (fun _ _ _ _ => trivial)⟩⟩ rfl rfl hl.1 rfl (lv_room (Nat.le_of_ble_eq_true rfl)) dX2_join_34 ⟨Nat.le_of_ble_eq_true rfl, Nat.le_of_ble_eq_true rfl⟩) hS (fun q _ h => hFc q h) hFc (fun u_6 t_6 H1 locs ht hvm hw hB hz1 hk1 hS => ?_)
    subst hw
    obtain ⟨f_6, hg_6, hP1, hK1, hD1⟩ := hB
    rw [ht] at hP1
    obtain ⟨hP, hD⟩ := q_join (wr := [(m0, .inr (2, [.ref c1, .ref c2, .ref c3, .int (nI nh), .int (nI nr), .int (nI nk), .int fi, .int me])), (c1, .inl (cA, 2000, .inl eh)), (c3, .inl (cA, 2000, .inl ek))]) (w1 := [(c2, .inl (cA, 2000, .inl f_6))]) (wz := [(m0, .inr (2, [.ref c1, .ref c2, .ref c3, .int (nI nh), .int (nI nr), .int (nI nk), .int fi, .int me])), (c1, .inl (cA, 2000, .inl eh)), (c2, .inl (cA, 2000, .inl f_6)), (c3, .inl (cA, 2000, .inl ek))]) hP hD [2] [0, 1, 3] [0, 1, 3, 2] rfl rfl (by decide) (by decide) hk1 hFc hP1 hD1 rfl rfl (by decide)
    generalize H1 = H at hP hS ⊢
    refine lv_aload_n hx hb dX2_join_37 rfl (lv_at hl 0 rfl) ?_
    refine lv_dup hx hb dX2_join_38 rfl ?_
    refine va_get (D := (dC, dI)) (ci := 2) (v := .int (nI nr)) (C := RX2) (T := TX2) (N := 8) hx hb hts inX2_join_X2 hown hK hP 0 rfl rfl 4 (by decide) (hts (.fieldLink RX2 29 "QueueHallModel" "rings" "I") (List.mem_of_getElem? (i := 1) (by decide +kernel))) (fun _ h9 => h9) rfl dX2_join_39 ?_
    refine lv_iconst (v := 1) hx hb dX2_join_42 (by decide) ?_
    refine lv_iadd hx hb dX2_join_43 ?_
    refine q_top (y := nI (nr + 1)) (nI_1 nr) ?_
    refine lv_dup_x1 hx hb dX2_join_44 rfl rfl ?_
    refine va_put (D := (dC, dI)) (ci := 2) (v := .int (nI (nr + 1))) (ty := .int) (C := RX2) (T := TX2) (N := 8) hx hb hts inX2_join_X2 tyX2 tyX2_ok nmX2 hown hK hP hD hS 0 rfl rfl 4 (by decide) (hts (.fieldLink RX2 29 "QueueHallModel" "rings" "I") (List.mem_of_getElem? (i := 1) (by decide +kernel))) (fun _ h9 => h9) rfl (by decide +kernel) rfl rfl (Nat.le_of_ble_eq_true rfl) dX2_join_45 (fun H locs hP hD hS => ?_)
    have hP : va_P (dC, dI) vwCl [(m0, .inr (2, [.ref c1, .ref c2, .ref c3, .int (nI nh), .int (nI (nr + 1)), .int (nI nk), .int fi, .int me])), (c1, .inl (cA, 2000, .inl eh)), (c2, .inl (cA, 2000, .inl f_6)), (c3, .inl (cA, 2000, .inl ek))] H := hP
    have hD : va_D A [(m0, .inr (2, [.ref c1, .ref c2, .ref c3, .int (nI nh), .int (nI (nr + 1)), .int (nI nk), .int fi, .int me])), (c1, .inl (cA, 2000, .inl eh)), (c2, .inl (cA, 2000, .inl f_6)), (c3, .inl (cA, 2000, .inl ek))] := hD
    exact W.iret (v := nI (nr + 1)) hx hb hr (fun t ht hW => ⟨⟨nI (nr + 1), ((gh, nh), (qIns gr 0 p0, nr + 1), (gk, nk), fi, me), rfl, (by simp only [qJoin, if_neg hz]), eh, f_6, ek, ha1, hg_6, ha3, by rw [ht]; exact hP, va_K.moved hW.alike hK, hD⟩, hS.F ht⟩) hS.2.2 dX2_join_48

set_option maxHeartbeats 4000000 in
set_option maxRecDepth 100000 in
theorem c_Mod_serve (l : Launch) (dC : Nat → ClassId) (dI : Nat → Nat → Nat) (sz : Nat) (m0 c1 c2 c3 nh nr nk : Nat) (cA : ClassId) (eh gh er gr ek gk : Nat → Int32) (fi me : Int32) (p0 p1 : Int32) (hn : nh + nr + nk < 2000) (ha1 : qAg nh eh gh) (ha2 : qAg nr er gr) (ha3 : qAg nk ek gk) (hF : qFok fi me nk) : Met l yX2_serve wsX2_serve ({ frames := 1, cells := 0, slots := 0, locals := 25 }) (va_Pc [.ref m0, .int p0, .int p1] (fun U => U.heap.size = sz ∧ va_P (dC, dI) vwCl [(m0, .inr (2, [.ref c1, .ref c2, .ref c3, .int (nI nh), .int (nI nr), .int (nI nk), .int fi, .int me])), (c1, .inl (cA, 2000, .inl eh)), (c2, .inl (cA, 2000, .inl er)), (c3, .inl (cA, 2000, .inl ek))] U.heap ∧ va_K (dC, dI) vwCl [(cA, .int)] U ∧ va_D (fun _ => True) [(m0, .inr (2, [.ref c1, .ref c2, .ref c3, .int (nI nh), .int (nI nr), .int (nI nk), .int fi, .int me])), (c1, .inl (cA, 2000, .inl eh)), (c2, .inl (cA, 2000, .inl er)), (c3, .inl (cA, 2000, .inl ek))])) (va_Ql (fun (r : Int64) (u : qS) => (r, u) = qServe p0 p1 ((gh, nh), (gr, nr), (gk, nk), fi, me)) (at_M dC dI (va_A [(m0, .inr (2, [.ref c1, .ref c2, .ref c3, .int (nI nh), .int (nI nr), .int (nI nk), .int fi, .int me])), (c1, .inl (cA, 2000, .inl eh)), (c2, .inl (cA, 2000, .inl er)), (c3, .inl (cA, 2000, .inl ek))] sz) m0 c1 c2 c3 cA) (va_A [(m0, .inr (2, [.ref c1, .ref c2, .ref c3, .int (nI nh), .int (nI nr), .int (nI nk), .int fi, .int me])), (c1, .inl (cA, 2000, .inl eh)), (c2, .inl (cA, 2000, .inl er)), (c3, .inl (cA, 2000, .inl ek))] sz)) 0 0 (va_A [(m0, .inr (2, [.ref c1, .ref c2, .ref c3, .int (nI nh), .int (nI nr), .int (nI nk), .int fi, .int me])), (c1, .inl (cA, 2000, .inl eh)), (c2, .inl (cA, 2000, .inl er)), (c3, .inl (cA, 2000, .inl ek))] sz) := by
  refine Met.ofW (cc := cX2_serve) (maxL := 5) (ret := (some .long)) (by decide +kernel) rfl ?_
  intro p e s m args below meth c s₁ B hml hv
  obtain ⟨rfl, hsz, hP, hK, hD0⟩ := hv
  have hx := B.exec
  have hb := B.bytes
  have hr := B.returns
  have hts := atoms_spec (ws := wsX2_serve) B.pre
  have hown : s.vm.findClass RX2 = some m.cls := findClass_of_methodNamed B.named
  have hlocks := B.notSynchronized
  subst hsz
  have hD := hD0.self (sz := s.heap.size)
  generalize hAe : va_A [(m0, .inr (2, [.ref c1, .ref c2, .ref c3, .int (nI nh), .int (nI nr), .int (nI nk), .int fi, .int me])), (c1, .inl (cA, 2000, .inl eh)), (c2, .inl (cA, 2000, .inl er)), (c3, .inl (cA, 2000, .inl ek))] s.heap.size = A at hD ⊢
  have hA : ∀ q : Nat, s.heap.size ≤ q → A q := fun q h => by rw [← hAe]; exact Or.inr h
  have hS : va_S A s.heap s.heap [] := va_S.rf
  have hl := lv_entry ([.ref m0, .int p0, .int p1]) (n := 5) (Nat.le_of_ble_eq_true rfl)
  rw [lg_entry_eq]
  generalize (lg_sl ([.ref m0, .int p0, .int p1]) ++ List.replicate (5 - (lg_sl ([.ref m0, .int p0, .int p1])).length) Slot.unset).toArray = ls at hl ⊢
  have hl : lv_has ls 5 [(0, .ref m0), (1, .int p0), (2, .int p1)] := hl
  by_cases hz : p0 = 0 <;> by_cases hy : p1 = 0 <;> rcases Nat.eq_zero_or_pos nr with hn0 | hn0
  · refine lv_aload_n hx hb dX2_serve_0 rfl (lv_at hl 0 rfl) ?_
    refine va_get (D := (dC, dI)) (ci := 2) (v := .int (nI nr)) (C := RX2) (T := TX2) (N := 8) hx hb hts inX2_serve_X2 hown hK hP 0 rfl rfl 4 (by decide) (hts (.fieldLink RX2 29 "QueueHallModel" "rings" "I") (List.mem_of_getElem? (i := 1) (by decide +kernel))) (fun _ h9 => h9) rfl dX2_serve_1 ?_
    refine lv_if_ne (tgt := 11) hx hb dX2_serve_4 (by decide) (fun c_0 => absurd (show (nI nr) = (0 : Int32) from (by simp (disch := omega) only [ti_lt, ti_le, ti_eq, ti_0, ti_1, ti_2, ti_m1, ti_100, ti_2000, nI_toInt] <;> omega)) c_0) (fun c_1 => ?_)
    have k_1 : nr = 0 := by
      simp (disch := omega) only [ti_lt, ti_le, ti_eq, ti_0, ti_1, ti_2, ti_m1, ti_100, ti_2000, nI_toInt] at c_1
      omega
    refine lv_ldc2 (v := qNo) hx hb hown (hts (.constantLong RX2 39 (1099511627776)) (List.mem_of_getElem? (i := 2) (by decide +kernel))) dX2_serve_7 ?_
    exact W.lret (v := qNo) hx hb hr (fun t ht hW => ⟨⟨qNo, ((gh, nh), (gr, nr), (gk, nk), fi, me), rfl, (by simp only [qServe, if_pos hn0]), eh, er, ek, ha1, ha2, ha3, by rw [ht]; exact hP, va_K.moved hW.alike hK, hD⟩, hS.F ht⟩) hS.2.2 dX2_serve_10
  · refine lv_aload_n hx hb dX2_serve_0 rfl (lv_at hl 0 rfl) ?_
    refine va_get (D := (dC, dI)) (ci := 2) (v := .int (nI nr)) (C := RX2) (T := TX2) (N := 8) hx hb hts inX2_serve_X2 hown hK hP 0 rfl rfl 4 (by decide) (hts (.fieldLink RX2 29 "QueueHallModel" "rings" "I") (List.mem_of_getElem? (i := 1) (by decide +kernel))) (fun _ h9 => h9) rfl dX2_serve_1 ?_
    refine lv_if_ne (tgt := 11) hx hb dX2_serve_4 (by decide) (fun c_2 => ?_) (fun c_0 => absurd c_0 (show ¬ (nI nr) = (0 : Int32) from (by simp (disch := omega) only [ti_lt, ti_le, ti_eq, ti_0, ti_1, ti_2, ti_m1, ti_100, ti_2000, nI_toInt] <;> omega)))
    have k_2 : ¬ nr = 0 := by
      simp (disch := omega) only [ti_lt, ti_le, ti_eq, ti_0, ti_1, ti_2, ti_m1, ti_100, ti_2000, nI_toInt] at c_2
      omega
    refine lv_iload_n hx hb dX2_serve_11 rfl (lv_at hl 1 rfl) ?_
    refine lv_if_eq (tgt := 19) hx hb dX2_serve_12 (by decide) (fun c_3 => ?_) (fun c_0 => absurd (show p0 = (0 : Int32) from hz) c_0)
    refine lv_aload_n hx hb dX2_serve_19 rfl (lv_at hl 0 rfl) ?_
    refine va_get (D := (dC, dI)) (ci := 2) (v := .int (nI nr)) (C := RX2) (T := TX2) (N := 8) hx hb hts inX2_serve_X2 hown hK hP 0 rfl rfl 4 (by decide) (hts (.fieldLink RX2 29 "QueueHallModel" "rings" "I") (List.mem_of_getElem? (i := 1) (by decide +kernel))) (fun _ h9 => h9) rfl dX2_serve_20 ?_
    refine lv_iconst (v := 1) hx hb dX2_serve_23 (by decide) ?_
    refine lv_isub hx hb dX2_serve_24 ?_
    refine q_top (y := nI (nr - 1)) (q_m1 (by omega)) ?_
    refine lv_istore_n (lv' := [(3, .int (nI (nr - 1))), (0, .ref m0), (1, .int p0), (2, .int p1)]) hx hb dX2_serve_25 rfl hl (by decide) rfl (fun ls hl => ?_)
    refine lv_aload_n hx hb dX2_serve_26 rfl (lv_at hl 1 rfl) ?_
    refine va_get (D := (dC, dI)) (ci := 2) (v := .ref c2) (C := RX2) (T := TX2) (N := 8) hx hb hts inX2_serve_X2 hown hK hP 0 rfl rfl 1 (by decide) (hts (.fieldLink RX2 13 "QueueHallModel" "ring" "[I") (List.mem_of_getElem? (i := 3) (by decide +kernel))) (fun _ h9 => h9) rfl dX2_serve_27 ?_
    refine lv_iload_n hx hb dX2_serve_30 rfl (lv_at hl 0 rfl) ?_
    refine q_iald (k := nr - 1) hx hb hK hP 2 0 rfl rfl (by omega) (by omega) dX2_serve_31 ?_
    refine lv_istore (lv' := [(4, .int (er (nr - 1))), (3, .int (nI (nr - 1))), (0, .ref m0), (1, .int p0), (2, .int p1)]) hx hb dX2_serve_32 hl (by decide) rfl (fun ls hl => ?_)
    refine lv_iload_n hx hb dX2_serve_34 rfl (lv_at hl 4 rfl) ?_
    refine lv_if_ne (tgt := 60) hx hb dX2_serve_35 (by decide) (fun c_0 => absurd (show p1 = (0 : Int32) from hy) c_0) (fun c_4 => ?_)
    refine lv_aload_n hx hb dX2_serve_38 rfl (lv_at hl 2 rfl) ?_
    refine va_get (D := (dC, dI)) (ci := 2) (v := .ref c2) (C := RX2) (T := TX2) (N := 8) hx hb hts inX2_serve_X2 hown hK hP 0 rfl rfl 1 (by decide) (hts (.fieldLink RX2 13 "QueueHallModel" "ring" "[I") (List.mem_of_getElem? (i := 3) (by decide +kernel))) (fun _ h9 => h9) rfl dX2_serve_39 ?_
    refine lv_aload_n hx hb dX2_serve_42 rfl (lv_at hl 2 rfl) ?_
    refine va_get (D := (dC, dI)) (ci := 2) (v := .int (nI nr)) (C := RX2) (T := TX2) (N := 8) hx hb hts inX2_serve_X2 hown hK hP 0 rfl rfl 4 (by decide) (hts (.fieldLink RX2 29 "QueueHallModel" "rings" "I") (List.mem_of_getElem? (i := 1) (by decide +kernel))) (fun _ h9 => h9) rfl dX2_serve_43 ?_
    refine lv_iload_n hx hb dX2_serve_46 rfl (lv_at hl 1 rfl) ?_
    have hPc := hP.sub (ws' := [(c2, .inl (cA, 2000, .inl er))]) [2] rfl
    have hKc := hK.sub (tys' := [(cA, .int)]) [0] rfl
    have hDc := hD.sub (ws' := [(c2, .inl (cA, 2000, .inl er))]) [2] (by decide) rfl
    have hFc := va_free (wc := [(c2, .inl (cA, 2000, .inl er))]) hD hS hA [2] rfl
    refine va_callv (va_runS (As := [.ref c2, .int (nI nr), .int (nI (nr - 1))]) (rest := []) ⟨hx, hb, hml, hown, hts⟩ (c_Mod_take l dC dI s.heap.size c2 nr (nr - 1) cA er gr (by omega) (by omega) ha2) (cwS 3 hts gX2_serve_X2_take_v rfl rfl rfl (by decide +kernel) ⟨Nat.le_of_ble_eq_true rfl, Nat.le_of_ble_eq_true rfl⟩) ⟨q_blW, fun U hU hW => ⟨rfl, by rw [hU], by rw [hU]; exact hPc, va_K.moved hW.alike hKc, hDc.weaken (fun _ _ _ _ => trivial)⟩⟩ rfl rfl hl.1 rfl (lv_room (Nat.le_of_ble_eq_true rfl)) dX2_serve_47 ⟨Nat.le_of_ble_eq_true rfl, Nat.le_of_ble_eq_true rfl⟩) hS (fun q _ h => hFc q h) hFc (fun u_5 t_5 H1 locs ht hvm hw hB hz1 hk1 hS => ?_)
    subst hw
    obtain ⟨f_5, hg_5, hP1, hK1, hD1⟩ := hB
    rw [ht] at hP1
    obtain ⟨hP, hD⟩ := q_join (wr := [(m0, .inr (2, [.ref c1, .ref c2, .ref c3, .int (nI nh), .int (nI nr), .int (nI nk), .int fi, .int me])), (c1, .inl (cA, 2000, .inl eh)), (c3, .inl (cA, 2000, .inl ek))]) (w1 := [(c2, .inl (cA, 2000, .inl f_5))]) (wz := [(m0, .inr (2, [.ref c1, .ref c2, .ref c3, .int (nI nh), .int (nI nr), .int (nI nk), .int fi, .int me])), (c1, .inl (cA, 2000, .inl eh)), (c2, .inl (cA, 2000, .inl f_5)), (c3, .inl (cA, 2000, .inl ek))]) hP hD [2] [0, 1, 3] [0, 1, 3, 2] rfl rfl (by decide) (by decide) hk1 hFc hP1 hD1 rfl rfl (by decide)
    generalize H1 = H at hP hS ⊢
    refine lv_aload_n hx hb dX2_serve_50 rfl (lv_at hl 2 rfl) ?_
    refine lv_dup hx hb dX2_serve_51 rfl ?_
    refine va_get (D := (dC, dI)) (ci := 2) (v := .int (nI nr)) (C := RX2) (T := TX2) (N := 8) hx hb hts inX2_serve_X2 hown hK hP 0 rfl rfl 4 (by decide) (hts (.fieldLink RX2 29 "QueueHallModel" "rings" "I") (List.mem_of_getElem? (i := 1) (by decide +kernel))) (fun _ h9 => h9) rfl dX2_serve_52 ?_
    refine lv_iconst (v := 1) hx hb dX2_serve_55 (by decide) ?_
    refine lv_isub hx hb dX2_serve_56 ?_
    refine q_top (y := nI (nr - 1)) (q_m1 (by omega)) ?_
    refine va_put (D := (dC, dI)) (ci := 2) (v := .int (nI (nr - 1))) (ty := .int) (C := RX2) (T := TX2) (N := 8) hx hb hts inX2_serve_X2 tyX2 tyX2_ok nmX2 hown hK hP hD hS 0 rfl rfl 4 (by decide) (hts (.fieldLink RX2 29 "QueueHallModel" "rings" "I") (List.mem_of_getElem? (i := 1) (by decide +kernel))) (fun _ h9 => h9) rfl (by decide +kernel) rfl rfl (Nat.le_of_ble_eq_true rfl) dX2_serve_57 (fun H locs hP hD hS => ?_)
    have hP : va_P (dC, dI) vwCl [(m0, .inr (2, [.ref c1, .ref c2, .ref c3, .int (nI nh), .int (nI (nr - 1)), .int (nI nk), .int fi, .int me])), (c1, .inl (cA, 2000, .inl eh)), (c2, .inl (cA, 2000, .inl f_5)), (c3, .inl (cA, 2000, .inl ek))] H := hP
    have hD : va_D A [(m0, .inr (2, [.ref c1, .ref c2, .ref c3, .int (nI nh), .int (nI (nr - 1)), .int (nI nk), .int fi, .int me])), (c1, .inl (cA, 2000, .inl eh)), (c2, .inl (cA, 2000, .inl f_5)), (c3, .inl (cA, 2000, .inl ek))] := hD
    refine lv_iload hx hb dX2_serve_60 (lv_at hl 0 rfl) ?_
    refine lv_i2l (v := (er (nr - 1)).toInt64) hx hb dX2_serve_62 rfl ?_
    exact W.lret (v := (er (nr - 1)).toInt64) hx hb hr (fun t ht hW => ⟨⟨(er (nr - 1)).toInt64, ((gh, nh), (qDel gr (nr - 1), nr - 1), (gk, nk), fi, me), rfl, (by simp only [qServe, if_neg (show ¬ nr = 0 by omega), if_pos hy, if_pos hz, ha2 (nr - 1) (by omega)]), eh, f_5, ek, ha1, hg_5, ha3, by rw [ht]; exact hP, va_K.moved hW.alike hK, hD⟩, hS.F ht⟩) hS.2.2 dX2_serve_63
  · refine lv_aload_n hx hb dX2_serve_0 rfl (lv_at hl 0 rfl) ?_
    refine va_get (D := (dC, dI)) (ci := 2) (v := .int (nI nr)) (C := RX2) (T := TX2) (N := 8) hx hb hts inX2_serve_X2 hown hK hP 0 rfl rfl 4 (by decide) (hts (.fieldLink RX2 29 "QueueHallModel" "rings" "I") (List.mem_of_getElem? (i := 1) (by decide +kernel))) (fun _ h9 => h9) rfl dX2_serve_1 ?_
    refine lv_if_ne (tgt := 11) hx hb dX2_serve_4 (by decide) (fun c_0 => absurd (show (nI nr) = (0 : Int32) from (by simp (disch := omega) only [ti_lt, ti_le, ti_eq, ti_0, ti_1, ti_2, ti_m1, ti_100, ti_2000, nI_toInt] <;> omega)) c_0) (fun c_6 => ?_)
    have k_6 : nr = 0 := by
      simp (disch := omega) only [ti_lt, ti_le, ti_eq, ti_0, ti_1, ti_2, ti_m1, ti_100, ti_2000, nI_toInt] at c_6
      omega
    refine lv_ldc2 (v := qNo) hx hb hown (hts (.constantLong RX2 39 (1099511627776)) (List.mem_of_getElem? (i := 2) (by decide +kernel))) dX2_serve_7 ?_
    exact W.lret (v := qNo) hx hb hr (fun t ht hW => ⟨⟨qNo, ((gh, nh), (gr, nr), (gk, nk), fi, me), rfl, (by simp only [qServe, if_pos hn0]), eh, er, ek, ha1, ha2, ha3, by rw [ht]; exact hP, va_K.moved hW.alike hK, hD⟩, hS.F ht⟩) hS.2.2 dX2_serve_10
  · refine lv_aload_n hx hb dX2_serve_0 rfl (lv_at hl 0 rfl) ?_
    refine va_get (D := (dC, dI)) (ci := 2) (v := .int (nI nr)) (C := RX2) (T := TX2) (N := 8) hx hb hts inX2_serve_X2 hown hK hP 0 rfl rfl 4 (by decide) (hts (.fieldLink RX2 29 "QueueHallModel" "rings" "I") (List.mem_of_getElem? (i := 1) (by decide +kernel))) (fun _ h9 => h9) rfl dX2_serve_1 ?_
    refine lv_if_ne (tgt := 11) hx hb dX2_serve_4 (by decide) (fun c_7 => ?_) (fun c_0 => absurd c_0 (show ¬ (nI nr) = (0 : Int32) from (by simp (disch := omega) only [ti_lt, ti_le, ti_eq, ti_0, ti_1, ti_2, ti_m1, ti_100, ti_2000, nI_toInt] <;> omega)))
    have k_7 : ¬ nr = 0 := by
      simp (disch := omega) only [ti_lt, ti_le, ti_eq, ti_0, ti_1, ti_2, ti_m1, ti_100, ti_2000, nI_toInt] at c_7
      omega
    refine lv_iload_n hx hb dX2_serve_11 rfl (lv_at hl 1 rfl) ?_
    refine lv_if_eq (tgt := 19) hx hb dX2_serve_12 (by decide) (fun c_8 => ?_) (fun c_0 => absurd (show p0 = (0 : Int32) from hz) c_0)
    refine lv_aload_n hx hb dX2_serve_19 rfl (lv_at hl 0 rfl) ?_
    refine va_get (D := (dC, dI)) (ci := 2) (v := .int (nI nr)) (C := RX2) (T := TX2) (N := 8) hx hb hts inX2_serve_X2 hown hK hP 0 rfl rfl 4 (by decide) (hts (.fieldLink RX2 29 "QueueHallModel" "rings" "I") (List.mem_of_getElem? (i := 1) (by decide +kernel))) (fun _ h9 => h9) rfl dX2_serve_20 ?_
    refine lv_iconst (v := 1) hx hb dX2_serve_23 (by decide) ?_
    refine lv_isub hx hb dX2_serve_24 ?_
    refine q_top (y := nI (nr - 1)) (q_m1 (by omega)) ?_
    refine lv_istore_n (lv' := [(3, .int (nI (nr - 1))), (0, .ref m0), (1, .int p0), (2, .int p1)]) hx hb dX2_serve_25 rfl hl (by decide) rfl (fun ls hl => ?_)
    refine lv_aload_n hx hb dX2_serve_26 rfl (lv_at hl 1 rfl) ?_
    refine va_get (D := (dC, dI)) (ci := 2) (v := .ref c2) (C := RX2) (T := TX2) (N := 8) hx hb hts inX2_serve_X2 hown hK hP 0 rfl rfl 1 (by decide) (hts (.fieldLink RX2 13 "QueueHallModel" "ring" "[I") (List.mem_of_getElem? (i := 3) (by decide +kernel))) (fun _ h9 => h9) rfl dX2_serve_27 ?_
    refine lv_iload_n hx hb dX2_serve_30 rfl (lv_at hl 0 rfl) ?_
    refine q_iald (k := nr - 1) hx hb hK hP 2 0 rfl rfl (by omega) (by omega) dX2_serve_31 ?_
    refine lv_istore (lv' := [(4, .int (er (nr - 1))), (3, .int (nI (nr - 1))), (0, .ref m0), (1, .int p0), (2, .int p1)]) hx hb dX2_serve_32 hl (by decide) rfl (fun ls hl => ?_)
    refine lv_iload_n hx hb dX2_serve_34 rfl (lv_at hl 4 rfl) ?_
    refine lv_if_ne (tgt := 60) hx hb dX2_serve_35 (by decide) (fun c_9 => ?_) (fun c_0 => absurd c_0 (show ¬ p1 = (0 : Int32) from hy))
    refine lv_iload hx hb dX2_serve_60 (lv_at hl 0 rfl) ?_
    refine lv_i2l (v := (er (nr - 1)).toInt64) hx hb dX2_serve_62 rfl ?_
    exact W.lret (v := (er (nr - 1)).toInt64) hx hb hr (fun t ht hW => ⟨⟨(er (nr - 1)).toInt64, ((gh, nh), (gr, nr), (gk, nk), fi, me), rfl, (by simp only [qServe, if_neg (show ¬ nr = 0 by omega), if_neg hy, if_pos hz, ha2 (nr - 1) (by omega)]), eh, er, ek, ha1, ha2, ha3, by rw [ht]; exact hP, va_K.moved hW.alike hK, hD⟩, hS.F ht⟩) hS.2.2 dX2_serve_63
  · refine lv_aload_n hx hb dX2_serve_0 rfl (lv_at hl 0 rfl) ?_
    refine va_get (D := (dC, dI)) (ci := 2) (v := .int (nI nr)) (C := RX2) (T := TX2) (N := 8) hx hb hts inX2_serve_X2 hown hK hP 0 rfl rfl 4 (by decide) (hts (.fieldLink RX2 29 "QueueHallModel" "rings" "I") (List.mem_of_getElem? (i := 1) (by decide +kernel))) (fun _ h9 => h9) rfl dX2_serve_1 ?_
    refine lv_if_ne (tgt := 11) hx hb dX2_serve_4 (by decide) (fun c_0 => absurd (show (nI nr) = (0 : Int32) from (by simp (disch := omega) only [ti_lt, ti_le, ti_eq, ti_0, ti_1, ti_2, ti_m1, ti_100, ti_2000, nI_toInt] <;> omega)) c_0) (fun c_10 => ?_)
    have k_10 : nr = 0 := by
      simp (disch := omega) only [ti_lt, ti_le, ti_eq, ti_0, ti_1, ti_2, ti_m1, ti_100, ti_2000, nI_toInt] at c_10
      omega
    refine lv_ldc2 (v := qNo) hx hb hown (hts (.constantLong RX2 39 (1099511627776)) (List.mem_of_getElem? (i := 2) (by decide +kernel))) dX2_serve_7 ?_
    exact W.lret (v := qNo) hx hb hr (fun t ht hW => ⟨⟨qNo, ((gh, nh), (gr, nr), (gk, nk), fi, me), rfl, (by simp only [qServe, if_pos hn0]), eh, er, ek, ha1, ha2, ha3, by rw [ht]; exact hP, va_K.moved hW.alike hK, hD⟩, hS.F ht⟩) hS.2.2 dX2_serve_10
  · refine lv_aload_n hx hb dX2_serve_0 rfl (lv_at hl 0 rfl) ?_
    refine va_get (D := (dC, dI)) (ci := 2) (v := .int (nI nr)) (C := RX2) (T := TX2) (N := 8) hx hb hts inX2_serve_X2 hown hK hP 0 rfl rfl 4 (by decide) (hts (.fieldLink RX2 29 "QueueHallModel" "rings" "I") (List.mem_of_getElem? (i := 1) (by decide +kernel))) (fun _ h9 => h9) rfl dX2_serve_1 ?_
    refine lv_if_ne (tgt := 11) hx hb dX2_serve_4 (by decide) (fun c_11 => ?_) (fun c_0 => absurd c_0 (show ¬ (nI nr) = (0 : Int32) from (by simp (disch := omega) only [ti_lt, ti_le, ti_eq, ti_0, ti_1, ti_2, ti_m1, ti_100, ti_2000, nI_toInt] <;> omega)))
    have k_11 : ¬ nr = 0 := by
      simp (disch := omega) only [ti_lt, ti_le, ti_eq, ti_0, ti_1, ti_2, ti_m1, ti_100, ti_2000, nI_toInt] at c_11
      omega
    refine lv_iload_n hx hb dX2_serve_11 rfl (lv_at hl 1 rfl) ?_
    refine lv_if_eq (tgt := 19) hx hb dX2_serve_12 (by decide) (fun c_0 => absurd c_0 (show ¬ p0 = (0 : Int32) from hz)) (fun c_12 => ?_)
    refine lv_iconst (v := nI 0) hx hb dX2_serve_15 (by decide) ?_
    refine lv_goto (tgt := 25) hx hb dX2_serve_16 (by decide) ?_
    refine lv_istore_n (lv' := [(3, .int (nI 0)), (0, .ref m0), (1, .int p0), (2, .int p1)]) hx hb dX2_serve_25 rfl hl (by decide) rfl (fun ls hl => ?_)
    refine lv_aload_n hx hb dX2_serve_26 rfl (lv_at hl 1 rfl) ?_
    refine va_get (D := (dC, dI)) (ci := 2) (v := .ref c2) (C := RX2) (T := TX2) (N := 8) hx hb hts inX2_serve_X2 hown hK hP 0 rfl rfl 1 (by decide) (hts (.fieldLink RX2 13 "QueueHallModel" "ring" "[I") (List.mem_of_getElem? (i := 3) (by decide +kernel))) (fun _ h9 => h9) rfl dX2_serve_27 ?_
    refine lv_iload_n hx hb dX2_serve_30 rfl (lv_at hl 0 rfl) ?_
    refine q_iald (k := 0) hx hb hK hP 2 0 rfl rfl (by omega) (by omega) dX2_serve_31 ?_
    refine lv_istore (lv' := [(4, .int (er 0)), (3, .int (nI 0)), (0, .ref m0), (1, .int p0), (2, .int p1)]) hx hb dX2_serve_32 hl (by decide) rfl (fun ls hl => ?_)
    refine lv_iload_n hx hb dX2_serve_34 rfl (lv_at hl 4 rfl) ?_
    refine lv_if_ne (tgt := 60) hx hb dX2_serve_35 (by decide) (fun c_0 => absurd (show p1 = (0 : Int32) from hy) c_0) (fun c_13 => ?_)
    refine lv_aload_n hx hb dX2_serve_38 rfl (lv_at hl 2 rfl) ?_
    refine va_get (D := (dC, dI)) (ci := 2) (v := .ref c2) (C := RX2) (T := TX2) (N := 8) hx hb hts inX2_serve_X2 hown hK hP 0 rfl rfl 1 (by decide) (hts (.fieldLink RX2 13 "QueueHallModel" "ring" "[I") (List.mem_of_getElem? (i := 3) (by decide +kernel))) (fun _ h9 => h9) rfl dX2_serve_39 ?_
    refine lv_aload_n hx hb dX2_serve_42 rfl (lv_at hl 2 rfl) ?_
    refine va_get (D := (dC, dI)) (ci := 2) (v := .int (nI nr)) (C := RX2) (T := TX2) (N := 8) hx hb hts inX2_serve_X2 hown hK hP 0 rfl rfl 4 (by decide) (hts (.fieldLink RX2 29 "QueueHallModel" "rings" "I") (List.mem_of_getElem? (i := 1) (by decide +kernel))) (fun _ h9 => h9) rfl dX2_serve_43 ?_
    refine lv_iload_n hx hb dX2_serve_46 rfl (lv_at hl 1 rfl) ?_
    have hPc := hP.sub (ws' := [(c2, .inl (cA, 2000, .inl er))]) [2] rfl
    have hKc := hK.sub (tys' := [(cA, .int)]) [0] rfl
    have hDc := hD.sub (ws' := [(c2, .inl (cA, 2000, .inl er))]) [2] (by decide) rfl
    have hFc := va_free (wc := [(c2, .inl (cA, 2000, .inl er))]) hD hS hA [2] rfl
    refine va_callv (va_runS (As := [.ref c2, .int (nI nr), .int (nI 0)]) (rest := []) ⟨hx, hb, hml, hown, hts⟩ (c_Mod_take l dC dI s.heap.size c2 nr 0 cA er gr (by omega) (by omega) ha2) (cwS 3 hts gX2_serve_X2_take_v rfl rfl rfl (by decide +kernel) ⟨Nat.le_of_ble_eq_true rfl, Nat.le_of_ble_eq_true rfl⟩) ⟨q_blW, fun U hU hW => ⟨rfl, by rw [hU], by rw [hU]; exact hPc, va_K.moved hW.alike hKc, hDc.weaken (fun _ _ _ _ => trivial)⟩⟩ rfl rfl hl.1 rfl (lv_room (Nat.le_of_ble_eq_true rfl)) dX2_serve_47 ⟨Nat.le_of_ble_eq_true rfl, Nat.le_of_ble_eq_true rfl⟩) hS (fun q _ h => hFc q h) hFc (fun u_14 t_14 H1 locs ht hvm hw hB hz1 hk1 hS => ?_)
    subst hw
    obtain ⟨f_14, hg_14, hP1, hK1, hD1⟩ := hB
    rw [ht] at hP1
    obtain ⟨hP, hD⟩ := q_join (wr := [(m0, .inr (2, [.ref c1, .ref c2, .ref c3, .int (nI nh), .int (nI nr), .int (nI nk), .int fi, .int me])), (c1, .inl (cA, 2000, .inl eh)), (c3, .inl (cA, 2000, .inl ek))]) (w1 := [(c2, .inl (cA, 2000, .inl f_14))]) (wz := [(m0, .inr (2, [.ref c1, .ref c2, .ref c3, .int (nI nh), .int (nI nr), .int (nI nk), .int fi, .int me])), (c1, .inl (cA, 2000, .inl eh)), (c2, .inl (cA, 2000, .inl f_14)), (c3, .inl (cA, 2000, .inl ek))]) hP hD [2] [0, 1, 3] [0, 1, 3, 2] rfl rfl (by decide) (by decide) hk1 hFc hP1 hD1 rfl rfl (by decide)
    generalize H1 = H at hP hS ⊢
    refine lv_aload_n hx hb dX2_serve_50 rfl (lv_at hl 2 rfl) ?_
    refine lv_dup hx hb dX2_serve_51 rfl ?_
    refine va_get (D := (dC, dI)) (ci := 2) (v := .int (nI nr)) (C := RX2) (T := TX2) (N := 8) hx hb hts inX2_serve_X2 hown hK hP 0 rfl rfl 4 (by decide) (hts (.fieldLink RX2 29 "QueueHallModel" "rings" "I") (List.mem_of_getElem? (i := 1) (by decide +kernel))) (fun _ h9 => h9) rfl dX2_serve_52 ?_
    refine lv_iconst (v := 1) hx hb dX2_serve_55 (by decide) ?_
    refine lv_isub hx hb dX2_serve_56 ?_
    refine q_top (y := nI (nr - 1)) (q_m1 (by omega)) ?_
    refine va_put (D := (dC, dI)) (ci := 2) (v := .int (nI (nr - 1))) (ty := .int) (C := RX2) (T := TX2) (N := 8) hx hb hts inX2_serve_X2 tyX2 tyX2_ok nmX2 hown hK hP hD hS 0 rfl rfl 4 (by decide) (hts (.fieldLink RX2 29 "QueueHallModel" "rings" "I") (List.mem_of_getElem? (i := 1) (by decide +kernel))) (fun _ h9 => h9) rfl (by decide +kernel) rfl rfl (Nat.le_of_ble_eq_true rfl) dX2_serve_57 (fun H locs hP hD hS => ?_)
    have hP : va_P (dC, dI) vwCl [(m0, .inr (2, [.ref c1, .ref c2, .ref c3, .int (nI nh), .int (nI (nr - 1)), .int (nI nk), .int fi, .int me])), (c1, .inl (cA, 2000, .inl eh)), (c2, .inl (cA, 2000, .inl f_14)), (c3, .inl (cA, 2000, .inl ek))] H := hP
    have hD : va_D A [(m0, .inr (2, [.ref c1, .ref c2, .ref c3, .int (nI nh), .int (nI (nr - 1)), .int (nI nk), .int fi, .int me])), (c1, .inl (cA, 2000, .inl eh)), (c2, .inl (cA, 2000, .inl f_14)), (c3, .inl (cA, 2000, .inl ek))] := hD
    refine lv_iload hx hb dX2_serve_60 (lv_at hl 0 rfl) ?_
    refine lv_i2l (v := (er 0).toInt64) hx hb dX2_serve_62 rfl ?_
    exact W.lret (v := (er 0).toInt64) hx hb hr (fun t ht hW => ⟨⟨(er 0).toInt64, ((gh, nh), (qDel gr 0, nr - 1), (gk, nk), fi, me), rfl, (by simp only [qServe, if_neg (show ¬ nr = 0 by omega), if_pos hy, if_neg hz, ha2 0 (by omega)]), eh, f_14, ek, ha1, hg_14, ha3, by rw [ht]; exact hP, va_K.moved hW.alike hK, hD⟩, hS.F ht⟩) hS.2.2 dX2_serve_63
  · refine lv_aload_n hx hb dX2_serve_0 rfl (lv_at hl 0 rfl) ?_
    refine va_get (D := (dC, dI)) (ci := 2) (v := .int (nI nr)) (C := RX2) (T := TX2) (N := 8) hx hb hts inX2_serve_X2 hown hK hP 0 rfl rfl 4 (by decide) (hts (.fieldLink RX2 29 "QueueHallModel" "rings" "I") (List.mem_of_getElem? (i := 1) (by decide +kernel))) (fun _ h9 => h9) rfl dX2_serve_1 ?_
    refine lv_if_ne (tgt := 11) hx hb dX2_serve_4 (by decide) (fun c_0 => absurd (show (nI nr) = (0 : Int32) from (by simp (disch := omega) only [ti_lt, ti_le, ti_eq, ti_0, ti_1, ti_2, ti_m1, ti_100, ti_2000, nI_toInt] <;> omega)) c_0) (fun c_15 => ?_)
    have k_15 : nr = 0 := by
      simp (disch := omega) only [ti_lt, ti_le, ti_eq, ti_0, ti_1, ti_2, ti_m1, ti_100, ti_2000, nI_toInt] at c_15
      omega
    refine lv_ldc2 (v := qNo) hx hb hown (hts (.constantLong RX2 39 (1099511627776)) (List.mem_of_getElem? (i := 2) (by decide +kernel))) dX2_serve_7 ?_
    exact W.lret (v := qNo) hx hb hr (fun t ht hW => ⟨⟨qNo, ((gh, nh), (gr, nr), (gk, nk), fi, me), rfl, (by simp only [qServe, if_pos hn0]), eh, er, ek, ha1, ha2, ha3, by rw [ht]; exact hP, va_K.moved hW.alike hK, hD⟩, hS.F ht⟩) hS.2.2 dX2_serve_10
  · refine lv_aload_n hx hb dX2_serve_0 rfl (lv_at hl 0 rfl) ?_
    refine va_get (D := (dC, dI)) (ci := 2) (v := .int (nI nr)) (C := RX2) (T := TX2) (N := 8) hx hb hts inX2_serve_X2 hown hK hP 0 rfl rfl 4 (by decide) (hts (.fieldLink RX2 29 "QueueHallModel" "rings" "I") (List.mem_of_getElem? (i := 1) (by decide +kernel))) (fun _ h9 => h9) rfl dX2_serve_1 ?_
    refine lv_if_ne (tgt := 11) hx hb dX2_serve_4 (by decide) (fun c_16 => ?_) (fun c_0 => absurd c_0 (show ¬ (nI nr) = (0 : Int32) from (by simp (disch := omega) only [ti_lt, ti_le, ti_eq, ti_0, ti_1, ti_2, ti_m1, ti_100, ti_2000, nI_toInt] <;> omega)))
    have k_16 : ¬ nr = 0 := by
      simp (disch := omega) only [ti_lt, ti_le, ti_eq, ti_0, ti_1, ti_2, ti_m1, ti_100, ti_2000, nI_toInt] at c_16
      omega
    refine lv_iload_n hx hb dX2_serve_11 rfl (lv_at hl 1 rfl) ?_
    refine lv_if_eq (tgt := 19) hx hb dX2_serve_12 (by decide) (fun c_0 => absurd c_0 (show ¬ p0 = (0 : Int32) from hz)) (fun c_17 => ?_)
    refine lv_iconst (v := nI 0) hx hb dX2_serve_15 (by decide) ?_
    refine lv_goto (tgt := 25) hx hb dX2_serve_16 (by decide) ?_
    refine lv_istore_n (lv' := [(3, .int (nI 0)), (0, .ref m0), (1, .int p0), (2, .int p1)]) hx hb dX2_serve_25 rfl hl (by decide) rfl (fun ls hl => ?_)
    refine lv_aload_n hx hb dX2_serve_26 rfl (lv_at hl 1 rfl) ?_
    refine va_get (D := (dC, dI)) (ci := 2) (v := .ref c2) (C := RX2) (T := TX2) (N := 8) hx hb hts inX2_serve_X2 hown hK hP 0 rfl rfl 1 (by decide) (hts (.fieldLink RX2 13 "QueueHallModel" "ring" "[I") (List.mem_of_getElem? (i := 3) (by decide +kernel))) (fun _ h9 => h9) rfl dX2_serve_27 ?_
    refine lv_iload_n hx hb dX2_serve_30 rfl (lv_at hl 0 rfl) ?_
    refine q_iald (k := 0) hx hb hK hP 2 0 rfl rfl (by omega) (by omega) dX2_serve_31 ?_
    refine lv_istore (lv' := [(4, .int (er 0)), (3, .int (nI 0)), (0, .ref m0), (1, .int p0), (2, .int p1)]) hx hb dX2_serve_32 hl (by decide) rfl (fun ls hl => ?_)
    refine lv_iload_n hx hb dX2_serve_34 rfl (lv_at hl 4 rfl) ?_
    refine lv_if_ne (tgt := 60) hx hb dX2_serve_35 (by decide) (fun c_18 => ?_) (fun c_0 => absurd c_0 (show ¬ p1 = (0 : Int32) from hy))
    refine lv_iload hx hb dX2_serve_60 (lv_at hl 0 rfl) ?_
    refine lv_i2l (v := (er 0).toInt64) hx hb dX2_serve_62 rfl ?_
    exact W.lret (v := (er 0).toInt64) hx hb hr (fun t ht hW => ⟨⟨(er 0).toInt64, ((gh, nh), (gr, nr), (gk, nk), fi, me), rfl, (by simp only [qServe, if_neg (show ¬ nr = 0 by omega), if_neg hy, if_neg hz, ha2 0 (by omega)]), eh, er, ek, ha1, ha2, ha3, by rw [ht]; exact hP, va_K.moved hW.alike hK, hD⟩, hS.F ht⟩) hS.2.2 dX2_serve_63

set_option maxHeartbeats 4000000 in
set_option maxRecDepth 100000 in
theorem c_Mod_drop (l : Launch) (dC : Nat → ClassId) (dI : Nat → Nat → Nat) (sz : Nat) (m0 c1 c2 c3 nh nr nk : Nat) (cA : ClassId) (eh gh er gr ek gk : Nat → Int32) (fi me : Int32) (p0 p1 : Int32) (hn : nh + nr + nk < 2000) (ha1 : qAg nh eh gh) (ha2 : qAg nr er gr) (ha3 : qAg nk ek gk) (hF : qFok fi me nk) : Met l yX2_drop wsX2_drop ({ frames := 1, cells := 0, slots := 0, locals := 25 }) (va_Pc [.ref m0, .int p0, .int p1] (fun U => U.heap.size = sz ∧ va_P (dC, dI) vwCl [(m0, .inr (2, [.ref c1, .ref c2, .ref c3, .int (nI nh), .int (nI nr), .int (nI nk), .int fi, .int me])), (c1, .inl (cA, 2000, .inl eh)), (c2, .inl (cA, 2000, .inl er)), (c3, .inl (cA, 2000, .inl ek))] U.heap ∧ va_K (dC, dI) vwCl [(cA, .int)] U ∧ va_D (fun _ => True) [(m0, .inr (2, [.ref c1, .ref c2, .ref c3, .int (nI nh), .int (nI nr), .int (nI nk), .int fi, .int me])), (c1, .inl (cA, 2000, .inl eh)), (c2, .inl (cA, 2000, .inl er)), (c3, .inl (cA, 2000, .inl ek))])) (va_Qi (fun (r : Int32) (u : qS) => (r, u) = qDrop p0 p1 ((gh, nh), (gr, nr), (gk, nk), fi, me)) (at_M dC dI (va_A [(m0, .inr (2, [.ref c1, .ref c2, .ref c3, .int (nI nh), .int (nI nr), .int (nI nk), .int fi, .int me])), (c1, .inl (cA, 2000, .inl eh)), (c2, .inl (cA, 2000, .inl er)), (c3, .inl (cA, 2000, .inl ek))] sz) m0 c1 c2 c3 cA) (va_A [(m0, .inr (2, [.ref c1, .ref c2, .ref c3, .int (nI nh), .int (nI nr), .int (nI nk), .int fi, .int me])), (c1, .inl (cA, 2000, .inl eh)), (c2, .inl (cA, 2000, .inl er)), (c3, .inl (cA, 2000, .inl ek))] sz)) 0 0 (va_A [(m0, .inr (2, [.ref c1, .ref c2, .ref c3, .int (nI nh), .int (nI nr), .int (nI nk), .int fi, .int me])), (c1, .inl (cA, 2000, .inl eh)), (c2, .inl (cA, 2000, .inl er)), (c3, .inl (cA, 2000, .inl ek))] sz) := by
  refine Met.ofW (cc := cX2_drop) (maxL := 4) (ret := (some .boolean)) (by decide +kernel) rfl ?_
  intro p e s m args below meth c s₁ B hml hv
  obtain ⟨rfl, hsz, hP, hK, hD0⟩ := hv
  have hx := B.exec
  have hb := B.bytes
  have hr := B.returns
  have hts := atoms_spec (ws := wsX2_drop) B.pre
  have hown : s.vm.findClass RX2 = some m.cls := findClass_of_methodNamed B.named
  have hlocks := B.notSynchronized
  subst hsz
  have hD := hD0.self (sz := s.heap.size)
  generalize hAe : va_A [(m0, .inr (2, [.ref c1, .ref c2, .ref c3, .int (nI nh), .int (nI nr), .int (nI nk), .int fi, .int me])), (c1, .inl (cA, 2000, .inl eh)), (c2, .inl (cA, 2000, .inl er)), (c3, .inl (cA, 2000, .inl ek))] s.heap.size = A at hD ⊢
  have hA : ∀ q : Nat, s.heap.size ≤ q → A q := fun q h => by rw [← hAe]; exact Or.inr h
  have hS : va_S A s.heap s.heap [] := va_S.rf
  have hl := lv_entry ([.ref m0, .int p0, .int p1]) (n := 4) (Nat.le_of_ble_eq_true rfl)
  rw [lg_entry_eq]
  generalize (lg_sl ([.ref m0, .int p0, .int p1]) ++ List.replicate (4 - (lg_sl ([.ref m0, .int p0, .int p1])).length) Slot.unset).toArray = ls at hl ⊢
  have hl : lv_has ls 4 [(0, .ref m0), (1, .int p0), (2, .int p1)] := hl
  rcases qPl_r (g := gr) (v := p0) (z := if p1 = 0 then 1 else 0) nr with hq | ⟨k, hk, hq, hv⟩ <;> by_cases hz : p1 = 0
  · rw [if_pos hz] at hq
    refine lv_aload_n hx hb dX2_drop_0 rfl (lv_at hl 0 rfl) ?_
    refine va_get (D := (dC, dI)) (ci := 2) (v := .ref c2) (C := RX2) (T := TX2) (N := 8) hx hb hts inX2_drop_X2 hown hK hP 0 rfl rfl 1 (by decide) (hts (.fieldLink RX2 13 "QueueHallModel" "ring" "[I") (List.mem_of_getElem? (i := 1) (by decide +kernel))) (fun _ h9 => h9) rfl dX2_drop_1 ?_
    refine lv_aload_n hx hb dX2_drop_4 rfl (lv_at hl 0 rfl) ?_
    refine va_get (D := (dC, dI)) (ci := 2) (v := .int (nI nr)) (C := RX2) (T := TX2) (N := 8) hx hb hts inX2_drop_X2 hown hK hP 0 rfl rfl 4 (by decide) (hts (.fieldLink RX2 29 "QueueHallModel" "rings" "I") (List.mem_of_getElem? (i := 2) (by decide +kernel))) (fun _ h9 => h9) rfl dX2_drop_5 ?_
    refine lv_iload_n hx hb dX2_drop_8 rfl (lv_at hl 1 rfl) ?_
    refine lv_iload_n hx hb dX2_drop_9 rfl (lv_at hl 2 rfl) ?_
    refine lv_if_ne (tgt := 17) hx hb dX2_drop_10 (by decide) (fun c_0 => absurd (show p1 = (0 : Int32) from hz) c_0) (fun c_1 => ?_)
    refine lv_iconst (v := 1) hx hb dX2_drop_13 (by decide) ?_
    refine lv_goto (tgt := 18) hx hb dX2_drop_14 (by decide) ?_
    have hPc := hP.sub (ws' := [(c2, .inl (cA, 2000, .inl er))]) [2] rfl
    have hKc := hK.sub (tys' := [(cA, .int)]) [0] rfl
    refine q_csiE (va_runS (As := [.ref c2, .int (nI nr), .int p0, .int 1]) (rest := []) ⟨hx, hb, hml, hown, hts⟩ (c_Mod_place l dC dI c2 nr cA er gr p0 1 (by omega) ha2) (cwS 4 hts gX2_drop_X2_place_v rfl rfl rfl (by decide +kernel) ⟨Nat.le_of_ble_eq_true rfl, Nat.le_of_ble_eq_true rfl⟩) ⟨q_blR, fun U hU hW => ⟨rfl, by rw [hU]; exact hPc, va_K.moved hW.alike hKc⟩⟩ rfl rfl hl.1 rfl (lv_room (Nat.le_of_ble_eq_true rfl)) dX2_drop_18 ⟨Nat.le_of_ble_eq_true rfl, Nat.le_of_ble_eq_true rfl⟩) ?_
    refine q_top (y := -1) hq ?_
    refine lv_istore_n (lv' := [(3, .int (-1)), (0, .ref m0), (1, .int p0), (2, .int p1)]) hx hb dX2_drop_21 rfl hl (by decide) rfl (fun ls hl => ?_)
    refine lv_iload_n hx hb dX2_drop_22 rfl (lv_at hl 0 rfl) ?_
    refine lv_if_ge (tgt := 28) hx hb dX2_drop_23 (by decide) (fun c_0 => absurd c_0 (show ¬ (0 : Int32) ≤ (-1 : Int32) from (by decide))) (fun c_2 => ?_)
    refine lv_iconst (v := 0) hx hb dX2_drop_26 (by decide) ?_
    exact W.zret (v := 0) hx hb hr rfl (fun t ht hW => ⟨⟨0, ((gh, nh), (gr, nr), (gk, nk), fi, me), rfl, (by simp only [qDrop, if_pos hz, hq, if_pos (show (-1 : Int32) < 0 by decide)]), eh, er, ek, ha1, ha2, ha3, by rw [ht]; exact hP, va_K.moved hW.alike hK, hD⟩, hS.F ht⟩) hS.2.2 dX2_drop_27
  · rw [if_neg hz] at hq
    refine lv_aload_n hx hb dX2_drop_0 rfl (lv_at hl 0 rfl) ?_
    refine va_get (D := (dC, dI)) (ci := 2) (v := .ref c2) (C := RX2) (T := TX2) (N := 8) hx hb hts inX2_drop_X2 hown hK hP 0 rfl rfl 1 (by decide) (hts (.fieldLink RX2 13 "QueueHallModel" "ring" "[I") (List.mem_of_getElem? (i := 1) (by decide +kernel))) (fun _ h9 => h9) rfl dX2_drop_1 ?_
    refine lv_aload_n hx hb dX2_drop_4 rfl (lv_at hl 0 rfl) ?_
    refine va_get (D := (dC, dI)) (ci := 2) (v := .int (nI nr)) (C := RX2) (T := TX2) (N := 8) hx hb hts inX2_drop_X2 hown hK hP 0 rfl rfl 4 (by decide) (hts (.fieldLink RX2 29 "QueueHallModel" "rings" "I") (List.mem_of_getElem? (i := 2) (by decide +kernel))) (fun _ h9 => h9) rfl dX2_drop_5 ?_
    refine lv_iload_n hx hb dX2_drop_8 rfl (lv_at hl 1 rfl) ?_
    refine lv_iload_n hx hb dX2_drop_9 rfl (lv_at hl 2 rfl) ?_
    refine lv_if_ne (tgt := 17) hx hb dX2_drop_10 (by decide) (fun c_3 => ?_) (fun c_0 => absurd c_0 (show ¬ p1 = (0 : Int32) from hz))
    refine lv_iconst (v := 0) hx hb dX2_drop_17 (by decide) ?_
    have hPc := hP.sub (ws' := [(c2, .inl (cA, 2000, .inl er))]) [2] rfl
    have hKc := hK.sub (tys' := [(cA, .int)]) [0] rfl
    refine q_csiE (va_runS (As := [.ref c2, .int (nI nr), .int p0, .int 0]) (rest := []) ⟨hx, hb, hml, hown, hts⟩ (c_Mod_place l dC dI c2 nr cA er gr p0 0 (by omega) ha2) (cwS 4 hts gX2_drop_X2_place_v rfl rfl rfl (by decide +kernel) ⟨Nat.le_of_ble_eq_true rfl, Nat.le_of_ble_eq_true rfl⟩) ⟨q_blR, fun U hU hW => ⟨rfl, by rw [hU]; exact hPc, va_K.moved hW.alike hKc⟩⟩ rfl rfl hl.1 rfl (lv_room (Nat.le_of_ble_eq_true rfl)) dX2_drop_18 ⟨Nat.le_of_ble_eq_true rfl, Nat.le_of_ble_eq_true rfl⟩) ?_
    refine q_top (y := -1) hq ?_
    refine lv_istore_n (lv' := [(3, .int (-1)), (0, .ref m0), (1, .int p0), (2, .int p1)]) hx hb dX2_drop_21 rfl hl (by decide) rfl (fun ls hl => ?_)
    refine lv_iload_n hx hb dX2_drop_22 rfl (lv_at hl 0 rfl) ?_
    refine lv_if_ge (tgt := 28) hx hb dX2_drop_23 (by decide) (fun c_0 => absurd c_0 (show ¬ (0 : Int32) ≤ (-1 : Int32) from (by decide))) (fun c_4 => ?_)
    refine lv_iconst (v := 0) hx hb dX2_drop_26 (by decide) ?_
    exact W.zret (v := 0) hx hb hr rfl (fun t ht hW => ⟨⟨0, ((gh, nh), (gr, nr), (gk, nk), fi, me), rfl, (by simp only [qDrop, if_neg hz, hq, if_pos (show (-1 : Int32) < 0 by decide)]), eh, er, ek, ha1, ha2, ha3, by rw [ht]; exact hP, va_K.moved hW.alike hK, hD⟩, hS.F ht⟩) hS.2.2 dX2_drop_27
  · rw [if_pos hz] at hq
    refine lv_aload_n hx hb dX2_drop_0 rfl (lv_at hl 0 rfl) ?_
    refine va_get (D := (dC, dI)) (ci := 2) (v := .ref c2) (C := RX2) (T := TX2) (N := 8) hx hb hts inX2_drop_X2 hown hK hP 0 rfl rfl 1 (by decide) (hts (.fieldLink RX2 13 "QueueHallModel" "ring" "[I") (List.mem_of_getElem? (i := 1) (by decide +kernel))) (fun _ h9 => h9) rfl dX2_drop_1 ?_
    refine lv_aload_n hx hb dX2_drop_4 rfl (lv_at hl 0 rfl) ?_
    refine va_get (D := (dC, dI)) (ci := 2) (v := .int (nI nr)) (C := RX2) (T := TX2) (N := 8) hx hb hts inX2_drop_X2 hown hK hP 0 rfl rfl 4 (by decide) (hts (.fieldLink RX2 29 "QueueHallModel" "rings" "I") (List.mem_of_getElem? (i := 2) (by decide +kernel))) (fun _ h9 => h9) rfl dX2_drop_5 ?_
    refine lv_iload_n hx hb dX2_drop_8 rfl (lv_at hl 1 rfl) ?_
    refine lv_iload_n hx hb dX2_drop_9 rfl (lv_at hl 2 rfl) ?_
    refine lv_if_ne (tgt := 17) hx hb dX2_drop_10 (by decide) (fun c_0 => absurd (show p1 = (0 : Int32) from hz) c_0) (fun c_5 => ?_)
    refine lv_iconst (v := 1) hx hb dX2_drop_13 (by decide) ?_
    refine lv_goto (tgt := 18) hx hb dX2_drop_14 (by decide) ?_
    have hPc := hP.sub (ws' := [(c2, .inl (cA, 2000, .inl er))]) [2] rfl
    have hKc := hK.sub (tys' := [(cA, .int)]) [0] rfl
    refine q_csiE (va_runS (As := [.ref c2, .int (nI nr), .int p0, .int 1]) (rest := []) ⟨hx, hb, hml, hown, hts⟩ (c_Mod_place l dC dI c2 nr cA er gr p0 1 (by omega) ha2) (cwS 4 hts gX2_drop_X2_place_v rfl rfl rfl (by decide +kernel) ⟨Nat.le_of_ble_eq_true rfl, Nat.le_of_ble_eq_true rfl⟩) ⟨q_blR, fun U hU hW => ⟨rfl, by rw [hU]; exact hPc, va_K.moved hW.alike hKc⟩⟩ rfl rfl hl.1 rfl (lv_room (Nat.le_of_ble_eq_true rfl)) dX2_drop_18 ⟨Nat.le_of_ble_eq_true rfl, Nat.le_of_ble_eq_true rfl⟩) ?_
    refine q_top (y := nI k) hq ?_
    refine lv_istore_n (lv' := [(3, .int (nI k)), (0, .ref m0), (1, .int p0), (2, .int p1)]) hx hb dX2_drop_21 rfl hl (by decide) rfl (fun ls hl => ?_)
    refine lv_iload_n hx hb dX2_drop_22 rfl (lv_at hl 0 rfl) ?_
    refine lv_if_ge (tgt := 28) hx hb dX2_drop_23 (by decide) (fun c_6 => ?_) (fun c_0 => absurd (show (0 : Int32) ≤ (nI k) from (by simp (disch := omega) only [ti_lt, ti_le, ti_eq, ti_0, ti_1, ti_2, ti_m1, ti_100, ti_2000, nI_toInt] <;> omega)) c_0)
    have k_6 : k ≥ 0 := by
      simp (disch := omega) only [ti_lt, ti_le, ti_eq, ti_0, ti_1, ti_2, ti_m1, ti_100, ti_2000, nI_toInt] at c_6
      omega
    refine lv_aload_n hx hb dX2_drop_28 rfl (lv_at hl 1 rfl) ?_
    refine va_get (D := (dC, dI)) (ci := 2) (v := .ref c2) (C := RX2) (T := TX2) (N := 8) hx hb hts inX2_drop_X2 hown hK hP 0 rfl rfl 1 (by decide) (hts (.fieldLink RX2 13 "QueueHallModel" "ring" "[I") (List.mem_of_getElem? (i := 1) (by decide +kernel))) (fun _ h9 => h9) rfl dX2_drop_29 ?_
    refine lv_aload_n hx hb dX2_drop_32 rfl (lv_at hl 1 rfl) ?_
    refine va_get (D := (dC, dI)) (ci := 2) (v := .int (nI nr)) (C := RX2) (T := TX2) (N := 8) hx hb hts inX2_drop_X2 hown hK hP 0 rfl rfl 4 (by decide) (hts (.fieldLink RX2 29 "QueueHallModel" "rings" "I") (List.mem_of_getElem? (i := 2) (by decide +kernel))) (fun _ h9 => h9) rfl dX2_drop_33 ?_
    refine lv_iload_n hx hb dX2_drop_36 rfl (lv_at hl 0 rfl) ?_
    have hPc := hP.sub (ws' := [(c2, .inl (cA, 2000, .inl er))]) [2] rfl
    have hKc := hK.sub (tys' := [(cA, .int)]) [0] rfl
    have hDc := hD.sub (ws' := [(c2, .inl (cA, 2000, .inl er))]) [2] (by decide) rfl
    have hFc := va_free (wc := [(c2, .inl (cA, 2000, .inl er))]) hD hS hA [2] rfl
    refine va_callv (va_runS (As := [.ref c2, .int (nI nr), .int (nI k)]) (rest := []) ⟨hx, hb, hml, hown, hts⟩ (c_Mod_take l dC dI s.heap.size c2 nr k cA er gr (by omega) (by omega) ha2) (cwS 3 hts gX2_drop_X2_take_v rfl rfl rfl (by decide +kernel) ⟨Nat.le_of_ble_eq_true rfl, Nat.le_of_ble_eq_true rfl⟩) ⟨q_blW, fun U hU hW => ⟨rfl, by rw [hU], by rw [hU]; exact hPc, va_K.moved hW.alike hKc, hDc.weaken (fun _ _ _ _ => trivial)⟩⟩ rfl rfl hl.1 rfl (lv_room (Nat.le_of_ble_eq_true rfl)) dX2_drop_37 ⟨Nat.le_of_ble_eq_true rfl, Nat.le_of_ble_eq_true rfl⟩) hS (fun q _ h => hFc q h) hFc (fun u_7 t_7 H1 locs ht hvm hw hB hz1 hk1 hS => ?_)
    subst hw
    obtain ⟨f_7, hg_7, hP1, hK1, hD1⟩ := hB
    rw [ht] at hP1
    obtain ⟨hP, hD⟩ := q_join (wr := [(m0, .inr (2, [.ref c1, .ref c2, .ref c3, .int (nI nh), .int (nI nr), .int (nI nk), .int fi, .int me])), (c1, .inl (cA, 2000, .inl eh)), (c3, .inl (cA, 2000, .inl ek))]) (w1 := [(c2, .inl (cA, 2000, .inl f_7))]) (wz := [(m0, .inr (2, [.ref c1, .ref c2, .ref c3, .int (nI nh), .int (nI nr), .int (nI nk), .int fi, .int me])), (c1, .inl (cA, 2000, .inl eh)), (c2, .inl (cA, 2000, .inl f_7)), (c3, .inl (cA, 2000, .inl ek))]) hP hD [2] [0, 1, 3] [0, 1, 3, 2] rfl rfl (by decide) (by decide) hk1 hFc hP1 hD1 rfl rfl (by decide)
    generalize H1 = H at hP hS ⊢
    refine lv_aload_n hx hb dX2_drop_40 rfl (lv_at hl 1 rfl) ?_
    refine lv_dup hx hb dX2_drop_41 rfl ?_
    refine va_get (D := (dC, dI)) (ci := 2) (v := .int (nI nr)) (C := RX2) (T := TX2) (N := 8) hx hb hts inX2_drop_X2 hown hK hP 0 rfl rfl 4 (by decide) (hts (.fieldLink RX2 29 "QueueHallModel" "rings" "I") (List.mem_of_getElem? (i := 2) (by decide +kernel))) (fun _ h9 => h9) rfl dX2_drop_42 ?_
    refine lv_iconst (v := 1) hx hb dX2_drop_45 (by decide) ?_
    refine lv_isub hx hb dX2_drop_46 ?_
    refine q_top (y := nI (nr - 1)) (q_m1 (by omega)) ?_
    refine va_put (D := (dC, dI)) (ci := 2) (v := .int (nI (nr - 1))) (ty := .int) (C := RX2) (T := TX2) (N := 8) hx hb hts inX2_drop_X2 tyX2 tyX2_ok nmX2 hown hK hP hD hS 0 rfl rfl 4 (by decide) (hts (.fieldLink RX2 29 "QueueHallModel" "rings" "I") (List.mem_of_getElem? (i := 2) (by decide +kernel))) (fun _ h9 => h9) rfl (by decide +kernel) rfl rfl (Nat.le_of_ble_eq_true rfl) dX2_drop_47 (fun H locs hP hD hS => ?_)
    have hP : va_P (dC, dI) vwCl [(m0, .inr (2, [.ref c1, .ref c2, .ref c3, .int (nI nh), .int (nI (nr - 1)), .int (nI nk), .int fi, .int me])), (c1, .inl (cA, 2000, .inl eh)), (c2, .inl (cA, 2000, .inl f_7)), (c3, .inl (cA, 2000, .inl ek))] H := hP
    have hD : va_D A [(m0, .inr (2, [.ref c1, .ref c2, .ref c3, .int (nI nh), .int (nI (nr - 1)), .int (nI nk), .int fi, .int me])), (c1, .inl (cA, 2000, .inl eh)), (c2, .inl (cA, 2000, .inl f_7)), (c3, .inl (cA, 2000, .inl ek))] := hD
    refine lv_iconst (v := 1) hx hb dX2_drop_50 (by decide) ?_
    exact W.zret (v := 1) hx hb hr rfl (fun t ht hW => ⟨⟨1, ((gh, nh), (qDel gr k, nr - 1), (gk, nk), fi, me), rfl, (by simp only [qDrop, if_pos hz, hq, if_neg (nI_pos (show k < 2 ^ 31 by omega)), nI_clamp (show k < 2 ^ 31 by omega)]), eh, f_7, ek, ha1, hg_7, ha3, by rw [ht]; exact hP, va_K.moved hW.alike hK, hD⟩, hS.F ht⟩) hS.2.2 dX2_drop_51
  · rw [if_neg hz] at hq
    refine lv_aload_n hx hb dX2_drop_0 rfl (lv_at hl 0 rfl) ?_
    refine va_get (D := (dC, dI)) (ci := 2) (v := .ref c2) (C := RX2) (T := TX2) (N := 8) hx hb hts inX2_drop_X2 hown hK hP 0 rfl rfl 1 (by decide) (hts (.fieldLink RX2 13 "QueueHallModel" "ring" "[I") (List.mem_of_getElem? (i := 1) (by decide +kernel))) (fun _ h9 => h9) rfl dX2_drop_1 ?_
    refine lv_aload_n hx hb dX2_drop_4 rfl (lv_at hl 0 rfl) ?_
    refine va_get (D := (dC, dI)) (ci := 2) (v := .int (nI nr)) (C := RX2) (T := TX2) (N := 8) hx hb hts inX2_drop_X2 hown hK hP 0 rfl rfl 4 (by decide) (hts (.fieldLink RX2 29 "QueueHallModel" "rings" "I") (List.mem_of_getElem? (i := 2) (by decide +kernel))) (fun _ h9 => h9) rfl dX2_drop_5 ?_
    refine lv_iload_n hx hb dX2_drop_8 rfl (lv_at hl 1 rfl) ?_
    refine lv_iload_n hx hb dX2_drop_9 rfl (lv_at hl 2 rfl) ?_
    refine lv_if_ne (tgt := 17) hx hb dX2_drop_10 (by decide) (fun c_8 => ?_) (fun c_0 => absurd c_0 (show ¬ p1 = (0 : Int32) from hz))
    refine lv_iconst (v := 0) hx hb dX2_drop_17 (by decide) ?_
    have hPc := hP.sub (ws' := [(c2, .inl (cA, 2000, .inl er))]) [2] rfl
    have hKc := hK.sub (tys' := [(cA, .int)]) [0] rfl
    refine q_csiE (va_runS (As := [.ref c2, .int (nI nr), .int p0, .int 0]) (rest := []) ⟨hx, hb, hml, hown, hts⟩ (c_Mod_place l dC dI c2 nr cA er gr p0 0 (by omega) ha2) (cwS 4 hts gX2_drop_X2_place_v rfl rfl rfl (by decide +kernel) ⟨Nat.le_of_ble_eq_true rfl, Nat.le_of_ble_eq_true rfl⟩) ⟨q_blR, fun U hU hW => ⟨rfl, by rw [hU]; exact hPc, va_K.moved hW.alike hKc⟩⟩ rfl rfl hl.1 rfl (lv_room (Nat.le_of_ble_eq_true rfl)) dX2_drop_18 ⟨Nat.le_of_ble_eq_true rfl, Nat.le_of_ble_eq_true rfl⟩) ?_
    refine q_top (y := nI k) hq ?_
    refine lv_istore_n (lv' := [(3, .int (nI k)), (0, .ref m0), (1, .int p0), (2, .int p1)]) hx hb dX2_drop_21 rfl hl (by decide) rfl (fun ls hl => ?_)
    refine lv_iload_n hx hb dX2_drop_22 rfl (lv_at hl 0 rfl) ?_
    refine lv_if_ge (tgt := 28) hx hb dX2_drop_23 (by decide) (fun c_9 => ?_) (fun c_0 => absurd (show (0 : Int32) ≤ (nI k) from (by simp (disch := omega) only [ti_lt, ti_le, ti_eq, ti_0, ti_1, ti_2, ti_m1, ti_100, ti_2000, nI_toInt] <;> omega)) c_0)
    have k_9 : k ≥ 0 := by
      simp (disch := omega) only [ti_lt, ti_le, ti_eq, ti_0, ti_1, ti_2, ti_m1, ti_100, ti_2000, nI_toInt] at c_9
      omega
    refine lv_aload_n hx hb dX2_drop_28 rfl (lv_at hl 1 rfl) ?_
    refine va_get (D := (dC, dI)) (ci := 2) (v := .ref c2) (C := RX2) (T := TX2) (N := 8) hx hb hts inX2_drop_X2 hown hK hP 0 rfl rfl 1 (by decide) (hts (.fieldLink RX2 13 "QueueHallModel" "ring" "[I") (List.mem_of_getElem? (i := 1) (by decide +kernel))) (fun _ h9 => h9) rfl dX2_drop_29 ?_
    refine lv_aload_n hx hb dX2_drop_32 rfl (lv_at hl 1 rfl) ?_
    refine va_get (D := (dC, dI)) (ci := 2) (v := .int (nI nr)) (C := RX2) (T := TX2) (N := 8) hx hb hts inX2_drop_X2 hown hK hP 0 rfl rfl 4 (by decide) (hts (.fieldLink RX2 29 "QueueHallModel" "rings" "I") (List.mem_of_getElem? (i := 2) (by decide +kernel))) (fun _ h9 => h9) rfl dX2_drop_33 ?_
    refine lv_iload_n hx hb dX2_drop_36 rfl (lv_at hl 0 rfl) ?_
    have hPc := hP.sub (ws' := [(c2, .inl (cA, 2000, .inl er))]) [2] rfl
    have hKc := hK.sub (tys' := [(cA, .int)]) [0] rfl
    have hDc := hD.sub (ws' := [(c2, .inl (cA, 2000, .inl er))]) [2] (by decide) rfl
    have hFc := va_free (wc := [(c2, .inl (cA, 2000, .inl er))]) hD hS hA [2] rfl
    refine va_callv (va_runS (As := [.ref c2, .int (nI nr), .int (nI k)]) (rest := []) ⟨hx, hb, hml, hown, hts⟩ (c_Mod_take l dC dI s.heap.size c2 nr k cA er gr (by omega) (by omega) ha2) (cwS 3 hts gX2_drop_X2_take_v rfl rfl rfl (by decide +kernel) ⟨Nat.le_of_ble_eq_true rfl, Nat.le_of_ble_eq_true rfl⟩) ⟨q_blW, fun U hU hW => ⟨rfl, by rw [hU], by rw [hU]; exact hPc, va_K.moved hW.alike hKc, hDc.weaken (fun _ _ _ _ => trivial)⟩⟩ rfl rfl hl.1 rfl (lv_room (Nat.le_of_ble_eq_true rfl)) dX2_drop_37 ⟨Nat.le_of_ble_eq_true rfl, Nat.le_of_ble_eq_true rfl⟩) hS (fun q _ h => hFc q h) hFc (fun u_10 t_10 H1 locs ht hvm hw hB hz1 hk1 hS => ?_)
    subst hw
    obtain ⟨f_10, hg_10, hP1, hK1, hD1⟩ := hB
    rw [ht] at hP1
    obtain ⟨hP, hD⟩ := q_join (wr := [(m0, .inr (2, [.ref c1, .ref c2, .ref c3, .int (nI nh), .int (nI nr), .int (nI nk), .int fi, .int me])), (c1, .inl (cA, 2000, .inl eh)), (c3, .inl (cA, 2000, .inl ek))]) (w1 := [(c2, .inl (cA, 2000, .inl f_10))]) (wz := [(m0, .inr (2, [.ref c1, .ref c2, .ref c3, .int (nI nh), .int (nI nr), .int (nI nk), .int fi, .int me])), (c1, .inl (cA, 2000, .inl eh)), (c2, .inl (cA, 2000, .inl f_10)), (c3, .inl (cA, 2000, .inl ek))]) hP hD [2] [0, 1, 3] [0, 1, 3, 2] rfl rfl (by decide) (by decide) hk1 hFc hP1 hD1 rfl rfl (by decide)
    generalize H1 = H at hP hS ⊢
    refine lv_aload_n hx hb dX2_drop_40 rfl (lv_at hl 1 rfl) ?_
    refine lv_dup hx hb dX2_drop_41 rfl ?_
    refine va_get (D := (dC, dI)) (ci := 2) (v := .int (nI nr)) (C := RX2) (T := TX2) (N := 8) hx hb hts inX2_drop_X2 hown hK hP 0 rfl rfl 4 (by decide) (hts (.fieldLink RX2 29 "QueueHallModel" "rings" "I") (List.mem_of_getElem? (i := 2) (by decide +kernel))) (fun _ h9 => h9) rfl dX2_drop_42 ?_
    refine lv_iconst (v := 1) hx hb dX2_drop_45 (by decide) ?_
    refine lv_isub hx hb dX2_drop_46 ?_
    refine q_top (y := nI (nr - 1)) (q_m1 (by omega)) ?_
    refine va_put (D := (dC, dI)) (ci := 2) (v := .int (nI (nr - 1))) (ty := .int) (C := RX2) (T := TX2) (N := 8) hx hb hts inX2_drop_X2 tyX2 tyX2_ok nmX2 hown hK hP hD hS 0 rfl rfl 4 (by decide) (hts (.fieldLink RX2 29 "QueueHallModel" "rings" "I") (List.mem_of_getElem? (i := 2) (by decide +kernel))) (fun _ h9 => h9) rfl (by decide +kernel) rfl rfl (Nat.le_of_ble_eq_true rfl) dX2_drop_47 (fun H locs hP hD hS => ?_)
    have hP : va_P (dC, dI) vwCl [(m0, .inr (2, [.ref c1, .ref c2, .ref c3, .int (nI nh), .int (nI (nr - 1)), .int (nI nk), .int fi, .int me])), (c1, .inl (cA, 2000, .inl eh)), (c2, .inl (cA, 2000, .inl f_10)), (c3, .inl (cA, 2000, .inl ek))] H := hP
    have hD : va_D A [(m0, .inr (2, [.ref c1, .ref c2, .ref c3, .int (nI nh), .int (nI (nr - 1)), .int (nI nk), .int fi, .int me])), (c1, .inl (cA, 2000, .inl eh)), (c2, .inl (cA, 2000, .inl f_10)), (c3, .inl (cA, 2000, .inl ek))] := hD
    refine lv_iconst (v := 1) hx hb dX2_drop_50 (by decide) ?_
    exact W.zret (v := 1) hx hb hr rfl (fun t ht hW => ⟨⟨1, ((gh, nh), (qDel gr k, nr - 1), (gk, nk), fi, me), rfl, (by simp only [qDrop, if_neg hz, hq, if_neg (nI_pos (show k < 2 ^ 31 by omega)), nI_clamp (show k < 2 ^ 31 by omega)]), eh, f_10, ek, ha1, hg_10, ha3, by rw [ht]; exact hP, va_K.moved hW.alike hK, hD⟩, hS.F ht⟩) hS.2.2 dX2_drop_51

