set_option maxHeartbeats 4000000 in
set_option maxRecDepth 100000 in
theorem law_15 {p : Program} {l : Launch} {e : Env} {s : State} {m : MethodId} {below : List Frame} {meth : Method} {c : Code} {dC : Nat → ClassId} {dI : Nat → Nat → Nat} {b L x0 a1 b1 a2 b2 a3 b3 m0 c1 c2 c3 : Nat} {cA : ClassId} {xs : Nat → Int32} (hL : L ≤ 2048) (C0 : lw_At p s m meth c b L xs) (hK : va_K (dC, dI) vwCl [(cA, .int)] s) {i t : Nat} (ht : i = 4 * t) (hi : i + 4 ≤ L) (hk : lw_K p l e s m below meth c dC dI b x0 a1 b1 a2 b2 a3 b3 m0 c1 c2 c3 cA 899 i (t + 1)) : lw_K p l e s m below meth c dC dI b x0 a1 b1 a2 b2 a3 b3 m0 c1 c2 c3 cA 692 i t := by
  obtain ⟨hx, hb, hr, hml, hown, hts, hX, hbl, hlocks, hgv⟩ := id C0
  have hN := law_nest hts
  have hA : ∀ q : Nat, s.heap.size ≤ q → (fun q : Nat => s.heap.size ≤ q) q := fun _ h => h
  have hbA : ¬ (fun q : Nat => s.heap.size ≤ q) b := Nat.not_le.mpr hbl
  intro gh gr gk fh fr fk eh er ek nh nr nk fi me hI ha1 ha2 ha3 hb1 hb2 hb3 H locs hP hD hS ls hl
  obtain ⟨hn, hs, hF⟩ := id hI
  refine lv_aload_n hx hb dL_law_692 rfl (lv_at hl 1 rfl) ?_
  refine lv_aload_n hx hb dL_law_693 rfl (lv_at hl 0 rfl) ?_
  refine lv_iload_n hx hb dL_law_694 rfl (lv_at hl 3 rfl) ?_
  refine lv_iconst (v := 1) hx hb dL_law_695 (by decide) ?_
  refine lv_iadd hx hb dL_law_696 ?_
  refine q_top (y := nI (i + 1)) (nI_1 i) ?_
  refine q_sld (k := i + 1) hx hb hX hbl hbA hS (by omega) (by omega) dL_law_697 ?_
  refine lv_aload_n hx hb dL_law_698 rfl (lv_at hl 0 rfl) ?_
  refine lv_iload_n hx hb dL_law_699 rfl (lv_at hl 3 rfl) ?_
  refine lv_iconst (v := 2) hx hb dL_law_700 (by decide) ?_
  refine lv_iadd hx hb dL_law_701 ?_
  refine q_top (y := nI (i + 2)) (nI_add i 2) ?_
  refine q_sld (k := i + 2) hx hb hX hbl hbA hS (by omega) (by omega) dL_law_702 ?_
  refine lv_if_eq (tgt := 710) hx hb dL_law_703 (by decide) (fun c_1 => ?_) (fun c_1 => ?_)
  · refine lv_iconst (v := 0) hx hb dL_law_710 (by decide) ?_
    have hPc := hP.sub (ws' := [(x0, .inr (1, [.ref a1, .ref a2, .ref a3, .int fi, .int me])), (a1, .inr (0, [.ref b1, .int (nI nh)])), (b1, .inl (cA, 2100, .inl fh)), (a2, .inr (0, [.ref b2, .int (nI nr)])), (b2, .inl (cA, 2100, .inl fr)), (a3, .inr (0, [.ref b3, .int (nI nk)])), (b3, .inl (cA, 2100, .inl fk))]) [0, 1, 2, 3, 4, 5, 6] rfl
    have hKc := hK.sub (tys' := [(cA, .int)]) [0] rfl
    refine q_csiE (va_runV (As := [.int (xs (i + 1)), .int 0]) (rest := []) ⟨hx, hb, hml, hown, hts⟩ (c_Hall_find l dC dI x0 a1 b1 a2 b2 a3 b3 nh nr nk cA fh gh fr gr fk gk fi me (xs (i + 1)) 0 (by omega) ha1 ha2 ha3 hF) (cwV 2 hts gL_law_X1_find_v rfl rfl rfl (by decide +kernel) ⟨Nat.le_of_ble_eq_true rfl, Nat.le_of_ble_eq_true rfl⟩) ⟨q_blRN, va_recv hKc hPc (ci := 1) (q0 := 0) rfl rfl, fun U hU hW => ⟨rfl, by rw [hU]; exact hPc, va_K.moved hW.alike hKc, hN.warm hW⟩⟩ rfl rfl hl.1 rfl (lv_room (Nat.le_of_ble_eq_true rfl)) dL_law_711 ⟨by decide +kernel, by decide +kernel⟩) ?_
    refine lv_aload_n hx hb dL_law_714 rfl (lv_at hl 2 rfl) ?_
    refine lv_aload_n hx hb dL_law_715 rfl (lv_at hl 0 rfl) ?_
    refine lv_iload_n hx hb dL_law_716 rfl (lv_at hl 3 rfl) ?_
    refine lv_iconst (v := 1) hx hb dL_law_717 (by decide) ?_
    refine lv_iadd hx hb dL_law_718 ?_
    refine q_top (y := nI (i + 1)) (nI_1 i) ?_
    refine q_sld (k := i + 1) hx hb hX hbl hbA hS (by omega) (by omega) dL_law_719 ?_
    refine lv_aload_n hx hb dL_law_720 rfl (lv_at hl 0 rfl) ?_
    refine lv_iload_n hx hb dL_law_721 rfl (lv_at hl 3 rfl) ?_
    refine lv_iconst (v := 2) hx hb dL_law_722 (by decide) ?_
    refine lv_iadd hx hb dL_law_723 ?_
    refine q_top (y := nI (i + 2)) (nI_add i 2) ?_
    refine q_sld (k := i + 2) hx hb hX hbl hbA hS (by omega) (by omega) dL_law_724 ?_
    refine lv_if_eq (tgt := 732) hx hb dL_law_725 (by decide) (fun c_2 => ?_) (fun c_0 => absurd (show (xs (i + 2)) = (0 : Int32) from c_1) c_0)
    refine lv_iconst (v := 0) hx hb dL_law_732 (by decide) ?_
    have hPc := hP.sub (ws' := [(m0, .inr (2, [.ref c1, .ref c2, .ref c3, .int (nI nh), .int (nI nr), .int (nI nk), .int fi, .int me])), (c1, .inl (cA, 2000, .inl eh)), (c2, .inl (cA, 2000, .inl er)), (c3, .inl (cA, 2000, .inl ek))]) [7, 8, 9, 10] rfl
    have hKc := hK.sub (tys' := [(cA, .int)]) [0] rfl
    refine q_csiE (va_runV (As := [.int (xs (i + 1)), .int 0]) (rest := [.int ((qFind (xs (i + 1)) 0 ((gh, nh), (gr, nr), (gk, nk), fi, me)).1)]) ⟨hx, hb, hml, hown, hts⟩ (c_Mod_find l dC dI m0 c1 c2 c3 nh nr nk cA eh gh er gr ek gk fi me (xs (i + 1)) 0 (by omega) hb1 hb2 hb3 hF) (cwV 2 hts gL_law_X2_find_v rfl rfl rfl (by decide +kernel) ⟨Nat.le_of_ble_eq_true rfl, Nat.le_of_ble_eq_true rfl⟩) ⟨q_blR, va_recv hKc hPc (ci := 2) (q0 := 0) rfl rfl, fun U hU hW => ⟨rfl, by rw [hU]; exact hPc, va_K.moved hW.alike hKc⟩⟩ rfl rfl hl.1 rfl (lv_room (Nat.le_of_ble_eq_true rfl)) dL_law_733 ⟨by decide +kernel, by decide +kernel⟩) ?_
    refine lv_icmp_eq (tgt := 899) hx hb dL_law_736 (by decide) (fun c_3 => ?_) (fun c_0 => absurd (show ((qFind (xs (i + 1)) 0 ((gh, nh), (gr, nr), (gk, nk), fi, me)).1) = ((qFind (xs (i + 1)) 0 ((gh, nh), (gr, nr), (gk, nk), fi, me)).1) from rfl) c_0)
    exact hk _ _ _ _ _ _ _ _ _ _ _ _ _ _ (qI_mono hI (by omega)) ha1 ha2 ha3 hb1 hb2 hb3 _ _ hP hD hS ls (lv_sub hl [0, 1, 2, 3] rfl)
  · refine lv_iconst (v := 1) hx hb dL_law_706 (by decide) ?_
    refine lv_goto (tgt := 711) hx hb dL_law_707 (by decide) ?_
    have hPc := hP.sub (ws' := [(x0, .inr (1, [.ref a1, .ref a2, .ref a3, .int fi, .int me])), (a1, .inr (0, [.ref b1, .int (nI nh)])), (b1, .inl (cA, 2100, .inl fh)), (a2, .inr (0, [.ref b2, .int (nI nr)])), (b2, .inl (cA, 2100, .inl fr)), (a3, .inr (0, [.ref b3, .int (nI nk)])), (b3, .inl (cA, 2100, .inl fk))]) [0, 1, 2, 3, 4, 5, 6] rfl
    have hKc := hK.sub (tys' := [(cA, .int)]) [0] rfl
    refine q_csiE (va_runV (As := [.int (xs (i + 1)), .int 1]) (rest := []) ⟨hx, hb, hml, hown, hts⟩ (c_Hall_find l dC dI x0 a1 b1 a2 b2 a3 b3 nh nr nk cA fh gh fr gr fk gk fi me (xs (i + 1)) 1 (by omega) ha1 ha2 ha3 hF) (cwV 2 hts gL_law_X1_find_v rfl rfl rfl (by decide +kernel) ⟨Nat.le_of_ble_eq_true rfl, Nat.le_of_ble_eq_true rfl⟩) ⟨q_blRN, va_recv hKc hPc (ci := 1) (q0 := 0) rfl rfl, fun U hU hW => ⟨rfl, by rw [hU]; exact hPc, va_K.moved hW.alike hKc, hN.warm hW⟩⟩ rfl rfl hl.1 rfl (lv_room (Nat.le_of_ble_eq_true rfl)) dL_law_711 ⟨by decide +kernel, by decide +kernel⟩) ?_
    refine lv_aload_n hx hb dL_law_714 rfl (lv_at hl 2 rfl) ?_
    refine lv_aload_n hx hb dL_law_715 rfl (lv_at hl 0 rfl) ?_
    refine lv_iload_n hx hb dL_law_716 rfl (lv_at hl 3 rfl) ?_
    refine lv_iconst (v := 1) hx hb dL_law_717 (by decide) ?_
    refine lv_iadd hx hb dL_law_718 ?_
    refine q_top (y := nI (i + 1)) (nI_1 i) ?_
    refine q_sld (k := i + 1) hx hb hX hbl hbA hS (by omega) (by omega) dL_law_719 ?_
    refine lv_aload_n hx hb dL_law_720 rfl (lv_at hl 0 rfl) ?_
    refine lv_iload_n hx hb dL_law_721 rfl (lv_at hl 3 rfl) ?_
    refine lv_iconst (v := 2) hx hb dL_law_722 (by decide) ?_
    refine lv_iadd hx hb dL_law_723 ?_
    refine q_top (y := nI (i + 2)) (nI_add i 2) ?_
    refine q_sld (k := i + 2) hx hb hX hbl hbA hS (by omega) (by omega) dL_law_724 ?_
    refine lv_if_eq (tgt := 732) hx hb dL_law_725 (by decide) (fun c_0 => absurd c_0 (show ¬ (xs (i + 2)) = (0 : Int32) from c_1)) (fun c_4 => ?_)
    refine lv_iconst (v := 1) hx hb dL_law_728 (by decide) ?_
    refine lv_goto (tgt := 733) hx hb dL_law_729 (by decide) ?_
    have hPc := hP.sub (ws' := [(m0, .inr (2, [.ref c1, .ref c2, .ref c3, .int (nI nh), .int (nI nr), .int (nI nk), .int fi, .int me])), (c1, .inl (cA, 2000, .inl eh)), (c2, .inl (cA, 2000, .inl er)), (c3, .inl (cA, 2000, .inl ek))]) [7, 8, 9, 10] rfl
    have hKc := hK.sub (tys' := [(cA, .int)]) [0] rfl
    refine q_csiE (va_runV (As := [.int (xs (i + 1)), .int 1]) (rest := [.int ((qFind (xs (i + 1)) 1 ((gh, nh), (gr, nr), (gk, nk), fi, me)).1)]) ⟨hx, hb, hml, hown, hts⟩ (c_Mod_find l dC dI m0 c1 c2 c3 nh nr nk cA eh gh er gr ek gk fi me (xs (i + 1)) 1 (by omega) hb1 hb2 hb3 hF) (cwV 2 hts gL_law_X2_find_v rfl rfl rfl (by decide +kernel) ⟨Nat.le_of_ble_eq_true rfl, Nat.le_of_ble_eq_true rfl⟩) ⟨q_blR, va_recv hKc hPc (ci := 2) (q0 := 0) rfl rfl, fun U hU hW => ⟨rfl, by rw [hU]; exact hPc, va_K.moved hW.alike hKc⟩⟩ rfl rfl hl.1 rfl (lv_room (Nat.le_of_ble_eq_true rfl)) dL_law_733 ⟨by decide +kernel, by decide +kernel⟩) ?_
    refine lv_icmp_eq (tgt := 899) hx hb dL_law_736 (by decide) (fun c_5 => ?_) (fun c_0 => absurd (show ((qFind (xs (i + 1)) 1 ((gh, nh), (gr, nr), (gk, nk), fi, me)).1) = ((qFind (xs (i + 1)) 1 ((gh, nh), (gr, nr), (gk, nk), fi, me)).1) from rfl) c_0)
    exact hk _ _ _ _ _ _ _ _ _ _ _ _ _ _ (qI_mono hI (by omega)) ha1 ha2 ha3 hb1 hb2 hb3 _ _ hP hD hS ls (lv_sub hl [0, 1, 2, 3] rfl)

set_option maxHeartbeats 4000000 in
set_option maxRecDepth 100000 in
theorem law_16 {p : Program} {l : Launch} {e : Env} {s : State} {m : MethodId} {below : List Frame} {meth : Method} {c : Code} {dC : Nat → ClassId} {dI : Nat → Nat → Nat} {b L x0 a1 b1 a2 b2 a3 b3 m0 c1 c2 c3 : Nat} {cA : ClassId} {xs : Nat → Int32} (hL : L ≤ 2048) (C0 : lw_At p s m meth c b L xs) (hK : va_K (dC, dI) vwCl [(cA, .int)] s) {i t : Nat} (ht : i = 4 * t) (hi : i + 4 ≤ L) (hk : lw_K p l e s m below meth c dC dI b x0 a1 b1 a2 b2 a3 b3 m0 c1 c2 c3 cA 899 i (t + 1)) : lw_K p l e s m below meth c dC dI b x0 a1 b1 a2 b2 a3 b3 m0 c1 c2 c3 cA 741 i t := by
  obtain ⟨hx, hb, hr, hml, hown, hts, hX, hbl, hlocks, hgv⟩ := id C0
  have hN := law_nest hts
  have hA : ∀ q : Nat, s.heap.size ≤ q → (fun q : Nat => s.heap.size ≤ q) q := fun _ h => h
  have hbA : ¬ (fun q : Nat => s.heap.size ≤ q) b := Nat.not_le.mpr hbl
  intro gh gr gk fh fr fk eh er ek nh nr nk fi me hI ha1 ha2 ha3 hb1 hb2 hb3 H locs hP hD hS ls hl
  obtain ⟨hn, hs, hF⟩ := id hI
  refine lv_aload_n hx hb dL_law_741 rfl (lv_at hl 1 rfl) ?_
  refine lv_aload_n hx hb dL_law_742 rfl (lv_at hl 0 rfl) ?_
  refine lv_iload_n hx hb dL_law_743 rfl (lv_at hl 3 rfl) ?_
  refine lv_iconst (v := 1) hx hb dL_law_744 (by decide) ?_
  refine lv_iadd hx hb dL_law_745 ?_
  refine q_top (y := nI (i + 1)) (nI_1 i) ?_
  refine q_sld (k := i + 1) hx hb hX hbl hbA hS (by omega) (by omega) dL_law_746 ?_
  have hPc := hP.sub (ws' := [(x0, .inr (1, [.ref a1, .ref a2, .ref a3, .int fi, .int me])), (a1, .inr (0, [.ref b1, .int (nI nh)])), (b1, .inl (cA, 2100, .inl fh)), (a2, .inr (0, [.ref b2, .int (nI nr)])), (b2, .inl (cA, 2100, .inl fr)), (a3, .inr (0, [.ref b3, .int (nI nk)])), (b3, .inl (cA, 2100, .inl fk))]) [0, 1, 2, 3, 4, 5, 6] rfl
  have hKc := hK.sub (tys' := [(cA, .int)]) [0] rfl
  have hDc := hD.sub (ws' := [(x0, .inr (1, [.ref a1, .ref a2, .ref a3, .int fi, .int me])), (a1, .inr (0, [.ref b1, .int (nI nh)])), (b1, .inl (cA, 2100, .inl fh)), (a2, .inr (0, [.ref b2, .int (nI nr)])), (b2, .inl (cA, 2100, .inl fr)), (a3, .inr (0, [.ref b3, .int (nI nk)])), (b3, .inl (cA, 2100, .inl fk))]) [0, 1, 2, 3, 4, 5, 6] (by decide) rfl
  have hFc := va_free (wc := [(x0, .inr (1, [.ref a1, .ref a2, .ref a3, .int fi, .int me])), (a1, .inr (0, [.ref b1, .int (nI nh)])), (b1, .inl (cA, 2100, .inl fh)), (a2, .inr (0, [.ref b2, .int (nI nr)])), (b2, .inl (cA, 2100, .inl fr)), (a3, .inr (0, [.ref b3, .int (nI nk)])), (b3, .inl (cA, 2100, .inl fk))]) hD hS hA [0, 1, 2, 3, 4, 5, 6] rfl
  refine va_calli (va_runV (As := [.int (xs (i + 1))]) (rest := []) ⟨hx, hb, hml, hown, hts⟩ (c_Hall_unlink l dC dI (H.size) x0 a1 b1 a2 b2 a3 b3 nh nr nk cA fh gh fr gr fk gk fi me (xs (i + 1)) (by omega) ha1 ha2 ha3 hF) (cwV 1 hts gL_law_X1_unlink_v rfl rfl rfl (by decide +kernel) ⟨Nat.le_of_ble_eq_true rfl, Nat.le_of_ble_eq_true rfl⟩) ⟨q_blWN, va_recv hKc hPc (ci := 1) (q0 := 0) rfl rfl, fun U hU hW => ⟨rfl, by rw [hU], by rw [hU]; exact hPc, va_K.moved hW.alike hKc, hDc.weaken (fun _ _ _ _ => trivial), hN.warm hW⟩⟩ rfl rfl hl.1 rfl (lv_room (Nat.le_of_ble_eq_true rfl)) dL_law_747 ⟨by decide +kernel, by decide +kernel⟩) hS (fun q _ h => hFc q h) hFc (fun r_1 u_1 t_1 H1 locs ht hvm hw hB hz1 hk1 hS => ?_)
  obtain ⟨⟨gh_1, nh_1⟩, ⟨gr_1, nr_1⟩, ⟨gk_1, nk_1⟩, fi_1, me_1⟩ := u_1
  obtain ⟨fh_1, fr_1, fk_1, hh_1, hr_1, hk_1, hP1, hK1, hD1⟩ := hB
  rw [ht] at hP1
  obtain ⟨hP, hD⟩ := q_join (wr := [(m0, .inr (2, [.ref c1, .ref c2, .ref c3, .int (nI nh), .int (nI nr), .int (nI nk), .int fi, .int me])), (c1, .inl (cA, 2000, .inl eh)), (c2, .inl (cA, 2000, .inl er)), (c3, .inl (cA, 2000, .inl ek))]) (w1 := [(x0, .inr (1, [.ref a1, .ref a2, .ref a3, .int fi_1, .int me_1])), (a1, .inr (0, [.ref b1, .int (nI nh_1)])), (b1, .inl (cA, 2100, .inl fh_1)), (a2, .inr (0, [.ref b2, .int (nI nr_1)])), (b2, .inl (cA, 2100, .inl fr_1)), (a3, .inr (0, [.ref b3, .int (nI nk_1)])), (b3, .inl (cA, 2100, .inl fk_1))]) (wz := [(x0, .inr (1, [.ref a1, .ref a2, .ref a3, .int fi_1, .int me_1])), (a1, .inr (0, [.ref b1, .int (nI nh_1)])), (b1, .inl (cA, 2100, .inl fh_1)), (a2, .inr (0, [.ref b2, .int (nI nr_1)])), (b2, .inl (cA, 2100, .inl fr_1)), (a3, .inr (0, [.ref b3, .int (nI nk_1)])), (b3, .inl (cA, 2100, .inl fk_1)), (m0, .inr (2, [.ref c1, .ref c2, .ref c3, .int (nI nh), .int (nI nr), .int (nI nk), .int fi, .int me])), (c1, .inl (cA, 2000, .inl eh)), (c2, .inl (cA, 2000, .inl er)), (c3, .inl (cA, 2000, .inl ek))]) hP hD [0, 1, 2, 3, 4, 5, 6] [7, 8, 9, 10] [4, 5, 6, 7, 8, 9, 10, 0, 1, 2, 3] rfl rfl (by decide) (by decide) hk1 hFc hP1 hD1 rfl rfl (by decide)
  generalize H1 = H at hP hS ⊢
  have hw1 := hw
  refine lv_aload_n hx hb dL_law_750 rfl (lv_at hl 2 rfl) ?_
  refine lv_aload_n hx hb dL_law_751 rfl (lv_at hl 0 rfl) ?_
  refine lv_iload_n hx hb dL_law_752 rfl (lv_at hl 3 rfl) ?_
  refine lv_iconst (v := 1) hx hb dL_law_753 (by decide) ?_
  refine lv_iadd hx hb dL_law_754 ?_
  refine q_top (y := nI (i + 1)) (nI_1 i) ?_
  refine q_sld (k := i + 1) hx hb hX hbl hbA hS (by omega) (by omega) dL_law_755 ?_
  have hPc := hP.sub (ws' := [(m0, .inr (2, [.ref c1, .ref c2, .ref c3, .int (nI nh), .int (nI nr), .int (nI nk), .int fi, .int me])), (c1, .inl (cA, 2000, .inl eh)), (c2, .inl (cA, 2000, .inl er)), (c3, .inl (cA, 2000, .inl ek))]) [7, 8, 9, 10] rfl
  have hKc := hK.sub (tys' := [(cA, .int)]) [0] rfl
  have hDc := hD.sub (ws' := [(m0, .inr (2, [.ref c1, .ref c2, .ref c3, .int (nI nh), .int (nI nr), .int (nI nk), .int fi, .int me])), (c1, .inl (cA, 2000, .inl eh)), (c2, .inl (cA, 2000, .inl er)), (c3, .inl (cA, 2000, .inl ek))]) [7, 8, 9, 10] (by decide) rfl
  have hFc := va_free (wc := [(m0, .inr (2, [.ref c1, .ref c2, .ref c3, .int (nI nh), .int (nI nr), .int (nI nk), .int fi, .int me])), (c1, .inl (cA, 2000, .inl eh)), (c2, .inl (cA, 2000, .inl er)), (c3, .inl (cA, 2000, .inl ek))]) hD hS hA [7, 8, 9, 10] rfl
  refine va_calli (va_runV (As := [.int (xs (i + 1))]) (rest := [.int r_1]) ⟨hx, hb, hml, hown, hts⟩ (c_Mod_unlink l dC dI (H.size) m0 c1 c2 c3 nh nr nk cA eh gh er gr ek gk fi me (xs (i + 1)) (by omega) hb1 hb2 hb3 hF) (cwV 1 hts gL_law_X2_unlink_v rfl rfl rfl (by decide +kernel) ⟨Nat.le_of_ble_eq_true rfl, Nat.le_of_ble_eq_true rfl⟩) ⟨q_blW, va_recv hKc hPc (ci := 2) (q0 := 0) rfl rfl, fun U hU hW => ⟨rfl, by rw [hU], by rw [hU]; exact hPc, va_K.moved hW.alike hKc, hDc.weaken (fun _ _ _ _ => trivial)⟩⟩ rfl rfl hl.1 rfl (lv_room (Nat.le_of_ble_eq_true rfl)) dL_law_756 ⟨by decide +kernel, by decide +kernel⟩) hS (fun q _ h => hFc q h) hFc (fun r_2 u_2 t_2 H1 locs ht hvm hw hB hz1 hk1 hS => ?_)
  obtain ⟨⟨gh_2, nh_2⟩, ⟨gr_2, nr_2⟩, ⟨gk_2, nk_2⟩, fi_2, me_2⟩ := u_2
  obtain ⟨eh_2, er_2, ek_2, hh_2, hr_2, hk_2, hP1, hK1, hD1⟩ := hB
  rw [ht] at hP1
  obtain ⟨hP, hD⟩ := q_join (wr := [(x0, .inr (1, [.ref a1, .ref a2, .ref a3, .int fi_1, .int me_1])), (a1, .inr (0, [.ref b1, .int (nI nh_1)])), (b1, .inl (cA, 2100, .inl fh_1)), (a2, .inr (0, [.ref b2, .int (nI nr_1)])), (b2, .inl (cA, 2100, .inl fr_1)), (a3, .inr (0, [.ref b3, .int (nI nk_1)])), (b3, .inl (cA, 2100, .inl fk_1))]) (w1 := [(m0, .inr (2, [.ref c1, .ref c2, .ref c3, .int (nI nh_2), .int (nI nr_2), .int (nI nk_2), .int fi_2, .int me_2])), (c1, .inl (cA, 2000, .inl eh_2)), (c2, .inl (cA, 2000, .inl er_2)), (c3, .inl (cA, 2000, .inl ek_2))]) (wz := [(x0, .inr (1, [.ref a1, .ref a2, .ref a3, .int fi_1, .int me_1])), (a1, .inr (0, [.ref b1, .int (nI nh_1)])), (b1, .inl (cA, 2100, .inl fh_1)), (a2, .inr (0, [.ref b2, .int (nI nr_1)])), (b2, .inl (cA, 2100, .inl fr_1)), (a3, .inr (0, [.ref b3, .int (nI nk_1)])), (b3, .inl (cA, 2100, .inl fk_1)), (m0, .inr (2, [.ref c1, .ref c2, .ref c3, .int (nI nh_2), .int (nI nr_2), .int (nI nk_2), .int fi_2, .int me_2])), (c1, .inl (cA, 2000, .inl eh_2)), (c2, .inl (cA, 2000, .inl er_2)), (c3, .inl (cA, 2000, .inl ek_2))]) hP hD [7, 8, 9, 10] [0, 1, 2, 3, 4, 5, 6] [0, 1, 2, 3, 4, 5, 6, 7, 8, 9, 10] rfl rfl (by decide) (by decide) hk1 hFc hP1 hD1 rfl rfl (by decide)
  generalize H1 = H at hP hS ⊢
  have hI1 : qInv (t + 1) (qUnlink (xs (i + 1)) ((gh, nh), (gr, nr), (gk, nk), fi, me)).2 := qI_unlink hI (by omega)
  rw [← hw1] at hI1
  have he := hw1.trans hw.symm
  simp only [Prod.mk.injEq] at he
  obtain ⟨rfl, ⟨rfl, rfl⟩, ⟨rfl, rfl⟩, ⟨rfl, rfl⟩, rfl, rfl⟩ := he
  have hP : va_P (dC, dI) vwCl [(x0, .inr (1, [.ref a1, .ref a2, .ref a3, .int fi_1, .int me_1])), (a1, .inr (0, [.ref b1, .int (nI nh_1)])), (b1, .inl (cA, 2100, .inl fh_1)), (a2, .inr (0, [.ref b2, .int (nI nr_1)])), (b2, .inl (cA, 2100, .inl fr_1)), (a3, .inr (0, [.ref b3, .int (nI nk_1)])), (b3, .inl (cA, 2100, .inl fk_1)), (m0, .inr (2, [.ref c1, .ref c2, .ref c3, .int (nI nh_1), .int (nI nr_1), .int (nI nk_1), .int fi_1, .int me_1])), (c1, .inl (cA, 2000, .inl eh_2)), (c2, .inl (cA, 2000, .inl er_2)), (c3, .inl (cA, 2000, .inl ek_2))] H := hP
  have hD : va_D (fun q : Nat => s.heap.size ≤ q) [(x0, .inr (1, [.ref a1, .ref a2, .ref a3, .int fi_1, .int me_1])), (a1, .inr (0, [.ref b1, .int (nI nh_1)])), (b1, .inl (cA, 2100, .inl fh_1)), (a2, .inr (0, [.ref b2, .int (nI nr_1)])), (b2, .inl (cA, 2100, .inl fr_1)), (a3, .inr (0, [.ref b3, .int (nI nk_1)])), (b3, .inl (cA, 2100, .inl fk_1)), (m0, .inr (2, [.ref c1, .ref c2, .ref c3, .int (nI nh_1), .int (nI nr_1), .int (nI nk_1), .int fi_1, .int me_1])), (c1, .inl (cA, 2000, .inl eh_2)), (c2, .inl (cA, 2000, .inl er_2)), (c3, .inl (cA, 2000, .inl ek_2))] := hD
  refine lv_icmp_eq (tgt := 899) hx hb dL_law_759 (by decide) (fun c_3 => ?_) (fun c_0 => absurd (show r_1 = r_1 from rfl) c_0)
  exact hk _ _ _ _ _ _ _ _ _ _ _ _ _ _ hI1 hh_1 hr_1 hk_1 hh_2 hr_2 hk_2 _ _ hP hD hS ls (lv_sub hl [0, 1, 2, 3] rfl)

set_option maxHeartbeats 4000000 in
set_option maxRecDepth 100000 in
theorem law_17 {p : Program} {l : Launch} {e : Env} {s : State} {m : MethodId} {below : List Frame} {meth : Method} {c : Code} {dC : Nat → ClassId} {dI : Nat → Nat → Nat} {b L x0 a1 b1 a2 b2 a3 b3 m0 c1 c2 c3 : Nat} {cA : ClassId} {xs : Nat → Int32} (hL : L ≤ 2048) (C0 : lw_At p s m meth c b L xs) (hK : va_K (dC, dI) vwCl [(cA, .int)] s) {i t : Nat} (ht : i = 4 * t) (hi : i + 4 ≤ L) (hk : lw_K p l e s m below meth c dC dI b x0 a1 b1 a2 b2 a3 b3 m0 c1 c2 c3 cA 899 i (t + 1)) : lw_K p l e s m below meth c dC dI b x0 a1 b1 a2 b2 a3 b3 m0 c1 c2 c3 cA 764 i t := by
  obtain ⟨hx, hb, hr, hml, hown, hts, hX, hbl, hlocks, hgv⟩ := id C0
  have hN := law_nest hts
  have hA : ∀ q : Nat, s.heap.size ≤ q → (fun q : Nat => s.heap.size ≤ q) q := fun _ h => h
  have hbA : ¬ (fun q : Nat => s.heap.size ≤ q) b := Nat.not_le.mpr hbl
  intro gh gr gk fh fr fk eh er ek nh nr nk fi me hI ha1 ha2 ha3 hb1 hb2 hb3 H locs hP hD hS ls hl
  obtain ⟨hn, hs, hF⟩ := id hI
  refine lv_aload_n hx hb dL_law_764 rfl (lv_at hl 1 rfl) ?_
  refine lv_aload_n hx hb dL_law_765 rfl (lv_at hl 0 rfl) ?_
  refine lv_iload_n hx hb dL_law_766 rfl (lv_at hl 3 rfl) ?_
  refine lv_iconst (v := 1) hx hb dL_law_767 (by decide) ?_
  refine lv_iadd hx hb dL_law_768 ?_
  refine q_top (y := nI (i + 1)) (nI_1 i) ?_
  refine q_sld (k := i + 1) hx hb hX hbl hbA hS (by omega) (by omega) dL_law_769 ?_
  have hPc := hP.sub (ws' := [(x0, .inr (1, [.ref a1, .ref a2, .ref a3, .int fi, .int me])), (a1, .inr (0, [.ref b1, .int (nI nh)])), (b1, .inl (cA, 2100, .inl fh)), (a2, .inr (0, [.ref b2, .int (nI nr)])), (b2, .inl (cA, 2100, .inl fr)), (a3, .inr (0, [.ref b3, .int (nI nk)])), (b3, .inl (cA, 2100, .inl fk))]) [0, 1, 2, 3, 4, 5, 6] rfl
  have hKc := hK.sub (tys' := [(cA, .int)]) [0] rfl
  have hDc := hD.sub (ws' := [(x0, .inr (1, [.ref a1, .ref a2, .ref a3, .int fi, .int me])), (a1, .inr (0, [.ref b1, .int (nI nh)])), (b1, .inl (cA, 2100, .inl fh)), (a2, .inr (0, [.ref b2, .int (nI nr)])), (b2, .inl (cA, 2100, .inl fr)), (a3, .inr (0, [.ref b3, .int (nI nk)])), (b3, .inl (cA, 2100, .inl fk))]) [0, 1, 2, 3, 4, 5, 6] (by decide) rfl
  have hFc := va_free (wc := [(x0, .inr (1, [.ref a1, .ref a2, .ref a3, .int fi, .int me])), (a1, .inr (0, [.ref b1, .int (nI nh)])), (b1, .inl (cA, 2100, .inl fh)), (a2, .inr (0, [.ref b2, .int (nI nr)])), (b2, .inl (cA, 2100, .inl fr)), (a3, .inr (0, [.ref b3, .int (nI nk)])), (b3, .inl (cA, 2100, .inl fk))]) hD hS hA [0, 1, 2, 3, 4, 5, 6] rfl
  refine va_calli (va_runV (As := [.int (xs (i + 1))]) (rest := []) ⟨hx, hb, hml, hown, hts⟩ (c_Hall_point l dC dI (H.size) x0 a1 b1 a2 b2 a3 b3 nh nr nk cA fh gh fr gr fk gk fi me (xs (i + 1)) (by omega) ha1 ha2 ha3 hF) (cwV 1 hts gL_law_X1_point_v rfl rfl rfl (by decide +kernel) ⟨Nat.le_of_ble_eq_true rfl, Nat.le_of_ble_eq_true rfl⟩) ⟨q_blWN, va_recv hKc hPc (ci := 1) (q0 := 0) rfl rfl, fun U hU hW => ⟨rfl, by rw [hU], by rw [hU]; exact hPc, va_K.moved hW.alike hKc, hDc.weaken (fun _ _ _ _ => trivial), hN.warm hW⟩⟩ rfl rfl hl.1 rfl (lv_room (Nat.le_of_ble_eq_true rfl)) dL_law_770 ⟨by decide +kernel, by decide +kernel⟩) hS (fun q _ h => hFc q h) hFc (fun r_1 u_1 t_1 H1 locs ht hvm hw hB hz1 hk1 hS => ?_)
  obtain ⟨⟨gh_1, nh_1⟩, ⟨gr_1, nr_1⟩, ⟨gk_1, nk_1⟩, fi_1, me_1⟩ := u_1
  obtain ⟨fh_1, fr_1, fk_1, hh_1, hr_1, hk_1, hP1, hK1, hD1⟩ := hB
  rw [ht] at hP1
  obtain ⟨hP, hD⟩ := q_join (wr := [(m0, .inr (2, [.ref c1, .ref c2, .ref c3, .int (nI nh), .int (nI nr), .int (nI nk), .int fi, .int me])), (c1, .inl (cA, 2000, .inl eh)), (c2, .inl (cA, 2000, .inl er)), (c3, .inl (cA, 2000, .inl ek))]) (w1 := [(x0, .inr (1, [.ref a1, .ref a2, .ref a3, .int fi_1, .int me_1])), (a1, .inr (0, [.ref b1, .int (nI nh_1)])), (b1, .inl (cA, 2100, .inl fh_1)), (a2, .inr (0, [.ref b2, .int (nI nr_1)])), (b2, .inl (cA, 2100, .inl fr_1)), (a3, .inr (0, [.ref b3, .int (nI nk_1)])), (b3, .inl (cA, 2100, .inl fk_1))]) (wz := [(x0, .inr (1, [.ref a1, .ref a2, .ref a3, .int fi_1, .int me_1])), (a1, .inr (0, [.ref b1, .int (nI nh_1)])), (b1, .inl (cA, 2100, .inl fh_1)), (a2, .inr (0, [.ref b2, .int (nI nr_1)])), (b2, .inl (cA, 2100, .inl fr_1)), (a3, .inr (0, [.ref b3, .int (nI nk_1)])), (b3, .inl (cA, 2100, .inl fk_1)), (m0, .inr (2, [.ref c1, .ref c2, .ref c3, .int (nI nh), .int (nI nr), .int (nI nk), .int fi, .int me])), (c1, .inl (cA, 2000, .inl eh)), (c2, .inl (cA, 2000, .inl er)), (c3, .inl (cA, 2000, .inl ek))]) hP hD [0, 1, 2, 3, 4, 5, 6] [7, 8, 9, 10] [4, 5, 6, 7, 8, 9, 10, 0, 1, 2, 3] rfl rfl (by decide) (by decide) hk1 hFc hP1 hD1 rfl rfl (by decide)
  generalize H1 = H at hP hS ⊢
  have hw1 := hw
  refine lv_aload_n hx hb dL_law_773 rfl (lv_at hl 2 rfl) ?_
  refine lv_aload_n hx hb dL_law_774 rfl (lv_at hl 0 rfl) ?_
  refine lv_iload_n hx hb dL_law_775 rfl (lv_at hl 3 rfl) ?_
  refine lv_iconst (v := 1) hx hb dL_law_776 (by decide) ?_
  refine lv_iadd hx hb dL_law_777 ?_
  refine q_top (y := nI (i + 1)) (nI_1 i) ?_
  refine q_sld (k := i + 1) hx hb hX hbl hbA hS (by omega) (by omega) dL_law_778 ?_
  have hPc := hP.sub (ws' := [(m0, .inr (2, [.ref c1, .ref c2, .ref c3, .int (nI nh), .int (nI nr), .int (nI nk), .int fi, .int me])), (c1, .inl (cA, 2000, .inl eh)), (c2, .inl (cA, 2000, .inl er)), (c3, .inl (cA, 2000, .inl ek))]) [7, 8, 9, 10] rfl
  have hKc := hK.sub (tys' := [(cA, .int)]) [0] rfl
  have hDc := hD.sub (ws' := [(m0, .inr (2, [.ref c1, .ref c2, .ref c3, .int (nI nh), .int (nI nr), .int (nI nk), .int fi, .int me])), (c1, .inl (cA, 2000, .inl eh)), (c2, .inl (cA, 2000, .inl er)), (c3, .inl (cA, 2000, .inl ek))]) [7, 8, 9, 10] (by decide) rfl
  have hFc := va_free (wc := [(m0, .inr (2, [.ref c1, .ref c2, .ref c3, .int (nI nh), .int (nI nr), .int (nI nk), .int fi, .int me])), (c1, .inl (cA, 2000, .inl eh)), (c2, .inl (cA, 2000, .inl er)), (c3, .inl (cA, 2000, .inl ek))]) hD hS hA [7, 8, 9, 10] rfl
  refine va_calli (va_runV (As := [.int (xs (i + 1))]) (rest := [.int r_1]) ⟨hx, hb, hml, hown, hts⟩ (c_Mod_point l dC dI (H.size) m0 c1 c2 c3 nh nr nk cA eh gh er gr ek gk fi me (xs (i + 1)) (by omega) hb1 hb2 hb3 hF) (cwV 1 hts gL_law_X2_point_v rfl rfl rfl (by decide +kernel) ⟨Nat.le_of_ble_eq_true rfl, Nat.le_of_ble_eq_true rfl⟩) ⟨q_blW, va_recv hKc hPc (ci := 2) (q0 := 0) rfl rfl, fun U hU hW => ⟨rfl, by rw [hU], by rw [hU]; exact hPc, va_K.moved hW.alike hKc, hDc.weaken (fun _ _ _ _ => trivial)⟩⟩ rfl rfl hl.1 rfl (lv_room (Nat.le_of_ble_eq_true rfl)) dL_law_779 ⟨by decide +kernel, by decide +kernel⟩) hS (fun q _ h => hFc q h) hFc (fun r_2 u_2 t_2 H1 locs ht hvm hw hB hz1 hk1 hS => ?_)
  obtain ⟨⟨gh_2, nh_2⟩, ⟨gr_2, nr_2⟩, ⟨gk_2, nk_2⟩, fi_2, me_2⟩ := u_2
  obtain ⟨eh_2, er_2, ek_2, hh_2, hr_2, hk_2, hP1, hK1, hD1⟩ := hB
  rw [ht] at hP1
  obtain ⟨hP, hD⟩ := q_join (wr := [(x0, .inr (1, [.ref a1, .ref a2, .ref a3, .int fi_1, .int me_1])), (a1, .inr (0, [.ref b1, .int (nI nh_1)])), (b1, .inl (cA, 2100, .inl fh_1)), (a2, .inr (0, [.ref b2, .int (nI nr_1)])), (b2, .inl (cA, 2100, .inl fr_1)), (a3, .inr (0, [.ref b3, .int (nI nk_1)])), (b3, .inl (cA, 2100, .inl fk_1))]) (w1 := [(m0, .inr (2, [.ref c1, .ref c2, .ref c3, .int (nI nh_2), .int (nI nr_2), .int (nI nk_2), .int fi_2, .int me_2])), (c1, .inl (cA, 2000, .inl eh_2)), (c2, .inl (cA, 2000, .inl er_2)), (c3, .inl (cA, 2000, .inl ek_2))]) (wz := [(x0, .inr (1, [.ref a1, .ref a2, .ref a3, .int fi_1, .int me_1])), (a1, .inr (0, [.ref b1, .int (nI nh_1)])), (b1, .inl (cA, 2100, .inl fh_1)), (a2, .inr (0, [.ref b2, .int (nI nr_1)])), (b2, .inl (cA, 2100, .inl fr_1)), (a3, .inr (0, [.ref b3, .int (nI nk_1)])), (b3, .inl (cA, 2100, .inl fk_1)), (m0, .inr (2, [.ref c1, .ref c2, .ref c3, .int (nI nh_2), .int (nI nr_2), .int (nI nk_2), .int fi_2, .int me_2])), (c1, .inl (cA, 2000, .inl eh_2)), (c2, .inl (cA, 2000, .inl er_2)), (c3, .inl (cA, 2000, .inl ek_2))]) hP hD [7, 8, 9, 10] [0, 1, 2, 3, 4, 5, 6] [0, 1, 2, 3, 4, 5, 6, 7, 8, 9, 10] rfl rfl (by decide) (by decide) hk1 hFc hP1 hD1 rfl rfl (by decide)
  generalize H1 = H at hP hS ⊢
  have hI1 : qInv (t + 1) (qPoint (xs (i + 1)) ((gh, nh), (gr, nr), (gk, nk), fi, me)).2 := qI_point hI (by omega)
  rw [← hw1] at hI1
  have he := hw1.trans hw.symm
  simp only [Prod.mk.injEq] at he
  obtain ⟨rfl, ⟨rfl, rfl⟩, ⟨rfl, rfl⟩, ⟨rfl, rfl⟩, rfl, rfl⟩ := he
  have hP : va_P (dC, dI) vwCl [(x0, .inr (1, [.ref a1, .ref a2, .ref a3, .int fi_1, .int me_1])), (a1, .inr (0, [.ref b1, .int (nI nh_1)])), (b1, .inl (cA, 2100, .inl fh_1)), (a2, .inr (0, [.ref b2, .int (nI nr_1)])), (b2, .inl (cA, 2100, .inl fr_1)), (a3, .inr (0, [.ref b3, .int (nI nk_1)])), (b3, .inl (cA, 2100, .inl fk_1)), (m0, .inr (2, [.ref c1, .ref c2, .ref c3, .int (nI nh_1), .int (nI nr_1), .int (nI nk_1), .int fi_1, .int me_1])), (c1, .inl (cA, 2000, .inl eh_2)), (c2, .inl (cA, 2000, .inl er_2)), (c3, .inl (cA, 2000, .inl ek_2))] H := hP
  have hD : va_D (fun q : Nat => s.heap.size ≤ q) [(x0, .inr (1, [.ref a1, .ref a2, .ref a3, .int fi_1, .int me_1])), (a1, .inr (0, [.ref b1, .int (nI nh_1)])), (b1, .inl (cA, 2100, .inl fh_1)), (a2, .inr (0, [.ref b2, .int (nI nr_1)])), (b2, .inl (cA, 2100, .inl fr_1)), (a3, .inr (0, [.ref b3, .int (nI nk_1)])), (b3, .inl (cA, 2100, .inl fk_1)), (m0, .inr (2, [.ref c1, .ref c2, .ref c3, .int (nI nh_1), .int (nI nr_1), .int (nI nk_1), .int fi_1, .int me_1])), (c1, .inl (cA, 2000, .inl eh_2)), (c2, .inl (cA, 2000, .inl er_2)), (c3, .inl (cA, 2000, .inl ek_2))] := hD
  refine lv_icmp_eq (tgt := 899) hx hb dL_law_782 (by decide) (fun c_3 => ?_) (fun c_0 => absurd (show r_1 = r_1 from rfl) c_0)
  exact hk _ _ _ _ _ _ _ _ _ _ _ _ _ _ hI1 hh_1 hr_1 hk_1 hh_2 hr_2 hk_2 _ _ hP hD hS ls (lv_sub hl [0, 1, 2, 3] rfl)

set_option maxHeartbeats 4000000 in
set_option maxRecDepth 100000 in
theorem law_18 {p : Program} {l : Launch} {e : Env} {s : State} {m : MethodId} {below : List Frame} {meth : Method} {c : Code} {dC : Nat → ClassId} {dI : Nat → Nat → Nat} {b L x0 a1 b1 a2 b2 a3 b3 m0 c1 c2 c3 : Nat} {cA : ClassId} {xs : Nat → Int32} (hL : L ≤ 2048) (C0 : lw_At p s m meth c b L xs) (hK : va_K (dC, dI) vwCl [(cA, .int)] s) {i t : Nat} (ht : i = 4 * t) (hi : i + 4 ≤ L) (hk : lw_K p l e s m below meth c dC dI b x0 a1 b1 a2 b2 a3 b3 m0 c1 c2 c3 cA 899 i (t + 1)) : lw_K p l e s m below meth c dC dI b x0 a1 b1 a2 b2 a3 b3 m0 c1 c2 c3 cA 787 i t := by
  obtain ⟨hx, hb, hr, hml, hown, hts, hX, hbl, hlocks, hgv⟩ := id C0
  have hN := law_nest hts
  have hA : ∀ q : Nat, s.heap.size ≤ q → (fun q : Nat => s.heap.size ≤ q) q := fun _ h => h
  have hbA : ¬ (fun q : Nat => s.heap.size ≤ q) b := Nat.not_le.mpr hbl
  intro gh gr gk fh fr fk eh er ek nh nr nk fi me hI ha1 ha2 ha3 hb1 hb2 hb3 H locs hP hD hS ls hl
  obtain ⟨hn, hs, hF⟩ := id hI
  refine lv_aload_n hx hb dL_law_787 rfl (lv_at hl 1 rfl) ?_
  refine lv_aload_n hx hb dL_law_788 rfl (lv_at hl 0 rfl) ?_
  refine lv_iload_n hx hb dL_law_789 rfl (lv_at hl 3 rfl) ?_
  refine lv_iconst (v := 1) hx hb dL_law_790 (by decide) ?_
  refine lv_iadd hx hb dL_law_791 ?_
  refine q_top (y := nI (i + 1)) (nI_1 i) ?_
  refine q_sld (k := i + 1) hx hb hX hbl hbA hS (by omega) (by omega) dL_law_792 ?_
  refine lv_if_eq (tgt := 800) hx hb dL_law_793 (by decide) (fun c_1 => ?_) (fun c_1 => ?_)
  · refine lv_iconst (v := 0) hx hb dL_law_800 (by decide) ?_
    have hPc := hP.sub (ws' := [(x0, .inr (1, [.ref a1, .ref a2, .ref a3, .int fi, .int me])), (a1, .inr (0, [.ref b1, .int (nI nh)])), (b1, .inl (cA, 2100, .inl fh)), (a2, .inr (0, [.ref b2, .int (nI nr)])), (b2, .inl (cA, 2100, .inl fr)), (a3, .inr (0, [.ref b3, .int (nI nk)])), (b3, .inl (cA, 2100, .inl fk))]) [0, 1, 2, 3, 4, 5, 6] rfl
    have hKc := hK.sub (tys' := [(cA, .int)]) [0] rfl
    have hDc := hD.sub (ws' := [(x0, .inr (1, [.ref a1, .ref a2, .ref a3, .int fi, .int me])), (a1, .inr (0, [.ref b1, .int (nI nh)])), (b1, .inl (cA, 2100, .inl fh)), (a2, .inr (0, [.ref b2, .int (nI nr)])), (b2, .inl (cA, 2100, .inl fr)), (a3, .inr (0, [.ref b3, .int (nI nk)])), (b3, .inl (cA, 2100, .inl fk))]) [0, 1, 2, 3, 4, 5, 6] (by decide) rfl
    have hFc := va_free (wc := [(x0, .inr (1, [.ref a1, .ref a2, .ref a3, .int fi, .int me])), (a1, .inr (0, [.ref b1, .int (nI nh)])), (b1, .inl (cA, 2100, .inl fh)), (a2, .inr (0, [.ref b2, .int (nI nr)])), (b2, .inl (cA, 2100, .inl fr)), (a3, .inr (0, [.ref b3, .int (nI nk)])), (b3, .inl (cA, 2100, .inl fk))]) hD hS hA [0, 1, 2, 3, 4, 5, 6] rfl
    refine va_calll (va_runV (As := [.int 0]) (rest := []) ⟨hx, hb, hml, hown, hts⟩ (c_Hall_pass l dC dI (H.size) x0 a1 b1 a2 b2 a3 b3 nh nr nk cA fh gh fr gr fk gk fi me 0 (by omega) ha1 ha2 ha3 hF) (cwV 1 hts gL_law_X1_pass_v rfl rfl rfl (by decide +kernel) ⟨Nat.le_of_ble_eq_true rfl, Nat.le_of_ble_eq_true rfl⟩) ⟨q_blWN, va_recv hKc hPc (ci := 1) (q0 := 0) rfl rfl, fun U hU hW => ⟨rfl, by rw [hU], by rw [hU]; exact hPc, va_K.moved hW.alike hKc, hDc.weaken (fun _ _ _ _ => trivial), hN.warm hW⟩⟩ rfl rfl hl.1 rfl (lv_room (Nat.le_of_ble_eq_true rfl)) dL_law_801 ⟨by decide +kernel, by decide +kernel⟩) hS (fun q _ h => hFc q h) hFc (fun r_2 u_2 t_2 H1 locs ht hvm hw hB hz1 hk1 hS => ?_)
    obtain ⟨⟨gh_2, nh_2⟩, ⟨gr_2, nr_2⟩, ⟨gk_2, nk_2⟩, fi_2, me_2⟩ := u_2
    obtain ⟨fh_2, fr_2, fk_2, hh_2, hr_2, hk_2, hP1, hK1, hD1⟩ := hB
    rw [ht] at hP1
    obtain ⟨hP, hD⟩ := q_join (wr := [(m0, .inr (2, [.ref c1, .ref c2, .ref c3, .int (nI nh), .int (nI nr), .int (nI nk), .int fi, .int me])), (c1, .inl (cA, 2000, .inl eh)), (c2, .inl (cA, 2000, .inl er)), (c3, .inl (cA, 2000, .inl ek))]) (w1 := [(x0, .inr (1, [.ref a1, .ref a2, .ref a3, .int fi_2, .int me_2])), (a1, .inr (0, [.ref b1, .int (nI nh_2)])), (b1, .inl (cA, 2100, .inl fh_2)), (a2, .inr (0, [.ref b2, .int (nI nr_2)])), (b2, .inl (cA, 2100, .inl fr_2)), (a3, .inr (0, [.ref b3, .int (nI nk_2)])), (b3, .inl (cA, 2100, .inl fk_2))]) (wz := [(x0, .inr (1, [.ref a1, .ref a2, .ref a3, .int fi_2, .int me_2])), (a1, .inr (0, [.ref b1, .int (nI nh_2)])), (b1, .inl (cA, 2100, .inl fh_2)), (a2, .inr (0, [.ref b2, .int (nI nr_2)])), (b2, .inl (cA, 2100, .inl fr_2)), (a3, .inr (0, [.ref b3, .int (nI nk_2)])), (b3, .inl (cA, 2100, .inl fk_2)), (m0, .inr (2, [.ref c1, .ref c2, .ref c3, .int (nI nh), .int (nI nr), .int (nI nk), .int fi, .int me])), (c1, .inl (cA, 2000, .inl eh)), (c2, .inl (cA, 2000, .inl er)), (c3, .inl (cA, 2000, .inl ek))]) hP hD [0, 1, 2, 3, 4, 5, 6] [7, 8, 9, 10] [4, 5, 6, 7, 8, 9, 10, 0, 1, 2, 3] rfl rfl (by decide) (by decide) hk1 hFc hP1 hD1 rfl rfl (by decide)
    generalize H1 = H at hP hS ⊢
    have hw1 := hw
    refine lv_aload_n hx hb dL_law_804 rfl (lv_at hl 2 rfl) ?_
    refine lv_aload_n hx hb dL_law_805 rfl (lv_at hl 0 rfl) ?_
    refine lv_iload_n hx hb dL_law_806 rfl (lv_at hl 3 rfl) ?_
    refine lv_iconst (v := 1) hx hb dL_law_807 (by decide) ?_
    refine lv_iadd hx hb dL_law_808 ?_
    refine q_top (y := nI (i + 1)) (nI_1 i) ?_
    refine q_sld (k := i + 1) hx hb hX hbl hbA hS (by omega) (by omega) dL_law_809 ?_
    refine lv_if_eq (tgt := 817) hx hb dL_law_810 (by decide) (fun c_3 => ?_) (fun c_0 => absurd (show (xs (i + 1)) = (0 : Int32) from c_1) c_0)
    refine lv_iconst (v := 0) hx hb dL_law_817 (by decide) ?_
    have hPc := hP.sub (ws' := [(m0, .inr (2, [.ref c1, .ref c2, .ref c3, .int (nI nh), .int (nI nr), .int (nI nk), .int fi, .int me])), (c1, .inl (cA, 2000, .inl eh)), (c2, .inl (cA, 2000, .inl er)), (c3, .inl (cA, 2000, .inl ek))]) [7, 8, 9, 10] rfl
    have hKc := hK.sub (tys' := [(cA, .int)]) [0] rfl
    have hDc := hD.sub (ws' := [(m0, .inr (2, [.ref c1, .ref c2, .ref c3, .int (nI nh), .int (nI nr), .int (nI nk), .int fi, .int me])), (c1, .inl (cA, 2000, .inl eh)), (c2, .inl (cA, 2000, .inl er)), (c3, .inl (cA, 2000, .inl ek))]) [7, 8, 9, 10] (by decide) rfl
    have hFc := va_free (wc := [(m0, .inr (2, [.ref c1, .ref c2, .ref c3, .int (nI nh), .int (nI nr), .int (nI nk), .int fi, .int me])), (c1, .inl (cA, 2000, .inl eh)), (c2, .inl (cA, 2000, .inl er)), (c3, .inl (cA, 2000, .inl ek))]) hD hS hA [7, 8, 9, 10] rfl
    refine va_calll (va_runV (As := [.int 0]) (rest := [.long r_2]) ⟨hx, hb, hml, hown, hts⟩ (c_Mod_pass l dC dI (H.size) m0 c1 c2 c3 nh nr nk cA eh gh er gr ek gk fi me 0 (by omega) hb1 hb2 hb3 hF) (cwV 1 hts gL_law_X2_pass_v rfl rfl rfl (by decide +kernel) ⟨Nat.le_of_ble_eq_true rfl, Nat.le_of_ble_eq_true rfl⟩) ⟨q_blW, va_recv hKc hPc (ci := 2) (q0 := 0) rfl rfl, fun U hU hW => ⟨rfl, by rw [hU], by rw [hU]; exact hPc, va_K.moved hW.alike hKc, hDc.weaken (fun _ _ _ _ => trivial)⟩⟩ rfl rfl hl.1 rfl (lv_room (Nat.le_of_ble_eq_true rfl)) dL_law_818 ⟨by decide +kernel, by decide +kernel⟩) hS (fun q _ h => hFc q h) hFc (fun r_4 u_4 t_4 H1 locs ht hvm hw hB hz1 hk1 hS => ?_)
    obtain ⟨⟨gh_4, nh_4⟩, ⟨gr_4, nr_4⟩, ⟨gk_4, nk_4⟩, fi_4, me_4⟩ := u_4
    obtain ⟨eh_4, er_4, ek_4, hh_4, hr_4, hk_4, hP1, hK1, hD1⟩ := hB
    rw [ht] at hP1
    obtain ⟨hP, hD⟩ := q_join (wr := [(x0, .inr (1, [.ref a1, .ref a2, .ref a3, .int fi_2, .int me_2])), (a1, .inr (0, [.ref b1, .int (nI nh_2)])), (b1, .inl (cA, 2100, .inl fh_2)), (a2, .inr (0, [.ref b2, .int (nI nr_2)])), (b2, .inl (cA, 2100, .inl fr_2)), (a3, .inr (0, [.ref b3, .int (nI nk_2)])), (b3, .inl (cA, 2100, .inl fk_2))]) (w1 := [(m0, .inr (2, [.ref c1, .ref c2, .ref c3, .int (nI nh_4), .int (nI nr_4), .int (nI nk_4), .int fi_4, .int me_4])), (c1, .inl (cA, 2000, .inl eh_4)), (c2, .inl (cA, 2000, .inl er_4)), (c3, .inl (cA, 2000, .inl ek_4))]) (wz := [(x0, .inr (1, [.ref a1, .ref a2, .ref a3, .int fi_2, .int me_2])), (a1, .inr (0, [.ref b1, .int (nI nh_2)])), (b1, .inl (cA, 2100, .inl fh_2)), (a2, .inr (0, [.ref b2, .int (nI nr_2)])), (b2, .inl (cA, 2100, .inl fr_2)), (a3, .inr (0, [.ref b3, .int (nI nk_2)])), (b3, .inl (cA, 2100, .inl fk_2)), (m0, .inr (2, [.ref c1, .ref c2, .ref c3, .int (nI nh_4), .int (nI nr_4), .int (nI nk_4), .int fi_4, .int me_4])), (c1, .inl (cA, 2000, .inl eh_4)), (c2, .inl (cA, 2000, .inl er_4)), (c3, .inl (cA, 2000, .inl ek_4))]) hP hD [7, 8, 9, 10] [0, 1, 2, 3, 4, 5, 6] [0, 1, 2, 3, 4, 5, 6, 7, 8, 9, 10] rfl rfl (by decide) (by decide) hk1 hFc hP1 hD1 rfl rfl (by decide)
    generalize H1 = H at hP hS ⊢
    have hI1 : qInv (t + 1) (qPass 0 ((gh, nh), (gr, nr), (gk, nk), fi, me)).2 := qI_pass hI (by omega)
    rw [← hw1] at hI1
    have he := hw1.trans hw.symm
    simp only [Prod.mk.injEq] at he
    obtain ⟨rfl, ⟨rfl, rfl⟩, ⟨rfl, rfl⟩, ⟨rfl, rfl⟩, rfl, rfl⟩ := he
    have hP : va_P (dC, dI) vwCl [(x0, .inr (1, [.ref a1, .ref a2, .ref a3, .int fi_2, .int me_2])), (a1, .inr (0, [.ref b1, .int (nI nh_2)])), (b1, .inl (cA, 2100, .inl fh_2)), (a2, .inr (0, [.ref b2, .int (nI nr_2)])), (b2, .inl (cA, 2100, .inl fr_2)), (a3, .inr (0, [.ref b3, .int (nI nk_2)])), (b3, .inl (cA, 2100, .inl fk_2)), (m0, .inr (2, [.ref c1, .ref c2, .ref c3, .int (nI nh_2), .int (nI nr_2), .int (nI nk_2), .int fi_2, .int me_2])), (c1, .inl (cA, 2000, .inl eh_4)), (c2, .inl (cA, 2000, .inl er_4)), (c3, .inl (cA, 2000, .inl ek_4))] H := hP
    have hD : va_D (fun q : Nat => s.heap.size ≤ q) [(x0, .inr (1, [.ref a1, .ref a2, .ref a3, .int fi_2, .int me_2])), (a1, .inr (0, [.ref b1, .int (nI nh_2)])), (b1, .inl (cA, 2100, .inl fh_2)), (a2, .inr (0, [.ref b2, .int (nI nr_2)])), (b2, .inl (cA, 2100, .inl fr_2)), (a3, .inr (0, [.ref b3, .int (nI nk_2)])), (b3, .inl (cA, 2100, .inl fk_2)), (m0, .inr (2, [.ref c1, .ref c2, .ref c3, .int (nI nh_2), .int (nI nr_2), .int (nI nk_2), .int fi_2, .int me_2])), (c1, .inl (cA, 2000, .inl eh_4)), (c2, .inl (cA, 2000, .inl er_4)), (c3, .inl (cA, 2000, .inl ek_4))] := hD
    refine W.lcmp hx hb dL_law_821 ?_
    refine lv_if_eq (tgt := 899) hx hb dL_law_822 (by decide) (fun _ => ?_) (fun c_0 => absurd ((lg_cmp_eq _ _).mpr rfl) c_0)
    exact hk _ _ _ _ _ _ _ _ _ _ _ _ _ _ hI1 hh_2 hr_2 hk_2 hh_4 hr_4 hk_4 _ _ hP hD hS ls (lv_sub hl [0, 1, 2, 3] rfl)
  · refine lv_iconst (v := 1) hx hb dL_law_796 (by decide) ?_
    refine lv_goto (tgt := 801) hx hb dL_law_797 (by decide) ?_
    have hPc := hP.sub (ws' := [(x0, .inr (1, [.ref a1, .ref a2, .ref a3, .int fi, .int me])), (a1, .inr (0, [.ref b1, .int (nI nh)])), (b1, .inl (cA, 2100, .inl fh)), (a2, .inr (0, [.ref b2, .int (nI nr)])), (b2, .inl (cA, 2100, .inl fr)), (a3, .inr (0, [.ref b3, .int (nI nk)])), (b3, .inl (cA, 2100, .inl fk))]) [0, 1, 2, 3, 4, 5, 6] rfl
    have hKc := hK.sub (tys' := [(cA, .int)]) [0] rfl
    have hDc := hD.sub (ws' := [(x0, .inr (1, [.ref a1, .ref a2, .ref a3, .int fi, .int me])), (a1, .inr (0, [.ref b1, .int (nI nh)])), (b1, .inl (cA, 2100, .inl fh)), (a2, .inr (0, [.ref b2, .int (nI nr)])), (b2, .inl (cA, 2100, .inl fr)), (a3, .inr (0, [.ref b3, .int (nI nk)])), (b3, .inl (cA, 2100, .inl fk))]) [0, 1, 2, 3, 4, 5, 6] (by decide) rfl
    have hFc := va_free (wc := [(x0, .inr (1, [.ref a1, .ref a2, .ref a3, .int fi, .int me])), (a1, .inr (0, [.ref b1, .int (nI nh)])), (b1, .inl (cA, 2100, .inl fh)), (a2, .inr (0, [.ref b2, .int (nI nr)])), (b2, .inl (cA, 2100, .inl fr)), (a3, .inr (0, [.ref b3, .int (nI nk)])), (b3, .inl (cA, 2100, .inl fk))]) hD hS hA [0, 1, 2, 3, 4, 5, 6] rfl
    refine va_calll (va_runV (As := [.int 1]) (rest := []) ⟨hx, hb, hml, hown, hts⟩ (c_Hall_pass l dC dI (H.size) x0 a1 b1 a2 b2 a3 b3 nh nr nk cA fh gh fr gr fk gk fi me 1 (by omega) ha1 ha2 ha3 hF) (cwV 1 hts gL_law_X1_pass_v rfl rfl rfl (by decide +kernel) ⟨Nat.le_of_ble_eq_true rfl, Nat.le_of_ble_eq_true rfl⟩) ⟨q_blWN, va_recv hKc hPc (ci := 1) (q0 := 0) rfl rfl, fun U hU hW => ⟨rfl, by rw [hU], by rw [hU]; exact hPc, va_K.moved hW.alike hKc, hDc.weaken (fun _ _ _ _ => trivial), hN.warm hW⟩⟩ rfl rfl hl.1 rfl (lv_room (Nat.le_of_ble_eq_true rfl)) dL_law_801 ⟨by decide +kernel, by decide +kernel⟩) hS (fun q _ h => hFc q h) hFc (fun r_5 u_5 t_5 H1 locs ht hvm hw hB hz1 hk1 hS => ?_)
    obtain ⟨⟨gh_5, nh_5⟩, ⟨gr_5, nr_5⟩, ⟨gk_5, nk_5⟩, fi_5, me_5⟩ := u_5
    obtain ⟨fh_5, fr_5, fk_5, hh_5, hr_5, hk_5, hP1, hK1, hD1⟩ := hB
    rw [ht] at hP1
    obtain ⟨hP, hD⟩ := q_join (wr := [(m0, .inr (2, [.ref c1, .ref c2, .ref c3, .int (nI nh), .int (nI nr), .int (nI nk), .int fi, .int me])), (c1, .inl (cA, 2000, .inl eh)), (c2, .inl (cA, 2000, .inl er)), (c3, .inl (cA, 2000, .inl ek))]) (w1 := [(x0, .inr (1, [.ref a1, .ref a2, .ref a3, .int fi_5, .int me_5])), (a1, .inr (0, [.ref b1, .int (nI nh_5)])), (b1, .inl (cA, 2100, .inl fh_5)), (a2, .inr (0, [.ref b2, .int (nI nr_5)])), (b2, .inl (cA, 2100, .inl fr_5)), (a3, .inr (0, [.ref b3, .int (nI nk_5)])), (b3, .inl (cA, 2100, .inl fk_5))]) (wz := [(x0, .inr (1, [.ref a1, .ref a2, .ref a3, .int fi_5, .int me_5])), (a1, .inr (0, [.ref b1, .int (nI nh_5)])), (b1, .inl (cA, 2100, .inl fh_5)), (a2, .inr (0, [.ref b2, .int (nI nr_5)])), (b2, .inl (cA, 2100, .inl fr_5)), (a3, .inr (0, [.ref b3, .int (nI nk_5)])), (b3, .inl (cA, 2100, .inl fk_5)), (m0, .inr (2, [.ref c1, .ref c2, .ref c3, .int (nI nh), .int (nI nr), .int (nI nk), .int fi, .int me])), (c1, .inl (cA, 2000, .inl eh)), (c2, .inl (cA, 2000, .inl er)), (c3, .inl (cA, 2000, .inl ek))]) hP hD [0, 1, 2, 3, 4, 5, 6] [7, 8, 9, 10] [4, 5, 6, 7, 8, 9, 10, 0, 1, 2, 3] rfl rfl (by decide) (by decide) hk1 hFc hP1 hD1 rfl rfl (by decide)
    generalize H1 = H at hP hS ⊢
    have hw1 := hw
    refine lv_aload_n hx hb dL_law_804 rfl (lv_at hl 2 rfl) ?_
    refine lv_aload_n hx hb dL_law_805 rfl (lv_at hl 0 rfl) ?_
    refine lv_iload_n hx hb dL_law_806 rfl (lv_at hl 3 rfl) ?_
    refine lv_iconst (v := 1) hx hb dL_law_807 (by decide) ?_
    refine lv_iadd hx hb dL_law_808 ?_
    refine q_top (y := nI (i + 1)) (nI_1 i) ?_
    refine q_sld (k := i + 1) hx hb hX hbl hbA hS (by omega) (by omega) dL_law_809 ?_
    refine lv_if_eq (tgt := 817) hx hb dL_law_810 (by decide) (fun c_0 => absurd c_0 (show ¬ (xs (i + 1)) = (0 : Int32) from c_1)) (fun c_6 => ?_)
    refine lv_iconst (v := 1) hx hb dL_law_813 (by decide) ?_
    refine lv_goto (tgt := 818) hx hb dL_law_814 (by decide) ?_
    have hPc := hP.sub (ws' := [(m0, .inr (2, [.ref c1, .ref c2, .ref c3, .int (nI nh), .int (nI nr), .int (nI nk), .int fi, .int me])), (c1, .inl (cA, 2000, .inl eh)), (c2, .inl (cA, 2000, .inl er)), (c3, .inl (cA, 2000, .inl ek))]) [7, 8, 9, 10] rfl
    have hKc := hK.sub (tys' := [(cA, .int)]) [0] rfl
    have hDc := hD.sub (ws' := [(m0, .inr (2, [.ref c1, .ref c2, .ref c3, .int (nI nh), .int (nI nr), .int (nI nk), .int fi, .int me])), (c1, .inl (cA, 2000, .inl eh)), (c2, .inl (cA, 2000, .inl er)), (c3, .inl (cA, 2000, .inl ek))]) [7, 8, 9, 10] (by decide) rfl
    have hFc := va_free (wc := [(m0, .inr (2, [.ref c1, .ref c2, .ref c3, .int (nI nh), .int (nI nr), .int (nI nk), .int fi, .int me])), (c1, .inl (cA, 2000, .inl eh)), (c2, .inl (cA, 2000, .inl er)), (c3, .inl (cA, 2000, .inl ek))]) hD hS hA [7, 8, 9, 10] rfl
    refine va_calll (va_runV (As := [.int 1]) (rest := [.long r_5]) ⟨hx, hb, hml, hown, hts⟩ (c_Mod_pass l dC dI (H.size) m0 c1 c2 c3 nh nr nk cA eh gh er gr ek gk fi me 1 (by omega) hb1 hb2 hb3 hF) (cwV 1 hts gL_law_X2_pass_v rfl rfl rfl (by decide +kernel) ⟨Nat.le_of_ble_eq_true rfl, Nat.le_of_ble_eq_true rfl⟩) ⟨q_blW, va_recv hKc hPc (ci := 2) (q0 := 0) rfl rfl, fun U hU hW => ⟨rfl, by rw [hU], by rw [hU]; exact hPc, va_K.moved hW.alike hKc, hDc.weaken (fun _ _ _ _ => trivial)⟩⟩ rfl rfl hl.1 rfl (lv_room (Nat.le_of_ble_eq_true rfl)) dL_law_818 ⟨by decide +kernel, by decide +kernel⟩) hS (fun q _ h => hFc q h) hFc (fun r_7 u_7 t_7 H1 locs ht hvm hw hB hz1 hk1 hS => ?_)
    obtain ⟨⟨gh_7, nh_7⟩, ⟨gr_7, nr_7⟩, ⟨gk_7, nk_7⟩, fi_7, me_7⟩ := u_7
    obtain ⟨eh_7, er_7, ek_7, hh_7, hr_7, hk_7, hP1, hK1, hD1⟩ := hB
    rw [ht] at hP1
    obtain ⟨hP, hD⟩ := q_join (wr := [(x0, .inr (1, [.ref a1, .ref a2, .ref a3, .int fi_5, .int me_5])), (a1, .inr (0, [.ref b1, .int (nI nh_5)])), (b1, .inl (cA, 2100, .inl fh_5)), (a2, .inr (0, [.ref b2, .int (nI nr_5)])), (b2, .inl (cA, 2100, .inl fr_5)), (a3, .inr (0, [.ref b3, .int (nI nk_5)])), (b3, .inl (cA, 2100, .inl fk_5))]) (w1 := [(m0, .inr (2, [.ref c1, .ref c2, .ref c3, .int (nI nh_7), .int (nI nr_7), .int (nI nk_7), .int fi_7, .int me_7])), (c1, .inl (cA, 2000, .inl eh_7)), (c2, .inl (cA, 2000, .inl er_7)), (c3, .inl (cA, 2000, .inl ek_7))]) (wz := [(x0, .inr (1, [.ref a1, .ref a2, .ref a3, .int fi_5, .int me_5])), (a1, .inr (0, [.ref b1, .int (nI nh_5)])), (b1, .inl (cA, 2100, .inl fh_5)), (a2, .inr (0, [.ref b2, .int (nI nr_5)])), (b2, .inl (cA, 2100, .inl fr_5)), (a3, .inr (0, [.ref b3, .int (nI nk_5)])), (b3, .inl (cA, 2100, .inl fk_5)), (m0, .inr (2, [.ref c1, .ref c2, .ref c3, .int (nI nh_7), .int (nI nr_7), .int (nI nk_7), .int fi_7, .int me_7])), (c1, .inl (cA, 2000, .inl eh_7)), (c2, .inl (cA, 2000, .inl er_7)), (c3, .inl (cA, 2000, .inl ek_7))]) hP hD [7, 8, 9, 10] [0, 1, 2, 3, 4, 5, 6] [0, 1, 2, 3, 4, 5, 6, 7, 8, 9, 10] rfl rfl (by decide) (by decide) hk1 hFc hP1 hD1 rfl rfl (by decide)
    generalize H1 = H at hP hS ⊢
    have hI1 : qInv (t + 1) (qPass 1 ((gh, nh), (gr, nr), (gk, nk), fi, me)).2 := qI_pass hI (by omega)
    rw [← hw1] at hI1
    have he := hw1.trans hw.symm
    simp only [Prod.mk.injEq] at he
    obtain ⟨rfl, ⟨rfl, rfl⟩, ⟨rfl, rfl⟩, ⟨rfl, rfl⟩, rfl, rfl⟩ := he
    have hP : va_P (dC, dI) vwCl [(x0, .inr (1, [.ref a1, .ref a2, .ref a3, .int fi_5, .int me_5])), (a1, .inr (0, [.ref b1, .int (nI nh_5)])), (b1, .inl (cA, 2100, .inl fh_5)), (a2, .inr (0, [.ref b2, .int (nI nr_5)])), (b2, .inl (cA, 2100, .inl fr_5)), (a3, .inr (0, [.ref b3, .int (nI nk_5)])), (b3, .inl (cA, 2100, .inl fk_5)), (m0, .inr (2, [.ref c1, .ref c2, .ref c3, .int (nI nh_5), .int (nI nr_5), .int (nI nk_5), .int fi_5, .int me_5])), (c1, .inl (cA, 2000, .inl eh_7)), (c2, .inl (cA, 2000, .inl er_7)), (c3, .inl (cA, 2000, .inl ek_7))] H := hP
    have hD : va_D (fun q : Nat => s.heap.size ≤ q) [(x0, .inr (1, [.ref a1, .ref a2, .ref a3, .int fi_5, .int me_5])), (a1, .inr (0, [.ref b1, .int (nI nh_5)])), (b1, .inl (cA, 2100, .inl fh_5)), (a2, .inr (0, [.ref b2, .int (nI nr_5)])), (b2, .inl (cA, 2100, .inl fr_5)), (a3, .inr (0, [.ref b3, .int (nI nk_5)])), (b3, .inl (cA, 2100, .inl fk_5)), (m0, .inr (2, [.ref c1, .ref c2, .ref c3, .int (nI nh_5), .int (nI nr_5), .int (nI nk_5), .int fi_5, .int me_5])), (c1, .inl (cA, 2000, .inl eh_7)), (c2, .inl (cA, 2000, .inl er_7)), (c3, .inl (cA, 2000, .inl ek_7))] := hD
    refine W.lcmp hx hb dL_law_821 ?_
    refine lv_if_eq (tgt := 899) hx hb dL_law_822 (by decide) (fun _ => ?_) (fun c_0 => absurd ((lg_cmp_eq _ _).mpr rfl) c_0)
    exact hk _ _ _ _ _ _ _ _ _ _ _ _ _ _ hI1 hh_5 hr_5 hk_5 hh_7 hr_7 hk_7 _ _ hP hD hS ls (lv_sub hl [0, 1, 2, 3] rfl)

set_option maxHeartbeats 4000000 in
set_option maxRecDepth 100000 in
theorem law_19 {p : Program} {l : Launch} {e : Env} {s : State} {m : MethodId} {below : List Frame} {meth : Method} {c : Code} {dC : Nat → ClassId} {dI : Nat → Nat → Nat} {b L x0 a1 b1 a2 b2 a3 b3 m0 c1 c2 c3 : Nat} {cA : ClassId} {xs : Nat → Int32} (hL : L ≤ 2048) (C0 : lw_At p s m meth c b L xs) (hK : va_K (dC, dI) vwCl [(cA, .int)] s) {i t : Nat} (ht : i = 4 * t) (hi : i + 4 ≤ L) (hk : lw_K p l e s m below meth c dC dI b x0 a1 b1 a2 b2 a3 b3 m0 c1 c2 c3 cA 899 i (t + 1)) : lw_K p l e s m below meth c dC dI b x0 a1 b1 a2 b2 a3 b3 m0 c1 c2 c3 cA 827 i t := by
  obtain ⟨hx, hb, hr, hml, hown, hts, hX, hbl, hlocks, hgv⟩ := id C0
  have hN := law_nest hts
  have hA : ∀ q : Nat, s.heap.size ≤ q → (fun q : Nat => s.heap.size ≤ q) q := fun _ h => h
  have hbA : ¬ (fun q : Nat => s.heap.size ≤ q) b := Nat.not_le.mpr hbl
  intro gh gr gk fh fr fk eh er ek nh nr nk fi me hI ha1 ha2 ha3 hb1 hb2 hb3 H locs hP hD hS ls hl
  obtain ⟨hn, hs, hF⟩ := id hI
  refine lv_aload_n hx hb dL_law_827 rfl (lv_at hl 1 rfl) ?_
  refine lv_aload_n hx hb dL_law_828 rfl (lv_at hl 0 rfl) ?_
  refine lv_iload_n hx hb dL_law_829 rfl (lv_at hl 3 rfl) ?_
  refine lv_iconst (v := 1) hx hb dL_law_830 (by decide) ?_
  refine lv_iadd hx hb dL_law_831 ?_
  refine q_top (y := nI (i + 1)) (nI_1 i) ?_
  refine q_sld (k := i + 1) hx hb hX hbl hbA hS (by omega) (by omega) dL_law_832 ?_
  refine lv_aload_n hx hb dL_law_833 rfl (lv_at hl 0 rfl) ?_
  refine lv_iload_n hx hb dL_law_834 rfl (lv_at hl 3 rfl) ?_
  refine lv_iconst (v := 2) hx hb dL_law_835 (by decide) ?_
  refine lv_iadd hx hb dL_law_836 ?_
  refine q_top (y := nI (i + 2)) (nI_add i 2) ?_
  refine q_sld (k := i + 2) hx hb hX hbl hbA hS (by omega) (by omega) dL_law_837 ?_
  have hPc := hP.sub (ws' := [(x0, .inr (1, [.ref a1, .ref a2, .ref a3, .int fi, .int me])), (a1, .inr (0, [.ref b1, .int (nI nh)])), (b1, .inl (cA, 2100, .inl fh)), (a2, .inr (0, [.ref b2, .int (nI nr)])), (b2, .inl (cA, 2100, .inl fr)), (a3, .inr (0, [.ref b3, .int (nI nk)])), (b3, .inl (cA, 2100, .inl fk))]) [0, 1, 2, 3, 4, 5, 6] rfl
  have hKc := hK.sub (tys' := [(cA, .int)]) [0] rfl
  have hDc := hD.sub (ws' := [(x0, .inr (1, [.ref a1, .ref a2, .ref a3, .int fi, .int me])), (a1, .inr (0, [.ref b1, .int (nI nh)])), (b1, .inl (cA, 2100, .inl fh)), (a2, .inr (0, [.ref b2, .int (nI nr)])), (b2, .inl (cA, 2100, .inl fr)), (a3, .inr (0, [.ref b3, .int (nI nk)])), (b3, .inl (cA, 2100, .inl fk))]) [0, 1, 2, 3, 4, 5, 6] (by decide) rfl
  have hFc := va_free (wc := [(x0, .inr (1, [.ref a1, .ref a2, .ref a3, .int fi, .int me])), (a1, .inr (0, [.ref b1, .int (nI nh)])), (b1, .inl (cA, 2100, .inl fh)), (a2, .inr (0, [.ref b2, .int (nI nr)])), (b2, .inl (cA, 2100, .inl fr)), (a3, .inr (0, [.ref b3, .int (nI nk)])), (b3, .inl (cA, 2100, .inl fk))]) hD hS hA [0, 1, 2, 3, 4, 5, 6] rfl
  refine va_calli (va_runV (As := [.int (xs (i + 1)), .int (xs (i + 2))]) (rest := []) ⟨hx, hb, hml, hown, hts⟩ (c_Hall_touch l dC dI (H.size) x0 a1 b1 a2 b2 a3 b3 nh nr nk cA fh gh fr gr fk gk fi me (xs (i + 1)) (xs (i + 2)) (by omega) ha1 ha2 ha3 hF) (cwV 2 hts gL_law_X1_touch_v rfl rfl rfl (by decide +kernel) ⟨Nat.le_of_ble_eq_true rfl, Nat.le_of_ble_eq_true rfl⟩) ⟨q_blWN, va_recv hKc hPc (ci := 1) (q0 := 0) rfl rfl, fun U hU hW => ⟨rfl, by rw [hU], by rw [hU]; exact hPc, va_K.moved hW.alike hKc, hDc.weaken (fun _ _ _ _ => trivial), hN.warm hW⟩⟩ rfl rfl hl.1 rfl (lv_room (Nat.le_of_ble_eq_true rfl)) dL_law_838 ⟨by decide +kernel, by decide +kernel⟩) hS (fun q _ h => hFc q h) hFc (fun r_1 u_1 t_1 H1 locs ht hvm hw hB hz1 hk1 hS => ?_)
  obtain ⟨⟨gh_1, nh_1⟩, ⟨gr_1, nr_1⟩, ⟨gk_1, nk_1⟩, fi_1, me_1⟩ := u_1
  obtain ⟨fh_1, fr_1, fk_1, hh_1, hr_1, hk_1, hP1, hK1, hD1⟩ := hB
  rw [ht] at hP1
  obtain ⟨hP, hD⟩ := q_join (wr := [(m0, .inr (2, [.ref c1, .ref c2, .ref c3, .int (nI nh), .int (nI nr), .int (nI nk), .int fi, .int me])), (c1, .inl (cA, 2000, .inl eh)), (c2, .inl (cA, 2000, .inl er)), (c3, .inl (cA, 2000, .inl ek))]) (w1 := [(x0, .inr (1, [.ref a1, .ref a2, .ref a3, .int fi_1, .int me_1])), (a1, .inr (0, [.ref b1, .int (nI nh_1)])), (b1, .inl (cA, 2100, .inl fh_1)), (a2, .inr (0, [.ref b2, .int (nI nr_1)])), (b2, .inl (cA, 2100, .inl fr_1)), (a3, .inr (0, [.ref b3, .int (nI nk_1)])), (b3, .inl (cA, 2100, .inl fk_1))]) (wz := [(x0, .inr (1, [.ref a1, .ref a2, .ref a3, .int fi_1, .int me_1])), (a1, .inr (0, [.ref b1, .int (nI nh_1)])), (b1, .inl (cA, 2100, .inl fh_1)), (a2, .inr (0, [.ref b2, .int (nI nr_1)])), (b2, .inl (cA, 2100, .inl fr_1)), (a3, .inr (0, [.ref b3, .int (nI nk_1)])), (b3, .inl (cA, 2100, .inl fk_1)), (m0, .inr (2, [.ref c1, .ref c2, .ref c3, .int (nI nh), .int (nI nr), .int (nI nk), .int fi, .int me])), (c1, .inl (cA, 2000, .inl eh)), (c2, .inl (cA, 2000, .inl er)), (c3, .inl (cA, 2000, .inl ek))]) hP hD [0, 1, 2, 3, 4, 5, 6] [7, 8, 9, 10] [4, 5, 6, 7, 8, 9, 10, 0, 1, 2, 3] rfl rfl (by decide) (by decide) hk1 hFc hP1 hD1 rfl rfl (by decide)
  generalize H1 = H at hP hS ⊢
  have hw1 := hw
  refine lv_aload_n hx hb dL_law_841 rfl (lv_at hl 2 rfl) ?_
  refine lv_aload_n hx hb dL_law_842 rfl (lv_at hl 0 rfl) ?_
  refine lv_iload_n hx hb dL_law_843 rfl (lv_at hl 3 rfl) ?_
  refine lv_iconst (v := 1) hx hb dL_law_844 (by decide) ?_
  refine lv_iadd hx hb dL_law_845 ?_
  refine q_top (y := nI (i + 1)) (nI_1 i) ?_
  refine q_sld (k := i + 1) hx hb hX hbl hbA hS (by omega) (by omega) dL_law_846 ?_
  refine lv_aload_n hx hb dL_law_847 rfl (lv_at hl 0 rfl) ?_
  refine lv_iload_n hx hb dL_law_848 rfl (lv_at hl 3 rfl) ?_
  refine lv_iconst (v := 2) hx hb dL_law_849 (by decide) ?_
  refine lv_iadd hx hb dL_law_850 ?_
  refine q_top (y := nI (i + 2)) (nI_add i 2) ?_
  refine q_sld (k := i + 2) hx hb hX hbl hbA hS (by omega) (by omega) dL_law_851 ?_
  have hPc := hP.sub (ws' := [(m0, .inr (2, [.ref c1, .ref c2, .ref c3, .int (nI nh), .int (nI nr), .int (nI nk), .int fi, .int me])), (c1, .inl (cA, 2000, .inl eh)), (c2, .inl (cA, 2000, .inl er)), (c3, .inl (cA, 2000, .inl ek))]) [7, 8, 9, 10] rfl
  have hKc := hK.sub (tys' := [(cA, .int)]) [0] rfl
  have hDc := hD.sub (ws' := [(m0, .inr (2, [.ref c1, .ref c2, .ref c3, .int (nI nh), .int (nI nr), .int (nI nk), .int fi, .int me])), (c1, .inl (cA, 2000, .inl eh)), (c2, .inl (cA, 2000, .inl er)), (c3, .inl (cA, 2000, .inl ek))]) [7, 8, 9, 10] (by decide) rfl
  have hFc := va_free (wc := [(m0, .inr (2, [.ref c1, .ref c2, .ref c3, .int (nI nh), .int (nI nr), .int (nI nk), .int fi, .int me])), (c1, .inl (cA, 2000, .inl eh)), (c2, .inl (cA, 2000, .inl er)), (c3, .inl (cA, 2000, .inl ek))]) hD hS hA [7, 8, 9, 10] rfl
  refine va_calli (va_runV (As := [.int (xs (i + 1)), .int (xs (i + 2))]) (rest := [.int r_1]) ⟨hx, hb, hml, hown, hts⟩ (c_Mod_touch l dC dI (H.size) m0 c1 c2 c3 nh nr nk cA eh gh er gr ek gk fi me (xs (i + 1)) (xs (i + 2)) (by omega) hb1 hb2 hb3 hF) (cwV 2 hts gL_law_X2_touch_v rfl rfl rfl (by decide +kernel) ⟨Nat.le_of_ble_eq_true rfl, Nat.le_of_ble_eq_true rfl⟩) ⟨q_blW, va_recv hKc hPc (ci := 2) (q0 := 0) rfl rfl, fun U hU hW => ⟨rfl, by rw [hU], by rw [hU]; exact hPc, va_K.moved hW.alike hKc, hDc.weaken (fun _ _ _ _ => trivial)⟩⟩ rfl rfl hl.1 rfl (lv_room (Nat.le_of_ble_eq_true rfl)) dL_law_852 ⟨by decide +kernel, by decide +kernel⟩) hS (fun q _ h => hFc q h) hFc (fun r_2 u_2 t_2 H1 locs ht hvm hw hB hz1 hk1 hS => ?_)
  obtain ⟨⟨gh_2, nh_2⟩, ⟨gr_2, nr_2⟩, ⟨gk_2, nk_2⟩, fi_2, me_2⟩ := u_2
  obtain ⟨eh_2, er_2, ek_2, hh_2, hr_2, hk_2, hP1, hK1, hD1⟩ := hB
  rw [ht] at hP1
  obtain ⟨hP, hD⟩ := q_join (wr := [(x0, .inr (1, [.ref a1, .ref a2, .ref a3, .int fi_1, .int me_1])), (a1, .inr (0, [.ref b1, .int (nI nh_1)])), (b1, .inl (cA, 2100, .inl fh_1)), (a2, .inr (0, [.ref b2, .int (nI nr_1)])), (b2, .inl (cA, 2100, .inl fr_1)), (a3, .inr (0, [.ref b3, .int (nI nk_1)])), (b3, .inl (cA, 2100, .inl fk_1))]) (w1 := [(m0, .inr (2, [.ref c1, .ref c2, .ref c3, .int (nI nh_2), .int (nI nr_2), .int (nI nk_2), .int fi_2, .int me_2])), (c1, .inl (cA, 2000, .inl eh_2)), (c2, .inl (cA, 2000, .inl er_2)), (c3, .inl (cA, 2000, .inl ek_2))]) (wz := [(x0, .inr (1, [.ref a1, .ref a2, .ref a3, .int fi_1, .int me_1])), (a1, .inr (0, [.ref b1, .int (nI nh_1)])), (b1, .inl (cA, 2100, .inl fh_1)), (a2, .inr (0, [.ref b2, .int (nI nr_1)])), (b2, .inl (cA, 2100, .inl fr_1)), (a3, .inr (0, [.ref b3, .int (nI nk_1)])), (b3, .inl (cA, 2100, .inl fk_1)), (m0, .inr (2, [.ref c1, .ref c2, .ref c3, .int (nI nh_2), .int (nI nr_2), .int (nI nk_2), .int fi_2, .int me_2])), (c1, .inl (cA, 2000, .inl eh_2)), (c2, .inl (cA, 2000, .inl er_2)), (c3, .inl (cA, 2000, .inl ek_2))]) hP hD [7, 8, 9, 10] [0, 1, 2, 3, 4, 5, 6] [0, 1, 2, 3, 4, 5, 6, 7, 8, 9, 10] rfl rfl (by decide) (by decide) hk1 hFc hP1 hD1 rfl rfl (by decide)
  generalize H1 = H at hP hS ⊢
  have hI1 : qInv (t + 1) (qTouch (xs (i + 1)) (xs (i + 2)) ((gh, nh), (gr, nr), (gk, nk), fi, me)).2 := qI_touch hI (by omega)
  rw [← hw1] at hI1
  have he := hw1.trans hw.symm
  simp only [Prod.mk.injEq] at he
  obtain ⟨rfl, ⟨rfl, rfl⟩, ⟨rfl, rfl⟩, ⟨rfl, rfl⟩, rfl, rfl⟩ := he
  have hP : va_P (dC, dI) vwCl [(x0, .inr (1, [.ref a1, .ref a2, .ref a3, .int fi_1, .int me_1])), (a1, .inr (0, [.ref b1, .int (nI nh_1)])), (b1, .inl (cA, 2100, .inl fh_1)), (a2, .inr (0, [.ref b2, .int (nI nr_1)])), (b2, .inl (cA, 2100, .inl fr_1)), (a3, .inr (0, [.ref b3, .int (nI nk_1)])), (b3, .inl (cA, 2100, .inl fk_1)), (m0, .inr (2, [.ref c1, .ref c2, .ref c3, .int (nI nh_1), .int (nI nr_1), .int (nI nk_1), .int fi_1, .int me_1])), (c1, .inl (cA, 2000, .inl eh_2)), (c2, .inl (cA, 2000, .inl er_2)), (c3, .inl (cA, 2000, .inl ek_2))] H := hP
  have hD : va_D (fun q : Nat => s.heap.size ≤ q) [(x0, .inr (1, [.ref a1, .ref a2, .ref a3, .int fi_1, .int me_1])), (a1, .inr (0, [.ref b1, .int (nI nh_1)])), (b1, .inl (cA, 2100, .inl fh_1)), (a2, .inr (0, [.ref b2, .int (nI nr_1)])), (b2, .inl (cA, 2100, .inl fr_1)), (a3, .inr (0, [.ref b3, .int (nI nk_1)])), (b3, .inl (cA, 2100, .inl fk_1)), (m0, .inr (2, [.ref c1, .ref c2, .ref c3, .int (nI nh_1), .int (nI nr_1), .int (nI nk_1), .int fi_1, .int me_1])), (c1, .inl (cA, 2000, .inl eh_2)), (c2, .inl (cA, 2000, .inl er_2)), (c3, .inl (cA, 2000, .inl ek_2))] := hD
  refine lv_icmp_eq (tgt := 899) hx hb dL_law_855 (by decide) (fun c_3 => ?_) (fun c_0 => absurd (show r_1 = r_1 from rfl) c_0)
  exact hk _ _ _ _ _ _ _ _ _ _ _ _ _ _ hI1 hh_1 hr_1 hk_1 hh_2 hr_2 hk_2 _ _ hP hD hS ls (lv_sub hl [0, 1, 2, 3] rfl)

set_option maxHeartbeats 4000000 in
set_option maxRecDepth 100000 in
theorem law_20 {p : Program} {l : Launch} {e : Env} {s : State} {m : MethodId} {below : List Frame} {meth : Method} {c : Code} {dC : Nat → ClassId} {dI : Nat → Nat → Nat} {b L x0 a1 b1 a2 b2 a3 b3 m0 c1 c2 c3 : Nat} {cA : ClassId} {xs : Nat → Int32} (hL : L ≤ 2048) (C0 : lw_At p s m meth c b L xs) (hK : va_K (dC, dI) vwCl [(cA, .int)] s) {i t : Nat} (ht : i = 4 * t) (hi : i + 4 ≤ L) (hk : lw_K p l e s m below meth c dC dI b x0 a1 b1 a2 b2 a3 b3 m0 c1 c2 c3 cA 899 i (t + 1)) : lw_K p l e s m below meth c dC dI b x0 a1 b1 a2 b2 a3 b3 m0 c1 c2 c3 cA 860 i t := by
  obtain ⟨hx, hb, hr, hml, hown, hts, hX, hbl, hlocks, hgv⟩ := id C0
  have hN := law_nest hts
  have hA : ∀ q : Nat, s.heap.size ≤ q → (fun q : Nat => s.heap.size ≤ q) q := fun _ h => h
  have hbA : ¬ (fun q : Nat => s.heap.size ≤ q) b := Nat.not_le.mpr hbl
  intro gh gr gk fh fr fk eh er ek nh nr nk fi me hI ha1 ha2 ha3 hb1 hb2 hb3 H locs hP hD hS ls hl
  obtain ⟨hn, hs, hF⟩ := id hI
  refine lv_aload_n hx hb dL_law_860 rfl (lv_at hl 1 rfl) ?_
  have hPc := hP.sub (ws' := [(x0, .inr (1, [.ref a1, .ref a2, .ref a3, .int fi, .int me])), (a1, .inr (0, [.ref b1, .int (nI nh)])), (b1, .inl (cA, 2100, .inl fh)), (a2, .inr (0, [.ref b2, .int (nI nr)])), (b2, .inl (cA, 2100, .inl fr)), (a3, .inr (0, [.ref b3, .int (nI nk)])), (b3, .inl (cA, 2100, .inl fk))]) [0, 1, 2, 3, 4, 5, 6] rfl
  have hKc := hK.sub (tys' := [(cA, .int)]) [0] rfl
  refine q_csiE (va_runV (As := []) (rest := []) ⟨hx, hb, hml, hown, hts⟩ (c_Hall_finger l dC dI x0 a1 b1 a2 b2 a3 b3 nh nr nk cA fh gh fr gr fk gk fi me (by omega) ha1 ha2 ha3 hF) (cwV 0 hts gL_law_X1_finger_v rfl rfl rfl (by decide +kernel) ⟨Nat.le_of_ble_eq_true rfl, Nat.le_of_ble_eq_true rfl⟩) ⟨q_blR, va_recv hKc hPc (ci := 1) (q0 := 0) rfl rfl, fun U hU hW => ⟨rfl, by rw [hU]; exact hPc, va_K.moved hW.alike hKc⟩⟩ rfl rfl hl.1 rfl (lv_room (Nat.le_of_ble_eq_true rfl)) dL_law_861 ⟨by decide +kernel, by decide +kernel⟩) ?_
  refine lv_aload_n hx hb dL_law_864 rfl (lv_at hl 2 rfl) ?_
  have hPc := hP.sub (ws' := [(m0, .inr (2, [.ref c1, .ref c2, .ref c3, .int (nI nh), .int (nI nr), .int (nI nk), .int fi, .int me])), (c1, .inl (cA, 2000, .inl eh)), (c2, .inl (cA, 2000, .inl er)), (c3, .inl (cA, 2000, .inl ek))]) [7, 8, 9, 10] rfl
  have hKc := hK.sub (tys' := [(cA, .int)]) [0] rfl
  refine q_csiE (va_runV (As := []) (rest := [.int ((qFinger ((gh, nh), (gr, nr), (gk, nk), fi, me)).1)]) ⟨hx, hb, hml, hown, hts⟩ (c_Mod_finger l dC dI m0 c1 c2 c3 nh nr nk cA eh gh er gr ek gk fi me (by omega) hb1 hb2 hb3 hF) (cwV 0 hts gL_law_X2_finger_v rfl rfl rfl (by decide +kernel) ⟨Nat.le_of_ble_eq_true rfl, Nat.le_of_ble_eq_true rfl⟩) ⟨q_blR, va_recv hKc hPc (ci := 2) (q0 := 0) rfl rfl, fun U hU hW => ⟨rfl, by rw [hU]; exact hPc, va_K.moved hW.alike hKc⟩⟩ rfl rfl hl.1 rfl (lv_room (Nat.le_of_ble_eq_true rfl)) dL_law_865 ⟨by decide +kernel, by decide +kernel⟩) ?_
  refine lv_icmp_eq (tgt := 899) hx hb dL_law_868 (by decide) (fun c_1 => ?_) (fun c_0 => absurd (show ((qFinger ((gh, nh), (gr, nr), (gk, nk), fi, me)).1) = ((qFinger ((gh, nh), (gr, nr), (gk, nk), fi, me)).1) from rfl) c_0)
  exact hk _ _ _ _ _ _ _ _ _ _ _ _ _ _ (qI_mono hI (by omega)) ha1 ha2 ha3 hb1 hb2 hb3 _ _ hP hD hS ls (lv_sub hl [0, 1, 2, 3] rfl)

set_option maxHeartbeats 4000000 in
set_option maxRecDepth 100000 in
theorem law_21 {p : Program} {l : Launch} {e : Env} {s : State} {m : MethodId} {below : List Frame} {meth : Method} {c : Code} {dC : Nat → ClassId} {dI : Nat → Nat → Nat} {b L x0 a1 b1 a2 b2 a3 b3 m0 c1 c2 c3 : Nat} {cA : ClassId} {xs : Nat → Int32} (hL : L ≤ 2048) (C0 : lw_At p s m meth c b L xs) (hK : va_K (dC, dI) vwCl [(cA, .int)] s) {i t : Nat} (ht : i = 4 * t) (hi : i + 4 ≤ L) (hk : lw_K p l e s m below meth c dC dI b x0 a1 b1 a2 b2 a3 b3 m0 c1 c2 c3 cA 899 i (t + 1)) : lw_K p l e s m below meth c dC dI b x0 a1 b1 a2 b2 a3 b3 m0 c1 c2 c3 cA 873 i t := by
  obtain ⟨hx, hb, hr, hml, hown, hts, hX, hbl, hlocks, hgv⟩ := id C0
  have hN := law_nest hts
  have hA : ∀ q : Nat, s.heap.size ≤ q → (fun q : Nat => s.heap.size ≤ q) q := fun _ h => h
  have hbA : ¬ (fun q : Nat => s.heap.size ≤ q) b := Nat.not_le.mpr hbl
  intro gh gr gk fh fr fk eh er ek nh nr nk fi me hI ha1 ha2 ha3 hb1 hb2 hb3 H locs hP hD hS ls hl
  obtain ⟨hn, hs, hF⟩ := id hI
  refine lv_aload_n hx hb dL_law_873 rfl (lv_at hl 1 rfl) ?_
  have hPc := hP.sub (ws' := [(x0, .inr (1, [.ref a1, .ref a2, .ref a3, .int fi, .int me])), (a1, .inr (0, [.ref b1, .int (nI nh)])), (b1, .inl (cA, 2100, .inl fh)), (a2, .inr (0, [.ref b2, .int (nI nr)])), (b2, .inl (cA, 2100, .inl fr)), (a3, .inr (0, [.ref b3, .int (nI nk)])), (b3, .inl (cA, 2100, .inl fk))]) [0, 1, 2, 3, 4, 5, 6] rfl
  have hKc := hK.sub (tys' := [(cA, .int)]) [0] rfl
  have hDc := hD.sub (ws' := [(x0, .inr (1, [.ref a1, .ref a2, .ref a3, .int fi, .int me])), (a1, .inr (0, [.ref b1, .int (nI nh)])), (b1, .inl (cA, 2100, .inl fh)), (a2, .inr (0, [.ref b2, .int (nI nr)])), (b2, .inl (cA, 2100, .inl fr)), (a3, .inr (0, [.ref b3, .int (nI nk)])), (b3, .inl (cA, 2100, .inl fk))]) [0, 1, 2, 3, 4, 5, 6] (by decide) rfl
  have hFc := va_free (wc := [(x0, .inr (1, [.ref a1, .ref a2, .ref a3, .int fi, .int me])), (a1, .inr (0, [.ref b1, .int (nI nh)])), (b1, .inl (cA, 2100, .inl fh)), (a2, .inr (0, [.ref b2, .int (nI nr)])), (b2, .inl (cA, 2100, .inl fr)), (a3, .inr (0, [.ref b3, .int (nI nk)])), (b3, .inl (cA, 2100, .inl fk))]) hD hS hA [0, 1, 2, 3, 4, 5, 6] rfl
  refine va_calli (va_runV (As := []) (rest := []) ⟨hx, hb, hml, hown, hts⟩ (c_Hall_empty l dC dI (H.size) x0 a1 b1 a2 b2 a3 b3 nh nr nk cA fh gh fr gr fk gk fi me (by omega) ha1 ha2 ha3 hF) (cwV 0 hts gL_law_X1_empty_v rfl rfl rfl (by decide +kernel) ⟨Nat.le_of_ble_eq_true rfl, Nat.le_of_ble_eq_true rfl⟩) ⟨q_blWN, va_recv hKc hPc (ci := 1) (q0 := 0) rfl rfl, fun U hU hW => ⟨rfl, by rw [hU], by rw [hU]; exact hPc, va_K.moved hW.alike hKc, hDc.weaken (fun _ _ _ _ => trivial), hN.warm hW⟩⟩ rfl rfl hl.1 rfl (lv_room (Nat.le_of_ble_eq_true rfl)) dL_law_874 ⟨by decide +kernel, by decide +kernel⟩) hS (fun q _ h => hFc q h) hFc (fun r_1 u_1 t_1 H1 locs ht hvm hw hB hz1 hk1 hS => ?_)
  obtain ⟨⟨gh_1, nh_1⟩, ⟨gr_1, nr_1⟩, ⟨gk_1, nk_1⟩, fi_1, me_1⟩ := u_1
  obtain ⟨fh_1, fr_1, fk_1, hh_1, hr_1, hk_1, hP1, hK1, hD1⟩ := hB
  rw [ht] at hP1
  obtain ⟨hP, hD⟩ := q_join (wr := [(m0, .inr (2, [.ref c1, .ref c2, .ref c3, .int (nI nh), .int (nI nr), .int (nI nk), .int fi, .int me])), (c1, .inl (cA, 2000, .inl eh)), (c2, .inl (cA, 2000, .inl er)), (c3, .inl (cA, 2000, .inl ek))]) (w1 := [(x0, .inr (1, [.ref a1, .ref a2, .ref a3, .int fi_1, .int me_1])), (a1, .inr (0, [.ref b1, .int (nI nh_1)])), (b1, .inl (cA, 2100, .inl fh_1)), (a2, .inr (0, [.ref b2, .int (nI nr_1)])), (b2, .inl (cA, 2100, .inl fr_1)), (a3, .inr (0, [.ref b3, .int (nI nk_1)])), (b3, .inl (cA, 2100, .inl fk_1))]) (wz := [(x0, .inr (1, [.ref a1, .ref a2, .ref a3, .int fi_1, .int me_1])), (a1, .inr (0, [.ref b1, .int (nI nh_1)])), (b1, .inl (cA, 2100, .inl fh_1)), (a2, .inr (0, [.ref b2, .int (nI nr_1)])), (b2, .inl (cA, 2100, .inl fr_1)), (a3, .inr (0, [.ref b3, .int (nI nk_1)])), (b3, .inl (cA, 2100, .inl fk_1)), (m0, .inr (2, [.ref c1, .ref c2, .ref c3, .int (nI nh), .int (nI nr), .int (nI nk), .int fi, .int me])), (c1, .inl (cA, 2000, .inl eh)), (c2, .inl (cA, 2000, .inl er)), (c3, .inl (cA, 2000, .inl ek))]) hP hD [0, 1, 2, 3, 4, 5, 6] [7, 8, 9, 10] [4, 5, 6, 7, 8, 9, 10, 0, 1, 2, 3] rfl rfl (by decide) (by decide) hk1 hFc hP1 hD1 rfl rfl (by decide)
  generalize H1 = H at hP hS ⊢
  have hw1 := hw
  refine lv_aload_n hx hb dL_law_877 rfl (lv_at hl 2 rfl) ?_
  have hPc := hP.sub (ws' := [(m0, .inr (2, [.ref c1, .ref c2, .ref c3, .int (nI nh), .int (nI nr), .int (nI nk), .int fi, .int me])), (c1, .inl (cA, 2000, .inl eh)), (c2, .inl (cA, 2000, .inl er)), (c3, .inl (cA, 2000, .inl ek))]) [7, 8, 9, 10] rfl
  have hKc := hK.sub (tys' := [(cA, .int)]) [0] rfl
  have hDc := hD.sub (ws' := [(m0, .inr (2, [.ref c1, .ref c2, .ref c3, .int (nI nh), .int (nI nr), .int (nI nk), .int fi, .int me])), (c1, .inl (cA, 2000, .inl eh)), (c2, .inl (cA, 2000, .inl er)), (c3, .inl (cA, 2000, .inl ek))]) [7, 8, 9, 10] (by decide) rfl
  have hFc := va_free (wc := [(m0, .inr (2, [.ref c1, .ref c2, .ref c3, .int (nI nh), .int (nI nr), .int (nI nk), .int fi, .int me])), (c1, .inl (cA, 2000, .inl eh)), (c2, .inl (cA, 2000, .inl er)), (c3, .inl (cA, 2000, .inl ek))]) hD hS hA [7, 8, 9, 10] rfl
  refine va_calli (va_runV (As := []) (rest := [.int r_1]) ⟨hx, hb, hml, hown, hts⟩ (c_Mod_empty l dC dI (H.size) m0 c1 c2 c3 nh nr nk cA eh gh er gr ek gk fi me (by omega) hb1 hb2 hb3 hF) (cwV 0 hts gL_law_X2_empty_v rfl rfl rfl (by decide +kernel) ⟨Nat.le_of_ble_eq_true rfl, Nat.le_of_ble_eq_true rfl⟩) ⟨q_blW, va_recv hKc hPc (ci := 2) (q0 := 0) rfl rfl, fun U hU hW => ⟨rfl, by rw [hU], by rw [hU]; exact hPc, va_K.moved hW.alike hKc, hDc.weaken (fun _ _ _ _ => trivial)⟩⟩ rfl rfl hl.1 rfl (lv_room (Nat.le_of_ble_eq_true rfl)) dL_law_878 ⟨by decide +kernel, by decide +kernel⟩) hS (fun q _ h => hFc q h) hFc (fun r_2 u_2 t_2 H1 locs ht hvm hw hB hz1 hk1 hS => ?_)
  obtain ⟨⟨gh_2, nh_2⟩, ⟨gr_2, nr_2⟩, ⟨gk_2, nk_2⟩, fi_2, me_2⟩ := u_2
  obtain ⟨eh_2, er_2, ek_2, hh_2, hr_2, hk_2, hP1, hK1, hD1⟩ := hB
  rw [ht] at hP1
  obtain ⟨hP, hD⟩ := q_join (wr := [(x0, .inr (1, [.ref a1, .ref a2, .ref a3, .int fi_1, .int me_1])), (a1, .inr (0, [.ref b1, .int (nI nh_1)])), (b1, .inl (cA, 2100, .inl fh_1)), (a2, .inr (0, [.ref b2, .int (nI nr_1)])), (b2, .inl (cA, 2100, .inl fr_1)), (a3, .inr (0, [.ref b3, .int (nI nk_1)])), (b3, .inl (cA, 2100, .inl fk_1))]) (w1 := [(m0, .inr (2, [.ref c1, .ref c2, .ref c3, .int (nI nh_2), .int (nI nr_2), .int (nI nk_2), .int fi_2, .int me_2])), (c1, .inl (cA, 2000, .inl eh_2)), (c2, .inl (cA, 2000, .inl er_2)), (c3, .inl (cA, 2000, .inl ek_2))]) (wz := [(x0, .inr (1, [.ref a1, .ref a2, .ref a3, .int fi_1, .int me_1])), (a1, .inr (0, [.ref b1, .int (nI nh_1)])), (b1, .inl (cA, 2100, .inl fh_1)), (a2, .inr (0, [.ref b2, .int (nI nr_1)])), (b2, .inl (cA, 2100, .inl fr_1)), (a3, .inr (0, [.ref b3, .int (nI nk_1)])), (b3, .inl (cA, 2100, .inl fk_1)), (m0, .inr (2, [.ref c1, .ref c2, .ref c3, .int (nI nh_2), .int (nI nr_2), .int (nI nk_2), .int fi_2, .int me_2])), (c1, .inl (cA, 2000, .inl eh_2)), (c2, .inl (cA, 2000, .inl er_2)), (c3, .inl (cA, 2000, .inl ek_2))]) hP hD [7, 8, 9, 10] [0, 1, 2, 3, 4, 5, 6] [0, 1, 2, 3, 4, 5, 6, 7, 8, 9, 10] rfl rfl (by decide) (by decide) hk1 hFc hP1 hD1 rfl rfl (by decide)
  generalize H1 = H at hP hS ⊢
  have hI1 : qInv (t + 1) (qEmpty ((gh, nh), (gr, nr), (gk, nk), fi, me)).2 := qI_empty hI (by omega)
  rw [← hw1] at hI1
  have he := hw1.trans hw.symm
  simp only [Prod.mk.injEq] at he
  obtain ⟨rfl, ⟨rfl, rfl⟩, ⟨rfl, rfl⟩, ⟨rfl, rfl⟩, rfl, rfl⟩ := he
  have hP : va_P (dC, dI) vwCl [(x0, .inr (1, [.ref a1, .ref a2, .ref a3, .int fi_1, .int me_1])), (a1, .inr (0, [.ref b1, .int (nI nh_1)])), (b1, .inl (cA, 2100, .inl fh_1)), (a2, .inr (0, [.ref b2, .int (nI nr_1)])), (b2, .inl (cA, 2100, .inl fr_1)), (a3, .inr (0, [.ref b3, .int (nI nk_1)])), (b3, .inl (cA, 2100, .inl fk_1)), (m0, .inr (2, [.ref c1, .ref c2, .ref c3, .int (nI nh_1), .int (nI nr_1), .int (nI nk_1), .int fi_1, .int me_1])), (c1, .inl (cA, 2000, .inl eh_2)), (c2, .inl (cA, 2000, .inl er_2)), (c3, .inl (cA, 2000, .inl ek_2))] H := hP
  have hD : va_D (fun q : Nat => s.heap.size ≤ q) [(x0, .inr (1, [.ref a1, .ref a2, .ref a3, .int fi_1, .int me_1])), (a1, .inr (0, [.ref b1, .int (nI nh_1)])), (b1, .inl (cA, 2100, .inl fh_1)), (a2, .inr (0, [.ref b2, .int (nI nr_1)])), (b2, .inl (cA, 2100, .inl fr_1)), (a3, .inr (0, [.ref b3, .int (nI nk_1)])), (b3, .inl (cA, 2100, .inl fk_1)), (m0, .inr (2, [.ref c1, .ref c2, .ref c3, .int (nI nh_1), .int (nI nr_1), .int (nI nk_1), .int fi_1, .int me_1])), (c1, .inl (cA, 2000, .inl eh_2)), (c2, .inl (cA, 2000, .inl er_2)), (c3, .inl (cA, 2000, .inl ek_2))] := hD
  refine lv_icmp_eq (tgt := 899) hx hb dL_law_881 (by decide) (fun c_3 => ?_) (fun c_0 => absurd (show r_1 = r_1 from rfl) c_0)
  exact hk _ _ _ _ _ _ _ _ _ _ _ _ _ _ hI1 hh_1 hr_1 hk_1 hh_2 hr_2 hk_2 _ _ hP hD hS ls (lv_sub hl [0, 1, 2, 3] rfl)

set_option maxHeartbeats 4000000 in
set_option maxRecDepth 100000 in
theorem law_22 {p : Program} {l : Launch} {e : Env} {s : State} {m : MethodId} {below : List Frame} {meth : Method} {c : Code} {dC : Nat → ClassId} {dI : Nat → Nat → Nat} {b L x0 a1 b1 a2 b2 a3 b3 m0 c1 c2 c3 : Nat} {cA : ClassId} {xs : Nat → Int32} (hL : L ≤ 2048) (C0 : lw_At p s m meth c b L xs) (hK : va_K (dC, dI) vwCl [(cA, .int)] s) {i t : Nat} (ht : i = 4 * t) (hi : i + 4 ≤ L) (hk : lw_K p l e s m below meth c dC dI b x0 a1 b1 a2 b2 a3 b3 m0 c1 c2 c3 cA 899 i (t + 1)) : lw_K p l e s m below meth c dC dI b x0 a1 b1 a2 b2 a3 b3 m0 c1 c2 c3 cA 886 i t := by
  obtain ⟨hx, hb, hr, hml, hown, hts, hX, hbl, hlocks, hgv⟩ := id C0
  have hN := law_nest hts
  have hA : ∀ q : Nat, s.heap.size ≤ q → (fun q : Nat => s.heap.size ≤ q) q := fun _ h => h
  have hbA : ¬ (fun q : Nat => s.heap.size ≤ q) b := Nat.not_le.mpr hbl
  intro gh gr gk fh fr fk eh er ek nh nr nk fi me hI ha1 ha2 ha3 hb1 hb2 hb3 H locs hP hD hS ls hl
  obtain ⟨hn, hs, hF⟩ := id hI
  refine lv_aload_n hx hb dL_law_886 rfl (lv_at hl 1 rfl) ?_
  have hPc := hP.sub (ws' := [(x0, .inr (1, [.ref a1, .ref a2, .ref a3, .int fi, .int me])), (a1, .inr (0, [.ref b1, .int (nI nh)])), (b1, .inl (cA, 2100, .inl fh)), (a2, .inr (0, [.ref b2, .int (nI nr)])), (b2, .inl (cA, 2100, .inl fr)), (a3, .inr (0, [.ref b3, .int (nI nk)])), (b3, .inl (cA, 2100, .inl fk))]) [0, 1, 2, 3, 4, 5, 6] rfl
  have hKc := hK.sub (tys' := [(cA, .int)]) [0] rfl
  have hDc := hD.sub (ws' := [(x0, .inr (1, [.ref a1, .ref a2, .ref a3, .int fi, .int me])), (a1, .inr (0, [.ref b1, .int (nI nh)])), (b1, .inl (cA, 2100, .inl fh)), (a2, .inr (0, [.ref b2, .int (nI nr)])), (b2, .inl (cA, 2100, .inl fr)), (a3, .inr (0, [.ref b3, .int (nI nk)])), (b3, .inl (cA, 2100, .inl fk))]) [0, 1, 2, 3, 4, 5, 6] (by decide) rfl
  have hFc := va_free (wc := [(x0, .inr (1, [.ref a1, .ref a2, .ref a3, .int fi, .int me])), (a1, .inr (0, [.ref b1, .int (nI nh)])), (b1, .inl (cA, 2100, .inl fh)), (a2, .inr (0, [.ref b2, .int (nI nr)])), (b2, .inl (cA, 2100, .inl fr)), (a3, .inr (0, [.ref b3, .int (nI nk)])), (b3, .inl (cA, 2100, .inl fk))]) hD hS hA [0, 1, 2, 3, 4, 5, 6] rfl
  refine va_calli (va_runV (As := []) (rest := []) ⟨hx, hb, hml, hown, hts⟩ (c_Hall_hand l dC dI (H.size) x0 a1 b1 a2 b2 a3 b3 nh nr nk cA fh gh fr gr fk gk fi me (by omega) ha1 ha2 ha3 hF) (cwV 0 hts gL_law_X1_hand_v rfl rfl rfl (by decide +kernel) ⟨Nat.le_of_ble_eq_true rfl, Nat.le_of_ble_eq_true rfl⟩) ⟨q_blWN, va_recv hKc hPc (ci := 1) (q0 := 0) rfl rfl, fun U hU hW => ⟨rfl, by rw [hU], by rw [hU]; exact hPc, va_K.moved hW.alike hKc, hDc.weaken (fun _ _ _ _ => trivial), hN.warm hW⟩⟩ rfl rfl hl.1 rfl (lv_room (Nat.le_of_ble_eq_true rfl)) dL_law_887 ⟨by decide +kernel, by decide +kernel⟩) hS (fun q _ h => hFc q h) hFc (fun r_1 u_1 t_1 H1 locs ht hvm hw hB hz1 hk1 hS => ?_)
  obtain ⟨⟨gh_1, nh_1⟩, ⟨gr_1, nr_1⟩, ⟨gk_1, nk_1⟩, fi_1, me_1⟩ := u_1
  obtain ⟨fh_1, fr_1, fk_1, hh_1, hr_1, hk_1, hP1, hK1, hD1⟩ := hB
  rw [ht] at hP1
  obtain ⟨hP, hD⟩ := q_join (wr := [(m0, .inr (2, [.ref c1, .ref c2, .ref c3, .int (nI nh), .int (nI nr), .int (nI nk), .int fi, .int me])), (c1, .inl (cA, 2000, .inl eh)), (c2, .inl (cA, 2000, .inl er)), (c3, .inl (cA, 2000, .inl ek))]) (w1 := [(x0, .inr (1, [.ref a1, .ref a2, .ref a3, .int fi_1, .int me_1])), (a1, .inr (0, [.ref b1, .int (nI nh_1)])), (b1, .inl (cA, 2100, .inl fh_1)), (a2, .inr (0, [.ref b2, .int (nI nr_1)])), (b2, .inl (cA, 2100, .inl fr_1)), (a3, .inr (0, [.ref b3, .int (nI nk_1)])), (b3, .inl (cA, 2100, .inl fk_1))]) (wz := [(x0, .inr (1, [.ref a1, .ref a2, .ref a3, .int fi_1, .int me_1])), (a1, .inr (0, [.ref b1, .int (nI nh_1)])), (b1, .inl (cA, 2100, .inl fh_1)), (a2, .inr (0, [.ref b2, .int (nI nr_1)])), (b2, .inl (cA, 2100, .inl fr_1)), (a3, .inr (0, [.ref b3, .int (nI nk_1)])), (b3, .inl (cA, 2100, .inl fk_1)), (m0, .inr (2, [.ref c1, .ref c2, .ref c3, .int (nI nh), .int (nI nr), .int (nI nk), .int fi, .int me])), (c1, .inl (cA, 2000, .inl eh)), (c2, .inl (cA, 2000, .inl er)), (c3, .inl (cA, 2000, .inl ek))]) hP hD [0, 1, 2, 3, 4, 5, 6] [7, 8, 9, 10] [4, 5, 6, 7, 8, 9, 10, 0, 1, 2, 3] rfl rfl (by decide) (by decide) hk1 hFc hP1 hD1 rfl rfl (by decide)
  generalize H1 = H at hP hS ⊢
  have hw1 := hw
  refine lv_aload_n hx hb dL_law_890 rfl (lv_at hl 2 rfl) ?_
  have hPc := hP.sub (ws' := [(m0, .inr (2, [.ref c1, .ref c2, .ref c3, .int (nI nh), .int (nI nr), .int (nI nk), .int fi, .int me])), (c1, .inl (cA, 2000, .inl eh)), (c2, .inl (cA, 2000, .inl er)), (c3, .inl (cA, 2000, .inl ek))]) [7, 8, 9, 10] rfl
  have hKc := hK.sub (tys' := [(cA, .int)]) [0] rfl
  have hDc := hD.sub (ws' := [(m0, .inr (2, [.ref c1, .ref c2, .ref c3, .int (nI nh), .int (nI nr), .int (nI nk), .int fi, .int me])), (c1, .inl (cA, 2000, .inl eh)), (c2, .inl (cA, 2000, .inl er)), (c3, .inl (cA, 2000, .inl ek))]) [7, 8, 9, 10] (by decide) rfl
  have hFc := va_free (wc := [(m0, .inr (2, [.ref c1, .ref c2, .ref c3, .int (nI nh), .int (nI nr), .int (nI nk), .int fi, .int me])), (c1, .inl (cA, 2000, .inl eh)), (c2, .inl (cA, 2000, .inl er)), (c3, .inl (cA, 2000, .inl ek))]) hD hS hA [7, 8, 9, 10] rfl
  refine va_calli (va_runV (As := []) (rest := [.int r_1]) ⟨hx, hb, hml, hown, hts⟩ (c_Mod_hand l dC dI (H.size) m0 c1 c2 c3 nh nr nk cA eh gh er gr ek gk fi me (by omega) hb1 hb2 hb3 hF) (cwV 0 hts gL_law_X2_hand_v rfl rfl rfl (by decide +kernel) ⟨Nat.le_of_ble_eq_true rfl, Nat.le_of_ble_eq_true rfl⟩) ⟨q_blW, va_recv hKc hPc (ci := 2) (q0 := 0) rfl rfl, fun U hU hW => ⟨rfl, by rw [hU], by rw [hU]; exact hPc, va_K.moved hW.alike hKc, hDc.weaken (fun _ _ _ _ => trivial)⟩⟩ rfl rfl hl.1 rfl (lv_room (Nat.le_of_ble_eq_true rfl)) dL_law_891 ⟨by decide +kernel, by decide +kernel⟩) hS (fun q _ h => hFc q h) hFc (fun r_2 u_2 t_2 H1 locs ht hvm hw hB hz1 hk1 hS => ?_)
  obtain ⟨⟨gh_2, nh_2⟩, ⟨gr_2, nr_2⟩, ⟨gk_2, nk_2⟩, fi_2, me_2⟩ := u_2
  obtain ⟨eh_2, er_2, ek_2, hh_2, hr_2, hk_2, hP1, hK1, hD1⟩ := hB
  rw [ht] at hP1
  obtain ⟨hP, hD⟩ := q_join (wr := [(x0, .inr (1, [.ref a1, .ref a2, .ref a3, .int fi_1, .int me_1])), (a1, .inr (0, [.ref b1, .int (nI nh_1)])), (b1, .inl (cA, 2100, .inl fh_1)), (a2, .inr (0, [.ref b2, .int (nI nr_1)])), (b2, .inl (cA, 2100, .inl fr_1)), (a3, .inr (0, [.ref b3, .int (nI nk_1)])), (b3, .inl (cA, 2100, .inl fk_1))]) (w1 := [(m0, .inr (2, [.ref c1, .ref c2, .ref c3, .int (nI nh_2), .int (nI nr_2), .int (nI nk_2), .int fi_2, .int me_2])), (c1, .inl (cA, 2000, .inl eh_2)), (c2, .inl (cA, 2000, .inl er_2)), (c3, .inl (cA, 2000, .inl ek_2))]) (wz := [(x0, .inr (1, [.ref a1, .ref a2, .ref a3, .int fi_1, .int me_1])), (a1, .inr (0, [.ref b1, .int (nI nh_1)])), (b1, .inl (cA, 2100, .inl fh_1)), (a2, .inr (0, [.ref b2, .int (nI nr_1)])), (b2, .inl (cA, 2100, .inl fr_1)), (a3, .inr (0, [.ref b3, .int (nI nk_1)])), (b3, .inl (cA, 2100, .inl fk_1)), (m0, .inr (2, [.ref c1, .ref c2, .ref c3, .int (nI nh_2), .int (nI nr_2), .int (nI nk_2), .int fi_2, .int me_2])), (c1, .inl (cA, 2000, .inl eh_2)), (c2, .inl (cA, 2000, .inl er_2)), (c3, .inl (cA, 2000, .inl ek_2))]) hP hD [7, 8, 9, 10] [0, 1, 2, 3, 4, 5, 6] [0, 1, 2, 3, 4, 5, 6, 7, 8, 9, 10] rfl rfl (by decide) (by decide) hk1 hFc hP1 hD1 rfl rfl (by decide)
  generalize H1 = H at hP hS ⊢
  have hI1 : qInv (t + 1) (qHand ((gh, nh), (gr, nr), (gk, nk), fi, me)).2 := qI_hand hI (by omega)
  rw [← hw1] at hI1
  have he := hw1.trans hw.symm
  simp only [Prod.mk.injEq] at he
  obtain ⟨rfl, ⟨rfl, rfl⟩, ⟨rfl, rfl⟩, ⟨rfl, rfl⟩, rfl, rfl⟩ := he
  have hP : va_P (dC, dI) vwCl [(x0, .inr (1, [.ref a1, .ref a2, .ref a3, .int fi_1, .int me_1])), (a1, .inr (0, [.ref b1, .int (nI nh_1)])), (b1, .inl (cA, 2100, .inl fh_1)), (a2, .inr (0, [.ref b2, .int (nI nr_1)])), (b2, .inl (cA, 2100, .inl fr_1)), (a3, .inr (0, [.ref b3, .int (nI nk_1)])), (b3, .inl (cA, 2100, .inl fk_1)), (m0, .inr (2, [.ref c1, .ref c2, .ref c3, .int (nI nh_1), .int (nI nr_1), .int (nI nk_1), .int fi_1, .int me_1])), (c1, .inl (cA, 2000, .inl eh_2)), (c2, .inl (cA, 2000, .inl er_2)), (c3, .inl (cA, 2000, .inl ek_2))] H := hP
  have hD : va_D (fun q : Nat => s.heap.size ≤ q) [(x0, .inr (1, [.ref a1, .ref a2, .ref a3, .int fi_1, .int me_1])), (a1, .inr (0, [.ref b1, .int (nI nh_1)])), (b1, .inl (cA, 2100, .inl fh_1)), (a2, .inr (0, [.ref b2, .int (nI nr_1)])), (b2, .inl (cA, 2100, .inl fr_1)), (a3, .inr (0, [.ref b3, .int (nI nk_1)])), (b3, .inl (cA, 2100, .inl fk_1)), (m0, .inr (2, [.ref c1, .ref c2, .ref c3, .int (nI nh_1), .int (nI nr_1), .int (nI nk_1), .int fi_1, .int me_1])), (c1, .inl (cA, 2000, .inl eh_2)), (c2, .inl (cA, 2000, .inl er_2)), (c3, .inl (cA, 2000, .inl ek_2))] := hD
  refine lv_icmp_eq (tgt := 899) hx hb dL_law_894 (by decide) (fun c_3 => ?_) (fun c_0 => absurd (show r_1 = r_1 from rfl) c_0)
  exact hk _ _ _ _ _ _ _ _ _ _ _ _ _ _ hI1 hh_1 hr_1 hk_1 hh_2 hr_2 hk_2 _ _ hP hD hS ls (lv_sub hl [0, 1, 2, 3] rfl)

