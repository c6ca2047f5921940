set_option maxHeartbeats 4000000 in
set_option maxRecDepth 100000 in
theorem law_8 {p : Program} {l : Launch} {e : Env} {s : State} {m : MethodId} {below : List Frame} {meth : Method} {c : Code} {dC : Nat → ClassId} {dI : Nat → Nat → Nat} {b L x0 a1 b1 a2 b2 a3 b3 m0 c1 c2 c3 : Nat} {cA : ClassId} {xs : Nat → Int32} (hL : L ≤ 2048) (C0 : lw_At p s m meth c b L xs) (hK : va_K (dC, dI) vwCl [(cA, .int)] s) {i t : Nat} (ht : i = 4 * t) (hi : i + 4 ≤ L) (hk : lw_K p l e s m below meth c dC dI b x0 a1 b1 a2 b2 a3 b3 m0 c1 c2 c3 cA 899 i (t + 1)) : lw_K p l e s m below meth c dC dI b x0 a1 b1 a2 b2 a3 b3 m0 c1 c2 c3 cA 420 i t := by
  obtain ⟨hx, hb, hr, hml, hown, hts, hX, hbl, hlocks, hgv⟩ := id C0
  have hN := law_nest hts
  have hA : ∀ q : Nat, s.heap.size ≤ q → (fun q : Nat => s.heap.size ≤ q) q := fun _ h => h
  have hbA : ¬ (fun q : Nat => s.heap.size ≤ q) b := Nat.not_le.mpr hbl
  intro gh gr gk fh fr fk eh er ek nh nr nk fi me hI ha1 ha2 ha3 hb1 hb2 hb3 H locs hP hD hS ls hl
  obtain ⟨hn, hs, hF⟩ := id hI
  refine lv_aload_n hx hb dL_law_420 rfl (lv_at hl 1 rfl) ?_
  refine lv_aload_n hx hb dL_law_421 rfl (lv_at hl 0 rfl) ?_
  refine lv_iload_n hx hb dL_law_422 rfl (lv_at hl 3 rfl) ?_
  refine lv_iconst (v := 1) hx hb dL_law_423 (by decide) ?_
  refine lv_iadd hx hb dL_law_424 ?_
  refine q_top (y := nI (i + 1)) (nI_1 i) ?_
  refine q_sld (k := i + 1) hx hb hX hbl hbA hS (by omega) (by omega) dL_law_425 ?_
  refine lv_aload_n hx hb dL_law_426 rfl (lv_at hl 0 rfl) ?_
  refine lv_iload_n hx hb dL_law_427 rfl (lv_at hl 3 rfl) ?_
  refine lv_iconst (v := 2) hx hb dL_law_428 (by decide) ?_
  refine lv_iadd hx hb dL_law_429 ?_
  refine q_top (y := nI (i + 2)) (nI_add i 2) ?_
  refine q_sld (k := i + 2) hx hb hX hbl hbA hS (by omega) (by omega) dL_law_430 ?_
  refine lv_if_eq (tgt := 438) hx hb dL_law_431 (by decide) (fun c_1 => ?_) (fun c_1 => ?_)
  · refine lv_iconst (v := 0) hx hb dL_law_438 (by decide) ?_
    have hPc := hP.sub (ws' := [(x0, .inr (1, [.ref a1, .ref a2, .ref a3, .int fi, .int me])), (a1, .inr (0, [.ref b1, .int (nI nh)])), (b1, .inl (cA, 2100, .inl fh)), (a2, .inr (0, [.ref b2, .int (nI nr)])), (b2, .inl (cA, 2100, .inl fr)), (a3, .inr (0, [.ref b3, .int (nI nk)])), (b3, .inl (cA, 2100, .inl fk))]) [0, 1, 2, 3, 4, 5, 6] rfl
    have hKc := hK.sub (tys' := [(cA, .int)]) [0] rfl
    have hDc := hD.sub (ws' := [(x0, .inr (1, [.ref a1, .ref a2, .ref a3, .int fi, .int me])), (a1, .inr (0, [.ref b1, .int (nI nh)])), (b1, .inl (cA, 2100, .inl fh)), (a2, .inr (0, [.ref b2, .int (nI nr)])), (b2, .inl (cA, 2100, .inl fr)), (a3, .inr (0, [.ref b3, .int (nI nk)])), (b3, .inl (cA, 2100, .inl fk))]) [0, 1, 2, 3, 4, 5, 6] (by decide) rfl
    have hFc := va_free (wc := [(x0, .inr (1, [.ref a1, .ref a2, .ref a3, .int fi, .int me])), (a1, .inr (0, [.ref b1, .int (nI nh)])), (b1, .inl (cA, 2100, .inl fh)), (a2, .inr (0, [.ref b2, .int (nI nr)])), (b2, .inl (cA, 2100, .inl fr)), (a3, .inr (0, [.ref b3, .int (nI nk)])), (b3, .inl (cA, 2100, .inl fk))]) hD hS hA [0, 1, 2, 3, 4, 5, 6] rfl
    refine va_calli (va_runV (As := [.int (xs (i + 1)), .int 0]) (rest := []) ⟨hx, hb, hml, hown, hts⟩ (c_Hall_drop l dC dI (H.size) x0 a1 b1 a2 b2 a3 b3 nh nr nk cA fh gh fr gr fk gk fi me (xs (i + 1)) 0 (by omega) ha1 ha2 ha3 hF) (cwV 2 hts gL_law_X1_drop_v rfl rfl rfl (by decide +kernel) ⟨Nat.le_of_ble_eq_true rfl, Nat.le_of_ble_eq_true rfl⟩) ⟨q_blWN, va_recv hKc hPc (ci := 1) (q0 := 0) rfl rfl, fun U hU hW => ⟨rfl, by rw [hU], by rw [hU]; exact hPc, va_K.moved hW.alike hKc, hDc.weaken (fun _ _ _ _ => trivial), hN.warm hW⟩⟩ rfl rfl hl.1 rfl (lv_room (Nat.le_of_ble_eq_true rfl)) dL_law_439 ⟨by decide +kernel, by decide +kernel⟩) hS (fun q _ h => hFc q h) hFc (fun r_2 u_2 t_2 H1 locs ht hvm hw hB hz1 hk1 hS => ?_)
    obtain ⟨⟨gh_2, nh_2⟩, ⟨gr_2, nr_2⟩, ⟨gk_2, nk_2⟩, fi_2, me_2⟩ := u_2
    obtain ⟨fh_2, fr_2, fk_2, hh_2, hr_2, hk_2, hP1, hK1, hD1⟩ := hB
    rw [ht] at hP1
    obtain ⟨hP, hD⟩ := q_join (wr := [(m0, .inr (2, [.ref c1, .ref c2, .ref c3, .int (nI nh), .int (nI nr), .int (nI nk), .int fi, .int me])), (c1, .inl (cA, 2000, .inl eh)), (c2, .inl (cA, 2000, .inl er)), (c3, .inl (cA, 2000, .inl ek))]) (w1 := [(x0, .inr (1, [.ref a1, .ref a2, .ref a3, .int fi_2, .int me_2])), (a1, .inr (0, [.ref b1, .int (nI nh_2)])), (b1, .inl (cA, 2100, .inl fh_2)), (a2, .inr (0, [.ref b2, .int (nI nr_2)])), (b2, .inl (cA, 2100, .inl fr_2)), (a3, .inr (0, [.ref b3, .int (nI nk_2)])), (b3, .inl (cA, 2100, .inl fk_2))]) (wz := [(x0, .inr (1, [.ref a1, .ref a2, .ref a3, .int fi_2, .int me_2])), (a1, .inr (0, [.ref b1, .int (nI nh_2)])), (b1, .inl (cA, 2100, .inl fh_2)), (a2, .inr (0, [.ref b2, .int (nI nr_2)])), (b2, .inl (cA, 2100, .inl fr_2)), (a3, .inr (0, [.ref b3, .int (nI nk_2)])), (b3, .inl (cA, 2100, .inl fk_2)), (m0, .inr (2, [.ref c1, .ref c2, .ref c3, .int (nI nh), .int (nI nr), .int (nI nk), .int fi, .int me])), (c1, .inl (cA, 2000, .inl eh)), (c2, .inl (cA, 2000, .inl er)), (c3, .inl (cA, 2000, .inl ek))]) hP hD [0, 1, 2, 3, 4, 5, 6] [7, 8, 9, 10] [4, 5, 6, 7, 8, 9, 10, 0, 1, 2, 3] rfl rfl (by decide) (by decide) hk1 hFc hP1 hD1 rfl rfl (by decide)
    generalize H1 = H at hP hS ⊢
    have hw1 := hw
    refine lv_aload_n hx hb dL_law_442 rfl (lv_at hl 2 rfl) ?_
    refine lv_aload_n hx hb dL_law_443 rfl (lv_at hl 0 rfl) ?_
    refine lv_iload_n hx hb dL_law_444 rfl (lv_at hl 3 rfl) ?_
    refine lv_iconst (v := 1) hx hb dL_law_445 (by decide) ?_
    refine lv_iadd hx hb dL_law_446 ?_
    refine q_top (y := nI (i + 1)) (nI_1 i) ?_
    refine q_sld (k := i + 1) hx hb hX hbl hbA hS (by omega) (by omega) dL_law_447 ?_
    refine lv_aload_n hx hb dL_law_448 rfl (lv_at hl 0 rfl) ?_
    refine lv_iload_n hx hb dL_law_449 rfl (lv_at hl 3 rfl) ?_
    refine lv_iconst (v := 2) hx hb dL_law_450 (by decide) ?_
    refine lv_iadd hx hb dL_law_451 ?_
    refine q_top (y := nI (i + 2)) (nI_add i 2) ?_
    refine q_sld (k := i + 2) hx hb hX hbl hbA hS (by omega) (by omega) dL_law_452 ?_
    refine lv_if_eq (tgt := 460) hx hb dL_law_453 (by decide) (fun c_3 => ?_) (fun c_0 => absurd (show (xs (i + 2)) = (0 : Int32) from c_1) c_0)
    refine lv_iconst (v := 0) hx hb dL_law_460 (by decide) ?_
    have hPc := hP.sub (ws' := [(m0, .inr (2, [.ref c1, .ref c2, .ref c3, .int (nI nh), .int (nI nr), .int (nI nk), .int fi, .int me])), (c1, .inl (cA, 2000, .inl eh)), (c2, .inl (cA, 2000, .inl er)), (c3, .inl (cA, 2000, .inl ek))]) [7, 8, 9, 10] rfl
    have hKc := hK.sub (tys' := [(cA, .int)]) [0] rfl
    have hDc := hD.sub (ws' := [(m0, .inr (2, [.ref c1, .ref c2, .ref c3, .int (nI nh), .int (nI nr), .int (nI nk), .int fi, .int me])), (c1, .inl (cA, 2000, .inl eh)), (c2, .inl (cA, 2000, .inl er)), (c3, .inl (cA, 2000, .inl ek))]) [7, 8, 9, 10] (by decide) rfl
    have hFc := va_free (wc := [(m0, .inr (2, [.ref c1, .ref c2, .ref c3, .int (nI nh), .int (nI nr), .int (nI nk), .int fi, .int me])), (c1, .inl (cA, 2000, .inl eh)), (c2, .inl (cA, 2000, .inl er)), (c3, .inl (cA, 2000, .inl ek))]) hD hS hA [7, 8, 9, 10] rfl
    refine va_calli (va_runV (As := [.int (xs (i + 1)), .int 0]) (rest := [.int r_2]) ⟨hx, hb, hml, hown, hts⟩ (c_Mod_drop l dC dI (H.size) m0 c1 c2 c3 nh nr nk cA eh gh er gr ek gk fi me (xs (i + 1)) 0 (by omega) hb1 hb2 hb3 hF) (cwV 2 hts gL_law_X2_drop_v rfl rfl rfl (by decide +kernel) ⟨Nat.le_of_ble_eq_true rfl, Nat.le_of_ble_eq_true rfl⟩) ⟨q_blW, va_recv hKc hPc (ci := 2) (q0 := 0) rfl rfl, fun U hU hW => ⟨rfl, by rw [hU], by rw [hU]; exact hPc, va_K.moved hW.alike hKc, hDc.weaken (fun _ _ _ _ => trivial)⟩⟩ rfl rfl hl.1 rfl (lv_room (Nat.le_of_ble_eq_true rfl)) dL_law_461 ⟨by decide +kernel, by decide +kernel⟩) hS (fun q _ h => hFc q h) hFc (fun r_4 u_4 t_4 H1 locs ht hvm hw hB hz1 hk1 hS => ?_)
    obtain ⟨⟨gh_4, nh_4⟩, ⟨gr_4, nr_4⟩, ⟨gk_4, nk_4⟩, fi_4, me_4⟩ := u_4
    obtain ⟨eh_4, er_4, ek_4, hh_4, hr_4, hk_4, hP1, hK1, hD1⟩ := hB
    rw [ht] at hP1
    obtain ⟨hP, hD⟩ := q_join (wr := [(x0, .inr (1, [.ref a1, .ref a2, .ref a3, .int fi_2, .int me_2])), (a1, .inr (0, [.ref b1, .int (nI nh_2)])), (b1, .inl (cA, 2100, .inl fh_2)), (a2, .inr (0, [.ref b2, .int (nI nr_2)])), (b2, .inl (cA, 2100, .inl fr_2)), (a3, .inr (0, [.ref b3, .int (nI nk_2)])), (b3, .inl (cA, 2100, .inl fk_2))]) (w1 := [(m0, .inr (2, [.ref c1, .ref c2, .ref c3, .int (nI nh_4), .int (nI nr_4), .int (nI nk_4), .int fi_4, .int me_4])), (c1, .inl (cA, 2000, .inl eh_4)), (c2, .inl (cA, 2000, .inl er_4)), (c3, .inl (cA, 2000, .inl ek_4))]) (wz := [(x0, .inr (1, [.ref a1, .ref a2, .ref a3, .int fi_2, .int me_2])), (a1, .inr (0, [.ref b1, .int (nI nh_2)])), (b1, .inl (cA, 2100, .inl fh_2)), (a2, .inr (0, [.ref b2, .int (nI nr_2)])), (b2, .inl (cA, 2100, .inl fr_2)), (a3, .inr (0, [.ref b3, .int (nI nk_2)])), (b3, .inl (cA, 2100, .inl fk_2)), (m0, .inr (2, [.ref c1, .ref c2, .ref c3, .int (nI nh_4), .int (nI nr_4), .int (nI nk_4), .int fi_4, .int me_4])), (c1, .inl (cA, 2000, .inl eh_4)), (c2, .inl (cA, 2000, .inl er_4)), (c3, .inl (cA, 2000, .inl ek_4))]) hP hD [7, 8, 9, 10] [0, 1, 2, 3, 4, 5, 6] [0, 1, 2, 3, 4, 5, 6, 7, 8, 9, 10] rfl rfl (by decide) (by decide) hk1 hFc hP1 hD1 rfl rfl (by decide)
    generalize H1 = H at hP hS ⊢
    have hI1 : qInv (t + 1) (qDrop (xs (i + 1)) 0 ((gh, nh), (gr, nr), (gk, nk), fi, me)).2 := qI_drop hI (by omega)
    rw [← hw1] at hI1
    have he := hw1.trans hw.symm
    simp only [Prod.mk.injEq] at he
    obtain ⟨rfl, ⟨rfl, rfl⟩, ⟨rfl, rfl⟩, ⟨rfl, rfl⟩, rfl, rfl⟩ := he
    have hP : va_P (dC, dI) vwCl [(x0, .inr (1, [.ref a1, .ref a2, .ref a3, .int fi_2, .int me_2])), (a1, .inr (0, [.ref b1, .int (nI nh_2)])), (b1, .inl (cA, 2100, .inl fh_2)), (a2, .inr (0, [.ref b2, .int (nI nr_2)])), (b2, .inl (cA, 2100, .inl fr_2)), (a3, .inr (0, [.ref b3, .int (nI nk_2)])), (b3, .inl (cA, 2100, .inl fk_2)), (m0, .inr (2, [.ref c1, .ref c2, .ref c3, .int (nI nh_2), .int (nI nr_2), .int (nI nk_2), .int fi_2, .int me_2])), (c1, .inl (cA, 2000, .inl eh_4)), (c2, .inl (cA, 2000, .inl er_4)), (c3, .inl (cA, 2000, .inl ek_4))] H := hP
    have hD : va_D (fun q : Nat => s.heap.size ≤ q) [(x0, .inr (1, [.ref a1, .ref a2, .ref a3, .int fi_2, .int me_2])), (a1, .inr (0, [.ref b1, .int (nI nh_2)])), (b1, .inl (cA, 2100, .inl fh_2)), (a2, .inr (0, [.ref b2, .int (nI nr_2)])), (b2, .inl (cA, 2100, .inl fr_2)), (a3, .inr (0, [.ref b3, .int (nI nk_2)])), (b3, .inl (cA, 2100, .inl fk_2)), (m0, .inr (2, [.ref c1, .ref c2, .ref c3, .int (nI nh_2), .int (nI nr_2), .int (nI nk_2), .int fi_2, .int me_2])), (c1, .inl (cA, 2000, .inl eh_4)), (c2, .inl (cA, 2000, .inl er_4)), (c3, .inl (cA, 2000, .inl ek_4))] := hD
    refine lv_icmp_eq (tgt := 899) hx hb dL_law_464 (by decide) (fun c_5 => ?_) (fun c_0 => absurd (show r_2 = r_2 from rfl) c_0)
    exact hk _ _ _ _ _ _ _ _ _ _ _ _ _ _ hI1 hh_2 hr_2 hk_2 hh_4 hr_4 hk_4 _ _ hP hD hS ls (lv_sub hl [0, 1, 2, 3] rfl)
  · refine lv_iconst (v := 1) hx hb dL_law_434 (by decide) ?_
    refine lv_goto (tgt := 439) hx hb dL_law_435 (by decide) ?_
    have hPc := hP.sub (ws' := [(x0, .inr (1, [.ref a1, .ref a2, .ref a3, .int fi, .int me])), (a1, .inr (0, [.ref b1, .int (nI nh)])), (b1, .inl (cA, 2100, .inl fh)), (a2, .inr (0, [.ref b2, .int (nI nr)])), (b2, .inl (cA, 2100, .inl fr)), (a3, .inr (0, [.ref b3, .int (nI nk)])), (b3, .inl (cA, 2100, .inl fk))]) [0, 1, 2, 3, 4, 5, 6] rfl
    have hKc := hK.sub (tys' := [(cA, .int)]) [0] rfl
    have hDc := hD.sub (ws' := [(x0, .inr (1, [.ref a1, .ref a2, .ref a3, .int fi, .int me])), (a1, .inr (0, [.ref b1, .int (nI nh)])), (b1, .inl (cA, 2100, .inl fh)), (a2, .inr (0, [.ref b2, .int (nI nr)])), (b2, .inl (cA, 2100, .inl fr)), (a3, .inr (0, [.ref b3, .int (nI nk)])), (b3, .inl (cA, 2100, .inl fk))]) [0, 1, 2, 3, 4, 5, 6] (by decide) rfl
    have hFc := va_free (wc := [(x0, .inr (1, [.ref a1, .ref a2, .ref a3, .int fi, .int me])), (a1, .inr (0, [.ref b1, .int (nI nh)])), (b1, .inl (cA, 2100, .inl fh)), (a2, .inr (0, [.ref b2, .int (nI nr)])), (b2, .inl (cA, 2100, .inl fr)), (a3, .inr (0, [.ref b3, .int (nI nk)])), (b3, .inl (cA, 2100, .inl fk))]) hD hS hA [0, 1, 2, 3, 4, 5, 6] rfl
    refine va_calli (va_runV (As := [.int (xs (i + 1)), .int 1]) (rest := []) ⟨hx, hb, hml, hown, hts⟩ (c_Hall_drop l dC dI (H.size) x0 a1 b1 a2 b2 a3 b3 nh nr nk cA fh gh fr gr fk gk fi me (xs (i + 1)) 1 (by omega) ha1 ha2 ha3 hF) (cwV 2 hts gL_law_X1_drop_v rfl rfl rfl (by decide +kernel) ⟨Nat.le_of_ble_eq_true rfl, Nat.le_of_ble_eq_true rfl⟩) ⟨q_blWN, va_recv hKc hPc (ci := 1) (q0 := 0) rfl rfl, fun U hU hW => ⟨rfl, by rw [hU], by rw [hU]; exact hPc, va_K.moved hW.alike hKc, hDc.weaken (fun _ _ _ _ => trivial), hN.warm hW⟩⟩ rfl rfl hl.1 rfl (lv_room (Nat.le_of_ble_eq_true rfl)) dL_law_439 ⟨by decide +kernel, by decide +kernel⟩) hS (fun q _ h => hFc q h) hFc (fun r_6 u_6 t_6 H1 locs ht hvm hw hB hz1 hk1 hS => ?_)
    obtain ⟨⟨gh_6, nh_6⟩, ⟨gr_6, nr_6⟩, ⟨gk_6, nk_6⟩, fi_6, me_6⟩ := u_6
    obtain ⟨fh_6, fr_6, fk_6, hh_6, hr_6, hk_6, hP1, hK1, hD1⟩ := hB
    rw [ht] at hP1
    obtain ⟨hP, hD⟩ := q_join (wr := [(m0, .inr (2, [.ref c1, .ref c2, .ref c3, .int (nI nh), .int (nI nr), .int (nI nk), .int fi, .int me])), (c1, .inl (cA, 2000, .inl eh)), (c2, .inl (cA, 2000, .inl er)), (c3, .inl (cA, 2000, .inl ek))]) (w1 := [(x0, .inr (1, [.ref a1, .ref a2, .ref a3, .int fi_6, .int me_6])), (a1, .inr (0, [.ref b1, .int (nI nh_6)])), (b1, .inl (cA, 2100, .inl fh_6)), (a2, .inr (0, [.ref b2, .int (nI nr_6)])), (b2, .inl (cA, 2100, .inl fr_6)), (a3, .inr (0, [.ref b3, .int (nI nk_6)])), (b3, .inl (cA, 2100, .inl fk_6))]) (wz := [(x0, .inr (1, [.ref a1, .ref a2, .ref a3, .int fi_6, .int me_6])), (a1, .inr (0, [.ref b1, .int (nI nh_6)])), (b1, .inl (cA, 2100, .inl fh_6)), (a2, .inr (0, [.ref b2, .int (nI nr_6)])), (b2, .inl (cA, 2100, .inl fr_6)), (a3, .inr (0, [.ref b3, .int (nI nk_6)])), (b3, .inl (cA, 2100, .inl fk_6)), (m0, .inr (2, [.ref c1, .ref c2, .ref c3, .int (nI nh), .int (nI nr), .int (nI nk), .int fi, .int me])), (c1, .inl (cA, 2000, .inl eh)), (c2, .inl (cA, 2000, .inl er)), (c3, .inl (cA, 2000, .inl ek))]) hP hD [0, 1, 2, 3, 4, 5, 6] [7, 8, 9, 10] [4, 5, 6, 7, 8, 9, 10, 0, 1, 2, 3] rfl rfl (by decide) (by decide) hk1 hFc hP1 hD1 rfl rfl (by decide)
    generalize H1 = H at hP hS ⊢
    have hw1 := hw
    refine lv_aload_n hx hb dL_law_442 rfl (lv_at hl 2 rfl) ?_
    refine lv_aload_n hx hb dL_law_443 rfl (lv_at hl 0 rfl) ?_
    refine lv_iload_n hx hb dL_law_444 rfl (lv_at hl 3 rfl) ?_
    refine lv_iconst (v := 1) hx hb dL_law_445 (by decide) ?_
    refine lv_iadd hx hb dL_law_446 ?_
    refine q_top (y := nI (i + 1)) (nI_1 i) ?_
    refine q_sld (k := i + 1) hx hb hX hbl hbA hS (by omega) (by omega) dL_law_447 ?_
    refine lv_aload_n hx hb dL_law_448 rfl (lv_at hl 0 rfl) ?_
    refine lv_iload_n hx hb dL_law_449 rfl (lv_at hl 3 rfl) ?_
    refine lv_iconst (v := 2) hx hb dL_law_450 (by decide) ?_
    refine lv_iadd hx hb dL_law_451 ?_
    refine q_top (y := nI (i + 2)) (nI_add i 2) ?_
    refine q_sld (k := i + 2) hx hb hX hbl hbA hS (by omega) (by omega) dL_law_452 ?_
    refine lv_if_eq (tgt := 460) hx hb dL_law_453 (by decide) (fun c_0 => absurd c_0 (show ¬ (xs (i + 2)) = (0 : Int32) from c_1)) (fun c_7 => ?_)
    refine lv_iconst (v := 1) hx hb dL_law_456 (by decide) ?_
    refine lv_goto (tgt := 461) hx hb dL_law_457 (by decide) ?_
    have hPc := hP.sub (ws' := [(m0, .inr (2, [.ref c1, .ref c2, .ref c3, .int (nI nh), .int (nI nr), .int (nI nk), .int fi, .int me])), (c1, .inl (cA, 2000, .inl eh)), (c2, .inl (cA, 2000, .inl er)), (c3, .inl (cA, 2000, .inl ek))]) [7, 8, 9, 10] rfl
    have hKc := hK.sub (tys' := [(cA, .int)]) [0] rfl
    have hDc := hD.sub (ws' := [(m0, .inr (2, [.ref c1, .ref c2, .ref c3, .int (nI nh), .int (nI nr), .int (nI nk), .int fi, .int me])), (c1, .inl (cA, 2000, .inl eh)), (c2, .inl (cA, 2000, .inl er)), (c3, .inl (cA, 2000, .inl ek))]) [7, 8, 9, 10] (by decide) rfl
    have hFc := va_free (wc := [(m0, .inr (2, [.ref c1, .ref c2, .ref c3, .int (nI nh), .int (nI nr), .int (nI nk), .int fi, .int me])), (c1, .inl (cA, 2000, .inl eh)), (c2, .inl (cA, 2000, .inl er)), (c3, .inl (cA, 2000, .inl ek))]) hD hS hA [7, 8, 9, 10] rfl
    refine va_calli (va_runV (As := [.int (xs (i + 1)), .int 1]) (rest := [.int r_6]) ⟨hx, hb, hml, hown, hts⟩ (c_Mod_drop l dC dI (H.size) m0 c1 c2 c3 nh nr nk cA eh gh er gr ek gk fi me (xs (i + 1)) 1 (by omega) hb1 hb2 hb3 hF) (cwV 2 hts gL_law_X2_drop_v rfl rfl rfl (by decide +kernel) ⟨Nat.le_of_ble_eq_true rfl, Nat.le_of_ble_eq_true rfl⟩) ⟨q_blW, va_recv hKc hPc (ci := 2) (q0 := 0) rfl rfl, fun U hU hW => ⟨rfl, by rw [hU], by rw [hU]; exact hPc, va_K.moved hW.alike hKc, hDc.weaken (fun _ _ _ _ => trivial)⟩⟩ rfl rfl hl.1 rfl (lv_room (Nat.le_of_ble_eq_true rfl)) dL_law_461 ⟨by decide +kernel, by decide +kernel⟩) hS (fun q _ h => hFc q h) hFc (fun r_8 u_8 t_8 H1 locs ht hvm hw hB hz1 hk1 hS => ?_)
    obtain ⟨⟨gh_8, nh_8⟩, ⟨gr_8, nr_8⟩, ⟨gk_8, nk_8⟩, fi_8, me_8⟩ := u_8
    obtain ⟨eh_8, er_8, ek_8, hh_8, hr_8, hk_8, hP1, hK1, hD1⟩ := hB
    rw [ht] at hP1
    obtain ⟨hP, hD⟩ := q_join (wr := [(x0, .inr (1, [.ref a1, .ref a2, .ref a3, .int fi_6, .int me_6])), (a1, .inr (0, [.ref b1, .int (nI nh_6)])), (b1, .inl (cA, 2100, .inl fh_6)), (a2, .inr (0, [.ref b2, .int (nI nr_6)])), (b2, .inl (cA, 2100, .inl fr_6)), (a3, .inr (0, [.ref b3, .int (nI nk_6)])), (b3, .inl (cA, 2100, .inl fk_6))]) (w1 := [(m0, .inr (2, [.ref c1, .ref c2, .ref c3, .int (nI nh_8), .int (nI nr_8), .int (nI nk_8), .int fi_8, .int me_8])), (c1, .inl (cA, 2000, .inl eh_8)), (c2, .inl (cA, 2000, .inl er_8)), (c3, .inl (cA, 2000, .inl ek_8))]) (wz := [(x0, .inr (1, [.ref a1, .ref a2, .ref a3, .int fi_6, .int me_6])), (a1, .inr (0, [.ref b1, .int (nI nh_6)])), (b1, .inl (cA, 2100, .inl fh_6)), (a2, .inr (0, [.ref b2, .int (nI nr_6)])), (b2, .inl (cA, 2100, .inl fr_6)), (a3, .inr (0, [.ref b3, .int (nI nk_6)])), (b3, .inl (cA, 2100, .inl fk_6)), (m0, .inr (2, [.ref c1, .ref c2, .ref c3, .int (nI nh_8), .int (nI nr_8), .int (nI nk_8), .int fi_8, .int me_8])), (c1, .inl (cA, 2000, .inl eh_8)), (c2, .inl (cA, 2000, .inl er_8)), (c3, .inl (cA, 2000, .inl ek_8))]) hP hD [7, 8, 9, 10] [0, 1, 2, 3, 4, 5, 6] [0, 1, 2, 3, 4, 5, 6, 7, 8, 9, 10] rfl rfl (by decide) (by decide) hk1 hFc hP1 hD1 rfl rfl (by decide)
    generalize H1 = H at hP hS ⊢
    have hI1 : qInv (t + 1) (qDrop (xs (i + 1)) 1 ((gh, nh), (gr, nr), (gk, nk), fi, me)).2 := qI_drop hI (by omega)
    rw [← hw1] at hI1
    have he := hw1.trans hw.symm
    simp only [Prod.mk.injEq] at he
    obtain ⟨rfl, ⟨rfl, rfl⟩, ⟨rfl, rfl⟩, ⟨rfl, rfl⟩, rfl, rfl⟩ := he
    have hP : va_P (dC, dI) vwCl [(x0, .inr (1, [.ref a1, .ref a2, .ref a3, .int fi_6, .int me_6])), (a1, .inr (0, [.ref b1, .int (nI nh_6)])), (b1, .inl (cA, 2100, .inl fh_6)), (a2, .inr (0, [.ref b2, .int (nI nr_6)])), (b2, .inl (cA, 2100, .inl fr_6)), (a3, .inr (0, [.ref b3, .int (nI nk_6)])), (b3, .inl (cA, 2100, .inl fk_6)), (m0, .inr (2, [.ref c1, .ref c2, .ref c3, .int (nI nh_6), .int (nI nr_6), .int (nI nk_6), .int fi_6, .int me_6])), (c1, .inl (cA, 2000, .inl eh_8)), (c2, .inl (cA, 2000, .inl er_8)), (c3, .inl (cA, 2000, .inl ek_8))] H := hP
    have hD : va_D (fun q : Nat => s.heap.size ≤ q) [(x0, .inr (1, [.ref a1, .ref a2, .ref a3, .int fi_6, .int me_6])), (a1, .inr (0, [.ref b1, .int (nI nh_6)])), (b1, .inl (cA, 2100, .inl fh_6)), (a2, .inr (0, [.ref b2, .int (nI nr_6)])), (b2, .inl (cA, 2100, .inl fr_6)), (a3, .inr (0, [.ref b3, .int (nI nk_6)])), (b3, .inl (cA, 2100, .inl fk_6)), (m0, .inr (2, [.ref c1, .ref c2, .ref c3, .int (nI nh_6), .int (nI nr_6), .int (nI nk_6), .int fi_6, .int me_6])), (c1, .inl (cA, 2000, .inl eh_8)), (c2, .inl (cA, 2000, .inl er_8)), (c3, .inl (cA, 2000, .inl ek_8))] := hD
    refine lv_icmp_eq (tgt := 899) hx hb dL_law_464 (by decide) (fun c_9 => ?_) (fun c_0 => absurd (show r_6 = r_6 from rfl) c_0)
    exact hk _ _ _ _ _ _ _ _ _ _ _ _ _ _ hI1 hh_6 hr_6 hk_6 hh_8 hr_8 hk_8 _ _ hP hD hS ls (lv_sub hl [0, 1, 2, 3] rfl)

set_option maxHeartbeats 4000000 in
set_option maxRecDepth 100000 in
theorem law_9 {p : Program} {l : Launch} {e : Env} {s : State} {m : MethodId} {below : List Frame} {meth : Method} {c : Code} {dC : Nat → ClassId} {dI : Nat → Nat → Nat} {b L x0 a1 b1 a2 b2 a3 b3 m0 c1 c2 c3 : Nat} {cA : ClassId} {xs : Nat → Int32} (hL : L ≤ 2048) (C0 : lw_At p s m meth c b L xs) (hK : va_K (dC, dI) vwCl [(cA, .int)] s) {i t : Nat} (ht : i = 4 * t) (hi : i + 4 ≤ L) (hk : lw_K p l e s m below meth c dC dI b x0 a1 b1 a2 b2 a3 b3 m0 c1 c2 c3 cA 899 i (t + 1)) : lw_K p l e s m below meth c dC dI b x0 a1 b1 a2 b2 a3 b3 m0 c1 c2 c3 cA 469 i t := by
  obtain ⟨hx, hb, hr, hml, hown, hts, hX, hbl, hlocks, hgv⟩ := id C0
  have hN := law_nest hts
  have hA : ∀ q : Nat, s.heap.size ≤ q → (fun q : Nat => s.heap.size ≤ q) q := fun _ h => h
  have hbA : ¬ (fun q : Nat => s.heap.size ≤ q) b := Nat.not_le.mpr hbl
  intro gh gr gk fh fr fk eh er ek nh nr nk fi me hI ha1 ha2 ha3 hb1 hb2 hb3 H locs hP hD hS ls hl
  obtain ⟨hn, hs, hF⟩ := id hI
  refine lv_aload_n hx hb dL_law_469 rfl (lv_at hl 1 rfl) ?_
  refine lv_aload_n hx hb dL_law_470 rfl (lv_at hl 0 rfl) ?_
  refine lv_iload_n hx hb dL_law_471 rfl (lv_at hl 3 rfl) ?_
  refine lv_iconst (v := 1) hx hb dL_law_472 (by decide) ?_
  refine lv_iadd hx hb dL_law_473 ?_
  refine q_top (y := nI (i + 1)) (nI_1 i) ?_
  refine q_sld (k := i + 1) hx hb hX hbl hbA hS (by omega) (by omega) dL_law_474 ?_
  refine lv_aload_n hx hb dL_law_475 rfl (lv_at hl 0 rfl) ?_
  refine lv_iload_n hx hb dL_law_476 rfl (lv_at hl 3 rfl) ?_
  refine lv_iconst (v := 2) hx hb dL_law_477 (by decide) ?_
  refine lv_iadd hx hb dL_law_478 ?_
  refine q_top (y := nI (i + 2)) (nI_add i 2) ?_
  refine q_sld (k := i + 2) hx hb hX hbl hbA hS (by omega) (by omega) dL_law_479 ?_
  refine lv_if_eq (tgt := 487) hx hb dL_law_480 (by decide) (fun c_1 => ?_) (fun c_1 => ?_)
  · refine lv_iconst (v := 0) hx hb dL_law_487 (by decide) ?_
    have hPc := hP.sub (ws' := [(x0, .inr (1, [.ref a1, .ref a2, .ref a3, .int fi, .int me])), (a1, .inr (0, [.ref b1, .int (nI nh)])), (b1, .inl (cA, 2100, .inl fh)), (a2, .inr (0, [.ref b2, .int (nI nr)])), (b2, .inl (cA, 2100, .inl fr)), (a3, .inr (0, [.ref b3, .int (nI nk)])), (b3, .inl (cA, 2100, .inl fk))]) [0, 1, 2, 3, 4, 5, 6] rfl
    have hKc := hK.sub (tys' := [(cA, .int)]) [0] rfl
    refine q_cslE (va_runV (As := [.int (xs (i + 1)), .int 0]) (rest := []) ⟨hx, hb, hml, hown, hts⟩ (c_Hall_ring l dC dI x0 a1 b1 a2 b2 a3 b3 nh nr nk cA fh gh fr gr fk gk fi me (xs (i + 1)) 0 (by omega) ha1 ha2 ha3 hF) (cwV 2 hts gL_law_X1_ring_v rfl rfl rfl (by decide +kernel) ⟨Nat.le_of_ble_eq_true rfl, Nat.le_of_ble_eq_true rfl⟩) ⟨q_blRN, va_recv hKc hPc (ci := 1) (q0 := 0) rfl rfl, fun U hU hW => ⟨rfl, by rw [hU]; exact hPc, va_K.moved hW.alike hKc, hN.warm hW⟩⟩ rfl rfl hl.1 rfl (lv_room (Nat.le_of_ble_eq_true rfl)) dL_law_488 ⟨by decide +kernel, by decide +kernel⟩) ?_
    refine lv_aload_n hx hb dL_law_491 rfl (lv_at hl 2 rfl) ?_
    refine lv_aload_n hx hb dL_law_492 rfl (lv_at hl 0 rfl) ?_
    refine lv_iload_n hx hb dL_law_493 rfl (lv_at hl 3 rfl) ?_
    refine lv_iconst (v := 1) hx hb dL_law_494 (by decide) ?_
    refine lv_iadd hx hb dL_law_495 ?_
    refine q_top (y := nI (i + 1)) (nI_1 i) ?_
    refine q_sld (k := i + 1) hx hb hX hbl hbA hS (by omega) (by omega) dL_law_496 ?_
    refine lv_aload_n hx hb dL_law_497 rfl (lv_at hl 0 rfl) ?_
    refine lv_iload_n hx hb dL_law_498 rfl (lv_at hl 3 rfl) ?_
    refine lv_iconst (v := 2) hx hb dL_law_499 (by decide) ?_
    refine lv_iadd hx hb dL_law_500 ?_
    refine q_top (y := nI (i + 2)) (nI_add i 2) ?_
    refine q_sld (k := i + 2) hx hb hX hbl hbA hS (by omega) (by omega) dL_law_501 ?_
    refine lv_if_eq (tgt := 509) hx hb dL_law_502 (by decide) (fun c_2 => ?_) (fun c_0 => absurd (show (xs (i + 2)) = (0 : Int32) from c_1) c_0)
    refine lv_iconst (v := 0) hx hb dL_law_509 (by decide) ?_
    have hPc := hP.sub (ws' := [(m0, .inr (2, [.ref c1, .ref c2, .ref c3, .int (nI nh), .int (nI nr), .int (nI nk), .int fi, .int me])), (c1, .inl (cA, 2000, .inl eh)), (c2, .inl (cA, 2000, .inl er)), (c3, .inl (cA, 2000, .inl ek))]) [7, 8, 9, 10] rfl
    have hKc := hK.sub (tys' := [(cA, .int)]) [0] rfl
    refine q_cslE (va_runV (As := [.int (xs (i + 1)), .int 0]) (rest := [.long ((qRing (xs (i + 1)) 0 ((gh, nh), (gr, nr), (gk, nk), fi, me)).1)]) ⟨hx, hb, hml, hown, hts⟩ (c_Mod_ring l dC dI m0 c1 c2 c3 nh nr nk cA eh gh er gr ek gk fi me (xs (i + 1)) 0 (by omega) hb1 hb2 hb3 hF) (cwV 2 hts gL_law_X2_ring_v rfl rfl rfl (by decide +kernel) ⟨Nat.le_of_ble_eq_true rfl, Nat.le_of_ble_eq_true rfl⟩) ⟨q_blR, va_recv hKc hPc (ci := 2) (q0 := 0) rfl rfl, fun U hU hW => ⟨rfl, by rw [hU]; exact hPc, va_K.moved hW.alike hKc⟩⟩ rfl rfl hl.1 rfl (lv_room (Nat.le_of_ble_eq_true rfl)) dL_law_510 ⟨by decide +kernel, by decide +kernel⟩) ?_
    refine W.lcmp hx hb dL_law_513 ?_
    refine lv_if_eq (tgt := 899) hx hb dL_law_514 (by decide) (fun _ => ?_) (fun c_0 => absurd ((lg_cmp_eq _ _).mpr rfl) c_0)
    exact hk _ _ _ _ _ _ _ _ _ _ _ _ _ _ (qI_mono hI (by omega)) ha1 ha2 ha3 hb1 hb2 hb3 _ _ hP hD hS ls (lv_sub hl [0, 1, 2, 3] rfl)
  · refine lv_iconst (v := 1) hx hb dL_law_483 (by decide) ?_
    refine lv_goto (tgt := 488) hx hb dL_law_484 (by decide) ?_
    have hPc := hP.sub (ws' := [(x0, .inr (1, [.ref a1, .ref a2, .ref a3, .int fi, .int me])), (a1, .inr (0, [.ref b1, .int (nI nh)])), (b1, .inl (cA, 2100, .inl fh)), (a2, .inr (0, [.ref b2, .int (nI nr)])), (b2, .inl (cA, 2100, .inl fr)), (a3, .inr (0, [.ref b3, .int (nI nk)])), (b3, .inl (cA, 2100, .inl fk))]) [0, 1, 2, 3, 4, 5, 6] rfl
    have hKc := hK.sub (tys' := [(cA, .int)]) [0] rfl
    refine q_cslE (va_runV (As := [.int (xs (i + 1)), .int 1]) (rest := []) ⟨hx, hb, hml, hown, hts⟩ (c_Hall_ring l dC dI x0 a1 b1 a2 b2 a3 b3 nh nr nk cA fh gh fr gr fk gk fi me (xs (i + 1)) 1 (by omega) ha1 ha2 ha3 hF) (cwV 2 hts gL_law_X1_ring_v rfl rfl rfl (by decide +kernel) ⟨Nat.le_of_ble_eq_true rfl, Nat.le_of_ble_eq_true rfl⟩) ⟨q_blRN, va_recv hKc hPc (ci := 1) (q0 := 0) rfl rfl, fun U hU hW => ⟨rfl, by rw [hU]; exact hPc, va_K.moved hW.alike hKc, hN.warm hW⟩⟩ rfl rfl hl.1 rfl (lv_room (Nat.le_of_ble_eq_true rfl)) dL_law_488 ⟨by decide +kernel, by decide +kernel⟩) ?_
    refine lv_aload_n hx hb dL_law_491 rfl (lv_at hl 2 rfl) ?_
    refine lv_aload_n hx hb dL_law_492 rfl (lv_at hl 0 rfl) ?_
    refine lv_iload_n hx hb dL_law_493 rfl (lv_at hl 3 rfl) ?_
    refine lv_iconst (v := 1) hx hb dL_law_494 (by decide) ?_
    refine lv_iadd hx hb dL_law_495 ?_
    refine q_top (y := nI (i + 1)) (nI_1 i) ?_
    refine q_sld (k := i + 1) hx hb hX hbl hbA hS (by omega) (by omega) dL_law_496 ?_
    refine lv_aload_n hx hb dL_law_497 rfl (lv_at hl 0 rfl) ?_
    refine lv_iload_n hx hb dL_law_498 rfl (lv_at hl 3 rfl) ?_
    refine lv_iconst (v := 2) hx hb dL_law_499 (by decide) ?_
    refine lv_iadd hx hb dL_law_500 ?_
    refine q_top (y := nI (i + 2)) (nI_add i 2) ?_
    refine q_sld (k := i + 2) hx hb hX hbl hbA hS (by omega) (by omega) dL_law_501 ?_
    refine lv_if_eq (tgt := 509) hx hb dL_law_502 (by decide) (fun c_0 => absurd c_0 (show ¬ (xs (i + 2)) = (0 : Int32) from c_1)) (fun c_3 => ?_)
    refine lv_iconst (v := 1) hx hb dL_law_505 (by decide) ?_
    refine lv_goto (tgt := 510) hx hb dL_law_506 (by decide) ?_
    have hPc := hP.sub (ws' := [(m0, .inr (2, [.ref c1, .ref c2, .ref c3, .int (nI nh), .int (nI nr), .int (nI nk), .int fi, .int me])), (c1, .inl (cA, 2000, .inl eh)), (c2, .inl (cA, 2000, .inl er)), (c3, .inl (cA, 2000, .inl ek))]) [7, 8, 9, 10] rfl
    have hKc := hK.sub (tys' := [(cA, .int)]) [0] rfl
    refine q_cslE (va_runV (As := [.int (xs (i + 1)), .int 1]) (rest := [.long ((qRing (xs (i + 1)) 1 ((gh, nh), (gr, nr), (gk, nk), fi, me)).1)]) ⟨hx, hb, hml, hown, hts⟩ (c_Mod_ring l dC dI m0 c1 c2 c3 nh nr nk cA eh gh er gr ek gk fi me (xs (i + 1)) 1 (by omega) hb1 hb2 hb3 hF) (cwV 2 hts gL_law_X2_ring_v rfl rfl rfl (by decide +kernel) ⟨Nat.le_of_ble_eq_true rfl, Nat.le_of_ble_eq_true rfl⟩) ⟨q_blR, va_recv hKc hPc (ci := 2) (q0 := 0) rfl rfl, fun U hU hW => ⟨rfl, by rw [hU]; exact hPc, va_K.moved hW.alike hKc⟩⟩ rfl rfl hl.1 rfl (lv_room (Nat.le_of_ble_eq_true rfl)) dL_law_510 ⟨by decide +kernel, by decide +kernel⟩) ?_
    refine W.lcmp hx hb dL_law_513 ?_
    refine lv_if_eq (tgt := 899) hx hb dL_law_514 (by decide) (fun _ => ?_) (fun c_0 => absurd ((lg_cmp_eq _ _).mpr rfl) c_0)
    exact hk _ _ _ _ _ _ _ _ _ _ _ _ _ _ (qI_mono hI (by omega)) ha1 ha2 ha3 hb1 hb2 hb3 _ _ hP hD hS ls (lv_sub hl [0, 1, 2, 3] rfl)

set_option maxHeartbeats 4000000 in
set_option maxRecDepth 100000 in
theorem law_10 {p : Program} {l : Launch} {e : Env} {s : State} {m : MethodId} {below : List Frame} {meth : Method} {c : Code} {dC : Nat → ClassId} {dI : Nat → Nat → Nat} {b L x0 a1 b1 a2 b2 a3 b3 m0 c1 c2 c3 : Nat} {cA : ClassId} {xs : Nat → Int32} (hL : L ≤ 2048) (C0 : lw_At p s m meth c b L xs) (hK : va_K (dC, dI) vwCl [(cA, .int)] s) {i t : Nat} (ht : i = 4 * t) (hi : i + 4 ≤ L) (hk : lw_K p l e s m below meth c dC dI b x0 a1 b1 a2 b2 a3 b3 m0 c1 c2 c3 cA 899 i (t + 1)) : lw_K p l e s m below meth c dC dI b x0 a1 b1 a2 b2 a3 b3 m0 c1 c2 c3 cA 519 i t := by
  obtain ⟨hx, hb, hr, hml, hown, hts, hX, hbl, hlocks, hgv⟩ := id C0
  have hN := law_nest hts
  have hA : ∀ q : Nat, s.heap.size ≤ q → (fun q : Nat => s.heap.size ≤ q) q := fun _ h => h
  have hbA : ¬ (fun q : Nat => s.heap.size ≤ q) b := Nat.not_le.mpr hbl
  intro gh gr gk fh fr fk eh er ek nh nr nk fi me hI ha1 ha2 ha3 hb1 hb2 hb3 H locs hP hD hS ls hl
  obtain ⟨hn, hs, hF⟩ := id hI
  refine lv_aload_n hx hb dL_law_519 rfl (lv_at hl 1 rfl) ?_
  refine lv_aload_n hx hb dL_law_520 rfl (lv_at hl 0 rfl) ?_
  refine lv_iload_n hx hb dL_law_521 rfl (lv_at hl 3 rfl) ?_
  refine lv_iconst (v := 1) hx hb dL_law_522 (by decide) ?_
  refine lv_iadd hx hb dL_law_523 ?_
  refine q_top (y := nI (i + 1)) (nI_1 i) ?_
  refine q_sld (k := i + 1) hx hb hX hbl hbA hS (by omega) (by omega) dL_law_524 ?_
  refine lv_aload_n hx hb dL_law_525 rfl (lv_at hl 0 rfl) ?_
  refine lv_iload_n hx hb dL_law_526 rfl (lv_at hl 3 rfl) ?_
  refine lv_iconst (v := 2) hx hb dL_law_527 (by decide) ?_
  refine lv_iadd hx hb dL_law_528 ?_
  refine q_top (y := nI (i + 2)) (nI_add i 2) ?_
  refine q_sld (k := i + 2) hx hb hX hbl hbA hS (by omega) (by omega) dL_law_529 ?_
  have hPc := hP.sub (ws' := [(x0, .inr (1, [.ref a1, .ref a2, .ref a3, .int fi, .int me])), (a1, .inr (0, [.ref b1, .int (nI nh)])), (b1, .inl (cA, 2100, .inl fh)), (a2, .inr (0, [.ref b2, .int (nI nr)])), (b2, .inl (cA, 2100, .inl fr)), (a3, .inr (0, [.ref b3, .int (nI nk)])), (b3, .inl (cA, 2100, .inl fk))]) [0, 1, 2, 3, 4, 5, 6] rfl
  have hKc := hK.sub (tys' := [(cA, .int)]) [0] rfl
  have hDc := hD.sub (ws' := [(x0, .inr (1, [.ref a1, .ref a2, .ref a3, .int fi, .int me])), (a1, .inr (0, [.ref b1, .int (nI nh)])), (b1, .inl (cA, 2100, .inl fh)), (a2, .inr (0, [.ref b2, .int (nI nr)])), (b2, .inl (cA, 2100, .inl fr)), (a3, .inr (0, [.ref b3, .int (nI nk)])), (b3, .inl (cA, 2100, .inl fk))]) [0, 1, 2, 3, 4, 5, 6] (by decide) rfl
  have hFc := va_free (wc := [(x0, .inr (1, [.ref a1, .ref a2, .ref a3, .int fi, .int me])), (a1, .inr (0, [.ref b1, .int (nI nh)])), (b1, .inl (cA, 2100, .inl fh)), (a2, .inr (0, [.ref b2, .int (nI nr)])), (b2, .inl (cA, 2100, .inl fr)), (a3, .inr (0, [.ref b3, .int (nI nk)])), (b3, .inl (cA, 2100, .inl fk))]) hD hS hA [0, 1, 2, 3, 4, 5, 6] rfl
  refine va_calli (va_runV (As := [.int (xs (i + 1)), .int (xs (i + 2))]) (rest := []) ⟨hx, hb, hml, hown, hts⟩ (c_Hall_sieve l dC dI (H.size) x0 a1 b1 a2 b2 a3 b3 nh nr nk cA fh gh fr gr fk gk fi me (xs (i + 1)) (xs (i + 2)) (by omega) ha1 ha2 ha3 hF) (cwV 2 hts gL_law_X1_sieve_v rfl rfl rfl (by decide +kernel) ⟨Nat.le_of_ble_eq_true rfl, Nat.le_of_ble_eq_true rfl⟩) ⟨q_blWN, va_recv hKc hPc (ci := 1) (q0 := 0) rfl rfl, fun U hU hW => ⟨rfl, by rw [hU], by rw [hU]; exact hPc, va_K.moved hW.alike hKc, hDc.weaken (fun _ _ _ _ => trivial), hN.warm hW⟩⟩ rfl rfl hl.1 rfl (lv_room (Nat.le_of_ble_eq_true rfl)) dL_law_530 ⟨by decide +kernel, by decide +kernel⟩) hS (fun q _ h => hFc q h) hFc (fun r_1 u_1 t_1 H1 locs ht hvm hw hB hz1 hk1 hS => ?_)
  obtain ⟨⟨gh_1, nh_1⟩, ⟨gr_1, nr_1⟩, ⟨gk_1, nk_1⟩, fi_1, me_1⟩ := u_1
  obtain ⟨fh_1, fr_1, fk_1, hh_1, hr_1, hk_1, hP1, hK1, hD1⟩ := hB
  rw [ht] at hP1
  obtain ⟨hP, hD⟩ := q_join (wr := [(m0, .inr (2, [.ref c1, .ref c2, .ref c3, .int (nI nh), .int (nI nr), .int (nI nk), .int fi, .int me])), (c1, .inl (cA, 2000, .inl eh)), (c2, .inl (cA, 2000, .inl er)), (c3, .inl (cA, 2000, .inl ek))]) (w1 := [(x0, .inr (1, [.ref a1, .ref a2, .ref a3, .int fi_1, .int me_1])), (a1, .inr (0, [.ref b1, .int (nI nh_1)])), (b1, .inl (cA, 2100, .inl fh_1)), (a2, .inr (0, [.ref b2, .int (nI nr_1)])), (b2, .inl (cA, 2100, .inl fr_1)), (a3, .inr (0, [.ref b3, .int (nI nk_1)])), (b3, .inl (cA, 2100, .inl fk_1))]) (wz := [(x0, .inr (1, [.ref a1, .ref a2, .ref a3, .int fi_1, .int me_1])), (a1, .inr (0, [.ref b1, .int (nI nh_1)])), (b1, .inl (cA, 2100, .inl fh_1)), (a2, .inr (0, [.ref b2, .int (nI nr_1)])), (b2, .inl (cA, 2100, .inl fr_1)), (a3, .inr (0, [.ref b3, .int (nI nk_1)])), (b3, .inl (cA, 2100, .inl fk_1)), (m0, .inr (2, [.ref c1, .ref c2, .ref c3, .int (nI nh), .int (nI nr), .int (nI nk), .int fi, .int me])), (c1, .inl (cA, 2000, .inl eh)), (c2, .inl (cA, 2000, .inl er)), (c3, .inl (cA, 2000, .inl ek))]) hP hD [0, 1, 2, 3, 4, 5, 6] [7, 8, 9, 10] [4, 5, 6, 7, 8, 9, 10, 0, 1, 2, 3] rfl rfl (by decide) (by decide) hk1 hFc hP1 hD1 rfl rfl (by decide)
  generalize H1 = H at hP hS ⊢
  have hw1 := hw
  refine lv_aload_n hx hb dL_law_533 rfl (lv_at hl 2 rfl) ?_
  refine lv_aload_n hx hb dL_law_534 rfl (lv_at hl 0 rfl) ?_
  refine lv_iload_n hx hb dL_law_535 rfl (lv_at hl 3 rfl) ?_
  refine lv_iconst (v := 1) hx hb dL_law_536 (by decide) ?_
  refine lv_iadd hx hb dL_law_537 ?_
  refine q_top (y := nI (i + 1)) (nI_1 i) ?_
  refine q_sld (k := i + 1) hx hb hX hbl hbA hS (by omega) (by omega) dL_law_538 ?_
  refine lv_aload_n hx hb dL_law_539 rfl (lv_at hl 0 rfl) ?_
  refine lv_iload_n hx hb dL_law_540 rfl (lv_at hl 3 rfl) ?_
  refine lv_iconst (v := 2) hx hb dL_law_541 (by decide) ?_
  refine lv_iadd hx hb dL_law_542 ?_
  refine q_top (y := nI (i + 2)) (nI_add i 2) ?_
  refine q_sld (k := i + 2) hx hb hX hbl hbA hS (by omega) (by omega) dL_law_543 ?_
  have hPc := hP.sub (ws' := [(m0, .inr (2, [.ref c1, .ref c2, .ref c3, .int (nI nh), .int (nI nr), .int (nI nk), .int fi, .int me])), (c1, .inl (cA, 2000, .inl eh)), (c2, .inl (cA, 2000, .inl er)), (c3, .inl (cA, 2000, .inl ek))]) [7, 8, 9, 10] rfl
  have hKc := hK.sub (tys' := [(cA, .int)]) [0] rfl
  have hDc := hD.sub (ws' := [(m0, .inr (2, [.ref c1, .ref c2, .ref c3, .int (nI nh), .int (nI nr), .int (nI nk), .int fi, .int me])), (c1, .inl (cA, 2000, .inl eh)), (c2, .inl (cA, 2000, .inl er)), (c3, .inl (cA, 2000, .inl ek))]) [7, 8, 9, 10] (by decide) rfl
  have hFc := va_free (wc := [(m0, .inr (2, [.ref c1, .ref c2, .ref c3, .int (nI nh), .int (nI nr), .int (nI nk), .int fi, .int me])), (c1, .inl (cA, 2000, .inl eh)), (c2, .inl (cA, 2000, .inl er)), (c3, .inl (cA, 2000, .inl ek))]) hD hS hA [7, 8, 9, 10] rfl
  refine va_calli (va_runV (As := [.int (xs (i + 1)), .int (xs (i + 2))]) (rest := [.int r_1]) ⟨hx, hb, hml, hown, hts⟩ (c_Mod_sieve l dC dI (H.size) m0 c1 c2 c3 nh nr nk cA eh gh er gr ek gk fi me (xs (i + 1)) (xs (i + 2)) (by omega) hb1 hb2 hb3 hF) (cwV 2 hts gL_law_X2_sieve_v rfl rfl rfl (by decide +kernel) ⟨Nat.le_of_ble_eq_true rfl, Nat.le_of_ble_eq_true rfl⟩) ⟨q_blW, va_recv hKc hPc (ci := 2) (q0 := 0) rfl rfl, fun U hU hW => ⟨rfl, by rw [hU], by rw [hU]; exact hPc, va_K.moved hW.alike hKc, hDc.weaken (fun _ _ _ _ => trivial)⟩⟩ rfl rfl hl.1 rfl (lv_room (Nat.le_of_ble_eq_true rfl)) dL_law_544 ⟨by decide +kernel, by decide +kernel⟩) hS (fun q _ h => hFc q h) hFc (fun r_2 u_2 t_2 H1 locs ht hvm hw hB hz1 hk1 hS => ?_)
  obtain ⟨⟨gh_2, nh_2⟩, ⟨gr_2, nr_2⟩, ⟨gk_2, nk_2⟩, fi_2, me_2⟩ := u_2
  obtain ⟨eh_2, er_2, ek_2, hh_2, hr_2, hk_2, hP1, hK1, hD1⟩ := hB
  rw [ht] at hP1
  obtain ⟨hP, hD⟩ := q_join (wr := [(x0, .inr (1, [.ref a1, .ref a2, .ref a3, .int fi_1, .int me_1])), (a1, .inr (0, [.ref b1, .int (nI nh_1)])), (b1, .inl (cA, 2100, .inl fh_1)), (a2, .inr (0, [.ref b2, .int (nI nr_1)])), (b2, .inl (cA, 2100, .inl fr_1)), (a3, .inr (0, [.ref b3, .int (nI nk_1)])), (b3, .inl (cA, 2100, .inl fk_1))]) (w1 := [(m0, .inr (2, [.ref c1, .ref c2, .ref c3, .int (nI nh_2), .int (nI nr_2), .int (nI nk_2), .int fi_2, .int me_2])), (c1, .inl (cA, 2000, .inl eh_2)), (c2, .inl (cA, 2000, .inl er_2)), (c3, .inl (cA, 2000, .inl ek_2))]) (wz := [(x0, .inr (1, [.ref a1, .ref a2, .ref a3, .int fi_1, .int me_1])), (a1, .inr (0, [.ref b1, .int (nI nh_1)])), (b1, .inl (cA, 2100, .inl fh_1)), (a2, .inr (0, [.ref b2, .int (nI nr_1)])), (b2, .inl (cA, 2100, .inl fr_1)), (a3, .inr (0, [.ref b3, .int (nI nk_1)])), (b3, .inl (cA, 2100, .inl fk_1)), (m0, .inr (2, [.ref c1, .ref c2, .ref c3, .int (nI nh_2), .int (nI nr_2), .int (nI nk_2), .int fi_2, .int me_2])), (c1, .inl (cA, 2000, .inl eh_2)), (c2, .inl (cA, 2000, .inl er_2)), (c3, .inl (cA, 2000, .inl ek_2))]) hP hD [7, 8, 9, 10] [0, 1, 2, 3, 4, 5, 6] [0, 1, 2, 3, 4, 5, 6, 7, 8, 9, 10] rfl rfl (by decide) (by decide) hk1 hFc hP1 hD1 rfl rfl (by decide)
  generalize H1 = H at hP hS ⊢
  have hI1 : qInv (t + 1) (qSieveS (xs (i + 1)) (xs (i + 2)) ((gh, nh), (gr, nr), (gk, nk), fi, me)).2 := qI_sieve hI (by omega)
  rw [← hw1] at hI1
  have he := hw1.trans hw.symm
  simp only [Prod.mk.injEq] at he
  obtain ⟨rfl, ⟨rfl, rfl⟩, ⟨rfl, rfl⟩, ⟨rfl, rfl⟩, rfl, rfl⟩ := he
  have hP : va_P (dC, dI) vwCl [(x0, .inr (1, [.ref a1, .ref a2, .ref a3, .int fi_1, .int me_1])), (a1, .inr (0, [.ref b1, .int (nI nh_1)])), (b1, .inl (cA, 2100, .inl fh_1)), (a2, .inr (0, [.ref b2, .int (nI nr_1)])), (b2, .inl (cA, 2100, .inl fr_1)), (a3, .inr (0, [.ref b3, .int (nI nk_1)])), (b3, .inl (cA, 2100, .inl fk_1)), (m0, .inr (2, [.ref c1, .ref c2, .ref c3, .int (nI nh_1), .int (nI nr_1), .int (nI nk_1), .int fi_1, .int me_1])), (c1, .inl (cA, 2000, .inl eh_2)), (c2, .inl (cA, 2000, .inl er_2)), (c3, .inl (cA, 2000, .inl ek_2))] H := hP
  have hD : va_D (fun q : Nat => s.heap.size ≤ q) [(x0, .inr (1, [.ref a1, .ref a2, .ref a3, .int fi_1, .int me_1])), (a1, .inr (0, [.ref b1, .int (nI nh_1)])), (b1, .inl (cA, 2100, .inl fh_1)), (a2, .inr (0, [.ref b2, .int (nI nr_1)])), (b2, .inl (cA, 2100, .inl fr_1)), (a3, .inr (0, [.ref b3, .int (nI nk_1)])), (b3, .inl (cA, 2100, .inl fk_1)), (m0, .inr (2, [.ref c1, .ref c2, .ref c3, .int (nI nh_1), .int (nI nr_1), .int (nI nk_1), .int fi_1, .int me_1])), (c1, .inl (cA, 2000, .inl eh_2)), (c2, .inl (cA, 2000, .inl er_2)), (c3, .inl (cA, 2000, .inl ek_2))] := hD
  refine lv_icmp_eq (tgt := 899) hx hb dL_law_547 (by decide) (fun c_3 => ?_) (fun c_0 => absurd (show r_1 = r_1 from rfl) c_0)
  exact hk _ _ _ _ _ _ _ _ _ _ _ _ _ _ hI1 hh_1 hr_1 hk_1 hh_2 hr_2 hk_2 _ _ hP hD hS ls (lv_sub hl [0, 1, 2, 3] rfl)

set_option maxHeartbeats 4000000 in
set_option maxRecDepth 100000 in
theorem law_11 {p : Program} {l : Launch} {e : Env} {s : State} {m : MethodId} {below : List Frame} {meth : Method} {c : Code} {dC : Nat → ClassId} {dI : Nat → Nat → Nat} {b L x0 a1 b1 a2 b2 a3 b3 m0 c1 c2 c3 : Nat} {cA : ClassId} {xs : Nat → Int32} (hL : L ≤ 2048) (C0 : lw_At p s m meth c b L xs) (hK : va_K (dC, dI) vwCl [(cA, .int)] s) {i t : Nat} (ht : i = 4 * t) (hi : i + 4 ≤ L) (hk : lw_K p l e s m below meth c dC dI b x0 a1 b1 a2 b2 a3 b3 m0 c1 c2 c3 cA 899 i (t + 1)) : lw_K p l e s m below meth c dC dI b x0 a1 b1 a2 b2 a3 b3 m0 c1 c2 c3 cA 552 i t := by
  obtain ⟨hx, hb, hr, hml, hown, hts, hX, hbl, hlocks, hgv⟩ := id C0
  have hN := law_nest hts
  have hA : ∀ q : Nat, s.heap.size ≤ q → (fun q : Nat => s.heap.size ≤ q) q := fun _ h => h
  have hbA : ¬ (fun q : Nat => s.heap.size ≤ q) b := Nat.not_le.mpr hbl
  intro gh gr gk fh fr fk eh er ek nh nr nk fi me hI ha1 ha2 ha3 hb1 hb2 hb3 H locs hP hD hS ls hl
  obtain ⟨hn, hs, hF⟩ := id hI
  refine lv_aload_n hx hb dL_law_552 rfl (lv_at hl 1 rfl) ?_
  refine lv_aload_n hx hb dL_law_553 rfl (lv_at hl 0 rfl) ?_
  refine lv_iload_n hx hb dL_law_554 rfl (lv_at hl 3 rfl) ?_
  refine lv_iconst (v := 1) hx hb dL_law_555 (by decide) ?_
  refine lv_iadd hx hb dL_law_556 ?_
  refine q_top (y := nI (i + 1)) (nI_1 i) ?_
  refine q_sld (k := i + 1) hx hb hX hbl hbA hS (by omega) (by omega) dL_law_557 ?_
  have hPc := hP.sub (ws' := [(x0, .inr (1, [.ref a1, .ref a2, .ref a3, .int fi, .int me])), (a1, .inr (0, [.ref b1, .int (nI nh)])), (b1, .inl (cA, 2100, .inl fh)), (a2, .inr (0, [.ref b2, .int (nI nr)])), (b2, .inl (cA, 2100, .inl fr)), (a3, .inr (0, [.ref b3, .int (nI nk)])), (b3, .inl (cA, 2100, .inl fk))]) [0, 1, 2, 3, 4, 5, 6] rfl
  have hKc := hK.sub (tys' := [(cA, .int)]) [0] rfl
  have hDc := hD.sub (ws' := [(x0, .inr (1, [.ref a1, .ref a2, .ref a3, .int fi, .int me])), (a1, .inr (0, [.ref b1, .int (nI nh)])), (b1, .inl (cA, 2100, .inl fh)), (a2, .inr (0, [.ref b2, .int (nI nr)])), (b2, .inl (cA, 2100, .inl fr)), (a3, .inr (0, [.ref b3, .int (nI nk)])), (b3, .inl (cA, 2100, .inl fk))]) [0, 1, 2, 3, 4, 5, 6] (by decide) rfl
  have hFc := va_free (wc := [(x0, .inr (1, [.ref a1, .ref a2, .ref a3, .int fi, .int me])), (a1, .inr (0, [.ref b1, .int (nI nh)])), (b1, .inl (cA, 2100, .inl fh)), (a2, .inr (0, [.ref b2, .int (nI nr)])), (b2, .inl (cA, 2100, .inl fr)), (a3, .inr (0, [.ref b3, .int (nI nk)])), (b3, .inl (cA, 2100, .inl fk))]) hD hS hA [0, 1, 2, 3, 4, 5, 6] rfl
  refine va_calli (va_runV (As := [.int (xs (i + 1))]) (rest := []) ⟨hx, hb, hml, hown, hts⟩ (c_Hall_roll l dC dI (H.size) x0 a1 b1 a2 b2 a3 b3 nh nr nk cA fh gh fr gr fk gk fi me (xs (i + 1)) (by omega) ha1 ha2 ha3 hF) (cwV 1 hts gL_law_X1_roll_v rfl rfl rfl (by decide +kernel) ⟨Nat.le_of_ble_eq_true rfl, Nat.le_of_ble_eq_true rfl⟩) ⟨q_blWN, va_recv hKc hPc (ci := 1) (q0 := 0) rfl rfl, fun U hU hW => ⟨rfl, by rw [hU], by rw [hU]; exact hPc, va_K.moved hW.alike hKc, hDc.weaken (fun _ _ _ _ => trivial), hN.warm hW⟩⟩ rfl rfl hl.1 rfl (lv_room (Nat.le_of_ble_eq_true rfl)) dL_law_558 ⟨by decide +kernel, by decide +kernel⟩) hS (fun q _ h => hFc q h) hFc (fun r_1 u_1 t_1 H1 locs ht hvm hw hB hz1 hk1 hS => ?_)
  obtain ⟨⟨gh_1, nh_1⟩, ⟨gr_1, nr_1⟩, ⟨gk_1, nk_1⟩, fi_1, me_1⟩ := u_1
  obtain ⟨fh_1, fr_1, fk_1, hh_1, hr_1, hk_1, hP1, hK1, hD1⟩ := hB
  rw [ht] at hP1
  obtain ⟨hP, hD⟩ := q_join (wr := [(m0, .inr (2, [.ref c1, .ref c2, .ref c3, .int (nI nh), .int (nI nr), .int (nI nk), .int fi, .int me])), (c1, .inl (cA, 2000, .inl eh)), (c2, .inl (cA, 2000, .inl er)), (c3, .inl (cA, 2000, .inl ek))]) (w1 := [(x0, .inr (1, [.ref a1, .ref a2, .ref a3, .int fi_1, .int me_1])), (a1, .inr (0, [.ref b1, .int (nI nh_1)])), (b1, .inl (cA, 2100, .inl fh_1)), (a2, .inr (0, [.ref b2, .int (nI nr_1)])), (b2, .inl (cA, 2100, .inl fr_1)), (a3, .inr (0, [.ref b3, .int (nI nk_1)])), (b3, .inl (cA, 2100, .inl fk_1))]) (wz := [(x0, .inr (1, [.ref a1, .ref a2, .ref a3, .int fi_1, .int me_1])), (a1, .inr (0, [.ref b1, .int (nI nh_1)])), (b1, .inl (cA, 2100, .inl fh_1)), (a2, .inr (0, [.ref b2, .int (nI nr_1)])), (b2, .inl (cA, 2100, .inl fr_1)), (a3, .inr (0, [.ref b3, .int (nI nk_1)])), (b3, .inl (cA, 2100, .inl fk_1)), (m0, .inr (2, [.ref c1, .ref c2, .ref c3, .int (nI nh), .int (nI nr), .int (nI nk), .int fi, .int me])), (c1, .inl (cA, 2000, .inl eh)), (c2, .inl (cA, 2000, .inl er)), (c3, .inl (cA, 2000, .inl ek))]) hP hD [0, 1, 2, 3, 4, 5, 6] [7, 8, 9, 10] [4, 5, 6, 7, 8, 9, 10, 0, 1, 2, 3] rfl rfl (by decide) (by decide) hk1 hFc hP1 hD1 rfl rfl (by decide)
  generalize H1 = H at hP hS ⊢
  have hw1 := hw
  refine lv_aload_n hx hb dL_law_561 rfl (lv_at hl 2 rfl) ?_
  refine lv_aload_n hx hb dL_law_562 rfl (lv_at hl 0 rfl) ?_
  refine lv_iload_n hx hb dL_law_563 rfl (lv_at hl 3 rfl) ?_
  refine lv_iconst (v := 1) hx hb dL_law_564 (by decide) ?_
  refine lv_iadd hx hb dL_law_565 ?_
  refine q_top (y := nI (i + 1)) (nI_1 i) ?_
  refine q_sld (k := i + 1) hx hb hX hbl hbA hS (by omega) (by omega) dL_law_566 ?_
  have hPc := hP.sub (ws' := [(m0, .inr (2, [.ref c1, .ref c2, .ref c3, .int (nI nh), .int (nI nr), .int (nI nk), .int fi, .int me])), (c1, .inl (cA, 2000, .inl eh)), (c2, .inl (cA, 2000, .inl er)), (c3, .inl (cA, 2000, .inl ek))]) [7, 8, 9, 10] rfl
  have hKc := hK.sub (tys' := [(cA, .int)]) [0] rfl
  have hDc := hD.sub (ws' := [(m0, .inr (2, [.ref c1, .ref c2, .ref c3, .int (nI nh), .int (nI nr), .int (nI nk), .int fi, .int me])), (c1, .inl (cA, 2000, .inl eh)), (c2, .inl (cA, 2000, .inl er)), (c3, .inl (cA, 2000, .inl ek))]) [7, 8, 9, 10] (by decide) rfl
  have hFc := va_free (wc := [(m0, .inr (2, [.ref c1, .ref c2, .ref c3, .int (nI nh), .int (nI nr), .int (nI nk), .int fi, .int me])), (c1, .inl (cA, 2000, .inl eh)), (c2, .inl (cA, 2000, .inl er)), (c3, .inl (cA, 2000, .inl ek))]) hD hS hA [7, 8, 9, 10] rfl
  refine va_calli (va_runV (As := [.int (xs (i + 1))]) (rest := [.int r_1]) ⟨hx, hb, hml, hown, hts⟩ (c_Mod_roll l dC dI (H.size) m0 c1 c2 c3 nh nr nk cA eh gh er gr ek gk fi me (xs (i + 1)) (by omega) hb1 hb2 hb3 hF) (cwV 1 hts gL_law_X2_roll_v rfl rfl rfl (by decide +kernel) ⟨Nat.le_of_ble_eq_true rfl, Nat.le_of_ble_eq_true rfl⟩) ⟨q_blW, va_recv hKc hPc (ci := 2) (q0 := 0) rfl rfl, fun U hU hW => ⟨rfl, by rw [hU], by rw [hU]; exact hPc, va_K.moved hW.alike hKc, hDc.weaken (fun _ _ _ _ => trivial)⟩⟩ rfl rfl hl.1 rfl (lv_room (Nat.le_of_ble_eq_true rfl)) dL_law_567 ⟨by decide +kernel, by decide +kernel⟩) hS (fun q _ h => hFc q h) hFc (fun r_2 u_2 t_2 H1 locs ht hvm hw hB hz1 hk1 hS => ?_)
  obtain ⟨⟨gh_2, nh_2⟩, ⟨gr_2, nr_2⟩, ⟨gk_2, nk_2⟩, fi_2, me_2⟩ := u_2
  obtain ⟨eh_2, er_2, ek_2, hh_2, hr_2, hk_2, hP1, hK1, hD1⟩ := hB
  rw [ht] at hP1
  obtain ⟨hP, hD⟩ := q_join (wr := [(x0, .inr (1, [.ref a1, .ref a2, .ref a3, .int fi_1, .int me_1])), (a1, .inr (0, [.ref b1, .int (nI nh_1)])), (b1, .inl (cA, 2100, .inl fh_1)), (a2, .inr (0, [.ref b2, .int (nI nr_1)])), (b2, .inl (cA, 2100, .inl fr_1)), (a3, .inr (0, [.ref b3, .int (nI nk_1)])), (b3, .inl (cA, 2100, .inl fk_1))]) (w1 := [(m0, .inr (2, [.ref c1, .ref c2, .ref c3, .int (nI nh_2), .int (nI nr_2), .int (nI nk_2), .int fi_2, .int me_2])), (c1, .inl (cA, 2000, .inl eh_2)), (c2, .inl (cA, 2000, .inl er_2)), (c3, .inl (cA, 2000, .inl ek_2))]) (wz := [(x0, .inr (1, [.ref a1, .ref a2, .ref a3, .int fi_1, .int me_1])), (a1, .inr (0, [.ref b1, .int (nI nh_1)])), (b1, .inl (cA, 2100, .inl fh_1)), (a2, .inr (0, [.ref b2, .int (nI nr_1)])), (b2, .inl (cA, 2100, .inl fr_1)), (a3, .inr (0, [.ref b3, .int (nI nk_1)])), (b3, .inl (cA, 2100, .inl fk_1)), (m0, .inr (2, [.ref c1, .ref c2, .ref c3, .int (nI nh_2), .int (nI nr_2), .int (nI nk_2), .int fi_2, .int me_2])), (c1, .inl (cA, 2000, .inl eh_2)), (c2, .inl (cA, 2000, .inl er_2)), (c3, .inl (cA, 2000, .inl ek_2))]) hP hD [7, 8, 9, 10] [0, 1, 2, 3, 4, 5, 6] [0, 1, 2, 3, 4, 5, 6, 7, 8, 9, 10] rfl rfl (by decide) (by decide) hk1 hFc hP1 hD1 rfl rfl (by decide)
  generalize H1 = H at hP hS ⊢
  have hI1 : qInv (t + 1) (qRollS (xs (i + 1)) ((gh, nh), (gr, nr), (gk, nk), fi, me)).2 := qI_roll hI (by omega)
  rw [← hw1] at hI1
  have he := hw1.trans hw.symm
  simp only [Prod.mk.injEq] at he
  obtain ⟨rfl, ⟨rfl, rfl⟩, ⟨rfl, rfl⟩, ⟨rfl, rfl⟩, rfl, rfl⟩ := he
  have hP : va_P (dC, dI) vwCl [(x0, .inr (1, [.ref a1, .ref a2, .ref a3, .int fi_1, .int me_1])), (a1, .inr (0, [.ref b1, .int (nI nh_1)])), (b1, .inl (cA, 2100, .inl fh_1)), (a2, .inr (0, [.ref b2, .int (nI nr_1)])), (b2, .inl (cA, 2100, .inl fr_1)), (a3, .inr (0, [.ref b3, .int (nI nk_1)])), (b3, .inl (cA, 2100, .inl fk_1)), (m0, .inr (2, [.ref c1, .ref c2, .ref c3, .int (nI nh_1), .int (nI nr_1), .int (nI nk_1), .int fi_1, .int me_1])), (c1, .inl (cA, 2000, .inl eh_2)), (c2, .inl (cA, 2000, .inl er_2)), (c3, .inl (cA, 2000, .inl ek_2))] H := hP
  have hD : va_D (fun q : Nat => s.heap.size ≤ q) [(x0, .inr (1, [.ref a1, .ref a2, .ref a3, .int fi_1, .int me_1])), (a1, .inr (0, [.ref b1, .int (nI nh_1)])), (b1, .inl (cA, 2100, .inl fh_1)), (a2, .inr (0, [.ref b2, .int (nI nr_1)])), (b2, .inl (cA, 2100, .inl fr_1)), (a3, .inr (0, [.ref b3, .int (nI nk_1)])), (b3, .inl (cA, 2100, .inl fk_1)), (m0, .inr (2, [.ref c1, .ref c2, .ref c3, .int (nI nh_1), .int (nI nr_1), .int (nI nk_1), .int fi_1, .int me_1])), (c1, .inl (cA, 2000, .inl eh_2)), (c2, .inl (cA, 2000, .inl er_2)), (c3, .inl (cA, 2000, .inl ek_2))] := hD
  refine lv_icmp_eq (tgt := 899) hx hb dL_law_570 (by decide) (fun c_3 => ?_) (fun c_0 => absurd (show r_1 = r_1 from rfl) c_0)
  exact hk _ _ _ _ _ _ _ _ _ _ _ _ _ _ hI1 hh_1 hr_1 hk_1 hh_2 hr_2 hk_2 _ _ hP hD hS ls (lv_sub hl [0, 1, 2, 3] rfl)

set_option maxHeartbeats 4000000 in
set_option maxRecDepth 100000 in
theorem law_12 {p : Program} {l : Launch} {e : Env} {s : State} {m : MethodId} {below : List Frame} {meth : Method} {c : Code} {dC : Nat → ClassId} {dI : Nat → Nat → Nat} {b L x0 a1 b1 a2 b2 a3 b3 m0 c1 c2 c3 : Nat} {cA : ClassId} {xs : Nat → Int32} (hL : L ≤ 2048) (C0 : lw_At p s m meth c b L xs) (hK : va_K (dC, dI) vwCl [(cA, .int)] s) {i t : Nat} (ht : i = 4 * t) (hi : i + 4 ≤ L) (hk : lw_K p l e s m below meth c dC dI b x0 a1 b1 a2 b2 a3 b3 m0 c1 c2 c3 cA 899 i (t + 1)) : lw_K p l e s m below meth c dC dI b x0 a1 b1 a2 b2 a3 b3 m0 c1 c2 c3 cA 575 i t := by
  obtain ⟨hx, hb, hr, hml, hown, hts, hX, hbl, hlocks, hgv⟩ := id C0
  have hN := law_nest hts
  have hA : ∀ q : Nat, s.heap.size ≤ q → (fun q : Nat => s.heap.size ≤ q) q := fun _ h => h
  have hbA : ¬ (fun q : Nat => s.heap.size ≤ q) b := Nat.not_le.mpr hbl
  intro gh gr gk fh fr fk eh er ek nh nr nk fi me hI ha1 ha2 ha3 hb1 hb2 hb3 H locs hP hD hS ls hl
  obtain ⟨hn, hs, hF⟩ := id hI
  refine lv_aload_n hx hb dL_law_575 rfl (lv_at hl 1 rfl) ?_
  refine lv_aload_n hx hb dL_law_576 rfl (lv_at hl 0 rfl) ?_
  refine lv_iload_n hx hb dL_law_577 rfl (lv_at hl 3 rfl) ?_
  refine lv_iconst (v := 1) hx hb dL_law_578 (by decide) ?_
  refine lv_iadd hx hb dL_law_579 ?_
  refine q_top (y := nI (i + 1)) (nI_1 i) ?_
  refine q_sld (k := i + 1) hx hb hX hbl hbA hS (by omega) (by omega) dL_law_580 ?_
  refine lv_aload_n hx hb dL_law_581 rfl (lv_at hl 0 rfl) ?_
  refine lv_iload_n hx hb dL_law_582 rfl (lv_at hl 3 rfl) ?_
  refine lv_iconst (v := 2) hx hb dL_law_583 (by decide) ?_
  refine lv_iadd hx hb dL_law_584 ?_
  refine q_top (y := nI (i + 2)) (nI_add i 2) ?_
  refine q_sld (k := i + 2) hx hb hX hbl hbA hS (by omega) (by omega) dL_law_585 ?_
  have hPc := hP.sub (ws' := [(x0, .inr (1, [.ref a1, .ref a2, .ref a3, .int fi, .int me])), (a1, .inr (0, [.ref b1, .int (nI nh)])), (b1, .inl (cA, 2100, .inl fh)), (a2, .inr (0, [.ref b2, .int (nI nr)])), (b2, .inl (cA, 2100, .inl fr)), (a3, .inr (0, [.ref b3, .int (nI nk)])), (b3, .inl (cA, 2100, .inl fk))]) [0, 1, 2, 3, 4, 5, 6] rfl
  have hKc := hK.sub (tys' := [(cA, .int)]) [0] rfl
  have hDc := hD.sub (ws' := [(x0, .inr (1, [.ref a1, .ref a2, .ref a3, .int fi, .int me])), (a1, .inr (0, [.ref b1, .int (nI nh)])), (b1, .inl (cA, 2100, .inl fh)), (a2, .inr (0, [.ref b2, .int (nI nr)])), (b2, .inl (cA, 2100, .inl fr)), (a3, .inr (0, [.ref b3, .int (nI nk)])), (b3, .inl (cA, 2100, .inl fk))]) [0, 1, 2, 3, 4, 5, 6] (by decide) rfl
  have hFc := va_free (wc := [(x0, .inr (1, [.ref a1, .ref a2, .ref a3, .int fi, .int me])), (a1, .inr (0, [.ref b1, .int (nI nh)])), (b1, .inl (cA, 2100, .inl fh)), (a2, .inr (0, [.ref b2, .int (nI nr)])), (b2, .inl (cA, 2100, .inl fr)), (a3, .inr (0, [.ref b3, .int (nI nk)])), (b3, .inl (cA, 2100, .inl fk))]) hD hS hA [0, 1, 2, 3, 4, 5, 6] rfl
  refine va_calli (va_runV (As := [.int (xs (i + 1)), .int (xs (i + 2))]) (rest := []) ⟨hx, hb, hml, hown, hts⟩ (c_Hall_insert l dC dI (H.size) x0 a1 b1 a2 b2 a3 b3 nh nr nk cA fh gh fr gr fk gk fi me (xs (i + 1)) (xs (i + 2)) (by omega) ha1 ha2 ha3 hF) (cwV 2 hts gL_law_X1_insert_v rfl rfl rfl (by decide +kernel) ⟨Nat.le_of_ble_eq_true rfl, Nat.le_of_ble_eq_true rfl⟩) ⟨q_blWN, va_recv hKc hPc (ci := 1) (q0 := 0) rfl rfl, fun U hU hW => ⟨rfl, by rw [hU], by rw [hU]; exact hPc, va_K.moved hW.alike hKc, hDc.weaken (fun _ _ _ _ => trivial), hN.warm hW⟩⟩ rfl rfl hl.1 rfl (lv_room (Nat.le_of_ble_eq_true rfl)) dL_law_586 ⟨by decide +kernel, by decide +kernel⟩) hS (fun q _ h => hFc q h) hFc (fun r_1 u_1 t_1 H1 locs ht hvm hw hB hz1 hk1 hS => ?_)
  obtain ⟨⟨gh_1, nh_1⟩, ⟨gr_1, nr_1⟩, ⟨gk_1, nk_1⟩, fi_1, me_1⟩ := u_1
  obtain ⟨fh_1, fr_1, fk_1, hh_1, hr_1, hk_1, hP1, hK1, hD1⟩ := hB
  rw [ht] at hP1
  obtain ⟨hP, hD⟩ := q_join (wr := [(m0, .inr (2, [.ref c1, .ref c2, .ref c3, .int (nI nh), .int (nI nr), .int (nI nk), .int fi, .int me])), (c1, .inl (cA, 2000, .inl eh)), (c2, .inl (cA, 2000, .inl er)), (c3, .inl (cA, 2000, .inl ek))]) (w1 := [(x0, .inr (1, [.ref a1, .ref a2, .ref a3, .int fi_1, .int me_1])), (a1, .inr (0, [.ref b1, .int (nI nh_1)])), (b1, .inl (cA, 2100, .inl fh_1)), (a2, .inr (0, [.ref b2, .int (nI nr_1)])), (b2, .inl (cA, 2100, .inl fr_1)), (a3, .inr (0, [.ref b3, .int (nI nk_1)])), (b3, .inl (cA, 2100, .inl fk_1))]) (wz := [(x0, .inr (1, [.ref a1, .ref a2, .ref a3, .int fi_1, .int me_1])), (a1, .inr (0, [.ref b1, .int (nI nh_1)])), (b1, .inl (cA, 2100, .inl fh_1)), (a2, .inr (0, [.ref b2, .int (nI nr_1)])), (b2, .inl (cA, 2100, .inl fr_1)), (a3, .inr (0, [.ref b3, .int (nI nk_1)])), (b3, .inl (cA, 2100, .inl fk_1)), (m0, .inr (2, [.ref c1, .ref c2, .ref c3, .int (nI nh), .int (nI nr), .int (nI nk), .int fi, .int me])), (c1, .inl (cA, 2000, .inl eh)), (c2, .inl (cA, 2000, .inl er)), (c3, .inl (cA, 2000, .inl ek))]) hP hD [0, 1, 2, 3, 4, 5, 6] [7, 8, 9, 10] [4, 5, 6, 7, 8, 9, 10, 0, 1, 2, 3] rfl rfl (by decide) (by decide) hk1 hFc hP1 hD1 rfl rfl (by decide)
  generalize H1 = H at hP hS ⊢
  have hw1 := hw
  refine lv_aload_n hx hb dL_law_589 rfl (lv_at hl 2 rfl) ?_
  refine lv_aload_n hx hb dL_law_590 rfl (lv_at hl 0 rfl) ?_
  refine lv_iload_n hx hb dL_law_591 rfl (lv_at hl 3 rfl) ?_
  refine lv_iconst (v := 1) hx hb dL_law_592 (by decide) ?_
  refine lv_iadd hx hb dL_law_593 ?_
  refine q_top (y := nI (i + 1)) (nI_1 i) ?_
  refine q_sld (k := i + 1) hx hb hX hbl hbA hS (by omega) (by omega) dL_law_594 ?_
  refine lv_aload_n hx hb dL_law_595 rfl (lv_at hl 0 rfl) ?_
  refine lv_iload_n hx hb dL_law_596 rfl (lv_at hl 3 rfl) ?_
  refine lv_iconst (v := 2) hx hb dL_law_597 (by decide) ?_
  refine lv_iadd hx hb dL_law_598 ?_
  refine q_top (y := nI (i + 2)) (nI_add i 2) ?_
  refine q_sld (k := i + 2) hx hb hX hbl hbA hS (by omega) (by omega) dL_law_599 ?_
  have hPc := hP.sub (ws' := [(m0, .inr (2, [.ref c1, .ref c2, .ref c3, .int (nI nh), .int (nI nr), .int (nI nk), .int fi, .int me])), (c1, .inl (cA, 2000, .inl eh)), (c2, .inl (cA, 2000, .inl er)), (c3, .inl (cA, 2000, .inl ek))]) [7, 8, 9, 10] rfl
  have hKc := hK.sub (tys' := [(cA, .int)]) [0] rfl
  have hDc := hD.sub (ws' := [(m0, .inr (2, [.ref c1, .ref c2, .ref c3, .int (nI nh), .int (nI nr), .int (nI nk), .int fi, .int me])), (c1, .inl (cA, 2000, .inl eh)), (c2, .inl (cA, 2000, .inl er)), (c3, .inl (cA, 2000, .inl ek))]) [7, 8, 9, 10] (by decide) rfl
  have hFc := va_free (wc := [(m0, .inr (2, [.ref c1, .ref c2, .ref c3, .int (nI nh), .int (nI nr), .int (nI nk), .int fi, .int me])), (c1, .inl (cA, 2000, .inl eh)), (c2, .inl (cA, 2000, .inl er)), (c3, .inl (cA, 2000, .inl ek))]) hD hS hA [7, 8, 9, 10] rfl
  refine va_calli (va_runV (As := [.int (xs (i + 1)), .int (xs (i + 2))]) (rest := [.int r_1]) ⟨hx, hb, hml, hown, hts⟩ (c_Mod_insert l dC dI (H.size) m0 c1 c2 c3 nh nr nk cA eh gh er gr ek gk fi me (xs (i + 1)) (xs (i + 2)) (by omega) hb1 hb2 hb3 hF) (cwV 2 hts gL_law_X2_insert_v rfl rfl rfl (by decide +kernel) ⟨Nat.le_of_ble_eq_true rfl, Nat.le_of_ble_eq_true rfl⟩) ⟨q_blW, va_recv hKc hPc (ci := 2) (q0 := 0) rfl rfl, fun U hU hW => ⟨rfl, by rw [hU], by rw [hU]; exact hPc, va_K.moved hW.alike hKc, hDc.weaken (fun _ _ _ _ => trivial)⟩⟩ rfl rfl hl.1 rfl (lv_room (Nat.le_of_ble_eq_true rfl)) dL_law_600 ⟨by decide +kernel, by decide +kernel⟩) hS (fun q _ h => hFc q h) hFc (fun r_2 u_2 t_2 H1 locs ht hvm hw hB hz1 hk1 hS => ?_)
  obtain ⟨⟨gh_2, nh_2⟩, ⟨gr_2, nr_2⟩, ⟨gk_2, nk_2⟩, fi_2, me_2⟩ := u_2
  obtain ⟨eh_2, er_2, ek_2, hh_2, hr_2, hk_2, hP1, hK1, hD1⟩ := hB
  rw [ht] at hP1
  obtain ⟨hP, hD⟩ := q_join (wr := [(x0, .inr (1, [.ref a1, .ref a2, .ref a3, .int fi_1, .int me_1])), (a1, .inr (0, [.ref b1, .int (nI nh_1)])), (b1, .inl (cA, 2100, .inl fh_1)), (a2, .inr (0, [.ref b2, .int (nI nr_1)])), (b2, .inl (cA, 2100, .inl fr_1)), (a3, .inr (0, [.ref b3, .int (nI nk_1)])), (b3, .inl (cA, 2100, .inl fk_1))]) (w1 := [(m0, .inr (2, [.ref c1, .ref c2, .ref c3, .int (nI nh_2), .int (nI nr_2), .int (nI nk_2), .int fi_2, .int me_2])), (c1, .inl (cA, 2000, .inl eh_2)), (c2, .inl (cA, 2000, .inl er_2)), (c3, .inl (cA, 2000, .inl ek_2))]) (wz := [(x0, .inr (1, [.ref a1, .ref a2, .ref a3, .int fi_1, .int me_1])), (a1, .inr (0, [.ref b1, .int (nI nh_1)])), (b1, .inl (cA, 2100, .inl fh_1)), (a2, .inr (0, [.ref b2, .int (nI nr_1)])), (b2, .inl (cA, 2100, .inl fr_1)), (a3, .inr (0, [.ref b3, .int (nI nk_1)])), (b3, .inl (cA, 2100, .inl fk_1)), (m0, .inr (2, [.ref c1, .ref c2, .ref c3, .int (nI nh_2), .int (nI nr_2), .int (nI nk_2), .int fi_2, .int me_2])), (c1, .inl (cA, 2000, .inl eh_2)), (c2, .inl (cA, 2000, .inl er_2)), (c3, .inl (cA, 2000, .inl ek_2))]) hP hD [7, 8, 9, 10] [0, 1, 2, 3, 4, 5, 6] [0, 1, 2, 3, 4, 5, 6, 7, 8, 9, 10] rfl rfl (by decide) (by decide) hk1 hFc hP1 hD1 rfl rfl (by decide)
  generalize H1 = H at hP hS ⊢
  have hI1 : qInv (t + 1) (qInsert (xs (i + 1)) (xs (i + 2)) ((gh, nh), (gr, nr), (gk, nk), fi, me)).2 := qI_insert hI (by omega)
  rw [← hw1] at hI1
  have he := hw1.trans hw.symm
  simp only [Prod.mk.injEq] at he
  obtain ⟨rfl, ⟨rfl, rfl⟩, ⟨rfl, rfl⟩, ⟨rfl, rfl⟩, rfl, rfl⟩ := he
  have hP : va_P (dC, dI) vwCl [(x0, .inr (1, [.ref a1, .ref a2, .ref a3, .int fi_1, .int me_1])), (a1, .inr (0, [.ref b1, .int (nI nh_1)])), (b1, .inl (cA, 2100, .inl fh_1)), (a2, .inr (0, [.ref b2, .int (nI nr_1)])), (b2, .inl (cA, 2100, .inl fr_1)), (a3, .inr (0, [.ref b3, .int (nI nk_1)])), (b3, .inl (cA, 2100, .inl fk_1)), (m0, .inr (2, [.ref c1, .ref c2, .ref c3, .int (nI nh_1), .int (nI nr_1), .int (nI nk_1), .int fi_1, .int me_1])), (c1, .inl (cA, 2000, .inl eh_2)), (c2, .inl (cA, 2000, .inl er_2)), (c3, .inl (cA, 2000, .inl ek_2))] H := hP
  have hD : va_D (fun q : Nat => s.heap.size ≤ q) [(x0, .inr (1, [.ref a1, .ref a2, .ref a3, .int fi_1, .int me_1])), (a1, .inr (0, [.ref b1, .int (nI nh_1)])), (b1, .inl (cA, 2100, .inl fh_1)), (a2, .inr (0, [.ref b2, .int (nI nr_1)])), (b2, .inl (cA, 2100, .inl fr_1)), (a3, .inr (0, [.ref b3, .int (nI nk_1)])), (b3, .inl (cA, 2100, .inl fk_1)), (m0, .inr (2, [.ref c1, .ref c2, .ref c3, .int (nI nh_1), .int (nI nr_1), .int (nI nk_1), .int fi_1, .int me_1])), (c1, .inl (cA, 2000, .inl eh_2)), (c2, .inl (cA, 2000, .inl er_2)), (c3, .inl (cA, 2000, .inl ek_2))] := hD
  refine lv_icmp_eq (tgt := 899) hx hb dL_law_603 (by decide) (fun c_3 => ?_) (fun c_0 => absurd (show r_1 = r_1 from rfl) c_0)
  exact hk _ _ _ _ _ _ _ _ _ _ _ _ _ _ hI1 hh_1 hr_1 hk_1 hh_2 hr_2 hk_2 _ _ hP hD hS ls (lv_sub hl [0, 1, 2, 3] rfl)

set_option maxHeartbeats 4000000 in
set_option maxRecDepth 100000 in
theorem law_13 {p : Program} {l : Launch} {e : Env} {s : State} {m : MethodId} {below : List Frame} {meth : Method} {c : Code} {dC : Nat → ClassId} {dI : Nat → Nat → Nat} {b L x0 a1 b1 a2 b2 a3 b3 m0 c1 c2 c3 : Nat} {cA : ClassId} {xs : Nat → Int32} (hL : L ≤ 2048) (C0 : lw_At p s m meth c b L xs) (hK : va_K (dC, dI) vwCl [(cA, .int)] s) {i t : Nat} (ht : i = 4 * t) (hi : i + 4 ≤ L) (hk : lw_K p l e s m below meth c dC dI b x0 a1 b1 a2 b2 a3 b3 m0 c1 c2 c3 cA 899 i (t + 1)) : lw_K p l e s m below meth c dC dI b x0 a1 b1 a2 b2 a3 b3 m0 c1 c2 c3 cA 608 i t := by
  obtain ⟨hx, hb, hr, hml, hown, hts, hX, hbl, hlocks, hgv⟩ := id C0
  have hN := law_nest hts
  have hA : ∀ q : Nat, s.heap.size ≤ q → (fun q : Nat => s.heap.size ≤ q) q := fun _ h => h
  have hbA : ¬ (fun q : Nat => s.heap.size ≤ q) b := Nat.not_le.mpr hbl
  intro gh gr gk fh fr fk eh er ek nh nr nk fi me hI ha1 ha2 ha3 hb1 hb2 hb3 H locs hP hD hS ls hl
  obtain ⟨hn, hs, hF⟩ := id hI
  refine lv_aload_n hx hb dL_law_608 rfl (lv_at hl 1 rfl) ?_
  refine lv_aload_n hx hb dL_law_609 rfl (lv_at hl 0 rfl) ?_
  refine lv_iload_n hx hb dL_law_610 rfl (lv_at hl 3 rfl) ?_
  refine lv_iconst (v := 1) hx hb dL_law_611 (by decide) ?_
  refine lv_iadd hx hb dL_law_612 ?_
  refine q_top (y := nI (i + 1)) (nI_1 i) ?_
  refine q_sld (k := i + 1) hx hb hX hbl hbA hS (by omega) (by omega) dL_law_613 ?_
  refine lv_aload_n hx hb dL_law_614 rfl (lv_at hl 0 rfl) ?_
  refine lv_iload_n hx hb dL_law_615 rfl (lv_at hl 3 rfl) ?_
  refine lv_iconst (v := 2) hx hb dL_law_616 (by decide) ?_
  refine lv_iadd hx hb dL_law_617 ?_
  refine q_top (y := nI (i + 2)) (nI_add i 2) ?_
  refine q_sld (k := i + 2) hx hb hX hbl hbA hS (by omega) (by omega) dL_law_618 ?_
  refine lv_aload_n hx hb dL_law_619 rfl (lv_at hl 0 rfl) ?_
  refine lv_iload_n hx hb dL_law_620 rfl (lv_at hl 3 rfl) ?_
  refine lv_iconst (v := 3) hx hb dL_law_621 (by decide) ?_
  refine lv_iadd hx hb dL_law_622 ?_
  refine q_top (y := nI (i + 3)) (nI_add i 3) ?_
  refine q_sld (k := i + 3) hx hb hX hbl hbA hS (by omega) (by omega) dL_law_623 ?_
  refine lv_if_eq (tgt := 631) hx hb dL_law_624 (by decide) (fun c_1 => ?_) (fun c_1 => ?_)
  · refine lv_iconst (v := 0) hx hb dL_law_631 (by decide) ?_
    have hPc := hP.sub (ws' := [(x0, .inr (1, [.ref a1, .ref a2, .ref a3, .int fi, .int me])), (a1, .inr (0, [.ref b1, .int (nI nh)])), (b1, .inl (cA, 2100, .inl fh)), (a2, .inr (0, [.ref b2, .int (nI nr)])), (b2, .inl (cA, 2100, .inl fr)), (a3, .inr (0, [.ref b3, .int (nI nk)])), (b3, .inl (cA, 2100, .inl fk))]) [0, 1, 2, 3, 4, 5, 6] rfl
    have hKc := hK.sub (tys' := [(cA, .int)]) [0] rfl
    have hDc := hD.sub (ws' := [(x0, .inr (1, [.ref a1, .ref a2, .ref a3, .int fi, .int me])), (a1, .inr (0, [.ref b1, .int (nI nh)])), (b1, .inl (cA, 2100, .inl fh)), (a2, .inr (0, [.ref b2, .int (nI nr)])), (b2, .inl (cA, 2100, .inl fr)), (a3, .inr (0, [.ref b3, .int (nI nk)])), (b3, .inl (cA, 2100, .inl fk))]) [0, 1, 2, 3, 4, 5, 6] (by decide) rfl
    have hFc := va_free (wc := [(x0, .inr (1, [.ref a1, .ref a2, .ref a3, .int fi, .int me])), (a1, .inr (0, [.ref b1, .int (nI nh)])), (b1, .inl (cA, 2100, .inl fh)), (a2, .inr (0, [.ref b2, .int (nI nr)])), (b2, .inl (cA, 2100, .inl fr)), (a3, .inr (0, [.ref b3, .int (nI nk)])), (b3, .inl (cA, 2100, .inl fk))]) hD hS hA [0, 1, 2, 3, 4, 5, 6] rfl
    refine va_calll (va_runV (As := [.int (xs (i + 1)), .int (xs (i + 2)), .int 0]) (rest := []) ⟨hx, hb, hml, hown, hts⟩ (c_Hall_change l dC dI (H.size) x0 a1 b1 a2 b2 a3 b3 nh nr nk cA fh gh fr gr fk gk fi me (xs (i + 1)) (xs (i + 2)) 0 (by omega) ha1 ha2 ha3 hF) (cwV 3 hts gL_law_X1_change_v rfl rfl rfl (by decide +kernel) ⟨Nat.le_of_ble_eq_true rfl, Nat.le_of_ble_eq_true rfl⟩) ⟨q_blWN, va_recv hKc hPc (ci := 1) (q0 := 0) rfl rfl, fun U hU hW => ⟨rfl, by rw [hU], by rw [hU]; exact hPc, va_K.moved hW.alike hKc, hDc.weaken (fun _ _ _ _ => trivial), hN.warm hW⟩⟩ rfl rfl hl.1 rfl (lv_room (Nat.le_of_ble_eq_true rfl)) dL_law_632 ⟨by decide +kernel, by decide +kernel⟩) hS (fun q _ h => hFc q h) hFc (fun r_2 u_2 t_2 H1 locs ht hvm hw hB hz1 hk1 hS => ?_)
    obtain ⟨⟨gh_2, nh_2⟩, ⟨gr_2, nr_2⟩, ⟨gk_2, nk_2⟩, fi_2, me_2⟩ := u_2
    obtain ⟨fh_2, fr_2, fk_2, hh_2, hr_2, hk_2, hP1, hK1, hD1⟩ := hB
    rw [ht] at hP1
    obtain ⟨hP, hD⟩ := q_join (wr := [(m0, .inr (2, [.ref c1, .ref c2, .ref c3, .int (nI nh), .int (nI nr), .int (nI nk), .int fi, .int me])), (c1, .inl (cA, 2000, .inl eh)), (c2, .inl (cA, 2000, .inl er)), (c3, .inl (cA, 2000, .inl ek))]) (w1 := [(x0, .inr (1, [.ref a1, .ref a2, .ref a3, .int fi_2, .int me_2])), (a1, .inr (0, [.ref b1, .int (nI nh_2)])), (b1, .inl (cA, 2100, .inl fh_2)), (a2, .inr (0, [.ref b2, .int (nI nr_2)])), (b2, .inl (cA, 2100, .inl fr_2)), (a3, .inr (0, [.ref b3, .int (nI nk_2)])), (b3, .inl (cA, 2100, .inl fk_2))]) (wz := [(x0, .inr (1, [.ref a1, .ref a2, .ref a3, .int fi_2, .int me_2])), (a1, .inr (0, [.ref b1, .int (nI nh_2)])), (b1, .inl (cA, 2100, .inl fh_2)), (a2, .inr (0, [.ref b2, .int (nI nr_2)])), (b2, .inl (cA, 2100, .inl fr_2)), (a3, .inr (0, [.ref b3, .int (nI nk_2)])), (b3, .inl (cA, 2100, .inl fk_2)), (m0, .inr (2, [.ref c1, .ref c2, .ref c3, .int (nI nh), .int (nI nr), .int (nI nk), .int fi, .int me])), (c1, .inl (cA, 2000, .inl eh)), (c2, .inl (cA, 2000, .inl er)), (c3, .inl (cA, 2000, .inl ek))]) hP hD [0, 1, 2, 3, 4, 5, 6] [7, 8, 9, 10] [4, 5, 6, 7, 8, 9, 10, 0, 1, 2, 3] rfl rfl (by decide) (by decide) hk1 hFc hP1 hD1 rfl rfl (by decide)
    generalize H1 = H at hP hS ⊢
    have hw1 := hw
    refine lv_aload_n hx hb dL_law_635 rfl (lv_at hl 2 rfl) ?_
    refine lv_aload_n hx hb dL_law_636 rfl (lv_at hl 0 rfl) ?_
    refine lv_iload_n hx hb dL_law_637 rfl (lv_at hl 3 rfl) ?_
    refine lv_iconst (v := 1) hx hb dL_law_638 (by decide) ?_
    refine lv_iadd hx hb dL_law_639 ?_
    refine q_top (y := nI (i + 1)) (nI_1 i) ?_
    refine q_sld (k := i + 1) hx hb hX hbl hbA hS (by omega) (by omega) dL_law_640 ?_
    refine lv_aload_n hx hb dL_law_641 rfl (lv_at hl 0 rfl) ?_
    refine lv_iload_n hx hb dL_law_642 rfl (lv_at hl 3 rfl) ?_
    refine lv_iconst (v := 2) hx hb dL_law_643 (by decide) ?_
    refine lv_iadd hx hb dL_law_644 ?_
    refine q_top (y := nI (i + 2)) (nI_add i 2) ?_
    refine q_sld (k := i + 2) hx hb hX hbl hbA hS (by omega) (by omega) dL_law_645 ?_
    refine lv_aload_n hx hb dL_law_646 rfl (lv_at hl 0 rfl) ?_
    refine lv_iload_n hx hb dL_law_647 rfl (lv_at hl 3 rfl) ?_
    refine lv_iconst (v := 3) hx hb dL_law_648 (by decide) ?_
    refine lv_iadd hx hb dL_law_649 ?_
    refine q_top (y := nI (i + 3)) (nI_add i 3) ?_
    refine q_sld (k := i + 3) hx hb hX hbl hbA hS (by omega) (by omega) dL_law_650 ?_
    refine lv_if_eq (tgt := 658) hx hb dL_law_651 (by decide) (fun c_3 => ?_) (fun c_0 => absurd (show (xs (i + 3)) = (0 : Int32) from c_1) c_0)
    refine lv_iconst (v := 0) hx hb dL_law_658 (by decide) ?_
    have hPc := hP.sub (ws' := [(m0, .inr (2, [.ref c1, .ref c2, .ref c3, .int (nI nh), .int (nI nr), .int (nI nk), .int fi, .int me])), (c1, .inl (cA, 2000, .inl eh)), (c2, .inl (cA, 2000, .inl er)), (c3, .inl (cA, 2000, .inl ek))]) [7, 8, 9, 10] rfl
    have hKc := hK.sub (tys' := [(cA, .int)]) [0] rfl
    have hDc := hD.sub (ws' := [(m0, .inr (2, [.ref c1, .ref c2, .ref c3, .int (nI nh), .int (nI nr), .int (nI nk), .int fi, .int me])), (c1, .inl (cA, 2000, .inl eh)), (c2, .inl (cA, 2000, .inl er)), (c3, .inl (cA, 2000, .inl ek))]) [7, 8, 9, 10] (by decide) rfl
    have hFc := va_free (wc := [(m0, .inr (2, [.ref c1, .ref c2, .ref c3, .int (nI nh), .int (nI nr), .int (nI nk), .int fi, .int me])), (c1, .inl (cA, 2000, .inl eh)), (c2, .inl (cA, 2000, .inl er)), (c3, .inl (cA, 2000, .inl ek))]) hD hS hA [7, 8, 9, 10] rfl
    refine va_calll (va_runV (As := [.int (xs (i + 1)), .int (xs (i + 2)), .int 0]) (rest := [.long r_2]) ⟨hx, hb, hml, hown, hts⟩ (c_Mod_change l dC dI (H.size) m0 c1 c2 c3 nh nr nk cA eh gh er gr ek gk fi me (xs (i + 1)) (xs (i + 2)) 0 (by omega) hb1 hb2 hb3 hF) (cwV 3 hts gL_law_X2_change_v rfl rfl rfl (by decide +kernel) ⟨Nat.le_of_ble_eq_true rfl, Nat.le_of_ble_eq_true rfl⟩) ⟨q_blW, va_recv hKc hPc (ci := 2) (q0 := 0) rfl rfl, fun U hU hW => ⟨rfl, by rw [hU], by rw [hU]; exact hPc, va_K.moved hW.alike hKc, hDc.weaken (fun _ _ _ _ => trivial)⟩⟩ rfl rfl hl.1 rfl (lv_room (Nat.le_of_ble_eq_true rfl)) dL_law_659 ⟨by decide +kernel, by decide +kernel⟩) hS (fun q _ h => hFc q h) hFc (fun r_4 u_4 t_4 H1 locs ht hvm hw hB hz1 hk1 hS => ?_)
    obtain ⟨⟨gh_4, nh_4⟩, ⟨gr_4, nr_4⟩, ⟨gk_4, nk_4⟩, fi_4, me_4⟩ := u_4
    obtain ⟨eh_4, er_4, ek_4, hh_4, hr_4, hk_4, hP1, hK1, hD1⟩ := hB
    rw [ht] at hP1
    obtain ⟨hP, hD⟩ := q_join (wr := [(x0, .inr (1, [.ref a1, .ref a2, .ref a3, .int fi_2, .int me_2])), (a1, .inr (0, [.ref b1, .int (nI nh_2)])), (b1, .inl (cA, 2100, .inl fh_2)), (a2, .inr (0, [.ref b2, .int (nI nr_2)])), (b2, .inl (cA, 2100, .inl fr_2)), (a3, .inr (0, [.ref b3, .int (nI nk_2)])), (b3, .inl (cA, 2100, .inl fk_2))]) (w1 := [(m0, .inr (2, [.ref c1, .ref c2, .ref c3, .int (nI nh_4), .int (nI nr_4), .int (nI nk_4), .int fi_4, .int me_4])), (c1, .inl (cA, 2000, .inl eh_4)), (c2, .inl (cA, 2000, .inl er_4)), (c3, .inl (cA, 2000, .inl ek_4))]) (wz := [(x0, .inr (1, [.ref a1, .ref a2, .ref a3, .int fi_2, .int me_2])), (a1, .inr (0, [.ref b1, .int (nI nh_2)])), (b1, .inl (cA, 2100, .inl fh_2)), (a2, .inr (0, [.ref b2, .int (nI nr_2)])), (b2, .inl (cA, 2100, .inl fr_2)), (a3, .inr (0, [.ref b3, .int (nI nk_2)])), (b3, .inl (cA, 2100, .inl fk_2)), (m0, .inr (2, [.ref c1, .ref c2, .ref c3, .int (nI nh_4), .int (nI nr_4), .int (nI nk_4), .int fi_4, .int me_4])), (c1, .inl (cA, 2000, .inl eh_4)), (c2, .inl (cA, 2000, .inl er_4)), (c3, .inl (cA, 2000, .inl ek_4))]) hP hD [7, 8, 9, 10] [0, 1, 2, 3, 4, 5, 6] [0, 1, 2, 3, 4, 5, 6, 7, 8, 9, 10] rfl rfl (by decide) (by decide) hk1 hFc hP1 hD1 rfl rfl (by decide)
    generalize H1 = H at hP hS ⊢
    have hI1 : qInv (t + 1) (qChange (xs (i + 1)) (xs (i + 2)) 0 ((gh, nh), (gr, nr), (gk, nk), fi, me)).2 := qI_change hI (by omega)
    rw [← hw1] at hI1
    have he := hw1.trans hw.symm
    simp only [Prod.mk.injEq] at he
    obtain ⟨rfl, ⟨rfl, rfl⟩, ⟨rfl, rfl⟩, ⟨rfl, rfl⟩, rfl, rfl⟩ := he
    have hP : va_P (dC, dI) vwCl [(x0, .inr (1, [.ref a1, .ref a2, .ref a3, .int fi_2, .int me_2])), (a1, .inr (0, [.ref b1, .int (nI nh_2)])), (b1, .inl (cA, 2100, .inl fh_2)), (a2, .inr (0, [.ref b2, .int (nI nr_2)])), (b2, .inl (cA, 2100, .inl fr_2)), (a3, .inr (0, [.ref b3, .int (nI nk_2)])), (b3, .inl (cA, 2100, .inl fk_2)), (m0, .inr (2, [.ref c1, .ref c2, .ref c3, .int (nI nh_2), .int (nI nr_2), .int (nI nk_2), .int fi_2, .int me_2])), (c1, .inl (cA, 2000, .inl eh_4)), (c2, .inl (cA, 2000, .inl er_4)), (c3, .inl (cA, 2000, .inl ek_4))] H := hP
    have hD : va_D (fun q : Nat => s.heap.size ≤ q) [(x0, .inr (1, [.ref a1, .ref a2, .ref a3, .int fi_2, .int me_2])), (a1, .inr (0, [.ref b1, .int (nI nh_2)])), (b1, .inl (cA, 2100, .inl fh_2)), (a2, .inr (0, [.ref b2, .int (nI nr_2)])), (b2, .inl (cA, 2100, .inl fr_2)), (a3, .inr (0, [.ref b3, .int (nI nk_2)])), (b3, .inl (cA, 2100, .inl fk_2)), (m0, .inr (2, [.ref c1, .ref c2, .ref c3, .int (nI nh_2), .int (nI nr_2), .int (nI nk_2), .int fi_2, .int me_2])), (c1, .inl (cA, 2000, .inl eh_4)), (c2, .inl (cA, 2000, .inl er_4)), (c3, .inl (cA, 2000, .inl ek_4))] := hD
    refine W.lcmp hx hb dL_law_662 ?_
    refine lv_if_eq (tgt := 899) hx hb dL_law_663 (by decide) (fun _ => ?_) (fun c_0 => absurd ((lg_cmp_eq _ _).mpr rfl) c_0)
    exact hk _ _ _ _ _ _ _ _ _ _ _ _ _ _ hI1 hh_2 hr_2 hk_2 hh_4 hr_4 hk_4 _ _ hP hD hS ls (lv_sub hl [0, 1, 2, 3] rfl)
  · refine lv_iconst (v := 1) hx hb dL_law_627 (by decide) ?_
    refine lv_goto (tgt := 632) hx hb dL_law_628 (by decide) ?_
    have hPc := hP.sub (ws' := [(x0, .inr (1, [.ref a1, .ref a2, .ref a3, .int fi, .int me])), (a1, .inr (0, [.ref b1, .int (nI nh)])), (b1, .inl (cA, 2100, .inl fh)), (a2, .inr (0, [.ref b2, .int (nI nr)])), (b2, .inl (cA, 2100, .inl fr)), (a3, .inr (0, [.ref b3, .int (nI nk)])), (b3, .inl (cA, 2100, .inl fk))]) [0, 1, 2, 3, 4, 5, 6] rfl
    have hKc := hK.sub (tys' := [(cA, .int)]) [0] rfl
    have hDc := hD.sub (ws' := [(x0, .inr (1, [.ref a1, .ref a2, .ref a3, .int fi, .int me])), (a1, .inr (0, [.ref b1, .int (nI nh)])), (b1, .inl (cA, 2100, .inl fh)), (a2, .inr (0, [.ref b2, .int (nI nr)])), (b2, .inl (cA, 2100, .inl fr)), (a3, .inr (0, [.ref b3, .int (nI nk)])), (b3, .inl (cA, 2100, .inl fk))]) [0, 1, 2, 3, 4, 5, 6] (by decide) rfl
    have hFc := va_free (wc := [(x0, .inr (1, [.ref a1, .ref a2, .ref a3, .int fi, .int me])), (a1, .inr (0, [.ref b1, .int (nI nh)])), (b1, .inl (cA, 2100, .inl fh)), (a2, .inr (0, [.ref b2, .int (nI nr)])), (b2, .inl (cA, 2100, .inl fr)), (a3, .inr (0, [.ref b3, .int (nI nk)])), (b3, .inl (cA, 2100, .inl fk))]) hD hS hA [0, 1, 2, 3, 4, 5, 6] rfl
    refine va_calll (va_runV (As := [.int (xs (i + 1)), .int (xs (i + 2)), .int 1]) (rest := []) ⟨hx, hb, hml, hown, hts⟩ (c_Hall_change l dC dI (H.size) x0 a1 b1 a2 b2 a3 b3 nh nr nk cA fh gh fr gr fk gk fi me (xs (i + 1)) (xs (i + 2)) 1 (by omega) ha1 ha2 ha3 hF) (cwV 3 hts gL_law_X1_change_v rfl rfl rfl (by decide +kernel) ⟨Nat.le_of_ble_eq_true rfl, Nat.le_of_ble_eq_true rfl⟩) ⟨q_blWN, va_recv hKc hPc (ci := 1) (q0 := 0) rfl rfl, fun U hU hW => ⟨rfl, by rw [hU], by rw [hU]; exact hPc, va_K.moved hW.alike hKc, hDc.weaken (fun _ _ _ _ => trivial), hN.warm hW⟩⟩ rfl rfl hl.1 rfl (lv_room (Nat.le_of_ble_eq_true rfl)) dL_law_632 ⟨by decide +kernel, by decide +kernel⟩) hS (fun q _ h => hFc q h) hFc (fun r_5 u_5 t_5 H1 locs ht hvm hw hB hz1 hk1 hS => ?_)
    obtain ⟨⟨gh_5, nh_5⟩, ⟨gr_5, nr_5⟩, ⟨gk_5, nk_5⟩, fi_5, me_5⟩ := u_5
    obtain ⟨fh_5, fr_5, fk_5, hh_5, hr_5, hk_5, hP1, hK1, hD1⟩ := hB
    rw [ht] at hP1
    obtain ⟨hP, hD⟩ := q_join (wr := [(m0, .inr (2, [.ref c1, .ref c2, .ref c3, .int (nI nh), .int (nI nr), .int (nI nk), .int fi, .int me])), (c1, .inl (cA, 2000, .inl eh)), (c2, .inl (cA, 2000, .inl er)), (c3, .inl (cA, 2000, .inl ek))]) (w1 := [(x0, .inr (1, [.ref a1, .ref a2, .ref a3, .int fi_5, .int me_5])), (a1, .inr (0, [.ref b1, .int (nI nh_5)])), (b1, .inl (cA, 2100, .inl fh_5)), (a2, .inr (0, [.ref b2, .int (nI nr_5)])), (b2, .inl (cA, 2100, .inl fr_5)), (a3, .inr (0, [.ref b3, .int (nI nk_5)])), (b3, .inl (cA, 2100, .inl fk_5))]) (wz := [(x0, .inr (1, [.ref a1, .ref a2, .ref a3, .int fi_5, .int me_5])), (a1, .inr (0, [.ref b1, .int (nI nh_5)])), (b1, .inl (cA, 2100, .inl fh_5)), (a2, .inr (0, [.ref b2, .int (nI nr_5)])), (b2, .inl (cA, 2100, .inl fr_5)), (a3, .inr (0, [.ref b3, .int (nI nk_5)])), (b3, .inl (cA, 2100, .inl fk_5)), (m0, .inr (2, [.ref c1, .ref c2, .ref c3, .int (nI nh), .int (nI nr), .int (nI nk), .int fi, .int me])), (c1, .inl (cA, 2000, .inl eh)), (c2, .inl (cA, 2000, .inl er)), (c3, .inl (cA, 2000, .inl ek))]) hP hD [0, 1, 2, 3, 4, 5, 6] [7, 8, 9, 10] [4, 5, 6, 7, 8, 9, 10, 0, 1, 2, 3] rfl rfl (by decide) (by decide) hk1 hFc hP1 hD1 rfl rfl (by decide)
    generalize H1 = H at hP hS ⊢
    have hw1 := hw
    refine lv_aload_n hx hb dL_law_635 rfl (lv_at hl 2 rfl) ?_
    refine lv_aload_n hx hb dL_law_636 rfl (lv_at hl 0 rfl) ?_
    refine lv_iload_n hx hb dL_law_637 rfl (lv_at hl 3 rfl) ?_
    refine lv_iconst (v := 1) hx hb dL_law_638 (by decide) ?_
    refine lv_iadd hx hb dL_law_639 ?_
    refine q_top (y := nI (i + 1)) (nI_1 i) ?_
    refine q_sld (k := i + 1) hx hb hX hbl hbA hS (by omega) (by omega) dL_law_640 ?_
    refine lv_aload_n hx hb dL_law_641 rfl (lv_at hl 0 rfl) ?_
    refine lv_iload_n hx hb dL_law_642 rfl (lv_at hl 3 rfl) ?_
    refine lv_iconst (v := 2) hx hb dL_law_643 (by decide) ?_
    refine lv_iadd hx hb dL_law_644 ?_
    refine q_top (y := nI (i + 2)) (nI_add i 2) ?_
    refine q_sld (k := i + 2) hx hb hX hbl hbA hS (by omega) (by omega) dL_law_645 ?_
    refine lv_aload_n hx hb dL_law_646 rfl (lv_at hl 0 rfl) ?_
    refine lv_iload_n hx hb dL_law_647 rfl (lv_at hl 3 rfl) ?_
    refine lv_iconst (v := 3) hx hb dL_law_648 (by decide) ?_
    refine lv_iadd hx hb dL_law_649 ?_
    refine q_top (y := nI (i + 3)) (nI_add i 3) ?_
    refine q_sld (k := i + 3) hx hb hX hbl hbA hS (by omega) (by omega) dL_law_650 ?_
    refine lv_if_eq (tgt := 658) hx hb dL_law_651 (by decide) (fun c_0 => absurd c_0 (show ¬ (xs (i + 3)) = (0 : Int32) from c_1)) (fun c_6 => ?_)
    refine lv_iconst (v := 1) hx hb dL_law_654 (by decide) ?_
    refine lv_goto (tgt := 659) hx hb dL_law_655 (by decide) ?_
    have hPc := hP.sub (ws' := [(m0, .inr (2, [.ref c1, .ref c2, .ref c3, .int (nI nh), .int (nI nr), .int (nI nk), .int fi, .int me])), (c1, .inl (cA, 2000, .inl eh)), (c2, .inl (cA, 2000, .inl er)), (c3, .inl (cA, 2000, .inl ek))]) [7, 8, 9, 10] rfl
    have hKc := hK.sub (tys' := [(cA, .int)]) [0] rfl
    have hDc := hD.sub (ws' := [(m0, .inr (2, [.ref c1, .ref c2, .ref c3, .int (nI nh), .int (nI nr), .int (nI nk), .int fi, .int me])), (c1, .inl (cA, 2000, .inl eh)), (c2, .inl (cA, 2000, .inl er)), (c3, .inl (cA, 2000, .inl ek))]) [7, 8, 9, 10] (by decide) rfl
    have hFc := va_free (wc := [(m0, .inr (2, [.ref c1, .ref c2, .ref c3, .int (nI nh), .int (nI nr), .int (nI nk), .int fi, .int me])), (c1, .inl (cA, 2000, .inl eh)), (c2, .inl (cA, 2000, .inl er)), (c3, .inl (cA, 2000, .inl ek))]) hD hS hA [7, 8, 9, 10] rfl
    refine va_calll (va_runV (As := [.int (xs (i + 1)), .int (xs (i + 2)), .int 1]) (rest := [.long r_5]) ⟨hx, hb, hml, hown, hts⟩ (c_Mod_change l dC dI (H.size) m0 c1 c2 c3 nh nr nk cA eh gh er gr ek gk fi me (xs (i + 1)) (xs (i + 2)) 1 (by omega) hb1 hb2 hb3 hF) (cwV 3 hts gL_law_X2_change_v rfl rfl rfl (by decide +kernel) ⟨Nat.le_of_ble_eq_true rfl, Nat.le_of_ble_eq_true rfl⟩) ⟨q_blW, va_recv hKc hPc (ci := 2) (q0 := 0) rfl rfl, fun U hU hW => ⟨rfl, by rw [hU], by rw [hU]; exact hPc, va_K.moved hW.alike hKc, hDc.weaken (fun _ _ _ _ => trivial)⟩⟩ rfl rfl hl.1 rfl (lv_room (Nat.le_of_ble_eq_true rfl)) dL_law_659 ⟨by decide +kernel, by decide +kernel⟩) hS (fun q _ h => hFc q h) hFc (fun r_7 u_7 t_7 H1 locs ht hvm hw hB hz1 hk1 hS => ?_)
    obtain ⟨⟨gh_7, nh_7⟩, ⟨gr_7, nr_7⟩, ⟨gk_7, nk_7⟩, fi_7, me_7⟩ := u_7
    obtain ⟨eh_7, er_7, ek_7, hh_7, hr_7, hk_7, hP1, hK1, hD1⟩ := hB
    rw [ht] at hP1
    obtain ⟨hP, hD⟩ := q_join (wr := [(x0, .inr (1, [.ref a1, .ref a2, .ref a3, .int fi_5, .int me_5])), (a1, .inr (0, [.ref b1, .int (nI nh_5)])), (b1, .inl (cA, 2100, .inl fh_5)), (a2, .inr (0, [.ref b2, .int (nI nr_5)])), (b2, .inl (cA, 2100, .inl fr_5)), (a3, .inr (0, [.ref b3, .int (nI nk_5)])), (b3, .inl (cA, 2100, .inl fk_5))]) (w1 := [(m0, .inr (2, [.ref c1, .ref c2, .ref c3, .int (nI nh_7), .int (nI nr_7), .int (nI nk_7), .int fi_7, .int me_7])), (c1, .inl (cA, 2000, .inl eh_7)), (c2, .inl (cA, 2000, .inl er_7)), (c3, .inl (cA, 2000, .inl ek_7))]) (wz := [(x0, .inr (1, [.ref a1, .ref a2, .ref a3, .int fi_5, .int me_5])), (a1, .inr (0, [.ref b1, .int (nI nh_5)])), (b1, .inl (cA, 2100, .inl fh_5)), (a2, .inr (0, [.ref b2, .int (nI nr_5)])), (b2, .inl (cA, 2100, .inl fr_5)), (a3, .inr (0, [.ref b3, .int (nI nk_5)])), (b3, .inl (cA, 2100, .inl fk_5)), (m0, .inr (2, [.ref c1, .ref c2, .ref c3, .int (nI nh_7), .int (nI nr_7), .int (nI nk_7), .int fi_7, .int me_7])), (c1, .inl (cA, 2000, .inl eh_7)), (c2, .inl (cA, 2000, .inl er_7)), (c3, .inl (cA, 2000, .inl ek_7))]) hP hD [7, 8, 9, 10] [0, 1, 2, 3, 4, 5, 6] [0, 1, 2, 3, 4, 5, 6, 7, 8, 9, 10] rfl rfl (by decide) (by decide) hk1 hFc hP1 hD1 rfl rfl (by decide)
    generalize H1 = H at hP hS ⊢
    have hI1 : qInv (t + 1) (qChange (xs (i + 1)) (xs (i + 2)) 1 ((gh, nh), (gr, nr), (gk, nk), fi, me)).2 := qI_change hI (by omega)
    rw [← hw1] at hI1
    have he := hw1.trans hw.symm
    simp only [Prod.mk.injEq] at he
    obtain ⟨rfl, ⟨rfl, rfl⟩, ⟨rfl, rfl⟩, ⟨rfl, rfl⟩, rfl, rfl⟩ := he
    have hP : va_P (dC, dI) vwCl [(x0, .inr (1, [.ref a1, .ref a2, .ref a3, .int fi_5, .int me_5])), (a1, .inr (0, [.ref b1, .int (nI nh_5)])), (b1, .inl (cA, 2100, .inl fh_5)), (a2, .inr (0, [.ref b2, .int (nI nr_5)])), (b2, .inl (cA, 2100, .inl fr_5)), (a3, .inr (0, [.ref b3, .int (nI nk_5)])), (b3, .inl (cA, 2100, .inl fk_5)), (m0, .inr (2, [.ref c1, .ref c2, .ref c3, .int (nI nh_5), .int (nI nr_5), .int (nI nk_5), .int fi_5, .int me_5])), (c1, .inl (cA, 2000, .inl eh_7)), (c2, .inl (cA, 2000, .inl er_7)), (c3, .inl (cA, 2000, .inl ek_7))] H := hP
    have hD : va_D (fun q : Nat => s.heap.size ≤ q) [(x0, .inr (1, [.ref a1, .ref a2, .ref a3, .int fi_5, .int me_5])), (a1, .inr (0, [.ref b1, .int (nI nh_5)])), (b1, .inl (cA, 2100, .inl fh_5)), (a2, .inr (0, [.ref b2, .int (nI nr_5)])), (b2, .inl (cA, 2100, .inl fr_5)), (a3, .inr (0, [.ref b3, .int (nI nk_5)])), (b3, .inl (cA, 2100, .inl fk_5)), (m0, .inr (2, [.ref c1, .ref c2, .ref c3, .int (nI nh_5), .int (nI nr_5), .int (nI nk_5), .int fi_5, .int me_5])), (c1, .inl (cA, 2000, .inl eh_7)), (c2, .inl (cA, 2000, .inl er_7)), (c3, .inl (cA, 2000, .inl ek_7))] := hD
    refine W.lcmp hx hb dL_law_662 ?_
    refine lv_if_eq (tgt := 899) hx hb dL_law_663 (by decide) (fun _ => ?_) (fun c_0 => absurd ((lg_cmp_eq _ _).mpr rfl) c_0)
    exact hk _ _ _ _ _ _ _ _ _ _ _ _ _ _ hI1 hh_5 hr_5 hk_5 hh_7 hr_7 hk_7 _ _ hP hD hS ls (lv_sub hl [0, 1, 2, 3] rfl)

set_option maxHeartbeats 4000000 in
set_option maxRecDepth 100000 in
theorem law_14 {p : Program} {l : Launch} {e : Env} {s : State} {m : MethodId} {below : List Frame} {meth : Method} {c : Code} {dC : Nat → ClassId} {dI : Nat → Nat → Nat} {b L x0 a1 b1 a2 b2 a3 b3 m0 c1 c2 c3 : Nat} {cA : ClassId} {xs : Nat → Int32} (hL : L ≤ 2048) (C0 : lw_At p s m meth c b L xs) (hK : va_K (dC, dI) vwCl [(cA, .int)] s) {i t : Nat} (ht : i = 4 * t) (hi : i + 4 ≤ L) (hk : lw_K p l e s m below meth c dC dI b x0 a1 b1 a2 b2 a3 b3 m0 c1 c2 c3 cA 899 i (t + 1)) : lw_K p l e s m below meth c dC dI b x0 a1 b1 a2 b2 a3 b3 m0 c1 c2 c3 cA 668 i t := by
  obtain ⟨hx, hb, hr, hml, hown, hts, hX, hbl, hlocks, hgv⟩ := id C0
  have hN := law_nest hts
  have hA : ∀ q : Nat, s.heap.size ≤ q → (fun q : Nat => s.heap.size ≤ q) q := fun _ h => h
  have hbA : ¬ (fun q : Nat => s.heap.size ≤ q) b := Nat.not_le.mpr hbl
  intro gh gr gk fh fr fk eh er ek nh nr nk fi me hI ha1 ha2 ha3 hb1 hb2 hb3 H locs hP hD hS ls hl
  obtain ⟨hn, hs, hF⟩ := id hI
  refine lv_aload_n hx hb dL_law_668 rfl (lv_at hl 1 rfl) ?_
  refine lv_aload_n hx hb dL_law_669 rfl (lv_at hl 0 rfl) ?_
  refine lv_iload_n hx hb dL_law_670 rfl (lv_at hl 3 rfl) ?_
  refine lv_iconst (v := 1) hx hb dL_law_671 (by decide) ?_
  refine lv_iadd hx hb dL_law_672 ?_
  refine q_top (y := nI (i + 1)) (nI_1 i) ?_
  refine q_sld (k := i + 1) hx hb hX hbl hbA hS (by omega) (by omega) dL_law_673 ?_
  have hPc := hP.sub (ws' := [(x0, .inr (1, [.ref a1, .ref a2, .ref a3, .int fi, .int me])), (a1, .inr (0, [.ref b1, .int (nI nh)])), (b1, .inl (cA, 2100, .inl fh)), (a2, .inr (0, [.ref b2, .int (nI nr)])), (b2, .inl (cA, 2100, .inl fr)), (a3, .inr (0, [.ref b3, .int (nI nk)])), (b3, .inl (cA, 2100, .inl fk))]) [0, 1, 2, 3, 4, 5, 6] rfl
  have hKc := hK.sub (tys' := [(cA, .int)]) [0] rfl
  refine q_cslE (va_runV (As := [.int (xs (i + 1))]) (rest := []) ⟨hx, hb, hml, hown, hts⟩ (c_Hall_chain l dC dI x0 a1 b1 a2 b2 a3 b3 nh nr nk cA fh gh fr gr fk gk fi me (xs (i + 1)) (by omega) ha1 ha2 ha3 hF) (cwV 1 hts gL_law_X1_chain_v rfl rfl rfl (by decide +kernel) ⟨Nat.le_of_ble_eq_true rfl, Nat.le_of_ble_eq_true rfl⟩) ⟨q_blRN, va_recv hKc hPc (ci := 1) (q0 := 0) rfl rfl, fun U hU hW => ⟨rfl, by rw [hU]; exact hPc, va_K.moved hW.alike hKc, hN.warm hW⟩⟩ rfl rfl hl.1 rfl (lv_room (Nat.le_of_ble_eq_true rfl)) dL_law_674 ⟨by decide +kernel, by decide +kernel⟩) ?_
  refine lv_aload_n hx hb dL_law_677 rfl (lv_at hl 2 rfl) ?_
  refine lv_aload_n hx hb dL_law_678 rfl (lv_at hl 0 rfl) ?_
  refine lv_iload_n hx hb dL_law_679 rfl (lv_at hl 3 rfl) ?_
  refine lv_iconst (v := 1) hx hb dL_law_680 (by decide) ?_
  refine lv_iadd hx hb dL_law_681 ?_
  refine q_top (y := nI (i + 1)) (nI_1 i) ?_
  refine q_sld (k := i + 1) hx hb hX hbl hbA hS (by omega) (by omega) dL_law_682 ?_
  have hPc := hP.sub (ws' := [(m0, .inr (2, [.ref c1, .ref c2, .ref c3, .int (nI nh), .int (nI nr), .int (nI nk), .int fi, .int me])), (c1, .inl (cA, 2000, .inl eh)), (c2, .inl (cA, 2000, .inl er)), (c3, .inl (cA, 2000, .inl ek))]) [7, 8, 9, 10] rfl
  have hKc := hK.sub (tys' := [(cA, .int)]) [0] rfl
  refine q_cslE (va_runV (As := [.int (xs (i + 1))]) (rest := [.long ((qChain (xs (i + 1)) ((gh, nh), (gr, nr), (gk, nk), fi, me)).1)]) ⟨hx, hb, hml, hown, hts⟩ (c_Mod_chain l dC dI m0 c1 c2 c3 nh nr nk cA eh gh er gr ek gk fi me (xs (i + 1)) (by omega) hb1 hb2 hb3 hF) (cwV 1 hts gL_law_X2_chain_v rfl rfl rfl (by decide +kernel) ⟨Nat.le_of_ble_eq_true rfl, Nat.le_of_ble_eq_true rfl⟩) ⟨q_blR, va_recv hKc hPc (ci := 2) (q0 := 0) rfl rfl, fun U hU hW => ⟨rfl, by rw [hU]; exact hPc, va_K.moved hW.alike hKc⟩⟩ rfl rfl hl.1 rfl (lv_room (Nat.le_of_ble_eq_true rfl)) dL_law_683 ⟨by decide +kernel, by decide +kernel⟩) ?_
  refine W.lcmp hx hb dL_law_686 ?_
  refine lv_if_eq (tgt := 899) hx hb dL_law_687 (by decide) (fun _ => ?_) (fun c_0 => absurd ((lg_cmp_eq _ _).mpr rfl) c_0)
  exact hk _ _ _ _ _ _ _ _ _ _ _ _ _ _ (qI_mono hI (by omega)) ha1 ha2 ha3 hb1 hb2 hb3 _ _ hP hD hS ls (lv_sub hl [0, 1, 2, 3] rfl)

