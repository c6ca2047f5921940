set_option maxHeartbeats 4000000 in
set_option maxRecDepth 100000 in
theorem law_0 {p : Program} {l : Launch} {e : Env} {s : State} {m : MethodId} {below : List Frame} {meth : Method} {c : Code} {dC : Nat → ClassId} {dI : Nat → Nat → Nat} {b L x0 a1 b1 a2 b2 a3 b3 m0 c1 c2 c3 : Nat} {cA : ClassId} {xs : Nat → Int32} (hL : L ≤ 2048) (C0 : lw_At p s m meth c b L xs) (hK : va_K (dC, dI) vwCl [(cA, .int)] s) {i t : Nat} (ht : i = 4 * t) (hi : i + 4 ≤ L) (hk : lw_K p l e s m below meth c dC dI b x0 a1 b1 a2 b2 a3 b3 m0 c1 c2 c3 cA 899 i (t + 1)) : lw_K p l e s m below meth c dC dI b x0 a1 b1 a2 b2 a3 b3 m0 c1 c2 c3 cA 140 i t := by
  obtain ⟨hx, hb, hr, hml, hown, hts, hX, hbl, hlocks, hgv⟩ := id C0
  have hN := law_nest hts
  have hA : ∀ q : Nat, s.heap.size ≤ q → (fun q : Nat => s.heap.size ≤ q) q := fun _ h => h
  have hbA : ¬ (fun q : Nat => s.heap.size ≤ q) b := Nat.not_le.mpr hbl
  intro gh gr gk fh fr fk eh er ek nh nr nk fi me hI ha1 ha2 ha3 hb1 hb2 hb3 H locs hP hD hS ls hl
  obtain ⟨hn, hs, hF⟩ := id hI
  refine lv_aload_n hx hb dL_law_140 rfl (lv_at hl 1 rfl) ?_
  refine lv_aload_n hx hb dL_law_141 rfl (lv_at hl 0 rfl) ?_
  refine lv_iload_n hx hb dL_law_142 rfl (lv_at hl 3 rfl) ?_
  refine lv_iconst (v := 1) hx hb dL_law_143 (by decide) ?_
  refine lv_iadd hx hb dL_law_144 ?_
  refine q_top (y := nI (i + 1)) (nI_1 i) ?_
  refine q_sld (k := i + 1) hx hb hX hbl hbA hS (by omega) (by omega) dL_law_145 ?_
  have hPc := hP.sub (ws' := [(x0, .inr (1, [.ref a1, .ref a2, .ref a3, .int fi, .int me])), (a1, .inr (0, [.ref b1, .int (nI nh)])), (b1, .inl (cA, 2100, .inl fh)), (a2, .inr (0, [.ref b2, .int (nI nr)])), (b2, .inl (cA, 2100, .inl fr)), (a3, .inr (0, [.ref b3, .int (nI nk)])), (b3, .inl (cA, 2100, .inl fk))]) [0, 1, 2, 3, 4, 5, 6] rfl
  have hKc := hK.sub (tys' := [(cA, .int)]) [0] rfl
  have hDc := hD.sub (ws' := [(x0, .inr (1, [.ref a1, .ref a2, .ref a3, .int fi, .int me])), (a1, .inr (0, [.ref b1, .int (nI nh)])), (b1, .inl (cA, 2100, .inl fh)), (a2, .inr (0, [.ref b2, .int (nI nr)])), (b2, .inl (cA, 2100, .inl fr)), (a3, .inr (0, [.ref b3, .int (nI nk)])), (b3, .inl (cA, 2100, .inl fk))]) [0, 1, 2, 3, 4, 5, 6] (by decide) rfl
  have hFc := va_free (wc := [(x0, .inr (1, [.ref a1, .ref a2, .ref a3, .int fi, .int me])), (a1, .inr (0, [.ref b1, .int (nI nh)])), (b1, .inl (cA, 2100, .inl fh)), (a2, .inr (0, [.ref b2, .int (nI nr)])), (b2, .inl (cA, 2100, .inl fr)), (a3, .inr (0, [.ref b3, .int (nI nk)])), (b3, .inl (cA, 2100, .inl fk))]) hD hS hA [0, 1, 2, 3, 4, 5, 6] rfl
  refine va_calli (va_runV (As := [.int (xs (i + 1))]) (rest := []) ⟨hx, hb, hml, hown, hts⟩ (c_Hall_enter l dC dI (H.size) x0 a1 b1 a2 b2 a3 b3 nh nr nk cA fh gh fr gr fk gk fi me (xs (i + 1)) (by omega) ha1 ha2 ha3 hF) (cwV 1 hts gL_law_X1_enter_v rfl rfl rfl (by decide +kernel) ⟨Nat.le_of_ble_eq_true rfl, Nat.le_of_ble_eq_true rfl⟩) ⟨q_blWN, va_recv hKc hPc (ci := 1) (q0 := 0) rfl rfl, fun U hU hW => ⟨rfl, by rw [hU], by rw [hU]; exact hPc, va_K.moved hW.alike hKc, hDc.weaken (fun _ _ _ _ => trivial), hN.warm hW⟩⟩ rfl rfl hl.1 rfl (lv_room (Nat.le_of_ble_eq_true rfl)) dL_law_146 ⟨by decide +kernel, by decide +kernel⟩) hS (fun q _ h => hFc q h) hFc (fun r_1 u_1 t_1 H1 locs ht hvm hw hB hz1 hk1 hS => ?_)
  obtain ⟨⟨gh_1, nh_1⟩, ⟨gr_1, nr_1⟩, ⟨gk_1, nk_1⟩, fi_1, me_1⟩ := u_1
  obtain ⟨fh_1, fr_1, fk_1, hh_1, hr_1, hk_1, hP1, hK1, hD1⟩ := hB
  rw [ht] at hP1
  obtain ⟨hP, hD⟩ := q_join (wr := [(m0, .inr (2, [.ref c1, .ref c2, .ref c3, .int (nI nh), .int (nI nr), .int (nI nk), .int fi, .int me])), (c1, .inl (cA, 2000, .inl eh)), (c2, .inl (cA, 2000, .inl er)), (c3, .inl (cA, 2000, .inl ek))]) (w1 := [(x0, .inr (1, [.ref a1, .ref a2, .ref a3, .int fi_1, .int me_1])), (a1, .inr (0, [.ref b1, .int (nI nh_1)])), (b1, .inl (cA, 2100, .inl fh_1)), (a2, .inr (0, [.ref b2, .int (nI nr_1)])), (b2, .inl (cA, 2100, .inl fr_1)), (a3, .inr (0, [.ref b3, .int (nI nk_1)])), (b3, .inl (cA, 2100, .inl fk_1))]) (wz := [(x0, .inr (1, [.ref a1, .ref a2, .ref a3, .int fi_1, .int me_1])), (a1, .inr (0, [.ref b1, .int (nI nh_1)])), (b1, .inl (cA, 2100, .inl fh_1)), (a2, .inr (0, [.ref b2, .int (nI nr_1)])), (b2, .inl (cA, 2100, .inl fr_1)), (a3, .inr (0, [.ref b3, .int (nI nk_1)])), (b3, .inl (cA, 2100, .inl fk_1)), (m0, .inr (2, [.ref c1, .ref c2, .ref c3, .int (nI nh), .int (nI nr), .int (nI nk), .int fi, .int me])), (c1, .inl (cA, 2000, .inl eh)), (c2, .inl (cA, 2000, .inl er)), (c3, .inl (cA, 2000, .inl ek))]) hP hD [0, 1, 2, 3, 4, 5, 6] [7, 8, 9, 10] [4, 5, 6, 7, 8, 9, 10, 0, 1, 2, 3] rfl rfl (by decide) (by decide) hk1 hFc hP1 hD1 rfl rfl (by decide)
  generalize H1 = H at hP hS ⊢
  have hw1 := hw
  refine lv_aload_n hx hb dL_law_149 rfl (lv_at hl 2 rfl) ?_
  refine lv_aload_n hx hb dL_law_150 rfl (lv_at hl 0 rfl) ?_
  refine lv_iload_n hx hb dL_law_151 rfl (lv_at hl 3 rfl) ?_
  refine lv_iconst (v := 1) hx hb dL_law_152 (by decide) ?_
  refine lv_iadd hx hb dL_law_153 ?_
  refine q_top (y := nI (i + 1)) (nI_1 i) ?_
  refine q_sld (k := i + 1) hx hb hX hbl hbA hS (by omega) (by omega) dL_law_154 ?_
  have hPc := hP.sub (ws' := [(m0, .inr (2, [.ref c1, .ref c2, .ref c3, .int (nI nh), .int (nI nr), .int (nI nk), .int fi, .int me])), (c1, .inl (cA, 2000, .inl eh)), (c2, .inl (cA, 2000, .inl er)), (c3, .inl (cA, 2000, .inl ek))]) [7, 8, 9, 10] rfl
  have hKc := hK.sub (tys' := [(cA, .int)]) [0] rfl
  have hDc := hD.sub (ws' := [(m0, .inr (2, [.ref c1, .ref c2, .ref c3, .int (nI nh), .int (nI nr), .int (nI nk), .int fi, .int me])), (c1, .inl (cA, 2000, .inl eh)), (c2, .inl (cA, 2000, .inl er)), (c3, .inl (cA, 2000, .inl ek))]) [7, 8, 9, 10] (by decide) rfl
  have hFc := va_free (wc := [(m0, .inr (2, [.ref c1, .ref c2, .ref c3, .int (nI nh), .int (nI nr), .int (nI nk), .int fi, .int me])), (c1, .inl (cA, 2000, .inl eh)), (c2, .inl (cA, 2000, .inl er)), (c3, .inl (cA, 2000, .inl ek))]) hD hS hA [7, 8, 9, 10] rfl
  refine va_calli (va_runV (As := [.int (xs (i + 1))]) (rest := [.int r_1]) ⟨hx, hb, hml, hown, hts⟩ (c_Mod_enter l dC dI (H.size) m0 c1 c2 c3 nh nr nk cA eh gh er gr ek gk fi me (xs (i + 1)) (by omega) hb1 hb2 hb3 hF hs) (cwV 1 hts gL_law_X2_enter_v rfl rfl rfl (by decide +kernel) ⟨Nat.le_of_ble_eq_true rfl, Nat.le_of_ble_eq_true rfl⟩) ⟨q_blW, va_recv hKc hPc (ci := 2) (q0 := 0) rfl rfl, fun U hU hW => ⟨rfl, by rw [hU], by rw [hU]; exact hPc, va_K.moved hW.alike hKc, hDc.weaken (fun _ _ _ _ => trivial)⟩⟩ rfl rfl hl.1 rfl (lv_room (Nat.le_of_ble_eq_true rfl)) dL_law_155 ⟨by decide +kernel, by decide +kernel⟩) hS (fun q _ h => hFc q h) hFc (fun r_2 u_2 t_2 H1 locs ht hvm hw hB hz1 hk1 hS => ?_)
  obtain ⟨⟨gh_2, nh_2⟩, ⟨gr_2, nr_2⟩, ⟨gk_2, nk_2⟩, fi_2, me_2⟩ := u_2
  obtain ⟨eh_2, er_2, ek_2, hh_2, hr_2, hk_2, hP1, hK1, hD1⟩ := hB
  rw [ht] at hP1
  obtain ⟨hP, hD⟩ := q_join (wr := [(x0, .inr (1, [.ref a1, .ref a2, .ref a3, .int fi_1, .int me_1])), (a1, .inr (0, [.ref b1, .int (nI nh_1)])), (b1, .inl (cA, 2100, .inl fh_1)), (a2, .inr (0, [.ref b2, .int (nI nr_1)])), (b2, .inl (cA, 2100, .inl fr_1)), (a3, .inr (0, [.ref b3, .int (nI nk_1)])), (b3, .inl (cA, 2100, .inl fk_1))]) (w1 := [(m0, .inr (2, [.ref c1, .ref c2, .ref c3, .int (nI nh_2), .int (nI nr_2), .int (nI nk_2), .int fi_2, .int me_2])), (c1, .inl (cA, 2000, .inl eh_2)), (c2, .inl (cA, 2000, .inl er_2)), (c3, .inl (cA, 2000, .inl ek_2))]) (wz := [(x0, .inr (1, [.ref a1, .ref a2, .ref a3, .int fi_1, .int me_1])), (a1, .inr (0, [.ref b1, .int (nI nh_1)])), (b1, .inl (cA, 2100, .inl fh_1)), (a2, .inr (0, [.ref b2, .int (nI nr_1)])), (b2, .inl (cA, 2100, .inl fr_1)), (a3, .inr (0, [.ref b3, .int (nI nk_1)])), (b3, .inl (cA, 2100, .inl fk_1)), (m0, .inr (2, [.ref c1, .ref c2, .ref c3, .int (nI nh_2), .int (nI nr_2), .int (nI nk_2), .int fi_2, .int me_2])), (c1, .inl (cA, 2000, .inl eh_2)), (c2, .inl (cA, 2000, .inl er_2)), (c3, .inl (cA, 2000, .inl ek_2))]) hP hD [7, 8, 9, 10] [0, 1, 2, 3, 4, 5, 6] [0, 1, 2, 3, 4, 5, 6, 7, 8, 9, 10] rfl rfl (by decide) (by decide) hk1 hFc hP1 hD1 rfl rfl (by decide)
  generalize H1 = H at hP hS ⊢
  have hI1 : qInv (t + 1) (qEnter (xs (i + 1)) ((gh, nh), (gr, nr), (gk, nk), fi, me)).2 := qI_enter hI (by omega)
  rw [← hw1] at hI1
  have he := hw1.trans hw.symm
  simp only [Prod.mk.injEq] at he
  obtain ⟨rfl, ⟨rfl, rfl⟩, ⟨rfl, rfl⟩, ⟨rfl, rfl⟩, rfl, rfl⟩ := he
  have hP : va_P (dC, dI) vwCl [(x0, .inr (1, [.ref a1, .ref a2, .ref a3, .int fi_1, .int me_1])), (a1, .inr (0, [.ref b1, .int (nI nh_1)])), (b1, .inl (cA, 2100, .inl fh_1)), (a2, .inr (0, [.ref b2, .int (nI nr_1)])), (b2, .inl (cA, 2100, .inl fr_1)), (a3, .inr (0, [.ref b3, .int (nI nk_1)])), (b3, .inl (cA, 2100, .inl fk_1)), (m0, .inr (2, [.ref c1, .ref c2, .ref c3, .int (nI nh_1), .int (nI nr_1), .int (nI nk_1), .int fi_1, .int me_1])), (c1, .inl (cA, 2000, .inl eh_2)), (c2, .inl (cA, 2000, .inl er_2)), (c3, .inl (cA, 2000, .inl ek_2))] H := hP
  have hD : va_D (fun q : Nat => s.heap.size ≤ q) [(x0, .inr (1, [.ref a1, .ref a2, .ref a3, .int fi_1, .int me_1])), (a1, .inr (0, [.ref b1, .int (nI nh_1)])), (b1, .inl (cA, 2100, .inl fh_1)), (a2, .inr (0, [.ref b2, .int (nI nr_1)])), (b2, .inl (cA, 2100, .inl fr_1)), (a3, .inr (0, [.ref b3, .int (nI nk_1)])), (b3, .inl (cA, 2100, .inl fk_1)), (m0, .inr (2, [.ref c1, .ref c2, .ref c3, .int (nI nh_1), .int (nI nr_1), .int (nI nk_1), .int fi_1, .int me_1])), (c1, .inl (cA, 2000, .inl eh_2)), (c2, .inl (cA, 2000, .inl er_2)), (c3, .inl (cA, 2000, .inl ek_2))] := hD
  refine lv_icmp_eq (tgt := 899) hx hb dL_law_158 (by decide) (fun c_3 => ?_) (fun c_0 => absurd (show r_1 = r_1 from rfl) c_0)
  exact hk _ _ _ _ _ _ _ _ _ _ _ _ _ _ hI1 hh_1 hr_1 hk_1 hh_2 hr_2 hk_2 _ _ hP hD hS ls (lv_sub hl [0, 1, 2, 3] rfl)

set_option maxHeartbeats 4000000 in
set_option maxRecDepth 100000 in
theorem law_1 {p : Program} {l : Launch} {e : Env} {s : State} {m : MethodId} {below : List Frame} {meth : Method} {c : Code} {dC : Nat → ClassId} {dI : Nat → Nat → Nat} {b L x0 a1 b1 a2 b2 a3 b3 m0 c1 c2 c3 : Nat} {cA : ClassId} {xs : Nat → Int32} (hL : L ≤ 2048) (C0 : lw_At p s m meth c b L xs) (hK : va_K (dC, dI) vwCl [(cA, .int)] s) {i t : Nat} (ht : i = 4 * t) (hi : i + 4 ≤ L) (hk : lw_K p l e s m below meth c dC dI b x0 a1 b1 a2 b2 a3 b3 m0 c1 c2 c3 cA 899 i (t + 1)) : lw_K p l e s m below meth c dC dI b x0 a1 b1 a2 b2 a3 b3 m0 c1 c2 c3 cA 163 i t := by
  obtain ⟨hx, hb, hr, hml, hown, hts, hX, hbl, hlocks, hgv⟩ := id C0
  have hN := law_nest hts
  have hA : ∀ q : Nat, s.heap.size ≤ q → (fun q : Nat => s.heap.size ≤ q) q := fun _ h => h
  have hbA : ¬ (fun q : Nat => s.heap.size ≤ q) b := Nat.not_le.mpr hbl
  intro gh gr gk fh fr fk eh er ek nh nr nk fi me hI ha1 ha2 ha3 hb1 hb2 hb3 H locs hP hD hS ls hl
  obtain ⟨hn, hs, hF⟩ := id hI
  refine lv_aload_n hx hb dL_law_163 rfl (lv_at hl 1 rfl) ?_
  refine lv_aload_n hx hb dL_law_164 rfl (lv_at hl 0 rfl) ?_
  refine lv_iload_n hx hb dL_law_165 rfl (lv_at hl 3 rfl) ?_
  refine lv_iconst (v := 1) hx hb dL_law_166 (by decide) ?_
  refine lv_iadd hx hb dL_law_167 ?_
  refine q_top (y := nI (i + 1)) (nI_1 i) ?_
  refine q_sld (k := i + 1) hx hb hX hbl hbA hS (by omega) (by omega) dL_law_168 ?_
  refine lv_if_eq (tgt := 176) hx hb dL_law_169 (by decide) (fun c_1 => ?_) (fun c_1 => ?_)
  · refine lv_iconst (v := 0) hx hb dL_law_176 (by decide) ?_
    have hPc := hP.sub (ws' := [(x0, .inr (1, [.ref a1, .ref a2, .ref a3, .int fi, .int me])), (a1, .inr (0, [.ref b1, .int (nI nh)])), (b1, .inl (cA, 2100, .inl fh)), (a2, .inr (0, [.ref b2, .int (nI nr)])), (b2, .inl (cA, 2100, .inl fr)), (a3, .inr (0, [.ref b3, .int (nI nk)])), (b3, .inl (cA, 2100, .inl fk))]) [0, 1, 2, 3, 4, 5, 6] rfl
    have hKc := hK.sub (tys' := [(cA, .int)]) [0] rfl
    have hDc := hD.sub (ws' := [(x0, .inr (1, [.ref a1, .ref a2, .ref a3, .int fi, .int me])), (a1, .inr (0, [.ref b1, .int (nI nh)])), (b1, .inl (cA, 2100, .inl fh)), (a2, .inr (0, [.ref b2, .int (nI nr)])), (b2, .inl (cA, 2100, .inl fr)), (a3, .inr (0, [.ref b3, .int (nI nk)])), (b3, .inl (cA, 2100, .inl fk))]) [0, 1, 2, 3, 4, 5, 6] (by decide) rfl
    have hFc := va_free (wc := [(x0, .inr (1, [.ref a1, .ref a2, .ref a3, .int fi, .int me])), (a1, .inr (0, [.ref b1, .int (nI nh)])), (b1, .inl (cA, 2100, .inl fh)), (a2, .inr (0, [.ref b2, .int (nI nr)])), (b2, .inl (cA, 2100, .inl fr)), (a3, .inr (0, [.ref b3, .int (nI nk)])), (b3, .inl (cA, 2100, .inl fk))]) hD hS hA [0, 1, 2, 3, 4, 5, 6] rfl
    refine va_calll (va_runV (As := [.int 0]) (rest := []) ⟨hx, hb, hml, hown, hts⟩ (c_Hall_call l dC dI (H.size) x0 a1 b1 a2 b2 a3 b3 nh nr nk cA fh gh fr gr fk gk fi me 0 (by omega) ha1 ha2 ha3 hF) (cwV 1 hts gL_law_X1_call_v rfl rfl rfl (by decide +kernel) ⟨Nat.le_of_ble_eq_true rfl, Nat.le_of_ble_eq_true rfl⟩) ⟨q_blWN, va_recv hKc hPc (ci := 1) (q0 := 0) rfl rfl, fun U hU hW => ⟨rfl, by rw [hU], by rw [hU]; exact hPc, va_K.moved hW.alike hKc, hDc.weaken (fun _ _ _ _ => trivial), hN.warm hW⟩⟩ rfl rfl hl.1 rfl (lv_room (Nat.le_of_ble_eq_true rfl)) dL_law_177 ⟨by decide +kernel, by decide +kernel⟩) hS (fun q _ h => hFc q h) hFc (fun r_2 u_2 t_2 H1 locs ht hvm hw hB hz1 hk1 hS => ?_)
    obtain ⟨⟨gh_2, nh_2⟩, ⟨gr_2, nr_2⟩, ⟨gk_2, nk_2⟩, fi_2, me_2⟩ := u_2
    obtain ⟨fh_2, fr_2, fk_2, hh_2, hr_2, hk_2, hP1, hK1, hD1⟩ := hB
    rw [ht] at hP1
    obtain ⟨hP, hD⟩ := q_join (wr := [(m0, .inr (2, [.ref c1, .ref c2, .ref c3, .int (nI nh), .int (nI nr), .int (nI nk), .int fi, .int me])), (c1, .inl (cA, 2000, .inl eh)), (c2, .inl (cA, 2000, .inl er)), (c3, .inl (cA, 2000, .inl ek))]) (w1 := [(x0, .inr (1, [.ref a1, .ref a2, .ref a3, .int fi_2, .int me_2])), (a1, .inr (0, [.ref b1, .int (nI nh_2)])), (b1, .inl (cA, 2100, .inl fh_2)), (a2, .inr (0, [.ref b2, .int (nI nr_2)])), (b2, .inl (cA, 2100, .inl fr_2)), (a3, .inr (0, [.ref b3, .int (nI nk_2)])), (b3, .inl (cA, 2100, .inl fk_2))]) (wz := [(x0, .inr (1, [.ref a1, .ref a2, .ref a3, .int fi_2, .int me_2])), (a1, .inr (0, [.ref b1, .int (nI nh_2)])), (b1, .inl (cA, 2100, .inl fh_2)), (a2, .inr (0, [.ref b2, .int (nI nr_2)])), (b2, .inl (cA, 2100, .inl fr_2)), (a3, .inr (0, [.ref b3, .int (nI nk_2)])), (b3, .inl (cA, 2100, .inl fk_2)), (m0, .inr (2, [.ref c1, .ref c2, .ref c3, .int (nI nh), .int (nI nr), .int (nI nk), .int fi, .int me])), (c1, .inl (cA, 2000, .inl eh)), (c2, .inl (cA, 2000, .inl er)), (c3, .inl (cA, 2000, .inl ek))]) hP hD [0, 1, 2, 3, 4, 5, 6] [7, 8, 9, 10] [4, 5, 6, 7, 8, 9, 10, 0, 1, 2, 3] rfl rfl (by decide) (by decide) hk1 hFc hP1 hD1 rfl rfl (by decide)
    generalize H1 = H at hP hS ⊢
    have hw1 := hw
    refine lv_aload_n hx hb dL_law_180 rfl (lv_at hl 2 rfl) ?_
    refine lv_aload_n hx hb dL_law_181 rfl (lv_at hl 0 rfl) ?_
    refine lv_iload_n hx hb dL_law_182 rfl (lv_at hl 3 rfl) ?_
    refine lv_iconst (v := 1) hx hb dL_law_183 (by decide) ?_
    refine lv_iadd hx hb dL_law_184 ?_
    refine q_top (y := nI (i + 1)) (nI_1 i) ?_
    refine q_sld (k := i + 1) hx hb hX hbl hbA hS (by omega) (by omega) dL_law_185 ?_
    refine lv_if_eq (tgt := 193) hx hb dL_law_186 (by decide) (fun c_3 => ?_) (fun c_0 => absurd (show (xs (i + 1)) = (0 : Int32) from c_1) c_0)
    refine lv_iconst (v := 0) hx hb dL_law_193 (by decide) ?_
    have hPc := hP.sub (ws' := [(m0, .inr (2, [.ref c1, .ref c2, .ref c3, .int (nI nh), .int (nI nr), .int (nI nk), .int fi, .int me])), (c1, .inl (cA, 2000, .inl eh)), (c2, .inl (cA, 2000, .inl er)), (c3, .inl (cA, 2000, .inl ek))]) [7, 8, 9, 10] rfl
    have hKc := hK.sub (tys' := [(cA, .int)]) [0] rfl
    have hDc := hD.sub (ws' := [(m0, .inr (2, [.ref c1, .ref c2, .ref c3, .int (nI nh), .int (nI nr), .int (nI nk), .int fi, .int me])), (c1, .inl (cA, 2000, .inl eh)), (c2, .inl (cA, 2000, .inl er)), (c3, .inl (cA, 2000, .inl ek))]) [7, 8, 9, 10] (by decide) rfl
    have hFc := va_free (wc := [(m0, .inr (2, [.ref c1, .ref c2, .ref c3, .int (nI nh), .int (nI nr), .int (nI nk), .int fi, .int me])), (c1, .inl (cA, 2000, .inl eh)), (c2, .inl (cA, 2000, .inl er)), (c3, .inl (cA, 2000, .inl ek))]) hD hS hA [7, 8, 9, 10] rfl
    refine va_calll (va_runV (As := [.int 0]) (rest := [.long r_2]) ⟨hx, hb, hml, hown, hts⟩ (c_Mod_call l dC dI (H.size) m0 c1 c2 c3 nh nr nk cA eh gh er gr ek gk fi me 0 (by omega) hb1 hb2 hb3 hF) (cwV 1 hts gL_law_X2_call_v rfl rfl rfl (by decide +kernel) ⟨Nat.le_of_ble_eq_true rfl, Nat.le_of_ble_eq_true rfl⟩) ⟨q_blW, va_recv hKc hPc (ci := 2) (q0 := 0) rfl rfl, fun U hU hW => ⟨rfl, by rw [hU], by rw [hU]; exact hPc, va_K.moved hW.alike hKc, hDc.weaken (fun _ _ _ _ => trivial)⟩⟩ rfl rfl hl.1 rfl (lv_room (Nat.le_of_ble_eq_true rfl)) dL_law_194 ⟨by decide +kernel, by decide +kernel⟩) hS (fun q _ h => hFc q h) hFc (fun r_4 u_4 t_4 H1 locs ht hvm hw hB hz1 hk1 hS => ?_)
    obtain ⟨⟨gh_4, nh_4⟩, ⟨gr_4, nr_4⟩, ⟨gk_4, nk_4⟩, fi_4, me_4⟩ := u_4
    obtain ⟨eh_4, er_4, ek_4, hh_4, hr_4, hk_4, hP1, hK1, hD1⟩ := hB
    rw [ht] at hP1
    obtain ⟨hP, hD⟩ := q_join (wr := [(x0, .inr (1, [.ref a1, .ref a2, .ref a3, .int fi_2, .int me_2])), (a1, .inr (0, [.ref b1, .int (nI nh_2)])), (b1, .inl (cA, 2100, .inl fh_2)), (a2, .inr (0, [.ref b2, .int (nI nr_2)])), (b2, .inl (cA, 2100, .inl fr_2)), (a3, .inr (0, [.ref b3, .int (nI nk_2)])), (b3, .inl (cA, 2100, .inl fk_2))]) (w1 := [(m0, .inr (2, [.ref c1, .ref c2, .ref c3, .int (nI nh_4), .int (nI nr_4), .int (nI nk_4), .int fi_4, .int me_4])), (c1, .inl (cA, 2000, .inl eh_4)), (c2, .inl (cA, 2000, .inl er_4)), (c3, .inl (cA, 2000, .inl ek_4))]) (wz := [(x0, .inr (1, [.ref a1, .ref a2, .ref a3, .int fi_2, .int me_2])), (a1, .inr (0, [.ref b1, .int (nI nh_2)])), (b1, .inl (cA, 2100, .inl fh_2)), (a2, .inr (0, [.ref b2, .int (nI nr_2)])), (b2, .inl (cA, 2100, .inl fr_2)), (a3, .inr (0, [.ref b3, .int (nI nk_2)])), (b3, .inl (cA, 2100, .inl fk_2)), (m0, .inr (2, [.ref c1, .ref c2, .ref c3, .int (nI nh_4), .int (nI nr_4), .int (nI nk_4), .int fi_4, .int me_4])), (c1, .inl (cA, 2000, .inl eh_4)), (c2, .inl (cA, 2000, .inl er_4)), (c3, .inl (cA, 2000, .inl ek_4))]) hP hD [7, 8, 9, 10] [0, 1, 2, 3, 4, 5, 6] [0, 1, 2, 3, 4, 5, 6, 7, 8, 9, 10] rfl rfl (by decide) (by decide) hk1 hFc hP1 hD1 rfl rfl (by decide)
    generalize H1 = H at hP hS ⊢
    have hI1 : qInv (t + 1) (qCall 0 ((gh, nh), (gr, nr), (gk, nk), fi, me)).2 := qI_call hI (by omega)
    rw [← hw1] at hI1
    have he := hw1.trans hw.symm
    simp only [Prod.mk.injEq] at he
    obtain ⟨rfl, ⟨rfl, rfl⟩, ⟨rfl, rfl⟩, ⟨rfl, rfl⟩, rfl, rfl⟩ := he
    have hP : va_P (dC, dI) vwCl [(x0, .inr (1, [.ref a1, .ref a2, .ref a3, .int fi_2, .int me_2])), (a1, .inr (0, [.ref b1, .int (nI nh_2)])), (b1, .inl (cA, 2100, .inl fh_2)), (a2, .inr (0, [.ref b2, .int (nI nr_2)])), (b2, .inl (cA, 2100, .inl fr_2)), (a3, .inr (0, [.ref b3, .int (nI nk_2)])), (b3, .inl (cA, 2100, .inl fk_2)), (m0, .inr (2, [.ref c1, .ref c2, .ref c3, .int (nI nh_2), .int (nI nr_2), .int (nI nk_2), .int fi_2, .int me_2])), (c1, .inl (cA, 2000, .inl eh_4)), (c2, .inl (cA, 2000, .inl er_4)), (c3, .inl (cA, 2000, .inl ek_4))] H := hP
    have hD : va_D (fun q : Nat => s.heap.size ≤ q) [(x0, .inr (1, [.ref a1, .ref a2, .ref a3, .int fi_2, .int me_2])), (a1, .inr (0, [.ref b1, .int (nI nh_2)])), (b1, .inl (cA, 2100, .inl fh_2)), (a2, .inr (0, [.ref b2, .int (nI nr_2)])), (b2, .inl (cA, 2100, .inl fr_2)), (a3, .inr (0, [.ref b3, .int (nI nk_2)])), (b3, .inl (cA, 2100, .inl fk_2)), (m0, .inr (2, [.ref c1, .ref c2, .ref c3, .int (nI nh_2), .int (nI nr_2), .int (nI nk_2), .int fi_2, .int me_2])), (c1, .inl (cA, 2000, .inl eh_4)), (c2, .inl (cA, 2000, .inl er_4)), (c3, .inl (cA, 2000, .inl ek_4))] := hD
    refine W.lcmp hx hb dL_law_197 ?_
    refine lv_if_eq (tgt := 899) hx hb dL_law_198 (by decide) (fun _ => ?_) (fun c_0 => absurd ((lg_cmp_eq _ _).mpr rfl) c_0)
    exact hk _ _ _ _ _ _ _ _ _ _ _ _ _ _ hI1 hh_2 hr_2 hk_2 hh_4 hr_4 hk_4 _ _ hP hD hS ls (lv_sub hl [0, 1, 2, 3] rfl)
  · refine lv_iconst (v := 1) hx hb dL_law_172 (by decide) ?_
    refine lv_goto (tgt := 177) hx hb dL_law_173 (by decide) ?_
    have hPc := hP.sub (ws' := [(x0, .inr (1, [.ref a1, .ref a2, .ref a3, .int fi, .int me])), (a1, .inr (0, [.ref b1, .int (nI nh)])), (b1, .inl (cA, 2100, .inl fh)), (a2, .inr (0, [.ref b2, .int (nI nr)])), (b2, .inl (cA, 2100, .inl fr)), (a3, .inr (0, [.ref b3, .int (nI nk)])), (b3, .inl (cA, 2100, .inl fk))]) [0, 1, 2, 3, 4, 5, 6] rfl
    have hKc := hK.sub (tys' := [(cA, .int)]) [0] rfl
    have hDc := hD.sub (ws' := [(x0, .inr (1, [.ref a1, .ref a2, .ref a3, .int fi, .int me])), (a1, .inr (0, [.ref b1, .int (nI nh)])), (b1, .inl (cA, 2100, .inl fh)), (a2, .inr (0, [.ref b2, .int (nI nr)])), (b2, .inl (cA, 2100, .inl fr)), (a3, .inr (0, [.ref b3, .int (nI nk)])), (b3, .inl (cA, 2100, .inl fk))]) [0, 1, 2, 3, 4, 5, 6] (by decide) rfl
    have hFc := va_free (wc := [(x0, .inr (1, [.ref a1, .ref a2, .ref a3, .int fi, .int me])), (a1, .inr (0, [.ref b1, .int (nI nh)])), (b1, .inl (cA, 2100, .inl fh)), (a2, .inr (0, [.ref b2, .int (nI nr)])), (b2, .inl (cA, 2100, .inl fr)), (a3, .inr (0, [.ref b3, .int (nI nk)])), (b3, .inl (cA, 2100, .inl fk))]) hD hS hA [0, 1, 2, 3, 4, 5, 6] rfl
    refine va_calll (va_runV (As := [.int 1]) (rest := []) ⟨hx, hb, hml, hown, hts⟩ (c_Hall_call l dC dI (H.size) x0 a1 b1 a2 b2 a3 b3 nh nr nk cA fh gh fr gr fk gk fi me 1 (by omega) ha1 ha2 ha3 hF) (cwV 1 hts gL_law_X1_call_v rfl rfl rfl (by decide +kernel) ⟨Nat.le_of_ble_eq_true rfl, Nat.le_of_ble_eq_true rfl⟩) ⟨q_blWN, va_recv hKc hPc (ci := 1) (q0 := 0) rfl rfl, fun U hU hW => ⟨rfl, by rw [hU], by rw [hU]; exact hPc, va_K.moved hW.alike hKc, hDc.weaken (fun _ _ _ _ => trivial), hN.warm hW⟩⟩ rfl rfl hl.1 rfl (lv_room (Nat.le_of_ble_eq_true rfl)) dL_law_177 ⟨by decide +kernel, by decide +kernel⟩) hS (fun q _ h => hFc q h) hFc (fun r_5 u_5 t_5 H1 locs ht hvm hw hB hz1 hk1 hS => ?_)
    obtain ⟨⟨gh_5, nh_5⟩, ⟨gr_5, nr_5⟩, ⟨gk_5, nk_5⟩, fi_5, me_5⟩ := u_5
    obtain ⟨fh_5, fr_5, fk_5, hh_5, hr_5, hk_5, hP1, hK1, hD1⟩ := hB
    rw [ht] at hP1
    obtain ⟨hP, hD⟩ := q_join (wr := [(m0, .inr (2, [.ref c1, .ref c2, .ref c3, .int (nI nh), .int (nI nr), .int (nI nk), .int fi, .int me])), (c1, .inl (cA, 2000, .inl eh)), (c2, .inl (cA, 2000, .inl er)), (c3, .inl (cA, 2000, .inl ek))]) (w1 := [(x0, .inr (1, [.ref a1, .ref a2, .ref a3, .int fi_5, .int me_5])), (a1, .inr (0, [.ref b1, .int (nI nh_5)])), (b1, .inl (cA, 2100, .inl fh_5)), (a2, .inr (0, [.ref b2, .int (nI nr_5)])), (b2, .inl (cA, 2100, .inl fr_5)), (a3, .inr (0, [.ref b3, .int (nI nk_5)])), (b3, .inl (cA, 2100, .inl fk_5))]) (wz := [(x0, .inr (1, [.ref a1, .ref a2, .ref a3, .int fi_5, .int me_5])), (a1, .inr (0, [.ref b1, .int (nI nh_5)])), (b1, .inl (cA, 2100, .inl fh_5)), (a2, .inr (0, [.ref b2, .int (nI nr_5)])), (b2, .inl (cA, 2100, .inl fr_5)), (a3, .inr (0, [.ref b3, .int (nI nk_5)])), (b3, .inl (cA, 2100, .inl fk_5)), (m0, .inr (2, [.ref c1, .ref c2, .ref c3, .int (nI nh), .int (nI nr), .int (nI nk), .int fi, .int me])), (c1, .inl (cA, 2000, .inl eh)), (c2, .inl (cA, 2000, .inl er)), (c3, .inl (cA, 2000, .inl ek))]) hP hD [0, 1, 2, 3, 4, 5, 6] [7, 8, 9, 10] [4, 5, 6, 7, 8, 9, 10, 0, 1, 2, 3] rfl rfl (by decide) (by decide) hk1 hFc hP1 hD1 rfl rfl (by decide)
    generalize H1 = H at hP hS ⊢
    have hw1 := hw
    refine lv_aload_n hx hb dL_law_180 rfl (lv_at hl 2 rfl) ?_
    refine lv_aload_n hx hb dL_law_181 rfl (lv_at hl 0 rfl) ?_
    refine lv_iload_n hx hb dL_law_182 rfl (lv_at hl 3 rfl) ?_
    refine lv_iconst (v := 1) hx hb dL_law_183 (by decide) ?_
    refine lv_iadd hx hb dL_law_184 ?_
    refine q_top (y := nI (i + 1)) (nI_1 i) ?_
    refine q_sld (k := i + 1) hx hb hX hbl hbA hS (by omega) (by omega) dL_law_185 ?_
    refine lv_if_eq (tgt := 193) hx hb dL_law_186 (by decide) (fun c_0 => absurd c_0 (show ¬ (xs (i + 1)) = (0 : Int32) from c_1)) (fun c_6 => ?_)
    refine lv_iconst (v := 1) hx hb dL_law_189 (by decide) ?_
    refine lv_goto (tgt := 194) hx hb dL_law_190 (by decide) ?_
    have hPc := hP.sub (ws' := [(m0, .inr (2, [.ref c1, .ref c2, .ref c3, .int (nI nh), .int (nI nr), .int (nI nk), .int fi, .int me])), (c1, .inl (cA, 2000, .inl eh)), (c2, .inl (cA, 2000, .inl er)), (c3, .inl (cA, 2000, .inl ek))]) [7, 8, 9, 10] rfl
    have hKc := hK.sub (tys' := [(cA, .int)]) [0] rfl
    have hDc := hD.sub (ws' := [(m0, .inr (2, [.ref c1, .ref c2, .ref c3, .int (nI nh), .int (nI nr), .int (nI nk), .int fi, .int me])), (c1, .inl (cA, 2000, .inl eh)), (c2, .inl (cA, 2000, .inl er)), (c3, .inl (cA, 2000, .inl ek))]) [7, 8, 9, 10] (by decide) rfl
    have hFc := va_free (wc := [(m0, .inr (2, [.ref c1, .ref c2, .ref c3, .int (nI nh), .int (nI nr), .int (nI nk), .int fi, .int me])), (c1, .inl (cA, 2000, .inl eh)), (c2, .inl (cA, 2000, .inl er)), (c3, .inl (cA, 2000, .inl ek))]) hD hS hA [7, 8, 9, 10] rfl
    refine va_calll (va_runV (As := [.int 1]) (rest := [.long r_5]) ⟨hx, hb, hml, hown, hts⟩ (c_Mod_call l dC dI (H.size) m0 c1 c2 c3 nh nr nk cA eh gh er gr ek gk fi me 1 (by omega) hb1 hb2 hb3 hF) (cwV 1 hts gL_law_X2_call_v rfl rfl rfl (by decide +kernel) ⟨Nat.le_of_ble_eq_true rfl, Nat.le_of_ble_eq_true rfl⟩) ⟨q_blW, va_recv hKc hPc (ci := 2) (q0 := 0) rfl rfl, fun U hU hW => ⟨rfl, by rw [hU], by rw [hU]; exact hPc, va_K.moved hW.alike hKc, hDc.weaken (fun _ _ _ _ => trivial)⟩⟩ rfl rfl hl.1 rfl (lv_room (Nat.le_of_ble_eq_true rfl)) dL_law_194 ⟨by decide +kernel, by decide +kernel⟩) hS (fun q _ h => hFc q h) hFc (fun r_7 u_7 t_7 H1 locs ht hvm hw hB hz1 hk1 hS => ?_)
    obtain ⟨⟨gh_7, nh_7⟩, ⟨gr_7, nr_7⟩, ⟨gk_7, nk_7⟩, fi_7, me_7⟩ := u_7
    obtain ⟨eh_7, er_7, ek_7, hh_7, hr_7, hk_7, hP1, hK1, hD1⟩ := hB
    rw [ht] at hP1
    obtain ⟨hP, hD⟩ := q_join (wr := [(x0, .inr (1, [.ref a1, .ref a2, .ref a3, .int fi_5, .int me_5])), (a1, .inr (0, [.ref b1, .int (nI nh_5)])), (b1, .inl (cA, 2100, .inl fh_5)), (a2, .inr (0, [.ref b2, .int (nI nr_5)])), (b2, .inl (cA, 2100, .inl fr_5)), (a3, .inr (0, [.ref b3, .int (nI nk_5)])), (b3, .inl (cA, 2100, .inl fk_5))]) (w1 := [(m0, .inr (2, [.ref c1, .ref c2, .ref c3, .int (nI nh_7), .int (nI nr_7), .int (nI nk_7), .int fi_7, .int me_7])), (c1, .inl (cA, 2000, .inl eh_7)), (c2, .inl (cA, 2000, .inl er_7)), (c3, .inl (cA, 2000, .inl ek_7))]) (wz := [(x0, .inr (1, [.ref a1, .ref a2, .ref a3, .int fi_5, .int me_5])), (a1, .inr (0, [.ref b1, .int (nI nh_5)])), (b1, .inl (cA, 2100, .inl fh_5)), (a2, .inr (0, [.ref b2, .int (nI nr_5)])), (b2, .inl (cA, 2100, .inl fr_5)), (a3, .inr (0, [.ref b3, .int (nI nk_5)])), (b3, .inl (cA, 2100, .inl fk_5)), (m0, .inr (2, [.ref c1, .ref c2, .ref c3, .int (nI nh_7), .int (nI nr_7), .int (nI nk_7), .int fi_7, .int me_7])), (c1, .inl (cA, 2000, .inl eh_7)), (c2, .inl (cA, 2000, .inl er_7)), (c3, .inl (cA, 2000, .inl ek_7))]) hP hD [7, 8, 9, 10] [0, 1, 2, 3, 4, 5, 6] [0, 1, 2, 3, 4, 5, 6, 7, 8, 9, 10] rfl rfl (by decide) (by decide) hk1 hFc hP1 hD1 rfl rfl (by decide)
    generalize H1 = H at hP hS ⊢
    have hI1 : qInv (t + 1) (qCall 1 ((gh, nh), (gr, nr), (gk, nk), fi, me)).2 := qI_call hI (by omega)
    rw [← hw1] at hI1
    have he := hw1.trans hw.symm
    simp only [Prod.mk.injEq] at he
    obtain ⟨rfl, ⟨rfl, rfl⟩, ⟨rfl, rfl⟩, ⟨rfl, rfl⟩, rfl, rfl⟩ := he
    have hP : va_P (dC, dI) vwCl [(x0, .inr (1, [.ref a1, .ref a2, .ref a3, .int fi_5, .int me_5])), (a1, .inr (0, [.ref b1, .int (nI nh_5)])), (b1, .inl (cA, 2100, .inl fh_5)), (a2, .inr (0, [.ref b2, .int (nI nr_5)])), (b2, .inl (cA, 2100, .inl fr_5)), (a3, .inr (0, [.ref b3, .int (nI nk_5)])), (b3, .inl (cA, 2100, .inl fk_5)), (m0, .inr (2, [.ref c1, .ref c2, .ref c3, .int (nI nh_5), .int (nI nr_5), .int (nI nk_5), .int fi_5, .int me_5])), (c1, .inl (cA, 2000, .inl eh_7)), (c2, .inl (cA, 2000, .inl er_7)), (c3, .inl (cA, 2000, .inl ek_7))] H := hP
    have hD : va_D (fun q : Nat => s.heap.size ≤ q) [(x0, .inr (1, [.ref a1, .ref a2, .ref a3, .int fi_5, .int me_5])), (a1, .inr (0, [.ref b1, .int (nI nh_5)])), (b1, .inl (cA, 2100, .inl fh_5)), (a2, .inr (0, [.ref b2, .int (nI nr_5)])), (b2, .inl (cA, 2100, .inl fr_5)), (a3, .inr (0, [.ref b3, .int (nI nk_5)])), (b3, .inl (cA, 2100, .inl fk_5)), (m0, .inr (2, [.ref c1, .ref c2, .ref c3, .int (nI nh_5), .int (nI nr_5), .int (nI nk_5), .int fi_5, .int me_5])), (c1, .inl (cA, 2000, .inl eh_7)), (c2, .inl (cA, 2000, .inl er_7)), (c3, .inl (cA, 2000, .inl ek_7))] := hD
    refine W.lcmp hx hb dL_law_197 ?_
    refine lv_if_eq (tgt := 899) hx hb dL_law_198 (by decide) (fun _ => ?_) (fun c_0 => absurd ((lg_cmp_eq _ _).mpr rfl) c_0)
    exact hk _ _ _ _ _ _ _ _ _ _ _ _ _ _ hI1 hh_5 hr_5 hk_5 hh_7 hr_7 hk_7 _ _ hP hD hS ls (lv_sub hl [0, 1, 2, 3] rfl)

set_option maxHeartbeats 4000000 in
set_option maxRecDepth 100000 in
theorem law_2 {p : Program} {l : Launch} {e : Env} {s : State} {m : MethodId} {below : List Frame} {meth : Method} {c : Code} {dC : Nat → ClassId} {dI : Nat → Nat → Nat} {b L x0 a1 b1 a2 b2 a3 b3 m0 c1 c2 c3 : Nat} {cA : ClassId} {xs : Nat → Int32} (hL : L ≤ 2048) (C0 : lw_At p s m meth c b L xs) (hK : va_K (dC, dI) vwCl [(cA, .int)] s) {i t : Nat} (ht : i = 4 * t) (hi : i + 4 ≤ L) (hk : lw_K p l e s m below meth c dC dI b x0 a1 b1 a2 b2 a3 b3 m0 c1 c2 c3 cA 899 i (t + 1)) : lw_K p l e s m below meth c dC dI b x0 a1 b1 a2 b2 a3 b3 m0 c1 c2 c3 cA 203 i t := by
  obtain ⟨hx, hb, hr, hml, hown, hts, hX, hbl, hlocks, hgv⟩ := id C0
  have hN := law_nest hts
  have hA : ∀ q : Nat, s.heap.size ≤ q → (fun q : Nat => s.heap.size ≤ q) q := fun _ h => h
  have hbA : ¬ (fun q : Nat => s.heap.size ≤ q) b := Nat.not_le.mpr hbl
  intro gh gr gk fh fr fk eh er ek nh nr nk fi me hI ha1 ha2 ha3 hb1 hb2 hb3 H locs hP hD hS ls hl
  obtain ⟨hn, hs, hF⟩ := id hI
  refine lv_aload_n hx hb dL_law_203 rfl (lv_at hl 1 rfl) ?_
  refine lv_aload_n hx hb dL_law_204 rfl (lv_at hl 0 rfl) ?_
  refine lv_iload_n hx hb dL_law_205 rfl (lv_at hl 3 rfl) ?_
  refine lv_iconst (v := 1) hx hb dL_law_206 (by decide) ?_
  refine lv_iadd hx hb dL_law_207 ?_
  refine q_top (y := nI (i + 1)) (nI_1 i) ?_
  refine q_sld (k := i + 1) hx hb hX hbl hbA hS (by omega) (by omega) dL_law_208 ?_
  have hPc := hP.sub (ws' := [(x0, .inr (1, [.ref a1, .ref a2, .ref a3, .int fi, .int me])), (a1, .inr (0, [.ref b1, .int (nI nh)])), (b1, .inl (cA, 2100, .inl fh)), (a2, .inr (0, [.ref b2, .int (nI nr)])), (b2, .inl (cA, 2100, .inl fr)), (a3, .inr (0, [.ref b3, .int (nI nk)])), (b3, .inl (cA, 2100, .inl fk))]) [0, 1, 2, 3, 4, 5, 6] rfl
  have hKc := hK.sub (tys' := [(cA, .int)]) [0] rfl
  have hDc := hD.sub (ws' := [(x0, .inr (1, [.ref a1, .ref a2, .ref a3, .int fi, .int me])), (a1, .inr (0, [.ref b1, .int (nI nh)])), (b1, .inl (cA, 2100, .inl fh)), (a2, .inr (0, [.ref b2, .int (nI nr)])), (b2, .inl (cA, 2100, .inl fr)), (a3, .inr (0, [.ref b3, .int (nI nk)])), (b3, .inl (cA, 2100, .inl fk))]) [0, 1, 2, 3, 4, 5, 6] (by decide) rfl
  have hFc := va_free (wc := [(x0, .inr (1, [.ref a1, .ref a2, .ref a3, .int fi, .int me])), (a1, .inr (0, [.ref b1, .int (nI nh)])), (b1, .inl (cA, 2100, .inl fh)), (a2, .inr (0, [.ref b2, .int (nI nr)])), (b2, .inl (cA, 2100, .inl fr)), (a3, .inr (0, [.ref b3, .int (nI nk)])), (b3, .inl (cA, 2100, .inl fk))]) hD hS hA [0, 1, 2, 3, 4, 5, 6] rfl
  refine va_calli (va_runV (As := [.int (xs (i + 1))]) (rest := []) ⟨hx, hb, hml, hown, hts⟩ (c_Hall_leave l dC dI (H.size) x0 a1 b1 a2 b2 a3 b3 nh nr nk cA fh gh fr gr fk gk fi me (xs (i + 1)) (by omega) ha1 ha2 ha3 hF) (cwV 1 hts gL_law_X1_leave_v rfl rfl rfl (by decide +kernel) ⟨Nat.le_of_ble_eq_true rfl, Nat.le_of_ble_eq_true rfl⟩) ⟨q_blWN, va_recv hKc hPc (ci := 1) (q0 := 0) rfl rfl, fun U hU hW => ⟨rfl, by rw [hU], by rw [hU]; exact hPc, va_K.moved hW.alike hKc, hDc.weaken (fun _ _ _ _ => trivial), hN.warm hW⟩⟩ rfl rfl hl.1 rfl (lv_room (Nat.le_of_ble_eq_true rfl)) dL_law_209 ⟨by decide +kernel, by decide +kernel⟩) hS (fun q _ h => hFc q h) hFc (fun r_1 u_1 t_1 H1 locs ht hvm hw hB hz1 hk1 hS => ?_)
  obtain ⟨⟨gh_1, nh_1⟩, ⟨gr_1, nr_1⟩, ⟨gk_1, nk_1⟩, fi_1, me_1⟩ := u_1
  obtain ⟨fh_1, fr_1, fk_1, hh_1, hr_1, hk_1, hP1, hK1, hD1⟩ := hB
  rw [ht] at hP1
  obtain ⟨hP, hD⟩ := q_join (wr := [(m0, .inr (2, [.ref c1, .ref c2, .ref c3, .int (nI nh), .int (nI nr), .int (nI nk), .int fi, .int me])), (c1, .inl (cA, 2000, .inl eh)), (c2, .inl (cA, 2000, .inl er)), (c3, .inl (cA, 2000, .inl ek))]) (w1 := [(x0, .inr (1, [.ref a1, .ref a2, .ref a3, .int fi_1, .int me_1])), (a1, .inr (0, [.ref b1, .int (nI nh_1)])), (b1, .inl (cA, 2100, .inl fh_1)), (a2, .inr (0, [.ref b2, .int (nI nr_1)])), (b2, .inl (cA, 2100, .inl fr_1)), (a3, .inr (0, [.ref b3, .int (nI nk_1)])), (b3, .inl (cA, 2100, .inl fk_1))]) (wz := [(x0, .inr (1, [.ref a1, .ref a2, .ref a3, .int fi_1, .int me_1])), (a1, .inr (0, [.ref b1, .int (nI nh_1)])), (b1, .inl (cA, 2100, .inl fh_1)), (a2, .inr (0, [.ref b2, .int (nI nr_1)])), (b2, .inl (cA, 2100, .inl fr_1)), (a3, .inr (0, [.ref b3, .int (nI nk_1)])), (b3, .inl (cA, 2100, .inl fk_1)), (m0, .inr (2, [.ref c1, .ref c2, .ref c3, .int (nI nh), .int (nI nr), .int (nI nk), .int fi, .int me])), (c1, .inl (cA, 2000, .inl eh)), (c2, .inl (cA, 2000, .inl er)), (c3, .inl (cA, 2000, .inl ek))]) hP hD [0, 1, 2, 3, 4, 5, 6] [7, 8, 9, 10] [4, 5, 6, 7, 8, 9, 10, 0, 1, 2, 3] rfl rfl (by decide) (by decide) hk1 hFc hP1 hD1 rfl rfl (by decide)
  generalize H1 = H at hP hS ⊢
  have hw1 := hw
  refine lv_aload_n hx hb dL_law_212 rfl (lv_at hl 2 rfl) ?_
  refine lv_aload_n hx hb dL_law_213 rfl (lv_at hl 0 rfl) ?_
  refine lv_iload_n hx hb dL_law_214 rfl (lv_at hl 3 rfl) ?_
  refine lv_iconst (v := 1) hx hb dL_law_215 (by decide) ?_
  refine lv_iadd hx hb dL_law_216 ?_
  refine q_top (y := nI (i + 1)) (nI_1 i) ?_
  refine q_sld (k := i + 1) hx hb hX hbl hbA hS (by omega) (by omega) dL_law_217 ?_
  have hPc := hP.sub (ws' := [(m0, .inr (2, [.ref c1, .ref c2, .ref c3, .int (nI nh), .int (nI nr), .int (nI nk), .int fi, .int me])), (c1, .inl (cA, 2000, .inl eh)), (c2, .inl (cA, 2000, .inl er)), (c3, .inl (cA, 2000, .inl ek))]) [7, 8, 9, 10] rfl
  have hKc := hK.sub (tys' := [(cA, .int)]) [0] rfl
  have hDc := hD.sub (ws' := [(m0, .inr (2, [.ref c1, .ref c2, .ref c3, .int (nI nh), .int (nI nr), .int (nI nk), .int fi, .int me])), (c1, .inl (cA, 2000, .inl eh)), (c2, .inl (cA, 2000, .inl er)), (c3, .inl (cA, 2000, .inl ek))]) [7, 8, 9, 10] (by decide) rfl
  have hFc := va_free (wc := [(m0, .inr (2, [.ref c1, .ref c2, .ref c3, .int (nI nh), .int (nI nr), .int (nI nk), .int fi, .int me])), (c1, .inl (cA, 2000, .inl eh)), (c2, .inl (cA, 2000, .inl er)), (c3, .inl (cA, 2000, .inl ek))]) hD hS hA [7, 8, 9, 10] rfl
  refine va_calli (va_runV (As := [.int (xs (i + 1))]) (rest := [.int r_1]) ⟨hx, hb, hml, hown, hts⟩ (c_Mod_leave l dC dI (H.size) m0 c1 c2 c3 nh nr nk cA eh gh er gr ek gk fi me (xs (i + 1)) (by omega) hb1 hb2 hb3 hF) (cwV 1 hts gL_law_X2_leave_v rfl rfl rfl (by decide +kernel) ⟨Nat.le_of_ble_eq_true rfl, Nat.le_of_ble_eq_true rfl⟩) ⟨q_blW, va_recv hKc hPc (ci := 2) (q0 := 0) rfl rfl, fun U hU hW => ⟨rfl, by rw [hU], by rw [hU]; exact hPc, va_K.moved hW.alike hKc, hDc.weaken (fun _ _ _ _ => trivial)⟩⟩ rfl rfl hl.1 rfl (lv_room (Nat.le_of_ble_eq_true rfl)) dL_law_218 ⟨by decide +kernel, by decide +kernel⟩) hS (fun q _ h => hFc q h) hFc (fun r_2 u_2 t_2 H1 locs ht hvm hw hB hz1 hk1 hS => ?_)
  obtain ⟨⟨gh_2, nh_2⟩, ⟨gr_2, nr_2⟩, ⟨gk_2, nk_2⟩, fi_2, me_2⟩ := u_2
  obtain ⟨eh_2, er_2, ek_2, hh_2, hr_2, hk_2, hP1, hK1, hD1⟩ := hB
  rw [ht] at hP1
  obtain ⟨hP, hD⟩ := q_join (wr := [(x0, .inr (1, [.ref a1, .ref a2, .ref a3, .int fi_1, .int me_1])), (a1, .inr (0, [.ref b1, .int (nI nh_1)])), (b1, .inl (cA, 2100, .inl fh_1)), (a2, .inr (0, [.ref b2, .int (nI nr_1)])), (b2, .inl (cA, 2100, .inl fr_1)), (a3, .inr (0, [.ref b3, .int (nI nk_1)])), (b3, .inl (cA, 2100, .inl fk_1))]) (w1 := [(m0, .inr (2, [.ref c1, .ref c2, .ref c3, .int (nI nh_2), .int (nI nr_2), .int (nI nk_2), .int fi_2, .int me_2])), (c1, .inl (cA, 2000, .inl eh_2)), (c2, .inl (cA, 2000, .inl er_2)), (c3, .inl (cA, 2000, .inl ek_2))]) (wz := [(x0, .inr (1, [.ref a1, .ref a2, .ref a3, .int fi_1, .int me_1])), (a1, .inr (0, [.ref b1, .int (nI nh_1)])), (b1, .inl (cA, 2100, .inl fh_1)), (a2, .inr (0, [.ref b2, .int (nI nr_1)])), (b2, .inl (cA, 2100, .inl fr_1)), (a3, .inr (0, [.ref b3, .int (nI nk_1)])), (b3, .inl (cA, 2100, .inl fk_1)), (m0, .inr (2, [.ref c1, .ref c2, .ref c3, .int (nI nh_2), .int (nI nr_2), .int (nI nk_2), .int fi_2, .int me_2])), (c1, .inl (cA, 2000, .inl eh_2)), (c2, .inl (cA, 2000, .inl er_2)), (c3, .inl (cA, 2000, .inl ek_2))]) hP hD [7, 8, 9, 10] [0, 1, 2, 3, 4, 5, 6] [0, 1, 2, 3, 4, 5, 6, 7, 8, 9, 10] rfl rfl (by decide) (by decide) hk1 hFc hP1 hD1 rfl rfl (by decide)
  generalize H1 = H at hP hS ⊢
  have hI1 : qInv (t + 1) (qLeave (xs (i + 1)) ((gh, nh), (gr, nr), (gk, nk), fi, me)).2 := qI_leave hI (by omega)
  rw [← hw1] at hI1
  have he := hw1.trans hw.symm
  simp only [Prod.mk.injEq] at he
  obtain ⟨rfl, ⟨rfl, rfl⟩, ⟨rfl, rfl⟩, ⟨rfl, rfl⟩, rfl, rfl⟩ := he
  have hP : va_P (dC, dI) vwCl [(x0, .inr (1, [.ref a1, .ref a2, .ref a3, .int fi_1, .int me_1])), (a1, .inr (0, [.ref b1, .int (nI nh_1)])), (b1, .inl (cA, 2100, .inl fh_1)), (a2, .inr (0, [.ref b2, .int (nI nr_1)])), (b2, .inl (cA, 2100, .inl fr_1)), (a3, .inr (0, [.ref b3, .int (nI nk_1)])), (b3, .inl (cA, 2100, .inl fk_1)), (m0, .inr (2, [.ref c1, .ref c2, .ref c3, .int (nI nh_1), .int (nI nr_1), .int (nI nk_1), .int fi_1, .int me_1])), (c1, .inl (cA, 2000, .inl eh_2)), (c2, .inl (cA, 2000, .inl er_2)), (c3, .inl (cA, 2000, .inl ek_2))] H := hP
  have hD : va_D (fun q : Nat => s.heap.size ≤ q) [(x0, .inr (1, [.ref a1, .ref a2, .ref a3, .int fi_1, .int me_1])), (a1, .inr (0, [.ref b1, .int (nI nh_1)])), (b1, .inl (cA, 2100, .inl fh_1)), (a2, .inr (0, [.ref b2, .int (nI nr_1)])), (b2, .inl (cA, 2100, .inl fr_1)), (a3, .inr (0, [.ref b3, .int (nI nk_1)])), (b3, .inl (cA, 2100, .inl fk_1)), (m0, .inr (2, [.ref c1, .ref c2, .ref c3, .int (nI nh_1), .int (nI nr_1), .int (nI nk_1), .int fi_1, .int me_1])), (c1, .inl (cA, 2000, .inl eh_2)), (c2, .inl (cA, 2000, .inl er_2)), (c3, .inl (cA, 2000, .inl ek_2))] := hD
  refine lv_icmp_eq (tgt := 899) hx hb dL_law_221 (by decide) (fun c_3 => ?_) (fun c_0 => absurd (show r_1 = r_1 from rfl) c_0)
  exact hk _ _ _ _ _ _ _ _ _ _ _ _ _ _ hI1 hh_1 hr_1 hk_1 hh_2 hr_2 hk_2 _ _ hP hD hS ls (lv_sub hl [0, 1, 2, 3] rfl)

set_option maxHeartbeats 4000000 in
set_option maxRecDepth 100000 in
theorem law_3 {p : Program} {l : Launch} {e : Env} {s : State} {m : MethodId} {below : List Frame} {meth : Method} {c : Code} {dC : Nat → ClassId} {dI : Nat → Nat → Nat} {b L x0 a1 b1 a2 b2 a3 b3 m0 c1 c2 c3 : Nat} {cA : ClassId} {xs : Nat → Int32} (hL : L ≤ 2048) (C0 : lw_At p s m meth c b L xs) (hK : va_K (dC, dI) vwCl [(cA, .int)] s) {i t : Nat} (ht : i = 4 * t) (hi : i + 4 ≤ L) (hk : lw_K p l e s m below meth c dC dI b x0 a1 b1 a2 b2 a3 b3 m0 c1 c2 c3 cA 899 i (t + 1)) : lw_K p l e s m below meth c dC dI b x0 a1 b1 a2 b2 a3 b3 m0 c1 c2 c3 cA 226 i t := by
  obtain ⟨hx, hb, hr, hml, hown, hts, hX, hbl, hlocks, hgv⟩ := id C0
  have hN := law_nest hts
  have hA : ∀ q : Nat, s.heap.size ≤ q → (fun q : Nat => s.heap.size ≤ q) q := fun _ h => h
  have hbA : ¬ (fun q : Nat => s.heap.size ≤ q) b := Nat.not_le.mpr hbl
  intro gh gr gk fh fr fk eh er ek nh nr nk fi me hI ha1 ha2 ha3 hb1 hb2 hb3 H locs hP hD hS ls hl
  obtain ⟨hn, hs, hF⟩ := id hI
  refine lv_aload_n hx hb dL_law_226 rfl (lv_at hl 1 rfl) ?_
  refine lv_aload_n hx hb dL_law_227 rfl (lv_at hl 0 rfl) ?_
  refine lv_iload_n hx hb dL_law_228 rfl (lv_at hl 3 rfl) ?_
  refine lv_iconst (v := 1) hx hb dL_law_229 (by decide) ?_
  refine lv_iadd hx hb dL_law_230 ?_
  refine q_top (y := nI (i + 1)) (nI_1 i) ?_
  refine q_sld (k := i + 1) hx hb hX hbl hbA hS (by omega) (by omega) dL_law_231 ?_
  refine lv_aload_n hx hb dL_law_232 rfl (lv_at hl 0 rfl) ?_
  refine lv_iload_n hx hb dL_law_233 rfl (lv_at hl 3 rfl) ?_
  refine lv_iconst (v := 2) hx hb dL_law_234 (by decide) ?_
  refine lv_iadd hx hb dL_law_235 ?_
  refine q_top (y := nI (i + 2)) (nI_add i 2) ?_
  refine q_sld (k := i + 2) hx hb hX hbl hbA hS (by omega) (by omega) dL_law_236 ?_
  have hPc := hP.sub (ws' := [(x0, .inr (1, [.ref a1, .ref a2, .ref a3, .int fi, .int me])), (a1, .inr (0, [.ref b1, .int (nI nh)])), (b1, .inl (cA, 2100, .inl fh)), (a2, .inr (0, [.ref b2, .int (nI nr)])), (b2, .inl (cA, 2100, .inl fr)), (a3, .inr (0, [.ref b3, .int (nI nk)])), (b3, .inl (cA, 2100, .inl fk))]) [0, 1, 2, 3, 4, 5, 6] rfl
  have hKc := hK.sub (tys' := [(cA, .int)]) [0] rfl
  refine q_csiE (va_runV (As := [.int (xs (i + 1)), .int (xs (i + 2))]) (rest := []) ⟨hx, hb, hml, hown, hts⟩ (c_Hall_has l dC dI x0 a1 b1 a2 b2 a3 b3 nh nr nk cA fh gh fr gr fk gk fi me (xs (i + 1)) (xs (i + 2)) (by omega) ha1 ha2 ha3 hF) (cwV 2 hts gL_law_X1_has_v rfl rfl rfl (by decide +kernel) ⟨Nat.le_of_ble_eq_true rfl, Nat.le_of_ble_eq_true rfl⟩) ⟨q_blRN, va_recv hKc hPc (ci := 1) (q0 := 0) rfl rfl, fun U hU hW => ⟨rfl, by rw [hU]; exact hPc, va_K.moved hW.alike hKc, hN.warm hW⟩⟩ rfl rfl hl.1 rfl (lv_room (Nat.le_of_ble_eq_true rfl)) dL_law_237 ⟨by decide +kernel, by decide +kernel⟩) ?_
  refine lv_aload_n hx hb dL_law_240 rfl (lv_at hl 2 rfl) ?_
  refine lv_aload_n hx hb dL_law_241 rfl (lv_at hl 0 rfl) ?_
  refine lv_iload_n hx hb dL_law_242 rfl (lv_at hl 3 rfl) ?_
  refine lv_iconst (v := 1) hx hb dL_law_243 (by decide) ?_
  refine lv_iadd hx hb dL_law_244 ?_
  refine q_top (y := nI (i + 1)) (nI_1 i) ?_
  refine q_sld (k := i + 1) hx hb hX hbl hbA hS (by omega) (by omega) dL_law_245 ?_
  refine lv_aload_n hx hb dL_law_246 rfl (lv_at hl 0 rfl) ?_
  refine lv_iload_n hx hb dL_law_247 rfl (lv_at hl 3 rfl) ?_
  refine lv_iconst (v := 2) hx hb dL_law_248 (by decide) ?_
  refine lv_iadd hx hb dL_law_249 ?_
  refine q_top (y := nI (i + 2)) (nI_add i 2) ?_
  refine q_sld (k := i + 2) hx hb hX hbl hbA hS (by omega) (by omega) dL_law_250 ?_
  have hPc := hP.sub (ws' := [(m0, .inr (2, [.ref c1, .ref c2, .ref c3, .int (nI nh), .int (nI nr), .int (nI nk), .int fi, .int me])), (c1, .inl (cA, 2000, .inl eh)), (c2, .inl (cA, 2000, .inl er)), (c3, .inl (cA, 2000, .inl ek))]) [7, 8, 9, 10] rfl
  have hKc := hK.sub (tys' := [(cA, .int)]) [0] rfl
  refine q_csiE (va_runV (As := [.int (xs (i + 1)), .int (xs (i + 2))]) (rest := [.int ((qHas (xs (i + 1)) (xs (i + 2)) ((gh, nh), (gr, nr), (gk, nk), fi, me)).1)]) ⟨hx, hb, hml, hown, hts⟩ (c_Mod_has l dC dI m0 c1 c2 c3 nh nr nk cA eh gh er gr ek gk fi me (xs (i + 1)) (xs (i + 2)) (by omega) hb1 hb2 hb3 hF) (cwV 2 hts gL_law_X2_has_v rfl rfl rfl (by decide +kernel) ⟨Nat.le_of_ble_eq_true rfl, Nat.le_of_ble_eq_true rfl⟩) ⟨q_blR, va_recv hKc hPc (ci := 2) (q0 := 0) rfl rfl, fun U hU hW => ⟨rfl, by rw [hU]; exact hPc, va_K.moved hW.alike hKc⟩⟩ rfl rfl hl.1 rfl (lv_room (Nat.le_of_ble_eq_true rfl)) dL_law_251 ⟨by decide +kernel, by decide +kernel⟩) ?_
  refine lv_icmp_eq (tgt := 899) hx hb dL_law_254 (by decide) (fun c_1 => ?_) (fun c_0 => absurd (show ((qHas (xs (i + 1)) (xs (i + 2)) ((gh, nh), (gr, nr), (gk, nk), fi, me)).1) = ((qHas (xs (i + 1)) (xs (i + 2)) ((gh, nh), (gr, nr), (gk, nk), fi, me)).1) from rfl) c_0)
  exact hk _ _ _ _ _ _ _ _ _ _ _ _ _ _ (qI_mono hI (by omega)) ha1 ha2 ha3 hb1 hb2 hb3 _ _ hP hD hS ls (lv_sub hl [0, 1, 2, 3] rfl)

set_option maxHeartbeats 4000000 in
set_option maxRecDepth 100000 in
theorem law_4 {p : Program} {l : Launch} {e : Env} {s : State} {m : MethodId} {below : List Frame} {meth : Method} {c : Code} {dC : Nat → ClassId} {dI : Nat → Nat → Nat} {b L x0 a1 b1 a2 b2 a3 b3 m0 c1 c2 c3 : Nat} {cA : ClassId} {xs : Nat → Int32} (hL : L ≤ 2048) (C0 : lw_At p s m meth c b L xs) (hK : va_K (dC, dI) vwCl [(cA, .int)] s) {i t : Nat} (ht : i = 4 * t) (hi : i + 4 ≤ L) (hk : lw_K p l e s m below meth c dC dI b x0 a1 b1 a2 b2 a3 b3 m0 c1 c2 c3 cA 899 i (t + 1)) : lw_K p l e s m below meth c dC dI b x0 a1 b1 a2 b2 a3 b3 m0 c1 c2 c3 cA 259 i t := by
  obtain ⟨hx, hb, hr, hml, hown, hts, hX, hbl, hlocks, hgv⟩ := id C0
  have hN := law_nest hts
  have hA : ∀ q : Nat, s.heap.size ≤ q → (fun q : Nat => s.heap.size ≤ q) q := fun _ h => h
  have hbA : ¬ (fun q : Nat => s.heap.size ≤ q) b := Nat.not_le.mpr hbl
  intro gh gr gk fh fr fk eh er ek nh nr nk fi me hI ha1 ha2 ha3 hb1 hb2 hb3 H locs hP hD hS ls hl
  obtain ⟨hn, hs, hF⟩ := id hI
  refine lv_aload_n hx hb dL_law_259 rfl (lv_at hl 1 rfl) ?_
  refine lv_aload_n hx hb dL_law_260 rfl (lv_at hl 0 rfl) ?_
  refine lv_iload_n hx hb dL_law_261 rfl (lv_at hl 3 rfl) ?_
  refine lv_iconst (v := 1) hx hb dL_law_262 (by decide) ?_
  refine lv_iadd hx hb dL_law_263 ?_
  refine q_top (y := nI (i + 1)) (nI_1 i) ?_
  refine q_sld (k := i + 1) hx hb hX hbl hbA hS (by omega) (by omega) dL_law_264 ?_
  have hPc := hP.sub (ws' := [(x0, .inr (1, [.ref a1, .ref a2, .ref a3, .int fi, .int me])), (a1, .inr (0, [.ref b1, .int (nI nh)])), (b1, .inl (cA, 2100, .inl fh)), (a2, .inr (0, [.ref b2, .int (nI nr)])), (b2, .inl (cA, 2100, .inl fr)), (a3, .inr (0, [.ref b3, .int (nI nk)])), (b3, .inl (cA, 2100, .inl fk))]) [0, 1, 2, 3, 4, 5, 6] rfl
  have hKc := hK.sub (tys' := [(cA, .int)]) [0] rfl
  refine q_csiE (va_runV (As := [.int (xs (i + 1))]) (rest := []) ⟨hx, hb, hml, hown, hts⟩ (c_Hall_size l dC dI x0 a1 b1 a2 b2 a3 b3 nh nr nk cA fh gh fr gr fk gk fi me (xs (i + 1)) (by omega) ha1 ha2 ha3 hF) (cwV 1 hts gL_law_X1_size_v rfl rfl rfl (by decide +kernel) ⟨Nat.le_of_ble_eq_true rfl, Nat.le_of_ble_eq_true rfl⟩) ⟨q_blRN, va_recv hKc hPc (ci := 1) (q0 := 0) rfl rfl, fun U hU hW => ⟨rfl, by rw [hU]; exact hPc, va_K.moved hW.alike hKc, hN.warm hW⟩⟩ rfl rfl hl.1 rfl (lv_room (Nat.le_of_ble_eq_true rfl)) dL_law_265 ⟨by decide +kernel, by decide +kernel⟩) ?_
  refine lv_aload_n hx hb dL_law_268 rfl (lv_at hl 2 rfl) ?_
  refine lv_aload_n hx hb dL_law_269 rfl (lv_at hl 0 rfl) ?_
  refine lv_iload_n hx hb dL_law_270 rfl (lv_at hl 3 rfl) ?_
  refine lv_iconst (v := 1) hx hb dL_law_271 (by decide) ?_
  refine lv_iadd hx hb dL_law_272 ?_
  refine q_top (y := nI (i + 1)) (nI_1 i) ?_
  refine q_sld (k := i + 1) hx hb hX hbl hbA hS (by omega) (by omega) dL_law_273 ?_
  have hPc := hP.sub (ws' := [(m0, .inr (2, [.ref c1, .ref c2, .ref c3, .int (nI nh), .int (nI nr), .int (nI nk), .int fi, .int me])), (c1, .inl (cA, 2000, .inl eh)), (c2, .inl (cA, 2000, .inl er)), (c3, .inl (cA, 2000, .inl ek))]) [7, 8, 9, 10] rfl
  have hKc := hK.sub (tys' := [(cA, .int)]) [0] rfl
  refine q_csiE (va_runV (As := [.int (xs (i + 1))]) (rest := [.int ((qSize (xs (i + 1)) ((gh, nh), (gr, nr), (gk, nk), fi, me)).1)]) ⟨hx, hb, hml, hown, hts⟩ (c_Mod_size l dC dI m0 c1 c2 c3 nh nr nk cA eh gh er gr ek gk fi me (xs (i + 1)) (by omega) hb1 hb2 hb3 hF) (cwV 1 hts gL_law_X2_size_v rfl rfl rfl (by decide +kernel) ⟨Nat.le_of_ble_eq_true rfl, Nat.le_of_ble_eq_true rfl⟩) ⟨q_blR, va_recv hKc hPc (ci := 2) (q0 := 0) rfl rfl, fun U hU hW => ⟨rfl, by rw [hU]; exact hPc, va_K.moved hW.alike hKc⟩⟩ rfl rfl hl.1 rfl (lv_room (Nat.le_of_ble_eq_true rfl)) dL_law_274 ⟨by decide +kernel, by decide +kernel⟩) ?_
  refine lv_icmp_eq (tgt := 899) hx hb dL_law_277 (by decide) (fun c_1 => ?_) (fun c_0 => absurd (show ((qSize (xs (i + 1)) ((gh, nh), (gr, nr), (gk, nk), fi, me)).1) = ((qSize (xs (i + 1)) ((gh, nh), (gr, nr), (gk, nk), fi, me)).1) from rfl) c_0)
  exact hk _ _ _ _ _ _ _ _ _ _ _ _ _ _ (qI_mono hI (by omega)) ha1 ha2 ha3 hb1 hb2 hb3 _ _ hP hD hS ls (lv_sub hl [0, 1, 2, 3] rfl)

set_option maxHeartbeats 4000000 in
set_option maxRecDepth 100000 in
theorem law_5 {p : Program} {l : Launch} {e : Env} {s : State} {m : MethodId} {below : List Frame} {meth : Method} {c : Code} {dC : Nat → ClassId} {dI : Nat → Nat → Nat} {b L x0 a1 b1 a2 b2 a3 b3 m0 c1 c2 c3 : Nat} {cA : ClassId} {xs : Nat → Int32} (hL : L ≤ 2048) (C0 : lw_At p s m meth c b L xs) (hK : va_K (dC, dI) vwCl [(cA, .int)] s) {i t : Nat} (ht : i = 4 * t) (hi : i + 4 ≤ L) (hk : lw_K p l e s m below meth c dC dI b x0 a1 b1 a2 b2 a3 b3 m0 c1 c2 c3 cA 899 i (t + 1)) : lw_K p l e s m below meth c dC dI b x0 a1 b1 a2 b2 a3 b3 m0 c1 c2 c3 cA 282 i t := by
  obtain ⟨hx, hb, hr, hml, hown, hts, hX, hbl, hlocks, hgv⟩ := id C0
  have hN := law_nest hts
  have hA : ∀ q : Nat, s.heap.size ≤ q → (fun q : Nat => s.heap.size ≤ q) q := fun _ h => h
  have hbA : ¬ (fun q : Nat => s.heap.size ≤ q) b := Nat.not_le.mpr hbl
  intro gh gr gk fh fr fk eh er ek nh nr nk fi me hI ha1 ha2 ha3 hb1 hb2 hb3 H locs hP hD hS ls hl
  obtain ⟨hn, hs, hF⟩ := id hI
  refine lv_aload_n hx hb dL_law_282 rfl (lv_at hl 1 rfl) ?_
  refine lv_aload_n hx hb dL_law_283 rfl (lv_at hl 0 rfl) ?_
  refine lv_iload_n hx hb dL_law_284 rfl (lv_at hl 3 rfl) ?_
  refine lv_iconst (v := 1) hx hb dL_law_285 (by decide) ?_
  refine lv_iadd hx hb dL_law_286 ?_
  refine q_top (y := nI (i + 1)) (nI_1 i) ?_
  refine q_sld (k := i + 1) hx hb hX hbl hbA hS (by omega) (by omega) dL_law_287 ?_
  have hPc := hP.sub (ws' := [(x0, .inr (1, [.ref a1, .ref a2, .ref a3, .int fi, .int me])), (a1, .inr (0, [.ref b1, .int (nI nh)])), (b1, .inl (cA, 2100, .inl fh)), (a2, .inr (0, [.ref b2, .int (nI nr)])), (b2, .inl (cA, 2100, .inl fr)), (a3, .inr (0, [.ref b3, .int (nI nk)])), (b3, .inl (cA, 2100, .inl fk))]) [0, 1, 2, 3, 4, 5, 6] rfl
  have hKc := hK.sub (tys' := [(cA, .int)]) [0] rfl
  have hDc := hD.sub (ws' := [(x0, .inr (1, [.ref a1, .ref a2, .ref a3, .int fi, .int me])), (a1, .inr (0, [.ref b1, .int (nI nh)])), (b1, .inl (cA, 2100, .inl fh)), (a2, .inr (0, [.ref b2, .int (nI nr)])), (b2, .inl (cA, 2100, .inl fr)), (a3, .inr (0, [.ref b3, .int (nI nk)])), (b3, .inl (cA, 2100, .inl fk))]) [0, 1, 2, 3, 4, 5, 6] (by decide) rfl
  have hFc := va_free (wc := [(x0, .inr (1, [.ref a1, .ref a2, .ref a3, .int fi, .int me])), (a1, .inr (0, [.ref b1, .int (nI nh)])), (b1, .inl (cA, 2100, .inl fh)), (a2, .inr (0, [.ref b2, .int (nI nr)])), (b2, .inl (cA, 2100, .inl fr)), (a3, .inr (0, [.ref b3, .int (nI nk)])), (b3, .inl (cA, 2100, .inl fk))]) hD hS hA [0, 1, 2, 3, 4, 5, 6] rfl
  refine va_calli (va_runV (As := [.int (xs (i + 1))]) (rest := []) ⟨hx, hb, hml, hown, hts⟩ (c_Hall_clear l dC dI (H.size) x0 a1 b1 a2 b2 a3 b3 nh nr nk cA fh gh fr gr fk gk fi me (xs (i + 1)) (by omega) ha1 ha2 ha3 hF) (cwV 1 hts gL_law_X1_clear_v rfl rfl rfl (by decide +kernel) ⟨Nat.le_of_ble_eq_true rfl, Nat.le_of_ble_eq_true rfl⟩) ⟨q_blWN, va_recv hKc hPc (ci := 1) (q0 := 0) rfl rfl, fun U hU hW => ⟨rfl, by rw [hU], by rw [hU]; exact hPc, va_K.moved hW.alike hKc, hDc.weaken (fun _ _ _ _ => trivial), hN.warm hW⟩⟩ rfl rfl hl.1 rfl (lv_room (Nat.le_of_ble_eq_true rfl)) dL_law_288 ⟨by decide +kernel, by decide +kernel⟩) hS (fun q _ h => hFc q h) hFc (fun r_1 u_1 t_1 H1 locs ht hvm hw hB hz1 hk1 hS => ?_)
  obtain ⟨⟨gh_1, nh_1⟩, ⟨gr_1, nr_1⟩, ⟨gk_1, nk_1⟩, fi_1, me_1⟩ := u_1
  obtain ⟨fh_1, fr_1, fk_1, hh_1, hr_1, hk_1, hP1, hK1, hD1⟩ := hB
  rw [ht] at hP1
  obtain ⟨hP, hD⟩ := q_join (wr := [(m0, .inr (2, [.ref c1, .ref c2, .ref c3, .int (nI nh), .int (nI nr), .int (nI nk), .int fi, .int me])), (c1, .inl (cA, 2000, .inl eh)), (c2, .inl (cA, 2000, .inl er)), (c3, .inl (cA, 2000, .inl ek))]) (w1 := [(x0, .inr (1, [.ref a1, .ref a2, .ref a3, .int fi_1, .int me_1])), (a1, .inr (0, [.ref b1, .int (nI nh_1)])), (b1, .inl (cA, 2100, .inl fh_1)), (a2, .inr (0, [.ref b2, .int (nI nr_1)])), (b2, .inl (cA, 2100, .inl fr_1)), (a3, .inr (0, [.ref b3, .int (nI nk_1)])), (b3, .inl (cA, 2100, .inl fk_1))]) (wz := [(x0, .inr (1, [.ref a1, .ref a2, .ref a3, .int fi_1, .int me_1])), (a1, .inr (0, [.ref b1, .int (nI nh_1)])), (b1, .inl (cA, 2100, .inl fh_1)), (a2, .inr (0, [.ref b2, .int (nI nr_1)])), (b2, .inl (cA, 2100, .inl fr_1)), (a3, .inr (0, [.ref b3, .int (nI nk_1)])), (b3, .inl (cA, 2100, .inl fk_1)), (m0, .inr (2, [.ref c1, .ref c2, .ref c3, .int (nI nh), .int (nI nr), .int (nI nk), .int fi, .int me])), (c1, .inl (cA, 2000, .inl eh)), (c2, .inl (cA, 2000, .inl er)), (c3, .inl (cA, 2000, .inl ek))]) hP hD [0, 1, 2, 3, 4, 5, 6] [7, 8, 9, 10] [4, 5, 6, 7, 8, 9, 10, 0, 1, 2, 3] rfl rfl (by decide) (by decide) hk1 hFc hP1 hD1 rfl rfl (by decide)
  generalize H1 = H at hP hS ⊢
  have hw1 := hw
  refine lv_aload_n hx hb dL_law_291 rfl (lv_at hl 2 rfl) ?_
  refine lv_aload_n hx hb dL_law_292 rfl (lv_at hl 0 rfl) ?_
  refine lv_iload_n hx hb dL_law_293 rfl (lv_at hl 3 rfl) ?_
  refine lv_iconst (v := 1) hx hb dL_law_294 (by decide) ?_
  refine lv_iadd hx hb dL_law_295 ?_
  refine q_top (y := nI (i + 1)) (nI_1 i) ?_
  refine q_sld (k := i + 1) hx hb hX hbl hbA hS (by omega) (by omega) dL_law_296 ?_
  have hPc := hP.sub (ws' := [(m0, .inr (2, [.ref c1, .ref c2, .ref c3, .int (nI nh), .int (nI nr), .int (nI nk), .int fi, .int me])), (c1, .inl (cA, 2000, .inl eh)), (c2, .inl (cA, 2000, .inl er)), (c3, .inl (cA, 2000, .inl ek))]) [7, 8, 9, 10] rfl
  have hKc := hK.sub (tys' := [(cA, .int)]) [0] rfl
  have hDc := hD.sub (ws' := [(m0, .inr (2, [.ref c1, .ref c2, .ref c3, .int (nI nh), .int (nI nr), .int (nI nk), .int fi, .int me])), (c1, .inl (cA, 2000, .inl eh)), (c2, .inl (cA, 2000, .inl er)), (c3, .inl (cA, 2000, .inl ek))]) [7, 8, 9, 10] (by decide) rfl
  have hFc := va_free (wc := [(m0, .inr (2, [.ref c1, .ref c2, .ref c3, .int (nI nh), .int (nI nr), .int (nI nk), .int fi, .int me])), (c1, .inl (cA, 2000, .inl eh)), (c2, .inl (cA, 2000, .inl er)), (c3, .inl (cA, 2000, .inl ek))]) hD hS hA [7, 8, 9, 10] rfl
  refine va_calli (va_runV (As := [.int (xs (i + 1))]) (rest := [.int r_1]) ⟨hx, hb, hml, hown, hts⟩ (c_Mod_clear l dC dI (H.size) m0 c1 c2 c3 nh nr nk cA eh gh er gr ek gk fi me (xs (i + 1)) (by omega) hb1 hb2 hb3 hF) (cwV 1 hts gL_law_X2_clear_v rfl rfl rfl (by decide +kernel) ⟨Nat.le_of_ble_eq_true rfl, Nat.le_of_ble_eq_true rfl⟩) ⟨q_blW, va_recv hKc hPc (ci := 2) (q0 := 0) rfl rfl, fun U hU hW => ⟨rfl, by rw [hU], by rw [hU]; exact hPc, va_K.moved hW.alike hKc, hDc.weaken (fun _ _ _ _ => trivial)⟩⟩ rfl rfl hl.1 rfl (lv_room (Nat.le_of_ble_eq_true rfl)) dL_law_297 ⟨by decide +kernel, by decide +kernel⟩) hS (fun q _ h => hFc q h) hFc (fun r_2 u_2 t_2 H1 locs ht hvm hw hB hz1 hk1 hS => ?_)
  obtain ⟨⟨gh_2, nh_2⟩, ⟨gr_2, nr_2⟩, ⟨gk_2, nk_2⟩, fi_2, me_2⟩ := u_2
  obtain ⟨eh_2, er_2, ek_2, hh_2, hr_2, hk_2, hP1, hK1, hD1⟩ := hB
  rw [ht] at hP1
  obtain ⟨hP, hD⟩ := q_join (wr := [(x0, .inr (1, [.ref a1, .ref a2, .ref a3, .int fi_1, .int me_1])), (a1, .inr (0, [.ref b1, .int (nI nh_1)])), (b1, .inl (cA, 2100, .inl fh_1)), (a2, .inr (0, [.ref b2, .int (nI nr_1)])), (b2, .inl (cA, 2100, .inl fr_1)), (a3, .inr (0, [.ref b3, .int (nI nk_1)])), (b3, .inl (cA, 2100, .inl fk_1))]) (w1 := [(m0, .inr (2, [.ref c1, .ref c2, .ref c3, .int (nI nh_2), .int (nI nr_2), .int (nI nk_2), .int fi_2, .int me_2])), (c1, .inl (cA, 2000, .inl eh_2)), (c2, .inl (cA, 2000, .inl er_2)), (c3, .inl (cA, 2000, .inl ek_2))]) (wz := [(x0, .inr (1, [.ref a1, .ref a2, .ref a3, .int fi_1, .int me_1])), (a1, .inr (0, [.ref b1, .int (nI nh_1)])), (b1, .inl (cA, 2100, .inl fh_1)), (a2, .inr (0, [.ref b2, .int (nI nr_1)])), (b2, .inl (cA, 2100, .inl fr_1)), (a3, .inr (0, [.ref b3, .int (nI nk_1)])), (b3, .inl (cA, 2100, .inl fk_1)), (m0, .inr (2, [.ref c1, .ref c2, .ref c3, .int (nI nh_2), .int (nI nr_2), .int (nI nk_2), .int fi_2, .int me_2])), (c1, .inl (cA, 2000, .inl eh_2)), (c2, .inl (cA, 2000, .inl er_2)), (c3, .inl (cA, 2000, .inl ek_2))]) hP hD [7, 8, 9, 10] [0, 1, 2, 3, 4, 5, 6] [0, 1, 2, 3, 4, 5, 6, 7, 8, 9, 10] rfl rfl (by decide) (by decide) hk1 hFc hP1 hD1 rfl rfl (by decide)
  generalize H1 = H at hP hS ⊢
  have hI1 : qInv (t + 1) (qClear (xs (i + 1)) ((gh, nh), (gr, nr), (gk, nk), fi, me)).2 := qI_clear hI (by omega)
  rw [← hw1] at hI1
  have he := hw1.trans hw.symm
  simp only [Prod.mk.injEq] at he
  obtain ⟨rfl, ⟨rfl, rfl⟩, ⟨rfl, rfl⟩, ⟨rfl, rfl⟩, rfl, rfl⟩ := he
  have hP : va_P (dC, dI) vwCl [(x0, .inr (1, [.ref a1, .ref a2, .ref a3, .int fi_1, .int me_1])), (a1, .inr (0, [.ref b1, .int (nI nh_1)])), (b1, .inl (cA, 2100, .inl fh_1)), (a2, .inr (0, [.ref b2, .int (nI nr_1)])), (b2, .inl (cA, 2100, .inl fr_1)), (a3, .inr (0, [.ref b3, .int (nI nk_1)])), (b3, .inl (cA, 2100, .inl fk_1)), (m0, .inr (2, [.ref c1, .ref c2, .ref c3, .int (nI nh_1), .int (nI nr_1), .int (nI nk_1), .int fi_1, .int me_1])), (c1, .inl (cA, 2000, .inl eh_2)), (c2, .inl (cA, 2000, .inl er_2)), (c3, .inl (cA, 2000, .inl ek_2))] H := hP
  have hD : va_D (fun q : Nat => s.heap.size ≤ q) [(x0, .inr (1, [.ref a1, .ref a2, .ref a3, .int fi_1, .int me_1])), (a1, .inr (0, [.ref b1, .int (nI nh_1)])), (b1, .inl (cA, 2100, .inl fh_1)), (a2, .inr (0, [.ref b2, .int (nI nr_1)])), (b2, .inl (cA, 2100, .inl fr_1)), (a3, .inr (0, [.ref b3, .int (nI nk_1)])), (b3, .inl (cA, 2100, .inl fk_1)), (m0, .inr (2, [.ref c1, .ref c2, .ref c3, .int (nI nh_1), .int (nI nr_1), .int (nI nk_1), .int fi_1, .int me_1])), (c1, .inl (cA, 2000, .inl eh_2)), (c2, .inl (cA, 2000, .inl er_2)), (c3, .inl (cA, 2000, .inl ek_2))] := hD
  refine lv_icmp_eq (tgt := 899) hx hb dL_law_300 (by decide) (fun c_3 => ?_) (fun c_0 => absurd (show r_1 = r_1 from rfl) c_0)
  exact hk _ _ _ _ _ _ _ _ _ _ _ _ _ _ hI1 hh_1 hr_1 hk_1 hh_2 hr_2 hk_2 _ _ hP hD hS ls (lv_sub hl [0, 1, 2, 3] rfl)

set_option maxHeartbeats 4000000 in
set_option maxRecDepth 100000 in
theorem law_6 {p : Program} {l : Launch} {e : Env} {s : State} {m : MethodId} {below : List Frame} {meth : Method} {c : Code} {dC : Nat → ClassId} {dI : Nat → Nat → Nat} {b L x0 a1 b1 a2 b2 a3 b3 m0 c1 c2 c3 : Nat} {cA : ClassId} {xs : Nat → Int32} (hL : L ≤ 2048) (C0 : lw_At p s m meth c b L xs) (hK : va_K (dC, dI) vwCl [(cA, .int)] s) {i t : Nat} (ht : i = 4 * t) (hi : i + 4 ≤ L) (hk : lw_K p l e s m below meth c dC dI b x0 a1 b1 a2 b2 a3 b3 m0 c1 c2 c3 cA 899 i (t + 1)) : lw_K p l e s m below meth c dC dI b x0 a1 b1 a2 b2 a3 b3 m0 c1 c2 c3 cA 305 i t := by
  obtain ⟨hx, hb, hr, hml, hown, hts, hX, hbl, hlocks, hgv⟩ := id C0
  have hN := law_nest hts
  have hA : ∀ q : Nat, s.heap.size ≤ q → (fun q : Nat => s.heap.size ≤ q) q := fun _ h => h
  have hbA : ¬ (fun q : Nat => s.heap.size ≤ q) b := Nat.not_le.mpr hbl
  intro gh gr gk fh fr fk eh er ek nh nr nk fi me hI ha1 ha2 ha3 hb1 hb2 hb3 H locs hP hD hS ls hl
  obtain ⟨hn, hs, hF⟩ := id hI
  refine lv_aload_n hx hb dL_law_305 rfl (lv_at hl 1 rfl) ?_
  refine lv_aload_n hx hb dL_law_306 rfl (lv_at hl 0 rfl) ?_
  refine lv_iload_n hx hb dL_law_307 rfl (lv_at hl 3 rfl) ?_
  refine lv_iconst (v := 1) hx hb dL_law_308 (by decide) ?_
  refine lv_iadd hx hb dL_law_309 ?_
  refine q_top (y := nI (i + 1)) (nI_1 i) ?_
  refine q_sld (k := i + 1) hx hb hX hbl hbA hS (by omega) (by omega) dL_law_310 ?_
  refine lv_aload_n hx hb dL_law_311 rfl (lv_at hl 0 rfl) ?_
  refine lv_iload_n hx hb dL_law_312 rfl (lv_at hl 3 rfl) ?_
  refine lv_iconst (v := 2) hx hb dL_law_313 (by decide) ?_
  refine lv_iadd hx hb dL_law_314 ?_
  refine q_top (y := nI (i + 2)) (nI_add i 2) ?_
  refine q_sld (k := i + 2) hx hb hX hbl hbA hS (by omega) (by omega) dL_law_315 ?_
  refine lv_if_eq (tgt := 323) hx hb dL_law_316 (by decide) (fun c_1 => ?_) (fun c_1 => ?_)
  · refine lv_iconst (v := 0) hx hb dL_law_323 (by decide) ?_
    have hPc := hP.sub (ws' := [(x0, .inr (1, [.ref a1, .ref a2, .ref a3, .int fi, .int me])), (a1, .inr (0, [.ref b1, .int (nI nh)])), (b1, .inl (cA, 2100, .inl fh)), (a2, .inr (0, [.ref b2, .int (nI nr)])), (b2, .inl (cA, 2100, .inl fr)), (a3, .inr (0, [.ref b3, .int (nI nk)])), (b3, .inl (cA, 2100, .inl fk))]) [0, 1, 2, 3, 4, 5, 6] rfl
    have hKc := hK.sub (tys' := [(cA, .int)]) [0] rfl
    have hDc := hD.sub (ws' := [(x0, .inr (1, [.ref a1, .ref a2, .ref a3, .int fi, .int me])), (a1, .inr (0, [.ref b1, .int (nI nh)])), (b1, .inl (cA, 2100, .inl fh)), (a2, .inr (0, [.ref b2, .int (nI nr)])), (b2, .inl (cA, 2100, .inl fr)), (a3, .inr (0, [.ref b3, .int (nI nk)])), (b3, .inl (cA, 2100, .inl fk))]) [0, 1, 2, 3, 4, 5, 6] (by decide) rfl
    have hFc := va_free (wc := [(x0, .inr (1, [.ref a1, .ref a2, .ref a3, .int fi, .int me])), (a1, .inr (0, [.ref b1, .int (nI nh)])), (b1, .inl (cA, 2100, .inl fh)), (a2, .inr (0, [.ref b2, .int (nI nr)])), (b2, .inl (cA, 2100, .inl fr)), (a3, .inr (0, [.ref b3, .int (nI nk)])), (b3, .inl (cA, 2100, .inl fk))]) hD hS hA [0, 1, 2, 3, 4, 5, 6] rfl
    refine va_calli (va_runV (As := [.int (xs (i + 1)), .int 0]) (rest := []) ⟨hx, hb, hml, hown, hts⟩ (c_Hall_join l dC dI (H.size) x0 a1 b1 a2 b2 a3 b3 nh nr nk cA fh gh fr gr fk gk fi me (xs (i + 1)) 0 (by omega) ha1 ha2 ha3 hF) (cwV 2 hts gL_law_X1_join_v rfl rfl rfl (by decide +kernel) ⟨Nat.le_of_ble_eq_true rfl, Nat.le_of_ble_eq_true rfl⟩) ⟨q_blWN, va_recv hKc hPc (ci := 1) (q0 := 0) rfl rfl, fun U hU hW => ⟨rfl, by rw [hU], by rw [hU]; exact hPc, va_K.moved hW.alike hKc, hDc.weaken (fun _ _ _ _ => trivial), hN.warm hW⟩⟩ rfl rfl hl.1 rfl (lv_room (Nat.le_of_ble_eq_true rfl)) dL_law_324 ⟨by decide +kernel, by decide +kernel⟩) hS (fun q _ h => hFc q h) hFc (fun r_2 u_2 t_2 H1 locs ht hvm hw hB hz1 hk1 hS => ?_)
    obtain ⟨⟨gh_2, nh_2⟩, ⟨gr_2, nr_2⟩, ⟨gk_2, nk_2⟩, fi_2, me_2⟩ := u_2
    obtain ⟨fh_2, fr_2, fk_2, hh_2, hr_2, hk_2, hP1, hK1, hD1⟩ := hB
    rw [ht] at hP1
    obtain ⟨hP, hD⟩ := q_join (wr := [(m0, .inr (2, [.ref c1, .ref c2, .ref c3, .int (nI nh), .int (nI nr), .int (nI nk), .int fi, .int me])), (c1, .inl (cA, 2000, .inl eh)), (c2, .inl (cA, 2000, .inl er)), (c3, .inl (cA, 2000, .inl ek))]) (w1 := [(x0, .inr (1, [.ref a1, .ref a2, .ref a3, .int fi_2, .int me_2])), (a1, .inr (0, [.ref b1, .int (nI nh_2)])), (b1, .inl (cA, 2100, .inl fh_2)), (a2, .inr (0, [.ref b2, .int (nI nr_2)])), (b2, .inl (cA, 2100, .inl fr_2)), (a3, .inr (0, [.ref b3, .int (nI nk_2)])), (b3, .inl (cA, 2100, .inl fk_2))]) (wz := [(x0, .inr (1, [.ref a1, .ref a2, .ref a3, .int fi_2, .int me_2])), (a1, .inr (0, [.ref b1, .int (nI nh_2)])), (b1, .inl (cA, 2100, .inl fh_2)), (a2, .inr (0, [.ref b2, .int (nI nr_2)])), (b2, .inl (cA, 2100, .inl fr_2)), (a3, .inr (0, [.ref b3, .int (nI nk_2)])), (b3, .inl (cA, 2100, .inl fk_2)), (m0, .inr (2, [.ref c1, .ref c2, .ref c3, .int (nI nh), .int (nI nr), .int (nI nk), .int fi, .int me])), (c1, .inl (cA, 2000, .inl eh)), (c2, .inl (cA, 2000, .inl er)), (c3, .inl (cA, 2000, .inl ek))]) hP hD [0, 1, 2, 3, 4, 5, 6] [7, 8, 9, 10] [4, 5, 6, 7, 8, 9, 10, 0, 1, 2, 3] rfl rfl (by decide) (by decide) hk1 hFc hP1 hD1 rfl rfl (by decide)
    generalize H1 = H at hP hS ⊢
    have hw1 := hw
    refine lv_aload_n hx hb dL_law_327 rfl (lv_at hl 2 rfl) ?_
    refine lv_aload_n hx hb dL_law_328 rfl (lv_at hl 0 rfl) ?_
    refine lv_iload_n hx hb dL_law_329 rfl (lv_at hl 3 rfl) ?_
    refine lv_iconst (v := 1) hx hb dL_law_330 (by decide) ?_
    refine lv_iadd hx hb dL_law_331 ?_
    refine q_top (y := nI (i + 1)) (nI_1 i) ?_
    refine q_sld (k := i + 1) hx hb hX hbl hbA hS (by omega) (by omega) dL_law_332 ?_
    refine lv_aload_n hx hb dL_law_333 rfl (lv_at hl 0 rfl) ?_
    refine lv_iload_n hx hb dL_law_334 rfl (lv_at hl 3 rfl) ?_
    refine lv_iconst (v := 2) hx hb dL_law_335 (by decide) ?_
    refine lv_iadd hx hb dL_law_336 ?_
    refine q_top (y := nI (i + 2)) (nI_add i 2) ?_
    refine q_sld (k := i + 2) hx hb hX hbl hbA hS (by omega) (by omega) dL_law_337 ?_
    refine lv_if_eq (tgt := 345) hx hb dL_law_338 (by decide) (fun c_3 => ?_) (fun c_0 => absurd (show (xs (i + 2)) = (0 : Int32) from c_1) c_0)
    refine lv_iconst (v := 0) hx hb dL_law_345 (by decide) ?_
    have hPc := hP.sub (ws' := [(m0, .inr (2, [.ref c1, .ref c2, .ref c3, .int (nI nh), .int (nI nr), .int (nI nk), .int fi, .int me])), (c1, .inl (cA, 2000, .inl eh)), (c2, .inl (cA, 2000, .inl er)), (c3, .inl (cA, 2000, .inl ek))]) [7, 8, 9, 10] rfl
    have hKc := hK.sub (tys' := [(cA, .int)]) [0] rfl
    have hDc := hD.sub (ws' := [(m0, .inr (2, [.ref c1, .ref c2, .ref c3, .int (nI nh), .int (nI nr), .int (nI nk), .int fi, .int me])), (c1, .inl (cA, 2000, .inl eh)), (c2, .inl (cA, 2000, .inl er)), (c3, .inl (cA, 2000, .inl ek))]) [7, 8, 9, 10] (by decide) rfl
    have hFc := va_free (wc := [(m0, .inr (2, [.ref c1, .ref c2, .ref c3, .int (nI nh), .int (nI nr), .int (nI nk), .int fi, .int me])), (c1, .inl (cA, 2000, .inl eh)), (c2, .inl (cA, 2000, .inl er)), (c3, .inl (cA, 2000, .inl ek))]) hD hS hA [7, 8, 9, 10] rfl
    refine va_calli (va_runV (As := [.int (xs (i + 1)), .int 0]) (rest := [.int r_2]) ⟨hx, hb, hml, hown, hts⟩ (c_Mod_join l dC dI (H.size) m0 c1 c2 c3 nh nr nk cA eh gh er gr ek gk fi me (xs (i + 1)) 0 (by omega) hb1 hb2 hb3 hF) (cwV 2 hts gL_law_X2_join_v rfl rfl rfl (by decide +kernel) ⟨Nat.le_of_ble_eq_true rfl, Nat.le_of_ble_eq_true rfl⟩) ⟨q_blW, va_recv hKc hPc (ci := 2) (q0 := 0) rfl rfl, fun U hU hW => ⟨rfl, by rw [hU], by rw [hU]; exact hPc, va_K.moved hW.alike hKc, hDc.weaken (fun _ _ _ _ => trivial)⟩⟩ rfl rfl hl.1 rfl (lv_room (Nat.le_of_ble_eq_true rfl)) dL_law_346 ⟨by decide +kernel, by decide +kernel⟩) hS (fun q _ h => hFc q h) hFc (fun r_4 u_4 t_4 H1 locs ht hvm hw hB hz1 hk1 hS => ?_)
    obtain ⟨⟨gh_4, nh_4⟩, ⟨gr_4, nr_4⟩, ⟨gk_4, nk_4⟩, fi_4, me_4⟩ := u_4
    obtain ⟨eh_4, er_4, ek_4, hh_4, hr_4, hk_4, hP1, hK1, hD1⟩ := hB
    rw [ht] at hP1
    obtain ⟨hP, hD⟩ := q_join (wr := [(x0, .inr (1, [.ref a1, .ref a2, .ref a3, .int fi_2, .int me_2])), (a1, .inr (0, [.ref b1, .int (nI nh_2)])), (b1, .inl (cA, 2100, .inl fh_2)), (a2, .inr (0, [.ref b2, .int (nI nr_2)])), (b2, .inl (cA, 2100, .inl fr_2)), (a3, .inr (0, [.ref b3, .int (nI nk_2)])), (b3, .inl (cA, 2100, .inl fk_2))]) (w1 := [(m0, .inr (2, [.ref c1, .ref c2, .ref c3, .int (nI nh_4), .int (nI nr_4), .int (nI nk_4), .int fi_4, .int me_4])), (c1, .inl (cA, 2000, .inl eh_4)), (c2, .inl (cA, 2000, .inl er_4)), (c3, .inl (cA, 2000, .inl ek_4))]) (wz := [(x0, .inr (1, [.ref a1, .ref a2, .ref a3, .int fi_2, .int me_2])), (a1, .inr (0, [.ref b1, .int (nI nh_2)])), (b1, .inl (cA, 2100, .inl fh_2)), (a2, .inr (0, [.ref b2, .int (nI nr_2)])), (b2, .inl (cA, 2100, .inl fr_2)), (a3, .inr (0, [.ref b3, .int (nI nk_2)])), (b3, .inl (cA, 2100, .inl fk_2)), (m0, .inr (2, [.ref c1, .ref c2, .ref c3, .int (nI nh_4), .int (nI nr_4), .int (nI nk_4), .int fi_4, .int me_4])), (c1, .inl (cA, 2000, .inl eh_4)), (c2, .inl (cA, 2000, .inl er_4)), (c3, .inl (cA, 2000, .inl ek_4))]) hP hD [7, 8, 9, 10] [0, 1, 2, 3, 4, 5, 6] [0, 1, 2, 3, 4, 5, 6, 7, 8, 9, 10] rfl rfl (by decide) (by decide) hk1 hFc hP1 hD1 rfl rfl (by decide)
    generalize H1 = H at hP hS ⊢
    have hI1 : qInv (t + 1) (qJoin (xs (i + 1)) 0 ((gh, nh), (gr, nr), (gk, nk), fi, me)).2 := qI_join hI (by omega)
    rw [← hw1] at hI1
    have he := hw1.trans hw.symm
    simp only [Prod.mk.injEq] at he
    obtain ⟨rfl, ⟨rfl, rfl⟩, ⟨rfl, rfl⟩, ⟨rfl, rfl⟩, rfl, rfl⟩ := he
    have hP : va_P (dC, dI) vwCl [(x0, .inr (1, [.ref a1, .ref a2, .ref a3, .int fi_2, .int me_2])), (a1, .inr (0, [.ref b1, .int (nI nh_2)])), (b1, .inl (cA, 2100, .inl fh_2)), (a2, .inr (0, [.ref b2, .int (nI nr_2)])), (b2, .inl (cA, 2100, .inl fr_2)), (a3, .inr (0, [.ref b3, .int (nI nk_2)])), (b3, .inl (cA, 2100, .inl fk_2)), (m0, .inr (2, [.ref c1, .ref c2, .ref c3, .int (nI nh_2), .int (nI nr_2), .int (nI nk_2), .int fi_2, .int me_2])), (c1, .inl (cA, 2000, .inl eh_4)), (c2, .inl (cA, 2000, .inl er_4)), (c3, .inl (cA, 2000, .inl ek_4))] H := hP
    have hD : va_D (fun q : Nat => s.heap.size ≤ q) [(x0, .inr (1, [.ref a1, .ref a2, .ref a3, .int fi_2, .int me_2])), (a1, .inr (0, [.ref b1, .int (nI nh_2)])), (b1, .inl (cA, 2100, .inl fh_2)), (a2, .inr (0, [.ref b2, .int (nI nr_2)])), (b2, .inl (cA, 2100, .inl fr_2)), (a3, .inr (0, [.ref b3, .int (nI nk_2)])), (b3, .inl (cA, 2100, .inl fk_2)), (m0, .inr (2, [.ref c1, .ref c2, .ref c3, .int (nI nh_2), .int (nI nr_2), .int (nI nk_2), .int fi_2, .int me_2])), (c1, .inl (cA, 2000, .inl eh_4)), (c2, .inl (cA, 2000, .inl er_4)), (c3, .inl (cA, 2000, .inl ek_4))] := hD
    refine lv_icmp_eq (tgt := 899) hx hb dL_law_349 (by decide) (fun c_5 => ?_) (fun c_0 => absurd (show r_2 = r_2 from rfl) c_0)
    exact hk _ _ _ _ _ _ _ _ _ _ _ _ _ _ hI1 hh_2 hr_2 hk_2 hh_4 hr_4 hk_4 _ _ hP hD hS ls (lv_sub hl [0, 1, 2, 3] rfl)
  · refine lv_iconst (v := 1) hx hb dL_law_319 (by decide) ?_
    refine lv_goto (tgt := 324) hx hb dL_law_320 (by decide) ?_
    have hPc := hP.sub (ws' := [(x0, .inr (1, [.ref a1, .ref a2, .ref a3, .int fi, .int me])), (a1, .inr (0, [.ref b1, .int (nI nh)])), (b1, .inl (cA, 2100, .inl fh)), (a2, .inr (0, [.ref b2, .int (nI nr)])), (b2, .inl (cA, 2100, .inl fr)), (a3, .inr (0, [.ref b3, .int (nI nk)])), (b3, .inl (cA, 2100, .inl fk))]) [0, 1, 2, 3, 4, 5, 6] rfl
    have hKc := hK.sub (tys' := [(cA, .int)]) [0] rfl
    have hDc := hD.sub (ws' := [(x0, .inr (1, [.ref a1, .ref a2, .ref a3, .int fi, .int me])), (a1, .inr (0, [.ref b1, .int (nI nh)])), (b1, .inl (cA, 2100, .inl fh)), (a2, .inr (0, [.ref b2, .int (nI nr)])), (b2, .inl (cA, 2100, .inl fr)), (a3, .inr (0, [.ref b3, .int (nI nk)])), (b3, .inl (cA, 2100, .inl fk))]) [0, 1, 2, 3, 4, 5, 6] (by decide) rfl
    have hFc := va_free (wc := [(x0, .inr (1, [.ref a1, .ref a2, .ref a3, .int fi, .int me])), (a1, .inr (0, [.ref b1, .int (nI nh)])), (b1, .inl (cA, 2100, .inl fh)), (a2, .inr (0, [.ref b2, .int (nI nr)])), (b2, .inl (cA, 2100, .inl fr)), (a3, .inr (0, [.ref b3, .int (nI nk)])), (b3, .inl (cA, 2100, .inl fk))]) hD hS hA [0, 1, 2, 3, 4, 5, 6] rfl
    refine va_calli (va_runV (As := [.int (xs (i + 1)), .int 1]) (rest := []) ⟨hx, hb, hml, hown, hts⟩ (c_Hall_join l dC dI (H.size) x0 a1 b1 a2 b2 a3 b3 nh nr nk cA fh gh fr gr fk gk fi me (xs (i + 1)) 1 (by omega) ha1 ha2 ha3 hF) (cwV 2 hts gL_law_X1_join_v rfl rfl rfl (by decide +kernel) ⟨Nat.le_of_ble_eq_true rfl, Nat.le_of_ble_eq_true rfl⟩) ⟨q_blWN, va_recv hKc hPc (ci := 1) (q0 := 0) rfl rfl, fun U hU hW => ⟨rfl, by rw [hU], by rw [hU]; exact hPc, va_K.moved hW.alike hKc, hDc.weaken (fun _ _ _ _ => trivial), hN.warm hW⟩⟩ rfl rfl hl.1 rfl (lv_room (Nat.le_of_ble_eq_true rfl)) dL_law_324 ⟨by decide +kernel, by decide +kernel⟩) hS (fun q _ h => hFc q h) hFc (fun r_6 u_6 t_6 H1 locs ht hvm hw hB hz1 hk1 hS => ?_)
    obtain ⟨⟨gh_6, nh_6⟩, ⟨gr_6, nr_6⟩, ⟨gk_6, nk_6⟩, fi_6, me_6⟩ := u_6
    obtain ⟨fh_6, fr_6, fk_6, hh_6, hr_6, hk_6, hP1, hK1, hD1⟩ := hB
    rw [ht] at hP1
    obtain ⟨hP, hD⟩ := q_join (wr := [(m0, .inr (2, [.ref c1, .ref c2, .ref c3, .int (nI nh), .int (nI nr), .int (nI nk), .int fi, .int me])), (c1, .inl (cA, 2000, .inl eh)), (c2, .inl (cA, 2000, .inl er)), (c3, .inl (cA, 2000, .inl ek))]) (w1 := [(x0, .inr (1, [.ref a1, .ref a2, .ref a3, .int fi_6, .int me_6])), (a1, .inr (0, [.ref b1, .int (nI nh_6)])), (b1, .inl (cA, 2100, .inl fh_6)), (a2, .inr (0, [.ref b2, .int (nI nr_6)])), (b2, .inl (cA, 2100, .inl fr_6)), (a3, .inr (0, [.ref b3, .int (nI nk_6)])), (b3, .inl (cA, 2100, .inl fk_6))]) (wz := [(x0, .inr (1, [.ref a1, .ref a2, .ref a3, .int fi_6, .int me_6])), (a1, .inr (0, [.ref b1, .int (nI nh_6)])), (b1, .inl (cA, 2100, .inl fh_6)), (a2, .inr (0, [.ref b2, .int (nI nr_6)])), (b2, .inl (cA, 2100, .inl fr_6)), (a3, .inr (0, [.ref b3, .int (nI nk_6)])), (b3, .inl (cA, 2100, .inl fk_6)), (m0, .inr (2, [.ref c1, .ref c2, .ref c3, .int (nI nh), .int (nI nr), .int (nI nk), .int fi, .int me])), (c1, .inl (cA, 2000, .inl eh)), (c2, .inl (cA, 2000, .inl er)), (c3, .inl (cA, 2000, .inl ek))]) hP hD [0, 1, 2, 3, 4, 5, 6] [7, 8, 9, 10] [4, 5, 6, 7, 8, 9, 10, 0, 1, 2, 3] rfl rfl (by decide) (by decide) hk1 hFc hP1 hD1 rfl rfl (by decide)
    generalize H1 = H at hP hS ⊢
    have hw1 := hw
    refine lv_aload_n hx hb dL_law_327 rfl (lv_at hl 2 rfl) ?_
    refine lv_aload_n hx hb dL_law_328 rfl (lv_at hl 0 rfl) ?_
    refine lv_iload_n hx hb dL_law_329 rfl (lv_at hl 3 rfl) ?_
    refine lv_iconst (v := 1) hx hb dL_law_330 (by decide) ?_
    refine lv_iadd hx hb dL_law_331 ?_
    refine q_top (y := nI (i + 1)) (nI_1 i) ?_
    refine q_sld (k := i + 1) hx hb hX hbl hbA hS (by omega) (by omega) dL_law_332 ?_
    refine lv_aload_n hx hb dL_law_333 rfl (lv_at hl 0 rfl) ?_
    refine lv_iload_n hx hb dL_law_334 rfl (lv_at hl 3 rfl) ?_
    refine lv_iconst (v := 2) hx hb dL_law_335 (by decide) ?_
    refine lv_iadd hx hb dL_law_336 ?_
    refine q_top (y := nI (i + 2)) (nI_add i 2) ?_
    refine q_sld (k := i + 2) hx hb hX hbl hbA hS (by omega) (by omega) dL_law_337 ?_
    refine lv_if_eq (tgt := 345) hx hb dL_law_338 (by decide) (fun c_0 => absurd c_0 (show ¬ (xs (i + 2)) = (0 : Int32) from c_1)) (fun c_7 => ?_)
    refine lv_iconst (v := 1) hx hb dL_law_341 (by decide) ?_
    refine lv_goto (tgt := 346) hx hb dL_law_342 (by decide) ?_
    have hPc := hP.sub (ws' := [(m0, .inr (2, [.ref c1, .ref c2, .ref c3, .int (nI nh), .int (nI nr), .int (nI nk), .int fi, .int me])), (c1, .inl (cA, 2000, .inl eh)), (c2, .inl (cA, 2000, .inl er)), (c3, .inl (cA, 2000, .inl ek))]) [7, 8, 9, 10] rfl
    have hKc := hK.sub (tys' := [(cA, .int)]) [0] rfl
    have hDc := hD.sub (ws' := [(m0, .inr (2, [.ref c1, .ref c2, .ref c3, .int (nI nh), .int (nI nr), .int (nI nk), .int fi, .int me])), (c1, .inl (cA, 2000, .inl eh)), (c2, .inl (cA, 2000, .inl er)), (c3, .inl (cA, 2000, .inl ek))]) [7, 8, 9, 10] (by decide) rfl
    have hFc := va_free (wc := [(m0, .inr (2, [.ref c1, .ref c2, .ref c3, .int (nI nh), .int (nI nr), .int (nI nk), .int fi, .int me])), (c1, .inl (cA, 2000, .inl eh)), (c2, .inl (cA, 2000, .inl er)), (c3, .inl (cA, 2000, .inl ek))]) hD hS hA [7, 8, 9, 10] rfl
    refine va_calli (va_runV (As := [.int (xs (i + 1)), .int 1]) (rest := [.int r_6]) ⟨hx, hb, hml, hown, hts⟩ (c_Mod_join l dC dI (H.size) m0 c1 c2 c3 nh nr nk cA eh gh er gr ek gk fi me (xs (i + 1)) 1 (by omega) hb1 hb2 hb3 hF) (cwV 2 hts gL_law_X2_join_v rfl rfl rfl (by decide +kernel) ⟨Nat.le_of_ble_eq_true rfl, Nat.le_of_ble_eq_true rfl⟩) ⟨q_blW, va_recv hKc hPc (ci := 2) (q0 := 0) rfl rfl, fun U hU hW => ⟨rfl, by rw [hU], by rw [hU]; exact hPc, va_K.moved hW.alike hKc, hDc.weaken (fun _ _ _ _ => trivial)⟩⟩ rfl rfl hl.1 rfl (lv_room (Nat.le_of_ble_eq_true rfl)) dL_law_346 ⟨by decide +kernel, by decide +kernel⟩) hS (fun q _ h => hFc q h) hFc (fun r_8 u_8 t_8 H1 locs ht hvm hw hB hz1 hk1 hS => ?_)
    obtain ⟨⟨gh_8, nh_8⟩, ⟨gr_8, nr_8⟩, ⟨gk_8, nk_8⟩, fi_8, me_8⟩ := u_8
    obtain ⟨eh_8, er_8, ek_8, hh_8, hr_8, hk_8, hP1, hK1, hD1⟩ := hB
    rw [ht] at hP1
    obtain ⟨hP, hD⟩ := q_join (wr := [(x0, .inr (1, [.ref a1, .ref a2, .ref a3, .int fi_6, .int me_6])), (a1, .inr (0, [.ref b1, .int (nI nh_6)])), (b1, .inl (cA, 2100, .inl fh_6)), (a2, .inr (0, [.ref b2, .int (nI nr_6)])), (b2, .inl (cA, 2100, .inl fr_6)), (a3, .inr (0, [.ref b3, .int (nI nk_6)])), (b3, .inl (cA, 2100, .inl fk_6))]) (w1 := [(m0, .inr (2, [.ref c1, .ref c2, .ref c3, .int (nI nh_8), .int (nI nr_8), .int (nI nk_8), .int fi_8, .int me_8])), (c1, .inl (cA, 2000, .inl eh_8)), (c2, .inl (cA, 2000, .inl er_8)), (c3, .inl (cA, 2000, .inl ek_8))]) (wz := [(x0, .inr (1, [.ref a1, .ref a2, .ref a3, .int fi_6, .int me_6])), (a1, .inr (0, [.ref b1, .int (nI nh_6)])), (b1, .inl (cA, 2100, .inl fh_6)), (a2, .inr (0, [.ref b2, .int (nI nr_6)])), (b2, .inl (cA, 2100, .inl fr_6)), (a3, .inr (0, [.ref b3, .int (nI nk_6)])), (b3, .inl (cA, 2100, .inl fk_6)), (m0, .inr (2, [.ref c1, .ref c2, .ref c3, .int (nI nh_8), .int (nI nr_8), .int (nI nk_8), .int fi_8, .int me_8])), (c1, .inl (cA, 2000, .inl eh_8)), (c2, .inl (cA, 2000, .inl er_8)), (c3, .inl (cA, 2000, .inl ek_8))]) hP hD [7, 8, 9, 10] [0, 1, 2, 3, 4, 5, 6] [0, 1, 2, 3, 4, 5, 6, 7, 8, 9, 10] rfl rfl (by decide) (by decide) hk1 hFc hP1 hD1 rfl rfl (by decide)
    generalize H1 = H at hP hS ⊢
    have hI1 : qInv (t + 1) (qJoin (xs (i + 1)) 1 ((gh, nh), (gr, nr), (gk, nk), fi, me)).2 := qI_join hI (by omega)
    rw [← hw1] at hI1
    have he := hw1.trans hw.symm
    simp only [Prod.mk.injEq] at he
    obtain ⟨rfl, ⟨rfl, rfl⟩, ⟨rfl, rfl⟩, ⟨rfl, rfl⟩, rfl, rfl⟩ := he
    have hP : va_P (dC, dI) vwCl [(x0, .inr (1, [.ref a1, .ref a2, .ref a3, .int fi_6, .int me_6])), (a1, .inr (0, [.ref b1, .int (nI nh_6)])), (b1, .inl (cA, 2100, .inl fh_6)), (a2, .inr (0, [.ref b2, .int (nI nr_6)])), (b2, .inl (cA, 2100, .inl fr_6)), (a3, .inr (0, [.ref b3, .int (nI nk_6)])), (b3, .inl (cA, 2100, .inl fk_6)), (m0, .inr (2, [.ref c1, .ref c2, .ref c3, .int (nI nh_6), .int (nI nr_6), .int (nI nk_6), .int fi_6, .int me_6])), (c1, .inl (cA, 2000, .inl eh_8)), (c2, .inl (cA, 2000, .inl er_8)), (c3, .inl (cA, 2000, .inl ek_8))] H := hP
    have hD : va_D (fun q : Nat => s.heap.size ≤ q) [(x0, .inr (1, [.ref a1, .ref a2, .ref a3, .int fi_6, .int me_6])), (a1, .inr (0, [.ref b1, .int (nI nh_6)])), (b1, .inl (cA, 2100, .inl fh_6)), (a2, .inr (0, [.ref b2, .int (nI nr_6)])), (b2, .inl (cA, 2100, .inl fr_6)), (a3, .inr (0, [.ref b3, .int (nI nk_6)])), (b3, .inl (cA, 2100, .inl fk_6)), (m0, .inr (2, [.ref c1, .ref c2, .ref c3, .int (nI nh_6), .int (nI nr_6), .int (nI nk_6), .int fi_6, .int me_6])), (c1, .inl (cA, 2000, .inl eh_8)), (c2, .inl (cA, 2000, .inl er_8)), (c3, .inl (cA, 2000, .inl ek_8))] := hD
    refine lv_icmp_eq (tgt := 899) hx hb dL_law_349 (by decide) (fun c_9 => ?_) (fun c_0 => absurd (show r_6 = r_6 from rfl) c_0)
    exact hk _ _ _ _ _ _ _ _ _ _ _ _ _ _ hI1 hh_6 hr_6 hk_6 hh_8 hr_8 hk_8 _ _ hP hD hS ls (lv_sub hl [0, 1, 2, 3] rfl)

set_option maxHeartbeats 4000000 in
set_option maxRecDepth 100000 in
theorem law_7 {p : Program} {l : Launch} {e : Env} {s : State} {m : MethodId} {below : List Frame} {meth : Method} {c : Code} {dC : Nat → ClassId} {dI : Nat → Nat → Nat} {b L x0 a1 b1 a2 b2 a3 b3 m0 c1 c2 c3 : Nat} {cA : ClassId} {xs : Nat → Int32} (hL : L ≤ 2048) (C0 : lw_At p s m meth c b L xs) (hK : va_K (dC, dI) vwCl [(cA, .int)] s) {i t : Nat} (ht : i = 4 * t) (hi : i + 4 ≤ L) (hk : lw_K p l e s m below meth c dC dI b x0 a1 b1 a2 b2 a3 b3 m0 c1 c2 c3 cA 899 i (t + 1)) : lw_K p l e s m below meth c dC dI b x0 a1 b1 a2 b2 a3 b3 m0 c1 c2 c3 cA 354 i t := by
  obtain ⟨hx, hb, hr, hml, hown, hts, hX, hbl, hlocks, hgv⟩ := id C0
  have hN := law_nest hts
  have hA : ∀ q : Nat, s.heap.size ≤ q → (fun q : Nat => s.heap.size ≤ q) q := fun _ h => h
  have hbA : ¬ (fun q : Nat => s.heap.size ≤ q) b := Nat.not_le.mpr hbl
  intro gh gr gk fh fr fk eh er ek nh nr nk fi me hI ha1 ha2 ha3 hb1 hb2 hb3 H locs hP hD hS ls hl
  obtain ⟨hn, hs, hF⟩ := id hI
  refine lv_aload_n hx hb dL_law_354 rfl (lv_at hl 1 rfl) ?_
  refine lv_aload_n hx hb dL_law_355 rfl (lv_at hl 0 rfl) ?_
  refine lv_iload_n hx hb dL_law_356 rfl (lv_at hl 3 rfl) ?_
  refine lv_iconst (v := 1) hx hb dL_law_357 (by decide) ?_
  refine lv_iadd hx hb dL_law_358 ?_
  refine q_top (y := nI (i + 1)) (nI_1 i) ?_
  refine q_sld (k := i + 1) hx hb hX hbl hbA hS (by omega) (by omega) dL_law_359 ?_
  refine lv_if_eq (tgt := 367) hx hb dL_law_360 (by decide) (fun c_1 => ?_) (fun c_1 => ?_)
  · refine lv_iconst (v := 0) hx hb dL_law_367 (by decide) ?_
    refine lv_aload_n hx hb dL_law_368 rfl (lv_at hl 0 rfl) ?_
    refine lv_iload_n hx hb dL_law_369 rfl (lv_at hl 3 rfl) ?_
    refine lv_iconst (v := 2) hx hb dL_law_370 (by decide) ?_
    refine lv_iadd hx hb dL_law_371 ?_
    refine q_top (y := nI (i + 2)) (nI_add i 2) ?_
    refine q_sld (k := i + 2) hx hb hX hbl hbA hS (by omega) (by omega) dL_law_372 ?_
    refine lv_if_eq (tgt := 380) hx hb dL_law_373 (by decide) (fun c_2 => ?_) (fun c_2 => ?_)
    · refine lv_iconst (v := 0) hx hb dL_law_380 (by decide) ?_
      have hPc := hP.sub (ws' := [(x0, .inr (1, [.ref a1, .ref a2, .ref a3, .int fi, .int me])), (a1, .inr (0, [.ref b1, .int (nI nh)])), (b1, .inl (cA, 2100, .inl fh)), (a2, .inr (0, [.ref b2, .int (nI nr)])), (b2, .inl (cA, 2100, .inl fr)), (a3, .inr (0, [.ref b3, .int (nI nk)])), (b3, .inl (cA, 2100, .inl fk))]) [0, 1, 2, 3, 4, 5, 6] rfl
      have hKc := hK.sub (tys' := [(cA, .int)]) [0] rfl
      have hDc := hD.sub (ws' := [(x0, .inr (1, [.ref a1, .ref a2, .ref a3, .int fi, .int me])), (a1, .inr (0, [.ref b1, .int (nI nh)])), (b1, .inl (cA, 2100, .inl fh)), (a2, .inr (0, [.ref b2, .int (nI nr)])), (b2, .inl (cA, 2100, .inl fr)), (a3, .inr (0, [.ref b3, .int (nI nk)])), (b3, .inl (cA, 2100, .inl fk))]) [0, 1, 2, 3, 4, 5, 6] (by decide) rfl
      have hFc := va_free (wc := [(x0, .inr (1, [.ref a1, .ref a2, .ref a3, .int fi, .int me])), (a1, .inr (0, [.ref b1, .int (nI nh)])), (b1, .inl (cA, 2100, .inl fh)), (a2, .inr (0, [.ref b2, .int (nI nr)])), (b2, .inl (cA, 2100, .inl fr)), (a3, .inr (0, [.ref b3, .int (nI nk)])), (b3, .inl (cA, 2100, .inl fk))]) hD hS hA [0, 1, 2, 3, 4, 5, 6] rfl
      refine va_calll (va_runV (As := [.int 0, .int 0]) (rest := []) ⟨hx, hb, hml, hown, hts⟩ (c_Hall_serve l dC dI (H.size) x0 a1 b1 a2 b2 a3 b3 nh nr nk cA fh gh fr gr fk gk fi me 0 0 (by omega) ha1 ha2 ha3 hF) (cwV 2 hts gL_law_X1_serve_v rfl rfl rfl (by decide +kernel) ⟨Nat.le_of_ble_eq_true rfl, Nat.le_of_ble_eq_true rfl⟩) ⟨q_blWN, va_recv hKc hPc (ci := 1) (q0 := 0) rfl rfl, fun U hU hW => ⟨rfl, by rw [hU], by rw [hU]; exact hPc, va_K.moved hW.alike hKc, hDc.weaken (fun _ _ _ _ => trivial), hN.warm hW⟩⟩ rfl rfl hl.1 rfl (lv_room (Nat.le_of_ble_eq_true rfl)) dL_law_381 ⟨by decide +kernel, by decide +kernel⟩) hS (fun q _ h => hFc q h) hFc (fun r_3 u_3 t_3 H1 locs ht hvm hw hB hz1 hk1 hS => ?_)
      obtain ⟨⟨gh_3, nh_3⟩, ⟨gr_3, nr_3⟩, ⟨gk_3, nk_3⟩, fi_3, me_3⟩ := u_3
      obtain ⟨fh_3, fr_3, fk_3, hh_3, hr_3, hk_3, hP1, hK1, hD1⟩ := hB
      rw [ht] at hP1
      obtain ⟨hP, hD⟩ := q_join (wr := [(m0, .inr (2, [.ref c1, .ref c2, .ref c3, .int (nI nh), .int (nI nr), .int (nI nk), .int fi, .int me])), (c1, .inl (cA, 2000, .inl eh)), (c2, .inl (cA, 2000, .inl er)), (c3, .inl (cA, 2000, .inl ek))]) (w1 := [(x0, .inr (1, [.ref a1, .ref a2, .ref a3, .int fi_3, .int me_3])), (a1, .inr (0, [.ref b1, .int (nI nh_3)])), (b1, .inl (cA, 2100, .inl fh_3)), (a2, .inr (0, [.ref b2, .int (nI nr_3)])), (b2, .inl (cA, 2100, .inl fr_3)), (a3, .inr (0, [.ref b3, .int (nI nk_3)])), (b3, .inl (cA, 2100, .inl fk_3))]) (wz := [(x0, .inr (1, [.ref a1, .ref a2, .ref a3, .int fi_3, .int me_3])), (a1, .inr (0, [.ref b1, .int (nI nh_3)])), (b1, .inl (cA, 2100, .inl fh_3)), (a2, .inr (0, [.ref b2, .int (nI nr_3)])), (b2, .inl (cA, 2100, .inl fr_3)), (a3, .inr (0, [.ref b3, .int (nI nk_3)])), (b3, .inl (cA, 2100, .inl fk_3)), (m0, .inr (2, [.ref c1, .ref c2, .ref c3, .int (nI nh), .int (nI nr), .int (nI nk), .int fi, .int me])), (c1, .inl (cA, 2000, .inl eh)), (c2, .inl (cA, 2000, .inl er)), (c3, .inl (cA, 2000, .inl ek))]) hP hD [0, 1, 2, 3, 4, 5, 6] [7, 8, 9, 10] [4, 5, 6, 7, 8, 9, 10, 0, 1, 2, 3] rfl rfl (by decide) (by decide) hk1 hFc hP1 hD1 rfl rfl (by decide)
      generalize H1 = H at hP hS ⊢
      have hw1 := hw
      refine lv_aload_n hx hb dL_law_384 rfl (lv_at hl 2 rfl) ?_
      refine lv_aload_n hx hb dL_law_385 rfl (lv_at hl 0 rfl) ?_
      refine lv_iload_n hx hb dL_law_386 rfl (lv_at hl 3 rfl) ?_
      refine lv_iconst (v := 1) hx hb dL_law_387 (by decide) ?_
      refine lv_iadd hx hb dL_law_388 ?_
      refine q_top (y := nI (i + 1)) (nI_1 i) ?_
      refine q_sld (k := i + 1) hx hb hX hbl hbA hS (by omega) (by omega) dL_law_389 ?_
      refine lv_if_eq (tgt := 397) hx hb dL_law_390 (by decide) (fun c_4 => ?_) (fun c_0 => absurd (show (xs (i + 1)) = (0 : Int32) from c_1) c_0)
      refine lv_iconst (v := 0) hx hb dL_law_397 (by decide) ?_
      refine lv_aload_n hx hb dL_law_398 rfl (lv_at hl 0 rfl) ?_
      refine lv_iload_n hx hb dL_law_399 rfl (lv_at hl 3 rfl) ?_
      refine lv_iconst (v := 2) hx hb dL_law_400 (by decide) ?_
      refine lv_iadd hx hb dL_law_401 ?_
      refine q_top (y := nI (i + 2)) (nI_add i 2) ?_
      refine q_sld (k := i + 2) hx hb hX hbl hbA hS (by omega) (by omega) dL_law_402 ?_
      refine lv_if_eq (tgt := 410) hx hb dL_law_403 (by decide) (fun c_5 => ?_) (fun c_0 => absurd (show (xs (i + 2)) = (0 : Int32) from c_2) c_0)
      refine lv_iconst (v := 0) hx hb dL_law_410 (by decide) ?_
      have hPc := hP.sub (ws' := [(m0, .inr (2, [.ref c1, .ref c2, .ref c3, .int (nI nh), .int (nI nr), .int (nI nk), .int fi, .int me])), (c1, .inl (cA, 2000, .inl eh)), (c2, .inl (cA, 2000, .inl er)), (c3, .inl (cA, 2000, .inl ek))]) [7, 8, 9, 10] rfl
      have hKc := hK.sub (tys' := [(cA, .int)]) [0] rfl
      have hDc := hD.sub (ws' := [(m0, .inr (2, [.ref c1, .ref c2, .ref c3, .int (nI nh), .int (nI nr), .int (nI nk), .int fi, .int me])), (c1, .inl (cA, 2000, .inl eh)), (c2, .inl (cA, 2000, .inl er)), (c3, .inl (cA, 2000, .inl ek))]) [7, 8, 9, 10] (by decide) rfl
      have hFc := va_free (wc := [(m0, .inr (2, [.ref c1, .ref c2, .ref c3, .int (nI nh), .int (nI nr), .int (nI nk), .int fi, .int me])), (c1, .inl (cA, 2000, .inl eh)), (c2, .inl (cA, 2000, .inl er)), (c3, .inl (cA, 2000, .inl ek))]) hD hS hA [7, 8, 9, 10] rfl
      refine va_calll (va_runV (As := [.int 0, .int 0]) (rest := [.long r_3]) ⟨hx, hb, hml, hown, hts⟩ (c_Mod_serve l dC dI (H.size) m0 c1 c2 c3 nh nr nk cA eh gh er gr ek gk fi me 0 0 (by omega) hb1 hb2 hb3 hF) (cwV 2 hts gL_law_X2_serve_v rfl rfl rfl (by decide +kernel) ⟨Nat.le_of_ble_eq_true rfl, Nat.le_of_ble_eq_true rfl⟩) ⟨q_blW, va_recv hKc hPc (ci := 2) (q0 := 0) rfl rfl, fun U hU hW => ⟨rfl, by rw [hU], by rw [hU]; exact hPc, va_K.moved hW.alike hKc, hDc.weaken (fun _ _ _ _ => trivial)⟩⟩ rfl rfl hl.1 rfl (lv_room (Nat.le_of_ble_eq_true rfl)) dL_law_411 ⟨by decide +kernel, by decide +kernel⟩) hS (fun q _ h => hFc q h) hFc (fun r_6 u_6 t_6 H1 locs ht hvm hw hB hz1 hk1 hS => ?_)
      obtain ⟨⟨gh_6, nh_6⟩, ⟨gr_6, nr_6⟩, ⟨gk_6, nk_6⟩, fi_6, me_6⟩ := u_6
      obtain ⟨eh_6, er_6, ek_6, hh_6, hr_6, hk_6, hP1, hK1, hD1⟩ := hB
      rw [ht] at hP1
      obtain ⟨hP, hD⟩ := q_join (wr := [(x0, .inr (1, [.ref a1, .ref a2, .ref a3, .int fi_3, .int me_3])), (a1, .inr (0, [.ref b1, .int (nI nh_3)])), (b1, .inl (cA, 2100, .inl fh_3)), (a2, .inr (0, [.ref b2, .int (nI nr_3)])), (b2, .inl (cA, 2100, .inl fr_3)), (a3, .inr (0, [.ref b3, .int (nI nk_3)])), (b3, .inl (cA, 2100, .inl fk_3))]) (w1 := [(m0, .inr (2, [.ref c1, .ref c2, .ref c3, .int (nI nh_6), .int (nI nr_6), .int (nI nk_6), .int fi_6, .int me_6])), (c1, .inl (cA, 2000, .inl eh_6)), (c2, .inl (cA, 2000, .inl er_6)), (c3, .inl (cA, 2000, .inl ek_6))]) (wz := [(x0, .inr (1, [.ref a1, .ref a2, .ref a3, .int fi_3, .int me_3])), (a1, .inr (0, [.ref b1, .int (nI nh_3)])), (b1, .inl (cA, 2100, .inl fh_3)), (a2, .inr (0, [.ref b2, .int (nI nr_3)])), (b2, .inl (cA, 2100, .inl fr_3)), (a3, .inr (0, [.ref b3, .int (nI nk_3)])), (b3, .inl (cA, 2100, .inl fk_3)), (m0, .inr (2, [.ref c1, .ref c2, .ref c3, .int (nI nh_6), .int (nI nr_6), .int (nI nk_6), .int fi_6, .int me_6])), (c1, .inl (cA, 2000, .inl eh_6)), (c2, .inl (cA, 2000, .inl er_6)), (c3, .inl (cA, 2000, .inl ek_6))]) hP hD [7, 8, 9, 10] [0, 1, 2, 3, 4, 5, 6] [0, 1, 2, 3, 4, 5, 6, 7, 8, 9, 10] rfl rfl (by decide) (by decide) hk1 hFc hP1 hD1 rfl rfl (by decide)
      generalize H1 = H at hP hS ⊢
      have hI1 : qInv (t + 1) (qServe 0 0 ((gh, nh), (gr, nr), (gk, nk), fi, me)).2 := qI_serve hI (by omega)
      rw [← hw1] at hI1
      have he := hw1.trans hw.symm
      simp only [Prod.mk.injEq] at he
      obtain ⟨rfl, ⟨rfl, rfl⟩, ⟨rfl, rfl⟩, ⟨rfl, rfl⟩, rfl, rfl⟩ := he
      have hP : va_P (dC, dI) vwCl [(x0, .inr (1, [.ref a1, .ref a2, .ref a3, .int fi_3, .int me_3])), (a1, .inr (0, [.ref b1, .int (nI nh_3)])), (b1, .inl (cA, 2100, .inl fh_3)), (a2, .inr (0, [.ref b2, .int (nI nr_3)])), (b2, .inl (cA, 2100, .inl fr_3)), (a3, .inr (0, [.ref b3, .int (nI nk_3)])), (b3, .inl (cA, 2100, .inl fk_3)), (m0, .inr (2, [.ref c1, .ref c2, .ref c3, .int (nI nh_3), .int (nI nr_3), .int (nI nk_3), .int fi_3, .int me_3])), (c1, .inl (cA, 2000, .inl eh_6)), (c2, .inl (cA, 2000, .inl er_6)), (c3, .inl (cA, 2000, .inl ek_6))] H := hP
      have hD : va_D (fun q : Nat => s.heap.size ≤ q) [(x0, .inr (1, [.ref a1, .ref a2, .ref a3, .int fi_3, .int me_3])), (a1, .inr (0, [.ref b1, .int (nI nh_3)])), (b1, .inl (cA, 2100, .inl fh_3)), (a2, .inr (0, [.ref b2, .int (nI nr_3)])), (b2, .inl (cA, 2100, .inl fr_3)), (a3, .inr (0, [.ref b3, .int (nI nk_3)])), (b3, .inl (cA, 2100, .inl fk_3)), (m0, .inr (2, [.ref c1, .ref c2, .ref c3, .int (nI nh_3), .int (nI nr_3), .int (nI nk_3), .int fi_3, .int me_3])), (c1, .inl (cA, 2000, .inl eh_6)), (c2, .inl (cA, 2000, .inl er_6)), (c3, .inl (cA, 2000, .inl ek_6))] := hD
      refine W.lcmp hx hb dL_law_414 ?_
      refine lv_if_eq (tgt := 899) hx hb dL_law_415 (by decide) (fun _ => ?_) (fun c_0 => absurd ((lg_cmp_eq _ _).mpr rfl) c_0)
      exact hk _ _ _ _ _ _ _ _ _ _ _ _ _ _ hI1 hh_3 hr_3 hk_3 hh_6 hr_6 hk_6 _ _ hP hD hS ls (lv_sub hl [0, 1, 2, 3] rfl)
    · refine lv_iconst (v := 1) hx hb dL_law_376 (by decide) ?_
      refine lv_goto (tgt := 381) hx hb dL_law_377 (by decide) ?_
      have hPc := hP.sub (ws' := [(x0, .inr (1, [.ref a1, .ref a2, .ref a3, .int fi, .int me])), (a1, .inr (0, [.ref b1, .int (nI nh)])), (b1, .inl (cA, 2100, .inl fh)), (a2, .inr (0, [.ref b2, .int (nI nr)])), (b2, .inl (cA, 2100, .inl fr)), (a3, .inr (0, [.ref b3, .int (nI nk)])), (b3, .inl (cA, 2100, .inl fk))]) [0, 1, 2, 3, 4, 5, 6] rfl
      have hKc := hK.sub (tys' := [(cA, .int)]) [0] rfl
      have hDc := hD.sub (ws' := [(x0, .inr (1, [.ref a1, .ref a2, .ref a3, .int fi, .int me])), (a1, .inr (0, [.ref b1, .int (nI nh)])), (b1, .inl (cA, 2100, .inl fh)), (a2, .inr (0, [.ref b2, .int (nI nr)])), (b2, .inl (cA, 2100, .inl fr)), (a3, .inr (0, [.ref b3, .int (nI nk)])), (b3, .inl (cA, 2100, .inl fk))]) [0, 1, 2, 3, 4, 5, 6] (by decide) rfl
      have hFc := va_free (wc := [(x0, .inr (1, [.ref a1, .ref a2, .ref a3, .int fi, .int me])), (a1, .inr (0, [.ref b1, .int (nI nh)])), (b1, .inl (cA, 2100, .inl fh)), (a2, .inr (0, [.ref b2, .int (nI nr)])), (b2, .inl (cA, 2100, .inl fr)), (a3, .inr (0, [.ref b3, .int (nI nk)])), (b3, .inl (cA, 2100, .inl fk))]) hD hS hA [0, 1, 2, 3, 4, 5, 6] rfl
      refine va_calll (va_runV (As := [.int 0, .int 1]) (rest := []) ⟨hx, hb, hml, hown, hts⟩ (c_Hall_serve l dC dI (H.size) x0 a1 b1 a2 b2 a3 b3 nh nr nk cA fh gh fr gr fk gk fi me 0 1 (by omega) ha1 ha2 ha3 hF) (cwV 2 hts gL_law_X1_serve_v rfl rfl rfl (by decide +kernel) ⟨Nat.le_of_ble_eq_true rfl, Nat.le_of_ble_eq_true rfl⟩) ⟨q_blWN, va_recv hKc hPc (ci := 1) (q0 := 0) rfl rfl, fun U hU hW => ⟨rfl, by rw [hU], by rw [hU]; exact hPc, va_K.moved hW.alike hKc, hDc.weaken (fun _ _ _ _ => trivial), hN.warm hW⟩⟩ rfl rfl hl.1 rfl (lv_room (Nat.le_of_ble_eq_true rfl)) dL_law_381 ⟨by decide +kernel, by decide +kernel⟩) hS (fun q _ h => hFc q h) hFc (fun r_7 u_7 t_7 H1 locs ht hvm hw hB hz1 hk1 hS => ?_)
      obtain ⟨⟨gh_7, nh_7⟩, ⟨gr_7, nr_7⟩, ⟨gk_7, nk_7⟩, fi_7, me_7⟩ := u_7
      obtain ⟨fh_7, fr_7, fk_7, hh_7, hr_7, hk_7, hP1, hK1, hD1⟩ := hB
      rw [ht] at hP1
      obtain ⟨hP, hD⟩ := q_join (wr := [(m0, .inr (2, [.ref c1, .ref c2, .ref c3, .int (nI nh), .int (nI nr), .int (nI nk), .int fi, .int me])), (c1, .inl (cA, 2000, .inl eh)), (c2, .inl (cA, 2000, .inl er)), (c3, .inl (cA, 2000, .inl ek))]) (w1 := [(x0, .inr (1, [.ref a1, .ref a2, .ref a3, .int fi_7, .int me_7])), (a1, .inr (0, [.ref b1, .int (nI nh_7)])), (b1, .inl (cA, 2100, .inl fh_7)), (a2, .inr (0, [.ref b2, .int (nI nr_7)])), (b2, .inl (cA, 2100, .inl fr_7)), (a3, .inr (0, [.ref b3, .int (nI nk_7)])), (b3, .inl (cA, 2100, .inl fk_7))]) (wz := [(x0, .inr (1, [.ref a1, .ref a2, .ref a3, .int fi_7, .int me_7])), (a1, .inr (0, [.ref b1, .int (nI nh_7)])), (b1, .inl (cA, 2100, .inl fh_7)), (a2, .inr (0, [.ref b2, .int (nI nr_7)])), (b2, .inl (cA, 2100, .inl fr_7)), (a3, .inr (0, [.ref b3, .int (nI nk_7)])), (b3, .inl (cA, 2100, .inl fk_7)), (m0, .inr (2, [.ref c1, .ref c2, .ref c3, .int (nI nh), .int (nI nr), .int (nI nk), .int fi, .int me])), (c1, .inl (cA, 2000, .inl eh)), (c2, .inl (cA, 2000, .inl er)), (c3, .inl (cA, 2000, .inl ek))]) hP hD [0, 1, 2, 3, 4, 5, 6] [7, 8, 9, 10] [4, 5, 6, 7, 8, 9, 10, 0, 1, 2, 3] rfl rfl (by decide) (by decide) hk1 hFc hP1 hD1 rfl rfl (by decide)
      generalize H1 = H at hP hS ⊢
      have hw1 := hw
      refine lv_aload_n hx hb dL_law_384 rfl (lv_at hl 2 rfl) ?_
      refine lv_aload_n hx hb dL_law_385 rfl (lv_at hl 0 rfl) ?_
      refine lv_iload_n hx hb dL_law_386 rfl (lv_at hl 3 rfl) ?_
      refine lv_iconst (v := 1) hx hb dL_law_387 (by decide) ?_
      refine lv_iadd hx hb dL_law_388 ?_
      refine q_top (y := nI (i + 1)) (nI_1 i) ?_
      refine q_sld (k := i + 1) hx hb hX hbl hbA hS (by omega) (by omega) dL_law_389 ?_
      refine lv_if_eq (tgt := 397) hx hb dL_law_390 (by decide) (fun c_8 => ?_) (fun c_0 => absurd (show (xs (i + 1)) = (0 : Int32) from c_1) c_0)
      refine lv_iconst (v := 0) hx hb dL_law_397 (by decide) ?_
      refine lv_aload_n hx hb dL_law_398 rfl (lv_at hl 0 rfl) ?_
      refine lv_iload_n hx hb dL_law_399 rfl (lv_at hl 3 rfl) ?_
      refine lv_iconst (v := 2) hx hb dL_law_400 (by decide) ?_
      refine lv_iadd hx hb dL_law_401 ?_
      refine q_top (y := nI (i + 2)) (nI_add i 2) ?_
      refine q_sld (k := i + 2) hx hb hX hbl hbA hS (by omega) (by omega) dL_law_402 ?_
      refine lv_if_eq (tgt := 410) hx hb dL_law_403 (by decide) (fun c_0 => absurd c_0 (show ¬ (xs (i + 2)) = (0 : Int32) from c_2)) (fun c_9 => ?_)
      refine lv_iconst (v := 1) hx hb dL_law_406 (by decide) ?_
      refine lv_goto (tgt := 411) hx hb dL_law_407 (by decide) ?_
      have hPc := hP.sub (ws' := [(m0, .inr (2, [.ref c1, .ref c2, .ref c3, .int (nI nh), .int (nI nr), .int (nI nk), .int fi, .int me])), (c1, .inl (cA, 2000, .inl eh)), (c2, .inl (cA, 2000, .inl er)), (c3, .inl (cA, 2000, .inl ek))]) [7, 8, 9, 10] rfl
      have hKc := hK.sub (tys' := [(cA, .int)]) [0] rfl
      have hDc := hD.sub (ws' := [(m0, .inr (2, [.ref c1, .ref c2, .ref c3, .int (nI nh), .int (nI nr), .int (nI nk), .int fi, .int me])), (c1, .inl (cA, 2000, .inl eh)), (c2, .inl (cA, 2000, .inl er)), (c3, .inl (cA, 2000, .inl ek))]) [7, 8, 9, 10] (by decide) rfl
      have hFc := va_free (wc := [(m0, .inr (2, [.ref c1, .ref c2, .ref c3, .int (nI nh), .int (nI nr), .int (nI nk), .int fi, .int me])), (c1, .inl (cA, 2000, .inl eh)), (c2, .inl (cA, 2000, .inl er)), (c3, .inl (cA, 2000, .inl ek))]) hD hS hA [7, 8, 9, 10] rfl
      refine va_calll (va_runV (As := [.int 0, .int 1]) (rest := [.long r_7]) ⟨hx, hb, hml, hown, hts⟩ (c_Mod_serve l dC dI (H.size) m0 c1 c2 c3 nh nr nk cA eh gh er gr ek gk fi me 0 1 (by omega) hb1 hb2 hb3 hF) (cwV 2 hts gL_law_X2_serve_v rfl rfl rfl (by decide +kernel) ⟨Nat.le_of_ble_eq_true rfl, Nat.le_of_ble_eq_true rfl⟩) ⟨q_blW, va_recv hKc hPc (ci := 2) (q0 := 0) rfl rfl, fun U hU hW => ⟨rfl, by rw [hU], by rw [hU]; exact hPc, va_K.moved hW.alike hKc, hDc.weaken (fun _ _ _ _ => trivial)⟩⟩ rfl rfl hl.1 rfl (lv_room (Nat.le_of_ble_eq_true rfl)) dL_law_411 ⟨by decide +kernel, by decide +kernel⟩) hS (fun q _ h => hFc q h) hFc (fun r_10 u_10 t_10 H1 locs ht hvm hw hB hz1 hk1 hS => ?_)
      obtain ⟨⟨gh_10, nh_10⟩, ⟨gr_10, nr_10⟩, ⟨gk_10, nk_10⟩, fi_10, me_10⟩ := u_10
      obtain ⟨eh_10, er_10, ek_10, hh_10, hr_10, hk_10, hP1, hK1, hD1⟩ := hB
      rw [ht] at hP1
      obtain ⟨hP, hD⟩ := q_join (wr := [(x0, .inr (1, [.ref a1, .ref a2, .ref a3, .int fi_7, .int me_7])), (a1, .inr (0, [.ref b1, .int (nI nh_7)])), (b1, .inl (cA, 2100, .inl fh_7)), (a2, .inr (0, [.ref b2, .int (nI nr_7)])), (b2, .inl (cA, 2100, .inl fr_7)), (a3, .inr (0, [.ref b3, .int (nI nk_7)])), (b3, .inl (cA, 2100, .inl fk_7))]) (w1 := [(m0, .inr (2, [.ref c1, .ref c2, .ref c3, .int (nI nh_10), .int (nI nr_10), .int (nI nk_10), .int fi_10, .int me_10])), (c1, .inl (cA, 2000, .inl eh_10)), (c2, .inl (cA, 2000, .inl er_10)), (c3, .inl (cA, 2000, .inl ek_10))]) (wz := [(x0, .inr (1, [.ref a1, .ref a2, .ref a3, .int fi_7, .int me_7])), (a1, .inr (0, [.ref b1, .int (nI nh_7)])), (b1, .inl (cA, 2100, .inl fh_7)), (a2, .inr (0, [.ref b2, .int (nI nr_7)])), (b2, .inl (cA, 2100, .inl fr_7)), (a3, .inr (0, [.ref b3, .int (nI nk_7)])), (b3, .inl (cA, 2100, .inl fk_7)), (m0, .inr (2, [.ref c1, .ref c2, .ref c3, .int (nI nh_10), .int (nI nr_10), .int (nI nk_10), .int fi_10, .int me_10])), (c1, .inl (cA, 2000, .inl eh_10)), (c2, .inl (cA, 2000, .inl er_10)), (c3, .inl (cA, 2000, .inl ek_10))]) hP hD [7, 8, 9, 10] [0, 1, 2, 3, 4, 5, 6] [0, 1, 2, 3, 4, 5, 6, 7, 8, 9, 10] rfl rfl (by decide) (by decide) hk1 hFc hP1 hD1 rfl rfl (by decide)
      generalize H1 = H at hP hS ⊢
      have hI1 : qInv (t + 1) (qServe 0 1 ((gh, nh), (gr, nr), (gk, nk), fi, me)).2 := qI_serve hI (by omega)
      rw [← hw1] at hI1
      have he := hw1.trans hw.symm
      simp only [Prod.mk.injEq] at he
      obtain ⟨rfl, ⟨rfl, rfl⟩, ⟨rfl, rfl⟩, ⟨rfl, rfl⟩, rfl, rfl⟩ := he
      have hP : va_P (dC, dI) vwCl [(x0, .inr (1, [.ref a1, .ref a2, .ref a3, .int fi_7, .int me_7])), (a1, .inr (0, [.ref b1, .int (nI nh_7)])), (b1, .inl (cA, 2100, .inl fh_7)), (a2, .inr (0, [.ref b2, .int (nI nr_7)])), (b2, .inl (cA, 2100, .inl fr_7)), (a3, .inr (0, [.ref b3, .int (nI nk_7)])), (b3, .inl (cA, 2100, .inl fk_7)), (m0, .inr (2, [.ref c1, .ref c2, .ref c3, .int (nI nh_7), .int (nI nr_7), .int (nI nk_7), .int fi_7, .int me_7])), (c1, .inl (cA, 2000, .inl eh_10)), (c2, .inl (cA, 2000, .inl er_10)), (c3, .inl (cA, 2000, .inl ek_10))] H := hP
      have hD : va_D (fun q : Nat => s.heap.size ≤ q) [(x0, .inr (1, [.ref a1, .ref a2, .ref a3, .int fi_7, .int me_7])), (a1, .inr (0, [.ref b1, .int (nI nh_7)])), (b1, .inl (cA, 2100, .inl fh_7)), (a2, .inr (0, [.ref b2, .int (nI nr_7)])), (b2, .inl (cA, 2100, .inl fr_7)), (a3, .inr (0, [.ref b3, .int (nI nk_7)])), (b3, .inl (cA, 2100, .inl fk_7)), (m0, .inr (2, [.ref c1, .ref c2, .ref c3, .int (nI nh_7), .int (nI nr_7), .int (nI nk_7), .int fi_7, .int me_7])), (c1, .inl (cA, 2000, .inl eh_10)), (c2, .inl (cA, 2000, .inl er_10)), (c3, .inl (cA, 2000, .inl ek_10))] := hD
      refine W.lcmp hx hb dL_law_414 ?_
      refine lv_if_eq (tgt := 899) hx hb dL_law_415 (by decide) (fun _ => ?_) (fun c_0 => absurd ((lg_cmp_eq _ _).mpr rfl) c_0)
      exact hk _ _ _ _ _ _ _ _ _ _ _ _ _ _ hI1 hh_7 hr_7 hk_7 hh_10 hr_10 hk_10 _ _ hP hD hS ls (lv_sub hl [0, 1, 2, 3] rfl)
  · refine lv_iconst (v := 1) hx hb dL_law_363 (by decide) ?_
    refine lv_goto (tgt := 368) hx hb dL_law_364 (by decide) ?_
    refine lv_aload_n hx hb dL_law_368 rfl (lv_at hl 0 rfl) ?_
    refine lv_iload_n hx hb dL_law_369 rfl (lv_at hl 3 rfl) ?_
    refine lv_iconst (v := 2) hx hb dL_law_370 (by decide) ?_
    refine lv_iadd hx hb dL_law_371 ?_
    refine q_top (y := nI (i + 2)) (nI_add i 2) ?_
    refine q_sld (k := i + 2) hx hb hX hbl hbA hS (by omega) (by omega) dL_law_372 ?_
    refine lv_if_eq (tgt := 380) hx hb dL_law_373 (by decide) (fun c_11 => ?_) (fun c_11 => ?_)
    · refine lv_iconst (v := 0) hx hb dL_law_380 (by decide) ?_
      have hPc := hP.sub (ws' := [(x0, .inr (1, [.ref a1, .ref a2, .ref a3, .int fi, .int me])), (a1, .inr (0, [.ref b1, .int (nI nh)])), (b1, .inl (cA, 2100, .inl fh)), (a2, .inr (0, [.ref b2, .int (nI nr)])), (b2, .inl (cA, 2100, .inl fr)), (a3, .inr (0, [.ref b3, .int (nI nk)])), (b3, .inl (cA, 2100, .inl fk))]) [0, 1, 2, 3, 4, 5, 6] rfl
      have hKc := hK.sub (tys' := [(cA, .int)]) [0] rfl
      have hDc := hD.sub (ws' := [(x0, .inr (1, [.ref a1, .ref a2, .ref a3, .int fi, .int me])), (a1, .inr (0, [.ref b1, .int (nI nh)])), (b1, .inl (cA, 2100, .inl fh)), (a2, .inr (0, [.ref b2, .int (nI nr)])), (b2, .inl (cA, 2100, .inl fr)), (a3, .inr (0, [.ref b3, .int (nI nk)])), (b3, .inl (cA, 2100, .inl fk))]) [0, 1, 2, 3, 4, 5, 6] (by decide) rfl
      have hFc := va_free (wc := [(x0, .inr (1, [.ref a1, .ref a2, .ref a3, .int fi, .int me])), (a1, .inr (0, [.ref b1, .int (nI nh)])), (b1, .inl (cA, 2100, .inl fh)), (a2, .inr (0, [.ref b2, .int (nI nr)])), (b2, .inl (cA, 2100, .inl fr)), (a3, .inr (0, [.ref b3, .int (nI nk)])), (b3, .inl (cA, 2100, .inl fk))]) hD hS hA [0, 1, 2, 3, 4, 5, 6] rfl
      refine va_calll (va_runV (As := [.int 1, .int 0]) (rest := []) ⟨hx, hb, hml, hown, hts⟩ (c_Hall_serve l dC dI (H.size) x0 a1 b1 a2 b2 a3 b3 nh nr nk cA fh gh fr gr fk gk fi me 1 0 (by omega) ha1 ha2 ha3 hF) (cwV 2 hts gL_law_X1_serve_v rfl rfl rfl (by decide +kernel) ⟨Nat.le_of_ble_eq_true rfl, Nat.le_of_ble_eq_true rfl⟩) ⟨q_blWN, va_recv hKc hPc (ci := 1) (q0 := 0) rfl rfl, fun U hU hW => ⟨rfl, by rw [hU], by rw [hU]; exact hPc, va_K.moved hW.alike hKc, hDc.weaken (fun _ _ _ _ => trivial), hN.warm hW⟩⟩ rfl rfl hl.1 rfl (lv_room (Nat.le_of_ble_eq_true rfl)) dL_law_381 ⟨by decide +kernel, by decide +kernel⟩) hS (fun q _ h => hFc q h) hFc (fun r_12 u_12 t_12 H1 locs ht hvm hw hB hz1 hk1 hS => ?_)
      obtain ⟨⟨gh_12, nh_12⟩, ⟨gr_12, nr_12⟩, ⟨gk_12, nk_12⟩, fi_12, me_12⟩ := u_12
      obtain ⟨fh_12, fr_12, fk_12, hh_12, hr_12, hk_12, hP1, hK1, hD1⟩ := hB
      rw [ht] at hP1
      obtain ⟨hP, hD⟩ := q_join (wr := [(m0, .inr (2, [.ref c1, .ref c2, .ref c3, .int (nI nh), .int (nI nr), .int (nI nk), .int fi, .int me])), (c1, .inl (cA, 2000, .inl eh)), (c2, .inl (cA, 2000, .inl er)), (c3, .inl (cA, 2000, .inl ek))]) (w1 := [(x0, .inr (1, [.ref a1, .ref a2, .ref a3, .int fi_12, .int me_12])), (a1, .inr (0, [.ref b1, .int (nI nh_12)])), (b1, .inl (cA, 2100, .inl fh_12)), (a2, .inr (0, [.ref b2, .int (nI nr_12)])), (b2, .inl (cA, 2100, .inl fr_12)), (a3, .inr (0, [.ref b3, .int (nI nk_12)])), (b3, .inl (cA, 2100, .inl fk_12))]) (wz := [(x0, .inr (1, [.ref a1, .ref a2, .ref a3, .int fi_12, .int me_12])), (a1, .inr (0, [.ref b1, .int (nI nh_12)])), (b1, .inl (cA, 2100, .inl fh_12)), (a2, .inr (0, [.ref b2, .int (nI nr_12)])), (b2, .inl (cA, 2100, .inl fr_12)), (a3, .inr (0, [.ref b3, .int (nI nk_12)])), (b3, .inl (cA, 2100, .inl fk_12)), (m0, .inr (2, [.ref c1, .ref c2, .ref c3, .int (nI nh), .int (nI nr), .int (nI nk), .int fi, .int me])), (c1, .inl (cA, 2000, .inl eh)), (c2, .inl (cA, 2000, .inl er)), (c3, .inl (cA, 2000, .inl ek))]) hP hD [0, 1, 2, 3, 4, 5, 6] [7, 8, 9, 10] [4, 5, 6, 7, 8, 9, 10, 0, 1, 2, 3] rfl rfl (by decide) (by decide) hk1 hFc hP1 hD1 rfl rfl (by decide)
      generalize H1 = H at hP hS ⊢
      have hw1 := hw
      refine lv_aload_n hx hb dL_law_384 rfl (lv_at hl 2 rfl) ?_
      refine lv_aload_n hx hb dL_law_385 rfl (lv_at hl 0 rfl) ?_
      refine lv_iload_n hx hb dL_law_386 rfl (lv_at hl 3 rfl) ?_
      refine lv_iconst (v := 1) hx hb dL_law_387 (by decide) ?_
      refine lv_iadd hx hb dL_law_388 ?_
      refine q_top (y := nI (i + 1)) (nI_1 i) ?_
      refine q_sld (k := i + 1) hx hb hX hbl hbA hS (by omega) (by omega) dL_law_389 ?_
      refine lv_if_eq (tgt := 397) hx hb dL_law_390 (by decide) (fun c_0 => absurd c_0 (show ¬ (xs (i + 1)) = (0 : Int32) from c_1)) (fun c_13 => ?_)
      refine lv_iconst (v := 1) hx hb dL_law_393 (by decide) ?_
      refine lv_goto (tgt := 398) hx hb dL_law_394 (by decide) ?_
      refine lv_aload_n hx hb dL_law_398 rfl (lv_at hl 0 rfl) ?_
      refine lv_iload_n hx hb dL_law_399 rfl (lv_at hl 3 rfl) ?_
      refine lv_iconst (v := 2) hx hb dL_law_400 (by decide) ?_
      refine lv_iadd hx hb dL_law_401 ?_
      refine q_top (y := nI (i + 2)) (nI_add i 2) ?_
      refine q_sld (k := i + 2) hx hb hX hbl hbA hS (by omega) (by omega) dL_law_402 ?_
      refine lv_if_eq (tgt := 410) hx hb dL_law_403 (by decide) (fun c_14 => ?_) (fun c_0 => absurd (show (xs (i + 2)) = (0 : Int32) from c_11) c_0)
      refine lv_iconst (v := 0) hx hb dL_law_410 (by decide) ?_
      have hPc := hP.sub (ws' := [(m0, .inr (2, [.ref c1, .ref c2, .ref c3, .int (nI nh), .int (nI nr), .int (nI nk), .int fi, .int me])), (c1, .inl (cA, 2000, .inl eh)), (c2, .inl (cA, 2000, .inl er)), (c3, .inl (cA, 2000, .inl ek))]) [7, 8, 9, 10] rfl
      have hKc := hK.sub (tys' := [(cA, .int)]) [0] rfl
      have hDc := hD.sub (ws' := [(m0, .inr (2, [.ref c1, .ref c2, .ref c3, .int (nI nh), .int (nI nr), .int (nI nk), .int fi, .int me])), (c1, .inl (cA, 2000, .inl eh)), (c2, .inl (cA, 2000, .inl er)), (c3, .inl (cA, 2000, .inl ek))]) [7, 8, 9, 10] (by decide) rfl
      have hFc := va_free (wc := [(m0, .inr (2, [.ref c1, .ref c2, .ref c3, .int (nI nh), .int (nI nr), .int (nI nk), .int fi, .int me])), (c1, .inl (cA, 2000, .inl eh)), (c2, .inl (cA, 2000, .inl er)), (c3, .inl (cA, 2000, .inl ek))]) hD hS hA [7, 8, 9, 10] rfl
      refine va_calll (va_runV (As := [.int 1, .int 0]) (rest := [.long r_12]) ⟨hx, hb, hml, hown, hts⟩ (c_Mod_serve l dC dI (H.size) m0 c1 c2 c3 nh nr nk cA eh gh er gr ek gk fi me 1 0 (by omega) hb1 hb2 hb3 hF) (cwV 2 hts gL_law_X2_serve_v rfl rfl rfl (by decide +kernel) ⟨Nat.le_of_ble_eq_true rfl, Nat.le_of_ble_eq_true rfl⟩) ⟨q_blW, va_recv hKc hPc (ci := 2) (q0 := 0) rfl rfl, fun U hU hW => ⟨rfl, by rw [hU], by rw [hU]; exact hPc, va_K.moved hW.alike hKc, hDc.weaken (fun _ _ _ _ => trivial)⟩⟩ rfl rfl hl.1 rfl (lv_room (Nat.le_of_ble_eq_true rfl)) dL_law_411 ⟨by decide +kernel, by decide +kernel⟩) hS (fun q _ h => hFc q h) hFc (fun r_15 u_15 t_15 H1 locs ht hvm hw hB hz1 hk1 hS => ?_)
      obtain ⟨⟨gh_15, nh_15⟩, ⟨gr_15, nr_15⟩, ⟨gk_15, nk_15⟩, fi_15, me_15⟩ := u_15
      obtain ⟨eh_15, er_15, ek_15, hh_15, hr_15, hk_15, hP1, hK1, hD1⟩ := hB
      rw [ht] at hP1
      obtain ⟨hP, hD⟩ := q_join (wr := [(x0, .inr (1, [.ref a1, .ref a2, .ref a3, .int fi_12, .int me_12])), (a1, .inr (0, [.ref b1, .int (nI nh_12)])), (b1, .inl (cA, 2100, .inl fh_12)), (a2, .inr (0, [.ref b2, .int (nI nr_12)])), (b2, .inl (cA, 2100, .inl fr_12)), (a3, .inr (0, [.ref b3, .int (nI nk_12)])), (b3, .inl (cA, 2100, .inl fk_12))]) (w1 := [(m0, .inr (2, [.ref c1, .ref c2, .ref c3, .int (nI nh_15), .int (nI nr_15), .int (nI nk_15), .int fi_15, .int me_15])), (c1, .inl (cA, 2000, .inl eh_15)), (c2, .inl (cA, 2000, .inl er_15)), (c3, .inl (cA, 2000, .inl ek_15))]) (wz := [(x0, .inr (1, [.ref a1, .ref a2, .ref a3, .int fi_12, .int me_12])), (a1, .inr (0, [.ref b1, .int (nI nh_12)])), (b1, .inl (cA, 2100, .inl fh_12)), (a2, .inr (0, [.ref b2, .int (nI nr_12)])), (b2, .inl (cA, 2100, .inl fr_12)), (a3, .inr (0, [.ref b3, .int (nI nk_12)])), (b3, .inl (cA, 2100, .inl fk_12)), (m0, .inr (2, [.ref c1, .ref c2, .ref c3, .int (nI nh_15), .int (nI nr_15), .int (nI nk_15), .int fi_15, .int me_15])), (c1, .inl (cA, 2000, .inl eh_15)), (c2, .inl (cA, 2000, .inl er_15)), (c3, .inl (cA, 2000, .inl ek_15))]) hP hD [7, 8, 9, 10] [0, 1, 2, 3, 4, 5, 6] [0, 1, 2, 3, 4, 5, 6, 7, 8, 9, 10] rfl rfl (by decide) (by decide) hk1 hFc hP1 hD1 rfl rfl (by decide)
      generalize H1 = H at hP hS ⊢
      have hI1 : qInv (t + 1) (qServe 1 0 ((gh, nh), (gr, nr), (gk, nk), fi, me)).2 := qI_serve hI (by omega)
      rw [← hw1] at hI1
      have he := hw1.trans hw.symm
      simp only [Prod.mk.injEq] at he
      obtain ⟨rfl, ⟨rfl, rfl⟩, ⟨rfl, rfl⟩, ⟨rfl, rfl⟩, rfl, rfl⟩ := he
      have hP : va_P (dC, dI) vwCl [(x0, .inr (1, [.ref a1, .ref a2, .ref a3, .int fi_12, .int me_12])), (a1, .inr (0, [.ref b1, .int (nI nh_12)])), (b1, .inl (cA, 2100, .inl fh_12)), (a2, .inr (0, [.ref b2, .int (nI nr_12)])), (b2, .inl (cA, 2100, .inl fr_12)), (a3, .inr (0, [.ref b3, .int (nI nk_12)])), (b3, .inl (cA, 2100, .inl fk_12)), (m0, .inr (2, [.ref c1, .ref c2, .ref c3, .int (nI nh_12), .int (nI nr_12), .int (nI nk_12), .int fi_12, .int me_12])), (c1, .inl (cA, 2000, .inl eh_15)), (c2, .inl (cA, 2000, .inl er_15)), (c3, .inl (cA, 2000, .inl ek_15))] H := hP
      have hD : va_D (fun q : Nat => s.heap.size ≤ q) [(x0, .inr (1, [.ref a1, .ref a2, .ref a3, .int fi_12, .int me_12])), (a1, .inr (0, [.ref b1, .int (nI nh_12)])), (b1, .inl (cA, 2100, .inl fh_12)), (a2, .inr (0, [.ref b2, .int (nI nr_12)])), (b2, .inl (cA, 2100, .inl fr_12)), (a3, .inr (0, [.ref b3, .int (nI nk_12)])), (b3, .inl (cA, 2100, .inl fk_12)), (m0, .inr (2, [.ref c1, .ref c2, .ref c3, .int (nI nh_12), .int (nI nr_12), .int (nI nk_12), .int fi_12, .int me_12])), (c1, .inl (cA, 2000, .inl eh_15)), (c2, .inl (cA, 2000, .inl er_15)), (c3, .inl (cA, 2000, .inl ek_15))] := hD
      refine W.lcmp hx hb dL_law_414 ?_
      refine lv_if_eq (tgt := 899) hx hb dL_law_415 (by decide) (fun _ => ?_) (fun c_0 => absurd ((lg_cmp_eq _ _).mpr rfl) c_0)
      exact hk _ _ _ _ _ _ _ _ _ _ _ _ _ _ hI1 hh_12 hr_12 hk_12 hh_15 hr_15 hk_15 _ _ hP hD hS ls (lv_sub hl [0, 1, 2, 3] rfl)
    · refine lv_iconst (v := 1) hx hb dL_law_376 (by decide) ?_
      refine lv_goto (tgt := 381) hx hb dL_law_377 (by decide) ?_
      have hPc := hP.sub (ws' := [(x0, .inr (1, [.ref a1, .ref a2, .ref a3, .int fi, .int me])), (a1, .inr (0, [.ref b1, .int (nI nh)])), (b1, .inl (cA, 2100, .inl fh)), (a2, .inr (0, [.ref b2, .int (nI nr)])), (b2, .inl (cA, 2100, .inl fr)), (a3, .inr (0, [.ref b3, .int (nI nk)])), (b3, .inl (cA, 2100, .inl fk))]) [0, 1, 2, 3, 4, 5, 6] rfl
      have hKc := hK.sub (tys' := [(cA, .int)]) [0] rfl
      have hDc := hD.sub (ws' := [(x0, .inr (1, [.ref a1, .ref a2, .ref a3, .int fi, .int me])), (a1, .inr (0, [.ref b1, .int (nI nh)])), (b1, .inl (cA, 2100, .inl fh)), (a2, .inr (0, [.ref b2, .int (nI nr)])), (b2, .inl (cA, 2100, .inl fr)), (a3, .inr (0, [.ref b3, .int (nI nk)])), (b3, .inl (cA, 2100, .inl fk))]) [0, 1, 2, 3, 4, 5, 6] (by decide) rfl
      have hFc := va_free (wc := [(x0, .inr (1, [.ref a1, .ref a2, .ref a3, .int fi, .int me])), (a1, .inr (0, [.ref b1, .int (nI nh)])), (b1, .inl (cA, 2100, .inl fh)), (a2, .inr (0, [.ref b2, .int (nI nr)])), (b2, .inl (cA, 2100, .inl fr)), (a3, .inr (0, [.ref b3, .int (nI nk)])), (b3, .inl (cA, 2100, .inl fk))]) hD hS hA [0, 1, 2, 3, 4, 5, 6] rfl
      refine va_calll (va_runV (As := [.int 1, .int 1]) (rest := []) ⟨hx, hb, hml, hown, hts⟩ (c_Hall_serve l dC dI (H.size) x0 a1 b1 a2 b2 a3 b3 nh nr nk cA fh gh fr gr fk gk fi me 1 1 (by omega) ha1 ha2 ha3 hF) (cwV 2 hts gL_law_X1_serve_v rfl rfl rfl (by decide +kernel) ⟨Nat.le_of_ble_eq_true rfl, Nat.le_of_ble_eq_true rfl⟩) ⟨q_blWN, va_recv hKc hPc (ci := 1) (q0 := 0) rfl rfl, fun U hU hW => ⟨rfl, by rw [hU], by rw [hU]; exact hPc, va_K.moved hW.alike hKc, hDc.weaken (fun _ _ _ _ => trivial), hN.warm hW⟩⟩ rfl rfl hl.1 rfl (lv_room (Nat.le_of_ble_eq_true rfl)) dL_law_381 ⟨by decide +kernel, by decide +kernel⟩) hS (fun q _ h => hFc q h) hFc (fun r_16 u_16 t_16 H1 locs ht hvm hw hB hz1 hk1 hS => ?_)
      obtain ⟨⟨gh_16, nh_16⟩, ⟨gr_16, nr_16⟩, ⟨gk_16, nk_16⟩, fi_16, me_16⟩ := u_16
      obtain ⟨fh_16, fr_16, fk_16, hh_16, hr_16, hk_16, hP1, hK1, hD1⟩ := hB
      rw [ht] at hP1
      obtain ⟨hP, hD⟩ := q_join (wr := [(m0, .inr (2, [.ref c1, .ref c2, .ref c3, .int (nI nh), .int (nI nr), .int (nI nk), .int fi, .int me])), (c1, .inl (cA, 2000, .inl eh)), (c2, .inl (cA, 2000, .inl er)), (c3, .inl (cA, 2000, .inl ek))]) (w1 := [(x0, .inr (1, [.ref a1, .ref a2, .ref a3, .int fi_16, .int me_16])), (a1, .inr (0, [.ref b1, .int (nI nh_16)])), (b1, .inl (cA, 2100, .inl fh_16)), (a2, .inr (0, [.ref b2, .int (nI nr_16)])), (b2, .inl (cA, 2100, .inl fr_16)), (a3, .inr (0, [.ref b3, .int (nI nk_16)])), (b3, .inl (cA, 2100, .inl fk_16))]) (wz := [(x0, .inr (1, [.ref a1, .ref a2, .ref a3, .int fi_16, .int me_16])), (a1, .inr (0, [.ref b1, .int (nI nh_16)])), (b1, .inl (cA, 2100, .inl fh_16)), (a2, .inr (0, [.ref b2, .int (nI nr_16)])), (b2, .inl (cA, 2100, .inl fr_16)), (a3, .inr (0, [.ref b3, .int (nI nk_16)])), (b3, .inl (cA, 2100, .inl fk_16)), (m0, .inr (2, [.ref c1, .ref c2, .ref c3, .int (nI nh), .int (nI nr), .int (nI nk), .int fi, .int me])), (c1, .inl (cA, 2000, .inl eh)), (c2, .inl (cA, 2000, .inl er)), (c3, .inl (cA, 2000, .inl ek))]) hP hD [0, 1, 2, 3, 4, 5, 6] [7, 8, 9, 10] [4, 5, 6, 7, 8, 9, 10, 0, 1, 2, 3] rfl rfl (by decide) (by decide) hk1 hFc hP1 hD1 rfl rfl (by decide)
      generalize H1 = H at hP hS ⊢
      have hw1 := hw
      refine lv_aload_n hx hb dL_law_384 rfl (lv_at hl 2 rfl) ?_
      refine lv_aload_n hx hb dL_law_385 rfl (lv_at hl 0 rfl) ?_
      refine lv_iload_n hx hb dL_law_386 rfl (lv_at hl 3 rfl) ?_
      refine lv_iconst (v := 1) hx hb dL_law_387 (by decide) ?_
      refine lv_iadd hx hb dL_law_388 ?_
      refine q_top (y := nI (i + 1)) (nI_1 i) ?_
      refine q_sld (k := i + 1) hx hb hX hbl hbA hS (by omega) (by omega) dL_law_389 ?_
      refine lv_if_eq (tgt := 397) hx hb dL_law_390 (by decide) (fun c_0 => absurd c_0 (show ¬ (xs (i + 1)) = (0 : Int32) from c_1)) (fun c_17 => ?_)
      refine lv_iconst (v := 1) hx hb dL_law_393 (by decide) ?_
      refine lv_goto (tgt := 398) hx hb dL_law_394 (by decide) ?_
      refine lv_aload_n hx hb dL_law_398 rfl (lv_at hl 0 rfl) ?_
      refine lv_iload_n hx hb dL_law_399 rfl (lv_at hl 3 rfl) ?_
      refine lv_iconst (v := 2) hx hb dL_law_400 (by decide) ?_
      refine lv_iadd hx hb dL_law_401 ?_
      refine q_top (y := nI (i + 2)) (nI_add i 2) ?_
      refine q_sld (k := i + 2) hx hb hX hbl hbA hS (by omega) (by omega) dL_law_402 ?_
      refine lv_if_eq (tgt := 410) hx hb dL_law_403 (by decide) (fun c_0 => absurd c_0 (show ¬ (xs (i + 2)) = (0 : Int32) from c_11)) (fun c_18 => ?_)
      refine lv_iconst (v := 1) hx hb dL_law_406 (by decide) ?_
      refine lv_goto (tgt := 411) hx hb dL_law_407 (by decide) ?_
      have hPc := hP.sub (ws' := [(m0, .inr (2, [.ref c1, .ref c2, .ref c3, .int (nI nh), .int (nI nr), .int (nI nk), .int fi, .int me])), (c1, .inl (cA, 2000, .inl eh)), (c2, .inl (cA, 2000, .inl er)), (c3, .inl (cA, 2000, .inl ek))]) [7, 8, 9, 10] rfl
      have hKc := hK.sub (tys' := [(cA, .int)]) [0] rfl
      have hDc := hD.sub (ws' := [(m0, .inr (2, [.ref c1, .ref c2, .ref c3, .int (nI nh), .int (nI nr), .int (nI nk), .int fi, .int me])), (c1, .inl (cA, 2000, .inl eh)), (c2, .inl (cA, 2000, .inl er)), (c3, .inl (cA, 2000, .inl ek))]) [7, 8, 9, 10] (by decide) rfl
      have hFc := va_free (wc := [(m0, .inr (2, [.ref c1, .ref c2, .ref c3, .int (nI nh), .int (nI nr), .int (nI nk), .int fi, .int me])), (c1, .inl (cA, 2000, .inl eh)), (c2, .inl (cA, 2000, .inl er)), (c3, .inl (cA, 2000, .inl ek))]) hD hS hA [7, 8, 9, 10] rfl
      refine va_calll (va_runV (As := [.int 1, .int 1]) (rest := [.long r_16]) ⟨hx, hb, hml, hown, hts⟩ (c_Mod_serve l dC dI (H.size) m0 c1 c2 c3 nh nr nk cA eh gh er gr ek gk fi me 1 1 (by omega) hb1 hb2 hb3 hF) (cwV 2 hts gL_law_X2_serve_v rfl rfl rfl (by decide +kernel) ⟨Nat.le_of_ble_eq_true rfl, Nat.le_of_ble_eq_true rfl⟩) ⟨q_blW, va_recv hKc hPc (ci := 2) (q0 := 0) rfl rfl, fun U hU hW => ⟨rfl, by rw [hU], by rw [hU]; exact hPc, va_K.moved hW.alike hKc, hDc.weaken (fun _ _ _ _ => trivial)⟩⟩ rfl rfl hl.1 rfl (lv_room (Nat.le_of_ble_eq_true rfl)) dL_law_411 ⟨by decide +kernel, by decide +kernel⟩) hS (fun q _ h => hFc q h) hFc (fun r_19 u_19 t_19 H1 locs ht hvm hw hB hz1 hk1 hS => ?_)
      obtain ⟨⟨gh_19, nh_19⟩, ⟨gr_19, nr_19⟩, ⟨gk_19, nk_19⟩, fi_19, me_19⟩ := u_19
      obtain ⟨eh_19, er_19, ek_19, hh_19, hr_19, hk_19, hP1, hK1, hD1⟩ := hB
      rw [ht] at hP1
      obtain ⟨hP, hD⟩ := q_join (wr := [(x0, .inr (1, [.ref a1, .ref a2, .ref a3, .int fi_16, .int me_16])), (a1, .inr (0, [.ref b1, .int (nI nh_16)])), (b1, .inl (cA, 2100, .inl fh_16)), (a2, .inr (0, [.ref b2, .int (nI nr_16)])), (b2, .inl (cA, 2100, .inl fr_16)), (a3, .inr (0, [.ref b3, .int (nI nk_16)])), (b3, .inl (cA, 2100, .inl fk_16))]) (w1 := [(m0, .inr (2, [.ref c1, .ref c2, .ref c3, .int (nI nh_19), .int (nI nr_19), .int (nI nk_19), .int fi_19, .int me_19])), (c1, .inl (cA, 2000, .inl eh_19)), (c2, .inl (cA, 2000, .inl er_19)), (c3, .inl (cA, 2000, .inl ek_19))]) (wz := [(x0, .inr (1, [.ref a1, .ref a2, .ref a3, .int fi_16, .int me_16])), (a1, .inr (0, [.ref b1, .int (nI nh_16)])), (b1, .inl (cA, 2100, .inl fh_16)), (a2, .inr (0, [.ref b2, .int (nI nr_16)])), (b2, .inl (cA, 2100, .inl fr_16)), (a3, .inr (0, [.ref b3, .int (nI nk_16)])), (b3, .inl (cA, 2100, .inl fk_16)), (m0, .inr (2, [.ref c1, .ref c2, .ref c3, .int (nI nh_19), .int (nI nr_19), .int (nI nk_19), .int fi_19, .int me_19])), (c1, .inl (cA, 2000, .inl eh_19)), (c2, .inl (cA, 2000, .inl er_19)), (c3, .inl (cA, 2000, .inl ek_19))]) hP hD [7, 8, 9, 10] [0, 1, 2, 3, 4, 5, 6] [0, 1, 2, 3, 4, 5, 6, 7, 8, 9, 10] rfl rfl (by decide) (by decide) hk1 hFc hP1 hD1 rfl rfl (by decide)
      generalize H1 = H at hP hS ⊢
      have hI1 : qInv (t + 1) (qServe 1 1 ((gh, nh), (gr, nr), (gk, nk), fi, me)).2 := qI_serve hI (by omega)
      rw [← hw1] at hI1
      have he := hw1.trans hw.symm
      simp only [Prod.mk.injEq] at he
      obtain ⟨rfl, ⟨rfl, rfl⟩, ⟨rfl, rfl⟩, ⟨rfl, rfl⟩, rfl, rfl⟩ := he
      have hP : va_P (dC, dI) vwCl [(x0, .inr (1, [.ref a1, .ref a2, .ref a3, .int fi_16, .int me_16])), (a1, .inr (0, [.ref b1, .int (nI nh_16)])), (b1, .inl (cA, 2100, .inl fh_16)), (a2, .inr (0, [.ref b2, .int (nI nr_16)])), (b2, .inl (cA, 2100, .inl fr_16)), (a3, .inr (0, [.ref b3, .int (nI nk_16)])), (b3, .inl (cA, 2100, .inl fk_16)), (m0, .inr (2, [.ref c1, .ref c2, .ref c3, .int (nI nh_16), .int (nI nr_16), .int (nI nk_16), .int fi_16, .int me_16])), (c1, .inl (cA, 2000, .inl eh_19)), (c2, .inl (cA, 2000, .inl er_19)), (c3, .inl (cA, 2000, .inl ek_19))] H := hP
      have hD : va_D (fun q : Nat => s.heap.size ≤ q) [(x0, .inr (1, [.ref a1, .ref a2, .ref a3, .int fi_16, .int me_16])), (a1, .inr (0, [.ref b1, .int (nI nh_16)])), (b1, .inl (cA, 2100, .inl fh_16)), (a2, .inr (0, [.ref b2, .int (nI nr_16)])), (b2, .inl (cA, 2100, .inl fr_16)), (a3, .inr (0, [.ref b3, .int (nI nk_16)])), (b3, .inl (cA, 2100, .inl fk_16)), (m0, .inr (2, [.ref c1, .ref c2, .ref c3, .int (nI nh_16), .int (nI nr_16), .int (nI nk_16), .int fi_16, .int me_16])), (c1, .inl (cA, 2000, .inl eh_19)), (c2, .inl (cA, 2000, .inl er_19)), (c3, .inl (cA, 2000, .inl ek_19))] := hD
      refine W.lcmp hx hb dL_law_414 ?_
      refine lv_if_eq (tgt := 899) hx hb dL_law_415 (by decide) (fun _ => ?_) (fun c_0 => absurd ((lg_cmp_eq _ _).mpr rfl) c_0)
      exact hk _ _ _ _ _ _ _ _ _ _ _ _ _ _ hI1 hh_16 hr_16 hk_16 hh_19 hr_19 hk_19 _ _ hP hD hS ls (lv_sub hl [0, 1, 2, 3] rfl)

