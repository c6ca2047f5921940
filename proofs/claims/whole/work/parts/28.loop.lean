set_option maxHeartbeats 4000000 in
set_option maxRecDepth 100000 in
theorem law_loop {p : Program} {l : Launch} {e : Env} {s : State} {m : MethodId} {below : List Frame} {meth : Method} {c : Code} {dC : Nat → ClassId} {dI : Nat → Nat → Nat} {b L x0 a1 b1 a2 b2 a3 b3 m0 c1 c2 c3 : Nat} {cA : ClassId} {xs : Nat → Int32} (hL : L ≤ 2048) (C0 : lw_At p s m meth c b L xs) (hK : va_K (dC, dI) vwCl [(cA, .int)] s) : ∀ (fu i t : Nat), L + 1 ≤ i + fu → i = 4 * t → i ≤ L → lw_K p l e s m below meth c dC dI b x0 a1 b1 a2 b2 a3 b3 m0 c1 c2 c3 cA 18 i t := by
  intro fu
  induction fu with
  | zero =>
    intro i t hfu ht hi
    exact absurd hfu (by omega)
  | succ fu ih =>
    intro i t hfu ht hi gh gr gk fh fr fk eh er ek nh nr nk fi me hI ha1 ha2 ha3 hb1 hb2 hb3 H locs hP hD hS ls hl
    obtain ⟨hx, hb, hr, hml, hown, hts, hX, hbl, hlocks, hgv⟩ := id C0
    have hbA : ¬ (fun q : Nat => s.heap.size ≤ q) b := Nat.not_le.mpr hbl
    refine lv_iload_n hx hb dL_law_18 rfl (lv_at hl 3 rfl) ?_
    refine lv_aload_n hx hb dL_law_19 rfl (lv_at hl 0 rfl) ?_
    refine va_slen hx hb hX hbl hbA hS dL_law_20 ?_
    refine lv_iconst (v := 4) hx hb dL_law_21 (by decide) ?_
    refine lv_isub hx hb dL_law_22 ?_
    have hq : (Int32.ofNat L - 4 < nI i) ↔ (L : Int) - 4 < i := by
      rw [ti_lt, nI_toInt (show i < 2 ^ 31 by omega)]
      have q := pk_sub_toInt (a := L) (b := 4) (by omega) (by omega)
      rw [show (Int32.ofNat L - 4) = nI L - nI 4 from rfl, q]
      omega
    refine lv_icmp_gt (tgt := 905) hx hb dL_law_23 (by decide) (fun c_1 => ?_) (fun c_1 => ?_)
    · refine lv_iconst (v := 1) hx hb dL_law_905 (by decide) ?_
      refine va_forget (fun q hq => hS.2.2 q hq) ?_
      exact lw_ret hx hb hr hlocks dL_law_906
    · rw [hq] at c_1
      have hi4 : i + 4 ≤ L := by omega
      have h899 : lw_K p l e s m below meth c dC dI b x0 a1 b1 a2 b2 a3 b3 m0 c1 c2 c3 cA 899 i (t + 1) := by
        intro gh gr gk fh fr fk eh er ek nh nr nk fi me hI ha1 ha2 ha3 hb1 hb2 hb3 H locs hP hD hS ls hl
        refine lv_iinc (v := nI (i + 4)) (lv' := [(3, .int (nI (i + 4))), (0, .ref b), (1, .ref x0), (2, .ref m0)]) hx hb dL_law_899 hl (k := 3) rfl (nI_add i 4) (by decide) rfl (fun ls hl => ?_)
        refine lv_goto (tgt := 18) hx hb dL_law_902 (by decide) ?_
        exact ih (i + 4) (t + 1) (by omega) (by omega) hi4 gh gr gk fh fr fk eh er ek nh nr nk fi me hI ha1 ha2 ha3 hb1 hb2 hb3 H locs hP hD hS ls (lv_sub hl [1, 2, 3, 0] rfl)
      refine lv_aload_n hx hb dL_law_26 rfl (lv_at hl 0 rfl) ?_
      refine lv_iload_n hx hb dL_law_27 rfl (lv_at hl 3 rfl) ?_
      refine q_sld (k := i) hx hb hX hbl hbA hS (by omega) (by omega) dL_law_28 ?_
      refine lv_bipush (v := 31) hx hb dL_law_29 (by decide) ?_
      refine lv_iand hx hb dL_law_31 ?_
      obtain ⟨j, hj, hje⟩ := pk_andE (xs i) (m := 31) 5 (by decide)
      rcases Nat.lt_or_ge j 23 with h23 | h23
      · rcases q_23 h23 with rfl | rfl | rfl | rfl | rfl | rfl | rfl | rfl | rfl | rfl | rfl | rfl | rfl | rfl | rfl | rfl | rfl | rfl | rfl | rfl | rfl | rfl | rfl
        · refine q_top (y := 0) (hje.trans rfl) ?_
          refine lv_tableIn (off := 108) (tgt := 140) hx hb dL_law_32 (by decide) (by decide) (by decide +kernel) (by decide) ?_
          exact law_0 hL C0 hK ht hi4 h899 gh gr gk fh fr fk eh er ek nh nr nk fi me hI ha1 ha2 ha3 hb1 hb2 hb3 H locs hP hD hS ls hl
        · refine q_top (y := 1) (hje.trans rfl) ?_
          refine lv_tableIn (off := 131) (tgt := 163) hx hb dL_law_32 (by decide) (by decide) (by decide +kernel) (by decide) ?_
          exact law_1 hL C0 hK ht hi4 h899 gh gr gk fh fr fk eh er ek nh nr nk fi me hI ha1 ha2 ha3 hb1 hb2 hb3 H locs hP hD hS ls hl
        · refine q_top (y := 2) (hje.trans rfl) ?_
          refine lv_tableIn (off := 171) (tgt := 203) hx hb dL_law_32 (by decide) (by decide) (by decide +kernel) (by decide) ?_
          exact law_2 hL C0 hK ht hi4 h899 gh gr gk fh fr fk eh er ek nh nr nk fi me hI ha1 ha2 ha3 hb1 hb2 hb3 H locs hP hD hS ls hl
        · refine q_top (y := 3) (hje.trans rfl) ?_
          refine lv_tableIn (off := 194) (tgt := 226) hx hb dL_law_32 (by decide) (by decide) (by decide +kernel) (by decide) ?_
          exact law_3 hL C0 hK ht hi4 h899 gh gr gk fh fr fk eh er ek nh nr nk fi me hI ha1 ha2 ha3 hb1 hb2 hb3 H locs hP hD hS ls hl
        · refine q_top (y := 4) (hje.trans rfl) ?_
          refine lv_tableIn (off := 227) (tgt := 259) hx hb dL_law_32 (by decide) (by decide) (by decide +kernel) (by decide) ?_
          exact law_4 hL C0 hK ht hi4 h899 gh gr gk fh fr fk eh er ek nh nr nk fi me hI ha1 ha2 ha3 hb1 hb2 hb3 H locs hP hD hS ls hl
        · refine q_top (y := 5) (hje.trans rfl) ?_
          refine lv_tableIn (off := 250) (tgt := 282) hx hb dL_law_32 (by decide) (by decide) (by decide +kernel) (by decide) ?_
          exact law_5 hL C0 hK ht hi4 h899 gh gr gk fh fr fk eh er ek nh nr nk fi me hI ha1 ha2 ha3 hb1 hb2 hb3 H locs hP hD hS ls hl
        · refine q_top (y := 6) (hje.trans rfl) ?_
          refine lv_tableIn (off := 273) (tgt := 305) hx hb dL_law_32 (by decide) (by decide) (by decide +kernel) (by decide) ?_
          exact law_6 hL C0 hK ht hi4 h899 gh gr gk fh fr fk eh er ek nh nr nk fi me hI ha1 ha2 ha3 hb1 hb2 hb3 H locs hP hD hS ls hl
        · refine q_top (y := 7) (hje.trans rfl) ?_
          refine lv_tableIn (off := 322) (tgt := 354) hx hb dL_law_32 (by decide) (by decide) (by decide +kernel) (by decide) ?_
          exact law_7 hL C0 hK ht hi4 h899 gh gr gk fh fr fk eh er ek nh nr nk fi me hI ha1 ha2 ha3 hb1 hb2 hb3 H locs hP hD hS ls hl
        · refine q_top (y := 8) (hje.trans rfl) ?_
          refine lv_tableIn (off := 388) (tgt := 420) hx hb dL_law_32 (by decide) (by decide) (by decide +kernel) (by decide) ?_
          exact law_8 hL C0 hK ht hi4 h899 gh gr gk fh fr fk eh er ek nh nr nk fi me hI ha1 ha2 ha3 hb1 hb2 hb3 H locs hP hD hS ls hl
        · refine q_top (y := 9) (hje.trans rfl) ?_
          refine lv_tableIn (off := 437) (tgt := 469) hx hb dL_law_32 (by decide) (by decide) (by decide +kernel) (by decide) ?_
          exact law_9 hL C0 hK ht hi4 h899 gh gr gk fh fr fk eh er ek nh nr nk fi me hI ha1 ha2 ha3 hb1 hb2 hb3 H locs hP hD hS ls hl
        · refine q_top (y := 10) (hje.trans rfl) ?_
          refine lv_tableIn (off := 487) (tgt := 519) hx hb dL_law_32 (by decide) (by decide) (by decide +kernel) (by decide) ?_
          exact law_10 hL C0 hK ht hi4 h899 gh gr gk fh fr fk eh er ek nh nr nk fi me hI ha1 ha2 ha3 hb1 hb2 hb3 H locs hP hD hS ls hl
        · refine q_top (y := 11) (hje.trans rfl) ?_
          refine lv_tableIn (off := 520) (tgt := 552) hx hb dL_law_32 (by decide) (by decide) (by decide +kernel) (by decide) ?_
          exact law_11 hL C0 hK ht hi4 h899 gh gr gk fh fr fk eh er ek nh nr nk fi me hI ha1 ha2 ha3 hb1 hb2 hb3 H locs hP hD hS ls hl
        · refine q_top (y := 12) (hje.trans rfl) ?_
          refine lv_tableIn (off := 543) (tgt := 575) hx hb dL_law_32 (by decide) (by decide) (by decide +kernel) (by decide) ?_
          exact law_12 hL C0 hK ht hi4 h899 gh gr gk fh fr fk eh er ek nh nr nk fi me hI ha1 ha2 ha3 hb1 hb2 hb3 H locs hP hD hS ls hl
        · refine q_top (y := 13) (hje.trans rfl) ?_
          refine lv_tableIn (off := 576) (tgt := 608) hx hb dL_law_32 (by decide) (by decide) (by decide +kernel) (by decide) ?_
          exact law_13 hL C0 hK ht hi4 h899 gh gr gk fh fr fk eh er ek nh nr nk fi me hI ha1 ha2 ha3 hb1 hb2 hb3 H locs hP hD hS ls hl
        · refine q_top (y := 14) (hje.trans rfl) ?_
          refine lv_tableIn (off := 636) (tgt := 668) hx hb dL_law_32 (by decide) (by decide) (by decide +kernel) (by decide) ?_
          exact law_14 hL C0 hK ht hi4 h899 gh gr gk fh fr fk eh er ek nh nr nk fi me hI ha1 ha2 ha3 hb1 hb2 hb3 H locs hP hD hS ls hl
        · refine q_top (y := 15) (hje.trans rfl) ?_
          refine lv_tableIn (off := 660) (tgt := 692) hx hb dL_law_32 (by decide) (by decide) (by decide +kernel) (by decide) ?_
          exact law_15 hL C0 hK ht hi4 h899 gh gr gk fh fr fk eh er ek nh nr nk fi me hI ha1 ha2 ha3 hb1 hb2 hb3 H locs hP hD hS ls hl
        · refine q_top (y := 16) (hje.trans rfl) ?_
          refine lv_tableIn (off := 709) (tgt := 741) hx hb dL_law_32 (by decide) (by decide) (by decide +kernel) (by decide) ?_
          exact law_16 hL C0 hK ht hi4 h899 gh gr gk fh fr fk eh er ek nh nr nk fi me hI ha1 ha2 ha3 hb1 hb2 hb3 H locs hP hD hS ls hl
        · refine q_top (y := 17) (hje.trans rfl) ?_
          refine lv_tableIn (off := 732) (tgt := 764) hx hb dL_law_32 (by decide) (by decide) (by decide +kernel) (by decide) ?_
          exact law_17 hL C0 hK ht hi4 h899 gh gr gk fh fr fk eh er ek nh nr nk fi me hI ha1 ha2 ha3 hb1 hb2 hb3 H locs hP hD hS ls hl
        · refine q_top (y := 18) (hje.trans rfl) ?_
          refine lv_tableIn (off := 755) (tgt := 787) hx hb dL_law_32 (by decide) (by decide) (by decide +kernel) (by decide) ?_
          exact law_18 hL C0 hK ht hi4 h899 gh gr gk fh fr fk eh er ek nh nr nk fi me hI ha1 ha2 ha3 hb1 hb2 hb3 H locs hP hD hS ls hl
        · refine q_top (y := 19) (hje.trans rfl) ?_
          refine lv_tableIn (off := 795) (tgt := 827) hx hb dL_law_32 (by decide) (by decide) (by decide +kernel) (by decide) ?_
          exact law_19 hL C0 hK ht hi4 h899 gh gr gk fh fr fk eh er ek nh nr nk fi me hI ha1 ha2 ha3 hb1 hb2 hb3 H locs hP hD hS ls hl
        · refine q_top (y := 20) (hje.trans rfl) ?_
          refine lv_tableIn (off := 828) (tgt := 860) hx hb dL_law_32 (by decide) (by decide) (by decide +kernel) (by decide) ?_
          exact law_20 hL C0 hK ht hi4 h899 gh gr gk fh fr fk eh er ek nh nr nk fi me hI ha1 ha2 ha3 hb1 hb2 hb3 H locs hP hD hS ls hl
        · refine q_top (y := 21) (hje.trans rfl) ?_
          refine lv_tableIn (off := 841) (tgt := 873) hx hb dL_law_32 (by decide) (by decide) (by decide +kernel) (by decide) ?_
          exact law_21 hL C0 hK ht hi4 h899 gh gr gk fh fr fk eh er ek nh nr nk fi me hI ha1 ha2 ha3 hb1 hb2 hb3 H locs hP hD hS ls hl
        · refine q_top (y := 22) (hje.trans rfl) ?_
          refine lv_tableIn (off := 854) (tgt := 886) hx hb dL_law_32 (by decide) (by decide) (by decide +kernel) (by decide) ?_
          exact law_22 hL C0 hK ht hi4 h899 gh gr gk fh fr fk eh er ek nh nr nk fi me hI ha1 ha2 ha3 hb1 hb2 hb3 H locs hP hD hS ls hl
      · refine q_top (y := nI j) hje ?_
        refine lv_tableOut (tgt := 899) hx hb dL_law_32 (Or.inr (by rw [nI_toInt (by omega)]; omega)) (by decide) ?_
        exact h899 gh gr gk fh fr fk eh er ek nh nr nk fi me (qI_mono hI (by omega)) ha1 ha2 ha3 hb1 hb2 hb3 H locs hP hD hS ls hl

