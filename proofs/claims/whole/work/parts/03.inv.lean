/-! What every call keeps: how many there are, the hall's order, the finger's place. -/
theorem qI_mono {c d : Nat} {S : qS} (h : qInv c S) (hcd : c ≤ d) : qInv d S := by
  obtain ⟨⟨gh, nh⟩, ⟨gr, nr⟩, ⟨gk, nk⟩, fi, me⟩ := S
  obtain ⟨h1, h2, h3⟩ := h
  exact ⟨Nat.le_trans h1 hcd, h2, h3⟩
theorem qI_enter {c : Nat} {v : Int32} {S : qS} (h : qInv c S) (_ : c < 2 ^ 30) : qInv (c + 1) (qEnter v S).2 := by
  obtain ⟨⟨gh, nh⟩, ⟨gr, nr⟩, ⟨gk, nk⟩, fi, me⟩ := S
  obtain ⟨h1, h2, h3⟩ := h
  simp only [qEnter]
  exact ⟨by omega, qSorted_ins h2, h3⟩
theorem qI_call {c : Nat} {z : Int32} {S : qS} (h : qInv c S) (hc : c < 2 ^ 30) : qInv (c + 1) (qCall z S).2 := by
  obtain ⟨⟨gh, nh⟩, ⟨gr, nr⟩, ⟨gk, nk⟩, fi, me⟩ := S
  obtain ⟨h1, h2, h3⟩ := h
  simp only [qCall]
  split
  · rcases Nat.eq_zero_or_pos nh with q | q
    · rw [qTake_o (q_hp00 q)]
      exact ⟨by omega, h2, h3⟩
    · rw [qTake_i q (by omega)]
      exact ⟨by omega, qSorted_del h2, h3⟩
  · exact ⟨by omega, h2, h3⟩
theorem qI_leave {c : Nat} {v : Int32} {S : qS} (h : qInv c S) (_ : c < 2 ^ 30) : qInv (c + 1) (qLeave v S).2 := by
  obtain ⟨⟨gh, nh⟩, ⟨gr, nr⟩, ⟨gk, nk⟩, fi, me⟩ := S
  obtain ⟨h1, h2, h3⟩ := h
  simp only [qLeave]
  split
  · exact ⟨by omega, h2, h3⟩
  · exact ⟨by omega, qSorted_del h2, h3⟩
theorem qFok_0 {fi me : Int32} {nk : Nat} (h : qFok fi me nk) (hk : ¬ 0 < nk) : qFok fi me 0 := by
  rw [show nk = 0 by omega] at h
  exact h
theorem qI_clear {c : Nat} {w : Int32} {S : qS} (h : qInv c S) (_ : c < 2 ^ 30) : qInv (c + 1) (qClear w S).2 := by
  obtain ⟨⟨gh, nh⟩, ⟨gr, nr⟩, ⟨gk, nk⟩, fi, me⟩ := S
  obtain ⟨h1, h2, h3⟩ := h
  simp only [qClear]
  split
  · exact ⟨by omega, qSorted_0, h3⟩
  · split
    · exact ⟨by omega, h2, h3⟩
    · split
      · split
        · exact ⟨by omega, h2, qFok_none⟩
        · rename_i hk
          exact ⟨by omega, h2, qFok_0 h3 hk⟩
      · exact ⟨by omega, h2, h3⟩
theorem qI_join {c : Nat} {v z : Int32} {S : qS} (h : qInv c S) (_ : c < 2 ^ 30) : qInv (c + 1) (qJoin v z S).2 := by
  obtain ⟨⟨gh, nh⟩, ⟨gr, nr⟩, ⟨gk, nk⟩, fi, me⟩ := S
  obtain ⟨h1, h2, h3⟩ := h
  simp only [qJoin]
  exact ⟨by omega, h2, h3⟩
theorem qI_serve {c : Nat} {z y : Int32} {S : qS} (h : qInv c S) (_ : c < 2 ^ 30) : qInv (c + 1) (qServe z y S).2 := by
  obtain ⟨⟨gh, nh⟩, ⟨gr, nr⟩, ⟨gk, nk⟩, fi, me⟩ := S
  obtain ⟨h1, h2, h3⟩ := h
  simp only [qServe]
  split
  · exact ⟨by omega, h2, h3⟩
  · split
    · exact ⟨by omega, h2, h3⟩
    · exact ⟨by omega, h2, h3⟩
theorem qI_drop {c : Nat} {v z : Int32} {S : qS} (h : qInv c S) (_ : c < 2 ^ 30) : qInv (c + 1) (qDrop v z S).2 := by
  obtain ⟨⟨gh, nh⟩, ⟨gr, nr⟩, ⟨gk, nk⟩, fi, me⟩ := S
  obtain ⟨h1, h2, h3⟩ := h
  simp only [qDrop]
  generalize qPl gr v (if z = 0 then 1 else 0) nr = k
  split
  · exact ⟨by omega, h2, h3⟩
  · exact ⟨by omega, h2, h3⟩
theorem qI_sieve {c : Nat} {a b : Int32} {S : qS} (h : qInv c S) (_ : c < 2 ^ 30) : qInv (c + 1) (qSieveS a b S).2 := by
  obtain ⟨⟨gh, nh⟩, ⟨gr, nr⟩, ⟨gk, nk⟩, fi, me⟩ := S
  obtain ⟨h1, h2, h3⟩ := h
  simp only [qSieveS, qSieve]
  split
  · exact ⟨by omega, h2, h3⟩
  · have q := qSc_le (g := gr) (st := a) (re := b) nr
    exact ⟨by omega, h2, h3⟩
theorem qI_roll {c : Nat} {n : Int32} {S : qS} (h : qInv c S) (_ : c < 2 ^ 30) : qInv (c + 1) (qRollS n S).2 := by
  obtain ⟨⟨gh, nh⟩, ⟨gr, nr⟩, ⟨gk, nk⟩, fi, me⟩ := S
  obtain ⟨h1, h2, h3⟩ := h
  simp only [qRollS, qTurn]
  split
  · exact ⟨by omega, h2, h3⟩
  · split
    · exact ⟨by omega, h2, h3⟩
    · exact ⟨by omega, h2, h3⟩
theorem qI_insert {c : Nat} {p v : Int32} {S : qS} (h : qInv c S) (_ : c < 2 ^ 30) : qInv (c + 1) (qInsert p v S).2 := by
  obtain ⟨⟨gh, nh⟩, ⟨gr, nr⟩, ⟨gk, nk⟩, fi, me⟩ := S
  obtain ⟨h1, h2, h3⟩ := h
  simp only [qInsert]
  split
  · exact ⟨by omega, h2, h3⟩
  · exact ⟨by omega, h2, qFok_none⟩
theorem qI_change {c : Nat} {p v z : Int32} {S : qS} (h : qInv c S) (_ : c < 2 ^ 30) : qInv (c + 1) (qChange p v z S).2 := by
  obtain ⟨⟨gh, nh⟩, ⟨gr, nr⟩, ⟨gk, nk⟩, fi, me⟩ := S
  obtain ⟨h1, h2, h3⟩ := h
  simp only [qChange]
  split
  · exact ⟨by omega, h2, h3⟩
  · split
    · exact ⟨by omega, h2, h3⟩
    · exact ⟨by omega, h2, qFok_none⟩
theorem qI_unlink {c : Nat} {v : Int32} {S : qS} (h : qInv c S) (_ : c < 2 ^ 30) : qInv (c + 1) (qUnlink v S).2 := by
  obtain ⟨⟨gh, nh⟩, ⟨gr, nr⟩, ⟨gk, nk⟩, fi, me⟩ := S
  obtain ⟨h1, h2, h3⟩ := h
  simp only [qUnlink]
  split
  · exact ⟨by omega, h2, h3⟩
  · exact ⟨by omega, h2, qFok_none⟩
theorem qI_point {c : Nat} {p : Int32} {S : qS} (h : qInv c S) (hc : c < 2 ^ 30) : qInv (c + 1) (qPoint p S).2 := by
  obtain ⟨⟨gh, nh⟩, ⟨gr, nr⟩, ⟨gk, nk⟩, fi, me⟩ := S
  obtain ⟨h1, h2, h3⟩ := h
  rcases qHe_c p (n := nk) (by omega) with q | ⟨k, hk, rfl⟩
  · simp only [qPoint, if_pos q]
    exact ⟨by omega, h2, h3⟩
  · simp only [qPoint, qHe_in hk (show nk < 2 ^ 31 by omega), if_neg q_ne10]
    exact ⟨by omega, h2, qFok_in hk⟩
theorem qI_pass {c : Nat} {z : Int32} {S : qS} (h : qInv c S) (hc : c < 2 ^ 30) : qInv (c + 1) (qPass z S).2 := by
  obtain ⟨⟨gh, nh⟩, ⟨gr, nr⟩, ⟨gk, nk⟩, fi, me⟩ := S
  obtain ⟨h1, h2, h3⟩ := h
  rcases q_pass h3 z with rfl | ⟨hz, rfl⟩ | ⟨hz, a, ha, rfl⟩ | ⟨hz, rfl⟩ | ⟨hz, a, ha, rfl⟩
  · simp only [qPass, if_pos (show (-1 : Int32) < 0 by decide)]
    exact ⟨by omega, h2, h3⟩
  · simp only [qPass, if_neg (nI_pos (show nk < 2 ^ 31 by omega)), if_pos hz, if_pos True.intro]
    exact ⟨by omega, h2, h3⟩
  · simp only [qPass, if_neg (nI_pos (show a < 2 ^ 31 by omega)), if_pos hz, if_neg (show ¬ nI a = nI nk from fun q => by rw [nI_eq (by omega) (by omega)] at q; omega), nI_1]
    exact ⟨by omega, h2, qFok_met (by omega) ha⟩
  · simp only [qPass, if_neg (nI_pos (show 0 < 2 ^ 31 by omega)), if_neg hz, if_pos (show nI 0 = 0 from rfl)]
    exact ⟨by omega, h2, h3⟩
  · simp only [qPass, if_neg (nI_pos (show a + 1 < 2 ^ 31 by omega)), if_neg hz, if_neg (nI_ne0 (show 0 < a + 1 by omega) (show a + 1 < 2 ^ 31 by omega)), nI_pred]
    exact ⟨by omega, h2, qFok_met (by omega) ha⟩
theorem qI_touch {c : Nat} {w v : Int32} {S : qS} (h : qInv c S) (hc : c < 2 ^ 30) : qInv (c + 1) (qTouch w v S).2 := by
  obtain ⟨⟨gh, nh⟩, ⟨gr, nr⟩, ⟨gk, nk⟩, fi, me⟩ := S
  obtain ⟨h1, h2, h3⟩ := h
  rcases q_tm h3 w with rfl | ⟨a, ha, rfl, rfl, rfl⟩ | ⟨a, b, ha, hb0, rfl, rfl, rfl⟩ | ⟨a, ha, rfl, rfl, rfl⟩ | ⟨a, b, ha, hb0, rfl, rfl, rfl⟩ | ⟨a, ha, rfl, rfl⟩ | ⟨a, ha, rfl, w0, w1, w2⟩
  · simp only [qTouch, if_pos (show (-1 : Int32) < 0 by decide)]
    exact ⟨by omega, h2, h3⟩
  · simp only [qTouch, if_neg (nI_pos (show a < 2 ^ 31 by omega)), if_pos True.intro, if_pos (show (-1 : Int32) < 0 by decide)]
    exact ⟨by omega, h2, h3⟩
  · simp only [qTouch, if_neg (nI_pos (show a < 2 ^ 31 by omega)), if_pos True.intro, if_neg (nI_pos (show b < 2 ^ 31 by omega))]
    exact ⟨by omega, h2, h3⟩
  · simp only [qTouch, if_neg (nI_pos (show a < 2 ^ 31 by omega)), if_neg (show ¬ (1 : Int32) = 0 by decide), if_pos True.intro, if_pos (show (-1 : Int32) < 0 by decide)]
    exact ⟨by omega, h2, h3⟩
  · simp only [qTouch, if_neg (nI_pos (show a < 2 ^ 31 by omega)), if_neg (show ¬ (1 : Int32) = 0 by decide), if_pos True.intro, if_neg (nI_pos (show b < 2 ^ 31 by omega))]
    rcases Nat.lt_or_ge b a with q | q
    · rw [if_pos (nI_lt q (by omega)), q_m1 (show 0 < a by omega)]
      exact ⟨by omega, h2, qFok_in (by omega)⟩
    · rw [if_neg (nI_nlt q (by omega))]
      exact ⟨by omega, h2, qFok_in (by omega)⟩
  · simp only [qTouch, if_neg (nI_pos (show a < 2 ^ 31 by omega)), if_neg (show ¬ (2 : Int32) = 0 by decide), if_neg (show ¬ (2 : Int32) = 1 by decide), if_pos True.intro, nI_1]
    exact ⟨by omega, h2, qFok_in (by omega)⟩
  · simp only [qTouch, if_neg (nI_pos (show a < 2 ^ 31 by omega)), if_neg w0, if_neg w1, if_neg w2]
    exact ⟨by omega, h2, h3⟩
theorem qI_empty {c : Nat} {S : qS} (h : qInv c S) (_ : c < 2 ^ 30) : qInv (c + 1) (qEmpty S).2 := by
  obtain ⟨⟨gh, nh⟩, ⟨gr, nr⟩, ⟨gk, nk⟩, fi, me⟩ := S
  obtain ⟨h1, h2, h3⟩ := h
  simp only [qEmpty]
  exact ⟨by omega, qSorted_0, h3⟩
theorem qI_hand {c : Nat} {S : qS} (h : qInv c S) (_ : c < 2 ^ 30) : qInv (c + 1) (qHand S).2 := by
  obtain ⟨⟨gh, nh⟩, ⟨gr, nr⟩, ⟨gk, nk⟩, fi, me⟩ := S
  obtain ⟨h1, h2, h3⟩ := h
  simp only [qHand]
  split
  · exact ⟨by omega, h2, qFok_none⟩
  · rename_i hk
    exact ⟨by omega, h2, qFok_0 h3 hk⟩
theorem q_23 {j : Nat} (h : j < 23) : j = 0 ∨ j = 1 ∨ j = 2 ∨ j = 3 ∨ j = 4 ∨ j = 5 ∨ j = 6 ∨ j = 7 ∨ j = 8 ∨ j = 9 ∨ j = 10 ∨ j = 11 ∨ j = 12 ∨ j = 13 ∨ j = 14 ∨ j = 15 ∨ j = 16 ∨ j = 17 ∨ j = 18 ∨ j = 19 ∨ j = 20 ∨ j = 21 ∨ j = 22 := by omega

