/-! The pure picture: a row is a function on places and a count; what each call answers and does to it. -/
abbrev qR : Type := (Nat → Int32) × Nat
abbrev qS : Type := qR × qR × qR × Int32 × Int32
def qAg (n : Nat) (f g : Nat → Int32) : Prop := ∀ j, j < n → f j = g j
def qIns (g : Nat → Int32) (p : Nat) (v : Int32) : Nat → Int32 := fun j => if j < p then g j else if j = p then v else g (j - 1)
def qDel (g : Nat → Int32) (p : Nat) : Nat → Int32 := fun j => if j < p then g j else g (j + 1)
def qCat (g : Nat → Int32) (p : Nat) (o : Nat → Int32) (m : Nat) : Nat → Int32 := fun j => if j < p then g j else if j < p + m then o (j - p) else g (j - m)
def qRot (g : Nat → Int32) (n k : Nat) : Nat → Int32 := fun j => g ((j + k) % n)
def qPl (g : Nat → Int32) (v z : Int32) : Nat → Int32
  | 0 => -1
  | k + 1 => if g k = v ∧ (¬ z = 0 ∨ qPl g v z k < 0) then nI k else qPl g v z k
def qCb (g : Nat → Int32) (v : Int32) : Nat → Nat
  | 0 => 0
  | k + 1 => if g k < v then qCb g v k + 1 else qCb g v k
def qFm (x y : Int32) : Int32 := if (x ^^^ y) < 0 ∧ ¬ (x - x / y * y) = 0 then (x - x / y * y) + y else x - x / y * y
def qSc (g : Nat → Int32) (st re : Int32) : Nat → Nat
  | 0 => 0
  | k + 1 => if qFm (g k) st = re then qSc g st re k else qSc g st re k + 1
def qSf (g : Nat → Int32) (st re : Int32) : Nat → (Nat → Int32)
  | 0 => g
  | k + 1 => if qFm (g k) st = re then qSf g st re k else upd (qSf g st re k) (qSc g st re k) (g k)
/-- is there such a place; such a place or the end -/
def qHp (p : Int32) (n : Nat) : Int32 := if p < 0 then 0 else if nI n ≤ p then 0 else 1
def qHe (p : Int32) (n : Nat) : Int32 := if p < 0 then 0 else if nI n < p then 0 else 1
abbrev qNo : Int64 := 1099511627776
def qAt (g : Nat → Int32) (n : Nat) (p : Int32) : Int64 := if qHp p n = 0 then qNo else (g p.toNatClampNeg).toInt64
def qPut (g : Nat → Int32) (n : Nat) (p v : Int32) : Int32 × qR := if qHe p n = 0 then (0, (g, n)) else (1, (qIns g p.toNatClampNeg v, n + 1))
def qTake (g : Nat → Int32) (n : Nat) (p : Int32) : Int64 × qR := if qHp p n = 0 then (qNo, (g, n)) else ((g p.toNatClampNeg).toInt64, (qDel g p.toNatClampNeg, n - 1))
def qSwap (g : Nat → Int32) (n : Nat) (p v : Int32) : Int64 × qR := if qHp p n = 0 then (qNo, (g, n)) else ((g p.toNatClampNeg).toInt64, (upd g p.toNatClampNeg v, n))
def qSieve (g : Nat → Int32) (n : Nat) (st re : Int32) : Int32 × qR := if st < 1 then (-1, (g, n)) else (nI (n - qSc g st re n), (qSf g st re n, qSc g st re n))
def qTurn (g : Nat → Int32) (n : Nat) (k : Int32) : Int32 × qR := if k < 0 then (-1, (g, n)) else if 100 < k then (-1, (g, n)) else (nI n, (qRot g n k.toNatClampNeg, n))
/-! What the calls answer and do. -/
def qEnter (v : Int32) : qS → Int32 × qS
  | ((gh, nh), r, k, fi, me) => (nI (nh + 1), ((qIns gh (qCb gh v nh) v, nh + 1), r, k, fi, me))
def qCall (z : Int32) : qS → Int64 × qS
  | ((gh, nh), r, k, fi, me) => if z = 0 then ((qTake gh nh (nI 0)).1, ((qTake gh nh (nI 0)).2, r, k, fi, me)) else (qAt gh nh (nI 0), ((gh, nh), r, k, fi, me))
def qLeave (v : Int32) : qS → Int32 × qS
  | ((gh, nh), r, k, fi, me) => if qPl gh v 0 nh < 0 then (0, ((gh, nh), r, k, fi, me)) else (1, ((qDel gh (qPl gh v 0 nh).toNatClampNeg, nh - 1), r, k, fi, me))
def qHasR (g : Nat → Int32) (n : Nat) (v : Int32) : Int32 := if qPl g v 0 n < 0 then 0 else 1
def qHas (w v : Int32) : qS → Int32 × qS
  | ((gh, nh), (gr, nr), (gk, nk), fi, me) => (if w = 0 then qHasR gh nh v else if w = 1 then qHasR gr nr v else if w = 2 then qHasR gk nk v else 0, ((gh, nh), (gr, nr), (gk, nk), fi, me))
def qSize (w : Int32) : qS → Int32 × qS
  | ((gh, nh), (gr, nr), (gk, nk), fi, me) => (if w = 0 then nI nh else if w = 1 then nI nr else if w = 2 then nI nk else -1, ((gh, nh), (gr, nr), (gk, nk), fi, me))
def qClear (w : Int32) : qS → Int32 × qS
  | ((gh, nh), (gr, nr), (gk, nk), fi, me) => if w = 0 then (nI nh, ((gh, 0), (gr, nr), (gk, nk), fi, me)) else if w = 1 then (nI nr, ((gh, nh), (gr, 0), (gk, nk), fi, me)) else if w = 2 then (if 0 < nk then (nI nk, ((gh, nh), (gr, nr), (gk, 0), -1, -1)) else (nI nk, ((gh, nh), (gr, nr), (gk, 0), fi, me))) else (-1, ((gh, nh), (gr, nr), (gk, nk), fi, me))
def qJoin (v z : Int32) : qS → Int32 × qS
  | (h, (gr, nr), k, fi, me) => (nI (nr + 1), (h, (qIns gr (if z = 0 then nr else 0) v, nr + 1), k, fi, me))
def qServe (z y : Int32) : qS → Int64 × qS
  | (h, (gr, nr), k, fi, me) => if nr = 0 then (qNo, (h, (gr, nr), k, fi, me)) else if y = 0 then ((gr (if z = 0 then nr - 1 else 0)).toInt64, (h, (qDel gr (if z = 0 then nr - 1 else 0), nr - 1), k, fi, me)) else ((gr (if z = 0 then nr - 1 else 0)).toInt64, (h, (gr, nr), k, fi, me))
def qDrop (v z : Int32) : qS → Int32 × qS
  | (h, (gr, nr), k, fi, me) => if qPl gr v (if z = 0 then 1 else 0) nr < 0 then (0, (h, (gr, nr), k, fi, me)) else (1, (h, (qDel gr (qPl gr v (if z = 0 then 1 else 0) nr).toNatClampNeg, nr - 1), k, fi, me))
def qRing (p z : Int32) : qS → Int64 × qS
  | (h, (gr, nr), k, fi, me) => (if qHp p nr = 0 then qNo else if z = 0 then (gr p.toNatClampNeg).toInt64 else (gr (nr - 1 - p.toNatClampNeg)).toInt64, (h, (gr, nr), k, fi, me))
def qSieveS (st re : Int32) : qS → Int32 × qS
  | (h, (gr, nr), k, fi, me) => ((qSieve gr nr st re).1, (h, (qSieve gr nr st re).2, k, fi, me))
def qRollS (n : Int32) : qS → Int32 × qS
  | (h, (gr, nr), k, fi, me) => ((qTurn gr nr n).1, (h, (qTurn gr nr n).2, k, fi, me))
def qInsert (p v : Int32) : qS → Int32 × qS
  | (h, r, (gk, nk), fi, me) => if qHe p nk = 0 then (-1, (h, r, (gk, nk), fi, me)) else (nI (nk + 1), (h, r, (qIns gk p.toNatClampNeg v, nk + 1), -1, -1))
def qChange (p v z : Int32) : qS → Int64 × qS
  | (h, r, (gk, nk), fi, me) => if qHp p nk = 0 then (qNo, (h, r, (gk, nk), fi, me)) else if z = 0 then ((gk p.toNatClampNeg).toInt64, (h, r, (upd gk p.toNatClampNeg v, nk), fi, me)) else ((gk p.toNatClampNeg).toInt64, (h, r, (qDel gk p.toNatClampNeg, nk - 1), -1, -1))
def qChain (p : Int32) : qS → Int64 × qS
  | (h, r, (gk, nk), fi, me) => (qAt gk nk p, (h, r, (gk, nk), fi, me))
def qFind (v z : Int32) : qS → Int32 × qS
  | (h, r, (gk, nk), fi, me) => (qPl gk v z nk, (h, r, (gk, nk), fi, me))
def qUnlink (v : Int32) : qS → Int32 × qS
  | (h, r, (gk, nk), fi, me) => if qPl gk v 0 nk < 0 then (0, (h, r, (gk, nk), fi, me)) else (1, (h, r, (qDel gk (qPl gk v 0 nk).toNatClampNeg, nk - 1), -1, -1))
def qPoint (p : Int32) : qS → Int32 × qS
  | (h, r, (gk, nk), fi, me) => if qHe p nk = 0 then (-1, (h, r, (gk, nk), fi, me)) else (p, (h, r, (gk, nk), p, -1))
def qPass (z : Int32) : qS → Int64 × qS
  | (h, r, (gk, nk), fi, me) => if fi < 0 then (qNo, (h, r, (gk, nk), fi, me)) else if z = 0 then (if fi = nI nk then (qNo, (h, r, (gk, nk), fi, me)) else ((gk fi.toNatClampNeg).toInt64, (h, r, (gk, nk), fi + 1, fi))) else (if fi = 0 then (qNo, (h, r, (gk, nk), fi, me)) else ((gk (fi.toNatClampNeg - 1)).toInt64, (h, r, (gk, nk), fi - 1, fi - 1)))
def qTouch (w v : Int32) : qS → Int32 × qS
  | (h, r, (gk, nk), fi, me) => if fi < 0 then (-1, (h, r, (gk, nk), fi, me))
    else if w = 0 then (if me < 0 then (-1, (h, r, (gk, nk), fi, me)) else (nI nk, (h, r, (upd gk me.toNatClampNeg v, nk), fi, me)))
    else if w = 1 then (if me < 0 then (-1, (h, r, (gk, nk), fi, me)) else if me < fi then (nI (nk - 1), (h, r, (qDel gk me.toNatClampNeg, nk - 1), fi - 1, -1)) else (nI (nk - 1), (h, r, (qDel gk me.toNatClampNeg, nk - 1), fi, -1)))
    else if w = 2 then (nI (nk + 1), (h, r, (qIns gk fi.toNatClampNeg v, nk + 1), fi + 1, -1))
    else (-1, (h, r, (gk, nk), fi, me))
def qFinger : qS → Int32 × qS
  | (h, r, k, fi, me) => (fi, (h, r, k, fi, me))
def qEmpty : qS → Int32 × qS
  | ((gh, nh), (gr, nr), k, fi, me) => (nI (nr + nh), ((gh, 0), (qCat gr nr gh nh, nr + nh), k, fi, me))
def qHand : qS → Int32 × qS
  | (h, (gr, nr), (gk, nk), fi, me) => if 0 < nk then (nI (nr + nk), (h, (qCat gr 0 gk nk, nr + nk), (gk, 0), -1, -1)) else (nI (nr + nk), (h, (qCat gr 0 gk nk, nr + nk), (gk, 0), fi, me))
/-- the finger: none; or before, between or behind the chain's numbers, with a number met or none -/
def qFok (fi me : Int32) (nk : Nat) : Prop := (fi = -1 ∧ me = -1) ∨ ∃ a, a ≤ nk ∧ fi = nI a ∧ (me = -1 ∨ ∃ b, b < nk ∧ me = nI b)
def qSorted (g : Nat → Int32) (n : Nat) : Prop := ∀ i j, i ≤ j → j < n → g i ≤ g j
def qInv (c : Nat) : qS → Prop
  | ((gh, nh), (_, nr), (_, nk), fi, me) => nh + nr + nk ≤ c ∧ qSorted gh nh ∧ qFok fi me nk
/-! Numbers. -/
theorem ti_lt {x y : Int32} : x < y ↔ x.toInt < y.toInt := Int32.lt_iff_toInt_lt
theorem ti_le {x y : Int32} : x ≤ y ↔ x.toInt ≤ y.toInt := Int32.le_iff_toInt_le
theorem ti_eq {x y : Int32} : x = y ↔ x.toInt = y.toInt := Int32.toInt_inj.symm
theorem ti_0 : (0 : Int32).toInt = 0 := by decide
theorem ti_1 : (1 : Int32).toInt = 1 := by decide
theorem ti_2 : (2 : Int32).toInt = 2 := by decide
theorem ti_m1 : (-1 : Int32).toInt = -1 := by decide
theorem ti_100 : (100 : Int32).toInt = 100 := by decide
theorem ti_2000 : (2000 : Int32).toInt = 2000 := by decide
theorem q_m1 {n : Nat} (h : 0 < n) : nI n - 1 = nI (n - 1) := by
  obtain ⟨k, rfl⟩ : ∃ k, n = k + 1 := ⟨n - 1, by omega⟩
  exact nI_pred k
theorem q_no (x : Int32) : ¬ x.toInt64 = qNo := by
  intro h
  have h1 : x.toInt64.toInt = x.toInt := Int32.toInt_toInt64 x
  rw [h] at h1
  have h2 : (qNo : Int64).toInt = 1099511627776 := by decide
  rw [h2] at h1
  have h3 := Int32.toInt_lt x
  omega
theorem qHp_in {k n : Nat} (h : k < n) (hn : n < 2 ^ 31) : qHp (nI k) n = 1 := by
  have h1 : ¬ nI k < 0 := nI_pos (by omega)
  have h2 : ¬ nI n ≤ nI k := nI_ge h hn
  simp only [qHp, if_neg h1, if_neg h2]
theorem qHe_in {k n : Nat} (h : k ≤ n) (hn : n < 2 ^ 31) : qHe (nI k) n = 1 := by
  have h1 : ¬ nI k < 0 := nI_pos (by omega)
  have h2 : ¬ nI n < nI k := nI_nlt h hn
  simp only [qHe, if_neg h1, if_neg h2]
theorem qHp_c (p : Int32) {n : Nat} (hn : n < 2 ^ 31) : qHp p n = 0 ∨ ∃ k, k < n ∧ p = nI k := by
  by_cases h1 : p < 0
  · exact Or.inl (by simp only [qHp, if_pos h1])
  · by_cases h2 : nI n ≤ p
    · exact Or.inl (by simp only [qHp, if_neg h1, if_pos h2])
    · obtain ⟨j, hj, rfl⟩ := nI_of h1
      exact Or.inr ⟨j, by
        rcases Nat.lt_or_ge j n with h | h
        · exact h
        · exact absurd (nI_le h hj) h2, rfl⟩
theorem qHe_c (p : Int32) {n : Nat} (hn : n < 2 ^ 31) : qHe p n = 0 ∨ ∃ k, k ≤ n ∧ p = nI k := by
  by_cases h1 : p < 0
  · exact Or.inl (by simp only [qHe, if_pos h1])
  · by_cases h2 : nI n < p
    · exact Or.inl (by simp only [qHe, if_neg h1, if_pos h2])
    · obtain ⟨j, hj, rfl⟩ := nI_of h1
      exact Or.inr ⟨j, by
        rcases Nat.lt_or_ge n j with h | h
        · exact absurd (nI_lt h hj) h2
        · exact h, rfl⟩
/-- what is said of a place that isn't there -/
theorem qHp_o {p : Int32} {n : Nat} (h : qHp p n = 0) (h0 : ¬ p < 0) : nI n ≤ p := by
  by_cases h2 : nI n ≤ p
  · exact h2
  · simp only [qHp, if_neg h0, if_neg h2] at h
    exact absurd h (by decide)
theorem qHe_o {p : Int32} {n : Nat} (h : qHe p n = 0) (h0 : ¬ p < 0) : nI n < p := by
  by_cases h2 : nI n < p
  · exact h2
  · simp only [qHe, if_neg h0, if_neg h2] at h
    exact absurd h (by decide)
theorem q_ne10 : ¬ (1 : Int32) = 0 := by decide
theorem qAt_o {g : Nat → Int32} {n : Nat} {p : Int32} (h : qHp p n = 0) : qAt g n p = qNo := by simp only [qAt, if_pos h]
theorem qAt_i {g : Nat → Int32} {n k : Nat} (h : k < n) (hn : n < 2 ^ 31) : qAt g n (nI k) = (g k).toInt64 := by
  simp only [qAt, qHp_in h hn, if_neg q_ne10, nI_clamp (show k < 2 ^ 31 by omega)]
theorem qPut_o {g : Nat → Int32} {n : Nat} {p v : Int32} (h : qHe p n = 0) : qPut g n p v = (0, (g, n)) := by simp only [qPut, if_pos h]
theorem qPut_i {g : Nat → Int32} {n k : Nat} {v : Int32} (h : k ≤ n) (hn : n < 2 ^ 31) : qPut g n (nI k) v = (1, (qIns g k v, n + 1)) := by
  simp only [qPut, qHe_in h hn, if_neg q_ne10, nI_clamp (show k < 2 ^ 31 by omega)]
theorem qTake_o {g : Nat → Int32} {n : Nat} {p : Int32} (h : qHp p n = 0) : qTake g n p = (qNo, (g, n)) := by simp only [qTake, if_pos h]
theorem qTake_i {g : Nat → Int32} {n k : Nat} (h : k < n) (hn : n < 2 ^ 31) : qTake g n (nI k) = ((g k).toInt64, (qDel g k, n - 1)) := by
  simp only [qTake, qHp_in h hn, if_neg q_ne10, nI_clamp (show k < 2 ^ 31 by omega)]
theorem qSwap_o {g : Nat → Int32} {n : Nat} {p v : Int32} (h : qHp p n = 0) : qSwap g n p v = (qNo, (g, n)) := by simp only [qSwap, if_pos h]
theorem qSwap_i {g : Nat → Int32} {n k : Nat} {v : Int32} (h : k < n) (hn : n < 2 ^ 31) : qSwap g n (nI k) v = ((g k).toInt64, (upd g k v, n)) := by
  simp only [qSwap, qHp_in h hn, if_neg q_ne10, nI_clamp (show k < 2 ^ 31 by omega)]
/-! Rows that agree. -/
theorem qAg_rf {n : Nat} {f : Nat → Int32} : qAg n f f := fun _ _ => rfl
theorem qAg_0 {f g : Nat → Int32} : qAg 0 f g := fun _ h => absurd h (Nat.not_lt_zero _)
theorem qAg_tr {n : Nat} {f g k : Nat → Int32} (h : qAg n f g) (h2 : qAg n g k) : qAg n f k := fun j hj => (h j hj).trans (h2 j hj)
theorem qAg_put {n p : Nat} {f g : Nat → Int32} {v : Int32} (h : qAg n f g) (hp : p ≤ n) : qAg (n + 1) (upd (va_cpy f f p (p + 1) (n - p)) p v) (qIns g p v) := by
  intro j hj
  by_cases h1 : j = p
  · subst h1
    simp [upd, qIns]
  · by_cases h2 : j < p
    · simp only [upd, qIns, va_cpy, if_neg h1, if_pos h2]
      rw [if_neg (by omega)]
      exact h j (by omega)
    · simp only [upd, qIns, va_cpy, if_neg h1, if_neg h2]
      rw [if_pos (by omega), show p + (j - (p + 1)) = j - 1 by omega]
      exact h _ (by omega)
theorem qAg_take {n p : Nat} {f g : Nat → Int32} (h : qAg n f g) (hp : p < n) : qAg (n - 1) (va_cpy f f (p + 1) p (n - 1 - p)) (qDel g p) := by
  intro j hj
  by_cases h2 : j < p
  · simp only [qDel, va_cpy, if_pos h2]
    rw [if_neg (by omega)]
    exact h j (by omega)
  · simp only [qDel, va_cpy, if_neg h2]
    rw [if_pos (by omega), show p + 1 + (j - p) = j + 1 by omega]
    exact h _ (by omega)
theorem qAg_upd {n p : Nat} {f g : Nat → Int32} {v : Int32} (h : qAg n f g) : qAg n (upd f p v) (upd g p v) := by
  intro j hj
  by_cases h1 : j = p
  · simp only [upd, if_pos h1]
  · simp only [upd, if_neg h1]
    exact h j hj
theorem qAg_cat {n p m : Nat} {f g o o' : Nat → Int32} (h : qAg n f g) (ho : qAg m o o') (hp : p ≤ n) : qAg (n + m) (va_cpy o (va_cpy f f p (p + m) (n - p)) 0 p m) (qCat g p o' m) := by
  intro j hj
  by_cases h1 : j < p
  · simp only [qCat, va_cpy, if_pos h1]
    rw [if_neg (by omega), if_neg (by omega)]
    exact h j (by omega)
  · by_cases h2 : j < p + m
    · simp only [qCat, va_cpy, if_neg h1, if_pos h2]
      rw [if_pos (by omega), show 0 + (j - p) = j - p by omega]
      exact ho _ (by omega)
    · simp only [qCat, va_cpy, if_neg h1, if_neg h2]
      rw [if_neg (by omega), if_pos (by omega), show p + (j - (p + m)) = j - m by omega]
      exact h _ (by omega)
theorem qAg_turn {n k : Nat} {f g : Nat → Int32} (h : qAg n f g) (hn : 0 < n) : qAg n (va_cpy (va_cpy f f 0 n (k % n)) (va_cpy f f 0 n (k % n)) (k % n) 0 n) (qRot g n k) := by
  intro j hj
  have hm : k % n < n := Nat.mod_lt _ hn
  have e1 : (j + k) % n = (j + k % n) % n := (Nat.add_mod_mod j k n).symm
  simp only [qRot, e1]
  generalize k % n = d at hm
  by_cases h1 : j + d < n
  · rw [Nat.mod_eq_of_lt h1]
    simp only [va_cpy]
    rw [if_pos (by omega), if_neg (by omega), show d + (j - 0) = j + d by omega]
    exact h _ h1
  · rw [Nat.mod_eq_sub_mod (by omega), Nat.mod_eq_of_lt (by omega)]
    simp only [va_cpy]
    rw [if_pos (by omega), if_pos (by omega), show 0 + (d + (j - 0) - n) = j + d - n by omega]
    exact h _ (by omega)
theorem qPl_ag {g f : Nat → Int32} {v z : Int32} : ∀ {n : Nat}, qAg n f g → qPl f v z n = qPl g v z n
  | 0, _ => rfl
  | n + 1, h => by
    have ih := qPl_ag (v := v) (z := z) (n := n) (fun j hj => h j (by omega))
    simp only [qPl, ih, h n (by omega)]
theorem qCb_ag {g f : Nat → Int32} {v : Int32} : ∀ {n : Nat}, qAg n f g → qCb f v n = qCb g v n
  | 0, _ => rfl
  | n + 1, h => by
    have ih := qCb_ag (v := v) (n := n) (fun j hj => h j (by omega))
    simp only [qCb, ih, h n (by omega)]
theorem qCb_le {g : Nat → Int32} {v : Int32} : ∀ (n : Nat), qCb g v n ≤ n
  | 0 => Nat.le_refl 0
  | n + 1 => by
    have ih := qCb_le (g := g) (v := v) n
    simp only [qCb]
    split <;> omega
theorem qSc_le {g : Nat → Int32} {st re : Int32} : ∀ (n : Nat), qSc g st re n ≤ n
  | 0 => Nat.le_refl 0
  | n + 1 => by
    have ih := qSc_le (g := g) (st := st) (re := re) n
    simp only [qSc]
    split <;> omega
theorem qPl_r {g : Nat → Int32} {v z : Int32} : ∀ (n : Nat), qPl g v z n = -1 ∨ ∃ p, p < n ∧ qPl g v z n = nI p ∧ g p = v
  | 0 => Or.inl rfl
  | n + 1 => by
    simp only [qPl]
    split
    · exact Or.inr ⟨n, by omega, rfl, (by assumption : g n = v ∧ _).1⟩
    · rcases qPl_r (g := g) (v := v) (z := z) n with h | ⟨p, h1, h2, h3⟩
      · exact Or.inl h
      · exact Or.inr ⟨p, by omega, h2, h3⟩
theorem qPl_none {g : Nat → Int32} {v z : Int32} : ∀ {n : Nat}, (∀ j, j < n → ¬ g j = v) → qPl g v z n = -1
  | 0, _ => rfl
  | n + 1, h => by
    have ih := qPl_none (g := g) (v := v) (z := z) (n := n) (fun j hj => h j (by omega))
    simp only [qPl, ih]
    rw [if_neg (fun q => h n (by omega) q.1)]
theorem qPl_first {g : Nat → Int32} {v : Int32} {i : Nat} (h : ∀ j, j < i → ¬ g j = v) (hi : g i = v) (hb : i < 2 ^ 31) : ∀ (n : Nat), i < n → qPl g v 0 n = nI i
  | 0, q => absurd q (Nat.not_lt_zero _)
  | n + 1, q => by
    by_cases e : i = n
    · subst e
      simp only [qPl, qPl_none h]
      rw [if_pos ⟨hi, Or.inr (by decide)⟩]
    · have ih := qPl_first h hi hb n (by omega)
      simp only [qPl, ih]
      rw [if_neg (fun q => by
        rcases q.2 with a | a
        · exact absurd (by simp) a
        · exact nI_pos hb a)]
theorem qPl_last {g : Nat → Int32} {v : Int32} {i : Nat} (hi : g i = v) : ∀ (n : Nat), i < n → (∀ j, i < j → j < n → ¬ g j = v) → qPl g v 1 n = nI i
  | 0, q, _ => absurd q (Nat.not_lt_zero _)
  | n + 1, q, h => by
    by_cases e : i = n
    · subst e
      simp only [qPl]
      rw [if_pos ⟨hi, Or.inl (by decide)⟩]
    · have ih := qPl_last hi n (by omega) (fun j a b => h j a (by omega))
      simp only [qPl, ih]
      rw [if_neg (fun q2 => h n (by omega) (by omega) q2.1)]
theorem qPl_z {g : Nat → Int32} {v z : Int32} (hz : ¬ z = 0) : ∀ (n : Nat), qPl g v z n = qPl g v 1 n
  | 0 => rfl
  | n + 1 => by
    have e : (¬ z = 0 ∨ qPl g v z n < 0) ↔ (¬ (1 : Int32) = 0 ∨ qPl g v 1 n < 0) := ⟨fun _ => Or.inl (by decide), fun _ => Or.inl hz⟩
    simp only [qPl, qPl_z hz n]
    by_cases h : g n = v
    · rw [if_pos ⟨h, Or.inl hz⟩, if_pos ⟨h, Or.inl (by decide)⟩]
    · rw [if_neg (fun q => h q.1), if_neg (fun q => h q.1)]

