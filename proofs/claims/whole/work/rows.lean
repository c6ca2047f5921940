section
/-! The pure picture: a row is a function on places and a count; what each call answers and does to it. -/
abbrev qR : Type := (Nat → Int32) × Nat
abbrev qS : Type := qR × qR × qR × Int32 × Int32
def qAg (n : Nat) (f g : Nat → Int32) : Prop := ∀ j, j < n → f j = g j
def qIns (g : Nat → Int32) (p : Nat) (v : Int32) : Nat → Int32 := fun j => if j < p then g j else if j = p then v else g (j - 1)
def qDel (g : Nat → Int32) (p : Nat) : Nat → Int32 := fun j => if j < p then g j else g (j + 1)
def qCat (g : Nat → Int32) (p : Nat) (o : Nat → Int32) (m : Nat) : Nat → Int32 := fun j => if j < p then g j else if j < p + m then o (j - p) else g (j - m)
def qRot (g : Nat → Int32) (n k : Nat) : Nat → Int32 := fun j => g ((j + k) % n)
def qPl (g : Nat → Int32) (v z : Int32) : Nat → Int32
  | 0 => -1
  | k + 1 => if g k = v ∧ (¬ z = 0 ∨ qPl g v z k < 0) then nI k else qPl g v z k
def qCb (g : Nat → Int32) (v : Int32) : Nat → Nat
  | 0 => 0
  | k + 1 => if g k < v then qCb g v k + 1 else qCb g v k
def qFm (x y : Int32) : Int32 := if (x ^^^ y) < 0 ∧ ¬ (x - x / y * y) = 0 then (x - x / y * y) + y else x - x / y * y
def qSc (g : Nat → Int32) (st re : Int32) : Nat → Nat
  | 0 => 0
  | k + 1 => if qFm (g k) st = re then qSc g st re k else qSc g st re k + 1
def qSf (g : Nat → Int32) (st re : Int32) : Nat → (Nat → Int32)
  | 0 => g
  | k + 1 => if qFm (g k) st = re then qSf g st re k else upd (qSf g st re k) (qSc g st re k) (g k)
/-- is there such a place; such a place or the end -/
def qHp (p : Int32) (n : Nat) : Int32 := if p < 0 then 0 else if nI n ≤ p then 0 else 1
def qHe (p : Int32) (n : Nat) : Int32 := if p < 0 then 0 else if nI n < p then 0 else 1
abbrev qNo : Int64 := 1099511627776
def qAt (g : Nat → Int32) (n : Nat) (p : Int32) : Int64 := if qHp p n = 0 then qNo else (g p.toNatClampNeg).toInt64
def qPut (g : Nat → Int32) (n : Nat) (p v : Int32) : Int32 × qR := if qHe p n = 0 then (0, (g, n)) else (1, (qIns g p.toNatClampNeg v, n + 1))
def qTake (g : Nat → Int32) (n : Nat) (p : Int32) : Int64 × qR := if qHp p n = 0 then (qNo, (g, n)) else ((g p.toNatClampNeg).toInt64, (qDel g p.toNatClampNeg, n - 1))
def qSwap (g : Nat → Int32) (n : Nat) (p v : Int32) : Int64 × qR := if qHp p n = 0 then (qNo, (g, n)) else ((g p.toNatClampNeg).toInt64, (upd g p.toNatClampNeg v, n))
def qSieve (g : Nat → Int32) (n : Nat) (st re : Int32) : Int32 × qR := if st < 1 then (-1, (g, n)) else (nI (n - qSc g st re n), (qSf g st re n, qSc g st re n))
def qTurn (g : Nat → Int32) (n : Nat) (k : Int32) : Int32 × qR := if k < 0 then (-1, (g, n)) else if 100 < k then (-1, (g, n)) else (nI n, (qRot g n k.toNatClampNeg, n))
/-! What the calls answer and do. -/
def qEnter (v : Int32) : qS → Int32 × qS
  | ((gh, nh), r, k, fi, me) => (nI (nh + 1), ((qIns gh (qCb gh v nh) v, nh + 1), r, k, fi, me))
def qCall (z : Int32) : qS → Int64 × qS
  | ((gh, nh), r, k, fi, me) => if z = 0 then ((qTake gh nh (nI 0)).1, ((qTake gh nh (nI 0)).2, r, k, fi, me)) else (qAt gh nh (nI 0), ((gh, nh), r, k, fi, me))
def qLeave (v : Int32) : qS → Int32 × qS
  | ((gh, nh), r, k, fi, me) => if qPl gh v 0 nh < 0 then (0, ((gh, nh), r, k, fi, me)) else (1, ((qDel gh (qPl gh v 0 nh).toNatClampNeg, nh - 1), r, k, fi, me))
def qHasR (g : Nat → Int32) (n : Nat) (v : Int32) : Int32 := if qPl g v 0 n < 0 then 0 else 1
def qHas (w v : Int32) : qS → Int32 × qS
  | ((gh, nh), (gr, nr), (gk, nk), fi, me) => (if w = 0 then qHasR gh nh v else if w = 1 then qHasR gr nr v else if w = 2 then qHasR gk nk v else 0, ((gh, nh), (gr, nr), (gk, nk), fi, me))
def qSize (w : Int32) : qS → Int32 × qS
  | ((gh, nh), (gr, nr), (gk, nk), fi, me) => (if w = 0 then nI nh else if w = 1 then nI nr else if w = 2 then nI nk else -1, ((gh, nh), (gr, nr), (gk, nk), fi, me))
def qClear (w : Int32) : qS → Int32 × qS
  | ((gh, nh), (gr, nr), (gk, nk), fi, me) => if w = 0 then (nI nh, ((gh, 0), (gr, nr), (gk, nk), fi, me)) else if w = 1 then (nI nr, ((gh, nh), (gr, 0), (gk, nk), fi, me)) else if w = 2 then (if 0 < nk then (nI nk, ((gh, nh), (gr, nr), (gk, 0), -1, -1)) else (nI nk, ((gh, nh), (gr, nr), (gk, 0), fi, me))) else (-1, ((gh, nh), (gr, nr), (gk, nk), fi, me))
def qJoin (v z : Int32) : qS → Int32 × qS
  | (h, (gr, nr), k, fi, me) => (nI (nr + 1), (h, (qIns gr (if z = 0 then nr else 0) v, nr + 1), k, fi, me))
def qServe (z y : Int32) : qS → Int64 × qS
  | (h, (gr, nr), k, fi, me) => if nr = 0 then (qNo, (h, (gr, nr), k, fi, me)) else if y = 0 then ((gr (if z = 0 then nr - 1 else 0)).toInt64, (h, (qDel gr (if z = 0 then nr - 1 else 0), nr - 1), k, fi, me)) else ((gr (if z = 0 then nr - 1 else 0)).toInt64, (h, (gr, nr), k, fi, me))
def qDrop (v z : Int32) : qS → Int32 × qS
  | (h, (gr, nr), k, fi, me) => if qPl gr v (if z = 0 then 1 else 0) nr < 0 then (0, (h, (gr, nr), k, fi, me)) else (1, (h, (qDel gr (qPl gr v (if z = 0 then 1 else 0) nr).toNatClampNeg, nr - 1), k, fi, me))
def qRing (p z : Int32) : qS → Int64 × qS
  | (h, (gr, nr), k, fi, me) => (if qHp p nr = 0 then qNo else if z = 0 then (gr p.toNatClampNeg).toInt64 else (gr (nr - 1 - p.toNatClampNeg)).toInt64, (h, (gr, nr), k, fi, me))
def qSieveS (st re : Int32) : qS → Int32 × qS
  | (h, (gr, nr), k, fi, me) => ((qSieve gr nr st re).1, (h, (qSieve gr nr st re).2, k, fi, me))
def qRollS (n : Int32) : qS → Int32 × qS
  | (h, (gr, nr), k, fi, me) => ((qTurn gr nr n).1, (h, (qTurn gr nr n).2, k, fi, me))
def qInsert (p v : Int32) : qS → Int32 × qS
  | (h, r, (gk, nk), fi, me) => if qHe p nk = 0 then (-1, (h, r, (gk, nk), fi, me)) else (nI (nk + 1), (h, r, (qIns gk p.toNatClampNeg v, nk + 1), -1, -1))
def qChange (p v z : Int32) : qS → Int64 × qS
  | (h, r, (gk, nk), fi, me) => if qHp p nk = 0 then (qNo, (h, r, (gk, nk), fi, me)) else if z = 0 then ((gk p.toNatClampNeg).toInt64, (h, r, (upd gk p.toNatClampNeg v, nk), fi, me)) else ((gk p.toNatClampNeg).toInt64, (h, r, (qDel gk p.toNatClampNeg, nk - 1), -1, -1))
def qChain (p : Int32) : qS → Int64 × qS
  | (h, r, (gk, nk), fi, me) => (qAt gk nk p, (h, r, (gk, nk), fi, me))
def qFind (v z : Int32) : qS → Int32 × qS
  | (h, r, (gk, nk), fi, me) => (qPl gk v z nk, (h, r, (gk, nk), fi, me))
def qUnlink (v : Int32) : qS → Int32 × qS
  | (h, r, (gk, nk), fi, me) => if qPl gk v 0 nk < 0 then (0, (h, r, (gk, nk), fi, me)) else (1, (h, r, (qDel gk (qPl gk v 0 nk).toNatClampNeg, nk - 1), -1, -1))
def qPoint (p : Int32) : qS → Int32 × qS
  | (h, r, (gk, nk), fi, me) => if qHe p nk = 0 then (-1, (h, r, (gk, nk), fi, me)) else (p, (h, r, (gk, nk), p, -1))
def qPass (z : Int32) : qS → Int64 × qS
  | (h, r, (gk, nk), fi, me) => if fi < 0 then (qNo, (h, r, (gk, nk), fi, me)) else if z = 0 then (if fi = nI nk then (qNo, (h, r, (gk, nk), fi, me)) else ((gk fi.toNatClampNeg).toInt64, (h, r, (gk, nk), fi + 1, fi))) else (if fi = 0 then (qNo, (h, r, (gk, nk), fi, me)) else ((gk (fi.toNatClampNeg - 1)).toInt64, (h, r, (gk, nk), fi - 1, fi - 1)))
def qTouch (w v : Int32) : qS → Int32 × qS
  | (h, r, (gk, nk), fi, me) => if fi < 0 then (-1, (h, r, (gk, nk), fi, me))
    else if w = 0 then (if me < 0 then (-1, (h, r, (gk, nk), fi, me)) else (nI nk, (h, r, (upd gk me.toNatClampNeg v, nk), fi, me)))
    else if w = 1 then (if me < 0 then (-1, (h, r, (gk, nk), fi, me)) else if me < fi then (nI (nk - 1), (h, r, (qDel gk me.toNatClampNeg, nk - 1), fi - 1, -1)) else (nI (nk - 1), (h, r, (qDel gk me.toNatClampNeg, nk - 1), fi, -1)))
    else if w = 2 then (nI (nk + 1), (h, r, (qIns gk fi.toNatClampNeg v, nk + 1), fi + 1, -1))
    else (-1, (h, r, (gk, nk), fi, me))
def qFinger : qS → Int32 × qS
  | (h, r, k, fi, me) => (fi, (h, r, k, fi, me))
def qEmpty : qS → Int32 × qS
  | ((gh, nh), (gr, nr), k, fi, me) => (nI (nr + nh), ((gh, 0), (qCat gr nr gh nh, nr + nh), k, fi, me))
def qHand : qS → Int32 × qS
  | (h, (gr, nr), (gk, nk), fi, me) => if 0 < nk then (nI (nr + nk), (h, (qCat gr 0 gk nk, nr + nk), (gk, 0), -1, -1)) else (nI (nr + nk), (h, (qCat gr 0 gk nk, nr + nk), (gk, 0), fi, me))
/-- the finger: none; or before, between or behind the chain's numbers, with a number met or none -/
def qFok (fi me : Int32) (nk : Nat) : Prop := (fi = -1 ∧ me = -1) ∨ ∃ a, a ≤ nk ∧ fi = nI a ∧ (me = -1 ∨ ∃ b, b < nk ∧ me = nI b)
def qSorted (g : Nat → Int32) (n : Nat) : Prop := ∀ i j, i ≤ j → j < n → g i ≤ g j
def qInv (c : Nat) : qS → Prop
  | ((gh, nh), (_, nr), (_, nk), fi, me) => nh + nr + nk ≤ c ∧ qSorted gh nh ∧ qFok fi me nk
/-! Numbers. -/
theorem ti_lt {x y : Int32} : x < y ↔ x.toInt < y.toInt := Int32.lt_iff_toInt_lt
theorem ti_le {x y : Int32} : x ≤ y ↔ x.toInt ≤ y.toInt := Int32.le_iff_toInt_le
theorem ti_eq {x y : Int32} : x = y ↔ x.toInt = y.toInt := Int32.toInt_inj.symm
theorem ti_0 : (0 : Int32).toInt = 0 := by decide
theorem ti_1 : (1 : Int32).toInt = 1 := by decide
theorem ti_2 : (2 : Int32).toInt = 2 := by decide
theorem ti_m1 : (-1 : Int32).toInt = -1 := by decide
theorem ti_100 : (100 : Int32).toInt = 100 := by decide
theorem ti_2000 : (2000 : Int32).toInt = 2000 := by decide
theorem q_m1 {n : Nat} (h : 0 < n) : nI n - 1 = nI (n - 1) := by
  obtain ⟨k, rfl⟩ : ∃ k, n = k + 1 := ⟨n - 1, by omega⟩
  exact nI_pred k
theorem q_no (x : Int32) : ¬ x.toInt64 = qNo := by
  intro h
  have h1 : x.toInt64.toInt = x.toInt := Int32.toInt_toInt64 x
  rw [h] at h1
  have h2 : (qNo : Int64).toInt = 1099511627776 := by decide
  rw [h2] at h1
  have h3 := Int32.toInt_lt x
  omega
theorem qHp_in {k n : Nat} (h : k < n) (hn : n < 2 ^ 31) : qHp (nI k) n = 1 := by
  have h1 : ¬ nI k < 0 := nI_pos (by omega)
  have h2 : ¬ nI n ≤ nI k := nI_ge h hn
  simp only [qHp, if_neg h1, if_neg h2]
theorem qHe_in {k n : Nat} (h : k ≤ n) (hn : n < 2 ^ 31) : qHe (nI k) n = 1 := by
  have h1 : ¬ nI k < 0 := nI_pos (by omega)
  have h2 : ¬ nI n < nI k := nI_nlt h hn
  simp only [qHe, if_neg h1, if_neg h2]
theorem qHp_c (p : Int32) {n : Nat} (hn : n < 2 ^ 31) : qHp p n = 0 ∨ ∃ k, k < n ∧ p = nI k := by
  by_cases h1 : p < 0
  · exact Or.inl (by simp only [qHp, if_pos h1])
  · by_cases h2 : nI n ≤ p
    · exact Or.inl (by simp only [qHp, if_neg h1, if_pos h2])
    · obtain ⟨j, hj, rfl⟩ := nI_of h1
      exact Or.inr ⟨j, by
        rcases Nat.lt_or_ge j n with h | h
        · exact h
        · exact absurd (nI_le h hj) h2, rfl⟩
theorem qHe_c (p : Int32) {n : Nat} (hn : n < 2 ^ 31) : qHe p n = 0 ∨ ∃ k, k ≤ n ∧ p = nI k := by
  by_cases h1 : p < 0
  · exact Or.inl (by simp only [qHe, if_pos h1])
  · by_cases h2 : nI n < p
    · exact Or.inl (by simp only [qHe, if_neg h1, if_pos h2])
    · obtain ⟨j, hj, rfl⟩ := nI_of h1
      exact Or.inr ⟨j, by
        rcases Nat.lt_or_ge n j with h | h
        · exact absurd (nI_lt h hj) h2
        · exact h, rfl⟩
/-- what is said of a place that isn't there -/
theorem qHp_o {p : Int32} {n : Nat} (h : qHp p n = 0) (h0 : ¬ p < 0) : nI n ≤ p := by
  by_cases h2 : nI n ≤ p
  · exact h2
  · simp only [qHp, if_neg h0, if_neg h2] at h
    exact absurd h (by decide)
theorem qHe_o {p : Int32} {n : Nat} (h : qHe p n = 0) (h0 : ¬ p < 0) : nI n < p := by
  by_cases h2 : nI n < p
  · exact h2
  · simp only [qHe, if_neg h0, if_neg h2] at h
    exact absurd h (by decide)
theorem q_ne10 : ¬ (1 : Int32) = 0 := by decide
theorem qAt_o {g : Nat → Int32} {n : Nat} {p : Int32} (h : qHp p n = 0) : qAt g n p = qNo := by simp only [qAt, if_pos h]
theorem qAt_i {g : Nat → Int32} {n k : Nat} (h : k < n) (hn : n < 2 ^ 31) : qAt g n (nI k) = (g k).toInt64 := by
  simp only [qAt, qHp_in h hn, if_neg q_ne10, nI_clamp (show k < 2 ^ 31 by omega)]
theorem qPut_o {g : Nat → Int32} {n : Nat} {p v : Int32} (h : qHe p n = 0) : qPut g n p v = (0, (g, n)) := by simp only [qPut, if_pos h]
theorem qPut_i {g : Nat → Int32} {n k : Nat} {v : Int32} (h : k ≤ n) (hn : n < 2 ^ 31) : qPut g n (nI k) v = (1, (qIns g k v, n + 1)) := by
  simp only [qPut, qHe_in h hn, if_neg q_ne10, nI_clamp (show k < 2 ^ 31 by omega)]
theorem qTake_o {g : Nat → Int32} {n : Nat} {p : Int32} (h : qHp p n = 0) : qTake g n p = (qNo, (g, n)) := by simp only [qTake, if_pos h]
theorem qTake_i {g : Nat → Int32} {n k : Nat} (h : k < n) (hn : n < 2 ^ 31) : qTake g n (nI k) = ((g k).toInt64, (qDel g k, n - 1)) := by
  simp only [qTake, qHp_in h hn, if_neg q_ne10, nI_clamp (show k < 2 ^ 31 by omega)]
theorem qSwap_o {g : Nat → Int32} {n : Nat} {p v : Int32} (h : qHp p n = 0) : qSwap g n p v = (qNo, (g, n)) := by simp only [qSwap, if_pos h]
theorem qSwap_i {g : Nat → Int32} {n k : Nat} {v : Int32} (h : k < n) (hn : n < 2 ^ 31) : qSwap g n (nI k) v = ((g k).toInt64, (upd g k v, n)) := by
  simp only [qSwap, qHp_in h hn, if_neg q_ne10, nI_clamp (show k < 2 ^ 31 by omega)]
/-! Rows that agree. -/
theorem qAg_rf {n : Nat} {f : Nat → Int32} : qAg n f f := fun _ _ => rfl
theorem qAg_0 {f g : Nat → Int32} : qAg 0 f g := fun _ h => absurd h (Nat.not_lt_zero _)
theorem qAg_tr {n : Nat} {f g k : Nat → Int32} (h : qAg n f g) (h2 : qAg n g k) : qAg n f k := fun j hj => (h j hj).trans (h2 j hj)
theorem qAg_put {n p : Nat} {f g : Nat → Int32} {v : Int32} (h : qAg n f g) (hp : p ≤ n) : qAg (n + 1) (upd (va_cpy f f p (p + 1) (n - p)) p v) (qIns g p v) := by
  intro j hj
  by_cases h1 : j = p
  · subst h1
    simp [upd, qIns]
  · by_cases h2 : j < p
    · simp only [upd, qIns, va_cpy, if_neg h1, if_pos h2]
      rw [if_neg (by omega)]
      exact h j (by omega)
    · simp only [upd, qIns, va_cpy, if_neg h1, if_neg h2]
      rw [if_pos (by omega), show p + (j - (p + 1)) = j - 1 by omega]
      exact h _ (by omega)
theorem qAg_take {n p : Nat} {f g : Nat → Int32} (h : qAg n f g) (hp : p < n) : qAg (n - 1) (va_cpy f f (p + 1) p (n - 1 - p)) (qDel g p) := by
  intro j hj
  by_cases h2 : j < p
  · simp only [qDel, va_cpy, if_pos h2]
    rw [if_neg (by omega)]
    exact h j (by omega)
  · simp only [qDel, va_cpy, if_neg h2]
    rw [if_pos (by omega), show p + 1 + (j - p) = j + 1 by omega]
    exact h _ (by omega)
theorem qAg_upd {n p : Nat} {f g : Nat → Int32} {v : Int32} (h : qAg n f g) : qAg n (upd f p v) (upd g p v) := by
  intro j hj
  by_cases h1 : j = p
  · simp only [upd, if_pos h1]
  · simp only [upd, if_neg h1]
    exact h j hj
theorem qAg_cat {n p m : Nat} {f g o o' : Nat → Int32} (h : qAg n f g) (ho : qAg m o o') (hp : p ≤ n) : qAg (n + m) (va_cpy o (va_cpy f f p (p + m) (n - p)) 0 p m) (qCat g p o' m) := by
  intro j hj
  by_cases h1 : j < p
  · simp only [qCat, va_cpy, if_pos h1]
    rw [if_neg (by omega), if_neg (by omega)]
    exact h j (by omega)
  · by_cases h2 : j < p + m
    · simp only [qCat, va_cpy, if_neg h1, if_pos h2]
      rw [if_pos (by omega), show 0 + (j - p) = j - p by omega]
      exact ho _ (by omega)
    · simp only [qCat, va_cpy, if_neg h1, if_neg h2]
      rw [if_neg (by omega), if_pos (by omega), show p + (j - (p + m)) = j - m by omega]
      exact h _ (by omega)
theorem qAg_turn {n k : Nat} {f g : Nat → Int32} (h : qAg n f g) (hn : 0 < n) : qAg n (va_cpy (va_cpy f f 0 n (k % n)) (va_cpy f f 0 n (k % n)) (k % n) 0 n) (qRot g n k) := by
  intro j hj
  have hm : k % n < n := Nat.mod_lt _ hn
  have e1 : (j + k) % n = (j + k % n) % n := (Nat.add_mod_mod j k n).symm
  simp only [qRot, e1]
  generalize k % n = d at hm
  by_cases h1 : j + d < n
  · rw [Nat.mod_eq_of_lt h1]
    simp only [va_cpy]
    rw [if_pos (by omega), if_neg (by omega), show d + (j - 0) = j + d by omega]
    exact h _ h1
  · rw [Nat.mod_eq_sub_mod (by omega), Nat.mod_eq_of_lt (by omega)]
    simp only [va_cpy]
    rw [if_pos (by omega), if_pos (by omega), show 0 + (d + (j - 0) - n) = j + d - n by omega]
    exact h _ (by omega)
theorem qPl_ag {g f : Nat → Int32} {v z : Int32} : ∀ {n : Nat}, qAg n f g → qPl f v z n = qPl g v z n
  | 0, _ => rfl
  | n + 1, h => by
    have ih := qPl_ag (v := v) (z := z) (n := n) (fun j hj => h j (by omega))
    simp only [qPl, ih, h n (by omega)]
theorem qCb_ag {g f : Nat → Int32} {v : Int32} : ∀ {n : Nat}, qAg n f g → qCb f v n = qCb g v n
  | 0, _ => rfl
  | n + 1, h => by
    have ih := qCb_ag (v := v) (n := n) (fun j hj => h j (by omega))
    simp only [qCb, ih, h n (by omega)]
theorem qCb_le {g : Nat → Int32} {v : Int32} : ∀ (n : Nat), qCb g v n ≤ n
  | 0 => Nat.le_refl 0
  | n + 1 => by
    have ih := qCb_le (g := g) (v := v) n
    simp only [qCb]
    split <;> omega
theorem qSc_le {g : Nat → Int32} {st re : Int32} : ∀ (n : Nat), qSc g st re n ≤ n
  | 0 => Nat.le_refl 0
  | n + 1 => by
    have ih := qSc_le (g := g) (st := st) (re := re) n
    simp only [qSc]
    split <;> omega
theorem qPl_r {g : Nat → Int32} {v z : Int32} : ∀ (n : Nat), qPl g v z n = -1 ∨ ∃ p, p < n ∧ qPl g v z n = nI p ∧ g p = v
  | 0 => Or.inl rfl
  | n + 1 => by
    simp only [qPl]
    split
    · exact Or.inr ⟨n, by omega, rfl, (by assumption : g n = v ∧ _).1⟩
    · rcases qPl_r (g := g) (v := v) (z := z) n with h | ⟨p, h1, h2, h3⟩
      · exact Or.inl h
      · exact Or.inr ⟨p, by omega, h2, h3⟩
theorem qPl_none {g : Nat → Int32} {v z : Int32} : ∀ {n : Nat}, (∀ j, j < n → ¬ g j = v) → qPl g v z n = -1
  | 0, _ => rfl
  | n + 1, h => by
    have ih := qPl_none (g := g) (v := v) (z := z) (n := n) (fun j hj => h j (by omega))
    simp only [qPl, ih]
    rw [if_neg (fun q => h n (by omega) q.1)]
theorem qPl_first {g : Nat → Int32} {v : Int32} {i : Nat} (h : ∀ j, j < i → ¬ g j = v) (hi : g i = v) (hb : i < 2 ^ 31) : ∀ (n : Nat), i < n → qPl g v 0 n = nI i
  | 0, q => absurd q (Nat.not_lt_zero _)
  | n + 1, q => by
    by_cases e : i = n
    · subst e
      simp only [qPl, qPl_none h]
      rw [if_pos ⟨hi, Or.inr (by decide)⟩]
    · have ih := qPl_first h hi hb n (by omega)
      simp only [qPl, ih]
      rw [if_neg (fun q => by
        rcases q.2 with a | a
        · exact absurd (by simp) a
        · exact nI_pos hb a)]
theorem qPl_last {g : Nat → Int32} {v : Int32} {i : Nat} (hi : g i = v) : ∀ (n : Nat), i < n → (∀ j, i < j → j < n → ¬ g j = v) → qPl g v 1 n = nI i
  | 0, q, _ => absurd q (Nat.not_lt_zero _)
  | n + 1, q, h => by
    by_cases e : i = n
    · subst e
      simp only [qPl]
      rw [if_pos ⟨hi, Or.inl (by decide)⟩]
    · have ih := qPl_last hi n (by omega) (fun j a b => h j a (by omega))
      simp only [qPl, ih]
      rw [if_neg (fun q2 => h n (by omega) (by omega) q2.1)]
theorem qPl_z {g : Nat → Int32} {v z : Int32} (hz : ¬ z = 0) : ∀ (n : Nat), qPl g v z n = qPl g v 1 n
  | 0 => rfl
  | n + 1 => by
    have e : (¬ z = 0 ∨ qPl g v z n < 0) ↔ (¬ (1 : Int32) = 0 ∨ qPl g v 1 n < 0) := ⟨fun _ => Or.inl (by decide), fun _ => Or.inl hz⟩
    simp only [qPl, qPl_z hz n]
    by_cases h : g n = v
    · rw [if_pos ⟨h, Or.inl hz⟩, if_pos ⟨h, Or.inl (by decide)⟩]
    · rw [if_neg (fun q => h q.1), if_neg (fun q => h q.1)]
end
section
/-! More of the pure picture: sorted rows, the reference's loops, what every call keeps. -/
theorem qCb_s {g : Nat → Int32} {v : Int32} : ∀ (n : Nat), qSorted g n → (∀ j, j < qCb g v n → g j < v) ∧ (∀ j, qCb g v n ≤ j → j < n → v ≤ g j)
  | 0, _ => ⟨fun j h => absurd h (Nat.not_lt_zero j), fun j _ h => absurd h (Nat.not_lt_zero j)⟩
  | n + 1, hs => by
    obtain ⟨i1, i2⟩ := qCb_s (g := g) (v := v) n (fun i j a b => hs i j a (by omega))
    have hle := qCb_le (g := g) (v := v) n
    by_cases h : g n < v
    · have e : qCb g v n = n := by
        rcases Nat.lt_or_ge (qCb g v n) n with q | q
        · have a := i2 _ (Nat.le_refl _) q
          have b := hs (qCb g v n) n (by omega) (by omega)
          rw [ti_le] at a b
          rw [ti_lt] at h
          omega
        · omega
      have e2 : qCb g v (n + 1) = n + 1 := by simp only [qCb, if_pos h, e]
      rw [e2]
      refine ⟨fun j hj => ?_, fun j a b => by omega⟩
      by_cases q : j = n
      · rw [q]
        exact h
      · exact i1 j (by omega)
    · have e2 : qCb g v (n + 1) = qCb g v n := by simp only [qCb, if_neg h]
      rw [e2]
      refine ⟨i1, fun j a b => ?_⟩
      by_cases q : j = n
      · rw [q]
        rw [ti_lt] at h
        rw [ti_le]
        omega
      · exact i2 j a (by omega)
/-- wherever among its equals a number enters, the row is the same -/
theorem qEnt {g : Nat → Int32} {v : Int32} {n k : Nat} (hs : qSorted g n) (hk : k ≤ n) (h1 : ∀ j, j < k → g j ≤ v) (h2 : k < n → v < g k) : qAg (n + 1) (qIns g k v) (qIns g (qCb g v n) v) := by
  obtain ⟨i1, i2⟩ := qCb_s (v := v) n hs
  have hle := qCb_le (g := g) (v := v) n
  generalize qCb g v n = p at i1 i2 hle
  have hpk : p ≤ k := by
    rcases Nat.lt_or_ge k p with q | q
    · have a := i1 k q
      have b := h2 (by omega)
      rw [ti_lt] at a b
      omega
    · exact q
  have hv : ∀ j, p ≤ j → j < k → g j = v := fun j a b => by
    have c1 := h1 j b
    have c2 := i2 j a (by omega)
    rw [ti_le] at c1 c2
    rw [ti_eq]
    omega
  intro j hj
  simp only [qIns]
  by_cases a1 : j < p
  · rw [if_pos (show j < k by omega), if_pos a1]
  · rw [if_neg a1]
    by_cases a2 : j = p
    · rw [if_pos a2]
      by_cases a3 : j < k
      · rw [if_pos a3]
        exact hv j (by omega) a3
      · rw [if_neg a3, if_pos (show j = k by omega)]
    · rw [if_neg a2]
      by_cases a3 : j < k
      · rw [if_pos a3, hv j (by omega) a3, hv (j - 1) (by omega) (by omega)]
      · rw [if_neg a3]
        by_cases a4 : j = k
        · rw [if_pos a4, hv (j - 1) (by omega) (by omega)]
        · rw [if_neg a4]
theorem qSorted_ins {g : Nat → Int32} {v : Int32} {n : Nat} (hs : qSorted g n) : qSorted (qIns g (qCb g v n) v) (n + 1) := by
  obtain ⟨i1, i2⟩ := qCb_s (v := v) n hs
  have hle := qCb_le (g := g) (v := v) n
  generalize qCb g v n = p at i1 i2 hle
  intro i j hij hj
  simp only [qIns]
  have rf : ∀ x : Int32, x ≤ x := fun x => by rw [ti_le]; omega
  have lt_le : ∀ x y : Int32, x < y → x ≤ y := fun x y h => by
    rw [ti_lt] at h
    rw [ti_le]
    omega
  by_cases a1 : j < p
  · rw [if_pos (show i < p by omega), if_pos a1]
    exact hs i j hij (by omega)
  · rw [if_neg a1]
    by_cases a2 : j = p
    · rw [if_pos a2]
      by_cases a3 : i < p
      · rw [if_pos a3]
        exact lt_le _ _ (i1 i a3)
      · rw [if_neg a3, if_pos (show i = p by omega)]
        exact rf v
    · rw [if_neg a2]
      by_cases a3 : i < p
      · rw [if_pos a3]
        exact hs i (j - 1) (by omega) (by omega)
      · rw [if_neg a3]
        by_cases a4 : i = p
        · rw [if_pos a4]
          exact i2 (j - 1) (by omega) (by omega)
        · rw [if_neg a4]
          exact hs (i - 1) (j - 1) (by omega) (by omega)
theorem qSorted_del {g : Nat → Int32} {n p : Nat} (hs : qSorted g n) : qSorted (qDel g p) (n - 1) := by
  intro i j hij hj
  simp only [qDel]
  by_cases a : j < p
  · rw [if_pos (show i < p by omega), if_pos a]
    exact hs i j hij (by omega)
  · rw [if_neg a]
    by_cases b : i < p
    · rw [if_pos b]
      exact hs i (j + 1) (by omega) (by omega)
    · rw [if_neg b]
      exact hs (i + 1) (j + 1) (by omega) (by omega)
theorem qSorted_0 {g : Nat → Int32} : qSorted g 0 := fun _ _ _ h => absurd h (Nat.not_lt_zero _)
/-! The loops that write. -/
def qMp (a f : Nat → Int32) (k n : Nat) : Prop := (∀ j, j < k → a j = f j) ∧ ∀ j, k < j → j ≤ n → a j = f (j - 1)
theorem qMp_0 {f : Nat → Int32} {n : Nat} : qMp f f n n := ⟨fun _ _ => rfl, fun j a b => absurd a (by omega)⟩
theorem qMp_s {a f : Nat → Int32} {k n : Nat} (h : qMp a f k n) (hk : 0 < k) (hn : k ≤ n) : qMp (upd a k (a (k - 1))) f (k - 1) n := by
  refine ⟨fun j hj => ?_, fun j h1 h2 => ?_⟩
  · simp only [upd]
    rw [if_neg (by omega)]
    exact h.1 j (by omega)
  · simp only [upd]
    by_cases q : j = k
    · rw [if_pos q, q]
      exact h.1 _ (by omega)
    · rw [if_neg q]
      exact h.2 j (by omega) h2
theorem qMp_e {a f g : Nat → Int32} {p n : Nat} {v : Int32} (h : qMp a f p n) (hp : p ≤ n) (hg : qAg n f g) : qAg (n + 1) (upd a p v) (qIns g p v) := by
  intro j hj
  simp only [upd, qIns]
  by_cases q : j = p
  · rw [if_pos q, if_neg (by omega), if_pos q]
  · rw [if_neg q]
    by_cases q2 : j < p
    · rw [if_pos q2, h.1 j q2]
      exact hg j (by omega)
    · rw [if_neg q2, if_neg q, h.2 j (by omega) (by omega)]
      exact hg _ (by omega)
def qMt (a f : Nat → Int32) (p k n : Nat) : Prop := (∀ j, j < k → a j = qDel f p j) ∧ ∀ j, k ≤ j → j < n → a j = f j
theorem qMt_0 {f : Nat → Int32} {p n : Nat} : qMt f f p p n := ⟨fun j hj => by simp only [qDel, if_pos hj], fun _ _ _ => rfl⟩
theorem qMt_s {a f : Nat → Int32} {p k n : Nat} (h : qMt a f p k n) (hp : p ≤ k) (hk : k + 1 < n) : qMt (upd a k (a (k + 1))) f p (k + 1) n := by
  refine ⟨fun j hj => ?_, fun j h1 h2 => ?_⟩
  · simp only [upd]
    by_cases q : j = k
    · rw [if_pos q, h.2 (k + 1) (by omega) hk, q]
      simp only [qDel]
      rw [if_neg (by omega)]
    · rw [if_neg q]
      exact h.1 j (by omega)
  · simp only [upd]
    rw [if_neg (by omega)]
    exact h.2 j (by omega) h2
theorem qDel_ag {f g : Nat → Int32} {n p : Nat} (h : qAg n f g) : qAg (n - 1) (qDel f p) (qDel g p) := by
  intro j hj
  simp only [qDel]
  by_cases q : j < p
  · rw [if_pos q, if_pos q]
    exact h j (by omega)
  · rw [if_neg q, if_neg q]
    exact h _ (by omega)
theorem qMt_e {a f g : Nat → Int32} {p k n : Nat} (h : qMt a f p k n) (hk : n ≤ k + 1) (hg : qAg n f g) : qAg (n - 1) a (qDel g p) := by
  intro j hj
  rw [h.1 j (by omega)]
  exact qDel_ag hg j hj
def qSv (a g : Nat → Int32) (st re : Int32) (i n : Nat) : Prop := (∀ j, j < qSc g st re i → a j = qSf g st re i j) ∧ ∀ j, i ≤ j → j < n → a j = g j
theorem qSv_0 {f g : Nat → Int32} {st re : Int32} {n : Nat} (h : qAg n f g) : qSv f g st re 0 n := ⟨fun j hj => absurd hj (Nat.not_lt_zero j), fun j _ hj => h j hj⟩
theorem qSv_y {a g : Nat → Int32} {st re : Int32} {i n : Nat} (h : qSv a g st re i n) (hi : i < n) (hk : ¬ qFm (a i) st = re) : qSv (upd a (qSc g st re i) (a i)) g st re (i + 1) n ∧ qSc g st re (i + 1) = qSc g st re i + 1 := by
  have e := h.2 i (Nat.le_refl i) hi
  rw [e] at hk
  have hle := qSc_le (g := g) (st := st) (re := re) i
  have e1 : qSc g st re (i + 1) = qSc g st re i + 1 := by simp only [qSc, if_neg hk]
  have e2 : qSf g st re (i + 1) = upd (qSf g st re i) (qSc g st re i) (g i) := by simp only [qSf, if_neg hk]
  refine ⟨⟨fun j hj => ?_, fun j h1 h2 => ?_⟩, e1⟩
  · rw [e2, e]
    rw [e1] at hj
    simp only [upd]
    by_cases q : j = qSc g st re i
    · rw [if_pos q, if_pos q]
    · rw [if_neg q, if_neg q]
      exact h.1 j (by omega)
  · simp only [upd]
    rw [if_neg (by omega)]
    exact h.2 j (by omega) h2
theorem qSv_n {a g : Nat → Int32} {st re : Int32} {i n : Nat} (h : qSv a g st re i n) (hi : i < n) (hk : qFm (a i) st = re) : qSv a g st re (i + 1) n ∧ qSc g st re (i + 1) = qSc g st re i := by
  have e := h.2 i (Nat.le_refl i) hi
  rw [e] at hk
  have e1 : qSc g st re (i + 1) = qSc g st re i := by simp only [qSc, if_pos hk]
  have e2 : qSf g st re (i + 1) = qSf g st re i := by simp only [qSf, if_pos hk]
  refine ⟨⟨fun j hj => ?_, fun j h1 h2 => h.2 j (by omega) h2⟩, e1⟩
  rw [e2]
  rw [e1] at hj
  exact h.1 j hj
theorem qRot_0 {f g : Nat → Int32} {n : Nat} (h : qAg n f g) : qAg n f (qRot g n 0) := by
  intro j hj
  simp only [qRot, Nat.add_zero, Nat.mod_eq_of_lt hj]
  exact h j hj
theorem qRot_s {a b g : Nat → Int32} {n i : Nat} (h : qAg n a (qRot g n i)) (hb : qAg (n - 1) b (qDel a 0)) (hn : 0 < n) : qAg n (upd b (n - 1) (a 0)) (qRot g n (i + 1)) := by
  intro j hj
  simp only [upd, qRot]
  by_cases q : j = n - 1
  · rw [if_pos q, h 0 hn, q]
    simp only [qRot]
    rw [show n - 1 + (i + 1) = i + n by omega, Nat.add_mod_right, Nat.zero_add]
  · rw [if_neg q, hb j (by omega)]
    simp only [qDel]
    rw [if_neg (Nat.not_lt_zero j), h (j + 1) (by omega)]
    simp only [qRot]
    rw [show j + 1 + i = j + (i + 1) by omega]
theorem qRot_n0 {f g : Nat → Int32} {k : Nat} : qAg 0 f (qRot g 0 k) := qAg_0
theorem qEm_0 {f g o : Nat → Int32} {n : Nat} (h : qAg n f g) : qAg (n + 0) f (qCat g n o 0) := by
  intro j hj
  simp only [qCat]
  rw [if_pos (show j < n by omega)]
  exact h j (by omega)
theorem qEm_s {a g o o' : Nat → Int32} {n k m : Nat} (h : qAg (n + k) a (qCat g n o k)) (ho : qAg m o' o) (hk : k < m) : qAg (n + (k + 1)) (upd a (n + k) (o' k)) (qCat g n o (k + 1)) := by
  intro j hj
  simp only [upd]
  by_cases q : j = n + k
  · rw [if_pos q, q]
    simp only [qCat]
    rw [if_neg (by omega), if_pos (by omega), show n + k - n = k by omega]
    exact ho k hk
  · rw [if_neg q, h j (by omega)]
    simp only [qCat]
    by_cases q2 : j < n
    · rw [if_pos q2, if_pos q2]
    · rw [if_neg q2, if_neg q2, if_pos (by omega), if_pos (by omega)]
def qHd (a g : Nat → Int32) (c n m : Nat) : Prop := (∀ j, j < c → a j = g j) ∧ ∀ j, c ≤ j → j < n → a (j + m) = g j
theorem qHd_0 {f g : Nat → Int32} {n m : Nat} (h : qAg n f g) : qHd f g n n m := ⟨h, fun j a b => absurd a (by omega)⟩
theorem qHd_s {a g : Nat → Int32} {d n m : Nat} (h : qHd a g (d + 1) n m) : qHd (upd a (d + m) (a d)) g d n m := by
  refine ⟨fun j hj => ?_, fun j h1 h2 => ?_⟩
  · simp only [upd]
    rw [if_neg (by omega)]
    exact h.1 j (by omega)
  · simp only [upd]
    by_cases q : j = d
    · rw [if_pos (by omega), q]
      exact h.1 d (by omega)
    · rw [if_neg (by omega)]
      exact h.2 j (by omega) h2
def qHc (a g o : Nat → Int32) (k n m : Nat) : Prop := (∀ j, j < k → a j = o j) ∧ ∀ j, j < n → a (j + m) = g j
theorem qHc_0 {a g o : Nat → Int32} {n m : Nat} (h : qHd a g 0 n m) : qHc a g o 0 n m := ⟨fun j a => absurd a (Nat.not_lt_zero j), fun j hj => h.2 j (Nat.zero_le j) hj⟩
theorem qHc_s {a g o o' : Nat → Int32} {k n m : Nat} (h : qHc a g o k n m) (ho : qAg m o' o) (hk : k < m) : qHc (upd a k (o' k)) g o (k + 1) n m := by
  refine ⟨fun j hj => ?_, fun j h2 => ?_⟩
  · simp only [upd]
    by_cases q : j = k
    · rw [if_pos q, q]
      exact ho k hk
    · rw [if_neg q]
      exact h.1 j (by omega)
  · simp only [upd]
    rw [if_neg (by omega)]
    exact h.2 j h2
theorem qHc_e {a g o : Nat → Int32} {n m : Nat} (h : qHc a g o m n m) : qAg (n + m) a (qCat g 0 o m) := by
  intro j hj
  simp only [qCat]
  rw [if_neg (Nat.not_lt_zero j)]
  by_cases q : j < 0 + m
  · rw [if_pos q]
    exact h.1 j (by omega)
  · rw [if_neg q]
    have h2 := h.2 (j - m) (by omega)
    rw [show j - m + m = j by omega] at h2
    exact h2
theorem qHp_m1 {n : Nat} : qHp (-1) n = 0 := by simp only [qHp, if_pos (show (-1 : Int32) < 0 by decide)]
theorem q_0m1 : nI 0 - 1 = -1 := by decide
/-! What every call keeps. -/
theorem qFok_none {nk : Nat} : qFok (-1) (-1) nk := Or.inl ⟨rfl, rfl⟩
theorem qFok_c {fi me : Int32} {nk : Nat} (h : qFok fi me nk) : (fi = -1 ∧ me = -1) ∨ (∃ a, a ≤ nk ∧ fi = nI a ∧ me = -1) ∨ ∃ a b, a ≤ nk ∧ b < nk ∧ fi = nI a ∧ me = nI b := by
  rcases h with h | ⟨a, h1, h2, h3 | ⟨b, h3, h4⟩⟩
  · exact Or.inl h
  · exact Or.inr (Or.inl ⟨a, h1, h2, h3⟩)
  · exact Or.inr (Or.inr ⟨a, b, h1, h3, h2, h4⟩)
theorem qFok_in {nk a : Nat} (h : a ≤ nk) : qFok (nI a) (-1) nk := Or.inr ⟨a, h, rfl, Or.inl rfl⟩
theorem qFok_met {nk a b : Nat} (h : a ≤ nk) (hb : b < nk) : qFok (nI a) (nI b) nk := Or.inr ⟨a, h, rfl, Or.inr ⟨b, hb, rfl⟩⟩
theorem q_dec (x : Int32) : x + Int32.ofInt (-1) = x - 1 := by
  rw [Int32.sub_eq_add_neg]
  rfl
theorem qTurn_i {g : Nat → Int32} {n k : Nat} (hk : k ≤ 100) : qTurn g n (nI k) = (nI n, (qRot g n k, n)) := by
  have h1 : ¬ nI k < 0 := nI_pos (by omega)
  have h2 : ¬ (100 : Int32) < nI k := by
    rw [ti_lt, ti_100, nI_toInt (by omega)]
    omega
  simp only [qTurn, if_neg h1, if_neg h2, nI_clamp (show k < 2 ^ 31 by omega)]
theorem q_turn (p : Int32) : p < 0 ∨ (¬ p < 0 ∧ 100 < p) ∨ ∃ k, k ≤ 100 ∧ p = nI k := by
  by_cases h1 : p < 0
  · exact Or.inl h1
  · by_cases h2 : 100 < p
    · exact Or.inr (Or.inl ⟨h1, h2⟩)
    · obtain ⟨j, hj, rfl⟩ := nI_of h1
      rw [ti_lt, ti_100, nI_toInt hj] at h2
      exact Or.inr (Or.inr ⟨j, by omega, rfl⟩)
theorem q_hp00 {n : Nat} (h : n = 0) : qHp (nI 0) n = 0 := by
  subst h
  decide
theorem qHp_e {n : Nat} (h : n < 2 ^ 31) : qHp (nI n) n = 0 := by
  have h1 : ¬ nI n < 0 := nI_pos h
  have h2 : nI n ≤ nI n := nI_le (Nat.le_refl n) h
  simp only [qHp, if_neg h1, if_pos h2]
theorem q_w (x : Int32) : x = 0 ∨ x = 1 ∨ x = 2 ∨ (¬ x = 0 ∧ ¬ x = 1 ∧ ¬ x = 2) := by
  by_cases h0 : x = 0
  · exact Or.inl h0
  · by_cases h1 : x = 1
    · exact Or.inr (Or.inl h1)
    · by_cases h2 : x = 2
      · exact Or.inr (Or.inr (Or.inl h2))
      · exact Or.inr (Or.inr (Or.inr ⟨h0, h1, h2⟩))
theorem q_wo {x : Int32} (h0 : ¬ x = 0) (h1 : ¬ x = 1) (h2 : ¬ x = 2) : x.toInt < 0 ∨ 2 < x.toInt := by
  rw [ti_eq, ti_0] at h0
  rw [ti_eq, ti_1] at h1
  rw [ti_eq, ti_2] at h2
  omega
def qRow (a1 a2 a3 : Nat) (w : Int32) : Option Nat := if w = 0 then some a1 else if w = 1 then some a2 else if w = 2 then some a3 else none
theorem qRow_0 {a1 a2 a3 : Nat} : qRow a1 a2 a3 0 = some a1 := by simp only [qRow, if_pos True.intro]
theorem qRow_1 {a1 a2 a3 : Nat} : qRow a1 a2 a3 1 = some a2 := by simp only [qRow, if_neg (show ¬ (1 : Int32) = 0 by decide), if_pos True.intro]
theorem qRow_2 {a1 a2 a3 : Nat} : qRow a1 a2 a3 2 = some a3 := by simp only [qRow, if_neg (show ¬ (2 : Int32) = 0 by decide), if_neg (show ¬ (2 : Int32) = 1 by decide), if_pos True.intro]
theorem qRow_n {a1 a2 a3 : Nat} {w : Int32} (h0 : ¬ w = 0) (h1 : ¬ w = 1) (h2 : ¬ w = 2) : qRow a1 a2 a3 w = none := by simp only [qRow, if_neg h0, if_neg h1, if_neg h2]
theorem qHasR_n {g : Nat → Int32} {n : Nat} {v : Int32} (h : qPl g v 0 n = -1) : qHasR g n v = 0 := by simp only [qHasR, h, if_pos (show (-1 : Int32) < 0 by decide)]
theorem qHasR_y {g : Nat → Int32} {n : Nat} {v : Int32} (h : ¬ qPl g v 0 n = -1) (hn : n < 2 ^ 31) : qHasR g n v = 1 := by
  rcases qPl_r (g := g) (v := v) (z := 0) n with q | ⟨k, hk, q, -⟩
  · exact absurd q h
  · simp only [qHasR, q, if_neg (nI_pos (show k < 2 ^ 31 by omega))]
theorem q_pass {fi me : Int32} {nk : Nat} (h : qFok fi me nk) (z : Int32) : fi = -1 ∨ (z = 0 ∧ fi = nI nk) ∨ (z = 0 ∧ ∃ a, a < nk ∧ fi = nI a) ∨ (¬ z = 0 ∧ fi = nI 0) ∨ (¬ z = 0 ∧ ∃ a, a < nk ∧ fi = nI (a + 1)) := by
  rcases h with ⟨h, -⟩ | ⟨a, h1, h2, -⟩
  · exact Or.inl h
  · by_cases hz : z = 0
    · rcases Nat.lt_or_ge a nk with q | q
      · exact Or.inr (Or.inr (Or.inl ⟨hz, a, q, h2⟩))
      · exact Or.inr (Or.inl ⟨hz, by rw [h2, show a = nk by omega]⟩)
    · rcases Nat.eq_zero_or_pos a with q | q
      · exact Or.inr (Or.inr (Or.inr (Or.inl ⟨hz, by rw [h2, q]⟩)))
      · exact Or.inr (Or.inr (Or.inr (Or.inr ⟨hz, a - 1, by omega, by rw [h2, show a - 1 + 1 = a by omega]⟩)))
theorem qFok_m {fi me : Int32} {nk : Nat} (h : qFok fi me nk) : me = -1 ∨ ∃ b, b < nk ∧ me = nI b := by
  rcases h with ⟨-, h⟩ | ⟨a, -, -, h⟩
  · exact Or.inl h
  · exact h
theorem q_met {fi me : Int32} {nk : Nat} (h : qFok fi me nk) (hfi : ¬ fi < 0) : (∃ a, a ≤ nk ∧ fi = nI a ∧ me = -1) ∨ ∃ a b, a ≤ nk ∧ b < nk ∧ fi = nI a ∧ me = nI b := by
  rcases qFok_c h with ⟨h1, -⟩ | h1 | h1
  · rw [h1] at hfi
    exact absurd (by decide) hfi
  · exact Or.inl h1
  · exact Or.inr h1
theorem qFok_a {fi me : Int32} {nk : Nat} (h : qFok fi me nk) (hfi : ¬ fi < 0) : ∃ a, a ≤ nk ∧ fi = nI a := by
  rcases h with ⟨h1, -⟩ | ⟨a, h1, h2, -⟩
  · rw [h1] at hfi
    exact absurd (by decide) hfi
  · exact ⟨a, h1, h2⟩
theorem qFok_n {fi me : Int32} {nk : Nat} (h : qFok fi me nk) (hfi : fi < 0) (hb : nk < 2 ^ 31) : fi = -1 := by
  rcases h with ⟨h1, -⟩ | ⟨a, h1, h2, -⟩
  · exact h1
  · rw [h2] at hfi
    exact absurd hfi (nI_pos (by omega))
theorem qFok_nn {fi : Int32} (hfi : ¬ fi < 0) : ¬ fi = -1 := by
  intro q
  rw [q] at hfi
  exact hfi (by decide)
theorem q_tw (fi w : Int32) : fi < 0 ∨ (¬ fi < 0 ∧ w = 0) ∨ (¬ fi < 0 ∧ w = 1) ∨ (¬ fi < 0 ∧ w = 2) ∨ (¬ fi < 0 ∧ ¬ w = 0 ∧ ¬ w = 1 ∧ ¬ w = 2) := by
  by_cases h : fi < 0
  · exact Or.inl h
  · rcases q_w w with h0 | h0 | h0 | ⟨h0, h1, h2⟩
    · exact Or.inr (Or.inl ⟨h, h0⟩)
    · exact Or.inr (Or.inr (Or.inl ⟨h, h0⟩))
    · exact Or.inr (Or.inr (Or.inr (Or.inl ⟨h, h0⟩)))
    · exact Or.inr (Or.inr (Or.inr (Or.inr ⟨h, h0, h1, h2⟩)))
def qMany (nh nr nk : Nat) (w : Int32) : Int32 := if w = 0 then nI nh else if w = 1 then nI nr else if w = 2 then nI nk else -1
theorem qMany_0 {nh nr nk : Nat} : qMany nh nr nk 0 = nI nh := by simp only [qMany, if_pos True.intro]
theorem qMany_1 {nh nr nk : Nat} : qMany nh nr nk 1 = nI nr := by simp only [qMany, if_neg (show ¬ (1 : Int32) = 0 by decide), if_pos True.intro]
theorem qMany_2 {nh nr nk : Nat} : qMany nh nr nk 2 = nI nk := by simp only [qMany, if_neg (show ¬ (2 : Int32) = 0 by decide), if_neg (show ¬ (2 : Int32) = 1 by decide), if_pos True.intro]
theorem qMany_n {nh nr nk : Nat} {w : Int32} (h0 : ¬ w = 0) (h1 : ¬ w = 1) (h2 : ¬ w = 2) : qMany nh nr nk w = -1 := by simp only [qMany, if_neg h0, if_neg h1, if_neg h2]
theorem q_tm {fi me : Int32} {nk : Nat} (h : qFok fi me nk) (w : Int32) : fi = -1 ∨ (∃ a, a ≤ nk ∧ fi = nI a ∧ me = -1 ∧ w = 0) ∨ (∃ a b, a ≤ nk ∧ b < nk ∧ fi = nI a ∧ me = nI b ∧ w = 0) ∨ (∃ a, a ≤ nk ∧ fi = nI a ∧ me = -1 ∧ w = 1) ∨ (∃ a b, a ≤ nk ∧ b < nk ∧ fi = nI a ∧ me = nI b ∧ w = 1) ∨ (∃ a, a ≤ nk ∧ fi = nI a ∧ w = 2) ∨ ∃ a, a ≤ nk ∧ fi = nI a ∧ ¬ w = 0 ∧ ¬ w = 1 ∧ ¬ w = 2 := by
  rcases qFok_c h with ⟨h1, -⟩ | ⟨a, h1, h2, h3⟩ | ⟨a, b, h1, h4, h2, h3⟩
  · exact Or.inl h1
  · rcases q_w w with q | q | q | ⟨q0, q1, q2⟩
    · exact Or.inr (Or.inl ⟨a, h1, h2, h3, q⟩)
    · exact Or.inr (Or.inr (Or.inr (Or.inl ⟨a, h1, h2, h3, q⟩)))
    · exact Or.inr (Or.inr (Or.inr (Or.inr (Or.inr (Or.inl ⟨a, h1, h2, q⟩)))))
    · exact Or.inr (Or.inr (Or.inr (Or.inr (Or.inr (Or.inr ⟨a, h1, h2, q0, q1, q2⟩)))))
  · rcases q_w w with q | q | q | ⟨q0, q1, q2⟩
    · exact Or.inr (Or.inr (Or.inl ⟨a, b, h1, h4, h2, h3, q⟩))
    · exact Or.inr (Or.inr (Or.inr (Or.inr (Or.inl ⟨a, b, h1, h4, h2, h3, q⟩))))
    · exact Or.inr (Or.inr (Or.inr (Or.inr (Or.inr (Or.inl ⟨a, h1, h2, q⟩)))))
    · exact Or.inr (Or.inr (Or.inr (Or.inr (Or.inr (Or.inr ⟨a, h1, h2, q0, q1, q2⟩)))))
end
section
/-! What every call keeps: how many there are, the hall's order, the finger's place. -/
theorem qI_mono {c d : Nat} {S : qS} (h : qInv c S) (hcd : c ≤ d) : qInv d S := by
  obtain ⟨⟨gh, nh⟩, ⟨gr, nr⟩, ⟨gk, nk⟩, fi, me⟩ := S
  obtain ⟨h1, h2, h3⟩ := h
  exact ⟨Nat.le_trans h1 hcd, h2, h3⟩
theorem qI_enter {c : Nat} {v : Int32} {S : qS} (h : qInv c S) (_ : c < 2 ^ 30) : qInv (c + 1) (qEnter v S).2 := by
  obtain ⟨⟨gh, nh⟩, ⟨gr, nr⟩, ⟨gk, nk⟩, fi, me⟩ := S
  obtain ⟨h1, h2, h3⟩ := h
  simp only [qEnter]
  exact ⟨by omega, qSorted_ins h2, h3⟩
theorem qI_call {c : Nat} {z : Int32} {S : qS} (h : qInv c S) (hc : c < 2 ^ 30) : qInv (c + 1) (qCall z S).2 := by
  obtain ⟨⟨gh, nh⟩, ⟨gr, nr⟩, ⟨gk, nk⟩, fi, me⟩ := S
  obtain ⟨h1, h2, h3⟩ := h
  simp only [qCall]
  split
  · rcases Nat.eq_zero_or_pos nh with q | q
    · rw [qTake_o (q_hp00 q)]
      exact ⟨by omega, h2, h3⟩
    · rw [qTake_i q (by omega)]
      exact ⟨by omega, qSorted_del h2, h3⟩
  · exact ⟨by omega, h2, h3⟩
theorem qI_leave {c : Nat} {v : Int32} {S : qS} (h : qInv c S) (_ : c < 2 ^ 30) : qInv (c + 1) (qLeave v S).2 := by
  obtain ⟨⟨gh, nh⟩, ⟨gr, nr⟩, ⟨gk, nk⟩, fi, me⟩ := S
  obtain ⟨h1, h2, h3⟩ := h
  simp only [qLeave]
  split
  · exact ⟨by omega, h2, h3⟩
  · exact ⟨by omega, qSorted_del h2, h3⟩
theorem qFok_0 {fi me : Int32} {nk : Nat} (h : qFok fi me nk) (hk : ¬ 0 < nk) : qFok fi me 0 := by
  rw [show nk = 0 by omega] at h
  exact h
theorem qI_clear {c : Nat} {w : Int32} {S : qS} (h : qInv c S) (_ : c < 2 ^ 30) : qInv (c + 1) (qClear w S).2 := by
  obtain ⟨⟨gh, nh⟩, ⟨gr, nr⟩, ⟨gk, nk⟩, fi, me⟩ := S
  obtain ⟨h1, h2, h3⟩ := h
  simp only [qClear]
  split
  · exact ⟨by omega, qSorted_0, h3⟩
  · split
    · exact ⟨by omega, h2, h3⟩
    · split
      · split
        · exact ⟨by omega, h2, qFok_none⟩
        · rename_i hk
          exact ⟨by omega, h2, qFok_0 h3 hk⟩
      · exact ⟨by omega, h2, h3⟩
theorem qI_join {c : Nat} {v z : Int32} {S : qS} (h : qInv c S) (_ : c < 2 ^ 30) : qInv (c + 1) (qJoin v z S).2 := by
  obtain ⟨⟨gh, nh⟩, ⟨gr, nr⟩, ⟨gk, nk⟩, fi, me⟩ := S
  obtain ⟨h1, h2, h3⟩ := h
  simp only [qJoin]
  exact ⟨by omega, h2, h3⟩
theorem qI_serve {c : Nat} {z y : Int32} {S : qS} (h : qInv c S) (_ : c < 2 ^ 30) : qInv (c + 1) (qServe z y S).2 := by
  obtain ⟨⟨gh, nh⟩, ⟨gr, nr⟩, ⟨gk, nk⟩, fi, me⟩ := S
  obtain ⟨h1, h2, h3⟩ := h
  simp only [qServe]
  split
  · exact ⟨by omega, h2, h3⟩
  · split
    · exact ⟨by omega, h2, h3⟩
    · exact ⟨by omega, h2, h3⟩
theorem qI_drop {c : Nat} {v z : Int32} {S : qS} (h : qInv c S) (_ : c < 2 ^ 30) : qInv (c + 1) (qDrop v z S).2 := by
  obtain ⟨⟨gh, nh⟩, ⟨gr, nr⟩, ⟨gk, nk⟩, fi, me⟩ := S
  obtain ⟨h1, h2, h3⟩ := h
  simp only [qDrop]
  generalize qPl gr v (if z = 0 then 1 else 0) nr = k
  split
  · exact ⟨by omega, h2, h3⟩
  · exact ⟨by omega, h2, h3⟩
theorem qI_sieve {c : Nat} {a b : Int32} {S : qS} (h : qInv c S) (_ : c < 2 ^ 30) : qInv (c + 1) (qSieveS a b S).2 := by
  obtain ⟨⟨gh, nh⟩, ⟨gr, nr⟩, ⟨gk, nk⟩, fi, me⟩ := S
  obtain ⟨h1, h2, h3⟩ := h
  simp only [qSieveS, qSieve]
  split
  · exact ⟨by omega, h2, h3⟩
  · have q := qSc_le (g := gr) (st := a) (re := b) nr
    exact ⟨by omega, h2, h3⟩
theorem qI_roll {c : Nat} {n : Int32} {S : qS} (h : qInv c S) (_ : c < 2 ^ 30) : qInv (c + 1) (qRollS n S).2 := by
  obtain ⟨⟨gh, nh⟩, ⟨gr, nr⟩, ⟨gk, nk⟩, fi, me⟩ := S
  obtain ⟨h1, h2, h3⟩ := h
  simp only [qRollS, qTurn]
  split
  · exact ⟨by omega, h2, h3⟩
  · split
    · exact ⟨by omega, h2, h3⟩
    · exact ⟨by omega, h2, h3⟩
theorem qI_insert {c : Nat} {p v : Int32} {S : qS} (h : qInv c S) (_ : c < 2 ^ 30) : qInv (c + 1) (qInsert p v S).2 := by
  obtain ⟨⟨gh, nh⟩, ⟨gr, nr⟩, ⟨gk, nk⟩, fi, me⟩ := S
  obtain ⟨h1, h2, h3⟩ := h
  simp only [qInsert]
  split
  · exact ⟨by omega, h2, h3⟩
  · exact ⟨by omega, h2, qFok_none⟩
theorem qI_change {c : Nat} {p v z : Int32} {S : qS} (h : qInv c S) (_ : c < 2 ^ 30) : qInv (c + 1) (qChange p v z S).2 := by
  obtain ⟨⟨gh, nh⟩, ⟨gr, nr⟩, ⟨gk, nk⟩, fi, me⟩ := S
  obtain ⟨h1, h2, h3⟩ := h
  simp only [qChange]
  split
  · exact ⟨by omega, h2, h3⟩
  · split
    · exact ⟨by omega, h2, h3⟩
    · exact ⟨by omega, h2, qFok_none⟩
theorem qI_unlink {c : Nat} {v : Int32} {S : qS} (h : qInv c S) (_ : c < 2 ^ 30) : qInv (c + 1) (qUnlink v S).2 := by
  obtain ⟨⟨gh, nh⟩, ⟨gr, nr⟩, ⟨gk, nk⟩, fi, me⟩ := S
  obtain ⟨h1, h2, h3⟩ := h
  simp only [qUnlink]
  split
  · exact ⟨by omega, h2, h3⟩
  · exact ⟨by omega, h2, qFok_none⟩
theorem qI_point {c : Nat} {p : Int32} {S : qS} (h : qInv c S) (hc : c < 2 ^ 30) : qInv (c + 1) (qPoint p S).2 := by
  obtain ⟨⟨gh, nh⟩, ⟨gr, nr⟩, ⟨gk, nk⟩, fi, me⟩ := S
  obtain ⟨h1, h2, h3⟩ := h
  rcases qHe_c p (n := nk) (by omega) with q | ⟨k, hk, rfl⟩
  · simp only [qPoint, if_pos q]
    exact ⟨by omega, h2, h3⟩
  · simp only [qPoint, qHe_in hk (show nk < 2 ^ 31 by omega), if_neg q_ne10]
    exact ⟨by omega, h2, qFok_in hk⟩
theorem qI_pass {c : Nat} {z : Int32} {S : qS} (h : qInv c S) (hc : c < 2 ^ 30) : qInv (c + 1) (qPass z S).2 := by
  obtain ⟨⟨gh, nh⟩, ⟨gr, nr⟩, ⟨gk, nk⟩, fi, me⟩ := S
  obtain ⟨h1, h2, h3⟩ := h
  rcases q_pass h3 z with rfl | ⟨hz, rfl⟩ | ⟨hz, a, ha, rfl⟩ | ⟨hz, rfl⟩ | ⟨hz, a, ha, rfl⟩
  · simp only [qPass, if_pos (show (-1 : Int32) < 0 by decide)]
    exact ⟨by omega, h2, h3⟩
  · simp only [qPass, if_neg (nI_pos (show nk < 2 ^ 31 by omega)), if_pos hz, if_pos True.intro]
    exact ⟨by omega, h2, h3⟩
  · simp only [qPass, if_neg (nI_pos (show a < 2 ^ 31 by omega)), if_pos hz, if_neg (show ¬ nI a = nI nk from fun q => by rw [nI_eq (by omega) (by omega)] at q; omega), nI_1]
    exact ⟨by omega, h2, qFok_met (by omega) ha⟩
  · simp only [qPass, if_neg (nI_pos (show 0 < 2 ^ 31 by omega)), if_neg hz, if_pos (show nI 0 = 0 from rfl)]
    exact ⟨by omega, h2, h3⟩
  · simp only [qPass, if_neg (nI_pos (show a + 1 < 2 ^ 31 by omega)), if_neg hz, if_neg (nI_ne0 (show 0 < a + 1 by omega) (show a + 1 < 2 ^ 31 by omega)), nI_pred]
    exact ⟨by omega, h2, qFok_met (by omega) ha⟩
theorem qI_touch {c : Nat} {w v : Int32} {S : qS} (h : qInv c S) (hc : c < 2 ^ 30) : qInv (c + 1) (qTouch w v S).2 := by
  obtain ⟨⟨gh, nh⟩, ⟨gr, nr⟩, ⟨gk, nk⟩, fi, me⟩ := S
  obtain ⟨h1, h2, h3⟩ := h
  rcases q_tm h3 w with rfl | ⟨a, ha, rfl, rfl, rfl⟩ | ⟨a, b, ha, hb0, rfl, rfl, rfl⟩ | ⟨a, ha, rfl, rfl, rfl⟩ | ⟨a, b, ha, hb0, rfl, rfl, rfl⟩ | ⟨a, ha, rfl, rfl⟩ | ⟨a, ha, rfl, w0, w1, w2⟩
  · simp only [qTouch, if_pos (show (-1 : Int32) < 0 by decide)]
    exact ⟨by omega, h2, h3⟩
  · simp only [qTouch, if_neg (nI_pos (show a < 2 ^ 31 by omega)), if_pos True.intro, if_pos (show (-1 : Int32) < 0 by decide)]
    exact ⟨by omega, h2, h3⟩
  · simp only [qTouch, if_neg (nI_pos (show a < 2 ^ 31 by omega)), if_pos True.intro, if_neg (nI_pos (show b < 2 ^ 31 by omega))]
    exact ⟨by omega, h2, h3⟩
  · simp only [qTouch, if_neg (nI_pos (show a < 2 ^ 31 by omega)), if_neg (show ¬ (1 : Int32) = 0 by decide), if_pos True.intro, if_pos (show (-1 : Int32) < 0 by decide)]
    exact ⟨by omega, h2, h3⟩
  · simp only [qTouch, if_neg (nI_pos (show a < 2 ^ 31 by omega)), if_neg (show ¬ (1 : Int32) = 0 by decide), if_pos True.intro, if_neg (nI_pos (show b < 2 ^ 31 by omega))]
    rcases Nat.lt_or_ge b a with q | q
    · rw [if_pos (nI_lt q (by omega)), q_m1 (show 0 < a by omega)]
      exact ⟨by omega, h2, qFok_in (by omega)⟩
    · rw [if_neg (nI_nlt q (by omega))]
      exact ⟨by omega, h2, qFok_in (by omega)⟩
  · simp only [qTouch, if_neg (nI_pos (show a < 2 ^ 31 by omega)), if_neg (show ¬ (2 : Int32) = 0 by decide), if_neg (show ¬ (2 : Int32) = 1 by decide), if_pos True.intro, nI_1]
    exact ⟨by omega, h2, qFok_in (by omega)⟩
  · simp only [qTouch, if_neg (nI_pos (show a < 2 ^ 31 by omega)), if_neg w0, if_neg w1, if_neg w2]
    exact ⟨by omega, h2, h3⟩
theorem qI_empty {c : Nat} {S : qS} (h : qInv c S) (_ : c < 2 ^ 30) : qInv (c + 1) (qEmpty S).2 := by
  obtain ⟨⟨gh, nh⟩, ⟨gr, nr⟩, ⟨gk, nk⟩, fi, me⟩ := S
  obtain ⟨h1, h2, h3⟩ := h
  simp only [qEmpty]
  exact ⟨by omega, qSorted_0, h3⟩
theorem qI_hand {c : Nat} {S : qS} (h : qInv c S) (_ : c < 2 ^ 30) : qInv (c + 1) (qHand S).2 := by
  obtain ⟨⟨gh, nh⟩, ⟨gr, nr⟩, ⟨gk, nk⟩, fi, me⟩ := S
  obtain ⟨h1, h2, h3⟩ := h
  simp only [qHand]
  split
  · exact ⟨by omega, h2, qFok_none⟩
  · rename_i hk
    exact ⟨by omega, h2, qFok_0 h3 hk⟩
theorem q_23 {j : Nat} (h : j < 23) : j = 0 ∨ j = 1 ∨ j = 2 ∨ j = 3 ∨ j = 4 ∨ j = 5 ∨ j = 6 ∨ j = 7 ∨ j = 8 ∨ j = 9 ∨ j = 10 ∨ j = 11 ∨ j = 12 ∨ j = 13 ∨ j = 14 ∨ j = 15 ∨ j = 16 ∨ j = 17 ∨ j = 18 ∨ j = 19 ∨ j = 20 ∨ j = 21 ∨ j = 22 := by omega
end
section
/-! Rows of the kit, at natural numbers; calls that change nothing, of nest mates too. -/
section QW
variable {p : Program} {l : Launch} {e : Env} {R : Room} {s : State} {m : MethodId} {args : Array Value} {below : List Frame} {meth : Method} {c : Code} {H : Heap} {locs : List Loc} {cells slots : Nat} {Q : State → Prop} {pc : Nat} {ls : Array Slot} {rest st0 : List Value} {a : Array Value} {cc : ByteArray} {D : va_G} {cl : List vw_C} {tys : List (ClassId × FieldType)} {ws : va_W} {A : Nat → Prop} {H0 : Heap} {ad : Nat}
theorem q_top {x y : Int32} (h : x = y) (k : W p l e R s m args below meth c H locs cells slots Q (F0 m pc ls (.int y :: rest))) : W p l e R s m args below meth c H locs cells slots Q (F0 m pc ls (.int x :: rest)) := by
  subst h
  exact k
theorem q_topl {x y : Int64} (h : x = y) (k : W p l e R s m args below meth c H locs cells slots Q (F0 m pc ls (.long y :: rest))) : W p l e R s m args below meth c H locs cells slots Q (F0 m pc ls (.long x :: rest)) := by
  subst h
  exact k
theorem q_csi {post : Int32 → Prop} (hr : va_Run p l e R s m args below meth c H locs cells slots 0 0 (F0 m pc ls st0) rest (vp_Si post a) (fun _ => False)) (kk : ∀ r : Int32, post r → W p l e R s m args below meth c H locs cells slots Q (F0 m (pc + 3) ls (.int r :: rest))) : W p l e R s m args below meth c H locs cells slots Q (F0 m pc ls st0) := by
  intro T hT X
  obtain ⟨v, st₀, t, T', L, h0, X', hL, e1, e2, ⟨r, hv, hp, hh⟩, st⟩ := hr T hT X
  cases hv
  obtain ⟨t2, a1, b1⟩ := kk r hp T' (by rw [e1, hh, h0]) (Stand.forget X' (fun q h => (hL q h).elim))
  exact ⟨t2, st t2 a1, b1⟩
theorem q_csl {post : Int64 → Prop} (hr : va_Run p l e R s m args below meth c H locs cells slots 0 0 (F0 m pc ls st0) rest (vp_Sl post a) (fun _ => False)) (kk : ∀ r : Int64, post r → W p l e R s m args below meth c H locs cells slots Q (F0 m (pc + 3) ls (.long r :: rest))) : W p l e R s m args below meth c H locs cells slots Q (F0 m pc ls st0) := by
  intro T hT X
  obtain ⟨v, st₀, t, T', L, h0, X', hL, e1, e2, ⟨r, hv, hp, hh⟩, st⟩ := hr T hT X
  cases hv
  obtain ⟨t2, a1, b1⟩ := kk r hp T' (by rw [e1, hh, h0]) (Stand.forget X' (fun q h => (hL q h).elim))
  exact ⟨t2, st t2 a1, b1⟩
theorem q_csq {post : Option Nat → Prop} (hr : va_Run p l e R s m args below meth c H locs cells slots 0 0 (F0 m pc ls st0) rest (va_Sq post a) (fun _ => False)) (kk : ∀ r : Option Nat, post r → W p l e R s m args below meth c H locs cells slots Q (F0 m (pc + 3) ls (va_rf r :: rest))) : W p l e R s m args below meth c H locs cells slots Q (F0 m pc ls st0) := by
  intro T hT X
  obtain ⟨v, st₀, t, T', L, h0, X', hL, e1, e2, ⟨r, hv, hp, hh⟩, st⟩ := hr T hT X
  cases hv
  obtain ⟨t2, a1, b1⟩ := kk r hp T' (by rw [e1, hh, h0]) (Stand.forget X' (fun q h => (hL q h).elim))
  exact ⟨t2, st t2 a1, b1⟩
theorem q_csiE {v : Int32} (hr : va_Run p l e R s m args below meth c H locs cells slots 0 0 (F0 m pc ls st0) rest (vp_Si (fun r => r = v) a) (fun _ => False)) (kk : W p l e R s m args below meth c H locs cells slots Q (F0 m (pc + 3) ls (.int v :: rest))) : W p l e R s m args below meth c H locs cells slots Q (F0 m pc ls st0) := q_csi hr (fun r h => by subst h; exact kk)
theorem q_cslE {v : Int64} (hr : va_Run p l e R s m args below meth c H locs cells slots 0 0 (F0 m pc ls st0) rest (vp_Sl (fun r => r = v) a) (fun _ => False)) (kk : W p l e R s m args below meth c H locs cells slots Q (F0 m (pc + 3) ls (.long v :: rest))) : W p l e R s m args below meth c H locs cells slots Q (F0 m pc ls st0) := q_csl hr (fun r h => by subst h; exact kk)
theorem q_csqE {v : Option Nat} (hr : va_Run p l e R s m args below meth c H locs cells slots 0 0 (F0 m pc ls st0) rest (va_Sq (fun r => r = v) a) (fun _ => False)) (kk : W p l e R s m args below meth c H locs cells slots Q (F0 m (pc + 3) ls (va_rf v :: rest))) : W p l e R s m args below meth c H locs cells slots Q (F0 m pc ls st0) := q_csq hr (fun r h => by subst h; exact kk)
theorem q_iald (hexec : p.tables.exec = Jvm.exec) (hb : c.code = cc) (hK : va_K D cl tys s) (hP : va_P D cl ws H) (q0 t0 : Nat) {cA : ClassId} {n k : Nat} {f : Nat → Int32} (ha : ws[q0]? = some (ad, .inl (cA, n, .inl f))) (ht : tys[t0]? = some (cA, .int)) (hk : k < n) (hn : n < 2 ^ 31) (hdg : decode cc pc = .ok (.iaload, 1))
    (kk : W p l e R s m args below meth c H locs cells slots Q (F0 m (pc + 1) ls (.int (f k) :: rest))) : W p l e R s m args below meth c H locs cells slots Q (F0 m pc ls (.int (nI k) :: .ref ad :: rest)) := by
  refine va_iald hexec hb hK hP q0 t0 ha ht (vp_in_nI hk hn) hdg ?_
  rw [nI_clamp (show k < 2 ^ 31 by omega)]
  exact kk
theorem q_iast (hexec : p.tables.exec = Jvm.exec) (hb : c.code = cc) (hK : va_K D cl tys s) (hP : va_P D cl ws H) (hD : va_D A ws) (hS : va_S A H0 H locs) (q0 t0 : Nat) {cA : ClassId} {n k : Nat} {f : Nat → Int32} (ha : ws[q0]? = some (ad, .inl (cA, n, .inl f))) (ht : tys[t0]? = some (cA, .int)) {x : Int32} (hk : k < n) (hn : n < 2 ^ 31) (hdg : decode cc pc = .ok (.iastore, 1))
    (kk : ∀ (H1 : Heap) (locs1 : List Loc), va_P D cl (ws.set q0 (ad, .inl (cA, n, .inl (upd f k x)))) H1 → va_D A (ws.set q0 (ad, .inl (cA, n, .inl (upd f k x)))) → va_S A H0 H1 locs1 → W p l e R s m args below meth c H1 locs1 cells slots Q (F0 m (pc + 1) ls rest)) : W p l e R s m args below meth c H locs cells slots Q (F0 m pc ls (.int x :: .int (nI k) :: .ref ad :: rest)) := by
  refine va_iast hexec hb hK hP hD hS q0 t0 ha ht (vp_in_nI hk hn) hdg (fun H1 locs1 h1 h2 h3 => ?_)
  rw [nI_clamp (show k < 2 ^ 31 by omega)] at h1 h2
  exact kk H1 locs1 h1 h2 h3
theorem q_copy (hexec : p.tables.exec = Jvm.exec) (hb : c.code = cc) (hml : c.maxLocals = ls.size) {own : String} {index : Nat} (hown : s.vm.findClass own = some m.cls) (hlink : (Cond.methodLink own index arraycopyName).before args s = true) (hnat : (Cond.native arraycopyName).before args s = true) (hstat : (Cond.static arraycopyName).before args s = true) (hini : (Cond.initialized "java/lang/System").before args s = true)
    (hK : va_K D cl tys s) (hP : va_P D cl ws H) (hD : va_D A ws) (hS : va_S A H0 H locs) (q0 q1 t0 t1 : Nat) {a0 : Nat} {c0 c1 : ClassId} {n0 n1 : Nat} {f g : Nat → Int32} (ha0 : ws[q0]? = some (a0, .inl (c0, n0, .inl f))) (ha1 : ws[q1]? = some (ad, .inl (c1, n1, .inl g))) (ht0 : tys[t0]? = some (c0, .int)) (ht1 : tys[t1]? = some (c1, .int))
    {sp dp n : Nat} (h4 : sp + n ≤ n0) (h5 : dp + n ≤ n1) (h6 : n0 < 2 ^ 31) (h7 : n1 < 2 ^ 31)
    (hframes : 1 ≤ R.frames) (hlocals : (rest.map fun v => v.category).sum + (nativeFrameWords "java/lang/System" "arraycopy" 5 + 11) ≤ R.locals) (hdg : decode cc pc = .ok (.invokestatic index, 3))
    (kk : ∀ (H1 : Heap) (locs1 : List Loc), va_P D cl (ws.set q1 (ad, .inl (c1, n1, .inl (va_cpy f g sp dp n)))) H1 → va_D A (ws.set q1 (ad, .inl (c1, n1, .inl (va_cpy f g sp dp n)))) → va_S A H0 H1 locs1 → W p l e R s m args below meth c H1 locs1 cells slots Q (F0 m (pc + 3) ls rest)) : W p l e R s m args below meth c H locs cells slots Q (F0 m pc ls (.int (nI n) :: .int (nI dp) :: .ref ad :: .int (nI sp) :: .ref a0 :: rest)) := by
  have e1 : (nI sp).toNatClampNeg = sp := nI_clamp (by omega)
  have e2 : (nI dp).toNatClampNeg = dp := nI_clamp (by omega)
  have e3 : (nI n).toNatClampNeg = n := nI_clamp (by omega)
  refine va_copyi hexec hb hml hown hlink hnat hstat hini hK hP hD hS q0 q1 t0 t1 ha0 ha1 ht0 ht1 rfl (nI_pos (by omega)) (nI_pos (by omega)) (nI_pos (by omega)) (by rw [e1, e3]; exact h4) (by rw [e2, e3]; exact h5) (fun i _ => rfl) hframes hlocals hdg (fun H1 locs1 h1 h2 h3 => ?_)
  rw [e1, e2, e3] at h1 h2
  exact kk H1 locs1 h1 h2 h3
end QW
theorem q_blR {D : va_G} {cl : List vw_C} {tys : List (ClassId × FieldType)} {ws : va_W} {av : List Value} : FrameBlind (va_Pc av (fun U => va_P D cl ws U.heap ∧ va_K D cl tys U)) := fun a U g mk q => by
  obtain ⟨q1, qP, qK⟩ := q
  exact ⟨q1, qP, va_K.moved (u := U) (U := U.calling g mk a) (Vm.Alike.refl U.vm) qK⟩
theorem q_blW {D : va_G} {cl : List vw_C} {tys : List (ClassId × FieldType)} {ws : va_W} {av : List Value} {sz : Nat} {A : Nat → Prop} : FrameBlind (va_Pc av (fun U => U.heap.size = sz ∧ va_P D cl ws U.heap ∧ va_K D cl tys U ∧ va_D A ws)) := fun a U g mk q => by
  obtain ⟨q0, q1, qP, qK, qD⟩ := q
  exact ⟨q0, q1, qP, va_K.moved (u := U) (U := U.calling g mk a) (Vm.Alike.refl U.vm) qK, qD⟩
/-- behind a call: the caller's other cells beside the callee's world, as they are wanted -/
theorem q_join {A0 : Nat → Prop} {D : va_G} {cl : List vw_C} {ws wc wr w1 wz : va_W} {H H1 : Heap} (hP : va_P D cl ws H) (hD : va_D A0 ws) (isC isR isZ : List Nat) (hC : isC.map (fun i => ws[i]?) = wc.map some) (hR : isR.map (fun i => ws[i]?) = wr.map some) (hn : va_nd isR = true) (hdis : ∀ i ∈ isR, i ∉ isC)
    (hk : ∀ q : Nat, q < H.size → ¬ va_A wc H.size q → H1[q]? = H[q]?) (hF : ∀ q, va_A wc H.size q → A0 q) (hP1 : va_P D cl w1 H1) (hD1 : va_D (va_A wc H.size) w1) (hY : isZ.filterMap (fun i => (wr ++ w1)[i]?) = wz) (hZ : isZ.map (fun i => (wr ++ w1)[i]?) = wz.map some) (hz : va_nd isZ = true) : va_P D cl wz H1 ∧ va_D A0 wz := by
  obtain ⟨h1, h2⟩ := va_join (wr := wr) (w1 := w1) hP hD isC isR hC hR hn hdis hk hF hP1 hD1
  exact ⟨h1.sub isZ hY, h2.sub isZ hz hZ⟩
section QX
variable {p : Program} {l : Launch} {e : Env} {R : Room} {s : State} {m : MethodId} {args : Array Value} {below : List Frame} {meth : Method} {c : Code} {H : Heap} {locs : List Loc} {cells slots : Nat} {Q : State → Prop} {pc : Nat} {ls : Array Slot} {rest : List Value}
theorem q_topr {r : Option Nat} {a : Nat} (h : r = some a) (k : W p l e R s m args below meth c H locs cells slots Q (F0 m pc ls (.ref a :: rest))) : W p l e R s m args below meth c H locs cells slots Q (F0 m pc ls (va_rf r :: rest)) := by
  subst h
  exact k
theorem q_topn {r : Option Nat} (h : r = none) (k : W p l e R s m args below meth c H locs cells slots Q (F0 m pc ls (.null :: rest))) : W p l e R s m args below meth c H locs cells slots Q (F0 m pc ls (va_rf r :: rest)) := by
  subst h
  exact k
end QX
section QY
variable {p : Program} {l : Launch} {e : Env} {R : Room} {s : State} {m : MethodId} {args : Array Value} {below : List Frame} {meth : Method} {c : Code} {H : Heap} {locs : List Loc} {cells slots : Nat} {Q : State → Prop} {pc : Nat} {ls : Array Slot} {rest : List Value} {cc : ByteArray} {A : Nat → Prop} {H0 : Heap}
theorem q_sld (hexec : p.tables.exec = Jvm.exec) (hb : c.code = cc) {b L k : Nat} {xs : Nat → Int32} (hX : va_X b L xs s H0) (hbl : b < H0.size) (hbA : ¬ A b) (hS : va_S A H0 H locs) (hk : k < L) (hL : L < 2 ^ 31) (hdg : decode cc pc = .ok (.iaload, 1))
    (kk : W p l e R s m args below meth c H locs cells slots Q (F0 m (pc + 1) ls (.int (xs k) :: rest))) : W p l e R s m args below meth c H locs cells slots Q (F0 m pc ls (.int (nI k) :: .ref b :: rest)) := by
  refine va_sld hexec hb hX hbl hbA hS (vp_in_nI hk hL) hdg ?_
  rw [nI_clamp (show k < 2 ^ 31 by omega)]
  exact kk
end QY
end
section
-- ===== PART A: goes FIRST, ahead of the names: the tables' words, and 'selects' of the private methods out of them =====
/-- a private method of a class that the tables say can be made, by its rows of tables_1 -/
def lw_okq (q : MethodName × Nat) : Prop := (q.1.cls ≠ "java/lang/invoke/MethodHandle" ∧ q.1.cls ≠ "java/lang/invoke/VarHandle") ∧ Cond.instantiable q.1.cls q.2 ∈ tables_1 ∧ Cond.privateMethod q.1 ∈ tables_1 ∧ Cond.instanceMethod q.1 ∈ tables_1
theorem lw_p0 : lw_okq (⟨"QueueHall$Row", "countBelow", "(I)I"⟩, 2) := ⟨⟨by decide +kernel, by decide +kernel⟩, List.mem_of_getElem? (i := 15) (by decide +kernel), List.mem_of_getElem? (i := 50) (by decide +kernel), List.mem_of_getElem? (i := 51) (by decide +kernel)⟩
theorem lw_p1 : lw_okq (⟨"QueueHall$Row", "put", "(II)Z"⟩, 2) := ⟨⟨by decide +kernel, by decide +kernel⟩, List.mem_of_getElem? (i := 15) (by decide +kernel), List.mem_of_getElem? (i := 54) (by decide +kernel), List.mem_of_getElem? (i := 55) (by decide +kernel)⟩
theorem lw_p2 : lw_okq (⟨"QueueHall$Row", "hasPlaceOrEnd", "(I)Z"⟩, 2) := ⟨⟨by decide +kernel, by decide +kernel⟩, List.mem_of_getElem? (i := 15) (by decide +kernel), List.mem_of_getElem? (i := 58) (by decide +kernel), List.mem_of_getElem? (i := 59) (by decide +kernel)⟩
theorem lw_p3 : lw_okq (⟨"QueueHall$Row", "at", "(I)J"⟩, 2) := ⟨⟨by decide +kernel, by decide +kernel⟩, List.mem_of_getElem? (i := 15) (by decide +kernel), List.mem_of_getElem? (i := 69) (by decide +kernel), List.mem_of_getElem? (i := 70) (by decide +kernel)⟩
theorem lw_p4 : lw_okq (⟨"QueueHall$Row", "hasPlace", "(I)Z"⟩, 2) := ⟨⟨by decide +kernel, by decide +kernel⟩, List.mem_of_getElem? (i := 15) (by decide +kernel), List.mem_of_getElem? (i := 73) (by decide +kernel), List.mem_of_getElem? (i := 74) (by decide +kernel)⟩
theorem lw_p5 : lw_okq (⟨"QueueHall$Row", "take", "(I)J"⟩, 2) := ⟨⟨by decide +kernel, by decide +kernel⟩, List.mem_of_getElem? (i := 15) (by decide +kernel), List.mem_of_getElem? (i := 78) (by decide +kernel), List.mem_of_getElem? (i := 79) (by decide +kernel)⟩
theorem lw_p6 : lw_okq (⟨"QueueHall$Row", "firstPlace", "(I)I"⟩, 2) := ⟨⟨by decide +kernel, by decide +kernel⟩, List.mem_of_getElem? (i := 15) (by decide +kernel), List.mem_of_getElem? (i := 86) (by decide +kernel), List.mem_of_getElem? (i := 87) (by decide +kernel)⟩
theorem lw_p7 : lw_okq (⟨"QueueHall", "rowOf", "(I)LQueueHall$Row;"⟩, 5) := ⟨⟨by decide +kernel, by decide +kernel⟩, List.mem_of_getElem? (i := 7) (by decide +kernel), List.mem_of_getElem? (i := 95) (by decide +kernel), List.mem_of_getElem? (i := 96) (by decide +kernel)⟩
theorem lw_p8 : lw_okq (⟨"QueueHall$Row", "wipe", "()I"⟩, 2) := ⟨⟨by decide +kernel, by decide +kernel⟩, List.mem_of_getElem? (i := 15) (by decide +kernel), List.mem_of_getElem? (i := 107) (by decide +kernel), List.mem_of_getElem? (i := 108) (by decide +kernel)⟩
theorem lw_p9 : lw_okq (⟨"QueueHall", "liftFinger", "()V"⟩, 5) := ⟨⟨by decide +kernel, by decide +kernel⟩, List.mem_of_getElem? (i := 7) (by decide +kernel), List.mem_of_getElem? (i := 111) (by decide +kernel), List.mem_of_getElem? (i := 112) (by decide +kernel)⟩
theorem lw_p10 : lw_okq (⟨"QueueHall$Row", "lastPlace", "(I)I"⟩, 2) := ⟨⟨by decide +kernel, by decide +kernel⟩, List.mem_of_getElem? (i := 15) (by decide +kernel), List.mem_of_getElem? (i := 127) (by decide +kernel), List.mem_of_getElem? (i := 128) (by decide +kernel)⟩
theorem lw_p11 : lw_okq (⟨"QueueHall$Row", "takeRest", "(II)I"⟩, 2) := ⟨⟨by decide +kernel, by decide +kernel⟩, List.mem_of_getElem? (i := 15) (by decide +kernel), List.mem_of_getElem? (i := 140) (by decide +kernel), List.mem_of_getElem? (i := 141) (by decide +kernel)⟩
theorem lw_p12 : lw_okq (⟨"QueueHall$Row", "turn", "(I)I"⟩, 2) := ⟨⟨by decide +kernel, by decide +kernel⟩, List.mem_of_getElem? (i := 15) (by decide +kernel), List.mem_of_getElem? (i := 151) (by decide +kernel), List.mem_of_getElem? (i := 152) (by decide +kernel)⟩
theorem lw_p13 : lw_okq (⟨"QueueHall$Row", "swap", "(II)J"⟩, 2) := ⟨⟨by decide +kernel, by decide +kernel⟩, List.mem_of_getElem? (i := 15) (by decide +kernel), List.mem_of_getElem? (i := 164) (by decide +kernel), List.mem_of_getElem? (i := 165) (by decide +kernel)⟩
theorem lw_p14 : lw_okq (⟨"QueueHall", "changeMet", "(I)I"⟩, 5) := ⟨⟨by decide +kernel, by decide +kernel⟩, List.mem_of_getElem? (i := 7) (by decide +kernel), List.mem_of_getElem? (i := 192) (by decide +kernel), List.mem_of_getElem? (i := 193) (by decide +kernel)⟩
theorem lw_p15 : lw_okq (⟨"QueueHall", "takeMet", "()I"⟩, 5) := ⟨⟨by decide +kernel, by decide +kernel⟩, List.mem_of_getElem? (i := 7) (by decide +kernel), List.mem_of_getElem? (i := 196) (by decide +kernel), List.mem_of_getElem? (i := 197) (by decide +kernel)⟩
def lw_privs_1 : List (MethodName × Nat) := [(⟨"QueueHall$Row", "countBelow", "(I)I"⟩, 2), (⟨"QueueHall$Row", "put", "(II)Z"⟩, 2), (⟨"QueueHall$Row", "hasPlaceOrEnd", "(I)Z"⟩, 2), (⟨"QueueHall$Row", "at", "(I)J"⟩, 2), (⟨"QueueHall$Row", "hasPlace", "(I)Z"⟩, 2), (⟨"QueueHall$Row", "take", "(I)J"⟩, 2), (⟨"QueueHall$Row", "firstPlace", "(I)I"⟩, 2), (⟨"QueueHall", "rowOf", "(I)LQueueHall$Row;"⟩, 5), (⟨"QueueHall$Row", "wipe", "()I"⟩, 2), (⟨"QueueHall", "liftFinger", "()V"⟩, 5), (⟨"QueueHall$Row", "lastPlace", "(I)I"⟩, 2), (⟨"QueueHall$Row", "takeRest", "(II)I"⟩, 2), (⟨"QueueHall$Row", "turn", "(I)I"⟩, 2), (⟨"QueueHall$Row", "swap", "(II)J"⟩, 2), (⟨"QueueHall", "changeMet", "(I)I"⟩, 5), (⟨"QueueHall", "takeMet", "()I"⟩, 5)]
theorem lw_r1 : ∀ q ∈ lw_privs_1, lw_okq q := List.forall_mem_cons.mpr ⟨lw_p0, List.forall_mem_cons.mpr ⟨lw_p1, List.forall_mem_cons.mpr ⟨lw_p2, List.forall_mem_cons.mpr ⟨lw_p3, List.forall_mem_cons.mpr ⟨lw_p4, List.forall_mem_cons.mpr ⟨lw_p5, List.forall_mem_cons.mpr ⟨lw_p6, List.forall_mem_cons.mpr ⟨lw_p7, List.forall_mem_cons.mpr ⟨lw_p8, List.forall_mem_cons.mpr ⟨lw_p9, List.forall_mem_cons.mpr ⟨lw_p10, List.forall_mem_cons.mpr ⟨lw_p11, List.forall_mem_cons.mpr ⟨lw_p12, List.forall_mem_cons.mpr ⟨lw_p13, List.forall_mem_cons.mpr ⟨lw_p14, List.forall_mem_cons.mpr ⟨lw_p15, fun _ h => absurd h List.not_mem_nil⟩⟩⟩⟩⟩⟩⟩⟩⟩⟩⟩⟩⟩⟩⟩⟩
theorem lw_p16 : lw_okq (⟨"QueueHall", "putAtFinger", "(I)I"⟩, 5) := ⟨⟨by decide +kernel, by decide +kernel⟩, List.mem_of_getElem? (i := 7) (by decide +kernel), List.mem_of_getElem? (i := 200) (by decide +kernel), List.mem_of_getElem? (i := 201) (by decide +kernel)⟩
theorem lw_p17 : lw_okq (⟨"QueueHall$Row", "takeAll", "(LQueueHall$Row;I)Z"⟩, 2) := ⟨⟨by decide +kernel, by decide +kernel⟩, List.mem_of_getElem? (i := 15) (by decide +kernel), List.mem_of_getElem? (i := 212) (by decide +kernel), List.mem_of_getElem? (i := 213) (by decide +kernel)⟩
theorem lw_p18 : lw_okq (⟨"QueueHallModel", "many", "(I)I"⟩, 8) := ⟨⟨by decide +kernel, by decide +kernel⟩, List.mem_of_getElem? (i := 221) (by decide +kernel), List.mem_of_getElem? (i := 278) (by decide +kernel), List.mem_of_getElem? (i := 279) (by decide +kernel)⟩
theorem lw_p19 : lw_okq (⟨"QueueHallModel", "lift", "()V"⟩, 8) := ⟨⟨by decide +kernel, by decide +kernel⟩, List.mem_of_getElem? (i := 221) (by decide +kernel), List.mem_of_getElem? (i := 290) (by decide +kernel), List.mem_of_getElem? (i := 291) (by decide +kernel)⟩
def lw_privs_2 : List (MethodName × Nat) := [(⟨"QueueHall", "putAtFinger", "(I)I"⟩, 5), (⟨"QueueHall$Row", "takeAll", "(LQueueHall$Row;I)Z"⟩, 2), (⟨"QueueHallModel", "many", "(I)I"⟩, 8), (⟨"QueueHallModel", "lift", "()V"⟩, 8)]
theorem lw_r2 : ∀ q ∈ lw_privs_2, lw_okq q := List.forall_mem_cons.mpr ⟨lw_p16, List.forall_mem_cons.mpr ⟨lw_p17, List.forall_mem_cons.mpr ⟨lw_p18, List.forall_mem_cons.mpr ⟨lw_p19, fun _ h => absurd h List.not_mem_nil⟩⟩⟩⟩
def lw_privs : List (MethodName × Nat) := lw_privs_1 ++ (lw_privs_2)
def lw_tbl : List Cond := k2_sels lw_privs ++ tables_1
theorem lw_privs_ok : ∀ q ∈ lw_privs, lw_okq q := by
  show ∀ q ∈ lw_privs_1 ++ (lw_privs_2), lw_okq q
  exact List.forall_mem_append.mpr ⟨lw_r1, lw_r2⟩
/-! ===== BEGIN words of one list among another's, by their places ===== -/
theorem goodIn_r {big : List Cond} (ws : List Cond) (ps : List Nat) (hp : ws = ps.filterMap (fun i => big[i]?)) (h : ws.all goodWord = true) : GoodIn big ws := by
  intro w hw
  have h1 := List.all_eq_true.mp h w hw
  rw [hp] at hw
  obtain ⟨i, -, hi⟩ := List.mem_filterMap.mp hw
  have hm : w ∈ big := by first | exact List.mem_of_getElem? hi | exact List.getElem?_mem hi
  exact ⟨hm, good_of_word h1⟩
theorem goodIn_app {big a b : List Cond} (ha : GoodIn big a) (hb : GoodIn big b) : GoodIn big (a ++ b) := fun w h => (List.mem_append.mp h).elim (ha w) (hb w)
theorem goodIn_ca {big a b : List Cond} {c : Cond} (ha : GoodIn big (c :: a)) (hb : GoodIn big b) : GoodIn big (c :: (a ++ b)) := fun w h => (List.mem_cons.mp h).elim (fun e => ha w (List.mem_cons.mpr (Or.inl e))) (fun h => (List.mem_append.mp h).elim (fun h => ha w (List.mem_cons.mpr (Or.inr h))) (hb w))
theorem goodIn_sub {big ws : List Cond} (hm : ∀ w ∈ ws, w ∈ big) (h : ws.all goodWord = true) : GoodIn big ws := fun w hw => ⟨hm w hw, good_of_word (List.all_eq_true.mp h w hw)⟩
/-! ===== END ===== -/
def RX0 : String := "QueueHall$Row"
def TX0 : u_T := fun k => match k with
  | 0 => ("QueueHall$Row", "numbers", "[I", true)
  | _ => ("QueueHall$Row", "count", "I", false)
def tyX0 : Nat → FieldType := fun k => match k with
  | 0 => .array .int
  | _ => .int
abbrev wsX00 : List Cond := u_ws RX0 TX0 2
theorem nmX0 : ∀ a, a < 2 → ∀ b, b < 2 → a ≠ b → (TX0 a).2.1 ≠ (TX0 b).2.1 := by decide +kernel
theorem tyX0_ok : ∀ k, k < 2 → parseFieldDescriptor (TX0 k).2.2.1 = some (tyX0 k) := by decide +kernel
def RX1 : String := "QueueHall"
def TX1 : u_T := fun k => match k with
  | 0 => ("QueueHall", "hallRow", "LQueueHall$Row;", true)
  | 1 => ("QueueHall", "ringRow", "LQueueHall$Row;", true)
  | 2 => ("QueueHall", "chainRow", "LQueueHall$Row;", true)
  | 3 => ("QueueHall", "fingerPlace", "I", false)
  | _ => ("QueueHall", "metPlace", "I", false)
def tyX1 : Nat → FieldType := fun k => match k with
  | 0 => .object "QueueHall$Row"
  | 1 => .object "QueueHall$Row"
  | 2 => .object "QueueHall$Row"
  | 3 => .int
  | _ => .int
abbrev wsX10 : List Cond := u_ws RX1 TX1 5
theorem nmX1 : ∀ a, a < 5 → ∀ b, b < 5 → a ≠ b → (TX1 a).2.1 ≠ (TX1 b).2.1 := by decide +kernel
theorem tyX1_ok : ∀ k, k < 5 → parseFieldDescriptor (TX1 k).2.2.1 = some (tyX1 k) := by decide +kernel
def RX2 : String := "QueueHallModel"
def TX2 : u_T := fun k => match k with
  | 0 => ("QueueHallModel", "hall", "[I", true)
  | 1 => ("QueueHallModel", "ring", "[I", true)
  | 2 => ("QueueHallModel", "chain", "[I", true)
  | 3 => ("QueueHallModel", "halls", "I", false)
  | 4 => ("QueueHallModel", "rings", "I", false)
  | 5 => ("QueueHallModel", "chains", "I", false)
  | 6 => ("QueueHallModel", "finger", "I", false)
  | _ => ("QueueHallModel", "met", "I", false)
def tyX2 : Nat → FieldType := fun k => match k with
  | 0 => .array .int
  | 1 => .array .int
  | 2 => .array .int
  | 3 => .int
  | 4 => .int
  | 5 => .int
  | 6 => .int
  | _ => .int
abbrev wsX20 : List Cond := u_ws RX2 TX2 8
theorem nmX2 : ∀ a, a < 8 → ∀ b, b < 8 → a ≠ b → (TX2 a).2.1 ≠ (TX2 b).2.1 := by decide +kernel
theorem tyX2_ok : ∀ k, k < 8 → parseFieldDescriptor (TX2 k).2.2.1 = some (tyX2 k) := by decide +kernel
def RJ9 : String := "java/lang/Math"
def RL : String := "QueueHallLaw"
abbrev cX0_init : ByteArray := prog_2_method_1_code
def yX0_init : MethodName := ⟨RX0, "<init>", "()V"⟩
abbrev cX0_hasPlace : ByteArray := prog_2_method_2_code
def yX0_hasPlace : MethodName := ⟨RX0, "hasPlace", "(I)Z"⟩
abbrev cX0_hasPlaceOrEnd : ByteArray := prog_2_method_3_code
def yX0_hasPlaceOrEnd : MethodName := ⟨RX0, "hasPlaceOrEnd", "(I)Z"⟩
abbrev cX0_at : ByteArray := prog_2_method_4_code
def yX0_at : MethodName := ⟨RX0, "at", "(I)J"⟩
abbrev cX0_put : ByteArray := prog_2_method_5_code
def yX0_put : MethodName := ⟨RX0, "put", "(II)Z"⟩
abbrev cX0_take : ByteArray := prog_2_method_6_code
def yX0_take : MethodName := ⟨RX0, "take", "(I)J"⟩
abbrev cX0_swap : ByteArray := prog_2_method_7_code
def yX0_swap : MethodName := ⟨RX0, "swap", "(II)J"⟩
abbrev cX0_wipe : ByteArray := prog_2_method_8_code
def yX0_wipe : MethodName := ⟨RX0, "wipe", "()I"⟩
abbrev cX0_firstPlace : ByteArray := prog_2_method_9_code
def yX0_firstPlace : MethodName := ⟨RX0, "firstPlace", "(I)I"⟩
abbrev cX0_lastPlace : ByteArray := prog_2_method_10_code
def yX0_lastPlace : MethodName := ⟨RX0, "lastPlace", "(I)I"⟩
abbrev cX0_countBelow : ByteArray := prog_2_method_11_code
def yX0_countBelow : MethodName := ⟨RX0, "countBelow", "(I)I"⟩
abbrev cJ9_floorMod_7cf53 : ByteArray := prog_5_method_50_code
def yJ9_floorMod_7cf53 : MethodName := ⟨RJ9, "floorMod", "(II)I"⟩
abbrev cX0_takeRest : ByteArray := prog_2_method_12_code
def yX0_takeRest : MethodName := ⟨RX0, "takeRest", "(II)I"⟩
abbrev cX0_turn : ByteArray := prog_2_method_13_code
def yX0_turn : MethodName := ⟨RX0, "turn", "(I)I"⟩
abbrev cX0_takeAll : ByteArray := prog_2_method_14_code
def yX0_takeAll : MethodName := ⟨RX0, "takeAll", "(LQueueHall$Row;I)Z"⟩
abbrev cX1_init : ByteArray := prog_1_method_1_code
def yX1_init : MethodName := ⟨RX1, "<init>", "()V"⟩
abbrev cX1_enter : ByteArray := prog_1_method_2_code
def yX1_enter : MethodName := ⟨RX1, "enter", "(I)I"⟩
abbrev cX1_call : ByteArray := prog_1_method_3_code
def yX1_call : MethodName := ⟨RX1, "call", "(Z)J"⟩
abbrev cX1_leave : ByteArray := prog_1_method_4_code
def yX1_leave : MethodName := ⟨RX1, "leave", "(I)Z"⟩
abbrev cX1_rowOf : ByteArray := prog_1_method_25_code
def yX1_rowOf : MethodName := ⟨RX1, "rowOf", "(I)LQueueHall$Row;"⟩
abbrev cX1_has : ByteArray := prog_1_method_5_code
def yX1_has : MethodName := ⟨RX1, "has", "(II)Z"⟩
abbrev cX1_size : ByteArray := prog_1_method_6_code
def yX1_size : MethodName := ⟨RX1, "size", "(I)I"⟩
abbrev cX1_liftFinger : ByteArray := prog_1_method_26_code
def yX1_liftFinger : MethodName := ⟨RX1, "liftFinger", "()V"⟩
abbrev cX1_clear : ByteArray := prog_1_method_7_code
def yX1_clear : MethodName := ⟨RX1, "clear", "(I)I"⟩
abbrev cX1_join : ByteArray := prog_1_method_8_code
def yX1_join : MethodName := ⟨RX1, "join", "(IZ)I"⟩
abbrev cX1_serve : ByteArray := prog_1_method_9_code
def yX1_serve : MethodName := ⟨RX1, "serve", "(ZZ)J"⟩
abbrev cX1_drop : ByteArray := prog_1_method_10_code
def yX1_drop : MethodName := ⟨RX1, "drop", "(IZ)Z"⟩
abbrev cX1_ring : ByteArray := prog_1_method_11_code
def yX1_ring : MethodName := ⟨RX1, "ring", "(IZ)J"⟩
abbrev cX1_sieve : ByteArray := prog_1_method_12_code
def yX1_sieve : MethodName := ⟨RX1, "sieve", "(II)I"⟩
abbrev cX1_roll : ByteArray := prog_1_method_13_code
def yX1_roll : MethodName := ⟨RX1, "roll", "(I)I"⟩
abbrev cX1_insert : ByteArray := prog_1_method_14_code
def yX1_insert : MethodName := ⟨RX1, "insert", "(II)I"⟩
abbrev cX1_change : ByteArray := prog_1_method_15_code
def yX1_change : MethodName := ⟨RX1, "change", "(IIZ)J"⟩
abbrev cX1_chain : ByteArray := prog_1_method_16_code
def yX1_chain : MethodName := ⟨RX1, "chain", "(I)J"⟩
abbrev cX1_find : ByteArray := prog_1_method_17_code
def yX1_find : MethodName := ⟨RX1, "find", "(IZ)I"⟩
abbrev cX1_unlink : ByteArray := prog_1_method_18_code
def yX1_unlink : MethodName := ⟨RX1, "unlink", "(I)Z"⟩
abbrev cX1_point : ByteArray := prog_1_method_19_code
def yX1_point : MethodName := ⟨RX1, "point", "(I)I"⟩
abbrev cX1_pass : ByteArray := prog_1_method_20_code
def yX1_pass : MethodName := ⟨RX1, "pass", "(Z)J"⟩
abbrev cX1_changeMet : ByteArray := prog_1_method_27_code
def yX1_changeMet : MethodName := ⟨RX1, "changeMet", "(I)I"⟩
abbrev cX1_takeMet : ByteArray := prog_1_method_28_code
def yX1_takeMet : MethodName := ⟨RX1, "takeMet", "()I"⟩
abbrev cX1_putAtFinger : ByteArray := prog_1_method_29_code
def yX1_putAtFinger : MethodName := ⟨RX1, "putAtFinger", "(I)I"⟩
abbrev cX1_touch : ByteArray := prog_1_method_21_code
def yX1_touch : MethodName := ⟨RX1, "touch", "(II)I"⟩
abbrev cX1_finger : ByteArray := prog_1_method_22_code
def yX1_finger : MethodName := ⟨RX1, "finger", "()I"⟩
abbrev cX1_empty : ByteArray := prog_1_method_23_code
def yX1_empty : MethodName := ⟨RX1, "empty", "()I"⟩
abbrev cX1_hand : ByteArray := prog_1_method_24_code
def yX1_hand : MethodName := ⟨RX1, "hand", "()I"⟩
abbrev cX2_init : ByteArray := prog_4_method_1_code
def yX2_init : MethodName := ⟨RX2, "<init>", "()V"⟩
abbrev cX2_put : ByteArray := prog_4_method_3_code
def yX2_put : MethodName := ⟨RX2, "put", "([IIII)V"⟩
abbrev cX2_take : ByteArray := prog_4_method_4_code
def yX2_take : MethodName := ⟨RX2, "take", "([III)V"⟩
abbrev cX2_place : ByteArray := prog_4_method_5_code
def yX2_place : MethodName := ⟨RX2, "place", "([IIIZ)I"⟩
abbrev cX2_many : ByteArray := prog_4_method_6_code
def yX2_many : MethodName := ⟨RX2, "many", "(I)I"⟩
abbrev cX2_lift : ByteArray := prog_4_method_7_code
def yX2_lift : MethodName := ⟨RX2, "lift", "()V"⟩
abbrev cX2_enter : ByteArray := prog_4_method_8_code
def yX2_enter : MethodName := ⟨RX2, "enter", "(I)I"⟩
abbrev cX2_call : ByteArray := prog_4_method_9_code
def yX2_call : MethodName := ⟨RX2, "call", "(Z)J"⟩
abbrev cX2_leave : ByteArray := prog_4_method_10_code
def yX2_leave : MethodName := ⟨RX2, "leave", "(I)Z"⟩
abbrev cX2_has : ByteArray := prog_4_method_11_code
def yX2_has : MethodName := ⟨RX2, "has", "(II)Z"⟩
abbrev cX2_size : ByteArray := prog_4_method_12_code
def yX2_size : MethodName := ⟨RX2, "size", "(I)I"⟩
abbrev cX2_clear : ByteArray := prog_4_method_13_code
def yX2_clear : MethodName := ⟨RX2, "clear", "(I)I"⟩
abbrev cX2_join : ByteArray := prog_4_method_14_code
def yX2_join : MethodName := ⟨RX2, "join", "(IZ)I"⟩
abbrev cX2_serve : ByteArray := prog_4_method_15_code
def yX2_serve : MethodName := ⟨RX2, "serve", "(ZZ)J"⟩
abbrev cX2_drop : ByteArray := prog_4_method_16_code
def yX2_drop : MethodName := ⟨RX2, "drop", "(IZ)Z"⟩
abbrev cX2_ring : ByteArray := prog_4_method_17_code
def yX2_ring : MethodName := ⟨RX2, "ring", "(IZ)J"⟩
abbrev cX2_sieve : ByteArray := prog_4_method_18_code
def yX2_sieve : MethodName := ⟨RX2, "sieve", "(II)I"⟩
abbrev cX2_roll : ByteArray := prog_4_method_19_code
def yX2_roll : MethodName := ⟨RX2, "roll", "(I)I"⟩
abbrev cX2_insert : ByteArray := prog_4_method_20_code
def yX2_insert : MethodName := ⟨RX2, "insert", "(II)I"⟩
abbrev cX2_change : ByteArray := prog_4_method_21_code
def yX2_change : MethodName := ⟨RX2, "change", "(IIZ)J"⟩
abbrev cX2_chain : ByteArray := prog_4_method_22_code
def yX2_chain : MethodName := ⟨RX2, "chain", "(I)J"⟩
abbrev cX2_find : ByteArray := prog_4_method_23_code
def yX2_find : MethodName := ⟨RX2, "find", "(IZ)I"⟩
abbrev cX2_unlink : ByteArray := prog_4_method_24_code
def yX2_unlink : MethodName := ⟨RX2, "unlink", "(I)Z"⟩
abbrev cX2_point : ByteArray := prog_4_method_25_code
def yX2_point : MethodName := ⟨RX2, "point", "(I)I"⟩
abbrev cX2_pass : ByteArray := prog_4_method_26_code
def yX2_pass : MethodName := ⟨RX2, "pass", "(Z)J"⟩
abbrev cX2_touch : ByteArray := prog_4_method_27_code
def yX2_touch : MethodName := ⟨RX2, "touch", "(II)I"⟩
abbrev cX2_finger : ByteArray := prog_4_method_28_code
def yX2_finger : MethodName := ⟨RX2, "finger", "()I"⟩
abbrev cX2_empty : ByteArray := prog_4_method_29_code
def yX2_empty : MethodName := ⟨RX2, "empty", "()I"⟩
abbrev cX2_hand : ByteArray := prog_4_method_30_code
def yX2_hand : MethodName := ⟨RX2, "hand", "()I"⟩
abbrev cL_law : ByteArray := code
def wsX0_init : List Cond := .code yX0_init cX0_init 1 none :: ([.methodLink RX0 3 objectInit, .instanceMethod objectInit, .code objectInit ⟨#[0xb1]⟩ 1 none, .arrayClass .int, .fieldLink RX0 9 "QueueHall$Row" "numbers" "[I", .fieldLink RX0 15 "QueueHall$Row" "count" "I"] ++ wsX00)
def wsX0_hasPlace : List Cond := .code yX0_hasPlace cX0_hasPlace 2 (some .boolean) :: ([.fieldLink RX0 15 "QueueHall$Row" "count" "I"] ++ wsX00)
def wsX0_hasPlaceOrEnd : List Cond := .code yX0_hasPlaceOrEnd cX0_hasPlaceOrEnd 2 (some .boolean) :: ([.fieldLink RX0 15 "QueueHall$Row" "count" "I"] ++ wsX00)
def wsX0_at : List Cond := .code yX0_at cX0_at 2 (some .long) :: ([.methodLink RX0 19 yX0_hasPlace, .instanceMethod yX0_hasPlace, .selects RX0 yX0_hasPlace yX0_hasPlace, .initialized RX0, .code yX0_hasPlace cX0_hasPlace 2 (some .boolean), .fieldLink RX0 15 "QueueHall$Row" "count" "I", .fieldLink RX0 9 "QueueHall$Row" "numbers" "[I", .constantLong RX0 23 (1099511627776)] ++ wsX00)
def wsX0_put : List Cond := .code yX0_put cX0_put 3 (some .boolean) :: ([.fieldLink RX0 15 "QueueHall$Row" "count" "I", .methodLink RX0 25 yX0_hasPlaceOrEnd, .instanceMethod yX0_hasPlaceOrEnd, .selects RX0 yX0_hasPlaceOrEnd yX0_hasPlaceOrEnd, .initialized RX0, .code yX0_hasPlaceOrEnd cX0_hasPlaceOrEnd 2 (some .boolean), .fieldLink RX0 9 "QueueHall$Row" "numbers" "[I", .methodLink RX0 28 arraycopyName, .native arraycopyName, .static arraycopyName, .initialized "java/lang/System"] ++ wsX00)
def wsX0_take : List Cond := .code yX0_take cX0_take 3 (some .long) :: ([.methodLink RX0 19 yX0_hasPlace, .instanceMethod yX0_hasPlace, .selects RX0 yX0_hasPlace yX0_hasPlace, .initialized RX0, .code yX0_hasPlace cX0_hasPlace 2 (some .boolean), .fieldLink RX0 15 "QueueHall$Row" "count" "I", .constantLong RX0 23 (1099511627776), .fieldLink RX0 9 "QueueHall$Row" "numbers" "[I", .methodLink RX0 28 arraycopyName, .native arraycopyName, .static arraycopyName, .initialized "java/lang/System"] ++ wsX00)
def wsX0_swap : List Cond := .code yX0_swap cX0_swap 4 (some .long) :: ([.methodLink RX0 19 yX0_hasPlace, .instanceMethod yX0_hasPlace, .selects RX0 yX0_hasPlace yX0_hasPlace, .initialized RX0, .code yX0_hasPlace cX0_hasPlace 2 (some .boolean), .fieldLink RX0 15 "QueueHall$Row" "count" "I", .constantLong RX0 23 (1099511627776), .fieldLink RX0 9 "QueueHall$Row" "numbers" "[I"] ++ wsX00)
def wsX0_wipe : List Cond := .code yX0_wipe cX0_wipe 2 (some .int) :: ([.fieldLink RX0 15 "QueueHall$Row" "count" "I"] ++ wsX00)
def wsX0_firstPlace : List Cond := .code yX0_firstPlace cX0_firstPlace 3 (some .int) :: ([.fieldLink RX0 15 "QueueHall$Row" "count" "I", .fieldLink RX0 9 "QueueHall$Row" "numbers" "[I"] ++ wsX00)
def wsX0_lastPlace : List Cond := .code yX0_lastPlace cX0_lastPlace 3 (some .int) :: ([.fieldLink RX0 15 "QueueHall$Row" "count" "I", .fieldLink RX0 9 "QueueHall$Row" "numbers" "[I"] ++ wsX00)
def wsX0_countBelow : List Cond := .code yX0_countBelow cX0_countBelow 4 (some .int) :: ([.fieldLink RX0 15 "QueueHall$Row" "count" "I", .fieldLink RX0 9 "QueueHall$Row" "numbers" "[I"] ++ wsX00)
def wsJ9_floorMod_7cf53 : List Cond := .code yJ9_floorMod_7cf53 cJ9_floorMod_7cf53 3 (some .int) :: ([])
def wsX0_takeRest : List Cond := .code yX0_takeRest cX0_takeRest 5 (some .int) :: ([.fieldLink RX0 15 "QueueHall$Row" "count" "I", .fieldLink RX0 9 "QueueHall$Row" "numbers" "[I", .methodLink RX0 34 yJ9_floorMod_7cf53, .static yJ9_floorMod_7cf53, .initialized RJ9, .code yJ9_floorMod_7cf53 cJ9_floorMod_7cf53 3 (some .int)] ++ wsX00)
def wsX0_turn : List Cond := .code yX0_turn cX0_turn 3 (some .int) :: ([.fieldLink RX0 15 "QueueHall$Row" "count" "I", .fieldLink RX0 9 "QueueHall$Row" "numbers" "[I", .methodLink RX0 28 arraycopyName, .native arraycopyName, .static arraycopyName, .initialized "java/lang/System"] ++ wsX00)
def wsX0_takeAll : List Cond := .code yX0_takeAll cX0_takeAll 3 (some .boolean) :: ([.fieldLink RX0 15 "QueueHall$Row" "count" "I", .methodLink RX0 25 yX0_hasPlaceOrEnd, .instanceMethod yX0_hasPlaceOrEnd, .selects RX0 yX0_hasPlaceOrEnd yX0_hasPlaceOrEnd, .initialized RX0, .code yX0_hasPlaceOrEnd cX0_hasPlaceOrEnd 2 (some .boolean), .fieldLink RX0 9 "QueueHall$Row" "numbers" "[I", .methodLink RX0 28 arraycopyName, .native arraycopyName, .static arraycopyName, .initialized "java/lang/System", .methodLink RX0 40 yX0_wipe, .instanceMethod yX0_wipe, .selects RX0 yX0_wipe yX0_wipe, .code yX0_wipe cX0_wipe 2 (some .int)] ++ wsX00)
def wsX1_init : List Cond := .code yX1_init cX1_init 1 none :: ([.methodLink RX1 1 objectInit, .instanceMethod objectInit, .code objectInit ⟨#[0xb1]⟩ 1 none, .classLink RX1 7 RX0, .instantiable RX0 2, .initialized RX0, .instanceMethod yX0_init, .code yX0_init cX0_init 1 none, .methodLink RX0 3 objectInit, .arrayClass .int, .fieldLink RX0 9 "QueueHall$Row" "numbers" "[I", .fieldLink RX0 15 "QueueHall$Row" "count" "I", .fieldLink RX1 10 "QueueHall" "hallRow" "LQueueHall$Row;", .fieldLink RX1 16 "QueueHall" "ringRow" "LQueueHall$Row;", .fieldLink RX1 19 "QueueHall" "chainRow" "LQueueHall$Row;", .fieldLink RX1 22 "QueueHall" "fingerPlace" "I", .fieldLink RX1 26 "QueueHall" "metPlace" "I"] ++ wsX00 ++ wsX10)
def wsX1_enter : List Cond := .code yX1_enter cX1_enter 2 (some .int) :: ([.fieldLink RX1 10 "QueueHall" "hallRow" "LQueueHall$Row;", .instanceMethod yX0_countBelow, .selects RX0 yX0_countBelow yX0_countBelow, .initialized RX0, .code yX0_countBelow cX0_countBelow 4 (some .int), .fieldLink RX0 15 "QueueHall$Row" "count" "I", .fieldLink RX0 9 "QueueHall$Row" "numbers" "[I", .instanceMethod yX0_put, .selects RX0 yX0_put yX0_put, .code yX0_put cX0_put 3 (some .boolean), .methodLink RX0 25 yX0_hasPlaceOrEnd, .instanceMethod yX0_hasPlaceOrEnd, .selects RX0 yX0_hasPlaceOrEnd yX0_hasPlaceOrEnd, .code yX0_hasPlaceOrEnd cX0_hasPlaceOrEnd 2 (some .boolean), .methodLink RX0 28 arraycopyName, .native arraycopyName, .static arraycopyName, .initialized "java/lang/System"] ++ wsX10 ++ wsX00)
def wsX1_call : List Cond := .code yX1_call cX1_call 2 (some .long) :: ([.fieldLink RX1 10 "QueueHall" "hallRow" "LQueueHall$Row;", .instanceMethod yX0_at, .selects RX0 yX0_at yX0_at, .initialized RX0, .code yX0_at cX0_at 2 (some .long), .methodLink RX0 19 yX0_hasPlace, .instanceMethod yX0_hasPlace, .selects RX0 yX0_hasPlace yX0_hasPlace, .code yX0_hasPlace cX0_hasPlace 2 (some .boolean), .fieldLink RX0 15 "QueueHall$Row" "count" "I", .fieldLink RX0 9 "QueueHall$Row" "numbers" "[I", .constantLong RX0 23 (1099511627776), .instanceMethod yX0_take, .selects RX0 yX0_take yX0_take, .code yX0_take cX0_take 3 (some .long), .methodLink RX0 28 arraycopyName, .native arraycopyName, .static arraycopyName, .initialized "java/lang/System"] ++ wsX10 ++ wsX00)
def wsX1_leave : List Cond := .code yX1_leave cX1_leave 2 (some .boolean) :: ([.fieldLink RX1 10 "QueueHall" "hallRow" "LQueueHall$Row;", .instanceMethod yX0_firstPlace, .selects RX0 yX0_firstPlace yX0_firstPlace, .initialized RX0, .code yX0_firstPlace cX0_firstPlace 3 (some .int), .fieldLink RX0 15 "QueueHall$Row" "count" "I", .fieldLink RX0 9 "QueueHall$Row" "numbers" "[I", .instanceMethod yX0_take, .selects RX0 yX0_take yX0_take, .code yX0_take cX0_take 3 (some .long), .methodLink RX0 19 yX0_hasPlace, .instanceMethod yX0_hasPlace, .selects RX0 yX0_hasPlace yX0_hasPlace, .code yX0_hasPlace cX0_hasPlace 2 (some .boolean), .constantLong RX0 23 (1099511627776), .methodLink RX0 28 arraycopyName, .native arraycopyName, .static arraycopyName, .initialized "java/lang/System", .constantLong RX1 50 (1099511627776)] ++ wsX10 ++ wsX00)
def wsX1_rowOf : List Cond := .code yX1_rowOf cX1_rowOf 2 (some (.object "QueueHall$Row")) :: ([.fieldLink RX1 10 "QueueHall" "hallRow" "LQueueHall$Row;", .fieldLink RX1 16 "QueueHall" "ringRow" "LQueueHall$Row;", .fieldLink RX1 19 "QueueHall" "chainRow" "LQueueHall$Row;"] ++ wsX10)
def wsX1_has : List Cond := .code yX1_has cX1_has 4 (some .boolean) :: ([.methodLink RX1 52 yX1_rowOf, .instanceMethod yX1_rowOf, .selects RX1 yX1_rowOf yX1_rowOf, .initialized RX1, .code yX1_rowOf cX1_rowOf 2 (some (.object "QueueHall$Row")), .fieldLink RX1 10 "QueueHall" "hallRow" "LQueueHall$Row;", .fieldLink RX1 16 "QueueHall" "ringRow" "LQueueHall$Row;", .fieldLink RX1 19 "QueueHall" "chainRow" "LQueueHall$Row;", .instanceMethod yX0_firstPlace, .selects RX0 yX0_firstPlace yX0_firstPlace, .initialized RX0, .code yX0_firstPlace cX0_firstPlace 3 (some .int), .fieldLink RX0 15 "QueueHall$Row" "count" "I", .fieldLink RX0 9 "QueueHall$Row" "numbers" "[I"] ++ wsX10 ++ wsX00)
def wsX1_size : List Cond := .code yX1_size cX1_size 3 (some .int) :: ([.methodLink RX1 52 yX1_rowOf, .instanceMethod yX1_rowOf, .selects RX1 yX1_rowOf yX1_rowOf, .initialized RX1, .code yX1_rowOf cX1_rowOf 2 (some (.object "QueueHall$Row")), .fieldLink RX1 10 "QueueHall" "hallRow" "LQueueHall$Row;", .fieldLink RX1 16 "QueueHall" "ringRow" "LQueueHall$Row;", .fieldLink RX1 19 "QueueHall" "chainRow" "LQueueHall$Row;"] ++ wsX10 ++ wsX00)
def wsX1_liftFinger : List Cond := .code yX1_liftFinger cX1_liftFinger 1 none :: ([.fieldLink RX1 22 "QueueHall" "fingerPlace" "I", .fieldLink RX1 26 "QueueHall" "metPlace" "I"] ++ wsX10)
def wsX1_clear : List Cond := .code yX1_clear cX1_clear 4 (some .int) :: ([.methodLink RX1 52 yX1_rowOf, .instanceMethod yX1_rowOf, .selects RX1 yX1_rowOf yX1_rowOf, .initialized RX1, .code yX1_rowOf cX1_rowOf 2 (some (.object "QueueHall$Row")), .fieldLink RX1 10 "QueueHall" "hallRow" "LQueueHall$Row;", .fieldLink RX1 16 "QueueHall" "ringRow" "LQueueHall$Row;", .fieldLink RX1 19 "QueueHall" "chainRow" "LQueueHall$Row;", .instanceMethod yX0_wipe, .selects RX0 yX0_wipe yX0_wipe, .initialized RX0, .code yX0_wipe cX0_wipe 2 (some .int), .fieldLink RX0 15 "QueueHall$Row" "count" "I", .methodLink RX1 60 yX1_liftFinger, .instanceMethod yX1_liftFinger, .selects RX1 yX1_liftFinger yX1_liftFinger, .code yX1_liftFinger cX1_liftFinger 1 none, .fieldLink RX1 22 "QueueHall" "fingerPlace" "I", .fieldLink RX1 26 "QueueHall" "metPlace" "I"] ++ wsX10 ++ wsX00)
def wsX1_join : List Cond := .code yX1_join cX1_join 3 (some .int) :: ([.fieldLink RX1 16 "QueueHall" "ringRow" "LQueueHall$Row;", .instanceMethod yX0_put, .selects RX0 yX0_put yX0_put, .initialized RX0, .code yX0_put cX0_put 3 (some .boolean), .fieldLink RX0 15 "QueueHall$Row" "count" "I", .methodLink RX0 25 yX0_hasPlaceOrEnd, .instanceMethod yX0_hasPlaceOrEnd, .selects RX0 yX0_hasPlaceOrEnd yX0_hasPlaceOrEnd, .code yX0_hasPlaceOrEnd cX0_hasPlaceOrEnd 2 (some .boolean), .fieldLink RX0 9 "QueueHall$Row" "numbers" "[I", .methodLink RX0 28 arraycopyName, .native arraycopyName, .static arraycopyName, .initialized "java/lang/System"] ++ wsX10 ++ wsX00)
def wsX1_serve : List Cond := .code yX1_serve cX1_serve 4 (some .long) :: ([.fieldLink RX1 16 "QueueHall" "ringRow" "LQueueHall$Row;", .instanceMethod yX0_at, .selects RX0 yX0_at yX0_at, .initialized RX0, .code yX0_at cX0_at 2 (some .long), .methodLink RX0 19 yX0_hasPlace, .instanceMethod yX0_hasPlace, .selects RX0 yX0_hasPlace yX0_hasPlace, .code yX0_hasPlace cX0_hasPlace 2 (some .boolean), .fieldLink RX0 15 "QueueHall$Row" "count" "I", .fieldLink RX0 9 "QueueHall$Row" "numbers" "[I", .constantLong RX0 23 (1099511627776), .instanceMethod yX0_take, .selects RX0 yX0_take yX0_take, .code yX0_take cX0_take 3 (some .long), .methodLink RX0 28 arraycopyName, .native arraycopyName, .static arraycopyName, .initialized "java/lang/System"] ++ wsX10 ++ wsX00)
def wsX1_drop : List Cond := .code yX1_drop cX1_drop 4 (some .boolean) :: ([.fieldLink RX1 16 "QueueHall" "ringRow" "LQueueHall$Row;", .instanceMethod yX0_firstPlace, .selects RX0 yX0_firstPlace yX0_firstPlace, .initialized RX0, .code yX0_firstPlace cX0_firstPlace 3 (some .int), .fieldLink RX0 15 "QueueHall$Row" "count" "I", .fieldLink RX0 9 "QueueHall$Row" "numbers" "[I", .instanceMethod yX0_lastPlace, .selects RX0 yX0_lastPlace yX0_lastPlace, .code yX0_lastPlace cX0_lastPlace 3 (some .int), .instanceMethod yX0_take, .selects RX0 yX0_take yX0_take, .code yX0_take cX0_take 3 (some .long), .methodLink RX0 19 yX0_hasPlace, .instanceMethod yX0_hasPlace, .selects RX0 yX0_hasPlace yX0_hasPlace, .code yX0_hasPlace cX0_hasPlace 2 (some .boolean), .constantLong RX0 23 (1099511627776), .methodLink RX0 28 arraycopyName, .native arraycopyName, .static arraycopyName, .initialized "java/lang/System", .constantLong RX1 50 (1099511627776)] ++ wsX10 ++ wsX00)
def wsX1_ring : List Cond := .code yX1_ring cX1_ring 3 (some .long) :: ([.fieldLink RX1 16 "QueueHall" "ringRow" "LQueueHall$Row;", .instanceMethod yX0_hasPlace, .selects RX0 yX0_hasPlace yX0_hasPlace, .initialized RX0, .code yX0_hasPlace cX0_hasPlace 2 (some .boolean), .fieldLink RX0 15 "QueueHall$Row" "count" "I", .constantLong RX1 50 (1099511627776), .instanceMethod yX0_at, .selects RX0 yX0_at yX0_at, .code yX0_at cX0_at 2 (some .long), .methodLink RX0 19 yX0_hasPlace, .fieldLink RX0 9 "QueueHall$Row" "numbers" "[I", .constantLong RX0 23 (1099511627776)] ++ wsX10 ++ wsX00)
def wsX1_sieve : List Cond := .code yX1_sieve cX1_sieve 3 (some .int) :: ([.fieldLink RX1 16 "QueueHall" "ringRow" "LQueueHall$Row;", .instanceMethod yX0_takeRest, .selects RX0 yX0_takeRest yX0_takeRest, .initialized RX0, .code yX0_takeRest cX0_takeRest 5 (some .int), .fieldLink RX0 15 "QueueHall$Row" "count" "I", .fieldLink RX0 9 "QueueHall$Row" "numbers" "[I", .methodLink RX0 34 yJ9_floorMod_7cf53, .static yJ9_floorMod_7cf53, .initialized RJ9, .code yJ9_floorMod_7cf53 cJ9_floorMod_7cf53 3 (some .int)] ++ wsX10 ++ wsX00)
def wsX1_roll : List Cond := .code yX1_roll cX1_roll 2 (some .int) :: ([.fieldLink RX1 16 "QueueHall" "ringRow" "LQueueHall$Row;", .instanceMethod yX0_turn, .selects RX0 yX0_turn yX0_turn, .initialized RX0, .code yX0_turn cX0_turn 3 (some .int), .fieldLink RX0 15 "QueueHall$Row" "count" "I", .fieldLink RX0 9 "QueueHall$Row" "numbers" "[I", .methodLink RX0 28 arraycopyName, .native arraycopyName, .static arraycopyName, .initialized "java/lang/System"] ++ wsX10 ++ wsX00)
def wsX1_insert : List Cond := .code yX1_insert cX1_insert 3 (some .int) :: ([.fieldLink RX1 19 "QueueHall" "chainRow" "LQueueHall$Row;", .instanceMethod yX0_hasPlaceOrEnd, .selects RX0 yX0_hasPlaceOrEnd yX0_hasPlaceOrEnd, .initialized RX0, .code yX0_hasPlaceOrEnd cX0_hasPlaceOrEnd 2 (some .boolean), .fieldLink RX0 15 "QueueHall$Row" "count" "I", .instanceMethod yX0_put, .selects RX0 yX0_put yX0_put, .code yX0_put cX0_put 3 (some .boolean), .methodLink RX0 25 yX0_hasPlaceOrEnd, .fieldLink RX0 9 "QueueHall$Row" "numbers" "[I", .methodLink RX0 28 arraycopyName, .native arraycopyName, .static arraycopyName, .initialized "java/lang/System", .methodLink RX1 60 yX1_liftFinger, .instanceMethod yX1_liftFinger, .selects RX1 yX1_liftFinger yX1_liftFinger, .initialized RX1, .code yX1_liftFinger cX1_liftFinger 1 none, .fieldLink RX1 22 "QueueHall" "fingerPlace" "I", .fieldLink RX1 26 "QueueHall" "metPlace" "I"] ++ wsX10 ++ wsX00)
def wsX1_change_r1 : List Cond := [Cond.fieldLink RX1 19 "QueueHall" "chainRow" "LQueueHall$Row;", Cond.instanceMethod yX0_take, Cond.selects RX0 yX0_take yX0_take, Cond.initialized RX0, Cond.code yX0_take cX0_take 3 (some .long), Cond.methodLink RX0 19 yX0_hasPlace, Cond.instanceMethod yX0_hasPlace, Cond.selects RX0 yX0_hasPlace yX0_hasPlace, Cond.code yX0_hasPlace cX0_hasPlace 2 (some .boolean), Cond.fieldLink RX0 15 "QueueHall$Row" "count" "I", Cond.constantLong RX0 23 (1099511627776), Cond.fieldLink RX0 9 "QueueHall$Row" "numbers" "[I", Cond.methodLink RX0 28 arraycopyName, Cond.native arraycopyName, Cond.static arraycopyName, Cond.initialized "java/lang/System", Cond.instanceMethod yX0_swap, Cond.selects RX0 yX0_swap yX0_swap, Cond.code yX0_swap cX0_swap 4 (some .long), Cond.constantLong RX1 50 (1099511627776), Cond.methodLink RX1 60 yX1_liftFinger, Cond.instanceMethod yX1_liftFinger, Cond.selects RX1 yX1_liftFinger yX1_liftFinger, Cond.initialized RX1]
def wsX1_change_r2 : List Cond := [Cond.code yX1_liftFinger cX1_liftFinger 1 none, Cond.fieldLink RX1 22 "QueueHall" "fingerPlace" "I", Cond.fieldLink RX1 26 "QueueHall" "metPlace" "I"]
def wsX1_change : List Cond := .code yX1_change cX1_change 6 (some .long) :: ((wsX1_change_r1 ++ wsX1_change_r2) ++ wsX10 ++ wsX00)
def wsX1_chain : List Cond := .code yX1_chain cX1_chain 2 (some .long) :: ([.fieldLink RX1 19 "QueueHall" "chainRow" "LQueueHall$Row;", .instanceMethod yX0_at, .selects RX0 yX0_at yX0_at, .initialized RX0, .code yX0_at cX0_at 2 (some .long), .methodLink RX0 19 yX0_hasPlace, .instanceMethod yX0_hasPlace, .selects RX0 yX0_hasPlace yX0_hasPlace, .code yX0_hasPlace cX0_hasPlace 2 (some .boolean), .fieldLink RX0 15 "QueueHall$Row" "count" "I", .fieldLink RX0 9 "QueueHall$Row" "numbers" "[I", .constantLong RX0 23 (1099511627776)] ++ wsX10 ++ wsX00)
def wsX1_find : List Cond := .code yX1_find cX1_find 3 (some .int) :: ([.fieldLink RX1 19 "QueueHall" "chainRow" "LQueueHall$Row;", .instanceMethod yX0_lastPlace, .selects RX0 yX0_lastPlace yX0_lastPlace, .initialized RX0, .code yX0_lastPlace cX0_lastPlace 3 (some .int), .fieldLink RX0 15 "QueueHall$Row" "count" "I", .fieldLink RX0 9 "QueueHall$Row" "numbers" "[I", .instanceMethod yX0_firstPlace, .selects RX0 yX0_firstPlace yX0_firstPlace, .code yX0_firstPlace cX0_firstPlace 3 (some .int)] ++ wsX10 ++ wsX00)
def wsX1_unlink_r1 : List Cond := [Cond.fieldLink RX1 19 "QueueHall" "chainRow" "LQueueHall$Row;", Cond.instanceMethod yX0_firstPlace, Cond.selects RX0 yX0_firstPlace yX0_firstPlace, Cond.initialized RX0, Cond.code yX0_firstPlace cX0_firstPlace 3 (some .int), Cond.fieldLink RX0 15 "QueueHall$Row" "count" "I", Cond.fieldLink RX0 9 "QueueHall$Row" "numbers" "[I", Cond.instanceMethod yX0_take, Cond.selects RX0 yX0_take yX0_take, Cond.code yX0_take cX0_take 3 (some .long), Cond.methodLink RX0 19 yX0_hasPlace, Cond.instanceMethod yX0_hasPlace, Cond.selects RX0 yX0_hasPlace yX0_hasPlace, Cond.code yX0_hasPlace cX0_hasPlace 2 (some .boolean), Cond.constantLong RX0 23 (1099511627776), Cond.methodLink RX0 28 arraycopyName, Cond.native arraycopyName, Cond.static arraycopyName, Cond.initialized "java/lang/System", Cond.constantLong RX1 50 (1099511627776), Cond.methodLink RX1 60 yX1_liftFinger, Cond.instanceMethod yX1_liftFinger, Cond.selects RX1 yX1_liftFinger yX1_liftFinger, Cond.initialized RX1]
def wsX1_unlink_r2 : List Cond := [Cond.code yX1_liftFinger cX1_liftFinger 1 none, Cond.fieldLink RX1 22 "QueueHall" "fingerPlace" "I", Cond.fieldLink RX1 26 "QueueHall" "metPlace" "I"]
def wsX1_unlink : List Cond := .code yX1_unlink cX1_unlink 2 (some .boolean) :: ((wsX1_unlink_r1 ++ wsX1_unlink_r2) ++ wsX10 ++ wsX00)
def wsX1_point : List Cond := .code yX1_point cX1_point 2 (some .int) :: ([.fieldLink RX1 19 "QueueHall" "chainRow" "LQueueHall$Row;", .instanceMethod yX0_hasPlaceOrEnd, .selects RX0 yX0_hasPlaceOrEnd yX0_hasPlaceOrEnd, .initialized RX0, .code yX0_hasPlaceOrEnd cX0_hasPlaceOrEnd 2 (some .boolean), .fieldLink RX0 15 "QueueHall$Row" "count" "I", .fieldLink RX1 22 "QueueHall" "fingerPlace" "I", .fieldLink RX1 26 "QueueHall" "metPlace" "I"] ++ wsX10 ++ wsX00)
def wsX1_pass : List Cond := .code yX1_pass cX1_pass 3 (some .long) :: ([.fieldLink RX1 22 "QueueHall" "fingerPlace" "I", .constantLong RX1 50 (1099511627776), .fieldLink RX1 19 "QueueHall" "chainRow" "LQueueHall$Row;", .instanceMethod yX0_hasPlace, .selects RX0 yX0_hasPlace yX0_hasPlace, .initialized RX0, .code yX0_hasPlace cX0_hasPlace 2 (some .boolean), .fieldLink RX0 15 "QueueHall$Row" "count" "I", .fieldLink RX1 26 "QueueHall" "metPlace" "I", .instanceMethod yX0_at, .selects RX0 yX0_at yX0_at, .code yX0_at cX0_at 2 (some .long), .methodLink RX0 19 yX0_hasPlace, .fieldLink RX0 9 "QueueHall$Row" "numbers" "[I", .constantLong RX0 23 (1099511627776)] ++ wsX10 ++ wsX00)
def wsX1_changeMet : List Cond := .code yX1_changeMet cX1_changeMet 2 (some .int) :: ([.fieldLink RX1 19 "QueueHall" "chainRow" "LQueueHall$Row;", .fieldLink RX1 26 "QueueHall" "metPlace" "I", .instanceMethod yX0_swap, .selects RX0 yX0_swap yX0_swap, .initialized RX0, .code yX0_swap cX0_swap 4 (some .long), .methodLink RX0 19 yX0_hasPlace, .instanceMethod yX0_hasPlace, .selects RX0 yX0_hasPlace yX0_hasPlace, .code yX0_hasPlace cX0_hasPlace 2 (some .boolean), .fieldLink RX0 15 "QueueHall$Row" "count" "I", .constantLong RX0 23 (1099511627776), .fieldLink RX0 9 "QueueHall$Row" "numbers" "[I", .constantLong RX1 50 (1099511627776)] ++ wsX10 ++ wsX00)
def wsX1_takeMet : List Cond := .code yX1_takeMet cX1_takeMet 1 (some .int) :: ([.fieldLink RX1 19 "QueueHall" "chainRow" "LQueueHall$Row;", .fieldLink RX1 26 "QueueHall" "metPlace" "I", .instanceMethod yX0_take, .selects RX0 yX0_take yX0_take, .initialized RX0, .code yX0_take cX0_take 3 (some .long), .methodLink RX0 19 yX0_hasPlace, .instanceMethod yX0_hasPlace, .selects RX0 yX0_hasPlace yX0_hasPlace, .code yX0_hasPlace cX0_hasPlace 2 (some .boolean), .fieldLink RX0 15 "QueueHall$Row" "count" "I", .constantLong RX0 23 (1099511627776), .fieldLink RX0 9 "QueueHall$Row" "numbers" "[I", .methodLink RX0 28 arraycopyName, .native arraycopyName, .static arraycopyName, .initialized "java/lang/System", .constantLong RX1 50 (1099511627776), .fieldLink RX1 22 "QueueHall" "fingerPlace" "I"] ++ wsX10 ++ wsX00)
def wsX1_putAtFinger : List Cond := .code yX1_putAtFinger cX1_putAtFinger 2 (some .int) :: ([.fieldLink RX1 19 "QueueHall" "chainRow" "LQueueHall$Row;", .fieldLink RX1 22 "QueueHall" "fingerPlace" "I", .instanceMethod yX0_put, .selects RX0 yX0_put yX0_put, .initialized RX0, .code yX0_put cX0_put 3 (some .boolean), .fieldLink RX0 15 "QueueHall$Row" "count" "I", .methodLink RX0 25 yX0_hasPlaceOrEnd, .instanceMethod yX0_hasPlaceOrEnd, .selects RX0 yX0_hasPlaceOrEnd yX0_hasPlaceOrEnd, .code yX0_hasPlaceOrEnd cX0_hasPlaceOrEnd 2 (some .boolean), .fieldLink RX0 9 "QueueHall$Row" "numbers" "[I", .methodLink RX0 28 arraycopyName, .native arraycopyName, .static arraycopyName, .initialized "java/lang/System", .fieldLink RX1 26 "QueueHall" "metPlace" "I"] ++ wsX10 ++ wsX00)
def wsX1_touch_r1 : List Cond := [Cond.fieldLink RX1 22 "QueueHall" "fingerPlace" "I", Cond.methodLink RX1 84 yX1_changeMet, Cond.instanceMethod yX1_changeMet, Cond.selects RX1 yX1_changeMet yX1_changeMet, Cond.initialized RX1, Cond.code yX1_changeMet cX1_changeMet 2 (some .int), Cond.fieldLink RX1 19 "QueueHall" "chainRow" "LQueueHall$Row;", Cond.fieldLink RX1 26 "QueueHall" "metPlace" "I", Cond.instanceMethod yX0_swap, Cond.selects RX0 yX0_swap yX0_swap, Cond.initialized RX0, Cond.code yX0_swap cX0_swap 4 (some .long), Cond.methodLink RX0 19 yX0_hasPlace, Cond.instanceMethod yX0_hasPlace, Cond.selects RX0 yX0_hasPlace yX0_hasPlace, Cond.code yX0_hasPlace cX0_hasPlace 2 (some .boolean), Cond.fieldLink RX0 15 "QueueHall$Row" "count" "I", Cond.constantLong RX0 23 (1099511627776), Cond.fieldLink RX0 9 "QueueHall$Row" "numbers" "[I", Cond.constantLong RX1 50 (1099511627776), Cond.methodLink RX1 87 yX1_takeMet, Cond.instanceMethod yX1_takeMet, Cond.selects RX1 yX1_takeMet yX1_takeMet, Cond.code yX1_takeMet cX1_takeMet 1 (some .int)]
def wsX1_touch_r2 : List Cond := [Cond.instanceMethod yX0_take, Cond.selects RX0 yX0_take yX0_take, Cond.code yX0_take cX0_take 3 (some .long), Cond.methodLink RX0 28 arraycopyName, Cond.native arraycopyName, Cond.static arraycopyName, Cond.initialized "java/lang/System", Cond.methodLink RX1 90 yX1_putAtFinger, Cond.instanceMethod yX1_putAtFinger, Cond.selects RX1 yX1_putAtFinger yX1_putAtFinger, Cond.code yX1_putAtFinger cX1_putAtFinger 2 (some .int), Cond.instanceMethod yX0_put, Cond.selects RX0 yX0_put yX0_put, Cond.code yX0_put cX0_put 3 (some .boolean), Cond.methodLink RX0 25 yX0_hasPlaceOrEnd, Cond.instanceMethod yX0_hasPlaceOrEnd, Cond.selects RX0 yX0_hasPlaceOrEnd yX0_hasPlaceOrEnd, Cond.code yX0_hasPlaceOrEnd cX0_hasPlaceOrEnd 2 (some .boolean)]
def wsX1_touch : List Cond := .code yX1_touch cX1_touch 3 (some .int) :: ((wsX1_touch_r1 ++ wsX1_touch_r2) ++ wsX10 ++ wsX00)
def wsX1_finger : List Cond := .code yX1_finger cX1_finger 1 (some .int) :: ([.fieldLink RX1 22 "QueueHall" "fingerPlace" "I"] ++ wsX10)
def wsX1_empty : List Cond := .code yX1_empty cX1_empty 1 (some .int) :: ([.fieldLink RX1 16 "QueueHall" "ringRow" "LQueueHall$Row;", .fieldLink RX1 10 "QueueHall" "hallRow" "LQueueHall$Row;", .instanceMethod yX0_takeAll, .selects RX0 yX0_takeAll yX0_takeAll, .initialized RX0, .code yX0_takeAll cX0_takeAll 3 (some .boolean), .fieldLink RX0 15 "QueueHall$Row" "count" "I", .methodLink RX0 25 yX0_hasPlaceOrEnd, .instanceMethod yX0_hasPlaceOrEnd, .selects RX0 yX0_hasPlaceOrEnd yX0_hasPlaceOrEnd, .code yX0_hasPlaceOrEnd cX0_hasPlaceOrEnd 2 (some .boolean), .fieldLink RX0 9 "QueueHall$Row" "numbers" "[I", .methodLink RX0 28 arraycopyName, .native arraycopyName, .static arraycopyName, .initialized "java/lang/System", .methodLink RX0 40 yX0_wipe, .instanceMethod yX0_wipe, .selects RX0 yX0_wipe yX0_wipe, .code yX0_wipe cX0_wipe 2 (some .int)] ++ wsX10 ++ wsX00)
def wsX1_hand_r1 : List Cond := [Cond.fieldLink RX1 19 "QueueHall" "chainRow" "LQueueHall$Row;", Cond.fieldLink RX1 16 "QueueHall" "ringRow" "LQueueHall$Row;", Cond.instanceMethod yX0_takeAll, Cond.selects RX0 yX0_takeAll yX0_takeAll, Cond.initialized RX0, Cond.code yX0_takeAll cX0_takeAll 3 (some .boolean), Cond.fieldLink RX0 15 "QueueHall$Row" "count" "I", Cond.methodLink RX0 25 yX0_hasPlaceOrEnd, Cond.instanceMethod yX0_hasPlaceOrEnd, Cond.selects RX0 yX0_hasPlaceOrEnd yX0_hasPlaceOrEnd, Cond.code yX0_hasPlaceOrEnd cX0_hasPlaceOrEnd 2 (some .boolean), Cond.fieldLink RX0 9 "QueueHall$Row" "numbers" "[I", Cond.methodLink RX0 28 arraycopyName, Cond.native arraycopyName, Cond.static arraycopyName, Cond.initialized "java/lang/System", Cond.methodLink RX0 40 yX0_wipe, Cond.instanceMethod yX0_wipe, Cond.selects RX0 yX0_wipe yX0_wipe, Cond.code yX0_wipe cX0_wipe 2 (some .int), Cond.methodLink RX1 60 yX1_liftFinger, Cond.instanceMethod yX1_liftFinger, Cond.selects RX1 yX1_liftFinger yX1_liftFinger, Cond.initialized RX1]
def wsX1_hand_r2 : List Cond := [Cond.code yX1_liftFinger cX1_liftFinger 1 none, Cond.fieldLink RX1 22 "QueueHall" "fingerPlace" "I", Cond.fieldLink RX1 26 "QueueHall" "metPlace" "I"]
def wsX1_hand : List Cond := .code yX1_hand cX1_hand 2 (some .int) :: ((wsX1_hand_r1 ++ wsX1_hand_r2) ++ wsX10 ++ wsX00)
def wsX2_init : List Cond := .code yX2_init cX2_init 1 none :: ([.methodLink RX2 1 objectInit, .instanceMethod objectInit, .code objectInit ⟨#[0xb1]⟩ 1 none, .arrayClass .int, .fieldLink RX2 9 "QueueHallModel" "hall" "[I", .fieldLink RX2 13 "QueueHallModel" "ring" "[I", .fieldLink RX2 16 "QueueHallModel" "chain" "[I", .fieldLink RX2 19 "QueueHallModel" "finger" "I", .fieldLink RX2 23 "QueueHallModel" "met" "I"] ++ wsX20)
def wsX2_put : List Cond := .code yX2_put cX2_put 5 none :: ([])
def wsX2_take : List Cond := .code yX2_take cX2_take 4 none :: ([])
def wsX2_place : List Cond := .code yX2_place cX2_place 6 (some .int) :: ([])
def wsX2_many : List Cond := .code yX2_many cX2_many 2 (some .int) :: ([.fieldLink RX2 26 "QueueHallModel" "halls" "I", .fieldLink RX2 29 "QueueHallModel" "rings" "I", .fieldLink RX2 32 "QueueHallModel" "chains" "I"] ++ wsX20)
def wsX2_lift : List Cond := .code yX2_lift cX2_lift 1 none :: ([.fieldLink RX2 19 "QueueHallModel" "finger" "I", .fieldLink RX2 23 "QueueHallModel" "met" "I"] ++ wsX20)
def wsX2_enter : List Cond := .code yX2_enter cX2_enter 3 (some .int) :: ([.fieldLink RX2 26 "QueueHallModel" "halls" "I", .fieldLink RX2 9 "QueueHallModel" "hall" "[I", .methodLink RX2 35 yX2_put, .static yX2_put, .initialized RX2, .code yX2_put cX2_put 5 none] ++ wsX20)
def wsX2_call : List Cond := .code yX2_call cX2_call 3 (some .long) :: ([.fieldLink RX2 26 "QueueHallModel" "halls" "I", .constantLong RX2 39 (1099511627776), .fieldLink RX2 9 "QueueHallModel" "hall" "[I", .methodLink RX2 41 yX2_take, .static yX2_take, .initialized RX2, .code yX2_take cX2_take 4 none] ++ wsX20)
def wsX2_leave : List Cond := .code yX2_leave cX2_leave 3 (some .boolean) :: ([.fieldLink RX2 9 "QueueHallModel" "hall" "[I", .fieldLink RX2 26 "QueueHallModel" "halls" "I", .methodLink RX2 45 yX2_place, .static yX2_place, .initialized RX2, .code yX2_place cX2_place 6 (some .int), .methodLink RX2 41 yX2_take, .static yX2_take, .code yX2_take cX2_take 4 none] ++ wsX20)
def wsX2_has : List Cond := .code yX2_has cX2_has 4 (some .boolean) :: ([.fieldLink RX2 9 "QueueHallModel" "hall" "[I", .fieldLink RX2 13 "QueueHallModel" "ring" "[I", .fieldLink RX2 16 "QueueHallModel" "chain" "[I", .methodLink RX2 49 yX2_many, .instanceMethod yX2_many, .selects RX2 yX2_many yX2_many, .initialized RX2, .code yX2_many cX2_many 2 (some .int), .fieldLink RX2 26 "QueueHallModel" "halls" "I", .fieldLink RX2 29 "QueueHallModel" "rings" "I", .fieldLink RX2 32 "QueueHallModel" "chains" "I", .methodLink RX2 45 yX2_place, .static yX2_place, .code yX2_place cX2_place 6 (some .int)] ++ wsX20)
def wsX2_size : List Cond := .code yX2_size cX2_size 2 (some .int) :: ([.methodLink RX2 49 yX2_many, .instanceMethod yX2_many, .selects RX2 yX2_many yX2_many, .initialized RX2, .code yX2_many cX2_many 2 (some .int), .fieldLink RX2 26 "QueueHallModel" "halls" "I", .fieldLink RX2 29 "QueueHallModel" "rings" "I", .fieldLink RX2 32 "QueueHallModel" "chains" "I"] ++ wsX20)
def wsX2_clear : List Cond := .code yX2_clear cX2_clear 3 (some .int) :: ([.methodLink RX2 49 yX2_many, .instanceMethod yX2_many, .selects RX2 yX2_many yX2_many, .initialized RX2, .code yX2_many cX2_many 2 (some .int), .fieldLink RX2 26 "QueueHallModel" "halls" "I", .fieldLink RX2 29 "QueueHallModel" "rings" "I", .fieldLink RX2 32 "QueueHallModel" "chains" "I", .methodLink RX2 53 yX2_lift, .instanceMethod yX2_lift, .selects RX2 yX2_lift yX2_lift, .code yX2_lift cX2_lift 1 none, .fieldLink RX2 19 "QueueHallModel" "finger" "I", .fieldLink RX2 23 "QueueHallModel" "met" "I"] ++ wsX20)
def wsX2_join : List Cond := .code yX2_join cX2_join 3 (some .int) :: ([.fieldLink RX2 29 "QueueHallModel" "rings" "I", .fieldLink RX2 13 "QueueHallModel" "ring" "[I", .methodLink RX2 35 yX2_put, .static yX2_put, .initialized RX2, .code yX2_put cX2_put 5 none] ++ wsX20)
def wsX2_serve : List Cond := .code yX2_serve cX2_serve 5 (some .long) :: ([.fieldLink RX2 29 "QueueHallModel" "rings" "I", .constantLong RX2 39 (1099511627776), .fieldLink RX2 13 "QueueHallModel" "ring" "[I", .methodLink RX2 41 yX2_take, .static yX2_take, .initialized RX2, .code yX2_take cX2_take 4 none] ++ wsX20)
def wsX2_drop : List Cond := .code yX2_drop cX2_drop 4 (some .boolean) :: ([.fieldLink RX2 13 "QueueHallModel" "ring" "[I", .fieldLink RX2 29 "QueueHallModel" "rings" "I", .methodLink RX2 45 yX2_place, .static yX2_place, .initialized RX2, .code yX2_place cX2_place 6 (some .int), .methodLink RX2 41 yX2_take, .static yX2_take, .code yX2_take cX2_take 4 none] ++ wsX20)
def wsX2_ring : List Cond := .code yX2_ring cX2_ring 3 (some .long) :: ([.fieldLink RX2 29 "QueueHallModel" "rings" "I", .constantLong RX2 39 (1099511627776), .fieldLink RX2 13 "QueueHallModel" "ring" "[I"] ++ wsX20)
def wsX2_sieve : List Cond := .code yX2_sieve cX2_sieve 5 (some .int) :: ([.fieldLink RX2 29 "QueueHallModel" "rings" "I", .fieldLink RX2 13 "QueueHallModel" "ring" "[I", .methodLink RX2 56 yJ9_floorMod_7cf53, .static yJ9_floorMod_7cf53, .initialized RJ9, .code yJ9_floorMod_7cf53 cJ9_floorMod_7cf53 3 (some .int)] ++ wsX20)
def wsX2_roll : List Cond := .code yX2_roll cX2_roll 4 (some .int) :: ([.fieldLink RX2 29 "QueueHallModel" "rings" "I", .fieldLink RX2 13 "QueueHallModel" "ring" "[I", .methodLink RX2 41 yX2_take, .static yX2_take, .initialized RX2, .code yX2_take cX2_take 4 none] ++ wsX20)
def wsX2_insert : List Cond := .code yX2_insert cX2_insert 3 (some .int) :: ([.fieldLink RX2 32 "QueueHallModel" "chains" "I", .fieldLink RX2 16 "QueueHallModel" "chain" "[I", .methodLink RX2 35 yX2_put, .static yX2_put, .initialized RX2, .code yX2_put cX2_put 5 none, .methodLink RX2 53 yX2_lift, .instanceMethod yX2_lift, .selects RX2 yX2_lift yX2_lift, .code yX2_lift cX2_lift 1 none, .fieldLink RX2 19 "QueueHallModel" "finger" "I", .fieldLink RX2 23 "QueueHallModel" "met" "I"] ++ wsX20)
def wsX2_change : List Cond := .code yX2_change cX2_change 5 (some .long) :: ([.fieldLink RX2 32 "QueueHallModel" "chains" "I", .constantLong RX2 39 (1099511627776), .fieldLink RX2 16 "QueueHallModel" "chain" "[I", .methodLink RX2 41 yX2_take, .static yX2_take, .initialized RX2, .code yX2_take cX2_take 4 none, .methodLink RX2 53 yX2_lift, .instanceMethod yX2_lift, .selects RX2 yX2_lift yX2_lift, .code yX2_lift cX2_lift 1 none, .fieldLink RX2 19 "QueueHallModel" "finger" "I", .fieldLink RX2 23 "QueueHallModel" "met" "I"] ++ wsX20)
def wsX2_chain : List Cond := .code yX2_chain cX2_chain 2 (some .long) :: ([.fieldLink RX2 32 "QueueHallModel" "chains" "I", .constantLong RX2 39 (1099511627776), .fieldLink RX2 16 "QueueHallModel" "chain" "[I"] ++ wsX20)
def wsX2_find : List Cond := .code yX2_find cX2_find 3 (some .int) :: ([.fieldLink RX2 16 "QueueHallModel" "chain" "[I", .fieldLink RX2 32 "QueueHallModel" "chains" "I", .methodLink RX2 45 yX2_place, .static yX2_place, .initialized RX2, .code yX2_place cX2_place 6 (some .int)] ++ wsX20)
def wsX2_unlink : List Cond := .code yX2_unlink cX2_unlink 3 (some .boolean) :: ([.fieldLink RX2 16 "QueueHallModel" "chain" "[I", .fieldLink RX2 32 "QueueHallModel" "chains" "I", .methodLink RX2 45 yX2_place, .static yX2_place, .initialized RX2, .code yX2_place cX2_place 6 (some .int), .methodLink RX2 41 yX2_take, .static yX2_take, .code yX2_take cX2_take 4 none, .methodLink RX2 53 yX2_lift, .instanceMethod yX2_lift, .selects RX2 yX2_lift yX2_lift, .code yX2_lift cX2_lift 1 none, .fieldLink RX2 19 "QueueHallModel" "finger" "I", .fieldLink RX2 23 "QueueHallModel" "met" "I"] ++ wsX20)
def wsX2_point : List Cond := .code yX2_point cX2_point 2 (some .int) :: ([.fieldLink RX2 32 "QueueHallModel" "chains" "I", .fieldLink RX2 19 "QueueHallModel" "finger" "I", .fieldLink RX2 23 "QueueHallModel" "met" "I"] ++ wsX20)
def wsX2_pass : List Cond := .code yX2_pass cX2_pass 2 (some .long) :: ([.fieldLink RX2 19 "QueueHallModel" "finger" "I", .fieldLink RX2 32 "QueueHallModel" "chains" "I", .constantLong RX2 39 (1099511627776), .fieldLink RX2 23 "QueueHallModel" "met" "I", .fieldLink RX2 16 "QueueHallModel" "chain" "[I"] ++ wsX20)
def wsX2_touch : List Cond := .code yX2_touch cX2_touch 3 (some .int) :: ([.fieldLink RX2 19 "QueueHallModel" "finger" "I", .fieldLink RX2 23 "QueueHallModel" "met" "I", .fieldLink RX2 16 "QueueHallModel" "chain" "[I", .fieldLink RX2 32 "QueueHallModel" "chains" "I", .methodLink RX2 41 yX2_take, .static yX2_take, .initialized RX2, .code yX2_take cX2_take 4 none, .methodLink RX2 35 yX2_put, .static yX2_put, .code yX2_put cX2_put 5 none] ++ wsX20)
def wsX2_finger : List Cond := .code yX2_finger cX2_finger 1 (some .int) :: ([.fieldLink RX2 19 "QueueHallModel" "finger" "I"] ++ wsX20)
def wsX2_empty : List Cond := .code yX2_empty cX2_empty 2 (some .int) :: ([.fieldLink RX2 29 "QueueHallModel" "rings" "I", .fieldLink RX2 26 "QueueHallModel" "halls" "I", .fieldLink RX2 13 "QueueHallModel" "ring" "[I", .fieldLink RX2 9 "QueueHallModel" "hall" "[I"] ++ wsX20)
def wsX2_hand : List Cond := .code yX2_hand cX2_hand 2 (some .int) :: ([.fieldLink RX2 29 "QueueHallModel" "rings" "I", .fieldLink RX2 32 "QueueHallModel" "chains" "I", .methodLink RX2 53 yX2_lift, .instanceMethod yX2_lift, .selects RX2 yX2_lift yX2_lift, .initialized RX2, .code yX2_lift cX2_lift 1 none, .fieldLink RX2 19 "QueueHallModel" "finger" "I", .fieldLink RX2 23 "QueueHallModel" "met" "I", .fieldLink RX2 13 "QueueHallModel" "ring" "[I", .fieldLink RX2 16 "QueueHallModel" "chain" "[I"] ++ wsX20)
abbrev vwCl : List vw_C := [(RX0, TX0, 2), (RX1, TX1, 5), (RX2, TX2, 8)]
end
section
/-! What links nest mates, as a premise that goes from state to state. -/
def qNf : List (String × Nat × String × String × String × String) := [(RX1, 37, "QueueHall$Row", "count", "I", "QueueHall")]
def qNm : List (String × Nat × MethodName × String) := [(RX1, 9, yX0_init, "QueueHall"), (RX1, 29, yX0_countBelow, "QueueHall"), (RX1, 33, yX0_put, "QueueHall"), (RX1, 40, yX0_at, "QueueHall"), (RX1, 44, yX0_take, "QueueHall"), (RX1, 47, yX0_firstPlace, "QueueHall"), (RX1, 56, yX0_wipe, "QueueHall"), (RX1, 63, yX0_lastPlace, "QueueHall"), (RX1, 66, yX0_hasPlace, "QueueHall"), (RX1, 70, yX0_takeRest, "QueueHall"), (RX1, 74, yX0_turn, "QueueHall"), (RX1, 77, yX0_hasPlaceOrEnd, "QueueHall"), (RX1, 80, yX0_swap, "QueueHall"), (RX1, 93, yX0_takeAll, "QueueHall")]
def qNest (U : State) : Prop := (∀ q ∈ qNf, va_Nw (.fieldLinkNest q.1 q.2.1 q.2.2.1 q.2.2.2.1 q.2.2.2.2.1 q.2.2.2.2.2) U) ∧ ∀ q ∈ qNm, va_Nw (.methodLinkNest q.1 q.2.1 q.2.2.1 q.2.2.2) U
theorem qNest.warm {s U : State} (h : qNest s) (hW : s.WarmedH U.vm) : qNest U := ⟨fun q hq => va_Nw.warmF hW (h.1 q hq), fun q hq => va_Nw.warmM hW (h.2 q hq)⟩
theorem qNest.same {u U : State} (hN : qNest u) (h : u.vm = U.vm) : qNest U := ⟨fun q hq => va_Nw.same rfl h (hN.1 q hq), fun q hq => va_Nw.same rfl h (hN.2 q hq)⟩
theorem qN_count {A : Array Value} {U : State} (h : qNest U) : (Cond.fieldLinkNest RX1 37 "QueueHall$Row" "count" "I" "QueueHall").before A U = true := va_Nw.use rfl (h.1 (RX1, 37, "QueueHall$Row", "count", "I", "QueueHall") (List.mem_of_getElem? (i := 0) rfl))
theorem qN_init {U : State} (h : qNest U) : va_Nw (.methodLinkNest RX1 9 yX0_init "QueueHall") U := h.2 (RX1, 9, yX0_init, "QueueHall") (List.mem_of_getElem? (i := 0) rfl)
theorem qN_countBelow {U : State} (h : qNest U) : va_Nw (.methodLinkNest RX1 29 yX0_countBelow "QueueHall") U := h.2 (RX1, 29, yX0_countBelow, "QueueHall") (List.mem_of_getElem? (i := 1) rfl)
theorem qN_put {U : State} (h : qNest U) : va_Nw (.methodLinkNest RX1 33 yX0_put "QueueHall") U := h.2 (RX1, 33, yX0_put, "QueueHall") (List.mem_of_getElem? (i := 2) rfl)
theorem qN_at {U : State} (h : qNest U) : va_Nw (.methodLinkNest RX1 40 yX0_at "QueueHall") U := h.2 (RX1, 40, yX0_at, "QueueHall") (List.mem_of_getElem? (i := 3) rfl)
theorem qN_take {U : State} (h : qNest U) : va_Nw (.methodLinkNest RX1 44 yX0_take "QueueHall") U := h.2 (RX1, 44, yX0_take, "QueueHall") (List.mem_of_getElem? (i := 4) rfl)
theorem qN_firstPlace {U : State} (h : qNest U) : va_Nw (.methodLinkNest RX1 47 yX0_firstPlace "QueueHall") U := h.2 (RX1, 47, yX0_firstPlace, "QueueHall") (List.mem_of_getElem? (i := 5) rfl)
theorem qN_wipe {U : State} (h : qNest U) : va_Nw (.methodLinkNest RX1 56 yX0_wipe "QueueHall") U := h.2 (RX1, 56, yX0_wipe, "QueueHall") (List.mem_of_getElem? (i := 6) rfl)
theorem qN_lastPlace {U : State} (h : qNest U) : va_Nw (.methodLinkNest RX1 63 yX0_lastPlace "QueueHall") U := h.2 (RX1, 63, yX0_lastPlace, "QueueHall") (List.mem_of_getElem? (i := 7) rfl)
theorem qN_hasPlace {U : State} (h : qNest U) : va_Nw (.methodLinkNest RX1 66 yX0_hasPlace "QueueHall") U := h.2 (RX1, 66, yX0_hasPlace, "QueueHall") (List.mem_of_getElem? (i := 8) rfl)
theorem qN_takeRest {U : State} (h : qNest U) : va_Nw (.methodLinkNest RX1 70 yX0_takeRest "QueueHall") U := h.2 (RX1, 70, yX0_takeRest, "QueueHall") (List.mem_of_getElem? (i := 9) rfl)
theorem qN_turn {U : State} (h : qNest U) : va_Nw (.methodLinkNest RX1 74 yX0_turn "QueueHall") U := h.2 (RX1, 74, yX0_turn, "QueueHall") (List.mem_of_getElem? (i := 10) rfl)
theorem qN_hasPlaceOrEnd {U : State} (h : qNest U) : va_Nw (.methodLinkNest RX1 77 yX0_hasPlaceOrEnd "QueueHall") U := h.2 (RX1, 77, yX0_hasPlaceOrEnd, "QueueHall") (List.mem_of_getElem? (i := 11) rfl)
theorem qN_swap {U : State} (h : qNest U) : va_Nw (.methodLinkNest RX1 80 yX0_swap "QueueHall") U := h.2 (RX1, 80, yX0_swap, "QueueHall") (List.mem_of_getElem? (i := 12) rfl)
theorem qN_takeAll {U : State} (h : qNest U) : va_Nw (.methodLinkNest RX1 93 yX0_takeAll "QueueHall") U := h.2 (RX1, 93, yX0_takeAll, "QueueHall") (List.mem_of_getElem? (i := 13) rfl)
theorem q_blRN {D : va_G} {cl : List vw_C} {tys : List (ClassId × FieldType)} {ws : va_W} {av : List Value} : FrameBlind (va_Pc av (fun U => va_P D cl ws U.heap ∧ va_K D cl tys U ∧ qNest U)) := fun a U g mk q => by
  obtain ⟨q1, qP, qK, qN⟩ := q
  exact ⟨q1, qP, va_K.moved (u := U) (U := U.calling g mk a) (Vm.Alike.refl U.vm) qK, qN.same rfl⟩
theorem q_blWN {D : va_G} {cl : List vw_C} {tys : List (ClassId × FieldType)} {ws : va_W} {av : List Value} {sz : Nat} {A : Nat → Prop} : FrameBlind (va_Pc av (fun U => U.heap.size = sz ∧ va_P D cl ws U.heap ∧ va_K D cl tys U ∧ va_D A ws ∧ qNest U)) := fun a U g mk q => by
  obtain ⟨q0, q1, qP, qK, qD, qN⟩ := q
  exact ⟨q0, q1, qP, va_K.moved (u := U) (U := U.calling g mk a) (Vm.Alike.refl U.vm) qK, qD, qN.same rfl⟩
end
section
/-! The cells behind a method: a row; two rows; a hall; the reference. -/
abbrev at_Row (dC : Nat → ClassId) (dI : Nat → Nat → Nat) (A : Nat → Prop) (h0 h1 : Nat) (cA : ClassId) (u : qR) (t : State) : Prop := match u with
  | (g, n) => ∃ f : Nat → Int32, qAg n f g ∧ va_P (dC, dI) vwCl [(h0, .inr (0, [.ref h1, .int (nI n)])), (h1, .inl (cA, 2100, .inl f))] t.heap ∧ va_K (dC, dI) vwCl [(cA, .int)] t ∧ va_D A [(h0, .inr (0, [.ref h1, .int (nI n)])), (h1, .inl (cA, 2100, .inl f))]
abbrev at_Row2 (dC : Nat → ClassId) (dI : Nat → Nat → Nat) (A : Nat → Prop) (h0 h1 o0 o1 : Nat) (cA : ClassId) (u : qR × qR) (t : State) : Prop := match u with
  | ((g, n), (go, q)) => ∃ f fo : Nat → Int32, qAg n f g ∧ qAg q fo go ∧ va_P (dC, dI) vwCl [(h0, .inr (0, [.ref h1, .int (nI n)])), (h1, .inl (cA, 2100, .inl f)), (o0, .inr (0, [.ref o1, .int (nI q)])), (o1, .inl (cA, 2100, .inl fo))] t.heap ∧ va_K (dC, dI) vwCl [(cA, .int)] t ∧ va_D A [(h0, .inr (0, [.ref h1, .int (nI n)])), (h1, .inl (cA, 2100, .inl f)), (o0, .inr (0, [.ref o1, .int (nI q)])), (o1, .inl (cA, 2100, .inl fo))]
abbrev at_RowI (dC : Nat → ClassId) (dI : Nat → Nat → Nat) (A : Nat → Prop) (h0 : Nat) (u : ClassId × Nat) (t : State) : Prop := match u with
  | (cA, q) => va_P (dC, dI) vwCl [(h0, .inr (0, [.ref q, .int (nI 0)])), (q, .inl (cA, 2100, .inl (fun _ => 0)))] t.heap ∧ va_K (dC, dI) vwCl [(cA, .int)] t ∧ va_D A [(h0, .inr (0, [.ref q, .int (nI 0)])), (q, .inl (cA, 2100, .inl (fun _ => 0)))]
abbrev at_H (dC : Nat → ClassId) (dI : Nat → Nat → Nat) (A : Nat → Prop) (x0 a1 b1 a2 b2 a3 b3 : Nat) (cA : ClassId) (u : qS) (t : State) : Prop := match u with
  | ((gh, nh), (gr, nr), (gk, nk), fi, me) => ∃ fh fr fk : Nat → Int32, qAg nh fh gh ∧ qAg nr fr gr ∧ qAg nk fk gk ∧ va_P (dC, dI) vwCl [(x0, .inr (1, [.ref a1, .ref a2, .ref a3, .int fi, .int me])), (a1, .inr (0, [.ref b1, .int (nI nh)])), (b1, .inl (cA, 2100, .inl fh)), (a2, .inr (0, [.ref b2, .int (nI nr)])), (b2, .inl (cA, 2100, .inl fr)), (a3, .inr (0, [.ref b3, .int (nI nk)])), (b3, .inl (cA, 2100, .inl fk))] t.heap ∧ va_K (dC, dI) vwCl [(cA, .int)] t ∧ va_D A [(x0, .inr (1, [.ref a1, .ref a2, .ref a3, .int fi, .int me])), (a1, .inr (0, [.ref b1, .int (nI nh)])), (b1, .inl (cA, 2100, .inl fh)), (a2, .inr (0, [.ref b2, .int (nI nr)])), (b2, .inl (cA, 2100, .inl fr)), (a3, .inr (0, [.ref b3, .int (nI nk)])), (b3, .inl (cA, 2100, .inl fk))]
abbrev at_X (dC : Nat → ClassId) (dI : Nat → Nat → Nat) (A : Nat → Prop) (x0 a1 a2 a3 : Nat) (u : Unit) (t : State) : Prop := match u with
  | _ => va_P (dC, dI) vwCl [(x0, .inr (1, [.ref a1, .ref a2, .ref a3, .int (-1), .int (-1)]))] t.heap ∧ va_K (dC, dI) vwCl [] t ∧ va_D A [(x0, .inr (1, [.ref a1, .ref a2, .ref a3, .int (-1), .int (-1)]))]
abbrev at_HI (dC : Nat → ClassId) (dI : Nat → Nat → Nat) (A : Nat → Prop) (x0 : Nat) (u : ClassId × Nat × Nat × Nat × Nat × Nat × Nat) (t : State) : Prop := match u with
  | (cA, a1, b1, a2, b2, a3, b3) => va_P (dC, dI) vwCl [(x0, .inr (1, [.ref a1, .ref a2, .ref a3, .int (-1), .int (-1)])), (a1, .inr (0, [.ref b1, .int (nI 0)])), (b1, .inl (cA, 2100, .inl (fun _ => 0))), (a2, .inr (0, [.ref b2, .int (nI 0)])), (b2, .inl (cA, 2100, .inl (fun _ => 0))), (a3, .inr (0, [.ref b3, .int (nI 0)])), (b3, .inl (cA, 2100, .inl (fun _ => 0)))] t.heap ∧ va_K (dC, dI) vwCl [(cA, .int)] t ∧ va_D A [(x0, .inr (1, [.ref a1, .ref a2, .ref a3, .int (-1), .int (-1)])), (a1, .inr (0, [.ref b1, .int (nI 0)])), (b1, .inl (cA, 2100, .inl (fun _ => 0))), (a2, .inr (0, [.ref b2, .int (nI 0)])), (b2, .inl (cA, 2100, .inl (fun _ => 0))), (a3, .inr (0, [.ref b3, .int (nI 0)])), (b3, .inl (cA, 2100, .inl (fun _ => 0)))]
abbrev at_Arr (dC : Nat → ClassId) (dI : Nat → Nat → Nat) (A : Nat → Prop) (h1 : Nat) (cA : ClassId) (u : qR) (t : State) : Prop := match u with
  | (g, n) => ∃ f : Nat → Int32, qAg n f g ∧ va_P (dC, dI) vwCl [(h1, .inl (cA, 2000, .inl f))] t.heap ∧ va_K (dC, dI) vwCl [(cA, .int)] t ∧ va_D A [(h1, .inl (cA, 2000, .inl f))]
abbrev at_M (dC : Nat → ClassId) (dI : Nat → Nat → Nat) (A : Nat → Prop) (m0 c1 c2 c3 : Nat) (cA : ClassId) (u : qS) (t : State) : Prop := match u with
  | ((gh, nh), (gr, nr), (gk, nk), fi, me) => ∃ eh er ek : Nat → Int32, qAg nh eh gh ∧ qAg nr er gr ∧ qAg nk ek gk ∧ va_P (dC, dI) vwCl [(m0, .inr (2, [.ref c1, .ref c2, .ref c3, .int (nI nh), .int (nI nr), .int (nI nk), .int fi, .int me])), (c1, .inl (cA, 2000, .inl eh)), (c2, .inl (cA, 2000, .inl er)), (c3, .inl (cA, 2000, .inl ek))] t.heap ∧ va_K (dC, dI) vwCl [(cA, .int)] t ∧ va_D A [(m0, .inr (2, [.ref c1, .ref c2, .ref c3, .int (nI nh), .int (nI nr), .int (nI nk), .int fi, .int me])), (c1, .inl (cA, 2000, .inl eh)), (c2, .inl (cA, 2000, .inl er)), (c3, .inl (cA, 2000, .inl ek))]
abbrev at_M1 (dC : Nat → ClassId) (dI : Nat → Nat → Nat) (A : Nat → Prop) (m0 c1 c2 c3 nh nr nk : Nat) (u : Unit) (t : State) : Prop := match u with
  | _ => va_P (dC, dI) vwCl [(m0, .inr (2, [.ref c1, .ref c2, .ref c3, .int (nI nh), .int (nI nr), .int (nI nk), .int (-1), .int (-1)]))] t.heap ∧ va_K (dC, dI) vwCl [] t ∧ va_D A [(m0, .inr (2, [.ref c1, .ref c2, .ref c3, .int (nI nh), .int (nI nr), .int (nI nk), .int (-1), .int (-1)]))]
abbrev at_MI (dC : Nat → ClassId) (dI : Nat → Nat → Nat) (A : Nat → Prop) (m0 : Nat) (u : ClassId × Nat × Nat × Nat) (t : State) : Prop := match u with
  | (cA, c1, c2, c3) => va_P (dC, dI) vwCl [(m0, .inr (2, [.ref c1, .ref c2, .ref c3, .int (nI 0), .int (nI 0), .int (nI 0), .int (-1), .int (-1)])), (c1, .inl (cA, 2000, .inl (fun _ => 0))), (c2, .inl (cA, 2000, .inl (fun _ => 0))), (c3, .inl (cA, 2000, .inl (fun _ => 0)))] t.heap ∧ va_K (dC, dI) vwCl [(cA, .int)] t ∧ va_D A [(m0, .inr (2, [.ref c1, .ref c2, .ref c3, .int (nI 0), .int (nI 0), .int (nI 0), .int (-1), .int (-1)])), (c1, .inl (cA, 2000, .inl (fun _ => 0))), (c2, .inl (cA, 2000, .inl (fun _ => 0))), (c3, .inl (cA, 2000, .inl (fun _ => 0)))]
end
section
theorem dX0_init_0 : decode cX0_init 0 = .ok (.aload_n 0, 1) := by decide +kernel
theorem dX0_init_1 : decode cX0_init 1 = .ok (.invokespecial 3, 3) := by decide +kernel
theorem dX0_init_4 : decode cX0_init 4 = .ok (.aload_n 0, 1) := by decide +kernel
theorem dX0_init_5 : decode cX0_init 5 = .ok (.sipush 2100, 3) := by decide +kernel
theorem dX0_init_8 : decode cX0_init 8 = .ok (.newarray .int, 2) := by decide +kernel
theorem dX0_init_10 : decode cX0_init 10 = .ok (.putfield 9, 3) := by decide +kernel
theorem dX0_init_13 : decode cX0_init 13 = .ok (.aload_n 0, 1) := by decide +kernel
theorem dX0_init_14 : decode cX0_init 14 = .ok (.iconst 0, 1) := by decide +kernel
theorem dX0_init_15 : decode cX0_init 15 = .ok (.putfield 15, 3) := by decide +kernel
theorem dX0_init_18 : decode cX0_init 18 = .ok (.return_, 1) := by decide +kernel
theorem dX0_hasPlace_0 : decode cX0_hasPlace 0 = .ok (.iload_n 1, 1) := by decide +kernel
theorem dX0_hasPlace_1 : decode cX0_hasPlace 1 = .ok (.ifCond .lt 15, 3) := by decide +kernel
theorem dX0_hasPlace_4 : decode cX0_hasPlace 4 = .ok (.iload_n 1, 1) := by decide +kernel
theorem dX0_hasPlace_5 : decode cX0_hasPlace 5 = .ok (.aload_n 0, 1) := by decide +kernel
theorem dX0_hasPlace_6 : decode cX0_hasPlace 6 = .ok (.getfield 15, 3) := by decide +kernel
theorem dX0_hasPlace_9 : decode cX0_hasPlace 9 = .ok (.if_icmp .ge 7, 3) := by decide +kernel
theorem dX0_hasPlace_12 : decode cX0_hasPlace 12 = .ok (.iconst 1, 1) := by decide +kernel
theorem dX0_hasPlace_13 : decode cX0_hasPlace 13 = .ok (.goto 4, 3) := by decide +kernel
theorem dX0_hasPlace_16 : decode cX0_hasPlace 16 = .ok (.iconst 0, 1) := by decide +kernel
theorem dX0_hasPlace_17 : decode cX0_hasPlace 17 = .ok (.ireturn, 1) := by decide +kernel
theorem dX0_hasPlaceOrEnd_0 : decode cX0_hasPlaceOrEnd 0 = .ok (.iload_n 1, 1) := by decide +kernel
theorem dX0_hasPlaceOrEnd_1 : decode cX0_hasPlaceOrEnd 1 = .ok (.ifCond .lt 15, 3) := by decide +kernel
theorem dX0_hasPlaceOrEnd_4 : decode cX0_hasPlaceOrEnd 4 = .ok (.iload_n 1, 1) := by decide +kernel
theorem dX0_hasPlaceOrEnd_5 : decode cX0_hasPlaceOrEnd 5 = .ok (.aload_n 0, 1) := by decide +kernel
theorem dX0_hasPlaceOrEnd_6 : decode cX0_hasPlaceOrEnd 6 = .ok (.getfield 15, 3) := by decide +kernel
theorem dX0_hasPlaceOrEnd_9 : decode cX0_hasPlaceOrEnd 9 = .ok (.if_icmp .gt 7, 3) := by decide +kernel
theorem dX0_hasPlaceOrEnd_12 : decode cX0_hasPlaceOrEnd 12 = .ok (.iconst 1, 1) := by decide +kernel
theorem dX0_hasPlaceOrEnd_13 : decode cX0_hasPlaceOrEnd 13 = .ok (.goto 4, 3) := by decide +kernel
theorem dX0_hasPlaceOrEnd_16 : decode cX0_hasPlaceOrEnd 16 = .ok (.iconst 0, 1) := by decide +kernel
theorem dX0_hasPlaceOrEnd_17 : decode cX0_hasPlaceOrEnd 17 = .ok (.ireturn, 1) := by decide +kernel
theorem dX0_at_0 : decode cX0_at 0 = .ok (.aload_n 0, 1) := by decide +kernel
theorem dX0_at_1 : decode cX0_at 1 = .ok (.iload_n 1, 1) := by decide +kernel
theorem dX0_at_2 : decode cX0_at 2 = .ok (.invokevirtual 19, 3) := by decide +kernel
theorem dX0_at_5 : decode cX0_at 5 = .ok (.ifCond .eq 13, 3) := by decide +kernel
theorem dX0_at_8 : decode cX0_at 8 = .ok (.aload_n 0, 1) := by decide +kernel
theorem dX0_at_9 : decode cX0_at 9 = .ok (.getfield 9, 3) := by decide +kernel
theorem dX0_at_12 : decode cX0_at 12 = .ok (.iload_n 1, 1) := by decide +kernel
theorem dX0_at_13 : decode cX0_at 13 = .ok (.iaload, 1) := by decide +kernel
theorem dX0_at_14 : decode cX0_at 14 = .ok (.i2l, 1) := by decide +kernel
theorem dX0_at_15 : decode cX0_at 15 = .ok (.goto 6, 3) := by decide +kernel
theorem dX0_at_18 : decode cX0_at 18 = .ok (.ldc2_w 23, 3) := by decide +kernel
theorem dX0_at_21 : decode cX0_at 21 = .ok (.lreturn, 1) := by decide +kernel
theorem dX0_put_0 : decode cX0_put 0 = .ok (.aload_n 0, 1) := by decide +kernel
theorem dX0_put_1 : decode cX0_put 1 = .ok (.getfield 15, 3) := by decide +kernel
theorem dX0_put_4 : decode cX0_put 4 = .ok (.sipush 2000, 3) := by decide +kernel
theorem dX0_put_7 : decode cX0_put 7 = .ok (.if_icmp .ge 11, 3) := by decide +kernel
theorem dX0_put_10 : decode cX0_put 10 = .ok (.aload_n 0, 1) := by decide +kernel
theorem dX0_put_11 : decode cX0_put 11 = .ok (.iload_n 1, 1) := by decide +kernel
theorem dX0_put_12 : decode cX0_put 12 = .ok (.invokevirtual 25, 3) := by decide +kernel
theorem dX0_put_15 : decode cX0_put 15 = .ok (.ifCond .ne 5, 3) := by decide +kernel
theorem dX0_put_18 : decode cX0_put 18 = .ok (.iconst 0, 1) := by decide +kernel
theorem dX0_put_19 : decode cX0_put 19 = .ok (.ireturn, 1) := by decide +kernel
theorem dX0_put_20 : decode cX0_put 20 = .ok (.aload_n 0, 1) := by decide +kernel
theorem dX0_put_21 : decode cX0_put 21 = .ok (.getfield 9, 3) := by decide +kernel
theorem dX0_put_24 : decode cX0_put 24 = .ok (.iload_n 1, 1) := by decide +kernel
theorem dX0_put_25 : decode cX0_put 25 = .ok (.aload_n 0, 1) := by decide +kernel
theorem dX0_put_26 : decode cX0_put 26 = .ok (.getfield 9, 3) := by decide +kernel
theorem dX0_put_29 : decode cX0_put 29 = .ok (.iload_n 1, 1) := by decide +kernel
theorem dX0_put_30 : decode cX0_put 30 = .ok (.iconst 1, 1) := by decide +kernel
theorem dX0_put_31 : decode cX0_put 31 = .ok (.iadd, 1) := by decide +kernel
theorem dX0_put_32 : decode cX0_put 32 = .ok (.aload_n 0, 1) := by decide +kernel
theorem dX0_put_33 : decode cX0_put 33 = .ok (.getfield 15, 3) := by decide +kernel
theorem dX0_put_36 : decode cX0_put 36 = .ok (.iload_n 1, 1) := by decide +kernel
theorem dX0_put_37 : decode cX0_put 37 = .ok (.isub, 1) := by decide +kernel
theorem dX0_put_38 : decode cX0_put 38 = .ok (.invokestatic 28, 3) := by decide +kernel
theorem dX0_put_41 : decode cX0_put 41 = .ok (.aload_n 0, 1) := by decide +kernel
theorem dX0_put_42 : decode cX0_put 42 = .ok (.getfield 9, 3) := by decide +kernel
theorem dX0_put_45 : decode cX0_put 45 = .ok (.iload_n 1, 1) := by decide +kernel
theorem dX0_put_46 : decode cX0_put 46 = .ok (.iload_n 2, 1) := by decide +kernel
theorem dX0_put_47 : decode cX0_put 47 = .ok (.iastore, 1) := by decide +kernel
theorem dX0_put_48 : decode cX0_put 48 = .ok (.aload_n 0, 1) := by decide +kernel
theorem dX0_put_49 : decode cX0_put 49 = .ok (.dup, 1) := by decide +kernel
theorem dX0_put_50 : decode cX0_put 50 = .ok (.getfield 15, 3) := by decide +kernel
theorem dX0_put_53 : decode cX0_put 53 = .ok (.iconst 1, 1) := by decide +kernel
theorem dX0_put_54 : decode cX0_put 54 = .ok (.iadd, 1) := by decide +kernel
theorem dX0_put_55 : decode cX0_put 55 = .ok (.putfield 15, 3) := by decide +kernel
theorem dX0_put_58 : decode cX0_put 58 = .ok (.iconst 1, 1) := by decide +kernel
theorem dX0_put_59 : decode cX0_put 59 = .ok (.ireturn, 1) := by decide +kernel
theorem dX0_take_0 : decode cX0_take 0 = .ok (.aload_n 0, 1) := by decide +kernel
theorem dX0_take_1 : decode cX0_take 1 = .ok (.iload_n 1, 1) := by decide +kernel
theorem dX0_take_2 : decode cX0_take 2 = .ok (.invokevirtual 19, 3) := by decide +kernel
theorem dX0_take_5 : decode cX0_take 5 = .ok (.ifCond .ne 7, 3) := by decide +kernel
theorem dX0_take_8 : decode cX0_take 8 = .ok (.ldc2_w 23, 3) := by decide +kernel
theorem dX0_take_11 : decode cX0_take 11 = .ok (.lreturn, 1) := by decide +kernel
theorem dX0_take_12 : decode cX0_take 12 = .ok (.aload_n 0, 1) := by decide +kernel
theorem dX0_take_13 : decode cX0_take 13 = .ok (.getfield 9, 3) := by decide +kernel
theorem dX0_take_16 : decode cX0_take 16 = .ok (.iload_n 1, 1) := by decide +kernel
theorem dX0_take_17 : decode cX0_take 17 = .ok (.iaload, 1) := by decide +kernel
theorem dX0_take_18 : decode cX0_take 18 = .ok (.istore_n 2, 1) := by decide +kernel
theorem dX0_take_19 : decode cX0_take 19 = .ok (.aload_n 0, 1) := by decide +kernel
theorem dX0_take_20 : decode cX0_take 20 = .ok (.dup, 1) := by decide +kernel
theorem dX0_take_21 : decode cX0_take 21 = .ok (.getfield 15, 3) := by decide +kernel
theorem dX0_take_24 : decode cX0_take 24 = .ok (.iconst 1, 1) := by decide +kernel
theorem dX0_take_25 : decode cX0_take 25 = .ok (.isub, 1) := by decide +kernel
theorem dX0_take_26 : decode cX0_take 26 = .ok (.putfield 15, 3) := by decide +kernel
theorem dX0_take_29 : decode cX0_take 29 = .ok (.aload_n 0, 1) := by decide +kernel
theorem dX0_take_30 : decode cX0_take 30 = .ok (.getfield 9, 3) := by decide +kernel
theorem dX0_take_33 : decode cX0_take 33 = .ok (.iload_n 1, 1) := by decide +kernel
theorem dX0_take_34 : decode cX0_take 34 = .ok (.iconst 1, 1) := by decide +kernel
theorem dX0_take_35 : decode cX0_take 35 = .ok (.iadd, 1) := by decide +kernel
theorem dX0_take_36 : decode cX0_take 36 = .ok (.aload_n 0, 1) := by decide +kernel
theorem dX0_take_37 : decode cX0_take 37 = .ok (.getfield 9, 3) := by decide +kernel
theorem dX0_take_40 : decode cX0_take 40 = .ok (.iload_n 1, 1) := by decide +kernel
theorem dX0_take_41 : decode cX0_take 41 = .ok (.aload_n 0, 1) := by decide +kernel
theorem dX0_take_42 : decode cX0_take 42 = .ok (.getfield 15, 3) := by decide +kernel
theorem dX0_take_45 : decode cX0_take 45 = .ok (.iload_n 1, 1) := by decide +kernel
theorem dX0_take_46 : decode cX0_take 46 = .ok (.isub, 1) := by decide +kernel
theorem dX0_take_47 : decode cX0_take 47 = .ok (.invokestatic 28, 3) := by decide +kernel
theorem dX0_take_50 : decode cX0_take 50 = .ok (.iload_n 2, 1) := by decide +kernel
theorem dX0_take_51 : decode cX0_take 51 = .ok (.i2l, 1) := by decide +kernel
theorem dX0_take_52 : decode cX0_take 52 = .ok (.lreturn, 1) := by decide +kernel
theorem dX0_swap_0 : decode cX0_swap 0 = .ok (.aload_n 0, 1) := by decide +kernel
theorem dX0_swap_1 : decode cX0_swap 1 = .ok (.iload_n 1, 1) := by decide +kernel
theorem dX0_swap_2 : decode cX0_swap 2 = .ok (.invokevirtual 19, 3) := by decide +kernel
theorem dX0_swap_5 : decode cX0_swap 5 = .ok (.ifCond .ne 7, 3) := by decide +kernel
theorem dX0_swap_8 : decode cX0_swap 8 = .ok (.ldc2_w 23, 3) := by decide +kernel
theorem dX0_swap_11 : decode cX0_swap 11 = .ok (.lreturn, 1) := by decide +kernel
theorem dX0_swap_12 : decode cX0_swap 12 = .ok (.aload_n 0, 1) := by decide +kernel
theorem dX0_swap_13 : decode cX0_swap 13 = .ok (.getfield 9, 3) := by decide +kernel
theorem dX0_swap_16 : decode cX0_swap 16 = .ok (.iload_n 1, 1) := by decide +kernel
theorem dX0_swap_17 : decode cX0_swap 17 = .ok (.iaload, 1) := by decide +kernel
theorem dX0_swap_18 : decode cX0_swap 18 = .ok (.istore_n 3, 1) := by decide +kernel
theorem dX0_swap_19 : decode cX0_swap 19 = .ok (.aload_n 0, 1) := by decide +kernel
theorem dX0_swap_20 : decode cX0_swap 20 = .ok (.getfield 9, 3) := by decide +kernel
theorem dX0_swap_23 : decode cX0_swap 23 = .ok (.iload_n 1, 1) := by decide +kernel
theorem dX0_swap_24 : decode cX0_swap 24 = .ok (.iload_n 2, 1) := by decide +kernel
theorem dX0_swap_25 : decode cX0_swap 25 = .ok (.iastore, 1) := by decide +kernel
theorem dX0_swap_26 : decode cX0_swap 26 = .ok (.iload_n 3, 1) := by decide +kernel
theorem dX0_swap_27 : decode cX0_swap 27 = .ok (.i2l, 1) := by decide +kernel
theorem dX0_swap_28 : decode cX0_swap 28 = .ok (.lreturn, 1) := by decide +kernel
theorem dX0_wipe_0 : decode cX0_wipe 0 = .ok (.aload_n 0, 1) := by decide +kernel
theorem dX0_wipe_1 : decode cX0_wipe 1 = .ok (.getfield 15, 3) := by decide +kernel
theorem dX0_wipe_4 : decode cX0_wipe 4 = .ok (.istore_n 1, 1) := by decide +kernel
theorem dX0_wipe_5 : decode cX0_wipe 5 = .ok (.aload_n 0, 1) := by decide +kernel
theorem dX0_wipe_6 : decode cX0_wipe 6 = .ok (.iconst 0, 1) := by decide +kernel
theorem dX0_wipe_7 : decode cX0_wipe 7 = .ok (.putfield 15, 3) := by decide +kernel
theorem dX0_wipe_10 : decode cX0_wipe 10 = .ok (.iload_n 1, 1) := by decide +kernel
theorem dX0_wipe_11 : decode cX0_wipe 11 = .ok (.ireturn, 1) := by decide +kernel
theorem dX0_firstPlace_0 : decode cX0_firstPlace 0 = .ok (.iconst 0, 1) := by decide +kernel
theorem dX0_firstPlace_1 : decode cX0_firstPlace 1 = .ok (.istore_n 2, 1) := by decide +kernel
theorem dX0_firstPlace_2 : decode cX0_firstPlace 2 = .ok (.iload_n 2, 1) := by decide +kernel
theorem dX0_firstPlace_3 : decode cX0_firstPlace 3 = .ok (.aload_n 0, 1) := by decide +kernel
theorem dX0_firstPlace_4 : decode cX0_firstPlace 4 = .ok (.getfield 15, 3) := by decide +kernel
theorem dX0_firstPlace_7 : decode cX0_firstPlace 7 = .ok (.if_icmp .ge 21, 3) := by decide +kernel
theorem dX0_firstPlace_10 : decode cX0_firstPlace 10 = .ok (.aload_n 0, 1) := by decide +kernel
theorem dX0_firstPlace_11 : decode cX0_firstPlace 11 = .ok (.getfield 9, 3) := by decide +kernel
theorem dX0_firstPlace_14 : decode cX0_firstPlace 14 = .ok (.iload_n 2, 1) := by decide +kernel
theorem dX0_firstPlace_15 : decode cX0_firstPlace 15 = .ok (.iaload, 1) := by decide +kernel
theorem dX0_firstPlace_16 : decode cX0_firstPlace 16 = .ok (.iload_n 1, 1) := by decide +kernel
theorem dX0_firstPlace_17 : decode cX0_firstPlace 17 = .ok (.if_icmp .ne 5, 3) := by decide +kernel
theorem dX0_firstPlace_20 : decode cX0_firstPlace 20 = .ok (.iload_n 2, 1) := by decide +kernel
theorem dX0_firstPlace_21 : decode cX0_firstPlace 21 = .ok (.ireturn, 1) := by decide +kernel
theorem dX0_firstPlace_22 : decode cX0_firstPlace 22 = .ok (.iinc 2 1, 3) := by decide +kernel
theorem dX0_firstPlace_25 : decode cX0_firstPlace 25 = .ok (.goto (-23), 3) := by decide +kernel
theorem dX0_firstPlace_28 : decode cX0_firstPlace 28 = .ok (.iconst (-1), 1) := by decide +kernel
theorem dX0_firstPlace_29 : decode cX0_firstPlace 29 = .ok (.ireturn, 1) := by decide +kernel
theorem dX0_lastPlace_0 : decode cX0_lastPlace 0 = .ok (.aload_n 0, 1) := by decide +kernel
theorem dX0_lastPlace_1 : decode cX0_lastPlace 1 = .ok (.getfield 15, 3) := by decide +kernel
theorem dX0_lastPlace_4 : decode cX0_lastPlace 4 = .ok (.iconst 1, 1) := by decide +kernel
theorem dX0_lastPlace_5 : decode cX0_lastPlace 5 = .ok (.isub, 1) := by decide +kernel
theorem dX0_lastPlace_6 : decode cX0_lastPlace 6 = .ok (.istore_n 2, 1) := by decide +kernel
theorem dX0_lastPlace_7 : decode cX0_lastPlace 7 = .ok (.iload_n 2, 1) := by decide +kernel
theorem dX0_lastPlace_8 : decode cX0_lastPlace 8 = .ok (.ifCond .lt 21, 3) := by decide +kernel
theorem dX0_lastPlace_11 : decode cX0_lastPlace 11 = .ok (.aload_n 0, 1) := by decide +kernel
theorem dX0_lastPlace_12 : decode cX0_lastPlace 12 = .ok (.getfield 9, 3) := by decide +kernel
theorem dX0_lastPlace_15 : decode cX0_lastPlace 15 = .ok (.iload_n 2, 1) := by decide +kernel
theorem dX0_lastPlace_16 : decode cX0_lastPlace 16 = .ok (.iaload, 1) := by decide +kernel
theorem dX0_lastPlace_17 : decode cX0_lastPlace 17 = .ok (.iload_n 1, 1) := by decide +kernel
theorem dX0_lastPlace_18 : decode cX0_lastPlace 18 = .ok (.if_icmp .ne 5, 3) := by decide +kernel
theorem dX0_lastPlace_21 : decode cX0_lastPlace 21 = .ok (.iload_n 2, 1) := by decide +kernel
theorem dX0_lastPlace_22 : decode cX0_lastPlace 22 = .ok (.ireturn, 1) := by decide +kernel
theorem dX0_lastPlace_23 : decode cX0_lastPlace 23 = .ok (.iinc 2 (-1), 3) := by decide +kernel
theorem dX0_lastPlace_26 : decode cX0_lastPlace 26 = .ok (.goto (-19), 3) := by decide +kernel
theorem dX0_lastPlace_29 : decode cX0_lastPlace 29 = .ok (.iconst (-1), 1) := by decide +kernel
theorem dX0_lastPlace_30 : decode cX0_lastPlace 30 = .ok (.ireturn, 1) := by decide +kernel
theorem dX0_countBelow_0 : decode cX0_countBelow 0 = .ok (.iconst 0, 1) := by decide +kernel
theorem dX0_countBelow_1 : decode cX0_countBelow 1 = .ok (.istore_n 2, 1) := by decide +kernel
theorem dX0_countBelow_2 : decode cX0_countBelow 2 = .ok (.iconst 0, 1) := by decide +kernel
theorem dX0_countBelow_3 : decode cX0_countBelow 3 = .ok (.istore_n 3, 1) := by decide +kernel
theorem dX0_countBelow_4 : decode cX0_countBelow 4 = .ok (.iload_n 3, 1) := by decide +kernel
theorem dX0_countBelow_5 : decode cX0_countBelow 5 = .ok (.aload_n 0, 1) := by decide +kernel
theorem dX0_countBelow_6 : decode cX0_countBelow 6 = .ok (.getfield 15, 3) := by decide +kernel
theorem dX0_countBelow_9 : decode cX0_countBelow 9 = .ok (.if_icmp .ge 22, 3) := by decide +kernel
theorem dX0_countBelow_12 : decode cX0_countBelow 12 = .ok (.aload_n 0, 1) := by decide +kernel
theorem dX0_countBelow_13 : decode cX0_countBelow 13 = .ok (.getfield 9, 3) := by decide +kernel
theorem dX0_countBelow_16 : decode cX0_countBelow 16 = .ok (.iload_n 3, 1) := by decide +kernel
theorem dX0_countBelow_17 : decode cX0_countBelow 17 = .ok (.iaload, 1) := by decide +kernel
theorem dX0_countBelow_18 : decode cX0_countBelow 18 = .ok (.iload_n 1, 1) := by decide +kernel
theorem dX0_countBelow_19 : decode cX0_countBelow 19 = .ok (.if_icmp .ge 6, 3) := by decide +kernel
theorem dX0_countBelow_22 : decode cX0_countBelow 22 = .ok (.iinc 2 1, 3) := by decide +kernel
theorem dX0_countBelow_25 : decode cX0_countBelow 25 = .ok (.iinc 3 1, 3) := by decide +kernel
theorem dX0_countBelow_28 : decode cX0_countBelow 28 = .ok (.goto (-24), 3) := by decide +kernel
theorem dX0_countBelow_31 : decode cX0_countBelow 31 = .ok (.iload_n 2, 1) := by decide +kernel
theorem dX0_countBelow_32 : decode cX0_countBelow 32 = .ok (.ireturn, 1) := by decide +kernel
theorem dJ9_floorMod_7cf53_0 : decode cJ9_floorMod_7cf53 0 = .ok (.iload_n 0, 1) := by decide +kernel
theorem dJ9_floorMod_7cf53_1 : decode cJ9_floorMod_7cf53 1 = .ok (.iload_n 1, 1) := by decide +kernel
theorem dJ9_floorMod_7cf53_2 : decode cJ9_floorMod_7cf53 2 = .ok (.irem, 1) := by decide +kernel
theorem dJ9_floorMod_7cf53_3 : decode cJ9_floorMod_7cf53 3 = .ok (.istore_n 2, 1) := by decide +kernel
theorem dJ9_floorMod_7cf53_4 : decode cJ9_floorMod_7cf53 4 = .ok (.iload_n 0, 1) := by decide +kernel
theorem dJ9_floorMod_7cf53_5 : decode cJ9_floorMod_7cf53 5 = .ok (.iload_n 1, 1) := by decide +kernel
theorem dJ9_floorMod_7cf53_6 : decode cJ9_floorMod_7cf53 6 = .ok (.ixor, 1) := by decide +kernel
theorem dJ9_floorMod_7cf53_7 : decode cJ9_floorMod_7cf53 7 = .ok (.ifCond .ge 11, 3) := by decide +kernel
theorem dJ9_floorMod_7cf53_10 : decode cJ9_floorMod_7cf53 10 = .ok (.iload_n 2, 1) := by decide +kernel
theorem dJ9_floorMod_7cf53_11 : decode cJ9_floorMod_7cf53 11 = .ok (.ifCond .eq 7, 3) := by decide +kernel
theorem dJ9_floorMod_7cf53_14 : decode cJ9_floorMod_7cf53 14 = .ok (.iload_n 2, 1) := by decide +kernel
theorem dJ9_floorMod_7cf53_15 : decode cJ9_floorMod_7cf53 15 = .ok (.iload_n 1, 1) := by decide +kernel
theorem dJ9_floorMod_7cf53_16 : decode cJ9_floorMod_7cf53 16 = .ok (.iadd, 1) := by decide +kernel
theorem dJ9_floorMod_7cf53_17 : decode cJ9_floorMod_7cf53 17 = .ok (.ireturn, 1) := by decide +kernel
theorem dJ9_floorMod_7cf53_18 : decode cJ9_floorMod_7cf53 18 = .ok (.iload_n 2, 1) := by decide +kernel
theorem dJ9_floorMod_7cf53_19 : decode cJ9_floorMod_7cf53 19 = .ok (.ireturn, 1) := by decide +kernel
theorem dX0_takeRest_0 : decode cX0_takeRest 0 = .ok (.iload_n 1, 1) := by decide +kernel
theorem dX0_takeRest_1 : decode cX0_takeRest 1 = .ok (.iconst 1, 1) := by decide +kernel
theorem dX0_takeRest_2 : decode cX0_takeRest 2 = .ok (.if_icmp .ge 5, 3) := by decide +kernel
theorem dX0_takeRest_5 : decode cX0_takeRest 5 = .ok (.iconst (-1), 1) := by decide +kernel
theorem dX0_takeRest_6 : decode cX0_takeRest 6 = .ok (.ireturn, 1) := by decide +kernel
theorem dX0_takeRest_7 : decode cX0_takeRest 7 = .ok (.iconst 0, 1) := by decide +kernel
theorem dX0_takeRest_8 : decode cX0_takeRest 8 = .ok (.istore_n 3, 1) := by decide +kernel
theorem dX0_takeRest_9 : decode cX0_takeRest 9 = .ok (.iconst 0, 1) := by decide +kernel
theorem dX0_takeRest_10 : decode cX0_takeRest 10 = .ok (.istore 4, 2) := by decide +kernel
theorem dX0_takeRest_12 : decode cX0_takeRest 12 = .ok (.iload 4, 2) := by decide +kernel
theorem dX0_takeRest_14 : decode cX0_takeRest 14 = .ok (.aload_n 0, 1) := by decide +kernel
theorem dX0_takeRest_15 : decode cX0_takeRest 15 = .ok (.getfield 15, 3) := by decide +kernel
theorem dX0_takeRest_18 : decode cX0_takeRest 18 = .ok (.if_icmp .ge 40, 3) := by decide +kernel
theorem dX0_takeRest_21 : decode cX0_takeRest 21 = .ok (.aload_n 0, 1) := by decide +kernel
theorem dX0_takeRest_22 : decode cX0_takeRest 22 = .ok (.getfield 9, 3) := by decide +kernel
theorem dX0_takeRest_25 : decode cX0_takeRest 25 = .ok (.iload 4, 2) := by decide +kernel
theorem dX0_takeRest_27 : decode cX0_takeRest 27 = .ok (.iaload, 1) := by decide +kernel
theorem dX0_takeRest_28 : decode cX0_takeRest 28 = .ok (.iload_n 1, 1) := by decide +kernel
theorem dX0_takeRest_29 : decode cX0_takeRest 29 = .ok (.invokestatic 34, 3) := by decide +kernel
theorem dX0_takeRest_32 : decode cX0_takeRest 32 = .ok (.iload_n 2, 1) := by decide +kernel
theorem dX0_takeRest_33 : decode cX0_takeRest 33 = .ok (.if_icmp .eq 19, 3) := by decide +kernel
theorem dX0_takeRest_36 : decode cX0_takeRest 36 = .ok (.aload_n 0, 1) := by decide +kernel
theorem dX0_takeRest_37 : decode cX0_takeRest 37 = .ok (.getfield 9, 3) := by decide +kernel
theorem dX0_takeRest_40 : decode cX0_takeRest 40 = .ok (.iload_n 3, 1) := by decide +kernel
theorem dX0_takeRest_41 : decode cX0_takeRest 41 = .ok (.aload_n 0, 1) := by decide +kernel
theorem dX0_takeRest_42 : decode cX0_takeRest 42 = .ok (.getfield 9, 3) := by decide +kernel
theorem dX0_takeRest_45 : decode cX0_takeRest 45 = .ok (.iload 4, 2) := by decide +kernel
theorem dX0_takeRest_47 : decode cX0_takeRest 47 = .ok (.iaload, 1) := by decide +kernel
theorem dX0_takeRest_48 : decode cX0_takeRest 48 = .ok (.iastore, 1) := by decide +kernel
theorem dX0_takeRest_49 : decode cX0_takeRest 49 = .ok (.iinc 3 1, 3) := by decide +kernel
theorem dX0_takeRest_52 : decode cX0_takeRest 52 = .ok (.iinc 4 1, 3) := by decide +kernel
theorem dX0_takeRest_55 : decode cX0_takeRest 55 = .ok (.goto (-43), 3) := by decide +kernel
theorem dX0_takeRest_58 : decode cX0_takeRest 58 = .ok (.aload_n 0, 1) := by decide +kernel
theorem dX0_takeRest_59 : decode cX0_takeRest 59 = .ok (.getfield 15, 3) := by decide +kernel
theorem dX0_takeRest_62 : decode cX0_takeRest 62 = .ok (.iload_n 3, 1) := by decide +kernel
theorem dX0_takeRest_63 : decode cX0_takeRest 63 = .ok (.isub, 1) := by decide +kernel
theorem dX0_takeRest_64 : decode cX0_takeRest 64 = .ok (.istore 4, 2) := by decide +kernel
theorem dX0_takeRest_66 : decode cX0_takeRest 66 = .ok (.aload_n 0, 1) := by decide +kernel
theorem dX0_takeRest_67 : decode cX0_takeRest 67 = .ok (.iload_n 3, 1) := by decide +kernel
theorem dX0_takeRest_68 : decode cX0_takeRest 68 = .ok (.putfield 15, 3) := by decide +kernel
theorem dX0_takeRest_71 : decode cX0_takeRest 71 = .ok (.iload 4, 2) := by decide +kernel
theorem dX0_takeRest_73 : decode cX0_takeRest 73 = .ok (.ireturn, 1) := by decide +kernel
theorem dX0_turn_0 : decode cX0_turn 0 = .ok (.iload_n 1, 1) := by decide +kernel
theorem dX0_turn_1 : decode cX0_turn 1 = .ok (.ifCond .lt 9, 3) := by decide +kernel
theorem dX0_turn_4 : decode cX0_turn 4 = .ok (.iload_n 1, 1) := by decide +kernel
theorem dX0_turn_5 : decode cX0_turn 5 = .ok (.bipush 100, 2) := by decide +kernel
theorem dX0_turn_7 : decode cX0_turn 7 = .ok (.if_icmp .le 5, 3) := by decide +kernel
theorem dX0_turn_10 : decode cX0_turn 10 = .ok (.iconst (-1), 1) := by decide +kernel
theorem dX0_turn_11 : decode cX0_turn 11 = .ok (.ireturn, 1) := by decide +kernel
theorem dX0_turn_12 : decode cX0_turn 12 = .ok (.aload_n 0, 1) := by decide +kernel
theorem dX0_turn_13 : decode cX0_turn 13 = .ok (.getfield 15, 3) := by decide +kernel
theorem dX0_turn_16 : decode cX0_turn 16 = .ok (.ifCond .le 44, 3) := by decide +kernel
theorem dX0_turn_19 : decode cX0_turn 19 = .ok (.iload_n 1, 1) := by decide +kernel
theorem dX0_turn_20 : decode cX0_turn 20 = .ok (.aload_n 0, 1) := by decide +kernel
theorem dX0_turn_21 : decode cX0_turn 21 = .ok (.getfield 15, 3) := by decide +kernel
theorem dX0_turn_24 : decode cX0_turn 24 = .ok (.irem, 1) := by decide +kernel
theorem dX0_turn_25 : decode cX0_turn 25 = .ok (.istore_n 2, 1) := by decide +kernel
theorem dX0_turn_26 : decode cX0_turn 26 = .ok (.aload_n 0, 1) := by decide +kernel
theorem dX0_turn_27 : decode cX0_turn 27 = .ok (.getfield 9, 3) := by decide +kernel
theorem dX0_turn_30 : decode cX0_turn 30 = .ok (.iconst 0, 1) := by decide +kernel
theorem dX0_turn_31 : decode cX0_turn 31 = .ok (.aload_n 0, 1) := by decide +kernel
theorem dX0_turn_32 : decode cX0_turn 32 = .ok (.getfield 9, 3) := by decide +kernel
theorem dX0_turn_35 : decode cX0_turn 35 = .ok (.aload_n 0, 1) := by decide +kernel
theorem dX0_turn_36 : decode cX0_turn 36 = .ok (.getfield 15, 3) := by decide +kernel
theorem dX0_turn_39 : decode cX0_turn 39 = .ok (.iload_n 2, 1) := by decide +kernel
theorem dX0_turn_40 : decode cX0_turn 40 = .ok (.invokestatic 28, 3) := by decide +kernel
theorem dX0_turn_43 : decode cX0_turn 43 = .ok (.aload_n 0, 1) := by decide +kernel
theorem dX0_turn_44 : decode cX0_turn 44 = .ok (.getfield 9, 3) := by decide +kernel
theorem dX0_turn_47 : decode cX0_turn 47 = .ok (.iload_n 2, 1) := by decide +kernel
theorem dX0_turn_48 : decode cX0_turn 48 = .ok (.aload_n 0, 1) := by decide +kernel
theorem dX0_turn_49 : decode cX0_turn 49 = .ok (.getfield 9, 3) := by decide +kernel
theorem dX0_turn_52 : decode cX0_turn 52 = .ok (.iconst 0, 1) := by decide +kernel
theorem dX0_turn_53 : decode cX0_turn 53 = .ok (.aload_n 0, 1) := by decide +kernel
theorem dX0_turn_54 : decode cX0_turn 54 = .ok (.getfield 15, 3) := by decide +kernel
theorem dX0_turn_57 : decode cX0_turn 57 = .ok (.invokestatic 28, 3) := by decide +kernel
theorem dX0_turn_60 : decode cX0_turn 60 = .ok (.aload_n 0, 1) := by decide +kernel
theorem dX0_turn_61 : decode cX0_turn 61 = .ok (.getfield 15, 3) := by decide +kernel
theorem dX0_turn_64 : decode cX0_turn 64 = .ok (.ireturn, 1) := by decide +kernel
theorem dX0_takeAll_0 : decode cX0_takeAll 0 = .ok (.aload_n 0, 1) := by decide +kernel
theorem dX0_takeAll_1 : decode cX0_takeAll 1 = .ok (.getfield 15, 3) := by decide +kernel
theorem dX0_takeAll_4 : decode cX0_takeAll 4 = .ok (.aload_n 1, 1) := by decide +kernel
theorem dX0_takeAll_5 : decode cX0_takeAll 5 = .ok (.getfield 15, 3) := by decide +kernel
theorem dX0_takeAll_8 : decode cX0_takeAll 8 = .ok (.iadd, 1) := by decide +kernel
theorem dX0_takeAll_9 : decode cX0_takeAll 9 = .ok (.sipush 2000, 3) := by decide +kernel
theorem dX0_takeAll_12 : decode cX0_takeAll 12 = .ok (.if_icmp .gt 11, 3) := by decide +kernel
theorem dX0_takeAll_15 : decode cX0_takeAll 15 = .ok (.aload_n 0, 1) := by decide +kernel
theorem dX0_takeAll_16 : decode cX0_takeAll 16 = .ok (.iload_n 2, 1) := by decide +kernel
theorem dX0_takeAll_17 : decode cX0_takeAll 17 = .ok (.invokevirtual 25, 3) := by decide +kernel
theorem dX0_takeAll_20 : decode cX0_takeAll 20 = .ok (.ifCond .ne 5, 3) := by decide +kernel
theorem dX0_takeAll_23 : decode cX0_takeAll 23 = .ok (.iconst 0, 1) := by decide +kernel
theorem dX0_takeAll_24 : decode cX0_takeAll 24 = .ok (.ireturn, 1) := by decide +kernel
theorem dX0_takeAll_25 : decode cX0_takeAll 25 = .ok (.aload_n 0, 1) := by decide +kernel
theorem dX0_takeAll_26 : decode cX0_takeAll 26 = .ok (.getfield 9, 3) := by decide +kernel
theorem dX0_takeAll_29 : decode cX0_takeAll 29 = .ok (.iload_n 2, 1) := by decide +kernel
theorem dX0_takeAll_30 : decode cX0_takeAll 30 = .ok (.aload_n 0, 1) := by decide +kernel
theorem dX0_takeAll_31 : decode cX0_takeAll 31 = .ok (.getfield 9, 3) := by decide +kernel
theorem dX0_takeAll_34 : decode cX0_takeAll 34 = .ok (.iload_n 2, 1) := by decide +kernel
theorem dX0_takeAll_35 : decode cX0_takeAll 35 = .ok (.aload_n 1, 1) := by decide +kernel
theorem dX0_takeAll_36 : decode cX0_takeAll 36 = .ok (.getfield 15, 3) := by decide +kernel
theorem dX0_takeAll_39 : decode cX0_takeAll 39 = .ok (.iadd, 1) := by decide +kernel
theorem dX0_takeAll_40 : decode cX0_takeAll 40 = .ok (.aload_n 0, 1) := by decide +kernel
theorem dX0_takeAll_41 : decode cX0_takeAll 41 = .ok (.getfield 15, 3) := by decide +kernel
theorem dX0_takeAll_44 : decode cX0_takeAll 44 = .ok (.iload_n 2, 1) := by decide +kernel
theorem dX0_takeAll_45 : decode cX0_takeAll 45 = .ok (.isub, 1) := by decide +kernel
theorem dX0_takeAll_46 : decode cX0_takeAll 46 = .ok (.invokestatic 28, 3) := by decide +kernel
theorem dX0_takeAll_49 : decode cX0_takeAll 49 = .ok (.aload_n 1, 1) := by decide +kernel
theorem dX0_takeAll_50 : decode cX0_takeAll 50 = .ok (.getfield 9, 3) := by decide +kernel
theorem dX0_takeAll_53 : decode cX0_takeAll 53 = .ok (.iconst 0, 1) := by decide +kernel
theorem dX0_takeAll_54 : decode cX0_takeAll 54 = .ok (.aload_n 0, 1) := by decide +kernel
theorem dX0_takeAll_55 : decode cX0_takeAll 55 = .ok (.getfield 9, 3) := by decide +kernel
theorem dX0_takeAll_58 : decode cX0_takeAll 58 = .ok (.iload_n 2, 1) := by decide +kernel
theorem dX0_takeAll_59 : decode cX0_takeAll 59 = .ok (.aload_n 1, 1) := by decide +kernel
theorem dX0_takeAll_60 : decode cX0_takeAll 60 = .ok (.getfield 15, 3) := by decide +kernel
theorem dX0_takeAll_63 : decode cX0_takeAll 63 = .ok (.invokestatic 28, 3) := by decide +kernel
theorem dX0_takeAll_66 : decode cX0_takeAll 66 = .ok (.aload_n 0, 1) := by decide +kernel
theorem dX0_takeAll_67 : decode cX0_takeAll 67 = .ok (.dup, 1) := by decide +kernel
theorem dX0_takeAll_68 : decode cX0_takeAll 68 = .ok (.getfield 15, 3) := by decide +kernel
theorem dX0_takeAll_71 : decode cX0_takeAll 71 = .ok (.aload_n 1, 1) := by decide +kernel
theorem dX0_takeAll_72 : decode cX0_takeAll 72 = .ok (.invokevirtual 40, 3) := by decide +kernel
theorem dX0_takeAll_75 : decode cX0_takeAll 75 = .ok (.iadd, 1) := by decide +kernel
theorem dX0_takeAll_76 : decode cX0_takeAll 76 = .ok (.putfield 15, 3) := by decide +kernel
theorem dX0_takeAll_79 : decode cX0_takeAll 79 = .ok (.iconst 1, 1) := by decide +kernel
theorem dX0_takeAll_80 : decode cX0_takeAll 80 = .ok (.ireturn, 1) := by decide +kernel
end
section
theorem inX0_hasPlace_X0 : ∀ w ∈ wsX00, w ∈ wsX0_hasPlace := by decide +kernel
theorem inX0_hasPlaceOrEnd_X0 : ∀ w ∈ wsX00, w ∈ wsX0_hasPlaceOrEnd := by decide +kernel
set_option maxRecDepth 20000 in
theorem gX0_at_X0_hasPlace : GoodIn wsX0_at wsX0_hasPlace := goodIn_r _ [5, 6, 9, 10] (by decide +kernel) (by decide +kernel)
set_option maxRecDepth 20000 in
theorem gX0_at_X0_hasPlace_v : GoodIn wsX0_at (wsV RX0 19 RX0 yX0_hasPlace wsX0_hasPlace) := goodIn_app (goodIn_r _ [1, 2, 3, 4] (by decide +kernel) (by decide +kernel)) gX0_at_X0_hasPlace
theorem inX0_at_X0 : ∀ w ∈ wsX00, w ∈ wsX0_at := by decide +kernel
theorem inX0_put_X0 : ∀ w ∈ wsX00, w ∈ wsX0_put := by decide +kernel
set_option maxRecDepth 20000 in
theorem gX0_put_X0_hasPlaceOrEnd : GoodIn wsX0_put wsX0_hasPlaceOrEnd := goodIn_r _ [6, 1, 12, 13] (by decide +kernel) (by decide +kernel)
set_option maxRecDepth 20000 in
theorem gX0_put_X0_hasPlaceOrEnd_v : GoodIn wsX0_put (wsV RX0 25 RX0 yX0_hasPlaceOrEnd wsX0_hasPlaceOrEnd) := goodIn_app (goodIn_r _ [2, 3, 4, 5] (by decide +kernel) (by decide +kernel)) gX0_put_X0_hasPlaceOrEnd
set_option maxRecDepth 20000 in
theorem gX0_take_X0_hasPlace : GoodIn wsX0_take wsX0_hasPlace := goodIn_r _ [5, 6, 13, 14] (by decide +kernel) (by decide +kernel)
set_option maxRecDepth 20000 in
theorem gX0_take_X0_hasPlace_v : GoodIn wsX0_take (wsV RX0 19 RX0 yX0_hasPlace wsX0_hasPlace) := goodIn_app (goodIn_r _ [1, 2, 3, 4] (by decide +kernel) (by decide +kernel)) gX0_take_X0_hasPlace
theorem inX0_take_X0 : ∀ w ∈ wsX00, w ∈ wsX0_take := by decide +kernel
set_option maxRecDepth 20000 in
theorem gX0_swap_X0_hasPlace : GoodIn wsX0_swap wsX0_hasPlace := goodIn_r _ [5, 6, 9, 10] (by decide +kernel) (by decide +kernel)
set_option maxRecDepth 20000 in
theorem gX0_swap_X0_hasPlace_v : GoodIn wsX0_swap (wsV RX0 19 RX0 yX0_hasPlace wsX0_hasPlace) := goodIn_app (goodIn_r _ [1, 2, 3, 4] (by decide +kernel) (by decide +kernel)) gX0_swap_X0_hasPlace
theorem inX0_swap_X0 : ∀ w ∈ wsX00, w ∈ wsX0_swap := by decide +kernel
theorem inX0_wipe_X0 : ∀ w ∈ wsX00, w ∈ wsX0_wipe := by decide +kernel
theorem inX0_firstPlace_X0 : ∀ w ∈ wsX00, w ∈ wsX0_firstPlace := by decide +kernel
theorem inX0_lastPlace_X0 : ∀ w ∈ wsX00, w ∈ wsX0_lastPlace := by decide +kernel
theorem inX0_countBelow_X0 : ∀ w ∈ wsX00, w ∈ wsX0_countBelow := by decide +kernel
theorem inX0_takeRest_X0 : ∀ w ∈ wsX00, w ∈ wsX0_takeRest := by decide +kernel
set_option maxRecDepth 20000 in
theorem gX0_takeRest_J9_floorMod_7cf53 : GoodIn wsX0_takeRest wsJ9_floorMod_7cf53 := goodIn_r _ [6] (by decide +kernel) (by decide +kernel)
set_option maxRecDepth 20000 in
theorem gX0_takeRest_J9_floorMod_7cf53_v : GoodIn wsX0_takeRest (va_wsS RX0 34 yJ9_floorMod_7cf53 wsJ9_floorMod_7cf53) := goodIn_app (goodIn_r _ [3, 4, 5] (by decide +kernel) (by decide +kernel)) gX0_takeRest_J9_floorMod_7cf53
theorem inX0_turn_X0 : ∀ w ∈ wsX00, w ∈ wsX0_turn := by decide +kernel
theorem inX0_takeAll_X0 : ∀ w ∈ wsX00, w ∈ wsX0_takeAll := by decide +kernel
set_option maxRecDepth 20000 in
theorem gX0_takeAll_X0_hasPlaceOrEnd : GoodIn wsX0_takeAll wsX0_hasPlaceOrEnd := goodIn_r _ [6, 1, 16, 17] (by decide +kernel) (by decide +kernel)
set_option maxRecDepth 20000 in
theorem gX0_takeAll_X0_hasPlaceOrEnd_v : GoodIn wsX0_takeAll (wsV RX0 25 RX0 yX0_hasPlaceOrEnd wsX0_hasPlaceOrEnd) := goodIn_app (goodIn_r _ [2, 3, 4, 5] (by decide +kernel) (by decide +kernel)) gX0_takeAll_X0_hasPlaceOrEnd
set_option maxRecDepth 20000 in
theorem gX0_takeAll_X0_wipe : GoodIn wsX0_takeAll wsX0_wipe := goodIn_r _ [15, 1, 16, 17] (by decide +kernel) (by decide +kernel)
set_option maxRecDepth 20000 in
theorem gX0_takeAll_X0_wipe_v : GoodIn wsX0_takeAll (wsV RX0 40 RX0 yX0_wipe wsX0_wipe) := goodIn_app (goodIn_r _ [12, 13, 14, 5] (by decide +kernel) (by decide +kernel)) gX0_takeAll_X0_wipe
theorem inX0_init_X0 : ∀ w ∈ wsX00, w ∈ wsX0_init := by decide +kernel
set_option maxHeartbeats 4000000 in
set_option maxRecDepth 100000 in
theorem c_floorMod (l : Launch) (dC : Nat → ClassId) (dI : Nat → Nat → Nat) (p0 p1 : Int32) (h1 : ¬ p1 = 0) : Met l yJ9_floorMod_7cf53 wsJ9_floorMod_7cf53 ({ frames := 0, cells := 0, slots := 0, locals := 0 }) (va_Pc [.int p0, .int p1] (fun U => va_P (dC, dI) vwCl [] U.heap ∧ va_K (dC, dI) vwCl [] U)) (vp_Si (fun r => r = qFm p0 p1)) 0 0 (fun _ => False) := by
  refine va_MetF (cc := cJ9_floorMod_7cf53) (maxL := 3) (ret := (some .int)) (by decide +kernel) rfl ?_
  intro p e s m args below meth c s₁ B hml hv
  obtain ⟨rfl, hP, hK⟩ := hv
  have hx := B.exec
  have hb := B.bytes
  have hr := B.returns
  have hts := atoms_spec (ws := wsJ9_floorMod_7cf53) B.pre
  have hown : s.vm.findClass RJ9 = some m.cls := findClass_of_methodNamed B.named
  have hlocks := B.notSynchronized
  have hl := lv_entry ([.int p0, .int p1]) (n := 3) (Nat.le_of_ble_eq_true rfl)
  rw [lg_entry_eq]
  generalize (lg_sl ([.int p0, .int p1]) ++ List.replicate (3 - (lg_sl ([.int p0, .int p1])).length) Slot.unset).toArray = ls at hl ⊢
  have hl : lv_has ls 3 [(0, .int p0), (1, .int p1)] := hl
  refine lv_iload_n hx hb dJ9_floorMod_7cf53_0 rfl (lv_at hl 0 rfl) ?_
  refine lv_iload_n hx hb dJ9_floorMod_7cf53_1 rfl (lv_at hl 1 rfl) ?_
  refine lv_irem hx hb dJ9_floorMod_7cf53_2 h1 ?_
  refine lv_istore_n (lv' := [(2, .int (p0 - p0 / p1 * p1)), (0, .int p0), (1, .int p1)]) hx hb dJ9_floorMod_7cf53_3 rfl hl (by decide) rfl (fun ls hl => ?_)
  refine lv_iload_n hx hb dJ9_floorMod_7cf53_4 rfl (lv_at hl 1 rfl) ?_
  refine lv_iload_n hx hb dJ9_floorMod_7cf53_5 rfl (lv_at hl 2 rfl) ?_
  refine lv_ixor hx hb dJ9_floorMod_7cf53_6 ?_
  refine lv_if_ge (tgt := 18) hx hb dJ9_floorMod_7cf53_7 (by decide) (fun c_1 => ?_) (fun c_1 => ?_)
  · refine lv_iload_n hx hb dJ9_floorMod_7cf53_18 rfl (lv_at hl 0 rfl) ?_
    exact W.iret (v := p0 - p0 / p1 * p1) hx hb hr (fun t ht hW => ⟨p0 - p0 / p1 * p1, rfl, (by simp only [qFm]; rw [if_neg (show ¬ ((p0 ^^^ p1) < 0 ∧ ¬ (p0 - p0 / p1 * p1) = 0) from fun q => by have q1 := q.1; rw [ti_lt] at q1; rw [ti_le] at c_1; omega)]), ht⟩) (fun q h => by cases h) dJ9_floorMod_7cf53_19
  · refine lv_iload_n hx hb dJ9_floorMod_7cf53_10 rfl (lv_at hl 0 rfl) ?_
    refine lv_if_eq (tgt := 18) hx hb dJ9_floorMod_7cf53_11 (by decide) (fun c_2 => ?_) (fun c_2 => ?_)
    · refine lv_iload_n hx hb dJ9_floorMod_7cf53_18 rfl (lv_at hl 0 rfl) ?_
      exact W.iret (v := p0 - p0 / p1 * p1) hx hb hr (fun t ht hW => ⟨p0 - p0 / p1 * p1, rfl, (by simp only [qFm]; rw [if_neg (show ¬ ((p0 ^^^ p1) < 0 ∧ ¬ (p0 - p0 / p1 * p1) = 0) from fun q => q.2 c_2)]), ht⟩) (fun q h => by cases h) dJ9_floorMod_7cf53_19
    · refine lv_iload_n hx hb dJ9_floorMod_7cf53_14 rfl (lv_at hl 0 rfl) ?_
      refine lv_iload_n hx hb dJ9_floorMod_7cf53_15 rfl (lv_at hl 2 rfl) ?_
      refine lv_iadd hx hb dJ9_floorMod_7cf53_16 ?_
      exact W.iret (v := (p0 - p0 / p1 * p1) + p1) hx hb hr (fun t ht hW => ⟨(p0 - p0 / p1 * p1) + p1, rfl, (by simp only [qFm]; rw [if_pos ⟨show (p0 ^^^ p1) < 0 from by rw [ti_le] at c_1; rw [ti_lt]; omega, c_2⟩]), ht⟩) (fun q h => by cases h) dJ9_floorMod_7cf53_17

set_option maxHeartbeats 4000000 in
set_option maxRecDepth 100000 in
theorem c_Row_hasPlace (l : Launch) (dC : Nat → ClassId) (dI : Nat → Nat → Nat) (h0 h1 n : Nat) (p0 : Int32) : Met l yX0_hasPlace wsX0_hasPlace ({ frames := 0, cells := 0, slots := 0, locals := 0 }) (va_Pc [.ref h0, .int p0] (fun U => va_P (dC, dI) vwCl [(h0, .inr (0, [.ref h1, .int (nI n)]))] U.heap ∧ va_K (dC, dI) vwCl [] U)) (vp_Si (fun r => r = qHp p0 n)) 0 0 (fun _ => False) := by
  refine Met.ofW (cc := cX0_hasPlace) (maxL := 2) (ret := (some .boolean)) (by decide +kernel) rfl ?_
  intro p e s m args below meth c s₁ B hml hv
  obtain ⟨rfl, hP, hK⟩ := hv
  have hx := B.exec
  have hb := B.bytes
  have hr := B.returns
  have hts := atoms_spec (ws := wsX0_hasPlace) B.pre
  have hown : s.vm.findClass RX0 = some m.cls := findClass_of_methodNamed B.named
  have hlocks := B.notSynchronized
  have hl := lv_entry ([.ref h0, .int p0]) (n := 2) (Nat.le_of_ble_eq_true rfl)
  rw [lg_entry_eq]
  generalize (lg_sl ([.ref h0, .int p0]) ++ List.replicate (2 - (lg_sl ([.ref h0, .int p0])).length) Slot.unset).toArray = ls at hl ⊢
  have hl : lv_has ls 2 [(0, .ref h0), (1, .int p0)] := hl
  refine lv_iload_n hx hb dX0_hasPlace_0 rfl (lv_at hl 1 rfl) ?_
  refine lv_if_lt (tgt := 16) hx hb dX0_hasPlace_1 (by decide) (fun c_1 => ?_) (fun c_1 => ?_)
  · refine lv_iconst (v := 0) hx hb dX0_hasPlace_16 (by decide) ?_
    exact W.zret (v := 0) hx hb hr rfl (fun t ht hW => ⟨0, rfl, (by simp only [qHp, if_pos c_1]), ht⟩) (fun q h => by cases h) dX0_hasPlace_17
  · refine lv_iload_n hx hb dX0_hasPlace_4 rfl (lv_at hl 1 rfl) ?_
    refine lv_aload_n hx hb dX0_hasPlace_5 rfl (lv_at hl 0 rfl) ?_
    refine va_get (D := (dC, dI)) (ci := 0) (v := .int (nI n)) (C := RX0) (T := TX0) (N := 2) hx hb hts inX0_hasPlace_X0 hown hK hP 0 rfl rfl 1 (by decide) (hts (.fieldLink RX0 15 "QueueHall$Row" "count" "I") (List.mem_of_getElem? (i := 1) (by decide +kernel))) (fun _ h9 => h9) rfl dX0_hasPlace_6 ?_
    refine lv_icmp_ge (tgt := 16) hx hb dX0_hasPlace_9 (by decide) (fun c_2 => ?_) (fun c_2 => ?_)
    · refine lv_iconst (v := 0) hx hb dX0_hasPlace_16 (by decide) ?_
      exact W.zret (v := 0) hx hb hr rfl (fun t ht hW => ⟨0, rfl, (by simp only [qHp, if_neg c_1, if_pos c_2]), ht⟩) (fun q h => by cases h) dX0_hasPlace_17
    · refine lv_iconst (v := 1) hx hb dX0_hasPlace_12 (by decide) ?_
      refine lv_goto (tgt := 17) hx hb dX0_hasPlace_13 (by decide) ?_
      exact W.zret (v := 1) hx hb hr rfl (fun t ht hW => ⟨1, rfl, (by simp only [qHp, if_neg c_1, if_neg c_2]), ht⟩) (fun q h => by cases h) dX0_hasPlace_17

set_option maxHeartbeats 4000000 in
set_option maxRecDepth 100000 in
theorem c_Row_hasPlaceOrEnd (l : Launch) (dC : Nat → ClassId) (dI : Nat → Nat → Nat) (h0 h1 n : Nat) (p0 : Int32) : Met l yX0_hasPlaceOrEnd wsX0_hasPlaceOrEnd ({ frames := 0, cells := 0, slots := 0, locals := 0 }) (va_Pc [.ref h0, .int p0] (fun U => va_P (dC, dI) vwCl [(h0, .inr (0, [.ref h1, .int (nI n)]))] U.heap ∧ va_K (dC, dI) vwCl [] U)) (vp_Si (fun r => r = qHe p0 n)) 0 0 (fun _ => False) := by
  refine Met.ofW (cc := cX0_hasPlaceOrEnd) (maxL := 2) (ret := (some .boolean)) (by decide +kernel) rfl ?_
  intro p e s m args below meth c s₁ B hml hv
  obtain ⟨rfl, hP, hK⟩ := hv
  have hx := B.exec
  have hb := B.bytes
  have hr := B.returns
  have hts := atoms_spec (ws := wsX0_hasPlaceOrEnd) B.pre
  have hown : s.vm.findClass RX0 = some m.cls := findClass_of_methodNamed B.named
  have hlocks := B.notSynchronized
  have hl := lv_entry ([.ref h0, .int p0]) (n := 2) (Nat.le_of_ble_eq_true rfl)
  rw [lg_entry_eq]
  generalize (lg_sl ([.ref h0, .int p0]) ++ List.replicate (2 - (lg_sl ([.ref h0, .int p0])).length) Slot.unset).toArray = ls at hl ⊢
  have hl : lv_has ls 2 [(0, .ref h0), (1, .int p0)] := hl
  refine lv_iload_n hx hb dX0_hasPlaceOrEnd_0 rfl (lv_at hl 1 rfl) ?_
  refine lv_if_lt (tgt := 16) hx hb dX0_hasPlaceOrEnd_1 (by decide) (fun c_1 => ?_) (fun c_1 => ?_)
  · refine lv_iconst (v := 0) hx hb dX0_hasPlaceOrEnd_16 (by decide) ?_
    exact W.zret (v := 0) hx hb hr rfl (fun t ht hW => ⟨0, rfl, (by simp only [qHe, if_pos c_1]), ht⟩) (fun q h => by cases h) dX0_hasPlaceOrEnd_17
  · refine lv_iload_n hx hb dX0_hasPlaceOrEnd_4 rfl (lv_at hl 1 rfl) ?_
    refine lv_aload_n hx hb dX0_hasPlaceOrEnd_5 rfl (lv_at hl 0 rfl) ?_
    refine va_get (D := (dC, dI)) (ci := 0) (v := .int (nI n)) (C := RX0) (T := TX0) (N := 2) hx hb hts inX0_hasPlaceOrEnd_X0 hown hK hP 0 rfl rfl 1 (by decide) (hts (.fieldLink RX0 15 "QueueHall$Row" "count" "I") (List.mem_of_getElem? (i := 1) (by decide +kernel))) (fun _ h9 => h9) rfl dX0_hasPlaceOrEnd_6 ?_
    refine lv_icmp_gt (tgt := 16) hx hb dX0_hasPlaceOrEnd_9 (by decide) (fun c_2 => ?_) (fun c_2 => ?_)
    · refine lv_iconst (v := 0) hx hb dX0_hasPlaceOrEnd_16 (by decide) ?_
      exact W.zret (v := 0) hx hb hr rfl (fun t ht hW => ⟨0, rfl, (by simp only [qHe, if_neg c_1, if_pos c_2]), ht⟩) (fun q h => by cases h) dX0_hasPlaceOrEnd_17
    · refine lv_iconst (v := 1) hx hb dX0_hasPlaceOrEnd_12 (by decide) ?_
      refine lv_goto (tgt := 17) hx hb dX0_hasPlaceOrEnd_13 (by decide) ?_
      exact W.zret (v := 1) hx hb hr rfl (fun t ht hW => ⟨1, rfl, (by simp only [qHe, if_neg c_1, if_neg c_2]), ht⟩) (fun q h => by cases h) dX0_hasPlaceOrEnd_17

set_option maxHeartbeats 4000000 in
set_option maxRecDepth 100000 in
theorem c_Row_at (l : Launch) (dC : Nat → ClassId) (dI : Nat → Nat → Nat) (h0 h1 n : Nat) (cA : ClassId) (f g : Nat → Int32) (p0 : Int32) (hn : n < 2100) (hg : qAg n f g) : Met l yX0_at wsX0_at ({ frames := 1, cells := 0, slots := 0, locals := 21 }) (va_Pc [.ref h0, .int p0] (fun U => va_P (dC, dI) vwCl [(h0, .inr (0, [.ref h1, .int (nI n)])), (h1, .inl (cA, 2100, .inl f))] U.heap ∧ va_K (dC, dI) vwCl [(cA, .int)] U)) (vp_Sl (fun r => r = qAt g n p0)) 0 0 (fun _ => False) := by
  refine Met.ofW (cc := cX0_at) (maxL := 2) (ret := (some .long)) (by decide +kernel) rfl ?_
  intro p e s m args below meth c s₁ B hml hv
  obtain ⟨rfl, hP, hK⟩ := hv
  have hx := B.exec
  have hb := B.bytes
  have hr := B.returns
  have hts := atoms_spec (ws := wsX0_at) B.pre
  have hown : s.vm.findClass RX0 = some m.cls := findClass_of_methodNamed B.named
  have hlocks := B.notSynchronized
  have hl := lv_entry ([.ref h0, .int p0]) (n := 2) (Nat.le_of_ble_eq_true rfl)
  rw [lg_entry_eq]
  generalize (lg_sl ([.ref h0, .int p0]) ++ List.replicate (2 - (lg_sl ([.ref h0, .int p0])).length) Slot.unset).toArray = ls at hl ⊢
  have hl : lv_has ls 2 [(0, .ref h0), (1, .int p0)] := hl
  rcases qHp_c p0 (n := n) (by omega) with h | ⟨k, hk, rfl⟩
  · refine lv_aload_n hx hb dX0_at_0 rfl (lv_at hl 0 rfl) ?_
    refine lv_iload_n hx hb dX0_at_1 rfl (lv_at hl 1 rfl) ?_
    have hPc := hP.sub (ws' := [(h0, .inr (0, [.ref h1, .int (nI n)]))]) [0] rfl
    have hKc := hK.sub (tys' := []) [] rfl
    refine q_csiE (va_runV (As := [.int p0]) (rest := []) ⟨hx, hb, hml, hown, hts⟩ (c_Row_hasPlace l dC dI h0 h1 n p0) (cwV 1 hts gX0_at_X0_hasPlace_v rfl rfl rfl (by decide +kernel) ⟨Nat.le_of_ble_eq_true rfl, Nat.le_of_ble_eq_true rfl⟩) ⟨q_blR, va_recv hKc hPc (ci := 0) (q0 := 0) rfl rfl, fun U hU hW => ⟨rfl, by rw [hU]; exact hPc, va_K.moved hW.alike hKc⟩⟩ rfl rfl hl.1 rfl (lv_room (Nat.le_of_ble_eq_true rfl)) dX0_at_2 ⟨Nat.le_of_ble_eq_true rfl, Nat.le_of_ble_eq_true rfl⟩) ?_
    refine q_top (y := 0) h ?_
    refine lv_if_eq (tgt := 18) hx hb dX0_at_5 (by decide) (fun c_1 => ?_) (fun c_0 => absurd (show (0 : Int32) = (0 : Int32) from (by decide)) c_0)
    refine lv_ldc2 (v := qNo) hx hb hown (hts (.constantLong RX0 23 (1099511627776)) (List.mem_of_getElem? (i := 8) (by decide +kernel))) dX0_at_18 ?_
    exact W.lret (v := qNo) hx hb hr (fun t ht hW => ⟨qNo, rfl, (qAt_o h).symm, ht⟩) (fun q h => by cases h) dX0_at_21
  · refine lv_aload_n hx hb dX0_at_0 rfl (lv_at hl 0 rfl) ?_
    refine lv_iload_n hx hb dX0_at_1 rfl (lv_at hl 1 rfl) ?_
    have hPc := hP.sub (ws' := [(h0, .inr (0, [.ref h1, .int (nI n)]))]) [0] rfl
    have hKc := hK.sub (tys' := []) [] rfl
    refine q_csiE (va_runV (As := [.int (nI k)]) (rest := []) ⟨hx, hb, hml, hown, hts⟩ (c_Row_hasPlace l dC dI h0 h1 n (nI k)) (cwV 1 hts gX0_at_X0_hasPlace_v rfl rfl rfl (by decide +kernel) ⟨Nat.le_of_ble_eq_true rfl, Nat.le_of_ble_eq_true rfl⟩) ⟨q_blR, va_recv hKc hPc (ci := 0) (q0 := 0) rfl rfl, fun U hU hW => ⟨rfl, by rw [hU]; exact hPc, va_K.moved hW.alike hKc⟩⟩ rfl rfl hl.1 rfl (lv_room (Nat.le_of_ble_eq_true rfl)) dX0_at_2 ⟨Nat.le_of_ble_eq_true rfl, Nat.le_of_ble_eq_true rfl⟩) ?_
    refine q_top (y := 1) (qHp_in (by omega) (by omega)) ?_
    refine lv_if_eq (tgt := 18) hx hb dX0_at_5 (by decide) (fun c_0 => absurd c_0 (show ¬ (1 : Int32) = (0 : Int32) from (by decide))) (fun c_2 => ?_)
    refine lv_aload_n hx hb dX0_at_8 rfl (lv_at hl 0 rfl) ?_
    refine va_get (D := (dC, dI)) (ci := 0) (v := .ref h1) (C := RX0) (T := TX0) (N := 2) hx hb hts inX0_at_X0 hown hK hP 0 rfl rfl 0 (by decide) (hts (.fieldLink RX0 9 "QueueHall$Row" "numbers" "[I") (List.mem_of_getElem? (i := 7) (by decide +kernel))) (fun _ h9 => h9) rfl dX0_at_9 ?_
    refine lv_iload_n hx hb dX0_at_12 rfl (lv_at hl 1 rfl) ?_
    refine q_iald (k := k) hx hb hK hP 1 0 rfl rfl (by omega) (by omega) dX0_at_13 ?_
    refine lv_i2l (v := (f k).toInt64) hx hb dX0_at_14 rfl ?_
    refine lv_goto (tgt := 21) hx hb dX0_at_15 (by decide) ?_
    exact W.lret (v := (f k).toInt64) hx hb hr (fun t ht hW => ⟨(f k).toInt64, rfl, (by rw [qAt_i hk (by omega), hg k hk]), ht⟩) (fun q h => by cases h) dX0_at_21

set_option maxHeartbeats 4000000 in
set_option maxRecDepth 100000 in
theorem c_Row_put (l : Launch) (dC : Nat → ClassId) (dI : Nat → Nat → Nat) (sz : Nat) (h0 h1 n : Nat) (cA : ClassId) (f g : Nat → Int32) (p0 p1 : Int32) (hn : n < 2000) (hg : qAg n f g) : Met l yX0_put wsX0_put ({ frames := 1, cells := 0, slots := 0, locals := 21 }) (va_Pc [.ref h0, .int p0, .int p1] (fun U => U.heap.size = sz ∧ va_P (dC, dI) vwCl [(h0, .inr (0, [.ref h1, .int (nI n)])), (h1, .inl (cA, 2100, .inl f))] U.heap ∧ va_K (dC, dI) vwCl [(cA, .int)] U ∧ va_D (fun _ => True) [(h0, .inr (0, [.ref h1, .int (nI n)])), (h1, .inl (cA, 2100, .inl f))])) (va_Qi (fun (r : Int32) (u : qR) => (r, u) = qPut g n p0 p1) (at_Row dC dI (va_A [(h0, .inr (0, [.ref h1, .int (nI n)])), (h1, .inl (cA, 2100, .inl f))] sz) h0 h1 cA) (va_A [(h0, .inr (0, [.ref h1, .int (nI n)])), (h1, .inl (cA, 2100, .inl f))] sz)) 0 0 (va_A [(h0, .inr (0, [.ref h1, .int (nI n)])), (h1, .inl (cA, 2100, .inl f))] sz) := by
  refine Met.ofW (cc := cX0_put) (maxL := 3) (ret := (some .boolean)) (by decide +kernel) rfl ?_
  intro p e s m args below meth c s₁ B hml hv
  obtain ⟨rfl, hsz, hP, hK, hD0⟩ := hv
  have hx := B.exec
  have hb := B.bytes
  have hr := B.returns
  have hts := atoms_spec (ws := wsX0_put) B.pre
  have hown : s.vm.findClass RX0 = some m.cls := findClass_of_methodNamed B.named
  have hlocks := B.notSynchronized
  subst hsz
  have hD := hD0.self (sz := s.heap.size)
  generalize hAe : va_A [(h0, .inr (0, [.ref h1, .int (nI n)])), (h1, .inl (cA, 2100, .inl f))] s.heap.size = A at hD ⊢
  have hA : ∀ q : Nat, s.heap.size ≤ q → A q := fun q h => by rw [← hAe]; exact Or.inr h
  have hS : va_S A s.heap s.heap [] := va_S.rf
  have hl := lv_entry ([.ref h0, .int p0, .int p1]) (n := 3) (Nat.le_of_ble_eq_true rfl)
  rw [lg_entry_eq]
  generalize (lg_sl ([.ref h0, .int p0, .int p1]) ++ List.replicate (3 - (lg_sl ([.ref h0, .int p0, .int p1])).length) Slot.unset).toArray = ls at hl ⊢
  have hl : lv_has ls 3 [(0, .ref h0), (1, .int p0), (2, .int p1)] := hl
  rcases qHe_c p0 (n := n) (by omega) with h | ⟨k, hk, rfl⟩
  · refine lv_aload_n hx hb dX0_put_0 rfl (lv_at hl 0 rfl) ?_
    refine va_get (D := (dC, dI)) (ci := 0) (v := .int (nI n)) (C := RX0) (T := TX0) (N := 2) hx hb hts inX0_put_X0 hown hK hP 0 rfl rfl 1 (by decide) (hts (.fieldLink RX0 15 "QueueHall$Row" "count" "I") (List.mem_of_getElem? (i := 1) (by decide +kernel))) (fun _ h9 => h9) rfl dX0_put_1 ?_
    refine lv_sipush (v := 2000) hx hb dX0_put_4 (by decide) ?_
    refine lv_icmp_ge (tgt := 18) hx hb dX0_put_7 (by decide) (fun c_0 => absurd c_0 (show ¬ (2000 : Int32) ≤ (nI n) from (by simp (disch := omega) only [ti_lt, ti_le, ti_eq, ti_0, ti_1, ti_2, ti_m1, ti_100, ti_2000, nI_toInt] <;> omega))) (fun c_1 => ?_)
    have k_1 : n < 2000 := by
      simp (disch := omega) only [ti_lt, ti_le, ti_eq, ti_0, ti_1, ti_2, ti_m1, ti_100, ti_2000, nI_toInt] at c_1
      omega
    refine lv_aload_n hx hb dX0_put_10 rfl (lv_at hl 0 rfl) ?_
    refine lv_iload_n hx hb dX0_put_11 rfl (lv_at hl 1 rfl) ?_
    have hPc := hP.sub (ws' := [(h0, .inr (0, [.ref h1, .int (nI n)]))]) [0] rfl
    have hKc := hK.sub (tys' := []) [] rfl
    refine q_csiE (va_runV (As := [.int p0]) (rest := []) ⟨hx, hb, hml, hown, hts⟩ (c_Row_hasPlaceOrEnd l dC dI h0 h1 n p0) (cwV 1 hts gX0_put_X0_hasPlaceOrEnd_v rfl rfl rfl (by decide +kernel) ⟨Nat.le_of_ble_eq_true rfl, Nat.le_of_ble_eq_true rfl⟩) ⟨q_blR, va_recv hKc hPc (ci := 0) (q0 := 0) rfl rfl, fun U hU hW => ⟨rfl, by rw [hU]; exact hPc, va_K.moved hW.alike hKc⟩⟩ rfl rfl hl.1 rfl (lv_room (Nat.le_of_ble_eq_true rfl)) dX0_put_12 ⟨Nat.le_of_ble_eq_true rfl, Nat.le_of_ble_eq_true rfl⟩) ?_
    refine q_top (y := 0) h ?_
    refine lv_if_ne (tgt := 20) hx hb dX0_put_15 (by decide) (fun c_0 => absurd (show (0 : Int32) = (0 : Int32) from (by decide)) c_0) (fun c_2 => ?_)
    refine lv_iconst (v := 0) hx hb dX0_put_18 (by decide) ?_
    exact W.zret (v := 0) hx hb hr rfl (fun t ht hW => ⟨⟨0, (g, n), rfl, (qPut_o h).symm, f, hg, by rw [ht]; exact hP, va_K.moved hW.alike hK, hD⟩, hS.F ht⟩) hS.2.2 dX0_put_19
  · refine lv_aload_n hx hb dX0_put_0 rfl (lv_at hl 0 rfl) ?_
    refine va_get (D := (dC, dI)) (ci := 0) (v := .int (nI n)) (C := RX0) (T := TX0) (N := 2) hx hb hts inX0_put_X0 hown hK hP 0 rfl rfl 1 (by decide) (hts (.fieldLink RX0 15 "QueueHall$Row" "count" "I") (List.mem_of_getElem? (i := 1) (by decide +kernel))) (fun _ h9 => h9) rfl dX0_put_1 ?_
    refine lv_sipush (v := 2000) hx hb dX0_put_4 (by decide) ?_
    refine lv_icmp_ge (tgt := 18) hx hb dX0_put_7 (by decide) (fun c_0 => absurd c_0 (show ¬ (2000 : Int32) ≤ (nI n) from (by simp (disch := omega) only [ti_lt, ti_le, ti_eq, ti_0, ti_1, ti_2, ti_m1, ti_100, ti_2000, nI_toInt] <;> omega))) (fun c_3 => ?_)
    have k_3 : n < 2000 := by
      simp (disch := omega) only [ti_lt, ti_le, ti_eq, ti_0, ti_1, ti_2, ti_m1, ti_100, ti_2000, nI_toInt] at c_3
      omega
    refine lv_aload_n hx hb dX0_put_10 rfl (lv_at hl 0 rfl) ?_
    refine lv_iload_n hx hb dX0_put_11 rfl (lv_at hl 1 rfl) ?_
    have hPc := hP.sub (ws' := [(h0, .inr (0, [.ref h1, .int (nI n)]))]) [0] rfl
    have hKc := hK.sub (tys' := []) [] rfl
    refine q_csiE (va_runV (As := [.int (nI k)]) (rest := []) ⟨hx, hb, hml, hown, hts⟩ (c_Row_hasPlaceOrEnd l dC dI h0 h1 n (nI k)) (cwV 1 hts gX0_put_X0_hasPlaceOrEnd_v rfl rfl rfl (by decide +kernel) ⟨Nat.le_of_ble_eq_true rfl, Nat.le_of_ble_eq_true rfl⟩) ⟨q_blR, va_recv hKc hPc (ci := 0) (q0 := 0) rfl rfl, fun U hU hW => ⟨rfl, by rw [hU]; exact hPc, va_K.moved hW.alike hKc⟩⟩ rfl rfl hl.1 rfl (lv_room (Nat.le_of_ble_eq_true rfl)) dX0_put_12 ⟨Nat.le_of_ble_eq_true rfl, Nat.le_of_ble_eq_true rfl⟩) ?_
    refine q_top (y := 1) (qHe_in (by omega) (by omega)) ?_
    refine lv_if_ne (tgt := 20) hx hb dX0_put_15 (by decide) (fun c_4 => ?_) (fun c_0 => absurd c_0 (show ¬ (1 : Int32) = (0 : Int32) from (by decide)))
    refine lv_aload_n hx hb dX0_put_20 rfl (lv_at hl 0 rfl) ?_
    refine va_get (D := (dC, dI)) (ci := 0) (v := .ref h1) (C := RX0) (T := TX0) (N := 2) hx hb hts inX0_put_X0 hown hK hP 0 rfl rfl 0 (by decide) (hts (.fieldLink RX0 9 "QueueHall$Row" "numbers" "[I") (List.mem_of_getElem? (i := 7) (by decide +kernel))) (fun _ h9 => h9) rfl dX0_put_21 ?_
    refine lv_iload_n hx hb dX0_put_24 rfl (lv_at hl 1 rfl) ?_
    refine lv_aload_n hx hb dX0_put_25 rfl (lv_at hl 0 rfl) ?_
    refine va_get (D := (dC, dI)) (ci := 0) (v := .ref h1) (C := RX0) (T := TX0) (N := 2) hx hb hts inX0_put_X0 hown hK hP 0 rfl rfl 0 (by decide) (hts (.fieldLink RX0 9 "QueueHall$Row" "numbers" "[I") (List.mem_of_getElem? (i := 7) (by decide +kernel))) (fun _ h9 => h9) rfl dX0_put_26 ?_
    refine lv_iload_n hx hb dX0_put_29 rfl (lv_at hl 1 rfl) ?_
    refine lv_iconst (v := 1) hx hb dX0_put_30 (by decide) ?_
    refine lv_iadd hx hb dX0_put_31 ?_
    refine q_top (y := nI (k + 1)) (nI_1 k) ?_
    refine lv_aload_n hx hb dX0_put_32 rfl (lv_at hl 0 rfl) ?_
    refine va_get (D := (dC, dI)) (ci := 0) (v := .int (nI n)) (C := RX0) (T := TX0) (N := 2) hx hb hts inX0_put_X0 hown hK hP 0 rfl rfl 1 (by decide) (hts (.fieldLink RX0 15 "QueueHall$Row" "count" "I") (List.mem_of_getElem? (i := 1) (by decide +kernel))) (fun _ h9 => h9) rfl dX0_put_33 ?_
    refine lv_iload_n hx hb dX0_put_36 rfl (lv_at hl 1 rfl) ?_
    refine lv_isub hx hb dX0_put_37 ?_
    refine q_top (y := nI (n - k)) (pk_sub (by omega)) ?_
    refine q_copy (sp := k) (dp := k + 1) (n := n - k) hx hb (by rw [hml]; exact hl.1.symm) hown (hts (.methodLink RX0 28 arraycopyName) (List.mem_of_getElem? (i := 8) (by decide +kernel))) (hts (.native arraycopyName) (List.mem_of_getElem? (i := 9) (by decide +kernel))) (hts (.static arraycopyName) (List.mem_of_getElem? (i := 10) (by decide +kernel))) (hts (.initialized "java/lang/System") (List.mem_of_getElem? (i := 11) (by decide +kernel))) hK hP hD hS 1 1 0 0 rfl rfl rfl rfl (by omega) (by omega) (by omega) (by omega) (Nat.le_of_ble_eq_true rfl) (Nat.le_of_ble_eq_true rfl) dX0_put_38 (fun H locs hP hD hS => ?_)
    have hP : va_P (dC, dI) vwCl [(h0, .inr (0, [.ref h1, .int (nI n)])), (h1, .inl (cA, 2100, .inl (va_cpy f f k (k + 1) (n - k))))] H := hP
    have hD : va_D A [(h0, .inr (0, [.ref h1, .int (nI n)])), (h1, .inl (cA, 2100, .inl (va_cpy f f k (k + 1) (n - k))))] := hD
    refine lv_aload_n hx hb dX0_put_41 rfl (lv_at hl 0 rfl) ?_
    refine va_get (D := (dC, dI)) (ci := 0) (v := .ref h1) (C := RX0) (T := TX0) (N := 2) hx hb hts inX0_put_X0 hown hK hP 0 rfl rfl 0 (by decide) (hts (.fieldLink RX0 9 "QueueHall$Row" "numbers" "[I") (List.mem_of_getElem? (i := 7) (by decide +kernel))) (fun _ h9 => h9) rfl dX0_put_42 ?_
    refine lv_iload_n hx hb dX0_put_45 rfl (lv_at hl 1 rfl) ?_
    refine lv_iload_n hx hb dX0_put_46 rfl (lv_at hl 2 rfl) ?_
    refine q_iast (k := k) hx hb hK hP hD hS 1 0 rfl rfl (by omega) (by omega) dX0_put_47 (fun H locs hP hD hS => ?_)
    have hP : va_P (dC, dI) vwCl [(h0, .inr (0, [.ref h1, .int (nI n)])), (h1, .inl (cA, 2100, .inl (upd (va_cpy f f k (k + 1) (n - k)) k p1)))] H := hP
    have hD : va_D A [(h0, .inr (0, [.ref h1, .int (nI n)])), (h1, .inl (cA, 2100, .inl (upd (va_cpy f f k (k + 1) (n - k)) k p1)))] := hD
    refine lv_aload_n hx hb dX0_put_48 rfl (lv_at hl 0 rfl) ?_
    refine lv_dup hx hb dX0_put_49 rfl ?_
    refine va_get (D := (dC, dI)) (ci := 0) (v := .int (nI n)) (C := RX0) (T := TX0) (N := 2) hx hb hts inX0_put_X0 hown hK hP 0 rfl rfl 1 (by decide) (hts (.fieldLink RX0 15 "QueueHall$Row" "count" "I") (List.mem_of_getElem? (i := 1) (by decide +kernel))) (fun _ h9 => h9) rfl dX0_put_50 ?_
    refine lv_iconst (v := 1) hx hb dX0_put_53 (by decide) ?_
    refine lv_iadd hx hb dX0_put_54 ?_
    refine q_top (y := nI (n + 1)) (nI_1 n) ?_
    refine va_put (D := (dC, dI)) (ci := 0) (v := .int (nI (n + 1))) (ty := .int) (C := RX0) (T := TX0) (N := 2) hx hb hts inX0_put_X0 tyX0 tyX0_ok nmX0 hown hK hP hD hS 0 rfl rfl 1 (by decide) (hts (.fieldLink RX0 15 "QueueHall$Row" "count" "I") (List.mem_of_getElem? (i := 1) (by decide +kernel))) (fun _ h9 => h9) rfl (by decide +kernel) rfl rfl (Nat.le_of_ble_eq_true rfl) dX0_put_55 (fun H locs hP hD hS => ?_)
    have hP : va_P (dC, dI) vwCl [(h0, .inr (0, [.ref h1, .int (nI (n + 1))])), (h1, .inl (cA, 2100, .inl (upd (va_cpy f f k (k + 1) (n - k)) k p1)))] H := hP
    have hD : va_D A [(h0, .inr (0, [.ref h1, .int (nI (n + 1))])), (h1, .inl (cA, 2100, .inl (upd (va_cpy f f k (k + 1) (n - k)) k p1)))] := hD
    refine lv_iconst (v := 1) hx hb dX0_put_58 (by decide) ?_
    exact W.zret (v := 1) hx hb hr rfl (fun t ht hW => ⟨⟨1, (qIns g k p1, n + 1), rfl, (qPut_i hk (by omega)).symm, _, qAg_put hg hk, by rw [ht]; exact hP, va_K.moved hW.alike hK, hD⟩, hS.F ht⟩) hS.2.2 dX0_put_59

set_option maxHeartbeats 4000000 in
set_option maxRecDepth 100000 in
theorem c_Row_take (l : Launch) (dC : Nat → ClassId) (dI : Nat → Nat → Nat) (sz : Nat) (h0 h1 n : Nat) (cA : ClassId) (f g : Nat → Int32) (p0 : Int32) (hn : n < 2100) (hg : qAg n f g) : Met l yX0_take wsX0_take ({ frames := 1, cells := 0, slots := 0, locals := 21 }) (va_Pc [.ref h0, .int p0] (fun U => U.heap.size = sz ∧ va_P (dC, dI) vwCl [(h0, .inr (0, [.ref h1, .int (nI n)])), (h1, .inl (cA, 2100, .inl f))] U.heap ∧ va_K (dC, dI) vwCl [(cA, .int)] U ∧ va_D (fun _ => True) [(h0, .inr (0, [.ref h1, .int (nI n)])), (h1, .inl (cA, 2100, .inl f))])) (va_Ql (fun (r : Int64) (u : qR) => (r, u) = qTake g n p0) (at_Row dC dI (va_A [(h0, .inr (0, [.ref h1, .int (nI n)])), (h1, .inl (cA, 2100, .inl f))] sz) h0 h1 cA) (va_A [(h0, .inr (0, [.ref h1, .int (nI n)])), (h1, .inl (cA, 2100, .inl f))] sz)) 0 0 (va_A [(h0, .inr (0, [.ref h1, .int (nI n)])), (h1, .inl (cA, 2100, .inl f))] sz) := by
  refine Met.ofW (cc := cX0_take) (maxL := 3) (ret := (some .long)) (by decide +kernel) rfl ?_
  intro p e s m args below meth c s₁ B hml hv
  obtain ⟨rfl, hsz, hP, hK, hD0⟩ := hv
  have hx := B.exec
  have hb := B.bytes
  have hr := B.returns
  have hts := atoms_spec (ws := wsX0_take) B.pre
  have hown : s.vm.findClass RX0 = some m.cls := findClass_of_methodNamed B.named
  have hlocks := B.notSynchronized
  subst hsz
  have hD := hD0.self (sz := s.heap.size)
  generalize hAe : va_A [(h0, .inr (0, [.ref h1, .int (nI n)])), (h1, .inl (cA, 2100, .inl f))] s.heap.size = A at hD ⊢
  have hA : ∀ q : Nat, s.heap.size ≤ q → A q := fun q h => by rw [← hAe]; exact Or.inr h
  have hS : va_S A s.heap s.heap [] := va_S.rf
  have hl := lv_entry ([.ref h0, .int p0]) (n := 3) (Nat.le_of_ble_eq_true rfl)
  rw [lg_entry_eq]
  generalize (lg_sl ([.ref h0, .int p0]) ++ List.replicate (3 - (lg_sl ([.ref h0, .int p0])).length) Slot.unset).toArray = ls at hl ⊢
  have hl : lv_has ls 3 [(0, .ref h0), (1, .int p0)] := hl
  rcases qHp_c p0 (n := n) (by omega) with h | ⟨k, hk, rfl⟩
  · refine lv_aload_n hx hb dX0_take_0 rfl (lv_at hl 0 rfl) ?_
    refine lv_iload_n hx hb dX0_take_1 rfl (lv_at hl 1 rfl) ?_
    have hPc := hP.sub (ws' := [(h0, .inr (0, [.ref h1, .int (nI n)]))]) [0] rfl
    have hKc := hK.sub (tys' := []) [] rfl
    refine q_csiE (va_runV (As := [.int p0]) (rest := []) ⟨hx, hb, hml, hown, hts⟩ (c_Row_hasPlace l dC dI h0 h1 n p0) (cwV 1 hts gX0_take_X0_hasPlace_v rfl rfl rfl (by decide +kernel) ⟨Nat.le_of_ble_eq_true rfl, Nat.le_of_ble_eq_true rfl⟩) ⟨q_blR, va_recv hKc hPc (ci := 0) (q0 := 0) rfl rfl, fun U hU hW => ⟨rfl, by rw [hU]; exact hPc, va_K.moved hW.alike hKc⟩⟩ rfl rfl hl.1 rfl (lv_room (Nat.le_of_ble_eq_true rfl)) dX0_take_2 ⟨Nat.le_of_ble_eq_true rfl, Nat.le_of_ble_eq_true rfl⟩) ?_
    refine q_top (y := 0) h ?_
    refine lv_if_ne (tgt := 12) hx hb dX0_take_5 (by decide) (fun c_0 => absurd (show (0 : Int32) = (0 : Int32) from (by decide)) c_0) (fun c_1 => ?_)
    refine lv_ldc2 (v := qNo) hx hb hown (hts (.constantLong RX0 23 (1099511627776)) (List.mem_of_getElem? (i := 7) (by decide +kernel))) dX0_take_8 ?_
    exact W.lret (v := qNo) hx hb hr (fun t ht hW => ⟨⟨qNo, (g, n), rfl, (qTake_o h).symm, f, hg, by rw [ht]; exact hP, va_K.moved hW.alike hK, hD⟩, hS.F ht⟩) hS.2.2 dX0_take_11
  · refine lv_aload_n hx hb dX0_take_0 rfl (lv_at hl 0 rfl) ?_
    refine lv_iload_n hx hb dX0_take_1 rfl (lv_at hl 1 rfl) ?_
    have hPc := hP.sub (ws' := [(h0, .inr (0, [.ref h1, .int (nI n)]))]) [0] rfl
    have hKc := hK.sub (tys' := []) [] rfl
    refine q_csiE (va_runV (As := [.int (nI k)]) (rest := []) ⟨hx, hb, hml, hown, hts⟩ (c_Row_hasPlace l dC dI h0 h1 n (nI k)) (cwV 1 hts gX0_take_X0_hasPlace_v rfl rfl rfl (by decide +kernel) ⟨Nat.le_of_ble_eq_true rfl, Nat.le_of_ble_eq_true rfl⟩) ⟨q_blR, va_recv hKc hPc (ci := 0) (q0 := 0) rfl rfl, fun U hU hW => ⟨rfl, by rw [hU]; exact hPc, va_K.moved hW.alike hKc⟩⟩ rfl rfl hl.1 rfl (lv_room (Nat.le_of_ble_eq_true rfl)) dX0_take_2 ⟨Nat.le_of_ble_eq_true rfl, Nat.le_of_ble_eq_true rfl⟩) ?_
    refine q_top (y := 1) (qHp_in (by omega) (by omega)) ?_
    refine lv_if_ne (tgt := 12) hx hb dX0_take_5 (by decide) (fun c_2 => ?_) (fun c_0 => absurd c_0 (show ¬ (1 : Int32) = (0 : Int32) from (by decide)))
    refine lv_aload_n hx hb dX0_take_12 rfl (lv_at hl 0 rfl) ?_
    refine va_get (D := (dC, dI)) (ci := 0) (v := .ref h1) (C := RX0) (T := TX0) (N := 2) hx hb hts inX0_take_X0 hown hK hP 0 rfl rfl 0 (by decide) (hts (.fieldLink RX0 9 "QueueHall$Row" "numbers" "[I") (List.mem_of_getElem? (i := 8) (by decide +kernel))) (fun _ h9 => h9) rfl dX0_take_13 ?_
    refine lv_iload_n hx hb dX0_take_16 rfl (lv_at hl 1 rfl) ?_
    refine q_iald (k := k) hx hb hK hP 1 0 rfl rfl (by omega) (by omega) dX0_take_17 ?_
    refine lv_istore_n (lv' := [(2, .int (f k)), (0, .ref h0), (1, .int (nI k))]) hx hb dX0_take_18 rfl hl (by decide) rfl (fun ls hl => ?_)
    refine lv_aload_n hx hb dX0_take_19 rfl (lv_at hl 1 rfl) ?_
    refine lv_dup hx hb dX0_take_20 rfl ?_
    refine va_get (D := (dC, dI)) (ci := 0) (v := .int (nI n)) (C := RX0) (T := TX0) (N := 2) hx hb hts inX0_take_X0 hown hK hP 0 rfl rfl 1 (by decide) (hts (.fieldLink RX0 15 "QueueHall$Row" "count" "I") (List.mem_of_getElem? (i := 6) (by decide +kernel))) (fun _ h9 => h9) rfl dX0_take_21 ?_
    refine lv_iconst (v := 1) hx hb dX0_take_24 (by decide) ?_
    refine lv_isub hx hb dX0_take_25 ?_
    refine q_top (y := nI (n - 1)) (q_m1 (by omega)) ?_
    refine va_put (D := (dC, dI)) (ci := 0) (v := .int (nI (n - 1))) (ty := .int) (C := RX0) (T := TX0) (N := 2) hx hb hts inX0_take_X0 tyX0 tyX0_ok nmX0 hown hK hP hD hS 0 rfl rfl 1 (by decide) (hts (.fieldLink RX0 15 "QueueHall$Row" "count" "I") (List.mem_of_getElem? (i := 6) (by decide +kernel))) (fun _ h9 => h9) rfl (by decide +kernel) rfl rfl (Nat.le_of_ble_eq_true rfl) dX0_take_26 (fun H locs hP hD hS => ?_)
    have hP : va_P (dC, dI) vwCl [(h0, .inr (0, [.ref h1, .int (nI (n - 1))])), (h1, .inl (cA, 2100, .inl f))] H := hP
    have hD : va_D A [(h0, .inr (0, [.ref h1, .int (nI (n - 1))])), (h1, .inl (cA, 2100, .inl f))] := hD
    refine lv_aload_n hx hb dX0_take_29 rfl (lv_at hl 1 rfl) ?_
    refine va_get (D := (dC, dI)) (ci := 0) (v := .ref h1) (C := RX0) (T := TX0) (N := 2) hx hb hts inX0_take_X0 hown hK hP 0 rfl rfl 0 (by decide) (hts (.fieldLink RX0 9 "QueueHall$Row" "numbers" "[I") (List.mem_of_getElem? (i := 8) (by decide +kernel))) (fun _ h9 => h9) rfl dX0_take_30 ?_
    refine lv_iload_n hx hb dX0_take_33 rfl (lv_at hl 2 rfl) ?_
    refine lv_iconst (v := 1) hx hb dX0_take_34 (by decide) ?_
    refine lv_iadd hx hb dX0_take_35 ?_
    refine q_top (y := nI (k + 1)) (nI_1 k) ?_
    refine lv_aload_n hx hb dX0_take_36 rfl (lv_at hl 1 rfl) ?_
    refine va_get (D := (dC, dI)) (ci := 0) (v := .ref h1) (C := RX0) (T := TX0) (N := 2) hx hb hts inX0_take_X0 hown hK hP 0 rfl rfl 0 (by decide) (hts (.fieldLink RX0 9 "QueueHall$Row" "numbers" "[I") (List.mem_of_getElem? (i := 8) (by decide +kernel))) (fun _ h9 => h9) rfl dX0_take_37 ?_
    refine lv_iload_n hx hb dX0_take_40 rfl (lv_at hl 2 rfl) ?_
    refine lv_aload_n hx hb dX0_take_41 rfl (lv_at hl 1 rfl) ?_
    refine va_get (D := (dC, dI)) (ci := 0) (v := .int (nI (n - 1))) (C := RX0) (T := TX0) (N := 2) hx hb hts inX0_take_X0 hown hK hP 0 rfl rfl 1 (by decide) (hts (.fieldLink RX0 15 "QueueHall$Row" "count" "I") (List.mem_of_getElem? (i := 6) (by decide +kernel))) (fun _ h9 => h9) rfl dX0_take_42 ?_
    refine lv_iload_n hx hb dX0_take_45 rfl (lv_at hl 2 rfl) ?_
    refine lv_isub hx hb dX0_take_46 ?_
    refine q_top (y := nI ((n - 1) - k)) (pk_sub (by omega)) ?_
    refine q_copy (sp := k + 1) (dp := k) (n := (n - 1) - k) hx hb (by rw [hml]; exact hl.1.symm) hown (hts (.methodLink RX0 28 arraycopyName) (List.mem_of_getElem? (i := 9) (by decide +kernel))) (hts (.native arraycopyName) (List.mem_of_getElem? (i := 10) (by decide +kernel))) (hts (.static arraycopyName) (List.mem_of_getElem? (i := 11) (by decide +kernel))) (hts (.initialized "java/lang/System") (List.mem_of_getElem? (i := 12) (by decide +kernel))) hK hP hD hS 1 1 0 0 rfl rfl rfl rfl (by omega) (by omega) (by omega) (by omega) (Nat.le_of_ble_eq_true rfl) (Nat.le_of_ble_eq_true rfl) dX0_take_47 (fun H locs hP hD hS => ?_)
    have hP : va_P (dC, dI) vwCl [(h0, .inr (0, [.ref h1, .int (nI (n - 1))])), (h1, .inl (cA, 2100, .inl (va_cpy f f (k + 1) k ((n - 1) - k))))] H := hP
    have hD : va_D A [(h0, .inr (0, [.ref h1, .int (nI (n - 1))])), (h1, .inl (cA, 2100, .inl (va_cpy f f (k + 1) k ((n - 1) - k))))] := hD
    refine lv_iload_n hx hb dX0_take_50 rfl (lv_at hl 0 rfl) ?_
    refine lv_i2l (v := (f k).toInt64) hx hb dX0_take_51 rfl ?_
    exact W.lret (v := (f k).toInt64) hx hb hr (fun t ht hW => ⟨⟨(f k).toInt64, (qDel g k, n - 1), rfl, (by rw [qTake_i hk (by omega), hg k hk]), _, qAg_take hg hk, by rw [ht]; exact hP, va_K.moved hW.alike hK, hD⟩, hS.F ht⟩) hS.2.2 dX0_take_52

set_option maxHeartbeats 4000000 in
set_option maxRecDepth 100000 in
theorem c_Row_swap (l : Launch) (dC : Nat → ClassId) (dI : Nat → Nat → Nat) (sz : Nat) (h0 h1 n : Nat) (cA : ClassId) (f g : Nat → Int32) (p0 p1 : Int32) (hn : n < 2100) (hg : qAg n f g) : Met l yX0_swap wsX0_swap ({ frames := 1, cells := 0, slots := 0, locals := 21 }) (va_Pc [.ref h0, .int p0, .int p1] (fun U => U.heap.size = sz ∧ va_P (dC, dI) vwCl [(h0, .inr (0, [.ref h1, .int (nI n)])), (h1, .inl (cA, 2100, .inl f))] U.heap ∧ va_K (dC, dI) vwCl [(cA, .int)] U ∧ va_D (fun _ => True) [(h0, .inr (0, [.ref h1, .int (nI n)])), (h1, .inl (cA, 2100, .inl f))])) (va_Ql (fun (r : Int64) (u : qR) => (r, u) = qSwap g n p0 p1) (at_Row dC dI (va_A [(h0, .inr (0, [.ref h1, .int (nI n)])), (h1, .inl (cA, 2100, .inl f))] sz) h0 h1 cA) (va_A [(h0, .inr (0, [.ref h1, .int (nI n)])), (h1, .inl (cA, 2100, .inl f))] sz)) 0 0 (va_A [(h0, .inr (0, [.ref h1, .int (nI n)])), (h1, .inl (cA, 2100, .inl f))] sz) := by
  refine Met.ofW (cc := cX0_swap) (maxL := 4) (ret := (some .long)) (by decide +kernel) rfl ?_
  intro p e s m args below meth c s₁ B hml hv
  obtain ⟨rfl, hsz, hP, hK, hD0⟩ := hv
  have hx := B.exec
  have hb := B.bytes
  have hr := B.returns
  have hts := atoms_spec (ws := wsX0_swap) B.pre
  have hown : s.vm.findClass RX0 = some m.cls := findClass_of_methodNamed B.named
  have hlocks := B.notSynchronized
  subst hsz
  have hD := hD0.self (sz := s.heap.size)
  generalize hAe : va_A [(h0, .inr (0, [.ref h1, .int (nI n)])), (h1, .inl (cA, 2100, .inl f))] s.heap.size = A at hD ⊢
  have hA : ∀ q : Nat, s.heap.size ≤ q → A q := fun q h => by rw [← hAe]; exact Or.inr h
  have hS : va_S A s.heap s.heap [] := va_S.rf
  have hl := lv_entry ([.ref h0, .int p0, .int p1]) (n := 4) (Nat.le_of_ble_eq_true rfl)
  rw [lg_entry_eq]
  generalize (lg_sl ([.ref h0, .int p0, .int p1]) ++ List.replicate (4 - (lg_sl ([.ref h0, .int p0, .int p1])).length) Slot.unset).toArray = ls at hl ⊢
  have hl : lv_has ls 4 [(0, .ref h0), (1, .int p0), (2, .int p1)] := hl
  rcases qHp_c p0 (n := n) (by omega) with h | ⟨k, hk, rfl⟩
  · refine lv_aload_n hx hb dX0_swap_0 rfl (lv_at hl 0 rfl) ?_
    refine lv_iload_n hx hb dX0_swap_1 rfl (lv_at hl 1 rfl) ?_
    have hPc := hP.sub (ws' := [(h0, .inr (0, [.ref h1, .int (nI n)]))]) [0] rfl
    have hKc := hK.sub (tys' := []) [] rfl
    refine q_csiE (va_runV (As := [.int p0]) (rest := []) ⟨hx, hb, hml, hown, hts⟩ (c_Row_hasPlace l dC dI h0 h1 n p0) (cwV 1 hts gX0_swap_X0_hasPlace_v rfl rfl rfl (by decide +kernel) ⟨Nat.le_of_ble_eq_true rfl, Nat.le_of_ble_eq_true rfl⟩) ⟨q_blR, va_recv hKc hPc (ci := 0) (q0 := 0) rfl rfl, fun U hU hW => ⟨rfl, by rw [hU]; exact hPc, va_K.moved hW.alike hKc⟩⟩ rfl rfl hl.1 rfl (lv_room (Nat.le_of_ble_eq_true rfl)) dX0_swap_2 ⟨Nat.le_of_ble_eq_true rfl, Nat.le_of_ble_eq_true rfl⟩) ?_
    refine q_top (y := 0) h ?_
    refine lv_if_ne (tgt := 12) hx hb dX0_swap_5 (by decide) (fun c_0 => absurd (show (0 : Int32) = (0 : Int32) from (by decide)) c_0) (fun c_1 => ?_)
    refine lv_ldc2 (v := qNo) hx hb hown (hts (.constantLong RX0 23 (1099511627776)) (List.mem_of_getElem? (i := 7) (by decide +kernel))) dX0_swap_8 ?_
    exact W.lret (v := qNo) hx hb hr (fun t ht hW => ⟨⟨qNo, (g, n), rfl, (qSwap_o h).symm, f, hg, by rw [ht]; exact hP, va_K.moved hW.alike hK, hD⟩, hS.F ht⟩) hS.2.2 dX0_swap_11
  · refine lv_aload_n hx hb dX0_swap_0 rfl (lv_at hl 0 rfl) ?_
    refine lv_iload_n hx hb dX0_swap_1 rfl (lv_at hl 1 rfl) ?_
    have hPc := hP.sub (ws' := [(h0, .inr (0, [.ref h1, .int (nI n)]))]) [0] rfl
    have hKc := hK.sub (tys' := []) [] rfl
    refine q_csiE (va_runV (As := [.int (nI k)]) (rest := []) ⟨hx, hb, hml, hown, hts⟩ (c_Row_hasPlace l dC dI h0 h1 n (nI k)) (cwV 1 hts gX0_swap_X0_hasPlace_v rfl rfl rfl (by decide +kernel) ⟨Nat.le_of_ble_eq_true rfl, Nat.le_of_ble_eq_true rfl⟩) ⟨q_blR, va_recv hKc hPc (ci := 0) (q0 := 0) rfl rfl, fun U hU hW => ⟨rfl, by rw [hU]; exact hPc, va_K.moved hW.alike hKc⟩⟩ rfl rfl hl.1 rfl (lv_room (Nat.le_of_ble_eq_true rfl)) dX0_swap_2 ⟨Nat.le_of_ble_eq_true rfl, Nat.le_of_ble_eq_true rfl⟩) ?_
    refine q_top (y := 1) (qHp_in (by omega) (by omega)) ?_
    refine lv_if_ne (tgt := 12) hx hb dX0_swap_5 (by decide) (fun c_2 => ?_) (fun c_0 => absurd c_0 (show ¬ (1 : Int32) = (0 : Int32) from (by decide)))
    refine lv_aload_n hx hb dX0_swap_12 rfl (lv_at hl 0 rfl) ?_
    refine va_get (D := (dC, dI)) (ci := 0) (v := .ref h1) (C := RX0) (T := TX0) (N := 2) hx hb hts inX0_swap_X0 hown hK hP 0 rfl rfl 0 (by decide) (hts (.fieldLink RX0 9 "QueueHall$Row" "numbers" "[I") (List.mem_of_getElem? (i := 8) (by decide +kernel))) (fun _ h9 => h9) rfl dX0_swap_13 ?_
    refine lv_iload_n hx hb dX0_swap_16 rfl (lv_at hl 1 rfl) ?_
    refine q_iald (k := k) hx hb hK hP 1 0 rfl rfl (by omega) (by omega) dX0_swap_17 ?_
    refine lv_istore_n (lv' := [(3, .int (f k)), (0, .ref h0), (1, .int (nI k)), (2, .int p1)]) hx hb dX0_swap_18 rfl hl (by decide) rfl (fun ls hl => ?_)
    refine lv_aload_n hx hb dX0_swap_19 rfl (lv_at hl 1 rfl) ?_
    refine va_get (D := (dC, dI)) (ci := 0) (v := .ref h1) (C := RX0) (T := TX0) (N := 2) hx hb hts inX0_swap_X0 hown hK hP 0 rfl rfl 0 (by decide) (hts (.fieldLink RX0 9 "QueueHall$Row" "numbers" "[I") (List.mem_of_getElem? (i := 8) (by decide +kernel))) (fun _ h9 => h9) rfl dX0_swap_20 ?_
    refine lv_iload_n hx hb dX0_swap_23 rfl (lv_at hl 2 rfl) ?_
    refine lv_iload_n hx hb dX0_swap_24 rfl (lv_at hl 3 rfl) ?_
    refine q_iast (k := k) hx hb hK hP hD hS 1 0 rfl rfl (by omega) (by omega) dX0_swap_25 (fun H locs hP hD hS => ?_)
    have hP : va_P (dC, dI) vwCl [(h0, .inr (0, [.ref h1, .int (nI n)])), (h1, .inl (cA, 2100, .inl (upd f k p1)))] H := hP
    have hD : va_D A [(h0, .inr (0, [.ref h1, .int (nI n)])), (h1, .inl (cA, 2100, .inl (upd f k p1)))] := hD
    refine lv_iload_n hx hb dX0_swap_26 rfl (lv_at hl 0 rfl) ?_
    refine lv_i2l (v := (f k).toInt64) hx hb dX0_swap_27 rfl ?_
    exact W.lret (v := (f k).toInt64) hx hb hr (fun t ht hW => ⟨⟨(f k).toInt64, (upd g k p1, n), rfl, (by rw [qSwap_i hk (by omega), hg k hk]), _, qAg_upd hg, by rw [ht]; exact hP, va_K.moved hW.alike hK, hD⟩, hS.F ht⟩) hS.2.2 dX0_swap_28

set_option maxHeartbeats 4000000 in
set_option maxRecDepth 100000 in
theorem c_Row_wipe (l : Launch) (dC : Nat → ClassId) (dI : Nat → Nat → Nat) (sz : Nat) (h0 h1 n : Nat) (cA : ClassId) (f g : Nat → Int32) (hg : qAg n f g) : Met l yX0_wipe wsX0_wipe ({ frames := 0, cells := 0, slots := 0, locals := 0 }) (va_Pc [.ref h0] (fun U => U.heap.size = sz ∧ va_P (dC, dI) vwCl [(h0, .inr (0, [.ref h1, .int (nI n)])), (h1, .inl (cA, 2100, .inl f))] U.heap ∧ va_K (dC, dI) vwCl [(cA, .int)] U ∧ va_D (fun _ => True) [(h0, .inr (0, [.ref h1, .int (nI n)])), (h1, .inl (cA, 2100, .inl f))])) (va_Qi (fun (r : Int32) (u : qR) => (r, u) = (nI n, (g, 0))) (at_Row dC dI (va_A [(h0, .inr (0, [.ref h1, .int (nI n)])), (h1, .inl (cA, 2100, .inl f))] sz) h0 h1 cA) (va_A [(h0, .inr (0, [.ref h1, .int (nI n)])), (h1, .inl (cA, 2100, .inl f))] sz)) 0 0 (va_A [(h0, .inr (0, [.ref h1, .int (nI n)])), (h1, .inl (cA, 2100, .inl f))] sz) := by
  refine Met.ofW (cc := cX0_wipe) (maxL := 2) (ret := (some .int)) (by decide +kernel) rfl ?_
  intro p e s m args below meth c s₁ B hml hv
  obtain ⟨rfl, hsz, hP, hK, hD0⟩ := hv
  have hx := B.exec
  have hb := B.bytes
  have hr := B.returns
  have hts := atoms_spec (ws := wsX0_wipe) B.pre
  have hown : s.vm.findClass RX0 = some m.cls := findClass_of_methodNamed B.named
  have hlocks := B.notSynchronized
  subst hsz
  have hD := hD0.self (sz := s.heap.size)
  generalize hAe : va_A [(h0, .inr (0, [.ref h1, .int (nI n)])), (h1, .inl (cA, 2100, .inl f))] s.heap.size = A at hD ⊢
  have hA : ∀ q : Nat, s.heap.size ≤ q → A q := fun q h => by rw [← hAe]; exact Or.inr h
  have hS : va_S A s.heap s.heap [] := va_S.rf
  have hl := lv_entry ([.ref h0]) (n := 2) (Nat.le_of_ble_eq_true rfl)
  rw [lg_entry_eq]
  generalize (lg_sl ([.ref h0]) ++ List.replicate (2 - (lg_sl ([.ref h0])).length) Slot.unset).toArray = ls at hl ⊢
  have hl : lv_has ls 2 [(0, .ref h0)] := hl
  refine lv_aload_n hx hb dX0_wipe_0 rfl (lv_at hl 0 rfl) ?_
  refine va_get (D := (dC, dI)) (ci := 0) (v := .int (nI n)) (C := RX0) (T := TX0) (N := 2) hx hb hts inX0_wipe_X0 hown hK hP 0 rfl rfl 1 (by decide) (hts (.fieldLink RX0 15 "QueueHall$Row" "count" "I") (List.mem_of_getElem? (i := 1) (by decide +kernel))) (fun _ h9 => h9) rfl dX0_wipe_1 ?_
  refine lv_istore_n (lv' := [(1, .int (nI n)), (0, .ref h0)]) hx hb dX0_wipe_4 rfl hl (by decide) rfl (fun ls hl => ?_)
  refine lv_aload_n hx hb dX0_wipe_5 rfl (lv_at hl 1 rfl) ?_
  refine lv_iconst (v := nI 0) hx hb dX0_wipe_6 (by decide) ?_
  refine va_put (D := (dC, dI)) (ci := 0) (v := .int (nI 0)) (ty := .int) (C := RX0) (T := TX0) (N := 2) hx hb hts inX0_wipe_X0 tyX0 tyX0_ok nmX0 hown hK hP hD hS 0 rfl rfl 1 (by decide) (hts (.fieldLink RX0 15 "QueueHall$Row" "count" "I") (List.mem_of_getElem? (i := 1) (by decide +kernel))) (fun _ h9 => h9) rfl (by decide +kernel) rfl rfl (Nat.le_of_ble_eq_true rfl) dX0_wipe_7 (fun H locs hP hD hS => ?_)
  have hP : va_P (dC, dI) vwCl [(h0, .inr (0, [.ref h1, .int (nI 0)])), (h1, .inl (cA, 2100, .inl f))] H := hP
  have hD : va_D A [(h0, .inr (0, [.ref h1, .int (nI 0)])), (h1, .inl (cA, 2100, .inl f))] := hD
  refine lv_iload_n hx hb dX0_wipe_10 rfl (lv_at hl 0 rfl) ?_
  exact W.iret (v := nI n) hx hb hr (fun t ht hW => ⟨⟨nI n, (g, 0), rfl, rfl, f, qAg_0, by rw [ht]; exact hP, va_K.moved hW.alike hK, hD⟩, hS.F ht⟩) hS.2.2 dX0_wipe_11
end
section
set_option maxHeartbeats 4000000 in
set_option maxRecDepth 100000 in
theorem lp_first {p : Program} {l : Launch} {e : Env} {s : State} {m : MethodId} {args : Array Value} {below : List Frame} {meth : Method} {c : Code} {Q : State → Prop} {dC : Nat → ClassId} {dI : Nat → Nat → Nat} {H : Heap} {locs : List Loc} (h0 h1 n : Nat) (cA : ClassId) (f g : Nat → Int32) (p0 : Int32) (hn : n < 2100) (hg : qAg n f g) (hx : p.tables.exec = Jvm.exec) (hb : c.code = cX0_firstPlace) (hml : c.maxLocals = 3) (hts : ∀ w ∈ wsX0_firstPlace, w.before args s = true) (hown : s.vm.findClass RX0 = some m.cls) (hK : va_K (dC, dI) vwCl [(cA, .int)] s) (hP : va_P (dC, dI) vwCl [(h0, .inr (0, [.ref h1, .int (nI n)])), (h1, .inl (cA, 2100, .inl f))] H)
    (E0 : (∀ j, j < n → ¬ f j = p0) → ∀ ls : Array Slot, lv_has ls 3 [(0, .ref h0), (1, .int p0)] → W p l e (headSpec wsX0_firstPlace ({ frames := 0, cells := 0, slots := 0, locals := 0 })).room s m args below meth c H locs 0 0 Q (F0 m 28 ls []))
    (E1 : ∀ (i : Nat), (i < n) → (∀ j, j < i → ¬ f j = p0) → (f i = p0) → ∀ ls : Array Slot, lv_has ls 3 [(0, .ref h0), (1, .int p0), (2, .int (nI i))] → W p l e (headSpec wsX0_firstPlace ({ frames := 0, cells := 0, slots := 0, locals := 0 })).room s m args below meth c H locs 0 0 Q (F0 m 20 ls [])) :
    ∀ (fu : Nat) (i : Nat), (n + 1 ≤ i + fu) → (i ≤ n) → (∀ j, j < i → ¬ f j = p0) → ∀ ls : Array Slot, lv_has ls 3 [(0, .ref h0), (1, .int p0), (2, .int (nI i))] → W p l e (headSpec wsX0_firstPlace ({ frames := 0, cells := 0, slots := 0, locals := 0 })).room s m args below meth c H locs 0 0 Q (F0 m 2 ls []) := by
  intro fu
  induction fu with
  | zero =>
    intro i hfu hi hq
    exact absurd hfu (by omega)
  | succ fu ih =>
    intro i hfu hi hq ls hl
    refine lv_iload_n hx hb dX0_firstPlace_2 rfl (lv_at hl 2 rfl) ?_
    refine lv_aload_n hx hb dX0_firstPlace_3 rfl (lv_at hl 0 rfl) ?_
    refine va_get (D := (dC, dI)) (ci := 0) (v := .int (nI n)) (C := RX0) (T := TX0) (N := 2) hx hb hts inX0_firstPlace_X0 hown hK hP 0 rfl rfl 1 (by decide) (hts (.fieldLink RX0 15 "QueueHall$Row" "count" "I") (List.mem_of_getElem? (i := 1) (by decide +kernel))) (fun _ h9 => h9) rfl dX0_firstPlace_4 ?_
    refine lv_icmp_ge (tgt := 28) hx hb dX0_firstPlace_7 (by decide) (fun c_1 => ?_) (fun c_1 => ?_)
    · have k_1 : i ≥ n := by
        simp (disch := omega) only [ti_lt, ti_le, ti_eq, ti_0, ti_1, ti_2, ti_m1, ti_100, ti_2000, nI_toInt] at c_1
        omega
      exact E0  (fun j hj => hq j (by omega)) ls (lv_sub hl [0, 1] rfl)
    · have k_1 : i < n := by
        simp (disch := omega) only [ti_lt, ti_le, ti_eq, ti_0, ti_1, ti_2, ti_m1, ti_100, ti_2000, nI_toInt] at c_1
        omega
      refine lv_aload_n hx hb dX0_firstPlace_10 rfl (lv_at hl 0 rfl) ?_
      refine va_get (D := (dC, dI)) (ci := 0) (v := .ref h1) (C := RX0) (T := TX0) (N := 2) hx hb hts inX0_firstPlace_X0 hown hK hP 0 rfl rfl 0 (by decide) (hts (.fieldLink RX0 9 "QueueHall$Row" "numbers" "[I") (List.mem_of_getElem? (i := 2) (by decide +kernel))) (fun _ h9 => h9) rfl dX0_firstPlace_11 ?_
      refine lv_iload_n hx hb dX0_firstPlace_14 rfl (lv_at hl 2 rfl) ?_
      refine q_iald (k := i) hx hb hK hP 1 0 rfl rfl (by omega) (by omega) dX0_firstPlace_15 ?_
      refine lv_iload_n hx hb dX0_firstPlace_16 rfl (lv_at hl 1 rfl) ?_
      refine lv_icmp_ne (tgt := 22) hx hb dX0_firstPlace_17 (by decide) (fun c_2 => ?_) (fun c_2 => ?_)
      · refine lv_iinc (v := nI (i + 1)) (lv' := [(2, .int (nI (i + 1))), (0, .ref h0), (1, .int p0)]) hx hb dX0_firstPlace_22 hl (k := 2) rfl (nI_1 i) (by decide) rfl (fun ls hl => ?_)
        refine lv_goto (tgt := 2) hx hb dX0_firstPlace_25 (by decide) ?_
        exact ih (i + 1) (by omega) (by omega) (lt_s hq c_2) ls (lv_sub hl [1, 2, 0] rfl)
      · exact E1 i (by omega) hq c_2 ls (lv_sub hl [0, 1, 2] rfl)

set_option maxHeartbeats 4000000 in
set_option maxRecDepth 100000 in
theorem c_Row_firstPlace (l : Launch) (dC : Nat → ClassId) (dI : Nat → Nat → Nat) (h0 h1 n : Nat) (cA : ClassId) (f g : Nat → Int32) (p0 : Int32) (hn : n < 2100) (hg : qAg n f g) : Met l yX0_firstPlace wsX0_firstPlace ({ frames := 0, cells := 0, slots := 0, locals := 0 }) (va_Pc [.ref h0, .int p0] (fun U => va_P (dC, dI) vwCl [(h0, .inr (0, [.ref h1, .int (nI n)])), (h1, .inl (cA, 2100, .inl f))] U.heap ∧ va_K (dC, dI) vwCl [(cA, .int)] U)) (vp_Si (fun r => r = qPl g p0 0 n)) 0 0 (fun _ => False) := by
  refine Met.ofW (cc := cX0_firstPlace) (maxL := 3) (ret := (some .int)) (by decide +kernel) rfl ?_
  intro p e s m args below meth c s₁ B hml hv
  obtain ⟨rfl, hP, hK⟩ := hv
  have hx := B.exec
  have hb := B.bytes
  have hr := B.returns
  have hts := atoms_spec (ws := wsX0_firstPlace) B.pre
  have hown : s.vm.findClass RX0 = some m.cls := findClass_of_methodNamed B.named
  have hlocks := B.notSynchronized
  have hl := lv_entry ([.ref h0, .int p0]) (n := 3) (Nat.le_of_ble_eq_true rfl)
  rw [lg_entry_eq]
  generalize (lg_sl ([.ref h0, .int p0]) ++ List.replicate (3 - (lg_sl ([.ref h0, .int p0])).length) Slot.unset).toArray = ls at hl ⊢
  have hl : lv_has ls 3 [(0, .ref h0), (1, .int p0)] := hl
  refine lv_iconst (v := nI 0) hx hb dX0_firstPlace_0 (by decide) ?_
  refine lv_istore_n (lv' := [(2, .int (nI 0)), (0, .ref h0), (1, .int p0)]) hx hb dX0_firstPlace_1 rfl hl (by decide) rfl (fun ls hl => ?_)
  refine lp_first h0 h1 n cA f g p0 hn hg hx hb hml hts hown hK hP (fun hq ls hl => ?_) (fun i hi hq he ls hl => ?_) (n + 1) 0 (by omega) (by omega) (fun j hj => absurd hj (Nat.not_lt_zero j)) ls (lv_sub hl [1, 2, 0] rfl)
  · refine lv_iconst (v := -1) hx hb dX0_firstPlace_28 (by decide) ?_
    exact W.iret (v := -1) hx hb hr (fun t ht hW => ⟨-1, rfl, ((qPl_none hq).symm.trans (qPl_ag hg)), ht⟩) (fun q h => by cases h) dX0_firstPlace_29
  · refine lv_iload_n hx hb dX0_firstPlace_20 rfl (lv_at hl 2 rfl) ?_
    exact W.iret (v := nI i) hx hb hr (fun t ht hW => ⟨nI i, rfl, ((qPl_first hq he (by omega) n hi).symm.trans (qPl_ag hg)), ht⟩) (fun q h => by cases h) dX0_firstPlace_21

set_option maxHeartbeats 4000000 in
set_option maxRecDepth 100000 in
theorem lp_last {p : Program} {l : Launch} {e : Env} {s : State} {m : MethodId} {args : Array Value} {below : List Frame} {meth : Method} {c : Code} {Q : State → Prop} {dC : Nat → ClassId} {dI : Nat → Nat → Nat} {H : Heap} {locs : List Loc} (h0 h1 n : Nat) (cA : ClassId) (f g : Nat → Int32) (p0 : Int32) (hn : n < 2100) (hg : qAg n f g) (hx : p.tables.exec = Jvm.exec) (hb : c.code = cX0_lastPlace) (hml : c.maxLocals = 3) (hts : ∀ w ∈ wsX0_lastPlace, w.before args s = true) (hown : s.vm.findClass RX0 = some m.cls) (hK : va_K (dC, dI) vwCl [(cA, .int)] s) (hP : va_P (dC, dI) vwCl [(h0, .inr (0, [.ref h1, .int (nI n)])), (h1, .inl (cA, 2100, .inl f))] H)
    (E0 : (∀ j, j < n → ¬ f j = p0) → ∀ ls : Array Slot, lv_has ls 3 [(0, .ref h0), (1, .int p0)] → W p l e (headSpec wsX0_lastPlace ({ frames := 0, cells := 0, slots := 0, locals := 0 })).room s m args below meth c H locs 0 0 Q (F0 m 29 ls []))
    (E1 : ∀ (i : Nat), (i < n) → (∀ j, i < j → j < n → ¬ f j = p0) → (f i = p0) → ∀ ls : Array Slot, lv_has ls 3 [(0, .ref h0), (1, .int p0), (2, .int (nI i))] → W p l e (headSpec wsX0_lastPlace ({ frames := 0, cells := 0, slots := 0, locals := 0 })).room s m args below meth c H locs 0 0 Q (F0 m 21 ls [])) :
    ∀ (fu : Nat) (b : Nat) (x : Int32), (b + 1 ≤ fu) → (x = nI b - 1) → (b ≤ n) → (∀ j, b ≤ j → j < n → ¬ f j = p0) → ∀ ls : Array Slot, lv_has ls 3 [(0, .ref h0), (1, .int p0), (2, .int x)] → W p l e (headSpec wsX0_lastPlace ({ frames := 0, cells := 0, slots := 0, locals := 0 })).room s m args below meth c H locs 0 0 Q (F0 m 7 ls []) := by
  intro fu
  induction fu with
  | zero =>
    intro b x hfu hx0 hi hq
    exact absurd hfu (by omega)
  | succ fu ih =>
    intro b x hfu hx0 hi hq ls hl
    rcases b with _ | d
    · obtain rfl : x = -1 := hx0.trans q_0m1
      refine lv_iload_n hx hb dX0_lastPlace_7 rfl (lv_at hl 2 rfl) ?_
      refine lv_if_lt (tgt := 29) hx hb dX0_lastPlace_8 (by decide) (fun c_1 => ?_) (fun c_0 => absurd (show (-1 : Int32) < (0 : Int32) from (by decide)) c_0)
      exact E0  (fun j hj => hq j (Nat.zero_le j) hj) ls (lv_sub hl [0, 1] rfl)
    · obtain rfl : x = nI d := hx0.trans (nI_pred d)
      refine lv_iload_n hx hb dX0_lastPlace_7 rfl (lv_at hl 2 rfl) ?_
      refine lv_if_lt (tgt := 29) hx hb dX0_lastPlace_8 (by decide) (fun c_0 => absurd c_0 (show ¬ (nI d) < (0 : Int32) from (by simp (disch := omega) only [ti_lt, ti_le, ti_eq, ti_0, ti_1, ti_2, ti_m1, ti_100, ti_2000, nI_toInt] <;> omega))) (fun c_2 => ?_)
      have k_2 : d ≥ 0 := by
        simp (disch := omega) only [ti_lt, ti_le, ti_eq, ti_0, ti_1, ti_2, ti_m1, ti_100, ti_2000, nI_toInt] at c_2
        omega
      refine lv_aload_n hx hb dX0_lastPlace_11 rfl (lv_at hl 0 rfl) ?_
      refine va_get (D := (dC, dI)) (ci := 0) (v := .ref h1) (C := RX0) (T := TX0) (N := 2) hx hb hts inX0_lastPlace_X0 hown hK hP 0 rfl rfl 0 (by decide) (hts (.fieldLink RX0 9 "QueueHall$Row" "numbers" "[I") (List.mem_of_getElem? (i := 2) (by decide +kernel))) (fun _ h9 => h9) rfl dX0_lastPlace_12 ?_
      refine lv_iload_n hx hb dX0_lastPlace_15 rfl (lv_at hl 2 rfl) ?_
      refine q_iald (k := d) hx hb hK hP 1 0 rfl rfl (by omega) (by omega) dX0_lastPlace_16 ?_
      refine lv_iload_n hx hb dX0_lastPlace_17 rfl (lv_at hl 1 rfl) ?_
      refine lv_icmp_ne (tgt := 23) hx hb dX0_lastPlace_18 (by decide) (fun c_3 => ?_) (fun c_3 => ?_)
      · refine lv_iinc (v := nI d - 1) (lv' := [(2, .int (nI d - 1)), (0, .ref h0), (1, .int p0)]) hx hb dX0_lastPlace_23 hl (k := 2) rfl (q_dec (nI d)) (by decide) rfl (fun ls hl => ?_)
        refine lv_goto (tgt := 7) hx hb dX0_lastPlace_26 (by decide) ?_
        exact ih d (nI d - 1) (by omega) rfl (by omega) (fun j a b => by
            by_cases e1 : j = d
            · rw [e1]
              exact c_3
            · exact hq j (by omega) b) ls (lv_sub hl [1, 2, 0] rfl)
      · exact E1 d (by omega) (fun j a b => hq j (by omega) b) c_3 ls (lv_sub hl [0, 1, 2] rfl)

set_option maxHeartbeats 4000000 in
set_option maxRecDepth 100000 in
theorem c_Row_lastPlace (l : Launch) (dC : Nat → ClassId) (dI : Nat → Nat → Nat) (h0 h1 n : Nat) (cA : ClassId) (f g : Nat → Int32) (p0 : Int32) (hn : n < 2100) (hg : qAg n f g) : Met l yX0_lastPlace wsX0_lastPlace ({ frames := 0, cells := 0, slots := 0, locals := 0 }) (va_Pc [.ref h0, .int p0] (fun U => va_P (dC, dI) vwCl [(h0, .inr (0, [.ref h1, .int (nI n)])), (h1, .inl (cA, 2100, .inl f))] U.heap ∧ va_K (dC, dI) vwCl [(cA, .int)] U)) (vp_Si (fun r => r = qPl g p0 1 n)) 0 0 (fun _ => False) := by
  refine Met.ofW (cc := cX0_lastPlace) (maxL := 3) (ret := (some .int)) (by decide +kernel) rfl ?_
  intro p e s m args below meth c s₁ B hml hv
  obtain ⟨rfl, hP, hK⟩ := hv
  have hx := B.exec
  have hb := B.bytes
  have hr := B.returns
  have hts := atoms_spec (ws := wsX0_lastPlace) B.pre
  have hown : s.vm.findClass RX0 = some m.cls := findClass_of_methodNamed B.named
  have hlocks := B.notSynchronized
  have hl := lv_entry ([.ref h0, .int p0]) (n := 3) (Nat.le_of_ble_eq_true rfl)
  rw [lg_entry_eq]
  generalize (lg_sl ([.ref h0, .int p0]) ++ List.replicate (3 - (lg_sl ([.ref h0, .int p0])).length) Slot.unset).toArray = ls at hl ⊢
  have hl : lv_has ls 3 [(0, .ref h0), (1, .int p0)] := hl
  refine lv_aload_n hx hb dX0_lastPlace_0 rfl (lv_at hl 0 rfl) ?_
  refine va_get (D := (dC, dI)) (ci := 0) (v := .int (nI n)) (C := RX0) (T := TX0) (N := 2) hx hb hts inX0_lastPlace_X0 hown hK hP 0 rfl rfl 1 (by decide) (hts (.fieldLink RX0 15 "QueueHall$Row" "count" "I") (List.mem_of_getElem? (i := 1) (by decide +kernel))) (fun _ h9 => h9) rfl dX0_lastPlace_1 ?_
  refine lv_iconst (v := 1) hx hb dX0_lastPlace_4 (by decide) ?_
  refine lv_isub hx hb dX0_lastPlace_5 ?_
  refine lv_istore_n (lv' := [(2, .int ((nI n) - 1)), (0, .ref h0), (1, .int p0)]) hx hb dX0_lastPlace_6 rfl hl (by decide) rfl (fun ls hl => ?_)
  refine lp_last h0 h1 n cA f g p0 hn hg hx hb hml hts hown hK hP (fun hq ls hl => ?_) (fun i hi hq he ls hl => ?_) (n + 1) n (nI n - 1) (by omega) rfl (by omega) (fun j a b => absurd a (by omega)) ls (lv_sub hl [1, 2, 0] rfl)
  · refine lv_iconst (v := -1) hx hb dX0_lastPlace_29 (by decide) ?_
    exact W.iret (v := -1) hx hb hr (fun t ht hW => ⟨-1, rfl, ((qPl_none hq).symm.trans (qPl_ag hg)), ht⟩) (fun q h => by cases h) dX0_lastPlace_30
  · refine lv_iload_n hx hb dX0_lastPlace_21 rfl (lv_at hl 2 rfl) ?_
    exact W.iret (v := nI i) hx hb hr (fun t ht hW => ⟨nI i, rfl, ((qPl_last he n hi hq).symm.trans (qPl_ag hg)), ht⟩) (fun q h => by cases h) dX0_lastPlace_22

set_option maxHeartbeats 4000000 in
set_option maxRecDepth 100000 in
theorem lp_below {p : Program} {l : Launch} {e : Env} {s : State} {m : MethodId} {args : Array Value} {below : List Frame} {meth : Method} {c : Code} {Q : State → Prop} {dC : Nat → ClassId} {dI : Nat → Nat → Nat} {H : Heap} {locs : List Loc} (h0 h1 n : Nat) (cA : ClassId) (f g : Nat → Int32) (p0 : Int32) (hn : n < 2100) (hg : qAg n f g) (hx : p.tables.exec = Jvm.exec) (hb : c.code = cX0_countBelow) (hml : c.maxLocals = 4) (hts : ∀ w ∈ wsX0_countBelow, w.before args s = true) (hown : s.vm.findClass RX0 = some m.cls) (hK : va_K (dC, dI) vwCl [(cA, .int)] s) (hP : va_P (dC, dI) vwCl [(h0, .inr (0, [.ref h1, .int (nI n)])), (h1, .inl (cA, 2100, .inl f))] H)
    (E0 : ∀ (b : Nat), (b = qCb f p0 n) → ∀ ls : Array Slot, lv_has ls 4 [(0, .ref h0), (1, .int p0), (2, .int (nI b))] → W p l e (headSpec wsX0_countBelow ({ frames := 0, cells := 0, slots := 0, locals := 0 })).room s m args below meth c H locs 0 0 Q (F0 m 31 ls [])) :
    ∀ (fu : Nat) (i : Nat) (b : Nat), (n + 1 ≤ i + fu) → (i ≤ n) → (b = qCb f p0 i) → ∀ ls : Array Slot, lv_has ls 4 [(0, .ref h0), (1, .int p0), (2, .int (nI b)), (3, .int (nI i))] → W p l e (headSpec wsX0_countBelow ({ frames := 0, cells := 0, slots := 0, locals := 0 })).room s m args below meth c H locs 0 0 Q (F0 m 4 ls []) := by
  intro fu
  induction fu with
  | zero =>
    intro i b hfu hi hb0
    exact absurd hfu (by omega)
  | succ fu ih =>
    intro i b hfu hi hb0 ls hl
    refine lv_iload_n hx hb dX0_countBelow_4 rfl (lv_at hl 3 rfl) ?_
    refine lv_aload_n hx hb dX0_countBelow_5 rfl (lv_at hl 0 rfl) ?_
    refine va_get (D := (dC, dI)) (ci := 0) (v := .int (nI n)) (C := RX0) (T := TX0) (N := 2) hx hb hts inX0_countBelow_X0 hown hK hP 0 rfl rfl 1 (by decide) (hts (.fieldLink RX0 15 "QueueHall$Row" "count" "I") (List.mem_of_getElem? (i := 1) (by decide +kernel))) (fun _ h9 => h9) rfl dX0_countBelow_6 ?_
    refine lv_icmp_ge (tgt := 31) hx hb dX0_countBelow_9 (by decide) (fun c_1 => ?_) (fun c_1 => ?_)
    · have k_1 : i ≥ n := by
        simp (disch := omega) only [ti_lt, ti_le, ti_eq, ti_0, ti_1, ti_2, ti_m1, ti_100, ti_2000, nI_toInt] at c_1
        omega
      exact E0 b (by rw [hb0, show i = n by omega]) ls (lv_sub hl [0, 1, 2] rfl)
    · have k_1 : i < n := by
        simp (disch := omega) only [ti_lt, ti_le, ti_eq, ti_0, ti_1, ti_2, ti_m1, ti_100, ti_2000, nI_toInt] at c_1
        omega
      refine lv_aload_n hx hb dX0_countBelow_12 rfl (lv_at hl 0 rfl) ?_
      refine va_get (D := (dC, dI)) (ci := 0) (v := .ref h1) (C := RX0) (T := TX0) (N := 2) hx hb hts inX0_countBelow_X0 hown hK hP 0 rfl rfl 0 (by decide) (hts (.fieldLink RX0 9 "QueueHall$Row" "numbers" "[I") (List.mem_of_getElem? (i := 2) (by decide +kernel))) (fun _ h9 => h9) rfl dX0_countBelow_13 ?_
      refine lv_iload_n hx hb dX0_countBelow_16 rfl (lv_at hl 3 rfl) ?_
      refine q_iald (k := i) hx hb hK hP 1 0 rfl rfl (by omega) (by omega) dX0_countBelow_17 ?_
      refine lv_iload_n hx hb dX0_countBelow_18 rfl (lv_at hl 1 rfl) ?_
      refine lv_icmp_ge (tgt := 25) hx hb dX0_countBelow_19 (by decide) (fun c_2 => ?_) (fun c_2 => ?_)
      · refine lv_iinc (v := nI (i + 1)) (lv' := [(3, .int (nI (i + 1))), (0, .ref h0), (1, .int p0), (2, .int (nI b))]) hx hb dX0_countBelow_25 hl (k := 3) rfl (nI_1 i) (by decide) rfl (fun ls hl => ?_)
        refine lv_goto (tgt := 4) hx hb dX0_countBelow_28 (by decide) ?_
        exact ih (i + 1) b (by omega) (by omega) (by rw [hb0]; simp only [qCb, if_neg (show ¬ f i < p0 from fun q => by rw [ti_lt] at q; rw [ti_le] at c_2; omega)]) ls (lv_sub hl [1, 2, 3, 0] rfl)
      · refine lv_iinc (v := nI (b + 1)) (lv' := [(2, .int (nI (b + 1))), (0, .ref h0), (1, .int p0), (3, .int (nI i))]) hx hb dX0_countBelow_22 hl (k := 2) rfl (nI_1 b) (by decide) rfl (fun ls hl => ?_)
        refine lv_iinc (v := nI (i + 1)) (lv' := [(3, .int (nI (i + 1))), (2, .int (nI (b + 1))), (0, .ref h0), (1, .int p0)]) hx hb dX0_countBelow_25 hl (k := 3) rfl (nI_1 i) (by decide) rfl (fun ls hl => ?_)
        refine lv_goto (tgt := 4) hx hb dX0_countBelow_28 (by decide) ?_
        exact ih (i + 1) (b + 1) (by omega) (by omega) (by rw [hb0]; simp only [qCb, if_pos (show f i < p0 from by rw [ti_le] at c_2; rw [ti_lt]; omega)]) ls (lv_sub hl [2, 3, 1, 0] rfl)

set_option maxHeartbeats 4000000 in
set_option maxRecDepth 100000 in
theorem c_Row_countBelow (l : Launch) (dC : Nat → ClassId) (dI : Nat → Nat → Nat) (h0 h1 n : Nat) (cA : ClassId) (f g : Nat → Int32) (p0 : Int32) (hn : n < 2100) (hg : qAg n f g) : Met l yX0_countBelow wsX0_countBelow ({ frames := 0, cells := 0, slots := 0, locals := 0 }) (va_Pc [.ref h0, .int p0] (fun U => va_P (dC, dI) vwCl [(h0, .inr (0, [.ref h1, .int (nI n)])), (h1, .inl (cA, 2100, .inl f))] U.heap ∧ va_K (dC, dI) vwCl [(cA, .int)] U)) (vp_Si (fun r => r = nI (qCb g p0 n))) 0 0 (fun _ => False) := by
  refine Met.ofW (cc := cX0_countBelow) (maxL := 4) (ret := (some .int)) (by decide +kernel) rfl ?_
  intro p e s m args below meth c s₁ B hml hv
  obtain ⟨rfl, hP, hK⟩ := hv
  have hx := B.exec
  have hb := B.bytes
  have hr := B.returns
  have hts := atoms_spec (ws := wsX0_countBelow) B.pre
  have hown : s.vm.findClass RX0 = some m.cls := findClass_of_methodNamed B.named
  have hlocks := B.notSynchronized
  have hl := lv_entry ([.ref h0, .int p0]) (n := 4) (Nat.le_of_ble_eq_true rfl)
  rw [lg_entry_eq]
  generalize (lg_sl ([.ref h0, .int p0]) ++ List.replicate (4 - (lg_sl ([.ref h0, .int p0])).length) Slot.unset).toArray = ls at hl ⊢
  have hl : lv_has ls 4 [(0, .ref h0), (1, .int p0)] := hl
  refine lv_iconst (v := nI 0) hx hb dX0_countBelow_0 (by decide) ?_
  refine lv_istore_n (lv' := [(2, .int (nI 0)), (0, .ref h0), (1, .int p0)]) hx hb dX0_countBelow_1 rfl hl (by decide) rfl (fun ls hl => ?_)
  refine lv_iconst (v := nI 0) hx hb dX0_countBelow_2 (by decide) ?_
  refine lv_istore_n (lv' := [(3, .int (nI 0)), (2, .int (nI 0)), (0, .ref h0), (1, .int p0)]) hx hb dX0_countBelow_3 rfl hl (by decide) rfl (fun ls hl => ?_)
  refine lp_below h0 h1 n cA f g p0 hn hg hx hb hml hts hown hK hP (fun b hb0 ls hl => ?_) (n + 1) 0 0 (by omega) (by omega) rfl ls (lv_sub hl [2, 3, 1, 0] rfl)
  refine lv_iload_n hx hb dX0_countBelow_31 rfl (lv_at hl 2 rfl) ?_
  exact W.iret (v := nI b) hx hb hr (fun t ht hW => ⟨nI b, rfl, (by rw [hb0, qCb_ag hg]), ht⟩) (fun q h => by cases h) dX0_countBelow_32
end
section
/-! A new row of ints; the end of a sieve. -/
theorem q_newi {p : Program} {l : Launch} {e : Env} {R : Room} {s : State} {m : MethodId} {args : Array Value} {below : List Frame} {meth : Method} {c : Code} {H : Heap} {locs : List Loc} {cells slots : Nat} {Q : State → Prop} {pc : Nat} {ls : Array Slot} {rest : List Value} {cc : ByteArray} {D : va_G} {cl : List vw_C} {tys : List (ClassId × FieldType)} {ws : va_W} {A : Nat → Prop} {H0 : Heap} (hexec : p.tables.exec = Jvm.exec) (hb : c.code = cc) (harr : (Cond.arrayClass .int).before args s = true) (hK : va_K D cl tys s) (hP : va_P D cl ws H) (hD : va_D A ws) (hS : va_S A H0 H locs) (hA : ∀ q, H0.size ≤ q → A q)
    {n : Int32} {N : Nat} (hn : ¬ n < 0) (hN : n.toNatClampNeg = N) (hbytes : N * componentBytes .int ≤ 536870912) (hcells : cells + 1 ≤ R.cells) (hslots : slots + N ≤ R.slots) (hdg : decode cc pc = .ok (.newarray .int, 2))
    (kk : ∀ (q : Nat) (cA : ClassId) (H1 : Heap), va_K D cl (tys ++ [(cA, .int)]) s → va_P D cl (ws ++ [(q, .inl (cA, N, .inl (fun _ => 0)))]) H1 → va_D A (ws ++ [(q, .inl (cA, N, .inl (fun _ => 0)))]) → va_S A H0 H1 locs →
      W p l e R s m args below meth c H1 locs (cells + 1) (slots + N) Q (F0 m (pc + 2) ls (.ref q :: rest))) : W p l e R s m args below meth c H locs cells slots Q (F0 m pc ls (.int n :: rest)) :=
  va_newa (atype := .int) (ty := .int) (N' := N) (a0 := (N, .inl (fun _ => 0))) hexec hb harr rfl hK hP hD hS hA (fun _ => rfl) hn hN hbytes hcells hslots hdg kk
theorem qSv_end {a g : Nat → Int32} {st re : Int32} {i n : Nat} (h : qSv a g st re i n) (e : i = n) : qSv a g st re n n := by
  subst e
  exact h
end
section
set_option maxHeartbeats 4000000 in
set_option maxRecDepth 100000 in
theorem lp_rest {p : Program} {l : Launch} {e : Env} {s : State} {m : MethodId} {args : Array Value} {below : List Frame} {meth : Method} {c : Code} {Q : State → Prop} {dC : Nat → ClassId} {dI : Nat → Nat → Nat} {A : Nat → Prop} (h0 h1 n : Nat) (cA : ClassId) (f g : Nat → Int32) (p0 p1 : Int32) (hn : n < 2100) (hg : qAg n f g) (hnz : ¬ p0 = 0) (hx : p.tables.exec = Jvm.exec) (hb : c.code = cX0_takeRest) (hml : c.maxLocals = 5) (hts : ∀ w ∈ wsX0_takeRest, w.before args s = true) (hown : s.vm.findClass RX0 = some m.cls) (hK : va_K (dC, dI) vwCl [(cA, .int)] s) (hA : ∀ q : Nat, s.heap.size ≤ q → A q)
    (E0 : ∀ (b : Nat) (a : Nat → Int32), (b = qSc g p0 p1 n) → (qSv a g p0 p1 n n) → ∀ (H : Heap) (locs : List Loc), va_P (dC, dI) vwCl [(h0, .inr (0, [.ref h1, .int (nI n)])), (h1, .inl (cA, 2100, .inl a))] H → va_D A [(h0, .inr (0, [.ref h1, .int (nI n)])), (h1, .inl (cA, 2100, .inl a))] → va_S A s.heap H locs → ∀ ls : Array Slot, lv_has ls 5 [(0, .ref h0), (1, .int p0), (2, .int p1), (3, .int (nI b))] → W p l e (headSpec wsX0_takeRest ({ frames := 1, cells := 0, slots := 0, locals := 22 })).room s m args below meth c H locs 0 0 Q (F0 m 58 ls [])) :
    ∀ (fu : Nat) (i : Nat) (b : Nat) (a : Nat → Int32), (n + 1 ≤ i + fu) → (i ≤ n) → (b = qSc g p0 p1 i) → (qSv a g p0 p1 i n) → ∀ (H : Heap) (locs : List Loc), va_P (dC, dI) vwCl [(h0, .inr (0, [.ref h1, .int (nI n)])), (h1, .inl (cA, 2100, .inl a))] H → va_D A [(h0, .inr (0, [.ref h1, .int (nI n)])), (h1, .inl (cA, 2100, .inl a))] → va_S A s.heap H locs → ∀ ls : Array Slot, lv_has ls 5 [(0, .ref h0), (1, .int p0), (2, .int p1), (3, .int (nI b)), (4, .int (nI i))] → W p l e (headSpec wsX0_takeRest ({ frames := 1, cells := 0, slots := 0, locals := 22 })).room s m args below meth c H locs 0 0 Q (F0 m 12 ls []) := by
  intro fu
  induction fu with
  | zero =>
    intro i b a hfu hi hb0 hv
    exact absurd hfu (by omega)
  | succ fu ih =>
    intro i b a hfu hi hb0 hv H locs hP hD hS ls hl
    have hbi := qSc_le (g := g) (st := p0) (re := p1) i
    refine lv_iload hx hb dX0_takeRest_12 (lv_at hl 4 rfl) ?_
    refine lv_aload_n hx hb dX0_takeRest_14 rfl (lv_at hl 0 rfl) ?_
    refine va_get (D := (dC, dI)) (ci := 0) (v := .int (nI n)) (C := RX0) (T := TX0) (N := 2) hx hb hts inX0_takeRest_X0 hown hK hP 0 rfl rfl 1 (by decide) (hts (.fieldLink RX0 15 "QueueHall$Row" "count" "I") (List.mem_of_getElem? (i := 1) (by decide +kernel))) (fun _ h9 => h9) rfl dX0_takeRest_15 ?_
    refine lv_icmp_ge (tgt := 58) hx hb dX0_takeRest_18 (by decide) (fun c_1 => ?_) (fun c_1 => ?_)
    · have k_1 : i ≥ n := by
        simp (disch := omega) only [ti_lt, ti_le, ti_eq, ti_0, ti_1, ti_2, ti_m1, ti_100, ti_2000, nI_toInt] at c_1
        omega
      exact E0 b a (by rw [hb0, show i = n by omega]) (qSv_end hv (by omega)) _ _ hP hD hS ls (lv_sub hl [0, 1, 2, 3] rfl)
    · have k_1 : i < n := by
        simp (disch := omega) only [ti_lt, ti_le, ti_eq, ti_0, ti_1, ti_2, ti_m1, ti_100, ti_2000, nI_toInt] at c_1
        omega
      refine lv_aload_n hx hb dX0_takeRest_21 rfl (lv_at hl 0 rfl) ?_
      refine va_get (D := (dC, dI)) (ci := 0) (v := .ref h1) (C := RX0) (T := TX0) (N := 2) hx hb hts inX0_takeRest_X0 hown hK hP 0 rfl rfl 0 (by decide) (hts (.fieldLink RX0 9 "QueueHall$Row" "numbers" "[I") (List.mem_of_getElem? (i := 2) (by decide +kernel))) (fun _ h9 => h9) rfl dX0_takeRest_22 ?_
      refine lv_iload hx hb dX0_takeRest_25 (lv_at hl 4 rfl) ?_
      refine q_iald (k := i) hx hb hK hP 1 0 rfl rfl (by omega) (by omega) dX0_takeRest_27 ?_
      refine lv_iload_n hx hb dX0_takeRest_28 rfl (lv_at hl 1 rfl) ?_
      have hPc := hP.sub (ws' := []) [] rfl
      have hKc := hK.sub (tys' := []) [] rfl
      refine q_csiE (va_runS (As := [.int (a i), .int p0]) (rest := []) ⟨hx, hb, hml, hown, hts⟩ (c_floorMod l dC dI (a i) p0 hnz) (va_cwS 2 hts gX0_takeRest_J9_floorMod_7cf53_v rfl rfl rfl (by decide +kernel) ⟨Nat.le_of_ble_eq_true rfl, Nat.le_of_ble_eq_true rfl⟩) ⟨q_blR, fun U hU hW => ⟨rfl, by rw [hU]; exact hPc, va_K.moved hW.alike hKc⟩⟩ rfl rfl hl.1 rfl (lv_room (Nat.le_of_ble_eq_true rfl)) dX0_takeRest_29 ⟨Nat.le_of_ble_eq_true rfl, Nat.le_of_ble_eq_true rfl⟩) ?_
      refine lv_iload_n hx hb dX0_takeRest_32 rfl (lv_at hl 2 rfl) ?_
      refine lv_icmp_eq (tgt := 52) hx hb dX0_takeRest_33 (by decide) (fun c_2 => ?_) (fun c_2 => ?_)
      · refine lv_iinc (v := nI (i + 1)) (lv' := [(4, .int (nI (i + 1))), (0, .ref h0), (1, .int p0), (2, .int p1), (3, .int (nI b))]) hx hb dX0_takeRest_52 hl (k := 4) rfl (nI_1 i) (by decide) rfl (fun ls hl => ?_)
        refine lv_goto (tgt := 12) hx hb dX0_takeRest_55 (by decide) ?_
        exact ih (i + 1) b a (by omega) (by omega) (by rw [(qSv_n hv k_1 c_2).2]; exact hb0) ((qSv_n hv k_1 c_2).1) _ _ hP hD hS ls (lv_sub hl [1, 2, 3, 4, 0] rfl)
      · refine lv_aload_n hx hb dX0_takeRest_36 rfl (lv_at hl 0 rfl) ?_
        refine va_get (D := (dC, dI)) (ci := 0) (v := .ref h1) (C := RX0) (T := TX0) (N := 2) hx hb hts inX0_takeRest_X0 hown hK hP 0 rfl rfl 0 (by decide) (hts (.fieldLink RX0 9 "QueueHall$Row" "numbers" "[I") (List.mem_of_getElem? (i := 2) (by decide +kernel))) (fun _ h9 => h9) rfl dX0_takeRest_37 ?_
        refine lv_iload_n hx hb dX0_takeRest_40 rfl (lv_at hl 3 rfl) ?_
        refine lv_aload_n hx hb dX0_takeRest_41 rfl (lv_at hl 0 rfl) ?_
        refine va_get (D := (dC, dI)) (ci := 0) (v := .ref h1) (C := RX0) (T := TX0) (N := 2) hx hb hts inX0_takeRest_X0 hown hK hP 0 rfl rfl 0 (by decide) (hts (.fieldLink RX0 9 "QueueHall$Row" "numbers" "[I") (List.mem_of_getElem? (i := 2) (by decide +kernel))) (fun _ h9 => h9) rfl dX0_takeRest_42 ?_
        refine lv_iload hx hb dX0_takeRest_45 (lv_at hl 4 rfl) ?_
        refine q_iald (k := i) hx hb hK hP 1 0 rfl rfl (by omega) (by omega) dX0_takeRest_47 ?_
        refine q_iast (k := b) hx hb hK hP hD hS 1 0 rfl rfl (by omega) (by omega) dX0_takeRest_48 (fun H locs hP hD hS => ?_)
        have hP : va_P (dC, dI) vwCl [(h0, .inr (0, [.ref h1, .int (nI n)])), (h1, .inl (cA, 2100, .inl (upd a b (a i))))] H := hP
        have hD : va_D A [(h0, .inr (0, [.ref h1, .int (nI n)])), (h1, .inl (cA, 2100, .inl (upd a b (a i))))] := hD
        refine lv_iinc (v := nI (b + 1)) (lv' := [(3, .int (nI (b + 1))), (0, .ref h0), (1, .int p0), (2, .int p1), (4, .int (nI i))]) hx hb dX0_takeRest_49 hl (k := 3) rfl (nI_1 b) (by decide) rfl (fun ls hl => ?_)
        refine lv_iinc (v := nI (i + 1)) (lv' := [(4, .int (nI (i + 1))), (3, .int (nI (b + 1))), (0, .ref h0), (1, .int p0), (2, .int p1)]) hx hb dX0_takeRest_52 hl (k := 4) rfl (nI_1 i) (by decide) rfl (fun ls hl => ?_)
        refine lv_goto (tgt := 12) hx hb dX0_takeRest_55 (by decide) ?_
        exact ih (i + 1) (b + 1) (upd a b (a i)) (by omega) (by omega) (by rw [(qSv_y hv k_1 c_2).2, hb0]) (by rw [hb0]; exact (qSv_y hv k_1 c_2).1) _ _ hP hD hS ls (lv_sub hl [2, 3, 4, 1, 0] rfl)

set_option maxHeartbeats 4000000 in
set_option maxRecDepth 100000 in
theorem c_Row_takeRest (l : Launch) (dC : Nat → ClassId) (dI : Nat → Nat → Nat) (sz : Nat) (h0 h1 n : Nat) (cA : ClassId) (f g : Nat → Int32) (p0 p1 : Int32) (hn : n < 2100) (hg : qAg n f g) : Met l yX0_takeRest wsX0_takeRest ({ frames := 1, cells := 0, slots := 0, locals := 22 }) (va_Pc [.ref h0, .int p0, .int p1] (fun U => U.heap.size = sz ∧ va_P (dC, dI) vwCl [(h0, .inr (0, [.ref h1, .int (nI n)])), (h1, .inl (cA, 2100, .inl f))] U.heap ∧ va_K (dC, dI) vwCl [(cA, .int)] U ∧ va_D (fun _ => True) [(h0, .inr (0, [.ref h1, .int (nI n)])), (h1, .inl (cA, 2100, .inl f))])) (va_Qi (fun (r : Int32) (u : qR) => (r, u) = qSieve g n p0 p1) (at_Row dC dI (va_A [(h0, .inr (0, [.ref h1, .int (nI n)])), (h1, .inl (cA, 2100, .inl f))] sz) h0 h1 cA) (va_A [(h0, .inr (0, [.ref h1, .int (nI n)])), (h1, .inl (cA, 2100, .inl f))] sz)) 0 0 (va_A [(h0, .inr (0, [.ref h1, .int (nI n)])), (h1, .inl (cA, 2100, .inl f))] sz) := by
  refine Met.ofW (cc := cX0_takeRest) (maxL := 5) (ret := (some .int)) (by decide +kernel) rfl ?_
  intro p e s m args below meth c s₁ B hml hv
  obtain ⟨rfl, hsz, hP, hK, hD0⟩ := hv
  have hx := B.exec
  have hb := B.bytes
  have hr := B.returns
  have hts := atoms_spec (ws := wsX0_takeRest) B.pre
  have hown : s.vm.findClass RX0 = some m.cls := findClass_of_methodNamed B.named
  have hlocks := B.notSynchronized
  subst hsz
  have hD := hD0.self (sz := s.heap.size)
  generalize hAe : va_A [(h0, .inr (0, [.ref h1, .int (nI n)])), (h1, .inl (cA, 2100, .inl f))] s.heap.size = A at hD ⊢
  have hA : ∀ q : Nat, s.heap.size ≤ q → A q := fun q h => by rw [← hAe]; exact Or.inr h
  have hS : va_S A s.heap s.heap [] := va_S.rf
  have hl := lv_entry ([.ref h0, .int p0, .int p1]) (n := 5) (Nat.le_of_ble_eq_true rfl)
  rw [lg_entry_eq]
  generalize (lg_sl ([.ref h0, .int p0, .int p1]) ++ List.replicate (5 - (lg_sl ([.ref h0, .int p0, .int p1])).length) Slot.unset).toArray = ls at hl ⊢
  have hl : lv_has ls 5 [(0, .ref h0), (1, .int p0), (2, .int p1)] := hl
  by_cases h : p0 < 1
  · refine lv_iload_n hx hb dX0_takeRest_0 rfl (lv_at hl 1 rfl) ?_
    refine lv_iconst (v := 1) hx hb dX0_takeRest_1 (by decide) ?_
    refine lv_icmp_ge (tgt := 7) hx hb dX0_takeRest_2 (by decide) (fun c_0 => absurd c_0 (show ¬ (1 : Int32) ≤ p0 from (fun q => by rw [ti_le, ti_1] at q; rw [ti_lt, ti_1] at h; omega))) (fun c_1 => ?_)
    refine lv_iconst (v := -1) hx hb dX0_takeRest_5 (by decide) ?_
    exact W.iret (v := -1) hx hb hr (fun t ht hW => ⟨⟨-1, (g, n), rfl, (by simp only [qSieve, if_pos h]), f, hg, by rw [ht]; exact hP, va_K.moved hW.alike hK, hD⟩, hS.F ht⟩) hS.2.2 dX0_takeRest_6
  · refine lv_iload_n hx hb dX0_takeRest_0 rfl (lv_at hl 1 rfl) ?_
    refine lv_iconst (v := 1) hx hb dX0_takeRest_1 (by decide) ?_
    refine lv_icmp_ge (tgt := 7) hx hb dX0_takeRest_2 (by decide) (fun c_2 => ?_) (fun c_0 => absurd (show (1 : Int32) ≤ p0 from (by rw [ti_lt, ti_1] at h; rw [ti_le, ti_1]; omega)) c_0)
    refine lv_iconst (v := nI 0) hx hb dX0_takeRest_7 (by decide) ?_
    refine lv_istore_n (lv' := [(3, .int (nI 0)), (0, .ref h0), (1, .int p0), (2, .int p1)]) hx hb dX0_takeRest_8 rfl hl (by decide) rfl (fun ls hl => ?_)
    refine lv_iconst (v := nI 0) hx hb dX0_takeRest_9 (by decide) ?_
    refine lv_istore (lv' := [(4, .int (nI 0)), (3, .int (nI 0)), (0, .ref h0), (1, .int p0), (2, .int p1)]) hx hb dX0_takeRest_10 hl (by decide) rfl (fun ls hl => ?_)
    refine lp_rest h0 h1 n cA f g p0 p1 hn hg (fun q => by rw [q] at h; exact h (by decide)) hx hb hml hts hown hK hA (fun b a hb0 hv H locs hP hD hS ls hl => ?_) (n + 1) 0 0 f (by omega) (by omega) rfl (qSv_0 hg) _ _ hP hD hS ls (lv_sub hl [2, 3, 4, 1, 0] rfl)
    have hbn := qSc_le (g := g) (st := p0) (re := p1) n
    refine lv_aload_n hx hb dX0_takeRest_58 rfl (lv_at hl 0 rfl) ?_
    refine va_get (D := (dC, dI)) (ci := 0) (v := .int (nI n)) (C := RX0) (T := TX0) (N := 2) hx hb hts inX0_takeRest_X0 hown hK hP 0 rfl rfl 1 (by decide) (hts (.fieldLink RX0 15 "QueueHall$Row" "count" "I") (List.mem_of_getElem? (i := 1) (by decide +kernel))) (fun _ h9 => h9) rfl dX0_takeRest_59 ?_
    refine lv_iload_n hx hb dX0_takeRest_62 rfl (lv_at hl 3 rfl) ?_
    refine lv_isub hx hb dX0_takeRest_63 ?_
    refine q_top (y := nI (n - b)) (pk_sub (by omega)) ?_
    refine lv_istore (lv' := [(4, .int (nI (n - b))), (0, .ref h0), (1, .int p0), (2, .int p1), (3, .int (nI b))]) hx hb dX0_takeRest_64 hl (by decide) rfl (fun ls hl => ?_)
    refine lv_aload_n hx hb dX0_takeRest_66 rfl (lv_at hl 1 rfl) ?_
    refine lv_iload_n hx hb dX0_takeRest_67 rfl (lv_at hl 4 rfl) ?_
    refine va_put (D := (dC, dI)) (ci := 0) (v := .int (nI b)) (ty := .int) (C := RX0) (T := TX0) (N := 2) hx hb hts inX0_takeRest_X0 tyX0 tyX0_ok nmX0 hown hK hP hD hS 0 rfl rfl 1 (by decide) (hts (.fieldLink RX0 15 "QueueHall$Row" "count" "I") (List.mem_of_getElem? (i := 1) (by decide +kernel))) (fun _ h9 => h9) rfl (by decide +kernel) rfl rfl (Nat.le_of_ble_eq_true rfl) dX0_takeRest_68 (fun H locs hP hD hS => ?_)
    have hP : va_P (dC, dI) vwCl [(h0, .inr (0, [.ref h1, .int (nI b)])), (h1, .inl (cA, 2100, .inl a))] H := hP
    have hD : va_D A [(h0, .inr (0, [.ref h1, .int (nI b)])), (h1, .inl (cA, 2100, .inl a))] := hD
    refine lv_iload hx hb dX0_takeRest_71 (lv_at hl 0 rfl) ?_
    exact W.iret (v := nI (n - b)) hx hb hr (fun t ht hW => ⟨⟨nI (n - b), (qSf g p0 p1 n, b), rfl, (by simp only [qSieve, if_neg h, hb0]), a, fun j hj => hv.1 j (by rw [← hb0]; exact hj), by rw [ht]; exact hP, va_K.moved hW.alike hK, hD⟩, hS.F ht⟩) hS.2.2 dX0_takeRest_73

set_option maxHeartbeats 4000000 in
set_option maxRecDepth 100000 in
theorem c_Row_turn (l : Launch) (dC : Nat → ClassId) (dI : Nat → Nat → Nat) (sz : Nat) (h0 h1 n : Nat) (cA : ClassId) (f g : Nat → Int32) (p0 : Int32) (hn : n < 2000) (hg : qAg n f g) : Met l yX0_turn wsX0_turn ({ frames := 1, cells := 0, slots := 0, locals := 22 }) (va_Pc [.ref h0, .int p0] (fun U => U.heap.size = sz ∧ va_P (dC, dI) vwCl [(h0, .inr (0, [.ref h1, .int (nI n)])), (h1, .inl (cA, 2100, .inl f))] U.heap ∧ va_K (dC, dI) vwCl [(cA, .int)] U ∧ va_D (fun _ => True) [(h0, .inr (0, [.ref h1, .int (nI n)])), (h1, .inl (cA, 2100, .inl f))])) (va_Qi (fun (r : Int32) (u : qR) => (r, u) = qTurn g n p0) (at_Row dC dI (va_A [(h0, .inr (0, [.ref h1, .int (nI n)])), (h1, .inl (cA, 2100, .inl f))] sz) h0 h1 cA) (va_A [(h0, .inr (0, [.ref h1, .int (nI n)])), (h1, .inl (cA, 2100, .inl f))] sz)) 0 0 (va_A [(h0, .inr (0, [.ref h1, .int (nI n)])), (h1, .inl (cA, 2100, .inl f))] sz) := by
  refine Met.ofW (cc := cX0_turn) (maxL := 3) (ret := (some .int)) (by decide +kernel) rfl ?_
  intro p e s m args below meth c s₁ B hml hv
  obtain ⟨rfl, hsz, hP, hK, hD0⟩ := hv
  have hx := B.exec
  have hb := B.bytes
  have hr := B.returns
  have hts := atoms_spec (ws := wsX0_turn) B.pre
  have hown : s.vm.findClass RX0 = some m.cls := findClass_of_methodNamed B.named
  have hlocks := B.notSynchronized
  subst hsz
  have hD := hD0.self (sz := s.heap.size)
  generalize hAe : va_A [(h0, .inr (0, [.ref h1, .int (nI n)])), (h1, .inl (cA, 2100, .inl f))] s.heap.size = A at hD ⊢
  have hA : ∀ q : Nat, s.heap.size ≤ q → A q := fun q h => by rw [← hAe]; exact Or.inr h
  have hS : va_S A s.heap s.heap [] := va_S.rf
  have hl := lv_entry ([.ref h0, .int p0]) (n := 3) (Nat.le_of_ble_eq_true rfl)
  rw [lg_entry_eq]
  generalize (lg_sl ([.ref h0, .int p0]) ++ List.replicate (3 - (lg_sl ([.ref h0, .int p0])).length) Slot.unset).toArray = ls at hl ⊢
  have hl : lv_has ls 3 [(0, .ref h0), (1, .int p0)] := hl
  rcases q_turn p0 with h | ⟨h, hh⟩ | ⟨k, hk, rfl⟩
  · refine lv_iload_n hx hb dX0_turn_0 rfl (lv_at hl 1 rfl) ?_
    refine lv_if_lt (tgt := 10) hx hb dX0_turn_1 (by decide) (fun c_1 => ?_) (fun c_0 => absurd (show p0 < (0 : Int32) from h) c_0)
    refine lv_iconst (v := -1) hx hb dX0_turn_10 (by decide) ?_
    exact W.iret (v := -1) hx hb hr (fun t ht hW => ⟨⟨-1, (g, n), rfl, (by simp only [qTurn, if_pos h]), f, hg, by rw [ht]; exact hP, va_K.moved hW.alike hK, hD⟩, hS.F ht⟩) hS.2.2 dX0_turn_11
  · refine lv_iload_n hx hb dX0_turn_0 rfl (lv_at hl 1 rfl) ?_
    refine lv_if_lt (tgt := 10) hx hb dX0_turn_1 (by decide) (fun c_0 => absurd c_0 (show ¬ p0 < (0 : Int32) from h)) (fun c_2 => ?_)
    refine lv_iload_n hx hb dX0_turn_4 rfl (lv_at hl 1 rfl) ?_
    refine lv_bipush (v := 100) hx hb dX0_turn_5 (by decide) ?_
    refine lv_icmp_le (tgt := 12) hx hb dX0_turn_7 (by decide) (fun c_0 => absurd c_0 (show ¬ p0 ≤ (100 : Int32) from (fun q => by rw [ti_le, ti_100] at q; rw [ti_lt, ti_100] at hh; omega))) (fun c_3 => ?_)
    refine lv_iconst (v := -1) hx hb dX0_turn_10 (by decide) ?_
    exact W.iret (v := -1) hx hb hr (fun t ht hW => ⟨⟨-1, (g, n), rfl, (by simp only [qTurn, if_neg h, if_pos hh]), f, hg, by rw [ht]; exact hP, va_K.moved hW.alike hK, hD⟩, hS.F ht⟩) hS.2.2 dX0_turn_11
  · refine lv_iload_n hx hb dX0_turn_0 rfl (lv_at hl 1 rfl) ?_
    refine lv_if_lt (tgt := 10) hx hb dX0_turn_1 (by decide) (fun c_0 => absurd c_0 (show ¬ (nI k) < (0 : Int32) from (by simp (disch := omega) only [ti_lt, ti_le, ti_eq, ti_0, ti_1, ti_2, ti_m1, ti_100, ti_2000, nI_toInt] <;> omega))) (fun c_4 => ?_)
    have k_4 : k ≥ 0 := by
      simp (disch := omega) only [ti_lt, ti_le, ti_eq, ti_0, ti_1, ti_2, ti_m1, ti_100, ti_2000, nI_toInt] at c_4
      omega
    refine lv_iload_n hx hb dX0_turn_4 rfl (lv_at hl 1 rfl) ?_
    refine lv_bipush (v := 100) hx hb dX0_turn_5 (by decide) ?_
    refine lv_icmp_le (tgt := 12) hx hb dX0_turn_7 (by decide) (fun c_5 => ?_) (fun c_0 => absurd (show (nI k) ≤ (100 : Int32) from (by simp (disch := omega) only [ti_lt, ti_le, ti_eq, ti_0, ti_1, ti_2, ti_m1, ti_100, ti_2000, nI_toInt] <;> omega)) c_0)
    have k_5 : k ≤ 100 := by
      simp (disch := omega) only [ti_lt, ti_le, ti_eq, ti_0, ti_1, ti_2, ti_m1, ti_100, ti_2000, nI_toInt] at c_5
      omega
    refine lv_aload_n hx hb dX0_turn_12 rfl (lv_at hl 0 rfl) ?_
    refine va_get (D := (dC, dI)) (ci := 0) (v := .int (nI n)) (C := RX0) (T := TX0) (N := 2) hx hb hts inX0_turn_X0 hown hK hP 0 rfl rfl 1 (by decide) (hts (.fieldLink RX0 15 "QueueHall$Row" "count" "I") (List.mem_of_getElem? (i := 1) (by decide +kernel))) (fun _ h9 => h9) rfl dX0_turn_13 ?_
    refine lv_if_le (tgt := 60) hx hb dX0_turn_16 (by decide) (fun c_6 => ?_) (fun c_6 => ?_)
    · have k_6 : n ≤ 0 := by
        simp (disch := omega) only [ti_lt, ti_le, ti_eq, ti_0, ti_1, ti_2, ti_m1, ti_100, ti_2000, nI_toInt] at c_6
        omega
      refine lv_aload_n hx hb dX0_turn_60 rfl (lv_at hl 0 rfl) ?_
      refine va_get (D := (dC, dI)) (ci := 0) (v := .int (nI n)) (C := RX0) (T := TX0) (N := 2) hx hb hts inX0_turn_X0 hown hK hP 0 rfl rfl 1 (by decide) (hts (.fieldLink RX0 15 "QueueHall$Row" "count" "I") (List.mem_of_getElem? (i := 1) (by decide +kernel))) (fun _ h9 => h9) rfl dX0_turn_61 ?_
      exact W.iret (v := nI n) hx hb hr (fun t ht hW => ⟨⟨nI n, (qRot g n k, n), rfl, (qTurn_i hk).symm, f, (by rw [show n = 0 by omega]; exact qAg_0), by rw [ht]; exact hP, va_K.moved hW.alike hK, hD⟩, hS.F ht⟩) hS.2.2 dX0_turn_64
    · have k_6 : n > 0 := by
        simp (disch := omega) only [ti_lt, ti_le, ti_eq, ti_0, ti_1, ti_2, ti_m1, ti_100, ti_2000, nI_toInt] at c_6
        omega
      have hm := Nat.mod_lt k (show n > 0 by omega)
      have hm2 := Nat.mod_le k n
      refine lv_iload_n hx hb dX0_turn_19 rfl (lv_at hl 1 rfl) ?_
      refine lv_aload_n hx hb dX0_turn_20 rfl (lv_at hl 0 rfl) ?_
      refine va_get (D := (dC, dI)) (ci := 0) (v := .int (nI n)) (C := RX0) (T := TX0) (N := 2) hx hb hts inX0_turn_X0 hown hK hP 0 rfl rfl 1 (by decide) (hts (.fieldLink RX0 15 "QueueHall$Row" "count" "I") (List.mem_of_getElem? (i := 1) (by decide +kernel))) (fun _ h9 => h9) rfl dX0_turn_21 ?_
      refine lv_irem hx hb dX0_turn_24 (nI_ne0 (by omega) (by omega)) ?_
      refine q_top (y := nI (k % n)) (pk_rem (by omega) (by omega) (by omega)) ?_
      refine lv_istore_n (lv' := [(2, .int (nI (k % n))), (0, .ref h0), (1, .int (nI k))]) hx hb dX0_turn_25 rfl hl (by decide) rfl (fun ls hl => ?_)
      refine lv_aload_n hx hb dX0_turn_26 rfl (lv_at hl 1 rfl) ?_
      refine va_get (D := (dC, dI)) (ci := 0) (v := .ref h1) (C := RX0) (T := TX0) (N := 2) hx hb hts inX0_turn_X0 hown hK hP 0 rfl rfl 0 (by decide) (hts (.fieldLink RX0 9 "QueueHall$Row" "numbers" "[I") (List.mem_of_getElem? (i := 2) (by decide +kernel))) (fun _ h9 => h9) rfl dX0_turn_27 ?_
      refine lv_iconst (v := nI 0) hx hb dX0_turn_30 (by decide) ?_
      refine lv_aload_n hx hb dX0_turn_31 rfl (lv_at hl 1 rfl) ?_
      refine va_get (D := (dC, dI)) (ci := 0) (v := .ref h1) (C := RX0) (T := TX0) (N := 2) hx hb hts inX0_turn_X0 hown hK hP 0 rfl rfl 0 (by decide) (hts (.fieldLink RX0 9 "QueueHall$Row" "numbers" "[I") (List.mem_of_getElem? (i := 2) (by decide +kernel))) (fun _ h9 => h9) rfl dX0_turn_32 ?_
      refine lv_aload_n hx hb dX0_turn_35 rfl (lv_at hl 1 rfl) ?_
      refine va_get (D := (dC, dI)) (ci := 0) (v := .int (nI n)) (C := RX0) (T := TX0) (N := 2) hx hb hts inX0_turn_X0 hown hK hP 0 rfl rfl 1 (by decide) (hts (.fieldLink RX0 15 "QueueHall$Row" "count" "I") (List.mem_of_getElem? (i := 1) (by decide +kernel))) (fun _ h9 => h9) rfl dX0_turn_36 ?_
      refine lv_iload_n hx hb dX0_turn_39 rfl (lv_at hl 0 rfl) ?_
      refine q_copy (sp := 0) (dp := n) (n := k % n) hx hb (by rw [hml]; exact hl.1.symm) hown (hts (.methodLink RX0 28 arraycopyName) (List.mem_of_getElem? (i := 3) (by decide +kernel))) (hts (.native arraycopyName) (List.mem_of_getElem? (i := 4) (by decide +kernel))) (hts (.static arraycopyName) (List.mem_of_getElem? (i := 5) (by decide +kernel))) (hts (.initialized "java/lang/System") (List.mem_of_getElem? (i := 6) (by decide +kernel))) hK hP hD hS 1 1 0 0 rfl rfl rfl rfl (by omega) (by omega) (by omega) (by omega) (Nat.le_of_ble_eq_true rfl) (Nat.le_of_ble_eq_true rfl) dX0_turn_40 (fun H locs hP hD hS => ?_)
      have hP : va_P (dC, dI) vwCl [(h0, .inr (0, [.ref h1, .int (nI n)])), (h1, .inl (cA, 2100, .inl (va_cpy f f 0 n (k % n))))] H := hP
      have hD : va_D A [(h0, .inr (0, [.ref h1, .int (nI n)])), (h1, .inl (cA, 2100, .inl (va_cpy f f 0 n (k % n))))] := hD
      refine lv_aload_n hx hb dX0_turn_43 rfl (lv_at hl 1 rfl) ?_
      refine va_get (D := (dC, dI)) (ci := 0) (v := .ref h1) (C := RX0) (T := TX0) (N := 2) hx hb hts inX0_turn_X0 hown hK hP 0 rfl rfl 0 (by decide) (hts (.fieldLink RX0 9 "QueueHall$Row" "numbers" "[I") (List.mem_of_getElem? (i := 2) (by decide +kernel))) (fun _ h9 => h9) rfl dX0_turn_44 ?_
      refine lv_iload_n hx hb dX0_turn_47 rfl (lv_at hl 0 rfl) ?_
      refine lv_aload_n hx hb dX0_turn_48 rfl (lv_at hl 1 rfl) ?_
      refine va_get (D := (dC, dI)) (ci := 0) (v := .ref h1) (C := RX0) (T := TX0) (N := 2) hx hb hts inX0_turn_X0 hown hK hP 0 rfl rfl 0 (by decide) (hts (.fieldLink RX0 9 "QueueHall$Row" "numbers" "[I") (List.mem_of_getElem? (i := 2) (by decide +kernel))) (fun _ h9 => h9) rfl dX0_turn_49 ?_
      refine lv_iconst (v := nI 0) hx hb dX0_turn_52 (by decide) ?_
      refine lv_aload_n hx hb dX0_turn_53 rfl (lv_at hl 1 rfl) ?_
      refine va_get (D := (dC, dI)) (ci := 0) (v := .int (nI n)) (C := RX0) (T := TX0) (N := 2) hx hb hts inX0_turn_X0 hown hK hP 0 rfl rfl 1 (by decide) (hts (.fieldLink RX0 15 "QueueHall$Row" "count" "I") (List.mem_of_getElem? (i := 1) (by decide +kernel))) (fun _ h9 => h9) rfl dX0_turn_54 ?_
      refine q_copy (sp := k % n) (dp := 0) (n := n) hx hb (by rw [hml]; exact hl.1.symm) hown (hts (.methodLink RX0 28 arraycopyName) (List.mem_of_getElem? (i := 3) (by decide +kernel))) (hts (.native arraycopyName) (List.mem_of_getElem? (i := 4) (by decide +kernel))) (hts (.static arraycopyName) (List.mem_of_getElem? (i := 5) (by decide +kernel))) (hts (.initialized "java/lang/System") (List.mem_of_getElem? (i := 6) (by decide +kernel))) hK hP hD hS 1 1 0 0 rfl rfl rfl rfl (by omega) (by omega) (by omega) (by omega) (Nat.le_of_ble_eq_true rfl) (Nat.le_of_ble_eq_true rfl) dX0_turn_57 (fun H locs hP hD hS => ?_)
      have hP : va_P (dC, dI) vwCl [(h0, .inr (0, [.ref h1, .int (nI n)])), (h1, .inl (cA, 2100, .inl (va_cpy (va_cpy f f 0 n (k % n)) (va_cpy f f 0 n (k % n)) (k % n) 0 n)))] H := hP
      have hD : va_D A [(h0, .inr (0, [.ref h1, .int (nI n)])), (h1, .inl (cA, 2100, .inl (va_cpy (va_cpy f f 0 n (k % n)) (va_cpy f f 0 n (k % n)) (k % n) 0 n)))] := hD
      refine lv_aload_n hx hb dX0_turn_60 rfl (lv_at hl 1 rfl) ?_
      refine va_get (D := (dC, dI)) (ci := 0) (v := .int (nI n)) (C := RX0) (T := TX0) (N := 2) hx hb hts inX0_turn_X0 hown hK hP 0 rfl rfl 1 (by decide) (hts (.fieldLink RX0 15 "QueueHall$Row" "count" "I") (List.mem_of_getElem? (i := 1) (by decide +kernel))) (fun _ h9 => h9) rfl dX0_turn_61 ?_
      exact W.iret (v := nI n) hx hb hr (fun t ht hW => ⟨⟨nI n, (qRot g n k, n), rfl, (qTurn_i hk).symm, _, qAg_turn hg (by omega), by rw [ht]; exact hP, va_K.moved hW.alike hK, hD⟩, hS.F ht⟩) hS.2.2 dX0_turn_64

set_option maxHeartbeats 4000000 in
set_option maxRecDepth 100000 in
theorem c_Row_takeAll (l : Launch) (dC : Nat → ClassId) (dI : Nat → Nat → Nat) (sz : Nat) (h0 h1 n o0 o1 q k : Nat) (cA : ClassId) (f g fo go : Nat → Int32) (hn : n + q ≤ 2000) (hk : k ≤ n) (hg : qAg n f g) (ho : qAg q fo go) : Met l yX0_takeAll wsX0_takeAll ({ frames := 1, cells := 0, slots := 0, locals := 21 }) (va_Pc [.ref h0, .ref o0, .int (nI k)] (fun U => U.heap.size = sz ∧ va_P (dC, dI) vwCl [(h0, .inr (0, [.ref h1, .int (nI n)])), (h1, .inl (cA, 2100, .inl f)), (o0, .inr (0, [.ref o1, .int (nI q)])), (o1, .inl (cA, 2100, .inl fo))] U.heap ∧ va_K (dC, dI) vwCl [(cA, .int)] U ∧ va_D (fun _ => True) [(h0, .inr (0, [.ref h1, .int (nI n)])), (h1, .inl (cA, 2100, .inl f)), (o0, .inr (0, [.ref o1, .int (nI q)])), (o1, .inl (cA, 2100, .inl fo))])) (va_Qi (fun (r : Int32) (u : qR × qR) => (r, u) = (1, ((qCat g k go q, n + q), (go, 0)))) (at_Row2 dC dI (va_A [(h0, .inr (0, [.ref h1, .int (nI n)])), (h1, .inl (cA, 2100, .inl f)), (o0, .inr (0, [.ref o1, .int (nI q)])), (o1, .inl (cA, 2100, .inl fo))] sz) h0 h1 o0 o1 cA) (va_A [(h0, .inr (0, [.ref h1, .int (nI n)])), (h1, .inl (cA, 2100, .inl f)), (o0, .inr (0, [.ref o1, .int (nI q)])), (o1, .inl (cA, 2100, .inl fo))] sz)) 0 0 (va_A [(h0, .inr (0, [.ref h1, .int (nI n)])), (h1, .inl (cA, 2100, .inl f)), (o0, .inr (0, [.ref o1, .int (nI q)])), (o1, .inl (cA, 2100, .inl fo))] sz) := by
  refine Met.ofW (cc := cX0_takeAll) (maxL := 3) (ret := (some .boolean)) (by decide +kernel) rfl ?_
  intro p e s m args below meth c s₁ B hml hv
  obtain ⟨rfl, hsz, hP, hK, hD0⟩ := hv
  have hx := B.exec
  have hb := B.bytes
  have hr := B.returns
  have hts := atoms_spec (ws := wsX0_takeAll) B.pre
  have hown : s.vm.findClass RX0 = some m.cls := findClass_of_methodNamed B.named
  have hlocks := B.notSynchronized
  subst hsz
  have hD := hD0.self (sz := s.heap.size)
  generalize hAe : va_A [(h0, .inr (0, [.ref h1, .int (nI n)])), (h1, .inl (cA, 2100, .inl f)), (o0, .inr (0, [.ref o1, .int (nI q)])), (o1, .inl (cA, 2100, .inl fo))] s.heap.size = A at hD ⊢
  have hA : ∀ q : Nat, s.heap.size ≤ q → A q := fun q h => by rw [← hAe]; exact Or.inr h
  have hS : va_S A s.heap s.heap [] := va_S.rf
  have hl := lv_entry ([.ref h0, .ref o0, .int (nI k)]) (n := 3) (Nat.le_of_ble_eq_true rfl)
  rw [lg_entry_eq]
  generalize (lg_sl ([.ref h0, .ref o0, .int (nI k)]) ++ List.replicate (3 - (lg_sl ([.ref h0, .ref o0, .int (nI k)])).length) Slot.unset).toArray = ls at hl ⊢
  have hl : lv_has ls 3 [(0, .ref h0), (1, .ref o0), (2, .int (nI k))] := hl
  refine lv_aload_n hx hb dX0_takeAll_0 rfl (lv_at hl 0 rfl) ?_
  refine va_get (D := (dC, dI)) (ci := 0) (v := .int (nI n)) (C := RX0) (T := TX0) (N := 2) hx hb hts inX0_takeAll_X0 hown hK hP 0 rfl rfl 1 (by decide) (hts (.fieldLink RX0 15 "QueueHall$Row" "count" "I") (List.mem_of_getElem? (i := 1) (by decide +kernel))) (fun _ h9 => h9) rfl dX0_takeAll_1 ?_
  refine lv_aload_n hx hb dX0_takeAll_4 rfl (lv_at hl 1 rfl) ?_
  refine va_get (D := (dC, dI)) (ci := 0) (v := .int (nI q)) (C := RX0) (T := TX0) (N := 2) hx hb hts inX0_takeAll_X0 hown hK hP 2 rfl rfl 1 (by decide) (hts (.fieldLink RX0 15 "QueueHall$Row" "count" "I") (List.mem_of_getElem? (i := 1) (by decide +kernel))) (fun _ h9 => h9) rfl dX0_takeAll_5 ?_
  refine lv_iadd hx hb dX0_takeAll_8 ?_
  refine q_top (y := nI (n + q)) (nI_add n q) ?_
  refine lv_sipush (v := 2000) hx hb dX0_takeAll_9 (by decide) ?_
  refine lv_icmp_gt (tgt := 23) hx hb dX0_takeAll_12 (by decide) (fun c_0 => absurd c_0 (show ¬ (2000 : Int32) < (nI (n + q)) from (by simp (disch := omega) only [ti_lt, ti_le, ti_eq, ti_0, ti_1, ti_2, ti_m1, ti_100, ti_2000, nI_toInt] <;> omega))) (fun c_1 => ?_)
  have k_1 : (n + q) ≤ 2000 := by
    simp (disch := omega) only [ti_lt, ti_le, ti_eq, ti_0, ti_1, ti_2, ti_m1, ti_100, ti_2000, nI_toInt] at c_1
    omega
  refine lv_aload_n hx hb dX0_takeAll_15 rfl (lv_at hl 0 rfl) ?_
  refine lv_iload_n hx hb dX0_takeAll_16 rfl (lv_at hl 2 rfl) ?_
  have hPc := hP.sub (ws' := [(h0, .inr (0, [.ref h1, .int (nI n)]))]) [0] rfl
  have hKc := hK.sub (tys' := []) [] rfl
  refine q_csiE (va_runV (As := [.int (nI k)]) (rest := []) ⟨hx, hb, hml, hown, hts⟩ (c_Row_hasPlaceOrEnd l dC dI h0 h1 n (nI k)) (cwV 1 hts gX0_takeAll_X0_hasPlaceOrEnd_v rfl rfl rfl (by decide +kernel) ⟨Nat.le_of_ble_eq_true rfl, Nat.le_of_ble_eq_true rfl⟩) ⟨q_blR, va_recv hKc hPc (ci := 0) (q0 := 0) rfl rfl, fun U hU hW => ⟨rfl, by rw [hU]; exact hPc, va_K.moved hW.alike hKc⟩⟩ rfl rfl hl.1 rfl (lv_room (Nat.le_of_ble_eq_true rfl)) dX0_takeAll_17 ⟨Nat.le_of_ble_eq_true rfl, Nat.le_of_ble_eq_true rfl⟩) ?_
  refine q_top (y := 1) (qHe_in (by omega) (by omega)) ?_
  refine lv_if_ne (tgt := 25) hx hb dX0_takeAll_20 (by decide) (fun c_2 => ?_) (fun c_0 => absurd c_0 (show ¬ (1 : Int32) = (0 : Int32) from (by decide)))
  refine lv_aload_n hx hb dX0_takeAll_25 rfl (lv_at hl 0 rfl) ?_
  refine va_get (D := (dC, dI)) (ci := 0) (v := .ref h1) (C := RX0) (T := TX0) (N := 2) hx hb hts inX0_takeAll_X0 hown hK hP 0 rfl rfl 0 (by decide) (hts (.fieldLink RX0 9 "QueueHall$Row" "numbers" "[I") (List.mem_of_getElem? (i := 7) (by decide +kernel))) (fun _ h9 => h9) rfl dX0_takeAll_26 ?_
  refine lv_iload_n hx hb dX0_takeAll_29 rfl (lv_at hl 2 rfl) ?_
  refine lv_aload_n hx hb dX0_takeAll_30 rfl (lv_at hl 0 rfl) ?_
  refine va_get (D := (dC, dI)) (ci := 0) (v := .ref h1) (C := RX0) (T := TX0) (N := 2) hx hb hts inX0_takeAll_X0 hown hK hP 0 rfl rfl 0 (by decide) (hts (.fieldLink RX0 9 "QueueHall$Row" "numbers" "[I") (List.mem_of_getElem? (i := 7) (by decide +kernel))) (fun _ h9 => h9) rfl dX0_takeAll_31 ?_
  refine lv_iload_n hx hb dX0_takeAll_34 rfl (lv_at hl 2 rfl) ?_
  refine lv_aload_n hx hb dX0_takeAll_35 rfl (lv_at hl 1 rfl) ?_
  refine va_get (D := (dC, dI)) (ci := 0) (v := .int (nI q)) (C := RX0) (T := TX0) (N := 2) hx hb hts inX0_takeAll_X0 hown hK hP 2 rfl rfl 1 (by decide) (hts (.fieldLink RX0 15 "QueueHall$Row" "count" "I") (List.mem_of_getElem? (i := 1) (by decide +kernel))) (fun _ h9 => h9) rfl dX0_takeAll_36 ?_
  refine lv_iadd hx hb dX0_takeAll_39 ?_
  refine q_top (y := nI (k + q)) (nI_add k q) ?_
  refine lv_aload_n hx hb dX0_takeAll_40 rfl (lv_at hl 0 rfl) ?_
  refine va_get (D := (dC, dI)) (ci := 0) (v := .int (nI n)) (C := RX0) (T := TX0) (N := 2) hx hb hts inX0_takeAll_X0 hown hK hP 0 rfl rfl 1 (by decide) (hts (.fieldLink RX0 15 "QueueHall$Row" "count" "I") (List.mem_of_getElem? (i := 1) (by decide +kernel))) (fun _ h9 => h9) rfl dX0_takeAll_41 ?_
  refine lv_iload_n hx hb dX0_takeAll_44 rfl (lv_at hl 2 rfl) ?_
  refine lv_isub hx hb dX0_takeAll_45 ?_
  refine q_top (y := nI (n - k)) (pk_sub (by omega)) ?_
  refine q_copy (sp := k) (dp := k + q) (n := n - k) hx hb (by rw [hml]; exact hl.1.symm) hown (hts (.methodLink RX0 28 arraycopyName) (List.mem_of_getElem? (i := 8) (by decide +kernel))) (hts (.native arraycopyName) (List.mem_of_getElem? (i := 9) (by decide +kernel))) (hts (.static arraycopyName) (List.mem_of_getElem? (i := 10) (by decide +kernel))) (hts (.initialized "java/lang/System") (List.mem_of_getElem? (i := 11) (by decide +kernel))) hK hP hD hS 1 1 0 0 rfl rfl rfl rfl (by omega) (by omega) (by omega) (by omega) (Nat.le_of_ble_eq_true rfl) (Nat.le_of_ble_eq_true rfl) dX0_takeAll_46 (fun H locs hP hD hS => ?_)
  have hP : va_P (dC, dI) vwCl [(h0, .inr (0, [.ref h1, .int (nI n)])), (h1, .inl (cA, 2100, .inl (va_cpy f f k (k + q) (n - k)))), (o0, .inr (0, [.ref o1, .int (nI q)])), (o1, .inl (cA, 2100, .inl fo))] H := hP
  have hD : va_D A [(h0, .inr (0, [.ref h1, .int (nI n)])), (h1, .inl (cA, 2100, .inl (va_cpy f f k (k + q) (n - k)))), (o0, .inr (0, [.ref o1, .int (nI q)])), (o1, .inl (cA, 2100, .inl fo))] := hD
  refine lv_aload_n hx hb dX0_takeAll_49 rfl (lv_at hl 1 rfl) ?_
  refine va_get (D := (dC, dI)) (ci := 0) (v := .ref o1) (C := RX0) (T := TX0) (N := 2) hx hb hts inX0_takeAll_X0 hown hK hP 2 rfl rfl 0 (by decide) (hts (.fieldLink RX0 9 "QueueHall$Row" "numbers" "[I") (List.mem_of_getElem? (i := 7) (by decide +kernel))) (fun _ h9 => h9) rfl dX0_takeAll_50 ?_
  refine lv_iconst (v := nI 0) hx hb dX0_takeAll_53 (by decide) ?_
  refine lv_aload_n hx hb dX0_takeAll_54 rfl (lv_at hl 0 rfl) ?_
  refine va_get (D := (dC, dI)) (ci := 0) (v := .ref h1) (C := RX0) (T := TX0) (N := 2) hx hb hts inX0_takeAll_X0 hown hK hP 0 rfl rfl 0 (by decide) (hts (.fieldLink RX0 9 "QueueHall$Row" "numbers" "[I") (List.mem_of_getElem? (i := 7) (by decide +kernel))) (fun _ h9 => h9) rfl dX0_takeAll_55 ?_
  refine lv_iload_n hx hb dX0_takeAll_58 rfl (lv_at hl 2 rfl) ?_
  refine lv_aload_n hx hb dX0_takeAll_59 rfl (lv_at hl 1 rfl) ?_
  refine va_get (D := (dC, dI)) (ci := 0) (v := .int (nI q)) (C := RX0) (T := TX0) (N := 2) hx hb hts inX0_takeAll_X0 hown hK hP 2 rfl rfl 1 (by decide) (hts (.fieldLink RX0 15 "QueueHall$Row" "count" "I") (List.mem_of_getElem? (i := 1) (by decide +kernel))) (fun _ h9 => h9) rfl dX0_takeAll_60 ?_
  refine q_copy (sp := 0) (dp := k) (n := q) hx hb (by rw [hml]; exact hl.1.symm) hown (hts (.methodLink RX0 28 arraycopyName) (List.mem_of_getElem? (i := 8) (by decide +kernel))) (hts (.native arraycopyName) (List.mem_of_getElem? (i := 9) (by decide +kernel))) (hts (.static arraycopyName) (List.mem_of_getElem? (i := 10) (by decide +kernel))) (hts (.initialized "java/lang/System") (List.mem_of_getElem? (i := 11) (by decide +kernel))) hK hP hD hS 3 1 0 0 rfl rfl rfl rfl (by omega) (by omega) (by omega) (by omega) (Nat.le_of_ble_eq_true rfl) (Nat.le_of_ble_eq_true rfl) dX0_takeAll_63 (fun H locs hP hD hS => ?_)
  have hP : va_P (dC, dI) vwCl [(h0, .inr (0, [.ref h1, .int (nI n)])), (h1, .inl (cA, 2100, .inl (va_cpy fo (va_cpy f f k (k + q) (n - k)) 0 k q))), (o0, .inr (0, [.ref o1, .int (nI q)])), (o1, .inl (cA, 2100, .inl fo))] H := hP
  have hD : va_D A [(h0, .inr (0, [.ref h1, .int (nI n)])), (h1, .inl (cA, 2100, .inl (va_cpy fo (va_cpy f f k (k + q) (n - k)) 0 k q))), (o0, .inr (0, [.ref o1, .int (nI q)])), (o1, .inl (cA, 2100, .inl fo))] := hD
  refine lv_aload_n hx hb dX0_takeAll_66 rfl (lv_at hl 0 rfl) ?_
  refine lv_dup hx hb dX0_takeAll_67 rfl ?_
  refine va_get (D := (dC, dI)) (ci := 0) (v := .int (nI n)) (C := RX0) (T := TX0) (N := 2) hx hb hts inX0_takeAll_X0 hown hK hP 0 rfl rfl 1 (by decide) (hts (.fieldLink RX0 15 "QueueHall$Row" "count" "I") (List.mem_of_getElem? (i := 1) (by decide +kernel))) (fun _ h9 => h9) rfl dX0_takeAll_68 ?_
  refine lv_aload_n hx hb dX0_takeAll_71 rfl (lv_at hl 1 rfl) ?_
  have hPc := hP.sub (ws' := [(o0, .inr (0, [.ref o1, .int (nI q)])), (o1, .inl (cA, 2100, .inl fo))]) [2, 3] rfl
  have hKc := hK.sub (tys' := [(cA, .int)]) [0] rfl
  have hDc := hD.sub (ws' := [(o0, .inr (0, [.ref o1, .int (nI q)])), (o1, .inl (cA, 2100, .inl fo))]) [2, 3] (by decide) rfl
  have hFc := va_free (wc := [(o0, .inr (0, [.ref o1, .int (nI q)])), (o1, .inl (cA, 2100, .inl fo))]) hD hS hA [2, 3] rfl
  refine va_calli (va_runV (As := []) (rest := [.int (nI n), .ref h0]) ⟨hx, hb, hml, hown, hts⟩ (c_Row_wipe l dC dI H.size o0 o1 q cA fo go ho) (cwV 0 hts gX0_takeAll_X0_wipe_v rfl rfl rfl (by decide +kernel) ⟨Nat.le_of_ble_eq_true rfl, Nat.le_of_ble_eq_true rfl⟩) ⟨q_blW, va_recv hKc hPc (ci := 0) (q0 := 0) rfl rfl, fun U hU hW => ⟨rfl, by rw [hU], by rw [hU]; exact hPc, va_K.moved hW.alike hKc, hDc.weaken (fun _ _ _ _ => trivial)⟩⟩ rfl rfl hl.1 rfl (lv_room (Nat.le_of_ble_eq_true rfl)) dX0_takeAll_72 ⟨Nat.le_of_ble_eq_true rfl, Nat.le_of_ble_eq_true rfl⟩) hS (fun q _ h => hFc q h) hFc (fun r_3 u_3 t_3 H1 locs ht hvm hw hB hz1 hk1 hS => ?_)
  obtain ⟨rfl, rfl⟩ := Prod.mk.inj hw
  obtain ⟨f_3, hg_3, hP1, hK1, hD1⟩ := hB
  rw [ht] at hP1
  obtain ⟨hP, hD⟩ := q_join (wr := [(h0, .inr (0, [.ref h1, .int (nI n)])), (h1, .inl (cA, 2100, .inl (va_cpy fo (va_cpy f f k (k + q) (n - k)) 0 k q)))]) (w1 := [(o0, .inr (0, [.ref o1, .int (nI 0)])), (o1, .inl (cA, 2100, .inl f_3))]) (wz := [(h0, .inr (0, [.ref h1, .int (nI n)])), (h1, .inl (cA, 2100, .inl (va_cpy fo (va_cpy f f k (k + q) (n - k)) 0 k q))), (o0, .inr (0, [.ref o1, .int (nI 0)])), (o1, .inl (cA, 2100, .inl f_3))]) hP hD [2, 3] [0, 1] [0, 1, 2, 3] rfl rfl (by decide) (by decide) hk1 hFc hP1 hD1 rfl rfl (by decide)
  generalize H1 = H at hP hS ⊢
  refine lv_iadd hx hb dX0_takeAll_75 ?_
  refine q_top (y := nI (n + q)) (nI_add n q) ?_
  refine va_put (D := (dC, dI)) (ci := 0) (v := .int (nI (n + q))) (ty := .int) (C := RX0) (T := TX0) (N := 2) hx hb hts inX0_takeAll_X0 tyX0 tyX0_ok nmX0 hown hK hP hD hS 0 rfl rfl 1 (by decide) (hts (.fieldLink RX0 15 "QueueHall$Row" "count" "I") (List.mem_of_getElem? (i := 1) (by decide +kernel))) (fun _ h9 => h9) rfl (by decide +kernel) rfl rfl (Nat.le_of_ble_eq_true rfl) dX0_takeAll_76 (fun H locs hP hD hS => ?_)
  have hP : va_P (dC, dI) vwCl [(h0, .inr (0, [.ref h1, .int (nI (n + q))])), (h1, .inl (cA, 2100, .inl (va_cpy fo (va_cpy f f k (k + q) (n - k)) 0 k q))), (o0, .inr (0, [.ref o1, .int (nI 0)])), (o1, .inl (cA, 2100, .inl f_3))] H := hP
  have hD : va_D A [(h0, .inr (0, [.ref h1, .int (nI (n + q))])), (h1, .inl (cA, 2100, .inl (va_cpy fo (va_cpy f f k (k + q) (n - k)) 0 k q))), (o0, .inr (0, [.ref o1, .int (nI 0)])), (o1, .inl (cA, 2100, .inl f_3))] := hD
  refine lv_iconst (v := 1) hx hb dX0_takeAll_79 (by decide) ?_
  exact W.zret (v := 1) hx hb hr rfl (fun t ht hW => ⟨⟨1, ((qCat g k go q, n + q), (go, 0)), rfl, rfl, _, _, qAg_cat hg ho hk, qAg_0, by rw [ht]; exact hP, va_K.moved hW.alike hK, hD⟩, hS.F ht⟩) hS.2.2 dX0_takeAll_80

set_option maxHeartbeats 4000000 in
set_option maxRecDepth 100000 in
theorem c_Row_init (l : Launch) (dC : Nat → ClassId) (dI : Nat → Nat → Nat) (sz : Nat) (h0 : Nat) : Met l yX0_init wsX0_init ({ frames := 1, cells := 1, slots := 2100, locals := 12 }) (va_Pc [.ref h0] (fun U => U.heap.size = sz ∧ va_P (dC, dI) vwCl [(h0, .inr (0, [.null, .int (nI 0)]))] U.heap ∧ va_K (dC, dI) vwCl [] U ∧ va_D (fun _ => True) [(h0, .inr (0, [.null, .int (nI 0)]))])) (va_Qv (fun (u : ClassId × Nat) => True) (at_RowI dC dI (va_A [(h0, .inr (0, [.null, .int (nI 0)]))] sz) h0) (va_A [(h0, .inr (0, [.null, .int (nI 0)]))] sz)) 1 2100 (va_A [(h0, .inr (0, [.null, .int (nI 0)]))] sz) := by
  refine Met.ofW (cc := cX0_init) (maxL := 1) (ret := none) (by decide +kernel) rfl ?_
  intro p e s m args below meth c s₁ B hml hv
  obtain ⟨rfl, hsz, hP, hK, hD0⟩ := hv
  have hx := B.exec
  have hb := B.bytes
  have hr := B.returns
  have hts := atoms_spec (ws := wsX0_init) B.pre
  have hown : s.vm.findClass RX0 = some m.cls := findClass_of_methodNamed B.named
  have hlocks := B.notSynchronized
  have hin : meth.name = "<init>" := (name_of_methodNamed B.named B.method).1
  subst hsz
  have hD := hD0.self (sz := s.heap.size)
  generalize hAe : va_A [(h0, .inr (0, [.null, .int (nI 0)]))] s.heap.size = A at hD ⊢
  have hA : ∀ q : Nat, s.heap.size ≤ q → A q := fun q h => by rw [← hAe]; exact Or.inr h
  have hS : va_S A s.heap s.heap [] := va_S.rf
  have hl := lv_entry ([.ref h0]) (n := 1) (Nat.le_of_ble_eq_true rfl)
  rw [lg_entry_eq]
  generalize (lg_sl ([.ref h0]) ++ List.replicate (1 - (lg_sl ([.ref h0])).length) Slot.unset).toArray = ls at hl ⊢
  have hl : lv_has ls 1 [(0, .ref h0)] := hl
  refine lv_aload_n hx hb dX0_init_0 rfl (lv_at hl 0 rfl) ?_
  refine W.objInit hx hb hown (hts (.methodLink RX0 3 objectInit) (List.mem_of_getElem? (i := 1) (by decide +kernel))) (hts (.instanceMethod objectInit) (List.mem_of_getElem? (i := 2) (by decide +kernel))) (hts (.code objectInit ⟨#[0xb1]⟩ 1 none) (List.mem_of_getElem? (i := 3) (by decide +kernel))) rfl (by rw [hml]; exact hl.1) rfl dX0_init_1 (Nat.le_of_ble_eq_true rfl) (Nat.le_of_ble_eq_true rfl) ?_
  refine W.eq (g2 := F0 m 4 ls []) rfl ?_
  refine lv_aload_n hx hb dX0_init_4 rfl (lv_at hl 0 rfl) ?_
  refine lv_sipush (v := 2100) hx hb dX0_init_5 (by decide) ?_
  refine q_newi (N := 2100) hx hb (hts (.arrayClass .int) (List.mem_of_getElem? (i := 4) (by decide +kernel))) hK hP hD hS hA (by decide +kernel) (by decide +kernel) (by decide +kernel) (by decide +kernel) (by decide +kernel) dX0_init_8 (fun q0 cA0 H hK hP hD hS => ?_)
  have hK : va_K (dC, dI) vwCl [(cA0, .int)] s := hK
  have hP : va_P (dC, dI) vwCl [(h0, .inr (0, [.null, .int (nI 0)])), (q0, .inl (cA0, 2100, .inl (fun _ => 0)))] H := hP
  have hD : va_D A [(h0, .inr (0, [.null, .int (nI 0)])), (q0, .inl (cA0, 2100, .inl (fun _ => 0)))] := hD
  refine va_putF (D := (dC, dI)) (ci := 0) (v := .ref q0) (ty := .array .int) (C := RX0) (T := TX0) (N := 2) hx hb hts inX0_init_X0 tyX0 tyX0_ok nmX0 hown hK hP hD hS 0 rfl rfl 0 (by decide) (hts (.fieldLink RX0 9 "QueueHall$Row" "numbers" "[I") (List.mem_of_getElem? (i := 5) (by decide +kernel))) (fun _ h9 => h9) rfl hin rfl (by decide +kernel) rfl rfl (Nat.le_of_ble_eq_true rfl) dX0_init_10 (fun H locs hP hD hS => ?_)
  have hP : va_P (dC, dI) vwCl [(h0, .inr (0, [.ref q0, .int (nI 0)])), (q0, .inl (cA0, 2100, .inl (fun _ => 0)))] H := hP
  have hD : va_D A [(h0, .inr (0, [.ref q0, .int (nI 0)])), (q0, .inl (cA0, 2100, .inl (fun _ => 0)))] := hD
  refine lv_aload_n hx hb dX0_init_13 rfl (lv_at hl 0 rfl) ?_
  refine lv_iconst (v := nI 0) hx hb dX0_init_14 (by decide) ?_
  refine va_put (D := (dC, dI)) (ci := 0) (v := .int (nI 0)) (ty := .int) (C := RX0) (T := TX0) (N := 2) hx hb hts inX0_init_X0 tyX0 tyX0_ok nmX0 hown hK hP hD hS 0 rfl rfl 1 (by decide) (hts (.fieldLink RX0 15 "QueueHall$Row" "count" "I") (List.mem_of_getElem? (i := 6) (by decide +kernel))) (fun _ h9 => h9) rfl (by decide +kernel) rfl rfl (Nat.le_of_ble_eq_true rfl) dX0_init_15 (fun H locs hP hD hS => ?_)
  have hP : va_P (dC, dI) vwCl [(h0, .inr (0, [.ref q0, .int (nI 0)])), (q0, .inl (cA0, 2100, .inl (fun _ => 0)))] H := hP
  have hD : va_D A [(h0, .inr (0, [.ref q0, .int (nI 0)])), (q0, .inl (cA0, 2100, .inl (fun _ => 0)))] := hD
  refine W.widen (k := 1) (n := 2100) (by omega) (by omega) ?_
  exact W.vret hx hb hr (fun t ht hW => ⟨⟨(cA0, q0), rfl, trivial, by rw [ht]; exact hP, va_K.moved hW.alike hK, hD⟩, hS.F ht⟩) hS.2.2 dX0_init_18
end
section
theorem dX1_init_0 : decode cX1_init 0 = .ok (.aload_n 0, 1) := by decide +kernel
theorem dX1_init_1 : decode cX1_init 1 = .ok (.invokespecial 1, 3) := by decide +kernel
theorem dX1_init_4 : decode cX1_init 4 = .ok (.aload_n 0, 1) := by decide +kernel
theorem dX1_init_5 : decode cX1_init 5 = .ok (.new 7, 3) := by decide +kernel
theorem dX1_init_8 : decode cX1_init 8 = .ok (.dup, 1) := by decide +kernel
theorem dX1_init_9 : decode cX1_init 9 = .ok (.invokespecial 9, 3) := by decide +kernel
theorem dX1_init_12 : decode cX1_init 12 = .ok (.putfield 10, 3) := by decide +kernel
theorem dX1_init_15 : decode cX1_init 15 = .ok (.aload_n 0, 1) := by decide +kernel
theorem dX1_init_16 : decode cX1_init 16 = .ok (.new 7, 3) := by decide +kernel
theorem dX1_init_19 : decode cX1_init 19 = .ok (.dup, 1) := by decide +kernel
theorem dX1_init_20 : decode cX1_init 20 = .ok (.invokespecial 9, 3) := by decide +kernel
theorem dX1_init_23 : decode cX1_init 23 = .ok (.putfield 16, 3) := by decide +kernel
theorem dX1_init_26 : decode cX1_init 26 = .ok (.aload_n 0, 1) := by decide +kernel
theorem dX1_init_27 : decode cX1_init 27 = .ok (.new 7, 3) := by decide +kernel
theorem dX1_init_30 : decode cX1_init 30 = .ok (.dup, 1) := by decide +kernel
theorem dX1_init_31 : decode cX1_init 31 = .ok (.invokespecial 9, 3) := by decide +kernel
theorem dX1_init_34 : decode cX1_init 34 = .ok (.putfield 19, 3) := by decide +kernel
theorem dX1_init_37 : decode cX1_init 37 = .ok (.aload_n 0, 1) := by decide +kernel
theorem dX1_init_38 : decode cX1_init 38 = .ok (.iconst (-1), 1) := by decide +kernel
theorem dX1_init_39 : decode cX1_init 39 = .ok (.putfield 22, 3) := by decide +kernel
theorem dX1_init_42 : decode cX1_init 42 = .ok (.aload_n 0, 1) := by decide +kernel
theorem dX1_init_43 : decode cX1_init 43 = .ok (.iconst (-1), 1) := by decide +kernel
theorem dX1_init_44 : decode cX1_init 44 = .ok (.putfield 26, 3) := by decide +kernel
theorem dX1_init_47 : decode cX1_init 47 = .ok (.return_, 1) := by decide +kernel
theorem dX1_enter_0 : decode cX1_enter 0 = .ok (.aload_n 0, 1) := by decide +kernel
theorem dX1_enter_1 : decode cX1_enter 1 = .ok (.getfield 10, 3) := by decide +kernel
theorem dX1_enter_4 : decode cX1_enter 4 = .ok (.aload_n 0, 1) := by decide +kernel
theorem dX1_enter_5 : decode cX1_enter 5 = .ok (.getfield 10, 3) := by decide +kernel
theorem dX1_enter_8 : decode cX1_enter 8 = .ok (.iload_n 1, 1) := by decide +kernel
theorem dX1_enter_9 : decode cX1_enter 9 = .ok (.invokevirtual 29, 3) := by decide +kernel
theorem dX1_enter_12 : decode cX1_enter 12 = .ok (.iload_n 1, 1) := by decide +kernel
theorem dX1_enter_13 : decode cX1_enter 13 = .ok (.invokevirtual 33, 3) := by decide +kernel
theorem dX1_enter_16 : decode cX1_enter 16 = .ok (.ifCond .eq 13, 3) := by decide +kernel
theorem dX1_enter_19 : decode cX1_enter 19 = .ok (.aload_n 0, 1) := by decide +kernel
theorem dX1_enter_20 : decode cX1_enter 20 = .ok (.getfield 10, 3) := by decide +kernel
theorem dX1_enter_23 : decode cX1_enter 23 = .ok (.getfield 37, 3) := by decide +kernel
theorem dX1_enter_26 : decode cX1_enter 26 = .ok (.goto 5, 3) := by decide +kernel
theorem dX1_enter_29 : decode cX1_enter 29 = .ok (.bipush (-3), 2) := by decide +kernel
theorem dX1_enter_31 : decode cX1_enter 31 = .ok (.ireturn, 1) := by decide +kernel
theorem dX1_call_0 : decode cX1_call 0 = .ok (.iload_n 1, 1) := by decide +kernel
theorem dX1_call_1 : decode cX1_call 1 = .ok (.ifCond .eq 14, 3) := by decide +kernel
theorem dX1_call_4 : decode cX1_call 4 = .ok (.aload_n 0, 1) := by decide +kernel
theorem dX1_call_5 : decode cX1_call 5 = .ok (.getfield 10, 3) := by decide +kernel
theorem dX1_call_8 : decode cX1_call 8 = .ok (.iconst 0, 1) := by decide +kernel
theorem dX1_call_9 : decode cX1_call 9 = .ok (.invokevirtual 40, 3) := by decide +kernel
theorem dX1_call_12 : decode cX1_call 12 = .ok (.goto 11, 3) := by decide +kernel
theorem dX1_call_15 : decode cX1_call 15 = .ok (.aload_n 0, 1) := by decide +kernel
theorem dX1_call_16 : decode cX1_call 16 = .ok (.getfield 10, 3) := by decide +kernel
theorem dX1_call_19 : decode cX1_call 19 = .ok (.iconst 0, 1) := by decide +kernel
theorem dX1_call_20 : decode cX1_call 20 = .ok (.invokevirtual 44, 3) := by decide +kernel
theorem dX1_call_23 : decode cX1_call 23 = .ok (.lreturn, 1) := by decide +kernel
theorem dX1_leave_0 : decode cX1_leave 0 = .ok (.aload_n 0, 1) := by decide +kernel
theorem dX1_leave_1 : decode cX1_leave 1 = .ok (.getfield 10, 3) := by decide +kernel
theorem dX1_leave_4 : decode cX1_leave 4 = .ok (.aload_n 0, 1) := by decide +kernel
theorem dX1_leave_5 : decode cX1_leave 5 = .ok (.getfield 10, 3) := by decide +kernel
theorem dX1_leave_8 : decode cX1_leave 8 = .ok (.iload_n 1, 1) := by decide +kernel
theorem dX1_leave_9 : decode cX1_leave 9 = .ok (.invokevirtual 47, 3) := by decide +kernel
theorem dX1_leave_12 : decode cX1_leave 12 = .ok (.invokevirtual 44, 3) := by decide +kernel
theorem dX1_leave_15 : decode cX1_leave 15 = .ok (.ldc2_w 50, 3) := by decide +kernel
theorem dX1_leave_18 : decode cX1_leave 18 = .ok (.lcmp, 1) := by decide +kernel
theorem dX1_leave_19 : decode cX1_leave 19 = .ok (.ifCond .eq 7, 3) := by decide +kernel
theorem dX1_leave_22 : decode cX1_leave 22 = .ok (.iconst 1, 1) := by decide +kernel
theorem dX1_leave_23 : decode cX1_leave 23 = .ok (.goto 4, 3) := by decide +kernel
theorem dX1_leave_26 : decode cX1_leave 26 = .ok (.iconst 0, 1) := by decide +kernel
theorem dX1_leave_27 : decode cX1_leave 27 = .ok (.ireturn, 1) := by decide +kernel
theorem dX1_rowOf_0 : decode cX1_rowOf 0 = .ok (.iload_n 1, 1) := by decide +kernel
theorem dX1_rowOf_1 : decode cX1_rowOf 1 = .ok (.tableswitch 42 0 2 #[27, 32, 37], 27) := by decide +kernel
theorem dX1_rowOf_28 : decode cX1_rowOf 28 = .ok (.aload_n 0, 1) := by decide +kernel
theorem dX1_rowOf_29 : decode cX1_rowOf 29 = .ok (.getfield 10, 3) := by decide +kernel
theorem dX1_rowOf_32 : decode cX1_rowOf 32 = .ok (.areturn, 1) := by decide +kernel
theorem dX1_rowOf_33 : decode cX1_rowOf 33 = .ok (.aload_n 0, 1) := by decide +kernel
theorem dX1_rowOf_34 : decode cX1_rowOf 34 = .ok (.getfield 16, 3) := by decide +kernel
theorem dX1_rowOf_37 : decode cX1_rowOf 37 = .ok (.areturn, 1) := by decide +kernel
theorem dX1_rowOf_38 : decode cX1_rowOf 38 = .ok (.aload_n 0, 1) := by decide +kernel
theorem dX1_rowOf_39 : decode cX1_rowOf 39 = .ok (.getfield 19, 3) := by decide +kernel
theorem dX1_rowOf_42 : decode cX1_rowOf 42 = .ok (.areturn, 1) := by decide +kernel
theorem dX1_rowOf_43 : decode cX1_rowOf 43 = .ok (.aconst_null, 1) := by decide +kernel
theorem dX1_rowOf_44 : decode cX1_rowOf 44 = .ok (.areturn, 1) := by decide +kernel
theorem dX1_has_0 : decode cX1_has 0 = .ok (.aload_n 0, 1) := by decide +kernel
theorem dX1_has_1 : decode cX1_has 1 = .ok (.iload_n 1, 1) := by decide +kernel
theorem dX1_has_2 : decode cX1_has 2 = .ok (.invokevirtual 52, 3) := by decide +kernel
theorem dX1_has_5 : decode cX1_has 5 = .ok (.astore_n 3, 1) := by decide +kernel
theorem dX1_has_6 : decode cX1_has 6 = .ok (.aload_n 3, 1) := by decide +kernel
theorem dX1_has_7 : decode cX1_has 7 = .ok (.ifnull 16, 3) := by decide +kernel
theorem dX1_has_10 : decode cX1_has 10 = .ok (.aload_n 3, 1) := by decide +kernel
theorem dX1_has_11 : decode cX1_has 11 = .ok (.iload_n 2, 1) := by decide +kernel
theorem dX1_has_12 : decode cX1_has 12 = .ok (.invokevirtual 47, 3) := by decide +kernel
theorem dX1_has_15 : decode cX1_has 15 = .ok (.iconst (-1), 1) := by decide +kernel
theorem dX1_has_16 : decode cX1_has 16 = .ok (.if_icmp .eq 7, 3) := by decide +kernel
theorem dX1_has_19 : decode cX1_has 19 = .ok (.iconst 1, 1) := by decide +kernel
theorem dX1_has_20 : decode cX1_has 20 = .ok (.goto 4, 3) := by decide +kernel
theorem dX1_has_23 : decode cX1_has 23 = .ok (.iconst 0, 1) := by decide +kernel
theorem dX1_has_24 : decode cX1_has 24 = .ok (.ireturn, 1) := by decide +kernel
theorem dX1_size_0 : decode cX1_size 0 = .ok (.aload_n 0, 1) := by decide +kernel
theorem dX1_size_1 : decode cX1_size 1 = .ok (.iload_n 1, 1) := by decide +kernel
theorem dX1_size_2 : decode cX1_size 2 = .ok (.invokevirtual 52, 3) := by decide +kernel
theorem dX1_size_5 : decode cX1_size 5 = .ok (.astore_n 2, 1) := by decide +kernel
theorem dX1_size_6 : decode cX1_size 6 = .ok (.aload_n 2, 1) := by decide +kernel
theorem dX1_size_7 : decode cX1_size 7 = .ok (.ifnonnull 7, 3) := by decide +kernel
theorem dX1_size_10 : decode cX1_size 10 = .ok (.iconst (-1), 1) := by decide +kernel
theorem dX1_size_11 : decode cX1_size 11 = .ok (.goto 7, 3) := by decide +kernel
theorem dX1_size_14 : decode cX1_size 14 = .ok (.aload_n 2, 1) := by decide +kernel
theorem dX1_size_15 : decode cX1_size 15 = .ok (.getfield 37, 3) := by decide +kernel
theorem dX1_size_18 : decode cX1_size 18 = .ok (.ireturn, 1) := by decide +kernel
theorem dX1_liftFinger_0 : decode cX1_liftFinger 0 = .ok (.aload_n 0, 1) := by decide +kernel
theorem dX1_liftFinger_1 : decode cX1_liftFinger 1 = .ok (.iconst (-1), 1) := by decide +kernel
theorem dX1_liftFinger_2 : decode cX1_liftFinger 2 = .ok (.putfield 22, 3) := by decide +kernel
theorem dX1_liftFinger_5 : decode cX1_liftFinger 5 = .ok (.aload_n 0, 1) := by decide +kernel
theorem dX1_liftFinger_6 : decode cX1_liftFinger 6 = .ok (.iconst (-1), 1) := by decide +kernel
theorem dX1_liftFinger_7 : decode cX1_liftFinger 7 = .ok (.putfield 26, 3) := by decide +kernel
theorem dX1_liftFinger_10 : decode cX1_liftFinger 10 = .ok (.return_, 1) := by decide +kernel
theorem dX1_clear_0 : decode cX1_clear 0 = .ok (.aload_n 0, 1) := by decide +kernel
theorem dX1_clear_1 : decode cX1_clear 1 = .ok (.iload_n 1, 1) := by decide +kernel
theorem dX1_clear_2 : decode cX1_clear 2 = .ok (.invokevirtual 52, 3) := by decide +kernel
theorem dX1_clear_5 : decode cX1_clear 5 = .ok (.astore_n 2, 1) := by decide +kernel
theorem dX1_clear_6 : decode cX1_clear 6 = .ok (.aload_n 2, 1) := by decide +kernel
theorem dX1_clear_7 : decode cX1_clear 7 = .ok (.ifnonnull 5, 3) := by decide +kernel
theorem dX1_clear_10 : decode cX1_clear 10 = .ok (.iconst (-1), 1) := by decide +kernel
theorem dX1_clear_11 : decode cX1_clear 11 = .ok (.ireturn, 1) := by decide +kernel
theorem dX1_clear_12 : decode cX1_clear 12 = .ok (.aload_n 2, 1) := by decide +kernel
theorem dX1_clear_13 : decode cX1_clear 13 = .ok (.invokevirtual 56, 3) := by decide +kernel
theorem dX1_clear_16 : decode cX1_clear 16 = .ok (.istore_n 3, 1) := by decide +kernel
theorem dX1_clear_17 : decode cX1_clear 17 = .ok (.aload_n 2, 1) := by decide +kernel
theorem dX1_clear_18 : decode cX1_clear 18 = .ok (.aload_n 0, 1) := by decide +kernel
theorem dX1_clear_19 : decode cX1_clear 19 = .ok (.getfield 19, 3) := by decide +kernel
theorem dX1_clear_22 : decode cX1_clear 22 = .ok (.if_acmp .ne 11, 3) := by decide +kernel
theorem dX1_clear_25 : decode cX1_clear 25 = .ok (.iload_n 3, 1) := by decide +kernel
theorem dX1_clear_26 : decode cX1_clear 26 = .ok (.ifCond .le 7, 3) := by decide +kernel
theorem dX1_clear_29 : decode cX1_clear 29 = .ok (.aload_n 0, 1) := by decide +kernel
theorem dX1_clear_30 : decode cX1_clear 30 = .ok (.invokevirtual 60, 3) := by decide +kernel
theorem dX1_clear_33 : decode cX1_clear 33 = .ok (.iload_n 3, 1) := by decide +kernel
theorem dX1_clear_34 : decode cX1_clear 34 = .ok (.ireturn, 1) := by decide +kernel
theorem dX1_join_0 : decode cX1_join 0 = .ok (.aload_n 0, 1) := by decide +kernel
theorem dX1_join_1 : decode cX1_join 1 = .ok (.getfield 16, 3) := by decide +kernel
theorem dX1_join_4 : decode cX1_join 4 = .ok (.iload_n 2, 1) := by decide +kernel
theorem dX1_join_5 : decode cX1_join 5 = .ok (.ifCond .eq 7, 3) := by decide +kernel
theorem dX1_join_8 : decode cX1_join 8 = .ok (.iconst 0, 1) := by decide +kernel
theorem dX1_join_9 : decode cX1_join 9 = .ok (.goto 10, 3) := by decide +kernel
theorem dX1_join_12 : decode cX1_join 12 = .ok (.aload_n 0, 1) := by decide +kernel
theorem dX1_join_13 : decode cX1_join 13 = .ok (.getfield 16, 3) := by decide +kernel
theorem dX1_join_16 : decode cX1_join 16 = .ok (.getfield 37, 3) := by decide +kernel
theorem dX1_join_19 : decode cX1_join 19 = .ok (.iload_n 1, 1) := by decide +kernel
theorem dX1_join_20 : decode cX1_join 20 = .ok (.invokevirtual 33, 3) := by decide +kernel
theorem dX1_join_23 : decode cX1_join 23 = .ok (.ifCond .eq 13, 3) := by decide +kernel
theorem dX1_join_26 : decode cX1_join 26 = .ok (.aload_n 0, 1) := by decide +kernel
theorem dX1_join_27 : decode cX1_join 27 = .ok (.getfield 16, 3) := by decide +kernel
theorem dX1_join_30 : decode cX1_join 30 = .ok (.getfield 37, 3) := by decide +kernel
theorem dX1_join_33 : decode cX1_join 33 = .ok (.goto 5, 3) := by decide +kernel
theorem dX1_join_36 : decode cX1_join 36 = .ok (.bipush (-3), 2) := by decide +kernel
theorem dX1_join_38 : decode cX1_join 38 = .ok (.ireturn, 1) := by decide +kernel
theorem dX1_serve_0 : decode cX1_serve 0 = .ok (.iload_n 1, 1) := by decide +kernel
theorem dX1_serve_1 : decode cX1_serve 1 = .ok (.ifCond .eq 7, 3) := by decide +kernel
theorem dX1_serve_4 : decode cX1_serve 4 = .ok (.iconst 0, 1) := by decide +kernel
theorem dX1_serve_5 : decode cX1_serve 5 = .ok (.goto 12, 3) := by decide +kernel
theorem dX1_serve_8 : decode cX1_serve 8 = .ok (.aload_n 0, 1) := by decide +kernel
theorem dX1_serve_9 : decode cX1_serve 9 = .ok (.getfield 16, 3) := by decide +kernel
theorem dX1_serve_12 : decode cX1_serve 12 = .ok (.getfield 37, 3) := by decide +kernel
theorem dX1_serve_15 : decode cX1_serve 15 = .ok (.iconst 1, 1) := by decide +kernel
theorem dX1_serve_16 : decode cX1_serve 16 = .ok (.isub, 1) := by decide +kernel
theorem dX1_serve_17 : decode cX1_serve 17 = .ok (.istore_n 3, 1) := by decide +kernel
theorem dX1_serve_18 : decode cX1_serve 18 = .ok (.iload_n 2, 1) := by decide +kernel
theorem dX1_serve_19 : decode cX1_serve 19 = .ok (.ifCond .eq 14, 3) := by decide +kernel
theorem dX1_serve_22 : decode cX1_serve 22 = .ok (.aload_n 0, 1) := by decide +kernel
theorem dX1_serve_23 : decode cX1_serve 23 = .ok (.getfield 16, 3) := by decide +kernel
theorem dX1_serve_26 : decode cX1_serve 26 = .ok (.iload_n 3, 1) := by decide +kernel
theorem dX1_serve_27 : decode cX1_serve 27 = .ok (.invokevirtual 40, 3) := by decide +kernel
theorem dX1_serve_30 : decode cX1_serve 30 = .ok (.goto 11, 3) := by decide +kernel
theorem dX1_serve_33 : decode cX1_serve 33 = .ok (.aload_n 0, 1) := by decide +kernel
theorem dX1_serve_34 : decode cX1_serve 34 = .ok (.getfield 16, 3) := by decide +kernel
theorem dX1_serve_37 : decode cX1_serve 37 = .ok (.iload_n 3, 1) := by decide +kernel
theorem dX1_serve_38 : decode cX1_serve 38 = .ok (.invokevirtual 44, 3) := by decide +kernel
theorem dX1_serve_41 : decode cX1_serve 41 = .ok (.lreturn, 1) := by decide +kernel
theorem dX1_drop_0 : decode cX1_drop 0 = .ok (.iload_n 2, 1) := by decide +kernel
theorem dX1_drop_1 : decode cX1_drop 1 = .ok (.ifCond .eq 14, 3) := by decide +kernel
theorem dX1_drop_4 : decode cX1_drop 4 = .ok (.aload_n 0, 1) := by decide +kernel
theorem dX1_drop_5 : decode cX1_drop 5 = .ok (.getfield 16, 3) := by decide +kernel
theorem dX1_drop_8 : decode cX1_drop 8 = .ok (.iload_n 1, 1) := by decide +kernel
theorem dX1_drop_9 : decode cX1_drop 9 = .ok (.invokevirtual 47, 3) := by decide +kernel
theorem dX1_drop_12 : decode cX1_drop 12 = .ok (.goto 11, 3) := by decide +kernel
theorem dX1_drop_15 : decode cX1_drop 15 = .ok (.aload_n 0, 1) := by decide +kernel
theorem dX1_drop_16 : decode cX1_drop 16 = .ok (.getfield 16, 3) := by decide +kernel
theorem dX1_drop_19 : decode cX1_drop 19 = .ok (.iload_n 1, 1) := by decide +kernel
theorem dX1_drop_20 : decode cX1_drop 20 = .ok (.invokevirtual 63, 3) := by decide +kernel
theorem dX1_drop_23 : decode cX1_drop 23 = .ok (.istore_n 3, 1) := by decide +kernel
theorem dX1_drop_24 : decode cX1_drop 24 = .ok (.aload_n 0, 1) := by decide +kernel
theorem dX1_drop_25 : decode cX1_drop 25 = .ok (.getfield 16, 3) := by decide +kernel
theorem dX1_drop_28 : decode cX1_drop 28 = .ok (.iload_n 3, 1) := by decide +kernel
theorem dX1_drop_29 : decode cX1_drop 29 = .ok (.invokevirtual 44, 3) := by decide +kernel
theorem dX1_drop_32 : decode cX1_drop 32 = .ok (.ldc2_w 50, 3) := by decide +kernel
theorem dX1_drop_35 : decode cX1_drop 35 = .ok (.lcmp, 1) := by decide +kernel
theorem dX1_drop_36 : decode cX1_drop 36 = .ok (.ifCond .eq 7, 3) := by decide +kernel
theorem dX1_drop_39 : decode cX1_drop 39 = .ok (.iconst 1, 1) := by decide +kernel
theorem dX1_drop_40 : decode cX1_drop 40 = .ok (.goto 4, 3) := by decide +kernel
theorem dX1_drop_43 : decode cX1_drop 43 = .ok (.iconst 0, 1) := by decide +kernel
theorem dX1_drop_44 : decode cX1_drop 44 = .ok (.ireturn, 1) := by decide +kernel
theorem dX1_ring_0 : decode cX1_ring 0 = .ok (.aload_n 0, 1) := by decide +kernel
theorem dX1_ring_1 : decode cX1_ring 1 = .ok (.getfield 16, 3) := by decide +kernel
theorem dX1_ring_4 : decode cX1_ring 4 = .ok (.iload_n 1, 1) := by decide +kernel
theorem dX1_ring_5 : decode cX1_ring 5 = .ok (.invokevirtual 66, 3) := by decide +kernel
theorem dX1_ring_8 : decode cX1_ring 8 = .ok (.ifCond .ne 7, 3) := by decide +kernel
theorem dX1_ring_11 : decode cX1_ring 11 = .ok (.ldc2_w 50, 3) := by decide +kernel
theorem dX1_ring_14 : decode cX1_ring 14 = .ok (.lreturn, 1) := by decide +kernel
theorem dX1_ring_15 : decode cX1_ring 15 = .ok (.aload_n 0, 1) := by decide +kernel
theorem dX1_ring_16 : decode cX1_ring 16 = .ok (.getfield 16, 3) := by decide +kernel
theorem dX1_ring_19 : decode cX1_ring 19 = .ok (.iload_n 2, 1) := by decide +kernel
theorem dX1_ring_20 : decode cX1_ring 20 = .ok (.ifCond .eq 17, 3) := by decide +kernel
theorem dX1_ring_23 : decode cX1_ring 23 = .ok (.aload_n 0, 1) := by decide +kernel
theorem dX1_ring_24 : decode cX1_ring 24 = .ok (.getfield 16, 3) := by decide +kernel
theorem dX1_ring_27 : decode cX1_ring 27 = .ok (.getfield 37, 3) := by decide +kernel
theorem dX1_ring_30 : decode cX1_ring 30 = .ok (.iconst 1, 1) := by decide +kernel
theorem dX1_ring_31 : decode cX1_ring 31 = .ok (.isub, 1) := by decide +kernel
theorem dX1_ring_32 : decode cX1_ring 32 = .ok (.iload_n 1, 1) := by decide +kernel
theorem dX1_ring_33 : decode cX1_ring 33 = .ok (.isub, 1) := by decide +kernel
theorem dX1_ring_34 : decode cX1_ring 34 = .ok (.goto 4, 3) := by decide +kernel
theorem dX1_ring_37 : decode cX1_ring 37 = .ok (.iload_n 1, 1) := by decide +kernel
theorem dX1_ring_38 : decode cX1_ring 38 = .ok (.invokevirtual 40, 3) := by decide +kernel
theorem dX1_ring_41 : decode cX1_ring 41 = .ok (.lreturn, 1) := by decide +kernel
theorem dX1_sieve_0 : decode cX1_sieve 0 = .ok (.aload_n 0, 1) := by decide +kernel
theorem dX1_sieve_1 : decode cX1_sieve 1 = .ok (.getfield 16, 3) := by decide +kernel
theorem dX1_sieve_4 : decode cX1_sieve 4 = .ok (.iload_n 1, 1) := by decide +kernel
theorem dX1_sieve_5 : decode cX1_sieve 5 = .ok (.iload_n 2, 1) := by decide +kernel
theorem dX1_sieve_6 : decode cX1_sieve 6 = .ok (.invokevirtual 70, 3) := by decide +kernel
theorem dX1_sieve_9 : decode cX1_sieve 9 = .ok (.ireturn, 1) := by decide +kernel
theorem dX1_roll_0 : decode cX1_roll 0 = .ok (.aload_n 0, 1) := by decide +kernel
theorem dX1_roll_1 : decode cX1_roll 1 = .ok (.getfield 16, 3) := by decide +kernel
theorem dX1_roll_4 : decode cX1_roll 4 = .ok (.iload_n 1, 1) := by decide +kernel
theorem dX1_roll_5 : decode cX1_roll 5 = .ok (.invokevirtual 74, 3) := by decide +kernel
theorem dX1_roll_8 : decode cX1_roll 8 = .ok (.ireturn, 1) := by decide +kernel
theorem dX1_insert_0 : decode cX1_insert 0 = .ok (.aload_n 0, 1) := by decide +kernel
theorem dX1_insert_1 : decode cX1_insert 1 = .ok (.getfield 19, 3) := by decide +kernel
theorem dX1_insert_4 : decode cX1_insert 4 = .ok (.iload_n 1, 1) := by decide +kernel
theorem dX1_insert_5 : decode cX1_insert 5 = .ok (.invokevirtual 77, 3) := by decide +kernel
theorem dX1_insert_8 : decode cX1_insert 8 = .ok (.ifCond .ne 5, 3) := by decide +kernel
theorem dX1_insert_11 : decode cX1_insert 11 = .ok (.iconst (-1), 1) := by decide +kernel
theorem dX1_insert_12 : decode cX1_insert 12 = .ok (.ireturn, 1) := by decide +kernel
theorem dX1_insert_13 : decode cX1_insert 13 = .ok (.aload_n 0, 1) := by decide +kernel
theorem dX1_insert_14 : decode cX1_insert 14 = .ok (.getfield 19, 3) := by decide +kernel
theorem dX1_insert_17 : decode cX1_insert 17 = .ok (.iload_n 1, 1) := by decide +kernel
theorem dX1_insert_18 : decode cX1_insert 18 = .ok (.iload_n 2, 1) := by decide +kernel
theorem dX1_insert_19 : decode cX1_insert 19 = .ok (.invokevirtual 33, 3) := by decide +kernel
theorem dX1_insert_22 : decode cX1_insert 22 = .ok (.ifCond .ne 6, 3) := by decide +kernel
theorem dX1_insert_25 : decode cX1_insert 25 = .ok (.bipush (-3), 2) := by decide +kernel
theorem dX1_insert_27 : decode cX1_insert 27 = .ok (.ireturn, 1) := by decide +kernel
theorem dX1_insert_28 : decode cX1_insert 28 = .ok (.aload_n 0, 1) := by decide +kernel
theorem dX1_insert_29 : decode cX1_insert 29 = .ok (.invokevirtual 60, 3) := by decide +kernel
theorem dX1_insert_32 : decode cX1_insert 32 = .ok (.aload_n 0, 1) := by decide +kernel
theorem dX1_insert_33 : decode cX1_insert 33 = .ok (.getfield 19, 3) := by decide +kernel
theorem dX1_insert_36 : decode cX1_insert 36 = .ok (.getfield 37, 3) := by decide +kernel
theorem dX1_insert_39 : decode cX1_insert 39 = .ok (.ireturn, 1) := by decide +kernel
theorem dX1_change_0 : decode cX1_change 0 = .ok (.iload_n 3, 1) := by decide +kernel
theorem dX1_change_1 : decode cX1_change 1 = .ok (.ifCond .eq 14, 3) := by decide +kernel
theorem dX1_change_4 : decode cX1_change 4 = .ok (.aload_n 0, 1) := by decide +kernel
theorem dX1_change_5 : decode cX1_change 5 = .ok (.getfield 19, 3) := by decide +kernel
theorem dX1_change_8 : decode cX1_change 8 = .ok (.iload_n 1, 1) := by decide +kernel
theorem dX1_change_9 : decode cX1_change 9 = .ok (.invokevirtual 44, 3) := by decide +kernel
theorem dX1_change_12 : decode cX1_change 12 = .ok (.goto 12, 3) := by decide +kernel
theorem dX1_change_15 : decode cX1_change 15 = .ok (.aload_n 0, 1) := by decide +kernel
theorem dX1_change_16 : decode cX1_change 16 = .ok (.getfield 19, 3) := by decide +kernel
theorem dX1_change_19 : decode cX1_change 19 = .ok (.iload_n 1, 1) := by decide +kernel
theorem dX1_change_20 : decode cX1_change 20 = .ok (.iload_n 2, 1) := by decide +kernel
theorem dX1_change_21 : decode cX1_change 21 = .ok (.invokevirtual 80, 3) := by decide +kernel
theorem dX1_change_24 : decode cX1_change 24 = .ok (.lstore 4, 2) := by decide +kernel
theorem dX1_change_26 : decode cX1_change 26 = .ok (.iload_n 3, 1) := by decide +kernel
theorem dX1_change_27 : decode cX1_change 27 = .ok (.ifCond .eq 16, 3) := by decide +kernel
theorem dX1_change_30 : decode cX1_change 30 = .ok (.lload 4, 2) := by decide +kernel
theorem dX1_change_32 : decode cX1_change 32 = .ok (.ldc2_w 50, 3) := by decide +kernel
theorem dX1_change_35 : decode cX1_change 35 = .ok (.lcmp, 1) := by decide +kernel
theorem dX1_change_36 : decode cX1_change 36 = .ok (.ifCond .eq 7, 3) := by decide +kernel
theorem dX1_change_39 : decode cX1_change 39 = .ok (.aload_n 0, 1) := by decide +kernel
theorem dX1_change_40 : decode cX1_change 40 = .ok (.invokevirtual 60, 3) := by decide +kernel
theorem dX1_change_43 : decode cX1_change 43 = .ok (.lload 4, 2) := by decide +kernel
theorem dX1_change_45 : decode cX1_change 45 = .ok (.lreturn, 1) := by decide +kernel
theorem dX1_chain_0 : decode cX1_chain 0 = .ok (.aload_n 0, 1) := by decide +kernel
theorem dX1_chain_1 : decode cX1_chain 1 = .ok (.getfield 19, 3) := by decide +kernel
theorem dX1_chain_4 : decode cX1_chain 4 = .ok (.iload_n 1, 1) := by decide +kernel
theorem dX1_chain_5 : decode cX1_chain 5 = .ok (.invokevirtual 40, 3) := by decide +kernel
theorem dX1_chain_8 : decode cX1_chain 8 = .ok (.lreturn, 1) := by decide +kernel
theorem dX1_find_0 : decode cX1_find 0 = .ok (.iload_n 2, 1) := by decide +kernel
theorem dX1_find_1 : decode cX1_find 1 = .ok (.ifCond .eq 14, 3) := by decide +kernel
theorem dX1_find_4 : decode cX1_find 4 = .ok (.aload_n 0, 1) := by decide +kernel
theorem dX1_find_5 : decode cX1_find 5 = .ok (.getfield 19, 3) := by decide +kernel
theorem dX1_find_8 : decode cX1_find 8 = .ok (.iload_n 1, 1) := by decide +kernel
theorem dX1_find_9 : decode cX1_find 9 = .ok (.invokevirtual 63, 3) := by decide +kernel
theorem dX1_find_12 : decode cX1_find 12 = .ok (.goto 11, 3) := by decide +kernel
theorem dX1_find_15 : decode cX1_find 15 = .ok (.aload_n 0, 1) := by decide +kernel
theorem dX1_find_16 : decode cX1_find 16 = .ok (.getfield 19, 3) := by decide +kernel
theorem dX1_find_19 : decode cX1_find 19 = .ok (.iload_n 1, 1) := by decide +kernel
theorem dX1_find_20 : decode cX1_find 20 = .ok (.invokevirtual 47, 3) := by decide +kernel
theorem dX1_find_23 : decode cX1_find 23 = .ok (.ireturn, 1) := by decide +kernel
theorem dX1_unlink_0 : decode cX1_unlink 0 = .ok (.aload_n 0, 1) := by decide +kernel
theorem dX1_unlink_1 : decode cX1_unlink 1 = .ok (.getfield 19, 3) := by decide +kernel
theorem dX1_unlink_4 : decode cX1_unlink 4 = .ok (.aload_n 0, 1) := by decide +kernel
theorem dX1_unlink_5 : decode cX1_unlink 5 = .ok (.getfield 19, 3) := by decide +kernel
theorem dX1_unlink_8 : decode cX1_unlink 8 = .ok (.iload_n 1, 1) := by decide +kernel
theorem dX1_unlink_9 : decode cX1_unlink 9 = .ok (.invokevirtual 47, 3) := by decide +kernel
theorem dX1_unlink_12 : decode cX1_unlink 12 = .ok (.invokevirtual 44, 3) := by decide +kernel
theorem dX1_unlink_15 : decode cX1_unlink 15 = .ok (.ldc2_w 50, 3) := by decide +kernel
theorem dX1_unlink_18 : decode cX1_unlink 18 = .ok (.lcmp, 1) := by decide +kernel
theorem dX1_unlink_19 : decode cX1_unlink 19 = .ok (.ifCond .ne 5, 3) := by decide +kernel
theorem dX1_unlink_22 : decode cX1_unlink 22 = .ok (.iconst 0, 1) := by decide +kernel
theorem dX1_unlink_23 : decode cX1_unlink 23 = .ok (.ireturn, 1) := by decide +kernel
theorem dX1_unlink_24 : decode cX1_unlink 24 = .ok (.aload_n 0, 1) := by decide +kernel
theorem dX1_unlink_25 : decode cX1_unlink 25 = .ok (.invokevirtual 60, 3) := by decide +kernel
theorem dX1_unlink_28 : decode cX1_unlink 28 = .ok (.iconst 1, 1) := by decide +kernel
theorem dX1_unlink_29 : decode cX1_unlink 29 = .ok (.ireturn, 1) := by decide +kernel
theorem dX1_point_0 : decode cX1_point 0 = .ok (.aload_n 0, 1) := by decide +kernel
theorem dX1_point_1 : decode cX1_point 1 = .ok (.getfield 19, 3) := by decide +kernel
theorem dX1_point_4 : decode cX1_point 4 = .ok (.iload_n 1, 1) := by decide +kernel
theorem dX1_point_5 : decode cX1_point 5 = .ok (.invokevirtual 77, 3) := by decide +kernel
theorem dX1_point_8 : decode cX1_point 8 = .ok (.ifCond .ne 5, 3) := by decide +kernel
theorem dX1_point_11 : decode cX1_point 11 = .ok (.iconst (-1), 1) := by decide +kernel
theorem dX1_point_12 : decode cX1_point 12 = .ok (.ireturn, 1) := by decide +kernel
theorem dX1_point_13 : decode cX1_point 13 = .ok (.aload_n 0, 1) := by decide +kernel
theorem dX1_point_14 : decode cX1_point 14 = .ok (.iload_n 1, 1) := by decide +kernel
theorem dX1_point_15 : decode cX1_point 15 = .ok (.putfield 22, 3) := by decide +kernel
theorem dX1_point_18 : decode cX1_point 18 = .ok (.aload_n 0, 1) := by decide +kernel
theorem dX1_point_19 : decode cX1_point 19 = .ok (.iconst (-1), 1) := by decide +kernel
theorem dX1_point_20 : decode cX1_point 20 = .ok (.putfield 26, 3) := by decide +kernel
theorem dX1_point_23 : decode cX1_point 23 = .ok (.iload_n 1, 1) := by decide +kernel
theorem dX1_point_24 : decode cX1_point 24 = .ok (.ireturn, 1) := by decide +kernel
theorem dX1_pass_0 : decode cX1_pass 0 = .ok (.aload_n 0, 1) := by decide +kernel
theorem dX1_pass_1 : decode cX1_pass 1 = .ok (.getfield 22, 3) := by decide +kernel
theorem dX1_pass_4 : decode cX1_pass 4 = .ok (.iconst (-1), 1) := by decide +kernel
theorem dX1_pass_5 : decode cX1_pass 5 = .ok (.if_icmp .ne 7, 3) := by decide +kernel
theorem dX1_pass_8 : decode cX1_pass 8 = .ok (.ldc2_w 50, 3) := by decide +kernel
theorem dX1_pass_11 : decode cX1_pass 11 = .ok (.lreturn, 1) := by decide +kernel
theorem dX1_pass_12 : decode cX1_pass 12 = .ok (.iload_n 1, 1) := by decide +kernel
theorem dX1_pass_13 : decode cX1_pass 13 = .ok (.ifCond .eq 12, 3) := by decide +kernel
theorem dX1_pass_16 : decode cX1_pass 16 = .ok (.aload_n 0, 1) := by decide +kernel
theorem dX1_pass_17 : decode cX1_pass 17 = .ok (.getfield 22, 3) := by decide +kernel
theorem dX1_pass_20 : decode cX1_pass 20 = .ok (.iconst 1, 1) := by decide +kernel
theorem dX1_pass_21 : decode cX1_pass 21 = .ok (.isub, 1) := by decide +kernel
theorem dX1_pass_22 : decode cX1_pass 22 = .ok (.goto 7, 3) := by decide +kernel
theorem dX1_pass_25 : decode cX1_pass 25 = .ok (.aload_n 0, 1) := by decide +kernel
theorem dX1_pass_26 : decode cX1_pass 26 = .ok (.getfield 22, 3) := by decide +kernel
theorem dX1_pass_29 : decode cX1_pass 29 = .ok (.istore_n 2, 1) := by decide +kernel
theorem dX1_pass_30 : decode cX1_pass 30 = .ok (.aload_n 0, 1) := by decide +kernel
theorem dX1_pass_31 : decode cX1_pass 31 = .ok (.getfield 19, 3) := by decide +kernel
theorem dX1_pass_34 : decode cX1_pass 34 = .ok (.iload_n 2, 1) := by decide +kernel
theorem dX1_pass_35 : decode cX1_pass 35 = .ok (.invokevirtual 66, 3) := by decide +kernel
theorem dX1_pass_38 : decode cX1_pass 38 = .ok (.ifCond .ne 7, 3) := by decide +kernel
theorem dX1_pass_41 : decode cX1_pass 41 = .ok (.ldc2_w 50, 3) := by decide +kernel
theorem dX1_pass_44 : decode cX1_pass 44 = .ok (.lreturn, 1) := by decide +kernel
theorem dX1_pass_45 : decode cX1_pass 45 = .ok (.aload_n 0, 1) := by decide +kernel
theorem dX1_pass_46 : decode cX1_pass 46 = .ok (.iload_n 1, 1) := by decide +kernel
theorem dX1_pass_47 : decode cX1_pass 47 = .ok (.ifCond .eq 7, 3) := by decide +kernel
theorem dX1_pass_50 : decode cX1_pass 50 = .ok (.iload_n 2, 1) := by decide +kernel
theorem dX1_pass_51 : decode cX1_pass 51 = .ok (.goto 6, 3) := by decide +kernel
theorem dX1_pass_54 : decode cX1_pass 54 = .ok (.iload_n 2, 1) := by decide +kernel
theorem dX1_pass_55 : decode cX1_pass 55 = .ok (.iconst 1, 1) := by decide +kernel
theorem dX1_pass_56 : decode cX1_pass 56 = .ok (.iadd, 1) := by decide +kernel
theorem dX1_pass_57 : decode cX1_pass 57 = .ok (.putfield 22, 3) := by decide +kernel
theorem dX1_pass_60 : decode cX1_pass 60 = .ok (.aload_n 0, 1) := by decide +kernel
theorem dX1_pass_61 : decode cX1_pass 61 = .ok (.iload_n 2, 1) := by decide +kernel
theorem dX1_pass_62 : decode cX1_pass 62 = .ok (.putfield 26, 3) := by decide +kernel
theorem dX1_pass_65 : decode cX1_pass 65 = .ok (.aload_n 0, 1) := by decide +kernel
theorem dX1_pass_66 : decode cX1_pass 66 = .ok (.getfield 19, 3) := by decide +kernel
theorem dX1_pass_69 : decode cX1_pass 69 = .ok (.iload_n 2, 1) := by decide +kernel
theorem dX1_pass_70 : decode cX1_pass 70 = .ok (.invokevirtual 40, 3) := by decide +kernel
theorem dX1_pass_73 : decode cX1_pass 73 = .ok (.lreturn, 1) := by decide +kernel
theorem dX1_changeMet_0 : decode cX1_changeMet 0 = .ok (.aload_n 0, 1) := by decide +kernel
theorem dX1_changeMet_1 : decode cX1_changeMet 1 = .ok (.getfield 19, 3) := by decide +kernel
theorem dX1_changeMet_4 : decode cX1_changeMet 4 = .ok (.aload_n 0, 1) := by decide +kernel
theorem dX1_changeMet_5 : decode cX1_changeMet 5 = .ok (.getfield 26, 3) := by decide +kernel
theorem dX1_changeMet_8 : decode cX1_changeMet 8 = .ok (.iload_n 1, 1) := by decide +kernel
theorem dX1_changeMet_9 : decode cX1_changeMet 9 = .ok (.invokevirtual 80, 3) := by decide +kernel
theorem dX1_changeMet_12 : decode cX1_changeMet 12 = .ok (.ldc2_w 50, 3) := by decide +kernel
theorem dX1_changeMet_15 : decode cX1_changeMet 15 = .ok (.lcmp, 1) := by decide +kernel
theorem dX1_changeMet_16 : decode cX1_changeMet 16 = .ok (.ifCond .ne 7, 3) := by decide +kernel
theorem dX1_changeMet_19 : decode cX1_changeMet 19 = .ok (.iconst (-1), 1) := by decide +kernel
theorem dX1_changeMet_20 : decode cX1_changeMet 20 = .ok (.goto 10, 3) := by decide +kernel
theorem dX1_changeMet_23 : decode cX1_changeMet 23 = .ok (.aload_n 0, 1) := by decide +kernel
theorem dX1_changeMet_24 : decode cX1_changeMet 24 = .ok (.getfield 19, 3) := by decide +kernel
theorem dX1_changeMet_27 : decode cX1_changeMet 27 = .ok (.getfield 37, 3) := by decide +kernel
theorem dX1_changeMet_30 : decode cX1_changeMet 30 = .ok (.ireturn, 1) := by decide +kernel
theorem dX1_takeMet_0 : decode cX1_takeMet 0 = .ok (.aload_n 0, 1) := by decide +kernel
theorem dX1_takeMet_1 : decode cX1_takeMet 1 = .ok (.getfield 19, 3) := by decide +kernel
theorem dX1_takeMet_4 : decode cX1_takeMet 4 = .ok (.aload_n 0, 1) := by decide +kernel
theorem dX1_takeMet_5 : decode cX1_takeMet 5 = .ok (.getfield 26, 3) := by decide +kernel
theorem dX1_takeMet_8 : decode cX1_takeMet 8 = .ok (.invokevirtual 44, 3) := by decide +kernel
theorem dX1_takeMet_11 : decode cX1_takeMet 11 = .ok (.ldc2_w 50, 3) := by decide +kernel
theorem dX1_takeMet_14 : decode cX1_takeMet 14 = .ok (.lcmp, 1) := by decide +kernel
theorem dX1_takeMet_15 : decode cX1_takeMet 15 = .ok (.ifCond .ne 5, 3) := by decide +kernel
theorem dX1_takeMet_18 : decode cX1_takeMet 18 = .ok (.iconst (-1), 1) := by decide +kernel
theorem dX1_takeMet_19 : decode cX1_takeMet 19 = .ok (.ireturn, 1) := by decide +kernel
theorem dX1_takeMet_20 : decode cX1_takeMet 20 = .ok (.aload_n 0, 1) := by decide +kernel
theorem dX1_takeMet_21 : decode cX1_takeMet 21 = .ok (.getfield 26, 3) := by decide +kernel
theorem dX1_takeMet_24 : decode cX1_takeMet 24 = .ok (.aload_n 0, 1) := by decide +kernel
theorem dX1_takeMet_25 : decode cX1_takeMet 25 = .ok (.getfield 22, 3) := by decide +kernel
theorem dX1_takeMet_28 : decode cX1_takeMet 28 = .ok (.if_icmp .ge 13, 3) := by decide +kernel
theorem dX1_takeMet_31 : decode cX1_takeMet 31 = .ok (.aload_n 0, 1) := by decide +kernel
theorem dX1_takeMet_32 : decode cX1_takeMet 32 = .ok (.dup, 1) := by decide +kernel
theorem dX1_takeMet_33 : decode cX1_takeMet 33 = .ok (.getfield 22, 3) := by decide +kernel
theorem dX1_takeMet_36 : decode cX1_takeMet 36 = .ok (.iconst 1, 1) := by decide +kernel
theorem dX1_takeMet_37 : decode cX1_takeMet 37 = .ok (.isub, 1) := by decide +kernel
theorem dX1_takeMet_38 : decode cX1_takeMet 38 = .ok (.putfield 22, 3) := by decide +kernel
theorem dX1_takeMet_41 : decode cX1_takeMet 41 = .ok (.aload_n 0, 1) := by decide +kernel
theorem dX1_takeMet_42 : decode cX1_takeMet 42 = .ok (.iconst (-1), 1) := by decide +kernel
theorem dX1_takeMet_43 : decode cX1_takeMet 43 = .ok (.putfield 26, 3) := by decide +kernel
theorem dX1_takeMet_46 : decode cX1_takeMet 46 = .ok (.aload_n 0, 1) := by decide +kernel
theorem dX1_takeMet_47 : decode cX1_takeMet 47 = .ok (.getfield 19, 3) := by decide +kernel
theorem dX1_takeMet_50 : decode cX1_takeMet 50 = .ok (.getfield 37, 3) := by decide +kernel
theorem dX1_takeMet_53 : decode cX1_takeMet 53 = .ok (.ireturn, 1) := by decide +kernel
theorem dX1_putAtFinger_0 : decode cX1_putAtFinger 0 = .ok (.aload_n 0, 1) := by decide +kernel
theorem dX1_putAtFinger_1 : decode cX1_putAtFinger 1 = .ok (.getfield 19, 3) := by decide +kernel
theorem dX1_putAtFinger_4 : decode cX1_putAtFinger 4 = .ok (.aload_n 0, 1) := by decide +kernel
theorem dX1_putAtFinger_5 : decode cX1_putAtFinger 5 = .ok (.getfield 22, 3) := by decide +kernel
theorem dX1_putAtFinger_8 : decode cX1_putAtFinger 8 = .ok (.iload_n 1, 1) := by decide +kernel
theorem dX1_putAtFinger_9 : decode cX1_putAtFinger 9 = .ok (.invokevirtual 33, 3) := by decide +kernel
theorem dX1_putAtFinger_12 : decode cX1_putAtFinger 12 = .ok (.ifCond .ne 6, 3) := by decide +kernel
theorem dX1_putAtFinger_15 : decode cX1_putAtFinger 15 = .ok (.bipush (-3), 2) := by decide +kernel
theorem dX1_putAtFinger_17 : decode cX1_putAtFinger 17 = .ok (.ireturn, 1) := by decide +kernel
theorem dX1_putAtFinger_18 : decode cX1_putAtFinger 18 = .ok (.aload_n 0, 1) := by decide +kernel
theorem dX1_putAtFinger_19 : decode cX1_putAtFinger 19 = .ok (.dup, 1) := by decide +kernel
theorem dX1_putAtFinger_20 : decode cX1_putAtFinger 20 = .ok (.getfield 22, 3) := by decide +kernel
theorem dX1_putAtFinger_23 : decode cX1_putAtFinger 23 = .ok (.iconst 1, 1) := by decide +kernel
theorem dX1_putAtFinger_24 : decode cX1_putAtFinger 24 = .ok (.iadd, 1) := by decide +kernel
theorem dX1_putAtFinger_25 : decode cX1_putAtFinger 25 = .ok (.putfield 22, 3) := by decide +kernel
theorem dX1_putAtFinger_28 : decode cX1_putAtFinger 28 = .ok (.aload_n 0, 1) := by decide +kernel
theorem dX1_putAtFinger_29 : decode cX1_putAtFinger 29 = .ok (.iconst (-1), 1) := by decide +kernel
theorem dX1_putAtFinger_30 : decode cX1_putAtFinger 30 = .ok (.putfield 26, 3) := by decide +kernel
theorem dX1_putAtFinger_33 : decode cX1_putAtFinger 33 = .ok (.aload_n 0, 1) := by decide +kernel
theorem dX1_putAtFinger_34 : decode cX1_putAtFinger 34 = .ok (.getfield 19, 3) := by decide +kernel
theorem dX1_putAtFinger_37 : decode cX1_putAtFinger 37 = .ok (.getfield 37, 3) := by decide +kernel
theorem dX1_putAtFinger_40 : decode cX1_putAtFinger 40 = .ok (.ireturn, 1) := by decide +kernel
theorem dX1_touch_0 : decode cX1_touch 0 = .ok (.aload_n 0, 1) := by decide +kernel
theorem dX1_touch_1 : decode cX1_touch 1 = .ok (.getfield 22, 3) := by decide +kernel
theorem dX1_touch_4 : decode cX1_touch 4 = .ok (.iconst (-1), 1) := by decide +kernel
theorem dX1_touch_5 : decode cX1_touch 5 = .ok (.if_icmp .ne 5, 3) := by decide +kernel
theorem dX1_touch_8 : decode cX1_touch 8 = .ok (.iconst (-1), 1) := by decide +kernel
theorem dX1_touch_9 : decode cX1_touch 9 = .ok (.ireturn, 1) := by decide +kernel
theorem dX1_touch_10 : decode cX1_touch 10 = .ok (.iload_n 1, 1) := by decide +kernel
theorem dX1_touch_11 : decode cX1_touch 11 = .ok (.tableswitch 42 0 2 #[25, 31, 36], 25) := by decide +kernel
theorem dX1_touch_36 : decode cX1_touch 36 = .ok (.aload_n 0, 1) := by decide +kernel
theorem dX1_touch_37 : decode cX1_touch 37 = .ok (.iload_n 2, 1) := by decide +kernel
theorem dX1_touch_38 : decode cX1_touch 38 = .ok (.invokevirtual 84, 3) := by decide +kernel
theorem dX1_touch_41 : decode cX1_touch 41 = .ok (.ireturn, 1) := by decide +kernel
theorem dX1_touch_42 : decode cX1_touch 42 = .ok (.aload_n 0, 1) := by decide +kernel
theorem dX1_touch_43 : decode cX1_touch 43 = .ok (.invokevirtual 87, 3) := by decide +kernel
theorem dX1_touch_46 : decode cX1_touch 46 = .ok (.ireturn, 1) := by decide +kernel
theorem dX1_touch_47 : decode cX1_touch 47 = .ok (.aload_n 0, 1) := by decide +kernel
theorem dX1_touch_48 : decode cX1_touch 48 = .ok (.iload_n 2, 1) := by decide +kernel
theorem dX1_touch_49 : decode cX1_touch 49 = .ok (.invokevirtual 90, 3) := by decide +kernel
theorem dX1_touch_52 : decode cX1_touch 52 = .ok (.ireturn, 1) := by decide +kernel
theorem dX1_touch_53 : decode cX1_touch 53 = .ok (.iconst (-1), 1) := by decide +kernel
theorem dX1_touch_54 : decode cX1_touch 54 = .ok (.ireturn, 1) := by decide +kernel
theorem dX1_finger_0 : decode cX1_finger 0 = .ok (.aload_n 0, 1) := by decide +kernel
theorem dX1_finger_1 : decode cX1_finger 1 = .ok (.getfield 22, 3) := by decide +kernel
theorem dX1_finger_4 : decode cX1_finger 4 = .ok (.ireturn, 1) := by decide +kernel
theorem dX1_empty_0 : decode cX1_empty 0 = .ok (.aload_n 0, 1) := by decide +kernel
theorem dX1_empty_1 : decode cX1_empty 1 = .ok (.getfield 16, 3) := by decide +kernel
theorem dX1_empty_4 : decode cX1_empty 4 = .ok (.aload_n 0, 1) := by decide +kernel
theorem dX1_empty_5 : decode cX1_empty 5 = .ok (.getfield 10, 3) := by decide +kernel
theorem dX1_empty_8 : decode cX1_empty 8 = .ok (.aload_n 0, 1) := by decide +kernel
theorem dX1_empty_9 : decode cX1_empty 9 = .ok (.getfield 16, 3) := by decide +kernel
theorem dX1_empty_12 : decode cX1_empty 12 = .ok (.getfield 37, 3) := by decide +kernel
theorem dX1_empty_15 : decode cX1_empty 15 = .ok (.invokevirtual 93, 3) := by decide +kernel
theorem dX1_empty_18 : decode cX1_empty 18 = .ok (.ifCond .eq 13, 3) := by decide +kernel
theorem dX1_empty_21 : decode cX1_empty 21 = .ok (.aload_n 0, 1) := by decide +kernel
theorem dX1_empty_22 : decode cX1_empty 22 = .ok (.getfield 16, 3) := by decide +kernel
theorem dX1_empty_25 : decode cX1_empty 25 = .ok (.getfield 37, 3) := by decide +kernel
theorem dX1_empty_28 : decode cX1_empty 28 = .ok (.goto 5, 3) := by decide +kernel
theorem dX1_empty_31 : decode cX1_empty 31 = .ok (.bipush (-3), 2) := by decide +kernel
theorem dX1_empty_33 : decode cX1_empty 33 = .ok (.ireturn, 1) := by decide +kernel
theorem dX1_hand_0 : decode cX1_hand 0 = .ok (.aload_n 0, 1) := by decide +kernel
theorem dX1_hand_1 : decode cX1_hand 1 = .ok (.getfield 19, 3) := by decide +kernel
theorem dX1_hand_4 : decode cX1_hand 4 = .ok (.getfield 37, 3) := by decide +kernel
theorem dX1_hand_7 : decode cX1_hand 7 = .ok (.ifCond .le 7, 3) := by decide +kernel
theorem dX1_hand_10 : decode cX1_hand 10 = .ok (.iconst 1, 1) := by decide +kernel
theorem dX1_hand_11 : decode cX1_hand 11 = .ok (.goto 4, 3) := by decide +kernel
theorem dX1_hand_14 : decode cX1_hand 14 = .ok (.iconst 0, 1) := by decide +kernel
theorem dX1_hand_15 : decode cX1_hand 15 = .ok (.istore_n 1, 1) := by decide +kernel
theorem dX1_hand_16 : decode cX1_hand 16 = .ok (.aload_n 0, 1) := by decide +kernel
theorem dX1_hand_17 : decode cX1_hand 17 = .ok (.getfield 16, 3) := by decide +kernel
theorem dX1_hand_20 : decode cX1_hand 20 = .ok (.aload_n 0, 1) := by decide +kernel
theorem dX1_hand_21 : decode cX1_hand 21 = .ok (.getfield 19, 3) := by decide +kernel
theorem dX1_hand_24 : decode cX1_hand 24 = .ok (.iconst 0, 1) := by decide +kernel
theorem dX1_hand_25 : decode cX1_hand 25 = .ok (.invokevirtual 93, 3) := by decide +kernel
theorem dX1_hand_28 : decode cX1_hand 28 = .ok (.ifCond .ne 6, 3) := by decide +kernel
theorem dX1_hand_31 : decode cX1_hand 31 = .ok (.bipush (-3), 2) := by decide +kernel
theorem dX1_hand_33 : decode cX1_hand 33 = .ok (.ireturn, 1) := by decide +kernel
theorem dX1_hand_34 : decode cX1_hand 34 = .ok (.iload_n 1, 1) := by decide +kernel
theorem dX1_hand_35 : decode cX1_hand 35 = .ok (.ifCond .eq 7, 3) := by decide +kernel
theorem dX1_hand_38 : decode cX1_hand 38 = .ok (.aload_n 0, 1) := by decide +kernel
theorem dX1_hand_39 : decode cX1_hand 39 = .ok (.invokevirtual 60, 3) := by decide +kernel
theorem dX1_hand_42 : decode cX1_hand 42 = .ok (.aload_n 0, 1) := by decide +kernel
theorem dX1_hand_43 : decode cX1_hand 43 = .ok (.getfield 16, 3) := by decide +kernel
theorem dX1_hand_46 : decode cX1_hand 46 = .ok (.getfield 37, 3) := by decide +kernel
theorem dX1_hand_49 : decode cX1_hand 49 = .ok (.ireturn, 1) := by decide +kernel
end
section
theorem inX1_init_X0 : ∀ w ∈ wsX00, w ∈ wsX1_init := by decide +kernel
set_option maxRecDepth 20000 in
theorem gX1_init_X0_init : GoodIn wsX1_init wsX0_init := goodIn_r _ [8, 9, 2, 3, 10, 11, 12, 18, 19] (by decide +kernel) (by decide +kernel)
theorem inX1_init_X1 : ∀ w ∈ wsX10, w ∈ wsX1_init := by decide +kernel
theorem inX1_liftFinger_X1 : ∀ w ∈ wsX10, w ∈ wsX1_liftFinger := by decide +kernel
theorem inX1_rowOf_X1 : ∀ w ∈ wsX10, w ∈ wsX1_rowOf := by decide +kernel
theorem inX1_enter_X1 : ∀ w ∈ wsX10, w ∈ wsX1_enter := by decide +kernel
set_option maxRecDepth 20000 in
theorem gX1_enter_X0_countBelow : GoodIn wsX1_enter wsX0_countBelow := goodIn_r _ [5, 6, 7, 24, 25] (by decide +kernel) (by decide +kernel)
set_option maxRecDepth 20000 in
theorem gX1_enter_X0_put : GoodIn wsX1_enter wsX0_put := goodIn_r _ [10, 6, 11, 12, 13, 4, 14, 7, 15, 16, 17, 18, 24, 25] (by decide +kernel) (by decide +kernel)
theorem inX1_enter_X0 : ∀ w ∈ wsX00, w ∈ wsX1_enter := by decide +kernel
theorem inX1_call_X1 : ∀ w ∈ wsX10, w ∈ wsX1_call := by decide +kernel
set_option maxRecDepth 20000 in
theorem gX1_call_X0_take : GoodIn wsX1_call wsX0_take := goodIn_r _ [15, 6, 7, 8, 4, 9, 10, 12, 11, 16, 17, 18, 19, 25, 26] (by decide +kernel) (by decide +kernel)
set_option maxRecDepth 20000 in
theorem gX1_call_X0_at : GoodIn wsX1_call wsX0_at := goodIn_r _ [5, 6, 7, 8, 4, 9, 10, 11, 12, 25, 26] (by decide +kernel) (by decide +kernel)
theorem inX1_leave_X1 : ∀ w ∈ wsX10, w ∈ wsX1_leave := by decide +kernel
set_option maxRecDepth 20000 in
theorem gX1_leave_X0_firstPlace : GoodIn wsX1_leave wsX0_firstPlace := goodIn_r _ [5, 6, 7, 26, 27] (by decide +kernel) (by decide +kernel)
set_option maxRecDepth 20000 in
theorem gX1_leave_X0_take : GoodIn wsX1_leave wsX0_take := goodIn_r _ [10, 11, 12, 13, 4, 14, 6, 15, 7, 16, 17, 18, 19, 26, 27] (by decide +kernel) (by decide +kernel)
theorem inX1_unlink_X1 : ∀ w ∈ wsX10, w ∈ wsX1_unlink := by decide +kernel
set_option maxRecDepth 20000 in
theorem gX1_unlink_X0_firstPlace : GoodIn wsX1_unlink wsX0_firstPlace := goodIn_r _ [5, 6, 7, 33, 34] (by decide +kernel) (by decide +kernel)
set_option maxRecDepth 20000 in
theorem gX1_unlink_X0_take : GoodIn wsX1_unlink wsX0_take := goodIn_r _ [10, 11, 12, 13, 4, 14, 6, 15, 7, 16, 17, 18, 19, 33, 34] (by decide +kernel) (by decide +kernel)
set_option maxRecDepth 20000 in
theorem gX1_unlink_X1_liftFinger : GoodIn wsX1_unlink wsX1_liftFinger := goodIn_r _ [25, 26, 27, 28, 29, 30, 31, 32] (by decide +kernel) (by decide +kernel)
set_option maxRecDepth 20000 in
theorem gX1_unlink_X1_liftFinger_v : GoodIn wsX1_unlink (wsV RX1 60 RX1 yX1_liftFinger wsX1_liftFinger) := goodIn_app (goodIn_r _ [21, 22, 23, 24] (by decide +kernel) (by decide +kernel)) gX1_unlink_X1_liftFinger
set_option maxRecDepth 20000 in
theorem gX1_has_X1_rowOf : GoodIn wsX1_has wsX1_rowOf := goodIn_r _ [5, 6, 7, 8, 15, 16, 17, 18, 19] (by decide +kernel) (by decide +kernel)
set_option maxRecDepth 20000 in
theorem gX1_has_X1_rowOf_v : GoodIn wsX1_has (wsV RX1 52 RX1 yX1_rowOf wsX1_rowOf) := goodIn_app (goodIn_r _ [1, 2, 3, 4] (by decide +kernel) (by decide +kernel)) gX1_has_X1_rowOf
set_option maxRecDepth 20000 in
theorem gX1_has_X0_firstPlace : GoodIn wsX1_has wsX0_firstPlace := goodIn_r _ [12, 13, 14, 20, 21] (by decide +kernel) (by decide +kernel)
set_option maxRecDepth 20000 in
theorem gX1_size_X1_rowOf : GoodIn wsX1_size wsX1_rowOf := goodIn_r _ [5, 6, 7, 8, 9, 10, 11, 12, 13] (by decide +kernel) (by decide +kernel)
set_option maxRecDepth 20000 in
theorem gX1_size_X1_rowOf_v : GoodIn wsX1_size (wsV RX1 52 RX1 yX1_rowOf wsX1_rowOf) := goodIn_app (goodIn_r _ [1, 2, 3, 4] (by decide +kernel) (by decide +kernel)) gX1_size_X1_rowOf
theorem inX1_size_X0 : ∀ w ∈ wsX00, w ∈ wsX1_size := by decide +kernel
set_option maxRecDepth 20000 in
theorem gX1_clear_X1_rowOf : GoodIn wsX1_clear wsX1_rowOf := goodIn_r _ [5, 6, 7, 8, 20, 21, 22, 23, 24] (by decide +kernel) (by decide +kernel)
set_option maxRecDepth 20000 in
theorem gX1_clear_X1_rowOf_v : GoodIn wsX1_clear (wsV RX1 52 RX1 yX1_rowOf wsX1_rowOf) := goodIn_app (goodIn_r _ [1, 2, 3, 4] (by decide +kernel) (by decide +kernel)) gX1_clear_X1_rowOf
set_option maxRecDepth 20000 in
theorem gX1_clear_X0_wipe : GoodIn wsX1_clear wsX0_wipe := goodIn_r _ [12, 13, 25, 26] (by decide +kernel) (by decide +kernel)
theorem inX1_clear_X1 : ∀ w ∈ wsX10, w ∈ wsX1_clear := by decide +kernel
set_option maxRecDepth 20000 in
theorem gX1_clear_X1_liftFinger : GoodIn wsX1_clear wsX1_liftFinger := goodIn_r _ [17, 18, 19, 20, 21, 22, 23, 24] (by decide +kernel) (by decide +kernel)
set_option maxRecDepth 20000 in
theorem gX1_clear_X1_liftFinger_v : GoodIn wsX1_clear (wsV RX1 60 RX1 yX1_liftFinger wsX1_liftFinger) := goodIn_app (goodIn_r _ [14, 15, 16, 4] (by decide +kernel) (by decide +kernel)) gX1_clear_X1_liftFinger
theorem inX1_join_X1 : ∀ w ∈ wsX10, w ∈ wsX1_join := by decide +kernel
theorem inX1_join_X0 : ∀ w ∈ wsX00, w ∈ wsX1_join := by decide +kernel
set_option maxRecDepth 20000 in
theorem gX1_join_X0_put : GoodIn wsX1_join wsX0_put := goodIn_r _ [5, 6, 7, 8, 9, 4, 10, 11, 12, 13, 14, 15, 21, 22] (by decide +kernel) (by decide +kernel)
theorem inX1_serve_X1 : ∀ w ∈ wsX10, w ∈ wsX1_serve := by decide +kernel
theorem inX1_serve_X0 : ∀ w ∈ wsX00, w ∈ wsX1_serve := by decide +kernel
set_option maxRecDepth 20000 in
theorem gX1_serve_X0_take : GoodIn wsX1_serve wsX0_take := goodIn_r _ [15, 6, 7, 8, 4, 9, 10, 12, 11, 16, 17, 18, 19, 25, 26] (by decide +kernel) (by decide +kernel)
set_option maxRecDepth 20000 in
theorem gX1_serve_X0_at : GoodIn wsX1_serve wsX0_at := goodIn_r _ [5, 6, 7, 8, 4, 9, 10, 11, 12, 25, 26] (by decide +kernel) (by decide +kernel)
theorem inX1_drop_X1 : ∀ w ∈ wsX10, w ∈ wsX1_drop := by decide +kernel
set_option maxRecDepth 20000 in
theorem gX1_drop_X0_lastPlace : GoodIn wsX1_drop wsX0_lastPlace := goodIn_r _ [10, 6, 7, 29, 30] (by decide +kernel) (by decide +kernel)
set_option maxRecDepth 20000 in
theorem gX1_drop_X0_take : GoodIn wsX1_drop wsX0_take := goodIn_r _ [13, 14, 15, 16, 4, 17, 6, 18, 7, 19, 20, 21, 22, 29, 30] (by decide +kernel) (by decide +kernel)
set_option maxRecDepth 20000 in
theorem gX1_drop_X0_firstPlace : GoodIn wsX1_drop wsX0_firstPlace := goodIn_r _ [5, 6, 7, 29, 30] (by decide +kernel) (by decide +kernel)
theorem inX1_ring_X1 : ∀ w ∈ wsX10, w ∈ wsX1_ring := by decide +kernel
set_option maxRecDepth 20000 in
theorem gX1_ring_X0_hasPlace : GoodIn wsX1_ring wsX0_hasPlace := goodIn_r _ [5, 6, 19, 20] (by decide +kernel) (by decide +kernel)
set_option maxRecDepth 20000 in
theorem gX1_ring_X0_at : GoodIn wsX1_ring wsX0_at := goodIn_r _ [10, 11, 2, 3, 4, 5, 6, 12, 13, 19, 20] (by decide +kernel) (by decide +kernel)
theorem inX1_ring_X0 : ∀ w ∈ wsX00, w ∈ wsX1_ring := by decide +kernel
theorem inX1_sieve_X1 : ∀ w ∈ wsX10, w ∈ wsX1_sieve := by decide +kernel
set_option maxRecDepth 20000 in
theorem gX1_sieve_X0_takeRest : GoodIn wsX1_sieve wsX0_takeRest := goodIn_r _ [5, 6, 7, 8, 9, 10, 11, 17, 18] (by decide +kernel) (by decide +kernel)
theorem inX1_roll_X1 : ∀ w ∈ wsX10, w ∈ wsX1_roll := by decide +kernel
set_option maxRecDepth 20000 in
theorem gX1_roll_X0_turn : GoodIn wsX1_roll wsX0_turn := goodIn_r _ [5, 6, 7, 8, 9, 10, 11, 17, 18] (by decide +kernel) (by decide +kernel)
theorem inX1_insert_X1 : ∀ w ∈ wsX10, w ∈ wsX1_insert := by decide +kernel
set_option maxRecDepth 20000 in
theorem gX1_insert_X0_hasPlaceOrEnd : GoodIn wsX1_insert wsX0_hasPlaceOrEnd := goodIn_r _ [5, 6, 28, 29] (by decide +kernel) (by decide +kernel)
set_option maxRecDepth 20000 in
theorem gX1_insert_X0_put : GoodIn wsX1_insert wsX0_put := goodIn_r _ [9, 6, 10, 2, 3, 4, 5, 11, 12, 13, 14, 15, 28, 29] (by decide +kernel) (by decide +kernel)
set_option maxRecDepth 20000 in
theorem gX1_insert_X1_liftFinger : GoodIn wsX1_insert wsX1_liftFinger := goodIn_r _ [20, 21, 22, 23, 24, 25, 26, 27] (by decide +kernel) (by decide +kernel)
set_option maxRecDepth 20000 in
theorem gX1_insert_X1_liftFinger_v : GoodIn wsX1_insert (wsV RX1 60 RX1 yX1_liftFinger wsX1_liftFinger) := goodIn_app (goodIn_r _ [16, 17, 18, 19] (by decide +kernel) (by decide +kernel)) gX1_insert_X1_liftFinger
theorem inX1_insert_X0 : ∀ w ∈ wsX00, w ∈ wsX1_insert := by decide +kernel
theorem inX1_point_X1 : ∀ w ∈ wsX10, w ∈ wsX1_point := by decide +kernel
set_option maxRecDepth 20000 in
theorem gX1_point_X0_hasPlaceOrEnd : GoodIn wsX1_point wsX0_hasPlaceOrEnd := goodIn_r _ [5, 6, 14, 15] (by decide +kernel) (by decide +kernel)
theorem inX1_change_X1 : ∀ w ∈ wsX10, w ∈ wsX1_change := by decide +kernel
set_option maxRecDepth 20000 in
theorem gX1_change_X0_swap : GoodIn wsX1_change wsX0_swap := goodIn_r _ [19, 6, 7, 8, 4, 9, 10, 11, 12, 33, 34] (by decide +kernel) (by decide +kernel)
set_option maxRecDepth 20000 in
theorem gX1_change_X0_take : GoodIn wsX1_change wsX0_take := goodIn_r _ [5, 6, 7, 8, 4, 9, 10, 11, 12, 13, 14, 15, 16, 33, 34] (by decide +kernel) (by decide +kernel)
set_option maxRecDepth 20000 in
theorem gX1_change_X1_liftFinger : GoodIn wsX1_change wsX1_liftFinger := goodIn_r _ [25, 26, 27, 28, 29, 30, 31, 32] (by decide +kernel) (by decide +kernel)
set_option maxRecDepth 20000 in
theorem gX1_change_X1_liftFinger_v : GoodIn wsX1_change (wsV RX1 60 RX1 yX1_liftFinger wsX1_liftFinger) := goodIn_app (goodIn_r _ [21, 22, 23, 24] (by decide +kernel) (by decide +kernel)) gX1_change_X1_liftFinger
theorem inX1_chain_X1 : ∀ w ∈ wsX10, w ∈ wsX1_chain := by decide +kernel
set_option maxRecDepth 20000 in
theorem gX1_chain_X0_at : GoodIn wsX1_chain wsX0_at := goodIn_r _ [5, 6, 7, 8, 4, 9, 10, 11, 12, 18, 19] (by decide +kernel) (by decide +kernel)
theorem inX1_find_X1 : ∀ w ∈ wsX10, w ∈ wsX1_find := by decide +kernel
set_option maxRecDepth 20000 in
theorem gX1_find_X0_firstPlace : GoodIn wsX1_find wsX0_firstPlace := goodIn_r _ [10, 6, 7, 16, 17] (by decide +kernel) (by decide +kernel)
set_option maxRecDepth 20000 in
theorem gX1_find_X0_lastPlace : GoodIn wsX1_find wsX0_lastPlace := goodIn_r _ [5, 6, 7, 16, 17] (by decide +kernel) (by decide +kernel)
theorem inX1_finger_X1 : ∀ w ∈ wsX10, w ∈ wsX1_finger := by decide +kernel
theorem inX1_pass_X1 : ∀ w ∈ wsX10, w ∈ wsX1_pass := by decide +kernel
set_option maxRecDepth 20000 in
theorem gX1_pass_X0_hasPlace : GoodIn wsX1_pass wsX0_hasPlace := goodIn_r _ [7, 8, 21, 22] (by decide +kernel) (by decide +kernel)
set_option maxRecDepth 20000 in
theorem gX1_pass_X0_at : GoodIn wsX1_pass wsX0_at := goodIn_r _ [12, 13, 4, 5, 6, 7, 8, 14, 15, 21, 22] (by decide +kernel) (by decide +kernel)
theorem inX1_changeMet_X1 : ∀ w ∈ wsX10, w ∈ wsX1_changeMet := by decide +kernel
set_option maxRecDepth 20000 in
theorem gX1_changeMet_X0_swap : GoodIn wsX1_changeMet wsX0_swap := goodIn_r _ [6, 7, 8, 9, 5, 10, 11, 12, 13, 20, 21] (by decide +kernel) (by decide +kernel)
theorem inX1_changeMet_X0 : ∀ w ∈ wsX00, w ∈ wsX1_changeMet := by decide +kernel
theorem inX1_takeMet_X1 : ∀ w ∈ wsX10, w ∈ wsX1_takeMet := by decide +kernel
set_option maxRecDepth 20000 in
theorem gX1_takeMet_X0_take : GoodIn wsX1_takeMet wsX0_take := goodIn_r _ [6, 7, 8, 9, 5, 10, 11, 12, 13, 14, 15, 16, 17, 25, 26] (by decide +kernel) (by decide +kernel)
theorem inX1_takeMet_X0 : ∀ w ∈ wsX00, w ∈ wsX1_takeMet := by decide +kernel
theorem inX1_putAtFinger_X1 : ∀ w ∈ wsX10, w ∈ wsX1_putAtFinger := by decide +kernel
set_option maxRecDepth 20000 in
theorem gX1_putAtFinger_X0_put : GoodIn wsX1_putAtFinger wsX0_put := goodIn_r _ [6, 7, 8, 9, 10, 5, 11, 12, 13, 14, 15, 16, 23, 24] (by decide +kernel) (by decide +kernel)
theorem inX1_putAtFinger_X0 : ∀ w ∈ wsX00, w ∈ wsX1_putAtFinger := by decide +kernel
theorem inX1_touch_X1 : ∀ w ∈ wsX10, w ∈ wsX1_touch := by decide +kernel
set_option maxRecDepth 20000 in
theorem gX1_touch_X1_changeMet : GoodIn wsX1_touch wsX1_changeMet := goodIn_r _ [6, 7, 8, 9, 10, 11, 12, 13, 14, 15, 16, 17, 18, 19, 20, 43, 44, 45, 46, 47, 48, 49] (by decide +kernel) (by decide +kernel)
set_option maxRecDepth 20000 in
theorem gX1_touch_X1_changeMet_v : GoodIn wsX1_touch (wsV RX1 84 RX1 yX1_changeMet wsX1_changeMet) := goodIn_app (goodIn_r _ [2, 3, 4, 5] (by decide +kernel) (by decide +kernel)) gX1_touch_X1_changeMet
set_option maxRecDepth 20000 in
theorem gX1_touch_X1_takeMet : GoodIn wsX1_touch wsX1_takeMet := goodIn_r _ [24, 7, 8, 25, 26, 11, 27, 13, 14, 15, 16, 17, 18, 19, 28, 29, 30, 31, 20, 1, 43, 44, 45, 46, 47, 48, 49] (by decide +kernel) (by decide +kernel)
set_option maxRecDepth 20000 in
theorem gX1_touch_X1_takeMet_v : GoodIn wsX1_touch (wsV RX1 87 RX1 yX1_takeMet wsX1_takeMet) := goodIn_app (goodIn_r _ [21, 22, 23, 5] (by decide +kernel) (by decide +kernel)) gX1_touch_X1_takeMet
set_option maxRecDepth 20000 in
theorem gX1_touch_X1_putAtFinger : GoodIn wsX1_touch wsX1_putAtFinger := goodIn_r _ [35, 7, 1, 36, 37, 11, 38, 17, 39, 40, 41, 42, 19, 28, 29, 30, 31, 8, 43, 44, 45, 46, 47, 48, 49] (by decide +kernel) (by decide +kernel)
set_option maxRecDepth 20000 in
theorem gX1_touch_X1_putAtFinger_v : GoodIn wsX1_touch (wsV RX1 90 RX1 yX1_putAtFinger wsX1_putAtFinger) := goodIn_app (goodIn_r _ [32, 33, 34, 5] (by decide +kernel) (by decide +kernel)) gX1_touch_X1_putAtFinger
theorem inX1_empty_X1 : ∀ w ∈ wsX10, w ∈ wsX1_empty := by decide +kernel
theorem inX1_empty_X0 : ∀ w ∈ wsX00, w ∈ wsX1_empty := by decide +kernel
set_option maxRecDepth 20000 in
theorem gX1_empty_X0_takeAll : GoodIn wsX1_empty wsX0_takeAll := goodIn_r _ [6, 7, 8, 9, 10, 5, 11, 12, 13, 14, 15, 16, 17, 18, 19, 20, 26, 27] (by decide +kernel) (by decide +kernel)
theorem inX1_hand_X1 : ∀ w ∈ wsX10, w ∈ wsX1_hand := by decide +kernel
theorem inX1_hand_X0 : ∀ w ∈ wsX00, w ∈ wsX1_hand := by decide +kernel
set_option maxRecDepth 20000 in
theorem gX1_hand_X0_takeAll : GoodIn wsX1_hand wsX0_takeAll := goodIn_r _ [6, 7, 8, 9, 10, 5, 11, 12, 13, 14, 15, 16, 17, 18, 19, 20, 33, 34] (by decide +kernel) (by decide +kernel)
set_option maxRecDepth 20000 in
theorem gX1_hand_X1_liftFinger : GoodIn wsX1_hand wsX1_liftFinger := goodIn_r _ [25, 26, 27, 28, 29, 30, 31, 32] (by decide +kernel) (by decide +kernel)
set_option maxRecDepth 20000 in
theorem gX1_hand_X1_liftFinger_v : GoodIn wsX1_hand (wsV RX1 60 RX1 yX1_liftFinger wsX1_liftFinger) := goodIn_app (goodIn_r _ [21, 22, 23, 24] (by decide +kernel) (by decide +kernel)) gX1_hand_X1_liftFinger
set_option maxHeartbeats 4000000 in
set_option maxRecDepth 100000 in
theorem c_Hall_init (l : Launch) (dC : Nat → ClassId) (dI : Nat → Nat → Nat) (sz : Nat) (x0 : Nat) : Met l yX1_init wsX1_init ({ frames := 2, cells := 6, slots := 6306, locals := 32 }) (va_Pc [.ref x0] (fun U => U.heap.size = sz ∧ va_P (dC, dI) vwCl [(x0, .inr (1, [.null, .null, .null, .int (nI 0), .int (nI 0)]))] U.heap ∧ va_K (dC, dI) vwCl [] U ∧ va_D (fun _ => True) [(x0, .inr (1, [.null, .null, .null, .int (nI 0), .int (nI 0)]))] ∧ qNest U)) (va_Qv (fun (u : ClassId × Nat × Nat × Nat × Nat × Nat × Nat) => True) (at_HI dC dI (va_A [(x0, .inr (1, [.null, .null, .null, .int (nI 0), .int (nI 0)]))] sz) x0) (va_A [(x0, .inr (1, [.null, .null, .null, .int (nI 0), .int (nI 0)]))] sz)) 6 6306 (va_A [(x0, .inr (1, [.null, .null, .null, .int (nI 0), .int (nI 0)]))] sz) := by
  refine Met.ofW (cc := cX1_init) (maxL := 1) (ret := none) (by decide +kernel) rfl ?_
  intro p e s m args below meth c s₁ B hml hv
  obtain ⟨rfl, hsz, hP, hK, hD0, hN⟩ := hv
  have hx := B.exec
  have hb := B.bytes
  have hr := B.returns
  have hts := atoms_spec (ws := wsX1_init) B.pre
  have hown : s.vm.findClass RX1 = some m.cls := findClass_of_methodNamed B.named
  have hlocks := B.notSynchronized
  have hin : meth.name = "<init>" := (name_of_methodNamed B.named B.method).1
  subst hsz
  have hD := hD0.self (sz := s.heap.size)
  generalize hAe : va_A [(x0, .inr (1, [.null, .null, .null, .int (nI 0), .int (nI 0)]))] s.heap.size = A at hD ⊢
  have hA : ∀ q : Nat, s.heap.size ≤ q → A q := fun q h => by rw [← hAe]; exact Or.inr h
  have hS : va_S A s.heap s.heap [] := va_S.rf
  have hl := lv_entry ([.ref x0]) (n := 1) (Nat.le_of_ble_eq_true rfl)
  rw [lg_entry_eq]
  generalize (lg_sl ([.ref x0]) ++ List.replicate (1 - (lg_sl ([.ref x0])).length) Slot.unset).toArray = ls at hl ⊢
  have hl : lv_has ls 1 [(0, .ref x0)] := hl
  refine lv_aload_n hx hb dX1_init_0 rfl (lv_at hl 0 rfl) ?_
  refine W.objInit hx hb hown (hts (.methodLink RX1 1 objectInit) (List.mem_of_getElem? (i := 1) (by decide +kernel))) (hts (.instanceMethod objectInit) (List.mem_of_getElem? (i := 2) (by decide +kernel))) (hts (.code objectInit ⟨#[0xb1]⟩ 1 none) (List.mem_of_getElem? (i := 3) (by decide +kernel))) rfl (by rw [hml]; exact hl.1) rfl dX1_init_1 (Nat.le_of_ble_eq_true rfl) (Nat.le_of_ble_eq_true rfl) ?_
  refine W.eq (g2 := F0 m 4 ls []) rfl ?_
  refine lv_aload_n hx hb dX1_init_4 rfl (lv_at hl 0 rfl) ?_
  refine va_new (ci := 0) (fs := [.null, .int (nI 0)]) (C := RX0) (T := TX0) (N := 2) hx hb hts inX1_init_X0 tyX0 tyX0_ok hown (hts (.classLink RX1 7 RX0) (List.mem_of_getElem? (i := 4) (by decide +kernel))) (hts (.instantiable RX0 2) (List.mem_of_getElem? (i := 5) (by decide +kernel))) (hts (.initialized RX0) (List.mem_of_getElem? (i := 6) (by decide +kernel))) hK hP hD hS hA rfl (fun j hj => by rcases (show j = 0 ∨ j = 1 by omega) with rfl | rfl <;> rfl) (by decide +kernel) (by decide +kernel) dX1_init_5 (fun a1 H hP hD hS => ?_)
  have hP : va_P (dC, dI) vwCl [(x0, .inr (1, [.null, .null, .null, .int (nI 0), .int (nI 0)])), (a1, .inr (0, [.null, .int (nI 0)]))] H := hP
  have hD : va_D A [(x0, .inr (1, [.null, .null, .null, .int (nI 0), .int (nI 0)])), (a1, .inr (0, [.null, .int (nI 0)]))] := hD
  refine lv_dup hx hb dX1_init_8 rfl ?_
  have hPc := hP.sub (ws' := [(a1, .inr (0, [.null, .int (nI 0)]))]) [1] rfl
  have hKc := hK.sub (tys' := []) [] rfl
  have hDc := hD.sub (ws' := [(a1, .inr (0, [.null, .int (nI 0)]))]) [1] (by decide) rfl
  have hFc := va_free (wc := [(a1, .inr (0, [.null, .int (nI 0)]))]) hD hS hA [1] rfl
  refine va_callv (va_runIN (As := []) (rest := [.ref a1, .ref x0]) ⟨hx, hb, hml, hown, hts⟩ (c_Row_init l dC dI H.size a1) ⟨va_cnB 0 hts gX1_init_X0_init rfl rfl rfl (qN_init hN) (hts (.initialized RX0) (List.mem_of_getElem? (i := 6) (by decide +kernel))) (by decide +kernel) ⟨Nat.le_of_ble_eq_true rfl, Nat.le_of_ble_eq_true rfl⟩, rfl, (hts (.instanceMethod yX0_init) (List.mem_of_getElem? (i := 7) (by decide +kernel)))⟩ ⟨q_blW, fun U hU hW => ⟨rfl, by rw [hU], by rw [hU]; exact hPc, va_K.moved hW.alike hKc, hDc.weaken (fun _ _ _ _ => trivial)⟩⟩ rfl rfl hl.1 rfl (lv_room (Nat.le_of_ble_eq_true rfl)) dX1_init_9 ⟨by decide +kernel, by decide +kernel⟩) hS (fun q _ h => hFc q h) hFc (fun u_1 t_1 H1 locs ht hvm hw hB hz1 hk1 hS => ?_)
  obtain ⟨cA_1, q_1⟩ := u_1
  obtain ⟨hP1, hK1, hD1⟩ := hB
  rw [ht] at hP1
  have hK := (hK.sub (tys' := []) [] rfl).app (va_K.moved hvm.symm hK1)
  have hK : va_K (dC, dI) vwCl [(cA_1, .int)] s := hK
  obtain ⟨hP, hD⟩ := q_join (wr := [(x0, .inr (1, [.null, .null, .null, .int (nI 0), .int (nI 0)]))]) (w1 := [(a1, .inr (0, [.ref q_1, .int (nI 0)])), (q_1, .inl (cA_1, 2100, .inl (fun _ => 0)))]) (wz := [(x0, .inr (1, [.null, .null, .null, .int (nI 0), .int (nI 0)])), (a1, .inr (0, [.ref q_1, .int (nI 0)])), (q_1, .inl (cA_1, 2100, .inl (fun _ => 0)))]) hP hD [1] [0] [0, 1, 2] rfl rfl (by decide) (by decide) hk1 hFc hP1 hD1 rfl rfl (by decide)
  generalize H1 = H at hP hS ⊢
  refine va_putF (D := (dC, dI)) (ci := 1) (v := .ref a1) (ty := .object "QueueHall$Row") (C := RX1) (T := TX1) (N := 5) hx hb hts inX1_init_X1 tyX1 tyX1_ok nmX1 hown hK hP hD hS 0 rfl rfl 0 (by decide) (hts (.fieldLink RX1 10 "QueueHall" "hallRow" "LQueueHall$Row;") (List.mem_of_getElem? (i := 13) (by decide +kernel))) (fun _ h9 => h9) rfl hin rfl (by decide +kernel) rfl rfl (Nat.le_of_ble_eq_true rfl) dX1_init_12 (fun H locs hP hD hS => ?_)
  have hP : va_P (dC, dI) vwCl [(x0, .inr (1, [.ref a1, .null, .null, .int (nI 0), .int (nI 0)])), (a1, .inr (0, [.ref q_1, .int (nI 0)])), (q_1, .inl (cA_1, 2100, .inl (fun _ => 0)))] H := hP
  have hD : va_D A [(x0, .inr (1, [.ref a1, .null, .null, .int (nI 0), .int (nI 0)])), (a1, .inr (0, [.ref q_1, .int (nI 0)])), (q_1, .inl (cA_1, 2100, .inl (fun _ => 0)))] := hD
  refine lv_aload_n hx hb dX1_init_15 rfl (lv_at hl 0 rfl) ?_
  refine va_new (ci := 0) (fs := [.null, .int (nI 0)]) (C := RX0) (T := TX0) (N := 2) hx hb hts inX1_init_X0 tyX0 tyX0_ok hown (hts (.classLink RX1 7 RX0) (List.mem_of_getElem? (i := 4) (by decide +kernel))) (hts (.instantiable RX0 2) (List.mem_of_getElem? (i := 5) (by decide +kernel))) (hts (.initialized RX0) (List.mem_of_getElem? (i := 6) (by decide +kernel))) hK hP hD hS hA rfl (fun j hj => by rcases (show j = 0 ∨ j = 1 by omega) with rfl | rfl <;> rfl) (by decide +kernel) (by decide +kernel) dX1_init_16 (fun a2 H hP hD hS => ?_)
  have hP : va_P (dC, dI) vwCl [(x0, .inr (1, [.ref a1, .null, .null, .int (nI 0), .int (nI 0)])), (a1, .inr (0, [.ref q_1, .int (nI 0)])), (q_1, .inl (cA_1, 2100, .inl (fun _ => 0))), (a2, .inr (0, [.null, .int (nI 0)]))] H := hP
  have hD : va_D A [(x0, .inr (1, [.ref a1, .null, .null, .int (nI 0), .int (nI 0)])), (a1, .inr (0, [.ref q_1, .int (nI 0)])), (q_1, .inl (cA_1, 2100, .inl (fun _ => 0))), (a2, .inr (0, [.null, .int (nI 0)]))] := hD
  refine lv_dup hx hb dX1_init_19 rfl ?_
  have hPc := hP.sub (ws' := [(a2, .inr (0, [.null, .int (nI 0)]))]) [3] rfl
  have hKc := hK.sub (tys' := []) [] rfl
  have hDc := hD.sub (ws' := [(a2, .inr (0, [.null, .int (nI 0)]))]) [3] (by decide) rfl
  have hFc := va_free (wc := [(a2, .inr (0, [.null, .int (nI 0)]))]) hD hS hA [3] rfl
  refine va_callv (va_runIN (As := []) (rest := [.ref a2, .ref x0]) ⟨hx, hb, hml, hown, hts⟩ (c_Row_init l dC dI H.size a2) ⟨va_cnB 0 hts gX1_init_X0_init rfl rfl rfl (qN_init hN) (hts (.initialized RX0) (List.mem_of_getElem? (i := 6) (by decide +kernel))) (by decide +kernel) ⟨Nat.le_of_ble_eq_true rfl, Nat.le_of_ble_eq_true rfl⟩, rfl, (hts (.instanceMethod yX0_init) (List.mem_of_getElem? (i := 7) (by decide +kernel)))⟩ ⟨q_blW, fun U hU hW => ⟨rfl, by rw [hU], by rw [hU]; exact hPc, va_K.moved hW.alike hKc, hDc.weaken (fun _ _ _ _ => trivial)⟩⟩ rfl rfl hl.1 rfl (lv_room (Nat.le_of_ble_eq_true rfl)) dX1_init_20 ⟨by decide +kernel, by decide +kernel⟩) hS (fun q _ h => hFc q h) hFc (fun u_2 t_2 H1 locs ht hvm hw hB hz1 hk1 hS => ?_)
  obtain ⟨cA_2, q_2⟩ := u_2
  obtain ⟨hP1, hK1, hD1⟩ := hB
  rw [ht] at hP1
  obtain rfl : cA_1 = cA_2 := Option.some.inj ((va_nm_int (hK.2 0 _ rfl).2).symm.trans (va_nm_int ((va_K.moved hvm.symm hK1).2 0 _ rfl).2))
  obtain ⟨hP, hD⟩ := q_join (wr := [(x0, .inr (1, [.ref a1, .null, .null, .int (nI 0), .int (nI 0)])), (a1, .inr (0, [.ref q_1, .int (nI 0)])), (q_1, .inl (cA_1, 2100, .inl (fun _ => 0)))]) (w1 := [(a2, .inr (0, [.ref q_2, .int (nI 0)])), (q_2, .inl (cA_1, 2100, .inl (fun _ => 0)))]) (wz := [(x0, .inr (1, [.ref a1, .null, .null, .int (nI 0), .int (nI 0)])), (a1, .inr (0, [.ref q_1, .int (nI 0)])), (q_1, .inl (cA_1, 2100, .inl (fun _ => 0))), (a2, .inr (0, [.ref q_2, .int (nI 0)])), (q_2, .inl (cA_1, 2100, .inl (fun _ => 0)))]) hP hD [3] [0, 1, 2] [0, 1, 2, 3, 4] rfl rfl (by decide) (by decide) hk1 hFc hP1 hD1 rfl rfl (by decide)
  generalize H1 = H at hP hS ⊢
  refine va_putF (D := (dC, dI)) (ci := 1) (v := .ref a2) (ty := .object "QueueHall$Row") (C := RX1) (T := TX1) (N := 5) hx hb hts inX1_init_X1 tyX1 tyX1_ok nmX1 hown hK hP hD hS 0 rfl rfl 1 (by decide) (hts (.fieldLink RX1 16 "QueueHall" "ringRow" "LQueueHall$Row;") (List.mem_of_getElem? (i := 14) (by decide +kernel))) (fun _ h9 => h9) rfl hin rfl (by decide +kernel) rfl rfl (Nat.le_of_ble_eq_true rfl) dX1_init_23 (fun H locs hP hD hS => ?_)
  have hP : va_P (dC, dI) vwCl [(x0, .inr (1, [.ref a1, .ref a2, .null, .int (nI 0), .int (nI 0)])), (a1, .inr (0, [.ref q_1, .int (nI 0)])), (q_1, .inl (cA_1, 2100, .inl (fun _ => 0))), (a2, .inr (0, [.ref q_2, .int (nI 0)])), (q_2, .inl (cA_1, 2100, .inl (fun _ => 0)))] H := hP
  have hD : va_D A [(x0, .inr (1, [.ref a1, .ref a2, .null, .int (nI 0), .int (nI 0)])), (a1, .inr (0, [.ref q_1, .int (nI 0)])), (q_1, .inl (cA_1, 2100, .inl (fun _ => 0))), (a2, .inr (0, [.ref q_2, .int (nI 0)])), (q_2, .inl (cA_1, 2100, .inl (fun _ => 0)))] := hD
  refine lv_aload_n hx hb dX1_init_26 rfl (lv_at hl 0 rfl) ?_
  refine va_new (ci := 0) (fs := [.null, .int (nI 0)]) (C := RX0) (T := TX0) (N := 2) hx hb hts inX1_init_X0 tyX0 tyX0_ok hown (hts (.classLink RX1 7 RX0) (List.mem_of_getElem? (i := 4) (by decide +kernel))) (hts (.instantiable RX0 2) (List.mem_of_getElem? (i := 5) (by decide +kernel))) (hts (.initialized RX0) (List.mem_of_getElem? (i := 6) (by decide +kernel))) hK hP hD hS hA rfl (fun j hj => by rcases (show j = 0 ∨ j = 1 by omega) with rfl | rfl <;> rfl) (by decide +kernel) (by decide +kernel) dX1_init_27 (fun a3 H hP hD hS => ?_)
  have hP : va_P (dC, dI) vwCl [(x0, .inr (1, [.ref a1, .ref a2, .null, .int (nI 0), .int (nI 0)])), (a1, .inr (0, [.ref q_1, .int (nI 0)])), (q_1, .inl (cA_1, 2100, .inl (fun _ => 0))), (a2, .inr (0, [.ref q_2, .int (nI 0)])), (q_2, .inl (cA_1, 2100, .inl (fun _ => 0))), (a3, .inr (0, [.null, .int (nI 0)]))] H := hP
  have hD : va_D A [(x0, .inr (1, [.ref a1, .ref a2, .null, .int (nI 0), .int (nI 0)])), (a1, .inr (0, [.ref q_1, .int (nI 0)])), (q_1, .inl (cA_1, 2100, .inl (fun _ => 0))), (a2, .inr (0, [.ref q_2, .int (nI 0)])), (q_2, .inl (cA_1, 2100, .inl (fun _ => 0))), (a3, .inr (0, [.null, .int (nI 0)]))] := hD
  refine lv_dup hx hb dX1_init_30 rfl ?_
  have hPc := hP.sub (ws' := [(a3, .inr (0, [.null, .int (nI 0)]))]) [5] rfl
  have hKc := hK.sub (tys' := []) [] rfl
  have hDc := hD.sub (ws' := [(a3, .inr (0, [.null, .int (nI 0)]))]) [5] (by decide) rfl
  have hFc := va_free (wc := [(a3, .inr (0, [.null, .int (nI 0)]))]) hD hS hA [5] rfl
  refine va_callv (va_runIN (As := []) (rest := [.ref a3, .ref x0]) ⟨hx, hb, hml, hown, hts⟩ (c_Row_init l dC dI H.size a3) ⟨va_cnB 0 hts gX1_init_X0_init rfl rfl rfl (qN_init hN) (hts (.initialized RX0) (List.mem_of_getElem? (i := 6) (by decide +kernel))) (by decide +kernel) ⟨Nat.le_of_ble_eq_true rfl, Nat.le_of_ble_eq_true rfl⟩, rfl, (hts (.instanceMethod yX0_init) (List.mem_of_getElem? (i := 7) (by decide +kernel)))⟩ ⟨q_blW, fun U hU hW => ⟨rfl, by rw [hU], by rw [hU]; exact hPc, va_K.moved hW.alike hKc, hDc.weaken (fun _ _ _ _ => trivial)⟩⟩ rfl rfl hl.1 rfl (lv_room (Nat.le_of_ble_eq_true rfl)) dX1_init_31 ⟨by decide +kernel, by decide +kernel⟩) hS (fun q _ h => hFc q h) hFc (fun u_3 t_3 H1 locs ht hvm hw hB hz1 hk1 hS => ?_)
  obtain ⟨cA_3, q_3⟩ := u_3
  obtain ⟨hP1, hK1, hD1⟩ := hB
  rw [ht] at hP1
  obtain rfl : cA_1 = cA_3 := Option.some.inj ((va_nm_int (hK.2 0 _ rfl).2).symm.trans (va_nm_int ((va_K.moved hvm.symm hK1).2 0 _ rfl).2))
  obtain ⟨hP, hD⟩ := q_join (wr := [(x0, .inr (1, [.ref a1, .ref a2, .null, .int (nI 0), .int (nI 0)])), (a1, .inr (0, [.ref q_1, .int (nI 0)])), (q_1, .inl (cA_1, 2100, .inl (fun _ => 0))), (a2, .inr (0, [.ref q_2, .int (nI 0)])), (q_2, .inl (cA_1, 2100, .inl (fun _ => 0)))]) (w1 := [(a3, .inr (0, [.ref q_3, .int (nI 0)])), (q_3, .inl (cA_1, 2100, .inl (fun _ => 0)))]) (wz := [(x0, .inr (1, [.ref a1, .ref a2, .null, .int (nI 0), .int (nI 0)])), (a1, .inr (0, [.ref q_1, .int (nI 0)])), (q_1, .inl (cA_1, 2100, .inl (fun _ => 0))), (a2, .inr (0, [.ref q_2, .int (nI 0)])), (q_2, .inl (cA_1, 2100, .inl (fun _ => 0))), (a3, .inr (0, [.ref q_3, .int (nI 0)])), (q_3, .inl (cA_1, 2100, .inl (fun _ => 0)))]) hP hD [5] [0, 1, 2, 3, 4] [0, 1, 2, 3, 4, 5, 6] rfl rfl (by decide) (by decide) hk1 hFc hP1 hD1 rfl rfl (by decide)
  generalize H1 = H at hP hS ⊢
  refine va_putF (D := (dC, dI)) (ci := 1) (v := .ref a3) (ty := .object "QueueHall$Row") (C := RX1) (T := TX1) (N := 5) hx hb hts inX1_init_X1 tyX1 tyX1_ok nmX1 hown hK hP hD hS 0 rfl rfl 2 (by decide) (hts (.fieldLink RX1 19 "QueueHall" "chainRow" "LQueueHall$Row;") (List.mem_of_getElem? (i := 15) (by decide +kernel))) (fun _ h9 => h9) rfl hin rfl (by decide +kernel) rfl rfl (Nat.le_of_ble_eq_true rfl) dX1_init_34 (fun H locs hP hD hS => ?_)
  have hP : va_P (dC, dI) vwCl [(x0, .inr (1, [.ref a1, .ref a2, .ref a3, .int (nI 0), .int (nI 0)])), (a1, .inr (0, [.ref q_1, .int (nI 0)])), (q_1, .inl (cA_1, 2100, .inl (fun _ => 0))), (a2, .inr (0, [.ref q_2, .int (nI 0)])), (q_2, .inl (cA_1, 2100, .inl (fun _ => 0))), (a3, .inr (0, [.ref q_3, .int (nI 0)])), (q_3, .inl (cA_1, 2100, .inl (fun _ => 0)))] H := hP
  have hD : va_D A [(x0, .inr (1, [.ref a1, .ref a2, .ref a3, .int (nI 0), .int (nI 0)])), (a1, .inr (0, [.ref q_1, .int (nI 0)])), (q_1, .inl (cA_1, 2100, .inl (fun _ => 0))), (a2, .inr (0, [.ref q_2, .int (nI 0)])), (q_2, .inl (cA_1, 2100, .inl (fun _ => 0))), (a3, .inr (0, [.ref q_3, .int (nI 0)])), (q_3, .inl (cA_1, 2100, .inl (fun _ => 0)))] := hD
  refine lv_aload_n hx hb dX1_init_37 rfl (lv_at hl 0 rfl) ?_
  refine lv_iconst (v := -1) hx hb dX1_init_38 (by decide) ?_
  refine va_put (D := (dC, dI)) (ci := 1) (v := .int (-1)) (ty := .int) (C := RX1) (T := TX1) (N := 5) hx hb hts inX1_init_X1 tyX1 tyX1_ok nmX1 hown hK hP hD hS 0 rfl rfl 3 (by decide) (hts (.fieldLink RX1 22 "QueueHall" "fingerPlace" "I") (List.mem_of_getElem? (i := 16) (by decide +kernel))) (fun _ h9 => h9) rfl (by decide +kernel) rfl rfl (Nat.le_of_ble_eq_true rfl) dX1_init_39 (fun H locs hP hD hS => ?_)
  have hP : va_P (dC, dI) vwCl [(x0, .inr (1, [.ref a1, .ref a2, .ref a3, .int (-1), .int (nI 0)])), (a1, .inr (0, [.ref q_1, .int (nI 0)])), (q_1, .inl (cA_1, 2100, .inl (fun _ => 0))), (a2, .inr (0, [.ref q_2, .int (nI 0)])), (q_2, .inl (cA_1, 2100, .inl (fun _ => 0))), (a3, .inr (0, [.ref q_3, .int (nI 0)])), (q_3, .inl (cA_1, 2100, .inl (fun _ => 0)))] H := hP
  have hD : va_D A [(x0, .inr (1, [.ref a1, .ref a2, .ref a3, .int (-1), .int (nI 0)])), (a1, .inr (0, [.ref q_1, .int (nI 0)])), (q_1, .inl (cA_1, 2100, .inl (fun _ => 0))), (a2, .inr (0, [.ref q_2, .int (nI 0)])), (q_2, .inl (cA_1, 2100, .inl (fun _ => 0))), (a3, .inr (0, [.ref q_3, .int (nI 0)])), (q_3, .inl (cA_1, 2100, .inl (fun _ => 0)))] := hD
  refine lv_aload_n hx hb dX1_init_42 rfl (lv_at hl 0 rfl) ?_
  refine lv_iconst (v := -1) hx hb dX1_init_43 (by decide) ?_
  refine va_put (D := (dC, dI)) (ci := 1) (v := .int (-1)) (ty := .int) (C := RX1) (T := TX1) (N := 5) hx hb hts inX1_init_X1 tyX1 tyX1_ok nmX1 hown hK hP hD hS 0 rfl rfl 4 (by decide) (hts (.fieldLink RX1 26 "QueueHall" "metPlace" "I") (List.mem_of_getElem? (i := 17) (by decide +kernel))) (fun _ h9 => h9) rfl (by decide +kernel) rfl rfl (Nat.le_of_ble_eq_true rfl) dX1_init_44 (fun H locs hP hD hS => ?_)
  have hP : va_P (dC, dI) vwCl [(x0, .inr (1, [.ref a1, .ref a2, .ref a3, .int (-1), .int (-1)])), (a1, .inr (0, [.ref q_1, .int (nI 0)])), (q_1, .inl (cA_1, 2100, .inl (fun _ => 0))), (a2, .inr (0, [.ref q_2, .int (nI 0)])), (q_2, .inl (cA_1, 2100, .inl (fun _ => 0))), (a3, .inr (0, [.ref q_3, .int (nI 0)])), (q_3, .inl (cA_1, 2100, .inl (fun _ => 0)))] H := hP
  have hD : va_D A [(x0, .inr (1, [.ref a1, .ref a2, .ref a3, .int (-1), .int (-1)])), (a1, .inr (0, [.ref q_1, .int (nI 0)])), (q_1, .inl (cA_1, 2100, .inl (fun _ => 0))), (a2, .inr (0, [.ref q_2, .int (nI 0)])), (q_2, .inl (cA_1, 2100, .inl (fun _ => 0))), (a3, .inr (0, [.ref q_3, .int (nI 0)])), (q_3, .inl (cA_1, 2100, .inl (fun _ => 0)))] := hD
  refine W.widen (k := 6) (n := 6306) (by omega) (by omega) ?_
  exact W.vret hx hb hr (fun t ht hW => ⟨⟨(cA_1, a1, q_1, a2, q_2, a3, q_3), rfl, trivial, by rw [ht]; exact hP, va_K.moved hW.alike hK, hD⟩, hS.F ht⟩) hS.2.2 dX1_init_47

set_option maxHeartbeats 4000000 in
set_option maxRecDepth 100000 in
theorem c_Hall_liftFinger (l : Launch) (dC : Nat → ClassId) (dI : Nat → Nat → Nat) (sz : Nat) (x0 a1 a2 a3 : Nat) (fi me : Int32) : Met l yX1_liftFinger wsX1_liftFinger ({ frames := 0, cells := 0, slots := 0, locals := 0 }) (va_Pc [.ref x0] (fun U => U.heap.size = sz ∧ va_P (dC, dI) vwCl [(x0, .inr (1, [.ref a1, .ref a2, .ref a3, .int fi, .int me]))] U.heap ∧ va_K (dC, dI) vwCl [] U ∧ va_D (fun _ => True) [(x0, .inr (1, [.ref a1, .ref a2, .ref a3, .int fi, .int me]))])) (va_Qv (fun (u : Unit) => u = ()) (at_X dC dI (va_A [(x0, .inr (1, [.ref a1, .ref a2, .ref a3, .int fi, .int me]))] sz) x0 a1 a2 a3) (va_A [(x0, .inr (1, [.ref a1, .ref a2, .ref a3, .int fi, .int me]))] sz)) 0 0 (va_A [(x0, .inr (1, [.ref a1, .ref a2, .ref a3, .int fi, .int me]))] sz) := by
  refine Met.ofW (cc := cX1_liftFinger) (maxL := 1) (ret := none) (by decide +kernel) rfl ?_
  intro p e s m args below meth c s₁ B hml hv
  obtain ⟨rfl, hsz, hP, hK, hD0⟩ := hv
  have hx := B.exec
  have hb := B.bytes
  have hr := B.returns
  have hts := atoms_spec (ws := wsX1_liftFinger) B.pre
  have hown : s.vm.findClass RX1 = some m.cls := findClass_of_methodNamed B.named
  have hlocks := B.notSynchronized
  subst hsz
  have hD := hD0.self (sz := s.heap.size)
  generalize hAe : va_A [(x0, .inr (1, [.ref a1, .ref a2, .ref a3, .int fi, .int me]))] s.heap.size = A at hD ⊢
  have hA : ∀ q : Nat, s.heap.size ≤ q → A q := fun q h => by rw [← hAe]; exact Or.inr h
  have hS : va_S A s.heap s.heap [] := va_S.rf
  have hl := lv_entry ([.ref x0]) (n := 1) (Nat.le_of_ble_eq_true rfl)
  rw [lg_entry_eq]
  generalize (lg_sl ([.ref x0]) ++ List.replicate (1 - (lg_sl ([.ref x0])).length) Slot.unset).toArray = ls at hl ⊢
  have hl : lv_has ls 1 [(0, .ref x0)] := hl
  refine lv_aload_n hx hb dX1_liftFinger_0 rfl (lv_at hl 0 rfl) ?_
  refine lv_iconst (v := -1) hx hb dX1_liftFinger_1 (by decide) ?_
  refine va_put (D := (dC, dI)) (ci := 1) (v := .int (-1)) (ty := .int) (C := RX1) (T := TX1) (N := 5) hx hb hts inX1_liftFinger_X1 tyX1 tyX1_ok nmX1 hown hK hP hD hS 0 rfl rfl 3 (by decide) (hts (.fieldLink RX1 22 "QueueHall" "fingerPlace" "I") (List.mem_of_getElem? (i := 1) (by decide +kernel))) (fun _ h9 => h9) rfl (by decide +kernel) rfl rfl (Nat.le_of_ble_eq_true rfl) dX1_liftFinger_2 (fun H locs hP hD hS => ?_)
  have hP : va_P (dC, dI) vwCl [(x0, .inr (1, [.ref a1, .ref a2, .ref a3, .int (-1), .int me]))] H := hP
  have hD : va_D A [(x0, .inr (1, [.ref a1, .ref a2, .ref a3, .int (-1), .int me]))] := hD
  refine lv_aload_n hx hb dX1_liftFinger_5 rfl (lv_at hl 0 rfl) ?_
  refine lv_iconst (v := -1) hx hb dX1_liftFinger_6 (by decide) ?_
  refine va_put (D := (dC, dI)) (ci := 1) (v := .int (-1)) (ty := .int) (C := RX1) (T := TX1) (N := 5) hx hb hts inX1_liftFinger_X1 tyX1 tyX1_ok nmX1 hown hK hP hD hS 0 rfl rfl 4 (by decide) (hts (.fieldLink RX1 26 "QueueHall" "metPlace" "I") (List.mem_of_getElem? (i := 2) (by decide +kernel))) (fun _ h9 => h9) rfl (by decide +kernel) rfl rfl (Nat.le_of_ble_eq_true rfl) dX1_liftFinger_7 (fun H locs hP hD hS => ?_)
  have hP : va_P (dC, dI) vwCl [(x0, .inr (1, [.ref a1, .ref a2, .ref a3, .int (-1), .int (-1)]))] H := hP
  have hD : va_D A [(x0, .inr (1, [.ref a1, .ref a2, .ref a3, .int (-1), .int (-1)]))] := hD
  exact W.vret hx hb hr (fun t ht hW => ⟨⟨(), rfl, rfl, by rw [ht]; exact hP, va_K.moved hW.alike hK, hD⟩, hS.F ht⟩) hS.2.2 dX1_liftFinger_10

set_option maxHeartbeats 4000000 in
set_option maxRecDepth 100000 in
theorem c_Hall_rowOf (l : Launch) (dC : Nat → ClassId) (dI : Nat → Nat → Nat) (x0 a1 a2 a3 : Nat) (fi me p0 : Int32) : Met l yX1_rowOf wsX1_rowOf ({ frames := 0, cells := 0, slots := 0, locals := 0 }) (va_Pc [.ref x0, .int p0] (fun U => va_P (dC, dI) vwCl [(x0, .inr (1, [.ref a1, .ref a2, .ref a3, .int fi, .int me]))] U.heap ∧ va_K (dC, dI) vwCl [] U)) (va_Sq (fun r => r = qRow a1 a2 a3 p0)) 0 0 (fun _ => False) := by
  refine Met.ofW (cc := cX1_rowOf) (maxL := 2) (ret := (some (.object "QueueHall$Row"))) (by decide +kernel) rfl ?_
  intro p e s m args below meth c s₁ B hml hv
  obtain ⟨rfl, hP, hK⟩ := hv
  have hx := B.exec
  have hb := B.bytes
  have hr := B.returns
  have hts := atoms_spec (ws := wsX1_rowOf) B.pre
  have hown : s.vm.findClass RX1 = some m.cls := findClass_of_methodNamed B.named
  have hlocks := B.notSynchronized
  have hl := lv_entry ([.ref x0, .int p0]) (n := 2) (Nat.le_of_ble_eq_true rfl)
  rw [lg_entry_eq]
  generalize (lg_sl ([.ref x0, .int p0]) ++ List.replicate (2 - (lg_sl ([.ref x0, .int p0])).length) Slot.unset).toArray = ls at hl ⊢
  have hl : lv_has ls 2 [(0, .ref x0), (1, .int p0)] := hl
  rcases q_w p0 with rfl | rfl | rfl | ⟨w0, w1, w2⟩
  · refine lv_iload_n hx hb dX1_rowOf_0 rfl (lv_at hl 1 rfl) ?_
    refine lv_tableIn (off := 27) (tgt := 28) hx hb dX1_rowOf_1 (by decide) (by decide) (by decide +kernel) (by decide) ?_
    refine lv_aload_n hx hb dX1_rowOf_28 rfl (lv_at hl 0 rfl) ?_
    refine va_get (D := (dC, dI)) (ci := 1) (v := .ref a1) (C := RX1) (T := TX1) (N := 5) hx hb hts inX1_rowOf_X1 hown hK hP 0 rfl rfl 0 (by decide) (hts (.fieldLink RX1 10 "QueueHall" "hallRow" "LQueueHall$Row;") (List.mem_of_getElem? (i := 1) (by decide +kernel))) (fun _ h9 => h9) rfl dX1_rowOf_29 ?_
    exact W.aret (v := va_rf (some a1)) hx hb hr (Or.inl ⟨_, rfl⟩) (va_rf_or _) (fun t ht hW => ⟨some a1, rfl, qRow_0.symm, ht⟩) (fun q h => by cases h) dX1_rowOf_32
  · refine lv_iload_n hx hb dX1_rowOf_0 rfl (lv_at hl 1 rfl) ?_
    refine lv_tableIn (off := 32) (tgt := 33) hx hb dX1_rowOf_1 (by decide) (by decide) (by decide +kernel) (by decide) ?_
    refine lv_aload_n hx hb dX1_rowOf_33 rfl (lv_at hl 0 rfl) ?_
    refine va_get (D := (dC, dI)) (ci := 1) (v := .ref a2) (C := RX1) (T := TX1) (N := 5) hx hb hts inX1_rowOf_X1 hown hK hP 0 rfl rfl 1 (by decide) (hts (.fieldLink RX1 16 "QueueHall" "ringRow" "LQueueHall$Row;") (List.mem_of_getElem? (i := 2) (by decide +kernel))) (fun _ h9 => h9) rfl dX1_rowOf_34 ?_
    exact W.aret (v := va_rf (some a2)) hx hb hr (Or.inl ⟨_, rfl⟩) (va_rf_or _) (fun t ht hW => ⟨some a2, rfl, qRow_1.symm, ht⟩) (fun q h => by cases h) dX1_rowOf_37
  · refine lv_iload_n hx hb dX1_rowOf_0 rfl (lv_at hl 1 rfl) ?_
    refine lv_tableIn (off := 37) (tgt := 38) hx hb dX1_rowOf_1 (by decide) (by decide) (by decide +kernel) (by decide) ?_
    refine lv_aload_n hx hb dX1_rowOf_38 rfl (lv_at hl 0 rfl) ?_
    refine va_get (D := (dC, dI)) (ci := 1) (v := .ref a3) (C := RX1) (T := TX1) (N := 5) hx hb hts inX1_rowOf_X1 hown hK hP 0 rfl rfl 2 (by decide) (hts (.fieldLink RX1 19 "QueueHall" "chainRow" "LQueueHall$Row;") (List.mem_of_getElem? (i := 3) (by decide +kernel))) (fun _ h9 => h9) rfl dX1_rowOf_39 ?_
    exact W.aret (v := va_rf (some a3)) hx hb hr (Or.inl ⟨_, rfl⟩) (va_rf_or _) (fun t ht hW => ⟨some a3, rfl, qRow_2.symm, ht⟩) (fun q h => by cases h) dX1_rowOf_42
  · refine lv_iload_n hx hb dX1_rowOf_0 rfl (lv_at hl 1 rfl) ?_
    refine lv_tableOut (tgt := 43) hx hb dX1_rowOf_1 (q_wo w0 w1 w2) (by decide) ?_
    refine lv_null hx hb dX1_rowOf_43 ?_
    exact W.aret (v := va_rf (none)) hx hb hr (Or.inl ⟨_, rfl⟩) (va_rf_or _) (fun t ht hW => ⟨none, rfl, (qRow_n w0 w1 w2).symm, ht⟩) (fun q h => by cases h) dX1_rowOf_44

set_option maxHeartbeats 4000000 in
set_option maxRecDepth 100000 in
theorem c_Hall_enter (l : Launch) (dC : Nat → ClassId) (dI : Nat → Nat → Nat) (sz : Nat) (x0 a1 b1 a2 b2 a3 b3 nh nr nk : Nat) (cA : ClassId) (fh gh fr gr fk gk : Nat → Int32) (fi me : Int32) (p0 : Int32) (hn : nh + nr + nk < 2000) (ha1 : qAg nh fh gh) (ha2 : qAg nr fr gr) (ha3 : qAg nk fk gk) (hF : qFok fi me nk) : Met l yX1_enter wsX1_enter ({ frames := 2, cells := 0, slots := 0, locals := 58 }) (va_Pc [.ref x0, .int p0] (fun U => U.heap.size = sz ∧ va_P (dC, dI) vwCl [(x0, .inr (1, [.ref a1, .ref a2, .ref a3, .int fi, .int me])), (a1, .inr (0, [.ref b1, .int (nI nh)])), (b1, .inl (cA, 2100, .inl fh)), (a2, .inr (0, [.ref b2, .int (nI nr)])), (b2, .inl (cA, 2100, .inl fr)), (a3, .inr (0, [.ref b3, .int (nI nk)])), (b3, .inl (cA, 2100, .inl fk))] U.heap ∧ va_K (dC, dI) vwCl [(cA, .int)] U ∧ va_D (fun _ => True) [(x0, .inr (1, [.ref a1, .ref a2, .ref a3, .int fi, .int me])), (a1, .inr (0, [.ref b1, .int (nI nh)])), (b1, .inl (cA, 2100, .inl fh)), (a2, .inr (0, [.ref b2, .int (nI nr)])), (b2, .inl (cA, 2100, .inl fr)), (a3, .inr (0, [.ref b3, .int (nI nk)])), (b3, .inl (cA, 2100, .inl fk))] ∧ qNest U)) (va_Qi (fun (r : Int32) (u : qS) => (r, u) = qEnter p0 ((gh, nh), (gr, nr), (gk, nk), fi, me)) (at_H dC dI (va_A [(x0, .inr (1, [.ref a1, .ref a2, .ref a3, .int fi, .int me])), (a1, .inr (0, [.ref b1, .int (nI nh)])), (b1, .inl (cA, 2100, .inl fh)), (a2, .inr (0, [.ref b2, .int (nI nr)])), (b2, .inl (cA, 2100, .inl fr)), (a3, .inr (0, [.ref b3, .int (nI nk)])), (b3, .inl (cA, 2100, .inl fk))] sz) x0 a1 b1 a2 b2 a3 b3 cA) (va_A [(x0, .inr (1, [.ref a1, .ref a2, .ref a3, .int fi, .int me])), (a1, .inr (0, [.ref b1, .int (nI nh)])), (b1, .inl (cA, 2100, .inl fh)), (a2, .inr (0, [.ref b2, .int (nI nr)])), (b2, .inl (cA, 2100, .inl fr)), (a3, .inr (0, [.ref b3, .int (nI nk)])), (b3, .inl (cA, 2100, .inl fk))] sz)) 0 0 (va_A [(x0, .inr (1, [.ref a1, .ref a2, .ref a3, .int fi, .int me])), (a1, .inr (0, [.ref b1, .int (nI nh)])), (b1, .inl (cA, 2100, .inl fh)), (a2, .inr (0, [.ref b2, .int (nI nr)])), (b2, .inl (cA, 2100, .inl fr)), (a3, .inr (0, [.ref b3, .int (nI nk)])), (b3, .inl (cA, 2100, .inl fk))] sz) := by
  refine Met.ofW (cc := cX1_enter) (maxL := 2) (ret := (some .int)) (by decide +kernel) rfl ?_
  intro p e s m args below meth c s₁ B hml hv
  obtain ⟨rfl, hsz, hP, hK, hD0, hN⟩ := hv
  have hx := B.exec
  have hb := B.bytes
  have hr := B.returns
  have hts := atoms_spec (ws := wsX1_enter) B.pre
  have hown : s.vm.findClass RX1 = some m.cls := findClass_of_methodNamed B.named
  have hlocks := B.notSynchronized
  subst hsz
  have hD := hD0.self (sz := s.heap.size)
  generalize hAe : va_A [(x0, .inr (1, [.ref a1, .ref a2, .ref a3, .int fi, .int me])), (a1, .inr (0, [.ref b1, .int (nI nh)])), (b1, .inl (cA, 2100, .inl fh)), (a2, .inr (0, [.ref b2, .int (nI nr)])), (b2, .inl (cA, 2100, .inl fr)), (a3, .inr (0, [.ref b3, .int (nI nk)])), (b3, .inl (cA, 2100, .inl fk))] s.heap.size = A at hD ⊢
  have hA : ∀ q : Nat, s.heap.size ≤ q → A q := fun q h => by rw [← hAe]; exact Or.inr h
  have hS : va_S A s.heap s.heap [] := va_S.rf
  have hl := lv_entry ([.ref x0, .int p0]) (n := 2) (Nat.le_of_ble_eq_true rfl)
  rw [lg_entry_eq]
  generalize (lg_sl ([.ref x0, .int p0]) ++ List.replicate (2 - (lg_sl ([.ref x0, .int p0])).length) Slot.unset).toArray = ls at hl ⊢
  have hl : lv_has ls 2 [(0, .ref x0), (1, .int p0)] := hl
  have hcb := qCb_le (g := gh) (v := p0) nh
  refine lv_aload_n hx hb dX1_enter_0 rfl (lv_at hl 0 rfl) ?_
  refine va_get (D := (dC, dI)) (ci := 1) (v := .ref a1) (C := RX1) (T := TX1) (N := 5) hx hb hts inX1_enter_X1 hown hK hP 0 rfl rfl 0 (by decide) (hts (.fieldLink RX1 10 "QueueHall" "hallRow" "LQueueHall$Row;") (List.mem_of_getElem? (i := 1) (by decide +kernel))) (fun _ h9 => h9) rfl dX1_enter_1 ?_
  refine lv_aload_n hx hb dX1_enter_4 rfl (lv_at hl 0 rfl) ?_
  refine va_get (D := (dC, dI)) (ci := 1) (v := .ref a1) (C := RX1) (T := TX1) (N := 5) hx hb hts inX1_enter_X1 hown hK hP 0 rfl rfl 0 (by decide) (hts (.fieldLink RX1 10 "QueueHall" "hallRow" "LQueueHall$Row;") (List.mem_of_getElem? (i := 1) (by decide +kernel))) (fun _ h9 => h9) rfl dX1_enter_5 ?_
  refine lv_iload_n hx hb dX1_enter_8 rfl (lv_at hl 1 rfl) ?_
  have hPc := hP.sub (ws' := [(a1, .inr (0, [.ref b1, .int (nI nh)])), (b1, .inl (cA, 2100, .inl fh))]) [1, 2] rfl
  have hKc := hK.sub (tys' := [(cA, .int)]) [0] rfl
  refine q_csiE (va_runVN (As := [.int p0]) (rest := [.ref a1]) ⟨hx, hb, hml, hown, hts⟩ (c_Row_countBelow l dC dI a1 b1 nh cA fh gh p0 (by omega) ha1) ⟨va_cnB 1 hts gX1_enter_X0_countBelow rfl rfl rfl (qN_countBelow hN) (hts (.initialized RX0) (List.mem_of_getElem? (i := 4) (by decide +kernel))) (by decide +kernel) ⟨Nat.le_of_ble_eq_true rfl, Nat.le_of_ble_eq_true rfl⟩, (hts (.instanceMethod yX0_countBelow) (List.mem_of_getElem? (i := 2) (by decide +kernel))), (hts (.selects RX0 yX0_countBelow yX0_countBelow) (List.mem_of_getElem? (i := 3) (by decide +kernel)))⟩ ⟨q_blR, va_recv hKc hPc (ci := 0) (q0 := 0) rfl rfl, fun U hU hW => ⟨rfl, by rw [hU]; exact hPc, va_K.moved hW.alike hKc⟩⟩ rfl rfl hl.1 rfl (lv_room (Nat.le_of_ble_eq_true rfl)) dX1_enter_9 ⟨Nat.le_of_ble_eq_true rfl, Nat.le_of_ble_eq_true rfl⟩) ?_
  refine lv_iload_n hx hb dX1_enter_12 rfl (lv_at hl 1 rfl) ?_
  have hPc := hP.sub (ws' := [(a1, .inr (0, [.ref b1, .int (nI nh)])), (b1, .inl (cA, 2100, .inl fh))]) [1, 2] rfl
  have hKc := hK.sub (tys' := [(cA, .int)]) [0] rfl
  have hDc := hD.sub (ws' := [(a1, .inr (0, [.ref b1, .int (nI nh)])), (b1, .inl (cA, 2100, .inl fh))]) [1, 2] (by decide) rfl
  have hFc := va_free (wc := [(a1, .inr (0, [.ref b1, .int (nI nh)])), (b1, .inl (cA, 2100, .inl fh))]) hD hS hA [1, 2] rfl
  refine va_calli (va_runVN (As := [.int (nI (qCb gh p0 nh)), .int p0]) (rest := []) ⟨hx, hb, hml, hown, hts⟩ (c_Row_put l dC dI s.heap.size a1 b1 nh cA fh gh (nI (qCb gh p0 nh)) p0 (by omega) ha1) ⟨va_cnB 2 hts gX1_enter_X0_put rfl rfl rfl (qN_put hN) (hts (.initialized RX0) (List.mem_of_getElem? (i := 4) (by decide +kernel))) (by decide +kernel) ⟨Nat.le_of_ble_eq_true rfl, Nat.le_of_ble_eq_true rfl⟩, (hts (.instanceMethod yX0_put) (List.mem_of_getElem? (i := 8) (by decide +kernel))), (hts (.selects RX0 yX0_put yX0_put) (List.mem_of_getElem? (i := 9) (by decide +kernel)))⟩ ⟨q_blW, va_recv hKc hPc (ci := 0) (q0 := 0) rfl rfl, fun U hU hW => ⟨rfl, by rw [hU], by rw [hU]; exact hPc, va_K.moved hW.alike hKc, hDc.weaken (fun _ _ _ _ => trivial)⟩⟩ rfl rfl hl.1 rfl (lv_room (Nat.le_of_ble_eq_true rfl)) dX1_enter_13 ⟨Nat.le_of_ble_eq_true rfl, Nat.le_of_ble_eq_true rfl⟩) hS (fun q _ h => hFc q h) hFc (fun r_1 u_1 t_1 H1 locs ht hvm hw hB hz1 hk1 hS => ?_)
  have hw := hw.trans (qPut_i (k := qCb gh p0 nh) (by omega) (by omega))
  obtain ⟨rfl, rfl⟩ := Prod.mk.inj hw
  obtain ⟨f_1, hg_1, hP1, hK1, hD1⟩ := hB
  rw [ht] at hP1
  obtain ⟨hP, hD⟩ := q_join (wr := [(x0, .inr (1, [.ref a1, .ref a2, .ref a3, .int fi, .int me])), (a2, .inr (0, [.ref b2, .int (nI nr)])), (b2, .inl (cA, 2100, .inl fr)), (a3, .inr (0, [.ref b3, .int (nI nk)])), (b3, .inl (cA, 2100, .inl fk))]) (w1 := [(a1, .inr (0, [.ref b1, .int (nI (nh + 1))])), (b1, .inl (cA, 2100, .inl f_1))]) (wz := [(x0, .inr (1, [.ref a1, .ref a2, .ref a3, .int fi, .int me])), (a1, .inr (0, [.ref b1, .int (nI (nh + 1))])), (b1, .inl (cA, 2100, .inl f_1)), (a2, .inr (0, [.ref b2, .int (nI nr)])), (b2, .inl (cA, 2100, .inl fr)), (a3, .inr (0, [.ref b3, .int (nI nk)])), (b3, .inl (cA, 2100, .inl fk))]) hP hD [1, 2] [0, 3, 4, 5, 6] [0, 5, 6, 1, 2, 3, 4] rfl rfl (by decide) (by decide) hk1 hFc hP1 hD1 rfl rfl (by decide)
  generalize H1 = H at hP hS ⊢
  refine lv_if_eq (tgt := 29) hx hb dX1_enter_16 (by decide) (fun c_0 => absurd c_0 (show ¬ (1 : Int32) = (0 : Int32) from (by decide))) (fun c_2 => ?_)
  refine lv_aload_n hx hb dX1_enter_19 rfl (lv_at hl 0 rfl) ?_
  refine va_get (D := (dC, dI)) (ci := 1) (v := .ref a1) (C := RX1) (T := TX1) (N := 5) hx hb hts inX1_enter_X1 hown hK hP 0 rfl rfl 0 (by decide) (hts (.fieldLink RX1 10 "QueueHall" "hallRow" "LQueueHall$Row;") (List.mem_of_getElem? (i := 1) (by decide +kernel))) (fun _ h9 => h9) rfl dX1_enter_20 ?_
  refine va_getN (D := (dC, dI)) (ci := 0) (v := .int (nI (nh + 1))) (C := RX0) (T := TX0) (N := 2) hx hb hts inX1_enter_X0 hown hK hP 1 rfl rfl 1 (by decide) (qN_count hN) (fun _ h9 => h9) rfl dX1_enter_23 ?_
  refine lv_goto (tgt := 31) hx hb dX1_enter_26 (by decide) ?_
  exact W.iret (v := nI (nh + 1)) hx hb hr (fun t ht hW => ⟨⟨nI (nh + 1), ((qIns gh (qCb gh p0 nh) p0, nh + 1), (gr, nr), (gk, nk), fi, me), rfl, rfl, f_1, fr, fk, hg_1, ha2, ha3, by rw [ht]; exact hP, va_K.moved hW.alike hK, hD⟩, hS.F ht⟩) hS.2.2 dX1_enter_31

set_option maxHeartbeats 4000000 in
set_option maxRecDepth 100000 in
theorem c_Hall_call (l : Launch) (dC : Nat → ClassId) (dI : Nat → Nat → Nat) (sz : Nat) (x0 a1 b1 a2 b2 a3 b3 nh nr nk : Nat) (cA : ClassId) (fh gh fr gr fk gk : Nat → Int32) (fi me : Int32) (p0 : Int32) (hn : nh + nr + nk < 2000) (ha1 : qAg nh fh gh) (ha2 : qAg nr fr gr) (ha3 : qAg nk fk gk) (hF : qFok fi me nk) : Met l yX1_call wsX1_call ({ frames := 2, cells := 0, slots := 0, locals := 58 }) (va_Pc [.ref x0, .int p0] (fun U => U.heap.size = sz ∧ va_P (dC, dI) vwCl [(x0, .inr (1, [.ref a1, .ref a2, .ref a3, .int fi, .int me])), (a1, .inr (0, [.ref b1, .int (nI nh)])), (b1, .inl (cA, 2100, .inl fh)), (a2, .inr (0, [.ref b2, .int (nI nr)])), (b2, .inl (cA, 2100, .inl fr)), (a3, .inr (0, [.ref b3, .int (nI nk)])), (b3, .inl (cA, 2100, .inl fk))] U.heap ∧ va_K (dC, dI) vwCl [(cA, .int)] U ∧ va_D (fun _ => True) [(x0, .inr (1, [.ref a1, .ref a2, .ref a3, .int fi, .int me])), (a1, .inr (0, [.ref b1, .int (nI nh)])), (b1, .inl (cA, 2100, .inl fh)), (a2, .inr (0, [.ref b2, .int (nI nr)])), (b2, .inl (cA, 2100, .inl fr)), (a3, .inr (0, [.ref b3, .int (nI nk)])), (b3, .inl (cA, 2100, .inl fk))] ∧ qNest U)) (va_Ql (fun (r : Int64) (u : qS) => (r, u) = qCall p0 ((gh, nh), (gr, nr), (gk, nk), fi, me)) (at_H dC dI (va_A [(x0, .inr (1, [.ref a1, .ref a2, .ref a3, .int fi, .int me])), (a1, .inr (0, [.ref b1, .int (nI nh)])), (b1, .inl (cA, 2100, .inl fh)), (a2, .inr (0, [.ref b2, .int (nI nr)])), (b2, .inl (cA, 2100, .inl fr)), (a3, .inr (0, [.ref b3, .int (nI nk)])), (b3, .inl (cA, 2100, .inl fk))] sz) x0 a1 b1 a2 b2 a3 b3 cA) (va_A [(x0, .inr (1, [.ref a1, .ref a2, .ref a3, .int fi, .int me])), (a1, .inr (0, [.ref b1, .int (nI nh)])), (b1, .inl (cA, 2100, .inl fh)), (a2, .inr (0, [.ref b2, .int (nI nr)])), (b2, .inl (cA, 2100, .inl fr)), (a3, .inr (0, [.ref b3, .int (nI nk)])), (b3, .inl (cA, 2100, .inl fk))] sz)) 0 0 (va_A [(x0, .inr (1, [.ref a1, .ref a2, .ref a3, .int fi, .int me])), (a1, .inr (0, [.ref b1, .int (nI nh)])), (b1, .inl (cA, 2100, .inl fh)), (a2, .inr (0, [.ref b2, .int (nI nr)])), (b2, .inl (cA, 2100, .inl fr)), (a3, .inr (0, [.ref b3, .int (nI nk)])), (b3, .inl (cA, 2100, .inl fk))] sz) := by
  refine Met.ofW (cc := cX1_call) (maxL := 2) (ret := (some .long)) (by decide +kernel) rfl ?_
  intro p e s m args below meth c s₁ B hml hv
  obtain ⟨rfl, hsz, hP, hK, hD0, hN⟩ := hv
  have hx := B.exec
  have hb := B.bytes
  have hr := B.returns
  have hts := atoms_spec (ws := wsX1_call) B.pre
  have hown : s.vm.findClass RX1 = some m.cls := findClass_of_methodNamed B.named
  have hlocks := B.notSynchronized
  subst hsz
  have hD := hD0.self (sz := s.heap.size)
  generalize hAe : va_A [(x0, .inr (1, [.ref a1, .ref a2, .ref a3, .int fi, .int me])), (a1, .inr (0, [.ref b1, .int (nI nh)])), (b1, .inl (cA, 2100, .inl fh)), (a2, .inr (0, [.ref b2, .int (nI nr)])), (b2, .inl (cA, 2100, .inl fr)), (a3, .inr (0, [.ref b3, .int (nI nk)])), (b3, .inl (cA, 2100, .inl fk))] s.heap.size = A at hD ⊢
  have hA : ∀ q : Nat, s.heap.size ≤ q → A q := fun q h => by rw [← hAe]; exact Or.inr h
  have hS : va_S A s.heap s.heap [] := va_S.rf
  have hl := lv_entry ([.ref x0, .int p0]) (n := 2) (Nat.le_of_ble_eq_true rfl)
  rw [lg_entry_eq]
  generalize (lg_sl ([.ref x0, .int p0]) ++ List.replicate (2 - (lg_sl ([.ref x0, .int p0])).length) Slot.unset).toArray = ls at hl ⊢
  have hl : lv_has ls 2 [(0, .ref x0), (1, .int p0)] := hl
  by_cases hz : p0 = 0 <;> rcases Nat.eq_zero_or_pos nh with hn0 | hn0
  · have h00 := q_hp00 hn0
    refine lv_iload_n hx hb dX1_call_0 rfl (lv_at hl 1 rfl) ?_
    refine lv_if_eq (tgt := 15) hx hb dX1_call_1 (by decide) (fun c_1 => ?_) (fun c_0 => absurd (show p0 = (0 : Int32) from hz) c_0)
    refine lv_aload_n hx hb dX1_call_15 rfl (lv_at hl 0 rfl) ?_
    refine va_get (D := (dC, dI)) (ci := 1) (v := .ref a1) (C := RX1) (T := TX1) (N := 5) hx hb hts inX1_call_X1 hown hK hP 0 rfl rfl 0 (by decide) (hts (.fieldLink RX1 10 "QueueHall" "hallRow" "LQueueHall$Row;") (List.mem_of_getElem? (i := 1) (by decide +kernel))) (fun _ h9 => h9) rfl dX1_call_16 ?_
    refine lv_iconst (v := nI 0) hx hb dX1_call_19 (by decide) ?_
    have hPc := hP.sub (ws' := [(a1, .inr (0, [.ref b1, .int (nI nh)])), (b1, .inl (cA, 2100, .inl fh))]) [1, 2] rfl
    have hKc := hK.sub (tys' := [(cA, .int)]) [0] rfl
    have hDc := hD.sub (ws' := [(a1, .inr (0, [.ref b1, .int (nI nh)])), (b1, .inl (cA, 2100, .inl fh))]) [1, 2] (by decide) rfl
    have hFc := va_free (wc := [(a1, .inr (0, [.ref b1, .int (nI nh)])), (b1, .inl (cA, 2100, .inl fh))]) hD hS hA [1, 2] rfl
    refine va_calll (va_runVN (As := [.int (nI 0)]) (rest := []) ⟨hx, hb, hml, hown, hts⟩ (c_Row_take l dC dI s.heap.size a1 b1 nh cA fh gh (nI 0) (by omega) ha1) ⟨va_cnB 1 hts gX1_call_X0_take rfl rfl rfl (qN_take hN) (hts (.initialized RX0) (List.mem_of_getElem? (i := 4) (by decide +kernel))) (by decide +kernel) ⟨Nat.le_of_ble_eq_true rfl, Nat.le_of_ble_eq_true rfl⟩, (hts (.instanceMethod yX0_take) (List.mem_of_getElem? (i := 13) (by decide +kernel))), (hts (.selects RX0 yX0_take yX0_take) (List.mem_of_getElem? (i := 14) (by decide +kernel)))⟩ ⟨q_blW, va_recv hKc hPc (ci := 0) (q0 := 0) rfl rfl, fun U hU hW => ⟨rfl, by rw [hU], by rw [hU]; exact hPc, va_K.moved hW.alike hKc, hDc.weaken (fun _ _ _ _ => trivial)⟩⟩ rfl rfl hl.1 rfl (lv_room (Nat.le_of_ble_eq_true rfl)) dX1_call_20 ⟨Nat.le_of_ble_eq_true rfl, Nat.le_of_ble_eq_true rfl⟩) hS (fun q _ h => hFc q h) hFc (fun r_2 u_2 t_2 H1 locs ht hvm hw hB hz1 hk1 hS => ?_)
    have hw := hw.trans (qTake_o h00)
    obtain ⟨rfl, rfl⟩ := Prod.mk.inj hw
    obtain ⟨f_2, hg_2, hP1, hK1, hD1⟩ := hB
    rw [ht] at hP1
    obtain ⟨hP, hD⟩ := q_join (wr := [(x0, .inr (1, [.ref a1, .ref a2, .ref a3, .int fi, .int me])), (a2, .inr (0, [.ref b2, .int (nI nr)])), (b2, .inl (cA, 2100, .inl fr)), (a3, .inr (0, [.ref b3, .int (nI nk)])), (b3, .inl (cA, 2100, .inl fk))]) (w1 := [(a1, .inr (0, [.ref b1, .int (nI nh)])), (b1, .inl (cA, 2100, .inl f_2))]) (wz := [(x0, .inr (1, [.ref a1, .ref a2, .ref a3, .int fi, .int me])), (a1, .inr (0, [.ref b1, .int (nI nh)])), (b1, .inl (cA, 2100, .inl f_2)), (a2, .inr (0, [.ref b2, .int (nI nr)])), (b2, .inl (cA, 2100, .inl fr)), (a3, .inr (0, [.ref b3, .int (nI nk)])), (b3, .inl (cA, 2100, .inl fk))]) hP hD [1, 2] [0, 3, 4, 5, 6] [0, 5, 6, 1, 2, 3, 4] rfl rfl (by decide) (by decide) hk1 hFc hP1 hD1 rfl rfl (by decide)
    generalize H1 = H at hP hS ⊢
    exact W.lret (v := qNo) hx hb hr (fun t ht hW => ⟨⟨qNo, ((gh, nh), (gr, nr), (gk, nk), fi, me), rfl, (by simp only [qCall, if_pos hz, qTake_o h00]), f_2, fr, fk, hg_2, ha2, ha3, by rw [ht]; exact hP, va_K.moved hW.alike hK, hD⟩, hS.F ht⟩) hS.2.2 dX1_call_23
  · refine lv_iload_n hx hb dX1_call_0 rfl (lv_at hl 1 rfl) ?_
    refine lv_if_eq (tgt := 15) hx hb dX1_call_1 (by decide) (fun c_3 => ?_) (fun c_0 => absurd (show p0 = (0 : Int32) from hz) c_0)
    refine lv_aload_n hx hb dX1_call_15 rfl (lv_at hl 0 rfl) ?_
    refine va_get (D := (dC, dI)) (ci := 1) (v := .ref a1) (C := RX1) (T := TX1) (N := 5) hx hb hts inX1_call_X1 hown hK hP 0 rfl rfl 0 (by decide) (hts (.fieldLink RX1 10 "QueueHall" "hallRow" "LQueueHall$Row;") (List.mem_of_getElem? (i := 1) (by decide +kernel))) (fun _ h9 => h9) rfl dX1_call_16 ?_
    refine lv_iconst (v := nI 0) hx hb dX1_call_19 (by decide) ?_
    have hPc := hP.sub (ws' := [(a1, .inr (0, [.ref b1, .int (nI nh)])), (b1, .inl (cA, 2100, .inl fh))]) [1, 2] rfl
    have hKc := hK.sub (tys' := [(cA, .int)]) [0] rfl
    have hDc := hD.sub (ws' := [(a1, .inr (0, [.ref b1, .int (nI nh)])), (b1, .inl (cA, 2100, .inl fh))]) [1, 2] (by decide) rfl
    have hFc := va_free (wc := [(a1, .inr (0, [.ref b1, .int (nI nh)])), (b1, .inl (cA, 2100, .inl fh))]) hD hS hA [1, 2] rfl
    refine va_calll (va_runVN (As := [.int (nI 0)]) (rest := []) ⟨hx, hb, hml, hown, hts⟩ (c_Row_take l dC dI s.heap.size a1 b1 nh cA fh gh (nI 0) (by omega) ha1) ⟨va_cnB 1 hts gX1_call_X0_take rfl rfl rfl (qN_take hN) (hts (.initialized RX0) (List.mem_of_getElem? (i := 4) (by decide +kernel))) (by decide +kernel) ⟨Nat.le_of_ble_eq_true rfl, Nat.le_of_ble_eq_true rfl⟩, (hts (.instanceMethod yX0_take) (List.mem_of_getElem? (i := 13) (by decide +kernel))), (hts (.selects RX0 yX0_take yX0_take) (List.mem_of_getElem? (i := 14) (by decide +kernel)))⟩ ⟨q_blW, va_recv hKc hPc (ci := 0) (q0 := 0) rfl rfl, fun U hU hW => ⟨rfl, by rw [hU], by rw [hU]; exact hPc, va_K.moved hW.alike hKc, hDc.weaken (fun _ _ _ _ => trivial)⟩⟩ rfl rfl hl.1 rfl (lv_room (Nat.le_of_ble_eq_true rfl)) dX1_call_20 ⟨Nat.le_of_ble_eq_true rfl, Nat.le_of_ble_eq_true rfl⟩) hS (fun q _ h => hFc q h) hFc (fun r_4 u_4 t_4 H1 locs ht hvm hw hB hz1 hk1 hS => ?_)
    have hw := hw.trans (qTake_i (k := 0) (by omega) (by omega))
    obtain ⟨rfl, rfl⟩ := Prod.mk.inj hw
    obtain ⟨f_4, hg_4, hP1, hK1, hD1⟩ := hB
    rw [ht] at hP1
    obtain ⟨hP, hD⟩ := q_join (wr := [(x0, .inr (1, [.ref a1, .ref a2, .ref a3, .int fi, .int me])), (a2, .inr (0, [.ref b2, .int (nI nr)])), (b2, .inl (cA, 2100, .inl fr)), (a3, .inr (0, [.ref b3, .int (nI nk)])), (b3, .inl (cA, 2100, .inl fk))]) (w1 := [(a1, .inr (0, [.ref b1, .int (nI (nh - 1))])), (b1, .inl (cA, 2100, .inl f_4))]) (wz := [(x0, .inr (1, [.ref a1, .ref a2, .ref a3, .int fi, .int me])), (a1, .inr (0, [.ref b1, .int (nI (nh - 1))])), (b1, .inl (cA, 2100, .inl f_4)), (a2, .inr (0, [.ref b2, .int (nI nr)])), (b2, .inl (cA, 2100, .inl fr)), (a3, .inr (0, [.ref b3, .int (nI nk)])), (b3, .inl (cA, 2100, .inl fk))]) hP hD [1, 2] [0, 3, 4, 5, 6] [0, 5, 6, 1, 2, 3, 4] rfl rfl (by decide) (by decide) hk1 hFc hP1 hD1 rfl rfl (by decide)
    generalize H1 = H at hP hS ⊢
    exact W.lret (v := (gh 0).toInt64) hx hb hr (fun t ht hW => ⟨⟨(gh 0).toInt64, ((qDel gh 0, nh - 1), (gr, nr), (gk, nk), fi, me), rfl, (by simp only [qCall, if_pos hz, qTake_i (show 0 < nh by omega) (show nh < 2 ^ 31 by omega)]), f_4, fr, fk, hg_4, ha2, ha3, by rw [ht]; exact hP, va_K.moved hW.alike hK, hD⟩, hS.F ht⟩) hS.2.2 dX1_call_23
  · have h00 := q_hp00 hn0
    refine lv_iload_n hx hb dX1_call_0 rfl (lv_at hl 1 rfl) ?_
    refine lv_if_eq (tgt := 15) hx hb dX1_call_1 (by decide) (fun c_0 => absurd c_0 (show ¬ p0 = (0 : Int32) from hz)) (fun c_5 => ?_)
    refine lv_aload_n hx hb dX1_call_4 rfl (lv_at hl 0 rfl) ?_
    refine va_get (D := (dC, dI)) (ci := 1) (v := .ref a1) (C := RX1) (T := TX1) (N := 5) hx hb hts inX1_call_X1 hown hK hP 0 rfl rfl 0 (by decide) (hts (.fieldLink RX1 10 "QueueHall" "hallRow" "LQueueHall$Row;") (List.mem_of_getElem? (i := 1) (by decide +kernel))) (fun _ h9 => h9) rfl dX1_call_5 ?_
    refine lv_iconst (v := nI 0) hx hb dX1_call_8 (by decide) ?_
    have hPc := hP.sub (ws' := [(a1, .inr (0, [.ref b1, .int (nI nh)])), (b1, .inl (cA, 2100, .inl fh))]) [1, 2] rfl
    have hKc := hK.sub (tys' := [(cA, .int)]) [0] rfl
    refine q_cslE (va_runVN (As := [.int (nI 0)]) (rest := []) ⟨hx, hb, hml, hown, hts⟩ (c_Row_at l dC dI a1 b1 nh cA fh gh (nI 0) (by omega) ha1) ⟨va_cnB 1 hts gX1_call_X0_at rfl rfl rfl (qN_at hN) (hts (.initialized RX0) (List.mem_of_getElem? (i := 4) (by decide +kernel))) (by decide +kernel) ⟨Nat.le_of_ble_eq_true rfl, Nat.le_of_ble_eq_true rfl⟩, (hts (.instanceMethod yX0_at) (List.mem_of_getElem? (i := 2) (by decide +kernel))), (hts (.selects RX0 yX0_at yX0_at) (List.mem_of_getElem? (i := 3) (by decide +kernel)))⟩ ⟨q_blR, va_recv hKc hPc (ci := 0) (q0 := 0) rfl rfl, fun U hU hW => ⟨rfl, by rw [hU]; exact hPc, va_K.moved hW.alike hKc⟩⟩ rfl rfl hl.1 rfl (lv_room (Nat.le_of_ble_eq_true rfl)) dX1_call_9 ⟨Nat.le_of_ble_eq_true rfl, Nat.le_of_ble_eq_true rfl⟩) ?_
    refine q_topl (y := qNo) (qAt_o h00) ?_
    refine lv_goto (tgt := 23) hx hb dX1_call_12 (by decide) ?_
    exact W.lret (v := qNo) hx hb hr (fun t ht hW => ⟨⟨qNo, ((gh, nh), (gr, nr), (gk, nk), fi, me), rfl, (by simp only [qCall, if_neg hz, qAt_o h00]), fh, fr, fk, ha1, ha2, ha3, by rw [ht]; exact hP, va_K.moved hW.alike hK, hD⟩, hS.F ht⟩) hS.2.2 dX1_call_23
  · refine lv_iload_n hx hb dX1_call_0 rfl (lv_at hl 1 rfl) ?_
    refine lv_if_eq (tgt := 15) hx hb dX1_call_1 (by decide) (fun c_0 => absurd c_0 (show ¬ p0 = (0 : Int32) from hz)) (fun c_6 => ?_)
    refine lv_aload_n hx hb dX1_call_4 rfl (lv_at hl 0 rfl) ?_
    refine va_get (D := (dC, dI)) (ci := 1) (v := .ref a1) (C := RX1) (T := TX1) (N := 5) hx hb hts inX1_call_X1 hown hK hP 0 rfl rfl 0 (by decide) (hts (.fieldLink RX1 10 "QueueHall" "hallRow" "LQueueHall$Row;") (List.mem_of_getElem? (i := 1) (by decide +kernel))) (fun _ h9 => h9) rfl dX1_call_5 ?_
    refine lv_iconst (v := nI 0) hx hb dX1_call_8 (by decide) ?_
    have hPc := hP.sub (ws' := [(a1, .inr (0, [.ref b1, .int (nI nh)])), (b1, .inl (cA, 2100, .inl fh))]) [1, 2] rfl
    have hKc := hK.sub (tys' := [(cA, .int)]) [0] rfl
    refine q_cslE (va_runVN (As := [.int (nI 0)]) (rest := []) ⟨hx, hb, hml, hown, hts⟩ (c_Row_at l dC dI a1 b1 nh cA fh gh (nI 0) (by omega) ha1) ⟨va_cnB 1 hts gX1_call_X0_at rfl rfl rfl (qN_at hN) (hts (.initialized RX0) (List.mem_of_getElem? (i := 4) (by decide +kernel))) (by decide +kernel) ⟨Nat.le_of_ble_eq_true rfl, Nat.le_of_ble_eq_true rfl⟩, (hts (.instanceMethod yX0_at) (List.mem_of_getElem? (i := 2) (by decide +kernel))), (hts (.selects RX0 yX0_at yX0_at) (List.mem_of_getElem? (i := 3) (by decide +kernel)))⟩ ⟨q_blR, va_recv hKc hPc (ci := 0) (q0 := 0) rfl rfl, fun U hU hW => ⟨rfl, by rw [hU]; exact hPc, va_K.moved hW.alike hKc⟩⟩ rfl rfl hl.1 rfl (lv_room (Nat.le_of_ble_eq_true rfl)) dX1_call_9 ⟨Nat.le_of_ble_eq_true rfl, Nat.le_of_ble_eq_true rfl⟩) ?_
    refine q_topl (y := (gh 0).toInt64) (qAt_i (by omega) (by omega)) ?_
    refine lv_goto (tgt := 23) hx hb dX1_call_12 (by decide) ?_
    exact W.lret (v := (gh 0).toInt64) hx hb hr (fun t ht hW => ⟨⟨(gh 0).toInt64, ((gh, nh), (gr, nr), (gk, nk), fi, me), rfl, (by simp only [qCall, if_neg hz, qAt_i (show 0 < nh by omega) (show nh < 2 ^ 31 by omega)]), fh, fr, fk, ha1, ha2, ha3, by rw [ht]; exact hP, va_K.moved hW.alike hK, hD⟩, hS.F ht⟩) hS.2.2 dX1_call_23

set_option maxHeartbeats 4000000 in
set_option maxRecDepth 100000 in
theorem c_Hall_leave (l : Launch) (dC : Nat → ClassId) (dI : Nat → Nat → Nat) (sz : Nat) (x0 a1 b1 a2 b2 a3 b3 nh nr nk : Nat) (cA : ClassId) (fh gh fr gr fk gk : Nat → Int32) (fi me : Int32) (p0 : Int32) (hn : nh + nr + nk < 2000) (ha1 : qAg nh fh gh) (ha2 : qAg nr fr gr) (ha3 : qAg nk fk gk) (hF : qFok fi me nk) : Met l yX1_leave wsX1_leave ({ frames := 2, cells := 0, slots := 0, locals := 58 }) (va_Pc [.ref x0, .int p0] (fun U => U.heap.size = sz ∧ va_P (dC, dI) vwCl [(x0, .inr (1, [.ref a1, .ref a2, .ref a3, .int fi, .int me])), (a1, .inr (0, [.ref b1, .int (nI nh)])), (b1, .inl (cA, 2100, .inl fh)), (a2, .inr (0, [.ref b2, .int (nI nr)])), (b2, .inl (cA, 2100, .inl fr)), (a3, .inr (0, [.ref b3, .int (nI nk)])), (b3, .inl (cA, 2100, .inl fk))] U.heap ∧ va_K (dC, dI) vwCl [(cA, .int)] U ∧ va_D (fun _ => True) [(x0, .inr (1, [.ref a1, .ref a2, .ref a3, .int fi, .int me])), (a1, .inr (0, [.ref b1, .int (nI nh)])), (b1, .inl (cA, 2100, .inl fh)), (a2, .inr (0, [.ref b2, .int (nI nr)])), (b2, .inl (cA, 2100, .inl fr)), (a3, .inr (0, [.ref b3, .int (nI nk)])), (b3, .inl (cA, 2100, .inl fk))] ∧ qNest U)) (va_Qi (fun (r : Int32) (u : qS) => (r, u) = qLeave p0 ((gh, nh), (gr, nr), (gk, nk), fi, me)) (at_H dC dI (va_A [(x0, .inr (1, [.ref a1, .ref a2, .ref a3, .int fi, .int me])), (a1, .inr (0, [.ref b1, .int (nI nh)])), (b1, .inl (cA, 2100, .inl fh)), (a2, .inr (0, [.ref b2, .int (nI nr)])), (b2, .inl (cA, 2100, .inl fr)), (a3, .inr (0, [.ref b3, .int (nI nk)])), (b3, .inl (cA, 2100, .inl fk))] sz) x0 a1 b1 a2 b2 a3 b3 cA) (va_A [(x0, .inr (1, [.ref a1, .ref a2, .ref a3, .int fi, .int me])), (a1, .inr (0, [.ref b1, .int (nI nh)])), (b1, .inl (cA, 2100, .inl fh)), (a2, .inr (0, [.ref b2, .int (nI nr)])), (b2, .inl (cA, 2100, .inl fr)), (a3, .inr (0, [.ref b3, .int (nI nk)])), (b3, .inl (cA, 2100, .inl fk))] sz)) 0 0 (va_A [(x0, .inr (1, [.ref a1, .ref a2, .ref a3, .int fi, .int me])), (a1, .inr (0, [.ref b1, .int (nI nh)])), (b1, .inl (cA, 2100, .inl fh)), (a2, .inr (0, [.ref b2, .int (nI nr)])), (b2, .inl (cA, 2100, .inl fr)), (a3, .inr (0, [.ref b3, .int (nI nk)])), (b3, .inl (cA, 2100, .inl fk))] sz) := by
  refine Met.ofW (cc := cX1_leave) (maxL := 2) (ret := (some .boolean)) (by decide +kernel) rfl ?_
  intro p e s m args below meth c s₁ B hml hv
  obtain ⟨rfl, hsz, hP, hK, hD0, hN⟩ := hv
  have hx := B.exec
  have hb := B.bytes
  have hr := B.returns
  have hts := atoms_spec (ws := wsX1_leave) B.pre
  have hown : s.vm.findClass RX1 = some m.cls := findClass_of_methodNamed B.named
  have hlocks := B.notSynchronized
  subst hsz
  have hD := hD0.self (sz := s.heap.size)
  generalize hAe : va_A [(x0, .inr (1, [.ref a1, .ref a2, .ref a3, .int fi, .int me])), (a1, .inr (0, [.ref b1, .int (nI nh)])), (b1, .inl (cA, 2100, .inl fh)), (a2, .inr (0, [.ref b2, .int (nI nr)])), (b2, .inl (cA, 2100, .inl fr)), (a3, .inr (0, [.ref b3, .int (nI nk)])), (b3, .inl (cA, 2100, .inl fk))] s.heap.size = A at hD ⊢
  have hA : ∀ q : Nat, s.heap.size ≤ q → A q := fun q h => by rw [← hAe]; exact Or.inr h
  have hS : va_S A s.heap s.heap [] := va_S.rf
  have hl := lv_entry ([.ref x0, .int p0]) (n := 2) (Nat.le_of_ble_eq_true rfl)
  rw [lg_entry_eq]
  generalize (lg_sl ([.ref x0, .int p0]) ++ List.replicate (2 - (lg_sl ([.ref x0, .int p0])).length) Slot.unset).toArray = ls at hl ⊢
  have hl : lv_has ls 2 [(0, .ref x0), (1, .int p0)] := hl
  rcases qPl_r (g := gh) (v := p0) (z := 0) nh with hq | ⟨k, hk, hq, hv⟩
  · refine lv_aload_n hx hb dX1_leave_0 rfl (lv_at hl 0 rfl) ?_
    refine va_get (D := (dC, dI)) (ci := 1) (v := .ref a1) (C := RX1) (T := TX1) (N := 5) hx hb hts inX1_leave_X1 hown hK hP 0 rfl rfl 0 (by decide) (hts (.fieldLink RX1 10 "QueueHall" "hallRow" "LQueueHall$Row;") (List.mem_of_getElem? (i := 1) (by decide +kernel))) (fun _ h9 => h9) rfl dX1_leave_1 ?_
    refine lv_aload_n hx hb dX1_leave_4 rfl (lv_at hl 0 rfl) ?_
    refine va_get (D := (dC, dI)) (ci := 1) (v := .ref a1) (C := RX1) (T := TX1) (N := 5) hx hb hts inX1_leave_X1 hown hK hP 0 rfl rfl 0 (by decide) (hts (.fieldLink RX1 10 "QueueHall" "hallRow" "LQueueHall$Row;") (List.mem_of_getElem? (i := 1) (by decide +kernel))) (fun _ h9 => h9) rfl dX1_leave_5 ?_
    refine lv_iload_n hx hb dX1_leave_8 rfl (lv_at hl 1 rfl) ?_
    have hPc := hP.sub (ws' := [(a1, .inr (0, [.ref b1, .int (nI nh)])), (b1, .inl (cA, 2100, .inl fh))]) [1, 2] rfl
    have hKc := hK.sub (tys' := [(cA, .int)]) [0] rfl
    refine q_csiE (va_runVN (As := [.int p0]) (rest := [.ref a1]) ⟨hx, hb, hml, hown, hts⟩ (c_Row_firstPlace l dC dI a1 b1 nh cA fh gh p0 (by omega) ha1) ⟨va_cnB 1 hts gX1_leave_X0_firstPlace rfl rfl rfl (qN_firstPlace hN) (hts (.initialized RX0) (List.mem_of_getElem? (i := 4) (by decide +kernel))) (by decide +kernel) ⟨Nat.le_of_ble_eq_true rfl, Nat.le_of_ble_eq_true rfl⟩, (hts (.instanceMethod yX0_firstPlace) (List.mem_of_getElem? (i := 2) (by decide +kernel))), (hts (.selects RX0 yX0_firstPlace yX0_firstPlace) (List.mem_of_getElem? (i := 3) (by decide +kernel)))⟩ ⟨q_blR, va_recv hKc hPc (ci := 0) (q0 := 0) rfl rfl, fun U hU hW => ⟨rfl, by rw [hU]; exact hPc, va_K.moved hW.alike hKc⟩⟩ rfl rfl hl.1 rfl (lv_room (Nat.le_of_ble_eq_true rfl)) dX1_leave_9 ⟨Nat.le_of_ble_eq_true rfl, Nat.le_of_ble_eq_true rfl⟩) ?_
    refine q_top (y := -1) hq ?_
    have hPc := hP.sub (ws' := [(a1, .inr (0, [.ref b1, .int (nI nh)])), (b1, .inl (cA, 2100, .inl fh))]) [1, 2] rfl
    have hKc := hK.sub (tys' := [(cA, .int)]) [0] rfl
    have hDc := hD.sub (ws' := [(a1, .inr (0, [.ref b1, .int (nI nh)])), (b1, .inl (cA, 2100, .inl fh))]) [1, 2] (by decide) rfl
    have hFc := va_free (wc := [(a1, .inr (0, [.ref b1, .int (nI nh)])), (b1, .inl (cA, 2100, .inl fh))]) hD hS hA [1, 2] rfl
    refine va_calll (va_runVN (As := [.int (-1)]) (rest := []) ⟨hx, hb, hml, hown, hts⟩ (c_Row_take l dC dI s.heap.size a1 b1 nh cA fh gh (-1) (by omega) ha1) ⟨va_cnB 1 hts gX1_leave_X0_take rfl rfl rfl (qN_take hN) (hts (.initialized RX0) (List.mem_of_getElem? (i := 4) (by decide +kernel))) (by decide +kernel) ⟨Nat.le_of_ble_eq_true rfl, Nat.le_of_ble_eq_true rfl⟩, (hts (.instanceMethod yX0_take) (List.mem_of_getElem? (i := 8) (by decide +kernel))), (hts (.selects RX0 yX0_take yX0_take) (List.mem_of_getElem? (i := 9) (by decide +kernel)))⟩ ⟨q_blW, va_recv hKc hPc (ci := 0) (q0 := 0) rfl rfl, fun U hU hW => ⟨rfl, by rw [hU], by rw [hU]; exact hPc, va_K.moved hW.alike hKc, hDc.weaken (fun _ _ _ _ => trivial)⟩⟩ rfl rfl hl.1 rfl (lv_room (Nat.le_of_ble_eq_true rfl)) dX1_leave_12 ⟨Nat.le_of_ble_eq_true rfl, Nat.le_of_ble_eq_true rfl⟩) hS (fun q _ h => hFc q h) hFc (fun r_1 u_1 t_1 H1 locs ht hvm hw hB hz1 hk1 hS => ?_)
    have hw := hw.trans (qTake_o (qHp_m1))
    obtain ⟨rfl, rfl⟩ := Prod.mk.inj hw
    obtain ⟨f_1, hg_1, hP1, hK1, hD1⟩ := hB
    rw [ht] at hP1
    obtain ⟨hP, hD⟩ := q_join (wr := [(x0, .inr (1, [.ref a1, .ref a2, .ref a3, .int fi, .int me])), (a2, .inr (0, [.ref b2, .int (nI nr)])), (b2, .inl (cA, 2100, .inl fr)), (a3, .inr (0, [.ref b3, .int (nI nk)])), (b3, .inl (cA, 2100, .inl fk))]) (w1 := [(a1, .inr (0, [.ref b1, .int (nI nh)])), (b1, .inl (cA, 2100, .inl f_1))]) (wz := [(x0, .inr (1, [.ref a1, .ref a2, .ref a3, .int fi, .int me])), (a1, .inr (0, [.ref b1, .int (nI nh)])), (b1, .inl (cA, 2100, .inl f_1)), (a2, .inr (0, [.ref b2, .int (nI nr)])), (b2, .inl (cA, 2100, .inl fr)), (a3, .inr (0, [.ref b3, .int (nI nk)])), (b3, .inl (cA, 2100, .inl fk))]) hP hD [1, 2] [0, 3, 4, 5, 6] [0, 5, 6, 1, 2, 3, 4] rfl rfl (by decide) (by decide) hk1 hFc hP1 hD1 rfl rfl (by decide)
    generalize H1 = H at hP hS ⊢
    refine lv_ldc2 (v := qNo) hx hb hown (hts (.constantLong RX1 50 (1099511627776)) (List.mem_of_getElem? (i := 20) (by decide +kernel))) dX1_leave_15 ?_
    refine W.lcmp hx hb dX1_leave_18 ?_
    refine lv_if_eq (tgt := 26) hx hb dX1_leave_19 (by decide) (fun _ => ?_) (fun c_0 => absurd ((lg_cmp_eq _ _).mpr rfl) c_0)
    refine lv_iconst (v := 0) hx hb dX1_leave_26 (by decide) ?_
    exact W.zret (v := 0) hx hb hr rfl (fun t ht hW => ⟨⟨0, ((gh, nh), (gr, nr), (gk, nk), fi, me), rfl, (by simp only [qLeave, hq, if_pos (show (-1 : Int32) < 0 by decide)]), f_1, fr, fk, hg_1, ha2, ha3, by rw [ht]; exact hP, va_K.moved hW.alike hK, hD⟩, hS.F ht⟩) hS.2.2 dX1_leave_27
  · refine lv_aload_n hx hb dX1_leave_0 rfl (lv_at hl 0 rfl) ?_
    refine va_get (D := (dC, dI)) (ci := 1) (v := .ref a1) (C := RX1) (T := TX1) (N := 5) hx hb hts inX1_leave_X1 hown hK hP 0 rfl rfl 0 (by decide) (hts (.fieldLink RX1 10 "QueueHall" "hallRow" "LQueueHall$Row;") (List.mem_of_getElem? (i := 1) (by decide +kernel))) (fun _ h9 => h9) rfl dX1_leave_1 ?_
    refine lv_aload_n hx hb dX1_leave_4 rfl (lv_at hl 0 rfl) ?_
    refine va_get (D := (dC, dI)) (ci := 1) (v := .ref a1) (C := RX1) (T := TX1) (N := 5) hx hb hts inX1_leave_X1 hown hK hP 0 rfl rfl 0 (by decide) (hts (.fieldLink RX1 10 "QueueHall" "hallRow" "LQueueHall$Row;") (List.mem_of_getElem? (i := 1) (by decide +kernel))) (fun _ h9 => h9) rfl dX1_leave_5 ?_
    refine lv_iload_n hx hb dX1_leave_8 rfl (lv_at hl 1 rfl) ?_
    have hPc := hP.sub (ws' := [(a1, .inr (0, [.ref b1, .int (nI nh)])), (b1, .inl (cA, 2100, .inl fh))]) [1, 2] rfl
    have hKc := hK.sub (tys' := [(cA, .int)]) [0] rfl
    refine q_csiE (va_runVN (As := [.int p0]) (rest := [.ref a1]) ⟨hx, hb, hml, hown, hts⟩ (c_Row_firstPlace l dC dI a1 b1 nh cA fh gh p0 (by omega) ha1) ⟨va_cnB 1 hts gX1_leave_X0_firstPlace rfl rfl rfl (qN_firstPlace hN) (hts (.initialized RX0) (List.mem_of_getElem? (i := 4) (by decide +kernel))) (by decide +kernel) ⟨Nat.le_of_ble_eq_true rfl, Nat.le_of_ble_eq_true rfl⟩, (hts (.instanceMethod yX0_firstPlace) (List.mem_of_getElem? (i := 2) (by decide +kernel))), (hts (.selects RX0 yX0_firstPlace yX0_firstPlace) (List.mem_of_getElem? (i := 3) (by decide +kernel)))⟩ ⟨q_blR, va_recv hKc hPc (ci := 0) (q0 := 0) rfl rfl, fun U hU hW => ⟨rfl, by rw [hU]; exact hPc, va_K.moved hW.alike hKc⟩⟩ rfl rfl hl.1 rfl (lv_room (Nat.le_of_ble_eq_true rfl)) dX1_leave_9 ⟨Nat.le_of_ble_eq_true rfl, Nat.le_of_ble_eq_true rfl⟩) ?_
    refine q_top (y := nI k) hq ?_
    have hPc := hP.sub (ws' := [(a1, .inr (0, [.ref b1, .int (nI nh)])), (b1, .inl (cA, 2100, .inl fh))]) [1, 2] rfl
    have hKc := hK.sub (tys' := [(cA, .int)]) [0] rfl
    have hDc := hD.sub (ws' := [(a1, .inr (0, [.ref b1, .int (nI nh)])), (b1, .inl (cA, 2100, .inl fh))]) [1, 2] (by decide) rfl
    have hFc := va_free (wc := [(a1, .inr (0, [.ref b1, .int (nI nh)])), (b1, .inl (cA, 2100, .inl fh))]) hD hS hA [1, 2] rfl
    refine va_calll (va_runVN (As := [.int (nI k)]) (rest := []) ⟨hx, hb, hml, hown, hts⟩ (c_Row_take l dC dI s.heap.size a1 b1 nh cA fh gh (nI k) (by omega) ha1) ⟨va_cnB 1 hts gX1_leave_X0_take rfl rfl rfl (qN_take hN) (hts (.initialized RX0) (List.mem_of_getElem? (i := 4) (by decide +kernel))) (by decide +kernel) ⟨Nat.le_of_ble_eq_true rfl, Nat.le_of_ble_eq_true rfl⟩, (hts (.instanceMethod yX0_take) (List.mem_of_getElem? (i := 8) (by decide +kernel))), (hts (.selects RX0 yX0_take yX0_take) (List.mem_of_getElem? (i := 9) (by decide +kernel)))⟩ ⟨q_blW, va_recv hKc hPc (ci := 0) (q0 := 0) rfl rfl, fun U hU hW => ⟨rfl, by rw [hU], by rw [hU]; exact hPc, va_K.moved hW.alike hKc, hDc.weaken (fun _ _ _ _ => trivial)⟩⟩ rfl rfl hl.1 rfl (lv_room (Nat.le_of_ble_eq_true rfl)) dX1_leave_12 ⟨Nat.le_of_ble_eq_true rfl, Nat.le_of_ble_eq_true rfl⟩) hS (fun q _ h => hFc q h) hFc (fun r_2 u_2 t_2 H1 locs ht hvm hw hB hz1 hk1 hS => ?_)
    have hw := hw.trans (qTake_i (k := k) (by omega) (by omega))
    obtain ⟨rfl, rfl⟩ := Prod.mk.inj hw
    obtain ⟨f_2, hg_2, hP1, hK1, hD1⟩ := hB
    rw [ht] at hP1
    obtain ⟨hP, hD⟩ := q_join (wr := [(x0, .inr (1, [.ref a1, .ref a2, .ref a3, .int fi, .int me])), (a2, .inr (0, [.ref b2, .int (nI nr)])), (b2, .inl (cA, 2100, .inl fr)), (a3, .inr (0, [.ref b3, .int (nI nk)])), (b3, .inl (cA, 2100, .inl fk))]) (w1 := [(a1, .inr (0, [.ref b1, .int (nI (nh - 1))])), (b1, .inl (cA, 2100, .inl f_2))]) (wz := [(x0, .inr (1, [.ref a1, .ref a2, .ref a3, .int fi, .int me])), (a1, .inr (0, [.ref b1, .int (nI (nh - 1))])), (b1, .inl (cA, 2100, .inl f_2)), (a2, .inr (0, [.ref b2, .int (nI nr)])), (b2, .inl (cA, 2100, .inl fr)), (a3, .inr (0, [.ref b3, .int (nI nk)])), (b3, .inl (cA, 2100, .inl fk))]) hP hD [1, 2] [0, 3, 4, 5, 6] [0, 5, 6, 1, 2, 3, 4] rfl rfl (by decide) (by decide) hk1 hFc hP1 hD1 rfl rfl (by decide)
    generalize H1 = H at hP hS ⊢
    refine lv_ldc2 (v := qNo) hx hb hown (hts (.constantLong RX1 50 (1099511627776)) (List.mem_of_getElem? (i := 20) (by decide +kernel))) dX1_leave_15 ?_
    refine W.lcmp hx hb dX1_leave_18 ?_
    refine lv_if_eq (tgt := 26) hx hb dX1_leave_19 (by decide) (fun c_0 => absurd c_0 (fun q => q_no _ ((lg_cmp_eq _ _).mp q))) (fun _ => ?_)
    refine lv_iconst (v := 1) hx hb dX1_leave_22 (by decide) ?_
    refine lv_goto (tgt := 27) hx hb dX1_leave_23 (by decide) ?_
    exact W.zret (v := 1) hx hb hr rfl (fun t ht hW => ⟨⟨1, ((qDel gh k, nh - 1), (gr, nr), (gk, nk), fi, me), rfl, (by simp only [qLeave, hq, if_neg (nI_pos (show k < 2 ^ 31 by omega)), nI_clamp (show k < 2 ^ 31 by omega)]), f_2, fr, fk, hg_2, ha2, ha3, by rw [ht]; exact hP, va_K.moved hW.alike hK, hD⟩, hS.F ht⟩) hS.2.2 dX1_leave_27

set_option maxHeartbeats 4000000 in
set_option maxRecDepth 100000 in
theorem c_Hall_unlink (l : Launch) (dC : Nat → ClassId) (dI : Nat → Nat → Nat) (sz : Nat) (x0 a1 b1 a2 b2 a3 b3 nh nr nk : Nat) (cA : ClassId) (fh gh fr gr fk gk : Nat → Int32) (fi me : Int32) (p0 : Int32) (hn : nh + nr + nk < 2000) (ha1 : qAg nh fh gh) (ha2 : qAg nr fr gr) (ha3 : qAg nk fk gk) (hF : qFok fi me nk) : Met l yX1_unlink wsX1_unlink ({ frames := 2, cells := 0, slots := 0, locals := 58 }) (va_Pc [.ref x0, .int p0] (fun U => U.heap.size = sz ∧ va_P (dC, dI) vwCl [(x0, .inr (1, [.ref a1, .ref a2, .ref a3, .int fi, .int me])), (a1, .inr (0, [.ref b1, .int (nI nh)])), (b1, .inl (cA, 2100, .inl fh)), (a2, .inr (0, [.ref b2, .int (nI nr)])), (b2, .inl (cA, 2100, .inl fr)), (a3, .inr (0, [.ref b3, .int (nI nk)])), (b3, .inl (cA, 2100, .inl fk))] U.heap ∧ va_K (dC, dI) vwCl [(cA, .int)] U ∧ va_D (fun _ => True) [(x0, .inr (1, [.ref a1, .ref a2, .ref a3, .int fi, .int me])), (a1, .inr (0, [.ref b1, .int (nI nh)])), (b1, .inl (cA, 2100, .inl fh)), (a2, .inr (0, [.ref b2, .int (nI nr)])), (b2, .inl (cA, 2100, .inl fr)), (a3, .inr (0, [.ref b3, .int (nI nk)])), (b3, .inl (cA, 2100, .inl fk))] ∧ qNest U)) (va_Qi (fun (r : Int32) (u : qS) => (r, u) = qUnlink p0 ((gh, nh), (gr, nr), (gk, nk), fi, me)) (at_H dC dI (va_A [(x0, .inr (1, [.ref a1, .ref a2, .ref a3, .int fi, .int me])), (a1, .inr (0, [.ref b1, .int (nI nh)])), (b1, .inl (cA, 2100, .inl fh)), (a2, .inr (0, [.ref b2, .int (nI nr)])), (b2, .inl (cA, 2100, .inl fr)), (a3, .inr (0, [.ref b3, .int (nI nk)])), (b3, .inl (cA, 2100, .inl fk))] sz) x0 a1 b1 a2 b2 a3 b3 cA) (va_A [(x0, .inr (1, [.ref a1, .ref a2, .ref a3, .int fi, .int me])), (a1, .inr (0, [.ref b1, .int (nI nh)])), (b1, .inl (cA, 2100, .inl fh)), (a2, .inr (0, [.ref b2, .int (nI nr)])), (b2, .inl (cA, 2100, .inl fr)), (a3, .inr (0, [.ref b3, .int (nI nk)])), (b3, .inl (cA, 2100, .inl fk))] sz)) 0 0 (va_A [(x0, .inr (1, [.ref a1, .ref a2, .ref a3, .int fi, .int me])), (a1, .inr (0, [.ref b1, .int (nI nh)])), (b1, .inl (cA, 2100, .inl fh)), (a2, .inr (0, [.ref b2, .int (nI nr)])), (b2, .inl (cA, 2100, .inl fr)), (a3, .inr (0, [.ref b3, .int (nI nk)])), (b3, .inl (cA, 2100, .inl fk))] sz) := by
  refine Met.ofW (cc := cX1_unlink) (maxL := 2) (ret := (some .boolean)) (by decide +kernel) rfl ?_
  intro p e s m args below meth c s₁ B hml hv
  obtain ⟨rfl, hsz, hP, hK, hD0, hN⟩ := hv
  have hx := B.exec
  have hb := B.bytes
  have hr := B.returns
  have hts := atoms_spec (ws := wsX1_unlink) B.pre
  have hown : s.vm.findClass RX1 = some m.cls := findClass_of_methodNamed B.named
  have hlocks := B.notSynchronized
  subst hsz
  have hD := hD0.self (sz := s.heap.size)
  generalize hAe : va_A [(x0, .inr (1, [.ref a1, .ref a2, .ref a3, .int fi, .int me])), (a1, .inr (0, [.ref b1, .int (nI nh)])), (b1, .inl (cA, 2100, .inl fh)), (a2, .inr (0, [.ref b2, .int (nI nr)])), (b2, .inl (cA, 2100, .inl fr)), (a3, .inr (0, [.ref b3, .int (nI nk)])), (b3, .inl (cA, 2100, .inl fk))] s.heap.size = A at hD ⊢
  have hA : ∀ q : Nat, s.heap.size ≤ q → A q := fun q h => by rw [← hAe]; exact Or.inr h
  have hS : va_S A s.heap s.heap [] := va_S.rf
  have hl := lv_entry ([.ref x0, .int p0]) (n := 2) (Nat.le_of_ble_eq_true rfl)
  rw [lg_entry_eq]
  generalize (lg_sl ([.ref x0, .int p0]) ++ List.replicate (2 - (lg_sl ([.ref x0, .int p0])).length) Slot.unset).toArray = ls at hl ⊢
  have hl : lv_has ls 2 [(0, .ref x0), (1, .int p0)] := hl
  rcases qPl_r (g := gk) (v := p0) (z := 0) nk with hq | ⟨k, hk, hq, hv⟩
  · refine lv_aload_n hx hb dX1_unlink_0 rfl (lv_at hl 0 rfl) ?_
    refine va_get (D := (dC, dI)) (ci := 1) (v := .ref a3) (C := RX1) (T := TX1) (N := 5) hx hb hts inX1_unlink_X1 hown hK hP 0 rfl rfl 2 (by decide) (hts (.fieldLink RX1 19 "QueueHall" "chainRow" "LQueueHall$Row;") (List.mem_of_getElem? (i := 1) (by decide +kernel))) (fun _ h9 => h9) rfl dX1_unlink_1 ?_
    refine lv_aload_n hx hb dX1_unlink_4 rfl (lv_at hl 0 rfl) ?_
    refine va_get (D := (dC, dI)) (ci := 1) (v := .ref a3) (C := RX1) (T := TX1) (N := 5) hx hb hts inX1_unlink_X1 hown hK hP 0 rfl rfl 2 (by decide) (hts (.fieldLink RX1 19 "QueueHall" "chainRow" "LQueueHall$Row;") (List.mem_of_getElem? (i := 1) (by decide +kernel))) (fun _ h9 => h9) rfl dX1_unlink_5 ?_
    refine lv_iload_n hx hb dX1_unlink_8 rfl (lv_at hl 1 rfl) ?_
    have hPc := hP.sub (ws' := [(a3, .inr (0, [.ref b3, .int (nI nk)])), (b3, .inl (cA, 2100, .inl fk))]) [5, 6] rfl
    have hKc := hK.sub (tys' := [(cA, .int)]) [0] rfl
    refine q_csiE (va_runVN (As := [.int p0]) (rest := [.ref a3]) ⟨hx, hb, hml, hown, hts⟩ (c_Row_firstPlace l dC dI a3 b3 nk cA fk gk p0 (by omega) ha3) ⟨va_cnB 1 hts gX1_unlink_X0_firstPlace rfl rfl rfl (qN_firstPlace hN) (hts (.initialized RX0) (List.mem_of_getElem? (i := 4) (by decide +kernel))) (by decide +kernel) ⟨Nat.le_of_ble_eq_true rfl, Nat.le_of_ble_eq_true rfl⟩, (hts (.instanceMethod yX0_firstPlace) (List.mem_of_getElem? (i := 2) (by decide +kernel))), (hts (.selects RX0 yX0_firstPlace yX0_firstPlace) (List.mem_of_getElem? (i := 3) (by decide +kernel)))⟩ ⟨q_blR, va_recv hKc hPc (ci := 0) (q0 := 0) rfl rfl, fun U hU hW => ⟨rfl, by rw [hU]; exact hPc, va_K.moved hW.alike hKc⟩⟩ rfl rfl hl.1 rfl (lv_room (Nat.le_of_ble_eq_true rfl)) dX1_unlink_9 ⟨Nat.le_of_ble_eq_true rfl, Nat.le_of_ble_eq_true rfl⟩) ?_
    refine q_top (y := -1) hq ?_
    have hPc := hP.sub (ws' := [(a3, .inr (0, [.ref b3, .int (nI nk)])), (b3, .inl (cA, 2100, .inl fk))]) [5, 6] rfl
    have hKc := hK.sub (tys' := [(cA, .int)]) [0] rfl
    have hDc := hD.sub (ws' := [(a3, .inr (0, [.ref b3, .int (nI nk)])), (b3, .inl (cA, 2100, .inl fk))]) [5, 6] (by decide) rfl
    have hFc := va_free (wc := [(a3, .inr (0, [.ref b3, .int (nI nk)])), (b3, .inl (cA, 2100, .inl fk))]) hD hS hA [5, 6] rfl
    refine va_calll (va_runVN (As := [.int (-1)]) (rest := []) ⟨hx, hb, hml, hown, hts⟩ (c_Row_take l dC dI s.heap.size a3 b3 nk cA fk gk (-1) (by omega) ha3) ⟨va_cnB 1 hts gX1_unlink_X0_take rfl rfl rfl (qN_take hN) (hts (.initialized RX0) (List.mem_of_getElem? (i := 4) (by decide +kernel))) (by decide +kernel) ⟨Nat.le_of_ble_eq_true rfl, Nat.le_of_ble_eq_true rfl⟩, (hts (.instanceMethod yX0_take) (List.mem_of_getElem? (i := 8) (by decide +kernel))), (hts (.selects RX0 yX0_take yX0_take) (List.mem_of_getElem? (i := 9) (by decide +kernel)))⟩ ⟨q_blW, va_recv hKc hPc (ci := 0) (q0 := 0) rfl rfl, fun U hU hW => ⟨rfl, by rw [hU], by rw [hU]; exact hPc, va_K.moved hW.alike hKc, hDc.weaken (fun _ _ _ _ => trivial)⟩⟩ rfl rfl hl.1 rfl (lv_room (Nat.le_of_ble_eq_true rfl)) dX1_unlink_12 ⟨Nat.le_of_ble_eq_true rfl, Nat.le_of_ble_eq_true rfl⟩) hS (fun q _ h => hFc q h) hFc (fun r_1 u_1 t_1 H1 locs ht hvm hw hB hz1 hk1 hS => ?_)
    have hw := hw.trans (qTake_o (qHp_m1))
    obtain ⟨rfl, rfl⟩ := Prod.mk.inj hw
    obtain ⟨f_1, hg_1, hP1, hK1, hD1⟩ := hB
    rw [ht] at hP1
    obtain ⟨hP, hD⟩ := q_join (wr := [(x0, .inr (1, [.ref a1, .ref a2, .ref a3, .int fi, .int me])), (a1, .inr (0, [.ref b1, .int (nI nh)])), (b1, .inl (cA, 2100, .inl fh)), (a2, .inr (0, [.ref b2, .int (nI nr)])), (b2, .inl (cA, 2100, .inl fr))]) (w1 := [(a3, .inr (0, [.ref b3, .int (nI nk)])), (b3, .inl (cA, 2100, .inl f_1))]) (wz := [(x0, .inr (1, [.ref a1, .ref a2, .ref a3, .int fi, .int me])), (a1, .inr (0, [.ref b1, .int (nI nh)])), (b1, .inl (cA, 2100, .inl fh)), (a2, .inr (0, [.ref b2, .int (nI nr)])), (b2, .inl (cA, 2100, .inl fr)), (a3, .inr (0, [.ref b3, .int (nI nk)])), (b3, .inl (cA, 2100, .inl f_1))]) hP hD [5, 6] [0, 1, 2, 3, 4] [0, 1, 2, 3, 4, 5, 6] rfl rfl (by decide) (by decide) hk1 hFc hP1 hD1 rfl rfl (by decide)
    generalize H1 = H at hP hS ⊢
    refine lv_ldc2 (v := qNo) hx hb hown (hts (.constantLong RX1 50 (1099511627776)) (List.mem_of_getElem? (i := 20) (by decide +kernel))) dX1_unlink_15 ?_
    refine W.lcmp hx hb dX1_unlink_18 ?_
    refine lv_if_ne (tgt := 24) hx hb dX1_unlink_19 (by decide) (fun c_0 => absurd ((lg_cmp_eq _ _).mpr rfl) c_0) (fun _ => ?_)
    refine lv_iconst (v := 0) hx hb dX1_unlink_22 (by decide) ?_
    exact W.zret (v := 0) hx hb hr rfl (fun t ht hW => ⟨⟨0, ((gh, nh), (gr, nr), (gk, nk), fi, me), rfl, (by simp only [qUnlink, hq, if_pos (show (-1 : Int32) < 0 by decide)]), fh, fr, f_1, ha1, ha2, hg_1, by rw [ht]; exact hP, va_K.moved hW.alike hK, hD⟩, hS.F ht⟩) hS.2.2 dX1_unlink_23
  · refine lv_aload_n hx hb dX1_unlink_0 rfl (lv_at hl 0 rfl) ?_
    refine va_get (D := (dC, dI)) (ci := 1) (v := .ref a3) (C := RX1) (T := TX1) (N := 5) hx hb hts inX1_unlink_X1 hown hK hP 0 rfl rfl 2 (by decide) (hts (.fieldLink RX1 19 "QueueHall" "chainRow" "LQueueHall$Row;") (List.mem_of_getElem? (i := 1) (by decide +kernel))) (fun _ h9 => h9) rfl dX1_unlink_1 ?_
    refine lv_aload_n hx hb dX1_unlink_4 rfl (lv_at hl 0 rfl) ?_
    refine va_get (D := (dC, dI)) (ci := 1) (v := .ref a3) (C := RX1) (T := TX1) (N := 5) hx hb hts inX1_unlink_X1 hown hK hP 0 rfl rfl 2 (by decide) (hts (.fieldLink RX1 19 "QueueHall" "chainRow" "LQueueHall$Row;") (List.mem_of_getElem? (i := 1) (by decide +kernel))) (fun _ h9 => h9) rfl dX1_unlink_5 ?_
    refine lv_iload_n hx hb dX1_unlink_8 rfl (lv_at hl 1 rfl) ?_
    have hPc := hP.sub (ws' := [(a3, .inr (0, [.ref b3, .int (nI nk)])), (b3, .inl (cA, 2100, .inl fk))]) [5, 6] rfl
    have hKc := hK.sub (tys' := [(cA, .int)]) [0] rfl
    refine q_csiE (va_runVN (As := [.int p0]) (rest := [.ref a3]) ⟨hx, hb, hml, hown, hts⟩ (c_Row_firstPlace l dC dI a3 b3 nk cA fk gk p0 (by omega) ha3) ⟨va_cnB 1 hts gX1_unlink_X0_firstPlace rfl rfl rfl (qN_firstPlace hN) (hts (.initialized RX0) (List.mem_of_getElem? (i := 4) (by decide +kernel))) (by decide +kernel) ⟨Nat.le_of_ble_eq_true rfl, Nat.le_of_ble_eq_true rfl⟩, (hts (.instanceMethod yX0_firstPlace) (List.mem_of_getElem? (i := 2) (by decide +kernel))), (hts (.selects RX0 yX0_firstPlace yX0_firstPlace) (List.mem_of_getElem? (i := 3) (by decide +kernel)))⟩ ⟨q_blR, va_recv hKc hPc (ci := 0) (q0 := 0) rfl rfl, fun U hU hW => ⟨rfl, by rw [hU]; exact hPc, va_K.moved hW.alike hKc⟩⟩ rfl rfl hl.1 rfl (lv_room (Nat.le_of_ble_eq_true rfl)) dX1_unlink_9 ⟨Nat.le_of_ble_eq_true rfl, Nat.le_of_ble_eq_true rfl⟩) ?_
    refine q_top (y := nI k) hq ?_
    have hPc := hP.sub (ws' := [(a3, .inr (0, [.ref b3, .int (nI nk)])), (b3, .inl (cA, 2100, .inl fk))]) [5, 6] rfl
    have hKc := hK.sub (tys' := [(cA, .int)]) [0] rfl
    have hDc := hD.sub (ws' := [(a3, .inr (0, [.ref b3, .int (nI nk)])), (b3, .inl (cA, 2100, .inl fk))]) [5, 6] (by decide) rfl
    have hFc := va_free (wc := [(a3, .inr (0, [.ref b3, .int (nI nk)])), (b3, .inl (cA, 2100, .inl fk))]) hD hS hA [5, 6] rfl
    refine va_calll (va_runVN (As := [.int (nI k)]) (rest := []) ⟨hx, hb, hml, hown, hts⟩ (c_Row_take l dC dI s.heap.size a3 b3 nk cA fk gk (nI k) (by omega) ha3) ⟨va_cnB 1 hts gX1_unlink_X0_take rfl rfl rfl (qN_take hN) (hts (.initialized RX0) (List.mem_of_getElem? (i := 4) (by decide +kernel))) (by decide +kernel) ⟨Nat.le_of_ble_eq_true rfl, Nat.le_of_ble_eq_true rfl⟩, (hts (.instanceMethod yX0_take) (List.mem_of_getElem? (i := 8) (by decide +kernel))), (hts (.selects RX0 yX0_take yX0_take) (List.mem_of_getElem? (i := 9) (by decide +kernel)))⟩ ⟨q_blW, va_recv hKc hPc (ci := 0) (q0 := 0) rfl rfl, fun U hU hW => ⟨rfl, by rw [hU], by rw [hU]; exact hPc, va_K.moved hW.alike hKc, hDc.weaken (fun _ _ _ _ => trivial)⟩⟩ rfl rfl hl.1 rfl (lv_room (Nat.le_of_ble_eq_true rfl)) dX1_unlink_12 ⟨Nat.le_of_ble_eq_true rfl, Nat.le_of_ble_eq_true rfl⟩) hS (fun q _ h => hFc q h) hFc (fun r_2 u_2 t_2 H1 locs ht hvm hw hB hz1 hk1 hS => ?_)
    have hw := hw.trans (qTake_i (k := k) (by omega) (by omega))
    obtain ⟨rfl, rfl⟩ := Prod.mk.inj hw
    obtain ⟨f_2, hg_2, hP1, hK1, hD1⟩ := hB
    rw [ht] at hP1
    obtain ⟨hP, hD⟩ := q_join (wr := [(x0, .inr (1, [.ref a1, .ref a2, .ref a3, .int fi, .int me])), (a1, .inr (0, [.ref b1, .int (nI nh)])), (b1, .inl (cA, 2100, .inl fh)), (a2, .inr (0, [.ref b2, .int (nI nr)])), (b2, .inl (cA, 2100, .inl fr))]) (w1 := [(a3, .inr (0, [.ref b3, .int (nI (nk - 1))])), (b3, .inl (cA, 2100, .inl f_2))]) (wz := [(x0, .inr (1, [.ref a1, .ref a2, .ref a3, .int fi, .int me])), (a1, .inr (0, [.ref b1, .int (nI nh)])), (b1, .inl (cA, 2100, .inl fh)), (a2, .inr (0, [.ref b2, .int (nI nr)])), (b2, .inl (cA, 2100, .inl fr)), (a3, .inr (0, [.ref b3, .int (nI (nk - 1))])), (b3, .inl (cA, 2100, .inl f_2))]) hP hD [5, 6] [0, 1, 2, 3, 4] [0, 1, 2, 3, 4, 5, 6] rfl rfl (by decide) (by decide) hk1 hFc hP1 hD1 rfl rfl (by decide)
    generalize H1 = H at hP hS ⊢
    refine lv_ldc2 (v := qNo) hx hb hown (hts (.constantLong RX1 50 (1099511627776)) (List.mem_of_getElem? (i := 20) (by decide +kernel))) dX1_unlink_15 ?_
    refine W.lcmp hx hb dX1_unlink_18 ?_
    refine lv_if_ne (tgt := 24) hx hb dX1_unlink_19 (by decide) (fun _ => ?_) (fun c_0 => absurd c_0 (fun q => q_no _ ((lg_cmp_eq _ _).mp q)))
    refine lv_aload_n hx hb dX1_unlink_24 rfl (lv_at hl 0 rfl) ?_
    have hPc := hP.sub (ws' := [(x0, .inr (1, [.ref a1, .ref a2, .ref a3, .int fi, .int me]))]) [0] rfl
    have hKc := hK.sub (tys' := []) [] rfl
    have hDc := hD.sub (ws' := [(x0, .inr (1, [.ref a1, .ref a2, .ref a3, .int fi, .int me]))]) [0] (by decide) rfl
    have hFc := va_free (wc := [(x0, .inr (1, [.ref a1, .ref a2, .ref a3, .int fi, .int me]))]) hD hS hA [0] rfl
    refine va_callv (va_runV (As := []) (rest := []) ⟨hx, hb, hml, hown, hts⟩ (c_Hall_liftFinger l dC dI H.size x0 a1 a2 a3 fi me) (cwV 0 hts gX1_unlink_X1_liftFinger_v rfl rfl rfl (by decide +kernel) ⟨Nat.le_of_ble_eq_true rfl, Nat.le_of_ble_eq_true rfl⟩) ⟨q_blW, va_recv hKc hPc (ci := 1) (q0 := 0) rfl rfl, fun U hU hW => ⟨rfl, by rw [hU], by rw [hU]; exact hPc, va_K.moved hW.alike hKc, hDc.weaken (fun _ _ _ _ => trivial)⟩⟩ rfl rfl hl.1 rfl (lv_room (Nat.le_of_ble_eq_true rfl)) dX1_unlink_25 ⟨Nat.le_of_ble_eq_true rfl, Nat.le_of_ble_eq_true rfl⟩) hS (fun q _ h => hFc q h) hFc (fun u_3 t_3 H1 locs ht hvm hw hB hz1 hk1 hS => ?_)
    subst hw
    obtain ⟨hP1, hK1, hD1⟩ := hB
    rw [ht] at hP1
    obtain ⟨hP, hD⟩ := q_join (wr := [(a1, .inr (0, [.ref b1, .int (nI nh)])), (b1, .inl (cA, 2100, .inl fh)), (a2, .inr (0, [.ref b2, .int (nI nr)])), (b2, .inl (cA, 2100, .inl fr)), (a3, .inr (0, [.ref b3, .int (nI (nk - 1))])), (b3, .inl (cA, 2100, .inl f_2))]) (w1 := [(x0, .inr (1, [.ref a1, .ref a2, .ref a3, .int (-1), .int (-1)]))]) (wz := [(x0, .inr (1, [.ref a1, .ref a2, .ref a3, .int (-1), .int (-1)])), (a1, .inr (0, [.ref b1, .int (nI nh)])), (b1, .inl (cA, 2100, .inl fh)), (a2, .inr (0, [.ref b2, .int (nI nr)])), (b2, .inl (cA, 2100, .inl fr)), (a3, .inr (0, [.ref b3, .int (nI (nk - 1))])), (b3, .inl (cA, 2100, .inl f_2))]) hP hD [0] [1, 2, 3, 4, 5, 6] [6, 0, 1, 2, 3, 4, 5] rfl rfl (by decide) (by decide) hk1 hFc hP1 hD1 rfl rfl (by decide)
    generalize H1 = H at hP hS ⊢
    refine lv_iconst (v := 1) hx hb dX1_unlink_28 (by decide) ?_
    exact W.zret (v := 1) hx hb hr rfl (fun t ht hW => ⟨⟨1, ((gh, nh), (gr, nr), (qDel gk k, nk - 1), -1, -1), rfl, (by simp only [qUnlink, hq, if_neg (nI_pos (show k < 2 ^ 31 by omega)), nI_clamp (show k < 2 ^ 31 by omega)]), fh, fr, f_2, ha1, ha2, hg_2, by rw [ht]; exact hP, va_K.moved hW.alike hK, hD⟩, hS.F ht⟩) hS.2.2 dX1_unlink_29

set_option maxHeartbeats 4000000 in
set_option maxRecDepth 100000 in
theorem c_Hall_has (l : Launch) (dC : Nat → ClassId) (dI : Nat → Nat → Nat) (x0 a1 b1 a2 b2 a3 b3 nh nr nk : Nat) (cA : ClassId) (fh gh fr gr fk gk : Nat → Int32) (fi me : Int32) (p0 p1 : Int32) (hn : nh + nr + nk < 2000) (ha1 : qAg nh fh gh) (ha2 : qAg nr fr gr) (ha3 : qAg nk fk gk) (hF : qFok fi me nk) : Met l yX1_has wsX1_has ({ frames := 2, cells := 0, slots := 0, locals := 58 }) (va_Pc [.ref x0, .int p0, .int p1] (fun U => va_P (dC, dI) vwCl [(x0, .inr (1, [.ref a1, .ref a2, .ref a3, .int fi, .int me])), (a1, .inr (0, [.ref b1, .int (nI nh)])), (b1, .inl (cA, 2100, .inl fh)), (a2, .inr (0, [.ref b2, .int (nI nr)])), (b2, .inl (cA, 2100, .inl fr)), (a3, .inr (0, [.ref b3, .int (nI nk)])), (b3, .inl (cA, 2100, .inl fk))] U.heap ∧ va_K (dC, dI) vwCl [(cA, .int)] U ∧ qNest U)) (vp_Si (fun r => r = (qHas p0 p1 ((gh, nh), (gr, nr), (gk, nk), fi, me)).1)) 0 0 (fun _ => False) := by
  refine Met.ofW (cc := cX1_has) (maxL := 4) (ret := (some .boolean)) (by decide +kernel) rfl ?_
  intro p e s m args below meth c s₁ B hml hv
  obtain ⟨rfl, hP, hK, hN⟩ := hv
  have hx := B.exec
  have hb := B.bytes
  have hr := B.returns
  have hts := atoms_spec (ws := wsX1_has) B.pre
  have hown : s.vm.findClass RX1 = some m.cls := findClass_of_methodNamed B.named
  have hlocks := B.notSynchronized
  have hl := lv_entry ([.ref x0, .int p0, .int p1]) (n := 4) (Nat.le_of_ble_eq_true rfl)
  rw [lg_entry_eq]
  generalize (lg_sl ([.ref x0, .int p0, .int p1]) ++ List.replicate (4 - (lg_sl ([.ref x0, .int p0, .int p1])).length) Slot.unset).toArray = ls at hl ⊢
  have hl : lv_has ls 4 [(0, .ref x0), (1, .int p0), (2, .int p1)] := hl
  rcases q_w p0 with rfl | rfl | rfl | ⟨w0, w1, w2⟩
  · refine lv_aload_n hx hb dX1_has_0 rfl (lv_at hl 0 rfl) ?_
    refine lv_iload_n hx hb dX1_has_1 rfl (lv_at hl 1 rfl) ?_
    have hPc := hP.sub (ws' := [(x0, .inr (1, [.ref a1, .ref a2, .ref a3, .int fi, .int me]))]) [0] rfl
    have hKc := hK.sub (tys' := []) [] rfl
    refine q_csqE (va_runV (As := [.int 0]) (rest := []) ⟨hx, hb, hml, hown, hts⟩ (c_Hall_rowOf l dC dI x0 a1 a2 a3 fi me 0) (cwV 1 hts gX1_has_X1_rowOf_v rfl rfl rfl (by decide +kernel) ⟨Nat.le_of_ble_eq_true rfl, Nat.le_of_ble_eq_true rfl⟩) ⟨q_blR, va_recv hKc hPc (ci := 1) (q0 := 0) rfl rfl, fun U hU hW => ⟨rfl, by rw [hU]; exact hPc, va_K.moved hW.alike hKc⟩⟩ rfl rfl hl.1 rfl (lv_room (Nat.le_of_ble_eq_true rfl)) dX1_has_2 ⟨Nat.le_of_ble_eq_true rfl, Nat.le_of_ble_eq_true rfl⟩) ?_
    refine q_topr qRow_0 ?_
    refine lv_astore_n (lv' := [(3, .ref a1), (0, .ref x0), (1, .int 0), (2, .int p1)]) hx hb dX1_has_5 rfl hl (by decide) rfl (fun ls hl => ?_)
    refine lv_aload_n hx hb dX1_has_6 rfl (lv_at hl 0 rfl) ?_
    refine lv_ifnull hx hb dX1_has_7 ?_
    refine lv_aload_n hx hb dX1_has_10 rfl (lv_at hl 0 rfl) ?_
    refine lv_iload_n hx hb dX1_has_11 rfl (lv_at hl 3 rfl) ?_
    have hPc := hP.sub (ws' := [(a1, .inr (0, [.ref b1, .int (nI nh)])), (b1, .inl (cA, 2100, .inl fh))]) [1, 2] rfl
    have hKc := hK.sub (tys' := [(cA, .int)]) [0] rfl
    refine q_csiE (va_runVN (As := [.int p1]) (rest := []) ⟨hx, hb, hml, hown, hts⟩ (c_Row_firstPlace l dC dI a1 b1 nh cA fh gh p1 (by omega) ha1) ⟨va_cnB 1 hts gX1_has_X0_firstPlace rfl rfl rfl (qN_firstPlace hN) (hts (.initialized RX0) (List.mem_of_getElem? (i := 11) (by decide +kernel))) (by decide +kernel) ⟨Nat.le_of_ble_eq_true rfl, Nat.le_of_ble_eq_true rfl⟩, (hts (.instanceMethod yX0_firstPlace) (List.mem_of_getElem? (i := 9) (by decide +kernel))), (hts (.selects RX0 yX0_firstPlace yX0_firstPlace) (List.mem_of_getElem? (i := 10) (by decide +kernel)))⟩ ⟨q_blR, va_recv hKc hPc (ci := 0) (q0 := 0) rfl rfl, fun U hU hW => ⟨rfl, by rw [hU]; exact hPc, va_K.moved hW.alike hKc⟩⟩ rfl rfl hl.1 rfl (lv_room (Nat.le_of_ble_eq_true rfl)) dX1_has_12 ⟨Nat.le_of_ble_eq_true rfl, Nat.le_of_ble_eq_true rfl⟩) ?_
    refine lv_iconst (v := -1) hx hb dX1_has_15 (by decide) ?_
    refine lv_icmp_eq (tgt := 23) hx hb dX1_has_16 (by decide) (fun c_1 => ?_) (fun c_1 => ?_)
    · refine lv_iconst (v := 0) hx hb dX1_has_23 (by decide) ?_
      exact W.zret (v := 0) hx hb hr rfl (fun t ht hW => ⟨0, rfl, (by simp only [qHas, if_pos True.intro]; exact (qHasR_n c_1).symm), ht⟩) (fun q h => by cases h) dX1_has_24
    · refine lv_iconst (v := 1) hx hb dX1_has_19 (by decide) ?_
      refine lv_goto (tgt := 24) hx hb dX1_has_20 (by decide) ?_
      exact W.zret (v := 1) hx hb hr rfl (fun t ht hW => ⟨1, rfl, (by simp only [qHas, if_pos True.intro]; exact (qHasR_y c_1 (by omega)).symm), ht⟩) (fun q h => by cases h) dX1_has_24
  · refine lv_aload_n hx hb dX1_has_0 rfl (lv_at hl 0 rfl) ?_
    refine lv_iload_n hx hb dX1_has_1 rfl (lv_at hl 1 rfl) ?_
    have hPc := hP.sub (ws' := [(x0, .inr (1, [.ref a1, .ref a2, .ref a3, .int fi, .int me]))]) [0] rfl
    have hKc := hK.sub (tys' := []) [] rfl
    refine q_csqE (va_runV (As := [.int 1]) (rest := []) ⟨hx, hb, hml, hown, hts⟩ (c_Hall_rowOf l dC dI x0 a1 a2 a3 fi me 1) (cwV 1 hts gX1_has_X1_rowOf_v rfl rfl rfl (by decide +kernel) ⟨Nat.le_of_ble_eq_true rfl, Nat.le_of_ble_eq_true rfl⟩) ⟨q_blR, va_recv hKc hPc (ci := 1) (q0 := 0) rfl rfl, fun U hU hW => ⟨rfl, by rw [hU]; exact hPc, va_K.moved hW.alike hKc⟩⟩ rfl rfl hl.1 rfl (lv_room (Nat.le_of_ble_eq_true rfl)) dX1_has_2 ⟨Nat.le_of_ble_eq_true rfl, Nat.le_of_ble_eq_true rfl⟩) ?_
    refine q_topr qRow_1 ?_
    refine lv_astore_n (lv' := [(3, .ref a2), (0, .ref x0), (1, .int 1), (2, .int p1)]) hx hb dX1_has_5 rfl hl (by decide) rfl (fun ls hl => ?_)
    refine lv_aload_n hx hb dX1_has_6 rfl (lv_at hl 0 rfl) ?_
    refine lv_ifnull hx hb dX1_has_7 ?_
    refine lv_aload_n hx hb dX1_has_10 rfl (lv_at hl 0 rfl) ?_
    refine lv_iload_n hx hb dX1_has_11 rfl (lv_at hl 3 rfl) ?_
    have hPc := hP.sub (ws' := [(a2, .inr (0, [.ref b2, .int (nI nr)])), (b2, .inl (cA, 2100, .inl fr))]) [3, 4] rfl
    have hKc := hK.sub (tys' := [(cA, .int)]) [0] rfl
    refine q_csiE (va_runVN (As := [.int p1]) (rest := []) ⟨hx, hb, hml, hown, hts⟩ (c_Row_firstPlace l dC dI a2 b2 nr cA fr gr p1 (by omega) ha2) ⟨va_cnB 1 hts gX1_has_X0_firstPlace rfl rfl rfl (qN_firstPlace hN) (hts (.initialized RX0) (List.mem_of_getElem? (i := 11) (by decide +kernel))) (by decide +kernel) ⟨Nat.le_of_ble_eq_true rfl, Nat.le_of_ble_eq_true rfl⟩, (hts (.instanceMethod yX0_firstPlace) (List.mem_of_getElem? (i := 9) (by decide +kernel))), (hts (.selects RX0 yX0_firstPlace yX0_firstPlace) (List.mem_of_getElem? (i := 10) (by decide +kernel)))⟩ ⟨q_blR, va_recv hKc hPc (ci := 0) (q0 := 0) rfl rfl, fun U hU hW => ⟨rfl, by rw [hU]; exact hPc, va_K.moved hW.alike hKc⟩⟩ rfl rfl hl.1 rfl (lv_room (Nat.le_of_ble_eq_true rfl)) dX1_has_12 ⟨Nat.le_of_ble_eq_true rfl, Nat.le_of_ble_eq_true rfl⟩) ?_
    refine lv_iconst (v := -1) hx hb dX1_has_15 (by decide) ?_
    refine lv_icmp_eq (tgt := 23) hx hb dX1_has_16 (by decide) (fun c_2 => ?_) (fun c_2 => ?_)
    · refine lv_iconst (v := 0) hx hb dX1_has_23 (by decide) ?_
      exact W.zret (v := 0) hx hb hr rfl (fun t ht hW => ⟨0, rfl, (by simp only [qHas, if_neg (show ¬ (1 : Int32) = 0 by decide), if_pos True.intro]; exact (qHasR_n c_2).symm), ht⟩) (fun q h => by cases h) dX1_has_24
    · refine lv_iconst (v := 1) hx hb dX1_has_19 (by decide) ?_
      refine lv_goto (tgt := 24) hx hb dX1_has_20 (by decide) ?_
      exact W.zret (v := 1) hx hb hr rfl (fun t ht hW => ⟨1, rfl, (by simp only [qHas, if_neg (show ¬ (1 : Int32) = 0 by decide), if_pos True.intro]; exact (qHasR_y c_2 (by omega)).symm), ht⟩) (fun q h => by cases h) dX1_has_24
  · refine lv_aload_n hx hb dX1_has_0 rfl (lv_at hl 0 rfl) ?_
    refine lv_iload_n hx hb dX1_has_1 rfl (lv_at hl 1 rfl) ?_
    have hPc := hP.sub (ws' := [(x0, .inr (1, [.ref a1, .ref a2, .ref a3, .int fi, .int me]))]) [0] rfl
    have hKc := hK.sub (tys' := []) [] rfl
    refine q_csqE (va_runV (As := [.int 2]) (rest := []) ⟨hx, hb, hml, hown, hts⟩ (c_Hall_rowOf l dC dI x0 a1 a2 a3 fi me 2) (cwV 1 hts gX1_has_X1_rowOf_v rfl rfl rfl (by decide +kernel) ⟨Nat.le_of_ble_eq_true rfl, Nat.le_of_ble_eq_true rfl⟩) ⟨q_blR, va_recv hKc hPc (ci := 1) (q0 := 0) rfl rfl, fun U hU hW => ⟨rfl, by rw [hU]; exact hPc, va_K.moved hW.alike hKc⟩⟩ rfl rfl hl.1 rfl (lv_room (Nat.le_of_ble_eq_true rfl)) dX1_has_2 ⟨Nat.le_of_ble_eq_true rfl, Nat.le_of_ble_eq_true rfl⟩) ?_
    refine q_topr qRow_2 ?_
    refine lv_astore_n (lv' := [(3, .ref a3), (0, .ref x0), (1, .int 2), (2, .int p1)]) hx hb dX1_has_5 rfl hl (by decide) rfl (fun ls hl => ?_)
    refine lv_aload_n hx hb dX1_has_6 rfl (lv_at hl 0 rfl) ?_
    refine lv_ifnull hx hb dX1_has_7 ?_
    refine lv_aload_n hx hb dX1_has_10 rfl (lv_at hl 0 rfl) ?_
    refine lv_iload_n hx hb dX1_has_11 rfl (lv_at hl 3 rfl) ?_
    have hPc := hP.sub (ws' := [(a3, .inr (0, [.ref b3, .int (nI nk)])), (b3, .inl (cA, 2100, .inl fk))]) [5, 6] rfl
    have hKc := hK.sub (tys' := [(cA, .int)]) [0] rfl
    refine q_csiE (va_runVN (As := [.int p1]) (rest := []) ⟨hx, hb, hml, hown, hts⟩ (c_Row_firstPlace l dC dI a3 b3 nk cA fk gk p1 (by omega) ha3) ⟨va_cnB 1 hts gX1_has_X0_firstPlace rfl rfl rfl (qN_firstPlace hN) (hts (.initialized RX0) (List.mem_of_getElem? (i := 11) (by decide +kernel))) (by decide +kernel) ⟨Nat.le_of_ble_eq_true rfl, Nat.le_of_ble_eq_true rfl⟩, (hts (.instanceMethod yX0_firstPlace) (List.mem_of_getElem? (i := 9) (by decide +kernel))), (hts (.selects RX0 yX0_firstPlace yX0_firstPlace) (List.mem_of_getElem? (i := 10) (by decide +kernel)))⟩ ⟨q_blR, va_recv hKc hPc (ci := 0) (q0 := 0) rfl rfl, fun U hU hW => ⟨rfl, by rw [hU]; exact hPc, va_K.moved hW.alike hKc⟩⟩ rfl rfl hl.1 rfl (lv_room (Nat.le_of_ble_eq_true rfl)) dX1_has_12 ⟨Nat.le_of_ble_eq_true rfl, Nat.le_of_ble_eq_true rfl⟩) ?_
    refine lv_iconst (v := -1) hx hb dX1_has_15 (by decide) ?_
    refine lv_icmp_eq (tgt := 23) hx hb dX1_has_16 (by decide) (fun c_3 => ?_) (fun c_3 => ?_)
    · refine lv_iconst (v := 0) hx hb dX1_has_23 (by decide) ?_
      exact W.zret (v := 0) hx hb hr rfl (fun t ht hW => ⟨0, rfl, (by simp only [qHas, if_neg (show ¬ (2 : Int32) = 0 by decide), if_neg (show ¬ (2 : Int32) = 1 by decide), if_pos True.intro]; exact (qHasR_n c_3).symm), ht⟩) (fun q h => by cases h) dX1_has_24
    · refine lv_iconst (v := 1) hx hb dX1_has_19 (by decide) ?_
      refine lv_goto (tgt := 24) hx hb dX1_has_20 (by decide) ?_
      exact W.zret (v := 1) hx hb hr rfl (fun t ht hW => ⟨1, rfl, (by simp only [qHas, if_neg (show ¬ (2 : Int32) = 0 by decide), if_neg (show ¬ (2 : Int32) = 1 by decide), if_pos True.intro]; exact (qHasR_y c_3 (by omega)).symm), ht⟩) (fun q h => by cases h) dX1_has_24
  · refine lv_aload_n hx hb dX1_has_0 rfl (lv_at hl 0 rfl) ?_
    refine lv_iload_n hx hb dX1_has_1 rfl (lv_at hl 1 rfl) ?_
    have hPc := hP.sub (ws' := [(x0, .inr (1, [.ref a1, .ref a2, .ref a3, .int fi, .int me]))]) [0] rfl
    have hKc := hK.sub (tys' := []) [] rfl
    refine q_csqE (va_runV (As := [.int p0]) (rest := []) ⟨hx, hb, hml, hown, hts⟩ (c_Hall_rowOf l dC dI x0 a1 a2 a3 fi me p0) (cwV 1 hts gX1_has_X1_rowOf_v rfl rfl rfl (by decide +kernel) ⟨Nat.le_of_ble_eq_true rfl, Nat.le_of_ble_eq_true rfl⟩) ⟨q_blR, va_recv hKc hPc (ci := 1) (q0 := 0) rfl rfl, fun U hU hW => ⟨rfl, by rw [hU]; exact hPc, va_K.moved hW.alike hKc⟩⟩ rfl rfl hl.1 rfl (lv_room (Nat.le_of_ble_eq_true rfl)) dX1_has_2 ⟨Nat.le_of_ble_eq_true rfl, Nat.le_of_ble_eq_true rfl⟩) ?_
    refine q_topn (qRow_n w0 w1 w2) ?_
    refine lv_astore_nN (lv' := [(3, .null), (0, .ref x0), (1, .int p0), (2, .int p1)]) hx hb dX1_has_5 rfl hl (by decide) rfl (fun ls hl => ?_)
    refine lv_aload_nN hx hb dX1_has_6 rfl (lv_at hl 0 rfl) ?_
    refine lv_ifnullN (tgt := 23) hx hb dX1_has_7 (by decide) ?_
    refine lv_iconst (v := 0) hx hb dX1_has_23 (by decide) ?_
    exact W.zret (v := 0) hx hb hr rfl (fun t ht hW => ⟨0, rfl, (by simp only [qHas, if_neg w0, if_neg w1, if_neg w2]), ht⟩) (fun q h => by cases h) dX1_has_24

set_option maxHeartbeats 4000000 in
set_option maxRecDepth 100000 in
theorem c_Hall_size (l : Launch) (dC : Nat → ClassId) (dI : Nat → Nat → Nat) (x0 a1 b1 a2 b2 a3 b3 nh nr nk : Nat) (cA : ClassId) (fh gh fr gr fk gk : Nat → Int32) (fi me : Int32) (p0 : Int32) (hn : nh + nr + nk < 2000) (ha1 : qAg nh fh gh) (ha2 : qAg nr fr gr) (ha3 : qAg nk fk gk) (hF : qFok fi me nk) : Met l yX1_size wsX1_size ({ frames := 2, cells := 0, slots := 0, locals := 58 }) (va_Pc [.ref x0, .int p0] (fun U => va_P (dC, dI) vwCl [(x0, .inr (1, [.ref a1, .ref a2, .ref a3, .int fi, .int me])), (a1, .inr (0, [.ref b1, .int (nI nh)])), (b1, .inl (cA, 2100, .inl fh)), (a2, .inr (0, [.ref b2, .int (nI nr)])), (b2, .inl (cA, 2100, .inl fr)), (a3, .inr (0, [.ref b3, .int (nI nk)])), (b3, .inl (cA, 2100, .inl fk))] U.heap ∧ va_K (dC, dI) vwCl [(cA, .int)] U ∧ qNest U)) (vp_Si (fun r => r = (qSize p0 ((gh, nh), (gr, nr), (gk, nk), fi, me)).1)) 0 0 (fun _ => False) := by
  refine Met.ofW (cc := cX1_size) (maxL := 3) (ret := (some .int)) (by decide +kernel) rfl ?_
  intro p e s m args below meth c s₁ B hml hv
  obtain ⟨rfl, hP, hK, hN⟩ := hv
  have hx := B.exec
  have hb := B.bytes
  have hr := B.returns
  have hts := atoms_spec (ws := wsX1_size) B.pre
  have hown : s.vm.findClass RX1 = some m.cls := findClass_of_methodNamed B.named
  have hlocks := B.notSynchronized
  have hl := lv_entry ([.ref x0, .int p0]) (n := 3) (Nat.le_of_ble_eq_true rfl)
  rw [lg_entry_eq]
  generalize (lg_sl ([.ref x0, .int p0]) ++ List.replicate (3 - (lg_sl ([.ref x0, .int p0])).length) Slot.unset).toArray = ls at hl ⊢
  have hl : lv_has ls 3 [(0, .ref x0), (1, .int p0)] := hl
  rcases q_w p0 with rfl | rfl | rfl | ⟨w0, w1, w2⟩
  · refine lv_aload_n hx hb dX1_size_0 rfl (lv_at hl 0 rfl) ?_
    refine lv_iload_n hx hb dX1_size_1 rfl (lv_at hl 1 rfl) ?_
    have hPc := hP.sub (ws' := [(x0, .inr (1, [.ref a1, .ref a2, .ref a3, .int fi, .int me]))]) [0] rfl
    have hKc := hK.sub (tys' := []) [] rfl
    refine q_csqE (va_runV (As := [.int 0]) (rest := []) ⟨hx, hb, hml, hown, hts⟩ (c_Hall_rowOf l dC dI x0 a1 a2 a3 fi me 0) (cwV 1 hts gX1_size_X1_rowOf_v rfl rfl rfl (by decide +kernel) ⟨Nat.le_of_ble_eq_true rfl, Nat.le_of_ble_eq_true rfl⟩) ⟨q_blR, va_recv hKc hPc (ci := 1) (q0 := 0) rfl rfl, fun U hU hW => ⟨rfl, by rw [hU]; exact hPc, va_K.moved hW.alike hKc⟩⟩ rfl rfl hl.1 rfl (lv_room (Nat.le_of_ble_eq_true rfl)) dX1_size_2 ⟨Nat.le_of_ble_eq_true rfl, Nat.le_of_ble_eq_true rfl⟩) ?_
    refine q_topr qRow_0 ?_
    refine lv_astore_n (lv' := [(2, .ref a1), (0, .ref x0), (1, .int 0)]) hx hb dX1_size_5 rfl hl (by decide) rfl (fun ls hl => ?_)
    refine lv_aload_n hx hb dX1_size_6 rfl (lv_at hl 0 rfl) ?_
    refine lv_ifnonnull (tgt := 14) hx hb dX1_size_7 (by decide) ?_
    refine lv_aload_n hx hb dX1_size_14 rfl (lv_at hl 0 rfl) ?_
    refine va_getN (D := (dC, dI)) (ci := 0) (v := .int (nI nh)) (C := RX0) (T := TX0) (N := 2) hx hb hts inX1_size_X0 hown hK hP 1 rfl rfl 1 (by decide) (qN_count hN) (fun _ h9 => h9) rfl dX1_size_15 ?_
    exact W.iret (v := nI nh) hx hb hr (fun t ht hW => ⟨nI nh, rfl, (by simp only [qSize, if_pos True.intro]), ht⟩) (fun q h => by cases h) dX1_size_18
  · refine lv_aload_n hx hb dX1_size_0 rfl (lv_at hl 0 rfl) ?_
    refine lv_iload_n hx hb dX1_size_1 rfl (lv_at hl 1 rfl) ?_
    have hPc := hP.sub (ws' := [(x0, .inr (1, [.ref a1, .ref a2, .ref a3, .int fi, .int me]))]) [0] rfl
    have hKc := hK.sub (tys' := []) [] rfl
    refine q_csqE (va_runV (As := [.int 1]) (rest := []) ⟨hx, hb, hml, hown, hts⟩ (c_Hall_rowOf l dC dI x0 a1 a2 a3 fi me 1) (cwV 1 hts gX1_size_X1_rowOf_v rfl rfl rfl (by decide +kernel) ⟨Nat.le_of_ble_eq_true rfl, Nat.le_of_ble_eq_true rfl⟩) ⟨q_blR, va_recv hKc hPc (ci := 1) (q0 := 0) rfl rfl, fun U hU hW => ⟨rfl, by rw [hU]; exact hPc, va_K.moved hW.alike hKc⟩⟩ rfl rfl hl.1 rfl (lv_room (Nat.le_of_ble_eq_true rfl)) dX1_size_2 ⟨Nat.le_of_ble_eq_true rfl, Nat.le_of_ble_eq_true rfl⟩) ?_
    refine q_topr qRow_1 ?_
    refine lv_astore_n (lv' := [(2, .ref a2), (0, .ref x0), (1, .int 1)]) hx hb dX1_size_5 rfl hl (by decide) rfl (fun ls hl => ?_)
    refine lv_aload_n hx hb dX1_size_6 rfl (lv_at hl 0 rfl) ?_
    refine lv_ifnonnull (tgt := 14) hx hb dX1_size_7 (by decide) ?_
    refine lv_aload_n hx hb dX1_size_14 rfl (lv_at hl 0 rfl) ?_
    refine va_getN (D := (dC, dI)) (ci := 0) (v := .int (nI nr)) (C := RX0) (T := TX0) (N := 2) hx hb hts inX1_size_X0 hown hK hP 3 rfl rfl 1 (by decide) (qN_count hN) (fun _ h9 => h9) rfl dX1_size_15 ?_
    exact W.iret (v := nI nr) hx hb hr (fun t ht hW => ⟨nI nr, rfl, (by simp only [qSize, if_neg (show ¬ (1 : Int32) = 0 by decide), if_pos True.intro]), ht⟩) (fun q h => by cases h) dX1_size_18
  · refine lv_aload_n hx hb dX1_size_0 rfl (lv_at hl 0 rfl) ?_
    refine lv_iload_n hx hb dX1_size_1 rfl (lv_at hl 1 rfl) ?_
    have hPc := hP.sub (ws' := [(x0, .inr (1, [.ref a1, .ref a2, .ref a3, .int fi, .int me]))]) [0] rfl
    have hKc := hK.sub (tys' := []) [] rfl
    refine q_csqE (va_runV (As := [.int 2]) (rest := []) ⟨hx, hb, hml, hown, hts⟩ (c_Hall_rowOf l dC dI x0 a1 a2 a3 fi me 2) (cwV 1 hts gX1_size_X1_rowOf_v rfl rfl rfl (by decide +kernel) ⟨Nat.le_of_ble_eq_true rfl, Nat.le_of_ble_eq_true rfl⟩) ⟨q_blR, va_recv hKc hPc (ci := 1) (q0 := 0) rfl rfl, fun U hU hW => ⟨rfl, by rw [hU]; exact hPc, va_K.moved hW.alike hKc⟩⟩ rfl rfl hl.1 rfl (lv_room (Nat.le_of_ble_eq_true rfl)) dX1_size_2 ⟨Nat.le_of_ble_eq_true rfl, Nat.le_of_ble_eq_true rfl⟩) ?_
    refine q_topr qRow_2 ?_
    refine lv_astore_n (lv' := [(2, .ref a3), (0, .ref x0), (1, .int 2)]) hx hb dX1_size_5 rfl hl (by decide) rfl (fun ls hl => ?_)
    refine lv_aload_n hx hb dX1_size_6 rfl (lv_at hl 0 rfl) ?_
    refine lv_ifnonnull (tgt := 14) hx hb dX1_size_7 (by decide) ?_
    refine lv_aload_n hx hb dX1_size_14 rfl (lv_at hl 0 rfl) ?_
    refine va_getN (D := (dC, dI)) (ci := 0) (v := .int (nI nk)) (C := RX0) (T := TX0) (N := 2) hx hb hts inX1_size_X0 hown hK hP 5 rfl rfl 1 (by decide) (qN_count hN) (fun _ h9 => h9) rfl dX1_size_15 ?_
    exact W.iret (v := nI nk) hx hb hr (fun t ht hW => ⟨nI nk, rfl, (by simp only [qSize, if_neg (show ¬ (2 : Int32) = 0 by decide), if_neg (show ¬ (2 : Int32) = 1 by decide), if_pos True.intro]), ht⟩) (fun q h => by cases h) dX1_size_18
  · refine lv_aload_n hx hb dX1_size_0 rfl (lv_at hl 0 rfl) ?_
    refine lv_iload_n hx hb dX1_size_1 rfl (lv_at hl 1 rfl) ?_
    have hPc := hP.sub (ws' := [(x0, .inr (1, [.ref a1, .ref a2, .ref a3, .int fi, .int me]))]) [0] rfl
    have hKc := hK.sub (tys' := []) [] rfl
    refine q_csqE (va_runV (As := [.int p0]) (rest := []) ⟨hx, hb, hml, hown, hts⟩ (c_Hall_rowOf l dC dI x0 a1 a2 a3 fi me p0) (cwV 1 hts gX1_size_X1_rowOf_v rfl rfl rfl (by decide +kernel) ⟨Nat.le_of_ble_eq_true rfl, Nat.le_of_ble_eq_true rfl⟩) ⟨q_blR, va_recv hKc hPc (ci := 1) (q0 := 0) rfl rfl, fun U hU hW => ⟨rfl, by rw [hU]; exact hPc, va_K.moved hW.alike hKc⟩⟩ rfl rfl hl.1 rfl (lv_room (Nat.le_of_ble_eq_true rfl)) dX1_size_2 ⟨Nat.le_of_ble_eq_true rfl, Nat.le_of_ble_eq_true rfl⟩) ?_
    refine q_topn (qRow_n w0 w1 w2) ?_
    refine lv_astore_nN (lv' := [(2, .null), (0, .ref x0), (1, .int p0)]) hx hb dX1_size_5 rfl hl (by decide) rfl (fun ls hl => ?_)
    refine lv_aload_nN hx hb dX1_size_6 rfl (lv_at hl 0 rfl) ?_
    refine lv_ifnonnullN hx hb dX1_size_7 ?_
    refine lv_iconst (v := -1) hx hb dX1_size_10 (by decide) ?_
    refine lv_goto (tgt := 18) hx hb dX1_size_11 (by decide) ?_
    exact W.iret (v := -1) hx hb hr (fun t ht hW => ⟨-1, rfl, (by simp only [qSize, if_neg w0, if_neg w1, if_neg w2]), ht⟩) (fun q h => by cases h) dX1_size_18
end
section
set_option maxHeartbeats 4000000 in
set_option maxRecDepth 100000 in
theorem c_Hall_clear (l : Launch) (dC : Nat → ClassId) (dI : Nat → Nat → Nat) (sz : Nat) (x0 a1 b1 a2 b2 a3 b3 nh nr nk : Nat) (cA : ClassId) (fh gh fr gr fk gk : Nat → Int32) (fi me : Int32) (p0 : Int32) (hn : nh + nr + nk < 2000) (ha1 : qAg nh fh gh) (ha2 : qAg nr fr gr) (ha3 : qAg nk fk gk) (hF : qFok fi me nk) : Met l yX1_clear wsX1_clear ({ frames := 2, cells := 0, slots := 0, locals := 58 }) (va_Pc [.ref x0, .int p0] (fun U => U.heap.size = sz ∧ va_P (dC, dI) vwCl [(x0, .inr (1, [.ref a1, .ref a2, .ref a3, .int fi, .int me])), (a1, .inr (0, [.ref b1, .int (nI nh)])), (b1, .inl (cA, 2100, .inl fh)), (a2, .inr (0, [.ref b2, .int (nI nr)])), (b2, .inl (cA, 2100, .inl fr)), (a3, .inr (0, [.ref b3, .int (nI nk)])), (b3, .inl (cA, 2100, .inl fk))] U.heap ∧ va_K (dC, dI) vwCl [(cA, .int)] U ∧ va_D (fun _ => True) [(x0, .inr (1, [.ref a1, .ref a2, .ref a3, .int fi, .int me])), (a1, .inr (0, [.ref b1, .int (nI nh)])), (b1, .inl (cA, 2100, .inl fh)), (a2, .inr (0, [.ref b2, .int (nI nr)])), (b2, .inl (cA, 2100, .inl fr)), (a3, .inr (0, [.ref b3, .int (nI nk)])), (b3, .inl (cA, 2100, .inl fk))] ∧ qNest U)) (va_Qi (fun (r : Int32) (u : qS) => (r, u) = qClear p0 ((gh, nh), (gr, nr), (gk, nk), fi, me)) (at_H dC dI (va_A [(x0, .inr (1, [.ref a1, .ref a2, .ref a3, .int fi, .int me])), (a1, .inr (0, [.ref b1, .int (nI nh)])), (b1, .inl (cA, 2100, .inl fh)), (a2, .inr (0, [.ref b2, .int (nI nr)])), (b2, .inl (cA, 2100, .inl fr)), (a3, .inr (0, [.ref b3, .int (nI nk)])), (b3, .inl (cA, 2100, .inl fk))] sz) x0 a1 b1 a2 b2 a3 b3 cA) (va_A [(x0, .inr (1, [.ref a1, .ref a2, .ref a3, .int fi, .int me])), (a1, .inr (0, [.ref b1, .int (nI nh)])), (b1, .inl (cA, 2100, .inl fh)), (a2, .inr (0, [.ref b2, .int (nI nr)])), (b2, .inl (cA, 2100, .inl fr)), (a3, .inr (0, [.ref b3, .int (nI nk)])), (b3, .inl (cA, 2100, .inl fk))] sz)) 0 0 (va_A [(x0, .inr (1, [.ref a1, .ref a2, .ref a3, .int fi, .int me])), (a1, .inr (0, [.ref b1, .int (nI nh)])), (b1, .inl (cA, 2100, .inl fh)), (a2, .inr (0, [.ref b2, .int (nI nr)])), (b2, .inl (cA, 2100, .inl fr)), (a3, .inr (0, [.ref b3, .int (nI nk)])), (b3, .inl (cA, 2100, .inl fk))] sz) := by
  refine Met.ofW (cc := cX1_clear) (maxL := 4) (ret := (some .int)) (by decide +kernel) rfl ?_
  intro p e s m args below meth c s₁ B hml hv
  obtain ⟨rfl, hsz, hP, hK, hD0, hN⟩ := hv
  have hx := B.exec
  have hb := B.bytes
  have hr := B.returns
  have hts := atoms_spec (ws := wsX1_clear) B.pre
  have hown : s.vm.findClass RX1 = some m.cls := findClass_of_methodNamed B.named
  have hlocks := B.notSynchronized
  subst hsz
  have hD := hD0.self (sz := s.heap.size)
  generalize hAe : va_A [(x0, .inr (1, [.ref a1, .ref a2, .ref a3, .int fi, .int me])), (a1, .inr (0, [.ref b1, .int (nI nh)])), (b1, .inl (cA, 2100, .inl fh)), (a2, .inr (0, [.ref b2, .int (nI nr)])), (b2, .inl (cA, 2100, .inl fr)), (a3, .inr (0, [.ref b3, .int (nI nk)])), (b3, .inl (cA, 2100, .inl fk))] s.heap.size = A at hD ⊢
  have hA : ∀ q : Nat, s.heap.size ≤ q → A q := fun q h => by rw [← hAe]; exact Or.inr h
  have hS : va_S A s.heap s.heap [] := va_S.rf
  have hl := lv_entry ([.ref x0, .int p0]) (n := 4) (Nat.le_of_ble_eq_true rfl)
  rw [lg_entry_eq]
  generalize (lg_sl ([.ref x0, .int p0]) ++ List.replicate (4 - (lg_sl ([.ref x0, .int p0])).length) Slot.unset).toArray = ls at hl ⊢
  have hl : lv_has ls 4 [(0, .ref x0), (1, .int p0)] := hl
  rcases q_w p0 with rfl | rfl | rfl | ⟨w0, w1, w2⟩
  · refine lv_aload_n hx hb dX1_clear_0 rfl (lv_at hl 0 rfl) ?_
    refine lv_iload_n hx hb dX1_clear_1 rfl (lv_at hl 1 rfl) ?_
    have hPc := hP.sub (ws' := [(x0, .inr (1, [.ref a1, .ref a2, .ref a3, .int fi, .int me]))]) [0] rfl
    have hKc := hK.sub (tys' := []) [] rfl
    refine q_csqE (va_runV (As := [.int 0]) (rest := []) ⟨hx, hb, hml, hown, hts⟩ (c_Hall_rowOf l dC dI x0 a1 a2 a3 fi me 0) (cwV 1 hts gX1_clear_X1_rowOf_v rfl rfl rfl (by decide +kernel) ⟨Nat.le_of_ble_eq_true rfl, Nat.le_of_ble_eq_true rfl⟩) ⟨q_blR, va_recv hKc hPc (ci := 1) (q0 := 0) rfl rfl, fun U hU hW => ⟨rfl, by rw [hU]; exact hPc, va_K.moved hW.alike hKc⟩⟩ rfl rfl hl.1 rfl (lv_room (Nat.le_of_ble_eq_true rfl)) dX1_clear_2 ⟨Nat.le_of_ble_eq_true rfl, Nat.le_of_ble_eq_true rfl⟩) ?_
    refine q_topr qRow_0 ?_
    refine lv_astore_n (lv' := [(2, .ref a1), (0, .ref x0), (1, .int 0)]) hx hb dX1_clear_5 rfl hl (by decide) rfl (fun ls hl => ?_)
    refine lv_aload_n hx hb dX1_clear_6 rfl (lv_at hl 0 rfl) ?_
    refine lv_ifnonnull (tgt := 12) hx hb dX1_clear_7 (by decide) ?_
    refine lv_aload_n hx hb dX1_clear_12 rfl (lv_at hl 0 rfl) ?_
    have hPc := hP.sub (ws' := [(a1, .inr (0, [.ref b1, .int (nI nh)])), (b1, .inl (cA, 2100, .inl fh))]) [1, 2] rfl
    have hKc := hK.sub (tys' := [(cA, .int)]) [0] rfl
    have hDc := hD.sub (ws' := [(a1, .inr (0, [.ref b1, .int (nI nh)])), (b1, .inl (cA, 2100, .inl fh))]) [1, 2] (by decide) rfl
    have hFc := va_free (wc := [(a1, .inr (0, [.ref b1, .int (nI nh)])), (b1, .inl (cA, 2100, .inl fh))]) hD hS hA [1, 2] rfl
    refine va_calli (va_runVN (As := []) (rest := []) ⟨hx, hb, hml, hown, hts⟩ (c_Row_wipe l dC dI s.heap.size a1 b1 nh cA fh gh ha1) ⟨va_cnB 0 hts gX1_clear_X0_wipe rfl rfl rfl (qN_wipe hN) (hts (.initialized RX0) (List.mem_of_getElem? (i := 11) (by decide +kernel))) (by decide +kernel) ⟨Nat.le_of_ble_eq_true rfl, Nat.le_of_ble_eq_true rfl⟩, (hts (.instanceMethod yX0_wipe) (List.mem_of_getElem? (i := 9) (by decide +kernel))), (hts (.selects RX0 yX0_wipe yX0_wipe) (List.mem_of_getElem? (i := 10) (by decide +kernel)))⟩ ⟨q_blW, va_recv hKc hPc (ci := 0) (q0 := 0) rfl rfl, fun U hU hW => ⟨rfl, by rw [hU], by rw [hU]; exact hPc, va_K.moved hW.alike hKc, hDc.weaken (fun _ _ _ _ => trivial)⟩⟩ rfl rfl hl.1 rfl (lv_room (Nat.le_of_ble_eq_true rfl)) dX1_clear_13 ⟨Nat.le_of_ble_eq_true rfl, Nat.le_of_ble_eq_true rfl⟩) hS (fun q _ h => hFc q h) hFc (fun r_1 u_1 t_1 H1 locs ht hvm hw hB hz1 hk1 hS => ?_)
    obtain ⟨rfl, rfl⟩ := Prod.mk.inj hw
    obtain ⟨f_1, hg_1, hP1, hK1, hD1⟩ := hB
    rw [ht] at hP1
    obtain ⟨hP, hD⟩ := q_join (wr := [(x0, .inr (1, [.ref a1, .ref a2, .ref a3, .int fi, .int me])), (a2, .inr (0, [.ref b2, .int (nI nr)])), (b2, .inl (cA, 2100, .inl fr)), (a3, .inr (0, [.ref b3, .int (nI nk)])), (b3, .inl (cA, 2100, .inl fk))]) (w1 := [(a1, .inr (0, [.ref b1, .int (nI 0)])), (b1, .inl (cA, 2100, .inl f_1))]) (wz := [(x0, .inr (1, [.ref a1, .ref a2, .ref a3, .int fi, .int me])), (a1, .inr (0, [.ref b1, .int (nI 0)])), (b1, .inl (cA, 2100, .inl f_1)), (a2, .inr (0, [.ref b2, .int (nI nr)])), (b2, .inl (cA, 2100, .inl fr)), (a3, .inr (0, [.ref b3, .int (nI nk)])), (b3, .inl (cA, 2100, .inl fk))]) hP hD [1, 2] [0, 3, 4, 5, 6] [0, 5, 6, 1, 2, 3, 4] rfl rfl (by decide) (by decide) hk1 hFc hP1 hD1 rfl rfl (by decide)
    generalize H1 = H at hP hS ⊢
    refine lv_istore_n (lv' := [(3, .int (nI nh)), (2, .ref a1), (0, .ref x0), (1, .int 0)]) hx hb dX1_clear_16 rfl hl (by decide) rfl (fun ls hl => ?_)
    refine lv_aload_n hx hb dX1_clear_17 rfl (lv_at hl 1 rfl) ?_
    refine lv_aload_n hx hb dX1_clear_18 rfl (lv_at hl 2 rfl) ?_
    refine va_get (D := (dC, dI)) (ci := 1) (v := .ref a3) (C := RX1) (T := TX1) (N := 5) hx hb hts inX1_clear_X1 hown hK hP 0 rfl rfl 2 (by decide) (hts (.fieldLink RX1 19 "QueueHall" "chainRow" "LQueueHall$Row;") (List.mem_of_getElem? (i := 8) (by decide +kernel))) (fun _ h9 => h9) rfl dX1_clear_19 ?_
    refine lv_acmp_ne (rx := some a1) (ry := some a3) (tgt := 33) hx hb dX1_clear_22 (by decide) (fun _ => ?_) (fun c_0 => absurd (Option.some.inj c_0) (fun q => absurd (hD.1 1 5 _ _ rfl rfl q) (by decide)))
    refine lv_iload_n hx hb dX1_clear_33 rfl (lv_at hl 0 rfl) ?_
    exact W.iret (v := nI nh) hx hb hr (fun t ht hW => ⟨⟨nI nh, ((gh, 0), (gr, nr), (gk, nk), fi, me), rfl, (by simp only [qClear, if_pos True.intro]), f_1, fr, fk, hg_1, ha2, ha3, by rw [ht]; exact hP, va_K.moved hW.alike hK, hD⟩, hS.F ht⟩) hS.2.2 dX1_clear_34
  · refine lv_aload_n hx hb dX1_clear_0 rfl (lv_at hl 0 rfl) ?_
    refine lv_iload_n hx hb dX1_clear_1 rfl (lv_at hl 1 rfl) ?_
    have hPc := hP.sub (ws' := [(x0, .inr (1, [.ref a1, .ref a2, .ref a3, .int fi, .int me]))]) [0] rfl
    have hKc := hK.sub (tys' := []) [] rfl
    refine q_csqE (va_runV (As := [.int 1]) (rest := []) ⟨hx, hb, hml, hown, hts⟩ (c_Hall_rowOf l dC dI x0 a1 a2 a3 fi me 1) (cwV 1 hts gX1_clear_X1_rowOf_v rfl rfl rfl (by decide +kernel) ⟨Nat.le_of_ble_eq_true rfl, Nat.le_of_ble_eq_true rfl⟩) ⟨q_blR, va_recv hKc hPc (ci := 1) (q0 := 0) rfl rfl, fun U hU hW => ⟨rfl, by rw [hU]; exact hPc, va_K.moved hW.alike hKc⟩⟩ rfl rfl hl.1 rfl (lv_room (Nat.le_of_ble_eq_true rfl)) dX1_clear_2 ⟨Nat.le_of_ble_eq_true rfl, Nat.le_of_ble_eq_true rfl⟩) ?_
    refine q_topr qRow_1 ?_
    refine lv_astore_n (lv' := [(2, .ref a2), (0, .ref x0), (1, .int 1)]) hx hb dX1_clear_5 rfl hl (by decide) rfl (fun ls hl => ?_)
    refine lv_aload_n hx hb dX1_clear_6 rfl (lv_at hl 0 rfl) ?_
    refine lv_ifnonnull (tgt := 12) hx hb dX1_clear_7 (by decide) ?_
    refine lv_aload_n hx hb dX1_clear_12 rfl (lv_at hl 0 rfl) ?_
    have hPc := hP.sub (ws' := [(a2, .inr (0, [.ref b2, .int (nI nr)])), (b2, .inl (cA, 2100, .inl fr))]) [3, 4] rfl
    have hKc := hK.sub (tys' := [(cA, .int)]) [0] rfl
    have hDc := hD.sub (ws' := [(a2, .inr (0, [.ref b2, .int (nI nr)])), (b2, .inl (cA, 2100, .inl fr))]) [3, 4] (by decide) rfl
    have hFc := va_free (wc := [(a2, .inr (0, [.ref b2, .int (nI nr)])), (b2, .inl (cA, 2100, .inl fr))]) hD hS hA [3, 4] rfl
    refine va_calli (va_runVN (As := []) (rest := []) ⟨hx, hb, hml, hown, hts⟩ (c_Row_wipe l dC dI s.heap.size a2 b2 nr cA fr gr ha2) ⟨va_cnB 0 hts gX1_clear_X0_wipe rfl rfl rfl (qN_wipe hN) (hts (.initialized RX0) (List.mem_of_getElem? (i := 11) (by decide +kernel))) (by decide +kernel) ⟨Nat.le_of_ble_eq_true rfl, Nat.le_of_ble_eq_true rfl⟩, (hts (.instanceMethod yX0_wipe) (List.mem_of_getElem? (i := 9) (by decide +kernel))), (hts (.selects RX0 yX0_wipe yX0_wipe) (List.mem_of_getElem? (i := 10) (by decide +kernel)))⟩ ⟨q_blW, va_recv hKc hPc (ci := 0) (q0 := 0) rfl rfl, fun U hU hW => ⟨rfl, by rw [hU], by rw [hU]; exact hPc, va_K.moved hW.alike hKc, hDc.weaken (fun _ _ _ _ => trivial)⟩⟩ rfl rfl hl.1 rfl (lv_room (Nat.le_of_ble_eq_true rfl)) dX1_clear_13 ⟨Nat.le_of_ble_eq_true rfl, Nat.le_of_ble_eq_true rfl⟩) hS (fun q _ h => hFc q h) hFc (fun r_2 u_2 t_2 H1 locs ht hvm hw hB hz1 hk1 hS => ?_)
    obtain ⟨rfl, rfl⟩ := Prod.mk.inj hw
    obtain ⟨f_2, hg_2, hP1, hK1, hD1⟩ := hB
    rw [ht] at hP1
    obtain ⟨hP, hD⟩ := q_join (wr := [(x0, .inr (1, [.ref a1, .ref a2, .ref a3, .int fi, .int me])), (a1, .inr (0, [.ref b1, .int (nI nh)])), (b1, .inl (cA, 2100, .inl fh)), (a3, .inr (0, [.ref b3, .int (nI nk)])), (b3, .inl (cA, 2100, .inl fk))]) (w1 := [(a2, .inr (0, [.ref b2, .int (nI 0)])), (b2, .inl (cA, 2100, .inl f_2))]) (wz := [(x0, .inr (1, [.ref a1, .ref a2, .ref a3, .int fi, .int me])), (a1, .inr (0, [.ref b1, .int (nI nh)])), (b1, .inl (cA, 2100, .inl fh)), (a2, .inr (0, [.ref b2, .int (nI 0)])), (b2, .inl (cA, 2100, .inl f_2)), (a3, .inr (0, [.ref b3, .int (nI nk)])), (b3, .inl (cA, 2100, .inl fk))]) hP hD [3, 4] [0, 1, 2, 5, 6] [0, 1, 2, 5, 6, 3, 4] rfl rfl (by decide) (by decide) hk1 hFc hP1 hD1 rfl rfl (by decide)
    generalize H1 = H at hP hS ⊢
    refine lv_istore_n (lv' := [(3, .int (nI nr)), (2, .ref a2), (0, .ref x0), (1, .int 1)]) hx hb dX1_clear_16 rfl hl (by decide) rfl (fun ls hl => ?_)
    refine lv_aload_n hx hb dX1_clear_17 rfl (lv_at hl 1 rfl) ?_
    refine lv_aload_n hx hb dX1_clear_18 rfl (lv_at hl 2 rfl) ?_
    refine va_get (D := (dC, dI)) (ci := 1) (v := .ref a3) (C := RX1) (T := TX1) (N := 5) hx hb hts inX1_clear_X1 hown hK hP 0 rfl rfl 2 (by decide) (hts (.fieldLink RX1 19 "QueueHall" "chainRow" "LQueueHall$Row;") (List.mem_of_getElem? (i := 8) (by decide +kernel))) (fun _ h9 => h9) rfl dX1_clear_19 ?_
    refine lv_acmp_ne (rx := some a2) (ry := some a3) (tgt := 33) hx hb dX1_clear_22 (by decide) (fun _ => ?_) (fun c_0 => absurd (Option.some.inj c_0) (fun q => absurd (hD.1 3 5 _ _ rfl rfl q) (by decide)))
    refine lv_iload_n hx hb dX1_clear_33 rfl (lv_at hl 0 rfl) ?_
    exact W.iret (v := nI nr) hx hb hr (fun t ht hW => ⟨⟨nI nr, ((gh, nh), (gr, 0), (gk, nk), fi, me), rfl, (by simp only [qClear, if_neg (show ¬ (1 : Int32) = 0 by decide), if_pos True.intro]), fh, f_2, fk, ha1, hg_2, ha3, by rw [ht]; exact hP, va_K.moved hW.alike hK, hD⟩, hS.F ht⟩) hS.2.2 dX1_clear_34
  · refine lv_aload_n hx hb dX1_clear_0 rfl (lv_at hl 0 rfl) ?_
    refine lv_iload_n hx hb dX1_clear_1 rfl (lv_at hl 1 rfl) ?_
    have hPc := hP.sub (ws' := [(x0, .inr (1, [.ref a1, .ref a2, .ref a3, .int fi, .int me]))]) [0] rfl
    have hKc := hK.sub (tys' := []) [] rfl
    refine q_csqE (va_runV (As := [.int 2]) (rest := []) ⟨hx, hb, hml, hown, hts⟩ (c_Hall_rowOf l dC dI x0 a1 a2 a3 fi me 2) (cwV 1 hts gX1_clear_X1_rowOf_v rfl rfl rfl (by decide +kernel) ⟨Nat.le_of_ble_eq_true rfl, Nat.le_of_ble_eq_true rfl⟩) ⟨q_blR, va_recv hKc hPc (ci := 1) (q0 := 0) rfl rfl, fun U hU hW => ⟨rfl, by rw [hU]; exact hPc, va_K.moved hW.alike hKc⟩⟩ rfl rfl hl.1 rfl (lv_room (Nat.le_of_ble_eq_true rfl)) dX1_clear_2 ⟨Nat.le_of_ble_eq_true rfl, Nat.le_of_ble_eq_true rfl⟩) ?_
    refine q_topr qRow_2 ?_
    refine lv_astore_n (lv' := [(2, .ref a3), (0, .ref x0), (1, .int 2)]) hx hb dX1_clear_5 rfl hl (by decide) rfl (fun ls hl => ?_)
    refine lv_aload_n hx hb dX1_clear_6 rfl (lv_at hl 0 rfl) ?_
    refine lv_ifnonnull (tgt := 12) hx hb dX1_clear_7 (by decide) ?_
    refine lv_aload_n hx hb dX1_clear_12 rfl (lv_at hl 0 rfl) ?_
    have hPc := hP.sub (ws' := [(a3, .inr (0, [.ref b3, .int (nI nk)])), (b3, .inl (cA, 2100, .inl fk))]) [5, 6] rfl
    have hKc := hK.sub (tys' := [(cA, .int)]) [0] rfl
    have hDc := hD.sub (ws' := [(a3, .inr (0, [.ref b3, .int (nI nk)])), (b3, .inl (cA, 2100, .inl fk))]) [5, 6] (by decide) rfl
    have hFc := va_free (wc := [(a3, .inr (0, [.ref b3, .int (nI nk)])), (b3, .inl (cA, 2100, .inl fk))]) hD hS hA [5, 6] rfl
    refine va_calli (va_runVN (As := []) (rest := []) ⟨hx, hb, hml, hown, hts⟩ (c_Row_wipe l dC dI s.heap.size a3 b3 nk cA fk gk ha3) ⟨va_cnB 0 hts gX1_clear_X0_wipe rfl rfl rfl (qN_wipe hN) (hts (.initialized RX0) (List.mem_of_getElem? (i := 11) (by decide +kernel))) (by decide +kernel) ⟨Nat.le_of_ble_eq_true rfl, Nat.le_of_ble_eq_true rfl⟩, (hts (.instanceMethod yX0_wipe) (List.mem_of_getElem? (i := 9) (by decide +kernel))), (hts (.selects RX0 yX0_wipe yX0_wipe) (List.mem_of_getElem? (i := 10) (by decide +kernel)))⟩ ⟨q_blW, va_recv hKc hPc (ci := 0) (q0 := 0) rfl rfl, fun U hU hW => ⟨rfl, by rw [hU], by rw [hU]; exact hPc, va_K.moved hW.alike hKc, hDc.weaken (fun _ _ _ _ => trivial)⟩⟩ rfl rfl hl.1 rfl (lv_room (Nat.le_of_ble_eq_true rfl)) dX1_clear_13 ⟨Nat.le_of_ble_eq_true rfl, Nat.le_of_ble_eq_true rfl⟩) hS (fun q _ h => hFc q h) hFc (fun r_3 u_3 t_3 H1 locs ht hvm hw hB hz1 hk1 hS => ?_)
    obtain ⟨rfl, rfl⟩ := Prod.mk.inj hw
    obtain ⟨f_3, hg_3, hP1, hK1, hD1⟩ := hB
    rw [ht] at hP1
    obtain ⟨hP, hD⟩ := q_join (wr := [(x0, .inr (1, [.ref a1, .ref a2, .ref a3, .int fi, .int me])), (a1, .inr (0, [.ref b1, .int (nI nh)])), (b1, .inl (cA, 2100, .inl fh)), (a2, .inr (0, [.ref b2, .int (nI nr)])), (b2, .inl (cA, 2100, .inl fr))]) (w1 := [(a3, .inr (0, [.ref b3, .int (nI 0)])), (b3, .inl (cA, 2100, .inl f_3))]) (wz := [(x0, .inr (1, [.ref a1, .ref a2, .ref a3, .int fi, .int me])), (a1, .inr (0, [.ref b1, .int (nI nh)])), (b1, .inl (cA, 2100, .inl fh)), (a2, .inr (0, [.ref b2, .int (nI nr)])), (b2, .inl (cA, 2100, .inl fr)), (a3, .inr (0, [.ref b3, .int (nI 0)])), (b3, .inl (cA, 2100, .inl f_3))]) hP hD [5, 6] [0, 1, 2, 3, 4] [0, 1, 2, 3, 4, 5, 6] rfl rfl (by decide) (by decide) hk1 hFc hP1 hD1 rfl rfl (by decide)
    generalize H1 = H at hP hS ⊢
    refine lv_istore_n (lv' := [(3, .int (nI nk)), (2, .ref a3), (0, .ref x0), (1, .int 2)]) hx hb dX1_clear_16 rfl hl (by decide) rfl (fun ls hl => ?_)
    refine lv_aload_n hx hb dX1_clear_17 rfl (lv_at hl 1 rfl) ?_
    refine lv_aload_n hx hb dX1_clear_18 rfl (lv_at hl 2 rfl) ?_
    refine va_get (D := (dC, dI)) (ci := 1) (v := .ref a3) (C := RX1) (T := TX1) (N := 5) hx hb hts inX1_clear_X1 hown hK hP 0 rfl rfl 2 (by decide) (hts (.fieldLink RX1 19 "QueueHall" "chainRow" "LQueueHall$Row;") (List.mem_of_getElem? (i := 8) (by decide +kernel))) (fun _ h9 => h9) rfl dX1_clear_19 ?_
    refine lv_acmp_ne (rx := some a3) (ry := some a3) (tgt := 33) hx hb dX1_clear_22 (by decide) (fun c_0 => absurd rfl c_0) (fun _ => ?_)
    refine lv_iload_n hx hb dX1_clear_25 rfl (lv_at hl 0 rfl) ?_
    refine lv_if_le (tgt := 33) hx hb dX1_clear_26 (by decide) (fun c_4 => ?_) (fun c_4 => ?_)
    · have k_4 : nk ≤ 0 := by
        simp (disch := omega) only [ti_lt, ti_le, ti_eq, ti_0, ti_1, ti_2, ti_m1, ti_100, ti_2000, nI_toInt] at c_4
        omega
      refine lv_iload_n hx hb dX1_clear_33 rfl (lv_at hl 0 rfl) ?_
      exact W.iret (v := nI nk) hx hb hr (fun t ht hW => ⟨⟨nI nk, ((gh, nh), (gr, nr), (gk, 0), fi, me), rfl, (by simp only [qClear, if_neg (show ¬ (2 : Int32) = 0 by decide), if_neg (show ¬ (2 : Int32) = 1 by decide), if_pos True.intro, if_neg (show ¬ 0 < nk by omega)]), fh, fr, f_3, ha1, ha2, hg_3, by rw [ht]; exact hP, va_K.moved hW.alike hK, hD⟩, hS.F ht⟩) hS.2.2 dX1_clear_34
    · have k_4 : nk > 0 := by
        simp (disch := omega) only [ti_lt, ti_le, ti_eq, ti_0, ti_1, ti_2, ti_m1, ti_100, ti_2000, nI_toInt] at c_4
        omega
      refine lv_aload_n hx hb dX1_clear_29 rfl (lv_at hl 2 rfl) ?_
      have hPc := hP.sub (ws' := [(x0, .inr (1, [.ref a1, .ref a2, .ref a3, .int fi, .int me]))]) [0] rfl
      have hKc := hK.sub (tys' := []) [] rfl
      have hDc := hD.sub (ws' := [(x0, .inr (1, [.ref a1, .ref a2, .ref a3, .int fi, .int me]))]) [0] (by decide) rfl
      have hFc := va_free (wc := [(x0, .inr (1, [.ref a1, .ref a2, .ref a3, .int fi, .int me]))]) hD hS hA [0] rfl
      refine va_callv (va_runV (As := []) (rest := []) ⟨hx, hb, hml, hown, hts⟩ (c_Hall_liftFinger l dC dI H.size x0 a1 a2 a3 fi me) (cwV 0 hts gX1_clear_X1_liftFinger_v rfl rfl rfl (by decide +kernel) ⟨Nat.le_of_ble_eq_true rfl, Nat.le_of_ble_eq_true rfl⟩) ⟨q_blW, va_recv hKc hPc (ci := 1) (q0 := 0) rfl rfl, fun U hU hW => ⟨rfl, by rw [hU], by rw [hU]; exact hPc, va_K.moved hW.alike hKc, hDc.weaken (fun _ _ _ _ => trivial)⟩⟩ rfl rfl hl.1 rfl (lv_room (Nat.le_of_ble_eq_true rfl)) dX1_clear_30 ⟨Nat.le_of_ble_eq_true rfl, Nat.le_of_ble_eq_true rfl⟩) hS (fun q _ h => hFc q h) hFc (fun u_5 t_5 H1 locs ht hvm hw hB hz1 hk1 hS => ?_)
      subst hw
      obtain ⟨hP1, hK1, hD1⟩ := hB
      rw [ht] at hP1
      obtain ⟨hP, hD⟩ := q_join (wr := [(a1, .inr (0, [.ref b1, .int (nI nh)])), (b1, .inl (cA, 2100, .inl fh)), (a2, .inr (0, [.ref b2, .int (nI nr)])), (b2, .inl (cA, 2100, .inl fr)), (a3, .inr (0, [.ref b3, .int (nI 0)])), (b3, .inl (cA, 2100, .inl f_3))]) (w1 := [(x0, .inr (1, [.ref a1, .ref a2, .ref a3, .int (-1), .int (-1)]))]) (wz := [(x0, .inr (1, [.ref a1, .ref a2, .ref a3, .int (-1), .int (-1)])), (a1, .inr (0, [.ref b1, .int (nI nh)])), (b1, .inl (cA, 2100, .inl fh)), (a2, .inr (0, [.ref b2, .int (nI nr)])), (b2, .inl (cA, 2100, .inl fr)), (a3, .inr (0, [.ref b3, .int (nI 0)])), (b3, .inl (cA, 2100, .inl f_3))]) hP hD [0] [1, 2, 3, 4, 5, 6] [6, 0, 1, 2, 3, 4, 5] rfl rfl (by decide) (by decide) hk1 hFc hP1 hD1 rfl rfl (by decide)
      generalize H1 = H at hP hS ⊢
      refine lv_iload_n hx hb dX1_clear_33 rfl (lv_at hl 0 rfl) ?_
      exact W.iret (v := nI nk) hx hb hr (fun t ht hW => ⟨⟨nI nk, ((gh, nh), (gr, nr), (gk, 0), -1, -1), rfl, (by simp only [qClear, if_neg (show ¬ (2 : Int32) = 0 by decide), if_neg (show ¬ (2 : Int32) = 1 by decide), if_pos True.intro, if_pos (show 0 < nk by omega)]), fh, fr, f_3, ha1, ha2, hg_3, by rw [ht]; exact hP, va_K.moved hW.alike hK, hD⟩, hS.F ht⟩) hS.2.2 dX1_clear_34
  · refine lv_aload_n hx hb dX1_clear_0 rfl (lv_at hl 0 rfl) ?_
    refine lv_iload_n hx hb dX1_clear_1 rfl (lv_at hl 1 rfl) ?_
    have hPc := hP.sub (ws' := [(x0, .inr (1, [.ref a1, .ref a2, .ref a3, .int fi, .int me]))]) [0] rfl
    have hKc := hK.sub (tys' := []) [] rfl
    refine q_csqE (va_runV (As := [.int p0]) (rest := []) ⟨hx, hb, hml, hown, hts⟩ (c_Hall_rowOf l dC dI x0 a1 a2 a3 fi me p0) (cwV 1 hts gX1_clear_X1_rowOf_v rfl rfl rfl (by decide +kernel) ⟨Nat.le_of_ble_eq_true rfl, Nat.le_of_ble_eq_true rfl⟩) ⟨q_blR, va_recv hKc hPc (ci := 1) (q0 := 0) rfl rfl, fun U hU hW => ⟨rfl, by rw [hU]; exact hPc, va_K.moved hW.alike hKc⟩⟩ rfl rfl hl.1 rfl (lv_room (Nat.le_of_ble_eq_true rfl)) dX1_clear_2 ⟨Nat.le_of_ble_eq_true rfl, Nat.le_of_ble_eq_true rfl⟩) ?_
    refine q_topn (qRow_n w0 w1 w2) ?_
    refine lv_astore_nN (lv' := [(2, .null), (0, .ref x0), (1, .int p0)]) hx hb dX1_clear_5 rfl hl (by decide) rfl (fun ls hl => ?_)
    refine lv_aload_nN hx hb dX1_clear_6 rfl (lv_at hl 0 rfl) ?_
    refine lv_ifnonnullN hx hb dX1_clear_7 ?_
    refine lv_iconst (v := -1) hx hb dX1_clear_10 (by decide) ?_
    exact W.iret (v := -1) hx hb hr (fun t ht hW => ⟨⟨-1, ((gh, nh), (gr, nr), (gk, nk), fi, me), rfl, (by simp only [qClear, if_neg w0, if_neg w1, if_neg w2]), fh, fr, fk, ha1, ha2, ha3, by rw [ht]; exact hP, va_K.moved hW.alike hK, hD⟩, hS.F ht⟩) hS.2.2 dX1_clear_11

set_option maxHeartbeats 4000000 in
set_option maxRecDepth 100000 in
theorem c_Hall_join (l : Launch) (dC : Nat → ClassId) (dI : Nat → Nat → Nat) (sz : Nat) (x0 a1 b1 a2 b2 a3 b3 nh nr nk : Nat) (cA : ClassId) (fh gh fr gr fk gk : Nat → Int32) (fi me : Int32) (p0 p1 : Int32) (hn : nh + nr + nk < 2000) (ha1 : qAg nh fh gh) (ha2 : qAg nr fr gr) (ha3 : qAg nk fk gk) (hF : qFok fi me nk) : Met l yX1_join wsX1_join ({ frames := 2, cells := 0, slots := 0, locals := 58 }) (va_Pc [.ref x0, .int p0, .int p1] (fun U => U.heap.size = sz ∧ va_P (dC, dI) vwCl [(x0, .inr (1, [.ref a1, .ref a2, .ref a3, .int fi, .int me])), (a1, .inr (0, [.ref b1, .int (nI nh)])), (b1, .inl (cA, 2100, .inl fh)), (a2, .inr (0, [.ref b2, .int (nI nr)])), (b2, .inl (cA, 2100, .inl fr)), (a3, .inr (0, [.ref b3, .int (nI nk)])), (b3, .inl (cA, 2100, .inl fk))] U.heap ∧ va_K (dC, dI) vwCl [(cA, .int)] U ∧ va_D (fun _ => True) [(x0, .inr (1, [.ref a1, .ref a2, .ref a3, .int fi, .int me])), (a1, .inr (0, [.ref b1, .int (nI nh)])), (b1, .inl (cA, 2100, .inl fh)), (a2, .inr (0, [.ref b2, .int (nI nr)])), (b2, .inl (cA, 2100, .inl fr)), (a3, .inr (0, [.ref b3, .int (nI nk)])), (b3, .inl (cA, 2100, .inl fk))] ∧ qNest U)) (va_Qi (fun (r : Int32) (u : qS) => (r, u) = qJoin p0 p1 ((gh, nh), (gr, nr), (gk, nk), fi, me)) (at_H dC dI (va_A [(x0, .inr (1, [.ref a1, .ref a2, .ref a3, .int fi, .int me])), (a1, .inr (0, [.ref b1, .int (nI nh)])), (b1, .inl (cA, 2100, .inl fh)), (a2, .inr (0, [.ref b2, .int (nI nr)])), (b2, .inl (cA, 2100, .inl fr)), (a3, .inr (0, [.ref b3, .int (nI nk)])), (b3, .inl (cA, 2100, .inl fk))] sz) x0 a1 b1 a2 b2 a3 b3 cA) (va_A [(x0, .inr (1, [.ref a1, .ref a2, .ref a3, .int fi, .int me])), (a1, .inr (0, [.ref b1, .int (nI nh)])), (b1, .inl (cA, 2100, .inl fh)), (a2, .inr (0, [.ref b2, .int (nI nr)])), (b2, .inl (cA, 2100, .inl fr)), (a3, .inr (0, [.ref b3, .int (nI nk)])), (b3, .inl (cA, 2100, .inl fk))] sz)) 0 0 (va_A [(x0, .inr (1, [.ref a1, .ref a2, .ref a3, .int fi, .int me])), (a1, .inr (0, [.ref b1, .int (nI nh)])), (b1, .inl (cA, 2100, .inl fh)), (a2, .inr (0, [.ref b2, .int (nI nr)])), (b2, .inl (cA, 2100, .inl fr)), (a3, .inr (0, [.ref b3, .int (nI nk)])), (b3, .inl (cA, 2100, .inl fk))] sz) := by
  refine Met.ofW (cc := cX1_join) (maxL := 3) (ret := (some .int)) (by decide +kernel) rfl ?_
  intro p e s m args below meth c s₁ B hml hv
  obtain ⟨rfl, hsz, hP, hK, hD0, hN⟩ := hv
  have hx := B.exec
  have hb := B.bytes
  have hr := B.returns
  have hts := atoms_spec (ws := wsX1_join) B.pre
  have hown : s.vm.findClass RX1 = some m.cls := findClass_of_methodNamed B.named
  have hlocks := B.notSynchronized
  subst hsz
  have hD := hD0.self (sz := s.heap.size)
  generalize hAe : va_A [(x0, .inr (1, [.ref a1, .ref a2, .ref a3, .int fi, .int me])), (a1, .inr (0, [.ref b1, .int (nI nh)])), (b1, .inl (cA, 2100, .inl fh)), (a2, .inr (0, [.ref b2, .int (nI nr)])), (b2, .inl (cA, 2100, .inl fr)), (a3, .inr (0, [.ref b3, .int (nI nk)])), (b3, .inl (cA, 2100, .inl fk))] s.heap.size = A at hD ⊢
  have hA : ∀ q : Nat, s.heap.size ≤ q → A q := fun q h => by rw [← hAe]; exact Or.inr h
  have hS : va_S A s.heap s.heap [] := va_S.rf
  have hl := lv_entry ([.ref x0, .int p0, .int p1]) (n := 3) (Nat.le_of_ble_eq_true rfl)
  rw [lg_entry_eq]
  generalize (lg_sl ([.ref x0, .int p0, .int p1]) ++ List.replicate (3 - (lg_sl ([.ref x0, .int p0, .int p1])).length) Slot.unset).toArray = ls at hl ⊢
  have hl : lv_has ls 3 [(0, .ref x0), (1, .int p0), (2, .int p1)] := hl
  by_cases hz : p1 = 0
  · refine lv_aload_n hx hb dX1_join_0 rfl (lv_at hl 0 rfl) ?_
    refine va_get (D := (dC, dI)) (ci := 1) (v := .ref a2) (C := RX1) (T := TX1) (N := 5) hx hb hts inX1_join_X1 hown hK hP 0 rfl rfl 1 (by decide) (hts (.fieldLink RX1 16 "QueueHall" "ringRow" "LQueueHall$Row;") (List.mem_of_getElem? (i := 1) (by decide +kernel))) (fun _ h9 => h9) rfl dX1_join_1 ?_
    refine lv_iload_n hx hb dX1_join_4 rfl (lv_at hl 2 rfl) ?_
    refine lv_if_eq (tgt := 12) hx hb dX1_join_5 (by decide) (fun c_1 => ?_) (fun c_0 => absurd (show p1 = (0 : Int32) from hz) c_0)
    refine lv_aload_n hx hb dX1_join_12 rfl (lv_at hl 0 rfl) ?_
    refine va_get (D := (dC, dI)) (ci := 1) (v := .ref a2) (C := RX1) (T := TX1) (N := 5) hx hb hts inX1_join_X1 hown hK hP 0 rfl rfl 1 (by decide) (hts (.fieldLink RX1 16 "QueueHall" "ringRow" "LQueueHall$Row;") (List.mem_of_getElem? (i := 1) (by decide +kernel))) (fun _ h9 => h9) rfl dX1_join_13 ?_
    refine va_getN (D := (dC, dI)) (ci := 0) (v := .int (nI nr)) (C := RX0) (T := TX0) (N := 2) hx hb hts inX1_join_X0 hown hK hP 3 rfl rfl 1 (by decide) (qN_count hN) (fun _ h9 => h9) rfl dX1_join_16 ?_
    refine lv_iload_n hx hb dX1_join_19 rfl (lv_at hl 1 rfl) ?_
    have hPc := hP.sub (ws' := [(a2, .inr (0, [.ref b2, .int (nI nr)])), (b2, .inl (cA, 2100, .inl fr))]) [3, 4] rfl
    have hKc := hK.sub (tys' := [(cA, .int)]) [0] rfl
    have hDc := hD.sub (ws' := [(a2, .inr (0, [.ref b2, .int (nI nr)])), (b2, .inl (cA, 2100, .inl fr))]) [3, 4] (by decide) rfl
    have hFc := va_free (wc := [(a2, .inr (0, [.ref b2, .int (nI nr)])), (b2, .inl (cA, 2100, .inl fr))]) hD hS hA [3, 4] rfl
    refine va_calli (va_runVN (As := [.int (nI nr), .int p0]) (rest := []) ⟨hx, hb, hml, hown, hts⟩ (c_Row_put l dC dI s.heap.size a2 b2 nr cA fr gr (nI nr) p0 (by omega) ha2) ⟨va_cnB 2 hts gX1_join_X0_put rfl rfl rfl (qN_put hN) (hts (.initialized RX0) (List.mem_of_getElem? (i := 4) (by decide +kernel))) (by decide +kernel) ⟨Nat.le_of_ble_eq_true rfl, Nat.le_of_ble_eq_true rfl⟩, (hts (.instanceMethod yX0_put) (List.mem_of_getElem? (i := 2) (by decide +kernel))), (hts (.selects RX0 yX0_put yX0_put) (List.mem_of_getElem? (i := 3) (by decide +kernel)))⟩ ⟨q_blW, va_recv hKc hPc (ci := 0) (q0 := 0) rfl rfl, fun U hU hW => ⟨rfl, by rw [hU], by rw [hU]; exact hPc, va_K.moved hW.alike hKc, hDc.weaken (fun _ _ _ _ => trivial)⟩⟩ rfl rfl hl.1 rfl (lv_room (Nat.le_of_ble_eq_true rfl)) dX1_join_20 ⟨Nat.le_of_ble_eq_true rfl, Nat.le_of_ble_eq_true rfl⟩) hS (fun q _ h => hFc q h) hFc (fun r_2 u_2 t_2 H1 locs ht hvm hw hB hz1 hk1 hS => ?_)
    have hw := hw.trans (qPut_i (k := nr) (by omega) (by omega))
    obtain ⟨rfl, rfl⟩ := Prod.mk.inj hw
    obtain ⟨f_2, hg_2, hP1, hK1, hD1⟩ := hB
    rw [ht] at hP1
    obtain ⟨hP, hD⟩ := q_join (wr := [(x0, .inr (1, [.ref a1, .ref a2, .ref a3, .int fi, .int me])), (a1, .inr (0, [.ref b1, .int (nI nh)])), (b1, .inl (cA, 2100, .inl fh)), (a3, .inr (0, [.ref b3, .int (nI nk)])), (b3, .inl (cA, 2100, .inl fk))]) (w1 := [(a2, .inr (0, [.ref b2, .int (nI (nr + 1))])), (b2, .inl (cA, 2100, .inl f_2))]) (wz := [(x0, .inr (1, [.ref a1, .ref a2, .ref a3, .int fi, .int me])), (a1, .inr (0, [.ref b1, .int (nI nh)])), (b1, .inl (cA, 2100, .inl fh)), (a2, .inr (0, [.ref b2, .int (nI (nr + 1))])), (b2, .inl (cA, 2100, .inl f_2)), (a3, .inr (0, [.ref b3, .int (nI nk)])), (b3, .inl (cA, 2100, .inl fk))]) hP hD [3, 4] [0, 1, 2, 5, 6] [0, 1, 2, 5, 6, 3, 4] rfl rfl (by decide) (by decide) hk1 hFc hP1 hD1 rfl rfl (by decide)
    generalize H1 = H at hP hS ⊢
    refine lv_if_eq (tgt := 36) hx hb dX1_join_23 (by decide) (fun c_0 => absurd c_0 (show ¬ (1 : Int32) = (0 : Int32) from (by decide))) (fun c_3 => ?_)
    refine lv_aload_n hx hb dX1_join_26 rfl (lv_at hl 0 rfl) ?_
    refine va_get (D := (dC, dI)) (ci := 1) (v := .ref a2) (C := RX1) (T := TX1) (N := 5) hx hb hts inX1_join_X1 hown hK hP 0 rfl rfl 1 (by decide) (hts (.fieldLink RX1 16 "QueueHall" "ringRow" "LQueueHall$Row;") (List.mem_of_getElem? (i := 1) (by decide +kernel))) (fun _ h9 => h9) rfl dX1_join_27 ?_
    refine va_getN (D := (dC, dI)) (ci := 0) (v := .int (nI (nr + 1))) (C := RX0) (T := TX0) (N := 2) hx hb hts inX1_join_X0 hown hK hP 3 rfl rfl 1 (by decide) (qN_count hN) (fun _ h9 => h9) rfl dX1_join_30 ?_
    refine lv_goto (tgt := 38) hx hb dX1_join_33 (by decide) ?_
    exact W.iret (v := nI (nr + 1)) hx hb hr (fun t ht hW => ⟨⟨nI (nr + 1), ((gh, nh), (qIns gr nr p0, nr + 1), (gk, nk), fi, me), rfl, (by simp only [qJoin, if_pos hz]), fh, f_2, fk, ha1, hg_2, ha3, by rw [ht]; exact hP, va_K.moved hW.alike hK, hD⟩, hS.F ht⟩) hS.2.2 dX1_join_38
  · refine lv_aload_n hx hb dX1_join_0 rfl (lv_at hl 0 rfl) ?_
    refine va_get (D := (dC, dI)) (ci := 1) (v := .ref a2) (C := RX1) (T := TX1) (N := 5) hx hb hts inX1_join_X1 hown hK hP 0 rfl rfl 1 (by decide) (hts (.fieldLink RX1 16 "QueueHall" "ringRow" "LQueueHall$Row;") (List.mem_of_getElem? (i := 1) (by decide +kernel))) (fun _ h9 => h9) rfl dX1_join_1 ?_
    refine lv_iload_n hx hb dX1_join_4 rfl (lv_at hl 2 rfl) ?_
    refine lv_if_eq (tgt := 12) hx hb dX1_join_5 (by decide) (fun c_0 => absurd c_0 (show ¬ p1 = (0 : Int32) from hz)) (fun c_4 => ?_)
    refine lv_iconst (v := nI 0) hx hb dX1_join_8 (by decide) ?_
    refine lv_goto (tgt := 19) hx hb dX1_join_9 (by decide) ?_
    refine lv_iload_n hx hb dX1_join_19 rfl (lv_at hl 1 rfl) ?_
    have hPc := hP.sub (ws' := [(a2, .inr (0, [.ref b2, .int (nI nr)])), (b2, .inl (cA, 2100, .inl fr))]) [3, 4] rfl
    have hKc := hK.sub (tys' := [(cA, .int)]) [0] rfl
    have hDc := hD.sub (ws' := [(a2, .inr (0, [.ref b2, .int (nI nr)])), (b2, .inl (cA, 2100, .inl fr))]) [3, 4] (by decide) rfl
    have hFc := va_free (wc := [(a2, .inr (0, [.ref b2, .int (nI nr)])), (b2, .inl (cA, 2100, .inl fr))]) hD hS hA [3, 4] rfl
    refine va_calli (va_runVN (As := [.int (nI 0), .int p0]) (rest := []) ⟨hx, hb, hml, hown, hts⟩ (c_Row_put l dC dI s.heap.size a2 b2 nr cA fr gr (nI 0) p0 (by omega) ha2) ⟨va_cnB 2 hts gX1_join_X0_put rfl rfl rfl (qN_put hN) (hts (.initialized RX0) (List.mem_of_getElem? (i := 4) (by decide +kernel))) (by decide +kernel) ⟨Nat.le_of_ble_eq_true rfl, Nat.le_of_ble_eq_true rfl⟩, (hts (.instanceMethod yX0_put) (List.mem_of_getElem? (i := 2) (by decide +kernel))), (hts (.selects RX0 yX0_put yX0_put) (List.mem_of_getElem? (i := 3) (by decide +kernel)))⟩ ⟨q_blW, va_recv hKc hPc (ci := 0) (q0 := 0) rfl rfl, fun U hU hW => ⟨rfl, by rw [hU], by rw [hU]; exact hPc, va_K.moved hW.alike hKc, hDc.weaken (fun _ _ _ _ => trivial)⟩⟩ rfl rfl hl.1 rfl (lv_room (Nat.le_of_ble_eq_true rfl)) dX1_join_20 ⟨Nat.le_of_ble_eq_true rfl, Nat.le_of_ble_eq_true rfl⟩) hS (fun q _ h => hFc q h) hFc (fun r_5 u_5 t_5 H1 locs ht hvm hw hB hz1 hk1 hS => ?_)
    have hw := hw.trans (qPut_i (k := 0) (by omega) (by omega))
    obtain ⟨rfl, rfl⟩ := Prod.mk.inj hw
    obtain ⟨f_5, hg_5, hP1, hK1, hD1⟩ := hB
    rw [ht] at hP1
    obtain ⟨hP, hD⟩ := q_join (wr := [(x0, .inr (1, [.ref a1, .ref a2, .ref a3, .int fi, .int me])), (a1, .inr (0, [.ref b1, .int (nI nh)])), (b1, .inl (cA, 2100, .inl fh)), (a3, .inr (0, [.ref b3, .int (nI nk)])), (b3, .inl (cA, 2100, .inl fk))]) (w1 := [(a2, .inr (0, [.ref b2, .int (nI (nr + 1))])), (b2, .inl (cA, 2100, .inl f_5))]) (wz := [(x0, .inr (1, [.ref a1, .ref a2, .ref a3, .int fi, .int me])), (a1, .inr (0, [.ref b1, .int (nI nh)])), (b1, .inl (cA, 2100, .inl fh)), (a2, .inr (0, [.ref b2, .int (nI (nr + 1))])), (b2, .inl (cA, 2100, .inl f_5)), (a3, .inr (0, [.ref b3, .int (nI nk)])), (b3, .inl (cA, 2100, .inl fk))]) hP hD [3, 4] [0, 1, 2, 5, 6] [0, 1, 2, 5, 6, 3, 4] rfl rfl (by decide) (by decide) hk1 hFc hP1 hD1 rfl rfl (by decide)
    generalize H1 = H at hP hS ⊢
    refine lv_if_eq (tgt := 36) hx hb dX1_join_23 (by decide) (fun c_0 => absurd c_0 (show ¬ (1 : Int32) = (0 : Int32) from (by decide))) (fun c_6 => ?_)
    refine lv_aload_n hx hb dX1_join_26 rfl (lv_at hl 0 rfl) ?_
    refine va_get (D := (dC, dI)) (ci := 1) (v := .ref a2) (C := RX1) (T := TX1) (N := 5) hx hb hts inX1_join_X1 hown hK hP 0 rfl rfl 1 (by decide) (hts (.fieldLink RX1 16 "QueueHall" "ringRow" "LQueueHall$Row;") (List.mem_of_getElem? (i := 1) (by decide +kernel))) (fun _ h9 => h9) rfl dX1_join_27 ?_
    refine va_getN (D := (dC, dI)) (ci := 0) (v := .int (nI (nr + 1))) (C := RX0) (T := TX0) (N := 2) hx hb hts inX1_join_X0 hown hK hP 3 rfl rfl 1 (by decide) (qN_count hN) (fun _ h9 => h9) rfl dX1_join_30 ?_
    refine lv_goto (tgt := 38) hx hb dX1_join_33 (by decide) ?_
    exact W.iret (v := nI (nr + 1)) hx hb hr (fun t ht hW => ⟨⟨nI (nr + 1), ((gh, nh), (qIns gr 0 p0, nr + 1), (gk, nk), fi, me), rfl, (by simp only [qJoin, if_neg hz]), fh, f_5, fk, ha1, hg_5, ha3, by rw [ht]; exact hP, va_K.moved hW.alike hK, hD⟩, hS.F ht⟩) hS.2.2 dX1_join_38

set_option maxHeartbeats 4000000 in
set_option maxRecDepth 100000 in
theorem c_Hall_serve (l : Launch) (dC : Nat → ClassId) (dI : Nat → Nat → Nat) (sz : Nat) (x0 a1 b1 a2 b2 a3 b3 nh nr nk : Nat) (cA : ClassId) (fh gh fr gr fk gk : Nat → Int32) (fi me : Int32) (p0 p1 : Int32) (hn : nh + nr + nk < 2000) (ha1 : qAg nh fh gh) (ha2 : qAg nr fr gr) (ha3 : qAg nk fk gk) (hF : qFok fi me nk) : Met l yX1_serve wsX1_serve ({ frames := 2, cells := 0, slots := 0, locals := 58 }) (va_Pc [.ref x0, .int p0, .int p1] (fun U => U.heap.size = sz ∧ va_P (dC, dI) vwCl [(x0, .inr (1, [.ref a1, .ref a2, .ref a3, .int fi, .int me])), (a1, .inr (0, [.ref b1, .int (nI nh)])), (b1, .inl (cA, 2100, .inl fh)), (a2, .inr (0, [.ref b2, .int (nI nr)])), (b2, .inl (cA, 2100, .inl fr)), (a3, .inr (0, [.ref b3, .int (nI nk)])), (b3, .inl (cA, 2100, .inl fk))] U.heap ∧ va_K (dC, dI) vwCl [(cA, .int)] U ∧ va_D (fun _ => True) [(x0, .inr (1, [.ref a1, .ref a2, .ref a3, .int fi, .int me])), (a1, .inr (0, [.ref b1, .int (nI nh)])), (b1, .inl (cA, 2100, .inl fh)), (a2, .inr (0, [.ref b2, .int (nI nr)])), (b2, .inl (cA, 2100, .inl fr)), (a3, .inr (0, [.ref b3, .int (nI nk)])), (b3, .inl (cA, 2100, .inl fk))] ∧ qNest U)) (va_Ql (fun (r : Int64) (u : qS) => (r, u) = qServe p0 p1 ((gh, nh), (gr, nr), (gk, nk), fi, me)) (at_H dC dI (va_A [(x0, .inr (1, [.ref a1, .ref a2, .ref a3, .int fi, .int me])), (a1, .inr (0, [.ref b1, .int (nI nh)])), (b1, .inl (cA, 2100, .inl fh)), (a2, .inr (0, [.ref b2, .int (nI nr)])), (b2, .inl (cA, 2100, .inl fr)), (a3, .inr (0, [.ref b3, .int (nI nk)])), (b3, .inl (cA, 2100, .inl fk))] sz) x0 a1 b1 a2 b2 a3 b3 cA) (va_A [(x0, .inr (1, [.ref a1, .ref a2, .ref a3, .int fi, .int me])), (a1, .inr (0, [.ref b1, .int (nI nh)])), (b1, .inl (cA, 2100, .inl fh)), (a2, .inr (0, [.ref b2, .int (nI nr)])), (b2, .inl (cA, 2100, .inl fr)), (a3, .inr (0, [.ref b3, .int (nI nk)])), (b3, .inl (cA, 2100, .inl fk))] sz)) 0 0 (va_A [(x0, .inr (1, [.ref a1, .ref a2, .ref a3, .int fi, .int me])), (a1, .inr (0, [.ref b1, .int (nI nh)])), (b1, .inl (cA, 2100, .inl fh)), (a2, .inr (0, [.ref b2, .int (nI nr)])), (b2, .inl (cA, 2100, .inl fr)), (a3, .inr (0, [.ref b3, .int (nI nk)])), (b3, .inl (cA, 2100, .inl fk))] sz) := by
  refine Met.ofW (cc := cX1_serve) (maxL := 4) (ret := (some .long)) (by decide +kernel) rfl ?_
  intro p e s m args below meth c s₁ B hml hv
  obtain ⟨rfl, hsz, hP, hK, hD0, hN⟩ := hv
  have hx := B.exec
  have hb := B.bytes
  have hr := B.returns
  have hts := atoms_spec (ws := wsX1_serve) B.pre
  have hown : s.vm.findClass RX1 = some m.cls := findClass_of_methodNamed B.named
  have hlocks := B.notSynchronized
  subst hsz
  have hD := hD0.self (sz := s.heap.size)
  generalize hAe : va_A [(x0, .inr (1, [.ref a1, .ref a2, .ref a3, .int fi, .int me])), (a1, .inr (0, [.ref b1, .int (nI nh)])), (b1, .inl (cA, 2100, .inl fh)), (a2, .inr (0, [.ref b2, .int (nI nr)])), (b2, .inl (cA, 2100, .inl fr)), (a3, .inr (0, [.ref b3, .int (nI nk)])), (b3, .inl (cA, 2100, .inl fk))] s.heap.size = A at hD ⊢
  have hA : ∀ q : Nat, s.heap.size ≤ q → A q := fun q h => by rw [← hAe]; exact Or.inr h
  have hS : va_S A s.heap s.heap [] := va_S.rf
  have hl := lv_entry ([.ref x0, .int p0, .int p1]) (n := 4) (Nat.le_of_ble_eq_true rfl)
  rw [lg_entry_eq]
  generalize (lg_sl ([.ref x0, .int p0, .int p1]) ++ List.replicate (4 - (lg_sl ([.ref x0, .int p0, .int p1])).length) Slot.unset).toArray = ls at hl ⊢
  have hl : lv_has ls 4 [(0, .ref x0), (1, .int p0), (2, .int p1)] := hl
  by_cases hz : p0 = 0 <;> by_cases hy : p1 = 0 <;> rcases Nat.eq_zero_or_pos nr with hn0 | hn0
  · have h00 := q_hp00 hn0
    refine lv_iload_n hx hb dX1_serve_0 rfl (lv_at hl 1 rfl) ?_
    refine lv_if_eq (tgt := 8) hx hb dX1_serve_1 (by decide) (fun c_1 => ?_) (fun c_0 => absurd (show p0 = (0 : Int32) from hz) c_0)
    refine lv_aload_n hx hb dX1_serve_8 rfl (lv_at hl 0 rfl) ?_
    refine va_get (D := (dC, dI)) (ci := 1) (v := .ref a2) (C := RX1) (T := TX1) (N := 5) hx hb hts inX1_serve_X1 hown hK hP 0 rfl rfl 1 (by decide) (hts (.fieldLink RX1 16 "QueueHall" "ringRow" "LQueueHall$Row;") (List.mem_of_getElem? (i := 1) (by decide +kernel))) (fun _ h9 => h9) rfl dX1_serve_9 ?_
    refine va_getN (D := (dC, dI)) (ci := 0) (v := .int (nI nr)) (C := RX0) (T := TX0) (N := 2) hx hb hts inX1_serve_X0 hown hK hP 3 rfl rfl 1 (by decide) (qN_count hN) (fun _ h9 => h9) rfl dX1_serve_12 ?_
    refine lv_iconst (v := 1) hx hb dX1_serve_15 (by decide) ?_
    refine lv_isub hx hb dX1_serve_16 ?_
    refine q_top (y := -1) (by rw [hn0]; exact q_0m1) ?_
    refine lv_istore_n (lv' := [(3, .int (-1)), (0, .ref x0), (1, .int p0), (2, .int p1)]) hx hb dX1_serve_17 rfl hl (by decide) rfl (fun ls hl => ?_)
    refine lv_iload_n hx hb dX1_serve_18 rfl (lv_at hl 3 rfl) ?_
    refine lv_if_eq (tgt := 33) hx hb dX1_serve_19 (by decide) (fun c_2 => ?_) (fun c_0 => absurd (show p1 = (0 : Int32) from hy) c_0)
    refine lv_aload_n hx hb dX1_serve_33 rfl (lv_at hl 1 rfl) ?_
    refine va_get (D := (dC, dI)) (ci := 1) (v := .ref a2) (C := RX1) (T := TX1) (N := 5) hx hb hts inX1_serve_X1 hown hK hP 0 rfl rfl 1 (by decide) (hts (.fieldLink RX1 16 "QueueHall" "ringRow" "LQueueHall$Row;") (List.mem_of_getElem? (i := 1) (by decide +kernel))) (fun _ h9 => h9) rfl dX1_serve_34 ?_
    refine lv_iload_n hx hb dX1_serve_37 rfl (lv_at hl 0 rfl) ?_
    have hPc := hP.sub (ws' := [(a2, .inr (0, [.ref b2, .int (nI nr)])), (b2, .inl (cA, 2100, .inl fr))]) [3, 4] rfl
    have hKc := hK.sub (tys' := [(cA, .int)]) [0] rfl
    have hDc := hD.sub (ws' := [(a2, .inr (0, [.ref b2, .int (nI nr)])), (b2, .inl (cA, 2100, .inl fr))]) [3, 4] (by decide) rfl
    have hFc := va_free (wc := [(a2, .inr (0, [.ref b2, .int (nI nr)])), (b2, .inl (cA, 2100, .inl fr))]) hD hS hA [3, 4] rfl
    refine va_calll (va_runVN (As := [.int (-1)]) (rest := []) ⟨hx, hb, hml, hown, hts⟩ (c_Row_take l dC dI s.heap.size a2 b2 nr cA fr gr (-1) (by omega) ha2) ⟨va_cnB 1 hts gX1_serve_X0_take rfl rfl rfl (qN_take hN) (hts (.initialized RX0) (List.mem_of_getElem? (i := 4) (by decide +kernel))) (by decide +kernel) ⟨Nat.le_of_ble_eq_true rfl, Nat.le_of_ble_eq_true rfl⟩, (hts (.instanceMethod yX0_take) (List.mem_of_getElem? (i := 13) (by decide +kernel))), (hts (.selects RX0 yX0_take yX0_take) (List.mem_of_getElem? (i := 14) (by decide +kernel)))⟩ ⟨q_blW, va_recv hKc hPc (ci := 0) (q0 := 0) rfl rfl, fun U hU hW => ⟨rfl, by rw [hU], by rw [hU]; exact hPc, va_K.moved hW.alike hKc, hDc.weaken (fun _ _ _ _ => trivial)⟩⟩ rfl rfl hl.1 rfl (lv_room (Nat.le_of_ble_eq_true rfl)) dX1_serve_38 ⟨Nat.le_of_ble_eq_true rfl, Nat.le_of_ble_eq_true rfl⟩) hS (fun q _ h => hFc q h) hFc (fun r_3 u_3 t_3 H1 locs ht hvm hw hB hz1 hk1 hS => ?_)
    have hw := hw.trans (qTake_o (qHp_m1))
    obtain ⟨rfl, rfl⟩ := Prod.mk.inj hw
    obtain ⟨f_3, hg_3, hP1, hK1, hD1⟩ := hB
    rw [ht] at hP1
    obtain ⟨hP, hD⟩ := q_join (wr := [(x0, .inr (1, [.ref a1, .ref a2, .ref a3, .int fi, .int me])), (a1, .inr (0, [.ref b1, .int (nI nh)])), (b1, .inl (cA, 2100, .inl fh)), (a3, .inr (0, [.ref b3, .int (nI nk)])), (b3, .inl (cA, 2100, .inl fk))]) (w1 := [(a2, .inr (0, [.ref b2, .int (nI nr)])), (b2, .inl (cA, 2100, .inl f_3))]) (wz := [(x0, .inr (1, [.ref a1, .ref a2, .ref a3, .int fi, .int me])), (a1, .inr (0, [.ref b1, .int (nI nh)])), (b1, .inl (cA, 2100, .inl fh)), (a2, .inr (0, [.ref b2, .int (nI nr)])), (b2, .inl (cA, 2100, .inl f_3)), (a3, .inr (0, [.ref b3, .int (nI nk)])), (b3, .inl (cA, 2100, .inl fk))]) hP hD [3, 4] [0, 1, 2, 5, 6] [0, 1, 2, 5, 6, 3, 4] rfl rfl (by decide) (by decide) hk1 hFc hP1 hD1 rfl rfl (by decide)
    generalize H1 = H at hP hS ⊢
    exact W.lret (v := qNo) hx hb hr (fun t ht hW => ⟨⟨qNo, ((gh, nh), (gr, nr), (gk, nk), fi, me), rfl, (by simp only [qServe, if_pos hn0]), fh, f_3, fk, ha1, hg_3, ha3, by rw [ht]; exact hP, va_K.moved hW.alike hK, hD⟩, hS.F ht⟩) hS.2.2 dX1_serve_41
  · refine lv_iload_n hx hb dX1_serve_0 rfl (lv_at hl 1 rfl) ?_
    refine lv_if_eq (tgt := 8) hx hb dX1_serve_1 (by decide) (fun c_4 => ?_) (fun c_0 => absurd (show p0 = (0 : Int32) from hz) c_0)
    refine lv_aload_n hx hb dX1_serve_8 rfl (lv_at hl 0 rfl) ?_
    refine va_get (D := (dC, dI)) (ci := 1) (v := .ref a2) (C := RX1) (T := TX1) (N := 5) hx hb hts inX1_serve_X1 hown hK hP 0 rfl rfl 1 (by decide) (hts (.fieldLink RX1 16 "QueueHall" "ringRow" "LQueueHall$Row;") (List.mem_of_getElem? (i := 1) (by decide +kernel))) (fun _ h9 => h9) rfl dX1_serve_9 ?_
    refine va_getN (D := (dC, dI)) (ci := 0) (v := .int (nI nr)) (C := RX0) (T := TX0) (N := 2) hx hb hts inX1_serve_X0 hown hK hP 3 rfl rfl 1 (by decide) (qN_count hN) (fun _ h9 => h9) rfl dX1_serve_12 ?_
    refine lv_iconst (v := 1) hx hb dX1_serve_15 (by decide) ?_
    refine lv_isub hx hb dX1_serve_16 ?_
    refine q_top (y := nI (nr - 1)) (q_m1 (by omega)) ?_
    refine lv_istore_n (lv' := [(3, .int (nI (nr - 1))), (0, .ref x0), (1, .int p0), (2, .int p1)]) hx hb dX1_serve_17 rfl hl (by decide) rfl (fun ls hl => ?_)
    refine lv_iload_n hx hb dX1_serve_18 rfl (lv_at hl 3 rfl) ?_
    refine lv_if_eq (tgt := 33) hx hb dX1_serve_19 (by decide) (fun c_5 => ?_) (fun c_0 => absurd (show p1 = (0 : Int32) from hy) c_0)
    refine lv_aload_n hx hb dX1_serve_33 rfl (lv_at hl 1 rfl) ?_
    refine va_get (D := (dC, dI)) (ci := 1) (v := .ref a2) (C := RX1) (T := TX1) (N := 5) hx hb hts inX1_serve_X1 hown hK hP 0 rfl rfl 1 (by decide) (hts (.fieldLink RX1 16 "QueueHall" "ringRow" "LQueueHall$Row;") (List.mem_of_getElem? (i := 1) (by decide +kernel))) (fun _ h9 => h9) rfl dX1_serve_34 ?_
    refine lv_iload_n hx hb dX1_serve_37 rfl (lv_at hl 0 rfl) ?_
    have hPc := hP.sub (ws' := [(a2, .inr (0, [.ref b2, .int (nI nr)])), (b2, .inl (cA, 2100, .inl fr))]) [3, 4] rfl
    have hKc := hK.sub (tys' := [(cA, .int)]) [0] rfl
    have hDc := hD.sub (ws' := [(a2, .inr (0, [.ref b2, .int (nI nr)])), (b2, .inl (cA, 2100, .inl fr))]) [3, 4] (by decide) rfl
    have hFc := va_free (wc := [(a2, .inr (0, [.ref b2, .int (nI nr)])), (b2, .inl (cA, 2100, .inl fr))]) hD hS hA [3, 4] rfl
    refine va_calll (va_runVN (As := [.int (nI (nr - 1))]) (rest := []) ⟨hx, hb, hml, hown, hts⟩ (c_Row_take l dC dI s.heap.size a2 b2 nr cA fr gr (nI (nr - 1)) (by omega) ha2) ⟨va_cnB 1 hts gX1_serve_X0_take rfl rfl rfl (qN_take hN) (hts (.initialized RX0) (List.mem_of_getElem? (i := 4) (by decide +kernel))) (by decide +kernel) ⟨Nat.le_of_ble_eq_true rfl, Nat.le_of_ble_eq_true rfl⟩, (hts (.instanceMethod yX0_take) (List.mem_of_getElem? (i := 13) (by decide +kernel))), (hts (.selects RX0 yX0_take yX0_take) (List.mem_of_getElem? (i := 14) (by decide +kernel)))⟩ ⟨q_blW, va_recv hKc hPc (ci := 0) (q0 := 0) rfl rfl, fun U hU hW => ⟨rfl, by rw [hU], by rw [hU]; exact hPc, va_K.moved hW.alike hKc, hDc.weaken (fun _ _ _ _ => trivial)⟩⟩ rfl rfl hl.1 rfl (lv_room (Nat.le_of_ble_eq_true rfl)) dX1_serve_38 ⟨Nat.le_of_ble_eq_true rfl, Nat.le_of_ble_eq_true rfl⟩) hS (fun q _ h => hFc q h) hFc (fun r_6 u_6 t_6 H1 locs ht hvm hw hB hz1 hk1 hS => ?_)
    have hw := hw.trans (qTake_i (k := nr - 1) (by omega) (by omega))
    obtain ⟨rfl, rfl⟩ := Prod.mk.inj hw
    obtain ⟨f_6, hg_6, hP1, hK1, hD1⟩ := hB
    rw [ht] at hP1
    obtain ⟨hP, hD⟩ := q_join (wr := [(x0, .inr (1, [.ref a1, .ref a2, .ref a3, .int fi, .int me])), (a1, .inr (0, [.ref b1, .int (nI nh)])), (b1, .inl (cA, 2100, .inl fh)), (a3, .inr (0, [.ref b3, .int (nI nk)])), (b3, .inl (cA, 2100, .inl fk))]) (w1 := [(a2, .inr (0, [.ref b2, .int (nI (nr - 1))])), (b2, .inl (cA, 2100, .inl f_6))]) (wz := [(x0, .inr (1, [.ref a1, .ref a2, .ref a3, .int fi, .int me])), (a1, .inr (0, [.ref b1, .int (nI nh)])), (b1, .inl (cA, 2100, .inl fh)), (a2, .inr (0, [.ref b2, .int (nI (nr - 1))])), (b2, .inl (cA, 2100, .inl f_6)), (a3, .inr (0, [.ref b3, .int (nI nk)])), (b3, .inl (cA, 2100, .inl fk))]) hP hD [3, 4] [0, 1, 2, 5, 6] [0, 1, 2, 5, 6, 3, 4] rfl rfl (by decide) (by decide) hk1 hFc hP1 hD1 rfl rfl (by decide)
    generalize H1 = H at hP hS ⊢
    exact W.lret (v := (gr (nr - 1)).toInt64) hx hb hr (fun t ht hW => ⟨⟨(gr (nr - 1)).toInt64, ((gh, nh), (qDel gr (nr - 1), nr - 1), (gk, nk), fi, me), rfl, (by simp only [qServe, if_neg (show ¬ nr = 0 by omega), if_pos hy, if_pos hz]), fh, f_6, fk, ha1, hg_6, ha3, by rw [ht]; exact hP, va_K.moved hW.alike hK, hD⟩, hS.F ht⟩) hS.2.2 dX1_serve_41
  · have h00 := q_hp00 hn0
    refine lv_iload_n hx hb dX1_serve_0 rfl (lv_at hl 1 rfl) ?_
    refine lv_if_eq (tgt := 8) hx hb dX1_serve_1 (by decide) (fun c_7 => ?_) (fun c_0 => absurd (show p0 = (0 : Int32) from hz) c_0)
    refine lv_aload_n hx hb dX1_serve_8 rfl (lv_at hl 0 rfl) ?_
    refine va_get (D := (dC, dI)) (ci := 1) (v := .ref a2) (C := RX1) (T := TX1) (N := 5) hx hb hts inX1_serve_X1 hown hK hP 0 rfl rfl 1 (by decide) (hts (.fieldLink RX1 16 "QueueHall" "ringRow" "LQueueHall$Row;") (List.mem_of_getElem? (i := 1) (by decide +kernel))) (fun _ h9 => h9) rfl dX1_serve_9 ?_
    refine va_getN (D := (dC, dI)) (ci := 0) (v := .int (nI nr)) (C := RX0) (T := TX0) (N := 2) hx hb hts inX1_serve_X0 hown hK hP 3 rfl rfl 1 (by decide) (qN_count hN) (fun _ h9 => h9) rfl dX1_serve_12 ?_
    refine lv_iconst (v := 1) hx hb dX1_serve_15 (by decide) ?_
    refine lv_isub hx hb dX1_serve_16 ?_
    refine q_top (y := -1) (by rw [hn0]; exact q_0m1) ?_
    refine lv_istore_n (lv' := [(3, .int (-1)), (0, .ref x0), (1, .int p0), (2, .int p1)]) hx hb dX1_serve_17 rfl hl (by decide) rfl (fun ls hl => ?_)
    refine lv_iload_n hx hb dX1_serve_18 rfl (lv_at hl 3 rfl) ?_
    refine lv_if_eq (tgt := 33) hx hb dX1_serve_19 (by decide) (fun c_0 => absurd c_0 (show ¬ p1 = (0 : Int32) from hy)) (fun c_8 => ?_)
    refine lv_aload_n hx hb dX1_serve_22 rfl (lv_at hl 1 rfl) ?_
    refine va_get (D := (dC, dI)) (ci := 1) (v := .ref a2) (C := RX1) (T := TX1) (N := 5) hx hb hts inX1_serve_X1 hown hK hP 0 rfl rfl 1 (by decide) (hts (.fieldLink RX1 16 "QueueHall" "ringRow" "LQueueHall$Row;") (List.mem_of_getElem? (i := 1) (by decide +kernel))) (fun _ h9 => h9) rfl dX1_serve_23 ?_
    refine lv_iload_n hx hb dX1_serve_26 rfl (lv_at hl 0 rfl) ?_
    have hPc := hP.sub (ws' := [(a2, .inr (0, [.ref b2, .int (nI nr)])), (b2, .inl (cA, 2100, .inl fr))]) [3, 4] rfl
    have hKc := hK.sub (tys' := [(cA, .int)]) [0] rfl
    refine q_cslE (va_runVN (As := [.int (-1)]) (rest := []) ⟨hx, hb, hml, hown, hts⟩ (c_Row_at l dC dI a2 b2 nr cA fr gr (-1) (by omega) ha2) ⟨va_cnB 1 hts gX1_serve_X0_at rfl rfl rfl (qN_at hN) (hts (.initialized RX0) (List.mem_of_getElem? (i := 4) (by decide +kernel))) (by decide +kernel) ⟨Nat.le_of_ble_eq_true rfl, Nat.le_of_ble_eq_true rfl⟩, (hts (.instanceMethod yX0_at) (List.mem_of_getElem? (i := 2) (by decide +kernel))), (hts (.selects RX0 yX0_at yX0_at) (List.mem_of_getElem? (i := 3) (by decide +kernel)))⟩ ⟨q_blR, va_recv hKc hPc (ci := 0) (q0 := 0) rfl rfl, fun U hU hW => ⟨rfl, by rw [hU]; exact hPc, va_K.moved hW.alike hKc⟩⟩ rfl rfl hl.1 rfl (lv_room (Nat.le_of_ble_eq_true rfl)) dX1_serve_27 ⟨Nat.le_of_ble_eq_true rfl, Nat.le_of_ble_eq_true rfl⟩) ?_
    refine q_topl (y := qNo) (qAt_o (qHp_m1)) ?_
    refine lv_goto (tgt := 41) hx hb dX1_serve_30 (by decide) ?_
    exact W.lret (v := qNo) hx hb hr (fun t ht hW => ⟨⟨qNo, ((gh, nh), (gr, nr), (gk, nk), fi, me), rfl, (by simp only [qServe, if_pos hn0]), fh, fr, fk, ha1, ha2, ha3, by rw [ht]; exact hP, va_K.moved hW.alike hK, hD⟩, hS.F ht⟩) hS.2.2 dX1_serve_41
  · refine lv_iload_n hx hb dX1_serve_0 rfl (lv_at hl 1 rfl) ?_
    refine lv_if_eq (tgt := 8) hx hb dX1_serve_1 (by decide) (fun c_9 => ?_) (fun c_0 => absurd (show p0 = (0 : Int32) from hz) c_0)
    refine lv_aload_n hx hb dX1_serve_8 rfl (lv_at hl 0 rfl) ?_
    refine va_get (D := (dC, dI)) (ci := 1) (v := .ref a2) (C := RX1) (T := TX1) (N := 5) hx hb hts inX1_serve_X1 hown hK hP 0 rfl rfl 1 (by decide) (hts (.fieldLink RX1 16 "QueueHall" "ringRow" "LQueueHall$Row;") (List.mem_of_getElem? (i := 1) (by decide +kernel))) (fun _ h9 => h9) rfl dX1_serve_9 ?_
    refine va_getN (D := (dC, dI)) (ci := 0) (v := .int (nI nr)) (C := RX0) (T := TX0) (N := 2) hx hb hts inX1_serve_X0 hown hK hP 3 rfl rfl 1 (by decide) (qN_count hN) (fun _ h9 => h9) rfl dX1_serve_12 ?_
    refine lv_iconst (v := 1) hx hb dX1_serve_15 (by decide) ?_
    refine lv_isub hx hb dX1_serve_16 ?_
    refine q_top (y := nI (nr - 1)) (q_m1 (by omega)) ?_
    refine lv_istore_n (lv' := [(3, .int (nI (nr - 1))), (0, .ref x0), (1, .int p0), (2, .int p1)]) hx hb dX1_serve_17 rfl hl (by decide) rfl (fun ls hl => ?_)
    refine lv_iload_n hx hb dX1_serve_18 rfl (lv_at hl 3 rfl) ?_
    refine lv_if_eq (tgt := 33) hx hb dX1_serve_19 (by decide) (fun c_0 => absurd c_0 (show ¬ p1 = (0 : Int32) from hy)) (fun c_10 => ?_)
    refine lv_aload_n hx hb dX1_serve_22 rfl (lv_at hl 1 rfl) ?_
    refine va_get (D := (dC, dI)) (ci := 1) (v := .ref a2) (C := RX1) (T := TX1) (N := 5) hx hb hts inX1_serve_X1 hown hK hP 0 rfl rfl 1 (by decide) (hts (.fieldLink RX1 16 "QueueHall" "ringRow" "LQueueHall$Row;") (List.mem_of_getElem? (i := 1) (by decide +kernel))) (fun _ h9 => h9) rfl dX1_serve_23 ?_
    refine lv_iload_n hx hb dX1_serve_26 rfl (lv_at hl 0 rfl) ?_
    have hPc := hP.sub (ws' := [(a2, .inr (0, [.ref b2, .int (nI nr)])), (b2, .inl (cA, 2100, .inl fr))]) [3, 4] rfl
    have hKc := hK.sub (tys' := [(cA, .int)]) [0] rfl
    refine q_cslE (va_runVN (As := [.int (nI (nr - 1))]) (rest := []) ⟨hx, hb, hml, hown, hts⟩ (c_Row_at l dC dI a2 b2 nr cA fr gr (nI (nr - 1)) (by omega) ha2) ⟨va_cnB 1 hts gX1_serve_X0_at rfl rfl rfl (qN_at hN) (hts (.initialized RX0) (List.mem_of_getElem? (i := 4) (by decide +kernel))) (by decide +kernel) ⟨Nat.le_of_ble_eq_true rfl, Nat.le_of_ble_eq_true rfl⟩, (hts (.instanceMethod yX0_at) (List.mem_of_getElem? (i := 2) (by decide +kernel))), (hts (.selects RX0 yX0_at yX0_at) (List.mem_of_getElem? (i := 3) (by decide +kernel)))⟩ ⟨q_blR, va_recv hKc hPc (ci := 0) (q0 := 0) rfl rfl, fun U hU hW => ⟨rfl, by rw [hU]; exact hPc, va_K.moved hW.alike hKc⟩⟩ rfl rfl hl.1 rfl (lv_room (Nat.le_of_ble_eq_true rfl)) dX1_serve_27 ⟨Nat.le_of_ble_eq_true rfl, Nat.le_of_ble_eq_true rfl⟩) ?_
    refine q_topl (y := (gr (nr - 1)).toInt64) (qAt_i (by omega) (by omega)) ?_
    refine lv_goto (tgt := 41) hx hb dX1_serve_30 (by decide) ?_
    exact W.lret (v := (gr (nr - 1)).toInt64) hx hb hr (fun t ht hW => ⟨⟨(gr (nr - 1)).toInt64, ((gh, nh), (gr, nr), (gk, nk), fi, me), rfl, (by simp only [qServe, if_neg (show ¬ nr = 0 by omega), if_neg hy, if_pos hz]), fh, fr, fk, ha1, ha2, ha3, by rw [ht]; exact hP, va_K.moved hW.alike hK, hD⟩, hS.F ht⟩) hS.2.2 dX1_serve_41
  · have h00 := q_hp00 hn0
    refine lv_iload_n hx hb dX1_serve_0 rfl (lv_at hl 1 rfl) ?_
    refine lv_if_eq (tgt := 8) hx hb dX1_serve_1 (by decide) (fun c_0 => absurd c_0 (show ¬ p0 = (0 : Int32) from hz)) (fun c_11 => ?_)
    refine lv_iconst (v := nI 0) hx hb dX1_serve_4 (by decide) ?_
    refine lv_goto (tgt := 17) hx hb dX1_serve_5 (by decide) ?_
    refine lv_istore_n (lv' := [(3, .int (nI 0)), (0, .ref x0), (1, .int p0), (2, .int p1)]) hx hb dX1_serve_17 rfl hl (by decide) rfl (fun ls hl => ?_)
    refine lv_iload_n hx hb dX1_serve_18 rfl (lv_at hl 3 rfl) ?_
    refine lv_if_eq (tgt := 33) hx hb dX1_serve_19 (by decide) (fun c_12 => ?_) (fun c_0 => absurd (show p1 = (0 : Int32) from hy) c_0)
    refine lv_aload_n hx hb dX1_serve_33 rfl (lv_at hl 1 rfl) ?_
    refine va_get (D := (dC, dI)) (ci := 1) (v := .ref a2) (C := RX1) (T := TX1) (N := 5) hx hb hts inX1_serve_X1 hown hK hP 0 rfl rfl 1 (by decide) (hts (.fieldLink RX1 16 "QueueHall" "ringRow" "LQueueHall$Row;") (List.mem_of_getElem? (i := 1) (by decide +kernel))) (fun _ h9 => h9) rfl dX1_serve_34 ?_
    refine lv_iload_n hx hb dX1_serve_37 rfl (lv_at hl 0 rfl) ?_
    have hPc := hP.sub (ws' := [(a2, .inr (0, [.ref b2, .int (nI nr)])), (b2, .inl (cA, 2100, .inl fr))]) [3, 4] rfl
    have hKc := hK.sub (tys' := [(cA, .int)]) [0] rfl
    have hDc := hD.sub (ws' := [(a2, .inr (0, [.ref b2, .int (nI nr)])), (b2, .inl (cA, 2100, .inl fr))]) [3, 4] (by decide) rfl
    have hFc := va_free (wc := [(a2, .inr (0, [.ref b2, .int (nI nr)])), (b2, .inl (cA, 2100, .inl fr))]) hD hS hA [3, 4] rfl
    refine va_calll (va_runVN (As := [.int (nI 0)]) (rest := []) ⟨hx, hb, hml, hown, hts⟩ (c_Row_take l dC dI s.heap.size a2 b2 nr cA fr gr (nI 0) (by omega) ha2) ⟨va_cnB 1 hts gX1_serve_X0_take rfl rfl rfl (qN_take hN) (hts (.initialized RX0) (List.mem_of_getElem? (i := 4) (by decide +kernel))) (by decide +kernel) ⟨Nat.le_of_ble_eq_true rfl, Nat.le_of_ble_eq_true rfl⟩, (hts (.instanceMethod yX0_take) (List.mem_of_getElem? (i := 13) (by decide +kernel))), (hts (.selects RX0 yX0_take yX0_take) (List.mem_of_getElem? (i := 14) (by decide +kernel)))⟩ ⟨q_blW, va_recv hKc hPc (ci := 0) (q0 := 0) rfl rfl, fun U hU hW => ⟨rfl, by rw [hU], by rw [hU]; exact hPc, va_K.moved hW.alike hKc, hDc.weaken (fun _ _ _ _ => trivial)⟩⟩ rfl rfl hl.1 rfl (lv_room (Nat.le_of_ble_eq_true rfl)) dX1_serve_38 ⟨Nat.le_of_ble_eq_true rfl, Nat.le_of_ble_eq_true rfl⟩) hS (fun q _ h => hFc q h) hFc (fun r_13 u_13 t_13 H1 locs ht hvm hw hB hz1 hk1 hS => ?_)
    have hw := hw.trans (qTake_o h00)
    obtain ⟨rfl, rfl⟩ := Prod.mk.inj hw
    obtain ⟨f_13, hg_13, hP1, hK1, hD1⟩ := hB
    rw [ht] at hP1
    obtain ⟨hP, hD⟩ := q_join (wr := [(x0, .inr (1, [.ref a1, .ref a2, .ref a3, .int fi, .int me])), (a1, .inr (0, [.ref b1, .int (nI nh)])), (b1, .inl (cA, 2100, .inl fh)), (a3, .inr (0, [.ref b3, .int (nI nk)])), (b3, .inl (cA, 2100, .inl fk))]) (w1 := [(a2, .inr (0, [.ref b2, .int (nI nr)])), (b2, .inl (cA, 2100, .inl f_13))]) (wz := [(x0, .inr (1, [.ref a1, .ref a2, .ref a3, .int fi, .int me])), (a1, .inr (0, [.ref b1, .int (nI nh)])), (b1, .inl (cA, 2100, .inl fh)), (a2, .inr (0, [.ref b2, .int (nI nr)])), (b2, .inl (cA, 2100, .inl f_13)), (a3, .inr (0, [.ref b3, .int (nI nk)])), (b3, .inl (cA, 2100, .inl fk))]) hP hD [3, 4] [0, 1, 2, 5, 6] [0, 1, 2, 5, 6, 3, 4] rfl rfl (by decide) (by decide) hk1 hFc hP1 hD1 rfl rfl (by decide)
    generalize H1 = H at hP hS ⊢
    exact W.lret (v := qNo) hx hb hr (fun t ht hW => ⟨⟨qNo, ((gh, nh), (gr, nr), (gk, nk), fi, me), rfl, (by simp only [qServe, if_pos hn0]), fh, f_13, fk, ha1, hg_13, ha3, by rw [ht]; exact hP, va_K.moved hW.alike hK, hD⟩, hS.F ht⟩) hS.2.2 dX1_serve_41
  · refine lv_iload_n hx hb dX1_serve_0 rfl (lv_at hl 1 rfl) ?_
    refine lv_if_eq (tgt := 8) hx hb dX1_serve_1 (by decide) (fun c_0 => absurd c_0 (show ¬ p0 = (0 : Int32) from hz)) (fun c_14 => ?_)
    refine lv_iconst (v := nI 0) hx hb dX1_serve_4 (by decide) ?_
    refine lv_goto (tgt := 17) hx hb dX1_serve_5 (by decide) ?_
    refine lv_istore_n (lv' := [(3, .int (nI 0)), (0, .ref x0), (1, .int p0), (2, .int p1)]) hx hb dX1_serve_17 rfl hl (by decide) rfl (fun ls hl => ?_)
    refine lv_iload_n hx hb dX1_serve_18 rfl (lv_at hl 3 rfl) ?_
    refine lv_if_eq (tgt := 33) hx hb dX1_serve_19 (by decide) (fun c_15 => ?_) (fun c_0 => absurd (show p1 = (0 : Int32) from hy) c_0)
    refine lv_aload_n hx hb dX1_serve_33 rfl (lv_at hl 1 rfl) ?_
    refine va_get (D := (dC, dI)) (ci := 1) (v := .ref a2) (C := RX1) (T := TX1) (N := 5) hx hb hts inX1_serve_X1 hown hK hP 0 rfl rfl 1 (by decide) (hts (.fieldLink RX1 16 "QueueHall" "ringRow" "LQueueHall$Row;") (List.mem_of_getElem? (i := 1) (by decide +kernel))) (fun _ h9 => h9) rfl dX1_serve_34 ?_
    refine lv_iload_n hx hb dX1_serve_37 rfl (lv_at hl 0 rfl) ?_
    have hPc := hP.sub (ws' := [(a2, .inr (0, [.ref b2, .int (nI nr)])), (b2, .inl (cA, 2100, .inl fr))]) [3, 4] rfl
    have hKc := hK.sub (tys' := [(cA, .int)]) [0] rfl
    have hDc := hD.sub (ws' := [(a2, .inr (0, [.ref b2, .int (nI nr)])), (b2, .inl (cA, 2100, .inl fr))]) [3, 4] (by decide) rfl
    have hFc := va_free (wc := [(a2, .inr (0, [.ref b2, .int (nI nr)])), (b2, .inl (cA, 2100, .inl fr))]) hD hS hA [3, 4] rfl
    refine va_calll (va_runVN (As := [.int (nI 0)]) (rest := []) ⟨hx, hb, hml, hown, hts⟩ (c_Row_take l dC dI s.heap.size a2 b2 nr cA fr gr (nI 0) (by omega) ha2) ⟨va_cnB 1 hts gX1_serve_X0_take rfl rfl rfl (qN_take hN) (hts (.initialized RX0) (List.mem_of_getElem? (i := 4) (by decide +kernel))) (by decide +kernel) ⟨Nat.le_of_ble_eq_true rfl, Nat.le_of_ble_eq_true rfl⟩, (hts (.instanceMethod yX0_take) (List.mem_of_getElem? (i := 13) (by decide +kernel))), (hts (.selects RX0 yX0_take yX0_take) (List.mem_of_getElem? (i := 14) (by decide +kernel)))⟩ ⟨q_blW, va_recv hKc hPc (ci := 0) (q0 := 0) rfl rfl, fun U hU hW => ⟨rfl, by rw [hU], by rw [hU]; exact hPc, va_K.moved hW.alike hKc, hDc.weaken (fun _ _ _ _ => trivial)⟩⟩ rfl rfl hl.1 rfl (lv_room (Nat.le_of_ble_eq_true rfl)) dX1_serve_38 ⟨Nat.le_of_ble_eq_true rfl, Nat.le_of_ble_eq_true rfl⟩) hS (fun q _ h => hFc q h) hFc (fun r_16 u_16 t_16 H1 locs ht hvm hw hB hz1 hk1 hS => ?_)
    have hw := hw.trans (qTake_i (k := 0) (by omega) (by omega))
    obtain ⟨rfl, rfl⟩ := Prod.mk.inj hw
    obtain ⟨f_16, hg_16, hP1, hK1, hD1⟩ := hB
    rw [ht] at hP1
    obtain ⟨hP, hD⟩ := q_join (wr := [(x0, .inr (1, [.ref a1, .ref a2, .ref a3, .int fi, .int me])), (a1, .inr (0, [.ref b1, .int (nI nh)])), (b1, .inl (cA, 2100, .inl fh)), (a3, .inr (0, [.ref b3, .int (nI nk)])), (b3, .inl (cA, 2100, .inl fk))]) (w1 := [(a2, .inr (0, [.ref b2, .int (nI (nr - 1))])), (b2, .inl (cA, 2100, .inl f_16))]) (wz := [(x0, .inr (1, [.ref a1, .ref a2, .ref a3, .int fi, .int me])), (a1, .inr (0, [.ref b1, .int (nI nh)])), (b1, .inl (cA, 2100, .inl fh)), (a2, .inr (0, [.ref b2, .int (nI (nr - 1))])), (b2, .inl (cA, 2100, .inl f_16)), (a3, .inr (0, [.ref b3, .int (nI nk)])), (b3, .inl (cA, 2100, .inl fk))]) hP hD [3, 4] [0, 1, 2, 5, 6] [0, 1, 2, 5, 6, 3, 4] rfl rfl (by decide) (by decide) hk1 hFc hP1 hD1 rfl rfl (by decide)
    generalize H1 = H at hP hS ⊢
    exact W.lret (v := (gr 0).toInt64) hx hb hr (fun t ht hW => ⟨⟨(gr 0).toInt64, ((gh, nh), (qDel gr 0, nr - 1), (gk, nk), fi, me), rfl, (by simp only [qServe, if_neg (show ¬ nr = 0 by omega), if_pos hy, if_neg hz]), fh, f_16, fk, ha1, hg_16, ha3, by rw [ht]; exact hP, va_K.moved hW.alike hK, hD⟩, hS.F ht⟩) hS.2.2 dX1_serve_41
  · have h00 := q_hp00 hn0
    refine lv_iload_n hx hb dX1_serve_0 rfl (lv_at hl 1 rfl) ?_
    refine lv_if_eq (tgt := 8) hx hb dX1_serve_1 (by decide) (fun c_0 => absurd c_0 (show ¬ p0 = (0 : Int32) from hz)) (fun c_17 => ?_)
    refine lv_iconst (v := nI 0) hx hb dX1_serve_4 (by decide) ?_
    refine lv_goto (tgt := 17) hx hb dX1_serve_5 (by decide) ?_
    refine lv_istore_n (lv' := [(3, .int (nI 0)), (0, .ref x0), (1, .int p0), (2, .int p1)]) hx hb dX1_serve_17 rfl hl (by decide) rfl (fun ls hl => ?_)
    refine lv_iload_n hx hb dX1_serve_18 rfl (lv_at hl 3 rfl) ?_
    refine lv_if_eq (tgt := 33) hx hb dX1_serve_19 (by decide) (fun c_0 => absurd c_0 (show ¬ p1 = (0 : Int32) from hy)) (fun c_18 => ?_)
    refine lv_aload_n hx hb dX1_serve_22 rfl (lv_at hl 1 rfl) ?_
    refine va_get (D := (dC, dI)) (ci := 1) (v := .ref a2) (C := RX1) (T := TX1) (N := 5) hx hb hts inX1_serve_X1 hown hK hP 0 rfl rfl 1 (by decide) (hts (.fieldLink RX1 16 "QueueHall" "ringRow" "LQueueHall$Row;") (List.mem_of_getElem? (i := 1) (by decide +kernel))) (fun _ h9 => h9) rfl dX1_serve_23 ?_
    refine lv_iload_n hx hb dX1_serve_26 rfl (lv_at hl 0 rfl) ?_
    have hPc := hP.sub (ws' := [(a2, .inr (0, [.ref b2, .int (nI nr)])), (b2, .inl (cA, 2100, .inl fr))]) [3, 4] rfl
    have hKc := hK.sub (tys' := [(cA, .int)]) [0] rfl
    refine q_cslE (va_runVN (As := [.int (nI 0)]) (rest := []) ⟨hx, hb, hml, hown, hts⟩ (c_Row_at l dC dI a2 b2 nr cA fr gr (nI 0) (by omega) ha2) ⟨va_cnB 1 hts gX1_serve_X0_at rfl rfl rfl (qN_at hN) (hts (.initialized RX0) (List.mem_of_getElem? (i := 4) (by decide +kernel))) (by decide +kernel) ⟨Nat.le_of_ble_eq_true rfl, Nat.le_of_ble_eq_true rfl⟩, (hts (.instanceMethod yX0_at) (List.mem_of_getElem? (i := 2) (by decide +kernel))), (hts (.selects RX0 yX0_at yX0_at) (List.mem_of_getElem? (i := 3) (by decide +kernel)))⟩ ⟨q_blR, va_recv hKc hPc (ci := 0) (q0 := 0) rfl rfl, fun U hU hW => ⟨rfl, by rw [hU]; exact hPc, va_K.moved hW.alike hKc⟩⟩ rfl rfl hl.1 rfl (lv_room (Nat.le_of_ble_eq_true rfl)) dX1_serve_27 ⟨Nat.le_of_ble_eq_true rfl, Nat.le_of_ble_eq_true rfl⟩) ?_
    refine q_topl (y := qNo) (qAt_o h00) ?_
    refine lv_goto (tgt := 41) hx hb dX1_serve_30 (by decide) ?_
    exact W.lret (v := qNo) hx hb hr (fun t ht hW => ⟨⟨qNo, ((gh, nh), (gr, nr), (gk, nk), fi, me), rfl, (by simp only [qServe, if_pos hn0]), fh, fr, fk, ha1, ha2, ha3, by rw [ht]; exact hP, va_K.moved hW.alike hK, hD⟩, hS.F ht⟩) hS.2.2 dX1_serve_41
  · refine lv_iload_n hx hb dX1_serve_0 rfl (lv_at hl 1 rfl) ?_
    refine lv_if_eq (tgt := 8) hx hb dX1_serve_1 (by decide) (fun c_0 => absurd c_0 (show ¬ p0 = (0 : Int32) from hz)) (fun c_19 => ?_)
    refine lv_iconst (v := nI 0) hx hb dX1_serve_4 (by decide) ?_
    refine lv_goto (tgt := 17) hx hb dX1_serve_5 (by decide) ?_
    refine lv_istore_n (lv' := [(3, .int (nI 0)), (0, .ref x0), (1, .int p0), (2, .int p1)]) hx hb dX1_serve_17 rfl hl (by decide) rfl (fun ls hl => ?_)
    refine lv_iload_n hx hb dX1_serve_18 rfl (lv_at hl 3 rfl) ?_
    refine lv_if_eq (tgt := 33) hx hb dX1_serve_19 (by decide) (fun c_0 => absurd c_0 (show ¬ p1 = (0 : Int32) from hy)) (fun c_20 => ?_)
    refine lv_aload_n hx hb dX1_serve_22 rfl (lv_at hl 1 rfl) ?_
    refine va_get (D := (dC, dI)) (ci := 1) (v := .ref a2) (C := RX1) (T := TX1) (N := 5) hx hb hts inX1_serve_X1 hown hK hP 0 rfl rfl 1 (by decide) (hts (.fieldLink RX1 16 "QueueHall" "ringRow" "LQueueHall$Row;") (List.mem_of_getElem? (i := 1) (by decide +kernel))) (fun _ h9 => h9) rfl dX1_serve_23 ?_
    refine lv_iload_n hx hb dX1_serve_26 rfl (lv_at hl 0 rfl) ?_
    have hPc := hP.sub (ws' := [(a2, .inr (0, [.ref b2, .int (nI nr)])), (b2, .inl (cA, 2100, .inl fr))]) [3, 4] rfl
    have hKc := hK.sub (tys' := [(cA, .int)]) [0] rfl
    refine q_cslE (va_runVN (As := [.int (nI 0)]) (rest := []) ⟨hx, hb, hml, hown, hts⟩ (c_Row_at l dC dI a2 b2 nr cA fr gr (nI 0) (by omega) ha2) ⟨va_cnB 1 hts gX1_serve_X0_at rfl rfl rfl (qN_at hN) (hts (.initialized RX0) (List.mem_of_getElem? (i := 4) (by decide +kernel))) (by decide +kernel) ⟨Nat.le_of_ble_eq_true rfl, Nat.le_of_ble_eq_true rfl⟩, (hts (.instanceMethod yX0_at) (List.mem_of_getElem? (i := 2) (by decide +kernel))), (hts (.selects RX0 yX0_at yX0_at) (List.mem_of_getElem? (i := 3) (by decide +kernel)))⟩ ⟨q_blR, va_recv hKc hPc (ci := 0) (q0 := 0) rfl rfl, fun U hU hW => ⟨rfl, by rw [hU]; exact hPc, va_K.moved hW.alike hKc⟩⟩ rfl rfl hl.1 rfl (lv_room (Nat.le_of_ble_eq_true rfl)) dX1_serve_27 ⟨Nat.le_of_ble_eq_true rfl, Nat.le_of_ble_eq_true rfl⟩) ?_
    refine q_topl (y := (gr 0).toInt64) (qAt_i (by omega) (by omega)) ?_
    refine lv_goto (tgt := 41) hx hb dX1_serve_30 (by decide) ?_
    exact W.lret (v := (gr 0).toInt64) hx hb hr (fun t ht hW => ⟨⟨(gr 0).toInt64, ((gh, nh), (gr, nr), (gk, nk), fi, me), rfl, (by simp only [qServe, if_neg (show ¬ nr = 0 by omega), if_neg hy, if_neg hz]), fh, fr, fk, ha1, ha2, ha3, by rw [ht]; exact hP, va_K.moved hW.alike hK, hD⟩, hS.F ht⟩) hS.2.2 dX1_serve_41

set_option maxHeartbeats 4000000 in
set_option maxRecDepth 100000 in
theorem c_Hall_drop (l : Launch) (dC : Nat → ClassId) (dI : Nat → Nat → Nat) (sz : Nat) (x0 a1 b1 a2 b2 a3 b3 nh nr nk : Nat) (cA : ClassId) (fh gh fr gr fk gk : Nat → Int32) (fi me : Int32) (p0 p1 : Int32) (hn : nh + nr + nk < 2000) (ha1 : qAg nh fh gh) (ha2 : qAg nr fr gr) (ha3 : qAg nk fk gk) (hF : qFok fi me nk) : Met l yX1_drop wsX1_drop ({ frames := 2, cells := 0, slots := 0, locals := 58 }) (va_Pc [.ref x0, .int p0, .int p1] (fun U => U.heap.size = sz ∧ va_P (dC, dI) vwCl [(x0, .inr (1, [.ref a1, .ref a2, .ref a3, .int fi, .int me])), (a1, .inr (0, [.ref b1, .int (nI nh)])), (b1, .inl (cA, 2100, .inl fh)), (a2, .inr (0, [.ref b2, .int (nI nr)])), (b2, .inl (cA, 2100, .inl fr)), (a3, .inr (0, [.ref b3, .int (nI nk)])), (b3, .inl (cA, 2100, .inl fk))] U.heap ∧ va_K (dC, dI) vwCl [(cA, .int)] U ∧ va_D (fun _ => True) [(x0, .inr (1, [.ref a1, .ref a2, .ref a3, .int fi, .int me])), (a1, .inr (0, [.ref b1, .int (nI nh)])), (b1, .inl (cA, 2100, .inl fh)), (a2, .inr (0, [.ref b2, .int (nI nr)])), (b2, .inl (cA, 2100, .inl fr)), (a3, .inr (0, [.ref b3, .int (nI nk)])), (b3, .inl (cA, 2100, .inl fk))] ∧ qNest U)) (va_Qi (fun (r : Int32) (u : qS) => (r, u) = qDrop p0 p1 ((gh, nh), (gr, nr), (gk, nk), fi, me)) (at_H dC dI (va_A [(x0, .inr (1, [.ref a1, .ref a2, .ref a3, .int fi, .int me])), (a1, .inr (0, [.ref b1, .int (nI nh)])), (b1, .inl (cA, 2100, .inl fh)), (a2, .inr (0, [.ref b2, .int (nI nr)])), (b2, .inl (cA, 2100, .inl fr)), (a3, .inr (0, [.ref b3, .int (nI nk)])), (b3, .inl (cA, 2100, .inl fk))] sz) x0 a1 b1 a2 b2 a3 b3 cA) (va_A [(x0, .inr (1, [.ref a1, .ref a2, .ref a3, .int fi, .int me])), (a1, .inr (0, [.ref b1, .int (nI nh)])), (b1, .inl (cA, 2100, .inl fh)), (a2, .inr (0, [.ref b2, .int (nI nr)])), (b2, .inl (cA, 2100, .inl fr)), (a3, .inr (0, [.ref b3, .int (nI nk)])), (b3, .inl (cA, 2100, .inl fk))] sz)) 0 0 (va_A [(x0, .inr (1, [.ref a1, .ref a2, .ref a3, .int fi, .int me])), (a1, .inr (0, [.ref b1, .int (nI nh)])), (b1, .inl (cA, 2100, .inl fh)), (a2, .inr (0, [.ref b2, .int (nI nr)])), (b2, .inl (cA, 2100, .inl fr)), (a3, .inr (0, [.ref b3, .int (nI nk)])), (b3, .inl (cA, 2100, .inl fk))] sz) := by
  refine Met.ofW (cc := cX1_drop) (maxL := 4) (ret := (some .boolean)) (by decide +kernel) rfl ?_
  intro p e s m args below meth c s₁ B hml hv
  obtain ⟨rfl, hsz, hP, hK, hD0, hN⟩ := hv
  have hx := B.exec
  have hb := B.bytes
  have hr := B.returns
  have hts := atoms_spec (ws := wsX1_drop) B.pre
  have hown : s.vm.findClass RX1 = some m.cls := findClass_of_methodNamed B.named
  have hlocks := B.notSynchronized
  subst hsz
  have hD := hD0.self (sz := s.heap.size)
  generalize hAe : va_A [(x0, .inr (1, [.ref a1, .ref a2, .ref a3, .int fi, .int me])), (a1, .inr (0, [.ref b1, .int (nI nh)])), (b1, .inl (cA, 2100, .inl fh)), (a2, .inr (0, [.ref b2, .int (nI nr)])), (b2, .inl (cA, 2100, .inl fr)), (a3, .inr (0, [.ref b3, .int (nI nk)])), (b3, .inl (cA, 2100, .inl fk))] s.heap.size = A at hD ⊢
  have hA : ∀ q : Nat, s.heap.size ≤ q → A q := fun q h => by rw [← hAe]; exact Or.inr h
  have hS : va_S A s.heap s.heap [] := va_S.rf
  have hl := lv_entry ([.ref x0, .int p0, .int p1]) (n := 4) (Nat.le_of_ble_eq_true rfl)
  rw [lg_entry_eq]
  generalize (lg_sl ([.ref x0, .int p0, .int p1]) ++ List.replicate (4 - (lg_sl ([.ref x0, .int p0, .int p1])).length) Slot.unset).toArray = ls at hl ⊢
  have hl : lv_has ls 4 [(0, .ref x0), (1, .int p0), (2, .int p1)] := hl
  rcases qPl_r (g := gr) (v := p0) (z := if p1 = 0 then 1 else 0) nr with hq | ⟨k, hk, hq, hv⟩ <;> by_cases hz : p1 = 0
  · rw [if_pos hz] at hq
    refine lv_iload_n hx hb dX1_drop_0 rfl (lv_at hl 2 rfl) ?_
    refine lv_if_eq (tgt := 15) hx hb dX1_drop_1 (by decide) (fun c_1 => ?_) (fun c_0 => absurd (show p1 = (0 : Int32) from hz) c_0)
    refine lv_aload_n hx hb dX1_drop_15 rfl (lv_at hl 0 rfl) ?_
    refine va_get (D := (dC, dI)) (ci := 1) (v := .ref a2) (C := RX1) (T := TX1) (N := 5) hx hb hts inX1_drop_X1 hown hK hP 0 rfl rfl 1 (by decide) (hts (.fieldLink RX1 16 "QueueHall" "ringRow" "LQueueHall$Row;") (List.mem_of_getElem? (i := 1) (by decide +kernel))) (fun _ h9 => h9) rfl dX1_drop_16 ?_
    refine lv_iload_n hx hb dX1_drop_19 rfl (lv_at hl 1 rfl) ?_
    have hPc := hP.sub (ws' := [(a2, .inr (0, [.ref b2, .int (nI nr)])), (b2, .inl (cA, 2100, .inl fr))]) [3, 4] rfl
    have hKc := hK.sub (tys' := [(cA, .int)]) [0] rfl
    refine q_csiE (va_runVN (As := [.int p0]) (rest := []) ⟨hx, hb, hml, hown, hts⟩ (c_Row_lastPlace l dC dI a2 b2 nr cA fr gr p0 (by omega) ha2) ⟨va_cnB 1 hts gX1_drop_X0_lastPlace rfl rfl rfl (qN_lastPlace hN) (hts (.initialized RX0) (List.mem_of_getElem? (i := 4) (by decide +kernel))) (by decide +kernel) ⟨Nat.le_of_ble_eq_true rfl, Nat.le_of_ble_eq_true rfl⟩, (hts (.instanceMethod yX0_lastPlace) (List.mem_of_getElem? (i := 8) (by decide +kernel))), (hts (.selects RX0 yX0_lastPlace yX0_lastPlace) (List.mem_of_getElem? (i := 9) (by decide +kernel)))⟩ ⟨q_blR, va_recv hKc hPc (ci := 0) (q0 := 0) rfl rfl, fun U hU hW => ⟨rfl, by rw [hU]; exact hPc, va_K.moved hW.alike hKc⟩⟩ rfl rfl hl.1 rfl (lv_room (Nat.le_of_ble_eq_true rfl)) dX1_drop_20 ⟨Nat.le_of_ble_eq_true rfl, Nat.le_of_ble_eq_true rfl⟩) ?_
    refine q_top (y := -1) hq ?_
    refine lv_istore_n (lv' := [(3, .int (-1)), (0, .ref x0), (1, .int p0), (2, .int p1)]) hx hb dX1_drop_23 rfl hl (by decide) rfl (fun ls hl => ?_)
    refine lv_aload_n hx hb dX1_drop_24 rfl (lv_at hl 1 rfl) ?_
    refine va_get (D := (dC, dI)) (ci := 1) (v := .ref a2) (C := RX1) (T := TX1) (N := 5) hx hb hts inX1_drop_X1 hown hK hP 0 rfl rfl 1 (by decide) (hts (.fieldLink RX1 16 "QueueHall" "ringRow" "LQueueHall$Row;") (List.mem_of_getElem? (i := 1) (by decide +kernel))) (fun _ h9 => h9) rfl dX1_drop_25 ?_
    refine lv_iload_n hx hb dX1_drop_28 rfl (lv_at hl 0 rfl) ?_
    have hPc := hP.sub (ws' := [(a2, .inr (0, [.ref b2, .int (nI nr)])), (b2, .inl (cA, 2100, .inl fr))]) [3, 4] rfl
    have hKc := hK.sub (tys' := [(cA, .int)]) [0] rfl
    have hDc := hD.sub (ws' := [(a2, .inr (0, [.ref b2, .int (nI nr)])), (b2, .inl (cA, 2100, .inl fr))]) [3, 4] (by decide) rfl
    have hFc := va_free (wc := [(a2, .inr (0, [.ref b2, .int (nI nr)])), (b2, .inl (cA, 2100, .inl fr))]) hD hS hA [3, 4] rfl
    refine va_calll (va_runVN (As := [.int (-1)]) (rest := []) ⟨hx, hb, hml, hown, hts⟩ (c_Row_take l dC dI s.heap.size a2 b2 nr cA fr gr (-1) (by omega) ha2) ⟨va_cnB 1 hts gX1_drop_X0_take rfl rfl rfl (qN_take hN) (hts (.initialized RX0) (List.mem_of_getElem? (i := 4) (by decide +kernel))) (by decide +kernel) ⟨Nat.le_of_ble_eq_true rfl, Nat.le_of_ble_eq_true rfl⟩, (hts (.instanceMethod yX0_take) (List.mem_of_getElem? (i := 11) (by decide +kernel))), (hts (.selects RX0 yX0_take yX0_take) (List.mem_of_getElem? (i := 12) (by decide +kernel)))⟩ ⟨q_blW, va_recv hKc hPc (ci := 0) (q0 := 0) rfl rfl, fun U hU hW => ⟨rfl, by rw [hU], by rw [hU]; exact hPc, va_K.moved hW.alike hKc, hDc.weaken (fun _ _ _ _ => trivial)⟩⟩ rfl rfl hl.1 rfl (lv_room (Nat.le_of_ble_eq_true rfl)) dX1_drop_29 ⟨Nat.le_of_ble_eq_true rfl, Nat.le_of_ble_eq_true rfl⟩) hS (fun q _ h => hFc q h) hFc (fun r_2 u_2 t_2 H1 locs ht hvm hw hB hz1 hk1 hS => ?_)
    have hw := hw.trans (qTake_o (qHp_m1))
    obtain ⟨rfl, rfl⟩ := Prod.mk.inj hw
    obtain ⟨f_2, hg_2, hP1, hK1, hD1⟩ := hB
    rw [ht] at hP1
    obtain ⟨hP, hD⟩ := q_join (wr := [(x0, .inr (1, [.ref a1, .ref a2, .ref a3, .int fi, .int me])), (a1, .inr (0, [.ref b1, .int (nI nh)])), (b1, .inl (cA, 2100, .inl fh)), (a3, .inr (0, [.ref b3, .int (nI nk)])), (b3, .inl (cA, 2100, .inl fk))]) (w1 := [(a2, .inr (0, [.ref b2, .int (nI nr)])), (b2, .inl (cA, 2100, .inl f_2))]) (wz := [(x0, .inr (1, [.ref a1, .ref a2, .ref a3, .int fi, .int me])), (a1, .inr (0, [.ref b1, .int (nI nh)])), (b1, .inl (cA, 2100, .inl fh)), (a2, .inr (0, [.ref b2, .int (nI nr)])), (b2, .inl (cA, 2100, .inl f_2)), (a3, .inr (0, [.ref b3, .int (nI nk)])), (b3, .inl (cA, 2100, .inl fk))]) hP hD [3, 4] [0, 1, 2, 5, 6] [0, 1, 2, 5, 6, 3, 4] rfl rfl (by decide) (by decide) hk1 hFc hP1 hD1 rfl rfl (by decide)
    generalize H1 = H at hP hS ⊢
    refine lv_ldc2 (v := qNo) hx hb hown (hts (.constantLong RX1 50 (1099511627776)) (List.mem_of_getElem? (i := 23) (by decide +kernel))) dX1_drop_32 ?_
    refine W.lcmp hx hb dX1_drop_35 ?_
    refine lv_if_eq (tgt := 43) hx hb dX1_drop_36 (by decide) (fun _ => ?_) (fun c_0 => absurd ((lg_cmp_eq _ _).mpr rfl) c_0)
    refine lv_iconst (v := 0) hx hb dX1_drop_43 (by decide) ?_
    exact W.zret (v := 0) hx hb hr rfl (fun t ht hW => ⟨⟨0, ((gh, nh), (gr, nr), (gk, nk), fi, me), rfl, (by simp only [qDrop, if_pos hz, hq, if_pos (show (-1 : Int32) < 0 by decide)]), fh, f_2, fk, ha1, hg_2, ha3, by rw [ht]; exact hP, va_K.moved hW.alike hK, hD⟩, hS.F ht⟩) hS.2.2 dX1_drop_44
  · rw [if_neg hz] at hq
    refine lv_iload_n hx hb dX1_drop_0 rfl (lv_at hl 2 rfl) ?_
    refine lv_if_eq (tgt := 15) hx hb dX1_drop_1 (by decide) (fun c_0 => absurd c_0 (show ¬ p1 = (0 : Int32) from hz)) (fun c_3 => ?_)
    refine lv_aload_n hx hb dX1_drop_4 rfl (lv_at hl 0 rfl) ?_
    refine va_get (D := (dC, dI)) (ci := 1) (v := .ref a2) (C := RX1) (T := TX1) (N := 5) hx hb hts inX1_drop_X1 hown hK hP 0 rfl rfl 1 (by decide) (hts (.fieldLink RX1 16 "QueueHall" "ringRow" "LQueueHall$Row;") (List.mem_of_getElem? (i := 1) (by decide +kernel))) (fun _ h9 => h9) rfl dX1_drop_5 ?_
    refine lv_iload_n hx hb dX1_drop_8 rfl (lv_at hl 1 rfl) ?_
    have hPc := hP.sub (ws' := [(a2, .inr (0, [.ref b2, .int (nI nr)])), (b2, .inl (cA, 2100, .inl fr))]) [3, 4] rfl
    have hKc := hK.sub (tys' := [(cA, .int)]) [0] rfl
    refine q_csiE (va_runVN (As := [.int p0]) (rest := []) ⟨hx, hb, hml, hown, hts⟩ (c_Row_firstPlace l dC dI a2 b2 nr cA fr gr p0 (by omega) ha2) ⟨va_cnB 1 hts gX1_drop_X0_firstPlace rfl rfl rfl (qN_firstPlace hN) (hts (.initialized RX0) (List.mem_of_getElem? (i := 4) (by decide +kernel))) (by decide +kernel) ⟨Nat.le_of_ble_eq_true rfl, Nat.le_of_ble_eq_true rfl⟩, (hts (.instanceMethod yX0_firstPlace) (List.mem_of_getElem? (i := 2) (by decide +kernel))), (hts (.selects RX0 yX0_firstPlace yX0_firstPlace) (List.mem_of_getElem? (i := 3) (by decide +kernel)))⟩ ⟨q_blR, va_recv hKc hPc (ci := 0) (q0 := 0) rfl rfl, fun U hU hW => ⟨rfl, by rw [hU]; exact hPc, va_K.moved hW.alike hKc⟩⟩ rfl rfl hl.1 rfl (lv_room (Nat.le_of_ble_eq_true rfl)) dX1_drop_9 ⟨Nat.le_of_ble_eq_true rfl, Nat.le_of_ble_eq_true rfl⟩) ?_
    refine q_top (y := -1) hq ?_
    refine lv_goto (tgt := 23) hx hb dX1_drop_12 (by decide) ?_
    refine lv_istore_n (lv' := [(3, .int (-1)), (0, .ref x0), (1, .int p0), (2, .int p1)]) hx hb dX1_drop_23 rfl hl (by decide) rfl (fun ls hl => ?_)
    refine lv_aload_n hx hb dX1_drop_24 rfl (lv_at hl 1 rfl) ?_
    refine va_get (D := (dC, dI)) (ci := 1) (v := .ref a2) (C := RX1) (T := TX1) (N := 5) hx hb hts inX1_drop_X1 hown hK hP 0 rfl rfl 1 (by decide) (hts (.fieldLink RX1 16 "QueueHall" "ringRow" "LQueueHall$Row;") (List.mem_of_getElem? (i := 1) (by decide +kernel))) (fun _ h9 => h9) rfl dX1_drop_25 ?_
    refine lv_iload_n hx hb dX1_drop_28 rfl (lv_at hl 0 rfl) ?_
    have hPc := hP.sub (ws' := [(a2, .inr (0, [.ref b2, .int (nI nr)])), (b2, .inl (cA, 2100, .inl fr))]) [3, 4] rfl
    have hKc := hK.sub (tys' := [(cA, .int)]) [0] rfl
    have hDc := hD.sub (ws' := [(a2, .inr (0, [.ref b2, .int (nI nr)])), (b2, .inl (cA, 2100, .inl fr))]) [3, 4] (by decide) rfl
    have hFc := va_free (wc := [(a2, .inr (0, [.ref b2, .int (nI nr)])), (b2, .inl (cA, 2100, .inl fr))]) hD hS hA [3, 4] rfl
    refine va_calll (va_runVN (As := [.int (-1)]) (rest := []) ⟨hx, hb, hml, hown, hts⟩ (c_Row_take l dC dI s.heap.size a2 b2 nr cA fr gr (-1) (by omega) ha2) ⟨va_cnB 1 hts gX1_drop_X0_take rfl rfl rfl (qN_take hN) (hts (.initialized RX0) (List.mem_of_getElem? (i := 4) (by decide +kernel))) (by decide +kernel) ⟨Nat.le_of_ble_eq_true rfl, Nat.le_of_ble_eq_true rfl⟩, (hts (.instanceMethod yX0_take) (List.mem_of_getElem? (i := 11) (by decide +kernel))), (hts (.selects RX0 yX0_take yX0_take) (List.mem_of_getElem? (i := 12) (by decide +kernel)))⟩ ⟨q_blW, va_recv hKc hPc (ci := 0) (q0 := 0) rfl rfl, fun U hU hW => ⟨rfl, by rw [hU], by rw [hU]; exact hPc, va_K.moved hW.alike hKc, hDc.weaken (fun _ _ _ _ => trivial)⟩⟩ rfl rfl hl.1 rfl (lv_room (Nat.le_of_ble_eq_true rfl)) dX1_drop_29 ⟨Nat.le_of_ble_eq_true rfl, Nat.le_of_ble_eq_true rfl⟩) hS (fun q _ h => hFc q h) hFc (fun r_4 u_4 t_4 H1 locs ht hvm hw hB hz1 hk1 hS => ?_)
    have hw := hw.trans (qTake_o (qHp_m1))
    obtain ⟨rfl, rfl⟩ := Prod.mk.inj hw
    obtain ⟨f_4, hg_4, hP1, hK1, hD1⟩ := hB
    rw [ht] at hP1
    obtain ⟨hP, hD⟩ := q_join (wr := [(x0, .inr (1, [.ref a1, .ref a2, .ref a3, .int fi, .int me])), (a1, .inr (0, [.ref b1, .int (nI nh)])), (b1, .inl (cA, 2100, .inl fh)), (a3, .inr (0, [.ref b3, .int (nI nk)])), (b3, .inl (cA, 2100, .inl fk))]) (w1 := [(a2, .inr (0, [.ref b2, .int (nI nr)])), (b2, .inl (cA, 2100, .inl f_4))]) (wz := [(x0, .inr (1, [.ref a1, .ref a2, .ref a3, .int fi, .int me])), (a1, .inr (0, [.ref b1, .int (nI nh)])), (b1, .inl (cA, 2100, .inl fh)), (a2, .inr (0, [.ref b2, .int (nI nr)])), (b2, .inl (cA, 2100, .inl f_4)), (a3, .inr (0, [.ref b3, .int (nI nk)])), (b3, .inl (cA, 2100, .inl fk))]) hP hD [3, 4] [0, 1, 2, 5, 6] [0, 1, 2, 5, 6, 3, 4] rfl rfl (by decide) (by decide) hk1 hFc hP1 hD1 rfl rfl (by decide)
    generalize H1 = H at hP hS ⊢
    refine lv_ldc2 (v := qNo) hx hb hown (hts (.constantLong RX1 50 (1099511627776)) (List.mem_of_getElem? (i := 23) (by decide +kernel))) dX1_drop_32 ?_
    refine W.lcmp hx hb dX1_drop_35 ?_
    refine lv_if_eq (tgt := 43) hx hb dX1_drop_36 (by decide) (fun _ => ?_) (fun c_0 => absurd ((lg_cmp_eq _ _).mpr rfl) c_0)
    refine lv_iconst (v := 0) hx hb dX1_drop_43 (by decide) ?_
    exact W.zret (v := 0) hx hb hr rfl (fun t ht hW => ⟨⟨0, ((gh, nh), (gr, nr), (gk, nk), fi, me), rfl, (by simp only [qDrop, if_neg hz, hq, if_pos (show (-1 : Int32) < 0 by decide)]), fh, f_4, fk, ha1, hg_4, ha3, by rw [ht]; exact hP, va_K.moved hW.alike hK, hD⟩, hS.F ht⟩) hS.2.2 dX1_drop_44
  · rw [if_pos hz] at hq
    refine lv_iload_n hx hb dX1_drop_0 rfl (lv_at hl 2 rfl) ?_
    refine lv_if_eq (tgt := 15) hx hb dX1_drop_1 (by decide) (fun c_5 => ?_) (fun c_0 => absurd (show p1 = (0 : Int32) from hz) c_0)
    refine lv_aload_n hx hb dX1_drop_15 rfl (lv_at hl 0 rfl) ?_
    refine va_get (D := (dC, dI)) (ci := 1) (v := .ref a2) (C := RX1) (T := TX1) (N := 5) hx hb hts inX1_drop_X1 hown hK hP 0 rfl rfl 1 (by decide) (hts (.fieldLink RX1 16 "QueueHall" "ringRow" "LQueueHall$Row;") (List.mem_of_getElem? (i := 1) (by decide +kernel))) (fun _ h9 => h9) rfl dX1_drop_16 ?_
    refine lv_iload_n hx hb dX1_drop_19 rfl (lv_at hl 1 rfl) ?_
    have hPc := hP.sub (ws' := [(a2, .inr (0, [.ref b2, .int (nI nr)])), (b2, .inl (cA, 2100, .inl fr))]) [3, 4] rfl
    have hKc := hK.sub (tys' := [(cA, .int)]) [0] rfl
    refine q_csiE (va_runVN (As := [.int p0]) (rest := []) ⟨hx, hb, hml, hown, hts⟩ (c_Row_lastPlace l dC dI a2 b2 nr cA fr gr p0 (by omega) ha2) ⟨va_cnB 1 hts gX1_drop_X0_lastPlace rfl rfl rfl (qN_lastPlace hN) (hts (.initialized RX0) (List.mem_of_getElem? (i := 4) (by decide +kernel))) (by decide +kernel) ⟨Nat.le_of_ble_eq_true rfl, Nat.le_of_ble_eq_true rfl⟩, (hts (.instanceMethod yX0_lastPlace) (List.mem_of_getElem? (i := 8) (by decide +kernel))), (hts (.selects RX0 yX0_lastPlace yX0_lastPlace) (List.mem_of_getElem? (i := 9) (by decide +kernel)))⟩ ⟨q_blR, va_recv hKc hPc (ci := 0) (q0 := 0) rfl rfl, fun U hU hW => ⟨rfl, by rw [hU]; exact hPc, va_K.moved hW.alike hKc⟩⟩ rfl rfl hl.1 rfl (lv_room (Nat.le_of_ble_eq_true rfl)) dX1_drop_20 ⟨Nat.le_of_ble_eq_true rfl, Nat.le_of_ble_eq_true rfl⟩) ?_
    refine q_top (y := nI k) hq ?_
    refine lv_istore_n (lv' := [(3, .int (nI k)), (0, .ref x0), (1, .int p0), (2, .int p1)]) hx hb dX1_drop_23 rfl hl (by decide) rfl (fun ls hl => ?_)
    refine lv_aload_n hx hb dX1_drop_24 rfl (lv_at hl 1 rfl) ?_
    refine va_get (D := (dC, dI)) (ci := 1) (v := .ref a2) (C := RX1) (T := TX1) (N := 5) hx hb hts inX1_drop_X1 hown hK hP 0 rfl rfl 1 (by decide) (hts (.fieldLink RX1 16 "QueueHall" "ringRow" "LQueueHall$Row;") (List.mem_of_getElem? (i := 1) (by decide +kernel))) (fun _ h9 => h9) rfl dX1_drop_25 ?_
    refine lv_iload_n hx hb dX1_drop_28 rfl (lv_at hl 0 rfl) ?_
    have hPc := hP.sub (ws' := [(a2, .inr (0, [.ref b2, .int (nI nr)])), (b2, .inl (cA, 2100, .inl fr))]) [3, 4] rfl
    have hKc := hK.sub (tys' := [(cA, .int)]) [0] rfl
    have hDc := hD.sub (ws' := [(a2, .inr (0, [.ref b2, .int (nI nr)])), (b2, .inl (cA, 2100, .inl fr))]) [3, 4] (by decide) rfl
    have hFc := va_free (wc := [(a2, .inr (0, [.ref b2, .int (nI nr)])), (b2, .inl (cA, 2100, .inl fr))]) hD hS hA [3, 4] rfl
    refine va_calll (va_runVN (As := [.int (nI k)]) (rest := []) ⟨hx, hb, hml, hown, hts⟩ (c_Row_take l dC dI s.heap.size a2 b2 nr cA fr gr (nI k) (by omega) ha2) ⟨va_cnB 1 hts gX1_drop_X0_take rfl rfl rfl (qN_take hN) (hts (.initialized RX0) (List.mem_of_getElem? (i := 4) (by decide +kernel))) (by decide +kernel) ⟨Nat.le_of_ble_eq_true rfl, Nat.le_of_ble_eq_true rfl⟩, (hts (.instanceMethod yX0_take) (List.mem_of_getElem? (i := 11) (by decide +kernel))), (hts (.selects RX0 yX0_take yX0_take) (List.mem_of_getElem? (i := 12) (by decide +kernel)))⟩ ⟨q_blW, va_recv hKc hPc (ci := 0) (q0 := 0) rfl rfl, fun U hU hW => ⟨rfl, by rw [hU], by rw [hU]; exact hPc, va_K.moved hW.alike hKc, hDc.weaken (fun _ _ _ _ => trivial)⟩⟩ rfl rfl hl.1 rfl (lv_room (Nat.le_of_ble_eq_true rfl)) dX1_drop_29 ⟨Nat.le_of_ble_eq_true rfl, Nat.le_of_ble_eq_true rfl⟩) hS (fun q _ h => hFc q h) hFc (fun r_6 u_6 t_6 H1 locs ht hvm hw hB hz1 hk1 hS => ?_)
    have hw := hw.trans (qTake_i (k := k) (by omega) (by omega))
    obtain ⟨rfl, rfl⟩ := Prod.mk.inj hw
    obtain ⟨f_6, hg_6, hP1, hK1, hD1⟩ := hB
    rw [ht] at hP1
    obtain ⟨hP, hD⟩ := q_join (wr := [(x0, .inr (1, [.ref a1, .ref a2, .ref a3, .int fi, .int me])), (a1, .inr (0, [.ref b1, .int (nI nh)])), (b1, .inl (cA, 2100, .inl fh)), (a3, .inr (0, [.ref b3, .int (nI nk)])), (b3, .inl (cA, 2100, .inl fk))]) (w1 := [(a2, .inr (0, [.ref b2, .int (nI (nr - 1))])), (b2, .inl (cA, 2100, .inl f_6))]) (wz := [(x0, .inr (1, [.ref a1, .ref a2, .ref a3, .int fi, .int me])), (a1, .inr (0, [.ref b1, .int (nI nh)])), (b1, .inl (cA, 2100, .inl fh)), (a2, .inr (0, [.ref b2, .int (nI (nr - 1))])), (b2, .inl (cA, 2100, .inl f_6)), (a3, .inr (0, [.ref b3, .int (nI nk)])), (b3, .inl (cA, 2100, .inl fk))]) hP hD [3, 4] [0, 1, 2, 5, 6] [0, 1, 2, 5, 6, 3, 4] rfl rfl (by decide) (by decide) hk1 hFc hP1 hD1 rfl rfl (by decide)
    generalize H1 = H at hP hS ⊢
    refine lv_ldc2 (v := qNo) hx hb hown (hts (.constantLong RX1 50 (1099511627776)) (List.mem_of_getElem? (i := 23) (by decide +kernel))) dX1_drop_32 ?_
    refine W.lcmp hx hb dX1_drop_35 ?_
    refine lv_if_eq (tgt := 43) hx hb dX1_drop_36 (by decide) (fun c_0 => absurd c_0 (fun q => q_no _ ((lg_cmp_eq _ _).mp q))) (fun _ => ?_)
    refine lv_iconst (v := 1) hx hb dX1_drop_39 (by decide) ?_
    refine lv_goto (tgt := 44) hx hb dX1_drop_40 (by decide) ?_
    exact W.zret (v := 1) hx hb hr rfl (fun t ht hW => ⟨⟨1, ((gh, nh), (qDel gr k, nr - 1), (gk, nk), fi, me), rfl, (by simp only [qDrop, if_pos hz, hq, if_neg (nI_pos (show k < 2 ^ 31 by omega)), nI_clamp (show k < 2 ^ 31 by omega)]), fh, f_6, fk, ha1, hg_6, ha3, by rw [ht]; exact hP, va_K.moved hW.alike hK, hD⟩, hS.F ht⟩) hS.2.2 dX1_drop_44
  · rw [if_neg hz] at hq
    refine lv_iload_n hx hb dX1_drop_0 rfl (lv_at hl 2 rfl) ?_
    refine lv_if_eq (tgt := 15) hx hb dX1_drop_1 (by decide) (fun c_0 => absurd c_0 (show ¬ p1 = (0 : Int32) from hz)) (fun c_7 => ?_)
    refine lv_aload_n hx hb dX1_drop_4 rfl (lv_at hl 0 rfl) ?_
    refine va_get (D := (dC, dI)) (ci := 1) (v := .ref a2) (C := RX1) (T := TX1) (N := 5) hx hb hts inX1_drop_X1 hown hK hP 0 rfl rfl 1 (by decide) (hts (.fieldLink RX1 16 "QueueHall" "ringRow" "LQueueHall$Row;") (List.mem_of_getElem? (i := 1) (by decide +kernel))) (fun _ h9 => h9) rfl dX1_drop_5 ?_
    refine lv_iload_n hx hb dX1_drop_8 rfl (lv_at hl 1 rfl) ?_
    have hPc := hP.sub (ws' := [(a2, .inr (0, [.ref b2, .int (nI nr)])), (b2, .inl (cA, 2100, .inl fr))]) [3, 4] rfl
    have hKc := hK.sub (tys' := [(cA, .int)]) [0] rfl
    refine q_csiE (va_runVN (As := [.int p0]) (rest := []) ⟨hx, hb, hml, hown, hts⟩ (c_Row_firstPlace l dC dI a2 b2 nr cA fr gr p0 (by omega) ha2) ⟨va_cnB 1 hts gX1_drop_X0_firstPlace rfl rfl rfl (qN_firstPlace hN) (hts (.initialized RX0) (List.mem_of_getElem? (i := 4) (by decide +kernel))) (by decide +kernel) ⟨Nat.le_of_ble_eq_true rfl, Nat.le_of_ble_eq_true rfl⟩, (hts (.instanceMethod yX0_firstPlace) (List.mem_of_getElem? (i := 2) (by decide +kernel))), (hts (.selects RX0 yX0_firstPlace yX0_firstPlace) (List.mem_of_getElem? (i := 3) (by decide +kernel)))⟩ ⟨q_blR, va_recv hKc hPc (ci := 0) (q0 := 0) rfl rfl, fun U hU hW => ⟨rfl, by rw [hU]; exact hPc, va_K.moved hW.alike hKc⟩⟩ rfl rfl hl.1 rfl (lv_room (Nat.le_of_ble_eq_true rfl)) dX1_drop_9 ⟨Nat.le_of_ble_eq_true rfl, Nat.le_of_ble_eq_true rfl⟩) ?_
    refine q_top (y := nI k) hq ?_
    refine lv_goto (tgt := 23) hx hb dX1_drop_12 (by decide) ?_
    refine lv_istore_n (lv' := [(3, .int (nI k)), (0, .ref x0), (1, .int p0), (2, .int p1)]) hx hb dX1_drop_23 rfl hl (by decide) rfl (fun ls hl => ?_)
    refine lv_aload_n hx hb dX1_drop_24 rfl (lv_at hl 1 rfl) ?_
    refine va_get (D := (dC, dI)) (ci := 1) (v := .ref a2) (C := RX1) (T := TX1) (N := 5) hx hb hts inX1_drop_X1 hown hK hP 0 rfl rfl 1 (by decide) (hts (.fieldLink RX1 16 "QueueHall" "ringRow" "LQueueHall$Row;") (List.mem_of_getElem? (i := 1) (by decide +kernel))) (fun _ h9 => h9) rfl dX1_drop_25 ?_
    refine lv_iload_n hx hb dX1_drop_28 rfl (lv_at hl 0 rfl) ?_
    have hPc := hP.sub (ws' := [(a2, .inr (0, [.ref b2, .int (nI nr)])), (b2, .inl (cA, 2100, .inl fr))]) [3, 4] rfl
    have hKc := hK.sub (tys' := [(cA, .int)]) [0] rfl
    have hDc := hD.sub (ws' := [(a2, .inr (0, [.ref b2, .int (nI nr)])), (b2, .inl (cA, 2100, .inl fr))]) [3, 4] (by decide) rfl
    have hFc := va_free (wc := [(a2, .inr (0, [.ref b2, .int (nI nr)])), (b2, .inl (cA, 2100, .inl fr))]) hD hS hA [3, 4] rfl
    refine va_calll (va_runVN (As := [.int (nI k)]) (rest := []) ⟨hx, hb, hml, hown, hts⟩ (c_Row_take l dC dI s.heap.size a2 b2 nr cA fr gr (nI k) (by omega) ha2) ⟨va_cnB 1 hts gX1_drop_X0_take rfl rfl rfl (qN_take hN) (hts (.initialized RX0) (List.mem_of_getElem? (i := 4) (by decide +kernel))) (by decide +kernel) ⟨Nat.le_of_ble_eq_true rfl, Nat.le_of_ble_eq_true rfl⟩, (hts (.instanceMethod yX0_take) (List.mem_of_getElem? (i := 11) (by decide +kernel))), (hts (.selects RX0 yX0_take yX0_take) (List.mem_of_getElem? (i := 12) (by decide +kernel)))⟩ ⟨q_blW, va_recv hKc hPc (ci := 0) (q0 := 0) rfl rfl, fun U hU hW => ⟨rfl, by rw [hU], by rw [hU]; exact hPc, va_K.moved hW.alike hKc, hDc.weaken (fun _ _ _ _ => trivial)⟩⟩ rfl rfl hl.1 rfl (lv_room (Nat.le_of_ble_eq_true rfl)) dX1_drop_29 ⟨Nat.le_of_ble_eq_true rfl, Nat.le_of_ble_eq_true rfl⟩) hS (fun q _ h => hFc q h) hFc (fun r_8 u_8 t_8 H1 locs ht hvm hw hB hz1 hk1 hS => ?_)
    have hw := hw.trans (qTake_i (k := k) (by omega) (by omega))
    obtain ⟨rfl, rfl⟩ := Prod.mk.inj hw
    obtain ⟨f_8, hg_8, hP1, hK1, hD1⟩ := hB
    rw [ht] at hP1
    obtain ⟨hP, hD⟩ := q_join (wr := [(x0, .inr (1, [.ref a1, .ref a2, .ref a3, .int fi, .int me])), (a1, .inr (0, [.ref b1, .int (nI nh)])), (b1, .inl (cA, 2100, .inl fh)), (a3, .inr (0, [.ref b3, .int (nI nk)])), (b3, .inl (cA, 2100, .inl fk))]) (w1 := [(a2, .inr (0, [.ref b2, .int (nI (nr - 1))])), (b2, .inl (cA, 2100, .inl f_8))]) (wz := [(x0, .inr (1, [.ref a1, .ref a2, .ref a3, .int fi, .int me])), (a1, .inr (0, [.ref b1, .int (nI nh)])), (b1, .inl (cA, 2100, .inl fh)), (a2, .inr (0, [.ref b2, .int (nI (nr - 1))])), (b2, .inl (cA, 2100, .inl f_8)), (a3, .inr (0, [.ref b3, .int (nI nk)])), (b3, .inl (cA, 2100, .inl fk))]) hP hD [3, 4] [0, 1, 2, 5, 6] [0, 1, 2, 5, 6, 3, 4] rfl rfl (by decide) (by decide) hk1 hFc hP1 hD1 rfl rfl (by decide)
    generalize H1 = H at hP hS ⊢
    refine lv_ldc2 (v := qNo) hx hb hown (hts (.constantLong RX1 50 (1099511627776)) (List.mem_of_getElem? (i := 23) (by decide +kernel))) dX1_drop_32 ?_
    refine W.lcmp hx hb dX1_drop_35 ?_
    refine lv_if_eq (tgt := 43) hx hb dX1_drop_36 (by decide) (fun c_0 => absurd c_0 (fun q => q_no _ ((lg_cmp_eq _ _).mp q))) (fun _ => ?_)
    refine lv_iconst (v := 1) hx hb dX1_drop_39 (by decide) ?_
    refine lv_goto (tgt := 44) hx hb dX1_drop_40 (by decide) ?_
    exact W.zret (v := 1) hx hb hr rfl (fun t ht hW => ⟨⟨1, ((gh, nh), (qDel gr k, nr - 1), (gk, nk), fi, me), rfl, (by simp only [qDrop, if_neg hz, hq, if_neg (nI_pos (show k < 2 ^ 31 by omega)), nI_clamp (show k < 2 ^ 31 by omega)]), fh, f_8, fk, ha1, hg_8, ha3, by rw [ht]; exact hP, va_K.moved hW.alike hK, hD⟩, hS.F ht⟩) hS.2.2 dX1_drop_44

set_option maxHeartbeats 4000000 in
set_option maxRecDepth 100000 in
theorem c_Hall_ring (l : Launch) (dC : Nat → ClassId) (dI : Nat → Nat → Nat) (x0 a1 b1 a2 b2 a3 b3 nh nr nk : Nat) (cA : ClassId) (fh gh fr gr fk gk : Nat → Int32) (fi me : Int32) (p0 p1 : Int32) (hn : nh + nr + nk < 2000) (ha1 : qAg nh fh gh) (ha2 : qAg nr fr gr) (ha3 : qAg nk fk gk) (hF : qFok fi me nk) : Met l yX1_ring wsX1_ring ({ frames := 2, cells := 0, slots := 0, locals := 58 }) (va_Pc [.ref x0, .int p0, .int p1] (fun U => va_P (dC, dI) vwCl [(x0, .inr (1, [.ref a1, .ref a2, .ref a3, .int fi, .int me])), (a1, .inr (0, [.ref b1, .int (nI nh)])), (b1, .inl (cA, 2100, .inl fh)), (a2, .inr (0, [.ref b2, .int (nI nr)])), (b2, .inl (cA, 2100, .inl fr)), (a3, .inr (0, [.ref b3, .int (nI nk)])), (b3, .inl (cA, 2100, .inl fk))] U.heap ∧ va_K (dC, dI) vwCl [(cA, .int)] U ∧ qNest U)) (vp_Sl (fun r => r = (qRing p0 p1 ((gh, nh), (gr, nr), (gk, nk), fi, me)).1)) 0 0 (fun _ => False) := by
  refine Met.ofW (cc := cX1_ring) (maxL := 3) (ret := (some .long)) (by decide +kernel) rfl ?_
  intro p e s m args below meth c s₁ B hml hv
  obtain ⟨rfl, hP, hK, hN⟩ := hv
  have hx := B.exec
  have hb := B.bytes
  have hr := B.returns
  have hts := atoms_spec (ws := wsX1_ring) B.pre
  have hown : s.vm.findClass RX1 = some m.cls := findClass_of_methodNamed B.named
  have hlocks := B.notSynchronized
  have hl := lv_entry ([.ref x0, .int p0, .int p1]) (n := 3) (Nat.le_of_ble_eq_true rfl)
  rw [lg_entry_eq]
  generalize (lg_sl ([.ref x0, .int p0, .int p1]) ++ List.replicate (3 - (lg_sl ([.ref x0, .int p0, .int p1])).length) Slot.unset).toArray = ls at hl ⊢
  have hl : lv_has ls 3 [(0, .ref x0), (1, .int p0), (2, .int p1)] := hl
  rcases qHp_c p0 (n := nr) (by omega) with h | ⟨k, hk, rfl⟩ <;> by_cases hz : p1 = 0
  · refine lv_aload_n hx hb dX1_ring_0 rfl (lv_at hl 0 rfl) ?_
    refine va_get (D := (dC, dI)) (ci := 1) (v := .ref a2) (C := RX1) (T := TX1) (N := 5) hx hb hts inX1_ring_X1 hown hK hP 0 rfl rfl 1 (by decide) (hts (.fieldLink RX1 16 "QueueHall" "ringRow" "LQueueHall$Row;") (List.mem_of_getElem? (i := 1) (by decide +kernel))) (fun _ h9 => h9) rfl dX1_ring_1 ?_
    refine lv_iload_n hx hb dX1_ring_4 rfl (lv_at hl 1 rfl) ?_
    have hPc := hP.sub (ws' := [(a2, .inr (0, [.ref b2, .int (nI nr)]))]) [3] rfl
    have hKc := hK.sub (tys' := []) [] rfl
    refine q_csiE (va_runVN (As := [.int p0]) (rest := []) ⟨hx, hb, hml, hown, hts⟩ (c_Row_hasPlace l dC dI a2 b2 nr p0) ⟨va_cnB 1 hts gX1_ring_X0_hasPlace rfl rfl rfl (qN_hasPlace hN) (hts (.initialized RX0) (List.mem_of_getElem? (i := 4) (by decide +kernel))) (by decide +kernel) ⟨Nat.le_of_ble_eq_true rfl, Nat.le_of_ble_eq_true rfl⟩, (hts (.instanceMethod yX0_hasPlace) (List.mem_of_getElem? (i := 2) (by decide +kernel))), (hts (.selects RX0 yX0_hasPlace yX0_hasPlace) (List.mem_of_getElem? (i := 3) (by decide +kernel)))⟩ ⟨q_blR, va_recv hKc hPc (ci := 0) (q0 := 0) rfl rfl, fun U hU hW => ⟨rfl, by rw [hU]; exact hPc, va_K.moved hW.alike hKc⟩⟩ rfl rfl hl.1 rfl (lv_room (Nat.le_of_ble_eq_true rfl)) dX1_ring_5 ⟨Nat.le_of_ble_eq_true rfl, Nat.le_of_ble_eq_true rfl⟩) ?_
    refine q_top (y := 0) h ?_
    refine lv_if_ne (tgt := 15) hx hb dX1_ring_8 (by decide) (fun c_0 => absurd (show (0 : Int32) = (0 : Int32) from (by decide)) c_0) (fun c_1 => ?_)
    refine lv_ldc2 (v := qNo) hx hb hown (hts (.constantLong RX1 50 (1099511627776)) (List.mem_of_getElem? (i := 7) (by decide +kernel))) dX1_ring_11 ?_
    exact W.lret (v := qNo) hx hb hr (fun t ht hW => ⟨qNo, rfl, (by simp only [qRing, if_pos h]), ht⟩) (fun q h => by cases h) dX1_ring_14
  · refine lv_aload_n hx hb dX1_ring_0 rfl (lv_at hl 0 rfl) ?_
    refine va_get (D := (dC, dI)) (ci := 1) (v := .ref a2) (C := RX1) (T := TX1) (N := 5) hx hb hts inX1_ring_X1 hown hK hP 0 rfl rfl 1 (by decide) (hts (.fieldLink RX1 16 "QueueHall" "ringRow" "LQueueHall$Row;") (List.mem_of_getElem? (i := 1) (by decide +kernel))) (fun _ h9 => h9) rfl dX1_ring_1 ?_
    refine lv_iload_n hx hb dX1_ring_4 rfl (lv_at hl 1 rfl) ?_
    have hPc := hP.sub (ws' := [(a2, .inr (0, [.ref b2, .int (nI nr)]))]) [3] rfl
    have hKc := hK.sub (tys' := []) [] rfl
    refine q_csiE (va_runVN (As := [.int p0]) (rest := []) ⟨hx, hb, hml, hown, hts⟩ (c_Row_hasPlace l dC dI a2 b2 nr p0) ⟨va_cnB 1 hts gX1_ring_X0_hasPlace rfl rfl rfl (qN_hasPlace hN) (hts (.initialized RX0) (List.mem_of_getElem? (i := 4) (by decide +kernel))) (by decide +kernel) ⟨Nat.le_of_ble_eq_true rfl, Nat.le_of_ble_eq_true rfl⟩, (hts (.instanceMethod yX0_hasPlace) (List.mem_of_getElem? (i := 2) (by decide +kernel))), (hts (.selects RX0 yX0_hasPlace yX0_hasPlace) (List.mem_of_getElem? (i := 3) (by decide +kernel)))⟩ ⟨q_blR, va_recv hKc hPc (ci := 0) (q0 := 0) rfl rfl, fun U hU hW => ⟨rfl, by rw [hU]; exact hPc, va_K.moved hW.alike hKc⟩⟩ rfl rfl hl.1 rfl (lv_room (Nat.le_of_ble_eq_true rfl)) dX1_ring_5 ⟨Nat.le_of_ble_eq_true rfl, Nat.le_of_ble_eq_true rfl⟩) ?_
    refine q_top (y := 0) h ?_
    refine lv_if_ne (tgt := 15) hx hb dX1_ring_8 (by decide) (fun c_0 => absurd (show (0 : Int32) = (0 : Int32) from (by decide)) c_0) (fun c_2 => ?_)
    refine lv_ldc2 (v := qNo) hx hb hown (hts (.constantLong RX1 50 (1099511627776)) (List.mem_of_getElem? (i := 7) (by decide +kernel))) dX1_ring_11 ?_
    exact W.lret (v := qNo) hx hb hr (fun t ht hW => ⟨qNo, rfl, (by simp only [qRing, if_pos h]), ht⟩) (fun q h => by cases h) dX1_ring_14
  · refine lv_aload_n hx hb dX1_ring_0 rfl (lv_at hl 0 rfl) ?_
    refine va_get (D := (dC, dI)) (ci := 1) (v := .ref a2) (C := RX1) (T := TX1) (N := 5) hx hb hts inX1_ring_X1 hown hK hP 0 rfl rfl 1 (by decide) (hts (.fieldLink RX1 16 "QueueHall" "ringRow" "LQueueHall$Row;") (List.mem_of_getElem? (i := 1) (by decide +kernel))) (fun _ h9 => h9) rfl dX1_ring_1 ?_
    refine lv_iload_n hx hb dX1_ring_4 rfl (lv_at hl 1 rfl) ?_
    have hPc := hP.sub (ws' := [(a2, .inr (0, [.ref b2, .int (nI nr)]))]) [3] rfl
    have hKc := hK.sub (tys' := []) [] rfl
    refine q_csiE (va_runVN (As := [.int (nI k)]) (rest := []) ⟨hx, hb, hml, hown, hts⟩ (c_Row_hasPlace l dC dI a2 b2 nr (nI k)) ⟨va_cnB 1 hts gX1_ring_X0_hasPlace rfl rfl rfl (qN_hasPlace hN) (hts (.initialized RX0) (List.mem_of_getElem? (i := 4) (by decide +kernel))) (by decide +kernel) ⟨Nat.le_of_ble_eq_true rfl, Nat.le_of_ble_eq_true rfl⟩, (hts (.instanceMethod yX0_hasPlace) (List.mem_of_getElem? (i := 2) (by decide +kernel))), (hts (.selects RX0 yX0_hasPlace yX0_hasPlace) (List.mem_of_getElem? (i := 3) (by decide +kernel)))⟩ ⟨q_blR, va_recv hKc hPc (ci := 0) (q0 := 0) rfl rfl, fun U hU hW => ⟨rfl, by rw [hU]; exact hPc, va_K.moved hW.alike hKc⟩⟩ rfl rfl hl.1 rfl (lv_room (Nat.le_of_ble_eq_true rfl)) dX1_ring_5 ⟨Nat.le_of_ble_eq_true rfl, Nat.le_of_ble_eq_true rfl⟩) ?_
    refine q_top (y := 1) (qHp_in (by omega) (by omega)) ?_
    refine lv_if_ne (tgt := 15) hx hb dX1_ring_8 (by decide) (fun c_3 => ?_) (fun c_0 => absurd c_0 (show ¬ (1 : Int32) = (0 : Int32) from (by decide)))
    refine lv_aload_n hx hb dX1_ring_15 rfl (lv_at hl 0 rfl) ?_
    refine va_get (D := (dC, dI)) (ci := 1) (v := .ref a2) (C := RX1) (T := TX1) (N := 5) hx hb hts inX1_ring_X1 hown hK hP 0 rfl rfl 1 (by decide) (hts (.fieldLink RX1 16 "QueueHall" "ringRow" "LQueueHall$Row;") (List.mem_of_getElem? (i := 1) (by decide +kernel))) (fun _ h9 => h9) rfl dX1_ring_16 ?_
    refine lv_iload_n hx hb dX1_ring_19 rfl (lv_at hl 2 rfl) ?_
    refine lv_if_eq (tgt := 37) hx hb dX1_ring_20 (by decide) (fun c_4 => ?_) (fun c_0 => absurd (show p1 = (0 : Int32) from hz) c_0)
    refine lv_iload_n hx hb dX1_ring_37 rfl (lv_at hl 1 rfl) ?_
    have hPc := hP.sub (ws' := [(a2, .inr (0, [.ref b2, .int (nI nr)])), (b2, .inl (cA, 2100, .inl fr))]) [3, 4] rfl
    have hKc := hK.sub (tys' := [(cA, .int)]) [0] rfl
    refine q_cslE (va_runVN (As := [.int (nI k)]) (rest := []) ⟨hx, hb, hml, hown, hts⟩ (c_Row_at l dC dI a2 b2 nr cA fr gr (nI k) (by omega) ha2) ⟨va_cnB 1 hts gX1_ring_X0_at rfl rfl rfl (qN_at hN) (hts (.initialized RX0) (List.mem_of_getElem? (i := 4) (by decide +kernel))) (by decide +kernel) ⟨Nat.le_of_ble_eq_true rfl, Nat.le_of_ble_eq_true rfl⟩, (hts (.instanceMethod yX0_at) (List.mem_of_getElem? (i := 8) (by decide +kernel))), (hts (.selects RX0 yX0_at yX0_at) (List.mem_of_getElem? (i := 9) (by decide +kernel)))⟩ ⟨q_blR, va_recv hKc hPc (ci := 0) (q0 := 0) rfl rfl, fun U hU hW => ⟨rfl, by rw [hU]; exact hPc, va_K.moved hW.alike hKc⟩⟩ rfl rfl hl.1 rfl (lv_room (Nat.le_of_ble_eq_true rfl)) dX1_ring_38 ⟨Nat.le_of_ble_eq_true rfl, Nat.le_of_ble_eq_true rfl⟩) ?_
    refine q_topl (y := (gr k).toInt64) (qAt_i (by omega) (by omega)) ?_
    exact W.lret (v := (gr k).toInt64) hx hb hr (fun t ht hW => ⟨(gr k).toInt64, rfl, (by simp only [qRing, qHp_in hk (show nr < 2 ^ 31 by omega), if_neg q_ne10, nI_clamp (show k < 2 ^ 31 by omega), if_pos hz]), ht⟩) (fun q h => by cases h) dX1_ring_41
  · refine lv_aload_n hx hb dX1_ring_0 rfl (lv_at hl 0 rfl) ?_
    refine va_get (D := (dC, dI)) (ci := 1) (v := .ref a2) (C := RX1) (T := TX1) (N := 5) hx hb hts inX1_ring_X1 hown hK hP 0 rfl rfl 1 (by decide) (hts (.fieldLink RX1 16 "QueueHall" "ringRow" "LQueueHall$Row;") (List.mem_of_getElem? (i := 1) (by decide +kernel))) (fun _ h9 => h9) rfl dX1_ring_1 ?_
    refine lv_iload_n hx hb dX1_ring_4 rfl (lv_at hl 1 rfl) ?_
    have hPc := hP.sub (ws' := [(a2, .inr (0, [.ref b2, .int (nI nr)]))]) [3] rfl
    have hKc := hK.sub (tys' := []) [] rfl
    refine q_csiE (va_runVN (As := [.int (nI k)]) (rest := []) ⟨hx, hb, hml, hown, hts⟩ (c_Row_hasPlace l dC dI a2 b2 nr (nI k)) ⟨va_cnB 1 hts gX1_ring_X0_hasPlace rfl rfl rfl (qN_hasPlace hN) (hts (.initialized RX0) (List.mem_of_getElem? (i := 4) (by decide +kernel))) (by decide +kernel) ⟨Nat.le_of_ble_eq_true rfl, Nat.le_of_ble_eq_true rfl⟩, (hts (.instanceMethod yX0_hasPlace) (List.mem_of_getElem? (i := 2) (by decide +kernel))), (hts (.selects RX0 yX0_hasPlace yX0_hasPlace) (List.mem_of_getElem? (i := 3) (by decide +kernel)))⟩ ⟨q_blR, va_recv hKc hPc (ci := 0) (q0 := 0) rfl rfl, fun U hU hW => ⟨rfl, by rw [hU]; exact hPc, va_K.moved hW.alike hKc⟩⟩ rfl rfl hl.1 rfl (lv_room (Nat.le_of_ble_eq_true rfl)) dX1_ring_5 ⟨Nat.le_of_ble_eq_true rfl, Nat.le_of_ble_eq_true rfl⟩) ?_
    refine q_top (y := 1) (qHp_in (by omega) (by omega)) ?_
    refine lv_if_ne (tgt := 15) hx hb dX1_ring_8 (by decide) (fun c_5 => ?_) (fun c_0 => absurd c_0 (show ¬ (1 : Int32) = (0 : Int32) from (by decide)))
    refine lv_aload_n hx hb dX1_ring_15 rfl (lv_at hl 0 rfl) ?_
    refine va_get (D := (dC, dI)) (ci := 1) (v := .ref a2) (C := RX1) (T := TX1) (N := 5) hx hb hts inX1_ring_X1 hown hK hP 0 rfl rfl 1 (by decide) (hts (.fieldLink RX1 16 "QueueHall" "ringRow" "LQueueHall$Row;") (List.mem_of_getElem? (i := 1) (by decide +kernel))) (fun _ h9 => h9) rfl dX1_ring_16 ?_
    refine lv_iload_n hx hb dX1_ring_19 rfl (lv_at hl 2 rfl) ?_
    refine lv_if_eq (tgt := 37) hx hb dX1_ring_20 (by decide) (fun c_0 => absurd c_0 (show ¬ p1 = (0 : Int32) from hz)) (fun c_6 => ?_)
    refine lv_aload_n hx hb dX1_ring_23 rfl (lv_at hl 0 rfl) ?_
    refine va_get (D := (dC, dI)) (ci := 1) (v := .ref a2) (C := RX1) (T := TX1) (N := 5) hx hb hts inX1_ring_X1 hown hK hP 0 rfl rfl 1 (by decide) (hts (.fieldLink RX1 16 "QueueHall" "ringRow" "LQueueHall$Row;") (List.mem_of_getElem? (i := 1) (by decide +kernel))) (fun _ h9 => h9) rfl dX1_ring_24 ?_
    refine va_getN (D := (dC, dI)) (ci := 0) (v := .int (nI nr)) (C := RX0) (T := TX0) (N := 2) hx hb hts inX1_ring_X0 hown hK hP 3 rfl rfl 1 (by decide) (qN_count hN) (fun _ h9 => h9) rfl dX1_ring_27 ?_
    refine lv_iconst (v := 1) hx hb dX1_ring_30 (by decide) ?_
    refine lv_isub hx hb dX1_ring_31 ?_
    refine q_top (y := nI (nr - 1)) (q_m1 (by omega)) ?_
    refine lv_iload_n hx hb dX1_ring_32 rfl (lv_at hl 1 rfl) ?_
    refine lv_isub hx hb dX1_ring_33 ?_
    refine q_top (y := nI ((nr - 1) - k)) (pk_sub (by omega)) ?_
    refine lv_goto (tgt := 38) hx hb dX1_ring_34 (by decide) ?_
    have hPc := hP.sub (ws' := [(a2, .inr (0, [.ref b2, .int (nI nr)])), (b2, .inl (cA, 2100, .inl fr))]) [3, 4] rfl
    have hKc := hK.sub (tys' := [(cA, .int)]) [0] rfl
    refine q_cslE (va_runVN (As := [.int (nI ((nr - 1) - k))]) (rest := []) ⟨hx, hb, hml, hown, hts⟩ (c_Row_at l dC dI a2 b2 nr cA fr gr (nI ((nr - 1) - k)) (by omega) ha2) ⟨va_cnB 1 hts gX1_ring_X0_at rfl rfl rfl (qN_at hN) (hts (.initialized RX0) (List.mem_of_getElem? (i := 4) (by decide +kernel))) (by decide +kernel) ⟨Nat.le_of_ble_eq_true rfl, Nat.le_of_ble_eq_true rfl⟩, (hts (.instanceMethod yX0_at) (List.mem_of_getElem? (i := 8) (by decide +kernel))), (hts (.selects RX0 yX0_at yX0_at) (List.mem_of_getElem? (i := 9) (by decide +kernel)))⟩ ⟨q_blR, va_recv hKc hPc (ci := 0) (q0 := 0) rfl rfl, fun U hU hW => ⟨rfl, by rw [hU]; exact hPc, va_K.moved hW.alike hKc⟩⟩ rfl rfl hl.1 rfl (lv_room (Nat.le_of_ble_eq_true rfl)) dX1_ring_38 ⟨Nat.le_of_ble_eq_true rfl, Nat.le_of_ble_eq_true rfl⟩) ?_
    refine q_topl (y := (gr ((nr - 1) - k)).toInt64) (qAt_i (by omega) (by omega)) ?_
    exact W.lret (v := (gr ((nr - 1) - k)).toInt64) hx hb hr (fun t ht hW => ⟨(gr ((nr - 1) - k)).toInt64, rfl, (by simp only [qRing, qHp_in hk (show nr < 2 ^ 31 by omega), if_neg q_ne10, nI_clamp (show k < 2 ^ 31 by omega), if_neg hz]), ht⟩) (fun q h => by cases h) dX1_ring_41
end
section
set_option maxHeartbeats 4000000 in
set_option maxRecDepth 100000 in
theorem c_Hall_sieve (l : Launch) (dC : Nat → ClassId) (dI : Nat → Nat → Nat) (sz : Nat) (x0 a1 b1 a2 b2 a3 b3 nh nr nk : Nat) (cA : ClassId) (fh gh fr gr fk gk : Nat → Int32) (fi me : Int32) (p0 p1 : Int32) (hn : nh + nr + nk < 2000) (ha1 : qAg nh fh gh) (ha2 : qAg nr fr gr) (ha3 : qAg nk fk gk) (hF : qFok fi me nk) : Met l yX1_sieve wsX1_sieve ({ frames := 2, cells := 0, slots := 0, locals := 58 }) (va_Pc [.ref x0, .int p0, .int p1] (fun U => U.heap.size = sz ∧ va_P (dC, dI) vwCl [(x0, .inr (1, [.ref a1, .ref a2, .ref a3, .int fi, .int me])), (a1, .inr (0, [.ref b1, .int (nI nh)])), (b1, .inl (cA, 2100, .inl fh)), (a2, .inr (0, [.ref b2, .int (nI nr)])), (b2, .inl (cA, 2100, .inl fr)), (a3, .inr (0, [.ref b3, .int (nI nk)])), (b3, .inl (cA, 2100, .inl fk))] U.heap ∧ va_K (dC, dI) vwCl [(cA, .int)] U ∧ va_D (fun _ => True) [(x0, .inr (1, [.ref a1, .ref a2, .ref a3, .int fi, .int me])), (a1, .inr (0, [.ref b1, .int (nI nh)])), (b1, .inl (cA, 2100, .inl fh)), (a2, .inr (0, [.ref b2, .int (nI nr)])), (b2, .inl (cA, 2100, .inl fr)), (a3, .inr (0, [.ref b3, .int (nI nk)])), (b3, .inl (cA, 2100, .inl fk))] ∧ qNest U)) (va_Qi (fun (r : Int32) (u : qS) => (r, u) = qSieveS p0 p1 ((gh, nh), (gr, nr), (gk, nk), fi, me)) (at_H dC dI (va_A [(x0, .inr (1, [.ref a1, .ref a2, .ref a3, .int fi, .int me])), (a1, .inr (0, [.ref b1, .int (nI nh)])), (b1, .inl (cA, 2100, .inl fh)), (a2, .inr (0, [.ref b2, .int (nI nr)])), (b2, .inl (cA, 2100, .inl fr)), (a3, .inr (0, [.ref b3, .int (nI nk)])), (b3, .inl (cA, 2100, .inl fk))] sz) x0 a1 b1 a2 b2 a3 b3 cA) (va_A [(x0, .inr (1, [.ref a1, .ref a2, .ref a3, .int fi, .int me])), (a1, .inr (0, [.ref b1, .int (nI nh)])), (b1, .inl (cA, 2100, .inl fh)), (a2, .inr (0, [.ref b2, .int (nI nr)])), (b2, .inl (cA, 2100, .inl fr)), (a3, .inr (0, [.ref b3, .int (nI nk)])), (b3, .inl (cA, 2100, .inl fk))] sz)) 0 0 (va_A [(x0, .inr (1, [.ref a1, .ref a2, .ref a3, .int fi, .int me])), (a1, .inr (0, [.ref b1, .int (nI nh)])), (b1, .inl (cA, 2100, .inl fh)), (a2, .inr (0, [.ref b2, .int (nI nr)])), (b2, .inl (cA, 2100, .inl fr)), (a3, .inr (0, [.ref b3, .int (nI nk)])), (b3, .inl (cA, 2100, .inl fk))] sz) := by
  refine Met.ofW (cc := cX1_sieve) (maxL := 3) (ret := (some .int)) (by decide +kernel) rfl ?_
  intro p e s m args below meth c s₁ B hml hv
  obtain ⟨rfl, hsz, hP, hK, hD0, hN⟩ := hv
  have hx := B.exec
  have hb := B.bytes
  have hr := B.returns
  have hts := atoms_spec (ws := wsX1_sieve) B.pre
  have hown : s.vm.findClass RX1 = some m.cls := findClass_of_methodNamed B.named
  have hlocks := B.notSynchronized
  subst hsz
  have hD := hD0.self (sz := s.heap.size)
  generalize hAe : va_A [(x0, .inr (1, [.ref a1, .ref a2, .ref a3, .int fi, .int me])), (a1, .inr (0, [.ref b1, .int (nI nh)])), (b1, .inl (cA, 2100, .inl fh)), (a2, .inr (0, [.ref b2, .int (nI nr)])), (b2, .inl (cA, 2100, .inl fr)), (a3, .inr (0, [.ref b3, .int (nI nk)])), (b3, .inl (cA, 2100, .inl fk))] s.heap.size = A at hD ⊢
  have hA : ∀ q : Nat, s.heap.size ≤ q → A q := fun q h => by rw [← hAe]; exact Or.inr h
  have hS : va_S A s.heap s.heap [] := va_S.rf
  have hl := lv_entry ([.ref x0, .int p0, .int p1]) (n := 3) (Nat.le_of_ble_eq_true rfl)
  rw [lg_entry_eq]
  generalize (lg_sl ([.ref x0, .int p0, .int p1]) ++ List.replicate (3 - (lg_sl ([.ref x0, .int p0, .int p1])).length) Slot.unset).toArray = ls at hl ⊢
  have hl : lv_has ls 3 [(0, .ref x0), (1, .int p0), (2, .int p1)] := hl
  refine lv_aload_n hx hb dX1_sieve_0 rfl (lv_at hl 0 rfl) ?_
  refine va_get (D := (dC, dI)) (ci := 1) (v := .ref a2) (C := RX1) (T := TX1) (N := 5) hx hb hts inX1_sieve_X1 hown hK hP 0 rfl rfl 1 (by decide) (hts (.fieldLink RX1 16 "QueueHall" "ringRow" "LQueueHall$Row;") (List.mem_of_getElem? (i := 1) (by decide +kernel))) (fun _ h9 => h9) rfl dX1_sieve_1 ?_
  refine lv_iload_n hx hb dX1_sieve_4 rfl (lv_at hl 1 rfl) ?_
  refine lv_iload_n hx hb dX1_sieve_5 rfl (lv_at hl 2 rfl) ?_
  have hPc := hP.sub (ws' := [(a2, .inr (0, [.ref b2, .int (nI nr)])), (b2, .inl (cA, 2100, .inl fr))]) [3, 4] rfl
  have hKc := hK.sub (tys' := [(cA, .int)]) [0] rfl
  have hDc := hD.sub (ws' := [(a2, .inr (0, [.ref b2, .int (nI nr)])), (b2, .inl (cA, 2100, .inl fr))]) [3, 4] (by decide) rfl
  have hFc := va_free (wc := [(a2, .inr (0, [.ref b2, .int (nI nr)])), (b2, .inl (cA, 2100, .inl fr))]) hD hS hA [3, 4] rfl
  refine va_calli (va_runVN (As := [.int p0, .int p1]) (rest := []) ⟨hx, hb, hml, hown, hts⟩ (c_Row_takeRest l dC dI s.heap.size a2 b2 nr cA fr gr p0 p1 (by omega) ha2) ⟨va_cnB 2 hts gX1_sieve_X0_takeRest rfl rfl rfl (qN_takeRest hN) (hts (.initialized RX0) (List.mem_of_getElem? (i := 4) (by decide +kernel))) (by decide +kernel) ⟨Nat.le_of_ble_eq_true rfl, Nat.le_of_ble_eq_true rfl⟩, (hts (.instanceMethod yX0_takeRest) (List.mem_of_getElem? (i := 2) (by decide +kernel))), (hts (.selects RX0 yX0_takeRest yX0_takeRest) (List.mem_of_getElem? (i := 3) (by decide +kernel)))⟩ ⟨q_blW, va_recv hKc hPc (ci := 0) (q0 := 0) rfl rfl, fun U hU hW => ⟨rfl, by rw [hU], by rw [hU]; exact hPc, va_K.moved hW.alike hKc, hDc.weaken (fun _ _ _ _ => trivial)⟩⟩ rfl rfl hl.1 rfl (lv_room (Nat.le_of_ble_eq_true rfl)) dX1_sieve_6 ⟨Nat.le_of_ble_eq_true rfl, Nat.le_of_ble_eq_true rfl⟩) hS (fun q _ h => hFc q h) hFc (fun r_1 u_1 t_1 H1 locs ht hvm hw hB hz1 hk1 hS => ?_)
  obtain ⟨g_1, n_1⟩ := u_1
  obtain ⟨f_1, hg_1, hP1, hK1, hD1⟩ := hB
  rw [ht] at hP1
  obtain ⟨hP, hD⟩ := q_join (wr := [(x0, .inr (1, [.ref a1, .ref a2, .ref a3, .int fi, .int me])), (a1, .inr (0, [.ref b1, .int (nI nh)])), (b1, .inl (cA, 2100, .inl fh)), (a3, .inr (0, [.ref b3, .int (nI nk)])), (b3, .inl (cA, 2100, .inl fk))]) (w1 := [(a2, .inr (0, [.ref b2, .int (nI n_1)])), (b2, .inl (cA, 2100, .inl f_1))]) (wz := [(x0, .inr (1, [.ref a1, .ref a2, .ref a3, .int fi, .int me])), (a1, .inr (0, [.ref b1, .int (nI nh)])), (b1, .inl (cA, 2100, .inl fh)), (a2, .inr (0, [.ref b2, .int (nI n_1)])), (b2, .inl (cA, 2100, .inl f_1)), (a3, .inr (0, [.ref b3, .int (nI nk)])), (b3, .inl (cA, 2100, .inl fk))]) hP hD [3, 4] [0, 1, 2, 5, 6] [0, 1, 2, 5, 6, 3, 4] rfl rfl (by decide) (by decide) hk1 hFc hP1 hD1 rfl rfl (by decide)
  generalize H1 = H at hP hS ⊢
  exact W.iret (v := r_1) hx hb hr (fun t ht hW => ⟨⟨r_1, ((gh, nh), (g_1, n_1), (gk, nk), fi, me), rfl, (by simp only [qSieveS, ← hw]), fh, f_1, fk, ha1, hg_1, ha3, by rw [ht]; exact hP, va_K.moved hW.alike hK, hD⟩, hS.F ht⟩) hS.2.2 dX1_sieve_9

set_option maxHeartbeats 4000000 in
set_option maxRecDepth 100000 in
theorem c_Hall_roll (l : Launch) (dC : Nat → ClassId) (dI : Nat → Nat → Nat) (sz : Nat) (x0 a1 b1 a2 b2 a3 b3 nh nr nk : Nat) (cA : ClassId) (fh gh fr gr fk gk : Nat → Int32) (fi me : Int32) (p0 : Int32) (hn : nh + nr + nk < 2000) (ha1 : qAg nh fh gh) (ha2 : qAg nr fr gr) (ha3 : qAg nk fk gk) (hF : qFok fi me nk) : Met l yX1_roll wsX1_roll ({ frames := 2, cells := 0, slots := 0, locals := 58 }) (va_Pc [.ref x0, .int p0] (fun U => U.heap.size = sz ∧ va_P (dC, dI) vwCl [(x0, .inr (1, [.ref a1, .ref a2, .ref a3, .int fi, .int me])), (a1, .inr (0, [.ref b1, .int (nI nh)])), (b1, .inl (cA, 2100, .inl fh)), (a2, .inr (0, [.ref b2, .int (nI nr)])), (b2, .inl (cA, 2100, .inl fr)), (a3, .inr (0, [.ref b3, .int (nI nk)])), (b3, .inl (cA, 2100, .inl fk))] U.heap ∧ va_K (dC, dI) vwCl [(cA, .int)] U ∧ va_D (fun _ => True) [(x0, .inr (1, [.ref a1, .ref a2, .ref a3, .int fi, .int me])), (a1, .inr (0, [.ref b1, .int (nI nh)])), (b1, .inl (cA, 2100, .inl fh)), (a2, .inr (0, [.ref b2, .int (nI nr)])), (b2, .inl (cA, 2100, .inl fr)), (a3, .inr (0, [.ref b3, .int (nI nk)])), (b3, .inl (cA, 2100, .inl fk))] ∧ qNest U)) (va_Qi (fun (r : Int32) (u : qS) => (r, u) = qRollS p0 ((gh, nh), (gr, nr), (gk, nk), fi, me)) (at_H dC dI (va_A [(x0, .inr (1, [.ref a1, .ref a2, .ref a3, .int fi, .int me])), (a1, .inr (0, [.ref b1, .int (nI nh)])), (b1, .inl (cA, 2100, .inl fh)), (a2, .inr (0, [.ref b2, .int (nI nr)])), (b2, .inl (cA, 2100, .inl fr)), (a3, .inr (0, [.ref b3, .int (nI nk)])), (b3, .inl (cA, 2100, .inl fk))] sz) x0 a1 b1 a2 b2 a3 b3 cA) (va_A [(x0, .inr (1, [.ref a1, .ref a2, .ref a3, .int fi, .int me])), (a1, .inr (0, [.ref b1, .int (nI nh)])), (b1, .inl (cA, 2100, .inl fh)), (a2, .inr (0, [.ref b2, .int (nI nr)])), (b2, .inl (cA, 2100, .inl fr)), (a3, .inr (0, [.ref b3, .int (nI nk)])), (b3, .inl (cA, 2100, .inl fk))] sz)) 0 0 (va_A [(x0, .inr (1, [.ref a1, .ref a2, .ref a3, .int fi, .int me])), (a1, .inr (0, [.ref b1, .int (nI nh)])), (b1, .inl (cA, 2100, .inl fh)), (a2, .inr (0, [.ref b2, .int (nI nr)])), (b2, .inl (cA, 2100, .inl fr)), (a3, .inr (0, [.ref b3, .int (nI nk)])), (b3, .inl (cA, 2100, .inl fk))] sz) := by
  refine Met.ofW (cc := cX1_roll) (maxL := 2) (ret := (some .int)) (by decide +kernel) rfl ?_
  intro p e s m args below meth c s₁ B hml hv
  obtain ⟨rfl, hsz, hP, hK, hD0, hN⟩ := hv
  have hx := B.exec
  have hb := B.bytes
  have hr := B.returns
  have hts := atoms_spec (ws := wsX1_roll) B.pre
  have hown : s.vm.findClass RX1 = some m.cls := findClass_of_methodNamed B.named
  have hlocks := B.notSynchronized
  subst hsz
  have hD := hD0.self (sz := s.heap.size)
  generalize hAe : va_A [(x0, .inr (1, [.ref a1, .ref a2, .ref a3, .int fi, .int me])), (a1, .inr (0, [.ref b1, .int (nI nh)])), (b1, .inl (cA, 2100, .inl fh)), (a2, .inr (0, [.ref b2, .int (nI nr)])), (b2, .inl (cA, 2100, .inl fr)), (a3, .inr (0, [.ref b3, .int (nI nk)])), (b3, .inl (cA, 2100, .inl fk))] s.heap.size = A at hD ⊢
  have hA : ∀ q : Nat, s.heap.size ≤ q → A q := fun q h => by rw [← hAe]; exact Or.inr h
  have hS : va_S A s.heap s.heap [] := va_S.rf
  have hl := lv_entry ([.ref x0, .int p0]) (n := 2) (Nat.le_of_ble_eq_true rfl)
  rw [lg_entry_eq]
  generalize (lg_sl ([.ref x0, .int p0]) ++ List.replicate (2 - (lg_sl ([.ref x0, .int p0])).length) Slot.unset).toArray = ls at hl ⊢
  have hl : lv_has ls 2 [(0, .ref x0), (1, .int p0)] := hl
  refine lv_aload_n hx hb dX1_roll_0 rfl (lv_at hl 0 rfl) ?_
  refine va_get (D := (dC, dI)) (ci := 1) (v := .ref a2) (C := RX1) (T := TX1) (N := 5) hx hb hts inX1_roll_X1 hown hK hP 0 rfl rfl 1 (by decide) (hts (.fieldLink RX1 16 "QueueHall" "ringRow" "LQueueHall$Row;") (List.mem_of_getElem? (i := 1) (by decide +kernel))) (fun _ h9 => h9) rfl dX1_roll_1 ?_
  refine lv_iload_n hx hb dX1_roll_4 rfl (lv_at hl 1 rfl) ?_
  have hPc := hP.sub (ws' := [(a2, .inr (0, [.ref b2, .int (nI nr)])), (b2, .inl (cA, 2100, .inl fr))]) [3, 4] rfl
  have hKc := hK.sub (tys' := [(cA, .int)]) [0] rfl
  have hDc := hD.sub (ws' := [(a2, .inr (0, [.ref b2, .int (nI nr)])), (b2, .inl (cA, 2100, .inl fr))]) [3, 4] (by decide) rfl
  have hFc := va_free (wc := [(a2, .inr (0, [.ref b2, .int (nI nr)])), (b2, .inl (cA, 2100, .inl fr))]) hD hS hA [3, 4] rfl
  refine va_calli (va_runVN (As := [.int p0]) (rest := []) ⟨hx, hb, hml, hown, hts⟩ (c_Row_turn l dC dI s.heap.size a2 b2 nr cA fr gr p0 (by omega) ha2) ⟨va_cnB 1 hts gX1_roll_X0_turn rfl rfl rfl (qN_turn hN) (hts (.initialized RX0) (List.mem_of_getElem? (i := 4) (by decide +kernel))) (by decide +kernel) ⟨Nat.le_of_ble_eq_true rfl, Nat.le_of_ble_eq_true rfl⟩, (hts (.instanceMethod yX0_turn) (List.mem_of_getElem? (i := 2) (by decide +kernel))), (hts (.selects RX0 yX0_turn yX0_turn) (List.mem_of_getElem? (i := 3) (by decide +kernel)))⟩ ⟨q_blW, va_recv hKc hPc (ci := 0) (q0 := 0) rfl rfl, fun U hU hW => ⟨rfl, by rw [hU], by rw [hU]; exact hPc, va_K.moved hW.alike hKc, hDc.weaken (fun _ _ _ _ => trivial)⟩⟩ rfl rfl hl.1 rfl (lv_room (Nat.le_of_ble_eq_true rfl)) dX1_roll_5 ⟨Nat.le_of_ble_eq_true rfl, Nat.le_of_ble_eq_true rfl⟩) hS (fun q _ h => hFc q h) hFc (fun r_1 u_1 t_1 H1 locs ht hvm hw hB hz1 hk1 hS => ?_)
  obtain ⟨g_1, n_1⟩ := u_1
  obtain ⟨f_1, hg_1, hP1, hK1, hD1⟩ := hB
  rw [ht] at hP1
  obtain ⟨hP, hD⟩ := q_join (wr := [(x0, .inr (1, [.ref a1, .ref a2, .ref a3, .int fi, .int me])), (a1, .inr (0, [.ref b1, .int (nI nh)])), (b1, .inl (cA, 2100, .inl fh)), (a3, .inr (0, [.ref b3, .int (nI nk)])), (b3, .inl (cA, 2100, .inl fk))]) (w1 := [(a2, .inr (0, [.ref b2, .int (nI n_1)])), (b2, .inl (cA, 2100, .inl f_1))]) (wz := [(x0, .inr (1, [.ref a1, .ref a2, .ref a3, .int fi, .int me])), (a1, .inr (0, [.ref b1, .int (nI nh)])), (b1, .inl (cA, 2100, .inl fh)), (a2, .inr (0, [.ref b2, .int (nI n_1)])), (b2, .inl (cA, 2100, .inl f_1)), (a3, .inr (0, [.ref b3, .int (nI nk)])), (b3, .inl (cA, 2100, .inl fk))]) hP hD [3, 4] [0, 1, 2, 5, 6] [0, 1, 2, 5, 6, 3, 4] rfl rfl (by decide) (by decide) hk1 hFc hP1 hD1 rfl rfl (by decide)
  generalize H1 = H at hP hS ⊢
  exact W.iret (v := r_1) hx hb hr (fun t ht hW => ⟨⟨r_1, ((gh, nh), (g_1, n_1), (gk, nk), fi, me), rfl, (by simp only [qRollS, ← hw]), fh, f_1, fk, ha1, hg_1, ha3, by rw [ht]; exact hP, va_K.moved hW.alike hK, hD⟩, hS.F ht⟩) hS.2.2 dX1_roll_8

set_option maxHeartbeats 4000000 in
set_option maxRecDepth 100000 in
theorem c_Hall_insert (l : Launch) (dC : Nat → ClassId) (dI : Nat → Nat → Nat) (sz : Nat) (x0 a1 b1 a2 b2 a3 b3 nh nr nk : Nat) (cA : ClassId) (fh gh fr gr fk gk : Nat → Int32) (fi me : Int32) (p0 p1 : Int32) (hn : nh + nr + nk < 2000) (ha1 : qAg nh fh gh) (ha2 : qAg nr fr gr) (ha3 : qAg nk fk gk) (hF : qFok fi me nk) : Met l yX1_insert wsX1_insert ({ frames := 2, cells := 0, slots := 0, locals := 58 }) (va_Pc [.ref x0, .int p0, .int p1] (fun U => U.heap.size = sz ∧ va_P (dC, dI) vwCl [(x0, .inr (1, [.ref a1, .ref a2, .ref a3, .int fi, .int me])), (a1, .inr (0, [.ref b1, .int (nI nh)])), (b1, .inl (cA, 2100, .inl fh)), (a2, .inr (0, [.ref b2, .int (nI nr)])), (b2, .inl (cA, 2100, .inl fr)), (a3, .inr (0, [.ref b3, .int (nI nk)])), (b3, .inl (cA, 2100, .inl fk))] U.heap ∧ va_K (dC, dI) vwCl [(cA, .int)] U ∧ va_D (fun _ => True) [(x0, .inr (1, [.ref a1, .ref a2, .ref a3, .int fi, .int me])), (a1, .inr (0, [.ref b1, .int (nI nh)])), (b1, .inl (cA, 2100, .inl fh)), (a2, .inr (0, [.ref b2, .int (nI nr)])), (b2, .inl (cA, 2100, .inl fr)), (a3, .inr (0, [.ref b3, .int (nI nk)])), (b3, .inl (cA, 2100, .inl fk))] ∧ qNest U)) (va_Qi (fun (r : Int32) (u : qS) => (r, u) = qInsert p0 p1 ((gh, nh), (gr, nr), (gk, nk), fi, me)) (at_H dC dI (va_A [(x0, .inr (1, [.ref a1, .ref a2, .ref a3, .int fi, .int me])), (a1, .inr (0, [.ref b1, .int (nI nh)])), (b1, .inl (cA, 2100, .inl fh)), (a2, .inr (0, [.ref b2, .int (nI nr)])), (b2, .inl (cA, 2100, .inl fr)), (a3, .inr (0, [.ref b3, .int (nI nk)])), (b3, .inl (cA, 2100, .inl fk))] sz) x0 a1 b1 a2 b2 a3 b3 cA) (va_A [(x0, .inr (1, [.ref a1, .ref a2, .ref a3, .int fi, .int me])), (a1, .inr (0, [.ref b1, .int (nI nh)])), (b1, .inl (cA, 2100, .inl fh)), (a2, .inr (0, [.ref b2, .int (nI nr)])), (b2, .inl (cA, 2100, .inl fr)), (a3, .inr (0, [.ref b3, .int (nI nk)])), (b3, .inl (cA, 2100, .inl fk))] sz)) 0 0 (va_A [(x0, .inr (1, [.ref a1, .ref a2, .ref a3, .int fi, .int me])), (a1, .inr (0, [.ref b1, .int (nI nh)])), (b1, .inl (cA, 2100, .inl fh)), (a2, .inr (0, [.ref b2, .int (nI nr)])), (b2, .inl (cA, 2100, .inl fr)), (a3, .inr (0, [.ref b3, .int (nI nk)])), (b3, .inl (cA, 2100, .inl fk))] sz) := by
  refine Met.ofW (cc := cX1_insert) (maxL := 3) (ret := (some .int)) (by decide +kernel) rfl ?_
  intro p e s m args below meth c s₁ B hml hv
  obtain ⟨rfl, hsz, hP, hK, hD0, hN⟩ := hv
  have hx := B.exec
  have hb := B.bytes
  have hr := B.returns
  have hts := atoms_spec (ws := wsX1_insert) B.pre
  have hown : s.vm.findClass RX1 = some m.cls := findClass_of_methodNamed B.named
  have hlocks := B.notSynchronized
  subst hsz
  have hD := hD0.self (sz := s.heap.size)
  generalize hAe : va_A [(x0, .inr (1, [.ref a1, .ref a2, .ref a3, .int fi, .int me])), (a1, .inr (0, [.ref b1, .int (nI nh)])), (b1, .inl (cA, 2100, .inl fh)), (a2, .inr (0, [.ref b2, .int (nI nr)])), (b2, .inl (cA, 2100, .inl fr)), (a3, .inr (0, [.ref b3, .int (nI nk)])), (b3, .inl (cA, 2100, .inl fk))] s.heap.size = A at hD ⊢
  have hA : ∀ q : Nat, s.heap.size ≤ q → A q := fun q h => by rw [← hAe]; exact Or.inr h
  have hS : va_S A s.heap s.heap [] := va_S.rf
  have hl := lv_entry ([.ref x0, .int p0, .int p1]) (n := 3) (Nat.le_of_ble_eq_true rfl)
  rw [lg_entry_eq]
  generalize (lg_sl ([.ref x0, .int p0, .int p1]) ++ List.replicate (3 - (lg_sl ([.ref x0, .int p0, .int p1])).length) Slot.unset).toArray = ls at hl ⊢
  have hl : lv_has ls 3 [(0, .ref x0), (1, .int p0), (2, .int p1)] := hl
  rcases qHe_c p0 (n := nk) (by omega) with h | ⟨k, hk, rfl⟩
  · refine lv_aload_n hx hb dX1_insert_0 rfl (lv_at hl 0 rfl) ?_
    refine va_get (D := (dC, dI)) (ci := 1) (v := .ref a3) (C := RX1) (T := TX1) (N := 5) hx hb hts inX1_insert_X1 hown hK hP 0 rfl rfl 2 (by decide) (hts (.fieldLink RX1 19 "QueueHall" "chainRow" "LQueueHall$Row;") (List.mem_of_getElem? (i := 1) (by decide +kernel))) (fun _ h9 => h9) rfl dX1_insert_1 ?_
    refine lv_iload_n hx hb dX1_insert_4 rfl (lv_at hl 1 rfl) ?_
    have hPc := hP.sub (ws' := [(a3, .inr (0, [.ref b3, .int (nI nk)]))]) [5] rfl
    have hKc := hK.sub (tys' := []) [] rfl
    refine q_csiE (va_runVN (As := [.int p0]) (rest := []) ⟨hx, hb, hml, hown, hts⟩ (c_Row_hasPlaceOrEnd l dC dI a3 b3 nk p0) ⟨va_cnB 1 hts gX1_insert_X0_hasPlaceOrEnd rfl rfl rfl (qN_hasPlaceOrEnd hN) (hts (.initialized RX0) (List.mem_of_getElem? (i := 4) (by decide +kernel))) (by decide +kernel) ⟨Nat.le_of_ble_eq_true rfl, Nat.le_of_ble_eq_true rfl⟩, (hts (.instanceMethod yX0_hasPlaceOrEnd) (List.mem_of_getElem? (i := 2) (by decide +kernel))), (hts (.selects RX0 yX0_hasPlaceOrEnd yX0_hasPlaceOrEnd) (List.mem_of_getElem? (i := 3) (by decide +kernel)))⟩ ⟨q_blR, va_recv hKc hPc (ci := 0) (q0 := 0) rfl rfl, fun U hU hW => ⟨rfl, by rw [hU]; exact hPc, va_K.moved hW.alike hKc⟩⟩ rfl rfl hl.1 rfl (lv_room (Nat.le_of_ble_eq_true rfl)) dX1_insert_5 ⟨Nat.le_of_ble_eq_true rfl, Nat.le_of_ble_eq_true rfl⟩) ?_
    refine q_top (y := 0) h ?_
    refine lv_if_ne (tgt := 13) hx hb dX1_insert_8 (by decide) (fun c_0 => absurd (show (0 : Int32) = (0 : Int32) from (by decide)) c_0) (fun c_1 => ?_)
    refine lv_iconst (v := -1) hx hb dX1_insert_11 (by decide) ?_
    exact W.iret (v := -1) hx hb hr (fun t ht hW => ⟨⟨-1, ((gh, nh), (gr, nr), (gk, nk), fi, me), rfl, (by simp only [qInsert, if_pos h]), fh, fr, fk, ha1, ha2, ha3, by rw [ht]; exact hP, va_K.moved hW.alike hK, hD⟩, hS.F ht⟩) hS.2.2 dX1_insert_12
  · refine lv_aload_n hx hb dX1_insert_0 rfl (lv_at hl 0 rfl) ?_
    refine va_get (D := (dC, dI)) (ci := 1) (v := .ref a3) (C := RX1) (T := TX1) (N := 5) hx hb hts inX1_insert_X1 hown hK hP 0 rfl rfl 2 (by decide) (hts (.fieldLink RX1 19 "QueueHall" "chainRow" "LQueueHall$Row;") (List.mem_of_getElem? (i := 1) (by decide +kernel))) (fun _ h9 => h9) rfl dX1_insert_1 ?_
    refine lv_iload_n hx hb dX1_insert_4 rfl (lv_at hl 1 rfl) ?_
    have hPc := hP.sub (ws' := [(a3, .inr (0, [.ref b3, .int (nI nk)]))]) [5] rfl
    have hKc := hK.sub (tys' := []) [] rfl
    refine q_csiE (va_runVN (As := [.int (nI k)]) (rest := []) ⟨hx, hb, hml, hown, hts⟩ (c_Row_hasPlaceOrEnd l dC dI a3 b3 nk (nI k)) ⟨va_cnB 1 hts gX1_insert_X0_hasPlaceOrEnd rfl rfl rfl (qN_hasPlaceOrEnd hN) (hts (.initialized RX0) (List.mem_of_getElem? (i := 4) (by decide +kernel))) (by decide +kernel) ⟨Nat.le_of_ble_eq_true rfl, Nat.le_of_ble_eq_true rfl⟩, (hts (.instanceMethod yX0_hasPlaceOrEnd) (List.mem_of_getElem? (i := 2) (by decide +kernel))), (hts (.selects RX0 yX0_hasPlaceOrEnd yX0_hasPlaceOrEnd) (List.mem_of_getElem? (i := 3) (by decide +kernel)))⟩ ⟨q_blR, va_recv hKc hPc (ci := 0) (q0 := 0) rfl rfl, fun U hU hW => ⟨rfl, by rw [hU]; exact hPc, va_K.moved hW.alike hKc⟩⟩ rfl rfl hl.1 rfl (lv_room (Nat.le_of_ble_eq_true rfl)) dX1_insert_5 ⟨Nat.le_of_ble_eq_true rfl, Nat.le_of_ble_eq_true rfl⟩) ?_
    refine q_top (y := 1) (qHe_in (by omega) (by omega)) ?_
    refine lv_if_ne (tgt := 13) hx hb dX1_insert_8 (by decide) (fun c_2 => ?_) (fun c_0 => absurd c_0 (show ¬ (1 : Int32) = (0 : Int32) from (by decide)))
    refine lv_aload_n hx hb dX1_insert_13 rfl (lv_at hl 0 rfl) ?_
    refine va_get (D := (dC, dI)) (ci := 1) (v := .ref a3) (C := RX1) (T := TX1) (N := 5) hx hb hts inX1_insert_X1 hown hK hP 0 rfl rfl 2 (by decide) (hts (.fieldLink RX1 19 "QueueHall" "chainRow" "LQueueHall$Row;") (List.mem_of_getElem? (i := 1) (by decide +kernel))) (fun _ h9 => h9) rfl dX1_insert_14 ?_
    refine lv_iload_n hx hb dX1_insert_17 rfl (lv_at hl 1 rfl) ?_
    refine lv_iload_n hx hb dX1_insert_18 rfl (lv_at hl 2 rfl) ?_
    have hPc := hP.sub (ws' := [(a3, .inr (0, [.ref b3, .int (nI nk)])), (b3, .inl (cA, 2100, .inl fk))]) [5, 6] rfl
    have hKc := hK.sub (tys' := [(cA, .int)]) [0] rfl
    have hDc := hD.sub (ws' := [(a3, .inr (0, [.ref b3, .int (nI nk)])), (b3, .inl (cA, 2100, .inl fk))]) [5, 6] (by decide) rfl
    have hFc := va_free (wc := [(a3, .inr (0, [.ref b3, .int (nI nk)])), (b3, .inl (cA, 2100, .inl fk))]) hD hS hA [5, 6] rfl
    refine va_calli (va_runVN (As := [.int (nI k), .int p1]) (rest := []) ⟨hx, hb, hml, hown, hts⟩ (c_Row_put l dC dI s.heap.size a3 b3 nk cA fk gk (nI k) p1 (by omega) ha3) ⟨va_cnB 2 hts gX1_insert_X0_put rfl rfl rfl (qN_put hN) (hts (.initialized RX0) (List.mem_of_getElem? (i := 4) (by decide +kernel))) (by decide +kernel) ⟨Nat.le_of_ble_eq_true rfl, Nat.le_of_ble_eq_true rfl⟩, (hts (.instanceMethod yX0_put) (List.mem_of_getElem? (i := 7) (by decide +kernel))), (hts (.selects RX0 yX0_put yX0_put) (List.mem_of_getElem? (i := 8) (by decide +kernel)))⟩ ⟨q_blW, va_recv hKc hPc (ci := 0) (q0 := 0) rfl rfl, fun U hU hW => ⟨rfl, by rw [hU], by rw [hU]; exact hPc, va_K.moved hW.alike hKc, hDc.weaken (fun _ _ _ _ => trivial)⟩⟩ rfl rfl hl.1 rfl (lv_room (Nat.le_of_ble_eq_true rfl)) dX1_insert_19 ⟨Nat.le_of_ble_eq_true rfl, Nat.le_of_ble_eq_true rfl⟩) hS (fun q _ h => hFc q h) hFc (fun r_3 u_3 t_3 H1 locs ht hvm hw hB hz1 hk1 hS => ?_)
    have hw := hw.trans (qPut_i (k := k) (by omega) (by omega))
    obtain ⟨rfl, rfl⟩ := Prod.mk.inj hw
    obtain ⟨f_3, hg_3, hP1, hK1, hD1⟩ := hB
    rw [ht] at hP1
    obtain ⟨hP, hD⟩ := q_join (wr := [(x0, .inr (1, [.ref a1, .ref a2, .ref a3, .int fi, .int me])), (a1, .inr (0, [.ref b1, .int (nI nh)])), (b1, .inl (cA, 2100, .inl fh)), (a2, .inr (0, [.ref b2, .int (nI nr)])), (b2, .inl (cA, 2100, .inl fr))]) (w1 := [(a3, .inr (0, [.ref b3, .int (nI (nk + 1))])), (b3, .inl (cA, 2100, .inl f_3))]) (wz := [(x0, .inr (1, [.ref a1, .ref a2, .ref a3, .int fi, .int me])), (a1, .inr (0, [.ref b1, .int (nI nh)])), (b1, .inl (cA, 2100, .inl fh)), (a2, .inr (0, [.ref b2, .int (nI nr)])), (b2, .inl (cA, 2100, .inl fr)), (a3, .inr (0, [.ref b3, .int (nI (nk + 1))])), (b3, .inl (cA, 2100, .inl f_3))]) hP hD [5, 6] [0, 1, 2, 3, 4] [0, 1, 2, 3, 4, 5, 6] rfl rfl (by decide) (by decide) hk1 hFc hP1 hD1 rfl rfl (by decide)
    generalize H1 = H at hP hS ⊢
    refine lv_if_ne (tgt := 28) hx hb dX1_insert_22 (by decide) (fun c_4 => ?_) (fun c_0 => absurd c_0 (show ¬ (1 : Int32) = (0 : Int32) from (by decide)))
    refine lv_aload_n hx hb dX1_insert_28 rfl (lv_at hl 0 rfl) ?_
    have hPc := hP.sub (ws' := [(x0, .inr (1, [.ref a1, .ref a2, .ref a3, .int fi, .int me]))]) [0] rfl
    have hKc := hK.sub (tys' := []) [] rfl
    have hDc := hD.sub (ws' := [(x0, .inr (1, [.ref a1, .ref a2, .ref a3, .int fi, .int me]))]) [0] (by decide) rfl
    have hFc := va_free (wc := [(x0, .inr (1, [.ref a1, .ref a2, .ref a3, .int fi, .int me]))]) hD hS hA [0] rfl
    refine va_callv (va_runV (As := []) (rest := []) ⟨hx, hb, hml, hown, hts⟩ (c_Hall_liftFinger l dC dI H.size x0 a1 a2 a3 fi me) (cwV 0 hts gX1_insert_X1_liftFinger_v rfl rfl rfl (by decide +kernel) ⟨Nat.le_of_ble_eq_true rfl, Nat.le_of_ble_eq_true rfl⟩) ⟨q_blW, va_recv hKc hPc (ci := 1) (q0 := 0) rfl rfl, fun U hU hW => ⟨rfl, by rw [hU], by rw [hU]; exact hPc, va_K.moved hW.alike hKc, hDc.weaken (fun _ _ _ _ => trivial)⟩⟩ rfl rfl hl.1 rfl (lv_room (Nat.le_of_ble_eq_true rfl)) dX1_insert_29 ⟨Nat.le_of_ble_eq_true rfl, Nat.le_of_ble_eq_true rfl⟩) hS (fun q _ h => hFc q h) hFc (fun u_5 t_5 H1 locs ht hvm hw hB hz1 hk1 hS => ?_)
    subst hw
    obtain ⟨hP1, hK1, hD1⟩ := hB
    rw [ht] at hP1
    obtain ⟨hP, hD⟩ := q_join (wr := [(a1, .inr (0, [.ref b1, .int (nI nh)])), (b1, .inl (cA, 2100, .inl fh)), (a2, .inr (0, [.ref b2, .int (nI nr)])), (b2, .inl (cA, 2100, .inl fr)), (a3, .inr (0, [.ref b3, .int (nI (nk + 1))])), (b3, .inl (cA, 2100, .inl f_3))]) (w1 := [(x0, .inr (1, [.ref a1, .ref a2, .ref a3, .int (-1), .int (-1)]))]) (wz := [(x0, .inr (1, [.ref a1, .ref a2, .ref a3, .int (-1), .int (-1)])), (a1, .inr (0, [.ref b1, .int (nI nh)])), (b1, .inl (cA, 2100, .inl fh)), (a2, .inr (0, [.ref b2, .int (nI nr)])), (b2, .inl (cA, 2100, .inl fr)), (a3, .inr (0, [.ref b3, .int (nI (nk + 1))])), (b3, .inl (cA, 2100, .inl f_3))]) hP hD [0] [1, 2, 3, 4, 5, 6] [6, 0, 1, 2, 3, 4, 5] rfl rfl (by decide) (by decide) hk1 hFc hP1 hD1 rfl rfl (by decide)
    generalize H1 = H at hP hS ⊢
    refine lv_aload_n hx hb dX1_insert_32 rfl (lv_at hl 0 rfl) ?_
    refine va_get (D := (dC, dI)) (ci := 1) (v := .ref a3) (C := RX1) (T := TX1) (N := 5) hx hb hts inX1_insert_X1 hown hK hP 0 rfl rfl 2 (by decide) (hts (.fieldLink RX1 19 "QueueHall" "chainRow" "LQueueHall$Row;") (List.mem_of_getElem? (i := 1) (by decide +kernel))) (fun _ h9 => h9) rfl dX1_insert_33 ?_
    refine va_getN (D := (dC, dI)) (ci := 0) (v := .int (nI (nk + 1))) (C := RX0) (T := TX0) (N := 2) hx hb hts inX1_insert_X0 hown hK hP 5 rfl rfl 1 (by decide) (qN_count hN) (fun _ h9 => h9) rfl dX1_insert_36 ?_
    exact W.iret (v := nI (nk + 1)) hx hb hr (fun t ht hW => ⟨⟨nI (nk + 1), ((gh, nh), (gr, nr), (qIns gk k p1, nk + 1), -1, -1), rfl, (by simp only [qInsert, qHe_in hk (show nk < 2 ^ 31 by omega), if_neg q_ne10, nI_clamp (show k < 2 ^ 31 by omega)]), fh, fr, f_3, ha1, ha2, hg_3, by rw [ht]; exact hP, va_K.moved hW.alike hK, hD⟩, hS.F ht⟩) hS.2.2 dX1_insert_39

set_option maxHeartbeats 4000000 in
set_option maxRecDepth 100000 in
theorem c_Hall_point (l : Launch) (dC : Nat → ClassId) (dI : Nat → Nat → Nat) (sz : Nat) (x0 a1 b1 a2 b2 a3 b3 nh nr nk : Nat) (cA : ClassId) (fh gh fr gr fk gk : Nat → Int32) (fi me : Int32) (p0 : Int32) (hn : nh + nr + nk < 2000) (ha1 : qAg nh fh gh) (ha2 : qAg nr fr gr) (ha3 : qAg nk fk gk) (hF : qFok fi me nk) : Met l yX1_point wsX1_point ({ frames := 2, cells := 0, slots := 0, locals := 58 }) (va_Pc [.ref x0, .int p0] (fun U => U.heap.size = sz ∧ va_P (dC, dI) vwCl [(x0, .inr (1, [.ref a1, .ref a2, .ref a3, .int fi, .int me])), (a1, .inr (0, [.ref b1, .int (nI nh)])), (b1, .inl (cA, 2100, .inl fh)), (a2, .inr (0, [.ref b2, .int (nI nr)])), (b2, .inl (cA, 2100, .inl fr)), (a3, .inr (0, [.ref b3, .int (nI nk)])), (b3, .inl (cA, 2100, .inl fk))] U.heap ∧ va_K (dC, dI) vwCl [(cA, .int)] U ∧ va_D (fun _ => True) [(x0, .inr (1, [.ref a1, .ref a2, .ref a3, .int fi, .int me])), (a1, .inr (0, [.ref b1, .int (nI nh)])), (b1, .inl (cA, 2100, .inl fh)), (a2, .inr (0, [.ref b2, .int (nI nr)])), (b2, .inl (cA, 2100, .inl fr)), (a3, .inr (0, [.ref b3, .int (nI nk)])), (b3, .inl (cA, 2100, .inl fk))] ∧ qNest U)) (va_Qi (fun (r : Int32) (u : qS) => (r, u) = qPoint p0 ((gh, nh), (gr, nr), (gk, nk), fi, me)) (at_H dC dI (va_A [(x0, .inr (1, [.ref a1, .ref a2, .ref a3, .int fi, .int me])), (a1, .inr (0, [.ref b1, .int (nI nh)])), (b1, .inl (cA, 2100, .inl fh)), (a2, .inr (0, [.ref b2, .int (nI nr)])), (b2, .inl (cA, 2100, .inl fr)), (a3, .inr (0, [.ref b3, .int (nI nk)])), (b3, .inl (cA, 2100, .inl fk))] sz) x0 a1 b1 a2 b2 a3 b3 cA) (va_A [(x0, .inr (1, [.ref a1, .ref a2, .ref a3, .int fi, .int me])), (a1, .inr (0, [.ref b1, .int (nI nh)])), (b1, .inl (cA, 2100, .inl fh)), (a2, .inr (0, [.ref b2, .int (nI nr)])), (b2, .inl (cA, 2100, .inl fr)), (a3, .inr (0, [.ref b3, .int (nI nk)])), (b3, .inl (cA, 2100, .inl fk))] sz)) 0 0 (va_A [(x0, .inr (1, [.ref a1, .ref a2, .ref a3, .int fi, .int me])), (a1, .inr (0, [.ref b1, .int (nI nh)])), (b1, .inl (cA, 2100, .inl fh)), (a2, .inr (0, [.ref b2, .int (nI nr)])), (b2, .inl (cA, 2100, .inl fr)), (a3, .inr (0, [.ref b3, .int (nI nk)])), (b3, .inl (cA, 2100, .inl fk))] sz) := by
  refine Met.ofW (cc := cX1_point) (maxL := 2) (ret := (some .int)) (by decide +kernel) rfl ?_
  intro p e s m args below meth c s₁ B hml hv
  obtain ⟨rfl, hsz, hP, hK, hD0, hN⟩ := hv
  have hx := B.exec
  have hb := B.bytes
  have hr := B.returns
  have hts := atoms_spec (ws := wsX1_point) B.pre
  have hown : s.vm.findClass RX1 = some m.cls := findClass_of_methodNamed B.named
  have hlocks := B.notSynchronized
  subst hsz
  have hD := hD0.self (sz := s.heap.size)
  generalize hAe : va_A [(x0, .inr (1, [.ref a1, .ref a2, .ref a3, .int fi, .int me])), (a1, .inr (0, [.ref b1, .int (nI nh)])), (b1, .inl (cA, 2100, .inl fh)), (a2, .inr (0, [.ref b2, .int (nI nr)])), (b2, .inl (cA, 2100, .inl fr)), (a3, .inr (0, [.ref b3, .int (nI nk)])), (b3, .inl (cA, 2100, .inl fk))] s.heap.size = A at hD ⊢
  have hA : ∀ q : Nat, s.heap.size ≤ q → A q := fun q h => by rw [← hAe]; exact Or.inr h
  have hS : va_S A s.heap s.heap [] := va_S.rf
  have hl := lv_entry ([.ref x0, .int p0]) (n := 2) (Nat.le_of_ble_eq_true rfl)
  rw [lg_entry_eq]
  generalize (lg_sl ([.ref x0, .int p0]) ++ List.replicate (2 - (lg_sl ([.ref x0, .int p0])).length) Slot.unset).toArray = ls at hl ⊢
  have hl : lv_has ls 2 [(0, .ref x0), (1, .int p0)] := hl
  rcases qHe_c p0 (n := nk) (by omega) with h | ⟨k, hk, rfl⟩
  · refine lv_aload_n hx hb dX1_point_0 rfl (lv_at hl 0 rfl) ?_
    refine va_get (D := (dC, dI)) (ci := 1) (v := .ref a3) (C := RX1) (T := TX1) (N := 5) hx hb hts inX1_point_X1 hown hK hP 0 rfl rfl 2 (by decide) (hts (.fieldLink RX1 19 "QueueHall" "chainRow" "LQueueHall$Row;") (List.mem_of_getElem? (i := 1) (by decide +kernel))) (fun _ h9 => h9) rfl dX1_point_1 ?_
    refine lv_iload_n hx hb dX1_point_4 rfl (lv_at hl 1 rfl) ?_
    have hPc := hP.sub (ws' := [(a3, .inr (0, [.ref b3, .int (nI nk)]))]) [5] rfl
    have hKc := hK.sub (tys' := []) [] rfl
    refine q_csiE (va_runVN (As := [.int p0]) (rest := []) ⟨hx, hb, hml, hown, hts⟩ (c_Row_hasPlaceOrEnd l dC dI a3 b3 nk p0) ⟨va_cnB 1 hts gX1_point_X0_hasPlaceOrEnd rfl rfl rfl (qN_hasPlaceOrEnd hN) (hts (.initialized RX0) (List.mem_of_getElem? (i := 4) (by decide +kernel))) (by decide +kernel) ⟨Nat.le_of_ble_eq_true rfl, Nat.le_of_ble_eq_true rfl⟩, (hts (.instanceMethod yX0_hasPlaceOrEnd) (List.mem_of_getElem? (i := 2) (by decide +kernel))), (hts (.selects RX0 yX0_hasPlaceOrEnd yX0_hasPlaceOrEnd) (List.mem_of_getElem? (i := 3) (by decide +kernel)))⟩ ⟨q_blR, va_recv hKc hPc (ci := 0) (q0 := 0) rfl rfl, fun U hU hW => ⟨rfl, by rw [hU]; exact hPc, va_K.moved hW.alike hKc⟩⟩ rfl rfl hl.1 rfl (lv_room (Nat.le_of_ble_eq_true rfl)) dX1_point_5 ⟨Nat.le_of_ble_eq_true rfl, Nat.le_of_ble_eq_true rfl⟩) ?_
    refine q_top (y := 0) h ?_
    refine lv_if_ne (tgt := 13) hx hb dX1_point_8 (by decide) (fun c_0 => absurd (show (0 : Int32) = (0 : Int32) from (by decide)) c_0) (fun c_1 => ?_)
    refine lv_iconst (v := -1) hx hb dX1_point_11 (by decide) ?_
    exact W.iret (v := -1) hx hb hr (fun t ht hW => ⟨⟨-1, ((gh, nh), (gr, nr), (gk, nk), fi, me), rfl, (by simp only [qPoint, if_pos h]), fh, fr, fk, ha1, ha2, ha3, by rw [ht]; exact hP, va_K.moved hW.alike hK, hD⟩, hS.F ht⟩) hS.2.2 dX1_point_12
  · refine lv_aload_n hx hb dX1_point_0 rfl (lv_at hl 0 rfl) ?_
    refine va_get (D := (dC, dI)) (ci := 1) (v := .ref a3) (C := RX1) (T := TX1) (N := 5) hx hb hts inX1_point_X1 hown hK hP 0 rfl rfl 2 (by decide) (hts (.fieldLink RX1 19 "QueueHall" "chainRow" "LQueueHall$Row;") (List.mem_of_getElem? (i := 1) (by decide +kernel))) (fun _ h9 => h9) rfl dX1_point_1 ?_
    refine lv_iload_n hx hb dX1_point_4 rfl (lv_at hl 1 rfl) ?_
    have hPc := hP.sub (ws' := [(a3, .inr (0, [.ref b3, .int (nI nk)]))]) [5] rfl
    have hKc := hK.sub (tys' := []) [] rfl
    refine q_csiE (va_runVN (As := [.int (nI k)]) (rest := []) ⟨hx, hb, hml, hown, hts⟩ (c_Row_hasPlaceOrEnd l dC dI a3 b3 nk (nI k)) ⟨va_cnB 1 hts gX1_point_X0_hasPlaceOrEnd rfl rfl rfl (qN_hasPlaceOrEnd hN) (hts (.initialized RX0) (List.mem_of_getElem? (i := 4) (by decide +kernel))) (by decide +kernel) ⟨Nat.le_of_ble_eq_true rfl, Nat.le_of_ble_eq_true rfl⟩, (hts (.instanceMethod yX0_hasPlaceOrEnd) (List.mem_of_getElem? (i := 2) (by decide +kernel))), (hts (.selects RX0 yX0_hasPlaceOrEnd yX0_hasPlaceOrEnd) (List.mem_of_getElem? (i := 3) (by decide +kernel)))⟩ ⟨q_blR, va_recv hKc hPc (ci := 0) (q0 := 0) rfl rfl, fun U hU hW => ⟨rfl, by rw [hU]; exact hPc, va_K.moved hW.alike hKc⟩⟩ rfl rfl hl.1 rfl (lv_room (Nat.le_of_ble_eq_true rfl)) dX1_point_5 ⟨Nat.le_of_ble_eq_true rfl, Nat.le_of_ble_eq_true rfl⟩) ?_
    refine q_top (y := 1) (qHe_in (by omega) (by omega)) ?_
    refine lv_if_ne (tgt := 13) hx hb dX1_point_8 (by decide) (fun c_2 => ?_) (fun c_0 => absurd c_0 (show ¬ (1 : Int32) = (0 : Int32) from (by decide)))
    refine lv_aload_n hx hb dX1_point_13 rfl (lv_at hl 0 rfl) ?_
    refine lv_iload_n hx hb dX1_point_14 rfl (lv_at hl 1 rfl) ?_
    refine va_put (D := (dC, dI)) (ci := 1) (v := .int (nI k)) (ty := .int) (C := RX1) (T := TX1) (N := 5) hx hb hts inX1_point_X1 tyX1 tyX1_ok nmX1 hown hK hP hD hS 0 rfl rfl 3 (by decide) (hts (.fieldLink RX1 22 "QueueHall" "fingerPlace" "I") (List.mem_of_getElem? (i := 7) (by decide +kernel))) (fun _ h9 => h9) rfl (by decide +kernel) rfl rfl (Nat.le_of_ble_eq_true rfl) dX1_point_15 (fun H locs hP hD hS => ?_)
    have hP : va_P (dC, dI) vwCl [(x0, .inr (1, [.ref a1, .ref a2, .ref a3, .int (nI k), .int me])), (a1, .inr (0, [.ref b1, .int (nI nh)])), (b1, .inl (cA, 2100, .inl fh)), (a2, .inr (0, [.ref b2, .int (nI nr)])), (b2, .inl (cA, 2100, .inl fr)), (a3, .inr (0, [.ref b3, .int (nI nk)])), (b3, .inl (cA, 2100, .inl fk))] H := hP
    have hD : va_D A [(x0, .inr (1, [.ref a1, .ref a2, .ref a3, .int (nI k), .int me])), (a1, .inr (0, [.ref b1, .int (nI nh)])), (b1, .inl (cA, 2100, .inl fh)), (a2, .inr (0, [.ref b2, .int (nI nr)])), (b2, .inl (cA, 2100, .inl fr)), (a3, .inr (0, [.ref b3, .int (nI nk)])), (b3, .inl (cA, 2100, .inl fk))] := hD
    refine lv_aload_n hx hb dX1_point_18 rfl (lv_at hl 0 rfl) ?_
    refine lv_iconst (v := -1) hx hb dX1_point_19 (by decide) ?_
    refine va_put (D := (dC, dI)) (ci := 1) (v := .int (-1)) (ty := .int) (C := RX1) (T := TX1) (N := 5) hx hb hts inX1_point_X1 tyX1 tyX1_ok nmX1 hown hK hP hD hS 0 rfl rfl 4 (by decide) (hts (.fieldLink RX1 26 "QueueHall" "metPlace" "I") (List.mem_of_getElem? (i := 8) (by decide +kernel))) (fun _ h9 => h9) rfl (by decide +kernel) rfl rfl (Nat.le_of_ble_eq_true rfl) dX1_point_20 (fun H locs hP hD hS => ?_)
    have hP : va_P (dC, dI) vwCl [(x0, .inr (1, [.ref a1, .ref a2, .ref a3, .int (nI k), .int (-1)])), (a1, .inr (0, [.ref b1, .int (nI nh)])), (b1, .inl (cA, 2100, .inl fh)), (a2, .inr (0, [.ref b2, .int (nI nr)])), (b2, .inl (cA, 2100, .inl fr)), (a3, .inr (0, [.ref b3, .int (nI nk)])), (b3, .inl (cA, 2100, .inl fk))] H := hP
    have hD : va_D A [(x0, .inr (1, [.ref a1, .ref a2, .ref a3, .int (nI k), .int (-1)])), (a1, .inr (0, [.ref b1, .int (nI nh)])), (b1, .inl (cA, 2100, .inl fh)), (a2, .inr (0, [.ref b2, .int (nI nr)])), (b2, .inl (cA, 2100, .inl fr)), (a3, .inr (0, [.ref b3, .int (nI nk)])), (b3, .inl (cA, 2100, .inl fk))] := hD
    refine lv_iload_n hx hb dX1_point_23 rfl (lv_at hl 1 rfl) ?_
    exact W.iret (v := nI k) hx hb hr (fun t ht hW => ⟨⟨nI k, ((gh, nh), (gr, nr), (gk, nk), nI k, -1), rfl, (by simp only [qPoint, qHe_in hk (show nk < 2 ^ 31 by omega), if_neg q_ne10, nI_clamp (show k < 2 ^ 31 by omega)]), fh, fr, fk, ha1, ha2, ha3, by rw [ht]; exact hP, va_K.moved hW.alike hK, hD⟩, hS.F ht⟩) hS.2.2 dX1_point_24

set_option maxHeartbeats 4000000 in
set_option maxRecDepth 100000 in
theorem c_Hall_change (l : Launch) (dC : Nat → ClassId) (dI : Nat → Nat → Nat) (sz : Nat) (x0 a1 b1 a2 b2 a3 b3 nh nr nk : Nat) (cA : ClassId) (fh gh fr gr fk gk : Nat → Int32) (fi me : Int32) (p0 p1 p2 : Int32) (hn : nh + nr + nk < 2000) (ha1 : qAg nh fh gh) (ha2 : qAg nr fr gr) (ha3 : qAg nk fk gk) (hF : qFok fi me nk) : Met l yX1_change wsX1_change ({ frames := 2, cells := 0, slots := 0, locals := 58 }) (va_Pc [.ref x0, .int p0, .int p1, .int p2] (fun U => U.heap.size = sz ∧ va_P (dC, dI) vwCl [(x0, .inr (1, [.ref a1, .ref a2, .ref a3, .int fi, .int me])), (a1, .inr (0, [.ref b1, .int (nI nh)])), (b1, .inl (cA, 2100, .inl fh)), (a2, .inr (0, [.ref b2, .int (nI nr)])), (b2, .inl (cA, 2100, .inl fr)), (a3, .inr (0, [.ref b3, .int (nI nk)])), (b3, .inl (cA, 2100, .inl fk))] U.heap ∧ va_K (dC, dI) vwCl [(cA, .int)] U ∧ va_D (fun _ => True) [(x0, .inr (1, [.ref a1, .ref a2, .ref a3, .int fi, .int me])), (a1, .inr (0, [.ref b1, .int (nI nh)])), (b1, .inl (cA, 2100, .inl fh)), (a2, .inr (0, [.ref b2, .int (nI nr)])), (b2, .inl (cA, 2100, .inl fr)), (a3, .inr (0, [.ref b3, .int (nI nk)])), (b3, .inl (cA, 2100, .inl fk))] ∧ qNest U)) (va_Ql (fun (r : Int64) (u : qS) => (r, u) = qChange p0 p1 p2 ((gh, nh), (gr, nr), (gk, nk), fi, me)) (at_H dC dI (va_A [(x0, .inr (1, [.ref a1, .ref a2, .ref a3, .int fi, .int me])), (a1, .inr (0, [.ref b1, .int (nI nh)])), (b1, .inl (cA, 2100, .inl fh)), (a2, .inr (0, [.ref b2, .int (nI nr)])), (b2, .inl (cA, 2100, .inl fr)), (a3, .inr (0, [.ref b3, .int (nI nk)])), (b3, .inl (cA, 2100, .inl fk))] sz) x0 a1 b1 a2 b2 a3 b3 cA) (va_A [(x0, .inr (1, [.ref a1, .ref a2, .ref a3, .int fi, .int me])), (a1, .inr (0, [.ref b1, .int (nI nh)])), (b1, .inl (cA, 2100, .inl fh)), (a2, .inr (0, [.ref b2, .int (nI nr)])), (b2, .inl (cA, 2100, .inl fr)), (a3, .inr (0, [.ref b3, .int (nI nk)])), (b3, .inl (cA, 2100, .inl fk))] sz)) 0 0 (va_A [(x0, .inr (1, [.ref a1, .ref a2, .ref a3, .int fi, .int me])), (a1, .inr (0, [.ref b1, .int (nI nh)])), (b1, .inl (cA, 2100, .inl fh)), (a2, .inr (0, [.ref b2, .int (nI nr)])), (b2, .inl (cA, 2100, .inl fr)), (a3, .inr (0, [.ref b3, .int (nI nk)])), (b3, .inl (cA, 2100, .inl fk))] sz) := by
  refine Met.ofW (cc := cX1_change) (maxL := 6) (ret := (some .long)) (by decide +kernel) rfl ?_
  intro p e s m args below meth c s₁ B hml hv
  obtain ⟨rfl, hsz, hP, hK, hD0, hN⟩ := hv
  have hx := B.exec
  have hb := B.bytes
  have hr := B.returns
  have hts := atoms_spec (ws := wsX1_change) B.pre
  have hown : s.vm.findClass RX1 = some m.cls := findClass_of_methodNamed B.named
  have hlocks := B.notSynchronized
  subst hsz
  have hD := hD0.self (sz := s.heap.size)
  generalize hAe : va_A [(x0, .inr (1, [.ref a1, .ref a2, .ref a3, .int fi, .int me])), (a1, .inr (0, [.ref b1, .int (nI nh)])), (b1, .inl (cA, 2100, .inl fh)), (a2, .inr (0, [.ref b2, .int (nI nr)])), (b2, .inl (cA, 2100, .inl fr)), (a3, .inr (0, [.ref b3, .int (nI nk)])), (b3, .inl (cA, 2100, .inl fk))] s.heap.size = A at hD ⊢
  have hA : ∀ q : Nat, s.heap.size ≤ q → A q := fun q h => by rw [← hAe]; exact Or.inr h
  have hS : va_S A s.heap s.heap [] := va_S.rf
  have hl := lv_entry ([.ref x0, .int p0, .int p1, .int p2]) (n := 6) (Nat.le_of_ble_eq_true rfl)
  rw [lg_entry_eq]
  generalize (lg_sl ([.ref x0, .int p0, .int p1, .int p2]) ++ List.replicate (6 - (lg_sl ([.ref x0, .int p0, .int p1, .int p2])).length) Slot.unset).toArray = ls at hl ⊢
  have hl : lv_has ls 6 [(0, .ref x0), (1, .int p0), (2, .int p1), (3, .int p2)] := hl
  rcases qHp_c p0 (n := nk) (by omega) with h | ⟨k, hk, rfl⟩ <;> by_cases hz : p2 = 0
  · refine lv_iload_n hx hb dX1_change_0 rfl (lv_at hl 3 rfl) ?_
    refine lv_if_eq (tgt := 15) hx hb dX1_change_1 (by decide) (fun c_1 => ?_) (fun c_0 => absurd (show p2 = (0 : Int32) from hz) c_0)
    refine lv_aload_n hx hb dX1_change_15 rfl (lv_at hl 0 rfl) ?_
    refine va_get (D := (dC, dI)) (ci := 1) (v := .ref a3) (C := RX1) (T := TX1) (N := 5) hx hb hts inX1_change_X1 hown hK hP 0 rfl rfl 2 (by decide) (hts (.fieldLink RX1 19 "QueueHall" "chainRow" "LQueueHall$Row;") (List.mem_of_getElem? (i := 1) (by decide +kernel))) (fun _ h9 => h9) rfl dX1_change_16 ?_
    refine lv_iload_n hx hb dX1_change_19 rfl (lv_at hl 1 rfl) ?_
    refine lv_iload_n hx hb dX1_change_20 rfl (lv_at hl 2 rfl) ?_
    have hPc := hP.sub (ws' := [(a3, .inr (0, [.ref b3, .int (nI nk)])), (b3, .inl (cA, 2100, .inl fk))]) [5, 6] rfl
    have hKc := hK.sub (tys' := [(cA, .int)]) [0] rfl
    have hDc := hD.sub (ws' := [(a3, .inr (0, [.ref b3, .int (nI nk)])), (b3, .inl (cA, 2100, .inl fk))]) [5, 6] (by decide) rfl
    have hFc := va_free (wc := [(a3, .inr (0, [.ref b3, .int (nI nk)])), (b3, .inl (cA, 2100, .inl fk))]) hD hS hA [5, 6] rfl
    refine va_calll (va_runVN (As := [.int p0, .int p1]) (rest := []) ⟨hx, hb, hml, hown, hts⟩ (c_Row_swap l dC dI s.heap.size a3 b3 nk cA fk gk p0 p1 (by omega) ha3) ⟨va_cnB 2 hts gX1_change_X0_swap rfl rfl rfl (qN_swap hN) (hts (.initialized RX0) (List.mem_of_getElem? (i := 4) (by decide +kernel))) (by decide +kernel) ⟨Nat.le_of_ble_eq_true rfl, Nat.le_of_ble_eq_true rfl⟩, (hts (.instanceMethod yX0_swap) (List.mem_of_getElem? (i := 17) (by decide +kernel))), (hts (.selects RX0 yX0_swap yX0_swap) (List.mem_of_getElem? (i := 18) (by decide +kernel)))⟩ ⟨q_blW, va_recv hKc hPc (ci := 0) (q0 := 0) rfl rfl, fun U hU hW => ⟨rfl, by rw [hU], by rw [hU]; exact hPc, va_K.moved hW.alike hKc, hDc.weaken (fun _ _ _ _ => trivial)⟩⟩ rfl rfl hl.1 rfl (lv_room (Nat.le_of_ble_eq_true rfl)) dX1_change_21 ⟨Nat.le_of_ble_eq_true rfl, Nat.le_of_ble_eq_true rfl⟩) hS (fun q _ h => hFc q h) hFc (fun r_2 u_2 t_2 H1 locs ht hvm hw hB hz1 hk1 hS => ?_)
    have hw := hw.trans (qSwap_o h)
    obtain ⟨rfl, rfl⟩ := Prod.mk.inj hw
    obtain ⟨f_2, hg_2, hP1, hK1, hD1⟩ := hB
    rw [ht] at hP1
    obtain ⟨hP, hD⟩ := q_join (wr := [(x0, .inr (1, [.ref a1, .ref a2, .ref a3, .int fi, .int me])), (a1, .inr (0, [.ref b1, .int (nI nh)])), (b1, .inl (cA, 2100, .inl fh)), (a2, .inr (0, [.ref b2, .int (nI nr)])), (b2, .inl (cA, 2100, .inl fr))]) (w1 := [(a3, .inr (0, [.ref b3, .int (nI nk)])), (b3, .inl (cA, 2100, .inl f_2))]) (wz := [(x0, .inr (1, [.ref a1, .ref a2, .ref a3, .int fi, .int me])), (a1, .inr (0, [.ref b1, .int (nI nh)])), (b1, .inl (cA, 2100, .inl fh)), (a2, .inr (0, [.ref b2, .int (nI nr)])), (b2, .inl (cA, 2100, .inl fr)), (a3, .inr (0, [.ref b3, .int (nI nk)])), (b3, .inl (cA, 2100, .inl f_2))]) hP hD [5, 6] [0, 1, 2, 3, 4] [0, 1, 2, 3, 4, 5, 6] rfl rfl (by decide) (by decide) hk1 hFc hP1 hD1 rfl rfl (by decide)
    generalize H1 = H at hP hS ⊢
    refine lv_lstore (lv' := [(4, .long qNo), (0, .ref x0), (1, .int p0), (2, .int p1), (3, .int p2)]) hx hb dX1_change_24 hl (by decide) rfl (fun ls hl => ?_)
    refine lv_iload_n hx hb dX1_change_26 rfl (lv_at hl 4 rfl) ?_
    refine lv_if_eq (tgt := 43) hx hb dX1_change_27 (by decide) (fun c_3 => ?_) (fun c_0 => absurd (show p2 = (0 : Int32) from hz) c_0)
    refine lv_lload hx hb dX1_change_43 (lv_at hl 0 rfl) ?_
    exact W.lret (v := qNo) hx hb hr (fun t ht hW => ⟨⟨qNo, ((gh, nh), (gr, nr), (gk, nk), fi, me), rfl, (by simp only [qChange, if_pos h]), fh, fr, f_2, ha1, ha2, hg_2, by rw [ht]; exact hP, va_K.moved hW.alike hK, hD⟩, hS.F ht⟩) hS.2.2 dX1_change_45
  · refine lv_iload_n hx hb dX1_change_0 rfl (lv_at hl 3 rfl) ?_
    refine lv_if_eq (tgt := 15) hx hb dX1_change_1 (by decide) (fun c_0 => absurd c_0 (show ¬ p2 = (0 : Int32) from hz)) (fun c_4 => ?_)
    refine lv_aload_n hx hb dX1_change_4 rfl (lv_at hl 0 rfl) ?_
    refine va_get (D := (dC, dI)) (ci := 1) (v := .ref a3) (C := RX1) (T := TX1) (N := 5) hx hb hts inX1_change_X1 hown hK hP 0 rfl rfl 2 (by decide) (hts (.fieldLink RX1 19 "QueueHall" "chainRow" "LQueueHall$Row;") (List.mem_of_getElem? (i := 1) (by decide +kernel))) (fun _ h9 => h9) rfl dX1_change_5 ?_
    refine lv_iload_n hx hb dX1_change_8 rfl (lv_at hl 1 rfl) ?_
    have hPc := hP.sub (ws' := [(a3, .inr (0, [.ref b3, .int (nI nk)])), (b3, .inl (cA, 2100, .inl fk))]) [5, 6] rfl
    have hKc := hK.sub (tys' := [(cA, .int)]) [0] rfl
    have hDc := hD.sub (ws' := [(a3, .inr (0, [.ref b3, .int (nI nk)])), (b3, .inl (cA, 2100, .inl fk))]) [5, 6] (by decide) rfl
    have hFc := va_free (wc := [(a3, .inr (0, [.ref b3, .int (nI nk)])), (b3, .inl (cA, 2100, .inl fk))]) hD hS hA [5, 6] rfl
    refine va_calll (va_runVN (As := [.int p0]) (rest := []) ⟨hx, hb, hml, hown, hts⟩ (c_Row_take l dC dI s.heap.size a3 b3 nk cA fk gk p0 (by omega) ha3) ⟨va_cnB 1 hts gX1_change_X0_take rfl rfl rfl (qN_take hN) (hts (.initialized RX0) (List.mem_of_getElem? (i := 4) (by decide +kernel))) (by decide +kernel) ⟨Nat.le_of_ble_eq_true rfl, Nat.le_of_ble_eq_true rfl⟩, (hts (.instanceMethod yX0_take) (List.mem_of_getElem? (i := 2) (by decide +kernel))), (hts (.selects RX0 yX0_take yX0_take) (List.mem_of_getElem? (i := 3) (by decide +kernel)))⟩ ⟨q_blW, va_recv hKc hPc (ci := 0) (q0 := 0) rfl rfl, fun U hU hW => ⟨rfl, by rw [hU], by rw [hU]; exact hPc, va_K.moved hW.alike hKc, hDc.weaken (fun _ _ _ _ => trivial)⟩⟩ rfl rfl hl.1 rfl (lv_room (Nat.le_of_ble_eq_true rfl)) dX1_change_9 ⟨Nat.le_of_ble_eq_true rfl, Nat.le_of_ble_eq_true rfl⟩) hS (fun q _ h => hFc q h) hFc (fun r_5 u_5 t_5 H1 locs ht hvm hw hB hz1 hk1 hS => ?_)
    have hw := hw.trans (qTake_o h)
    obtain ⟨rfl, rfl⟩ := Prod.mk.inj hw
    obtain ⟨f_5, hg_5, hP1, hK1, hD1⟩ := hB
    rw [ht] at hP1
    obtain ⟨hP, hD⟩ := q_join (wr := [(x0, .inr (1, [.ref a1, .ref a2, .ref a3, .int fi, .int me])), (a1, .inr (0, [.ref b1, .int (nI nh)])), (b1, .inl (cA, 2100, .inl fh)), (a2, .inr (0, [.ref b2, .int (nI nr)])), (b2, .inl (cA, 2100, .inl fr))]) (w1 := [(a3, .inr (0, [.ref b3, .int (nI nk)])), (b3, .inl (cA, 2100, .inl f_5))]) (wz := [(x0, .inr (1, [.ref a1, .ref a2, .ref a3, .int fi, .int me])), (a1, .inr (0, [.ref b1, .int (nI nh)])), (b1, .inl (cA, 2100, .inl fh)), (a2, .inr (0, [.ref b2, .int (nI nr)])), (b2, .inl (cA, 2100, .inl fr)), (a3, .inr (0, [.ref b3, .int (nI nk)])), (b3, .inl (cA, 2100, .inl f_5))]) hP hD [5, 6] [0, 1, 2, 3, 4] [0, 1, 2, 3, 4, 5, 6] rfl rfl (by decide) (by decide) hk1 hFc hP1 hD1 rfl rfl (by decide)
    generalize H1 = H at hP hS ⊢
    refine lv_goto (tgt := 24) hx hb dX1_change_12 (by decide) ?_
    refine lv_lstore (lv' := [(4, .long qNo), (0, .ref x0), (1, .int p0), (2, .int p1), (3, .int p2)]) hx hb dX1_change_24 hl (by decide) rfl (fun ls hl => ?_)
    refine lv_iload_n hx hb dX1_change_26 rfl (lv_at hl 4 rfl) ?_
    refine lv_if_eq (tgt := 43) hx hb dX1_change_27 (by decide) (fun c_0 => absurd c_0 (show ¬ p2 = (0 : Int32) from hz)) (fun c_6 => ?_)
    refine lv_lload hx hb dX1_change_30 (lv_at hl 0 rfl) ?_
    refine lv_ldc2 (v := qNo) hx hb hown (hts (.constantLong RX1 50 (1099511627776)) (List.mem_of_getElem? (i := 20) (by decide +kernel))) dX1_change_32 ?_
    refine W.lcmp hx hb dX1_change_35 ?_
    refine lv_if_eq (tgt := 43) hx hb dX1_change_36 (by decide) (fun _ => ?_) (fun c_0 => absurd ((lg_cmp_eq _ _).mpr rfl) c_0)
    refine lv_lload hx hb dX1_change_43 (lv_at hl 0 rfl) ?_
    exact W.lret (v := qNo) hx hb hr (fun t ht hW => ⟨⟨qNo, ((gh, nh), (gr, nr), (gk, nk), fi, me), rfl, (by simp only [qChange, if_pos h]), fh, fr, f_5, ha1, ha2, hg_5, by rw [ht]; exact hP, va_K.moved hW.alike hK, hD⟩, hS.F ht⟩) hS.2.2 dX1_change_45
  · refine lv_iload_n hx hb dX1_change_0 rfl (lv_at hl 3 rfl) ?_
    refine lv_if_eq (tgt := 15) hx hb dX1_change_1 (by decide) (fun c_7 => ?_) (fun c_0 => absurd (show p2 = (0 : Int32) from hz) c_0)
    refine lv_aload_n hx hb dX1_change_15 rfl (lv_at hl 0 rfl) ?_
    refine va_get (D := (dC, dI)) (ci := 1) (v := .ref a3) (C := RX1) (T := TX1) (N := 5) hx hb hts inX1_change_X1 hown hK hP 0 rfl rfl 2 (by decide) (hts (.fieldLink RX1 19 "QueueHall" "chainRow" "LQueueHall$Row;") (List.mem_of_getElem? (i := 1) (by decide +kernel))) (fun _ h9 => h9) rfl dX1_change_16 ?_
    refine lv_iload_n hx hb dX1_change_19 rfl (lv_at hl 1 rfl) ?_
    refine lv_iload_n hx hb dX1_change_20 rfl (lv_at hl 2 rfl) ?_
    have hPc := hP.sub (ws' := [(a3, .inr (0, [.ref b3, .int (nI nk)])), (b3, .inl (cA, 2100, .inl fk))]) [5, 6] rfl
    have hKc := hK.sub (tys' := [(cA, .int)]) [0] rfl
    have hDc := hD.sub (ws' := [(a3, .inr (0, [.ref b3, .int (nI nk)])), (b3, .inl (cA, 2100, .inl fk))]) [5, 6] (by decide) rfl
    have hFc := va_free (wc := [(a3, .inr (0, [.ref b3, .int (nI nk)])), (b3, .inl (cA, 2100, .inl fk))]) hD hS hA [5, 6] rfl
    refine va_calll (va_runVN (As := [.int (nI k), .int p1]) (rest := []) ⟨hx, hb, hml, hown, hts⟩ (c_Row_swap l dC dI s.heap.size a3 b3 nk cA fk gk (nI k) p1 (by omega) ha3) ⟨va_cnB 2 hts gX1_change_X0_swap rfl rfl rfl (qN_swap hN) (hts (.initialized RX0) (List.mem_of_getElem? (i := 4) (by decide +kernel))) (by decide +kernel) ⟨Nat.le_of_ble_eq_true rfl, Nat.le_of_ble_eq_true rfl⟩, (hts (.instanceMethod yX0_swap) (List.mem_of_getElem? (i := 17) (by decide +kernel))), (hts (.selects RX0 yX0_swap yX0_swap) (List.mem_of_getElem? (i := 18) (by decide +kernel)))⟩ ⟨q_blW, va_recv hKc hPc (ci := 0) (q0 := 0) rfl rfl, fun U hU hW => ⟨rfl, by rw [hU], by rw [hU]; exact hPc, va_K.moved hW.alike hKc, hDc.weaken (fun _ _ _ _ => trivial)⟩⟩ rfl rfl hl.1 rfl (lv_room (Nat.le_of_ble_eq_true rfl)) dX1_change_21 ⟨Nat.le_of_ble_eq_true rfl, Nat.le_of_ble_eq_true rfl⟩) hS (fun q _ h => hFc q h) hFc (fun r_8 u_8 t_8 H1 locs ht hvm hw hB hz1 hk1 hS => ?_)
    have hw := hw.trans (qSwap_i (k := k) (by omega) (by omega))
    obtain ⟨rfl, rfl⟩ := Prod.mk.inj hw
    obtain ⟨f_8, hg_8, hP1, hK1, hD1⟩ := hB
    rw [ht] at hP1
    obtain ⟨hP, hD⟩ := q_join (wr := [(x0, .inr (1, [.ref a1, .ref a2, .ref a3, .int fi, .int me])), (a1, .inr (0, [.ref b1, .int (nI nh)])), (b1, .inl (cA, 2100, .inl fh)), (a2, .inr (0, [.ref b2, .int (nI nr)])), (b2, .inl (cA, 2100, .inl fr))]) (w1 := [(a3, .inr (0, [.ref b3, .int (nI nk)])), (b3, .inl (cA, 2100, .inl f_8))]) (wz := [(x0, .inr (1, [.ref a1, .ref a2, .ref a3, .int fi, .int me])), (a1, .inr (0, [.ref b1, .int (nI nh)])), (b1, .inl (cA, 2100, .inl fh)), (a2, .inr (0, [.ref b2, .int (nI nr)])), (b2, .inl (cA, 2100, .inl fr)), (a3, .inr (0, [.ref b3, .int (nI nk)])), (b3, .inl (cA, 2100, .inl f_8))]) hP hD [5, 6] [0, 1, 2, 3, 4] [0, 1, 2, 3, 4, 5, 6] rfl rfl (by decide) (by decide) hk1 hFc hP1 hD1 rfl rfl (by decide)
    generalize H1 = H at hP hS ⊢
    refine lv_lstore (lv' := [(4, .long ((gk k).toInt64)), (0, .ref x0), (1, .int (nI k)), (2, .int p1), (3, .int p2)]) hx hb dX1_change_24 hl (by decide) rfl (fun ls hl => ?_)
    refine lv_iload_n hx hb dX1_change_26 rfl (lv_at hl 4 rfl) ?_
    refine lv_if_eq (tgt := 43) hx hb dX1_change_27 (by decide) (fun c_9 => ?_) (fun c_0 => absurd (show p2 = (0 : Int32) from hz) c_0)
    refine lv_lload hx hb dX1_change_43 (lv_at hl 0 rfl) ?_
    exact W.lret (v := (gk k).toInt64) hx hb hr (fun t ht hW => ⟨⟨(gk k).toInt64, ((gh, nh), (gr, nr), (upd gk k p1, nk), fi, me), rfl, (by simp only [qChange, qHp_in hk (show nk < 2 ^ 31 by omega), if_neg q_ne10, nI_clamp (show k < 2 ^ 31 by omega), if_pos hz]), fh, fr, f_8, ha1, ha2, hg_8, by rw [ht]; exact hP, va_K.moved hW.alike hK, hD⟩, hS.F ht⟩) hS.2.2 dX1_change_45
  · refine lv_iload_n hx hb dX1_change_0 rfl (lv_at hl 3 rfl) ?_
    refine lv_if_eq (tgt := 15) hx hb dX1_change_1 (by decide) (fun c_0 => absurd c_0 (show ¬ p2 = (0 : Int32) from hz)) (fun c_10 => ?_)
    refine lv_aload_n hx hb dX1_change_4 rfl (lv_at hl 0 rfl) ?_
    refine va_get (D := (dC, dI)) (ci := 1) (v := .ref a3) (C := RX1) (T := TX1) (N := 5) hx hb hts inX1_change_X1 hown hK hP 0 rfl rfl 2 (by decide) (hts (.fieldLink RX1 19 "QueueHall" "chainRow" "LQueueHall$Row;") (List.mem_of_getElem? (i := 1) (by decide +kernel))) (fun _ h9 => h9) rfl dX1_change_5 ?_
    refine lv_iload_n hx hb dX1_change_8 rfl (lv_at hl 1 rfl) ?_
    have hPc := hP.sub (ws' := [(a3, .inr (0, [.ref b3, .int (nI nk)])), (b3, .inl (cA, 2100, .inl fk))]) [5, 6] rfl
    have hKc := hK.sub (tys' := [(cA, .int)]) [0] rfl
    have hDc := hD.sub (ws' := [(a3, .inr (0, [.ref b3, .int (nI nk)])), (b3, .inl (cA, 2100, .inl fk))]) [5, 6] (by decide) rfl
    have hFc := va_free (wc := [(a3, .inr (0, [.ref b3, .int (nI nk)])), (b3, .inl (cA, 2100, .inl fk))]) hD hS hA [5, 6] rfl
    refine va_calll (va_runVN (As := [.int (nI k)]) (rest := []) ⟨hx, hb, hml, hown, hts⟩ (c_Row_take l dC dI s.heap.size a3 b3 nk cA fk gk (nI k) (by omega) ha3) ⟨va_cnB 1 hts gX1_change_X0_take rfl rfl rfl (qN_take hN) (hts (.initialized RX0) (List.mem_of_getElem? (i := 4) (by decide +kernel))) (by decide +kernel) ⟨Nat.le_of_ble_eq_true rfl, Nat.le_of_ble_eq_true rfl⟩, (hts (.instanceMethod yX0_take) (List.mem_of_getElem? (i := 2) (by decide +kernel))), (hts (.selects RX0 yX0_take yX0_take) (List.mem_of_getElem? (i := 3) (by decide +kernel)))⟩ ⟨q_blW, va_recv hKc hPc (ci := 0) (q0 := 0) rfl rfl, fun U hU hW => ⟨rfl, by rw [hU], by rw [hU]; exact hPc, va_K.moved hW.alike hKc, hDc.weaken (fun _ _ _ _ => trivial)⟩⟩ rfl rfl hl.1 rfl (lv_room (Nat.le_of_ble_eq_true rfl)) dX1_change_9 ⟨Nat.le_of_ble_eq_true rfl, Nat.le_of_ble_eq_true rfl⟩) hS (fun q _ h => hFc q h) hFc (fun r_11 u_11 t_11 H1 locs ht hvm hw hB hz1 hk1 hS => ?_)
    have hw := hw.trans (qTake_i (k := k) (by omega) (by omega))
    obtain ⟨rfl, rfl⟩ := Prod.mk.inj hw
    obtain ⟨f_11, hg_11, hP1, hK1, hD1⟩ := hB
    rw [ht] at hP1
    obtain ⟨hP, hD⟩ := q_join (wr := [(x0, .inr (1, [.ref a1, .ref a2, .ref a3, .int fi, .int me])), (a1, .inr (0, [.ref b1, .int (nI nh)])), (b1, .inl (cA, 2100, .inl fh)), (a2, .inr (0, [.ref b2, .int (nI nr)])), (b2, .inl (cA, 2100, .inl fr))]) (w1 := [(a3, .inr (0, [.ref b3, .int (nI (nk - 1))])), (b3, .inl (cA, 2100, .inl f_11))]) (wz := [(x0, .inr (1, [.ref a1, .ref a2, .ref a3, .int fi, .int me])), (a1, .inr (0, [.ref b1, .int (nI nh)])), (b1, .inl (cA, 2100, .inl fh)), (a2, .inr (0, [.ref b2, .int (nI nr)])), (b2, .inl (cA, 2100, .inl fr)), (a3, .inr (0, [.ref b3, .int (nI (nk - 1))])), (b3, .inl (cA, 2100, .inl f_11))]) hP hD [5, 6] [0, 1, 2, 3, 4] [0, 1, 2, 3, 4, 5, 6] rfl rfl (by decide) (by decide) hk1 hFc hP1 hD1 rfl rfl (by decide)
    generalize H1 = H at hP hS ⊢
    refine lv_goto (tgt := 24) hx hb dX1_change_12 (by decide) ?_
    refine lv_lstore (lv' := [(4, .long ((gk k).toInt64)), (0, .ref x0), (1, .int (nI k)), (2, .int p1), (3, .int p2)]) hx hb dX1_change_24 hl (by decide) rfl (fun ls hl => ?_)
    refine lv_iload_n hx hb dX1_change_26 rfl (lv_at hl 4 rfl) ?_
    refine lv_if_eq (tgt := 43) hx hb dX1_change_27 (by decide) (fun c_0 => absurd c_0 (show ¬ p2 = (0 : Int32) from hz)) (fun c_12 => ?_)
    refine lv_lload hx hb dX1_change_30 (lv_at hl 0 rfl) ?_
    refine lv_ldc2 (v := qNo) hx hb hown (hts (.constantLong RX1 50 (1099511627776)) (List.mem_of_getElem? (i := 20) (by decide +kernel))) dX1_change_32 ?_
    refine W.lcmp hx hb dX1_change_35 ?_
    refine lv_if_eq (tgt := 43) hx hb dX1_change_36 (by decide) (fun c_0 => absurd c_0 (fun q => q_no _ ((lg_cmp_eq _ _).mp q))) (fun _ => ?_)
    refine lv_aload_n hx hb dX1_change_39 rfl (lv_at hl 1 rfl) ?_
    have hPc := hP.sub (ws' := [(x0, .inr (1, [.ref a1, .ref a2, .ref a3, .int fi, .int me]))]) [0] rfl
    have hKc := hK.sub (tys' := []) [] rfl
    have hDc := hD.sub (ws' := [(x0, .inr (1, [.ref a1, .ref a2, .ref a3, .int fi, .int me]))]) [0] (by decide) rfl
    have hFc := va_free (wc := [(x0, .inr (1, [.ref a1, .ref a2, .ref a3, .int fi, .int me]))]) hD hS hA [0] rfl
    refine va_callv (va_runV (As := []) (rest := []) ⟨hx, hb, hml, hown, hts⟩ (c_Hall_liftFinger l dC dI H.size x0 a1 a2 a3 fi me) (cwV 0 hts gX1_change_X1_liftFinger_v rfl rfl rfl (by decide +kernel) ⟨Nat.le_of_ble_eq_true rfl, Nat.le_of_ble_eq_true rfl⟩) ⟨q_blW, va_recv hKc hPc (ci := 1) (q0 := 0) rfl rfl, fun U hU hW => ⟨rfl, by rw [hU], by rw [hU]; exact hPc, va_K.moved hW.alike hKc, hDc.weaken (fun _ _ _ _ => trivial)⟩⟩ rfl rfl hl.1 rfl (lv_room (Nat.le_of_ble_eq_true rfl)) dX1_change_40 ⟨Nat.le_of_ble_eq_true rfl, Nat.le_of_ble_eq_true rfl⟩) hS (fun q _ h => hFc q h) hFc (fun u_13 t_13 H1 locs ht hvm hw hB hz1 hk1 hS => ?_)
    subst hw
    obtain ⟨hP1, hK1, hD1⟩ := hB
    rw [ht] at hP1
    obtain ⟨hP, hD⟩ := q_join (wr := [(a1, .inr (0, [.ref b1, .int (nI nh)])), (b1, .inl (cA, 2100, .inl fh)), (a2, .inr (0, [.ref b2, .int (nI nr)])), (b2, .inl (cA, 2100, .inl fr)), (a3, .inr (0, [.ref b3, .int (nI (nk - 1))])), (b3, .inl (cA, 2100, .inl f_11))]) (w1 := [(x0, .inr (1, [.ref a1, .ref a2, .ref a3, .int (-1), .int (-1)]))]) (wz := [(x0, .inr (1, [.ref a1, .ref a2, .ref a3, .int (-1), .int (-1)])), (a1, .inr (0, [.ref b1, .int (nI nh)])), (b1, .inl (cA, 2100, .inl fh)), (a2, .inr (0, [.ref b2, .int (nI nr)])), (b2, .inl (cA, 2100, .inl fr)), (a3, .inr (0, [.ref b3, .int (nI (nk - 1))])), (b3, .inl (cA, 2100, .inl f_11))]) hP hD [0] [1, 2, 3, 4, 5, 6] [6, 0, 1, 2, 3, 4, 5] rfl rfl (by decide) (by decide) hk1 hFc hP1 hD1 rfl rfl (by decide)
    generalize H1 = H at hP hS ⊢
    refine lv_lload hx hb dX1_change_43 (lv_at hl 0 rfl) ?_
    exact W.lret (v := (gk k).toInt64) hx hb hr (fun t ht hW => ⟨⟨(gk k).toInt64, ((gh, nh), (gr, nr), (qDel gk k, nk - 1), -1, -1), rfl, (by simp only [qChange, qHp_in hk (show nk < 2 ^ 31 by omega), if_neg q_ne10, nI_clamp (show k < 2 ^ 31 by omega), if_neg hz]), fh, fr, f_11, ha1, ha2, hg_11, by rw [ht]; exact hP, va_K.moved hW.alike hK, hD⟩, hS.F ht⟩) hS.2.2 dX1_change_45

set_option maxHeartbeats 4000000 in
set_option maxRecDepth 100000 in
theorem c_Hall_chain (l : Launch) (dC : Nat → ClassId) (dI : Nat → Nat → Nat) (x0 a1 b1 a2 b2 a3 b3 nh nr nk : Nat) (cA : ClassId) (fh gh fr gr fk gk : Nat → Int32) (fi me : Int32) (p0 : Int32) (hn : nh + nr + nk < 2000) (ha1 : qAg nh fh gh) (ha2 : qAg nr fr gr) (ha3 : qAg nk fk gk) (hF : qFok fi me nk) : Met l yX1_chain wsX1_chain ({ frames := 2, cells := 0, slots := 0, locals := 58 }) (va_Pc [.ref x0, .int p0] (fun U => va_P (dC, dI) vwCl [(x0, .inr (1, [.ref a1, .ref a2, .ref a3, .int fi, .int me])), (a1, .inr (0, [.ref b1, .int (nI nh)])), (b1, .inl (cA, 2100, .inl fh)), (a2, .inr (0, [.ref b2, .int (nI nr)])), (b2, .inl (cA, 2100, .inl fr)), (a3, .inr (0, [.ref b3, .int (nI nk)])), (b3, .inl (cA, 2100, .inl fk))] U.heap ∧ va_K (dC, dI) vwCl [(cA, .int)] U ∧ qNest U)) (vp_Sl (fun r => r = (qChain p0 ((gh, nh), (gr, nr), (gk, nk), fi, me)).1)) 0 0 (fun _ => False) := by
  refine Met.ofW (cc := cX1_chain) (maxL := 2) (ret := (some .long)) (by decide +kernel) rfl ?_
  intro p e s m args below meth c s₁ B hml hv
  obtain ⟨rfl, hP, hK, hN⟩ := hv
  have hx := B.exec
  have hb := B.bytes
  have hr := B.returns
  have hts := atoms_spec (ws := wsX1_chain) B.pre
  have hown : s.vm.findClass RX1 = some m.cls := findClass_of_methodNamed B.named
  have hlocks := B.notSynchronized
  have hl := lv_entry ([.ref x0, .int p0]) (n := 2) (Nat.le_of_ble_eq_true rfl)
  rw [lg_entry_eq]
  generalize (lg_sl ([.ref x0, .int p0]) ++ List.replicate (2 - (lg_sl ([.ref x0, .int p0])).length) Slot.unset).toArray = ls at hl ⊢
  have hl : lv_has ls 2 [(0, .ref x0), (1, .int p0)] := hl
  refine lv_aload_n hx hb dX1_chain_0 rfl (lv_at hl 0 rfl) ?_
  refine va_get (D := (dC, dI)) (ci := 1) (v := .ref a3) (C := RX1) (T := TX1) (N := 5) hx hb hts inX1_chain_X1 hown hK hP 0 rfl rfl 2 (by decide) (hts (.fieldLink RX1 19 "QueueHall" "chainRow" "LQueueHall$Row;") (List.mem_of_getElem? (i := 1) (by decide +kernel))) (fun _ h9 => h9) rfl dX1_chain_1 ?_
  refine lv_iload_n hx hb dX1_chain_4 rfl (lv_at hl 1 rfl) ?_
  have hPc := hP.sub (ws' := [(a3, .inr (0, [.ref b3, .int (nI nk)])), (b3, .inl (cA, 2100, .inl fk))]) [5, 6] rfl
  have hKc := hK.sub (tys' := [(cA, .int)]) [0] rfl
  refine q_cslE (va_runVN (As := [.int p0]) (rest := []) ⟨hx, hb, hml, hown, hts⟩ (c_Row_at l dC dI a3 b3 nk cA fk gk p0 (by omega) ha3) ⟨va_cnB 1 hts gX1_chain_X0_at rfl rfl rfl (qN_at hN) (hts (.initialized RX0) (List.mem_of_getElem? (i := 4) (by decide +kernel))) (by decide +kernel) ⟨Nat.le_of_ble_eq_true rfl, Nat.le_of_ble_eq_true rfl⟩, (hts (.instanceMethod yX0_at) (List.mem_of_getElem? (i := 2) (by decide +kernel))), (hts (.selects RX0 yX0_at yX0_at) (List.mem_of_getElem? (i := 3) (by decide +kernel)))⟩ ⟨q_blR, va_recv hKc hPc (ci := 0) (q0 := 0) rfl rfl, fun U hU hW => ⟨rfl, by rw [hU]; exact hPc, va_K.moved hW.alike hKc⟩⟩ rfl rfl hl.1 rfl (lv_room (Nat.le_of_ble_eq_true rfl)) dX1_chain_5 ⟨Nat.le_of_ble_eq_true rfl, Nat.le_of_ble_eq_true rfl⟩) ?_
  exact W.lret (v := qAt gk nk p0) hx hb hr (fun t ht hW => ⟨qAt gk nk p0, rfl, rfl, ht⟩) (fun q h => by cases h) dX1_chain_8

set_option maxHeartbeats 4000000 in
set_option maxRecDepth 100000 in
theorem c_Hall_find (l : Launch) (dC : Nat → ClassId) (dI : Nat → Nat → Nat) (x0 a1 b1 a2 b2 a3 b3 nh nr nk : Nat) (cA : ClassId) (fh gh fr gr fk gk : Nat → Int32) (fi me : Int32) (p0 p1 : Int32) (hn : nh + nr + nk < 2000) (ha1 : qAg nh fh gh) (ha2 : qAg nr fr gr) (ha3 : qAg nk fk gk) (hF : qFok fi me nk) : Met l yX1_find wsX1_find ({ frames := 2, cells := 0, slots := 0, locals := 58 }) (va_Pc [.ref x0, .int p0, .int p1] (fun U => va_P (dC, dI) vwCl [(x0, .inr (1, [.ref a1, .ref a2, .ref a3, .int fi, .int me])), (a1, .inr (0, [.ref b1, .int (nI nh)])), (b1, .inl (cA, 2100, .inl fh)), (a2, .inr (0, [.ref b2, .int (nI nr)])), (b2, .inl (cA, 2100, .inl fr)), (a3, .inr (0, [.ref b3, .int (nI nk)])), (b3, .inl (cA, 2100, .inl fk))] U.heap ∧ va_K (dC, dI) vwCl [(cA, .int)] U ∧ qNest U)) (vp_Si (fun r => r = (qFind p0 p1 ((gh, nh), (gr, nr), (gk, nk), fi, me)).1)) 0 0 (fun _ => False) := by
  refine Met.ofW (cc := cX1_find) (maxL := 3) (ret := (some .int)) (by decide +kernel) rfl ?_
  intro p e s m args below meth c s₁ B hml hv
  obtain ⟨rfl, hP, hK, hN⟩ := hv
  have hx := B.exec
  have hb := B.bytes
  have hr := B.returns
  have hts := atoms_spec (ws := wsX1_find) B.pre
  have hown : s.vm.findClass RX1 = some m.cls := findClass_of_methodNamed B.named
  have hlocks := B.notSynchronized
  have hl := lv_entry ([.ref x0, .int p0, .int p1]) (n := 3) (Nat.le_of_ble_eq_true rfl)
  rw [lg_entry_eq]
  generalize (lg_sl ([.ref x0, .int p0, .int p1]) ++ List.replicate (3 - (lg_sl ([.ref x0, .int p0, .int p1])).length) Slot.unset).toArray = ls at hl ⊢
  have hl : lv_has ls 3 [(0, .ref x0), (1, .int p0), (2, .int p1)] := hl
  by_cases hz : p1 = 0
  · refine lv_iload_n hx hb dX1_find_0 rfl (lv_at hl 2 rfl) ?_
    refine lv_if_eq (tgt := 15) hx hb dX1_find_1 (by decide) (fun c_1 => ?_) (fun c_0 => absurd (show p1 = (0 : Int32) from hz) c_0)
    refine lv_aload_n hx hb dX1_find_15 rfl (lv_at hl 0 rfl) ?_
    refine va_get (D := (dC, dI)) (ci := 1) (v := .ref a3) (C := RX1) (T := TX1) (N := 5) hx hb hts inX1_find_X1 hown hK hP 0 rfl rfl 2 (by decide) (hts (.fieldLink RX1 19 "QueueHall" "chainRow" "LQueueHall$Row;") (List.mem_of_getElem? (i := 1) (by decide +kernel))) (fun _ h9 => h9) rfl dX1_find_16 ?_
    refine lv_iload_n hx hb dX1_find_19 rfl (lv_at hl 1 rfl) ?_
    have hPc := hP.sub (ws' := [(a3, .inr (0, [.ref b3, .int (nI nk)])), (b3, .inl (cA, 2100, .inl fk))]) [5, 6] rfl
    have hKc := hK.sub (tys' := [(cA, .int)]) [0] rfl
    refine q_csiE (va_runVN (As := [.int p0]) (rest := []) ⟨hx, hb, hml, hown, hts⟩ (c_Row_firstPlace l dC dI a3 b3 nk cA fk gk p0 (by omega) ha3) ⟨va_cnB 1 hts gX1_find_X0_firstPlace rfl rfl rfl (qN_firstPlace hN) (hts (.initialized RX0) (List.mem_of_getElem? (i := 4) (by decide +kernel))) (by decide +kernel) ⟨Nat.le_of_ble_eq_true rfl, Nat.le_of_ble_eq_true rfl⟩, (hts (.instanceMethod yX0_firstPlace) (List.mem_of_getElem? (i := 8) (by decide +kernel))), (hts (.selects RX0 yX0_firstPlace yX0_firstPlace) (List.mem_of_getElem? (i := 9) (by decide +kernel)))⟩ ⟨q_blR, va_recv hKc hPc (ci := 0) (q0 := 0) rfl rfl, fun U hU hW => ⟨rfl, by rw [hU]; exact hPc, va_K.moved hW.alike hKc⟩⟩ rfl rfl hl.1 rfl (lv_room (Nat.le_of_ble_eq_true rfl)) dX1_find_20 ⟨Nat.le_of_ble_eq_true rfl, Nat.le_of_ble_eq_true rfl⟩) ?_
    exact W.iret (v := qPl gk p0 0 nk) hx hb hr (fun t ht hW => ⟨qPl gk p0 0 nk, rfl, (by rw [hz]; rfl), ht⟩) (fun q h => by cases h) dX1_find_23
  · refine lv_iload_n hx hb dX1_find_0 rfl (lv_at hl 2 rfl) ?_
    refine lv_if_eq (tgt := 15) hx hb dX1_find_1 (by decide) (fun c_0 => absurd c_0 (show ¬ p1 = (0 : Int32) from hz)) (fun c_2 => ?_)
    refine lv_aload_n hx hb dX1_find_4 rfl (lv_at hl 0 rfl) ?_
    refine va_get (D := (dC, dI)) (ci := 1) (v := .ref a3) (C := RX1) (T := TX1) (N := 5) hx hb hts inX1_find_X1 hown hK hP 0 rfl rfl 2 (by decide) (hts (.fieldLink RX1 19 "QueueHall" "chainRow" "LQueueHall$Row;") (List.mem_of_getElem? (i := 1) (by decide +kernel))) (fun _ h9 => h9) rfl dX1_find_5 ?_
    refine lv_iload_n hx hb dX1_find_8 rfl (lv_at hl 1 rfl) ?_
    have hPc := hP.sub (ws' := [(a3, .inr (0, [.ref b3, .int (nI nk)])), (b3, .inl (cA, 2100, .inl fk))]) [5, 6] rfl
    have hKc := hK.sub (tys' := [(cA, .int)]) [0] rfl
    refine q_csiE (va_runVN (As := [.int p0]) (rest := []) ⟨hx, hb, hml, hown, hts⟩ (c_Row_lastPlace l dC dI a3 b3 nk cA fk gk p0 (by omega) ha3) ⟨va_cnB 1 hts gX1_find_X0_lastPlace rfl rfl rfl (qN_lastPlace hN) (hts (.initialized RX0) (List.mem_of_getElem? (i := 4) (by decide +kernel))) (by decide +kernel) ⟨Nat.le_of_ble_eq_true rfl, Nat.le_of_ble_eq_true rfl⟩, (hts (.instanceMethod yX0_lastPlace) (List.mem_of_getElem? (i := 2) (by decide +kernel))), (hts (.selects RX0 yX0_lastPlace yX0_lastPlace) (List.mem_of_getElem? (i := 3) (by decide +kernel)))⟩ ⟨q_blR, va_recv hKc hPc (ci := 0) (q0 := 0) rfl rfl, fun U hU hW => ⟨rfl, by rw [hU]; exact hPc, va_K.moved hW.alike hKc⟩⟩ rfl rfl hl.1 rfl (lv_room (Nat.le_of_ble_eq_true rfl)) dX1_find_9 ⟨Nat.le_of_ble_eq_true rfl, Nat.le_of_ble_eq_true rfl⟩) ?_
    refine lv_goto (tgt := 23) hx hb dX1_find_12 (by decide) ?_
    exact W.iret (v := qPl gk p0 1 nk) hx hb hr (fun t ht hW => ⟨qPl gk p0 1 nk, rfl, (qPl_z hz nk).symm, ht⟩) (fun q h => by cases h) dX1_find_23

set_option maxHeartbeats 4000000 in
set_option maxRecDepth 100000 in
theorem c_Hall_finger (l : Launch) (dC : Nat → ClassId) (dI : Nat → Nat → Nat) (x0 a1 b1 a2 b2 a3 b3 nh nr nk : Nat) (cA : ClassId) (fh gh fr gr fk gk : Nat → Int32) (fi me : Int32) (hn : nh + nr + nk < 2000) (ha1 : qAg nh fh gh) (ha2 : qAg nr fr gr) (ha3 : qAg nk fk gk) (hF : qFok fi me nk) : Met l yX1_finger wsX1_finger ({ frames := 2, cells := 0, slots := 0, locals := 58 }) (va_Pc [.ref x0] (fun U => va_P (dC, dI) vwCl [(x0, .inr (1, [.ref a1, .ref a2, .ref a3, .int fi, .int me])), (a1, .inr (0, [.ref b1, .int (nI nh)])), (b1, .inl (cA, 2100, .inl fh)), (a2, .inr (0, [.ref b2, .int (nI nr)])), (b2, .inl (cA, 2100, .inl fr)), (a3, .inr (0, [.ref b3, .int (nI nk)])), (b3, .inl (cA, 2100, .inl fk))] U.heap ∧ va_K (dC, dI) vwCl [(cA, .int)] U)) (vp_Si (fun r => r = (qFinger ((gh, nh), (gr, nr), (gk, nk), fi, me)).1)) 0 0 (fun _ => False) := by
  refine Met.ofW (cc := cX1_finger) (maxL := 1) (ret := (some .int)) (by decide +kernel) rfl ?_
  intro p e s m args below meth c s₁ B hml hv
  obtain ⟨rfl, hP, hK⟩ := hv
  have hx := B.exec
  have hb := B.bytes
  have hr := B.returns
  have hts := atoms_spec (ws := wsX1_finger) B.pre
  have hown : s.vm.findClass RX1 = some m.cls := findClass_of_methodNamed B.named
  have hlocks := B.notSynchronized
  have hl := lv_entry ([.ref x0]) (n := 1) (Nat.le_of_ble_eq_true rfl)
  rw [lg_entry_eq]
  generalize (lg_sl ([.ref x0]) ++ List.replicate (1 - (lg_sl ([.ref x0])).length) Slot.unset).toArray = ls at hl ⊢
  have hl : lv_has ls 1 [(0, .ref x0)] := hl
  refine lv_aload_n hx hb dX1_finger_0 rfl (lv_at hl 0 rfl) ?_
  refine va_get (D := (dC, dI)) (ci := 1) (v := .int fi) (C := RX1) (T := TX1) (N := 5) hx hb hts inX1_finger_X1 hown hK hP 0 rfl rfl 3 (by decide) (hts (.fieldLink RX1 22 "QueueHall" "fingerPlace" "I") (List.mem_of_getElem? (i := 1) (by decide +kernel))) (fun _ h9 => h9) rfl dX1_finger_1 ?_
  exact W.iret (v := fi) hx hb hr (fun t ht hW => ⟨fi, rfl, rfl, ht⟩) (fun q h => by cases h) dX1_finger_4

set_option maxHeartbeats 4000000 in
set_option maxRecDepth 100000 in
theorem c_Hall_pass (l : Launch) (dC : Nat → ClassId) (dI : Nat → Nat → Nat) (sz : Nat) (x0 a1 b1 a2 b2 a3 b3 nh nr nk : Nat) (cA : ClassId) (fh gh fr gr fk gk : Nat → Int32) (fi me : Int32) (p0 : Int32) (hn : nh + nr + nk < 2000) (ha1 : qAg nh fh gh) (ha2 : qAg nr fr gr) (ha3 : qAg nk fk gk) (hF : qFok fi me nk) : Met l yX1_pass wsX1_pass ({ frames := 2, cells := 0, slots := 0, locals := 58 }) (va_Pc [.ref x0, .int p0] (fun U => U.heap.size = sz ∧ va_P (dC, dI) vwCl [(x0, .inr (1, [.ref a1, .ref a2, .ref a3, .int fi, .int me])), (a1, .inr (0, [.ref b1, .int (nI nh)])), (b1, .inl (cA, 2100, .inl fh)), (a2, .inr (0, [.ref b2, .int (nI nr)])), (b2, .inl (cA, 2100, .inl fr)), (a3, .inr (0, [.ref b3, .int (nI nk)])), (b3, .inl (cA, 2100, .inl fk))] U.heap ∧ va_K (dC, dI) vwCl [(cA, .int)] U ∧ va_D (fun _ => True) [(x0, .inr (1, [.ref a1, .ref a2, .ref a3, .int fi, .int me])), (a1, .inr (0, [.ref b1, .int (nI nh)])), (b1, .inl (cA, 2100, .inl fh)), (a2, .inr (0, [.ref b2, .int (nI nr)])), (b2, .inl (cA, 2100, .inl fr)), (a3, .inr (0, [.ref b3, .int (nI nk)])), (b3, .inl (cA, 2100, .inl fk))] ∧ qNest U)) (va_Ql (fun (r : Int64) (u : qS) => (r, u) = qPass p0 ((gh, nh), (gr, nr), (gk, nk), fi, me)) (at_H dC dI (va_A [(x0, .inr (1, [.ref a1, .ref a2, .ref a3, .int fi, .int me])), (a1, .inr (0, [.ref b1, .int (nI nh)])), (b1, .inl (cA, 2100, .inl fh)), (a2, .inr (0, [.ref b2, .int (nI nr)])), (b2, .inl (cA, 2100, .inl fr)), (a3, .inr (0, [.ref b3, .int (nI nk)])), (b3, .inl (cA, 2100, .inl fk))] sz) x0 a1 b1 a2 b2 a3 b3 cA) (va_A [(x0, .inr (1, [.ref a1, .ref a2, .ref a3, .int fi, .int me])), (a1, .inr (0, [.ref b1, .int (nI nh)])), (b1, .inl (cA, 2100, .inl fh)), (a2, .inr (0, [.ref b2, .int (nI nr)])), (b2, .inl (cA, 2100, .inl fr)), (a3, .inr (0, [.ref b3, .int (nI nk)])), (b3, .inl (cA, 2100, .inl fk))] sz)) 0 0 (va_A [(x0, .inr (1, [.ref a1, .ref a2, .ref a3, .int fi, .int me])), (a1, .inr (0, [.ref b1, .int (nI nh)])), (b1, .inl (cA, 2100, .inl fh)), (a2, .inr (0, [.ref b2, .int (nI nr)])), (b2, .inl (cA, 2100, .inl fr)), (a3, .inr (0, [.ref b3, .int (nI nk)])), (b3, .inl (cA, 2100, .inl fk))] sz) := by
  refine Met.ofW (cc := cX1_pass) (maxL := 3) (ret := (some .long)) (by decide +kernel) rfl ?_
  intro p e s m args below meth c s₁ B hml hv
  obtain ⟨rfl, hsz, hP, hK, hD0, hN⟩ := hv
  have hx := B.exec
  have hb := B.bytes
  have hr := B.returns
  have hts := atoms_spec (ws := wsX1_pass) B.pre
  have hown : s.vm.findClass RX1 = some m.cls := findClass_of_methodNamed B.named
  have hlocks := B.notSynchronized
  subst hsz
  have hD := hD0.self (sz := s.heap.size)
  generalize hAe : va_A [(x0, .inr (1, [.ref a1, .ref a2, .ref a3, .int fi, .int me])), (a1, .inr (0, [.ref b1, .int (nI nh)])), (b1, .inl (cA, 2100, .inl fh)), (a2, .inr (0, [.ref b2, .int (nI nr)])), (b2, .inl (cA, 2100, .inl fr)), (a3, .inr (0, [.ref b3, .int (nI nk)])), (b3, .inl (cA, 2100, .inl fk))] s.heap.size = A at hD ⊢
  have hA : ∀ q : Nat, s.heap.size ≤ q → A q := fun q h => by rw [← hAe]; exact Or.inr h
  have hS : va_S A s.heap s.heap [] := va_S.rf
  have hl := lv_entry ([.ref x0, .int p0]) (n := 3) (Nat.le_of_ble_eq_true rfl)
  rw [lg_entry_eq]
  generalize (lg_sl ([.ref x0, .int p0]) ++ List.replicate (3 - (lg_sl ([.ref x0, .int p0])).length) Slot.unset).toArray = ls at hl ⊢
  have hl : lv_has ls 3 [(0, .ref x0), (1, .int p0)] := hl
  rcases q_pass hF p0 with rfl | ⟨hz, rfl⟩ | ⟨hz, a, ha, rfl⟩ | ⟨hz, rfl⟩ | ⟨hz, a, ha, rfl⟩
  · refine lv_aload_n hx hb dX1_pass_0 rfl (lv_at hl 0 rfl) ?_
    refine va_get (D := (dC, dI)) (ci := 1) (v := .int (-1)) (C := RX1) (T := TX1) (N := 5) hx hb hts inX1_pass_X1 hown hK hP 0 rfl rfl 3 (by decide) (hts (.fieldLink RX1 22 "QueueHall" "fingerPlace" "I") (List.mem_of_getElem? (i := 1) (by decide +kernel))) (fun _ h9 => h9) rfl dX1_pass_1 ?_
    refine lv_iconst (v := -1) hx hb dX1_pass_4 (by decide) ?_
    refine lv_icmp_ne (tgt := 12) hx hb dX1_pass_5 (by decide) (fun c_0 => absurd (show (-1 : Int32) = (-1 : Int32) from (by decide)) c_0) (fun c_1 => ?_)
    refine lv_ldc2 (v := qNo) hx hb hown (hts (.constantLong RX1 50 (1099511627776)) (List.mem_of_getElem? (i := 2) (by decide +kernel))) dX1_pass_8 ?_
    exact W.lret (v := qNo) hx hb hr (fun t ht hW => ⟨⟨qNo, ((gh, nh), (gr, nr), (gk, nk), -1, me), rfl, (by simp only [qPass, if_pos (show (-1 : Int32) < 0 by decide)]), fh, fr, fk, ha1, ha2, ha3, by rw [ht]; exact hP, va_K.moved hW.alike hK, hD⟩, hS.F ht⟩) hS.2.2 dX1_pass_11
  · refine lv_aload_n hx hb dX1_pass_0 rfl (lv_at hl 0 rfl) ?_
    refine va_get (D := (dC, dI)) (ci := 1) (v := .int (nI nk)) (C := RX1) (T := TX1) (N := 5) hx hb hts inX1_pass_X1 hown hK hP 0 rfl rfl 3 (by decide) (hts (.fieldLink RX1 22 "QueueHall" "fingerPlace" "I") (List.mem_of_getElem? (i := 1) (by decide +kernel))) (fun _ h9 => h9) rfl dX1_pass_1 ?_
    refine lv_iconst (v := -1) hx hb dX1_pass_4 (by decide) ?_
    refine lv_icmp_ne (tgt := 12) hx hb dX1_pass_5 (by decide) (fun c_2 => ?_) (fun c_0 => absurd c_0 (show ¬ (nI nk) = (-1 : Int32) from (by simp (disch := omega) only [ti_lt, ti_le, ti_eq, ti_0, ti_1, ti_2, ti_m1, ti_100, ti_2000, nI_toInt] <;> omega)))
    refine lv_iload_n hx hb dX1_pass_12 rfl (lv_at hl 1 rfl) ?_
    refine lv_if_eq (tgt := 25) hx hb dX1_pass_13 (by decide) (fun c_3 => ?_) (fun c_0 => absurd (show p0 = (0 : Int32) from hz) c_0)
    refine lv_aload_n hx hb dX1_pass_25 rfl (lv_at hl 0 rfl) ?_
    refine va_get (D := (dC, dI)) (ci := 1) (v := .int (nI nk)) (C := RX1) (T := TX1) (N := 5) hx hb hts inX1_pass_X1 hown hK hP 0 rfl rfl 3 (by decide) (hts (.fieldLink RX1 22 "QueueHall" "fingerPlace" "I") (List.mem_of_getElem? (i := 1) (by decide +kernel))) (fun _ h9 => h9) rfl dX1_pass_26 ?_
    refine lv_istore_n (lv' := [(2, .int (nI nk)), (0, .ref x0), (1, .int p0)]) hx hb dX1_pass_29 rfl hl (by decide) rfl (fun ls hl => ?_)
    refine lv_aload_n hx hb dX1_pass_30 rfl (lv_at hl 1 rfl) ?_
    refine va_get (D := (dC, dI)) (ci := 1) (v := .ref a3) (C := RX1) (T := TX1) (N := 5) hx hb hts inX1_pass_X1 hown hK hP 0 rfl rfl 2 (by decide) (hts (.fieldLink RX1 19 "QueueHall" "chainRow" "LQueueHall$Row;") (List.mem_of_getElem? (i := 3) (by decide +kernel))) (fun _ h9 => h9) rfl dX1_pass_31 ?_
    refine lv_iload_n hx hb dX1_pass_34 rfl (lv_at hl 0 rfl) ?_
    have hPc := hP.sub (ws' := [(a3, .inr (0, [.ref b3, .int (nI nk)]))]) [5] rfl
    have hKc := hK.sub (tys' := []) [] rfl
    refine q_csiE (va_runVN (As := [.int (nI nk)]) (rest := []) ⟨hx, hb, hml, hown, hts⟩ (c_Row_hasPlace l dC dI a3 b3 nk (nI nk)) ⟨va_cnB 1 hts gX1_pass_X0_hasPlace rfl rfl rfl (qN_hasPlace hN) (hts (.initialized RX0) (List.mem_of_getElem? (i := 6) (by decide +kernel))) (by decide +kernel) ⟨Nat.le_of_ble_eq_true rfl, Nat.le_of_ble_eq_true rfl⟩, (hts (.instanceMethod yX0_hasPlace) (List.mem_of_getElem? (i := 4) (by decide +kernel))), (hts (.selects RX0 yX0_hasPlace yX0_hasPlace) (List.mem_of_getElem? (i := 5) (by decide +kernel)))⟩ ⟨q_blR, va_recv hKc hPc (ci := 0) (q0 := 0) rfl rfl, fun U hU hW => ⟨rfl, by rw [hU]; exact hPc, va_K.moved hW.alike hKc⟩⟩ rfl rfl hl.1 rfl (lv_room (Nat.le_of_ble_eq_true rfl)) dX1_pass_35 ⟨Nat.le_of_ble_eq_true rfl, Nat.le_of_ble_eq_true rfl⟩) ?_
    refine q_top (y := 0) (qHp_e (by omega)) ?_
    refine lv_if_ne (tgt := 45) hx hb dX1_pass_38 (by decide) (fun c_0 => absurd (show (0 : Int32) = (0 : Int32) from (by decide)) c_0) (fun c_4 => ?_)
    refine lv_ldc2 (v := qNo) hx hb hown (hts (.constantLong RX1 50 (1099511627776)) (List.mem_of_getElem? (i := 2) (by decide +kernel))) dX1_pass_41 ?_
    exact W.lret (v := qNo) hx hb hr (fun t ht hW => ⟨⟨qNo, ((gh, nh), (gr, nr), (gk, nk), nI nk, me), rfl, (by simp only [qPass, if_neg (nI_pos (show nk < 2 ^ 31 by omega)), if_pos hz, if_pos True.intro]), fh, fr, fk, ha1, ha2, ha3, by rw [ht]; exact hP, va_K.moved hW.alike hK, hD⟩, hS.F ht⟩) hS.2.2 dX1_pass_44
  · refine lv_aload_n hx hb dX1_pass_0 rfl (lv_at hl 0 rfl) ?_
    refine va_get (D := (dC, dI)) (ci := 1) (v := .int (nI a)) (C := RX1) (T := TX1) (N := 5) hx hb hts inX1_pass_X1 hown hK hP 0 rfl rfl 3 (by decide) (hts (.fieldLink RX1 22 "QueueHall" "fingerPlace" "I") (List.mem_of_getElem? (i := 1) (by decide +kernel))) (fun _ h9 => h9) rfl dX1_pass_1 ?_
    refine lv_iconst (v := -1) hx hb dX1_pass_4 (by decide) ?_
    refine lv_icmp_ne (tgt := 12) hx hb dX1_pass_5 (by decide) (fun c_5 => ?_) (fun c_0 => absurd c_0 (show ¬ (nI a) = (-1 : Int32) from (by simp (disch := omega) only [ti_lt, ti_le, ti_eq, ti_0, ti_1, ti_2, ti_m1, ti_100, ti_2000, nI_toInt] <;> omega)))
    refine lv_iload_n hx hb dX1_pass_12 rfl (lv_at hl 1 rfl) ?_
    refine lv_if_eq (tgt := 25) hx hb dX1_pass_13 (by decide) (fun c_6 => ?_) (fun c_0 => absurd (show p0 = (0 : Int32) from hz) c_0)
    refine lv_aload_n hx hb dX1_pass_25 rfl (lv_at hl 0 rfl) ?_
    refine va_get (D := (dC, dI)) (ci := 1) (v := .int (nI a)) (C := RX1) (T := TX1) (N := 5) hx hb hts inX1_pass_X1 hown hK hP 0 rfl rfl 3 (by decide) (hts (.fieldLink RX1 22 "QueueHall" "fingerPlace" "I") (List.mem_of_getElem? (i := 1) (by decide +kernel))) (fun _ h9 => h9) rfl dX1_pass_26 ?_
    refine lv_istore_n (lv' := [(2, .int (nI a)), (0, .ref x0), (1, .int p0)]) hx hb dX1_pass_29 rfl hl (by decide) rfl (fun ls hl => ?_)
    refine lv_aload_n hx hb dX1_pass_30 rfl (lv_at hl 1 rfl) ?_
    refine va_get (D := (dC, dI)) (ci := 1) (v := .ref a3) (C := RX1) (T := TX1) (N := 5) hx hb hts inX1_pass_X1 hown hK hP 0 rfl rfl 2 (by decide) (hts (.fieldLink RX1 19 "QueueHall" "chainRow" "LQueueHall$Row;") (List.mem_of_getElem? (i := 3) (by decide +kernel))) (fun _ h9 => h9) rfl dX1_pass_31 ?_
    refine lv_iload_n hx hb dX1_pass_34 rfl (lv_at hl 0 rfl) ?_
    have hPc := hP.sub (ws' := [(a3, .inr (0, [.ref b3, .int (nI nk)]))]) [5] rfl
    have hKc := hK.sub (tys' := []) [] rfl
    refine q_csiE (va_runVN (As := [.int (nI a)]) (rest := []) ⟨hx, hb, hml, hown, hts⟩ (c_Row_hasPlace l dC dI a3 b3 nk (nI a)) ⟨va_cnB 1 hts gX1_pass_X0_hasPlace rfl rfl rfl (qN_hasPlace hN) (hts (.initialized RX0) (List.mem_of_getElem? (i := 6) (by decide +kernel))) (by decide +kernel) ⟨Nat.le_of_ble_eq_true rfl, Nat.le_of_ble_eq_true rfl⟩, (hts (.instanceMethod yX0_hasPlace) (List.mem_of_getElem? (i := 4) (by decide +kernel))), (hts (.selects RX0 yX0_hasPlace yX0_hasPlace) (List.mem_of_getElem? (i := 5) (by decide +kernel)))⟩ ⟨q_blR, va_recv hKc hPc (ci := 0) (q0 := 0) rfl rfl, fun U hU hW => ⟨rfl, by rw [hU]; exact hPc, va_K.moved hW.alike hKc⟩⟩ rfl rfl hl.1 rfl (lv_room (Nat.le_of_ble_eq_true rfl)) dX1_pass_35 ⟨Nat.le_of_ble_eq_true rfl, Nat.le_of_ble_eq_true rfl⟩) ?_
    refine q_top (y := 1) (qHp_in (by omega) (by omega)) ?_
    refine lv_if_ne (tgt := 45) hx hb dX1_pass_38 (by decide) (fun c_7 => ?_) (fun c_0 => absurd c_0 (show ¬ (1 : Int32) = (0 : Int32) from (by decide)))
    refine lv_aload_n hx hb dX1_pass_45 rfl (lv_at hl 1 rfl) ?_
    refine lv_iload_n hx hb dX1_pass_46 rfl (lv_at hl 2 rfl) ?_
    refine lv_if_eq (tgt := 54) hx hb dX1_pass_47 (by decide) (fun c_8 => ?_) (fun c_0 => absurd (show p0 = (0 : Int32) from hz) c_0)
    refine lv_iload_n hx hb dX1_pass_54 rfl (lv_at hl 0 rfl) ?_
    refine lv_iconst (v := 1) hx hb dX1_pass_55 (by decide) ?_
    refine lv_iadd hx hb dX1_pass_56 ?_
    refine q_top (y := nI (a + 1)) (nI_1 a) ?_
    refine va_put (D := (dC, dI)) (ci := 1) (v := .int (nI (a + 1))) (ty := .int) (C := RX1) (T := TX1) (N := 5) hx hb hts inX1_pass_X1 tyX1 tyX1_ok nmX1 hown hK hP hD hS 0 rfl rfl 3 (by decide) (hts (.fieldLink RX1 22 "QueueHall" "fingerPlace" "I") (List.mem_of_getElem? (i := 1) (by decide +kernel))) (fun _ h9 => h9) rfl (by decide +kernel) rfl rfl (Nat.le_of_ble_eq_true rfl) dX1_pass_57 (fun H locs hP hD hS => ?_)
    have hP : va_P (dC, dI) vwCl [(x0, .inr (1, [.ref a1, .ref a2, .ref a3, .int (nI (a + 1)), .int me])), (a1, .inr (0, [.ref b1, .int (nI nh)])), (b1, .inl (cA, 2100, .inl fh)), (a2, .inr (0, [.ref b2, .int (nI nr)])), (b2, .inl (cA, 2100, .inl fr)), (a3, .inr (0, [.ref b3, .int (nI nk)])), (b3, .inl (cA, 2100, .inl fk))] H := hP
    have hD : va_D A [(x0, .inr (1, [.ref a1, .ref a2, .ref a3, .int (nI (a + 1)), .int me])), (a1, .inr (0, [.ref b1, .int (nI nh)])), (b1, .inl (cA, 2100, .inl fh)), (a2, .inr (0, [.ref b2, .int (nI nr)])), (b2, .inl (cA, 2100, .inl fr)), (a3, .inr (0, [.ref b3, .int (nI nk)])), (b3, .inl (cA, 2100, .inl fk))] := hD
    refine lv_aload_n hx hb dX1_pass_60 rfl (lv_at hl 1 rfl) ?_
    refine lv_iload_n hx hb dX1_pass_61 rfl (lv_at hl 0 rfl) ?_
    refine va_put (D := (dC, dI)) (ci := 1) (v := .int (nI a)) (ty := .int) (C := RX1) (T := TX1) (N := 5) hx hb hts inX1_pass_X1 tyX1 tyX1_ok nmX1 hown hK hP hD hS 0 rfl rfl 4 (by decide) (hts (.fieldLink RX1 26 "QueueHall" "metPlace" "I") (List.mem_of_getElem? (i := 9) (by decide +kernel))) (fun _ h9 => h9) rfl (by decide +kernel) rfl rfl (Nat.le_of_ble_eq_true rfl) dX1_pass_62 (fun H locs hP hD hS => ?_)
    have hP : va_P (dC, dI) vwCl [(x0, .inr (1, [.ref a1, .ref a2, .ref a3, .int (nI (a + 1)), .int (nI a)])), (a1, .inr (0, [.ref b1, .int (nI nh)])), (b1, .inl (cA, 2100, .inl fh)), (a2, .inr (0, [.ref b2, .int (nI nr)])), (b2, .inl (cA, 2100, .inl fr)), (a3, .inr (0, [.ref b3, .int (nI nk)])), (b3, .inl (cA, 2100, .inl fk))] H := hP
    have hD : va_D A [(x0, .inr (1, [.ref a1, .ref a2, .ref a3, .int (nI (a + 1)), .int (nI a)])), (a1, .inr (0, [.ref b1, .int (nI nh)])), (b1, .inl (cA, 2100, .inl fh)), (a2, .inr (0, [.ref b2, .int (nI nr)])), (b2, .inl (cA, 2100, .inl fr)), (a3, .inr (0, [.ref b3, .int (nI nk)])), (b3, .inl (cA, 2100, .inl fk))] := hD
    refine lv_aload_n hx hb dX1_pass_65 rfl (lv_at hl 1 rfl) ?_
    refine va_get (D := (dC, dI)) (ci := 1) (v := .ref a3) (C := RX1) (T := TX1) (N := 5) hx hb hts inX1_pass_X1 hown hK hP 0 rfl rfl 2 (by decide) (hts (.fieldLink RX1 19 "QueueHall" "chainRow" "LQueueHall$Row;") (List.mem_of_getElem? (i := 3) (by decide +kernel))) (fun _ h9 => h9) rfl dX1_pass_66 ?_
    refine lv_iload_n hx hb dX1_pass_69 rfl (lv_at hl 0 rfl) ?_
    have hPc := hP.sub (ws' := [(a3, .inr (0, [.ref b3, .int (nI nk)])), (b3, .inl (cA, 2100, .inl fk))]) [5, 6] rfl
    have hKc := hK.sub (tys' := [(cA, .int)]) [0] rfl
    refine q_cslE (va_runVN (As := [.int (nI a)]) (rest := []) ⟨hx, hb, hml, hown, hts⟩ (c_Row_at l dC dI a3 b3 nk cA fk gk (nI a) (by omega) ha3) ⟨va_cnB 1 hts gX1_pass_X0_at rfl rfl rfl (qN_at hN) (hts (.initialized RX0) (List.mem_of_getElem? (i := 6) (by decide +kernel))) (by decide +kernel) ⟨Nat.le_of_ble_eq_true rfl, Nat.le_of_ble_eq_true rfl⟩, (hts (.instanceMethod yX0_at) (List.mem_of_getElem? (i := 10) (by decide +kernel))), (hts (.selects RX0 yX0_at yX0_at) (List.mem_of_getElem? (i := 11) (by decide +kernel)))⟩ ⟨q_blR, va_recv hKc hPc (ci := 0) (q0 := 0) rfl rfl, fun U hU hW => ⟨rfl, by rw [hU]; exact hPc, va_K.moved hW.alike hKc⟩⟩ rfl rfl hl.1 rfl (lv_room (Nat.le_of_ble_eq_true rfl)) dX1_pass_70 ⟨Nat.le_of_ble_eq_true rfl, Nat.le_of_ble_eq_true rfl⟩) ?_
    refine q_topl (y := (gk a).toInt64) (qAt_i (by omega) (by omega)) ?_
    exact W.lret (v := (gk a).toInt64) hx hb hr (fun t ht hW => ⟨⟨(gk a).toInt64, ((gh, nh), (gr, nr), (gk, nk), nI (a + 1), nI a), rfl, (by simp only [qPass, if_neg (nI_pos (show a < 2 ^ 31 by omega)), if_pos hz, if_neg (show ¬ nI a = nI nk from fun q => by rw [nI_eq (by omega) (by omega)] at q; omega), nI_clamp (show a < 2 ^ 31 by omega), nI_1]), fh, fr, fk, ha1, ha2, ha3, by rw [ht]; exact hP, va_K.moved hW.alike hK, hD⟩, hS.F ht⟩) hS.2.2 dX1_pass_73
  · refine lv_aload_n hx hb dX1_pass_0 rfl (lv_at hl 0 rfl) ?_
    refine va_get (D := (dC, dI)) (ci := 1) (v := .int (nI 0)) (C := RX1) (T := TX1) (N := 5) hx hb hts inX1_pass_X1 hown hK hP 0 rfl rfl 3 (by decide) (hts (.fieldLink RX1 22 "QueueHall" "fingerPlace" "I") (List.mem_of_getElem? (i := 1) (by decide +kernel))) (fun _ h9 => h9) rfl dX1_pass_1 ?_
    refine lv_iconst (v := -1) hx hb dX1_pass_4 (by decide) ?_
    refine lv_icmp_ne (tgt := 12) hx hb dX1_pass_5 (by decide) (fun c_9 => ?_) (fun c_0 => absurd c_0 (show ¬ (nI 0) = (-1 : Int32) from (by simp (disch := omega) only [ti_lt, ti_le, ti_eq, ti_0, ti_1, ti_2, ti_m1, ti_100, ti_2000, nI_toInt] <;> omega)))
    refine lv_iload_n hx hb dX1_pass_12 rfl (lv_at hl 1 rfl) ?_
    refine lv_if_eq (tgt := 25) hx hb dX1_pass_13 (by decide) (fun c_0 => absurd c_0 (show ¬ p0 = (0 : Int32) from hz)) (fun c_10 => ?_)
    refine lv_aload_n hx hb dX1_pass_16 rfl (lv_at hl 0 rfl) ?_
    refine va_get (D := (dC, dI)) (ci := 1) (v := .int (nI 0)) (C := RX1) (T := TX1) (N := 5) hx hb hts inX1_pass_X1 hown hK hP 0 rfl rfl 3 (by decide) (hts (.fieldLink RX1 22 "QueueHall" "fingerPlace" "I") (List.mem_of_getElem? (i := 1) (by decide +kernel))) (fun _ h9 => h9) rfl dX1_pass_17 ?_
    refine lv_iconst (v := 1) hx hb dX1_pass_20 (by decide) ?_
    refine lv_isub hx hb dX1_pass_21 ?_
    refine q_top (y := -1) q_0m1 ?_
    refine lv_goto (tgt := 29) hx hb dX1_pass_22 (by decide) ?_
    refine lv_istore_n (lv' := [(2, .int (-1)), (0, .ref x0), (1, .int p0)]) hx hb dX1_pass_29 rfl hl (by decide) rfl (fun ls hl => ?_)
    refine lv_aload_n hx hb dX1_pass_30 rfl (lv_at hl 1 rfl) ?_
    refine va_get (D := (dC, dI)) (ci := 1) (v := .ref a3) (C := RX1) (T := TX1) (N := 5) hx hb hts inX1_pass_X1 hown hK hP 0 rfl rfl 2 (by decide) (hts (.fieldLink RX1 19 "QueueHall" "chainRow" "LQueueHall$Row;") (List.mem_of_getElem? (i := 3) (by decide +kernel))) (fun _ h9 => h9) rfl dX1_pass_31 ?_
    refine lv_iload_n hx hb dX1_pass_34 rfl (lv_at hl 0 rfl) ?_
    have hPc := hP.sub (ws' := [(a3, .inr (0, [.ref b3, .int (nI nk)]))]) [5] rfl
    have hKc := hK.sub (tys' := []) [] rfl
    refine q_csiE (va_runVN (As := [.int (-1)]) (rest := []) ⟨hx, hb, hml, hown, hts⟩ (c_Row_hasPlace l dC dI a3 b3 nk (-1)) ⟨va_cnB 1 hts gX1_pass_X0_hasPlace rfl rfl rfl (qN_hasPlace hN) (hts (.initialized RX0) (List.mem_of_getElem? (i := 6) (by decide +kernel))) (by decide +kernel) ⟨Nat.le_of_ble_eq_true rfl, Nat.le_of_ble_eq_true rfl⟩, (hts (.instanceMethod yX0_hasPlace) (List.mem_of_getElem? (i := 4) (by decide +kernel))), (hts (.selects RX0 yX0_hasPlace yX0_hasPlace) (List.mem_of_getElem? (i := 5) (by decide +kernel)))⟩ ⟨q_blR, va_recv hKc hPc (ci := 0) (q0 := 0) rfl rfl, fun U hU hW => ⟨rfl, by rw [hU]; exact hPc, va_K.moved hW.alike hKc⟩⟩ rfl rfl hl.1 rfl (lv_room (Nat.le_of_ble_eq_true rfl)) dX1_pass_35 ⟨Nat.le_of_ble_eq_true rfl, Nat.le_of_ble_eq_true rfl⟩) ?_
    refine q_top (y := 0) (qHp_m1) ?_
    refine lv_if_ne (tgt := 45) hx hb dX1_pass_38 (by decide) (fun c_0 => absurd (show (0 : Int32) = (0 : Int32) from (by decide)) c_0) (fun c_11 => ?_)
    refine lv_ldc2 (v := qNo) hx hb hown (hts (.constantLong RX1 50 (1099511627776)) (List.mem_of_getElem? (i := 2) (by decide +kernel))) dX1_pass_41 ?_
    exact W.lret (v := qNo) hx hb hr (fun t ht hW => ⟨⟨qNo, ((gh, nh), (gr, nr), (gk, nk), nI 0, me), rfl, (by simp only [qPass, if_neg (nI_pos (show 0 < 2 ^ 31 by omega)), if_neg hz, if_pos (show nI 0 = 0 from rfl)]), fh, fr, fk, ha1, ha2, ha3, by rw [ht]; exact hP, va_K.moved hW.alike hK, hD⟩, hS.F ht⟩) hS.2.2 dX1_pass_44
  · refine lv_aload_n hx hb dX1_pass_0 rfl (lv_at hl 0 rfl) ?_
    refine va_get (D := (dC, dI)) (ci := 1) (v := .int (nI (a + 1))) (C := RX1) (T := TX1) (N := 5) hx hb hts inX1_pass_X1 hown hK hP 0 rfl rfl 3 (by decide) (hts (.fieldLink RX1 22 "QueueHall" "fingerPlace" "I") (List.mem_of_getElem? (i := 1) (by decide +kernel))) (fun _ h9 => h9) rfl dX1_pass_1 ?_
    refine lv_iconst (v := -1) hx hb dX1_pass_4 (by decide) ?_
    refine lv_icmp_ne (tgt := 12) hx hb dX1_pass_5 (by decide) (fun c_12 => ?_) (fun c_0 => absurd c_0 (show ¬ (nI (a + 1)) = (-1 : Int32) from (by simp (disch := omega) only [ti_lt, ti_le, ti_eq, ti_0, ti_1, ti_2, ti_m1, ti_100, ti_2000, nI_toInt] <;> omega)))
    refine lv_iload_n hx hb dX1_pass_12 rfl (lv_at hl 1 rfl) ?_
    refine lv_if_eq (tgt := 25) hx hb dX1_pass_13 (by decide) (fun c_0 => absurd c_0 (show ¬ p0 = (0 : Int32) from hz)) (fun c_13 => ?_)
    refine lv_aload_n hx hb dX1_pass_16 rfl (lv_at hl 0 rfl) ?_
    refine va_get (D := (dC, dI)) (ci := 1) (v := .int (nI (a + 1))) (C := RX1) (T := TX1) (N := 5) hx hb hts inX1_pass_X1 hown hK hP 0 rfl rfl 3 (by decide) (hts (.fieldLink RX1 22 "QueueHall" "fingerPlace" "I") (List.mem_of_getElem? (i := 1) (by decide +kernel))) (fun _ h9 => h9) rfl dX1_pass_17 ?_
    refine lv_iconst (v := 1) hx hb dX1_pass_20 (by decide) ?_
    refine lv_isub hx hb dX1_pass_21 ?_
    refine q_top (y := nI a) (nI_pred a) ?_
    refine lv_goto (tgt := 29) hx hb dX1_pass_22 (by decide) ?_
    refine lv_istore_n (lv' := [(2, .int (nI a)), (0, .ref x0), (1, .int p0)]) hx hb dX1_pass_29 rfl hl (by decide) rfl (fun ls hl => ?_)
    refine lv_aload_n hx hb dX1_pass_30 rfl (lv_at hl 1 rfl) ?_
    refine va_get (D := (dC, dI)) (ci := 1) (v := .ref a3) (C := RX1) (T := TX1) (N := 5) hx hb hts inX1_pass_X1 hown hK hP 0 rfl rfl 2 (by decide) (hts (.fieldLink RX1 19 "QueueHall" "chainRow" "LQueueHall$Row;") (List.mem_of_getElem? (i := 3) (by decide +kernel))) (fun _ h9 => h9) rfl dX1_pass_31 ?_
    refine lv_iload_n hx hb dX1_pass_34 rfl (lv_at hl 0 rfl) ?_
    have hPc := hP.sub (ws' := [(a3, .inr (0, [.ref b3, .int (nI nk)]))]) [5] rfl
    have hKc := hK.sub (tys' := []) [] rfl
    refine q_csiE (va_runVN (As := [.int (nI a)]) (rest := []) ⟨hx, hb, hml, hown, hts⟩ (c_Row_hasPlace l dC dI a3 b3 nk (nI a)) ⟨va_cnB 1 hts gX1_pass_X0_hasPlace rfl rfl rfl (qN_hasPlace hN) (hts (.initialized RX0) (List.mem_of_getElem? (i := 6) (by decide +kernel))) (by decide +kernel) ⟨Nat.le_of_ble_eq_true rfl, Nat.le_of_ble_eq_true rfl⟩, (hts (.instanceMethod yX0_hasPlace) (List.mem_of_getElem? (i := 4) (by decide +kernel))), (hts (.selects RX0 yX0_hasPlace yX0_hasPlace) (List.mem_of_getElem? (i := 5) (by decide +kernel)))⟩ ⟨q_blR, va_recv hKc hPc (ci := 0) (q0 := 0) rfl rfl, fun U hU hW => ⟨rfl, by rw [hU]; exact hPc, va_K.moved hW.alike hKc⟩⟩ rfl rfl hl.1 rfl (lv_room (Nat.le_of_ble_eq_true rfl)) dX1_pass_35 ⟨Nat.le_of_ble_eq_true rfl, Nat.le_of_ble_eq_true rfl⟩) ?_
    refine q_top (y := 1) (qHp_in (by omega) (by omega)) ?_
    refine lv_if_ne (tgt := 45) hx hb dX1_pass_38 (by decide) (fun c_14 => ?_) (fun c_0 => absurd c_0 (show ¬ (1 : Int32) = (0 : Int32) from (by decide)))
    refine lv_aload_n hx hb dX1_pass_45 rfl (lv_at hl 1 rfl) ?_
    refine lv_iload_n hx hb dX1_pass_46 rfl (lv_at hl 2 rfl) ?_
    refine lv_if_eq (tgt := 54) hx hb dX1_pass_47 (by decide) (fun c_0 => absurd c_0 (show ¬ p0 = (0 : Int32) from hz)) (fun c_15 => ?_)
    refine lv_iload_n hx hb dX1_pass_50 rfl (lv_at hl 0 rfl) ?_
    refine lv_goto (tgt := 57) hx hb dX1_pass_51 (by decide) ?_
    refine va_put (D := (dC, dI)) (ci := 1) (v := .int (nI a)) (ty := .int) (C := RX1) (T := TX1) (N := 5) hx hb hts inX1_pass_X1 tyX1 tyX1_ok nmX1 hown hK hP hD hS 0 rfl rfl 3 (by decide) (hts (.fieldLink RX1 22 "QueueHall" "fingerPlace" "I") (List.mem_of_getElem? (i := 1) (by decide +kernel))) (fun _ h9 => h9) rfl (by decide +kernel) rfl rfl (Nat.le_of_ble_eq_true rfl) dX1_pass_57 (fun H locs hP hD hS => ?_)
    have hP : va_P (dC, dI) vwCl [(x0, .inr (1, [.ref a1, .ref a2, .ref a3, .int (nI a), .int me])), (a1, .inr (0, [.ref b1, .int (nI nh)])), (b1, .inl (cA, 2100, .inl fh)), (a2, .inr (0, [.ref b2, .int (nI nr)])), (b2, .inl (cA, 2100, .inl fr)), (a3, .inr (0, [.ref b3, .int (nI nk)])), (b3, .inl (cA, 2100, .inl fk))] H := hP
    have hD : va_D A [(x0, .inr (1, [.ref a1, .ref a2, .ref a3, .int (nI a), .int me])), (a1, .inr (0, [.ref b1, .int (nI nh)])), (b1, .inl (cA, 2100, .inl fh)), (a2, .inr (0, [.ref b2, .int (nI nr)])), (b2, .inl (cA, 2100, .inl fr)), (a3, .inr (0, [.ref b3, .int (nI nk)])), (b3, .inl (cA, 2100, .inl fk))] := hD
    refine lv_aload_n hx hb dX1_pass_60 rfl (lv_at hl 1 rfl) ?_
    refine lv_iload_n hx hb dX1_pass_61 rfl (lv_at hl 0 rfl) ?_
    refine va_put (D := (dC, dI)) (ci := 1) (v := .int (nI a)) (ty := .int) (C := RX1) (T := TX1) (N := 5) hx hb hts inX1_pass_X1 tyX1 tyX1_ok nmX1 hown hK hP hD hS 0 rfl rfl 4 (by decide) (hts (.fieldLink RX1 26 "QueueHall" "metPlace" "I") (List.mem_of_getElem? (i := 9) (by decide +kernel))) (fun _ h9 => h9) rfl (by decide +kernel) rfl rfl (Nat.le_of_ble_eq_true rfl) dX1_pass_62 (fun H locs hP hD hS => ?_)
    have hP : va_P (dC, dI) vwCl [(x0, .inr (1, [.ref a1, .ref a2, .ref a3, .int (nI a), .int (nI a)])), (a1, .inr (0, [.ref b1, .int (nI nh)])), (b1, .inl (cA, 2100, .inl fh)), (a2, .inr (0, [.ref b2, .int (nI nr)])), (b2, .inl (cA, 2100, .inl fr)), (a3, .inr (0, [.ref b3, .int (nI nk)])), (b3, .inl (cA, 2100, .inl fk))] H := hP
    have hD : va_D A [(x0, .inr (1, [.ref a1, .ref a2, .ref a3, .int (nI a), .int (nI a)])), (a1, .inr (0, [.ref b1, .int (nI nh)])), (b1, .inl (cA, 2100, .inl fh)), (a2, .inr (0, [.ref b2, .int (nI nr)])), (b2, .inl (cA, 2100, .inl fr)), (a3, .inr (0, [.ref b3, .int (nI nk)])), (b3, .inl (cA, 2100, .inl fk))] := hD
    refine lv_aload_n hx hb dX1_pass_65 rfl (lv_at hl 1 rfl) ?_
    refine va_get (D := (dC, dI)) (ci := 1) (v := .ref a3) (C := RX1) (T := TX1) (N := 5) hx hb hts inX1_pass_X1 hown hK hP 0 rfl rfl 2 (by decide) (hts (.fieldLink RX1 19 "QueueHall" "chainRow" "LQueueHall$Row;") (List.mem_of_getElem? (i := 3) (by decide +kernel))) (fun _ h9 => h9) rfl dX1_pass_66 ?_
    refine lv_iload_n hx hb dX1_pass_69 rfl (lv_at hl 0 rfl) ?_
    have hPc := hP.sub (ws' := [(a3, .inr (0, [.ref b3, .int (nI nk)])), (b3, .inl (cA, 2100, .inl fk))]) [5, 6] rfl
    have hKc := hK.sub (tys' := [(cA, .int)]) [0] rfl
    refine q_cslE (va_runVN (As := [.int (nI a)]) (rest := []) ⟨hx, hb, hml, hown, hts⟩ (c_Row_at l dC dI a3 b3 nk cA fk gk (nI a) (by omega) ha3) ⟨va_cnB 1 hts gX1_pass_X0_at rfl rfl rfl (qN_at hN) (hts (.initialized RX0) (List.mem_of_getElem? (i := 6) (by decide +kernel))) (by decide +kernel) ⟨Nat.le_of_ble_eq_true rfl, Nat.le_of_ble_eq_true rfl⟩, (hts (.instanceMethod yX0_at) (List.mem_of_getElem? (i := 10) (by decide +kernel))), (hts (.selects RX0 yX0_at yX0_at) (List.mem_of_getElem? (i := 11) (by decide +kernel)))⟩ ⟨q_blR, va_recv hKc hPc (ci := 0) (q0 := 0) rfl rfl, fun U hU hW => ⟨rfl, by rw [hU]; exact hPc, va_K.moved hW.alike hKc⟩⟩ rfl rfl hl.1 rfl (lv_room (Nat.le_of_ble_eq_true rfl)) dX1_pass_70 ⟨Nat.le_of_ble_eq_true rfl, Nat.le_of_ble_eq_true rfl⟩) ?_
    refine q_topl (y := (gk a).toInt64) (qAt_i (by omega) (by omega)) ?_
    exact W.lret (v := (gk a).toInt64) hx hb hr (fun t ht hW => ⟨⟨(gk a).toInt64, ((gh, nh), (gr, nr), (gk, nk), nI a, nI a), rfl, (by simp only [qPass, if_neg (nI_pos (show a + 1 < 2 ^ 31 by omega)), if_neg hz, if_neg (nI_ne0 (show 0 < a + 1 by omega) (show a + 1 < 2 ^ 31 by omega)), nI_clamp (show a + 1 < 2 ^ 31 by omega), nI_pred, Nat.add_sub_cancel]), fh, fr, fk, ha1, ha2, ha3, by rw [ht]; exact hP, va_K.moved hW.alike hK, hD⟩, hS.F ht⟩) hS.2.2 dX1_pass_73
end
section
set_option maxHeartbeats 4000000 in
set_option maxRecDepth 100000 in
theorem c_Hall_changeMet (l : Launch) (dC : Nat → ClassId) (dI : Nat → Nat → Nat) (sz : Nat) (x0 a1 b1 a2 b2 a3 b3 nh nr nk : Nat) (cA : ClassId) (fh gh fr gr fk gk : Nat → Int32) (fi me : Int32) (p0 : Int32) (hn : nh + nr + nk < 2000) (ha1 : qAg nh fh gh) (ha2 : qAg nr fr gr) (ha3 : qAg nk fk gk) (hF : qFok fi me nk) (hfi : ¬ fi < 0) : Met l yX1_changeMet wsX1_changeMet ({ frames := 2, cells := 0, slots := 0, locals := 58 }) (va_Pc [.ref x0, .int p0] (fun U => U.heap.size = sz ∧ va_P (dC, dI) vwCl [(x0, .inr (1, [.ref a1, .ref a2, .ref a3, .int fi, .int me])), (a1, .inr (0, [.ref b1, .int (nI nh)])), (b1, .inl (cA, 2100, .inl fh)), (a2, .inr (0, [.ref b2, .int (nI nr)])), (b2, .inl (cA, 2100, .inl fr)), (a3, .inr (0, [.ref b3, .int (nI nk)])), (b3, .inl (cA, 2100, .inl fk))] U.heap ∧ va_K (dC, dI) vwCl [(cA, .int)] U ∧ va_D (fun _ => True) [(x0, .inr (1, [.ref a1, .ref a2, .ref a3, .int fi, .int me])), (a1, .inr (0, [.ref b1, .int (nI nh)])), (b1, .inl (cA, 2100, .inl fh)), (a2, .inr (0, [.ref b2, .int (nI nr)])), (b2, .inl (cA, 2100, .inl fr)), (a3, .inr (0, [.ref b3, .int (nI nk)])), (b3, .inl (cA, 2100, .inl fk))] ∧ qNest U)) (va_Qi (fun (r : Int32) (u : qS) => (r, u) = qTouch 0 p0 ((gh, nh), (gr, nr), (gk, nk), fi, me)) (at_H dC dI (va_A [(x0, .inr (1, [.ref a1, .ref a2, .ref a3, .int fi, .int me])), (a1, .inr (0, [.ref b1, .int (nI nh)])), (b1, .inl (cA, 2100, .inl fh)), (a2, .inr (0, [.ref b2, .int (nI nr)])), (b2, .inl (cA, 2100, .inl fr)), (a3, .inr (0, [.ref b3, .int (nI nk)])), (b3, .inl (cA, 2100, .inl fk))] sz) x0 a1 b1 a2 b2 a3 b3 cA) (va_A [(x0, .inr (1, [.ref a1, .ref a2, .ref a3, .int fi, .int me])), (a1, .inr (0, [.ref b1, .int (nI nh)])), (b1, .inl (cA, 2100, .inl fh)), (a2, .inr (0, [.ref b2, .int (nI nr)])), (b2, .inl (cA, 2100, .inl fr)), (a3, .inr (0, [.ref b3, .int (nI nk)])), (b3, .inl (cA, 2100, .inl fk))] sz)) 0 0 (va_A [(x0, .inr (1, [.ref a1, .ref a2, .ref a3, .int fi, .int me])), (a1, .inr (0, [.ref b1, .int (nI nh)])), (b1, .inl (cA, 2100, .inl fh)), (a2, .inr (0, [.ref b2, .int (nI nr)])), (b2, .inl (cA, 2100, .inl fr)), (a3, .inr (0, [.ref b3, .int (nI nk)])), (b3, .inl (cA, 2100, .inl fk))] sz) := by
  refine Met.ofW (cc := cX1_changeMet) (maxL := 2) (ret := (some .int)) (by decide +kernel) rfl ?_
  intro p e s m args below meth c s₁ B hml hv
  obtain ⟨rfl, hsz, hP, hK, hD0, hN⟩ := hv
  have hx := B.exec
  have hb := B.bytes
  have hr := B.returns
  have hts := atoms_spec (ws := wsX1_changeMet) B.pre
  have hown : s.vm.findClass RX1 = some m.cls := findClass_of_methodNamed B.named
  have hlocks := B.notSynchronized
  subst hsz
  have hD := hD0.self (sz := s.heap.size)
  generalize hAe : va_A [(x0, .inr (1, [.ref a1, .ref a2, .ref a3, .int fi, .int me])), (a1, .inr (0, [.ref b1, .int (nI nh)])), (b1, .inl (cA, 2100, .inl fh)), (a2, .inr (0, [.ref b2, .int (nI nr)])), (b2, .inl (cA, 2100, .inl fr)), (a3, .inr (0, [.ref b3, .int (nI nk)])), (b3, .inl (cA, 2100, .inl fk))] s.heap.size = A at hD ⊢
  have hA : ∀ q : Nat, s.heap.size ≤ q → A q := fun q h => by rw [← hAe]; exact Or.inr h
  have hS : va_S A s.heap s.heap [] := va_S.rf
  have hl := lv_entry ([.ref x0, .int p0]) (n := 2) (Nat.le_of_ble_eq_true rfl)
  rw [lg_entry_eq]
  generalize (lg_sl ([.ref x0, .int p0]) ++ List.replicate (2 - (lg_sl ([.ref x0, .int p0])).length) Slot.unset).toArray = ls at hl ⊢
  have hl : lv_has ls 2 [(0, .ref x0), (1, .int p0)] := hl
  rcases qFok_m hF with rfl | ⟨b, hb0, rfl⟩
  · refine lv_aload_n hx hb dX1_changeMet_0 rfl (lv_at hl 0 rfl) ?_
    refine va_get (D := (dC, dI)) (ci := 1) (v := .ref a3) (C := RX1) (T := TX1) (N := 5) hx hb hts inX1_changeMet_X1 hown hK hP 0 rfl rfl 2 (by decide) (hts (.fieldLink RX1 19 "QueueHall" "chainRow" "LQueueHall$Row;") (List.mem_of_getElem? (i := 1) (by decide +kernel))) (fun _ h9 => h9) rfl dX1_changeMet_1 ?_
    refine lv_aload_n hx hb dX1_changeMet_4 rfl (lv_at hl 0 rfl) ?_
    refine va_get (D := (dC, dI)) (ci := 1) (v := .int (-1)) (C := RX1) (T := TX1) (N := 5) hx hb hts inX1_changeMet_X1 hown hK hP 0 rfl rfl 4 (by decide) (hts (.fieldLink RX1 26 "QueueHall" "metPlace" "I") (List.mem_of_getElem? (i := 2) (by decide +kernel))) (fun _ h9 => h9) rfl dX1_changeMet_5 ?_
    refine lv_iload_n hx hb dX1_changeMet_8 rfl (lv_at hl 1 rfl) ?_
    have hPc := hP.sub (ws' := [(a3, .inr (0, [.ref b3, .int (nI nk)])), (b3, .inl (cA, 2100, .inl fk))]) [5, 6] rfl
    have hKc := hK.sub (tys' := [(cA, .int)]) [0] rfl
    have hDc := hD.sub (ws' := [(a3, .inr (0, [.ref b3, .int (nI nk)])), (b3, .inl (cA, 2100, .inl fk))]) [5, 6] (by decide) rfl
    have hFc := va_free (wc := [(a3, .inr (0, [.ref b3, .int (nI nk)])), (b3, .inl (cA, 2100, .inl fk))]) hD hS hA [5, 6] rfl
    refine va_calll (va_runVN (As := [.int (-1), .int p0]) (rest := []) ⟨hx, hb, hml, hown, hts⟩ (c_Row_swap l dC dI s.heap.size a3 b3 nk cA fk gk (-1) p0 (by omega) ha3) ⟨va_cnB 2 hts gX1_changeMet_X0_swap rfl rfl rfl (qN_swap hN) (hts (.initialized RX0) (List.mem_of_getElem? (i := 5) (by decide +kernel))) (by decide +kernel) ⟨Nat.le_of_ble_eq_true rfl, Nat.le_of_ble_eq_true rfl⟩, (hts (.instanceMethod yX0_swap) (List.mem_of_getElem? (i := 3) (by decide +kernel))), (hts (.selects RX0 yX0_swap yX0_swap) (List.mem_of_getElem? (i := 4) (by decide +kernel)))⟩ ⟨q_blW, va_recv hKc hPc (ci := 0) (q0 := 0) rfl rfl, fun U hU hW => ⟨rfl, by rw [hU], by rw [hU]; exact hPc, va_K.moved hW.alike hKc, hDc.weaken (fun _ _ _ _ => trivial)⟩⟩ rfl rfl hl.1 rfl (lv_room (Nat.le_of_ble_eq_true rfl)) dX1_changeMet_9 ⟨Nat.le_of_ble_eq_true rfl, Nat.le_of_ble_eq_true rfl⟩) hS (fun q _ h => hFc q h) hFc (fun r_1 u_1 t_1 H1 locs ht hvm hw hB hz1 hk1 hS => ?_)
    have hw := hw.trans (qSwap_o (qHp_m1))
    obtain ⟨rfl, rfl⟩ := Prod.mk.inj hw
    obtain ⟨f_1, hg_1, hP1, hK1, hD1⟩ := hB
    rw [ht] at hP1
    obtain ⟨hP, hD⟩ := q_join (wr := [(x0, .inr (1, [.ref a1, .ref a2, .ref a3, .int fi, .int (-1)])), (a1, .inr (0, [.ref b1, .int (nI nh)])), (b1, .inl (cA, 2100, .inl fh)), (a2, .inr (0, [.ref b2, .int (nI nr)])), (b2, .inl (cA, 2100, .inl fr))]) (w1 := [(a3, .inr (0, [.ref b3, .int (nI nk)])), (b3, .inl (cA, 2100, .inl f_1))]) (wz := [(x0, .inr (1, [.ref a1, .ref a2, .ref a3, .int fi, .int (-1)])), (a1, .inr (0, [.ref b1, .int (nI nh)])), (b1, .inl (cA, 2100, .inl fh)), (a2, .inr (0, [.ref b2, .int (nI nr)])), (b2, .inl (cA, 2100, .inl fr)), (a3, .inr (0, [.ref b3, .int (nI nk)])), (b3, .inl (cA, 2100, .inl f_1))]) hP hD [5, 6] [0, 1, 2, 3, 4] [0, 1, 2, 3, 4, 5, 6] rfl rfl (by decide) (by decide) hk1 hFc hP1 hD1 rfl rfl (by decide)
    generalize H1 = H at hP hS ⊢
    refine lv_ldc2 (v := qNo) hx hb hown (hts (.constantLong RX1 50 (1099511627776)) (List.mem_of_getElem? (i := 14) (by decide +kernel))) dX1_changeMet_12 ?_
    refine W.lcmp hx hb dX1_changeMet_15 ?_
    refine lv_if_ne (tgt := 23) hx hb dX1_changeMet_16 (by decide) (fun c_0 => absurd ((lg_cmp_eq _ _).mpr rfl) c_0) (fun _ => ?_)
    refine lv_iconst (v := -1) hx hb dX1_changeMet_19 (by decide) ?_
    refine lv_goto (tgt := 30) hx hb dX1_changeMet_20 (by decide) ?_
    exact W.iret (v := -1) hx hb hr (fun t ht hW => ⟨⟨-1, ((gh, nh), (gr, nr), (gk, nk), fi, -1), rfl, (by simp only [qTouch, if_neg hfi, if_pos True.intro, if_pos (show (-1 : Int32) < 0 by decide)]), fh, fr, f_1, ha1, ha2, hg_1, by rw [ht]; exact hP, va_K.moved hW.alike hK, hD⟩, hS.F ht⟩) hS.2.2 dX1_changeMet_30
  · refine lv_aload_n hx hb dX1_changeMet_0 rfl (lv_at hl 0 rfl) ?_
    refine va_get (D := (dC, dI)) (ci := 1) (v := .ref a3) (C := RX1) (T := TX1) (N := 5) hx hb hts inX1_changeMet_X1 hown hK hP 0 rfl rfl 2 (by decide) (hts (.fieldLink RX1 19 "QueueHall" "chainRow" "LQueueHall$Row;") (List.mem_of_getElem? (i := 1) (by decide +kernel))) (fun _ h9 => h9) rfl dX1_changeMet_1 ?_
    refine lv_aload_n hx hb dX1_changeMet_4 rfl (lv_at hl 0 rfl) ?_
    refine va_get (D := (dC, dI)) (ci := 1) (v := .int (nI b)) (C := RX1) (T := TX1) (N := 5) hx hb hts inX1_changeMet_X1 hown hK hP 0 rfl rfl 4 (by decide) (hts (.fieldLink RX1 26 "QueueHall" "metPlace" "I") (List.mem_of_getElem? (i := 2) (by decide +kernel))) (fun _ h9 => h9) rfl dX1_changeMet_5 ?_
    refine lv_iload_n hx hb dX1_changeMet_8 rfl (lv_at hl 1 rfl) ?_
    have hPc := hP.sub (ws' := [(a3, .inr (0, [.ref b3, .int (nI nk)])), (b3, .inl (cA, 2100, .inl fk))]) [5, 6] rfl
    have hKc := hK.sub (tys' := [(cA, .int)]) [0] rfl
    have hDc := hD.sub (ws' := [(a3, .inr (0, [.ref b3, .int (nI nk)])), (b3, .inl (cA, 2100, .inl fk))]) [5, 6] (by decide) rfl
    have hFc := va_free (wc := [(a3, .inr (0, [.ref b3, .int (nI nk)])), (b3, .inl (cA, 2100, .inl fk))]) hD hS hA [5, 6] rfl
    refine va_calll (va_runVN (As := [.int (nI b), .int p0]) (rest := []) ⟨hx, hb, hml, hown, hts⟩ (c_Row_swap l dC dI s.heap.size a3 b3 nk cA fk gk (nI b) p0 (by omega) ha3) ⟨va_cnB 2 hts gX1_changeMet_X0_swap rfl rfl rfl (qN_swap hN) (hts (.initialized RX0) (List.mem_of_getElem? (i := 5) (by decide +kernel))) (by decide +kernel) ⟨Nat.le_of_ble_eq_true rfl, Nat.le_of_ble_eq_true rfl⟩, (hts (.instanceMethod yX0_swap) (List.mem_of_getElem? (i := 3) (by decide +kernel))), (hts (.selects RX0 yX0_swap yX0_swap) (List.mem_of_getElem? (i := 4) (by decide +kernel)))⟩ ⟨q_blW, va_recv hKc hPc (ci := 0) (q0 := 0) rfl rfl, fun U hU hW => ⟨rfl, by rw [hU], by rw [hU]; exact hPc, va_K.moved hW.alike hKc, hDc.weaken (fun _ _ _ _ => trivial)⟩⟩ rfl rfl hl.1 rfl (lv_room (Nat.le_of_ble_eq_true rfl)) dX1_changeMet_9 ⟨Nat.le_of_ble_eq_true rfl, Nat.le_of_ble_eq_true rfl⟩) hS (fun q _ h => hFc q h) hFc (fun r_2 u_2 t_2 H1 locs ht hvm hw hB hz1 hk1 hS => ?_)
    have hw := hw.trans (qSwap_i (k := b) (by omega) (by omega))
    obtain ⟨rfl, rfl⟩ := Prod.mk.inj hw
    obtain ⟨f_2, hg_2, hP1, hK1, hD1⟩ := hB
    rw [ht] at hP1
    obtain ⟨hP, hD⟩ := q_join (wr := [(x0, .inr (1, [.ref a1, .ref a2, .ref a3, .int fi, .int (nI b)])), (a1, .inr (0, [.ref b1, .int (nI nh)])), (b1, .inl (cA, 2100, .inl fh)), (a2, .inr (0, [.ref b2, .int (nI nr)])), (b2, .inl (cA, 2100, .inl fr))]) (w1 := [(a3, .inr (0, [.ref b3, .int (nI nk)])), (b3, .inl (cA, 2100, .inl f_2))]) (wz := [(x0, .inr (1, [.ref a1, .ref a2, .ref a3, .int fi, .int (nI b)])), (a1, .inr (0, [.ref b1, .int (nI nh)])), (b1, .inl (cA, 2100, .inl fh)), (a2, .inr (0, [.ref b2, .int (nI nr)])), (b2, .inl (cA, 2100, .inl fr)), (a3, .inr (0, [.ref b3, .int (nI nk)])), (b3, .inl (cA, 2100, .inl f_2))]) hP hD [5, 6] [0, 1, 2, 3, 4] [0, 1, 2, 3, 4, 5, 6] rfl rfl (by decide) (by decide) hk1 hFc hP1 hD1 rfl rfl (by decide)
    generalize H1 = H at hP hS ⊢
    refine lv_ldc2 (v := qNo) hx hb hown (hts (.constantLong RX1 50 (1099511627776)) (List.mem_of_getElem? (i := 14) (by decide +kernel))) dX1_changeMet_12 ?_
    refine W.lcmp hx hb dX1_changeMet_15 ?_
    refine lv_if_ne (tgt := 23) hx hb dX1_changeMet_16 (by decide) (fun _ => ?_) (fun c_0 => absurd c_0 (fun q => q_no _ ((lg_cmp_eq _ _).mp q)))
    refine lv_aload_n hx hb dX1_changeMet_23 rfl (lv_at hl 0 rfl) ?_
    refine va_get (D := (dC, dI)) (ci := 1) (v := .ref a3) (C := RX1) (T := TX1) (N := 5) hx hb hts inX1_changeMet_X1 hown hK hP 0 rfl rfl 2 (by decide) (hts (.fieldLink RX1 19 "QueueHall" "chainRow" "LQueueHall$Row;") (List.mem_of_getElem? (i := 1) (by decide +kernel))) (fun _ h9 => h9) rfl dX1_changeMet_24 ?_
    refine va_getN (D := (dC, dI)) (ci := 0) (v := .int (nI nk)) (C := RX0) (T := TX0) (N := 2) hx hb hts inX1_changeMet_X0 hown hK hP 5 rfl rfl 1 (by decide) (qN_count hN) (fun _ h9 => h9) rfl dX1_changeMet_27 ?_
    exact W.iret (v := nI nk) hx hb hr (fun t ht hW => ⟨⟨nI nk, ((gh, nh), (gr, nr), (upd gk b p0, nk), fi, nI b), rfl, (by simp only [qTouch, if_neg hfi, if_pos True.intro, if_neg (nI_pos (show b < 2 ^ 31 by omega)), nI_clamp (show b < 2 ^ 31 by omega)]), fh, fr, f_2, ha1, ha2, hg_2, by rw [ht]; exact hP, va_K.moved hW.alike hK, hD⟩, hS.F ht⟩) hS.2.2 dX1_changeMet_30

set_option maxHeartbeats 4000000 in
set_option maxRecDepth 100000 in
theorem c_Hall_takeMet (l : Launch) (dC : Nat → ClassId) (dI : Nat → Nat → Nat) (sz : Nat) (x0 a1 b1 a2 b2 a3 b3 nh nr nk : Nat) (cA : ClassId) (fh gh fr gr fk gk : Nat → Int32) (fi me : Int32) (hn : nh + nr + nk < 2000) (ha1 : qAg nh fh gh) (ha2 : qAg nr fr gr) (ha3 : qAg nk fk gk) (hF : qFok fi me nk) (hfi : ¬ fi < 0) : Met l yX1_takeMet wsX1_takeMet ({ frames := 2, cells := 0, slots := 0, locals := 58 }) (va_Pc [.ref x0] (fun U => U.heap.size = sz ∧ va_P (dC, dI) vwCl [(x0, .inr (1, [.ref a1, .ref a2, .ref a3, .int fi, .int me])), (a1, .inr (0, [.ref b1, .int (nI nh)])), (b1, .inl (cA, 2100, .inl fh)), (a2, .inr (0, [.ref b2, .int (nI nr)])), (b2, .inl (cA, 2100, .inl fr)), (a3, .inr (0, [.ref b3, .int (nI nk)])), (b3, .inl (cA, 2100, .inl fk))] U.heap ∧ va_K (dC, dI) vwCl [(cA, .int)] U ∧ va_D (fun _ => True) [(x0, .inr (1, [.ref a1, .ref a2, .ref a3, .int fi, .int me])), (a1, .inr (0, [.ref b1, .int (nI nh)])), (b1, .inl (cA, 2100, .inl fh)), (a2, .inr (0, [.ref b2, .int (nI nr)])), (b2, .inl (cA, 2100, .inl fr)), (a3, .inr (0, [.ref b3, .int (nI nk)])), (b3, .inl (cA, 2100, .inl fk))] ∧ qNest U)) (va_Qi (fun (r : Int32) (u : qS) => (r, u) = qTouch 1 0 ((gh, nh), (gr, nr), (gk, nk), fi, me)) (at_H dC dI (va_A [(x0, .inr (1, [.ref a1, .ref a2, .ref a3, .int fi, .int me])), (a1, .inr (0, [.ref b1, .int (nI nh)])), (b1, .inl (cA, 2100, .inl fh)), (a2, .inr (0, [.ref b2, .int (nI nr)])), (b2, .inl (cA, 2100, .inl fr)), (a3, .inr (0, [.ref b3, .int (nI nk)])), (b3, .inl (cA, 2100, .inl fk))] sz) x0 a1 b1 a2 b2 a3 b3 cA) (va_A [(x0, .inr (1, [.ref a1, .ref a2, .ref a3, .int fi, .int me])), (a1, .inr (0, [.ref b1, .int (nI nh)])), (b1, .inl (cA, 2100, .inl fh)), (a2, .inr (0, [.ref b2, .int (nI nr)])), (b2, .inl (cA, 2100, .inl fr)), (a3, .inr (0, [.ref b3, .int (nI nk)])), (b3, .inl (cA, 2100, .inl fk))] sz)) 0 0 (va_A [(x0, .inr (1, [.ref a1, .ref a2, .ref a3, .int fi, .int me])), (a1, .inr (0, [.ref b1, .int (nI nh)])), (b1, .inl (cA, 2100, .inl fh)), (a2, .inr (0, [.ref b2, .int (nI nr)])), (b2, .inl (cA, 2100, .inl fr)), (a3, .inr (0, [.ref b3, .int (nI nk)])), (b3, .inl (cA, 2100, .inl fk))] sz) := by
  refine Met.ofW (cc := cX1_takeMet) (maxL := 1) (ret := (some .int)) (by decide +kernel) rfl ?_
  intro p e s m args below meth c s₁ B hml hv
  obtain ⟨rfl, hsz, hP, hK, hD0, hN⟩ := hv
  have hx := B.exec
  have hb := B.bytes
  have hr := B.returns
  have hts := atoms_spec (ws := wsX1_takeMet) B.pre
  have hown : s.vm.findClass RX1 = some m.cls := findClass_of_methodNamed B.named
  have hlocks := B.notSynchronized
  subst hsz
  have hD := hD0.self (sz := s.heap.size)
  generalize hAe : va_A [(x0, .inr (1, [.ref a1, .ref a2, .ref a3, .int fi, .int me])), (a1, .inr (0, [.ref b1, .int (nI nh)])), (b1, .inl (cA, 2100, .inl fh)), (a2, .inr (0, [.ref b2, .int (nI nr)])), (b2, .inl (cA, 2100, .inl fr)), (a3, .inr (0, [.ref b3, .int (nI nk)])), (b3, .inl (cA, 2100, .inl fk))] s.heap.size = A at hD ⊢
  have hA : ∀ q : Nat, s.heap.size ≤ q → A q := fun q h => by rw [← hAe]; exact Or.inr h
  have hS : va_S A s.heap s.heap [] := va_S.rf
  have hl := lv_entry ([.ref x0]) (n := 1) (Nat.le_of_ble_eq_true rfl)
  rw [lg_entry_eq]
  generalize (lg_sl ([.ref x0]) ++ List.replicate (1 - (lg_sl ([.ref x0])).length) Slot.unset).toArray = ls at hl ⊢
  have hl : lv_has ls 1 [(0, .ref x0)] := hl
  rcases q_met hF hfi with ⟨a, ha, rfl, rfl⟩ | ⟨a, b, ha, hb0, rfl, rfl⟩
  · refine lv_aload_n hx hb dX1_takeMet_0 rfl (lv_at hl 0 rfl) ?_
    refine va_get (D := (dC, dI)) (ci := 1) (v := .ref a3) (C := RX1) (T := TX1) (N := 5) hx hb hts inX1_takeMet_X1 hown hK hP 0 rfl rfl 2 (by decide) (hts (.fieldLink RX1 19 "QueueHall" "chainRow" "LQueueHall$Row;") (List.mem_of_getElem? (i := 1) (by decide +kernel))) (fun _ h9 => h9) rfl dX1_takeMet_1 ?_
    refine lv_aload_n hx hb dX1_takeMet_4 rfl (lv_at hl 0 rfl) ?_
    refine va_get (D := (dC, dI)) (ci := 1) (v := .int (-1)) (C := RX1) (T := TX1) (N := 5) hx hb hts inX1_takeMet_X1 hown hK hP 0 rfl rfl 4 (by decide) (hts (.fieldLink RX1 26 "QueueHall" "metPlace" "I") (List.mem_of_getElem? (i := 2) (by decide +kernel))) (fun _ h9 => h9) rfl dX1_takeMet_5 ?_
    have hPc := hP.sub (ws' := [(a3, .inr (0, [.ref b3, .int (nI nk)])), (b3, .inl (cA, 2100, .inl fk))]) [5, 6] rfl
    have hKc := hK.sub (tys' := [(cA, .int)]) [0] rfl
    have hDc := hD.sub (ws' := [(a3, .inr (0, [.ref b3, .int (nI nk)])), (b3, .inl (cA, 2100, .inl fk))]) [5, 6] (by decide) rfl
    have hFc := va_free (wc := [(a3, .inr (0, [.ref b3, .int (nI nk)])), (b3, .inl (cA, 2100, .inl fk))]) hD hS hA [5, 6] rfl
    refine va_calll (va_runVN (As := [.int (-1)]) (rest := []) ⟨hx, hb, hml, hown, hts⟩ (c_Row_take l dC dI s.heap.size a3 b3 nk cA fk gk (-1) (by omega) ha3) ⟨va_cnB 1 hts gX1_takeMet_X0_take rfl rfl rfl (qN_take hN) (hts (.initialized RX0) (List.mem_of_getElem? (i := 5) (by decide +kernel))) (by decide +kernel) ⟨Nat.le_of_ble_eq_true rfl, Nat.le_of_ble_eq_true rfl⟩, (hts (.instanceMethod yX0_take) (List.mem_of_getElem? (i := 3) (by decide +kernel))), (hts (.selects RX0 yX0_take yX0_take) (List.mem_of_getElem? (i := 4) (by decide +kernel)))⟩ ⟨q_blW, va_recv hKc hPc (ci := 0) (q0 := 0) rfl rfl, fun U hU hW => ⟨rfl, by rw [hU], by rw [hU]; exact hPc, va_K.moved hW.alike hKc, hDc.weaken (fun _ _ _ _ => trivial)⟩⟩ rfl rfl hl.1 rfl (lv_room (Nat.le_of_ble_eq_true rfl)) dX1_takeMet_8 ⟨Nat.le_of_ble_eq_true rfl, Nat.le_of_ble_eq_true rfl⟩) hS (fun q _ h => hFc q h) hFc (fun r_1 u_1 t_1 H1 locs ht hvm hw hB hz1 hk1 hS => ?_)
    have hw := hw.trans (qTake_o (qHp_m1))
    obtain ⟨rfl, rfl⟩ := Prod.mk.inj hw
    obtain ⟨f_1, hg_1, hP1, hK1, hD1⟩ := hB
    rw [ht] at hP1
    obtain ⟨hP, hD⟩ := q_join (wr := [(x0, .inr (1, [.ref a1, .ref a2, .ref a3, .int (nI a), .int (-1)])), (a1, .inr (0, [.ref b1, .int (nI nh)])), (b1, .inl (cA, 2100, .inl fh)), (a2, .inr (0, [.ref b2, .int (nI nr)])), (b2, .inl (cA, 2100, .inl fr))]) (w1 := [(a3, .inr (0, [.ref b3, .int (nI nk)])), (b3, .inl (cA, 2100, .inl f_1))]) (wz := [(x0, .inr (1, [.ref a1, .ref a2, .ref a3, .int (nI a), .int (-1)])), (a1, .inr (0, [.ref b1, .int (nI nh)])), (b1, .inl (cA, 2100, .inl fh)), (a2, .inr (0, [.ref b2, .int (nI nr)])), (b2, .inl (cA, 2100, .inl fr)), (a3, .inr (0, [.ref b3, .int (nI nk)])), (b3, .inl (cA, 2100, .inl f_1))]) hP hD [5, 6] [0, 1, 2, 3, 4] [0, 1, 2, 3, 4, 5, 6] rfl rfl (by decide) (by decide) hk1 hFc hP1 hD1 rfl rfl (by decide)
    generalize H1 = H at hP hS ⊢
    refine lv_ldc2 (v := qNo) hx hb hown (hts (.constantLong RX1 50 (1099511627776)) (List.mem_of_getElem? (i := 18) (by decide +kernel))) dX1_takeMet_11 ?_
    refine W.lcmp hx hb dX1_takeMet_14 ?_
    refine lv_if_ne (tgt := 20) hx hb dX1_takeMet_15 (by decide) (fun c_0 => absurd ((lg_cmp_eq _ _).mpr rfl) c_0) (fun _ => ?_)
    refine lv_iconst (v := -1) hx hb dX1_takeMet_18 (by decide) ?_
    exact W.iret (v := -1) hx hb hr (fun t ht hW => ⟨⟨-1, ((gh, nh), (gr, nr), (gk, nk), nI a, -1), rfl, (by simp only [qTouch, if_neg hfi, if_neg (show ¬ (1 : Int32) = 0 by decide), if_pos True.intro, if_pos (show (-1 : Int32) < 0 by decide)]), fh, fr, f_1, ha1, ha2, hg_1, by rw [ht]; exact hP, va_K.moved hW.alike hK, hD⟩, hS.F ht⟩) hS.2.2 dX1_takeMet_19
  · refine lv_aload_n hx hb dX1_takeMet_0 rfl (lv_at hl 0 rfl) ?_
    refine va_get (D := (dC, dI)) (ci := 1) (v := .ref a3) (C := RX1) (T := TX1) (N := 5) hx hb hts inX1_takeMet_X1 hown hK hP 0 rfl rfl 2 (by decide) (hts (.fieldLink RX1 19 "QueueHall" "chainRow" "LQueueHall$Row;") (List.mem_of_getElem? (i := 1) (by decide +kernel))) (fun _ h9 => h9) rfl dX1_takeMet_1 ?_
    refine lv_aload_n hx hb dX1_takeMet_4 rfl (lv_at hl 0 rfl) ?_
    refine va_get (D := (dC, dI)) (ci := 1) (v := .int (nI b)) (C := RX1) (T := TX1) (N := 5) hx hb hts inX1_takeMet_X1 hown hK hP 0 rfl rfl 4 (by decide) (hts (.fieldLink RX1 26 "QueueHall" "metPlace" "I") (List.mem_of_getElem? (i := 2) (by decide +kernel))) (fun _ h9 => h9) rfl dX1_takeMet_5 ?_
    have hPc := hP.sub (ws' := [(a3, .inr (0, [.ref b3, .int (nI nk)])), (b3, .inl (cA, 2100, .inl fk))]) [5, 6] rfl
    have hKc := hK.sub (tys' := [(cA, .int)]) [0] rfl
    have hDc := hD.sub (ws' := [(a3, .inr (0, [.ref b3, .int (nI nk)])), (b3, .inl (cA, 2100, .inl fk))]) [5, 6] (by decide) rfl
    have hFc := va_free (wc := [(a3, .inr (0, [.ref b3, .int (nI nk)])), (b3, .inl (cA, 2100, .inl fk))]) hD hS hA [5, 6] rfl
    refine va_calll (va_runVN (As := [.int (nI b)]) (rest := []) ⟨hx, hb, hml, hown, hts⟩ (c_Row_take l dC dI s.heap.size a3 b3 nk cA fk gk (nI b) (by omega) ha3) ⟨va_cnB 1 hts gX1_takeMet_X0_take rfl rfl rfl (qN_take hN) (hts (.initialized RX0) (List.mem_of_getElem? (i := 5) (by decide +kernel))) (by decide +kernel) ⟨Nat.le_of_ble_eq_true rfl, Nat.le_of_ble_eq_true rfl⟩, (hts (.instanceMethod yX0_take) (List.mem_of_getElem? (i := 3) (by decide +kernel))), (hts (.selects RX0 yX0_take yX0_take) (List.mem_of_getElem? (i := 4) (by decide +kernel)))⟩ ⟨q_blW, va_recv hKc hPc (ci := 0) (q0 := 0) rfl rfl, fun U hU hW => ⟨rfl, by rw [hU], by rw [hU]; exact hPc, va_K.moved hW.alike hKc, hDc.weaken (fun _ _ _ _ => trivial)⟩⟩ rfl rfl hl.1 rfl (lv_room (Nat.le_of_ble_eq_true rfl)) dX1_takeMet_8 ⟨Nat.le_of_ble_eq_true rfl, Nat.le_of_ble_eq_true rfl⟩) hS (fun q _ h => hFc q h) hFc (fun r_2 u_2 t_2 H1 locs ht hvm hw hB hz1 hk1 hS => ?_)
    have hw := hw.trans (qTake_i (k := b) (by omega) (by omega))
    obtain ⟨rfl, rfl⟩ := Prod.mk.inj hw
    obtain ⟨f_2, hg_2, hP1, hK1, hD1⟩ := hB
    rw [ht] at hP1
    obtain ⟨hP, hD⟩ := q_join (wr := [(x0, .inr (1, [.ref a1, .ref a2, .ref a3, .int (nI a), .int (nI b)])), (a1, .inr (0, [.ref b1, .int (nI nh)])), (b1, .inl (cA, 2100, .inl fh)), (a2, .inr (0, [.ref b2, .int (nI nr)])), (b2, .inl (cA, 2100, .inl fr))]) (w1 := [(a3, .inr (0, [.ref b3, .int (nI (nk - 1))])), (b3, .inl (cA, 2100, .inl f_2))]) (wz := [(x0, .inr (1, [.ref a1, .ref a2, .ref a3, .int (nI a), .int (nI b)])), (a1, .inr (0, [.ref b1, .int (nI nh)])), (b1, .inl (cA, 2100, .inl fh)), (a2, .inr (0, [.ref b2, .int (nI nr)])), (b2, .inl (cA, 2100, .inl fr)), (a3, .inr (0, [.ref b3, .int (nI (nk - 1))])), (b3, .inl (cA, 2100, .inl f_2))]) hP hD [5, 6] [0, 1, 2, 3, 4] [0, 1, 2, 3, 4, 5, 6] rfl rfl (by decide) (by decide) hk1 hFc hP1 hD1 rfl rfl (by decide)
    generalize H1 = H at hP hS ⊢
    refine lv_ldc2 (v := qNo) hx hb hown (hts (.constantLong RX1 50 (1099511627776)) (List.mem_of_getElem? (i := 18) (by decide +kernel))) dX1_takeMet_11 ?_
    refine W.lcmp hx hb dX1_takeMet_14 ?_
    refine lv_if_ne (tgt := 20) hx hb dX1_takeMet_15 (by decide) (fun _ => ?_) (fun c_0 => absurd c_0 (fun q => q_no _ ((lg_cmp_eq _ _).mp q)))
    refine lv_aload_n hx hb dX1_takeMet_20 rfl (lv_at hl 0 rfl) ?_
    refine va_get (D := (dC, dI)) (ci := 1) (v := .int (nI b)) (C := RX1) (T := TX1) (N := 5) hx hb hts inX1_takeMet_X1 hown hK hP 0 rfl rfl 4 (by decide) (hts (.fieldLink RX1 26 "QueueHall" "metPlace" "I") (List.mem_of_getElem? (i := 2) (by decide +kernel))) (fun _ h9 => h9) rfl dX1_takeMet_21 ?_
    refine lv_aload_n hx hb dX1_takeMet_24 rfl (lv_at hl 0 rfl) ?_
    refine va_get (D := (dC, dI)) (ci := 1) (v := .int (nI a)) (C := RX1) (T := TX1) (N := 5) hx hb hts inX1_takeMet_X1 hown hK hP 0 rfl rfl 3 (by decide) (hts (.fieldLink RX1 22 "QueueHall" "fingerPlace" "I") (List.mem_of_getElem? (i := 19) (by decide +kernel))) (fun _ h9 => h9) rfl dX1_takeMet_25 ?_
    refine lv_icmp_ge (tgt := 41) hx hb dX1_takeMet_28 (by decide) (fun c_3 => ?_) (fun c_3 => ?_)
    · have k_3 : b ≥ a := by
        simp (disch := omega) only [ti_lt, ti_le, ti_eq, ti_0, ti_1, ti_2, ti_m1, ti_100, ti_2000, nI_toInt] at c_3
        omega
      refine lv_aload_n hx hb dX1_takeMet_41 rfl (lv_at hl 0 rfl) ?_
      refine lv_iconst (v := -1) hx hb dX1_takeMet_42 (by decide) ?_
      refine va_put (D := (dC, dI)) (ci := 1) (v := .int (-1)) (ty := .int) (C := RX1) (T := TX1) (N := 5) hx hb hts inX1_takeMet_X1 tyX1 tyX1_ok nmX1 hown hK hP hD hS 0 rfl rfl 4 (by decide) (hts (.fieldLink RX1 26 "QueueHall" "metPlace" "I") (List.mem_of_getElem? (i := 2) (by decide +kernel))) (fun _ h9 => h9) rfl (by decide +kernel) rfl rfl (Nat.le_of_ble_eq_true rfl) dX1_takeMet_43 (fun H locs hP hD hS => ?_)
      have hP : va_P (dC, dI) vwCl [(x0, .inr (1, [.ref a1, .ref a2, .ref a3, .int (nI a), .int (-1)])), (a1, .inr (0, [.ref b1, .int (nI nh)])), (b1, .inl (cA, 2100, .inl fh)), (a2, .inr (0, [.ref b2, .int (nI nr)])), (b2, .inl (cA, 2100, .inl fr)), (a3, .inr (0, [.ref b3, .int (nI (nk - 1))])), (b3, .inl (cA, 2100, .inl f_2))] H := hP
      have hD : va_D A [(x0, .inr (1, [.ref a1, .ref a2, .ref a3, .int (nI a), .int (-1)])), (a1, .inr (0, [.ref b1, .int (nI nh)])), (b1, .inl (cA, 2100, .inl fh)), (a2, .inr (0, [.ref b2, .int (nI nr)])), (b2, .inl (cA, 2100, .inl fr)), (a3, .inr (0, [.ref b3, .int (nI (nk - 1))])), (b3, .inl (cA, 2100, .inl f_2))] := hD
      refine lv_aload_n hx hb dX1_takeMet_46 rfl (lv_at hl 0 rfl) ?_
      refine va_get (D := (dC, dI)) (ci := 1) (v := .ref a3) (C := RX1) (T := TX1) (N := 5) hx hb hts inX1_takeMet_X1 hown hK hP 0 rfl rfl 2 (by decide) (hts (.fieldLink RX1 19 "QueueHall" "chainRow" "LQueueHall$Row;") (List.mem_of_getElem? (i := 1) (by decide +kernel))) (fun _ h9 => h9) rfl dX1_takeMet_47 ?_
      refine va_getN (D := (dC, dI)) (ci := 0) (v := .int (nI (nk - 1))) (C := RX0) (T := TX0) (N := 2) hx hb hts inX1_takeMet_X0 hown hK hP 5 rfl rfl 1 (by decide) (qN_count hN) (fun _ h9 => h9) rfl dX1_takeMet_50 ?_
      exact W.iret (v := nI (nk - 1)) hx hb hr (fun t ht hW => ⟨⟨nI (nk - 1), ((gh, nh), (gr, nr), (qDel gk b, nk - 1), nI a, -1), rfl, (by simp only [qTouch, if_neg hfi, if_neg (show ¬ (1 : Int32) = 0 by decide), if_pos True.intro, if_neg (nI_pos (show b < 2 ^ 31 by omega)), nI_clamp (show b < 2 ^ 31 by omega), if_neg (nI_nlt (show a ≤ b by omega) (show b < 2 ^ 31 by omega))]), fh, fr, f_2, ha1, ha2, hg_2, by rw [ht]; exact hP, va_K.moved hW.alike hK, hD⟩, hS.F ht⟩) hS.2.2 dX1_takeMet_53
    · have k_3 : b < a := by
        simp (disch := omega) only [ti_lt, ti_le, ti_eq, ti_0, ti_1, ti_2, ti_m1, ti_100, ti_2000, nI_toInt] at c_3
        omega
      refine lv_aload_n hx hb dX1_takeMet_31 rfl (lv_at hl 0 rfl) ?_
      refine lv_dup hx hb dX1_takeMet_32 rfl ?_
      refine va_get (D := (dC, dI)) (ci := 1) (v := .int (nI a)) (C := RX1) (T := TX1) (N := 5) hx hb hts inX1_takeMet_X1 hown hK hP 0 rfl rfl 3 (by decide) (hts (.fieldLink RX1 22 "QueueHall" "fingerPlace" "I") (List.mem_of_getElem? (i := 19) (by decide +kernel))) (fun _ h9 => h9) rfl dX1_takeMet_33 ?_
      refine lv_iconst (v := 1) hx hb dX1_takeMet_36 (by decide) ?_
      refine lv_isub hx hb dX1_takeMet_37 ?_
      refine q_top (y := nI (a - 1)) (q_m1 (by omega)) ?_
      refine va_put (D := (dC, dI)) (ci := 1) (v := .int (nI (a - 1))) (ty := .int) (C := RX1) (T := TX1) (N := 5) hx hb hts inX1_takeMet_X1 tyX1 tyX1_ok nmX1 hown hK hP hD hS 0 rfl rfl 3 (by decide) (hts (.fieldLink RX1 22 "QueueHall" "fingerPlace" "I") (List.mem_of_getElem? (i := 19) (by decide +kernel))) (fun _ h9 => h9) rfl (by decide +kernel) rfl rfl (Nat.le_of_ble_eq_true rfl) dX1_takeMet_38 (fun H locs hP hD hS => ?_)
      have hP : va_P (dC, dI) vwCl [(x0, .inr (1, [.ref a1, .ref a2, .ref a3, .int (nI (a - 1)), .int (nI b)])), (a1, .inr (0, [.ref b1, .int (nI nh)])), (b1, .inl (cA, 2100, .inl fh)), (a2, .inr (0, [.ref b2, .int (nI nr)])), (b2, .inl (cA, 2100, .inl fr)), (a3, .inr (0, [.ref b3, .int (nI (nk - 1))])), (b3, .inl (cA, 2100, .inl f_2))] H := hP
      have hD : va_D A [(x0, .inr (1, [.ref a1, .ref a2, .ref a3, .int (nI (a - 1)), .int (nI b)])), (a1, .inr (0, [.ref b1, .int (nI nh)])), (b1, .inl (cA, 2100, .inl fh)), (a2, .inr (0, [.ref b2, .int (nI nr)])), (b2, .inl (cA, 2100, .inl fr)), (a3, .inr (0, [.ref b3, .int (nI (nk - 1))])), (b3, .inl (cA, 2100, .inl f_2))] := hD
      refine lv_aload_n hx hb dX1_takeMet_41 rfl (lv_at hl 0 rfl) ?_
      refine lv_iconst (v := -1) hx hb dX1_takeMet_42 (by decide) ?_
      refine va_put (D := (dC, dI)) (ci := 1) (v := .int (-1)) (ty := .int) (C := RX1) (T := TX1) (N := 5) hx hb hts inX1_takeMet_X1 tyX1 tyX1_ok nmX1 hown hK hP hD hS 0 rfl rfl 4 (by decide) (hts (.fieldLink RX1 26 "QueueHall" "metPlace" "I") (List.mem_of_getElem? (i := 2) (by decide +kernel))) (fun _ h9 => h9) rfl (by decide +kernel) rfl rfl (Nat.le_of_ble_eq_true rfl) dX1_takeMet_43 (fun H locs hP hD hS => ?_)
      have hP : va_P (dC, dI) vwCl [(x0, .inr (1, [.ref a1, .ref a2, .ref a3, .int (nI (a - 1)), .int (-1)])), (a1, .inr (0, [.ref b1, .int (nI nh)])), (b1, .inl (cA, 2100, .inl fh)), (a2, .inr (0, [.ref b2, .int (nI nr)])), (b2, .inl (cA, 2100, .inl fr)), (a3, .inr (0, [.ref b3, .int (nI (nk - 1))])), (b3, .inl (cA, 2100, .inl f_2))] H := hP
      have hD : va_D A [(x0, .inr (1, [.ref a1, .ref a2, .ref a3, .int (nI (a - 1)), .int (-1)])), (a1, .inr (0, [.ref b1, .int (nI nh)])), (b1, .inl (cA, 2100, .inl fh)), (a2, .inr (0, [.ref b2, .int (nI nr)])), (b2, .inl (cA, 2100, .inl fr)), (a3, .inr (0, [.ref b3, .int (nI (nk - 1))])), (b3, .inl (cA, 2100, .inl f_2))] := hD
      refine lv_aload_n hx hb dX1_takeMet_46 rfl (lv_at hl 0 rfl) ?_
      refine va_get (D := (dC, dI)) (ci := 1) (v := .ref a3) (C := RX1) (T := TX1) (N := 5) hx hb hts inX1_takeMet_X1 hown hK hP 0 rfl rfl 2 (by decide) (hts (.fieldLink RX1 19 "QueueHall" "chainRow" "LQueueHall$Row;") (List.mem_of_getElem? (i := 1) (by decide +kernel))) (fun _ h9 => h9) rfl dX1_takeMet_47 ?_
      refine va_getN (D := (dC, dI)) (ci := 0) (v := .int (nI (nk - 1))) (C := RX0) (T := TX0) (N := 2) hx hb hts inX1_takeMet_X0 hown hK hP 5 rfl rfl 1 (by decide) (qN_count hN) (fun _ h9 => h9) rfl dX1_takeMet_50 ?_
      exact W.iret (v := nI (nk - 1)) hx hb hr (fun t ht hW => ⟨⟨nI (nk - 1), ((gh, nh), (gr, nr), (qDel gk b, nk - 1), nI (a - 1), -1), rfl, (by simp only [qTouch, if_neg hfi, if_neg (show ¬ (1 : Int32) = 0 by decide), if_pos True.intro, if_neg (nI_pos (show b < 2 ^ 31 by omega)), nI_clamp (show b < 2 ^ 31 by omega), if_pos (nI_lt (show b < a by omega) (show a < 2 ^ 31 by omega)), q_m1 (show 0 < a by omega)]), fh, fr, f_2, ha1, ha2, hg_2, by rw [ht]; exact hP, va_K.moved hW.alike hK, hD⟩, hS.F ht⟩) hS.2.2 dX1_takeMet_53

set_option maxHeartbeats 4000000 in
set_option maxRecDepth 100000 in
theorem c_Hall_putAtFinger (l : Launch) (dC : Nat → ClassId) (dI : Nat → Nat → Nat) (sz : Nat) (x0 a1 b1 a2 b2 a3 b3 nh nr nk : Nat) (cA : ClassId) (fh gh fr gr fk gk : Nat → Int32) (fi me : Int32) (p0 : Int32) (hn : nh + nr + nk < 2000) (ha1 : qAg nh fh gh) (ha2 : qAg nr fr gr) (ha3 : qAg nk fk gk) (hF : qFok fi me nk) (hfi : ¬ fi < 0) : Met l yX1_putAtFinger wsX1_putAtFinger ({ frames := 2, cells := 0, slots := 0, locals := 58 }) (va_Pc [.ref x0, .int p0] (fun U => U.heap.size = sz ∧ va_P (dC, dI) vwCl [(x0, .inr (1, [.ref a1, .ref a2, .ref a3, .int fi, .int me])), (a1, .inr (0, [.ref b1, .int (nI nh)])), (b1, .inl (cA, 2100, .inl fh)), (a2, .inr (0, [.ref b2, .int (nI nr)])), (b2, .inl (cA, 2100, .inl fr)), (a3, .inr (0, [.ref b3, .int (nI nk)])), (b3, .inl (cA, 2100, .inl fk))] U.heap ∧ va_K (dC, dI) vwCl [(cA, .int)] U ∧ va_D (fun _ => True) [(x0, .inr (1, [.ref a1, .ref a2, .ref a3, .int fi, .int me])), (a1, .inr (0, [.ref b1, .int (nI nh)])), (b1, .inl (cA, 2100, .inl fh)), (a2, .inr (0, [.ref b2, .int (nI nr)])), (b2, .inl (cA, 2100, .inl fr)), (a3, .inr (0, [.ref b3, .int (nI nk)])), (b3, .inl (cA, 2100, .inl fk))] ∧ qNest U)) (va_Qi (fun (r : Int32) (u : qS) => (r, u) = qTouch 2 p0 ((gh, nh), (gr, nr), (gk, nk), fi, me)) (at_H dC dI (va_A [(x0, .inr (1, [.ref a1, .ref a2, .ref a3, .int fi, .int me])), (a1, .inr (0, [.ref b1, .int (nI nh)])), (b1, .inl (cA, 2100, .inl fh)), (a2, .inr (0, [.ref b2, .int (nI nr)])), (b2, .inl (cA, 2100, .inl fr)), (a3, .inr (0, [.ref b3, .int (nI nk)])), (b3, .inl (cA, 2100, .inl fk))] sz) x0 a1 b1 a2 b2 a3 b3 cA) (va_A [(x0, .inr (1, [.ref a1, .ref a2, .ref a3, .int fi, .int me])), (a1, .inr (0, [.ref b1, .int (nI nh)])), (b1, .inl (cA, 2100, .inl fh)), (a2, .inr (0, [.ref b2, .int (nI nr)])), (b2, .inl (cA, 2100, .inl fr)), (a3, .inr (0, [.ref b3, .int (nI nk)])), (b3, .inl (cA, 2100, .inl fk))] sz)) 0 0 (va_A [(x0, .inr (1, [.ref a1, .ref a2, .ref a3, .int fi, .int me])), (a1, .inr (0, [.ref b1, .int (nI nh)])), (b1, .inl (cA, 2100, .inl fh)), (a2, .inr (0, [.ref b2, .int (nI nr)])), (b2, .inl (cA, 2100, .inl fr)), (a3, .inr (0, [.ref b3, .int (nI nk)])), (b3, .inl (cA, 2100, .inl fk))] sz) := by
  refine Met.ofW (cc := cX1_putAtFinger) (maxL := 2) (ret := (some .int)) (by decide +kernel) rfl ?_
  intro p e s m args below meth c s₁ B hml hv
  obtain ⟨rfl, hsz, hP, hK, hD0, hN⟩ := hv
  have hx := B.exec
  have hb := B.bytes
  have hr := B.returns
  have hts := atoms_spec (ws := wsX1_putAtFinger) B.pre
  have hown : s.vm.findClass RX1 = some m.cls := findClass_of_methodNamed B.named
  have hlocks := B.notSynchronized
  subst hsz
  have hD := hD0.self (sz := s.heap.size)
  generalize hAe : va_A [(x0, .inr (1, [.ref a1, .ref a2, .ref a3, .int fi, .int me])), (a1, .inr (0, [.ref b1, .int (nI nh)])), (b1, .inl (cA, 2100, .inl fh)), (a2, .inr (0, [.ref b2, .int (nI nr)])), (b2, .inl (cA, 2100, .inl fr)), (a3, .inr (0, [.ref b3, .int (nI nk)])), (b3, .inl (cA, 2100, .inl fk))] s.heap.size = A at hD ⊢
  have hA : ∀ q : Nat, s.heap.size ≤ q → A q := fun q h => by rw [← hAe]; exact Or.inr h
  have hS : va_S A s.heap s.heap [] := va_S.rf
  have hl := lv_entry ([.ref x0, .int p0]) (n := 2) (Nat.le_of_ble_eq_true rfl)
  rw [lg_entry_eq]
  generalize (lg_sl ([.ref x0, .int p0]) ++ List.replicate (2 - (lg_sl ([.ref x0, .int p0])).length) Slot.unset).toArray = ls at hl ⊢
  have hl : lv_has ls 2 [(0, .ref x0), (1, .int p0)] := hl
  obtain ⟨a, ha, rfl⟩ := qFok_a hF hfi
  · refine lv_aload_n hx hb dX1_putAtFinger_0 rfl (lv_at hl 0 rfl) ?_
    refine va_get (D := (dC, dI)) (ci := 1) (v := .ref a3) (C := RX1) (T := TX1) (N := 5) hx hb hts inX1_putAtFinger_X1 hown hK hP 0 rfl rfl 2 (by decide) (hts (.fieldLink RX1 19 "QueueHall" "chainRow" "LQueueHall$Row;") (List.mem_of_getElem? (i := 1) (by decide +kernel))) (fun _ h9 => h9) rfl dX1_putAtFinger_1 ?_
    refine lv_aload_n hx hb dX1_putAtFinger_4 rfl (lv_at hl 0 rfl) ?_
    refine va_get (D := (dC, dI)) (ci := 1) (v := .int (nI a)) (C := RX1) (T := TX1) (N := 5) hx hb hts inX1_putAtFinger_X1 hown hK hP 0 rfl rfl 3 (by decide) (hts (.fieldLink RX1 22 "QueueHall" "fingerPlace" "I") (List.mem_of_getElem? (i := 2) (by decide +kernel))) (fun _ h9 => h9) rfl dX1_putAtFinger_5 ?_
    refine lv_iload_n hx hb dX1_putAtFinger_8 rfl (lv_at hl 1 rfl) ?_
    have hPc := hP.sub (ws' := [(a3, .inr (0, [.ref b3, .int (nI nk)])), (b3, .inl (cA, 2100, .inl fk))]) [5, 6] rfl
    have hKc := hK.sub (tys' := [(cA, .int)]) [0] rfl
    have hDc := hD.sub (ws' := [(a3, .inr (0, [.ref b3, .int (nI nk)])), (b3, .inl (cA, 2100, .inl fk))]) [5, 6] (by decide) rfl
    have hFc := va_free (wc := [(a3, .inr (0, [.ref b3, .int (nI nk)])), (b3, .inl (cA, 2100, .inl fk))]) hD hS hA [5, 6] rfl
    refine va_calli (va_runVN (As := [.int (nI a), .int p0]) (rest := []) ⟨hx, hb, hml, hown, hts⟩ (c_Row_put l dC dI s.heap.size a3 b3 nk cA fk gk (nI a) p0 (by omega) ha3) ⟨va_cnB 2 hts gX1_putAtFinger_X0_put rfl rfl rfl (qN_put hN) (hts (.initialized RX0) (List.mem_of_getElem? (i := 5) (by decide +kernel))) (by decide +kernel) ⟨Nat.le_of_ble_eq_true rfl, Nat.le_of_ble_eq_true rfl⟩, (hts (.instanceMethod yX0_put) (List.mem_of_getElem? (i := 3) (by decide +kernel))), (hts (.selects RX0 yX0_put yX0_put) (List.mem_of_getElem? (i := 4) (by decide +kernel)))⟩ ⟨q_blW, va_recv hKc hPc (ci := 0) (q0 := 0) rfl rfl, fun U hU hW => ⟨rfl, by rw [hU], by rw [hU]; exact hPc, va_K.moved hW.alike hKc, hDc.weaken (fun _ _ _ _ => trivial)⟩⟩ rfl rfl hl.1 rfl (lv_room (Nat.le_of_ble_eq_true rfl)) dX1_putAtFinger_9 ⟨Nat.le_of_ble_eq_true rfl, Nat.le_of_ble_eq_true rfl⟩) hS (fun q _ h => hFc q h) hFc (fun r_1 u_1 t_1 H1 locs ht hvm hw hB hz1 hk1 hS => ?_)
    have hw := hw.trans (qPut_i (k := a) (by omega) (by omega))
    obtain ⟨rfl, rfl⟩ := Prod.mk.inj hw
    obtain ⟨f_1, hg_1, hP1, hK1, hD1⟩ := hB
    rw [ht] at hP1
    obtain ⟨hP, hD⟩ := q_join (wr := [(x0, .inr (1, [.ref a1, .ref a2, .ref a3, .int (nI a), .int me])), (a1, .inr (0, [.ref b1, .int (nI nh)])), (b1, .inl (cA, 2100, .inl fh)), (a2, .inr (0, [.ref b2, .int (nI nr)])), (b2, .inl (cA, 2100, .inl fr))]) (w1 := [(a3, .inr (0, [.ref b3, .int (nI (nk + 1))])), (b3, .inl (cA, 2100, .inl f_1))]) (wz := [(x0, .inr (1, [.ref a1, .ref a2, .ref a3, .int (nI a), .int me])), (a1, .inr (0, [.ref b1, .int (nI nh)])), (b1, .inl (cA, 2100, .inl fh)), (a2, .inr (0, [.ref b2, .int (nI nr)])), (b2, .inl (cA, 2100, .inl fr)), (a3, .inr (0, [.ref b3, .int (nI (nk + 1))])), (b3, .inl (cA, 2100, .inl f_1))]) hP hD [5, 6] [0, 1, 2, 3, 4] [0, 1, 2, 3, 4, 5, 6] rfl rfl (by decide) (by decide) hk1 hFc hP1 hD1 rfl rfl (by decide)
    generalize H1 = H at hP hS ⊢
    refine lv_if_ne (tgt := 18) hx hb dX1_putAtFinger_12 (by decide) (fun c_2 => ?_) (fun c_0 => absurd c_0 (show ¬ (1 : Int32) = (0 : Int32) from (by decide)))
    refine lv_aload_n hx hb dX1_putAtFinger_18 rfl (lv_at hl 0 rfl) ?_
    refine lv_dup hx hb dX1_putAtFinger_19 rfl ?_
    refine va_get (D := (dC, dI)) (ci := 1) (v := .int (nI a)) (C := RX1) (T := TX1) (N := 5) hx hb hts inX1_putAtFinger_X1 hown hK hP 0 rfl rfl 3 (by decide) (hts (.fieldLink RX1 22 "QueueHall" "fingerPlace" "I") (List.mem_of_getElem? (i := 2) (by decide +kernel))) (fun _ h9 => h9) rfl dX1_putAtFinger_20 ?_
    refine lv_iconst (v := 1) hx hb dX1_putAtFinger_23 (by decide) ?_
    refine lv_iadd hx hb dX1_putAtFinger_24 ?_
    refine q_top (y := nI (a + 1)) (nI_1 a) ?_
    refine va_put (D := (dC, dI)) (ci := 1) (v := .int (nI (a + 1))) (ty := .int) (C := RX1) (T := TX1) (N := 5) hx hb hts inX1_putAtFinger_X1 tyX1 tyX1_ok nmX1 hown hK hP hD hS 0 rfl rfl 3 (by decide) (hts (.fieldLink RX1 22 "QueueHall" "fingerPlace" "I") (List.mem_of_getElem? (i := 2) (by decide +kernel))) (fun _ h9 => h9) rfl (by decide +kernel) rfl rfl (Nat.le_of_ble_eq_true rfl) dX1_putAtFinger_25 (fun H locs hP hD hS => ?_)
    have hP : va_P (dC, dI) vwCl [(x0, .inr (1, [.ref a1, .ref a2, .ref a3, .int (nI (a + 1)), .int me])), (a1, .inr (0, [.ref b1, .int (nI nh)])), (b1, .inl (cA, 2100, .inl fh)), (a2, .inr (0, [.ref b2, .int (nI nr)])), (b2, .inl (cA, 2100, .inl fr)), (a3, .inr (0, [.ref b3, .int (nI (nk + 1))])), (b3, .inl (cA, 2100, .inl f_1))] H := hP
    have hD : va_D A [(x0, .inr (1, [.ref a1, .ref a2, .ref a3, .int (nI (a + 1)), .int me])), (a1, .inr (0, [.ref b1, .int (nI nh)])), (b1, .inl (cA, 2100, .inl fh)), (a2, .inr (0, [.ref b2, .int (nI nr)])), (b2, .inl (cA, 2100, .inl fr)), (a3, .inr (0, [.ref b3, .int (nI (nk + 1))])), (b3, .inl (cA, 2100, .inl f_1))] := hD
    refine lv_aload_n hx hb dX1_putAtFinger_28 rfl (lv_at hl 0 rfl) ?_
    refine lv_iconst (v := -1) hx hb dX1_putAtFinger_29 (by decide) ?_
    refine va_put (D := (dC, dI)) (ci := 1) (v := .int (-1)) (ty := .int) (C := RX1) (T := TX1) (N := 5) hx hb hts inX1_putAtFinger_X1 tyX1 tyX1_ok nmX1 hown hK hP hD hS 0 rfl rfl 4 (by decide) (hts (.fieldLink RX1 26 "QueueHall" "metPlace" "I") (List.mem_of_getElem? (i := 17) (by decide +kernel))) (fun _ h9 => h9) rfl (by decide +kernel) rfl rfl (Nat.le_of_ble_eq_true rfl) dX1_putAtFinger_30 (fun H locs hP hD hS => ?_)
    have hP : va_P (dC, dI) vwCl [(x0, .inr (1, [.ref a1, .ref a2, .ref a3, .int (nI (a + 1)), .int (-1)])), (a1, .inr (0, [.ref b1, .int (nI nh)])), (b1, .inl (cA, 2100, .inl fh)), (a2, .inr (0, [.ref b2, .int (nI nr)])), (b2, .inl (cA, 2100, .inl fr)), (a3, .inr (0, [.ref b3, .int (nI (nk + 1))])), (b3, .inl (cA, 2100, .inl f_1))] H := hP
    have hD : va_D A [(x0, .inr (1, [.ref a1, .ref a2, .ref a3, .int (nI (a + 1)), .int (-1)])), (a1, .inr (0, [.ref b1, .int (nI nh)])), (b1, .inl (cA, 2100, .inl fh)), (a2, .inr (0, [.ref b2, .int (nI nr)])), (b2, .inl (cA, 2100, .inl fr)), (a3, .inr (0, [.ref b3, .int (nI (nk + 1))])), (b3, .inl (cA, 2100, .inl f_1))] := hD
    refine lv_aload_n hx hb dX1_putAtFinger_33 rfl (lv_at hl 0 rfl) ?_
    refine va_get (D := (dC, dI)) (ci := 1) (v := .ref a3) (C := RX1) (T := TX1) (N := 5) hx hb hts inX1_putAtFinger_X1 hown hK hP 0 rfl rfl 2 (by decide) (hts (.fieldLink RX1 19 "QueueHall" "chainRow" "LQueueHall$Row;") (List.mem_of_getElem? (i := 1) (by decide +kernel))) (fun _ h9 => h9) rfl dX1_putAtFinger_34 ?_
    refine va_getN (D := (dC, dI)) (ci := 0) (v := .int (nI (nk + 1))) (C := RX0) (T := TX0) (N := 2) hx hb hts inX1_putAtFinger_X0 hown hK hP 5 rfl rfl 1 (by decide) (qN_count hN) (fun _ h9 => h9) rfl dX1_putAtFinger_37 ?_
    exact W.iret (v := nI (nk + 1)) hx hb hr (fun t ht hW => ⟨⟨nI (nk + 1), ((gh, nh), (gr, nr), (qIns gk a p0, nk + 1), nI (a + 1), -1), rfl, (by simp only [qTouch, if_neg hfi, if_neg (show ¬ (2 : Int32) = 0 by decide), if_neg (show ¬ (2 : Int32) = 1 by decide), if_pos True.intro, nI_clamp (show a < 2 ^ 31 by omega), nI_1]), fh, fr, f_1, ha1, ha2, hg_1, by rw [ht]; exact hP, va_K.moved hW.alike hK, hD⟩, hS.F ht⟩) hS.2.2 dX1_putAtFinger_40

set_option maxHeartbeats 4000000 in
set_option maxRecDepth 100000 in
theorem c_Hall_touch (l : Launch) (dC : Nat → ClassId) (dI : Nat → Nat → Nat) (sz : Nat) (x0 a1 b1 a2 b2 a3 b3 nh nr nk : Nat) (cA : ClassId) (fh gh fr gr fk gk : Nat → Int32) (fi me : Int32) (p0 p1 : Int32) (hn : nh + nr + nk < 2000) (ha1 : qAg nh fh gh) (ha2 : qAg nr fr gr) (ha3 : qAg nk fk gk) (hF : qFok fi me nk) : Met l yX1_touch wsX1_touch ({ frames := 3, cells := 0, slots := 0, locals := 90 }) (va_Pc [.ref x0, .int p0, .int p1] (fun U => U.heap.size = sz ∧ va_P (dC, dI) vwCl [(x0, .inr (1, [.ref a1, .ref a2, .ref a3, .int fi, .int me])), (a1, .inr (0, [.ref b1, .int (nI nh)])), (b1, .inl (cA, 2100, .inl fh)), (a2, .inr (0, [.ref b2, .int (nI nr)])), (b2, .inl (cA, 2100, .inl fr)), (a3, .inr (0, [.ref b3, .int (nI nk)])), (b3, .inl (cA, 2100, .inl fk))] U.heap ∧ va_K (dC, dI) vwCl [(cA, .int)] U ∧ va_D (fun _ => True) [(x0, .inr (1, [.ref a1, .ref a2, .ref a3, .int fi, .int me])), (a1, .inr (0, [.ref b1, .int (nI nh)])), (b1, .inl (cA, 2100, .inl fh)), (a2, .inr (0, [.ref b2, .int (nI nr)])), (b2, .inl (cA, 2100, .inl fr)), (a3, .inr (0, [.ref b3, .int (nI nk)])), (b3, .inl (cA, 2100, .inl fk))] ∧ qNest U)) (va_Qi (fun (r : Int32) (u : qS) => (r, u) = qTouch p0 p1 ((gh, nh), (gr, nr), (gk, nk), fi, me)) (at_H dC dI (va_A [(x0, .inr (1, [.ref a1, .ref a2, .ref a3, .int fi, .int me])), (a1, .inr (0, [.ref b1, .int (nI nh)])), (b1, .inl (cA, 2100, .inl fh)), (a2, .inr (0, [.ref b2, .int (nI nr)])), (b2, .inl (cA, 2100, .inl fr)), (a3, .inr (0, [.ref b3, .int (nI nk)])), (b3, .inl (cA, 2100, .inl fk))] sz) x0 a1 b1 a2 b2 a3 b3 cA) (va_A [(x0, .inr (1, [.ref a1, .ref a2, .ref a3, .int fi, .int me])), (a1, .inr (0, [.ref b1, .int (nI nh)])), (b1, .inl (cA, 2100, .inl fh)), (a2, .inr (0, [.ref b2, .int (nI nr)])), (b2, .inl (cA, 2100, .inl fr)), (a3, .inr (0, [.ref b3, .int (nI nk)])), (b3, .inl (cA, 2100, .inl fk))] sz)) 0 0 (va_A [(x0, .inr (1, [.ref a1, .ref a2, .ref a3, .int fi, .int me])), (a1, .inr (0, [.ref b1, .int (nI nh)])), (b1, .inl (cA, 2100, .inl fh)), (a2, .inr (0, [.ref b2, .int (nI nr)])), (b2, .inl (cA, 2100, .inl fr)), (a3, .inr (0, [.ref b3, .int (nI nk)])), (b3, .inl (cA, 2100, .inl fk))] sz) := by
  refine Met.ofW (cc := cX1_touch) (maxL := 3) (ret := (some .int)) (by decide +kernel) rfl ?_
  intro p e s m args below meth c s₁ B hml hv
  obtain ⟨rfl, hsz, hP, hK, hD0, hN⟩ := hv
  have hx := B.exec
  have hb := B.bytes
  have hr := B.returns
  have hts := atoms_spec (ws := wsX1_touch) B.pre
  have hown : s.vm.findClass RX1 = some m.cls := findClass_of_methodNamed B.named
  have hlocks := B.notSynchronized
  subst hsz
  have hD := hD0.self (sz := s.heap.size)
  generalize hAe : va_A [(x0, .inr (1, [.ref a1, .ref a2, .ref a3, .int fi, .int me])), (a1, .inr (0, [.ref b1, .int (nI nh)])), (b1, .inl (cA, 2100, .inl fh)), (a2, .inr (0, [.ref b2, .int (nI nr)])), (b2, .inl (cA, 2100, .inl fr)), (a3, .inr (0, [.ref b3, .int (nI nk)])), (b3, .inl (cA, 2100, .inl fk))] s.heap.size = A at hD ⊢
  have hA : ∀ q : Nat, s.heap.size ≤ q → A q := fun q h => by rw [← hAe]; exact Or.inr h
  have hS : va_S A s.heap s.heap [] := va_S.rf
  have hl := lv_entry ([.ref x0, .int p0, .int p1]) (n := 3) (Nat.le_of_ble_eq_true rfl)
  rw [lg_entry_eq]
  generalize (lg_sl ([.ref x0, .int p0, .int p1]) ++ List.replicate (3 - (lg_sl ([.ref x0, .int p0, .int p1])).length) Slot.unset).toArray = ls at hl ⊢
  have hl : lv_has ls 3 [(0, .ref x0), (1, .int p0), (2, .int p1)] := hl
  rcases q_tw fi p0 with hfi | ⟨hfi, rfl⟩ | ⟨hfi, rfl⟩ | ⟨hfi, rfl⟩ | ⟨hfi, w0, w1, w2⟩
  · refine lv_aload_n hx hb dX1_touch_0 rfl (lv_at hl 0 rfl) ?_
    refine va_get (D := (dC, dI)) (ci := 1) (v := .int fi) (C := RX1) (T := TX1) (N := 5) hx hb hts inX1_touch_X1 hown hK hP 0 rfl rfl 3 (by decide) (hts (.fieldLink RX1 22 "QueueHall" "fingerPlace" "I") (List.mem_of_getElem? (i := 1) (by decide +kernel))) (fun _ h9 => h9) rfl dX1_touch_1 ?_
    refine lv_iconst (v := -1) hx hb dX1_touch_4 (by decide) ?_
    refine lv_icmp_ne (tgt := 10) hx hb dX1_touch_5 (by decide) (fun c_0 => absurd (show fi = (-1 : Int32) from (qFok_n hF hfi (by omega))) c_0) (fun c_1 => ?_)
    refine lv_iconst (v := -1) hx hb dX1_touch_8 (by decide) ?_
    exact W.iret (v := -1) hx hb hr (fun t ht hW => ⟨⟨-1, ((gh, nh), (gr, nr), (gk, nk), fi, me), rfl, (by simp only [qTouch, if_pos hfi]), fh, fr, fk, ha1, ha2, ha3, by rw [ht]; exact hP, va_K.moved hW.alike hK, hD⟩, hS.F ht⟩) hS.2.2 dX1_touch_9
  · refine lv_aload_n hx hb dX1_touch_0 rfl (lv_at hl 0 rfl) ?_
    refine va_get (D := (dC, dI)) (ci := 1) (v := .int fi) (C := RX1) (T := TX1) (N := 5) hx hb hts inX1_touch_X1 hown hK hP 0 rfl rfl 3 (by decide) (hts (.fieldLink RX1 22 "QueueHall" "fingerPlace" "I") (List.mem_of_getElem? (i := 1) (by decide +kernel))) (fun _ h9 => h9) rfl dX1_touch_1 ?_
    refine lv_iconst (v := -1) hx hb dX1_touch_4 (by decide) ?_
    refine lv_icmp_ne (tgt := 10) hx hb dX1_touch_5 (by decide) (fun c_2 => ?_) (fun c_0 => absurd c_0 (show ¬ fi = (-1 : Int32) from (qFok_nn hfi)))
    refine lv_iload_n hx hb dX1_touch_10 rfl (lv_at hl 1 rfl) ?_
    refine lv_tableIn (off := 25) (tgt := 36) hx hb dX1_touch_11 (by decide) (by decide) (by decide +kernel) (by decide) ?_
    refine lv_aload_n hx hb dX1_touch_36 rfl (lv_at hl 0 rfl) ?_
    refine lv_iload_n hx hb dX1_touch_37 rfl (lv_at hl 2 rfl) ?_
    have hPc := hP.sub (ws' := [(x0, .inr (1, [.ref a1, .ref a2, .ref a3, .int fi, .int me])), (a1, .inr (0, [.ref b1, .int (nI nh)])), (b1, .inl (cA, 2100, .inl fh)), (a2, .inr (0, [.ref b2, .int (nI nr)])), (b2, .inl (cA, 2100, .inl fr)), (a3, .inr (0, [.ref b3, .int (nI nk)])), (b3, .inl (cA, 2100, .inl fk))]) [0, 1, 2, 3, 4, 5, 6] rfl
    have hKc := hK.sub (tys' := [(cA, .int)]) [0] rfl
    have hDc := hD.sub (ws' := [(x0, .inr (1, [.ref a1, .ref a2, .ref a3, .int fi, .int me])), (a1, .inr (0, [.ref b1, .int (nI nh)])), (b1, .inl (cA, 2100, .inl fh)), (a2, .inr (0, [.ref b2, .int (nI nr)])), (b2, .inl (cA, 2100, .inl fr)), (a3, .inr (0, [.ref b3, .int (nI nk)])), (b3, .inl (cA, 2100, .inl fk))]) [0, 1, 2, 3, 4, 5, 6] (by decide) rfl
    have hFc := va_free (wc := [(x0, .inr (1, [.ref a1, .ref a2, .ref a3, .int fi, .int me])), (a1, .inr (0, [.ref b1, .int (nI nh)])), (b1, .inl (cA, 2100, .inl fh)), (a2, .inr (0, [.ref b2, .int (nI nr)])), (b2, .inl (cA, 2100, .inl fr)), (a3, .inr (0, [.ref b3, .int (nI nk)])), (b3, .inl (cA, 2100, .inl fk))]) hD hS hA [0, 1, 2, 3, 4, 5, 6] rfl
    refine va_calli (va_runV (As := [.int p1]) (rest := []) ⟨hx, hb, hml, hown, hts⟩ (c_Hall_changeMet l dC dI s.heap.size x0 a1 b1 a2 b2 a3 b3 nh nr nk cA fh gh fr gr fk gk fi me p1 (by omega) ha1 ha2 ha3 hF hfi) (cwV 1 hts gX1_touch_X1_changeMet_v rfl rfl rfl (by decide +kernel) ⟨Nat.le_of_ble_eq_true rfl, Nat.le_of_ble_eq_true rfl⟩) ⟨q_blWN, va_recv hKc hPc (ci := 1) (q0 := 0) rfl rfl, fun U hU hW => ⟨rfl, by rw [hU], by rw [hU]; exact hPc, va_K.moved hW.alike hKc, hDc.weaken (fun _ _ _ _ => trivial), hN.warm hW⟩⟩ rfl rfl hl.1 rfl (lv_room (Nat.le_of_ble_eq_true rfl)) dX1_touch_38 ⟨Nat.le_of_ble_eq_true rfl, Nat.le_of_ble_eq_true rfl⟩) hS (fun q _ h => hFc q h) hFc (fun r_3 u_3 t_3 H1 locs ht hvm hw hB hz1 hk1 hS => ?_)
    obtain ⟨⟨gh_3, nh_3⟩, ⟨gr_3, nr_3⟩, ⟨gk_3, nk_3⟩, fi_3, me_3⟩ := u_3
    obtain ⟨fh_3, fr_3, fk_3, hh_3, hr_3, hk_3, hP1, hK1, hD1⟩ := hB
    rw [ht] at hP1
    obtain ⟨hP, hD⟩ := q_join (wr := []) (w1 := [(x0, .inr (1, [.ref a1, .ref a2, .ref a3, .int fi_3, .int me_3])), (a1, .inr (0, [.ref b1, .int (nI nh_3)])), (b1, .inl (cA, 2100, .inl fh_3)), (a2, .inr (0, [.ref b2, .int (nI nr_3)])), (b2, .inl (cA, 2100, .inl fr_3)), (a3, .inr (0, [.ref b3, .int (nI nk_3)])), (b3, .inl (cA, 2100, .inl fk_3))]) (wz := [(x0, .inr (1, [.ref a1, .ref a2, .ref a3, .int fi_3, .int me_3])), (a1, .inr (0, [.ref b1, .int (nI nh_3)])), (b1, .inl (cA, 2100, .inl fh_3)), (a2, .inr (0, [.ref b2, .int (nI nr_3)])), (b2, .inl (cA, 2100, .inl fr_3)), (a3, .inr (0, [.ref b3, .int (nI nk_3)])), (b3, .inl (cA, 2100, .inl fk_3))]) hP hD [0, 1, 2, 3, 4, 5, 6] [] [0, 1, 2, 3, 4, 5, 6] rfl rfl (by decide) (by decide) hk1 hFc hP1 hD1 rfl rfl (by decide)
    generalize H1 = H at hP hS ⊢
    exact W.iret (v := r_3) hx hb hr (fun t ht hW => ⟨⟨r_3, ((gh_3, nh_3), (gr_3, nr_3), (gk_3, nk_3), fi_3, me_3), rfl, hw, fh_3, fr_3, fk_3, hh_3, hr_3, hk_3, by rw [ht]; exact hP, va_K.moved hW.alike hK, hD⟩, hS.F ht⟩) hS.2.2 dX1_touch_41
  · refine lv_aload_n hx hb dX1_touch_0 rfl (lv_at hl 0 rfl) ?_
    refine va_get (D := (dC, dI)) (ci := 1) (v := .int fi) (C := RX1) (T := TX1) (N := 5) hx hb hts inX1_touch_X1 hown hK hP 0 rfl rfl 3 (by decide) (hts (.fieldLink RX1 22 "QueueHall" "fingerPlace" "I") (List.mem_of_getElem? (i := 1) (by decide +kernel))) (fun _ h9 => h9) rfl dX1_touch_1 ?_
    refine lv_iconst (v := -1) hx hb dX1_touch_4 (by decide) ?_
    refine lv_icmp_ne (tgt := 10) hx hb dX1_touch_5 (by decide) (fun c_4 => ?_) (fun c_0 => absurd c_0 (show ¬ fi = (-1 : Int32) from (qFok_nn hfi)))
    refine lv_iload_n hx hb dX1_touch_10 rfl (lv_at hl 1 rfl) ?_
    refine lv_tableIn (off := 31) (tgt := 42) hx hb dX1_touch_11 (by decide) (by decide) (by decide +kernel) (by decide) ?_
    refine lv_aload_n hx hb dX1_touch_42 rfl (lv_at hl 0 rfl) ?_
    have hPc := hP.sub (ws' := [(x0, .inr (1, [.ref a1, .ref a2, .ref a3, .int fi, .int me])), (a1, .inr (0, [.ref b1, .int (nI nh)])), (b1, .inl (cA, 2100, .inl fh)), (a2, .inr (0, [.ref b2, .int (nI nr)])), (b2, .inl (cA, 2100, .inl fr)), (a3, .inr (0, [.ref b3, .int (nI nk)])), (b3, .inl (cA, 2100, .inl fk))]) [0, 1, 2, 3, 4, 5, 6] rfl
    have hKc := hK.sub (tys' := [(cA, .int)]) [0] rfl
    have hDc := hD.sub (ws' := [(x0, .inr (1, [.ref a1, .ref a2, .ref a3, .int fi, .int me])), (a1, .inr (0, [.ref b1, .int (nI nh)])), (b1, .inl (cA, 2100, .inl fh)), (a2, .inr (0, [.ref b2, .int (nI nr)])), (b2, .inl (cA, 2100, .inl fr)), (a3, .inr (0, [.ref b3, .int (nI nk)])), (b3, .inl (cA, 2100, .inl fk))]) [0, 1, 2, 3, 4, 5, 6] (by decide) rfl
    have hFc := va_free (wc := [(x0, .inr (1, [.ref a1, .ref a2, .ref a3, .int fi, .int me])), (a1, .inr (0, [.ref b1, .int (nI nh)])), (b1, .inl (cA, 2100, .inl fh)), (a2, .inr (0, [.ref b2, .int (nI nr)])), (b2, .inl (cA, 2100, .inl fr)), (a3, .inr (0, [.ref b3, .int (nI nk)])), (b3, .inl (cA, 2100, .inl fk))]) hD hS hA [0, 1, 2, 3, 4, 5, 6] rfl
    refine va_calli (va_runV (As := []) (rest := []) ⟨hx, hb, hml, hown, hts⟩ (c_Hall_takeMet l dC dI s.heap.size x0 a1 b1 a2 b2 a3 b3 nh nr nk cA fh gh fr gr fk gk fi me (by omega) ha1 ha2 ha3 hF hfi) (cwV 0 hts gX1_touch_X1_takeMet_v rfl rfl rfl (by decide +kernel) ⟨Nat.le_of_ble_eq_true rfl, Nat.le_of_ble_eq_true rfl⟩) ⟨q_blWN, va_recv hKc hPc (ci := 1) (q0 := 0) rfl rfl, fun U hU hW => ⟨rfl, by rw [hU], by rw [hU]; exact hPc, va_K.moved hW.alike hKc, hDc.weaken (fun _ _ _ _ => trivial), hN.warm hW⟩⟩ rfl rfl hl.1 rfl (lv_room (Nat.le_of_ble_eq_true rfl)) dX1_touch_43 ⟨Nat.le_of_ble_eq_true rfl, Nat.le_of_ble_eq_true rfl⟩) hS (fun q _ h => hFc q h) hFc (fun r_5 u_5 t_5 H1 locs ht hvm hw hB hz1 hk1 hS => ?_)
    obtain ⟨⟨gh_5, nh_5⟩, ⟨gr_5, nr_5⟩, ⟨gk_5, nk_5⟩, fi_5, me_5⟩ := u_5
    obtain ⟨fh_5, fr_5, fk_5, hh_5, hr_5, hk_5, hP1, hK1, hD1⟩ := hB
    rw [ht] at hP1
    obtain ⟨hP, hD⟩ := q_join (wr := []) (w1 := [(x0, .inr (1, [.ref a1, .ref a2, .ref a3, .int fi_5, .int me_5])), (a1, .inr (0, [.ref b1, .int (nI nh_5)])), (b1, .inl (cA, 2100, .inl fh_5)), (a2, .inr (0, [.ref b2, .int (nI nr_5)])), (b2, .inl (cA, 2100, .inl fr_5)), (a3, .inr (0, [.ref b3, .int (nI nk_5)])), (b3, .inl (cA, 2100, .inl fk_5))]) (wz := [(x0, .inr (1, [.ref a1, .ref a2, .ref a3, .int fi_5, .int me_5])), (a1, .inr (0, [.ref b1, .int (nI nh_5)])), (b1, .inl (cA, 2100, .inl fh_5)), (a2, .inr (0, [.ref b2, .int (nI nr_5)])), (b2, .inl (cA, 2100, .inl fr_5)), (a3, .inr (0, [.ref b3, .int (nI nk_5)])), (b3, .inl (cA, 2100, .inl fk_5))]) hP hD [0, 1, 2, 3, 4, 5, 6] [] [0, 1, 2, 3, 4, 5, 6] rfl rfl (by decide) (by decide) hk1 hFc hP1 hD1 rfl rfl (by decide)
    generalize H1 = H at hP hS ⊢
    exact W.iret (v := r_5) hx hb hr (fun t ht hW => ⟨⟨r_5, ((gh_5, nh_5), (gr_5, nr_5), (gk_5, nk_5), fi_5, me_5), rfl, (hw.trans (by simp only [qTouch, if_neg (show ¬ (1 : Int32) = 0 by decide), if_pos True.intro])), fh_5, fr_5, fk_5, hh_5, hr_5, hk_5, by rw [ht]; exact hP, va_K.moved hW.alike hK, hD⟩, hS.F ht⟩) hS.2.2 dX1_touch_46
  · refine lv_aload_n hx hb dX1_touch_0 rfl (lv_at hl 0 rfl) ?_
    refine va_get (D := (dC, dI)) (ci := 1) (v := .int fi) (C := RX1) (T := TX1) (N := 5) hx hb hts inX1_touch_X1 hown hK hP 0 rfl rfl 3 (by decide) (hts (.fieldLink RX1 22 "QueueHall" "fingerPlace" "I") (List.mem_of_getElem? (i := 1) (by decide +kernel))) (fun _ h9 => h9) rfl dX1_touch_1 ?_
    refine lv_iconst (v := -1) hx hb dX1_touch_4 (by decide) ?_
    refine lv_icmp_ne (tgt := 10) hx hb dX1_touch_5 (by decide) (fun c_6 => ?_) (fun c_0 => absurd c_0 (show ¬ fi = (-1 : Int32) from (qFok_nn hfi)))
    refine lv_iload_n hx hb dX1_touch_10 rfl (lv_at hl 1 rfl) ?_
    refine lv_tableIn (off := 36) (tgt := 47) hx hb dX1_touch_11 (by decide) (by decide) (by decide +kernel) (by decide) ?_
    refine lv_aload_n hx hb dX1_touch_47 rfl (lv_at hl 0 rfl) ?_
    refine lv_iload_n hx hb dX1_touch_48 rfl (lv_at hl 2 rfl) ?_
    have hPc := hP.sub (ws' := [(x0, .inr (1, [.ref a1, .ref a2, .ref a3, .int fi, .int me])), (a1, .inr (0, [.ref b1, .int (nI nh)])), (b1, .inl (cA, 2100, .inl fh)), (a2, .inr (0, [.ref b2, .int (nI nr)])), (b2, .inl (cA, 2100, .inl fr)), (a3, .inr (0, [.ref b3, .int (nI nk)])), (b3, .inl (cA, 2100, .inl fk))]) [0, 1, 2, 3, 4, 5, 6] rfl
    have hKc := hK.sub (tys' := [(cA, .int)]) [0] rfl
    have hDc := hD.sub (ws' := [(x0, .inr (1, [.ref a1, .ref a2, .ref a3, .int fi, .int me])), (a1, .inr (0, [.ref b1, .int (nI nh)])), (b1, .inl (cA, 2100, .inl fh)), (a2, .inr (0, [.ref b2, .int (nI nr)])), (b2, .inl (cA, 2100, .inl fr)), (a3, .inr (0, [.ref b3, .int (nI nk)])), (b3, .inl (cA, 2100, .inl fk))]) [0, 1, 2, 3, 4, 5, 6] (by decide) rfl
    have hFc := va_free (wc := [(x0, .inr (1, [.ref a1, .ref a2, .ref a3, .int fi, .int me])), (a1, .inr (0, [.ref b1, .int (nI nh)])), (b1, .inl (cA, 2100, .inl fh)), (a2, .inr (0, [.ref b2, .int (nI nr)])), (b2, .inl (cA, 2100, .inl fr)), (a3, .inr (0, [.ref b3, .int (nI nk)])), (b3, .inl (cA, 2100, .inl fk))]) hD hS hA [0, 1, 2, 3, 4, 5, 6] rfl
    refine va_calli (va_runV (As := [.int p1]) (rest := []) ⟨hx, hb, hml, hown, hts⟩ (c_Hall_putAtFinger l dC dI s.heap.size x0 a1 b1 a2 b2 a3 b3 nh nr nk cA fh gh fr gr fk gk fi me p1 (by omega) ha1 ha2 ha3 hF hfi) (cwV 1 hts gX1_touch_X1_putAtFinger_v rfl rfl rfl (by decide +kernel) ⟨Nat.le_of_ble_eq_true rfl, Nat.le_of_ble_eq_true rfl⟩) ⟨q_blWN, va_recv hKc hPc (ci := 1) (q0 := 0) rfl rfl, fun U hU hW => ⟨rfl, by rw [hU], by rw [hU]; exact hPc, va_K.moved hW.alike hKc, hDc.weaken (fun _ _ _ _ => trivial), hN.warm hW⟩⟩ rfl rfl hl.1 rfl (lv_room (Nat.le_of_ble_eq_true rfl)) dX1_touch_49 ⟨Nat.le_of_ble_eq_true rfl, Nat.le_of_ble_eq_true rfl⟩) hS (fun q _ h => hFc q h) hFc (fun r_7 u_7 t_7 H1 locs ht hvm hw hB hz1 hk1 hS => ?_)
    obtain ⟨⟨gh_7, nh_7⟩, ⟨gr_7, nr_7⟩, ⟨gk_7, nk_7⟩, fi_7, me_7⟩ := u_7
    obtain ⟨fh_7, fr_7, fk_7, hh_7, hr_7, hk_7, hP1, hK1, hD1⟩ := hB
    rw [ht] at hP1
    obtain ⟨hP, hD⟩ := q_join (wr := []) (w1 := [(x0, .inr (1, [.ref a1, .ref a2, .ref a3, .int fi_7, .int me_7])), (a1, .inr (0, [.ref b1, .int (nI nh_7)])), (b1, .inl (cA, 2100, .inl fh_7)), (a2, .inr (0, [.ref b2, .int (nI nr_7)])), (b2, .inl (cA, 2100, .inl fr_7)), (a3, .inr (0, [.ref b3, .int (nI nk_7)])), (b3, .inl (cA, 2100, .inl fk_7))]) (wz := [(x0, .inr (1, [.ref a1, .ref a2, .ref a3, .int fi_7, .int me_7])), (a1, .inr (0, [.ref b1, .int (nI nh_7)])), (b1, .inl (cA, 2100, .inl fh_7)), (a2, .inr (0, [.ref b2, .int (nI nr_7)])), (b2, .inl (cA, 2100, .inl fr_7)), (a3, .inr (0, [.ref b3, .int (nI nk_7)])), (b3, .inl (cA, 2100, .inl fk_7))]) hP hD [0, 1, 2, 3, 4, 5, 6] [] [0, 1, 2, 3, 4, 5, 6] rfl rfl (by decide) (by decide) hk1 hFc hP1 hD1 rfl rfl (by decide)
    generalize H1 = H at hP hS ⊢
    exact W.iret (v := r_7) hx hb hr (fun t ht hW => ⟨⟨r_7, ((gh_7, nh_7), (gr_7, nr_7), (gk_7, nk_7), fi_7, me_7), rfl, hw, fh_7, fr_7, fk_7, hh_7, hr_7, hk_7, by rw [ht]; exact hP, va_K.moved hW.alike hK, hD⟩, hS.F ht⟩) hS.2.2 dX1_touch_52
  · refine lv_aload_n hx hb dX1_touch_0 rfl (lv_at hl 0 rfl) ?_
    refine va_get (D := (dC, dI)) (ci := 1) (v := .int fi) (C := RX1) (T := TX1) (N := 5) hx hb hts inX1_touch_X1 hown hK hP 0 rfl rfl 3 (by decide) (hts (.fieldLink RX1 22 "QueueHall" "fingerPlace" "I") (List.mem_of_getElem? (i := 1) (by decide +kernel))) (fun _ h9 => h9) rfl dX1_touch_1 ?_
    refine lv_iconst (v := -1) hx hb dX1_touch_4 (by decide) ?_
    refine lv_icmp_ne (tgt := 10) hx hb dX1_touch_5 (by decide) (fun c_8 => ?_) (fun c_0 => absurd c_0 (show ¬ fi = (-1 : Int32) from (qFok_nn hfi)))
    refine lv_iload_n hx hb dX1_touch_10 rfl (lv_at hl 1 rfl) ?_
    refine lv_tableOut (tgt := 53) hx hb dX1_touch_11 (q_wo w0 w1 w2) (by decide) ?_
    refine lv_iconst (v := -1) hx hb dX1_touch_53 (by decide) ?_
    exact W.iret (v := -1) hx hb hr (fun t ht hW => ⟨⟨-1, ((gh, nh), (gr, nr), (gk, nk), fi, me), rfl, (by simp only [qTouch, if_neg hfi, if_neg w0, if_neg w1, if_neg w2]), fh, fr, fk, ha1, ha2, ha3, by rw [ht]; exact hP, va_K.moved hW.alike hK, hD⟩, hS.F ht⟩) hS.2.2 dX1_touch_54

set_option maxHeartbeats 4000000 in
set_option maxRecDepth 100000 in
theorem c_Hall_empty (l : Launch) (dC : Nat → ClassId) (dI : Nat → Nat → Nat) (sz : Nat) (x0 a1 b1 a2 b2 a3 b3 nh nr nk : Nat) (cA : ClassId) (fh gh fr gr fk gk : Nat → Int32) (fi me : Int32) (hn : nh + nr + nk < 2000) (ha1 : qAg nh fh gh) (ha2 : qAg nr fr gr) (ha3 : qAg nk fk gk) (hF : qFok fi me nk) : Met l yX1_empty wsX1_empty ({ frames := 2, cells := 0, slots := 0, locals := 58 }) (va_Pc [.ref x0] (fun U => U.heap.size = sz ∧ va_P (dC, dI) vwCl [(x0, .inr (1, [.ref a1, .ref a2, .ref a3, .int fi, .int me])), (a1, .inr (0, [.ref b1, .int (nI nh)])), (b1, .inl (cA, 2100, .inl fh)), (a2, .inr (0, [.ref b2, .int (nI nr)])), (b2, .inl (cA, 2100, .inl fr)), (a3, .inr (0, [.ref b3, .int (nI nk)])), (b3, .inl (cA, 2100, .inl fk))] U.heap ∧ va_K (dC, dI) vwCl [(cA, .int)] U ∧ va_D (fun _ => True) [(x0, .inr (1, [.ref a1, .ref a2, .ref a3, .int fi, .int me])), (a1, .inr (0, [.ref b1, .int (nI nh)])), (b1, .inl (cA, 2100, .inl fh)), (a2, .inr (0, [.ref b2, .int (nI nr)])), (b2, .inl (cA, 2100, .inl fr)), (a3, .inr (0, [.ref b3, .int (nI nk)])), (b3, .inl (cA, 2100, .inl fk))] ∧ qNest U)) (va_Qi (fun (r : Int32) (u : qS) => (r, u) = qEmpty ((gh, nh), (gr, nr), (gk, nk), fi, me)) (at_H dC dI (va_A [(x0, .inr (1, [.ref a1, .ref a2, .ref a3, .int fi, .int me])), (a1, .inr (0, [.ref b1, .int (nI nh)])), (b1, .inl (cA, 2100, .inl fh)), (a2, .inr (0, [.ref b2, .int (nI nr)])), (b2, .inl (cA, 2100, .inl fr)), (a3, .inr (0, [.ref b3, .int (nI nk)])), (b3, .inl (cA, 2100, .inl fk))] sz) x0 a1 b1 a2 b2 a3 b3 cA) (va_A [(x0, .inr (1, [.ref a1, .ref a2, .ref a3, .int fi, .int me])), (a1, .inr (0, [.ref b1, .int (nI nh)])), (b1, .inl (cA, 2100, .inl fh)), (a2, .inr (0, [.ref b2, .int (nI nr)])), (b2, .inl (cA, 2100, .inl fr)), (a3, .inr (0, [.ref b3, .int (nI nk)])), (b3, .inl (cA, 2100, .inl fk))] sz)) 0 0 (va_A [(x0, .inr (1, [.ref a1, .ref a2, .ref a3, .int fi, .int me])), (a1, .inr (0, [.ref b1, .int (nI nh)])), (b1, .inl (cA, 2100, .inl fh)), (a2, .inr (0, [.ref b2, .int (nI nr)])), (b2, .inl (cA, 2100, .inl fr)), (a3, .inr (0, [.ref b3, .int (nI nk)])), (b3, .inl (cA, 2100, .inl fk))] sz) := by
  refine Met.ofW (cc := cX1_empty) (maxL := 1) (ret := (some .int)) (by decide +kernel) rfl ?_
  intro p e s m args below meth c s₁ B hml hv
  obtain ⟨rfl, hsz, hP, hK, hD0, hN⟩ := hv
  have hx := B.exec
  have hb := B.bytes
  have hr := B.returns
  have hts := atoms_spec (ws := wsX1_empty) B.pre
  have hown : s.vm.findClass RX1 = some m.cls := findClass_of_methodNamed B.named
  have hlocks := B.notSynchronized
  subst hsz
  have hD := hD0.self (sz := s.heap.size)
  generalize hAe : va_A [(x0, .inr (1, [.ref a1, .ref a2, .ref a3, .int fi, .int me])), (a1, .inr (0, [.ref b1, .int (nI nh)])), (b1, .inl (cA, 2100, .inl fh)), (a2, .inr (0, [.ref b2, .int (nI nr)])), (b2, .inl (cA, 2100, .inl fr)), (a3, .inr (0, [.ref b3, .int (nI nk)])), (b3, .inl (cA, 2100, .inl fk))] s.heap.size = A at hD ⊢
  have hA : ∀ q : Nat, s.heap.size ≤ q → A q := fun q h => by rw [← hAe]; exact Or.inr h
  have hS : va_S A s.heap s.heap [] := va_S.rf
  have hl := lv_entry ([.ref x0]) (n := 1) (Nat.le_of_ble_eq_true rfl)
  rw [lg_entry_eq]
  generalize (lg_sl ([.ref x0]) ++ List.replicate (1 - (lg_sl ([.ref x0])).length) Slot.unset).toArray = ls at hl ⊢
  have hl : lv_has ls 1 [(0, .ref x0)] := hl
  refine lv_aload_n hx hb dX1_empty_0 rfl (lv_at hl 0 rfl) ?_
  refine va_get (D := (dC, dI)) (ci := 1) (v := .ref a2) (C := RX1) (T := TX1) (N := 5) hx hb hts inX1_empty_X1 hown hK hP 0 rfl rfl 1 (by decide) (hts (.fieldLink RX1 16 "QueueHall" "ringRow" "LQueueHall$Row;") (List.mem_of_getElem? (i := 1) (by decide +kernel))) (fun _ h9 => h9) rfl dX1_empty_1 ?_
  refine lv_aload_n hx hb dX1_empty_4 rfl (lv_at hl 0 rfl) ?_
  refine va_get (D := (dC, dI)) (ci := 1) (v := .ref a1) (C := RX1) (T := TX1) (N := 5) hx hb hts inX1_empty_X1 hown hK hP 0 rfl rfl 0 (by decide) (hts (.fieldLink RX1 10 "QueueHall" "hallRow" "LQueueHall$Row;") (List.mem_of_getElem? (i := 2) (by decide +kernel))) (fun _ h9 => h9) rfl dX1_empty_5 ?_
  refine lv_aload_n hx hb dX1_empty_8 rfl (lv_at hl 0 rfl) ?_
  refine va_get (D := (dC, dI)) (ci := 1) (v := .ref a2) (C := RX1) (T := TX1) (N := 5) hx hb hts inX1_empty_X1 hown hK hP 0 rfl rfl 1 (by decide) (hts (.fieldLink RX1 16 "QueueHall" "ringRow" "LQueueHall$Row;") (List.mem_of_getElem? (i := 1) (by decide +kernel))) (fun _ h9 => h9) rfl dX1_empty_9 ?_
  refine va_getN (D := (dC, dI)) (ci := 0) (v := .int (nI nr)) (C := RX0) (T := TX0) (N := 2) hx hb hts inX1_empty_X0 hown hK hP 3 rfl rfl 1 (by decide) (qN_count hN) (fun _ h9 => h9) rfl dX1_empty_12 ?_
  have hPc := hP.sub (ws' := [(a2, .inr (0, [.ref b2, .int (nI nr)])), (b2, .inl (cA, 2100, .inl fr)), (a1, .inr (0, [.ref b1, .int (nI nh)])), (b1, .inl (cA, 2100, .inl fh))]) [3, 4, 1, 2] rfl
  have hKc := hK.sub (tys' := [(cA, .int)]) [0] rfl
  have hDc := hD.sub (ws' := [(a2, .inr (0, [.ref b2, .int (nI nr)])), (b2, .inl (cA, 2100, .inl fr)), (a1, .inr (0, [.ref b1, .int (nI nh)])), (b1, .inl (cA, 2100, .inl fh))]) [3, 4, 1, 2] (by decide) rfl
  have hFc := va_free (wc := [(a2, .inr (0, [.ref b2, .int (nI nr)])), (b2, .inl (cA, 2100, .inl fr)), (a1, .inr (0, [.ref b1, .int (nI nh)])), (b1, .inl (cA, 2100, .inl fh))]) hD hS hA [3, 4, 1, 2] rfl
  refine va_calli (va_runVN (As := [.ref a1, .int (nI nr)]) (rest := []) ⟨hx, hb, hml, hown, hts⟩ (c_Row_takeAll l dC dI s.heap.size a2 b2 nr a1 b1 nh nr cA fr gr fh gh (by omega) (by omega) ha2 ha1) ⟨va_cnB 2 hts gX1_empty_X0_takeAll rfl rfl rfl (qN_takeAll hN) (hts (.initialized RX0) (List.mem_of_getElem? (i := 5) (by decide +kernel))) (by decide +kernel) ⟨Nat.le_of_ble_eq_true rfl, Nat.le_of_ble_eq_true rfl⟩, (hts (.instanceMethod yX0_takeAll) (List.mem_of_getElem? (i := 3) (by decide +kernel))), (hts (.selects RX0 yX0_takeAll yX0_takeAll) (List.mem_of_getElem? (i := 4) (by decide +kernel)))⟩ ⟨q_blW, va_recv hKc hPc (ci := 0) (q0 := 0) rfl rfl, fun U hU hW => ⟨rfl, by rw [hU], by rw [hU]; exact hPc, va_K.moved hW.alike hKc, hDc.weaken (fun _ _ _ _ => trivial)⟩⟩ rfl rfl hl.1 rfl (lv_room (Nat.le_of_ble_eq_true rfl)) dX1_empty_15 ⟨Nat.le_of_ble_eq_true rfl, Nat.le_of_ble_eq_true rfl⟩) hS (fun q _ h => hFc q h) hFc (fun r_1 u_1 t_1 H1 locs ht hvm hw hB hz1 hk1 hS => ?_)
  obtain ⟨rfl, rfl⟩ := Prod.mk.inj hw
  obtain ⟨f_1, fo_1, hg_1, ho_1, hP1, hK1, hD1⟩ := hB
  rw [ht] at hP1
  obtain ⟨hP, hD⟩ := q_join (wr := [(x0, .inr (1, [.ref a1, .ref a2, .ref a3, .int fi, .int me])), (a3, .inr (0, [.ref b3, .int (nI nk)])), (b3, .inl (cA, 2100, .inl fk))]) (w1 := [(a2, .inr (0, [.ref b2, .int (nI (nr + nh))])), (b2, .inl (cA, 2100, .inl f_1)), (a1, .inr (0, [.ref b1, .int (nI 0)])), (b1, .inl (cA, 2100, .inl fo_1))]) (wz := [(x0, .inr (1, [.ref a1, .ref a2, .ref a3, .int fi, .int me])), (a1, .inr (0, [.ref b1, .int (nI 0)])), (b1, .inl (cA, 2100, .inl fo_1)), (a2, .inr (0, [.ref b2, .int (nI (nr + nh))])), (b2, .inl (cA, 2100, .inl f_1)), (a3, .inr (0, [.ref b3, .int (nI nk)])), (b3, .inl (cA, 2100, .inl fk))]) hP hD [3, 4, 1, 2] [0, 5, 6] [0, 5, 6, 3, 4, 1, 2] rfl rfl (by decide) (by decide) hk1 hFc hP1 hD1 rfl rfl (by decide)
  generalize H1 = H at hP hS ⊢
  refine lv_if_eq (tgt := 31) hx hb dX1_empty_18 (by decide) (fun c_0 => absurd c_0 (show ¬ (1 : Int32) = (0 : Int32) from (by decide))) (fun c_2 => ?_)
  refine lv_aload_n hx hb dX1_empty_21 rfl (lv_at hl 0 rfl) ?_
  refine va_get (D := (dC, dI)) (ci := 1) (v := .ref a2) (C := RX1) (T := TX1) (N := 5) hx hb hts inX1_empty_X1 hown hK hP 0 rfl rfl 1 (by decide) (hts (.fieldLink RX1 16 "QueueHall" "ringRow" "LQueueHall$Row;") (List.mem_of_getElem? (i := 1) (by decide +kernel))) (fun _ h9 => h9) rfl dX1_empty_22 ?_
  refine va_getN (D := (dC, dI)) (ci := 0) (v := .int (nI (nr + nh))) (C := RX0) (T := TX0) (N := 2) hx hb hts inX1_empty_X0 hown hK hP 3 rfl rfl 1 (by decide) (qN_count hN) (fun _ h9 => h9) rfl dX1_empty_25 ?_
  refine lv_goto (tgt := 33) hx hb dX1_empty_28 (by decide) ?_
  exact W.iret (v := nI (nr + nh)) hx hb hr (fun t ht hW => ⟨⟨nI (nr + nh), ((gh, 0), (qCat gr nr gh nh, nr + nh), (gk, nk), fi, me), rfl, rfl, fo_1, f_1, fk, ho_1, hg_1, ha3, by rw [ht]; exact hP, va_K.moved hW.alike hK, hD⟩, hS.F ht⟩) hS.2.2 dX1_empty_33

set_option maxHeartbeats 4000000 in
set_option maxRecDepth 100000 in
theorem c_Hall_hand (l : Launch) (dC : Nat → ClassId) (dI : Nat → Nat → Nat) (sz : Nat) (x0 a1 b1 a2 b2 a3 b3 nh nr nk : Nat) (cA : ClassId) (fh gh fr gr fk gk : Nat → Int32) (fi me : Int32) (hn : nh + nr + nk < 2000) (ha1 : qAg nh fh gh) (ha2 : qAg nr fr gr) (ha3 : qAg nk fk gk) (hF : qFok fi me nk) : Met l yX1_hand wsX1_hand ({ frames := 2, cells := 0, slots := 0, locals := 58 }) (va_Pc [.ref x0] (fun U => U.heap.size = sz ∧ va_P (dC, dI) vwCl [(x0, .inr (1, [.ref a1, .ref a2, .ref a3, .int fi, .int me])), (a1, .inr (0, [.ref b1, .int (nI nh)])), (b1, .inl (cA, 2100, .inl fh)), (a2, .inr (0, [.ref b2, .int (nI nr)])), (b2, .inl (cA, 2100, .inl fr)), (a3, .inr (0, [.ref b3, .int (nI nk)])), (b3, .inl (cA, 2100, .inl fk))] U.heap ∧ va_K (dC, dI) vwCl [(cA, .int)] U ∧ va_D (fun _ => True) [(x0, .inr (1, [.ref a1, .ref a2, .ref a3, .int fi, .int me])), (a1, .inr (0, [.ref b1, .int (nI nh)])), (b1, .inl (cA, 2100, .inl fh)), (a2, .inr (0, [.ref b2, .int (nI nr)])), (b2, .inl (cA, 2100, .inl fr)), (a3, .inr (0, [.ref b3, .int (nI nk)])), (b3, .inl (cA, 2100, .inl fk))] ∧ qNest U)) (va_Qi (fun (r : Int32) (u : qS) => (r, u) = qHand ((gh, nh), (gr, nr), (gk, nk), fi, me)) (at_H dC dI (va_A [(x0, .inr (1, [.ref a1, .ref a2, .ref a3, .int fi, .int me])), (a1, .inr (0, [.ref b1, .int (nI nh)])), (b1, .inl (cA, 2100, .inl fh)), (a2, .inr (0, [.ref b2, .int (nI nr)])), (b2, .inl (cA, 2100, .inl fr)), (a3, .inr (0, [.ref b3, .int (nI nk)])), (b3, .inl (cA, 2100, .inl fk))] sz) x0 a1 b1 a2 b2 a3 b3 cA) (va_A [(x0, .inr (1, [.ref a1, .ref a2, .ref a3, .int fi, .int me])), (a1, .inr (0, [.ref b1, .int (nI nh)])), (b1, .inl (cA, 2100, .inl fh)), (a2, .inr (0, [.ref b2, .int (nI nr)])), (b2, .inl (cA, 2100, .inl fr)), (a3, .inr (0, [.ref b3, .int (nI nk)])), (b3, .inl (cA, 2100, .inl fk))] sz)) 0 0 (va_A [(x0, .inr (1, [.ref a1, .ref a2, .ref a3, .int fi, .int me])), (a1, .inr (0, [.ref b1, .int (nI nh)])), (b1, .inl (cA, 2100, .inl fh)), (a2, .inr (0, [.ref b2, .int (nI nr)])), (b2, .inl (cA, 2100, .inl fr)), (a3, .inr (0, [.ref b3, .int (nI nk)])), (b3, .inl (cA, 2100, .inl fk))] sz) := by
  refine Met.ofW (cc := cX1_hand) (maxL := 2) (ret := (some .int)) (by decide +kernel) rfl ?_
  intro p e s m args below meth c s₁ B hml hv
  obtain ⟨rfl, hsz, hP, hK, hD0, hN⟩ := hv
  have hx := B.exec
  have hb := B.bytes
  have hr := B.returns
  have hts := atoms_spec (ws := wsX1_hand) B.pre
  have hown : s.vm.findClass RX1 = some m.cls := findClass_of_methodNamed B.named
  have hlocks := B.notSynchronized
  subst hsz
  have hD := hD0.self (sz := s.heap.size)
  generalize hAe : va_A [(x0, .inr (1, [.ref a1, .ref a2, .ref a3, .int fi, .int me])), (a1, .inr (0, [.ref b1, .int (nI nh)])), (b1, .inl (cA, 2100, .inl fh)), (a2, .inr (0, [.ref b2, .int (nI nr)])), (b2, .inl (cA, 2100, .inl fr)), (a3, .inr (0, [.ref b3, .int (nI nk)])), (b3, .inl (cA, 2100, .inl fk))] s.heap.size = A at hD ⊢
  have hA : ∀ q : Nat, s.heap.size ≤ q → A q := fun q h => by rw [← hAe]; exact Or.inr h
  have hS : va_S A s.heap s.heap [] := va_S.rf
  have hl := lv_entry ([.ref x0]) (n := 2) (Nat.le_of_ble_eq_true rfl)
  rw [lg_entry_eq]
  generalize (lg_sl ([.ref x0]) ++ List.replicate (2 - (lg_sl ([.ref x0])).length) Slot.unset).toArray = ls at hl ⊢
  have hl : lv_has ls 2 [(0, .ref x0)] := hl
  refine lv_aload_n hx hb dX1_hand_0 rfl (lv_at hl 0 rfl) ?_
  refine va_get (D := (dC, dI)) (ci := 1) (v := .ref a3) (C := RX1) (T := TX1) (N := 5) hx hb hts inX1_hand_X1 hown hK hP 0 rfl rfl 2 (by decide) (hts (.fieldLink RX1 19 "QueueHall" "chainRow" "LQueueHall$Row;") (List.mem_of_getElem? (i := 1) (by decide +kernel))) (fun _ h9 => h9) rfl dX1_hand_1 ?_
  refine va_getN (D := (dC, dI)) (ci := 0) (v := .int (nI nk)) (C := RX0) (T := TX0) (N := 2) hx hb hts inX1_hand_X0 hown hK hP 5 rfl rfl 1 (by decide) (qN_count hN) (fun _ h9 => h9) rfl dX1_hand_4 ?_
  refine lv_if_le (tgt := 14) hx hb dX1_hand_7 (by decide) (fun c_1 => ?_) (fun c_1 => ?_)
  · have k_1 : nk ≤ 0 := by
      simp (disch := omega) only [ti_lt, ti_le, ti_eq, ti_0, ti_1, ti_2, ti_m1, ti_100, ti_2000, nI_toInt] at c_1
      omega
    refine lv_iconst (v := 0) hx hb dX1_hand_14 (by decide) ?_
    refine lv_istore_n (lv' := [(1, .int 0), (0, .ref x0)]) hx hb dX1_hand_15 rfl hl (by decide) rfl (fun ls hl => ?_)
    refine lv_aload_n hx hb dX1_hand_16 rfl (lv_at hl 1 rfl) ?_
    refine va_get (D := (dC, dI)) (ci := 1) (v := .ref a2) (C := RX1) (T := TX1) (N := 5) hx hb hts inX1_hand_X1 hown hK hP 0 rfl rfl 1 (by decide) (hts (.fieldLink RX1 16 "QueueHall" "ringRow" "LQueueHall$Row;") (List.mem_of_getElem? (i := 2) (by decide +kernel))) (fun _ h9 => h9) rfl dX1_hand_17 ?_
    refine lv_aload_n hx hb dX1_hand_20 rfl (lv_at hl 1 rfl) ?_
    refine va_get (D := (dC, dI)) (ci := 1) (v := .ref a3) (C := RX1) (T := TX1) (N := 5) hx hb hts inX1_hand_X1 hown hK hP 0 rfl rfl 2 (by decide) (hts (.fieldLink RX1 19 "QueueHall" "chainRow" "LQueueHall$Row;") (List.mem_of_getElem? (i := 1) (by decide +kernel))) (fun _ h9 => h9) rfl dX1_hand_21 ?_
    refine lv_iconst (v := nI 0) hx hb dX1_hand_24 (by decide) ?_
    have hPc := hP.sub (ws' := [(a2, .inr (0, [.ref b2, .int (nI nr)])), (b2, .inl (cA, 2100, .inl fr)), (a3, .inr (0, [.ref b3, .int (nI nk)])), (b3, .inl (cA, 2100, .inl fk))]) [3, 4, 5, 6] rfl
    have hKc := hK.sub (tys' := [(cA, .int)]) [0] rfl
    have hDc := hD.sub (ws' := [(a2, .inr (0, [.ref b2, .int (nI nr)])), (b2, .inl (cA, 2100, .inl fr)), (a3, .inr (0, [.ref b3, .int (nI nk)])), (b3, .inl (cA, 2100, .inl fk))]) [3, 4, 5, 6] (by decide) rfl
    have hFc := va_free (wc := [(a2, .inr (0, [.ref b2, .int (nI nr)])), (b2, .inl (cA, 2100, .inl fr)), (a3, .inr (0, [.ref b3, .int (nI nk)])), (b3, .inl (cA, 2100, .inl fk))]) hD hS hA [3, 4, 5, 6] rfl
    refine va_calli (va_runVN (As := [.ref a3, .int (nI 0)]) (rest := []) ⟨hx, hb, hml, hown, hts⟩ (c_Row_takeAll l dC dI s.heap.size a2 b2 nr a3 b3 nk 0 cA fr gr fk gk (by omega) (by omega) ha2 ha3) ⟨va_cnB 2 hts gX1_hand_X0_takeAll rfl rfl rfl (qN_takeAll hN) (hts (.initialized RX0) (List.mem_of_getElem? (i := 5) (by decide +kernel))) (by decide +kernel) ⟨Nat.le_of_ble_eq_true rfl, Nat.le_of_ble_eq_true rfl⟩, (hts (.instanceMethod yX0_takeAll) (List.mem_of_getElem? (i := 3) (by decide +kernel))), (hts (.selects RX0 yX0_takeAll yX0_takeAll) (List.mem_of_getElem? (i := 4) (by decide +kernel)))⟩ ⟨q_blW, va_recv hKc hPc (ci := 0) (q0 := 0) rfl rfl, fun U hU hW => ⟨rfl, by rw [hU], by rw [hU]; exact hPc, va_K.moved hW.alike hKc, hDc.weaken (fun _ _ _ _ => trivial)⟩⟩ rfl rfl hl.1 rfl (lv_room (Nat.le_of_ble_eq_true rfl)) dX1_hand_25 ⟨Nat.le_of_ble_eq_true rfl, Nat.le_of_ble_eq_true rfl⟩) hS (fun q _ h => hFc q h) hFc (fun r_2 u_2 t_2 H1 locs ht hvm hw hB hz1 hk1 hS => ?_)
    obtain ⟨rfl, rfl⟩ := Prod.mk.inj hw
    obtain ⟨f_2, fo_2, hg_2, ho_2, hP1, hK1, hD1⟩ := hB
    rw [ht] at hP1
    obtain ⟨hP, hD⟩ := q_join (wr := [(x0, .inr (1, [.ref a1, .ref a2, .ref a3, .int fi, .int me])), (a1, .inr (0, [.ref b1, .int (nI nh)])), (b1, .inl (cA, 2100, .inl fh))]) (w1 := [(a2, .inr (0, [.ref b2, .int (nI (nr + nk))])), (b2, .inl (cA, 2100, .inl f_2)), (a3, .inr (0, [.ref b3, .int (nI 0)])), (b3, .inl (cA, 2100, .inl fo_2))]) (wz := [(x0, .inr (1, [.ref a1, .ref a2, .ref a3, .int fi, .int me])), (a1, .inr (0, [.ref b1, .int (nI nh)])), (b1, .inl (cA, 2100, .inl fh)), (a2, .inr (0, [.ref b2, .int (nI (nr + nk))])), (b2, .inl (cA, 2100, .inl f_2)), (a3, .inr (0, [.ref b3, .int (nI 0)])), (b3, .inl (cA, 2100, .inl fo_2))]) hP hD [3, 4, 5, 6] [0, 1, 2] [0, 1, 2, 3, 4, 5, 6] rfl rfl (by decide) (by decide) hk1 hFc hP1 hD1 rfl rfl (by decide)
    generalize H1 = H at hP hS ⊢
    refine lv_if_ne (tgt := 34) hx hb dX1_hand_28 (by decide) (fun c_3 => ?_) (fun c_0 => absurd c_0 (show ¬ (1 : Int32) = (0 : Int32) from (by decide)))
    refine lv_iload_n hx hb dX1_hand_34 rfl (lv_at hl 0 rfl) ?_
    refine lv_if_eq (tgt := 42) hx hb dX1_hand_35 (by decide) (fun c_4 => ?_) (fun c_0 => absurd (show (0 : Int32) = (0 : Int32) from (by decide)) c_0)
    refine lv_aload_n hx hb dX1_hand_42 rfl (lv_at hl 1 rfl) ?_
    refine va_get (D := (dC, dI)) (ci := 1) (v := .ref a2) (C := RX1) (T := TX1) (N := 5) hx hb hts inX1_hand_X1 hown hK hP 0 rfl rfl 1 (by decide) (hts (.fieldLink RX1 16 "QueueHall" "ringRow" "LQueueHall$Row;") (List.mem_of_getElem? (i := 2) (by decide +kernel))) (fun _ h9 => h9) rfl dX1_hand_43 ?_
    refine va_getN (D := (dC, dI)) (ci := 0) (v := .int (nI (nr + nk))) (C := RX0) (T := TX0) (N := 2) hx hb hts inX1_hand_X0 hown hK hP 3 rfl rfl 1 (by decide) (qN_count hN) (fun _ h9 => h9) rfl dX1_hand_46 ?_
    exact W.iret (v := nI (nr + nk)) hx hb hr (fun t ht hW => ⟨⟨nI (nr + nk), ((gh, nh), (qCat gr 0 gk nk, nr + nk), (gk, 0), fi, me), rfl, (by simp only [qHand, if_neg (show ¬ 0 < nk by omega)]), fh, f_2, fo_2, ha1, hg_2, ho_2, by rw [ht]; exact hP, va_K.moved hW.alike hK, hD⟩, hS.F ht⟩) hS.2.2 dX1_hand_49
  · have k_1 : nk > 0 := by
      simp (disch := omega) only [ti_lt, ti_le, ti_eq, ti_0, ti_1, ti_2, ti_m1, ti_100, ti_2000, nI_toInt] at c_1
      omega
    refine lv_iconst (v := 1) hx hb dX1_hand_10 (by decide) ?_
    refine lv_goto (tgt := 15) hx hb dX1_hand_11 (by decide) ?_
    refine lv_istore_n (lv' := [(1, .int 1), (0, .ref x0)]) hx hb dX1_hand_15 rfl hl (by decide) rfl (fun ls hl => ?_)
    refine lv_aload_n hx hb dX1_hand_16 rfl (lv_at hl 1 rfl) ?_
    refine va_get (D := (dC, dI)) (ci := 1) (v := .ref a2) (C := RX1) (T := TX1) (N := 5) hx hb hts inX1_hand_X1 hown hK hP 0 rfl rfl 1 (by decide) (hts (.fieldLink RX1 16 "QueueHall" "ringRow" "LQueueHall$Row;") (List.mem_of_getElem? (i := 2) (by decide +kernel))) (fun _ h9 => h9) rfl dX1_hand_17 ?_
    refine lv_aload_n hx hb dX1_hand_20 rfl (lv_at hl 1 rfl) ?_
    refine va_get (D := (dC, dI)) (ci := 1) (v := .ref a3) (C := RX1) (T := TX1) (N := 5) hx hb hts inX1_hand_X1 hown hK hP 0 rfl rfl 2 (by decide) (hts (.fieldLink RX1 19 "QueueHall" "chainRow" "LQueueHall$Row;") (List.mem_of_getElem? (i := 1) (by decide +kernel))) (fun _ h9 => h9) rfl dX1_hand_21 ?_
    refine lv_iconst (v := nI 0) hx hb dX1_hand_24 (by decide) ?_
    have hPc := hP.sub (ws' := [(a2, .inr (0, [.ref b2, .int (nI nr)])), (b2, .inl (cA, 2100, .inl fr)), (a3, .inr (0, [.ref b3, .int (nI nk)])), (b3, .inl (cA, 2100, .inl fk))]) [3, 4, 5, 6] rfl
    have hKc := hK.sub (tys' := [(cA, .int)]) [0] rfl
    have hDc := hD.sub (ws' := [(a2, .inr (0, [.ref b2, .int (nI nr)])), (b2, .inl (cA, 2100, .inl fr)), (a3, .inr (0, [.ref b3, .int (nI nk)])), (b3, .inl (cA, 2100, .inl fk))]) [3, 4, 5, 6] (by decide) rfl
    have hFc := va_free (wc := [(a2, .inr (0, [.ref b2, .int (nI nr)])), (b2, .inl (cA, 2100, .inl fr)), (a3, .inr (0, [.ref b3, .int (nI nk)])), (b3, .inl (cA, 2100, .inl fk))]) hD hS hA [3, 4, 5, 6] rfl
    refine va_calli (va_runVN (As := [.ref a3, .int (nI 0)]) (rest := []) ⟨hx, hb, hml, hown, hts⟩ (c_Row_takeAll l dC dI s.heap.size a2 b2 nr a3 b3 nk 0 cA fr gr fk gk (by omega) (by omega) ha2 ha3) ⟨va_cnB 2 hts gX1_hand_X0_takeAll rfl rfl rfl (qN_takeAll hN) (hts (.initialized RX0) (List.mem_of_getElem? (i := 5) (by decide +kernel))) (by decide +kernel) ⟨Nat.le_of_ble_eq_true rfl, Nat.le_of_ble_eq_true rfl⟩, (hts (.instanceMethod yX0_takeAll) (List.mem_of_getElem? (i := 3) (by decide +kernel))), (hts (.selects RX0 yX0_takeAll yX0_takeAll) (List.mem_of_getElem? (i := 4) (by decide +kernel)))⟩ ⟨q_blW, va_recv hKc hPc (ci := 0) (q0 := 0) rfl rfl, fun U hU hW => ⟨rfl, by rw [hU], by rw [hU]; exact hPc, va_K.moved hW.alike hKc, hDc.weaken (fun _ _ _ _ => trivial)⟩⟩ rfl rfl hl.1 rfl (lv_room (Nat.le_of_ble_eq_true rfl)) dX1_hand_25 ⟨Nat.le_of_ble_eq_true rfl, Nat.le_of_ble_eq_true rfl⟩) hS (fun q _ h => hFc q h) hFc (fun r_5 u_5 t_5 H1 locs ht hvm hw hB hz1 hk1 hS => ?_)
    obtain ⟨rfl, rfl⟩ := Prod.mk.inj hw
    obtain ⟨f_5, fo_5, hg_5, ho_5, hP1, hK1, hD1⟩ := hB
    rw [ht] at hP1
    obtain ⟨hP, hD⟩ := q_join (wr := [(x0, .inr (1, [.ref a1, .ref a2, .ref a3, .int fi, .int me])), (a1, .inr (0, [.ref b1, .int (nI nh)])), (b1, .inl (cA, 2100, .inl fh))]) (w1 := [(a2, .inr (0, [.ref b2, .int (nI (nr + nk))])), (b2, .inl (cA, 2100, .inl f_5)), (a3, .inr (0, [.ref b3, .int (nI 0)])), (b3, .inl (cA, 2100, .inl fo_5))]) (wz := [(x0, .inr (1, [.ref a1, .ref a2, .ref a3, .int fi, .int me])), (a1, .inr (0, [.ref b1, .int (nI nh)])), (b1, .inl (cA, 2100, .inl fh)), (a2, .inr (0, [.ref b2, .int (nI (nr + nk))])), (b2, .inl (cA, 2100, .inl f_5)), (a3, .inr (0, [.ref b3, .int (nI 0)])), (b3, .inl (cA, 2100, .inl fo_5))]) hP hD [3, 4, 5, 6] [0, 1, 2] [0, 1, 2, 3, 4, 5, 6] rfl rfl (by decide) (by decide) hk1 hFc hP1 hD1 rfl rfl (by decide)
    generalize H1 = H at hP hS ⊢
    refine lv_if_ne (tgt := 34) hx hb dX1_hand_28 (by decide) (fun c_6 => ?_) (fun c_0 => absurd c_0 (show ¬ (1 : Int32) = (0 : Int32) from (by decide)))
    refine lv_iload_n hx hb dX1_hand_34 rfl (lv_at hl 0 rfl) ?_
    refine lv_if_eq (tgt := 42) hx hb dX1_hand_35 (by decide) (fun c_0 => absurd c_0 (show ¬ (1 : Int32) = (0 : Int32) from (by decide))) (fun c_7 => ?_)
    refine lv_aload_n hx hb dX1_hand_38 rfl (lv_at hl 1 rfl) ?_
    have hPc := hP.sub (ws' := [(x0, .inr (1, [.ref a1, .ref a2, .ref a3, .int fi, .int me]))]) [0] rfl
    have hKc := hK.sub (tys' := []) [] rfl
    have hDc := hD.sub (ws' := [(x0, .inr (1, [.ref a1, .ref a2, .ref a3, .int fi, .int me]))]) [0] (by decide) rfl
    have hFc := va_free (wc := [(x0, .inr (1, [.ref a1, .ref a2, .ref a3, .int fi, .int me]))]) hD hS hA [0] rfl
    refine va_callv (va_runV (As := []) (rest := []) ⟨hx, hb, hml, hown, hts⟩ (c_Hall_liftFinger l dC dI H.size x0 a1 a2 a3 fi me) (cwV 0 hts gX1_hand_X1_liftFinger_v rfl rfl rfl (by decide +kernel) ⟨Nat.le_of_ble_eq_true rfl, Nat.le_of_ble_eq_true rfl⟩) ⟨q_blW, va_recv hKc hPc (ci := 1) (q0 := 0) rfl rfl, fun U hU hW => ⟨rfl, by rw [hU], by rw [hU]; exact hPc, va_K.moved hW.alike hKc, hDc.weaken (fun _ _ _ _ => trivial)⟩⟩ rfl rfl hl.1 rfl (lv_room (Nat.le_of_ble_eq_true rfl)) dX1_hand_39 ⟨Nat.le_of_ble_eq_true rfl, Nat.le_of_ble_eq_true rfl⟩) hS (fun q _ h => hFc q h) hFc (fun u_8 t_8 H1 locs ht hvm hw hB hz1 hk1 hS => ?_)
    subst hw
    obtain ⟨hP1, hK1, hD1⟩ := hB
    rw [ht] at hP1
    obtain ⟨hP, hD⟩ := q_join (wr := [(a1, .inr (0, [.ref b1, .int (nI nh)])), (b1, .inl (cA, 2100, .inl fh)), (a2, .inr (0, [.ref b2, .int (nI (nr + nk))])), (b2, .inl (cA, 2100, .inl f_5)), (a3, .inr (0, [.ref b3, .int (nI 0)])), (b3, .inl (cA, 2100, .inl fo_5))]) (w1 := [(x0, .inr (1, [.ref a1, .ref a2, .ref a3, .int (-1), .int (-1)]))]) (wz := [(x0, .inr (1, [.ref a1, .ref a2, .ref a3, .int (-1), .int (-1)])), (a1, .inr (0, [.ref b1, .int (nI nh)])), (b1, .inl (cA, 2100, .inl fh)), (a2, .inr (0, [.ref b2, .int (nI (nr + nk))])), (b2, .inl (cA, 2100, .inl f_5)), (a3, .inr (0, [.ref b3, .int (nI 0)])), (b3, .inl (cA, 2100, .inl fo_5))]) hP hD [0] [1, 2, 3, 4, 5, 6] [6, 0, 1, 2, 3, 4, 5] rfl rfl (by decide) (by decide) hk1 hFc hP1 hD1 rfl rfl (by decide)
    generalize H1 = H at hP hS ⊢
    refine lv_aload_n hx hb dX1_hand_42 rfl (lv_at hl 1 rfl) ?_
    refine va_get (D := (dC, dI)) (ci := 1) (v := .ref a2) (C := RX1) (T := TX1) (N := 5) hx hb hts inX1_hand_X1 hown hK hP 0 rfl rfl 1 (by decide) (hts (.fieldLink RX1 16 "QueueHall" "ringRow" "LQueueHall$Row;") (List.mem_of_getElem? (i := 2) (by decide +kernel))) (fun _ h9 => h9) rfl dX1_hand_43 ?_
    refine va_getN (D := (dC, dI)) (ci := 0) (v := .int (nI (nr + nk))) (C := RX0) (T := TX0) (N := 2) hx hb hts inX1_hand_X0 hown hK hP 3 rfl rfl 1 (by decide) (qN_count hN) (fun _ h9 => h9) rfl dX1_hand_46 ?_
    exact W.iret (v := nI (nr + nk)) hx hb hr (fun t ht hW => ⟨⟨nI (nr + nk), ((gh, nh), (qCat gr 0 gk nk, nr + nk), (gk, 0), -1, -1), rfl, (by simp only [qHand, if_pos (show 0 < nk by omega)]), fh, f_5, fo_5, ha1, hg_5, ho_5, by rw [ht]; exact hP, va_K.moved hW.alike hK, hD⟩, hS.F ht⟩) hS.2.2 dX1_hand_49
end
section
theorem dX2_init_0 : decode cX2_init 0 = .ok (.aload_n 0, 1) := by decide +kernel
theorem dX2_init_1 : decode cX2_init 1 = .ok (.invokespecial 1, 3) := by decide +kernel
theorem dX2_init_4 : decode cX2_init 4 = .ok (.aload_n 0, 1) := by decide +kernel
theorem dX2_init_5 : decode cX2_init 5 = .ok (.sipush 2000, 3) := by decide +kernel
theorem dX2_init_8 : decode cX2_init 8 = .ok (.newarray .int, 2) := by decide +kernel
theorem dX2_init_10 : decode cX2_init 10 = .ok (.putfield 9, 3) := by decide +kernel
theorem dX2_init_13 : decode cX2_init 13 = .ok (.aload_n 0, 1) := by decide +kernel
theorem dX2_init_14 : decode cX2_init 14 = .ok (.sipush 2000, 3) := by decide +kernel
theorem dX2_init_17 : decode cX2_init 17 = .ok (.newarray .int, 2) := by decide +kernel
theorem dX2_init_19 : decode cX2_init 19 = .ok (.putfield 13, 3) := by decide +kernel
theorem dX2_init_22 : decode cX2_init 22 = .ok (.aload_n 0, 1) := by decide +kernel
theorem dX2_init_23 : decode cX2_init 23 = .ok (.sipush 2000, 3) := by decide +kernel
theorem dX2_init_26 : decode cX2_init 26 = .ok (.newarray .int, 2) := by decide +kernel
theorem dX2_init_28 : decode cX2_init 28 = .ok (.putfield 16, 3) := by decide +kernel
theorem dX2_init_31 : decode cX2_init 31 = .ok (.aload_n 0, 1) := by decide +kernel
theorem dX2_init_32 : decode cX2_init 32 = .ok (.iconst (-1), 1) := by decide +kernel
theorem dX2_init_33 : decode cX2_init 33 = .ok (.putfield 19, 3) := by decide +kernel
theorem dX2_init_36 : decode cX2_init 36 = .ok (.aload_n 0, 1) := by decide +kernel
theorem dX2_init_37 : decode cX2_init 37 = .ok (.iconst (-1), 1) := by decide +kernel
theorem dX2_init_38 : decode cX2_init 38 = .ok (.putfield 23, 3) := by decide +kernel
theorem dX2_init_41 : decode cX2_init 41 = .ok (.return_, 1) := by decide +kernel
theorem dX2_put_0 : decode cX2_put 0 = .ok (.iload_n 1, 1) := by decide +kernel
theorem dX2_put_1 : decode cX2_put 1 = .ok (.istore 4, 2) := by decide +kernel
theorem dX2_put_3 : decode cX2_put 3 = .ok (.iload 4, 2) := by decide +kernel
theorem dX2_put_5 : decode cX2_put 5 = .ok (.iload_n 2, 1) := by decide +kernel
theorem dX2_put_6 : decode cX2_put 6 = .ok (.if_icmp .le 19, 3) := by decide +kernel
theorem dX2_put_9 : decode cX2_put 9 = .ok (.aload_n 0, 1) := by decide +kernel
theorem dX2_put_10 : decode cX2_put 10 = .ok (.iload 4, 2) := by decide +kernel
theorem dX2_put_12 : decode cX2_put 12 = .ok (.aload_n 0, 1) := by decide +kernel
theorem dX2_put_13 : decode cX2_put 13 = .ok (.iload 4, 2) := by decide +kernel
theorem dX2_put_15 : decode cX2_put 15 = .ok (.iconst 1, 1) := by decide +kernel
theorem dX2_put_16 : decode cX2_put 16 = .ok (.isub, 1) := by decide +kernel
theorem dX2_put_17 : decode cX2_put 17 = .ok (.iaload, 1) := by decide +kernel
theorem dX2_put_18 : decode cX2_put 18 = .ok (.iastore, 1) := by decide +kernel
theorem dX2_put_19 : decode cX2_put 19 = .ok (.iinc 4 (-1), 3) := by decide +kernel
theorem dX2_put_22 : decode cX2_put 22 = .ok (.goto (-19), 3) := by decide +kernel
theorem dX2_put_25 : decode cX2_put 25 = .ok (.aload_n 0, 1) := by decide +kernel
theorem dX2_put_26 : decode cX2_put 26 = .ok (.iload_n 2, 1) := by decide +kernel
theorem dX2_put_27 : decode cX2_put 27 = .ok (.iload_n 3, 1) := by decide +kernel
theorem dX2_put_28 : decode cX2_put 28 = .ok (.iastore, 1) := by decide +kernel
theorem dX2_put_29 : decode cX2_put 29 = .ok (.return_, 1) := by decide +kernel
theorem dX2_take_0 : decode cX2_take 0 = .ok (.iload_n 2, 1) := by decide +kernel
theorem dX2_take_1 : decode cX2_take 1 = .ok (.istore_n 3, 1) := by decide +kernel
theorem dX2_take_2 : decode cX2_take 2 = .ok (.iload_n 3, 1) := by decide +kernel
theorem dX2_take_3 : decode cX2_take 3 = .ok (.iconst 1, 1) := by decide +kernel
theorem dX2_take_4 : decode cX2_take 4 = .ok (.iadd, 1) := by decide +kernel
theorem dX2_take_5 : decode cX2_take 5 = .ok (.iload_n 1, 1) := by decide +kernel
theorem dX2_take_6 : decode cX2_take 6 = .ok (.if_icmp .ge 17, 3) := by decide +kernel
theorem dX2_take_9 : decode cX2_take 9 = .ok (.aload_n 0, 1) := by decide +kernel
theorem dX2_take_10 : decode cX2_take 10 = .ok (.iload_n 3, 1) := by decide +kernel
theorem dX2_take_11 : decode cX2_take 11 = .ok (.aload_n 0, 1) := by decide +kernel
theorem dX2_take_12 : decode cX2_take 12 = .ok (.iload_n 3, 1) := by decide +kernel
theorem dX2_take_13 : decode cX2_take 13 = .ok (.iconst 1, 1) := by decide +kernel
theorem dX2_take_14 : decode cX2_take 14 = .ok (.iadd, 1) := by decide +kernel
theorem dX2_take_15 : decode cX2_take 15 = .ok (.iaload, 1) := by decide +kernel
theorem dX2_take_16 : decode cX2_take 16 = .ok (.iastore, 1) := by decide +kernel
theorem dX2_take_17 : decode cX2_take 17 = .ok (.iinc 3 1, 3) := by decide +kernel
theorem dX2_take_20 : decode cX2_take 20 = .ok (.goto (-18), 3) := by decide +kernel
theorem dX2_take_23 : decode cX2_take 23 = .ok (.return_, 1) := by decide +kernel
theorem dX2_place_0 : decode cX2_place 0 = .ok (.iconst (-1), 1) := by decide +kernel
theorem dX2_place_1 : decode cX2_place 1 = .ok (.istore 4, 2) := by decide +kernel
theorem dX2_place_3 : decode cX2_place 3 = .ok (.iconst 0, 1) := by decide +kernel
theorem dX2_place_4 : decode cX2_place 4 = .ok (.istore 5, 2) := by decide +kernel
theorem dX2_place_6 : decode cX2_place 6 = .ok (.iload 5, 2) := by decide +kernel
theorem dX2_place_8 : decode cX2_place 8 = .ok (.iload_n 1, 1) := by decide +kernel
theorem dX2_place_9 : decode cX2_place 9 = .ok (.if_icmp .ge 30, 3) := by decide +kernel
theorem dX2_place_12 : decode cX2_place 12 = .ok (.aload_n 0, 1) := by decide +kernel
theorem dX2_place_13 : decode cX2_place 13 = .ok (.iload 5, 2) := by decide +kernel
theorem dX2_place_15 : decode cX2_place 15 = .ok (.iaload, 1) := by decide +kernel
theorem dX2_place_16 : decode cX2_place 16 = .ok (.iload_n 2, 1) := by decide +kernel
theorem dX2_place_17 : decode cX2_place 17 = .ok (.if_icmp .ne 16, 3) := by decide +kernel
theorem dX2_place_20 : decode cX2_place 20 = .ok (.iload_n 3, 1) := by decide +kernel
theorem dX2_place_21 : decode cX2_place 21 = .ok (.ifCond .ne 8, 3) := by decide +kernel
theorem dX2_place_24 : decode cX2_place 24 = .ok (.iload 4, 2) := by decide +kernel
theorem dX2_place_26 : decode cX2_place 26 = .ok (.ifCond .ge 7, 3) := by decide +kernel
theorem dX2_place_29 : decode cX2_place 29 = .ok (.iload 5, 2) := by decide +kernel
theorem dX2_place_31 : decode cX2_place 31 = .ok (.istore 4, 2) := by decide +kernel
theorem dX2_place_33 : decode cX2_place 33 = .ok (.iinc 5 1, 3) := by decide +kernel
theorem dX2_place_36 : decode cX2_place 36 = .ok (.goto (-30), 3) := by decide +kernel
theorem dX2_place_39 : decode cX2_place 39 = .ok (.iload 4, 2) := by decide +kernel
theorem dX2_place_41 : decode cX2_place 41 = .ok (.ireturn, 1) := by decide +kernel
theorem dX2_many_0 : decode cX2_many 0 = .ok (.iload_n 1, 1) := by decide +kernel
theorem dX2_many_1 : decode cX2_many 1 = .ok (.ifCond .ne 10, 3) := by decide +kernel
theorem dX2_many_4 : decode cX2_many 4 = .ok (.aload_n 0, 1) := by decide +kernel
theorem dX2_many_5 : decode cX2_many 5 = .ok (.getfield 26, 3) := by decide +kernel
theorem dX2_many_8 : decode cX2_many 8 = .ok (.goto 28, 3) := by decide +kernel
theorem dX2_many_11 : decode cX2_many 11 = .ok (.iload_n 1, 1) := by decide +kernel
theorem dX2_many_12 : decode cX2_many 12 = .ok (.iconst 1, 1) := by decide +kernel
theorem dX2_many_13 : decode cX2_many 13 = .ok (.if_icmp .ne 10, 3) := by decide +kernel
theorem dX2_many_16 : decode cX2_many 16 = .ok (.aload_n 0, 1) := by decide +kernel
theorem dX2_many_17 : decode cX2_many 17 = .ok (.getfield 29, 3) := by decide +kernel
theorem dX2_many_20 : decode cX2_many 20 = .ok (.goto 16, 3) := by decide +kernel
theorem dX2_many_23 : decode cX2_many 23 = .ok (.iload_n 1, 1) := by decide +kernel
theorem dX2_many_24 : decode cX2_many 24 = .ok (.iconst 2, 1) := by decide +kernel
theorem dX2_many_25 : decode cX2_many 25 = .ok (.if_icmp .ne 10, 3) := by decide +kernel
theorem dX2_many_28 : decode cX2_many 28 = .ok (.aload_n 0, 1) := by decide +kernel
theorem dX2_many_29 : decode cX2_many 29 = .ok (.getfield 32, 3) := by decide +kernel
theorem dX2_many_32 : decode cX2_many 32 = .ok (.goto 4, 3) := by decide +kernel
theorem dX2_many_35 : decode cX2_many 35 = .ok (.iconst (-1), 1) := by decide +kernel
theorem dX2_many_36 : decode cX2_many 36 = .ok (.ireturn, 1) := by decide +kernel
theorem dX2_lift_0 : decode cX2_lift 0 = .ok (.aload_n 0, 1) := by decide +kernel
theorem dX2_lift_1 : decode cX2_lift 1 = .ok (.iconst (-1), 1) := by decide +kernel
theorem dX2_lift_2 : decode cX2_lift 2 = .ok (.putfield 19, 3) := by decide +kernel
theorem dX2_lift_5 : decode cX2_lift 5 = .ok (.aload_n 0, 1) := by decide +kernel
theorem dX2_lift_6 : decode cX2_lift 6 = .ok (.iconst (-1), 1) := by decide +kernel
theorem dX2_lift_7 : decode cX2_lift 7 = .ok (.putfield 23, 3) := by decide +kernel
theorem dX2_lift_10 : decode cX2_lift 10 = .ok (.return_, 1) := by decide +kernel
theorem dX2_enter_0 : decode cX2_enter 0 = .ok (.aload_n 0, 1) := by decide +kernel
theorem dX2_enter_1 : decode cX2_enter 1 = .ok (.getfield 26, 3) := by decide +kernel
theorem dX2_enter_4 : decode cX2_enter 4 = .ok (.sipush 2000, 3) := by decide +kernel
theorem dX2_enter_7 : decode cX2_enter 7 = .ok (.if_icmp .ne 6, 3) := by decide +kernel
theorem dX2_enter_10 : decode cX2_enter 10 = .ok (.bipush (-3), 2) := by decide +kernel
theorem dX2_enter_12 : decode cX2_enter 12 = .ok (.ireturn, 1) := by decide +kernel
theorem dX2_enter_13 : decode cX2_enter 13 = .ok (.iconst 0, 1) := by decide +kernel
theorem dX2_enter_14 : decode cX2_enter 14 = .ok (.istore_n 2, 1) := by decide +kernel
theorem dX2_enter_15 : decode cX2_enter 15 = .ok (.iload_n 2, 1) := by decide +kernel
theorem dX2_enter_16 : decode cX2_enter 16 = .ok (.aload_n 0, 1) := by decide +kernel
theorem dX2_enter_17 : decode cX2_enter 17 = .ok (.getfield 26, 3) := by decide +kernel
theorem dX2_enter_20 : decode cX2_enter 20 = .ok (.if_icmp .ge 19, 3) := by decide +kernel
theorem dX2_enter_23 : decode cX2_enter 23 = .ok (.aload_n 0, 1) := by decide +kernel
theorem dX2_enter_24 : decode cX2_enter 24 = .ok (.getfield 9, 3) := by decide +kernel
theorem dX2_enter_27 : decode cX2_enter 27 = .ok (.iload_n 2, 1) := by decide +kernel
theorem dX2_enter_28 : decode cX2_enter 28 = .ok (.iaload, 1) := by decide +kernel
theorem dX2_enter_29 : decode cX2_enter 29 = .ok (.iload_n 1, 1) := by decide +kernel
theorem dX2_enter_30 : decode cX2_enter 30 = .ok (.if_icmp .gt 9, 3) := by decide +kernel
theorem dX2_enter_33 : decode cX2_enter 33 = .ok (.iinc 2 1, 3) := by decide +kernel
theorem dX2_enter_36 : decode cX2_enter 36 = .ok (.goto (-21), 3) := by decide +kernel
theorem dX2_enter_39 : decode cX2_enter 39 = .ok (.aload_n 0, 1) := by decide +kernel
theorem dX2_enter_40 : decode cX2_enter 40 = .ok (.getfield 9, 3) := by decide +kernel
theorem dX2_enter_43 : decode cX2_enter 43 = .ok (.aload_n 0, 1) := by decide +kernel
theorem dX2_enter_44 : decode cX2_enter 44 = .ok (.getfield 26, 3) := by decide +kernel
theorem dX2_enter_47 : decode cX2_enter 47 = .ok (.iload_n 2, 1) := by decide +kernel
theorem dX2_enter_48 : decode cX2_enter 48 = .ok (.iload_n 1, 1) := by decide +kernel
theorem dX2_enter_49 : decode cX2_enter 49 = .ok (.invokestatic 35, 3) := by decide +kernel
theorem dX2_enter_52 : decode cX2_enter 52 = .ok (.aload_n 0, 1) := by decide +kernel
theorem dX2_enter_53 : decode cX2_enter 53 = .ok (.dup, 1) := by decide +kernel
theorem dX2_enter_54 : decode cX2_enter 54 = .ok (.getfield 26, 3) := by decide +kernel
theorem dX2_enter_57 : decode cX2_enter 57 = .ok (.iconst 1, 1) := by decide +kernel
theorem dX2_enter_58 : decode cX2_enter 58 = .ok (.iadd, 1) := by decide +kernel
theorem dX2_enter_59 : decode cX2_enter 59 = .ok (.dup_x1, 1) := by decide +kernel
theorem dX2_enter_60 : decode cX2_enter 60 = .ok (.putfield 26, 3) := by decide +kernel
theorem dX2_enter_63 : decode cX2_enter 63 = .ok (.ireturn, 1) := by decide +kernel
theorem dX2_call_0 : decode cX2_call 0 = .ok (.aload_n 0, 1) := by decide +kernel
theorem dX2_call_1 : decode cX2_call 1 = .ok (.getfield 26, 3) := by decide +kernel
theorem dX2_call_4 : decode cX2_call 4 = .ok (.ifCond .ne 7, 3) := by decide +kernel
theorem dX2_call_7 : decode cX2_call 7 = .ok (.ldc2_w 39, 3) := by decide +kernel
theorem dX2_call_10 : decode cX2_call 10 = .ok (.lreturn, 1) := by decide +kernel
theorem dX2_call_11 : decode cX2_call 11 = .ok (.aload_n 0, 1) := by decide +kernel
theorem dX2_call_12 : decode cX2_call 12 = .ok (.getfield 9, 3) := by decide +kernel
theorem dX2_call_15 : decode cX2_call 15 = .ok (.iconst 0, 1) := by decide +kernel
theorem dX2_call_16 : decode cX2_call 16 = .ok (.iaload, 1) := by decide +kernel
theorem dX2_call_17 : decode cX2_call 17 = .ok (.istore_n 2, 1) := by decide +kernel
theorem dX2_call_18 : decode cX2_call 18 = .ok (.iload_n 1, 1) := by decide +kernel
theorem dX2_call_19 : decode cX2_call 19 = .ok (.ifCond .ne 25, 3) := by decide +kernel
theorem dX2_call_22 : decode cX2_call 22 = .ok (.aload_n 0, 1) := by decide +kernel
theorem dX2_call_23 : decode cX2_call 23 = .ok (.getfield 9, 3) := by decide +kernel
theorem dX2_call_26 : decode cX2_call 26 = .ok (.aload_n 0, 1) := by decide +kernel
theorem dX2_call_27 : decode cX2_call 27 = .ok (.getfield 26, 3) := by decide +kernel
theorem dX2_call_30 : decode cX2_call 30 = .ok (.iconst 0, 1) := by decide +kernel
theorem dX2_call_31 : decode cX2_call 31 = .ok (.invokestatic 41, 3) := by decide +kernel
theorem dX2_call_34 : decode cX2_call 34 = .ok (.aload_n 0, 1) := by decide +kernel
theorem dX2_call_35 : decode cX2_call 35 = .ok (.dup, 1) := by decide +kernel
theorem dX2_call_36 : decode cX2_call 36 = .ok (.getfield 26, 3) := by decide +kernel
theorem dX2_call_39 : decode cX2_call 39 = .ok (.iconst 1, 1) := by decide +kernel
theorem dX2_call_40 : decode cX2_call 40 = .ok (.isub, 1) := by decide +kernel
theorem dX2_call_41 : decode cX2_call 41 = .ok (.putfield 26, 3) := by decide +kernel
theorem dX2_call_44 : decode cX2_call 44 = .ok (.iload_n 2, 1) := by decide +kernel
theorem dX2_call_45 : decode cX2_call 45 = .ok (.i2l, 1) := by decide +kernel
theorem dX2_call_46 : decode cX2_call 46 = .ok (.lreturn, 1) := by decide +kernel
theorem dX2_leave_0 : decode cX2_leave 0 = .ok (.aload_n 0, 1) := by decide +kernel
theorem dX2_leave_1 : decode cX2_leave 1 = .ok (.getfield 9, 3) := by decide +kernel
theorem dX2_leave_4 : decode cX2_leave 4 = .ok (.aload_n 0, 1) := by decide +kernel
theorem dX2_leave_5 : decode cX2_leave 5 = .ok (.getfield 26, 3) := by decide +kernel
theorem dX2_leave_8 : decode cX2_leave 8 = .ok (.iload_n 1, 1) := by decide +kernel
theorem dX2_leave_9 : decode cX2_leave 9 = .ok (.iconst 0, 1) := by decide +kernel
theorem dX2_leave_10 : decode cX2_leave 10 = .ok (.invokestatic 45, 3) := by decide +kernel
theorem dX2_leave_13 : decode cX2_leave 13 = .ok (.istore_n 2, 1) := by decide +kernel
theorem dX2_leave_14 : decode cX2_leave 14 = .ok (.iload_n 2, 1) := by decide +kernel
theorem dX2_leave_15 : decode cX2_leave 15 = .ok (.ifCond .ge 5, 3) := by decide +kernel
theorem dX2_leave_18 : decode cX2_leave 18 = .ok (.iconst 0, 1) := by decide +kernel
theorem dX2_leave_19 : decode cX2_leave 19 = .ok (.ireturn, 1) := by decide +kernel
theorem dX2_leave_20 : decode cX2_leave 20 = .ok (.aload_n 0, 1) := by decide +kernel
theorem dX2_leave_21 : decode cX2_leave 21 = .ok (.getfield 9, 3) := by decide +kernel
theorem dX2_leave_24 : decode cX2_leave 24 = .ok (.aload_n 0, 1) := by decide +kernel
theorem dX2_leave_25 : decode cX2_leave 25 = .ok (.getfield 26, 3) := by decide +kernel
theorem dX2_leave_28 : decode cX2_leave 28 = .ok (.iload_n 2, 1) := by decide +kernel
theorem dX2_leave_29 : decode cX2_leave 29 = .ok (.invokestatic 41, 3) := by decide +kernel
theorem dX2_leave_32 : decode cX2_leave 32 = .ok (.aload_n 0, 1) := by decide +kernel
theorem dX2_leave_33 : decode cX2_leave 33 = .ok (.dup, 1) := by decide +kernel
theorem dX2_leave_34 : decode cX2_leave 34 = .ok (.getfield 26, 3) := by decide +kernel
theorem dX2_leave_37 : decode cX2_leave 37 = .ok (.iconst 1, 1) := by decide +kernel
theorem dX2_leave_38 : decode cX2_leave 38 = .ok (.isub, 1) := by decide +kernel
theorem dX2_leave_39 : decode cX2_leave 39 = .ok (.putfield 26, 3) := by decide +kernel
theorem dX2_leave_42 : decode cX2_leave 42 = .ok (.iconst 1, 1) := by decide +kernel
theorem dX2_leave_43 : decode cX2_leave 43 = .ok (.ireturn, 1) := by decide +kernel
theorem dX2_has_0 : decode cX2_has 0 = .ok (.iload_n 1, 1) := by decide +kernel
theorem dX2_has_1 : decode cX2_has 1 = .ok (.ifCond .ne 10, 3) := by decide +kernel
theorem dX2_has_4 : decode cX2_has 4 = .ok (.aload_n 0, 1) := by decide +kernel
theorem dX2_has_5 : decode cX2_has 5 = .ok (.getfield 9, 3) := by decide +kernel
theorem dX2_has_8 : decode cX2_has 8 = .ok (.goto 19, 3) := by decide +kernel
theorem dX2_has_11 : decode cX2_has 11 = .ok (.iload_n 1, 1) := by decide +kernel
theorem dX2_has_12 : decode cX2_has 12 = .ok (.iconst 1, 1) := by decide +kernel
theorem dX2_has_13 : decode cX2_has 13 = .ok (.if_icmp .ne 10, 3) := by decide +kernel
theorem dX2_has_16 : decode cX2_has 16 = .ok (.aload_n 0, 1) := by decide +kernel
theorem dX2_has_17 : decode cX2_has 17 = .ok (.getfield 13, 3) := by decide +kernel
theorem dX2_has_20 : decode cX2_has 20 = .ok (.goto 7, 3) := by decide +kernel
theorem dX2_has_23 : decode cX2_has 23 = .ok (.aload_n 0, 1) := by decide +kernel
theorem dX2_has_24 : decode cX2_has 24 = .ok (.getfield 16, 3) := by decide +kernel
theorem dX2_has_27 : decode cX2_has 27 = .ok (.astore_n 3, 1) := by decide +kernel
theorem dX2_has_28 : decode cX2_has 28 = .ok (.aload_n 3, 1) := by decide +kernel
theorem dX2_has_29 : decode cX2_has 29 = .ok (.aload_n 0, 1) := by decide +kernel
theorem dX2_has_30 : decode cX2_has 30 = .ok (.iload_n 1, 1) := by decide +kernel
theorem dX2_has_31 : decode cX2_has 31 = .ok (.invokevirtual 49, 3) := by decide +kernel
theorem dX2_has_34 : decode cX2_has 34 = .ok (.iload_n 2, 1) := by decide +kernel
theorem dX2_has_35 : decode cX2_has 35 = .ok (.iconst 0, 1) := by decide +kernel
theorem dX2_has_36 : decode cX2_has 36 = .ok (.invokestatic 45, 3) := by decide +kernel
theorem dX2_has_39 : decode cX2_has 39 = .ok (.ifCond .lt 7, 3) := by decide +kernel
theorem dX2_has_42 : decode cX2_has 42 = .ok (.iconst 1, 1) := by decide +kernel
theorem dX2_has_43 : decode cX2_has 43 = .ok (.goto 4, 3) := by decide +kernel
theorem dX2_has_46 : decode cX2_has 46 = .ok (.iconst 0, 1) := by decide +kernel
theorem dX2_has_47 : decode cX2_has 47 = .ok (.ireturn, 1) := by decide +kernel
theorem dX2_size_0 : decode cX2_size 0 = .ok (.aload_n 0, 1) := by decide +kernel
theorem dX2_size_1 : decode cX2_size 1 = .ok (.iload_n 1, 1) := by decide +kernel
theorem dX2_size_2 : decode cX2_size 2 = .ok (.invokevirtual 49, 3) := by decide +kernel
theorem dX2_size_5 : decode cX2_size 5 = .ok (.ireturn, 1) := by decide +kernel
theorem dX2_clear_0 : decode cX2_clear 0 = .ok (.aload_n 0, 1) := by decide +kernel
theorem dX2_clear_1 : decode cX2_clear 1 = .ok (.iload_n 1, 1) := by decide +kernel
theorem dX2_clear_2 : decode cX2_clear 2 = .ok (.invokevirtual 49, 3) := by decide +kernel
theorem dX2_clear_5 : decode cX2_clear 5 = .ok (.istore_n 2, 1) := by decide +kernel
theorem dX2_clear_6 : decode cX2_clear 6 = .ok (.iload_n 1, 1) := by decide +kernel
theorem dX2_clear_7 : decode cX2_clear 7 = .ok (.ifCond .ne 8, 3) := by decide +kernel
theorem dX2_clear_10 : decode cX2_clear 10 = .ok (.aload_n 0, 1) := by decide +kernel
theorem dX2_clear_11 : decode cX2_clear 11 = .ok (.iconst 0, 1) := by decide +kernel
theorem dX2_clear_12 : decode cX2_clear 12 = .ok (.putfield 26, 3) := by decide +kernel
theorem dX2_clear_15 : decode cX2_clear 15 = .ok (.iload_n 1, 1) := by decide +kernel
theorem dX2_clear_16 : decode cX2_clear 16 = .ok (.iconst 1, 1) := by decide +kernel
theorem dX2_clear_17 : decode cX2_clear 17 = .ok (.if_icmp .ne 8, 3) := by decide +kernel
theorem dX2_clear_20 : decode cX2_clear 20 = .ok (.aload_n 0, 1) := by decide +kernel
theorem dX2_clear_21 : decode cX2_clear 21 = .ok (.iconst 0, 1) := by decide +kernel
theorem dX2_clear_22 : decode cX2_clear 22 = .ok (.putfield 29, 3) := by decide +kernel
theorem dX2_clear_25 : decode cX2_clear 25 = .ok (.iload_n 1, 1) := by decide +kernel
theorem dX2_clear_26 : decode cX2_clear 26 = .ok (.iconst 2, 1) := by decide +kernel
theorem dX2_clear_27 : decode cX2_clear 27 = .ok (.if_icmp .ne 16, 3) := by decide +kernel
theorem dX2_clear_30 : decode cX2_clear 30 = .ok (.iload_n 2, 1) := by decide +kernel
theorem dX2_clear_31 : decode cX2_clear 31 = .ok (.ifCond .le 7, 3) := by decide +kernel
theorem dX2_clear_34 : decode cX2_clear 34 = .ok (.aload_n 0, 1) := by decide +kernel
theorem dX2_clear_35 : decode cX2_clear 35 = .ok (.invokevirtual 53, 3) := by decide +kernel
theorem dX2_clear_38 : decode cX2_clear 38 = .ok (.aload_n 0, 1) := by decide +kernel
theorem dX2_clear_39 : decode cX2_clear 39 = .ok (.iconst 0, 1) := by decide +kernel
theorem dX2_clear_40 : decode cX2_clear 40 = .ok (.putfield 32, 3) := by decide +kernel
theorem dX2_clear_43 : decode cX2_clear 43 = .ok (.iload_n 2, 1) := by decide +kernel
theorem dX2_clear_44 : decode cX2_clear 44 = .ok (.ireturn, 1) := by decide +kernel
theorem dX2_join_0 : decode cX2_join 0 = .ok (.aload_n 0, 1) := by decide +kernel
theorem dX2_join_1 : decode cX2_join 1 = .ok (.getfield 29, 3) := by decide +kernel
theorem dX2_join_4 : decode cX2_join 4 = .ok (.sipush 2000, 3) := by decide +kernel
theorem dX2_join_7 : decode cX2_join 7 = .ok (.if_icmp .ne 6, 3) := by decide +kernel
theorem dX2_join_10 : decode cX2_join 10 = .ok (.bipush (-3), 2) := by decide +kernel
theorem dX2_join_12 : decode cX2_join 12 = .ok (.ireturn, 1) := by decide +kernel
theorem dX2_join_13 : decode cX2_join 13 = .ok (.aload_n 0, 1) := by decide +kernel
theorem dX2_join_14 : decode cX2_join 14 = .ok (.getfield 13, 3) := by decide +kernel
theorem dX2_join_17 : decode cX2_join 17 = .ok (.aload_n 0, 1) := by decide +kernel
theorem dX2_join_18 : decode cX2_join 18 = .ok (.getfield 29, 3) := by decide +kernel
theorem dX2_join_21 : decode cX2_join 21 = .ok (.iload_n 2, 1) := by decide +kernel
theorem dX2_join_22 : decode cX2_join 22 = .ok (.ifCond .eq 7, 3) := by decide +kernel
theorem dX2_join_25 : decode cX2_join 25 = .ok (.iconst 0, 1) := by decide +kernel
theorem dX2_join_26 : decode cX2_join 26 = .ok (.goto 7, 3) := by decide +kernel
theorem dX2_join_29 : decode cX2_join 29 = .ok (.aload_n 0, 1) := by decide +kernel
theorem dX2_join_30 : decode cX2_join 30 = .ok (.getfield 29, 3) := by decide +kernel
theorem dX2_join_33 : decode cX2_join 33 = .ok (.iload_n 1, 1) := by decide +kernel
theorem dX2_join_34 : decode cX2_join 34 = .ok (.invokestatic 35, 3) := by decide +kernel
theorem dX2_join_37 : decode cX2_join 37 = .ok (.aload_n 0, 1) := by decide +kernel
theorem dX2_join_38 : decode cX2_join 38 = .ok (.dup, 1) := by decide +kernel
theorem dX2_join_39 : decode cX2_join 39 = .ok (.getfield 29, 3) := by decide +kernel
theorem dX2_join_42 : decode cX2_join 42 = .ok (.iconst 1, 1) := by decide +kernel
theorem dX2_join_43 : decode cX2_join 43 = .ok (.iadd, 1) := by decide +kernel
theorem dX2_join_44 : decode cX2_join 44 = .ok (.dup_x1, 1) := by decide +kernel
theorem dX2_join_45 : decode cX2_join 45 = .ok (.putfield 29, 3) := by decide +kernel
theorem dX2_join_48 : decode cX2_join 48 = .ok (.ireturn, 1) := by decide +kernel
theorem dX2_serve_0 : decode cX2_serve 0 = .ok (.aload_n 0, 1) := by decide +kernel
theorem dX2_serve_1 : decode cX2_serve 1 = .ok (.getfield 29, 3) := by decide +kernel
theorem dX2_serve_4 : decode cX2_serve 4 = .ok (.ifCond .ne 7, 3) := by decide +kernel
theorem dX2_serve_7 : decode cX2_serve 7 = .ok (.ldc2_w 39, 3) := by decide +kernel
theorem dX2_serve_10 : decode cX2_serve 10 = .ok (.lreturn, 1) := by decide +kernel
theorem dX2_serve_11 : decode cX2_serve 11 = .ok (.iload_n 1, 1) := by decide +kernel
theorem dX2_serve_12 : decode cX2_serve 12 = .ok (.ifCond .eq 7, 3) := by decide +kernel
theorem dX2_serve_15 : decode cX2_serve 15 = .ok (.iconst 0, 1) := by decide +kernel
theorem dX2_serve_16 : decode cX2_serve 16 = .ok (.goto 9, 3) := by decide +kernel
theorem dX2_serve_19 : decode cX2_serve 19 = .ok (.aload_n 0, 1) := by decide +kernel
theorem dX2_serve_20 : decode cX2_serve 20 = .ok (.getfield 29, 3) := by decide +kernel
theorem dX2_serve_23 : decode cX2_serve 23 = .ok (.iconst 1, 1) := by decide +kernel
theorem dX2_serve_24 : decode cX2_serve 24 = .ok (.isub, 1) := by decide +kernel
theorem dX2_serve_25 : decode cX2_serve 25 = .ok (.istore_n 3, 1) := by decide +kernel
theorem dX2_serve_26 : decode cX2_serve 26 = .ok (.aload_n 0, 1) := by decide +kernel
theorem dX2_serve_27 : decode cX2_serve 27 = .ok (.getfield 13, 3) := by decide +kernel
theorem dX2_serve_30 : decode cX2_serve 30 = .ok (.iload_n 3, 1) := by decide +kernel
theorem dX2_serve_31 : decode cX2_serve 31 = .ok (.iaload, 1) := by decide +kernel
theorem dX2_serve_32 : decode cX2_serve 32 = .ok (.istore 4, 2) := by decide +kernel
theorem dX2_serve_34 : decode cX2_serve 34 = .ok (.iload_n 2, 1) := by decide +kernel
theorem dX2_serve_35 : decode cX2_serve 35 = .ok (.ifCond .ne 25, 3) := by decide +kernel
theorem dX2_serve_38 : decode cX2_serve 38 = .ok (.aload_n 0, 1) := by decide +kernel
theorem dX2_serve_39 : decode cX2_serve 39 = .ok (.getfield 13, 3) := by decide +kernel
theorem dX2_serve_42 : decode cX2_serve 42 = .ok (.aload_n 0, 1) := by decide +kernel
theorem dX2_serve_43 : decode cX2_serve 43 = .ok (.getfield 29, 3) := by decide +kernel
theorem dX2_serve_46 : decode cX2_serve 46 = .ok (.iload_n 3, 1) := by decide +kernel
theorem dX2_serve_47 : decode cX2_serve 47 = .ok (.invokestatic 41, 3) := by decide +kernel
theorem dX2_serve_50 : decode cX2_serve 50 = .ok (.aload_n 0, 1) := by decide +kernel
theorem dX2_serve_51 : decode cX2_serve 51 = .ok (.dup, 1) := by decide +kernel
theorem dX2_serve_52 : decode cX2_serve 52 = .ok (.getfield 29, 3) := by decide +kernel
theorem dX2_serve_55 : decode cX2_serve 55 = .ok (.iconst 1, 1) := by decide +kernel
theorem dX2_serve_56 : decode cX2_serve 56 = .ok (.isub, 1) := by decide +kernel
theorem dX2_serve_57 : decode cX2_serve 57 = .ok (.putfield 29, 3) := by decide +kernel
theorem dX2_serve_60 : decode cX2_serve 60 = .ok (.iload 4, 2) := by decide +kernel
theorem dX2_serve_62 : decode cX2_serve 62 = .ok (.i2l, 1) := by decide +kernel
theorem dX2_serve_63 : decode cX2_serve 63 = .ok (.lreturn, 1) := by decide +kernel
theorem dX2_drop_0 : decode cX2_drop 0 = .ok (.aload_n 0, 1) := by decide +kernel
theorem dX2_drop_1 : decode cX2_drop 1 = .ok (.getfield 13, 3) := by decide +kernel
theorem dX2_drop_4 : decode cX2_drop 4 = .ok (.aload_n 0, 1) := by decide +kernel
theorem dX2_drop_5 : decode cX2_drop 5 = .ok (.getfield 29, 3) := by decide +kernel
theorem dX2_drop_8 : decode cX2_drop 8 = .ok (.iload_n 1, 1) := by decide +kernel
theorem dX2_drop_9 : decode cX2_drop 9 = .ok (.iload_n 2, 1) := by decide +kernel
theorem dX2_drop_10 : decode cX2_drop 10 = .ok (.ifCond .ne 7, 3) := by decide +kernel
theorem dX2_drop_13 : decode cX2_drop 13 = .ok (.iconst 1, 1) := by decide +kernel
theorem dX2_drop_14 : decode cX2_drop 14 = .ok (.goto 4, 3) := by decide +kernel
theorem dX2_drop_17 : decode cX2_drop 17 = .ok (.iconst 0, 1) := by decide +kernel
theorem dX2_drop_18 : decode cX2_drop 18 = .ok (.invokestatic 45, 3) := by decide +kernel
theorem dX2_drop_21 : decode cX2_drop 21 = .ok (.istore_n 3, 1) := by decide +kernel
theorem dX2_drop_22 : decode cX2_drop 22 = .ok (.iload_n 3, 1) := by decide +kernel
theorem dX2_drop_23 : decode cX2_drop 23 = .ok (.ifCond .ge 5, 3) := by decide +kernel
theorem dX2_drop_26 : decode cX2_drop 26 = .ok (.iconst 0, 1) := by decide +kernel
theorem dX2_drop_27 : decode cX2_drop 27 = .ok (.ireturn, 1) := by decide +kernel
theorem dX2_drop_28 : decode cX2_drop 28 = .ok (.aload_n 0, 1) := by decide +kernel
theorem dX2_drop_29 : decode cX2_drop 29 = .ok (.getfield 13, 3) := by decide +kernel
theorem dX2_drop_32 : decode cX2_drop 32 = .ok (.aload_n 0, 1) := by decide +kernel
theorem dX2_drop_33 : decode cX2_drop 33 = .ok (.getfield 29, 3) := by decide +kernel
theorem dX2_drop_36 : decode cX2_drop 36 = .ok (.iload_n 3, 1) := by decide +kernel
theorem dX2_drop_37 : decode cX2_drop 37 = .ok (.invokestatic 41, 3) := by decide +kernel
theorem dX2_drop_40 : decode cX2_drop 40 = .ok (.aload_n 0, 1) := by decide +kernel
theorem dX2_drop_41 : decode cX2_drop 41 = .ok (.dup, 1) := by decide +kernel
theorem dX2_drop_42 : decode cX2_drop 42 = .ok (.getfield 29, 3) := by decide +kernel
theorem dX2_drop_45 : decode cX2_drop 45 = .ok (.iconst 1, 1) := by decide +kernel
theorem dX2_drop_46 : decode cX2_drop 46 = .ok (.isub, 1) := by decide +kernel
theorem dX2_drop_47 : decode cX2_drop 47 = .ok (.putfield 29, 3) := by decide +kernel
theorem dX2_drop_50 : decode cX2_drop 50 = .ok (.iconst 1, 1) := by decide +kernel
theorem dX2_drop_51 : decode cX2_drop 51 = .ok (.ireturn, 1) := by decide +kernel
theorem dX2_ring_0 : decode cX2_ring 0 = .ok (.iload_n 1, 1) := by decide +kernel
theorem dX2_ring_1 : decode cX2_ring 1 = .ok (.ifCond .lt 11, 3) := by decide +kernel
theorem dX2_ring_4 : decode cX2_ring 4 = .ok (.iload_n 1, 1) := by decide +kernel
theorem dX2_ring_5 : decode cX2_ring 5 = .ok (.aload_n 0, 1) := by decide +kernel
theorem dX2_ring_6 : decode cX2_ring 6 = .ok (.getfield 29, 3) := by decide +kernel
theorem dX2_ring_9 : decode cX2_ring 9 = .ok (.if_icmp .lt 7, 3) := by decide +kernel
theorem dX2_ring_12 : decode cX2_ring 12 = .ok (.ldc2_w 39, 3) := by decide +kernel
theorem dX2_ring_15 : decode cX2_ring 15 = .ok (.lreturn, 1) := by decide +kernel
theorem dX2_ring_16 : decode cX2_ring 16 = .ok (.aload_n 0, 1) := by decide +kernel
theorem dX2_ring_17 : decode cX2_ring 17 = .ok (.getfield 13, 3) := by decide +kernel
theorem dX2_ring_20 : decode cX2_ring 20 = .ok (.iload_n 2, 1) := by decide +kernel
theorem dX2_ring_21 : decode cX2_ring 21 = .ok (.ifCond .eq 14, 3) := by decide +kernel
theorem dX2_ring_24 : decode cX2_ring 24 = .ok (.aload_n 0, 1) := by decide +kernel
theorem dX2_ring_25 : decode cX2_ring 25 = .ok (.getfield 29, 3) := by decide +kernel
theorem dX2_ring_28 : decode cX2_ring 28 = .ok (.iconst 1, 1) := by decide +kernel
theorem dX2_ring_29 : decode cX2_ring 29 = .ok (.isub, 1) := by decide +kernel
theorem dX2_ring_30 : decode cX2_ring 30 = .ok (.iload_n 1, 1) := by decide +kernel
theorem dX2_ring_31 : decode cX2_ring 31 = .ok (.isub, 1) := by decide +kernel
theorem dX2_ring_32 : decode cX2_ring 32 = .ok (.goto 4, 3) := by decide +kernel
theorem dX2_ring_35 : decode cX2_ring 35 = .ok (.iload_n 1, 1) := by decide +kernel
theorem dX2_ring_36 : decode cX2_ring 36 = .ok (.iaload, 1) := by decide +kernel
theorem dX2_ring_37 : decode cX2_ring 37 = .ok (.i2l, 1) := by decide +kernel
theorem dX2_ring_38 : decode cX2_ring 38 = .ok (.lreturn, 1) := by decide +kernel
theorem dX2_sieve_0 : decode cX2_sieve 0 = .ok (.iload_n 1, 1) := by decide +kernel
theorem dX2_sieve_1 : decode cX2_sieve 1 = .ok (.iconst 1, 1) := by decide +kernel
theorem dX2_sieve_2 : decode cX2_sieve 2 = .ok (.if_icmp .ge 5, 3) := by decide +kernel
theorem dX2_sieve_5 : decode cX2_sieve 5 = .ok (.iconst (-1), 1) := by decide +kernel
theorem dX2_sieve_6 : decode cX2_sieve 6 = .ok (.ireturn, 1) := by decide +kernel
theorem dX2_sieve_7 : decode cX2_sieve 7 = .ok (.iconst 0, 1) := by decide +kernel
theorem dX2_sieve_8 : decode cX2_sieve 8 = .ok (.istore_n 3, 1) := by decide +kernel
theorem dX2_sieve_9 : decode cX2_sieve 9 = .ok (.iconst 0, 1) := by decide +kernel
theorem dX2_sieve_10 : decode cX2_sieve 10 = .ok (.istore 4, 2) := by decide +kernel
theorem dX2_sieve_12 : decode cX2_sieve 12 = .ok (.iload 4, 2) := by decide +kernel
theorem dX2_sieve_14 : decode cX2_sieve 14 = .ok (.aload_n 0, 1) := by decide +kernel
theorem dX2_sieve_15 : decode cX2_sieve 15 = .ok (.getfield 29, 3) := by decide +kernel
theorem dX2_sieve_18 : decode cX2_sieve 18 = .ok (.if_icmp .ge 43, 3) := by decide +kernel
theorem dX2_sieve_21 : decode cX2_sieve 21 = .ok (.aload_n 0, 1) := by decide +kernel
theorem dX2_sieve_22 : decode cX2_sieve 22 = .ok (.getfield 13, 3) := by decide +kernel
theorem dX2_sieve_25 : decode cX2_sieve 25 = .ok (.iload 4, 2) := by decide +kernel
theorem dX2_sieve_27 : decode cX2_sieve 27 = .ok (.iaload, 1) := by decide +kernel
theorem dX2_sieve_28 : decode cX2_sieve 28 = .ok (.iload_n 1, 1) := by decide +kernel
theorem dX2_sieve_29 : decode cX2_sieve 29 = .ok (.invokestatic 56, 3) := by decide +kernel
theorem dX2_sieve_32 : decode cX2_sieve 32 = .ok (.iload_n 2, 1) := by decide +kernel
theorem dX2_sieve_33 : decode cX2_sieve 33 = .ok (.if_icmp .ne 6, 3) := by decide +kernel
theorem dX2_sieve_36 : decode cX2_sieve 36 = .ok (.goto 19, 3) := by decide +kernel
theorem dX2_sieve_39 : decode cX2_sieve 39 = .ok (.aload_n 0, 1) := by decide +kernel
theorem dX2_sieve_40 : decode cX2_sieve 40 = .ok (.getfield 13, 3) := by decide +kernel
theorem dX2_sieve_43 : decode cX2_sieve 43 = .ok (.iload_n 3, 1) := by decide +kernel
theorem dX2_sieve_44 : decode cX2_sieve 44 = .ok (.aload_n 0, 1) := by decide +kernel
theorem dX2_sieve_45 : decode cX2_sieve 45 = .ok (.getfield 13, 3) := by decide +kernel
theorem dX2_sieve_48 : decode cX2_sieve 48 = .ok (.iload 4, 2) := by decide +kernel
theorem dX2_sieve_50 : decode cX2_sieve 50 = .ok (.iaload, 1) := by decide +kernel
theorem dX2_sieve_51 : decode cX2_sieve 51 = .ok (.iastore, 1) := by decide +kernel
theorem dX2_sieve_52 : decode cX2_sieve 52 = .ok (.iinc 3 1, 3) := by decide +kernel
theorem dX2_sieve_55 : decode cX2_sieve 55 = .ok (.iinc 4 1, 3) := by decide +kernel
theorem dX2_sieve_58 : decode cX2_sieve 58 = .ok (.goto (-46), 3) := by decide +kernel
theorem dX2_sieve_61 : decode cX2_sieve 61 = .ok (.aload_n 0, 1) := by decide +kernel
theorem dX2_sieve_62 : decode cX2_sieve 62 = .ok (.getfield 29, 3) := by decide +kernel
theorem dX2_sieve_65 : decode cX2_sieve 65 = .ok (.iload_n 3, 1) := by decide +kernel
theorem dX2_sieve_66 : decode cX2_sieve 66 = .ok (.isub, 1) := by decide +kernel
theorem dX2_sieve_67 : decode cX2_sieve 67 = .ok (.istore 4, 2) := by decide +kernel
theorem dX2_sieve_69 : decode cX2_sieve 69 = .ok (.aload_n 0, 1) := by decide +kernel
theorem dX2_sieve_70 : decode cX2_sieve 70 = .ok (.iload_n 3, 1) := by decide +kernel
theorem dX2_sieve_71 : decode cX2_sieve 71 = .ok (.putfield 29, 3) := by decide +kernel
theorem dX2_sieve_74 : decode cX2_sieve 74 = .ok (.iload 4, 2) := by decide +kernel
theorem dX2_sieve_76 : decode cX2_sieve 76 = .ok (.ireturn, 1) := by decide +kernel
theorem dX2_roll_0 : decode cX2_roll 0 = .ok (.iload_n 1, 1) := by decide +kernel
theorem dX2_roll_1 : decode cX2_roll 1 = .ok (.ifCond .lt 9, 3) := by decide +kernel
theorem dX2_roll_4 : decode cX2_roll 4 = .ok (.iload_n 1, 1) := by decide +kernel
theorem dX2_roll_5 : decode cX2_roll 5 = .ok (.bipush 100, 2) := by decide +kernel
theorem dX2_roll_7 : decode cX2_roll 7 = .ok (.if_icmp .le 5, 3) := by decide +kernel
theorem dX2_roll_10 : decode cX2_roll 10 = .ok (.iconst (-1), 1) := by decide +kernel
theorem dX2_roll_11 : decode cX2_roll 11 = .ok (.ireturn, 1) := by decide +kernel
theorem dX2_roll_12 : decode cX2_roll 12 = .ok (.iconst 0, 1) := by decide +kernel
theorem dX2_roll_13 : decode cX2_roll 13 = .ok (.istore_n 2, 1) := by decide +kernel
theorem dX2_roll_14 : decode cX2_roll 14 = .ok (.iload_n 2, 1) := by decide +kernel
theorem dX2_roll_15 : decode cX2_roll 15 = .ok (.iload_n 1, 1) := by decide +kernel
theorem dX2_roll_16 : decode cX2_roll 16 = .ok (.if_icmp .ge 47, 3) := by decide +kernel
theorem dX2_roll_19 : decode cX2_roll 19 = .ok (.aload_n 0, 1) := by decide +kernel
theorem dX2_roll_20 : decode cX2_roll 20 = .ok (.getfield 29, 3) := by decide +kernel
theorem dX2_roll_23 : decode cX2_roll 23 = .ok (.ifCond .le 40, 3) := by decide +kernel
theorem dX2_roll_26 : decode cX2_roll 26 = .ok (.aload_n 0, 1) := by decide +kernel
theorem dX2_roll_27 : decode cX2_roll 27 = .ok (.getfield 13, 3) := by decide +kernel
theorem dX2_roll_30 : decode cX2_roll 30 = .ok (.iconst 0, 1) := by decide +kernel
theorem dX2_roll_31 : decode cX2_roll 31 = .ok (.iaload, 1) := by decide +kernel
theorem dX2_roll_32 : decode cX2_roll 32 = .ok (.istore_n 3, 1) := by decide +kernel
theorem dX2_roll_33 : decode cX2_roll 33 = .ok (.aload_n 0, 1) := by decide +kernel
theorem dX2_roll_34 : decode cX2_roll 34 = .ok (.getfield 13, 3) := by decide +kernel
theorem dX2_roll_37 : decode cX2_roll 37 = .ok (.aload_n 0, 1) := by decide +kernel
theorem dX2_roll_38 : decode cX2_roll 38 = .ok (.getfield 29, 3) := by decide +kernel
theorem dX2_roll_41 : decode cX2_roll 41 = .ok (.iconst 0, 1) := by decide +kernel
theorem dX2_roll_42 : decode cX2_roll 42 = .ok (.invokestatic 41, 3) := by decide +kernel
theorem dX2_roll_45 : decode cX2_roll 45 = .ok (.aload_n 0, 1) := by decide +kernel
theorem dX2_roll_46 : decode cX2_roll 46 = .ok (.getfield 13, 3) := by decide +kernel
theorem dX2_roll_49 : decode cX2_roll 49 = .ok (.aload_n 0, 1) := by decide +kernel
theorem dX2_roll_50 : decode cX2_roll 50 = .ok (.getfield 29, 3) := by decide +kernel
theorem dX2_roll_53 : decode cX2_roll 53 = .ok (.iconst 1, 1) := by decide +kernel
theorem dX2_roll_54 : decode cX2_roll 54 = .ok (.isub, 1) := by decide +kernel
theorem dX2_roll_55 : decode cX2_roll 55 = .ok (.iload_n 3, 1) := by decide +kernel
theorem dX2_roll_56 : decode cX2_roll 56 = .ok (.iastore, 1) := by decide +kernel
theorem dX2_roll_57 : decode cX2_roll 57 = .ok (.iinc 2 1, 3) := by decide +kernel
theorem dX2_roll_60 : decode cX2_roll 60 = .ok (.goto (-46), 3) := by decide +kernel
theorem dX2_roll_63 : decode cX2_roll 63 = .ok (.aload_n 0, 1) := by decide +kernel
theorem dX2_roll_64 : decode cX2_roll 64 = .ok (.getfield 29, 3) := by decide +kernel
theorem dX2_roll_67 : decode cX2_roll 67 = .ok (.ireturn, 1) := by decide +kernel
theorem dX2_insert_0 : decode cX2_insert 0 = .ok (.iload_n 1, 1) := by decide +kernel
theorem dX2_insert_1 : decode cX2_insert 1 = .ok (.ifCond .lt 11, 3) := by decide +kernel
theorem dX2_insert_4 : decode cX2_insert 4 = .ok (.iload_n 1, 1) := by decide +kernel
theorem dX2_insert_5 : decode cX2_insert 5 = .ok (.aload_n 0, 1) := by decide +kernel
theorem dX2_insert_6 : decode cX2_insert 6 = .ok (.getfield 32, 3) := by decide +kernel
theorem dX2_insert_9 : decode cX2_insert 9 = .ok (.if_icmp .le 5, 3) := by decide +kernel
theorem dX2_insert_12 : decode cX2_insert 12 = .ok (.iconst (-1), 1) := by decide +kernel
theorem dX2_insert_13 : decode cX2_insert 13 = .ok (.ireturn, 1) := by decide +kernel
theorem dX2_insert_14 : decode cX2_insert 14 = .ok (.aload_n 0, 1) := by decide +kernel
theorem dX2_insert_15 : decode cX2_insert 15 = .ok (.getfield 32, 3) := by decide +kernel
theorem dX2_insert_18 : decode cX2_insert 18 = .ok (.sipush 2000, 3) := by decide +kernel
theorem dX2_insert_21 : decode cX2_insert 21 = .ok (.if_icmp .ne 6, 3) := by decide +kernel
theorem dX2_insert_24 : decode cX2_insert 24 = .ok (.bipush (-3), 2) := by decide +kernel
theorem dX2_insert_26 : decode cX2_insert 26 = .ok (.ireturn, 1) := by decide +kernel
theorem dX2_insert_27 : decode cX2_insert 27 = .ok (.aload_n 0, 1) := by decide +kernel
theorem dX2_insert_28 : decode cX2_insert 28 = .ok (.getfield 16, 3) := by decide +kernel
theorem dX2_insert_31 : decode cX2_insert 31 = .ok (.aload_n 0, 1) := by decide +kernel
theorem dX2_insert_32 : decode cX2_insert 32 = .ok (.getfield 32, 3) := by decide +kernel
theorem dX2_insert_35 : decode cX2_insert 35 = .ok (.iload_n 1, 1) := by decide +kernel
theorem dX2_insert_36 : decode cX2_insert 36 = .ok (.iload_n 2, 1) := by decide +kernel
theorem dX2_insert_37 : decode cX2_insert 37 = .ok (.invokestatic 35, 3) := by decide +kernel
theorem dX2_insert_40 : decode cX2_insert 40 = .ok (.aload_n 0, 1) := by decide +kernel
theorem dX2_insert_41 : decode cX2_insert 41 = .ok (.invokevirtual 53, 3) := by decide +kernel
theorem dX2_insert_44 : decode cX2_insert 44 = .ok (.aload_n 0, 1) := by decide +kernel
theorem dX2_insert_45 : decode cX2_insert 45 = .ok (.dup, 1) := by decide +kernel
theorem dX2_insert_46 : decode cX2_insert 46 = .ok (.getfield 32, 3) := by decide +kernel
theorem dX2_insert_49 : decode cX2_insert 49 = .ok (.iconst 1, 1) := by decide +kernel
theorem dX2_insert_50 : decode cX2_insert 50 = .ok (.iadd, 1) := by decide +kernel
theorem dX2_insert_51 : decode cX2_insert 51 = .ok (.dup_x1, 1) := by decide +kernel
theorem dX2_insert_52 : decode cX2_insert 52 = .ok (.putfield 32, 3) := by decide +kernel
theorem dX2_insert_55 : decode cX2_insert 55 = .ok (.ireturn, 1) := by decide +kernel
theorem dX2_change_0 : decode cX2_change 0 = .ok (.iload_n 1, 1) := by decide +kernel
theorem dX2_change_1 : decode cX2_change 1 = .ok (.ifCond .lt 11, 3) := by decide +kernel
theorem dX2_change_4 : decode cX2_change 4 = .ok (.iload_n 1, 1) := by decide +kernel
theorem dX2_change_5 : decode cX2_change 5 = .ok (.aload_n 0, 1) := by decide +kernel
theorem dX2_change_6 : decode cX2_change 6 = .ok (.getfield 32, 3) := by decide +kernel
theorem dX2_change_9 : decode cX2_change 9 = .ok (.if_icmp .lt 7, 3) := by decide +kernel
theorem dX2_change_12 : decode cX2_change 12 = .ok (.ldc2_w 39, 3) := by decide +kernel
theorem dX2_change_15 : decode cX2_change 15 = .ok (.lreturn, 1) := by decide +kernel
theorem dX2_change_16 : decode cX2_change 16 = .ok (.aload_n 0, 1) := by decide +kernel
theorem dX2_change_17 : decode cX2_change 17 = .ok (.getfield 16, 3) := by decide +kernel
theorem dX2_change_20 : decode cX2_change 20 = .ok (.iload_n 1, 1) := by decide +kernel
theorem dX2_change_21 : decode cX2_change 21 = .ok (.iaload, 1) := by decide +kernel
theorem dX2_change_22 : decode cX2_change 22 = .ok (.istore 4, 2) := by decide +kernel
theorem dX2_change_24 : decode cX2_change 24 = .ok (.iload_n 3, 1) := by decide +kernel
theorem dX2_change_25 : decode cX2_change 25 = .ok (.ifCond .eq 32, 3) := by decide +kernel
theorem dX2_change_28 : decode cX2_change 28 = .ok (.aload_n 0, 1) := by decide +kernel
theorem dX2_change_29 : decode cX2_change 29 = .ok (.getfield 16, 3) := by decide +kernel
theorem dX2_change_32 : decode cX2_change 32 = .ok (.aload_n 0, 1) := by decide +kernel
theorem dX2_change_33 : decode cX2_change 33 = .ok (.getfield 32, 3) := by decide +kernel
theorem dX2_change_36 : decode cX2_change 36 = .ok (.iload_n 1, 1) := by decide +kernel
theorem dX2_change_37 : decode cX2_change 37 = .ok (.invokestatic 41, 3) := by decide +kernel
theorem dX2_change_40 : decode cX2_change 40 = .ok (.aload_n 0, 1) := by decide +kernel
theorem dX2_change_41 : decode cX2_change 41 = .ok (.dup, 1) := by decide +kernel
theorem dX2_change_42 : decode cX2_change 42 = .ok (.getfield 32, 3) := by decide +kernel
theorem dX2_change_45 : decode cX2_change 45 = .ok (.iconst 1, 1) := by decide +kernel
theorem dX2_change_46 : decode cX2_change 46 = .ok (.isub, 1) := by decide +kernel
theorem dX2_change_47 : decode cX2_change 47 = .ok (.putfield 32, 3) := by decide +kernel
theorem dX2_change_50 : decode cX2_change 50 = .ok (.aload_n 0, 1) := by decide +kernel
theorem dX2_change_51 : decode cX2_change 51 = .ok (.invokevirtual 53, 3) := by decide +kernel
theorem dX2_change_54 : decode cX2_change 54 = .ok (.goto 10, 3) := by decide +kernel
theorem dX2_change_57 : decode cX2_change 57 = .ok (.aload_n 0, 1) := by decide +kernel
theorem dX2_change_58 : decode cX2_change 58 = .ok (.getfield 16, 3) := by decide +kernel
theorem dX2_change_61 : decode cX2_change 61 = .ok (.iload_n 1, 1) := by decide +kernel
theorem dX2_change_62 : decode cX2_change 62 = .ok (.iload_n 2, 1) := by decide +kernel
theorem dX2_change_63 : decode cX2_change 63 = .ok (.iastore, 1) := by decide +kernel
theorem dX2_change_64 : decode cX2_change 64 = .ok (.iload 4, 2) := by decide +kernel
theorem dX2_change_66 : decode cX2_change 66 = .ok (.i2l, 1) := by decide +kernel
theorem dX2_change_67 : decode cX2_change 67 = .ok (.lreturn, 1) := by decide +kernel
theorem dX2_chain_0 : decode cX2_chain 0 = .ok (.iload_n 1, 1) := by decide +kernel
theorem dX2_chain_1 : decode cX2_chain 1 = .ok (.ifCond .lt 11, 3) := by decide +kernel
theorem dX2_chain_4 : decode cX2_chain 4 = .ok (.iload_n 1, 1) := by decide +kernel
theorem dX2_chain_5 : decode cX2_chain 5 = .ok (.aload_n 0, 1) := by decide +kernel
theorem dX2_chain_6 : decode cX2_chain 6 = .ok (.getfield 32, 3) := by decide +kernel
theorem dX2_chain_9 : decode cX2_chain 9 = .ok (.if_icmp .lt 9, 3) := by decide +kernel
theorem dX2_chain_12 : decode cX2_chain 12 = .ok (.ldc2_w 39, 3) := by decide +kernel
theorem dX2_chain_15 : decode cX2_chain 15 = .ok (.goto 10, 3) := by decide +kernel
theorem dX2_chain_18 : decode cX2_chain 18 = .ok (.aload_n 0, 1) := by decide +kernel
theorem dX2_chain_19 : decode cX2_chain 19 = .ok (.getfield 16, 3) := by decide +kernel
theorem dX2_chain_22 : decode cX2_chain 22 = .ok (.iload_n 1, 1) := by decide +kernel
theorem dX2_chain_23 : decode cX2_chain 23 = .ok (.iaload, 1) := by decide +kernel
theorem dX2_chain_24 : decode cX2_chain 24 = .ok (.i2l, 1) := by decide +kernel
theorem dX2_chain_25 : decode cX2_chain 25 = .ok (.lreturn, 1) := by decide +kernel
theorem dX2_find_0 : decode cX2_find 0 = .ok (.aload_n 0, 1) := by decide +kernel
theorem dX2_find_1 : decode cX2_find 1 = .ok (.getfield 16, 3) := by decide +kernel
theorem dX2_find_4 : decode cX2_find 4 = .ok (.aload_n 0, 1) := by decide +kernel
theorem dX2_find_5 : decode cX2_find 5 = .ok (.getfield 32, 3) := by decide +kernel
theorem dX2_find_8 : decode cX2_find 8 = .ok (.iload_n 1, 1) := by decide +kernel
theorem dX2_find_9 : decode cX2_find 9 = .ok (.iload_n 2, 1) := by decide +kernel
theorem dX2_find_10 : decode cX2_find 10 = .ok (.invokestatic 45, 3) := by decide +kernel
theorem dX2_find_13 : decode cX2_find 13 = .ok (.ireturn, 1) := by decide +kernel
theorem dX2_unlink_0 : decode cX2_unlink 0 = .ok (.aload_n 0, 1) := by decide +kernel
theorem dX2_unlink_1 : decode cX2_unlink 1 = .ok (.getfield 16, 3) := by decide +kernel
theorem dX2_unlink_4 : decode cX2_unlink 4 = .ok (.aload_n 0, 1) := by decide +kernel
theorem dX2_unlink_5 : decode cX2_unlink 5 = .ok (.getfield 32, 3) := by decide +kernel
theorem dX2_unlink_8 : decode cX2_unlink 8 = .ok (.iload_n 1, 1) := by decide +kernel
theorem dX2_unlink_9 : decode cX2_unlink 9 = .ok (.iconst 0, 1) := by decide +kernel
theorem dX2_unlink_10 : decode cX2_unlink 10 = .ok (.invokestatic 45, 3) := by decide +kernel
theorem dX2_unlink_13 : decode cX2_unlink 13 = .ok (.istore_n 2, 1) := by decide +kernel
theorem dX2_unlink_14 : decode cX2_unlink 14 = .ok (.iload_n 2, 1) := by decide +kernel
theorem dX2_unlink_15 : decode cX2_unlink 15 = .ok (.ifCond .ge 5, 3) := by decide +kernel
theorem dX2_unlink_18 : decode cX2_unlink 18 = .ok (.iconst 0, 1) := by decide +kernel
theorem dX2_unlink_19 : decode cX2_unlink 19 = .ok (.ireturn, 1) := by decide +kernel
theorem dX2_unlink_20 : decode cX2_unlink 20 = .ok (.aload_n 0, 1) := by decide +kernel
theorem dX2_unlink_21 : decode cX2_unlink 21 = .ok (.getfield 16, 3) := by decide +kernel
theorem dX2_unlink_24 : decode cX2_unlink 24 = .ok (.aload_n 0, 1) := by decide +kernel
theorem dX2_unlink_25 : decode cX2_unlink 25 = .ok (.getfield 32, 3) := by decide +kernel
theorem dX2_unlink_28 : decode cX2_unlink 28 = .ok (.iload_n 2, 1) := by decide +kernel
theorem dX2_unlink_29 : decode cX2_unlink 29 = .ok (.invokestatic 41, 3) := by decide +kernel
theorem dX2_unlink_32 : decode cX2_unlink 32 = .ok (.aload_n 0, 1) := by decide +kernel
theorem dX2_unlink_33 : decode cX2_unlink 33 = .ok (.dup, 1) := by decide +kernel
theorem dX2_unlink_34 : decode cX2_unlink 34 = .ok (.getfield 32, 3) := by decide +kernel
theorem dX2_unlink_37 : decode cX2_unlink 37 = .ok (.iconst 1, 1) := by decide +kernel
theorem dX2_unlink_38 : decode cX2_unlink 38 = .ok (.isub, 1) := by decide +kernel
theorem dX2_unlink_39 : decode cX2_unlink 39 = .ok (.putfield 32, 3) := by decide +kernel
theorem dX2_unlink_42 : decode cX2_unlink 42 = .ok (.aload_n 0, 1) := by decide +kernel
theorem dX2_unlink_43 : decode cX2_unlink 43 = .ok (.invokevirtual 53, 3) := by decide +kernel
theorem dX2_unlink_46 : decode cX2_unlink 46 = .ok (.iconst 1, 1) := by decide +kernel
theorem dX2_unlink_47 : decode cX2_unlink 47 = .ok (.ireturn, 1) := by decide +kernel
theorem dX2_point_0 : decode cX2_point 0 = .ok (.iload_n 1, 1) := by decide +kernel
theorem dX2_point_1 : decode cX2_point 1 = .ok (.ifCond .lt 11, 3) := by decide +kernel
theorem dX2_point_4 : decode cX2_point 4 = .ok (.iload_n 1, 1) := by decide +kernel
theorem dX2_point_5 : decode cX2_point 5 = .ok (.aload_n 0, 1) := by decide +kernel
theorem dX2_point_6 : decode cX2_point 6 = .ok (.getfield 32, 3) := by decide +kernel
theorem dX2_point_9 : decode cX2_point 9 = .ok (.if_icmp .le 5, 3) := by decide +kernel
theorem dX2_point_12 : decode cX2_point 12 = .ok (.iconst (-1), 1) := by decide +kernel
theorem dX2_point_13 : decode cX2_point 13 = .ok (.ireturn, 1) := by decide +kernel
theorem dX2_point_14 : decode cX2_point 14 = .ok (.aload_n 0, 1) := by decide +kernel
theorem dX2_point_15 : decode cX2_point 15 = .ok (.iload_n 1, 1) := by decide +kernel
theorem dX2_point_16 : decode cX2_point 16 = .ok (.putfield 19, 3) := by decide +kernel
theorem dX2_point_19 : decode cX2_point 19 = .ok (.aload_n 0, 1) := by decide +kernel
theorem dX2_point_20 : decode cX2_point 20 = .ok (.iconst (-1), 1) := by decide +kernel
theorem dX2_point_21 : decode cX2_point 21 = .ok (.putfield 23, 3) := by decide +kernel
theorem dX2_point_24 : decode cX2_point 24 = .ok (.iload_n 1, 1) := by decide +kernel
theorem dX2_point_25 : decode cX2_point 25 = .ok (.ireturn, 1) := by decide +kernel
theorem dX2_pass_0 : decode cX2_pass 0 = .ok (.aload_n 0, 1) := by decide +kernel
theorem dX2_pass_1 : decode cX2_pass 1 = .ok (.getfield 19, 3) := by decide +kernel
theorem dX2_pass_4 : decode cX2_pass 4 = .ok (.ifCond .lt 22, 3) := by decide +kernel
theorem dX2_pass_7 : decode cX2_pass 7 = .ok (.aload_n 0, 1) := by decide +kernel
theorem dX2_pass_8 : decode cX2_pass 8 = .ok (.getfield 19, 3) := by decide +kernel
theorem dX2_pass_11 : decode cX2_pass 11 = .ok (.iload_n 1, 1) := by decide +kernel
theorem dX2_pass_12 : decode cX2_pass 12 = .ok (.ifCond .eq 7, 3) := by decide +kernel
theorem dX2_pass_15 : decode cX2_pass 15 = .ok (.iconst 0, 1) := by decide +kernel
theorem dX2_pass_16 : decode cX2_pass 16 = .ok (.goto 7, 3) := by decide +kernel
theorem dX2_pass_19 : decode cX2_pass 19 = .ok (.aload_n 0, 1) := by decide +kernel
theorem dX2_pass_20 : decode cX2_pass 20 = .ok (.getfield 32, 3) := by decide +kernel
theorem dX2_pass_23 : decode cX2_pass 23 = .ok (.if_icmp .ne 7, 3) := by decide +kernel
theorem dX2_pass_26 : decode cX2_pass 26 = .ok (.ldc2_w 39, 3) := by decide +kernel
theorem dX2_pass_29 : decode cX2_pass 29 = .ok (.lreturn, 1) := by decide +kernel
theorem dX2_pass_30 : decode cX2_pass 30 = .ok (.aload_n 0, 1) := by decide +kernel
theorem dX2_pass_31 : decode cX2_pass 31 = .ok (.iload_n 1, 1) := by decide +kernel
theorem dX2_pass_32 : decode cX2_pass 32 = .ok (.ifCond .eq 12, 3) := by decide +kernel
theorem dX2_pass_35 : decode cX2_pass 35 = .ok (.aload_n 0, 1) := by decide +kernel
theorem dX2_pass_36 : decode cX2_pass 36 = .ok (.getfield 19, 3) := by decide +kernel
theorem dX2_pass_39 : decode cX2_pass 39 = .ok (.iconst 1, 1) := by decide +kernel
theorem dX2_pass_40 : decode cX2_pass 40 = .ok (.isub, 1) := by decide +kernel
theorem dX2_pass_41 : decode cX2_pass 41 = .ok (.goto 7, 3) := by decide +kernel
theorem dX2_pass_44 : decode cX2_pass 44 = .ok (.aload_n 0, 1) := by decide +kernel
theorem dX2_pass_45 : decode cX2_pass 45 = .ok (.getfield 19, 3) := by decide +kernel
theorem dX2_pass_48 : decode cX2_pass 48 = .ok (.putfield 23, 3) := by decide +kernel
theorem dX2_pass_51 : decode cX2_pass 51 = .ok (.aload_n 0, 1) := by decide +kernel
theorem dX2_pass_52 : decode cX2_pass 52 = .ok (.dup, 1) := by decide +kernel
theorem dX2_pass_53 : decode cX2_pass 53 = .ok (.getfield 19, 3) := by decide +kernel
theorem dX2_pass_56 : decode cX2_pass 56 = .ok (.iload_n 1, 1) := by decide +kernel
theorem dX2_pass_57 : decode cX2_pass 57 = .ok (.ifCond .eq 7, 3) := by decide +kernel
theorem dX2_pass_60 : decode cX2_pass 60 = .ok (.iconst (-1), 1) := by decide +kernel
theorem dX2_pass_61 : decode cX2_pass 61 = .ok (.goto 4, 3) := by decide +kernel
theorem dX2_pass_64 : decode cX2_pass 64 = .ok (.iconst 1, 1) := by decide +kernel
theorem dX2_pass_65 : decode cX2_pass 65 = .ok (.iadd, 1) := by decide +kernel
theorem dX2_pass_66 : decode cX2_pass 66 = .ok (.putfield 19, 3) := by decide +kernel
theorem dX2_pass_69 : decode cX2_pass 69 = .ok (.aload_n 0, 1) := by decide +kernel
theorem dX2_pass_70 : decode cX2_pass 70 = .ok (.getfield 16, 3) := by decide +kernel
theorem dX2_pass_73 : decode cX2_pass 73 = .ok (.aload_n 0, 1) := by decide +kernel
theorem dX2_pass_74 : decode cX2_pass 74 = .ok (.getfield 23, 3) := by decide +kernel
theorem dX2_pass_77 : decode cX2_pass 77 = .ok (.iaload, 1) := by decide +kernel
theorem dX2_pass_78 : decode cX2_pass 78 = .ok (.i2l, 1) := by decide +kernel
theorem dX2_pass_79 : decode cX2_pass 79 = .ok (.lreturn, 1) := by decide +kernel
theorem dX2_touch_0 : decode cX2_touch 0 = .ok (.aload_n 0, 1) := by decide +kernel
theorem dX2_touch_1 : decode cX2_touch 1 = .ok (.getfield 19, 3) := by decide +kernel
theorem dX2_touch_4 : decode cX2_touch 4 = .ok (.ifCond .lt 24, 3) := by decide +kernel
theorem dX2_touch_7 : decode cX2_touch 7 = .ok (.iload_n 1, 1) := by decide +kernel
theorem dX2_touch_8 : decode cX2_touch 8 = .ok (.ifCond .lt 20, 3) := by decide +kernel
theorem dX2_touch_11 : decode cX2_touch 11 = .ok (.iload_n 1, 1) := by decide +kernel
theorem dX2_touch_12 : decode cX2_touch 12 = .ok (.iconst 2, 1) := by decide +kernel
theorem dX2_touch_13 : decode cX2_touch 13 = .ok (.if_icmp .gt 15, 3) := by decide +kernel
theorem dX2_touch_16 : decode cX2_touch 16 = .ok (.iload_n 1, 1) := by decide +kernel
theorem dX2_touch_17 : decode cX2_touch 17 = .ok (.iconst 2, 1) := by decide +kernel
theorem dX2_touch_18 : decode cX2_touch 18 = .ok (.if_icmp .ge 12, 3) := by decide +kernel
theorem dX2_touch_21 : decode cX2_touch 21 = .ok (.aload_n 0, 1) := by decide +kernel
theorem dX2_touch_22 : decode cX2_touch 22 = .ok (.getfield 23, 3) := by decide +kernel
theorem dX2_touch_25 : decode cX2_touch 25 = .ok (.ifCond .ge 5, 3) := by decide +kernel
theorem dX2_touch_28 : decode cX2_touch 28 = .ok (.iconst (-1), 1) := by decide +kernel
theorem dX2_touch_29 : decode cX2_touch 29 = .ok (.ireturn, 1) := by decide +kernel
theorem dX2_touch_30 : decode cX2_touch 30 = .ok (.iload_n 1, 1) := by decide +kernel
theorem dX2_touch_31 : decode cX2_touch 31 = .ok (.ifCond .ne 16, 3) := by decide +kernel
theorem dX2_touch_34 : decode cX2_touch 34 = .ok (.aload_n 0, 1) := by decide +kernel
theorem dX2_touch_35 : decode cX2_touch 35 = .ok (.getfield 16, 3) := by decide +kernel
theorem dX2_touch_38 : decode cX2_touch 38 = .ok (.aload_n 0, 1) := by decide +kernel
theorem dX2_touch_39 : decode cX2_touch 39 = .ok (.getfield 23, 3) := by decide +kernel
theorem dX2_touch_42 : decode cX2_touch 42 = .ok (.iload_n 2, 1) := by decide +kernel
theorem dX2_touch_43 : decode cX2_touch 43 = .ok (.iastore, 1) := by decide +kernel
theorem dX2_touch_44 : decode cX2_touch 44 = .ok (.goto 116, 3) := by decide +kernel
theorem dX2_touch_47 : decode cX2_touch 47 = .ok (.iload_n 1, 1) := by decide +kernel
theorem dX2_touch_48 : decode cX2_touch 48 = .ok (.iconst 1, 1) := by decide +kernel
theorem dX2_touch_49 : decode cX2_touch 49 = .ok (.if_icmp .ne 57, 3) := by decide +kernel
theorem dX2_touch_52 : decode cX2_touch 52 = .ok (.aload_n 0, 1) := by decide +kernel
theorem dX2_touch_53 : decode cX2_touch 53 = .ok (.getfield 16, 3) := by decide +kernel
theorem dX2_touch_56 : decode cX2_touch 56 = .ok (.aload_n 0, 1) := by decide +kernel
theorem dX2_touch_57 : decode cX2_touch 57 = .ok (.getfield 32, 3) := by decide +kernel
theorem dX2_touch_60 : decode cX2_touch 60 = .ok (.aload_n 0, 1) := by decide +kernel
theorem dX2_touch_61 : decode cX2_touch 61 = .ok (.getfield 23, 3) := by decide +kernel
theorem dX2_touch_64 : decode cX2_touch 64 = .ok (.invokestatic 41, 3) := by decide +kernel
theorem dX2_touch_67 : decode cX2_touch 67 = .ok (.aload_n 0, 1) := by decide +kernel
theorem dX2_touch_68 : decode cX2_touch 68 = .ok (.dup, 1) := by decide +kernel
theorem dX2_touch_69 : decode cX2_touch 69 = .ok (.getfield 32, 3) := by decide +kernel
theorem dX2_touch_72 : decode cX2_touch 72 = .ok (.iconst 1, 1) := by decide +kernel
theorem dX2_touch_73 : decode cX2_touch 73 = .ok (.isub, 1) := by decide +kernel
theorem dX2_touch_74 : decode cX2_touch 74 = .ok (.putfield 32, 3) := by decide +kernel
theorem dX2_touch_77 : decode cX2_touch 77 = .ok (.aload_n 0, 1) := by decide +kernel
theorem dX2_touch_78 : decode cX2_touch 78 = .ok (.getfield 23, 3) := by decide +kernel
theorem dX2_touch_81 : decode cX2_touch 81 = .ok (.aload_n 0, 1) := by decide +kernel
theorem dX2_touch_82 : decode cX2_touch 82 = .ok (.getfield 19, 3) := by decide +kernel
theorem dX2_touch_85 : decode cX2_touch 85 = .ok (.if_icmp .ge 13, 3) := by decide +kernel
theorem dX2_touch_88 : decode cX2_touch 88 = .ok (.aload_n 0, 1) := by decide +kernel
theorem dX2_touch_89 : decode cX2_touch 89 = .ok (.dup, 1) := by decide +kernel
theorem dX2_touch_90 : decode cX2_touch 90 = .ok (.getfield 19, 3) := by decide +kernel
theorem dX2_touch_93 : decode cX2_touch 93 = .ok (.iconst 1, 1) := by decide +kernel
theorem dX2_touch_94 : decode cX2_touch 94 = .ok (.isub, 1) := by decide +kernel
theorem dX2_touch_95 : decode cX2_touch 95 = .ok (.putfield 19, 3) := by decide +kernel
theorem dX2_touch_98 : decode cX2_touch 98 = .ok (.aload_n 0, 1) := by decide +kernel
theorem dX2_touch_99 : decode cX2_touch 99 = .ok (.iconst (-1), 1) := by decide +kernel
theorem dX2_touch_100 : decode cX2_touch 100 = .ok (.putfield 23, 3) := by decide +kernel
theorem dX2_touch_103 : decode cX2_touch 103 = .ok (.goto 57, 3) := by decide +kernel
theorem dX2_touch_106 : decode cX2_touch 106 = .ok (.aload_n 0, 1) := by decide +kernel
theorem dX2_touch_107 : decode cX2_touch 107 = .ok (.getfield 32, 3) := by decide +kernel
theorem dX2_touch_110 : decode cX2_touch 110 = .ok (.sipush 2000, 3) := by decide +kernel
theorem dX2_touch_113 : decode cX2_touch 113 = .ok (.if_icmp .ne 6, 3) := by decide +kernel
theorem dX2_touch_116 : decode cX2_touch 116 = .ok (.bipush (-3), 2) := by decide +kernel
theorem dX2_touch_118 : decode cX2_touch 118 = .ok (.ireturn, 1) := by decide +kernel
theorem dX2_touch_119 : decode cX2_touch 119 = .ok (.aload_n 0, 1) := by decide +kernel
theorem dX2_touch_120 : decode cX2_touch 120 = .ok (.getfield 16, 3) := by decide +kernel
theorem dX2_touch_123 : decode cX2_touch 123 = .ok (.aload_n 0, 1) := by decide +kernel
theorem dX2_touch_124 : decode cX2_touch 124 = .ok (.getfield 32, 3) := by decide +kernel
theorem dX2_touch_127 : decode cX2_touch 127 = .ok (.aload_n 0, 1) := by decide +kernel
theorem dX2_touch_128 : decode cX2_touch 128 = .ok (.getfield 19, 3) := by decide +kernel
theorem dX2_touch_131 : decode cX2_touch 131 = .ok (.iload_n 2, 1) := by decide +kernel
theorem dX2_touch_132 : decode cX2_touch 132 = .ok (.invokestatic 35, 3) := by decide +kernel
theorem dX2_touch_135 : decode cX2_touch 135 = .ok (.aload_n 0, 1) := by decide +kernel
theorem dX2_touch_136 : decode cX2_touch 136 = .ok (.dup, 1) := by decide +kernel
theorem dX2_touch_137 : decode cX2_touch 137 = .ok (.getfield 32, 3) := by decide +kernel
theorem dX2_touch_140 : decode cX2_touch 140 = .ok (.iconst 1, 1) := by decide +kernel
theorem dX2_touch_141 : decode cX2_touch 141 = .ok (.iadd, 1) := by decide +kernel
theorem dX2_touch_142 : decode cX2_touch 142 = .ok (.putfield 32, 3) := by decide +kernel
theorem dX2_touch_145 : decode cX2_touch 145 = .ok (.aload_n 0, 1) := by decide +kernel
theorem dX2_touch_146 : decode cX2_touch 146 = .ok (.dup, 1) := by decide +kernel
theorem dX2_touch_147 : decode cX2_touch 147 = .ok (.getfield 19, 3) := by decide +kernel
theorem dX2_touch_150 : decode cX2_touch 150 = .ok (.iconst 1, 1) := by decide +kernel
theorem dX2_touch_151 : decode cX2_touch 151 = .ok (.iadd, 1) := by decide +kernel
theorem dX2_touch_152 : decode cX2_touch 152 = .ok (.putfield 19, 3) := by decide +kernel
theorem dX2_touch_155 : decode cX2_touch 155 = .ok (.aload_n 0, 1) := by decide +kernel
theorem dX2_touch_156 : decode cX2_touch 156 = .ok (.iconst (-1), 1) := by decide +kernel
theorem dX2_touch_157 : decode cX2_touch 157 = .ok (.putfield 23, 3) := by decide +kernel
theorem dX2_touch_160 : decode cX2_touch 160 = .ok (.aload_n 0, 1) := by decide +kernel
theorem dX2_touch_161 : decode cX2_touch 161 = .ok (.getfield 32, 3) := by decide +kernel
theorem dX2_touch_164 : decode cX2_touch 164 = .ok (.ireturn, 1) := by decide +kernel
theorem dX2_finger_0 : decode cX2_finger 0 = .ok (.aload_n 0, 1) := by decide +kernel
theorem dX2_finger_1 : decode cX2_finger 1 = .ok (.getfield 19, 3) := by decide +kernel
theorem dX2_finger_4 : decode cX2_finger 4 = .ok (.ireturn, 1) := by decide +kernel
theorem dX2_empty_0 : decode cX2_empty 0 = .ok (.aload_n 0, 1) := by decide +kernel
theorem dX2_empty_1 : decode cX2_empty 1 = .ok (.getfield 29, 3) := by decide +kernel
theorem dX2_empty_4 : decode cX2_empty 4 = .ok (.aload_n 0, 1) := by decide +kernel
theorem dX2_empty_5 : decode cX2_empty 5 = .ok (.getfield 26, 3) := by decide +kernel
theorem dX2_empty_8 : decode cX2_empty 8 = .ok (.iadd, 1) := by decide +kernel
theorem dX2_empty_9 : decode cX2_empty 9 = .ok (.sipush 2000, 3) := by decide +kernel
theorem dX2_empty_12 : decode cX2_empty 12 = .ok (.if_icmp .le 6, 3) := by decide +kernel
theorem dX2_empty_15 : decode cX2_empty 15 = .ok (.bipush (-3), 2) := by decide +kernel
theorem dX2_empty_17 : decode cX2_empty 17 = .ok (.ireturn, 1) := by decide +kernel
theorem dX2_empty_18 : decode cX2_empty 18 = .ok (.iconst 0, 1) := by decide +kernel
theorem dX2_empty_19 : decode cX2_empty 19 = .ok (.istore_n 1, 1) := by decide +kernel
theorem dX2_empty_20 : decode cX2_empty 20 = .ok (.iload_n 1, 1) := by decide +kernel
theorem dX2_empty_21 : decode cX2_empty 21 = .ok (.aload_n 0, 1) := by decide +kernel
theorem dX2_empty_22 : decode cX2_empty 22 = .ok (.getfield 26, 3) := by decide +kernel
theorem dX2_empty_25 : decode cX2_empty 25 = .ok (.if_icmp .ge 26, 3) := by decide +kernel
theorem dX2_empty_28 : decode cX2_empty 28 = .ok (.aload_n 0, 1) := by decide +kernel
theorem dX2_empty_29 : decode cX2_empty 29 = .ok (.getfield 13, 3) := by decide +kernel
theorem dX2_empty_32 : decode cX2_empty 32 = .ok (.aload_n 0, 1) := by decide +kernel
theorem dX2_empty_33 : decode cX2_empty 33 = .ok (.getfield 29, 3) := by decide +kernel
theorem dX2_empty_36 : decode cX2_empty 36 = .ok (.iload_n 1, 1) := by decide +kernel
theorem dX2_empty_37 : decode cX2_empty 37 = .ok (.iadd, 1) := by decide +kernel
theorem dX2_empty_38 : decode cX2_empty 38 = .ok (.aload_n 0, 1) := by decide +kernel
theorem dX2_empty_39 : decode cX2_empty 39 = .ok (.getfield 9, 3) := by decide +kernel
theorem dX2_empty_42 : decode cX2_empty 42 = .ok (.iload_n 1, 1) := by decide +kernel
theorem dX2_empty_43 : decode cX2_empty 43 = .ok (.iaload, 1) := by decide +kernel
theorem dX2_empty_44 : decode cX2_empty 44 = .ok (.iastore, 1) := by decide +kernel
theorem dX2_empty_45 : decode cX2_empty 45 = .ok (.iinc 1 1, 3) := by decide +kernel
theorem dX2_empty_48 : decode cX2_empty 48 = .ok (.goto (-28), 3) := by decide +kernel
theorem dX2_empty_51 : decode cX2_empty 51 = .ok (.aload_n 0, 1) := by decide +kernel
theorem dX2_empty_52 : decode cX2_empty 52 = .ok (.dup, 1) := by decide +kernel
theorem dX2_empty_53 : decode cX2_empty 53 = .ok (.getfield 29, 3) := by decide +kernel
theorem dX2_empty_56 : decode cX2_empty 56 = .ok (.aload_n 0, 1) := by decide +kernel
theorem dX2_empty_57 : decode cX2_empty 57 = .ok (.getfield 26, 3) := by decide +kernel
theorem dX2_empty_60 : decode cX2_empty 60 = .ok (.iadd, 1) := by decide +kernel
theorem dX2_empty_61 : decode cX2_empty 61 = .ok (.putfield 29, 3) := by decide +kernel
theorem dX2_empty_64 : decode cX2_empty 64 = .ok (.aload_n 0, 1) := by decide +kernel
theorem dX2_empty_65 : decode cX2_empty 65 = .ok (.iconst 0, 1) := by decide +kernel
theorem dX2_empty_66 : decode cX2_empty 66 = .ok (.putfield 26, 3) := by decide +kernel
theorem dX2_empty_69 : decode cX2_empty 69 = .ok (.aload_n 0, 1) := by decide +kernel
theorem dX2_empty_70 : decode cX2_empty 70 = .ok (.getfield 29, 3) := by decide +kernel
theorem dX2_empty_73 : decode cX2_empty 73 = .ok (.ireturn, 1) := by decide +kernel
theorem dX2_hand_0 : decode cX2_hand 0 = .ok (.aload_n 0, 1) := by decide +kernel
theorem dX2_hand_1 : decode cX2_hand 1 = .ok (.getfield 29, 3) := by decide +kernel
theorem dX2_hand_4 : decode cX2_hand 4 = .ok (.aload_n 0, 1) := by decide +kernel
theorem dX2_hand_5 : decode cX2_hand 5 = .ok (.getfield 32, 3) := by decide +kernel
theorem dX2_hand_8 : decode cX2_hand 8 = .ok (.iadd, 1) := by decide +kernel
theorem dX2_hand_9 : decode cX2_hand 9 = .ok (.sipush 2000, 3) := by decide +kernel
theorem dX2_hand_12 : decode cX2_hand 12 = .ok (.if_icmp .le 6, 3) := by decide +kernel
theorem dX2_hand_15 : decode cX2_hand 15 = .ok (.bipush (-3), 2) := by decide +kernel
theorem dX2_hand_17 : decode cX2_hand 17 = .ok (.ireturn, 1) := by decide +kernel
theorem dX2_hand_18 : decode cX2_hand 18 = .ok (.aload_n 0, 1) := by decide +kernel
theorem dX2_hand_19 : decode cX2_hand 19 = .ok (.getfield 32, 3) := by decide +kernel
theorem dX2_hand_22 : decode cX2_hand 22 = .ok (.ifCond .le 7, 3) := by decide +kernel
theorem dX2_hand_25 : decode cX2_hand 25 = .ok (.aload_n 0, 1) := by decide +kernel
theorem dX2_hand_26 : decode cX2_hand 26 = .ok (.invokevirtual 53, 3) := by decide +kernel
theorem dX2_hand_29 : decode cX2_hand 29 = .ok (.aload_n 0, 1) := by decide +kernel
theorem dX2_hand_30 : decode cX2_hand 30 = .ok (.getfield 29, 3) := by decide +kernel
theorem dX2_hand_33 : decode cX2_hand 33 = .ok (.iconst 1, 1) := by decide +kernel
theorem dX2_hand_34 : decode cX2_hand 34 = .ok (.isub, 1) := by decide +kernel
theorem dX2_hand_35 : decode cX2_hand 35 = .ok (.istore_n 1, 1) := by decide +kernel
theorem dX2_hand_36 : decode cX2_hand 36 = .ok (.iload_n 1, 1) := by decide +kernel
theorem dX2_hand_37 : decode cX2_hand 37 = .ok (.ifCond .lt 26, 3) := by decide +kernel
theorem dX2_hand_40 : decode cX2_hand 40 = .ok (.aload_n 0, 1) := by decide +kernel
theorem dX2_hand_41 : decode cX2_hand 41 = .ok (.getfield 13, 3) := by decide +kernel
theorem dX2_hand_44 : decode cX2_hand 44 = .ok (.iload_n 1, 1) := by decide +kernel
theorem dX2_hand_45 : decode cX2_hand 45 = .ok (.aload_n 0, 1) := by decide +kernel
theorem dX2_hand_46 : decode cX2_hand 46 = .ok (.getfield 32, 3) := by decide +kernel
theorem dX2_hand_49 : decode cX2_hand 49 = .ok (.iadd, 1) := by decide +kernel
theorem dX2_hand_50 : decode cX2_hand 50 = .ok (.aload_n 0, 1) := by decide +kernel
theorem dX2_hand_51 : decode cX2_hand 51 = .ok (.getfield 13, 3) := by decide +kernel
theorem dX2_hand_54 : decode cX2_hand 54 = .ok (.iload_n 1, 1) := by decide +kernel
theorem dX2_hand_55 : decode cX2_hand 55 = .ok (.iaload, 1) := by decide +kernel
theorem dX2_hand_56 : decode cX2_hand 56 = .ok (.iastore, 1) := by decide +kernel
theorem dX2_hand_57 : decode cX2_hand 57 = .ok (.iinc 1 (-1), 3) := by decide +kernel
theorem dX2_hand_60 : decode cX2_hand 60 = .ok (.goto (-24), 3) := by decide +kernel
theorem dX2_hand_63 : decode cX2_hand 63 = .ok (.iconst 0, 1) := by decide +kernel
theorem dX2_hand_64 : decode cX2_hand 64 = .ok (.istore_n 1, 1) := by decide +kernel
theorem dX2_hand_65 : decode cX2_hand 65 = .ok (.iload_n 1, 1) := by decide +kernel
theorem dX2_hand_66 : decode cX2_hand 66 = .ok (.aload_n 0, 1) := by decide +kernel
theorem dX2_hand_67 : decode cX2_hand 67 = .ok (.getfield 32, 3) := by decide +kernel
theorem dX2_hand_70 : decode cX2_hand 70 = .ok (.if_icmp .ge 21, 3) := by decide +kernel
theorem dX2_hand_73 : decode cX2_hand 73 = .ok (.aload_n 0, 1) := by decide +kernel
theorem dX2_hand_74 : decode cX2_hand 74 = .ok (.getfield 13, 3) := by decide +kernel
theorem dX2_hand_77 : decode cX2_hand 77 = .ok (.iload_n 1, 1) := by decide +kernel
theorem dX2_hand_78 : decode cX2_hand 78 = .ok (.aload_n 0, 1) := by decide +kernel
theorem dX2_hand_79 : decode cX2_hand 79 = .ok (.getfield 16, 3) := by decide +kernel
theorem dX2_hand_82 : decode cX2_hand 82 = .ok (.iload_n 1, 1) := by decide +kernel
theorem dX2_hand_83 : decode cX2_hand 83 = .ok (.iaload, 1) := by decide +kernel
theorem dX2_hand_84 : decode cX2_hand 84 = .ok (.iastore, 1) := by decide +kernel
theorem dX2_hand_85 : decode cX2_hand 85 = .ok (.iinc 1 1, 3) := by decide +kernel
theorem dX2_hand_88 : decode cX2_hand 88 = .ok (.goto (-23), 3) := by decide +kernel
theorem dX2_hand_91 : decode cX2_hand 91 = .ok (.aload_n 0, 1) := by decide +kernel
theorem dX2_hand_92 : decode cX2_hand 92 = .ok (.dup, 1) := by decide +kernel
theorem dX2_hand_93 : decode cX2_hand 93 = .ok (.getfield 29, 3) := by decide +kernel
theorem dX2_hand_96 : decode cX2_hand 96 = .ok (.aload_n 0, 1) := by decide +kernel
theorem dX2_hand_97 : decode cX2_hand 97 = .ok (.getfield 32, 3) := by decide +kernel
theorem dX2_hand_100 : decode cX2_hand 100 = .ok (.iadd, 1) := by decide +kernel
theorem dX2_hand_101 : decode cX2_hand 101 = .ok (.putfield 29, 3) := by decide +kernel
theorem dX2_hand_104 : decode cX2_hand 104 = .ok (.aload_n 0, 1) := by decide +kernel
theorem dX2_hand_105 : decode cX2_hand 105 = .ok (.iconst 0, 1) := by decide +kernel
theorem dX2_hand_106 : decode cX2_hand 106 = .ok (.putfield 32, 3) := by decide +kernel
theorem dX2_hand_109 : decode cX2_hand 109 = .ok (.aload_n 0, 1) := by decide +kernel
theorem dX2_hand_110 : decode cX2_hand 110 = .ok (.getfield 29, 3) := by decide +kernel
theorem dX2_hand_113 : decode cX2_hand 113 = .ok (.ireturn, 1) := by decide +kernel
end
section
theorem inX2_init_X2 : ∀ w ∈ wsX20, w ∈ wsX2_init := by decide +kernel
theorem inX2_many_X2 : ∀ w ∈ wsX20, w ∈ wsX2_many := by decide +kernel
theorem inX2_lift_X2 : ∀ w ∈ wsX20, w ∈ wsX2_lift := by decide +kernel
theorem inX2_enter_X2 : ∀ w ∈ wsX20, w ∈ wsX2_enter := by decide +kernel
set_option maxRecDepth 20000 in
theorem gX2_enter_X2_put : GoodIn wsX2_enter wsX2_put := goodIn_r _ [6] (by decide +kernel) (by decide +kernel)
set_option maxRecDepth 20000 in
theorem gX2_enter_X2_put_v : GoodIn wsX2_enter (wsS RX2 35 yX2_put wsX2_put) := goodIn_app (goodIn_r _ [3, 4, 5] (by decide +kernel) (by decide +kernel)) gX2_enter_X2_put
theorem inX2_call_X2 : ∀ w ∈ wsX20, w ∈ wsX2_call := by decide +kernel
set_option maxRecDepth 20000 in
theorem gX2_call_X2_take : GoodIn wsX2_call wsX2_take := goodIn_r _ [7] (by decide +kernel) (by decide +kernel)
set_option maxRecDepth 20000 in
theorem gX2_call_X2_take_v : GoodIn wsX2_call (wsS RX2 41 yX2_take wsX2_take) := goodIn_app (goodIn_r _ [4, 5, 6] (by decide +kernel) (by decide +kernel)) gX2_call_X2_take
theorem inX2_leave_X2 : ∀ w ∈ wsX20, w ∈ wsX2_leave := by decide +kernel
set_option maxRecDepth 20000 in
theorem gX2_leave_X2_place : GoodIn wsX2_leave wsX2_place := goodIn_r _ [6] (by decide +kernel) (by decide +kernel)
set_option maxRecDepth 20000 in
theorem gX2_leave_X2_place_v : GoodIn wsX2_leave (wsS RX2 45 yX2_place wsX2_place) := goodIn_app (goodIn_r _ [3, 4, 5] (by decide +kernel) (by decide +kernel)) gX2_leave_X2_place
set_option maxRecDepth 20000 in
theorem gX2_leave_X2_take : GoodIn wsX2_leave wsX2_take := goodIn_r _ [9] (by decide +kernel) (by decide +kernel)
set_option maxRecDepth 20000 in
theorem gX2_leave_X2_take_v : GoodIn wsX2_leave (wsS RX2 41 yX2_take wsX2_take) := goodIn_app (goodIn_r _ [7, 8, 5] (by decide +kernel) (by decide +kernel)) gX2_leave_X2_take
theorem inX2_unlink_X2 : ∀ w ∈ wsX20, w ∈ wsX2_unlink := by decide +kernel
set_option maxRecDepth 20000 in
theorem gX2_unlink_X2_place : GoodIn wsX2_unlink wsX2_place := goodIn_r _ [6] (by decide +kernel) (by decide +kernel)
set_option maxRecDepth 20000 in
theorem gX2_unlink_X2_place_v : GoodIn wsX2_unlink (wsS RX2 45 yX2_place wsX2_place) := goodIn_app (goodIn_r _ [3, 4, 5] (by decide +kernel) (by decide +kernel)) gX2_unlink_X2_place
set_option maxRecDepth 20000 in
theorem gX2_unlink_X2_take : GoodIn wsX2_unlink wsX2_take := goodIn_r _ [9] (by decide +kernel) (by decide +kernel)
set_option maxRecDepth 20000 in
theorem gX2_unlink_X2_take_v : GoodIn wsX2_unlink (wsS RX2 41 yX2_take wsX2_take) := goodIn_app (goodIn_r _ [7, 8, 5] (by decide +kernel) (by decide +kernel)) gX2_unlink_X2_take
set_option maxRecDepth 20000 in
theorem gX2_unlink_X2_lift : GoodIn wsX2_unlink wsX2_lift := goodIn_r _ [13, 14, 15, 16, 17, 18, 19, 20, 21, 22, 23] (by decide +kernel) (by decide +kernel)
set_option maxRecDepth 20000 in
theorem gX2_unlink_X2_lift_v : GoodIn wsX2_unlink (wsV RX2 53 RX2 yX2_lift wsX2_lift) := goodIn_app (goodIn_r _ [10, 11, 12, 5] (by decide +kernel) (by decide +kernel)) gX2_unlink_X2_lift
theorem inX2_has_X2 : ∀ w ∈ wsX20, w ∈ wsX2_has := by decide +kernel
set_option maxRecDepth 20000 in
theorem gX2_has_X2_many : GoodIn wsX2_has wsX2_many := goodIn_r _ [8, 9, 10, 11, 15, 16, 17, 18, 19, 20, 21, 22] (by decide +kernel) (by decide +kernel)
set_option maxRecDepth 20000 in
theorem gX2_has_X2_many_v : GoodIn wsX2_has (wsV RX2 49 RX2 yX2_many wsX2_many) := goodIn_app (goodIn_r _ [4, 5, 6, 7] (by decide +kernel) (by decide +kernel)) gX2_has_X2_many
set_option maxRecDepth 20000 in
theorem gX2_has_X2_place : GoodIn wsX2_has wsX2_place := goodIn_r _ [14] (by decide +kernel) (by decide +kernel)
set_option maxRecDepth 20000 in
theorem gX2_has_X2_place_v : GoodIn wsX2_has (wsS RX2 45 yX2_place wsX2_place) := goodIn_app (goodIn_r _ [12, 13, 7] (by decide +kernel) (by decide +kernel)) gX2_has_X2_place
set_option maxRecDepth 20000 in
theorem gX2_size_X2_many : GoodIn wsX2_size wsX2_many := goodIn_r _ [5, 6, 7, 8, 9, 10, 11, 12, 13, 14, 15, 16] (by decide +kernel) (by decide +kernel)
set_option maxRecDepth 20000 in
theorem gX2_size_X2_many_v : GoodIn wsX2_size (wsV RX2 49 RX2 yX2_many wsX2_many) := goodIn_app (goodIn_r _ [1, 2, 3, 4] (by decide +kernel) (by decide +kernel)) gX2_size_X2_many
set_option maxRecDepth 20000 in
theorem gX2_clear_X2_many : GoodIn wsX2_clear wsX2_many := goodIn_r _ [5, 6, 7, 8, 15, 16, 17, 18, 19, 20, 21, 22] (by decide +kernel) (by decide +kernel)
set_option maxRecDepth 20000 in
theorem gX2_clear_X2_many_v : GoodIn wsX2_clear (wsV RX2 49 RX2 yX2_many wsX2_many) := goodIn_app (goodIn_r _ [1, 2, 3, 4] (by decide +kernel) (by decide +kernel)) gX2_clear_X2_many
theorem inX2_clear_X2 : ∀ w ∈ wsX20, w ∈ wsX2_clear := by decide +kernel
set_option maxRecDepth 20000 in
theorem gX2_clear_X2_lift : GoodIn wsX2_clear wsX2_lift := goodIn_r _ [12, 13, 14, 15, 16, 17, 18, 19, 20, 21, 22] (by decide +kernel) (by decide +kernel)
set_option maxRecDepth 20000 in
theorem gX2_clear_X2_lift_v : GoodIn wsX2_clear (wsV RX2 53 RX2 yX2_lift wsX2_lift) := goodIn_app (goodIn_r _ [9, 10, 11, 4] (by decide +kernel) (by decide +kernel)) gX2_clear_X2_lift
theorem inX2_join_X2 : ∀ w ∈ wsX20, w ∈ wsX2_join := by decide +kernel
set_option maxRecDepth 20000 in
theorem gX2_join_X2_put : GoodIn wsX2_join wsX2_put := goodIn_r _ [6] (by decide +kernel) (by decide +kernel)
set_option maxRecDepth 20000 in
theorem gX2_join_X2_put_v : GoodIn wsX2_join (wsS RX2 35 yX2_put wsX2_put) := goodIn_app (goodIn_r _ [3, 4, 5] (by decide +kernel) (by decide +kernel)) gX2_join_X2_put
theorem inX2_serve_X2 : ∀ w ∈ wsX20, w ∈ wsX2_serve := by decide +kernel
set_option maxRecDepth 20000 in
theorem gX2_serve_X2_take : GoodIn wsX2_serve wsX2_take := goodIn_r _ [7] (by decide +kernel) (by decide +kernel)
set_option maxRecDepth 20000 in
theorem gX2_serve_X2_take_v : GoodIn wsX2_serve (wsS RX2 41 yX2_take wsX2_take) := goodIn_app (goodIn_r _ [4, 5, 6] (by decide +kernel) (by decide +kernel)) gX2_serve_X2_take
theorem inX2_drop_X2 : ∀ w ∈ wsX20, w ∈ wsX2_drop := by decide +kernel
set_option maxRecDepth 20000 in
theorem gX2_drop_X2_place : GoodIn wsX2_drop wsX2_place := goodIn_r _ [6] (by decide +kernel) (by decide +kernel)
set_option maxRecDepth 20000 in
theorem gX2_drop_X2_place_v : GoodIn wsX2_drop (wsS RX2 45 yX2_place wsX2_place) := goodIn_app (goodIn_r _ [3, 4, 5] (by decide +kernel) (by decide +kernel)) gX2_drop_X2_place
set_option maxRecDepth 20000 in
theorem gX2_drop_X2_take : GoodIn wsX2_drop wsX2_take := goodIn_r _ [9] (by decide +kernel) (by decide +kernel)
set_option maxRecDepth 20000 in
theorem gX2_drop_X2_take_v : GoodIn wsX2_drop (wsS RX2 41 yX2_take wsX2_take) := goodIn_app (goodIn_r _ [7, 8, 5] (by decide +kernel) (by decide +kernel)) gX2_drop_X2_take
theorem inX2_ring_X2 : ∀ w ∈ wsX20, w ∈ wsX2_ring := by decide +kernel
theorem inX2_insert_X2 : ∀ w ∈ wsX20, w ∈ wsX2_insert := by decide +kernel
set_option maxRecDepth 20000 in
theorem gX2_insert_X2_put : GoodIn wsX2_insert wsX2_put := goodIn_r _ [6] (by decide +kernel) (by decide +kernel)
set_option maxRecDepth 20000 in
theorem gX2_insert_X2_put_v : GoodIn wsX2_insert (wsS RX2 35 yX2_put wsX2_put) := goodIn_app (goodIn_r _ [3, 4, 5] (by decide +kernel) (by decide +kernel)) gX2_insert_X2_put
set_option maxRecDepth 20000 in
theorem gX2_insert_X2_lift : GoodIn wsX2_insert wsX2_lift := goodIn_r _ [10, 11, 12, 13, 14, 15, 16, 17, 18, 19, 20] (by decide +kernel) (by decide +kernel)
set_option maxRecDepth 20000 in
theorem gX2_insert_X2_lift_v : GoodIn wsX2_insert (wsV RX2 53 RX2 yX2_lift wsX2_lift) := goodIn_app (goodIn_r _ [7, 8, 9, 5] (by decide +kernel) (by decide +kernel)) gX2_insert_X2_lift
theorem inX2_point_X2 : ∀ w ∈ wsX20, w ∈ wsX2_point := by decide +kernel
theorem inX2_change_X2 : ∀ w ∈ wsX20, w ∈ wsX2_change := by decide +kernel
set_option maxRecDepth 20000 in
theorem gX2_change_X2_take : GoodIn wsX2_change wsX2_take := goodIn_r _ [7] (by decide +kernel) (by decide +kernel)
set_option maxRecDepth 20000 in
theorem gX2_change_X2_take_v : GoodIn wsX2_change (wsS RX2 41 yX2_take wsX2_take) := goodIn_app (goodIn_r _ [4, 5, 6] (by decide +kernel) (by decide +kernel)) gX2_change_X2_take
set_option maxRecDepth 20000 in
theorem gX2_change_X2_lift : GoodIn wsX2_change wsX2_lift := goodIn_r _ [11, 12, 13, 14, 15, 16, 17, 18, 19, 20, 21] (by decide +kernel) (by decide +kernel)
set_option maxRecDepth 20000 in
theorem gX2_change_X2_lift_v : GoodIn wsX2_change (wsV RX2 53 RX2 yX2_lift wsX2_lift) := goodIn_app (goodIn_r _ [8, 9, 10, 6] (by decide +kernel) (by decide +kernel)) gX2_change_X2_lift
theorem inX2_chain_X2 : ∀ w ∈ wsX20, w ∈ wsX2_chain := by decide +kernel
theorem inX2_find_X2 : ∀ w ∈ wsX20, w ∈ wsX2_find := by decide +kernel
set_option maxRecDepth 20000 in
theorem gX2_find_X2_place : GoodIn wsX2_find wsX2_place := goodIn_r _ [6] (by decide +kernel) (by decide +kernel)
set_option maxRecDepth 20000 in
theorem gX2_find_X2_place_v : GoodIn wsX2_find (wsS RX2 45 yX2_place wsX2_place) := goodIn_app (goodIn_r _ [3, 4, 5] (by decide +kernel) (by decide +kernel)) gX2_find_X2_place
theorem inX2_finger_X2 : ∀ w ∈ wsX20, w ∈ wsX2_finger := by decide +kernel
theorem inX2_sieve_X2 : ∀ w ∈ wsX20, w ∈ wsX2_sieve := by decide +kernel
set_option maxRecDepth 20000 in
theorem gX2_sieve_J9_floorMod_7cf53 : GoodIn wsX2_sieve wsJ9_floorMod_7cf53 := goodIn_r _ [6] (by decide +kernel) (by decide +kernel)
set_option maxRecDepth 20000 in
theorem gX2_sieve_J9_floorMod_7cf53_v : GoodIn wsX2_sieve (va_wsS RX2 56 yJ9_floorMod_7cf53 wsJ9_floorMod_7cf53) := goodIn_app (goodIn_r _ [3, 4, 5] (by decide +kernel) (by decide +kernel)) gX2_sieve_J9_floorMod_7cf53
theorem inX2_roll_X2 : ∀ w ∈ wsX20, w ∈ wsX2_roll := by decide +kernel
set_option maxRecDepth 20000 in
theorem gX2_roll_X2_take : GoodIn wsX2_roll wsX2_take := goodIn_r _ [6] (by decide +kernel) (by decide +kernel)
set_option maxRecDepth 20000 in
theorem gX2_roll_X2_take_v : GoodIn wsX2_roll (wsS RX2 41 yX2_take wsX2_take) := goodIn_app (goodIn_r _ [3, 4, 5] (by decide +kernel) (by decide +kernel)) gX2_roll_X2_take
theorem inX2_pass_X2 : ∀ w ∈ wsX20, w ∈ wsX2_pass := by decide +kernel
theorem inX2_touch_X2 : ∀ w ∈ wsX20, w ∈ wsX2_touch := by decide +kernel
set_option maxRecDepth 20000 in
theorem gX2_touch_X2_take : GoodIn wsX2_touch wsX2_take := goodIn_r _ [8] (by decide +kernel) (by decide +kernel)
set_option maxRecDepth 20000 in
theorem gX2_touch_X2_take_v : GoodIn wsX2_touch (wsS RX2 41 yX2_take wsX2_take) := goodIn_app (goodIn_r _ [5, 6, 7] (by decide +kernel) (by decide +kernel)) gX2_touch_X2_take
set_option maxRecDepth 20000 in
theorem gX2_touch_X2_put : GoodIn wsX2_touch wsX2_put := goodIn_r _ [11] (by decide +kernel) (by decide +kernel)
set_option maxRecDepth 20000 in
theorem gX2_touch_X2_put_v : GoodIn wsX2_touch (wsS RX2 35 yX2_put wsX2_put) := goodIn_app (goodIn_r _ [9, 10, 7] (by decide +kernel) (by decide +kernel)) gX2_touch_X2_put
theorem inX2_empty_X2 : ∀ w ∈ wsX20, w ∈ wsX2_empty := by decide +kernel
theorem inX2_hand_X2 : ∀ w ∈ wsX20, w ∈ wsX2_hand := by decide +kernel
set_option maxRecDepth 20000 in
theorem gX2_hand_X2_lift : GoodIn wsX2_hand wsX2_lift := goodIn_r _ [7, 8, 9, 12, 13, 14, 15, 16, 17, 18, 19] (by decide +kernel) (by decide +kernel)
set_option maxRecDepth 20000 in
theorem gX2_hand_X2_lift_v : GoodIn wsX2_hand (wsV RX2 53 RX2 yX2_lift wsX2_lift) := goodIn_app (goodIn_r _ [3, 4, 5, 6] (by decide +kernel) (by decide +kernel)) gX2_hand_X2_lift
set_option maxHeartbeats 4000000 in
set_option maxRecDepth 100000 in
theorem c_Mod_init (l : Launch) (dC : Nat → ClassId) (dI : Nat → Nat → Nat) (sz : Nat) (m0 : Nat) : Met l yX2_init wsX2_init ({ frames := 1, cells := 3, slots := 6000, locals := 12 }) (va_Pc [.ref m0] (fun U => U.heap.size = sz ∧ va_P (dC, dI) vwCl [(m0, .inr (2, [.null, .null, .null, .int (nI 0), .int (nI 0), .int (nI 0), .int (nI 0), .int (nI 0)]))] U.heap ∧ va_K (dC, dI) vwCl [] U ∧ va_D (fun _ => True) [(m0, .inr (2, [.null, .null, .null, .int (nI 0), .int (nI 0), .int (nI 0), .int (nI 0), .int (nI 0)]))])) (va_Qv (fun (u : ClassId × Nat × Nat × Nat) => True) (at_MI dC dI (va_A [(m0, .inr (2, [.null, .null, .null, .int (nI 0), .int (nI 0), .int (nI 0), .int (nI 0), .int (nI 0)]))] sz) m0) (va_A [(m0, .inr (2, [.null, .null, .null, .int (nI 0), .int (nI 0), .int (nI 0), .int (nI 0), .int (nI 0)]))] sz)) 3 6000 (va_A [(m0, .inr (2, [.null, .null, .null, .int (nI 0), .int (nI 0), .int (nI 0), .int (nI 0), .int (nI 0)]))] sz) := by
  refine Met.ofW (cc := cX2_init) (maxL := 1) (ret := none) (by decide +kernel) rfl ?_
  intro p e s m args below meth c s₁ B hml hv
  obtain ⟨rfl, hsz, hP, hK, hD0⟩ := hv
  have hx := B.exec
  have hb := B.bytes
  have hr := B.returns
  have hts := atoms_spec (ws := wsX2_init) B.pre
  have hown : s.vm.findClass RX2 = some m.cls := findClass_of_methodNamed B.named
  have hlocks := B.notSynchronized
  have hin : meth.name = "<init>" := (name_of_methodNamed B.named B.method).1
  subst hsz
  have hD := hD0.self (sz := s.heap.size)
  generalize hAe : va_A [(m0, .inr (2, [.null, .null, .null, .int (nI 0), .int (nI 0), .int (nI 0), .int (nI 0), .int (nI 0)]))] s.heap.size = A at hD ⊢
  have hA : ∀ q : Nat, s.heap.size ≤ q → A q := fun q h => by rw [← hAe]; exact Or.inr h
  have hS : va_S A s.heap s.heap [] := va_S.rf
  have hl := lv_entry ([.ref m0]) (n := 1) (Nat.le_of_ble_eq_true rfl)
  rw [lg_entry_eq]
  generalize (lg_sl ([.ref m0]) ++ List.replicate (1 - (lg_sl ([.ref m0])).length) Slot.unset).toArray = ls at hl ⊢
  have hl : lv_has ls 1 [(0, .ref m0)] := hl
  refine lv_aload_n hx hb dX2_init_0 rfl (lv_at hl 0 rfl) ?_
  refine W.objInit hx hb hown (hts (.methodLink RX2 1 objectInit) (List.mem_of_getElem? (i := 1) (by decide +kernel))) (hts (.instanceMethod objectInit) (List.mem_of_getElem? (i := 2) (by decide +kernel))) (hts (.code objectInit ⟨#[0xb1]⟩ 1 none) (List.mem_of_getElem? (i := 3) (by decide +kernel))) rfl (by rw [hml]; exact hl.1) rfl dX2_init_1 (Nat.le_of_ble_eq_true rfl) (Nat.le_of_ble_eq_true rfl) ?_
  refine W.eq (g2 := F0 m 4 ls []) rfl ?_
  refine lv_aload_n hx hb dX2_init_4 rfl (lv_at hl 0 rfl) ?_
  refine lv_sipush (v := 2000) hx hb dX2_init_5 (by decide) ?_
  refine q_newi (N := 2000) hx hb (hts (.arrayClass .int) (List.mem_of_getElem? (i := 4) (by decide +kernel))) hK hP hD hS hA (by decide +kernel) (by decide +kernel) (by decide +kernel) (by decide +kernel) (by decide +kernel) dX2_init_8 (fun c1 cA1 H hK hP hD hS => ?_)
  have hK : va_K (dC, dI) vwCl [(cA1, .int)] s := hK
  have hP : va_P (dC, dI) vwCl [(m0, .inr (2, [.null, .null, .null, .int (nI 0), .int (nI 0), .int (nI 0), .int (nI 0), .int (nI 0)])), (c1, .inl (cA1, 2000, .inl (fun _ => 0)))] H := hP
  have hD : va_D A [(m0, .inr (2, [.null, .null, .null, .int (nI 0), .int (nI 0), .int (nI 0), .int (nI 0), .int (nI 0)])), (c1, .inl (cA1, 2000, .inl (fun _ => 0)))] := hD
  refine va_putF (D := (dC, dI)) (ci := 2) (v := .ref c1) (ty := .array .int) (C := RX2) (T := TX2) (N := 8) hx hb hts inX2_init_X2 tyX2 tyX2_ok nmX2 hown hK hP hD hS 0 rfl rfl 0 (by decide) (hts (.fieldLink RX2 9 "QueueHallModel" "hall" "[I") (List.mem_of_getElem? (i := 5) (by decide +kernel))) (fun _ h9 => h9) rfl hin rfl (by decide +kernel) rfl rfl (Nat.le_of_ble_eq_true rfl) dX2_init_10 (fun H locs hP hD hS => ?_)
  have hP : va_P (dC, dI) vwCl [(m0, .inr (2, [.ref c1, .null, .null, .int (nI 0), .int (nI 0), .int (nI 0), .int (nI 0), .int (nI 0)])), (c1, .inl (cA1, 2000, .inl (fun _ => 0)))] H := hP
  have hD : va_D A [(m0, .inr (2, [.ref c1, .null, .null, .int (nI 0), .int (nI 0), .int (nI 0), .int (nI 0), .int (nI 0)])), (c1, .inl (cA1, 2000, .inl (fun _ => 0)))] := hD
  refine lv_aload_n hx hb dX2_init_13 rfl (lv_at hl 0 rfl) ?_
  refine lv_sipush (v := 2000) hx hb dX2_init_14 (by decide) ?_
  refine q_newi (N := 2000) hx hb (hts (.arrayClass .int) (List.mem_of_getElem? (i := 4) (by decide +kernel))) hK hP hD hS hA (by decide +kernel) (by decide +kernel) (by decide +kernel) (by decide +kernel) (by decide +kernel) dX2_init_17 (fun c2 cA2 H hK hP hD hS => ?_)
  obtain rfl : cA1 = cA2 := Option.some.inj ((va_nm_int (hK.2 0 _ rfl).2).symm.trans (va_nm_int (hK.2 1 _ rfl).2))
  have hK := hK.sub (tys' := [(cA1, .int)]) [0] rfl
  have hP : va_P (dC, dI) vwCl [(m0, .inr (2, [.ref c1, .null, .null, .int (nI 0), .int (nI 0), .int (nI 0), .int (nI 0), .int (nI 0)])), (c1, .inl (cA1, 2000, .inl (fun _ => 0))), (c2, .inl (cA1, 2000, .inl (fun _ => 0)))] H := hP
  have hD : va_D A [(m0, .inr (2, [.ref c1, .null, .null, .int (nI 0), .int (nI 0), .int (nI 0), .int (nI 0), .int (nI 0)])), (c1, .inl (cA1, 2000, .inl (fun _ => 0))), (c2, .inl (cA1, 2000, .inl (fun _ => 0)))] := hD
  refine va_putF (D := (dC, dI)) (ci := 2) (v := .ref c2) (ty := .array .int) (C := RX2) (T := TX2) (N := 8) hx hb hts inX2_init_X2 tyX2 tyX2_ok nmX2 hown hK hP hD hS 0 rfl rfl 1 (by decide) (hts (.fieldLink RX2 13 "QueueHallModel" "ring" "[I") (List.mem_of_getElem? (i := 6) (by decide +kernel))) (fun _ h9 => h9) rfl hin rfl (by decide +kernel) rfl rfl (Nat.le_of_ble_eq_true rfl) dX2_init_19 (fun H locs hP hD hS => ?_)
  have hP : va_P (dC, dI) vwCl [(m0, .inr (2, [.ref c1, .ref c2, .null, .int (nI 0), .int (nI 0), .int (nI 0), .int (nI 0), .int (nI 0)])), (c1, .inl (cA1, 2000, .inl (fun _ => 0))), (c2, .inl (cA1, 2000, .inl (fun _ => 0)))] H := hP
  have hD : va_D A [(m0, .inr (2, [.ref c1, .ref c2, .null, .int (nI 0), .int (nI 0), .int (nI 0), .int (nI 0), .int (nI 0)])), (c1, .inl (cA1, 2000, .inl (fun _ => 0))), (c2, .inl (cA1, 2000, .inl (fun _ => 0)))] := hD
  refine lv_aload_n hx hb dX2_init_22 rfl (lv_at hl 0 rfl) ?_
  refine lv_sipush (v := 2000) hx hb dX2_init_23 (by decide) ?_
  refine q_newi (N := 2000) hx hb (hts (.arrayClass .int) (List.mem_of_getElem? (i := 4) (by decide +kernel))) hK hP hD hS hA (by decide +kernel) (by decide +kernel) (by decide +kernel) (by decide +kernel) (by decide +kernel) dX2_init_26 (fun c3 cA3 H hK hP hD hS => ?_)
  obtain rfl : cA1 = cA3 := Option.some.inj ((va_nm_int (hK.2 0 _ rfl).2).symm.trans (va_nm_int (hK.2 1 _ rfl).2))
  have hK := hK.sub (tys' := [(cA1, .int)]) [0] rfl
  have hP : va_P (dC, dI) vwCl [(m0, .inr (2, [.ref c1, .ref c2, .null, .int (nI 0), .int (nI 0), .int (nI 0), .int (nI 0), .int (nI 0)])), (c1, .inl (cA1, 2000, .inl (fun _ => 0))), (c2, .inl (cA1, 2000, .inl (fun _ => 0))), (c3, .inl (cA1, 2000, .inl (fun _ => 0)))] H := hP
  have hD : va_D A [(m0, .inr (2, [.ref c1, .ref c2, .null, .int (nI 0), .int (nI 0), .int (nI 0), .int (nI 0), .int (nI 0)])), (c1, .inl (cA1, 2000, .inl (fun _ => 0))), (c2, .inl (cA1, 2000, .inl (fun _ => 0))), (c3, .inl (cA1, 2000, .inl (fun _ => 0)))] := hD
  refine va_putF (D := (dC, dI)) (ci := 2) (v := .ref c3) (ty := .array .int) (C := RX2) (T := TX2) (N := 8) hx hb hts inX2_init_X2 tyX2 tyX2_ok nmX2 hown hK hP hD hS 0 rfl rfl 2 (by decide) (hts (.fieldLink RX2 16 "QueueHallModel" "chain" "[I") (List.mem_of_getElem? (i := 7) (by decide +kernel))) (fun _ h9 => h9) rfl hin rfl (by decide +kernel) rfl rfl (Nat.le_of_ble_eq_true rfl) dX2_init_28 (fun H locs hP hD hS => ?_)
  have hP : va_P (dC, dI) vwCl [(m0, .inr (2, [.ref c1, .ref c2, .ref c3, .int (nI 0), .int (nI 0), .int (nI 0), .int (nI 0), .int (nI 0)])), (c1, .inl (cA1, 2000, .inl (fun _ => 0))), (c2, .inl (cA1, 2000, .inl (fun _ => 0))), (c3, .inl (cA1, 2000, .inl (fun _ => 0)))] H := hP
  have hD : va_D A [(m0, .inr (2, [.ref c1, .ref c2, .ref c3, .int (nI 0), .int (nI 0), .int (nI 0), .int (nI 0), .int (nI 0)])), (c1, .inl (cA1, 2000, .inl (fun _ => 0))), (c2, .inl (cA1, 2000, .inl (fun _ => 0))), (c3, .inl (cA1, 2000, .inl (fun _ => 0)))] := hD
  refine lv_aload_n hx hb dX2_init_31 rfl (lv_at hl 0 rfl) ?_
  refine lv_iconst (v := -1) hx hb dX2_init_32 (by decide) ?_
  refine va_put (D := (dC, dI)) (ci := 2) (v := .int (-1)) (ty := .int) (C := RX2) (T := TX2) (N := 8) hx hb hts inX2_init_X2 tyX2 tyX2_ok nmX2 hown hK hP hD hS 0 rfl rfl 6 (by decide) (hts (.fieldLink RX2 19 "QueueHallModel" "finger" "I") (List.mem_of_getElem? (i := 8) (by decide +kernel))) (fun _ h9 => h9) rfl (by decide +kernel) rfl rfl (Nat.le_of_ble_eq_true rfl) dX2_init_33 (fun H locs hP hD hS => ?_)
  have hP : va_P (dC, dI) vwCl [(m0, .inr (2, [.ref c1, .ref c2, .ref c3, .int (nI 0), .int (nI 0), .int (nI 0), .int (-1), .int (nI 0)])), (c1, .inl (cA1, 2000, .inl (fun _ => 0))), (c2, .inl (cA1, 2000, .inl (fun _ => 0))), (c3, .inl (cA1, 2000, .inl (fun _ => 0)))] H := hP
  have hD : va_D A [(m0, .inr (2, [.ref c1, .ref c2, .ref c3, .int (nI 0), .int (nI 0), .int (nI 0), .int (-1), .int (nI 0)])), (c1, .inl (cA1, 2000, .inl (fun _ => 0))), (c2, .inl (cA1, 2000, .inl (fun _ => 0))), (c3, .inl (cA1, 2000, .inl (fun _ => 0)))] := hD
  refine lv_aload_n hx hb dX2_init_36 rfl (lv_at hl 0 rfl) ?_
  refine lv_iconst (v := -1) hx hb dX2_init_37 (by decide) ?_
  refine va_put (D := (dC, dI)) (ci := 2) (v := .int (-1)) (ty := .int) (C := RX2) (T := TX2) (N := 8) hx hb hts inX2_init_X2 tyX2 tyX2_ok nmX2 hown hK hP hD hS 0 rfl rfl 7 (by decide) (hts (.fieldLink RX2 23 "QueueHallModel" "met" "I") (List.mem_of_getElem? (i := 9) (by decide +kernel))) (fun _ h9 => h9) rfl (by decide +kernel) rfl rfl (Nat.le_of_ble_eq_true rfl) dX2_init_38 (fun H locs hP hD hS => ?_)
  have hP : va_P (dC, dI) vwCl [(m0, .inr (2, [.ref c1, .ref c2, .ref c3, .int (nI 0), .int (nI 0), .int (nI 0), .int (-1), .int (-1)])), (c1, .inl (cA1, 2000, .inl (fun _ => 0))), (c2, .inl (cA1, 2000, .inl (fun _ => 0))), (c3, .inl (cA1, 2000, .inl (fun _ => 0)))] H := hP
  have hD : va_D A [(m0, .inr (2, [.ref c1, .ref c2, .ref c3, .int (nI 0), .int (nI 0), .int (nI 0), .int (-1), .int (-1)])), (c1, .inl (cA1, 2000, .inl (fun _ => 0))), (c2, .inl (cA1, 2000, .inl (fun _ => 0))), (c3, .inl (cA1, 2000, .inl (fun _ => 0)))] := hD
  refine W.widen (k := 3) (n := 6000) (by omega) (by omega) ?_
  exact W.vret hx hb hr (fun t ht hW => ⟨⟨(cA1, c1, c2, c3), rfl, trivial, by rw [ht]; exact hP, va_K.moved hW.alike hK, hD⟩, hS.F ht⟩) hS.2.2 dX2_init_41

set_option maxHeartbeats 4000000 in
set_option maxRecDepth 100000 in
theorem lp_put {p : Program} {l : Launch} {e : Env} {s : State} {m : MethodId} {args : Array Value} {below : List Frame} {meth : Method} {c : Code} {Q : State → Prop} {dC : Nat → ClassId} {dI : Nat → Nat → Nat} {A : Nat → Prop} (h1 n k : Nat) (cA : ClassId) (f g : Nat → Int32) (p3 : Int32) (hn : n < 2000) (hk : k ≤ n) (hg : qAg n f g) (hx : p.tables.exec = Jvm.exec) (hb : c.code = cX2_put) (hml : c.maxLocals = 5) (hts : ∀ w ∈ wsX2_put, w.before args s = true) (hown : s.vm.findClass RX2 = some m.cls) (hK : va_K (dC, dI) vwCl [(cA, .int)] s) (hA : ∀ q : Nat, s.heap.size ≤ q → A q)
    (E0 : ∀ (a : Nat → Int32), (qMp a f k n) → ∀ (H : Heap) (locs : List Loc), va_P (dC, dI) vwCl [(h1, .inl (cA, 2000, .inl a))] H → va_D A [(h1, .inl (cA, 2000, .inl a))] → va_S A s.heap H locs → ∀ ls : Array Slot, lv_has ls 5 [(0, .ref h1), (1, .int (nI n)), (2, .int (nI k)), (3, .int p3)] → W p l e (headSpec wsX2_put ({ frames := 0, cells := 0, slots := 0, locals := 0 })).room s m args below meth c H locs 0 0 Q (F0 m 25 ls [])) :
    ∀ (fu : Nat) (i : Nat) (a : Nat → Int32), (i + 1 ≤ k + fu) → (k ≤ i) → (i ≤ n) → (qMp a f i n) → ∀ (H : Heap) (locs : List Loc), va_P (dC, dI) vwCl [(h1, .inl (cA, 2000, .inl a))] H → va_D A [(h1, .inl (cA, 2000, .inl a))] → va_S A s.heap H locs → ∀ ls : Array Slot, lv_has ls 5 [(0, .ref h1), (1, .int (nI n)), (2, .int (nI k)), (3, .int p3), (4, .int (nI i))] → W p l e (headSpec wsX2_put ({ frames := 0, cells := 0, slots := 0, locals := 0 })).room s m args below meth c H locs 0 0 Q (F0 m 3 ls []) := by
  intro fu
  induction fu with
  | zero =>
    intro i a hfu hi hi2 hv
    exact absurd hfu (by omega)
  | succ fu ih =>
    intro i a hfu hi hi2 hv H locs hP hD hS ls hl
    refine lv_iload hx hb dX2_put_3 (lv_at hl 4 rfl) ?_
    refine lv_iload_n hx hb dX2_put_5 rfl (lv_at hl 2 rfl) ?_
    refine lv_icmp_le (tgt := 25) hx hb dX2_put_6 (by decide) (fun c_1 => ?_) (fun c_1 => ?_)
    · have k_1 : i ≤ k := by
        simp (disch := omega) only [ti_lt, ti_le, ti_eq, ti_0, ti_1, ti_2, ti_m1, ti_100, ti_2000, nI_toInt] at c_1
        omega
      exact E0 a (by rw [show k = i by omega]; exact hv) _ _ hP hD hS ls (lv_sub hl [0, 1, 2, 3] rfl)
    · have k_1 : i > k := by
        simp (disch := omega) only [ti_lt, ti_le, ti_eq, ti_0, ti_1, ti_2, ti_m1, ti_100, ti_2000, nI_toInt] at c_1
        omega
      refine lv_aload_n hx hb dX2_put_9 rfl (lv_at hl 0 rfl) ?_
      refine lv_iload hx hb dX2_put_10 (lv_at hl 4 rfl) ?_
      refine lv_aload_n hx hb dX2_put_12 rfl (lv_at hl 0 rfl) ?_
      refine lv_iload hx hb dX2_put_13 (lv_at hl 4 rfl) ?_
      refine lv_iconst (v := 1) hx hb dX2_put_15 (by decide) ?_
      refine lv_isub hx hb dX2_put_16 ?_
      refine q_top (y := nI (i - 1)) (q_m1 (by omega)) ?_
      refine q_iald (k := i - 1) hx hb hK hP 0 0 rfl rfl (by omega) (by omega) dX2_put_17 ?_
      refine q_iast (k := i) hx hb hK hP hD hS 0 0 rfl rfl (by omega) (by omega) dX2_put_18 (fun H locs hP hD hS => ?_)
      have hP : va_P (dC, dI) vwCl [(h1, .inl (cA, 2000, .inl (upd a i (a (i - 1)))))] H := hP
      have hD : va_D A [(h1, .inl (cA, 2000, .inl (upd a i (a (i - 1)))))] := hD
      refine lv_iinc (v := nI (i - 1)) (lv' := [(4, .int (nI (i - 1))), (0, .ref h1), (1, .int (nI n)), (2, .int (nI k)), (3, .int p3)]) hx hb dX2_put_19 hl (k := 4) rfl (sb_m1 (by omega)) (by decide) rfl (fun ls hl => ?_)
      refine lv_goto (tgt := 3) hx hb dX2_put_22 (by decide) ?_
      exact ih (i - 1) (upd a i (a (i - 1))) (by omega) (by omega) (by omega) (qMp_s hv (by omega) hi2) _ _ hP hD hS ls (lv_sub hl [1, 2, 3, 4, 0] rfl)

set_option maxHeartbeats 4000000 in
set_option maxRecDepth 100000 in
theorem c_Mod_put (l : Launch) (dC : Nat → ClassId) (dI : Nat → Nat → Nat) (sz : Nat) (h1 n k : Nat) (cA : ClassId) (f g : Nat → Int32) (p3 : Int32) (hn : n < 2000) (hk : k ≤ n) (hg : qAg n f g) : Met l yX2_put wsX2_put ({ frames := 0, cells := 0, slots := 0, locals := 0 }) (va_Pc [.ref h1, .int (nI n), .int (nI k), .int p3] (fun U => U.heap.size = sz ∧ va_P (dC, dI) vwCl [(h1, .inl (cA, 2000, .inl f))] U.heap ∧ va_K (dC, dI) vwCl [(cA, .int)] U ∧ va_D (fun _ => True) [(h1, .inl (cA, 2000, .inl f))])) (va_Qv (fun (u : qR) => u = (qIns g k p3, n + 1)) (at_Arr dC dI (va_A [(h1, .inl (cA, 2000, .inl f))] sz) h1 cA) (va_A [(h1, .inl (cA, 2000, .inl f))] sz)) 0 0 (va_A [(h1, .inl (cA, 2000, .inl f))] sz) := by
  refine Met.ofW (cc := cX2_put) (maxL := 5) (ret := none) (by decide +kernel) rfl ?_
  intro p e s m args below meth c s₁ B hml hv
  obtain ⟨rfl, hsz, hP, hK, hD0⟩ := hv
  have hx := B.exec
  have hb := B.bytes
  have hr := B.returns
  have hts := atoms_spec (ws := wsX2_put) B.pre
  have hown : s.vm.findClass RX2 = some m.cls := findClass_of_methodNamed B.named
  have hlocks := B.notSynchronized
  subst hsz
  have hD := hD0.self (sz := s.heap.size)
  generalize hAe : va_A [(h1, .inl (cA, 2000, .inl f))] s.heap.size = A at hD ⊢
  have hA : ∀ q : Nat, s.heap.size ≤ q → A q := fun q h => by rw [← hAe]; exact Or.inr h
  have hS : va_S A s.heap s.heap [] := va_S.rf
  have hl := lv_entry ([.ref h1, .int (nI n), .int (nI k), .int p3]) (n := 5) (Nat.le_of_ble_eq_true rfl)
  rw [lg_entry_eq]
  generalize (lg_sl ([.ref h1, .int (nI n), .int (nI k), .int p3]) ++ List.replicate (5 - (lg_sl ([.ref h1, .int (nI n), .int (nI k), .int p3])).length) Slot.unset).toArray = ls at hl ⊢
  have hl : lv_has ls 5 [(0, .ref h1), (1, .int (nI n)), (2, .int (nI k)), (3, .int p3)] := hl
  refine lv_iload_n hx hb dX2_put_0 rfl (lv_at hl 1 rfl) ?_
  refine lv_istore (lv' := [(4, .int (nI n)), (0, .ref h1), (1, .int (nI n)), (2, .int (nI k)), (3, .int p3)]) hx hb dX2_put_1 hl (by decide) rfl (fun ls hl => ?_)
  refine lp_put h1 n k cA f g p3 hn hk hg hx hb hml hts hown hK hA (fun a hv H locs hP hD hS ls hl => ?_) (n + 1) n f (by omega) (by omega) (by omega) qMp_0 _ _ hP hD hS ls (lv_sub hl [1, 2, 3, 4, 0] rfl)
  refine lv_aload_n hx hb dX2_put_25 rfl (lv_at hl 0 rfl) ?_
  refine lv_iload_n hx hb dX2_put_26 rfl (lv_at hl 2 rfl) ?_
  refine lv_iload_n hx hb dX2_put_27 rfl (lv_at hl 3 rfl) ?_
  refine q_iast (k := k) hx hb hK hP hD hS 0 0 rfl rfl (by omega) (by omega) dX2_put_28 (fun H locs hP hD hS => ?_)
  have hP : va_P (dC, dI) vwCl [(h1, .inl (cA, 2000, .inl (upd a k p3)))] H := hP
  have hD : va_D A [(h1, .inl (cA, 2000, .inl (upd a k p3)))] := hD
  exact W.vret hx hb hr (fun t ht hW => ⟨⟨(qIns g k p3, n + 1), rfl, rfl, _, qMp_e hv hk hg, by rw [ht]; exact hP, va_K.moved hW.alike hK, hD⟩, hS.F ht⟩) hS.2.2 dX2_put_29

set_option maxHeartbeats 4000000 in
set_option maxRecDepth 100000 in
theorem lp_take {p : Program} {l : Launch} {e : Env} {s : State} {m : MethodId} {args : Array Value} {below : List Frame} {meth : Method} {c : Code} {Q : State → Prop} {dC : Nat → ClassId} {dI : Nat → Nat → Nat} {A : Nat → Prop} (h1 n k : Nat) (cA : ClassId) (f g : Nat → Int32) (hn : n < 2000) (hk : k < n) (hg : qAg n f g) (hx : p.tables.exec = Jvm.exec) (hb : c.code = cX2_take) (hml : c.maxLocals = 4) (hts : ∀ w ∈ wsX2_take, w.before args s = true) (hown : s.vm.findClass RX2 = some m.cls) (hK : va_K (dC, dI) vwCl [(cA, .int)] s) (hA : ∀ q : Nat, s.heap.size ≤ q → A q)
    (E0 : ∀ (i : Nat) (a : Nat → Int32), (n ≤ i + 1) → (qMt a f k i n) → ∀ (H : Heap) (locs : List Loc), va_P (dC, dI) vwCl [(h1, .inl (cA, 2000, .inl a))] H → va_D A [(h1, .inl (cA, 2000, .inl a))] → va_S A s.heap H locs → ∀ ls : Array Slot, lv_has ls 4 [(0, .ref h1)] → W p l e (headSpec wsX2_take ({ frames := 0, cells := 0, slots := 0, locals := 0 })).room s m args below meth c H locs 0 0 Q (F0 m 23 ls [])) :
    ∀ (fu : Nat) (i : Nat) (a : Nat → Int32), (n + 1 ≤ i + fu) → (k ≤ i) → (i < n) → (qMt a f k i n) → ∀ (H : Heap) (locs : List Loc), va_P (dC, dI) vwCl [(h1, .inl (cA, 2000, .inl a))] H → va_D A [(h1, .inl (cA, 2000, .inl a))] → va_S A s.heap H locs → ∀ ls : Array Slot, lv_has ls 4 [(0, .ref h1), (1, .int (nI n)), (2, .int (nI k)), (3, .int (nI i))] → W p l e (headSpec wsX2_take ({ frames := 0, cells := 0, slots := 0, locals := 0 })).room s m args below meth c H locs 0 0 Q (F0 m 2 ls []) := by
  intro fu
  induction fu with
  | zero =>
    intro i a hfu hi hi2 hv
    exact absurd hfu (by omega)
  | succ fu ih =>
    intro i a hfu hi hi2 hv H locs hP hD hS ls hl
    refine lv_iload_n hx hb dX2_take_2 rfl (lv_at hl 3 rfl) ?_
    refine lv_iconst (v := 1) hx hb dX2_take_3 (by decide) ?_
    refine lv_iadd hx hb dX2_take_4 ?_
    refine q_top (y := nI (i + 1)) (nI_1 i) ?_
    refine lv_iload_n hx hb dX2_take_5 rfl (lv_at hl 1 rfl) ?_
    refine lv_icmp_ge (tgt := 23) hx hb dX2_take_6 (by decide) (fun c_1 => ?_) (fun c_1 => ?_)
    · have k_1 : (i + 1) ≥ n := by
        simp (disch := omega) only [ti_lt, ti_le, ti_eq, ti_0, ti_1, ti_2, ti_m1, ti_100, ti_2000, nI_toInt] at c_1
        omega
      exact E0 i a (by omega) hv _ _ hP hD hS ls (lv_sub hl [0] rfl)
    · have k_1 : (i + 1) < n := by
        simp (disch := omega) only [ti_lt, ti_le, ti_eq, ti_0, ti_1, ti_2, ti_m1, ti_100, ti_2000, nI_toInt] at c_1
        omega
      refine lv_aload_n hx hb dX2_take_9 rfl (lv_at hl 0 rfl) ?_
      refine lv_iload_n hx hb dX2_take_10 rfl (lv_at hl 3 rfl) ?_
      refine lv_aload_n hx hb dX2_take_11 rfl (lv_at hl 0 rfl) ?_
      refine lv_iload_n hx hb dX2_take_12 rfl (lv_at hl 3 rfl) ?_
      refine lv_iconst (v := 1) hx hb dX2_take_13 (by decide) ?_
      refine lv_iadd hx hb dX2_take_14 ?_
      refine q_top (y := nI (i + 1)) (nI_1 i) ?_
      refine q_iald (k := i + 1) hx hb hK hP 0 0 rfl rfl (by omega) (by omega) dX2_take_15 ?_
      refine q_iast (k := i) hx hb hK hP hD hS 0 0 rfl rfl (by omega) (by omega) dX2_take_16 (fun H locs hP hD hS => ?_)
      have hP : va_P (dC, dI) vwCl [(h1, .inl (cA, 2000, .inl (upd a i (a (i + 1)))))] H := hP
      have hD : va_D A [(h1, .inl (cA, 2000, .inl (upd a i (a (i + 1)))))] := hD
      refine lv_iinc (v := nI (i + 1)) (lv' := [(3, .int (nI (i + 1))), (0, .ref h1), (1, .int (nI n)), (2, .int (nI k))]) hx hb dX2_take_17 hl (k := 3) rfl (nI_1 i) (by decide) rfl (fun ls hl => ?_)
      refine lv_goto (tgt := 2) hx hb dX2_take_20 (by decide) ?_
      exact ih (i + 1) (upd a i (a (i + 1))) (by omega) (by omega) (by omega) (qMt_s hv hi (by omega)) _ _ hP hD hS ls (lv_sub hl [1, 2, 3, 0] rfl)

set_option maxHeartbeats 4000000 in
set_option maxRecDepth 100000 in
theorem c_Mod_take (l : Launch) (dC : Nat → ClassId) (dI : Nat → Nat → Nat) (sz : Nat) (h1 n k : Nat) (cA : ClassId) (f g : Nat → Int32) (hn : n < 2000) (hk : k < n) (hg : qAg n f g) : Met l yX2_take wsX2_take ({ frames := 0, cells := 0, slots := 0, locals := 0 }) (va_Pc [.ref h1, .int (nI n), .int (nI k)] (fun U => U.heap.size = sz ∧ va_P (dC, dI) vwCl [(h1, .inl (cA, 2000, .inl f))] U.heap ∧ va_K (dC, dI) vwCl [(cA, .int)] U ∧ va_D (fun _ => True) [(h1, .inl (cA, 2000, .inl f))])) (va_Qv (fun (u : qR) => u = (qDel g k, n - 1)) (at_Arr dC dI (va_A [(h1, .inl (cA, 2000, .inl f))] sz) h1 cA) (va_A [(h1, .inl (cA, 2000, .inl f))] sz)) 0 0 (va_A [(h1, .inl (cA, 2000, .inl f))] sz) := by
  refine Met.ofW (cc := cX2_take) (maxL := 4) (ret := none) (by decide +kernel) rfl ?_
  intro p e s m args below meth c s₁ B hml hv
  obtain ⟨rfl, hsz, hP, hK, hD0⟩ := hv
  have hx := B.exec
  have hb := B.bytes
  have hr := B.returns
  have hts := atoms_spec (ws := wsX2_take) B.pre
  have hown : s.vm.findClass RX2 = some m.cls := findClass_of_methodNamed B.named
  have hlocks := B.notSynchronized
  subst hsz
  have hD := hD0.self (sz := s.heap.size)
  generalize hAe : va_A [(h1, .inl (cA, 2000, .inl f))] s.heap.size = A at hD ⊢
  have hA : ∀ q : Nat, s.heap.size ≤ q → A q := fun q h => by rw [← hAe]; exact Or.inr h
  have hS : va_S A s.heap s.heap [] := va_S.rf
  have hl := lv_entry ([.ref h1, .int (nI n), .int (nI k)]) (n := 4) (Nat.le_of_ble_eq_true rfl)
  rw [lg_entry_eq]
  generalize (lg_sl ([.ref h1, .int (nI n), .int (nI k)]) ++ List.replicate (4 - (lg_sl ([.ref h1, .int (nI n), .int (nI k)])).length) Slot.unset).toArray = ls at hl ⊢
  have hl : lv_has ls 4 [(0, .ref h1), (1, .int (nI n)), (2, .int (nI k))] := hl
  refine lv_iload_n hx hb dX2_take_0 rfl (lv_at hl 2 rfl) ?_
  refine lv_istore_n (lv' := [(3, .int (nI k)), (0, .ref h1), (1, .int (nI n)), (2, .int (nI k))]) hx hb dX2_take_1 rfl hl (by decide) rfl (fun ls hl => ?_)
  refine lp_take h1 n k cA f g hn hk hg hx hb hml hts hown hK hA (fun i a hi hv H locs hP hD hS ls hl => ?_) (n + 1) k f (by omega) (by omega) (by omega) qMt_0 _ _ hP hD hS ls (lv_sub hl [1, 2, 3, 0] rfl)
  exact W.vret hx hb hr (fun t ht hW => ⟨⟨(qDel g k, n - 1), rfl, rfl, _, qMt_e hv hi hg, by rw [ht]; exact hP, va_K.moved hW.alike hK, hD⟩, hS.F ht⟩) hS.2.2 dX2_take_23

set_option maxHeartbeats 4000000 in
set_option maxRecDepth 100000 in
theorem lp_place {p : Program} {l : Launch} {e : Env} {s : State} {m : MethodId} {args : Array Value} {below : List Frame} {meth : Method} {c : Code} {Q : State → Prop} {dC : Nat → ClassId} {dI : Nat → Nat → Nat} {H : Heap} {locs : List Loc} (h1 n : Nat) (cA : ClassId) (f g : Nat → Int32) (p2 p3 : Int32) (hn : n < 2000) (hg : qAg n f g) (hx : p.tables.exec = Jvm.exec) (hb : c.code = cX2_place) (hml : c.maxLocals = 6) (hts : ∀ w ∈ wsX2_place, w.before args s = true) (hown : s.vm.findClass RX2 = some m.cls) (hK : va_K (dC, dI) vwCl [(cA, .int)] s) (hP : va_P (dC, dI) vwCl [(h1, .inl (cA, 2000, .inl f))] H)
    (E0 : ∀ (z : Int32), (z = qPl f p2 p3 n) → ∀ ls : Array Slot, lv_has ls 6 [(0, .ref h1), (1, .int (nI n)), (2, .int p2), (3, .int p3), (4, .int z)] → W p l e (headSpec wsX2_place ({ frames := 0, cells := 0, slots := 0, locals := 0 })).room s m args below meth c H locs 0 0 Q (F0 m 39 ls [])) :
    ∀ (fu : Nat) (i : Nat) (z : Int32), (n + 1 ≤ i + fu) → (i ≤ n) → (z = qPl f p2 p3 i) → ∀ ls : Array Slot, lv_has ls 6 [(0, .ref h1), (1, .int (nI n)), (2, .int p2), (3, .int p3), (4, .int z), (5, .int (nI i))] → W p l e (headSpec wsX2_place ({ frames := 0, cells := 0, slots := 0, locals := 0 })).room s m args below meth c H locs 0 0 Q (F0 m 6 ls []) := by
  intro fu
  induction fu with
  | zero =>
    intro i z hfu hi hz0
    exact absurd hfu (by omega)
  | succ fu ih =>
    intro i z hfu hi hz0 ls hl
    refine lv_iload hx hb dX2_place_6 (lv_at hl 5 rfl) ?_
    refine lv_iload_n hx hb dX2_place_8 rfl (lv_at hl 1 rfl) ?_
    refine lv_icmp_ge (tgt := 39) hx hb dX2_place_9 (by decide) (fun c_1 => ?_) (fun c_1 => ?_)
    · have k_1 : i ≥ n := by
        simp (disch := omega) only [ti_lt, ti_le, ti_eq, ti_0, ti_1, ti_2, ti_m1, ti_100, ti_2000, nI_toInt] at c_1
        omega
      exact E0 z (by rw [hz0, show i = n by omega]) ls (lv_sub hl [0, 1, 2, 3, 4] rfl)
    · have k_1 : i < n := by
        simp (disch := omega) only [ti_lt, ti_le, ti_eq, ti_0, ti_1, ti_2, ti_m1, ti_100, ti_2000, nI_toInt] at c_1
        omega
      refine lv_aload_n hx hb dX2_place_12 rfl (lv_at hl 0 rfl) ?_
      refine lv_iload hx hb dX2_place_13 (lv_at hl 5 rfl) ?_
      refine q_iald (k := i) hx hb hK hP 0 0 rfl rfl (by omega) (by omega) dX2_place_15 ?_
      refine lv_iload_n hx hb dX2_place_16 rfl (lv_at hl 2 rfl) ?_
      refine lv_icmp_ne (tgt := 33) hx hb dX2_place_17 (by decide) (fun c_2 => ?_) (fun c_2 => ?_)
      · refine lv_iinc (v := nI (i + 1)) (lv' := [(5, .int (nI (i + 1))), (0, .ref h1), (1, .int (nI n)), (2, .int p2), (3, .int p3), (4, .int z)]) hx hb dX2_place_33 hl (k := 5) rfl (nI_1 i) (by decide) rfl (fun ls hl => ?_)
        refine lv_goto (tgt := 6) hx hb dX2_place_36 (by decide) ?_
        exact ih (i + 1) z (by omega) (by omega) (by rw [hz0]; simp only [qPl]; rw [if_neg (fun q => c_2 q.1)]) ls (lv_sub hl [1, 2, 3, 4, 5, 0] rfl)
      · refine lv_iload_n hx hb dX2_place_20 rfl (lv_at hl 3 rfl) ?_
        refine lv_if_ne (tgt := 29) hx hb dX2_place_21 (by decide) (fun c_3 => ?_) (fun c_3 => ?_)
        · refine lv_iload hx hb dX2_place_29 (lv_at hl 5 rfl) ?_
          refine lv_istore (lv' := [(4, .int (nI i)), (0, .ref h1), (1, .int (nI n)), (2, .int p2), (3, .int p3), (5, .int (nI i))]) hx hb dX2_place_31 hl (by decide) rfl (fun ls hl => ?_)
          refine lv_iinc (v := nI (i + 1)) (lv' := [(5, .int (nI (i + 1))), (4, .int (nI i)), (0, .ref h1), (1, .int (nI n)), (2, .int p2), (3, .int p3)]) hx hb dX2_place_33 hl (k := 5) rfl (nI_1 i) (by decide) rfl (fun ls hl => ?_)
          refine lv_goto (tgt := 6) hx hb dX2_place_36 (by decide) ?_
          exact ih (i + 1) (nI i) (by omega) (by omega) (by simp only [qPl]; rw [if_pos ⟨c_2, Or.inl c_3⟩]) ls (lv_sub hl [2, 3, 4, 5, 1, 0] rfl)
        · refine lv_iload hx hb dX2_place_24 (lv_at hl 4 rfl) ?_
          refine lv_if_ge (tgt := 33) hx hb dX2_place_26 (by decide) (fun c_4 => ?_) (fun c_4 => ?_)
          · refine lv_iinc (v := nI (i + 1)) (lv' := [(5, .int (nI (i + 1))), (0, .ref h1), (1, .int (nI n)), (2, .int p2), (3, .int p3), (4, .int z)]) hx hb dX2_place_33 hl (k := 5) rfl (nI_1 i) (by decide) rfl (fun ls hl => ?_)
            refine lv_goto (tgt := 6) hx hb dX2_place_36 (by decide) ?_
            exact ih (i + 1) z (by omega) (by omega) (by
              simp only [qPl]
              rw [← hz0, if_neg (fun q => by
                rcases q.2 with q2 | q2
                · exact q2 c_3
                · have q3 := c_4
                  rw [ti_lt] at q2
                  rw [ti_le] at q3
                  omega)]) ls (lv_sub hl [1, 2, 3, 4, 5, 0] rfl)
          · refine lv_iload hx hb dX2_place_29 (lv_at hl 5 rfl) ?_
            refine lv_istore (lv' := [(4, .int (nI i)), (0, .ref h1), (1, .int (nI n)), (2, .int p2), (3, .int p3), (5, .int (nI i))]) hx hb dX2_place_31 hl (by decide) rfl (fun ls hl => ?_)
            refine lv_iinc (v := nI (i + 1)) (lv' := [(5, .int (nI (i + 1))), (4, .int (nI i)), (0, .ref h1), (1, .int (nI n)), (2, .int p2), (3, .int p3)]) hx hb dX2_place_33 hl (k := 5) rfl (nI_1 i) (by decide) rfl (fun ls hl => ?_)
            refine lv_goto (tgt := 6) hx hb dX2_place_36 (by decide) ?_
            exact ih (i + 1) (nI i) (by omega) (by omega) (by
              simp only [qPl]
              rw [if_pos ⟨c_2, Or.inr (by
                rw [← hz0]
                have q3 := c_4
                rw [ti_le] at q3
                rw [ti_lt]
                omega)⟩]) ls (lv_sub hl [2, 3, 4, 5, 1, 0] rfl)

set_option maxHeartbeats 4000000 in
set_option maxRecDepth 100000 in
theorem c_Mod_place (l : Launch) (dC : Nat → ClassId) (dI : Nat → Nat → Nat) (h1 n : Nat) (cA : ClassId) (f g : Nat → Int32) (p2 p3 : Int32) (hn : n < 2000) (hg : qAg n f g) : Met l yX2_place wsX2_place ({ frames := 0, cells := 0, slots := 0, locals := 0 }) (va_Pc [.ref h1, .int (nI n), .int p2, .int p3] (fun U => va_P (dC, dI) vwCl [(h1, .inl (cA, 2000, .inl f))] U.heap ∧ va_K (dC, dI) vwCl [(cA, .int)] U)) (vp_Si (fun r => r = qPl g p2 p3 n)) 0 0 (fun _ => False) := by
  refine Met.ofW (cc := cX2_place) (maxL := 6) (ret := (some .int)) (by decide +kernel) rfl ?_
  intro p e s m args below meth c s₁ B hml hv
  obtain ⟨rfl, hP, hK⟩ := hv
  have hx := B.exec
  have hb := B.bytes
  have hr := B.returns
  have hts := atoms_spec (ws := wsX2_place) B.pre
  have hown : s.vm.findClass RX2 = some m.cls := findClass_of_methodNamed B.named
  have hlocks := B.notSynchronized
  have hl := lv_entry ([.ref h1, .int (nI n), .int p2, .int p3]) (n := 6) (Nat.le_of_ble_eq_true rfl)
  rw [lg_entry_eq]
  generalize (lg_sl ([.ref h1, .int (nI n), .int p2, .int p3]) ++ List.replicate (6 - (lg_sl ([.ref h1, .int (nI n), .int p2, .int p3])).length) Slot.unset).toArray = ls at hl ⊢
  have hl : lv_has ls 6 [(0, .ref h1), (1, .int (nI n)), (2, .int p2), (3, .int p3)] := hl
  refine lv_iconst (v := -1) hx hb dX2_place_0 (by decide) ?_
  refine lv_istore (lv' := [(4, .int (-1)), (0, .ref h1), (1, .int (nI n)), (2, .int p2), (3, .int p3)]) hx hb dX2_place_1 hl (by decide) rfl (fun ls hl => ?_)
  refine lv_iconst (v := nI 0) hx hb dX2_place_3 (by decide) ?_
  refine lv_istore (lv' := [(5, .int (nI 0)), (4, .int (-1)), (0, .ref h1), (1, .int (nI n)), (2, .int p2), (3, .int p3)]) hx hb dX2_place_4 hl (by decide) rfl (fun ls hl => ?_)
  refine lp_place h1 n cA f g p2 p3 hn hg hx hb hml hts hown hK hP (fun z hz0 ls hl => ?_) (n + 1) 0 (-1) (by omega) (by omega) rfl ls (lv_sub hl [2, 3, 4, 5, 1, 0] rfl)
  refine lv_iload hx hb dX2_place_39 (lv_at hl 4 rfl) ?_
  exact W.iret (v := z) hx hb hr (fun t ht hW => ⟨z, rfl, (hz0.trans (qPl_ag hg)), ht⟩) (fun q h => by cases h) dX2_place_41

set_option maxHeartbeats 4000000 in
set_option maxRecDepth 100000 in
theorem c_Mod_place_n (l : Launch) (dC : Nat → ClassId) (dI : Nat → Nat → Nat) (h1 : Nat) (cA : ClassId) (f : Nat → Int32) (p2 p3 : Int32) : Met l yX2_place wsX2_place ({ frames := 0, cells := 0, slots := 0, locals := 0 }) (va_Pc [.ref h1, .int (-1), .int p2, .int p3] (fun U => va_P (dC, dI) vwCl [(h1, .inl (cA, 2000, .inl f))] U.heap ∧ va_K (dC, dI) vwCl [(cA, .int)] U)) (vp_Si (fun r => r = -1)) 0 0 (fun _ => False) := by
  refine Met.ofW (cc := cX2_place) (maxL := 6) (ret := (some .int)) (by decide +kernel) rfl ?_
  intro p e s m args below meth c s₁ B hml hv
  obtain ⟨rfl, hP, hK⟩ := hv
  have hx := B.exec
  have hb := B.bytes
  have hr := B.returns
  have hts := atoms_spec (ws := wsX2_place) B.pre
  have hown : s.vm.findClass RX2 = some m.cls := findClass_of_methodNamed B.named
  have hlocks := B.notSynchronized
  have hl := lv_entry ([.ref h1, .int (-1), .int p2, .int p3]) (n := 6) (Nat.le_of_ble_eq_true rfl)
  rw [lg_entry_eq]
  generalize (lg_sl ([.ref h1, .int (-1), .int p2, .int p3]) ++ List.replicate (6 - (lg_sl ([.ref h1, .int (-1), .int p2, .int p3])).length) Slot.unset).toArray = ls at hl ⊢
  have hl : lv_has ls 6 [(0, .ref h1), (1, .int (-1)), (2, .int p2), (3, .int p3)] := hl
  refine lv_iconst (v := -1) hx hb dX2_place_0 (by decide) ?_
  refine lv_istore (lv' := [(4, .int (-1)), (0, .ref h1), (1, .int (-1)), (2, .int p2), (3, .int p3)]) hx hb dX2_place_1 hl (by decide) rfl (fun ls hl => ?_)
  refine lv_iconst (v := 0) hx hb dX2_place_3 (by decide) ?_
  refine lv_istore (lv' := [(5, .int 0), (4, .int (-1)), (0, .ref h1), (1, .int (-1)), (2, .int p2), (3, .int p3)]) hx hb dX2_place_4 hl (by decide) rfl (fun ls hl => ?_)
  refine lv_iload hx hb dX2_place_6 (lv_at hl 0 rfl) ?_
  refine lv_iload_n hx hb dX2_place_8 rfl (lv_at hl 3 rfl) ?_
  refine lv_icmp_ge (tgt := 39) hx hb dX2_place_9 (by decide) (fun c_1 => ?_) (fun c_0 => absurd (show (-1 : Int32) ≤ (0 : Int32) from (by decide)) c_0)
  refine lv_iload hx hb dX2_place_39 (lv_at hl 1 rfl) ?_
  exact W.iret (v := -1) hx hb hr (fun t ht hW => ⟨-1, rfl, rfl, ht⟩) (fun q h => by cases h) dX2_place_41

set_option maxHeartbeats 4000000 in
set_option maxRecDepth 100000 in
theorem c_Mod_many (l : Launch) (dC : Nat → ClassId) (dI : Nat → Nat → Nat) (m0 c1 c2 c3 nh nr nk : Nat) (fi me p0 : Int32) : Met l yX2_many wsX2_many ({ frames := 0, cells := 0, slots := 0, locals := 0 }) (va_Pc [.ref m0, .int p0] (fun U => va_P (dC, dI) vwCl [(m0, .inr (2, [.ref c1, .ref c2, .ref c3, .int (nI nh), .int (nI nr), .int (nI nk), .int fi, .int me]))] U.heap ∧ va_K (dC, dI) vwCl [] U)) (vp_Si (fun r => r = qMany nh nr nk p0)) 0 0 (fun _ => False) := by
  refine Met.ofW (cc := cX2_many) (maxL := 2) (ret := (some .int)) (by decide +kernel) rfl ?_
  intro p e s m args below meth c s₁ B hml hv
  obtain ⟨rfl, hP, hK⟩ := hv
  have hx := B.exec
  have hb := B.bytes
  have hr := B.returns
  have hts := atoms_spec (ws := wsX2_many) B.pre
  have hown : s.vm.findClass RX2 = some m.cls := findClass_of_methodNamed B.named
  have hlocks := B.notSynchronized
  have hl := lv_entry ([.ref m0, .int p0]) (n := 2) (Nat.le_of_ble_eq_true rfl)
  rw [lg_entry_eq]
  generalize (lg_sl ([.ref m0, .int p0]) ++ List.replicate (2 - (lg_sl ([.ref m0, .int p0])).length) Slot.unset).toArray = ls at hl ⊢
  have hl : lv_has ls 2 [(0, .ref m0), (1, .int p0)] := hl
  rcases q_w p0 with rfl | rfl | rfl | ⟨w0, w1, w2⟩
  · refine lv_iload_n hx hb dX2_many_0 rfl (lv_at hl 1 rfl) ?_
    refine lv_if_ne (tgt := 11) hx hb dX2_many_1 (by decide) (fun c_0 => absurd (show (0 : Int32) = (0 : Int32) from (by decide)) c_0) (fun c_1 => ?_)
    refine lv_aload_n hx hb dX2_many_4 rfl (lv_at hl 0 rfl) ?_
    refine va_get (D := (dC, dI)) (ci := 2) (v := .int (nI nh)) (C := RX2) (T := TX2) (N := 8) hx hb hts inX2_many_X2 hown hK hP 0 rfl rfl 3 (by decide) (hts (.fieldLink RX2 26 "QueueHallModel" "halls" "I") (List.mem_of_getElem? (i := 1) (by decide +kernel))) (fun _ h9 => h9) rfl dX2_many_5 ?_
    refine lv_goto (tgt := 36) hx hb dX2_many_8 (by decide) ?_
    exact W.iret (v := nI nh) hx hb hr (fun t ht hW => ⟨nI nh, rfl, qMany_0.symm, ht⟩) (fun q h => by cases h) dX2_many_36
  · refine lv_iload_n hx hb dX2_many_0 rfl (lv_at hl 1 rfl) ?_
    refine lv_if_ne (tgt := 11) hx hb dX2_many_1 (by decide) (fun c_2 => ?_) (fun c_0 => absurd c_0 (show ¬ (1 : Int32) = (0 : Int32) from (by decide)))
    refine lv_iload_n hx hb dX2_many_11 rfl (lv_at hl 1 rfl) ?_
    refine lv_iconst (v := 1) hx hb dX2_many_12 (by decide) ?_
    refine lv_icmp_ne (tgt := 23) hx hb dX2_many_13 (by decide) (fun c_0 => absurd (show (1 : Int32) = (1 : Int32) from (by decide)) c_0) (fun c_3 => ?_)
    refine lv_aload_n hx hb dX2_many_16 rfl (lv_at hl 0 rfl) ?_
    refine va_get (D := (dC, dI)) (ci := 2) (v := .int (nI nr)) (C := RX2) (T := TX2) (N := 8) hx hb hts inX2_many_X2 hown hK hP 0 rfl rfl 4 (by decide) (hts (.fieldLink RX2 29 "QueueHallModel" "rings" "I") (List.mem_of_getElem? (i := 2) (by decide +kernel))) (fun _ h9 => h9) rfl dX2_many_17 ?_
    refine lv_goto (tgt := 36) hx hb dX2_many_20 (by decide) ?_
    exact W.iret (v := nI nr) hx hb hr (fun t ht hW => ⟨nI nr, rfl, qMany_1.symm, ht⟩) (fun q h => by cases h) dX2_many_36
  · refine lv_iload_n hx hb dX2_many_0 rfl (lv_at hl 1 rfl) ?_
    refine lv_if_ne (tgt := 11) hx hb dX2_many_1 (by decide) (fun c_4 => ?_) (fun c_0 => absurd c_0 (show ¬ (2 : Int32) = (0 : Int32) from (by decide)))
    refine lv_iload_n hx hb dX2_many_11 rfl (lv_at hl 1 rfl) ?_
    refine lv_iconst (v := 1) hx hb dX2_many_12 (by decide) ?_
    refine lv_icmp_ne (tgt := 23) hx hb dX2_many_13 (by decide) (fun c_5 => ?_) (fun c_0 => absurd c_0 (show ¬ (2 : Int32) = (1 : Int32) from (by decide)))
    refine lv_iload_n hx hb dX2_many_23 rfl (lv_at hl 1 rfl) ?_
    refine lv_iconst (v := 2) hx hb dX2_many_24 (by decide) ?_
    refine lv_icmp_ne (tgt := 35) hx hb dX2_many_25 (by decide) (fun c_0 => absurd (show (2 : Int32) = (2 : Int32) from (by decide)) c_0) (fun c_6 => ?_)
    refine lv_aload_n hx hb dX2_many_28 rfl (lv_at hl 0 rfl) ?_
    refine va_get (D := (dC, dI)) (ci := 2) (v := .int (nI nk)) (C := RX2) (T := TX2) (N := 8) hx hb hts inX2_many_X2 hown hK hP 0 rfl rfl 5 (by decide) (hts (.fieldLink RX2 32 "QueueHallModel" "chains" "I") (List.mem_of_getElem? (i := 3) (by decide +kernel))) (fun _ h9 => h9) rfl dX2_many_29 ?_
    refine lv_goto (tgt := 36) hx hb dX2_many_32 (by decide) ?_
    exact W.iret (v := nI nk) hx hb hr (fun t ht hW => ⟨nI nk, rfl, qMany_2.symm, ht⟩) (fun q h => by cases h) dX2_many_36
  · refine lv_iload_n hx hb dX2_many_0 rfl (lv_at hl 1 rfl) ?_
    refine lv_if_ne (tgt := 11) hx hb dX2_many_1 (by decide) (fun c_7 => ?_) (fun c_0 => absurd c_0 (show ¬ p0 = (0 : Int32) from w0))
    refine lv_iload_n hx hb dX2_many_11 rfl (lv_at hl 1 rfl) ?_
    refine lv_iconst (v := 1) hx hb dX2_many_12 (by decide) ?_
    refine lv_icmp_ne (tgt := 23) hx hb dX2_many_13 (by decide) (fun c_8 => ?_) (fun c_0 => absurd c_0 (show ¬ p0 = (1 : Int32) from w1))
    refine lv_iload_n hx hb dX2_many_23 rfl (lv_at hl 1 rfl) ?_
    refine lv_iconst (v := 2) hx hb dX2_many_24 (by decide) ?_
    refine lv_icmp_ne (tgt := 35) hx hb dX2_many_25 (by decide) (fun c_9 => ?_) (fun c_0 => absurd c_0 (show ¬ p0 = (2 : Int32) from w2))
    refine lv_iconst (v := -1) hx hb dX2_many_35 (by decide) ?_
    exact W.iret (v := -1) hx hb hr (fun t ht hW => ⟨-1, rfl, (qMany_n w0 w1 w2).symm, ht⟩) (fun q h => by cases h) dX2_many_36

set_option maxHeartbeats 4000000 in
set_option maxRecDepth 100000 in
theorem c_Mod_lift (l : Launch) (dC : Nat → ClassId) (dI : Nat → Nat → Nat) (sz : Nat) (m0 c1 c2 c3 nh nr nk : Nat) (fi me : Int32) : Met l yX2_lift wsX2_lift ({ frames := 0, cells := 0, slots := 0, locals := 0 }) (va_Pc [.ref m0] (fun U => U.heap.size = sz ∧ va_P (dC, dI) vwCl [(m0, .inr (2, [.ref c1, .ref c2, .ref c3, .int (nI nh), .int (nI nr), .int (nI nk), .int fi, .int me]))] U.heap ∧ va_K (dC, dI) vwCl [] U ∧ va_D (fun _ => True) [(m0, .inr (2, [.ref c1, .ref c2, .ref c3, .int (nI nh), .int (nI nr), .int (nI nk), .int fi, .int me]))])) (va_Qv (fun (u : Unit) => u = ()) (at_M1 dC dI (va_A [(m0, .inr (2, [.ref c1, .ref c2, .ref c3, .int (nI nh), .int (nI nr), .int (nI nk), .int fi, .int me]))] sz) m0 c1 c2 c3 nh nr nk) (va_A [(m0, .inr (2, [.ref c1, .ref c2, .ref c3, .int (nI nh), .int (nI nr), .int (nI nk), .int fi, .int me]))] sz)) 0 0 (va_A [(m0, .inr (2, [.ref c1, .ref c2, .ref c3, .int (nI nh), .int (nI nr), .int (nI nk), .int fi, .int me]))] sz) := by
  refine Met.ofW (cc := cX2_lift) (maxL := 1) (ret := none) (by decide +kernel) rfl ?_
  intro p e s m args below meth c s₁ B hml hv
  obtain ⟨rfl, hsz, hP, hK, hD0⟩ := hv
  have hx := B.exec
  have hb := B.bytes
  have hr := B.returns
  have hts := atoms_spec (ws := wsX2_lift) B.pre
  have hown : s.vm.findClass RX2 = some m.cls := findClass_of_methodNamed B.named
  have hlocks := B.notSynchronized
  subst hsz
  have hD := hD0.self (sz := s.heap.size)
  generalize hAe : va_A [(m0, .inr (2, [.ref c1, .ref c2, .ref c3, .int (nI nh), .int (nI nr), .int (nI nk), .int fi, .int me]))] s.heap.size = A at hD ⊢
  have hA : ∀ q : Nat, s.heap.size ≤ q → A q := fun q h => by rw [← hAe]; exact Or.inr h
  have hS : va_S A s.heap s.heap [] := va_S.rf
  have hl := lv_entry ([.ref m0]) (n := 1) (Nat.le_of_ble_eq_true rfl)
  rw [lg_entry_eq]
  generalize (lg_sl ([.ref m0]) ++ List.replicate (1 - (lg_sl ([.ref m0])).length) Slot.unset).toArray = ls at hl ⊢
  have hl : lv_has ls 1 [(0, .ref m0)] := hl
  refine lv_aload_n hx hb dX2_lift_0 rfl (lv_at hl 0 rfl) ?_
  refine lv_iconst (v := -1) hx hb dX2_lift_1 (by decide) ?_
  refine va_put (D := (dC, dI)) (ci := 2) (v := .int (-1)) (ty := .int) (C := RX2) (T := TX2) (N := 8) hx hb hts inX2_lift_X2 tyX2 tyX2_ok nmX2 hown hK hP hD hS 0 rfl rfl 6 (by decide) (hts (.fieldLink RX2 19 "QueueHallModel" "finger" "I") (List.mem_of_getElem? (i := 1) (by decide +kernel))) (fun _ h9 => h9) rfl (by decide +kernel) rfl rfl (Nat.le_of_ble_eq_true rfl) dX2_lift_2 (fun H locs hP hD hS => ?_)
  have hP : va_P (dC, dI) vwCl [(m0, .inr (2, [.ref c1, .ref c2, .ref c3, .int (nI nh), .int (nI nr), .int (nI nk), .int (-1), .int me]))] H := hP
  have hD : va_D A [(m0, .inr (2, [.ref c1, .ref c2, .ref c3, .int (nI nh), .int (nI nr), .int (nI nk), .int (-1), .int me]))] := hD
  refine lv_aload_n hx hb dX2_lift_5 rfl (lv_at hl 0 rfl) ?_
  refine lv_iconst (v := -1) hx hb dX2_lift_6 (by decide) ?_
  refine va_put (D := (dC, dI)) (ci := 2) (v := .int (-1)) (ty := .int) (C := RX2) (T := TX2) (N := 8) hx hb hts inX2_lift_X2 tyX2 tyX2_ok nmX2 hown hK hP hD hS 0 rfl rfl 7 (by decide) (hts (.fieldLink RX2 23 "QueueHallModel" "met" "I") (List.mem_of_getElem? (i := 2) (by decide +kernel))) (fun _ h9 => h9) rfl (by decide +kernel) rfl rfl (Nat.le_of_ble_eq_true rfl) dX2_lift_7 (fun H locs hP hD hS => ?_)
  have hP : va_P (dC, dI) vwCl [(m0, .inr (2, [.ref c1, .ref c2, .ref c3, .int (nI nh), .int (nI nr), .int (nI nk), .int (-1), .int (-1)]))] H := hP
  have hD : va_D A [(m0, .inr (2, [.ref c1, .ref c2, .ref c3, .int (nI nh), .int (nI nr), .int (nI nk), .int (-1), .int (-1)]))] := hD
  exact W.vret hx hb hr (fun t ht hW => ⟨⟨(), rfl, rfl, by rw [ht]; exact hP, va_K.moved hW.alike hK, hD⟩, hS.F ht⟩) hS.2.2 dX2_lift_10

set_option maxHeartbeats 4000000 in
set_option maxRecDepth 100000 in
theorem lp_enter {p : Program} {l : Launch} {e : Env} {s : State} {m : MethodId} {args : Array Value} {below : List Frame} {meth : Method} {c : Code} {Q : State → Prop} {dC : Nat → ClassId} {dI : Nat → Nat → Nat} {A : Nat → Prop} (m0 c1 c2 c3 nh nr nk : Nat) (cA : ClassId) (eh gh er gr ek gk : Nat → Int32) (fi me : Int32) (p0 : Int32) (hn : nh + nr + nk < 2000) (ha1 : qAg nh eh gh) (ha2 : qAg nr er gr) (ha3 : qAg nk ek gk) (hF : qFok fi me nk) (hs : qSorted gh nh) (hx : p.tables.exec = Jvm.exec) (hb : c.code = cX2_enter) (hml : c.maxLocals = 3) (hts : ∀ w ∈ wsX2_enter, w.before args s = true) (hown : s.vm.findClass RX2 = some m.cls) (hK : va_K (dC, dI) vwCl [(cA, .int)] s) (hA : ∀ q : Nat, s.heap.size ≤ q → A q)
    (E0 : ∀ (i : Nat), (i ≤ nh) → (∀ j, j < i → eh j ≤ p0) → (i < nh → p0 < eh i) → ∀ (H : Heap) (locs : List Loc), va_P (dC, dI) vwCl [(m0, .inr (2, [.ref c1, .ref c2, .ref c3, .int (nI nh), .int (nI nr), .int (nI nk), .int fi, .int me])), (c1, .inl (cA, 2000, .inl eh)), (c2, .inl (cA, 2000, .inl er)), (c3, .inl (cA, 2000, .inl ek))] H → va_D A [(m0, .inr (2, [.ref c1, .ref c2, .ref c3, .int (nI nh), .int (nI nr), .int (nI nk), .int fi, .int me])), (c1, .inl (cA, 2000, .inl eh)), (c2, .inl (cA, 2000, .inl er)), (c3, .inl (cA, 2000, .inl ek))] → va_S A s.heap H locs → ∀ ls : Array Slot, lv_has ls 3 [(0, .ref m0), (1, .int p0), (2, .int (nI i))] → W p l e (headSpec wsX2_enter ({ frames := 1, cells := 0, slots := 0, locals := 25 })).room s m args below meth c H locs 0 0 Q (F0 m 39 ls [])) :
    ∀ (fu : Nat) (i : Nat), (nh + 1 ≤ i + fu) → (i ≤ nh) → (∀ j, j < i → eh j ≤ p0) → ∀ (H : Heap) (locs : List Loc), va_P (dC, dI) vwCl [(m0, .inr (2, [.ref c1, .ref c2, .ref c3, .int (nI nh), .int (nI nr), .int (nI nk), .int fi, .int me])), (c1, .inl (cA, 2000, .inl eh)), (c2, .inl (cA, 2000, .inl er)), (c3, .inl (cA, 2000, .inl ek))] H → va_D A [(m0, .inr (2, [.ref c1, .ref c2, .ref c3, .int (nI nh), .int (nI nr), .int (nI nk), .int fi, .int me])), (c1, .inl (cA, 2000, .inl eh)), (c2, .inl (cA, 2000, .inl er)), (c3, .inl (cA, 2000, .inl ek))] → va_S A s.heap H locs → ∀ ls : Array Slot, lv_has ls 3 [(0, .ref m0), (1, .int p0), (2, .int (nI i))] → W p l e (headSpec wsX2_enter ({ frames := 1, cells := 0, slots := 0, locals := 25 })).room s m args below meth c H locs 0 0 Q (F0 m 15 ls []) := by
  intro fu
  induction fu with
  | zero =>
    intro i hfu hi hq
    exact absurd hfu (by omega)
  | succ fu ih =>
    intro i hfu hi hq H locs hP hD hS ls hl
    refine lv_iload_n hx hb dX2_enter_15 rfl (lv_at hl 2 rfl) ?_
    refine lv_aload_n hx hb dX2_enter_16 rfl (lv_at hl 0 rfl) ?_
    refine va_get (D := (dC, dI)) (ci := 2) (v := .int (nI nh)) (C := RX2) (T := TX2) (N := 8) hx hb hts inX2_enter_X2 hown hK hP 0 rfl rfl 3 (by decide) (hts (.fieldLink RX2 26 "QueueHallModel" "halls" "I") (List.mem_of_getElem? (i := 1) (by decide +kernel))) (fun _ h9 => h9) rfl dX2_enter_17 ?_
    refine lv_icmp_ge (tgt := 39) hx hb dX2_enter_20 (by decide) (fun c_1 => ?_) (fun c_1 => ?_)
    · have k_1 : i ≥ nh := by
        simp (disch := omega) only [ti_lt, ti_le, ti_eq, ti_0, ti_1, ti_2, ti_m1, ti_100, ti_2000, nI_toInt] at c_1
        omega
      exact E0 i hi hq (fun q => absurd q (by omega)) _ _ hP hD hS ls (lv_sub hl [0, 1, 2] rfl)
    · have k_1 : i < nh := by
        simp (disch := omega) only [ti_lt, ti_le, ti_eq, ti_0, ti_1, ti_2, ti_m1, ti_100, ti_2000, nI_toInt] at c_1
        omega
      refine lv_aload_n hx hb dX2_enter_23 rfl (lv_at hl 0 rfl) ?_
      refine va_get (D := (dC, dI)) (ci := 2) (v := .ref c1) (C := RX2) (T := TX2) (N := 8) hx hb hts inX2_enter_X2 hown hK hP 0 rfl rfl 0 (by decide) (hts (.fieldLink RX2 9 "QueueHallModel" "hall" "[I") (List.mem_of_getElem? (i := 2) (by decide +kernel))) (fun _ h9 => h9) rfl dX2_enter_24 ?_
      refine lv_iload_n hx hb dX2_enter_27 rfl (lv_at hl 2 rfl) ?_
      refine q_iald (k := i) hx hb hK hP 1 0 rfl rfl (by omega) (by omega) dX2_enter_28 ?_
      refine lv_iload_n hx hb dX2_enter_29 rfl (lv_at hl 1 rfl) ?_
      refine lv_icmp_gt (tgt := 39) hx hb dX2_enter_30 (by decide) (fun c_2 => ?_) (fun c_2 => ?_)
      · exact E0 i hi hq (fun _ => c_2) _ _ hP hD hS ls (lv_sub hl [0, 1, 2] rfl)
      · refine lv_iinc (v := nI (i + 1)) (lv' := [(2, .int (nI (i + 1))), (0, .ref m0), (1, .int p0)]) hx hb dX2_enter_33 hl (k := 2) rfl (nI_1 i) (by decide) rfl (fun ls hl => ?_)
        refine lv_goto (tgt := 15) hx hb dX2_enter_36 (by decide) ?_
        exact ih (i + 1) (by omega) (by omega) (lt_s hq (by have q3 := c_2; rw [ti_lt] at q3; rw [ti_le]; omega)) _ _ hP hD hS ls (lv_sub hl [1, 2, 0] rfl)

set_option maxHeartbeats 4000000 in
set_option maxRecDepth 100000 in
theorem c_Mod_enter (l : Launch) (dC : Nat → ClassId) (dI : Nat → Nat → Nat) (sz : Nat) (m0 c1 c2 c3 nh nr nk : Nat) (cA : ClassId) (eh gh er gr ek gk : Nat → Int32) (fi me : Int32) (p0 : Int32) (hn : nh + nr + nk < 2000) (ha1 : qAg nh eh gh) (ha2 : qAg nr er gr) (ha3 : qAg nk ek gk) (hF : qFok fi me nk) (hs : qSorted gh nh) : Met l yX2_enter wsX2_enter ({ frames := 1, cells := 0, slots := 0, locals := 25 }) (va_Pc [.ref m0, .int p0] (fun U => U.heap.size = sz ∧ va_P (dC, dI) vwCl [(m0, .inr (2, [.ref c1, .ref c2, .ref c3, .int (nI nh), .int (nI nr), .int (nI nk), .int fi, .int me])), (c1, .inl (cA, 2000, .inl eh)), (c2, .inl (cA, 2000, .inl er)), (c3, .inl (cA, 2000, .inl ek))] U.heap ∧ va_K (dC, dI) vwCl [(cA, .int)] U ∧ va_D (fun _ => True) [(m0, .inr (2, [.ref c1, .ref c2, .ref c3, .int (nI nh), .int (nI nr), .int (nI nk), .int fi, .int me])), (c1, .inl (cA, 2000, .inl eh)), (c2, .inl (cA, 2000, .inl er)), (c3, .inl (cA, 2000, .inl ek))])) (va_Qi (fun (r : Int32) (u : qS) => (r, u) = qEnter p0 ((gh, nh), (gr, nr), (gk, nk), fi, me)) (at_M dC dI (va_A [(m0, .inr (2, [.ref c1, .ref c2, .ref c3, .int (nI nh), .int (nI nr), .int (nI nk), .int fi, .int me])), (c1, .inl (cA, 2000, .inl eh)), (c2, .inl (cA, 2000, .inl er)), (c3, .inl (cA, 2000, .inl ek))] sz) m0 c1 c2 c3 cA) (va_A [(m0, .inr (2, [.ref c1, .ref c2, .ref c3, .int (nI nh), .int (nI nr), .int (nI nk), .int fi, .int me])), (c1, .inl (cA, 2000, .inl eh)), (c2, .inl (cA, 2000, .inl er)), (c3, .inl (cA, 2000, .inl ek))] sz)) 0 0 (va_A [(m0, .inr (2, [.ref c1, .ref c2, .ref c3, .int (nI nh), .int (nI nr), .int (nI nk), .int fi, .int me])), (c1, .inl (cA, 2000, .inl eh)), (c2, .inl (cA, 2000, .inl er)), (c3, .inl (cA, 2000, .inl ek))] sz) := by
  refine Met.ofW (cc := cX2_enter) (maxL := 3) (ret := (some .int)) (by decide +kernel) rfl ?_
  intro p e s m args below meth c s₁ B hml hv
  obtain ⟨rfl, hsz, hP, hK, hD0⟩ := hv
  have hx := B.exec
  have hb := B.bytes
  have hr := B.returns
  have hts := atoms_spec (ws := wsX2_enter) B.pre
  have hown : s.vm.findClass RX2 = some m.cls := findClass_of_methodNamed B.named
  have hlocks := B.notSynchronized
  subst hsz
  have hD := hD0.self (sz := s.heap.size)
  generalize hAe : va_A [(m0, .inr (2, [.ref c1, .ref c2, .ref c3, .int (nI nh), .int (nI nr), .int (nI nk), .int fi, .int me])), (c1, .inl (cA, 2000, .inl eh)), (c2, .inl (cA, 2000, .inl er)), (c3, .inl (cA, 2000, .inl ek))] s.heap.size = A at hD ⊢
  have hA : ∀ q : Nat, s.heap.size ≤ q → A q := fun q h => by rw [← hAe]; exact Or.inr h
  have hS : va_S A s.heap s.heap [] := va_S.rf
  have hl := lv_entry ([.ref m0, .int p0]) (n := 3) (Nat.le_of_ble_eq_true rfl)
  rw [lg_entry_eq]
  generalize (lg_sl ([.ref m0, .int p0]) ++ List.replicate (3 - (lg_sl ([.ref m0, .int p0])).length) Slot.unset).toArray = ls at hl ⊢
  have hl : lv_has ls 3 [(0, .ref m0), (1, .int p0)] := hl
  refine lv_aload_n hx hb dX2_enter_0 rfl (lv_at hl 0 rfl) ?_
  refine va_get (D := (dC, dI)) (ci := 2) (v := .int (nI nh)) (C := RX2) (T := TX2) (N := 8) hx hb hts inX2_enter_X2 hown hK hP 0 rfl rfl 3 (by decide) (hts (.fieldLink RX2 26 "QueueHallModel" "halls" "I") (List.mem_of_getElem? (i := 1) (by decide +kernel))) (fun _ h9 => h9) rfl dX2_enter_1 ?_
  refine lv_sipush (v := 2000) hx hb dX2_enter_4 (by decide) ?_
  refine lv_icmp_ne (tgt := 13) hx hb dX2_enter_7 (by decide) (fun c_1 => ?_) (fun c_0 => absurd c_0 (show ¬ (nI nh) = (2000 : Int32) from (by simp (disch := omega) only [ti_lt, ti_le, ti_eq, ti_0, ti_1, ti_2, ti_m1, ti_100, ti_2000, nI_toInt] <;> omega)))
  have k_1 : ¬ nh = 2000 := by
    simp (disch := omega) only [ti_lt, ti_le, ti_eq, ti_0, ti_1, ti_2, ti_m1, ti_100, ti_2000, nI_toInt] at c_1
    omega
  refine lv_iconst (v := nI 0) hx hb dX2_enter_13 (by decide) ?_
  refine lv_istore_n (lv' := [(2, .int (nI 0)), (0, .ref m0), (1, .int p0)]) hx hb dX2_enter_14 rfl hl (by decide) rfl (fun ls hl => ?_)
  refine lp_enter m0 c1 c2 c3 nh nr nk cA eh gh er gr ek gk fi me p0 hn ha1 ha2 ha3 hF hs hx hb hml hts hown hK hA (fun i hi hq he H locs hP hD hS ls hl => ?_) (nh + 1) 0 (by omega) (by omega) (fun j hj => absurd hj (Nat.not_lt_zero j)) _ _ hP hD hS ls (lv_sub hl [1, 2, 0] rfl)
  refine lv_aload_n hx hb dX2_enter_39 rfl (lv_at hl 0 rfl) ?_
  refine va_get (D := (dC, dI)) (ci := 2) (v := .ref c1) (C := RX2) (T := TX2) (N := 8) hx hb hts inX2_enter_X2 hown hK hP 0 rfl rfl 0 (by decide) (hts (.fieldLink RX2 9 "QueueHallModel" "hall" "[I") (List.mem_of_getElem? (i := 2) (by decide +kernel))) (fun _ h9 => h9) rfl dX2_enter_40 ?_
  refine lv_aload_n hx hb dX2_enter_43 rfl (lv_at hl 0 rfl) ?_
  refine va_get (D := (dC, dI)) (ci := 2) (v := .int (nI nh)) (C := RX2) (T := TX2) (N := 8) hx hb hts inX2_enter_X2 hown hK hP 0 rfl rfl 3 (by decide) (hts (.fieldLink RX2 26 "QueueHallModel" "halls" "I") (List.mem_of_getElem? (i := 1) (by decide +kernel))) (fun _ h9 => h9) rfl dX2_enter_44 ?_
  refine lv_iload_n hx hb dX2_enter_47 rfl (lv_at hl 2 rfl) ?_
  refine lv_iload_n hx hb dX2_enter_48 rfl (lv_at hl 1 rfl) ?_
  have hPc := hP.sub (ws' := [(c1, .inl (cA, 2000, .inl eh))]) [1] rfl
  have hKc := hK.sub (tys' := [(cA, .int)]) [0] rfl
  have hDc := hD.sub (ws' := [(c1, .inl (cA, 2000, .inl eh))]) [1] (by decide) rfl
  have hFc := va_free (wc := [(c1, .inl (cA, 2000, .inl eh))]) hD hS hA [1] rfl
  refine va_callv (va_runS (As := [.ref c1, .int (nI nh), .int (nI i), .int p0]) (rest := []) ⟨hx, hb, hml, hown, hts⟩ (c_Mod_put l dC dI H.size c1 nh i cA eh gh p0 (by omega) (by omega) ha1) (cwS 4 hts gX2_enter_X2_put_v rfl rfl rfl (by decide +kernel) ⟨Nat.le_of_ble_eq_true rfl, Nat.le_of_ble_eq_true rfl⟩) ⟨q_blW, fun U hU hW => ⟨rfl, by rw [hU], by rw [hU]; exact hPc, va_K.moved hW.alike hKc, hDc.weaken (fun _ _ _ _ => trivial)⟩⟩ rfl rfl hl.1 rfl (lv_room (Nat.le_of_ble_eq_true rfl)) dX2_enter_49 ⟨Nat.le_of_ble_eq_true rfl, Nat.le_of_ble_eq_true rfl⟩) hS (fun q _ h => hFc q h) hFc (fun u_2 t_2 H1 locs ht hvm hw hB hz1 hk1 hS => ?_)
  subst hw
  obtain ⟨f_2, hg_2, hP1, hK1, hD1⟩ := hB
  rw [ht] at hP1
  obtain ⟨hP, hD⟩ := q_join (wr := [(m0, .inr (2, [.ref c1, .ref c2, .ref c3, .int (nI nh), .int (nI nr), .int (nI nk), .int fi, .int me])), (c2, .inl (cA, 2000, .inl er)), (c3, .inl (cA, 2000, .inl ek))]) (w1 := [(c1, .inl (cA, 2000, .inl f_2))]) (wz := [(m0, .inr (2, [.ref c1, .ref c2, .ref c3, .int (nI nh), .int (nI nr), .int (nI nk), .int fi, .int me])), (c1, .inl (cA, 2000, .inl f_2)), (c2, .inl (cA, 2000, .inl er)), (c3, .inl (cA, 2000, .inl ek))]) hP hD [1] [0, 2, 3] [0, 3, 1, 2] rfl rfl (by decide) (by decide) hk1 hFc hP1 hD1 rfl rfl (by decide)
  generalize H1 = H at hP hS ⊢
  refine lv_aload_n hx hb dX2_enter_52 rfl (lv_at hl 0 rfl) ?_
  refine lv_dup hx hb dX2_enter_53 rfl ?_
  refine va_get (D := (dC, dI)) (ci := 2) (v := .int (nI nh)) (C := RX2) (T := TX2) (N := 8) hx hb hts inX2_enter_X2 hown hK hP 0 rfl rfl 3 (by decide) (hts (.fieldLink RX2 26 "QueueHallModel" "halls" "I") (List.mem_of_getElem? (i := 1) (by decide +kernel))) (fun _ h9 => h9) rfl dX2_enter_54 ?_
  refine lv_iconst (v := 1) hx hb dX2_enter_57 (by decide) ?_
  refine lv_iadd hx hb dX2_enter_58 ?_
  refine q_top (y := nI (nh + 1)) (nI_1 nh) ?_
  refine lv_dup_x1 hx hb dX2_enter_59 rfl rfl ?_
  refine va_put (D := (dC, dI)) (ci := 2) (v := .int (nI (nh + 1))) (ty := .int) (C := RX2) (T := TX2) (N := 8) hx hb hts inX2_enter_X2 tyX2 tyX2_ok nmX2 hown hK hP hD hS 0 rfl rfl 3 (by decide) (hts (.fieldLink RX2 26 "QueueHallModel" "halls" "I") (List.mem_of_getElem? (i := 1) (by decide +kernel))) (fun _ h9 => h9) rfl (by decide +kernel) rfl rfl (Nat.le_of_ble_eq_true rfl) dX2_enter_60 (fun H locs hP hD hS => ?_)
  have hP : va_P (dC, dI) vwCl [(m0, .inr (2, [.ref c1, .ref c2, .ref c3, .int (nI (nh + 1)), .int (nI nr), .int (nI nk), .int fi, .int me])), (c1, .inl (cA, 2000, .inl f_2)), (c2, .inl (cA, 2000, .inl er)), (c3, .inl (cA, 2000, .inl ek))] H := hP
  have hD : va_D A [(m0, .inr (2, [.ref c1, .ref c2, .ref c3, .int (nI (nh + 1)), .int (nI nr), .int (nI nk), .int fi, .int me])), (c1, .inl (cA, 2000, .inl f_2)), (c2, .inl (cA, 2000, .inl er)), (c3, .inl (cA, 2000, .inl ek))] := hD
  exact W.iret (v := nI (nh + 1)) hx hb hr (fun t ht hW => ⟨⟨nI (nh + 1), ((qIns gh (qCb gh p0 nh) p0, nh + 1), (gr, nr), (gk, nk), fi, me), rfl, rfl, f_2, er, ek, (qAg_tr hg_2 (qEnt hs hi (fun j hj => by rw [← ha1 j (by omega)]; exact hq j hj) (fun q => by rw [← ha1 i q]; exact he q))), ha2, ha3, by rw [ht]; exact hP, va_K.moved hW.alike hK, hD⟩, hS.F ht⟩) hS.2.2 dX2_enter_63

set_option maxHeartbeats 4000000 in
set_option maxRecDepth 100000 in
theorem c_Mod_call (l : Launch) (dC : Nat → ClassId) (dI : Nat → Nat → Nat) (sz : Nat) (m0 c1 c2 c3 nh nr nk : Nat) (cA : ClassId) (eh gh er gr ek gk : Nat → Int32) (fi me : Int32) (p0 : Int32) (hn : nh + nr + nk < 2000) (ha1 : qAg nh eh gh) (ha2 : qAg nr er gr) (ha3 : qAg nk ek gk) (hF : qFok fi me nk) : Met l yX2_call wsX2_call ({ frames := 1, cells := 0, slots := 0, locals := 25 }) (va_Pc [.ref m0, .int p0] (fun U => U.heap.size = sz ∧ va_P (dC, dI) vwCl [(m0, .inr (2, [.ref c1, .ref c2, .ref c3, .int (nI nh), .int (nI nr), .int (nI nk), .int fi, .int me])), (c1, .inl (cA, 2000, .inl eh)), (c2, .inl (cA, 2000, .inl er)), (c3, .inl (cA, 2000, .inl ek))] U.heap ∧ va_K (dC, dI) vwCl [(cA, .int)] U ∧ va_D (fun _ => True) [(m0, .inr (2, [.ref c1, .ref c2, .ref c3, .int (nI nh), .int (nI nr), .int (nI nk), .int fi, .int me])), (c1, .inl (cA, 2000, .inl eh)), (c2, .inl (cA, 2000, .inl er)), (c3, .inl (cA, 2000, .inl ek))])) (va_Ql (fun (r : Int64) (u : qS) => (r, u) = qCall p0 ((gh, nh), (gr, nr), (gk, nk), fi, me)) (at_M dC dI (va_A [(m0, .inr (2, [.ref c1, .ref c2, .ref c3, .int (nI nh), .int (nI nr), .int (nI nk), .int fi, .int me])), (c1, .inl (cA, 2000, .inl eh)), (c2, .inl (cA, 2000, .inl er)), (c3, .inl (cA, 2000, .inl ek))] sz) m0 c1 c2 c3 cA) (va_A [(m0, .inr (2, [.ref c1, .ref c2, .ref c3, .int (nI nh), .int (nI nr), .int (nI nk), .int fi, .int me])), (c1, .inl (cA, 2000, .inl eh)), (c2, .inl (cA, 2000, .inl er)), (c3, .inl (cA, 2000, .inl ek))] sz)) 0 0 (va_A [(m0, .inr (2, [.ref c1, .ref c2, .ref c3, .int (nI nh), .int (nI nr), .int (nI nk), .int fi, .int me])), (c1, .inl (cA, 2000, .inl eh)), (c2, .inl (cA, 2000, .inl er)), (c3, .inl (cA, 2000, .inl ek))] sz) := by
  refine Met.ofW (cc := cX2_call) (maxL := 3) (ret := (some .long)) (by decide +kernel) rfl ?_
  intro p e s m args below meth c s₁ B hml hv
  obtain ⟨rfl, hsz, hP, hK, hD0⟩ := hv
  have hx := B.exec
  have hb := B.bytes
  have hr := B.returns
  have hts := atoms_spec (ws := wsX2_call) B.pre
  have hown : s.vm.findClass RX2 = some m.cls := findClass_of_methodNamed B.named
  have hlocks := B.notSynchronized
  subst hsz
  have hD := hD0.self (sz := s.heap.size)
  generalize hAe : va_A [(m0, .inr (2, [.ref c1, .ref c2, .ref c3, .int (nI nh), .int (nI nr), .int (nI nk), .int fi, .int me])), (c1, .inl (cA, 2000, .inl eh)), (c2, .inl (cA, 2000, .inl er)), (c3, .inl (cA, 2000, .inl ek))] s.heap.size = A at hD ⊢
  have hA : ∀ q : Nat, s.heap.size ≤ q → A q := fun q h => by rw [← hAe]; exact Or.inr h
  have hS : va_S A s.heap s.heap [] := va_S.rf
  have hl := lv_entry ([.ref m0, .int p0]) (n := 3) (Nat.le_of_ble_eq_true rfl)
  rw [lg_entry_eq]
  generalize (lg_sl ([.ref m0, .int p0]) ++ List.replicate (3 - (lg_sl ([.ref m0, .int p0])).length) Slot.unset).toArray = ls at hl ⊢
  have hl : lv_has ls 3 [(0, .ref m0), (1, .int p0)] := hl
  by_cases hz : p0 = 0 <;> rcases Nat.eq_zero_or_pos nh with hn0 | hn0
  · refine lv_aload_n hx hb dX2_call_0 rfl (lv_at hl 0 rfl) ?_
    refine va_get (D := (dC, dI)) (ci := 2) (v := .int (nI nh)) (C := RX2) (T := TX2) (N := 8) hx hb hts inX2_call_X2 hown hK hP 0 rfl rfl 3 (by decide) (hts (.fieldLink RX2 26 "QueueHallModel" "halls" "I") (List.mem_of_getElem? (i := 1) (by decide +kernel))) (fun _ h9 => h9) rfl dX2_call_1 ?_
    refine lv_if_ne (tgt := 11) hx hb dX2_call_4 (by decide) (fun c_0 => absurd (show (nI nh) = (0 : Int32) from (by simp (disch := omega) only [ti_lt, ti_le, ti_eq, ti_0, ti_1, ti_2, ti_m1, ti_100, ti_2000, nI_toInt] <;> omega)) c_0) (fun c_1 => ?_)
    have k_1 : nh = 0 := by
      simp (disch := omega) only [ti_lt, ti_le, ti_eq, ti_0, ti_1, ti_2, ti_m1, ti_100, ti_2000, nI_toInt] at c_1
      omega
    refine lv_ldc2 (v := qNo) hx hb hown (hts (.constantLong RX2 39 (1099511627776)) (List.mem_of_getElem? (i := 2) (by decide +kernel))) dX2_call_7 ?_
    exact W.lret (v := qNo) hx hb hr (fun t ht hW => ⟨⟨qNo, ((gh, nh), (gr, nr), (gk, nk), fi, me), rfl, (by simp only [qCall, if_pos hz, qTake_o (q_hp00 hn0)]), eh, er, ek, ha1, ha2, ha3, by rw [ht]; exact hP, va_K.moved hW.alike hK, hD⟩, hS.F ht⟩) hS.2.2 dX2_call_10
  · refine lv_aload_n hx hb dX2_call_0 rfl (lv_at hl 0 rfl) ?_
    refine va_get (D := (dC, dI)) (ci := 2) (v := .int (nI nh)) (C := RX2) (T := TX2) (N := 8) hx hb hts inX2_call_X2 hown hK hP 0 rfl rfl 3 (by decide) (hts (.fieldLink RX2 26 "QueueHallModel" "halls" "I") (List.mem_of_getElem? (i := 1) (by decide +kernel))) (fun _ h9 => h9) rfl dX2_call_1 ?_
    refine lv_if_ne (tgt := 11) hx hb dX2_call_4 (by decide) (fun c_2 => ?_) (fun c_0 => absurd c_0 (show ¬ (nI nh) = (0 : Int32) from (by simp (disch := omega) only [ti_lt, ti_le, ti_eq, ti_0, ti_1, ti_2, ti_m1, ti_100, ti_2000, nI_toInt] <;> omega)))
    have k_2 : ¬ nh = 0 := by
      simp (disch := omega) only [ti_lt, ti_le, ti_eq, ti_0, ti_1, ti_2, ti_m1, ti_100, ti_2000, nI_toInt] at c_2
      omega
    refine lv_aload_n hx hb dX2_call_11 rfl (lv_at hl 0 rfl) ?_
    refine va_get (D := (dC, dI)) (ci := 2) (v := .ref c1) (C := RX2) (T := TX2) (N := 8) hx hb hts inX2_call_X2 hown hK hP 0 rfl rfl 0 (by decide) (hts (.fieldLink RX2 9 "QueueHallModel" "hall" "[I") (List.mem_of_getElem? (i := 3) (by decide +kernel))) (fun _ h9 => h9) rfl dX2_call_12 ?_
    refine lv_iconst (v := 0) hx hb dX2_call_15 (by decide) ?_
    refine q_top (y := nI 0) rfl ?_
    refine q_iald (k := 0) hx hb hK hP 1 0 rfl rfl (by omega) (by omega) dX2_call_16 ?_
    refine lv_istore_n (lv' := [(2, .int (eh 0)), (0, .ref m0), (1, .int p0)]) hx hb dX2_call_17 rfl hl (by decide) rfl (fun ls hl => ?_)
    refine lv_iload_n hx hb dX2_call_18 rfl (lv_at hl 2 rfl) ?_
    refine lv_if_ne (tgt := 44) hx hb dX2_call_19 (by decide) (fun c_0 => absurd (show p0 = (0 : Int32) from hz) c_0) (fun c_3 => ?_)
    refine lv_aload_n hx hb dX2_call_22 rfl (lv_at hl 1 rfl) ?_
    refine va_get (D := (dC, dI)) (ci := 2) (v := .ref c1) (C := RX2) (T := TX2) (N := 8) hx hb hts inX2_call_X2 hown hK hP 0 rfl rfl 0 (by decide) (hts (.fieldLink RX2 9 "QueueHallModel" "hall" "[I") (List.mem_of_getElem? (i := 3) (by decide +kernel))) (fun _ h9 => h9) rfl dX2_call_23 ?_
    refine lv_aload_n hx hb dX2_call_26 rfl (lv_at hl 1 rfl) ?_
    refine va_get (D := (dC, dI)) (ci := 2) (v := .int (nI nh)) (C := RX2) (T := TX2) (N := 8) hx hb hts inX2_call_X2 hown hK hP 0 rfl rfl 3 (by decide) (hts (.fieldLink RX2 26 "QueueHallModel" "halls" "I") (List.mem_of_getElem? (i := 1) (by decide +kernel))) (fun _ h9 => h9) rfl dX2_call_27 ?_
    refine lv_iconst (v := nI 0) hx hb dX2_call_30 (by decide) ?_
    have hPc := hP.sub (ws' := [(c1, .inl (cA, 2000, .inl eh))]) [1] rfl
    have hKc := hK.sub (tys' := [(cA, .int)]) [0] rfl
    have hDc := hD.sub (ws' := [(c1, .inl (cA, 2000, .inl eh))]) [1] (by decide) rfl
    have hFc := va_free (wc := [(c1, .inl (cA, 2000, .inl eh))]) hD hS hA [1] rfl
    refine va_callv (va_runS (As := [.ref c1, .int (nI nh), .int (nI 0)]) (rest := []) ⟨hx, hb, hml, hown, hts⟩ (c_Mod_take l dC dI s.heap.size c1 nh 0 cA eh gh (by omega) (by omega) ha1) (cwS 3 hts gX2_call_X2_take_v rfl rfl rfl (by decide +kernel) ⟨Nat.le_of_ble_eq_true rfl, Nat.le_of_ble_eq_true rfl⟩) ⟨q_blW, fun U hU hW => ⟨rfl, by rw [hU], by rw [hU]; exact hPc, va_K.moved hW.alike hKc, hDc.weaken (fun _ _ _ _ => trivial)⟩⟩ rfl rfl hl.1 rfl (lv_room (Nat.le_of_ble_eq_true rfl)) dX2_call_31 ⟨Nat.le_of_ble_eq_true rfl, Nat.le_of_ble_eq_true rfl⟩) hS (fun q _ h => hFc q h) hFc (fun u_4 t_4 H1 locs ht hvm hw hB hz1 hk1 hS => ?_)
    subst hw
    obtain ⟨f_4, hg_4, hP1, hK1, hD1⟩ := hB
    rw [ht] at hP1
    obtain ⟨hP, hD⟩ := q_join (wr := [(m0, .inr (2, [.ref c1, .ref c2, .ref c3, .int (nI nh), .int (nI nr), .int (nI nk), .int fi, .int me])), (c2, .inl (cA, 2000, .inl er)), (c3, .inl (cA, 2000, .inl ek))]) (w1 := [(c1, .inl (cA, 2000, .inl f_4))]) (wz := [(m0, .inr (2, [.ref c1, .ref c2, .ref c3, .int (nI nh), .int (nI nr), .int (nI nk), .int fi, .int me])), (c1, .inl (cA, 2000, .inl f_4)), (c2, .inl (cA, 2000, .inl er)), (c3, .inl (cA, 2000, .inl ek))]) hP hD [1] [0, 2, 3] [0, 3, 1, 2] rfl rfl (by decide) (by decide) hk1 hFc hP1 hD1 rfl rfl (by decide)
    generalize H1 = H at hP hS ⊢
    refine lv_aload_n hx hb dX2_call_34 rfl (lv_at hl 1 rfl) ?_
    refine lv_dup hx hb dX2_call_35 rfl ?_
    refine va_get (D := (dC, dI)) (ci := 2) (v := .int (nI nh)) (C := RX2) (T := TX2) (N := 8) hx hb hts inX2_call_X2 hown hK hP 0 rfl rfl 3 (by decide) (hts (.fieldLink RX2 26 "QueueHallModel" "halls" "I") (List.mem_of_getElem? (i := 1) (by decide +kernel))) (fun _ h9 => h9) rfl dX2_call_36 ?_
    refine lv_iconst (v := 1) hx hb dX2_call_39 (by decide) ?_
    refine lv_isub hx hb dX2_call_40 ?_
    refine q_top (y := nI (nh - 1)) (q_m1 (by omega)) ?_
    refine va_put (D := (dC, dI)) (ci := 2) (v := .int (nI (nh - 1))) (ty := .int) (C := RX2) (T := TX2) (N := 8) hx hb hts inX2_call_X2 tyX2 tyX2_ok nmX2 hown hK hP hD hS 0 rfl rfl 3 (by decide) (hts (.fieldLink RX2 26 "QueueHallModel" "halls" "I") (List.mem_of_getElem? (i := 1) (by decide +kernel))) (fun _ h9 => h9) rfl (by decide +kernel) rfl rfl (Nat.le_of_ble_eq_true rfl) dX2_call_41 (fun H locs hP hD hS => ?_)
    have hP : va_P (dC, dI) vwCl [(m0, .inr (2, [.ref c1, .ref c2, .ref c3, .int (nI (nh - 1)), .int (nI nr), .int (nI nk), .int fi, .int me])), (c1, .inl (cA, 2000, .inl f_4)), (c2, .inl (cA, 2000, .inl er)), (c3, .inl (cA, 2000, .inl ek))] H := hP
    have hD : va_D A [(m0, .inr (2, [.ref c1, .ref c2, .ref c3, .int (nI (nh - 1)), .int (nI nr), .int (nI nk), .int fi, .int me])), (c1, .inl (cA, 2000, .inl f_4)), (c2, .inl (cA, 2000, .inl er)), (c3, .inl (cA, 2000, .inl ek))] := hD
    refine lv_iload_n hx hb dX2_call_44 rfl (lv_at hl 0 rfl) ?_
    refine lv_i2l (v := (eh 0).toInt64) hx hb dX2_call_45 rfl ?_
    exact W.lret (v := (eh 0).toInt64) hx hb hr (fun t ht hW => ⟨⟨(eh 0).toInt64, ((qDel gh 0, nh - 1), (gr, nr), (gk, nk), fi, me), rfl, (by simp only [qCall, if_pos hz, qTake_i (show 0 < nh by omega) (show nh < 2 ^ 31 by omega), ha1 0 (show 0 < nh by omega)]), f_4, er, ek, hg_4, ha2, ha3, by rw [ht]; exact hP, va_K.moved hW.alike hK, hD⟩, hS.F ht⟩) hS.2.2 dX2_call_46
  · refine lv_aload_n hx hb dX2_call_0 rfl (lv_at hl 0 rfl) ?_
    refine va_get (D := (dC, dI)) (ci := 2) (v := .int (nI nh)) (C := RX2) (T := TX2) (N := 8) hx hb hts inX2_call_X2 hown hK hP 0 rfl rfl 3 (by decide) (hts (.fieldLink RX2 26 "QueueHallModel" "halls" "I") (List.mem_of_getElem? (i := 1) (by decide +kernel))) (fun _ h9 => h9) rfl dX2_call_1 ?_
    refine lv_if_ne (tgt := 11) hx hb dX2_call_4 (by decide) (fun c_0 => absurd (show (nI nh) = (0 : Int32) from (by simp (disch := omega) only [ti_lt, ti_le, ti_eq, ti_0, ti_1, ti_2, ti_m1, ti_100, ti_2000, nI_toInt] <;> omega)) c_0) (fun c_5 => ?_)
    have k_5 : nh = 0 := by
      simp (disch := omega) only [ti_lt, ti_le, ti_eq, ti_0, ti_1, ti_2, ti_m1, ti_100, ti_2000, nI_toInt] at c_5
      omega
    refine lv_ldc2 (v := qNo) hx hb hown (hts (.constantLong RX2 39 (1099511627776)) (List.mem_of_getElem? (i := 2) (by decide +kernel))) dX2_call_7 ?_
    exact W.lret (v := qNo) hx hb hr (fun t ht hW => ⟨⟨qNo, ((gh, nh), (gr, nr), (gk, nk), fi, me), rfl, (by simp only [qCall, if_neg hz, qAt_o (q_hp00 hn0)]), eh, er, ek, ha1, ha2, ha3, by rw [ht]; exact hP, va_K.moved hW.alike hK, hD⟩, hS.F ht⟩) hS.2.2 dX2_call_10
  · refine lv_aload_n hx hb dX2_call_0 rfl (lv_at hl 0 rfl) ?_
    refine va_get (D := (dC, dI)) (ci := 2) (v := .int (nI nh)) (C := RX2) (T := TX2) (N := 8) hx hb hts inX2_call_X2 hown hK hP 0 rfl rfl 3 (by decide) (hts (.fieldLink RX2 26 "QueueHallModel" "halls" "I") (List.mem_of_getElem? (i := 1) (by decide +kernel))) (fun _ h9 => h9) rfl dX2_call_1 ?_
    refine lv_if_ne (tgt := 11) hx hb dX2_call_4 (by decide) (fun c_6 => ?_) (fun c_0 => absurd c_0 (show ¬ (nI nh) = (0 : Int32) from (by simp (disch := omega) only [ti_lt, ti_le, ti_eq, ti_0, ti_1, ti_2, ti_m1, ti_100, ti_2000, nI_toInt] <;> omega)))
    have k_6 : ¬ nh = 0 := by
      simp (disch := omega) only [ti_lt, ti_le, ti_eq, ti_0, ti_1, ti_2, ti_m1, ti_100, ti_2000, nI_toInt] at c_6
      omega
    refine lv_aload_n hx hb dX2_call_11 rfl (lv_at hl 0 rfl) ?_
    refine va_get (D := (dC, dI)) (ci := 2) (v := .ref c1) (C := RX2) (T := TX2) (N := 8) hx hb hts inX2_call_X2 hown hK hP 0 rfl rfl 0 (by decide) (hts (.fieldLink RX2 9 "QueueHallModel" "hall" "[I") (List.mem_of_getElem? (i := 3) (by decide +kernel))) (fun _ h9 => h9) rfl dX2_call_12 ?_
    refine lv_iconst (v := 0) hx hb dX2_call_15 (by decide) ?_
    refine q_top (y := nI 0) rfl ?_
    refine q_iald (k := 0) hx hb hK hP 1 0 rfl rfl (by omega) (by omega) dX2_call_16 ?_
    refine lv_istore_n (lv' := [(2, .int (eh 0)), (0, .ref m0), (1, .int p0)]) hx hb dX2_call_17 rfl hl (by decide) rfl (fun ls hl => ?_)
    refine lv_iload_n hx hb dX2_call_18 rfl (lv_at hl 2 rfl) ?_
    refine lv_if_ne (tgt := 44) hx hb dX2_call_19 (by decide) (fun c_7 => ?_) (fun c_0 => absurd c_0 (show ¬ p0 = (0 : Int32) from hz))
    refine lv_iload_n hx hb dX2_call_44 rfl (lv_at hl 0 rfl) ?_
    refine lv_i2l (v := (eh 0).toInt64) hx hb dX2_call_45 rfl ?_
    exact W.lret (v := (eh 0).toInt64) hx hb hr (fun t ht hW => ⟨⟨(eh 0).toInt64, ((gh, nh), (gr, nr), (gk, nk), fi, me), rfl, (by simp only [qCall, if_neg hz, qAt_i (show 0 < nh by omega) (show nh < 2 ^ 31 by omega), ha1 0 (show 0 < nh by omega)]), eh, er, ek, ha1, ha2, ha3, by rw [ht]; exact hP, va_K.moved hW.alike hK, hD⟩, hS.F ht⟩) hS.2.2 dX2_call_46

set_option maxHeartbeats 4000000 in
set_option maxRecDepth 100000 in
theorem c_Mod_leave (l : Launch) (dC : Nat → ClassId) (dI : Nat → Nat → Nat) (sz : Nat) (m0 c1 c2 c3 nh nr nk : Nat) (cA : ClassId) (eh gh er gr ek gk : Nat → Int32) (fi me : Int32) (p0 : Int32) (hn : nh + nr + nk < 2000) (ha1 : qAg nh eh gh) (ha2 : qAg nr er gr) (ha3 : qAg nk ek gk) (hF : qFok fi me nk) : Met l yX2_leave wsX2_leave ({ frames := 1, cells := 0, slots := 0, locals := 25 }) (va_Pc [.ref m0, .int p0] (fun U => U.heap.size = sz ∧ va_P (dC, dI) vwCl [(m0, .inr (2, [.ref c1, .ref c2, .ref c3, .int (nI nh), .int (nI nr), .int (nI nk), .int fi, .int me])), (c1, .inl (cA, 2000, .inl eh)), (c2, .inl (cA, 2000, .inl er)), (c3, .inl (cA, 2000, .inl ek))] U.heap ∧ va_K (dC, dI) vwCl [(cA, .int)] U ∧ va_D (fun _ => True) [(m0, .inr (2, [.ref c1, .ref c2, .ref c3, .int (nI nh), .int (nI nr), .int (nI nk), .int fi, .int me])), (c1, .inl (cA, 2000, .inl eh)), (c2, .inl (cA, 2000, .inl er)), (c3, .inl (cA, 2000, .inl ek))])) (va_Qi (fun (r : Int32) (u : qS) => (r, u) = qLeave p0 ((gh, nh), (gr, nr), (gk, nk), fi, me)) (at_M dC dI (va_A [(m0, .inr (2, [.ref c1, .ref c2, .ref c3, .int (nI nh), .int (nI nr), .int (nI nk), .int fi, .int me])), (c1, .inl (cA, 2000, .inl eh)), (c2, .inl (cA, 2000, .inl er)), (c3, .inl (cA, 2000, .inl ek))] sz) m0 c1 c2 c3 cA) (va_A [(m0, .inr (2, [.ref c1, .ref c2, .ref c3, .int (nI nh), .int (nI nr), .int (nI nk), .int fi, .int me])), (c1, .inl (cA, 2000, .inl eh)), (c2, .inl (cA, 2000, .inl er)), (c3, .inl (cA, 2000, .inl ek))] sz)) 0 0 (va_A [(m0, .inr (2, [.ref c1, .ref c2, .ref c3, .int (nI nh), .int (nI nr), .int (nI nk), .int fi, .int me])), (c1, .inl (cA, 2000, .inl eh)), (c2, .inl (cA, 2000, .inl er)), (c3, .inl (cA, 2000, .inl ek))] sz) := by
  refine Met.ofW (cc := cX2_leave) (maxL := 3) (ret := (some .boolean)) (by decide +kernel) rfl ?_
  intro p e s m args below meth c s₁ B hml hv
  obtain ⟨rfl, hsz, hP, hK, hD0⟩ := hv
  have hx := B.exec
  have hb := B.bytes
  have hr := B.returns
  have hts := atoms_spec (ws := wsX2_leave) B.pre
  have hown : s.vm.findClass RX2 = some m.cls := findClass_of_methodNamed B.named
  have hlocks := B.notSynchronized
  subst hsz
  have hD := hD0.self (sz := s.heap.size)
  generalize hAe : va_A [(m0, .inr (2, [.ref c1, .ref c2, .ref c3, .int (nI nh), .int (nI nr), .int (nI nk), .int fi, .int me])), (c1, .inl (cA, 2000, .inl eh)), (c2, .inl (cA, 2000, .inl er)), (c3, .inl (cA, 2000, .inl ek))] s.heap.size = A at hD ⊢
  have hA : ∀ q : Nat, s.heap.size ≤ q → A q := fun q h => by rw [← hAe]; exact Or.inr h
  have hS : va_S A s.heap s.heap [] := va_S.rf
  have hl := lv_entry ([.ref m0, .int p0]) (n := 3) (Nat.le_of_ble_eq_true rfl)
  rw [lg_entry_eq]
  generalize (lg_sl ([.ref m0, .int p0]) ++ List.replicate (3 - (lg_sl ([.ref m0, .int p0])).length) Slot.unset).toArray = ls at hl ⊢
  have hl : lv_has ls 3 [(0, .ref m0), (1, .int p0)] := hl
  rcases qPl_r (g := gh) (v := p0) (z := 0) nh with hq | ⟨k, hk, hq, hv⟩
  · refine lv_aload_n hx hb dX2_leave_0 rfl (lv_at hl 0 rfl) ?_
    refine va_get (D := (dC, dI)) (ci := 2) (v := .ref c1) (C := RX2) (T := TX2) (N := 8) hx hb hts inX2_leave_X2 hown hK hP 0 rfl rfl 0 (by decide) (hts (.fieldLink RX2 9 "QueueHallModel" "hall" "[I") (List.mem_of_getElem? (i := 1) (by decide +kernel))) (fun _ h9 => h9) rfl dX2_leave_1 ?_
    refine lv_aload_n hx hb dX2_leave_4 rfl (lv_at hl 0 rfl) ?_
    refine va_get (D := (dC, dI)) (ci := 2) (v := .int (nI nh)) (C := RX2) (T := TX2) (N := 8) hx hb hts inX2_leave_X2 hown hK hP 0 rfl rfl 3 (by decide) (hts (.fieldLink RX2 26 "QueueHallModel" "halls" "I") (List.mem_of_getElem? (i := 2) (by decide +kernel))) (fun _ h9 => h9) rfl dX2_leave_5 ?_
    refine lv_iload_n hx hb dX2_leave_8 rfl (lv_at hl 1 rfl) ?_
    refine lv_iconst (v := 0) hx hb dX2_leave_9 (by decide) ?_
    have hPc := hP.sub (ws' := [(c1, .inl (cA, 2000, .inl eh))]) [1] rfl
    have hKc := hK.sub (tys' := [(cA, .int)]) [0] rfl
    refine q_csiE (va_runS (As := [.ref c1, .int (nI nh), .int p0, .int 0]) (rest := []) ⟨hx, hb, hml, hown, hts⟩ (c_Mod_place l dC dI c1 nh cA eh gh p0 0 (by omega) ha1) (cwS 4 hts gX2_leave_X2_place_v rfl rfl rfl (by decide +kernel) ⟨Nat.le_of_ble_eq_true rfl, Nat.le_of_ble_eq_true rfl⟩) ⟨q_blR, fun U hU hW => ⟨rfl, by rw [hU]; exact hPc, va_K.moved hW.alike hKc⟩⟩ rfl rfl hl.1 rfl (lv_room (Nat.le_of_ble_eq_true rfl)) dX2_leave_10 ⟨Nat.le_of_ble_eq_true rfl, Nat.le_of_ble_eq_true rfl⟩) ?_
    refine q_top (y := -1) hq ?_
    refine lv_istore_n (lv' := [(2, .int (-1)), (0, .ref m0), (1, .int p0)]) hx hb dX2_leave_13 rfl hl (by decide) rfl (fun ls hl => ?_)
    refine lv_iload_n hx hb dX2_leave_14 rfl (lv_at hl 0 rfl) ?_
    refine lv_if_ge (tgt := 20) hx hb dX2_leave_15 (by decide) (fun c_0 => absurd c_0 (show ¬ (0 : Int32) ≤ (-1 : Int32) from (by decide))) (fun c_1 => ?_)
    refine lv_iconst (v := 0) hx hb dX2_leave_18 (by decide) ?_
    exact W.zret (v := 0) hx hb hr rfl (fun t ht hW => ⟨⟨0, ((gh, nh), (gr, nr), (gk, nk), fi, me), rfl, (by simp only [qLeave, hq, if_pos (show (-1 : Int32) < 0 by decide)]), eh, er, ek, ha1, ha2, ha3, by rw [ht]; exact hP, va_K.moved hW.alike hK, hD⟩, hS.F ht⟩) hS.2.2 dX2_leave_19
  · refine lv_aload_n hx hb dX2_leave_0 rfl (lv_at hl 0 rfl) ?_
    refine va_get (D := (dC, dI)) (ci := 2) (v := .ref c1) (C := RX2) (T := TX2) (N := 8) hx hb hts inX2_leave_X2 hown hK hP 0 rfl rfl 0 (by decide) (hts (.fieldLink RX2 9 "QueueHallModel" "hall" "[I") (List.mem_of_getElem? (i := 1) (by decide +kernel))) (fun _ h9 => h9) rfl dX2_leave_1 ?_
    refine lv_aload_n hx hb dX2_leave_4 rfl (lv_at hl 0 rfl) ?_
    refine va_get (D := (dC, dI)) (ci := 2) (v := .int (nI nh)) (C := RX2) (T := TX2) (N := 8) hx hb hts inX2_leave_X2 hown hK hP 0 rfl rfl 3 (by decide) (hts (.fieldLink RX2 26 "QueueHallModel" "halls" "I") (List.mem_of_getElem? (i := 2) (by decide +kernel))) (fun _ h9 => h9) rfl dX2_leave_5 ?_
    refine lv_iload_n hx hb dX2_leave_8 rfl (lv_at hl 1 rfl) ?_
    refine lv_iconst (v := 0) hx hb dX2_leave_9 (by decide) ?_
    have hPc := hP.sub (ws' := [(c1, .inl (cA, 2000, .inl eh))]) [1] rfl
    have hKc := hK.sub (tys' := [(cA, .int)]) [0] rfl
    refine q_csiE (va_runS (As := [.ref c1, .int (nI nh), .int p0, .int 0]) (rest := []) ⟨hx, hb, hml, hown, hts⟩ (c_Mod_place l dC dI c1 nh cA eh gh p0 0 (by omega) ha1) (cwS 4 hts gX2_leave_X2_place_v rfl rfl rfl (by decide +kernel) ⟨Nat.le_of_ble_eq_true rfl, Nat.le_of_ble_eq_true rfl⟩) ⟨q_blR, fun U hU hW => ⟨rfl, by rw [hU]; exact hPc, va_K.moved hW.alike hKc⟩⟩ rfl rfl hl.1 rfl (lv_room (Nat.le_of_ble_eq_true rfl)) dX2_leave_10 ⟨Nat.le_of_ble_eq_true rfl, Nat.le_of_ble_eq_true rfl⟩) ?_
    refine q_top (y := nI k) hq ?_
    refine lv_istore_n (lv' := [(2, .int (nI k)), (0, .ref m0), (1, .int p0)]) hx hb dX2_leave_13 rfl hl (by decide) rfl (fun ls hl => ?_)
    refine lv_iload_n hx hb dX2_leave_14 rfl (lv_at hl 0 rfl) ?_
    refine lv_if_ge (tgt := 20) hx hb dX2_leave_15 (by decide) (fun c_2 => ?_) (fun c_0 => absurd (show (0 : Int32) ≤ (nI k) from (by simp (disch := omega) only [ti_lt, ti_le, ti_eq, ti_0, ti_1, ti_2, ti_m1, ti_100, ti_2000, nI_toInt] <;> omega)) c_0)
    have k_2 : k ≥ 0 := by
      simp (disch := omega) only [ti_lt, ti_le, ti_eq, ti_0, ti_1, ti_2, ti_m1, ti_100, ti_2000, nI_toInt] at c_2
      omega
    refine lv_aload_n hx hb dX2_leave_20 rfl (lv_at hl 1 rfl) ?_
    refine va_get (D := (dC, dI)) (ci := 2) (v := .ref c1) (C := RX2) (T := TX2) (N := 8) hx hb hts inX2_leave_X2 hown hK hP 0 rfl rfl 0 (by decide) (hts (.fieldLink RX2 9 "QueueHallModel" "hall" "[I") (List.mem_of_getElem? (i := 1) (by decide +kernel))) (fun _ h9 => h9) rfl dX2_leave_21 ?_
    refine lv_aload_n hx hb dX2_leave_24 rfl (lv_at hl 1 rfl) ?_
    refine va_get (D := (dC, dI)) (ci := 2) (v := .int (nI nh)) (C := RX2) (T := TX2) (N := 8) hx hb hts inX2_leave_X2 hown hK hP 0 rfl rfl 3 (by decide) (hts (.fieldLink RX2 26 "QueueHallModel" "halls" "I") (List.mem_of_getElem? (i := 2) (by decide +kernel))) (fun _ h9 => h9) rfl dX2_leave_25 ?_
    refine lv_iload_n hx hb dX2_leave_28 rfl (lv_at hl 0 rfl) ?_
    have hPc := hP.sub (ws' := [(c1, .inl (cA, 2000, .inl eh))]) [1] rfl
    have hKc := hK.sub (tys' := [(cA, .int)]) [0] rfl
    have hDc := hD.sub (ws' := [(c1, .inl (cA, 2000, .inl eh))]) [1] (by decide) rfl
    have hFc := va_free (wc := [(c1, .inl (cA, 2000, .inl eh))]) hD hS hA [1] rfl
    refine va_callv (va_runS (As := [.ref c1, .int (nI nh), .int (nI k)]) (rest := []) ⟨hx, hb, hml, hown, hts⟩ (c_Mod_take l dC dI s.heap.size c1 nh k cA eh gh (by omega) (by omega) ha1) (cwS 3 hts gX2_leave_X2_take_v rfl rfl rfl (by decide +kernel) ⟨Nat.le_of_ble_eq_true rfl, Nat.le_of_ble_eq_true rfl⟩) ⟨q_blW, fun U hU hW => ⟨rfl, by rw [hU], by rw [hU]; exact hPc, va_K.moved hW.alike hKc, hDc.weaken (fun _ _ _ _ => trivial)⟩⟩ rfl rfl hl.1 rfl (lv_room (Nat.le_of_ble_eq_true rfl)) dX2_leave_29 ⟨Nat.le_of_ble_eq_true rfl, Nat.le_of_ble_eq_true rfl⟩) hS (fun q _ h => hFc q h) hFc (fun u_3 t_3 H1 locs ht hvm hw hB hz1 hk1 hS => ?_)
    subst hw
    obtain ⟨f_3, hg_3, hP1, hK1, hD1⟩ := hB
    rw [ht] at hP1
    obtain ⟨hP, hD⟩ := q_join (wr := [(m0, .inr (2, [.ref c1, .ref c2, .ref c3, .int (nI nh), .int (nI nr), .int (nI nk), .int fi, .int me])), (c2, .inl (cA, 2000, .inl er)), (c3, .inl (cA, 2000, .inl ek))]) (w1 := [(c1, .inl (cA, 2000, .inl f_3))]) (wz := [(m0, .inr (2, [.ref c1, .ref c2, .ref c3, .int (nI nh), .int (nI nr), .int (nI nk), .int fi, .int me])), (c1, .inl (cA, 2000, .inl f_3)), (c2, .inl (cA, 2000, .inl er)), (c3, .inl (cA, 2000, .inl ek))]) hP hD [1] [0, 2, 3] [0, 3, 1, 2] rfl rfl (by decide) (by decide) hk1 hFc hP1 hD1 rfl rfl (by decide)
    generalize H1 = H at hP hS ⊢
    refine lv_aload_n hx hb dX2_leave_32 rfl (lv_at hl 1 rfl) ?_
    refine lv_dup hx hb dX2_leave_33 rfl ?_
    refine va_get (D := (dC, dI)) (ci := 2) (v := .int (nI nh)) (C := RX2) (T := TX2) (N := 8) hx hb hts inX2_leave_X2 hown hK hP 0 rfl rfl 3 (by decide) (hts (.fieldLink RX2 26 "QueueHallModel" "halls" "I") (List.mem_of_getElem? (i := 2) (by decide +kernel))) (fun _ h9 => h9) rfl dX2_leave_34 ?_
    refine lv_iconst (v := 1) hx hb dX2_leave_37 (by decide) ?_
    refine lv_isub hx hb dX2_leave_38 ?_
    refine q_top (y := nI (nh - 1)) (q_m1 (by omega)) ?_
    refine va_put (D := (dC, dI)) (ci := 2) (v := .int (nI (nh - 1))) (ty := .int) (C := RX2) (T := TX2) (N := 8) hx hb hts inX2_leave_X2 tyX2 tyX2_ok nmX2 hown hK hP hD hS 0 rfl rfl 3 (by decide) (hts (.fieldLink RX2 26 "QueueHallModel" "halls" "I") (List.mem_of_getElem? (i := 2) (by decide +kernel))) (fun _ h9 => h9) rfl (by decide +kernel) rfl rfl (Nat.le_of_ble_eq_true rfl) dX2_leave_39 (fun H locs hP hD hS => ?_)
    have hP : va_P (dC, dI) vwCl [(m0, .inr (2, [.ref c1, .ref c2, .ref c3, .int (nI (nh - 1)), .int (nI nr), .int (nI nk), .int fi, .int me])), (c1, .inl (cA, 2000, .inl f_3)), (c2, .inl (cA, 2000, .inl er)), (c3, .inl (cA, 2000, .inl ek))] H := hP
    have hD : va_D A [(m0, .inr (2, [.ref c1, .ref c2, .ref c3, .int (nI (nh - 1)), .int (nI nr), .int (nI nk), .int fi, .int me])), (c1, .inl (cA, 2000, .inl f_3)), (c2, .inl (cA, 2000, .inl er)), (c3, .inl (cA, 2000, .inl ek))] := hD
    refine lv_iconst (v := 1) hx hb dX2_leave_42 (by decide) ?_
    exact W.zret (v := 1) hx hb hr rfl (fun t ht hW => ⟨⟨1, ((qDel gh k, nh - 1), (gr, nr), (gk, nk), fi, me), rfl, (by simp only [qLeave, hq, if_neg (nI_pos (show k < 2 ^ 31 by omega)), nI_clamp (show k < 2 ^ 31 by omega)]), f_3, er, ek, hg_3, ha2, ha3, by rw [ht]; exact hP, va_K.moved hW.alike hK, hD⟩, hS.F ht⟩) hS.2.2 dX2_leave_43

set_option maxHeartbeats 4000000 in
set_option maxRecDepth 100000 in
theorem c_Mod_unlink (l : Launch) (dC : Nat → ClassId) (dI : Nat → Nat → Nat) (sz : Nat) (m0 c1 c2 c3 nh nr nk : Nat) (cA : ClassId) (eh gh er gr ek gk : Nat → Int32) (fi me : Int32) (p0 : Int32) (hn : nh + nr + nk < 2000) (ha1 : qAg nh eh gh) (ha2 : qAg nr er gr) (ha3 : qAg nk ek gk) (hF : qFok fi me nk) : Met l yX2_unlink wsX2_unlink ({ frames := 1, cells := 0, slots := 0, locals := 25 }) (va_Pc [.ref m0, .int p0] (fun U => U.heap.size = sz ∧ va_P (dC, dI) vwCl [(m0, .inr (2, [.ref c1, .ref c2, .ref c3, .int (nI nh), .int (nI nr), .int (nI nk), .int fi, .int me])), (c1, .inl (cA, 2000, .inl eh)), (c2, .inl (cA, 2000, .inl er)), (c3, .inl (cA, 2000, .inl ek))] U.heap ∧ va_K (dC, dI) vwCl [(cA, .int)] U ∧ va_D (fun _ => True) [(m0, .inr (2, [.ref c1, .ref c2, .ref c3, .int (nI nh), .int (nI nr), .int (nI nk), .int fi, .int me])), (c1, .inl (cA, 2000, .inl eh)), (c2, .inl (cA, 2000, .inl er)), (c3, .inl (cA, 2000, .inl ek))])) (va_Qi (fun (r : Int32) (u : qS) => (r, u) = qUnlink p0 ((gh, nh), (gr, nr), (gk, nk), fi, me)) (at_M dC dI (va_A [(m0, .inr (2, [.ref c1, .ref c2, .ref c3, .int (nI nh), .int (nI nr), .int (nI nk), .int fi, .int me])), (c1, .inl (cA, 2000, .inl eh)), (c2, .inl (cA, 2000, .inl er)), (c3, .inl (cA, 2000, .inl ek))] sz) m0 c1 c2 c3 cA) (va_A [(m0, .inr (2, [.ref c1, .ref c2, .ref c3, .int (nI nh), .int (nI nr), .int (nI nk), .int fi, .int me])), (c1, .inl (cA, 2000, .inl eh)), (c2, .inl (cA, 2000, .inl er)), (c3, .inl (cA, 2000, .inl ek))] sz)) 0 0 (va_A [(m0, .inr (2, [.ref c1, .ref c2, .ref c3, .int (nI nh), .int (nI nr), .int (nI nk), .int fi, .int me])), (c1, .inl (cA, 2000, .inl eh)), (c2, .inl (cA, 2000, .inl er)), (c3, .inl (cA, 2000, .inl ek))] sz) := by
  refine Met.ofW (cc := cX2_unlink) (maxL := 3) (ret := (some .boolean)) (by decide +kernel) rfl ?_
  intro p e s m args below meth c s₁ B hml hv
  obtain ⟨rfl, hsz, hP, hK, hD0⟩ := hv
  have hx := B.exec
  have hb := B.bytes
  have hr := B.returns
  have hts := atoms_spec (ws := wsX2_unlink) B.pre
  have hown : s.vm.findClass RX2 = some m.cls := findClass_of_methodNamed B.named
  have hlocks := B.notSynchronized
  subst hsz
  have hD := hD0.self (sz := s.heap.size)
  generalize hAe : va_A [(m0, .inr (2, [.ref c1, .ref c2, .ref c3, .int (nI nh), .int (nI nr), .int (nI nk), .int fi, .int me])), (c1, .inl (cA, 2000, .inl eh)), (c2, .inl (cA, 2000, .inl er)), (c3, .inl (cA, 2000, .inl ek))] s.heap.size = A at hD ⊢
  have hA : ∀ q : Nat, s.heap.size ≤ q → A q := fun q h => by rw [← hAe]; exact Or.inr h
  have hS : va_S A s.heap s.heap [] := va_S.rf
  have hl := lv_entry ([.ref m0, .int p0]) (n := 3) (Nat.le_of_ble_eq_true rfl)
  rw [lg_entry_eq]
  generalize (lg_sl ([.ref m0, .int p0]) ++ List.replicate (3 - (lg_sl ([.ref m0, .int p0])).length) Slot.unset).toArray = ls at hl ⊢
  have hl : lv_has ls 3 [(0, .ref m0), (1, .int p0)] := hl
  rcases qPl_r (g := gk) (v := p0) (z := 0) nk with hq | ⟨k, hk, hq, hv⟩
  · refine lv_aload_n hx hb dX2_unlink_0 rfl (lv_at hl 0 rfl) ?_
    refine va_get (D := (dC, dI)) (ci := 2) (v := .ref c3) (C := RX2) (T := TX2) (N := 8) hx hb hts inX2_unlink_X2 hown hK hP 0 rfl rfl 2 (by decide) (hts (.fieldLink RX2 16 "QueueHallModel" "chain" "[I") (List.mem_of_getElem? (i := 1) (by decide +kernel))) (fun _ h9 => h9) rfl dX2_unlink_1 ?_
    refine lv_aload_n hx hb dX2_unlink_4 rfl (lv_at hl 0 rfl) ?_
    refine va_get (D := (dC, dI)) (ci := 2) (v := .int (nI nk)) (C := RX2) (T := TX2) (N := 8) hx hb hts inX2_unlink_X2 hown hK hP 0 rfl rfl 5 (by decide) (hts (.fieldLink RX2 32 "QueueHallModel" "chains" "I") (List.mem_of_getElem? (i := 2) (by decide +kernel))) (fun _ h9 => h9) rfl dX2_unlink_5 ?_
    refine lv_iload_n hx hb dX2_unlink_8 rfl (lv_at hl 1 rfl) ?_
    refine lv_iconst (v := 0) hx hb dX2_unlink_9 (by decide) ?_
    have hPc := hP.sub (ws' := [(c3, .inl (cA, 2000, .inl ek))]) [3] rfl
    have hKc := hK.sub (tys' := [(cA, .int)]) [0] rfl
    refine q_csiE (va_runS (As := [.ref c3, .int (nI nk), .int p0, .int 0]) (rest := []) ⟨hx, hb, hml, hown, hts⟩ (c_Mod_place l dC dI c3 nk cA ek gk p0 0 (by omega) ha3) (cwS 4 hts gX2_unlink_X2_place_v rfl rfl rfl (by decide +kernel) ⟨Nat.le_of_ble_eq_true rfl, Nat.le_of_ble_eq_true rfl⟩) ⟨q_blR, fun U hU hW => ⟨rfl, by rw [hU]; exact hPc, va_K.moved hW.alike hKc⟩⟩ rfl rfl hl.1 rfl (lv_room (Nat.le_of_ble_eq_true rfl)) dX2_unlink_10 ⟨Nat.le_of_ble_eq_true rfl, Nat.le_of_ble_eq_true rfl⟩) ?_
    refine q_top (y := -1) hq ?_
    refine lv_istore_n (lv' := [(2, .int (-1)), (0, .ref m0), (1, .int p0)]) hx hb dX2_unlink_13 rfl hl (by decide) rfl (fun ls hl => ?_)
    refine lv_iload_n hx hb dX2_unlink_14 rfl (lv_at hl 0 rfl) ?_
    refine lv_if_ge (tgt := 20) hx hb dX2_unlink_15 (by decide) (fun c_0 => absurd c_0 (show ¬ (0 : Int32) ≤ (-1 : Int32) from (by decide))) (fun c_1 => ?_)
    refine lv_iconst (v := 0) hx hb dX2_unlink_18 (by decide) ?_
    exact W.zret (v := 0) hx hb hr rfl (fun t ht hW => ⟨⟨0, ((gh, nh), (gr, nr), (gk, nk), fi, me), rfl, (by simp only [qUnlink, hq, if_pos (show (-1 : Int32) < 0 by decide)]), eh, er, ek, ha1, ha2, ha3, by rw [ht]; exact hP, va_K.moved hW.alike hK, hD⟩, hS.F ht⟩) hS.2.2 dX2_unlink_19
  · refine lv_aload_n hx hb dX2_unlink_0 rfl (lv_at hl 0 rfl) ?_
    refine va_get (D := (dC, dI)) (ci := 2) (v := .ref c3) (C := RX2) (T := TX2) (N := 8) hx hb hts inX2_unlink_X2 hown hK hP 0 rfl rfl 2 (by decide) (hts (.fieldLink RX2 16 "QueueHallModel" "chain" "[I") (List.mem_of_getElem? (i := 1) (by decide +kernel))) (fun _ h9 => h9) rfl dX2_unlink_1 ?_
    refine lv_aload_n hx hb dX2_unlink_4 rfl (lv_at hl 0 rfl) ?_
    refine va_get (D := (dC, dI)) (ci := 2) (v := .int (nI nk)) (C := RX2) (T := TX2) (N := 8) hx hb hts inX2_unlink_X2 hown hK hP 0 rfl rfl 5 (by decide) (hts (.fieldLink RX2 32 "QueueHallModel" "chains" "I") (List.mem_of_getElem? (i := 2) (by decide +kernel))) (fun _ h9 => h9) rfl dX2_unlink_5 ?_
    refine lv_iload_n hx hb dX2_unlink_8 rfl (lv_at hl 1 rfl) ?_
    refine lv_iconst (v := 0) hx hb dX2_unlink_9 (by decide) ?_
    have hPc := hP.sub (ws' := [(c3, .inl (cA, 2000, .inl ek))]) [3] rfl
    have hKc := hK.sub (tys' := [(cA, .int)]) [0] rfl
    refine q_csiE (va_runS (As := [.ref c3, .int (nI nk), .int p0, .int 0]) (rest := []) ⟨hx, hb, hml, hown, hts⟩ (c_Mod_place l dC dI c3 nk cA ek gk p0 0 (by omega) ha3) (cwS 4 hts gX2_unlink_X2_place_v rfl rfl rfl (by decide +kernel) ⟨Nat.le_of_ble_eq_true rfl, Nat.le_of_ble_eq_true rfl⟩) ⟨q_blR, fun U hU hW => ⟨rfl, by rw [hU]; exact hPc, va_K.moved hW.alike hKc⟩⟩ rfl rfl hl.1 rfl (lv_room (Nat.le_of_ble_eq_true rfl)) dX2_unlink_10 ⟨Nat.le_of_ble_eq_true rfl, Nat.le_of_ble_eq_true rfl⟩) ?_
    refine q_top (y := nI k) hq ?_
    refine lv_istore_n (lv' := [(2, .int (nI k)), (0, .ref m0), (1, .int p0)]) hx hb dX2_unlink_13 rfl hl (by decide) rfl (fun ls hl => ?_)
    refine lv_iload_n hx hb dX2_unlink_14 rfl (lv_at hl 0 rfl) ?_
    refine lv_if_ge (tgt := 20) hx hb dX2_unlink_15 (by decide) (fun c_2 => ?_) (fun c_0 => absurd (show (0 : Int32) ≤ (nI k) from (by simp (disch := omega) only [ti_lt, ti_le, ti_eq, ti_0, ti_1, ti_2, ti_m1, ti_100, ti_2000, nI_toInt] <;> omega)) c_0)
    have k_2 : k ≥ 0 := by
      simp (disch := omega) only [ti_lt, ti_le, ti_eq, ti_0, ti_1, ti_2, ti_m1, ti_100, ti_2000, nI_toInt] at c_2
      omega
    refine lv_aload_n hx hb dX2_unlink_20 rfl (lv_at hl 1 rfl) ?_
    refine va_get (D := (dC, dI)) (ci := 2) (v := .ref c3) (C := RX2) (T := TX2) (N := 8) hx hb hts inX2_unlink_X2 hown hK hP 0 rfl rfl 2 (by decide) (hts (.fieldLink RX2 16 "QueueHallModel" "chain" "[I") (List.mem_of_getElem? (i := 1) (by decide +kernel))) (fun _ h9 => h9) rfl dX2_unlink_21 ?_
    refine lv_aload_n hx hb dX2_unlink_24 rfl (lv_at hl 1 rfl) ?_
    refine va_get (D := (dC, dI)) (ci := 2) (v := .int (nI nk)) (C := RX2) (T := TX2) (N := 8) hx hb hts inX2_unlink_X2 hown hK hP 0 rfl rfl 5 (by decide) (hts (.fieldLink RX2 32 "QueueHallModel" "chains" "I") (List.mem_of_getElem? (i := 2) (by decide +kernel))) (fun _ h9 => h9) rfl dX2_unlink_25 ?_
    refine lv_iload_n hx hb dX2_unlink_28 rfl (lv_at hl 0 rfl) ?_
    have hPc := hP.sub (ws' := [(c3, .inl (cA, 2000, .inl ek))]) [3] rfl
    have hKc := hK.sub (tys' := [(cA, .int)]) [0] rfl
    have hDc := hD.sub (ws' := [(c3, .inl (cA, 2000, .inl ek))]) [3] (by decide) rfl
    have hFc := va_free (wc := [(c3, .inl (cA, 2000, .inl ek))]) hD hS hA [3] rfl
    refine va_callv (va_runS (As := [.ref c3, .int (nI nk), .int (nI k)]) (rest := []) ⟨hx, hb, hml, hown, hts⟩ (c_Mod_take l dC dI s.heap.size c3 nk k cA ek gk (by omega) (by omega) ha3) (cwS 3 hts gX2_unlink_X2_take_v rfl rfl rfl (by decide +kernel) ⟨Nat.le_of_ble_eq_true rfl, Nat.le_of_ble_eq_true rfl⟩) ⟨q_blW, fun U hU hW => ⟨rfl, by rw [hU], by rw [hU]; exact hPc, va_K.moved hW.alike hKc, hDc.weaken (fun _ _ _ _ => trivial)⟩⟩ rfl rfl hl.1 rfl (lv_room (Nat.le_of_ble_eq_true rfl)) dX2_unlink_29 ⟨Nat.le_of_ble_eq_true rfl, Nat.le_of_ble_eq_true rfl⟩) hS (fun q _ h => hFc q h) hFc (fun u_3 t_3 H1 locs ht hvm hw hB hz1 hk1 hS => ?_)
    subst hw
    obtain ⟨f_3, hg_3, hP1, hK1, hD1⟩ := hB
    rw [ht] at hP1
    obtain ⟨hP, hD⟩ := q_join (wr := [(m0, .inr (2, [.ref c1, .ref c2, .ref c3, .int (nI nh), .int (nI nr), .int (nI nk), .int fi, .int me])), (c1, .inl (cA, 2000, .inl eh)), (c2, .inl (cA, 2000, .inl er))]) (w1 := [(c3, .inl (cA, 2000, .inl f_3))]) (wz := [(m0, .inr (2, [.ref c1, .ref c2, .ref c3, .int (nI nh), .int (nI nr), .int (nI nk), .int fi, .int me])), (c1, .inl (cA, 2000, .inl eh)), (c2, .inl (cA, 2000, .inl er)), (c3, .inl (cA, 2000, .inl f_3))]) hP hD [3] [0, 1, 2] [0, 1, 2, 3] rfl rfl (by decide) (by decide) hk1 hFc hP1 hD1 rfl rfl (by decide)
    generalize H1 = H at hP hS ⊢
    refine lv_aload_n hx hb dX2_unlink_32 rfl (lv_at hl 1 rfl) ?_
    refine lv_dup hx hb dX2_unlink_33 rfl ?_
    refine va_get (D := (dC, dI)) (ci := 2) (v := .int (nI nk)) (C := RX2) (T := TX2) (N := 8) hx hb hts inX2_unlink_X2 hown hK hP 0 rfl rfl 5 (by decide) (hts (.fieldLink RX2 32 "QueueHallModel" "chains" "I") (List.mem_of_getElem? (i := 2) (by decide +kernel))) (fun _ h9 => h9) rfl dX2_unlink_34 ?_
    refine lv_iconst (v := 1) hx hb dX2_unlink_37 (by decide) ?_
    refine lv_isub hx hb dX2_unlink_38 ?_
    refine q_top (y := nI (nk - 1)) (q_m1 (by omega)) ?_
    refine va_put (D := (dC, dI)) (ci := 2) (v := .int (nI (nk - 1))) (ty := .int) (C := RX2) (T := TX2) (N := 8) hx hb hts inX2_unlink_X2 tyX2 tyX2_ok nmX2 hown hK hP hD hS 0 rfl rfl 5 (by decide) (hts (.fieldLink RX2 32 "QueueHallModel" "chains" "I") (List.mem_of_getElem? (i := 2) (by decide +kernel))) (fun _ h9 => h9) rfl (by decide +kernel) rfl rfl (Nat.le_of_ble_eq_true rfl) dX2_unlink_39 (fun H locs hP hD hS => ?_)
    have hP : va_P (dC, dI) vwCl [(m0, .inr (2, [.ref c1, .ref c2, .ref c3, .int (nI nh), .int (nI nr), .int (nI (nk - 1)), .int fi, .int me])), (c1, .inl (cA, 2000, .inl eh)), (c2, .inl (cA, 2000, .inl er)), (c3, .inl (cA, 2000, .inl f_3))] H := hP
    have hD : va_D A [(m0, .inr (2, [.ref c1, .ref c2, .ref c3, .int (nI nh), .int (nI nr), .int (nI (nk - 1)), .int fi, .int me])), (c1, .inl (cA, 2000, .inl eh)), (c2, .inl (cA, 2000, .inl er)), (c3, .inl (cA, 2000, .inl f_3))] := hD
    refine lv_aload_n hx hb dX2_unlink_42 rfl (lv_at hl 1 rfl) ?_
    have hPc := hP.sub (ws' := [(m0, .inr (2, [.ref c1, .ref c2, .ref c3, .int (nI nh), .int (nI nr), .int (nI (nk - 1)), .int fi, .int me]))]) [0] rfl
    have hKc := hK.sub (tys' := []) [] rfl
    have hDc := hD.sub (ws' := [(m0, .inr (2, [.ref c1, .ref c2, .ref c3, .int (nI nh), .int (nI nr), .int (nI (nk - 1)), .int fi, .int me]))]) [0] (by decide) rfl
    have hFc := va_free (wc := [(m0, .inr (2, [.ref c1, .ref c2, .ref c3, .int (nI nh), .int (nI nr), .int (nI (nk - 1)), .int fi, .int me]))]) hD hS hA [0] rfl
    refine va_callv (va_runV (As := []) (rest := []) ⟨hx, hb, hml, hown, hts⟩ (c_Mod_lift l dC dI H.size m0 c1 c2 c3 nh nr (nk - 1) fi me) (cwV 0 hts gX2_unlink_X2_lift_v rfl rfl rfl (by decide +kernel) ⟨Nat.le_of_ble_eq_true rfl, Nat.le_of_ble_eq_true rfl⟩) ⟨q_blW, va_recv hKc hPc (ci := 2) (q0 := 0) rfl rfl, fun U hU hW => ⟨rfl, by rw [hU], by rw [hU]; exact hPc, va_K.moved hW.alike hKc, hDc.weaken (fun _ _ _ _ => trivial)⟩⟩ rfl rfl hl.1 rfl (lv_room (Nat.le_of_ble_eq_true rfl)) dX2_unlink_43 ⟨Nat.le_of_ble_eq_true rfl, Nat.le_of_ble_eq_true rfl⟩) hS (fun q _ h => hFc q h) hFc (fun u_4 t_4 H1 locs ht hvm hw hB hz1 hk1 hS => ?_)
    subst hw
    obtain ⟨hP1, hK1, hD1⟩ := hB
    rw [ht] at hP1
    obtain ⟨hP, hD⟩ := q_join (wr := [(c1, .inl (cA, 2000, .inl eh)), (c2, .inl (cA, 2000, .inl er)), (c3, .inl (cA, 2000, .inl f_3))]) (w1 := [(m0, .inr (2, [.ref c1, .ref c2, .ref c3, .int (nI nh), .int (nI nr), .int (nI (nk - 1)), .int (-1), .int (-1)]))]) (wz := [(m0, .inr (2, [.ref c1, .ref c2, .ref c3, .int (nI nh), .int (nI nr), .int (nI (nk - 1)), .int (-1), .int (-1)])), (c1, .inl (cA, 2000, .inl eh)), (c2, .inl (cA, 2000, .inl er)), (c3, .inl (cA, 2000, .inl f_3))]) hP hD [0] [1, 2, 3] [3, 0, 1, 2] rfl rfl (by decide) (by decide) hk1 hFc hP1 hD1 rfl rfl (by decide)
    generalize H1 = H at hP hS ⊢
    refine lv_iconst (v := 1) hx hb dX2_unlink_46 (by decide) ?_
    exact W.zret (v := 1) hx hb hr rfl (fun t ht hW => ⟨⟨1, ((gh, nh), (gr, nr), (qDel gk k, nk - 1), -1, -1), rfl, (by simp only [qUnlink, hq, if_neg (nI_pos (show k < 2 ^ 31 by omega)), nI_clamp (show k < 2 ^ 31 by omega)]), eh, er, f_3, ha1, ha2, hg_3, by rw [ht]; exact hP, va_K.moved hW.alike hK, hD⟩, hS.F ht⟩) hS.2.2 dX2_unlink_47
end
