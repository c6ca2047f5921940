/-! More of the pure picture: sorted rows, the reference's loops, what every call keeps. -/
theorem qCb_s {g : Nat → Int32} {v : Int32} : ∀ (n : Nat), qSorted g n → (∀ j, j < qCb g v n → g j < v) ∧ (∀ j, qCb g v n ≤ j → j < n → v ≤ g j)
  | 0, _ => ⟨fun j h => absurd h (Nat.not_lt_zero j), fun j _ h => absurd h (Nat.not_lt_zero j)⟩
  | n + 1, hs => by
    obtain ⟨i1, i2⟩ := qCb_s (g := g) (v := v) n (fun i j a b => hs i j a (by omega))
    have hle := qCb_le (g := g) (v := v) n
    by_cases h : g n < v
    · have e : qCb g v n = n := by
        rcases Nat.lt_or_ge (qCb g v n) n with q | q
        · have a := i2 _ (Nat.le_refl _) q
          have b := hs (qCb g v n) n (by omega) (by omega)
          rw [ti_le] at a b
          rw [ti_lt] at h
          omega
        · omega
      have e2 : qCb g v (n + 1) = n + 1 := by simp only [qCb, if_pos h, e]
      rw [e2]
      refine ⟨fun j hj => ?_, fun j a b => by omega⟩
      by_cases q : j = n
      · rw [q]
        exact h
      · exact i1 j (by omega)
    · have e2 : qCb g v (n + 1) = qCb g v n := by simp only [qCb, if_neg h]
      rw [e2]
      refine ⟨i1, fun j a b => ?_⟩
      by_cases q : j = n
      · rw [q]
        rw [ti_lt] at h
        rw [ti_le]
        omega
      · exact i2 j a (by omega)
/-- wherever among its equals a number enters, the row is the same -/
theorem qEnt {g : Nat → Int32} {v : Int32} {n k : Nat} (hs : qSorted g n) (hk : k ≤ n) (h1 : ∀ j, j < k → g j ≤ v) (h2 : k < n → v < g k) : qAg (n + 1) (qIns g k v) (qIns g (qCb g v n) v) := by
  obtain ⟨i1, i2⟩ := qCb_s (v := v) n hs
  have hle := qCb_le (g := g) (v := v) n
  generalize qCb g v n = p at i1 i2 hle
  have hpk : p ≤ k := by
    rcases Nat.lt_or_ge k p with q | q
    · have a := i1 k q
      have b := h2 (by omega)
      rw [ti_lt] at a b
      omega
    · exact q
  have hv : ∀ j, p ≤ j → j < k → g j = v := fun j a b => by
    have c1 := h1 j b
    have c2 := i2 j a (by omega)
    rw [ti_le] at c1 c2
    rw [ti_eq]
    omega
  intro j hj
  simp only [qIns]
  by_cases a1 : j < p
  · rw [if_pos (show j < k by omega), if_pos a1]
  · rw [if_neg a1]
    by_cases a2 : j = p
    · rw [if_pos a2]
      by_cases a3 : j < k
      · rw [if_pos a3]
        exact hv j (by omega) a3
      · rw [if_neg a3, if_pos (show j = k by omega)]
    · rw [if_neg a2]
      by_cases a3 : j < k
      · rw [if_pos a3, hv j (by omega) a3, hv (j - 1) (by omega) (by omega)]
      · rw [if_neg a3]
        by_cases a4 : j = k
        · rw [if_pos a4, hv (j - 1) (by omega) (by omega)]
        · rw [if_neg a4]
theorem qSorted_ins {g : Nat → Int32} {v : Int32} {n : Nat} (hs : qSorted g n) : qSorted (qIns g (qCb g v n) v) (n + 1) := by
  obtain ⟨i1, i2⟩ := qCb_s (v := v) n hs
  have hle := qCb_le (g := g) (v := v) n
  generalize qCb g v n = p at i1 i2 hle
  intro i j hij hj
  simp only [qIns]
  have rf : ∀ x : Int32, x ≤ x := fun x => by rw [ti_le]; omega
  have lt_le : ∀ x y : Int32, x < y → x ≤ y := fun x y h => by
    rw [ti_lt] at h
    rw [ti_le]
    omega
  by_cases a1 : j < p
  · rw [if_pos (show i < p by omega), if_pos a1]
    exact hs i j hij (by omega)
  · rw [if_neg a1]
    by_cases a2 : j = p
    · rw [if_pos a2]
      by_cases a3 : i < p
      · rw [if_pos a3]
        exact lt_le _ _ (i1 i a3)
      · rw [if_neg a3, if_pos (show i = p by omega)]
        exact rf v
    · rw [if_neg a2]
      by_cases a3 : i < p
      · rw [if_pos a3]
        exact hs i (j - 1) (by omega) (by omega)
      · rw [if_neg a3]
        by_cases a4 : i = p
        · rw [if_pos a4]
          exact i2 (j - 1) (by omega) (by omega)
        · rw [if_neg a4]
          exact hs (i - 1) (j - 1) (by omega) (by omega)
theorem qSorted_del {g : Nat → Int32} {n p : Nat} (hs : qSorted g n) : qSorted (qDel g p) (n - 1) := by
  intro i j hij hj
  simp only [qDel]
  by_cases a : j < p
  · rw [if_pos (show i < p by omega), if_pos a]
    exact hs i j hij (by omega)
  · rw [if_neg a]
    by_cases b : i < p
    · rw [if_pos b]
      exact hs i (j + 1) (by omega) (by omega)
    · rw [if_neg b]
      exact hs (i + 1) (j + 1) (by omega) (by omega)
theorem qSorted_0 {g : Nat → Int32} : qSorted g 0 := fun _ _ _ h => absurd h (Nat.not_lt_zero _)
/-! The loops that write. -/
def qMp (a f : Nat → Int32) (k n : Nat) : Prop := (∀ j, j < k → a j = f j) ∧ ∀ j, k < j → j ≤ n → a j = f (j - 1)
theorem qMp_0 {f : Nat → Int32} {n : Nat} : qMp f f n n := ⟨fun _ _ => rfl, fun j a b => absurd a (by omega)⟩
theorem qMp_s {a f : Nat → Int32} {k n : Nat} (h : qMp a f k n) (hk : 0 < k) (hn : k ≤ n) : qMp (upd a k (a (k - 1))) f (k - 1) n := by
  refine ⟨fun j hj => ?_, fun j h1 h2 => ?_⟩
  · simp only [upd]
    rw [if_neg (by omega)]
    exact h.1 j (by omega)
  · simp only [upd]
    by_cases q : j = k
    · rw [if_pos q, q]
      exact h.1 _ (by omega)
    · rw [if_neg q]
      exact h.2 j (by omega) h2
theorem qMp_e {a f g : Nat → Int32} {p n : Nat} {v : Int32} (h : qMp a f p n) (hp : p ≤ n) (hg : qAg n f g) : qAg (n + 1) (upd a p v) (qIns g p v) := by
  intro j hj
  simp only [upd, qIns]
  by_cases q : j = p
  · rw [if_pos q, if_neg (by omega), if_pos q]
  · rw [if_neg q]
    by_cases q2 : j < p
    · rw [if_pos q2, h.1 j q2]
      exact hg j (by omega)
    · rw [if_neg q2, if_neg q, h.2 j (by omega) (by omega)]
      exact hg _ (by omega)
def qMt (a f : Nat → Int32) (p k n : Nat) : Prop := (∀ j, j < k → a j = qDel f p j) ∧ ∀ j, k ≤ j → j < n → a j = f j
theorem qMt_0 {f : Nat → Int32} {p n : Nat} : qMt f f p p n := ⟨fun j hj => by simp only [qDel, if_pos hj], fun _ _ _ => rfl⟩
theorem qMt_s {a f : Nat → Int32} {p k n : Nat} (h : qMt a f p k n) (hp : p ≤ k) (hk : k + 1 < n) : qMt (upd a k (a (k + 1))) f p (k + 1) n := by
  refine ⟨fun j hj => ?_, fun j h1 h2 => ?_⟩
  · simp only [upd]
    by_cases q : j = k
    · rw [if_pos q, h.2 (k + 1) (by omega) hk, q]
      simp only [qDel]
      rw [if_neg (by omega)]
    · rw [if_neg q]
      exact h.1 j (by omega)
  · simp only [upd]
    rw [if_neg (by omega)]
    exact h.2 j (by omega) h2
theorem qDel_ag {f g : Nat → Int32} {n p : Nat} (h : qAg n f g) : qAg (n - 1) (qDel f p) (qDel g p) := by
  intro j hj
  simp only [qDel]
  by_cases q : j < p
  · rw [if_pos q, if_pos q]
    exact h j (by omega)
  · rw [if_neg q, if_neg q]
    exact h _ (by omega)
theorem qMt_e {a f g : Nat → Int32} {p k n : Nat} (h : qMt a f p k n) (hk : n ≤ k + 1) (hg : qAg n f g) : qAg (n - 1) a (qDel g p) := by
  intro j hj
  rw [h.1 j (by omega)]
  exact qDel_ag hg j hj
def qSv (a g : Nat → Int32) (st re : Int32) (i n : Nat) : Prop := (∀ j, j < qSc g st re i → a j = qSf g st re i j) ∧ ∀ j, i ≤ j → j < n → a j = g j
theorem qSv_0 {f g : Nat → Int32} {st re : Int32} {n : Nat} (h : qAg n f g) : qSv f g st re 0 n := ⟨fun j hj => absurd hj (Nat.not_lt_zero j), fun j _ hj => h j hj⟩
theorem qSv_y {a g : Nat → Int32} {st re : Int32} {i n : Nat} (h : qSv a g st re i n) (hi : i < n) (hk : ¬ qFm (a i) st = re) : qSv (upd a (qSc g st re i) (a i)) g st re (i + 1) n ∧ qSc g st re (i + 1) = qSc g st re i + 1 := by
  have e := h.2 i (Nat.le_refl i) hi
  rw [e] at hk
  have hle := qSc_le (g := g) (st := st) (re := re) i
  have e1 : qSc g st re (i + 1) = qSc g st re i + 1 := by simp only [qSc, if_neg hk]
  have e2 : qSf g st re (i + 1) = upd (qSf g st re i) (qSc g st re i) (g i) := by simp only [qSf, if_neg hk]
  refine ⟨⟨fun j hj => ?_, fun j h1 h2 => ?_⟩, e1⟩
  · rw [e2, e]
    rw [e1] at hj
    simp only [upd]
    by_cases q : j = qSc g st re i
    · rw [if_pos q, if_pos q]
    · rw [if_neg q, if_neg q]
      exact h.1 j (by omega)
  · simp only [upd]
    rw [if_neg (by omega)]
    exact h.2 j (by omega) h2
theorem qSv_n {a g : Nat → Int32} {st re : Int32} {i n : Nat} (h : qSv a g st re i n) (hi : i < n) (hk : qFm (a i) st = re) : qSv a g st re (i + 1) n ∧ qSc g st re (i + 1) = qSc g st re i := by
  have e := h.2 i (Nat.le_refl i) hi
  rw [e] at hk
  have e1 : qSc g st re (i + 1) = qSc g st re i := by simp only [qSc, if_pos hk]
  have e2 : qSf g st re (i + 1) = qSf g st re i := by simp only [qSf, if_pos hk]
  refine ⟨⟨fun j hj => ?_, fun j h1 h2 => h.2 j (by omega) h2⟩, e1⟩
  rw [e2]
  rw [e1] at hj
  exact h.1 j hj
theorem qRot_0 {f g : Nat → Int32} {n : Nat} (h : qAg n f g) : qAg n f (qRot g n 0) := by
  intro j hj
  simp only [qRot, Nat.add_zero, Nat.mod_eq_of_lt hj]
  exact h j hj
theorem qRot_s {a b g : Nat → Int32} {n i : Nat} (h : qAg n a (qRot g n i)) (hb : qAg (n - 1) b (qDel a 0)) (hn : 0 < n) : qAg n (upd b (n - 1) (a 0)) (qRot g n (i + 1)) := by
  intro j hj
  simp only [upd, qRot]
  by_cases q : j = n - 1
  · rw [if_pos q, h 0 hn, q]
    simp only [qRot]
    rw [show n - 1 + (i + 1) = i + n by omega, Nat.add_mod_right, Nat.zero_add]
  · rw [if_neg q, hb j (by omega)]
    simp only [qDel]
    rw [if_neg (Nat.not_lt_zero j), h (j + 1) (by omega)]
    simp only [qRot]
    rw [show j + 1 + i = j + (i + 1) by omega]
theorem qRot_n0 {f g : Nat → Int32} {k : Nat} : qAg 0 f (qRot g 0 k) := qAg_0
theorem qEm_0 {f g o : Nat → Int32} {n : Nat} (h : qAg n f g) : qAg (n + 0) f (qCat g n o 0) := by
  intro j hj
  simp only [qCat]
  rw [if_pos (show j < n by omega)]
  exact h j (by omega)
theorem qEm_s {a g o o' : Nat → Int32} {n k m : Nat} (h : qAg (n + k) a (qCat g n o k)) (ho : qAg m o' o) (hk : k < m) : qAg (n + (k + 1)) (upd a (n + k) (o' k)) (qCat g n o (k + 1)) := by
  intro j hj
  simp only [upd]
  by_cases q : j = n + k
  · rw [if_pos q, q]
    simp only [qCat]
    rw [if_neg (by omega), if_pos (by omega), show n + k - n = k by omega]
    exact ho k hk
  · rw [if_neg q, h j (by omega)]
    simp only [qCat]
    by_cases q2 : j < n
    · rw [if_pos q2, if_pos q2]
    · rw [if_neg q2, if_neg q2, if_pos (by omega), if_pos (by omega)]
def qHd (a g : Nat → Int32) (c n m : Nat) : Prop := (∀ j, j < c → a j = g j) ∧ ∀ j, c ≤ j → j < n → a (j + m) = g j
theorem qHd_0 {f g : Nat → Int32} {n m : Nat} (h : qAg n f g) : qHd f g n n m := ⟨h, fun j a b => absurd a (by omega)⟩
theorem qHd_s {a g : Nat → Int32} {d n m : Nat} (h : qHd a g (d + 1) n m) : qHd (upd a (d + m) (a d)) g d n m := by
  refine ⟨fun j hj => ?_, fun j h1 h2 => ?_⟩
  · simp only [upd]
    rw [if_neg (by omega)]
    exact h.1 j (by omega)
  · simp only [upd]
    by_cases q : j = d
    · rw [if_pos (by omega), q]
      exact h.1 d (by omega)
    · rw [if_neg (by omega)]
      exact h.2 j (by omega) h2
def qHc (a g o : Nat → Int32) (k n m : Nat) : Prop := (∀ j, j < k → a j = o j) ∧ ∀ j, j < n → a (j + m) = g j
theorem qHc_0 {a g o : Nat → Int32} {n m : Nat} (h : qHd a g 0 n m) : qHc a g o 0 n m := ⟨fun j a => absurd a (Nat.not_lt_zero j), fun j hj => h.2 j (Nat.zero_le j) hj⟩
theorem qHc_s {a g o o' : Nat → Int32} {k n m : Nat} (h : qHc a g o k n m) (ho : qAg m o' o) (hk : k < m) : qHc (upd a k (o' k)) g o (k + 1) n m := by
  refine ⟨fun j hj => ?_, fun j h2 => ?_⟩
  · simp only [upd]
    by_cases q : j = k
    · rw [if_pos q, q]
      exact ho k hk
    · rw [if_neg q]
      exact h.1 j (by omega)
  · simp only [upd]
    rw [if_neg (by omega)]
    exact h.2 j h2
theorem qHc_e {a g o : Nat → Int32} {n m : Nat} (h : qHc a g o m n m) : qAg (n + m) a (qCat g 0 o m) := by
  intro j hj
  simp only [qCat]
  rw [if_neg (Nat.not_lt_zero j)]
  by_cases q : j < 0 + m
  · rw [if_pos q]
    exact h.1 j (by omega)
  · rw [if_neg q]
    have h2 := h.2 (j - m) (by omega)
    rw [show j - m + m = j by omega] at h2
    exact h2
theorem qHp_m1 {n : Nat} : qHp (-1) n = 0 := by simp only [qHp, if_pos (show (-1 : Int32) < 0 by decide)]
theorem q_0m1 : nI 0 - 1 = -1 := by decide
/-! What every call keeps. -/
theorem qFok_none {nk : Nat} : qFok (-1) (-1) nk := Or.inl ⟨rfl, rfl⟩
theorem qFok_c {fi me : Int32} {nk : Nat} (h : qFok fi me nk) : (fi = -1 ∧ me = -1) ∨ (∃ a, a ≤ nk ∧ fi = nI a ∧ me = -1) ∨ ∃ a b, a ≤ nk ∧ b < nk ∧ fi = nI a ∧ me = nI b := by
  rcases h with h | ⟨a, h1, h2, h3 | ⟨b, h3, h4⟩⟩
  · exact Or.inl h
  · exact Or.inr (Or.inl ⟨a, h1, h2, h3⟩)
  · exact Or.inr (Or.inr ⟨a, b, h1, h3, h2, h4⟩)
theorem qFok_in {nk a : Nat} (h : a ≤ nk) : qFok (nI a) (-1) nk := Or.inr ⟨a, h, rfl, Or.inl rfl⟩
theorem qFok_met {nk a b : Nat} (h : a ≤ nk) (hb : b < nk) : qFok (nI a) (nI b) nk := Or.inr ⟨a, h, rfl, Or.inr ⟨b, hb, rfl⟩⟩
theorem q_dec (x : Int32) : x + Int32.ofInt (-1) = x - 1 := by
  rw [Int32.sub_eq_add_neg]
  rfl
theorem qTurn_i {g : Nat → Int32} {n k : Nat} (hk : k ≤ 100) : qTurn g n (nI k) = (nI n, (qRot g n k, n)) := by
  have h1 : ¬ nI k < 0 := nI_pos (by omega)
  have h2 : ¬ (100 : Int32) < nI k := by
    rw [ti_lt, ti_100, nI_toInt (by omega)]
    omega
  simp only [qTurn, if_neg h1, if_neg h2, nI_clamp (show k < 2 ^ 31 by omega)]
theorem q_turn (p : Int32) : p < 0 ∨ (¬ p < 0 ∧ 100 < p) ∨ ∃ k, k ≤ 100 ∧ p = nI k := by
  by_cases h1 : p < 0
  · exact Or.inl h1
  · by_cases h2 : 100 < p
    · exact Or.inr (Or.inl ⟨h1, h2⟩)
    · obtain ⟨j, hj, rfl⟩ := nI_of h1
      rw [ti_lt, ti_100, nI_toInt hj] at h2
      exact Or.inr (Or.inr ⟨j, by omega, rfl⟩)
theorem q_hp00 {n : Nat} (h : n = 0) : qHp (nI 0) n = 0 := by
  subst h
  decide
theorem qHp_e {n : Nat} (h : n < 2 ^ 31) : qHp (nI n) n = 0 := by
  have h1 : ¬ nI n < 0 := nI_pos h
  have h2 : nI n ≤ nI n := nI_le (Nat.le_refl n) h
  simp only [qHp, if_neg h1, if_pos h2]
theorem q_w (x : Int32) : x = 0 ∨ x = 1 ∨ x = 2 ∨ (¬ x = 0 ∧ ¬ x = 1 ∧ ¬ x = 2) := by
  by_cases h0 : x = 0
  · exact Or.inl h0
  · by_cases h1 : x = 1
    · exact Or.inr (Or.inl h1)
    · by_cases h2 : x = 2
      · exact Or.inr (Or.inr (Or.inl h2))
      · exact Or.inr (Or.inr (Or.inr ⟨h0, h1, h2⟩))
theorem q_wo {x : Int32} (h0 : ¬ x = 0) (h1 : ¬ x = 1) (h2 : ¬ x = 2) : x.toInt < 0 ∨ 2 < x.toInt := by
  rw [ti_eq, ti_0] at h0
  rw [ti_eq, ti_1] at h1
  rw [ti_eq, ti_2] at h2
  omega
def qRow (a1 a2 a3 : Nat) (w : Int32) : Option Nat := if w = 0 then some a1 else if w = 1 then some a2 else if w = 2 then some a3 else none
theorem qRow_0 {a1 a2 a3 : Nat} : qRow a1 a2 a3 0 = some a1 := by simp only [qRow, if_pos True.intro]
theorem qRow_1 {a1 a2 a3 : Nat} : qRow a1 a2 a3 1 = some a2 := by simp only [qRow, if_neg (show ¬ (1 : Int32) = 0 by decide), if_pos True.intro]
theorem qRow_2 {a1 a2 a3 : Nat} : qRow a1 a2 a3 2 = some a3 := by simp only [qRow, if_neg (show ¬ (2 : Int32) = 0 by decide), if_neg (show ¬ (2 : Int32) = 1 by decide), if_pos True.intro]
theorem qRow_n {a1 a2 a3 : Nat} {w : Int32} (h0 : ¬ w = 0) (h1 : ¬ w = 1) (h2 : ¬ w = 2) : qRow a1 a2 a3 w = none := by simp only [qRow, if_neg h0, if_neg h1, if_neg h2]
theorem qHasR_n {g : Nat → Int32} {n : Nat} {v : Int32} (h : qPl g v 0 n = -1) : qHasR g n v = 0 := by simp only [qHasR, h, if_pos (show (-1 : Int32) < 0 by decide)]
theorem qHasR_y {g : Nat → Int32} {n : Nat} {v : Int32} (h : ¬ qPl g v 0 n = -1) (hn : n < 2 ^ 31) : qHasR g n v = 1 := by
  rcases qPl_r (g := g) (v := v) (z := 0) n with q | ⟨k, hk, q, -⟩
  · exact absurd q h
  · simp only [qHasR, q, if_neg (nI_pos (show k < 2 ^ 31 by omega))]
theorem q_pass {fi me : Int32} {nk : Nat} (h : qFok fi me nk) (z : Int32) : fi = -1 ∨ (z = 0 ∧ fi = nI nk) ∨ (z = 0 ∧ ∃ a, a < nk ∧ fi = nI a) ∨ (¬ z = 0 ∧ fi = nI 0) ∨ (¬ z = 0 ∧ ∃ a, a < nk ∧ fi = nI (a + 1)) := by
  rcases h with ⟨h, -⟩ | ⟨a, h1, h2, -⟩
  · exact Or.inl h
  · by_cases hz : z = 0
    · rcases Nat.lt_or_ge a nk with q | q
      · exact Or.inr (Or.inr (Or.inl ⟨hz, a, q, h2⟩))
      · exact Or.inr (Or.inl ⟨hz, by rw [h2, show a = nk by omega]⟩)
    · rcases Nat.eq_zero_or_pos a with q | q
      · exact Or.inr (Or.inr (Or.inr (Or.inl ⟨hz, by rw [h2, q]⟩)))
      · exact Or.inr (Or.inr (Or.inr (Or.inr ⟨hz, a - 1, by omega, by rw [h2, show a - 1 + 1 = a by omega]⟩)))
theorem qFok_m {fi me : Int32} {nk : Nat} (h : qFok fi me nk) : me = -1 ∨ ∃ b, b < nk ∧ me = nI b := by
  rcases h with ⟨-, h⟩ | ⟨a, -, -, h⟩
  · exact Or.inl h
  · exact h
theorem q_met {fi me : Int32} {nk : Nat} (h : qFok fi me nk) (hfi : ¬ fi < 0) : (∃ a, a ≤ nk ∧ fi = nI a ∧ me = -1) ∨ ∃ a b, a ≤ nk ∧ b < nk ∧ fi = nI a ∧ me = nI b := by
  rcases qFok_c h with ⟨h1, -⟩ | h1 | h1
  · rw [h1] at hfi
    exact absurd (by decide) hfi
  · exact Or.inl h1
  · exact Or.inr h1
theorem qFok_a {fi me : Int32} {nk : Nat} (h : qFok fi me nk) (hfi : ¬ fi < 0) : ∃ a, a ≤ nk ∧ fi = nI a := by
  rcases h with ⟨h1, -⟩ | ⟨a, h1, h2, -⟩
  · rw [h1] at hfi
    exact absurd (by decide) hfi
  · exact ⟨a, h1, h2⟩
theorem qFok_n {fi me : Int32} {nk : Nat} (h : qFok fi me nk) (hfi : fi < 0) (hb : nk < 2 ^ 31) : fi = -1 := by
  rcases h with ⟨h1, -⟩ | ⟨a, h1, h2, -⟩
  · exact h1
  · rw [h2] at hfi
    exact absurd hfi (nI_pos (by omega))
theorem qFok_nn {fi : Int32} (hfi : ¬ fi < 0) : ¬ fi = -1 := by
  intro q
  rw [q] at hfi
  exact hfi (by decide)
theorem q_tw (fi w : Int32) : fi < 0 ∨ (¬ fi < 0 ∧ w = 0) ∨ (¬ fi < 0 ∧ w = 1) ∨ (¬ fi < 0 ∧ w = 2) ∨ (¬ fi < 0 ∧ ¬ w = 0 ∧ ¬ w = 1 ∧ ¬ w = 2) := by
  by_cases h : fi < 0
  · exact Or.inl h
  · rcases q_w w with h0 | h0 | h0 | ⟨h0, h1, h2⟩
    · exact Or.inr (Or.inl ⟨h, h0⟩)
    · exact Or.inr (Or.inr (Or.inl ⟨h, h0⟩))
    · exact Or.inr (Or.inr (Or.inr (Or.inl ⟨h, h0⟩)))
    · exact Or.inr (Or.inr (Or.inr (Or.inr ⟨h, h0, h1, h2⟩)))
def qMany (nh nr nk : Nat) (w : Int32) : Int32 := if w = 0 then nI nh else if w = 1 then nI nr else if w = 2 then nI nk else -1
theorem qMany_0 {nh nr nk : Nat} : qMany nh nr nk 0 = nI nh := by simp only [qMany, if_pos True.intro]
theorem qMany_1 {nh nr nk : Nat} : qMany nh nr nk 1 = nI nr := by simp only [qMany, if_neg (show ¬ (1 : Int32) = 0 by decide), if_pos True.intro]
theorem qMany_2 {nh nr nk : Nat} : qMany nh nr nk 2 = nI nk := by simp only [qMany, if_neg (show ¬ (2 : Int32) = 0 by decide), if_neg (show ¬ (2 : Int32) = 1 by decide), if_pos True.intro]
theorem qMany_n {nh nr nk : Nat} {w : Int32} (h0 : ¬ w = 0) (h1 : ¬ w = 1) (h2 : ¬ w = 2) : qMany nh nr nk w = -1 := by simp only [qMany, if_neg h0, if_neg h1, if_neg h2]
theorem q_tm {fi me : Int32} {nk : Nat} (h : qFok fi me nk) (w : Int32) : fi = -1 ∨ (∃ a, a ≤ nk ∧ fi = nI a ∧ me = -1 ∧ w = 0) ∨ (∃ a b, a ≤ nk ∧ b < nk ∧ fi = nI a ∧ me = nI b ∧ w = 0) ∨ (∃ a, a ≤ nk ∧ fi = nI a ∧ me = -1 ∧ w = 1) ∨ (∃ a b, a ≤ nk ∧ b < nk ∧ fi = nI a ∧ me = nI b ∧ w = 1) ∨ (∃ a, a ≤ nk ∧ fi = nI a ∧ w = 2) ∨ ∃ a, a ≤ nk ∧ fi = nI a ∧ ¬ w = 0 ∧ ¬ w = 1 ∧ ¬ w = 2 := by
  rcases qFok_c h with ⟨h1, -⟩ | ⟨a, h1, h2, h3⟩ | ⟨a, b, h1, h4, h2, h3⟩
  · exact Or.inl h1
  · rcases q_w w with q | q | q | ⟨q0, q1, q2⟩
    · exact Or.inr (Or.inl ⟨a, h1, h2, h3, q⟩)
    · exact Or.inr (Or.inr (Or.inr (Or.inl ⟨a, h1, h2, h3, q⟩)))
    · exact Or.inr (Or.inr (Or.inr (Or.inr (Or.inr (Or.inl ⟨a, h1, h2, q⟩)))))
    · exact Or.inr (Or.inr (Or.inr (Or.inr (Or.inr (Or.inr ⟨a, h1, h2, q0, q1, q2⟩)))))
  · rcases q_w w with q | q | q | ⟨q0, q1, q2⟩
    · exact Or.inr (Or.inr (Or.inl ⟨a, b, h1, h4, h2, h3, q⟩))
    · exact Or.inr (Or.inr (Or.inr (Or.inr (Or.inl ⟨a, b, h1, h4, h2, h3, q⟩))))
    · exact Or.inr (Or.inr (Or.inr (Or.inr (Or.inr (Or.inl ⟨a, h1, h2, q⟩)))))
    · exact Or.inr (Or.inr (Or.inr (Or.inr (Or.inr (Or.inr ⟨a, h1, h2, q0, q1, q2⟩)))))

