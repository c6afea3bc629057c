/-! ===== more words for what methods answer ===== -/
/-- the number of what may be nothing -/
def eN : Option Nat → Int32
  | none => -1
  | some j => nI j
theorem eN_none {o : Option Nat} (h : ∀ j, o = some j → j < 2 ^ 31) : eN o = -1 ↔ o = none := by
  cases o with
  | none => simp [eN]
  | some j =>
    have hj := h j rfl
    simp only [eN, reduceCtorEq, iff_false]
    intro z
    have h1 : (nI j).toInt = (-1 : Int32).toInt := by rw [z]
    rw [nI_toInt hj] at h1
    have h2 : (-1 : Int32).toInt = -1 := by decide
    omega
def allB (p : Nat → Bool) : Nat → Bool
  | 0 => true
  | k + 1 => allB p k && p k
theorem allB_t {p : Nat → Bool} : ∀ {k : Nat}, allB p k = true ↔ ∀ i, i < k → p i = true
  | 0 => by simp [allB]
  | k + 1 => by
    rw [allB, Bool.and_eq_true, allB_t]
    constructor
    · rintro ⟨h1, h2⟩ i hi
      by_cases e : i = k
      · rw [e]; exact h2
      · exact h1 i (by omega)
    · intro h
      exact ⟨fun i hi => h i (by omega), h k (by omega)⟩
theorem allB_f {p : Nat → Bool} {k i : Nat} (hi : i < k) (h : p i = false) : allB p k = false := by
  cases e : allB p k
  · rfl
  · rw [allB_t.mp e i hi] at h; cases h
theorem allB_congr {p q : Nat → Bool} {k : Nat} (h : ∀ i, i < k → p i = q i) : allB p k = allB q k := by
  induction k with
  | zero => rfl
  | succ k ih => rw [allB, allB, ih (fun i hi => h i (by omega)), h k (by omega)]
/-- the first below k -/
def fst (p : Nat → Bool) : Nat → Option Nat
  | 0 => none
  | k + 1 => match fst p k with
    | some j => some j
    | none => if p k = true then some k else none
theorem fst_none {p : Nat → Bool} : ∀ {k : Nat}, fst p k = none ↔ ∀ i, i < k → p i = false
  | 0 => by simp [fst]
  | k + 1 => by
    rw [fst]
    cases e : fst p k with
    | some j =>
      simp only [reduceCtorEq, false_iff]
      intro h
      have := (fst_none (p := p) (k := k)).mpr (fun i hi => h i (by omega))
      rw [this] at e; cases e
    | none =>
      have h1 := fst_none.mp e
      by_cases hp : p k = true
      · simp only [hp, if_true, reduceCtorEq, false_iff]
        intro h
        rw [h k (by omega)] at hp; cases hp
      · simp only [hp]
        constructor
        · intro _ i hi
          by_cases hik : i = k
          · rw [hik]; simpa using hp
          · exact h1 i (by omega)
        · intro _; rfl
theorem fst_some {p : Nat → Bool} : ∀ {k j : Nat}, j < k → (∀ i, i < j → p i = false) → p j = true → fst p k = some j
  | 0, j, h, _, _ => absurd h (Nat.not_lt_zero j)
  | k + 1, j, h, h1, h2 => by
    rw [fst]
    by_cases e : j = k
    · subst e
      rw [fst_none.mpr h1]
      simp [h2]
    · rw [fst_some (by omega : j < k) h1 h2]
theorem fst_get {p : Nat → Bool} : ∀ {k j : Nat}, fst p k = some j → j < k ∧ p j = true ∧ ∀ i, i < j → p i = false
  | 0, j, h => by simp [fst] at h
  | k + 1, j, h => by
    rw [fst] at h
    cases e : fst p k with
    | some a =>
      rw [e] at h
      cases h
      have := fst_get e
      exact ⟨by omega, this.2⟩
    | none =>
      rw [e] at h
      by_cases hp : p k = true
      · simp only [hp, if_true, Option.some.injEq] at h
        subst h
        exact ⟨by omega, hp, fst_none.mp e⟩
      · simp [hp] at h
def opn (f : rw_) (i : Nat) : Bool := !(f 72).testBit (i % 8)
/-- 1 back, 2 forwards, 0 neither -/
def may (f : rw_) (i : Nat) : Nat := if opn f i = true then (if (bn f).testBit i = true then (if f (5 * i + 1) = f 70 then 1 else 0) else 2) else 0
theorem may_le (f : rw_) (i : Nat) : may f i ≤ 2 := by unfold may; split <;> (try split) <;> (try split) <;> omega
/-- days till all are rung -/
def dyU (f : rw_) (s : Nat) : Nat → Nat
  | 0 => 0
  | k + 1 => if s.testBit k = true then max (dyU f s k) ((f (5 * k + 1) + 4 - f 70) % 4 + 1) else dyU f s k
def dyOk (f : rw_) (s i : Nat) : Bool := !s.testBit i || ((bn f).testBit i && opn f i)
def untl (f : rw_) (s : Nat) : Int32 := if allB (dyOk f s) (f 68) = true then nI (dyU f s (f 68)) else -1
theorem dyU_le (f : rw_) (s : Nat) : ∀ k, dyU f s k ≤ 4
  | 0 => by simp [dyU]
  | k + 1 => by
    have := dyU_le f s k
    rw [dyU]
    split
    · have := Nat.mod_lt (f (5 * k + 1) + 4 - f 70) (by decide : 4 > 0)
      omega
    · omega
/-- what must be rung forwards -/
def miss (f : rw_) (i : Nat) : Nat := dif (down f i ||| 2 ^ i) (bn f)
def ptb (f : rw_) (i : Nat) : Int32 := if allB (fun j => !(miss f i).testBit j || opn f j) (f 68) = true then nI (pop (miss f i)) else -1
def mxU (f : rw_) (g : Nat → Nat) (i : Nat) : Nat → Nat
  | 0 => 0
  | k + 1 => if (f (5 * i + 2)).testBit k = true then max (mxU f g i k) (g k + 1) else mxU f g i k
def depT (f : rw_) : Nat → Nat → Nat
  | 0 => fun _ => 0
  | i + 1 => fun j => if j = i then mxU f (depT f i) i i else depT f i j
/-- steps of hanging downward at the most -/
def dep (f : rw_) (i : Nat) : Nat := depT f (i + 1) i
theorem depT_lt (f : rw_) {j : Nat} : ∀ {k : Nat}, j < k → depT f k j = dep f j
  | 0, h => absurd h (Nat.not_lt_zero j)
  | k + 1, h => by
    by_cases e : j = k
    · subst e; rfl
    · show (if j = k then mxU f (depT f k) k k else depT f k j) = dep f j
      rw [if_neg e]
      exact depT_lt f (by omega)
theorem mxU_congr (f : rw_) {g1 g2 : Nat → Nat} (i : Nat) : ∀ {k : Nat}, (∀ j, j < k → g1 j = g2 j) → mxU f g1 i k = mxU f g2 i k
  | 0, _ => rfl
  | k + 1, h => by rw [mxU, mxU, mxU_congr f i (fun j hj => h j (by omega)), h k (by omega)]
theorem dep_eq (f : rw_) (i : Nat) : dep f i = mxU f (dep f) i i := by
  show (if i = i then mxU f (depT f i) i i else depT f i i) = _
  rw [if_pos rfl]
  exact mxU_congr f i (fun j hj => depT_lt f hj)
theorem mxU_le (f : rw_) (i n : Nat) {g : Nat → Nat} : ∀ {k : Nat}, (∀ j, j < k → g j < n) → mxU f g i k ≤ n
  | 0, _ => Nat.zero_le _
  | k + 1, h => by
    have := mxU_le f i n (k := k) (fun j hj => h j (by omega))
    have := h k (by omega)
    rw [mxU]
    split <;> omega
theorem dep_le (f : rw_) : ∀ i, dep f i ≤ i := by
  intro i
  induction i using Nat.strongRecOn with
  | _ i ih =>
    rw [dep_eq]
    exact mxU_le f i i (fun j hj => Nat.lt_of_le_of_lt (ih j hj) hj)
theorem mxU_get (f : rw_) (i : Nat) {g : Nat → Nat} : ∀ {k m : Nat}, mxU f g i k = m + 1 → ∃ j, j < k ∧ (f (5 * i + 2)).testBit j = true ∧ g j = m
  | 0, m, h => by simp [mxU] at h
  | k + 1, m, h => by
    rw [mxU] at h
    by_cases hb : (f (5 * i + 2)).testBit k = true
    · rw [if_pos hb] at h
      by_cases hm : mxU f g i k = m + 1
      · obtain ⟨j, h1, h2⟩ := mxU_get f i hm
        exact ⟨j, by omega, h2⟩
      · exact ⟨k, by omega, hb, by omega⟩
    · rw [if_neg hb] at h
      obtain ⟨j, h1, h2⟩ := mxU_get f i h
      exact ⟨j, by omega, h2⟩
/-- the least on which a thing hangs that has so much depth; itself -/
def lhaP (f : rw_) (a dp j : Nat) : Bool := (f (5 * a + 2)).testBit j && decide (dep f j = dp)
def lha (f : rw_) (a dp : Nat) : Nat := (fst (lhaP f a dp) a).getD a
def chN (f : rw_) : Nat → Nat → Nat → Nat
  | _, bits, 0 => bits
  | a, bits, k + 1 => chN f (lha f a k) (bits ||| 2 ^ lha f a k) k
def chain (f : rw_) (i : Nat) : Nat := chN f i (2 ^ i) (dep f i)
theorem lha_le (f : rw_) (a dp : Nat) : lha f a dp ≤ a := by
  unfold lha
  cases e : fst (lhaP f a dp) a with
  | none => exact Nat.le_refl _
  | some j => exact Nat.le_of_lt (fst_get e).1
def cbk (f : rw_) (w : Nat) : Nat := cnt (fun i => (bn f).testBit i && opn f i && decide (f (5 * i + 1) = w)) (f 68)
def cop (f : rw_) (b : Nat) : Nat := cnt (fun i => decide (i % 8 = b) && opn f i) (f 68)
/-- the first of the greatest -/
def amax (g : Nat → Nat) : Nat → Nat
  | 0 => 0
  | k + 1 => if g (amax g k) < g (k + 1) then k + 1 else amax g k
theorem amax_le (g : Nat → Nat) : ∀ k, amax g k ≤ k
  | 0 => Nat.le_refl _
  | k + 1 => by
    have := amax_le g k
    rw [amax]
    split <;> omega
/-- the first of the best by an order, of those that are asked -/
def bestU (p : Nat → Bool) (lt : Nat → Nat → Bool) : Nat → Option Nat
  | 0 => none
  | k + 1 => if p k = true then (match bestU p lt k with
    | none => some k
    | some j => if lt k j = true then some k else some j) else bestU p lt k
theorem bestU_lt {p : Nat → Bool} {lt : Nat → Nat → Bool} : ∀ {k j : Nat}, bestU p lt k = some j → j < k ∧ p j = true
  | 0, j, h => by simp [bestU] at h
  | k + 1, j, h => by
    rw [bestU] at h
    by_cases hp : p k = true
    · rw [if_pos hp] at h
      cases e : bestU p lt k with
      | none => rw [e] at h; cases h; exact ⟨by omega, hp⟩
      | some a =>
        rw [e] at h
        by_cases hl : lt k a = true
        · simp only [hl, if_true, Option.some.injEq] at h; subst h; exact ⟨by omega, hp⟩
        · simp only [hl] at h
          cases h
          have := bestU_lt e
          exact ⟨by omega, this.2⟩
    · rw [if_neg hp] at h
      have := bestU_lt h
      exact ⟨by omega, this.2⟩
theorem bestU_congr {p q : Nat → Bool} {l1 l2 : Nat → Nat → Bool} : ∀ {k : Nat}, (∀ i, i < k → p i = q i) → (∀ i j, i < k → j < i → p i = true → p j = true → l1 i j = l2 i j) → bestU p l1 k = bestU q l2 k
  | 0, _, _ => rfl
  | k + 1, h1, h2 => by
    have ih := bestU_congr (k := k) (fun i hi => h1 i (by omega)) (fun i j hi hj => h2 i j (by omega) hj)
    rw [bestU, bestU, ← ih, ← h1 k (by omega)]
    by_cases hp : p k = true
    · rw [if_pos hp, if_pos hp]
      cases e : bestU p l1 k with
      | none => rfl
      | some j =>
        obtain ⟨hj, hpj⟩ := bestU_lt e
        simp only
        rw [h2 k j (by omega) hj hp hpj]
    · rw [if_neg hp, if_neg hp]
/-- fewer bits, or nothing found yet -/
def isf (a : Nat) : Option Nat → Bool
  | none => true
  | some b => decide (pop a < pop b)
/-- the least set of those asked -/
def lstU (p : Nat → Bool) : Nat → Option Nat
  | 0 => none
  | k + 1 => if p k = true ∧ isf k (lstU p k) = true then some k else lstU p k
theorem lstU_lt {p : Nat → Bool} : ∀ {k j : Nat}, lstU p k = some j → j < k
  | 0, j, h => by simp [lstU] at h
  | k + 1, j, h => by
    rw [lstU] at h
    split at h
    · cases h; omega
    · have := lstU_lt h; omega
theorem lstU_congr {p q : Nat → Bool} : ∀ {k : Nat}, (∀ i, i < k → p i = q i) → lstU p k = lstU q k
  | 0, _ => rfl
  | k + 1, h => by rw [lstU, lstU, lstU_congr (fun i hi => h i (by omega)), h k (by omega)]
theorem lstU_end {p : Nat → Bool} {k : Nat} (h : ∀ i, k ≤ i → p i = false) : ∀ n, lstU p (k + n) = lstU p k
  | 0 => rfl
  | n + 1 => by
    rw [← Nat.add_assoc, lstU, h (k + n) (by omega)]
    simp [lstU_end h n]
/-- unsaying: the best set, and how many stand then -/
def unU (f : rw_) (s : Nat) : Nat → Option (Nat × Nat)
  | 0 => none
  | k + 1 => if dif k (bn f) = 0 ∧ sta f (dif (bn f) k) &&& s = 0 then (match unU f s k with
    | none => some (k, pop (sta f (dif (bn f) k)))
    | some (b, m) => if m < pop (sta f (dif (bn f) k)) ∨ (m = pop (sta f (dif (bn f) k)) ∧ pop k < pop b) then some (k, pop (sta f (dif (bn f) k))) else some (b, m)) else unU f s k
theorem unU_end {f : rw_} (s : Nat) {k : Nat} (h : ∀ i, k ≤ i → ¬ dif i (bn f) = 0) : ∀ n, unU f s (k + n) = unU f s k
  | 0 => rfl
  | n + 1 => by
    rw [← Nat.add_assoc, unU, if_neg (fun z => h (k + n) (by omega) z.1), unU_end s h n]
theorem unU_lt {f : rw_} {s : Nat} : ∀ {k : Nat} {q : Nat × Nat}, unU f s k = some q → q.1 < k ∧ q.2 ≤ 10
  | 0, q, h => by simp [unU] at h
  | k + 1, q, h => by
    rw [unU] at h
    have hp := pop_le (sta f (dif (bn f) k))
    split at h
    · split at h
      · cases h; exact ⟨by omega, hp⟩
      · rename_i b m e
        split at h
        · cases h; exact ⟨by omega, hp⟩
        · cases h
          have := unU_lt e
          exact ⟨by omega, this.2⟩
    · have := unU_lt h
      exact ⟨by omega, this.2⟩
theorem sub_le {a b : Nat} (h : dif a b = 0) : a ≤ b := by
  have h1 : a &&& b = a := bits_ext fun i => by
    rw [Nat.testBit_and]
    have := dif_0.mp h i
    cases ha : a.testBit i
    · rfl
    · rw [this ha]; rfl
  calc a = a &&& b := h1.symm
    _ ≤ b := Nat.and_le_right
