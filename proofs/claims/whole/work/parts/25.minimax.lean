/-! ===== two parishes by turns ===== -/
def iI (z : Int) : Int32 := Int32.ofInt z
theorem iI_toInt {z : Int} (h1 : -2000 ≤ z) (h2 : z ≤ 2000) : (iI z).toInt = z := by
  have h := Int32.toInt_ofInt_of_le (n := z) (by omega) (by omega)
  exact h
theorem iI_nat (v : Nat) (h : v ≤ 2000) : nI v = iI v := by
  apply Int32.toInt_inj.mp
  rw [nI_toInt (by omega), iI_toInt (by omega) (by omega)]
theorem iI_lt {a b : Int} (ha : -2000 ≤ a ∧ a ≤ 2000) (hb : -2000 ≤ b ∧ b ≤ 2000) : iI a < iI b ↔ a < b := by
  rw [Int32.lt_iff_toInt_lt, iI_toInt ha.1 ha.2, iI_toInt hb.1 hb.2]
theorem iI_le {a b : Int} (ha : -2000 ≤ a ∧ a ≤ 2000) (hb : -2000 ≤ b ∧ b ≤ 2000) : iI a ≤ iI b ↔ a ≤ b := by
  rw [Int32.le_iff_toInt_le, iI_toInt ha.1 ha.2, iI_toInt hb.1 hb.2]
theorem iI_max {a b : Int} (ha : -2000 ≤ a ∧ a ≤ 2000) (hb : -2000 ≤ b ∧ b ≤ 2000) : (if iI a < iI b then iI b else iI a) = iI (max a b) := by
  by_cases h : a < b
  · rw [if_pos ((iI_lt ha hb).mpr h), Int.max_eq_right (by omega)]
  · rw [if_neg (fun z => h ((iI_lt ha hb).mp z)), Int.max_eq_left (by omega)]
theorem iI_min {a b : Int} (ha : -2000 ≤ a ∧ a ≤ 2000) (hb : -2000 ≤ b ∧ b ≤ 2000) : (if iI b < iI a then iI b else iI a) = iI (min a b) := by
  by_cases h : b < a
  · rw [if_pos ((iI_lt hb ha).mpr h), Int.min_eq_right (by omega)]
  · rw [if_neg (fun z => h ((iI_lt hb ha).mp z)), Int.min_eq_left (by omega)]
def mmP (b : Nat) (back : Bool) (i : Nat) : Bool := b.testBit i == back
def mmL (v : Nat → Nat) (back : Bool) (i j : Nat) : Bool := if back = true then decide (v i < v j) else decide (v j < v i)
/-- VALUE at the end, both choosing best -/
def mm (f : rw_) : Nat → Nat → Bool → Nat
  | 0, b, _ => val f b
  | k + 1, b, back => match bestU (mmP b back) (mmL (fun i => mm f k (b ^^^ 2 ^ i) (!back)) back) (f 68) with
    | none => mm f k b (!back)
    | some i => mm f k (b ^^^ 2 ^ i) (!back)
theorem mm_le {f : rw_} (hw : WF f) : ∀ k b back, mm f k b back ≤ 990
  | 0, b, _ => val_le hw b
  | k + 1, b, back => by
    rw [mm]
    split
    · exact mm_le hw k _ _
    · exact mm_le hw k _ _
theorem bestU_none {p : Nat → Bool} {l : Nat → Nat → Bool} : ∀ {k : Nat}, bestU p l k = none ↔ ∀ i, i < k → p i = false
  | 0 => by simp [bestU]
  | k + 1 => by
    rw [bestU]
    by_cases hp : p k = true
    · rw [if_pos hp]
      constructor
      · intro h
        cases e : bestU p l k with
        | none => rw [e] at h; cases h
        | some j =>
          rw [e] at h
          by_cases hl : l k j = true <;> simp [hl] at h
      · intro h
        rw [h k (by omega)] at hp; cases hp
    · rw [if_neg hp, bestU_none]
      constructor
      · intro h i hi
        by_cases e : i = k
        · rw [e]; simpa using hp
        · exact h i (by omega)
      · intro h i hi; exact h i (by omega)
/-- the best of those gone through, as a value -/
def pm (p : Nat → Bool) (v : Nat → Nat) (back : Bool) (i : Nat) : Option Nat := (bestU p (mmL v back) i).map v
theorem pm_no {p : Nat → Bool} {v : Nat → Nat} {back : Bool} {i : Nat} (h : p i = false) : pm p v back (i + 1) = pm p v back i := by unfold pm; rw [best_no h]
def mnO : Option Nat → Nat → Nat
  | none, m => m
  | some a, m => min a m
def mxO : Option Nat → Nat → Nat
  | none, m => m
  | some a, m => max a m
theorem pm_min {p : Nat → Bool} {v : Nat → Nat} {i : Nat} (h : p i = true) : pm p v true (i + 1) = some (mnO (pm p v true i) (v i)) := by
  unfold pm
  cases e : bestU p (mmL v true) i with
  | none => rw [best_new h e]; rfl
  | some j =>
    by_cases hl : v i < v j
    · rw [best_up h e (by simp [mmL, hl])]
      simp only [Option.map_some, mnO, mxO]
      rw [Nat.min_eq_right (by omega)]
    · rw [best_st h e (by simp [mmL, hl])]
      simp only [Option.map_some, mnO, mxO]
      rw [Nat.min_eq_left (by omega)]
theorem pm_max {p : Nat → Bool} {v : Nat → Nat} {i : Nat} (h : p i = true) : pm p v false (i + 1) = some (mxO (pm p v false i) (v i)) := by
  unfold pm
  cases e : bestU p (mmL v false) i with
  | none => rw [best_new h e]; rfl
  | some j =>
    by_cases hl : v j < v i
    · rw [best_up h e (by simp [mmL, hl])]
      simp only [Option.map_some, mnO, mxO]
      rw [Nat.max_eq_right (by omega)]
    · rw [best_st h e (by simp [mmL, hl])]
      simp only [Option.map_some, mnO, mxO]
      rw [Nat.max_eq_left (by omega)]
theorem pm_dn {p : Nat → Bool} {v : Nat → Nat} {i m : Nat} (h : pm p v true i = some m) : ∀ n, ∃ m', pm p v true (i + n) = some m' ∧ m' ≤ m
  | 0 => ⟨m, h, Nat.le_refl _⟩
  | n + 1 => by
    obtain ⟨m', h1, h2⟩ := pm_dn h n
    rw [← Nat.add_assoc]
    cases hp : p (i + n)
    · rw [pm_no hp]; exact ⟨m', h1, h2⟩
    · rw [pm_min hp, h1]
      exact ⟨_, rfl, by show min m' _ ≤ m; omega⟩
theorem pm_up {p : Nat → Bool} {v : Nat → Nat} {i m : Nat} (h : pm p v false i = some m) : ∀ n, ∃ m', pm p v false (i + n) = some m' ∧ m ≤ m'
  | 0 => ⟨m, h, Nat.le_refl _⟩
  | n + 1 => by
    obtain ⟨m', h1, h2⟩ := pm_up h n
    rw [← Nat.add_assoc]
    cases hp : p (i + n)
    · rw [pm_no hp]; exact ⟨m', h1, h2⟩
    · rw [pm_max hp, h1]
      exact ⟨_, rfl, by show m ≤ max m' _; omega⟩
theorem mm_pm {f : rw_} {k b : Nat} {back : Bool} {m : Nat} (h : pm (mmP b back) (fun i => mm f k (b ^^^ 2 ^ i) (!back)) back (f 68) = some m) : mm f (k + 1) b back = m := by
  rw [mm]
  unfold pm at h
  cases e : bestU (mmP b back) (mmL (fun i => mm f k (b ^^^ 2 ^ i) (!back)) back) (f 68) with
  | none => rw [e] at h; cases h
  | some j => rw [e] at h; exact Option.some.inj h
/-- what an answer within bounds says of a value -/
def AB (lo hi m r : Int) : Prop := (m ≤ lo → r ≤ lo) ∧ (hi ≤ m → hi ≤ r) ∧ (lo < m → m < hi → r = m)
theorem AB.self (lo hi m : Int) : AB lo hi m m := ⟨fun h => h, fun h => h, fun _ _ => rfl⟩
/-- the least so far, as the loop of the one that rings back has it -/
def ivB (lo hi : Int) (o : Option Nat) (mo : Int) : Prop := -1 ≤ mo ∧ mo ≤ hi ∧ (match o with
  | none => mo = hi
  | some m => (lo < min hi (m : Int) → mo = min hi (m : Int)) ∧ (min hi (m : Int) ≤ lo → mo ≤ lo))
def ivF (lo hi : Int) (o : Option Nat) (le : Int) : Prop := lo ≤ le ∧ le ≤ 1000 ∧ (match o with
  | none => le = lo
  | some m => (max lo (m : Int) < hi → le = max lo (m : Int)) ∧ (hi ≤ max lo (m : Int) → hi ≤ le))
theorem ivB_step {lo hi mo r : Int} {o : Option Nat} {m : Nat} (h : ivB lo hi o mo) (hlm : lo < mo) (hr : AB lo mo (m : Int) r) (h1 : -1 ≤ r) (hlo : -1 ≤ lo) : ivB lo hi (some (mnO o m)) (min mo r) := by
  obtain ⟨g1, g2, g3⟩ := h
  obtain ⟨r1, r2, r3⟩ := hr
  refine ⟨by omega, by omega, ?_⟩
  cases o with
  | none =>
    simp only [mnO, mxO] at g3 ⊢
    constructor
    · intro h; omega
    · intro h; omega
  | some a =>
    simp only [mnO, mxO] at g3 ⊢
    obtain ⟨g3, g4⟩ := g3
    have hm : ((min a m : Nat) : Int) = min (a : Int) (m : Int) := by omega
    rw [hm]
    constructor
    · intro h; omega
    · intro h; omega
theorem ivF_step {lo hi le r : Int} {o : Option Nat} {m : Nat} (h : ivF lo hi o le) (hlm : le < hi) (hr : AB le hi (m : Int) r) (h1 : r ≤ 1000) (hhi : hi ≤ 1000) : ivF lo hi (some (mxO o m)) (max le r) := by
  obtain ⟨g1, g2, g3⟩ := h
  obtain ⟨r1, r2, r3⟩ := hr
  refine ⟨by omega, by omega, ?_⟩
  cases o with
  | none =>
    simp only [mnO, mxO] at g3 ⊢
    constructor
    · intro h; omega
    · intro h; omega
  | some a =>
    simp only [mnO, mxO] at g3 ⊢
    obtain ⟨g3, g4⟩ := g3
    have hm : ((max a m : Nat) : Int) = max (a : Int) (m : Int) := by omega
    rw [hm]
    constructor
    · intro h; omega
    · intro h; omega
theorem ivB_end {lo hi mo : Int} {m : Nat} (h : ivB lo hi (some m) mo) (hlh : lo < hi) : AB lo hi (m : Int) mo := by
  obtain ⟨g1, g2, g3, g4⟩ := h
  refine ⟨fun z => ?_, fun z => ?_, fun z1 z2 => ?_⟩ <;> omega
theorem ivF_end {lo hi le : Int} {m : Nat} (h : ivF lo hi (some m) le) (hlh : lo < hi) : AB lo hi (m : Int) le := by
  obtain ⟨g1, g2, g3, g4⟩ := h
  refine ⟨fun z => ?_, fun z => ?_, fun z1 z2 => ?_⟩ <;> omega
theorem ivB_cut {lo hi mo : Int} {o : Option Nat} (h : ivB lo hi o mo) (hlh : lo < hi) (hc : mo ≤ lo) : ∃ m, o = some m ∧ ∀ m' : Nat, m' ≤ m → AB lo hi (m' : Int) mo := by
  obtain ⟨g1, g2, g3⟩ := h
  cases o with
  | none => simp only at g3; omega
  | some m =>
    simp only at g3
    exact ⟨m, rfl, fun m' hm => ⟨fun z => by omega, fun z => by omega, fun z1 z2 => by omega⟩⟩
theorem ivF_cut {lo hi le : Int} {o : Option Nat} (h : ivF lo hi o le) (hlh : lo < hi) (hc : hi ≤ le) : ∃ m, o = some m ∧ ∀ m' : Nat, m ≤ m' → AB lo hi (m' : Int) le := by
  obtain ⟨g1, g2, g3⟩ := h
  cases o with
  | none => simp only at g3; omega
  | some m =>
    simp only at g3
    exact ⟨m, rfl, fun m' hm => ⟨fun z => by omega, fun z => by omega, fun z1 z2 => by omega⟩⟩
section LS
variable {M : sm_M} {d mc ms pc : Nat} {Q : Option Value → sm_H → Prop}
theorem wp_loopS {σ : Type} (St : Nat → σ → List Value) (Hp : Nat → σ → sm_H) (Inv : Nat → σ → Prop) (e : Nat) (step : ∀ i s, i < e → Inv i s → (∀ s', Inv (i + 1) s' → Wp M d mc ms pc (St (i + 1) s') [] (Hp (i + 1) s') Q) → Wp M d mc ms pc (St i s) [] (Hp i s) Q) (exit : ∀ s, Inv e s → Wp M d mc ms pc (St e s) [] (Hp e s) Q) (i : Nat) (s : σ) (hi : i ≤ e) (h0 : Inv i s) : Wp M d mc ms pc (St i s) [] (Hp i s) Q := by
  have key : ∀ n i s, i ≤ e → e - i = n → Inv i s → Wp M d mc ms pc (St i s) [] (Hp i s) Q := by
    intro n
    induction n with
    | zero =>
      intro i s hi hn h0
      have : i = e := by omega
      subst this
      exact exit s h0
    | succ n ih =>
      intro i s hi hn h0
      exact step i s (by omega) h0 (fun s' h1 => ih (i + 1) s' (by omega) (by omega) h1)
  exact key _ i s hi rfl h0
end LS
theorem xor_1024 {b i : Nat} (hb : b < 1024) (hi : i < 10) : b ^^^ 2 ^ i < 1024 := Nat.xor_lt_two_pow (n := 10) hb (p2_lt hi)
theorem xor_n {b i n : Nat} (hb : b < 2 ^ n) (hi : i < n) : b ^^^ 2 ^ i < 2 ^ n := Nat.xor_lt_two_pow hb (p2_lt hi)
def chs (f : rw_) (b : Nat) (back : Bool) : Nat := if back = true then b else dif (2 ^ f 68 - 1) b
theorem chs_bit {f : rw_} {b : Nat} {back : Bool} {i : Nat} (hi : i < f 68) : (chs f b back).testBit i = mmP b back i := by
  unfold chs mmP
  cases back
  · rw [if_neg (by decide), dif_bit, Nat.testBit_two_pow_sub_one, decide_eq_true hi]
    cases b.testBit i <;> rfl
  · rw [if_pos rfl]
    cases b.testBit i <;> rfl
theorem chs_lt {f : rw_} {b : Nat} {back : Bool} (hb : b < 2 ^ f 68) : chs f b back < 2 ^ f 68 := by
  unfold chs
  split
  · exact hb
  · exact dif_le _ _ (by have := Nat.two_pow_pos (f 68); omega)
theorem chs_0 {f : rw_} {b : Nat} {back : Bool} (hb : b < 2 ^ f 68) {l : Nat → Nat → Bool} : chs f b back = 0 ↔ bestU (mmP b back) l (f 68) = none := by
  rw [bestU_none]
  constructor
  · intro h i hi
    rw [← chs_bit (f := f) hi, h, Nat.zero_testBit]
  · intro h
    refine bits_ext fun i => ?_
    rw [Nat.zero_testBit]
    rcases Nat.lt_or_ge i (f 68) with q | q
    · rw [chs_bit q, h i q]
    · exact bit_ge (chs_lt hb) q
