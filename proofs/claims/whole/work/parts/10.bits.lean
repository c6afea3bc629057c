/-! ===== whole numbers and sets of bits ===== -/
theorem i32_ext {a b : Int32} (h : a.toBitVec = b.toBitVec) : a = b := Int32.toBitVec_inj.mp h
theorem nI_bv (n : Nat) : (nI n).toBitVec = BitVec.ofNat 32 n := rfl
theorem bt_or (a b : Nat) : nI a ||| nI b = nI (a ||| b) := i32_ext (by
  rw [Int32.toBitVec_or, nI_bv, nI_bv, nI_bv]
  apply BitVec.eq_of_toNat_eq
  simp [Nat.or_mod_two_pow])
theorem bt_and (a b : Nat) : nI a &&& nI b = nI (a &&& b) := i32_ext (by
  rw [Int32.toBitVec_and, nI_bv, nI_bv, nI_bv]
  apply BitVec.eq_of_toNat_eq
  simp [Nat.and_mod_two_pow])
theorem bt_xor (a b : Nat) : nI a ^^^ nI b = nI (a ^^^ b) := i32_ext (by
  rw [Int32.toBitVec_xor, nI_bv, nI_bv, nI_bv]
  apply BitVec.eq_of_toNat_eq
  simp [Nat.xor_mod_two_pow])
/-- those of a that aren't in b -/
def dif (a b : Nat) : Nat := a ^^^ (a &&& b)
theorem dif_bit (a b i : Nat) : (dif a b).testBit i = (a.testBit i && !b.testBit i) := by
  unfold dif
  rw [Nat.testBit_xor, Nat.testBit_and]
  cases a.testBit i <;> cases b.testBit i <;> rfl
theorem bt_not (x y : Int32) : x &&& (y ^^^ (-1)) = x ^^^ (x &&& y) := i32_ext (by
  rw [Int32.toBitVec_and, Int32.toBitVec_xor, Int32.toBitVec_xor, Int32.toBitVec_and]
  have e : (-1 : Int32).toBitVec = BitVec.allOnes 32 := by decide
  rw [e]
  ext i hi
  simp only [BitVec.getElem_and, BitVec.getElem_xor, BitVec.getElem_allOnes]
  cases x.toBitVec[i] <;> cases y.toBitVec[i] <;> simp)
theorem bt_dif (a b : Nat) : nI a &&& (nI b ^^^ (-1)) = nI (dif a b) := by rw [bt_not, bt_and, bt_xor]; rfl
theorem bt_sh {i : Nat} (hi : i < 32) : ((nI i &&& 31).toBitVec.smod 32).toNat = i := (by decide +kernel : ∀ i : Fin 32, ((nI i.val &&& 31).toBitVec.smod 32).toNat = i.val) ⟨i, hi⟩
theorem bt_one {i : Nat} (hi : i < 31) : (1 : Int32) <<< (nI i &&& 31) = nI (2 ^ i) := by
  have h := pk_shlN (n := 1) (nI i &&& 31) i (bt_sh (by omega)) (by rw [Nat.one_mul]; exact Nat.pow_lt_pow_right (by omega) (by omega))
  rw [Nat.one_mul] at h
  exact h
theorem bt_shl {a i : Nat} (hi : i < 31) (h : a * 2 ^ i < 2 ^ 32) : nI a <<< (nI i &&& 31) = nI (a * 2 ^ i) := pk_shlN (n := a) (nI i &&& 31) i (bt_sh (by omega)) h
theorem bt_shr {v i : Nat} (hv : v < 2 ^ 31) (hi : i < 32) : nI v >>> (nI i &&& 31) = nI (v / 2 ^ i) := pk_shrN hv _ i (bt_sh hi)
theorem bt_and1 {v : Nat} (hv : v < 2 ^ 32) : nI v &&& 1 = nI (v % 2) := pk_andN hv 1 (by decide)
theorem b2_nI (b : Bool) : b2 b = nI b.toNat := by cases b <;> rfl
theorem bt_bit {v i : Nat} (hv : v < 2 ^ 31) (hi : i < 32) : (nI v >>> (nI i &&& 31)) &&& 1 = b2 (v.testBit i) := by
  have h1 : v / 2 ^ i < 2 ^ 32 := Nat.lt_of_le_of_lt (Nat.div_le_self _ _) (by omega)
  rw [bt_shr hv hi, bt_and1 h1, b2_nI]
  congr 1
  rw [Nat.testBit_eq_decide_div_mod_eq]
  rcases Nat.mod_two_eq_zero_or_one (v / 2 ^ i) with h | h <;> simp [h]
theorem nI0 {x : Nat} (h : x < 2 ^ 31) : nI x = 0 ↔ x = 0 := by
  have := nI_eq (a := x) (b := 0) h (by decide)
  rwa [nI_0] at this
theorem p2_lt {i n : Nat} (h : i < n) : 2 ^ i < 2 ^ n := Nat.pow_lt_pow_right (by decide) h
theorem dif_le (a b : Nat) {n : Nat} (h : a < 2 ^ n) : dif a b < 2 ^ n := Nat.xor_lt_two_pow h (Nat.lt_of_le_of_lt Nat.and_le_left h)
theorem or_lt {a b n : Nat} (h : a < 2 ^ n) (h2 : b < 2 ^ n) : a ||| b < 2 ^ n := Nat.or_lt_two_pow h h2
theorem and_lt {a : Nat} (b : Nat) {n : Nat} (h : a < 2 ^ n) : a &&& b < 2 ^ n := Nat.lt_of_le_of_lt Nat.and_le_left h
theorem bit_p2 (i j : Nat) : (2 ^ i).testBit j = decide (i = j) := by rw [Nat.testBit_two_pow]
theorem bits_ext {a b : Nat} (h : ∀ i, a.testBit i = b.testBit i) : a = b := Nat.eq_of_testBit_eq h
theorem dif_0 {a b : Nat} : dif a b = 0 ↔ ∀ i, a.testBit i = true → b.testBit i = true := by
  constructor
  · intro h i hi
    have h1 := dif_bit a b i
    rw [h, Nat.zero_testBit, hi] at h1
    cases hb : b.testBit i
    · rw [hb] at h1; cases h1
    · rfl
  · intro h
    refine bits_ext fun i => ?_
    rw [dif_bit, Nat.zero_testBit]
    cases ha : a.testBit i
    · rfl
    · rw [h i ha]; rfl
theorem bit_ge {a n i : Nat} (h : a < 2 ^ n) (hi : n ≤ i) : a.testBit i = false := Nat.testBit_lt_two_pow (Nat.lt_of_lt_of_le h (Nat.pow_le_pow_right (by decide) hi))
theorem lt_of_bits {a n : Nat} (h : ∀ i, n ≤ i → a.testBit i = false) : a < 2 ^ n := Nat.lt_pow_two_of_testBit _ h
/-- how many bits below 10 -/
def pop (v : Nat) : Nat := ((List.range 10).map fun i => (v.testBit i).toNat).sum
def bcI (x : Int32) : Int32 :=
  let us (a : Int32) (s : Int32) : Int32 := (a.toUInt32 >>> (s.toUInt32 &&& Int32.toUInt32 31)).toInt32
  let a := x - (us x 1 &&& 1431655765)
  let b := (a &&& 858993459) + (us a 2 &&& 858993459)
  let c := (b + us b 4) &&& 252645135
  let e := c + us c 8
  let f := e + us e 16
  f &&& 63
theorem bc_pop {v : Nat} (h : v < 1024) : bcI (nI v) = nI (pop v) := (by decide +kernel : ∀ v : Fin 1024, bcI (nI v.val) = nI (pop v.val)) ⟨v, h⟩
theorem pop_le (v : Nat) : pop v ≤ 10 := by
  have h : ∀ b : Bool, b.toNat ≤ 1 := by decide
  have h0 := h (v.testBit 0); have h1 := h (v.testBit 1); have h2 := h (v.testBit 2); have h3 := h (v.testBit 3); have h4 := h (v.testBit 4)
  have h5 := h (v.testBit 5); have h6 := h (v.testBit 6); have h7 := h (v.testBit 7); have h8 := h (v.testBit 8); have h9 := h (v.testBit 9)
  simp only [pop, List.range, List.range.loop, List.map, List.sum_cons, List.sum_nil]
  omega
