/-! ===== words for what methods answer, and rows for loops ===== -/
def col (p : Nat → Bool) : Nat → Nat
  | 0 => 0
  | i + 1 => if p i = true then col p i ||| 2 ^ i else col p i
def cnt (p : Nat → Bool) : Nat → Nat
  | 0 => 0
  | i + 1 => cnt p i + (p i).toNat
theorem col_bit (p : Nat → Bool) : ∀ k j, (col p k).testBit j = (decide (j < k) && p j)
  | 0, j => by simp [col]
  | k + 1, j => by
    rw [col]
    by_cases hj : j = k
    · subst hj
      cases hp : p j
      · simp [col_bit p j j]
      · simp [Nat.testBit_or, col_bit p j j]
    · have e : decide (j < k + 1) = decide (j < k) := by rw [decide_eq_decide]; omega
      rw [e]
      cases hp : p k
      · simp [col_bit p k j]
      · rw [if_pos rfl, Nat.testBit_or, col_bit p k j, bit_p2, decide_eq_false (show ¬ k = j from fun z => hj z.symm), Bool.or_false]
theorem col_lt (p : Nat → Bool) (k : Nat) : col p k < 2 ^ k := lt_of_bits fun i hi => by rw [col_bit, decide_eq_false (by omega), Bool.false_and]
theorem col_congr {p q : Nat → Bool} {k : Nat} (h : ∀ i, i < k → p i = q i) : col p k = col q k := bits_ext fun j => by
  rw [col_bit, col_bit]
  by_cases hj : j < k
  · rw [h j hj]
  · rw [decide_eq_false hj]; rfl
theorem col_t {p : Nat → Bool} {i : Nat} (hi : i < 31) (h : p i = true) : nI (col p (i + 1)) = nI (col p i) ||| (1 : Int32) <<< (nI i &&& 31) := by
  rw [col, if_pos h, bt_one hi, bt_or]
theorem col_f {p : Nat → Bool} {i : Nat} (h : p i = false) : col p (i + 1) = col p i := by rw [col, if_neg (by rw [h]; decide)]
theorem cnt_t {p : Nat → Bool} {i : Nat} (h : p i = true) : cnt p (i + 1) = cnt p i + 1 := by rw [cnt, h]; rfl
theorem cnt_f {p : Nat → Bool} {i : Nat} (h : p i = false) : cnt p (i + 1) = cnt p i := by rw [cnt, h]; rfl
theorem cnt_le (p : Nat → Bool) : ∀ k, cnt p k ≤ k
  | 0 => Nat.le_refl _
  | k + 1 => by
    have := cnt_le p k
    rw [cnt]
    cases p k <;> simp <;> omega
theorem cnt_congr {p q : Nat → Bool} : ∀ {k : Nat}, (∀ i, i < k → p i = q i) → cnt p k = cnt q k
  | 0, _ => rfl
  | k + 1, h => by rw [cnt, cnt, cnt_congr (fun i hi => h i (by omega)), h k (by omega)]
theorem stU_t {f : rw_} {b i : Nat} (hi : i < 31) (h1 : b.testBit i = true) (h2 : dif (f (5 * i + 2)) (stU f b i) = 0) : nI (stU f b (i + 1)) = nI (stU f b i) ||| (1 : Int32) <<< (nI i &&& 31) := by
  rw [stU, if_pos ⟨h1, h2⟩, bt_one hi, bt_or]
theorem stU_f {f : rw_} {b i : Nat} (h : b.testBit i = false) : stU f b (i + 1) = stU f b i := by rw [stU, if_neg (by simp [h])]
theorem stU_f2 {f : rw_} {b i : Nat} (h : ¬ dif (f (5 * i + 2)) (stU f b i) = 0) : stU f b (i + 1) = stU f b i := by rw [stU, if_neg (by simp [h])]
/-- all on which a thing hangs, downward: the last k are still to be gone through -/
def dnD (f : rw_) : Nat → Nat → Nat
  | b, 0 => b
  | b, k + 1 => dnD f (if b.testBit k = true then b ||| f (5 * k + 2) else b) k
def down (f : rw_) (i : Nat) : Nat := dnD f (f (5 * i + 2)) 10
theorem dnD_end (f : rw_) {b k : Nat} (hb : b < 2 ^ k) : ∀ n, dnD f b (k + n) = dnD f b k
  | 0 => rfl
  | n + 1 => by
    rw [← Nat.add_assoc, dnD, bit_ge hb (Nat.le_add_right k n), if_neg (by decide)]
    exact dnD_end f hb n
theorem down_of {f : rw_} (h : WF f) {i : Nat} (hi : i < 10) : down f i = dnD f (f (5 * i + 2)) i := by
  have := dnD_end f (h.on hi) (10 - i)
  rw [show i + (10 - i) = 10 by omega] at this
  exact this
theorem dnD_lt {f : rw_} (h : WF f) : ∀ k, k ≤ 10 → ∀ {b n : Nat}, b < 2 ^ n → k ≤ n → n ≤ 10 → dnD f b k < 2 ^ n
  | 0, _, b, n, hb, _, _ => hb
  | k + 1, hk, b, n, hb, hkn, hn => by
    rw [dnD]
    refine dnD_lt h k (by omega) ?_ (by omega) hn
    split
    · exact or_lt hb (Nat.lt_trans (h.on (by omega)) (p2_lt (by omega)))
    · exact hb
theorem down_lt {f : rw_} (h : WF f) {i : Nat} (hi : i < 10) : down f i < 2 ^ i := by
  rw [down_of h hi]
  exact dnD_lt h i (by omega) (h.on hi) (Nat.le_refl _) (by omega)
theorem down_1024 {f : rw_} (h : WF f) {i : Nat} (hi : i < 10) : down f i < 1024 := Nat.lt_of_lt_of_le (down_lt h hi) (show 2 ^ i ≤ 2 ^ 10 from Nat.pow_le_pow_right (by decide) (by omega))
section SP
variable {M : sm_M} {d mc ms pc : Nat} {lv st : List Value} {h : sm_H} {Q : Option Value → sm_H → Prop}
theorem wp_loopD (St : Nat → List Value) (Hp : Nat → sm_H) (Inv : Nat → Prop) (step : ∀ k, Inv (k + 1) → (Inv k → Wp M d mc ms pc (St k) [] (Hp k) Q) → Wp M d mc ms pc (St (k + 1)) [] (Hp (k + 1)) Q) (exit : Inv 0 → Wp M d mc ms pc (St 0) [] (Hp 0) Q) : ∀ e, Inv e → Wp M d mc ms pc (St e) [] (Hp e) Q
  | 0, h => exit h
  | k + 1, h => step k h (fun h1 => wp_loopD St Hp Inv step exit k h1)
theorem wp_dec1 (i : Nat) {x : Int32} (hdg : decode M.2.1 pc = .ok (.iinc i (-1), 3)) (hl : lv[i]? = some (.int x)) (hm : i < M.2.2.1) (hp : sm_pr lv i = true)
    (k : Wp M d mc ms (pc + 3) (lv.set i (.int (x - 1))) st h Q) : Wp M d mc ms pc lv st h Q := wp_iinc i (x - 1) hdg hl (by rw [show Int32.ofInt (-1) = -1 by decide, Int32.sub_eq_add_neg]) hm hp k
theorem wp_tswI {dflt lo hi : Int} {offs : Array Int} {len : Nat} {x : Int32} (j : Nat) {off : Int} (tgt : Nat) (hdg : decode M.2.1 pc = .ok (.tableswitch dflt lo hi offs, len)) (hx : x.toInt = lo + j) (hj : lo + j ≤ hi) (ho : offs[j]? = some off) (ht : (pc : Int) + off = (tgt : Int))
    (k : Wp M d mc ms tgt lv st h Q) : Wp M d mc ms pc lv (.int x :: st) h Q := by
  intro X p l e_ R s m args below meth c H locs cells slots QQ ls F hP hS hL hk
  exact lv_tableIn F.1 F.2.1 hdg (by omega) (by omega) (by rw [hx, show (lo + (j : Int) - lo).toNat = j by omega]; exact ho) ht (k X p l e_ R s m args below meth c H locs cells slots QQ ls F hP hS hL hk)
theorem wp_tswO {dflt lo hi : Int} {offs : Array Int} {len : Nat} {x : Int32} (tgt : Nat) (hdg : decode M.2.1 pc = .ok (.tableswitch dflt lo hi offs, len)) (hx : x.toInt < lo ∨ hi < x.toInt) (ht : (pc : Int) + dflt = (tgt : Int))
    (k : Wp M d mc ms tgt lv st h Q) : Wp M d mc ms pc lv (.int x :: st) h Q := by
  intro X p l e_ R s m args below meth c H locs cells slots QQ ls F hP hS hL hk
  exact lv_tableOut F.1 F.2.1 hdg hx ht (k X p l e_ R s m args below meth c H locs cells slots QQ ls F hP hS hL hk)
end SP
theorem i32_in {x : Int32} {n : Nat} (hn : n < 2 ^ 31) : (0 ≤ x ∧ x < nI n) ↔ ∃ j, j < n ∧ x = nI j := by
  constructor
  · rintro ⟨h1, h2⟩
    obtain ⟨j, hj, rfl⟩ := nI_of (x := x) (i32_nlt.mpr h1)
    exact ⟨j, (nI_ltI hj hn).mp h2, rfl⟩
  · rintro ⟨j, hj, rfl⟩
    exact ⟨nI_pos' (by omega), (nI_ltI (by omega) hn).mpr hj⟩
theorem i32_le {x : Int32} {n : Nat} (hn : n < 2 ^ 31) : (0 ≤ x ∧ x ≤ nI n) ↔ ∃ j, j ≤ n ∧ x = nI j := by
  constructor
  · rintro ⟨h1, h2⟩
    obtain ⟨j, hj, rfl⟩ := nI_of (x := x) (i32_nlt.mpr h1)
    exact ⟨j, (nI_leI hj hn).mp h2, rfl⟩
  · rintro ⟨j, hj, rfl⟩
    exact ⟨nI_pos' (by omega), (nI_leI (by omega) hn).mpr hj⟩
theorem i32_pred {x : Int32} {n : Nat} (hn : n < 2 ^ 31) : (0 ≤ x ∧ x ≤ nI n - 1) ↔ (0 ≤ x ∧ x < nI n) := by
  cases n with
  | zero =>
    constructor
    · rintro ⟨h1, h2⟩
      have e : (nI 0 - 1 : Int32) = -1 := by decide
      rw [e] at h2
      exact absurd (Int32.le_trans h1 h2) (by decide)
    · rintro ⟨h1, h2⟩
      rw [nI_0] at h2
      exact absurd h2 (i32_nlt.mpr h1)
  | succ n =>
    rw [nI_pred, i32_le (by omega), i32_in hn]
    constructor
    · rintro ⟨j, hj, e⟩; exact ⟨j, by omega, e⟩
    · rintro ⟨j, hj, e⟩; exact ⟨j, by omega, e⟩
theorem nI_lit (n : Nat) : (OfNat.ofNat n : Int32) = nI n := rfl
