/-! ===== what a tower is: a row of whole numbers, by places (five of a THING, three of a RINGER, the rest) ===== -/
abbrev rw_ : Type := Nat → Nat
/-- what keeps within its bounds -/
def WF (f : rw_) : Prop := f 68 ≤ 10 ∧ f 69 ≤ 6 ∧ (∀ i, i < 10 → f (5 * i) ≤ 99 ∧ f (5 * i + 1) ≤ 3 ∧ f (5 * i + 2) < 2 ^ i ∧ f (5 * i + 3) ≤ 1 ∧ f (5 * i + 4) ≤ 99) ∧
  (∀ i, i < 10 → f 68 ≤ i → f (5 * i + 2) = 0 ∧ f (5 * i + 3) = 0) ∧ (∀ r, r < 6 → f (50 + 3 * r) ≤ 5 ∧ f (50 + 3 * r + 1) ≤ 9 ∧ f (50 + 3 * r + 2) ≤ 7) ∧ f 70 ≤ 3 ∧ f 71 ≤ 999 ∧ f 72 ≤ 255 ∧ f 73 < 2 ^ 32
/-- those that have been, of the first k -/
def bnU (f : rw_) : Nat → Nat
  | 0 => 0
  | i + 1 => bnU f i ||| f (5 * i + 3) * 2 ^ i
def bn (f : rw_) : Nat := bnU f 10
/-- what stands of the first k, if just those of b had been -/
def stU (f : rw_) (b : Nat) : Nat → Nat
  | 0 => 0
  | i + 1 => if b.testBit i = true ∧ dif (f (5 * i + 2)) (stU f b i) = 0 then stU f b i ||| 2 ^ i else stU f b i
def sta (f : rw_) (b : Nat) : Nat := stU f b 10
def vlU (f : rw_) (s : Nat) : Nat → Nat
  | 0 => 0
  | i + 1 => vlU f s i + (s.testBit i).toNat * f (5 * i)
def val (f : rw_) (b : Nat) : Nat := vlU f (sta f b) 10
theorem WF.n {f : rw_} (h : WF f) : f 68 ≤ 10 := h.1
theorem WF.c {f : rw_} (h : WF f) : f 69 ≤ 6 := h.2.1
theorem WF.worth {f : rw_} (h : WF f) {i : Nat} (hi : i < 10) : f (5 * i) ≤ 99 := (h.2.2.1 i hi).1
theorem WF.rung {f : rw_} (h : WF f) {i : Nat} (hi : i < 10) : f (5 * i + 1) ≤ 3 := (h.2.2.1 i hi).2.1
theorem WF.on {f : rw_} (h : WF f) {i : Nat} (hi : i < 10) : f (5 * i + 2) < 2 ^ i := (h.2.2.1 i hi).2.2.1
theorem WF.been {f : rw_} (h : WF f) {i : Nat} (hi : i < 10) : f (5 * i + 3) ≤ 1 := (h.2.2.1 i hi).2.2.2.1
theorem WF.age {f : rw_} (h : WF f) {i : Nat} (hi : i < 10) : f (5 * i + 4) ≤ 99 := (h.2.2.1 i hi).2.2.2.2
theorem WF.on_out {f : rw_} (h : WF f) {i : Nat} (hi : i < 10) (hn : f 68 ≤ i) : f (5 * i + 2) = 0 := (h.2.2.2.1 i hi hn).1
theorem WF.been_out {f : rw_} (h : WF f) {i : Nat} (hi : i < 10) (hn : f 68 ≤ i) : f (5 * i + 3) = 0 := (h.2.2.2.1 i hi hn).2
theorem WF.kind {f : rw_} (h : WF f) {r : Nat} (hr : r < 6) : f (50 + 3 * r) ≤ 5 := (h.2.2.2.2.1 r hr).1
theorem WF.a {f : rw_} (h : WF f) {r : Nat} (hr : r < 6) : f (50 + 3 * r + 1) ≤ 9 := (h.2.2.2.2.1 r hr).2.1
theorem WF.bell {f : rw_} (h : WF f) {r : Nat} (hr : r < 6) : f (50 + 3 * r + 2) ≤ 7 := (h.2.2.2.2.1 r hr).2.2
theorem WF.wth {f : rw_} (h : WF f) : f 70 ≤ 3 := h.2.2.2.2.2.1
theorem WF.year {f : rw_} (h : WF f) : f 71 ≤ 999 := h.2.2.2.2.2.2.1
theorem WF.crk {f : rw_} (h : WF f) : f 72 ≤ 255 := h.2.2.2.2.2.2.2.1
theorem WF.seed {f : rw_} (h : WF f) : f 73 < 2 ^ 32 := h.2.2.2.2.2.2.2.2
theorem WF.on10 {f : rw_} (h : WF f) {i : Nat} (hi : i < 10) : f (5 * i + 2) < 1024 := Nat.lt_of_lt_of_le (h.on hi) (Nat.le_trans (Nat.le_of_lt (p2_lt hi)) (by decide))
theorem bnU_bit {f : rw_} (h : WF f) : ∀ {k : Nat}, k ≤ 10 → ∀ j, (bnU f k).testBit j = (decide (j < k) && decide (f (5 * j + 3) = 1))
  | 0, _, j => by simp [bnU]
  | k + 1, hk, j => by
    rw [bnU, Nat.testBit_or, bnU_bit h (by omega) j]
    have hb := h.been (i := k) (by omega)
    rcases (show f (5 * k + 3) = 0 ∨ f (5 * k + 3) = 1 by omega) with e | e
    · rw [e, Nat.zero_mul, Nat.zero_testBit, Bool.or_false]
      by_cases hj : j = k
      · subst hj
        simp [e]
      · rw [show decide (j < k + 1) = decide (j < k) by rw [decide_eq_decide]; omega]
    · rw [e, Nat.one_mul, bit_p2]
      by_cases hj : k = j
      · subst hj
        simp [e]
      · rw [show decide (k = j) = false by simpa using hj, Bool.or_false, show decide (j < k + 1) = decide (j < k) by rw [decide_eq_decide]; omega]
theorem bn_bit {f : rw_} (h : WF f) (j : Nat) : (bn f).testBit j = (decide (j < f 68) && decide (f (5 * j + 3) = 1)) := by
  unfold bn
  rw [bnU_bit h (by decide) j]
  by_cases hj : j < f 68
  · have := h.n
    rw [decide_eq_true hj, decide_eq_true (show j < 10 by omega)]
  · by_cases h10 : j < 10
    · rw [h.been_out h10 (by omega)]
      simp
    · rw [decide_eq_false hj, decide_eq_false h10]
theorem bnU_n {f : rw_} (h : WF f) : bnU f (f 68) = bn f := bits_ext fun j => by rw [bnU_bit h h.n, bn_bit h]
theorem bn_lt {f : rw_} (h : WF f) : bn f < 2 ^ f 68 := lt_of_bits fun i hi => by rw [bn_bit h, decide_eq_false (by omega), Bool.false_and]
theorem p2n {f : rw_} (h : WF f) : 2 ^ f 68 ≤ 1024 := show 2 ^ f 68 ≤ 2 ^ 10 from Nat.pow_le_pow_right (by decide) h.n
theorem p2c {f : rw_} (h : WF f) : 2 ^ f 69 ≤ 64 := show 2 ^ f 69 ≤ 2 ^ 6 from Nat.pow_le_pow_right (by decide) h.c
theorem bn_1024 {f : rw_} (h : WF f) : bn f < 1024 := Nat.lt_of_lt_of_le (bn_lt h) (p2n h)
theorem bnU_1024 {f : rw_} (h : WF f) {k : Nat} (hk : k ≤ 10) : bnU f k < 1024 := lt_of_bits (n := 10) fun i hi => by rw [bnU_bit h hk, decide_eq_false (by omega), Bool.false_and]
theorem stU_lt (f : rw_) (b : Nat) : ∀ k, stU f b k < 2 ^ k
  | 0 => by simp [stU]
  | k + 1 => by
    have h := stU_lt f b k
    have h2 : stU f b k < 2 ^ (k + 1) := Nat.lt_trans h (p2_lt (Nat.lt_succ_self k))
    rw [stU]
    split
    · exact or_lt h2 (p2_lt (Nat.lt_succ_self k))
    · exact h2
theorem stU_1024 (f : rw_) (b : Nat) {k : Nat} (hk : k ≤ 10) : stU f b k < 1024 := Nat.lt_of_lt_of_le (stU_lt f b k) (show 2 ^ k ≤ 2 ^ 10 from Nat.pow_le_pow_right (by decide) hk)
theorem sta_1024 (f : rw_) (b : Nat) : sta f b < 1024 := stU_1024 f b (Nat.le_refl _)
/-- no bits from k on: nothing more comes -/
theorem stU_end (f : rw_) {b k : Nat} (hb : b < 2 ^ k) : ∀ n, stU f b (k + n) = stU f b k
  | 0 => rfl
  | n + 1 => by
    rw [← Nat.add_assoc, stU, bit_ge hb (Nat.le_add_right k n), if_neg (by simp)]
    exact stU_end f hb n
theorem sta_of {f : rw_} {b k : Nat} (hb : b < 2 ^ k) (hk : k ≤ 10) : sta f b = stU f b k := by
  have := stU_end f hb (10 - k)
  rw [show k + (10 - k) = 10 by omega] at this
  exact this
theorem stU_bit (f : rw_) (b : Nat) : ∀ k j, (stU f b k).testBit j = true → b.testBit j = true ∧ j < k
  | 0, j, h => by simp [stU] at h
  | k + 1, j, h => by
    rw [stU] at h
    split at h
    · rename_i c
      rw [Nat.testBit_or, bit_p2, Bool.or_eq_true] at h
      rcases h with h | h
      · have := stU_bit f b k j h
        exact ⟨this.1, by omega⟩
      · have e := of_decide_eq_true h
        subst e
        exact ⟨c.1, by omega⟩
    · have := stU_bit f b k j h
      exact ⟨this.1, by omega⟩
theorem sta_sub (f : rw_) (b j : Nat) (h : (sta f b).testBit j = true) : b.testBit j = true := (stU_bit f b 10 j h).1
theorem sta_lt (f : rw_) {b k : Nat} (hb : b < 2 ^ k) : sta f b < 2 ^ k := lt_of_bits fun i hi => by
  cases h : (sta f b).testBit i
  · rfl
  · have := sta_sub f b i h
    rw [bit_ge hb hi] at this
    cases this
theorem vlU_le {f : rw_} (h : WF f) (s : Nat) : ∀ k, k ≤ 10 → vlU f s k ≤ 99 * k
  | 0, _ => by simp [vlU]
  | k + 1, hk => by
    have h1 := vlU_le h s k (by omega)
    have h2 := h.worth (i := k) (by omega)
    have h3 : (s.testBit k).toNat * f (5 * k) ≤ 99 := by
      cases s.testBit k <;> simp <;> omega
    rw [vlU]
    omega
theorem val_le {f : rw_} (h : WF f) (b : Nat) : val f b ≤ 990 := vlU_le h _ 10 (Nat.le_refl _)
theorem vlU_end (f : rw_) {s k : Nat} (hs : s < 2 ^ k) : ∀ n, vlU f s (k + n) = vlU f s k
  | 0 => rfl
  | n + 1 => by
    rw [← Nat.add_assoc, vlU, bit_ge hs (Nat.le_add_right k n)]
    simp [vlU_end f hs n]
theorem vlU_of (f : rw_) {s k : Nat} (hs : s < 2 ^ k) (hk : k ≤ 10) : vlU f s 10 = vlU f s k := by
  have := vlU_end f hs (10 - k)
  rw [show k + (10 - k) = 10 by omega] at this
  exact this
/-- the developers' tower at cell t -/
def Tw (t : Nat) (f : rw_) (F I : Nat → Nat → Int32) : Prop := F t 0 = nI (f 68) ∧ F t 5 = nI (bn f) ∧ F t 6 = nI (f 70) ∧ F t 7 = nI (f 71) ∧ F t 8 = nI (f 72) ∧ F t 9 = nI (f 73) ∧ F (t + 5) 0 = nI (f 69) ∧
  (∀ i, i < 10 → I (t + 1) i = nI (f (5 * i)) ∧ I (t + 2) i = nI (f (5 * i + 1)) ∧ I (t + 3) i = nI (f (5 * i + 4)) ∧ I (t + 4) i = nI (f (5 * i + 2))) ∧
  (∀ r, r < 6 → I (t + 6) r = nI (f (50 + 3 * r)) ∧ I (t + 7) r = nI (f (50 + 3 * r + 1)) ∧ I (t + 8) r = nI (f (50 + 3 * r + 2)))
section TWP
variable {t : Nat} {f : rw_} {F I : Nat → Nat → Int32}
theorem Tw.n (h : Tw t f F I) : F t 0 = nI (f 68) := h.1
theorem Tw.been (h : Tw t f F I) : F t 5 = nI (bn f) := h.2.1
theorem Tw.wth (h : Tw t f F I) : F t 6 = nI (f 70) := h.2.2.1
theorem Tw.year (h : Tw t f F I) : F t 7 = nI (f 71) := h.2.2.2.1
theorem Tw.crk (h : Tw t f F I) : F t 8 = nI (f 72) := h.2.2.2.2.1
theorem Tw.seed (h : Tw t f F I) : F t 9 = nI (f 73) := h.2.2.2.2.2.1
theorem Tw.crew (h : Tw t f F I) : F (t + 5) 0 = nI (f 69) := h.2.2.2.2.2.2.1
theorem Tw.worth (h : Tw t f F I) {i : Nat} (hi : i < 10) : I (t + 1) i = nI (f (5 * i)) := (h.2.2.2.2.2.2.2.1 i hi).1
theorem Tw.rung (h : Tw t f F I) {i : Nat} (hi : i < 10) : I (t + 2) i = nI (f (5 * i + 1)) := (h.2.2.2.2.2.2.2.1 i hi).2.1
theorem Tw.age (h : Tw t f F I) {i : Nat} (hi : i < 10) : I (t + 3) i = nI (f (5 * i + 4)) := (h.2.2.2.2.2.2.2.1 i hi).2.2.1
theorem Tw.on (h : Tw t f F I) {i : Nat} (hi : i < 10) : I (t + 4) i = nI (f (5 * i + 2)) := (h.2.2.2.2.2.2.2.1 i hi).2.2.2
theorem Tw.kind (h : Tw t f F I) {r : Nat} (hr : r < 6) : I (t + 6) r = nI (f (50 + 3 * r)) := (h.2.2.2.2.2.2.2.2 r hr).1
theorem Tw.a (h : Tw t f F I) {r : Nat} (hr : r < 6) : I (t + 7) r = nI (f (50 + 3 * r + 1)) := (h.2.2.2.2.2.2.2.2 r hr).2.1
theorem Tw.bell (h : Tw t f F I) {r : Nat} (hr : r < 6) : I (t + 8) r = nI (f (50 + 3 * r + 2)) := (h.2.2.2.2.2.2.2.2 r hr).2.2
end TWP
/-- the reference's row in cell k -/
def Rw (k : Nat) (f : rw_) (I : Nat → Nat → Int32) : Prop := ∀ j, j < 74 → I k j = nI (f j)
section INC
variable {M : sm_M} {d mc ms pc : Nat} {lv st : List Value} {h : sm_H} {Q : Option Value → sm_H → Prop}
theorem wp_incN (i : Nat) {n : Nat} (hdg : decode M.2.1 pc = .ok (.iinc i 1, 3)) (hl : lv[i]? = some (.int (nI n))) (hm : i < M.2.2.1) (hp : sm_pr lv i = true)
    (k : Wp M d mc ms (pc + 3) (lv.set i (.int (nI (n + 1)))) st h Q) : Wp M d mc ms pc lv st h Q := wp_iinc i (nI (n + 1)) hdg hl (by rw [show Int32.ofInt 1 = 1 by decide, nI_1]) hm hp k
theorem wp_decN (i : Nat) {n : Nat} (hdg : decode M.2.1 pc = .ok (.iinc i (-1), 3)) (hl : lv[i]? = some (.int (nI (n + 1)))) (hm : i < M.2.2.1) (hp : sm_pr lv i = true)
    (k : Wp M d mc ms (pc + 3) (lv.set i (.int (nI n))) st h Q) : Wp M d mc ms pc lv st h Q := wp_iinc i (nI n) hdg hl (by rw [show Int32.ofInt (-1) = -1 by decide, pk_m1]) hm hp k
end INC
