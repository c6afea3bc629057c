/-! ===== changes of a tower's row ===== -/
def fu (f : rw_) (j v : Nat) : rw_ := fun x => if x = j then v else f x
theorem fu_eq (f : rw_) (j v : Nat) : fu f j v j = v := if_pos rfl
theorem fu_ne {f : rw_} {j v x : Nat} (h : x ≠ j) : fu f j v x = f x := if_neg h
theorem bnU_congr {f g : rw_} : ∀ {k : Nat}, (∀ i, i < k → f (5 * i + 3) = g (5 * i + 3)) → bnU f k = bnU g k
  | 0, _ => rfl
  | k + 1, h => by rw [bnU, bnU, bnU_congr (fun i hi => h i (by omega)), h k (by omega)]
theorem bn_congr {f g : rw_} (h : ∀ i, i < 10 → f (5 * i + 3) = g (5 * i + 3)) : bn f = bn g := bnU_congr h
section WFU
variable {f : rw_}
theorem WF_worth (h : WF f) {i v : Nat} (hi : i < 10) (hv : v ≤ 99) : WF (fu f (5 * i) v) := by
  obtain ⟨h1, h2, h3, h4, h5, h6, h7, h8, h9⟩ := h
  refine ⟨by rw [fu_ne (by omega)]; exact h1, by rw [fu_ne (by omega)]; exact h2, fun j hj => ?_, fun j hj hn => ?_, fun r hr => ?_, by rw [fu_ne (by omega)]; exact h6, by rw [fu_ne (by omega)]; exact h7, by rw [fu_ne (by omega)]; exact h8, by rw [fu_ne (by omega)]; exact h9⟩
  · have g := h3 j hj
    refine ⟨?_, ?_, ?_, ?_, ?_⟩ <;> simp only [fu] <;> split <;> omega
  · rw [fu_ne (by omega)] at hn
    have g := h4 j hj hn
    refine ⟨?_, ?_⟩ <;> simp only [fu] <;> split <;> omega
  · have g := h5 r hr
    refine ⟨?_, ?_, ?_⟩ <;> simp only [fu] <;> split <;> omega
theorem WF_rung (h : WF f) {i v : Nat} (hi : i < 10) (hv : v ≤ 3) : WF (fu f (5 * i + 1) v) := by
  obtain ⟨h1, h2, h3, h4, h5, h6, h7, h8, h9⟩ := h
  refine ⟨by rw [fu_ne (by omega)]; exact h1, by rw [fu_ne (by omega)]; exact h2, fun j hj => ?_, fun j hj hn => ?_, fun r hr => ?_, by rw [fu_ne (by omega)]; exact h6, by rw [fu_ne (by omega)]; exact h7, by rw [fu_ne (by omega)]; exact h8, by rw [fu_ne (by omega)]; exact h9⟩
  · have g := h3 j hj
    refine ⟨?_, ?_, ?_, ?_, ?_⟩ <;> simp only [fu] <;> split <;> omega
  · rw [fu_ne (by omega)] at hn
    have g := h4 j hj hn
    refine ⟨?_, ?_⟩ <;> simp only [fu] <;> split <;> omega
  · have g := h5 r hr
    refine ⟨?_, ?_, ?_⟩ <;> simp only [fu] <;> split <;> omega
theorem WF_age (h : WF f) {i v : Nat} (hi : i < 10) (hv : v ≤ 99) : WF (fu f (5 * i + 4) v) := by
  obtain ⟨h1, h2, h3, h4, h5, h6, h7, h8, h9⟩ := h
  refine ⟨by rw [fu_ne (by omega)]; exact h1, by rw [fu_ne (by omega)]; exact h2, fun j hj => ?_, fun j hj hn => ?_, fun r hr => ?_, by rw [fu_ne (by omega)]; exact h6, by rw [fu_ne (by omega)]; exact h7, by rw [fu_ne (by omega)]; exact h8, by rw [fu_ne (by omega)]; exact h9⟩
  · have g := h3 j hj
    refine ⟨?_, ?_, ?_, ?_, ?_⟩ <;> simp only [fu] <;> split <;> omega
  · rw [fu_ne (by omega)] at hn
    have g := h4 j hj hn
    refine ⟨?_, ?_⟩ <;> simp only [fu] <;> split <;> omega
  · have g := h5 r hr
    refine ⟨?_, ?_, ?_⟩ <;> simp only [fu] <;> split <;> omega
theorem WF_on (h : WF f) {i v : Nat} (hi : i < f 68) (hv : v < 2 ^ i) : WF (fu f (5 * i + 2) v) := by
  obtain ⟨h1, h2, h3, h4, h5, h6, h7, h8, h9⟩ := h
  refine ⟨by rw [fu_ne (by omega)]; exact h1, by rw [fu_ne (by omega)]; exact h2, fun j hj => ?_, fun j hj hn => ?_, fun r hr => ?_, by rw [fu_ne (by omega)]; exact h6, by rw [fu_ne (by omega)]; exact h7, by rw [fu_ne (by omega)]; exact h8, by rw [fu_ne (by omega)]; exact h9⟩
  · have g := h3 j hj
    refine ⟨?_, ?_, ?_, ?_, ?_⟩ <;> simp only [fu] <;> split <;> first | omega | skip
    rename_i e
    rw [show j = i by omega]
    exact hv
  · rw [fu_ne (by omega)] at hn
    have g := h4 j hj hn
    refine ⟨?_, ?_⟩ <;> simp only [fu] <;> split <;> omega
  · have g := h5 r hr
    refine ⟨?_, ?_, ?_⟩ <;> simp only [fu] <;> split <;> omega
theorem WF_been (h : WF f) {i v : Nat} (hi : i < f 68) (hv : v ≤ 1) : WF (fu f (5 * i + 3) v) := by
  obtain ⟨h1, h2, h3, h4, h5, h6, h7, h8, h9⟩ := h
  refine ⟨by rw [fu_ne (by omega)]; exact h1, by rw [fu_ne (by omega)]; exact h2, fun j hj => ?_, fun j hj hn => ?_, fun r hr => ?_, by rw [fu_ne (by omega)]; exact h6, by rw [fu_ne (by omega)]; exact h7, by rw [fu_ne (by omega)]; exact h8, by rw [fu_ne (by omega)]; exact h9⟩
  · have g := h3 j hj
    refine ⟨?_, ?_, ?_, ?_, ?_⟩ <;> simp only [fu] <;> split <;> omega
  · rw [fu_ne (by omega)] at hn
    have g := h4 j hj hn
    refine ⟨?_, ?_⟩ <;> simp only [fu] <;> split <;> omega
  · have g := h5 r hr
    refine ⟨?_, ?_, ?_⟩ <;> simp only [fu] <;> split <;> omega
theorem WF_far (h : WF f) {j v : Nat} (hj : 70 ≤ j) (hv : (j = 70 → v ≤ 3) ∧ (j = 71 → v ≤ 999) ∧ (j = 72 → v ≤ 255) ∧ (j = 73 → v < 2 ^ 32)) : WF (fu f j v) := by
  obtain ⟨h1, h2, h3, h4, h5, h6, h7, h8, h9⟩ := h
  refine ⟨by rw [fu_ne (by omega)]; exact h1, by rw [fu_ne (by omega)]; exact h2, fun i hi => ?_, fun i hi hn => ?_, fun r hr => ?_, ?_, ?_, ?_, ?_⟩
  · have g := h3 i hi
    refine ⟨?_, ?_, ?_, ?_, ?_⟩ <;> simp only [fu] <;> split <;> omega
  · rw [fu_ne (by omega)] at hn
    have g := h4 i hi hn
    refine ⟨?_, ?_⟩ <;> simp only [fu] <;> split <;> omega
  · have g := h5 r hr
    refine ⟨?_, ?_, ?_⟩ <;> simp only [fu] <;> split <;> omega
  all_goals (simp only [fu]; split <;> omega)
/-- a thing more -/
def addT (f : rw_) (w u : Nat) : rw_ := fu (fu (fu (fu (fu (fu f (5 * f 68) w) (5 * f 68 + 1) u) (5 * f 68 + 4) 0) (5 * f 68 + 2) 0) (5 * f 68 + 3) 1) 68 (f 68 + 1)
theorem addT_at (f : rw_) (w u x : Nat) : addT f w u x = if x = 68 then f 68 + 1 else if x = 5 * f 68 + 3 then 1 else if x = 5 * f 68 + 2 then 0 else if x = 5 * f 68 + 4 then 0 else if x = 5 * f 68 + 1 then u else if x = 5 * f 68 then w else f x := rfl
theorem WF_addT (h : WF f) {w u : Nat} (hn : f 68 < 10) (hw : w ≤ 99) (hu : u ≤ 3) : WF (addT f w u) := by
  obtain ⟨h1, h2, h3, h4, h5, h6, h7, h8, h9⟩ := h
  have h0 := Nat.two_pow_pos (f 68)
  refine ⟨?_, ?_, fun i hi => ?_, fun i hi hn => ?_, fun r hr => ?_, ?_, ?_, ?_, ?_⟩
  · rw [addT_at, if_pos rfl]; omega
  · simp only [addT_at]; (repeat' split) <;> omega
  · have g := h3 i hi
    have g0 := Nat.two_pow_pos i
    refine ⟨?_, ?_, ?_, ?_, ?_⟩ <;> simp only [addT_at] <;> (repeat' split) <;> omega
  · rw [addT_at f w u 68, if_pos rfl] at hn
    have g := h4 i hi (by omega)
    refine ⟨?_, ?_⟩ <;> simp only [addT_at] <;> (repeat' split) <;> omega
  · have g := h5 r hr
    refine ⟨?_, ?_, ?_⟩ <;> simp only [addT_at] <;> (repeat' split) <;> omega
  all_goals (simp only [addT_at]; (repeat' split) <;> omega)
/-- a ringer more -/
def addR (f : rw_) (kd a b : Nat) : rw_ := fu (fu (fu (fu f (50 + 3 * f 69) kd) (50 + 3 * f 69 + 1) a) (50 + 3 * f 69 + 2) b) 69 (f 69 + 1)
theorem addR_at (f : rw_) (kd a b x : Nat) : addR f kd a b x = if x = 69 then f 69 + 1 else if x = 50 + 3 * f 69 + 2 then b else if x = 50 + 3 * f 69 + 1 then a else if x = 50 + 3 * f 69 then kd else f x := rfl
theorem WF_addR (h : WF f) {kd a b : Nat} (hc : f 69 < 6) (hk : kd ≤ 5) (ha : a ≤ 9) (hb : b ≤ 7) : WF (addR f kd a b) := by
  obtain ⟨h1, h2, h3, h4, h5, h6, h7, h8, h9⟩ := h
  refine ⟨?_, ?_, fun i hi => ?_, fun i hi hn => ?_, fun r hr => ?_, ?_, ?_, ?_, ?_⟩
  · simp only [addR_at]; (repeat' split) <;> omega
  · rw [addR_at, if_pos rfl]; omega
  · have g := h3 i hi
    refine ⟨?_, ?_, ?_, ?_, ?_⟩ <;> simp only [addR_at] <;> (repeat' split) <;> omega
  · have e : addR f kd a b 68 = f 68 := by simp only [addR_at]; (repeat' split) <;> omega
    rw [e] at hn
    have g := h4 i hi hn
    refine ⟨?_, ?_⟩ <;> simp only [addR_at] <;> (repeat' split) <;> omega
  · have g := h5 r hr
    refine ⟨?_, ?_, ?_⟩ <;> simp only [addR_at] <;> (repeat' split) <;> omega
  all_goals (simp only [addR_at]; (repeat' split) <;> omega)
end WFU
theorem bnU_set {f : rw_} (h : ∀ i, i < 10 → f (5 * i + 3) ≤ 1) {i v : Nat} (hi : i < 10) : ∀ k j, k ≤ 10 → v ≤ 1 → (bnU (fu f (5 * i + 3) v) k).testBit j = if j = i then (decide (j < k) && decide (v = 1)) else (bnU f k).testBit j
  | 0, j, _, _ => by simp [bnU]
  | k + 1, j, hk, hv => by
    rw [bnU, bnU, Nat.testBit_or, Nat.testBit_or, bnU_set h hi k j (by omega) hv]
    have hb := h k (by omega)
    by_cases hki : k = i
    · subst hki
      rw [fu_eq]
      rcases (show v = 0 ∨ v = 1 by omega) with rfl | rfl
      · rw [Nat.zero_mul, Nat.zero_testBit, Bool.or_false]
        by_cases hj : j = k
        · subst hj; simp
        · rw [if_neg hj, if_neg hj]
          have : (f (5 * k + 3) * 2 ^ k).testBit j = false := by
            rcases (show f (5 * k + 3) = 0 ∨ f (5 * k + 3) = 1 by omega) with e | e
            · rw [e, Nat.zero_mul, Nat.zero_testBit]
            · rw [e, Nat.one_mul, bit_p2]; exact decide_eq_false (fun z => hj z.symm)
          rw [this, Bool.or_false]
      · rw [Nat.one_mul, bit_p2]
        by_cases hj : j = k
        · subst hj; simp
        · rw [if_neg hj, if_neg hj, decide_eq_false (show ¬ k = j from fun z => hj z.symm)]
          have : (f (5 * k + 3) * 2 ^ k).testBit j = false := by
            rcases (show f (5 * k + 3) = 0 ∨ f (5 * k + 3) = 1 by omega) with e | e
            · rw [e, Nat.zero_mul, Nat.zero_testBit]
            · rw [e, Nat.one_mul, bit_p2]; exact decide_eq_false (fun z => hj z.symm)
          rw [this]
    · rw [fu_ne (by omega)]
      by_cases hj : j = i
      · subst hj
        rw [if_pos rfl, if_pos rfl]
        have : (f (5 * k + 3) * 2 ^ k).testBit j = false := by
          rcases (show f (5 * k + 3) = 0 ∨ f (5 * k + 3) = 1 by omega) with e | e
          · rw [e, Nat.zero_mul, Nat.zero_testBit]
          · rw [e, Nat.one_mul, bit_p2]; exact decide_eq_false hki
        rw [this, Bool.or_false, show decide (j < k + 1) = decide (j < k) by rw [decide_eq_decide]; omega]
      · rw [if_neg hj, if_neg hj]
theorem bn_set {f : rw_} (h : ∀ i, i < 10 → f (5 * i + 3) ≤ 1) {i v : Nat} (hi : i < 10) (hv : v ≤ 1) (j : Nat) : (bn (fu f (5 * i + 3) v)).testBit j = if j = i then decide (v = 1) else (bn f).testBit j := by
  unfold bn
  rw [bnU_set h hi 10 j (Nat.le_refl _) hv]
  by_cases hj : j = i
  · rw [if_pos hj, if_pos hj, decide_eq_true (show j < 10 by omega), Bool.true_and]
  · rw [if_neg hj, if_neg hj]
theorem bn_on {f : rw_} (h : ∀ i, i < 10 → f (5 * i + 3) ≤ 1) {i : Nat} (hi : i < 10) : bn (fu f (5 * i + 3) 1) = bn f ||| 2 ^ i := bits_ext fun j => by
  rw [bn_set h hi (by decide), Nat.testBit_or, bit_p2]
  by_cases hj : j = i
  · subst hj; simp
  · rw [if_neg hj, decide_eq_false (show ¬ i = j from fun z => hj z.symm), Bool.or_false]
theorem bn_off {f : rw_} (h : ∀ i, i < 10 → f (5 * i + 3) ≤ 1) {i : Nat} (hi : i < 10) : bn (fu f (5 * i + 3) 0) = dif (bn f) (2 ^ i) := bits_ext fun j => by
  rw [bn_set h hi (by decide), dif_bit, bit_p2]
  by_cases hj : j = i
  · subst hj; simp
  · rw [if_neg hj, decide_eq_false (show ¬ i = j from fun z => hj z.symm), Bool.not_false, Bool.and_true]
/-- nothing outside the tower at t changes -/
def Fr (t : Nat) (F I F' I' : Nat → Nat → Int32) : Prop := ∀ a, (a < t ∨ t + 9 < a) → F' a = F a ∧ I' a = I a
theorem Fr.rf {t : Nat} {F I : Nat → Nat → Int32} : Fr t F I F I := fun _ _ => ⟨rfl, rfl⟩
theorem Fr.tr {t : Nat} {F I F1 I1 F2 I2 : Nat → Nat → Int32} (h : Fr t F I F1 I1) (h2 : Fr t F1 I1 F2 I2) : Fr t F I F2 I2 := fun a ha => ⟨(h2 a ha).1.trans (h a ha).1, (h2 a ha).2.trans (h a ha).2⟩
theorem Fr.F {t k j : Nat} {F I F' I' : Nat → Nat → Int32} {v : Int32} (h : Fr t F I F' I') (h1 : t ≤ k) (h2 : k ≤ t + 9) : Fr t F I (sm_up F' k j v) I' := fun a ha => ⟨(sm_up_ne (by omega)).trans (h a ha).1, (h a ha).2⟩
theorem Fr.I {t k j : Nat} {F I F' I' : Nat → Nat → Int32} {v : Int32} (h : Fr t F I F' I') (h1 : t ≤ k) (h2 : k ≤ t + 9) : Fr t F I F' (sm_up I' k j v) := fun a ha => ⟨(h a ha).1, (sm_up_ne (by omega)).trans (h a ha).2⟩
theorem up_eq {α : Type} {f : Nat → Nat → α} {k j : Nat} {v : α} : sm_up f k j v k j = v := if_pos ⟨rfl, rfl⟩
theorem up_nj {α : Type} {f : Nat → Nat → α} {k j i : Nat} {v : α} (h : i ≠ j) : sm_up f k j v k i = f k i := if_neg (fun z => h z.2)
theorem up_nk {α : Type} {f : Nat → Nat → α} {k j a i : Nat} {v : α} (h : a ≠ k) : sm_up f k j v a i = f a i := if_neg (fun z => h z.1)
section TWU
variable {t : Nat} {f : rw_} {F I : Nat → Nat → Int32}
theorem Tw.frame (h : Tw t f F I) {F' I' : Nat → Nat → Int32} (hF : ∀ a, a = t ∨ a = t + 5 → F' a = F a) (hI : ∀ a, t + 1 ≤ a → a ≤ t + 8 → I' a = I a) : Tw t f F' I' := by
  obtain ⟨h1, h2, h3, h4, h5, h6, h7, h8, h9⟩ := h
  rw [← hF t (Or.inl rfl)] at h1 h2 h3 h4 h5 h6
  rw [← hF (t + 5) (Or.inr rfl)] at h7
  refine ⟨h1, h2, h3, h4, h5, h6, h7, fun i hi => ?_, fun r hr => ?_⟩
  · rw [hI (t + 1) (by omega) (by omega), hI (t + 2) (by omega) (by omega), hI (t + 3) (by omega) (by omega), hI (t + 4) (by omega) (by omega)]
    exact h8 i hi
  · rw [hI (t + 6) (by omega) (by omega), hI (t + 7) (by omega) (by omega), hI (t + 8) (by omega) (by omega)]
    exact h9 r hr
theorem Tw.uI (h : Tw t f F I) {k i j v : Nat} (hk : (k = t + 1 ∧ j = 5 * i) ∨ (k = t + 2 ∧ j = 5 * i + 1) ∨ (k = t + 3 ∧ j = 5 * i + 4) ∨ (k = t + 4 ∧ j = 5 * i + 2)) (hi : i < 10) : Tw t (fu f j v) F (sm_up I k i (nI v)) := by
  obtain ⟨h1, h2, h3, h4, h5, h6, h7, h8, h9⟩ := h
  have hb : bn (fu f j v) = bn f := bn_congr fun a ha => fu_ne (by omega)
  refine ⟨by rw [fu_ne (by omega)]; exact h1, by rw [hb]; exact h2, by rw [fu_ne (by omega)]; exact h3, by rw [fu_ne (by omega)]; exact h4, by rw [fu_ne (by omega)]; exact h5, by rw [fu_ne (by omega)]; exact h6, by rw [fu_ne (by omega)]; exact h7, fun a ha => ?_, fun r hr => ?_⟩
  · obtain ⟨g1, g2, g3, g4⟩ := h8 a ha
    refine ⟨?_, ?_, ?_, ?_⟩ <;> simp only [sm_up, fu] <;> split <;> split <;> first | rfl | assumption | omega
  · obtain ⟨g1, g2, g3⟩ := h9 r hr
    refine ⟨?_, ?_, ?_⟩ <;> simp only [sm_up, fu] <;> split <;> split <;> first | rfl | assumption | omega
theorem Tw.uF (h : Tw t f F I) {j c v : Nat} (hj : (j = 6 ∧ c = 70) ∨ (j = 7 ∧ c = 71) ∨ (j = 8 ∧ c = 72) ∨ (j = 9 ∧ c = 73) ∨ (j = 0 ∧ c = 68)) : Tw t (fu f c v) (sm_up F t j (nI v)) I := by
  obtain ⟨h1, h2, h3, h4, h5, h6, h7, h8, h9⟩ := h
  have hb : bn (fu f c v) = bn f := bn_congr fun a ha => fu_ne (by omega)
  refine ⟨?_, ?_, ?_, ?_, ?_, ?_, ?_, fun a ha => ?_, fun r hr => ?_⟩
  · rcases hj with ⟨rfl, rfl⟩ | ⟨rfl, rfl⟩ | ⟨rfl, rfl⟩ | ⟨rfl, rfl⟩ | ⟨rfl, rfl⟩ <;> simp [sm_up, fu] <;> assumption
  · rw [hb, up_nj (by omega)]; exact h2
  · rcases hj with ⟨rfl, rfl⟩ | ⟨rfl, rfl⟩ | ⟨rfl, rfl⟩ | ⟨rfl, rfl⟩ | ⟨rfl, rfl⟩ <;> simp [sm_up, fu] <;> assumption
  · rcases hj with ⟨rfl, rfl⟩ | ⟨rfl, rfl⟩ | ⟨rfl, rfl⟩ | ⟨rfl, rfl⟩ | ⟨rfl, rfl⟩ <;> simp [sm_up, fu] <;> assumption
  · rcases hj with ⟨rfl, rfl⟩ | ⟨rfl, rfl⟩ | ⟨rfl, rfl⟩ | ⟨rfl, rfl⟩ | ⟨rfl, rfl⟩ <;> simp [sm_up, fu] <;> assumption
  · rcases hj with ⟨rfl, rfl⟩ | ⟨rfl, rfl⟩ | ⟨rfl, rfl⟩ | ⟨rfl, rfl⟩ | ⟨rfl, rfl⟩ <;> simp [sm_up, fu] <;> assumption
  · rcases hj with ⟨rfl, rfl⟩ | ⟨rfl, rfl⟩ | ⟨rfl, rfl⟩ | ⟨rfl, rfl⟩ | ⟨rfl, rfl⟩ <;> simp [sm_up, fu] <;> assumption
  · obtain ⟨g1, g2, g3, g4⟩ := h8 a ha
    refine ⟨?_, ?_, ?_, ?_⟩ <;> simp only [fu] <;> split <;> first | assumption | omega
  · obtain ⟨g1, g2, g3⟩ := h9 r hr
    refine ⟨?_, ?_, ?_⟩ <;> simp only [fu] <;> split <;> first | assumption | omega
theorem Tw.uB (h : Tw t f F I) {i v : Nat} (hi : i < 10) : Tw t (fu f (5 * i + 3) v) (sm_up F t 5 (nI (bn (fu f (5 * i + 3) v)))) I := by
  obtain ⟨h1, h2, h3, h4, h5, h6, h7, h8, h9⟩ := h
  refine ⟨?_, ?_, ?_, ?_, ?_, ?_, ?_, fun a ha => ?_, fun r hr => ?_⟩
  · rw [up_nj (by decide), fu_ne (by omega)]; exact h1
  · rw [up_eq]
  · rw [up_nj (by decide), fu_ne (by omega)]; exact h3
  · rw [up_nj (by decide), fu_ne (by omega)]; exact h4
  · rw [up_nj (by decide), fu_ne (by omega)]; exact h5
  · rw [up_nj (by decide), fu_ne (by omega)]; exact h6
  · rw [up_nk (by omega), fu_ne (by omega)]; exact h7
  · obtain ⟨g1, g2, g3, g4⟩ := h8 a ha
    refine ⟨?_, ?_, ?_, ?_⟩ <;> simp only [fu] <;> split <;> first | assumption | omega
  · obtain ⟨g1, g2, g3⟩ := h9 r hr
    refine ⟨?_, ?_, ?_⟩ <;> simp only [fu] <;> split <;> first | assumption | omega
theorem Tw.uR (h : Tw t f F I) {k r j v : Nat} (hk : (k = t + 6 ∧ j = 50 + 3 * r) ∨ (k = t + 7 ∧ j = 50 + 3 * r + 1) ∨ (k = t + 8 ∧ j = 50 + 3 * r + 2)) (hr : r < 6) : Tw t (fu f j v) F (sm_up I k r (nI v)) := by
  obtain ⟨h1, h2, h3, h4, h5, h6, h7, h8, h9⟩ := h
  have hb : bn (fu f j v) = bn f := bn_congr fun a ha => fu_ne (by omega)
  refine ⟨by rw [fu_ne (by omega)]; exact h1, by rw [hb]; exact h2, by rw [fu_ne (by omega)]; exact h3, by rw [fu_ne (by omega)]; exact h4, by rw [fu_ne (by omega)]; exact h5, by rw [fu_ne (by omega)]; exact h6, by rw [fu_ne (by omega)]; exact h7, fun a ha => ?_, fun r' hr' => ?_⟩
  · obtain ⟨g1, g2, g3, g4⟩ := h8 a ha
    refine ⟨?_, ?_, ?_, ?_⟩ <;> simp only [sm_up, fu] <;> split <;> split <;> first | rfl | assumption | omega
  · obtain ⟨g1, g2, g3⟩ := h9 r' hr'
    refine ⟨?_, ?_, ?_⟩ <;> simp only [sm_up, fu] <;> split <;> split <;> first | rfl | assumption | omega
theorem Tw.uC (h : Tw t f F I) {v : Nat} : Tw t (fu f 69 v) (sm_up F (t + 5) 0 (nI v)) I := by
  obtain ⟨h1, h2, h3, h4, h5, h6, h7, h8, h9⟩ := h
  have hb : bn (fu f 69 v) = bn f := bn_congr fun a ha => fu_ne (by omega)
  refine ⟨?_, ?_, ?_, ?_, ?_, ?_, ?_, fun a ha => ?_, fun r hr => ?_⟩
  · rw [up_nk (by omega), fu_ne (by omega)]; exact h1
  · rw [up_nk (by omega), hb]; exact h2
  · rw [up_nk (by omega), fu_ne (by omega)]; exact h3
  · rw [up_nk (by omega), fu_ne (by omega)]; exact h4
  · rw [up_nk (by omega), fu_ne (by omega)]; exact h5
  · rw [up_nk (by omega), fu_ne (by omega)]; exact h6
  · rw [up_eq, fu_eq]
  · obtain ⟨g1, g2, g3, g4⟩ := h8 a ha
    refine ⟨?_, ?_, ?_, ?_⟩ <;> simp only [fu] <;> split <;> first | assumption | omega
  · obtain ⟨g1, g2, g3⟩ := h9 r hr
    refine ⟨?_, ?_, ?_⟩ <;> simp only [fu] <;> split <;> first | assumption | omega
end TWU
