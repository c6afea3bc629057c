/-! ===== the smallest methods ===== -/
theorem c_J9_max_7cf53 {d : Nat} {h : sm_H} {Q : Option Value → sm_H → Prop} {x y : Int32} (k : Q (some (.int (if x < y then y else x))) h) : Wp mJ9_max_7cf53 (d) 0 0 0 (sm_ini [.int x, .int y] 2) [] h Q := by
  show Wp _ _ _ _ _ [.int x, .int y] _ _ _
  refine wp_iload_n (pc := 0) 0 dJ9_max_7cf53_0 rfl rfl ?_
  refine wp_iload_n (pc := 1) 1 dJ9_max_7cf53_1 rfl rfl ?_
  refine wp_icmp_lt (pc := 2) 9 dJ9_max_7cf53_2 (by decide) (fun c_2 => ?_) (fun c_2 => ?_)
  · refine wp_iload_n (pc := 9) 1 dJ9_max_7cf53_9 rfl rfl ?_
    refine wp_iretI (pc := 10) dJ9_max_7cf53_10 rfl ?_
    rw [if_pos c_2] at k; exact k
  · refine wp_iload_n (pc := 5) 0 dJ9_max_7cf53_5 rfl rfl ?_
    refine wp_goto (pc := 6) 10 dJ9_max_7cf53_6 (by decide) ?_
    refine wp_iretI (pc := 10) dJ9_max_7cf53_10 rfl ?_
    rw [if_neg c_2] at k; exact k
theorem c_J9_min_7cf53 {d : Nat} {h : sm_H} {Q : Option Value → sm_H → Prop} {x y : Int32} (k : Q (some (.int (if y < x then y else x))) h) : Wp mJ9_min_7cf53 (d) 0 0 0 (sm_ini [.int x, .int y] 2) [] h Q := by
  show Wp _ _ _ _ _ [.int x, .int y] _ _ _
  refine wp_iload_n (pc := 0) 0 dJ9_min_7cf53_0 rfl rfl ?_
  refine wp_iload_n (pc := 1) 1 dJ9_min_7cf53_1 rfl rfl ?_
  refine wp_icmp_gt (pc := 2) 9 dJ9_min_7cf53_2 (by decide) (fun c_2 => ?_) (fun c_2 => ?_)
  · refine wp_iload_n (pc := 9) 1 dJ9_min_7cf53_9 rfl rfl ?_
    refine wp_iretI (pc := 10) dJ9_min_7cf53_10 rfl ?_
    rw [if_pos c_2] at k; exact k
  · refine wp_iload_n (pc := 5) 0 dJ9_min_7cf53_5 rfl rfl ?_
    refine wp_goto (pc := 6) 10 dJ9_min_7cf53_6 (by decide) ?_
    refine wp_iretI (pc := 10) dJ9_min_7cf53_10 rfl ?_
    rw [if_neg c_2] at k; exact k
theorem c_J9_floorMod_7cf53 {d : Nat} {h : sm_H} {Q : Option Value → sm_H → Prop} {x y : Int32} (hy : ¬ y = 0) (k : Q (some (.int (if 0 ≤ x ^^^ y ∨ x - x / y * y = 0 then x - x / y * y else x - x / y * y + y))) h) : Wp mJ9_floorMod_7cf53 (d) 0 0 0 (sm_ini [.int x, .int y] 3) [] h Q := by
  show Wp _ _ _ _ _ [.int x, .int y, .null] _ _ _
  refine wp_iload_n (pc := 0) 0 dJ9_floorMod_7cf53_0 rfl rfl ?_
  refine wp_iload_n (pc := 1) 1 dJ9_floorMod_7cf53_1 rfl rfl ?_
  refine wp_irem (pc := 2) dJ9_floorMod_7cf53_2 hy ?_
  refine wp_istore_n (pc := 3) 2 dJ9_floorMod_7cf53_3 rfl (by decide) rfl ?_
  refine wp_iload_n (pc := 4) 0 dJ9_floorMod_7cf53_4 rfl rfl ?_
  refine wp_iload_n (pc := 5) 1 dJ9_floorMod_7cf53_5 rfl rfl ?_
  refine wp_ixor (pc := 6) dJ9_floorMod_7cf53_6 ?_
  refine wp_ifge (pc := 7) 18 dJ9_floorMod_7cf53_7 (by decide) (fun c_7 => ?_) (fun c_7 => ?_)
  · refine wp_iload_n (pc := 18) 2 dJ9_floorMod_7cf53_18 rfl rfl ?_
    refine wp_iretI (pc := 19) dJ9_floorMod_7cf53_19 rfl ?_
    rw [if_pos (Or.inl c_7)] at k; exact k
  · refine wp_iload_n (pc := 10) 2 dJ9_floorMod_7cf53_10 rfl rfl ?_
    refine wp_ifeq (pc := 11) 18 dJ9_floorMod_7cf53_11 (by decide) (fun c_11 => ?_) (fun c_11 => ?_)
    · refine wp_iload_n (pc := 18) 2 dJ9_floorMod_7cf53_18 rfl rfl ?_
      refine wp_iretI (pc := 19) dJ9_floorMod_7cf53_19 rfl ?_
      rw [if_pos (Or.inr c_11)] at k; exact k
    · refine wp_iload_n (pc := 14) 2 dJ9_floorMod_7cf53_14 rfl rfl ?_
      refine wp_iload_n (pc := 15) 1 dJ9_floorMod_7cf53_15 rfl rfl ?_
      refine wp_iadd (pc := 16) dJ9_floorMod_7cf53_16 ?_
      refine wp_iretI (pc := 17) dJ9_floorMod_7cf53_17 rfl ?_
      rw [if_neg (by simp only [not_or]; exact ⟨c_7, c_11⟩)] at k; exact k
theorem c_J6_bitCount_0f7a4 {d : Nat} {h : sm_H} {Q : Option Value → sm_H → Prop} {x : Int32} (k : Q (some (.int (bcI x))) h) : Wp mJ6_bitCount_0f7a4 (d) 0 0 0 (sm_ini [.int x] 1) [] h Q := by
  show Wp _ _ _ _ _ [.int x] _ _ _
  refine wp_iload_n (pc := 0) 0 dJ6_bitCount_0f7a4_0 rfl rfl ?_
  refine wp_iload_n (pc := 1) 0 dJ6_bitCount_0f7a4_1 rfl rfl ?_
  refine wp_iconst (pc := 2) (1) dJ6_bitCount_0f7a4_2 (by decide) ?_
  refine wp_iushr (pc := 3) dJ6_bitCount_0f7a4_3 ?_
  refine wp_ldc_w (pc := 4) _ dJ6_bitCount_0f7a4_4 koJ6_265 ?_
  refine wp_iand (pc := 7) dJ6_bitCount_0f7a4_7 ?_
  refine wp_isub (pc := 8) dJ6_bitCount_0f7a4_8 ?_
  refine wp_istore_n (pc := 9) 0 dJ6_bitCount_0f7a4_9 rfl (by decide) rfl ?_
  refine wp_iload_n (pc := 10) 0 dJ6_bitCount_0f7a4_10 rfl rfl ?_
  refine wp_ldc_w (pc := 11) _ dJ6_bitCount_0f7a4_11 koJ6_266 ?_
  refine wp_iand (pc := 14) dJ6_bitCount_0f7a4_14 ?_
  refine wp_iload_n (pc := 15) 0 dJ6_bitCount_0f7a4_15 rfl rfl ?_
  refine wp_iconst (pc := 16) (2) dJ6_bitCount_0f7a4_16 (by decide) ?_
  refine wp_iushr (pc := 17) dJ6_bitCount_0f7a4_17 ?_
  refine wp_ldc_w (pc := 18) _ dJ6_bitCount_0f7a4_18 koJ6_266 ?_
  refine wp_iand (pc := 21) dJ6_bitCount_0f7a4_21 ?_
  refine wp_iadd (pc := 22) dJ6_bitCount_0f7a4_22 ?_
  refine wp_istore_n (pc := 23) 0 dJ6_bitCount_0f7a4_23 rfl (by decide) rfl ?_
  refine wp_iload_n (pc := 24) 0 dJ6_bitCount_0f7a4_24 rfl rfl ?_
  refine wp_iload_n (pc := 25) 0 dJ6_bitCount_0f7a4_25 rfl rfl ?_
  refine wp_iconst (pc := 26) (4) dJ6_bitCount_0f7a4_26 (by decide) ?_
  refine wp_iushr (pc := 27) dJ6_bitCount_0f7a4_27 ?_
  refine wp_iadd (pc := 28) dJ6_bitCount_0f7a4_28 ?_
  refine wp_ldc_w (pc := 29) _ dJ6_bitCount_0f7a4_29 koJ6_267 ?_
  refine wp_iand (pc := 32) dJ6_bitCount_0f7a4_32 ?_
  refine wp_istore_n (pc := 33) 0 dJ6_bitCount_0f7a4_33 rfl (by decide) rfl ?_
  refine wp_iload_n (pc := 34) 0 dJ6_bitCount_0f7a4_34 rfl rfl ?_
  refine wp_iload_n (pc := 35) 0 dJ6_bitCount_0f7a4_35 rfl rfl ?_
  refine wp_bipush (pc := 36) (8) dJ6_bitCount_0f7a4_36 (by decide) ?_
  refine wp_iushr (pc := 38) dJ6_bitCount_0f7a4_38 ?_
  refine wp_iadd (pc := 39) dJ6_bitCount_0f7a4_39 ?_
  refine wp_istore_n (pc := 40) 0 dJ6_bitCount_0f7a4_40 rfl (by decide) rfl ?_
  refine wp_iload_n (pc := 41) 0 dJ6_bitCount_0f7a4_41 rfl rfl ?_
  refine wp_iload_n (pc := 42) 0 dJ6_bitCount_0f7a4_42 rfl rfl ?_
  refine wp_bipush (pc := 43) (16) dJ6_bitCount_0f7a4_43 (by decide) ?_
  refine wp_iushr (pc := 45) dJ6_bitCount_0f7a4_45 ?_
  refine wp_iadd (pc := 46) dJ6_bitCount_0f7a4_46 ?_
  refine wp_istore_n (pc := 47) 0 dJ6_bitCount_0f7a4_47 rfl (by decide) rfl ?_
  refine wp_iload_n (pc := 48) 0 dJ6_bitCount_0f7a4_48 rfl rfl ?_
  refine wp_bipush (pc := 49) (63) dJ6_bitCount_0f7a4_49 (by decide) ?_
  refine wp_iand (pc := 51) dJ6_bitCount_0f7a4_51 ?_
  refine wp_iretI (pc := 52) dJ6_bitCount_0f7a4_52 rfl ?_
  exact k
theorem c_X6_isIn {d : Nat} {h : sm_H} {Q : Option Value → sm_H → Prop} {v i : Nat} (hv : v < 2 ^ 31) (hi : i < 32) (k : Q (some (.int (b2 (v.testBit i)))) h) : Wp mX6_isIn (d) 0 0 0 (sm_ini [.int (nI v), .int (nI i)] 2) [] h Q := by
  show Wp _ _ _ _ _ [.int (nI v), .int (nI i)] _ _ _
  refine wp_iload_n (pc := 0) 0 dX6_isIn_0 rfl rfl ?_
  refine wp_iload_n (pc := 1) 1 dX6_isIn_1 rfl rfl ?_
  refine wp_ishr (pc := 2) dX6_isIn_2 ?_
  refine wp_iconst (pc := 3) (1) dX6_isIn_3 (by decide) ?_
  refine wp_iand (pc := 4) dX6_isIn_4 ?_
  refine wp_iconst (pc := 5) (1) dX6_isIn_5 (by decide) ?_
  refine wp_int2 (bt_bit hv hi) ?_
  refine wp_icmp_ne (pc := 6) 13 dX6_isIn_6 (by decide) (fun c_6 => ?_) (fun c_6 => ?_)
  · refine wp_iconst (pc := 13) (0) dX6_isIn_13 (by decide) ?_
    refine wp_iret (pc := 14) dX6_isIn_14 ⟨_, rfl, by decide⟩ ?_
    rw [show v.testBit i = false by cases hb : v.testBit i; rfl; exact absurd (by rw [hb]; rfl) c_6] at k; exact k
  · refine wp_iconst (pc := 9) (1) dX6_isIn_9 (by decide) ?_
    refine wp_goto (pc := 10) 14 dX6_isIn_10 (by decide) ?_
    refine wp_iret (pc := 14) dX6_isIn_14 ⟨_, rfl, by decide⟩ ?_
    rw [b2_1.mp c_6] at k; exact k
theorem c_X6_bitOf {d : Nat} {h : sm_H} {Q : Option Value → sm_H → Prop} {v i : Nat} (hv : v < 2 ^ 31) (hi : i < 32) (k : Q (some (.int (b2 (v.testBit i)))) h) : Wp mX6_bitOf (d) 0 0 0 (sm_ini [.int (nI v), .int (nI i)] 2) [] h Q := by
  show Wp _ _ _ _ _ [.int (nI v), .int (nI i)] _ _ _
  refine wp_iload_n (pc := 0) 0 dX6_bitOf_0 rfl rfl ?_
  refine wp_iload_n (pc := 1) 1 dX6_bitOf_1 rfl rfl ?_
  refine wp_ishr (pc := 2) dX6_bitOf_2 ?_
  refine wp_iconst (pc := 3) (1) dX6_bitOf_3 (by decide) ?_
  refine wp_iand (pc := 4) dX6_bitOf_4 ?_
  refine wp_int (bt_bit hv hi) ?_
  refine wp_iretI (pc := 5) dX6_bitOf_5 rfl ?_
  exact k
theorem c_X6_at {d : Nat} {S : sm_S} {F I : Nat → Nat → Int32} {J : Nat → Nat → Int64} {Q : Option Value → sm_H → Prop} {k0 N n : Nat} {r : List (Option Nat)} (hs : S[k0]? = some (1, N, r)) (k9 : k0 < 900) (hN : N < 2 ^ 31) (hn : n < N) (k : Q (some (.int (I k0 n))) (S, F, I, J)) : Wp mX6_at (d) 0 0 0 (sm_ini [.ref k0, .int (nI n)] 2) [] (S, F, I, J) Q := by
  show Wp _ _ _ _ _ [.ref k0, .int (nI n)] _ _ _
  refine wp_iload_n (pc := 0) 1 dX6_at_0 rfl rfl ?_
  refine wp_iflt (pc := 1) 16 dX6_at_1 (by decide) (fun c_1 => ?_) (fun c_1 => ?_)
  · exact absurd c_1 (nI_pos (by omega))
  · refine wp_iload_n (pc := 4) 1 dX6_at_4 rfl rfl ?_
    refine wp_aload_n (pc := 5) 0 dX6_at_5 rfl rfl ?_
    refine wp_alenI (pc := 6) (nI N) dX6_at_6 hs k9 rfl ?_
    refine wp_icmp_ge (pc := 7) 16 dX6_at_7 (by decide) (fun c_7 => ?_) (fun c_7 => ?_)
    · exact absurd c_7 (nI_ge hn hN)
    · refine wp_aload_n (pc := 10) 0 dX6_at_10 rfl rfl ?_
      refine wp_iload_n (pc := 11) 1 dX6_at_11 rfl rfl ?_
      refine wq_iald (pc := 12) n dX6_at_12 hs k9 rfl hn hN ?_
      refine wp_goto (pc := 13) 17 dX6_at_13 (by decide) ?_
      refine wp_iretI (pc := 17) dX6_at_17 rfl ?_
      exact k
theorem c_X6_at_neg {d : Nat} {S : sm_S} {F I : Nat → Nat → Int32} {J : Nat → Nat → Int64} {Q : Option Value → sm_H → Prop} {k0 : Nat} {x : Int32} (hx : x < 0) (k : Q (some (.int (0))) (S, F, I, J)) : Wp mX6_at (d) 0 0 0 (sm_ini [.ref k0, .int x] 2) [] (S, F, I, J) Q := by
  show Wp _ _ _ _ _ [.ref k0, .int x] _ _ _
  refine wp_iload_n (pc := 0) 1 dX6_at_0 rfl rfl ?_
  refine wp_iflt (pc := 1) 16 dX6_at_1 (by decide) (fun c_1 => ?_) (fun c_1 => ?_)
  · refine wp_iconst (pc := 16) (0) dX6_at_16 (by decide) ?_
    refine wp_iretI (pc := 17) dX6_at_17 rfl ?_
    exact k
  · exact absurd hx c_1
theorem c_X6_put {d : Nat} {S : sm_S} {F I : Nat → Nat → Int32} {J : Nat → Nat → Int64} {Q : Option Value → sm_H → Prop} {k0 N n : Nat} {x : Int32} {r : List (Option Nat)} (hs : S[k0]? = some (1, N, r)) (k9 : k0 < 900) (hN : N < 2 ^ 31) (hn : n < N) (k : Q none (S, F, sm_up I k0 n x, J)) : Wp mX6_put (d) 0 0 0 (sm_ini [.ref k0, .int (nI n), .int x] 3) [] (S, F, I, J) Q := by
  show Wp _ _ _ _ _ [.ref k0, .int (nI n), .int x] _ _ _
  refine wp_iload_n (pc := 0) 1 dX6_put_0 rfl rfl ?_
  refine wp_iflt (pc := 1) 14 dX6_put_1 (by decide) (fun c_1 => ?_) (fun c_1 => ?_)
  · exact absurd c_1 (nI_pos (by omega))
  · refine wp_iload_n (pc := 4) 1 dX6_put_4 rfl rfl ?_
    refine wp_aload_n (pc := 5) 0 dX6_put_5 rfl rfl ?_
    refine wp_alenI (pc := 6) (nI N) dX6_put_6 hs k9 rfl ?_
    refine wp_icmp_ge (pc := 7) 14 dX6_put_7 (by decide) (fun c_7 => ?_) (fun c_7 => ?_)
    · exact absurd c_7 (nI_ge hn hN)
    · refine wp_aload_n (pc := 10) 0 dX6_put_10 rfl rfl ?_
      refine wp_iload_n (pc := 11) 1 dX6_put_11 rfl rfl ?_
      refine wp_iload_n (pc := 12) 2 dX6_put_12 rfl rfl ?_
      refine wq_iast (pc := 13) n dX6_put_13 hs k9 rfl hn hN ?_
      refine wp_ret (pc := 14) dX6_put_14 rfl ?_
      exact k
theorem i32_nlt {x y : Int32} : ¬ x < y ↔ y ≤ x := Int32.not_lt
theorem i32_nle {x y : Int32} : ¬ x ≤ y ↔ y < x := Int32.not_le
theorem c_X6_upTo {d : Nat} {h : sm_H} {Q : Option Value → sm_H → Prop} {x m : Int32} (k : Q (some (.int (b2 (decide (0 ≤ x ∧ x ≤ m))))) h) : Wp mX6_upTo (d) 0 0 0 (sm_ini [.int x, .int m] 2) [] h Q := by
  show Wp _ _ _ _ _ [.int x, .int m] _ _ _
  refine wp_iload_n (pc := 0) 0 dX6_upTo_0 rfl rfl ?_
  refine wp_iflt (pc := 1) 13 dX6_upTo_1 (by decide) (fun c_1 => ?_) (fun c_1 => ?_)
  · refine wp_iconst (pc := 13) (0) dX6_upTo_13 (by decide) ?_
    refine wp_iret (pc := 14) dX6_upTo_14 ⟨_, rfl, by decide⟩ ?_
    rw [decide_eq_false (fun z => absurd c_1 (i32_nlt.mpr z.1))] at k; exact k
  · refine wp_iload_n (pc := 4) 0 dX6_upTo_4 rfl rfl ?_
    refine wp_iload_n (pc := 5) 1 dX6_upTo_5 rfl rfl ?_
    refine wp_icmp_gt (pc := 6) 13 dX6_upTo_6 (by decide) (fun c_6 => ?_) (fun c_6 => ?_)
    · refine wp_iconst (pc := 13) (0) dX6_upTo_13 (by decide) ?_
      refine wp_iret (pc := 14) dX6_upTo_14 ⟨_, rfl, by decide⟩ ?_
      rw [decide_eq_false (fun z => absurd c_6 (i32_nlt.mpr z.2))] at k; exact k
    · refine wp_iconst (pc := 9) (1) dX6_upTo_9 (by decide) ?_
      refine wp_goto (pc := 10) 14 dX6_upTo_10 (by decide) ?_
      refine wp_iret (pc := 14) dX6_upTo_14 ⟨_, rfl, by decide⟩ ?_
      rw [decide_eq_true ⟨i32_nlt.mp c_1, i32_nlt.mp c_6⟩] at k; exact k
theorem c_X7_isIn {d : Nat} {h : sm_H} {Q : Option Value → sm_H → Prop} {x l m : Int32} (k : Q (some (.int (b2 (decide (l ≤ x ∧ x ≤ m))))) h) : Wp mX7_isIn (d) 0 0 0 (sm_ini [.int x, .int l, .int m] 3) [] h Q := by
  show Wp _ _ _ _ _ [.int x, .int l, .int m] _ _ _
  refine wp_iload_n (pc := 0) 0 dX7_isIn_0 rfl rfl ?_
  refine wp_iload_n (pc := 1) 1 dX7_isIn_1 rfl rfl ?_
  refine wp_icmp_lt (pc := 2) 14 dX7_isIn_2 (by decide) (fun c_2 => ?_) (fun c_2 => ?_)
  · refine wp_iconst (pc := 14) (0) dX7_isIn_14 (by decide) ?_
    refine wp_iret (pc := 15) dX7_isIn_15 ⟨_, rfl, by decide⟩ ?_
    rw [decide_eq_false (fun z => absurd c_2 (i32_nlt.mpr z.1))] at k; exact k
  · refine wp_iload_n (pc := 5) 0 dX7_isIn_5 rfl rfl ?_
    refine wp_iload_n (pc := 6) 2 dX7_isIn_6 rfl rfl ?_
    refine wp_icmp_gt (pc := 7) 14 dX7_isIn_7 (by decide) (fun c_7 => ?_) (fun c_7 => ?_)
    · refine wp_iconst (pc := 14) (0) dX7_isIn_14 (by decide) ?_
      refine wp_iret (pc := 15) dX7_isIn_15 ⟨_, rfl, by decide⟩ ?_
      rw [decide_eq_false (fun z => absurd c_7 (i32_nlt.mpr z.2))] at k; exact k
    · refine wp_iconst (pc := 10) (1) dX7_isIn_10 (by decide) ?_
      refine wp_goto (pc := 11) 15 dX7_isIn_11 (by decide) ?_
      refine wp_iret (pc := 15) dX7_isIn_15 ⟨_, rfl, by decide⟩ ?_
      rw [decide_eq_true ⟨i32_nlt.mp c_2, i32_nlt.mp c_7⟩] at k; exact k
