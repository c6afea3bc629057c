/-! ===== the developers' tower, on ===== -/
theorem rem8 {i : Nat} (hi : i < 2 ^ 31) : nI i - nI i / 8 * 8 = nI (i % 8) := pk_rem (d := 8) hi (by decide) (by decide)
theorem max_nI {a b : Nat} (ha : a < 2 ^ 31) (hb : b < 2 ^ 31) : (if nI a < nI b then nI b else nI a) = nI (max a b) := by
  by_cases h : a < b
  · rw [if_pos ((nI_ltI ha hb).mpr h), Nat.max_eq_right (by omega)]
  · rw [if_neg (fun z => h ((nI_ltI ha hb).mp z)), Nat.max_eq_left (by omega)]
theorem min_nI {a b : Nat} (ha : a < 2 ^ 31) (hb : b < 2 ^ 31) : (if nI b < nI a then nI b else nI a) = nI (min a b) := by
  by_cases h : b < a
  · rw [if_pos ((nI_ltI hb ha).mpr h), Nat.min_eq_right (by omega)]
  · rw [if_neg (fun z => h ((nI_ltI hb ha).mp z)), Nat.min_eq_left (by omega)]
theorem fmod4 {a b : Nat} (ha : a ≤ 3) (hb : b ≤ 3) : (if 0 ≤ (nI a - nI b) ^^^ 4 ∨ (nI a - nI b) - (nI a - nI b) / 4 * 4 = 0 then (nI a - nI b) - (nI a - nI b) / 4 * 4 else (nI a - nI b) - (nI a - nI b) / 4 * 4 + 4) = nI ((a + 4 - b) % 4) :=
  (by decide +kernel : ∀ a b : Fin 4, (if 0 ≤ (nI a.val - nI b.val) ^^^ 4 ∨ (nI a.val - nI b.val) - (nI a.val - nI b.val) / 4 * 4 = 0 then (nI a.val - nI b.val) - (nI a.val - nI b.val) / 4 * 4 else (nI a.val - nI b.val) - (nI a.val - nI b.val) / 4 * 4 + 4) = nI ((a.val + 4 - b.val) % 4)) ⟨a, by omega⟩ ⟨b, by omega⟩
theorem c_X5_isOpen {d : Nat} {F I : Nat → Nat → Int32} {J : Nat → Nat → Int64} {Q : Option Value → sm_H → Prop} {t : Nat} (ht : isT t) {f : rw_} (hw : WF f) (hT : Tw t f F I) {i : Nat} (hi : i < 2 ^ 31) (k : Q (some (.int (b2 (opn f i)))) (S0, F, I, J)) : Wp mX5_isOpen (d + 1) 0 0 0 (sm_ini [.ref t, .int (nI i)] 2) [] (S0, F, I, J) Q := by
  show Wp _ _ _ _ _ [.ref t, .int (nI i)] _ _ _
  have hc := hw.crk
  have hm := Nat.mod_lt i (show 8 > 0 by decide)
  refine wp_aload_n (pc := 0) 0 dX5_isOpen_0 rfl rfl ?_
  refine wq_getI (pc := 1) 37 8 dX5_isOpen_1 (tT ht) flX5_37 rfl ht.lt ?_
  refine wp_int hT.crk ?_
  refine wp_iload_n (pc := 4) 1 dX5_isOpen_4 rfl rfl ?_
  refine wp_bipush (pc := 5) (8) dX5_isOpen_5 (by decide) ?_
  refine wp_irem (pc := 7) dX5_isOpen_7 (by decide) ?_
  refine wp_int (rem8 hi) ?_
  refine wc_SN_II (pc := 8) dX5_isOpen_8 lkX5_97 (by decide) (Nat.le_of_ble_eq_true rfl) ?_
  refine c_X6_isIn (by omega) (by omega) ?_
  refine wp_ifneB (pc := 11) 18 dX5_isOpen_11 (by decide) (fun c_11 => ?_) (fun c_11 => ?_)
  · refine wp_iconst (pc := 18) (0) dX5_isOpen_18 (by decide) ?_
    refine wp_iret (pc := 19) dX5_isOpen_19 ⟨_, rfl, by decide⟩ ?_
    rw [show opn f i = false by simp [opn, c_11]] at k; exact k
  · refine wp_iconst (pc := 14) (1) dX5_isOpen_14 (by decide) ?_
    refine wp_goto (pc := 15) 19 dX5_isOpen_15 (by decide) ?_
    refine wp_iret (pc := 19) dX5_isOpen_19 ⟨_, rfl, by decide⟩ ?_
    rw [show opn f i = true by simp [opn, c_11]] at k; exact k
theorem c_X5_mayBeRung {d : Nat} {F I : Nat → Nat → Int32} {J : Nat → Nat → Int64} {Q : Option Value → sm_H → Prop} {t : Nat} (ht : isT t) {f : rw_} (hw : WF f) (hT : Tw t f F I) {i : Nat} (hi : i < 10) (k : Q (some (.int (nI (may f i)))) (S0, F, I, J)) : Wp mX5_mayBeRung (d + 2) 0 0 0 (sm_ini [.ref t, .int (nI i)] 2) [] (S0, F, I, J) Q := by
  show Wp _ _ _ _ _ [.ref t, .int (nI i)] _ _ _
  have hb := bn_1024 hw
  have hr := hw.rung hi
  have hh := hw.wth
  refine wp_aload_n (pc := 0) 0 dX5_mayBeRung_0 rfl rfl ?_
  refine wp_iload_n (pc := 1) 1 dX5_mayBeRung_1 rfl rfl ?_
  refine wc_V_I (pc := 2) dX5_mayBeRung_2 lkX5_86 (sm_Rc.o (ci := 4) (tT ht) (by decide) ht.lt) (by decide) (Nat.le_of_ble_eq_true rfl) ?_
  refine c_X5_isOpen ht hw hT (by omega) ?_
  refine wp_ifneB (pc := 5) 10 dX5_mayBeRung_5 (by decide) (fun c_5 => ?_) (fun c_5 => ?_)
  · refine wp_aload_n (pc := 10) 0 dX5_mayBeRung_10 rfl rfl ?_
    refine wq_getI (pc := 11) 28 5 dX5_mayBeRung_11 (tT ht) flX5_28 rfl ht.lt ?_
    refine wp_int hT.been ?_
    refine wp_iload_n (pc := 14) 1 dX5_mayBeRung_14 rfl rfl ?_
    refine wc_SN_II (pc := 15) dX5_mayBeRung_15 lkX5_97 (by decide) (Nat.le_of_ble_eq_true rfl) ?_
    refine c_X6_isIn (by omega) (by omega) ?_
    refine wp_ifneB (pc := 18) 23 dX5_mayBeRung_18 (by decide) (fun c_18 => ?_) (fun c_18 => ?_)
    · refine wp_aload_n (pc := 23) 0 dX5_mayBeRung_23 rfl rfl ?_
      refine wq_getR (pc := 24) 19 2 dX5_mayBeRung_24 (tT ht) flX5_19 rfl rfl ht.lt (ht.ltn 2) ?_
      refine wp_iload_n (pc := 27) 1 dX5_mayBeRung_27 rfl rfl ?_
      refine wc_SN_RI (pc := 28) dX5_mayBeRung_28 lkX5_71 (by decide) (Nat.le_of_ble_eq_true rfl) ?_
      refine c_X6_at (tT2 ht) (ht.ltn 2) (by decide) hi ?_
      refine wp_int (hT.rung hi) ?_
      refine wp_aload_n (pc := 31) 0 dX5_mayBeRung_31 rfl rfl ?_
      refine wq_getI (pc := 32) 31 6 dX5_mayBeRung_32 (tT ht) flX5_31 rfl ht.lt ?_
      refine wp_int hT.wth ?_
      refine wp_icmp_ne (pc := 35) 42 dX5_mayBeRung_35 (by decide) (fun c_35 => ?_) (fun c_35 => ?_)
      · refine wp_iconst (pc := 42) (0) dX5_mayBeRung_42 (by decide) ?_
        refine wp_iretI (pc := 43) dX5_mayBeRung_43 rfl ?_
        rw [show may f i = 0 by simp [may, c_5, c_18, show ¬ f (5 * i + 1) = f 70 from fun z => c_35 (by rw [z])]] at k; exact k
      · refine wp_iconst (pc := 38) (1) dX5_mayBeRung_38 (by decide) ?_
        refine wp_goto (pc := 39) 43 dX5_mayBeRung_39 (by decide) ?_
        refine wp_iretI (pc := 43) dX5_mayBeRung_43 rfl ?_
        rw [show may f i = 1 by simp [may, c_5, c_18, (nI_eq (by omega) (by omega)).mp c_35]] at k; exact k
    · refine wp_iconst (pc := 21) (2) dX5_mayBeRung_21 (by decide) ?_
      refine wp_iretI (pc := 22) dX5_mayBeRung_22 rfl ?_
      rw [show may f i = 2 by simp [may, c_5, c_18]] at k; exact k
  · refine wp_iconst (pc := 8) (0) dX5_mayBeRung_8 (by decide) ?_
    refine wp_iretI (pc := 9) dX5_mayBeRung_9 rfl ?_
    rw [show may f i = 0 by simp [may, c_5]] at k; exact k
theorem c_X5_allThatMay {d : Nat} {F I : Nat → Nat → Int32} {J : Nat → Nat → Int64} {Q : Option Value → sm_H → Prop} {t : Nat} (ht : isT t) {f : rw_} (hw : WF f) (hT : Tw t f F I) {w : Nat} (hw2 : w ≤ 2) (k : Q (some (.int (nI (col (fun j => decide (may f j = w)) (f 68))))) (S0, F, I, J)) : Wp mX5_allThatMay (d + 3) 0 0 0 (sm_ini [.ref t, .int (nI w)] 4) [] (S0, F, I, J) Q := by
  show Wp _ _ _ _ _ [.ref t, .int (nI w), .null, .null] _ _ _
  refine wp_iconst (pc := 0) (0) dX5_allThatMay_0 (by decide) ?_
  refine wp_istore_n (pc := 1) 2 dX5_allThatMay_1 rfl (by decide) rfl ?_
  refine wp_iconst (pc := 2) (0) dX5_allThatMay_2 (by decide) ?_
  refine wp_istore_n (pc := 3) 3 dX5_allThatMay_3 rfl (by decide) rfl ?_
  refine wp_loop (fun i => [.ref t, .int (nI w), .int (nI (col (fun j => decide (may f j = w)) i)), .int (nI i)]) (fun i => (S0, F, I, J)) (fun i => True) (f 68) (fun i hi hv nx => ?_) (fun hv => ?_) 0 (by omega) trivial
  · have hn := hw.n
    have hi10 : i < 10 := by omega
    have hm := may_le f i
    refine wp_iload_n (pc := 4) 3 dX5_allThatMay_4 rfl rfl ?_
    refine wp_aload_n (pc := 5) 0 dX5_allThatMay_5 rfl rfl ?_
    refine wq_getI (pc := 6) 9 0 dX5_allThatMay_6 (tT ht) flX5_9 rfl ht.lt ?_
    refine wp_int hT.n ?_
    refine wp_icmp_ge (pc := 9) 33 dX5_allThatMay_9 (by decide) (fun c_9 => ?_) (fun c_9 => ?_)
    · exact absurd c_9 (nI_ge (b := (f 68)) hi (by omega))
    · refine wp_aload_n (pc := 12) 0 dX5_allThatMay_12 rfl rfl ?_
      refine wp_iload_n (pc := 13) 3 dX5_allThatMay_13 rfl rfl ?_
      refine wc_V_I (pc := 14) dX5_allThatMay_14 lkX5_90 (sm_Rc.o (ci := 4) (tT ht) (by decide) ht.lt) (by decide) (Nat.le_of_ble_eq_true rfl) ?_
      refine c_X5_mayBeRung ht hw hT hi10 ?_
      refine wp_iload_n (pc := 17) 1 dX5_allThatMay_17 rfl rfl ?_
      refine wp_icmp_ne (pc := 18) 27 dX5_allThatMay_18 (by decide) (fun c_18 => ?_) (fun c_18 => ?_)
      · refine wp_incN (pc := 27) 3 dX5_allThatMay_27 rfl (by decide) rfl ?_
        refine wp_goto (pc := 30) 4 dX5_allThatMay_30 (by decide) ?_
        have nx := nx trivial
        rw [col_f (p := (fun j => decide (may f j = w))) (decide_eq_false (fun z => c_18 (by rw [z])))] at nx
        exact nx
      · refine wp_iload_n (pc := 21) 2 dX5_allThatMay_21 rfl rfl ?_
        refine wp_iconst (pc := 22) (1) dX5_allThatMay_22 (by decide) ?_
        refine wp_iload_n (pc := 23) 3 dX5_allThatMay_23 rfl rfl ?_
        refine wp_ishl (pc := 24) dX5_allThatMay_24 ?_
        refine wp_ior (pc := 25) dX5_allThatMay_25 ?_
        refine wp_istore_n (pc := 26) 2 dX5_allThatMay_26 rfl (by decide) rfl ?_
        refine wp_incN (pc := 27) 3 dX5_allThatMay_27 rfl (by decide) rfl ?_
        refine wp_goto (pc := 30) 4 dX5_allThatMay_30 (by decide) ?_
        have nx := nx trivial
        rw [col_t (p := (fun j => decide (may f j = w))) (by omega) (decide_eq_true ((nI_eq (by omega) (by omega)).mp c_18))] at nx
        exact nx
  · refine wp_iload_n (pc := 4) 3 dX5_allThatMay_4 rfl rfl ?_
    refine wp_aload_n (pc := 5) 0 dX5_allThatMay_5 rfl rfl ?_
    refine wq_getI (pc := 6) 9 0 dX5_allThatMay_6 (tT ht) flX5_9 rfl ht.lt ?_
    refine wp_int hT.n ?_
    refine wp_icmp_ge (pc := 9) 33 dX5_allThatMay_9 (by decide) (fun c_9 => ?_) (fun c_9 => ?_)
    · refine wp_iload_n (pc := 33) 2 dX5_allThatMay_33 rfl rfl ?_
      refine wp_iretI (pc := 34) dX5_allThatMay_34 rfl ?_
      exact k
    · exact absurd (Int32.le_refl _) c_9
/-- what lies below, as the loop from 9 down leaves it with k places to go -/
def dnB (f : rw_) (b : Nat) : Nat → Nat
  | 0 => b
  | k + 1 => if (dnB f b k).testBit (9 - k) = true then dnB f b k ||| f (5 * (9 - k) + 2) else dnB f b k
theorem dnB_D (f : rw_) (b : Nat) : ∀ k, k ≤ 10 → dnD f (dnB f b k) (10 - k) = dnD f b 10
  | 0, _ => rfl
  | k + 1, hk => by
    have h := dnB_D f b k (by omega)
    rw [show 10 - k = (9 - k) + 1 by omega, dnD] at h
    rw [show 10 - (k + 1) = 9 - k by omega, dnB]
    exact h
theorem dnB_end (f : rw_) (b : Nat) : dnB f b 10 = dnD f b 10 := dnB_D f b 10 (Nat.le_refl _)
theorem dnB_lt {f : rw_} (h : WF f) {b : Nat} (hb : b < 1024) : ∀ k, k ≤ 10 → dnB f b k < 1024
  | 0, _ => hb
  | k + 1, hk => by
    rw [dnB]
    split
    · exact or_lt (n := 10) (dnB_lt h hb k (by omega)) (h.on10 (by omega))
    · exact dnB_lt h hb k (by omega)
theorem c_X5_downOf {d : Nat} {F I : Nat → Nat → Int32} {J : Nat → Nat → Int64} {Q : Option Value → sm_H → Prop} {t : Nat} (ht : isT t) {f : rw_} (hw : WF f) (hT : Tw t f F I) {i : Nat} (hi : i < 10) (k : Q (some (.int (nI (down f i)))) (S0, F, I, J)) : Wp mX5_downOf (d + 2) 0 0 0 (sm_ini [.ref t, .int (nI i)] 4) [] (S0, F, I, J) Q := by
  show Wp _ _ _ _ _ [.ref t, .int (nI i), .null, .null] _ _ _
  refine wp_aload_n (pc := 0) 0 dX5_downOf_0 rfl rfl ?_
  refine wp_iload_n (pc := 1) 1 dX5_downOf_1 rfl rfl ?_
  refine wc_V_I (pc := 2) dX5_downOf_2 lkX5_79 (sm_Rc.o (ci := 4) (tT ht) (by decide) ht.lt) (by decide) (Nat.le_of_ble_eq_true rfl) ?_
  refine c_X5_hungOf ht hw hT hi ?_
  refine wp_istore_n (pc := 5) 2 dX5_downOf_5 rfl (by decide) rfl ?_
  refine wp_aload_n (pc := 6) 0 dX5_downOf_6 rfl rfl ?_
  refine wq_getR (pc := 7) 25 4 dX5_downOf_7 (tT ht) flX5_25 rfl rfl ht.lt (ht.ltn 4) ?_
  refine wp_alenI (pc := 10) 10 dX5_downOf_10 (tT4 ht) (ht.ltn 4) (by decide) ?_
  refine wp_iconst (pc := 11) (1) dX5_downOf_11 (by decide) ?_
  refine wp_isub (pc := 12) dX5_downOf_12 ?_
  refine wp_istore_n (pc := 13) 3 dX5_downOf_13 rfl (by decide) rfl ?_
  refine wp_loopD (fun k => [.ref t, .int (nI i), .int (nI (dnB f (f (5 * i + 2)) (10 - k))), .int (nI k - 1)]) (fun _ => (S0, F, I, J)) (fun k => k ≤ 10) (fun j hj nx => ?_) (fun _ => ?_) 10 (by decide)
  · have hj2 : nI (j + 1) - 1 = nI j := nI_pred j
    have hb := dnB_lt hw (hw.on10 hi) (10 - (j + 1)) (by omega)
    have hd9 : 9 - (10 - (j + 1)) = j := by omega
    have hk9 : 10 - j = (10 - (j + 1)) + 1 := by omega
    have nx := nx (by omega)
    refine wp_to (lv' := [.ref t, .int (nI i), .int (nI (dnB f (f (5 * i + 2)) (10 - (j + 1)))), .int (nI j)]) ?_ (by rw [hj2]) rfl rfl
    refine wp_iload_n (pc := 14) 3 dX5_downOf_14 rfl rfl ?_
    refine wp_iflt (pc := 15) 41 dX5_downOf_15 (by decide) (fun c_15 => ?_) (fun c_15 => ?_)
    · exact absurd c_15 (nI_pos (by omega))
    · refine wp_iload_n (pc := 18) 2 dX5_downOf_18 rfl rfl ?_
      refine wp_iload_n (pc := 19) 3 dX5_downOf_19 rfl rfl ?_
      refine wc_SN_II (pc := 20) dX5_downOf_20 lkX5_97 (by decide) (Nat.le_of_ble_eq_true rfl) ?_
      refine c_X6_isIn (by omega) (by omega) ?_
      refine wp_ifeqB (pc := 23) 35 dX5_downOf_23 (by decide) (fun c_23 => ?_) (fun c_23 => ?_)
      · refine wp_dec1 (pc := 35) 3 dX5_downOf_35 rfl (by decide) rfl ?_
        refine wp_goto (pc := 38) 14 dX5_downOf_38 (by decide) ?_
        rw [hk9, dnB, hd9, if_neg (by rw [c_23]; decide)] at nx
        exact nx
      · refine wp_iload_n (pc := 26) 2 dX5_downOf_26 rfl rfl ?_
        refine wp_aload_n (pc := 27) 0 dX5_downOf_27 rfl rfl ?_
        refine wq_getR (pc := 28) 25 4 dX5_downOf_28 (tT ht) flX5_25 rfl rfl ht.lt (ht.ltn 4) ?_
        refine wp_iload_n (pc := 31) 3 dX5_downOf_31 rfl rfl ?_
        refine wq_iald (pc := 32) j dX5_downOf_32 (tT4 ht) (ht.ltn 4) rfl (by omega) (by decide) ?_
        refine wp_int (hT.on (by omega)) ?_
        refine wp_ior (pc := 33) dX5_downOf_33 ?_
        refine wp_istore_n (pc := 34) 2 dX5_downOf_34 rfl (by decide) rfl ?_
        refine wp_dec1 (pc := 35) 3 dX5_downOf_35 rfl (by decide) rfl ?_
        refine wp_goto (pc := 38) 14 dX5_downOf_38 (by decide) ?_
        rw [hk9, dnB, hd9, if_pos c_23, ← bt_or] at nx
        exact nx
  · refine wp_iload_n (pc := 14) 3 dX5_downOf_14 rfl rfl ?_
    refine wp_iflt (pc := 15) 41 dX5_downOf_15 (by decide) (fun c_15 => ?_) (fun c_15 => ?_)
    · refine wp_iload_n (pc := 41) 2 dX5_downOf_41 rfl rfl ?_
      refine wp_iretI (pc := 42) dX5_downOf_42 rfl ?_
      rw [dnB_end]; exact k
    · exact absurd (by decide) c_15
theorem c_X5_upOf {d : Nat} {F I : Nat → Nat → Int32} {J : Nat → Nat → Int64} {Q : Option Value → sm_H → Prop} {t : Nat} (ht : isT t) {f : rw_} (hw : WF f) (hT : Tw t f F I) {a : Nat} (ha : a < 10) (k : Q (some (.int (nI (col (fun j => (down f j).testBit a) (f 68))))) (S0, F, I, J)) : Wp mX5_upOf (d + 3) 0 0 0 (sm_ini [.ref t, .int (nI a)] 4) [] (S0, F, I, J) Q := by
  show Wp _ _ _ _ _ [.ref t, .int (nI a), .null, .null] _ _ _
  refine wp_iconst (pc := 0) (0) dX5_upOf_0 (by decide) ?_
  refine wp_istore_n (pc := 1) 2 dX5_upOf_1 rfl (by decide) rfl ?_
  refine wp_iconst (pc := 2) (0) dX5_upOf_2 (by decide) ?_
  refine wp_istore_n (pc := 3) 3 dX5_upOf_3 rfl (by decide) rfl ?_
  refine wp_loop (fun i => [.ref t, .int (nI a), .int (nI (col (fun j => (down f j).testBit a) i)), .int (nI i)]) (fun i => (S0, F, I, J)) (fun i => True) (f 68) (fun i hi hv nx => ?_) (fun hv => ?_) 0 (by omega) trivial
  · have hn := hw.n
    have hi10 : i < 10 := by omega
    have hdl := down_1024 hw hi10
    refine wp_iload_n (pc := 4) 3 dX5_upOf_4 rfl rfl ?_
    refine wp_aload_n (pc := 5) 0 dX5_upOf_5 rfl rfl ?_
    refine wq_getI (pc := 6) 9 0 dX5_upOf_6 (tT ht) flX5_9 rfl ht.lt ?_
    refine wp_int hT.n ?_
    refine wp_icmp_ge (pc := 9) 36 dX5_upOf_9 (by decide) (fun c_9 => ?_) (fun c_9 => ?_)
    · exact absurd c_9 (nI_ge (b := (f 68)) hi (by omega))
    · refine wp_aload_n (pc := 12) 0 dX5_upOf_12 rfl rfl ?_
      refine wp_iload_n (pc := 13) 3 dX5_upOf_13 rfl rfl ?_
      refine wc_V_I (pc := 14) dX5_upOf_14 lkX5_132 (sm_Rc.o (ci := 4) (tT ht) (by decide) ht.lt) (by decide) (Nat.le_of_ble_eq_true rfl) ?_
      refine c_X5_downOf ht hw hT hi10 ?_
      refine wp_iload_n (pc := 17) 1 dX5_upOf_17 rfl rfl ?_
      refine wc_SN_II (pc := 18) dX5_upOf_18 lkX5_97 (by decide) (Nat.le_of_ble_eq_true rfl) ?_
      refine c_X6_isIn (by omega) (by omega) ?_
      refine wp_ifeqB (pc := 21) 30 dX5_upOf_21 (by decide) (fun c_21 => ?_) (fun c_21 => ?_)
      · refine wp_incN (pc := 30) 3 dX5_upOf_30 rfl (by decide) rfl ?_
        refine wp_goto (pc := 33) 4 dX5_upOf_33 (by decide) ?_
        have nx := nx trivial
        rw [col_f (p := (fun j => (down f j).testBit a)) c_21] at nx
        exact nx
      · refine wp_iload_n (pc := 24) 2 dX5_upOf_24 rfl rfl ?_
        refine wp_iconst (pc := 25) (1) dX5_upOf_25 (by decide) ?_
        refine wp_iload_n (pc := 26) 3 dX5_upOf_26 rfl rfl ?_
        refine wp_ishl (pc := 27) dX5_upOf_27 ?_
        refine wp_ior (pc := 28) dX5_upOf_28 ?_
        refine wp_istore_n (pc := 29) 2 dX5_upOf_29 rfl (by decide) rfl ?_
        refine wp_incN (pc := 30) 3 dX5_upOf_30 rfl (by decide) rfl ?_
        refine wp_goto (pc := 33) 4 dX5_upOf_33 (by decide) ?_
        have nx := nx trivial
        rw [col_t (p := (fun j => (down f j).testBit a)) (by omega) c_21] at nx
        exact nx
  · refine wp_iload_n (pc := 4) 3 dX5_upOf_4 rfl rfl ?_
    refine wp_aload_n (pc := 5) 0 dX5_upOf_5 rfl rfl ?_
    refine wq_getI (pc := 6) 9 0 dX5_upOf_6 (tT ht) flX5_9 rfl ht.lt ?_
    refine wp_int hT.n ?_
    refine wp_icmp_ge (pc := 9) 36 dX5_upOf_9 (by decide) (fun c_9 => ?_) (fun c_9 => ?_)
    · refine wp_iload_n (pc := 36) 2 dX5_upOf_36 rfl rfl ?_
      refine wp_iretI (pc := 37) dX5_upOf_37 rfl ?_
      exact k
    · exact absurd (Int32.le_refl _) c_9
theorem c_X5_lowest {d : Nat} {F I : Nat → Nat → Int32} {J : Nat → Nat → Int64} {Q : Option Value → sm_H → Prop} {t : Nat} (ht : isT t) {f : rw_} (hw : WF f) (hT : Tw t f F I)  (k : Q (some (.int (nI (col (fun j => decide (f (5 * j + 2) = 0)) (f 68))))) (S0, F, I, J)) : Wp mX5_lowest (d + 2) 0 0 0 (sm_ini [.ref t] 3) [] (S0, F, I, J) Q := by
  show Wp _ _ _ _ _ [.ref t, .null, .null] _ _ _
  refine wp_iconst (pc := 0) (0) dX5_lowest_0 (by decide) ?_
  refine wp_istore_n (pc := 1) 1 dX5_lowest_1 rfl (by decide) rfl ?_
  refine wp_iconst (pc := 2) (0) dX5_lowest_2 (by decide) ?_
  refine wp_istore_n (pc := 3) 2 dX5_lowest_3 rfl (by decide) rfl ?_
  refine wp_loop (fun i => [.ref t, .int (nI (col (fun j => decide (f (5 * j + 2) = 0)) i)), .int (nI i)]) (fun i => (S0, F, I, J)) (fun i => True) (f 68) (fun i hi hv nx => ?_) (fun hv => ?_) 0 (by omega) trivial
  · have hn := hw.n
    have hi10 : i < 10 := by omega
    have hO := hw.on10 hi10
    refine wp_iload_n (pc := 4) 2 dX5_lowest_4 rfl rfl ?_
    refine wp_aload_n (pc := 5) 0 dX5_lowest_5 rfl rfl ?_
    refine wq_getI (pc := 6) 9 0 dX5_lowest_6 (tT ht) flX5_9 rfl ht.lt ?_
    refine wp_int hT.n ?_
    refine wp_icmp_ge (pc := 9) 32 dX5_lowest_9 (by decide) (fun c_9 => ?_) (fun c_9 => ?_)
    · exact absurd c_9 (nI_ge (b := (f 68)) hi (by omega))
    · refine wp_aload_n (pc := 12) 0 dX5_lowest_12 rfl rfl ?_
      refine wp_iload_n (pc := 13) 2 dX5_lowest_13 rfl rfl ?_
      refine wc_V_I (pc := 14) dX5_lowest_14 lkX5_79 (sm_Rc.o (ci := 4) (tT ht) (by decide) ht.lt) (by decide) (Nat.le_of_ble_eq_true rfl) ?_
      refine c_X5_hungOf ht hw hT hi10 ?_
      refine wp_ifne (pc := 17) 26 dX5_lowest_17 (by decide) (fun c_17 => ?_) (fun c_17 => ?_)
      · refine wp_incN (pc := 26) 2 dX5_lowest_26 rfl (by decide) rfl ?_
        refine wp_goto (pc := 29) 4 dX5_lowest_29 (by decide) ?_
        have nx := nx trivial
        rw [col_f (p := (fun j => decide (f (5 * j + 2) = 0))) (decide_eq_false (fun z => c_17 (by rw [z]; rfl)))] at nx
        exact nx
      · refine wp_iload_n (pc := 20) 1 dX5_lowest_20 rfl rfl ?_
        refine wp_iconst (pc := 21) (1) dX5_lowest_21 (by decide) ?_
        refine wp_iload_n (pc := 22) 2 dX5_lowest_22 rfl rfl ?_
        refine wp_ishl (pc := 23) dX5_lowest_23 ?_
        refine wp_ior (pc := 24) dX5_lowest_24 ?_
        refine wp_istore_n (pc := 25) 1 dX5_lowest_25 rfl (by decide) rfl ?_
        refine wp_incN (pc := 26) 2 dX5_lowest_26 rfl (by decide) rfl ?_
        refine wp_goto (pc := 29) 4 dX5_lowest_29 (by decide) ?_
        have nx := nx trivial
        rw [col_t (p := (fun j => decide (f (5 * j + 2) = 0))) (by omega) (decide_eq_true ((nI0 (by omega)).mp c_17))] at nx
        exact nx
  · refine wp_iload_n (pc := 4) 2 dX5_lowest_4 rfl rfl ?_
    refine wp_aload_n (pc := 5) 0 dX5_lowest_5 rfl rfl ?_
    refine wq_getI (pc := 6) 9 0 dX5_lowest_6 (tT ht) flX5_9 rfl ht.lt ?_
    refine wp_int hT.n ?_
    refine wp_icmp_ge (pc := 9) 32 dX5_lowest_9 (by decide) (fun c_9 => ?_) (fun c_9 => ?_)
    · refine wp_iload_n (pc := 32) 1 dX5_lowest_32 rfl rfl ?_
      refine wp_iretI (pc := 33) dX5_lowest_33 rfl ?_
      exact k
    · exact absurd (Int32.le_refl _) c_9
def orU (f : rw_) : Nat → Nat
  | 0 => 0
  | k + 1 => orU f k ||| f (5 * k + 2)
theorem c_X5_highest {d : Nat} {F I : Nat → Nat → Int32} {J : Nat → Nat → Int64} {Q : Option Value → sm_H → Prop} {t : Nat} (ht : isT t) {f : rw_} (hw : WF f) (hT : Tw t f F I)  (k : Q (some (.int (nI (dif (2 ^ f 68 - 1) (orU f (f 68)))))) (S0, F, I, J)) : Wp mX5_highest (d + 2) 0 0 0 (sm_ini [.ref t] 3) [] (S0, F, I, J) Q := by
  show Wp _ _ _ _ _ [.ref t, .null, .null] _ _ _
  refine wp_iconst (pc := 0) (0) dX5_highest_0 (by decide) ?_
  refine wp_istore_n (pc := 1) 1 dX5_highest_1 rfl (by decide) rfl ?_
  refine wp_iconst (pc := 2) (0) dX5_highest_2 (by decide) ?_
  refine wp_istore_n (pc := 3) 2 dX5_highest_3 rfl (by decide) rfl ?_
  refine wp_loop (fun i => [.ref t, .int (nI (orU f i)), .int (nI i)]) (fun i => (S0, F, I, J)) (fun i => True) (f 68) (fun i hi hv nx => ?_) (fun hv => ?_) 0 (by omega) trivial
  · have hn := hw.n
    have hi10 : i < 10 := by omega
    refine wp_iload_n (pc := 4) 2 dX5_highest_4 rfl rfl ?_
    refine wp_aload_n (pc := 5) 0 dX5_highest_5 rfl rfl ?_
    refine wq_getI (pc := 6) 9 0 dX5_highest_6 (tT ht) flX5_9 rfl ht.lt ?_
    refine wp_int hT.n ?_
    refine wp_icmp_ge (pc := 9) 26 dX5_highest_9 (by decide) (fun c_9 => ?_) (fun c_9 => ?_)
    · exact absurd c_9 (nI_ge (b := (f 68)) hi (by omega))
    · refine wp_iload_n (pc := 12) 1 dX5_highest_12 rfl rfl ?_
      refine wp_aload_n (pc := 13) 0 dX5_highest_13 rfl rfl ?_
      refine wp_iload_n (pc := 14) 2 dX5_highest_14 rfl rfl ?_
      refine wc_V_I (pc := 15) dX5_highest_15 lkX5_79 (sm_Rc.o (ci := 4) (tT ht) (by decide) ht.lt) (by decide) (Nat.le_of_ble_eq_true rfl) ?_
      refine c_X5_hungOf ht hw hT hi10 ?_
      refine wp_ior (pc := 18) dX5_highest_18 ?_
      refine wp_istore_n (pc := 19) 1 dX5_highest_19 rfl (by decide) rfl ?_
      refine wp_incN (pc := 20) 2 dX5_highest_20 rfl (by decide) rfl ?_
      refine wp_goto (pc := 23) 4 dX5_highest_23 (by decide) ?_
      have nx := nx trivial
      rw [orU, ← bt_or] at nx
      exact nx
  · refine wp_iload_n (pc := 4) 2 dX5_highest_4 rfl rfl ?_
    refine wp_aload_n (pc := 5) 0 dX5_highest_5 rfl rfl ?_
    refine wq_getI (pc := 6) 9 0 dX5_highest_6 (tT ht) flX5_9 rfl ht.lt ?_
    refine wp_int hT.n ?_
    refine wp_icmp_ge (pc := 9) 26 dX5_highest_9 (by decide) (fun c_9 => ?_) (fun c_9 => ?_)
    · refine wp_aload_n (pc := 26) 0 dX5_highest_26 rfl rfl ?_
      refine wc_V_ (pc := 27) dX5_highest_27 lkX5_63 (sm_Rc.o (ci := 4) (tT ht) (by decide) ht.lt) (by decide) (Nat.le_of_ble_eq_true rfl) ?_
      refine c_X5_everyThing ht hw hT ?_
      refine wp_iload_n (pc := 30) 1 dX5_highest_30 rfl rfl ?_
      refine wp_iconst (pc := 31) (-1) dX5_highest_31 (by decide) ?_
      refine wp_ixor (pc := 32) dX5_highest_32 ?_
      refine wp_iand (pc := 33) dX5_highest_33 ?_
      refine wp_int (bt_dif _ _) ?_
      refine wp_iretI (pc := 34) dX5_highest_34 rfl ?_
      exact k
    · exact absurd (Int32.le_refl _) c_9
theorem c_X5_rungInWeather {d : Nat} {F I : Nat → Nat → Int32} {J : Nat → Nat → Int64} {Q : Option Value → sm_H → Prop} {t : Nat} (ht : isT t) {f : rw_} (hw : WF f) (hT : Tw t f F I) {w : Nat} (hw2 : w ≤ 3) (k : Q (some (.int (nI (col (fun j => decide (f (5 * j + 1) = w)) (f 68))))) (S0, F, I, J)) : Wp mX5_rungInWeather (d + 1) 0 0 0 (sm_ini [.ref t, .int (nI w)] 4) [] (S0, F, I, J) Q := by
  show Wp _ _ _ _ _ [.ref t, .int (nI w), .null, .null] _ _ _
  refine wp_iconst (pc := 0) (0) dX5_rungInWeather_0 (by decide) ?_
  refine wp_istore_n (pc := 1) 2 dX5_rungInWeather_1 rfl (by decide) rfl ?_
  refine wp_iconst (pc := 2) (0) dX5_rungInWeather_2 (by decide) ?_
  refine wp_istore_n (pc := 3) 3 dX5_rungInWeather_3 rfl (by decide) rfl ?_
  refine wp_loop (fun i => [.ref t, .int (nI w), .int (nI (col (fun j => decide (f (5 * j + 1) = w)) i)), .int (nI i)]) (fun i => (S0, F, I, J)) (fun i => True) (f 68) (fun i hi hv nx => ?_) (fun hv => ?_) 0 (by omega) trivial
  · have hn := hw.n
    have hi10 : i < 10 := by omega
    have hr := hw.rung hi10
    refine wp_iload_n (pc := 4) 3 dX5_rungInWeather_4 rfl rfl ?_
    refine wp_aload_n (pc := 5) 0 dX5_rungInWeather_5 rfl rfl ?_
    refine wq_getI (pc := 6) 9 0 dX5_rungInWeather_6 (tT ht) flX5_9 rfl ht.lt ?_
    refine wp_int hT.n ?_
    refine wp_icmp_ge (pc := 9) 36 dX5_rungInWeather_9 (by decide) (fun c_9 => ?_) (fun c_9 => ?_)
    · exact absurd c_9 (nI_ge (b := (f 68)) hi (by omega))
    · refine wp_aload_n (pc := 12) 0 dX5_rungInWeather_12 rfl rfl ?_
      refine wq_getR (pc := 13) 19 2 dX5_rungInWeather_13 (tT ht) flX5_19 rfl rfl ht.lt (ht.ltn 2) ?_
      refine wp_iload_n (pc := 16) 3 dX5_rungInWeather_16 rfl rfl ?_
      refine wc_SN_RI (pc := 17) dX5_rungInWeather_17 lkX5_71 (by decide) (Nat.le_of_ble_eq_true rfl) ?_
      refine c_X6_at (tT2 ht) (ht.ltn 2) (by decide) hi10 ?_
      refine wp_int (hT.rung hi10) ?_
      refine wp_iload_n (pc := 20) 1 dX5_rungInWeather_20 rfl rfl ?_
      refine wp_icmp_ne (pc := 21) 30 dX5_rungInWeather_21 (by decide) (fun c_21 => ?_) (fun c_21 => ?_)
      · refine wp_incN (pc := 30) 3 dX5_rungInWeather_30 rfl (by decide) rfl ?_
        refine wp_goto (pc := 33) 4 dX5_rungInWeather_33 (by decide) ?_
        have nx := nx trivial
        rw [col_f (p := (fun j => decide (f (5 * j + 1) = w))) (decide_eq_false (fun z => c_21 (by rw [z])))] at nx
        exact nx
      · refine wp_iload_n (pc := 24) 2 dX5_rungInWeather_24 rfl rfl ?_
        refine wp_iconst (pc := 25) (1) dX5_rungInWeather_25 (by decide) ?_
        refine wp_iload_n (pc := 26) 3 dX5_rungInWeather_26 rfl rfl ?_
        refine wp_ishl (pc := 27) dX5_rungInWeather_27 ?_
        refine wp_ior (pc := 28) dX5_rungInWeather_28 ?_
        refine wp_istore_n (pc := 29) 2 dX5_rungInWeather_29 rfl (by decide) rfl ?_
        refine wp_incN (pc := 30) 3 dX5_rungInWeather_30 rfl (by decide) rfl ?_
        refine wp_goto (pc := 33) 4 dX5_rungInWeather_33 (by decide) ?_
        have nx := nx trivial
        rw [col_t (p := (fun j => decide (f (5 * j + 1) = w))) (by omega) (decide_eq_true ((nI_eq (by omega) (by omega)).mp c_21))] at nx
        exact nx
  · refine wp_iload_n (pc := 4) 3 dX5_rungInWeather_4 rfl rfl ?_
    refine wp_aload_n (pc := 5) 0 dX5_rungInWeather_5 rfl rfl ?_
    refine wq_getI (pc := 6) 9 0 dX5_rungInWeather_6 (tT ht) flX5_9 rfl ht.lt ?_
    refine wp_int hT.n ?_
    refine wp_icmp_ge (pc := 9) 36 dX5_rungInWeather_9 (by decide) (fun c_9 => ?_) (fun c_9 => ?_)
    · refine wp_iload_n (pc := 36) 2 dX5_rungInWeather_36 rfl rfl ?_
      refine wp_iretI (pc := 37) dX5_rungInWeather_37 rfl ?_
      exact k
    · exact absurd (Int32.le_refl _) c_9
theorem c_X5_countBackIn {d : Nat} {F I : Nat → Nat → Int32} {J : Nat → Nat → Int64} {Q : Option Value → sm_H → Prop} {t : Nat} (ht : isT t) {f : rw_} (hw : WF f) (hT : Tw t f F I) {w : Nat} (hw2 : w ≤ 3) (k : Q (some (.int (nI (cbk f w)))) (S0, F, I, J)) : Wp mX5_countBackIn (d + 2) 0 0 0 (sm_ini [.ref t, .int (nI w)] 4) [] (S0, F, I, J) Q := by
  show Wp _ _ _ _ _ [.ref t, .int (nI w), .null, .null] _ _ _
  refine wp_iconst (pc := 0) (0) dX5_countBackIn_0 (by decide) ?_
  refine wp_istore_n (pc := 1) 2 dX5_countBackIn_1 rfl (by decide) rfl ?_
  refine wp_iconst (pc := 2) (0) dX5_countBackIn_2 (by decide) ?_
  refine wp_istore_n (pc := 3) 3 dX5_countBackIn_3 rfl (by decide) rfl ?_
  refine wp_loop (fun i => [.ref t, .int (nI w), .int (nI (cnt (fun j => (bn f).testBit j && opn f j && decide (f (5 * j + 1) = w)) i)), .int (nI i)]) (fun i => (S0, F, I, J)) (fun i => True) (f 68) (fun i hi hv nx => ?_) (fun hv => ?_) 0 (by omega) trivial
  · have hn := hw.n
    have hi10 : i < 10 := by omega
    have hr := hw.rung hi10
    have hb := bn_1024 hw
    refine wp_iload_n (pc := 4) 3 dX5_countBackIn_4 rfl rfl ?_
    refine wp_aload_n (pc := 5) 0 dX5_countBackIn_5 rfl rfl ?_
    refine wq_getI (pc := 6) 9 0 dX5_countBackIn_6 (tT ht) flX5_9 rfl ht.lt ?_
    refine wp_int hT.n ?_
    refine wp_icmp_ge (pc := 9) 52 dX5_countBackIn_9 (by decide) (fun c_9 => ?_) (fun c_9 => ?_)
    · exact absurd c_9 (nI_ge (b := (f 68)) hi (by omega))
    · refine wp_aload_n (pc := 12) 0 dX5_countBackIn_12 rfl rfl ?_
      refine wq_getI (pc := 13) 28 5 dX5_countBackIn_13 (tT ht) flX5_28 rfl ht.lt ?_
      refine wp_int hT.been ?_
      refine wp_iload_n (pc := 16) 3 dX5_countBackIn_16 rfl rfl ?_
      refine wc_SN_II (pc := 17) dX5_countBackIn_17 lkX5_97 (by decide) (Nat.le_of_ble_eq_true rfl) ?_
      refine c_X6_isIn (by omega) (by omega) ?_
      refine wp_ifeqB (pc := 20) 46 dX5_countBackIn_20 (by decide) (fun c_20 => ?_) (fun c_20 => ?_)
      · refine wp_incN (pc := 46) 3 dX5_countBackIn_46 rfl (by decide) rfl ?_
        refine wp_goto (pc := 49) 4 dX5_countBackIn_49 (by decide) ?_
        have nx := nx trivial
        rw [cnt_f (by simp [c_20])] at nx
        exact nx
      · refine wp_aload_n (pc := 23) 0 dX5_countBackIn_23 rfl rfl ?_
        refine wp_iload_n (pc := 24) 3 dX5_countBackIn_24 rfl rfl ?_
        refine wc_V_I (pc := 25) dX5_countBackIn_25 lkX5_86 (sm_Rc.o (ci := 4) (tT ht) (by decide) ht.lt) (by decide) (Nat.le_of_ble_eq_true rfl) ?_
        refine c_X5_isOpen ht hw hT (by omega) ?_
        refine wp_ifeqB (pc := 28) 46 dX5_countBackIn_28 (by decide) (fun c_28 => ?_) (fun c_28 => ?_)
        · refine wp_incN (pc := 46) 3 dX5_countBackIn_46 rfl (by decide) rfl ?_
          refine wp_goto (pc := 49) 4 dX5_countBackIn_49 (by decide) ?_
          have nx := nx trivial
          rw [cnt_f (by simp [c_28])] at nx
          exact nx
        · refine wp_aload_n (pc := 31) 0 dX5_countBackIn_31 rfl rfl ?_
          refine wq_getR (pc := 32) 19 2 dX5_countBackIn_32 (tT ht) flX5_19 rfl rfl ht.lt (ht.ltn 2) ?_
          refine wp_iload_n (pc := 35) 3 dX5_countBackIn_35 rfl rfl ?_
          refine wc_SN_RI (pc := 36) dX5_countBackIn_36 lkX5_71 (by decide) (Nat.le_of_ble_eq_true rfl) ?_
          refine c_X6_at (tT2 ht) (ht.ltn 2) (by decide) hi10 ?_
          refine wp_int (hT.rung hi10) ?_
          refine wp_iload_n (pc := 39) 1 dX5_countBackIn_39 rfl rfl ?_
          refine wp_icmp_ne (pc := 40) 46 dX5_countBackIn_40 (by decide) (fun c_40 => ?_) (fun c_40 => ?_)
          · refine wp_incN (pc := 46) 3 dX5_countBackIn_46 rfl (by decide) rfl ?_
            refine wp_goto (pc := 49) 4 dX5_countBackIn_49 (by decide) ?_
            have nx := nx trivial
            rw [cnt_f (by simp [show ¬ f (5 * i + 1) = w from fun z => c_40 (by rw [z])])] at nx
            exact nx
          · refine wp_incN (pc := 43) 2 dX5_countBackIn_43 rfl (by decide) rfl ?_
            refine wp_incN (pc := 46) 3 dX5_countBackIn_46 rfl (by decide) rfl ?_
            refine wp_goto (pc := 49) 4 dX5_countBackIn_49 (by decide) ?_
            have nx := nx trivial
            rw [cnt_t (by simp [c_20, c_28, (nI_eq (by omega) (by omega)).mp c_40])] at nx
            exact nx
  · refine wp_iload_n (pc := 4) 3 dX5_countBackIn_4 rfl rfl ?_
    refine wp_aload_n (pc := 5) 0 dX5_countBackIn_5 rfl rfl ?_
    refine wq_getI (pc := 6) 9 0 dX5_countBackIn_6 (tT ht) flX5_9 rfl ht.lt ?_
    refine wp_int hT.n ?_
    refine wp_icmp_ge (pc := 9) 52 dX5_countBackIn_9 (by decide) (fun c_9 => ?_) (fun c_9 => ?_)
    · refine wp_iload_n (pc := 52) 2 dX5_countBackIn_52 rfl rfl ?_
      refine wp_iretI (pc := 53) dX5_countBackIn_53 rfl ?_
      exact k
    · exact absurd (Int32.le_refl _) c_9
theorem cbk_le (f : rw_) (w : Nat) : cbk f w ≤ f 68 := cnt_le _ _
theorem cop_le (f : rw_) (b : Nat) : cop f b ≤ f 68 := cnt_le _ _
theorem c_X5_fullestWeather {d : Nat} {F I : Nat → Nat → Int32} {J : Nat → Nat → Int64} {Q : Option Value → sm_H → Prop} {t : Nat} (ht : isT t) {f : rw_} (hw : WF f) (hT : Tw t f F I)  (k : Q (some (.int (nI (amax (cbk f) 3)))) (S0, F, I, J)) : Wp mX5_fullestWeather (d + 3) 0 0 0 (sm_ini [.ref t] 3) [] (S0, F, I, J) Q := by
  show Wp _ _ _ _ _ [.ref t, .null, .null] _ _ _
  refine wp_iconst (pc := 0) (0) dX5_fullestWeather_0 (by decide) ?_
  refine wp_istore_n (pc := 1) 1 dX5_fullestWeather_1 rfl (by decide) rfl ?_
  refine wp_iconst (pc := 2) (1) dX5_fullestWeather_2 (by decide) ?_
  refine wp_istore_n (pc := 3) 2 dX5_fullestWeather_3 rfl (by decide) rfl ?_
  refine wp_loop (fun i => [.ref t, .int (nI (amax (cbk f) i)), .int (nI (i + 1))]) (fun i => (S0, F, I, J)) (fun i => True) 3 (fun i hi hv nx => ?_) (fun hv => ?_) 0 (by omega) trivial
  · have hn := hw.n
    have ha := amax_le (cbk f) i
    have h1 := cbk_le f (i + 1)
    have h2 := cbk_le f (amax (cbk f) i)
    refine wp_iload_n (pc := 4) 2 dX5_fullestWeather_4 rfl rfl ?_
    refine wp_iconst (pc := 5) (3) dX5_fullestWeather_5 (by decide) ?_
    refine wp_icmp_gt (pc := 6) 30 dX5_fullestWeather_6 (by decide) (fun c_6 => ?_) (fun c_6 => ?_)
    · exact absurd c_6 (nI_nlt (a := 3) (b := i + 1) (by omega) (by decide))
    · refine wp_aload_n (pc := 9) 0 dX5_fullestWeather_9 rfl rfl ?_
      refine wp_iload_n (pc := 10) 2 dX5_fullestWeather_10 rfl rfl ?_
      refine wc_V_I (pc := 11) dX5_fullestWeather_11 lkX5_149 (sm_Rc.o (ci := 4) (tT ht) (by decide) ht.lt) (by decide) (Nat.le_of_ble_eq_true rfl) ?_
      refine c_X5_countBackIn ht hw hT (by omega) ?_
      refine wp_aload_n (pc := 14) 0 dX5_fullestWeather_14 rfl rfl ?_
      refine wp_iload_n (pc := 15) 1 dX5_fullestWeather_15 rfl rfl ?_
      refine wc_V_I (pc := 16) dX5_fullestWeather_16 lkX5_149 (sm_Rc.o (ci := 4) (tT ht) (by decide) ht.lt) (by decide) (Nat.le_of_ble_eq_true rfl) ?_
      refine c_X5_countBackIn ht hw hT (by omega) ?_
      refine wp_icmp_le (pc := 19) 24 dX5_fullestWeather_19 (by decide) (fun c_19 => ?_) (fun c_19 => ?_)
      · refine wp_incN (pc := 24) 2 dX5_fullestWeather_24 rfl (by decide) rfl ?_
        refine wp_goto (pc := 27) 4 dX5_fullestWeather_27 (by decide) ?_
        have nx := nx trivial
        rw [show amax (cbk f) (i + 1) = amax (cbk f) i by rw [amax, if_neg (fun z => nI_ge z (by omega) c_19)]] at nx
        exact nx
      · refine wp_iload_n (pc := 22) 2 dX5_fullestWeather_22 rfl rfl ?_
        refine wp_istore_n (pc := 23) 1 dX5_fullestWeather_23 rfl (by decide) rfl ?_
        refine wp_incN (pc := 24) 2 dX5_fullestWeather_24 rfl (by decide) rfl ?_
        refine wp_goto (pc := 27) 4 dX5_fullestWeather_27 (by decide) ?_
        have nx := nx trivial
        rw [show amax (cbk f) (i + 1) = i + 1 by rw [amax, if_pos ((nI_ltI (by omega) (by omega)).mp (i32_nle.mp c_19))]] at nx
        exact nx
  · refine wp_iload_n (pc := 4) 2 dX5_fullestWeather_4 rfl rfl ?_
    refine wp_iconst (pc := 5) (3) dX5_fullestWeather_5 (by decide) ?_
    refine wp_icmp_gt (pc := 6) 30 dX5_fullestWeather_6 (by decide) (fun c_6 => ?_) (fun c_6 => ?_)
    · refine wp_iload_n (pc := 30) 1 dX5_fullestWeather_30 rfl rfl ?_
      refine wp_iretI (pc := 31) dX5_fullestWeather_31 rfl ?_
      exact k
    · exact absurd (by decide) c_6
theorem c_X5_countOpenOn {d : Nat} {F I : Nat → Nat → Int32} {J : Nat → Nat → Int64} {Q : Option Value → sm_H → Prop} {t : Nat} (ht : isT t) {f : rw_} (hw : WF f) (hT : Tw t f F I) {b : Nat} (hb : b ≤ 7) (k : Q (some (.int (nI (cop f b)))) (S0, F, I, J)) : Wp mX5_countOpenOn (d + 2) 0 0 0 (sm_ini [.ref t, .int (nI b)] 4) [] (S0, F, I, J) Q := by
  show Wp _ _ _ _ _ [.ref t, .int (nI b), .null, .null] _ _ _
  refine wp_iconst (pc := 0) (0) dX5_countOpenOn_0 (by decide) ?_
  refine wp_istore_n (pc := 1) 2 dX5_countOpenOn_1 rfl (by decide) rfl ?_
  refine wp_iconst (pc := 2) (0) dX5_countOpenOn_2 (by decide) ?_
  refine wp_istore_n (pc := 3) 3 dX5_countOpenOn_3 rfl (by decide) rfl ?_
  refine wp_loop (fun i => [.ref t, .int (nI b), .int (nI (cnt (fun j => decide (j % 8 = b) && opn f j) i)), .int (nI i)]) (fun i => (S0, F, I, J)) (fun i => True) (f 68) (fun i hi hv nx => ?_) (fun hv => ?_) 0 (by omega) trivial
  · have hn := hw.n
    have hi10 : i < 10 := by omega
    have hm := Nat.mod_lt i (show 8 > 0 by decide)
    refine wp_iload_n (pc := 4) 3 dX5_countOpenOn_4 rfl rfl ?_
    refine wp_aload_n (pc := 5) 0 dX5_countOpenOn_5 rfl rfl ?_
    refine wq_getI (pc := 6) 9 0 dX5_countOpenOn_6 (tT ht) flX5_9 rfl ht.lt ?_
    refine wp_int hT.n ?_
    refine wp_icmp_ge (pc := 9) 37 dX5_countOpenOn_9 (by decide) (fun c_9 => ?_) (fun c_9 => ?_)
    · exact absurd c_9 (nI_ge (b := (f 68)) hi (by omega))
    · refine wp_iload_n (pc := 12) 3 dX5_countOpenOn_12 rfl rfl ?_
      refine wp_bipush (pc := 13) (8) dX5_countOpenOn_13 (by decide) ?_
      refine wp_irem (pc := 15) dX5_countOpenOn_15 (by decide) ?_
      refine wp_int (rem8 (by omega)) ?_
      refine wp_iload_n (pc := 16) 1 dX5_countOpenOn_16 rfl rfl ?_
      refine wp_icmp_ne (pc := 17) 31 dX5_countOpenOn_17 (by decide) (fun c_17 => ?_) (fun c_17 => ?_)
      · refine wp_incN (pc := 31) 3 dX5_countOpenOn_31 rfl (by decide) rfl ?_
        refine wp_goto (pc := 34) 4 dX5_countOpenOn_34 (by decide) ?_
        have nx := nx trivial
        rw [cnt_f (by simp [show ¬ i % 8 = b from fun z => c_17 (by rw [z])])] at nx
        exact nx
      · refine wp_aload_n (pc := 20) 0 dX5_countOpenOn_20 rfl rfl ?_
        refine wp_iload_n (pc := 21) 3 dX5_countOpenOn_21 rfl rfl ?_
        refine wc_V_I (pc := 22) dX5_countOpenOn_22 lkX5_86 (sm_Rc.o (ci := 4) (tT ht) (by decide) ht.lt) (by decide) (Nat.le_of_ble_eq_true rfl) ?_
        refine c_X5_isOpen ht hw hT (by omega) ?_
        refine wp_ifeqB (pc := 25) 31 dX5_countOpenOn_25 (by decide) (fun c_25 => ?_) (fun c_25 => ?_)
        · refine wp_incN (pc := 31) 3 dX5_countOpenOn_31 rfl (by decide) rfl ?_
          refine wp_goto (pc := 34) 4 dX5_countOpenOn_34 (by decide) ?_
          have nx := nx trivial
          rw [cnt_f (by simp [c_25])] at nx
          exact nx
        · refine wp_incN (pc := 28) 2 dX5_countOpenOn_28 rfl (by decide) rfl ?_
          refine wp_incN (pc := 31) 3 dX5_countOpenOn_31 rfl (by decide) rfl ?_
          refine wp_goto (pc := 34) 4 dX5_countOpenOn_34 (by decide) ?_
          have nx := nx trivial
          rw [cnt_t (by simp [c_25, (nI_eq (by omega) (by omega)).mp c_17])] at nx
          exact nx
  · refine wp_iload_n (pc := 4) 3 dX5_countOpenOn_4 rfl rfl ?_
    refine wp_aload_n (pc := 5) 0 dX5_countOpenOn_5 rfl rfl ?_
    refine wq_getI (pc := 6) 9 0 dX5_countOpenOn_6 (tT ht) flX5_9 rfl ht.lt ?_
    refine wp_int hT.n ?_
    refine wp_icmp_ge (pc := 9) 37 dX5_countOpenOn_9 (by decide) (fun c_9 => ?_) (fun c_9 => ?_)
    · refine wp_iload_n (pc := 37) 2 dX5_countOpenOn_37 rfl rfl ?_
      refine wp_iretI (pc := 38) dX5_countOpenOn_38 rfl ?_
      exact k
    · exact absurd (Int32.le_refl _) c_9
theorem c_X5_fullestBell {d : Nat} {F I : Nat → Nat → Int32} {J : Nat → Nat → Int64} {Q : Option Value → sm_H → Prop} {t : Nat} (ht : isT t) {f : rw_} (hw : WF f) (hT : Tw t f F I)  (k : Q (some (.int (nI (amax (cop f) 7)))) (S0, F, I, J)) : Wp mX5_fullestBell (d + 3) 0 0 0 (sm_ini [.ref t] 3) [] (S0, F, I, J) Q := by
  show Wp _ _ _ _ _ [.ref t, .null, .null] _ _ _
  refine wp_iconst (pc := 0) (0) dX5_fullestBell_0 (by decide) ?_
  refine wp_istore_n (pc := 1) 1 dX5_fullestBell_1 rfl (by decide) rfl ?_
  refine wp_iconst (pc := 2) (1) dX5_fullestBell_2 (by decide) ?_
  refine wp_istore_n (pc := 3) 2 dX5_fullestBell_3 rfl (by decide) rfl ?_
  refine wp_loop (fun i => [.ref t, .int (nI (amax (cop f) i)), .int (nI (i + 1))]) (fun i => (S0, F, I, J)) (fun i => True) 7 (fun i hi hv nx => ?_) (fun hv => ?_) 0 (by omega) trivial
  · have hn := hw.n
    have ha := amax_le (cop f) i
    have h1 := cop_le f (i + 1)
    have h2 := cop_le f (amax (cop f) i)
    refine wp_iload_n (pc := 4) 2 dX5_fullestBell_4 rfl rfl ?_
    refine wp_bipush (pc := 5) (7) dX5_fullestBell_5 (by decide) ?_
    refine wp_icmp_gt (pc := 7) 31 dX5_fullestBell_7 (by decide) (fun c_7 => ?_) (fun c_7 => ?_)
    · exact absurd c_7 (nI_nlt (a := 7) (b := i + 1) (by omega) (by decide))
    · refine wp_aload_n (pc := 10) 0 dX5_fullestBell_10 rfl rfl ?_
      refine wp_iload_n (pc := 11) 2 dX5_fullestBell_11 rfl rfl ?_
      refine wc_V_I (pc := 12) dX5_fullestBell_12 lkX5_152 (sm_Rc.o (ci := 4) (tT ht) (by decide) ht.lt) (by decide) (Nat.le_of_ble_eq_true rfl) ?_
      refine c_X5_countOpenOn ht hw hT (by omega) ?_
      refine wp_aload_n (pc := 15) 0 dX5_fullestBell_15 rfl rfl ?_
      refine wp_iload_n (pc := 16) 1 dX5_fullestBell_16 rfl rfl ?_
      refine wc_V_I (pc := 17) dX5_fullestBell_17 lkX5_152 (sm_Rc.o (ci := 4) (tT ht) (by decide) ht.lt) (by decide) (Nat.le_of_ble_eq_true rfl) ?_
      refine c_X5_countOpenOn ht hw hT (by omega) ?_
      refine wp_icmp_le (pc := 20) 25 dX5_fullestBell_20 (by decide) (fun c_20 => ?_) (fun c_20 => ?_)
      · refine wp_incN (pc := 25) 2 dX5_fullestBell_25 rfl (by decide) rfl ?_
        refine wp_goto (pc := 28) 4 dX5_fullestBell_28 (by decide) ?_
        have nx := nx trivial
        rw [show amax (cop f) (i + 1) = amax (cop f) i by rw [amax, if_neg (fun z => nI_ge z (by omega) c_20)]] at nx
        exact nx
      · refine wp_iload_n (pc := 23) 2 dX5_fullestBell_23 rfl rfl ?_
        refine wp_istore_n (pc := 24) 1 dX5_fullestBell_24 rfl (by decide) rfl ?_
        refine wp_incN (pc := 25) 2 dX5_fullestBell_25 rfl (by decide) rfl ?_
        refine wp_goto (pc := 28) 4 dX5_fullestBell_28 (by decide) ?_
        have nx := nx trivial
        rw [show amax (cop f) (i + 1) = i + 1 by rw [amax, if_pos ((nI_ltI (by omega) (by omega)).mp (i32_nle.mp c_20))]] at nx
        exact nx
  · refine wp_iload_n (pc := 4) 2 dX5_fullestBell_4 rfl rfl ?_
    refine wp_bipush (pc := 5) (7) dX5_fullestBell_5 (by decide) ?_
    refine wp_icmp_gt (pc := 7) 31 dX5_fullestBell_7 (by decide) (fun c_7 => ?_) (fun c_7 => ?_)
    · refine wp_iload_n (pc := 31) 1 dX5_fullestBell_31 rfl rfl ?_
      refine wp_iretI (pc := 32) dX5_fullestBell_32 rfl ?_
      exact k
    · exact absurd (by decide) c_7
