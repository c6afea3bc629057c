/-! ===== the developers' tower: changes ===== -/
theorem c_X5_tellBeen {d : Nat} {F I : Nat → Nat → Int32} {J : Nat → Nat → Int64} {Q : Option Value → sm_H → Prop} {t : Nat} (ht : isT t) {f : rw_} (hw : WF f) (hT : Tw t f F I) {i : Nat} {b : Bool} (hi : i < 10) (k : ∀ F1 : Nat → Nat → Int32, Tw t (fu f (5 * i + 3) b.toNat) F1 I → Fr t F I F1 I → Q none (S0, F1, I, J)) : Wp mX5_tellBeen (d) 0 0 0 (sm_ini [.ref t, .int (nI i), .int (b2 b)] 3) [] (S0, F, I, J) Q := by
  show Wp _ _ _ _ _ [.ref t, .int (nI i), .int (b2 b)] _ _ _
  refine wp_aload_n (pc := 0) 0 dX5_tellBeen_0 rfl rfl ?_
  refine wp_iload_n (pc := 1) 2 dX5_tellBeen_1 rfl rfl ?_
  refine wp_ifeqB (pc := 2) 16 dX5_tellBeen_2 (by decide) (fun c_2 => ?_) (fun c_2 => ?_)
  · refine wp_aload_n (pc := 16) 0 dX5_tellBeen_16 rfl rfl ?_
    refine wq_getI (pc := 17) 28 5 dX5_tellBeen_17 (tT ht) flX5_28 rfl ht.lt ?_
    refine wp_int hT.been ?_
    refine wp_iconst (pc := 20) (1) dX5_tellBeen_20 (by decide) ?_
    refine wp_iload_n (pc := 21) 1 dX5_tellBeen_21 rfl rfl ?_
    refine wp_ishl (pc := 22) dX5_tellBeen_22 ?_
    refine wp_iconst (pc := 23) (-1) dX5_tellBeen_23 (by decide) ?_
    refine wp_ixor (pc := 24) dX5_tellBeen_24 ?_
    refine wp_iand (pc := 25) dX5_tellBeen_25 ?_
    refine wp_int (y := nI (bn (fu f (5 * i + 3) 0))) (by rw [bn_off (fun i hi => hw.been hi) hi, ← bt_dif, ← bt_one (by omega)]) ?_
    refine wq_putI (pc := 26) 28 5 dX5_tellBeen_26 (tT ht) flX5_28 rfl rfl ht.lt ?_
    refine wp_ret (pc := 29) dX5_tellBeen_29 rfl ?_
    rw [c_2] at k
    exact k _ (hT.uB hi) (Fr.rf.F (by omega) (by omega))
  · refine wp_aload_n (pc := 5) 0 dX5_tellBeen_5 rfl rfl ?_
    refine wq_getI (pc := 6) 28 5 dX5_tellBeen_6 (tT ht) flX5_28 rfl ht.lt ?_
    refine wp_int hT.been ?_
    refine wp_iconst (pc := 9) (1) dX5_tellBeen_9 (by decide) ?_
    refine wp_iload_n (pc := 10) 1 dX5_tellBeen_10 rfl rfl ?_
    refine wp_ishl (pc := 11) dX5_tellBeen_11 ?_
    refine wp_ior (pc := 12) dX5_tellBeen_12 ?_
    refine wp_goto (pc := 13) 26 dX5_tellBeen_13 (by decide) ?_
    refine wp_int (y := nI (bn (fu f (5 * i + 3) 1))) (by rw [bn_on (fun i hi => hw.been hi) hi, ← bt_or, ← bt_one (by omega)]) ?_
    refine wq_putI (pc := 26) 28 5 dX5_tellBeen_26 (tT ht) flX5_28 rfl rfl ht.lt ?_
    refine wp_ret (pc := 29) dX5_tellBeen_29 rfl ?_
    rw [c_2] at k
    exact k _ (hT.uB hi) (Fr.rf.F (by omega) (by omega))
theorem c_X5_freeThing {d : Nat} {F I : Nat → Nat → Int32} {J : Nat → Nat → Int64} {Q : Option Value → sm_H → Prop} {t : Nat} (ht : isT t) {f : rw_} (hw : WF f) (hT : Tw t f F I) {i : Nat} (hi : i < 10) (k : ∀ I1 : Nat → Nat → Int32, Tw t (fu f (5 * i + 2) 0) F I1 → Fr t F I F I1 → Q none (S0, F, I1, J)) : Wp mX5_freeThing (d + 1) 0 0 0 (sm_ini [.ref t, .int (nI i)] 2) [] (S0, F, I, J) Q := by
  show Wp _ _ _ _ _ [.ref t, .int (nI i)] _ _ _
  refine wp_aload_n (pc := 0) 0 dX5_freeThing_0 rfl rfl ?_
  refine wq_getR (pc := 1) 25 4 dX5_freeThing_1 (tT ht) flX5_25 rfl rfl ht.lt (ht.ltn 4) ?_
  refine wp_iload_n (pc := 4) 1 dX5_freeThing_4 rfl rfl ?_
  refine wp_iconst (pc := 5) (0) dX5_freeThing_5 (by decide) ?_
  refine wc_SN_RII (pc := 6) dX5_freeThing_6 lkX5_67 (by decide) (Nat.le_of_ble_eq_true rfl) ?_
  refine c_X6_put (tT4 ht) (ht.ltn 4) (by decide) hi ?_
  refine wp_ret (pc := 9) dX5_freeThing_9 rfl ?_
  exact k _ (hT.uI (Or.inr (Or.inr (Or.inr ⟨rfl, rfl⟩))) hi) (Fr.rf.I (by omega) (by omega))
/-- what a thing hangs on, with one more or less -/
def hgN (o l : Nat) (b : Bool) : Nat := if b = true then o ||| 2 ^ l else dif o (2 ^ l)
theorem hgN_lt {o l n : Nat} (b : Bool) (ho : o < 2 ^ n) (hl : l < n) : hgN o l b < 2 ^ n := by
  unfold hgN
  split
  · exact or_lt ho (p2_lt hl)
  · exact dif_le _ _ ho
theorem c_X5_hangThing {d : Nat} {F I : Nat → Nat → Int32} {J : Nat → Nat → Int64} {Q : Option Value → sm_H → Prop} {t : Nat} (ht : isT t) {f : rw_} (hw : WF f) (hT : Tw t f F I) {i l : Nat} {b : Bool} (hi : i < 10) (hl : l < 10) (k : ∀ I1 : Nat → Nat → Int32, Tw t (fu f (5 * i + 2) (hgN (f (5 * i + 2)) l b)) F I1 → Fr t F I F I1 → Q none (S0, F, I1, J)) : Wp mX5_hangThing (d + 1) 0 0 0 (sm_ini [.ref t, .int (nI i), .int (nI l), .int (b2 b)] 6) [] (S0, F, I, J) Q := by
  show Wp _ _ _ _ _ [.ref t, .int (nI i), .int (nI l), .int (b2 b), .null, .null] _ _ _
  refine wp_iconst (pc := 0) (1) dX5_hangThing_0 (by decide) ?_
  refine wp_iload_n (pc := 1) 2 dX5_hangThing_1 rfl rfl ?_
  refine wp_ishl (pc := 2) dX5_hangThing_2 ?_
  refine wp_istore (pc := 3) 4 dX5_hangThing_3 (by decide) rfl ?_
  refine wp_aload_n (pc := 5) 0 dX5_hangThing_5 rfl rfl ?_
  refine wq_getR (pc := 6) 25 4 dX5_hangThing_6 (tT ht) flX5_25 rfl rfl ht.lt (ht.ltn 4) ?_
  refine wp_iload_n (pc := 9) 1 dX5_hangThing_9 rfl rfl ?_
  refine wc_SN_RI (pc := 10) dX5_hangThing_10 lkX5_71 (by decide) (Nat.le_of_ble_eq_true rfl) ?_
  refine c_X6_at (tT4 ht) (ht.ltn 4) (by decide) hi ?_
  refine wp_int (hT.on hi) ?_
  refine wp_istore (pc := 13) 5 dX5_hangThing_13 (by decide) rfl ?_
  refine wp_aload_n (pc := 15) 0 dX5_hangThing_15 rfl rfl ?_
  refine wq_getR (pc := 16) 25 4 dX5_hangThing_16 (tT ht) flX5_25 rfl rfl ht.lt (ht.ltn 4) ?_
  refine wp_iload_n (pc := 19) 1 dX5_hangThing_19 rfl rfl ?_
  refine wp_iload_n (pc := 20) 3 dX5_hangThing_20 rfl rfl ?_
  refine wp_ifeqB (pc := 21) 32 dX5_hangThing_21 (by decide) (fun c_21 => ?_) (fun c_21 => ?_)
  · refine wp_iload (pc := 32) 5 dX5_hangThing_32 rfl ?_
    refine wp_iload (pc := 34) 4 dX5_hangThing_34 rfl ?_
    refine wp_iconst (pc := 36) (-1) dX5_hangThing_36 (by decide) ?_
    refine wp_ixor (pc := 37) dX5_hangThing_37 ?_
    refine wp_iand (pc := 38) dX5_hangThing_38 ?_
    refine wp_int (y := nI (hgN (f (5 * i + 2)) l false)) (by rw [show hgN (f (5 * i + 2)) l false = dif (f (5 * i + 2)) (2 ^ l) from rfl, ← bt_dif, ← bt_one (by omega)]) ?_
    refine wc_SN_RII (pc := 39) dX5_hangThing_39 lkX5_67 (by decide) (Nat.le_of_ble_eq_true rfl) ?_
    refine c_X6_put (tT4 ht) (ht.ltn 4) (by decide) hi ?_
    refine wp_ret (pc := 42) dX5_hangThing_42 rfl ?_
    rw [c_21] at k
    exact k _ (hT.uI (Or.inr (Or.inr (Or.inr ⟨rfl, rfl⟩))) hi) (Fr.rf.I (by omega) (by omega))
  · refine wp_iload (pc := 24) 5 dX5_hangThing_24 rfl ?_
    refine wp_iload (pc := 26) 4 dX5_hangThing_26 rfl ?_
    refine wp_ior (pc := 28) dX5_hangThing_28 ?_
    refine wp_goto (pc := 29) 39 dX5_hangThing_29 (by decide) ?_
    refine wp_int (y := nI (hgN (f (5 * i + 2)) l true)) (by rw [show hgN (f (5 * i + 2)) l true = f (5 * i + 2) ||| 2 ^ l from rfl, ← bt_or, ← bt_one (by omega)]) ?_
    refine wc_SN_RII (pc := 39) dX5_hangThing_39 lkX5_67 (by decide) (Nat.le_of_ble_eq_true rfl) ?_
    refine c_X6_put (tT4 ht) (ht.ltn 4) (by decide) hi ?_
    refine wp_ret (pc := 42) dX5_hangThing_42 rfl ?_
    rw [c_21] at k
    exact k _ (hT.uI (Or.inr (Or.inr (Or.inr ⟨rfl, rfl⟩))) hi) (Fr.rf.I (by omega) (by omega))
theorem c_X5_addThing {d : Nat} {F I : Nat → Nat → Int32} {J : Nat → Nat → Int64} {Q : Option Value → sm_H → Prop} {t : Nat} (ht : isT t) {f : rw_} (hw : WF f) (hT : Tw t f F I) {a b : Nat} (hn : f 68 < 10) (k : ∀ F1 I1 : Nat → Nat → Int32, Tw t (addT f a b) F1 I1 → Fr t F I F1 I1 → Q (some (.int (nI (f 68)))) (S0, F1, I1, J)) : Wp mX5_addThing (d + 1) 0 0 0 (sm_ini [.ref t, .int (nI a), .int (nI b)] 4) [] (S0, F, I, J) Q := by
  show Wp _ _ _ _ _ [.ref t, .int (nI a), .int (nI b), .null] _ _ _
  refine wp_aload_n (pc := 0) 0 dX5_addThing_0 rfl rfl ?_
  refine wq_getI (pc := 1) 9 0 dX5_addThing_1 (tT ht) flX5_9 rfl ht.lt ?_
  refine wp_int hT.n ?_
  refine wp_istore_n (pc := 4) 3 dX5_addThing_4 rfl (by decide) rfl ?_
  refine wp_aload_n (pc := 5) 0 dX5_addThing_5 rfl rfl ?_
  refine wq_getR (pc := 6) 15 1 dX5_addThing_6 (tT ht) flX5_15 rfl rfl ht.lt (ht.ltn 1) ?_
  refine wp_iload_n (pc := 9) 3 dX5_addThing_9 rfl rfl ?_
  refine wp_iload_n (pc := 10) 1 dX5_addThing_10 rfl rfl ?_
  refine wc_SN_RII (pc := 11) dX5_addThing_11 lkX5_67 (by decide) (Nat.le_of_ble_eq_true rfl) ?_
  refine c_X6_put (tT1 ht) (ht.ltn 1) (by decide) hn ?_
  refine wp_aload_n (pc := 14) 0 dX5_addThing_14 rfl rfl ?_
  refine wq_getR (pc := 15) 19 2 dX5_addThing_15 (tT ht) flX5_19 rfl rfl ht.lt (ht.ltn 2) ?_
  refine wp_iload_n (pc := 18) 3 dX5_addThing_18 rfl rfl ?_
  refine wp_iload_n (pc := 19) 2 dX5_addThing_19 rfl rfl ?_
  refine wc_SN_RII (pc := 20) dX5_addThing_20 lkX5_67 (by decide) (Nat.le_of_ble_eq_true rfl) ?_
  refine c_X6_put (tT2 ht) (ht.ltn 2) (by decide) hn ?_
  refine wp_aload_n (pc := 23) 0 dX5_addThing_23 rfl rfl ?_
  refine wq_getR (pc := 24) 22 3 dX5_addThing_24 (tT ht) flX5_22 rfl rfl ht.lt (ht.ltn 3) ?_
  refine wp_iload_n (pc := 27) 3 dX5_addThing_27 rfl rfl ?_
  refine wp_iconst (pc := 28) (0) dX5_addThing_28 (by decide) ?_
  refine wc_SN_RII (pc := 29) dX5_addThing_29 lkX5_67 (by decide) (Nat.le_of_ble_eq_true rfl) ?_
  refine c_X6_put (tT3 ht) (ht.ltn 3) (by decide) hn ?_
  refine wp_aload_n (pc := 32) 0 dX5_addThing_32 rfl rfl ?_
  refine wq_getR (pc := 33) 25 4 dX5_addThing_33 (tT ht) flX5_25 rfl rfl ht.lt (ht.ltn 4) ?_
  refine wp_iload_n (pc := 36) 3 dX5_addThing_36 rfl rfl ?_
  refine wp_iconst (pc := 37) (0) dX5_addThing_37 (by decide) ?_
  refine wc_SN_RII (pc := 38) dX5_addThing_38 lkX5_67 (by decide) (Nat.le_of_ble_eq_true rfl) ?_
  refine c_X6_put (tT4 ht) (ht.ltn 4) (by decide) hn ?_
  refine wp_aload_n (pc := 41) 0 dX5_addThing_41 rfl rfl ?_
  refine wp_dup (pc := 42) dX5_addThing_42 rfl ?_
  refine wq_getI (pc := 43) 28 5 dX5_addThing_43 (tT ht) flX5_28 rfl ht.lt ?_
  refine wp_int hT.been ?_
  refine wp_iconst (pc := 46) (1) dX5_addThing_46 (by decide) ?_
  refine wp_iload_n (pc := 47) 3 dX5_addThing_47 rfl rfl ?_
  refine wp_ishl (pc := 48) dX5_addThing_48 ?_
  refine wp_ior (pc := 49) dX5_addThing_49 ?_
  have hb4 : ∀ i, i < 10 → (fu (fu (fu (fu f (5 * f 68) a) (5 * f 68 + 1) b) (5 * f 68 + 4) 0) (5 * f 68 + 2) 0) (5 * i + 3) ≤ 1 := fun i hi => by rw [fu_ne (by omega), fu_ne (by omega), fu_ne (by omega), fu_ne (by omega)]; exact hw.been hi
  have hbe : bn (fu (fu (fu (fu f (5 * f 68) a) (5 * f 68 + 1) b) (5 * f 68 + 4) 0) (5 * f 68 + 2) 0) = bn f := bn_congr fun i hi => by rw [fu_ne (by omega), fu_ne (by omega), fu_ne (by omega), fu_ne (by omega)]
  refine wp_int (y := nI (bn (fu (fu (fu (fu (fu f (5 * f 68) a) (5 * f 68 + 1) b) (5 * f 68 + 4) 0) (5 * f 68 + 2) 0) (5 * f 68 + 3) 1))) (by rw [bn_on hb4 hn, hbe, ← bt_or, ← bt_one (by omega)]) ?_
  refine wq_putI (pc := 50) 28 5 dX5_addThing_50 (tT ht) flX5_28 rfl rfl ht.lt ?_
  refine wp_aload_n (pc := 53) 0 dX5_addThing_53 rfl rfl ?_
  refine wp_iload_n (pc := 54) 3 dX5_addThing_54 rfl rfl ?_
  refine wp_iconst (pc := 55) (1) dX5_addThing_55 (by decide) ?_
  refine wp_iadd (pc := 56) dX5_addThing_56 ?_
  refine wp_int (nI_1 _) ?_
  refine wq_putI (pc := 57) 9 0 dX5_addThing_57 (tT ht) flX5_9 rfl rfl ht.lt ?_
  refine wp_iload_n (pc := 60) 3 dX5_addThing_60 rfl rfl ?_
  refine wp_iretI (pc := 61) dX5_addThing_61 rfl ?_
  exact k _ _ ((((((hT.uI (Or.inl ⟨rfl, rfl⟩) hn).uI (Or.inr (Or.inl ⟨rfl, rfl⟩)) hn).uI (Or.inr (Or.inr (Or.inl ⟨rfl, rfl⟩))) hn).uI (Or.inr (Or.inr (Or.inr ⟨rfl, rfl⟩))) hn).uB hn).uF (Or.inr (Or.inr (Or.inr (Or.inr ⟨rfl, rfl⟩))))) (((((((Fr.rf.I (by omega) (by omega)).I (by omega) (by omega)).I (by omega) (by omega)).I (by omega) (by omega)).F (by omega) (by omega)).F (by omega) (by omega)))
/-- the place of a part -/
def pj (w : Nat) : Nat := if w = 2 then 4 else w
theorem c_X5_changePart {d : Nat} {F I : Nat → Nat → Int32} {J : Nat → Nat → Int64} {Q : Option Value → sm_H → Prop} {t : Nat} (ht : isT t) {f : rw_} (hw : WF f) (hT : Tw t f F I) {i w v : Nat} (hi : i < 10) (h4 : w < 4) (hv : w = 3 → v ≤ 1) (k : ∀ F1 I1 : Nat → Nat → Int32, Tw t (fu f (5 * i + pj w) v) F1 I1 → Fr t F I F1 I1 → Q none (S0, F1, I1, J)) : Wp mX5_changePart (d + 1) 0 0 0 (sm_ini [.ref t, .int (nI i), .int (nI w), .int (nI v)] 4) [] (S0, F, I, J) Q := by
  show Wp _ _ _ _ _ [.ref t, .int (nI i), .int (nI w), .int (nI v)] _ _ _
  have hn := hw.n
  have hbn := bn_1024 hw
  rcases (show w = 0 ∨ w = 1 ∨ w = 2 ∨ w = 3 by omega) with rfl | rfl | rfl | rfl
  · refine wp_iload_n (pc := 0) 2 dX5_changePart_0 rfl rfl ?_
    refine wp_tswI (pc := 1) 0 28 dX5_changePart_1 (by decide) (by decide) rfl (by decide) ?_
    refine wp_aload_n (pc := 28) 0 dX5_changePart_28 rfl rfl ?_
    refine wq_getR (pc := 29) 15 1 dX5_changePart_29 (tT ht) flX5_15 rfl rfl ht.lt (ht.ltn 1) ?_
    refine wp_iload_n (pc := 32) 1 dX5_changePart_32 rfl rfl ?_
    refine wp_iload_n (pc := 33) 3 dX5_changePart_33 rfl rfl ?_
    refine wc_SN_RII (pc := 34) dX5_changePart_34 lkX5_67 (by decide) (Nat.le_of_ble_eq_true rfl) ?_
    refine c_X6_put (tT1 ht) (ht.ltn 1) (by decide) hi ?_
    refine wp_goto (pc := 37) 79 dX5_changePart_37 (by decide) ?_
    refine wp_ret (pc := 79) dX5_changePart_79 rfl ?_
    exact k _ _ (hT.uI (Or.inl ⟨rfl, rfl⟩) hi) (Fr.rf.I (by omega) (by omega))
  · refine wp_iload_n (pc := 0) 2 dX5_changePart_0 rfl rfl ?_
    refine wp_tswI (pc := 1) 1 40 dX5_changePart_1 (by decide) (by decide) rfl (by decide) ?_
    refine wp_aload_n (pc := 40) 0 dX5_changePart_40 rfl rfl ?_
    refine wq_getR (pc := 41) 19 2 dX5_changePart_41 (tT ht) flX5_19 rfl rfl ht.lt (ht.ltn 2) ?_
    refine wp_iload_n (pc := 44) 1 dX5_changePart_44 rfl rfl ?_
    refine wp_iload_n (pc := 45) 3 dX5_changePart_45 rfl rfl ?_
    refine wc_SN_RII (pc := 46) dX5_changePart_46 lkX5_67 (by decide) (Nat.le_of_ble_eq_true rfl) ?_
    refine c_X6_put (tT2 ht) (ht.ltn 2) (by decide) hi ?_
    refine wp_goto (pc := 49) 79 dX5_changePart_49 (by decide) ?_
    refine wp_ret (pc := 79) dX5_changePart_79 rfl ?_
    exact k _ _ (hT.uI (Or.inr (Or.inl ⟨rfl, rfl⟩)) hi) (Fr.rf.I (by omega) (by omega))
  · refine wp_iload_n (pc := 0) 2 dX5_changePart_0 rfl rfl ?_
    refine wp_tswI (pc := 1) 2 52 dX5_changePart_1 (by decide) (by decide) rfl (by decide) ?_
    refine wp_aload_n (pc := 52) 0 dX5_changePart_52 rfl rfl ?_
    refine wq_getR (pc := 53) 22 3 dX5_changePart_53 (tT ht) flX5_22 rfl rfl ht.lt (ht.ltn 3) ?_
    refine wp_iload_n (pc := 56) 1 dX5_changePart_56 rfl rfl ?_
    refine wp_iload_n (pc := 57) 3 dX5_changePart_57 rfl rfl ?_
    refine wc_SN_RII (pc := 58) dX5_changePart_58 lkX5_67 (by decide) (Nat.le_of_ble_eq_true rfl) ?_
    refine c_X6_put (tT3 ht) (ht.ltn 3) (by decide) hi ?_
    refine wp_goto (pc := 61) 79 dX5_changePart_61 (by decide) ?_
    refine wp_ret (pc := 79) dX5_changePart_79 rfl ?_
    exact k _ _ (hT.uI (Or.inr (Or.inr (Or.inl ⟨rfl, rfl⟩))) hi) (Fr.rf.I (by omega) (by omega))
  · refine wp_iload_n (pc := 0) 2 dX5_changePart_0 rfl rfl ?_
    refine wp_tswO (pc := 1) 64 dX5_changePart_1 (by decide) (by decide) ?_
    refine wp_aload_n (pc := 64) 0 dX5_changePart_64 rfl rfl ?_
    refine wp_iload_n (pc := 65) 1 dX5_changePart_65 rfl rfl ?_
    refine wp_iload_n (pc := 66) 3 dX5_changePart_66 rfl rfl ?_
    refine wp_iconst (pc := 67) (1) dX5_changePart_67 (by decide) ?_
    refine wp_icmp_ne (pc := 68) 75 dX5_changePart_68 (by decide) (fun c_68 => ?_) (fun c_68 => ?_)
    · refine wp_iconst (pc := 75) (0) dX5_changePart_75 (by decide) ?_
      refine wc_V_II (pc := 76) dX5_changePart_76 lkX5_93 (sm_Rc.o (ci := 4) (tT ht) (by decide) ht.lt) (by decide) (Nat.le_of_ble_eq_true rfl) ?_
      refine c_X5_tellBeen (b := false) ht hw hT hi (fun F1 hT1 hF1 => ?_)
      refine wp_ret (pc := 79) dX5_changePart_79 rfl ?_
      have e : v = 0 := by
        have : ¬ v = 1 := fun z => c_68 (by rw [z]; rfl)
        have := hv rfl
        omega
      subst e
      exact k _ _ hT1 hF1
    · refine wp_iconst (pc := 71) (1) dX5_changePart_71 (by decide) ?_
      refine wp_goto (pc := 72) 76 dX5_changePart_72 (by decide) ?_
      refine wc_V_II (pc := 76) dX5_changePart_76 lkX5_93 (sm_Rc.o (ci := 4) (tT ht) (by decide) ht.lt) (by decide) (Nat.le_of_ble_eq_true rfl) ?_
      refine c_X5_tellBeen (b := true) ht hw hT hi (fun F1 hT1 hF1 => ?_)
      refine wp_ret (pc := 79) dX5_changePart_79 rfl ?_
      have e : v = 1 := (nI_eq (b := 1) (by have := hv rfl; omega) (by decide)).mp c_68
      subst e
      exact k _ _ hT1 hF1
theorem c_X5_changeTold {d : Nat} {F I : Nat → Nat → Int32} {J : Nat → Nat → Int64} {Q : Option Value → sm_H → Prop} {t : Nat} (ht : isT t) {f : rw_} (hw : WF f) (hT : Tw t f F I) {w v : Nat} (h3 : w < 3) (k : ∀ F1 : Nat → Nat → Int32, Tw t (fu f (70 + w) v) F1 I → Fr t F I F1 I → Q none (S0, F1, I, J)) : Wp mX5_changeTold (d) 0 0 0 (sm_ini [.ref t, .int (nI w), .int (nI v)] 3) [] (S0, F, I, J) Q := by
  show Wp _ _ _ _ _ [.ref t, .int (nI w), .int (nI v)] _ _ _
  have hn := hw.n
  have hbn := bn_1024 hw
  rcases (show w = 0 ∨ w = 1 ∨ w = 2 by omega) with rfl | rfl | rfl
  · refine wp_iload_n (pc := 0) 1 dX5_changeTold_0 rfl rfl ?_
    refine wp_lookup (pc := 1) (off := 27) 28 dX5_changeTold_1 (by decide) (by decide) (by decide) ?_
    refine wp_aload_n (pc := 28) 0 dX5_changeTold_28 rfl rfl ?_
    refine wp_iload_n (pc := 29) 2 dX5_changeTold_29 rfl rfl ?_
    refine wq_putI (pc := 30) 31 6 dX5_changeTold_30 (tT ht) flX5_31 rfl rfl ht.lt ?_
    refine wp_goto (pc := 33) 49 dX5_changeTold_33 (by decide) ?_
    refine wp_ret (pc := 49) dX5_changeTold_49 rfl ?_
    exact k _ (hT.uF (Or.inl ⟨rfl, rfl⟩)) (Fr.rf.F (by omega) (by omega))
  · refine wp_iload_n (pc := 0) 1 dX5_changeTold_0 rfl rfl ?_
    refine wp_lookup (pc := 1) (off := 35) 36 dX5_changeTold_1 (by decide) (by decide) (by decide) ?_
    refine wp_aload_n (pc := 36) 0 dX5_changeTold_36 rfl rfl ?_
    refine wp_iload_n (pc := 37) 2 dX5_changeTold_37 rfl rfl ?_
    refine wq_putI (pc := 38) 34 7 dX5_changeTold_38 (tT ht) flX5_34 rfl rfl ht.lt ?_
    refine wp_goto (pc := 41) 49 dX5_changeTold_41 (by decide) ?_
    refine wp_ret (pc := 49) dX5_changeTold_49 rfl ?_
    exact k _ (hT.uF (Or.inr (Or.inl ⟨rfl, rfl⟩))) (Fr.rf.F (by omega) (by omega))
  · refine wp_iload_n (pc := 0) 1 dX5_changeTold_0 rfl rfl ?_
    refine wp_lookup (pc := 1) (off := 43) 44 dX5_changeTold_1 (by decide) (by decide) (by decide) ?_
    refine wp_aload_n (pc := 44) 0 dX5_changeTold_44 rfl rfl ?_
    refine wp_iload_n (pc := 45) 2 dX5_changeTold_45 rfl rfl ?_
    refine wq_putI (pc := 46) 37 8 dX5_changeTold_46 (tT ht) flX5_37 rfl rfl ht.lt ?_
    refine wp_ret (pc := 49) dX5_changeTold_49 rfl ?_
    exact k _ (hT.uF (Or.inr (Or.inr (Or.inl ⟨rfl, rfl⟩)))) (Fr.rf.F (by omega) (by omega))
theorem c_X5_passDay {d : Nat} {F I : Nat → Nat → Int32} {J : Nat → Nat → Int64} {Q : Option Value → sm_H → Prop} {t : Nat} (ht : isT t) {f : rw_} (hw : WF f) (hT : Tw t f F I)  (k : ∀ F1 : Nat → Nat → Int32, Tw t (fu f 70 ((f 70 + 1) % 4)) F1 I → Fr t F I F1 I → Q none (S0, F1, I, J)) : Wp mX5_passDay (d) 0 0 0 (sm_ini [.ref t] 1) [] (S0, F, I, J) Q := by
  show Wp _ _ _ _ _ [.ref t] _ _ _
  have hh := hw.wth
  refine wp_aload_n (pc := 0) 0 dX5_passDay_0 rfl rfl ?_
  refine wp_aload_n (pc := 1) 0 dX5_passDay_1 rfl rfl ?_
  refine wq_getI (pc := 2) 31 6 dX5_passDay_2 (tT ht) flX5_31 rfl ht.lt ?_
  refine wp_int hT.wth ?_
  refine wp_iconst (pc := 5) (1) dX5_passDay_5 (by decide) ?_
  refine wp_iadd (pc := 6) dX5_passDay_6 ?_
  refine wp_int (nI_1 _) ?_
  refine wp_iconst (pc := 7) (4) dX5_passDay_7 (by decide) ?_
  refine wp_irem (pc := 8) dX5_passDay_8 (by decide) ?_
  refine wp_int (pk_rem (d := 4) (by omega) (by decide) (by decide)) ?_
  refine wq_putI (pc := 9) 31 6 dX5_passDay_9 (tT ht) flX5_31 rfl rfl ht.lt ?_
  refine wp_ret (pc := 12) dX5_passDay_12 rfl ?_
  exact k _ (hT.uF (Or.inl ⟨rfl, rfl⟩)) (Fr.rf.F (by omega) (by omega))
/-- SEED behind a draw -/
noncomputable def sd (s : Nat) : Nat := Classical.choose (⟨_, rfl⟩ : ∃ v, v = (s * 1103515245 + 12345) % 2 ^ 32)
theorem sd_eq (s : Nat) : sd s = (s * 1103515245 + 12345) % 2 ^ 32 := Classical.choose_spec (⟨_, rfl⟩ : ∃ v, v = (s * 1103515245 + 12345) % 2 ^ 32)
theorem sd_lt (s : Nat) : sd s < 2 ^ 32 := by rw [sd_eq]; exact Nat.mod_lt _ (by decide)
theorem nI_mod (x : Nat) : nI (x % 2 ^ 32) = nI x := i32_ext (by
  rw [nI_bv, nI_bv]
  apply BitVec.eq_of_toNat_eq
  simp)
theorem sd_nI (s : Nat) : nI s * 1103515245 + 12345 = nI (sd s) := by
  rw [sd_eq, nI_mod, ← nI_add, ← pk_mul]; rfl
noncomputable def dr (s n : Nat) : Nat := Classical.choose (⟨_, rfl⟩ : ∃ v, v = sd s / 2 ^ 16 % n)
theorem dr_eq (s n : Nat) : dr s n = sd s / 2 ^ 16 % n := Classical.choose_spec (⟨_, rfl⟩ : ∃ v, v = sd s / 2 ^ 16 % n)
theorem us16 : ((16 : Int32).toUInt32 &&& Int32.toUInt32 31).toBitVec % 32 = 16 := by decide
theorem dr_lt {s n : Nat} (h : 0 < n) : dr s n < n := by rw [dr_eq]; exact Nat.mod_lt _ h
theorem c_X5_draw {d : Nat} {F I : Nat → Nat → Int32} {J : Nat → Nat → Int64} {Q : Option Value → sm_H → Prop} {t : Nat} (ht : isT t) {f : rw_} (hw : WF f) (hT : Tw t f F I) {n : Nat} (h0 : 0 < n) (hn1 : n ≤ 100) (k : ∀ F1 : Nat → Nat → Int32, Tw t (fu f 73 (sd (f 73))) F1 I → Fr t F I F1 I → Q (some (.int (nI (dr (f 73) n)))) (S0, F1, I, J)) : Wp mX5_draw (d) 0 0 0 (sm_ini [.ref t, .int (nI n)] 2) [] (S0, F, I, J) Q := by
  show Wp _ _ _ _ _ [.ref t, .int (nI n)] _ _ _
  refine wp_iload_n (pc := 0) 1 dX5_draw_0 rfl rfl ?_
  refine wp_ifgt (pc := 1) 6 dX5_draw_1 (by decide) (fun c_1 => ?_) (fun c_1 => ?_)
  · refine wp_aload_n (pc := 6) 0 dX5_draw_6 rfl rfl ?_
    refine wp_aload_n (pc := 7) 0 dX5_draw_7 rfl rfl ?_
    refine wq_getI (pc := 8) 40 9 dX5_draw_8 (tT ht) flX5_40 rfl ht.lt ?_
    refine wp_int hT.seed ?_
    refine wp_ldc (pc := 11) _ dX5_draw_11 koX5_106 ?_
    refine wp_imul (pc := 13) dX5_draw_13 ?_
    refine wp_sipush (pc := 14) (12345) dX5_draw_14 (by decide) ?_
    refine wp_iadd (pc := 17) dX5_draw_17 ?_
    refine wp_int (sd_nI _) ?_
    refine wq_putI (pc := 18) 40 9 dX5_draw_18 (tT ht) flX5_40 rfl rfl ht.lt ?_
    refine wp_aload_n (pc := 21) 0 dX5_draw_21 rfl rfl ?_
    refine wq_getI (pc := 22) 40 9 dX5_draw_22 (tT ht) flX5_40 rfl ht.lt ?_
    refine wp_int (y := nI (sd (f 73))) (by rw [up_eq]) ?_
    refine wp_bipush (pc := 25) (16) dX5_draw_25 (by decide) ?_
    refine wp_iushr (pc := 27) dX5_draw_27 ?_
    refine wp_int (pk_ushrN (sd_lt _) 16 16 (by rw [us16]; rfl)) ?_
    refine wp_iload_n (pc := 28) 1 dX5_draw_28 rfl rfl ?_
    refine wp_irem (pc := 29) dX5_draw_29 (nI_ne0 h0 (by omega)) ?_
    refine wp_int (y := nI (dr (f 73) n)) ((pk_rem (by have := sd_lt (f 73); omega) h0 (by omega)).trans (by rw [dr_eq])) ?_
    refine wp_iretI (pc := 30) dX5_draw_30 rfl ?_
    exact k _ (hT.uF (Or.inr (Or.inr (Or.inr (Or.inl ⟨rfl, rfl⟩))))) (Fr.rf.F (by omega) (by omega))
  · exact absurd (show nI n > 0 from (nI_ltI (a := 0) (by decide) (by omega)).mpr h0) c_1
/-- a thing is rung, back or forwards -/
def rgT (f : rw_) (i : Nat) : rw_ := if (bn f).testBit i = true then fu f (5 * i + 3) 0 else fu (fu (fu f (5 * i + 3) 1) (5 * i + 1) (f 70)) (5 * i + 4) (f (5 * i + 4) - 1)
theorem ag1 {a : Nat} (h : a ≤ 99) : (if 0 < nI a - 1 then nI a - 1 else 0) = nI (a - 1) := (by decide +kernel : ∀ a : Fin 100, (if 0 < nI a.val - 1 then nI a.val - 1 else 0) = nI (a.val - 1)) ⟨a, by omega⟩
theorem WF_rgT {f : rw_} (hw : WF f) {i : Nat} (hi : i < f 68) : WF (rgT f i) := by
  have hn := hw.n
  unfold rgT
  split
  · exact WF_been hw hi (by decide)
  · have h1 := WF_been hw hi (v := 1) (by decide)
    have h2 := WF_rung h1 (i := i) (v := f 70) (by omega) hw.wth
    exact WF_age h2 (by omega) (by have := hw.age (i := i) (by omega); omega)
theorem c_X5_ringThing {d : Nat} {F I : Nat → Nat → Int32} {J : Nat → Nat → Int64} {Q : Option Value → sm_H → Prop} {t : Nat} (ht : isT t) {f : rw_} (hw : WF f) (hT : Tw t f F I) {i : Nat} (hi : i < 10) (k : ∀ F1 I1 : Nat → Nat → Int32, Tw t (rgT f i) F1 I1 → Fr t F I F1 I1 → Q none (S0, F1, I1, J)) : Wp mX5_ringThing (d + 1) 0 0 0 (sm_ini [.ref t, .int (nI i)] 2) [] (S0, F, I, J) Q := by
  show Wp _ _ _ _ _ [.ref t, .int (nI i)] _ _ _
  have hb := bn_1024 hw
  have ha := hw.age hi
  refine wp_aload_n (pc := 0) 0 dX5_ringThing_0 rfl rfl ?_
  refine wq_getI (pc := 1) 28 5 dX5_ringThing_1 (tT ht) flX5_28 rfl ht.lt ?_
  refine wp_int hT.been ?_
  refine wp_iload_n (pc := 4) 1 dX5_ringThing_4 rfl rfl ?_
  refine wc_SN_II (pc := 5) dX5_ringThing_5 lkX5_97 (by decide) (Nat.le_of_ble_eq_true rfl) ?_
  refine c_X6_isIn (by omega) (by omega) ?_
  refine wp_ifeqB (pc := 8) 18 dX5_ringThing_8 (by decide) (fun c_8 => ?_) (fun c_8 => ?_)
  · refine wp_aload_n (pc := 18) 0 dX5_ringThing_18 rfl rfl ?_
    refine wp_iload_n (pc := 19) 1 dX5_ringThing_19 rfl rfl ?_
    refine wp_iconst (pc := 20) (1) dX5_ringThing_20 (by decide) ?_
    refine wc_V_II (pc := 21) dX5_ringThing_21 lkX5_93 (sm_Rc.o (ci := 4) (tT ht) (by decide) ht.lt) (by decide) (Nat.le_of_ble_eq_true rfl) ?_
    refine c_X5_tellBeen (b := true) ht hw hT hi (fun F1 hT1 hF1 => ?_)
    refine wp_aload_n (pc := 24) 0 dX5_ringThing_24 rfl rfl ?_
    refine wq_getR (pc := 25) 19 2 dX5_ringThing_25 (tT ht) flX5_19 rfl rfl ht.lt (ht.ltn 2) ?_
    refine wp_iload_n (pc := 28) 1 dX5_ringThing_28 rfl rfl ?_
    refine wp_aload_n (pc := 29) 0 dX5_ringThing_29 rfl rfl ?_
    refine wq_getI (pc := 30) 31 6 dX5_ringThing_30 (tT ht) flX5_31 rfl ht.lt ?_
    refine wp_int hT1.wth ?_
    refine wp_int (show nI (fu f (5 * i + 3) 1 70) = nI (f 70) by rw [fu_ne (by omega)]) ?_
    refine wc_SN_RII (pc := 33) dX5_ringThing_33 lkX5_67 (by decide) (Nat.le_of_ble_eq_true rfl) ?_
    refine c_X6_put (tT2 ht) (ht.ltn 2) (by decide) hi ?_
    have hT2 := hT1.uI (k := t + 2) (i := i) (j := 5 * i + 1) (v := f 70) (Or.inr (Or.inl ⟨rfl, rfl⟩)) hi
    refine wp_aload_n (pc := 36) 0 dX5_ringThing_36 rfl rfl ?_
    refine wq_getR (pc := 37) 22 3 dX5_ringThing_37 (tT ht) flX5_22 rfl rfl ht.lt (ht.ltn 3) ?_
    refine wp_iload_n (pc := 40) 1 dX5_ringThing_40 rfl rfl ?_
    refine wp_iconst (pc := 41) (0) dX5_ringThing_41 (by decide) ?_
    refine wp_aload_n (pc := 42) 0 dX5_ringThing_42 rfl rfl ?_
    refine wq_getR (pc := 43) 22 3 dX5_ringThing_43 (tT ht) flX5_22 rfl rfl ht.lt (ht.ltn 3) ?_
    refine wp_iload_n (pc := 46) 1 dX5_ringThing_46 rfl rfl ?_
    refine wc_SN_RI (pc := 47) dX5_ringThing_47 lkX5_71 (by decide) (Nat.le_of_ble_eq_true rfl) ?_
    refine c_X6_at (tT3 ht) (ht.ltn 3) (by decide) hi ?_
    refine wp_int (hT2.age hi) ?_
    refine wp_int (show nI (fu (fu f (5 * i + 3) 1) (5 * i + 1) (f 70) (5 * i + 4)) = nI (f (5 * i + 4)) by rw [fu_ne (by omega), fu_ne (by omega)]) ?_
    refine wp_iconst (pc := 50) (1) dX5_ringThing_50 (by decide) ?_
    refine wp_isub (pc := 51) dX5_ringThing_51 ?_
    refine wc_S_II (pc := 52) dX5_ringThing_52 lkX5_101 (by decide) (Nat.le_of_ble_eq_true rfl) ?_
    refine c_J9_max_7cf53 ?_
    refine wp_int (ag1 ha) ?_
    refine wc_SN_RII (pc := 55) dX5_ringThing_55 lkX5_67 (by decide) (Nat.le_of_ble_eq_true rfl) ?_
    refine c_X6_put (tT3 ht) (ht.ltn 3) (by decide) hi ?_
    refine wp_ret (pc := 58) dX5_ringThing_58 rfl ?_
    rw [show rgT f i = fu (fu (fu f (5 * i + 3) 1) (5 * i + 1) (f 70)) (5 * i + 4) (f (5 * i + 4) - 1) by unfold rgT; rw [if_neg (by rw [c_8]; decide)]] at k
    exact k _ _ (hT2.uI (Or.inr (Or.inr (Or.inl ⟨rfl, rfl⟩))) hi) ((hF1.I (by omega) (by omega)).I (by omega) (by omega))
  · refine wp_aload_n (pc := 11) 0 dX5_ringThing_11 rfl rfl ?_
    refine wp_iload_n (pc := 12) 1 dX5_ringThing_12 rfl rfl ?_
    refine wp_iconst (pc := 13) (0) dX5_ringThing_13 (by decide) ?_
    refine wc_V_II (pc := 14) dX5_ringThing_14 lkX5_93 (sm_Rc.o (ci := 4) (tT ht) (by decide) ht.lt) (by decide) (Nat.le_of_ble_eq_true rfl) ?_
    refine c_X5_tellBeen (b := false) ht hw hT hi (fun F1 hT1 hF1 => ?_)
    refine wp_ret (pc := 17) dX5_ringThing_17 rfl ?_
    rw [show rgT f i = fu f (5 * i + 3) 0 by unfold rgT; rw [if_pos c_8]] at k
    exact k _ _ hT1 hF1
