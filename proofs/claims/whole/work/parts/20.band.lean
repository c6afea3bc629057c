/-! ===== the developers' ringers ===== -/
def slipN (kd a b ck : Nat) : Nat := if kd = 1 then 3 * (10 + a) else if kd = 2 then 10 else if kd = 3 then (3 * (10 + a) + 1) / 2 else if kd = 4 then 5 else if kd = 5 then (if ck.testBit b = true then 50 else 10 + a) else 10 + a
def slp (f : rw_) (r : Nat) : Nat := slipN (f (50 + 3 * r)) (f (50 + 3 * r + 1)) (f (50 + 3 * r + 2)) (f 72)
theorem slipN_le {kd a b ck : Nat} (ha : a ≤ 9) : slipN kd a b ck ≤ 57 := by
  unfold slipN
  repeat' split
  all_goals omega
theorem slp_le {f : rw_} (hw : WF f) {r : Nat} (hr : r < 6) : slp f r ≤ 57 := slipN_le (hw.a hr)
theorem sw_nI {v : Nat} (hv : v ≤ 99) : (if 0 < (if nI v < 99 then nI v else 99) then (if nI v < 99 then nI v else 99) else 0) = nI v := (by decide +kernel : ∀ v : Fin 100, (if 0 < (if nI v.val < 99 then nI v.val else 99) then (if nI v.val < 99 then nI v.val else 99) else 0) = nI v.val) ⟨v, by omega⟩
theorem c_X0_slipWithin {d : Nat} {h : sm_H} {Q : Option Value → sm_H → Prop} {v : Nat} (hv : v ≤ 99) (k : Q (some (.int (nI v))) h) : Wp mX0_slipWithin (d + 1) 0 0 0 (sm_ini [.int (nI v)] 1) [] h Q := by
  show Wp _ _ _ _ _ [.int (nI v)] _ _ _
  refine wp_iconst (pc := 0) (0) dX0_slipWithin_0 (by decide) ?_
  refine wp_bipush (pc := 1) (99) dX0_slipWithin_1 (by decide) ?_
  refine wp_iload_n (pc := 3) 0 dX0_slipWithin_3 rfl rfl ?_
  refine wc_S_II (pc := 4) dX0_slipWithin_4 lkX0_47 (by decide) (Nat.le_of_ble_eq_true rfl) ?_
  refine c_J9_min_7cf53 ?_
  refine wc_S_II (pc := 7) dX0_slipWithin_7 lkX0_53 (by decide) (Nat.le_of_ble_eq_true rfl) ?_
  refine c_J9_max_7cf53 ?_
  refine wp_int (sw_nI hv) ?_
  refine wp_iretI (pc := 10) dX0_slipWithin_10 rfl ?_
  exact k
theorem c_X0_kindOf {d : Nat} {F I : Nat → Nat → Int32} {J : Nat → Nat → Int64} {Q : Option Value → sm_H → Prop} {t : Nat} (ht : isT t) {f : rw_} (hw : WF f) (hT : Tw t f F I) {r : Nat} (hr : r < 6) (k : Q (some (.int (nI (f (50 + 3 * r))))) (S0, F, I, J)) : Wp mX0_kindOf (d + 1) 0 0 0 (sm_ini [.ref (t + 5), .int (nI r)] 2) [] (S0, F, I, J) Q := by
  show Wp _ _ _ _ _ [.ref (t + 5), .int (nI r)] _ _ _
  refine wp_aload_n (pc := 0) 0 dX0_kindOf_0 rfl rfl ?_
  refine wq_getR (pc := 1) 15 1 dX0_kindOf_1 (tT5 ht) flX0_15 rfl rfl (ht.ltn 5) (ht.ltn 6) ?_
  refine wp_iload_n (pc := 4) 1 dX0_kindOf_4 rfl rfl ?_
  refine wc_SN_RI (pc := 5) dX0_kindOf_5 lkX0_39 (by decide) (Nat.le_of_ble_eq_true rfl) ?_
  refine c_X6_at (tT6 ht) (ht.ltn 6) (by decide) hr ?_
  refine wp_int (hT.kind hr) ?_
  refine wp_iretI (pc := 8) dX0_kindOf_8 rfl ?_
  exact k
theorem c_X0_aOf {d : Nat} {F I : Nat → Nat → Int32} {J : Nat → Nat → Int64} {Q : Option Value → sm_H → Prop} {t : Nat} (ht : isT t) {f : rw_} (hw : WF f) (hT : Tw t f F I) {r : Nat} (hr : r < 6) (k : Q (some (.int (nI (f (50 + 3 * r + 1))))) (S0, F, I, J)) : Wp mX0_aOf (d + 1) 0 0 0 (sm_ini [.ref (t + 5), .int (nI r)] 2) [] (S0, F, I, J) Q := by
  show Wp _ _ _ _ _ [.ref (t + 5), .int (nI r)] _ _ _
  refine wp_aload_n (pc := 0) 0 dX0_aOf_0 rfl rfl ?_
  refine wq_getR (pc := 1) 19 2 dX0_aOf_1 (tT5 ht) flX0_19 rfl rfl (ht.ltn 5) (ht.ltn 7) ?_
  refine wp_iload_n (pc := 4) 1 dX0_aOf_4 rfl rfl ?_
  refine wc_SN_RI (pc := 5) dX0_aOf_5 lkX0_39 (by decide) (Nat.le_of_ble_eq_true rfl) ?_
  refine c_X6_at (tT7 ht) (ht.ltn 7) (by decide) hr ?_
  refine wp_int (hT.a hr) ?_
  refine wp_iretI (pc := 8) dX0_aOf_8 rfl ?_
  exact k
theorem c_X0_bellOf {d : Nat} {F I : Nat → Nat → Int32} {J : Nat → Nat → Int64} {Q : Option Value → sm_H → Prop} {t : Nat} (ht : isT t) {f : rw_} (hw : WF f) (hT : Tw t f F I) {r : Nat} (hr : r < 6) (k : Q (some (.int (nI (f (50 + 3 * r + 2))))) (S0, F, I, J)) : Wp mX0_bellOf (d + 1) 0 0 0 (sm_ini [.ref (t + 5), .int (nI r)] 2) [] (S0, F, I, J) Q := by
  show Wp _ _ _ _ _ [.ref (t + 5), .int (nI r)] _ _ _
  refine wp_aload_n (pc := 0) 0 dX0_bellOf_0 rfl rfl ?_
  refine wq_getR (pc := 1) 22 3 dX0_bellOf_1 (tT5 ht) flX0_22 rfl rfl (ht.ltn 5) (ht.ltn 8) ?_
  refine wp_iload_n (pc := 4) 1 dX0_bellOf_4 rfl rfl ?_
  refine wc_SN_RI (pc := 5) dX0_bellOf_5 lkX0_39 (by decide) (Nat.le_of_ble_eq_true rfl) ?_
  refine c_X6_at (tT8 ht) (ht.ltn 8) (by decide) hr ?_
  refine wp_int (hT.bell hr) ?_
  refine wp_iretI (pc := 8) dX0_bellOf_8 rfl ?_
  exact k
theorem c_X0_everyRinger {d : Nat} {F I : Nat → Nat → Int32} {J : Nat → Nat → Int64} {Q : Option Value → sm_H → Prop} {t : Nat} (ht : isT t) {f : rw_} (hw : WF f) (hT : Tw t f F I)  (k : Q (some (.int (nI (2 ^ f 69 - 1)))) (S0, F, I, J)) : Wp mX0_everyRinger (d) 0 0 0 (sm_ini [.ref (t + 5)] 1) [] (S0, F, I, J) Q := by
  show Wp _ _ _ _ _ [.ref (t + 5)] _ _ _
  have hn := hw.c
  refine wp_iconst (pc := 0) (1) dX0_everyRinger_0 (by decide) ?_
  refine wp_aload_n (pc := 1) 0 dX0_everyRinger_1 rfl rfl ?_
  refine wq_getI (pc := 2) 9 0 dX0_everyRinger_2 (tT5 ht) flX0_9 rfl (ht.ltn 5) ?_
  refine wp_int hT.crew ?_
  refine wp_ishl (pc := 5) dX0_everyRinger_5 ?_
  refine wp_iconst (pc := 6) (1) dX0_everyRinger_6 (by decide) ?_
  refine wp_isub (pc := 7) dX0_everyRinger_7 ?_
  refine wp_int (bt_all (by omega)) ?_
  refine wp_iretI (pc := 8) dX0_everyRinger_8 rfl ?_
  exact k
theorem c_X0_isRinger {d : Nat} {F I : Nat → Nat → Int32} {J : Nat → Nat → Int64} {Q : Option Value → sm_H → Prop} {t : Nat} (ht : isT t) {f : rw_} (hw : WF f) (hT : Tw t f F I) {x : Int32} (k : Q (some (.int (b2 (decide (0 ≤ x ∧ x < nI (f 69)))))) (S0, F, I, J)) : Wp mX0_isRinger (d) 0 0 0 (sm_ini [.ref (t + 5), .int x] 2) [] (S0, F, I, J) Q := by
  show Wp _ _ _ _ _ [.ref (t + 5), .int x] _ _ _
  refine wp_iload_n (pc := 0) 1 dX0_isRinger_0 rfl rfl ?_
  refine wp_iflt (pc := 1) 16 dX0_isRinger_1 (by decide) (fun c_1 => ?_) (fun c_1 => ?_)
  · refine wp_iconst (pc := 16) (0) dX0_isRinger_16 (by decide) ?_
    refine wp_iret (pc := 17) dX0_isRinger_17 ⟨_, rfl, by decide⟩ ?_
    rw [decide_eq_false (fun z => absurd c_1 (i32_nlt.mpr z.1))] at k; exact k
  · refine wp_iload_n (pc := 4) 1 dX0_isRinger_4 rfl rfl ?_
    refine wp_aload_n (pc := 5) 0 dX0_isRinger_5 rfl rfl ?_
    refine wq_getI (pc := 6) 9 0 dX0_isRinger_6 (tT5 ht) flX0_9 rfl (ht.ltn 5) ?_
    refine wp_int hT.crew ?_
    refine wp_icmp_ge (pc := 9) 16 dX0_isRinger_9 (by decide) (fun c_9 => ?_) (fun c_9 => ?_)
    · refine wp_iconst (pc := 16) (0) dX0_isRinger_16 (by decide) ?_
      refine wp_iret (pc := 17) dX0_isRinger_17 ⟨_, rfl, by decide⟩ ?_
      rw [decide_eq_false (fun z => absurd z.2 (i32_nlt.mpr c_9))] at k; exact k
    · refine wp_iconst (pc := 12) (1) dX0_isRinger_12 (by decide) ?_
      refine wp_goto (pc := 13) 17 dX0_isRinger_13 (by decide) ?_
      refine wp_iret (pc := 17) dX0_isRinger_17 ⟨_, rfl, by decide⟩ ?_
      rw [decide_eq_true ⟨i32_nlt.mp c_1, i32_nle.mp c_9⟩] at k; exact k
theorem c_X0_areRingers {d : Nat} {F I : Nat → Nat → Int32} {J : Nat → Nat → Int64} {Q : Option Value → sm_H → Prop} {t : Nat} (ht : isT t) {f : rw_} (hw : WF f) (hT : Tw t f F I) {x : Int32} (k : Q (some (.int (b2 (decide (0 ≤ x ∧ x < nI (2 ^ f 69)))))) (S0, F, I, J)) : Wp mX0_areRingers (d + 1) 0 0 0 (sm_ini [.ref (t + 5), .int x] 2) [] (S0, F, I, J) Q := by
  show Wp _ _ _ _ _ [.ref (t + 5), .int x] _ _ _
  have hc := hw.c
  refine wp_iload_n (pc := 0) 1 dX0_areRingers_0 rfl rfl ?_
  refine wp_aload_n (pc := 1) 0 dX0_areRingers_1 rfl rfl ?_
  refine wc_V_ (pc := 2) dX0_areRingers_2 lkX0_31 (sm_Rc.o (ci := 0) (tT5 ht) (by decide) (ht.ltn 5)) (by decide) (Nat.le_of_ble_eq_true rfl) ?_
  refine c_X0_everyRinger ht hw hT ?_
  refine wp_iconst (pc := 5) (-1) dX0_areRingers_5 (by decide) ?_
  refine wp_ixor (pc := 6) dX0_areRingers_6 ?_
  refine wp_iand (pc := 7) dX0_areRingers_7 ?_
  refine wp_ifne (pc := 8) 15 dX0_areRingers_8 (by decide) (fun c_8 => ?_) (fun c_8 => ?_)
  · refine wp_iconst (pc := 15) (0) dX0_areRingers_15 (by decide) ?_
    refine wp_iret (pc := 16) dX0_areRingers_16 ⟨_, rfl, by decide⟩ ?_
    rw [decide_eq_false (fun z => c_8 ((areT (by omega) x).mpr z))] at k; exact k
  · refine wp_iconst (pc := 11) (1) dX0_areRingers_11 (by decide) ?_
    refine wp_goto (pc := 12) 16 dX0_areRingers_12 (by decide) ?_
    refine wp_iret (pc := 16) dX0_areRingers_16 ⟨_, rfl, by decide⟩ ?_
    rw [decide_eq_true ((areT (by omega) x).mp c_8)] at k; exact k
theorem c_X0_hasRoom {d : Nat} {F I : Nat → Nat → Int32} {J : Nat → Nat → Int64} {Q : Option Value → sm_H → Prop} {t : Nat} (ht : isT t) {f : rw_} (hw : WF f) (hT : Tw t f F I)  (k : Q (some (.int (b2 (decide (f 69 < 6))))) (S0, F, I, J)) : Wp mX0_hasRoom (d) 0 0 0 (sm_ini [.ref (t + 5)] 1) [] (S0, F, I, J) Q := by
  show Wp _ _ _ _ _ [.ref (t + 5)] _ _ _
  have hn := hw.c
  refine wp_aload_n (pc := 0) 0 dX0_hasRoom_0 rfl rfl ?_
  refine wq_getI (pc := 1) 9 0 dX0_hasRoom_1 (tT5 ht) flX0_9 rfl (ht.ltn 5) ?_
  refine wp_int hT.crew ?_
  refine wp_bipush (pc := 4) (6) dX0_hasRoom_4 (by decide) ?_
  refine wp_icmp_ge (pc := 6) 13 dX0_hasRoom_6 (by decide) (fun c_6 => ?_) (fun c_6 => ?_)
  · refine wp_iconst (pc := 13) (0) dX0_hasRoom_13 (by decide) ?_
    refine wp_iret (pc := 14) dX0_hasRoom_14 ⟨_, rfl, by decide⟩ ?_
    rw [decide_eq_false (fun z => nI_ge (b := 6) z (by decide) c_6)] at k; exact k
  · refine wp_iconst (pc := 9) (1) dX0_hasRoom_9 (by decide) ?_
    refine wp_goto (pc := 10) 14 dX0_hasRoom_10 (by decide) ?_
    refine wp_iret (pc := 14) dX0_hasRoom_14 ⟨_, rfl, by decide⟩ ?_
    rw [decide_eq_true (Nat.lt_of_not_le fun z => c_6 (nI_le (a := 6) z (by omega)))] at k; exact k
theorem c_X0_slipAs {d : Nat} {F I : Nat → Nat → Int32} {J : Nat → Nat → Int64} {Q : Option Value → sm_H → Prop} {t : Nat} (ht : isT t) {f : rw_} (hw : WF f) (hT : Tw t f F I) {kd r ck : Nat} (hkd : kd < 6) (hr : r < 6) (hck : ck ≤ 255) (k : Q (some (.int (nI (slipN kd (f (50 + 3 * r + 1)) (f (50 + 3 * r + 2)) ck)))) (S0, F, I, J)) : Wp mX0_slipAs (d + 2) 0 0 0 (sm_ini [.ref (t + 5), .int (nI kd), .int (nI r), .int (nI ck)] 7) [] (S0, F, I, J) Q := by
  show Wp _ _ _ _ _ [.ref (t + 5), .int (nI kd), .int (nI r), .int (nI ck), .null, .null, .null] _ _ _
  have ha := hw.a hr
  have hbl := hw.bell hr
  rcases (show kd = 0 ∨ kd = 1 ∨ kd = 2 ∨ kd = 3 ∨ kd = 4 ∨ kd = 5 by omega) with rfl | rfl | rfl | rfl | rfl | rfl
  · refine wp_bipush (pc := 0) (10) dX0_slipAs_0 (by decide) ?_
    refine wp_aload_n (pc := 2) 0 dX0_slipAs_2 rfl rfl ?_
    refine wp_iload_n (pc := 3) 2 dX0_slipAs_3 rfl rfl ?_
    refine wc_V_I (pc := 4) dX0_slipAs_4 lkX0_56 (sm_Rc.o (ci := 0) (tT5 ht) (by decide) (ht.ltn 5)) (by decide) (Nat.le_of_ble_eq_true rfl) ?_
    refine c_X0_aOf ht hw hT hr ?_
    refine wp_iadd (pc := 7) dX0_slipAs_7 ?_
    refine wp_int (x := 10 + nI _) (nI_add 10 _) ?_
    refine wc_S_I (pc := 8) dX0_slipAs_8 lkX0_59 (by decide) (Nat.le_of_ble_eq_true rfl) ?_
    refine c_X0_slipWithin (by omega) ?_
    refine wp_istore (pc := 11) 4 dX0_slipAs_11 (by decide) rfl ?_
    refine wp_iconst (pc := 13) (3) dX0_slipAs_13 (by decide) ?_
    refine wp_iload (pc := 14) 4 dX0_slipAs_14 rfl ?_
    refine wp_imul (pc := 16) dX0_slipAs_16 ?_
    refine wp_int (x := 3 * nI _) (pk_mul 3 _) ?_
    refine wc_S_I (pc := 17) dX0_slipAs_17 lkX0_59 (by decide) (Nat.le_of_ble_eq_true rfl) ?_
    refine c_X0_slipWithin (by omega) ?_
    refine wp_istore (pc := 20) 5 dX0_slipAs_20 (by decide) rfl ?_
    refine wp_iload (pc := 22) 4 dX0_slipAs_22 rfl ?_
    refine wp_aload_n (pc := 24) 0 dX0_slipAs_24 rfl rfl ?_
    refine wp_iload_n (pc := 25) 2 dX0_slipAs_25 rfl rfl ?_
    refine wc_V_I (pc := 26) dX0_slipAs_26 lkX0_56 (sm_Rc.o (ci := 0) (tT5 ht) (by decide) (ht.ltn 5)) (by decide) (Nat.le_of_ble_eq_true rfl) ?_
    refine c_X0_aOf ht hw hT hr ?_
    refine wp_isub (pc := 29) dX0_slipAs_29 ?_
    refine wp_int (pk_sub (by omega)) ?_
    refine wc_S_I (pc := 30) dX0_slipAs_30 lkX0_59 (by decide) (Nat.le_of_ble_eq_true rfl) ?_
    refine c_X0_slipWithin (by omega) ?_
    refine wp_istore (pc := 33) 6 dX0_slipAs_33 (by decide) rfl ?_
    refine wp_iload_n (pc := 35) 1 dX0_slipAs_35 rfl rfl ?_
    refine wp_tswO (pc := 36) 116 dX0_slipAs_36 (by decide) (by decide) ?_
    refine wp_iload (pc := 116) 4 dX0_slipAs_116 rfl ?_
    refine wp_iretI (pc := 118) dX0_slipAs_118 rfl ?_
    exact k
  · refine wp_bipush (pc := 0) (10) dX0_slipAs_0 (by decide) ?_
    refine wp_aload_n (pc := 2) 0 dX0_slipAs_2 rfl rfl ?_
    refine wp_iload_n (pc := 3) 2 dX0_slipAs_3 rfl rfl ?_
    refine wc_V_I (pc := 4) dX0_slipAs_4 lkX0_56 (sm_Rc.o (ci := 0) (tT5 ht) (by decide) (ht.ltn 5)) (by decide) (Nat.le_of_ble_eq_true rfl) ?_
    refine c_X0_aOf ht hw hT hr ?_
    refine wp_iadd (pc := 7) dX0_slipAs_7 ?_
    refine wp_int (x := 10 + nI _) (nI_add 10 _) ?_
    refine wc_S_I (pc := 8) dX0_slipAs_8 lkX0_59 (by decide) (Nat.le_of_ble_eq_true rfl) ?_
    refine c_X0_slipWithin (by omega) ?_
    refine wp_istore (pc := 11) 4 dX0_slipAs_11 (by decide) rfl ?_
    refine wp_iconst (pc := 13) (3) dX0_slipAs_13 (by decide) ?_
    refine wp_iload (pc := 14) 4 dX0_slipAs_14 rfl ?_
    refine wp_imul (pc := 16) dX0_slipAs_16 ?_
    refine wp_int (x := 3 * nI _) (pk_mul 3 _) ?_
    refine wc_S_I (pc := 17) dX0_slipAs_17 lkX0_59 (by decide) (Nat.le_of_ble_eq_true rfl) ?_
    refine c_X0_slipWithin (by omega) ?_
    refine wp_istore (pc := 20) 5 dX0_slipAs_20 (by decide) rfl ?_
    refine wp_iload (pc := 22) 4 dX0_slipAs_22 rfl ?_
    refine wp_aload_n (pc := 24) 0 dX0_slipAs_24 rfl rfl ?_
    refine wp_iload_n (pc := 25) 2 dX0_slipAs_25 rfl rfl ?_
    refine wc_V_I (pc := 26) dX0_slipAs_26 lkX0_56 (sm_Rc.o (ci := 0) (tT5 ht) (by decide) (ht.ltn 5)) (by decide) (Nat.le_of_ble_eq_true rfl) ?_
    refine c_X0_aOf ht hw hT hr ?_
    refine wp_isub (pc := 29) dX0_slipAs_29 ?_
    refine wp_int (pk_sub (by omega)) ?_
    refine wc_S_I (pc := 30) dX0_slipAs_30 lkX0_59 (by decide) (Nat.le_of_ble_eq_true rfl) ?_
    refine c_X0_slipWithin (by omega) ?_
    refine wp_istore (pc := 33) 6 dX0_slipAs_33 (by decide) rfl ?_
    refine wp_iload_n (pc := 35) 1 dX0_slipAs_35 rfl rfl ?_
    refine wp_tswI (pc := 36) 0 72 dX0_slipAs_36 (by decide) (by decide) rfl (by decide) ?_
    refine wp_iload (pc := 72) 5 dX0_slipAs_72 rfl ?_
    refine wp_iretI (pc := 74) dX0_slipAs_74 rfl ?_
    exact k
  · refine wp_bipush (pc := 0) (10) dX0_slipAs_0 (by decide) ?_
    refine wp_aload_n (pc := 2) 0 dX0_slipAs_2 rfl rfl ?_
    refine wp_iload_n (pc := 3) 2 dX0_slipAs_3 rfl rfl ?_
    refine wc_V_I (pc := 4) dX0_slipAs_4 lkX0_56 (sm_Rc.o (ci := 0) (tT5 ht) (by decide) (ht.ltn 5)) (by decide) (Nat.le_of_ble_eq_true rfl) ?_
    refine c_X0_aOf ht hw hT hr ?_
    refine wp_iadd (pc := 7) dX0_slipAs_7 ?_
    refine wp_int (x := 10 + nI _) (nI_add 10 _) ?_
    refine wc_S_I (pc := 8) dX0_slipAs_8 lkX0_59 (by decide) (Nat.le_of_ble_eq_true rfl) ?_
    refine c_X0_slipWithin (by omega) ?_
    refine wp_istore (pc := 11) 4 dX0_slipAs_11 (by decide) rfl ?_
    refine wp_iconst (pc := 13) (3) dX0_slipAs_13 (by decide) ?_
    refine wp_iload (pc := 14) 4 dX0_slipAs_14 rfl ?_
    refine wp_imul (pc := 16) dX0_slipAs_16 ?_
    refine wp_int (x := 3 * nI _) (pk_mul 3 _) ?_
    refine wc_S_I (pc := 17) dX0_slipAs_17 lkX0_59 (by decide) (Nat.le_of_ble_eq_true rfl) ?_
    refine c_X0_slipWithin (by omega) ?_
    refine wp_istore (pc := 20) 5 dX0_slipAs_20 (by decide) rfl ?_
    refine wp_iload (pc := 22) 4 dX0_slipAs_22 rfl ?_
    refine wp_aload_n (pc := 24) 0 dX0_slipAs_24 rfl rfl ?_
    refine wp_iload_n (pc := 25) 2 dX0_slipAs_25 rfl rfl ?_
    refine wc_V_I (pc := 26) dX0_slipAs_26 lkX0_56 (sm_Rc.o (ci := 0) (tT5 ht) (by decide) (ht.ltn 5)) (by decide) (Nat.le_of_ble_eq_true rfl) ?_
    refine c_X0_aOf ht hw hT hr ?_
    refine wp_isub (pc := 29) dX0_slipAs_29 ?_
    refine wp_int (pk_sub (by omega)) ?_
    refine wc_S_I (pc := 30) dX0_slipAs_30 lkX0_59 (by decide) (Nat.le_of_ble_eq_true rfl) ?_
    refine c_X0_slipWithin (by omega) ?_
    refine wp_istore (pc := 33) 6 dX0_slipAs_33 (by decide) rfl ?_
    refine wp_iload_n (pc := 35) 1 dX0_slipAs_35 rfl rfl ?_
    refine wp_tswI (pc := 36) 1 85 dX0_slipAs_36 (by decide) (by decide) rfl (by decide) ?_
    refine wp_iload (pc := 85) 6 dX0_slipAs_85 rfl ?_
    refine wp_iretI (pc := 87) dX0_slipAs_87 rfl ?_
    rw [Nat.add_sub_cancel]; exact k
  · refine wp_bipush (pc := 0) (10) dX0_slipAs_0 (by decide) ?_
    refine wp_aload_n (pc := 2) 0 dX0_slipAs_2 rfl rfl ?_
    refine wp_iload_n (pc := 3) 2 dX0_slipAs_3 rfl rfl ?_
    refine wc_V_I (pc := 4) dX0_slipAs_4 lkX0_56 (sm_Rc.o (ci := 0) (tT5 ht) (by decide) (ht.ltn 5)) (by decide) (Nat.le_of_ble_eq_true rfl) ?_
    refine c_X0_aOf ht hw hT hr ?_
    refine wp_iadd (pc := 7) dX0_slipAs_7 ?_
    refine wp_int (x := 10 + nI _) (nI_add 10 _) ?_
    refine wc_S_I (pc := 8) dX0_slipAs_8 lkX0_59 (by decide) (Nat.le_of_ble_eq_true rfl) ?_
    refine c_X0_slipWithin (by omega) ?_
    refine wp_istore (pc := 11) 4 dX0_slipAs_11 (by decide) rfl ?_
    refine wp_iconst (pc := 13) (3) dX0_slipAs_13 (by decide) ?_
    refine wp_iload (pc := 14) 4 dX0_slipAs_14 rfl ?_
    refine wp_imul (pc := 16) dX0_slipAs_16 ?_
    refine wp_int (x := 3 * nI _) (pk_mul 3 _) ?_
    refine wc_S_I (pc := 17) dX0_slipAs_17 lkX0_59 (by decide) (Nat.le_of_ble_eq_true rfl) ?_
    refine c_X0_slipWithin (by omega) ?_
    refine wp_istore (pc := 20) 5 dX0_slipAs_20 (by decide) rfl ?_
    refine wp_iload (pc := 22) 4 dX0_slipAs_22 rfl ?_
    refine wp_aload_n (pc := 24) 0 dX0_slipAs_24 rfl rfl ?_
    refine wp_iload_n (pc := 25) 2 dX0_slipAs_25 rfl rfl ?_
    refine wc_V_I (pc := 26) dX0_slipAs_26 lkX0_56 (sm_Rc.o (ci := 0) (tT5 ht) (by decide) (ht.ltn 5)) (by decide) (Nat.le_of_ble_eq_true rfl) ?_
    refine c_X0_aOf ht hw hT hr ?_
    refine wp_isub (pc := 29) dX0_slipAs_29 ?_
    refine wp_int (pk_sub (by omega)) ?_
    refine wc_S_I (pc := 30) dX0_slipAs_30 lkX0_59 (by decide) (Nat.le_of_ble_eq_true rfl) ?_
    refine c_X0_slipWithin (by omega) ?_
    refine wp_istore (pc := 33) 6 dX0_slipAs_33 (by decide) rfl ?_
    refine wp_iload_n (pc := 35) 1 dX0_slipAs_35 rfl rfl ?_
    refine wp_tswI (pc := 36) 2 75 dX0_slipAs_36 (by decide) (by decide) rfl (by decide) ?_
    refine wp_iload (pc := 75) 5 dX0_slipAs_75 rfl ?_
    refine wp_iconst (pc := 77) (1) dX0_slipAs_77 (by decide) ?_
    refine wp_iadd (pc := 78) dX0_slipAs_78 ?_
    refine wp_int (nI_1 _) ?_
    refine wp_iconst (pc := 79) (2) dX0_slipAs_79 (by decide) ?_
    refine wp_idiv (pc := 80) dX0_slipAs_80 (by decide) ?_
    refine wp_int (pk_div (d := 2) (by omega) (by decide) (by decide)) ?_
    refine wc_S_I (pc := 81) dX0_slipAs_81 lkX0_59 (by decide) (Nat.le_of_ble_eq_true rfl) ?_
    refine c_X0_slipWithin (by omega) ?_
    refine wp_iretI (pc := 84) dX0_slipAs_84 rfl ?_
    exact k
  · refine wp_bipush (pc := 0) (10) dX0_slipAs_0 (by decide) ?_
    refine wp_aload_n (pc := 2) 0 dX0_slipAs_2 rfl rfl ?_
    refine wp_iload_n (pc := 3) 2 dX0_slipAs_3 rfl rfl ?_
    refine wc_V_I (pc := 4) dX0_slipAs_4 lkX0_56 (sm_Rc.o (ci := 0) (tT5 ht) (by decide) (ht.ltn 5)) (by decide) (Nat.le_of_ble_eq_true rfl) ?_
    refine c_X0_aOf ht hw hT hr ?_
    refine wp_iadd (pc := 7) dX0_slipAs_7 ?_
    refine wp_int (x := 10 + nI _) (nI_add 10 _) ?_
    refine wc_S_I (pc := 8) dX0_slipAs_8 lkX0_59 (by decide) (Nat.le_of_ble_eq_true rfl) ?_
    refine c_X0_slipWithin (by omega) ?_
    refine wp_istore (pc := 11) 4 dX0_slipAs_11 (by decide) rfl ?_
    refine wp_iconst (pc := 13) (3) dX0_slipAs_13 (by decide) ?_
    refine wp_iload (pc := 14) 4 dX0_slipAs_14 rfl ?_
    refine wp_imul (pc := 16) dX0_slipAs_16 ?_
    refine wp_int (x := 3 * nI _) (pk_mul 3 _) ?_
    refine wc_S_I (pc := 17) dX0_slipAs_17 lkX0_59 (by decide) (Nat.le_of_ble_eq_true rfl) ?_
    refine c_X0_slipWithin (by omega) ?_
    refine wp_istore (pc := 20) 5 dX0_slipAs_20 (by decide) rfl ?_
    refine wp_iload (pc := 22) 4 dX0_slipAs_22 rfl ?_
    refine wp_aload_n (pc := 24) 0 dX0_slipAs_24 rfl rfl ?_
    refine wp_iload_n (pc := 25) 2 dX0_slipAs_25 rfl rfl ?_
    refine wc_V_I (pc := 26) dX0_slipAs_26 lkX0_56 (sm_Rc.o (ci := 0) (tT5 ht) (by decide) (ht.ltn 5)) (by decide) (Nat.le_of_ble_eq_true rfl) ?_
    refine c_X0_aOf ht hw hT hr ?_
    refine wp_isub (pc := 29) dX0_slipAs_29 ?_
    refine wp_int (pk_sub (by omega)) ?_
    refine wc_S_I (pc := 30) dX0_slipAs_30 lkX0_59 (by decide) (Nat.le_of_ble_eq_true rfl) ?_
    refine c_X0_slipWithin (by omega) ?_
    refine wp_istore (pc := 33) 6 dX0_slipAs_33 (by decide) rfl ?_
    refine wp_iload_n (pc := 35) 1 dX0_slipAs_35 rfl rfl ?_
    refine wp_tswI (pc := 36) 3 88 dX0_slipAs_36 (by decide) (by decide) rfl (by decide) ?_
    refine wp_iload (pc := 88) 6 dX0_slipAs_88 rfl ?_
    refine wp_iconst (pc := 90) (5) dX0_slipAs_90 (by decide) ?_
    refine wp_isub (pc := 91) dX0_slipAs_91 ?_
    refine wp_int (show nI (10 + f (50 + 3 * r + 1) - f (50 + 3 * r + 1)) - 5 = nI 5 by rw [Nat.add_sub_cancel]; decide) ?_
    refine wc_S_I (pc := 92) dX0_slipAs_92 lkX0_59 (by decide) (Nat.le_of_ble_eq_true rfl) ?_
    refine c_X0_slipWithin (by omega) ?_
    refine wp_iretI (pc := 95) dX0_slipAs_95 rfl ?_
    exact k
  · refine wp_bipush (pc := 0) (10) dX0_slipAs_0 (by decide) ?_
    refine wp_aload_n (pc := 2) 0 dX0_slipAs_2 rfl rfl ?_
    refine wp_iload_n (pc := 3) 2 dX0_slipAs_3 rfl rfl ?_
    refine wc_V_I (pc := 4) dX0_slipAs_4 lkX0_56 (sm_Rc.o (ci := 0) (tT5 ht) (by decide) (ht.ltn 5)) (by decide) (Nat.le_of_ble_eq_true rfl) ?_
    refine c_X0_aOf ht hw hT hr ?_
    refine wp_iadd (pc := 7) dX0_slipAs_7 ?_
    refine wp_int (x := 10 + nI _) (nI_add 10 _) ?_
    refine wc_S_I (pc := 8) dX0_slipAs_8 lkX0_59 (by decide) (Nat.le_of_ble_eq_true rfl) ?_
    refine c_X0_slipWithin (by omega) ?_
    refine wp_istore (pc := 11) 4 dX0_slipAs_11 (by decide) rfl ?_
    refine wp_iconst (pc := 13) (3) dX0_slipAs_13 (by decide) ?_
    refine wp_iload (pc := 14) 4 dX0_slipAs_14 rfl ?_
    refine wp_imul (pc := 16) dX0_slipAs_16 ?_
    refine wp_int (x := 3 * nI _) (pk_mul 3 _) ?_
    refine wc_S_I (pc := 17) dX0_slipAs_17 lkX0_59 (by decide) (Nat.le_of_ble_eq_true rfl) ?_
    refine c_X0_slipWithin (by omega) ?_
    refine wp_istore (pc := 20) 5 dX0_slipAs_20 (by decide) rfl ?_
    refine wp_iload (pc := 22) 4 dX0_slipAs_22 rfl ?_
    refine wp_aload_n (pc := 24) 0 dX0_slipAs_24 rfl rfl ?_
    refine wp_iload_n (pc := 25) 2 dX0_slipAs_25 rfl rfl ?_
    refine wc_V_I (pc := 26) dX0_slipAs_26 lkX0_56 (sm_Rc.o (ci := 0) (tT5 ht) (by decide) (ht.ltn 5)) (by decide) (Nat.le_of_ble_eq_true rfl) ?_
    refine c_X0_aOf ht hw hT hr ?_
    refine wp_isub (pc := 29) dX0_slipAs_29 ?_
    refine wp_int (pk_sub (by omega)) ?_
    refine wc_S_I (pc := 30) dX0_slipAs_30 lkX0_59 (by decide) (Nat.le_of_ble_eq_true rfl) ?_
    refine c_X0_slipWithin (by omega) ?_
    refine wp_istore (pc := 33) 6 dX0_slipAs_33 (by decide) rfl ?_
    refine wp_iload_n (pc := 35) 1 dX0_slipAs_35 rfl rfl ?_
    refine wp_tswI (pc := 36) 4 96 dX0_slipAs_36 (by decide) (by decide) rfl (by decide) ?_
    refine wp_iload_n (pc := 96) 3 dX0_slipAs_96 rfl rfl ?_
    refine wp_aload_n (pc := 97) 0 dX0_slipAs_97 rfl rfl ?_
    refine wp_iload_n (pc := 98) 2 dX0_slipAs_98 rfl rfl ?_
    refine wc_V_I (pc := 99) dX0_slipAs_99 lkX0_62 (sm_Rc.o (ci := 0) (tT5 ht) (by decide) (ht.ltn 5)) (by decide) (Nat.le_of_ble_eq_true rfl) ?_
    refine c_X0_bellOf ht hw hT hr ?_
    refine wc_SN_II (pc := 102) dX0_slipAs_102 lkX0_65 (by decide) (Nat.le_of_ble_eq_true rfl) ?_
    refine c_X6_isIn (Nat.lt_of_le_of_lt hck (by decide)) (by omega) ?_
    refine wp_ifeqB (pc := 105) 113 dX0_slipAs_105 (by decide) (fun c_105 => ?_) (fun c_105 => ?_)
    · refine wp_iload (pc := 113) 4 dX0_slipAs_113 rfl ?_
      refine wp_iretI (pc := 115) dX0_slipAs_115 rfl ?_
      rw [show slipN 5 (f (50 + 3 * r + 1)) (f (50 + 3 * r + 2)) ck = 10 + f (50 + 3 * r + 1) by simp [slipN, c_105]] at k; exact k
    · refine wp_bipush (pc := 108) (50) dX0_slipAs_108 (by decide) ?_
      refine wp_goto (pc := 110) 115 dX0_slipAs_110 (by decide) ?_
      refine wp_iretI (pc := 115) dX0_slipAs_115 rfl ?_
      rw [show slipN 5 (f (50 + 3 * r + 1)) (f (50 + 3 * r + 2)) ck = 50 by simp [slipN, c_105]] at k; exact k
theorem c_X0_slipOf {d : Nat} {F I : Nat → Nat → Int32} {J : Nat → Nat → Int64} {Q : Option Value → sm_H → Prop} {t : Nat} (ht : isT t) {f : rw_} (hw : WF f) (hT : Tw t f F I) {r : Nat} (hr : r < 6) (k : Q (some (.int (nI (slp f r)))) (S0, F, I, J)) : Wp mX0_slipOf (d + 3) 0 0 0 (sm_ini [.ref (t + 5), .int (nI r), .int (nI (f 72))] 3) [] (S0, F, I, J) Q := by
  show Wp _ _ _ _ _ [.ref (t + 5), .int (nI r), .int (nI (f 72))] _ _ _
  have hk := hw.kind hr
  refine wp_aload_n (pc := 0) 0 dX0_slipOf_0 rfl rfl ?_
  refine wp_aload_n (pc := 1) 0 dX0_slipOf_1 rfl rfl ?_
  refine wp_iload_n (pc := 2) 1 dX0_slipOf_2 rfl rfl ?_
  refine wc_V_I (pc := 3) dX0_slipOf_3 lkX0_69 (sm_Rc.o (ci := 0) (tT5 ht) (by decide) (ht.ltn 5)) (by decide) (Nat.le_of_ble_eq_true rfl) ?_
  refine c_X0_kindOf ht hw hT hr ?_
  refine wp_iload_n (pc := 6) 1 dX0_slipOf_6 rfl rfl ?_
  refine wp_iload_n (pc := 7) 2 dX0_slipOf_7 rfl rfl ?_
  refine wc_V_III (pc := 8) dX0_slipOf_8 lkX0_72 (sm_Rc.o (ci := 0) (tT5 ht) (by decide) (ht.ltn 5)) (by decide) (Nat.le_of_ble_eq_true rfl) ?_
  refine c_X0_slipAs ht hw hT (by omega) hr hw.crk ?_
  refine wp_iretI (pc := 11) dX0_slipOf_11 rfl ?_
  exact k
def wlU (f : rw_) (s : Nat) : Nat → Nat
  | 0 => 1000000
  | k + 1 => if s.testBit k = true then wlU f s k * (100 - slp f k) / 100 else wlU f s k
def wl (f : rw_) (s : Nat) : Nat := wlU f s (f 69)
theorem wlU_le (f : rw_) (s : Nat) : ∀ k, wlU f s k ≤ 1000000
  | 0 => by simp [wlU]
  | k + 1 => by
    have h := wlU_le f s k
    rw [wlU]
    split
    · refine Nat.div_le_of_le_mul ?_
      calc wlU f s k * (100 - slp f k) ≤ 1000000 * 100 := Nat.mul_le_mul h (Nat.sub_le _ _)
        _ = 100 * 1000000 := by decide
    · exact h
theorem wlU_t {f : rw_} {s k : Nat} (h : s.testBit k = true) : wlU f s (k + 1) = wlU f s k * (100 - slp f k) / 100 := by rw [wlU, if_pos h]
theorem wlU_f {f : rw_} {s k : Nat} (h : s.testBit k = false) : wlU f s (k + 1) = wlU f s k := by rw [wlU, if_neg (by rw [h]; decide)]
theorem c_X0_wellOf {d : Nat} {F I : Nat → Nat → Int32} {J : Nat → Nat → Int64} {Q : Option Value → sm_H → Prop} {t : Nat} (ht : isT t) {f : rw_} (hw : WF f) (hT : Tw t f F I) {b : Nat} (hb : b < 64) (k : Q (some (.int (nI (wl f b)))) (S0, F, I, J)) : Wp mX0_wellOf (d + 4) 0 0 0 (sm_ini [.ref (t + 5), .int (nI b), .int (nI (f 72))] 5) [] (S0, F, I, J) Q := by
  show Wp _ _ _ _ _ [.ref (t + 5), .int (nI b), .int (nI (f 72)), .null, .null] _ _ _
  refine wp_ldc (pc := 0) _ dX0_wellOf_0 koX0_76 ?_
  refine wp_istore_n (pc := 2) 3 dX0_wellOf_2 rfl (by decide) rfl ?_
  refine wp_iconst (pc := 3) (0) dX0_wellOf_3 (by decide) ?_
  refine wp_istore (pc := 4) 4 dX0_wellOf_4 (by decide) rfl ?_
  refine wp_loop (fun i => [.ref (t + 5), .int (nI b), .int (nI (f 72)), .int (nI (wlU f b i)), .int (nI i)]) (fun i => (S0, F, I, J)) (fun i => True) (f 69) (fun i hi hv nx => ?_) (fun hv => ?_) 0 (by omega) trivial
  · have hn := hw.c
    have hr : i < 6 := by omega
    have hs := slp_le hw hr
    have hl := wlU_le f b i
    have hm : wlU f b i * (100 - slp f i) ≤ 1000000 * 100 := Nat.mul_le_mul hl (Nat.sub_le _ _)
    refine wp_iload (pc := 6) 4 dX0_wellOf_6 rfl ?_
    refine wp_aload_n (pc := 8) 0 dX0_wellOf_8 rfl rfl ?_
    refine wq_getI (pc := 9) 9 0 dX0_wellOf_9 (tT5 ht) flX0_9 rfl (ht.ltn 5) ?_
    refine wp_int hT.crew ?_
    refine wp_icmp_ge (pc := 12) 46 dX0_wellOf_12 (by decide) (fun c_12 => ?_) (fun c_12 => ?_)
    · exact absurd c_12 (nI_ge (b := (f 69)) hi (by omega))
    · refine wp_iload_n (pc := 15) 1 dX0_wellOf_15 rfl rfl ?_
      refine wp_iload (pc := 16) 4 dX0_wellOf_16 rfl ?_
      refine wc_SN_II (pc := 18) dX0_wellOf_18 lkX0_65 (by decide) (Nat.le_of_ble_eq_true rfl) ?_
      refine c_X6_isIn (by omega) (by omega) ?_
      refine wp_ifeqB (pc := 21) 40 dX0_wellOf_21 (by decide) (fun c_21 => ?_) (fun c_21 => ?_)
      · refine wp_incN (pc := 40) 4 dX0_wellOf_40 rfl (by decide) rfl ?_
        refine wp_goto (pc := 43) 6 dX0_wellOf_43 (by decide) ?_
        have nx := nx trivial
        rw [wlU_f c_21] at nx
        exact nx
      · refine wp_iload_n (pc := 24) 3 dX0_wellOf_24 rfl rfl ?_
        refine wp_bipush (pc := 25) (100) dX0_wellOf_25 (by decide) ?_
        refine wp_aload_n (pc := 27) 0 dX0_wellOf_27 rfl rfl ?_
        refine wp_iload (pc := 28) 4 dX0_wellOf_28 rfl ?_
        refine wp_iload_n (pc := 30) 2 dX0_wellOf_30 rfl rfl ?_
        refine wc_V_II (pc := 31) dX0_wellOf_31 lkX0_77 (sm_Rc.o (ci := 0) (tT5 ht) (by decide) (ht.ltn 5)) (by decide) (Nat.le_of_ble_eq_true rfl) ?_
        refine c_X0_slipOf ht hw hT hr ?_
        refine wp_isub (pc := 34) dX0_wellOf_34 ?_
        refine wp_int (pk_sub (a := 100) (by omega)) ?_
        refine wp_imul (pc := 35) dX0_wellOf_35 ?_
        refine wp_int (pk_mul _ _) ?_
        refine wp_bipush (pc := 36) (100) dX0_wellOf_36 (by decide) ?_
        refine wp_idiv (pc := 38) dX0_wellOf_38 (by decide) ?_
        refine wp_int (pk_div (d := 100) (by omega) (by decide) (by decide)) ?_
        refine wp_istore_n (pc := 39) 3 dX0_wellOf_39 rfl (by decide) rfl ?_
        refine wp_incN (pc := 40) 4 dX0_wellOf_40 rfl (by decide) rfl ?_
        refine wp_goto (pc := 43) 6 dX0_wellOf_43 (by decide) ?_
        have nx := nx trivial
        rw [wlU_t c_21] at nx
        exact nx
  · refine wp_iload (pc := 6) 4 dX0_wellOf_6 rfl ?_
    refine wp_aload_n (pc := 8) 0 dX0_wellOf_8 rfl rfl ?_
    refine wq_getI (pc := 9) 9 0 dX0_wellOf_9 (tT5 ht) flX0_9 rfl (ht.ltn 5) ?_
    refine wp_int hT.crew ?_
    refine wp_icmp_ge (pc := 12) 46 dX0_wellOf_12 (by decide) (fun c_12 => ?_) (fun c_12 => ?_)
    · refine wp_iload_n (pc := 46) 3 dX0_wellOf_46 rfl rfl ?_
      refine wp_iretI (pc := 47) dX0_wellOf_47 rfl ?_
      exact k
    · exact absurd (Int32.le_refl _) c_12
def onU (f : rw_) (s : Nat) : Nat → Nat
  | 0 => 0
  | k + 1 => if s.testBit k = true then onU f s k + slp f k * wl f (dif s (2 ^ k)) / 100 else onU f s k
theorem on1_le {f : rw_} (hw : WF f) {k : Nat} (hk : k < 6) (s : Nat) : slp f k * wl f s ≤ 57000000 := Nat.mul_le_mul (slp_le hw hk) (wlU_le f s _)
theorem onU_le {f : rw_} (hw : WF f) (s : Nat) : ∀ k, k ≤ 6 → onU f s k ≤ 570000 * k
  | 0, _ => by simp [onU]
  | k + 1, hk => by
    have h := onU_le hw s k (by omega)
    have h2 := on1_le hw (show k < 6 by omega) (dif s (2 ^ k))
    rw [onU]
    split <;> omega
theorem onU_t {f : rw_} {s k : Nat} (h : s.testBit k = true) : onU f s (k + 1) = onU f s k + slp f k * wl f (dif s (2 ^ k)) / 100 := by rw [onU, if_pos h]
theorem onU_f {f : rw_} {s k : Nat} (h : s.testBit k = false) : onU f s (k + 1) = onU f s k := by rw [onU, if_neg (by rw [h]; decide)]
theorem dif_64 {a : Nat} (b : Nat) (h : a < 64) : dif a b < 64 := dif_le (n := 6) a b h
theorem c_X0_onceOf {d : Nat} {F I : Nat → Nat → Int32} {J : Nat → Nat → Int64} {Q : Option Value → sm_H → Prop} {t : Nat} (ht : isT t) {f : rw_} (hw : WF f) (hT : Tw t f F I) {b : Nat} (hb : b < 64) (k : Q (some (.int (nI (onU f b (f 69))))) (S0, F, I, J)) : Wp mX0_onceOf (d + 5) 0 0 0 (sm_ini [.ref (t + 5), .int (nI b), .int (nI (f 72))] 5) [] (S0, F, I, J) Q := by
  show Wp _ _ _ _ _ [.ref (t + 5), .int (nI b), .int (nI (f 72)), .null, .null] _ _ _
  refine wp_iconst (pc := 0) (0) dX0_onceOf_0 (by decide) ?_
  refine wp_istore_n (pc := 1) 3 dX0_onceOf_1 rfl (by decide) rfl ?_
  refine wp_iconst (pc := 2) (0) dX0_onceOf_2 (by decide) ?_
  refine wp_istore (pc := 3) 4 dX0_onceOf_3 (by decide) rfl ?_
  refine wp_loop (fun i => [.ref (t + 5), .int (nI b), .int (nI (f 72)), .int (nI (onU f b i)), .int (nI i)]) (fun i => (S0, F, I, J)) (fun i => True) (f 69) (fun i hi hv nx => ?_) (fun hv => ?_) 0 (by omega) trivial
  · have hn := hw.c
    have hr : i < 6 := by omega
    have hs := slp_le hw hr
    have h1 := on1_le hw hr (dif b (2 ^ i))
    have hd := dif_64 (2 ^ i) hb
    refine wp_iload (pc := 5) 4 dX0_onceOf_5 rfl ?_
    refine wp_aload_n (pc := 7) 0 dX0_onceOf_7 rfl rfl ?_
    refine wq_getI (pc := 8) 9 0 dX0_onceOf_8 (tT5 ht) flX0_9 rfl (ht.ltn 5) ?_
    refine wp_int hT.crew ?_
    refine wp_icmp_ge (pc := 11) 56 dX0_onceOf_11 (by decide) (fun c_11 => ?_) (fun c_11 => ?_)
    · exact absurd c_11 (nI_ge (b := (f 69)) hi (by omega))
    · refine wp_iload_n (pc := 14) 1 dX0_onceOf_14 rfl rfl ?_
      refine wp_iload (pc := 15) 4 dX0_onceOf_15 rfl ?_
      refine wc_SN_II (pc := 17) dX0_onceOf_17 lkX0_65 (by decide) (Nat.le_of_ble_eq_true rfl) ?_
      refine c_X6_isIn (by omega) (by omega) ?_
      refine wp_ifeqB (pc := 20) 50 dX0_onceOf_20 (by decide) (fun c_20 => ?_) (fun c_20 => ?_)
      · refine wp_incN (pc := 50) 4 dX0_onceOf_50 rfl (by decide) rfl ?_
        refine wp_goto (pc := 53) 5 dX0_onceOf_53 (by decide) ?_
        have nx := nx trivial
        rw [onU_f c_20] at nx
        exact nx
      · refine wp_iload_n (pc := 23) 3 dX0_onceOf_23 rfl rfl ?_
        refine wp_aload_n (pc := 24) 0 dX0_onceOf_24 rfl rfl ?_
        refine wp_iload (pc := 25) 4 dX0_onceOf_25 rfl ?_
        refine wp_iload_n (pc := 27) 2 dX0_onceOf_27 rfl rfl ?_
        refine wc_V_II (pc := 28) dX0_onceOf_28 lkX0_77 (sm_Rc.o (ci := 0) (tT5 ht) (by decide) (ht.ltn 5)) (by decide) (Nat.le_of_ble_eq_true rfl) ?_
        refine c_X0_slipOf ht hw hT hr ?_
        refine wp_aload_n (pc := 31) 0 dX0_onceOf_31 rfl rfl ?_
        refine wp_iload_n (pc := 32) 1 dX0_onceOf_32 rfl rfl ?_
        refine wp_iconst (pc := 33) (1) dX0_onceOf_33 (by decide) ?_
        refine wp_iload (pc := 34) 4 dX0_onceOf_34 rfl ?_
        refine wp_ishl (pc := 36) dX0_onceOf_36 ?_
        refine wp_iconst (pc := 37) (-1) dX0_onceOf_37 (by decide) ?_
        refine wp_ixor (pc := 38) dX0_onceOf_38 ?_
        refine wp_iand (pc := 39) dX0_onceOf_39 ?_
        refine wp_int (bt_clr (by omega)) ?_
        refine wp_iload_n (pc := 40) 2 dX0_onceOf_40 rfl rfl ?_
        refine wc_V_II (pc := 41) dX0_onceOf_41 lkX0_80 (sm_Rc.o (ci := 0) (tT5 ht) (by decide) (ht.ltn 5)) (by decide) (Nat.le_of_ble_eq_true rfl) ?_
        refine c_X0_wellOf ht hw hT (by omega) ?_
        refine wp_imul (pc := 44) dX0_onceOf_44 ?_
        refine wp_int (pk_mul _ _) ?_
        refine wp_bipush (pc := 45) (100) dX0_onceOf_45 (by decide) ?_
        refine wp_idiv (pc := 47) dX0_onceOf_47 (by decide) ?_
        refine wp_int (pk_div (d := 100) (by omega) (by decide) (by decide)) ?_
        refine wp_iadd (pc := 48) dX0_onceOf_48 ?_
        refine wp_istore_n (pc := 49) 3 dX0_onceOf_49 rfl (by decide) rfl ?_
        refine wp_incN (pc := 50) 4 dX0_onceOf_50 rfl (by decide) rfl ?_
        refine wp_goto (pc := 53) 5 dX0_onceOf_53 (by decide) ?_
        have nx := nx trivial
        rw [onU_t c_20, ← nI_add] at nx
        exact nx
  · refine wp_iload (pc := 5) 4 dX0_onceOf_5 rfl ?_
    refine wp_aload_n (pc := 7) 0 dX0_onceOf_7 rfl rfl ?_
    refine wq_getI (pc := 8) 9 0 dX0_onceOf_8 (tT5 ht) flX0_9 rfl (ht.ltn 5) ?_
    refine wp_int hT.crew ?_
    refine wp_icmp_ge (pc := 11) 56 dX0_onceOf_11 (by decide) (fun c_11 => ?_) (fun c_11 => ?_)
    · refine wp_iload_n (pc := 56) 3 dX0_onceOf_56 rfl rfl ?_
      refine wp_iretI (pc := 57) dX0_onceOf_57 rfl ?_
      exact k
    · exact absurd (Int32.le_refl _) c_11
theorem c_X0_slippingBy {d : Nat} {F I : Nat → Nat → Int32} {J : Nat → Nat → Int64} {Q : Option Value → sm_H → Prop} {t : Nat} (ht : isT t) {f : rw_} (hw : WF f) (hT : Tw t f F I) {v : Nat} (hv : v ≤ 99) (k : Q (some (.int (nI (col (fun j => decide (v ≤ slp f j)) (f 69))))) (S0, F, I, J)) : Wp mX0_slippingBy (d + 4) 0 0 0 (sm_ini [.ref (t + 5), .int (nI v), .int (nI (f 72))] 5) [] (S0, F, I, J) Q := by
  show Wp _ _ _ _ _ [.ref (t + 5), .int (nI v), .int (nI (f 72)), .null, .null] _ _ _
  refine wp_iconst (pc := 0) (0) dX0_slippingBy_0 (by decide) ?_
  refine wp_istore_n (pc := 1) 3 dX0_slippingBy_1 rfl (by decide) rfl ?_
  refine wp_iconst (pc := 2) (0) dX0_slippingBy_2 (by decide) ?_
  refine wp_istore (pc := 3) 4 dX0_slippingBy_3 (by decide) rfl ?_
  refine wp_loop (fun i => [.ref (t + 5), .int (nI v), .int (nI (f 72)), .int (nI (col (fun j => decide (v ≤ slp f j)) i)), .int (nI i)]) (fun i => (S0, F, I, J)) (fun i => True) (f 69) (fun i hi hv nx => ?_) (fun hv => ?_) 0 (by omega) trivial
  · have hn := hw.c
    have hr : i < 6 := by omega
    have hs := slp_le hw hr
    refine wp_iload (pc := 5) 4 dX0_slippingBy_5 rfl ?_
    refine wp_aload_n (pc := 7) 0 dX0_slippingBy_7 rfl rfl ?_
    refine wq_getI (pc := 8) 9 0 dX0_slippingBy_8 (tT5 ht) flX0_9 rfl (ht.ltn 5) ?_
    refine wp_int hT.crew ?_
    refine wp_icmp_ge (pc := 11) 38 dX0_slippingBy_11 (by decide) (fun c_11 => ?_) (fun c_11 => ?_)
    · exact absurd c_11 (nI_ge (b := (f 69)) hi (by omega))
    · refine wp_aload_n (pc := 14) 0 dX0_slippingBy_14 rfl rfl ?_
      refine wp_iload (pc := 15) 4 dX0_slippingBy_15 rfl ?_
      refine wp_iload_n (pc := 17) 2 dX0_slippingBy_17 rfl rfl ?_
      refine wc_V_II (pc := 18) dX0_slippingBy_18 lkX0_77 (sm_Rc.o (ci := 0) (tT5 ht) (by decide) (ht.ltn 5)) (by decide) (Nat.le_of_ble_eq_true rfl) ?_
      refine c_X0_slipOf ht hw hT hr ?_
      refine wp_iload_n (pc := 21) 1 dX0_slippingBy_21 rfl rfl ?_
      refine wp_icmp_lt (pc := 22) 32 dX0_slippingBy_22 (by decide) (fun c_22 => ?_) (fun c_22 => ?_)
      · refine wp_incN (pc := 32) 4 dX0_slippingBy_32 rfl (by decide) rfl ?_
        refine wp_goto (pc := 35) 5 dX0_slippingBy_35 (by decide) ?_
        have nx := nx trivial
        rw [col_f (p := (fun j => decide (v ≤ slp f j))) (decide_eq_false (fun z => nI_nlt z (by omega) c_22))] at nx
        exact nx
      · refine wp_iload_n (pc := 25) 3 dX0_slippingBy_25 rfl rfl ?_
        refine wp_iconst (pc := 26) (1) dX0_slippingBy_26 (by decide) ?_
        refine wp_iload (pc := 27) 4 dX0_slippingBy_27 rfl ?_
        refine wp_ishl (pc := 29) dX0_slippingBy_29 ?_
        refine wp_ior (pc := 30) dX0_slippingBy_30 ?_
        refine wp_istore_n (pc := 31) 3 dX0_slippingBy_31 rfl (by decide) rfl ?_
        refine wp_incN (pc := 32) 4 dX0_slippingBy_32 rfl (by decide) rfl ?_
        refine wp_goto (pc := 35) 5 dX0_slippingBy_35 (by decide) ?_
        have nx := nx trivial
        rw [col_t (p := (fun j => decide (v ≤ slp f j))) (by omega) (decide_eq_true (Nat.le_of_not_lt fun z => c_22 (nI_lt z (by omega))))] at nx
        exact nx
  · refine wp_iload (pc := 5) 4 dX0_slippingBy_5 rfl ?_
    refine wp_aload_n (pc := 7) 0 dX0_slippingBy_7 rfl rfl ?_
    refine wq_getI (pc := 8) 9 0 dX0_slippingBy_8 (tT5 ht) flX0_9 rfl (ht.ltn 5) ?_
    refine wp_int hT.crew ?_
    refine wp_icmp_ge (pc := 11) 38 dX0_slippingBy_11 (by decide) (fun c_11 => ?_) (fun c_11 => ?_)
    · refine wp_iload_n (pc := 38) 3 dX0_slippingBy_38 rfl rfl ?_
      refine wp_iretI (pc := 39) dX0_slippingBy_39 rfl ?_
      exact k
    · exact absurd (Int32.le_refl _) c_11
theorem c_X0_kindsSlippingBy {d : Nat} {F I : Nat → Nat → Int32} {J : Nat → Nat → Int64} {Q : Option Value → sm_H → Prop} {t : Nat} (ht : isT t) {f : rw_} (hw : WF f) (hT : Tw t f F I) {r v : Nat} (hr : r < 6) (hv : v ≤ 99) (k : Q (some (.int (nI (col (fun j => decide (slipN j (f (50 + 3 * r + 1)) (f (50 + 3 * r + 2)) (f 72) = v)) 6)))) (S0, F, I, J)) : Wp mX0_kindsSlippingBy (d + 3) 0 0 0 (sm_ini [.ref (t + 5), .int (nI r), .int (nI v), .int (nI (f 72))] 6) [] (S0, F, I, J) Q := by
  show Wp _ _ _ _ _ [.ref (t + 5), .int (nI r), .int (nI v), .int (nI (f 72)), .null, .null] _ _ _
  refine wp_iconst (pc := 0) (0) dX0_kindsSlippingBy_0 (by decide) ?_
  refine wp_istore (pc := 1) 4 dX0_kindsSlippingBy_1 (by decide) rfl ?_
  refine wp_iconst (pc := 3) (0) dX0_kindsSlippingBy_3 (by decide) ?_
  refine wp_istore (pc := 4) 5 dX0_kindsSlippingBy_4 (by decide) rfl ?_
  refine wp_loop (fun i => [.ref (t + 5), .int (nI r), .int (nI v), .int (nI (f 72)), .int (nI (col (fun j => decide (slipN j (f (50 + 3 * r + 1)) (f (50 + 3 * r + 2)) (f 72) = v)) i)), .int (nI i)]) (fun i => (S0, F, I, J)) (fun i => True) 6 (fun i hi hv nx => ?_) (fun hv => ?_) 0 (by omega) trivial
  · have hsl := slipN_le (kd := i) (b := f (50 + 3 * r + 2)) (ck := f 72) (hw.a hr)
    refine wp_iload (pc := 6) 5 dX0_kindsSlippingBy_6 rfl ?_
    refine wp_iconst (pc := 8) (5) dX0_kindsSlippingBy_8 (by decide) ?_
    refine wp_icmp_gt (pc := 9) 39 dX0_kindsSlippingBy_9 (by decide) (fun c_9 => ?_) (fun c_9 => ?_)
    · exact absurd c_9 (nI_nlt (a := 5) (b := i) (by omega) (by decide))
    · refine wp_aload_n (pc := 12) 0 dX0_kindsSlippingBy_12 rfl rfl ?_
      refine wp_iload (pc := 13) 5 dX0_kindsSlippingBy_13 rfl ?_
      refine wp_iload_n (pc := 15) 1 dX0_kindsSlippingBy_15 rfl rfl ?_
      refine wp_iload_n (pc := 16) 3 dX0_kindsSlippingBy_16 rfl rfl ?_
      refine wc_V_III (pc := 17) dX0_kindsSlippingBy_17 lkX0_72 (sm_Rc.o (ci := 0) (tT5 ht) (by decide) (ht.ltn 5)) (by decide) (Nat.le_of_ble_eq_true rfl) ?_
      refine c_X0_slipAs ht hw hT (by omega) hr hw.crk ?_
      refine wp_iload_n (pc := 20) 2 dX0_kindsSlippingBy_20 rfl rfl ?_
      refine wp_icmp_ne (pc := 21) 33 dX0_kindsSlippingBy_21 (by decide) (fun c_21 => ?_) (fun c_21 => ?_)
      · refine wp_incN (pc := 33) 5 dX0_kindsSlippingBy_33 rfl (by decide) rfl ?_
        refine wp_goto (pc := 36) 6 dX0_kindsSlippingBy_36 (by decide) ?_
        have nx := nx trivial
        rw [col_f (p := (fun j => decide (slipN j (f (50 + 3 * r + 1)) (f (50 + 3 * r + 2)) (f 72) = v))) (decide_eq_false (fun z => c_21 (by rw [z])))] at nx
        exact nx
      · refine wp_iload (pc := 24) 4 dX0_kindsSlippingBy_24 rfl ?_
        refine wp_iconst (pc := 26) (1) dX0_kindsSlippingBy_26 (by decide) ?_
        refine wp_iload (pc := 27) 5 dX0_kindsSlippingBy_27 rfl ?_
        refine wp_ishl (pc := 29) dX0_kindsSlippingBy_29 ?_
        refine wp_ior (pc := 30) dX0_kindsSlippingBy_30 ?_
        refine wp_istore (pc := 31) 4 dX0_kindsSlippingBy_31 (by decide) rfl ?_
        refine wp_incN (pc := 33) 5 dX0_kindsSlippingBy_33 rfl (by decide) rfl ?_
        refine wp_goto (pc := 36) 6 dX0_kindsSlippingBy_36 (by decide) ?_
        have nx := nx trivial
        rw [col_t (p := (fun j => decide (slipN j (f (50 + 3 * r + 1)) (f (50 + 3 * r + 2)) (f 72) = v))) (by omega) (decide_eq_true ((nI_eq (by omega) (by omega)).mp c_21))] at nx
        exact nx
  · refine wp_iload (pc := 6) 5 dX0_kindsSlippingBy_6 rfl ?_
    refine wp_iconst (pc := 8) (5) dX0_kindsSlippingBy_8 (by decide) ?_
    refine wp_icmp_gt (pc := 9) 39 dX0_kindsSlippingBy_9 (by decide) (fun c_9 => ?_) (fun c_9 => ?_)
    · refine wp_iload (pc := 39) 4 dX0_kindsSlippingBy_39 rfl ?_
      refine wp_iretI (pc := 41) dX0_kindsSlippingBy_41 rfl ?_
      exact k
    · exact absurd (by decide) c_9
theorem c_X0_countOfKind {d : Nat} {F I : Nat → Nat → Int32} {J : Nat → Nat → Int64} {Q : Option Value → sm_H → Prop} {t : Nat} (ht : isT t) {f : rw_} (hw : WF f) (hT : Tw t f F I) {v : Nat} (hv : v ≤ 5) (k : Q (some (.int (nI (cnt (fun j => decide (f (50 + 3 * j) = v)) (f 69))))) (S0, F, I, J)) : Wp mX0_countOfKind (d + 2) 0 0 0 (sm_ini [.ref (t + 5), .int (nI v)] 4) [] (S0, F, I, J) Q := by
  show Wp _ _ _ _ _ [.ref (t + 5), .int (nI v), .null, .null] _ _ _
  refine wp_iconst (pc := 0) (0) dX0_countOfKind_0 (by decide) ?_
  refine wp_istore_n (pc := 1) 2 dX0_countOfKind_1 rfl (by decide) rfl ?_
  refine wp_iconst (pc := 2) (0) dX0_countOfKind_2 (by decide) ?_
  refine wp_istore_n (pc := 3) 3 dX0_countOfKind_3 rfl (by decide) rfl ?_
  refine wp_loop (fun i => [.ref (t + 5), .int (nI v), .int (nI (cnt (fun j => decide (f (50 + 3 * j) = v)) i)), .int (nI i)]) (fun i => (S0, F, I, J)) (fun i => True) (f 69) (fun i hi hv nx => ?_) (fun hv => ?_) 0 (by omega) trivial
  · have hn := hw.c
    have hr : i < 6 := by omega
    have hk := hw.kind hr
    refine wp_iload_n (pc := 4) 3 dX0_countOfKind_4 rfl rfl ?_
    refine wp_aload_n (pc := 5) 0 dX0_countOfKind_5 rfl rfl ?_
    refine wq_getI (pc := 6) 9 0 dX0_countOfKind_6 (tT5 ht) flX0_9 rfl (ht.ltn 5) ?_
    refine wp_int hT.crew ?_
    refine wp_icmp_ge (pc := 9) 30 dX0_countOfKind_9 (by decide) (fun c_9 => ?_) (fun c_9 => ?_)
    · exact absurd c_9 (nI_ge (b := (f 69)) hi (by omega))
    · refine wp_aload_n (pc := 12) 0 dX0_countOfKind_12 rfl rfl ?_
      refine wp_iload_n (pc := 13) 3 dX0_countOfKind_13 rfl rfl ?_
      refine wc_V_I (pc := 14) dX0_countOfKind_14 lkX0_69 (sm_Rc.o (ci := 0) (tT5 ht) (by decide) (ht.ltn 5)) (by decide) (Nat.le_of_ble_eq_true rfl) ?_
      refine c_X0_kindOf ht hw hT hr ?_
      refine wp_iload_n (pc := 17) 1 dX0_countOfKind_17 rfl rfl ?_
      refine wp_icmp_ne (pc := 18) 24 dX0_countOfKind_18 (by decide) (fun c_18 => ?_) (fun c_18 => ?_)
      · refine wp_incN (pc := 24) 3 dX0_countOfKind_24 rfl (by decide) rfl ?_
        refine wp_goto (pc := 27) 4 dX0_countOfKind_27 (by decide) ?_
        have nx := nx trivial
        rw [cnt_f (p := (fun j => decide (f (50 + 3 * j) = v))) (decide_eq_false (fun z => c_18 (by rw [z])))] at nx
        exact nx
      · refine wp_incN (pc := 21) 2 dX0_countOfKind_21 rfl (by decide) rfl ?_
        refine wp_incN (pc := 24) 3 dX0_countOfKind_24 rfl (by decide) rfl ?_
        refine wp_goto (pc := 27) 4 dX0_countOfKind_27 (by decide) ?_
        have nx := nx trivial
        rw [cnt_t (p := (fun j => decide (f (50 + 3 * j) = v))) (decide_eq_true ((nI_eq (by omega) (by omega)).mp c_18))] at nx
        exact nx
  · refine wp_iload_n (pc := 4) 3 dX0_countOfKind_4 rfl rfl ?_
    refine wp_aload_n (pc := 5) 0 dX0_countOfKind_5 rfl rfl ?_
    refine wq_getI (pc := 6) 9 0 dX0_countOfKind_6 (tT5 ht) flX0_9 rfl (ht.ltn 5) ?_
    refine wp_int hT.crew ?_
    refine wp_icmp_ge (pc := 9) 30 dX0_countOfKind_9 (by decide) (fun c_9 => ?_) (fun c_9 => ?_)
    · refine wp_iload_n (pc := 30) 2 dX0_countOfKind_30 rfl rfl ?_
      refine wp_iretI (pc := 31) dX0_countOfKind_31 rfl ?_
      exact k
    · exact absurd (Int32.le_refl _) c_9
def crewU (f : rw_) (n k : Nat) : Option Nat := bestU (fun b => decide (pop b = n)) (fun a b => decide (wl f b < wl f a)) k
def eW (f : rw_) : Option Nat → Int32
  | none => -1
  | some b => nI (wl f b)
theorem m1_lt {a : Nat} (h : a < 2 ^ 31) : ¬ nI a ≤ -1 := fun z => absurd (Int32.le_trans (nI_pos' h) z) (by decide)
theorem c_X0_bestCrew {d : Nat} {F I : Nat → Nat → Int32} {J : Nat → Nat → Int64} {Q : Option Value → sm_H → Prop} {t : Nat} (ht : isT t) {f : rw_} (hw : WF f) (hT : Tw t f F I) {n : Nat} (hn : n ≤ 6) (k : Q (some (.int (eN (crewU f n (2 ^ f 69))))) (S0, F, I, J)) : Wp mX0_bestCrew (d + 5) 0 0 0 (sm_ini [.ref (t + 5), .int (nI n), .int (nI (f 72))] 7) [] (S0, F, I, J) Q := by
  show Wp _ _ _ _ _ [.ref (t + 5), .int (nI n), .int (nI (f 72)), .null, .null, .null, .null] _ _ _
  refine wp_iconst (pc := 0) (-1) dX0_bestCrew_0 (by decide) ?_
  refine wp_istore_n (pc := 1) 3 dX0_bestCrew_1 rfl (by decide) rfl ?_
  refine wp_iconst (pc := 2) (-1) dX0_bestCrew_2 (by decide) ?_
  refine wp_istore (pc := 3) 4 dX0_bestCrew_3 (by decide) rfl ?_
  refine wp_iconst (pc := 5) (0) dX0_bestCrew_5 (by decide) ?_
  refine wp_istore (pc := 6) 5 dX0_bestCrew_6 (by decide) rfl ?_
  refine wp_loop (fun i => [.ref (t + 5), .int (nI n), .int (nI (f 72)), .int (eN (crewU f n i)), .int (eW f (crewU f n i)), .int (nI i), .null]) (fun _ => (S0, F, I, J)) (fun _ => True) (2 ^ f 69) (fun i hi hv nx => ?_) (fun hv => ?_) 0 (Nat.zero_le _) trivial
  · have hc := p2c hw
    have hpi := pop_le i
    have hwl := wlU_le f i (f 69)
    have hwl : wl f i ≤ 1000000 := hwl
    rcases ho : bestU (fun b => decide (pop b = n)) (fun a b => decide (wl f b < wl f a)) i with _ | j
    · refine wp_to (lv' := [.ref (t + 5), .int (nI n), .int (nI (f 72)), .int (-1), .int (-1), .int (nI i), .null]) ?_ (by rw [show crewU f n i = none from ho]; rfl) rfl rfl
      refine wp_iload (pc := 8) 5 dX0_bestCrew_8 rfl ?_
      refine wp_aload_n (pc := 10) 0 dX0_bestCrew_10 rfl rfl ?_
      refine wc_V_ (pc := 11) dX0_bestCrew_11 lkX0_31 (sm_Rc.o (ci := 0) (tT5 ht) (by decide) (ht.ltn 5)) (by decide) (Nat.le_of_ble_eq_true rfl) ?_
      refine c_X0_everyRinger ht hw hT ?_
      refine wp_icmp_gt (pc := 14) 55 dX0_bestCrew_14 (by decide) (fun c_14 => ?_) (fun c_14 => ?_)
      · exact absurd c_14 (nI_nlt (by omega) (by omega))
      · refine wp_iload (pc := 17) 5 dX0_bestCrew_17 rfl ?_
        refine wc_S_I (pc := 19) dX0_bestCrew_19 lkX0_83 (by decide) (Nat.le_of_ble_eq_true rfl) ?_
        refine c_J6_bitCount_0f7a4 ?_
        refine wp_int (bc_pop (by omega)) ?_
        refine wp_iload_n (pc := 22) 1 dX0_bestCrew_22 rfl rfl ?_
        refine wp_icmp_ne (pc := 23) 49 dX0_bestCrew_23 (by decide) (fun c_23 => ?_) (fun c_23 => ?_)
        · refine wp_incN (pc := 49) 5 dX0_bestCrew_49 rfl (by decide) rfl ?_
          refine wp_goto (pc := 52) 8 dX0_bestCrew_52 (by decide) ?_
          have nx := nx trivial
          unfold crewU at nx
          rw [best_no (decide_eq_false (fun z => c_23 (by rw [z]))), ho] at nx
          exact nx
        · refine wp_aload_n (pc := 26) 0 dX0_bestCrew_26 rfl rfl ?_
          refine wp_iload (pc := 27) 5 dX0_bestCrew_27 rfl ?_
          refine wp_iload_n (pc := 29) 2 dX0_bestCrew_29 rfl rfl ?_
          refine wc_V_II (pc := 30) dX0_bestCrew_30 lkX0_80 (sm_Rc.o (ci := 0) (tT5 ht) (by decide) (ht.ltn 5)) (by decide) (Nat.le_of_ble_eq_true rfl) ?_
          refine c_X0_wellOf ht hw hT (by omega) ?_
          refine wp_istore (pc := 33) 6 dX0_bestCrew_33 (by decide) rfl ?_
          refine wp_iload (pc := 35) 6 dX0_bestCrew_35 rfl ?_
          refine wp_iload (pc := 37) 4 dX0_bestCrew_37 rfl ?_
          refine wp_icmp_le (pc := 39) 49 dX0_bestCrew_39 (by decide) (fun c_39 => ?_) (fun c_39 => ?_)
          · exact absurd c_39 (m1_lt (by omega))
          · refine wp_iload (pc := 42) 5 dX0_bestCrew_42 rfl ?_
            refine wp_istore_n (pc := 44) 3 dX0_bestCrew_44 rfl (by decide) rfl ?_
            refine wp_iload (pc := 45) 6 dX0_bestCrew_45 rfl ?_
            refine wp_istore (pc := 47) 4 dX0_bestCrew_47 (by decide) rfl ?_
            refine wp_incN (pc := 49) 5 dX0_bestCrew_49 rfl (by decide) rfl ?_
            refine wp_goto (pc := 52) 8 dX0_bestCrew_52 (by decide) ?_
            have nx := nx trivial
            unfold crewU at nx
            rw [best_new (decide_eq_true ((nI_eq (by omega) (by omega)).mp c_23)) ho] at nx
            refine wp_weak ?_ nx
            exact And.intro (Or.inr rfl) (And.intro (Or.inr rfl) (And.intro (Or.inr rfl) (And.intro (Or.inr rfl) (And.intro (Or.inr rfl) (And.intro (Or.inr rfl) (And.intro (Or.inl rfl) (trivial)))))))
    · have hwj : wl f j ≤ 1000000 := wlU_le f j (f 69)
      refine wp_to (lv' := [.ref (t + 5), .int (nI n), .int (nI (f 72)), .int (nI j), .int (nI (wl f j)), .int (nI i), .null]) ?_ (by rw [show crewU f n i = some j from ho]; rfl) rfl rfl
      refine wp_iload (pc := 8) 5 dX0_bestCrew_8 rfl ?_
      refine wp_aload_n (pc := 10) 0 dX0_bestCrew_10 rfl rfl ?_
      refine wc_V_ (pc := 11) dX0_bestCrew_11 lkX0_31 (sm_Rc.o (ci := 0) (tT5 ht) (by decide) (ht.ltn 5)) (by decide) (Nat.le_of_ble_eq_true rfl) ?_
      refine c_X0_everyRinger ht hw hT ?_
      refine wp_icmp_gt (pc := 14) 55 dX0_bestCrew_14 (by decide) (fun c_14 => ?_) (fun c_14 => ?_)
      · exact absurd c_14 (nI_nlt (by omega) (by omega))
      · refine wp_iload (pc := 17) 5 dX0_bestCrew_17 rfl ?_
        refine wc_S_I (pc := 19) dX0_bestCrew_19 lkX0_83 (by decide) (Nat.le_of_ble_eq_true rfl) ?_
        refine c_J6_bitCount_0f7a4 ?_
        refine wp_int (bc_pop (by omega)) ?_
        refine wp_iload_n (pc := 22) 1 dX0_bestCrew_22 rfl rfl ?_
        refine wp_icmp_ne (pc := 23) 49 dX0_bestCrew_23 (by decide) (fun c_23 => ?_) (fun c_23 => ?_)
        · refine wp_incN (pc := 49) 5 dX0_bestCrew_49 rfl (by decide) rfl ?_
          refine wp_goto (pc := 52) 8 dX0_bestCrew_52 (by decide) ?_
          have nx := nx trivial
          unfold crewU at nx
          rw [best_no (decide_eq_false (fun z => c_23 (by rw [z]))), ho] at nx
          exact nx
        · refine wp_aload_n (pc := 26) 0 dX0_bestCrew_26 rfl rfl ?_
          refine wp_iload (pc := 27) 5 dX0_bestCrew_27 rfl ?_
          refine wp_iload_n (pc := 29) 2 dX0_bestCrew_29 rfl rfl ?_
          refine wc_V_II (pc := 30) dX0_bestCrew_30 lkX0_80 (sm_Rc.o (ci := 0) (tT5 ht) (by decide) (ht.ltn 5)) (by decide) (Nat.le_of_ble_eq_true rfl) ?_
          refine c_X0_wellOf ht hw hT (by omega) ?_
          refine wp_istore (pc := 33) 6 dX0_bestCrew_33 (by decide) rfl ?_
          refine wp_iload (pc := 35) 6 dX0_bestCrew_35 rfl ?_
          refine wp_iload (pc := 37) 4 dX0_bestCrew_37 rfl ?_
          refine wp_icmp_le (pc := 39) 49 dX0_bestCrew_39 (by decide) (fun c_39 => ?_) (fun c_39 => ?_)
          · refine wp_incN (pc := 49) 5 dX0_bestCrew_49 rfl (by decide) rfl ?_
            refine wp_goto (pc := 52) 8 dX0_bestCrew_52 (by decide) ?_
            have nx := nx trivial
            unfold crewU at nx
            rw [best_st (decide_eq_true ((nI_eq (by omega) (by omega)).mp c_23)) ho (decide_eq_false (fun z => nI_ge z (by omega) c_39))] at nx
            refine wp_weak ?_ nx
            exact And.intro (Or.inr rfl) (And.intro (Or.inr rfl) (And.intro (Or.inr rfl) (And.intro (Or.inr rfl) (And.intro (Or.inr rfl) (And.intro (Or.inr rfl) (And.intro (Or.inl rfl) (trivial)))))))
          · refine wp_iload (pc := 42) 5 dX0_bestCrew_42 rfl ?_
            refine wp_istore_n (pc := 44) 3 dX0_bestCrew_44 rfl (by decide) rfl ?_
            refine wp_iload (pc := 45) 6 dX0_bestCrew_45 rfl ?_
            refine wp_istore (pc := 47) 4 dX0_bestCrew_47 (by decide) rfl ?_
            refine wp_incN (pc := 49) 5 dX0_bestCrew_49 rfl (by decide) rfl ?_
            refine wp_goto (pc := 52) 8 dX0_bestCrew_52 (by decide) ?_
            have nx := nx trivial
            unfold crewU at nx
            rw [best_up (decide_eq_true ((nI_eq (by omega) (by omega)).mp c_23)) ho (decide_eq_true (Nat.lt_of_not_le fun z => c_39 (nI_le z (by omega))))] at nx
            refine wp_weak ?_ nx
            exact And.intro (Or.inr rfl) (And.intro (Or.inr rfl) (And.intro (Or.inr rfl) (And.intro (Or.inr rfl) (And.intro (Or.inr rfl) (And.intro (Or.inr rfl) (And.intro (Or.inl rfl) (trivial)))))))
  · have hc := p2c hw
    have h0 := Nat.two_pow_pos (f 69)
    refine wp_iload (pc := 8) 5 dX0_bestCrew_8 rfl ?_
    refine wp_aload_n (pc := 10) 0 dX0_bestCrew_10 rfl rfl ?_
    refine wc_V_ (pc := 11) dX0_bestCrew_11 lkX0_31 (sm_Rc.o (ci := 0) (tT5 ht) (by decide) (ht.ltn 5)) (by decide) (Nat.le_of_ble_eq_true rfl) ?_
    refine c_X0_everyRinger ht hw hT ?_
    refine wp_icmp_gt (pc := 14) 55 dX0_bestCrew_14 (by decide) (fun c_14 => ?_) (fun c_14 => ?_)
    · refine wp_iload_n (pc := 55) 3 dX0_bestCrew_55 rfl rfl ?_
      refine wp_iretI (pc := 56) dX0_bestCrew_56 rfl ?_
      exact k
    · exact absurd (nI_lt (show 2 ^ f 69 - 1 < 2 ^ f 69 by omega) (by omega)) c_14
def upK (k : Nat) : Int32 := if k = 3 then 1 else if k = 4 then 2 else if k = 0 then -1 else 0
theorem c_X0_kindAbove {d : Nat} {h : sm_H} {Q : Option Value → sm_H → Prop} {w : Nat} (h6 : w < 6) (k : Q (some (.int (upK w))) h) : Wp mX0_kindAbove (d) 0 0 0 (sm_ini [.int (nI w)] 1) [] h Q := by
  show Wp _ _ _ _ _ [.int (nI w)] _ _ _
  rcases (show w = 0 ∨ w = 1 ∨ w = 2 ∨ w = 3 ∨ w = 4 ∨ w = 5 by omega) with rfl | rfl | rfl | rfl | rfl | rfl
  · refine wp_iload_n (pc := 0) 0 dX0_kindAbove_0 rfl rfl ?_
    refine wp_tswI (pc := 1) 0 40 dX0_kindAbove_1 (by decide) (by decide) rfl (by decide) ?_
    refine wp_iconst (pc := 40) (-1) dX0_kindAbove_40 (by decide) ?_
    refine wp_iretI (pc := 41) dX0_kindAbove_41 rfl ?_
    exact k
  · refine wp_iload_n (pc := 0) 0 dX0_kindAbove_0 rfl rfl ?_
    refine wp_tswI (pc := 1) 1 42 dX0_kindAbove_1 (by decide) (by decide) rfl (by decide) ?_
    refine wp_iconst (pc := 42) (0) dX0_kindAbove_42 (by decide) ?_
    refine wp_iretI (pc := 43) dX0_kindAbove_43 rfl ?_
    exact k
  · refine wp_iload_n (pc := 0) 0 dX0_kindAbove_0 rfl rfl ?_
    refine wp_tswI (pc := 1) 2 42 dX0_kindAbove_1 (by decide) (by decide) rfl (by decide) ?_
    refine wp_iconst (pc := 42) (0) dX0_kindAbove_42 (by decide) ?_
    refine wp_iretI (pc := 43) dX0_kindAbove_43 rfl ?_
    exact k
  · refine wp_iload_n (pc := 0) 0 dX0_kindAbove_0 rfl rfl ?_
    refine wp_tswI (pc := 1) 3 36 dX0_kindAbove_1 (by decide) (by decide) rfl (by decide) ?_
    refine wp_iconst (pc := 36) (1) dX0_kindAbove_36 (by decide) ?_
    refine wp_iretI (pc := 37) dX0_kindAbove_37 rfl ?_
    exact k
  · refine wp_iload_n (pc := 0) 0 dX0_kindAbove_0 rfl rfl ?_
    refine wp_tswI (pc := 1) 4 38 dX0_kindAbove_1 (by decide) (by decide) rfl (by decide) ?_
    refine wp_iconst (pc := 38) (2) dX0_kindAbove_38 (by decide) ?_
    refine wp_iretI (pc := 39) dX0_kindAbove_39 rfl ?_
    exact k
  · refine wp_iload_n (pc := 0) 0 dX0_kindAbove_0 rfl rfl ?_
    refine wp_tswO (pc := 1) 42 dX0_kindAbove_1 (by decide) (by decide) ?_
    refine wp_iconst (pc := 42) (0) dX0_kindAbove_42 (by decide) ?_
    refine wp_iretI (pc := 43) dX0_kindAbove_43 rfl ?_
    exact k
/-- a kind is the other, or under it -/
def undK (a b : Nat) : Bool := decide (a = b) || decide (b = 0) || (decide (a = 3) && decide (b = 1)) || (decide (a = 4) && decide (b = 2))
theorem c_X0_isUnder {d : Nat} {h : sm_H} {Q : Option Value → sm_H → Prop} {a b : Nat} (ha : a < 6) (hb : b < 6) (k : Q (some (.int (b2 (undK a b)))) h) : Wp mX0_isUnder (d + 1) 0 0 0 (sm_ini [.int (nI a), .int (nI b)] 4) [] h Q := by
  show Wp _ _ _ _ _ [.int (nI a), .int (nI b), .null, .null] _ _ _
  rcases (show a = 0 ∨ a = 1 ∨ a = 2 ∨ a = 3 ∨ a = 4 ∨ a = 5 by omega) with rfl | rfl | rfl | rfl | rfl | rfl
  · rcases (show b = 0 ∨ b = 1 ∨ b = 2 ∨ b = 3 ∨ b = 4 ∨ b = 5 by omega) with rfl | rfl | rfl | rfl | rfl | rfl
    · refine wp_iload_n (pc := 0) 0 dX0_isUnder_0 rfl rfl ?_
      refine wp_istore_n (pc := 1) 2 dX0_isUnder_1 rfl (by decide) rfl ?_
      refine wp_iconst (pc := 2) (0) dX0_isUnder_2 (by decide) ?_
      refine wp_istore_n (pc := 3) 3 dX0_isUnder_3 rfl (by decide) rfl ?_
      refine wp_iload_n (pc := 4) 3 dX0_isUnder_4 rfl rfl ?_
      refine wp_bipush (pc := 5) (6) dX0_isUnder_5 (by decide) ?_
      refine wp_icmp_ge (pc := 7) 33 dX0_isUnder_7 (by decide) (fun c_7 => ?_) (fun c_7 => ?_)
      · exact absurd c_7 (by decide)
      · refine wp_iload_n (pc := 10) 2 dX0_isUnder_10 rfl rfl ?_
        refine wp_iconst (pc := 11) (-1) dX0_isUnder_11 (by decide) ?_
        refine wp_icmp_eq (pc := 12) 33 dX0_isUnder_12 (by decide) (fun c_12 => ?_) (fun c_12 => ?_)
        · exact absurd c_12 (by decide)
        · refine wp_iload_n (pc := 15) 2 dX0_isUnder_15 rfl rfl ?_
          refine wp_iload_n (pc := 16) 1 dX0_isUnder_16 rfl rfl ?_
          refine wp_icmp_ne (pc := 17) 22 dX0_isUnder_17 (by decide) (fun c_17 => ?_) (fun c_17 => ?_)
          · exact absurd (by decide) c_17
          · refine wp_iconst (pc := 20) (1) dX0_isUnder_20 (by decide) ?_
            refine wp_iret (pc := 21) dX0_isUnder_21 ⟨_, rfl, by decide⟩ ?_
            exact k
    · refine wp_iload_n (pc := 0) 0 dX0_isUnder_0 rfl rfl ?_
      refine wp_istore_n (pc := 1) 2 dX0_isUnder_1 rfl (by decide) rfl ?_
      refine wp_iconst (pc := 2) (0) dX0_isUnder_2 (by decide) ?_
      refine wp_istore_n (pc := 3) 3 dX0_isUnder_3 rfl (by decide) rfl ?_
      refine wp_iload_n (pc := 4) 3 dX0_isUnder_4 rfl rfl ?_
      refine wp_bipush (pc := 5) (6) dX0_isUnder_5 (by decide) ?_
      refine wp_icmp_ge (pc := 7) 33 dX0_isUnder_7 (by decide) (fun c_7 => ?_) (fun c_7 => ?_)
      · exact absurd c_7 (by decide)
      · refine wp_iload_n (pc := 10) 2 dX0_isUnder_10 rfl rfl ?_
        refine wp_iconst (pc := 11) (-1) dX0_isUnder_11 (by decide) ?_
        refine wp_icmp_eq (pc := 12) 33 dX0_isUnder_12 (by decide) (fun c_12 => ?_) (fun c_12 => ?_)
        · exact absurd c_12 (by decide)
        · refine wp_iload_n (pc := 15) 2 dX0_isUnder_15 rfl rfl ?_
          refine wp_iload_n (pc := 16) 1 dX0_isUnder_16 rfl rfl ?_
          refine wp_icmp_ne (pc := 17) 22 dX0_isUnder_17 (by decide) (fun c_17 => ?_) (fun c_17 => ?_)
          · refine wp_iload_n (pc := 22) 2 dX0_isUnder_22 rfl rfl ?_
            refine wc_S_I (pc := 23) dX0_isUnder_23 lkX0_43 (by decide) (Nat.le_of_ble_eq_true rfl) ?_
            refine c_X0_kindAbove (w := 0) (by decide) ?_
            refine wp_istore_n (pc := 26) 2 dX0_isUnder_26 rfl (by decide) rfl ?_
            refine wp_incN (pc := 27) 3 dX0_isUnder_27 rfl (by decide) rfl ?_
            refine wp_goto (pc := 30) 4 dX0_isUnder_30 (by decide) ?_
            refine wp_iload_n (pc := 4) 3 dX0_isUnder_4 rfl rfl ?_
            refine wp_bipush (pc := 5) (6) dX0_isUnder_5 (by decide) ?_
            refine wp_icmp_ge (pc := 7) 33 dX0_isUnder_7 (by decide) (fun c_7 => ?_) (fun c_7 => ?_)
            · exact absurd c_7 (by decide)
            · refine wp_iload_n (pc := 10) 2 dX0_isUnder_10 rfl rfl ?_
              refine wp_iconst (pc := 11) (-1) dX0_isUnder_11 (by decide) ?_
              refine wp_icmp_eq (pc := 12) 33 dX0_isUnder_12 (by decide) (fun c_12 => ?_) (fun c_12 => ?_)
              · refine wp_iconst (pc := 33) (0) dX0_isUnder_33 (by decide) ?_
                refine wp_iret (pc := 34) dX0_isUnder_34 ⟨_, rfl, by decide⟩ ?_
                exact k
              · exact absurd (by decide) c_12
          · exact absurd c_17 (by decide)
    · refine wp_iload_n (pc := 0) 0 dX0_isUnder_0 rfl rfl ?_
      refine wp_istore_n (pc := 1) 2 dX0_isUnder_1 rfl (by decide) rfl ?_
      refine wp_iconst (pc := 2) (0) dX0_isUnder_2 (by decide) ?_
      refine wp_istore_n (pc := 3) 3 dX0_isUnder_3 rfl (by decide) rfl ?_
      refine wp_iload_n (pc := 4) 3 dX0_isUnder_4 rfl rfl ?_
      refine wp_bipush (pc := 5) (6) dX0_isUnder_5 (by decide) ?_
      refine wp_icmp_ge (pc := 7) 33 dX0_isUnder_7 (by decide) (fun c_7 => ?_) (fun c_7 => ?_)
      · exact absurd c_7 (by decide)
      · refine wp_iload_n (pc := 10) 2 dX0_isUnder_10 rfl rfl ?_
        refine wp_iconst (pc := 11) (-1) dX0_isUnder_11 (by decide) ?_
        refine wp_icmp_eq (pc := 12) 33 dX0_isUnder_12 (by decide) (fun c_12 => ?_) (fun c_12 => ?_)
        · exact absurd c_12 (by decide)
        · refine wp_iload_n (pc := 15) 2 dX0_isUnder_15 rfl rfl ?_
          refine wp_iload_n (pc := 16) 1 dX0_isUnder_16 rfl rfl ?_
          refine wp_icmp_ne (pc := 17) 22 dX0_isUnder_17 (by decide) (fun c_17 => ?_) (fun c_17 => ?_)
          · refine wp_iload_n (pc := 22) 2 dX0_isUnder_22 rfl rfl ?_
            refine wc_S_I (pc := 23) dX0_isUnder_23 lkX0_43 (by decide) (Nat.le_of_ble_eq_true rfl) ?_
            refine c_X0_kindAbove (w := 0) (by decide) ?_
            refine wp_istore_n (pc := 26) 2 dX0_isUnder_26 rfl (by decide) rfl ?_
            refine wp_incN (pc := 27) 3 dX0_isUnder_27 rfl (by decide) rfl ?_
            refine wp_goto (pc := 30) 4 dX0_isUnder_30 (by decide) ?_
            refine wp_iload_n (pc := 4) 3 dX0_isUnder_4 rfl rfl ?_
            refine wp_bipush (pc := 5) (6) dX0_isUnder_5 (by decide) ?_
            refine wp_icmp_ge (pc := 7) 33 dX0_isUnder_7 (by decide) (fun c_7 => ?_) (fun c_7 => ?_)
            · exact absurd c_7 (by decide)
            · refine wp_iload_n (pc := 10) 2 dX0_isUnder_10 rfl rfl ?_
              refine wp_iconst (pc := 11) (-1) dX0_isUnder_11 (by decide) ?_
              refine wp_icmp_eq (pc := 12) 33 dX0_isUnder_12 (by decide) (fun c_12 => ?_) (fun c_12 => ?_)
              · refine wp_iconst (pc := 33) (0) dX0_isUnder_33 (by decide) ?_
                refine wp_iret (pc := 34) dX0_isUnder_34 ⟨_, rfl, by decide⟩ ?_
                exact k
              · exact absurd (by decide) c_12
          · exact absurd c_17 (by decide)
    · refine wp_iload_n (pc := 0) 0 dX0_isUnder_0 rfl rfl ?_
      refine wp_istore_n (pc := 1) 2 dX0_isUnder_1 rfl (by decide) rfl ?_
      refine wp_iconst (pc := 2) (0) dX0_isUnder_2 (by decide) ?_
      refine wp_istore_n (pc := 3) 3 dX0_isUnder_3 rfl (by decide) rfl ?_
      refine wp_iload_n (pc := 4) 3 dX0_isUnder_4 rfl rfl ?_
      refine wp_bipush (pc := 5) (6) dX0_isUnder_5 (by decide) ?_
      refine wp_icmp_ge (pc := 7) 33 dX0_isUnder_7 (by decide) (fun c_7 => ?_) (fun c_7 => ?_)
      · exact absurd c_7 (by decide)
      · refine wp_iload_n (pc := 10) 2 dX0_isUnder_10 rfl rfl ?_
        refine wp_iconst (pc := 11) (-1) dX0_isUnder_11 (by decide) ?_
        refine wp_icmp_eq (pc := 12) 33 dX0_isUnder_12 (by decide) (fun c_12 => ?_) (fun c_12 => ?_)
        · exact absurd c_12 (by decide)
        · refine wp_iload_n (pc := 15) 2 dX0_isUnder_15 rfl rfl ?_
          refine wp_iload_n (pc := 16) 1 dX0_isUnder_16 rfl rfl ?_
          refine wp_icmp_ne (pc := 17) 22 dX0_isUnder_17 (by decide) (fun c_17 => ?_) (fun c_17 => ?_)
          · refine wp_iload_n (pc := 22) 2 dX0_isUnder_22 rfl rfl ?_
            refine wc_S_I (pc := 23) dX0_isUnder_23 lkX0_43 (by decide) (Nat.le_of_ble_eq_true rfl) ?_
            refine c_X0_kindAbove (w := 0) (by decide) ?_
            refine wp_istore_n (pc := 26) 2 dX0_isUnder_26 rfl (by decide) rfl ?_
            refine wp_incN (pc := 27) 3 dX0_isUnder_27 rfl (by decide) rfl ?_
            refine wp_goto (pc := 30) 4 dX0_isUnder_30 (by decide) ?_
            refine wp_iload_n (pc := 4) 3 dX0_isUnder_4 rfl rfl ?_
            refine wp_bipush (pc := 5) (6) dX0_isUnder_5 (by decide) ?_
            refine wp_icmp_ge (pc := 7) 33 dX0_isUnder_7 (by decide) (fun c_7 => ?_) (fun c_7 => ?_)
            · exact absurd c_7 (by decide)
            · refine wp_iload_n (pc := 10) 2 dX0_isUnder_10 rfl rfl ?_
              refine wp_iconst (pc := 11) (-1) dX0_isUnder_11 (by decide) ?_
              refine wp_icmp_eq (pc := 12) 33 dX0_isUnder_12 (by decide) (fun c_12 => ?_) (fun c_12 => ?_)
              · refine wp_iconst (pc := 33) (0) dX0_isUnder_33 (by decide) ?_
                refine wp_iret (pc := 34) dX0_isUnder_34 ⟨_, rfl, by decide⟩ ?_
                exact k
              · exact absurd (by decide) c_12
          · exact absurd c_17 (by decide)
    · refine wp_iload_n (pc := 0) 0 dX0_isUnder_0 rfl rfl ?_
      refine wp_istore_n (pc := 1) 2 dX0_isUnder_1 rfl (by decide) rfl ?_
      refine wp_iconst (pc := 2) (0) dX0_isUnder_2 (by decide) ?_
      refine wp_istore_n (pc := 3) 3 dX0_isUnder_3 rfl (by decide) rfl ?_
      refine wp_iload_n (pc := 4) 3 dX0_isUnder_4 rfl rfl ?_
      refine wp_bipush (pc := 5) (6) dX0_isUnder_5 (by decide) ?_
      refine wp_icmp_ge (pc := 7) 33 dX0_isUnder_7 (by decide) (fun c_7 => ?_) (fun c_7 => ?_)
      · exact absurd c_7 (by decide)
      · refine wp_iload_n (pc := 10) 2 dX0_isUnder_10 rfl rfl ?_
        refine wp_iconst (pc := 11) (-1) dX0_isUnder_11 (by decide) ?_
        refine wp_icmp_eq (pc := 12) 33 dX0_isUnder_12 (by decide) (fun c_12 => ?_) (fun c_12 => ?_)
        · exact absurd c_12 (by decide)
        · refine wp_iload_n (pc := 15) 2 dX0_isUnder_15 rfl rfl ?_
          refine wp_iload_n (pc := 16) 1 dX0_isUnder_16 rfl rfl ?_
          refine wp_icmp_ne (pc := 17) 22 dX0_isUnder_17 (by decide) (fun c_17 => ?_) (fun c_17 => ?_)
          · refine wp_iload_n (pc := 22) 2 dX0_isUnder_22 rfl rfl ?_
            refine wc_S_I (pc := 23) dX0_isUnder_23 lkX0_43 (by decide) (Nat.le_of_ble_eq_true rfl) ?_
            refine c_X0_kindAbove (w := 0) (by decide) ?_
            refine wp_istore_n (pc := 26) 2 dX0_isUnder_26 rfl (by decide) rfl ?_
            refine wp_incN (pc := 27) 3 dX0_isUnder_27 rfl (by decide) rfl ?_
            refine wp_goto (pc := 30) 4 dX0_isUnder_30 (by decide) ?_
            refine wp_iload_n (pc := 4) 3 dX0_isUnder_4 rfl rfl ?_
            refine wp_bipush (pc := 5) (6) dX0_isUnder_5 (by decide) ?_
            refine wp_icmp_ge (pc := 7) 33 dX0_isUnder_7 (by decide) (fun c_7 => ?_) (fun c_7 => ?_)
            · exact absurd c_7 (by decide)
            · refine wp_iload_n (pc := 10) 2 dX0_isUnder_10 rfl rfl ?_
              refine wp_iconst (pc := 11) (-1) dX0_isUnder_11 (by decide) ?_
              refine wp_icmp_eq (pc := 12) 33 dX0_isUnder_12 (by decide) (fun c_12 => ?_) (fun c_12 => ?_)
              · refine wp_iconst (pc := 33) (0) dX0_isUnder_33 (by decide) ?_
                refine wp_iret (pc := 34) dX0_isUnder_34 ⟨_, rfl, by decide⟩ ?_
                exact k
              · exact absurd (by decide) c_12
          · exact absurd c_17 (by decide)
    · refine wp_iload_n (pc := 0) 0 dX0_isUnder_0 rfl rfl ?_
      refine wp_istore_n (pc := 1) 2 dX0_isUnder_1 rfl (by decide) rfl ?_
      refine wp_iconst (pc := 2) (0) dX0_isUnder_2 (by decide) ?_
      refine wp_istore_n (pc := 3) 3 dX0_isUnder_3 rfl (by decide) rfl ?_
      refine wp_iload_n (pc := 4) 3 dX0_isUnder_4 rfl rfl ?_
      refine wp_bipush (pc := 5) (6) dX0_isUnder_5 (by decide) ?_
      refine wp_icmp_ge (pc := 7) 33 dX0_isUnder_7 (by decide) (fun c_7 => ?_) (fun c_7 => ?_)
      · exact absurd c_7 (by decide)
      · refine wp_iload_n (pc := 10) 2 dX0_isUnder_10 rfl rfl ?_
        refine wp_iconst (pc := 11) (-1) dX0_isUnder_11 (by decide) ?_
        refine wp_icmp_eq (pc := 12) 33 dX0_isUnder_12 (by decide) (fun c_12 => ?_) (fun c_12 => ?_)
        · exact absurd c_12 (by decide)
        · refine wp_iload_n (pc := 15) 2 dX0_isUnder_15 rfl rfl ?_
          refine wp_iload_n (pc := 16) 1 dX0_isUnder_16 rfl rfl ?_
          refine wp_icmp_ne (pc := 17) 22 dX0_isUnder_17 (by decide) (fun c_17 => ?_) (fun c_17 => ?_)
          · refine wp_iload_n (pc := 22) 2 dX0_isUnder_22 rfl rfl ?_
            refine wc_S_I (pc := 23) dX0_isUnder_23 lkX0_43 (by decide) (Nat.le_of_ble_eq_true rfl) ?_
            refine c_X0_kindAbove (w := 0) (by decide) ?_
            refine wp_istore_n (pc := 26) 2 dX0_isUnder_26 rfl (by decide) rfl ?_
            refine wp_incN (pc := 27) 3 dX0_isUnder_27 rfl (by decide) rfl ?_
            refine wp_goto (pc := 30) 4 dX0_isUnder_30 (by decide) ?_
            refine wp_iload_n (pc := 4) 3 dX0_isUnder_4 rfl rfl ?_
            refine wp_bipush (pc := 5) (6) dX0_isUnder_5 (by decide) ?_
            refine wp_icmp_ge (pc := 7) 33 dX0_isUnder_7 (by decide) (fun c_7 => ?_) (fun c_7 => ?_)
            · exact absurd c_7 (by decide)
            · refine wp_iload_n (pc := 10) 2 dX0_isUnder_10 rfl rfl ?_
              refine wp_iconst (pc := 11) (-1) dX0_isUnder_11 (by decide) ?_
              refine wp_icmp_eq (pc := 12) 33 dX0_isUnder_12 (by decide) (fun c_12 => ?_) (fun c_12 => ?_)
              · refine wp_iconst (pc := 33) (0) dX0_isUnder_33 (by decide) ?_
                refine wp_iret (pc := 34) dX0_isUnder_34 ⟨_, rfl, by decide⟩ ?_
                exact k
              · exact absurd (by decide) c_12
          · exact absurd c_17 (by decide)
  · rcases (show b = 0 ∨ b = 1 ∨ b = 2 ∨ b = 3 ∨ b = 4 ∨ b = 5 by omega) with rfl | rfl | rfl | rfl | rfl | rfl
    · refine wp_iload_n (pc := 0) 0 dX0_isUnder_0 rfl rfl ?_
      refine wp_istore_n (pc := 1) 2 dX0_isUnder_1 rfl (by decide) rfl ?_
      refine wp_iconst (pc := 2) (0) dX0_isUnder_2 (by decide) ?_
      refine wp_istore_n (pc := 3) 3 dX0_isUnder_3 rfl (by decide) rfl ?_
      refine wp_iload_n (pc := 4) 3 dX0_isUnder_4 rfl rfl ?_
      refine wp_bipush (pc := 5) (6) dX0_isUnder_5 (by decide) ?_
      refine wp_icmp_ge (pc := 7) 33 dX0_isUnder_7 (by decide) (fun c_7 => ?_) (fun c_7 => ?_)
      · exact absurd c_7 (by decide)
      · refine wp_iload_n (pc := 10) 2 dX0_isUnder_10 rfl rfl ?_
        refine wp_iconst (pc := 11) (-1) dX0_isUnder_11 (by decide) ?_
        refine wp_icmp_eq (pc := 12) 33 dX0_isUnder_12 (by decide) (fun c_12 => ?_) (fun c_12 => ?_)
        · exact absurd c_12 (by decide)
        · refine wp_iload_n (pc := 15) 2 dX0_isUnder_15 rfl rfl ?_
          refine wp_iload_n (pc := 16) 1 dX0_isUnder_16 rfl rfl ?_
          refine wp_icmp_ne (pc := 17) 22 dX0_isUnder_17 (by decide) (fun c_17 => ?_) (fun c_17 => ?_)
          · refine wp_iload_n (pc := 22) 2 dX0_isUnder_22 rfl rfl ?_
            refine wc_S_I (pc := 23) dX0_isUnder_23 lkX0_43 (by decide) (Nat.le_of_ble_eq_true rfl) ?_
            refine c_X0_kindAbove (w := 1) (by decide) ?_
            refine wp_istore_n (pc := 26) 2 dX0_isUnder_26 rfl (by decide) rfl ?_
            refine wp_incN (pc := 27) 3 dX0_isUnder_27 rfl (by decide) rfl ?_
            refine wp_goto (pc := 30) 4 dX0_isUnder_30 (by decide) ?_
            refine wp_iload_n (pc := 4) 3 dX0_isUnder_4 rfl rfl ?_
            refine wp_bipush (pc := 5) (6) dX0_isUnder_5 (by decide) ?_
            refine wp_icmp_ge (pc := 7) 33 dX0_isUnder_7 (by decide) (fun c_7 => ?_) (fun c_7 => ?_)
            · exact absurd c_7 (by decide)
            · refine wp_iload_n (pc := 10) 2 dX0_isUnder_10 rfl rfl ?_
              refine wp_iconst (pc := 11) (-1) dX0_isUnder_11 (by decide) ?_
              refine wp_icmp_eq (pc := 12) 33 dX0_isUnder_12 (by decide) (fun c_12 => ?_) (fun c_12 => ?_)
              · exact absurd c_12 (by decide)
              · refine wp_iload_n (pc := 15) 2 dX0_isUnder_15 rfl rfl ?_
                refine wp_iload_n (pc := 16) 1 dX0_isUnder_16 rfl rfl ?_
                refine wp_icmp_ne (pc := 17) 22 dX0_isUnder_17 (by decide) (fun c_17 => ?_) (fun c_17 => ?_)
                · exact absurd (by decide) c_17
                · refine wp_iconst (pc := 20) (1) dX0_isUnder_20 (by decide) ?_
                  refine wp_iret (pc := 21) dX0_isUnder_21 ⟨_, rfl, by decide⟩ ?_
                  exact k
          · exact absurd c_17 (by decide)
    · refine wp_iload_n (pc := 0) 0 dX0_isUnder_0 rfl rfl ?_
      refine wp_istore_n (pc := 1) 2 dX0_isUnder_1 rfl (by decide) rfl ?_
      refine wp_iconst (pc := 2) (0) dX0_isUnder_2 (by decide) ?_
      refine wp_istore_n (pc := 3) 3 dX0_isUnder_3 rfl (by decide) rfl ?_
      refine wp_iload_n (pc := 4) 3 dX0_isUnder_4 rfl rfl ?_
      refine wp_bipush (pc := 5) (6) dX0_isUnder_5 (by decide) ?_
      refine wp_icmp_ge (pc := 7) 33 dX0_isUnder_7 (by decide) (fun c_7 => ?_) (fun c_7 => ?_)
      · exact absurd c_7 (by decide)
      · refine wp_iload_n (pc := 10) 2 dX0_isUnder_10 rfl rfl ?_
        refine wp_iconst (pc := 11) (-1) dX0_isUnder_11 (by decide) ?_
        refine wp_icmp_eq (pc := 12) 33 dX0_isUnder_12 (by decide) (fun c_12 => ?_) (fun c_12 => ?_)
        · exact absurd c_12 (by decide)
        · refine wp_iload_n (pc := 15) 2 dX0_isUnder_15 rfl rfl ?_
          refine wp_iload_n (pc := 16) 1 dX0_isUnder_16 rfl rfl ?_
          refine wp_icmp_ne (pc := 17) 22 dX0_isUnder_17 (by decide) (fun c_17 => ?_) (fun c_17 => ?_)
          · exact absurd (by decide) c_17
          · refine wp_iconst (pc := 20) (1) dX0_isUnder_20 (by decide) ?_
            refine wp_iret (pc := 21) dX0_isUnder_21 ⟨_, rfl, by decide⟩ ?_
            exact k
    · refine wp_iload_n (pc := 0) 0 dX0_isUnder_0 rfl rfl ?_
      refine wp_istore_n (pc := 1) 2 dX0_isUnder_1 rfl (by decide) rfl ?_
      refine wp_iconst (pc := 2) (0) dX0_isUnder_2 (by decide) ?_
      refine wp_istore_n (pc := 3) 3 dX0_isUnder_3 rfl (by decide) rfl ?_
      refine wp_iload_n (pc := 4) 3 dX0_isUnder_4 rfl rfl ?_
      refine wp_bipush (pc := 5) (6) dX0_isUnder_5 (by decide) ?_
      refine wp_icmp_ge (pc := 7) 33 dX0_isUnder_7 (by decide) (fun c_7 => ?_) (fun c_7 => ?_)
      · exact absurd c_7 (by decide)
      · refine wp_iload_n (pc := 10) 2 dX0_isUnder_10 rfl rfl ?_
        refine wp_iconst (pc := 11) (-1) dX0_isUnder_11 (by decide) ?_
        refine wp_icmp_eq (pc := 12) 33 dX0_isUnder_12 (by decide) (fun c_12 => ?_) (fun c_12 => ?_)
        · exact absurd c_12 (by decide)
        · refine wp_iload_n (pc := 15) 2 dX0_isUnder_15 rfl rfl ?_
          refine wp_iload_n (pc := 16) 1 dX0_isUnder_16 rfl rfl ?_
          refine wp_icmp_ne (pc := 17) 22 dX0_isUnder_17 (by decide) (fun c_17 => ?_) (fun c_17 => ?_)
          · refine wp_iload_n (pc := 22) 2 dX0_isUnder_22 rfl rfl ?_
            refine wc_S_I (pc := 23) dX0_isUnder_23 lkX0_43 (by decide) (Nat.le_of_ble_eq_true rfl) ?_
            refine c_X0_kindAbove (w := 1) (by decide) ?_
            refine wp_istore_n (pc := 26) 2 dX0_isUnder_26 rfl (by decide) rfl ?_
            refine wp_incN (pc := 27) 3 dX0_isUnder_27 rfl (by decide) rfl ?_
            refine wp_goto (pc := 30) 4 dX0_isUnder_30 (by decide) ?_
            refine wp_iload_n (pc := 4) 3 dX0_isUnder_4 rfl rfl ?_
            refine wp_bipush (pc := 5) (6) dX0_isUnder_5 (by decide) ?_
            refine wp_icmp_ge (pc := 7) 33 dX0_isUnder_7 (by decide) (fun c_7 => ?_) (fun c_7 => ?_)
            · exact absurd c_7 (by decide)
            · refine wp_iload_n (pc := 10) 2 dX0_isUnder_10 rfl rfl ?_
              refine wp_iconst (pc := 11) (-1) dX0_isUnder_11 (by decide) ?_
              refine wp_icmp_eq (pc := 12) 33 dX0_isUnder_12 (by decide) (fun c_12 => ?_) (fun c_12 => ?_)
              · exact absurd c_12 (by decide)
              · refine wp_iload_n (pc := 15) 2 dX0_isUnder_15 rfl rfl ?_
                refine wp_iload_n (pc := 16) 1 dX0_isUnder_16 rfl rfl ?_
                refine wp_icmp_ne (pc := 17) 22 dX0_isUnder_17 (by decide) (fun c_17 => ?_) (fun c_17 => ?_)
                · refine wp_iload_n (pc := 22) 2 dX0_isUnder_22 rfl rfl ?_
                  refine wc_S_I (pc := 23) dX0_isUnder_23 lkX0_43 (by decide) (Nat.le_of_ble_eq_true rfl) ?_
                  refine c_X0_kindAbove (w := 0) (by decide) ?_
                  refine wp_istore_n (pc := 26) 2 dX0_isUnder_26 rfl (by decide) rfl ?_
                  refine wp_incN (pc := 27) 3 dX0_isUnder_27 rfl (by decide) rfl ?_
                  refine wp_goto (pc := 30) 4 dX0_isUnder_30 (by decide) ?_
                  refine wp_iload_n (pc := 4) 3 dX0_isUnder_4 rfl rfl ?_
                  refine wp_bipush (pc := 5) (6) dX0_isUnder_5 (by decide) ?_
                  refine wp_icmp_ge (pc := 7) 33 dX0_isUnder_7 (by decide) (fun c_7 => ?_) (fun c_7 => ?_)
                  · exact absurd c_7 (by decide)
                  · refine wp_iload_n (pc := 10) 2 dX0_isUnder_10 rfl rfl ?_
                    refine wp_iconst (pc := 11) (-1) dX0_isUnder_11 (by decide) ?_
                    refine wp_icmp_eq (pc := 12) 33 dX0_isUnder_12 (by decide) (fun c_12 => ?_) (fun c_12 => ?_)
                    · refine wp_iconst (pc := 33) (0) dX0_isUnder_33 (by decide) ?_
                      refine wp_iret (pc := 34) dX0_isUnder_34 ⟨_, rfl, by decide⟩ ?_
                      exact k
                    · exact absurd (by decide) c_12
                · exact absurd c_17 (by decide)
          · exact absurd c_17 (by decide)
    · refine wp_iload_n (pc := 0) 0 dX0_isUnder_0 rfl rfl ?_
      refine wp_istore_n (pc := 1) 2 dX0_isUnder_1 rfl (by decide) rfl ?_
      refine wp_iconst (pc := 2) (0) dX0_isUnder_2 (by decide) ?_
      refine wp_istore_n (pc := 3) 3 dX0_isUnder_3 rfl (by decide) rfl ?_
      refine wp_iload_n (pc := 4) 3 dX0_isUnder_4 rfl rfl ?_
      refine wp_bipush (pc := 5) (6) dX0_isUnder_5 (by decide) ?_
      refine wp_icmp_ge (pc := 7) 33 dX0_isUnder_7 (by decide) (fun c_7 => ?_) (fun c_7 => ?_)
      · exact absurd c_7 (by decide)
      · refine wp_iload_n (pc := 10) 2 dX0_isUnder_10 rfl rfl ?_
        refine wp_iconst (pc := 11) (-1) dX0_isUnder_11 (by decide) ?_
        refine wp_icmp_eq (pc := 12) 33 dX0_isUnder_12 (by decide) (fun c_12 => ?_) (fun c_12 => ?_)
        · exact absurd c_12 (by decide)
        · refine wp_iload_n (pc := 15) 2 dX0_isUnder_15 rfl rfl ?_
          refine wp_iload_n (pc := 16) 1 dX0_isUnder_16 rfl rfl ?_
          refine wp_icmp_ne (pc := 17) 22 dX0_isUnder_17 (by decide) (fun c_17 => ?_) (fun c_17 => ?_)
          · refine wp_iload_n (pc := 22) 2 dX0_isUnder_22 rfl rfl ?_
            refine wc_S_I (pc := 23) dX0_isUnder_23 lkX0_43 (by decide) (Nat.le_of_ble_eq_true rfl) ?_
            refine c_X0_kindAbove (w := 1) (by decide) ?_
            refine wp_istore_n (pc := 26) 2 dX0_isUnder_26 rfl (by decide) rfl ?_
            refine wp_incN (pc := 27) 3 dX0_isUnder_27 rfl (by decide) rfl ?_
            refine wp_goto (pc := 30) 4 dX0_isUnder_30 (by decide) ?_
            refine wp_iload_n (pc := 4) 3 dX0_isUnder_4 rfl rfl ?_
            refine wp_bipush (pc := 5) (6) dX0_isUnder_5 (by decide) ?_
            refine wp_icmp_ge (pc := 7) 33 dX0_isUnder_7 (by decide) (fun c_7 => ?_) (fun c_7 => ?_)
            · exact absurd c_7 (by decide)
            · refine wp_iload_n (pc := 10) 2 dX0_isUnder_10 rfl rfl ?_
              refine wp_iconst (pc := 11) (-1) dX0_isUnder_11 (by decide) ?_
              refine wp_icmp_eq (pc := 12) 33 dX0_isUnder_12 (by decide) (fun c_12 => ?_) (fun c_12 => ?_)
              · exact absurd c_12 (by decide)
              · refine wp_iload_n (pc := 15) 2 dX0_isUnder_15 rfl rfl ?_
                refine wp_iload_n (pc := 16) 1 dX0_isUnder_16 rfl rfl ?_
                refine wp_icmp_ne (pc := 17) 22 dX0_isUnder_17 (by decide) (fun c_17 => ?_) (fun c_17 => ?_)
                · refine wp_iload_n (pc := 22) 2 dX0_isUnder_22 rfl rfl ?_
                  refine wc_S_I (pc := 23) dX0_isUnder_23 lkX0_43 (by decide) (Nat.le_of_ble_eq_true rfl) ?_
                  refine c_X0_kindAbove (w := 0) (by decide) ?_
                  refine wp_istore_n (pc := 26) 2 dX0_isUnder_26 rfl (by decide) rfl ?_
                  refine wp_incN (pc := 27) 3 dX0_isUnder_27 rfl (by decide) rfl ?_
                  refine wp_goto (pc := 30) 4 dX0_isUnder_30 (by decide) ?_
                  refine wp_iload_n (pc := 4) 3 dX0_isUnder_4 rfl rfl ?_
                  refine wp_bipush (pc := 5) (6) dX0_isUnder_5 (by decide) ?_
                  refine wp_icmp_ge (pc := 7) 33 dX0_isUnder_7 (by decide) (fun c_7 => ?_) (fun c_7 => ?_)
                  · exact absurd c_7 (by decide)
                  · refine wp_iload_n (pc := 10) 2 dX0_isUnder_10 rfl rfl ?_
                    refine wp_iconst (pc := 11) (-1) dX0_isUnder_11 (by decide) ?_
                    refine wp_icmp_eq (pc := 12) 33 dX0_isUnder_12 (by decide) (fun c_12 => ?_) (fun c_12 => ?_)
                    · refine wp_iconst (pc := 33) (0) dX0_isUnder_33 (by decide) ?_
                      refine wp_iret (pc := 34) dX0_isUnder_34 ⟨_, rfl, by decide⟩ ?_
                      exact k
                    · exact absurd (by decide) c_12
                · exact absurd c_17 (by decide)
          · exact absurd c_17 (by decide)
    · refine wp_iload_n (pc := 0) 0 dX0_isUnder_0 rfl rfl ?_
      refine wp_istore_n (pc := 1) 2 dX0_isUnder_1 rfl (by decide) rfl ?_
      refine wp_iconst (pc := 2) (0) dX0_isUnder_2 (by decide) ?_
      refine wp_istore_n (pc := 3) 3 dX0_isUnder_3 rfl (by decide) rfl ?_
      refine wp_iload_n (pc := 4) 3 dX0_isUnder_4 rfl rfl ?_
      refine wp_bipush (pc := 5) (6) dX0_isUnder_5 (by decide) ?_
      refine wp_icmp_ge (pc := 7) 33 dX0_isUnder_7 (by decide) (fun c_7 => ?_) (fun c_7 => ?_)
      · exact absurd c_7 (by decide)
      · refine wp_iload_n (pc := 10) 2 dX0_isUnder_10 rfl rfl ?_
        refine wp_iconst (pc := 11) (-1) dX0_isUnder_11 (by decide) ?_
        refine wp_icmp_eq (pc := 12) 33 dX0_isUnder_12 (by decide) (fun c_12 => ?_) (fun c_12 => ?_)
        · exact absurd c_12 (by decide)
        · refine wp_iload_n (pc := 15) 2 dX0_isUnder_15 rfl rfl ?_
          refine wp_iload_n (pc := 16) 1 dX0_isUnder_16 rfl rfl ?_
          refine wp_icmp_ne (pc := 17) 22 dX0_isUnder_17 (by decide) (fun c_17 => ?_) (fun c_17 => ?_)
          · refine wp_iload_n (pc := 22) 2 dX0_isUnder_22 rfl rfl ?_
            refine wc_S_I (pc := 23) dX0_isUnder_23 lkX0_43 (by decide) (Nat.le_of_ble_eq_true rfl) ?_
            refine c_X0_kindAbove (w := 1) (by decide) ?_
            refine wp_istore_n (pc := 26) 2 dX0_isUnder_26 rfl (by decide) rfl ?_
            refine wp_incN (pc := 27) 3 dX0_isUnder_27 rfl (by decide) rfl ?_
            refine wp_goto (pc := 30) 4 dX0_isUnder_30 (by decide) ?_
            refine wp_iload_n (pc := 4) 3 dX0_isUnder_4 rfl rfl ?_
            refine wp_bipush (pc := 5) (6) dX0_isUnder_5 (by decide) ?_
            refine wp_icmp_ge (pc := 7) 33 dX0_isUnder_7 (by decide) (fun c_7 => ?_) (fun c_7 => ?_)
            · exact absurd c_7 (by decide)
            · refine wp_iload_n (pc := 10) 2 dX0_isUnder_10 rfl rfl ?_
              refine wp_iconst (pc := 11) (-1) dX0_isUnder_11 (by decide) ?_
              refine wp_icmp_eq (pc := 12) 33 dX0_isUnder_12 (by decide) (fun c_12 => ?_) (fun c_12 => ?_)
              · exact absurd c_12 (by decide)
              · refine wp_iload_n (pc := 15) 2 dX0_isUnder_15 rfl rfl ?_
                refine wp_iload_n (pc := 16) 1 dX0_isUnder_16 rfl rfl ?_
                refine wp_icmp_ne (pc := 17) 22 dX0_isUnder_17 (by decide) (fun c_17 => ?_) (fun c_17 => ?_)
                · refine wp_iload_n (pc := 22) 2 dX0_isUnder_22 rfl rfl ?_
                  refine wc_S_I (pc := 23) dX0_isUnder_23 lkX0_43 (by decide) (Nat.le_of_ble_eq_true rfl) ?_
                  refine c_X0_kindAbove (w := 0) (by decide) ?_
                  refine wp_istore_n (pc := 26) 2 dX0_isUnder_26 rfl (by decide) rfl ?_
                  refine wp_incN (pc := 27) 3 dX0_isUnder_27 rfl (by decide) rfl ?_
                  refine wp_goto (pc := 30) 4 dX0_isUnder_30 (by decide) ?_
                  refine wp_iload_n (pc := 4) 3 dX0_isUnder_4 rfl rfl ?_
                  refine wp_bipush (pc := 5) (6) dX0_isUnder_5 (by decide) ?_
                  refine wp_icmp_ge (pc := 7) 33 dX0_isUnder_7 (by decide) (fun c_7 => ?_) (fun c_7 => ?_)
                  · exact absurd c_7 (by decide)
                  · refine wp_iload_n (pc := 10) 2 dX0_isUnder_10 rfl rfl ?_
                    refine wp_iconst (pc := 11) (-1) dX0_isUnder_11 (by decide) ?_
                    refine wp_icmp_eq (pc := 12) 33 dX0_isUnder_12 (by decide) (fun c_12 => ?_) (fun c_12 => ?_)
                    · refine wp_iconst (pc := 33) (0) dX0_isUnder_33 (by decide) ?_
                      refine wp_iret (pc := 34) dX0_isUnder_34 ⟨_, rfl, by decide⟩ ?_
                      exact k
                    · exact absurd (by decide) c_12
                · exact absurd c_17 (by decide)
          · exact absurd c_17 (by decide)
    · refine wp_iload_n (pc := 0) 0 dX0_isUnder_0 rfl rfl ?_
      refine wp_istore_n (pc := 1) 2 dX0_isUnder_1 rfl (by decide) rfl ?_
      refine wp_iconst (pc := 2) (0) dX0_isUnder_2 (by decide) ?_
      refine wp_istore_n (pc := 3) 3 dX0_isUnder_3 rfl (by decide) rfl ?_
      refine wp_iload_n (pc := 4) 3 dX0_isUnder_4 rfl rfl ?_
      refine wp_bipush (pc := 5) (6) dX0_isUnder_5 (by decide) ?_
      refine wp_icmp_ge (pc := 7) 33 dX0_isUnder_7 (by decide) (fun c_7 => ?_) (fun c_7 => ?_)
      · exact absurd c_7 (by decide)
      · refine wp_iload_n (pc := 10) 2 dX0_isUnder_10 rfl rfl ?_
        refine wp_iconst (pc := 11) (-1) dX0_isUnder_11 (by decide) ?_
        refine wp_icmp_eq (pc := 12) 33 dX0_isUnder_12 (by decide) (fun c_12 => ?_) (fun c_12 => ?_)
        · exact absurd c_12 (by decide)
        · refine wp_iload_n (pc := 15) 2 dX0_isUnder_15 rfl rfl ?_
          refine wp_iload_n (pc := 16) 1 dX0_isUnder_16 rfl rfl ?_
          refine wp_icmp_ne (pc := 17) 22 dX0_isUnder_17 (by decide) (fun c_17 => ?_) (fun c_17 => ?_)
          · refine wp_iload_n (pc := 22) 2 dX0_isUnder_22 rfl rfl ?_
            refine wc_S_I (pc := 23) dX0_isUnder_23 lkX0_43 (by decide) (Nat.le_of_ble_eq_true rfl) ?_
            refine c_X0_kindAbove (w := 1) (by decide) ?_
            refine wp_istore_n (pc := 26) 2 dX0_isUnder_26 rfl (by decide) rfl ?_
            refine wp_incN (pc := 27) 3 dX0_isUnder_27 rfl (by decide) rfl ?_
            refine wp_goto (pc := 30) 4 dX0_isUnder_30 (by decide) ?_
            refine wp_iload_n (pc := 4) 3 dX0_isUnder_4 rfl rfl ?_
            refine wp_bipush (pc := 5) (6) dX0_isUnder_5 (by decide) ?_
            refine wp_icmp_ge (pc := 7) 33 dX0_isUnder_7 (by decide) (fun c_7 => ?_) (fun c_7 => ?_)
            · exact absurd c_7 (by decide)
            · refine wp_iload_n (pc := 10) 2 dX0_isUnder_10 rfl rfl ?_
              refine wp_iconst (pc := 11) (-1) dX0_isUnder_11 (by decide) ?_
              refine wp_icmp_eq (pc := 12) 33 dX0_isUnder_12 (by decide) (fun c_12 => ?_) (fun c_12 => ?_)
              · exact absurd c_12 (by decide)
              · refine wp_iload_n (pc := 15) 2 dX0_isUnder_15 rfl rfl ?_
                refine wp_iload_n (pc := 16) 1 dX0_isUnder_16 rfl rfl ?_
                refine wp_icmp_ne (pc := 17) 22 dX0_isUnder_17 (by decide) (fun c_17 => ?_) (fun c_17 => ?_)
                · refine wp_iload_n (pc := 22) 2 dX0_isUnder_22 rfl rfl ?_
                  refine wc_S_I (pc := 23) dX0_isUnder_23 lkX0_43 (by decide) (Nat.le_of_ble_eq_true rfl) ?_
                  refine c_X0_kindAbove (w := 0) (by decide) ?_
                  refine wp_istore_n (pc := 26) 2 dX0_isUnder_26 rfl (by decide) rfl ?_
                  refine wp_incN (pc := 27) 3 dX0_isUnder_27 rfl (by decide) rfl ?_
                  refine wp_goto (pc := 30) 4 dX0_isUnder_30 (by decide) ?_
                  refine wp_iload_n (pc := 4) 3 dX0_isUnder_4 rfl rfl ?_
                  refine wp_bipush (pc := 5) (6) dX0_isUnder_5 (by decide) ?_
                  refine wp_icmp_ge (pc := 7) 33 dX0_isUnder_7 (by decide) (fun c_7 => ?_) (fun c_7 => ?_)
                  · exact absurd c_7 (by decide)
                  · refine wp_iload_n (pc := 10) 2 dX0_isUnder_10 rfl rfl ?_
                    refine wp_iconst (pc := 11) (-1) dX0_isUnder_11 (by decide) ?_
                    refine wp_icmp_eq (pc := 12) 33 dX0_isUnder_12 (by decide) (fun c_12 => ?_) (fun c_12 => ?_)
                    · refine wp_iconst (pc := 33) (0) dX0_isUnder_33 (by decide) ?_
                      refine wp_iret (pc := 34) dX0_isUnder_34 ⟨_, rfl, by decide⟩ ?_
                      exact k
                    · exact absurd (by decide) c_12
                · exact absurd c_17 (by decide)
          · exact absurd c_17 (by decide)
  · rcases (show b = 0 ∨ b = 1 ∨ b = 2 ∨ b = 3 ∨ b = 4 ∨ b = 5 by omega) with rfl | rfl | rfl | rfl | rfl | rfl
    · refine wp_iload_n (pc := 0) 0 dX0_isUnder_0 rfl rfl ?_
      refine wp_istore_n (pc := 1) 2 dX0_isUnder_1 rfl (by decide) rfl ?_
      refine wp_iconst (pc := 2) (0) dX0_isUnder_2 (by decide) ?_
      refine wp_istore_n (pc := 3) 3 dX0_isUnder_3 rfl (by decide) rfl ?_
      refine wp_iload_n (pc := 4) 3 dX0_isUnder_4 rfl rfl ?_
      refine wp_bipush (pc := 5) (6) dX0_isUnder_5 (by decide) ?_
      refine wp_icmp_ge (pc := 7) 33 dX0_isUnder_7 (by decide) (fun c_7 => ?_) (fun c_7 => ?_)
      · exact absurd c_7 (by decide)
      · refine wp_iload_n (pc := 10) 2 dX0_isUnder_10 rfl rfl ?_
        refine wp_iconst (pc := 11) (-1) dX0_isUnder_11 (by decide) ?_
        refine wp_icmp_eq (pc := 12) 33 dX0_isUnder_12 (by decide) (fun c_12 => ?_) (fun c_12 => ?_)
        · exact absurd c_12 (by decide)
        · refine wp_iload_n (pc := 15) 2 dX0_isUnder_15 rfl rfl ?_
          refine wp_iload_n (pc := 16) 1 dX0_isUnder_16 rfl rfl ?_
          refine wp_icmp_ne (pc := 17) 22 dX0_isUnder_17 (by decide) (fun c_17 => ?_) (fun c_17 => ?_)
          · refine wp_iload_n (pc := 22) 2 dX0_isUnder_22 rfl rfl ?_
            refine wc_S_I (pc := 23) dX0_isUnder_23 lkX0_43 (by decide) (Nat.le_of_ble_eq_true rfl) ?_
            refine c_X0_kindAbove (w := 2) (by decide) ?_
            refine wp_istore_n (pc := 26) 2 dX0_isUnder_26 rfl (by decide) rfl ?_
            refine wp_incN (pc := 27) 3 dX0_isUnder_27 rfl (by decide) rfl ?_
            refine wp_goto (pc := 30) 4 dX0_isUnder_30 (by decide) ?_
            refine wp_iload_n (pc := 4) 3 dX0_isUnder_4 rfl rfl ?_
            refine wp_bipush (pc := 5) (6) dX0_isUnder_5 (by decide) ?_
            refine wp_icmp_ge (pc := 7) 33 dX0_isUnder_7 (by decide) (fun c_7 => ?_) (fun c_7 => ?_)
            · exact absurd c_7 (by decide)
            · refine wp_iload_n (pc := 10) 2 dX0_isUnder_10 rfl rfl ?_
              refine wp_iconst (pc := 11) (-1) dX0_isUnder_11 (by decide) ?_
              refine wp_icmp_eq (pc := 12) 33 dX0_isUnder_12 (by decide) (fun c_12 => ?_) (fun c_12 => ?_)
              · exact absurd c_12 (by decide)
              · refine wp_iload_n (pc := 15) 2 dX0_isUnder_15 rfl rfl ?_
                refine wp_iload_n (pc := 16) 1 dX0_isUnder_16 rfl rfl ?_
                refine wp_icmp_ne (pc := 17) 22 dX0_isUnder_17 (by decide) (fun c_17 => ?_) (fun c_17 => ?_)
                · exact absurd (by decide) c_17
                · refine wp_iconst (pc := 20) (1) dX0_isUnder_20 (by decide) ?_
                  refine wp_iret (pc := 21) dX0_isUnder_21 ⟨_, rfl, by decide⟩ ?_
                  exact k
          · exact absurd c_17 (by decide)
    · refine wp_iload_n (pc := 0) 0 dX0_isUnder_0 rfl rfl ?_
      refine wp_istore_n (pc := 1) 2 dX0_isUnder_1 rfl (by decide) rfl ?_
      refine wp_iconst (pc := 2) (0) dX0_isUnder_2 (by decide) ?_
      refine wp_istore_n (pc := 3) 3 dX0_isUnder_3 rfl (by decide) rfl ?_
      refine wp_iload_n (pc := 4) 3 dX0_isUnder_4 rfl rfl ?_
      refine wp_bipush (pc := 5) (6) dX0_isUnder_5 (by decide) ?_
      refine wp_icmp_ge (pc := 7) 33 dX0_isUnder_7 (by decide) (fun c_7 => ?_) (fun c_7 => ?_)
      · exact absurd c_7 (by decide)
      · refine wp_iload_n (pc := 10) 2 dX0_isUnder_10 rfl rfl ?_
        refine wp_iconst (pc := 11) (-1) dX0_isUnder_11 (by decide) ?_
        refine wp_icmp_eq (pc := 12) 33 dX0_isUnder_12 (by decide) (fun c_12 => ?_) (fun c_12 => ?_)
        · exact absurd c_12 (by decide)
        · refine wp_iload_n (pc := 15) 2 dX0_isUnder_15 rfl rfl ?_
          refine wp_iload_n (pc := 16) 1 dX0_isUnder_16 rfl rfl ?_
          refine wp_icmp_ne (pc := 17) 22 dX0_isUnder_17 (by decide) (fun c_17 => ?_) (fun c_17 => ?_)
          · refine wp_iload_n (pc := 22) 2 dX0_isUnder_22 rfl rfl ?_
            refine wc_S_I (pc := 23) dX0_isUnder_23 lkX0_43 (by decide) (Nat.le_of_ble_eq_true rfl) ?_
            refine c_X0_kindAbove (w := 2) (by decide) ?_
            refine wp_istore_n (pc := 26) 2 dX0_isUnder_26 rfl (by decide) rfl ?_
            refine wp_incN (pc := 27) 3 dX0_isUnder_27 rfl (by decide) rfl ?_
            refine wp_goto (pc := 30) 4 dX0_isUnder_30 (by decide) ?_
            refine wp_iload_n (pc := 4) 3 dX0_isUnder_4 rfl rfl ?_
            refine wp_bipush (pc := 5) (6) dX0_isUnder_5 (by decide) ?_
            refine wp_icmp_ge (pc := 7) 33 dX0_isUnder_7 (by decide) (fun c_7 => ?_) (fun c_7 => ?_)
            · exact absurd c_7 (by decide)
            · refine wp_iload_n (pc := 10) 2 dX0_isUnder_10 rfl rfl ?_
              refine wp_iconst (pc := 11) (-1) dX0_isUnder_11 (by decide) ?_
              refine wp_icmp_eq (pc := 12) 33 dX0_isUnder_12 (by decide) (fun c_12 => ?_) (fun c_12 => ?_)
              · exact absurd c_12 (by decide)
              · refine wp_iload_n (pc := 15) 2 dX0_isUnder_15 rfl rfl ?_
                refine wp_iload_n (pc := 16) 1 dX0_isUnder_16 rfl rfl ?_
                refine wp_icmp_ne (pc := 17) 22 dX0_isUnder_17 (by decide) (fun c_17 => ?_) (fun c_17 => ?_)
                · refine wp_iload_n (pc := 22) 2 dX0_isUnder_22 rfl rfl ?_
                  refine wc_S_I (pc := 23) dX0_isUnder_23 lkX0_43 (by decide) (Nat.le_of_ble_eq_true rfl) ?_
                  refine c_X0_kindAbove (w := 0) (by decide) ?_
                  refine wp_istore_n (pc := 26) 2 dX0_isUnder_26 rfl (by decide) rfl ?_
                  refine wp_incN (pc := 27) 3 dX0_isUnder_27 rfl (by decide) rfl ?_
                  refine wp_goto (pc := 30) 4 dX0_isUnder_30 (by decide) ?_
                  refine wp_iload_n (pc := 4) 3 dX0_isUnder_4 rfl rfl ?_
                  refine wp_bipush (pc := 5) (6) dX0_isUnder_5 (by decide) ?_
                  refine wp_icmp_ge (pc := 7) 33 dX0_isUnder_7 (by decide) (fun c_7 => ?_) (fun c_7 => ?_)
                  · exact absurd c_7 (by decide)
                  · refine wp_iload_n (pc := 10) 2 dX0_isUnder_10 rfl rfl ?_
                    refine wp_iconst (pc := 11) (-1) dX0_isUnder_11 (by decide) ?_
                    refine wp_icmp_eq (pc := 12) 33 dX0_isUnder_12 (by decide) (fun c_12 => ?_) (fun c_12 => ?_)
                    · refine wp_iconst (pc := 33) (0) dX0_isUnder_33 (by decide) ?_
                      refine wp_iret (pc := 34) dX0_isUnder_34 ⟨_, rfl, by decide⟩ ?_
                      exact k
                    · exact absurd (by decide) c_12
                · exact absurd c_17 (by decide)
          · exact absurd c_17 (by decide)
    · refine wp_iload_n (pc := 0) 0 dX0_isUnder_0 rfl rfl ?_
      refine wp_istore_n (pc := 1) 2 dX0_isUnder_1 rfl (by decide) rfl ?_
      refine wp_iconst (pc := 2) (0) dX0_isUnder_2 (by decide) ?_
      refine wp_istore_n (pc := 3) 3 dX0_isUnder_3 rfl (by decide) rfl ?_
      refine wp_iload_n (pc := 4) 3 dX0_isUnder_4 rfl rfl ?_
      refine wp_bipush (pc := 5) (6) dX0_isUnder_5 (by decide) ?_
      refine wp_icmp_ge (pc := 7) 33 dX0_isUnder_7 (by decide) (fun c_7 => ?_) (fun c_7 => ?_)
      · exact absurd c_7 (by decide)
      · refine wp_iload_n (pc := 10) 2 dX0_isUnder_10 rfl rfl ?_
        refine wp_iconst (pc := 11) (-1) dX0_isUnder_11 (by decide) ?_
        refine wp_icmp_eq (pc := 12) 33 dX0_isUnder_12 (by decide) (fun c_12 => ?_) (fun c_12 => ?_)
        · exact absurd c_12 (by decide)
        · refine wp_iload_n (pc := 15) 2 dX0_isUnder_15 rfl rfl ?_
          refine wp_iload_n (pc := 16) 1 dX0_isUnder_16 rfl rfl ?_
          refine wp_icmp_ne (pc := 17) 22 dX0_isUnder_17 (by decide) (fun c_17 => ?_) (fun c_17 => ?_)
          · exact absurd (by decide) c_17
          · refine wp_iconst (pc := 20) (1) dX0_isUnder_20 (by decide) ?_
            refine wp_iret (pc := 21) dX0_isUnder_21 ⟨_, rfl, by decide⟩ ?_
            exact k
    · refine wp_iload_n (pc := 0) 0 dX0_isUnder_0 rfl rfl ?_
      refine wp_istore_n (pc := 1) 2 dX0_isUnder_1 rfl (by decide) rfl ?_
      refine wp_iconst (pc := 2) (0) dX0_isUnder_2 (by decide) ?_
      refine wp_istore_n (pc := 3) 3 dX0_isUnder_3 rfl (by decide) rfl ?_
      refine wp_iload_n (pc := 4) 3 dX0_isUnder_4 rfl rfl ?_
      refine wp_bipush (pc := 5) (6) dX0_isUnder_5 (by decide) ?_
      refine wp_icmp_ge (pc := 7) 33 dX0_isUnder_7 (by decide) (fun c_7 => ?_) (fun c_7 => ?_)
      · exact absurd c_7 (by decide)
      · refine wp_iload_n (pc := 10) 2 dX0_isUnder_10 rfl rfl ?_
        refine wp_iconst (pc := 11) (-1) dX0_isUnder_11 (by decide) ?_
        refine wp_icmp_eq (pc := 12) 33 dX0_isUnder_12 (by decide) (fun c_12 => ?_) (fun c_12 => ?_)
        · exact absurd c_12 (by decide)
        · refine wp_iload_n (pc := 15) 2 dX0_isUnder_15 rfl rfl ?_
          refine wp_iload_n (pc := 16) 1 dX0_isUnder_16 rfl rfl ?_
          refine wp_icmp_ne (pc := 17) 22 dX0_isUnder_17 (by decide) (fun c_17 => ?_) (fun c_17 => ?_)
          · refine wp_iload_n (pc := 22) 2 dX0_isUnder_22 rfl rfl ?_
            refine wc_S_I (pc := 23) dX0_isUnder_23 lkX0_43 (by decide) (Nat.le_of_ble_eq_true rfl) ?_
            refine c_X0_kindAbove (w := 2) (by decide) ?_
            refine wp_istore_n (pc := 26) 2 dX0_isUnder_26 rfl (by decide) rfl ?_
            refine wp_incN (pc := 27) 3 dX0_isUnder_27 rfl (by decide) rfl ?_
            refine wp_goto (pc := 30) 4 dX0_isUnder_30 (by decide) ?_
            refine wp_iload_n (pc := 4) 3 dX0_isUnder_4 rfl rfl ?_
            refine wp_bipush (pc := 5) (6) dX0_isUnder_5 (by decide) ?_
            refine wp_icmp_ge (pc := 7) 33 dX0_isUnder_7 (by decide) (fun c_7 => ?_) (fun c_7 => ?_)
            · exact absurd c_7 (by decide)
            · refine wp_iload_n (pc := 10) 2 dX0_isUnder_10 rfl rfl ?_
              refine wp_iconst (pc := 11) (-1) dX0_isUnder_11 (by decide) ?_
              refine wp_icmp_eq (pc := 12) 33 dX0_isUnder_12 (by decide) (fun c_12 => ?_) (fun c_12 => ?_)
              · exact absurd c_12 (by decide)
              · refine wp_iload_n (pc := 15) 2 dX0_isUnder_15 rfl rfl ?_
                refine wp_iload_n (pc := 16) 1 dX0_isUnder_16 rfl rfl ?_
                refine wp_icmp_ne (pc := 17) 22 dX0_isUnder_17 (by decide) (fun c_17 => ?_) (fun c_17 => ?_)
                · refine wp_iload_n (pc := 22) 2 dX0_isUnder_22 rfl rfl ?_
                  refine wc_S_I (pc := 23) dX0_isUnder_23 lkX0_43 (by decide) (Nat.le_of_ble_eq_true rfl) ?_
                  refine c_X0_kindAbove (w := 0) (by decide) ?_
                  refine wp_istore_n (pc := 26) 2 dX0_isUnder_26 rfl (by decide) rfl ?_
                  refine wp_incN (pc := 27) 3 dX0_isUnder_27 rfl (by decide) rfl ?_
                  refine wp_goto (pc := 30) 4 dX0_isUnder_30 (by decide) ?_
                  refine wp_iload_n (pc := 4) 3 dX0_isUnder_4 rfl rfl ?_
                  refine wp_bipush (pc := 5) (6) dX0_isUnder_5 (by decide) ?_
                  refine wp_icmp_ge (pc := 7) 33 dX0_isUnder_7 (by decide) (fun c_7 => ?_) (fun c_7 => ?_)
                  · exact absurd c_7 (by decide)
                  · refine wp_iload_n (pc := 10) 2 dX0_isUnder_10 rfl rfl ?_
                    refine wp_iconst (pc := 11) (-1) dX0_isUnder_11 (by decide) ?_
                    refine wp_icmp_eq (pc := 12) 33 dX0_isUnder_12 (by decide) (fun c_12 => ?_) (fun c_12 => ?_)
                    · refine wp_iconst (pc := 33) (0) dX0_isUnder_33 (by decide) ?_
                      refine wp_iret (pc := 34) dX0_isUnder_34 ⟨_, rfl, by decide⟩ ?_
                      exact k
                    · exact absurd (by decide) c_12
                · exact absurd c_17 (by decide)
          · exact absurd c_17 (by decide)
    · refine wp_iload_n (pc := 0) 0 dX0_isUnder_0 rfl rfl ?_
      refine wp_istore_n (pc := 1) 2 dX0_isUnder_1 rfl (by decide) rfl ?_
      refine wp_iconst (pc := 2) (0) dX0_isUnder_2 (by decide) ?_
      refine wp_istore_n (pc := 3) 3 dX0_isUnder_3 rfl (by decide) rfl ?_
      refine wp_iload_n (pc := 4) 3 dX0_isUnder_4 rfl rfl ?_
      refine wp_bipush (pc := 5) (6) dX0_isUnder_5 (by decide) ?_
      refine wp_icmp_ge (pc := 7) 33 dX0_isUnder_7 (by decide) (fun c_7 => ?_) (fun c_7 => ?_)
      · exact absurd c_7 (by decide)
      · refine wp_iload_n (pc := 10) 2 dX0_isUnder_10 rfl rfl ?_
        refine wp_iconst (pc := 11) (-1) dX0_isUnder_11 (by decide) ?_
        refine wp_icmp_eq (pc := 12) 33 dX0_isUnder_12 (by decide) (fun c_12 => ?_) (fun c_12 => ?_)
        · exact absurd c_12 (by decide)
        · refine wp_iload_n (pc := 15) 2 dX0_isUnder_15 rfl rfl ?_
          refine wp_iload_n (pc := 16) 1 dX0_isUnder_16 rfl rfl ?_
          refine wp_icmp_ne (pc := 17) 22 dX0_isUnder_17 (by decide) (fun c_17 => ?_) (fun c_17 => ?_)
          · refine wp_iload_n (pc := 22) 2 dX0_isUnder_22 rfl rfl ?_
            refine wc_S_I (pc := 23) dX0_isUnder_23 lkX0_43 (by decide) (Nat.le_of_ble_eq_true rfl) ?_
            refine c_X0_kindAbove (w := 2) (by decide) ?_
            refine wp_istore_n (pc := 26) 2 dX0_isUnder_26 rfl (by decide) rfl ?_
            refine wp_incN (pc := 27) 3 dX0_isUnder_27 rfl (by decide) rfl ?_
            refine wp_goto (pc := 30) 4 dX0_isUnder_30 (by decide) ?_
            refine wp_iload_n (pc := 4) 3 dX0_isUnder_4 rfl rfl ?_
            refine wp_bipush (pc := 5) (6) dX0_isUnder_5 (by decide) ?_
            refine wp_icmp_ge (pc := 7) 33 dX0_isUnder_7 (by decide) (fun c_7 => ?_) (fun c_7 => ?_)
            · exact absurd c_7 (by decide)
            · refine wp_iload_n (pc := 10) 2 dX0_isUnder_10 rfl rfl ?_
              refine wp_iconst (pc := 11) (-1) dX0_isUnder_11 (by decide) ?_
              refine wp_icmp_eq (pc := 12) 33 dX0_isUnder_12 (by decide) (fun c_12 => ?_) (fun c_12 => ?_)
              · exact absurd c_12 (by decide)
              · refine wp_iload_n (pc := 15) 2 dX0_isUnder_15 rfl rfl ?_
                refine wp_iload_n (pc := 16) 1 dX0_isUnder_16 rfl rfl ?_
                refine wp_icmp_ne (pc := 17) 22 dX0_isUnder_17 (by decide) (fun c_17 => ?_) (fun c_17 => ?_)
                · refine wp_iload_n (pc := 22) 2 dX0_isUnder_22 rfl rfl ?_
                  refine wc_S_I (pc := 23) dX0_isUnder_23 lkX0_43 (by decide) (Nat.le_of_ble_eq_true rfl) ?_
                  refine c_X0_kindAbove (w := 0) (by decide) ?_
                  refine wp_istore_n (pc := 26) 2 dX0_isUnder_26 rfl (by decide) rfl ?_
                  refine wp_incN (pc := 27) 3 dX0_isUnder_27 rfl (by decide) rfl ?_
                  refine wp_goto (pc := 30) 4 dX0_isUnder_30 (by decide) ?_
                  refine wp_iload_n (pc := 4) 3 dX0_isUnder_4 rfl rfl ?_
                  refine wp_bipush (pc := 5) (6) dX0_isUnder_5 (by decide) ?_
                  refine wp_icmp_ge (pc := 7) 33 dX0_isUnder_7 (by decide) (fun c_7 => ?_) (fun c_7 => ?_)
                  · exact absurd c_7 (by decide)
                  · refine wp_iload_n (pc := 10) 2 dX0_isUnder_10 rfl rfl ?_
                    refine wp_iconst (pc := 11) (-1) dX0_isUnder_11 (by decide) ?_
                    refine wp_icmp_eq (pc := 12) 33 dX0_isUnder_12 (by decide) (fun c_12 => ?_) (fun c_12 => ?_)
                    · refine wp_iconst (pc := 33) (0) dX0_isUnder_33 (by decide) ?_
                      refine wp_iret (pc := 34) dX0_isUnder_34 ⟨_, rfl, by decide⟩ ?_
                      exact k
                    · exact absurd (by decide) c_12
                · exact absurd c_17 (by decide)
          · exact absurd c_17 (by decide)
    · refine wp_iload_n (pc := 0) 0 dX0_isUnder_0 rfl rfl ?_
      refine wp_istore_n (pc := 1) 2 dX0_isUnder_1 rfl (by decide) rfl ?_
      refine wp_iconst (pc := 2) (0) dX0_isUnder_2 (by decide) ?_
      refine wp_istore_n (pc := 3) 3 dX0_isUnder_3 rfl (by decide) rfl ?_
      refine wp_iload_n (pc := 4) 3 dX0_isUnder_4 rfl rfl ?_
      refine wp_bipush (pc := 5) (6) dX0_isUnder_5 (by decide) ?_
      refine wp_icmp_ge (pc := 7) 33 dX0_isUnder_7 (by decide) (fun c_7 => ?_) (fun c_7 => ?_)
      · exact absurd c_7 (by decide)
      · refine wp_iload_n (pc := 10) 2 dX0_isUnder_10 rfl rfl ?_
        refine wp_iconst (pc := 11) (-1) dX0_isUnder_11 (by decide) ?_
        refine wp_icmp_eq (pc := 12) 33 dX0_isUnder_12 (by decide) (fun c_12 => ?_) (fun c_12 => ?_)
        · exact absurd c_12 (by decide)
        · refine wp_iload_n (pc := 15) 2 dX0_isUnder_15 rfl rfl ?_
          refine wp_iload_n (pc := 16) 1 dX0_isUnder_16 rfl rfl ?_
          refine wp_icmp_ne (pc := 17) 22 dX0_isUnder_17 (by decide) (fun c_17 => ?_) (fun c_17 => ?_)
          · refine wp_iload_n (pc := 22) 2 dX0_isUnder_22 rfl rfl ?_
            refine wc_S_I (pc := 23) dX0_isUnder_23 lkX0_43 (by decide) (Nat.le_of_ble_eq_true rfl) ?_
            refine c_X0_kindAbove (w := 2) (by decide) ?_
            refine wp_istore_n (pc := 26) 2 dX0_isUnder_26 rfl (by decide) rfl ?_
            refine wp_incN (pc := 27) 3 dX0_isUnder_27 rfl (by decide) rfl ?_
            refine wp_goto (pc := 30) 4 dX0_isUnder_30 (by decide) ?_
            refine wp_iload_n (pc := 4) 3 dX0_isUnder_4 rfl rfl ?_
            refine wp_bipush (pc := 5) (6) dX0_isUnder_5 (by decide) ?_
            refine wp_icmp_ge (pc := 7) 33 dX0_isUnder_7 (by decide) (fun c_7 => ?_) (fun c_7 => ?_)
            · exact absurd c_7 (by decide)
            · refine wp_iload_n (pc := 10) 2 dX0_isUnder_10 rfl rfl ?_
              refine wp_iconst (pc := 11) (-1) dX0_isUnder_11 (by decide) ?_
              refine wp_icmp_eq (pc := 12) 33 dX0_isUnder_12 (by decide) (fun c_12 => ?_) (fun c_12 => ?_)
              · exact absurd c_12 (by decide)
              · refine wp_iload_n (pc := 15) 2 dX0_isUnder_15 rfl rfl ?_
                refine wp_iload_n (pc := 16) 1 dX0_isUnder_16 rfl rfl ?_
                refine wp_icmp_ne (pc := 17) 22 dX0_isUnder_17 (by decide) (fun c_17 => ?_) (fun c_17 => ?_)
                · refine wp_iload_n (pc := 22) 2 dX0_isUnder_22 rfl rfl ?_
                  refine wc_S_I (pc := 23) dX0_isUnder_23 lkX0_43 (by decide) (Nat.le_of_ble_eq_true rfl) ?_
                  refine c_X0_kindAbove (w := 0) (by decide) ?_
                  refine wp_istore_n (pc := 26) 2 dX0_isUnder_26 rfl (by decide) rfl ?_
                  refine wp_incN (pc := 27) 3 dX0_isUnder_27 rfl (by decide) rfl ?_
                  refine wp_goto (pc := 30) 4 dX0_isUnder_30 (by decide) ?_
                  refine wp_iload_n (pc := 4) 3 dX0_isUnder_4 rfl rfl ?_
                  refine wp_bipush (pc := 5) (6) dX0_isUnder_5 (by decide) ?_
                  refine wp_icmp_ge (pc := 7) 33 dX0_isUnder_7 (by decide) (fun c_7 => ?_) (fun c_7 => ?_)
                  · exact absurd c_7 (by decide)
                  · refine wp_iload_n (pc := 10) 2 dX0_isUnder_10 rfl rfl ?_
                    refine wp_iconst (pc := 11) (-1) dX0_isUnder_11 (by decide) ?_
                    refine wp_icmp_eq (pc := 12) 33 dX0_isUnder_12 (by decide) (fun c_12 => ?_) (fun c_12 => ?_)
                    · refine wp_iconst (pc := 33) (0) dX0_isUnder_33 (by decide) ?_
                      refine wp_iret (pc := 34) dX0_isUnder_34 ⟨_, rfl, by decide⟩ ?_
                      exact k
                    · exact absurd (by decide) c_12
                · exact absurd c_17 (by decide)
          · exact absurd c_17 (by decide)
  · rcases (show b = 0 ∨ b = 1 ∨ b = 2 ∨ b = 3 ∨ b = 4 ∨ b = 5 by omega) with rfl | rfl | rfl | rfl | rfl | rfl
    · refine wp_iload_n (pc := 0) 0 dX0_isUnder_0 rfl rfl ?_
      refine wp_istore_n (pc := 1) 2 dX0_isUnder_1 rfl (by decide) rfl ?_
      refine wp_iconst (pc := 2) (0) dX0_isUnder_2 (by decide) ?_
      refine wp_istore_n (pc := 3) 3 dX0_isUnder_3 rfl (by decide) rfl ?_
      refine wp_iload_n (pc := 4) 3 dX0_isUnder_4 rfl rfl ?_
      refine wp_bipush (pc := 5) (6) dX0_isUnder_5 (by decide) ?_
      refine wp_icmp_ge (pc := 7) 33 dX0_isUnder_7 (by decide) (fun c_7 => ?_) (fun c_7 => ?_)
      · exact absurd c_7 (by decide)
      · refine wp_iload_n (pc := 10) 2 dX0_isUnder_10 rfl rfl ?_
        refine wp_iconst (pc := 11) (-1) dX0_isUnder_11 (by decide) ?_
        refine wp_icmp_eq (pc := 12) 33 dX0_isUnder_12 (by decide) (fun c_12 => ?_) (fun c_12 => ?_)
        · exact absurd c_12 (by decide)
        · refine wp_iload_n (pc := 15) 2 dX0_isUnder_15 rfl rfl ?_
          refine wp_iload_n (pc := 16) 1 dX0_isUnder_16 rfl rfl ?_
          refine wp_icmp_ne (pc := 17) 22 dX0_isUnder_17 (by decide) (fun c_17 => ?_) (fun c_17 => ?_)
          · refine wp_iload_n (pc := 22) 2 dX0_isUnder_22 rfl rfl ?_
            refine wc_S_I (pc := 23) dX0_isUnder_23 lkX0_43 (by decide) (Nat.le_of_ble_eq_true rfl) ?_
            refine c_X0_kindAbove (w := 3) (by decide) ?_
            refine wp_istore_n (pc := 26) 2 dX0_isUnder_26 rfl (by decide) rfl ?_
            refine wp_incN (pc := 27) 3 dX0_isUnder_27 rfl (by decide) rfl ?_
            refine wp_goto (pc := 30) 4 dX0_isUnder_30 (by decide) ?_
            refine wp_iload_n (pc := 4) 3 dX0_isUnder_4 rfl rfl ?_
            refine wp_bipush (pc := 5) (6) dX0_isUnder_5 (by decide) ?_
            refine wp_icmp_ge (pc := 7) 33 dX0_isUnder_7 (by decide) (fun c_7 => ?_) (fun c_7 => ?_)
            · exact absurd c_7 (by decide)
            · refine wp_iload_n (pc := 10) 2 dX0_isUnder_10 rfl rfl ?_
              refine wp_iconst (pc := 11) (-1) dX0_isUnder_11 (by decide) ?_
              refine wp_icmp_eq (pc := 12) 33 dX0_isUnder_12 (by decide) (fun c_12 => ?_) (fun c_12 => ?_)
              · exact absurd c_12 (by decide)
              · refine wp_iload_n (pc := 15) 2 dX0_isUnder_15 rfl rfl ?_
                refine wp_iload_n (pc := 16) 1 dX0_isUnder_16 rfl rfl ?_
                refine wp_icmp_ne (pc := 17) 22 dX0_isUnder_17 (by decide) (fun c_17 => ?_) (fun c_17 => ?_)
                · refine wp_iload_n (pc := 22) 2 dX0_isUnder_22 rfl rfl ?_
                  refine wc_S_I (pc := 23) dX0_isUnder_23 lkX0_43 (by decide) (Nat.le_of_ble_eq_true rfl) ?_
                  refine c_X0_kindAbove (w := 1) (by decide) ?_
                  refine wp_istore_n (pc := 26) 2 dX0_isUnder_26 rfl (by decide) rfl ?_
                  refine wp_incN (pc := 27) 3 dX0_isUnder_27 rfl (by decide) rfl ?_
                  refine wp_goto (pc := 30) 4 dX0_isUnder_30 (by decide) ?_
                  refine wp_iload_n (pc := 4) 3 dX0_isUnder_4 rfl rfl ?_
                  refine wp_bipush (pc := 5) (6) dX0_isUnder_5 (by decide) ?_
                  refine wp_icmp_ge (pc := 7) 33 dX0_isUnder_7 (by decide) (fun c_7 => ?_) (fun c_7 => ?_)
                  · exact absurd c_7 (by decide)
                  · refine wp_iload_n (pc := 10) 2 dX0_isUnder_10 rfl rfl ?_
                    refine wp_iconst (pc := 11) (-1) dX0_isUnder_11 (by decide) ?_
                    refine wp_icmp_eq (pc := 12) 33 dX0_isUnder_12 (by decide) (fun c_12 => ?_) (fun c_12 => ?_)
                    · exact absurd c_12 (by decide)
                    · refine wp_iload_n (pc := 15) 2 dX0_isUnder_15 rfl rfl ?_
                      refine wp_iload_n (pc := 16) 1 dX0_isUnder_16 rfl rfl ?_
                      refine wp_icmp_ne (pc := 17) 22 dX0_isUnder_17 (by decide) (fun c_17 => ?_) (fun c_17 => ?_)
                      · exact absurd (by decide) c_17
                      · refine wp_iconst (pc := 20) (1) dX0_isUnder_20 (by decide) ?_
                        refine wp_iret (pc := 21) dX0_isUnder_21 ⟨_, rfl, by decide⟩ ?_
                        exact k
                · exact absurd c_17 (by decide)
          · exact absurd c_17 (by decide)
    · refine wp_iload_n (pc := 0) 0 dX0_isUnder_0 rfl rfl ?_
      refine wp_istore_n (pc := 1) 2 dX0_isUnder_1 rfl (by decide) rfl ?_
      refine wp_iconst (pc := 2) (0) dX0_isUnder_2 (by decide) ?_
      refine wp_istore_n (pc := 3) 3 dX0_isUnder_3 rfl (by decide) rfl ?_
      refine wp_iload_n (pc := 4) 3 dX0_isUnder_4 rfl rfl ?_
      refine wp_bipush (pc := 5) (6) dX0_isUnder_5 (by decide) ?_
      refine wp_icmp_ge (pc := 7) 33 dX0_isUnder_7 (by decide) (fun c_7 => ?_) (fun c_7 => ?_)
      · exact absurd c_7 (by decide)
      · refine wp_iload_n (pc := 10) 2 dX0_isUnder_10 rfl rfl ?_
        refine wp_iconst (pc := 11) (-1) dX0_isUnder_11 (by decide) ?_
        refine wp_icmp_eq (pc := 12) 33 dX0_isUnder_12 (by decide) (fun c_12 => ?_) (fun c_12 => ?_)
        · exact absurd c_12 (by decide)
        · refine wp_iload_n (pc := 15) 2 dX0_isUnder_15 rfl rfl ?_
          refine wp_iload_n (pc := 16) 1 dX0_isUnder_16 rfl rfl ?_
          refine wp_icmp_ne (pc := 17) 22 dX0_isUnder_17 (by decide) (fun c_17 => ?_) (fun c_17 => ?_)
          · refine wp_iload_n (pc := 22) 2 dX0_isUnder_22 rfl rfl ?_
            refine wc_S_I (pc := 23) dX0_isUnder_23 lkX0_43 (by decide) (Nat.le_of_ble_eq_true rfl) ?_
            refine c_X0_kindAbove (w := 3) (by decide) ?_
            refine wp_istore_n (pc := 26) 2 dX0_isUnder_26 rfl (by decide) rfl ?_
            refine wp_incN (pc := 27) 3 dX0_isUnder_27 rfl (by decide) rfl ?_
            refine wp_goto (pc := 30) 4 dX0_isUnder_30 (by decide) ?_
            refine wp_iload_n (pc := 4) 3 dX0_isUnder_4 rfl rfl ?_
            refine wp_bipush (pc := 5) (6) dX0_isUnder_5 (by decide) ?_
            refine wp_icmp_ge (pc := 7) 33 dX0_isUnder_7 (by decide) (fun c_7 => ?_) (fun c_7 => ?_)
            · exact absurd c_7 (by decide)
            · refine wp_iload_n (pc := 10) 2 dX0_isUnder_10 rfl rfl ?_
              refine wp_iconst (pc := 11) (-1) dX0_isUnder_11 (by decide) ?_
              refine wp_icmp_eq (pc := 12) 33 dX0_isUnder_12 (by decide) (fun c_12 => ?_) (fun c_12 => ?_)
              · exact absurd c_12 (by decide)
              · refine wp_iload_n (pc := 15) 2 dX0_isUnder_15 rfl rfl ?_
                refine wp_iload_n (pc := 16) 1 dX0_isUnder_16 rfl rfl ?_
                refine wp_icmp_ne (pc := 17) 22 dX0_isUnder_17 (by decide) (fun c_17 => ?_) (fun c_17 => ?_)
                · exact absurd (by decide) c_17
                · refine wp_iconst (pc := 20) (1) dX0_isUnder_20 (by decide) ?_
                  refine wp_iret (pc := 21) dX0_isUnder_21 ⟨_, rfl, by decide⟩ ?_
                  exact k
          · exact absurd c_17 (by decide)
    · refine wp_iload_n (pc := 0) 0 dX0_isUnder_0 rfl rfl ?_
      refine wp_istore_n (pc := 1) 2 dX0_isUnder_1 rfl (by decide) rfl ?_
      refine wp_iconst (pc := 2) (0) dX0_isUnder_2 (by decide) ?_
      refine wp_istore_n (pc := 3) 3 dX0_isUnder_3 rfl (by decide) rfl ?_
      refine wp_iload_n (pc := 4) 3 dX0_isUnder_4 rfl rfl ?_
      refine wp_bipush (pc := 5) (6) dX0_isUnder_5 (by decide) ?_
      refine wp_icmp_ge (pc := 7) 33 dX0_isUnder_7 (by decide) (fun c_7 => ?_) (fun c_7 => ?_)
      · exact absurd c_7 (by decide)
      · refine wp_iload_n (pc := 10) 2 dX0_isUnder_10 rfl rfl ?_
        refine wp_iconst (pc := 11) (-1) dX0_isUnder_11 (by decide) ?_
        refine wp_icmp_eq (pc := 12) 33 dX0_isUnder_12 (by decide) (fun c_12 => ?_) (fun c_12 => ?_)
        · exact absurd c_12 (by decide)
        · refine wp_iload_n (pc := 15) 2 dX0_isUnder_15 rfl rfl ?_
          refine wp_iload_n (pc := 16) 1 dX0_isUnder_16 rfl rfl ?_
          refine wp_icmp_ne (pc := 17) 22 dX0_isUnder_17 (by decide) (fun c_17 => ?_) (fun c_17 => ?_)
          · refine wp_iload_n (pc := 22) 2 dX0_isUnder_22 rfl rfl ?_
            refine wc_S_I (pc := 23) dX0_isUnder_23 lkX0_43 (by decide) (Nat.le_of_ble_eq_true rfl) ?_
            refine c_X0_kindAbove (w := 3) (by decide) ?_
            refine wp_istore_n (pc := 26) 2 dX0_isUnder_26 rfl (by decide) rfl ?_
            refine wp_incN (pc := 27) 3 dX0_isUnder_27 rfl (by decide) rfl ?_
            refine wp_goto (pc := 30) 4 dX0_isUnder_30 (by decide) ?_
            refine wp_iload_n (pc := 4) 3 dX0_isUnder_4 rfl rfl ?_
            refine wp_bipush (pc := 5) (6) dX0_isUnder_5 (by decide) ?_
            refine wp_icmp_ge (pc := 7) 33 dX0_isUnder_7 (by decide) (fun c_7 => ?_) (fun c_7 => ?_)
            · exact absurd c_7 (by decide)
            · refine wp_iload_n (pc := 10) 2 dX0_isUnder_10 rfl rfl ?_
              refine wp_iconst (pc := 11) (-1) dX0_isUnder_11 (by decide) ?_
              refine wp_icmp_eq (pc := 12) 33 dX0_isUnder_12 (by decide) (fun c_12 => ?_) (fun c_12 => ?_)
              · exact absurd c_12 (by decide)
              · refine wp_iload_n (pc := 15) 2 dX0_isUnder_15 rfl rfl ?_
                refine wp_iload_n (pc := 16) 1 dX0_isUnder_16 rfl rfl ?_
                refine wp_icmp_ne (pc := 17) 22 dX0_isUnder_17 (by decide) (fun c_17 => ?_) (fun c_17 => ?_)
                · refine wp_iload_n (pc := 22) 2 dX0_isUnder_22 rfl rfl ?_
                  refine wc_S_I (pc := 23) dX0_isUnder_23 lkX0_43 (by decide) (Nat.le_of_ble_eq_true rfl) ?_
                  refine c_X0_kindAbove (w := 1) (by decide) ?_
                  refine wp_istore_n (pc := 26) 2 dX0_isUnder_26 rfl (by decide) rfl ?_
                  refine wp_incN (pc := 27) 3 dX0_isUnder_27 rfl (by decide) rfl ?_
                  refine wp_goto (pc := 30) 4 dX0_isUnder_30 (by decide) ?_
                  refine wp_iload_n (pc := 4) 3 dX0_isUnder_4 rfl rfl ?_
                  refine wp_bipush (pc := 5) (6) dX0_isUnder_5 (by decide) ?_
                  refine wp_icmp_ge (pc := 7) 33 dX0_isUnder_7 (by decide) (fun c_7 => ?_) (fun c_7 => ?_)
                  · exact absurd c_7 (by decide)
                  · refine wp_iload_n (pc := 10) 2 dX0_isUnder_10 rfl rfl ?_
                    refine wp_iconst (pc := 11) (-1) dX0_isUnder_11 (by decide) ?_
                    refine wp_icmp_eq (pc := 12) 33 dX0_isUnder_12 (by decide) (fun c_12 => ?_) (fun c_12 => ?_)
                    · exact absurd c_12 (by decide)
                    · refine wp_iload_n (pc := 15) 2 dX0_isUnder_15 rfl rfl ?_
                      refine wp_iload_n (pc := 16) 1 dX0_isUnder_16 rfl rfl ?_
                      refine wp_icmp_ne (pc := 17) 22 dX0_isUnder_17 (by decide) (fun c_17 => ?_) (fun c_17 => ?_)
                      · refine wp_iload_n (pc := 22) 2 dX0_isUnder_22 rfl rfl ?_
                        refine wc_S_I (pc := 23) dX0_isUnder_23 lkX0_43 (by decide) (Nat.le_of_ble_eq_true rfl) ?_
                        refine c_X0_kindAbove (w := 0) (by decide) ?_
                        refine wp_istore_n (pc := 26) 2 dX0_isUnder_26 rfl (by decide) rfl ?_
                        refine wp_incN (pc := 27) 3 dX0_isUnder_27 rfl (by decide) rfl ?_
                        refine wp_goto (pc := 30) 4 dX0_isUnder_30 (by decide) ?_
                        refine wp_iload_n (pc := 4) 3 dX0_isUnder_4 rfl rfl ?_
                        refine wp_bipush (pc := 5) (6) dX0_isUnder_5 (by decide) ?_
                        refine wp_icmp_ge (pc := 7) 33 dX0_isUnder_7 (by decide) (fun c_7 => ?_) (fun c_7 => ?_)
                        · exact absurd c_7 (by decide)
                        · refine wp_iload_n (pc := 10) 2 dX0_isUnder_10 rfl rfl ?_
                          refine wp_iconst (pc := 11) (-1) dX0_isUnder_11 (by decide) ?_
                          refine wp_icmp_eq (pc := 12) 33 dX0_isUnder_12 (by decide) (fun c_12 => ?_) (fun c_12 => ?_)
                          · refine wp_iconst (pc := 33) (0) dX0_isUnder_33 (by decide) ?_
                            refine wp_iret (pc := 34) dX0_isUnder_34 ⟨_, rfl, by decide⟩ ?_
                            exact k
                          · exact absurd (by decide) c_12
                      · exact absurd c_17 (by decide)
                · exact absurd c_17 (by decide)
          · exact absurd c_17 (by decide)
    · refine wp_iload_n (pc := 0) 0 dX0_isUnder_0 rfl rfl ?_
      refine wp_istore_n (pc := 1) 2 dX0_isUnder_1 rfl (by decide) rfl ?_
      refine wp_iconst (pc := 2) (0) dX0_isUnder_2 (by decide) ?_
      refine wp_istore_n (pc := 3) 3 dX0_isUnder_3 rfl (by decide) rfl ?_
      refine wp_iload_n (pc := 4) 3 dX0_isUnder_4 rfl rfl ?_
      refine wp_bipush (pc := 5) (6) dX0_isUnder_5 (by decide) ?_
      refine wp_icmp_ge (pc := 7) 33 dX0_isUnder_7 (by decide) (fun c_7 => ?_) (fun c_7 => ?_)
      · exact absurd c_7 (by decide)
      · refine wp_iload_n (pc := 10) 2 dX0_isUnder_10 rfl rfl ?_
        refine wp_iconst (pc := 11) (-1) dX0_isUnder_11 (by decide) ?_
        refine wp_icmp_eq (pc := 12) 33 dX0_isUnder_12 (by decide) (fun c_12 => ?_) (fun c_12 => ?_)
        · exact absurd c_12 (by decide)
        · refine wp_iload_n (pc := 15) 2 dX0_isUnder_15 rfl rfl ?_
          refine wp_iload_n (pc := 16) 1 dX0_isUnder_16 rfl rfl ?_
          refine wp_icmp_ne (pc := 17) 22 dX0_isUnder_17 (by decide) (fun c_17 => ?_) (fun c_17 => ?_)
          · exact absurd (by decide) c_17
          · refine wp_iconst (pc := 20) (1) dX0_isUnder_20 (by decide) ?_
            refine wp_iret (pc := 21) dX0_isUnder_21 ⟨_, rfl, by decide⟩ ?_
            exact k
    · refine wp_iload_n (pc := 0) 0 dX0_isUnder_0 rfl rfl ?_
      refine wp_istore_n (pc := 1) 2 dX0_isUnder_1 rfl (by decide) rfl ?_
      refine wp_iconst (pc := 2) (0) dX0_isUnder_2 (by decide) ?_
      refine wp_istore_n (pc := 3) 3 dX0_isUnder_3 rfl (by decide) rfl ?_
      refine wp_iload_n (pc := 4) 3 dX0_isUnder_4 rfl rfl ?_
      refine wp_bipush (pc := 5) (6) dX0_isUnder_5 (by decide) ?_
      refine wp_icmp_ge (pc := 7) 33 dX0_isUnder_7 (by decide) (fun c_7 => ?_) (fun c_7 => ?_)
      · exact absurd c_7 (by decide)
      · refine wp_iload_n (pc := 10) 2 dX0_isUnder_10 rfl rfl ?_
        refine wp_iconst (pc := 11) (-1) dX0_isUnder_11 (by decide) ?_
        refine wp_icmp_eq (pc := 12) 33 dX0_isUnder_12 (by decide) (fun c_12 => ?_) (fun c_12 => ?_)
        · exact absurd c_12 (by decide)
        · refine wp_iload_n (pc := 15) 2 dX0_isUnder_15 rfl rfl ?_
          refine wp_iload_n (pc := 16) 1 dX0_isUnder_16 rfl rfl ?_
          refine wp_icmp_ne (pc := 17) 22 dX0_isUnder_17 (by decide) (fun c_17 => ?_) (fun c_17 => ?_)
          · refine wp_iload_n (pc := 22) 2 dX0_isUnder_22 rfl rfl ?_
            refine wc_S_I (pc := 23) dX0_isUnder_23 lkX0_43 (by decide) (Nat.le_of_ble_eq_true rfl) ?_
            refine c_X0_kindAbove (w := 3) (by decide) ?_
            refine wp_istore_n (pc := 26) 2 dX0_isUnder_26 rfl (by decide) rfl ?_
            refine wp_incN (pc := 27) 3 dX0_isUnder_27 rfl (by decide) rfl ?_
            refine wp_goto (pc := 30) 4 dX0_isUnder_30 (by decide) ?_
            refine wp_iload_n (pc := 4) 3 dX0_isUnder_4 rfl rfl ?_
            refine wp_bipush (pc := 5) (6) dX0_isUnder_5 (by decide) ?_
            refine wp_icmp_ge (pc := 7) 33 dX0_isUnder_7 (by decide) (fun c_7 => ?_) (fun c_7 => ?_)
            · exact absurd c_7 (by decide)
            · refine wp_iload_n (pc := 10) 2 dX0_isUnder_10 rfl rfl ?_
              refine wp_iconst (pc := 11) (-1) dX0_isUnder_11 (by decide) ?_
              refine wp_icmp_eq (pc := 12) 33 dX0_isUnder_12 (by decide) (fun c_12 => ?_) (fun c_12 => ?_)
              · exact absurd c_12 (by decide)
              · refine wp_iload_n (pc := 15) 2 dX0_isUnder_15 rfl rfl ?_
                refine wp_iload_n (pc := 16) 1 dX0_isUnder_16 rfl rfl ?_
                refine wp_icmp_ne (pc := 17) 22 dX0_isUnder_17 (by decide) (fun c_17 => ?_) (fun c_17 => ?_)
                · refine wp_iload_n (pc := 22) 2 dX0_isUnder_22 rfl rfl ?_
                  refine wc_S_I (pc := 23) dX0_isUnder_23 lkX0_43 (by decide) (Nat.le_of_ble_eq_true rfl) ?_
                  refine c_X0_kindAbove (w := 1) (by decide) ?_
                  refine wp_istore_n (pc := 26) 2 dX0_isUnder_26 rfl (by decide) rfl ?_
                  refine wp_incN (pc := 27) 3 dX0_isUnder_27 rfl (by decide) rfl ?_
                  refine wp_goto (pc := 30) 4 dX0_isUnder_30 (by decide) ?_
                  refine wp_iload_n (pc := 4) 3 dX0_isUnder_4 rfl rfl ?_
                  refine wp_bipush (pc := 5) (6) dX0_isUnder_5 (by decide) ?_
                  refine wp_icmp_ge (pc := 7) 33 dX0_isUnder_7 (by decide) (fun c_7 => ?_) (fun c_7 => ?_)
                  · exact absurd c_7 (by decide)
                  · refine wp_iload_n (pc := 10) 2 dX0_isUnder_10 rfl rfl ?_
                    refine wp_iconst (pc := 11) (-1) dX0_isUnder_11 (by decide) ?_
                    refine wp_icmp_eq (pc := 12) 33 dX0_isUnder_12 (by decide) (fun c_12 => ?_) (fun c_12 => ?_)
                    · exact absurd c_12 (by decide)
                    · refine wp_iload_n (pc := 15) 2 dX0_isUnder_15 rfl rfl ?_
                      refine wp_iload_n (pc := 16) 1 dX0_isUnder_16 rfl rfl ?_
                      refine wp_icmp_ne (pc := 17) 22 dX0_isUnder_17 (by decide) (fun c_17 => ?_) (fun c_17 => ?_)
                      · refine wp_iload_n (pc := 22) 2 dX0_isUnder_22 rfl rfl ?_
                        refine wc_S_I (pc := 23) dX0_isUnder_23 lkX0_43 (by decide) (Nat.le_of_ble_eq_true rfl) ?_
                        refine c_X0_kindAbove (w := 0) (by decide) ?_
                        refine wp_istore_n (pc := 26) 2 dX0_isUnder_26 rfl (by decide) rfl ?_
                        refine wp_incN (pc := 27) 3 dX0_isUnder_27 rfl (by decide) rfl ?_
                        refine wp_goto (pc := 30) 4 dX0_isUnder_30 (by decide) ?_
                        refine wp_iload_n (pc := 4) 3 dX0_isUnder_4 rfl rfl ?_
                        refine wp_bipush (pc := 5) (6) dX0_isUnder_5 (by decide) ?_
                        refine wp_icmp_ge (pc := 7) 33 dX0_isUnder_7 (by decide) (fun c_7 => ?_) (fun c_7 => ?_)
                        · exact absurd c_7 (by decide)
                        · refine wp_iload_n (pc := 10) 2 dX0_isUnder_10 rfl rfl ?_
                          refine wp_iconst (pc := 11) (-1) dX0_isUnder_11 (by decide) ?_
                          refine wp_icmp_eq (pc := 12) 33 dX0_isUnder_12 (by decide) (fun c_12 => ?_) (fun c_12 => ?_)
                          · refine wp_iconst (pc := 33) (0) dX0_isUnder_33 (by decide) ?_
                            refine wp_iret (pc := 34) dX0_isUnder_34 ⟨_, rfl, by decide⟩ ?_
                            exact k
                          · exact absurd (by decide) c_12
                      · exact absurd c_17 (by decide)
                · exact absurd c_17 (by decide)
          · exact absurd c_17 (by decide)
    · refine wp_iload_n (pc := 0) 0 dX0_isUnder_0 rfl rfl ?_
      refine wp_istore_n (pc := 1) 2 dX0_isUnder_1 rfl (by decide) rfl ?_
      refine wp_iconst (pc := 2) (0) dX0_isUnder_2 (by decide) ?_
      refine wp_istore_n (pc := 3) 3 dX0_isUnder_3 rfl (by decide) rfl ?_
      refine wp_iload_n (pc := 4) 3 dX0_isUnder_4 rfl rfl ?_
      refine wp_bipush (pc := 5) (6) dX0_isUnder_5 (by decide) ?_
      refine wp_icmp_ge (pc := 7) 33 dX0_isUnder_7 (by decide) (fun c_7 => ?_) (fun c_7 => ?_)
      · exact absurd c_7 (by decide)
      · refine wp_iload_n (pc := 10) 2 dX0_isUnder_10 rfl rfl ?_
        refine wp_iconst (pc := 11) (-1) dX0_isUnder_11 (by decide) ?_
        refine wp_icmp_eq (pc := 12) 33 dX0_isUnder_12 (by decide) (fun c_12 => ?_) (fun c_12 => ?_)
        · exact absurd c_12 (by decide)
        · refine wp_iload_n (pc := 15) 2 dX0_isUnder_15 rfl rfl ?_
          refine wp_iload_n (pc := 16) 1 dX0_isUnder_16 rfl rfl ?_
          refine wp_icmp_ne (pc := 17) 22 dX0_isUnder_17 (by decide) (fun c_17 => ?_) (fun c_17 => ?_)
          · refine wp_iload_n (pc := 22) 2 dX0_isUnder_22 rfl rfl ?_
            refine wc_S_I (pc := 23) dX0_isUnder_23 lkX0_43 (by decide) (Nat.le_of_ble_eq_true rfl) ?_
            refine c_X0_kindAbove (w := 3) (by decide) ?_
            refine wp_istore_n (pc := 26) 2 dX0_isUnder_26 rfl (by decide) rfl ?_
            refine wp_incN (pc := 27) 3 dX0_isUnder_27 rfl (by decide) rfl ?_
            refine wp_goto (pc := 30) 4 dX0_isUnder_30 (by decide) ?_
            refine wp_iload_n (pc := 4) 3 dX0_isUnder_4 rfl rfl ?_
            refine wp_bipush (pc := 5) (6) dX0_isUnder_5 (by decide) ?_
            refine wp_icmp_ge (pc := 7) 33 dX0_isUnder_7 (by decide) (fun c_7 => ?_) (fun c_7 => ?_)
            · exact absurd c_7 (by decide)
            · refine wp_iload_n (pc := 10) 2 dX0_isUnder_10 rfl rfl ?_
              refine wp_iconst (pc := 11) (-1) dX0_isUnder_11 (by decide) ?_
              refine wp_icmp_eq (pc := 12) 33 dX0_isUnder_12 (by decide) (fun c_12 => ?_) (fun c_12 => ?_)
              · exact absurd c_12 (by decide)
              · refine wp_iload_n (pc := 15) 2 dX0_isUnder_15 rfl rfl ?_
                refine wp_iload_n (pc := 16) 1 dX0_isUnder_16 rfl rfl ?_
                refine wp_icmp_ne (pc := 17) 22 dX0_isUnder_17 (by decide) (fun c_17 => ?_) (fun c_17 => ?_)
                · refine wp_iload_n (pc := 22) 2 dX0_isUnder_22 rfl rfl ?_
                  refine wc_S_I (pc := 23) dX0_isUnder_23 lkX0_43 (by decide) (Nat.le_of_ble_eq_true rfl) ?_
                  refine c_X0_kindAbove (w := 1) (by decide) ?_
                  refine wp_istore_n (pc := 26) 2 dX0_isUnder_26 rfl (by decide) rfl ?_
                  refine wp_incN (pc := 27) 3 dX0_isUnder_27 rfl (by decide) rfl ?_
                  refine wp_goto (pc := 30) 4 dX0_isUnder_30 (by decide) ?_
                  refine wp_iload_n (pc := 4) 3 dX0_isUnder_4 rfl rfl ?_
                  refine wp_bipush (pc := 5) (6) dX0_isUnder_5 (by decide) ?_
                  refine wp_icmp_ge (pc := 7) 33 dX0_isUnder_7 (by decide) (fun c_7 => ?_) (fun c_7 => ?_)
                  · exact absurd c_7 (by decide)
                  · refine wp_iload_n (pc := 10) 2 dX0_isUnder_10 rfl rfl ?_
                    refine wp_iconst (pc := 11) (-1) dX0_isUnder_11 (by decide) ?_
                    refine wp_icmp_eq (pc := 12) 33 dX0_isUnder_12 (by decide) (fun c_12 => ?_) (fun c_12 => ?_)
                    · exact absurd c_12 (by decide)
                    · refine wp_iload_n (pc := 15) 2 dX0_isUnder_15 rfl rfl ?_
                      refine wp_iload_n (pc := 16) 1 dX0_isUnder_16 rfl rfl ?_
                      refine wp_icmp_ne (pc := 17) 22 dX0_isUnder_17 (by decide) (fun c_17 => ?_) (fun c_17 => ?_)
                      · refine wp_iload_n (pc := 22) 2 dX0_isUnder_22 rfl rfl ?_
                        refine wc_S_I (pc := 23) dX0_isUnder_23 lkX0_43 (by decide) (Nat.le_of_ble_eq_true rfl) ?_
                        refine c_X0_kindAbove (w := 0) (by decide) ?_
                        refine wp_istore_n (pc := 26) 2 dX0_isUnder_26 rfl (by decide) rfl ?_
                        refine wp_incN (pc := 27) 3 dX0_isUnder_27 rfl (by decide) rfl ?_
                        refine wp_goto (pc := 30) 4 dX0_isUnder_30 (by decide) ?_
                        refine wp_iload_n (pc := 4) 3 dX0_isUnder_4 rfl rfl ?_
                        refine wp_bipush (pc := 5) (6) dX0_isUnder_5 (by decide) ?_
                        refine wp_icmp_ge (pc := 7) 33 dX0_isUnder_7 (by decide) (fun c_7 => ?_) (fun c_7 => ?_)
                        · exact absurd c_7 (by decide)
                        · refine wp_iload_n (pc := 10) 2 dX0_isUnder_10 rfl rfl ?_
                          refine wp_iconst (pc := 11) (-1) dX0_isUnder_11 (by decide) ?_
                          refine wp_icmp_eq (pc := 12) 33 dX0_isUnder_12 (by decide) (fun c_12 => ?_) (fun c_12 => ?_)
                          · refine wp_iconst (pc := 33) (0) dX0_isUnder_33 (by decide) ?_
                            refine wp_iret (pc := 34) dX0_isUnder_34 ⟨_, rfl, by decide⟩ ?_
                            exact k
                          · exact absurd (by decide) c_12
                      · exact absurd c_17 (by decide)
                · exact absurd c_17 (by decide)
          · exact absurd c_17 (by decide)
  · rcases (show b = 0 ∨ b = 1 ∨ b = 2 ∨ b = 3 ∨ b = 4 ∨ b = 5 by omega) with rfl | rfl | rfl | rfl | rfl | rfl
    · refine wp_iload_n (pc := 0) 0 dX0_isUnder_0 rfl rfl ?_
      refine wp_istore_n (pc := 1) 2 dX0_isUnder_1 rfl (by decide) rfl ?_
      refine wp_iconst (pc := 2) (0) dX0_isUnder_2 (by decide) ?_
      refine wp_istore_n (pc := 3) 3 dX0_isUnder_3 rfl (by decide) rfl ?_
      refine wp_iload_n (pc := 4) 3 dX0_isUnder_4 rfl rfl ?_
      refine wp_bipush (pc := 5) (6) dX0_isUnder_5 (by decide) ?_
      refine wp_icmp_ge (pc := 7) 33 dX0_isUnder_7 (by decide) (fun c_7 => ?_) (fun c_7 => ?_)
      · exact absurd c_7 (by decide)
      · refine wp_iload_n (pc := 10) 2 dX0_isUnder_10 rfl rfl ?_
        refine wp_iconst (pc := 11) (-1) dX0_isUnder_11 (by decide) ?_
        refine wp_icmp_eq (pc := 12) 33 dX0_isUnder_12 (by decide) (fun c_12 => ?_) (fun c_12 => ?_)
        · exact absurd c_12 (by decide)
        · refine wp_iload_n (pc := 15) 2 dX0_isUnder_15 rfl rfl ?_
          refine wp_iload_n (pc := 16) 1 dX0_isUnder_16 rfl rfl ?_
          refine wp_icmp_ne (pc := 17) 22 dX0_isUnder_17 (by decide) (fun c_17 => ?_) (fun c_17 => ?_)
          · refine wp_iload_n (pc := 22) 2 dX0_isUnder_22 rfl rfl ?_
            refine wc_S_I (pc := 23) dX0_isUnder_23 lkX0_43 (by decide) (Nat.le_of_ble_eq_true rfl) ?_
            refine c_X0_kindAbove (w := 4) (by decide) ?_
            refine wp_istore_n (pc := 26) 2 dX0_isUnder_26 rfl (by decide) rfl ?_
            refine wp_incN (pc := 27) 3 dX0_isUnder_27 rfl (by decide) rfl ?_
            refine wp_goto (pc := 30) 4 dX0_isUnder_30 (by decide) ?_
            refine wp_iload_n (pc := 4) 3 dX0_isUnder_4 rfl rfl ?_
            refine wp_bipush (pc := 5) (6) dX0_isUnder_5 (by decide) ?_
            refine wp_icmp_ge (pc := 7) 33 dX0_isUnder_7 (by decide) (fun c_7 => ?_) (fun c_7 => ?_)
            · exact absurd c_7 (by decide)
            · refine wp_iload_n (pc := 10) 2 dX0_isUnder_10 rfl rfl ?_
              refine wp_iconst (pc := 11) (-1) dX0_isUnder_11 (by decide) ?_
              refine wp_icmp_eq (pc := 12) 33 dX0_isUnder_12 (by decide) (fun c_12 => ?_) (fun c_12 => ?_)
              · exact absurd c_12 (by decide)
              · refine wp_iload_n (pc := 15) 2 dX0_isUnder_15 rfl rfl ?_
                refine wp_iload_n (pc := 16) 1 dX0_isUnder_16 rfl rfl ?_
                refine wp_icmp_ne (pc := 17) 22 dX0_isUnder_17 (by decide) (fun c_17 => ?_) (fun c_17 => ?_)
                · refine wp_iload_n (pc := 22) 2 dX0_isUnder_22 rfl rfl ?_
                  refine wc_S_I (pc := 23) dX0_isUnder_23 lkX0_43 (by decide) (Nat.le_of_ble_eq_true rfl) ?_
                  refine c_X0_kindAbove (w := 2) (by decide) ?_
                  refine wp_istore_n (pc := 26) 2 dX0_isUnder_26 rfl (by decide) rfl ?_
                  refine wp_incN (pc := 27) 3 dX0_isUnder_27 rfl (by decide) rfl ?_
                  refine wp_goto (pc := 30) 4 dX0_isUnder_30 (by decide) ?_
                  refine wp_iload_n (pc := 4) 3 dX0_isUnder_4 rfl rfl ?_
                  refine wp_bipush (pc := 5) (6) dX0_isUnder_5 (by decide) ?_
                  refine wp_icmp_ge (pc := 7) 33 dX0_isUnder_7 (by decide) (fun c_7 => ?_) (fun c_7 => ?_)
                  · exact absurd c_7 (by decide)
                  · refine wp_iload_n (pc := 10) 2 dX0_isUnder_10 rfl rfl ?_
                    refine wp_iconst (pc := 11) (-1) dX0_isUnder_11 (by decide) ?_
                    refine wp_icmp_eq (pc := 12) 33 dX0_isUnder_12 (by decide) (fun c_12 => ?_) (fun c_12 => ?_)
                    · exact absurd c_12 (by decide)
                    · refine wp_iload_n (pc := 15) 2 dX0_isUnder_15 rfl rfl ?_
                      refine wp_iload_n (pc := 16) 1 dX0_isUnder_16 rfl rfl ?_
                      refine wp_icmp_ne (pc := 17) 22 dX0_isUnder_17 (by decide) (fun c_17 => ?_) (fun c_17 => ?_)
                      · exact absurd (by decide) c_17
                      · refine wp_iconst (pc := 20) (1) dX0_isUnder_20 (by decide) ?_
                        refine wp_iret (pc := 21) dX0_isUnder_21 ⟨_, rfl, by decide⟩ ?_
                        exact k
                · exact absurd c_17 (by decide)
          · exact absurd c_17 (by decide)
    · refine wp_iload_n (pc := 0) 0 dX0_isUnder_0 rfl rfl ?_
      refine wp_istore_n (pc := 1) 2 dX0_isUnder_1 rfl (by decide) rfl ?_
      refine wp_iconst (pc := 2) (0) dX0_isUnder_2 (by decide) ?_
      refine wp_istore_n (pc := 3) 3 dX0_isUnder_3 rfl (by decide) rfl ?_
      refine wp_iload_n (pc := 4) 3 dX0_isUnder_4 rfl rfl ?_
      refine wp_bipush (pc := 5) (6) dX0_isUnder_5 (by decide) ?_
      refine wp_icmp_ge (pc := 7) 33 dX0_isUnder_7 (by decide) (fun c_7 => ?_) (fun c_7 => ?_)
      · exact absurd c_7 (by decide)
      · refine wp_iload_n (pc := 10) 2 dX0_isUnder_10 rfl rfl ?_
        refine wp_iconst (pc := 11) (-1) dX0_isUnder_11 (by decide) ?_
        refine wp_icmp_eq (pc := 12) 33 dX0_isUnder_12 (by decide) (fun c_12 => ?_) (fun c_12 => ?_)
        · exact absurd c_12 (by decide)
        · refine wp_iload_n (pc := 15) 2 dX0_isUnder_15 rfl rfl ?_
          refine wp_iload_n (pc := 16) 1 dX0_isUnder_16 rfl rfl ?_
          refine wp_icmp_ne (pc := 17) 22 dX0_isUnder_17 (by decide) (fun c_17 => ?_) (fun c_17 => ?_)
          · refine wp_iload_n (pc := 22) 2 dX0_isUnder_22 rfl rfl ?_
            refine wc_S_I (pc := 23) dX0_isUnder_23 lkX0_43 (by decide) (Nat.le_of_ble_eq_true rfl) ?_
            refine c_X0_kindAbove (w := 4) (by decide) ?_
            refine wp_istore_n (pc := 26) 2 dX0_isUnder_26 rfl (by decide) rfl ?_
            refine wp_incN (pc := 27) 3 dX0_isUnder_27 rfl (by decide) rfl ?_
            refine wp_goto (pc := 30) 4 dX0_isUnder_30 (by decide) ?_
            refine wp_iload_n (pc := 4) 3 dX0_isUnder_4 rfl rfl ?_
            refine wp_bipush (pc := 5) (6) dX0_isUnder_5 (by decide) ?_
            refine wp_icmp_ge (pc := 7) 33 dX0_isUnder_7 (by decide) (fun c_7 => ?_) (fun c_7 => ?_)
            · exact absurd c_7 (by decide)
            · refine wp_iload_n (pc := 10) 2 dX0_isUnder_10 rfl rfl ?_
              refine wp_iconst (pc := 11) (-1) dX0_isUnder_11 (by decide) ?_
              refine wp_icmp_eq (pc := 12) 33 dX0_isUnder_12 (by decide) (fun c_12 => ?_) (fun c_12 => ?_)
              · exact absurd c_12 (by decide)
              · refine wp_iload_n (pc := 15) 2 dX0_isUnder_15 rfl rfl ?_
                refine wp_iload_n (pc := 16) 1 dX0_isUnder_16 rfl rfl ?_
                refine wp_icmp_ne (pc := 17) 22 dX0_isUnder_17 (by decide) (fun c_17 => ?_) (fun c_17 => ?_)
                · refine wp_iload_n (pc := 22) 2 dX0_isUnder_22 rfl rfl ?_
                  refine wc_S_I (pc := 23) dX0_isUnder_23 lkX0_43 (by decide) (Nat.le_of_ble_eq_true rfl) ?_
                  refine c_X0_kindAbove (w := 2) (by decide) ?_
                  refine wp_istore_n (pc := 26) 2 dX0_isUnder_26 rfl (by decide) rfl ?_
                  refine wp_incN (pc := 27) 3 dX0_isUnder_27 rfl (by decide) rfl ?_
                  refine wp_goto (pc := 30) 4 dX0_isUnder_30 (by decide) ?_
                  refine wp_iload_n (pc := 4) 3 dX0_isUnder_4 rfl rfl ?_
                  refine wp_bipush (pc := 5) (6) dX0_isUnder_5 (by decide) ?_
                  refine wp_icmp_ge (pc := 7) 33 dX0_isUnder_7 (by decide) (fun c_7 => ?_) (fun c_7 => ?_)
                  · exact absurd c_7 (by decide)
                  · refine wp_iload_n (pc := 10) 2 dX0_isUnder_10 rfl rfl ?_
                    refine wp_iconst (pc := 11) (-1) dX0_isUnder_11 (by decide) ?_
                    refine wp_icmp_eq (pc := 12) 33 dX0_isUnder_12 (by decide) (fun c_12 => ?_) (fun c_12 => ?_)
                    · exact absurd c_12 (by decide)
                    · refine wp_iload_n (pc := 15) 2 dX0_isUnder_15 rfl rfl ?_
                      refine wp_iload_n (pc := 16) 1 dX0_isUnder_16 rfl rfl ?_
                      refine wp_icmp_ne (pc := 17) 22 dX0_isUnder_17 (by decide) (fun c_17 => ?_) (fun c_17 => ?_)
                      · refine wp_iload_n (pc := 22) 2 dX0_isUnder_22 rfl rfl ?_
                        refine wc_S_I (pc := 23) dX0_isUnder_23 lkX0_43 (by decide) (Nat.le_of_ble_eq_true rfl) ?_
                        refine c_X0_kindAbove (w := 0) (by decide) ?_
                        refine wp_istore_n (pc := 26) 2 dX0_isUnder_26 rfl (by decide) rfl ?_
                        refine wp_incN (pc := 27) 3 dX0_isUnder_27 rfl (by decide) rfl ?_
                        refine wp_goto (pc := 30) 4 dX0_isUnder_30 (by decide) ?_
                        refine wp_iload_n (pc := 4) 3 dX0_isUnder_4 rfl rfl ?_
                        refine wp_bipush (pc := 5) (6) dX0_isUnder_5 (by decide) ?_
                        refine wp_icmp_ge (pc := 7) 33 dX0_isUnder_7 (by decide) (fun c_7 => ?_) (fun c_7 => ?_)
                        · exact absurd c_7 (by decide)
                        · refine wp_iload_n (pc := 10) 2 dX0_isUnder_10 rfl rfl ?_
                          refine wp_iconst (pc := 11) (-1) dX0_isUnder_11 (by decide) ?_
                          refine wp_icmp_eq (pc := 12) 33 dX0_isUnder_12 (by decide) (fun c_12 => ?_) (fun c_12 => ?_)
                          · refine wp_iconst (pc := 33) (0) dX0_isUnder_33 (by decide) ?_
                            refine wp_iret (pc := 34) dX0_isUnder_34 ⟨_, rfl, by decide⟩ ?_
                            exact k
                          · exact absurd (by decide) c_12
                      · exact absurd c_17 (by decide)
                · exact absurd c_17 (by decide)
          · exact absurd c_17 (by decide)
    · refine wp_iload_n (pc := 0) 0 dX0_isUnder_0 rfl rfl ?_
      refine wp_istore_n (pc := 1) 2 dX0_isUnder_1 rfl (by decide) rfl ?_
      refine wp_iconst (pc := 2) (0) dX0_isUnder_2 (by decide) ?_
      refine wp_istore_n (pc := 3) 3 dX0_isUnder_3 rfl (by decide) rfl ?_
      refine wp_iload_n (pc := 4) 3 dX0_isUnder_4 rfl rfl ?_
      refine wp_bipush (pc := 5) (6) dX0_isUnder_5 (by decide) ?_
      refine wp_icmp_ge (pc := 7) 33 dX0_isUnder_7 (by decide) (fun c_7 => ?_) (fun c_7 => ?_)
      · exact absurd c_7 (by decide)
      · refine wp_iload_n (pc := 10) 2 dX0_isUnder_10 rfl rfl ?_
        refine wp_iconst (pc := 11) (-1) dX0_isUnder_11 (by decide) ?_
        refine wp_icmp_eq (pc := 12) 33 dX0_isUnder_12 (by decide) (fun c_12 => ?_) (fun c_12 => ?_)
        · exact absurd c_12 (by decide)
        · refine wp_iload_n (pc := 15) 2 dX0_isUnder_15 rfl rfl ?_
          refine wp_iload_n (pc := 16) 1 dX0_isUnder_16 rfl rfl ?_
          refine wp_icmp_ne (pc := 17) 22 dX0_isUnder_17 (by decide) (fun c_17 => ?_) (fun c_17 => ?_)
          · refine wp_iload_n (pc := 22) 2 dX0_isUnder_22 rfl rfl ?_
            refine wc_S_I (pc := 23) dX0_isUnder_23 lkX0_43 (by decide) (Nat.le_of_ble_eq_true rfl) ?_
            refine c_X0_kindAbove (w := 4) (by decide) ?_
            refine wp_istore_n (pc := 26) 2 dX0_isUnder_26 rfl (by decide) rfl ?_
            refine wp_incN (pc := 27) 3 dX0_isUnder_27 rfl (by decide) rfl ?_
            refine wp_goto (pc := 30) 4 dX0_isUnder_30 (by decide) ?_
            refine wp_iload_n (pc := 4) 3 dX0_isUnder_4 rfl rfl ?_
            refine wp_bipush (pc := 5) (6) dX0_isUnder_5 (by decide) ?_
            refine wp_icmp_ge (pc := 7) 33 dX0_isUnder_7 (by decide) (fun c_7 => ?_) (fun c_7 => ?_)
            · exact absurd c_7 (by decide)
            · refine wp_iload_n (pc := 10) 2 dX0_isUnder_10 rfl rfl ?_
              refine wp_iconst (pc := 11) (-1) dX0_isUnder_11 (by decide) ?_
              refine wp_icmp_eq (pc := 12) 33 dX0_isUnder_12 (by decide) (fun c_12 => ?_) (fun c_12 => ?_)
              · exact absurd c_12 (by decide)
              · refine wp_iload_n (pc := 15) 2 dX0_isUnder_15 rfl rfl ?_
                refine wp_iload_n (pc := 16) 1 dX0_isUnder_16 rfl rfl ?_
                refine wp_icmp_ne (pc := 17) 22 dX0_isUnder_17 (by decide) (fun c_17 => ?_) (fun c_17 => ?_)
                · exact absurd (by decide) c_17
                · refine wp_iconst (pc := 20) (1) dX0_isUnder_20 (by decide) ?_
                  refine wp_iret (pc := 21) dX0_isUnder_21 ⟨_, rfl, by decide⟩ ?_
                  exact k
          · exact absurd c_17 (by decide)
    · refine wp_iload_n (pc := 0) 0 dX0_isUnder_0 rfl rfl ?_
      refine wp_istore_n (pc := 1) 2 dX0_isUnder_1 rfl (by decide) rfl ?_
      refine wp_iconst (pc := 2) (0) dX0_isUnder_2 (by decide) ?_
      refine wp_istore_n (pc := 3) 3 dX0_isUnder_3 rfl (by decide) rfl ?_
      refine wp_iload_n (pc := 4) 3 dX0_isUnder_4 rfl rfl ?_
      refine wp_bipush (pc := 5) (6) dX0_isUnder_5 (by decide) ?_
      refine wp_icmp_ge (pc := 7) 33 dX0_isUnder_7 (by decide) (fun c_7 => ?_) (fun c_7 => ?_)
      · exact absurd c_7 (by decide)
      · refine wp_iload_n (pc := 10) 2 dX0_isUnder_10 rfl rfl ?_
        refine wp_iconst (pc := 11) (-1) dX0_isUnder_11 (by decide) ?_
        refine wp_icmp_eq (pc := 12) 33 dX0_isUnder_12 (by decide) (fun c_12 => ?_) (fun c_12 => ?_)
        · exact absurd c_12 (by decide)
        · refine wp_iload_n (pc := 15) 2 dX0_isUnder_15 rfl rfl ?_
          refine wp_iload_n (pc := 16) 1 dX0_isUnder_16 rfl rfl ?_
          refine wp_icmp_ne (pc := 17) 22 dX0_isUnder_17 (by decide) (fun c_17 => ?_) (fun c_17 => ?_)
          · refine wp_iload_n (pc := 22) 2 dX0_isUnder_22 rfl rfl ?_
            refine wc_S_I (pc := 23) dX0_isUnder_23 lkX0_43 (by decide) (Nat.le_of_ble_eq_true rfl) ?_
            refine c_X0_kindAbove (w := 4) (by decide) ?_
            refine wp_istore_n (pc := 26) 2 dX0_isUnder_26 rfl (by decide) rfl ?_
            refine wp_incN (pc := 27) 3 dX0_isUnder_27 rfl (by decide) rfl ?_
            refine wp_goto (pc := 30) 4 dX0_isUnder_30 (by decide) ?_
            refine wp_iload_n (pc := 4) 3 dX0_isUnder_4 rfl rfl ?_
            refine wp_bipush (pc := 5) (6) dX0_isUnder_5 (by decide) ?_
            refine wp_icmp_ge (pc := 7) 33 dX0_isUnder_7 (by decide) (fun c_7 => ?_) (fun c_7 => ?_)
            · exact absurd c_7 (by decide)
            · refine wp_iload_n (pc := 10) 2 dX0_isUnder_10 rfl rfl ?_
              refine wp_iconst (pc := 11) (-1) dX0_isUnder_11 (by decide) ?_
              refine wp_icmp_eq (pc := 12) 33 dX0_isUnder_12 (by decide) (fun c_12 => ?_) (fun c_12 => ?_)
              · exact absurd c_12 (by decide)
              · refine wp_iload_n (pc := 15) 2 dX0_isUnder_15 rfl rfl ?_
                refine wp_iload_n (pc := 16) 1 dX0_isUnder_16 rfl rfl ?_
                refine wp_icmp_ne (pc := 17) 22 dX0_isUnder_17 (by decide) (fun c_17 => ?_) (fun c_17 => ?_)
                · refine wp_iload_n (pc := 22) 2 dX0_isUnder_22 rfl rfl ?_
                  refine wc_S_I (pc := 23) dX0_isUnder_23 lkX0_43 (by decide) (Nat.le_of_ble_eq_true rfl) ?_
                  refine c_X0_kindAbove (w := 2) (by decide) ?_
                  refine wp_istore_n (pc := 26) 2 dX0_isUnder_26 rfl (by decide) rfl ?_
                  refine wp_incN (pc := 27) 3 dX0_isUnder_27 rfl (by decide) rfl ?_
                  refine wp_goto (pc := 30) 4 dX0_isUnder_30 (by decide) ?_
                  refine wp_iload_n (pc := 4) 3 dX0_isUnder_4 rfl rfl ?_
                  refine wp_bipush (pc := 5) (6) dX0_isUnder_5 (by decide) ?_
                  refine wp_icmp_ge (pc := 7) 33 dX0_isUnder_7 (by decide) (fun c_7 => ?_) (fun c_7 => ?_)
                  · exact absurd c_7 (by decide)
                  · refine wp_iload_n (pc := 10) 2 dX0_isUnder_10 rfl rfl ?_
                    refine wp_iconst (pc := 11) (-1) dX0_isUnder_11 (by decide) ?_
                    refine wp_icmp_eq (pc := 12) 33 dX0_isUnder_12 (by decide) (fun c_12 => ?_) (fun c_12 => ?_)
                    · exact absurd c_12 (by decide)
                    · refine wp_iload_n (pc := 15) 2 dX0_isUnder_15 rfl rfl ?_
                      refine wp_iload_n (pc := 16) 1 dX0_isUnder_16 rfl rfl ?_
                      refine wp_icmp_ne (pc := 17) 22 dX0_isUnder_17 (by decide) (fun c_17 => ?_) (fun c_17 => ?_)
                      · refine wp_iload_n (pc := 22) 2 dX0_isUnder_22 rfl rfl ?_
                        refine wc_S_I (pc := 23) dX0_isUnder_23 lkX0_43 (by decide) (Nat.le_of_ble_eq_true rfl) ?_
                        refine c_X0_kindAbove (w := 0) (by decide) ?_
                        refine wp_istore_n (pc := 26) 2 dX0_isUnder_26 rfl (by decide) rfl ?_
                        refine wp_incN (pc := 27) 3 dX0_isUnder_27 rfl (by decide) rfl ?_
                        refine wp_goto (pc := 30) 4 dX0_isUnder_30 (by decide) ?_
                        refine wp_iload_n (pc := 4) 3 dX0_isUnder_4 rfl rfl ?_
                        refine wp_bipush (pc := 5) (6) dX0_isUnder_5 (by decide) ?_
                        refine wp_icmp_ge (pc := 7) 33 dX0_isUnder_7 (by decide) (fun c_7 => ?_) (fun c_7 => ?_)
                        · exact absurd c_7 (by decide)
                        · refine wp_iload_n (pc := 10) 2 dX0_isUnder_10 rfl rfl ?_
                          refine wp_iconst (pc := 11) (-1) dX0_isUnder_11 (by decide) ?_
                          refine wp_icmp_eq (pc := 12) 33 dX0_isUnder_12 (by decide) (fun c_12 => ?_) (fun c_12 => ?_)
                          · refine wp_iconst (pc := 33) (0) dX0_isUnder_33 (by decide) ?_
                            refine wp_iret (pc := 34) dX0_isUnder_34 ⟨_, rfl, by decide⟩ ?_
                            exact k
                          · exact absurd (by decide) c_12
                      · exact absurd c_17 (by decide)
                · exact absurd c_17 (by decide)
          · exact absurd c_17 (by decide)
    · refine wp_iload_n (pc := 0) 0 dX0_isUnder_0 rfl rfl ?_
      refine wp_istore_n (pc := 1) 2 dX0_isUnder_1 rfl (by decide) rfl ?_
      refine wp_iconst (pc := 2) (0) dX0_isUnder_2 (by decide) ?_
      refine wp_istore_n (pc := 3) 3 dX0_isUnder_3 rfl (by decide) rfl ?_
      refine wp_iload_n (pc := 4) 3 dX0_isUnder_4 rfl rfl ?_
      refine wp_bipush (pc := 5) (6) dX0_isUnder_5 (by decide) ?_
      refine wp_icmp_ge (pc := 7) 33 dX0_isUnder_7 (by decide) (fun c_7 => ?_) (fun c_7 => ?_)
      · exact absurd c_7 (by decide)
      · refine wp_iload_n (pc := 10) 2 dX0_isUnder_10 rfl rfl ?_
        refine wp_iconst (pc := 11) (-1) dX0_isUnder_11 (by decide) ?_
        refine wp_icmp_eq (pc := 12) 33 dX0_isUnder_12 (by decide) (fun c_12 => ?_) (fun c_12 => ?_)
        · exact absurd c_12 (by decide)
        · refine wp_iload_n (pc := 15) 2 dX0_isUnder_15 rfl rfl ?_
          refine wp_iload_n (pc := 16) 1 dX0_isUnder_16 rfl rfl ?_
          refine wp_icmp_ne (pc := 17) 22 dX0_isUnder_17 (by decide) (fun c_17 => ?_) (fun c_17 => ?_)
          · exact absurd (by decide) c_17
          · refine wp_iconst (pc := 20) (1) dX0_isUnder_20 (by decide) ?_
            refine wp_iret (pc := 21) dX0_isUnder_21 ⟨_, rfl, by decide⟩ ?_
            exact k
    · refine wp_iload_n (pc := 0) 0 dX0_isUnder_0 rfl rfl ?_
      refine wp_istore_n (pc := 1) 2 dX0_isUnder_1 rfl (by decide) rfl ?_
      refine wp_iconst (pc := 2) (0) dX0_isUnder_2 (by decide) ?_
      refine wp_istore_n (pc := 3) 3 dX0_isUnder_3 rfl (by decide) rfl ?_
      refine wp_iload_n (pc := 4) 3 dX0_isUnder_4 rfl rfl ?_
      refine wp_bipush (pc := 5) (6) dX0_isUnder_5 (by decide) ?_
      refine wp_icmp_ge (pc := 7) 33 dX0_isUnder_7 (by decide) (fun c_7 => ?_) (fun c_7 => ?_)
      · exact absurd c_7 (by decide)
      · refine wp_iload_n (pc := 10) 2 dX0_isUnder_10 rfl rfl ?_
        refine wp_iconst (pc := 11) (-1) dX0_isUnder_11 (by decide) ?_
        refine wp_icmp_eq (pc := 12) 33 dX0_isUnder_12 (by decide) (fun c_12 => ?_) (fun c_12 => ?_)
        · exact absurd c_12 (by decide)
        · refine wp_iload_n (pc := 15) 2 dX0_isUnder_15 rfl rfl ?_
          refine wp_iload_n (pc := 16) 1 dX0_isUnder_16 rfl rfl ?_
          refine wp_icmp_ne (pc := 17) 22 dX0_isUnder_17 (by decide) (fun c_17 => ?_) (fun c_17 => ?_)
          · refine wp_iload_n (pc := 22) 2 dX0_isUnder_22 rfl rfl ?_
            refine wc_S_I (pc := 23) dX0_isUnder_23 lkX0_43 (by decide) (Nat.le_of_ble_eq_true rfl) ?_
            refine c_X0_kindAbove (w := 4) (by decide) ?_
            refine wp_istore_n (pc := 26) 2 dX0_isUnder_26 rfl (by decide) rfl ?_
            refine wp_incN (pc := 27) 3 dX0_isUnder_27 rfl (by decide) rfl ?_
            refine wp_goto (pc := 30) 4 dX0_isUnder_30 (by decide) ?_
            refine wp_iload_n (pc := 4) 3 dX0_isUnder_4 rfl rfl ?_
            refine wp_bipush (pc := 5) (6) dX0_isUnder_5 (by decide) ?_
            refine wp_icmp_ge (pc := 7) 33 dX0_isUnder_7 (by decide) (fun c_7 => ?_) (fun c_7 => ?_)
            · exact absurd c_7 (by decide)
            · refine wp_iload_n (pc := 10) 2 dX0_isUnder_10 rfl rfl ?_
              refine wp_iconst (pc := 11) (-1) dX0_isUnder_11 (by decide) ?_
              refine wp_icmp_eq (pc := 12) 33 dX0_isUnder_12 (by decide) (fun c_12 => ?_) (fun c_12 => ?_)
              · exact absurd c_12 (by decide)
              · refine wp_iload_n (pc := 15) 2 dX0_isUnder_15 rfl rfl ?_
                refine wp_iload_n (pc := 16) 1 dX0_isUnder_16 rfl rfl ?_
                refine wp_icmp_ne (pc := 17) 22 dX0_isUnder_17 (by decide) (fun c_17 => ?_) (fun c_17 => ?_)
                · refine wp_iload_n (pc := 22) 2 dX0_isUnder_22 rfl rfl ?_
                  refine wc_S_I (pc := 23) dX0_isUnder_23 lkX0_43 (by decide) (Nat.le_of_ble_eq_true rfl) ?_
                  refine c_X0_kindAbove (w := 2) (by decide) ?_
                  refine wp_istore_n (pc := 26) 2 dX0_isUnder_26 rfl (by decide) rfl ?_
                  refine wp_incN (pc := 27) 3 dX0_isUnder_27 rfl (by decide) rfl ?_
                  refine wp_goto (pc := 30) 4 dX0_isUnder_30 (by decide) ?_
                  refine wp_iload_n (pc := 4) 3 dX0_isUnder_4 rfl rfl ?_
                  refine wp_bipush (pc := 5) (6) dX0_isUnder_5 (by decide) ?_
                  refine wp_icmp_ge (pc := 7) 33 dX0_isUnder_7 (by decide) (fun c_7 => ?_) (fun c_7 => ?_)
                  · exact absurd c_7 (by decide)
                  · refine wp_iload_n (pc := 10) 2 dX0_isUnder_10 rfl rfl ?_
                    refine wp_iconst (pc := 11) (-1) dX0_isUnder_11 (by decide) ?_
                    refine wp_icmp_eq (pc := 12) 33 dX0_isUnder_12 (by decide) (fun c_12 => ?_) (fun c_12 => ?_)
                    · exact absurd c_12 (by decide)
                    · refine wp_iload_n (pc := 15) 2 dX0_isUnder_15 rfl rfl ?_
                      refine wp_iload_n (pc := 16) 1 dX0_isUnder_16 rfl rfl ?_
                      refine wp_icmp_ne (pc := 17) 22 dX0_isUnder_17 (by decide) (fun c_17 => ?_) (fun c_17 => ?_)
                      · refine wp_iload_n (pc := 22) 2 dX0_isUnder_22 rfl rfl ?_
                        refine wc_S_I (pc := 23) dX0_isUnder_23 lkX0_43 (by decide) (Nat.le_of_ble_eq_true rfl) ?_
                        refine c_X0_kindAbove (w := 0) (by decide) ?_
                        refine wp_istore_n (pc := 26) 2 dX0_isUnder_26 rfl (by decide) rfl ?_
                        refine wp_incN (pc := 27) 3 dX0_isUnder_27 rfl (by decide) rfl ?_
                        refine wp_goto (pc := 30) 4 dX0_isUnder_30 (by decide) ?_
                        refine wp_iload_n (pc := 4) 3 dX0_isUnder_4 rfl rfl ?_
                        refine wp_bipush (pc := 5) (6) dX0_isUnder_5 (by decide) ?_
                        refine wp_icmp_ge (pc := 7) 33 dX0_isUnder_7 (by decide) (fun c_7 => ?_) (fun c_7 => ?_)
                        · exact absurd c_7 (by decide)
                        · refine wp_iload_n (pc := 10) 2 dX0_isUnder_10 rfl rfl ?_
                          refine wp_iconst (pc := 11) (-1) dX0_isUnder_11 (by decide) ?_
                          refine wp_icmp_eq (pc := 12) 33 dX0_isUnder_12 (by decide) (fun c_12 => ?_) (fun c_12 => ?_)
                          · refine wp_iconst (pc := 33) (0) dX0_isUnder_33 (by decide) ?_
                            refine wp_iret (pc := 34) dX0_isUnder_34 ⟨_, rfl, by decide⟩ ?_
                            exact k
                          · exact absurd (by decide) c_12
                      · exact absurd c_17 (by decide)
                · exact absurd c_17 (by decide)
          · exact absurd c_17 (by decide)
  · rcases (show b = 0 ∨ b = 1 ∨ b = 2 ∨ b = 3 ∨ b = 4 ∨ b = 5 by omega) with rfl | rfl | rfl | rfl | rfl | rfl
    · refine wp_iload_n (pc := 0) 0 dX0_isUnder_0 rfl rfl ?_
      refine wp_istore_n (pc := 1) 2 dX0_isUnder_1 rfl (by decide) rfl ?_
      refine wp_iconst (pc := 2) (0) dX0_isUnder_2 (by decide) ?_
      refine wp_istore_n (pc := 3) 3 dX0_isUnder_3 rfl (by decide) rfl ?_
      refine wp_iload_n (pc := 4) 3 dX0_isUnder_4 rfl rfl ?_
      refine wp_bipush (pc := 5) (6) dX0_isUnder_5 (by decide) ?_
      refine wp_icmp_ge (pc := 7) 33 dX0_isUnder_7 (by decide) (fun c_7 => ?_) (fun c_7 => ?_)
      · exact absurd c_7 (by decide)
      · refine wp_iload_n (pc := 10) 2 dX0_isUnder_10 rfl rfl ?_
        refine wp_iconst (pc := 11) (-1) dX0_isUnder_11 (by decide) ?_
        refine wp_icmp_eq (pc := 12) 33 dX0_isUnder_12 (by decide) (fun c_12 => ?_) (fun c_12 => ?_)
        · exact absurd c_12 (by decide)
        · refine wp_iload_n (pc := 15) 2 dX0_isUnder_15 rfl rfl ?_
          refine wp_iload_n (pc := 16) 1 dX0_isUnder_16 rfl rfl ?_
          refine wp_icmp_ne (pc := 17) 22 dX0_isUnder_17 (by decide) (fun c_17 => ?_) (fun c_17 => ?_)
          · refine wp_iload_n (pc := 22) 2 dX0_isUnder_22 rfl rfl ?_
            refine wc_S_I (pc := 23) dX0_isUnder_23 lkX0_43 (by decide) (Nat.le_of_ble_eq_true rfl) ?_
            refine c_X0_kindAbove (w := 5) (by decide) ?_
            refine wp_istore_n (pc := 26) 2 dX0_isUnder_26 rfl (by decide) rfl ?_
            refine wp_incN (pc := 27) 3 dX0_isUnder_27 rfl (by decide) rfl ?_
            refine wp_goto (pc := 30) 4 dX0_isUnder_30 (by decide) ?_
            refine wp_iload_n (pc := 4) 3 dX0_isUnder_4 rfl rfl ?_
            refine wp_bipush (pc := 5) (6) dX0_isUnder_5 (by decide) ?_
            refine wp_icmp_ge (pc := 7) 33 dX0_isUnder_7 (by decide) (fun c_7 => ?_) (fun c_7 => ?_)
            · exact absurd c_7 (by decide)
            · refine wp_iload_n (pc := 10) 2 dX0_isUnder_10 rfl rfl ?_
              refine wp_iconst (pc := 11) (-1) dX0_isUnder_11 (by decide) ?_
              refine wp_icmp_eq (pc := 12) 33 dX0_isUnder_12 (by decide) (fun c_12 => ?_) (fun c_12 => ?_)
              · exact absurd c_12 (by decide)
              · refine wp_iload_n (pc := 15) 2 dX0_isUnder_15 rfl rfl ?_
                refine wp_iload_n (pc := 16) 1 dX0_isUnder_16 rfl rfl ?_
                refine wp_icmp_ne (pc := 17) 22 dX0_isUnder_17 (by decide) (fun c_17 => ?_) (fun c_17 => ?_)
                · exact absurd (by decide) c_17
                · refine wp_iconst (pc := 20) (1) dX0_isUnder_20 (by decide) ?_
                  refine wp_iret (pc := 21) dX0_isUnder_21 ⟨_, rfl, by decide⟩ ?_
                  exact k
          · exact absurd c_17 (by decide)
    · refine wp_iload_n (pc := 0) 0 dX0_isUnder_0 rfl rfl ?_
      refine wp_istore_n (pc := 1) 2 dX0_isUnder_1 rfl (by decide) rfl ?_
      refine wp_iconst (pc := 2) (0) dX0_isUnder_2 (by decide) ?_
      refine wp_istore_n (pc := 3) 3 dX0_isUnder_3 rfl (by decide) rfl ?_
      refine wp_iload_n (pc := 4) 3 dX0_isUnder_4 rfl rfl ?_
      refine wp_bipush (pc := 5) (6) dX0_isUnder_5 (by decide) ?_
      refine wp_icmp_ge (pc := 7) 33 dX0_isUnder_7 (by decide) (fun c_7 => ?_) (fun c_7 => ?_)
      · exact absurd c_7 (by decide)
      · refine wp_iload_n (pc := 10) 2 dX0_isUnder_10 rfl rfl ?_
        refine wp_iconst (pc := 11) (-1) dX0_isUnder_11 (by decide) ?_
        refine wp_icmp_eq (pc := 12) 33 dX0_isUnder_12 (by decide) (fun c_12 => ?_) (fun c_12 => ?_)
        · exact absurd c_12 (by decide)
        · refine wp_iload_n (pc := 15) 2 dX0_isUnder_15 rfl rfl ?_
          refine wp_iload_n (pc := 16) 1 dX0_isUnder_16 rfl rfl ?_
          refine wp_icmp_ne (pc := 17) 22 dX0_isUnder_17 (by decide) (fun c_17 => ?_) (fun c_17 => ?_)
          · refine wp_iload_n (pc := 22) 2 dX0_isUnder_22 rfl rfl ?_
            refine wc_S_I (pc := 23) dX0_isUnder_23 lkX0_43 (by decide) (Nat.le_of_ble_eq_true rfl) ?_
            refine c_X0_kindAbove (w := 5) (by decide) ?_
            refine wp_istore_n (pc := 26) 2 dX0_isUnder_26 rfl (by decide) rfl ?_
            refine wp_incN (pc := 27) 3 dX0_isUnder_27 rfl (by decide) rfl ?_
            refine wp_goto (pc := 30) 4 dX0_isUnder_30 (by decide) ?_
            refine wp_iload_n (pc := 4) 3 dX0_isUnder_4 rfl rfl ?_
            refine wp_bipush (pc := 5) (6) dX0_isUnder_5 (by decide) ?_
            refine wp_icmp_ge (pc := 7) 33 dX0_isUnder_7 (by decide) (fun c_7 => ?_) (fun c_7 => ?_)
            · exact absurd c_7 (by decide)
            · refine wp_iload_n (pc := 10) 2 dX0_isUnder_10 rfl rfl ?_
              refine wp_iconst (pc := 11) (-1) dX0_isUnder_11 (by decide) ?_
              refine wp_icmp_eq (pc := 12) 33 dX0_isUnder_12 (by decide) (fun c_12 => ?_) (fun c_12 => ?_)
              · exact absurd c_12 (by decide)
              · refine wp_iload_n (pc := 15) 2 dX0_isUnder_15 rfl rfl ?_
                refine wp_iload_n (pc := 16) 1 dX0_isUnder_16 rfl rfl ?_
                refine wp_icmp_ne (pc := 17) 22 dX0_isUnder_17 (by decide) (fun c_17 => ?_) (fun c_17 => ?_)
                · refine wp_iload_n (pc := 22) 2 dX0_isUnder_22 rfl rfl ?_
                  refine wc_S_I (pc := 23) dX0_isUnder_23 lkX0_43 (by decide) (Nat.le_of_ble_eq_true rfl) ?_
                  refine c_X0_kindAbove (w := 0) (by decide) ?_
                  refine wp_istore_n (pc := 26) 2 dX0_isUnder_26 rfl (by decide) rfl ?_
                  refine wp_incN (pc := 27) 3 dX0_isUnder_27 rfl (by decide) rfl ?_
                  refine wp_goto (pc := 30) 4 dX0_isUnder_30 (by decide) ?_
                  refine wp_iload_n (pc := 4) 3 dX0_isUnder_4 rfl rfl ?_
                  refine wp_bipush (pc := 5) (6) dX0_isUnder_5 (by decide) ?_
                  refine wp_icmp_ge (pc := 7) 33 dX0_isUnder_7 (by decide) (fun c_7 => ?_) (fun c_7 => ?_)
                  · exact absurd c_7 (by decide)
                  · refine wp_iload_n (pc := 10) 2 dX0_isUnder_10 rfl rfl ?_
                    refine wp_iconst (pc := 11) (-1) dX0_isUnder_11 (by decide) ?_
                    refine wp_icmp_eq (pc := 12) 33 dX0_isUnder_12 (by decide) (fun c_12 => ?_) (fun c_12 => ?_)
                    · refine wp_iconst (pc := 33) (0) dX0_isUnder_33 (by decide) ?_
                      refine wp_iret (pc := 34) dX0_isUnder_34 ⟨_, rfl, by decide⟩ ?_
                      exact k
                    · exact absurd (by decide) c_12
                · exact absurd c_17 (by decide)
          · exact absurd c_17 (by decide)
    · refine wp_iload_n (pc := 0) 0 dX0_isUnder_0 rfl rfl ?_
      refine wp_istore_n (pc := 1) 2 dX0_isUnder_1 rfl (by decide) rfl ?_
      refine wp_iconst (pc := 2) (0) dX0_isUnder_2 (by decide) ?_
      refine wp_istore_n (pc := 3) 3 dX0_isUnder_3 rfl (by decide) rfl ?_
      refine wp_iload_n (pc := 4) 3 dX0_isUnder_4 rfl rfl ?_
      refine wp_bipush (pc := 5) (6) dX0_isUnder_5 (by decide) ?_
      refine wp_icmp_ge (pc := 7) 33 dX0_isUnder_7 (by decide) (fun c_7 => ?_) (fun c_7 => ?_)
      · exact absurd c_7 (by decide)
      · refine wp_iload_n (pc := 10) 2 dX0_isUnder_10 rfl rfl ?_
        refine wp_iconst (pc := 11) (-1) dX0_isUnder_11 (by decide) ?_
        refine wp_icmp_eq (pc := 12) 33 dX0_isUnder_12 (by decide) (fun c_12 => ?_) (fun c_12 => ?_)
        · exact absurd c_12 (by decide)
        · refine wp_iload_n (pc := 15) 2 dX0_isUnder_15 rfl rfl ?_
          refine wp_iload_n (pc := 16) 1 dX0_isUnder_16 rfl rfl ?_
          refine wp_icmp_ne (pc := 17) 22 dX0_isUnder_17 (by decide) (fun c_17 => ?_) (fun c_17 => ?_)
          · refine wp_iload_n (pc := 22) 2 dX0_isUnder_22 rfl rfl ?_
            refine wc_S_I (pc := 23) dX0_isUnder_23 lkX0_43 (by decide) (Nat.le_of_ble_eq_true rfl) ?_
            refine c_X0_kindAbove (w := 5) (by decide) ?_
            refine wp_istore_n (pc := 26) 2 dX0_isUnder_26 rfl (by decide) rfl ?_
            refine wp_incN (pc := 27) 3 dX0_isUnder_27 rfl (by decide) rfl ?_
            refine wp_goto (pc := 30) 4 dX0_isUnder_30 (by decide) ?_
            refine wp_iload_n (pc := 4) 3 dX0_isUnder_4 rfl rfl ?_
            refine wp_bipush (pc := 5) (6) dX0_isUnder_5 (by decide) ?_
            refine wp_icmp_ge (pc := 7) 33 dX0_isUnder_7 (by decide) (fun c_7 => ?_) (fun c_7 => ?_)
            · exact absurd c_7 (by decide)
            · refine wp_iload_n (pc := 10) 2 dX0_isUnder_10 rfl rfl ?_
              refine wp_iconst (pc := 11) (-1) dX0_isUnder_11 (by decide) ?_
              refine wp_icmp_eq (pc := 12) 33 dX0_isUnder_12 (by decide) (fun c_12 => ?_) (fun c_12 => ?_)
              · exact absurd c_12 (by decide)
              · refine wp_iload_n (pc := 15) 2 dX0_isUnder_15 rfl rfl ?_
                refine wp_iload_n (pc := 16) 1 dX0_isUnder_16 rfl rfl ?_
                refine wp_icmp_ne (pc := 17) 22 dX0_isUnder_17 (by decide) (fun c_17 => ?_) (fun c_17 => ?_)
                · refine wp_iload_n (pc := 22) 2 dX0_isUnder_22 rfl rfl ?_
                  refine wc_S_I (pc := 23) dX0_isUnder_23 lkX0_43 (by decide) (Nat.le_of_ble_eq_true rfl) ?_
                  refine c_X0_kindAbove (w := 0) (by decide) ?_
                  refine wp_istore_n (pc := 26) 2 dX0_isUnder_26 rfl (by decide) rfl ?_
                  refine wp_incN (pc := 27) 3 dX0_isUnder_27 rfl (by decide) rfl ?_
                  refine wp_goto (pc := 30) 4 dX0_isUnder_30 (by decide) ?_
                  refine wp_iload_n (pc := 4) 3 dX0_isUnder_4 rfl rfl ?_
                  refine wp_bipush (pc := 5) (6) dX0_isUnder_5 (by decide) ?_
                  refine wp_icmp_ge (pc := 7) 33 dX0_isUnder_7 (by decide) (fun c_7 => ?_) (fun c_7 => ?_)
                  · exact absurd c_7 (by decide)
                  · refine wp_iload_n (pc := 10) 2 dX0_isUnder_10 rfl rfl ?_
                    refine wp_iconst (pc := 11) (-1) dX0_isUnder_11 (by decide) ?_
                    refine wp_icmp_eq (pc := 12) 33 dX0_isUnder_12 (by decide) (fun c_12 => ?_) (fun c_12 => ?_)
                    · refine wp_iconst (pc := 33) (0) dX0_isUnder_33 (by decide) ?_
                      refine wp_iret (pc := 34) dX0_isUnder_34 ⟨_, rfl, by decide⟩ ?_
                      exact k
                    · exact absurd (by decide) c_12
                · exact absurd c_17 (by decide)
          · exact absurd c_17 (by decide)
    · refine wp_iload_n (pc := 0) 0 dX0_isUnder_0 rfl rfl ?_
      refine wp_istore_n (pc := 1) 2 dX0_isUnder_1 rfl (by decide) rfl ?_
      refine wp_iconst (pc := 2) (0) dX0_isUnder_2 (by decide) ?_
      refine wp_istore_n (pc := 3) 3 dX0_isUnder_3 rfl (by decide) rfl ?_
      refine wp_iload_n (pc := 4) 3 dX0_isUnder_4 rfl rfl ?_
      refine wp_bipush (pc := 5) (6) dX0_isUnder_5 (by decide) ?_
      refine wp_icmp_ge (pc := 7) 33 dX0_isUnder_7 (by decide) (fun c_7 => ?_) (fun c_7 => ?_)
      · exact absurd c_7 (by decide)
      · refine wp_iload_n (pc := 10) 2 dX0_isUnder_10 rfl rfl ?_
        refine wp_iconst (pc := 11) (-1) dX0_isUnder_11 (by decide) ?_
        refine wp_icmp_eq (pc := 12) 33 dX0_isUnder_12 (by decide) (fun c_12 => ?_) (fun c_12 => ?_)
        · exact absurd c_12 (by decide)
        · refine wp_iload_n (pc := 15) 2 dX0_isUnder_15 rfl rfl ?_
          refine wp_iload_n (pc := 16) 1 dX0_isUnder_16 rfl rfl ?_
          refine wp_icmp_ne (pc := 17) 22 dX0_isUnder_17 (by decide) (fun c_17 => ?_) (fun c_17 => ?_)
          · refine wp_iload_n (pc := 22) 2 dX0_isUnder_22 rfl rfl ?_
            refine wc_S_I (pc := 23) dX0_isUnder_23 lkX0_43 (by decide) (Nat.le_of_ble_eq_true rfl) ?_
            refine c_X0_kindAbove (w := 5) (by decide) ?_
            refine wp_istore_n (pc := 26) 2 dX0_isUnder_26 rfl (by decide) rfl ?_
            refine wp_incN (pc := 27) 3 dX0_isUnder_27 rfl (by decide) rfl ?_
            refine wp_goto (pc := 30) 4 dX0_isUnder_30 (by decide) ?_
            refine wp_iload_n (pc := 4) 3 dX0_isUnder_4 rfl rfl ?_
            refine wp_bipush (pc := 5) (6) dX0_isUnder_5 (by decide) ?_
            refine wp_icmp_ge (pc := 7) 33 dX0_isUnder_7 (by decide) (fun c_7 => ?_) (fun c_7 => ?_)
            · exact absurd c_7 (by decide)
            · refine wp_iload_n (pc := 10) 2 dX0_isUnder_10 rfl rfl ?_
              refine wp_iconst (pc := 11) (-1) dX0_isUnder_11 (by decide) ?_
              refine wp_icmp_eq (pc := 12) 33 dX0_isUnder_12 (by decide) (fun c_12 => ?_) (fun c_12 => ?_)
              · exact absurd c_12 (by decide)
              · refine wp_iload_n (pc := 15) 2 dX0_isUnder_15 rfl rfl ?_
                refine wp_iload_n (pc := 16) 1 dX0_isUnder_16 rfl rfl ?_
                refine wp_icmp_ne (pc := 17) 22 dX0_isUnder_17 (by decide) (fun c_17 => ?_) (fun c_17 => ?_)
                · refine wp_iload_n (pc := 22) 2 dX0_isUnder_22 rfl rfl ?_
                  refine wc_S_I (pc := 23) dX0_isUnder_23 lkX0_43 (by decide) (Nat.le_of_ble_eq_true rfl) ?_
                  refine c_X0_kindAbove (w := 0) (by decide) ?_
                  refine wp_istore_n (pc := 26) 2 dX0_isUnder_26 rfl (by decide) rfl ?_
                  refine wp_incN (pc := 27) 3 dX0_isUnder_27 rfl (by decide) rfl ?_
                  refine wp_goto (pc := 30) 4 dX0_isUnder_30 (by decide) ?_
                  refine wp_iload_n (pc := 4) 3 dX0_isUnder_4 rfl rfl ?_
                  refine wp_bipush (pc := 5) (6) dX0_isUnder_5 (by decide) ?_
                  refine wp_icmp_ge (pc := 7) 33 dX0_isUnder_7 (by decide) (fun c_7 => ?_) (fun c_7 => ?_)
                  · exact absurd c_7 (by decide)
                  · refine wp_iload_n (pc := 10) 2 dX0_isUnder_10 rfl rfl ?_
                    refine wp_iconst (pc := 11) (-1) dX0_isUnder_11 (by decide) ?_
                    refine wp_icmp_eq (pc := 12) 33 dX0_isUnder_12 (by decide) (fun c_12 => ?_) (fun c_12 => ?_)
                    · refine wp_iconst (pc := 33) (0) dX0_isUnder_33 (by decide) ?_
                      refine wp_iret (pc := 34) dX0_isUnder_34 ⟨_, rfl, by decide⟩ ?_
                      exact k
                    · exact absurd (by decide) c_12
                · exact absurd c_17 (by decide)
          · exact absurd c_17 (by decide)
    · refine wp_iload_n (pc := 0) 0 dX0_isUnder_0 rfl rfl ?_
      refine wp_istore_n (pc := 1) 2 dX0_isUnder_1 rfl (by decide) rfl ?_
      refine wp_iconst (pc := 2) (0) dX0_isUnder_2 (by decide) ?_
      refine wp_istore_n (pc := 3) 3 dX0_isUnder_3 rfl (by decide) rfl ?_
      refine wp_iload_n (pc := 4) 3 dX0_isUnder_4 rfl rfl ?_
      refine wp_bipush (pc := 5) (6) dX0_isUnder_5 (by decide) ?_
      refine wp_icmp_ge (pc := 7) 33 dX0_isUnder_7 (by decide) (fun c_7 => ?_) (fun c_7 => ?_)
      · exact absurd c_7 (by decide)
      · refine wp_iload_n (pc := 10) 2 dX0_isUnder_10 rfl rfl ?_
        refine wp_iconst (pc := 11) (-1) dX0_isUnder_11 (by decide) ?_
        refine wp_icmp_eq (pc := 12) 33 dX0_isUnder_12 (by decide) (fun c_12 => ?_) (fun c_12 => ?_)
        · exact absurd c_12 (by decide)
        · refine wp_iload_n (pc := 15) 2 dX0_isUnder_15 rfl rfl ?_
          refine wp_iload_n (pc := 16) 1 dX0_isUnder_16 rfl rfl ?_
          refine wp_icmp_ne (pc := 17) 22 dX0_isUnder_17 (by decide) (fun c_17 => ?_) (fun c_17 => ?_)
          · refine wp_iload_n (pc := 22) 2 dX0_isUnder_22 rfl rfl ?_
            refine wc_S_I (pc := 23) dX0_isUnder_23 lkX0_43 (by decide) (Nat.le_of_ble_eq_true rfl) ?_
            refine c_X0_kindAbove (w := 5) (by decide) ?_
            refine wp_istore_n (pc := 26) 2 dX0_isUnder_26 rfl (by decide) rfl ?_
            refine wp_incN (pc := 27) 3 dX0_isUnder_27 rfl (by decide) rfl ?_
            refine wp_goto (pc := 30) 4 dX0_isUnder_30 (by decide) ?_
            refine wp_iload_n (pc := 4) 3 dX0_isUnder_4 rfl rfl ?_
            refine wp_bipush (pc := 5) (6) dX0_isUnder_5 (by decide) ?_
            refine wp_icmp_ge (pc := 7) 33 dX0_isUnder_7 (by decide) (fun c_7 => ?_) (fun c_7 => ?_)
            · exact absurd c_7 (by decide)
            · refine wp_iload_n (pc := 10) 2 dX0_isUnder_10 rfl rfl ?_
              refine wp_iconst (pc := 11) (-1) dX0_isUnder_11 (by decide) ?_
              refine wp_icmp_eq (pc := 12) 33 dX0_isUnder_12 (by decide) (fun c_12 => ?_) (fun c_12 => ?_)
              · exact absurd c_12 (by decide)
              · refine wp_iload_n (pc := 15) 2 dX0_isUnder_15 rfl rfl ?_
                refine wp_iload_n (pc := 16) 1 dX0_isUnder_16 rfl rfl ?_
                refine wp_icmp_ne (pc := 17) 22 dX0_isUnder_17 (by decide) (fun c_17 => ?_) (fun c_17 => ?_)
                · refine wp_iload_n (pc := 22) 2 dX0_isUnder_22 rfl rfl ?_
                  refine wc_S_I (pc := 23) dX0_isUnder_23 lkX0_43 (by decide) (Nat.le_of_ble_eq_true rfl) ?_
                  refine c_X0_kindAbove (w := 0) (by decide) ?_
                  refine wp_istore_n (pc := 26) 2 dX0_isUnder_26 rfl (by decide) rfl ?_
                  refine wp_incN (pc := 27) 3 dX0_isUnder_27 rfl (by decide) rfl ?_
                  refine wp_goto (pc := 30) 4 dX0_isUnder_30 (by decide) ?_
                  refine wp_iload_n (pc := 4) 3 dX0_isUnder_4 rfl rfl ?_
                  refine wp_bipush (pc := 5) (6) dX0_isUnder_5 (by decide) ?_
                  refine wp_icmp_ge (pc := 7) 33 dX0_isUnder_7 (by decide) (fun c_7 => ?_) (fun c_7 => ?_)
                  · exact absurd c_7 (by decide)
                  · refine wp_iload_n (pc := 10) 2 dX0_isUnder_10 rfl rfl ?_
                    refine wp_iconst (pc := 11) (-1) dX0_isUnder_11 (by decide) ?_
                    refine wp_icmp_eq (pc := 12) 33 dX0_isUnder_12 (by decide) (fun c_12 => ?_) (fun c_12 => ?_)
                    · refine wp_iconst (pc := 33) (0) dX0_isUnder_33 (by decide) ?_
                      refine wp_iret (pc := 34) dX0_isUnder_34 ⟨_, rfl, by decide⟩ ?_
                      exact k
                    · exact absurd (by decide) c_12
                · exact absurd c_17 (by decide)
          · exact absurd c_17 (by decide)
    · refine wp_iload_n (pc := 0) 0 dX0_isUnder_0 rfl rfl ?_
      refine wp_istore_n (pc := 1) 2 dX0_isUnder_1 rfl (by decide) rfl ?_
      refine wp_iconst (pc := 2) (0) dX0_isUnder_2 (by decide) ?_
      refine wp_istore_n (pc := 3) 3 dX0_isUnder_3 rfl (by decide) rfl ?_
      refine wp_iload_n (pc := 4) 3 dX0_isUnder_4 rfl rfl ?_
      refine wp_bipush (pc := 5) (6) dX0_isUnder_5 (by decide) ?_
      refine wp_icmp_ge (pc := 7) 33 dX0_isUnder_7 (by decide) (fun c_7 => ?_) (fun c_7 => ?_)
      · exact absurd c_7 (by decide)
      · refine wp_iload_n (pc := 10) 2 dX0_isUnder_10 rfl rfl ?_
        refine wp_iconst (pc := 11) (-1) dX0_isUnder_11 (by decide) ?_
        refine wp_icmp_eq (pc := 12) 33 dX0_isUnder_12 (by decide) (fun c_12 => ?_) (fun c_12 => ?_)
        · exact absurd c_12 (by decide)
        · refine wp_iload_n (pc := 15) 2 dX0_isUnder_15 rfl rfl ?_
          refine wp_iload_n (pc := 16) 1 dX0_isUnder_16 rfl rfl ?_
          refine wp_icmp_ne (pc := 17) 22 dX0_isUnder_17 (by decide) (fun c_17 => ?_) (fun c_17 => ?_)
          · exact absurd (by decide) c_17
          · refine wp_iconst (pc := 20) (1) dX0_isUnder_20 (by decide) ?_
            refine wp_iret (pc := 21) dX0_isUnder_21 ⟨_, rfl, by decide⟩ ?_
            exact k
