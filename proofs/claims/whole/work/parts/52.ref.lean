/-! ===== the reference: what stands in its row ===== -/
theorem Rw.at {k : Nat} {f : rw_} {I : Nat → Nat → Int32} (h : Rw k f I) {j : Nat} (hj : j < 74) : I k j = nI (f j) := h j hj
theorem or0 (a : Nat) : nI a ||| 0 = nI a := (bt_or a 0).trans (by rw [Nat.or_zero])
theorem add0 (a : Nat) : nI a + 0 = nI a := nI_add a 0
theorem bn_at {f : rw_} (h : WF f) {i : Nat} (hi : i < f 68) : (bn f).testBit i = decide (f (5 * i + 3) = 1) := by rw [bn_bit h, decide_eq_true hi, Bool.true_and]
theorem bt_xr (a b : Nat) : nI a ^^^ nI b = nI (a ^^^ b) := bt_xor a b
theorem ix5 (i v : Nat) : (5 : Int32) * nI i + nI v = nI (5 * i + v) := by rw [show (5 : Int32) = nI 5 from rfl, pk_mul, nI_add]
theorem ix3 (r : Nat) : (50 : Int32) + 3 * nI r = nI (50 + 3 * r) := by rw [show (3 : Int32) = nI 3 from rfl, show (50 : Int32) = nI 50 from rfl, pk_mul, nI_add]
section DUP
variable {M : sm_M} {d mc ms pc : Nat} {lv st : List Value} {h : sm_H} {Q : Option Value → sm_H → Prop}
theorem wp_dup2 {v u : Value} (hdg : decode M.2.1 pc = .ok (.dup2, 1)) (hv : v.category = 1) (hu : u.category = 1)
    (k : Wp M d mc ms (pc + 1) lv (v :: u :: v :: u :: st) h Q) : Wp M d mc ms pc lv (v :: u :: st) h Q := by
  intro X p l e_ R s m args below meth c H locs cells slots QQ ls F hP hS hL hk
  exact lv_dup2_11 F.1 F.2.1 hdg ((sm_v_cat X v).trans hv) ((sm_v_cat X u).trans hu) (k X p l e_ R s m args below meth c H locs cells slots QQ ls F hP hS hL hk)
theorem wp_icmp_ne1 {c : Bool} {off : Int} (tgt : Nat) (hdg : decode M.2.1 pc = .ok (.if_icmp .ne off, 3)) (ht : (pc : Int) + off = (tgt : Int)) (kt : c = false → Wp M d mc ms tgt lv st h Q) (kf : c = true → Wp M d mc ms (pc + 3) lv st h Q) : Wp M d mc ms pc lv (.int 1 :: .int (b2 c) :: st) h Q :=
  wp_icmp_ne tgt hdg ht (fun z => kt (by cases c; rfl; exact absurd rfl z)) (fun z => kf (b2_1.mp z))
theorem wp_icmp_eq1 {c : Bool} {off : Int} (tgt : Nat) (hdg : decode M.2.1 pc = .ok (.if_icmp .eq off, 3)) (ht : (pc : Int) + off = (tgt : Int)) (kt : c = true → Wp M d mc ms tgt lv st h Q) (kf : c = false → Wp M d mc ms (pc + 3) lv st h Q) : Wp M d mc ms pc lv (.int 1 :: .int (b2 c) :: st) h Q :=
  wp_icmp_eq tgt hdg ht (fun z => kt (b2_1.mp z)) (fun z => kf (by cases c; rfl; exact absurd rfl z))
end DUP
theorem c_X7_many {d : Nat} {F I : Nat → Nat → Int32} {J : Nat → Nat → Int64} {Q : Option Value → sm_H → Prop} {f : rw_} (hw : WF f) (hR : Rw 41 f I)  (k : Q (some (.int (nI (f 68)))) (S0, F, I, J)) : Wp mX7_many (d) 0 0 0 (sm_ini [.ref 40] 1) [] (S0, F, I, J) Q := by
  show Wp _ _ _ _ _ [.ref 40] _ _ _
  refine wp_aload_n (pc := 0) 0 dX7_many_0 rfl rfl ?_
  refine wq_getR (pc := 1) 13 0 dX7_many_1 s0_40 flX7_13 rfl rfl (by decide) (by decide) ?_
  refine wp_bipush (pc := 4) (68) dX7_many_4 (by decide) ?_
  refine wq_iald (pc := 6) 68 dX7_many_6 s0_41 (by decide) rfl (by decide) (by decide) ?_
  refine wp_int (hR.at (by decide)) ?_
  refine wp_iretI (pc := 7) dX7_many_7 rfl ?_
  exact k
theorem c_X7_of {d : Nat} {F I : Nat → Nat → Int32} {J : Nat → Nat → Int64} {Q : Option Value → sm_H → Prop} {f : rw_} (hw : WF f) (hR : Rw 41 f I) {i w : Nat} (h : 5 * i + w < 74) (k : Q (some (.int (nI (f (5 * i + w))))) (S0, F, I, J)) : Wp mX7_of (d) 0 0 0 (sm_ini [.ref 40, .int (nI i), .int (nI w)] 3) [] (S0, F, I, J) Q := by
  show Wp _ _ _ _ _ [.ref 40, .int (nI i), .int (nI w)] _ _ _
  refine wp_aload_n (pc := 0) 0 dX7_of_0 rfl rfl ?_
  refine wq_getR (pc := 1) 13 0 dX7_of_1 s0_40 flX7_13 rfl rfl (by decide) (by decide) ?_
  refine wp_iconst (pc := 4) (5) dX7_of_4 (by decide) ?_
  refine wp_iload_n (pc := 5) 1 dX7_of_5 rfl rfl ?_
  refine wp_imul (pc := 6) dX7_of_6 ?_
  refine wp_iload_n (pc := 7) 2 dX7_of_7 rfl rfl ?_
  refine wp_iadd (pc := 8) dX7_of_8 ?_
  refine wq_iald (pc := 9) (5 * i + w) dX7_of_9 s0_41 (by decide) (ix5 i w) h (by decide) ?_
  refine wp_int (hR.at h) ?_
  refine wp_iretI (pc := 10) dX7_of_10 rfl ?_
  exact k
theorem c_X7_isThing {d : Nat} {F I : Nat → Nat → Int32} {J : Nat → Nat → Int64} {Q : Option Value → sm_H → Prop} {f : rw_} (hw : WF f) (hR : Rw 41 f I) {x : Int32} (k : Q (some (.int (b2 (decide (0 ≤ x ∧ x < nI (f 68)))))) (S0, F, I, J)) : Wp mX7_isThing (d + 1) 0 0 0 (sm_ini [.ref 40, .int x] 2) [] (S0, F, I, J) Q := by
  show Wp _ _ _ _ _ [.ref 40, .int x] _ _ _
  have hn := hw.n
  refine wp_iload_n (pc := 0) 1 dX7_isThing_0 rfl rfl ?_
  refine wp_iconst (pc := 1) (0) dX7_isThing_1 (by decide) ?_
  refine wp_aload_n (pc := 2) 0 dX7_isThing_2 rfl rfl ?_
  refine wq_getR (pc := 3) 13 0 dX7_isThing_3 s0_40 flX7_13 rfl rfl (by decide) (by decide) ?_
  refine wp_bipush (pc := 6) (68) dX7_isThing_6 (by decide) ?_
  refine wq_iald (pc := 8) 68 dX7_isThing_8 s0_41 (by decide) rfl (by decide) (by decide) ?_
  refine wp_int (hR.at (by decide)) ?_
  refine wp_iconst (pc := 9) (1) dX7_isThing_9 (by decide) ?_
  refine wp_isub (pc := 10) dX7_isThing_10 ?_
  refine wc_S_III (pc := 11) dX7_isThing_11 lkX7_49 (by decide) (Nat.le_of_ble_eq_true rfl) ?_
  refine c_X7_isIn ?_
  refine wp_int (y := b2 (decide (0 ≤ x ∧ x < nI (f 68)))) (congrArg b2 (decide_eq_decide.mpr (i32_pred (by omega)))) ?_
  refine wp_iretB (pc := 14) dX7_isThing_14 rfl ?_
  exact k
theorem c_X7_isRinger {d : Nat} {F I : Nat → Nat → Int32} {J : Nat → Nat → Int64} {Q : Option Value → sm_H → Prop} {f : rw_} (hw : WF f) (hR : Rw 41 f I) {x : Int32} (k : Q (some (.int (b2 (decide (0 ≤ x ∧ x < nI (f 69)))))) (S0, F, I, J)) : Wp mX7_isRinger (d + 1) 0 0 0 (sm_ini [.ref 40, .int x] 2) [] (S0, F, I, J) Q := by
  show Wp _ _ _ _ _ [.ref 40, .int x] _ _ _
  have hn := hw.c
  refine wp_iload_n (pc := 0) 1 dX7_isRinger_0 rfl rfl ?_
  refine wp_iconst (pc := 1) (0) dX7_isRinger_1 (by decide) ?_
  refine wp_aload_n (pc := 2) 0 dX7_isRinger_2 rfl rfl ?_
  refine wq_getR (pc := 3) 13 0 dX7_isRinger_3 s0_40 flX7_13 rfl rfl (by decide) (by decide) ?_
  refine wp_bipush (pc := 6) (69) dX7_isRinger_6 (by decide) ?_
  refine wq_iald (pc := 8) 69 dX7_isRinger_8 s0_41 (by decide) rfl (by decide) (by decide) ?_
  refine wp_int (hR.at (by decide)) ?_
  refine wp_iconst (pc := 9) (1) dX7_isRinger_9 (by decide) ?_
  refine wp_isub (pc := 10) dX7_isRinger_10 ?_
  refine wc_S_III (pc := 11) dX7_isRinger_11 lkX7_49 (by decide) (Nat.le_of_ble_eq_true rfl) ?_
  refine c_X7_isIn ?_
  refine wp_int (y := b2 (decide (0 ≤ x ∧ x < nI (f 69)))) (congrArg b2 (decide_eq_decide.mpr (i32_pred (by omega)))) ?_
  refine wp_iretB (pc := 14) dX7_isRinger_14 rfl ?_
  exact k
theorem c_X7_areThings {d : Nat} {F I : Nat → Nat → Int32} {J : Nat → Nat → Int64} {Q : Option Value → sm_H → Prop} {f : rw_} (hw : WF f) (hR : Rw 41 f I) {x : Int32} (k : Q (some (.int (b2 (decide (0 ≤ x ∧ x < nI (2 ^ f 68)))))) (S0, F, I, J)) : Wp mX7_areThings (d) 0 0 0 (sm_ini [.ref 40, .int x] 2) [] (S0, F, I, J) Q := by
  show Wp _ _ _ _ _ [.ref 40, .int x] _ _ _
  have hn := hw.n
  refine wp_iload_n (pc := 0) 1 dX7_areThings_0 rfl rfl ?_
  refine wp_iflt (pc := 1) 21 dX7_areThings_1 (by decide) (fun c_1 => ?_) (fun c_1 => ?_)
  · refine wp_iconst (pc := 21) (0) dX7_areThings_21 (by decide) ?_
    refine wp_iret (pc := 22) dX7_areThings_22 ⟨_, rfl, by decide⟩ ?_
    rw [decide_eq_false (fun z => absurd c_1 (i32_nlt.mpr z.1))] at k; exact k
  · refine wp_iload_n (pc := 4) 1 dX7_areThings_4 rfl rfl ?_
    refine wp_iconst (pc := 5) (1) dX7_areThings_5 (by decide) ?_
    refine wp_aload_n (pc := 6) 0 dX7_areThings_6 rfl rfl ?_
    refine wq_getR (pc := 7) 13 0 dX7_areThings_7 s0_40 flX7_13 rfl rfl (by decide) (by decide) ?_
    refine wp_bipush (pc := 10) (68) dX7_areThings_10 (by decide) ?_
    refine wq_iald (pc := 12) 68 dX7_areThings_12 s0_41 (by decide) rfl (by decide) (by decide) ?_
    refine wp_int (hR.at (by decide)) ?_
    refine wp_ishl (pc := 13) dX7_areThings_13 ?_
    refine wp_int (bt_one (by omega)) ?_
    refine wp_icmp_ge (pc := 14) 21 dX7_areThings_14 (by decide) (fun c_14 => ?_) (fun c_14 => ?_)
    · refine wp_iconst (pc := 21) (0) dX7_areThings_21 (by decide) ?_
      refine wp_iret (pc := 22) dX7_areThings_22 ⟨_, rfl, by decide⟩ ?_
      rw [decide_eq_false (fun z => absurd z.2 (i32_nlt.mpr c_14))] at k; exact k
    · refine wp_iconst (pc := 17) (1) dX7_areThings_17 (by decide) ?_
      refine wp_goto (pc := 18) 22 dX7_areThings_18 (by decide) ?_
      refine wp_iret (pc := 22) dX7_areThings_22 ⟨_, rfl, by decide⟩ ?_
      rw [decide_eq_true ⟨i32_nlt.mp c_1, i32_nle.mp c_14⟩] at k; exact k
theorem c_X7_areRingers {d : Nat} {F I : Nat → Nat → Int32} {J : Nat → Nat → Int64} {Q : Option Value → sm_H → Prop} {f : rw_} (hw : WF f) (hR : Rw 41 f I) {x : Int32} (k : Q (some (.int (b2 (decide (0 ≤ x ∧ x < nI (2 ^ f 69)))))) (S0, F, I, J)) : Wp mX7_areRingers (d) 0 0 0 (sm_ini [.ref 40, .int x] 2) [] (S0, F, I, J) Q := by
  show Wp _ _ _ _ _ [.ref 40, .int x] _ _ _
  have hn := hw.c
  refine wp_iload_n (pc := 0) 1 dX7_areRingers_0 rfl rfl ?_
  refine wp_iflt (pc := 1) 21 dX7_areRingers_1 (by decide) (fun c_1 => ?_) (fun c_1 => ?_)
  · refine wp_iconst (pc := 21) (0) dX7_areRingers_21 (by decide) ?_
    refine wp_iret (pc := 22) dX7_areRingers_22 ⟨_, rfl, by decide⟩ ?_
    rw [decide_eq_false (fun z => absurd c_1 (i32_nlt.mpr z.1))] at k; exact k
  · refine wp_iload_n (pc := 4) 1 dX7_areRingers_4 rfl rfl ?_
    refine wp_iconst (pc := 5) (1) dX7_areRingers_5 (by decide) ?_
    refine wp_aload_n (pc := 6) 0 dX7_areRingers_6 rfl rfl ?_
    refine wq_getR (pc := 7) 13 0 dX7_areRingers_7 s0_40 flX7_13 rfl rfl (by decide) (by decide) ?_
    refine wp_bipush (pc := 10) (69) dX7_areRingers_10 (by decide) ?_
    refine wq_iald (pc := 12) 69 dX7_areRingers_12 s0_41 (by decide) rfl (by decide) (by decide) ?_
    refine wp_int (hR.at (by decide)) ?_
    refine wp_ishl (pc := 13) dX7_areRingers_13 ?_
    refine wp_int (bt_one (by omega)) ?_
    refine wp_icmp_ge (pc := 14) 21 dX7_areRingers_14 (by decide) (fun c_14 => ?_) (fun c_14 => ?_)
    · refine wp_iconst (pc := 21) (0) dX7_areRingers_21 (by decide) ?_
      refine wp_iret (pc := 22) dX7_areRingers_22 ⟨_, rfl, by decide⟩ ?_
      rw [decide_eq_false (fun z => absurd z.2 (i32_nlt.mpr c_14))] at k; exact k
    · refine wp_iconst (pc := 17) (1) dX7_areRingers_17 (by decide) ?_
      refine wp_goto (pc := 18) 22 dX7_areRingers_18 (by decide) ?_
      refine wp_iret (pc := 22) dX7_areRingers_22 ⟨_, rfl, by decide⟩ ?_
      rw [decide_eq_true ⟨i32_nlt.mp c_1, i32_nle.mp c_14⟩] at k; exact k
theorem c_X7_isOpen {d : Nat} {F I : Nat → Nat → Int32} {J : Nat → Nat → Int64} {Q : Option Value → sm_H → Prop} {f : rw_} (hw : WF f) (hR : Rw 41 f I) {i : Nat} (hi : i < 2 ^ 31) (k : Q (some (.int (b2 (opn f i)))) (S0, F, I, J)) : Wp mX7_isOpen (d) 0 0 0 (sm_ini [.ref 40, .int (nI i)] 2) [] (S0, F, I, J) Q := by
  show Wp _ _ _ _ _ [.ref 40, .int (nI i)] _ _ _
  have hc := hw.crk
  have hm := Nat.mod_lt i (show 8 > 0 by decide)
  refine wp_aload_n (pc := 0) 0 dX7_isOpen_0 rfl rfl ?_
  refine wq_getR (pc := 1) 13 0 dX7_isOpen_1 s0_40 flX7_13 rfl rfl (by decide) (by decide) ?_
  refine wp_bipush (pc := 4) (72) dX7_isOpen_4 (by decide) ?_
  refine wq_iald (pc := 6) 72 dX7_isOpen_6 s0_41 (by decide) rfl (by decide) (by decide) ?_
  refine wp_int (hR.at (by decide)) ?_
  refine wp_iload_n (pc := 7) 1 dX7_isOpen_7 rfl rfl ?_
  refine wp_bipush (pc := 8) (8) dX7_isOpen_8 (by decide) ?_
  refine wp_irem (pc := 10) dX7_isOpen_10 (by decide) ?_
  refine wp_int (rem8 hi) ?_
  refine wp_ishr (pc := 11) dX7_isOpen_11 ?_
  refine wp_iconst (pc := 12) (1) dX7_isOpen_12 (by decide) ?_
  refine wp_iand (pc := 13) dX7_isOpen_13 ?_
  refine wp_int (bt_bit (by omega) (by omega)) ?_
  refine wp_ifneB (pc := 14) 21 dX7_isOpen_14 (by decide) (fun c_14 => ?_) (fun c_14 => ?_)
  · refine wp_iconst (pc := 21) (0) dX7_isOpen_21 (by decide) ?_
    refine wp_iret (pc := 22) dX7_isOpen_22 ⟨_, rfl, by decide⟩ ?_
    rw [show opn f i = false by simp [opn, c_14]] at k; exact k
  · refine wp_iconst (pc := 17) (1) dX7_isOpen_17 (by decide) ?_
    refine wp_goto (pc := 18) 22 dX7_isOpen_18 (by decide) ?_
    refine wp_iret (pc := 22) dX7_isOpen_22 ⟨_, rfl, by decide⟩ ?_
    rw [show opn f i = true by simp [opn, c_14]] at k; exact k
theorem c_X7_may {d : Nat} {F I : Nat → Nat → Int32} {J : Nat → Nat → Int64} {Q : Option Value → sm_H → Prop} {f : rw_} (hw : WF f) (hR : Rw 41 f I) {i : Nat} (hi : i < f 68) (k : Q (some (.int (nI (may f i)))) (S0, F, I, J)) : Wp mX7_may (d + 1) 0 0 0 (sm_ini [.ref 40, .int (nI i)] 2) [] (S0, F, I, J) Q := by
  show Wp _ _ _ _ _ [.ref 40, .int (nI i)] _ _ _
  have hn := hw.n
  have hb := hw.been (i := i) (by omega)
  have hr := hw.rung (i := i) (by omega)
  have hh := hw.wth
  have hbi := bn_at hw hi
  refine wp_aload_n (pc := 0) 0 dX7_may_0 rfl rfl ?_
  refine wp_iload_n (pc := 1) 1 dX7_may_1 rfl rfl ?_
  refine wc_V_I (pc := 2) dX7_may_2 lkX7_61 (sm_Rc.o (ci := 6) s0_40 (by decide) (by decide)) (by decide) (Nat.le_of_ble_eq_true rfl) ?_
  refine c_X7_isOpen hw hR (by omega) ?_
  refine wp_ifneB (pc := 5) 12 dX7_may_5 (by decide) (fun c_5 => ?_) (fun c_5 => ?_)
  · refine wp_aload_n (pc := 12) 0 dX7_may_12 rfl rfl ?_
    refine wp_iload_n (pc := 13) 1 dX7_may_13 rfl rfl ?_
    refine wp_iconst (pc := 14) (3) dX7_may_14 (by decide) ?_
    refine wc_V_II (pc := 15) dX7_may_15 lkX7_53 (sm_Rc.o (ci := 6) s0_40 (by decide) (by decide)) (by decide) (Nat.le_of_ble_eq_true rfl) ?_
    refine c_X7_of (w := 3) hw hR (by omega) ?_
    refine wp_ifne (pc := 18) 25 dX7_may_18 (by decide) (fun c_18 => ?_) (fun c_18 => ?_)
    · refine wp_aload_n (pc := 25) 0 dX7_may_25 rfl rfl ?_
      refine wp_iload_n (pc := 26) 1 dX7_may_26 rfl rfl ?_
      refine wp_iconst (pc := 27) (1) dX7_may_27 (by decide) ?_
      refine wc_V_II (pc := 28) dX7_may_28 lkX7_53 (sm_Rc.o (ci := 6) s0_40 (by decide) (by decide)) (by decide) (Nat.le_of_ble_eq_true rfl) ?_
      refine c_X7_of (w := 1) hw hR (by omega) ?_
      refine wp_aload_n (pc := 31) 0 dX7_may_31 rfl rfl ?_
      refine wq_getR (pc := 32) 13 0 dX7_may_32 s0_40 flX7_13 rfl rfl (by decide) (by decide) ?_
      refine wp_bipush (pc := 35) (70) dX7_may_35 (by decide) ?_
      refine wq_iald (pc := 37) 70 dX7_may_37 s0_41 (by decide) rfl (by decide) (by decide) ?_
      refine wp_int (hR.at (by decide)) ?_
      refine wp_icmp_ne (pc := 38) 45 dX7_may_38 (by decide) (fun c_38 => ?_) (fun c_38 => ?_)
      · refine wp_iconst (pc := 45) (0) dX7_may_45 (by decide) ?_
        refine wp_iretI (pc := 46) dX7_may_46 rfl ?_
        rw [show may f i = 0 by simp [may, c_5, hbi, show f (5 * i + 3) = 1 by have : ¬ f (5 * i + 3) = 0 := fun z => c_18 (by rw [z]; rfl); omega, show ¬ f (5 * i + 1) = f 70 from fun z => c_38 (by rw [z])]] at k; exact k
      · refine wp_iconst (pc := 41) (1) dX7_may_41 (by decide) ?_
        refine wp_goto (pc := 42) 46 dX7_may_42 (by decide) ?_
        refine wp_iretI (pc := 46) dX7_may_46 rfl ?_
        rw [show may f i = 1 by simp [may, c_5, hbi, show f (5 * i + 3) = 1 by have : ¬ f (5 * i + 3) = 0 := fun z => c_18 (by rw [z]; rfl); omega, (nI_eq (by omega) (by omega)).mp c_38]] at k; exact k
    · refine wp_iconst (pc := 21) (2) dX7_may_21 (by decide) ?_
      refine wp_goto (pc := 22) 46 dX7_may_22 (by decide) ?_
      refine wp_iretI (pc := 46) dX7_may_46 rfl ?_
      rw [show may f i = 2 by simp [may, c_5, hbi, (nI0 (by omega)).mp c_18]] at k; exact k
  · refine wp_iconst (pc := 8) (0) dX7_may_8 (by decide) ?_
    refine wp_goto (pc := 9) 46 dX7_may_9 (by decide) ?_
    refine wp_iretI (pc := 46) dX7_may_46 rfl ?_
    rw [show may f i = 0 by simp [may, c_5]] at k; exact k
theorem c_X7_been {d : Nat} {F I : Nat → Nat → Int32} {J : Nat → Nat → Int64} {Q : Option Value → sm_H → Prop} {f : rw_} (hw : WF f) (hR : Rw 41 f I)  (k : Q (some (.int (nI (bn f)))) (S0, F, I, J)) : Wp mX7_been (d + 1) 0 0 0 (sm_ini [.ref 40] 3) [] (S0, F, I, J) Q := by
  show Wp _ _ _ _ _ [.ref 40, .null, .null] _ _ _
  refine wp_iconst (pc := 0) (0) dX7_been_0 (by decide) ?_
  refine wp_istore_n (pc := 1) 1 dX7_been_1 rfl (by decide) rfl ?_
  refine wp_iconst (pc := 2) (0) dX7_been_2 (by decide) ?_
  refine wp_istore_n (pc := 3) 2 dX7_been_3 rfl (by decide) rfl ?_
  refine wp_loop (fun i => [.ref 40, .int (nI (bnU f i)), .int (nI i)]) (fun i => (S0, F, I, J)) (fun i => True) (f 68) (fun i hi hv nx => ?_) (fun hv => ?_) 0 (by omega) trivial
  · have hn := hw.n
    have hb1 := hw.been (i := i) (by omega)
    have hp := p2_lt (show i < 10 by omega)
    refine wp_iload_n (pc := 4) 2 dX7_been_4 rfl rfl ?_
    refine wp_aload_n (pc := 5) 0 dX7_been_5 rfl rfl ?_
    refine wc_V_ (pc := 6) dX7_been_6 lkX7_57 (sm_Rc.o (ci := 6) s0_40 (by decide) (by decide)) (by decide) (Nat.le_of_ble_eq_true rfl) ?_
    refine c_X7_many hw hR ?_
    refine wp_icmp_ge (pc := 9) 29 dX7_been_9 (by decide) (fun c_9 => ?_) (fun c_9 => ?_)
    · exact absurd c_9 (nI_ge (b := f 68) hi (by omega))
    · refine wp_iload_n (pc := 12) 1 dX7_been_12 rfl rfl ?_
      refine wp_aload_n (pc := 13) 0 dX7_been_13 rfl rfl ?_
      refine wp_iload_n (pc := 14) 2 dX7_been_14 rfl rfl ?_
      refine wp_iconst (pc := 15) (3) dX7_been_15 (by decide) ?_
      refine wc_V_II (pc := 16) dX7_been_16 lkX7_53 (sm_Rc.o (ci := 6) s0_40 (by decide) (by decide)) (by decide) (Nat.le_of_ble_eq_true rfl) ?_
      refine c_X7_of (w := 3) hw hR (by omega) ?_
      refine wp_iload_n (pc := 19) 2 dX7_been_19 rfl rfl ?_
      refine wp_ishl (pc := 20) dX7_been_20 ?_
      refine wp_int (bt_shl (by omega) (Nat.lt_of_le_of_lt (Nat.mul_le_mul_right _ hb1) (by omega))) ?_
      refine wp_ior (pc := 21) dX7_been_21 ?_
      refine wp_int (bt_or _ _) ?_
      refine wp_istore_n (pc := 22) 1 dX7_been_22 rfl (by decide) rfl ?_
      refine wp_incN (pc := 23) 2 dX7_been_23 rfl (by decide) rfl ?_
      refine wp_goto (pc := 26) 4 dX7_been_26 (by decide) ?_
      have nx := nx trivial
      rw [bnU] at nx
      exact nx
  · refine wp_iload_n (pc := 4) 2 dX7_been_4 rfl rfl ?_
    refine wp_aload_n (pc := 5) 0 dX7_been_5 rfl rfl ?_
    refine wc_V_ (pc := 6) dX7_been_6 lkX7_57 (sm_Rc.o (ci := 6) s0_40 (by decide) (by decide)) (by decide) (Nat.le_of_ble_eq_true rfl) ?_
    refine c_X7_many hw hR ?_
    refine wp_icmp_ge (pc := 9) 29 dX7_been_9 (by decide) (fun c_9 => ?_) (fun c_9 => ?_)
    · refine wp_iload_n (pc := 29) 1 dX7_been_29 rfl rfl ?_
      refine wp_iretI (pc := 30) dX7_been_30 rfl ?_
      rw [bnU_n hw]; exact k
    · exact absurd (Int32.le_refl _) c_9
theorem c_X7_standsBy {d : Nat} {F I : Nat → Nat → Int32} {J : Nat → Nat → Int64} {Q : Option Value → sm_H → Prop} {f : rw_} (hw : WF f) (hR : Rw 41 f I) {b : Nat} (hb : b < 2 ^ f 68) (k : Q (some (.int (nI (sta f b)))) (S0, F, I, J)) : Wp mX7_standsBy (d + 1) 0 0 0 (sm_ini [.ref 40, .int (nI b)] 4) [] (S0, F, I, J) Q := by
  show Wp _ _ _ _ _ [.ref 40, .int (nI b), .null, .null] _ _ _
  refine wp_iconst (pc := 0) (0) dX7_standsBy_0 (by decide) ?_
  refine wp_istore_n (pc := 1) 2 dX7_standsBy_1 rfl (by decide) rfl ?_
  refine wp_iconst (pc := 2) (0) dX7_standsBy_2 (by decide) ?_
  refine wp_istore_n (pc := 3) 3 dX7_standsBy_3 rfl (by decide) rfl ?_
  refine wp_loop (fun i => [.ref 40, .int (nI b), .int (nI (stU f b i)), .int (nI i)]) (fun i => (S0, F, I, J)) (fun i => True) (f 68) (fun i hi hv nx => ?_) (fun hv => ?_) 0 (by omega) trivial
  · have hn := hw.n
    have hp2 := p2n hw
    have hs := stU_1024 f b (show i ≤ 10 by omega)
    have hO := hw.on10 (i := i) (by omega)
    refine wp_iload_n (pc := 4) 3 dX7_standsBy_4 rfl rfl ?_
    refine wp_aload_n (pc := 5) 0 dX7_standsBy_5 rfl rfl ?_
    refine wc_V_ (pc := 6) dX7_standsBy_6 lkX7_57 (sm_Rc.o (ci := 6) s0_40 (by decide) (by decide)) (by decide) (Nat.le_of_ble_eq_true rfl) ?_
    refine c_X7_many hw hR ?_
    refine wp_icmp_ge (pc := 9) 50 dX7_standsBy_9 (by decide) (fun c_9 => ?_) (fun c_9 => ?_)
    · exact absurd c_9 (nI_ge (b := f 68) hi (by omega))
    · refine wp_iload_n (pc := 12) 2 dX7_standsBy_12 rfl rfl ?_
      refine wp_iload_n (pc := 13) 1 dX7_standsBy_13 rfl rfl ?_
      refine wp_iload_n (pc := 14) 3 dX7_standsBy_14 rfl rfl ?_
      refine wp_ishr (pc := 15) dX7_standsBy_15 ?_
      refine wp_iconst (pc := 16) (1) dX7_standsBy_16 (by decide) ?_
      refine wp_iand (pc := 17) dX7_standsBy_17 ?_
      refine wp_int (bt_bit (by omega) (by omega)) ?_
      refine wp_iconst (pc := 18) (1) dX7_standsBy_18 (by decide) ?_
      refine wp_icmp_ne1 (pc := 19) 41 dX7_standsBy_19 (by decide) (fun c_19 => ?_) (fun c_19 => ?_)
      · refine wp_iconst (pc := 41) (0) dX7_standsBy_41 (by decide) ?_
        refine wp_ior (pc := 42) dX7_standsBy_42 ?_
        refine wp_int (or0 _) ?_
        refine wp_istore_n (pc := 43) 2 dX7_standsBy_43 rfl (by decide) rfl ?_
        refine wp_incN (pc := 44) 3 dX7_standsBy_44 rfl (by decide) rfl ?_
        refine wp_goto (pc := 47) 4 dX7_standsBy_47 (by decide) ?_
        have nx := nx trivial
        rw [stU_f c_19] at nx
        exact nx
      · refine wp_aload_n (pc := 22) 0 dX7_standsBy_22 rfl rfl ?_
        refine wp_iload_n (pc := 23) 3 dX7_standsBy_23 rfl rfl ?_
        refine wp_iconst (pc := 24) (2) dX7_standsBy_24 (by decide) ?_
        refine wc_V_II (pc := 25) dX7_standsBy_25 lkX7_53 (sm_Rc.o (ci := 6) s0_40 (by decide) (by decide)) (by decide) (Nat.le_of_ble_eq_true rfl) ?_
        refine c_X7_of (w := 2) hw hR (by omega) ?_
        refine wp_iload_n (pc := 28) 2 dX7_standsBy_28 rfl rfl ?_
        refine wp_iconst (pc := 29) (-1) dX7_standsBy_29 (by decide) ?_
        refine wp_ixor (pc := 30) dX7_standsBy_30 ?_
        refine wp_iand (pc := 31) dX7_standsBy_31 ?_
        refine wp_int (bt_dif _ _) ?_
        refine wp_ifne (pc := 32) 41 dX7_standsBy_32 (by decide) (fun c_32 => ?_) (fun c_32 => ?_)
        · refine wp_iconst (pc := 41) (0) dX7_standsBy_41 (by decide) ?_
          refine wp_ior (pc := 42) dX7_standsBy_42 ?_
          refine wp_int (or0 _) ?_
          refine wp_istore_n (pc := 43) 2 dX7_standsBy_43 rfl (by decide) rfl ?_
          refine wp_incN (pc := 44) 3 dX7_standsBy_44 rfl (by decide) rfl ?_
          refine wp_goto (pc := 47) 4 dX7_standsBy_47 (by decide) ?_
          have nx := nx trivial
          rw [stU_f2 (fun z => c_32 (by rw [z]; rfl))] at nx
          exact nx
        · refine wp_iconst (pc := 35) (1) dX7_standsBy_35 (by decide) ?_
          refine wp_iload_n (pc := 36) 3 dX7_standsBy_36 rfl rfl ?_
          refine wp_ishl (pc := 37) dX7_standsBy_37 ?_
          refine wp_goto (pc := 38) 42 dX7_standsBy_38 (by decide) ?_
          refine wp_int (bt_one (by omega)) ?_
          refine wp_ior (pc := 42) dX7_standsBy_42 ?_
          refine wp_int (bt_or _ _) ?_
          refine wp_istore_n (pc := 43) 2 dX7_standsBy_43 rfl (by decide) rfl ?_
          refine wp_incN (pc := 44) 3 dX7_standsBy_44 rfl (by decide) rfl ?_
          refine wp_goto (pc := 47) 4 dX7_standsBy_47 (by decide) ?_
          have nx := nx trivial
          rw [stU, if_pos ⟨c_19, (nI0 (Nat.lt_trans (dif_le _ _ (n := 10) hO) (by decide))).mp c_32⟩] at nx
          exact nx
  · refine wp_iload_n (pc := 4) 3 dX7_standsBy_4 rfl rfl ?_
    refine wp_aload_n (pc := 5) 0 dX7_standsBy_5 rfl rfl ?_
    refine wc_V_ (pc := 6) dX7_standsBy_6 lkX7_57 (sm_Rc.o (ci := 6) s0_40 (by decide) (by decide)) (by decide) (Nat.le_of_ble_eq_true rfl) ?_
    refine c_X7_many hw hR ?_
    refine wp_icmp_ge (pc := 9) 50 dX7_standsBy_9 (by decide) (fun c_9 => ?_) (fun c_9 => ?_)
    · refine wp_iload_n (pc := 50) 2 dX7_standsBy_50 rfl rfl ?_
      refine wp_iretI (pc := 51) dX7_standsBy_51 rfl ?_
      rw [← sta_of hb hw.n]; exact k
    · exact absurd (Int32.le_refl _) c_9
theorem c_X7_worthOf {d : Nat} {F I : Nat → Nat → Int32} {J : Nat → Nat → Int64} {Q : Option Value → sm_H → Prop} {f : rw_} (hw : WF f) (hR : Rw 41 f I) {b : Nat} (hb : b < 2 ^ f 68) (k : Q (some (.int (nI (vlU f b 10)))) (S0, F, I, J)) : Wp mX7_worthOf (d + 1) 0 0 0 (sm_ini [.ref 40, .int (nI b)] 4) [] (S0, F, I, J) Q := by
  show Wp _ _ _ _ _ [.ref 40, .int (nI b), .null, .null] _ _ _
  refine wp_iconst (pc := 0) (0) dX7_worthOf_0 (by decide) ?_
  refine wp_istore_n (pc := 1) 2 dX7_worthOf_1 rfl (by decide) rfl ?_
  refine wp_iconst (pc := 2) (0) dX7_worthOf_2 (by decide) ?_
  refine wp_istore_n (pc := 3) 3 dX7_worthOf_3 rfl (by decide) rfl ?_
  refine wp_loop (fun i => [.ref 40, .int (nI b), .int (nI (vlU f b i)), .int (nI i)]) (fun i => (S0, F, I, J)) (fun i => True) (f 68) (fun i hi hv nx => ?_) (fun hv => ?_) 0 (by omega) trivial
  · have hn := hw.n
    have hp2 := p2n hw
    refine wp_iload_n (pc := 4) 3 dX7_worthOf_4 rfl rfl ?_
    refine wp_aload_n (pc := 5) 0 dX7_worthOf_5 rfl rfl ?_
    refine wc_V_ (pc := 6) dX7_worthOf_6 lkX7_57 (sm_Rc.o (ci := 6) s0_40 (by decide) (by decide)) (by decide) (Nat.le_of_ble_eq_true rfl) ?_
    refine c_X7_many hw hR ?_
    refine wp_icmp_ge (pc := 9) 33 dX7_worthOf_9 (by decide) (fun c_9 => ?_) (fun c_9 => ?_)
    · exact absurd c_9 (nI_ge (b := f 68) hi (by omega))
    · refine wp_iload_n (pc := 12) 2 dX7_worthOf_12 rfl rfl ?_
      refine wp_iload_n (pc := 13) 1 dX7_worthOf_13 rfl rfl ?_
      refine wp_iload_n (pc := 14) 3 dX7_worthOf_14 rfl rfl ?_
      refine wp_ishr (pc := 15) dX7_worthOf_15 ?_
      refine wp_iconst (pc := 16) (1) dX7_worthOf_16 (by decide) ?_
      refine wp_iand (pc := 17) dX7_worthOf_17 ?_
      refine wp_int ((bt_bit (by omega) (by omega)).trans (b2_nI _)) ?_
      refine wp_aload_n (pc := 18) 0 dX7_worthOf_18 rfl rfl ?_
      refine wp_iload_n (pc := 19) 3 dX7_worthOf_19 rfl rfl ?_
      refine wp_iconst (pc := 20) (0) dX7_worthOf_20 (by decide) ?_
      refine wc_V_II (pc := 21) dX7_worthOf_21 lkX7_53 (sm_Rc.o (ci := 6) s0_40 (by decide) (by decide)) (by decide) (Nat.le_of_ble_eq_true rfl) ?_
      refine c_X7_of (w := 0) hw hR (by omega) ?_
      refine wp_int (y := nI (f (5 * i))) rfl ?_
      refine wp_imul (pc := 24) dX7_worthOf_24 ?_
      refine wp_int (pk_mul _ _) ?_
      refine wp_iadd (pc := 25) dX7_worthOf_25 ?_
      refine wp_int (nI_add _ _) ?_
      refine wp_istore_n (pc := 26) 2 dX7_worthOf_26 rfl (by decide) rfl ?_
      refine wp_incN (pc := 27) 3 dX7_worthOf_27 rfl (by decide) rfl ?_
      refine wp_goto (pc := 30) 4 dX7_worthOf_30 (by decide) ?_
      have nx := nx trivial
      rw [vlU] at nx
      exact nx
  · refine wp_iload_n (pc := 4) 3 dX7_worthOf_4 rfl rfl ?_
    refine wp_aload_n (pc := 5) 0 dX7_worthOf_5 rfl rfl ?_
    refine wc_V_ (pc := 6) dX7_worthOf_6 lkX7_57 (sm_Rc.o (ci := 6) s0_40 (by decide) (by decide)) (by decide) (Nat.le_of_ble_eq_true rfl) ?_
    refine c_X7_many hw hR ?_
    refine wp_icmp_ge (pc := 9) 33 dX7_worthOf_9 (by decide) (fun c_9 => ?_) (fun c_9 => ?_)
    · refine wp_iload_n (pc := 33) 2 dX7_worthOf_33 rfl rfl ?_
      refine wp_iretI (pc := 34) dX7_worthOf_34 rfl ?_
      rw [← vlU_of f hb hw.n]; exact k
    · exact absurd (Int32.le_refl _) c_9
theorem c_X7_valueBy {d : Nat} {F I : Nat → Nat → Int32} {J : Nat → Nat → Int64} {Q : Option Value → sm_H → Prop} {f : rw_} (hw : WF f) (hR : Rw 41 f I) {b : Nat} (hb : b < 2 ^ f 68) (k : Q (some (.int (nI (val f b)))) (S0, F, I, J)) : Wp mX7_valueBy (d + 2) 0 0 0 (sm_ini [.ref 40, .int (nI b)] 2) [] (S0, F, I, J) Q := by
  show Wp _ _ _ _ _ [.ref 40, .int (nI b)] _ _ _
  refine wp_aload_n (pc := 0) 0 dX7_valueBy_0 rfl rfl ?_
  refine wp_aload_n (pc := 1) 0 dX7_valueBy_1 rfl rfl ?_
  refine wp_iload_n (pc := 2) 1 dX7_valueBy_2 rfl rfl ?_
  refine wc_V_I (pc := 3) dX7_valueBy_3 lkX7_65 (sm_Rc.o (ci := 6) s0_40 (by decide) (by decide)) (by decide) (Nat.le_of_ble_eq_true rfl) ?_
  refine c_X7_standsBy hw hR hb ?_
  refine wc_V_I (pc := 6) dX7_valueBy_6 lkX7_69 (sm_Rc.o (ci := 6) s0_40 (by decide) (by decide)) (by decide) (Nat.le_of_ble_eq_true rfl) ?_
  refine c_X7_worthOf hw hR (sta_lt f hb) ?_
  refine wp_iretI (pc := 9) dX7_valueBy_9 rfl ?_
  exact k
theorem c_X7_isFewer_n {d : Nat} {h : sm_H} {Q : Option Value → sm_H → Prop} {a : Nat} (ha : a < 1024) (k : Q (some (.int (b2 true))) h) : Wp mX7_isFewer (d + 1) 0 0 0 (sm_ini [.int (nI a), .int (-1)] 2) [] h Q := by
  show Wp _ _ _ _ _ [.int (nI a), .int (-1)] _ _ _
  refine wp_iload_n (pc := 0) 1 dX7_isFewer_0 rfl rfl ?_
  refine wp_iconst (pc := 1) (-1) dX7_isFewer_1 (by decide) ?_
  refine wp_icmp_eq (pc := 2) 16 dX7_isFewer_2 (by decide) (fun c_2 => ?_) (fun c_2 => ?_)
  · refine wp_iconst (pc := 16) (1) dX7_isFewer_16 (by decide) ?_
    refine wp_goto (pc := 17) 21 dX7_isFewer_17 (by decide) ?_
    refine wp_iret (pc := 21) dX7_isFewer_21 ⟨_, rfl, by decide⟩ ?_
    exact k
  · exact absurd rfl c_2
theorem c_X7_isFewer_s {d : Nat} {h : sm_H} {Q : Option Value → sm_H → Prop} {a b : Nat} (ha : a < 1024) (hb : b < 1024) (k : Q (some (.int (b2 (decide (pop a < pop b))))) h) : Wp mX7_isFewer (d + 1) 0 0 0 (sm_ini [.int (nI a), .int (nI b)] 2) [] h Q := by
  show Wp _ _ _ _ _ [.int (nI a), .int (nI b)] _ _ _
  have hpa := pop_le a
  have hpb := pop_le b
  refine wp_iload_n (pc := 0) 1 dX7_isFewer_0 rfl rfl ?_
  refine wp_iconst (pc := 1) (-1) dX7_isFewer_1 (by decide) ?_
  refine wp_icmp_eq (pc := 2) 16 dX7_isFewer_2 (by decide) (fun c_2 => ?_) (fun c_2 => ?_)
  · exact absurd c_2 (m1_ne (by omega))
  · refine wp_iload_n (pc := 5) 0 dX7_isFewer_5 rfl rfl ?_
    refine wc_S_I (pc := 6) dX7_isFewer_6 lkX7_72 (by decide) (Nat.le_of_ble_eq_true rfl) ?_
    refine c_J6_bitCount_0f7a4 ?_
    refine wp_int (bc_pop ha) ?_
    refine wp_iload_n (pc := 9) 1 dX7_isFewer_9 rfl rfl ?_
    refine wc_S_I (pc := 10) dX7_isFewer_10 lkX7_72 (by decide) (Nat.le_of_ble_eq_true rfl) ?_
    refine c_J6_bitCount_0f7a4 ?_
    refine wp_int (bc_pop hb) ?_
    refine wp_icmp_ge (pc := 13) 20 dX7_isFewer_13 (by decide) (fun c_13 => ?_) (fun c_13 => ?_)
    · refine wp_iconst (pc := 20) (0) dX7_isFewer_20 (by decide) ?_
      refine wp_iret (pc := 21) dX7_isFewer_21 ⟨_, rfl, by decide⟩ ?_
      rw [decide_eq_false (fun z => nI_ge z (by omega) c_13)] at k; exact k
    · refine wp_iconst (pc := 16) (1) dX7_isFewer_16 (by decide) ?_
      refine wp_goto (pc := 17) 21 dX7_isFewer_17 (by decide) ?_
      refine wp_iret (pc := 21) dX7_isFewer_21 ⟨_, rfl, by decide⟩ ?_
      rw [decide_eq_true (Nat.lt_of_not_le fun z => c_13 (nI_le z (by omega)))] at k; exact k
theorem c_X7_isFewer {d : Nat} {h : sm_H} {Q : Option Value → sm_H → Prop} {a : Nat} {o : Option Nat} (ha : a < 1024) (ho : ∀ b, o = some b → b < 1024) (k : Q (some (.int (b2 (isf a o)))) h) : Wp mX7_isFewer (d + 1) 0 0 0 (sm_ini [.int (nI a), .int (eN o)] 2) [] h Q := by
  cases o with
  | none => exact c_X7_isFewer_n ha k
  | some b => exact c_X7_isFewer_s ha (ho b rfl) k
theorem hl_nI {v : Nat} (hv : v ≤ 99) : (if (0 : Int32) < (if nI v < 99 then nI v else 99) then (if nI v < 99 then nI v else 99) else 0) = nI v := sw_nI hv
theorem c_X7_held {d : Nat} {h : sm_H} {Q : Option Value → sm_H → Prop} {v : Nat} (hv : v ≤ 99) (k : Q (some (.int (nI v))) h) : Wp mX7_held (d + 1) 0 0 0 (sm_ini [.int (nI v)] 1) [] h Q := by
  show Wp _ _ _ _ _ [.int (nI v)] _ _ _
  refine wp_iconst (pc := 0) (0) dX7_held_0 (by decide) ?_
  refine wp_bipush (pc := 1) (99) dX7_held_1 (by decide) ?_
  refine wp_iload_n (pc := 3) 0 dX7_held_3 rfl rfl ?_
  refine wc_S_II (pc := 4) dX7_held_4 lkX7_141 (by decide) (Nat.le_of_ble_eq_true rfl) ?_
  refine c_J9_min_7cf53 ?_
  refine wc_S_II (pc := 7) dX7_held_7 lkX7_146 (by decide) (Nat.le_of_ble_eq_true rfl) ?_
  refine c_J9_max_7cf53 ?_
  refine wp_int (hl_nI hv) ?_
  refine wp_iretI (pc := 10) dX7_held_10 rfl ?_
  exact k
theorem c_X7_slipBy {d : Nat} {F I : Nat → Nat → Int32} {J : Nat → Nat → Int64} {Q : Option Value → sm_H → Prop} {f : rw_} (hw : WF f) (hR : Rw 41 f I) {kd a b : Nat} (hkd : kd < 6) (ha : a ≤ 9) (hb : b ≤ 7) (k : Q (some (.int (nI (slipN kd a b (f 72))))) (S0, F, I, J)) : Wp mX7_slipBy (d + 2) 0 0 0 (sm_ini [.ref 40, .int (nI kd), .int (nI a), .int (nI b)] 7) [] (S0, F, I, J) Q := by
  show Wp _ _ _ _ _ [.ref 40, .int (nI kd), .int (nI a), .int (nI b), .null, .null, .null] _ _ _
  have hck := hw.crk
  rcases (show kd = 0 ∨ kd = 1 ∨ kd = 2 ∨ kd = 3 ∨ kd = 4 ∨ kd = 5 by omega) with rfl | rfl | rfl | rfl | rfl | rfl
  · refine wp_bipush (pc := 0) (10) dX7_slipBy_0 (by decide) ?_
    refine wp_iload_n (pc := 2) 2 dX7_slipBy_2 rfl rfl ?_
    refine wp_iadd (pc := 3) dX7_slipBy_3 ?_
    refine wp_int (x := 10 + nI _) (nI_add 10 _) ?_
    refine wc_S_I (pc := 4) dX7_slipBy_4 lkX7_149 (by decide) (Nat.le_of_ble_eq_true rfl) ?_
    refine c_X7_held (by omega) ?_
    refine wp_istore (pc := 7) 4 dX7_slipBy_7 (by decide) rfl ?_
    refine wp_iconst (pc := 9) (3) dX7_slipBy_9 (by decide) ?_
    refine wp_iload (pc := 10) 4 dX7_slipBy_10 rfl ?_
    refine wp_imul (pc := 12) dX7_slipBy_12 ?_
    refine wp_int (x := 3 * nI _) (pk_mul 3 _) ?_
    refine wc_S_I (pc := 13) dX7_slipBy_13 lkX7_149 (by decide) (Nat.le_of_ble_eq_true rfl) ?_
    refine c_X7_held (by omega) ?_
    refine wp_istore (pc := 16) 5 dX7_slipBy_16 (by decide) rfl ?_
    refine wp_iload (pc := 18) 4 dX7_slipBy_18 rfl ?_
    refine wp_iload_n (pc := 20) 2 dX7_slipBy_20 rfl rfl ?_
    refine wp_isub (pc := 21) dX7_slipBy_21 ?_
    refine wp_int (pk_sub (by omega)) ?_
    refine wc_S_I (pc := 22) dX7_slipBy_22 lkX7_149 (by decide) (Nat.le_of_ble_eq_true rfl) ?_
    refine c_X7_held (by omega) ?_
    refine wp_istore (pc := 25) 6 dX7_slipBy_25 (by decide) rfl ?_
    refine wp_iload_n (pc := 27) 1 dX7_slipBy_27 rfl rfl ?_
    refine wp_tswO (pc := 28) 108 dX7_slipBy_28 (by decide) (by decide) ?_
    refine wp_iload (pc := 108) 4 dX7_slipBy_108 rfl ?_
    refine wp_iretI (pc := 110) dX7_slipBy_110 rfl ?_
    exact k
  · refine wp_bipush (pc := 0) (10) dX7_slipBy_0 (by decide) ?_
    refine wp_iload_n (pc := 2) 2 dX7_slipBy_2 rfl rfl ?_
    refine wp_iadd (pc := 3) dX7_slipBy_3 ?_
    refine wp_int (x := 10 + nI _) (nI_add 10 _) ?_
    refine wc_S_I (pc := 4) dX7_slipBy_4 lkX7_149 (by decide) (Nat.le_of_ble_eq_true rfl) ?_
    refine c_X7_held (by omega) ?_
    refine wp_istore (pc := 7) 4 dX7_slipBy_7 (by decide) rfl ?_
    refine wp_iconst (pc := 9) (3) dX7_slipBy_9 (by decide) ?_
    refine wp_iload (pc := 10) 4 dX7_slipBy_10 rfl ?_
    refine wp_imul (pc := 12) dX7_slipBy_12 ?_
    refine wp_int (x := 3 * nI _) (pk_mul 3 _) ?_
    refine wc_S_I (pc := 13) dX7_slipBy_13 lkX7_149 (by decide) (Nat.le_of_ble_eq_true rfl) ?_
    refine c_X7_held (by omega) ?_
    refine wp_istore (pc := 16) 5 dX7_slipBy_16 (by decide) rfl ?_
    refine wp_iload (pc := 18) 4 dX7_slipBy_18 rfl ?_
    refine wp_iload_n (pc := 20) 2 dX7_slipBy_20 rfl rfl ?_
    refine wp_isub (pc := 21) dX7_slipBy_21 ?_
    refine wp_int (pk_sub (by omega)) ?_
    refine wc_S_I (pc := 22) dX7_slipBy_22 lkX7_149 (by decide) (Nat.le_of_ble_eq_true rfl) ?_
    refine c_X7_held (by omega) ?_
    refine wp_istore (pc := 25) 6 dX7_slipBy_25 (by decide) rfl ?_
    refine wp_iload_n (pc := 27) 1 dX7_slipBy_27 rfl rfl ?_
    refine wp_tswI (pc := 28) 0 64 dX7_slipBy_28 (by decide) (by decide) rfl (by decide) ?_
    refine wp_iload (pc := 64) 5 dX7_slipBy_64 rfl ?_
    refine wp_iretI (pc := 66) dX7_slipBy_66 rfl ?_
    exact k
  · refine wp_bipush (pc := 0) (10) dX7_slipBy_0 (by decide) ?_
    refine wp_iload_n (pc := 2) 2 dX7_slipBy_2 rfl rfl ?_
    refine wp_iadd (pc := 3) dX7_slipBy_3 ?_
    refine wp_int (x := 10 + nI _) (nI_add 10 _) ?_
    refine wc_S_I (pc := 4) dX7_slipBy_4 lkX7_149 (by decide) (Nat.le_of_ble_eq_true rfl) ?_
    refine c_X7_held (by omega) ?_
    refine wp_istore (pc := 7) 4 dX7_slipBy_7 (by decide) rfl ?_
    refine wp_iconst (pc := 9) (3) dX7_slipBy_9 (by decide) ?_
    refine wp_iload (pc := 10) 4 dX7_slipBy_10 rfl ?_
    refine wp_imul (pc := 12) dX7_slipBy_12 ?_
    refine wp_int (x := 3 * nI _) (pk_mul 3 _) ?_
    refine wc_S_I (pc := 13) dX7_slipBy_13 lkX7_149 (by decide) (Nat.le_of_ble_eq_true rfl) ?_
    refine c_X7_held (by omega) ?_
    refine wp_istore (pc := 16) 5 dX7_slipBy_16 (by decide) rfl ?_
    refine wp_iload (pc := 18) 4 dX7_slipBy_18 rfl ?_
    refine wp_iload_n (pc := 20) 2 dX7_slipBy_20 rfl rfl ?_
    refine wp_isub (pc := 21) dX7_slipBy_21 ?_
    refine wp_int (pk_sub (by omega)) ?_
    refine wc_S_I (pc := 22) dX7_slipBy_22 lkX7_149 (by decide) (Nat.le_of_ble_eq_true rfl) ?_
    refine c_X7_held (by omega) ?_
    refine wp_istore (pc := 25) 6 dX7_slipBy_25 (by decide) rfl ?_
    refine wp_iload_n (pc := 27) 1 dX7_slipBy_27 rfl rfl ?_
    refine wp_tswI (pc := 28) 1 67 dX7_slipBy_28 (by decide) (by decide) rfl (by decide) ?_
    refine wp_iload (pc := 67) 6 dX7_slipBy_67 rfl ?_
    refine wp_iretI (pc := 69) dX7_slipBy_69 rfl ?_
    rw [Nat.add_sub_cancel]; exact k
  · refine wp_bipush (pc := 0) (10) dX7_slipBy_0 (by decide) ?_
    refine wp_iload_n (pc := 2) 2 dX7_slipBy_2 rfl rfl ?_
    refine wp_iadd (pc := 3) dX7_slipBy_3 ?_
    refine wp_int (x := 10 + nI _) (nI_add 10 _) ?_
    refine wc_S_I (pc := 4) dX7_slipBy_4 lkX7_149 (by decide) (Nat.le_of_ble_eq_true rfl) ?_
    refine c_X7_held (by omega) ?_
    refine wp_istore (pc := 7) 4 dX7_slipBy_7 (by decide) rfl ?_
    refine wp_iconst (pc := 9) (3) dX7_slipBy_9 (by decide) ?_
    refine wp_iload (pc := 10) 4 dX7_slipBy_10 rfl ?_
    refine wp_imul (pc := 12) dX7_slipBy_12 ?_
    refine wp_int (x := 3 * nI _) (pk_mul 3 _) ?_
    refine wc_S_I (pc := 13) dX7_slipBy_13 lkX7_149 (by decide) (Nat.le_of_ble_eq_true rfl) ?_
    refine c_X7_held (by omega) ?_
    refine wp_istore (pc := 16) 5 dX7_slipBy_16 (by decide) rfl ?_
    refine wp_iload (pc := 18) 4 dX7_slipBy_18 rfl ?_
    refine wp_iload_n (pc := 20) 2 dX7_slipBy_20 rfl rfl ?_
    refine wp_isub (pc := 21) dX7_slipBy_21 ?_
    refine wp_int (pk_sub (by omega)) ?_
    refine wc_S_I (pc := 22) dX7_slipBy_22 lkX7_149 (by decide) (Nat.le_of_ble_eq_true rfl) ?_
    refine c_X7_held (by omega) ?_
    refine wp_istore (pc := 25) 6 dX7_slipBy_25 (by decide) rfl ?_
    refine wp_iload_n (pc := 27) 1 dX7_slipBy_27 rfl rfl ?_
    refine wp_tswI (pc := 28) 2 70 dX7_slipBy_28 (by decide) (by decide) rfl (by decide) ?_
    refine wp_iload (pc := 70) 5 dX7_slipBy_70 rfl ?_
    refine wp_iconst (pc := 72) (1) dX7_slipBy_72 (by decide) ?_
    refine wp_iadd (pc := 73) dX7_slipBy_73 ?_
    refine wp_int (nI_1 _) ?_
    refine wp_iconst (pc := 74) (2) dX7_slipBy_74 (by decide) ?_
    refine wp_idiv (pc := 75) dX7_slipBy_75 (by decide) ?_
    refine wp_int (pk_div (d := 2) (by omega) (by decide) (by decide)) ?_
    refine wp_iretI (pc := 76) dX7_slipBy_76 rfl ?_
    exact k
  · refine wp_bipush (pc := 0) (10) dX7_slipBy_0 (by decide) ?_
    refine wp_iload_n (pc := 2) 2 dX7_slipBy_2 rfl rfl ?_
    refine wp_iadd (pc := 3) dX7_slipBy_3 ?_
    refine wp_int (x := 10 + nI _) (nI_add 10 _) ?_
    refine wc_S_I (pc := 4) dX7_slipBy_4 lkX7_149 (by decide) (Nat.le_of_ble_eq_true rfl) ?_
    refine c_X7_held (by omega) ?_
    refine wp_istore (pc := 7) 4 dX7_slipBy_7 (by decide) rfl ?_
    refine wp_iconst (pc := 9) (3) dX7_slipBy_9 (by decide) ?_
    refine wp_iload (pc := 10) 4 dX7_slipBy_10 rfl ?_
    refine wp_imul (pc := 12) dX7_slipBy_12 ?_
    refine wp_int (x := 3 * nI _) (pk_mul 3 _) ?_
    refine wc_S_I (pc := 13) dX7_slipBy_13 lkX7_149 (by decide) (Nat.le_of_ble_eq_true rfl) ?_
    refine c_X7_held (by omega) ?_
    refine wp_istore (pc := 16) 5 dX7_slipBy_16 (by decide) rfl ?_
    refine wp_iload (pc := 18) 4 dX7_slipBy_18 rfl ?_
    refine wp_iload_n (pc := 20) 2 dX7_slipBy_20 rfl rfl ?_
    refine wp_isub (pc := 21) dX7_slipBy_21 ?_
    refine wp_int (pk_sub (by omega)) ?_
    refine wc_S_I (pc := 22) dX7_slipBy_22 lkX7_149 (by decide) (Nat.le_of_ble_eq_true rfl) ?_
    refine c_X7_held (by omega) ?_
    refine wp_istore (pc := 25) 6 dX7_slipBy_25 (by decide) rfl ?_
    refine wp_iload_n (pc := 27) 1 dX7_slipBy_27 rfl rfl ?_
    refine wp_tswI (pc := 28) 3 77 dX7_slipBy_28 (by decide) (by decide) rfl (by decide) ?_
    refine wp_iload (pc := 77) 6 dX7_slipBy_77 rfl ?_
    refine wp_iconst (pc := 79) (5) dX7_slipBy_79 (by decide) ?_
    refine wp_isub (pc := 80) dX7_slipBy_80 ?_
    refine wp_int (show nI (10 + a - a) - 5 = nI 5 by rw [Nat.add_sub_cancel]; decide) ?_
    refine wc_S_I (pc := 81) dX7_slipBy_81 lkX7_149 (by decide) (Nat.le_of_ble_eq_true rfl) ?_
    refine c_X7_held (by omega) ?_
    refine wp_iretI (pc := 84) dX7_slipBy_84 rfl ?_
    exact k
  · refine wp_bipush (pc := 0) (10) dX7_slipBy_0 (by decide) ?_
    refine wp_iload_n (pc := 2) 2 dX7_slipBy_2 rfl rfl ?_
    refine wp_iadd (pc := 3) dX7_slipBy_3 ?_
    refine wp_int (x := 10 + nI _) (nI_add 10 _) ?_
    refine wc_S_I (pc := 4) dX7_slipBy_4 lkX7_149 (by decide) (Nat.le_of_ble_eq_true rfl) ?_
    refine c_X7_held (by omega) ?_
    refine wp_istore (pc := 7) 4 dX7_slipBy_7 (by decide) rfl ?_
    refine wp_iconst (pc := 9) (3) dX7_slipBy_9 (by decide) ?_
    refine wp_iload (pc := 10) 4 dX7_slipBy_10 rfl ?_
    refine wp_imul (pc := 12) dX7_slipBy_12 ?_
    refine wp_int (x := 3 * nI _) (pk_mul 3 _) ?_
    refine wc_S_I (pc := 13) dX7_slipBy_13 lkX7_149 (by decide) (Nat.le_of_ble_eq_true rfl) ?_
    refine c_X7_held (by omega) ?_
    refine wp_istore (pc := 16) 5 dX7_slipBy_16 (by decide) rfl ?_
    refine wp_iload (pc := 18) 4 dX7_slipBy_18 rfl ?_
    refine wp_iload_n (pc := 20) 2 dX7_slipBy_20 rfl rfl ?_
    refine wp_isub (pc := 21) dX7_slipBy_21 ?_
    refine wp_int (pk_sub (by omega)) ?_
    refine wc_S_I (pc := 22) dX7_slipBy_22 lkX7_149 (by decide) (Nat.le_of_ble_eq_true rfl) ?_
    refine c_X7_held (by omega) ?_
    refine wp_istore (pc := 25) 6 dX7_slipBy_25 (by decide) rfl ?_
    refine wp_iload_n (pc := 27) 1 dX7_slipBy_27 rfl rfl ?_
    refine wp_tswI (pc := 28) 4 85 dX7_slipBy_28 (by decide) (by decide) rfl (by decide) ?_
    refine wp_aload_n (pc := 85) 0 dX7_slipBy_85 rfl rfl ?_
    refine wq_getR (pc := 86) 13 0 dX7_slipBy_86 s0_40 flX7_13 rfl rfl (by decide) (by decide) ?_
    refine wp_bipush (pc := 89) (72) dX7_slipBy_89 (by decide) ?_
    refine wq_iald (pc := 91) 72 dX7_slipBy_91 s0_41 (by decide) rfl (by decide) (by decide) ?_
    refine wp_int (hR.at (by decide)) ?_
    refine wp_iload_n (pc := 92) 3 dX7_slipBy_92 rfl rfl ?_
    refine wp_ishr (pc := 93) dX7_slipBy_93 ?_
    refine wp_iconst (pc := 94) (1) dX7_slipBy_94 (by decide) ?_
    refine wp_iand (pc := 95) dX7_slipBy_95 ?_
    refine wp_int (bt_bit (by omega) (by omega)) ?_
    refine wp_iconst (pc := 96) (1) dX7_slipBy_96 (by decide) ?_
    refine wp_icmp_ne1 (pc := 97) 105 dX7_slipBy_97 (by decide) (fun c_97 => ?_) (fun c_97 => ?_)
    · refine wp_iload (pc := 105) 4 dX7_slipBy_105 rfl ?_
      refine wp_iretI (pc := 107) dX7_slipBy_107 rfl ?_
      rw [show slipN 5 a b (f 72) = 10 + a by simp [slipN, c_97]] at k; exact k
    · refine wp_bipush (pc := 100) (50) dX7_slipBy_100 (by decide) ?_
      refine wp_goto (pc := 102) 107 dX7_slipBy_102 (by decide) ?_
      refine wp_iretI (pc := 107) dX7_slipBy_107 rfl ?_
      rw [show slipN 5 a b (f 72) = 50 by simp [slipN, c_97]] at k; exact k
theorem c_X7_slip {d : Nat} {F I : Nat → Nat → Int32} {J : Nat → Nat → Int64} {Q : Option Value → sm_H → Prop} {f : rw_} (hw : WF f) (hR : Rw 41 f I) {r : Nat} (hr : r < 6) (k : Q (some (.int (nI (slp f r)))) (S0, F, I, J)) : Wp mX7_slip (d + 3) 0 0 0 (sm_ini [.ref 40, .int (nI r)] 2) [] (S0, F, I, J) Q := by
  show Wp _ _ _ _ _ [.ref 40, .int (nI r)] _ _ _
  have hkd := hw.kind hr
  have hA := hw.a hr
  have hB := hw.bell hr
  refine wp_aload_n (pc := 0) 0 dX7_slip_0 rfl rfl ?_
  refine wp_aload_n (pc := 1) 0 dX7_slip_1 rfl rfl ?_
  refine wq_getR (pc := 2) 13 0 dX7_slip_2 s0_40 flX7_13 rfl rfl (by decide) (by decide) ?_
  refine wp_bipush (pc := 5) (50) dX7_slip_5 (by decide) ?_
  refine wp_iconst (pc := 7) (3) dX7_slip_7 (by decide) ?_
  refine wp_iload_n (pc := 8) 1 dX7_slip_8 rfl rfl ?_
  refine wp_imul (pc := 9) dX7_slip_9 ?_
  refine wp_iadd (pc := 10) dX7_slip_10 ?_
  refine wq_iald (pc := 11) (50 + 3 * r) dX7_slip_11 s0_41 (by decide) (ix3 r) (by omega) (by decide) ?_
  refine wp_int (hR.at (by omega)) ?_
  refine wp_aload_n (pc := 12) 0 dX7_slip_12 rfl rfl ?_
  refine wq_getR (pc := 13) 13 0 dX7_slip_13 s0_40 flX7_13 rfl rfl (by decide) (by decide) ?_
  refine wp_bipush (pc := 16) (50) dX7_slip_16 (by decide) ?_
  refine wp_iconst (pc := 18) (3) dX7_slip_18 (by decide) ?_
  refine wp_iload_n (pc := 19) 1 dX7_slip_19 rfl rfl ?_
  refine wp_imul (pc := 20) dX7_slip_20 ?_
  refine wp_iadd (pc := 21) dX7_slip_21 ?_
  refine wp_iconst (pc := 22) (1) dX7_slip_22 (by decide) ?_
  refine wp_iadd (pc := 23) dX7_slip_23 ?_
  refine wq_iald (pc := 24) (50 + 3 * r + 1) dX7_slip_24 s0_41 (by decide) ((congrArg (· + 1) (ix3 r)).trans (nI_1 _)) (by omega) (by decide) ?_
  refine wp_int (hR.at (by omega)) ?_
  refine wp_aload_n (pc := 25) 0 dX7_slip_25 rfl rfl ?_
  refine wq_getR (pc := 26) 13 0 dX7_slip_26 s0_40 flX7_13 rfl rfl (by decide) (by decide) ?_
  refine wp_bipush (pc := 29) (50) dX7_slip_29 (by decide) ?_
  refine wp_iconst (pc := 31) (3) dX7_slip_31 (by decide) ?_
  refine wp_iload_n (pc := 32) 1 dX7_slip_32 rfl rfl ?_
  refine wp_imul (pc := 33) dX7_slip_33 ?_
  refine wp_iadd (pc := 34) dX7_slip_34 ?_
  refine wp_iconst (pc := 35) (2) dX7_slip_35 (by decide) ?_
  refine wp_iadd (pc := 36) dX7_slip_36 ?_
  refine wq_iald (pc := 37) (50 + 3 * r + 2) dX7_slip_37 s0_41 (by decide) ((congrArg (· + 2) (ix3 r)).trans (nI_add _ 2)) (by omega) (by decide) ?_
  refine wp_int (hR.at (by omega)) ?_
  refine wc_V_III (pc := 38) dX7_slip_38 lkX7_152 (sm_Rc.o (ci := 6) s0_40 (by decide) (by decide)) (by decide) (Nat.le_of_ble_eq_true rfl) ?_
  refine c_X7_slipBy hw hR (by omega) hA hB ?_
  refine wp_iretI (pc := 41) dX7_slip_41 rfl ?_
  exact k
theorem c_X7_wellOf {d : Nat} {F I : Nat → Nat → Int32} {J : Nat → Nat → Int64} {Q : Option Value → sm_H → Prop} {f : rw_} (hw : WF f) (hR : Rw 41 f I) {b : Nat} (hb : b < 2 ^ f 69) (k : Q (some (.int (nI (wl f b)))) (S0, F, I, J)) : Wp mX7_wellOf (d + 4) 0 0 0 (sm_ini [.ref 40, .int (nI b)] 4) [] (S0, F, I, J) Q := by
  show Wp _ _ _ _ _ [.ref 40, .int (nI b), .null, .null] _ _ _
  refine wp_ldc (pc := 0) _ dX7_wellOf_0 koX7_161 ?_
  refine wp_istore_n (pc := 2) 2 dX7_wellOf_2 rfl (by decide) rfl ?_
  refine wp_iconst (pc := 3) (0) dX7_wellOf_3 (by decide) ?_
  refine wp_istore_n (pc := 4) 3 dX7_wellOf_4 rfl (by decide) rfl ?_
  refine wp_loop (fun i => [.ref 40, .int (nI b), .int (nI (wlU f b i)), .int (nI i)]) (fun i => (S0, F, I, J)) (fun i => True) (f 69) (fun i hi hv nx => ?_) (fun hv => ?_) 0 (by omega) trivial
  · have hn := hw.c
    have hp2 := p2c hw
    have hwl := wlU_le f b i
    have hsl := slp_le hw (r := i) (by omega)
    have hml : wlU f b i * (100 - slp f i) ≤ 1000000 * 100 := Nat.mul_le_mul hwl (by omega)
    refine wp_iload_n (pc := 5) 3 dX7_wellOf_5 rfl rfl ?_
    refine wp_aload_n (pc := 6) 0 dX7_wellOf_6 rfl rfl ?_
    refine wq_getR (pc := 7) 13 0 dX7_wellOf_7 s0_40 flX7_13 rfl rfl (by decide) (by decide) ?_
    refine wp_bipush (pc := 10) (69) dX7_wellOf_10 (by decide) ?_
    refine wq_iald (pc := 12) 69 dX7_wellOf_12 s0_41 (by decide) rfl (by decide) (by decide) ?_
    refine wp_int (hR.at (by decide)) ?_
    refine wp_icmp_ge (pc := 13) 49 dX7_wellOf_13 (by decide) (fun c_13 => ?_) (fun c_13 => ?_)
    · exact absurd c_13 (nI_ge (b := f 69) hi (by omega))
    · refine wp_iload_n (pc := 16) 1 dX7_wellOf_16 rfl rfl ?_
      refine wp_iload_n (pc := 17) 3 dX7_wellOf_17 rfl rfl ?_
      refine wp_ishr (pc := 18) dX7_wellOf_18 ?_
      refine wp_iconst (pc := 19) (1) dX7_wellOf_19 (by decide) ?_
      refine wp_iand (pc := 20) dX7_wellOf_20 ?_
      refine wp_int (bt_bit (by omega) (by omega)) ?_
      refine wp_iconst (pc := 21) (1) dX7_wellOf_21 (by decide) ?_
      refine wp_icmp_ne1 (pc := 22) 41 dX7_wellOf_22 (by decide) (fun c_22 => ?_) (fun c_22 => ?_)
      · refine wp_iload_n (pc := 41) 2 dX7_wellOf_41 rfl rfl ?_
        refine wp_istore_n (pc := 42) 2 dX7_wellOf_42 rfl (by decide) rfl ?_
        refine wp_incN (pc := 43) 3 dX7_wellOf_43 rfl (by decide) rfl ?_
        refine wp_goto (pc := 46) 5 dX7_wellOf_46 (by decide) ?_
        have nx := nx trivial
        rw [wlU_f c_22] at nx
        exact nx
      · refine wp_iload_n (pc := 25) 2 dX7_wellOf_25 rfl rfl ?_
        refine wp_bipush (pc := 26) (100) dX7_wellOf_26 (by decide) ?_
        refine wp_aload_n (pc := 28) 0 dX7_wellOf_28 rfl rfl ?_
        refine wp_iload_n (pc := 29) 3 dX7_wellOf_29 rfl rfl ?_
        refine wc_V_I (pc := 30) dX7_wellOf_30 lkX7_158 (sm_Rc.o (ci := 6) s0_40 (by decide) (by decide)) (by decide) (Nat.le_of_ble_eq_true rfl) ?_
        refine c_X7_slip hw hR (by omega) ?_
        refine wp_isub (pc := 33) dX7_wellOf_33 ?_
        refine wp_int (x := 100 - nI _) (pk_sub (a := 100) (by omega)) ?_
        refine wp_imul (pc := 34) dX7_wellOf_34 ?_
        refine wp_int (pk_mul _ _) ?_
        refine wp_bipush (pc := 35) (100) dX7_wellOf_35 (by decide) ?_
        refine wp_idiv (pc := 37) dX7_wellOf_37 (by decide) ?_
        refine wp_int (pk_div (d := 100) (by omega) (by decide) (by decide)) ?_
        refine wp_goto (pc := 38) 42 dX7_wellOf_38 (by decide) ?_
        refine wp_istore_n (pc := 42) 2 dX7_wellOf_42 rfl (by decide) rfl ?_
        refine wp_incN (pc := 43) 3 dX7_wellOf_43 rfl (by decide) rfl ?_
        refine wp_goto (pc := 46) 5 dX7_wellOf_46 (by decide) ?_
        have nx := nx trivial
        rw [wlU_t c_22] at nx
        exact nx
  · refine wp_iload_n (pc := 5) 3 dX7_wellOf_5 rfl rfl ?_
    refine wp_aload_n (pc := 6) 0 dX7_wellOf_6 rfl rfl ?_
    refine wq_getR (pc := 7) 13 0 dX7_wellOf_7 s0_40 flX7_13 rfl rfl (by decide) (by decide) ?_
    refine wp_bipush (pc := 10) (69) dX7_wellOf_10 (by decide) ?_
    refine wq_iald (pc := 12) 69 dX7_wellOf_12 s0_41 (by decide) rfl (by decide) (by decide) ?_
    refine wp_int (hR.at (by decide)) ?_
    refine wp_icmp_ge (pc := 13) 49 dX7_wellOf_13 (by decide) (fun c_13 => ?_) (fun c_13 => ?_)
    · refine wp_iload_n (pc := 49) 2 dX7_wellOf_49 rfl rfl ?_
      refine wp_iretI (pc := 50) dX7_wellOf_50 rfl ?_
      exact k
    · exact absurd (Int32.le_refl _) c_13
theorem c_X7_mayBits {d : Nat} {F I : Nat → Nat → Int32} {J : Nat → Nat → Int64} {Q : Option Value → sm_H → Prop} {f : rw_} (hw : WF f) (hR : Rw 41 f I) {w : Nat} (hw2 : w ≤ 2) (k : Q (some (.int (nI (col (fun j => decide (may f j = w)) (f 68))))) (S0, F, I, J)) : Wp mX7_mayBits (d + 2) 0 0 0 (sm_ini [.ref 40, .int (nI w)] 4) [] (S0, F, I, J) Q := by
  show Wp _ _ _ _ _ [.ref 40, .int (nI w), .null, .null] _ _ _
  refine wp_iconst (pc := 0) (0) dX7_mayBits_0 (by decide) ?_
  refine wp_istore_n (pc := 1) 2 dX7_mayBits_1 rfl (by decide) rfl ?_
  refine wp_iconst (pc := 2) (0) dX7_mayBits_2 (by decide) ?_
  refine wp_istore_n (pc := 3) 3 dX7_mayBits_3 rfl (by decide) rfl ?_
  refine wp_loop (fun i => [.ref 40, .int (nI w), .int (nI (col (fun j => decide (may f j = w)) i)), .int (nI i)]) (fun i => (S0, F, I, J)) (fun i => True) (f 68) (fun i hi hv nx => ?_) (fun hv => ?_) 0 (by omega) trivial
  · have hn := hw.n
    have hm := may_le f i
    refine wp_iload_n (pc := 4) 3 dX7_mayBits_4 rfl rfl ?_
    refine wp_aload_n (pc := 5) 0 dX7_mayBits_5 rfl rfl ?_
    refine wc_V_ (pc := 6) dX7_mayBits_6 lkX7_57 (sm_Rc.o (ci := 6) s0_40 (by decide) (by decide)) (by decide) (Nat.le_of_ble_eq_true rfl) ?_
    refine c_X7_many hw hR ?_
    refine wp_icmp_ge (pc := 9) 37 dX7_mayBits_9 (by decide) (fun c_9 => ?_) (fun c_9 => ?_)
    · exact absurd c_9 (nI_ge (b := f 68) hi (by omega))
    · refine wp_iload_n (pc := 12) 2 dX7_mayBits_12 rfl rfl ?_
      refine wp_aload_n (pc := 13) 0 dX7_mayBits_13 rfl rfl ?_
      refine wp_iload_n (pc := 14) 3 dX7_mayBits_14 rfl rfl ?_
      refine wc_V_I (pc := 15) dX7_mayBits_15 lkX7_138 (sm_Rc.o (ci := 6) s0_40 (by decide) (by decide)) (by decide) (Nat.le_of_ble_eq_true rfl) ?_
      refine c_X7_may hw hR (by omega) ?_
      refine wp_iload_n (pc := 18) 1 dX7_mayBits_18 rfl rfl ?_
      refine wp_icmp_ne (pc := 19) 28 dX7_mayBits_19 (by decide) (fun c_19 => ?_) (fun c_19 => ?_)
      · refine wp_iconst (pc := 28) (0) dX7_mayBits_28 (by decide) ?_
        refine wp_ior (pc := 29) dX7_mayBits_29 ?_
        refine wp_int (or0 _) ?_
        refine wp_istore_n (pc := 30) 2 dX7_mayBits_30 rfl (by decide) rfl ?_
        refine wp_incN (pc := 31) 3 dX7_mayBits_31 rfl (by decide) rfl ?_
        refine wp_goto (pc := 34) 4 dX7_mayBits_34 (by decide) ?_
        have nx := nx trivial
        rw [col_f (p := (fun j => decide (may f j = w))) (decide_eq_false (fun z => c_19 (by rw [z])))] at nx
        exact nx
      · refine wp_iconst (pc := 22) (1) dX7_mayBits_22 (by decide) ?_
        refine wp_iload_n (pc := 23) 3 dX7_mayBits_23 rfl rfl ?_
        refine wp_ishl (pc := 24) dX7_mayBits_24 ?_
        refine wp_goto (pc := 25) 29 dX7_mayBits_25 (by decide) ?_
        refine wp_int (bt_one (by omega)) ?_
        refine wp_ior (pc := 29) dX7_mayBits_29 ?_
        refine wp_int (bt_or _ _) ?_
        refine wp_istore_n (pc := 30) 2 dX7_mayBits_30 rfl (by decide) rfl ?_
        refine wp_incN (pc := 31) 3 dX7_mayBits_31 rfl (by decide) rfl ?_
        refine wp_goto (pc := 34) 4 dX7_mayBits_34 (by decide) ?_
        have nx := nx trivial
        rw [show col (fun j => decide (may f j = w)) (i + 1) = col (fun j => decide (may f j = w)) i ||| 2 ^ i by rw [col, if_pos (decide_eq_true ((nI_eq (by omega) (by omega)).mp c_19))]] at nx
        exact nx
  · refine wp_iload_n (pc := 4) 3 dX7_mayBits_4 rfl rfl ?_
    refine wp_aload_n (pc := 5) 0 dX7_mayBits_5 rfl rfl ?_
    refine wc_V_ (pc := 6) dX7_mayBits_6 lkX7_57 (sm_Rc.o (ci := 6) s0_40 (by decide) (by decide)) (by decide) (Nat.le_of_ble_eq_true rfl) ?_
    refine c_X7_many hw hR ?_
    refine wp_icmp_ge (pc := 9) 37 dX7_mayBits_9 (by decide) (fun c_9 => ?_) (fun c_9 => ?_)
    · refine wp_iload_n (pc := 37) 2 dX7_mayBits_37 rfl rfl ?_
      refine wp_iretI (pc := 38) dX7_mayBits_38 rfl ?_
      exact k
    · exact absurd (Int32.le_refl _) c_9
theorem c_X7_offBy {d : Nat} {F I : Nat → Nat → Int32} {J : Nat → Nat → Int64} {Q : Option Value → sm_H → Prop} {f : rw_} (hw : WF f) (hR : Rw 41 f I) {i : Nat} (hi : i < 10) (k : Q (some (.int (nI (dif (sta f (bn f)) (sta f (dif (bn f) (2 ^ i))))))) (S0, F, I, J)) : Wp mX7_offBy (d + 2) 0 0 0 (sm_ini [.ref 40, .int (nI i)] 2) [] (S0, F, I, J) Q := by
  show Wp _ _ _ _ _ [.ref 40, .int (nI i)] _ _ _
  have hb := bn_lt hw
  refine wp_aload_n (pc := 0) 0 dX7_offBy_0 rfl rfl ?_
  refine wp_aload_n (pc := 1) 0 dX7_offBy_1 rfl rfl ?_
  refine wc_V_ (pc := 2) dX7_offBy_2 lkX7_135 (sm_Rc.o (ci := 6) s0_40 (by decide) (by decide)) (by decide) (Nat.le_of_ble_eq_true rfl) ?_
  refine c_X7_been hw hR ?_
  refine wc_V_I (pc := 5) dX7_offBy_5 lkX7_65 (sm_Rc.o (ci := 6) s0_40 (by decide) (by decide)) (by decide) (Nat.le_of_ble_eq_true rfl) ?_
  refine c_X7_standsBy hw hR hb ?_
  refine wp_aload_n (pc := 8) 0 dX7_offBy_8 rfl rfl ?_
  refine wp_aload_n (pc := 9) 0 dX7_offBy_9 rfl rfl ?_
  refine wc_V_ (pc := 10) dX7_offBy_10 lkX7_135 (sm_Rc.o (ci := 6) s0_40 (by decide) (by decide)) (by decide) (Nat.le_of_ble_eq_true rfl) ?_
  refine c_X7_been hw hR ?_
  refine wp_iconst (pc := 13) (1) dX7_offBy_13 (by decide) ?_
  refine wp_iload_n (pc := 14) 1 dX7_offBy_14 rfl rfl ?_
  refine wp_ishl (pc := 15) dX7_offBy_15 ?_
  refine wp_iconst (pc := 16) (-1) dX7_offBy_16 (by decide) ?_
  refine wp_ixor (pc := 17) dX7_offBy_17 ?_
  refine wp_iand (pc := 18) dX7_offBy_18 ?_
  refine wp_int (bt_clr (by omega)) ?_
  refine wc_V_I (pc := 19) dX7_offBy_19 lkX7_65 (sm_Rc.o (ci := 6) s0_40 (by decide) (by decide)) (by decide) (Nat.le_of_ble_eq_true rfl) ?_
  refine c_X7_standsBy hw hR (dif_le _ _ hb) ?_
  refine wp_iconst (pc := 22) (-1) dX7_offBy_22 (by decide) ?_
  refine wp_ixor (pc := 23) dX7_offBy_23 ?_
  refine wp_iand (pc := 24) dX7_offBy_24 ?_
  refine wp_int (bt_dif _ _) ?_
  refine wp_iretI (pc := 25) dX7_offBy_25 rfl ?_
  exact k
