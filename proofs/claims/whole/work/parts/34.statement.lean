/-! ===== a statement ===== -/
def cnW (w : Nat) : Nat := if w = 5 then 3 else if w ≤ 1 then 2 else 1
def noRm (f : rw_) (w : Nat) : Bool := (decide (w = 0) && !decide (f 68 < 10)) || (decide (w = 5) && !decide (f 69 < 6))
/-- what a number must be less than -/
def lmW (f : rw_) (w i a : Nat) : Nat := match w with
  | 0 => if i = 0 then 100 else 4
  | 1 => if i = 0 then f 68 else a
  | 5 => if i = 0 then 6 else if i = 1 then 10 else 8
  | 6 => 4
  | 7 => 8
  | 8 => 8
  | 9 => 1000
  | _ => f 68
def cry (f : rw_) (w a b c : Nat) : rw_ := match w with
  | 0 => addT f a b
  | 1 => fu f (5 * a + 2) (hgN (f (5 * a + 2)) b true)
  | 2 => fu f (5 * a + 2) 0
  | 3 => fu f (5 * a + 3) 0
  | 4 => fu f (5 * a + 3) 1
  | 5 => addR f a b c
  | 6 => fu f 70 a
  | 7 => fu f 72 (f 72 ||| 2 ^ a)
  | 8 => fu f 72 (dif (f 72) (2 ^ a))
  | _ => fu f 71 a
theorem isT.hi {t : Nat} (ht : isT t) : t + 9 < 31 := by rcases ht with rfl | rfl | rfl <;> decide
theorem isT.lo {t : Nat} (ht : isT t) : 1 ≤ t := by rcases ht with rfl | rfl | rfl <;> decide
theorem le_prd {m L : Nat} (hm : m < 2 ^ 31) (hL : L < 2 ^ 31) : nI m ≤ nI L - 1 ↔ m < L := by
  have h := i32_pred (x := nI m) hL
  have hp := nI_pos' hm
  rw [← nI_ltI hm hL]
  constructor
  · intro z; exact (h.mp ⟨hp, z⟩).2
  · intro z; exact (h.mpr ⟨hp, z⟩).2
theorem c_X2_countOf_0 {d : Nat} {h : sm_H} {Q : Option Value → sm_H → Prop} (k : Q (some (.int 2)) h) : Wp mX2_countOf d 0 0 0 (sm_ini [.int (nI 0)] 1) [] h Q := by
  show Wp _ _ _ _ _ [.int (nI 0)] _ _ _
  refine wp_iload_n (pc := 0) 0 dX2_countOf_0 rfl rfl ?_
  refine wp_lookup (pc := 1) (off := 37) 38 dX2_countOf_1 (by decide) (by decide) (by decide) ?_
  refine wp_iconst (pc := 38) (2) dX2_countOf_38 (by decide) ?_
  refine wp_iretI (pc := 39) dX2_countOf_39 rfl ?_
  exact k
theorem c_X2_countOf_1 {d : Nat} {h : sm_H} {Q : Option Value → sm_H → Prop} (k : Q (some (.int 2)) h) : Wp mX2_countOf d 0 0 0 (sm_ini [.int (nI 1)] 1) [] h Q := by
  show Wp _ _ _ _ _ [.int (nI 1)] _ _ _
  refine wp_iload_n (pc := 0) 0 dX2_countOf_0 rfl rfl ?_
  refine wp_lookup (pc := 1) (off := 37) 38 dX2_countOf_1 (by decide) (by decide) (by decide) ?_
  refine wp_iconst (pc := 38) (2) dX2_countOf_38 (by decide) ?_
  refine wp_iretI (pc := 39) dX2_countOf_39 rfl ?_
  exact k
theorem c_X2_countOf_2 {d : Nat} {h : sm_H} {Q : Option Value → sm_H → Prop} (k : Q (some (.int 1)) h) : Wp mX2_countOf d 0 0 0 (sm_ini [.int (nI 2)] 1) [] h Q := by
  show Wp _ _ _ _ _ [.int (nI 2)] _ _ _
  refine wp_iload_n (pc := 0) 0 dX2_countOf_0 rfl rfl ?_
  refine wp_lookup (pc := 1) (off := 39) 40 dX2_countOf_1 (by decide) (by decide) (by decide) ?_
  refine wp_iconst (pc := 40) (1) dX2_countOf_40 (by decide) ?_
  refine wp_iretI (pc := 41) dX2_countOf_41 rfl ?_
  exact k
theorem c_X2_countOf_3 {d : Nat} {h : sm_H} {Q : Option Value → sm_H → Prop} (k : Q (some (.int 1)) h) : Wp mX2_countOf d 0 0 0 (sm_ini [.int (nI 3)] 1) [] h Q := by
  show Wp _ _ _ _ _ [.int (nI 3)] _ _ _
  refine wp_iload_n (pc := 0) 0 dX2_countOf_0 rfl rfl ?_
  refine wp_lookup (pc := 1) (off := 39) 40 dX2_countOf_1 (by decide) (by decide) (by decide) ?_
  refine wp_iconst (pc := 40) (1) dX2_countOf_40 (by decide) ?_
  refine wp_iretI (pc := 41) dX2_countOf_41 rfl ?_
  exact k
theorem c_X2_countOf_4 {d : Nat} {h : sm_H} {Q : Option Value → sm_H → Prop} (k : Q (some (.int 1)) h) : Wp mX2_countOf d 0 0 0 (sm_ini [.int (nI 4)] 1) [] h Q := by
  show Wp _ _ _ _ _ [.int (nI 4)] _ _ _
  refine wp_iload_n (pc := 0) 0 dX2_countOf_0 rfl rfl ?_
  refine wp_lookup (pc := 1) (off := 39) 40 dX2_countOf_1 (by decide) (by decide) (by decide) ?_
  refine wp_iconst (pc := 40) (1) dX2_countOf_40 (by decide) ?_
  refine wp_iretI (pc := 41) dX2_countOf_41 rfl ?_
  exact k
theorem c_X2_countOf_5 {d : Nat} {h : sm_H} {Q : Option Value → sm_H → Prop} (k : Q (some (.int 3)) h) : Wp mX2_countOf d 0 0 0 (sm_ini [.int (nI 5)] 1) [] h Q := by
  show Wp _ _ _ _ _ [.int (nI 5)] _ _ _
  refine wp_iload_n (pc := 0) 0 dX2_countOf_0 rfl rfl ?_
  refine wp_lookup (pc := 1) (off := 35) 36 dX2_countOf_1 (by decide) (by decide) (by decide) ?_
  refine wp_iconst (pc := 36) (3) dX2_countOf_36 (by decide) ?_
  refine wp_iretI (pc := 37) dX2_countOf_37 rfl ?_
  exact k
theorem c_X2_countOf_6 {d : Nat} {h : sm_H} {Q : Option Value → sm_H → Prop} (k : Q (some (.int 1)) h) : Wp mX2_countOf d 0 0 0 (sm_ini [.int (nI 6)] 1) [] h Q := by
  show Wp _ _ _ _ _ [.int (nI 6)] _ _ _
  refine wp_iload_n (pc := 0) 0 dX2_countOf_0 rfl rfl ?_
  refine wp_lookup (pc := 1) (off := 39) 40 dX2_countOf_1 (by decide) (by decide) (by decide) ?_
  refine wp_iconst (pc := 40) (1) dX2_countOf_40 (by decide) ?_
  refine wp_iretI (pc := 41) dX2_countOf_41 rfl ?_
  exact k
theorem c_X2_countOf_7 {d : Nat} {h : sm_H} {Q : Option Value → sm_H → Prop} (k : Q (some (.int 1)) h) : Wp mX2_countOf d 0 0 0 (sm_ini [.int (nI 7)] 1) [] h Q := by
  show Wp _ _ _ _ _ [.int (nI 7)] _ _ _
  refine wp_iload_n (pc := 0) 0 dX2_countOf_0 rfl rfl ?_
  refine wp_lookup (pc := 1) (off := 39) 40 dX2_countOf_1 (by decide) (by decide) (by decide) ?_
  refine wp_iconst (pc := 40) (1) dX2_countOf_40 (by decide) ?_
  refine wp_iretI (pc := 41) dX2_countOf_41 rfl ?_
  exact k
theorem c_X2_countOf_8 {d : Nat} {h : sm_H} {Q : Option Value → sm_H → Prop} (k : Q (some (.int 1)) h) : Wp mX2_countOf d 0 0 0 (sm_ini [.int (nI 8)] 1) [] h Q := by
  show Wp _ _ _ _ _ [.int (nI 8)] _ _ _
  refine wp_iload_n (pc := 0) 0 dX2_countOf_0 rfl rfl ?_
  refine wp_lookup (pc := 1) (off := 39) 40 dX2_countOf_1 (by decide) (by decide) (by decide) ?_
  refine wp_iconst (pc := 40) (1) dX2_countOf_40 (by decide) ?_
  refine wp_iretI (pc := 41) dX2_countOf_41 rfl ?_
  exact k
theorem c_X2_countOf_9 {d : Nat} {h : sm_H} {Q : Option Value → sm_H → Prop} (k : Q (some (.int 1)) h) : Wp mX2_countOf d 0 0 0 (sm_ini [.int (nI 9)] 1) [] h Q := by
  show Wp _ _ _ _ _ [.int (nI 9)] _ _ _
  refine wp_iload_n (pc := 0) 0 dX2_countOf_0 rfl rfl ?_
  refine wp_lookup (pc := 1) (off := 39) 40 dX2_countOf_1 (by decide) (by decide) (by decide) ?_
  refine wp_iconst (pc := 40) (1) dX2_countOf_40 (by decide) ?_
  refine wp_iretI (pc := 41) dX2_countOf_41 rfl ?_
  exact k
theorem c_X2_hasNoRoom_0 {d : Nat} {F I : Nat → Nat → Int32} {J : Nat → Nat → Int64} {Q : Option Value → sm_H → Prop} {t : Nat} (ht : isT t) {f : rw_} (hw : WF f) (hT : Tw t f F I) (k : Q (some (.int (b2 (noRm f 0)))) (S0, F, I, J)) : Wp mX2_hasNoRoom (d + 1) 0 0 0 (sm_ini [.ref t, .int (nI 0)] 2) [] (S0, F, I, J) Q := by
  show Wp _ _ _ _ _ [.ref t, .int (nI 0)] _ _ _
  refine wp_iload_n (pc := 0) 1 dX2_hasNoRoom_0 rfl rfl ?_
  refine wp_ifne (pc := 1) 11 dX2_hasNoRoom_1 (by decide) (fun c_1 => ?_) (fun c_1 => ?_)
  · exact absurd (by decide) c_1
  · refine wp_aload_n (pc := 4) 0 dX2_hasNoRoom_4 rfl rfl ?_
    refine wc_V_ (pc := 5) dX2_hasNoRoom_5 lkX2_65 (sm_Rc.o (ci := 4) (tT ht) (by decide) ht.lt) (by decide) (Nat.le_of_ble_eq_true rfl) ?_
    refine c_X5_hasRoom ht hw hT ?_
    refine wp_ifeqB (pc := 8) 26 dX2_hasNoRoom_8 (by decide) (fun c_8 => ?_) (fun c_8 => ?_)
    · refine wp_iconst (pc := 26) (1) dX2_hasNoRoom_26 (by decide) ?_
      refine wp_goto (pc := 27) 31 dX2_hasNoRoom_27 (by decide) ?_
      refine wp_iret (pc := 31) dX2_hasNoRoom_31 ⟨_, rfl, by decide⟩ ?_
      rw [show noRm f 0 = true by unfold noRm; rw [c_8]; rfl] at k
      exact k
    · refine wp_iload_n (pc := 11) 1 dX2_hasNoRoom_11 rfl rfl ?_
      refine wp_iconst (pc := 12) (5) dX2_hasNoRoom_12 (by decide) ?_
      refine wp_icmp_ne (pc := 13) 30 dX2_hasNoRoom_13 (by decide) (fun c_13 => ?_) (fun c_13 => ?_)
      · refine wp_iconst (pc := 30) (0) dX2_hasNoRoom_30 (by decide) ?_
        refine wp_iret (pc := 31) dX2_hasNoRoom_31 ⟨_, rfl, by decide⟩ ?_
        rw [show noRm f 0 = false by unfold noRm; rw [c_8]; rfl] at k
        exact k
      · exact absurd c_13 (by decide)
theorem c_X2_hasNoRoom_1 {d : Nat} {F I : Nat → Nat → Int32} {J : Nat → Nat → Int64} {Q : Option Value → sm_H → Prop} {t : Nat} (ht : isT t) {f : rw_} (hw : WF f) (hT : Tw t f F I) (k : Q (some (.int (b2 (noRm f 1)))) (S0, F, I, J)) : Wp mX2_hasNoRoom (d + 1) 0 0 0 (sm_ini [.ref t, .int (nI 1)] 2) [] (S0, F, I, J) Q := by
  show Wp _ _ _ _ _ [.ref t, .int (nI 1)] _ _ _
  refine wp_iload_n (pc := 0) 1 dX2_hasNoRoom_0 rfl rfl ?_
  refine wp_ifne (pc := 1) 11 dX2_hasNoRoom_1 (by decide) (fun c_1 => ?_) (fun c_1 => ?_)
  · refine wp_iload_n (pc := 11) 1 dX2_hasNoRoom_11 rfl rfl ?_
    refine wp_iconst (pc := 12) (5) dX2_hasNoRoom_12 (by decide) ?_
    refine wp_icmp_ne (pc := 13) 30 dX2_hasNoRoom_13 (by decide) (fun c_13 => ?_) (fun c_13 => ?_)
    · refine wp_iconst (pc := 30) (0) dX2_hasNoRoom_30 (by decide) ?_
      refine wp_iret (pc := 31) dX2_hasNoRoom_31 ⟨_, rfl, by decide⟩ ?_
      exact k
    · exact absurd c_13 (by decide)
  · exact absurd c_1 (by decide)
theorem c_X2_hasNoRoom_2 {d : Nat} {F I : Nat → Nat → Int32} {J : Nat → Nat → Int64} {Q : Option Value → sm_H → Prop} {t : Nat} (ht : isT t) {f : rw_} (hw : WF f) (hT : Tw t f F I) (k : Q (some (.int (b2 (noRm f 2)))) (S0, F, I, J)) : Wp mX2_hasNoRoom (d + 1) 0 0 0 (sm_ini [.ref t, .int (nI 2)] 2) [] (S0, F, I, J) Q := by
  show Wp _ _ _ _ _ [.ref t, .int (nI 2)] _ _ _
  refine wp_iload_n (pc := 0) 1 dX2_hasNoRoom_0 rfl rfl ?_
  refine wp_ifne (pc := 1) 11 dX2_hasNoRoom_1 (by decide) (fun c_1 => ?_) (fun c_1 => ?_)
  · refine wp_iload_n (pc := 11) 1 dX2_hasNoRoom_11 rfl rfl ?_
    refine wp_iconst (pc := 12) (5) dX2_hasNoRoom_12 (by decide) ?_
    refine wp_icmp_ne (pc := 13) 30 dX2_hasNoRoom_13 (by decide) (fun c_13 => ?_) (fun c_13 => ?_)
    · refine wp_iconst (pc := 30) (0) dX2_hasNoRoom_30 (by decide) ?_
      refine wp_iret (pc := 31) dX2_hasNoRoom_31 ⟨_, rfl, by decide⟩ ?_
      exact k
    · exact absurd c_13 (by decide)
  · exact absurd c_1 (by decide)
theorem c_X2_hasNoRoom_3 {d : Nat} {F I : Nat → Nat → Int32} {J : Nat → Nat → Int64} {Q : Option Value → sm_H → Prop} {t : Nat} (ht : isT t) {f : rw_} (hw : WF f) (hT : Tw t f F I) (k : Q (some (.int (b2 (noRm f 3)))) (S0, F, I, J)) : Wp mX2_hasNoRoom (d + 1) 0 0 0 (sm_ini [.ref t, .int (nI 3)] 2) [] (S0, F, I, J) Q := by
  show Wp _ _ _ _ _ [.ref t, .int (nI 3)] _ _ _
  refine wp_iload_n (pc := 0) 1 dX2_hasNoRoom_0 rfl rfl ?_
  refine wp_ifne (pc := 1) 11 dX2_hasNoRoom_1 (by decide) (fun c_1 => ?_) (fun c_1 => ?_)
  · refine wp_iload_n (pc := 11) 1 dX2_hasNoRoom_11 rfl rfl ?_
    refine wp_iconst (pc := 12) (5) dX2_hasNoRoom_12 (by decide) ?_
    refine wp_icmp_ne (pc := 13) 30 dX2_hasNoRoom_13 (by decide) (fun c_13 => ?_) (fun c_13 => ?_)
    · refine wp_iconst (pc := 30) (0) dX2_hasNoRoom_30 (by decide) ?_
      refine wp_iret (pc := 31) dX2_hasNoRoom_31 ⟨_, rfl, by decide⟩ ?_
      exact k
    · exact absurd c_13 (by decide)
  · exact absurd c_1 (by decide)
theorem c_X2_hasNoRoom_4 {d : Nat} {F I : Nat → Nat → Int32} {J : Nat → Nat → Int64} {Q : Option Value → sm_H → Prop} {t : Nat} (ht : isT t) {f : rw_} (hw : WF f) (hT : Tw t f F I) (k : Q (some (.int (b2 (noRm f 4)))) (S0, F, I, J)) : Wp mX2_hasNoRoom (d + 1) 0 0 0 (sm_ini [.ref t, .int (nI 4)] 2) [] (S0, F, I, J) Q := by
  show Wp _ _ _ _ _ [.ref t, .int (nI 4)] _ _ _
  refine wp_iload_n (pc := 0) 1 dX2_hasNoRoom_0 rfl rfl ?_
  refine wp_ifne (pc := 1) 11 dX2_hasNoRoom_1 (by decide) (fun c_1 => ?_) (fun c_1 => ?_)
  · refine wp_iload_n (pc := 11) 1 dX2_hasNoRoom_11 rfl rfl ?_
    refine wp_iconst (pc := 12) (5) dX2_hasNoRoom_12 (by decide) ?_
    refine wp_icmp_ne (pc := 13) 30 dX2_hasNoRoom_13 (by decide) (fun c_13 => ?_) (fun c_13 => ?_)
    · refine wp_iconst (pc := 30) (0) dX2_hasNoRoom_30 (by decide) ?_
      refine wp_iret (pc := 31) dX2_hasNoRoom_31 ⟨_, rfl, by decide⟩ ?_
      exact k
    · exact absurd c_13 (by decide)
  · exact absurd c_1 (by decide)
theorem c_X2_hasNoRoom_5 {d : Nat} {F I : Nat → Nat → Int32} {J : Nat → Nat → Int64} {Q : Option Value → sm_H → Prop} {t : Nat} (ht : isT t) {f : rw_} (hw : WF f) (hT : Tw t f F I) (k : Q (some (.int (b2 (noRm f 5)))) (S0, F, I, J)) : Wp mX2_hasNoRoom (d + 1) 0 0 0 (sm_ini [.ref t, .int (nI 5)] 2) [] (S0, F, I, J) Q := by
  show Wp _ _ _ _ _ [.ref t, .int (nI 5)] _ _ _
  refine wp_iload_n (pc := 0) 1 dX2_hasNoRoom_0 rfl rfl ?_
  refine wp_ifne (pc := 1) 11 dX2_hasNoRoom_1 (by decide) (fun c_1 => ?_) (fun c_1 => ?_)
  · refine wp_iload_n (pc := 11) 1 dX2_hasNoRoom_11 rfl rfl ?_
    refine wp_iconst (pc := 12) (5) dX2_hasNoRoom_12 (by decide) ?_
    refine wp_icmp_ne (pc := 13) 30 dX2_hasNoRoom_13 (by decide) (fun c_13 => ?_) (fun c_13 => ?_)
    · exact absurd (by decide) c_13
    · refine wp_aload_n (pc := 16) 0 dX2_hasNoRoom_16 rfl rfl ?_
      refine wq_getR (pc := 17) 71 10 dX2_hasNoRoom_17 (tT ht) flX2_71 rfl rfl ht.lt (ht.ltn 5) ?_
      refine wc_V_ (pc := 20) dX2_hasNoRoom_20 lkX2_75 (sm_Rc.o (ci := 0) (tT5 ht) (by decide) (ht.ltn 5)) (by decide) (Nat.le_of_ble_eq_true rfl) ?_
      refine c_X0_hasRoom ht hw hT ?_
      refine wp_ifneB (pc := 23) 30 dX2_hasNoRoom_23 (by decide) (fun c_23 => ?_) (fun c_23 => ?_)
      · refine wp_iconst (pc := 30) (0) dX2_hasNoRoom_30 (by decide) ?_
        refine wp_iret (pc := 31) dX2_hasNoRoom_31 ⟨_, rfl, by decide⟩ ?_
        rw [show noRm f 5 = false by unfold noRm; rw [c_23]; rfl] at k
        exact k
      · refine wp_iconst (pc := 26) (1) dX2_hasNoRoom_26 (by decide) ?_
        refine wp_goto (pc := 27) 31 dX2_hasNoRoom_27 (by decide) ?_
        refine wp_iret (pc := 31) dX2_hasNoRoom_31 ⟨_, rfl, by decide⟩ ?_
        rw [show noRm f 5 = true by unfold noRm; rw [c_23]; rfl] at k
        exact k
  · exact absurd c_1 (by decide)
theorem c_X2_hasNoRoom_6 {d : Nat} {F I : Nat → Nat → Int32} {J : Nat → Nat → Int64} {Q : Option Value → sm_H → Prop} {t : Nat} (ht : isT t) {f : rw_} (hw : WF f) (hT : Tw t f F I) (k : Q (some (.int (b2 (noRm f 6)))) (S0, F, I, J)) : Wp mX2_hasNoRoom (d + 1) 0 0 0 (sm_ini [.ref t, .int (nI 6)] 2) [] (S0, F, I, J) Q := by
  show Wp _ _ _ _ _ [.ref t, .int (nI 6)] _ _ _
  refine wp_iload_n (pc := 0) 1 dX2_hasNoRoom_0 rfl rfl ?_
  refine wp_ifne (pc := 1) 11 dX2_hasNoRoom_1 (by decide) (fun c_1 => ?_) (fun c_1 => ?_)
  · refine wp_iload_n (pc := 11) 1 dX2_hasNoRoom_11 rfl rfl ?_
    refine wp_iconst (pc := 12) (5) dX2_hasNoRoom_12 (by decide) ?_
    refine wp_icmp_ne (pc := 13) 30 dX2_hasNoRoom_13 (by decide) (fun c_13 => ?_) (fun c_13 => ?_)
    · refine wp_iconst (pc := 30) (0) dX2_hasNoRoom_30 (by decide) ?_
      refine wp_iret (pc := 31) dX2_hasNoRoom_31 ⟨_, rfl, by decide⟩ ?_
      exact k
    · exact absurd c_13 (by decide)
  · exact absurd c_1 (by decide)
theorem c_X2_hasNoRoom_7 {d : Nat} {F I : Nat → Nat → Int32} {J : Nat → Nat → Int64} {Q : Option Value → sm_H → Prop} {t : Nat} (ht : isT t) {f : rw_} (hw : WF f) (hT : Tw t f F I) (k : Q (some (.int (b2 (noRm f 7)))) (S0, F, I, J)) : Wp mX2_hasNoRoom (d + 1) 0 0 0 (sm_ini [.ref t, .int (nI 7)] 2) [] (S0, F, I, J) Q := by
  show Wp _ _ _ _ _ [.ref t, .int (nI 7)] _ _ _
  refine wp_iload_n (pc := 0) 1 dX2_hasNoRoom_0 rfl rfl ?_
  refine wp_ifne (pc := 1) 11 dX2_hasNoRoom_1 (by decide) (fun c_1 => ?_) (fun c_1 => ?_)
  · refine wp_iload_n (pc := 11) 1 dX2_hasNoRoom_11 rfl rfl ?_
    refine wp_iconst (pc := 12) (5) dX2_hasNoRoom_12 (by decide) ?_
    refine wp_icmp_ne (pc := 13) 30 dX2_hasNoRoom_13 (by decide) (fun c_13 => ?_) (fun c_13 => ?_)
    · refine wp_iconst (pc := 30) (0) dX2_hasNoRoom_30 (by decide) ?_
      refine wp_iret (pc := 31) dX2_hasNoRoom_31 ⟨_, rfl, by decide⟩ ?_
      exact k
    · exact absurd c_13 (by decide)
  · exact absurd c_1 (by decide)
theorem c_X2_hasNoRoom_8 {d : Nat} {F I : Nat → Nat → Int32} {J : Nat → Nat → Int64} {Q : Option Value → sm_H → Prop} {t : Nat} (ht : isT t) {f : rw_} (hw : WF f) (hT : Tw t f F I) (k : Q (some (.int (b2 (noRm f 8)))) (S0, F, I, J)) : Wp mX2_hasNoRoom (d + 1) 0 0 0 (sm_ini [.ref t, .int (nI 8)] 2) [] (S0, F, I, J) Q := by
  show Wp _ _ _ _ _ [.ref t, .int (nI 8)] _ _ _
  refine wp_iload_n (pc := 0) 1 dX2_hasNoRoom_0 rfl rfl ?_
  refine wp_ifne (pc := 1) 11 dX2_hasNoRoom_1 (by decide) (fun c_1 => ?_) (fun c_1 => ?_)
  · refine wp_iload_n (pc := 11) 1 dX2_hasNoRoom_11 rfl rfl ?_
    refine wp_iconst (pc := 12) (5) dX2_hasNoRoom_12 (by decide) ?_
    refine wp_icmp_ne (pc := 13) 30 dX2_hasNoRoom_13 (by decide) (fun c_13 => ?_) (fun c_13 => ?_)
    · refine wp_iconst (pc := 30) (0) dX2_hasNoRoom_30 (by decide) ?_
      refine wp_iret (pc := 31) dX2_hasNoRoom_31 ⟨_, rfl, by decide⟩ ?_
      exact k
    · exact absurd c_13 (by decide)
  · exact absurd c_1 (by decide)
theorem c_X2_hasNoRoom_9 {d : Nat} {F I : Nat → Nat → Int32} {J : Nat → Nat → Int64} {Q : Option Value → sm_H → Prop} {t : Nat} (ht : isT t) {f : rw_} (hw : WF f) (hT : Tw t f F I) (k : Q (some (.int (b2 (noRm f 9)))) (S0, F, I, J)) : Wp mX2_hasNoRoom (d + 1) 0 0 0 (sm_ini [.ref t, .int (nI 9)] 2) [] (S0, F, I, J) Q := by
  show Wp _ _ _ _ _ [.ref t, .int (nI 9)] _ _ _
  refine wp_iload_n (pc := 0) 1 dX2_hasNoRoom_0 rfl rfl ?_
  refine wp_ifne (pc := 1) 11 dX2_hasNoRoom_1 (by decide) (fun c_1 => ?_) (fun c_1 => ?_)
  · refine wp_iload_n (pc := 11) 1 dX2_hasNoRoom_11 rfl rfl ?_
    refine wp_iconst (pc := 12) (5) dX2_hasNoRoom_12 (by decide) ?_
    refine wp_icmp_ne (pc := 13) 30 dX2_hasNoRoom_13 (by decide) (fun c_13 => ?_) (fun c_13 => ?_)
    · refine wp_iconst (pc := 30) (0) dX2_hasNoRoom_30 (by decide) ?_
      refine wp_iret (pc := 31) dX2_hasNoRoom_31 ⟨_, rfl, by decide⟩ ?_
      exact k
    · exact absurd c_13 (by decide)
  · exact absurd c_1 (by decide)
theorem c_X2_mostOf_0_0 {d : Nat} {F I : Nat → Nat → Int32} {J : Nat → Nat → Int64} {Q : Option Value → sm_H → Prop} {t : Nat} (ht : isT t) {f : rw_} (hw : WF f) (hT : Tw t f F I)  (k : Q (some (.int (nI 100 - 1))) (S0, F, I, J)) : Wp mX2_mostOf (d + 1) 0 0 0 (sm_ini [.ref 37, .ref t, .int (nI 0), .int 0] 4) [] (S0, F, I, J) Q := by
  show Wp _ _ _ _ _ [.ref 37, .ref t, .int (nI 0), .int 0] _ _ _
  refine wp_iload_n (pc := 0) 2 dX2_mostOf_0 rfl rfl ?_
  refine wp_tswI (pc := 1) 0 56 dX2_mostOf_1 (by decide) (by decide) rfl (by decide) ?_
  refine wp_iload_n (pc := 56) 3 dX2_mostOf_56 rfl rfl ?_
  refine wp_ifne (pc := 57) 67 dX2_mostOf_57 (by decide) (fun c_57 => ?_) (fun c_57 => ?_)
  · exact absurd (by decide) c_57
  · refine wp_iconst (pc := 60) (0) dX2_mostOf_60 (by decide) ?_
    refine wc_S_I (pc := 61) dX2_mostOf_61 lkX2_78 (by decide) (Nat.le_of_ble_eq_true rfl) ?_
    refine c_X5_most (w := 0) (by decide) ?_
    refine wp_int (y := 99) (by decide) ?_
    refine wp_goto (pc := 64) 68 dX2_mostOf_64 (by decide) ?_
    refine wp_iretI (pc := 68) dX2_mostOf_68 rfl ?_
    rw [show nI 100 - 1 = ((99 : Int32)) by decide] at k
    exact k
theorem c_X2_mostOf_0_1 {d : Nat} {F I : Nat → Nat → Int32} {J : Nat → Nat → Int64} {Q : Option Value → sm_H → Prop} {t : Nat} (ht : isT t) {f : rw_} (hw : WF f) (hT : Tw t f F I)  (k : Q (some (.int (nI 4 - 1))) (S0, F, I, J)) : Wp mX2_mostOf (d + 1) 0 0 0 (sm_ini [.ref 37, .ref t, .int (nI 0), .int 1] 4) [] (S0, F, I, J) Q := by
  show Wp _ _ _ _ _ [.ref 37, .ref t, .int (nI 0), .int 1] _ _ _
  refine wp_iload_n (pc := 0) 2 dX2_mostOf_0 rfl rfl ?_
  refine wp_tswI (pc := 1) 0 56 dX2_mostOf_1 (by decide) (by decide) rfl (by decide) ?_
  refine wp_iload_n (pc := 56) 3 dX2_mostOf_56 rfl rfl ?_
  refine wp_ifne (pc := 57) 67 dX2_mostOf_57 (by decide) (fun c_57 => ?_) (fun c_57 => ?_)
  · refine wp_iconst (pc := 67) (3) dX2_mostOf_67 (by decide) ?_
    refine wp_iretI (pc := 68) dX2_mostOf_68 rfl ?_
    rw [show nI 4 - 1 = ((3 : Int32)) by decide] at k
    exact k
  · exact absurd c_57 (by decide)
theorem c_X2_mostOf_1_0 {d : Nat} {F I : Nat → Nat → Int32} {J : Nat → Nat → Int64} {Q : Option Value → sm_H → Prop} {t : Nat} (ht : isT t) {f : rw_} (hw : WF f) (hT : Tw t f F I)  (k : Q (some (.int (nI (f 68) - 1))) (S0, F, I, J)) : Wp mX2_mostOf (d + 1) 0 0 0 (sm_ini [.ref 37, .ref t, .int (nI 1), .int 0] 4) [] (S0, F, I, J) Q := by
  show Wp _ _ _ _ _ [.ref 37, .ref t, .int (nI 1), .int 0] _ _ _
  refine wp_iload_n (pc := 0) 2 dX2_mostOf_0 rfl rfl ?_
  refine wp_tswI (pc := 1) 1 69 dX2_mostOf_1 (by decide) (by decide) rfl (by decide) ?_
  refine wp_iload_n (pc := 69) 3 dX2_mostOf_69 rfl rfl ?_
  refine wp_ifne (pc := 70) 82 dX2_mostOf_70 (by decide) (fun c_70 => ?_) (fun c_70 => ?_)
  · exact absurd (by decide) c_70
  · refine wp_aload_n (pc := 73) 1 dX2_mostOf_73 rfl rfl ?_
    refine wq_getI (pc := 74) 81 0 dX2_mostOf_74 (tT ht) flX2_81 rfl ht.lt ?_
    refine wp_int hT.n ?_
    refine wp_iconst (pc := 77) (1) dX2_mostOf_77 (by decide) ?_
    refine wp_isub (pc := 78) dX2_mostOf_78 ?_
    refine wp_goto (pc := 79) 92 dX2_mostOf_79 (by decide) ?_
    refine wp_iretI (pc := 92) dX2_mostOf_92 rfl ?_
    exact k
theorem c_X2_mostOf_1_1 {d : Nat} {F I : Nat → Nat → Int32} {J : Nat → Nat → Int64} {Q : Option Value → sm_H → Prop} {t : Nat} (ht : isT t) {f : rw_} (hw : WF f) (hT : Tw t f F I) {a : Nat} (h0 : I 38 0 = nI a) (k : Q (some (.int (nI a - 1))) (S0, F, I, J)) : Wp mX2_mostOf (d + 1) 0 0 0 (sm_ini [.ref 37, .ref t, .int (nI 1), .int 1] 4) [] (S0, F, I, J) Q := by
  show Wp _ _ _ _ _ [.ref 37, .ref t, .int (nI 1), .int 1] _ _ _
  refine wp_iload_n (pc := 0) 2 dX2_mostOf_0 rfl rfl ?_
  refine wp_tswI (pc := 1) 1 69 dX2_mostOf_1 (by decide) (by decide) rfl (by decide) ?_
  refine wp_iload_n (pc := 69) 3 dX2_mostOf_69 rfl rfl ?_
  refine wp_ifne (pc := 70) 82 dX2_mostOf_70 (by decide) (fun c_70 => ?_) (fun c_70 => ?_)
  · refine wp_aload_n (pc := 82) 0 dX2_mostOf_82 rfl rfl ?_
    refine wq_getR (pc := 83) 27 5 dX2_mostOf_83 s0_37 flX2_27 rfl rfl (by decide) (by decide) ?_
    refine wp_iconst (pc := 86) (0) dX2_mostOf_86 (by decide) ?_
    refine wc_SN_RI (pc := 87) dX2_mostOf_87 lkX2_84 (by decide) (Nat.le_of_ble_eq_true rfl) ?_
    refine c_X6_at (n := 0) s0_38 (by decide) (by decide) (by decide) ?_
    refine wp_int h0 ?_
    refine wp_iconst (pc := 90) (1) dX2_mostOf_90 (by decide) ?_
    refine wp_isub (pc := 91) dX2_mostOf_91 ?_
    refine wp_iretI (pc := 92) dX2_mostOf_92 rfl ?_
    exact k
  · exact absurd c_70 (by decide)
theorem c_X2_mostOf_2_0 {d : Nat} {F I : Nat → Nat → Int32} {J : Nat → Nat → Int64} {Q : Option Value → sm_H → Prop} {t : Nat} (ht : isT t) {f : rw_} (hw : WF f) (hT : Tw t f F I)  (k : Q (some (.int (nI (f 68) - 1))) (S0, F, I, J)) : Wp mX2_mostOf (d + 1) 0 0 0 (sm_ini [.ref 37, .ref t, .int (nI 2), .int 0] 4) [] (S0, F, I, J) Q := by
  show Wp _ _ _ _ _ [.ref 37, .ref t, .int (nI 2), .int 0] _ _ _
  refine wp_iload_n (pc := 0) 2 dX2_mostOf_0 rfl rfl ?_
  refine wp_tswI (pc := 1) 2 123 dX2_mostOf_1 (by decide) (by decide) rfl (by decide) ?_
  refine wp_aload_n (pc := 123) 1 dX2_mostOf_123 rfl rfl ?_
  refine wq_getI (pc := 124) 81 0 dX2_mostOf_124 (tT ht) flX2_81 rfl ht.lt ?_
  refine wp_int hT.n ?_
  refine wp_iconst (pc := 127) (1) dX2_mostOf_127 (by decide) ?_
  refine wp_isub (pc := 128) dX2_mostOf_128 ?_
  refine wp_iretI (pc := 129) dX2_mostOf_129 rfl ?_
  exact k
theorem c_X2_mostOf_3_0 {d : Nat} {F I : Nat → Nat → Int32} {J : Nat → Nat → Int64} {Q : Option Value → sm_H → Prop} {t : Nat} (ht : isT t) {f : rw_} (hw : WF f) (hT : Tw t f F I)  (k : Q (some (.int (nI (f 68) - 1))) (S0, F, I, J)) : Wp mX2_mostOf (d + 1) 0 0 0 (sm_ini [.ref 37, .ref t, .int (nI 3), .int 0] 4) [] (S0, F, I, J) Q := by
  show Wp _ _ _ _ _ [.ref 37, .ref t, .int (nI 3), .int 0] _ _ _
  refine wp_iload_n (pc := 0) 2 dX2_mostOf_0 rfl rfl ?_
  refine wp_tswI (pc := 1) 3 123 dX2_mostOf_1 (by decide) (by decide) rfl (by decide) ?_
  refine wp_aload_n (pc := 123) 1 dX2_mostOf_123 rfl rfl ?_
  refine wq_getI (pc := 124) 81 0 dX2_mostOf_124 (tT ht) flX2_81 rfl ht.lt ?_
  refine wp_int hT.n ?_
  refine wp_iconst (pc := 127) (1) dX2_mostOf_127 (by decide) ?_
  refine wp_isub (pc := 128) dX2_mostOf_128 ?_
  refine wp_iretI (pc := 129) dX2_mostOf_129 rfl ?_
  exact k
theorem c_X2_mostOf_4_0 {d : Nat} {F I : Nat → Nat → Int32} {J : Nat → Nat → Int64} {Q : Option Value → sm_H → Prop} {t : Nat} (ht : isT t) {f : rw_} (hw : WF f) (hT : Tw t f F I)  (k : Q (some (.int (nI (f 68) - 1))) (S0, F, I, J)) : Wp mX2_mostOf (d + 1) 0 0 0 (sm_ini [.ref 37, .ref t, .int (nI 4), .int 0] 4) [] (S0, F, I, J) Q := by
  show Wp _ _ _ _ _ [.ref 37, .ref t, .int (nI 4), .int 0] _ _ _
  refine wp_iload_n (pc := 0) 2 dX2_mostOf_0 rfl rfl ?_
  refine wp_tswI (pc := 1) 4 123 dX2_mostOf_1 (by decide) (by decide) rfl (by decide) ?_
  refine wp_aload_n (pc := 123) 1 dX2_mostOf_123 rfl rfl ?_
  refine wq_getI (pc := 124) 81 0 dX2_mostOf_124 (tT ht) flX2_81 rfl ht.lt ?_
  refine wp_int hT.n ?_
  refine wp_iconst (pc := 127) (1) dX2_mostOf_127 (by decide) ?_
  refine wp_isub (pc := 128) dX2_mostOf_128 ?_
  refine wp_iretI (pc := 129) dX2_mostOf_129 rfl ?_
  exact k
theorem c_X2_mostOf_5_0 {d : Nat} {F I : Nat → Nat → Int32} {J : Nat → Nat → Int64} {Q : Option Value → sm_H → Prop} {t : Nat} (ht : isT t) {f : rw_} (hw : WF f) (hT : Tw t f F I)  (k : Q (some (.int (nI 6 - 1))) (S0, F, I, J)) : Wp mX2_mostOf (d + 1) 0 0 0 (sm_ini [.ref 37, .ref t, .int (nI 5), .int 0] 4) [] (S0, F, I, J) Q := by
  show Wp _ _ _ _ _ [.ref 37, .ref t, .int (nI 5), .int 0] _ _ _
  refine wp_iload_n (pc := 0) 2 dX2_mostOf_0 rfl rfl ?_
  refine wp_tswI (pc := 1) 5 93 dX2_mostOf_1 (by decide) (by decide) rfl (by decide) ?_
  refine wp_iload_n (pc := 93) 3 dX2_mostOf_93 rfl rfl ?_
  refine wp_ifne (pc := 94) 101 dX2_mostOf_94 (by decide) (fun c_94 => ?_) (fun c_94 => ?_)
  · exact absurd (by decide) c_94
  · refine wp_iconst (pc := 97) (5) dX2_mostOf_97 (by decide) ?_
    refine wp_goto (pc := 98) 113 dX2_mostOf_98 (by decide) ?_
    refine wp_iretI (pc := 113) dX2_mostOf_113 rfl ?_
    rw [show nI 6 - 1 = ((5 : Int32)) by decide] at k
    exact k
theorem c_X2_mostOf_5_1 {d : Nat} {F I : Nat → Nat → Int32} {J : Nat → Nat → Int64} {Q : Option Value → sm_H → Prop} {t : Nat} (ht : isT t) {f : rw_} (hw : WF f) (hT : Tw t f F I)  (k : Q (some (.int (nI 10 - 1))) (S0, F, I, J)) : Wp mX2_mostOf (d + 1) 0 0 0 (sm_ini [.ref 37, .ref t, .int (nI 5), .int 1] 4) [] (S0, F, I, J) Q := by
  show Wp _ _ _ _ _ [.ref 37, .ref t, .int (nI 5), .int 1] _ _ _
  refine wp_iload_n (pc := 0) 2 dX2_mostOf_0 rfl rfl ?_
  refine wp_tswI (pc := 1) 5 93 dX2_mostOf_1 (by decide) (by decide) rfl (by decide) ?_
  refine wp_iload_n (pc := 93) 3 dX2_mostOf_93 rfl rfl ?_
  refine wp_ifne (pc := 94) 101 dX2_mostOf_94 (by decide) (fun c_94 => ?_) (fun c_94 => ?_)
  · refine wp_iload_n (pc := 101) 3 dX2_mostOf_101 rfl rfl ?_
    refine wp_iconst (pc := 102) (1) dX2_mostOf_102 (by decide) ?_
    refine wp_icmp_ne (pc := 103) 111 dX2_mostOf_103 (by decide) (fun c_103 => ?_) (fun c_103 => ?_)
    · exact absurd (by decide) c_103
    · refine wp_bipush (pc := 106) (9) dX2_mostOf_106 (by decide) ?_
      refine wp_goto (pc := 108) 113 dX2_mostOf_108 (by decide) ?_
      refine wp_iretI (pc := 113) dX2_mostOf_113 rfl ?_
      rw [show nI 10 - 1 = ((9 : Int32)) by decide] at k
      exact k
  · exact absurd c_94 (by decide)
theorem c_X2_mostOf_5_2 {d : Nat} {F I : Nat → Nat → Int32} {J : Nat → Nat → Int64} {Q : Option Value → sm_H → Prop} {t : Nat} (ht : isT t) {f : rw_} (hw : WF f) (hT : Tw t f F I)  (k : Q (some (.int (nI 8 - 1))) (S0, F, I, J)) : Wp mX2_mostOf (d + 1) 0 0 0 (sm_ini [.ref 37, .ref t, .int (nI 5), .int 2] 4) [] (S0, F, I, J) Q := by
  show Wp _ _ _ _ _ [.ref 37, .ref t, .int (nI 5), .int 2] _ _ _
  refine wp_iload_n (pc := 0) 2 dX2_mostOf_0 rfl rfl ?_
  refine wp_tswI (pc := 1) 5 93 dX2_mostOf_1 (by decide) (by decide) rfl (by decide) ?_
  refine wp_iload_n (pc := 93) 3 dX2_mostOf_93 rfl rfl ?_
  refine wp_ifne (pc := 94) 101 dX2_mostOf_94 (by decide) (fun c_94 => ?_) (fun c_94 => ?_)
  · refine wp_iload_n (pc := 101) 3 dX2_mostOf_101 rfl rfl ?_
    refine wp_iconst (pc := 102) (1) dX2_mostOf_102 (by decide) ?_
    refine wp_icmp_ne (pc := 103) 111 dX2_mostOf_103 (by decide) (fun c_103 => ?_) (fun c_103 => ?_)
    · refine wp_bipush (pc := 111) (7) dX2_mostOf_111 (by decide) ?_
      refine wp_iretI (pc := 113) dX2_mostOf_113 rfl ?_
      rw [show nI 8 - 1 = ((7 : Int32)) by decide] at k
      exact k
    · exact absurd c_103 (by decide)
  · exact absurd c_94 (by decide)
theorem c_X2_mostOf_6_0 {d : Nat} {F I : Nat → Nat → Int32} {J : Nat → Nat → Int64} {Q : Option Value → sm_H → Prop} {t : Nat} (ht : isT t) {f : rw_} (hw : WF f) (hT : Tw t f F I)  (k : Q (some (.int (nI 4 - 1))) (S0, F, I, J)) : Wp mX2_mostOf (d + 1) 0 0 0 (sm_ini [.ref 37, .ref t, .int (nI 6), .int 0] 4) [] (S0, F, I, J) Q := by
  show Wp _ _ _ _ _ [.ref 37, .ref t, .int (nI 6), .int 0] _ _ _
  refine wp_iload_n (pc := 0) 2 dX2_mostOf_0 rfl rfl ?_
  refine wp_tswI (pc := 1) 6 114 dX2_mostOf_1 (by decide) (by decide) rfl (by decide) ?_
  refine wp_iconst (pc := 114) (3) dX2_mostOf_114 (by decide) ?_
  refine wp_iretI (pc := 115) dX2_mostOf_115 rfl ?_
  rw [show nI 4 - 1 = ((3 : Int32)) by decide] at k
  exact k
theorem c_X2_mostOf_7_0 {d : Nat} {F I : Nat → Nat → Int32} {J : Nat → Nat → Int64} {Q : Option Value → sm_H → Prop} {t : Nat} (ht : isT t) {f : rw_} (hw : WF f) (hT : Tw t f F I)  (k : Q (some (.int (nI 8 - 1))) (S0, F, I, J)) : Wp mX2_mostOf (d + 1) 0 0 0 (sm_ini [.ref 37, .ref t, .int (nI 7), .int 0] 4) [] (S0, F, I, J) Q := by
  show Wp _ _ _ _ _ [.ref 37, .ref t, .int (nI 7), .int 0] _ _ _
  refine wp_iload_n (pc := 0) 2 dX2_mostOf_0 rfl rfl ?_
  refine wp_tswI (pc := 1) 7 120 dX2_mostOf_1 (by decide) (by decide) rfl (by decide) ?_
  refine wp_bipush (pc := 120) (7) dX2_mostOf_120 (by decide) ?_
  refine wp_iretI (pc := 122) dX2_mostOf_122 rfl ?_
  rw [show nI 8 - 1 = ((7 : Int32)) by decide] at k
  exact k
theorem c_X2_mostOf_8_0 {d : Nat} {F I : Nat → Nat → Int32} {J : Nat → Nat → Int64} {Q : Option Value → sm_H → Prop} {t : Nat} (ht : isT t) {f : rw_} (hw : WF f) (hT : Tw t f F I)  (k : Q (some (.int (nI 8 - 1))) (S0, F, I, J)) : Wp mX2_mostOf (d + 1) 0 0 0 (sm_ini [.ref 37, .ref t, .int (nI 8), .int 0] 4) [] (S0, F, I, J) Q := by
  show Wp _ _ _ _ _ [.ref 37, .ref t, .int (nI 8), .int 0] _ _ _
  refine wp_iload_n (pc := 0) 2 dX2_mostOf_0 rfl rfl ?_
  refine wp_tswI (pc := 1) 8 120 dX2_mostOf_1 (by decide) (by decide) rfl (by decide) ?_
  refine wp_bipush (pc := 120) (7) dX2_mostOf_120 (by decide) ?_
  refine wp_iretI (pc := 122) dX2_mostOf_122 rfl ?_
  rw [show nI 8 - 1 = ((7 : Int32)) by decide] at k
  exact k
theorem c_X2_mostOf_9_0 {d : Nat} {F I : Nat → Nat → Int32} {J : Nat → Nat → Int64} {Q : Option Value → sm_H → Prop} {t : Nat} (ht : isT t) {f : rw_} (hw : WF f) (hT : Tw t f F I)  (k : Q (some (.int (nI 1000 - 1))) (S0, F, I, J)) : Wp mX2_mostOf (d + 1) 0 0 0 (sm_ini [.ref 37, .ref t, .int (nI 9), .int 0] 4) [] (S0, F, I, J) Q := by
  show Wp _ _ _ _ _ [.ref 37, .ref t, .int (nI 9), .int 0] _ _ _
  refine wp_iload_n (pc := 0) 2 dX2_mostOf_0 rfl rfl ?_
  refine wp_tswI (pc := 1) 9 116 dX2_mostOf_1 (by decide) (by decide) rfl (by decide) ?_
  refine wp_sipush (pc := 116) (999) dX2_mostOf_116 (by decide) ?_
  refine wp_iretI (pc := 119) dX2_mostOf_119 rfl ?_
  rw [show nI 1000 - 1 = ((999 : Int32)) by decide] at k
  exact k
theorem c_X2_carryOut_0 {d : Nat} {F I : Nat → Nat → Int32} {J : Nat → Nat → Int64} {Q : Option Value → sm_H → Prop} {t : Nat} (ht : isT t) {f : rw_} (hw : WF f) (hT : Tw t f F I) {a b e : Nat} (h0 : I 38 0 = nI a) (h1 : I 38 1 = nI b) (hn : f 68 < 10) (k : ∀ F1 I1 : Nat → Nat → Int32, Tw t (cry f 0 a b e) F1 I1 → Fr t F I F1 I1 → Q none (S0, F1, I1, J)) : Wp mX2_carryOut (d + 2) 0 0 0 (sm_ini [.ref 37, .ref t, .int (nI 0)] 5) [] (S0, F, I, J) Q := by
  show Wp _ _ _ _ _ [.ref 37, .ref t, .int (nI 0), .null, .null] _ _ _
  refine wp_aload_n (pc := 0) 0 dX2_carryOut_0 rfl rfl ?_
  refine wq_getR (pc := 1) 27 5 dX2_carryOut_1 s0_37 flX2_27 rfl rfl (by decide) (by decide) ?_
  refine wp_iconst (pc := 4) (0) dX2_carryOut_4 (by decide) ?_
  refine wc_SN_RI (pc := 5) dX2_carryOut_5 lkX2_84 (by decide) (Nat.le_of_ble_eq_true rfl) ?_
  refine c_X6_at (n := 0) s0_38 (by decide) (by decide) (by decide) ?_
  refine wp_int h0 ?_
  refine wp_istore_n (pc := 8) 3 dX2_carryOut_8 rfl (by decide) rfl ?_
  refine wp_aload_n (pc := 9) 0 dX2_carryOut_9 rfl rfl ?_
  refine wq_getR (pc := 10) 27 5 dX2_carryOut_10 s0_37 flX2_27 rfl rfl (by decide) (by decide) ?_
  refine wp_iconst (pc := 13) (1) dX2_carryOut_13 (by decide) ?_
  refine wc_SN_RI (pc := 14) dX2_carryOut_14 lkX2_84 (by decide) (Nat.le_of_ble_eq_true rfl) ?_
  refine c_X6_at (n := 1) s0_38 (by decide) (by decide) (by decide) ?_
  refine wp_int h1 ?_
  refine wp_istore (pc := 17) 4 dX2_carryOut_17 (by decide) rfl ?_
  refine wp_iload_n (pc := 19) 2 dX2_carryOut_19 rfl rfl ?_
  refine wp_tswI (pc := 20) 0 72 dX2_carryOut_20 (by decide) (by decide) rfl (by decide) ?_
  refine wp_aload_n (pc := 72) 1 dX2_carryOut_72 rfl rfl ?_
  refine wp_iload_n (pc := 73) 3 dX2_carryOut_73 rfl rfl ?_
  refine wp_iload (pc := 74) 4 dX2_carryOut_74 rfl ?_
  refine wc_V_II (pc := 76) dX2_carryOut_76 lkX2_88 (sm_Rc.o (ci := 4) (tT ht) (by decide) ht.lt) (by decide) (Nat.le_of_ble_eq_true rfl) ?_
  refine c_X5_addThing ht hw hT hn (fun F1 I1 hT1 hf1 => ?_)
  refine wp_pop (pc := 79) dX2_carryOut_79 rfl ?_
  refine wp_goto (pc := 80) 187 dX2_carryOut_80 (by decide) ?_
  refine wp_ret (pc := 187) dX2_carryOut_187 rfl ?_
  exact k _ _ hT1 hf1
theorem c_X2_carryOut_1 {d : Nat} {F I : Nat → Nat → Int32} {J : Nat → Nat → Int64} {Q : Option Value → sm_H → Prop} {t : Nat} (ht : isT t) {f : rw_} (hw : WF f) (hT : Tw t f F I) {a b e : Nat} (h0 : I 38 0 = nI a) (h1 : I 38 1 = nI b) (ha : a < 10) (hb : b < 10) (k : ∀ F1 I1 : Nat → Nat → Int32, Tw t (cry f 1 a b e) F1 I1 → Fr t F I F1 I1 → Q none (S0, F1, I1, J)) : Wp mX2_carryOut (d + 2) 0 0 0 (sm_ini [.ref 37, .ref t, .int (nI 1)] 5) [] (S0, F, I, J) Q := by
  show Wp _ _ _ _ _ [.ref 37, .ref t, .int (nI 1), .null, .null] _ _ _
  refine wp_aload_n (pc := 0) 0 dX2_carryOut_0 rfl rfl ?_
  refine wq_getR (pc := 1) 27 5 dX2_carryOut_1 s0_37 flX2_27 rfl rfl (by decide) (by decide) ?_
  refine wp_iconst (pc := 4) (0) dX2_carryOut_4 (by decide) ?_
  refine wc_SN_RI (pc := 5) dX2_carryOut_5 lkX2_84 (by decide) (Nat.le_of_ble_eq_true rfl) ?_
  refine c_X6_at (n := 0) s0_38 (by decide) (by decide) (by decide) ?_
  refine wp_int h0 ?_
  refine wp_istore_n (pc := 8) 3 dX2_carryOut_8 rfl (by decide) rfl ?_
  refine wp_aload_n (pc := 9) 0 dX2_carryOut_9 rfl rfl ?_
  refine wq_getR (pc := 10) 27 5 dX2_carryOut_10 s0_37 flX2_27 rfl rfl (by decide) (by decide) ?_
  refine wp_iconst (pc := 13) (1) dX2_carryOut_13 (by decide) ?_
  refine wc_SN_RI (pc := 14) dX2_carryOut_14 lkX2_84 (by decide) (Nat.le_of_ble_eq_true rfl) ?_
  refine c_X6_at (n := 1) s0_38 (by decide) (by decide) (by decide) ?_
  refine wp_int h1 ?_
  refine wp_istore (pc := 17) 4 dX2_carryOut_17 (by decide) rfl ?_
  refine wp_iload_n (pc := 19) 2 dX2_carryOut_19 rfl rfl ?_
  refine wp_tswI (pc := 20) 1 83 dX2_carryOut_20 (by decide) (by decide) rfl (by decide) ?_
  refine wp_aload_n (pc := 83) 1 dX2_carryOut_83 rfl rfl ?_
  refine wp_iload_n (pc := 84) 3 dX2_carryOut_84 rfl rfl ?_
  refine wp_iload (pc := 85) 4 dX2_carryOut_85 rfl ?_
  refine wp_iconst (pc := 87) (1) dX2_carryOut_87 (by decide) ?_
  refine wc_V_III (pc := 88) dX2_carryOut_88 lkX2_92 (sm_Rc.o (ci := 4) (tT ht) (by decide) ht.lt) (by decide) (Nat.le_of_ble_eq_true rfl) ?_
  refine c_X5_hangThing ht hw hT (b := true) ha hb (fun I1 hT1 hf1 => ?_)
  refine wp_goto (pc := 91) 187 dX2_carryOut_91 (by decide) ?_
  refine wp_ret (pc := 187) dX2_carryOut_187 rfl ?_
  exact k _ _ hT1 hf1
theorem c_X2_carryOut_2 {d : Nat} {F I : Nat → Nat → Int32} {J : Nat → Nat → Int64} {Q : Option Value → sm_H → Prop} {t : Nat} (ht : isT t) {f : rw_} (hw : WF f) (hT : Tw t f F I) {a b e : Nat} (h0 : I 38 0 = nI a) (ha : a < 10)  (k : ∀ F1 I1 : Nat → Nat → Int32, Tw t (cry f 2 a b e) F1 I1 → Fr t F I F1 I1 → Q none (S0, F1, I1, J)) : Wp mX2_carryOut (d + 2) 0 0 0 (sm_ini [.ref 37, .ref t, .int (nI 2)] 5) [] (S0, F, I, J) Q := by
  show Wp _ _ _ _ _ [.ref 37, .ref t, .int (nI 2), .null, .null] _ _ _
  refine wp_aload_n (pc := 0) 0 dX2_carryOut_0 rfl rfl ?_
  refine wq_getR (pc := 1) 27 5 dX2_carryOut_1 s0_37 flX2_27 rfl rfl (by decide) (by decide) ?_
  refine wp_iconst (pc := 4) (0) dX2_carryOut_4 (by decide) ?_
  refine wc_SN_RI (pc := 5) dX2_carryOut_5 lkX2_84 (by decide) (Nat.le_of_ble_eq_true rfl) ?_
  refine c_X6_at (n := 0) s0_38 (by decide) (by decide) (by decide) ?_
  refine wp_int h0 ?_
  refine wp_istore_n (pc := 8) 3 dX2_carryOut_8 rfl (by decide) rfl ?_
  refine wp_aload_n (pc := 9) 0 dX2_carryOut_9 rfl rfl ?_
  refine wq_getR (pc := 10) 27 5 dX2_carryOut_10 s0_37 flX2_27 rfl rfl (by decide) (by decide) ?_
  refine wp_iconst (pc := 13) (1) dX2_carryOut_13 (by decide) ?_
  refine wc_SN_RI (pc := 14) dX2_carryOut_14 lkX2_84 (by decide) (Nat.le_of_ble_eq_true rfl) ?_
  refine c_X6_at (n := 1) s0_38 (by decide) (by decide) (by decide) ?_
  refine wp_istore (pc := 17) 4 dX2_carryOut_17 (by decide) rfl ?_
  refine wp_iload_n (pc := 19) 2 dX2_carryOut_19 rfl rfl ?_
  refine wp_tswI (pc := 20) 2 94 dX2_carryOut_20 (by decide) (by decide) rfl (by decide) ?_
  refine wp_aload_n (pc := 94) 1 dX2_carryOut_94 rfl rfl ?_
  refine wp_iload_n (pc := 95) 3 dX2_carryOut_95 rfl rfl ?_
  refine wc_V_I (pc := 96) dX2_carryOut_96 lkX2_96 (sm_Rc.o (ci := 4) (tT ht) (by decide) ht.lt) (by decide) (Nat.le_of_ble_eq_true rfl) ?_
  refine c_X5_freeThing ht hw hT ha (fun I1 hT1 hf1 => ?_)
  refine wp_goto (pc := 99) 187 dX2_carryOut_99 (by decide) ?_
  refine wp_ret (pc := 187) dX2_carryOut_187 rfl ?_
  exact k _ _ hT1 hf1
theorem c_X2_carryOut_3 {d : Nat} {F I : Nat → Nat → Int32} {J : Nat → Nat → Int64} {Q : Option Value → sm_H → Prop} {t : Nat} (ht : isT t) {f : rw_} (hw : WF f) (hT : Tw t f F I) {a b e : Nat} (h0 : I 38 0 = nI a) (ha : a < 10)  (k : ∀ F1 I1 : Nat → Nat → Int32, Tw t (cry f 3 a b e) F1 I1 → Fr t F I F1 I1 → Q none (S0, F1, I1, J)) : Wp mX2_carryOut (d + 2) 0 0 0 (sm_ini [.ref 37, .ref t, .int (nI 3)] 5) [] (S0, F, I, J) Q := by
  show Wp _ _ _ _ _ [.ref 37, .ref t, .int (nI 3), .null, .null] _ _ _
  refine wp_aload_n (pc := 0) 0 dX2_carryOut_0 rfl rfl ?_
  refine wq_getR (pc := 1) 27 5 dX2_carryOut_1 s0_37 flX2_27 rfl rfl (by decide) (by decide) ?_
  refine wp_iconst (pc := 4) (0) dX2_carryOut_4 (by decide) ?_
  refine wc_SN_RI (pc := 5) dX2_carryOut_5 lkX2_84 (by decide) (Nat.le_of_ble_eq_true rfl) ?_
  refine c_X6_at (n := 0) s0_38 (by decide) (by decide) (by decide) ?_
  refine wp_int h0 ?_
  refine wp_istore_n (pc := 8) 3 dX2_carryOut_8 rfl (by decide) rfl ?_
  refine wp_aload_n (pc := 9) 0 dX2_carryOut_9 rfl rfl ?_
  refine wq_getR (pc := 10) 27 5 dX2_carryOut_10 s0_37 flX2_27 rfl rfl (by decide) (by decide) ?_
  refine wp_iconst (pc := 13) (1) dX2_carryOut_13 (by decide) ?_
  refine wc_SN_RI (pc := 14) dX2_carryOut_14 lkX2_84 (by decide) (Nat.le_of_ble_eq_true rfl) ?_
  refine c_X6_at (n := 1) s0_38 (by decide) (by decide) (by decide) ?_
  refine wp_istore (pc := 17) 4 dX2_carryOut_17 (by decide) rfl ?_
  refine wp_iload_n (pc := 19) 2 dX2_carryOut_19 rfl rfl ?_
  refine wp_tswI (pc := 20) 3 102 dX2_carryOut_20 (by decide) (by decide) rfl (by decide) ?_
  refine wp_aload_n (pc := 102) 1 dX2_carryOut_102 rfl rfl ?_
  refine wp_iload_n (pc := 103) 3 dX2_carryOut_103 rfl rfl ?_
  refine wp_iconst (pc := 104) (0) dX2_carryOut_104 (by decide) ?_
  refine wc_V_II (pc := 105) dX2_carryOut_105 lkX2_100 (sm_Rc.o (ci := 4) (tT ht) (by decide) ht.lt) (by decide) (Nat.le_of_ble_eq_true rfl) ?_
  refine c_X5_tellBeen ht hw hT (b := false) ha (fun F1 hT1 hf1 => ?_)
  refine wp_goto (pc := 108) 187 dX2_carryOut_108 (by decide) ?_
  refine wp_ret (pc := 187) dX2_carryOut_187 rfl ?_
  exact k _ _ hT1 hf1
theorem c_X2_carryOut_4 {d : Nat} {F I : Nat → Nat → Int32} {J : Nat → Nat → Int64} {Q : Option Value → sm_H → Prop} {t : Nat} (ht : isT t) {f : rw_} (hw : WF f) (hT : Tw t f F I) {a b e : Nat} (h0 : I 38 0 = nI a) (ha : a < 10)  (k : ∀ F1 I1 : Nat → Nat → Int32, Tw t (cry f 4 a b e) F1 I1 → Fr t F I F1 I1 → Q none (S0, F1, I1, J)) : Wp mX2_carryOut (d + 2) 0 0 0 (sm_ini [.ref 37, .ref t, .int (nI 4)] 5) [] (S0, F, I, J) Q := by
  show Wp _ _ _ _ _ [.ref 37, .ref t, .int (nI 4), .null, .null] _ _ _
  refine wp_aload_n (pc := 0) 0 dX2_carryOut_0 rfl rfl ?_
  refine wq_getR (pc := 1) 27 5 dX2_carryOut_1 s0_37 flX2_27 rfl rfl (by decide) (by decide) ?_
  refine wp_iconst (pc := 4) (0) dX2_carryOut_4 (by decide) ?_
  refine wc_SN_RI (pc := 5) dX2_carryOut_5 lkX2_84 (by decide) (Nat.le_of_ble_eq_true rfl) ?_
  refine c_X6_at (n := 0) s0_38 (by decide) (by decide) (by decide) ?_
  refine wp_int h0 ?_
  refine wp_istore_n (pc := 8) 3 dX2_carryOut_8 rfl (by decide) rfl ?_
  refine wp_aload_n (pc := 9) 0 dX2_carryOut_9 rfl rfl ?_
  refine wq_getR (pc := 10) 27 5 dX2_carryOut_10 s0_37 flX2_27 rfl rfl (by decide) (by decide) ?_
  refine wp_iconst (pc := 13) (1) dX2_carryOut_13 (by decide) ?_
  refine wc_SN_RI (pc := 14) dX2_carryOut_14 lkX2_84 (by decide) (Nat.le_of_ble_eq_true rfl) ?_
  refine c_X6_at (n := 1) s0_38 (by decide) (by decide) (by decide) ?_
  refine wp_istore (pc := 17) 4 dX2_carryOut_17 (by decide) rfl ?_
  refine wp_iload_n (pc := 19) 2 dX2_carryOut_19 rfl rfl ?_
  refine wp_tswI (pc := 20) 4 111 dX2_carryOut_20 (by decide) (by decide) rfl (by decide) ?_
  refine wp_aload_n (pc := 111) 1 dX2_carryOut_111 rfl rfl ?_
  refine wp_iload_n (pc := 112) 3 dX2_carryOut_112 rfl rfl ?_
  refine wp_iconst (pc := 113) (1) dX2_carryOut_113 (by decide) ?_
  refine wc_V_II (pc := 114) dX2_carryOut_114 lkX2_100 (sm_Rc.o (ci := 4) (tT ht) (by decide) ht.lt) (by decide) (Nat.le_of_ble_eq_true rfl) ?_
  refine c_X5_tellBeen ht hw hT (b := true) ha (fun F1 hT1 hf1 => ?_)
  refine wp_goto (pc := 117) 187 dX2_carryOut_117 (by decide) ?_
  refine wp_ret (pc := 187) dX2_carryOut_187 rfl ?_
  exact k _ _ hT1 hf1
theorem c_X2_carryOut_5 {d : Nat} {F I : Nat → Nat → Int32} {J : Nat → Nat → Int64} {Q : Option Value → sm_H → Prop} {t : Nat} (ht : isT t) {f : rw_} (hw : WF f) (hT : Tw t f F I) {a b e : Nat} (h0 : I 38 0 = nI a) (h1 : I 38 1 = nI b) (h2 : I 38 2 = nI e) (hc6 : f 69 < 6) (k : ∀ F1 I1 : Nat → Nat → Int32, Tw t (cry f 5 a b e) F1 I1 → Fr t F I F1 I1 → Q none (S0, F1, I1, J)) : Wp mX2_carryOut (d + 2) 0 0 0 (sm_ini [.ref 37, .ref t, .int (nI 5)] 5) [] (S0, F, I, J) Q := by
  show Wp _ _ _ _ _ [.ref 37, .ref t, .int (nI 5), .null, .null] _ _ _
  refine wp_aload_n (pc := 0) 0 dX2_carryOut_0 rfl rfl ?_
  refine wq_getR (pc := 1) 27 5 dX2_carryOut_1 s0_37 flX2_27 rfl rfl (by decide) (by decide) ?_
  refine wp_iconst (pc := 4) (0) dX2_carryOut_4 (by decide) ?_
  refine wc_SN_RI (pc := 5) dX2_carryOut_5 lkX2_84 (by decide) (Nat.le_of_ble_eq_true rfl) ?_
  refine c_X6_at (n := 0) s0_38 (by decide) (by decide) (by decide) ?_
  refine wp_int h0 ?_
  refine wp_istore_n (pc := 8) 3 dX2_carryOut_8 rfl (by decide) rfl ?_
  refine wp_aload_n (pc := 9) 0 dX2_carryOut_9 rfl rfl ?_
  refine wq_getR (pc := 10) 27 5 dX2_carryOut_10 s0_37 flX2_27 rfl rfl (by decide) (by decide) ?_
  refine wp_iconst (pc := 13) (1) dX2_carryOut_13 (by decide) ?_
  refine wc_SN_RI (pc := 14) dX2_carryOut_14 lkX2_84 (by decide) (Nat.le_of_ble_eq_true rfl) ?_
  refine c_X6_at (n := 1) s0_38 (by decide) (by decide) (by decide) ?_
  refine wp_int h1 ?_
  refine wp_istore (pc := 17) 4 dX2_carryOut_17 (by decide) rfl ?_
  refine wp_iload_n (pc := 19) 2 dX2_carryOut_19 rfl rfl ?_
  refine wp_tswI (pc := 20) 5 120 dX2_carryOut_20 (by decide) (by decide) rfl (by decide) ?_
  refine wp_aload_n (pc := 120) 1 dX2_carryOut_120 rfl rfl ?_
  refine wq_getR (pc := 121) 71 10 dX2_carryOut_121 (tT ht) flX2_71 rfl rfl ht.lt (ht.ltn 5) ?_
  refine wp_iload_n (pc := 124) 3 dX2_carryOut_124 rfl rfl ?_
  refine wp_iload (pc := 125) 4 dX2_carryOut_125 rfl ?_
  refine wp_aload_n (pc := 127) 0 dX2_carryOut_127 rfl rfl ?_
  refine wq_getR (pc := 128) 27 5 dX2_carryOut_128 s0_37 flX2_27 rfl rfl (by decide) (by decide) ?_
  refine wp_iconst (pc := 131) (2) dX2_carryOut_131 (by decide) ?_
  refine wc_SN_RI (pc := 132) dX2_carryOut_132 lkX2_84 (by decide) (Nat.le_of_ble_eq_true rfl) ?_
  refine c_X6_at (n := 2) s0_38 (by decide) (by decide) (by decide) ?_
  refine wp_int h2 ?_
  refine wc_V_III (pc := 135) dX2_carryOut_135 lkX2_104 (sm_Rc.o (ci := 0) (tT5 ht) (by decide) (ht.ltn 5)) (by decide) (Nat.le_of_ble_eq_true rfl) ?_
  refine c_X0_addRinger ht hw hT hc6 (fun F1 I1 hT1 hf1 => ?_)
  refine wp_pop (pc := 138) dX2_carryOut_138 rfl ?_
  refine wp_goto (pc := 139) 187 dX2_carryOut_139 (by decide) ?_
  refine wp_ret (pc := 187) dX2_carryOut_187 rfl ?_
  exact k _ _ hT1 hf1
theorem c_X2_carryOut_6 {d : Nat} {F I : Nat → Nat → Int32} {J : Nat → Nat → Int64} {Q : Option Value → sm_H → Prop} {t : Nat} (ht : isT t) {f : rw_} (hw : WF f) (hT : Tw t f F I) {a b e : Nat} (h0 : I 38 0 = nI a)  (k : ∀ F1 I1 : Nat → Nat → Int32, Tw t (cry f 6 a b e) F1 I1 → Fr t F I F1 I1 → Q none (S0, F1, I1, J)) : Wp mX2_carryOut (d + 2) 0 0 0 (sm_ini [.ref 37, .ref t, .int (nI 6)] 5) [] (S0, F, I, J) Q := by
  show Wp _ _ _ _ _ [.ref 37, .ref t, .int (nI 6), .null, .null] _ _ _
  refine wp_aload_n (pc := 0) 0 dX2_carryOut_0 rfl rfl ?_
  refine wq_getR (pc := 1) 27 5 dX2_carryOut_1 s0_37 flX2_27 rfl rfl (by decide) (by decide) ?_
  refine wp_iconst (pc := 4) (0) dX2_carryOut_4 (by decide) ?_
  refine wc_SN_RI (pc := 5) dX2_carryOut_5 lkX2_84 (by decide) (Nat.le_of_ble_eq_true rfl) ?_
  refine c_X6_at (n := 0) s0_38 (by decide) (by decide) (by decide) ?_
  refine wp_int h0 ?_
  refine wp_istore_n (pc := 8) 3 dX2_carryOut_8 rfl (by decide) rfl ?_
  refine wp_aload_n (pc := 9) 0 dX2_carryOut_9 rfl rfl ?_
  refine wq_getR (pc := 10) 27 5 dX2_carryOut_10 s0_37 flX2_27 rfl rfl (by decide) (by decide) ?_
  refine wp_iconst (pc := 13) (1) dX2_carryOut_13 (by decide) ?_
  refine wc_SN_RI (pc := 14) dX2_carryOut_14 lkX2_84 (by decide) (Nat.le_of_ble_eq_true rfl) ?_
  refine c_X6_at (n := 1) s0_38 (by decide) (by decide) (by decide) ?_
  refine wp_istore (pc := 17) 4 dX2_carryOut_17 (by decide) rfl ?_
  refine wp_iload_n (pc := 19) 2 dX2_carryOut_19 rfl rfl ?_
  refine wp_tswI (pc := 20) 6 142 dX2_carryOut_20 (by decide) (by decide) rfl (by decide) ?_
  refine wp_aload_n (pc := 142) 1 dX2_carryOut_142 rfl rfl ?_
  refine wp_iload_n (pc := 143) 3 dX2_carryOut_143 rfl rfl ?_
  refine wq_putI (pc := 144) 108 6 dX2_carryOut_144 (tT ht) flX2_108 rfl rfl ht.lt ?_
  refine wp_goto (pc := 147) 187 dX2_carryOut_147 (by decide) ?_
  refine wp_ret (pc := 187) dX2_carryOut_187 rfl ?_
  exact k _ _ (hT.uF (Or.inl ⟨rfl, rfl⟩)) (Fr.rf.F (by omega) (by omega))
theorem c_X2_carryOut_7 {d : Nat} {F I : Nat → Nat → Int32} {J : Nat → Nat → Int64} {Q : Option Value → sm_H → Prop} {t : Nat} (ht : isT t) {f : rw_} (hw : WF f) (hT : Tw t f F I) {a b e : Nat} (h0 : I 38 0 = nI a) (ha8 : a < 8) (k : ∀ F1 I1 : Nat → Nat → Int32, Tw t (cry f 7 a b e) F1 I1 → Fr t F I F1 I1 → Q none (S0, F1, I1, J)) : Wp mX2_carryOut (d + 2) 0 0 0 (sm_ini [.ref 37, .ref t, .int (nI 7)] 5) [] (S0, F, I, J) Q := by
  show Wp _ _ _ _ _ [.ref 37, .ref t, .int (nI 7), .null, .null] _ _ _
  refine wp_aload_n (pc := 0) 0 dX2_carryOut_0 rfl rfl ?_
  refine wq_getR (pc := 1) 27 5 dX2_carryOut_1 s0_37 flX2_27 rfl rfl (by decide) (by decide) ?_
  refine wp_iconst (pc := 4) (0) dX2_carryOut_4 (by decide) ?_
  refine wc_SN_RI (pc := 5) dX2_carryOut_5 lkX2_84 (by decide) (Nat.le_of_ble_eq_true rfl) ?_
  refine c_X6_at (n := 0) s0_38 (by decide) (by decide) (by decide) ?_
  refine wp_int h0 ?_
  refine wp_istore_n (pc := 8) 3 dX2_carryOut_8 rfl (by decide) rfl ?_
  refine wp_aload_n (pc := 9) 0 dX2_carryOut_9 rfl rfl ?_
  refine wq_getR (pc := 10) 27 5 dX2_carryOut_10 s0_37 flX2_27 rfl rfl (by decide) (by decide) ?_
  refine wp_iconst (pc := 13) (1) dX2_carryOut_13 (by decide) ?_
  refine wc_SN_RI (pc := 14) dX2_carryOut_14 lkX2_84 (by decide) (Nat.le_of_ble_eq_true rfl) ?_
  refine c_X6_at (n := 1) s0_38 (by decide) (by decide) (by decide) ?_
  refine wp_istore (pc := 17) 4 dX2_carryOut_17 (by decide) rfl ?_
  refine wp_iload_n (pc := 19) 2 dX2_carryOut_19 rfl rfl ?_
  refine wp_tswI (pc := 20) 7 150 dX2_carryOut_20 (by decide) (by decide) rfl (by decide) ?_
  refine wp_aload_n (pc := 150) 1 dX2_carryOut_150 rfl rfl ?_
  refine wp_dup (pc := 151) dX2_carryOut_151 rfl ?_
  refine wq_getI (pc := 152) 111 8 dX2_carryOut_152 (tT ht) flX2_111 rfl ht.lt ?_
  refine wp_int hT.crk ?_
  refine wp_iconst (pc := 155) (1) dX2_carryOut_155 (by decide) ?_
  refine wp_iload_n (pc := 156) 3 dX2_carryOut_156 rfl rfl ?_
  refine wp_ishl (pc := 157) dX2_carryOut_157 ?_
  refine wp_int (bt_one (by omega)) ?_
  refine wp_ior (pc := 158) dX2_carryOut_158 ?_
  refine wp_int (bt_or _ _) ?_
  refine wq_putI (pc := 159) 111 8 dX2_carryOut_159 (tT ht) flX2_111 rfl rfl ht.lt ?_
  refine wp_goto (pc := 162) 187 dX2_carryOut_162 (by decide) ?_
  refine wp_ret (pc := 187) dX2_carryOut_187 rfl ?_
  exact k _ _ (hT.uF (Or.inr (Or.inr (Or.inl ⟨rfl, rfl⟩)))) (Fr.rf.F (by omega) (by omega))
theorem c_X2_carryOut_8 {d : Nat} {F I : Nat → Nat → Int32} {J : Nat → Nat → Int64} {Q : Option Value → sm_H → Prop} {t : Nat} (ht : isT t) {f : rw_} (hw : WF f) (hT : Tw t f F I) {a b e : Nat} (h0 : I 38 0 = nI a) (ha8 : a < 8) (k : ∀ F1 I1 : Nat → Nat → Int32, Tw t (cry f 8 a b e) F1 I1 → Fr t F I F1 I1 → Q none (S0, F1, I1, J)) : Wp mX2_carryOut (d + 2) 0 0 0 (sm_ini [.ref 37, .ref t, .int (nI 8)] 5) [] (S0, F, I, J) Q := by
  show Wp _ _ _ _ _ [.ref 37, .ref t, .int (nI 8), .null, .null] _ _ _
  refine wp_aload_n (pc := 0) 0 dX2_carryOut_0 rfl rfl ?_
  refine wq_getR (pc := 1) 27 5 dX2_carryOut_1 s0_37 flX2_27 rfl rfl (by decide) (by decide) ?_
  refine wp_iconst (pc := 4) (0) dX2_carryOut_4 (by decide) ?_
  refine wc_SN_RI (pc := 5) dX2_carryOut_5 lkX2_84 (by decide) (Nat.le_of_ble_eq_true rfl) ?_
  refine c_X6_at (n := 0) s0_38 (by decide) (by decide) (by decide) ?_
  refine wp_int h0 ?_
  refine wp_istore_n (pc := 8) 3 dX2_carryOut_8 rfl (by decide) rfl ?_
  refine wp_aload_n (pc := 9) 0 dX2_carryOut_9 rfl rfl ?_
  refine wq_getR (pc := 10) 27 5 dX2_carryOut_10 s0_37 flX2_27 rfl rfl (by decide) (by decide) ?_
  refine wp_iconst (pc := 13) (1) dX2_carryOut_13 (by decide) ?_
  refine wc_SN_RI (pc := 14) dX2_carryOut_14 lkX2_84 (by decide) (Nat.le_of_ble_eq_true rfl) ?_
  refine c_X6_at (n := 1) s0_38 (by decide) (by decide) (by decide) ?_
  refine wp_istore (pc := 17) 4 dX2_carryOut_17 (by decide) rfl ?_
  refine wp_iload_n (pc := 19) 2 dX2_carryOut_19 rfl rfl ?_
  refine wp_tswI (pc := 20) 8 165 dX2_carryOut_20 (by decide) (by decide) rfl (by decide) ?_
  refine wp_aload_n (pc := 165) 1 dX2_carryOut_165 rfl rfl ?_
  refine wp_dup (pc := 166) dX2_carryOut_166 rfl ?_
  refine wq_getI (pc := 167) 111 8 dX2_carryOut_167 (tT ht) flX2_111 rfl ht.lt ?_
  refine wp_int hT.crk ?_
  refine wp_iconst (pc := 170) (1) dX2_carryOut_170 (by decide) ?_
  refine wp_iload_n (pc := 171) 3 dX2_carryOut_171 rfl rfl ?_
  refine wp_ishl (pc := 172) dX2_carryOut_172 ?_
  refine wp_int (bt_one (by omega)) ?_
  refine wp_iconst (pc := 173) (-1) dX2_carryOut_173 (by decide) ?_
  refine wp_ixor (pc := 174) dX2_carryOut_174 ?_
  refine wp_iand (pc := 175) dX2_carryOut_175 ?_
  refine wp_int (bt_dif _ _) ?_
  refine wq_putI (pc := 176) 111 8 dX2_carryOut_176 (tT ht) flX2_111 rfl rfl ht.lt ?_
  refine wp_goto (pc := 179) 187 dX2_carryOut_179 (by decide) ?_
  refine wp_ret (pc := 187) dX2_carryOut_187 rfl ?_
  exact k _ _ (hT.uF (Or.inr (Or.inr (Or.inl ⟨rfl, rfl⟩)))) (Fr.rf.F (by omega) (by omega))
theorem c_X2_carryOut_9 {d : Nat} {F I : Nat → Nat → Int32} {J : Nat → Nat → Int64} {Q : Option Value → sm_H → Prop} {t : Nat} (ht : isT t) {f : rw_} (hw : WF f) (hT : Tw t f F I) {a b e : Nat} (h0 : I 38 0 = nI a)  (k : ∀ F1 I1 : Nat → Nat → Int32, Tw t (cry f 9 a b e) F1 I1 → Fr t F I F1 I1 → Q none (S0, F1, I1, J)) : Wp mX2_carryOut (d + 2) 0 0 0 (sm_ini [.ref 37, .ref t, .int (nI 9)] 5) [] (S0, F, I, J) Q := by
  show Wp _ _ _ _ _ [.ref 37, .ref t, .int (nI 9), .null, .null] _ _ _
  refine wp_aload_n (pc := 0) 0 dX2_carryOut_0 rfl rfl ?_
  refine wq_getR (pc := 1) 27 5 dX2_carryOut_1 s0_37 flX2_27 rfl rfl (by decide) (by decide) ?_
  refine wp_iconst (pc := 4) (0) dX2_carryOut_4 (by decide) ?_
  refine wc_SN_RI (pc := 5) dX2_carryOut_5 lkX2_84 (by decide) (Nat.le_of_ble_eq_true rfl) ?_
  refine c_X6_at (n := 0) s0_38 (by decide) (by decide) (by decide) ?_
  refine wp_int h0 ?_
  refine wp_istore_n (pc := 8) 3 dX2_carryOut_8 rfl (by decide) rfl ?_
  refine wp_aload_n (pc := 9) 0 dX2_carryOut_9 rfl rfl ?_
  refine wq_getR (pc := 10) 27 5 dX2_carryOut_10 s0_37 flX2_27 rfl rfl (by decide) (by decide) ?_
  refine wp_iconst (pc := 13) (1) dX2_carryOut_13 (by decide) ?_
  refine wc_SN_RI (pc := 14) dX2_carryOut_14 lkX2_84 (by decide) (Nat.le_of_ble_eq_true rfl) ?_
  refine c_X6_at (n := 1) s0_38 (by decide) (by decide) (by decide) ?_
  refine wp_istore (pc := 17) 4 dX2_carryOut_17 (by decide) rfl ?_
  refine wp_iload_n (pc := 19) 2 dX2_carryOut_19 rfl rfl ?_
  refine wp_tswO (pc := 20) 182 dX2_carryOut_20 (by decide) (by decide) ?_
  refine wp_aload_n (pc := 182) 1 dX2_carryOut_182 rfl rfl ?_
  refine wp_iload_n (pc := 183) 3 dX2_carryOut_183 rfl rfl ?_
  refine wq_putI (pc := 184) 114 7 dX2_carryOut_184 (tT ht) flX2_114 rfl rfl ht.lt ?_
  refine wp_ret (pc := 187) dX2_carryOut_187 rfl ?_
  exact k _ _ (hT.uF (Or.inr (Or.inl ⟨rfl, rfl⟩))) (Fr.rf.F (by omega) (by omega))
