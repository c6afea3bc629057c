/-! ===== the reference: tokens of the tape ===== -/
theorem rn_stop {P : Nat → Bool} {sz : Nat} {tp : Nat → Nat} : ∀ {k p : Nat}, sz - p ≤ k → ¬ (rn P sz tp k p < sz ∧ P (tp (rn P sz tp k p)) = true)
  | 0, p, h => by
    rw [rn]
    omega
  | k + 1, p, h => by
    rw [rn]
    split
    · exact rn_stop (by omega)
    · assumption
theorem run_stop {P : Nat → Bool} {sz : Nat} {tp : Nat → Nat} {p : Nat} : ¬ (run P sz tp p < sz ∧ P (tp (run P sz tp p)) = true) := rn_stop (Nat.le_refl _)
def KF (F F1 : Nat → Nat → Int32) : Prop := ∀ a b, ¬ (a = 40 ∧ 7 ≤ b ∧ b ≤ 10) → F1 a b = F a b
theorem KF.rf {F : Nat → Nat → Int32} : KF F F := fun _ _ _ => rfl
theorem KF.tr {F F1 F2 : Nat → Nat → Int32} (h : KF F F1) (h2 : KF F1 F2) : KF F F2 := fun a b z => (h2 a b z).trans (h a b z)
theorem KF.u {F F1 : Nat → Nat → Int32} {j : Nat} {v : Int32} (h : KF F F1) (h1 : 7 ≤ j) (h2 : j ≤ 10) : KF F (sm_up F1 40 j v) := fun a b z => (if_neg (fun y => z ⟨y.1, by omega, by omega⟩)).trans (h a b z)
theorem KF.lo {F F1 I : Nat → Nat → Int32} {J : Nat → Nat → Int64} (h : KF F F1) : Lo F I J F1 I J := fun a ha => ⟨funext fun y => h a y (by omega), rfl, rfl⟩
def RS (sz : Nat) (tp : Nat → Nat) (q : Nat) (F : Nat → Nat → Int32) : Prop := F 40 7 = nI (endk sz tp q) ∧ F 40 8 = nI q ∧ F 40 9 = nI (srtk sz tp q) ∧ (srtk sz tp q = 2 → F 40 10 = nI (nmk sz tp q))
def TP (sz : Nat) (tp : Nat → Nat) (F I : Nat → Nat → Int32) : Prop := F 40 6 = nI sz ∧ (∀ j, j < 250 → I 45 j = nI (tp j)) ∧ sz ≤ 250 ∧ (∀ j, tp j < 256)
theorem TP.kf {sz : Nat} {tp : Nat → Nat} {F F1 I : Nat → Nat → Int32} (h : TP sz tp F I) (h2 : KF F F1) : TP sz tp F1 I := ⟨(h2 40 6 (by omega)).trans h.1, h.2⟩
theorem TP.fi {sz : Nat} {tp : Nat → Nat} {F I I1 : Nat → Nat → Int32} (h : TP sz tp F I) (h2 : RF I I1) : TP sz tp F I1 := ⟨h.1, fun j hj => (congrFun (h2 45 (by decide)) j).trans (h.2.1 j hj), h.2.2⟩
def nmI (tp : Nat → Nat) (q i : Nat) : Nat := if i ≤ 3 then nmU tp q i else 1000
theorem nmI_s {tp : Nat → Nat} {q i : Nat} (h : i < 3) : nmI tp q (i + 1) = 10 * nmI tp q i + (tp (q + i) - 48) := by unfold nmI; rw [if_pos (by omega), if_pos (by omega)]; rfl
theorem nmI_l {tp : Nat → Nat} {q i : Nat} (h : ¬ i < 3) : nmI tp q (i + 1) = 1000 := by unfold nmI; rw [if_neg (by omega)]
theorem srt_0 {sz : Nat} {tp : Nat → Nat} {q : Nat} (h : ¬ q < sz) : srtk sz tp q = 0 := srtk_0 (by unfold ltr; rw [if_neg h])
theorem srt_1 {sz : Nat} {tp : Nat → Nat} {q : Nat} (h : q < sz) (h1 : isSm (tp q) = true) : srtk sz tp q = 1 := srtk_1 (l := tp q) (by unfold ltr; rw [if_pos h]) h1
theorem srt_2 {sz : Nat} {tp : Nat → Nat} {q : Nat} (h : q < sz) (h1 : isSm (tp q) = false) (h2 : isDg (tp q) = true) : srtk sz tp q = 2 := srtk_2 (l := tp q) (by unfold ltr; rw [if_pos h]) h1 h2
theorem srt_3 {sz : Nat} {tp : Nat → Nat} {q : Nat} (h : q < sz) (h1 : isSm (tp q) = false) (h2 : isDg (tp q) = false) : srtk sz tp q = if tp q = 59 then 3 else 4 := srtk_3 (l := tp q) (by unfold ltr; rw [if_pos h]) h1 h2
theorem enk_1 {sz : Nat} {tp : Nat → Nat} {q : Nat} (h : srtk sz tp q = 1) : endk sz tp q = run isSm sz tp (q + 1) := by unfold endk; rw [h]; rfl
theorem enk_2 {sz : Nat} {tp : Nat → Nat} {q : Nat} (h : srtk sz tp q = 2) : endk sz tp q = run isDg sz tp (q + 1) := by unfold endk; rw [h]; rfl
theorem enk_0 {sz : Nat} {tp : Nat → Nat} {q : Nat} (h : srtk sz tp q = 0) : endk sz tp q = q := by unfold endk; rw [h]; rfl
theorem enk_3 {sz : Nat} {tp : Nat → Nat} {q : Nat} (h : srtk sz tp q = 3) : endk sz tp q = q + 1 := by unfold endk; rw [h]; rfl
theorem enk_4 {sz : Nat} {tp : Nat → Nat} {q : Nat} (h : srtk sz tp q = 4) : endk sz tp q = q + 1 := by unfold endk; rw [h]; rfl
theorem c_X7_isLetter {d : Nat} {F I : Nat → Nat → Int32} {J : Nat → Nat → Int64} {Q : Option Value → sm_H → Prop} {sz : Nat} {tp : Nat → Nat} (hP : TP sz tp F I) {q : Nat} (hq : q < 2 ^ 31) (k : Q (some (.int (b2 (decide (q < sz) && isSm (tp q))))) (S0, F, I, J)) : Wp mX7_isLetter (d + 1) 0 0 0 (sm_ini [.ref 40, .int (nI q)] 2) [] (S0, F, I, J) Q := by
  show Wp _ _ _ _ _ [.ref 40, .int (nI q)] _ _ _
  have hz := hP.2.2.1
  have ht8 := hP.2.2.2 q
  refine wp_iload_n (pc := 0) 1 dX7_isLetter_0 rfl rfl ?_
  refine wp_aload_n (pc := 1) 0 dX7_isLetter_1 rfl rfl ?_
  refine wq_getI (pc := 2) 93 6 dX7_isLetter_2 s0_40 flX7_93 rfl (by decide) ?_
  refine wp_int hP.1 ?_
  refine wp_icmp_ge (pc := 5) 28 dX7_isLetter_5 (by decide) (fun c_5 => ?_) (fun c_5 => ?_)
  · refine wp_iconst (pc := 28) (0) dX7_isLetter_28 (by decide) ?_
    refine wp_iret (pc := 29) dX7_isLetter_29 ⟨_, rfl, by decide⟩ ?_
    rw [decide_eq_false (fun z => nI_ge z (by omega) c_5), Bool.false_and] at k; exact k
  · have hqs : q < sz := Nat.lt_of_not_le fun z => c_5 (nI_le z (by omega))
    refine wp_aload_n (pc := 8) 0 dX7_isLetter_8 rfl rfl ?_
    refine wq_getR (pc := 9) 26 5 dX7_isLetter_9 s0_40 flX7_26 rfl rfl (by decide) (by decide) ?_
    refine wp_iload_n (pc := 12) 1 dX7_isLetter_12 rfl rfl ?_
    refine wq_iald (pc := 13) q dX7_isLetter_13 s0_45 (by decide) rfl (by omega) (by decide) ?_
    refine wp_int (hP.2.1 q (by omega)) ?_
    refine wp_bipush (pc := 14) (97) dX7_isLetter_14 (by decide) ?_
    refine wp_bipush (pc := 16) (122) dX7_isLetter_16 (by decide) ?_
    refine wc_S_III (pc := 18) dX7_isLetter_18 lkX7_49 (by decide) (Nat.le_of_ble_eq_true rfl) ?_
    refine c_X7_isIn ?_
    refine wp_int (y := b2 (isSm (tp q))) (congrArg b2 (by unfold isSm; rw [show (decide (97 ≤ nI (tp q) ∧ nI (tp q) ≤ 122)) = (decide (97 ≤ tp q) && decide (tp q ≤ 122)) by rw [← Bool.decide_and, decide_eq_decide]; exact and_congr (nI_leI (a := 97) (by decide) (by omega)) (nI_leI (b := 122) (by omega) (by decide))])) ?_
    refine wp_ifeqB (pc := 21) 28 dX7_isLetter_21 (by decide) (fun c_21 => ?_) (fun c_21 => ?_)
    · refine wp_iconst (pc := 28) (0) dX7_isLetter_28 (by decide) ?_
      refine wp_iret (pc := 29) dX7_isLetter_29 ⟨_, rfl, by decide⟩ ?_
      rw [decide_eq_true hqs, c_21, Bool.true_and] at k; exact k
    · refine wp_iconst (pc := 24) (1) dX7_isLetter_24 (by decide) ?_
      refine wp_goto (pc := 25) 29 dX7_isLetter_25 (by decide) ?_
      refine wp_iret (pc := 29) dX7_isLetter_29 ⟨_, rfl, by decide⟩ ?_
      rw [decide_eq_true hqs, c_21, Bool.true_and] at k; exact k
theorem c_X7_isDigit {d : Nat} {F I : Nat → Nat → Int32} {J : Nat → Nat → Int64} {Q : Option Value → sm_H → Prop} {sz : Nat} {tp : Nat → Nat} (hP : TP sz tp F I) {q : Nat} (hq : q < 2 ^ 31) (k : Q (some (.int (b2 (decide (q < sz) && isDg (tp q))))) (S0, F, I, J)) : Wp mX7_isDigit (d + 1) 0 0 0 (sm_ini [.ref 40, .int (nI q)] 2) [] (S0, F, I, J) Q := by
  show Wp _ _ _ _ _ [.ref 40, .int (nI q)] _ _ _
  have hz := hP.2.2.1
  have ht8 := hP.2.2.2 q
  refine wp_iload_n (pc := 0) 1 dX7_isDigit_0 rfl rfl ?_
  refine wp_aload_n (pc := 1) 0 dX7_isDigit_1 rfl rfl ?_
  refine wq_getI (pc := 2) 93 6 dX7_isDigit_2 s0_40 flX7_93 rfl (by decide) ?_
  refine wp_int hP.1 ?_
  refine wp_icmp_ge (pc := 5) 28 dX7_isDigit_5 (by decide) (fun c_5 => ?_) (fun c_5 => ?_)
  · refine wp_iconst (pc := 28) (0) dX7_isDigit_28 (by decide) ?_
    refine wp_iret (pc := 29) dX7_isDigit_29 ⟨_, rfl, by decide⟩ ?_
    rw [decide_eq_false (fun z => nI_ge z (by omega) c_5), Bool.false_and] at k; exact k
  · have hqs : q < sz := Nat.lt_of_not_le fun z => c_5 (nI_le z (by omega))
    refine wp_aload_n (pc := 8) 0 dX7_isDigit_8 rfl rfl ?_
    refine wq_getR (pc := 9) 26 5 dX7_isDigit_9 s0_40 flX7_26 rfl rfl (by decide) (by decide) ?_
    refine wp_iload_n (pc := 12) 1 dX7_isDigit_12 rfl rfl ?_
    refine wq_iald (pc := 13) q dX7_isDigit_13 s0_45 (by decide) rfl (by omega) (by decide) ?_
    refine wp_int (hP.2.1 q (by omega)) ?_
    refine wp_bipush (pc := 14) (48) dX7_isDigit_14 (by decide) ?_
    refine wp_bipush (pc := 16) (57) dX7_isDigit_16 (by decide) ?_
    refine wc_S_III (pc := 18) dX7_isDigit_18 lkX7_49 (by decide) (Nat.le_of_ble_eq_true rfl) ?_
    refine c_X7_isIn ?_
    refine wp_int (y := b2 (isDg (tp q))) (congrArg b2 (by unfold isDg; rw [show (decide (48 ≤ nI (tp q) ∧ nI (tp q) ≤ 57)) = (decide (48 ≤ tp q) && decide (tp q ≤ 57)) by rw [← Bool.decide_and, decide_eq_decide]; exact and_congr (nI_leI (a := 48) (by decide) (by omega)) (nI_leI (b := 57) (by omega) (by decide))])) ?_
    refine wp_ifeqB (pc := 21) 28 dX7_isDigit_21 (by decide) (fun c_21 => ?_) (fun c_21 => ?_)
    · refine wp_iconst (pc := 28) (0) dX7_isDigit_28 (by decide) ?_
      refine wp_iret (pc := 29) dX7_isDigit_29 ⟨_, rfl, by decide⟩ ?_
      rw [decide_eq_true hqs, c_21, Bool.true_and] at k; exact k
    · refine wp_iconst (pc := 24) (1) dX7_isDigit_24 (by decide) ?_
      refine wp_goto (pc := 25) 29 dX7_isDigit_25 (by decide) ?_
      refine wp_iret (pc := 29) dX7_isDigit_29 ⟨_, rfl, by decide⟩ ?_
      rw [decide_eq_true hqs, c_21, Bool.true_and] at k; exact k
theorem of_sm {a : Prop} [Decidable a] {b : Bool} (h : (decide a && b) = true) : b = true := (Bool.and_eq_true_iff.mp h).2
theorem of_sm0 {a : Prop} [Decidable a] {b : Bool} (ha : a) (h : (decide a && b) = false) : b = false := by rw [decide_eq_true ha, Bool.true_and] at h; exact h
theorem and_both {a : Prop} [Decidable a] {b : Bool} (h : (decide a && b) = true) : a ∧ b = true := ⟨of_decide_eq_true (Bool.and_eq_true_iff.mp h).1, (Bool.and_eq_true_iff.mp h).2⟩
set_option maxHeartbeats 1000000 in
theorem c_X7_read {d : Nat} {F I : Nat → Nat → Int32} {J : Nat → Nat → Int64} {Q : Option Value → sm_H → Prop} {sz : Nat} {tp : Nat → Nat} (hP : TP sz tp F I) {p : Nat} (hp : p ≤ sz) (hp7 : F 40 7 = nI p) (k : ∀ F1 : Nat → Nat → Int32, RS sz tp (tks sz tp p) F1 → KF F F1 → Q none (S0, F1, I, J)) : Wp mX7_read (d + 2) 0 0 0 (sm_ini [.ref 40] 1) [] (S0, F, I, J) Q := by
  show Wp _ _ _ _ _ [.ref 40] _ _ _
  have hz := hP.2.2.1
  have hqge := (tks_le (tp := tp) hp).1
  have hqle := (tks_le (tp := tp) hp).2
  refine wp_loopS (σ := Nat → Nat → Int32) (fun _ _ => [.ref 40]) (fun _ F1 => (S0, F1, I, J)) (fun i F1 => KF F F1 ∧ F1 40 7 = nI (p + i)) (tks sz tp p - p) (fun i F1 hi hs nx => ?_) (fun F1 hs => ?_) 0 F (Nat.zero_le _) ⟨KF.rf, hp7⟩
  · obtain ⟨hk, h7⟩ := hs
    have h6 : F1 40 6 = nI sz := (hk 40 6 (by omega)).trans hP.1
    have hlt : p + i < sz := by omega
    have hsp : tp (p + i) = 32 := of_decide_eq_true (run_P (P := isSp) (j := p + i) (by omega) (show p + i < run isSp sz tp p by unfold tks at hi; omega))
    refine wp_aload_n (pc := 0) 0 dX7_read_0 rfl rfl ?_
    refine wq_getI (pc := 1) 97 7 dX7_read_1 s0_40 flX7_97 rfl (by decide) ?_
    refine wp_int h7 ?_
    refine wp_aload_n (pc := 4) 0 dX7_read_4 rfl rfl ?_
    refine wq_getI (pc := 5) 93 6 dX7_read_5 s0_40 flX7_93 rfl (by decide) ?_
    refine wp_int h6 ?_
    refine wp_icmp_ge (pc := 8) 38 dX7_read_8 (by decide) (fun c_8 => ?_) (fun c_8 => ?_)
    · exact absurd c_8 (nI_ge hlt (by omega))
    · refine wp_aload_n (pc := 11) 0 dX7_read_11 rfl rfl ?_
      refine wq_getR (pc := 12) 26 5 dX7_read_12 s0_40 flX7_26 rfl rfl (by decide) (by decide) ?_
      refine wp_aload_n (pc := 15) 0 dX7_read_15 rfl rfl ?_
      refine wq_getI (pc := 16) 97 7 dX7_read_16 s0_40 flX7_97 rfl (by decide) ?_
      refine wp_int h7 ?_
      refine wq_iald (pc := 19) _ dX7_read_19 s0_45 (by decide) rfl (by omega) (by decide) ?_
      refine wp_int (hP.2.1 _ (by omega)) ?_
      refine wp_bipush (pc := 20) (32) dX7_read_20 (by decide) ?_
      refine wp_icmp_ne (pc := 22) 38 dX7_read_22 (by decide) (fun c_22 => ?_) (fun c_22 => ?_)
      · exact absurd (by rw [hsp]; rfl) c_22
      · refine wp_aload_n (pc := 25) 0 dX7_read_25 rfl rfl ?_
        refine wp_dup (pc := 26) dX7_read_26 rfl ?_
        refine wq_getI (pc := 27) 97 7 dX7_read_27 s0_40 flX7_97 rfl (by decide) ?_
        refine wp_int h7 ?_
        refine wp_iconst (pc := 30) (1) dX7_read_30 (by decide) ?_
        refine wp_iadd (pc := 31) dX7_read_31 ?_
        refine wp_int (nI_1 _) ?_
        refine wq_putI (pc := 32) 97 7 dX7_read_32 s0_40 flX7_97 rfl rfl (by decide) ?_
        refine wp_goto (pc := 35) 0 dX7_read_35 (by decide) ?_
        exact nx _ ⟨hk.u (by decide) (by decide), up_eq⟩
  · obtain ⟨hk, h7⟩ := hs
    have h6 : F1 40 6 = nI sz := (hk 40 6 (by omega)).trans hP.1
    rw [show p + (tks sz tp p - p) = tks sz tp p by omega] at h7
    refine wp_aload_n (pc := 0) 0 dX7_read_0 rfl rfl ?_
    refine wq_getI (pc := 1) 97 7 dX7_read_1 s0_40 flX7_97 rfl (by decide) ?_
    refine wp_int h7 ?_
    refine wp_aload_n (pc := 4) 0 dX7_read_4 rfl rfl ?_
    refine wq_getI (pc := 5) 93 6 dX7_read_5 s0_40 flX7_93 rfl (by decide) ?_
    refine wp_int h6 ?_
    refine wp_icmp_ge (pc := 8) 38 dX7_read_8 (by decide) (fun c_8 => ?_) (fun c_8 => ?_)
    · refine wp_aload_n (pc := 38) 0 dX7_read_38 rfl rfl ?_
      refine wp_aload_n (pc := 39) 0 dX7_read_39 rfl rfl ?_
      refine wq_getI (pc := 40) 97 7 dX7_read_40 s0_40 flX7_97 rfl (by decide) ?_
      refine wp_int h7 ?_
      refine wq_putI (pc := 43) 100 8 dX7_read_43 s0_40 flX7_100 rfl rfl (by decide) ?_
      refine wp_aload_n (pc := 46) 0 dX7_read_46 rfl rfl ?_
      refine wp_iconst (pc := 47) (0) dX7_read_47 (by decide) ?_
      refine wq_putI (pc := 48) 103 10 dX7_read_48 s0_40 flX7_103 rfl rfl (by decide) ?_
      refine wp_aload_n (pc := 51) 0 dX7_read_51 rfl rfl ?_
      refine wp_aload_n (pc := 52) 0 dX7_read_52 rfl rfl ?_
      refine wq_getI (pc := 53) 97 7 dX7_read_53 s0_40 flX7_97 rfl (by decide) ?_
      refine wp_int (y := nI (tks sz tp p)) (by simp [sm_up, h7]) ?_
      refine wp_aload_n (pc := 56) 0 dX7_read_56 rfl rfl ?_
      refine wq_getI (pc := 57) 93 6 dX7_read_57 s0_40 flX7_93 rfl (by decide) ?_
      refine wp_int (y := nI sz) (by simp [sm_up, h6]) ?_
      refine wp_icmp_ne (pc := 60) 67 dX7_read_60 (by decide) (fun c_60 => ?_) (fun c_60 => ?_)
      · have hql : tks sz tp p < sz := Nat.lt_of_le_of_ne hqle (fun z => c_60 (by rw [z]))
        refine wp_aload_n (pc := 67) 0 dX7_read_67 rfl rfl ?_
        refine wp_aload_n (pc := 68) 0 dX7_read_68 rfl rfl ?_
        refine wq_getI (pc := 69) 97 7 dX7_read_69 s0_40 flX7_97 rfl (by decide) ?_
        refine wp_int (y := nI (tks sz tp p)) (by simp [sm_up, h7]) ?_
        refine wc_V_I (pc := 72) dX7_read_72 lkX7_106 (sm_Rc.o (ci := 6) s0_40 (by decide) (by decide)) (by decide) (Nat.le_of_ble_eq_true rfl) ?_
        refine c_X7_isLetter (hP.kf (((hk.u (j := 8) (v := nI (tks sz tp p)) (by decide) (by decide)).u (j := 10) (v := 0) (by decide) (by decide)))) (by omega) ?_
        refine wp_ifeqB (pc := 75) 82 dX7_read_75 (by decide) (fun c_75 => ?_) (fun c_75 => ?_)
        · have c_75 := of_sm0 hql c_75
          refine wp_aload_n (pc := 82) 0 dX7_read_82 rfl rfl ?_
          refine wp_aload_n (pc := 83) 0 dX7_read_83 rfl rfl ?_
          refine wq_getI (pc := 84) 97 7 dX7_read_84 s0_40 flX7_97 rfl (by decide) ?_
          refine wp_int (y := nI (tks sz tp p)) (by simp [sm_up, h7]) ?_
          refine wc_V_I (pc := 87) dX7_read_87 lkX7_109 (sm_Rc.o (ci := 6) s0_40 (by decide) (by decide)) (by decide) (Nat.le_of_ble_eq_true rfl) ?_
          refine c_X7_isDigit (hP.kf (((hk.u (j := 8) (v := nI (tks sz tp p)) (by decide) (by decide)).u (j := 10) (v := 0) (by decide) (by decide)))) (by omega) ?_
          refine wp_ifeqB (pc := 90) 97 dX7_read_90 (by decide) (fun c_90 => ?_) (fun c_90 => ?_)
          · have c_90 := of_sm0 hql c_90
            refine wp_aload_n (pc := 97) 0 dX7_read_97 rfl rfl ?_
            refine wq_getR (pc := 98) 26 5 dX7_read_98 s0_40 flX7_26 rfl rfl (by decide) (by decide) ?_
            refine wp_aload_n (pc := 101) 0 dX7_read_101 rfl rfl ?_
            refine wq_getI (pc := 102) 97 7 dX7_read_102 s0_40 flX7_97 rfl (by decide) ?_
            refine wp_int (y := nI (tks sz tp p)) (by simp [sm_up, h7]) ?_
            refine wq_iald (pc := 105) _ dX7_read_105 s0_45 (by decide) rfl (by omega) (by decide) ?_
            refine wp_int (hP.2.1 _ (by omega)) ?_
            refine wp_bipush (pc := 106) (59) dX7_read_106 (by decide) ?_
            refine wp_icmp_ne (pc := 108) 115 dX7_read_108 (by decide) (fun c_108 => ?_) (fun c_108 => ?_)
            · refine wp_iconst (pc := 115) (4) dX7_read_115 (by decide) ?_
              refine wq_putI (pc := 116) 112 9 dX7_read_116 s0_40 flX7_112 rfl rfl (by decide) ?_
              refine wp_aload_n (pc := 119) 0 dX7_read_119 rfl rfl ?_
              refine wq_getI (pc := 120) 112 9 dX7_read_120 s0_40 flX7_112 rfl (by decide) ?_
              refine wp_int (y := 4) (by simp [sm_up]) ?_
              refine wp_iconst (pc := 123) (1) dX7_read_123 (by decide) ?_
              refine wp_icmp_ne (pc := 124) 151 dX7_read_124 (by decide) (fun c_124 => ?_) (fun c_124 => ?_)
              · refine wp_aload_n (pc := 151) 0 dX7_read_151 rfl rfl ?_
                refine wq_getI (pc := 152) 112 9 dX7_read_152 s0_40 flX7_112 rfl (by decide) ?_
                refine wp_int (y := 4) (by simp [sm_up]) ?_
                refine wp_iconst (pc := 155) (2) dX7_read_155 (by decide) ?_
                refine wp_icmp_ne (pc := 156) 226 dX7_read_156 (by decide) (fun c_156 => ?_) (fun c_156 => ?_)
                · refine wp_aload_n (pc := 226) 0 dX7_read_226 rfl rfl ?_
                  refine wq_getI (pc := 227) 112 9 dX7_read_227 s0_40 flX7_112 rfl (by decide) ?_
                  refine wp_int (y := 4) (by simp [sm_up]) ?_
                  refine wp_iconst (pc := 230) (2) dX7_read_230 (by decide) ?_
                  refine wp_icmp_le (pc := 231) 244 dX7_read_231 (by decide) (fun c_231 => ?_) (fun c_231 => ?_)
                  · exact absurd c_231 (by decide)
                  · refine wp_aload_n (pc := 234) 0 dX7_read_234 rfl rfl ?_
                    refine wp_dup (pc := 235) dX7_read_235 rfl ?_
                    refine wq_getI (pc := 236) 97 7 dX7_read_236 s0_40 flX7_97 rfl (by decide) ?_
                    refine wp_int (y := nI (tks sz tp p)) (by simp [sm_up, h7]) ?_
                    refine wp_iconst (pc := 239) (1) dX7_read_239 (by decide) ?_
                    refine wp_iadd (pc := 240) dX7_read_240 ?_
                    refine wp_int (nI_1 _) ?_
                    refine wq_putI (pc := 241) 97 7 dX7_read_241 s0_40 flX7_97 rfl rfl (by decide) ?_
                    refine wp_ret (pc := 244) dX7_read_244 rfl ?_
                    have hs : srtk sz tp (tks sz tp p) = 4 := (srt_3 hql c_75 c_90).trans (if_neg (fun z => c_108 (by rw [z]; rfl)))
                    refine k _ ⟨?_, ?_, ?_, ?_⟩ (by first | exact (((hk.u (by decide) (by decide)).u (by decide) (by decide)).u (by decide) (by decide)) | exact ((((hk.u (by decide) (by decide)).u (by decide) (by decide)).u (by decide) (by decide)).u (by decide) (by decide)))
                    · rw [enk_4 hs]; simp [sm_up, h7]
                    · simp [sm_up]
                    · rw [hs]; simp [sm_up]; try rfl
                    · intro z; rw [hs] at z; cases z
                · exact absurd c_156 (by decide)
              · exact absurd c_124 (by decide)
            · refine wp_iconst (pc := 111) (3) dX7_read_111 (by decide) ?_
              refine wp_goto (pc := 112) 116 dX7_read_112 (by decide) ?_
              refine wq_putI (pc := 116) 112 9 dX7_read_116 s0_40 flX7_112 rfl rfl (by decide) ?_
              refine wp_aload_n (pc := 119) 0 dX7_read_119 rfl rfl ?_
              refine wq_getI (pc := 120) 112 9 dX7_read_120 s0_40 flX7_112 rfl (by decide) ?_
              refine wp_int (y := 3) (by simp [sm_up]) ?_
              refine wp_iconst (pc := 123) (1) dX7_read_123 (by decide) ?_
              refine wp_icmp_ne (pc := 124) 151 dX7_read_124 (by decide) (fun c_124 => ?_) (fun c_124 => ?_)
              · refine wp_aload_n (pc := 151) 0 dX7_read_151 rfl rfl ?_
                refine wq_getI (pc := 152) 112 9 dX7_read_152 s0_40 flX7_112 rfl (by decide) ?_
                refine wp_int (y := 3) (by simp [sm_up]) ?_
                refine wp_iconst (pc := 155) (2) dX7_read_155 (by decide) ?_
                refine wp_icmp_ne (pc := 156) 226 dX7_read_156 (by decide) (fun c_156 => ?_) (fun c_156 => ?_)
                · refine wp_aload_n (pc := 226) 0 dX7_read_226 rfl rfl ?_
                  refine wq_getI (pc := 227) 112 9 dX7_read_227 s0_40 flX7_112 rfl (by decide) ?_
                  refine wp_int (y := 3) (by simp [sm_up]) ?_
                  refine wp_iconst (pc := 230) (2) dX7_read_230 (by decide) ?_
                  refine wp_icmp_le (pc := 231) 244 dX7_read_231 (by decide) (fun c_231 => ?_) (fun c_231 => ?_)
                  · exact absurd c_231 (by decide)
                  · refine wp_aload_n (pc := 234) 0 dX7_read_234 rfl rfl ?_
                    refine wp_dup (pc := 235) dX7_read_235 rfl ?_
                    refine wq_getI (pc := 236) 97 7 dX7_read_236 s0_40 flX7_97 rfl (by decide) ?_
                    refine wp_int (y := nI (tks sz tp p)) (by simp [sm_up, h7]) ?_
                    refine wp_iconst (pc := 239) (1) dX7_read_239 (by decide) ?_
                    refine wp_iadd (pc := 240) dX7_read_240 ?_
                    refine wp_int (nI_1 _) ?_
                    refine wq_putI (pc := 241) 97 7 dX7_read_241 s0_40 flX7_97 rfl rfl (by decide) ?_
                    refine wp_ret (pc := 244) dX7_read_244 rfl ?_
                    have hs : srtk sz tp (tks sz tp p) = 3 := (srt_3 hql c_75 c_90).trans (if_pos ((nI_eq (b := 59) (by have := hP.2.2.2 (tks sz tp p); omega) (by decide)).mp c_108))
                    refine k _ ⟨?_, ?_, ?_, ?_⟩ (by first | exact (((hk.u (by decide) (by decide)).u (by decide) (by decide)).u (by decide) (by decide)) | exact ((((hk.u (by decide) (by decide)).u (by decide) (by decide)).u (by decide) (by decide)).u (by decide) (by decide)))
                    · rw [enk_3 hs]; simp [sm_up, h7]
                    · simp [sm_up]
                    · rw [hs]; simp [sm_up]; try rfl
                    · intro z; rw [hs] at z; cases z
                · exact absurd c_156 (by decide)
              · exact absurd c_124 (by decide)
          · refine wp_iconst (pc := 93) (2) dX7_read_93 (by decide) ?_
            refine wp_goto (pc := 94) 116 dX7_read_94 (by decide) ?_
            refine wq_putI (pc := 116) 112 9 dX7_read_116 s0_40 flX7_112 rfl rfl (by decide) ?_
            refine wp_aload_n (pc := 119) 0 dX7_read_119 rfl rfl ?_
            refine wq_getI (pc := 120) 112 9 dX7_read_120 s0_40 flX7_112 rfl (by decide) ?_
            refine wp_int (y := 2) (by simp [sm_up]) ?_
            refine wp_iconst (pc := 123) (1) dX7_read_123 (by decide) ?_
            refine wp_icmp_ne (pc := 124) 151 dX7_read_124 (by decide) (fun c_124 => ?_) (fun c_124 => ?_)
            · refine wp_aload_n (pc := 151) 0 dX7_read_151 rfl rfl ?_
              refine wq_getI (pc := 152) 112 9 dX7_read_152 s0_40 flX7_112 rfl (by decide) ?_
              refine wp_int (y := 2) (by simp [sm_up]) ?_
              refine wp_iconst (pc := 155) (2) dX7_read_155 (by decide) ?_
              refine wp_icmp_ne (pc := 156) 226 dX7_read_156 (by decide) (fun c_156 => ?_) (fun c_156 => ?_)
              · exact absurd (by decide) c_156
              · have hs := srt_2 hql c_75 (of_sm c_90)
                have he : endk sz tp (tks sz tp p) = run isDg sz tp (tks sz tp p) := by rw [enk_2 hs]; exact (run_t hql (of_sm c_90)).symm
                have hge : tks sz tp p ≤ run isDg sz tp (tks sz tp p) := run_ge
                have hle : run isDg sz tp (tks sz tp p) ≤ sz := run_le (Nat.le_of_lt hql)
                refine wp_loopS (σ := Nat → Nat → Int32) (fun _ _ => [.ref 40]) (fun _ G => (S0, G, I, J)) (fun i G => KF F G ∧ G 40 6 = nI sz ∧ G 40 7 = nI (tks sz tp p + i) ∧ G 40 8 = nI (tks sz tp p) ∧ G 40 9 = 2 ∧ G 40 10 = nI (nmI tp (tks sz tp p) i)) (run isDg sz tp (tks sz tp p) - tks sz tp p) (fun i G hi hg nx => ?_) (fun G hg => ?_) 0 _ (Nat.zero_le _) ⟨(((hk.u (by decide) (by decide)).u (by decide) (by decide)).u (by decide) (by decide)), by simp [sm_up, h6], by simp [sm_up, h7], by simp [sm_up], by simp [sm_up], by simp [sm_up]; rfl⟩
                · obtain ⟨g1, g2, g3, g4, g5, g6⟩ := hg
                  have hP2 : TP sz tp G I := hP.kf g1
                  have hdg : isDg (tp (tks sz tp p + i)) = true := run_P (sz := sz) (Nat.le_add_right _ _) (by omega)
                  have hd48 := isDg_b hdg
                  refine wp_aload_n (pc := 159) 0 dX7_read_159 rfl rfl ?_
                  refine wp_aload_n (pc := 160) 0 dX7_read_160 rfl rfl ?_
                  refine wq_getI (pc := 161) 97 7 dX7_read_161 s0_40 flX7_97 rfl (by decide) ?_
                  refine wp_int g3 ?_
                  refine wc_V_I (pc := 164) dX7_read_164 lkX7_109 (sm_Rc.o (ci := 6) s0_40 (by decide) (by decide)) (by decide) (Nat.le_of_ble_eq_true rfl) ?_
                  refine c_X7_isDigit hP2 (by omega) ?_
                  refine wp_ifeqB (pc := 167) 244 dX7_read_167 (by decide) (fun c_167 => ?_) (fun c_167 => ?_)
                  · exact absurd c_167 (by rw [decide_eq_true (show tks sz tp p + i < sz by omega), hdg]; decide)
                  · refine wp_aload_n (pc := 170) 0 dX7_read_170 rfl rfl ?_
                    refine wp_aload_n (pc := 171) 0 dX7_read_171 rfl rfl ?_
                    refine wq_getI (pc := 172) 97 7 dX7_read_172 s0_40 flX7_97 rfl (by decide) ?_
                    refine wp_int g3 ?_
                    refine wp_aload_n (pc := 175) 0 dX7_read_175 rfl rfl ?_
                    refine wq_getI (pc := 176) 100 8 dX7_read_176 s0_40 flX7_100 rfl (by decide) ?_
                    refine wp_int g4 ?_
                    refine wp_isub (pc := 179) dX7_read_179 ?_
                    refine wp_int (y := nI i) ((sub_nI (Nat.le_add_right _ _)).trans (by rw [Nat.add_sub_cancel_left])) ?_
                    refine wp_iconst (pc := 180) (3) dX7_read_180 (by decide) ?_
                    refine wp_icmp_ge (pc := 181) 207 dX7_read_181 (by decide) (fun c_181 => ?_) (fun c_181 => ?_)
                    · refine wp_sipush (pc := 207) (1000) dX7_read_207 (by decide) ?_
                      refine wq_putI (pc := 210) 103 10 dX7_read_210 s0_40 flX7_103 rfl rfl (by decide) ?_
                      refine wp_aload_n (pc := 213) 0 dX7_read_213 rfl rfl ?_
                      refine wp_dup (pc := 214) dX7_read_214 rfl ?_
                      refine wq_getI (pc := 215) 97 7 dX7_read_215 s0_40 flX7_97 rfl (by decide) ?_
                      refine wp_int (y := nI (tks sz tp p + i)) (by simp [sm_up, g3]) ?_
                      refine wp_iconst (pc := 218) (1) dX7_read_218 (by decide) ?_
                      refine wp_iadd (pc := 219) dX7_read_219 ?_
                      refine wp_int (nI_1 _) ?_
                      refine wq_putI (pc := 220) 97 7 dX7_read_220 s0_40 flX7_97 rfl rfl (by decide) ?_
                      refine wp_goto (pc := 223) 159 dX7_read_223 (by decide) ?_
                      refine nx _ ⟨(g1.u (by decide) (by decide)).u (by decide) (by decide), by simp [sm_up, g2], by simp [sm_up]; rfl, by simp [sm_up, g4], by simp [sm_up, g5], ?_⟩
                      rw [nmI_l (fun z => nI_ge (b := 3) z (by decide) c_181)]; simp [sm_up]; rfl
                    · have hi3 : i < 3 := Nat.lt_of_not_le fun z => c_181 (nI_le (a := 3) z (by omega))
                      refine wp_bipush (pc := 184) (10) dX7_read_184 (by decide) ?_
                      refine wp_aload_n (pc := 186) 0 dX7_read_186 rfl rfl ?_
                      refine wq_getI (pc := 187) 103 10 dX7_read_187 s0_40 flX7_103 rfl (by decide) ?_
                      refine wp_int g6 ?_
                      refine wp_imul (pc := 190) dX7_read_190 ?_
                      refine wp_int (x := 10 * nI _) (pk_mul 10 _) ?_
                      refine wp_aload_n (pc := 191) 0 dX7_read_191 rfl rfl ?_
                      refine wq_getR (pc := 192) 26 5 dX7_read_192 s0_40 flX7_26 rfl rfl (by decide) (by decide) ?_
                      refine wp_aload_n (pc := 195) 0 dX7_read_195 rfl rfl ?_
                      refine wq_getI (pc := 196) 97 7 dX7_read_196 s0_40 flX7_97 rfl (by decide) ?_
                      refine wp_int g3 ?_
                      refine wq_iald (pc := 199) _ dX7_read_199 s0_45 (by decide) rfl (by omega) (by decide) ?_
                      refine wp_int (hP.2.1 _ (by omega)) ?_
                      refine wp_iadd (pc := 200) dX7_read_200 ?_
                      refine wp_int (nI_add _ _) ?_
                      refine wp_bipush (pc := 201) (48) dX7_read_201 (by decide) ?_
                      refine wp_isub (pc := 203) dX7_read_203 ?_
                      refine wp_int (y := nI (10 * nmI tp (tks sz tp p) i + (tp (tks sz tp p + i) - 48))) ((sub_nI (b := 48) (by omega)).trans (by congr 1; omega)) ?_
                      refine wp_goto (pc := 204) 210 dX7_read_204 (by decide) ?_
                      refine wq_putI (pc := 210) 103 10 dX7_read_210 s0_40 flX7_103 rfl rfl (by decide) ?_
                      refine wp_aload_n (pc := 213) 0 dX7_read_213 rfl rfl ?_
                      refine wp_dup (pc := 214) dX7_read_214 rfl ?_
                      refine wq_getI (pc := 215) 97 7 dX7_read_215 s0_40 flX7_97 rfl (by decide) ?_
                      refine wp_int (y := nI (tks sz tp p + i)) (by simp [sm_up, g3]) ?_
                      refine wp_iconst (pc := 218) (1) dX7_read_218 (by decide) ?_
                      refine wp_iadd (pc := 219) dX7_read_219 ?_
                      refine wp_int (nI_1 _) ?_
                      refine wq_putI (pc := 220) 97 7 dX7_read_220 s0_40 flX7_97 rfl rfl (by decide) ?_
                      refine wp_goto (pc := 223) 159 dX7_read_223 (by decide) ?_
                      refine nx _ ⟨(g1.u (by decide) (by decide)).u (by decide) (by decide), by simp [sm_up, g2], by simp [sm_up]; rfl, by simp [sm_up, g4], by simp [sm_up, g5], ?_⟩
                      rw [nmI_s hi3]; simp [sm_up]
                · obtain ⟨g1, g2, g3, g4, g5, g6⟩ := hg
                  have hP2 : TP sz tp G I := hP.kf g1
                  rw [show tks sz tp p + (run isDg sz tp (tks sz tp p) - tks sz tp p) = run isDg sz tp (tks sz tp p) by omega] at g3
                  refine wp_aload_n (pc := 159) 0 dX7_read_159 rfl rfl ?_
                  refine wp_aload_n (pc := 160) 0 dX7_read_160 rfl rfl ?_
                  refine wq_getI (pc := 161) 97 7 dX7_read_161 s0_40 flX7_97 rfl (by decide) ?_
                  refine wp_int g3 ?_
                  refine wc_V_I (pc := 164) dX7_read_164 lkX7_109 (sm_Rc.o (ci := 6) s0_40 (by decide) (by decide)) (by decide) (Nat.le_of_ble_eq_true rfl) ?_
                  refine c_X7_isDigit hP2 (by omega) ?_
                  refine wp_ifeqB (pc := 167) 244 dX7_read_167 (by decide) (fun c_167 => ?_) (fun c_167 => ?_)
                  · refine wp_ret (pc := 244) dX7_read_244 rfl ?_
                    exact k _ ⟨by rw [he]; exact g3, g4, by rw [hs]; exact g5, fun _ => by rw [g6]; unfold nmk nmI; rw [he]⟩ g1
                  · exact absurd (and_both c_167) run_stop
            · exact absurd c_124 (by decide)
        · refine wp_iconst (pc := 78) (1) dX7_read_78 (by decide) ?_
          refine wp_goto (pc := 79) 116 dX7_read_79 (by decide) ?_
          refine wq_putI (pc := 116) 112 9 dX7_read_116 s0_40 flX7_112 rfl rfl (by decide) ?_
          refine wp_aload_n (pc := 119) 0 dX7_read_119 rfl rfl ?_
          refine wq_getI (pc := 120) 112 9 dX7_read_120 s0_40 flX7_112 rfl (by decide) ?_
          refine wp_int (y := 1) (by simp [sm_up]) ?_
          refine wp_iconst (pc := 123) (1) dX7_read_123 (by decide) ?_
          refine wp_icmp_ne (pc := 124) 151 dX7_read_124 (by decide) (fun c_124 => ?_) (fun c_124 => ?_)
          · exact absurd (by decide) c_124
          · have hs := srt_1 hql (of_sm c_75)
            have he : endk sz tp (tks sz tp p) = run isSm sz tp (tks sz tp p) := by rw [enk_1 hs]; exact (run_t hql (of_sm c_75)).symm
            have hge : tks sz tp p ≤ run isSm sz tp (tks sz tp p) := run_ge
            have hle : run isSm sz tp (tks sz tp p) ≤ sz := run_le (Nat.le_of_lt hql)
            refine wp_loopS (σ := Nat → Nat → Int32) (fun _ _ => [.ref 40]) (fun _ G => (S0, G, I, J)) (fun i G => KF F G ∧ G 40 6 = nI sz ∧ G 40 7 = nI (tks sz tp p + i) ∧ G 40 8 = nI (tks sz tp p) ∧ G 40 9 = 1) (run isSm sz tp (tks sz tp p) - tks sz tp p) (fun i G hi hg nx => ?_) (fun G hg => ?_) 0 _ (Nat.zero_le _) ⟨(((hk.u (by decide) (by decide)).u (by decide) (by decide)).u (by decide) (by decide)), by simp [sm_up, h6], by simp [sm_up, h7], by simp [sm_up], by simp [sm_up]⟩
            · obtain ⟨g1, g2, g3, g4, g5⟩ := hg
              have hP2 : TP sz tp G I := hP.kf g1
              have hsm : isSm (tp (tks sz tp p + i)) = true := run_P (sz := sz) (Nat.le_add_right _ _) (by omega)
              refine wp_aload_n (pc := 127) 0 dX7_read_127 rfl rfl ?_
              refine wp_aload_n (pc := 128) 0 dX7_read_128 rfl rfl ?_
              refine wq_getI (pc := 129) 97 7 dX7_read_129 s0_40 flX7_97 rfl (by decide) ?_
              refine wp_int g3 ?_
              refine wc_V_I (pc := 132) dX7_read_132 lkX7_106 (sm_Rc.o (ci := 6) s0_40 (by decide) (by decide)) (by decide) (Nat.le_of_ble_eq_true rfl) ?_
              refine c_X7_isLetter hP2 (by omega) ?_
              refine wp_ifeqB (pc := 135) 244 dX7_read_135 (by decide) (fun c_135 => ?_) (fun c_135 => ?_)
              · exact absurd c_135 (by rw [decide_eq_true (show tks sz tp p + i < sz by omega), hsm]; decide)
              · refine wp_aload_n (pc := 138) 0 dX7_read_138 rfl rfl ?_
                refine wp_dup (pc := 139) dX7_read_139 rfl ?_
                refine wq_getI (pc := 140) 97 7 dX7_read_140 s0_40 flX7_97 rfl (by decide) ?_
                refine wp_int g3 ?_
                refine wp_iconst (pc := 143) (1) dX7_read_143 (by decide) ?_
                refine wp_iadd (pc := 144) dX7_read_144 ?_
                refine wp_int (nI_1 _) ?_
                refine wq_putI (pc := 145) 97 7 dX7_read_145 s0_40 flX7_97 rfl rfl (by decide) ?_
                refine wp_goto (pc := 148) 127 dX7_read_148 (by decide) ?_
                exact nx _ ⟨g1.u (by decide) (by decide), by simp [sm_up, g2], by simp [sm_up]; rfl, by simp [sm_up, g4], by simp [sm_up, g5]⟩
            · obtain ⟨g1, g2, g3, g4, g5⟩ := hg
              have hP2 : TP sz tp G I := hP.kf g1
              rw [show tks sz tp p + (run isSm sz tp (tks sz tp p) - tks sz tp p) = run isSm sz tp (tks sz tp p) by omega] at g3
              refine wp_aload_n (pc := 127) 0 dX7_read_127 rfl rfl ?_
              refine wp_aload_n (pc := 128) 0 dX7_read_128 rfl rfl ?_
              refine wq_getI (pc := 129) 97 7 dX7_read_129 s0_40 flX7_97 rfl (by decide) ?_
              refine wp_int g3 ?_
              refine wc_V_I (pc := 132) dX7_read_132 lkX7_106 (sm_Rc.o (ci := 6) s0_40 (by decide) (by decide)) (by decide) (Nat.le_of_ble_eq_true rfl) ?_
              refine c_X7_isLetter hP2 (by omega) ?_
              refine wp_ifeqB (pc := 135) 244 dX7_read_135 (by decide) (fun c_135 => ?_) (fun c_135 => ?_)
              · refine wp_ret (pc := 244) dX7_read_244 rfl ?_
                exact k _ ⟨by rw [he]; exact g3, g4, by rw [hs]; exact g5, fun z => by rw [hs] at z; cases z⟩ g1
              · exact absurd (and_both c_135) run_stop
      · have hqs : tks sz tp p = sz := (nI_eq (by omega) (by omega)).mp c_60
        refine wp_iconst (pc := 63) (0) dX7_read_63 (by decide) ?_
        refine wp_goto (pc := 64) 116 dX7_read_64 (by decide) ?_
        refine wq_putI (pc := 116) 112 9 dX7_read_116 s0_40 flX7_112 rfl rfl (by decide) ?_
        refine wp_aload_n (pc := 119) 0 dX7_read_119 rfl rfl ?_
        refine wq_getI (pc := 120) 112 9 dX7_read_120 s0_40 flX7_112 rfl (by decide) ?_
        refine wp_int (y := 0) (by simp [sm_up]) ?_
        refine wp_iconst (pc := 123) (1) dX7_read_123 (by decide) ?_
        refine wp_icmp_ne (pc := 124) 151 dX7_read_124 (by decide) (fun c_124 => ?_) (fun c_124 => ?_)
        · refine wp_aload_n (pc := 151) 0 dX7_read_151 rfl rfl ?_
          refine wq_getI (pc := 152) 112 9 dX7_read_152 s0_40 flX7_112 rfl (by decide) ?_
          refine wp_int (y := 0) (by simp [sm_up]) ?_
          refine wp_iconst (pc := 155) (2) dX7_read_155 (by decide) ?_
          refine wp_icmp_ne (pc := 156) 226 dX7_read_156 (by decide) (fun c_156 => ?_) (fun c_156 => ?_)
          · refine wp_aload_n (pc := 226) 0 dX7_read_226 rfl rfl ?_
            refine wq_getI (pc := 227) 112 9 dX7_read_227 s0_40 flX7_112 rfl (by decide) ?_
            refine wp_int (y := 0) (by simp [sm_up]) ?_
            refine wp_iconst (pc := 230) (2) dX7_read_230 (by decide) ?_
            refine wp_icmp_le (pc := 231) 244 dX7_read_231 (by decide) (fun c_231 => ?_) (fun c_231 => ?_)
            · refine wp_ret (pc := 244) dX7_read_244 rfl ?_
              have hs := srt_0 (tp := tp) (show ¬ tks sz tp p < sz by rw [hqs]; omega)
              refine k _ ⟨?_, ?_, ?_, ?_⟩ (by first | exact (((hk.u (by decide) (by decide)).u (by decide) (by decide)).u (by decide) (by decide)) | exact ((((hk.u (by decide) (by decide)).u (by decide) (by decide)).u (by decide) (by decide)).u (by decide) (by decide)))
              · rw [enk_0 hs]; simp [sm_up, h7]
              · simp [sm_up]
              · rw [hs]; simp [sm_up]; try rfl
              · intro z; rw [hs] at z; cases z
            · exact absurd (by decide) c_231
          · exact absurd c_156 (by decide)
        · exact absurd c_124 (by decide)
    · have hqlt : tks sz tp p < sz := Nat.lt_of_not_le fun z => c_8 (nI_le z (by omega))
      refine wp_aload_n (pc := 11) 0 dX7_read_11 rfl rfl ?_
      refine wq_getR (pc := 12) 26 5 dX7_read_12 s0_40 flX7_26 rfl rfl (by decide) (by decide) ?_
      refine wp_aload_n (pc := 15) 0 dX7_read_15 rfl rfl ?_
      refine wq_getI (pc := 16) 97 7 dX7_read_16 s0_40 flX7_97 rfl (by decide) ?_
      refine wp_int h7 ?_
      refine wq_iald (pc := 19) _ dX7_read_19 s0_45 (by decide) rfl (by omega) (by decide) ?_
      refine wp_int (hP.2.1 _ (by omega)) ?_
      refine wp_bipush (pc := 20) (32) dX7_read_20 (by decide) ?_
      refine wp_icmp_ne (pc := 22) 38 dX7_read_22 (by decide) (fun c_22 => ?_) (fun c_22 => ?_)
      · refine wp_aload_n (pc := 38) 0 dX7_read_38 rfl rfl ?_
        refine wp_aload_n (pc := 39) 0 dX7_read_39 rfl rfl ?_
        refine wq_getI (pc := 40) 97 7 dX7_read_40 s0_40 flX7_97 rfl (by decide) ?_
        refine wp_int h7 ?_
        refine wq_putI (pc := 43) 100 8 dX7_read_43 s0_40 flX7_100 rfl rfl (by decide) ?_
        refine wp_aload_n (pc := 46) 0 dX7_read_46 rfl rfl ?_
        refine wp_iconst (pc := 47) (0) dX7_read_47 (by decide) ?_
        refine wq_putI (pc := 48) 103 10 dX7_read_48 s0_40 flX7_103 rfl rfl (by decide) ?_
        refine wp_aload_n (pc := 51) 0 dX7_read_51 rfl rfl ?_
        refine wp_aload_n (pc := 52) 0 dX7_read_52 rfl rfl ?_
        refine wq_getI (pc := 53) 97 7 dX7_read_53 s0_40 flX7_97 rfl (by decide) ?_
        refine wp_int (y := nI (tks sz tp p)) (by simp [sm_up, h7]) ?_
        refine wp_aload_n (pc := 56) 0 dX7_read_56 rfl rfl ?_
        refine wq_getI (pc := 57) 93 6 dX7_read_57 s0_40 flX7_93 rfl (by decide) ?_
        refine wp_int (y := nI sz) (by simp [sm_up, h6]) ?_
        refine wp_icmp_ne (pc := 60) 67 dX7_read_60 (by decide) (fun c_60 => ?_) (fun c_60 => ?_)
        · have hql : tks sz tp p < sz := Nat.lt_of_le_of_ne hqle (fun z => c_60 (by rw [z]))
          refine wp_aload_n (pc := 67) 0 dX7_read_67 rfl rfl ?_
          refine wp_aload_n (pc := 68) 0 dX7_read_68 rfl rfl ?_
          refine wq_getI (pc := 69) 97 7 dX7_read_69 s0_40 flX7_97 rfl (by decide) ?_
          refine wp_int (y := nI (tks sz tp p)) (by simp [sm_up, h7]) ?_
          refine wc_V_I (pc := 72) dX7_read_72 lkX7_106 (sm_Rc.o (ci := 6) s0_40 (by decide) (by decide)) (by decide) (Nat.le_of_ble_eq_true rfl) ?_
          refine c_X7_isLetter (hP.kf (((hk.u (j := 8) (v := nI (tks sz tp p)) (by decide) (by decide)).u (j := 10) (v := 0) (by decide) (by decide)))) (by omega) ?_
          refine wp_ifeqB (pc := 75) 82 dX7_read_75 (by decide) (fun c_75 => ?_) (fun c_75 => ?_)
          · have c_75 := of_sm0 hql c_75
            refine wp_aload_n (pc := 82) 0 dX7_read_82 rfl rfl ?_
            refine wp_aload_n (pc := 83) 0 dX7_read_83 rfl rfl ?_
            refine wq_getI (pc := 84) 97 7 dX7_read_84 s0_40 flX7_97 rfl (by decide) ?_
            refine wp_int (y := nI (tks sz tp p)) (by simp [sm_up, h7]) ?_
            refine wc_V_I (pc := 87) dX7_read_87 lkX7_109 (sm_Rc.o (ci := 6) s0_40 (by decide) (by decide)) (by decide) (Nat.le_of_ble_eq_true rfl) ?_
            refine c_X7_isDigit (hP.kf (((hk.u (j := 8) (v := nI (tks sz tp p)) (by decide) (by decide)).u (j := 10) (v := 0) (by decide) (by decide)))) (by omega) ?_
            refine wp_ifeqB (pc := 90) 97 dX7_read_90 (by decide) (fun c_90 => ?_) (fun c_90 => ?_)
            · have c_90 := of_sm0 hql c_90
              refine wp_aload_n (pc := 97) 0 dX7_read_97 rfl rfl ?_
              refine wq_getR (pc := 98) 26 5 dX7_read_98 s0_40 flX7_26 rfl rfl (by decide) (by decide) ?_
              refine wp_aload_n (pc := 101) 0 dX7_read_101 rfl rfl ?_
              refine wq_getI (pc := 102) 97 7 dX7_read_102 s0_40 flX7_97 rfl (by decide) ?_
              refine wp_int (y := nI (tks sz tp p)) (by simp [sm_up, h7]) ?_
              refine wq_iald (pc := 105) _ dX7_read_105 s0_45 (by decide) rfl (by omega) (by decide) ?_
              refine wp_int (hP.2.1 _ (by omega)) ?_
              refine wp_bipush (pc := 106) (59) dX7_read_106 (by decide) ?_
              refine wp_icmp_ne (pc := 108) 115 dX7_read_108 (by decide) (fun c_108 => ?_) (fun c_108 => ?_)
              · refine wp_iconst (pc := 115) (4) dX7_read_115 (by decide) ?_
                refine wq_putI (pc := 116) 112 9 dX7_read_116 s0_40 flX7_112 rfl rfl (by decide) ?_
                refine wp_aload_n (pc := 119) 0 dX7_read_119 rfl rfl ?_
                refine wq_getI (pc := 120) 112 9 dX7_read_120 s0_40 flX7_112 rfl (by decide) ?_
                refine wp_int (y := 4) (by simp [sm_up]) ?_
                refine wp_iconst (pc := 123) (1) dX7_read_123 (by decide) ?_
                refine wp_icmp_ne (pc := 124) 151 dX7_read_124 (by decide) (fun c_124 => ?_) (fun c_124 => ?_)
                · refine wp_aload_n (pc := 151) 0 dX7_read_151 rfl rfl ?_
                  refine wq_getI (pc := 152) 112 9 dX7_read_152 s0_40 flX7_112 rfl (by decide) ?_
                  refine wp_int (y := 4) (by simp [sm_up]) ?_
                  refine wp_iconst (pc := 155) (2) dX7_read_155 (by decide) ?_
                  refine wp_icmp_ne (pc := 156) 226 dX7_read_156 (by decide) (fun c_156 => ?_) (fun c_156 => ?_)
                  · refine wp_aload_n (pc := 226) 0 dX7_read_226 rfl rfl ?_
                    refine wq_getI (pc := 227) 112 9 dX7_read_227 s0_40 flX7_112 rfl (by decide) ?_
                    refine wp_int (y := 4) (by simp [sm_up]) ?_
                    refine wp_iconst (pc := 230) (2) dX7_read_230 (by decide) ?_
                    refine wp_icmp_le (pc := 231) 244 dX7_read_231 (by decide) (fun c_231 => ?_) (fun c_231 => ?_)
                    · exact absurd c_231 (by decide)
                    · refine wp_aload_n (pc := 234) 0 dX7_read_234 rfl rfl ?_
                      refine wp_dup (pc := 235) dX7_read_235 rfl ?_
                      refine wq_getI (pc := 236) 97 7 dX7_read_236 s0_40 flX7_97 rfl (by decide) ?_
                      refine wp_int (y := nI (tks sz tp p)) (by simp [sm_up, h7]) ?_
                      refine wp_iconst (pc := 239) (1) dX7_read_239 (by decide) ?_
                      refine wp_iadd (pc := 240) dX7_read_240 ?_
                      refine wp_int (nI_1 _) ?_
                      refine wq_putI (pc := 241) 97 7 dX7_read_241 s0_40 flX7_97 rfl rfl (by decide) ?_
                      refine wp_ret (pc := 244) dX7_read_244 rfl ?_
                      have hs : srtk sz tp (tks sz tp p) = 4 := (srt_3 hql c_75 c_90).trans (if_neg (fun z => c_108 (by rw [z]; rfl)))
                      refine k _ ⟨?_, ?_, ?_, ?_⟩ (by first | exact (((hk.u (by decide) (by decide)).u (by decide) (by decide)).u (by decide) (by decide)) | exact ((((hk.u (by decide) (by decide)).u (by decide) (by decide)).u (by decide) (by decide)).u (by decide) (by decide)))
                      · rw [enk_4 hs]; simp [sm_up, h7]
                      · simp [sm_up]
                      · rw [hs]; simp [sm_up]; try rfl
                      · intro z; rw [hs] at z; cases z
                  · exact absurd c_156 (by decide)
                · exact absurd c_124 (by decide)
              · refine wp_iconst (pc := 111) (3) dX7_read_111 (by decide) ?_
                refine wp_goto (pc := 112) 116 dX7_read_112 (by decide) ?_
                refine wq_putI (pc := 116) 112 9 dX7_read_116 s0_40 flX7_112 rfl rfl (by decide) ?_
                refine wp_aload_n (pc := 119) 0 dX7_read_119 rfl rfl ?_
                refine wq_getI (pc := 120) 112 9 dX7_read_120 s0_40 flX7_112 rfl (by decide) ?_
                refine wp_int (y := 3) (by simp [sm_up]) ?_
                refine wp_iconst (pc := 123) (1) dX7_read_123 (by decide) ?_
                refine wp_icmp_ne (pc := 124) 151 dX7_read_124 (by decide) (fun c_124 => ?_) (fun c_124 => ?_)
                · refine wp_aload_n (pc := 151) 0 dX7_read_151 rfl rfl ?_
                  refine wq_getI (pc := 152) 112 9 dX7_read_152 s0_40 flX7_112 rfl (by decide) ?_
                  refine wp_int (y := 3) (by simp [sm_up]) ?_
                  refine wp_iconst (pc := 155) (2) dX7_read_155 (by decide) ?_
                  refine wp_icmp_ne (pc := 156) 226 dX7_read_156 (by decide) (fun c_156 => ?_) (fun c_156 => ?_)
                  · refine wp_aload_n (pc := 226) 0 dX7_read_226 rfl rfl ?_
                    refine wq_getI (pc := 227) 112 9 dX7_read_227 s0_40 flX7_112 rfl (by decide) ?_
                    refine wp_int (y := 3) (by simp [sm_up]) ?_
                    refine wp_iconst (pc := 230) (2) dX7_read_230 (by decide) ?_
                    refine wp_icmp_le (pc := 231) 244 dX7_read_231 (by decide) (fun c_231 => ?_) (fun c_231 => ?_)
                    · exact absurd c_231 (by decide)
                    · refine wp_aload_n (pc := 234) 0 dX7_read_234 rfl rfl ?_
                      refine wp_dup (pc := 235) dX7_read_235 rfl ?_
                      refine wq_getI (pc := 236) 97 7 dX7_read_236 s0_40 flX7_97 rfl (by decide) ?_
                      refine wp_int (y := nI (tks sz tp p)) (by simp [sm_up, h7]) ?_
                      refine wp_iconst (pc := 239) (1) dX7_read_239 (by decide) ?_
                      refine wp_iadd (pc := 240) dX7_read_240 ?_
                      refine wp_int (nI_1 _) ?_
                      refine wq_putI (pc := 241) 97 7 dX7_read_241 s0_40 flX7_97 rfl rfl (by decide) ?_
                      refine wp_ret (pc := 244) dX7_read_244 rfl ?_
                      have hs : srtk sz tp (tks sz tp p) = 3 := (srt_3 hql c_75 c_90).trans (if_pos ((nI_eq (b := 59) (by have := hP.2.2.2 (tks sz tp p); omega) (by decide)).mp c_108))
                      refine k _ ⟨?_, ?_, ?_, ?_⟩ (by first | exact (((hk.u (by decide) (by decide)).u (by decide) (by decide)).u (by decide) (by decide)) | exact ((((hk.u (by decide) (by decide)).u (by decide) (by decide)).u (by decide) (by decide)).u (by decide) (by decide)))
                      · rw [enk_3 hs]; simp [sm_up, h7]
                      · simp [sm_up]
                      · rw [hs]; simp [sm_up]; try rfl
                      · intro z; rw [hs] at z; cases z
                  · exact absurd c_156 (by decide)
                · exact absurd c_124 (by decide)
            · refine wp_iconst (pc := 93) (2) dX7_read_93 (by decide) ?_
              refine wp_goto (pc := 94) 116 dX7_read_94 (by decide) ?_
              refine wq_putI (pc := 116) 112 9 dX7_read_116 s0_40 flX7_112 rfl rfl (by decide) ?_
              refine wp_aload_n (pc := 119) 0 dX7_read_119 rfl rfl ?_
              refine wq_getI (pc := 120) 112 9 dX7_read_120 s0_40 flX7_112 rfl (by decide) ?_
              refine wp_int (y := 2) (by simp [sm_up]) ?_
              refine wp_iconst (pc := 123) (1) dX7_read_123 (by decide) ?_
              refine wp_icmp_ne (pc := 124) 151 dX7_read_124 (by decide) (fun c_124 => ?_) (fun c_124 => ?_)
              · refine wp_aload_n (pc := 151) 0 dX7_read_151 rfl rfl ?_
                refine wq_getI (pc := 152) 112 9 dX7_read_152 s0_40 flX7_112 rfl (by decide) ?_
                refine wp_int (y := 2) (by simp [sm_up]) ?_
                refine wp_iconst (pc := 155) (2) dX7_read_155 (by decide) ?_
                refine wp_icmp_ne (pc := 156) 226 dX7_read_156 (by decide) (fun c_156 => ?_) (fun c_156 => ?_)
                · exact absurd (by decide) c_156
                · have hs := srt_2 hql c_75 (of_sm c_90)
                  have he : endk sz tp (tks sz tp p) = run isDg sz tp (tks sz tp p) := by rw [enk_2 hs]; exact (run_t hql (of_sm c_90)).symm
                  have hge : tks sz tp p ≤ run isDg sz tp (tks sz tp p) := run_ge
                  have hle : run isDg sz tp (tks sz tp p) ≤ sz := run_le (Nat.le_of_lt hql)
                  refine wp_loopS (σ := Nat → Nat → Int32) (fun _ _ => [.ref 40]) (fun _ G => (S0, G, I, J)) (fun i G => KF F G ∧ G 40 6 = nI sz ∧ G 40 7 = nI (tks sz tp p + i) ∧ G 40 8 = nI (tks sz tp p) ∧ G 40 9 = 2 ∧ G 40 10 = nI (nmI tp (tks sz tp p) i)) (run isDg sz tp (tks sz tp p) - tks sz tp p) (fun i G hi hg nx => ?_) (fun G hg => ?_) 0 _ (Nat.zero_le _) ⟨(((hk.u (by decide) (by decide)).u (by decide) (by decide)).u (by decide) (by decide)), by simp [sm_up, h6], by simp [sm_up, h7], by simp [sm_up], by simp [sm_up], by simp [sm_up]; rfl⟩
                  · obtain ⟨g1, g2, g3, g4, g5, g6⟩ := hg
                    have hP2 : TP sz tp G I := hP.kf g1
                    have hdg : isDg (tp (tks sz tp p + i)) = true := run_P (sz := sz) (Nat.le_add_right _ _) (by omega)
                    have hd48 := isDg_b hdg
                    refine wp_aload_n (pc := 159) 0 dX7_read_159 rfl rfl ?_
                    refine wp_aload_n (pc := 160) 0 dX7_read_160 rfl rfl ?_
                    refine wq_getI (pc := 161) 97 7 dX7_read_161 s0_40 flX7_97 rfl (by decide) ?_
                    refine wp_int g3 ?_
                    refine wc_V_I (pc := 164) dX7_read_164 lkX7_109 (sm_Rc.o (ci := 6) s0_40 (by decide) (by decide)) (by decide) (Nat.le_of_ble_eq_true rfl) ?_
                    refine c_X7_isDigit hP2 (by omega) ?_
                    refine wp_ifeqB (pc := 167) 244 dX7_read_167 (by decide) (fun c_167 => ?_) (fun c_167 => ?_)
                    · exact absurd c_167 (by rw [decide_eq_true (show tks sz tp p + i < sz by omega), hdg]; decide)
                    · refine wp_aload_n (pc := 170) 0 dX7_read_170 rfl rfl ?_
                      refine wp_aload_n (pc := 171) 0 dX7_read_171 rfl rfl ?_
                      refine wq_getI (pc := 172) 97 7 dX7_read_172 s0_40 flX7_97 rfl (by decide) ?_
                      refine wp_int g3 ?_
                      refine wp_aload_n (pc := 175) 0 dX7_read_175 rfl rfl ?_
                      refine wq_getI (pc := 176) 100 8 dX7_read_176 s0_40 flX7_100 rfl (by decide) ?_
                      refine wp_int g4 ?_
                      refine wp_isub (pc := 179) dX7_read_179 ?_
                      refine wp_int (y := nI i) ((sub_nI (Nat.le_add_right _ _)).trans (by rw [Nat.add_sub_cancel_left])) ?_
                      refine wp_iconst (pc := 180) (3) dX7_read_180 (by decide) ?_
                      refine wp_icmp_ge (pc := 181) 207 dX7_read_181 (by decide) (fun c_181 => ?_) (fun c_181 => ?_)
                      · refine wp_sipush (pc := 207) (1000) dX7_read_207 (by decide) ?_
                        refine wq_putI (pc := 210) 103 10 dX7_read_210 s0_40 flX7_103 rfl rfl (by decide) ?_
                        refine wp_aload_n (pc := 213) 0 dX7_read_213 rfl rfl ?_
                        refine wp_dup (pc := 214) dX7_read_214 rfl ?_
                        refine wq_getI (pc := 215) 97 7 dX7_read_215 s0_40 flX7_97 rfl (by decide) ?_
                        refine wp_int (y := nI (tks sz tp p + i)) (by simp [sm_up, g3]) ?_
                        refine wp_iconst (pc := 218) (1) dX7_read_218 (by decide) ?_
                        refine wp_iadd (pc := 219) dX7_read_219 ?_
                        refine wp_int (nI_1 _) ?_
                        refine wq_putI (pc := 220) 97 7 dX7_read_220 s0_40 flX7_97 rfl rfl (by decide) ?_
                        refine wp_goto (pc := 223) 159 dX7_read_223 (by decide) ?_
                        refine nx _ ⟨(g1.u (by decide) (by decide)).u (by decide) (by decide), by simp [sm_up, g2], by simp [sm_up]; rfl, by simp [sm_up, g4], by simp [sm_up, g5], ?_⟩
                        rw [nmI_l (fun z => nI_ge (b := 3) z (by decide) c_181)]; simp [sm_up]; rfl
                      · have hi3 : i < 3 := Nat.lt_of_not_le fun z => c_181 (nI_le (a := 3) z (by omega))
                        refine wp_bipush (pc := 184) (10) dX7_read_184 (by decide) ?_
                        refine wp_aload_n (pc := 186) 0 dX7_read_186 rfl rfl ?_
                        refine wq_getI (pc := 187) 103 10 dX7_read_187 s0_40 flX7_103 rfl (by decide) ?_
                        refine wp_int g6 ?_
                        refine wp_imul (pc := 190) dX7_read_190 ?_
                        refine wp_int (x := 10 * nI _) (pk_mul 10 _) ?_
                        refine wp_aload_n (pc := 191) 0 dX7_read_191 rfl rfl ?_
                        refine wq_getR (pc := 192) 26 5 dX7_read_192 s0_40 flX7_26 rfl rfl (by decide) (by decide) ?_
                        refine wp_aload_n (pc := 195) 0 dX7_read_195 rfl rfl ?_
                        refine wq_getI (pc := 196) 97 7 dX7_read_196 s0_40 flX7_97 rfl (by decide) ?_
                        refine wp_int g3 ?_
                        refine wq_iald (pc := 199) _ dX7_read_199 s0_45 (by decide) rfl (by omega) (by decide) ?_
                        refine wp_int (hP.2.1 _ (by omega)) ?_
                        refine wp_iadd (pc := 200) dX7_read_200 ?_
                        refine wp_int (nI_add _ _) ?_
                        refine wp_bipush (pc := 201) (48) dX7_read_201 (by decide) ?_
                        refine wp_isub (pc := 203) dX7_read_203 ?_
                        refine wp_int (y := nI (10 * nmI tp (tks sz tp p) i + (tp (tks sz tp p + i) - 48))) ((sub_nI (b := 48) (by omega)).trans (by congr 1; omega)) ?_
                        refine wp_goto (pc := 204) 210 dX7_read_204 (by decide) ?_
                        refine wq_putI (pc := 210) 103 10 dX7_read_210 s0_40 flX7_103 rfl rfl (by decide) ?_
                        refine wp_aload_n (pc := 213) 0 dX7_read_213 rfl rfl ?_
                        refine wp_dup (pc := 214) dX7_read_214 rfl ?_
                        refine wq_getI (pc := 215) 97 7 dX7_read_215 s0_40 flX7_97 rfl (by decide) ?_
                        refine wp_int (y := nI (tks sz tp p + i)) (by simp [sm_up, g3]) ?_
                        refine wp_iconst (pc := 218) (1) dX7_read_218 (by decide) ?_
                        refine wp_iadd (pc := 219) dX7_read_219 ?_
                        refine wp_int (nI_1 _) ?_
                        refine wq_putI (pc := 220) 97 7 dX7_read_220 s0_40 flX7_97 rfl rfl (by decide) ?_
                        refine wp_goto (pc := 223) 159 dX7_read_223 (by decide) ?_
                        refine nx _ ⟨(g1.u (by decide) (by decide)).u (by decide) (by decide), by simp [sm_up, g2], by simp [sm_up]; rfl, by simp [sm_up, g4], by simp [sm_up, g5], ?_⟩
                        rw [nmI_s hi3]; simp [sm_up]
                  · obtain ⟨g1, g2, g3, g4, g5, g6⟩ := hg
                    have hP2 : TP sz tp G I := hP.kf g1
                    rw [show tks sz tp p + (run isDg sz tp (tks sz tp p) - tks sz tp p) = run isDg sz tp (tks sz tp p) by omega] at g3
                    refine wp_aload_n (pc := 159) 0 dX7_read_159 rfl rfl ?_
                    refine wp_aload_n (pc := 160) 0 dX7_read_160 rfl rfl ?_
                    refine wq_getI (pc := 161) 97 7 dX7_read_161 s0_40 flX7_97 rfl (by decide) ?_
                    refine wp_int g3 ?_
                    refine wc_V_I (pc := 164) dX7_read_164 lkX7_109 (sm_Rc.o (ci := 6) s0_40 (by decide) (by decide)) (by decide) (Nat.le_of_ble_eq_true rfl) ?_
                    refine c_X7_isDigit hP2 (by omega) ?_
                    refine wp_ifeqB (pc := 167) 244 dX7_read_167 (by decide) (fun c_167 => ?_) (fun c_167 => ?_)
                    · refine wp_ret (pc := 244) dX7_read_244 rfl ?_
                      exact k _ ⟨by rw [he]; exact g3, g4, by rw [hs]; exact g5, fun _ => by rw [g6]; unfold nmk nmI; rw [he]⟩ g1
                    · exact absurd (and_both c_167) run_stop
              · exact absurd c_124 (by decide)
          · refine wp_iconst (pc := 78) (1) dX7_read_78 (by decide) ?_
            refine wp_goto (pc := 79) 116 dX7_read_79 (by decide) ?_
            refine wq_putI (pc := 116) 112 9 dX7_read_116 s0_40 flX7_112 rfl rfl (by decide) ?_
            refine wp_aload_n (pc := 119) 0 dX7_read_119 rfl rfl ?_
            refine wq_getI (pc := 120) 112 9 dX7_read_120 s0_40 flX7_112 rfl (by decide) ?_
            refine wp_int (y := 1) (by simp [sm_up]) ?_
            refine wp_iconst (pc := 123) (1) dX7_read_123 (by decide) ?_
            refine wp_icmp_ne (pc := 124) 151 dX7_read_124 (by decide) (fun c_124 => ?_) (fun c_124 => ?_)
            · exact absurd (by decide) c_124
            · have hs := srt_1 hql (of_sm c_75)
              have he : endk sz tp (tks sz tp p) = run isSm sz tp (tks sz tp p) := by rw [enk_1 hs]; exact (run_t hql (of_sm c_75)).symm
              have hge : tks sz tp p ≤ run isSm sz tp (tks sz tp p) := run_ge
              have hle : run isSm sz tp (tks sz tp p) ≤ sz := run_le (Nat.le_of_lt hql)
              refine wp_loopS (σ := Nat → Nat → Int32) (fun _ _ => [.ref 40]) (fun _ G => (S0, G, I, J)) (fun i G => KF F G ∧ G 40 6 = nI sz ∧ G 40 7 = nI (tks sz tp p + i) ∧ G 40 8 = nI (tks sz tp p) ∧ G 40 9 = 1) (run isSm sz tp (tks sz tp p) - tks sz tp p) (fun i G hi hg nx => ?_) (fun G hg => ?_) 0 _ (Nat.zero_le _) ⟨(((hk.u (by decide) (by decide)).u (by decide) (by decide)).u (by decide) (by decide)), by simp [sm_up, h6], by simp [sm_up, h7], by simp [sm_up], by simp [sm_up]⟩
              · obtain ⟨g1, g2, g3, g4, g5⟩ := hg
                have hP2 : TP sz tp G I := hP.kf g1
                have hsm : isSm (tp (tks sz tp p + i)) = true := run_P (sz := sz) (Nat.le_add_right _ _) (by omega)
                refine wp_aload_n (pc := 127) 0 dX7_read_127 rfl rfl ?_
                refine wp_aload_n (pc := 128) 0 dX7_read_128 rfl rfl ?_
                refine wq_getI (pc := 129) 97 7 dX7_read_129 s0_40 flX7_97 rfl (by decide) ?_
                refine wp_int g3 ?_
                refine wc_V_I (pc := 132) dX7_read_132 lkX7_106 (sm_Rc.o (ci := 6) s0_40 (by decide) (by decide)) (by decide) (Nat.le_of_ble_eq_true rfl) ?_
                refine c_X7_isLetter hP2 (by omega) ?_
                refine wp_ifeqB (pc := 135) 244 dX7_read_135 (by decide) (fun c_135 => ?_) (fun c_135 => ?_)
                · exact absurd c_135 (by rw [decide_eq_true (show tks sz tp p + i < sz by omega), hsm]; decide)
                · refine wp_aload_n (pc := 138) 0 dX7_read_138 rfl rfl ?_
                  refine wp_dup (pc := 139) dX7_read_139 rfl ?_
                  refine wq_getI (pc := 140) 97 7 dX7_read_140 s0_40 flX7_97 rfl (by decide) ?_
                  refine wp_int g3 ?_
                  refine wp_iconst (pc := 143) (1) dX7_read_143 (by decide) ?_
                  refine wp_iadd (pc := 144) dX7_read_144 ?_
                  refine wp_int (nI_1 _) ?_
                  refine wq_putI (pc := 145) 97 7 dX7_read_145 s0_40 flX7_97 rfl rfl (by decide) ?_
                  refine wp_goto (pc := 148) 127 dX7_read_148 (by decide) ?_
                  exact nx _ ⟨g1.u (by decide) (by decide), by simp [sm_up, g2], by simp [sm_up]; rfl, by simp [sm_up, g4], by simp [sm_up, g5]⟩
              · obtain ⟨g1, g2, g3, g4, g5⟩ := hg
                have hP2 : TP sz tp G I := hP.kf g1
                rw [show tks sz tp p + (run isSm sz tp (tks sz tp p) - tks sz tp p) = run isSm sz tp (tks sz tp p) by omega] at g3
                refine wp_aload_n (pc := 127) 0 dX7_read_127 rfl rfl ?_
                refine wp_aload_n (pc := 128) 0 dX7_read_128 rfl rfl ?_
                refine wq_getI (pc := 129) 97 7 dX7_read_129 s0_40 flX7_97 rfl (by decide) ?_
                refine wp_int g3 ?_
                refine wc_V_I (pc := 132) dX7_read_132 lkX7_106 (sm_Rc.o (ci := 6) s0_40 (by decide) (by decide)) (by decide) (Nat.le_of_ble_eq_true rfl) ?_
                refine c_X7_isLetter hP2 (by omega) ?_
                refine wp_ifeqB (pc := 135) 244 dX7_read_135 (by decide) (fun c_135 => ?_) (fun c_135 => ?_)
                · refine wp_ret (pc := 244) dX7_read_244 rfl ?_
                  exact k _ ⟨by rw [he]; exact g3, g4, by rw [hs]; exact g5, fun z => by rw [hs] at z; cases z⟩ g1
                · exact absurd (and_both c_135) run_stop
        · have hqs : tks sz tp p = sz := (nI_eq (by omega) (by omega)).mp c_60
          refine wp_iconst (pc := 63) (0) dX7_read_63 (by decide) ?_
          refine wp_goto (pc := 64) 116 dX7_read_64 (by decide) ?_
          refine wq_putI (pc := 116) 112 9 dX7_read_116 s0_40 flX7_112 rfl rfl (by decide) ?_
          refine wp_aload_n (pc := 119) 0 dX7_read_119 rfl rfl ?_
          refine wq_getI (pc := 120) 112 9 dX7_read_120 s0_40 flX7_112 rfl (by decide) ?_
          refine wp_int (y := 0) (by simp [sm_up]) ?_
          refine wp_iconst (pc := 123) (1) dX7_read_123 (by decide) ?_
          refine wp_icmp_ne (pc := 124) 151 dX7_read_124 (by decide) (fun c_124 => ?_) (fun c_124 => ?_)
          · refine wp_aload_n (pc := 151) 0 dX7_read_151 rfl rfl ?_
            refine wq_getI (pc := 152) 112 9 dX7_read_152 s0_40 flX7_112 rfl (by decide) ?_
            refine wp_int (y := 0) (by simp [sm_up]) ?_
            refine wp_iconst (pc := 155) (2) dX7_read_155 (by decide) ?_
            refine wp_icmp_ne (pc := 156) 226 dX7_read_156 (by decide) (fun c_156 => ?_) (fun c_156 => ?_)
            · refine wp_aload_n (pc := 226) 0 dX7_read_226 rfl rfl ?_
              refine wq_getI (pc := 227) 112 9 dX7_read_227 s0_40 flX7_112 rfl (by decide) ?_
              refine wp_int (y := 0) (by simp [sm_up]) ?_
              refine wp_iconst (pc := 230) (2) dX7_read_230 (by decide) ?_
              refine wp_icmp_le (pc := 231) 244 dX7_read_231 (by decide) (fun c_231 => ?_) (fun c_231 => ?_)
              · refine wp_ret (pc := 244) dX7_read_244 rfl ?_
                have hs := srt_0 (tp := tp) (show ¬ tks sz tp p < sz by rw [hqs]; omega)
                refine k _ ⟨?_, ?_, ?_, ?_⟩ (by first | exact (((hk.u (by decide) (by decide)).u (by decide) (by decide)).u (by decide) (by decide)) | exact ((((hk.u (by decide) (by decide)).u (by decide) (by decide)).u (by decide) (by decide)).u (by decide) (by decide)))
                · rw [enk_0 hs]; simp [sm_up, h7]
                · simp [sm_up]
                · rw [hs]; simp [sm_up]; try rfl
                · intro z; rw [hs] at z; cases z
              · exact absurd (by decide) c_231
            · exact absurd c_156 (by decide)
          · exact absurd c_124 (by decide)
      · exact absurd ⟨Nat.lt_of_not_le fun z => c_8 (nI_le z (by omega)), decide_eq_true (show tp (tks sz tp p) = 32 from (nI_eq (a := tp (tks sz tp p)) (b := 32) (by have := hP.2.2.2 (tks sz tp p); omega) (by decide)).mp c_22)⟩ (run_stop (P := isSp) (sz := sz) (tp := tp) (p := p))
