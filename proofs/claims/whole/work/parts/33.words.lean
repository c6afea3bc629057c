/-! ===== the next token; words ===== -/
def RdS (sz : Nat) (tp : Nat → Nat) (q : Nat) (F : Nat → Nat → Int32) : Prop := F 37 1 = nI (srtk sz tp q) ∧ F 37 2 = nI q ∧ F 37 3 = nI (endk sz tp q) ∧ (srtk sz tp q = 2 → F 37 4 = nI (nmk sz tp q))
theorem srtk_le {sz : Nat} {tp : Nat → Nat} {q : Nat} : srtk sz tp q ≤ 4 := by
  unfold srtk
  split
  · omega
  · split
    · omega
    · split
      · omega
      · split <;> omega
theorem endk_le {sz : Nat} {tp : Nat → Nat} {q : Nat} (h : q ≤ sz) : q ≤ endk sz tp q ∧ endk sz tp q ≤ sz ∧ (¬ srtk sz tp q = 0 → q < endk sz tp q) := by
  have hlt : ¬ srtk sz tp q = 0 → q < sz := by
    intro hn
    cases e : ltr sz tp q with
    | none => exact absurd (srtk_0 e) hn
    | some l => exact (ltr_s e).1
  have h1 := run_ge (P := isSm) (sz := sz) (tp := tp) (p := q + 1)
  have h2 := run_ge (P := isDg) (sz := sz) (tp := tp) (p := q + 1)
  unfold endk
  split
  · rename_i e; exact ⟨Nat.le_refl q, h, fun z => absurd e z⟩
  · rename_i e
    have := hlt (by omega)
    have h3 := run_le (P := isSm) (tp := tp) (show q + 1 ≤ sz by omega)
    exact ⟨by omega, h3, fun _ => by omega⟩
  · rename_i e
    have := hlt (by omega)
    have h3 := run_le (P := isDg) (tp := tp) (show q + 1 ≤ sz by omega)
    exact ⟨by omega, h3, fun _ => by omega⟩
  · rename_i e0 e1 e2
    have := hlt (fun z => e0 z)
    exact ⟨by omega, by omega, fun _ => by omega⟩
theorem tks_le {sz : Nat} {tp : Nat → Nat} {p : Nat} (h : p ≤ sz) : p ≤ tks sz tp p ∧ tks sz tp p ≤ sz := ⟨run_ge, run_le h⟩
theorem c_X2_advance {d : Nat} {F I : Nat → Nat → Int32} {J : Nat → Nat → Int64} {Q : Option Value → sm_H → Prop} {sz : Nat} {tp : Nat → Nat} (hP : TpD sz tp F I) (hz : sz ≤ 250) (ht : ∀ j, tp j < 256) {p : Nat} (hx : F 37 3 = nI p) (hp : p ≤ sz) (k : ∀ F1 : Nat → Nat → Int32, RdS sz tp (tks sz tp p) F1 → F1 37 0 = F 37 0 → (∀ a, a ≠ 37 → F1 a = F a) → Q none (S0, F1, I, J)) : Wp mX2_advance (d + 3) 0 0 0 (sm_ini [.ref 37, .ref 35] 4) [] (S0, F, I, J) Q := by
  show Wp _ _ _ _ _ [.ref 37, .ref 35, .null, .null] _ _ _
  refine wp_aload_n (pc := 0) 0 dX2_advance_0 rfl rfl ?_
  refine wp_aload_n (pc := 1) 0 dX2_advance_1 rfl rfl ?_
  refine wq_getI (pc := 2) 21 3 dX2_advance_2 s0_37 flX2_21 rfl (by decide) ?_
  refine wp_int hx ?_
  refine wq_putI (pc := 5) 18 2 dX2_advance_5 s0_37 flX2_18 rfl rfl (by decide) ?_
  refine wp_iconst (pc := 8) (0) dX2_advance_8 (by decide) ?_
  refine wp_istore_n (pc := 9) 2 dX2_advance_9 rfl (by decide) rfl ?_
  refine wp_to (h' := (S0, sm_up F 37 2 (nI (p + 0)), I, J)) ?_ rfl rfl rfl
  refine wp_loop (fun i => [.ref 37, .ref 35, .int (nI i), .null]) (fun i => (S0, sm_up F 37 2 (nI (p + i)), I, J)) (fun i => p + i ≤ sz ∧ run isSp sz tp p = run isSp sz tp (p + i)) 250 (fun i hi hv nx => ?_) (fun hv => ?_) 0 (Nat.zero_le _) ⟨hp, rfl⟩
  · obtain ⟨hv1, hv2⟩ := hv
    refine wp_iload_n (pc := 10) 2 dX2_advance_10 rfl rfl ?_
    refine wp_sipush (pc := 11) (250) dX2_advance_11 (by decide) ?_
    refine wp_icmp_ge (pc := 14) 46 dX2_advance_14 (by decide) (fun c_14 => ?_) (fun c_14 => ?_)
    · exact absurd c_14 (nI_ge (b := 250) hi (by decide))
    · refine wp_aload_n (pc := 17) 1 dX2_advance_17 rfl rfl ?_
      refine wp_aload_n (pc := 18) 0 dX2_advance_18 rfl rfl ?_
      refine wq_getI (pc := 19) 18 2 dX2_advance_19 s0_37 flX2_18 rfl (by decide) ?_
      refine wp_int up_eq ?_
      refine wc_V_I (pc := 22) dX2_advance_22 lkX2_117 (sm_Rc.o (ci := 3) s0_35 (by decide) (by decide)) (by decide) (Nat.le_of_ble_eq_true rfl) ?_
      refine c_X4_letterAt (by first | exact hP | exact hP.up | exact hP.up.up | exact hP.up.up.up | exact hP.up.up.up.up) hz (by omega) ?_
      refine wp_bipush (pc := 25) (32) dX2_advance_25 (by decide) ?_
      refine wp_icmp_ne (pc := 27) 46 dX2_advance_27 (by decide) (fun c_27 => ?_) (fun c_27 => ?_)
      · have he : run isSp sz tp p = p + i := by rw [hv2]; exact run_f (fun z => c_27 ((ltr_32 ht).mpr (show oP isSp (ltr sz tp (p + i)) = true by unfold ltr; rw [if_pos z.1]; exact z.2)))
        exact c_X2_tail (by first | exact hP | exact hP.up | exact hP.up.up | exact hP.up.up.up | exact hP.up.up.up.up) hz ht (q := tks sz tp p) (by rw [up_eq, tks, he]) (tks_le hp).2 (fun F1 a b c e g i => k F1 ⟨a, b, c, e⟩ (g.trans (by simp [sm_up])) (fun x hx => (i x hx).trans (sm_up_ne hx)))
      · refine wp_aload_n (pc := 30) 0 dX2_advance_30 rfl rfl ?_
        refine wp_dup (pc := 31) dX2_advance_31 rfl ?_
        refine wq_getI (pc := 32) 18 2 dX2_advance_32 s0_37 flX2_18 rfl (by decide) ?_
        refine wp_int up_eq ?_
        refine wp_iconst (pc := 35) (1) dX2_advance_35 (by decide) ?_
        refine wp_iadd (pc := 36) dX2_advance_36 ?_
        refine wp_int (nI_1 _) ?_
        refine wq_putI (pc := 37) 18 2 dX2_advance_37 s0_37 flX2_18 rfl rfl (by decide) ?_
        refine wp_incN (pc := 40) 2 dX2_advance_40 rfl (by decide) rfl ?_
        refine wp_goto (pc := 43) 10 dX2_advance_43 (by decide) ?_
        have hh := oP_t ((ltr_32 ht).mp c_27)
        have nx := nx ⟨by omega, by rw [hv2, run_t hh.1 hh.2]; rfl⟩
        rw [up_up]
        exact nx
  · obtain ⟨hv1, hv2⟩ := hv
    refine wp_iload_n (pc := 10) 2 dX2_advance_10 rfl rfl ?_
    refine wp_sipush (pc := 11) (250) dX2_advance_11 (by decide) ?_
    refine wp_icmp_ge (pc := 14) 46 dX2_advance_14 (by decide) (fun c_14 => ?_) (fun c_14 => ?_)
    · have he : run isSp sz tp p = p + 250 := by rw [hv2]; exact run_f (fun z => by omega)
      exact c_X2_tail (by first | exact hP | exact hP.up | exact hP.up.up | exact hP.up.up.up | exact hP.up.up.up.up) hz ht (q := tks sz tp p) (by rw [up_eq, tks, he]) (tks_le hp).2 (fun F1 a b c e g i => k F1 ⟨a, b, c, e⟩ (g.trans (by simp [sm_up])) (fun x hx => (i x hx).trans (sm_up_ne hx)))
    · exact absurd (by decide) c_14
def isW (tp : Nat → Nat) (q e i : Nat) : Bool := decide (e - q = sm_len.getD i 0) && allB (fun n => decide (tp (q + n) = wdl i n)) (sm_len.getD i 0)
theorem c_X2_isHere {d : Nat} {F I : Nat → Nat → Int32} {J : Nat → Nat → Int64} {Q : Option Value → sm_H → Prop} {sz : Nat} {tp : Nat → Nat} (hP : TpD sz tp F I) (hz : sz ≤ 250) (ht : ∀ j, tp j < 256) {q e w : Nat} (hq : F 37 2 = nI q) (hx : F 37 3 = nI e) (hqe : q ≤ e) (he : e ≤ sz) (hwd : w < 10) (k : Q (some (.int (b2 (isW tp q e w)))) (S0, F, I, J)) : Wp mX2_isHere (d + 5) 0 0 0 (sm_ini [.ref 37, .ref 35, .ref (1000 + w)] 4) [] (S0, F, I, J) Q := by
  show Wp _ _ _ _ _ [.ref 37, .ref 35, .ref (1000 + w), .null] _ _ _
  have hln := len_lt hwd
  refine wp_aload_n (pc := 0) 2 dX2_isHere_0 rfl rfl ?_
  refine wc_V_ (pc := 1) dX2_isHere_1 lkX2_138 (sm_Rc.s hwd) (by decide) (Nat.le_of_ble_eq_true rfl) ?_
  refine c_J0_length hwd ?_
  refine wp_aload_n (pc := 4) 0 dX2_isHere_4 rfl rfl ?_
  refine wq_getI (pc := 5) 21 3 dX2_isHere_5 s0_37 flX2_21 rfl (by decide) ?_
  refine wp_int hx ?_
  refine wp_aload_n (pc := 8) 0 dX2_isHere_8 rfl rfl ?_
  refine wq_getI (pc := 9) 18 2 dX2_isHere_9 s0_37 flX2_18 rfl (by decide) ?_
  refine wp_int hq ?_
  refine wp_isub (pc := 12) dX2_isHere_12 ?_
  refine wp_int (sub_nI hqe) ?_
  refine wp_icmp_eq (pc := 13) 18 dX2_isHere_13 (by decide) (fun c_13 => ?_) (fun c_13 => ?_)
  · refine wp_iconst (pc := 18) (0) dX2_isHere_18 (by decide) ?_
    refine wp_istore_n (pc := 19) 3 dX2_isHere_19 rfl (by decide) rfl ?_
    refine wp_loop (fun i => [.ref 37, .ref 35, .ref (1000 + w), .int (nI i)]) (fun _ => (S0, F, I, J)) (fun i => ∀ j, j < i → decide (tp (q + j) = wdl w j) = true) (sm_len.getD w 0) (fun i hi hv nx => ?_) (fun hv => ?_) 0 (Nat.zero_le _) (fun j hj => absurd hj (Nat.not_lt_zero j))
    · have hle := (nI_eq (by omega) (by omega)).mp c_13
      obtain ⟨hw1, hw2, hw3, hw4⟩ := wdl_all w hwd i (by omega) hi
      have hb := ht (q + i)
      have hlt : ltr sz tp (q + i) = some (tp (q + i)) := if_pos (by omega)
      refine wp_iload_n (pc := 20) 3 dX2_isHere_20 rfl rfl ?_
      refine wp_aload_n (pc := 21) 2 dX2_isHere_21 rfl rfl ?_
      refine wc_V_ (pc := 22) dX2_isHere_22 lkX2_138 (sm_Rc.s hwd) (by decide) (Nat.le_of_ble_eq_true rfl) ?_
      refine c_J0_length hwd ?_
      refine wp_icmp_ge (pc := 25) 54 dX2_isHere_25 (by decide) (fun c_25 => ?_) (fun c_25 => ?_)
      · exact absurd c_25 (nI_ge hi (by omega))
      · refine wp_aload_n (pc := 28) 2 dX2_isHere_28 rfl rfl ?_
        refine wp_iload_n (pc := 29) 3 dX2_isHere_29 rfl rfl ?_
        refine wc_V_I (pc := 30) dX2_isHere_30 lkX2_144 (sm_Rc.s hwd) (by decide) (Nat.le_of_ble_eq_true rfl) ?_
        refine c_J0_charAt hwd hi (by omega) hw4 ?_
        refine wp_int hw1 ?_
        refine wp_aload_n (pc := 33) 1 dX2_isHere_33 rfl rfl ?_
        refine wp_aload_n (pc := 34) 0 dX2_isHere_34 rfl rfl ?_
        refine wq_getI (pc := 35) 18 2 dX2_isHere_35 s0_37 flX2_18 rfl (by decide) ?_
        refine wp_int hq ?_
        refine wp_iload_n (pc := 38) 3 dX2_isHere_38 rfl rfl ?_
        refine wp_iadd (pc := 39) dX2_isHere_39 ?_
        refine wp_int (nI_add _ _) ?_
        refine wc_V_I (pc := 40) dX2_isHere_40 lkX2_117 (sm_Rc.o (ci := 3) s0_35 (by decide) (by decide)) (by decide) (Nat.le_of_ble_eq_true rfl) ?_
        refine c_X4_letterAt hP hz (by omega) ?_
        refine wp_int (y := nI (tp (q + i))) (by rw [hlt]; rfl) ?_
        refine wp_icmp_eq (pc := 43) 48 dX2_isHere_43 (by decide) (fun c_43 => ?_) (fun c_43 => ?_)
        · refine wp_incN (pc := 48) 3 dX2_isHere_48 rfl (by decide) rfl ?_
          refine wp_goto (pc := 51) 20 dX2_isHere_51 (by decide) ?_
          have nx := nx (fun j hj => by
            by_cases e5 : j = i
            · rw [e5]; exact decide_eq_true ((nI_eq (by omega) (by omega)).mp c_43).symm
            · exact hv j (by omega))
          exact nx
        · refine wp_iconst (pc := 46) (0) dX2_isHere_46 (by decide) ?_
          refine wp_iret (pc := 47) dX2_isHere_47 ⟨_, rfl, by decide⟩ ?_
          rw [show isW tp q e w = false by rw [isW, allB_f hi (decide_eq_false (fun z => c_43 (by rw [z])))]; exact Bool.and_false _] at k
          exact k
    · refine wp_iload_n (pc := 20) 3 dX2_isHere_20 rfl rfl ?_
      refine wp_aload_n (pc := 21) 2 dX2_isHere_21 rfl rfl ?_
      refine wc_V_ (pc := 22) dX2_isHere_22 lkX2_138 (sm_Rc.s hwd) (by decide) (Nat.le_of_ble_eq_true rfl) ?_
      refine c_J0_length hwd ?_
      refine wp_icmp_ge (pc := 25) 54 dX2_isHere_25 (by decide) (fun c_25 => ?_) (fun c_25 => ?_)
      · refine wp_iconst (pc := 54) (1) dX2_isHere_54 (by decide) ?_
        refine wp_iret (pc := 55) dX2_isHere_55 ⟨_, rfl, by decide⟩ ?_
        rw [show isW tp q e w = true by rw [isW, allB_t.mpr hv, decide_eq_true ((nI_eq (by omega) (by omega)).mp c_13).symm]; rfl] at k
        exact k
      · exact absurd (Int32.le_refl _) c_25
  · refine wp_iconst (pc := 16) (0) dX2_isHere_16 (by decide) ?_
    refine wp_iret (pc := 17) dX2_isHere_17 ⟨_, rfl, by decide⟩ ?_
    rw [show isW tp q e w = false by rw [isW, decide_eq_false (fun z => c_13 (by rw [z]))]; rfl] at k
    exact k
theorem c_X2_lettersOf {d : Nat} {h : sm_H} {Q : Option Value → sm_H → Prop} {w : Nat} (hwd : w < 10) (k : Q (some (.ref (1000 + w))) h) : Wp mX2_lettersOf d 0 0 0 (sm_ini [.int (nI w)] 1) [] h Q := by
  show Wp _ _ _ _ _ [.int (nI w)] _ _ _
  rcases (show w = 0 ∨ w = 1 ∨ w = 2 ∨ w = 3 ∨ w = 4 ∨ w = 5 ∨ w = 6 ∨ w = 7 ∨ w = 8 ∨ w = 9 by omega) with rfl | rfl | rfl | rfl | rfl | rfl | rfl | rfl | rfl | rfl
  · refine wp_iload_n (pc := 0) 0 dX2_lettersOf_0 rfl rfl ?_
    refine wp_tswI (pc := 1) 0 52 dX2_lettersOf_1 (by decide) (by decide) rfl (by decide) ?_
    refine wp_ldcS (pc := 52) 0 dX2_lettersOf_52 (by decide) rfl rfl ?_
    refine wp_aret (pc := 54) dX2_lettersOf_54 ⟨_, rfl, Or.inl ⟨_, rfl⟩⟩ ?_
    exact k
  · refine wp_iload_n (pc := 0) 0 dX2_lettersOf_0 rfl rfl ?_
    refine wp_tswI (pc := 1) 1 55 dX2_lettersOf_1 (by decide) (by decide) rfl (by decide) ?_
    refine wp_ldcS (pc := 55) 1 dX2_lettersOf_55 (by decide) rfl rfl ?_
    refine wp_aret (pc := 57) dX2_lettersOf_57 ⟨_, rfl, Or.inl ⟨_, rfl⟩⟩ ?_
    exact k
  · refine wp_iload_n (pc := 0) 0 dX2_lettersOf_0 rfl rfl ?_
    refine wp_tswI (pc := 1) 2 58 dX2_lettersOf_1 (by decide) (by decide) rfl (by decide) ?_
    refine wp_ldcS (pc := 58) 2 dX2_lettersOf_58 (by decide) rfl rfl ?_
    refine wp_aret (pc := 60) dX2_lettersOf_60 ⟨_, rfl, Or.inl ⟨_, rfl⟩⟩ ?_
    exact k
  · refine wp_iload_n (pc := 0) 0 dX2_lettersOf_0 rfl rfl ?_
    refine wp_tswI (pc := 1) 3 61 dX2_lettersOf_1 (by decide) (by decide) rfl (by decide) ?_
    refine wp_ldcS (pc := 61) 3 dX2_lettersOf_61 (by decide) rfl rfl ?_
    refine wp_aret (pc := 63) dX2_lettersOf_63 ⟨_, rfl, Or.inl ⟨_, rfl⟩⟩ ?_
    exact k
  · refine wp_iload_n (pc := 0) 0 dX2_lettersOf_0 rfl rfl ?_
    refine wp_tswI (pc := 1) 4 64 dX2_lettersOf_1 (by decide) (by decide) rfl (by decide) ?_
    refine wp_ldcS (pc := 64) 4 dX2_lettersOf_64 (by decide) rfl rfl ?_
    refine wp_aret (pc := 66) dX2_lettersOf_66 ⟨_, rfl, Or.inl ⟨_, rfl⟩⟩ ?_
    exact k
  · refine wp_iload_n (pc := 0) 0 dX2_lettersOf_0 rfl rfl ?_
    refine wp_tswI (pc := 1) 5 67 dX2_lettersOf_1 (by decide) (by decide) rfl (by decide) ?_
    refine wp_ldcS (pc := 67) 5 dX2_lettersOf_67 (by decide) rfl rfl ?_
    refine wp_aret (pc := 69) dX2_lettersOf_69 ⟨_, rfl, Or.inl ⟨_, rfl⟩⟩ ?_
    exact k
  · refine wp_iload_n (pc := 0) 0 dX2_lettersOf_0 rfl rfl ?_
    refine wp_tswI (pc := 1) 6 70 dX2_lettersOf_1 (by decide) (by decide) rfl (by decide) ?_
    refine wp_ldcS (pc := 70) 6 dX2_lettersOf_70 (by decide) rfl rfl ?_
    refine wp_aret (pc := 72) dX2_lettersOf_72 ⟨_, rfl, Or.inl ⟨_, rfl⟩⟩ ?_
    exact k
  · refine wp_iload_n (pc := 0) 0 dX2_lettersOf_0 rfl rfl ?_
    refine wp_tswI (pc := 1) 7 73 dX2_lettersOf_1 (by decide) (by decide) rfl (by decide) ?_
    refine wp_ldcS (pc := 73) 7 dX2_lettersOf_73 (by decide) rfl rfl ?_
    refine wp_aret (pc := 75) dX2_lettersOf_75 ⟨_, rfl, Or.inl ⟨_, rfl⟩⟩ ?_
    exact k
  · refine wp_iload_n (pc := 0) 0 dX2_lettersOf_0 rfl rfl ?_
    refine wp_tswI (pc := 1) 8 76 dX2_lettersOf_1 (by decide) (by decide) rfl (by decide) ?_
    refine wp_ldcS (pc := 76) 8 dX2_lettersOf_76 (by decide) rfl rfl ?_
    refine wp_aret (pc := 78) dX2_lettersOf_78 ⟨_, rfl, Or.inl ⟨_, rfl⟩⟩ ?_
    exact k
  · refine wp_iload_n (pc := 0) 0 dX2_lettersOf_0 rfl rfl ?_
    refine wp_tswO (pc := 1) 79 dX2_lettersOf_1 (by decide) (by decide) ?_
    refine wp_ldcS (pc := 79) 9 dX2_lettersOf_79 (by decide) rfl rfl ?_
    refine wp_aret (pc := 81) dX2_lettersOf_81 ⟨_, rfl, Or.inl ⟨_, rfl⟩⟩ ?_
    exact k
theorem c_X2_wordHere {d : Nat} {F I : Nat → Nat → Int32} {J : Nat → Nat → Int64} {Q : Option Value → sm_H → Prop} {sz : Nat} {tp : Nat → Nat} (hP : TpD sz tp F I) (hz : sz ≤ 250) (ht : ∀ j, tp j < 256) {q e : Nat} (hq : F 37 2 = nI q) (hx : F 37 3 = nI e) (hqe : q ≤ e) (he : e ≤ sz) (k : Q (some (.int (eN (fst (isW tp q e) 10)))) (S0, F, I, J)) : Wp mX2_wordHere (d + 6) 0 0 0 (sm_ini [.ref 37, .ref 35] 3) [] (S0, F, I, J) Q := by
  show Wp _ _ _ _ _ [.ref 37, .ref 35, .null] _ _ _
  refine wp_iconst (pc := 0) (0) dX2_wordHere_0 (by decide) ?_
  refine wp_istore_n (pc := 1) 2 dX2_wordHere_1 rfl (by decide) rfl ?_
  refine wp_loop (fun i => [.ref 37, .ref 35, .int (nI i)]) (fun _ => (S0, F, I, J)) (fun i => ∀ j, j < i → isW tp q e j = false) 10 (fun i hi hv nx => ?_) (fun hv => ?_) 0 (Nat.zero_le _) (fun j hj => absurd hj (Nat.not_lt_zero j))
  · refine wp_iload_n (pc := 2) 2 dX2_wordHere_2 rfl rfl ?_
    refine wp_bipush (pc := 3) (9) dX2_wordHere_3 (by decide) ?_
    refine wp_icmp_gt (pc := 5) 28 dX2_wordHere_5 (by decide) (fun c_5 => ?_) (fun c_5 => ?_)
    · exact absurd ((nI_ltI (a := 9) (by decide) (by omega)).mp c_5) (by omega)
    · refine wp_aload_n (pc := 8) 0 dX2_wordHere_8 rfl rfl ?_
      refine wp_aload_n (pc := 9) 1 dX2_wordHere_9 rfl rfl ?_
      refine wp_iload_n (pc := 10) 2 dX2_wordHere_10 rfl rfl ?_
      refine wc_S_I (pc := 11) dX2_wordHere_11 lkX2_130 (by decide) (Nat.le_of_ble_eq_true rfl) ?_
      refine c_X2_lettersOf hi ?_
      refine wc_V_RR (pc := 14) dX2_wordHere_14 lkX2_134 (sm_Rc.o (ci := 1) s0_37 (by decide) (by decide)) (by decide) (Nat.le_of_ble_eq_true rfl) ?_
      refine c_X2_isHere hP hz ht hq hx hqe he hi ?_
      refine wp_ifeqB (pc := 17) 22 dX2_wordHere_17 (by decide) (fun c_17 => ?_) (fun c_17 => ?_)
      · refine wp_incN (pc := 22) 2 dX2_wordHere_22 rfl (by decide) rfl ?_
        refine wp_goto (pc := 25) 2 dX2_wordHere_25 (by decide) ?_
        have nx := nx (fun j hj => by
          by_cases e5 : j = i
          · rw [e5]; exact c_17
          · exact hv j (by omega))
        exact nx
      · refine wp_iload_n (pc := 20) 2 dX2_wordHere_20 rfl rfl ?_
        refine wp_iretI (pc := 21) dX2_wordHere_21 rfl ?_
        rw [fst_some hi hv c_17] at k
        exact k
  · refine wp_iload_n (pc := 2) 2 dX2_wordHere_2 rfl rfl ?_
    refine wp_bipush (pc := 3) (9) dX2_wordHere_3 (by decide) ?_
    refine wp_icmp_gt (pc := 5) 28 dX2_wordHere_5 (by decide) (fun c_5 => ?_) (fun c_5 => ?_)
    · refine wp_iconst (pc := 28) (-1) dX2_wordHere_28 (by decide) ?_
      refine wp_iretI (pc := 29) dX2_wordHere_29 rfl ?_
      rw [fst_none.mpr hv] at k
      exact k
    · exact absurd (by decide) c_5
