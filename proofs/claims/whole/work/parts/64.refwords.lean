/-! ===== the reference: words, numbers ===== -/
theorem wd7_w : ∀ i, i < 10 → ∀ n, n < 7 → wd7 (7 * i + n) = if n < sm_len.getD i 0 then wdl i n else 0 := by decide +kernel
theorem len7 : ∀ i, i < 10 → sm_len.getD i 0 ≤ 7 := by decide
theorem wdl97 : ∀ i, i < 10 → ∀ n, n < sm_len.getD i 0 → 97 ≤ wdl i n := fun i hi n hn => (wdl_all i hi n (by have := len7 i hi; omega) hn).2.1
def wpB (tp : Nat → Nat) (q e i n : Nat) : Bool := decide (wd7 (7 * i + n) = if q + n < e then tp (q + n) else 0)
theorem isW_7 {tp : Nat → Nat} {q e i : Nat} (hi : i < 10) (hl : ∀ j, q ≤ j → j < e → 97 ≤ tp j) : (decide (e - q ≤ 7) && allB (wpB tp q e i) 7) = isW tp q e i := by
  have h7 := len7 i hi
  rw [Bool.eq_iff_iff]
  unfold isW
  rw [Bool.and_eq_true, Bool.and_eq_true, decide_eq_true_eq, decide_eq_true_eq, allB_t, allB_t]
  constructor
  · rintro ⟨h1, h2⟩
    have hL : e - q = sm_len.getD i 0 := by
      rcases Nat.lt_trichotomy (e - q) (sm_len.getD i 0) with h | h | h
      · have h3 := of_decide_eq_true (h2 (e - q) (by omega))
        rw [wd7_w i hi _ (by omega), if_pos h, if_neg (by omega)] at h3
        have := wdl97 i hi _ h
        omega
      · exact h
      · have h3 := of_decide_eq_true (h2 (sm_len.getD i 0) (by omega))
        rw [wd7_w i hi _ (by omega), if_neg (Nat.lt_irrefl _), if_pos (by omega)] at h3
        have := hl (q + sm_len.getD i 0) (by omega) (by omega)
        omega
    refine ⟨hL, fun n hn => decide_eq_true ?_⟩
    have h3 := of_decide_eq_true (h2 n (by omega))
    rw [wd7_w i hi _ (by omega), if_pos hn, if_pos (by omega)] at h3
    exact h3.symm
  · rintro ⟨h1, h2⟩
    refine ⟨by omega, fun n hn => decide_eq_true ?_⟩
    rw [wd7_w i hi _ hn]
    by_cases h : n < sm_len.getD i 0
    · rw [if_pos h, if_pos (by omega)]
      exact (of_decide_eq_true (h2 n h)).symm
    · rw [if_neg h, if_neg (by omega)]
theorem letters {sz : Nat} {tp : Nat → Nat} {q : Nat} (h : srtk sz tp q = 1) : ∀ j, q ≤ j → j < endk sz tp q → 97 ≤ tp j := by
  intro j h1 h2
  have hq : q < sz := Nat.lt_of_not_le fun z => by rw [srt_0 (by omega)] at h; cases h
  have hs : isSm (tp q) = true := by
    cases e : isSm (tp q) with
    | true => rfl
    | false =>
      cases e2 : isDg (tp q) with
      | true => rw [srt_2 hq e e2] at h; cases h
      | false =>
        rw [srt_3 hq e e2] at h
        split at h <;> cases h
  rw [enk_1 h, ← run_t hq hs] at h2
  have h3 := run_P h1 h2
  unfold isSm at h3
  rw [Bool.and_eq_true, decide_eq_true_eq] at h3
  exact h3.1
theorem wrd_n {sz : Nat} {tp : Nat → Nat} {q : Nat} (h : ¬ srtk sz tp q = 1) : wrd sz tp q = none := if_neg h
theorem wrd_1 {sz : Nat} {tp : Nat → Nat} {q : Nat} (h : srtk sz tp q = 1) : wrd sz tp q = fst (isW tp q (endk sz tp q)) 10 := if_pos h
theorem wd7_lt {j : Nat} (h : j < 70) : wd7 j < 256 := (by decide +kernel : ∀ j : Fin 70, wd7 j.val < 256) ⟨j, h⟩
theorem allB_mono {p : Nat → Bool} {a b : Nat} (h : a ≤ b) (h2 : allB p a = false) : allB p b = false := by
  cases e : allB p b with
  | false => rfl
  | true =>
    have h3 : allB p a = true := allB_t.mpr fun i hi => allB_t.mp e i (by omega)
    exact absurd (h3.symm.trans h2) (by decide)
theorem c_X7_word {d : Nat} {F I : Nat → Nat → Int32} {J : Nat → Nat → Int64} {Q : Option Value → sm_H → Prop} {sz : Nat} {tp : Nat → Nat} (hP : TP sz tp F I) (h46 : ∀ j, j < 70 → I 46 j = nI (wd7 j)) {q : Nat} (hq : q ≤ sz) (hr : RS sz tp q F) (k : Q (some (.int (eN (wrd sz tp q)))) (S0, F, I, J)) : Wp mX7_word d 0 0 0 (sm_ini [.ref 40] 4) [] (S0, F, I, J) Q := by
  show Wp _ _ _ _ _ [.ref 40, .null, .null, .null] _ _ _
  have hz := hP.2.2.1
  have hqe0 := (endk_le (tp := tp) hq).1
  have hqe1 := (endk_le (tp := tp) hq).2.1
  have hs4 := srtk_le (sz := sz) (tp := tp) (q := q)
  refine wp_iconst (pc := 0) (0) dX7_word_0 (by decide) ?_
  refine wp_istore_n (pc := 1) 1 dX7_word_1 rfl (by decide) rfl ?_
  by_cases hs : srtk sz tp q = 1
  · rw [wrd_1 hs] at k
    have hl := letters hs
    refine wp_loop (fun i => [.ref 40, .int (nI i), .null, .null]) (fun _ => (S0, F, I, J)) (fun i => ∀ j, j < i → isW tp q (endk sz tp q) j = false) 10 (fun i hi hv nx => ?_) (fun hv => ?_) 0 (Nat.zero_le _) (fun j hj => absurd hj (Nat.not_lt_zero j))
    · refine wp_iload_n (pc := 2) 1 dX7_word_2 rfl rfl ?_
      refine wp_bipush (pc := 3) (10) dX7_word_3 (by decide) ?_
      refine wp_icmp_ge (pc := 5) 114 dX7_word_5 (by decide) (fun c_5 => ?_) (fun c_5 => ?_)
      · exact absurd c_5 (nI_ge (b := 10) hi (by decide))
      · refine wp_aload_n (pc := 8) 0 dX7_word_8 rfl rfl ?_
        refine wq_getI (pc := 9) 112 9 dX7_word_9 s0_40 flX7_112 rfl (by decide) ?_
        refine wp_int (y := 1) (hr.2.2.1.trans (by rw [hs]; rfl)) ?_
        refine wp_iconst (pc := 12) (1) dX7_word_12 (by decide) ?_
        refine wp_icmp_ne (pc := 13) 114 dX7_word_13 (by decide) (fun c_13 => ?_) (fun c_13 => ?_)
        · exact absurd (by decide) c_13
        · refine wp_aload_n (pc := 16) 0 dX7_word_16 rfl rfl ?_
          refine wq_getI (pc := 17) 97 7 dX7_word_17 s0_40 flX7_97 rfl (by decide) ?_
          refine wp_int hr.1 ?_
          refine wp_aload_n (pc := 20) 0 dX7_word_20 rfl rfl ?_
          refine wq_getI (pc := 21) 100 8 dX7_word_21 s0_40 flX7_100 rfl (by decide) ?_
          refine wp_int hr.2.1 ?_
          refine wp_isub (pc := 24) dX7_word_24 ?_
          refine wp_int (y := nI (endk sz tp q - q)) (sub_nI hqe0) ?_
          refine wp_bipush (pc := 25) (7) dX7_word_25 (by decide) ?_
          refine wp_icmp_gt (pc := 27) 34 dX7_word_27 (by decide) (fun c_27 => ?_) (fun c_27 => ?_)
          · refine wp_iconst (pc := 34) (0) dX7_word_34 (by decide) ?_
            refine wp_istore_n (pc := 35) 2 dX7_word_35 rfl (by decide) rfl ?_
            refine wp_iconst (pc := 36) (0) dX7_word_36 (by decide) ?_
            refine wp_istore_n (pc := 37) 3 dX7_word_37 rfl (by decide) rfl ?_
            refine wp_iload_n (pc := 38) 3 dX7_word_38 rfl rfl ?_
            refine wp_bipush (pc := 39) (7) dX7_word_39 (by decide) ?_
            refine wp_icmp_ge (pc := 41) 102 dX7_word_41 (by decide) (fun c_41 => ?_) (fun c_41 => ?_)
            · exact absurd c_41 (by decide)
            · refine wp_iload_n (pc := 44) 2 dX7_word_44 rfl rfl ?_
              refine wp_ifeq (pc := 45) 102 dX7_word_45 (by decide) (fun c_45 => ?_) (fun c_45 => ?_)
              · refine wp_iload_n (pc := 102) 2 dX7_word_102 rfl rfl ?_
                refine wp_ifeq (pc := 103) 108 dX7_word_103 (by decide) (fun c_103 => ?_) (fun c_103 => ?_)
                · refine wp_incN (pc := 108) 1 dX7_word_108 rfl (by decide) rfl ?_
                  refine wp_goto (pc := 111) 2 dX7_word_111 (by decide) ?_
                  have hf : isW tp q (endk sz tp q) i = false := by rw [← isW_7 hi hl, decide_eq_false (fun z => nI_nlt (a := 7) (b := (endk sz tp q) - q) (by omega) (by decide) c_27), Bool.false_and]
                  have nx := nx (fun j hj => by
                    by_cases hji : j = i
                    · subst hji; exact hf
                    · exact hv j (by omega))
                  refine wp_weak ?_ nx
                  exact And.intro (Or.inr rfl) (And.intro (Or.inr rfl) (And.intro (Or.inl rfl) (And.intro (Or.inl rfl) (trivial))))
                · exact absurd (by decide) c_103
              · exact absurd (by decide) c_45
          · have hle7 : (endk sz tp q) - q ≤ 7 := Nat.le_of_not_lt fun z => c_27 (nI_lt (a := 7) z (by omega))
            refine wp_iconst (pc := 30) (1) dX7_word_30 (by decide) ?_
            refine wp_goto (pc := 31) 35 dX7_word_31 (by decide) ?_
            refine wp_istore_n (pc := 35) 2 dX7_word_35 rfl (by decide) rfl ?_
            refine wp_iconst (pc := 36) (0) dX7_word_36 (by decide) ?_
            refine wp_istore_n (pc := 37) 3 dX7_word_37 rfl (by decide) rfl ?_
            refine wp_to (lv' := [.ref 40, .int (nI i), .int (b2 (allB (wpB tp q (endk sz tp q) i) 0)), .int (nI 0)]) ?_ rfl rfl rfl
            refine wp_loop (fun n => [.ref 40, .int (nI i), .int (b2 (allB (wpB tp q (endk sz tp q) i) n)), .int (nI n)]) (fun _ => (S0, F, I, J)) (fun _ => True) 7 (fun n hn7 hv2 nx2 => ?_) (fun hv2 => ?_) 0 (Nat.zero_le _) trivial
            · refine wp_iload_n (pc := 38) 3 dX7_word_38 rfl rfl ?_
              refine wp_bipush (pc := 39) (7) dX7_word_39 (by decide) ?_
              refine wp_icmp_ge (pc := 41) 102 dX7_word_41 (by decide) (fun c_41 => ?_) (fun c_41 => ?_)
              · exact absurd c_41 (nI_ge (b := 7) hn7 (by decide))
              · refine wp_iload_n (pc := 44) 2 dX7_word_44 rfl rfl ?_
                refine wp_ifeqB (pc := 45) 102 dX7_word_45 (by decide) (fun c_45 => ?_) (fun c_45 => ?_)
                · refine wp_iload_n (pc := 102) 2 dX7_word_102 rfl rfl ?_
                  refine wp_ifeqB (pc := 103) 108 dX7_word_103 (by decide) (fun c_103 => ?_) (fun c_103 => ?_)
                  · refine wp_incN (pc := 108) 1 dX7_word_108 rfl (by decide) rfl ?_
                    refine wp_goto (pc := 111) 2 dX7_word_111 (by decide) ?_
                    have hf : isW tp q (endk sz tp q) i = false := by rw [← isW_7 hi hl, allB_mono (show n ≤ 7 by omega) c_45, Bool.and_false]
                    have nx := nx (fun j hj => by
                      by_cases hji : j = i
                      · subst hji; exact hf
                      · exact hv j (by omega))
                    refine wp_weak ?_ nx
                    exact And.intro (Or.inr rfl) (And.intro (Or.inr rfl) (And.intro (Or.inl rfl) (And.intro (Or.inl rfl) (trivial))))
                  · exact absurd (c_103.symm.trans c_45) (by decide)
                · refine wp_aload_n (pc := 48) 0 dX7_word_48 rfl rfl ?_
                  refine wq_getR (pc := 49) 29 11 dX7_word_49 s0_40 flX7_29 rfl rfl (by decide) (by decide) ?_
                  refine wp_bipush (pc := 52) (7) dX7_word_52 (by decide) ?_
                  refine wp_iload_n (pc := 54) 1 dX7_word_54 rfl rfl ?_
                  refine wp_imul (pc := 55) dX7_word_55 ?_
                  refine wp_iload_n (pc := 56) 3 dX7_word_56 rfl rfl ?_
                  refine wp_iadd (pc := 57) dX7_word_57 ?_
                  refine wq_cald (pc := 58) (7 * i + n) dX7_word_58 s0_46 (by decide) (by rw [show (7 : Int32) = nI 7 from rfl, pk_mul, nI_add]) (by omega) (by decide) ?_
                  refine wp_int (h46 _ (by omega)) ?_
                  refine wp_aload_n (pc := 59) 0 dX7_word_59 rfl rfl ?_
                  refine wq_getI (pc := 60) 100 8 dX7_word_60 s0_40 flX7_100 rfl (by decide) ?_
                  refine wp_int hr.2.1 ?_
                  refine wp_iload_n (pc := 63) 3 dX7_word_63 rfl rfl ?_
                  refine wp_iadd (pc := 64) dX7_word_64 ?_
                  refine wp_int (nI_add _ _) ?_
                  refine wp_aload_n (pc := 65) 0 dX7_word_65 rfl rfl ?_
                  refine wq_getI (pc := 66) 97 7 dX7_word_66 s0_40 flX7_97 rfl (by decide) ?_
                  refine wp_int hr.1 ?_
                  refine wp_icmp_ge (pc := 69) 86 dX7_word_69 (by decide) (fun c_69 => ?_) (fun c_69 => ?_)
                  · have hqe : ¬ q + n < (endk sz tp q) := fun z => nI_ge z (by omega) c_69
                    refine wp_iconst (pc := 86) (0) dX7_word_86 (by decide) ?_
                    refine wp_icmp_ne (pc := 87) 94 dX7_word_87 (by decide) (fun c_87 => ?_) (fun c_87 => ?_)
                    · refine wp_iconst (pc := 94) (0) dX7_word_94 (by decide) ?_
                      refine wp_istore_n (pc := 95) 2 dX7_word_95 rfl (by decide) rfl ?_
                      refine wp_incN (pc := 96) 3 dX7_word_96 rfl (by decide) rfl ?_
                      refine wp_goto (pc := 99) 38 dX7_word_99 (by decide) ?_
                      have nx2 := nx2 trivial
                      rw [allB, show wpB tp q (endk sz tp q) i n = false from decide_eq_false (fun z => c_87 (by rw [z, if_neg hqe]; rfl)), Bool.and_false] at nx2
                      exact nx2
                    · refine wp_iconst (pc := 90) (1) dX7_word_90 (by decide) ?_
                      refine wp_goto (pc := 91) 95 dX7_word_91 (by decide) ?_
                      refine wp_istore_n (pc := 95) 2 dX7_word_95 rfl (by decide) rfl ?_
                      refine wp_incN (pc := 96) 3 dX7_word_96 rfl (by decide) rfl ?_
                      refine wp_goto (pc := 99) 38 dX7_word_99 (by decide) ?_
                      have nx2 := nx2 trivial
                      rw [allB, show wpB tp q (endk sz tp q) i n = true from decide_eq_true (by rw [if_neg hqe]; exact (nI0 (by have := wd7_lt (show 7 * i + n < 70 by omega); omega)).mp c_87), Bool.and_true] at nx2
                      rw [c_45] at nx2
                      exact nx2
                  · have hqe : q + n < (endk sz tp q) := Nat.lt_of_not_le fun z => c_69 (nI_le z (by omega))
                    refine wp_aload_n (pc := 72) 0 dX7_word_72 rfl rfl ?_
                    refine wq_getR (pc := 73) 26 5 dX7_word_73 s0_40 flX7_26 rfl rfl (by decide) (by decide) ?_
                    refine wp_aload_n (pc := 76) 0 dX7_word_76 rfl rfl ?_
                    refine wq_getI (pc := 77) 100 8 dX7_word_77 s0_40 flX7_100 rfl (by decide) ?_
                    refine wp_int hr.2.1 ?_
                    refine wp_iload_n (pc := 80) 3 dX7_word_80 rfl rfl ?_
                    refine wp_iadd (pc := 81) dX7_word_81 ?_
                    refine wp_int (nI_add _ _) ?_
                    refine wq_iald (pc := 82) _ dX7_word_82 s0_45 (by decide) rfl (by omega) (by decide) ?_
                    refine wp_int (hP.2.1 _ (by omega)) ?_
                    refine wp_goto (pc := 83) 87 dX7_word_83 (by decide) ?_
                    refine wp_icmp_ne (pc := 87) 94 dX7_word_87 (by decide) (fun c_87 => ?_) (fun c_87 => ?_)
                    · refine wp_iconst (pc := 94) (0) dX7_word_94 (by decide) ?_
                      refine wp_istore_n (pc := 95) 2 dX7_word_95 rfl (by decide) rfl ?_
                      refine wp_incN (pc := 96) 3 dX7_word_96 rfl (by decide) rfl ?_
                      refine wp_goto (pc := 99) 38 dX7_word_99 (by decide) ?_
                      have nx2 := nx2 trivial
                      rw [allB, show wpB tp q (endk sz tp q) i n = false from decide_eq_false (fun z => c_87 (by rw [z, if_pos hqe])), Bool.and_false] at nx2
                      exact nx2
                    · refine wp_iconst (pc := 90) (1) dX7_word_90 (by decide) ?_
                      refine wp_goto (pc := 91) 95 dX7_word_91 (by decide) ?_
                      refine wp_istore_n (pc := 95) 2 dX7_word_95 rfl (by decide) rfl ?_
                      refine wp_incN (pc := 96) 3 dX7_word_96 rfl (by decide) rfl ?_
                      refine wp_goto (pc := 99) 38 dX7_word_99 (by decide) ?_
                      have nx2 := nx2 trivial
                      rw [allB, show wpB tp q (endk sz tp q) i n = true from decide_eq_true (by rw [if_pos hqe]; exact (nI_eq (by have := wd7_lt (show 7 * i + n < 70 by omega); omega) (by have := hP.2.2.2 (q + n); omega)).mp c_87), Bool.and_true] at nx2
                      rw [c_45] at nx2
                      exact nx2
            · refine wp_iload_n (pc := 38) 3 dX7_word_38 rfl rfl ?_
              refine wp_bipush (pc := 39) (7) dX7_word_39 (by decide) ?_
              refine wp_icmp_ge (pc := 41) 102 dX7_word_41 (by decide) (fun c_41 => ?_) (fun c_41 => ?_)
              · refine wp_iload_n (pc := 102) 2 dX7_word_102 rfl rfl ?_
                refine wp_ifeqB (pc := 103) 108 dX7_word_103 (by decide) (fun c_103 => ?_) (fun c_103 => ?_)
                · refine wp_incN (pc := 108) 1 dX7_word_108 rfl (by decide) rfl ?_
                  refine wp_goto (pc := 111) 2 dX7_word_111 (by decide) ?_
                  have hf : isW tp q (endk sz tp q) i = false := by rw [← isW_7 hi hl, c_103, Bool.and_false]
                  have nx := nx (fun j hj => by
                    by_cases hji : j = i
                    · subst hji; exact hf
                    · exact hv j (by omega))
                  refine wp_weak ?_ nx
                  exact And.intro (Or.inr rfl) (And.intro (Or.inr rfl) (And.intro (Or.inl rfl) (And.intro (Or.inl rfl) (trivial))))
                · refine wp_iload_n (pc := 106) 1 dX7_word_106 rfl rfl ?_
                  refine wp_iretI (pc := 107) dX7_word_107 rfl ?_
                  have hf : isW tp q (endk sz tp q) i = true := by rw [← isW_7 hi hl, c_103, decide_eq_true hle7]; rfl
                  rw [fst_some hi hv hf] at k
                  exact k
              · exact absurd (by decide) c_41
    · refine wp_iload_n (pc := 2) 1 dX7_word_2 rfl rfl ?_
      refine wp_bipush (pc := 3) (10) dX7_word_3 (by decide) ?_
      refine wp_icmp_ge (pc := 5) 114 dX7_word_5 (by decide) (fun c_5 => ?_) (fun c_5 => ?_)
      · refine wp_iconst (pc := 114) (-1) dX7_word_114 (by decide) ?_
        refine wp_iretI (pc := 115) dX7_word_115 rfl ?_
        rw [fst_none.mpr hv] at k
        exact k
      · exact absurd (by decide) c_5
  · refine wp_iload_n (pc := 2) 1 dX7_word_2 rfl rfl ?_
    refine wp_bipush (pc := 3) (10) dX7_word_3 (by decide) ?_
    refine wp_icmp_ge (pc := 5) 114 dX7_word_5 (by decide) (fun c_5 => ?_) (fun c_5 => ?_)
    · exact absurd c_5 (by decide)
    · refine wp_aload_n (pc := 8) 0 dX7_word_8 rfl rfl ?_
      refine wq_getI (pc := 9) 112 9 dX7_word_9 s0_40 flX7_112 rfl (by decide) ?_
      refine wp_int hr.2.2.1 ?_
      refine wp_iconst (pc := 12) (1) dX7_word_12 (by decide) ?_
      refine wp_icmp_ne (pc := 13) 114 dX7_word_13 (by decide) (fun c_13 => ?_) (fun c_13 => ?_)
      · refine wp_iconst (pc := 114) (-1) dX7_word_114 (by decide) ?_
        refine wp_iretI (pc := 115) dX7_word_115 rfl ?_
        rw [wrd_n hs] at k
        exact k
      · exact absurd ((nI_eq (b := 1) (by omega) (by decide)).mp c_13) hs
theorem c_X7_reads {d : Nat} {F I : Nat → Nat → Int32} {J : Nat → Nat → Int64} {Q : Option Value → sm_H → Prop} {sz : Nat} {tp : Nat → Nat} (hP : TP sz tp F I) {p L : Nat} {x : Int32} (hp : p ≤ sz) (hp7 : F 40 7 = nI p) (hL : ∀ m, m < 2 ^ 20 → (nI m ≤ x ↔ m < L)) (k : ∀ F1 : Nat → Nat → Int32, RS sz tp (tks sz tp p) F1 → KF F F1 → Q (some (.int (b2 (rdT sz tp (tks sz tp p) L)))) (S0, F1, I, J)) : Wp mX7_reads (d + 3) 0 0 0 (sm_ini [.ref 40, .int x] 2) [] (S0, F, I, J) Q := by
  show Wp _ _ _ _ _ [.ref 40, .int x] _ _ _
  have hs4 := srtk_le (sz := sz) (tp := tp) (q := tks sz tp p)
  have hnm := nmk_lt (sz := sz) (q := tks sz tp p) hP.2.2.2
  refine wp_aload_n (pc := 0) 0 dX7_reads_0 rfl rfl ?_
  refine wc_V_ (pc := 1) dX7_reads_1 lkX7_115 (sm_Rc.o (ci := 6) s0_40 (by decide) (by decide)) (by decide) (Nat.le_of_ble_eq_true rfl) ?_
  refine c_X7_read hP hp hp7 (fun F1 hr hk => ?_)
  refine wp_aload_n (pc := 4) 0 dX7_reads_4 rfl rfl ?_
  refine wq_getI (pc := 5) 112 9 dX7_reads_5 s0_40 flX7_112 rfl (by decide) ?_
  refine wp_int hr.2.2.1 ?_
  refine wp_iconst (pc := 8) (2) dX7_reads_8 (by decide) ?_
  refine wp_icmp_ne (pc := 9) 24 dX7_reads_9 (by decide) (fun c_9 => ?_) (fun c_9 => ?_)
  · refine wp_iconst (pc := 24) (0) dX7_reads_24 (by decide) ?_
    refine wp_iret (pc := 25) dX7_reads_25 ⟨_, rfl, by decide⟩ ?_
    have k := k F1 hr hk
    rw [rdT_1 (fun z => c_9 (by rw [z]; rfl))] at k
    exact k
  · have hs2 : srtk sz tp (tks sz tp p) = 2 := (nI_eq (b := 2) (by omega) (by decide)).mp c_9
    refine wp_aload_n (pc := 12) 0 dX7_reads_12 rfl rfl ?_
    refine wq_getI (pc := 13) 103 10 dX7_reads_13 s0_40 flX7_103 rfl (by decide) ?_
    refine wp_int (hr.2.2.2 hs2) ?_
    refine wp_iload_n (pc := 16) 1 dX7_reads_16 rfl rfl ?_
    refine wp_icmp_gt (pc := 17) 24 dX7_reads_17 (by decide) (fun c_17 => ?_) (fun c_17 => ?_)
    · refine wp_iconst (pc := 24) (0) dX7_reads_24 (by decide) ?_
      refine wp_iret (pc := 25) dX7_reads_25 ⟨_, rfl, by decide⟩ ?_
      have k := k F1 hr hk
      rw [rdT_2 (fun z => absurd ((hL _ hnm).mpr z) (Int32.not_le.mpr c_17))] at k
      exact k
    · refine wp_iconst (pc := 20) (1) dX7_reads_20 (by decide) ?_
      refine wp_goto (pc := 21) 25 dX7_reads_21 (by decide) ?_
      refine wp_iret (pc := 25) dX7_reads_25 ⟨_, rfl, by decide⟩ ?_
      have k := k F1 hr hk
      rw [rdT_t hs2 ((hL _ hnm).mp (Int32.not_lt.mp c_17))] at k
      exact k
