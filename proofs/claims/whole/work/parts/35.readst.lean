/-! ===== a statement is read ===== -/
def nxk (sz : Nat) (tp : Nat → Nat) (q : Nat) : Nat := tks sz tp (endk sz tp q)
def rdT (sz : Nat) (tp : Nat → Nat) (q L : Nat) : Bool := decide (srtk sz tp q = 2) && decide (nmk sz tp q < L)
def stN3 (sz : Nat) (tp : Nat → Nat) (f : rw_) (w va vb c : Nat) : Bool × rw_ × Nat := if rdT sz tp c (lmW f w 2 va) = true then (true, cry f w va vb (nmk sz tp c), nxk sz tp c) else (false, f, c)
def stN2 (sz : Nat) (tp : Nat → Nat) (f : rw_) (w va b : Nat) : Bool × rw_ × Nat := if rdT sz tp b (lmW f w 1 va) = true then (if cnW w = 2 then (true, cry f w va (nmk sz tp b) 0, nxk sz tp b) else stN3 sz tp f w va (nmk sz tp b) (nxk sz tp b)) else (false, f, b)
def stN1 (sz : Nat) (tp : Nat → Nat) (f : rw_) (w a : Nat) : Bool × rw_ × Nat := if rdT sz tp a (lmW f w 0 0) = true then (if cnW w = 1 then (true, cry f w (nmk sz tp a) 0 0, nxk sz tp a) else stN2 sz tp f w (nmk sz tp a) (nxk sz tp a)) else (false, f, a)
/-- the word that a token is -/
def wrd (sz : Nat) (tp : Nat → Nat) (q : Nat) : Option Nat := if srtk sz tp q = 1 then fst (isW tp q (endk sz tp q)) 10 else none
/-- a statement from its first token on: whether it is one, the tower behind it, the token behind it or the one that can't stand there -/
def stm (sz : Nat) (tp : Nat → Nat) (f : rw_) (q : Nat) : Bool × rw_ × Nat := match wrd sz tp q with
  | none => (false, f, q)
  | some w => if noRm f w = true then (false, f, q) else stN1 sz tp f w (nxk sz tp q)
section STM
variable {sz : Nat} {tp : Nat → Nat} {f : rw_} {w q a b c va vb : Nat}
theorem stm_n (h : wrd sz tp q = none) : stm sz tp f q = (false, f, q) := by unfold stm; rw [h]
theorem stm_r (h : wrd sz tp q = some w) (h2 : noRm f w = true) : stm sz tp f q = (false, f, q) := by unfold stm; rw [h]; exact if_pos h2
theorem stm_w (h : wrd sz tp q = some w) (h2 : noRm f w = false) : stm sz tp f q = stN1 sz tp f w (nxk sz tp q) := by unfold stm; rw [h]; exact if_neg (by rw [h2]; decide)
theorem stN1_f (h : rdT sz tp a (lmW f w 0 0) = false) : stN1 sz tp f w a = (false, f, a) := by unfold stN1; rw [h]; rfl
theorem stN1_1 (h : rdT sz tp a (lmW f w 0 0) = true) (h2 : cnW w = 1) : stN1 sz tp f w a = (true, cry f w (nmk sz tp a) 0 0, nxk sz tp a) := by unfold stN1; rw [if_pos h, if_pos h2]
theorem stN1_2 (h : rdT sz tp a (lmW f w 0 0) = true) (h2 : ¬ cnW w = 1) : stN1 sz tp f w a = stN2 sz tp f w (nmk sz tp a) (nxk sz tp a) := by unfold stN1; rw [if_pos h, if_neg h2]
theorem stN2_f (h : rdT sz tp b (lmW f w 1 va) = false) : stN2 sz tp f w va b = (false, f, b) := by unfold stN2; rw [h]; rfl
theorem stN2_2 (h : rdT sz tp b (lmW f w 1 va) = true) (h2 : cnW w = 2) : stN2 sz tp f w va b = (true, cry f w va (nmk sz tp b) 0, nxk sz tp b) := by unfold stN2; rw [if_pos h, if_pos h2]
theorem stN2_3 (h : rdT sz tp b (lmW f w 1 va) = true) (h2 : ¬ cnW w = 2) : stN2 sz tp f w va b = stN3 sz tp f w va (nmk sz tp b) (nxk sz tp b) := by unfold stN2; rw [if_pos h, if_neg h2]
theorem stN3_f (h : rdT sz tp c (lmW f w 2 va) = false) : stN3 sz tp f w va vb c = (false, f, c) := by unfold stN3; rw [h]; rfl
theorem stN3_t (h : rdT sz tp c (lmW f w 2 va) = true) : stN3 sz tp f w va vb c = (true, cry f w va vb (nmk sz tp c), nxk sz tp c) := by unfold stN3; rw [if_pos h]
theorem rdT_t {L : Nat} (h1 : srtk sz tp q = 2) (h2 : nmk sz tp q < L) : rdT sz tp q L = true := by unfold rdT; rw [decide_eq_true h1, decide_eq_true h2]; rfl
theorem rdT_1 {L : Nat} (h1 : ¬ srtk sz tp q = 2) : rdT sz tp q L = false := by unfold rdT; rw [decide_eq_false h1]; rfl
theorem rdT_2 {L : Nat} (h2 : ¬ nmk sz tp q < L) : rdT sz tp q L = false := by unfold rdT; rw [decide_eq_false h2]; exact Bool.and_false _
theorem rdT_g {L : Nat} (h : rdT sz tp q L = true) : srtk sz tp q = 2 ∧ nmk sz tp q < L := by
  unfold rdT at h
  rw [Bool.and_eq_true, decide_eq_true_eq, decide_eq_true_eq] at h
  exact h
theorem nmk_lt (h : ∀ j, tp j < 256) : nmk sz tp q < 2 ^ 20 := by
  unfold nmk
  split
  · rename_i h3
    have := nmU_lt (q := q) h h3
    have : 256 * 111 * (endk sz tp q - q) ≤ 256 * 111 * 3 := Nat.mul_le_mul (Nat.le_refl _) h3
    omega
  · decide
theorem RdS.fr {F F' : Nat → Nat → Int32} (h : RdS sz tp q F) (e : F' 37 = F 37) : RdS sz tp q F' := by unfold RdS at *; rw [e]; exact h
theorem nxk_le (h : q ≤ sz) : nxk sz tp q ≤ sz := (tks_le (endk_le h).2.1).2
end STM
def Frd (t : Nat) (F I F1 I1 : Nat → Nat → Int32) : Prop := ∀ a, (a < t ∨ t + 9 < a) → (a ≠ 37 → F1 a = F a) ∧ (a ≠ 38 → I1 a = I a)
theorem c_X2_readStatement {d : Nat} {F I : Nat → Nat → Int32} {J : Nat → Nat → Int64} {Q : Option Value → sm_H → Prop} {sz : Nat} {tp : Nat → Nat} (hP : TpD sz tp F I) (hz : sz ≤ 250) (htp : ∀ j, tp j < 256) {t : Nat} (ht : isT t) {f : rw_} (hw : WF f) (hT : Tw t f F I) {q : Nat} (hR : RdS sz tp q F) (hq : q ≤ sz) (kk : ∀ F1 I1 : Nat → Nat → Int32, Tw t (stm sz tp f q).2.1 F1 I1 → RdS sz tp (stm sz tp f q).2.2 F1 → F1 37 0 = F 37 0 → Frd t F I F1 I1 → Q (some (.int (b2 (stm sz tp f q).1))) (S0, F1, I1, J)) : Wp mX2_readStatement (d + 7) 0 0 0 (sm_ini [.ref 37, .ref 35, .ref t] 5) [] (S0, F, I, J) Q := by
  show Wp _ _ _ _ _ [.ref 37, .ref 35, .ref t, .null, .null] _ _ _
  have hsl := srtk_le (sz := sz) (tp := tp) (q := q)
  have hlo := ht.lo
  have hhi := ht.hi
  by_cases hk : srtk sz tp q = 1
  · rcases hf0 : fst (isW tp q (endk sz tp q)) 10 with _ | v
    · refine wp_aload_n (pc := 0) 0 dX2_readStatement_0 rfl rfl ?_
      refine wq_getI (pc := 1) 15 1 dX2_readStatement_1 s0_37 flX2_15 rfl (by decide) ?_
      refine wp_int (hR.1.trans (by rw [hk])) ?_
      refine wp_iconst (pc := 4) (1) dX2_readStatement_4 (by decide) ?_
      refine wp_icmp_ne (pc := 5) 16 dX2_readStatement_5 (by decide) (fun c_5 => ?_) (fun c_5 => ?_)
      · exact absurd (by decide) c_5
      · refine wp_aload_n (pc := 8) 0 dX2_readStatement_8 rfl rfl ?_
        refine wp_aload_n (pc := 9) 1 dX2_readStatement_9 rfl rfl ?_
        refine wc_V_R (pc := 10) dX2_readStatement_10 lkX2_41 (sm_Rc.o (ci := 1) s0_37 (by decide) (by decide)) (by decide) (Nat.le_of_ble_eq_true rfl) ?_
        refine c_X2_wordHere hP hz htp hR.2.1 hR.2.2.1 (endk_le hq).1 (endk_le hq).2.1 ?_
        refine wp_int (y := -1) (by rw [hf0]; rfl) ?_
        refine wp_goto (pc := 13) 17 dX2_readStatement_13 (by decide) ?_
        refine wp_istore_n (pc := 17) 3 dX2_readStatement_17 rfl (by decide) rfl ?_
        refine wp_iload_n (pc := 18) 3 dX2_readStatement_18 rfl rfl ?_
        refine wp_iconst (pc := 19) (-1) dX2_readStatement_19 (by decide) ?_
        refine wp_icmp_eq (pc := 20) 31 dX2_readStatement_20 (by decide) (fun c_20 => ?_) (fun c_20 => ?_)
        · refine wp_iconst (pc := 31) (0) dX2_readStatement_31 (by decide) ?_
          refine wp_iret (pc := 32) dX2_readStatement_32 ⟨_, rfl, by decide⟩ ?_
          have hst : stm sz tp f q = (false, f, q) := stm_n ((if_pos hk).trans hf0)
          rw [hst] at kk
          exact kk _ _ hT hR rfl (fun a _ => ⟨fun _ => rfl, fun _ => rfl⟩)
        · exact absurd (by decide) c_20
    · have hv := (fst_get hf0).1
      have hf : wrd sz tp q = some v := (if_pos hk).trans hf0
      rcases (show v = 0 ∨ v = 1 ∨ v = 2 ∨ v = 3 ∨ v = 4 ∨ v = 5 ∨ v = 6 ∨ v = 7 ∨ v = 8 ∨ v = 9 by omega) with rfl | rfl | rfl | rfl | rfl | rfl | rfl | rfl | rfl | rfl
      · have hm0 := hw.n
        obtain ⟨q1, hq1⟩ : ∃ x, x = nxk sz tp q := ⟨_, rfl⟩
        obtain ⟨q2, hq2⟩ : ∃ x, x = nxk sz tp q1 := ⟨_, rfl⟩
        obtain ⟨q3, hq3⟩ : ∃ x, x = nxk sz tp q2 := ⟨_, rfl⟩
        refine wp_aload_n (pc := 0) 0 dX2_readStatement_0 rfl rfl ?_
        refine wq_getI (pc := 1) 15 1 dX2_readStatement_1 s0_37 flX2_15 rfl (by decide) ?_
        refine wp_int (hR.1.trans (by rw [hk])) ?_
        refine wp_iconst (pc := 4) (1) dX2_readStatement_4 (by decide) ?_
        refine wp_icmp_ne (pc := 5) 16 dX2_readStatement_5 (by decide) (fun c_5 => ?_) (fun c_5 => ?_)
        · exact absurd (by decide) c_5
        · refine wp_aload_n (pc := 8) 0 dX2_readStatement_8 rfl rfl ?_
          refine wp_aload_n (pc := 9) 1 dX2_readStatement_9 rfl rfl ?_
          refine wc_V_R (pc := 10) dX2_readStatement_10 lkX2_41 (sm_Rc.o (ci := 1) s0_37 (by decide) (by decide)) (by decide) (Nat.le_of_ble_eq_true rfl) ?_
          refine c_X2_wordHere hP hz htp hR.2.1 hR.2.2.1 (endk_le hq).1 (endk_le hq).2.1 ?_
          refine wp_int (y := nI 0) (by rw [hf0]; rfl) ?_
          refine wp_goto (pc := 13) 17 dX2_readStatement_13 (by decide) ?_
          refine wp_istore_n (pc := 17) 3 dX2_readStatement_17 rfl (by decide) rfl ?_
          refine wp_iload_n (pc := 18) 3 dX2_readStatement_18 rfl rfl ?_
          refine wp_iconst (pc := 19) (-1) dX2_readStatement_19 (by decide) ?_
          refine wp_icmp_eq (pc := 20) 31 dX2_readStatement_20 (by decide) (fun c_20 => ?_) (fun c_20 => ?_)
          · exact absurd c_20 (by decide)
          · refine wp_aload_n (pc := 23) 2 dX2_readStatement_23 rfl rfl ?_
            refine wp_iload_n (pc := 24) 3 dX2_readStatement_24 rfl rfl ?_
            refine wc_S_RI (pc := 25) dX2_readStatement_25 lkX2_45 (by decide) (Nat.le_of_ble_eq_true rfl) ?_
            refine c_X2_hasNoRoom_0 ht hw hT ?_
            refine wp_ifeqB (pc := 28) 33 dX2_readStatement_28 (by decide) (fun c_28 => ?_) (fun c_28 => ?_)
            · have hno := c_28
              refine wp_aload_n (pc := 33) 0 dX2_readStatement_33 rfl rfl ?_
              refine wp_aload_n (pc := 34) 1 dX2_readStatement_34 rfl rfl ?_
              refine wc_V_R (pc := 35) dX2_readStatement_35 lkX2_31 (sm_Rc.o (ci := 1) s0_37 (by decide) (by decide)) (by decide) (Nat.le_of_ble_eq_true rfl) ?_
              refine c_X2_advance hP hz htp hR.2.2.1 (endk_le hq).2.1 (fun F1 hRR hg1 hf1 => ?_)
              have hb1 : q1 ≤ sz := by rw [hq1]; exact nxk_le hq
              have hR1 : RdS sz tp q1 F1 := by rw [hq1]; exact hRR
              have hT1 : Tw t f F1 I := hT.frame (fun a ha => hf1 a (by omega)) (fun _ _ _ => rfl)
              have hP1 : TpD sz tp F1 I := ⟨(congrFun (hf1 35 (by decide)) 0).trans (hP).1, (hP).2⟩
              have hm1 := nmk_lt (sz := sz) (q := q1) htp
              refine wp_iconst (pc := 38) (0) dX2_readStatement_38 (by decide) ?_
              refine wp_istore (pc := 39) 4 dX2_readStatement_39 (by decide) rfl ?_
              refine wp_iload (pc := 41) 4 dX2_readStatement_41 rfl ?_
              refine wp_iload_n (pc := 43) 3 dX2_readStatement_43 rfl rfl ?_
              refine wc_S_I (pc := 44) dX2_readStatement_44 lkX2_49 (by decide) (Nat.le_of_ble_eq_true rfl) ?_
              refine c_X2_countOf_0 ?_
              refine wp_icmp_ge (pc := 47) 99 dX2_readStatement_47 (by decide) (fun c_47 => ?_) (fun c_47 => ?_)
              · exact absurd c_47 (by decide)
              · refine wp_aload_n (pc := 50) 0 dX2_readStatement_50 rfl rfl ?_
                refine wq_getI (pc := 51) 15 1 dX2_readStatement_51 s0_37 flX2_15 rfl (by decide) ?_
                refine wp_int hR1.1 ?_
                refine wp_iconst (pc := 54) (2) dX2_readStatement_54 (by decide) ?_
                refine wp_icmp_ne (pc := 55) 73 dX2_readStatement_55 (by decide) (fun c_55 => ?_) (fun c_55 => ?_)
                · refine wp_iconst (pc := 73) (0) dX2_readStatement_73 (by decide) ?_
                  refine wp_iret (pc := 74) dX2_readStatement_74 ⟨_, rfl, by decide⟩ ?_
                  have hst : stm sz tp f q = (false, f, q1) := by rw [stm_w hf hno, ← hq1, stN1_f (show rdT sz tp q1 (lmW f 0 0 0) = false from rdT_1 (fun z => c_55 (by rw [z]; rfl)))]
                  rw [hst] at kk
                  exact kk _ _ hT1 hR1 hg1 (fun a _ => ⟨fun h3 => (hf1 a h3), fun h3 => rfl⟩)
                · have hs1 : srtk sz tp q1 = 2 := (nI_eq (b := 2) (by have := srtk_le (sz := sz) (tp := tp) (q := q1); omega) (by decide)).mp c_55
                  refine wp_aload_n (pc := 58) 0 dX2_readStatement_58 rfl rfl ?_
                  refine wq_getI (pc := 59) 24 4 dX2_readStatement_59 s0_37 flX2_24 rfl (by decide) ?_
                  refine wp_int (hR1.2.2.2 hs1) ?_
                  refine wp_aload_n (pc := 62) 0 dX2_readStatement_62 rfl rfl ?_
                  refine wp_aload_n (pc := 63) 2 dX2_readStatement_63 rfl rfl ?_
                  refine wp_iload_n (pc := 64) 3 dX2_readStatement_64 rfl rfl ?_
                  refine wp_iload (pc := 65) 4 dX2_readStatement_65 rfl ?_
                  refine wc_V_RII (pc := 67) dX2_readStatement_67 lkX2_53 (sm_Rc.o (ci := 1) s0_37 (by decide) (by decide)) (by decide) (Nat.le_of_ble_eq_true rfl) ?_
                  refine c_X2_mostOf_0_0 ht hw hT1 ?_
                  refine wp_icmp_le (pc := 70) 75 dX2_readStatement_70 (by decide) (fun c_70 => ?_) (fun c_70 => ?_)
                  · have hl1 : nmk sz tp q1 < 100 := (le_prd (L := 100) (by omega) (by omega)).mp c_70
                    have hr1 : rdT sz tp q1 (lmW f 0 0 0) = true := rdT_t hs1 hl1
                    refine wp_aload_n (pc := 75) 0 dX2_readStatement_75 rfl rfl ?_
                    refine wq_getR (pc := 76) 27 5 dX2_readStatement_76 s0_37 flX2_27 rfl rfl (by decide) (by decide) ?_
                    refine wp_iload (pc := 79) 4 dX2_readStatement_79 rfl ?_
                    refine wp_aload_n (pc := 81) 0 dX2_readStatement_81 rfl rfl ?_
                    refine wq_getI (pc := 82) 24 4 dX2_readStatement_82 s0_37 flX2_24 rfl (by decide) ?_
                    refine wp_int (hR1.2.2.2 hs1) ?_
                    refine wc_SN_RII (pc := 85) dX2_readStatement_85 lkX2_57 (by decide) (Nat.le_of_ble_eq_true rfl) ?_
                    refine c_X6_put (n := 0) s0_38 (by decide) (by decide) (by decide) ?_
                    refine wp_aload_n (pc := 88) 0 dX2_readStatement_88 rfl rfl ?_
                    refine wp_aload_n (pc := 89) 1 dX2_readStatement_89 rfl rfl ?_
                    refine wc_V_R (pc := 90) dX2_readStatement_90 lkX2_31 (sm_Rc.o (ci := 1) s0_37 (by decide) (by decide)) (by decide) (Nat.le_of_ble_eq_true rfl) ?_
                    refine c_X2_advance (⟨hP1.1, fun j hj => (up_nk (by decide)).trans (hP1.2 j hj)⟩ : TpD sz tp F1 (sm_up I 38 0 (nI (nmk sz tp q1)))) hz htp hR1.2.2.1 (endk_le hb1).2.1 (fun F2 hRR hg2 hf2 => ?_)
                    have hb2 : q2 ≤ sz := by rw [hq2]; exact nxk_le hb1
                    have hR2 : RdS sz tp q2 F2 := by rw [hq2]; exact hRR
                    have hT2 : Tw t f F2 (sm_up I 38 0 (nI (nmk sz tp q1))) := hT1.frame (fun a ha => hf2 a (by omega)) (fun a h1 h2 => sm_up_ne (by omega))
                    have hP2 : TpD sz tp F2 (sm_up I 38 0 (nI (nmk sz tp q1))) := ⟨(congrFun (hf2 35 (by decide)) 0).trans ((⟨hP1.1, fun j hj => (up_nk (by decide)).trans (hP1.2 j hj)⟩ : TpD sz tp F1 (sm_up I 38 0 (nI (nmk sz tp q1))))).1, ((⟨hP1.1, fun j hj => (up_nk (by decide)).trans (hP1.2 j hj)⟩ : TpD sz tp F1 (sm_up I 38 0 (nI (nmk sz tp q1))))).2⟩
                    have hm2 := nmk_lt (sz := sz) (q := q2) htp
                    refine wp_incN (pc := 93) 4 dX2_readStatement_93 rfl (by decide) rfl ?_
                    refine wp_goto (pc := 96) 41 dX2_readStatement_96 (by decide) ?_
                    refine wp_iload (pc := 41) 4 dX2_readStatement_41 rfl ?_
                    refine wp_iload_n (pc := 43) 3 dX2_readStatement_43 rfl rfl ?_
                    refine wc_S_I (pc := 44) dX2_readStatement_44 lkX2_49 (by decide) (Nat.le_of_ble_eq_true rfl) ?_
                    refine c_X2_countOf_0 ?_
                    refine wp_icmp_ge (pc := 47) 99 dX2_readStatement_47 (by decide) (fun c_47 => ?_) (fun c_47 => ?_)
                    · exact absurd c_47 (by decide)
                    · refine wp_aload_n (pc := 50) 0 dX2_readStatement_50 rfl rfl ?_
                      refine wq_getI (pc := 51) 15 1 dX2_readStatement_51 s0_37 flX2_15 rfl (by decide) ?_
                      refine wp_int hR2.1 ?_
                      refine wp_iconst (pc := 54) (2) dX2_readStatement_54 (by decide) ?_
                      refine wp_icmp_ne (pc := 55) 73 dX2_readStatement_55 (by decide) (fun c_55 => ?_) (fun c_55 => ?_)
                      · refine wp_iconst (pc := 73) (0) dX2_readStatement_73 (by decide) ?_
                        refine wp_iret (pc := 74) dX2_readStatement_74 ⟨_, rfl, by decide⟩ ?_
                        have hst : stm sz tp f q = (false, f, q2) := by rw [stm_w hf hno, ← hq1, stN1_2 hr1 (by decide), ← hq2, stN2_f (show rdT sz tp q2 (lmW f 0 1 (nmk sz tp q1)) = false from rdT_1 (fun z => c_55 (by rw [z]; rfl)))]
                        rw [hst] at kk
                        exact kk _ _ hT2 hR2 (hg2.trans hg1) (fun a _ => ⟨fun h3 => ((hf2 a h3).trans (hf1 a h3)), fun h3 => (sm_up_ne h3)⟩)
                      · have hs2 : srtk sz tp q2 = 2 := (nI_eq (b := 2) (by have := srtk_le (sz := sz) (tp := tp) (q := q2); omega) (by decide)).mp c_55
                        refine wp_aload_n (pc := 58) 0 dX2_readStatement_58 rfl rfl ?_
                        refine wq_getI (pc := 59) 24 4 dX2_readStatement_59 s0_37 flX2_24 rfl (by decide) ?_
                        refine wp_int (hR2.2.2.2 hs2) ?_
                        refine wp_aload_n (pc := 62) 0 dX2_readStatement_62 rfl rfl ?_
                        refine wp_aload_n (pc := 63) 2 dX2_readStatement_63 rfl rfl ?_
                        refine wp_iload_n (pc := 64) 3 dX2_readStatement_64 rfl rfl ?_
                        refine wp_iload (pc := 65) 4 dX2_readStatement_65 rfl ?_
                        refine wc_V_RII (pc := 67) dX2_readStatement_67 lkX2_53 (sm_Rc.o (ci := 1) s0_37 (by decide) (by decide)) (by decide) (Nat.le_of_ble_eq_true rfl) ?_
                        refine c_X2_mostOf_0_1 ht hw hT2 ?_
                        refine wp_icmp_le (pc := 70) 75 dX2_readStatement_70 (by decide) (fun c_70 => ?_) (fun c_70 => ?_)
                        · have hl2 : nmk sz tp q2 < 4 := (le_prd (L := 4) (by omega) (by omega)).mp c_70
                          have hr2 : rdT sz tp q2 (lmW f 0 1 (nmk sz tp q1)) = true := rdT_t hs2 hl2
                          refine wp_aload_n (pc := 75) 0 dX2_readStatement_75 rfl rfl ?_
                          refine wq_getR (pc := 76) 27 5 dX2_readStatement_76 s0_37 flX2_27 rfl rfl (by decide) (by decide) ?_
                          refine wp_iload (pc := 79) 4 dX2_readStatement_79 rfl ?_
                          refine wp_aload_n (pc := 81) 0 dX2_readStatement_81 rfl rfl ?_
                          refine wq_getI (pc := 82) 24 4 dX2_readStatement_82 s0_37 flX2_24 rfl (by decide) ?_
                          refine wp_int (hR2.2.2.2 hs2) ?_
                          refine wc_SN_RII (pc := 85) dX2_readStatement_85 lkX2_57 (by decide) (Nat.le_of_ble_eq_true rfl) ?_
                          refine c_X6_put (n := 1) s0_38 (by decide) (by decide) (by decide) ?_
                          refine wp_aload_n (pc := 88) 0 dX2_readStatement_88 rfl rfl ?_
                          refine wp_aload_n (pc := 89) 1 dX2_readStatement_89 rfl rfl ?_
                          refine wc_V_R (pc := 90) dX2_readStatement_90 lkX2_31 (sm_Rc.o (ci := 1) s0_37 (by decide) (by decide)) (by decide) (Nat.le_of_ble_eq_true rfl) ?_
                          refine c_X2_advance (⟨hP2.1, fun j hj => (up_nk (by decide)).trans (hP2.2 j hj)⟩ : TpD sz tp F2 (sm_up (sm_up I 38 0 (nI (nmk sz tp q1))) 38 1 (nI (nmk sz tp q2)))) hz htp hR2.2.2.1 (endk_le hb2).2.1 (fun F3 hRR hg3 hf3 => ?_)
                          have hb3 : q3 ≤ sz := by rw [hq3]; exact nxk_le hb2
                          have hR3 : RdS sz tp q3 F3 := by rw [hq3]; exact hRR
                          have hT3 : Tw t f F3 (sm_up (sm_up I 38 0 (nI (nmk sz tp q1))) 38 1 (nI (nmk sz tp q2))) := hT2.frame (fun a ha => hf3 a (by omega)) (fun a h1 h2 => sm_up_ne (by omega))
                          have hP3 : TpD sz tp F3 (sm_up (sm_up I 38 0 (nI (nmk sz tp q1))) 38 1 (nI (nmk sz tp q2))) := ⟨(congrFun (hf3 35 (by decide)) 0).trans ((⟨hP2.1, fun j hj => (up_nk (by decide)).trans (hP2.2 j hj)⟩ : TpD sz tp F2 (sm_up (sm_up I 38 0 (nI (nmk sz tp q1))) 38 1 (nI (nmk sz tp q2))))).1, ((⟨hP2.1, fun j hj => (up_nk (by decide)).trans (hP2.2 j hj)⟩ : TpD sz tp F2 (sm_up (sm_up I 38 0 (nI (nmk sz tp q1))) 38 1 (nI (nmk sz tp q2))))).2⟩
                          have hm3 := nmk_lt (sz := sz) (q := q3) htp
                          refine wp_incN (pc := 93) 4 dX2_readStatement_93 rfl (by decide) rfl ?_
                          refine wp_goto (pc := 96) 41 dX2_readStatement_96 (by decide) ?_
                          refine wp_iload (pc := 41) 4 dX2_readStatement_41 rfl ?_
                          refine wp_iload_n (pc := 43) 3 dX2_readStatement_43 rfl rfl ?_
                          refine wc_S_I (pc := 44) dX2_readStatement_44 lkX2_49 (by decide) (Nat.le_of_ble_eq_true rfl) ?_
                          refine c_X2_countOf_0 ?_
                          refine wp_icmp_ge (pc := 47) 99 dX2_readStatement_47 (by decide) (fun c_47 => ?_) (fun c_47 => ?_)
                          · refine wp_aload_n (pc := 99) 0 dX2_readStatement_99 rfl rfl ?_
                            refine wp_aload_n (pc := 100) 2 dX2_readStatement_100 rfl rfl ?_
                            refine wp_iload_n (pc := 101) 3 dX2_readStatement_101 rfl rfl ?_
                            refine wc_V_RI (pc := 102) dX2_readStatement_102 lkX2_61 (sm_Rc.o (ci := 1) s0_37 (by decide) (by decide)) (by decide) (Nat.le_of_ble_eq_true rfl) ?_
                            refine c_X2_carryOut_0 ht hw hT3 (a := nmk sz tp q1) (b := nmk sz tp q2) (e := 0) (by simp [sm_up]) (by simp [sm_up]) (Nat.lt_of_not_le fun z => by simp [noRm, Nat.not_lt.mpr z] at hno) (fun F9 I9 hT9 hf9 => ?_)
                            refine wp_iconst (pc := 105) (1) dX2_readStatement_105 (by decide) ?_
                            refine wp_iret (pc := 106) dX2_readStatement_106 ⟨_, rfl, by decide⟩ ?_
                            have hst : stm sz tp f q = (true, cry f 0 (nmk sz tp q1) (nmk sz tp q2) 0, q3) := by rw [stm_w hf hno, ← hq1, stN1_2 hr1 (by decide), ← hq2, stN2_2 hr2 (by decide), ← hq3]
                            rw [hst] at kk
                            have h37 := (hf9 37 (by omega)).1
                            exact kk _ _ hT9 (hR3.fr h37) ((congrFun h37 0).trans (hg3.trans (hg2.trans hg1))) (fun a ha => ⟨fun h3 => (hf9 a ha).1.trans ((hf3 a h3).trans ((hf2 a h3).trans (hf1 a h3))), fun h3 => (hf9 a ha).2.trans ((sm_up_ne h3).trans (sm_up_ne h3))⟩)
                          · exact absurd (by decide) c_47
                        · refine wp_iconst (pc := 73) (0) dX2_readStatement_73 (by decide) ?_
                          refine wp_iret (pc := 74) dX2_readStatement_74 ⟨_, rfl, by decide⟩ ?_
                          have hst : stm sz tp f q = (false, f, q2) := by rw [stm_w hf hno, ← hq1, stN1_2 hr1 (by decide), ← hq2, stN2_f (show rdT sz tp q2 (lmW f 0 1 (nmk sz tp q1)) = false from rdT_2 (L := 4) (fun z => c_70 ((le_prd (L := 4) (by omega) (by omega)).mpr z)))]
                          rw [hst] at kk
                          exact kk _ _ hT2 hR2 (hg2.trans hg1) (fun a _ => ⟨fun h3 => ((hf2 a h3).trans (hf1 a h3)), fun h3 => (sm_up_ne h3)⟩)
                  · refine wp_iconst (pc := 73) (0) dX2_readStatement_73 (by decide) ?_
                    refine wp_iret (pc := 74) dX2_readStatement_74 ⟨_, rfl, by decide⟩ ?_
                    have hst : stm sz tp f q = (false, f, q1) := by rw [stm_w hf hno, ← hq1, stN1_f (show rdT sz tp q1 (lmW f 0 0 0) = false from rdT_2 (L := 100) (fun z => c_70 ((le_prd (L := 100) (by omega) (by omega)).mpr z)))]
                    rw [hst] at kk
                    exact kk _ _ hT1 hR1 hg1 (fun a _ => ⟨fun h3 => (hf1 a h3), fun h3 => rfl⟩)
            · refine wp_iconst (pc := 31) (0) dX2_readStatement_31 (by decide) ?_
              refine wp_iret (pc := 32) dX2_readStatement_32 ⟨_, rfl, by decide⟩ ?_
              have hst : stm sz tp f q = (false, f, q) := by exact stm_r hf c_28
              rw [hst] at kk
              exact kk _ _ hT hR rfl (fun a _ => ⟨fun h3 => rfl, fun h3 => rfl⟩)
      · have hm0 := hw.n
        obtain ⟨q1, hq1⟩ : ∃ x, x = nxk sz tp q := ⟨_, rfl⟩
        obtain ⟨q2, hq2⟩ : ∃ x, x = nxk sz tp q1 := ⟨_, rfl⟩
        obtain ⟨q3, hq3⟩ : ∃ x, x = nxk sz tp q2 := ⟨_, rfl⟩
        refine wp_aload_n (pc := 0) 0 dX2_readStatement_0 rfl rfl ?_
        refine wq_getI (pc := 1) 15 1 dX2_readStatement_1 s0_37 flX2_15 rfl (by decide) ?_
        refine wp_int (hR.1.trans (by rw [hk])) ?_
        refine wp_iconst (pc := 4) (1) dX2_readStatement_4 (by decide) ?_
        refine wp_icmp_ne (pc := 5) 16 dX2_readStatement_5 (by decide) (fun c_5 => ?_) (fun c_5 => ?_)
        · exact absurd (by decide) c_5
        · refine wp_aload_n (pc := 8) 0 dX2_readStatement_8 rfl rfl ?_
          refine wp_aload_n (pc := 9) 1 dX2_readStatement_9 rfl rfl ?_
          refine wc_V_R (pc := 10) dX2_readStatement_10 lkX2_41 (sm_Rc.o (ci := 1) s0_37 (by decide) (by decide)) (by decide) (Nat.le_of_ble_eq_true rfl) ?_
          refine c_X2_wordHere hP hz htp hR.2.1 hR.2.2.1 (endk_le hq).1 (endk_le hq).2.1 ?_
          refine wp_int (y := nI 1) (by rw [hf0]; rfl) ?_
          refine wp_goto (pc := 13) 17 dX2_readStatement_13 (by decide) ?_
          refine wp_istore_n (pc := 17) 3 dX2_readStatement_17 rfl (by decide) rfl ?_
          refine wp_iload_n (pc := 18) 3 dX2_readStatement_18 rfl rfl ?_
          refine wp_iconst (pc := 19) (-1) dX2_readStatement_19 (by decide) ?_
          refine wp_icmp_eq (pc := 20) 31 dX2_readStatement_20 (by decide) (fun c_20 => ?_) (fun c_20 => ?_)
          · exact absurd c_20 (by decide)
          · refine wp_aload_n (pc := 23) 2 dX2_readStatement_23 rfl rfl ?_
            refine wp_iload_n (pc := 24) 3 dX2_readStatement_24 rfl rfl ?_
            refine wc_S_RI (pc := 25) dX2_readStatement_25 lkX2_45 (by decide) (Nat.le_of_ble_eq_true rfl) ?_
            refine c_X2_hasNoRoom_1 ht hw hT ?_
            refine wp_ifeqB (pc := 28) 33 dX2_readStatement_28 (by decide) (fun c_28 => ?_) (fun c_28 => ?_)
            · have hno := c_28
              refine wp_aload_n (pc := 33) 0 dX2_readStatement_33 rfl rfl ?_
              refine wp_aload_n (pc := 34) 1 dX2_readStatement_34 rfl rfl ?_
              refine wc_V_R (pc := 35) dX2_readStatement_35 lkX2_31 (sm_Rc.o (ci := 1) s0_37 (by decide) (by decide)) (by decide) (Nat.le_of_ble_eq_true rfl) ?_
              refine c_X2_advance hP hz htp hR.2.2.1 (endk_le hq).2.1 (fun F1 hRR hg1 hf1 => ?_)
              have hb1 : q1 ≤ sz := by rw [hq1]; exact nxk_le hq
              have hR1 : RdS sz tp q1 F1 := by rw [hq1]; exact hRR
              have hT1 : Tw t f F1 I := hT.frame (fun a ha => hf1 a (by omega)) (fun _ _ _ => rfl)
              have hP1 : TpD sz tp F1 I := ⟨(congrFun (hf1 35 (by decide)) 0).trans (hP).1, (hP).2⟩
              have hm1 := nmk_lt (sz := sz) (q := q1) htp
              refine wp_iconst (pc := 38) (0) dX2_readStatement_38 (by decide) ?_
              refine wp_istore (pc := 39) 4 dX2_readStatement_39 (by decide) rfl ?_
              refine wp_iload (pc := 41) 4 dX2_readStatement_41 rfl ?_
              refine wp_iload_n (pc := 43) 3 dX2_readStatement_43 rfl rfl ?_
              refine wc_S_I (pc := 44) dX2_readStatement_44 lkX2_49 (by decide) (Nat.le_of_ble_eq_true rfl) ?_
              refine c_X2_countOf_1 ?_
              refine wp_icmp_ge (pc := 47) 99 dX2_readStatement_47 (by decide) (fun c_47 => ?_) (fun c_47 => ?_)
              · exact absurd c_47 (by decide)
              · refine wp_aload_n (pc := 50) 0 dX2_readStatement_50 rfl rfl ?_
                refine wq_getI (pc := 51) 15 1 dX2_readStatement_51 s0_37 flX2_15 rfl (by decide) ?_
                refine wp_int hR1.1 ?_
                refine wp_iconst (pc := 54) (2) dX2_readStatement_54 (by decide) ?_
                refine wp_icmp_ne (pc := 55) 73 dX2_readStatement_55 (by decide) (fun c_55 => ?_) (fun c_55 => ?_)
                · refine wp_iconst (pc := 73) (0) dX2_readStatement_73 (by decide) ?_
                  refine wp_iret (pc := 74) dX2_readStatement_74 ⟨_, rfl, by decide⟩ ?_
                  have hst : stm sz tp f q = (false, f, q1) := by rw [stm_w hf hno, ← hq1, stN1_f (show rdT sz tp q1 (lmW f 1 0 0) = false from rdT_1 (fun z => c_55 (by rw [z]; rfl)))]
                  rw [hst] at kk
                  exact kk _ _ hT1 hR1 hg1 (fun a _ => ⟨fun h3 => (hf1 a h3), fun h3 => rfl⟩)
                · have hs1 : srtk sz tp q1 = 2 := (nI_eq (b := 2) (by have := srtk_le (sz := sz) (tp := tp) (q := q1); omega) (by decide)).mp c_55
                  refine wp_aload_n (pc := 58) 0 dX2_readStatement_58 rfl rfl ?_
                  refine wq_getI (pc := 59) 24 4 dX2_readStatement_59 s0_37 flX2_24 rfl (by decide) ?_
                  refine wp_int (hR1.2.2.2 hs1) ?_
                  refine wp_aload_n (pc := 62) 0 dX2_readStatement_62 rfl rfl ?_
                  refine wp_aload_n (pc := 63) 2 dX2_readStatement_63 rfl rfl ?_
                  refine wp_iload_n (pc := 64) 3 dX2_readStatement_64 rfl rfl ?_
                  refine wp_iload (pc := 65) 4 dX2_readStatement_65 rfl ?_
                  refine wc_V_RII (pc := 67) dX2_readStatement_67 lkX2_53 (sm_Rc.o (ci := 1) s0_37 (by decide) (by decide)) (by decide) (Nat.le_of_ble_eq_true rfl) ?_
                  refine c_X2_mostOf_1_0 ht hw hT1 ?_
                  refine wp_icmp_le (pc := 70) 75 dX2_readStatement_70 (by decide) (fun c_70 => ?_) (fun c_70 => ?_)
                  · have hl1 : nmk sz tp q1 < (f 68) := (le_prd (L := (f 68)) (by omega) (by omega)).mp c_70
                    have hr1 : rdT sz tp q1 (lmW f 1 0 0) = true := rdT_t hs1 hl1
                    refine wp_aload_n (pc := 75) 0 dX2_readStatement_75 rfl rfl ?_
                    refine wq_getR (pc := 76) 27 5 dX2_readStatement_76 s0_37 flX2_27 rfl rfl (by decide) (by decide) ?_
                    refine wp_iload (pc := 79) 4 dX2_readStatement_79 rfl ?_
                    refine wp_aload_n (pc := 81) 0 dX2_readStatement_81 rfl rfl ?_
                    refine wq_getI (pc := 82) 24 4 dX2_readStatement_82 s0_37 flX2_24 rfl (by decide) ?_
                    refine wp_int (hR1.2.2.2 hs1) ?_
                    refine wc_SN_RII (pc := 85) dX2_readStatement_85 lkX2_57 (by decide) (Nat.le_of_ble_eq_true rfl) ?_
                    refine c_X6_put (n := 0) s0_38 (by decide) (by decide) (by decide) ?_
                    refine wp_aload_n (pc := 88) 0 dX2_readStatement_88 rfl rfl ?_
                    refine wp_aload_n (pc := 89) 1 dX2_readStatement_89 rfl rfl ?_
                    refine wc_V_R (pc := 90) dX2_readStatement_90 lkX2_31 (sm_Rc.o (ci := 1) s0_37 (by decide) (by decide)) (by decide) (Nat.le_of_ble_eq_true rfl) ?_
                    refine c_X2_advance (⟨hP1.1, fun j hj => (up_nk (by decide)).trans (hP1.2 j hj)⟩ : TpD sz tp F1 (sm_up I 38 0 (nI (nmk sz tp q1)))) hz htp hR1.2.2.1 (endk_le hb1).2.1 (fun F2 hRR hg2 hf2 => ?_)
                    have hb2 : q2 ≤ sz := by rw [hq2]; exact nxk_le hb1
                    have hR2 : RdS sz tp q2 F2 := by rw [hq2]; exact hRR
                    have hT2 : Tw t f F2 (sm_up I 38 0 (nI (nmk sz tp q1))) := hT1.frame (fun a ha => hf2 a (by omega)) (fun a h1 h2 => sm_up_ne (by omega))
                    have hP2 : TpD sz tp F2 (sm_up I 38 0 (nI (nmk sz tp q1))) := ⟨(congrFun (hf2 35 (by decide)) 0).trans ((⟨hP1.1, fun j hj => (up_nk (by decide)).trans (hP1.2 j hj)⟩ : TpD sz tp F1 (sm_up I 38 0 (nI (nmk sz tp q1))))).1, ((⟨hP1.1, fun j hj => (up_nk (by decide)).trans (hP1.2 j hj)⟩ : TpD sz tp F1 (sm_up I 38 0 (nI (nmk sz tp q1))))).2⟩
                    have hm2 := nmk_lt (sz := sz) (q := q2) htp
                    refine wp_incN (pc := 93) 4 dX2_readStatement_93 rfl (by decide) rfl ?_
                    refine wp_goto (pc := 96) 41 dX2_readStatement_96 (by decide) ?_
                    refine wp_iload (pc := 41) 4 dX2_readStatement_41 rfl ?_
                    refine wp_iload_n (pc := 43) 3 dX2_readStatement_43 rfl rfl ?_
                    refine wc_S_I (pc := 44) dX2_readStatement_44 lkX2_49 (by decide) (Nat.le_of_ble_eq_true rfl) ?_
                    refine c_X2_countOf_1 ?_
                    refine wp_icmp_ge (pc := 47) 99 dX2_readStatement_47 (by decide) (fun c_47 => ?_) (fun c_47 => ?_)
                    · exact absurd c_47 (by decide)
                    · refine wp_aload_n (pc := 50) 0 dX2_readStatement_50 rfl rfl ?_
                      refine wq_getI (pc := 51) 15 1 dX2_readStatement_51 s0_37 flX2_15 rfl (by decide) ?_
                      refine wp_int hR2.1 ?_
                      refine wp_iconst (pc := 54) (2) dX2_readStatement_54 (by decide) ?_
                      refine wp_icmp_ne (pc := 55) 73 dX2_readStatement_55 (by decide) (fun c_55 => ?_) (fun c_55 => ?_)
                      · refine wp_iconst (pc := 73) (0) dX2_readStatement_73 (by decide) ?_
                        refine wp_iret (pc := 74) dX2_readStatement_74 ⟨_, rfl, by decide⟩ ?_
                        have hst : stm sz tp f q = (false, f, q2) := by rw [stm_w hf hno, ← hq1, stN1_2 hr1 (by decide), ← hq2, stN2_f (show rdT sz tp q2 (lmW f 1 1 (nmk sz tp q1)) = false from rdT_1 (fun z => c_55 (by rw [z]; rfl)))]
                        rw [hst] at kk
                        exact kk _ _ hT2 hR2 (hg2.trans hg1) (fun a _ => ⟨fun h3 => ((hf2 a h3).trans (hf1 a h3)), fun h3 => (sm_up_ne h3)⟩)
                      · have hs2 : srtk sz tp q2 = 2 := (nI_eq (b := 2) (by have := srtk_le (sz := sz) (tp := tp) (q := q2); omega) (by decide)).mp c_55
                        refine wp_aload_n (pc := 58) 0 dX2_readStatement_58 rfl rfl ?_
                        refine wq_getI (pc := 59) 24 4 dX2_readStatement_59 s0_37 flX2_24 rfl (by decide) ?_
                        refine wp_int (hR2.2.2.2 hs2) ?_
                        refine wp_aload_n (pc := 62) 0 dX2_readStatement_62 rfl rfl ?_
                        refine wp_aload_n (pc := 63) 2 dX2_readStatement_63 rfl rfl ?_
                        refine wp_iload_n (pc := 64) 3 dX2_readStatement_64 rfl rfl ?_
                        refine wp_iload (pc := 65) 4 dX2_readStatement_65 rfl ?_
                        refine wc_V_RII (pc := 67) dX2_readStatement_67 lkX2_53 (sm_Rc.o (ci := 1) s0_37 (by decide) (by decide)) (by decide) (Nat.le_of_ble_eq_true rfl) ?_
                        refine c_X2_mostOf_1_1 ht hw hT2 up_eq ?_
                        refine wp_icmp_le (pc := 70) 75 dX2_readStatement_70 (by decide) (fun c_70 => ?_) (fun c_70 => ?_)
                        · have hl2 : nmk sz tp q2 < (nmk sz tp q1) := (le_prd (L := (nmk sz tp q1)) (by omega) (by omega)).mp c_70
                          have hr2 : rdT sz tp q2 (lmW f 1 1 (nmk sz tp q1)) = true := rdT_t hs2 hl2
                          refine wp_aload_n (pc := 75) 0 dX2_readStatement_75 rfl rfl ?_
                          refine wq_getR (pc := 76) 27 5 dX2_readStatement_76 s0_37 flX2_27 rfl rfl (by decide) (by decide) ?_
                          refine wp_iload (pc := 79) 4 dX2_readStatement_79 rfl ?_
                          refine wp_aload_n (pc := 81) 0 dX2_readStatement_81 rfl rfl ?_
                          refine wq_getI (pc := 82) 24 4 dX2_readStatement_82 s0_37 flX2_24 rfl (by decide) ?_
                          refine wp_int (hR2.2.2.2 hs2) ?_
                          refine wc_SN_RII (pc := 85) dX2_readStatement_85 lkX2_57 (by decide) (Nat.le_of_ble_eq_true rfl) ?_
                          refine c_X6_put (n := 1) s0_38 (by decide) (by decide) (by decide) ?_
                          refine wp_aload_n (pc := 88) 0 dX2_readStatement_88 rfl rfl ?_
                          refine wp_aload_n (pc := 89) 1 dX2_readStatement_89 rfl rfl ?_
                          refine wc_V_R (pc := 90) dX2_readStatement_90 lkX2_31 (sm_Rc.o (ci := 1) s0_37 (by decide) (by decide)) (by decide) (Nat.le_of_ble_eq_true rfl) ?_
                          refine c_X2_advance (⟨hP2.1, fun j hj => (up_nk (by decide)).trans (hP2.2 j hj)⟩ : TpD sz tp F2 (sm_up (sm_up I 38 0 (nI (nmk sz tp q1))) 38 1 (nI (nmk sz tp q2)))) hz htp hR2.2.2.1 (endk_le hb2).2.1 (fun F3 hRR hg3 hf3 => ?_)
                          have hb3 : q3 ≤ sz := by rw [hq3]; exact nxk_le hb2
                          have hR3 : RdS sz tp q3 F3 := by rw [hq3]; exact hRR
                          have hT3 : Tw t f F3 (sm_up (sm_up I 38 0 (nI (nmk sz tp q1))) 38 1 (nI (nmk sz tp q2))) := hT2.frame (fun a ha => hf3 a (by omega)) (fun a h1 h2 => sm_up_ne (by omega))
                          have hP3 : TpD sz tp F3 (sm_up (sm_up I 38 0 (nI (nmk sz tp q1))) 38 1 (nI (nmk sz tp q2))) := ⟨(congrFun (hf3 35 (by decide)) 0).trans ((⟨hP2.1, fun j hj => (up_nk (by decide)).trans (hP2.2 j hj)⟩ : TpD sz tp F2 (sm_up (sm_up I 38 0 (nI (nmk sz tp q1))) 38 1 (nI (nmk sz tp q2))))).1, ((⟨hP2.1, fun j hj => (up_nk (by decide)).trans (hP2.2 j hj)⟩ : TpD sz tp F2 (sm_up (sm_up I 38 0 (nI (nmk sz tp q1))) 38 1 (nI (nmk sz tp q2))))).2⟩
                          have hm3 := nmk_lt (sz := sz) (q := q3) htp
                          refine wp_incN (pc := 93) 4 dX2_readStatement_93 rfl (by decide) rfl ?_
                          refine wp_goto (pc := 96) 41 dX2_readStatement_96 (by decide) ?_
                          refine wp_iload (pc := 41) 4 dX2_readStatement_41 rfl ?_
                          refine wp_iload_n (pc := 43) 3 dX2_readStatement_43 rfl rfl ?_
                          refine wc_S_I (pc := 44) dX2_readStatement_44 lkX2_49 (by decide) (Nat.le_of_ble_eq_true rfl) ?_
                          refine c_X2_countOf_1 ?_
                          refine wp_icmp_ge (pc := 47) 99 dX2_readStatement_47 (by decide) (fun c_47 => ?_) (fun c_47 => ?_)
                          · refine wp_aload_n (pc := 99) 0 dX2_readStatement_99 rfl rfl ?_
                            refine wp_aload_n (pc := 100) 2 dX2_readStatement_100 rfl rfl ?_
                            refine wp_iload_n (pc := 101) 3 dX2_readStatement_101 rfl rfl ?_
                            refine wc_V_RI (pc := 102) dX2_readStatement_102 lkX2_61 (sm_Rc.o (ci := 1) s0_37 (by decide) (by decide)) (by decide) (Nat.le_of_ble_eq_true rfl) ?_
                            refine c_X2_carryOut_1 ht hw hT3 (a := nmk sz tp q1) (b := nmk sz tp q2) (e := 0) (by simp [sm_up]) (by simp [sm_up]) (by omega) (by omega) (fun F9 I9 hT9 hf9 => ?_)
                            refine wp_iconst (pc := 105) (1) dX2_readStatement_105 (by decide) ?_
                            refine wp_iret (pc := 106) dX2_readStatement_106 ⟨_, rfl, by decide⟩ ?_
                            have hst : stm sz tp f q = (true, cry f 1 (nmk sz tp q1) (nmk sz tp q2) 0, q3) := by rw [stm_w hf hno, ← hq1, stN1_2 hr1 (by decide), ← hq2, stN2_2 hr2 (by decide), ← hq3]
                            rw [hst] at kk
                            have h37 := (hf9 37 (by omega)).1
                            exact kk _ _ hT9 (hR3.fr h37) ((congrFun h37 0).trans (hg3.trans (hg2.trans hg1))) (fun a ha => ⟨fun h3 => (hf9 a ha).1.trans ((hf3 a h3).trans ((hf2 a h3).trans (hf1 a h3))), fun h3 => (hf9 a ha).2.trans ((sm_up_ne h3).trans (sm_up_ne h3))⟩)
                          · exact absurd (by decide) c_47
                        · refine wp_iconst (pc := 73) (0) dX2_readStatement_73 (by decide) ?_
                          refine wp_iret (pc := 74) dX2_readStatement_74 ⟨_, rfl, by decide⟩ ?_
                          have hst : stm sz tp f q = (false, f, q2) := by rw [stm_w hf hno, ← hq1, stN1_2 hr1 (by decide), ← hq2, stN2_f (show rdT sz tp q2 (lmW f 1 1 (nmk sz tp q1)) = false from rdT_2 (L := (nmk sz tp q1)) (fun z => c_70 ((le_prd (L := (nmk sz tp q1)) (by omega) (by omega)).mpr z)))]
                          rw [hst] at kk
                          exact kk _ _ hT2 hR2 (hg2.trans hg1) (fun a _ => ⟨fun h3 => ((hf2 a h3).trans (hf1 a h3)), fun h3 => (sm_up_ne h3)⟩)
                  · refine wp_iconst (pc := 73) (0) dX2_readStatement_73 (by decide) ?_
                    refine wp_iret (pc := 74) dX2_readStatement_74 ⟨_, rfl, by decide⟩ ?_
                    have hst : stm sz tp f q = (false, f, q1) := by rw [stm_w hf hno, ← hq1, stN1_f (show rdT sz tp q1 (lmW f 1 0 0) = false from rdT_2 (L := (f 68)) (fun z => c_70 ((le_prd (L := (f 68)) (by omega) (by omega)).mpr z)))]
                    rw [hst] at kk
                    exact kk _ _ hT1 hR1 hg1 (fun a _ => ⟨fun h3 => (hf1 a h3), fun h3 => rfl⟩)
            · refine wp_iconst (pc := 31) (0) dX2_readStatement_31 (by decide) ?_
              refine wp_iret (pc := 32) dX2_readStatement_32 ⟨_, rfl, by decide⟩ ?_
              have hst : stm sz tp f q = (false, f, q) := by exact stm_r hf c_28
              rw [hst] at kk
              exact kk _ _ hT hR rfl (fun a _ => ⟨fun h3 => rfl, fun h3 => rfl⟩)
      · have hm0 := hw.n
        obtain ⟨q1, hq1⟩ : ∃ x, x = nxk sz tp q := ⟨_, rfl⟩
        obtain ⟨q2, hq2⟩ : ∃ x, x = nxk sz tp q1 := ⟨_, rfl⟩
        refine wp_aload_n (pc := 0) 0 dX2_readStatement_0 rfl rfl ?_
        refine wq_getI (pc := 1) 15 1 dX2_readStatement_1 s0_37 flX2_15 rfl (by decide) ?_
        refine wp_int (hR.1.trans (by rw [hk])) ?_
        refine wp_iconst (pc := 4) (1) dX2_readStatement_4 (by decide) ?_
        refine wp_icmp_ne (pc := 5) 16 dX2_readStatement_5 (by decide) (fun c_5 => ?_) (fun c_5 => ?_)
        · exact absurd (by decide) c_5
        · refine wp_aload_n (pc := 8) 0 dX2_readStatement_8 rfl rfl ?_
          refine wp_aload_n (pc := 9) 1 dX2_readStatement_9 rfl rfl ?_
          refine wc_V_R (pc := 10) dX2_readStatement_10 lkX2_41 (sm_Rc.o (ci := 1) s0_37 (by decide) (by decide)) (by decide) (Nat.le_of_ble_eq_true rfl) ?_
          refine c_X2_wordHere hP hz htp hR.2.1 hR.2.2.1 (endk_le hq).1 (endk_le hq).2.1 ?_
          refine wp_int (y := nI 2) (by rw [hf0]; rfl) ?_
          refine wp_goto (pc := 13) 17 dX2_readStatement_13 (by decide) ?_
          refine wp_istore_n (pc := 17) 3 dX2_readStatement_17 rfl (by decide) rfl ?_
          refine wp_iload_n (pc := 18) 3 dX2_readStatement_18 rfl rfl ?_
          refine wp_iconst (pc := 19) (-1) dX2_readStatement_19 (by decide) ?_
          refine wp_icmp_eq (pc := 20) 31 dX2_readStatement_20 (by decide) (fun c_20 => ?_) (fun c_20 => ?_)
          · exact absurd c_20 (by decide)
          · refine wp_aload_n (pc := 23) 2 dX2_readStatement_23 rfl rfl ?_
            refine wp_iload_n (pc := 24) 3 dX2_readStatement_24 rfl rfl ?_
            refine wc_S_RI (pc := 25) dX2_readStatement_25 lkX2_45 (by decide) (Nat.le_of_ble_eq_true rfl) ?_
            refine c_X2_hasNoRoom_2 ht hw hT ?_
            refine wp_ifeqB (pc := 28) 33 dX2_readStatement_28 (by decide) (fun c_28 => ?_) (fun c_28 => ?_)
            · have hno := c_28
              refine wp_aload_n (pc := 33) 0 dX2_readStatement_33 rfl rfl ?_
              refine wp_aload_n (pc := 34) 1 dX2_readStatement_34 rfl rfl ?_
              refine wc_V_R (pc := 35) dX2_readStatement_35 lkX2_31 (sm_Rc.o (ci := 1) s0_37 (by decide) (by decide)) (by decide) (Nat.le_of_ble_eq_true rfl) ?_
              refine c_X2_advance hP hz htp hR.2.2.1 (endk_le hq).2.1 (fun F1 hRR hg1 hf1 => ?_)
              have hb1 : q1 ≤ sz := by rw [hq1]; exact nxk_le hq
              have hR1 : RdS sz tp q1 F1 := by rw [hq1]; exact hRR
              have hT1 : Tw t f F1 I := hT.frame (fun a ha => hf1 a (by omega)) (fun _ _ _ => rfl)
              have hP1 : TpD sz tp F1 I := ⟨(congrFun (hf1 35 (by decide)) 0).trans (hP).1, (hP).2⟩
              have hm1 := nmk_lt (sz := sz) (q := q1) htp
              refine wp_iconst (pc := 38) (0) dX2_readStatement_38 (by decide) ?_
              refine wp_istore (pc := 39) 4 dX2_readStatement_39 (by decide) rfl ?_
              refine wp_iload (pc := 41) 4 dX2_readStatement_41 rfl ?_
              refine wp_iload_n (pc := 43) 3 dX2_readStatement_43 rfl rfl ?_
              refine wc_S_I (pc := 44) dX2_readStatement_44 lkX2_49 (by decide) (Nat.le_of_ble_eq_true rfl) ?_
              refine c_X2_countOf_2 ?_
              refine wp_icmp_ge (pc := 47) 99 dX2_readStatement_47 (by decide) (fun c_47 => ?_) (fun c_47 => ?_)
              · exact absurd c_47 (by decide)
              · refine wp_aload_n (pc := 50) 0 dX2_readStatement_50 rfl rfl ?_
                refine wq_getI (pc := 51) 15 1 dX2_readStatement_51 s0_37 flX2_15 rfl (by decide) ?_
                refine wp_int hR1.1 ?_
                refine wp_iconst (pc := 54) (2) dX2_readStatement_54 (by decide) ?_
                refine wp_icmp_ne (pc := 55) 73 dX2_readStatement_55 (by decide) (fun c_55 => ?_) (fun c_55 => ?_)
                · refine wp_iconst (pc := 73) (0) dX2_readStatement_73 (by decide) ?_
                  refine wp_iret (pc := 74) dX2_readStatement_74 ⟨_, rfl, by decide⟩ ?_
                  have hst : stm sz tp f q = (false, f, q1) := by rw [stm_w hf hno, ← hq1, stN1_f (show rdT sz tp q1 (lmW f 2 0 0) = false from rdT_1 (fun z => c_55 (by rw [z]; rfl)))]
                  rw [hst] at kk
                  exact kk _ _ hT1 hR1 hg1 (fun a _ => ⟨fun h3 => (hf1 a h3), fun h3 => rfl⟩)
                · have hs1 : srtk sz tp q1 = 2 := (nI_eq (b := 2) (by have := srtk_le (sz := sz) (tp := tp) (q := q1); omega) (by decide)).mp c_55
                  refine wp_aload_n (pc := 58) 0 dX2_readStatement_58 rfl rfl ?_
                  refine wq_getI (pc := 59) 24 4 dX2_readStatement_59 s0_37 flX2_24 rfl (by decide) ?_
                  refine wp_int (hR1.2.2.2 hs1) ?_
                  refine wp_aload_n (pc := 62) 0 dX2_readStatement_62 rfl rfl ?_
                  refine wp_aload_n (pc := 63) 2 dX2_readStatement_63 rfl rfl ?_
                  refine wp_iload_n (pc := 64) 3 dX2_readStatement_64 rfl rfl ?_
                  refine wp_iload (pc := 65) 4 dX2_readStatement_65 rfl ?_
                  refine wc_V_RII (pc := 67) dX2_readStatement_67 lkX2_53 (sm_Rc.o (ci := 1) s0_37 (by decide) (by decide)) (by decide) (Nat.le_of_ble_eq_true rfl) ?_
                  refine c_X2_mostOf_2_0 ht hw hT1 ?_
                  refine wp_icmp_le (pc := 70) 75 dX2_readStatement_70 (by decide) (fun c_70 => ?_) (fun c_70 => ?_)
                  · have hl1 : nmk sz tp q1 < (f 68) := (le_prd (L := (f 68)) (by omega) (by omega)).mp c_70
                    have hr1 : rdT sz tp q1 (lmW f 2 0 0) = true := rdT_t hs1 hl1
                    refine wp_aload_n (pc := 75) 0 dX2_readStatement_75 rfl rfl ?_
                    refine wq_getR (pc := 76) 27 5 dX2_readStatement_76 s0_37 flX2_27 rfl rfl (by decide) (by decide) ?_
                    refine wp_iload (pc := 79) 4 dX2_readStatement_79 rfl ?_
                    refine wp_aload_n (pc := 81) 0 dX2_readStatement_81 rfl rfl ?_
                    refine wq_getI (pc := 82) 24 4 dX2_readStatement_82 s0_37 flX2_24 rfl (by decide) ?_
                    refine wp_int (hR1.2.2.2 hs1) ?_
                    refine wc_SN_RII (pc := 85) dX2_readStatement_85 lkX2_57 (by decide) (Nat.le_of_ble_eq_true rfl) ?_
                    refine c_X6_put (n := 0) s0_38 (by decide) (by decide) (by decide) ?_
                    refine wp_aload_n (pc := 88) 0 dX2_readStatement_88 rfl rfl ?_
                    refine wp_aload_n (pc := 89) 1 dX2_readStatement_89 rfl rfl ?_
                    refine wc_V_R (pc := 90) dX2_readStatement_90 lkX2_31 (sm_Rc.o (ci := 1) s0_37 (by decide) (by decide)) (by decide) (Nat.le_of_ble_eq_true rfl) ?_
                    refine c_X2_advance (⟨hP1.1, fun j hj => (up_nk (by decide)).trans (hP1.2 j hj)⟩ : TpD sz tp F1 (sm_up I 38 0 (nI (nmk sz tp q1)))) hz htp hR1.2.2.1 (endk_le hb1).2.1 (fun F2 hRR hg2 hf2 => ?_)
                    have hb2 : q2 ≤ sz := by rw [hq2]; exact nxk_le hb1
                    have hR2 : RdS sz tp q2 F2 := by rw [hq2]; exact hRR
                    have hT2 : Tw t f F2 (sm_up I 38 0 (nI (nmk sz tp q1))) := hT1.frame (fun a ha => hf2 a (by omega)) (fun a h1 h2 => sm_up_ne (by omega))
                    have hP2 : TpD sz tp F2 (sm_up I 38 0 (nI (nmk sz tp q1))) := ⟨(congrFun (hf2 35 (by decide)) 0).trans ((⟨hP1.1, fun j hj => (up_nk (by decide)).trans (hP1.2 j hj)⟩ : TpD sz tp F1 (sm_up I 38 0 (nI (nmk sz tp q1))))).1, ((⟨hP1.1, fun j hj => (up_nk (by decide)).trans (hP1.2 j hj)⟩ : TpD sz tp F1 (sm_up I 38 0 (nI (nmk sz tp q1))))).2⟩
                    have hm2 := nmk_lt (sz := sz) (q := q2) htp
                    refine wp_incN (pc := 93) 4 dX2_readStatement_93 rfl (by decide) rfl ?_
                    refine wp_goto (pc := 96) 41 dX2_readStatement_96 (by decide) ?_
                    refine wp_iload (pc := 41) 4 dX2_readStatement_41 rfl ?_
                    refine wp_iload_n (pc := 43) 3 dX2_readStatement_43 rfl rfl ?_
                    refine wc_S_I (pc := 44) dX2_readStatement_44 lkX2_49 (by decide) (Nat.le_of_ble_eq_true rfl) ?_
                    refine c_X2_countOf_2 ?_
                    refine wp_icmp_ge (pc := 47) 99 dX2_readStatement_47 (by decide) (fun c_47 => ?_) (fun c_47 => ?_)
                    · refine wp_aload_n (pc := 99) 0 dX2_readStatement_99 rfl rfl ?_
                      refine wp_aload_n (pc := 100) 2 dX2_readStatement_100 rfl rfl ?_
                      refine wp_iload_n (pc := 101) 3 dX2_readStatement_101 rfl rfl ?_
                      refine wc_V_RI (pc := 102) dX2_readStatement_102 lkX2_61 (sm_Rc.o (ci := 1) s0_37 (by decide) (by decide)) (by decide) (Nat.le_of_ble_eq_true rfl) ?_
                      refine c_X2_carryOut_2 ht hw hT2 (a := nmk sz tp q1) (b := 0) (e := 0) (by simp [sm_up]) (by omega) (fun F9 I9 hT9 hf9 => ?_)
                      refine wp_iconst (pc := 105) (1) dX2_readStatement_105 (by decide) ?_
                      refine wp_iret (pc := 106) dX2_readStatement_106 ⟨_, rfl, by decide⟩ ?_
                      have hst : stm sz tp f q = (true, cry f 2 (nmk sz tp q1) 0 0, q2) := by rw [stm_w hf hno, ← hq1, stN1_1 hr1 (by decide), ← hq2]
                      rw [hst] at kk
                      have h37 := (hf9 37 (by omega)).1
                      exact kk _ _ hT9 (hR2.fr h37) ((congrFun h37 0).trans (hg2.trans hg1)) (fun a ha => ⟨fun h3 => (hf9 a ha).1.trans ((hf2 a h3).trans (hf1 a h3)), fun h3 => (hf9 a ha).2.trans (sm_up_ne h3)⟩)
                    · exact absurd (by decide) c_47
                  · refine wp_iconst (pc := 73) (0) dX2_readStatement_73 (by decide) ?_
                    refine wp_iret (pc := 74) dX2_readStatement_74 ⟨_, rfl, by decide⟩ ?_
                    have hst : stm sz tp f q = (false, f, q1) := by rw [stm_w hf hno, ← hq1, stN1_f (show rdT sz tp q1 (lmW f 2 0 0) = false from rdT_2 (L := (f 68)) (fun z => c_70 ((le_prd (L := (f 68)) (by omega) (by omega)).mpr z)))]
                    rw [hst] at kk
                    exact kk _ _ hT1 hR1 hg1 (fun a _ => ⟨fun h3 => (hf1 a h3), fun h3 => rfl⟩)
            · refine wp_iconst (pc := 31) (0) dX2_readStatement_31 (by decide) ?_
              refine wp_iret (pc := 32) dX2_readStatement_32 ⟨_, rfl, by decide⟩ ?_
              have hst : stm sz tp f q = (false, f, q) := by exact stm_r hf c_28
              rw [hst] at kk
              exact kk _ _ hT hR rfl (fun a _ => ⟨fun h3 => rfl, fun h3 => rfl⟩)
      · have hm0 := hw.n
        obtain ⟨q1, hq1⟩ : ∃ x, x = nxk sz tp q := ⟨_, rfl⟩
        obtain ⟨q2, hq2⟩ : ∃ x, x = nxk sz tp q1 := ⟨_, rfl⟩
        refine wp_aload_n (pc := 0) 0 dX2_readStatement_0 rfl rfl ?_
        refine wq_getI (pc := 1) 15 1 dX2_readStatement_1 s0_37 flX2_15 rfl (by decide) ?_
        refine wp_int (hR.1.trans (by rw [hk])) ?_
        refine wp_iconst (pc := 4) (1) dX2_readStatement_4 (by decide) ?_
        refine wp_icmp_ne (pc := 5) 16 dX2_readStatement_5 (by decide) (fun c_5 => ?_) (fun c_5 => ?_)
        · exact absurd (by decide) c_5
        · refine wp_aload_n (pc := 8) 0 dX2_readStatement_8 rfl rfl ?_
          refine wp_aload_n (pc := 9) 1 dX2_readStatement_9 rfl rfl ?_
          refine wc_V_R (pc := 10) dX2_readStatement_10 lkX2_41 (sm_Rc.o (ci := 1) s0_37 (by decide) (by decide)) (by decide) (Nat.le_of_ble_eq_true rfl) ?_
          refine c_X2_wordHere hP hz htp hR.2.1 hR.2.2.1 (endk_le hq).1 (endk_le hq).2.1 ?_
          refine wp_int (y := nI 3) (by rw [hf0]; rfl) ?_
          refine wp_goto (pc := 13) 17 dX2_readStatement_13 (by decide) ?_
          refine wp_istore_n (pc := 17) 3 dX2_readStatement_17 rfl (by decide) rfl ?_
          refine wp_iload_n (pc := 18) 3 dX2_readStatement_18 rfl rfl ?_
          refine wp_iconst (pc := 19) (-1) dX2_readStatement_19 (by decide) ?_
          refine wp_icmp_eq (pc := 20) 31 dX2_readStatement_20 (by decide) (fun c_20 => ?_) (fun c_20 => ?_)
          · exact absurd c_20 (by decide)
          · refine wp_aload_n (pc := 23) 2 dX2_readStatement_23 rfl rfl ?_
            refine wp_iload_n (pc := 24) 3 dX2_readStatement_24 rfl rfl ?_
            refine wc_S_RI (pc := 25) dX2_readStatement_25 lkX2_45 (by decide) (Nat.le_of_ble_eq_true rfl) ?_
            refine c_X2_hasNoRoom_3 ht hw hT ?_
            refine wp_ifeqB (pc := 28) 33 dX2_readStatement_28 (by decide) (fun c_28 => ?_) (fun c_28 => ?_)
            · have hno := c_28
              refine wp_aload_n (pc := 33) 0 dX2_readStatement_33 rfl rfl ?_
              refine wp_aload_n (pc := 34) 1 dX2_readStatement_34 rfl rfl ?_
              refine wc_V_R (pc := 35) dX2_readStatement_35 lkX2_31 (sm_Rc.o (ci := 1) s0_37 (by decide) (by decide)) (by decide) (Nat.le_of_ble_eq_true rfl) ?_
              refine c_X2_advance hP hz htp hR.2.2.1 (endk_le hq).2.1 (fun F1 hRR hg1 hf1 => ?_)
              have hb1 : q1 ≤ sz := by rw [hq1]; exact nxk_le hq
              have hR1 : RdS sz tp q1 F1 := by rw [hq1]; exact hRR
              have hT1 : Tw t f F1 I := hT.frame (fun a ha => hf1 a (by omega)) (fun _ _ _ => rfl)
              have hP1 : TpD sz tp F1 I := ⟨(congrFun (hf1 35 (by decide)) 0).trans (hP).1, (hP).2⟩
              have hm1 := nmk_lt (sz := sz) (q := q1) htp
              refine wp_iconst (pc := 38) (0) dX2_readStatement_38 (by decide) ?_
              refine wp_istore (pc := 39) 4 dX2_readStatement_39 (by decide) rfl ?_
              refine wp_iload (pc := 41) 4 dX2_readStatement_41 rfl ?_
              refine wp_iload_n (pc := 43) 3 dX2_readStatement_43 rfl rfl ?_
              refine wc_S_I (pc := 44) dX2_readStatement_44 lkX2_49 (by decide) (Nat.le_of_ble_eq_true rfl) ?_
              refine c_X2_countOf_3 ?_
              refine wp_icmp_ge (pc := 47) 99 dX2_readStatement_47 (by decide) (fun c_47 => ?_) (fun c_47 => ?_)
              · exact absurd c_47 (by decide)
              · refine wp_aload_n (pc := 50) 0 dX2_readStatement_50 rfl rfl ?_
                refine wq_getI (pc := 51) 15 1 dX2_readStatement_51 s0_37 flX2_15 rfl (by decide) ?_
                refine wp_int hR1.1 ?_
                refine wp_iconst (pc := 54) (2) dX2_readStatement_54 (by decide) ?_
                refine wp_icmp_ne (pc := 55) 73 dX2_readStatement_55 (by decide) (fun c_55 => ?_) (fun c_55 => ?_)
                · refine wp_iconst (pc := 73) (0) dX2_readStatement_73 (by decide) ?_
                  refine wp_iret (pc := 74) dX2_readStatement_74 ⟨_, rfl, by decide⟩ ?_
                  have hst : stm sz tp f q = (false, f, q1) := by rw [stm_w hf hno, ← hq1, stN1_f (show rdT sz tp q1 (lmW f 3 0 0) = false from rdT_1 (fun z => c_55 (by rw [z]; rfl)))]
                  rw [hst] at kk
                  exact kk _ _ hT1 hR1 hg1 (fun a _ => ⟨fun h3 => (hf1 a h3), fun h3 => rfl⟩)
                · have hs1 : srtk sz tp q1 = 2 := (nI_eq (b := 2) (by have := srtk_le (sz := sz) (tp := tp) (q := q1); omega) (by decide)).mp c_55
                  refine wp_aload_n (pc := 58) 0 dX2_readStatement_58 rfl rfl ?_
                  refine wq_getI (pc := 59) 24 4 dX2_readStatement_59 s0_37 flX2_24 rfl (by decide) ?_
                  refine wp_int (hR1.2.2.2 hs1) ?_
                  refine wp_aload_n (pc := 62) 0 dX2_readStatement_62 rfl rfl ?_
                  refine wp_aload_n (pc := 63) 2 dX2_readStatement_63 rfl rfl ?_
                  refine wp_iload_n (pc := 64) 3 dX2_readStatement_64 rfl rfl ?_
                  refine wp_iload (pc := 65) 4 dX2_readStatement_65 rfl ?_
                  refine wc_V_RII (pc := 67) dX2_readStatement_67 lkX2_53 (sm_Rc.o (ci := 1) s0_37 (by decide) (by decide)) (by decide) (Nat.le_of_ble_eq_true rfl) ?_
                  refine c_X2_mostOf_3_0 ht hw hT1 ?_
                  refine wp_icmp_le (pc := 70) 75 dX2_readStatement_70 (by decide) (fun c_70 => ?_) (fun c_70 => ?_)
                  · have hl1 : nmk sz tp q1 < (f 68) := (le_prd (L := (f 68)) (by omega) (by omega)).mp c_70
                    have hr1 : rdT sz tp q1 (lmW f 3 0 0) = true := rdT_t hs1 hl1
                    refine wp_aload_n (pc := 75) 0 dX2_readStatement_75 rfl rfl ?_
                    refine wq_getR (pc := 76) 27 5 dX2_readStatement_76 s0_37 flX2_27 rfl rfl (by decide) (by decide) ?_
                    refine wp_iload (pc := 79) 4 dX2_readStatement_79 rfl ?_
                    refine wp_aload_n (pc := 81) 0 dX2_readStatement_81 rfl rfl ?_
                    refine wq_getI (pc := 82) 24 4 dX2_readStatement_82 s0_37 flX2_24 rfl (by decide) ?_
                    refine wp_int (hR1.2.2.2 hs1) ?_
                    refine wc_SN_RII (pc := 85) dX2_readStatement_85 lkX2_57 (by decide) (Nat.le_of_ble_eq_true rfl) ?_
                    refine c_X6_put (n := 0) s0_38 (by decide) (by decide) (by decide) ?_
                    refine wp_aload_n (pc := 88) 0 dX2_readStatement_88 rfl rfl ?_
                    refine wp_aload_n (pc := 89) 1 dX2_readStatement_89 rfl rfl ?_
                    refine wc_V_R (pc := 90) dX2_readStatement_90 lkX2_31 (sm_Rc.o (ci := 1) s0_37 (by decide) (by decide)) (by decide) (Nat.le_of_ble_eq_true rfl) ?_
                    refine c_X2_advance (⟨hP1.1, fun j hj => (up_nk (by decide)).trans (hP1.2 j hj)⟩ : TpD sz tp F1 (sm_up I 38 0 (nI (nmk sz tp q1)))) hz htp hR1.2.2.1 (endk_le hb1).2.1 (fun F2 hRR hg2 hf2 => ?_)
                    have hb2 : q2 ≤ sz := by rw [hq2]; exact nxk_le hb1
                    have hR2 : RdS sz tp q2 F2 := by rw [hq2]; exact hRR
                    have hT2 : Tw t f F2 (sm_up I 38 0 (nI (nmk sz tp q1))) := hT1.frame (fun a ha => hf2 a (by omega)) (fun a h1 h2 => sm_up_ne (by omega))
                    have hP2 : TpD sz tp F2 (sm_up I 38 0 (nI (nmk sz tp q1))) := ⟨(congrFun (hf2 35 (by decide)) 0).trans ((⟨hP1.1, fun j hj => (up_nk (by decide)).trans (hP1.2 j hj)⟩ : TpD sz tp F1 (sm_up I 38 0 (nI (nmk sz tp q1))))).1, ((⟨hP1.1, fun j hj => (up_nk (by decide)).trans (hP1.2 j hj)⟩ : TpD sz tp F1 (sm_up I 38 0 (nI (nmk sz tp q1))))).2⟩
                    have hm2 := nmk_lt (sz := sz) (q := q2) htp
                    refine wp_incN (pc := 93) 4 dX2_readStatement_93 rfl (by decide) rfl ?_
                    refine wp_goto (pc := 96) 41 dX2_readStatement_96 (by decide) ?_
                    refine wp_iload (pc := 41) 4 dX2_readStatement_41 rfl ?_
                    refine wp_iload_n (pc := 43) 3 dX2_readStatement_43 rfl rfl ?_
                    refine wc_S_I (pc := 44) dX2_readStatement_44 lkX2_49 (by decide) (Nat.le_of_ble_eq_true rfl) ?_
                    refine c_X2_countOf_3 ?_
                    refine wp_icmp_ge (pc := 47) 99 dX2_readStatement_47 (by decide) (fun c_47 => ?_) (fun c_47 => ?_)
                    · refine wp_aload_n (pc := 99) 0 dX2_readStatement_99 rfl rfl ?_
                      refine wp_aload_n (pc := 100) 2 dX2_readStatement_100 rfl rfl ?_
                      refine wp_iload_n (pc := 101) 3 dX2_readStatement_101 rfl rfl ?_
                      refine wc_V_RI (pc := 102) dX2_readStatement_102 lkX2_61 (sm_Rc.o (ci := 1) s0_37 (by decide) (by decide)) (by decide) (Nat.le_of_ble_eq_true rfl) ?_
                      refine c_X2_carryOut_3 ht hw hT2 (a := nmk sz tp q1) (b := 0) (e := 0) (by simp [sm_up]) (by omega) (fun F9 I9 hT9 hf9 => ?_)
                      refine wp_iconst (pc := 105) (1) dX2_readStatement_105 (by decide) ?_
                      refine wp_iret (pc := 106) dX2_readStatement_106 ⟨_, rfl, by decide⟩ ?_
                      have hst : stm sz tp f q = (true, cry f 3 (nmk sz tp q1) 0 0, q2) := by rw [stm_w hf hno, ← hq1, stN1_1 hr1 (by decide), ← hq2]
                      rw [hst] at kk
                      have h37 := (hf9 37 (by omega)).1
                      exact kk _ _ hT9 (hR2.fr h37) ((congrFun h37 0).trans (hg2.trans hg1)) (fun a ha => ⟨fun h3 => (hf9 a ha).1.trans ((hf2 a h3).trans (hf1 a h3)), fun h3 => (hf9 a ha).2.trans (sm_up_ne h3)⟩)
                    · exact absurd (by decide) c_47
                  · refine wp_iconst (pc := 73) (0) dX2_readStatement_73 (by decide) ?_
                    refine wp_iret (pc := 74) dX2_readStatement_74 ⟨_, rfl, by decide⟩ ?_
                    have hst : stm sz tp f q = (false, f, q1) := by rw [stm_w hf hno, ← hq1, stN1_f (show rdT sz tp q1 (lmW f 3 0 0) = false from rdT_2 (L := (f 68)) (fun z => c_70 ((le_prd (L := (f 68)) (by omega) (by omega)).mpr z)))]
                    rw [hst] at kk
                    exact kk _ _ hT1 hR1 hg1 (fun a _ => ⟨fun h3 => (hf1 a h3), fun h3 => rfl⟩)
            · refine wp_iconst (pc := 31) (0) dX2_readStatement_31 (by decide) ?_
              refine wp_iret (pc := 32) dX2_readStatement_32 ⟨_, rfl, by decide⟩ ?_
              have hst : stm sz tp f q = (false, f, q) := by exact stm_r hf c_28
              rw [hst] at kk
              exact kk _ _ hT hR rfl (fun a _ => ⟨fun h3 => rfl, fun h3 => rfl⟩)
      · have hm0 := hw.n
        obtain ⟨q1, hq1⟩ : ∃ x, x = nxk sz tp q := ⟨_, rfl⟩
        obtain ⟨q2, hq2⟩ : ∃ x, x = nxk sz tp q1 := ⟨_, rfl⟩
        refine wp_aload_n (pc := 0) 0 dX2_readStatement_0 rfl rfl ?_
        refine wq_getI (pc := 1) 15 1 dX2_readStatement_1 s0_37 flX2_15 rfl (by decide) ?_
        refine wp_int (hR.1.trans (by rw [hk])) ?_
        refine wp_iconst (pc := 4) (1) dX2_readStatement_4 (by decide) ?_
        refine wp_icmp_ne (pc := 5) 16 dX2_readStatement_5 (by decide) (fun c_5 => ?_) (fun c_5 => ?_)
        · exact absurd (by decide) c_5
        · refine wp_aload_n (pc := 8) 0 dX2_readStatement_8 rfl rfl ?_
          refine wp_aload_n (pc := 9) 1 dX2_readStatement_9 rfl rfl ?_
          refine wc_V_R (pc := 10) dX2_readStatement_10 lkX2_41 (sm_Rc.o (ci := 1) s0_37 (by decide) (by decide)) (by decide) (Nat.le_of_ble_eq_true rfl) ?_
          refine c_X2_wordHere hP hz htp hR.2.1 hR.2.2.1 (endk_le hq).1 (endk_le hq).2.1 ?_
          refine wp_int (y := nI 4) (by rw [hf0]; rfl) ?_
          refine wp_goto (pc := 13) 17 dX2_readStatement_13 (by decide) ?_
          refine wp_istore_n (pc := 17) 3 dX2_readStatement_17 rfl (by decide) rfl ?_
          refine wp_iload_n (pc := 18) 3 dX2_readStatement_18 rfl rfl ?_
          refine wp_iconst (pc := 19) (-1) dX2_readStatement_19 (by decide) ?_
          refine wp_icmp_eq (pc := 20) 31 dX2_readStatement_20 (by decide) (fun c_20 => ?_) (fun c_20 => ?_)
          · exact absurd c_20 (by decide)
          · refine wp_aload_n (pc := 23) 2 dX2_readStatement_23 rfl rfl ?_
            refine wp_iload_n (pc := 24) 3 dX2_readStatement_24 rfl rfl ?_
            refine wc_S_RI (pc := 25) dX2_readStatement_25 lkX2_45 (by decide) (Nat.le_of_ble_eq_true rfl) ?_
            refine c_X2_hasNoRoom_4 ht hw hT ?_
            refine wp_ifeqB (pc := 28) 33 dX2_readStatement_28 (by decide) (fun c_28 => ?_) (fun c_28 => ?_)
            · have hno := c_28
              refine wp_aload_n (pc := 33) 0 dX2_readStatement_33 rfl rfl ?_
              refine wp_aload_n (pc := 34) 1 dX2_readStatement_34 rfl rfl ?_
              refine wc_V_R (pc := 35) dX2_readStatement_35 lkX2_31 (sm_Rc.o (ci := 1) s0_37 (by decide) (by decide)) (by decide) (Nat.le_of_ble_eq_true rfl) ?_
              refine c_X2_advance hP hz htp hR.2.2.1 (endk_le hq).2.1 (fun F1 hRR hg1 hf1 => ?_)
              have hb1 : q1 ≤ sz := by rw [hq1]; exact nxk_le hq
              have hR1 : RdS sz tp q1 F1 := by rw [hq1]; exact hRR
              have hT1 : Tw t f F1 I := hT.frame (fun a ha => hf1 a (by omega)) (fun _ _ _ => rfl)
              have hP1 : TpD sz tp F1 I := ⟨(congrFun (hf1 35 (by decide)) 0).trans (hP).1, (hP).2⟩
              have hm1 := nmk_lt (sz := sz) (q := q1) htp
              refine wp_iconst (pc := 38) (0) dX2_readStatement_38 (by decide) ?_
              refine wp_istore (pc := 39) 4 dX2_readStatement_39 (by decide) rfl ?_
              refine wp_iload (pc := 41) 4 dX2_readStatement_41 rfl ?_
              refine wp_iload_n (pc := 43) 3 dX2_readStatement_43 rfl rfl ?_
              refine wc_S_I (pc := 44) dX2_readStatement_44 lkX2_49 (by decide) (Nat.le_of_ble_eq_true rfl) ?_
              refine c_X2_countOf_4 ?_
              refine wp_icmp_ge (pc := 47) 99 dX2_readStatement_47 (by decide) (fun c_47 => ?_) (fun c_47 => ?_)
              · exact absurd c_47 (by decide)
              · refine wp_aload_n (pc := 50) 0 dX2_readStatement_50 rfl rfl ?_
                refine wq_getI (pc := 51) 15 1 dX2_readStatement_51 s0_37 flX2_15 rfl (by decide) ?_
                refine wp_int hR1.1 ?_
                refine wp_iconst (pc := 54) (2) dX2_readStatement_54 (by decide) ?_
                refine wp_icmp_ne (pc := 55) 73 dX2_readStatement_55 (by decide) (fun c_55 => ?_) (fun c_55 => ?_)
                · refine wp_iconst (pc := 73) (0) dX2_readStatement_73 (by decide) ?_
                  refine wp_iret (pc := 74) dX2_readStatement_74 ⟨_, rfl, by decide⟩ ?_
                  have hst : stm sz tp f q = (false, f, q1) := by rw [stm_w hf hno, ← hq1, stN1_f (show rdT sz tp q1 (lmW f 4 0 0) = false from rdT_1 (fun z => c_55 (by rw [z]; rfl)))]
                  rw [hst] at kk
                  exact kk _ _ hT1 hR1 hg1 (fun a _ => ⟨fun h3 => (hf1 a h3), fun h3 => rfl⟩)
                · have hs1 : srtk sz tp q1 = 2 := (nI_eq (b := 2) (by have := srtk_le (sz := sz) (tp := tp) (q := q1); omega) (by decide)).mp c_55
                  refine wp_aload_n (pc := 58) 0 dX2_readStatement_58 rfl rfl ?_
                  refine wq_getI (pc := 59) 24 4 dX2_readStatement_59 s0_37 flX2_24 rfl (by decide) ?_
                  refine wp_int (hR1.2.2.2 hs1) ?_
                  refine wp_aload_n (pc := 62) 0 dX2_readStatement_62 rfl rfl ?_
                  refine wp_aload_n (pc := 63) 2 dX2_readStatement_63 rfl rfl ?_
                  refine wp_iload_n (pc := 64) 3 dX2_readStatement_64 rfl rfl ?_
                  refine wp_iload (pc := 65) 4 dX2_readStatement_65 rfl ?_
                  refine wc_V_RII (pc := 67) dX2_readStatement_67 lkX2_53 (sm_Rc.o (ci := 1) s0_37 (by decide) (by decide)) (by decide) (Nat.le_of_ble_eq_true rfl) ?_
                  refine c_X2_mostOf_4_0 ht hw hT1 ?_
                  refine wp_icmp_le (pc := 70) 75 dX2_readStatement_70 (by decide) (fun c_70 => ?_) (fun c_70 => ?_)
                  · have hl1 : nmk sz tp q1 < (f 68) := (le_prd (L := (f 68)) (by omega) (by omega)).mp c_70
                    have hr1 : rdT sz tp q1 (lmW f 4 0 0) = true := rdT_t hs1 hl1
                    refine wp_aload_n (pc := 75) 0 dX2_readStatement_75 rfl rfl ?_
                    refine wq_getR (pc := 76) 27 5 dX2_readStatement_76 s0_37 flX2_27 rfl rfl (by decide) (by decide) ?_
                    refine wp_iload (pc := 79) 4 dX2_readStatement_79 rfl ?_
                    refine wp_aload_n (pc := 81) 0 dX2_readStatement_81 rfl rfl ?_
                    refine wq_getI (pc := 82) 24 4 dX2_readStatement_82 s0_37 flX2_24 rfl (by decide) ?_
                    refine wp_int (hR1.2.2.2 hs1) ?_
                    refine wc_SN_RII (pc := 85) dX2_readStatement_85 lkX2_57 (by decide) (Nat.le_of_ble_eq_true rfl) ?_
                    refine c_X6_put (n := 0) s0_38 (by decide) (by decide) (by decide) ?_
                    refine wp_aload_n (pc := 88) 0 dX2_readStatement_88 rfl rfl ?_
                    refine wp_aload_n (pc := 89) 1 dX2_readStatement_89 rfl rfl ?_
                    refine wc_V_R (pc := 90) dX2_readStatement_90 lkX2_31 (sm_Rc.o (ci := 1) s0_37 (by decide) (by decide)) (by decide) (Nat.le_of_ble_eq_true rfl) ?_
                    refine c_X2_advance (⟨hP1.1, fun j hj => (up_nk (by decide)).trans (hP1.2 j hj)⟩ : TpD sz tp F1 (sm_up I 38 0 (nI (nmk sz tp q1)))) hz htp hR1.2.2.1 (endk_le hb1).2.1 (fun F2 hRR hg2 hf2 => ?_)
                    have hb2 : q2 ≤ sz := by rw [hq2]; exact nxk_le hb1
                    have hR2 : RdS sz tp q2 F2 := by rw [hq2]; exact hRR
                    have hT2 : Tw t f F2 (sm_up I 38 0 (nI (nmk sz tp q1))) := hT1.frame (fun a ha => hf2 a (by omega)) (fun a h1 h2 => sm_up_ne (by omega))
                    have hP2 : TpD sz tp F2 (sm_up I 38 0 (nI (nmk sz tp q1))) := ⟨(congrFun (hf2 35 (by decide)) 0).trans ((⟨hP1.1, fun j hj => (up_nk (by decide)).trans (hP1.2 j hj)⟩ : TpD sz tp F1 (sm_up I 38 0 (nI (nmk sz tp q1))))).1, ((⟨hP1.1, fun j hj => (up_nk (by decide)).trans (hP1.2 j hj)⟩ : TpD sz tp F1 (sm_up I 38 0 (nI (nmk sz tp q1))))).2⟩
                    have hm2 := nmk_lt (sz := sz) (q := q2) htp
                    refine wp_incN (pc := 93) 4 dX2_readStatement_93 rfl (by decide) rfl ?_
                    refine wp_goto (pc := 96) 41 dX2_readStatement_96 (by decide) ?_
                    refine wp_iload (pc := 41) 4 dX2_readStatement_41 rfl ?_
                    refine wp_iload_n (pc := 43) 3 dX2_readStatement_43 rfl rfl ?_
                    refine wc_S_I (pc := 44) dX2_readStatement_44 lkX2_49 (by decide) (Nat.le_of_ble_eq_true rfl) ?_
                    refine c_X2_countOf_4 ?_
                    refine wp_icmp_ge (pc := 47) 99 dX2_readStatement_47 (by decide) (fun c_47 => ?_) (fun c_47 => ?_)
                    · refine wp_aload_n (pc := 99) 0 dX2_readStatement_99 rfl rfl ?_
                      refine wp_aload_n (pc := 100) 2 dX2_readStatement_100 rfl rfl ?_
                      refine wp_iload_n (pc := 101) 3 dX2_readStatement_101 rfl rfl ?_
                      refine wc_V_RI (pc := 102) dX2_readStatement_102 lkX2_61 (sm_Rc.o (ci := 1) s0_37 (by decide) (by decide)) (by decide) (Nat.le_of_ble_eq_true rfl) ?_
                      refine c_X2_carryOut_4 ht hw hT2 (a := nmk sz tp q1) (b := 0) (e := 0) (by simp [sm_up]) (by omega) (fun F9 I9 hT9 hf9 => ?_)
                      refine wp_iconst (pc := 105) (1) dX2_readStatement_105 (by decide) ?_
                      refine wp_iret (pc := 106) dX2_readStatement_106 ⟨_, rfl, by decide⟩ ?_
                      have hst : stm sz tp f q = (true, cry f 4 (nmk sz tp q1) 0 0, q2) := by rw [stm_w hf hno, ← hq1, stN1_1 hr1 (by decide), ← hq2]
                      rw [hst] at kk
                      have h37 := (hf9 37 (by omega)).1
                      exact kk _ _ hT9 (hR2.fr h37) ((congrFun h37 0).trans (hg2.trans hg1)) (fun a ha => ⟨fun h3 => (hf9 a ha).1.trans ((hf2 a h3).trans (hf1 a h3)), fun h3 => (hf9 a ha).2.trans (sm_up_ne h3)⟩)
                    · exact absurd (by decide) c_47
                  · refine wp_iconst (pc := 73) (0) dX2_readStatement_73 (by decide) ?_
                    refine wp_iret (pc := 74) dX2_readStatement_74 ⟨_, rfl, by decide⟩ ?_
                    have hst : stm sz tp f q = (false, f, q1) := by rw [stm_w hf hno, ← hq1, stN1_f (show rdT sz tp q1 (lmW f 4 0 0) = false from rdT_2 (L := (f 68)) (fun z => c_70 ((le_prd (L := (f 68)) (by omega) (by omega)).mpr z)))]
                    rw [hst] at kk
                    exact kk _ _ hT1 hR1 hg1 (fun a _ => ⟨fun h3 => (hf1 a h3), fun h3 => rfl⟩)
            · refine wp_iconst (pc := 31) (0) dX2_readStatement_31 (by decide) ?_
              refine wp_iret (pc := 32) dX2_readStatement_32 ⟨_, rfl, by decide⟩ ?_
              have hst : stm sz tp f q = (false, f, q) := by exact stm_r hf c_28
              rw [hst] at kk
              exact kk _ _ hT hR rfl (fun a _ => ⟨fun h3 => rfl, fun h3 => rfl⟩)
      · have hm0 := hw.n
        obtain ⟨q1, hq1⟩ : ∃ x, x = nxk sz tp q := ⟨_, rfl⟩
        obtain ⟨q2, hq2⟩ : ∃ x, x = nxk sz tp q1 := ⟨_, rfl⟩
        obtain ⟨q3, hq3⟩ : ∃ x, x = nxk sz tp q2 := ⟨_, rfl⟩
        obtain ⟨q4, hq4⟩ : ∃ x, x = nxk sz tp q3 := ⟨_, rfl⟩
        refine wp_aload_n (pc := 0) 0 dX2_readStatement_0 rfl rfl ?_
        refine wq_getI (pc := 1) 15 1 dX2_readStatement_1 s0_37 flX2_15 rfl (by decide) ?_
        refine wp_int (hR.1.trans (by rw [hk])) ?_
        refine wp_iconst (pc := 4) (1) dX2_readStatement_4 (by decide) ?_
        refine wp_icmp_ne (pc := 5) 16 dX2_readStatement_5 (by decide) (fun c_5 => ?_) (fun c_5 => ?_)
        · exact absurd (by decide) c_5
        · refine wp_aload_n (pc := 8) 0 dX2_readStatement_8 rfl rfl ?_
          refine wp_aload_n (pc := 9) 1 dX2_readStatement_9 rfl rfl ?_
          refine wc_V_R (pc := 10) dX2_readStatement_10 lkX2_41 (sm_Rc.o (ci := 1) s0_37 (by decide) (by decide)) (by decide) (Nat.le_of_ble_eq_true rfl) ?_
          refine c_X2_wordHere hP hz htp hR.2.1 hR.2.2.1 (endk_le hq).1 (endk_le hq).2.1 ?_
          refine wp_int (y := nI 5) (by rw [hf0]; rfl) ?_
          refine wp_goto (pc := 13) 17 dX2_readStatement_13 (by decide) ?_
          refine wp_istore_n (pc := 17) 3 dX2_readStatement_17 rfl (by decide) rfl ?_
          refine wp_iload_n (pc := 18) 3 dX2_readStatement_18 rfl rfl ?_
          refine wp_iconst (pc := 19) (-1) dX2_readStatement_19 (by decide) ?_
          refine wp_icmp_eq (pc := 20) 31 dX2_readStatement_20 (by decide) (fun c_20 => ?_) (fun c_20 => ?_)
          · exact absurd c_20 (by decide)
          · refine wp_aload_n (pc := 23) 2 dX2_readStatement_23 rfl rfl ?_
            refine wp_iload_n (pc := 24) 3 dX2_readStatement_24 rfl rfl ?_
            refine wc_S_RI (pc := 25) dX2_readStatement_25 lkX2_45 (by decide) (Nat.le_of_ble_eq_true rfl) ?_
            refine c_X2_hasNoRoom_5 ht hw hT ?_
            refine wp_ifeqB (pc := 28) 33 dX2_readStatement_28 (by decide) (fun c_28 => ?_) (fun c_28 => ?_)
            · have hno := c_28
              refine wp_aload_n (pc := 33) 0 dX2_readStatement_33 rfl rfl ?_
              refine wp_aload_n (pc := 34) 1 dX2_readStatement_34 rfl rfl ?_
              refine wc_V_R (pc := 35) dX2_readStatement_35 lkX2_31 (sm_Rc.o (ci := 1) s0_37 (by decide) (by decide)) (by decide) (Nat.le_of_ble_eq_true rfl) ?_
              refine c_X2_advance hP hz htp hR.2.2.1 (endk_le hq).2.1 (fun F1 hRR hg1 hf1 => ?_)
              have hb1 : q1 ≤ sz := by rw [hq1]; exact nxk_le hq
              have hR1 : RdS sz tp q1 F1 := by rw [hq1]; exact hRR
              have hT1 : Tw t f F1 I := hT.frame (fun a ha => hf1 a (by omega)) (fun _ _ _ => rfl)
              have hP1 : TpD sz tp F1 I := ⟨(congrFun (hf1 35 (by decide)) 0).trans (hP).1, (hP).2⟩
              have hm1 := nmk_lt (sz := sz) (q := q1) htp
              refine wp_iconst (pc := 38) (0) dX2_readStatement_38 (by decide) ?_
              refine wp_istore (pc := 39) 4 dX2_readStatement_39 (by decide) rfl ?_
              refine wp_iload (pc := 41) 4 dX2_readStatement_41 rfl ?_
              refine wp_iload_n (pc := 43) 3 dX2_readStatement_43 rfl rfl ?_
              refine wc_S_I (pc := 44) dX2_readStatement_44 lkX2_49 (by decide) (Nat.le_of_ble_eq_true rfl) ?_
              refine c_X2_countOf_5 ?_
              refine wp_icmp_ge (pc := 47) 99 dX2_readStatement_47 (by decide) (fun c_47 => ?_) (fun c_47 => ?_)
              · exact absurd c_47 (by decide)
              · refine wp_aload_n (pc := 50) 0 dX2_readStatement_50 rfl rfl ?_
                refine wq_getI (pc := 51) 15 1 dX2_readStatement_51 s0_37 flX2_15 rfl (by decide) ?_
                refine wp_int hR1.1 ?_
                refine wp_iconst (pc := 54) (2) dX2_readStatement_54 (by decide) ?_
                refine wp_icmp_ne (pc := 55) 73 dX2_readStatement_55 (by decide) (fun c_55 => ?_) (fun c_55 => ?_)
                · refine wp_iconst (pc := 73) (0) dX2_readStatement_73 (by decide) ?_
                  refine wp_iret (pc := 74) dX2_readStatement_74 ⟨_, rfl, by decide⟩ ?_
                  have hst : stm sz tp f q = (false, f, q1) := by rw [stm_w hf hno, ← hq1, stN1_f (show rdT sz tp q1 (lmW f 5 0 0) = false from rdT_1 (fun z => c_55 (by rw [z]; rfl)))]
                  rw [hst] at kk
                  exact kk _ _ hT1 hR1 hg1 (fun a _ => ⟨fun h3 => (hf1 a h3), fun h3 => rfl⟩)
                · have hs1 : srtk sz tp q1 = 2 := (nI_eq (b := 2) (by have := srtk_le (sz := sz) (tp := tp) (q := q1); omega) (by decide)).mp c_55
                  refine wp_aload_n (pc := 58) 0 dX2_readStatement_58 rfl rfl ?_
                  refine wq_getI (pc := 59) 24 4 dX2_readStatement_59 s0_37 flX2_24 rfl (by decide) ?_
                  refine wp_int (hR1.2.2.2 hs1) ?_
                  refine wp_aload_n (pc := 62) 0 dX2_readStatement_62 rfl rfl ?_
                  refine wp_aload_n (pc := 63) 2 dX2_readStatement_63 rfl rfl ?_
                  refine wp_iload_n (pc := 64) 3 dX2_readStatement_64 rfl rfl ?_
                  refine wp_iload (pc := 65) 4 dX2_readStatement_65 rfl ?_
                  refine wc_V_RII (pc := 67) dX2_readStatement_67 lkX2_53 (sm_Rc.o (ci := 1) s0_37 (by decide) (by decide)) (by decide) (Nat.le_of_ble_eq_true rfl) ?_
                  refine c_X2_mostOf_5_0 ht hw hT1 ?_
                  refine wp_icmp_le (pc := 70) 75 dX2_readStatement_70 (by decide) (fun c_70 => ?_) (fun c_70 => ?_)
                  · have hl1 : nmk sz tp q1 < 6 := (le_prd (L := 6) (by omega) (by omega)).mp c_70
                    have hr1 : rdT sz tp q1 (lmW f 5 0 0) = true := rdT_t hs1 hl1
                    refine wp_aload_n (pc := 75) 0 dX2_readStatement_75 rfl rfl ?_
                    refine wq_getR (pc := 76) 27 5 dX2_readStatement_76 s0_37 flX2_27 rfl rfl (by decide) (by decide) ?_
                    refine wp_iload (pc := 79) 4 dX2_readStatement_79 rfl ?_
                    refine wp_aload_n (pc := 81) 0 dX2_readStatement_81 rfl rfl ?_
                    refine wq_getI (pc := 82) 24 4 dX2_readStatement_82 s0_37 flX2_24 rfl (by decide) ?_
                    refine wp_int (hR1.2.2.2 hs1) ?_
                    refine wc_SN_RII (pc := 85) dX2_readStatement_85 lkX2_57 (by decide) (Nat.le_of_ble_eq_true rfl) ?_
                    refine c_X6_put (n := 0) s0_38 (by decide) (by decide) (by decide) ?_
                    refine wp_aload_n (pc := 88) 0 dX2_readStatement_88 rfl rfl ?_
                    refine wp_aload_n (pc := 89) 1 dX2_readStatement_89 rfl rfl ?_
                    refine wc_V_R (pc := 90) dX2_readStatement_90 lkX2_31 (sm_Rc.o (ci := 1) s0_37 (by decide) (by decide)) (by decide) (Nat.le_of_ble_eq_true rfl) ?_
                    refine c_X2_advance (⟨hP1.1, fun j hj => (up_nk (by decide)).trans (hP1.2 j hj)⟩ : TpD sz tp F1 (sm_up I 38 0 (nI (nmk sz tp q1)))) hz htp hR1.2.2.1 (endk_le hb1).2.1 (fun F2 hRR hg2 hf2 => ?_)
                    have hb2 : q2 ≤ sz := by rw [hq2]; exact nxk_le hb1
                    have hR2 : RdS sz tp q2 F2 := by rw [hq2]; exact hRR
                    have hT2 : Tw t f F2 (sm_up I 38 0 (nI (nmk sz tp q1))) := hT1.frame (fun a ha => hf2 a (by omega)) (fun a h1 h2 => sm_up_ne (by omega))
                    have hP2 : TpD sz tp F2 (sm_up I 38 0 (nI (nmk sz tp q1))) := ⟨(congrFun (hf2 35 (by decide)) 0).trans ((⟨hP1.1, fun j hj => (up_nk (by decide)).trans (hP1.2 j hj)⟩ : TpD sz tp F1 (sm_up I 38 0 (nI (nmk sz tp q1))))).1, ((⟨hP1.1, fun j hj => (up_nk (by decide)).trans (hP1.2 j hj)⟩ : TpD sz tp F1 (sm_up I 38 0 (nI (nmk sz tp q1))))).2⟩
                    have hm2 := nmk_lt (sz := sz) (q := q2) htp
                    refine wp_incN (pc := 93) 4 dX2_readStatement_93 rfl (by decide) rfl ?_
                    refine wp_goto (pc := 96) 41 dX2_readStatement_96 (by decide) ?_
                    refine wp_iload (pc := 41) 4 dX2_readStatement_41 rfl ?_
                    refine wp_iload_n (pc := 43) 3 dX2_readStatement_43 rfl rfl ?_
                    refine wc_S_I (pc := 44) dX2_readStatement_44 lkX2_49 (by decide) (Nat.le_of_ble_eq_true rfl) ?_
                    refine c_X2_countOf_5 ?_
                    refine wp_icmp_ge (pc := 47) 99 dX2_readStatement_47 (by decide) (fun c_47 => ?_) (fun c_47 => ?_)
                    · exact absurd c_47 (by decide)
                    · refine wp_aload_n (pc := 50) 0 dX2_readStatement_50 rfl rfl ?_
                      refine wq_getI (pc := 51) 15 1 dX2_readStatement_51 s0_37 flX2_15 rfl (by decide) ?_
                      refine wp_int hR2.1 ?_
                      refine wp_iconst (pc := 54) (2) dX2_readStatement_54 (by decide) ?_
                      refine wp_icmp_ne (pc := 55) 73 dX2_readStatement_55 (by decide) (fun c_55 => ?_) (fun c_55 => ?_)
                      · refine wp_iconst (pc := 73) (0) dX2_readStatement_73 (by decide) ?_
                        refine wp_iret (pc := 74) dX2_readStatement_74 ⟨_, rfl, by decide⟩ ?_
                        have hst : stm sz tp f q = (false, f, q2) := by rw [stm_w hf hno, ← hq1, stN1_2 hr1 (by decide), ← hq2, stN2_f (show rdT sz tp q2 (lmW f 5 1 (nmk sz tp q1)) = false from rdT_1 (fun z => c_55 (by rw [z]; rfl)))]
                        rw [hst] at kk
                        exact kk _ _ hT2 hR2 (hg2.trans hg1) (fun a _ => ⟨fun h3 => ((hf2 a h3).trans (hf1 a h3)), fun h3 => (sm_up_ne h3)⟩)
                      · have hs2 : srtk sz tp q2 = 2 := (nI_eq (b := 2) (by have := srtk_le (sz := sz) (tp := tp) (q := q2); omega) (by decide)).mp c_55
                        refine wp_aload_n (pc := 58) 0 dX2_readStatement_58 rfl rfl ?_
                        refine wq_getI (pc := 59) 24 4 dX2_readStatement_59 s0_37 flX2_24 rfl (by decide) ?_
                        refine wp_int (hR2.2.2.2 hs2) ?_
                        refine wp_aload_n (pc := 62) 0 dX2_readStatement_62 rfl rfl ?_
                        refine wp_aload_n (pc := 63) 2 dX2_readStatement_63 rfl rfl ?_
                        refine wp_iload_n (pc := 64) 3 dX2_readStatement_64 rfl rfl ?_
                        refine wp_iload (pc := 65) 4 dX2_readStatement_65 rfl ?_
                        refine wc_V_RII (pc := 67) dX2_readStatement_67 lkX2_53 (sm_Rc.o (ci := 1) s0_37 (by decide) (by decide)) (by decide) (Nat.le_of_ble_eq_true rfl) ?_
                        refine c_X2_mostOf_5_1 ht hw hT2 ?_
                        refine wp_icmp_le (pc := 70) 75 dX2_readStatement_70 (by decide) (fun c_70 => ?_) (fun c_70 => ?_)
                        · have hl2 : nmk sz tp q2 < 10 := (le_prd (L := 10) (by omega) (by omega)).mp c_70
                          have hr2 : rdT sz tp q2 (lmW f 5 1 (nmk sz tp q1)) = true := rdT_t hs2 hl2
                          refine wp_aload_n (pc := 75) 0 dX2_readStatement_75 rfl rfl ?_
                          refine wq_getR (pc := 76) 27 5 dX2_readStatement_76 s0_37 flX2_27 rfl rfl (by decide) (by decide) ?_
                          refine wp_iload (pc := 79) 4 dX2_readStatement_79 rfl ?_
                          refine wp_aload_n (pc := 81) 0 dX2_readStatement_81 rfl rfl ?_
                          refine wq_getI (pc := 82) 24 4 dX2_readStatement_82 s0_37 flX2_24 rfl (by decide) ?_
                          refine wp_int (hR2.2.2.2 hs2) ?_
                          refine wc_SN_RII (pc := 85) dX2_readStatement_85 lkX2_57 (by decide) (Nat.le_of_ble_eq_true rfl) ?_
                          refine c_X6_put (n := 1) s0_38 (by decide) (by decide) (by decide) ?_
                          refine wp_aload_n (pc := 88) 0 dX2_readStatement_88 rfl rfl ?_
                          refine wp_aload_n (pc := 89) 1 dX2_readStatement_89 rfl rfl ?_
                          refine wc_V_R (pc := 90) dX2_readStatement_90 lkX2_31 (sm_Rc.o (ci := 1) s0_37 (by decide) (by decide)) (by decide) (Nat.le_of_ble_eq_true rfl) ?_
                          refine c_X2_advance (⟨hP2.1, fun j hj => (up_nk (by decide)).trans (hP2.2 j hj)⟩ : TpD sz tp F2 (sm_up (sm_up I 38 0 (nI (nmk sz tp q1))) 38 1 (nI (nmk sz tp q2)))) hz htp hR2.2.2.1 (endk_le hb2).2.1 (fun F3 hRR hg3 hf3 => ?_)
                          have hb3 : q3 ≤ sz := by rw [hq3]; exact nxk_le hb2
                          have hR3 : RdS sz tp q3 F3 := by rw [hq3]; exact hRR
                          have hT3 : Tw t f F3 (sm_up (sm_up I 38 0 (nI (nmk sz tp q1))) 38 1 (nI (nmk sz tp q2))) := hT2.frame (fun a ha => hf3 a (by omega)) (fun a h1 h2 => sm_up_ne (by omega))
                          have hP3 : TpD sz tp F3 (sm_up (sm_up I 38 0 (nI (nmk sz tp q1))) 38 1 (nI (nmk sz tp q2))) := ⟨(congrFun (hf3 35 (by decide)) 0).trans ((⟨hP2.1, fun j hj => (up_nk (by decide)).trans (hP2.2 j hj)⟩ : TpD sz tp F2 (sm_up (sm_up I 38 0 (nI (nmk sz tp q1))) 38 1 (nI (nmk sz tp q2))))).1, ((⟨hP2.1, fun j hj => (up_nk (by decide)).trans (hP2.2 j hj)⟩ : TpD sz tp F2 (sm_up (sm_up I 38 0 (nI (nmk sz tp q1))) 38 1 (nI (nmk sz tp q2))))).2⟩
                          have hm3 := nmk_lt (sz := sz) (q := q3) htp
                          refine wp_incN (pc := 93) 4 dX2_readStatement_93 rfl (by decide) rfl ?_
                          refine wp_goto (pc := 96) 41 dX2_readStatement_96 (by decide) ?_
                          refine wp_iload (pc := 41) 4 dX2_readStatement_41 rfl ?_
                          refine wp_iload_n (pc := 43) 3 dX2_readStatement_43 rfl rfl ?_
                          refine wc_S_I (pc := 44) dX2_readStatement_44 lkX2_49 (by decide) (Nat.le_of_ble_eq_true rfl) ?_
                          refine c_X2_countOf_5 ?_
                          refine wp_icmp_ge (pc := 47) 99 dX2_readStatement_47 (by decide) (fun c_47 => ?_) (fun c_47 => ?_)
                          · exact absurd c_47 (by decide)
                          · refine wp_aload_n (pc := 50) 0 dX2_readStatement_50 rfl rfl ?_
                            refine wq_getI (pc := 51) 15 1 dX2_readStatement_51 s0_37 flX2_15 rfl (by decide) ?_
                            refine wp_int hR3.1 ?_
                            refine wp_iconst (pc := 54) (2) dX2_readStatement_54 (by decide) ?_
                            refine wp_icmp_ne (pc := 55) 73 dX2_readStatement_55 (by decide) (fun c_55 => ?_) (fun c_55 => ?_)
                            · refine wp_iconst (pc := 73) (0) dX2_readStatement_73 (by decide) ?_
                              refine wp_iret (pc := 74) dX2_readStatement_74 ⟨_, rfl, by decide⟩ ?_
                              have hst : stm sz tp f q = (false, f, q3) := by rw [stm_w hf hno, ← hq1, stN1_2 hr1 (by decide), ← hq2, stN2_3 hr2 (by decide), ← hq3, stN3_f (show rdT sz tp q3 (lmW f 5 2 (nmk sz tp q1)) = false from rdT_1 (fun z => c_55 (by rw [z]; rfl)))]
                              rw [hst] at kk
                              exact kk _ _ hT3 hR3 (hg3.trans (hg2.trans hg1)) (fun a _ => ⟨fun h3 => ((hf3 a h3).trans ((hf2 a h3).trans (hf1 a h3))), fun h3 => ((sm_up_ne h3).trans (sm_up_ne h3))⟩)
                            · have hs3 : srtk sz tp q3 = 2 := (nI_eq (b := 2) (by have := srtk_le (sz := sz) (tp := tp) (q := q3); omega) (by decide)).mp c_55
                              refine wp_aload_n (pc := 58) 0 dX2_readStatement_58 rfl rfl ?_
                              refine wq_getI (pc := 59) 24 4 dX2_readStatement_59 s0_37 flX2_24 rfl (by decide) ?_
                              refine wp_int (hR3.2.2.2 hs3) ?_
                              refine wp_aload_n (pc := 62) 0 dX2_readStatement_62 rfl rfl ?_
                              refine wp_aload_n (pc := 63) 2 dX2_readStatement_63 rfl rfl ?_
                              refine wp_iload_n (pc := 64) 3 dX2_readStatement_64 rfl rfl ?_
                              refine wp_iload (pc := 65) 4 dX2_readStatement_65 rfl ?_
                              refine wc_V_RII (pc := 67) dX2_readStatement_67 lkX2_53 (sm_Rc.o (ci := 1) s0_37 (by decide) (by decide)) (by decide) (Nat.le_of_ble_eq_true rfl) ?_
                              refine c_X2_mostOf_5_2 ht hw hT3 ?_
                              refine wp_icmp_le (pc := 70) 75 dX2_readStatement_70 (by decide) (fun c_70 => ?_) (fun c_70 => ?_)
                              · have hl3 : nmk sz tp q3 < 8 := (le_prd (L := 8) (by omega) (by omega)).mp c_70
                                have hr3 : rdT sz tp q3 (lmW f 5 2 (nmk sz tp q1)) = true := rdT_t hs3 hl3
                                refine wp_aload_n (pc := 75) 0 dX2_readStatement_75 rfl rfl ?_
                                refine wq_getR (pc := 76) 27 5 dX2_readStatement_76 s0_37 flX2_27 rfl rfl (by decide) (by decide) ?_
                                refine wp_iload (pc := 79) 4 dX2_readStatement_79 rfl ?_
                                refine wp_aload_n (pc := 81) 0 dX2_readStatement_81 rfl rfl ?_
                                refine wq_getI (pc := 82) 24 4 dX2_readStatement_82 s0_37 flX2_24 rfl (by decide) ?_
                                refine wp_int (hR3.2.2.2 hs3) ?_
                                refine wc_SN_RII (pc := 85) dX2_readStatement_85 lkX2_57 (by decide) (Nat.le_of_ble_eq_true rfl) ?_
                                refine c_X6_put (n := 2) s0_38 (by decide) (by decide) (by decide) ?_
                                refine wp_aload_n (pc := 88) 0 dX2_readStatement_88 rfl rfl ?_
                                refine wp_aload_n (pc := 89) 1 dX2_readStatement_89 rfl rfl ?_
                                refine wc_V_R (pc := 90) dX2_readStatement_90 lkX2_31 (sm_Rc.o (ci := 1) s0_37 (by decide) (by decide)) (by decide) (Nat.le_of_ble_eq_true rfl) ?_
                                refine c_X2_advance (⟨hP3.1, fun j hj => (up_nk (by decide)).trans (hP3.2 j hj)⟩ : TpD sz tp F3 (sm_up (sm_up (sm_up I 38 0 (nI (nmk sz tp q1))) 38 1 (nI (nmk sz tp q2))) 38 2 (nI (nmk sz tp q3)))) hz htp hR3.2.2.1 (endk_le hb3).2.1 (fun F4 hRR hg4 hf4 => ?_)
                                have hb4 : q4 ≤ sz := by rw [hq4]; exact nxk_le hb3
                                have hR4 : RdS sz tp q4 F4 := by rw [hq4]; exact hRR
                                have hT4 : Tw t f F4 (sm_up (sm_up (sm_up I 38 0 (nI (nmk sz tp q1))) 38 1 (nI (nmk sz tp q2))) 38 2 (nI (nmk sz tp q3))) := hT3.frame (fun a ha => hf4 a (by omega)) (fun a h1 h2 => sm_up_ne (by omega))
                                have hP4 : TpD sz tp F4 (sm_up (sm_up (sm_up I 38 0 (nI (nmk sz tp q1))) 38 1 (nI (nmk sz tp q2))) 38 2 (nI (nmk sz tp q3))) := ⟨(congrFun (hf4 35 (by decide)) 0).trans ((⟨hP3.1, fun j hj => (up_nk (by decide)).trans (hP3.2 j hj)⟩ : TpD sz tp F3 (sm_up (sm_up (sm_up I 38 0 (nI (nmk sz tp q1))) 38 1 (nI (nmk sz tp q2))) 38 2 (nI (nmk sz tp q3))))).1, ((⟨hP3.1, fun j hj => (up_nk (by decide)).trans (hP3.2 j hj)⟩ : TpD sz tp F3 (sm_up (sm_up (sm_up I 38 0 (nI (nmk sz tp q1))) 38 1 (nI (nmk sz tp q2))) 38 2 (nI (nmk sz tp q3))))).2⟩
                                have hm4 := nmk_lt (sz := sz) (q := q4) htp
                                refine wp_incN (pc := 93) 4 dX2_readStatement_93 rfl (by decide) rfl ?_
                                refine wp_goto (pc := 96) 41 dX2_readStatement_96 (by decide) ?_
                                refine wp_iload (pc := 41) 4 dX2_readStatement_41 rfl ?_
                                refine wp_iload_n (pc := 43) 3 dX2_readStatement_43 rfl rfl ?_
                                refine wc_S_I (pc := 44) dX2_readStatement_44 lkX2_49 (by decide) (Nat.le_of_ble_eq_true rfl) ?_
                                refine c_X2_countOf_5 ?_
                                refine wp_icmp_ge (pc := 47) 99 dX2_readStatement_47 (by decide) (fun c_47 => ?_) (fun c_47 => ?_)
                                · refine wp_aload_n (pc := 99) 0 dX2_readStatement_99 rfl rfl ?_
                                  refine wp_aload_n (pc := 100) 2 dX2_readStatement_100 rfl rfl ?_
                                  refine wp_iload_n (pc := 101) 3 dX2_readStatement_101 rfl rfl ?_
                                  refine wc_V_RI (pc := 102) dX2_readStatement_102 lkX2_61 (sm_Rc.o (ci := 1) s0_37 (by decide) (by decide)) (by decide) (Nat.le_of_ble_eq_true rfl) ?_
                                  refine c_X2_carryOut_5 ht hw hT4 (a := nmk sz tp q1) (b := nmk sz tp q2) (e := nmk sz tp q3) (by simp [sm_up]) (by simp [sm_up]) (by simp [sm_up]) (Nat.lt_of_not_le fun z => by simp [noRm, Nat.not_lt.mpr z] at hno) (fun F9 I9 hT9 hf9 => ?_)
                                  refine wp_iconst (pc := 105) (1) dX2_readStatement_105 (by decide) ?_
                                  refine wp_iret (pc := 106) dX2_readStatement_106 ⟨_, rfl, by decide⟩ ?_
                                  have hst : stm sz tp f q = (true, cry f 5 (nmk sz tp q1) (nmk sz tp q2) (nmk sz tp q3), q4) := by rw [stm_w hf hno, ← hq1, stN1_2 hr1 (by decide), ← hq2, stN2_3 hr2 (by decide), ← hq3, stN3_t hr3, ← hq4]
                                  rw [hst] at kk
                                  have h37 := (hf9 37 (by omega)).1
                                  exact kk _ _ hT9 (hR4.fr h37) ((congrFun h37 0).trans (hg4.trans (hg3.trans (hg2.trans hg1)))) (fun a ha => ⟨fun h3 => (hf9 a ha).1.trans ((hf4 a h3).trans ((hf3 a h3).trans ((hf2 a h3).trans (hf1 a h3)))), fun h3 => (hf9 a ha).2.trans ((sm_up_ne h3).trans ((sm_up_ne h3).trans (sm_up_ne h3)))⟩)
                                · exact absurd (by decide) c_47
                              · refine wp_iconst (pc := 73) (0) dX2_readStatement_73 (by decide) ?_
                                refine wp_iret (pc := 74) dX2_readStatement_74 ⟨_, rfl, by decide⟩ ?_
                                have hst : stm sz tp f q = (false, f, q3) := by rw [stm_w hf hno, ← hq1, stN1_2 hr1 (by decide), ← hq2, stN2_3 hr2 (by decide), ← hq3, stN3_f (show rdT sz tp q3 (lmW f 5 2 (nmk sz tp q1)) = false from rdT_2 (L := 8) (fun z => c_70 ((le_prd (L := 8) (by omega) (by omega)).mpr z)))]
                                rw [hst] at kk
                                exact kk _ _ hT3 hR3 (hg3.trans (hg2.trans hg1)) (fun a _ => ⟨fun h3 => ((hf3 a h3).trans ((hf2 a h3).trans (hf1 a h3))), fun h3 => ((sm_up_ne h3).trans (sm_up_ne h3))⟩)
                        · refine wp_iconst (pc := 73) (0) dX2_readStatement_73 (by decide) ?_
                          refine wp_iret (pc := 74) dX2_readStatement_74 ⟨_, rfl, by decide⟩ ?_
                          have hst : stm sz tp f q = (false, f, q2) := by rw [stm_w hf hno, ← hq1, stN1_2 hr1 (by decide), ← hq2, stN2_f (show rdT sz tp q2 (lmW f 5 1 (nmk sz tp q1)) = false from rdT_2 (L := 10) (fun z => c_70 ((le_prd (L := 10) (by omega) (by omega)).mpr z)))]
                          rw [hst] at kk
                          exact kk _ _ hT2 hR2 (hg2.trans hg1) (fun a _ => ⟨fun h3 => ((hf2 a h3).trans (hf1 a h3)), fun h3 => (sm_up_ne h3)⟩)
                  · refine wp_iconst (pc := 73) (0) dX2_readStatement_73 (by decide) ?_
                    refine wp_iret (pc := 74) dX2_readStatement_74 ⟨_, rfl, by decide⟩ ?_
                    have hst : stm sz tp f q = (false, f, q1) := by rw [stm_w hf hno, ← hq1, stN1_f (show rdT sz tp q1 (lmW f 5 0 0) = false from rdT_2 (L := 6) (fun z => c_70 ((le_prd (L := 6) (by omega) (by omega)).mpr z)))]
                    rw [hst] at kk
                    exact kk _ _ hT1 hR1 hg1 (fun a _ => ⟨fun h3 => (hf1 a h3), fun h3 => rfl⟩)
            · refine wp_iconst (pc := 31) (0) dX2_readStatement_31 (by decide) ?_
              refine wp_iret (pc := 32) dX2_readStatement_32 ⟨_, rfl, by decide⟩ ?_
              have hst : stm sz tp f q = (false, f, q) := by exact stm_r hf c_28
              rw [hst] at kk
              exact kk _ _ hT hR rfl (fun a _ => ⟨fun h3 => rfl, fun h3 => rfl⟩)
      · have hm0 := hw.n
        obtain ⟨q1, hq1⟩ : ∃ x, x = nxk sz tp q := ⟨_, rfl⟩
        obtain ⟨q2, hq2⟩ : ∃ x, x = nxk sz tp q1 := ⟨_, rfl⟩
        refine wp_aload_n (pc := 0) 0 dX2_readStatement_0 rfl rfl ?_
        refine wq_getI (pc := 1) 15 1 dX2_readStatement_1 s0_37 flX2_15 rfl (by decide) ?_
        refine wp_int (hR.1.trans (by rw [hk])) ?_
        refine wp_iconst (pc := 4) (1) dX2_readStatement_4 (by decide) ?_
        refine wp_icmp_ne (pc := 5) 16 dX2_readStatement_5 (by decide) (fun c_5 => ?_) (fun c_5 => ?_)
        · exact absurd (by decide) c_5
        · refine wp_aload_n (pc := 8) 0 dX2_readStatement_8 rfl rfl ?_
          refine wp_aload_n (pc := 9) 1 dX2_readStatement_9 rfl rfl ?_
          refine wc_V_R (pc := 10) dX2_readStatement_10 lkX2_41 (sm_Rc.o (ci := 1) s0_37 (by decide) (by decide)) (by decide) (Nat.le_of_ble_eq_true rfl) ?_
          refine c_X2_wordHere hP hz htp hR.2.1 hR.2.2.1 (endk_le hq).1 (endk_le hq).2.1 ?_
          refine wp_int (y := nI 6) (by rw [hf0]; rfl) ?_
          refine wp_goto (pc := 13) 17 dX2_readStatement_13 (by decide) ?_
          refine wp_istore_n (pc := 17) 3 dX2_readStatement_17 rfl (by decide) rfl ?_
          refine wp_iload_n (pc := 18) 3 dX2_readStatement_18 rfl rfl ?_
          refine wp_iconst (pc := 19) (-1) dX2_readStatement_19 (by decide) ?_
          refine wp_icmp_eq (pc := 20) 31 dX2_readStatement_20 (by decide) (fun c_20 => ?_) (fun c_20 => ?_)
          · exact absurd c_20 (by decide)
          · refine wp_aload_n (pc := 23) 2 dX2_readStatement_23 rfl rfl ?_
            refine wp_iload_n (pc := 24) 3 dX2_readStatement_24 rfl rfl ?_
            refine wc_S_RI (pc := 25) dX2_readStatement_25 lkX2_45 (by decide) (Nat.le_of_ble_eq_true rfl) ?_
            refine c_X2_hasNoRoom_6 ht hw hT ?_
            refine wp_ifeqB (pc := 28) 33 dX2_readStatement_28 (by decide) (fun c_28 => ?_) (fun c_28 => ?_)
            · have hno := c_28
              refine wp_aload_n (pc := 33) 0 dX2_readStatement_33 rfl rfl ?_
              refine wp_aload_n (pc := 34) 1 dX2_readStatement_34 rfl rfl ?_
              refine wc_V_R (pc := 35) dX2_readStatement_35 lkX2_31 (sm_Rc.o (ci := 1) s0_37 (by decide) (by decide)) (by decide) (Nat.le_of_ble_eq_true rfl) ?_
              refine c_X2_advance hP hz htp hR.2.2.1 (endk_le hq).2.1 (fun F1 hRR hg1 hf1 => ?_)
              have hb1 : q1 ≤ sz := by rw [hq1]; exact nxk_le hq
              have hR1 : RdS sz tp q1 F1 := by rw [hq1]; exact hRR
              have hT1 : Tw t f F1 I := hT.frame (fun a ha => hf1 a (by omega)) (fun _ _ _ => rfl)
              have hP1 : TpD sz tp F1 I := ⟨(congrFun (hf1 35 (by decide)) 0).trans (hP).1, (hP).2⟩
              have hm1 := nmk_lt (sz := sz) (q := q1) htp
              refine wp_iconst (pc := 38) (0) dX2_readStatement_38 (by decide) ?_
              refine wp_istore (pc := 39) 4 dX2_readStatement_39 (by decide) rfl ?_
              refine wp_iload (pc := 41) 4 dX2_readStatement_41 rfl ?_
              refine wp_iload_n (pc := 43) 3 dX2_readStatement_43 rfl rfl ?_
              refine wc_S_I (pc := 44) dX2_readStatement_44 lkX2_49 (by decide) (Nat.le_of_ble_eq_true rfl) ?_
              refine c_X2_countOf_6 ?_
              refine wp_icmp_ge (pc := 47) 99 dX2_readStatement_47 (by decide) (fun c_47 => ?_) (fun c_47 => ?_)
              · exact absurd c_47 (by decide)
              · refine wp_aload_n (pc := 50) 0 dX2_readStatement_50 rfl rfl ?_
                refine wq_getI (pc := 51) 15 1 dX2_readStatement_51 s0_37 flX2_15 rfl (by decide) ?_
                refine wp_int hR1.1 ?_
                refine wp_iconst (pc := 54) (2) dX2_readStatement_54 (by decide) ?_
                refine wp_icmp_ne (pc := 55) 73 dX2_readStatement_55 (by decide) (fun c_55 => ?_) (fun c_55 => ?_)
                · refine wp_iconst (pc := 73) (0) dX2_readStatement_73 (by decide) ?_
                  refine wp_iret (pc := 74) dX2_readStatement_74 ⟨_, rfl, by decide⟩ ?_
                  have hst : stm sz tp f q = (false, f, q1) := by rw [stm_w hf hno, ← hq1, stN1_f (show rdT sz tp q1 (lmW f 6 0 0) = false from rdT_1 (fun z => c_55 (by rw [z]; rfl)))]
                  rw [hst] at kk
                  exact kk _ _ hT1 hR1 hg1 (fun a _ => ⟨fun h3 => (hf1 a h3), fun h3 => rfl⟩)
                · have hs1 : srtk sz tp q1 = 2 := (nI_eq (b := 2) (by have := srtk_le (sz := sz) (tp := tp) (q := q1); omega) (by decide)).mp c_55
                  refine wp_aload_n (pc := 58) 0 dX2_readStatement_58 rfl rfl ?_
                  refine wq_getI (pc := 59) 24 4 dX2_readStatement_59 s0_37 flX2_24 rfl (by decide) ?_
                  refine wp_int (hR1.2.2.2 hs1) ?_
                  refine wp_aload_n (pc := 62) 0 dX2_readStatement_62 rfl rfl ?_
                  refine wp_aload_n (pc := 63) 2 dX2_readStatement_63 rfl rfl ?_
                  refine wp_iload_n (pc := 64) 3 dX2_readStatement_64 rfl rfl ?_
                  refine wp_iload (pc := 65) 4 dX2_readStatement_65 rfl ?_
                  refine wc_V_RII (pc := 67) dX2_readStatement_67 lkX2_53 (sm_Rc.o (ci := 1) s0_37 (by decide) (by decide)) (by decide) (Nat.le_of_ble_eq_true rfl) ?_
                  refine c_X2_mostOf_6_0 ht hw hT1 ?_
                  refine wp_icmp_le (pc := 70) 75 dX2_readStatement_70 (by decide) (fun c_70 => ?_) (fun c_70 => ?_)
                  · have hl1 : nmk sz tp q1 < 4 := (le_prd (L := 4) (by omega) (by omega)).mp c_70
                    have hr1 : rdT sz tp q1 (lmW f 6 0 0) = true := rdT_t hs1 hl1
                    refine wp_aload_n (pc := 75) 0 dX2_readStatement_75 rfl rfl ?_
                    refine wq_getR (pc := 76) 27 5 dX2_readStatement_76 s0_37 flX2_27 rfl rfl (by decide) (by decide) ?_
                    refine wp_iload (pc := 79) 4 dX2_readStatement_79 rfl ?_
                    refine wp_aload_n (pc := 81) 0 dX2_readStatement_81 rfl rfl ?_
                    refine wq_getI (pc := 82) 24 4 dX2_readStatement_82 s0_37 flX2_24 rfl (by decide) ?_
                    refine wp_int (hR1.2.2.2 hs1) ?_
                    refine wc_SN_RII (pc := 85) dX2_readStatement_85 lkX2_57 (by decide) (Nat.le_of_ble_eq_true rfl) ?_
                    refine c_X6_put (n := 0) s0_38 (by decide) (by decide) (by decide) ?_
                    refine wp_aload_n (pc := 88) 0 dX2_readStatement_88 rfl rfl ?_
                    refine wp_aload_n (pc := 89) 1 dX2_readStatement_89 rfl rfl ?_
                    refine wc_V_R (pc := 90) dX2_readStatement_90 lkX2_31 (sm_Rc.o (ci := 1) s0_37 (by decide) (by decide)) (by decide) (Nat.le_of_ble_eq_true rfl) ?_
                    refine c_X2_advance (⟨hP1.1, fun j hj => (up_nk (by decide)).trans (hP1.2 j hj)⟩ : TpD sz tp F1 (sm_up I 38 0 (nI (nmk sz tp q1)))) hz htp hR1.2.2.1 (endk_le hb1).2.1 (fun F2 hRR hg2 hf2 => ?_)
                    have hb2 : q2 ≤ sz := by rw [hq2]; exact nxk_le hb1
                    have hR2 : RdS sz tp q2 F2 := by rw [hq2]; exact hRR
                    have hT2 : Tw t f F2 (sm_up I 38 0 (nI (nmk sz tp q1))) := hT1.frame (fun a ha => hf2 a (by omega)) (fun a h1 h2 => sm_up_ne (by omega))
                    have hP2 : TpD sz tp F2 (sm_up I 38 0 (nI (nmk sz tp q1))) := ⟨(congrFun (hf2 35 (by decide)) 0).trans ((⟨hP1.1, fun j hj => (up_nk (by decide)).trans (hP1.2 j hj)⟩ : TpD sz tp F1 (sm_up I 38 0 (nI (nmk sz tp q1))))).1, ((⟨hP1.1, fun j hj => (up_nk (by decide)).trans (hP1.2 j hj)⟩ : TpD sz tp F1 (sm_up I 38 0 (nI (nmk sz tp q1))))).2⟩
                    have hm2 := nmk_lt (sz := sz) (q := q2) htp
                    refine wp_incN (pc := 93) 4 dX2_readStatement_93 rfl (by decide) rfl ?_
                    refine wp_goto (pc := 96) 41 dX2_readStatement_96 (by decide) ?_
                    refine wp_iload (pc := 41) 4 dX2_readStatement_41 rfl ?_
                    refine wp_iload_n (pc := 43) 3 dX2_readStatement_43 rfl rfl ?_
                    refine wc_S_I (pc := 44) dX2_readStatement_44 lkX2_49 (by decide) (Nat.le_of_ble_eq_true rfl) ?_
                    refine c_X2_countOf_6 ?_
                    refine wp_icmp_ge (pc := 47) 99 dX2_readStatement_47 (by decide) (fun c_47 => ?_) (fun c_47 => ?_)
                    · refine wp_aload_n (pc := 99) 0 dX2_readStatement_99 rfl rfl ?_
                      refine wp_aload_n (pc := 100) 2 dX2_readStatement_100 rfl rfl ?_
                      refine wp_iload_n (pc := 101) 3 dX2_readStatement_101 rfl rfl ?_
                      refine wc_V_RI (pc := 102) dX2_readStatement_102 lkX2_61 (sm_Rc.o (ci := 1) s0_37 (by decide) (by decide)) (by decide) (Nat.le_of_ble_eq_true rfl) ?_
                      refine c_X2_carryOut_6 ht hw hT2 (a := nmk sz tp q1) (b := 0) (e := 0) (by simp [sm_up]) (fun F9 I9 hT9 hf9 => ?_)
                      refine wp_iconst (pc := 105) (1) dX2_readStatement_105 (by decide) ?_
                      refine wp_iret (pc := 106) dX2_readStatement_106 ⟨_, rfl, by decide⟩ ?_
                      have hst : stm sz tp f q = (true, cry f 6 (nmk sz tp q1) 0 0, q2) := by rw [stm_w hf hno, ← hq1, stN1_1 hr1 (by decide), ← hq2]
                      rw [hst] at kk
                      have h37 := (hf9 37 (by omega)).1
                      exact kk _ _ hT9 (hR2.fr h37) ((congrFun h37 0).trans (hg2.trans hg1)) (fun a ha => ⟨fun h3 => (hf9 a ha).1.trans ((hf2 a h3).trans (hf1 a h3)), fun h3 => (hf9 a ha).2.trans (sm_up_ne h3)⟩)
                    · exact absurd (by decide) c_47
                  · refine wp_iconst (pc := 73) (0) dX2_readStatement_73 (by decide) ?_
                    refine wp_iret (pc := 74) dX2_readStatement_74 ⟨_, rfl, by decide⟩ ?_
                    have hst : stm sz tp f q = (false, f, q1) := by rw [stm_w hf hno, ← hq1, stN1_f (show rdT sz tp q1 (lmW f 6 0 0) = false from rdT_2 (L := 4) (fun z => c_70 ((le_prd (L := 4) (by omega) (by omega)).mpr z)))]
                    rw [hst] at kk
                    exact kk _ _ hT1 hR1 hg1 (fun a _ => ⟨fun h3 => (hf1 a h3), fun h3 => rfl⟩)
            · refine wp_iconst (pc := 31) (0) dX2_readStatement_31 (by decide) ?_
              refine wp_iret (pc := 32) dX2_readStatement_32 ⟨_, rfl, by decide⟩ ?_
              have hst : stm sz tp f q = (false, f, q) := by exact stm_r hf c_28
              rw [hst] at kk
              exact kk _ _ hT hR rfl (fun a _ => ⟨fun h3 => rfl, fun h3 => rfl⟩)
      · have hm0 := hw.n
        obtain ⟨q1, hq1⟩ : ∃ x, x = nxk sz tp q := ⟨_, rfl⟩
        obtain ⟨q2, hq2⟩ : ∃ x, x = nxk sz tp q1 := ⟨_, rfl⟩
        refine wp_aload_n (pc := 0) 0 dX2_readStatement_0 rfl rfl ?_
        refine wq_getI (pc := 1) 15 1 dX2_readStatement_1 s0_37 flX2_15 rfl (by decide) ?_
        refine wp_int (hR.1.trans (by rw [hk])) ?_
        refine wp_iconst (pc := 4) (1) dX2_readStatement_4 (by decide) ?_
        refine wp_icmp_ne (pc := 5) 16 dX2_readStatement_5 (by decide) (fun c_5 => ?_) (fun c_5 => ?_)
        · exact absurd (by decide) c_5
        · refine wp_aload_n (pc := 8) 0 dX2_readStatement_8 rfl rfl ?_
          refine wp_aload_n (pc := 9) 1 dX2_readStatement_9 rfl rfl ?_
          refine wc_V_R (pc := 10) dX2_readStatement_10 lkX2_41 (sm_Rc.o (ci := 1) s0_37 (by decide) (by decide)) (by decide) (Nat.le_of_ble_eq_true rfl) ?_
          refine c_X2_wordHere hP hz htp hR.2.1 hR.2.2.1 (endk_le hq).1 (endk_le hq).2.1 ?_
          refine wp_int (y := nI 7) (by rw [hf0]; rfl) ?_
          refine wp_goto (pc := 13) 17 dX2_readStatement_13 (by decide) ?_
          refine wp_istore_n (pc := 17) 3 dX2_readStatement_17 rfl (by decide) rfl ?_
          refine wp_iload_n (pc := 18) 3 dX2_readStatement_18 rfl rfl ?_
          refine wp_iconst (pc := 19) (-1) dX2_readStatement_19 (by decide) ?_
          refine wp_icmp_eq (pc := 20) 31 dX2_readStatement_20 (by decide) (fun c_20 => ?_) (fun c_20 => ?_)
          · exact absurd c_20 (by decide)
          · refine wp_aload_n (pc := 23) 2 dX2_readStatement_23 rfl rfl ?_
            refine wp_iload_n (pc := 24) 3 dX2_readStatement_24 rfl rfl ?_
            refine wc_S_RI (pc := 25) dX2_readStatement_25 lkX2_45 (by decide) (Nat.le_of_ble_eq_true rfl) ?_
            refine c_X2_hasNoRoom_7 ht hw hT ?_
            refine wp_ifeqB (pc := 28) 33 dX2_readStatement_28 (by decide) (fun c_28 => ?_) (fun c_28 => ?_)
            · have hno := c_28
              refine wp_aload_n (pc := 33) 0 dX2_readStatement_33 rfl rfl ?_
              refine wp_aload_n (pc := 34) 1 dX2_readStatement_34 rfl rfl ?_
              refine wc_V_R (pc := 35) dX2_readStatement_35 lkX2_31 (sm_Rc.o (ci := 1) s0_37 (by decide) (by decide)) (by decide) (Nat.le_of_ble_eq_true rfl) ?_
              refine c_X2_advance hP hz htp hR.2.2.1 (endk_le hq).2.1 (fun F1 hRR hg1 hf1 => ?_)
              have hb1 : q1 ≤ sz := by rw [hq1]; exact nxk_le hq
              have hR1 : RdS sz tp q1 F1 := by rw [hq1]; exact hRR
              have hT1 : Tw t f F1 I := hT.frame (fun a ha => hf1 a (by omega)) (fun _ _ _ => rfl)
              have hP1 : TpD sz tp F1 I := ⟨(congrFun (hf1 35 (by decide)) 0).trans (hP).1, (hP).2⟩
              have hm1 := nmk_lt (sz := sz) (q := q1) htp
              refine wp_iconst (pc := 38) (0) dX2_readStatement_38 (by decide) ?_
              refine wp_istore (pc := 39) 4 dX2_readStatement_39 (by decide) rfl ?_
              refine wp_iload (pc := 41) 4 dX2_readStatement_41 rfl ?_
              refine wp_iload_n (pc := 43) 3 dX2_readStatement_43 rfl rfl ?_
              refine wc_S_I (pc := 44) dX2_readStatement_44 lkX2_49 (by decide) (Nat.le_of_ble_eq_true rfl) ?_
              refine c_X2_countOf_7 ?_
              refine wp_icmp_ge (pc := 47) 99 dX2_readStatement_47 (by decide) (fun c_47 => ?_) (fun c_47 => ?_)
              · exact absurd c_47 (by decide)
              · refine wp_aload_n (pc := 50) 0 dX2_readStatement_50 rfl rfl ?_
                refine wq_getI (pc := 51) 15 1 dX2_readStatement_51 s0_37 flX2_15 rfl (by decide) ?_
                refine wp_int hR1.1 ?_
                refine wp_iconst (pc := 54) (2) dX2_readStatement_54 (by decide) ?_
                refine wp_icmp_ne (pc := 55) 73 dX2_readStatement_55 (by decide) (fun c_55 => ?_) (fun c_55 => ?_)
                · refine wp_iconst (pc := 73) (0) dX2_readStatement_73 (by decide) ?_
                  refine wp_iret (pc := 74) dX2_readStatement_74 ⟨_, rfl, by decide⟩ ?_
                  have hst : stm sz tp f q = (false, f, q1) := by rw [stm_w hf hno, ← hq1, stN1_f (show rdT sz tp q1 (lmW f 7 0 0) = false from rdT_1 (fun z => c_55 (by rw [z]; rfl)))]
                  rw [hst] at kk
                  exact kk _ _ hT1 hR1 hg1 (fun a _ => ⟨fun h3 => (hf1 a h3), fun h3 => rfl⟩)
                · have hs1 : srtk sz tp q1 = 2 := (nI_eq (b := 2) (by have := srtk_le (sz := sz) (tp := tp) (q := q1); omega) (by decide)).mp c_55
                  refine wp_aload_n (pc := 58) 0 dX2_readStatement_58 rfl rfl ?_
                  refine wq_getI (pc := 59) 24 4 dX2_readStatement_59 s0_37 flX2_24 rfl (by decide) ?_
                  refine wp_int (hR1.2.2.2 hs1) ?_
                  refine wp_aload_n (pc := 62) 0 dX2_readStatement_62 rfl rfl ?_
                  refine wp_aload_n (pc := 63) 2 dX2_readStatement_63 rfl rfl ?_
                  refine wp_iload_n (pc := 64) 3 dX2_readStatement_64 rfl rfl ?_
                  refine wp_iload (pc := 65) 4 dX2_readStatement_65 rfl ?_
                  refine wc_V_RII (pc := 67) dX2_readStatement_67 lkX2_53 (sm_Rc.o (ci := 1) s0_37 (by decide) (by decide)) (by decide) (Nat.le_of_ble_eq_true rfl) ?_
                  refine c_X2_mostOf_7_0 ht hw hT1 ?_
                  refine wp_icmp_le (pc := 70) 75 dX2_readStatement_70 (by decide) (fun c_70 => ?_) (fun c_70 => ?_)
                  · have hl1 : nmk sz tp q1 < 8 := (le_prd (L := 8) (by omega) (by omega)).mp c_70
                    have hr1 : rdT sz tp q1 (lmW f 7 0 0) = true := rdT_t hs1 hl1
                    refine wp_aload_n (pc := 75) 0 dX2_readStatement_75 rfl rfl ?_
                    refine wq_getR (pc := 76) 27 5 dX2_readStatement_76 s0_37 flX2_27 rfl rfl (by decide) (by decide) ?_
                    refine wp_iload (pc := 79) 4 dX2_readStatement_79 rfl ?_
                    refine wp_aload_n (pc := 81) 0 dX2_readStatement_81 rfl rfl ?_
                    refine wq_getI (pc := 82) 24 4 dX2_readStatement_82 s0_37 flX2_24 rfl (by decide) ?_
                    refine wp_int (hR1.2.2.2 hs1) ?_
                    refine wc_SN_RII (pc := 85) dX2_readStatement_85 lkX2_57 (by decide) (Nat.le_of_ble_eq_true rfl) ?_
                    refine c_X6_put (n := 0) s0_38 (by decide) (by decide) (by decide) ?_
                    refine wp_aload_n (pc := 88) 0 dX2_readStatement_88 rfl rfl ?_
                    refine wp_aload_n (pc := 89) 1 dX2_readStatement_89 rfl rfl ?_
                    refine wc_V_R (pc := 90) dX2_readStatement_90 lkX2_31 (sm_Rc.o (ci := 1) s0_37 (by decide) (by decide)) (by decide) (Nat.le_of_ble_eq_true rfl) ?_
                    refine c_X2_advance (⟨hP1.1, fun j hj => (up_nk (by decide)).trans (hP1.2 j hj)⟩ : TpD sz tp F1 (sm_up I 38 0 (nI (nmk sz tp q1)))) hz htp hR1.2.2.1 (endk_le hb1).2.1 (fun F2 hRR hg2 hf2 => ?_)
                    have hb2 : q2 ≤ sz := by rw [hq2]; exact nxk_le hb1
                    have hR2 : RdS sz tp q2 F2 := by rw [hq2]; exact hRR
                    have hT2 : Tw t f F2 (sm_up I 38 0 (nI (nmk sz tp q1))) := hT1.frame (fun a ha => hf2 a (by omega)) (fun a h1 h2 => sm_up_ne (by omega))
                    have hP2 : TpD sz tp F2 (sm_up I 38 0 (nI (nmk sz tp q1))) := ⟨(congrFun (hf2 35 (by decide)) 0).trans ((⟨hP1.1, fun j hj => (up_nk (by decide)).trans (hP1.2 j hj)⟩ : TpD sz tp F1 (sm_up I 38 0 (nI (nmk sz tp q1))))).1, ((⟨hP1.1, fun j hj => (up_nk (by decide)).trans (hP1.2 j hj)⟩ : TpD sz tp F1 (sm_up I 38 0 (nI (nmk sz tp q1))))).2⟩
                    have hm2 := nmk_lt (sz := sz) (q := q2) htp
                    refine wp_incN (pc := 93) 4 dX2_readStatement_93 rfl (by decide) rfl ?_
                    refine wp_goto (pc := 96) 41 dX2_readStatement_96 (by decide) ?_
                    refine wp_iload (pc := 41) 4 dX2_readStatement_41 rfl ?_
                    refine wp_iload_n (pc := 43) 3 dX2_readStatement_43 rfl rfl ?_
                    refine wc_S_I (pc := 44) dX2_readStatement_44 lkX2_49 (by decide) (Nat.le_of_ble_eq_true rfl) ?_
                    refine c_X2_countOf_7 ?_
                    refine wp_icmp_ge (pc := 47) 99 dX2_readStatement_47 (by decide) (fun c_47 => ?_) (fun c_47 => ?_)
                    · refine wp_aload_n (pc := 99) 0 dX2_readStatement_99 rfl rfl ?_
                      refine wp_aload_n (pc := 100) 2 dX2_readStatement_100 rfl rfl ?_
                      refine wp_iload_n (pc := 101) 3 dX2_readStatement_101 rfl rfl ?_
                      refine wc_V_RI (pc := 102) dX2_readStatement_102 lkX2_61 (sm_Rc.o (ci := 1) s0_37 (by decide) (by decide)) (by decide) (Nat.le_of_ble_eq_true rfl) ?_
                      refine c_X2_carryOut_7 ht hw hT2 (a := nmk sz tp q1) (b := 0) (e := 0) (by simp [sm_up]) hl1 (fun F9 I9 hT9 hf9 => ?_)
                      refine wp_iconst (pc := 105) (1) dX2_readStatement_105 (by decide) ?_
                      refine wp_iret (pc := 106) dX2_readStatement_106 ⟨_, rfl, by decide⟩ ?_
                      have hst : stm sz tp f q = (true, cry f 7 (nmk sz tp q1) 0 0, q2) := by rw [stm_w hf hno, ← hq1, stN1_1 hr1 (by decide), ← hq2]
                      rw [hst] at kk
                      have h37 := (hf9 37 (by omega)).1
                      exact kk _ _ hT9 (hR2.fr h37) ((congrFun h37 0).trans (hg2.trans hg1)) (fun a ha => ⟨fun h3 => (hf9 a ha).1.trans ((hf2 a h3).trans (hf1 a h3)), fun h3 => (hf9 a ha).2.trans (sm_up_ne h3)⟩)
                    · exact absurd (by decide) c_47
                  · refine wp_iconst (pc := 73) (0) dX2_readStatement_73 (by decide) ?_
                    refine wp_iret (pc := 74) dX2_readStatement_74 ⟨_, rfl, by decide⟩ ?_
                    have hst : stm sz tp f q = (false, f, q1) := by rw [stm_w hf hno, ← hq1, stN1_f (show rdT sz tp q1 (lmW f 7 0 0) = false from rdT_2 (L := 8) (fun z => c_70 ((le_prd (L := 8) (by omega) (by omega)).mpr z)))]
                    rw [hst] at kk
                    exact kk _ _ hT1 hR1 hg1 (fun a _ => ⟨fun h3 => (hf1 a h3), fun h3 => rfl⟩)
            · refine wp_iconst (pc := 31) (0) dX2_readStatement_31 (by decide) ?_
              refine wp_iret (pc := 32) dX2_readStatement_32 ⟨_, rfl, by decide⟩ ?_
              have hst : stm sz tp f q = (false, f, q) := by exact stm_r hf c_28
              rw [hst] at kk
              exact kk _ _ hT hR rfl (fun a _ => ⟨fun h3 => rfl, fun h3 => rfl⟩)
      · have hm0 := hw.n
        obtain ⟨q1, hq1⟩ : ∃ x, x = nxk sz tp q := ⟨_, rfl⟩
        obtain ⟨q2, hq2⟩ : ∃ x, x = nxk sz tp q1 := ⟨_, rfl⟩
        refine wp_aload_n (pc := 0) 0 dX2_readStatement_0 rfl rfl ?_
        refine wq_getI (pc := 1) 15 1 dX2_readStatement_1 s0_37 flX2_15 rfl (by decide) ?_
        refine wp_int (hR.1.trans (by rw [hk])) ?_
        refine wp_iconst (pc := 4) (1) dX2_readStatement_4 (by decide) ?_
        refine wp_icmp_ne (pc := 5) 16 dX2_readStatement_5 (by decide) (fun c_5 => ?_) (fun c_5 => ?_)
        · exact absurd (by decide) c_5
        · refine wp_aload_n (pc := 8) 0 dX2_readStatement_8 rfl rfl ?_
          refine wp_aload_n (pc := 9) 1 dX2_readStatement_9 rfl rfl ?_
          refine wc_V_R (pc := 10) dX2_readStatement_10 lkX2_41 (sm_Rc.o (ci := 1) s0_37 (by decide) (by decide)) (by decide) (Nat.le_of_ble_eq_true rfl) ?_
          refine c_X2_wordHere hP hz htp hR.2.1 hR.2.2.1 (endk_le hq).1 (endk_le hq).2.1 ?_
          refine wp_int (y := nI 8) (by rw [hf0]; rfl) ?_
          refine wp_goto (pc := 13) 17 dX2_readStatement_13 (by decide) ?_
          refine wp_istore_n (pc := 17) 3 dX2_readStatement_17 rfl (by decide) rfl ?_
          refine wp_iload_n (pc := 18) 3 dX2_readStatement_18 rfl rfl ?_
          refine wp_iconst (pc := 19) (-1) dX2_readStatement_19 (by decide) ?_
          refine wp_icmp_eq (pc := 20) 31 dX2_readStatement_20 (by decide) (fun c_20 => ?_) (fun c_20 => ?_)
          · exact absurd c_20 (by decide)
          · refine wp_aload_n (pc := 23) 2 dX2_readStatement_23 rfl rfl ?_
            refine wp_iload_n (pc := 24) 3 dX2_readStatement_24 rfl rfl ?_
            refine wc_S_RI (pc := 25) dX2_readStatement_25 lkX2_45 (by decide) (Nat.le_of_ble_eq_true rfl) ?_
            refine c_X2_hasNoRoom_8 ht hw hT ?_
            refine wp_ifeqB (pc := 28) 33 dX2_readStatement_28 (by decide) (fun c_28 => ?_) (fun c_28 => ?_)
            · have hno := c_28
              refine wp_aload_n (pc := 33) 0 dX2_readStatement_33 rfl rfl ?_
              refine wp_aload_n (pc := 34) 1 dX2_readStatement_34 rfl rfl ?_
              refine wc_V_R (pc := 35) dX2_readStatement_35 lkX2_31 (sm_Rc.o (ci := 1) s0_37 (by decide) (by decide)) (by decide) (Nat.le_of_ble_eq_true rfl) ?_
              refine c_X2_advance hP hz htp hR.2.2.1 (endk_le hq).2.1 (fun F1 hRR hg1 hf1 => ?_)
              have hb1 : q1 ≤ sz := by rw [hq1]; exact nxk_le hq
              have hR1 : RdS sz tp q1 F1 := by rw [hq1]; exact hRR
              have hT1 : Tw t f F1 I := hT.frame (fun a ha => hf1 a (by omega)) (fun _ _ _ => rfl)
              have hP1 : TpD sz tp F1 I := ⟨(congrFun (hf1 35 (by decide)) 0).trans (hP).1, (hP).2⟩
              have hm1 := nmk_lt (sz := sz) (q := q1) htp
              refine wp_iconst (pc := 38) (0) dX2_readStatement_38 (by decide) ?_
              refine wp_istore (pc := 39) 4 dX2_readStatement_39 (by decide) rfl ?_
              refine wp_iload (pc := 41) 4 dX2_readStatement_41 rfl ?_
              refine wp_iload_n (pc := 43) 3 dX2_readStatement_43 rfl rfl ?_
              refine wc_S_I (pc := 44) dX2_readStatement_44 lkX2_49 (by decide) (Nat.le_of_ble_eq_true rfl) ?_
              refine c_X2_countOf_8 ?_
              refine wp_icmp_ge (pc := 47) 99 dX2_readStatement_47 (by decide) (fun c_47 => ?_) (fun c_47 => ?_)
              · exact absurd c_47 (by decide)
              · refine wp_aload_n (pc := 50) 0 dX2_readStatement_50 rfl rfl ?_
                refine wq_getI (pc := 51) 15 1 dX2_readStatement_51 s0_37 flX2_15 rfl (by decide) ?_
                refine wp_int hR1.1 ?_
                refine wp_iconst (pc := 54) (2) dX2_readStatement_54 (by decide) ?_
                refine wp_icmp_ne (pc := 55) 73 dX2_readStatement_55 (by decide) (fun c_55 => ?_) (fun c_55 => ?_)
                · refine wp_iconst (pc := 73) (0) dX2_readStatement_73 (by decide) ?_
                  refine wp_iret (pc := 74) dX2_readStatement_74 ⟨_, rfl, by decide⟩ ?_
                  have hst : stm sz tp f q = (false, f, q1) := by rw [stm_w hf hno, ← hq1, stN1_f (show rdT sz tp q1 (lmW f 8 0 0) = false from rdT_1 (fun z => c_55 (by rw [z]; rfl)))]
                  rw [hst] at kk
                  exact kk _ _ hT1 hR1 hg1 (fun a _ => ⟨fun h3 => (hf1 a h3), fun h3 => rfl⟩)
                · have hs1 : srtk sz tp q1 = 2 := (nI_eq (b := 2) (by have := srtk_le (sz := sz) (tp := tp) (q := q1); omega) (by decide)).mp c_55
                  refine wp_aload_n (pc := 58) 0 dX2_readStatement_58 rfl rfl ?_
                  refine wq_getI (pc := 59) 24 4 dX2_readStatement_59 s0_37 flX2_24 rfl (by decide) ?_
                  refine wp_int (hR1.2.2.2 hs1) ?_
                  refine wp_aload_n (pc := 62) 0 dX2_readStatement_62 rfl rfl ?_
                  refine wp_aload_n (pc := 63) 2 dX2_readStatement_63 rfl rfl ?_
                  refine wp_iload_n (pc := 64) 3 dX2_readStatement_64 rfl rfl ?_
                  refine wp_iload (pc := 65) 4 dX2_readStatement_65 rfl ?_
                  refine wc_V_RII (pc := 67) dX2_readStatement_67 lkX2_53 (sm_Rc.o (ci := 1) s0_37 (by decide) (by decide)) (by decide) (Nat.le_of_ble_eq_true rfl) ?_
                  refine c_X2_mostOf_8_0 ht hw hT1 ?_
                  refine wp_icmp_le (pc := 70) 75 dX2_readStatement_70 (by decide) (fun c_70 => ?_) (fun c_70 => ?_)
                  · have hl1 : nmk sz tp q1 < 8 := (le_prd (L := 8) (by omega) (by omega)).mp c_70
                    have hr1 : rdT sz tp q1 (lmW f 8 0 0) = true := rdT_t hs1 hl1
                    refine wp_aload_n (pc := 75) 0 dX2_readStatement_75 rfl rfl ?_
                    refine wq_getR (pc := 76) 27 5 dX2_readStatement_76 s0_37 flX2_27 rfl rfl (by decide) (by decide) ?_
                    refine wp_iload (pc := 79) 4 dX2_readStatement_79 rfl ?_
                    refine wp_aload_n (pc := 81) 0 dX2_readStatement_81 rfl rfl ?_
                    refine wq_getI (pc := 82) 24 4 dX2_readStatement_82 s0_37 flX2_24 rfl (by decide) ?_
                    refine wp_int (hR1.2.2.2 hs1) ?_
                    refine wc_SN_RII (pc := 85) dX2_readStatement_85 lkX2_57 (by decide) (Nat.le_of_ble_eq_true rfl) ?_
                    refine c_X6_put (n := 0) s0_38 (by decide) (by decide) (by decide) ?_
                    refine wp_aload_n (pc := 88) 0 dX2_readStatement_88 rfl rfl ?_
                    refine wp_aload_n (pc := 89) 1 dX2_readStatement_89 rfl rfl ?_
                    refine wc_V_R (pc := 90) dX2_readStatement_90 lkX2_31 (sm_Rc.o (ci := 1) s0_37 (by decide) (by decide)) (by decide) (Nat.le_of_ble_eq_true rfl) ?_
                    refine c_X2_advance (⟨hP1.1, fun j hj => (up_nk (by decide)).trans (hP1.2 j hj)⟩ : TpD sz tp F1 (sm_up I 38 0 (nI (nmk sz tp q1)))) hz htp hR1.2.2.1 (endk_le hb1).2.1 (fun F2 hRR hg2 hf2 => ?_)
                    have hb2 : q2 ≤ sz := by rw [hq2]; exact nxk_le hb1
                    have hR2 : RdS sz tp q2 F2 := by rw [hq2]; exact hRR
                    have hT2 : Tw t f F2 (sm_up I 38 0 (nI (nmk sz tp q1))) := hT1.frame (fun a ha => hf2 a (by omega)) (fun a h1 h2 => sm_up_ne (by omega))
                    have hP2 : TpD sz tp F2 (sm_up I 38 0 (nI (nmk sz tp q1))) := ⟨(congrFun (hf2 35 (by decide)) 0).trans ((⟨hP1.1, fun j hj => (up_nk (by decide)).trans (hP1.2 j hj)⟩ : TpD sz tp F1 (sm_up I 38 0 (nI (nmk sz tp q1))))).1, ((⟨hP1.1, fun j hj => (up_nk (by decide)).trans (hP1.2 j hj)⟩ : TpD sz tp F1 (sm_up I 38 0 (nI (nmk sz tp q1))))).2⟩
                    have hm2 := nmk_lt (sz := sz) (q := q2) htp
                    refine wp_incN (pc := 93) 4 dX2_readStatement_93 rfl (by decide) rfl ?_
                    refine wp_goto (pc := 96) 41 dX2_readStatement_96 (by decide) ?_
                    refine wp_iload (pc := 41) 4 dX2_readStatement_41 rfl ?_
                    refine wp_iload_n (pc := 43) 3 dX2_readStatement_43 rfl rfl ?_
                    refine wc_S_I (pc := 44) dX2_readStatement_44 lkX2_49 (by decide) (Nat.le_of_ble_eq_true rfl) ?_
                    refine c_X2_countOf_8 ?_
                    refine wp_icmp_ge (pc := 47) 99 dX2_readStatement_47 (by decide) (fun c_47 => ?_) (fun c_47 => ?_)
                    · refine wp_aload_n (pc := 99) 0 dX2_readStatement_99 rfl rfl ?_
                      refine wp_aload_n (pc := 100) 2 dX2_readStatement_100 rfl rfl ?_
                      refine wp_iload_n (pc := 101) 3 dX2_readStatement_101 rfl rfl ?_
                      refine wc_V_RI (pc := 102) dX2_readStatement_102 lkX2_61 (sm_Rc.o (ci := 1) s0_37 (by decide) (by decide)) (by decide) (Nat.le_of_ble_eq_true rfl) ?_
                      refine c_X2_carryOut_8 ht hw hT2 (a := nmk sz tp q1) (b := 0) (e := 0) (by simp [sm_up]) hl1 (fun F9 I9 hT9 hf9 => ?_)
                      refine wp_iconst (pc := 105) (1) dX2_readStatement_105 (by decide) ?_
                      refine wp_iret (pc := 106) dX2_readStatement_106 ⟨_, rfl, by decide⟩ ?_
                      have hst : stm sz tp f q = (true, cry f 8 (nmk sz tp q1) 0 0, q2) := by rw [stm_w hf hno, ← hq1, stN1_1 hr1 (by decide), ← hq2]
                      rw [hst] at kk
                      have h37 := (hf9 37 (by omega)).1
                      exact kk _ _ hT9 (hR2.fr h37) ((congrFun h37 0).trans (hg2.trans hg1)) (fun a ha => ⟨fun h3 => (hf9 a ha).1.trans ((hf2 a h3).trans (hf1 a h3)), fun h3 => (hf9 a ha).2.trans (sm_up_ne h3)⟩)
                    · exact absurd (by decide) c_47
                  · refine wp_iconst (pc := 73) (0) dX2_readStatement_73 (by decide) ?_
                    refine wp_iret (pc := 74) dX2_readStatement_74 ⟨_, rfl, by decide⟩ ?_
                    have hst : stm sz tp f q = (false, f, q1) := by rw [stm_w hf hno, ← hq1, stN1_f (show rdT sz tp q1 (lmW f 8 0 0) = false from rdT_2 (L := 8) (fun z => c_70 ((le_prd (L := 8) (by omega) (by omega)).mpr z)))]
                    rw [hst] at kk
                    exact kk _ _ hT1 hR1 hg1 (fun a _ => ⟨fun h3 => (hf1 a h3), fun h3 => rfl⟩)
            · refine wp_iconst (pc := 31) (0) dX2_readStatement_31 (by decide) ?_
              refine wp_iret (pc := 32) dX2_readStatement_32 ⟨_, rfl, by decide⟩ ?_
              have hst : stm sz tp f q = (false, f, q) := by exact stm_r hf c_28
              rw [hst] at kk
              exact kk _ _ hT hR rfl (fun a _ => ⟨fun h3 => rfl, fun h3 => rfl⟩)
      · have hm0 := hw.n
        obtain ⟨q1, hq1⟩ : ∃ x, x = nxk sz tp q := ⟨_, rfl⟩
        obtain ⟨q2, hq2⟩ : ∃ x, x = nxk sz tp q1 := ⟨_, rfl⟩
        refine wp_aload_n (pc := 0) 0 dX2_readStatement_0 rfl rfl ?_
        refine wq_getI (pc := 1) 15 1 dX2_readStatement_1 s0_37 flX2_15 rfl (by decide) ?_
        refine wp_int (hR.1.trans (by rw [hk])) ?_
        refine wp_iconst (pc := 4) (1) dX2_readStatement_4 (by decide) ?_
        refine wp_icmp_ne (pc := 5) 16 dX2_readStatement_5 (by decide) (fun c_5 => ?_) (fun c_5 => ?_)
        · exact absurd (by decide) c_5
        · refine wp_aload_n (pc := 8) 0 dX2_readStatement_8 rfl rfl ?_
          refine wp_aload_n (pc := 9) 1 dX2_readStatement_9 rfl rfl ?_
          refine wc_V_R (pc := 10) dX2_readStatement_10 lkX2_41 (sm_Rc.o (ci := 1) s0_37 (by decide) (by decide)) (by decide) (Nat.le_of_ble_eq_true rfl) ?_
          refine c_X2_wordHere hP hz htp hR.2.1 hR.2.2.1 (endk_le hq).1 (endk_le hq).2.1 ?_
          refine wp_int (y := nI 9) (by rw [hf0]; rfl) ?_
          refine wp_goto (pc := 13) 17 dX2_readStatement_13 (by decide) ?_
          refine wp_istore_n (pc := 17) 3 dX2_readStatement_17 rfl (by decide) rfl ?_
          refine wp_iload_n (pc := 18) 3 dX2_readStatement_18 rfl rfl ?_
          refine wp_iconst (pc := 19) (-1) dX2_readStatement_19 (by decide) ?_
          refine wp_icmp_eq (pc := 20) 31 dX2_readStatement_20 (by decide) (fun c_20 => ?_) (fun c_20 => ?_)
          · exact absurd c_20 (by decide)
          · refine wp_aload_n (pc := 23) 2 dX2_readStatement_23 rfl rfl ?_
            refine wp_iload_n (pc := 24) 3 dX2_readStatement_24 rfl rfl ?_
            refine wc_S_RI (pc := 25) dX2_readStatement_25 lkX2_45 (by decide) (Nat.le_of_ble_eq_true rfl) ?_
            refine c_X2_hasNoRoom_9 ht hw hT ?_
            refine wp_ifeqB (pc := 28) 33 dX2_readStatement_28 (by decide) (fun c_28 => ?_) (fun c_28 => ?_)
            · have hno := c_28
              refine wp_aload_n (pc := 33) 0 dX2_readStatement_33 rfl rfl ?_
              refine wp_aload_n (pc := 34) 1 dX2_readStatement_34 rfl rfl ?_
              refine wc_V_R (pc := 35) dX2_readStatement_35 lkX2_31 (sm_Rc.o (ci := 1) s0_37 (by decide) (by decide)) (by decide) (Nat.le_of_ble_eq_true rfl) ?_
              refine c_X2_advance hP hz htp hR.2.2.1 (endk_le hq).2.1 (fun F1 hRR hg1 hf1 => ?_)
              have hb1 : q1 ≤ sz := by rw [hq1]; exact nxk_le hq
              have hR1 : RdS sz tp q1 F1 := by rw [hq1]; exact hRR
              have hT1 : Tw t f F1 I := hT.frame (fun a ha => hf1 a (by omega)) (fun _ _ _ => rfl)
              have hP1 : TpD sz tp F1 I := ⟨(congrFun (hf1 35 (by decide)) 0).trans (hP).1, (hP).2⟩
              have hm1 := nmk_lt (sz := sz) (q := q1) htp
              refine wp_iconst (pc := 38) (0) dX2_readStatement_38 (by decide) ?_
              refine wp_istore (pc := 39) 4 dX2_readStatement_39 (by decide) rfl ?_
              refine wp_iload (pc := 41) 4 dX2_readStatement_41 rfl ?_
              refine wp_iload_n (pc := 43) 3 dX2_readStatement_43 rfl rfl ?_
              refine wc_S_I (pc := 44) dX2_readStatement_44 lkX2_49 (by decide) (Nat.le_of_ble_eq_true rfl) ?_
              refine c_X2_countOf_9 ?_
              refine wp_icmp_ge (pc := 47) 99 dX2_readStatement_47 (by decide) (fun c_47 => ?_) (fun c_47 => ?_)
              · exact absurd c_47 (by decide)
              · refine wp_aload_n (pc := 50) 0 dX2_readStatement_50 rfl rfl ?_
                refine wq_getI (pc := 51) 15 1 dX2_readStatement_51 s0_37 flX2_15 rfl (by decide) ?_
                refine wp_int hR1.1 ?_
                refine wp_iconst (pc := 54) (2) dX2_readStatement_54 (by decide) ?_
                refine wp_icmp_ne (pc := 55) 73 dX2_readStatement_55 (by decide) (fun c_55 => ?_) (fun c_55 => ?_)
                · refine wp_iconst (pc := 73) (0) dX2_readStatement_73 (by decide) ?_
                  refine wp_iret (pc := 74) dX2_readStatement_74 ⟨_, rfl, by decide⟩ ?_
                  have hst : stm sz tp f q = (false, f, q1) := by rw [stm_w hf hno, ← hq1, stN1_f (show rdT sz tp q1 (lmW f 9 0 0) = false from rdT_1 (fun z => c_55 (by rw [z]; rfl)))]
                  rw [hst] at kk
                  exact kk _ _ hT1 hR1 hg1 (fun a _ => ⟨fun h3 => (hf1 a h3), fun h3 => rfl⟩)
                · have hs1 : srtk sz tp q1 = 2 := (nI_eq (b := 2) (by have := srtk_le (sz := sz) (tp := tp) (q := q1); omega) (by decide)).mp c_55
                  refine wp_aload_n (pc := 58) 0 dX2_readStatement_58 rfl rfl ?_
                  refine wq_getI (pc := 59) 24 4 dX2_readStatement_59 s0_37 flX2_24 rfl (by decide) ?_
                  refine wp_int (hR1.2.2.2 hs1) ?_
                  refine wp_aload_n (pc := 62) 0 dX2_readStatement_62 rfl rfl ?_
                  refine wp_aload_n (pc := 63) 2 dX2_readStatement_63 rfl rfl ?_
                  refine wp_iload_n (pc := 64) 3 dX2_readStatement_64 rfl rfl ?_
                  refine wp_iload (pc := 65) 4 dX2_readStatement_65 rfl ?_
                  refine wc_V_RII (pc := 67) dX2_readStatement_67 lkX2_53 (sm_Rc.o (ci := 1) s0_37 (by decide) (by decide)) (by decide) (Nat.le_of_ble_eq_true rfl) ?_
                  refine c_X2_mostOf_9_0 ht hw hT1 ?_
                  refine wp_icmp_le (pc := 70) 75 dX2_readStatement_70 (by decide) (fun c_70 => ?_) (fun c_70 => ?_)
                  · have hl1 : nmk sz tp q1 < 1000 := (le_prd (L := 1000) (by omega) (by omega)).mp c_70
                    have hr1 : rdT sz tp q1 (lmW f 9 0 0) = true := rdT_t hs1 hl1
                    refine wp_aload_n (pc := 75) 0 dX2_readStatement_75 rfl rfl ?_
                    refine wq_getR (pc := 76) 27 5 dX2_readStatement_76 s0_37 flX2_27 rfl rfl (by decide) (by decide) ?_
                    refine wp_iload (pc := 79) 4 dX2_readStatement_79 rfl ?_
                    refine wp_aload_n (pc := 81) 0 dX2_readStatement_81 rfl rfl ?_
                    refine wq_getI (pc := 82) 24 4 dX2_readStatement_82 s0_37 flX2_24 rfl (by decide) ?_
                    refine wp_int (hR1.2.2.2 hs1) ?_
                    refine wc_SN_RII (pc := 85) dX2_readStatement_85 lkX2_57 (by decide) (Nat.le_of_ble_eq_true rfl) ?_
                    refine c_X6_put (n := 0) s0_38 (by decide) (by decide) (by decide) ?_
                    refine wp_aload_n (pc := 88) 0 dX2_readStatement_88 rfl rfl ?_
                    refine wp_aload_n (pc := 89) 1 dX2_readStatement_89 rfl rfl ?_
                    refine wc_V_R (pc := 90) dX2_readStatement_90 lkX2_31 (sm_Rc.o (ci := 1) s0_37 (by decide) (by decide)) (by decide) (Nat.le_of_ble_eq_true rfl) ?_
                    refine c_X2_advance (⟨hP1.1, fun j hj => (up_nk (by decide)).trans (hP1.2 j hj)⟩ : TpD sz tp F1 (sm_up I 38 0 (nI (nmk sz tp q1)))) hz htp hR1.2.2.1 (endk_le hb1).2.1 (fun F2 hRR hg2 hf2 => ?_)
                    have hb2 : q2 ≤ sz := by rw [hq2]; exact nxk_le hb1
                    have hR2 : RdS sz tp q2 F2 := by rw [hq2]; exact hRR
                    have hT2 : Tw t f F2 (sm_up I 38 0 (nI (nmk sz tp q1))) := hT1.frame (fun a ha => hf2 a (by omega)) (fun a h1 h2 => sm_up_ne (by omega))
                    have hP2 : TpD sz tp F2 (sm_up I 38 0 (nI (nmk sz tp q1))) := ⟨(congrFun (hf2 35 (by decide)) 0).trans ((⟨hP1.1, fun j hj => (up_nk (by decide)).trans (hP1.2 j hj)⟩ : TpD sz tp F1 (sm_up I 38 0 (nI (nmk sz tp q1))))).1, ((⟨hP1.1, fun j hj => (up_nk (by decide)).trans (hP1.2 j hj)⟩ : TpD sz tp F1 (sm_up I 38 0 (nI (nmk sz tp q1))))).2⟩
                    have hm2 := nmk_lt (sz := sz) (q := q2) htp
                    refine wp_incN (pc := 93) 4 dX2_readStatement_93 rfl (by decide) rfl ?_
                    refine wp_goto (pc := 96) 41 dX2_readStatement_96 (by decide) ?_
                    refine wp_iload (pc := 41) 4 dX2_readStatement_41 rfl ?_
                    refine wp_iload_n (pc := 43) 3 dX2_readStatement_43 rfl rfl ?_
                    refine wc_S_I (pc := 44) dX2_readStatement_44 lkX2_49 (by decide) (Nat.le_of_ble_eq_true rfl) ?_
                    refine c_X2_countOf_9 ?_
                    refine wp_icmp_ge (pc := 47) 99 dX2_readStatement_47 (by decide) (fun c_47 => ?_) (fun c_47 => ?_)
                    · refine wp_aload_n (pc := 99) 0 dX2_readStatement_99 rfl rfl ?_
                      refine wp_aload_n (pc := 100) 2 dX2_readStatement_100 rfl rfl ?_
                      refine wp_iload_n (pc := 101) 3 dX2_readStatement_101 rfl rfl ?_
                      refine wc_V_RI (pc := 102) dX2_readStatement_102 lkX2_61 (sm_Rc.o (ci := 1) s0_37 (by decide) (by decide)) (by decide) (Nat.le_of_ble_eq_true rfl) ?_
                      refine c_X2_carryOut_9 ht hw hT2 (a := nmk sz tp q1) (b := 0) (e := 0) (by simp [sm_up]) (fun F9 I9 hT9 hf9 => ?_)
                      refine wp_iconst (pc := 105) (1) dX2_readStatement_105 (by decide) ?_
                      refine wp_iret (pc := 106) dX2_readStatement_106 ⟨_, rfl, by decide⟩ ?_
                      have hst : stm sz tp f q = (true, cry f 9 (nmk sz tp q1) 0 0, q2) := by rw [stm_w hf hno, ← hq1, stN1_1 hr1 (by decide), ← hq2]
                      rw [hst] at kk
                      have h37 := (hf9 37 (by omega)).1
                      exact kk _ _ hT9 (hR2.fr h37) ((congrFun h37 0).trans (hg2.trans hg1)) (fun a ha => ⟨fun h3 => (hf9 a ha).1.trans ((hf2 a h3).trans (hf1 a h3)), fun h3 => (hf9 a ha).2.trans (sm_up_ne h3)⟩)
                    · exact absurd (by decide) c_47
                  · refine wp_iconst (pc := 73) (0) dX2_readStatement_73 (by decide) ?_
                    refine wp_iret (pc := 74) dX2_readStatement_74 ⟨_, rfl, by decide⟩ ?_
                    have hst : stm sz tp f q = (false, f, q1) := by rw [stm_w hf hno, ← hq1, stN1_f (show rdT sz tp q1 (lmW f 9 0 0) = false from rdT_2 (L := 1000) (fun z => c_70 ((le_prd (L := 1000) (by omega) (by omega)).mpr z)))]
                    rw [hst] at kk
                    exact kk _ _ hT1 hR1 hg1 (fun a _ => ⟨fun h3 => (hf1 a h3), fun h3 => rfl⟩)
            · refine wp_iconst (pc := 31) (0) dX2_readStatement_31 (by decide) ?_
              refine wp_iret (pc := 32) dX2_readStatement_32 ⟨_, rfl, by decide⟩ ?_
              have hst : stm sz tp f q = (false, f, q) := by exact stm_r hf c_28
              rw [hst] at kk
              exact kk _ _ hT hR rfl (fun a _ => ⟨fun h3 => rfl, fun h3 => rfl⟩)
  · refine wp_aload_n (pc := 0) 0 dX2_readStatement_0 rfl rfl ?_
    refine wq_getI (pc := 1) 15 1 dX2_readStatement_1 s0_37 flX2_15 rfl (by decide) ?_
    refine wp_int hR.1 ?_
    refine wp_iconst (pc := 4) (1) dX2_readStatement_4 (by decide) ?_
    refine wp_icmp_ne (pc := 5) 16 dX2_readStatement_5 (by decide) (fun c_5 => ?_) (fun c_5 => ?_)
    · refine wp_iconst (pc := 16) (-1) dX2_readStatement_16 (by decide) ?_
      refine wp_istore_n (pc := 17) 3 dX2_readStatement_17 rfl (by decide) rfl ?_
      refine wp_iload_n (pc := 18) 3 dX2_readStatement_18 rfl rfl ?_
      refine wp_iconst (pc := 19) (-1) dX2_readStatement_19 (by decide) ?_
      refine wp_icmp_eq (pc := 20) 31 dX2_readStatement_20 (by decide) (fun c_20 => ?_) (fun c_20 => ?_)
      · refine wp_iconst (pc := 31) (0) dX2_readStatement_31 (by decide) ?_
        refine wp_iret (pc := 32) dX2_readStatement_32 ⟨_, rfl, by decide⟩ ?_
        have hst : stm sz tp f q = (false, f, q) := stm_n (if_neg hk)
        rw [hst] at kk
        exact kk _ _ hT hR rfl (fun a _ => ⟨fun _ => rfl, fun _ => rfl⟩)
      · exact absurd (by decide) c_20
    · exact absurd ((nI_eq (b := 1) (by omega) (by decide)).mp c_5) hk
