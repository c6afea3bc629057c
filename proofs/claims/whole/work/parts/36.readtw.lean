/-! ===== a tower is read ===== -/
def twU (sz : Nat) (tp : Nat → Nat) : Nat → rw_ → Nat → Nat → Option Nat × rw_ × Nat
  | 0, f, q, n => (some q, f, n)
  | k + 1, f, q, n => if (stm sz tp f q).1 = false then (some (stm sz tp f q).2.2, (stm sz tp f q).2.1, n) else if srtk sz tp (stm sz tp f q).2.2 = 0 then (none, (stm sz tp f q).2.1, n + 1) else if srtk sz tp (stm sz tp f q).2.2 = 3 then twU sz tp k (stm sz tp f q).2.1 (nxk sz tp (stm sz tp f q).2.2) (n + 1) else (some (stm sz tp f q).2.2, (stm sz tp f q).2.1, n)
def twO (r : Option Nat × rw_ × Nat) : Int32 := match r.1 with
  | none => nI r.2.2
  | some _ => 0
section TWS
variable {sz : Nat} {tp : Nat → Nat} {f : rw_} {q n k : Nat}
theorem tw_f (h : (stm sz tp f q).1 = false) : twU sz tp (k + 1) f q n = (some (stm sz tp f q).2.2, (stm sz tp f q).2.1, n) := by rw [twU, if_pos h]
theorem tw_0 (h : (stm sz tp f q).1 = true) (h2 : srtk sz tp (stm sz tp f q).2.2 = 0) : twU sz tp (k + 1) f q n = (none, (stm sz tp f q).2.1, n + 1) := by rw [twU, if_neg (by rw [h]; decide), if_pos h2]
theorem tw_3 (h : (stm sz tp f q).1 = true) (h2 : srtk sz tp (stm sz tp f q).2.2 = 3) : twU sz tp (k + 1) f q n = twU sz tp k (stm sz tp f q).2.1 (nxk sz tp (stm sz tp f q).2.2) (n + 1) := by rw [twU, if_neg (by rw [h]; decide), if_neg (by rw [h2]; decide), if_pos h2]
theorem tw_e (h : (stm sz tp f q).1 = true) (h2 : ¬ srtk sz tp (stm sz tp f q).2.2 = 0) (h3 : ¬ srtk sz tp (stm sz tp f q).2.2 = 3) : twU sz tp (k + 1) f q n = (some (stm sz tp f q).2.2, (stm sz tp f q).2.1, n) := by rw [twU, if_neg (by rw [h]; decide), if_neg h2, if_neg h3]
theorem wrd_lt {w : Nat} (h : wrd sz tp q = some w) : w < 10 := by
  unfold wrd at h
  split at h
  · exact (fst_get h).1
  · cases h
theorem WF_cry (hw : WF f) {w a b c : Nat} (h10 : w < 10) (hno : noRm f w = false) (ha : a < lmW f w 0 0) (hb : 2 ≤ cnW w → b < lmW f w 1 a) (hc : cnW w = 3 → c < lmW f w 2 a) : WF (cry f w a b c) := by
  have hn := hw.n
  rcases (show w = 0 ∨ w = 1 ∨ w = 2 ∨ w = 3 ∨ w = 4 ∨ w = 5 ∨ w = 6 ∨ w = 7 ∨ w = 8 ∨ w = 9 by omega) with rfl | rfl | rfl | rfl | rfl | rfl | rfl | rfl | rfl | rfl
  · have hb := hb (by decide)
    have hr : f 68 < 10 := Nat.lt_of_not_le fun z => by simp [noRm, Nat.not_lt.mpr z] at hno
    exact WF_addT hw hr (Nat.le_of_lt_succ ha) (Nat.le_of_lt_succ hb)
  · have hb : b < a := hb (by decide)
    have ha : a < f 68 := ha
    exact WF_on hw ha (or_lt (hw.on (by omega)) (Nat.pow_lt_pow_right (by decide) hb))
  · exact WF_on hw ha (Nat.two_pow_pos a)
  · exact WF_been hw ha (by decide)
  · exact WF_been hw ha (by decide)
  · have hb := hb (by decide)
    have hc := hc (by decide)
    have hr : f 69 < 6 := Nat.lt_of_not_le fun z => by simp [noRm, Nat.not_lt.mpr z] at hno
    exact WF_addR hw hr (Nat.le_of_lt_succ ha) (Nat.le_of_lt_succ hb) (Nat.le_of_lt_succ hc)
  · exact WF_far hw (by decide) ⟨fun _ => Nat.le_of_lt_succ ha, by omega, by omega, by omega⟩
  · have h1 : f 72 ||| 2 ^ a < 2 ^ 8 := or_lt (n := 8) (by have := hw.crk; omega) (Nat.pow_lt_pow_right (by decide) ha)
    exact WF_far hw (by decide) ⟨by omega, by omega, fun _ => by omega, by omega⟩
  · have h1 := dif_le (n := 8) (f 72) (2 ^ a) (by have := hw.crk; omega)
    exact WF_far hw (by decide) ⟨by omega, by omega, fun _ => by omega, by omega⟩
  · exact WF_far hw (by decide) ⟨by omega, fun _ => Nat.le_of_lt_succ ha, by omega, by omega⟩
theorem stm_ok (hw : WF f) (hq : q ≤ sz) : WF (stm sz tp f q).2.1 ∧ (stm sz tp f q).2.2 ≤ sz := by
  cases e : wrd sz tp q with
  | none => rw [stm_n e]; exact ⟨hw, hq⟩
  | some w =>
    cases e2 : noRm f w with
    | true => rw [stm_r e e2]; exact ⟨hw, hq⟩
    | false =>
      rw [stm_w e e2]
      have h1 := nxk_le (tp := tp) hq
      have h2 := nxk_le (tp := tp) h1
      have h3 := nxk_le (tp := tp) h2
      have h4 := nxk_le (tp := tp) h3
      cases r1 : rdT sz tp (nxk sz tp q) (lmW f w 0 0) with
      | false => rw [stN1_f r1]; exact ⟨hw, h1⟩
      | true =>
        have g1 := (rdT_g r1).2
        by_cases c1 : cnW w = 1
        · rw [stN1_1 r1 c1]; exact ⟨WF_cry hw (wrd_lt e) e2 g1 (fun z => by omega) (fun z => by omega), h2⟩
        · rw [stN1_2 r1 c1]
          cases r2 : rdT sz tp (nxk sz tp (nxk sz tp q)) (lmW f w 1 (nmk sz tp (nxk sz tp q))) with
          | false => rw [stN2_f r2]; exact ⟨hw, h2⟩
          | true =>
            have g2 := (rdT_g r2).2
            by_cases c2 : cnW w = 2
            · rw [stN2_2 r2 c2]; exact ⟨WF_cry hw (wrd_lt e) e2 g1 (fun z => g2) (fun z => by omega), h3⟩
            · rw [stN2_3 r2 c2]
              cases r3 : rdT sz tp (nxk sz tp (nxk sz tp (nxk sz tp q))) (lmW f w 2 (nmk sz tp (nxk sz tp q))) with
              | false => rw [stN3_f r3]; exact ⟨hw, h3⟩
              | true => rw [stN3_t r3]; exact ⟨WF_cry hw (wrd_lt e) e2 g1 (fun z => g2) (fun z => (rdT_g r3).2), h4⟩
end TWS
theorem Frd.tr {t : Nat} {F I F1 I1 F2 I2 : Nat → Nat → Int32} (h : Frd t F I F1 I1) (h2 : Frd t F1 I1 F2 I2) : Frd t F I F2 I2 := fun a ha => ⟨fun z => ((h2 a ha).1 z).trans ((h a ha).1 z), fun z => ((h2 a ha).2 z).trans ((h a ha).2 z)⟩
theorem Frd.of {t : Nat} {F I F1 : Nat → Nat → Int32} (h : ∀ a, a ≠ 37 → F1 a = F a) : Frd t F I F1 I := fun a _ => ⟨fun z => h a z, fun _ => rfl⟩
theorem TpD.frd {t sz : Nat} {tp : Nat → Nat} {F I F1 I1 : Nat → Nat → Int32} (h : TpD sz tp F I) (ht : isT t) (h2 : Frd t F I F1 I1) : TpD sz tp F1 I1 := by
  have hh := ht.hi
  refine ⟨(congrFun ((h2 35 (by omega)).1 (by decide)) 0).trans h.1, fun j hj => ?_⟩
  rw [(h2 36 (by omega)).2 (by decide)]
  exact h.2 j hj
theorem c_X2_readTower {d : Nat} {F I : Nat → Nat → Int32} {J : Nat → Nat → Int64} {Q : Option Value → sm_H → Prop} {sz : Nat} {tp : Nat → Nat} (hP : TpD sz tp F I) (hz : sz ≤ 250) (htp : ∀ j, tp j < 256) {t : Nat} (ht : isT t) {f : rw_} (hw : WF f) (hT : Tw t f F I) (kk : ∀ F1 I1 : Nat → Nat → Int32, Tw t (twU sz tp 250 f (tks sz tp 0) 0).2.1 F1 I1 → F1 37 0 = eN (twU sz tp 250 f (tks sz tp 0) 0).1 → Frd t F I F1 I1 → Q (some (.int (twO (twU sz tp 250 f (tks sz tp 0) 0)))) (S0, F1, I1, J)) : Wp mX2_readTower (d + 8) 0 0 0 (sm_ini [.ref 37, .ref 35, .ref t] 4) [] (S0, F, I, J) Q := by
  show Wp _ _ _ _ _ [.ref 37, .ref 35, .ref t, .null] _ _ _
  have hlo := ht.lo
  have hhi := ht.hi
  refine wp_aload_n (pc := 0) 0 dX2_readTower_0 rfl rfl ?_
  refine wp_iconst (pc := 1) (-1) dX2_readTower_1 (by decide) ?_
  refine wq_putI (pc := 2) 9 0 dX2_readTower_2 s0_37 flX2_9 rfl rfl (by decide) ?_
  refine wp_aload_n (pc := 5) 0 dX2_readTower_5 rfl rfl ?_
  refine wp_iconst (pc := 6) (0) dX2_readTower_6 (by decide) ?_
  refine wq_putI (pc := 7) 21 3 dX2_readTower_7 s0_37 flX2_21 rfl rfl (by decide) ?_
  refine wp_aload_n (pc := 10) 0 dX2_readTower_10 rfl rfl ?_
  refine wp_aload_n (pc := 11) 1 dX2_readTower_11 rfl rfl ?_
  refine wc_V_R (pc := 12) dX2_readTower_12 lkX2_31 (sm_Rc.o (ci := 1) s0_37 (by decide) (by decide)) (by decide) (Nat.le_of_ble_eq_true rfl) ?_
  refine c_X2_advance hP.up.up hz htp (p := 0) up_eq (Nat.zero_le _) (fun F1 hR1 hg1 hf1 => ?_)
  refine wp_iconst (pc := 15) (1) dX2_readTower_15 (by decide) ?_
  refine wp_istore_n (pc := 16) 3 dX2_readTower_16 rfl (by decide) rfl ?_
  refine wp_loopS (σ := (Nat → Nat → Int32) × (Nat → Nat → Int32) × rw_ × Nat) (fun i _ => [.ref 37, .ref 35, .ref t, .int (nI (i + 1))]) (fun _ s => (S0, s.1, s.2.1, J)) (fun i s => Tw t s.2.2.1 s.1 s.2.1 ∧ WF s.2.2.1 ∧ RdS sz tp s.2.2.2 s.1 ∧ s.2.2.2 ≤ sz ∧ TpD sz tp s.1 s.2.1 ∧ s.1 37 0 = -1 ∧ Frd t F I s.1 s.2.1 ∧ twU sz tp 250 f (tks sz tp 0) 0 = twU sz tp (250 - i) s.2.2.1 s.2.2.2 i) 250 (fun i s hi hs nx => ?_) (fun s hs => ?_) 0 (F1, I, f, tks sz tp 0) (Nat.zero_le _) ⟨hT.frame (fun a ha => (hf1 a (by omega)).trans (by rw [sm_up_ne (by omega), sm_up_ne (by omega)])) (fun _ _ _ => rfl), hw, hR1, (tks_le (Nat.zero_le sz)).2, hP.up.up.frd ht (Frd.of (t := t) (I := I) hf1), hg1.trans ((up_nj (by decide)).trans up_eq), Frd.of fun a ha => (hf1 a ha).trans (by rw [sm_up_ne ha, sm_up_ne ha]), rfl⟩
  · obtain ⟨F1, I1, g, q⟩ := s
    obtain ⟨hT1, hw1, hR1, hq1, hP1, h0, hfr, hfu⟩ := hs
    simp only at hT1 hw1 hR1 hq1 hP1 h0 hfr hfu
    have hok := stm_ok (tp := tp) hw1 hq1
    have hsl := srtk_le (sz := sz) (tp := tp) (q := (stm sz tp g q).2.2)
    refine wp_iload_n (pc := 17) 3 dX2_readTower_17 rfl rfl ?_
    refine wp_sipush (pc := 18) (250) dX2_readTower_18 (by decide) ?_
    refine wp_icmp_gt (pc := 21) 81 dX2_readTower_21 (by decide) (fun c_21 => ?_) (fun c_21 => ?_)
    · exact absurd c_21 (nI_nlt (a := 250) (by omega) (by decide))
    · refine wp_aload_n (pc := 24) 0 dX2_readTower_24 rfl rfl ?_
      refine wp_aload_n (pc := 25) 1 dX2_readTower_25 rfl rfl ?_
      refine wp_aload_n (pc := 26) 2 dX2_readTower_26 rfl rfl ?_
      refine wc_V_RR (pc := 27) dX2_readTower_27 lkX2_37 (sm_Rc.o (ci := 1) s0_37 (by decide) (by decide)) (by decide) (Nat.le_of_ble_eq_true rfl) ?_
      refine c_X2_readStatement hP1 hz htp ht hw1 hT1 hR1 hq1 (fun F2 I2 hT2 hR2 hg2 hf2 => ?_)
      have hP2 := hP1.frd ht hf2
      refine wp_ifneB (pc := 30) 43 dX2_readTower_30 (by decide) (fun c_30 => ?_) (fun c_30 => ?_)
      · refine wp_aload_n (pc := 43) 0 dX2_readTower_43 rfl rfl ?_
        refine wq_getI (pc := 44) 15 1 dX2_readTower_44 s0_37 flX2_15 rfl (by decide) ?_
        refine wp_int hR2.1 ?_
        refine wp_ifne (pc := 47) 52 dX2_readTower_47 (by decide) (fun c_47 => ?_) (fun c_47 => ?_)
        · refine wp_aload_n (pc := 52) 0 dX2_readTower_52 rfl rfl ?_
          refine wq_getI (pc := 53) 15 1 dX2_readTower_53 s0_37 flX2_15 rfl (by decide) ?_
          refine wp_int hR2.1 ?_
          refine wp_iconst (pc := 56) (3) dX2_readTower_56 (by decide) ?_
          refine wp_icmp_eq (pc := 57) 70 dX2_readTower_57 (by decide) (fun c_57 => ?_) (fun c_57 => ?_)
          · refine wp_aload_n (pc := 70) 0 dX2_readTower_70 rfl rfl ?_
            refine wp_aload_n (pc := 71) 1 dX2_readTower_71 rfl rfl ?_
            refine wc_V_R (pc := 72) dX2_readTower_72 lkX2_31 (sm_Rc.o (ci := 1) s0_37 (by decide) (by decide)) (by decide) (Nat.le_of_ble_eq_true rfl) ?_
            refine c_X2_advance hP2 hz htp hR2.2.2.1 (endk_le hok.2).2.1 (fun F3 hR3 hg3 hf3 => ?_)
            refine wp_incN (pc := 75) 3 dX2_readTower_75 rfl (by decide) rfl ?_
            refine wp_goto (pc := 78) 17 dX2_readTower_78 (by decide) ?_
            have hst := (tw_3 c_30 ((nI_eq (b := 3) (by omega) (by decide)).mp c_57) : twU sz tp (249 - i + 1) g q i = _)
            rw [show 250 - i = 249 - i + 1 by omega, hst] at hfu
            exact nx (F3, I2, (stm sz tp g q).2.1, nxk sz tp (stm sz tp g q).2.2) ⟨hT2.frame (fun a ha => hf3 a (by omega)) (fun _ _ _ => rfl), hok.1, hR3, nxk_le hok.2, hP2.frd ht (Frd.of (t := t) (I := I2) hf3), hg3.trans (hg2.trans h0), (hfr.tr hf2).tr (Frd.of hf3), by rw [hfu, show 250 - (i + 1) = 249 - i by omega]⟩
          · refine wp_aload_n (pc := 60) 0 dX2_readTower_60 rfl rfl ?_
            refine wp_aload_n (pc := 61) 0 dX2_readTower_61 rfl rfl ?_
            refine wq_getI (pc := 62) 18 2 dX2_readTower_62 s0_37 flX2_18 rfl (by decide) ?_
            refine wp_int hR2.2.1 ?_
            refine wq_putI (pc := 65) 9 0 dX2_readTower_65 s0_37 flX2_9 rfl rfl (by decide) ?_
            refine wp_iconst (pc := 68) (0) dX2_readTower_68 (by decide) ?_
            refine wp_iretI (pc := 69) dX2_readTower_69 rfl ?_
            have hst := (tw_e c_30 (fun z => c_47 (by rw [z]; rfl)) (fun z => c_57 (by rw [z]; rfl)) : twU sz tp (249 - i + 1) g q i = _)
            rw [hfu, show 250 - i = 249 - i + 1 by omega, hst] at kk
            exact kk _ _ (hT2.frame (fun a ha => sm_up_ne (by omega)) (fun _ _ _ => rfl)) up_eq ((hfr.tr hf2).tr (Frd.of fun a ha => sm_up_ne ha))
        · refine wp_iload_n (pc := 50) 3 dX2_readTower_50 rfl rfl ?_
          refine wp_iretI (pc := 51) dX2_readTower_51 rfl ?_
          have hst := (tw_0 c_30 ((nI_eq (b := 0) (by omega) (by decide)).mp c_47) : twU sz tp (249 - i + 1) g q i = _)
          rw [hfu, show 250 - i = 249 - i + 1 by omega, hst] at kk
          exact kk _ _ hT2 (hg2.trans h0) (hfr.tr hf2)
      · refine wp_aload_n (pc := 33) 0 dX2_readTower_33 rfl rfl ?_
        refine wp_aload_n (pc := 34) 0 dX2_readTower_34 rfl rfl ?_
        refine wq_getI (pc := 35) 18 2 dX2_readTower_35 s0_37 flX2_18 rfl (by decide) ?_
        refine wp_int hR2.2.1 ?_
        refine wq_putI (pc := 38) 9 0 dX2_readTower_38 s0_37 flX2_9 rfl rfl (by decide) ?_
        refine wp_iconst (pc := 41) (0) dX2_readTower_41 (by decide) ?_
        refine wp_iretI (pc := 42) dX2_readTower_42 rfl ?_
        have hst := (tw_f c_30 : twU sz tp (249 - i + 1) g q i = _)
        rw [hfu, show 250 - i = 249 - i + 1 by omega, hst] at kk
        exact kk _ _ (hT2.frame (fun a ha => sm_up_ne (by omega)) (fun _ _ _ => rfl)) up_eq ((hfr.tr hf2).tr (Frd.of fun a ha => sm_up_ne ha))
  · obtain ⟨F1, I1, g, q⟩ := s
    obtain ⟨hT1, hw1, hR1, hq1, hP1, h0, hfr, hfu⟩ := hs
    simp only at hT1 hw1 hR1 hq1 hP1 h0 hfr hfu
    refine wp_iload_n (pc := 17) 3 dX2_readTower_17 rfl rfl ?_
    refine wp_sipush (pc := 18) (250) dX2_readTower_18 (by decide) ?_
    refine wp_icmp_gt (pc := 21) 81 dX2_readTower_21 (by decide) (fun c_21 => ?_) (fun c_21 => ?_)
    · refine wp_aload_n (pc := 81) 0 dX2_readTower_81 rfl rfl ?_
      refine wp_aload_n (pc := 82) 0 dX2_readTower_82 rfl rfl ?_
      refine wq_getI (pc := 83) 18 2 dX2_readTower_83 s0_37 flX2_18 rfl (by decide) ?_
      refine wp_int hR1.2.1 ?_
      refine wq_putI (pc := 86) 9 0 dX2_readTower_86 s0_37 flX2_9 rfl rfl (by decide) ?_
      refine wp_iconst (pc := 89) (0) dX2_readTower_89 (by decide) ?_
      refine wp_iretI (pc := 90) dX2_readTower_90 rfl ?_
      rw [hfu] at kk
      exact kk _ _ (hT1.frame (fun a ha => sm_up_ne (by omega)) (fun _ _ _ => rfl)) up_eq (hfr.tr (Frd.of fun a ha => sm_up_ne ha))
    · exact absurd (by decide) c_21
