/-! ===== the developers' tower: draws, years, one tower taken from another ===== -/
theorem fu_fu (f : rw_) (j a b : Nat) : fu (fu f j a) j b = fu f j b := by
  funext x
  simp only [fu]
  split <;> rfl
/-- whom the draws of a year take: the thing, and SEED behind it -/
noncomputable def whc (f : rw_) : Nat := if f 69 = 0 then dr (f 73) (f 68) else if dr (sd (sd (f 73))) 100 < slp f (dr (sd (f 73)) (f 69)) then (dr (f 73) (f 68) + 1) % f 68 else dr (f 73) (f 68)
noncomputable def sdc (f : rw_) : Nat := if f 69 = 0 then sd (f 73) else sd (sd (sd (f 73)))
noncomputable def rbd (f : rw_) : Nat × rw_ := if may (fu f 73 (sdc f)) (whc f) = 0 then (0, fu f 73 (sdc f)) else (1, rgT (fu f 73 (sdc f)) (whc f))
theorem sdc_lt (f : rw_) : sdc f < 2 ^ 32 := by unfold sdc; split <;> exact sd_lt _
theorem whc_lt {f : rw_} (h0 : 0 < f 68) : whc f < f 68 := by
  unfold whc
  split
  · exact dr_lt h0
  · split
    · exact Nat.mod_lt _ h0
    · exact dr_lt h0
theorem WF_seed {f : rw_} (hw : WF f) {s : Nat} (h : s < 2 ^ 32) : WF (fu f 73 s) := WF_far hw (by decide) ⟨by omega, by omega, by omega, fun _ => h⟩
theorem WF_rbd {f : rw_} (hw : WF f) (h0 : 0 < f 68) : WF (rbd f).2 := by
  unfold rbd
  have h1 := WF_seed hw (sdc_lt f)
  split
  · exact h1
  · exact WF_rgT h1 (whc_lt h0)
theorem slp_seed (f : rw_) (s r : Nat) (hr : r < 6) : slp (fu f 73 s) r = slp f r := by
  unfold slp
  rw [fu_ne (by omega), fu_ne (by omega), fu_ne (by omega), fu_ne (by omega)]
theorem rbd_0 {f : rw_} {s w : Nat} (hs : sdc f = s) (hw : whc f = w) (h : may (fu f 73 s) w = 0) : rbd f = (0, fu f 73 s) := by subst hs hw; unfold rbd; rw [if_pos h]
theorem rbd_1 {f : rw_} {s w : Nat} (hs : sdc f = s) (hw : whc f = w) (h : ¬ may (fu f 73 s) w = 0) : rbd f = (1, rgT (fu f 73 s) w) := by subst hs hw; unfold rbd; rw [if_neg h]
theorem c_X5_ringByDraws {d : Nat} {F I : Nat → Nat → Int32} {J : Nat → Nat → Int64} {Q : Option Value → sm_H → Prop} {t : Nat} (ht : isT t) {f : rw_} (hw : WF f) (hT : Tw t f F I) (h0 : 0 < f 68) (k : ∀ F1 I1 : Nat → Nat → Int32, Tw t (rbd f).2 F1 I1 → Fr t F I F1 I1 → Q (some (.int (nI (rbd f).1))) (S0, F1, I1, J)) : Wp mX5_ringByDraws (d + 4) 0 0 0 (sm_ini [.ref t] 3) [] (S0, F, I, J) Q := by
  show Wp _ _ _ _ _ [.ref t, .null, .null] _ _ _
  have hn := hw.n
  have hcr := hw.c
  have hth := dr_lt (s := f 73) h0
  have hw1 := WF_seed hw (sd_lt (f 73))
  have hw2 := WF_seed hw (sd_lt (sd (f 73)))
  have hw3 := WF_seed hw (sd_lt (sd (sd (f 73))))
  refine wp_aload_n (pc := 0) 0 dX5_ringByDraws_0 rfl rfl ?_
  refine wp_aload_n (pc := 1) 0 dX5_ringByDraws_1 rfl rfl ?_
  refine wq_getI (pc := 2) 9 0 dX5_ringByDraws_2 (tT ht) flX5_9 rfl ht.lt ?_
  refine wp_int hT.n ?_
  refine wc_V_I (pc := 5) dX5_ringByDraws_5 lkX5_110 (sm_Rc.o (ci := 4) (tT ht) (by decide) ht.lt) (by decide) (Nat.le_of_ble_eq_true rfl) ?_
  refine c_X5_draw ht hw hT h0 (by omega) (fun F1 hT1 hF1 => ?_)
  refine wp_istore_n (pc := 8) 1 dX5_ringByDraws_8 rfl (by decide) rfl ?_
  refine wp_aload_n (pc := 9) 0 dX5_ringByDraws_9 rfl rfl ?_
  refine wq_getR (pc := 10) 46 10 dX5_ringByDraws_10 (tT ht) flX5_46 rfl rfl ht.lt (ht.ltn 5) ?_
  refine wq_getI (pc := 13) 116 0 dX5_ringByDraws_13 (tT5 ht) flX5_116 rfl (ht.ltn 5) ?_
  refine wp_int hT1.crew ?_
  refine wp_int (y := nI (f 69)) rfl ?_
  refine wp_ifle (pc := 16) 59 dX5_ringByDraws_16 (by decide) (fun c_16 => ?_) (fun c_16 => ?_)
  · have hc0 : f 69 = 0 := by
      rcases Nat.eq_zero_or_pos (f 69) with h | h
      · exact h
      · exact absurd c_16 (nI_nle h (by omega))
    refine wp_aload_n (pc := 59) 0 dX5_ringByDraws_59 rfl rfl ?_
    refine wp_iload_n (pc := 60) 1 dX5_ringByDraws_60 rfl rfl ?_
    refine wc_V_I (pc := 61) dX5_ringByDraws_61 lkX5_90 (sm_Rc.o (ci := 4) (tT ht) (by decide) ht.lt) (by decide) (Nat.le_of_ble_eq_true rfl) ?_
    obtain ⟨wh, hwh⟩ : ∃ w, w = dr (f 73) (f 68) := ⟨_, rfl⟩
    have hwl : wh < f 68 := by rw [hwh]; exact hth
    refine c_X5_mayBeRung (i := dr (f 73) (f 68)) ht hw1 hT1 (by omega) ?_
    rw [← hwh]
    refine wp_ifne (pc := 64) 69 dX5_ringByDraws_64 (by decide) (fun c_64 => ?_) (fun c_64 => ?_)
    · refine wp_aload_n (pc := 69) 0 dX5_ringByDraws_69 rfl rfl ?_
      refine wp_iload_n (pc := 70) 1 dX5_ringByDraws_70 rfl rfl ?_
      refine wc_V_I (pc := 71) dX5_ringByDraws_71 lkX5_125 (sm_Rc.o (ci := 4) (tT ht) (by decide) ht.lt) (by decide) (Nat.le_of_ble_eq_true rfl) ?_
      refine c_X5_ringThing (i := wh) ht hw1 hT1 (by omega) (fun F4 I4 hT4 hF4 => ?_)
      refine wp_iconst (pc := 74) (1) dX5_ringByDraws_74 (by decide) ?_
      refine wp_iretI (pc := 75) dX5_ringByDraws_75 rfl ?_
      subst hwh
      rw [rbd_1 (by unfold sdc; rw [if_pos hc0]) (by unfold whc; rw [if_pos hc0]) (fun z => c_64 (by rw [z]; rfl))] at k
      exact k _ _ hT4 (hF1.tr hF4)
    · refine wp_iconst (pc := 67) (0) dX5_ringByDraws_67 (by decide) ?_
      refine wp_iretI (pc := 68) dX5_ringByDraws_68 rfl ?_
      subst hwh
      rw [rbd_0 (by unfold sdc; rw [if_pos hc0]) (by unfold whc; rw [if_pos hc0]) ((nI0 (Nat.lt_of_le_of_lt (may_le _ _) (by decide))).mp c_64)] at k
      exact k _ _ hT1 hF1
  · have hc0 : ¬ f 69 = 0 := fun z => c_16 (by rw [z]; decide)
    refine wp_aload_n (pc := 19) 0 dX5_ringByDraws_19 rfl rfl ?_
    refine wp_aload_n (pc := 20) 0 dX5_ringByDraws_20 rfl rfl ?_
    refine wq_getR (pc := 21) 46 10 dX5_ringByDraws_21 (tT ht) flX5_46 rfl rfl ht.lt (ht.ltn 5) ?_
    refine wq_getI (pc := 24) 116 0 dX5_ringByDraws_24 (tT5 ht) flX5_116 rfl (ht.ltn 5) ?_
    refine wp_int hT1.crew ?_
    refine wp_int (y := nI (f 69)) rfl ?_
    refine wc_V_I (pc := 27) dX5_ringByDraws_27 lkX5_110 (sm_Rc.o (ci := 4) (tT ht) (by decide) ht.lt) (by decide) (Nat.le_of_ble_eq_true rfl) ?_
    refine c_X5_draw ht hw1 hT1 (n := f 69) (by omega) (by omega) (fun F2 hT2 hF2 => ?_)
    rw [fu_fu, fu_eq] at hT2
    have hrr : dr (sd (f 73)) (f 69) < f 69 := dr_lt (by omega)
    refine wp_int (y := nI (dr (sd (f 73)) (f 69))) (by rw [fu_eq]) ?_
    refine wp_istore_n (pc := 30) 2 dX5_ringByDraws_30 rfl (by decide) rfl ?_
    refine wp_aload_n (pc := 31) 0 dX5_ringByDraws_31 rfl rfl ?_
    refine wp_bipush (pc := 32) (100) dX5_ringByDraws_32 (by decide) ?_
    refine wc_V_I (pc := 34) dX5_ringByDraws_34 lkX5_110 (sm_Rc.o (ci := 4) (tT ht) (by decide) ht.lt) (by decide) (Nat.le_of_ble_eq_true rfl) ?_
    refine c_X5_draw ht hw2 hT2 (n := 100) (by decide) (by decide) (fun F3 hT3 hF3 => ?_)
    rw [fu_fu, fu_eq] at hT3
    have hF3 := (hF1.tr hF2).tr hF3
    refine wp_int (y := nI (dr (sd (sd (f 73))) 100)) (by rw [fu_eq]) ?_
    refine wp_aload_n (pc := 37) 0 dX5_ringByDraws_37 rfl rfl ?_
    refine wq_getR (pc := 38) 46 10 dX5_ringByDraws_38 (tT ht) flX5_46 rfl rfl ht.lt (ht.ltn 5) ?_
    refine wp_iload_n (pc := 41) 2 dX5_ringByDraws_41 rfl rfl ?_
    refine wp_aload_n (pc := 42) 0 dX5_ringByDraws_42 rfl rfl ?_
    refine wq_getI (pc := 43) 37 8 dX5_ringByDraws_43 (tT ht) flX5_37 rfl ht.lt ?_
    refine wp_int hT3.crk ?_
    refine wc_V_II (pc := 46) dX5_ringByDraws_46 lkX5_119 (sm_Rc.o (ci := 0) (tT5 ht) (by decide) (ht.ltn 5)) (by decide) (Nat.le_of_ble_eq_true rfl) ?_
    refine c_X0_slipOf (r := dr (sd (f 73)) (f 69)) ht hw3 hT3 (by omega) ?_
    refine wp_int (y := nI (slp f (dr (sd (f 73)) (f 69)))) (by rw [slp_seed f _ _ (by omega)]) ?_
    have hsle := slp_le hw (r := dr (sd (f 73)) (f 69)) (by omega)
    have hdl : dr (sd (sd (f 73))) 100 < 100 := dr_lt (by decide)
    refine wp_icmp_ge (pc := 49) 59 dX5_ringByDraws_49 (by decide) (fun c_49 => ?_) (fun c_49 => ?_)
    · have hsl : ¬ dr (sd (sd (f 73))) 100 < slp f (dr (sd (f 73)) (f 69)) := fun z => nI_ge z (by omega) c_49
      refine wp_aload_n (pc := 59) 0 dX5_ringByDraws_59 rfl rfl ?_
      refine wp_iload_n (pc := 60) 1 dX5_ringByDraws_60 rfl rfl ?_
      refine wc_V_I (pc := 61) dX5_ringByDraws_61 lkX5_90 (sm_Rc.o (ci := 4) (tT ht) (by decide) ht.lt) (by decide) (Nat.le_of_ble_eq_true rfl) ?_
      obtain ⟨wh, hwh⟩ : ∃ w, w = dr (f 73) (f 68) := ⟨_, rfl⟩
      have hwl : wh < f 68 := by rw [hwh]; exact hth
      refine c_X5_mayBeRung (i := dr (f 73) (f 68)) ht hw3 hT3 (by omega) ?_
      rw [← hwh]
      refine wp_ifne (pc := 64) 69 dX5_ringByDraws_64 (by decide) (fun c_64 => ?_) (fun c_64 => ?_)
      · refine wp_aload_n (pc := 69) 0 dX5_ringByDraws_69 rfl rfl ?_
        refine wp_iload_n (pc := 70) 1 dX5_ringByDraws_70 rfl rfl ?_
        refine wc_V_I (pc := 71) dX5_ringByDraws_71 lkX5_125 (sm_Rc.o (ci := 4) (tT ht) (by decide) ht.lt) (by decide) (Nat.le_of_ble_eq_true rfl) ?_
        refine c_X5_ringThing (i := wh) ht hw3 hT3 (by omega) (fun F4 I4 hT4 hF4 => ?_)
        refine wp_iconst (pc := 74) (1) dX5_ringByDraws_74 (by decide) ?_
        refine wp_iretI (pc := 75) dX5_ringByDraws_75 rfl ?_
        subst hwh
        rw [rbd_1 (by unfold sdc; rw [if_neg hc0]) (by unfold whc; rw [if_neg hc0, if_neg hsl]) (fun z => c_64 (by rw [z]; rfl))] at k
        exact k _ _ hT4 (hF3.tr hF4)
      · refine wp_iconst (pc := 67) (0) dX5_ringByDraws_67 (by decide) ?_
        refine wp_iretI (pc := 68) dX5_ringByDraws_68 rfl ?_
        subst hwh
        rw [rbd_0 (by unfold sdc; rw [if_neg hc0]) (by unfold whc; rw [if_neg hc0, if_neg hsl]) ((nI0 (Nat.lt_of_le_of_lt (may_le _ _) (by decide))).mp c_64)] at k
        exact k _ _ hT3 hF3
    · have hsl : dr (sd (sd (f 73))) 100 < slp f (dr (sd (f 73)) (f 69)) := Nat.lt_of_not_le fun z => c_49 (nI_le z (by omega))
      refine wp_aload_n (pc := 52) 0 dX5_ringByDraws_52 rfl rfl ?_
      refine wp_iload_n (pc := 53) 1 dX5_ringByDraws_53 rfl rfl ?_
      refine wp_iconst (pc := 54) (1) dX5_ringByDraws_54 (by decide) ?_
      refine wc_V_II (pc := 55) dX5_ringByDraws_55 lkX5_122 (sm_Rc.o (ci := 4) (tT ht) (by decide) ht.lt) (by decide) (Nat.le_of_ble_eq_true rfl) ?_
      refine c_X5_beyond ht hw3 hT3 (a := dr (f 73) (f 68)) (b := 1) (by omega) (by decide) h0 ?_
      refine wp_int (y := nI ((dr (f 73) (f 68) + 1) % f 68)) rfl ?_
      refine wp_istore_n (pc := 58) 1 dX5_ringByDraws_58 rfl (by decide) rfl ?_
      refine wp_aload_n (pc := 59) 0 dX5_ringByDraws_59 rfl rfl ?_
      refine wp_iload_n (pc := 60) 1 dX5_ringByDraws_60 rfl rfl ?_
      refine wc_V_I (pc := 61) dX5_ringByDraws_61 lkX5_90 (sm_Rc.o (ci := 4) (tT ht) (by decide) ht.lt) (by decide) (Nat.le_of_ble_eq_true rfl) ?_
      obtain ⟨wh, hwh⟩ : ∃ w, w = (dr (f 73) (f 68) + 1) % f 68 := ⟨_, rfl⟩
      have hwl : wh < f 68 := by rw [hwh]; exact Nat.mod_lt _ h0
      refine c_X5_mayBeRung (i := (dr (f 73) (f 68) + 1) % f 68) ht hw3 hT3 (by omega) ?_
      rw [← hwh]
      refine wp_ifne (pc := 64) 69 dX5_ringByDraws_64 (by decide) (fun c_64 => ?_) (fun c_64 => ?_)
      · refine wp_aload_n (pc := 69) 0 dX5_ringByDraws_69 rfl rfl ?_
        refine wp_iload_n (pc := 70) 1 dX5_ringByDraws_70 rfl rfl ?_
        refine wc_V_I (pc := 71) dX5_ringByDraws_71 lkX5_125 (sm_Rc.o (ci := 4) (tT ht) (by decide) ht.lt) (by decide) (Nat.le_of_ble_eq_true rfl) ?_
        refine c_X5_ringThing (i := wh) ht hw3 hT3 (by omega) (fun F4 I4 hT4 hF4 => ?_)
        refine wp_iconst (pc := 74) (1) dX5_ringByDraws_74 (by decide) ?_
        refine wp_iretI (pc := 75) dX5_ringByDraws_75 rfl ?_
        subst hwh
        rw [rbd_1 (by unfold sdc; rw [if_neg hc0]) (by unfold whc; rw [if_neg hc0, if_pos hsl]) (fun z => c_64 (by rw [z]; rfl))] at k
        exact k _ _ hT4 (hF3.tr hF4)
      · refine wp_iconst (pc := 67) (0) dX5_ringByDraws_67 (by decide) ?_
        refine wp_iretI (pc := 68) dX5_ringByDraws_68 rfl ?_
        subst hwh
        rw [rbd_0 (by unfold sdc; rw [if_neg hc0]) (by unfold whc; rw [if_neg hc0, if_pos hsl]) ((nI0 (Nat.lt_of_le_of_lt (may_le _ _) (by decide))).mp c_64)] at k
        exact k _ _ hT3 hF3
/-- a row of a cell filled as far as i -/
def rwI (I : Nat → Nat → Int32) (a0 : Nat) (g : Nat → Int32) (i : Nat) : Nat → Nat → Int32 := fun a b => if a = a0 ∧ b < i then g b else I a b
theorem rwI_0 (I : Nat → Nat → Int32) (a0 : Nat) (g : Nat → Int32) : rwI I a0 g 0 = I := by funext a b; simp [rwI]
theorem rwI_s (I : Nat → Nat → Int32) (a0 : Nat) (g : Nat → Int32) (i : Nat) : sm_up (rwI I a0 g i) a0 i (g i) = rwI I a0 g (i + 1) := by
  funext a b
  simp only [sm_up, rwI]
  by_cases h : a = a0 ∧ b = i
  · rw [if_pos h, if_pos ⟨h.1, by omega⟩, h.2]
  · rw [if_neg h]
    by_cases h2 : a = a0 ∧ b < i
    · rw [if_pos h2, if_pos ⟨h2.1, by omega⟩]
    · rw [if_neg h2, if_neg (by omega)]
theorem rwI_skip {I : Nat → Nat → Int32} {a0 : Nat} {g : Nat → Int32} {i : Nat} (h : g i = I a0 i) : rwI I a0 g (i + 1) = rwI I a0 g i := by
  funext a b
  simp only [rwI]
  by_cases h2 : a = a0 ∧ b < i
  · rw [if_pos h2, if_pos ⟨h2.1, by omega⟩]
  · rw [if_neg h2]
    by_cases h3 : a = a0 ∧ b < i + 1
    · rw [if_pos h3, show b = i by omega, h, h3.1]
    · rw [if_neg h3]
theorem rwI_ne {I : Nat → Nat → Int32} {a0 : Nat} {g : Nat → Int32} {i a : Nat} (h : a ≠ a0) : rwI I a0 g i a = I a := by funext b; simp [rwI, h]
theorem rwI_at {I : Nat → Nat → Int32} {a0 : Nat} {g : Nat → Int32} {i j : Nat} (h : j < i) : rwI I a0 g i a0 j = g j := by simp [rwI, h]
theorem rwI_ge {I : Nat → Nat → Int32} {a0 : Nat} {g : Nat → Int32} {i j : Nat} (h : i ≤ j) : rwI I a0 g i a0 j = I a0 j := by simp only [rwI]; rw [if_neg (by omega)]
/-- all are a year older -/
def agF (f : rw_) : rw_ := fun x => if x < 50 ∧ x % 5 = 4 then min 99 (f x + f (x - 1)) else f x
theorem agF_ne {f : rw_} {x : Nat} (h : ¬ (x < 50 ∧ x % 5 = 4)) : agF f x = f x := if_neg h
theorem agF_at {f : rw_} {i : Nat} (hi : i < 10) : agF f (5 * i + 4) = min 99 (f (5 * i + 4) + f (5 * i + 3)) := by
  unfold agF
  rw [if_pos (by omega), show 5 * i + 4 - 1 = 5 * i + 3 by omega]
theorem WF_agF {f : rw_} (h : WF f) : WF (agF f) := by
  obtain ⟨h1, h2, h3, h4, h5, h6, h7, h8, h9⟩ := h
  refine ⟨by rw [agF_ne (by omega)]; exact h1, by rw [agF_ne (by omega)]; exact h2, fun j hj => ?_, fun j hj hn => ?_, fun r hr => ?_, by rw [agF_ne (by omega)]; exact h6, by rw [agF_ne (by omega)]; exact h7, by rw [agF_ne (by omega)]; exact h8, by rw [agF_ne (by omega)]; exact h9⟩
  · have g := h3 j hj
    rw [agF_ne (by omega), agF_ne (by omega), agF_ne (by omega), agF_ne (by omega), agF_at hj]
    exact ⟨g.1, g.2.1, g.2.2.1, g.2.2.2.1, Nat.min_le_left _ _⟩
  · rw [agF_ne (by omega)] at hn
    rw [agF_ne (by omega), agF_ne (by omega)]
    exact h4 j hj hn
  · rw [agF_ne (by omega), agF_ne (by omega), agF_ne (by omega)]
    exact h5 r hr
theorem bn_agF (f : rw_) : bn (agF f) = bn f := bn_congr fun i hi => agF_ne (by omega)
theorem Tw.ages {t : Nat} {f : rw_} {F I : Nat → Nat → Int32} (h : Tw t f F I) : Tw t (agF f) F (rwI I (t + 3) (fun i => nI (agF f (5 * i + 4))) 10) := by
  obtain ⟨h1, h2, h3, h4, h5, h6, h7, h8, h9⟩ := h
  refine ⟨by rw [agF_ne (by omega)]; exact h1, by rw [bn_agF]; exact h2, by rw [agF_ne (by omega)]; exact h3, by rw [agF_ne (by omega)]; exact h4, by rw [agF_ne (by omega)]; exact h5, by rw [agF_ne (by omega)]; exact h6, by rw [agF_ne (by omega)]; exact h7, fun i hi => ?_, fun r hr => ?_⟩
  · obtain ⟨g1, g2, g3, g4⟩ := h8 i hi
    rw [rwI_ne (a := t + 1) (by omega), rwI_ne (a := t + 2) (by omega), rwI_at hi, rwI_ne (a := t + 4) (by omega), agF_ne (x := 5 * i) (by omega), agF_ne (x := 5 * i + 1) (by omega), agF_ne (x := 5 * i + 2) (by omega)]
    exact ⟨g1, g2, rfl, g4⟩
  · rw [rwI_ne (by omega), rwI_ne (by omega), rwI_ne (by omega), agF_ne (by omega), agF_ne (by omega), agF_ne (by omega)]
    exact h9 r hr
/-- a year by draws -/
def yrA (f : rw_) : rw_ := agF (fu f 71 (min 999 (f 71 + 1)))
noncomputable def yrB (f : rw_) : rw_ := fu (fu (yrA f) 73 (sd (yrA f 73))) 70 (dr (yrA f 73) 4)
noncomputable def yrC (f : rw_) : rw_ := (rbd (yrB f)).2
noncomputable def yrD (f : rw_) : rw_ := fu (yrC f) 73 (sd (sd (yrC f 73)))
noncomputable def yr (f : rw_) : Nat × rw_ := ((rbd (yrB f)).1, if dr (sd (yrC f 73)) 10 = 0 then fu (yrD f) 72 (yrD f 72 ||| 2 ^ dr (yrC f 73) 8) else yrD f)
theorem WF_yrA {f : rw_} (h : WF f) : WF (yrA f) := WF_agF (WF_far h (by decide) ⟨by omega, fun _ => Nat.min_le_left _ _, by omega, by omega⟩)
theorem WF_yrB {f : rw_} (h : WF f) : WF (yrB f) := WF_far (WF_seed (WF_yrA h) (sd_lt _)) (by decide) ⟨fun _ => Nat.le_of_lt_succ (dr_lt (by decide)), by omega, by omega, by omega⟩
theorem yrB_68 (f : rw_) : yrB f 68 = f 68 := rfl
theorem WF_yrC {f : rw_} (h : WF f) (h0 : 0 < f 68) : WF (yrC f) := WF_rbd (WF_yrB h) h0
theorem WF_yrD {f : rw_} (h : WF f) (h0 : 0 < f 68) : WF (yrD f) := WF_seed (WF_yrC h h0) (sd_lt _)
theorem rgT_68 (f : rw_) {i : Nat} (hi : i < 10) : rgT f i 68 = f 68 := by
  unfold rgT
  split
  · rw [fu_ne (by omega)]
  · rw [fu_ne (by omega), fu_ne (by omega), fu_ne (by omega)]
theorem WF_yr {f : rw_} (h : WF f) (h0 : 0 < f 68) : WF (yr f).2 := by
  unfold yr
  have hD := WF_yrD h h0
  show WF (if _ then _ else _)
  split
  · refine WF_far hD (by decide) ⟨by omega, by omega, fun _ => ?_, by omega⟩
    have h1 : yrD f 72 < 2 ^ 8 := by have := hD.crk; omega
    have h2 := or_lt h1 (p2_lt (show dr (yrC f 73) 8 < 8 from dr_lt (by decide)))
    omega
  · exact hD
theorem rbd_68 {f : rw_} (hn : f 68 ≤ 10) (h0 : 0 < f 68) : (rbd f).2 68 = f 68 := by
  unfold rbd
  split
  · rfl
  · have := whc_lt h0
    show rgT _ _ 68 = _
    rw [rgT_68 _ (by omega)]; rfl
theorem yr_68 {f : rw_} (hw : WF f) (h0 : 0 < f 68) : (yr f).2 68 = f 68 := by
  have hC : yrC f 68 = f 68 := by
    unfold yrC
    rw [rbd_68 (by rw [yrB_68]; exact hw.n) (by rw [yrB_68]; exact h0), yrB_68]
  unfold yr
  show (if dr (sd (yrC f 73)) 10 = 0 then fu (yrD f) 72 (yrD f 72 ||| 2 ^ dr (yrC f 73) 8) else yrD f : rw_) 68 = f 68
  split
  · show yrD f 68 = _
    exact hC
  · exact hC
theorem rbd_le (f : rw_) : (rbd f).1 ≤ 1 := by unfold rbd; split <;> first | exact Nat.zero_le _ | exact Nat.le_refl _
theorem c_X5_passYearByDraws {d : Nat} {F I : Nat → Nat → Int32} {J : Nat → Nat → Int64} {Q : Option Value → sm_H → Prop} {t : Nat} (ht : isT t) {f : rw_} (hw : WF f) (hT : Tw t f F I) (h0 : 0 < f 68) (k : ∀ F1 I1 : Nat → Nat → Int32, Tw t (yr f).2 F1 I1 → Fr t F I F1 I1 → Q (some (.int (nI (yr f).1))) (S0, F1, I1, J)) : Wp mX5_passYearByDraws (d + 5) 0 0 0 (sm_ini [.ref t] 3) [] (S0, F, I, J) Q := by
  show Wp _ _ _ _ _ [.ref t, .null, .null] _ _ _
  have hy := hw.year
  refine wp_aload_n (pc := 0) 0 dX5_passYearByDraws_0 rfl rfl ?_
  refine wp_sipush (pc := 1) (999) dX5_passYearByDraws_1 (by decide) ?_
  refine wp_aload_n (pc := 4) 0 dX5_passYearByDraws_4 rfl rfl ?_
  refine wq_getI (pc := 5) 34 7 dX5_passYearByDraws_5 (tT ht) flX5_34 rfl ht.lt ?_
  refine wp_int hT.year ?_
  refine wp_iconst (pc := 8) (1) dX5_passYearByDraws_8 (by decide) ?_
  refine wp_iadd (pc := 9) dX5_passYearByDraws_9 ?_
  refine wp_int (nI_1 _) ?_
  refine wc_S_II (pc := 10) dX5_passYearByDraws_10 lkX5_107 (by decide) (Nat.le_of_ble_eq_true rfl) ?_
  refine c_J9_min_7cf53 ?_
  refine wp_int (min_nI (a := 999) (by decide) (by omega)) ?_
  refine wq_putI (pc := 13) 34 7 dX5_passYearByDraws_13 (tT ht) flX5_34 rfl rfl ht.lt ?_
  refine wp_iconst (pc := 16) (0) dX5_passYearByDraws_16 (by decide) ?_
  refine wp_istore_n (pc := 17) 1 dX5_passYearByDraws_17 rfl (by decide) rfl ?_
  obtain ⟨f1, hf1⟩ : ∃ g, g = fu f 71 (min 999 (f 71 + 1)) := ⟨_, rfl⟩
  obtain ⟨F1, hFe⟩ : ∃ G, G = sm_up F t 7 (nI (min 999 (f 71 + 1))) := ⟨_, rfl⟩
  have hT1 : Tw t f1 F1 I := by rw [hf1, hFe]; exact hT.uF (Or.inr (Or.inl ⟨rfl, rfl⟩))
  have hw1 : WF f1 := by rw [hf1]; exact WF_far hw (by decide) ⟨by omega, fun _ => Nat.min_le_left _ _, by omega, by omega⟩
  have hF1 : Fr t F I F1 I := by rw [hFe]; exact Fr.rf.F (by omega) (by omega)
  rw [← hFe, ← rwI_0 I (t + 3) (fun i => nI (agF f1 (5 * i + 4)))]
  refine wp_loop (fun i => [.ref t, .int (nI i), .null]) (fun i => (S0, F1, rwI I (t + 3) (fun i => nI (agF f1 (5 * i + 4))) i, J)) (fun i => True) 10 (fun i hi hv nx => ?_) (fun hv => ?_) 0 (by omega) trivial
  · have hbi := bn_1024 hw1
    have hag := hw1.age hi
    have hbe := hw1.been hi
    refine wp_iload_n (pc := 18) 1 dX5_passYearByDraws_18 rfl rfl ?_
    refine wp_aload_n (pc := 19) 0 dX5_passYearByDraws_19 rfl rfl ?_
    refine wq_getR (pc := 20) 22 3 dX5_passYearByDraws_20 (tT ht) flX5_22 rfl rfl ht.lt (ht.ltn 3) ?_
    refine wp_alenI (pc := 23) 10 dX5_passYearByDraws_23 (tT3 ht) (ht.ltn 3) (by decide) ?_
    refine wp_icmp_ge (pc := 24) 63 dX5_passYearByDraws_24 (by decide) (fun c_24 => ?_) (fun c_24 => ?_)
    · exact absurd c_24 (nI_ge (b := 10) hi (by omega))
    · refine wp_aload_n (pc := 27) 0 dX5_passYearByDraws_27 rfl rfl ?_
      refine wq_getI (pc := 28) 28 5 dX5_passYearByDraws_28 (tT ht) flX5_28 rfl ht.lt ?_
      refine wp_int hT1.been ?_
      refine wp_iload_n (pc := 31) 1 dX5_passYearByDraws_31 rfl rfl ?_
      refine wc_SN_II (pc := 32) dX5_passYearByDraws_32 lkX5_97 (by decide) (Nat.le_of_ble_eq_true rfl) ?_
      refine c_X6_isIn (by omega) (by omega) ?_
      refine wp_ifeqB (pc := 35) 57 dX5_passYearByDraws_35 (by decide) (fun c_35 => ?_) (fun c_35 => ?_)
      · have hbe0 : f1 (5 * i + 3) = 0 := by
          rw [bn_bit hw1] at c_35
          rcases Nat.lt_or_ge i (f1 68) with q | q
          · rw [decide_eq_true q, Bool.true_and] at c_35
            have := of_decide_eq_false c_35
            omega
          · exact hw1.been_out hi q
        refine wp_incN (pc := 57) 1 dX5_passYearByDraws_57 rfl (by decide) rfl ?_
        refine wp_goto (pc := 60) 18 dX5_passYearByDraws_60 (by decide) ?_
        have nx := nx trivial
        rw [rwI_skip (by show nI (agF f1 (5 * i + 4)) = I (t + 3) i; rw [hT1.age hi, agF_at hi, hbe0, Nat.add_zero, Nat.min_eq_right (by omega)])] at nx
        exact nx
      · have hbe1 : f1 (5 * i + 3) = 1 := by
          rw [bn_bit hw1, Bool.and_eq_true] at c_35
          exact of_decide_eq_true c_35.2
        refine wp_aload_n (pc := 38) 0 dX5_passYearByDraws_38 rfl rfl ?_
        refine wq_getR (pc := 39) 22 3 dX5_passYearByDraws_39 (tT ht) flX5_22 rfl rfl ht.lt (ht.ltn 3) ?_
        refine wp_iload_n (pc := 42) 1 dX5_passYearByDraws_42 rfl rfl ?_
        refine wp_bipush (pc := 43) (99) dX5_passYearByDraws_43 (by decide) ?_
        refine wp_aload_n (pc := 45) 0 dX5_passYearByDraws_45 rfl rfl ?_
        refine wq_getR (pc := 46) 22 3 dX5_passYearByDraws_46 (tT ht) flX5_22 rfl rfl ht.lt (ht.ltn 3) ?_
        refine wp_iload_n (pc := 49) 1 dX5_passYearByDraws_49 rfl rfl ?_
        refine wq_iald (pc := 50) i dX5_passYearByDraws_50 (tT3 ht) (ht.ltn 3) rfl hi (by decide) ?_
        refine wp_int ((rwI_ge (Nat.le_refl i)).trans (hT1.age hi)) ?_
        refine wp_iconst (pc := 51) (1) dX5_passYearByDraws_51 (by decide) ?_
        refine wp_iadd (pc := 52) dX5_passYearByDraws_52 ?_
        refine wp_int (nI_1 _) ?_
        refine wc_S_II (pc := 53) dX5_passYearByDraws_53 lkX5_107 (by decide) (Nat.le_of_ble_eq_true rfl) ?_
        refine c_J9_min_7cf53 ?_
        refine wp_int (min_nI (a := 99) (by decide) (by omega)) ?_
        refine wp_int (y := nI (agF f1 (5 * i + 4))) (by rw [agF_at hi, hbe1]) ?_
        refine wq_iast (pc := 56) i dX5_passYearByDraws_56 (tT3 ht) (ht.ltn 3) rfl hi (by decide) ?_
        refine wp_incN (pc := 57) 1 dX5_passYearByDraws_57 rfl (by decide) rfl ?_
        refine wp_goto (pc := 60) 18 dX5_passYearByDraws_60 (by decide) ?_
        have nx := nx trivial
        rw [← rwI_s] at nx
        exact nx
  · have hT2 : Tw t (yrA f) F1 (rwI I (t + 3) (fun i => nI (agF f1 (5 * i + 4))) 10) := (by have := hT1.ages; rw [hf1] at this ⊢; exact this)
    have hw2 := WF_yrA hw
    refine wp_iload_n (pc := 18) 1 dX5_passYearByDraws_18 rfl rfl ?_
    refine wp_aload_n (pc := 19) 0 dX5_passYearByDraws_19 rfl rfl ?_
    refine wq_getR (pc := 20) 22 3 dX5_passYearByDraws_20 (tT ht) flX5_22 rfl rfl ht.lt (ht.ltn 3) ?_
    refine wp_alenI (pc := 23) 10 dX5_passYearByDraws_23 (tT3 ht) (ht.ltn 3) (by decide) ?_
    refine wp_icmp_ge (pc := 24) 63 dX5_passYearByDraws_24 (by decide) (fun c_24 => ?_) (fun c_24 => ?_)
    · refine wp_aload_n (pc := 63) 0 dX5_passYearByDraws_63 rfl rfl ?_
      refine wp_aload_n (pc := 64) 0 dX5_passYearByDraws_64 rfl rfl ?_
      refine wp_iconst (pc := 65) (4) dX5_passYearByDraws_65 (by decide) ?_
      refine wc_V_I (pc := 66) dX5_passYearByDraws_66 lkX5_110 (sm_Rc.o (ci := 4) (tT ht) (by decide) ht.lt) (by decide) (Nat.le_of_ble_eq_true rfl) ?_
      refine c_X5_draw ht hw2 hT2 (n := 4) (by decide) (by decide) (fun F2 hT3 hF3 => ?_)
      refine wq_putI (pc := 69) 31 6 dX5_passYearByDraws_69 (tT ht) flX5_31 rfl rfl ht.lt ?_
      refine wp_aload_n (pc := 72) 0 dX5_passYearByDraws_72 rfl rfl ?_
      refine wc_V_ (pc := 73) dX5_passYearByDraws_73 lkX5_113 (sm_Rc.o (ci := 4) (tT ht) (by decide) ht.lt) (by decide) (Nat.le_of_ble_eq_true rfl) ?_
      have hT4 : Tw t (yrB f) (sm_up F2 t 6 (nI (dr (yrA f 73) 4))) (rwI I (t + 3) (fun i => nI (agF f1 (5 * i + 4))) 10) := hT3.uF (j := 6) (c := 70) (Or.inl ⟨rfl, rfl⟩)
      refine c_X5_ringByDraws ht (WF_yrB hw) hT4 h0 (fun F4 I4 hT5 hF5 => ?_)
      have hT5 : Tw t (yrC f) F4 I4 := hT5
      have hFa : Fr t F I F4 I4 := Fr.tr (fun a ha => ⟨(sm_up_ne (by omega)).trans ((hF3 a ha).1.trans (hF1 a ha).1), rwI_ne (by omega)⟩) hF5
      refine wp_istore_n (pc := 76) 1 dX5_passYearByDraws_76 rfl (by decide) rfl ?_
      refine wp_aload_n (pc := 77) 0 dX5_passYearByDraws_77 rfl rfl ?_
      refine wp_bipush (pc := 78) (8) dX5_passYearByDraws_78 (by decide) ?_
      refine wc_V_I (pc := 80) dX5_passYearByDraws_80 lkX5_110 (sm_Rc.o (ci := 4) (tT ht) (by decide) ht.lt) (by decide) (Nat.le_of_ble_eq_true rfl) ?_
      refine c_X5_draw ht (WF_yrC hw h0) hT5 (n := 8) (by decide) (by decide) (fun F5 hT5b hF5b => ?_)
      refine wp_istore_n (pc := 83) 2 dX5_passYearByDraws_83 rfl (by decide) rfl ?_
      refine wp_aload_n (pc := 84) 0 dX5_passYearByDraws_84 rfl rfl ?_
      refine wp_bipush (pc := 85) (10) dX5_passYearByDraws_85 (by decide) ?_
      refine wc_V_I (pc := 87) dX5_passYearByDraws_87 lkX5_110 (sm_Rc.o (ci := 4) (tT ht) (by decide) ht.lt) (by decide) (Nat.le_of_ble_eq_true rfl) ?_
      refine c_X5_draw ht (WF_seed (WF_yrC hw h0) (sd_lt _)) hT5b (n := 10) (by decide) (by decide) (fun F6 hT6 hF6 => ?_)
      rw [fu_fu, fu_eq] at hT6
      have hT6 : Tw t (yrD f) F6 I4 := hT6
      have hFb := (hFa.tr hF5b).tr hF6
      refine wp_int (y := nI (dr (sd (yrC f 73)) 10)) (by rw [fu_eq]) ?_
      refine wp_ifne (pc := 90) 105 dX5_passYearByDraws_90 (by decide) (fun c_90 => ?_) (fun c_90 => ?_)
      · refine wp_iload_n (pc := 105) 1 dX5_passYearByDraws_105 rfl rfl ?_
        refine wp_iretI (pc := 106) dX5_passYearByDraws_106 rfl ?_
        have e : (yr f).2 = yrD f := by
          show (if _ then _ else _) = _
          exact if_neg (fun z => c_90 (by show nI (dr (sd (yrC f 73)) 10) = 0; rw [z]; rfl))
        rw [e] at k
        exact k _ _ hT6 hFb
      · refine wp_aload_n (pc := 93) 0 dX5_passYearByDraws_93 rfl rfl ?_
        refine wp_dup (pc := 94) dX5_passYearByDraws_94 rfl ?_
        refine wq_getI (pc := 95) 37 8 dX5_passYearByDraws_95 (tT ht) flX5_37 rfl ht.lt ?_
        refine wp_int (y := nI (yrD f 72)) (by rw [hT6.crk]) ?_
        refine wp_iconst (pc := 98) (1) dX5_passYearByDraws_98 (by decide) ?_
        refine wp_iload_n (pc := 99) 2 dX5_passYearByDraws_99 rfl rfl ?_
        refine wp_ishl (pc := 100) dX5_passYearByDraws_100 ?_
        refine wp_ior (pc := 101) dX5_passYearByDraws_101 ?_
        refine wp_int (y := nI (yrD f 72 ||| 2 ^ dr (yrC f 73) 8)) (by rw [← bt_or, ← bt_one (by have : dr (yrC f 73) 8 < 8 := dr_lt (by decide); omega)]) ?_
        refine wq_putI (pc := 102) 37 8 dX5_passYearByDraws_102 (tT ht) flX5_37 rfl rfl ht.lt ?_
        refine wp_iload_n (pc := 105) 1 dX5_passYearByDraws_105 rfl rfl ?_
        refine wp_iretI (pc := 106) dX5_passYearByDraws_106 rfl ?_
        have e : (yr f).2 = fu (yrD f) 72 (yrD f 72 ||| 2 ^ dr (yrC f 73) 8) := by
          show (if _ then _ else _) = _
          exact if_pos ((nI0 (by have : dr (sd (yrC f 73)) 10 < 10 := dr_lt (by decide); omega)).mp c_90)
        rw [e] at k
        exact k _ _ (hT6.uF (Or.inr (Or.inr (Or.inl ⟨rfl, rfl⟩)))) (hFb.F (by omega) (by omega))
    · exact absurd (Int32.le_refl _) c_24
