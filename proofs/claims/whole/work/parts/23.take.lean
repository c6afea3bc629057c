/-! ===== one tower taken from another; a ringer more ===== -/
theorem wq_cpy {M : sm_M} {d mc ms pc : Nat} {lv st : List Value} {Q : Option Value → sm_H → Prop} {S : sm_S} {F I : Nat → Nat → Int32} {J : Nat → Nat → Int64} {k0 k1 n0 n1 idx : Nat} {r0 r1 : List (Option Nat)} {n : Int32} (N : Nat) (hdg : decode M.2.1 pc = .ok (.invokestatic idx, 3)) (hl : Cond.methodLink M.1.cls idx arraycopyName ∈ sm_Ts)
    (hs0 : S[k0]? = some (1, n0, r0)) (hs1 : S[k1]? = some (1, n1, r1)) (k09 : k0 < 900) (k19 : k1 < 900) (hN : n.toNatClampNeg = N) (h3 : ¬ n < 0) (h4 : N ≤ n0) (h5 : N ≤ n1) (hr : (st.map fun v => v.category).sum ≤ 8)
    (kk : Wp M (d + 1) mc ms (pc + 3) lv st (S, F, sm_ups I k1 (fun b => if b < N then I k0 b else I k1 b), J) Q) : Wp M (d + 1) mc ms pc lv (.int n :: .int 0 :: .ref k1 :: .int 0 :: .ref k0 :: st) (S, F, I, J) Q := by
  have h0 : (0 : Int32).toNatClampNeg = 0 := by decide
  refine wp_copyI hdg hl ac_native ac_static inRJ10 hs0 hs1 k09 k19 (by decide) (by decide) h3 (by rw [h0, hN]; omega) (by rw [h0, hN]; omega) hr ?_
  rw [h0, hN]
  have e : va_cpy (I k0) (I k1) 0 0 N = fun b => if b < N then I k0 b else I k1 b := by
    funext b
    simp [va_cpy]
  show Wp _ _ _ _ _ _ _ (S, F, sm_ups I k1 (va_cpy (I k0) (I k1) 0 0 N), J) _
  rw [e]
  exact kk
theorem c_X0_takeFrom {d : Nat} {F I : Nat → Nat → Int32} {J : Nat → Nat → Int64} {Q : Option Value → sm_H → Prop} {t u : Nat} (ht : isT t) (hu : isT u) (hd : t + 9 < u ∨ u + 9 < t) (k : ∀ F1 I1 : Nat → Nat → Int32, F1 (t + 5) 0 = F (u + 5) 0 → (∀ r, r < 6 → I1 (t + 6) r = I (u + 6) r ∧ I1 (t + 7) r = I (u + 7) r ∧ I1 (t + 8) r = I (u + 8) r) → (∀ a, a ≠ t + 5 → F1 a = F a) → (∀ a, (a < t + 6 ∨ t + 8 < a) → I1 a = I a) → Q none (S0, F1, I1, J)) : Wp mX0_takeFrom (d + 1) 0 0 0 (sm_ini [.ref (t + 5), .ref (u + 5)] 2) [] (S0, F, I, J) Q := by
  show Wp _ _ _ _ _ [.ref (t + 5), .ref (u + 5)] _ _ _
  refine wp_aload_n (pc := 0) 0 dX0_takeFrom_0 rfl rfl ?_
  refine wp_aload_n (pc := 1) 1 dX0_takeFrom_1 rfl rfl ?_
  refine wq_getI (pc := 2) 9 0 dX0_takeFrom_2 (tT5 hu) flX0_9 rfl (hu.ltn 5) ?_
  refine wq_putI (pc := 5) 9 0 dX0_takeFrom_5 (tT5 ht) flX0_9 rfl rfl (ht.ltn 5) ?_
  refine wp_aload_n (pc := 8) 1 dX0_takeFrom_8 rfl rfl ?_
  refine wq_getR (pc := 9) 15 1 dX0_takeFrom_9 (tT5 hu) flX0_15 rfl rfl (hu.ltn 5) (hu.ltn 6) ?_
  refine wp_iconst (pc := 12) (0) dX0_takeFrom_12 (by decide) ?_
  refine wp_aload_n (pc := 13) 0 dX0_takeFrom_13 rfl rfl ?_
  refine wq_getR (pc := 14) 15 1 dX0_takeFrom_14 (tT5 ht) flX0_15 rfl rfl (ht.ltn 5) (ht.ltn 6) ?_
  refine wp_iconst (pc := 17) (0) dX0_takeFrom_17 (by decide) ?_
  refine wp_bipush (pc := 18) (6) dX0_takeFrom_18 (by decide) ?_
  refine wq_cpy (pc := 20) 6 dX0_takeFrom_20 acX0_25 (tT6 hu) (tT6 ht) (hu.ltn 6) (ht.ltn 6) (by decide) (by decide) (by decide) (by decide) (Nat.le_of_ble_eq_true rfl) ?_
  refine wp_aload_n (pc := 23) 1 dX0_takeFrom_23 rfl rfl ?_
  refine wq_getR (pc := 24) 19 2 dX0_takeFrom_24 (tT5 hu) flX0_19 rfl rfl (hu.ltn 5) (hu.ltn 7) ?_
  refine wp_iconst (pc := 27) (0) dX0_takeFrom_27 (by decide) ?_
  refine wp_aload_n (pc := 28) 0 dX0_takeFrom_28 rfl rfl ?_
  refine wq_getR (pc := 29) 19 2 dX0_takeFrom_29 (tT5 ht) flX0_19 rfl rfl (ht.ltn 5) (ht.ltn 7) ?_
  refine wp_iconst (pc := 32) (0) dX0_takeFrom_32 (by decide) ?_
  refine wp_bipush (pc := 33) (6) dX0_takeFrom_33 (by decide) ?_
  refine wq_cpy (pc := 35) 6 dX0_takeFrom_35 acX0_25 (tT7 hu) (tT7 ht) (hu.ltn 7) (ht.ltn 7) (by decide) (by decide) (by decide) (by decide) (Nat.le_of_ble_eq_true rfl) ?_
  refine wp_aload_n (pc := 38) 1 dX0_takeFrom_38 rfl rfl ?_
  refine wq_getR (pc := 39) 22 3 dX0_takeFrom_39 (tT5 hu) flX0_22 rfl rfl (hu.ltn 5) (hu.ltn 8) ?_
  refine wp_iconst (pc := 42) (0) dX0_takeFrom_42 (by decide) ?_
  refine wp_aload_n (pc := 43) 0 dX0_takeFrom_43 rfl rfl ?_
  refine wq_getR (pc := 44) 22 3 dX0_takeFrom_44 (tT5 ht) flX0_22 rfl rfl (ht.ltn 5) (ht.ltn 8) ?_
  refine wp_iconst (pc := 47) (0) dX0_takeFrom_47 (by decide) ?_
  refine wp_bipush (pc := 48) (6) dX0_takeFrom_48 (by decide) ?_
  refine wq_cpy (pc := 50) 6 dX0_takeFrom_50 acX0_25 (tT8 hu) (tT8 ht) (hu.ltn 8) (ht.ltn 8) (by decide) (by decide) (by decide) (by decide) (Nat.le_of_ble_eq_true rfl) ?_
  refine wp_ret (pc := 53) dX0_takeFrom_53 rfl ?_
  refine k _ _ up_eq (fun r hr => ⟨?_, ?_, ?_⟩) (fun a ha => sm_up_ne ha) (fun a ha => ?_)
  · rw [sm_ups_ne (by omega), sm_ups_ne (by omega), sm_ups_eq]; simp [hr]
  · rw [sm_ups_ne (by omega), sm_ups_eq]; simp only [hr, if_true]; rw [sm_ups_ne (by omega)]
  · rw [sm_ups_eq]; simp only [hr, if_true]; rw [sm_ups_ne (by omega), sm_ups_ne (by omega)]
  · rw [sm_ups_ne (by omega), sm_ups_ne (by omega), sm_ups_ne (by omega)]
theorem c_X5_takeFrom {d : Nat} {F I : Nat → Nat → Int32} {J : Nat → Nat → Int64} {Q : Option Value → sm_H → Prop} {t u : Nat} (ht : isT t) (hu : isT u) (hd : t + 9 < u ∨ u + 9 < t) {f : rw_} (hU : Tw u f F I) (k : ∀ F1 I1 : Nat → Nat → Int32, Tw t f F1 I1 → Fr t F I F1 I1 → Q none (S0, F1, I1, J)) : Wp mX5_takeFrom (d + 2) 0 0 0 (sm_ini [.ref t, .ref u] 2) [] (S0, F, I, J) Q := by
  show Wp _ _ _ _ _ [.ref t, .ref u] _ _ _
  refine wp_aload_n (pc := 0) 0 dX5_takeFrom_0 rfl rfl ?_
  refine wp_aload_n (pc := 1) 1 dX5_takeFrom_1 rfl rfl ?_
  refine wq_getI (pc := 2) 9 0 dX5_takeFrom_2 (tT hu) flX5_9 rfl hu.lt ?_
  refine wq_putI (pc := 5) 9 0 dX5_takeFrom_5 (tT ht) flX5_9 rfl rfl ht.lt ?_
  refine wp_aload_n (pc := 8) 1 dX5_takeFrom_8 rfl rfl ?_
  refine wq_getR (pc := 9) 15 1 dX5_takeFrom_9 (tT hu) flX5_15 rfl rfl hu.lt (hu.ltn 1) ?_
  refine wp_iconst (pc := 12) (0) dX5_takeFrom_12 (by decide) ?_
  refine wp_aload_n (pc := 13) 0 dX5_takeFrom_13 rfl rfl ?_
  refine wq_getR (pc := 14) 15 1 dX5_takeFrom_14 (tT ht) flX5_15 rfl rfl ht.lt (ht.ltn 1) ?_
  refine wp_iconst (pc := 17) (0) dX5_takeFrom_17 (by decide) ?_
  refine wp_bipush (pc := 18) (10) dX5_takeFrom_18 (by decide) ?_
  refine wq_cpy (pc := 20) 10 dX5_takeFrom_20 acX5_53 (tT1 hu) (tT1 ht) (hu.ltn 1) (ht.ltn 1) (by decide) (by decide) (by decide) (by decide) (Nat.le_of_ble_eq_true rfl) ?_
  refine wp_aload_n (pc := 23) 1 dX5_takeFrom_23 rfl rfl ?_
  refine wq_getR (pc := 24) 19 2 dX5_takeFrom_24 (tT hu) flX5_19 rfl rfl hu.lt (hu.ltn 2) ?_
  refine wp_iconst (pc := 27) (0) dX5_takeFrom_27 (by decide) ?_
  refine wp_aload_n (pc := 28) 0 dX5_takeFrom_28 rfl rfl ?_
  refine wq_getR (pc := 29) 19 2 dX5_takeFrom_29 (tT ht) flX5_19 rfl rfl ht.lt (ht.ltn 2) ?_
  refine wp_iconst (pc := 32) (0) dX5_takeFrom_32 (by decide) ?_
  refine wp_bipush (pc := 33) (10) dX5_takeFrom_33 (by decide) ?_
  refine wq_cpy (pc := 35) 10 dX5_takeFrom_35 acX5_53 (tT2 hu) (tT2 ht) (hu.ltn 2) (ht.ltn 2) (by decide) (by decide) (by decide) (by decide) (Nat.le_of_ble_eq_true rfl) ?_
  refine wp_aload_n (pc := 38) 1 dX5_takeFrom_38 rfl rfl ?_
  refine wq_getR (pc := 39) 22 3 dX5_takeFrom_39 (tT hu) flX5_22 rfl rfl hu.lt (hu.ltn 3) ?_
  refine wp_iconst (pc := 42) (0) dX5_takeFrom_42 (by decide) ?_
  refine wp_aload_n (pc := 43) 0 dX5_takeFrom_43 rfl rfl ?_
  refine wq_getR (pc := 44) 22 3 dX5_takeFrom_44 (tT ht) flX5_22 rfl rfl ht.lt (ht.ltn 3) ?_
  refine wp_iconst (pc := 47) (0) dX5_takeFrom_47 (by decide) ?_
  refine wp_bipush (pc := 48) (10) dX5_takeFrom_48 (by decide) ?_
  refine wq_cpy (pc := 50) 10 dX5_takeFrom_50 acX5_53 (tT3 hu) (tT3 ht) (hu.ltn 3) (ht.ltn 3) (by decide) (by decide) (by decide) (by decide) (Nat.le_of_ble_eq_true rfl) ?_
  refine wp_aload_n (pc := 53) 1 dX5_takeFrom_53 rfl rfl ?_
  refine wq_getR (pc := 54) 25 4 dX5_takeFrom_54 (tT hu) flX5_25 rfl rfl hu.lt (hu.ltn 4) ?_
  refine wp_iconst (pc := 57) (0) dX5_takeFrom_57 (by decide) ?_
  refine wp_aload_n (pc := 58) 0 dX5_takeFrom_58 rfl rfl ?_
  refine wq_getR (pc := 59) 25 4 dX5_takeFrom_59 (tT ht) flX5_25 rfl rfl ht.lt (ht.ltn 4) ?_
  refine wp_iconst (pc := 62) (0) dX5_takeFrom_62 (by decide) ?_
  refine wp_bipush (pc := 63) (10) dX5_takeFrom_63 (by decide) ?_
  refine wq_cpy (pc := 65) 10 dX5_takeFrom_65 acX5_53 (tT4 hu) (tT4 ht) (hu.ltn 4) (ht.ltn 4) (by decide) (by decide) (by decide) (by decide) (Nat.le_of_ble_eq_true rfl) ?_
  refine wp_aload_n (pc := 68) 0 dX5_takeFrom_68 rfl rfl ?_
  refine wp_aload_n (pc := 69) 1 dX5_takeFrom_69 rfl rfl ?_
  refine wq_getI (pc := 70) 28 5 dX5_takeFrom_70 (tT hu) flX5_28 rfl hu.lt ?_
  refine wq_putI (pc := 73) 28 5 dX5_takeFrom_73 (tT ht) flX5_28 rfl rfl ht.lt ?_
  refine wp_aload_n (pc := 76) 0 dX5_takeFrom_76 rfl rfl ?_
  refine wp_aload_n (pc := 77) 1 dX5_takeFrom_77 rfl rfl ?_
  refine wq_getI (pc := 78) 31 6 dX5_takeFrom_78 (tT hu) flX5_31 rfl hu.lt ?_
  refine wq_putI (pc := 81) 31 6 dX5_takeFrom_81 (tT ht) flX5_31 rfl rfl ht.lt ?_
  refine wp_aload_n (pc := 84) 0 dX5_takeFrom_84 rfl rfl ?_
  refine wp_aload_n (pc := 85) 1 dX5_takeFrom_85 rfl rfl ?_
  refine wq_getI (pc := 86) 34 7 dX5_takeFrom_86 (tT hu) flX5_34 rfl hu.lt ?_
  refine wq_putI (pc := 89) 34 7 dX5_takeFrom_89 (tT ht) flX5_34 rfl rfl ht.lt ?_
  refine wp_aload_n (pc := 92) 0 dX5_takeFrom_92 rfl rfl ?_
  refine wp_aload_n (pc := 93) 1 dX5_takeFrom_93 rfl rfl ?_
  refine wq_getI (pc := 94) 37 8 dX5_takeFrom_94 (tT hu) flX5_37 rfl hu.lt ?_
  refine wq_putI (pc := 97) 37 8 dX5_takeFrom_97 (tT ht) flX5_37 rfl rfl ht.lt ?_
  refine wp_aload_n (pc := 100) 0 dX5_takeFrom_100 rfl rfl ?_
  refine wp_aload_n (pc := 101) 1 dX5_takeFrom_101 rfl rfl ?_
  refine wq_getI (pc := 102) 40 9 dX5_takeFrom_102 (tT hu) flX5_40 rfl hu.lt ?_
  refine wq_putI (pc := 105) 40 9 dX5_takeFrom_105 (tT ht) flX5_40 rfl rfl ht.lt ?_
  refine wp_aload_n (pc := 108) 0 dX5_takeFrom_108 rfl rfl ?_
  refine wq_getR (pc := 109) 46 10 dX5_takeFrom_109 (tT ht) flX5_46 rfl rfl ht.lt (ht.ltn 5) ?_
  refine wp_aload_n (pc := 112) 1 dX5_takeFrom_112 rfl rfl ?_
  refine wq_getR (pc := 113) 46 10 dX5_takeFrom_113 (tT hu) flX5_46 rfl rfl hu.lt (hu.ltn 5) ?_
  refine wc_V_R (pc := 116) dX5_takeFrom_116 lkX5_59 (sm_Rc.o (ci := 0) (tT5 ht) (by decide) (ht.ltn 5)) (by decide) (Nat.le_of_ble_eq_true rfl) ?_
  refine c_X0_takeFrom ht hu hd (fun F1 I1 hB1 hB2 hB3 hB4 => ?_)
  refine wp_ret (pc := 119) dX5_takeFrom_119 rfl ?_
  have eI : ∀ i, i < 10 → I1 (t + 1) i = I (u + 1) i ∧ I1 (t + 2) i = I (u + 2) i ∧ I1 (t + 3) i = I (u + 3) i ∧ I1 (t + 4) i = I (u + 4) i := by
    intro i hi
    rw [hB4 (t + 1) (by omega), hB4 (t + 2) (by omega), hB4 (t + 3) (by omega), hB4 (t + 4) (by omega)]
    refine ⟨?_, ?_, ?_, ?_⟩
    · rw [sm_ups_ne (by omega), sm_ups_ne (by omega), sm_ups_ne (by omega), sm_ups_eq]; simp [hi]
    · rw [sm_ups_ne (by omega), sm_ups_ne (by omega), sm_ups_eq]; simp only [hi, if_true]; rw [sm_ups_ne (by omega)]
    · rw [sm_ups_ne (by omega), sm_ups_eq]; simp only [hi, if_true]; rw [sm_ups_ne (by omega), sm_ups_ne (by omega)]
    · rw [sm_ups_eq]; simp only [hi, if_true]; rw [sm_ups_ne (by omega), sm_ups_ne (by omega), sm_ups_ne (by omega)]
  obtain ⟨u1, u2, u3, u4, u5, u6, u7, u8, u9⟩ := hU
  refine k F1 I1 ⟨?_, ?_, ?_, ?_, ?_, ?_, ?_, fun i hi => ?_, fun r hr => ?_⟩ (fun a ha => ⟨?_, ?_⟩)
  · rw [hB3 t (by omega)]; simp only [sm_up]; simp; exact u1
  · rw [hB3 t (by omega)]; simp only [sm_up]; simp [show ¬ u = t by omega]; exact u2
  · rw [hB3 t (by omega)]; simp only [sm_up]; simp [show ¬ u = t by omega]; exact u3
  · rw [hB3 t (by omega)]; simp only [sm_up]; simp [show ¬ u = t by omega]; exact u4
  · rw [hB3 t (by omega)]; simp only [sm_up]; simp [show ¬ u = t by omega]; exact u5
  · rw [hB3 t (by omega)]; simp only [sm_up]; simp [show ¬ u = t by omega]; exact u6
  · rw [hB1]; simp only [sm_up]; simp [show ¬ u + 5 = t by omega]; exact u7
  · obtain ⟨e1, e2, e3, e4⟩ := eI i hi
    rw [e1, e2, e3, e4]; exact u8 i hi
  · obtain ⟨e1, e2, e3⟩ := hB2 r hr
    rw [e1, e2, e3, sm_ups_ne (by omega), sm_ups_ne (by omega), sm_ups_ne (by omega), sm_ups_ne (by omega), sm_ups_ne (by omega), sm_ups_ne (by omega), sm_ups_ne (by omega), sm_ups_ne (by omega), sm_ups_ne (by omega), sm_ups_ne (by omega), sm_ups_ne (by omega), sm_ups_ne (by omega)]; exact u9 r hr
  · rw [hB3 a (by omega), sm_up_ne (by omega), sm_up_ne (by omega), sm_up_ne (by omega), sm_up_ne (by omega), sm_up_ne (by omega), sm_up_ne (by omega)]
  · rw [hB4 a (by omega), sm_ups_ne (by omega), sm_ups_ne (by omega), sm_ups_ne (by omega), sm_ups_ne (by omega)]
theorem c_X0_addRinger {d : Nat} {F I : Nat → Nat → Int32} {J : Nat → Nat → Int64} {Q : Option Value → sm_H → Prop} {t : Nat} (ht : isT t) {f : rw_} (hw : WF f) (hT : Tw t f F I) {a b c : Nat} (hc6 : f 69 < 6) (k : ∀ F1 I1 : Nat → Nat → Int32, Tw t (addR f a b c) F1 I1 → Fr t F I F1 I1 → Q (some (.int (nI (f 69)))) (S0, F1, I1, J)) : Wp mX0_addRinger (d + 1) 0 0 0 (sm_ini [.ref (t + 5), .int (nI a), .int (nI b), .int (nI c)] 5) [] (S0, F, I, J) Q := by
  show Wp _ _ _ _ _ [.ref (t + 5), .int (nI a), .int (nI b), .int (nI c), .null] _ _ _
  refine wp_aload_n (pc := 0) 0 dX0_addRinger_0 rfl rfl ?_
  refine wq_getI (pc := 1) 9 0 dX0_addRinger_1 (tT5 ht) flX0_9 rfl (ht.ltn 5) ?_
  refine wp_int hT.crew ?_
  refine wp_istore (pc := 4) 4 dX0_addRinger_4 (by decide) rfl ?_
  refine wp_aload_n (pc := 6) 0 dX0_addRinger_6 rfl rfl ?_
  refine wq_getR (pc := 7) 15 1 dX0_addRinger_7 (tT5 ht) flX0_15 rfl rfl (ht.ltn 5) (ht.ltn 6) ?_
  refine wp_iload (pc := 10) 4 dX0_addRinger_10 rfl ?_
  refine wp_iload_n (pc := 12) 1 dX0_addRinger_12 rfl rfl ?_
  refine wc_SN_RII (pc := 13) dX0_addRinger_13 lkX0_35 (by decide) (Nat.le_of_ble_eq_true rfl) ?_
  refine c_X6_put (tT6 ht) (ht.ltn 6) (by decide) hc6 ?_
  refine wp_aload_n (pc := 16) 0 dX0_addRinger_16 rfl rfl ?_
  refine wq_getR (pc := 17) 19 2 dX0_addRinger_17 (tT5 ht) flX0_19 rfl rfl (ht.ltn 5) (ht.ltn 7) ?_
  refine wp_iload (pc := 20) 4 dX0_addRinger_20 rfl ?_
  refine wp_iload_n (pc := 22) 2 dX0_addRinger_22 rfl rfl ?_
  refine wc_SN_RII (pc := 23) dX0_addRinger_23 lkX0_35 (by decide) (Nat.le_of_ble_eq_true rfl) ?_
  refine c_X6_put (tT7 ht) (ht.ltn 7) (by decide) hc6 ?_
  refine wp_aload_n (pc := 26) 0 dX0_addRinger_26 rfl rfl ?_
  refine wq_getR (pc := 27) 22 3 dX0_addRinger_27 (tT5 ht) flX0_22 rfl rfl (ht.ltn 5) (ht.ltn 8) ?_
  refine wp_iload (pc := 30) 4 dX0_addRinger_30 rfl ?_
  refine wp_iload_n (pc := 32) 3 dX0_addRinger_32 rfl rfl ?_
  refine wc_SN_RII (pc := 33) dX0_addRinger_33 lkX0_35 (by decide) (Nat.le_of_ble_eq_true rfl) ?_
  refine c_X6_put (tT8 ht) (ht.ltn 8) (by decide) hc6 ?_
  refine wp_aload_n (pc := 36) 0 dX0_addRinger_36 rfl rfl ?_
  refine wp_iload (pc := 37) 4 dX0_addRinger_37 rfl ?_
  refine wp_iconst (pc := 39) (1) dX0_addRinger_39 (by decide) ?_
  refine wp_iadd (pc := 40) dX0_addRinger_40 ?_
  refine wp_int (nI_1 _) ?_
  refine wq_putI (pc := 41) 9 0 dX0_addRinger_41 (tT5 ht) flX0_9 rfl rfl (ht.ltn 5) ?_
  refine wp_iload (pc := 44) 4 dX0_addRinger_44 rfl ?_
  refine wp_iretI (pc := 46) dX0_addRinger_46 rfl ?_
  exact k _ _ ((((hT.uR (Or.inl ⟨rfl, rfl⟩) hc6).uR (Or.inr (Or.inl ⟨rfl, rfl⟩)) hc6).uR (Or.inr (Or.inr ⟨rfl, rfl⟩)) hc6).uC) ((((Fr.rf.I (by omega) (by omega)).I (by omega) (by omega)).I (by omega) (by omega)).F (by omega) (by omega))
