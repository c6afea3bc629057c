/-! ===== the developers' tower: searches, depths, changes ===== -/
theorem untl_bad {f : rw_} {s i : Nat} (hi : i < f 68) (h : dyOk f s i = false) : untl f s = -1 := by
  unfold untl
  rw [allB_f hi h, if_neg (by decide)]
theorem untl_ok {f : rw_} {s : Nat} (h : ∀ i, i < f 68 → dyOk f s i = true) : untl f s = nI (dyU f s (f 68)) := by
  unfold untl
  rw [allB_t.mpr h, if_pos rfl]
theorem dyU_f {f : rw_} {s i : Nat} (h : s.testBit i = false) : dyU f s (i + 1) = dyU f s i := by rw [dyU, if_neg (by rw [h]; decide)]
theorem dyU_t {f : rw_} {s i : Nat} (h : s.testBit i = true) : dyU f s (i + 1) = max (dyU f s i) ((f (5 * i + 1) + 4 - f 70) % 4 + 1) := by rw [dyU, if_pos h]
theorem c_X5_daysUntil {d : Nat} {F I : Nat → Nat → Int32} {J : Nat → Nat → Int64} {Q : Option Value → sm_H → Prop} {t : Nat} (ht : isT t) {f : rw_} (hw : WF f) (hT : Tw t f F I) {b : Nat} (hb : b < 1024) (k : Q (some (.int (untl f b))) (S0, F, I, J)) : Wp mX5_daysUntil (d + 2) 0 0 0 (sm_ini [.ref t, .int (nI b)] 4) [] (S0, F, I, J) Q := by
  show Wp _ _ _ _ _ [.ref t, .int (nI b), .null, .null] _ _ _
  refine wp_iconst (pc := 0) (0) dX5_daysUntil_0 (by decide) ?_
  refine wp_istore_n (pc := 1) 2 dX5_daysUntil_1 rfl (by decide) rfl ?_
  refine wp_iconst (pc := 2) (0) dX5_daysUntil_2 (by decide) ?_
  refine wp_istore_n (pc := 3) 3 dX5_daysUntil_3 rfl (by decide) rfl ?_
  refine wp_loop (fun i => [.ref t, .int (nI b), .int (nI (dyU f b i)), .int (nI i)]) (fun i => (S0, F, I, J)) (fun i => ∀ j, j < i → dyOk f b j = true) (f 68) (fun i hi hv nx => ?_) (fun hv => ?_) 0 (by omega) (fun j hj => absurd hj (Nat.not_lt_zero j))
  · have hn := hw.n
    have hi10 : i < 10 := by omega
    have hb := bn_1024 hw
    have hr := hw.rung hi10
    have hh := hw.wth
    have hd := dyU_le f b i
    have hmod := Nat.mod_lt (f (5 * i + 1) + 4 - f 70) (show 4 > 0 by decide)
    refine wp_iload_n (pc := 4) 3 dX5_daysUntil_4 rfl rfl ?_
    refine wp_aload_n (pc := 5) 0 dX5_daysUntil_5 rfl rfl ?_
    refine wq_getI (pc := 6) 9 0 dX5_daysUntil_6 (tT ht) flX5_9 rfl ht.lt ?_
    refine wp_int hT.n ?_
    refine wp_icmp_ge (pc := 9) 71 dX5_daysUntil_9 (by decide) (fun c_9 => ?_) (fun c_9 => ?_)
    · exact absurd c_9 (nI_ge (b := (f 68)) hi (by omega))
    · refine wp_iload_n (pc := 12) 1 dX5_daysUntil_12 rfl rfl ?_
      refine wp_iload_n (pc := 13) 3 dX5_daysUntil_13 rfl rfl ?_
      refine wc_SN_II (pc := 14) dX5_daysUntil_14 lkX5_97 (by decide) (Nat.le_of_ble_eq_true rfl) ?_
      refine c_X6_isIn (by omega) (by omega) ?_
      refine wp_ifeqB (pc := 17) 65 dX5_daysUntil_17 (by decide) (fun c_17 => ?_) (fun c_17 => ?_)
      · refine wp_incN (pc := 65) 3 dX5_daysUntil_65 rfl (by decide) rfl ?_
        refine wp_goto (pc := 68) 4 dX5_daysUntil_68 (by decide) ?_
        have nx := nx (fun j hj => by
          by_cases hji : j = i
          · subst hji; simp [dyOk, c_17]
          · exact hv j (by omega))
        rw [dyU_f c_17] at nx
        exact nx
      · refine wp_aload_n (pc := 20) 0 dX5_daysUntil_20 rfl rfl ?_
        refine wq_getI (pc := 21) 28 5 dX5_daysUntil_21 (tT ht) flX5_28 rfl ht.lt ?_
        refine wp_int hT.been ?_
        refine wp_iload_n (pc := 24) 3 dX5_daysUntil_24 rfl rfl ?_
        refine wc_SN_II (pc := 25) dX5_daysUntil_25 lkX5_97 (by decide) (Nat.le_of_ble_eq_true rfl) ?_
        refine c_X6_isIn (by omega) (by omega) ?_
        refine wp_ifeqB (pc := 28) 39 dX5_daysUntil_28 (by decide) (fun c_28 => ?_) (fun c_28 => ?_)
        · refine wp_iconst (pc := 39) (-1) dX5_daysUntil_39 (by decide) ?_
          refine wp_iretI (pc := 40) dX5_daysUntil_40 rfl ?_
          rw [untl_bad hi (by simp [dyOk, c_17, c_28])] at k; exact k
        · refine wp_aload_n (pc := 31) 0 dX5_daysUntil_31 rfl rfl ?_
          refine wp_iload_n (pc := 32) 3 dX5_daysUntil_32 rfl rfl ?_
          refine wc_V_I (pc := 33) dX5_daysUntil_33 lkX5_86 (sm_Rc.o (ci := 4) (tT ht) (by decide) ht.lt) (by decide) (Nat.le_of_ble_eq_true rfl) ?_
          refine c_X5_isOpen ht hw hT (by omega) ?_
          refine wp_ifneB (pc := 36) 41 dX5_daysUntil_36 (by decide) (fun c_36 => ?_) (fun c_36 => ?_)
          · refine wp_iload_n (pc := 41) 2 dX5_daysUntil_41 rfl rfl ?_
            refine wp_aload_n (pc := 42) 0 dX5_daysUntil_42 rfl rfl ?_
            refine wq_getR (pc := 43) 19 2 dX5_daysUntil_43 (tT ht) flX5_19 rfl rfl ht.lt (ht.ltn 2) ?_
            refine wp_iload_n (pc := 46) 3 dX5_daysUntil_46 rfl rfl ?_
            refine wc_SN_RI (pc := 47) dX5_daysUntil_47 lkX5_71 (by decide) (Nat.le_of_ble_eq_true rfl) ?_
            refine c_X6_at (tT2 ht) (ht.ltn 2) (by decide) hi10 ?_
            refine wp_int (hT.rung hi10) ?_
            refine wp_aload_n (pc := 50) 0 dX5_daysUntil_50 rfl rfl ?_
            refine wq_getI (pc := 51) 31 6 dX5_daysUntil_51 (tT ht) flX5_31 rfl ht.lt ?_
            refine wp_int hT.wth ?_
            refine wp_isub (pc := 54) dX5_daysUntil_54 ?_
            refine wp_iconst (pc := 55) (4) dX5_daysUntil_55 (by decide) ?_
            refine wc_S_II (pc := 56) dX5_daysUntil_56 lkX5_135 (by decide) (Nat.le_of_ble_eq_true rfl) ?_
            refine c_J9_floorMod_7cf53 (by decide) ?_
            refine wp_int (fmod4 hr hh) ?_
            refine wp_iconst (pc := 59) (1) dX5_daysUntil_59 (by decide) ?_
            refine wp_iadd (pc := 60) dX5_daysUntil_60 ?_
            refine wp_int (nI_1 _) ?_
            refine wc_S_II (pc := 61) dX5_daysUntil_61 lkX5_101 (by decide) (Nat.le_of_ble_eq_true rfl) ?_
            refine c_J9_max_7cf53 ?_
            refine wp_int (max_nI (by omega) (by omega)) ?_
            refine wp_istore_n (pc := 64) 2 dX5_daysUntil_64 rfl (by decide) rfl ?_
            refine wp_incN (pc := 65) 3 dX5_daysUntil_65 rfl (by decide) rfl ?_
            refine wp_goto (pc := 68) 4 dX5_daysUntil_68 (by decide) ?_
            have nx := nx (fun j hj => by
              by_cases hji : j = i
              · subst hji; simp [dyOk, c_28, c_36]
              · exact hv j (by omega))
            rw [dyU_t c_17] at nx
            exact nx
          · refine wp_iconst (pc := 39) (-1) dX5_daysUntil_39 (by decide) ?_
            refine wp_iretI (pc := 40) dX5_daysUntil_40 rfl ?_
            rw [untl_bad hi (by simp [dyOk, c_17, c_36])] at k; exact k
  · refine wp_iload_n (pc := 4) 3 dX5_daysUntil_4 rfl rfl ?_
    refine wp_aload_n (pc := 5) 0 dX5_daysUntil_5 rfl rfl ?_
    refine wq_getI (pc := 6) 9 0 dX5_daysUntil_6 (tT ht) flX5_9 rfl ht.lt ?_
    refine wp_int hT.n ?_
    refine wp_icmp_ge (pc := 9) 71 dX5_daysUntil_9 (by decide) (fun c_9 => ?_) (fun c_9 => ?_)
    · refine wp_iload_n (pc := 71) 2 dX5_daysUntil_71 rfl rfl ?_
      refine wp_iretI (pc := 72) dX5_daysUntil_72 rfl ?_
      rw [untl_ok hv] at k; exact k
    · exact absurd (Int32.le_refl _) c_9
theorem miss_lt {f : rw_} (h : WF f) {i : Nat} (hi : i < 10) : miss f i < 1024 := dif_1024 _ (or_lt (n := 10) (down_1024 h hi) (p2_lt hi))
theorem c_X5_stepsToPutBack {d : Nat} {F I : Nat → Nat → Int32} {J : Nat → Nat → Int64} {Q : Option Value → sm_H → Prop} {t : Nat} (ht : isT t) {f : rw_} (hw : WF f) (hT : Tw t f F I) {a : Nat} (ha : a < 10) (k : Q (some (.int (ptb f a))) (S0, F, I, J)) : Wp mX5_stepsToPutBack (d + 3) 0 0 0 (sm_ini [.ref t, .int (nI a)] 4) [] (S0, F, I, J) Q := by
  show Wp _ _ _ _ _ [.ref t, .int (nI a), .null, .null] _ _ _
  refine wp_aload_n (pc := 0) 0 dX5_stepsToPutBack_0 rfl rfl ?_
  refine wp_iload_n (pc := 1) 1 dX5_stepsToPutBack_1 rfl rfl ?_
  refine wc_V_I (pc := 2) dX5_stepsToPutBack_2 lkX5_132 (sm_Rc.o (ci := 4) (tT ht) (by decide) ht.lt) (by decide) (Nat.le_of_ble_eq_true rfl) ?_
  refine c_X5_downOf ht hw hT ha ?_
  refine wp_iconst (pc := 5) (1) dX5_stepsToPutBack_5 (by decide) ?_
  refine wp_iload_n (pc := 6) 1 dX5_stepsToPutBack_6 rfl rfl ?_
  refine wp_ishl (pc := 7) dX5_stepsToPutBack_7 ?_
  refine wp_int (bt_one (by omega)) ?_
  refine wp_ior (pc := 8) dX5_stepsToPutBack_8 ?_
  refine wp_int (bt_or _ _) ?_
  refine wp_aload_n (pc := 9) 0 dX5_stepsToPutBack_9 rfl rfl ?_
  refine wq_getI (pc := 10) 28 5 dX5_stepsToPutBack_10 (tT ht) flX5_28 rfl ht.lt ?_
  refine wp_int hT.been ?_
  refine wp_iconst (pc := 13) (-1) dX5_stepsToPutBack_13 (by decide) ?_
  refine wp_ixor (pc := 14) dX5_stepsToPutBack_14 ?_
  refine wp_iand (pc := 15) dX5_stepsToPutBack_15 ?_
  refine wp_int (bt_dif _ _) ?_
  refine wp_istore_n (pc := 16) 2 dX5_stepsToPutBack_16 rfl (by decide) rfl ?_
  refine wp_iconst (pc := 17) (0) dX5_stepsToPutBack_17 (by decide) ?_
  refine wp_istore_n (pc := 18) 3 dX5_stepsToPutBack_18 rfl (by decide) rfl ?_
  refine wp_loop (fun i => [.ref t, .int (nI a), .int (nI (miss f a)), .int (nI i)]) (fun i => (S0, F, I, J)) (fun i => ∀ j, j < i → (!(miss f a).testBit j || opn f j) = true) (f 68) (fun i hi hv nx => ?_) (fun hv => ?_) 0 (by omega) (fun j hj => absurd hj (Nat.not_lt_zero j))
  · have hn := hw.n
    have hi10 : i < 10 := by omega
    have hb := bn_1024 hw
    have hm := miss_lt hw ha
    refine wp_iload_n (pc := 19) 3 dX5_stepsToPutBack_19 rfl rfl ?_
    refine wp_aload_n (pc := 20) 0 dX5_stepsToPutBack_20 rfl rfl ?_
    refine wq_getI (pc := 21) 9 0 dX5_stepsToPutBack_21 (tT ht) flX5_9 rfl ht.lt ?_
    refine wp_int hT.n ?_
    refine wp_icmp_ge (pc := 24) 51 dX5_stepsToPutBack_24 (by decide) (fun c_24 => ?_) (fun c_24 => ?_)
    · exact absurd c_24 (nI_ge (b := (f 68)) hi (by omega))
    · refine wp_iload_n (pc := 27) 2 dX5_stepsToPutBack_27 rfl rfl ?_
      refine wp_iload_n (pc := 28) 3 dX5_stepsToPutBack_28 rfl rfl ?_
      refine wc_SN_II (pc := 29) dX5_stepsToPutBack_29 lkX5_97 (by decide) (Nat.le_of_ble_eq_true rfl) ?_
      refine c_X6_isIn (by omega) (by omega) ?_
      refine wp_ifeqB (pc := 32) 45 dX5_stepsToPutBack_32 (by decide) (fun c_32 => ?_) (fun c_32 => ?_)
      · refine wp_incN (pc := 45) 3 dX5_stepsToPutBack_45 rfl (by decide) rfl ?_
        refine wp_goto (pc := 48) 19 dX5_stepsToPutBack_48 (by decide) ?_
        have nx := nx (fun j hj => by
          by_cases hji : j = i
          · subst hji; simp [c_32]
          · exact hv j (by omega))
        exact nx
      · refine wp_aload_n (pc := 35) 0 dX5_stepsToPutBack_35 rfl rfl ?_
        refine wp_iload_n (pc := 36) 3 dX5_stepsToPutBack_36 rfl rfl ?_
        refine wc_V_I (pc := 37) dX5_stepsToPutBack_37 lkX5_86 (sm_Rc.o (ci := 4) (tT ht) (by decide) ht.lt) (by decide) (Nat.le_of_ble_eq_true rfl) ?_
        refine c_X5_isOpen ht hw hT (by omega) ?_
        refine wp_ifneB (pc := 40) 45 dX5_stepsToPutBack_40 (by decide) (fun c_40 => ?_) (fun c_40 => ?_)
        · refine wp_incN (pc := 45) 3 dX5_stepsToPutBack_45 rfl (by decide) rfl ?_
          refine wp_goto (pc := 48) 19 dX5_stepsToPutBack_48 (by decide) ?_
          have nx := nx (fun j hj => by
            by_cases hji : j = i
            · subst hji; simp [c_40]
            · exact hv j (by omega))
          exact nx
        · refine wp_iconst (pc := 43) (-1) dX5_stepsToPutBack_43 (by decide) ?_
          refine wp_iretI (pc := 44) dX5_stepsToPutBack_44 rfl ?_
          rw [show ptb f a = -1 by unfold ptb; rw [allB_f hi (by simp [c_32, c_40]), if_neg (by decide)]] at k; exact k
  · refine wp_iload_n (pc := 19) 3 dX5_stepsToPutBack_19 rfl rfl ?_
    refine wp_aload_n (pc := 20) 0 dX5_stepsToPutBack_20 rfl rfl ?_
    refine wq_getI (pc := 21) 9 0 dX5_stepsToPutBack_21 (tT ht) flX5_9 rfl ht.lt ?_
    refine wp_int hT.n ?_
    refine wp_icmp_ge (pc := 24) 51 dX5_stepsToPutBack_24 (by decide) (fun c_24 => ?_) (fun c_24 => ?_)
    · refine wp_iload_n (pc := 51) 2 dX5_stepsToPutBack_51 rfl rfl ?_
      refine wc_S_I (pc := 52) dX5_stepsToPutBack_52 lkX5_138 (by decide) (Nat.le_of_ble_eq_true rfl) ?_
      refine c_J6_bitCount_0f7a4 ?_
      refine wp_int (bc_pop (miss_lt hw ha)) ?_
      refine wp_iretI (pc := 55) dX5_stepsToPutBack_55 rfl ?_
      rw [show ptb f a = nI (pop (miss f a)) by unfold ptb; rw [allB_t.mpr hv, if_pos rfl]] at k; exact k
    · exact absurd (Int32.le_refl _) c_24
/-- the depths' row, filled as far as i -/
def dpI (f : rw_) (t : Nat) (I : Nat → Nat → Int32) (i : Nat) : Nat → Nat → Int32 := fun a b => if a = t + 9 ∧ b < i then nI (dep f b) else I a b
theorem dpI_0 (f : rw_) (t : Nat) (I : Nat → Nat → Int32) : dpI f t I 0 = I := by funext a b; simp [dpI]
theorem dpI_s (f : rw_) (t : Nat) (I : Nat → Nat → Int32) (i : Nat) : sm_up (dpI f t I i) (t + 9) i (nI (dep f i)) = dpI f t I (i + 1) := by
  funext a b
  simp only [sm_up, dpI]
  by_cases h : a = t + 9 ∧ b = i
  · rw [if_pos h, if_pos ⟨h.1, by omega⟩, h.2]
  · rw [if_neg h]
    by_cases h2 : a = t + 9 ∧ b < i
    · rw [if_pos h2, if_pos ⟨h2.1, by omega⟩]
    · rw [if_neg h2, if_neg (by omega)]
theorem dpI_ne {f : rw_} {t : Nat} {I : Nat → Nat → Int32} {i a : Nat} (h : a ≠ t + 9) : dpI f t I i a = I a := by funext b; simp [dpI, h]
theorem dpI_at {f : rw_} {t : Nat} {I : Nat → Nat → Int32} {i j : Nat} (h : j < i) : dpI f t I i (t + 9) j = nI (dep f j) := by simp [dpI, h]
theorem mxU_t {f : rw_} {g : Nat → Nat} {i k : Nat} (h : (f (5 * i + 2)).testBit k = true) : mxU f g i (k + 1) = max (mxU f g i k) (g k + 1) := by rw [mxU, if_pos h]
theorem mxU_f {f : rw_} {g : Nat → Nat} {i k : Nat} (h : (f (5 * i + 2)).testBit k = false) : mxU f g i (k + 1) = mxU f g i k := by rw [mxU, if_neg (by rw [h]; decide)]
def wkP : List Value → List Value → Prop
  | [], _ => True
  | _ :: _, [] => False
  | a :: as, b :: bs => (a = .null ∨ a = b) ∧ wkP as bs
theorem wkP_at : ∀ {l m : List Value}, wkP l m → ∀ {i : Nat} {v : Value}, l[i]? = some v → v ≠ .null → m[i]? = some v
  | [], _, _, i, v, h, _ => by simp at h
  | _ :: _, [], hw, _, _, _, _ => absurd hw (fun z => z)
  | a :: as, b :: bs, hw, i, v, h, hv => by
    cases i with
    | zero =>
      rw [List.getElem?_cons_zero] at h ⊢
      cases h
      rcases hw.1 with e | e
      · exact absurd e hv
      · rw [e]
    | succ i =>
      rw [List.getElem?_cons_succ] at h ⊢
      exact wkP_at hw.2 h hv
theorem wp_weak {M : sm_M} {d mc ms pc : Nat} {lv st lv2 : List Value} {h : sm_H} {Q : Option Value → sm_H → Prop} (hw : wkP lv2 lv) (k : Wp M d mc ms pc lv2 st h Q) : Wp M d mc ms pc lv st h Q := by
  intro X p l e_ R s m args below meth c H locs cells slots QQ ls F hP hS hL hk
  exact k X p l e_ R s m args below meth c H locs cells slots QQ ls F hP hS ⟨hL.1, hL.2.1, fun i v hi hv => hL.2.2 i v (wkP_at hw hi hv) hv⟩ hk
theorem c_X5_measureDepths {d : Nat} {F I : Nat → Nat → Int32} {J : Nat → Nat → Int64} {Q : Option Value → sm_H → Prop} {t : Nat} (ht : isT t) {f : rw_} (hw : WF f) (hT : Tw t f F I)  (k : Q none (S0, F, dpI f t I 10, J)) : Wp mX5_measureDepths (d + 2) 0 0 0 (sm_ini [.ref t] 4) [] (S0, F, I, J) Q := by
  show Wp _ _ _ _ _ [.ref t, .null, .null, .null] _ _ _
  refine wp_iconst (pc := 0) (0) dX5_measureDepths_0 (by decide) ?_
  refine wp_istore_n (pc := 1) 1 dX5_measureDepths_1 rfl (by decide) rfl ?_
  rw [← dpI_0 f t I]
  refine wp_loop (fun i => [.ref t, .int (nI i), .null, .null]) (fun i => (S0, F, dpI f t I i, J)) (fun i => True) 10 (fun i hi hv nx => ?_) (fun hv => ?_) 0 (by omega) trivial
  · have hT2 : Tw t f F (dpI f t I i) := hT.frame (fun _ _ => rfl) (fun a h1 h2 => dpI_ne (by omega))
    refine wp_iload_n (pc := 2) 1 dX5_measureDepths_2 rfl rfl ?_
    refine wp_aload_n (pc := 3) 0 dX5_measureDepths_3 rfl rfl ?_
    refine wq_getR (pc := 4) 50 11 dX5_measureDepths_4 (tT ht) flX5_50 rfl rfl ht.lt (ht.ltn 9) ?_
    refine wp_alenI (pc := 7) 10 dX5_measureDepths_7 (tT9 ht) (ht.ltn 9) (by decide) ?_
    refine wp_icmp_ge (pc := 8) 64 dX5_measureDepths_8 (by decide) (fun c_8 => ?_) (fun c_8 => ?_)
    · exact absurd c_8 (nI_ge (b := 10) hi (by omega))
    · refine wp_iconst (pc := 11) (0) dX5_measureDepths_11 (by decide) ?_
      refine wp_istore_n (pc := 12) 2 dX5_measureDepths_12 rfl (by decide) rfl ?_
      refine wp_iconst (pc := 13) (0) dX5_measureDepths_13 (by decide) ?_
      refine wp_istore_n (pc := 14) 3 dX5_measureDepths_14 rfl (by decide) rfl ?_
      refine wp_loop (fun j => [.ref t, .int (nI i), .int (nI (mxU f (dep f) i j)), .int (nI j)]) (fun _ => (S0, F, dpI f t I i, J)) (fun _ => True) i (fun j hj hv nx => ?_) (fun hv => ?_) 0 (by omega) trivial
      · have hO := hw.on10 hi
        have hdj := dep_le f j
        have hm := mxU_le f i i (k := j) (fun a ha => Nat.lt_of_le_of_lt (dep_le f a) (show a < i by omega))
        refine wp_iload_n (pc := 15) 3 dX5_measureDepths_15 rfl rfl ?_
        refine wp_iload_n (pc := 16) 1 dX5_measureDepths_16 rfl rfl ?_
        refine wp_icmp_ge (pc := 17) 51 dX5_measureDepths_17 (by decide) (fun c_17 => ?_) (fun c_17 => ?_)
        · exact absurd c_17 (nI_ge (b := i) hj (by omega))
        · refine wp_aload_n (pc := 20) 0 dX5_measureDepths_20 rfl rfl ?_
          refine wp_iload_n (pc := 21) 1 dX5_measureDepths_21 rfl rfl ?_
          refine wc_V_I (pc := 22) dX5_measureDepths_22 lkX5_79 (sm_Rc.o (ci := 4) (tT ht) (by decide) ht.lt) (by decide) (Nat.le_of_ble_eq_true rfl) ?_
          refine c_X5_hungOf ht hw hT2 hi ?_
          refine wp_iload_n (pc := 25) 3 dX5_measureDepths_25 rfl rfl ?_
          refine wc_SN_II (pc := 26) dX5_measureDepths_26 lkX5_97 (by decide) (Nat.le_of_ble_eq_true rfl) ?_
          refine c_X6_isIn (by omega) (by omega) ?_
          refine wp_ifeqB (pc := 29) 45 dX5_measureDepths_29 (by decide) (fun c_29 => ?_) (fun c_29 => ?_)
          · refine wp_incN (pc := 45) 3 dX5_measureDepths_45 rfl (by decide) rfl ?_
            refine wp_goto (pc := 48) 15 dX5_measureDepths_48 (by decide) ?_
            have nx := nx trivial
            rw [mxU_f c_29] at nx
            exact nx
          · refine wp_iload_n (pc := 32) 2 dX5_measureDepths_32 rfl rfl ?_
            refine wp_aload_n (pc := 33) 0 dX5_measureDepths_33 rfl rfl ?_
            refine wq_getR (pc := 34) 50 11 dX5_measureDepths_34 (tT ht) flX5_50 rfl rfl ht.lt (ht.ltn 9) ?_
            refine wp_iload_n (pc := 37) 3 dX5_measureDepths_37 rfl rfl ?_
            refine wq_iald (pc := 38) j dX5_measureDepths_38 (tT9 ht) (ht.ltn 9) rfl (by omega) (by decide) ?_
            refine wp_int (dpI_at hj) ?_
            refine wp_iconst (pc := 39) (1) dX5_measureDepths_39 (by decide) ?_
            refine wp_iadd (pc := 40) dX5_measureDepths_40 ?_
            refine wp_int (nI_1 _) ?_
            refine wc_S_II (pc := 41) dX5_measureDepths_41 lkX5_101 (by decide) (Nat.le_of_ble_eq_true rfl) ?_
            refine c_J9_max_7cf53 ?_
            refine wp_int (max_nI (by omega) (by omega)) ?_
            refine wp_istore_n (pc := 44) 2 dX5_measureDepths_44 rfl (by decide) rfl ?_
            refine wp_incN (pc := 45) 3 dX5_measureDepths_45 rfl (by decide) rfl ?_
            refine wp_goto (pc := 48) 15 dX5_measureDepths_48 (by decide) ?_
            have nx := nx trivial
            rw [mxU_t c_29] at nx
            exact nx
      · refine wp_iload_n (pc := 15) 3 dX5_measureDepths_15 rfl rfl ?_
        refine wp_iload_n (pc := 16) 1 dX5_measureDepths_16 rfl rfl ?_
        refine wp_icmp_ge (pc := 17) 51 dX5_measureDepths_17 (by decide) (fun c_17 => ?_) (fun c_17 => ?_)
        · refine wp_aload_n (pc := 51) 0 dX5_measureDepths_51 rfl rfl ?_
          refine wq_getR (pc := 52) 50 11 dX5_measureDepths_52 (tT ht) flX5_50 rfl rfl ht.lt (ht.ltn 9) ?_
          refine wp_iload_n (pc := 55) 1 dX5_measureDepths_55 rfl rfl ?_
          refine wp_iload_n (pc := 56) 2 dX5_measureDepths_56 rfl rfl ?_
          refine wq_iast (pc := 57) i dX5_measureDepths_57 (tT9 ht) (ht.ltn 9) rfl hi (by decide) ?_
          refine wp_incN (pc := 58) 1 dX5_measureDepths_58 rfl (by decide) rfl ?_
          refine wp_goto (pc := 61) 2 dX5_measureDepths_61 (by decide) ?_
          have nx := nx trivial
          rw [← dpI_s, dep_eq] at nx
          refine wp_weak ?_ nx
          exact And.intro (Or.inr rfl) (And.intro (Or.inr rfl) (And.intro (Or.inl rfl) (And.intro (Or.inl rfl) (trivial))))
        · exact absurd (Int32.le_refl _) c_17
  · refine wp_iload_n (pc := 2) 1 dX5_measureDepths_2 rfl rfl ?_
    refine wp_aload_n (pc := 3) 0 dX5_measureDepths_3 rfl rfl ?_
    refine wq_getR (pc := 4) 50 11 dX5_measureDepths_4 (tT ht) flX5_50 rfl rfl ht.lt (ht.ltn 9) ?_
    refine wp_alenI (pc := 7) 10 dX5_measureDepths_7 (tT9 ht) (ht.ltn 9) (by decide) ?_
    refine wp_icmp_ge (pc := 8) 64 dX5_measureDepths_8 (by decide) (fun c_8 => ?_) (fun c_8 => ?_)
    · refine wp_ret (pc := 64) dX5_measureDepths_64 rfl ?_
      exact k
    · exact absurd (Int32.le_refl _) c_8
theorem dpI_Tw {t : Nat} {f : rw_} {F I : Nat → Nat → Int32} (hT : Tw t f F I) (i : Nat) : Tw t f F (dpI f t I i) := hT.frame (fun _ _ => rfl) (fun a h1 h2 => dpI_ne (by omega))
theorem dpI_Fr {t : Nat} {f : rw_} {F I : Nat → Nat → Int32} (i : Nat) : Fr t F I F (dpI f t I i) := fun a ha => ⟨rfl, dpI_ne (by omega)⟩
theorem c_X5_depthOf {d : Nat} {F I : Nat → Nat → Int32} {J : Nat → Nat → Int64} {Q : Option Value → sm_H → Prop} {t : Nat} (ht : isT t) {f : rw_} (hw : WF f) (hT : Tw t f F I) {a : Nat} (ha : a < 10) (k : Q (some (.int (nI (dep f a)))) (S0, F, dpI f t I 10, J)) : Wp mX5_depthOf (d + 3) 0 0 0 (sm_ini [.ref t, .int (nI a)] 2) [] (S0, F, I, J) Q := by
  show Wp _ _ _ _ _ [.ref t, .int (nI a)] _ _ _
  refine wp_aload_n (pc := 0) 0 dX5_depthOf_0 rfl rfl ?_
  refine wc_V_ (pc := 1) dX5_depthOf_1 lkX5_143 (sm_Rc.o (ci := 4) (tT ht) (by decide) ht.lt) (by decide) (Nat.le_of_ble_eq_true rfl) ?_
  refine c_X5_measureDepths ht hw hT ?_
  refine wp_aload_n (pc := 4) 0 dX5_depthOf_4 rfl rfl ?_
  refine wq_getR (pc := 5) 50 11 dX5_depthOf_5 (tT ht) flX5_50 rfl rfl ht.lt (ht.ltn 9) ?_
  refine wp_iload_n (pc := 8) 1 dX5_depthOf_8 rfl rfl ?_
  refine wc_SN_RI (pc := 9) dX5_depthOf_9 lkX5_71 (by decide) (Nat.le_of_ble_eq_true rfl) ?_
  refine c_X6_at (tT9 ht) (ht.ltn 9) (by decide) ha ?_
  refine wp_int (dpI_at (by omega)) ?_
  refine wp_iretI (pc := 12) dX5_depthOf_12 rfl ?_
  exact k
theorem lha_some {f : rw_} {a dp j : Nat} (hj : j < a) (h1 : ∀ i, i < j → lhaP f a dp i = false) (h2 : lhaP f a dp j = true) : lha f a dp = j := by unfold lha; rw [fst_some hj h1 h2]; rfl
theorem lha_none {f : rw_} {a dp : Nat} (h : ∀ i, i < a → lhaP f a dp i = false) : lha f a dp = a := by unfold lha; rw [fst_none.mpr h]; rfl
theorem c_X5_leastHungAt {d : Nat} {F I : Nat → Nat → Int32} {J : Nat → Nat → Int64} {Q : Option Value → sm_H → Prop} {t : Nat} (ht : isT t) {f : rw_} (hw : WF f) (hT : Tw t f F I) {a dp : Nat} (ha : a < 10) (hdp : dp < 2 ^ 31) (k : Q (some (.int (nI (lha f a dp)))) (S0, F, dpI f t I 10, J)) : Wp mX5_leastHungAt (d + 2) 0 0 0 (sm_ini [.ref t, .int (nI a), .int (nI dp)] 4) [] (S0, F, dpI f t I 10, J) Q := by
  show Wp _ _ _ _ _ [.ref t, .int (nI a), .int (nI dp), .null] _ _ _
  refine wp_iconst (pc := 0) (0) dX5_leastHungAt_0 (by decide) ?_
  refine wp_istore_n (pc := 1) 3 dX5_leastHungAt_1 rfl (by decide) rfl ?_
  refine wp_loop (fun i => [.ref t, .int (nI a), .int (nI dp), .int (nI i)]) (fun i => (S0, F, dpI f t I 10, J)) (fun i => ∀ j, j < i → lhaP f a dp j = false) a (fun i hi hv nx => ?_) (fun hv => ?_) 0 (by omega) (fun j hj => absurd hj (Nat.not_lt_zero j))
  · have hO := hw.on10 ha
    have hdi := dep_le f i
    refine wp_iload_n (pc := 2) 3 dX5_leastHungAt_2 rfl rfl ?_
    refine wp_iload_n (pc := 3) 1 dX5_leastHungAt_3 rfl rfl ?_
    refine wp_icmp_ge (pc := 4) 39 dX5_leastHungAt_4 (by decide) (fun c_4 => ?_) (fun c_4 => ?_)
    · exact absurd c_4 (nI_ge (b := a) hi (by omega))
    · refine wp_aload_n (pc := 7) 0 dX5_leastHungAt_7 rfl rfl ?_
      refine wp_iload_n (pc := 8) 1 dX5_leastHungAt_8 rfl rfl ?_
      refine wc_V_I (pc := 9) dX5_leastHungAt_9 lkX5_79 (sm_Rc.o (ci := 4) (tT ht) (by decide) ht.lt) (by decide) (Nat.le_of_ble_eq_true rfl) ?_
      refine c_X5_hungOf ht hw (dpI_Tw hT 10) ha ?_
      refine wp_iload_n (pc := 12) 3 dX5_leastHungAt_12 rfl rfl ?_
      refine wc_SN_II (pc := 13) dX5_leastHungAt_13 lkX5_97 (by decide) (Nat.le_of_ble_eq_true rfl) ?_
      refine c_X6_isIn (by omega) (by omega) ?_
      refine wp_ifeqB (pc := 16) 33 dX5_leastHungAt_16 (by decide) (fun c_16 => ?_) (fun c_16 => ?_)
      · refine wp_incN (pc := 33) 3 dX5_leastHungAt_33 rfl (by decide) rfl ?_
        refine wp_goto (pc := 36) 2 dX5_leastHungAt_36 (by decide) ?_
        have nx := nx (fun j hj => by
          by_cases hji : j = i
          · subst hji; simp [lhaP, c_16]
          · exact hv j (by omega))
        exact nx
      · refine wp_aload_n (pc := 19) 0 dX5_leastHungAt_19 rfl rfl ?_
        refine wq_getR (pc := 20) 50 11 dX5_leastHungAt_20 (tT ht) flX5_50 rfl rfl ht.lt (ht.ltn 9) ?_
        refine wp_iload_n (pc := 23) 3 dX5_leastHungAt_23 rfl rfl ?_
        refine wc_SN_RI (pc := 24) dX5_leastHungAt_24 lkX5_71 (by decide) (Nat.le_of_ble_eq_true rfl) ?_
        refine c_X6_at (tT9 ht) (ht.ltn 9) (by decide) (show i < 10 by omega) ?_
        refine wp_int (dpI_at (by omega)) ?_
        refine wp_iload_n (pc := 27) 2 dX5_leastHungAt_27 rfl rfl ?_
        refine wp_icmp_ne (pc := 28) 33 dX5_leastHungAt_28 (by decide) (fun c_28 => ?_) (fun c_28 => ?_)
        · refine wp_incN (pc := 33) 3 dX5_leastHungAt_33 rfl (by decide) rfl ?_
          refine wp_goto (pc := 36) 2 dX5_leastHungAt_36 (by decide) ?_
          have nx := nx (fun j hj => by
            by_cases hji : j = i
            · subst hji; simp [lhaP, show ¬ dep f j = dp from fun z => c_28 (by rw [z])]
            · exact hv j (by omega))
          exact nx
        · refine wp_iload_n (pc := 31) 3 dX5_leastHungAt_31 rfl rfl ?_
          refine wp_iretI (pc := 32) dX5_leastHungAt_32 rfl ?_
          rw [lha_some hi hv (by simp [lhaP, c_16, (nI_eq (by omega) (by omega)).mp c_28])] at k; exact k
  · refine wp_iload_n (pc := 2) 3 dX5_leastHungAt_2 rfl rfl ?_
    refine wp_iload_n (pc := 3) 1 dX5_leastHungAt_3 rfl rfl ?_
    refine wp_icmp_ge (pc := 4) 39 dX5_leastHungAt_4 (by decide) (fun c_4 => ?_) (fun c_4 => ?_)
    · refine wp_iload_n (pc := 39) 1 dX5_leastHungAt_39 rfl rfl ?_
      refine wp_iretI (pc := 40) dX5_leastHungAt_40 rfl ?_
      rw [lha_none hv] at k; exact k
    · exact absurd (Int32.le_refl _) c_4
/-- the chain's loop, forward: where it is, what it has, with k steps gone -/
def chA (f : rw_) (i : Nat) : Nat → Nat × Nat
  | 0 => (i, 2 ^ i)
  | k + 1 => (lha f (chA f i k).1 (dep f i - (k + 1)), (chA f i k).2 ||| 2 ^ lha f (chA f i k).1 (dep f i - (k + 1)))
theorem chA_N (f : rw_) (i : Nat) : ∀ k, k ≤ dep f i → chN f (chA f i k).1 (chA f i k).2 (dep f i - k) = chain f i
  | 0, _ => rfl
  | k + 1, hk => by
    have h := chA_N f i k (by omega)
    rw [show dep f i - k = (dep f i - (k + 1)) + 1 by omega, chN] at h
    exact h
theorem chA_end (f : rw_) (i : Nat) : (chA f i (dep f i)).2 = chain f i := by
  have h := chA_N f i (dep f i) (Nat.le_refl _)
  rw [Nat.sub_self, chN] at h
  exact h
theorem chA_le (f : rw_) (i : Nat) : ∀ k, (chA f i k).1 ≤ i
  | 0 => Nat.le_refl _
  | k + 1 => Nat.le_trans (lha_le f _ _) (chA_le f i k)
theorem c_X5_chainFrom {d : Nat} {F I : Nat → Nat → Int32} {J : Nat → Nat → Int64} {Q : Option Value → sm_H → Prop} {t : Nat} (ht : isT t) {f : rw_} (hw : WF f) (hT : Tw t f F I) {a : Nat} (ha : a < 10) (k : Q (some (.int (nI (chain f a)))) (S0, F, dpI f t I 10, J)) : Wp mX5_chainFrom (d + 3) 0 0 0 (sm_ini [.ref t, .int (nI a)] 5) [] (S0, F, I, J) Q := by
  show Wp _ _ _ _ _ [.ref t, .int (nI a), .null, .null, .null] _ _ _
  refine wp_aload_n (pc := 0) 0 dX5_chainFrom_0 rfl rfl ?_
  refine wc_V_ (pc := 1) dX5_chainFrom_1 lkX5_143 (sm_Rc.o (ci := 4) (tT ht) (by decide) ht.lt) (by decide) (Nat.le_of_ble_eq_true rfl) ?_
  refine c_X5_measureDepths ht hw hT ?_
  refine wp_iconst (pc := 4) (1) dX5_chainFrom_4 (by decide) ?_
  refine wp_iload_n (pc := 5) 1 dX5_chainFrom_5 rfl rfl ?_
  refine wp_ishl (pc := 6) dX5_chainFrom_6 ?_
  refine wp_int (bt_one (by omega)) ?_
  refine wp_istore_n (pc := 7) 2 dX5_chainFrom_7 rfl (by decide) rfl ?_
  refine wp_iload_n (pc := 8) 1 dX5_chainFrom_8 rfl rfl ?_
  refine wp_istore_n (pc := 9) 3 dX5_chainFrom_9 rfl (by decide) rfl ?_
  refine wp_aload_n (pc := 10) 0 dX5_chainFrom_10 rfl rfl ?_
  refine wq_getR (pc := 11) 50 11 dX5_chainFrom_11 (tT ht) flX5_50 rfl rfl ht.lt (ht.ltn 9) ?_
  refine wp_iload_n (pc := 14) 1 dX5_chainFrom_14 rfl rfl ?_
  refine wc_SN_RI (pc := 15) dX5_chainFrom_15 lkX5_71 (by decide) (Nat.le_of_ble_eq_true rfl) ?_
  refine c_X6_at (tT9 ht) (ht.ltn 9) (by decide) ha ?_
  refine wp_int (dpI_at (by omega)) ?_
  refine wp_iconst (pc := 18) (1) dX5_chainFrom_18 (by decide) ?_
  refine wp_isub (pc := 19) dX5_chainFrom_19 ?_
  refine wp_istore (pc := 20) 4 dX5_chainFrom_20 (by decide) rfl ?_
  have hz : dep f a - dep f a = 0 := Nat.sub_self _
  refine wp_to (lv' := [.ref t, .int (nI a), .int (nI (chA f a (dep f a - dep f a)).2), .int (nI (chA f a (dep f a - dep f a)).1), .int (nI (dep f a) - 1)]) ?_ (by rw [hz]; rfl) rfl rfl
  refine wp_loopD (fun k => [.ref t, .int (nI a), .int (nI (chA f a (dep f a - k)).2), .int (nI (chA f a (dep f a - k)).1), .int (nI k - 1)]) (fun _ => (S0, F, dpI f t I 10, J)) (fun k => k ≤ dep f a) (fun j hj nx => ?_) (fun _ => ?_) (dep f a) (Nat.le_refl _)
  · have hle := chA_le f a (dep f a - (j + 1))
    have hda := dep_le f a
    have hj2 : nI (j + 1) - 1 = nI j := nI_pred j
    have hk9 : dep f a - j = (dep f a - (j + 1)) + 1 := by omega
    have hj9 : dep f a - (dep f a - (j + 1) + 1) = j := by omega
    have nx := nx (by omega)
    refine wp_to (lv' := [.ref t, .int (nI a), .int (nI (chA f a (dep f a - (j + 1))).2), .int (nI (chA f a (dep f a - (j + 1))).1), .int (nI j)]) ?_ (by rw [hj2]) rfl rfl
    refine wp_iload (pc := 22) 4 dX5_chainFrom_22 rfl ?_
    refine wp_iflt (pc := 24) 47 dX5_chainFrom_24 (by decide) (fun c_24 => ?_) (fun c_24 => ?_)
    · exact absurd c_24 (nI_pos (by omega))
    · refine wp_aload_n (pc := 27) 0 dX5_chainFrom_27 rfl rfl ?_
      refine wp_iload_n (pc := 28) 3 dX5_chainFrom_28 rfl rfl ?_
      refine wp_iload (pc := 29) 4 dX5_chainFrom_29 rfl ?_
      refine wc_V_II (pc := 31) dX5_chainFrom_31 lkX5_146 (sm_Rc.o (ci := 4) (tT ht) (by decide) ht.lt) (by decide) (Nat.le_of_ble_eq_true rfl) ?_
      refine c_X5_leastHungAt ht hw hT (show (chA f a (dep f a - (j + 1))).1 < 10 by omega) (by omega) ?_
      refine wp_istore_n (pc := 34) 3 dX5_chainFrom_34 rfl (by decide) rfl ?_
      refine wp_iload_n (pc := 35) 2 dX5_chainFrom_35 rfl rfl ?_
      refine wp_iconst (pc := 36) (1) dX5_chainFrom_36 (by decide) ?_
      refine wp_iload_n (pc := 37) 3 dX5_chainFrom_37 rfl rfl ?_
      refine wp_ishl (pc := 38) dX5_chainFrom_38 ?_
      refine wp_ior (pc := 39) dX5_chainFrom_39 ?_
      refine wp_istore_n (pc := 40) 2 dX5_chainFrom_40 rfl (by decide) rfl ?_
      refine wp_dec1 (pc := 41) 4 dX5_chainFrom_41 rfl (by decide) rfl ?_
      refine wp_goto (pc := 44) 22 dX5_chainFrom_44 (by decide) ?_
      rw [hk9] at nx
      simp only [chA, hj9] at nx
      rw [← bt_or, ← bt_one (by have := lha_le f (chA f a (dep f a - (j + 1))).1 j; omega)] at nx
      exact nx
  · refine wp_iload (pc := 22) 4 dX5_chainFrom_22 rfl ?_
    refine wp_iflt (pc := 24) 47 dX5_chainFrom_24 (by decide) (fun c_24 => ?_) (fun c_24 => ?_)
    · refine wp_iload_n (pc := 47) 2 dX5_chainFrom_47 rfl rfl ?_
      refine wp_iretI (pc := 48) dX5_chainFrom_48 rfl ?_
      simp only [Nat.sub_zero]
      rw [chA_end]; exact k
    · exact absurd (by decide) c_24
