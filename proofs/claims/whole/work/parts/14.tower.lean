/-! ===== the developers' tower: what it answers ===== -/
theorem c_X5_hungOf {d : Nat} {F I : Nat → Nat → Int32} {J : Nat → Nat → Int64} {Q : Option Value → sm_H → Prop} {t : Nat} (ht : isT t) {f : rw_} (hw : WF f) (hT : Tw t f F I) {i : Nat} (hi : i < 10) (k : Q (some (.int (nI (f (5 * i + 2))))) (S0, F, I, J)) : Wp mX5_hungOf (d + 1) 0 0 0 (sm_ini [.ref t, .int (nI i)] 2) [] (S0, F, I, J) Q := by
  show Wp _ _ _ _ _ [.ref t, .int (nI i)] _ _ _
  refine wp_aload_n (pc := 0) 0 dX5_hungOf_0 rfl rfl ?_
  refine wq_getR (pc := 1) 25 4 dX5_hungOf_1 (tT ht) flX5_25 rfl rfl ht.lt (ht.ltn 4) ?_
  refine wp_iload_n (pc := 4) 1 dX5_hungOf_4 rfl rfl ?_
  refine wc_SN_RI (pc := 5) dX5_hungOf_5 lkX5_71 (by decide) (Nat.le_of_ble_eq_true rfl) ?_
  refine c_X6_at (tT4 ht) (ht.ltn 4) (by decide) hi ?_
  refine wp_int (hT.on hi) ?_
  refine wp_iretI (pc := 8) dX5_hungOf_8 rfl ?_
  exact k
theorem c_X5_standing {d : Nat} {F I : Nat → Nat → Int32} {J : Nat → Nat → Int64} {Q : Option Value → sm_H → Prop} {t : Nat} (ht : isT t) {f : rw_} (hw : WF f) (hT : Tw t f F I) {b : Nat} (hb : b < 1024) (k : Q (some (.int (nI (sta f b)))) (S0, F, I, J)) : Wp mX5_standing (d + 1) 0 0 0 (sm_ini [.ref t, .int (nI b)] 4) [] (S0, F, I, J) Q := by
  show Wp _ _ _ _ _ [.ref t, .int (nI b), .null, .null] _ _ _
  refine wp_iconst (pc := 0) (0) dX5_standing_0 (by decide) ?_
  refine wp_istore_n (pc := 1) 2 dX5_standing_1 rfl (by decide) rfl ?_
  refine wp_iconst (pc := 2) (0) dX5_standing_2 (by decide) ?_
  refine wp_istore_n (pc := 3) 3 dX5_standing_3 rfl (by decide) rfl ?_
  refine wp_loop (fun i => [.ref t, .int (nI b), .int (nI (stU f b i)), .int (nI i)]) (fun i => (S0, F, I, J)) (fun i => True) 10 (fun i hi hv nx => ?_) (fun hv => ?_) 0 (by omega) trivial
  · have hs := stU_1024 f b (show i ≤ 10 by omega)
    have hO := hw.on10 hi
    refine wp_iload_n (pc := 4) 3 dX5_standing_4 rfl rfl ?_
    refine wp_aload_n (pc := 5) 0 dX5_standing_5 rfl rfl ?_
    refine wq_getR (pc := 6) 25 4 dX5_standing_6 (tT ht) flX5_25 rfl rfl ht.lt (ht.ltn 4) ?_
    refine wp_alenI (pc := 9) 10 dX5_standing_9 (tT4 ht) (ht.ltn 4) (by decide) ?_
    refine wp_icmp_ge (pc := 10) 52 dX5_standing_10 (by decide) (fun c_10 => ?_) (fun c_10 => ?_)
    · exact absurd c_10 (nI_ge (b := 10) hi (by omega))
    · refine wp_iload_n (pc := 13) 1 dX5_standing_13 rfl rfl ?_
      refine wp_iload_n (pc := 14) 3 dX5_standing_14 rfl rfl ?_
      refine wp_ishr (pc := 15) dX5_standing_15 ?_
      refine wp_ifeq (pc := 16) 52 dX5_standing_16 (by decide) (fun c_16 => ?_) (fun c_16 => ?_)
      · have hz : stU f b i = stU f b 10 := by
          have hb2 : b < 2 ^ i := by
            have h0 : b / 2 ^ i = 0 := (nI0 (Nat.lt_of_le_of_lt (Nat.div_le_self _ _) (by omega))).mp ((bt_shr (by omega) (by omega)).symm.trans c_16)
            exact (Nat.div_eq_zero_iff_lt (Nat.two_pow_pos i)).mp h0
          have := stU_end f hb2 (10 - i)
          rw [show i + (10 - i) = 10 by omega] at this
          exact this.symm
        refine wp_iload_n (pc := 52) 2 dX5_standing_52 rfl rfl ?_
        refine wp_iretI (pc := 53) dX5_standing_53 rfl ?_
        rw [hz]; exact k
      · refine wp_iload_n (pc := 19) 1 dX5_standing_19 rfl rfl ?_
        refine wp_iload_n (pc := 20) 3 dX5_standing_20 rfl rfl ?_
        refine wc_SN_II (pc := 21) dX5_standing_21 lkX5_97 (by decide) (Nat.le_of_ble_eq_true rfl) ?_
        refine c_X6_isIn (by omega) (by omega) ?_
        refine wp_ifeqB (pc := 24) 46 dX5_standing_24 (by decide) (fun c_24 => ?_) (fun c_24 => ?_)
        · refine wp_incN (pc := 46) 3 dX5_standing_46 rfl (by decide) rfl ?_
          refine wp_goto (pc := 49) 4 dX5_standing_49 (by decide) ?_
          have nx := nx trivial
          rw [stU_f c_24] at nx
          exact nx
        · refine wp_aload_n (pc := 27) 0 dX5_standing_27 rfl rfl ?_
          refine wq_getR (pc := 28) 25 4 dX5_standing_28 (tT ht) flX5_25 rfl rfl ht.lt (ht.ltn 4) ?_
          refine wp_iload_n (pc := 31) 3 dX5_standing_31 rfl rfl ?_
          refine wq_iald (pc := 32) i dX5_standing_32 (tT4 ht) (ht.ltn 4) rfl hi (by decide) ?_
          refine wp_int (hT.on hi) ?_
          refine wp_iload_n (pc := 33) 2 dX5_standing_33 rfl rfl ?_
          refine wp_iconst (pc := 34) (-1) dX5_standing_34 (by decide) ?_
          refine wp_ixor (pc := 35) dX5_standing_35 ?_
          refine wp_iand (pc := 36) dX5_standing_36 ?_
          refine wp_int (bt_dif _ _) ?_
          refine wp_ifne (pc := 37) 46 dX5_standing_37 (by decide) (fun c_37 => ?_) (fun c_37 => ?_)
          · refine wp_incN (pc := 46) 3 dX5_standing_46 rfl (by decide) rfl ?_
            refine wp_goto (pc := 49) 4 dX5_standing_49 (by decide) ?_
            have nx := nx trivial
            rw [stU_f2 (fun z => c_37 (by rw [z]; rfl))] at nx
            exact nx
          · refine wp_iload_n (pc := 40) 2 dX5_standing_40 rfl rfl ?_
            refine wp_iconst (pc := 41) (1) dX5_standing_41 (by decide) ?_
            refine wp_iload_n (pc := 42) 3 dX5_standing_42 rfl rfl ?_
            refine wp_ishl (pc := 43) dX5_standing_43 ?_
            refine wp_ior (pc := 44) dX5_standing_44 ?_
            refine wp_istore_n (pc := 45) 2 dX5_standing_45 rfl (by decide) rfl ?_
            refine wp_incN (pc := 46) 3 dX5_standing_46 rfl (by decide) rfl ?_
            refine wp_goto (pc := 49) 4 dX5_standing_49 (by decide) ?_
            have nx := nx trivial
            rw [stU_t (by omega) c_24 ((nI0 (Nat.lt_trans (dif_le _ _ (n := 10) hO) (by decide))).mp c_37)] at nx
            exact nx
  · refine wp_iload_n (pc := 4) 3 dX5_standing_4 rfl rfl ?_
    refine wp_aload_n (pc := 5) 0 dX5_standing_5 rfl rfl ?_
    refine wq_getR (pc := 6) 25 4 dX5_standing_6 (tT ht) flX5_25 rfl rfl ht.lt (ht.ltn 4) ?_
    refine wp_alenI (pc := 9) 10 dX5_standing_9 (tT4 ht) (ht.ltn 4) (by decide) ?_
    refine wp_icmp_ge (pc := 10) 52 dX5_standing_10 (by decide) (fun c_10 => ?_) (fun c_10 => ?_)
    · refine wp_iload_n (pc := 52) 2 dX5_standing_52 rfl rfl ?_
      refine wp_iretI (pc := 53) dX5_standing_53 rfl ?_
      exact k
    · exact absurd (Int32.le_refl _) c_10
theorem c_X5_valueIf {d : Nat} {F I : Nat → Nat → Int32} {J : Nat → Nat → Int64} {Q : Option Value → sm_H → Prop} {t : Nat} (ht : isT t) {f : rw_} (hw : WF f) (hT : Tw t f F I) {b : Nat} (hb : b < 1024) (k : Q (some (.int (nI (val f b)))) (S0, F, I, J)) : Wp mX5_valueIf (d + 2) 0 0 0 (sm_ini [.ref t, .int (nI b)] 5) [] (S0, F, I, J) Q := by
  show Wp _ _ _ _ _ [.ref t, .int (nI b), .null, .null, .null] _ _ _
  refine wp_aload_n (pc := 0) 0 dX5_valueIf_0 rfl rfl ?_
  refine wp_iload_n (pc := 1) 1 dX5_valueIf_1 rfl rfl ?_
  refine wc_V_I (pc := 2) dX5_valueIf_2 lkX5_83 (sm_Rc.o (ci := 4) (tT ht) (by decide) ht.lt) (by decide) (Nat.le_of_ble_eq_true rfl) ?_
  refine c_X5_standing ht hw hT (by omega) ?_
  refine wp_istore_n (pc := 5) 2 dX5_valueIf_5 rfl (by decide) rfl ?_
  refine wp_iconst (pc := 6) (0) dX5_valueIf_6 (by decide) ?_
  refine wp_istore_n (pc := 7) 3 dX5_valueIf_7 rfl (by decide) rfl ?_
  refine wp_iconst (pc := 8) (0) dX5_valueIf_8 (by decide) ?_
  refine wp_istore (pc := 9) 4 dX5_valueIf_9 (by decide) rfl ?_
  refine wp_loop (fun i => [.ref t, .int (nI b), .int (nI (sta f b)), .int (nI (vlU f (sta f b) i)), .int (nI i)]) (fun i => (S0, F, I, J)) (fun i => True) 10 (fun i hi hv nx => ?_) (fun hv => ?_) 0 (by omega) trivial
  · have hs := sta_1024 f b
    refine wp_iload (pc := 11) 4 dX5_valueIf_11 rfl ?_
    refine wp_aload_n (pc := 13) 0 dX5_valueIf_13 rfl rfl ?_
    refine wq_getR (pc := 14) 15 1 dX5_valueIf_14 (tT ht) flX5_15 rfl rfl ht.lt (ht.ltn 1) ?_
    refine wp_alenI (pc := 17) 10 dX5_valueIf_17 (tT1 ht) (ht.ltn 1) (by decide) ?_
    refine wp_icmp_ge (pc := 18) 53 dX5_valueIf_18 (by decide) (fun c_18 => ?_) (fun c_18 => ?_)
    · exact absurd c_18 (nI_ge (b := 10) hi (by omega))
    · refine wp_iload_n (pc := 21) 2 dX5_valueIf_21 rfl rfl ?_
      refine wp_iload (pc := 22) 4 dX5_valueIf_22 rfl ?_
      refine wp_ishr (pc := 24) dX5_valueIf_24 ?_
      refine wp_ifeq (pc := 25) 53 dX5_valueIf_25 (by decide) (fun c_25 => ?_) (fun c_25 => ?_)
      · have hz : vlU f (sta f b) i = val f b := by
          have hb2 : sta f b < 2 ^ i := by
            have h0 : sta f b / 2 ^ i = 0 := (nI0 (Nat.lt_of_le_of_lt (Nat.div_le_self _ _) (by omega))).mp ((bt_shr (by omega) (by omega)).symm.trans c_25)
            exact (Nat.div_eq_zero_iff_lt (Nat.two_pow_pos i)).mp h0
          exact (vlU_of f hb2 (by omega)).symm
        refine wp_iload_n (pc := 53) 3 dX5_valueIf_53 rfl rfl ?_
        refine wp_iretI (pc := 54) dX5_valueIf_54 rfl ?_
        rw [hz]; exact k
      · refine wp_iload_n (pc := 28) 2 dX5_valueIf_28 rfl rfl ?_
        refine wp_iload (pc := 29) 4 dX5_valueIf_29 rfl ?_
        refine wc_SN_II (pc := 31) dX5_valueIf_31 lkX5_97 (by decide) (Nat.le_of_ble_eq_true rfl) ?_
        refine c_X6_isIn (by omega) (by omega) ?_
        refine wp_ifeqB (pc := 34) 47 dX5_valueIf_34 (by decide) (fun c_34 => ?_) (fun c_34 => ?_)
        · refine wp_incN (pc := 47) 4 dX5_valueIf_47 rfl (by decide) rfl ?_
          refine wp_goto (pc := 50) 11 dX5_valueIf_50 (by decide) ?_
          have nx := nx trivial
          rw [vlU, c_34, Bool.toNat_false, Nat.zero_mul, Nat.add_zero] at nx
          exact nx
        · refine wp_iload_n (pc := 37) 3 dX5_valueIf_37 rfl rfl ?_
          refine wp_aload_n (pc := 38) 0 dX5_valueIf_38 rfl rfl ?_
          refine wq_getR (pc := 39) 15 1 dX5_valueIf_39 (tT ht) flX5_15 rfl rfl ht.lt (ht.ltn 1) ?_
          refine wp_iload (pc := 42) 4 dX5_valueIf_42 rfl ?_
          refine wq_iald (pc := 44) i dX5_valueIf_44 (tT1 ht) (ht.ltn 1) rfl hi (by decide) ?_
          refine wp_int (hT.worth hi) ?_
          refine wp_iadd (pc := 45) dX5_valueIf_45 ?_
          refine wp_istore_n (pc := 46) 3 dX5_valueIf_46 rfl (by decide) rfl ?_
          refine wp_incN (pc := 47) 4 dX5_valueIf_47 rfl (by decide) rfl ?_
          refine wp_goto (pc := 50) 11 dX5_valueIf_50 (by decide) ?_
          have nx := nx trivial
          rw [vlU, c_34, Bool.toNat_true, Nat.one_mul, ← nI_add] at nx
          exact nx
  · refine wp_iload (pc := 11) 4 dX5_valueIf_11 rfl ?_
    refine wp_aload_n (pc := 13) 0 dX5_valueIf_13 rfl rfl ?_
    refine wq_getR (pc := 14) 15 1 dX5_valueIf_14 (tT ht) flX5_15 rfl rfl ht.lt (ht.ltn 1) ?_
    refine wp_alenI (pc := 17) 10 dX5_valueIf_17 (tT1 ht) (ht.ltn 1) (by decide) ?_
    refine wp_icmp_ge (pc := 18) 53 dX5_valueIf_18 (by decide) (fun c_18 => ?_) (fun c_18 => ?_)
    · refine wp_iload_n (pc := 53) 3 dX5_valueIf_53 rfl rfl ?_
      refine wp_iretI (pc := 54) dX5_valueIf_54 rfl ?_
      exact k
    · exact absurd (Int32.le_refl _) c_18
theorem c_X5_valueNow {d : Nat} {F I : Nat → Nat → Int32} {J : Nat → Nat → Int64} {Q : Option Value → sm_H → Prop} {t : Nat} (ht : isT t) {f : rw_} (hw : WF f) (hT : Tw t f F I)  (k : Q (some (.int (nI (val f (bn f))))) (S0, F, I, J)) : Wp mX5_valueNow (d + 3) 0 0 0 (sm_ini [.ref t] 1) [] (S0, F, I, J) Q := by
  show Wp _ _ _ _ _ [.ref t] _ _ _
  have hb := bn_1024 hw
  refine wp_aload_n (pc := 0) 0 dX5_valueNow_0 rfl rfl ?_
  refine wp_aload_n (pc := 1) 0 dX5_valueNow_1 rfl rfl ?_
  refine wq_getI (pc := 2) 28 5 dX5_valueNow_2 (tT ht) flX5_28 rfl ht.lt ?_
  refine wp_int hT.been ?_
  refine wc_V_I (pc := 5) dX5_valueNow_5 lkX5_129 (sm_Rc.o (ci := 4) (tT ht) (by decide) ht.lt) (by decide) (Nat.le_of_ble_eq_true rfl) ?_
  refine c_X5_valueIf ht hw hT (by omega) ?_
  refine wp_iretI (pc := 8) dX5_valueNow_8 rfl ?_
  exact k
theorem bt_clr {b i : Nat} (hi : i < 31) : nI b &&& ((1 : Int32) <<< (nI i &&& 31) ^^^ (-1)) = nI (dif b (2 ^ i)) := by rw [bt_one hi, bt_dif]
theorem dif_1024 {a : Nat} (b : Nat) (h : a < 1024) : dif a b < 1024 := dif_le (n := 10) a b h
theorem c_X5_offBy {d : Nat} {F I : Nat → Nat → Int32} {J : Nat → Nat → Int64} {Q : Option Value → sm_H → Prop} {t : Nat} (ht : isT t) {f : rw_} (hw : WF f) (hT : Tw t f F I) {i : Nat} (hi : i < 10) (k : Q (some (.int (nI (dif (sta f (bn f)) (sta f (dif (bn f) (2 ^ i))))))) (S0, F, I, J)) : Wp mX5_offBy (d + 2) 0 0 0 (sm_ini [.ref t, .int (nI i)] 2) [] (S0, F, I, J) Q := by
  show Wp _ _ _ _ _ [.ref t, .int (nI i)] _ _ _
  have hb := bn_1024 hw
  have hd := dif_1024 (2 ^ i) hb
  refine wp_aload_n (pc := 0) 0 dX5_offBy_0 rfl rfl ?_
  refine wp_aload_n (pc := 1) 0 dX5_offBy_1 rfl rfl ?_
  refine wq_getI (pc := 2) 28 5 dX5_offBy_2 (tT ht) flX5_28 rfl ht.lt ?_
  refine wp_int hT.been ?_
  refine wc_V_I (pc := 5) dX5_offBy_5 lkX5_83 (sm_Rc.o (ci := 4) (tT ht) (by decide) ht.lt) (by decide) (Nat.le_of_ble_eq_true rfl) ?_
  refine c_X5_standing ht hw hT (by omega) ?_
  refine wp_aload_n (pc := 8) 0 dX5_offBy_8 rfl rfl ?_
  refine wp_aload_n (pc := 9) 0 dX5_offBy_9 rfl rfl ?_
  refine wq_getI (pc := 10) 28 5 dX5_offBy_10 (tT ht) flX5_28 rfl ht.lt ?_
  refine wp_int hT.been ?_
  refine wp_iconst (pc := 13) (1) dX5_offBy_13 (by decide) ?_
  refine wp_iload_n (pc := 14) 1 dX5_offBy_14 rfl rfl ?_
  refine wp_ishl (pc := 15) dX5_offBy_15 ?_
  refine wp_iconst (pc := 16) (-1) dX5_offBy_16 (by decide) ?_
  refine wp_ixor (pc := 17) dX5_offBy_17 ?_
  refine wp_iand (pc := 18) dX5_offBy_18 ?_
  refine wp_int (bt_clr (by omega)) ?_
  refine wc_V_I (pc := 19) dX5_offBy_19 lkX5_83 (sm_Rc.o (ci := 4) (tT ht) (by decide) ht.lt) (by decide) (Nat.le_of_ble_eq_true rfl) ?_
  refine c_X5_standing ht hw hT (by omega) ?_
  refine wp_iconst (pc := 22) (-1) dX5_offBy_22 (by decide) ?_
  refine wp_ixor (pc := 23) dX5_offBy_23 ?_
  refine wp_iand (pc := 24) dX5_offBy_24 ?_
  refine wp_int (bt_dif _ _) ?_
  refine wp_iretI (pc := 25) dX5_offBy_25 rfl ?_
  exact k
theorem c_X5_isThing {d : Nat} {F I : Nat → Nat → Int32} {J : Nat → Nat → Int64} {Q : Option Value → sm_H → Prop} {t : Nat} (ht : isT t) {f : rw_} (hw : WF f) (hT : Tw t f F I) {x : Int32} (k : Q (some (.int (b2 (decide (0 ≤ x ∧ x < nI (f 68)))))) (S0, F, I, J)) : Wp mX5_isThing (d) 0 0 0 (sm_ini [.ref t, .int x] 2) [] (S0, F, I, J) Q := by
  show Wp _ _ _ _ _ [.ref t, .int x] _ _ _
  refine wp_iload_n (pc := 0) 1 dX5_isThing_0 rfl rfl ?_
  refine wp_iflt (pc := 1) 16 dX5_isThing_1 (by decide) (fun c_1 => ?_) (fun c_1 => ?_)
  · refine wp_iconst (pc := 16) (0) dX5_isThing_16 (by decide) ?_
    refine wp_iret (pc := 17) dX5_isThing_17 ⟨_, rfl, by decide⟩ ?_
    rw [decide_eq_false (fun z => absurd c_1 (i32_nlt.mpr z.1))] at k; exact k
  · refine wp_iload_n (pc := 4) 1 dX5_isThing_4 rfl rfl ?_
    refine wp_aload_n (pc := 5) 0 dX5_isThing_5 rfl rfl ?_
    refine wq_getI (pc := 6) 9 0 dX5_isThing_6 (tT ht) flX5_9 rfl ht.lt ?_
    refine wp_int hT.n ?_
    refine wp_icmp_ge (pc := 9) 16 dX5_isThing_9 (by decide) (fun c_9 => ?_) (fun c_9 => ?_)
    · refine wp_iconst (pc := 16) (0) dX5_isThing_16 (by decide) ?_
      refine wp_iret (pc := 17) dX5_isThing_17 ⟨_, rfl, by decide⟩ ?_
      rw [decide_eq_false (fun z => absurd z.2 (i32_nlt.mpr c_9))] at k; exact k
    · refine wp_iconst (pc := 12) (1) dX5_isThing_12 (by decide) ?_
      refine wp_goto (pc := 13) 17 dX5_isThing_13 (by decide) ?_
      refine wp_iret (pc := 17) dX5_isThing_17 ⟨_, rfl, by decide⟩ ?_
      rw [decide_eq_true ⟨i32_nlt.mp c_1, i32_nle.mp c_9⟩] at k; exact k
theorem bt_all {n : Nat} (hn : n < 31) : (1 : Int32) <<< (nI n &&& 31) - 1 = nI (2 ^ n - 1) := by
  rw [bt_one hn]
  have h := Nat.two_pow_pos n
  rw [show (1 : Int32) = nI 1 from rfl, pk_sub h]
theorem c_X5_everyThing {d : Nat} {F I : Nat → Nat → Int32} {J : Nat → Nat → Int64} {Q : Option Value → sm_H → Prop} {t : Nat} (ht : isT t) {f : rw_} (hw : WF f) (hT : Tw t f F I)  (k : Q (some (.int (nI (2 ^ f 68 - 1)))) (S0, F, I, J)) : Wp mX5_everyThing (d) 0 0 0 (sm_ini [.ref t] 1) [] (S0, F, I, J) Q := by
  show Wp _ _ _ _ _ [.ref t] _ _ _
  have hn := hw.n
  refine wp_iconst (pc := 0) (1) dX5_everyThing_0 (by decide) ?_
  refine wp_aload_n (pc := 1) 0 dX5_everyThing_1 rfl rfl ?_
  refine wq_getI (pc := 2) 9 0 dX5_everyThing_2 (tT ht) flX5_9 rfl ht.lt ?_
  refine wp_int hT.n ?_
  refine wp_ishl (pc := 5) dX5_everyThing_5 ?_
  refine wp_iconst (pc := 6) (1) dX5_everyThing_6 (by decide) ?_
  refine wp_isub (pc := 7) dX5_everyThing_7 ?_
  refine wp_int (bt_all (by omega)) ?_
  refine wp_iretI (pc := 8) dX5_everyThing_8 rfl ?_
  exact k
theorem c_X5_hasRoom {d : Nat} {F I : Nat → Nat → Int32} {J : Nat → Nat → Int64} {Q : Option Value → sm_H → Prop} {t : Nat} (ht : isT t) {f : rw_} (hw : WF f) (hT : Tw t f F I)  (k : Q (some (.int (b2 (decide (f 68 < 10))))) (S0, F, I, J)) : Wp mX5_hasRoom (d) 0 0 0 (sm_ini [.ref t] 1) [] (S0, F, I, J) Q := by
  show Wp _ _ _ _ _ [.ref t] _ _ _
  have hn := hw.n
  refine wp_aload_n (pc := 0) 0 dX5_hasRoom_0 rfl rfl ?_
  refine wq_getI (pc := 1) 9 0 dX5_hasRoom_1 (tT ht) flX5_9 rfl ht.lt ?_
  refine wp_int hT.n ?_
  refine wp_bipush (pc := 4) (10) dX5_hasRoom_4 (by decide) ?_
  refine wp_icmp_ge (pc := 6) 13 dX5_hasRoom_6 (by decide) (fun c_6 => ?_) (fun c_6 => ?_)
  · refine wp_iconst (pc := 13) (0) dX5_hasRoom_13 (by decide) ?_
    refine wp_iret (pc := 14) dX5_hasRoom_14 ⟨_, rfl, by decide⟩ ?_
    rw [decide_eq_false (fun z => nI_ge (b := 10) z (by decide) c_6)] at k; exact k
  · refine wp_iconst (pc := 9) (1) dX5_hasRoom_9 (by decide) ?_
    refine wp_goto (pc := 10) 14 dX5_hasRoom_10 (by decide) ?_
    refine wp_iret (pc := 14) dX5_hasRoom_14 ⟨_, rfl, by decide⟩ ?_
    rw [decide_eq_true (Nat.lt_of_not_le fun z => c_6 (nI_le (a := 10) z (by omega)))] at k; exact k
