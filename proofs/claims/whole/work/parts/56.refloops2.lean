/-! ===== the reference: what it answers by loops, on ===== -/
theorem c_X7_pillar {d : Nat} {F I : Nat → Nat → Int32} {J : Nat → Nat → Int64} {Q : Option Value → sm_H → Prop} {s : Sg} (hM : MR s F I J) (ok : Ok s) (k : ∀ F1 I1 J1, MR (do_pillar s).2 F1 I1 J1 → Lo F I J F1 I1 J1 → Q (some (.int (do_pillar s).1)) (S0, F1, I1, J1)) : Wp mX7_pillar (d + 3) 0 0 0 (sm_ini [.ref 40] 7) [] (S0, F, I, J) Q := by
  show Wp _ _ _ _ _ [.ref 40, .null, .null, .null, .null, .null, .null] _ _ _
  have hw := ok.1
  have hR := hM.1
  have hn := hw.n
  have hcw := hw.c
  have hbn := bn_1024 hw
  have hbl := bn_lt hw
  have hp2 := p2n hw
  have hh1 := hw.wth
  have hh2 := hw.crk
  have hh3 := hw.year
  refine wp_aload_n (pc := 0) 0 dX7_pillar_0 rfl rfl ?_
  refine wc_V_ (pc := 1) dX7_pillar_1 lkX7_135 (sm_Rc.o (ci := 6) s0_40 (by decide) (by decide)) (by decide) (Nat.le_of_ble_eq_true rfl) ?_
  refine c_X7_been hw hR ?_
  refine wp_istore_n (pc := 4) 1 dX7_pillar_4 rfl (by decide) rfl ?_
  refine wp_aload_n (pc := 5) 0 dX7_pillar_5 rfl rfl ?_
  refine wp_iload_n (pc := 6) 1 dX7_pillar_6 rfl rfl ?_
  refine wc_V_I (pc := 7) dX7_pillar_7 lkX7_65 (sm_Rc.o (ci := 6) s0_40 (by decide) (by decide)) (by decide) (Nat.le_of_ble_eq_true rfl) ?_
  refine c_X7_standsBy hw hR hbl ?_
  refine wp_istore_n (pc := 10) 2 dX7_pillar_10 rfl (by decide) rfl ?_
  refine wp_iconst (pc := 11) (-1) dX7_pillar_11 (by decide) ?_
  refine wp_istore_n (pc := 12) 3 dX7_pillar_12 rfl (by decide) rfl ?_
  refine wp_iconst (pc := 13) (0) dX7_pillar_13 (by decide) ?_
  refine wp_istore (pc := 14) 4 dX7_pillar_14 (by decide) rfl ?_
  refine wp_iconst (pc := 16) (0) dX7_pillar_16 (by decide) ?_
  refine wp_istore (pc := 17) 5 dX7_pillar_17 (by decide) rfl ?_
  refine wp_loop (fun i => [.ref 40, .int (nI (bn (sgf s))), .int (nI (sta (sgf s) (bn (sgf s)))), .int (eN (worstB (sgf s) (sta (sgf s) (bn (sgf s))) i)), .int (eB (sgf s) (worstB (sgf s) (sta (sgf s) (bn (sgf s))) i)), .int (nI i), .null]) (fun _ => (S0, F, I, J)) (fun _ => True) (sgf s 68) (fun i hi hv nx => ?_) (fun hv => ?_) 0 (Nat.zero_le _) trivial
  · have hs1 := sta_1024 (sgf s) (bn (sgf s))
    have hvi := val_le hw (dif (bn (sgf s)) (2 ^ i))
    rcases ho : bestU (fun i => (sta (sgf s) (bn (sgf s))).testBit i) (wbL (sgf s)) i with _ | j
    · refine wp_to (lv' := [.ref 40, .int (nI (bn (sgf s))), .int (nI (sta (sgf s) (bn (sgf s)))), .int (-1), .int (0), .int (nI i), .null]) ?_ (by rw [show worstB (sgf s) (sta (sgf s) (bn (sgf s))) i = none from ho]; rfl) rfl rfl
      refine wp_iload (pc := 19) 5 dX7_pillar_19 rfl ?_
      refine wp_aload_n (pc := 21) 0 dX7_pillar_21 rfl rfl ?_
      refine wc_V_ (pc := 22) dX7_pillar_22 lkX7_57 (sm_Rc.o (ci := 6) s0_40 (by decide) (by decide)) (by decide) (Nat.le_of_ble_eq_true rfl) ?_
      refine c_X7_many hw hR ?_
      refine wp_icmp_ge (pc := 25) 77 dX7_pillar_25 (by decide) (fun c_25 => ?_) (fun c_25 => ?_)
      · exact absurd c_25 (nI_ge (b := sgf s 68) hi (by omega))
      · refine wp_iload_n (pc := 28) 2 dX7_pillar_28 rfl rfl ?_
        refine wp_iload (pc := 29) 5 dX7_pillar_29 rfl ?_
        refine wp_ishr (pc := 31) dX7_pillar_31 ?_
        refine wp_iconst (pc := 32) (1) dX7_pillar_32 (by decide) ?_
        refine wp_iand (pc := 33) dX7_pillar_33 ?_
        refine wp_int (bt_bit (by omega) (by omega)) ?_
        refine wp_iconst (pc := 34) (1) dX7_pillar_34 (by decide) ?_
        refine wp_icmp_ne1 (pc := 35) 71 dX7_pillar_35 (by decide) (fun c_35 => ?_) (fun c_35 => ?_)
        · refine wp_incN (pc := 71) 5 dX7_pillar_71 rfl (by decide) rfl ?_
          refine wp_goto (pc := 74) 19 dX7_pillar_74 (by decide) ?_
          have nx := nx trivial
          unfold worstB at nx
          rw [best_no c_35, ho] at nx
          exact nx
        · refine wp_aload_n (pc := 38) 0 dX7_pillar_38 rfl rfl ?_
          refine wp_iload_n (pc := 39) 1 dX7_pillar_39 rfl rfl ?_
          refine wp_iconst (pc := 40) (1) dX7_pillar_40 (by decide) ?_
          refine wp_iload (pc := 41) 5 dX7_pillar_41 rfl ?_
          refine wp_ishl (pc := 43) dX7_pillar_43 ?_
          refine wp_iconst (pc := 44) (-1) dX7_pillar_44 (by decide) ?_
          refine wp_ixor (pc := 45) dX7_pillar_45 ?_
          refine wp_iand (pc := 46) dX7_pillar_46 ?_
          refine wp_int (bt_clr (by omega)) ?_
          refine wc_V_I (pc := 47) dX7_pillar_47 lkX7_168 (sm_Rc.o (ci := 6) s0_40 (by decide) (by decide)) (by decide) (Nat.le_of_ble_eq_true rfl) ?_
          refine c_X7_valueBy hw hR (dif_le _ _ hbl) ?_
          refine wp_istore (pc := 50) 6 dX7_pillar_50 (by decide) rfl ?_
          refine wp_iload_n (pc := 52) 3 dX7_pillar_52 rfl rfl ?_
          refine wp_iconst (pc := 53) (-1) dX7_pillar_53 (by decide) ?_
          refine wp_icmp_eq (pc := 54) 64 dX7_pillar_54 (by decide) (fun c_54 => ?_) (fun c_54 => ?_)
          · refine wp_iload (pc := 64) 5 dX7_pillar_64 rfl ?_
            refine wp_istore_n (pc := 66) 3 dX7_pillar_66 rfl (by decide) rfl ?_
            refine wp_iload (pc := 67) 6 dX7_pillar_67 rfl ?_
            refine wp_istore (pc := 69) 4 dX7_pillar_69 (by decide) rfl ?_
            refine wp_incN (pc := 71) 5 dX7_pillar_71 rfl (by decide) rfl ?_
            refine wp_goto (pc := 74) 19 dX7_pillar_74 (by decide) ?_
            have nx := nx trivial
            unfold worstB at nx
            rw [best_new c_35 ho] at nx
            refine wp_weak ?_ nx
            exact And.intro (Or.inr rfl) (And.intro (Or.inr rfl) (And.intro (Or.inr rfl) (And.intro (Or.inr rfl) (And.intro (Or.inr rfl) (And.intro (Or.inr rfl) (And.intro (Or.inl rfl) (trivial)))))))
          · exact absurd (by decide) c_54
    · have hj := (bestU_lt ho).1
      have hvj := val_le hw (dif (bn (sgf s)) (2 ^ j))
      refine wp_to (lv' := [.ref 40, .int (nI (bn (sgf s))), .int (nI (sta (sgf s) (bn (sgf s)))), .int (nI j), .int (nI (val (sgf s) (dif (bn (sgf s)) (2 ^ j)))), .int (nI i), .null]) ?_ (by rw [show worstB (sgf s) (sta (sgf s) (bn (sgf s))) i = some j from ho]; rfl) rfl rfl
      refine wp_iload (pc := 19) 5 dX7_pillar_19 rfl ?_
      refine wp_aload_n (pc := 21) 0 dX7_pillar_21 rfl rfl ?_
      refine wc_V_ (pc := 22) dX7_pillar_22 lkX7_57 (sm_Rc.o (ci := 6) s0_40 (by decide) (by decide)) (by decide) (Nat.le_of_ble_eq_true rfl) ?_
      refine c_X7_many hw hR ?_
      refine wp_icmp_ge (pc := 25) 77 dX7_pillar_25 (by decide) (fun c_25 => ?_) (fun c_25 => ?_)
      · exact absurd c_25 (nI_ge (b := sgf s 68) hi (by omega))
      · refine wp_iload_n (pc := 28) 2 dX7_pillar_28 rfl rfl ?_
        refine wp_iload (pc := 29) 5 dX7_pillar_29 rfl ?_
        refine wp_ishr (pc := 31) dX7_pillar_31 ?_
        refine wp_iconst (pc := 32) (1) dX7_pillar_32 (by decide) ?_
        refine wp_iand (pc := 33) dX7_pillar_33 ?_
        refine wp_int (bt_bit (by omega) (by omega)) ?_
        refine wp_iconst (pc := 34) (1) dX7_pillar_34 (by decide) ?_
        refine wp_icmp_ne1 (pc := 35) 71 dX7_pillar_35 (by decide) (fun c_35 => ?_) (fun c_35 => ?_)
        · refine wp_incN (pc := 71) 5 dX7_pillar_71 rfl (by decide) rfl ?_
          refine wp_goto (pc := 74) 19 dX7_pillar_74 (by decide) ?_
          have nx := nx trivial
          unfold worstB at nx
          rw [best_no c_35, ho] at nx
          exact nx
        · refine wp_aload_n (pc := 38) 0 dX7_pillar_38 rfl rfl ?_
          refine wp_iload_n (pc := 39) 1 dX7_pillar_39 rfl rfl ?_
          refine wp_iconst (pc := 40) (1) dX7_pillar_40 (by decide) ?_
          refine wp_iload (pc := 41) 5 dX7_pillar_41 rfl ?_
          refine wp_ishl (pc := 43) dX7_pillar_43 ?_
          refine wp_iconst (pc := 44) (-1) dX7_pillar_44 (by decide) ?_
          refine wp_ixor (pc := 45) dX7_pillar_45 ?_
          refine wp_iand (pc := 46) dX7_pillar_46 ?_
          refine wp_int (bt_clr (by omega)) ?_
          refine wc_V_I (pc := 47) dX7_pillar_47 lkX7_168 (sm_Rc.o (ci := 6) s0_40 (by decide) (by decide)) (by decide) (Nat.le_of_ble_eq_true rfl) ?_
          refine c_X7_valueBy hw hR (dif_le _ _ hbl) ?_
          refine wp_istore (pc := 50) 6 dX7_pillar_50 (by decide) rfl ?_
          refine wp_iload_n (pc := 52) 3 dX7_pillar_52 rfl rfl ?_
          refine wp_iconst (pc := 53) (-1) dX7_pillar_53 (by decide) ?_
          refine wp_icmp_eq (pc := 54) 64 dX7_pillar_54 (by decide) (fun c_54 => ?_) (fun c_54 => ?_)
          · exact absurd c_54 (m1_ne (by omega))
          · refine wp_iload (pc := 57) 6 dX7_pillar_57 rfl ?_
            refine wp_iload (pc := 59) 4 dX7_pillar_59 rfl ?_
            refine wp_icmp_ge (pc := 61) 71 dX7_pillar_61 (by decide) (fun c_61 => ?_) (fun c_61 => ?_)
            · refine wp_incN (pc := 71) 5 dX7_pillar_71 rfl (by decide) rfl ?_
              refine wp_goto (pc := 74) 19 dX7_pillar_74 (by decide) ?_
              have nx := nx trivial
              unfold worstB at nx
              rw [best_st c_35 ho (decide_eq_false (fun z => nI_ge z (by omega) c_61))] at nx
              refine wp_weak ?_ nx
              exact And.intro (Or.inr rfl) (And.intro (Or.inr rfl) (And.intro (Or.inr rfl) (And.intro (Or.inr rfl) (And.intro (Or.inr rfl) (And.intro (Or.inr rfl) (And.intro (Or.inl rfl) (trivial)))))))
            · refine wp_iload (pc := 64) 5 dX7_pillar_64 rfl ?_
              refine wp_istore_n (pc := 66) 3 dX7_pillar_66 rfl (by decide) rfl ?_
              refine wp_iload (pc := 67) 6 dX7_pillar_67 rfl ?_
              refine wp_istore (pc := 69) 4 dX7_pillar_69 (by decide) rfl ?_
              refine wp_incN (pc := 71) 5 dX7_pillar_71 rfl (by decide) rfl ?_
              refine wp_goto (pc := 74) 19 dX7_pillar_74 (by decide) ?_
              have nx := nx trivial
              unfold worstB at nx
              rw [best_up c_35 ho (decide_eq_true (Nat.lt_of_not_le fun z => c_61 (nI_le z (by omega))))] at nx
              refine wp_weak ?_ nx
              exact And.intro (Or.inr rfl) (And.intro (Or.inr rfl) (And.intro (Or.inr rfl) (And.intro (Or.inr rfl) (And.intro (Or.inr rfl) (And.intro (Or.inr rfl) (And.intro (Or.inl rfl) (trivial)))))))
  · refine wp_iload (pc := 19) 5 dX7_pillar_19 rfl ?_
    refine wp_aload_n (pc := 21) 0 dX7_pillar_21 rfl rfl ?_
    refine wc_V_ (pc := 22) dX7_pillar_22 lkX7_57 (sm_Rc.o (ci := 6) s0_40 (by decide) (by decide)) (by decide) (Nat.le_of_ble_eq_true rfl) ?_
    refine c_X7_many hw hR ?_
    refine wp_icmp_ge (pc := 25) 77 dX7_pillar_25 (by decide) (fun c_25 => ?_) (fun c_25 => ?_)
    · refine wp_iload_n (pc := 77) 3 dX7_pillar_77 rfl rfl ?_
      refine wp_iretI (pc := 78) dX7_pillar_78 rfl ?_
      unfold do_pillar at k
      exact k _ _ _ hM Lo.rf
    · exact absurd (Int32.le_refl _) c_25
theorem c_X7_oldest {d : Nat} {F I : Nat → Nat → Int32} {J : Nat → Nat → Int64} {Q : Option Value → sm_H → Prop} {x : Int32} {s : Sg} (hM : MR s F I J) (ok : Ok s) (k : ∀ F1 I1 J1, MR (do_oldest s x).2 F1 I1 J1 → Lo F I J F1 I1 J1 → Q (some (.int (do_oldest s x).1)) (S0, F1, I1, J1)) : Wp mX7_oldest (d + 1) 0 0 0 (sm_ini [.ref 40, .int x] 5) [] (S0, F, I, J) Q := by
  show Wp _ _ _ _ _ [.ref 40, .int x, .null, .null, .null] _ _ _
  have hw := ok.1
  have hR := hM.1
  have hn := hw.n
  have hcw := hw.c
  have hbn := bn_1024 hw
  have hbl := bn_lt hw
  have hp2 := p2n hw
  have hh1 := hw.wth
  have hh2 := hw.crk
  have hh3 := hw.year
  refine wp_iload_n (pc := 0) 1 dX7_oldest_0 rfl rfl ?_
  refine wp_iconst (pc := 1) (0) dX7_oldest_1 (by decide) ?_
  refine wp_iconst (pc := 2) (1) dX7_oldest_2 (by decide) ?_
  refine wc_S_III (pc := 3) dX7_oldest_3 lkX7_49 (by decide) (Nat.le_of_ble_eq_true rfl) ?_
  refine c_X7_isIn ?_
  refine wp_ifneB (pc := 6) 16 dX7_oldest_6 (by decide) (fun c_6 => ?_) (fun c_6 => ?_)
  · refine wp_iconst (pc := 16) (-1) dX7_oldest_16 (by decide) ?_
    refine wp_istore_n (pc := 17) 2 dX7_oldest_17 rfl (by decide) rfl ?_
    refine wp_iconst (pc := 18) (0) dX7_oldest_18 (by decide) ?_
    refine wp_istore_n (pc := 19) 3 dX7_oldest_19 rfl (by decide) rfl ?_
    unfold do_oldest at k
    rw [qry_t (c := (upB x 1)) c_6] at k
    refine wp_loop (fun i => [.ref 40, .int x, .int (eN (oldest (sgf s) (decide (x = 0)) i)), .int (nI i), .null]) (fun _ => (S0, F, I, J)) (fun _ => True) (sgf s 68) (fun i hi hv nx => ?_) (fun hv => ?_) 0 (Nat.zero_le _) trivial
    · have hb3 := hw.been (i := i) (by omega)
      have hbi := bn_at hw hi
      have hag := hw.age (i := i) (by omega)
      rcases ho : bestU (fun i => (bn (sgf s)).testBit i) (oldL (sgf s) (decide (x = 0))) i with _ | j
      · refine wp_to (lv' := [.ref 40, .int x, .int (-1), .int (nI i), .null]) ?_ (by rw [show oldest (sgf s) (decide (x = 0)) i = none from ho]; rfl) rfl rfl
        refine wp_iload_n (pc := 20) 3 dX7_oldest_20 rfl rfl ?_
        refine wp_aload_n (pc := 21) 0 dX7_oldest_21 rfl rfl ?_
        refine wc_V_ (pc := 22) dX7_oldest_22 lkX7_57 (sm_Rc.o (ci := 6) s0_40 (by decide) (by decide)) (by decide) (Nat.le_of_ble_eq_true rfl) ?_
        refine c_X7_many hw hR ?_
        refine wp_icmp_ge (pc := 25) 104 dX7_oldest_25 (by decide) (fun c_25 => ?_) (fun c_25 => ?_)
        · exact absurd c_25 (nI_ge (b := sgf s 68) hi (by omega))
        · refine wp_aload_n (pc := 28) 0 dX7_oldest_28 rfl rfl ?_
          refine wp_iload_n (pc := 29) 3 dX7_oldest_29 rfl rfl ?_
          refine wp_iconst (pc := 30) (3) dX7_oldest_30 (by decide) ?_
          refine wc_V_II (pc := 31) dX7_oldest_31 lkX7_53 (sm_Rc.o (ci := 6) s0_40 (by decide) (by decide)) (by decide) (Nat.le_of_ble_eq_true rfl) ?_
          refine c_X7_of (w := 3) hw hR (by omega) ?_
          refine wp_iconst (pc := 34) (1) dX7_oldest_34 (by decide) ?_
          refine wp_icmp_ne (pc := 35) 98 dX7_oldest_35 (by decide) (fun c_35 => ?_) (fun c_35 => ?_)
          · refine wp_incN (pc := 98) 3 dX7_oldest_98 rfl (by decide) rfl ?_
            refine wp_goto (pc := 101) 20 dX7_oldest_101 (by decide) ?_
            have nx := nx trivial
            unfold oldest at nx
            rw [best_no (show (bn (sgf s)).testBit i = false by rw [hbi]; exact decide_eq_false (fun z => c_35 (by rw [z]; rfl))), ho] at nx
            exact nx
          · refine wp_iload_n (pc := 38) 2 dX7_oldest_38 rfl rfl ?_
            refine wp_iconst (pc := 39) (-1) dX7_oldest_39 (by decide) ?_
            refine wp_icmp_eq (pc := 40) 80 dX7_oldest_40 (by decide) (fun c_40 => ?_) (fun c_40 => ?_)
            · refine wp_iconst (pc := 80) (1) dX7_oldest_80 (by decide) ?_
              refine wp_goto (pc := 81) 85 dX7_oldest_81 (by decide) ?_
              refine wp_istore (pc := 85) 4 dX7_oldest_85 (by decide) rfl ?_
              refine wp_iload (pc := 87) 4 dX7_oldest_87 rfl ?_
              refine wp_ifeq (pc := 89) 96 dX7_oldest_89 (by decide) (fun c_89 => ?_) (fun c_89 => ?_)
              · exact absurd c_89 (by decide)
              · refine wp_iload_n (pc := 92) 3 dX7_oldest_92 rfl rfl ?_
                refine wp_goto (pc := 93) 97 dX7_oldest_93 (by decide) ?_
                refine wp_istore_n (pc := 97) 2 dX7_oldest_97 rfl (by decide) rfl ?_
                refine wp_incN (pc := 98) 3 dX7_oldest_98 rfl (by decide) rfl ?_
                refine wp_goto (pc := 101) 20 dX7_oldest_101 (by decide) ?_
                have nx := nx trivial
                unfold oldest at nx
                rw [best_new (show (bn (sgf s)).testBit i = true by rw [hbi]; exact decide_eq_true ((nI_eq (by omega) (by decide)).mp c_35)) ho] at nx
                refine wp_weak ?_ nx
                exact And.intro (Or.inr rfl) (And.intro (Or.inr rfl) (And.intro (Or.inr rfl) (And.intro (Or.inr rfl) (And.intro (Or.inl rfl) (trivial)))))
            · exact absurd (by decide) c_40
      · have hj := (bestU_lt ho).1
        have haj := hw.age (i := j) (by omega)
        refine wp_to (lv' := [.ref 40, .int x, .int (nI j), .int (nI i), .null]) ?_ (by rw [show oldest (sgf s) (decide (x = 0)) i = some j from ho]; rfl) rfl rfl
        refine wp_iload_n (pc := 20) 3 dX7_oldest_20 rfl rfl ?_
        refine wp_aload_n (pc := 21) 0 dX7_oldest_21 rfl rfl ?_
        refine wc_V_ (pc := 22) dX7_oldest_22 lkX7_57 (sm_Rc.o (ci := 6) s0_40 (by decide) (by decide)) (by decide) (Nat.le_of_ble_eq_true rfl) ?_
        refine c_X7_many hw hR ?_
        refine wp_icmp_ge (pc := 25) 104 dX7_oldest_25 (by decide) (fun c_25 => ?_) (fun c_25 => ?_)
        · exact absurd c_25 (nI_ge (b := sgf s 68) hi (by omega))
        · refine wp_aload_n (pc := 28) 0 dX7_oldest_28 rfl rfl ?_
          refine wp_iload_n (pc := 29) 3 dX7_oldest_29 rfl rfl ?_
          refine wp_iconst (pc := 30) (3) dX7_oldest_30 (by decide) ?_
          refine wc_V_II (pc := 31) dX7_oldest_31 lkX7_53 (sm_Rc.o (ci := 6) s0_40 (by decide) (by decide)) (by decide) (Nat.le_of_ble_eq_true rfl) ?_
          refine c_X7_of (w := 3) hw hR (by omega) ?_
          refine wp_iconst (pc := 34) (1) dX7_oldest_34 (by decide) ?_
          refine wp_icmp_ne (pc := 35) 98 dX7_oldest_35 (by decide) (fun c_35 => ?_) (fun c_35 => ?_)
          · refine wp_incN (pc := 98) 3 dX7_oldest_98 rfl (by decide) rfl ?_
            refine wp_goto (pc := 101) 20 dX7_oldest_101 (by decide) ?_
            have nx := nx trivial
            unfold oldest at nx
            rw [best_no (show (bn (sgf s)).testBit i = false by rw [hbi]; exact decide_eq_false (fun z => c_35 (by rw [z]; rfl))), ho] at nx
            exact nx
          · refine wp_iload_n (pc := 38) 2 dX7_oldest_38 rfl rfl ?_
            refine wp_iconst (pc := 39) (-1) dX7_oldest_39 (by decide) ?_
            refine wp_icmp_eq (pc := 40) 80 dX7_oldest_40 (by decide) (fun c_40 => ?_) (fun c_40 => ?_)
            · exact absurd c_40 (m1_ne (by omega))
            · refine wp_iload_n (pc := 43) 1 dX7_oldest_43 rfl rfl ?_
              refine wp_ifne (pc := 44) 65 dX7_oldest_44 (by decide) (fun c_44 => ?_) (fun c_44 => ?_)
              · refine wp_aload_n (pc := 65) 0 dX7_oldest_65 rfl rfl ?_
                refine wp_iload_n (pc := 66) 3 dX7_oldest_66 rfl rfl ?_
                refine wp_iconst (pc := 67) (4) dX7_oldest_67 (by decide) ?_
                refine wc_V_II (pc := 68) dX7_oldest_68 lkX7_53 (sm_Rc.o (ci := 6) s0_40 (by decide) (by decide)) (by decide) (Nat.le_of_ble_eq_true rfl) ?_
                refine c_X7_of (w := 4) hw hR (by omega) ?_
                refine wp_aload_n (pc := 71) 0 dX7_oldest_71 rfl rfl ?_
                refine wp_iload_n (pc := 72) 2 dX7_oldest_72 rfl rfl ?_
                refine wp_iconst (pc := 73) (4) dX7_oldest_73 (by decide) ?_
                refine wc_V_II (pc := 74) dX7_oldest_74 lkX7_53 (sm_Rc.o (ci := 6) s0_40 (by decide) (by decide)) (by decide) (Nat.le_of_ble_eq_true rfl) ?_
                refine c_X7_of (w := 4) hw hR (by omega) ?_
                refine wp_icmp_ge (pc := 77) 84 dX7_oldest_77 (by decide) (fun c_77 => ?_) (fun c_77 => ?_)
                · refine wp_iconst (pc := 84) (0) dX7_oldest_84 (by decide) ?_
                  refine wp_istore (pc := 85) 4 dX7_oldest_85 (by decide) rfl ?_
                  refine wp_iload (pc := 87) 4 dX7_oldest_87 rfl ?_
                  refine wp_ifeq (pc := 89) 96 dX7_oldest_89 (by decide) (fun c_89 => ?_) (fun c_89 => ?_)
                  · refine wp_iload_n (pc := 96) 2 dX7_oldest_96 rfl rfl ?_
                    refine wp_istore_n (pc := 97) 2 dX7_oldest_97 rfl (by decide) rfl ?_
                    refine wp_incN (pc := 98) 3 dX7_oldest_98 rfl (by decide) rfl ?_
                    refine wp_goto (pc := 101) 20 dX7_oldest_101 (by decide) ?_
                    have nx := nx trivial
                    unfold oldest at nx
                    rw [best_st (show (bn (sgf s)).testBit i = true by rw [hbi]; exact decide_eq_true ((nI_eq (by omega) (by decide)).mp c_35)) ho (show oldL (sgf s) (decide (x = 0)) i j = false by rw [decide_eq_false c_44]; exact decide_eq_false (fun z => nI_ge z (by omega) c_77))] at nx
                    refine wp_weak ?_ nx
                    exact And.intro (Or.inr rfl) (And.intro (Or.inr rfl) (And.intro (Or.inr rfl) (And.intro (Or.inr rfl) (And.intro (Or.inl rfl) (trivial)))))
                  · exact absurd (by decide) c_89
                · refine wp_iconst (pc := 80) (1) dX7_oldest_80 (by decide) ?_
                  refine wp_goto (pc := 81) 85 dX7_oldest_81 (by decide) ?_
                  refine wp_istore (pc := 85) 4 dX7_oldest_85 (by decide) rfl ?_
                  refine wp_iload (pc := 87) 4 dX7_oldest_87 rfl ?_
                  refine wp_ifeq (pc := 89) 96 dX7_oldest_89 (by decide) (fun c_89 => ?_) (fun c_89 => ?_)
                  · exact absurd c_89 (by decide)
                  · refine wp_iload_n (pc := 92) 3 dX7_oldest_92 rfl rfl ?_
                    refine wp_goto (pc := 93) 97 dX7_oldest_93 (by decide) ?_
                    refine wp_istore_n (pc := 97) 2 dX7_oldest_97 rfl (by decide) rfl ?_
                    refine wp_incN (pc := 98) 3 dX7_oldest_98 rfl (by decide) rfl ?_
                    refine wp_goto (pc := 101) 20 dX7_oldest_101 (by decide) ?_
                    have nx := nx trivial
                    unfold oldest at nx
                    rw [best_up (show (bn (sgf s)).testBit i = true by rw [hbi]; exact decide_eq_true ((nI_eq (by omega) (by decide)).mp c_35)) ho (show oldL (sgf s) (decide (x = 0)) i j = true by rw [decide_eq_false c_44]; exact decide_eq_true (Nat.lt_of_not_le fun z => c_77 (nI_le z (by omega))))] at nx
                    refine wp_weak ?_ nx
                    exact And.intro (Or.inr rfl) (And.intro (Or.inr rfl) (And.intro (Or.inr rfl) (And.intro (Or.inr rfl) (And.intro (Or.inl rfl) (trivial)))))
              · refine wp_aload_n (pc := 47) 0 dX7_oldest_47 rfl rfl ?_
                refine wp_iload_n (pc := 48) 3 dX7_oldest_48 rfl rfl ?_
                refine wp_iconst (pc := 49) (4) dX7_oldest_49 (by decide) ?_
                refine wc_V_II (pc := 50) dX7_oldest_50 lkX7_53 (sm_Rc.o (ci := 6) s0_40 (by decide) (by decide)) (by decide) (Nat.le_of_ble_eq_true rfl) ?_
                refine c_X7_of (w := 4) hw hR (by omega) ?_
                refine wp_aload_n (pc := 53) 0 dX7_oldest_53 rfl rfl ?_
                refine wp_iload_n (pc := 54) 2 dX7_oldest_54 rfl rfl ?_
                refine wp_iconst (pc := 55) (4) dX7_oldest_55 (by decide) ?_
                refine wc_V_II (pc := 56) dX7_oldest_56 lkX7_53 (sm_Rc.o (ci := 6) s0_40 (by decide) (by decide)) (by decide) (Nat.le_of_ble_eq_true rfl) ?_
                refine c_X7_of (w := 4) hw hR (by omega) ?_
                refine wp_icmp_le (pc := 59) 84 dX7_oldest_59 (by decide) (fun c_59 => ?_) (fun c_59 => ?_)
                · refine wp_iconst (pc := 84) (0) dX7_oldest_84 (by decide) ?_
                  refine wp_istore (pc := 85) 4 dX7_oldest_85 (by decide) rfl ?_
                  refine wp_iload (pc := 87) 4 dX7_oldest_87 rfl ?_
                  refine wp_ifeq (pc := 89) 96 dX7_oldest_89 (by decide) (fun c_89 => ?_) (fun c_89 => ?_)
                  · refine wp_iload_n (pc := 96) 2 dX7_oldest_96 rfl rfl ?_
                    refine wp_istore_n (pc := 97) 2 dX7_oldest_97 rfl (by decide) rfl ?_
                    refine wp_incN (pc := 98) 3 dX7_oldest_98 rfl (by decide) rfl ?_
                    refine wp_goto (pc := 101) 20 dX7_oldest_101 (by decide) ?_
                    have nx := nx trivial
                    unfold oldest at nx
                    rw [best_st (show (bn (sgf s)).testBit i = true by rw [hbi]; exact decide_eq_true ((nI_eq (by omega) (by decide)).mp c_35)) ho (show oldL (sgf s) (decide (x = 0)) i j = false by rw [decide_eq_true c_44]; exact decide_eq_false (fun z => nI_ge z (by omega) c_59))] at nx
                    refine wp_weak ?_ nx
                    exact And.intro (Or.inr rfl) (And.intro (Or.inr rfl) (And.intro (Or.inr rfl) (And.intro (Or.inr rfl) (And.intro (Or.inl rfl) (trivial)))))
                  · exact absurd (by decide) c_89
                · refine wp_goto (pc := 62) 80 dX7_oldest_62 (by decide) ?_
                  refine wp_iconst (pc := 80) (1) dX7_oldest_80 (by decide) ?_
                  refine wp_goto (pc := 81) 85 dX7_oldest_81 (by decide) ?_
                  refine wp_istore (pc := 85) 4 dX7_oldest_85 (by decide) rfl ?_
                  refine wp_iload (pc := 87) 4 dX7_oldest_87 rfl ?_
                  refine wp_ifeq (pc := 89) 96 dX7_oldest_89 (by decide) (fun c_89 => ?_) (fun c_89 => ?_)
                  · exact absurd c_89 (by decide)
                  · refine wp_iload_n (pc := 92) 3 dX7_oldest_92 rfl rfl ?_
                    refine wp_goto (pc := 93) 97 dX7_oldest_93 (by decide) ?_
                    refine wp_istore_n (pc := 97) 2 dX7_oldest_97 rfl (by decide) rfl ?_
                    refine wp_incN (pc := 98) 3 dX7_oldest_98 rfl (by decide) rfl ?_
                    refine wp_goto (pc := 101) 20 dX7_oldest_101 (by decide) ?_
                    have nx := nx trivial
                    unfold oldest at nx
                    rw [best_up (show (bn (sgf s)).testBit i = true by rw [hbi]; exact decide_eq_true ((nI_eq (by omega) (by decide)).mp c_35)) ho (show oldL (sgf s) (decide (x = 0)) i j = true by rw [decide_eq_true c_44]; exact decide_eq_true (Nat.lt_of_not_le fun z => c_59 (nI_le z (by omega))))] at nx
                    refine wp_weak ?_ nx
                    exact And.intro (Or.inr rfl) (And.intro (Or.inr rfl) (And.intro (Or.inr rfl) (And.intro (Or.inr rfl) (And.intro (Or.inl rfl) (trivial)))))
    · refine wp_iload_n (pc := 20) 3 dX7_oldest_20 rfl rfl ?_
      refine wp_aload_n (pc := 21) 0 dX7_oldest_21 rfl rfl ?_
      refine wc_V_ (pc := 22) dX7_oldest_22 lkX7_57 (sm_Rc.o (ci := 6) s0_40 (by decide) (by decide)) (by decide) (Nat.le_of_ble_eq_true rfl) ?_
      refine c_X7_many hw hR ?_
      refine wp_icmp_ge (pc := 25) 104 dX7_oldest_25 (by decide) (fun c_25 => ?_) (fun c_25 => ?_)
      · refine wp_iload_n (pc := 104) 2 dX7_oldest_104 rfl rfl ?_
        refine wp_iretI (pc := 105) dX7_oldest_105 rfl ?_
        exact k _ _ _ hM Lo.rf
      · exact absurd (Int32.le_refl _) c_25
  · refine wp_aload_n (pc := 9) 0 dX7_oldest_9 rfl rfl ?_
    refine wp_bipush (pc := 10) (-2) dX7_oldest_10 (by decide) ?_
    refine wc_V_I (pc := 12) dX7_oldest_12 lkX7_81 (sm_Rc.o (ci := 6) s0_40 (by decide) (by decide)) (by decide) (Nat.le_of_ble_eq_true rfl) ?_
    refine c_X7_no_0 ?_
    refine wp_iretI (pc := 15) dX7_oldest_15 rfl ?_
    unfold do_oldest at k
    rw [qry_f (c := (upB x 1)) c_6] at k
    exact k _ _ _ (hM.bmp (by decide)) (Lo.rf.uI (by decide))
theorem c_X7_unsay {d : Nat} {F I : Nat → Nat → Int32} {J : Nat → Nat → Int64} {Q : Option Value → sm_H → Prop} {x : Int32} {s : Sg} (hM : MR s F I J) (ok : Ok s) (k : ∀ F1 I1 J1, MR (do_unsay s x).2 F1 I1 J1 → Lo F I J F1 I1 J1 → Q (some (.int (do_unsay s x).1)) (S0, F1, I1, J1)) : Wp mX7_unsay (d + 2) 0 0 0 (sm_ini [.ref 40, .int x] 8) [] (S0, F, I, J) Q := by
  show Wp _ _ _ _ _ [.ref 40, .int x, .null, .null, .null, .null, .null, .null] _ _ _
  have hw := ok.1
  have hR := hM.1
  have hn := hw.n
  have hcw := hw.c
  have hbn := bn_1024 hw
  have hbl := bn_lt hw
  have hp2 := p2n hw
  have hh1 := hw.wth
  have hh2 := hw.crk
  have hh3 := hw.year
  refine wp_aload_n (pc := 0) 0 dX7_unsay_0 rfl rfl ?_
  refine wp_iload_n (pc := 1) 1 dX7_unsay_1 rfl rfl ?_
  refine wc_V_I (pc := 2) dX7_unsay_2 lkX7_180 (sm_Rc.o (ci := 6) s0_40 (by decide) (by decide)) (by decide) (Nat.le_of_ble_eq_true rfl) ?_
  refine c_X7_areThings hw hR ?_
  refine wp_ifneB (pc := 5) 15 dX7_unsay_5 (by decide) (fun c_5 => ?_) (fun c_5 => ?_)
  · have hp2 := p2n hw
    obtain ⟨b, hb0, rfl⟩ := (i32_in (by omega)).mp (of_decide_eq_true c_5)
    have hb : b < 1024 := by omega
    refine wp_aload_n (pc := 15) 0 dX7_unsay_15 rfl rfl ?_
    refine wc_V_ (pc := 16) dX7_unsay_16 lkX7_135 (sm_Rc.o (ci := 6) s0_40 (by decide) (by decide)) (by decide) (Nat.le_of_ble_eq_true rfl) ?_
    refine c_X7_been hw hR ?_
    refine wp_istore_n (pc := 19) 2 dX7_unsay_19 rfl (by decide) rfl ?_
    refine wp_iconst (pc := 20) (-1) dX7_unsay_20 (by decide) ?_
    refine wp_istore_n (pc := 21) 3 dX7_unsay_21 rfl (by decide) rfl ?_
    refine wp_iconst (pc := 22) (-1) dX7_unsay_22 (by decide) ?_
    refine wp_istore (pc := 23) 4 dX7_unsay_23 (by decide) rfl ?_
    refine wp_iconst (pc := 25) (0) dX7_unsay_25 (by decide) ?_
    refine wp_istore (pc := 26) 5 dX7_unsay_26 (by decide) rfl ?_
    unfold do_unsay at k
    rw [qry_t (c := (arTh s (nI b))) c_5] at k
    rw [nI_clamp (by omega)] at k
    refine wp_loop (fun i => [.ref 40, .int (nI b), .int (nI (bn (sgf s))), .int (eN ((unU (sgf s) b i).map Prod.fst)), .int (eM (unU (sgf s) b i)), .int (nI i), .null, .null]) (fun _ => (S0, F, I, J)) (fun _ => True) (2 ^ sgf s 68) (fun i hi hv nx => ?_) (fun hv => ?_) 0 (Nat.zero_le _) trivial
    · have hdi := dif_1024 i hbn
      have hs1 := sta_1024 (sgf s) (dif (bn (sgf s)) i)
      have hpo := pop_le (sta (sgf s) (dif (bn (sgf s)) i))
      rcases ho : unU (sgf s) b i with _ | ⟨c, m⟩
      · refine wp_to (lv' := [.ref 40, .int (nI b), .int (nI (bn (sgf s))), .int (-1), .int (-1), .int (nI i), .null, .null]) ?_ rfl rfl rfl
        refine wp_iload (pc := 28) 5 dX7_unsay_28 rfl ?_
        refine wp_iconst (pc := 30) (1) dX7_unsay_30 (by decide) ?_
        refine wp_aload_n (pc := 31) 0 dX7_unsay_31 rfl rfl ?_
        refine wc_V_ (pc := 32) dX7_unsay_32 lkX7_57 (sm_Rc.o (ci := 6) s0_40 (by decide) (by decide)) (by decide) (Nat.le_of_ble_eq_true rfl) ?_
        refine c_X7_many hw hR ?_
        refine wp_ishl (pc := 35) dX7_unsay_35 ?_
        refine wp_int (bt_one (by omega)) ?_
        refine wp_icmp_ge (pc := 36) 123 dX7_unsay_36 (by decide) (fun c_36 => ?_) (fun c_36 => ?_)
        · exact absurd c_36 (nI_ge (b := 2 ^ sgf s 68) hi (by omega))
        · refine wp_iload (pc := 39) 5 dX7_unsay_39 rfl ?_
          refine wp_iload_n (pc := 41) 2 dX7_unsay_41 rfl rfl ?_
          refine wp_iconst (pc := 42) (-1) dX7_unsay_42 (by decide) ?_
          refine wp_ixor (pc := 43) dX7_unsay_43 ?_
          refine wp_iand (pc := 44) dX7_unsay_44 ?_
          refine wp_int (bt_dif _ _) ?_
          refine wp_ifne (pc := 45) 61 dX7_unsay_45 (by decide) (fun c_45 => ?_) (fun c_45 => ?_)
          · refine wp_iload_n (pc := 61) 1 dX7_unsay_61 rfl rfl ?_
            refine wp_istore (pc := 62) 6 dX7_unsay_62 (by decide) rfl ?_
            refine wp_iload (pc := 64) 5 dX7_unsay_64 rfl ?_
            refine wp_iload_n (pc := 66) 2 dX7_unsay_66 rfl rfl ?_
            refine wp_iconst (pc := 67) (-1) dX7_unsay_67 (by decide) ?_
            refine wp_ixor (pc := 68) dX7_unsay_68 ?_
            refine wp_iand (pc := 69) dX7_unsay_69 ?_
            refine wp_int (bt_dif _ _) ?_
            refine wp_ifne (pc := 70) 117 dX7_unsay_70 (by decide) (fun c_70 => ?_) (fun c_70 => ?_)
            · refine wp_incN (pc := 117) 5 dX7_unsay_117 rfl (by decide) rfl ?_
              refine wp_goto (pc := 120) 28 dX7_unsay_120 (by decide) ?_
              have nx := nx trivial
              rw [un_no (fun z => c_70 (by rw [z.1]; rfl)), ho] at nx
              refine wp_weak ?_ nx
              exact And.intro (Or.inr rfl) (And.intro (Or.inr rfl) (And.intro (Or.inr rfl) (And.intro (Or.inr rfl) (And.intro (Or.inr rfl) (And.intro (Or.inr rfl) (And.intro (Or.inl rfl) (And.intro (Or.inl rfl) (trivial))))))))
            · exact absurd c_70 c_45
          · refine wp_aload_n (pc := 48) 0 dX7_unsay_48 rfl rfl ?_
            refine wp_iload_n (pc := 49) 2 dX7_unsay_49 rfl rfl ?_
            refine wp_iload (pc := 50) 5 dX7_unsay_50 rfl ?_
            refine wp_iconst (pc := 52) (-1) dX7_unsay_52 (by decide) ?_
            refine wp_ixor (pc := 53) dX7_unsay_53 ?_
            refine wp_iand (pc := 54) dX7_unsay_54 ?_
            refine wp_int (bt_dif _ _) ?_
            refine wc_V_I (pc := 55) dX7_unsay_55 lkX7_65 (sm_Rc.o (ci := 6) s0_40 (by decide) (by decide)) (by decide) (Nat.le_of_ble_eq_true rfl) ?_
            refine c_X7_standsBy hw hR (dif_le _ _ hbl) ?_
            refine wp_goto (pc := 58) 62 dX7_unsay_58 (by decide) ?_
            refine wp_istore (pc := 62) 6 dX7_unsay_62 (by decide) rfl ?_
            refine wp_iload (pc := 64) 5 dX7_unsay_64 rfl ?_
            refine wp_iload_n (pc := 66) 2 dX7_unsay_66 rfl rfl ?_
            refine wp_iconst (pc := 67) (-1) dX7_unsay_67 (by decide) ?_
            refine wp_ixor (pc := 68) dX7_unsay_68 ?_
            refine wp_iand (pc := 69) dX7_unsay_69 ?_
            refine wp_int (bt_dif _ _) ?_
            refine wp_ifne (pc := 70) 117 dX7_unsay_70 (by decide) (fun c_70 => ?_) (fun c_70 => ?_)
            · exact absurd c_45 c_70
            · refine wp_iload (pc := 73) 6 dX7_unsay_73 rfl ?_
              refine wp_iload_n (pc := 75) 1 dX7_unsay_75 rfl rfl ?_
              refine wp_iand (pc := 76) dX7_unsay_76 ?_
              refine wp_int (bt_and _ _) ?_
              refine wp_ifne (pc := 77) 117 dX7_unsay_77 (by decide) (fun c_77 => ?_) (fun c_77 => ?_)
              · refine wp_incN (pc := 117) 5 dX7_unsay_117 rfl (by decide) rfl ?_
                refine wp_goto (pc := 120) 28 dX7_unsay_120 (by decide) ?_
                have nx := nx trivial
                rw [un_no (fun z => c_77 (by rw [z.2]; rfl)), ho] at nx
                refine wp_weak ?_ nx
                exact And.intro (Or.inr rfl) (And.intro (Or.inr rfl) (And.intro (Or.inr rfl) (And.intro (Or.inr rfl) (And.intro (Or.inr rfl) (And.intro (Or.inr rfl) (And.intro (Or.inl rfl) (And.intro (Or.inl rfl) (trivial))))))))
              · refine wp_iload (pc := 80) 6 dX7_unsay_80 rfl ?_
                refine wc_S_I (pc := 82) dX7_unsay_82 lkX7_72 (by decide) (Nat.le_of_ble_eq_true rfl) ?_
                refine c_J6_bitCount_0f7a4 ?_
                refine wp_int (bc_pop hs1) ?_
                refine wp_istore (pc := 85) 7 dX7_unsay_85 (by decide) rfl ?_
                refine wp_iload (pc := 87) 7 dX7_unsay_87 rfl ?_
                refine wp_iload (pc := 89) 4 dX7_unsay_89 rfl ?_
                refine wp_icmp_gt (pc := 91) 110 dX7_unsay_91 (by decide) (fun c_91 => ?_) (fun c_91 => ?_)
                · refine wp_iload (pc := 110) 5 dX7_unsay_110 rfl ?_
                  refine wp_istore_n (pc := 112) 3 dX7_unsay_112 rfl (by decide) rfl ?_
                  refine wp_iload (pc := 113) 7 dX7_unsay_113 rfl ?_
                  refine wp_istore (pc := 115) 4 dX7_unsay_115 (by decide) rfl ?_
                  refine wp_incN (pc := 117) 5 dX7_unsay_117 rfl (by decide) rfl ?_
                  refine wp_goto (pc := 120) 28 dX7_unsay_120 (by decide) ?_
                  have nx := nx trivial
                  rw [un_new ⟨(nIz (dif_1024 _ (by omega))).mp c_70, (nIz (and_lt (n := 10) _ hs1)).mp c_77⟩ ho] at nx
                  refine wp_weak ?_ nx
                  exact And.intro (Or.inr rfl) (And.intro (Or.inr rfl) (And.intro (Or.inr rfl) (And.intro (Or.inr rfl) (And.intro (Or.inr rfl) (And.intro (Or.inr rfl) (And.intro (Or.inl rfl) (And.intro (Or.inl rfl) (trivial))))))))
                · exact absurd (m1_gt (by omega)) c_91
      · have hm := unU_lt ho
        simp only at hm
        refine wp_to (lv' := [.ref 40, .int (nI b), .int (nI (bn (sgf s))), .int (nI c), .int (nI m), .int (nI i), .null, .null]) ?_ rfl rfl rfl
        refine wp_iload (pc := 28) 5 dX7_unsay_28 rfl ?_
        refine wp_iconst (pc := 30) (1) dX7_unsay_30 (by decide) ?_
        refine wp_aload_n (pc := 31) 0 dX7_unsay_31 rfl rfl ?_
        refine wc_V_ (pc := 32) dX7_unsay_32 lkX7_57 (sm_Rc.o (ci := 6) s0_40 (by decide) (by decide)) (by decide) (Nat.le_of_ble_eq_true rfl) ?_
        refine c_X7_many hw hR ?_
        refine wp_ishl (pc := 35) dX7_unsay_35 ?_
        refine wp_int (bt_one (by omega)) ?_
        refine wp_icmp_ge (pc := 36) 123 dX7_unsay_36 (by decide) (fun c_36 => ?_) (fun c_36 => ?_)
        · exact absurd c_36 (nI_ge (b := 2 ^ sgf s 68) hi (by omega))
        · refine wp_iload (pc := 39) 5 dX7_unsay_39 rfl ?_
          refine wp_iload_n (pc := 41) 2 dX7_unsay_41 rfl rfl ?_
          refine wp_iconst (pc := 42) (-1) dX7_unsay_42 (by decide) ?_
          refine wp_ixor (pc := 43) dX7_unsay_43 ?_
          refine wp_iand (pc := 44) dX7_unsay_44 ?_
          refine wp_int (bt_dif _ _) ?_
          refine wp_ifne (pc := 45) 61 dX7_unsay_45 (by decide) (fun c_45 => ?_) (fun c_45 => ?_)
          · refine wp_iload_n (pc := 61) 1 dX7_unsay_61 rfl rfl ?_
            refine wp_istore (pc := 62) 6 dX7_unsay_62 (by decide) rfl ?_
            refine wp_iload (pc := 64) 5 dX7_unsay_64 rfl ?_
            refine wp_iload_n (pc := 66) 2 dX7_unsay_66 rfl rfl ?_
            refine wp_iconst (pc := 67) (-1) dX7_unsay_67 (by decide) ?_
            refine wp_ixor (pc := 68) dX7_unsay_68 ?_
            refine wp_iand (pc := 69) dX7_unsay_69 ?_
            refine wp_int (bt_dif _ _) ?_
            refine wp_ifne (pc := 70) 117 dX7_unsay_70 (by decide) (fun c_70 => ?_) (fun c_70 => ?_)
            · refine wp_incN (pc := 117) 5 dX7_unsay_117 rfl (by decide) rfl ?_
              refine wp_goto (pc := 120) 28 dX7_unsay_120 (by decide) ?_
              have nx := nx trivial
              rw [un_no (fun z => c_70 (by rw [z.1]; rfl)), ho] at nx
              refine wp_weak ?_ nx
              exact And.intro (Or.inr rfl) (And.intro (Or.inr rfl) (And.intro (Or.inr rfl) (And.intro (Or.inr rfl) (And.intro (Or.inr rfl) (And.intro (Or.inr rfl) (And.intro (Or.inl rfl) (And.intro (Or.inl rfl) (trivial))))))))
            · exact absurd c_70 c_45
          · refine wp_aload_n (pc := 48) 0 dX7_unsay_48 rfl rfl ?_
            refine wp_iload_n (pc := 49) 2 dX7_unsay_49 rfl rfl ?_
            refine wp_iload (pc := 50) 5 dX7_unsay_50 rfl ?_
            refine wp_iconst (pc := 52) (-1) dX7_unsay_52 (by decide) ?_
            refine wp_ixor (pc := 53) dX7_unsay_53 ?_
            refine wp_iand (pc := 54) dX7_unsay_54 ?_
            refine wp_int (bt_dif _ _) ?_
            refine wc_V_I (pc := 55) dX7_unsay_55 lkX7_65 (sm_Rc.o (ci := 6) s0_40 (by decide) (by decide)) (by decide) (Nat.le_of_ble_eq_true rfl) ?_
            refine c_X7_standsBy hw hR (dif_le _ _ hbl) ?_
            refine wp_goto (pc := 58) 62 dX7_unsay_58 (by decide) ?_
            refine wp_istore (pc := 62) 6 dX7_unsay_62 (by decide) rfl ?_
            refine wp_iload (pc := 64) 5 dX7_unsay_64 rfl ?_
            refine wp_iload_n (pc := 66) 2 dX7_unsay_66 rfl rfl ?_
            refine wp_iconst (pc := 67) (-1) dX7_unsay_67 (by decide) ?_
            refine wp_ixor (pc := 68) dX7_unsay_68 ?_
            refine wp_iand (pc := 69) dX7_unsay_69 ?_
            refine wp_int (bt_dif _ _) ?_
            refine wp_ifne (pc := 70) 117 dX7_unsay_70 (by decide) (fun c_70 => ?_) (fun c_70 => ?_)
            · exact absurd c_45 c_70
            · refine wp_iload (pc := 73) 6 dX7_unsay_73 rfl ?_
              refine wp_iload_n (pc := 75) 1 dX7_unsay_75 rfl rfl ?_
              refine wp_iand (pc := 76) dX7_unsay_76 ?_
              refine wp_int (bt_and _ _) ?_
              refine wp_ifne (pc := 77) 117 dX7_unsay_77 (by decide) (fun c_77 => ?_) (fun c_77 => ?_)
              · refine wp_incN (pc := 117) 5 dX7_unsay_117 rfl (by decide) rfl ?_
                refine wp_goto (pc := 120) 28 dX7_unsay_120 (by decide) ?_
                have nx := nx trivial
                rw [un_no (fun z => c_77 (by rw [z.2]; rfl)), ho] at nx
                refine wp_weak ?_ nx
                exact And.intro (Or.inr rfl) (And.intro (Or.inr rfl) (And.intro (Or.inr rfl) (And.intro (Or.inr rfl) (And.intro (Or.inr rfl) (And.intro (Or.inr rfl) (And.intro (Or.inl rfl) (And.intro (Or.inl rfl) (trivial))))))))
              · refine wp_iload (pc := 80) 6 dX7_unsay_80 rfl ?_
                refine wc_S_I (pc := 82) dX7_unsay_82 lkX7_72 (by decide) (Nat.le_of_ble_eq_true rfl) ?_
                refine c_J6_bitCount_0f7a4 ?_
                refine wp_int (bc_pop hs1) ?_
                refine wp_istore (pc := 85) 7 dX7_unsay_85 (by decide) rfl ?_
                refine wp_iload (pc := 87) 7 dX7_unsay_87 rfl ?_
                refine wp_iload (pc := 89) 4 dX7_unsay_89 rfl ?_
                refine wp_icmp_gt (pc := 91) 110 dX7_unsay_91 (by decide) (fun c_91 => ?_) (fun c_91 => ?_)
                · refine wp_iload (pc := 110) 5 dX7_unsay_110 rfl ?_
                  refine wp_istore_n (pc := 112) 3 dX7_unsay_112 rfl (by decide) rfl ?_
                  refine wp_iload (pc := 113) 7 dX7_unsay_113 rfl ?_
                  refine wp_istore (pc := 115) 4 dX7_unsay_115 (by decide) rfl ?_
                  refine wp_incN (pc := 117) 5 dX7_unsay_117 rfl (by decide) rfl ?_
                  refine wp_goto (pc := 120) 28 dX7_unsay_120 (by decide) ?_
                  have nx := nx trivial
                  rw [un_up ⟨(nIz (dif_1024 _ (by omega))).mp c_70, (nIz (and_lt (n := 10) _ hs1)).mp c_77⟩ ho (Or.inl (Nat.lt_of_not_le fun z => nI_nlt z (by omega) c_91))] at nx
                  refine wp_weak ?_ nx
                  exact And.intro (Or.inr rfl) (And.intro (Or.inr rfl) (And.intro (Or.inr rfl) (And.intro (Or.inr rfl) (And.intro (Or.inr rfl) (And.intro (Or.inr rfl) (And.intro (Or.inl rfl) (And.intro (Or.inl rfl) (trivial))))))))
                · refine wp_iload (pc := 94) 7 dX7_unsay_94 rfl ?_
                  refine wp_iload (pc := 96) 4 dX7_unsay_96 rfl ?_
                  refine wp_icmp_ne (pc := 98) 117 dX7_unsay_98 (by decide) (fun c_98 => ?_) (fun c_98 => ?_)
                  · refine wp_incN (pc := 117) 5 dX7_unsay_117 rfl (by decide) rfl ?_
                    refine wp_goto (pc := 120) 28 dX7_unsay_120 (by decide) ?_
                    have nx := nx trivial
                    rw [un_st ⟨(nIz (dif_1024 _ (by omega))).mp c_70, (nIz (and_lt (n := 10) _ hs1)).mp c_77⟩ ho (fun z => z.elim (fun z => c_91 (nI_lt z (by omega))) (fun z => c_98 (by rw [z.1])))] at nx
                    refine wp_weak ?_ nx
                    exact And.intro (Or.inr rfl) (And.intro (Or.inr rfl) (And.intro (Or.inr rfl) (And.intro (Or.inr rfl) (And.intro (Or.inr rfl) (And.intro (Or.inr rfl) (And.intro (Or.inl rfl) (And.intro (Or.inl rfl) (trivial))))))))
                  · refine wp_iload (pc := 101) 5 dX7_unsay_101 rfl ?_
                    refine wp_iload_n (pc := 103) 3 dX7_unsay_103 rfl rfl ?_
                    refine wc_S_II (pc := 104) dX7_unsay_104 lkX7_183 (by decide) (Nat.le_of_ble_eq_true rfl) ?_
                    refine c_X7_isFewer_s (by omega) (by omega) ?_
                    refine wp_ifeqB (pc := 107) 117 dX7_unsay_107 (by decide) (fun c_107 => ?_) (fun c_107 => ?_)
                    · refine wp_incN (pc := 117) 5 dX7_unsay_117 rfl (by decide) rfl ?_
                      refine wp_goto (pc := 120) 28 dX7_unsay_120 (by decide) ?_
                      have nx := nx trivial
                      rw [un_st ⟨(nIz (dif_1024 _ (by omega))).mp c_70, (nIz (and_lt (n := 10) _ hs1)).mp c_77⟩ ho (fun z => z.elim (fun z => c_91 (nI_lt z (by omega))) (fun z => of_decide_eq_false c_107 z.2))] at nx
                      refine wp_weak ?_ nx
                      exact And.intro (Or.inr rfl) (And.intro (Or.inr rfl) (And.intro (Or.inr rfl) (And.intro (Or.inr rfl) (And.intro (Or.inr rfl) (And.intro (Or.inr rfl) (And.intro (Or.inl rfl) (And.intro (Or.inl rfl) (trivial))))))))
                    · refine wp_iload (pc := 110) 5 dX7_unsay_110 rfl ?_
                      refine wp_istore_n (pc := 112) 3 dX7_unsay_112 rfl (by decide) rfl ?_
                      refine wp_iload (pc := 113) 7 dX7_unsay_113 rfl ?_
                      refine wp_istore (pc := 115) 4 dX7_unsay_115 (by decide) rfl ?_
                      refine wp_incN (pc := 117) 5 dX7_unsay_117 rfl (by decide) rfl ?_
                      refine wp_goto (pc := 120) 28 dX7_unsay_120 (by decide) ?_
                      have nx := nx trivial
                      rw [un_up ⟨(nIz (dif_1024 _ (by omega))).mp c_70, (nIz (and_lt (n := 10) _ hs1)).mp c_77⟩ ho (Or.inr ⟨((nI_eq (by omega) (by omega)).mp c_98).symm, of_decide_eq_true c_107⟩)] at nx
                      refine wp_weak ?_ nx
                      exact And.intro (Or.inr rfl) (And.intro (Or.inr rfl) (And.intro (Or.inr rfl) (And.intro (Or.inr rfl) (And.intro (Or.inr rfl) (And.intro (Or.inr rfl) (And.intro (Or.inl rfl) (And.intro (Or.inl rfl) (trivial))))))))
    · refine wp_iload (pc := 28) 5 dX7_unsay_28 rfl ?_
      refine wp_iconst (pc := 30) (1) dX7_unsay_30 (by decide) ?_
      refine wp_aload_n (pc := 31) 0 dX7_unsay_31 rfl rfl ?_
      refine wc_V_ (pc := 32) dX7_unsay_32 lkX7_57 (sm_Rc.o (ci := 6) s0_40 (by decide) (by decide)) (by decide) (Nat.le_of_ble_eq_true rfl) ?_
      refine c_X7_many hw hR ?_
      refine wp_ishl (pc := 35) dX7_unsay_35 ?_
      refine wp_int (bt_one (by omega)) ?_
      refine wp_icmp_ge (pc := 36) 123 dX7_unsay_36 (by decide) (fun c_36 => ?_) (fun c_36 => ?_)
      · refine wp_iload_n (pc := 123) 3 dX7_unsay_123 rfl rfl ?_
        refine wp_iretI (pc := 124) dX7_unsay_124 rfl ?_
        exact k _ _ _ hM Lo.rf
      · exact absurd (Int32.le_refl _) c_36
  · refine wp_aload_n (pc := 8) 0 dX7_unsay_8 rfl rfl ?_
    refine wp_bipush (pc := 9) (-2) dX7_unsay_9 (by decide) ?_
    refine wc_V_I (pc := 11) dX7_unsay_11 lkX7_81 (sm_Rc.o (ci := 6) s0_40 (by decide) (by decide)) (by decide) (Nat.le_of_ble_eq_true rfl) ?_
    refine c_X7_no_0 ?_
    refine wp_iretI (pc := 14) dX7_unsay_14 rfl ?_
    unfold do_unsay at k
    rw [qry_f (c := (arTh s x)) c_5] at k
    exact k _ _ _ (hM.bmp (by decide)) (Lo.rf.uI (by decide))
def aB (g : Nat → Nat) : Nat → Nat
  | 0 => 0
  | k + 1 => amax g k
def aM (g : Nat → Nat) : Nat → Int32
  | 0 => -1
  | k + 1 => nI (g (amax g k))
theorem aB_t {g : Nat → Nat} (hg : ∀ i, g i ≤ 10) {i : Nat} (h : ¬ nI (g i) ≤ aM g i) : aB g (i + 1) = i := by
  cases i with
  | zero => rfl
  | succ k =>
    have h1 := hg (k + 1); have h2 := hg (amax g k)
    have h3 : g (amax g k) < g (k + 1) := Nat.lt_of_not_le fun z => h (nI_le z (by omega))
    show amax g (k + 1) = k + 1
    rw [amax, if_pos h3]
theorem aB_f {g : Nat → Nat} (hg : ∀ i, g i ≤ 10) {i : Nat} (h : nI (g i) ≤ aM g i) : aB g (i + 1) = aB g i := by
  cases i with
  | zero => rfl
  | succ k =>
    have h1 := hg (k + 1); have h2 := hg (amax g k)
    have h3 : ¬ g (amax g k) < g (k + 1) := fun z => nI_ge z (by omega) h
    show amax g (k + 1) = amax g k
    rw [amax, if_neg h3]
theorem aM_s {g : Nat → Nat} (hg : ∀ i, g i ≤ 10) (i : Nat) : (if nI (g i) < aM g i then aM g i else nI (g i)) = aM g (i + 1) := by
  cases i with
  | zero =>
    have h1 := hg 0
    show (if nI (g 0) < -1 then -1 else nI (g 0)) = nI (g 0)
    exact if_neg fun z => absurd (m1_gt (show g 0 < 2 ^ 31 by omega)) (Int32.not_lt.mpr (Int32.le_of_lt z))
  | succ k =>
    have h1 := hg (k + 1); have h2 := hg (amax g k)
    show (if nI (g (k + 1)) < nI (g (amax g k)) then nI (g (amax g k)) else nI (g (k + 1))) = nI (g (amax g (k + 1)))
    rw [amax]
    by_cases h : g (amax g k) < g (k + 1)
    · rw [if_pos h, if_neg (nI_nlt (by omega) (by omega))]
    · rw [if_neg h]
      by_cases e : g (k + 1) < g (amax g k)
      · rw [if_pos (nI_lt e (by omega))]
      · rw [if_neg (nI_nlt (by omega) (by omega)), show g (k + 1) = g (amax g k) by omega]
theorem c_X7_weatherFor {d : Nat} {F I : Nat → Nat → Int32} {J : Nat → Nat → Int64} {Q : Option Value → sm_H → Prop} {x : Int32} {s : Sg} (hM : MR s F I J) (ok : Ok s) (k : ∀ F1 I1 J1, MR (do_weatherFor s x).2 F1 I1 J1 → Lo F I J F1 I1 J1 → Q (some (.int (do_weatherFor s x).1)) (S0, F1, I1, J1)) : Wp mX7_weatherFor (d + 1) 0 0 0 (sm_ini [.ref 40, .int x] 7) [] (S0, F, I, J) Q := by
  show Wp _ _ _ _ _ [.ref 40, .int x, .null, .null, .null, .null, .null] _ _ _
  have hw := ok.1
  have hR := hM.1
  have hn := hw.n
  have hcw := hw.c
  have hbn := bn_1024 hw
  have hbl := bn_lt hw
  have hp2 := p2n hw
  have hh1 := hw.wth
  have hh2 := hw.crk
  have hh3 := hw.year
  refine wp_iload_n (pc := 0) 1 dX7_weatherFor_0 rfl rfl ?_
  refine wp_iconst (pc := 1) (0) dX7_weatherFor_1 (by decide) ?_
  refine wp_iconst (pc := 2) (1) dX7_weatherFor_2 (by decide) ?_
  refine wc_S_III (pc := 3) dX7_weatherFor_3 lkX7_49 (by decide) (Nat.le_of_ble_eq_true rfl) ?_
  refine c_X7_isIn ?_
  refine wp_ifneB (pc := 6) 16 dX7_weatherFor_6 (by decide) (fun c_6 => ?_) (fun c_6 => ?_)
  · refine wp_iconst (pc := 16) (0) dX7_weatherFor_16 (by decide) ?_
    refine wp_istore_n (pc := 17) 2 dX7_weatherFor_17 rfl (by decide) rfl ?_
    refine wp_iconst (pc := 18) (-1) dX7_weatherFor_18 (by decide) ?_
    refine wp_istore_n (pc := 19) 3 dX7_weatherFor_19 rfl (by decide) rfl ?_
    refine wp_iconst (pc := 20) (0) dX7_weatherFor_20 (by decide) ?_
    refine wp_istore (pc := 21) 4 dX7_weatherFor_21 (by decide) rfl ?_
    unfold do_weatherFor at k
    rw [qry_t (c := (upB x 1)) c_6] at k
    have hg : ∀ i, (cbk (sgf s)) i ≤ 10 := fun i => Nat.le_trans (cnt_le _ _) hn
    refine wp_loop (fun i => [.ref 40, .int x, .int (nI (aB (cbk (sgf s)) i)), .int (aM (cbk (sgf s)) i), .int (nI i), .null, .null]) (fun _ => (S0, F, I, J)) (fun _ => True) 4 (fun i hi hv nx => ?_) (fun hv => ?_) 0 (Nat.zero_le _) trivial
    · have hgi := hg i
      refine wp_iload (pc := 23) 4 dX7_weatherFor_23 rfl ?_
      refine wp_iconst (pc := 25) (4) dX7_weatherFor_25 (by decide) ?_
      refine wp_icmp_ge (pc := 26) 118 dX7_weatherFor_26 (by decide) (fun c_26 => ?_) (fun c_26 => ?_)
      · exact absurd c_26 (nI_ge (b := 4) hi (by omega))
      · refine wp_iconst (pc := 29) (0) dX7_weatherFor_29 (by decide) ?_
        refine wp_istore (pc := 30) 5 dX7_weatherFor_30 (by decide) rfl ?_
        refine wp_iconst (pc := 32) (0) dX7_weatherFor_32 (by decide) ?_
        refine wp_istore (pc := 33) 6 dX7_weatherFor_33 (by decide) rfl ?_
        refine wp_loop (fun q => [.ref 40, .int x, .int (nI (aB (cbk (sgf s)) i)), .int (aM (cbk (sgf s)) i), .int (nI i), .int (nI (cnt (fun j => (bn (sgf s)).testBit j && opn (sgf s) j && decide (sgf s (5 * j + 1) = i)) q)), .int (nI q)]) (fun _ => (S0, F, I, J)) (fun _ => True) (sgf s 68) (fun q hq hv2 nx2 => ?_) (fun hv2 => ?_) 0 (Nat.zero_le _) trivial
        · have hb3 := hw.been (i := q) (by omega)
          have hbq := bn_at hw hq
          have hrq := hw.rung (i := q) (by omega)
          refine wp_iload (pc := 35) 6 dX7_weatherFor_35 rfl ?_
          refine wp_aload_n (pc := 37) 0 dX7_weatherFor_37 rfl rfl ?_
          refine wc_V_ (pc := 38) dX7_weatherFor_38 lkX7_57 (sm_Rc.o (ci := 6) s0_40 (by decide) (by decide)) (by decide) (Nat.le_of_ble_eq_true rfl) ?_
          refine c_X7_many hw hR ?_
          refine wp_icmp_ge (pc := 41) 92 dX7_weatherFor_41 (by decide) (fun c_41 => ?_) (fun c_41 => ?_)
          · exact absurd c_41 (nI_ge (b := sgf s 68) hq (by omega))
          · refine wp_iload (pc := 44) 5 dX7_weatherFor_44 rfl ?_
            refine wp_aload_n (pc := 46) 0 dX7_weatherFor_46 rfl rfl ?_
            refine wp_iload (pc := 47) 6 dX7_weatherFor_47 rfl ?_
            refine wc_V_I (pc := 49) dX7_weatherFor_49 lkX7_61 (sm_Rc.o (ci := 6) s0_40 (by decide) (by decide)) (by decide) (Nat.le_of_ble_eq_true rfl) ?_
            refine c_X7_isOpen hw hR (by omega) ?_
            refine wp_ifeqB (pc := 52) 82 dX7_weatherFor_52 (by decide) (fun c_52 => ?_) (fun c_52 => ?_)
            · refine wp_iconst (pc := 82) (0) dX7_weatherFor_82 (by decide) ?_
              refine wp_iadd (pc := 83) dX7_weatherFor_83 ?_
              refine wp_int (add0 _) ?_
              refine wp_istore (pc := 84) 5 dX7_weatherFor_84 (by decide) rfl ?_
              refine wp_incN (pc := 86) 6 dX7_weatherFor_86 rfl (by decide) rfl ?_
              refine wp_goto (pc := 89) 35 dX7_weatherFor_89 (by decide) ?_
              have nx2 := nx2 trivial
              rw [cnt_f (p := (fun j => (bn (sgf s)).testBit j && opn (sgf s) j && decide (sgf s (5 * j + 1) = i))) (by simp [c_52])] at nx2
              exact nx2
            · refine wp_aload_n (pc := 55) 0 dX7_weatherFor_55 rfl rfl ?_
              refine wp_iload (pc := 56) 6 dX7_weatherFor_56 rfl ?_
              refine wp_iconst (pc := 58) (3) dX7_weatherFor_58 (by decide) ?_
              refine wc_V_II (pc := 59) dX7_weatherFor_59 lkX7_53 (sm_Rc.o (ci := 6) s0_40 (by decide) (by decide)) (by decide) (Nat.le_of_ble_eq_true rfl) ?_
              refine c_X7_of (w := 3) hw hR (by omega) ?_
              refine wp_iconst (pc := 62) (1) dX7_weatherFor_62 (by decide) ?_
              refine wp_icmp_ne (pc := 63) 82 dX7_weatherFor_63 (by decide) (fun c_63 => ?_) (fun c_63 => ?_)
              · refine wp_iconst (pc := 82) (0) dX7_weatherFor_82 (by decide) ?_
                refine wp_iadd (pc := 83) dX7_weatherFor_83 ?_
                refine wp_int (add0 _) ?_
                refine wp_istore (pc := 84) 5 dX7_weatherFor_84 (by decide) rfl ?_
                refine wp_incN (pc := 86) 6 dX7_weatherFor_86 rfl (by decide) rfl ?_
                refine wp_goto (pc := 89) 35 dX7_weatherFor_89 (by decide) ?_
                have nx2 := nx2 trivial
                rw [cnt_f (p := (fun j => (bn (sgf s)).testBit j && opn (sgf s) j && decide (sgf s (5 * j + 1) = i))) (by simp [hbq, show ¬ sgf s (5 * q + 3) = 1 from fun z => c_63 (by rw [z]; rfl)])] at nx2
                exact nx2
              · refine wp_aload_n (pc := 66) 0 dX7_weatherFor_66 rfl rfl ?_
                refine wp_iload (pc := 67) 6 dX7_weatherFor_67 rfl ?_
                refine wp_iconst (pc := 69) (1) dX7_weatherFor_69 (by decide) ?_
                refine wc_V_II (pc := 70) dX7_weatherFor_70 lkX7_53 (sm_Rc.o (ci := 6) s0_40 (by decide) (by decide)) (by decide) (Nat.le_of_ble_eq_true rfl) ?_
                refine c_X7_of (w := 1) hw hR (by omega) ?_
                refine wp_iload (pc := 73) 4 dX7_weatherFor_73 rfl ?_
                refine wp_icmp_ne (pc := 75) 82 dX7_weatherFor_75 (by decide) (fun c_75 => ?_) (fun c_75 => ?_)
                · refine wp_iconst (pc := 82) (0) dX7_weatherFor_82 (by decide) ?_
                  refine wp_iadd (pc := 83) dX7_weatherFor_83 ?_
                  refine wp_int (add0 _) ?_
                  refine wp_istore (pc := 84) 5 dX7_weatherFor_84 (by decide) rfl ?_
                  refine wp_incN (pc := 86) 6 dX7_weatherFor_86 rfl (by decide) rfl ?_
                  refine wp_goto (pc := 89) 35 dX7_weatherFor_89 (by decide) ?_
                  have nx2 := nx2 trivial
                  rw [cnt_f (p := (fun j => (bn (sgf s)).testBit j && opn (sgf s) j && decide (sgf s (5 * j + 1) = i))) (by simp [show ¬ sgf s (5 * q + 1) = i from fun z => c_75 (by rw [z])])] at nx2
                  exact nx2
                · refine wp_iconst (pc := 78) (1) dX7_weatherFor_78 (by decide) ?_
                  refine wp_goto (pc := 79) 83 dX7_weatherFor_79 (by decide) ?_
                  refine wp_iadd (pc := 83) dX7_weatherFor_83 ?_
                  refine wp_int (nI_1 _) ?_
                  refine wp_istore (pc := 84) 5 dX7_weatherFor_84 (by decide) rfl ?_
                  refine wp_incN (pc := 86) 6 dX7_weatherFor_86 rfl (by decide) rfl ?_
                  refine wp_goto (pc := 89) 35 dX7_weatherFor_89 (by decide) ?_
                  have nx2 := nx2 trivial
                  rw [cnt_t (p := (fun j => (bn (sgf s)).testBit j && opn (sgf s) j && decide (sgf s (5 * j + 1) = i))) (by simp [hbq, c_52, (nI_eq (by omega) (by decide)).mp c_63, (nI_eq (by omega) (by omega)).mp c_75])] at nx2
                  exact nx2
        · refine wp_to (lv' := [.ref 40, .int x, .int (nI (aB (cbk (sgf s)) i)), .int (aM (cbk (sgf s)) i), .int (nI i), .int (nI (cbk (sgf s) i)), .int (nI (sgf s 68))]) ?_ rfl rfl rfl
          refine wp_iload (pc := 35) 6 dX7_weatherFor_35 rfl ?_
          refine wp_aload_n (pc := 37) 0 dX7_weatherFor_37 rfl rfl ?_
          refine wc_V_ (pc := 38) dX7_weatherFor_38 lkX7_57 (sm_Rc.o (ci := 6) s0_40 (by decide) (by decide)) (by decide) (Nat.le_of_ble_eq_true rfl) ?_
          refine c_X7_many hw hR ?_
          refine wp_icmp_ge (pc := 41) 92 dX7_weatherFor_41 (by decide) (fun c_41 => ?_) (fun c_41 => ?_)
          · refine wp_iload (pc := 92) 5 dX7_weatherFor_92 rfl ?_
            refine wp_iload_n (pc := 94) 3 dX7_weatherFor_94 rfl rfl ?_
            refine wp_icmp_le (pc := 95) 103 dX7_weatherFor_95 (by decide) (fun c_95 => ?_) (fun c_95 => ?_)
            · refine wp_iload_n (pc := 103) 2 dX7_weatherFor_103 rfl rfl ?_
              refine wp_istore_n (pc := 104) 2 dX7_weatherFor_104 rfl (by decide) rfl ?_
              refine wp_iload (pc := 105) 5 dX7_weatherFor_105 rfl ?_
              refine wp_iload_n (pc := 107) 3 dX7_weatherFor_107 rfl rfl ?_
              refine wc_S_II (pc := 108) dX7_weatherFor_108 lkX7_146 (by decide) (Nat.le_of_ble_eq_true rfl) ?_
              refine c_J9_max_7cf53 ?_
              refine wp_int (aM_s hg i) ?_
              refine wp_istore_n (pc := 111) 3 dX7_weatherFor_111 rfl (by decide) rfl ?_
              refine wp_incN (pc := 112) 4 dX7_weatherFor_112 rfl (by decide) rfl ?_
              refine wp_goto (pc := 115) 23 dX7_weatherFor_115 (by decide) ?_
              have nx := nx trivial
              rw [aB_f hg c_95] at nx
              refine wp_weak ?_ nx
              exact And.intro (Or.inr rfl) (And.intro (Or.inr rfl) (And.intro (Or.inr rfl) (And.intro (Or.inr rfl) (And.intro (Or.inr rfl) (And.intro (Or.inl rfl) (And.intro (Or.inl rfl) (trivial)))))))
            · refine wp_iload (pc := 98) 4 dX7_weatherFor_98 rfl ?_
              refine wp_goto (pc := 100) 104 dX7_weatherFor_100 (by decide) ?_
              refine wp_istore_n (pc := 104) 2 dX7_weatherFor_104 rfl (by decide) rfl ?_
              refine wp_iload (pc := 105) 5 dX7_weatherFor_105 rfl ?_
              refine wp_iload_n (pc := 107) 3 dX7_weatherFor_107 rfl rfl ?_
              refine wc_S_II (pc := 108) dX7_weatherFor_108 lkX7_146 (by decide) (Nat.le_of_ble_eq_true rfl) ?_
              refine c_J9_max_7cf53 ?_
              refine wp_int (aM_s hg i) ?_
              refine wp_istore_n (pc := 111) 3 dX7_weatherFor_111 rfl (by decide) rfl ?_
              refine wp_incN (pc := 112) 4 dX7_weatherFor_112 rfl (by decide) rfl ?_
              refine wp_goto (pc := 115) 23 dX7_weatherFor_115 (by decide) ?_
              have nx := nx trivial
              rw [aB_t hg c_95] at nx
              refine wp_weak ?_ nx
              exact And.intro (Or.inr rfl) (And.intro (Or.inr rfl) (And.intro (Or.inr rfl) (And.intro (Or.inr rfl) (And.intro (Or.inr rfl) (And.intro (Or.inl rfl) (And.intro (Or.inl rfl) (trivial)))))))
          · exact absurd (Int32.le_refl _) c_41
    · refine wp_iload (pc := 23) 4 dX7_weatherFor_23 rfl ?_
      refine wp_iconst (pc := 25) (4) dX7_weatherFor_25 (by decide) ?_
      refine wp_icmp_ge (pc := 26) 118 dX7_weatherFor_26 (by decide) (fun c_26 => ?_) (fun c_26 => ?_)
      · refine wp_iload_n (pc := 118) 1 dX7_weatherFor_118 rfl rfl ?_
        refine wp_ifne (pc := 119) 126 dX7_weatherFor_119 (by decide) (fun c_119 => ?_) (fun c_119 => ?_)
        · refine wp_iload_n (pc := 126) 3 dX7_weatherFor_126 rfl rfl ?_
          refine wp_iretI (pc := 127) dX7_weatherFor_127 rfl ?_
          rw [if_neg c_119] at k
          exact k _ _ _ hM Lo.rf
        · refine wp_iload_n (pc := 122) 2 dX7_weatherFor_122 rfl rfl ?_
          refine wp_goto (pc := 123) 127 dX7_weatherFor_123 (by decide) ?_
          refine wp_iretI (pc := 127) dX7_weatherFor_127 rfl ?_
          rw [if_pos c_119] at k
          exact k _ _ _ hM Lo.rf
      · exact absurd (Int32.le_refl _) c_26
  · refine wp_aload_n (pc := 9) 0 dX7_weatherFor_9 rfl rfl ?_
    refine wp_bipush (pc := 10) (-2) dX7_weatherFor_10 (by decide) ?_
    refine wc_V_I (pc := 12) dX7_weatherFor_12 lkX7_81 (sm_Rc.o (ci := 6) s0_40 (by decide) (by decide)) (by decide) (Nat.le_of_ble_eq_true rfl) ?_
    refine c_X7_no_0 ?_
    refine wp_iretI (pc := 15) dX7_weatherFor_15 rfl ?_
    unfold do_weatherFor at k
    rw [qry_f (c := (upB x 1)) c_6] at k
    exact k _ _ _ (hM.bmp (by decide)) (Lo.rf.uI (by decide))
theorem cnt_s8 (f : rw_) {b : Nat} (hb : b ≤ 7) (t : Nat) : cnt (fun j => decide (j % 8 = b) && opn f j) (b + 8 * (t + 1)) = cnt (fun j => decide (j % 8 = b) && opn f j) (b + 8 * t) + (opn f (b + 8 * t)).toNat := by
  have h := cnt_const (p := fun j => decide (j % 8 = b) && opn f j) (a := b + 8 * t + 1) (k := 7) (fun j h1 h2 => by rw [decide_eq_false (by omega), Bool.false_and])
  rw [show b + 8 * (t + 1) = b + 8 * t + 1 + 7 by omega, h, cnt]
  rw [decide_eq_true (show (b + 8 * t) % 8 = b by omega), Bool.true_and]
theorem cnt_e8 (f : rw_) {b n : Nat} (hb : b ≤ 7) : cnt (fun j => decide (j % 8 = b) && opn f j) (b + 8 * ((n + 7 - b) / 8)) = cnt (fun j => decide (j % 8 = b) && opn f j) n := by
  rcases Nat.le_total n (b + 8 * ((n + 7 - b) / 8)) with h | h
  · have h2 := cnt_const (p := fun j => decide (j % 8 = b) && opn f j) (a := n) (k := b + 8 * ((n + 7 - b) / 8) - n) (fun j h1 h2 => by rw [decide_eq_false (by omega), Bool.false_and])
    rw [show n + (b + 8 * ((n + 7 - b) / 8) - n) = b + 8 * ((n + 7 - b) / 8) by omega] at h2
    exact h2
  · rw [show b + 8 * ((n + 7 - b) / 8) = n by omega]
theorem cnt_0b (f : rw_) {b : Nat} (hb : b ≤ 7) : cnt (fun j => decide (j % 8 = b) && opn f j) b = 0 := by
  have h := cnt_const (p := fun j => decide (j % 8 = b) && opn f j) (a := 0) (k := b) (fun j h1 h2 => by rw [decide_eq_false (by omega), Bool.false_and])
  rw [Nat.zero_add] at h
  exact h
theorem c_X7_bell {d : Nat} {F I : Nat → Nat → Int32} {J : Nat → Nat → Int64} {Q : Option Value → sm_H → Prop} {x : Int32} {s : Sg} (hM : MR s F I J) (ok : Ok s) (k : ∀ F1 I1 J1, MR (do_bell s x).2 F1 I1 J1 → Lo F I J F1 I1 J1 → Q (some (.int (do_bell s x).1)) (S0, F1, I1, J1)) : Wp mX7_bell (d + 1) 0 0 0 (sm_ini [.ref 40, .int x] 7) [] (S0, F, I, J) Q := by
  show Wp _ _ _ _ _ [.ref 40, .int x, .null, .null, .null, .null, .null] _ _ _
  have hw := ok.1
  have hR := hM.1
  have hn := hw.n
  have hcw := hw.c
  have hbn := bn_1024 hw
  have hbl := bn_lt hw
  have hp2 := p2n hw
  have hh1 := hw.wth
  have hh2 := hw.crk
  have hh3 := hw.year
  refine wp_iload_n (pc := 0) 1 dX7_bell_0 rfl rfl ?_
  refine wp_iconst (pc := 1) (0) dX7_bell_1 (by decide) ?_
  refine wp_iconst (pc := 2) (1) dX7_bell_2 (by decide) ?_
  refine wc_S_III (pc := 3) dX7_bell_3 lkX7_49 (by decide) (Nat.le_of_ble_eq_true rfl) ?_
  refine c_X7_isIn ?_
  refine wp_ifneB (pc := 6) 16 dX7_bell_6 (by decide) (fun c_6 => ?_) (fun c_6 => ?_)
  · refine wp_iconst (pc := 16) (0) dX7_bell_16 (by decide) ?_
    refine wp_istore_n (pc := 17) 2 dX7_bell_17 rfl (by decide) rfl ?_
    refine wp_iconst (pc := 18) (-1) dX7_bell_18 (by decide) ?_
    refine wp_istore_n (pc := 19) 3 dX7_bell_19 rfl (by decide) rfl ?_
    refine wp_iconst (pc := 20) (0) dX7_bell_20 (by decide) ?_
    refine wp_istore (pc := 21) 4 dX7_bell_21 (by decide) rfl ?_
    unfold do_bell at k
    rw [qry_t (c := (upB x 1)) c_6] at k
    have hg : ∀ i, (cop (sgf s)) i ≤ 10 := fun i => Nat.le_trans (cnt_le _ _) hn
    refine wp_loop (fun i => [.ref 40, .int x, .int (nI (aB (cop (sgf s)) i)), .int (aM (cop (sgf s)) i), .int (nI i), .null, .null]) (fun _ => (S0, F, I, J)) (fun _ => True) 8 (fun i hi hv nx => ?_) (fun hv => ?_) 0 (Nat.zero_le _) trivial
    · have hgi := hg i
      refine wp_iload (pc := 23) 4 dX7_bell_23 rfl ?_
      refine wp_bipush (pc := 25) (8) dX7_bell_25 (by decide) ?_
      refine wp_icmp_ge (pc := 27) 97 dX7_bell_27 (by decide) (fun c_27 => ?_) (fun c_27 => ?_)
      · exact absurd c_27 (nI_ge (b := 8) hi (by omega))
      · refine wp_iconst (pc := 30) (0) dX7_bell_30 (by decide) ?_
        refine wp_istore (pc := 31) 5 dX7_bell_31 (by decide) rfl ?_
        refine wp_iload (pc := 33) 4 dX7_bell_33 rfl ?_
        refine wp_istore (pc := 35) 6 dX7_bell_35 (by decide) rfl ?_
        refine wp_to (lv' := [.ref 40, .int x, .int (nI (aB (cop (sgf s)) i)), .int (aM (cop (sgf s)) i), .int (nI i), .int (nI (cnt (fun j => decide (j % 8 = i) && opn (sgf s) j) (i + 8 * 0))), .int (nI (i + 8 * 0))]) ?_ (by rw [Nat.mul_zero, Nat.add_zero, cnt_0b (sgf s) (show i ≤ 7 by omega)]; rfl) rfl rfl
        refine wp_loop (fun q => [.ref 40, .int x, .int (nI (aB (cop (sgf s)) i)), .int (aM (cop (sgf s)) i), .int (nI i), .int (nI (cnt (fun j => decide (j % 8 = i) && opn (sgf s) j) (i + 8 * q))), .int (nI (i + 8 * q))]) (fun _ => (S0, F, I, J)) (fun _ => True) ((sgf s 68 + 7 - i) / 8) (fun q hq hv2 nx2 => ?_) (fun hv2 => ?_) 0 (Nat.zero_le _) trivial
        · have hq2 : i + 8 * q < sgf s 68 := by omega
          refine wp_iload (pc := 37) 6 dX7_bell_37 rfl ?_
          refine wp_aload_n (pc := 39) 0 dX7_bell_39 rfl rfl ?_
          refine wc_V_ (pc := 40) dX7_bell_40 lkX7_57 (sm_Rc.o (ci := 6) s0_40 (by decide) (by decide)) (by decide) (Nat.le_of_ble_eq_true rfl) ?_
          refine c_X7_many hw hR ?_
          refine wp_icmp_ge (pc := 43) 71 dX7_bell_43 (by decide) (fun c_43 => ?_) (fun c_43 => ?_)
          · exact absurd c_43 (nI_ge (b := sgf s 68) hq2 (by omega))
          · refine wp_iload (pc := 46) 5 dX7_bell_46 rfl ?_
            refine wp_aload_n (pc := 48) 0 dX7_bell_48 rfl rfl ?_
            refine wp_iload (pc := 49) 6 dX7_bell_49 rfl ?_
            refine wc_V_I (pc := 51) dX7_bell_51 lkX7_61 (sm_Rc.o (ci := 6) s0_40 (by decide) (by decide)) (by decide) (Nat.le_of_ble_eq_true rfl) ?_
            refine c_X7_isOpen hw hR (by omega) ?_
            refine wp_ifeqB (pc := 54) 61 dX7_bell_54 (by decide) (fun c_54 => ?_) (fun c_54 => ?_)
            · refine wp_iconst (pc := 61) (0) dX7_bell_61 (by decide) ?_
              refine wp_iadd (pc := 62) dX7_bell_62 ?_
              refine wp_int (add0 _) ?_
              refine wp_istore (pc := 63) 5 dX7_bell_63 (by decide) rfl ?_
              refine wp_iinc (pc := 65) 6 (nI (i + 8 * (q + 1))) dX7_bell_65 rfl (by rw [show Int32.ofInt 8 = nI 8 by decide, nI_add]; congr 1) (by decide) rfl ?_
              refine wp_goto (pc := 68) 37 dX7_bell_68 (by decide) ?_
              have nx2 := nx2 trivial
              rw [cnt_s8 (sgf s) (show i ≤ 7 by omega) q, c_54, Bool.toNat_false] at nx2
              exact nx2
            · refine wp_iconst (pc := 57) (1) dX7_bell_57 (by decide) ?_
              refine wp_goto (pc := 58) 62 dX7_bell_58 (by decide) ?_
              refine wp_iadd (pc := 62) dX7_bell_62 ?_
              refine wp_int (nI_1 _) ?_
              refine wp_istore (pc := 63) 5 dX7_bell_63 (by decide) rfl ?_
              refine wp_iinc (pc := 65) 6 (nI (i + 8 * (q + 1))) dX7_bell_65 rfl (by rw [show Int32.ofInt 8 = nI 8 by decide, nI_add]; congr 1) (by decide) rfl ?_
              refine wp_goto (pc := 68) 37 dX7_bell_68 (by decide) ?_
              have nx2 := nx2 trivial
              rw [cnt_s8 (sgf s) (show i ≤ 7 by omega) q, c_54, Bool.toNat_true] at nx2
              exact nx2
        · refine wp_to (lv' := [.ref 40, .int x, .int (nI (aB (cop (sgf s)) i)), .int (aM (cop (sgf s)) i), .int (nI i), .int (nI (cop (sgf s) i)), .int (nI (i + 8 * ((sgf s 68 + 7 - i) / 8)))]) ?_ (by rw [cnt_e8 (sgf s) (show i ≤ 7 by omega)]; rfl) rfl rfl
          refine wp_iload (pc := 37) 6 dX7_bell_37 rfl ?_
          refine wp_aload_n (pc := 39) 0 dX7_bell_39 rfl rfl ?_
          refine wc_V_ (pc := 40) dX7_bell_40 lkX7_57 (sm_Rc.o (ci := 6) s0_40 (by decide) (by decide)) (by decide) (Nat.le_of_ble_eq_true rfl) ?_
          refine c_X7_many hw hR ?_
          refine wp_icmp_ge (pc := 43) 71 dX7_bell_43 (by decide) (fun c_43 => ?_) (fun c_43 => ?_)
          · refine wp_iload (pc := 71) 5 dX7_bell_71 rfl ?_
            refine wp_iload_n (pc := 73) 3 dX7_bell_73 rfl rfl ?_
            refine wp_icmp_le (pc := 74) 82 dX7_bell_74 (by decide) (fun c_74 => ?_) (fun c_74 => ?_)
            · refine wp_iload_n (pc := 82) 2 dX7_bell_82 rfl rfl ?_
              refine wp_istore_n (pc := 83) 2 dX7_bell_83 rfl (by decide) rfl ?_
              refine wp_iload (pc := 84) 5 dX7_bell_84 rfl ?_
              refine wp_iload_n (pc := 86) 3 dX7_bell_86 rfl rfl ?_
              refine wc_S_II (pc := 87) dX7_bell_87 lkX7_146 (by decide) (Nat.le_of_ble_eq_true rfl) ?_
              refine c_J9_max_7cf53 ?_
              refine wp_int (aM_s hg i) ?_
              refine wp_istore_n (pc := 90) 3 dX7_bell_90 rfl (by decide) rfl ?_
              refine wp_incN (pc := 91) 4 dX7_bell_91 rfl (by decide) rfl ?_
              refine wp_goto (pc := 94) 23 dX7_bell_94 (by decide) ?_
              have nx := nx trivial
              rw [aB_f hg c_74] at nx
              refine wp_weak ?_ nx
              exact And.intro (Or.inr rfl) (And.intro (Or.inr rfl) (And.intro (Or.inr rfl) (And.intro (Or.inr rfl) (And.intro (Or.inr rfl) (And.intro (Or.inl rfl) (And.intro (Or.inl rfl) (trivial)))))))
            · refine wp_iload (pc := 77) 4 dX7_bell_77 rfl ?_
              refine wp_goto (pc := 79) 83 dX7_bell_79 (by decide) ?_
              refine wp_istore_n (pc := 83) 2 dX7_bell_83 rfl (by decide) rfl ?_
              refine wp_iload (pc := 84) 5 dX7_bell_84 rfl ?_
              refine wp_iload_n (pc := 86) 3 dX7_bell_86 rfl rfl ?_
              refine wc_S_II (pc := 87) dX7_bell_87 lkX7_146 (by decide) (Nat.le_of_ble_eq_true rfl) ?_
              refine c_J9_max_7cf53 ?_
              refine wp_int (aM_s hg i) ?_
              refine wp_istore_n (pc := 90) 3 dX7_bell_90 rfl (by decide) rfl ?_
              refine wp_incN (pc := 91) 4 dX7_bell_91 rfl (by decide) rfl ?_
              refine wp_goto (pc := 94) 23 dX7_bell_94 (by decide) ?_
              have nx := nx trivial
              rw [aB_t hg c_74] at nx
              refine wp_weak ?_ nx
              exact And.intro (Or.inr rfl) (And.intro (Or.inr rfl) (And.intro (Or.inr rfl) (And.intro (Or.inr rfl) (And.intro (Or.inr rfl) (And.intro (Or.inl rfl) (And.intro (Or.inl rfl) (trivial)))))))
          · exact absurd (nI_le (show sgf s 68 ≤ i + 8 * ((sgf s 68 + 7 - i) / 8) by omega) (by omega)) c_43
    · refine wp_iload (pc := 23) 4 dX7_bell_23 rfl ?_
      refine wp_bipush (pc := 25) (8) dX7_bell_25 (by decide) ?_
      refine wp_icmp_ge (pc := 27) 97 dX7_bell_27 (by decide) (fun c_27 => ?_) (fun c_27 => ?_)
      · refine wp_iload_n (pc := 97) 1 dX7_bell_97 rfl rfl ?_
        refine wp_ifne (pc := 98) 105 dX7_bell_98 (by decide) (fun c_98 => ?_) (fun c_98 => ?_)
        · refine wp_iload_n (pc := 105) 3 dX7_bell_105 rfl rfl ?_
          refine wp_iretI (pc := 106) dX7_bell_106 rfl ?_
          rw [if_neg c_98] at k
          exact k _ _ _ hM Lo.rf
        · refine wp_iload_n (pc := 101) 2 dX7_bell_101 rfl rfl ?_
          refine wp_goto (pc := 102) 106 dX7_bell_102 (by decide) ?_
          refine wp_iretI (pc := 106) dX7_bell_106 rfl ?_
          rw [if_pos c_98] at k
          exact k _ _ _ hM Lo.rf
      · exact absurd (Int32.le_refl _) c_27
  · refine wp_aload_n (pc := 9) 0 dX7_bell_9 rfl rfl ?_
    refine wp_bipush (pc := 10) (-2) dX7_bell_10 (by decide) ?_
    refine wc_V_I (pc := 12) dX7_bell_12 lkX7_81 (sm_Rc.o (ci := 6) s0_40 (by decide) (by decide)) (by decide) (Nat.le_of_ble_eq_true rfl) ?_
    refine c_X7_no_0 ?_
    refine wp_iretI (pc := 15) dX7_bell_15 rfl ?_
    unfold do_bell at k
    rw [qry_f (c := (upB x 1)) c_6] at k
    exact k _ _ _ (hM.bmp (by decide)) (Lo.rf.uI (by decide))
theorem lha_get (f : rw_) (a dp : Nat) : ∀ m, m < lha f a dp → lhaP f a dp m = false := by
  intro m hm
  unfold lha at hm
  cases h : fst (lhaP f a dp) a with
  | none =>
    rw [h] at hm
    exact (fst_none.mp h) m hm
  | some j =>
    rw [h] at hm
    exact (fst_get h).2.2 m hm
theorem lha_dep {f : rw_} {a k : Nat} (h : dep f a = k + 1) : lha f a k < a ∧ lhaP f a k (lha f a k) = true := by
  rw [dep_eq] at h
  obtain ⟨j, h1, h2, h3⟩ := mxU_get f a h
  cases e : fst (lhaP f a k) a with
  | none =>
    have := fst_none.mp e j h1
    rw [show lhaP f a k j = true by simp [lhaP, h2, h3]] at this
    cases this
  | some q =>
    have h4 := fst_get e
    have h5 : lha f a k = q := by unfold lha; rw [e]; rfl
    rw [h5]
    exact ⟨h4.1, h4.2.1⟩
theorem c_X7_chain {d : Nat} {F I : Nat → Nat → Int32} {J : Nat → Nat → Int64} {Q : Option Value → sm_H → Prop} {x : Int32} {s : Sg} (hM : MR s F I J) (ok : Ok s) (k : ∀ F1 I1 J1, MR (do_chain s x).2 F1 I1 J1 → Lo F I J F1 I1 J1 → Q (some (.int (do_chain s x).1)) (S0, F1, I1, J1)) : Wp mX7_chain (d + 11) 0 0 0 (sm_ini [.ref 40, .int x] 6) [] (S0, F, I, J) Q := by
  show Wp _ _ _ _ _ [.ref 40, .int x, .null, .null, .null, .null] _ _ _
  have hw := ok.1
  have hR := hM.1
  have hn := hw.n
  have hcw := hw.c
  have hbn := bn_1024 hw
  have hbl := bn_lt hw
  have hp2 := p2n hw
  have hh1 := hw.wth
  have hh2 := hw.crk
  have hh3 := hw.year
  refine wp_aload_n (pc := 0) 0 dX7_chain_0 rfl rfl ?_
  refine wp_iload_n (pc := 1) 1 dX7_chain_1 rfl rfl ?_
  refine wc_V_I (pc := 2) dX7_chain_2 lkX7_90 (sm_Rc.o (ci := 6) s0_40 (by decide) (by decide)) (by decide) (Nat.le_of_ble_eq_true rfl) ?_
  refine c_X7_isThing hw hR ?_
  refine wp_ifneB (pc := 5) 15 dX7_chain_5 (by decide) (fun c_5 => ?_) (fun c_5 => ?_)
  · obtain ⟨a, ha0, rfl⟩ := (i32_in (by omega)).mp (of_decide_eq_true c_5)
    have ha : a < 10 := by omega
    refine wp_iconst (pc := 15) (1) dX7_chain_15 (by decide) ?_
    refine wp_iload_n (pc := 16) 1 dX7_chain_16 rfl rfl ?_
    refine wp_ishl (pc := 17) dX7_chain_17 ?_
    refine wp_int (bt_one (by omega)) ?_
    refine wp_istore_n (pc := 18) 2 dX7_chain_18 rfl (by decide) rfl ?_
    refine wp_iload_n (pc := 19) 1 dX7_chain_19 rfl rfl ?_
    refine wp_istore_n (pc := 20) 3 dX7_chain_20 rfl (by decide) rfl ?_
    refine wp_aload_n (pc := 21) 0 dX7_chain_21 rfl rfl ?_
    refine wp_iload_n (pc := 22) 1 dX7_chain_22 rfl rfl ?_
    refine wc_V_I (pc := 23) dX7_chain_23 lkX7_201 (sm_Rc.o (ci := 6) s0_40 (by decide) (by decide)) (by decide) (Nat.le_of_ble_eq_true rfl) ?_
    refine c_X7_depthOf hw hR (by omega) ?_
    refine wp_istore (pc := 26) 4 dX7_chain_26 (by decide) rfl ?_
    unfold do_chain at k
    rw [qry_t (c := (isTh s (nI a))) c_5] at k
    rw [nI_clamp (by omega)] at k
    have hda := dep_le (sgf s) a
    refine wp_loopS (σ := Nat × Nat) (fun i c => [.ref 40, .int (nI a), .int (nI c.2), .int (nI c.1), .int (nI (dep (sgf s) a - i)), .null]) (fun _ _ => (S0, F, I, J)) (fun i c => c.1 < 10 ∧ c.2 < 1024 ∧ dep (sgf s) c.1 = dep (sgf s) a - i ∧ chN (sgf s) c.1 c.2 (dep (sgf s) a - i) = chain (sgf s) a) (dep (sgf s) a) (fun i c hi hs nx => ?_) (fun c hs => ?_) 0 (a, 2 ^ a) (Nat.zero_le _) ⟨ha, p2_lt ha, rfl, rfl⟩
    · obtain ⟨hc1, hc2, hcd, hcc⟩ := hs
      obtain ⟨j, hj⟩ : ∃ j, dep (sgf s) a - i = j + 1 := ⟨dep (sgf s) a - i - 1, by omega⟩
      have hj2 : dep (sgf s) a - (i + 1) = j := by omega
      rw [hj] at hcd hcc
      have hlt := lha_dep hcd
      have hdj : j < 10 := by have := dep_le (sgf s) c.1; omega
      have hO := hw.on10 hc1
      have hdq : ∀ q, q < 10 → dep (sgf s) q < 10 := fun q hq => Nat.lt_of_le_of_lt (dep_le (sgf s) q) hq
      have hld : dep (sgf s) (lha (sgf s) c.1 j) = dep (sgf s) a - (i + 1) := by
        have h := hlt.2
        simp only [lhaP, Bool.and_eq_true, decide_eq_true_eq] at h
        rw [hj2]; exact h.2
      have hch : chN (sgf s) (lha (sgf s) c.1 j) (c.2 ||| 2 ^ lha (sgf s) c.1 j) j = chain (sgf s) a := by rw [chN] at hcc; exact hcc
      refine wp_to (lv' := [.ref 40, .int (nI a), .int (nI c.2), .int (nI c.1), .int (nI (j + 1)), .null]) ?_ (by rw [hj]) rfl rfl
      refine wp_iload (pc := 28) 4 dX7_chain_28 rfl ?_
      refine wp_ifle (pc := 30) 84 dX7_chain_30 (by decide) (fun c_30 => ?_) (fun c_30 => ?_)
      · exact absurd c_30 (nI_nle (by omega) (by omega))
      · refine wp_iconst (pc := 33) (0) dX7_chain_33 (by decide) ?_
        refine wp_istore (pc := 34) 5 dX7_chain_34 (by decide) rfl ?_
        refine wp_loop (fun q => [.ref 40, .int (nI a), .int (nI c.2), .int (nI c.1), .int (nI (j + 1)), .int (nI q)]) (fun _ => (S0, F, I, J)) (fun _ => True) (lha (sgf s) c.1 j) (fun q hq hv2 nx2 => ?_) (fun hv2 => ?_) 0 (Nat.zero_le _) trivial
        · have hlf := lha_get (sgf s) c.1 j q hq
          have hdqq := hdq q (by omega)
          refine wp_aload_n (pc := 36) 0 dX7_chain_36 rfl rfl ?_
          refine wp_iload_n (pc := 37) 3 dX7_chain_37 rfl rfl ?_
          refine wp_iconst (pc := 38) (2) dX7_chain_38 (by decide) ?_
          refine wc_V_II (pc := 39) dX7_chain_39 lkX7_53 (sm_Rc.o (ci := 6) s0_40 (by decide) (by decide)) (by decide) (Nat.le_of_ble_eq_true rfl) ?_
          refine c_X7_of (w := 2) hw hR (by omega) ?_
          refine wp_iload (pc := 42) 5 dX7_chain_42 rfl ?_
          refine wp_ishr (pc := 44) dX7_chain_44 ?_
          refine wp_iconst (pc := 45) (1) dX7_chain_45 (by decide) ?_
          refine wp_iand (pc := 46) dX7_chain_46 ?_
          refine wp_int (bt_bit (by omega) (by omega)) ?_
          refine wp_ifeqB (pc := 47) 63 dX7_chain_47 (by decide) (fun c_47 => ?_) (fun c_47 => ?_)
          · refine wp_incN (pc := 63) 5 dX7_chain_63 rfl (by decide) rfl ?_
            refine wp_goto (pc := 66) 36 dX7_chain_66 (by decide) ?_
            have nx2 := nx2 trivial
            exact nx2
          · refine wp_aload_n (pc := 50) 0 dX7_chain_50 rfl rfl ?_
            refine wp_iload (pc := 51) 5 dX7_chain_51 rfl ?_
            refine wc_V_I (pc := 53) dX7_chain_53 lkX7_201 (sm_Rc.o (ci := 6) s0_40 (by decide) (by decide)) (by decide) (Nat.le_of_ble_eq_true rfl) ?_
            refine c_X7_depthOf hw hR (by omega) ?_
            refine wp_iload (pc := 56) 4 dX7_chain_56 rfl ?_
            refine wp_iconst (pc := 58) (1) dX7_chain_58 (by decide) ?_
            refine wp_isub (pc := 59) dX7_chain_59 ?_
            refine wp_int (nI_pred _) ?_
            refine wp_icmp_eq (pc := 60) 69 dX7_chain_60 (by decide) (fun c_60 => ?_) (fun c_60 => ?_)
            · exact absurd hlf (by simp [lhaP, c_47, (nI_eq (by omega) (by omega)).mp c_60])
            · refine wp_incN (pc := 63) 5 dX7_chain_63 rfl (by decide) rfl ?_
              refine wp_goto (pc := 66) 36 dX7_chain_66 (by decide) ?_
              have nx2 := nx2 trivial
              exact nx2
        · refine wp_aload_n (pc := 36) 0 dX7_chain_36 rfl rfl ?_
          refine wp_iload_n (pc := 37) 3 dX7_chain_37 rfl rfl ?_
          refine wp_iconst (pc := 38) (2) dX7_chain_38 (by decide) ?_
          refine wc_V_II (pc := 39) dX7_chain_39 lkX7_53 (sm_Rc.o (ci := 6) s0_40 (by decide) (by decide)) (by decide) (Nat.le_of_ble_eq_true rfl) ?_
          refine c_X7_of (w := 2) hw hR (by omega) ?_
          refine wp_iload (pc := 42) 5 dX7_chain_42 rfl ?_
          refine wp_ishr (pc := 44) dX7_chain_44 ?_
          refine wp_iconst (pc := 45) (1) dX7_chain_45 (by decide) ?_
          refine wp_iand (pc := 46) dX7_chain_46 ?_
          refine wp_int (bt_bit (by omega) (by omega)) ?_
          refine wp_ifeqB (pc := 47) 63 dX7_chain_47 (by decide) (fun c_47 => ?_) (fun c_47 => ?_)
          · exact absurd hlt.2 (by simp [lhaP, c_47])
          · refine wp_aload_n (pc := 50) 0 dX7_chain_50 rfl rfl ?_
            refine wp_iload (pc := 51) 5 dX7_chain_51 rfl ?_
            refine wc_V_I (pc := 53) dX7_chain_53 lkX7_201 (sm_Rc.o (ci := 6) s0_40 (by decide) (by decide)) (by decide) (Nat.le_of_ble_eq_true rfl) ?_
            refine c_X7_depthOf hw hR (by omega) ?_
            refine wp_iload (pc := 56) 4 dX7_chain_56 rfl ?_
            refine wp_iconst (pc := 58) (1) dX7_chain_58 (by decide) ?_
            refine wp_isub (pc := 59) dX7_chain_59 ?_
            refine wp_int (nI_pred _) ?_
            refine wp_icmp_eq (pc := 60) 69 dX7_chain_60 (by decide) (fun c_60 => ?_) (fun c_60 => ?_)
            · refine wp_iload (pc := 69) 5 dX7_chain_69 rfl ?_
              refine wp_istore_n (pc := 71) 3 dX7_chain_71 rfl (by decide) rfl ?_
              refine wp_iload_n (pc := 72) 2 dX7_chain_72 rfl rfl ?_
              refine wp_iconst (pc := 73) (1) dX7_chain_73 (by decide) ?_
              refine wp_iload_n (pc := 74) 3 dX7_chain_74 rfl rfl ?_
              refine wp_ishl (pc := 75) dX7_chain_75 ?_
              refine wp_int (bt_one (by omega)) ?_
              refine wp_ior (pc := 76) dX7_chain_76 ?_
              refine wp_int (bt_or _ _) ?_
              refine wp_istore_n (pc := 77) 2 dX7_chain_77 rfl (by decide) rfl ?_
              refine wp_decN (pc := 78) 4 dX7_chain_78 rfl (by decide) rfl ?_
              refine wp_goto (pc := 81) 28 dX7_chain_81 (by decide) ?_
              have nx := nx (lha (sgf s) c.1 j, c.2 ||| 2 ^ lha (sgf s) c.1 j) ⟨Nat.lt_trans hlt.1 hc1, or_lt (n := 10) hc2 (p2_lt (by omega)), hld, by rw [hj2]; exact hch⟩
              rw [hj2] at nx
              refine wp_weak ?_ nx
              exact And.intro (Or.inr rfl) (And.intro (Or.inr rfl) (And.intro (Or.inr rfl) (And.intro (Or.inr rfl) (And.intro (Or.inr rfl) (And.intro (Or.inl rfl) (trivial))))))
            · exact absurd hlt.2 (by simp [lhaP, show ¬ dep (sgf s) (lha (sgf s) c.1 j) = j from fun z => c_60 (by rw [z])])
    · obtain ⟨hc1, hc2, hcd, hcc⟩ := hs
      rw [Nat.sub_self, chN] at hcc
      refine wp_to (lv' := [.ref 40, .int (nI a), .int (nI c.2), .int (nI c.1), .int (nI 0), .null]) ?_ (by rw [Nat.sub_self]) rfl rfl
      refine wp_iload (pc := 28) 4 dX7_chain_28 rfl ?_
      refine wp_ifle (pc := 30) 84 dX7_chain_30 (by decide) (fun c_30 => ?_) (fun c_30 => ?_)
      · refine wp_iload_n (pc := 84) 2 dX7_chain_84 rfl rfl ?_
        refine wp_iretI (pc := 85) dX7_chain_85 rfl ?_
        rw [← hcc] at k
        exact k _ _ _ hM Lo.rf
      · exact absurd (by decide) c_30
  · refine wp_aload_n (pc := 8) 0 dX7_chain_8 rfl rfl ?_
    refine wp_bipush (pc := 9) (-2) dX7_chain_9 (by decide) ?_
    refine wc_V_I (pc := 11) dX7_chain_11 lkX7_81 (sm_Rc.o (ci := 6) s0_40 (by decide) (by decide)) (by decide) (Nat.le_of_ble_eq_true rfl) ?_
    refine c_X7_no_0 ?_
    refine wp_iretI (pc := 14) dX7_chain_14 rfl ?_
    unfold do_chain at k
    rw [qry_f (c := (isTh s x)) c_5] at k
    exact k _ _ _ (hM.bmp (by decide)) (Lo.rf.uI (by decide))
