/-! ===== the reference: tower ===== -/
theorem Lo.sF {F I F1 I1 : Nat → Nat → Int32} {J J1 : Nat → Nat → Int64} (h : Lo F I J F1 I1 J1) : Lo F I J (sm_up F1 40 6 0) I1 J1 := h.uF (by decide)
set_option maxHeartbeats 1000000 in
theorem c_X7_tower {d : Nat} {F I : Nat → Nat → Int32} {J : Nat → Nat → Int64} {Q : Option Value → sm_H → Prop} {s : Sg} (hM : MR s F I J) (ok : Ok s) (k : ∀ F1 I1 J1, MR (do_tower s).2 F1 I1 J1 → Lo F I J F1 I1 J1 → Q (some (.int (do_tower s).1)) (S0, F1, I1, J1)) : Wp mX7_tower (d + 6) 0 0 0 (sm_ini [.ref 40] 4) [] (S0, F, I, J) Q := by
  show Wp _ _ _ _ _ [.ref 40, .null, .null, .null] _ _ _
  have hw := ok.1
  have hR := hM.1
  have hn := hw.n
  have hcw := hw.c
  have hbn := bn_1024 hw
  have hbl := bn_lt hw
  have hp2 := p2n hw
  have hh1 := hw.wth
  have hh2 := hw.crk
  have hh3 := hw.year
  have hz := ok.2.2.1
  refine wp_aload_n (pc := 0) 0 dX7_tower_0 rfl rfl ?_
  refine wq_getR (pc := 1) 13 0 dX7_tower_1 s0_40 flX7_13 rfl rfl (by decide) (by decide) ?_
  refine wp_aload_n (pc := 4) 0 dX7_tower_4 rfl rfl ?_
  refine wq_getR (pc := 5) 17 1 dX7_tower_5 s0_40 flX7_17 rfl rfl (by decide) (by decide) ?_
  refine wc_S_RR (pc := 8) dX7_tower_8 lkX7_128 (by decide) (Nat.le_of_ble_eq_true rfl) ?_
  refine c_X7_move (a := 41) (b := 42) s0_41 s0_42 (by decide) (by decide) (by decide) ?_
  have hR0 : Rw 41 (sgf s) (rwI I 42 (I 41) 74) := fun j hj => by rw [rwI_ne (by decide)]; exact hR j hj
  have hM0 : MR s F (rwI I 42 (I 41) 74) J := hM.scr rfl rfl (fun a ha => rwI_ne ha) (fun _ _ => rfl)
  have hP0 : TP (sgz s) (sgt s) F (rwI I 42 (I 41) 74) := ⟨hM0.2.2.2.2.1.1, hM0.2.2.2.2.1.2, ok.2.2.1, ok.2.2.2.1⟩
  refine wp_aload_n (pc := 11) 0 dX7_tower_11 rfl rfl ?_
  refine wp_iconst (pc := 12) (0) dX7_tower_12 (by decide) ?_
  refine wq_putI (pc := 13) 97 7 dX7_tower_13 s0_40 flX7_97 rfl rfl (by decide) ?_
  refine wp_iconst (pc := 16) (0) dX7_tower_16 (by decide) ?_
  refine wp_istore_n (pc := 17) 1 dX7_tower_17 rfl (by decide) rfl ?_
  refine wp_iconst (pc := 18) (1) dX7_tower_18 (by decide) ?_
  refine wp_istore_n (pc := 19) 2 dX7_tower_19 rfl (by decide) rfl ?_
  refine wp_iconst (pc := 20) (1) dX7_tower_20 (by decide) ?_
  refine wp_istore_n (pc := 21) 3 dX7_tower_21 rfl (by decide) rfl ?_
  refine wp_loopS (σ := (Nat → Nat → Int32) × (Nat → Nat → Int32) × rw_ × Nat) (fun i _ => [.ref 40, .int (nI i), .int 1, .int 1]) (fun _ t => (S0, t.1, t.2.1, J)) (fun i t => Rw 41 t.2.2.1 t.2.1 ∧ WF t.2.2.1 ∧ RF (rwI I 42 (I 41) 74) t.2.1 ∧ KF F t.1 ∧ t.2.2.2 ≤ sgz s ∧ t.1 40 7 = nI t.2.2.2 ∧ 2 * i ≤ t.2.2.2 ∧ (twU (sgz s) (sgt s) 250 (sgf s) (tks (sgz s) (sgt s) 0) 0) = twU (sgz s) (sgt s) (250 - i) t.2.2.1 (tks (sgz s) (sgt s) t.2.2.2) i) 250 (fun i t hi hs nx => ?_) (fun t hs => ?_) 0 (sm_up F 40 7 0, (rwI I 42 (I 41) 74), sgf s, 0) (Nat.zero_le _) ⟨hR0, hw, RF.rf, KF.rf.u (by decide) (by decide), Nat.zero_le _, (show sm_up F 40 7 0 40 7 = nI 0 from up_eq), Nat.le_refl _, rfl⟩
  · obtain ⟨hR1, hw1, hf1, hk1, hp, hp7, hpi, ht⟩ := hs
    have hP1 : TP (sgz s) (sgt s) t.1 t.2.1 := ((hP0.kf hk1).fi hf1)
    have h46 : ∀ j, j < 70 → t.2.1 46 j = nI (wd7 j) := fun j hj => (congrFun (hf1 46 (by decide)) j).trans (hM0.2.2.2.2.2.2.1 j hj)
    have hok := stm_ok (tp := sgt s) hw1 (tks_le (tp := sgt s) hp).2
    have hw2 := hok.1
    have hq2 := hok.2
    have htl := (tks_le (tp := sgt s) hp).1
    have hs4 := srtk_le (sz := sgz s) (tp := sgt s) (q := (stm (sgz s) (sgt s) t.2.2.1 (tks (sgz s) (sgt s) t.2.2.2)).2.2)
    refine wp_iload_n (pc := 22) 3 dX7_tower_22 rfl rfl ?_
    refine wp_ifeq (pc := 23) 84 dX7_tower_23 (by decide) (fun c_23 => ?_) (fun c_23 => ?_)
    · exact absurd c_23 (by decide)
    · refine wp_aload_n (pc := 26) 0 dX7_tower_26 rfl rfl ?_
      refine wc_V_ (pc := 27) dX7_tower_27 lkX7_132 (sm_Rc.o (ci := 6) s0_40 (by decide) (by decide)) (by decide) (Nat.le_of_ble_eq_true rfl) ?_
      refine c_X7_happens hP1 hw1 hR1 h46 hp hp7 (fun F2 I2 hH => ?_)
      have hf2 := hf1.tr hH.2.1
      have hk2 := hk1.tr hH.2.2.1
      refine wp_istore_n (pc := 30) 2 dX7_tower_30 rfl (by decide) rfl ?_
      refine wp_incN (pc := 31) 1 dX7_tower_31 rfl (by decide) rfl ?_
      refine wp_iload_n (pc := 34) 2 dX7_tower_34 rfl rfl ?_
      refine wp_ifeqB (pc := 35) 63 dX7_tower_35 (by decide) (fun c_35 => ?_) (fun c_35 => ?_)
      · refine wp_iload_n (pc := 63) 2 dX7_tower_63 rfl rfl ?_
        refine wp_ifeqB (pc := 64) 79 dX7_tower_64 (by decide) (fun c_64 => ?_) (fun c_64 => ?_)
        · refine wp_iconst (pc := 79) (0) dX7_tower_79 (by decide) ?_
          refine wp_istore_n (pc := 80) 3 dX7_tower_80 rfl (by decide) rfl ?_
          refine wp_goto (pc := 81) 22 dX7_tower_81 (by decide) ?_
          refine wp_iload_n (pc := 22) 3 dX7_tower_22 rfl rfl ?_
          refine wp_ifeq (pc := 23) 84 dX7_tower_23 (by decide) (fun c_23 => ?_) (fun c_23 => ?_)
          · rw [show 250 - i = (250 - (i + 1)) + 1 by omega, tw_f c_35] at ht
            refine wp_aload_n (pc := 84) 0 dX7_tower_84 rfl rfl ?_
            refine wp_iconst (pc := 85) (0) dX7_tower_85 (by decide) ?_
            refine wq_putI (pc := 86) 93 6 dX7_tower_86 s0_40 flX7_93 rfl rfl (by decide) ?_
            refine wp_iload_n (pc := 89) 2 dX7_tower_89 rfl rfl ?_
            refine wp_ifneB (pc := 90) 122 dX7_tower_90 (by decide) (fun c_90 => ?_) (fun c_90 => ?_)
            · exact absurd (c_35.symm.trans c_90) (by decide)
            · refine wp_aload_n (pc := 93) 0 dX7_tower_93 rfl rfl ?_
              refine wq_getR (pc := 94) 17 1 dX7_tower_94 s0_40 flX7_17 rfl rfl (by decide) (by decide) ?_
              refine wp_aload_n (pc := 97) 0 dX7_tower_97 rfl rfl ?_
              refine wq_getR (pc := 98) 13 0 dX7_tower_98 s0_40 flX7_13 rfl rfl (by decide) (by decide) ?_
              refine wc_S_RR (pc := 101) dX7_tower_101 lkX7_128 (by decide) (Nat.le_of_ble_eq_true rfl) ?_
              refine c_X7_move (a := 42) (b := 41) s0_42 s0_41 (by decide) (by decide) (by decide) ?_
              refine wp_aload_n (pc := 104) 0 dX7_tower_104 rfl rfl ?_
              refine wq_getR (pc := 105) 23 4 dX7_tower_105 s0_40 flX7_23 rfl rfl (by decide) (by decide) ?_
              refine wp_iconst (pc := 108) (2) dX7_tower_108 (by decide) ?_
              refine wp_dup2 (pc := 109) dX7_tower_109 rfl rfl ?_
              refine wq_iald (pc := 110) 2 dX7_tower_110 s0_44 (by decide) rfl (by decide) (by decide) ?_
              refine wp_iconst (pc := 111) (1) dX7_tower_111 (by decide) ?_
              refine wp_iadd (pc := 112) dX7_tower_112 ?_
              refine wq_iast (pc := 113) 2 dX7_tower_113 s0_44 (by decide) rfl (by decide) (by decide) ?_
              refine wp_bipush (pc := 114) (-20) dX7_tower_114 (by decide) ?_
              refine wp_aload_n (pc := 116) 0 dX7_tower_116 rfl rfl ?_
              refine wq_getI (pc := 117) 100 8 dX7_tower_117 s0_40 flX7_100 rfl (by decide) ?_
              refine wp_int ((up_nj (by decide)).trans (hH.2.2.2.1 c_35)) ?_
              refine wp_isub (pc := 120) dX7_tower_120 ?_
              refine wp_iretI (pc := 121) dX7_tower_121 rfl ?_
              have hMr : MR s F (rwI I2 41 (I2 42) 74) J := hM0.f (f := sgf s) (fun j hj => (rwI_at hj).trans ((congrFun (hf2 42 (by decide)) j).trans ((rwI_at hj).trans (hR j hj)))) (fun a ha => (rwI_ne ha).trans (hf2 a ha))
              rw [do_tower_s (by rw [ht])] at k
              exact k _ _ _ ((hMr.t (F1 := sm_up F2 40 6 0) ((up_nj (by decide)).trans (hk2 40 3 (by omega))) up_eq (fun j hj => hMr.2.2.2.2.1.2 j hj) (fun a _ _ => rfl)).bmp (by decide)) ((((mv_lo (by decide)).tr ((hf2.lo (F := F)).tr ((mv_lo (by decide)).tr ((hk2).lo)))).uF (by decide)).uI (by decide))
          · exact absurd (by decide) c_23
        · exact absurd (c_35.symm.trans c_64) (by decide)
      · refine wp_aload_n (pc := 38) 0 dX7_tower_38 rfl rfl ?_
        refine wc_V_ (pc := 39) dX7_tower_39 lkX7_115 (sm_Rc.o (ci := 6) s0_40 (by decide) (by decide)) (by decide) (Nat.le_of_ble_eq_true rfl) ?_
        obtain ⟨p2, hp1, hp2, hp72, hpt⟩ := hH.2.2.2.2 c_35
        refine c_X7_read ((hP0.kf hk2).fi hf2) hp2 hp72 (fun F3 hr3 hk23 => ?_)
        rw [hpt] at hr3
        have hk3 := hk2.tr hk23
        have hpq := (tks_le (tp := sgt s) hp2).1
        rw [hpt] at hpq
        refine wp_aload_n (pc := 42) 0 dX7_tower_42 rfl rfl ?_
        refine wq_getI (pc := 43) 112 9 dX7_tower_43 s0_40 flX7_112 rfl (by decide) ?_
        refine wp_int hr3.2.2.1 ?_
        refine wp_ifeq (pc := 46) 57 dX7_tower_46 (by decide) (fun c_46 => ?_) (fun c_46 => ?_)
        · have hs46 : srtk (sgz s) (sgt s) (stm (sgz s) (sgt s) t.2.2.1 (tks (sgz s) (sgt s) t.2.2.2)).2.2 = 0 := (nI0 (by omega)).mp c_46
          refine wp_iconst (pc := 57) (1) dX7_tower_57 (by decide) ?_
          refine wp_goto (pc := 58) 62 dX7_tower_58 (by decide) ?_
          refine wp_istore_n (pc := 62) 2 dX7_tower_62 rfl (by decide) rfl ?_
          refine wp_iload_n (pc := 63) 2 dX7_tower_63 rfl rfl ?_
          refine wp_ifeq (pc := 64) 79 dX7_tower_64 (by decide) (fun c_64 => ?_) (fun c_64 => ?_)
          · exact absurd c_64 (by decide)
          · refine wp_aload_n (pc := 67) 0 dX7_tower_67 rfl rfl ?_
            refine wq_getI (pc := 68) 112 9 dX7_tower_68 s0_40 flX7_112 rfl (by decide) ?_
            refine wp_int hr3.2.2.1 ?_
            refine wp_iconst (pc := 71) (3) dX7_tower_71 (by decide) ?_
            refine wp_icmp_ne (pc := 72) 79 dX7_tower_72 (by decide) (fun c_72 => ?_) (fun c_72 => ?_)
            · refine wp_iconst (pc := 79) (0) dX7_tower_79 (by decide) ?_
              refine wp_istore_n (pc := 80) 3 dX7_tower_80 rfl (by decide) rfl ?_
              refine wp_goto (pc := 81) 22 dX7_tower_81 (by decide) ?_
              refine wp_iload_n (pc := 22) 3 dX7_tower_22 rfl rfl ?_
              refine wp_ifeq (pc := 23) 84 dX7_tower_23 (by decide) (fun c_23 => ?_) (fun c_23 => ?_)
              · rw [show 250 - i = (250 - (i + 1)) + 1 by omega, tw_0 c_35 hs46] at ht
                refine wp_aload_n (pc := 84) 0 dX7_tower_84 rfl rfl ?_
                refine wp_iconst (pc := 85) (0) dX7_tower_85 (by decide) ?_
                refine wq_putI (pc := 86) 93 6 dX7_tower_86 s0_40 flX7_93 rfl rfl (by decide) ?_
                refine wp_iload_n (pc := 89) 2 dX7_tower_89 rfl rfl ?_
                refine wp_ifne (pc := 90) 122 dX7_tower_90 (by decide) (fun c_90 => ?_) (fun c_90 => ?_)
                · refine wp_iload_n (pc := 122) 1 dX7_tower_122 rfl rfl ?_
                  refine wp_iretI (pc := 123) dX7_tower_123 rfl ?_
                  rw [do_tower_n (by rw [ht]), ht] at k
                  exact k _ _ _ ((hM0.f hH.1 hf2).t (F1 := sm_up F3 40 6 0) ((up_nj (by decide)).trans (hk3 40 3 (by omega))) up_eq (fun j hj => (hM0.f hH.1 hf2).2.2.2.2.1.2 j hj) (fun a _ _ => rfl)) (((mv_lo (by decide)).tr ((hf2.lo (F := F)).tr ((hk3).lo))).uF (by decide))
                · exact absurd c_90 (by decide)
              · exact absurd (by decide) c_23
            · exact absurd (c_46.symm.trans c_72) (by decide)
        · have hs46 : ¬ srtk (sgz s) (sgt s) (stm (sgz s) (sgt s) t.2.2.1 (tks (sgz s) (sgt s) t.2.2.2)).2.2 = 0 := fun z => c_46 (by rw [z]; rfl)
          refine wp_aload_n (pc := 49) 0 dX7_tower_49 rfl rfl ?_
          refine wq_getI (pc := 50) 112 9 dX7_tower_50 s0_40 flX7_112 rfl (by decide) ?_
          refine wp_int hr3.2.2.1 ?_
          refine wp_iconst (pc := 53) (3) dX7_tower_53 (by decide) ?_
          refine wp_icmp_ne (pc := 54) 61 dX7_tower_54 (by decide) (fun c_54 => ?_) (fun c_54 => ?_)
          · have hs54 : ¬ srtk (sgz s) (sgt s) (stm (sgz s) (sgt s) t.2.2.1 (tks (sgz s) (sgt s) t.2.2.2)).2.2 = 3 := fun z => c_54 (by rw [z]; rfl)
            refine wp_iconst (pc := 61) (0) dX7_tower_61 (by decide) ?_
            refine wp_istore_n (pc := 62) 2 dX7_tower_62 rfl (by decide) rfl ?_
            refine wp_iload_n (pc := 63) 2 dX7_tower_63 rfl rfl ?_
            refine wp_ifeq (pc := 64) 79 dX7_tower_64 (by decide) (fun c_64 => ?_) (fun c_64 => ?_)
            · refine wp_iconst (pc := 79) (0) dX7_tower_79 (by decide) ?_
              refine wp_istore_n (pc := 80) 3 dX7_tower_80 rfl (by decide) rfl ?_
              refine wp_goto (pc := 81) 22 dX7_tower_81 (by decide) ?_
              refine wp_iload_n (pc := 22) 3 dX7_tower_22 rfl rfl ?_
              refine wp_ifeq (pc := 23) 84 dX7_tower_23 (by decide) (fun c_23 => ?_) (fun c_23 => ?_)
              · rw [show 250 - i = (250 - (i + 1)) + 1 by omega, tw_e c_35 hs46 hs54] at ht
                refine wp_aload_n (pc := 84) 0 dX7_tower_84 rfl rfl ?_
                refine wp_iconst (pc := 85) (0) dX7_tower_85 (by decide) ?_
                refine wq_putI (pc := 86) 93 6 dX7_tower_86 s0_40 flX7_93 rfl rfl (by decide) ?_
                refine wp_iload_n (pc := 89) 2 dX7_tower_89 rfl rfl ?_
                refine wp_ifne (pc := 90) 122 dX7_tower_90 (by decide) (fun c_90 => ?_) (fun c_90 => ?_)
                · exact absurd (by decide) c_90
                · refine wp_aload_n (pc := 93) 0 dX7_tower_93 rfl rfl ?_
                  refine wq_getR (pc := 94) 17 1 dX7_tower_94 s0_40 flX7_17 rfl rfl (by decide) (by decide) ?_
                  refine wp_aload_n (pc := 97) 0 dX7_tower_97 rfl rfl ?_
                  refine wq_getR (pc := 98) 13 0 dX7_tower_98 s0_40 flX7_13 rfl rfl (by decide) (by decide) ?_
                  refine wc_S_RR (pc := 101) dX7_tower_101 lkX7_128 (by decide) (Nat.le_of_ble_eq_true rfl) ?_
                  refine c_X7_move (a := 42) (b := 41) s0_42 s0_41 (by decide) (by decide) (by decide) ?_
                  refine wp_aload_n (pc := 104) 0 dX7_tower_104 rfl rfl ?_
                  refine wq_getR (pc := 105) 23 4 dX7_tower_105 s0_40 flX7_23 rfl rfl (by decide) (by decide) ?_
                  refine wp_iconst (pc := 108) (2) dX7_tower_108 (by decide) ?_
                  refine wp_dup2 (pc := 109) dX7_tower_109 rfl rfl ?_
                  refine wq_iald (pc := 110) 2 dX7_tower_110 s0_44 (by decide) rfl (by decide) (by decide) ?_
                  refine wp_iconst (pc := 111) (1) dX7_tower_111 (by decide) ?_
                  refine wp_iadd (pc := 112) dX7_tower_112 ?_
                  refine wq_iast (pc := 113) 2 dX7_tower_113 s0_44 (by decide) rfl (by decide) (by decide) ?_
                  refine wp_bipush (pc := 114) (-20) dX7_tower_114 (by decide) ?_
                  refine wp_aload_n (pc := 116) 0 dX7_tower_116 rfl rfl ?_
                  refine wq_getI (pc := 117) 100 8 dX7_tower_117 s0_40 flX7_100 rfl (by decide) ?_
                  refine wp_int ((up_nj (by decide)).trans hr3.2.1) ?_
                  refine wp_isub (pc := 120) dX7_tower_120 ?_
                  refine wp_iretI (pc := 121) dX7_tower_121 rfl ?_
                  have hMr : MR s F (rwI I2 41 (I2 42) 74) J := hM0.f (f := sgf s) (fun j hj => (rwI_at hj).trans ((congrFun (hf2 42 (by decide)) j).trans ((rwI_at hj).trans (hR j hj)))) (fun a ha => (rwI_ne ha).trans (hf2 a ha))
                  rw [do_tower_s (by rw [ht])] at k
                  exact k _ _ _ ((hMr.t (F1 := sm_up F3 40 6 0) ((up_nj (by decide)).trans (hk3 40 3 (by omega))) up_eq (fun j hj => hMr.2.2.2.2.1.2 j hj) (fun a _ _ => rfl)).bmp (by decide)) ((((mv_lo (by decide)).tr ((hf2.lo (F := F)).tr ((mv_lo (by decide)).tr ((hk3).lo)))).uF (by decide)).uI (by decide))
              · exact absurd (by decide) c_23
            · exact absurd (by decide) c_64
          · have hs54 : srtk (sgz s) (sgt s) (stm (sgz s) (sgt s) t.2.2.1 (tks (sgz s) (sgt s) t.2.2.2)).2.2 = 3 := (nI_eq (b := 3) (by omega) (by decide)).mp c_54
            refine wp_iconst (pc := 57) (1) dX7_tower_57 (by decide) ?_
            refine wp_goto (pc := 58) 62 dX7_tower_58 (by decide) ?_
            refine wp_istore_n (pc := 62) 2 dX7_tower_62 rfl (by decide) rfl ?_
            refine wp_iload_n (pc := 63) 2 dX7_tower_63 rfl rfl ?_
            refine wp_ifeq (pc := 64) 79 dX7_tower_64 (by decide) (fun c_64 => ?_) (fun c_64 => ?_)
            · exact absurd c_64 (by decide)
            · refine wp_aload_n (pc := 67) 0 dX7_tower_67 rfl rfl ?_
              refine wq_getI (pc := 68) 112 9 dX7_tower_68 s0_40 flX7_112 rfl (by decide) ?_
              refine wp_int hr3.2.2.1 ?_
              refine wp_iconst (pc := 71) (3) dX7_tower_71 (by decide) ?_
              refine wp_icmp_ne (pc := 72) 79 dX7_tower_72 (by decide) (fun c_72 => ?_) (fun c_72 => ?_)
              · exact absurd c_54 c_72
              · refine wp_iconst (pc := 75) (1) dX7_tower_75 (by decide) ?_
                refine wp_goto (pc := 76) 80 dX7_tower_76 (by decide) ?_
                refine wp_istore_n (pc := 80) 3 dX7_tower_80 rfl (by decide) rfl ?_
                refine wp_goto (pc := 81) 22 dX7_tower_81 (by decide) ?_
                rw [show 250 - i = (250 - (i + 1)) + 1 by omega, tw_3 c_35 hs54] at ht
                exact nx (F3, I2, (stm (sgz s) (sgt s) t.2.2.1 (tks (sgz s) (sgt s) t.2.2.2)).2.1, endk (sgz s) (sgt s) (stm (sgz s) (sgt s) t.2.2.1 (tks (sgz s) (sgt s) t.2.2.2)).2.2) ⟨hH.1, hw2, hf2, hk3, (endk_le hq2).2.1, hr3.1, by have h9 := (endk_le (tp := sgt s) hq2).2.2 (fun z => by rw [hs54] at z; cases z); show 2 * (i + 1) ≤ endk (sgz s) (sgt s) (stm (sgz s) (sgt s) t.2.2.1 (tks (sgz s) (sgt s) t.2.2.2)).2.2; omega, ht⟩
  · obtain ⟨hR1, hw1, hf1, hk1, hp, hp7, hpi, ht⟩ := hs
    exact absurd hpi (by omega)
