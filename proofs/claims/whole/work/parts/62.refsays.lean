/-! ===== the reference: what a shelf says; told peals ===== -/
theorem c_X7_says {d : Nat} {F I : Nat → Nat → Int32} {J : Nat → Nat → Int64} {Q : Option Value → sm_H → Prop} {x y : Int32} {s : Sg} (hM : MR s F I J) (ok : Ok s) (k : ∀ F1 I1 J1, MR (do_says s x y).2 F1 I1 J1 → Lo F I J F1 I1 J1 → Q (some (.int (do_says s x y).1)) (S0, F1, I1, J1)) : Wp mX7_says (d + 4) 0 0 0 (sm_ini [.ref 40, .int x, .int y] 5) [] (S0, F, I, J) Q := by
  show Wp _ _ _ _ _ [.ref 40, .int x, .int y, .null, .null] _ _ _
  have hw := ok.1
  have hR := hM.1
  have hn := hw.n
  have hcw := hw.c
  have hbn := bn_1024 hw
  have hbl := bn_lt hw
  have hp2 := p2n hw
  have hh1 := hw.wth
  have hh2 := hw.crk
  have hh3 := hw.year
  have hS := hM.2.2.2.2.2.1
  have ho := ok.2.2.2.2.1
  have hz := ok.2.2.1
  refine wp_iload_n (pc := 0) 1 dX7_says_0 rfl rfl ?_
  refine wc_S_I (pc := 1) dX7_says_1 lkX7_204 (by decide) (Nat.le_of_ble_eq_true rfl) ?_
  refine c_X7_isShelf ?_
  refine wp_ifeqB (pc := 4) 16 dX7_says_4 (by decide) (fun c_4 => ?_) (fun c_4 => ?_)
  · refine wp_aload_n (pc := 16) 0 dX7_says_16 rfl rfl ?_
    refine wp_bipush (pc := 17) (-2) dX7_says_17 (by decide) ?_
    refine wc_V_I (pc := 19) dX7_says_19 lkX7_81 (sm_Rc.o (ci := 6) s0_40 (by decide) (by decide)) (by decide) (Nat.le_of_ble_eq_true rfl) ?_
    refine c_X7_no_0 ?_
    refine wp_iretI (pc := 22) dX7_says_22 rfl ?_
    unfold do_says at k
    rw [gat_f (c := (inS x && upB y 5)) (and_f1 c_4)] at k
    exact k _ _ _ (hM.bmp (by decide)) (Lo.rf.uI (by decide))
  · obtain ⟨a, ha, rfl⟩ := (i32_in (n := 8) (by decide)).mp (of_decide_eq_true c_4)
    refine wp_iload_n (pc := 7) 2 dX7_says_7 rfl rfl ?_
    refine wp_iconst (pc := 8) (0) dX7_says_8 (by decide) ?_
    refine wp_iconst (pc := 9) (5) dX7_says_9 (by decide) ?_
    refine wc_S_III (pc := 10) dX7_says_10 lkX7_49 (by decide) (Nat.le_of_ble_eq_true rfl) ?_
    refine c_X7_isIn ?_
    refine wp_ifneB (pc := 13) 23 dX7_says_13 (by decide) (fun c_13 => ?_) (fun c_13 => ?_)
    · obtain ⟨n, hn5, rfl⟩ := (i32_le (n := 5) (by decide)).mp (of_decide_eq_true c_13)
      rcases ho.c a with e | ⟨k0, e, hk⟩ | ⟨k0, e, hk, hk2⟩
      · rw [says_n (and_tt c_4 c_13) ha e] at k
        refine wp_aload_n (pc := 23) 0 dX7_says_23 rfl rfl ?_
        refine wq_getR (pc := 24) 33 13 dX7_says_24 s0_40 flX7_33 rfl rfl (by decide) (by decide) ?_
        refine wp_iload_n (pc := 27) 1 dX7_says_27 rfl rfl ?_
        refine wq_iald (pc := 28) a dX7_says_28 s0_47 (by decide) rfl ha (by decide) ?_
        refine wp_int (hS.1 _ ha) ?_
        refine wp_int (show eN (sgh s a) = -1 by rw [e]; rfl) ?_
        refine wp_iconst (pc := 29) (-1) dX7_says_29 (by decide) ?_
        refine wp_icmp_ne (pc := 30) 40 dX7_says_30 (by decide) (fun c_30 => ?_) (fun c_30 => ?_)
        · exact absurd (by decide) c_30
        · refine wp_aload_n (pc := 33) 0 dX7_says_33 rfl rfl ?_
          refine wp_bipush (pc := 34) (-4) dX7_says_34 (by decide) ?_
          refine wc_V_I (pc := 36) dX7_says_36 lkX7_81 (sm_Rc.o (ci := 6) s0_40 (by decide) (by decide)) (by decide) (Nat.le_of_ble_eq_true rfl) ?_
          refine c_X7_no_2 ?_
          refine wp_iretI (pc := 39) dX7_says_39 rfl ?_
          exact k _ _ _ (hM.bmp (by decide)) (Lo.rf.uI (by decide))
      · rw [says_r (and_tt c_4 c_13) ha e hk] at k
        refine wp_aload_n (pc := 23) 0 dX7_says_23 rfl rfl ?_
        refine wq_getR (pc := 24) 33 13 dX7_says_24 s0_40 flX7_33 rfl rfl (by decide) (by decide) ?_
        refine wp_iload_n (pc := 27) 1 dX7_says_27 rfl rfl ?_
        refine wq_iald (pc := 28) a dX7_says_28 s0_47 (by decide) rfl ha (by decide) ?_
        refine wp_int (hS.1 _ ha) ?_
        refine wp_int (show eN (sgh s a) = nI k0 by rw [e]; rfl) ?_
        refine wp_iconst (pc := 29) (-1) dX7_says_29 (by decide) ?_
        refine wp_icmp_ne (pc := 30) 40 dX7_says_30 (by decide) (fun c_30 => ?_) (fun c_30 => ?_)
        · refine wp_aload_n (pc := 40) 0 dX7_says_40 rfl rfl ?_
          refine wq_getR (pc := 41) 33 13 dX7_says_41 s0_40 flX7_33 rfl rfl (by decide) (by decide) ?_
          refine wp_iload_n (pc := 44) 1 dX7_says_44 rfl rfl ?_
          refine wq_iald (pc := 45) a dX7_says_45 s0_47 (by decide) rfl ha (by decide) ?_
          refine wp_int (hS.1 _ ha) ?_
          refine wp_int (show eN (sgh s a) = nI k0 by rw [e]; rfl) ?_
          refine wp_bipush (pc := 46) (10) dX7_says_46 (by decide) ?_
          refine wp_icmp_ge (pc := 48) 58 dX7_says_48 (by decide) (fun c_48 => ?_) (fun c_48 => ?_)
          · exact absurd c_48 (nI_ge (b := 10) (by omega) (by decide))
          · refine wp_aload_n (pc := 51) 0 dX7_says_51 rfl rfl ?_
            refine wp_bipush (pc := 52) (-3) dX7_says_52 (by decide) ?_
            refine wc_V_I (pc := 54) dX7_says_54 lkX7_81 (sm_Rc.o (ci := 6) s0_40 (by decide) (by decide)) (by decide) (Nat.le_of_ble_eq_true rfl) ?_
            refine c_X7_no_1 ?_
            refine wp_iretI (pc := 57) dX7_says_57 rfl ?_
            exact k _ _ _ (hM.bmp (by decide)) (Lo.rf.uI (by decide))
        · exact absurd c_30 (m1_ne (by omega))
      · rw [says_g (and_tt c_4 c_13) ha e hk] at k
        obtain ⟨r, hkr⟩ : ∃ r, k0 - 10 = r := ⟨_, rfl⟩
        have hr : r < 6 := by omega
        unfold syV at k
        rw [hkr] at k
        refine wp_aload_n (pc := 23) 0 dX7_says_23 rfl rfl ?_
        refine wq_getR (pc := 24) 33 13 dX7_says_24 s0_40 flX7_33 rfl rfl (by decide) (by decide) ?_
        refine wp_iload_n (pc := 27) 1 dX7_says_27 rfl rfl ?_
        refine wq_iald (pc := 28) a dX7_says_28 s0_47 (by decide) rfl ha (by decide) ?_
        refine wp_int (hS.1 _ ha) ?_
        refine wp_int (show eN (sgh s a) = nI k0 by rw [e]; rfl) ?_
        refine wp_iconst (pc := 29) (-1) dX7_says_29 (by decide) ?_
        refine wp_icmp_ne (pc := 30) 40 dX7_says_30 (by decide) (fun c_30 => ?_) (fun c_30 => ?_)
        · refine wp_aload_n (pc := 40) 0 dX7_says_40 rfl rfl ?_
          refine wq_getR (pc := 41) 33 13 dX7_says_41 s0_40 flX7_33 rfl rfl (by decide) (by decide) ?_
          refine wp_iload_n (pc := 44) 1 dX7_says_44 rfl rfl ?_
          refine wq_iald (pc := 45) a dX7_says_45 s0_47 (by decide) rfl ha (by decide) ?_
          refine wp_int (hS.1 _ ha) ?_
          refine wp_int (show eN (sgh s a) = nI k0 by rw [e]; rfl) ?_
          refine wp_bipush (pc := 46) (10) dX7_says_46 (by decide) ?_
          refine wp_icmp_ge (pc := 48) 58 dX7_says_48 (by decide) (fun c_48 => ?_) (fun c_48 => ?_)
          · refine wp_aload_n (pc := 58) 0 dX7_says_58 rfl rfl ?_
            refine wq_getR (pc := 59) 33 13 dX7_says_59 s0_40 flX7_33 rfl rfl (by decide) (by decide) ?_
            refine wp_iload_n (pc := 62) 1 dX7_says_62 rfl rfl ?_
            refine wq_iald (pc := 63) a dX7_says_63 s0_47 (by decide) rfl ha (by decide) ?_
            refine wp_int (hS.1 _ ha) ?_
            refine wp_int (show eN (sgh s a) = nI k0 by rw [e]; rfl) ?_
            refine wp_bipush (pc := 64) (10) dX7_says_64 (by decide) ?_
            refine wp_isub (pc := 66) dX7_says_66 ?_
            refine wp_int (y := nI r) (by rw [show (10 : Int32) = nI 10 from rfl, sub_nI hk, hkr]) ?_
            refine wp_istore_n (pc := 67) 3 dX7_says_67 rfl (by decide) rfl ?_
            refine wp_aload_n (pc := 68) 0 dX7_says_68 rfl rfl ?_
            refine wq_getR (pc := 69) 13 0 dX7_says_69 s0_40 flX7_13 rfl rfl (by decide) (by decide) ?_
            refine wp_bipush (pc := 72) (50) dX7_says_72 (by decide) ?_
            refine wp_iconst (pc := 74) (3) dX7_says_74 (by decide) ?_
            refine wp_iload_n (pc := 75) 3 dX7_says_75 rfl rfl ?_
            refine wp_imul (pc := 76) dX7_says_76 ?_
            refine wp_iadd (pc := 77) dX7_says_77 ?_
            refine wq_iald (pc := 78) (50 + 3 * r) dX7_says_78 s0_41 (by decide) (ix3 r) (by omega) (by decide) ?_
            refine wp_int (hR.at (by omega)) ?_
            refine wp_istore (pc := 79) 4 dX7_says_79 (by decide) rfl ?_
            obtain ⟨kd, hkd⟩ : ∃ kd, kd = sgf s (50 + 3 * r) := ⟨_, rfl⟩
            have hkd6 := hw.kind hr
            rw [← hkd] at hkd6
            refine wp_to (lv' := [.ref 40, .int (nI a), .int (nI n), .int (nI r), .int (nI kd)]) ?_ (by rw [hkd]; rfl) rfl rfl
            rw [nI_clamp (by omega), ← hkd] at k
            rcases (show kd = 0 ∨ kd = 1 ∨ kd = 2 ∨ kd = 3 ∨ kd = 4 ∨ kd = 5 by omega) with rfl | rfl | rfl | rfl | rfl | rfl
            · rcases (show n = 0 ∨ n = 1 ∨ n = 2 ∨ n = 3 ∨ n = 4 ∨ n = 5 by omega) with rfl | rfl | rfl | rfl | rfl | rfl
              · refine wp_iload (pc := 81) 4 dX7_says_81 rfl ?_
                refine wp_iconst (pc := 83) (-1) dX7_says_83 (by decide) ?_
                refine wp_icmp_eq (pc := 84) 105 dX7_says_84 (by decide) (fun c_84 => ?_) (fun c_84 => ?_)
                · exact absurd c_84 (by decide)
                · refine wp_iload (pc := 87) 4 dX7_says_87 rfl ?_
                  refine wp_iload_n (pc := 89) 2 dX7_says_89 rfl rfl ?_
                  refine wp_icmp_eq (pc := 90) 105 dX7_says_90 (by decide) (fun c_90 => ?_) (fun c_90 => ?_)
                  · refine wp_iload (pc := 105) 4 dX7_says_105 rfl ?_
                    refine wp_iconst (pc := 107) (-1) dX7_says_107 (by decide) ?_
                    refine wp_icmp_ne (pc := 108) 120 dX7_says_108 (by decide) (fun c_108 => ?_) (fun c_108 => ?_)
                    · refine wp_iload_n (pc := 120) 2 dX7_says_120 rfl rfl ?_
                      refine wp_ifne (pc := 121) 140 dX7_says_121 (by decide) (fun c_121 => ?_) (fun c_121 => ?_)
                      · exact absurd (by decide) c_121
                      · refine wp_aload_n (pc := 124) 0 dX7_says_124 rfl rfl ?_
                        refine wq_getR (pc := 125) 13 0 dX7_says_125 s0_40 flX7_13 rfl rfl (by decide) (by decide) ?_
                        refine wp_bipush (pc := 128) (50) dX7_says_128 (by decide) ?_
                        refine wp_iconst (pc := 130) (3) dX7_says_130 (by decide) ?_
                        refine wp_iload_n (pc := 131) 3 dX7_says_131 rfl rfl ?_
                        refine wp_imul (pc := 132) dX7_says_132 ?_
                        refine wp_iadd (pc := 133) dX7_says_133 ?_
                        refine wp_iconst (pc := 134) (2) dX7_says_134 (by decide) ?_
                        refine wp_iadd (pc := 135) dX7_says_135 ?_
                        refine wq_iald (pc := 136) (50 + 3 * r + 2) dX7_says_136 s0_41 (by decide) ((congrArg (· + 2) (ix3 r)).trans (nI_add _ 2)) (by omega) (by decide) ?_
                        refine wp_int (hR.at (by omega)) ?_
                        refine wp_goto (pc := 137) 145 dX7_says_137 (by decide) ?_
                        refine wp_iretI (pc := 145) dX7_says_145 rfl ?_
                        rw [if_pos (show undK 0 0 = true by decide)] at k
                        rw [if_pos (show nI 0 = 0 from rfl)] at k
                        exact k _ _ _ hM Lo.rf
                    · exact absurd c_108 (by decide)
                  · exact absurd (by decide) c_90
              · refine wp_iload (pc := 81) 4 dX7_says_81 rfl ?_
                refine wp_iconst (pc := 83) (-1) dX7_says_83 (by decide) ?_
                refine wp_icmp_eq (pc := 84) 105 dX7_says_84 (by decide) (fun c_84 => ?_) (fun c_84 => ?_)
                · exact absurd c_84 (by decide)
                · refine wp_iload (pc := 87) 4 dX7_says_87 rfl ?_
                  refine wp_iload_n (pc := 89) 2 dX7_says_89 rfl rfl ?_
                  refine wp_icmp_eq (pc := 90) 105 dX7_says_90 (by decide) (fun c_90 => ?_) (fun c_90 => ?_)
                  · exact absurd c_90 (by decide)
                  · refine wp_aload_n (pc := 93) 0 dX7_says_93 rfl rfl ?_
                    refine wq_getR (pc := 94) 46 17 dX7_says_94 s0_40 flX7_46 rfl rfl (by decide) (by decide) ?_
                    refine wp_iload (pc := 97) 4 dX7_says_97 rfl ?_
                    refine wq_iald (pc := 99) 0 dX7_says_99 s0_51 (by decide) rfl (by decide) (by decide) ?_
                    refine wp_int (y := -1) ((hM.2.2.2.2.2.2.2 0 (by decide)).trans (by decide)) ?_
                    refine wp_istore (pc := 100) 4 dX7_says_100 (by decide) rfl ?_
                    refine wp_goto (pc := 102) 81 dX7_says_102 (by decide) ?_
                    refine wp_iload (pc := 81) 4 dX7_says_81 rfl ?_
                    refine wp_iconst (pc := 83) (-1) dX7_says_83 (by decide) ?_
                    refine wp_icmp_eq (pc := 84) 105 dX7_says_84 (by decide) (fun c_84 => ?_) (fun c_84 => ?_)
                    · refine wp_iload (pc := 105) 4 dX7_says_105 rfl ?_
                      refine wp_iconst (pc := 107) (-1) dX7_says_107 (by decide) ?_
                      refine wp_icmp_ne (pc := 108) 120 dX7_says_108 (by decide) (fun c_108 => ?_) (fun c_108 => ?_)
                      · exact absurd (by decide) c_108
                      · refine wp_aload_n (pc := 111) 0 dX7_says_111 rfl rfl ?_
                        refine wp_bipush (pc := 112) (-3) dX7_says_112 (by decide) ?_
                        refine wc_V_I (pc := 114) dX7_says_114 lkX7_81 (sm_Rc.o (ci := 6) s0_40 (by decide) (by decide)) (by decide) (Nat.le_of_ble_eq_true rfl) ?_
                        refine c_X7_no_1 ?_
                        refine wp_goto (pc := 117) 145 dX7_says_117 (by decide) ?_
                        refine wp_iretI (pc := 145) dX7_says_145 rfl ?_
                        rw [if_neg (show ¬ undK 0 1 = true by decide)] at k
                        exact k _ _ _ (hM.bmp (by decide)) (Lo.rf.uI (by decide))
                    · exact absurd (by decide) c_84
              · refine wp_iload (pc := 81) 4 dX7_says_81 rfl ?_
                refine wp_iconst (pc := 83) (-1) dX7_says_83 (by decide) ?_
                refine wp_icmp_eq (pc := 84) 105 dX7_says_84 (by decide) (fun c_84 => ?_) (fun c_84 => ?_)
                · exact absurd c_84 (by decide)
                · refine wp_iload (pc := 87) 4 dX7_says_87 rfl ?_
                  refine wp_iload_n (pc := 89) 2 dX7_says_89 rfl rfl ?_
                  refine wp_icmp_eq (pc := 90) 105 dX7_says_90 (by decide) (fun c_90 => ?_) (fun c_90 => ?_)
                  · exact absurd c_90 (by decide)
                  · refine wp_aload_n (pc := 93) 0 dX7_says_93 rfl rfl ?_
                    refine wq_getR (pc := 94) 46 17 dX7_says_94 s0_40 flX7_46 rfl rfl (by decide) (by decide) ?_
                    refine wp_iload (pc := 97) 4 dX7_says_97 rfl ?_
                    refine wq_iald (pc := 99) 0 dX7_says_99 s0_51 (by decide) rfl (by decide) (by decide) ?_
                    refine wp_int (y := -1) ((hM.2.2.2.2.2.2.2 0 (by decide)).trans (by decide)) ?_
                    refine wp_istore (pc := 100) 4 dX7_says_100 (by decide) rfl ?_
                    refine wp_goto (pc := 102) 81 dX7_says_102 (by decide) ?_
                    refine wp_iload (pc := 81) 4 dX7_says_81 rfl ?_
                    refine wp_iconst (pc := 83) (-1) dX7_says_83 (by decide) ?_
                    refine wp_icmp_eq (pc := 84) 105 dX7_says_84 (by decide) (fun c_84 => ?_) (fun c_84 => ?_)
                    · refine wp_iload (pc := 105) 4 dX7_says_105 rfl ?_
                      refine wp_iconst (pc := 107) (-1) dX7_says_107 (by decide) ?_
                      refine wp_icmp_ne (pc := 108) 120 dX7_says_108 (by decide) (fun c_108 => ?_) (fun c_108 => ?_)
                      · exact absurd (by decide) c_108
                      · refine wp_aload_n (pc := 111) 0 dX7_says_111 rfl rfl ?_
                        refine wp_bipush (pc := 112) (-3) dX7_says_112 (by decide) ?_
                        refine wc_V_I (pc := 114) dX7_says_114 lkX7_81 (sm_Rc.o (ci := 6) s0_40 (by decide) (by decide)) (by decide) (Nat.le_of_ble_eq_true rfl) ?_
                        refine c_X7_no_1 ?_
                        refine wp_goto (pc := 117) 145 dX7_says_117 (by decide) ?_
                        refine wp_iretI (pc := 145) dX7_says_145 rfl ?_
                        rw [if_neg (show ¬ undK 0 2 = true by decide)] at k
                        exact k _ _ _ (hM.bmp (by decide)) (Lo.rf.uI (by decide))
                    · exact absurd (by decide) c_84
              · refine wp_iload (pc := 81) 4 dX7_says_81 rfl ?_
                refine wp_iconst (pc := 83) (-1) dX7_says_83 (by decide) ?_
                refine wp_icmp_eq (pc := 84) 105 dX7_says_84 (by decide) (fun c_84 => ?_) (fun c_84 => ?_)
                · exact absurd c_84 (by decide)
                · refine wp_iload (pc := 87) 4 dX7_says_87 rfl ?_
                  refine wp_iload_n (pc := 89) 2 dX7_says_89 rfl rfl ?_
                  refine wp_icmp_eq (pc := 90) 105 dX7_says_90 (by decide) (fun c_90 => ?_) (fun c_90 => ?_)
                  · exact absurd c_90 (by decide)
                  · refine wp_aload_n (pc := 93) 0 dX7_says_93 rfl rfl ?_
                    refine wq_getR (pc := 94) 46 17 dX7_says_94 s0_40 flX7_46 rfl rfl (by decide) (by decide) ?_
                    refine wp_iload (pc := 97) 4 dX7_says_97 rfl ?_
                    refine wq_iald (pc := 99) 0 dX7_says_99 s0_51 (by decide) rfl (by decide) (by decide) ?_
                    refine wp_int (y := -1) ((hM.2.2.2.2.2.2.2 0 (by decide)).trans (by decide)) ?_
                    refine wp_istore (pc := 100) 4 dX7_says_100 (by decide) rfl ?_
                    refine wp_goto (pc := 102) 81 dX7_says_102 (by decide) ?_
                    refine wp_iload (pc := 81) 4 dX7_says_81 rfl ?_
                    refine wp_iconst (pc := 83) (-1) dX7_says_83 (by decide) ?_
                    refine wp_icmp_eq (pc := 84) 105 dX7_says_84 (by decide) (fun c_84 => ?_) (fun c_84 => ?_)
                    · refine wp_iload (pc := 105) 4 dX7_says_105 rfl ?_
                      refine wp_iconst (pc := 107) (-1) dX7_says_107 (by decide) ?_
                      refine wp_icmp_ne (pc := 108) 120 dX7_says_108 (by decide) (fun c_108 => ?_) (fun c_108 => ?_)
                      · exact absurd (by decide) c_108
                      · refine wp_aload_n (pc := 111) 0 dX7_says_111 rfl rfl ?_
                        refine wp_bipush (pc := 112) (-3) dX7_says_112 (by decide) ?_
                        refine wc_V_I (pc := 114) dX7_says_114 lkX7_81 (sm_Rc.o (ci := 6) s0_40 (by decide) (by decide)) (by decide) (Nat.le_of_ble_eq_true rfl) ?_
                        refine c_X7_no_1 ?_
                        refine wp_goto (pc := 117) 145 dX7_says_117 (by decide) ?_
                        refine wp_iretI (pc := 145) dX7_says_145 rfl ?_
                        rw [if_neg (show ¬ undK 0 3 = true by decide)] at k
                        exact k _ _ _ (hM.bmp (by decide)) (Lo.rf.uI (by decide))
                    · exact absurd (by decide) c_84
              · refine wp_iload (pc := 81) 4 dX7_says_81 rfl ?_
                refine wp_iconst (pc := 83) (-1) dX7_says_83 (by decide) ?_
                refine wp_icmp_eq (pc := 84) 105 dX7_says_84 (by decide) (fun c_84 => ?_) (fun c_84 => ?_)
                · exact absurd c_84 (by decide)
                · refine wp_iload (pc := 87) 4 dX7_says_87 rfl ?_
                  refine wp_iload_n (pc := 89) 2 dX7_says_89 rfl rfl ?_
                  refine wp_icmp_eq (pc := 90) 105 dX7_says_90 (by decide) (fun c_90 => ?_) (fun c_90 => ?_)
                  · exact absurd c_90 (by decide)
                  · refine wp_aload_n (pc := 93) 0 dX7_says_93 rfl rfl ?_
                    refine wq_getR (pc := 94) 46 17 dX7_says_94 s0_40 flX7_46 rfl rfl (by decide) (by decide) ?_
                    refine wp_iload (pc := 97) 4 dX7_says_97 rfl ?_
                    refine wq_iald (pc := 99) 0 dX7_says_99 s0_51 (by decide) rfl (by decide) (by decide) ?_
                    refine wp_int (y := -1) ((hM.2.2.2.2.2.2.2 0 (by decide)).trans (by decide)) ?_
                    refine wp_istore (pc := 100) 4 dX7_says_100 (by decide) rfl ?_
                    refine wp_goto (pc := 102) 81 dX7_says_102 (by decide) ?_
                    refine wp_iload (pc := 81) 4 dX7_says_81 rfl ?_
                    refine wp_iconst (pc := 83) (-1) dX7_says_83 (by decide) ?_
                    refine wp_icmp_eq (pc := 84) 105 dX7_says_84 (by decide) (fun c_84 => ?_) (fun c_84 => ?_)
                    · refine wp_iload (pc := 105) 4 dX7_says_105 rfl ?_
                      refine wp_iconst (pc := 107) (-1) dX7_says_107 (by decide) ?_
                      refine wp_icmp_ne (pc := 108) 120 dX7_says_108 (by decide) (fun c_108 => ?_) (fun c_108 => ?_)
                      · exact absurd (by decide) c_108
                      · refine wp_aload_n (pc := 111) 0 dX7_says_111 rfl rfl ?_
                        refine wp_bipush (pc := 112) (-3) dX7_says_112 (by decide) ?_
                        refine wc_V_I (pc := 114) dX7_says_114 lkX7_81 (sm_Rc.o (ci := 6) s0_40 (by decide) (by decide)) (by decide) (Nat.le_of_ble_eq_true rfl) ?_
                        refine c_X7_no_1 ?_
                        refine wp_goto (pc := 117) 145 dX7_says_117 (by decide) ?_
                        refine wp_iretI (pc := 145) dX7_says_145 rfl ?_
                        rw [if_neg (show ¬ undK 0 4 = true by decide)] at k
                        exact k _ _ _ (hM.bmp (by decide)) (Lo.rf.uI (by decide))
                    · exact absurd (by decide) c_84
              · refine wp_iload (pc := 81) 4 dX7_says_81 rfl ?_
                refine wp_iconst (pc := 83) (-1) dX7_says_83 (by decide) ?_
                refine wp_icmp_eq (pc := 84) 105 dX7_says_84 (by decide) (fun c_84 => ?_) (fun c_84 => ?_)
                · exact absurd c_84 (by decide)
                · refine wp_iload (pc := 87) 4 dX7_says_87 rfl ?_
                  refine wp_iload_n (pc := 89) 2 dX7_says_89 rfl rfl ?_
                  refine wp_icmp_eq (pc := 90) 105 dX7_says_90 (by decide) (fun c_90 => ?_) (fun c_90 => ?_)
                  · exact absurd c_90 (by decide)
                  · refine wp_aload_n (pc := 93) 0 dX7_says_93 rfl rfl ?_
                    refine wq_getR (pc := 94) 46 17 dX7_says_94 s0_40 flX7_46 rfl rfl (by decide) (by decide) ?_
                    refine wp_iload (pc := 97) 4 dX7_says_97 rfl ?_
                    refine wq_iald (pc := 99) 0 dX7_says_99 s0_51 (by decide) rfl (by decide) (by decide) ?_
                    refine wp_int (y := -1) ((hM.2.2.2.2.2.2.2 0 (by decide)).trans (by decide)) ?_
                    refine wp_istore (pc := 100) 4 dX7_says_100 (by decide) rfl ?_
                    refine wp_goto (pc := 102) 81 dX7_says_102 (by decide) ?_
                    refine wp_iload (pc := 81) 4 dX7_says_81 rfl ?_
                    refine wp_iconst (pc := 83) (-1) dX7_says_83 (by decide) ?_
                    refine wp_icmp_eq (pc := 84) 105 dX7_says_84 (by decide) (fun c_84 => ?_) (fun c_84 => ?_)
                    · refine wp_iload (pc := 105) 4 dX7_says_105 rfl ?_
                      refine wp_iconst (pc := 107) (-1) dX7_says_107 (by decide) ?_
                      refine wp_icmp_ne (pc := 108) 120 dX7_says_108 (by decide) (fun c_108 => ?_) (fun c_108 => ?_)
                      · exact absurd (by decide) c_108
                      · refine wp_aload_n (pc := 111) 0 dX7_says_111 rfl rfl ?_
                        refine wp_bipush (pc := 112) (-3) dX7_says_112 (by decide) ?_
                        refine wc_V_I (pc := 114) dX7_says_114 lkX7_81 (sm_Rc.o (ci := 6) s0_40 (by decide) (by decide)) (by decide) (Nat.le_of_ble_eq_true rfl) ?_
                        refine c_X7_no_1 ?_
                        refine wp_goto (pc := 117) 145 dX7_says_117 (by decide) ?_
                        refine wp_iretI (pc := 145) dX7_says_145 rfl ?_
                        rw [if_neg (show ¬ undK 0 5 = true by decide)] at k
                        exact k _ _ _ (hM.bmp (by decide)) (Lo.rf.uI (by decide))
                    · exact absurd (by decide) c_84
            · rcases (show n = 0 ∨ n = 1 ∨ n = 2 ∨ n = 3 ∨ n = 4 ∨ n = 5 by omega) with rfl | rfl | rfl | rfl | rfl | rfl
              · refine wp_iload (pc := 81) 4 dX7_says_81 rfl ?_
                refine wp_iconst (pc := 83) (-1) dX7_says_83 (by decide) ?_
                refine wp_icmp_eq (pc := 84) 105 dX7_says_84 (by decide) (fun c_84 => ?_) (fun c_84 => ?_)
                · exact absurd c_84 (by decide)
                · refine wp_iload (pc := 87) 4 dX7_says_87 rfl ?_
                  refine wp_iload_n (pc := 89) 2 dX7_says_89 rfl rfl ?_
                  refine wp_icmp_eq (pc := 90) 105 dX7_says_90 (by decide) (fun c_90 => ?_) (fun c_90 => ?_)
                  · exact absurd c_90 (by decide)
                  · refine wp_aload_n (pc := 93) 0 dX7_says_93 rfl rfl ?_
                    refine wq_getR (pc := 94) 46 17 dX7_says_94 s0_40 flX7_46 rfl rfl (by decide) (by decide) ?_
                    refine wp_iload (pc := 97) 4 dX7_says_97 rfl ?_
                    refine wq_iald (pc := 99) 1 dX7_says_99 s0_51 (by decide) rfl (by decide) (by decide) ?_
                    refine wp_int (y := 0) ((hM.2.2.2.2.2.2.2 1 (by decide)).trans (by decide)) ?_
                    refine wp_istore (pc := 100) 4 dX7_says_100 (by decide) rfl ?_
                    refine wp_goto (pc := 102) 81 dX7_says_102 (by decide) ?_
                    refine wp_iload (pc := 81) 4 dX7_says_81 rfl ?_
                    refine wp_iconst (pc := 83) (-1) dX7_says_83 (by decide) ?_
                    refine wp_icmp_eq (pc := 84) 105 dX7_says_84 (by decide) (fun c_84 => ?_) (fun c_84 => ?_)
                    · exact absurd c_84 (by decide)
                    · refine wp_iload (pc := 87) 4 dX7_says_87 rfl ?_
                      refine wp_iload_n (pc := 89) 2 dX7_says_89 rfl rfl ?_
                      refine wp_icmp_eq (pc := 90) 105 dX7_says_90 (by decide) (fun c_90 => ?_) (fun c_90 => ?_)
                      · refine wp_iload (pc := 105) 4 dX7_says_105 rfl ?_
                        refine wp_iconst (pc := 107) (-1) dX7_says_107 (by decide) ?_
                        refine wp_icmp_ne (pc := 108) 120 dX7_says_108 (by decide) (fun c_108 => ?_) (fun c_108 => ?_)
                        · refine wp_iload_n (pc := 120) 2 dX7_says_120 rfl rfl ?_
                          refine wp_ifne (pc := 121) 140 dX7_says_121 (by decide) (fun c_121 => ?_) (fun c_121 => ?_)
                          · exact absurd (by decide) c_121
                          · refine wp_aload_n (pc := 124) 0 dX7_says_124 rfl rfl ?_
                            refine wq_getR (pc := 125) 13 0 dX7_says_125 s0_40 flX7_13 rfl rfl (by decide) (by decide) ?_
                            refine wp_bipush (pc := 128) (50) dX7_says_128 (by decide) ?_
                            refine wp_iconst (pc := 130) (3) dX7_says_130 (by decide) ?_
                            refine wp_iload_n (pc := 131) 3 dX7_says_131 rfl rfl ?_
                            refine wp_imul (pc := 132) dX7_says_132 ?_
                            refine wp_iadd (pc := 133) dX7_says_133 ?_
                            refine wp_iconst (pc := 134) (2) dX7_says_134 (by decide) ?_
                            refine wp_iadd (pc := 135) dX7_says_135 ?_
                            refine wq_iald (pc := 136) (50 + 3 * r + 2) dX7_says_136 s0_41 (by decide) ((congrArg (· + 2) (ix3 r)).trans (nI_add _ 2)) (by omega) (by decide) ?_
                            refine wp_int (hR.at (by omega)) ?_
                            refine wp_goto (pc := 137) 145 dX7_says_137 (by decide) ?_
                            refine wp_iretI (pc := 145) dX7_says_145 rfl ?_
                            rw [if_pos (show undK 1 0 = true by decide)] at k
                            rw [if_pos (show nI 0 = 0 from rfl)] at k
                            exact k _ _ _ hM Lo.rf
                        · exact absurd c_108 (by decide)
                      · exact absurd (by decide) c_90
              · refine wp_iload (pc := 81) 4 dX7_says_81 rfl ?_
                refine wp_iconst (pc := 83) (-1) dX7_says_83 (by decide) ?_
                refine wp_icmp_eq (pc := 84) 105 dX7_says_84 (by decide) (fun c_84 => ?_) (fun c_84 => ?_)
                · exact absurd c_84 (by decide)
                · refine wp_iload (pc := 87) 4 dX7_says_87 rfl ?_
                  refine wp_iload_n (pc := 89) 2 dX7_says_89 rfl rfl ?_
                  refine wp_icmp_eq (pc := 90) 105 dX7_says_90 (by decide) (fun c_90 => ?_) (fun c_90 => ?_)
                  · refine wp_iload (pc := 105) 4 dX7_says_105 rfl ?_
                    refine wp_iconst (pc := 107) (-1) dX7_says_107 (by decide) ?_
                    refine wp_icmp_ne (pc := 108) 120 dX7_says_108 (by decide) (fun c_108 => ?_) (fun c_108 => ?_)
                    · refine wp_iload_n (pc := 120) 2 dX7_says_120 rfl rfl ?_
                      refine wp_ifne (pc := 121) 140 dX7_says_121 (by decide) (fun c_121 => ?_) (fun c_121 => ?_)
                      · refine wp_aload_n (pc := 140) 0 dX7_says_140 rfl rfl ?_
                        refine wp_iload_n (pc := 141) 3 dX7_says_141 rfl rfl ?_
                        refine wc_V_I (pc := 142) dX7_says_142 lkX7_158 (sm_Rc.o (ci := 6) s0_40 (by decide) (by decide)) (by decide) (Nat.le_of_ble_eq_true rfl) ?_
                        refine c_X7_slip hw hR hr ?_
                        refine wp_iretI (pc := 145) dX7_says_145 rfl ?_
                        rw [if_pos (show undK 1 1 = true by decide)] at k
                        rw [if_neg (show ¬ nI 1 = 0 by decide)] at k
                        exact k _ _ _ hM Lo.rf
                      · exact absurd c_121 (by decide)
                    · exact absurd c_108 (by decide)
                  · exact absurd (by decide) c_90
              · refine wp_iload (pc := 81) 4 dX7_says_81 rfl ?_
                refine wp_iconst (pc := 83) (-1) dX7_says_83 (by decide) ?_
                refine wp_icmp_eq (pc := 84) 105 dX7_says_84 (by decide) (fun c_84 => ?_) (fun c_84 => ?_)
                · exact absurd c_84 (by decide)
                · refine wp_iload (pc := 87) 4 dX7_says_87 rfl ?_
                  refine wp_iload_n (pc := 89) 2 dX7_says_89 rfl rfl ?_
                  refine wp_icmp_eq (pc := 90) 105 dX7_says_90 (by decide) (fun c_90 => ?_) (fun c_90 => ?_)
                  · exact absurd c_90 (by decide)
                  · refine wp_aload_n (pc := 93) 0 dX7_says_93 rfl rfl ?_
                    refine wq_getR (pc := 94) 46 17 dX7_says_94 s0_40 flX7_46 rfl rfl (by decide) (by decide) ?_
                    refine wp_iload (pc := 97) 4 dX7_says_97 rfl ?_
                    refine wq_iald (pc := 99) 1 dX7_says_99 s0_51 (by decide) rfl (by decide) (by decide) ?_
                    refine wp_int (y := 0) ((hM.2.2.2.2.2.2.2 1 (by decide)).trans (by decide)) ?_
                    refine wp_istore (pc := 100) 4 dX7_says_100 (by decide) rfl ?_
                    refine wp_goto (pc := 102) 81 dX7_says_102 (by decide) ?_
                    refine wp_iload (pc := 81) 4 dX7_says_81 rfl ?_
                    refine wp_iconst (pc := 83) (-1) dX7_says_83 (by decide) ?_
                    refine wp_icmp_eq (pc := 84) 105 dX7_says_84 (by decide) (fun c_84 => ?_) (fun c_84 => ?_)
                    · exact absurd c_84 (by decide)
                    · refine wp_iload (pc := 87) 4 dX7_says_87 rfl ?_
                      refine wp_iload_n (pc := 89) 2 dX7_says_89 rfl rfl ?_
                      refine wp_icmp_eq (pc := 90) 105 dX7_says_90 (by decide) (fun c_90 => ?_) (fun c_90 => ?_)
                      · exact absurd c_90 (by decide)
                      · refine wp_aload_n (pc := 93) 0 dX7_says_93 rfl rfl ?_
                        refine wq_getR (pc := 94) 46 17 dX7_says_94 s0_40 flX7_46 rfl rfl (by decide) (by decide) ?_
                        refine wp_iload (pc := 97) 4 dX7_says_97 rfl ?_
                        refine wq_iald (pc := 99) 0 dX7_says_99 s0_51 (by decide) rfl (by decide) (by decide) ?_
                        refine wp_int (y := -1) ((hM.2.2.2.2.2.2.2 0 (by decide)).trans (by decide)) ?_
                        refine wp_istore (pc := 100) 4 dX7_says_100 (by decide) rfl ?_
                        refine wp_goto (pc := 102) 81 dX7_says_102 (by decide) ?_
                        refine wp_iload (pc := 81) 4 dX7_says_81 rfl ?_
                        refine wp_iconst (pc := 83) (-1) dX7_says_83 (by decide) ?_
                        refine wp_icmp_eq (pc := 84) 105 dX7_says_84 (by decide) (fun c_84 => ?_) (fun c_84 => ?_)
                        · refine wp_iload (pc := 105) 4 dX7_says_105 rfl ?_
                          refine wp_iconst (pc := 107) (-1) dX7_says_107 (by decide) ?_
                          refine wp_icmp_ne (pc := 108) 120 dX7_says_108 (by decide) (fun c_108 => ?_) (fun c_108 => ?_)
                          · exact absurd (by decide) c_108
                          · refine wp_aload_n (pc := 111) 0 dX7_says_111 rfl rfl ?_
                            refine wp_bipush (pc := 112) (-3) dX7_says_112 (by decide) ?_
                            refine wc_V_I (pc := 114) dX7_says_114 lkX7_81 (sm_Rc.o (ci := 6) s0_40 (by decide) (by decide)) (by decide) (Nat.le_of_ble_eq_true rfl) ?_
                            refine c_X7_no_1 ?_
                            refine wp_goto (pc := 117) 145 dX7_says_117 (by decide) ?_
                            refine wp_iretI (pc := 145) dX7_says_145 rfl ?_
                            rw [if_neg (show ¬ undK 1 2 = true by decide)] at k
                            exact k _ _ _ (hM.bmp (by decide)) (Lo.rf.uI (by decide))
                        · exact absurd (by decide) c_84
              · refine wp_iload (pc := 81) 4 dX7_says_81 rfl ?_
                refine wp_iconst (pc := 83) (-1) dX7_says_83 (by decide) ?_
                refine wp_icmp_eq (pc := 84) 105 dX7_says_84 (by decide) (fun c_84 => ?_) (fun c_84 => ?_)
                · exact absurd c_84 (by decide)
                · refine wp_iload (pc := 87) 4 dX7_says_87 rfl ?_
                  refine wp_iload_n (pc := 89) 2 dX7_says_89 rfl rfl ?_
                  refine wp_icmp_eq (pc := 90) 105 dX7_says_90 (by decide) (fun c_90 => ?_) (fun c_90 => ?_)
                  · exact absurd c_90 (by decide)
                  · refine wp_aload_n (pc := 93) 0 dX7_says_93 rfl rfl ?_
                    refine wq_getR (pc := 94) 46 17 dX7_says_94 s0_40 flX7_46 rfl rfl (by decide) (by decide) ?_
                    refine wp_iload (pc := 97) 4 dX7_says_97 rfl ?_
                    refine wq_iald (pc := 99) 1 dX7_says_99 s0_51 (by decide) rfl (by decide) (by decide) ?_
                    refine wp_int (y := 0) ((hM.2.2.2.2.2.2.2 1 (by decide)).trans (by decide)) ?_
                    refine wp_istore (pc := 100) 4 dX7_says_100 (by decide) rfl ?_
                    refine wp_goto (pc := 102) 81 dX7_says_102 (by decide) ?_
                    refine wp_iload (pc := 81) 4 dX7_says_81 rfl ?_
                    refine wp_iconst (pc := 83) (-1) dX7_says_83 (by decide) ?_
                    refine wp_icmp_eq (pc := 84) 105 dX7_says_84 (by decide) (fun c_84 => ?_) (fun c_84 => ?_)
                    · exact absurd c_84 (by decide)
                    · refine wp_iload (pc := 87) 4 dX7_says_87 rfl ?_
                      refine wp_iload_n (pc := 89) 2 dX7_says_89 rfl rfl ?_
                      refine wp_icmp_eq (pc := 90) 105 dX7_says_90 (by decide) (fun c_90 => ?_) (fun c_90 => ?_)
                      · exact absurd c_90 (by decide)
                      · refine wp_aload_n (pc := 93) 0 dX7_says_93 rfl rfl ?_
                        refine wq_getR (pc := 94) 46 17 dX7_says_94 s0_40 flX7_46 rfl rfl (by decide) (by decide) ?_
                        refine wp_iload (pc := 97) 4 dX7_says_97 rfl ?_
                        refine wq_iald (pc := 99) 0 dX7_says_99 s0_51 (by decide) rfl (by decide) (by decide) ?_
                        refine wp_int (y := -1) ((hM.2.2.2.2.2.2.2 0 (by decide)).trans (by decide)) ?_
                        refine wp_istore (pc := 100) 4 dX7_says_100 (by decide) rfl ?_
                        refine wp_goto (pc := 102) 81 dX7_says_102 (by decide) ?_
                        refine wp_iload (pc := 81) 4 dX7_says_81 rfl ?_
                        refine wp_iconst (pc := 83) (-1) dX7_says_83 (by decide) ?_
                        refine wp_icmp_eq (pc := 84) 105 dX7_says_84 (by decide) (fun c_84 => ?_) (fun c_84 => ?_)
                        · refine wp_iload (pc := 105) 4 dX7_says_105 rfl ?_
                          refine wp_iconst (pc := 107) (-1) dX7_says_107 (by decide) ?_
                          refine wp_icmp_ne (pc := 108) 120 dX7_says_108 (by decide) (fun c_108 => ?_) (fun c_108 => ?_)
                          · exact absurd (by decide) c_108
                          · refine wp_aload_n (pc := 111) 0 dX7_says_111 rfl rfl ?_
                            refine wp_bipush (pc := 112) (-3) dX7_says_112 (by decide) ?_
                            refine wc_V_I (pc := 114) dX7_says_114 lkX7_81 (sm_Rc.o (ci := 6) s0_40 (by decide) (by decide)) (by decide) (Nat.le_of_ble_eq_true rfl) ?_
                            refine c_X7_no_1 ?_
                            refine wp_goto (pc := 117) 145 dX7_says_117 (by decide) ?_
                            refine wp_iretI (pc := 145) dX7_says_145 rfl ?_
                            rw [if_neg (show ¬ undK 1 3 = true by decide)] at k
                            exact k _ _ _ (hM.bmp (by decide)) (Lo.rf.uI (by decide))
                        · exact absurd (by decide) c_84
              · refine wp_iload (pc := 81) 4 dX7_says_81 rfl ?_
                refine wp_iconst (pc := 83) (-1) dX7_says_83 (by decide) ?_
                refine wp_icmp_eq (pc := 84) 105 dX7_says_84 (by decide) (fun c_84 => ?_) (fun c_84 => ?_)
                · exact absurd c_84 (by decide)
                · refine wp_iload (pc := 87) 4 dX7_says_87 rfl ?_
                  refine wp_iload_n (pc := 89) 2 dX7_says_89 rfl rfl ?_
                  refine wp_icmp_eq (pc := 90) 105 dX7_says_90 (by decide) (fun c_90 => ?_) (fun c_90 => ?_)
                  · exact absurd c_90 (by decide)
                  · refine wp_aload_n (pc := 93) 0 dX7_says_93 rfl rfl ?_
                    refine wq_getR (pc := 94) 46 17 dX7_says_94 s0_40 flX7_46 rfl rfl (by decide) (by decide) ?_
                    refine wp_iload (pc := 97) 4 dX7_says_97 rfl ?_
                    refine wq_iald (pc := 99) 1 dX7_says_99 s0_51 (by decide) rfl (by decide) (by decide) ?_
                    refine wp_int (y := 0) ((hM.2.2.2.2.2.2.2 1 (by decide)).trans (by decide)) ?_
                    refine wp_istore (pc := 100) 4 dX7_says_100 (by decide) rfl ?_
                    refine wp_goto (pc := 102) 81 dX7_says_102 (by decide) ?_
                    refine wp_iload (pc := 81) 4 dX7_says_81 rfl ?_
                    refine wp_iconst (pc := 83) (-1) dX7_says_83 (by decide) ?_
                    refine wp_icmp_eq (pc := 84) 105 dX7_says_84 (by decide) (fun c_84 => ?_) (fun c_84 => ?_)
                    · exact absurd c_84 (by decide)
                    · refine wp_iload (pc := 87) 4 dX7_says_87 rfl ?_
                      refine wp_iload_n (pc := 89) 2 dX7_says_89 rfl rfl ?_
                      refine wp_icmp_eq (pc := 90) 105 dX7_says_90 (by decide) (fun c_90 => ?_) (fun c_90 => ?_)
                      · exact absurd c_90 (by decide)
                      · refine wp_aload_n (pc := 93) 0 dX7_says_93 rfl rfl ?_
                        refine wq_getR (pc := 94) 46 17 dX7_says_94 s0_40 flX7_46 rfl rfl (by decide) (by decide) ?_
                        refine wp_iload (pc := 97) 4 dX7_says_97 rfl ?_
                        refine wq_iald (pc := 99) 0 dX7_says_99 s0_51 (by decide) rfl (by decide) (by decide) ?_
                        refine wp_int (y := -1) ((hM.2.2.2.2.2.2.2 0 (by decide)).trans (by decide)) ?_
                        refine wp_istore (pc := 100) 4 dX7_says_100 (by decide) rfl ?_
                        refine wp_goto (pc := 102) 81 dX7_says_102 (by decide) ?_
                        refine wp_iload (pc := 81) 4 dX7_says_81 rfl ?_
                        refine wp_iconst (pc := 83) (-1) dX7_says_83 (by decide) ?_
                        refine wp_icmp_eq (pc := 84) 105 dX7_says_84 (by decide) (fun c_84 => ?_) (fun c_84 => ?_)
                        · refine wp_iload (pc := 105) 4 dX7_says_105 rfl ?_
                          refine wp_iconst (pc := 107) (-1) dX7_says_107 (by decide) ?_
                          refine wp_icmp_ne (pc := 108) 120 dX7_says_108 (by decide) (fun c_108 => ?_) (fun c_108 => ?_)
                          · exact absurd (by decide) c_108
                          · refine wp_aload_n (pc := 111) 0 dX7_says_111 rfl rfl ?_
                            refine wp_bipush (pc := 112) (-3) dX7_says_112 (by decide) ?_
                            refine wc_V_I (pc := 114) dX7_says_114 lkX7_81 (sm_Rc.o (ci := 6) s0_40 (by decide) (by decide)) (by decide) (Nat.le_of_ble_eq_true rfl) ?_
                            refine c_X7_no_1 ?_
                            refine wp_goto (pc := 117) 145 dX7_says_117 (by decide) ?_
                            refine wp_iretI (pc := 145) dX7_says_145 rfl ?_
                            rw [if_neg (show ¬ undK 1 4 = true by decide)] at k
                            exact k _ _ _ (hM.bmp (by decide)) (Lo.rf.uI (by decide))
                        · exact absurd (by decide) c_84
              · refine wp_iload (pc := 81) 4 dX7_says_81 rfl ?_
                refine wp_iconst (pc := 83) (-1) dX7_says_83 (by decide) ?_
                refine wp_icmp_eq (pc := 84) 105 dX7_says_84 (by decide) (fun c_84 => ?_) (fun c_84 => ?_)
                · exact absurd c_84 (by decide)
                · refine wp_iload (pc := 87) 4 dX7_says_87 rfl ?_
                  refine wp_iload_n (pc := 89) 2 dX7_says_89 rfl rfl ?_
                  refine wp_icmp_eq (pc := 90) 105 dX7_says_90 (by decide) (fun c_90 => ?_) (fun c_90 => ?_)
                  · exact absurd c_90 (by decide)
                  · refine wp_aload_n (pc := 93) 0 dX7_says_93 rfl rfl ?_
                    refine wq_getR (pc := 94) 46 17 dX7_says_94 s0_40 flX7_46 rfl rfl (by decide) (by decide) ?_
                    refine wp_iload (pc := 97) 4 dX7_says_97 rfl ?_
                    refine wq_iald (pc := 99) 1 dX7_says_99 s0_51 (by decide) rfl (by decide) (by decide) ?_
                    refine wp_int (y := 0) ((hM.2.2.2.2.2.2.2 1 (by decide)).trans (by decide)) ?_
                    refine wp_istore (pc := 100) 4 dX7_says_100 (by decide) rfl ?_
                    refine wp_goto (pc := 102) 81 dX7_says_102 (by decide) ?_
                    refine wp_iload (pc := 81) 4 dX7_says_81 rfl ?_
                    refine wp_iconst (pc := 83) (-1) dX7_says_83 (by decide) ?_
                    refine wp_icmp_eq (pc := 84) 105 dX7_says_84 (by decide) (fun c_84 => ?_) (fun c_84 => ?_)
                    · exact absurd c_84 (by decide)
                    · refine wp_iload (pc := 87) 4 dX7_says_87 rfl ?_
                      refine wp_iload_n (pc := 89) 2 dX7_says_89 rfl rfl ?_
                      refine wp_icmp_eq (pc := 90) 105 dX7_says_90 (by decide) (fun c_90 => ?_) (fun c_90 => ?_)
                      · exact absurd c_90 (by decide)
                      · refine wp_aload_n (pc := 93) 0 dX7_says_93 rfl rfl ?_
                        refine wq_getR (pc := 94) 46 17 dX7_says_94 s0_40 flX7_46 rfl rfl (by decide) (by decide) ?_
                        refine wp_iload (pc := 97) 4 dX7_says_97 rfl ?_
                        refine wq_iald (pc := 99) 0 dX7_says_99 s0_51 (by decide) rfl (by decide) (by decide) ?_
                        refine wp_int (y := -1) ((hM.2.2.2.2.2.2.2 0 (by decide)).trans (by decide)) ?_
                        refine wp_istore (pc := 100) 4 dX7_says_100 (by decide) rfl ?_
                        refine wp_goto (pc := 102) 81 dX7_says_102 (by decide) ?_
                        refine wp_iload (pc := 81) 4 dX7_says_81 rfl ?_
                        refine wp_iconst (pc := 83) (-1) dX7_says_83 (by decide) ?_
                        refine wp_icmp_eq (pc := 84) 105 dX7_says_84 (by decide) (fun c_84 => ?_) (fun c_84 => ?_)
                        · refine wp_iload (pc := 105) 4 dX7_says_105 rfl ?_
                          refine wp_iconst (pc := 107) (-1) dX7_says_107 (by decide) ?_
                          refine wp_icmp_ne (pc := 108) 120 dX7_says_108 (by decide) (fun c_108 => ?_) (fun c_108 => ?_)
                          · exact absurd (by decide) c_108
                          · refine wp_aload_n (pc := 111) 0 dX7_says_111 rfl rfl ?_
                            refine wp_bipush (pc := 112) (-3) dX7_says_112 (by decide) ?_
                            refine wc_V_I (pc := 114) dX7_says_114 lkX7_81 (sm_Rc.o (ci := 6) s0_40 (by decide) (by decide)) (by decide) (Nat.le_of_ble_eq_true rfl) ?_
                            refine c_X7_no_1 ?_
                            refine wp_goto (pc := 117) 145 dX7_says_117 (by decide) ?_
                            refine wp_iretI (pc := 145) dX7_says_145 rfl ?_
                            rw [if_neg (show ¬ undK 1 5 = true by decide)] at k
                            exact k _ _ _ (hM.bmp (by decide)) (Lo.rf.uI (by decide))
                        · exact absurd (by decide) c_84
            · rcases (show n = 0 ∨ n = 1 ∨ n = 2 ∨ n = 3 ∨ n = 4 ∨ n = 5 by omega) with rfl | rfl | rfl | rfl | rfl | rfl
              · refine wp_iload (pc := 81) 4 dX7_says_81 rfl ?_
                refine wp_iconst (pc := 83) (-1) dX7_says_83 (by decide) ?_
                refine wp_icmp_eq (pc := 84) 105 dX7_says_84 (by decide) (fun c_84 => ?_) (fun c_84 => ?_)
                · exact absurd c_84 (by decide)
                · refine wp_iload (pc := 87) 4 dX7_says_87 rfl ?_
                  refine wp_iload_n (pc := 89) 2 dX7_says_89 rfl rfl ?_
                  refine wp_icmp_eq (pc := 90) 105 dX7_says_90 (by decide) (fun c_90 => ?_) (fun c_90 => ?_)
                  · exact absurd c_90 (by decide)
                  · refine wp_aload_n (pc := 93) 0 dX7_says_93 rfl rfl ?_
                    refine wq_getR (pc := 94) 46 17 dX7_says_94 s0_40 flX7_46 rfl rfl (by decide) (by decide) ?_
                    refine wp_iload (pc := 97) 4 dX7_says_97 rfl ?_
                    refine wq_iald (pc := 99) 2 dX7_says_99 s0_51 (by decide) rfl (by decide) (by decide) ?_
                    refine wp_int (y := 0) ((hM.2.2.2.2.2.2.2 2 (by decide)).trans (by decide)) ?_
                    refine wp_istore (pc := 100) 4 dX7_says_100 (by decide) rfl ?_
                    refine wp_goto (pc := 102) 81 dX7_says_102 (by decide) ?_
                    refine wp_iload (pc := 81) 4 dX7_says_81 rfl ?_
                    refine wp_iconst (pc := 83) (-1) dX7_says_83 (by decide) ?_
                    refine wp_icmp_eq (pc := 84) 105 dX7_says_84 (by decide) (fun c_84 => ?_) (fun c_84 => ?_)
                    · exact absurd c_84 (by decide)
                    · refine wp_iload (pc := 87) 4 dX7_says_87 rfl ?_
                      refine wp_iload_n (pc := 89) 2 dX7_says_89 rfl rfl ?_
                      refine wp_icmp_eq (pc := 90) 105 dX7_says_90 (by decide) (fun c_90 => ?_) (fun c_90 => ?_)
                      · refine wp_iload (pc := 105) 4 dX7_says_105 rfl ?_
                        refine wp_iconst (pc := 107) (-1) dX7_says_107 (by decide) ?_
                        refine wp_icmp_ne (pc := 108) 120 dX7_says_108 (by decide) (fun c_108 => ?_) (fun c_108 => ?_)
                        · refine wp_iload_n (pc := 120) 2 dX7_says_120 rfl rfl ?_
                          refine wp_ifne (pc := 121) 140 dX7_says_121 (by decide) (fun c_121 => ?_) (fun c_121 => ?_)
                          · exact absurd (by decide) c_121
                          · refine wp_aload_n (pc := 124) 0 dX7_says_124 rfl rfl ?_
                            refine wq_getR (pc := 125) 13 0 dX7_says_125 s0_40 flX7_13 rfl rfl (by decide) (by decide) ?_
                            refine wp_bipush (pc := 128) (50) dX7_says_128 (by decide) ?_
                            refine wp_iconst (pc := 130) (3) dX7_says_130 (by decide) ?_
                            refine wp_iload_n (pc := 131) 3 dX7_says_131 rfl rfl ?_
                            refine wp_imul (pc := 132) dX7_says_132 ?_
                            refine wp_iadd (pc := 133) dX7_says_133 ?_
                            refine wp_iconst (pc := 134) (2) dX7_says_134 (by decide) ?_
                            refine wp_iadd (pc := 135) dX7_says_135 ?_
                            refine wq_iald (pc := 136) (50 + 3 * r + 2) dX7_says_136 s0_41 (by decide) ((congrArg (· + 2) (ix3 r)).trans (nI_add _ 2)) (by omega) (by decide) ?_
                            refine wp_int (hR.at (by omega)) ?_
                            refine wp_goto (pc := 137) 145 dX7_says_137 (by decide) ?_
                            refine wp_iretI (pc := 145) dX7_says_145 rfl ?_
                            rw [if_pos (show undK 2 0 = true by decide)] at k
                            rw [if_pos (show nI 0 = 0 from rfl)] at k
                            exact k _ _ _ hM Lo.rf
                        · exact absurd c_108 (by decide)
                      · exact absurd (by decide) c_90
              · refine wp_iload (pc := 81) 4 dX7_says_81 rfl ?_
                refine wp_iconst (pc := 83) (-1) dX7_says_83 (by decide) ?_
                refine wp_icmp_eq (pc := 84) 105 dX7_says_84 (by decide) (fun c_84 => ?_) (fun c_84 => ?_)
                · exact absurd c_84 (by decide)
                · refine wp_iload (pc := 87) 4 dX7_says_87 rfl ?_
                  refine wp_iload_n (pc := 89) 2 dX7_says_89 rfl rfl ?_
                  refine wp_icmp_eq (pc := 90) 105 dX7_says_90 (by decide) (fun c_90 => ?_) (fun c_90 => ?_)
                  · exact absurd c_90 (by decide)
                  · refine wp_aload_n (pc := 93) 0 dX7_says_93 rfl rfl ?_
                    refine wq_getR (pc := 94) 46 17 dX7_says_94 s0_40 flX7_46 rfl rfl (by decide) (by decide) ?_
                    refine wp_iload (pc := 97) 4 dX7_says_97 rfl ?_
                    refine wq_iald (pc := 99) 2 dX7_says_99 s0_51 (by decide) rfl (by decide) (by decide) ?_
                    refine wp_int (y := 0) ((hM.2.2.2.2.2.2.2 2 (by decide)).trans (by decide)) ?_
                    refine wp_istore (pc := 100) 4 dX7_says_100 (by decide) rfl ?_
                    refine wp_goto (pc := 102) 81 dX7_says_102 (by decide) ?_
                    refine wp_iload (pc := 81) 4 dX7_says_81 rfl ?_
                    refine wp_iconst (pc := 83) (-1) dX7_says_83 (by decide) ?_
                    refine wp_icmp_eq (pc := 84) 105 dX7_says_84 (by decide) (fun c_84 => ?_) (fun c_84 => ?_)
                    · exact absurd c_84 (by decide)
                    · refine wp_iload (pc := 87) 4 dX7_says_87 rfl ?_
                      refine wp_iload_n (pc := 89) 2 dX7_says_89 rfl rfl ?_
                      refine wp_icmp_eq (pc := 90) 105 dX7_says_90 (by decide) (fun c_90 => ?_) (fun c_90 => ?_)
                      · exact absurd c_90 (by decide)
                      · refine wp_aload_n (pc := 93) 0 dX7_says_93 rfl rfl ?_
                        refine wq_getR (pc := 94) 46 17 dX7_says_94 s0_40 flX7_46 rfl rfl (by decide) (by decide) ?_
                        refine wp_iload (pc := 97) 4 dX7_says_97 rfl ?_
                        refine wq_iald (pc := 99) 0 dX7_says_99 s0_51 (by decide) rfl (by decide) (by decide) ?_
                        refine wp_int (y := -1) ((hM.2.2.2.2.2.2.2 0 (by decide)).trans (by decide)) ?_
                        refine wp_istore (pc := 100) 4 dX7_says_100 (by decide) rfl ?_
                        refine wp_goto (pc := 102) 81 dX7_says_102 (by decide) ?_
                        refine wp_iload (pc := 81) 4 dX7_says_81 rfl ?_
                        refine wp_iconst (pc := 83) (-1) dX7_says_83 (by decide) ?_
                        refine wp_icmp_eq (pc := 84) 105 dX7_says_84 (by decide) (fun c_84 => ?_) (fun c_84 => ?_)
                        · refine wp_iload (pc := 105) 4 dX7_says_105 rfl ?_
                          refine wp_iconst (pc := 107) (-1) dX7_says_107 (by decide) ?_
                          refine wp_icmp_ne (pc := 108) 120 dX7_says_108 (by decide) (fun c_108 => ?_) (fun c_108 => ?_)
                          · exact absurd (by decide) c_108
                          · refine wp_aload_n (pc := 111) 0 dX7_says_111 rfl rfl ?_
                            refine wp_bipush (pc := 112) (-3) dX7_says_112 (by decide) ?_
                            refine wc_V_I (pc := 114) dX7_says_114 lkX7_81 (sm_Rc.o (ci := 6) s0_40 (by decide) (by decide)) (by decide) (Nat.le_of_ble_eq_true rfl) ?_
                            refine c_X7_no_1 ?_
                            refine wp_goto (pc := 117) 145 dX7_says_117 (by decide) ?_
                            refine wp_iretI (pc := 145) dX7_says_145 rfl ?_
                            rw [if_neg (show ¬ undK 2 1 = true by decide)] at k
                            exact k _ _ _ (hM.bmp (by decide)) (Lo.rf.uI (by decide))
                        · exact absurd (by decide) c_84
              · refine wp_iload (pc := 81) 4 dX7_says_81 rfl ?_
                refine wp_iconst (pc := 83) (-1) dX7_says_83 (by decide) ?_
                refine wp_icmp_eq (pc := 84) 105 dX7_says_84 (by decide) (fun c_84 => ?_) (fun c_84 => ?_)
                · exact absurd c_84 (by decide)
                · refine wp_iload (pc := 87) 4 dX7_says_87 rfl ?_
                  refine wp_iload_n (pc := 89) 2 dX7_says_89 rfl rfl ?_
                  refine wp_icmp_eq (pc := 90) 105 dX7_says_90 (by decide) (fun c_90 => ?_) (fun c_90 => ?_)
                  · refine wp_iload (pc := 105) 4 dX7_says_105 rfl ?_
                    refine wp_iconst (pc := 107) (-1) dX7_says_107 (by decide) ?_
                    refine wp_icmp_ne (pc := 108) 120 dX7_says_108 (by decide) (fun c_108 => ?_) (fun c_108 => ?_)
                    · refine wp_iload_n (pc := 120) 2 dX7_says_120 rfl rfl ?_
                      refine wp_ifne (pc := 121) 140 dX7_says_121 (by decide) (fun c_121 => ?_) (fun c_121 => ?_)
                      · refine wp_aload_n (pc := 140) 0 dX7_says_140 rfl rfl ?_
                        refine wp_iload_n (pc := 141) 3 dX7_says_141 rfl rfl ?_
                        refine wc_V_I (pc := 142) dX7_says_142 lkX7_158 (sm_Rc.o (ci := 6) s0_40 (by decide) (by decide)) (by decide) (Nat.le_of_ble_eq_true rfl) ?_
                        refine c_X7_slip hw hR hr ?_
                        refine wp_iretI (pc := 145) dX7_says_145 rfl ?_
                        rw [if_pos (show undK 2 2 = true by decide)] at k
                        rw [if_neg (show ¬ nI 2 = 0 by decide)] at k
                        exact k _ _ _ hM Lo.rf
                      · exact absurd c_121 (by decide)
                    · exact absurd c_108 (by decide)
                  · exact absurd (by decide) c_90
              · refine wp_iload (pc := 81) 4 dX7_says_81 rfl ?_
                refine wp_iconst (pc := 83) (-1) dX7_says_83 (by decide) ?_
                refine wp_icmp_eq (pc := 84) 105 dX7_says_84 (by decide) (fun c_84 => ?_) (fun c_84 => ?_)
                · exact absurd c_84 (by decide)
                · refine wp_iload (pc := 87) 4 dX7_says_87 rfl ?_
                  refine wp_iload_n (pc := 89) 2 dX7_says_89 rfl rfl ?_
                  refine wp_icmp_eq (pc := 90) 105 dX7_says_90 (by decide) (fun c_90 => ?_) (fun c_90 => ?_)
                  · exact absurd c_90 (by decide)
                  · refine wp_aload_n (pc := 93) 0 dX7_says_93 rfl rfl ?_
                    refine wq_getR (pc := 94) 46 17 dX7_says_94 s0_40 flX7_46 rfl rfl (by decide) (by decide) ?_
                    refine wp_iload (pc := 97) 4 dX7_says_97 rfl ?_
                    refine wq_iald (pc := 99) 2 dX7_says_99 s0_51 (by decide) rfl (by decide) (by decide) ?_
                    refine wp_int (y := 0) ((hM.2.2.2.2.2.2.2 2 (by decide)).trans (by decide)) ?_
                    refine wp_istore (pc := 100) 4 dX7_says_100 (by decide) rfl ?_
                    refine wp_goto (pc := 102) 81 dX7_says_102 (by decide) ?_
                    refine wp_iload (pc := 81) 4 dX7_says_81 rfl ?_
                    refine wp_iconst (pc := 83) (-1) dX7_says_83 (by decide) ?_
                    refine wp_icmp_eq (pc := 84) 105 dX7_says_84 (by decide) (fun c_84 => ?_) (fun c_84 => ?_)
                    · exact absurd c_84 (by decide)
                    · refine wp_iload (pc := 87) 4 dX7_says_87 rfl ?_
                      refine wp_iload_n (pc := 89) 2 dX7_says_89 rfl rfl ?_
                      refine wp_icmp_eq (pc := 90) 105 dX7_says_90 (by decide) (fun c_90 => ?_) (fun c_90 => ?_)
                      · exact absurd c_90 (by decide)
                      · refine wp_aload_n (pc := 93) 0 dX7_says_93 rfl rfl ?_
                        refine wq_getR (pc := 94) 46 17 dX7_says_94 s0_40 flX7_46 rfl rfl (by decide) (by decide) ?_
                        refine wp_iload (pc := 97) 4 dX7_says_97 rfl ?_
                        refine wq_iald (pc := 99) 0 dX7_says_99 s0_51 (by decide) rfl (by decide) (by decide) ?_
                        refine wp_int (y := -1) ((hM.2.2.2.2.2.2.2 0 (by decide)).trans (by decide)) ?_
                        refine wp_istore (pc := 100) 4 dX7_says_100 (by decide) rfl ?_
                        refine wp_goto (pc := 102) 81 dX7_says_102 (by decide) ?_
                        refine wp_iload (pc := 81) 4 dX7_says_81 rfl ?_
                        refine wp_iconst (pc := 83) (-1) dX7_says_83 (by decide) ?_
                        refine wp_icmp_eq (pc := 84) 105 dX7_says_84 (by decide) (fun c_84 => ?_) (fun c_84 => ?_)
                        · refine wp_iload (pc := 105) 4 dX7_says_105 rfl ?_
                          refine wp_iconst (pc := 107) (-1) dX7_says_107 (by decide) ?_
                          refine wp_icmp_ne (pc := 108) 120 dX7_says_108 (by decide) (fun c_108 => ?_) (fun c_108 => ?_)
                          · exact absurd (by decide) c_108
                          · refine wp_aload_n (pc := 111) 0 dX7_says_111 rfl rfl ?_
                            refine wp_bipush (pc := 112) (-3) dX7_says_112 (by decide) ?_
                            refine wc_V_I (pc := 114) dX7_says_114 lkX7_81 (sm_Rc.o (ci := 6) s0_40 (by decide) (by decide)) (by decide) (Nat.le_of_ble_eq_true rfl) ?_
                            refine c_X7_no_1 ?_
                            refine wp_goto (pc := 117) 145 dX7_says_117 (by decide) ?_
                            refine wp_iretI (pc := 145) dX7_says_145 rfl ?_
                            rw [if_neg (show ¬ undK 2 3 = true by decide)] at k
                            exact k _ _ _ (hM.bmp (by decide)) (Lo.rf.uI (by decide))
                        · exact absurd (by decide) c_84
              · refine wp_iload (pc := 81) 4 dX7_says_81 rfl ?_
                refine wp_iconst (pc := 83) (-1) dX7_says_83 (by decide) ?_
                refine wp_icmp_eq (pc := 84) 105 dX7_says_84 (by decide) (fun c_84 => ?_) (fun c_84 => ?_)
                · exact absurd c_84 (by decide)
                · refine wp_iload (pc := 87) 4 dX7_says_87 rfl ?_
                  refine wp_iload_n (pc := 89) 2 dX7_says_89 rfl rfl ?_
                  refine wp_icmp_eq (pc := 90) 105 dX7_says_90 (by decide) (fun c_90 => ?_) (fun c_90 => ?_)
                  · exact absurd c_90 (by decide)
                  · refine wp_aload_n (pc := 93) 0 dX7_says_93 rfl rfl ?_
                    refine wq_getR (pc := 94) 46 17 dX7_says_94 s0_40 flX7_46 rfl rfl (by decide) (by decide) ?_
                    refine wp_iload (pc := 97) 4 dX7_says_97 rfl ?_
                    refine wq_iald (pc := 99) 2 dX7_says_99 s0_51 (by decide) rfl (by decide) (by decide) ?_
                    refine wp_int (y := 0) ((hM.2.2.2.2.2.2.2 2 (by decide)).trans (by decide)) ?_
                    refine wp_istore (pc := 100) 4 dX7_says_100 (by decide) rfl ?_
                    refine wp_goto (pc := 102) 81 dX7_says_102 (by decide) ?_
                    refine wp_iload (pc := 81) 4 dX7_says_81 rfl ?_
                    refine wp_iconst (pc := 83) (-1) dX7_says_83 (by decide) ?_
                    refine wp_icmp_eq (pc := 84) 105 dX7_says_84 (by decide) (fun c_84 => ?_) (fun c_84 => ?_)
                    · exact absurd c_84 (by decide)
                    · refine wp_iload (pc := 87) 4 dX7_says_87 rfl ?_
                      refine wp_iload_n (pc := 89) 2 dX7_says_89 rfl rfl ?_
                      refine wp_icmp_eq (pc := 90) 105 dX7_says_90 (by decide) (fun c_90 => ?_) (fun c_90 => ?_)
                      · exact absurd c_90 (by decide)
                      · refine wp_aload_n (pc := 93) 0 dX7_says_93 rfl rfl ?_
                        refine wq_getR (pc := 94) 46 17 dX7_says_94 s0_40 flX7_46 rfl rfl (by decide) (by decide) ?_
                        refine wp_iload (pc := 97) 4 dX7_says_97 rfl ?_
                        refine wq_iald (pc := 99) 0 dX7_says_99 s0_51 (by decide) rfl (by decide) (by decide) ?_
                        refine wp_int (y := -1) ((hM.2.2.2.2.2.2.2 0 (by decide)).trans (by decide)) ?_
                        refine wp_istore (pc := 100) 4 dX7_says_100 (by decide) rfl ?_
                        refine wp_goto (pc := 102) 81 dX7_says_102 (by decide) ?_
                        refine wp_iload (pc := 81) 4 dX7_says_81 rfl ?_
                        refine wp_iconst (pc := 83) (-1) dX7_says_83 (by decide) ?_
                        refine wp_icmp_eq (pc := 84) 105 dX7_says_84 (by decide) (fun c_84 => ?_) (fun c_84 => ?_)
                        · refine wp_iload (pc := 105) 4 dX7_says_105 rfl ?_
                          refine wp_iconst (pc := 107) (-1) dX7_says_107 (by decide) ?_
                          refine wp_icmp_ne (pc := 108) 120 dX7_says_108 (by decide) (fun c_108 => ?_) (fun c_108 => ?_)
                          · exact absurd (by decide) c_108
                          · refine wp_aload_n (pc := 111) 0 dX7_says_111 rfl rfl ?_
                            refine wp_bipush (pc := 112) (-3) dX7_says_112 (by decide) ?_
                            refine wc_V_I (pc := 114) dX7_says_114 lkX7_81 (sm_Rc.o (ci := 6) s0_40 (by decide) (by decide)) (by decide) (Nat.le_of_ble_eq_true rfl) ?_
                            refine c_X7_no_1 ?_
                            refine wp_goto (pc := 117) 145 dX7_says_117 (by decide) ?_
                            refine wp_iretI (pc := 145) dX7_says_145 rfl ?_
                            rw [if_neg (show ¬ undK 2 4 = true by decide)] at k
                            exact k _ _ _ (hM.bmp (by decide)) (Lo.rf.uI (by decide))
                        · exact absurd (by decide) c_84
              · refine wp_iload (pc := 81) 4 dX7_says_81 rfl ?_
                refine wp_iconst (pc := 83) (-1) dX7_says_83 (by decide) ?_
                refine wp_icmp_eq (pc := 84) 105 dX7_says_84 (by decide) (fun c_84 => ?_) (fun c_84 => ?_)
                · exact absurd c_84 (by decide)
                · refine wp_iload (pc := 87) 4 dX7_says_87 rfl ?_
                  refine wp_iload_n (pc := 89) 2 dX7_says_89 rfl rfl ?_
                  refine wp_icmp_eq (pc := 90) 105 dX7_says_90 (by decide) (fun c_90 => ?_) (fun c_90 => ?_)
                  · exact absurd c_90 (by decide)
                  · refine wp_aload_n (pc := 93) 0 dX7_says_93 rfl rfl ?_
                    refine wq_getR (pc := 94) 46 17 dX7_says_94 s0_40 flX7_46 rfl rfl (by decide) (by decide) ?_
                    refine wp_iload (pc := 97) 4 dX7_says_97 rfl ?_
                    refine wq_iald (pc := 99) 2 dX7_says_99 s0_51 (by decide) rfl (by decide) (by decide) ?_
                    refine wp_int (y := 0) ((hM.2.2.2.2.2.2.2 2 (by decide)).trans (by decide)) ?_
                    refine wp_istore (pc := 100) 4 dX7_says_100 (by decide) rfl ?_
                    refine wp_goto (pc := 102) 81 dX7_says_102 (by decide) ?_
                    refine wp_iload (pc := 81) 4 dX7_says_81 rfl ?_
                    refine wp_iconst (pc := 83) (-1) dX7_says_83 (by decide) ?_
                    refine wp_icmp_eq (pc := 84) 105 dX7_says_84 (by decide) (fun c_84 => ?_) (fun c_84 => ?_)
                    · exact absurd c_84 (by decide)
                    · refine wp_iload (pc := 87) 4 dX7_says_87 rfl ?_
                      refine wp_iload_n (pc := 89) 2 dX7_says_89 rfl rfl ?_
                      refine wp_icmp_eq (pc := 90) 105 dX7_says_90 (by decide) (fun c_90 => ?_) (fun c_90 => ?_)
                      · exact absurd c_90 (by decide)
                      · refine wp_aload_n (pc := 93) 0 dX7_says_93 rfl rfl ?_
                        refine wq_getR (pc := 94) 46 17 dX7_says_94 s0_40 flX7_46 rfl rfl (by decide) (by decide) ?_
                        refine wp_iload (pc := 97) 4 dX7_says_97 rfl ?_
                        refine wq_iald (pc := 99) 0 dX7_says_99 s0_51 (by decide) rfl (by decide) (by decide) ?_
                        refine wp_int (y := -1) ((hM.2.2.2.2.2.2.2 0 (by decide)).trans (by decide)) ?_
                        refine wp_istore (pc := 100) 4 dX7_says_100 (by decide) rfl ?_
                        refine wp_goto (pc := 102) 81 dX7_says_102 (by decide) ?_
                        refine wp_iload (pc := 81) 4 dX7_says_81 rfl ?_
                        refine wp_iconst (pc := 83) (-1) dX7_says_83 (by decide) ?_
                        refine wp_icmp_eq (pc := 84) 105 dX7_says_84 (by decide) (fun c_84 => ?_) (fun c_84 => ?_)
                        · refine wp_iload (pc := 105) 4 dX7_says_105 rfl ?_
                          refine wp_iconst (pc := 107) (-1) dX7_says_107 (by decide) ?_
                          refine wp_icmp_ne (pc := 108) 120 dX7_says_108 (by decide) (fun c_108 => ?_) (fun c_108 => ?_)
                          · exact absurd (by decide) c_108
                          · refine wp_aload_n (pc := 111) 0 dX7_says_111 rfl rfl ?_
                            refine wp_bipush (pc := 112) (-3) dX7_says_112 (by decide) ?_
                            refine wc_V_I (pc := 114) dX7_says_114 lkX7_81 (sm_Rc.o (ci := 6) s0_40 (by decide) (by decide)) (by decide) (Nat.le_of_ble_eq_true rfl) ?_
                            refine c_X7_no_1 ?_
                            refine wp_goto (pc := 117) 145 dX7_says_117 (by decide) ?_
                            refine wp_iretI (pc := 145) dX7_says_145 rfl ?_
                            rw [if_neg (show ¬ undK 2 5 = true by decide)] at k
                            exact k _ _ _ (hM.bmp (by decide)) (Lo.rf.uI (by decide))
                        · exact absurd (by decide) c_84
            · rcases (show n = 0 ∨ n = 1 ∨ n = 2 ∨ n = 3 ∨ n = 4 ∨ n = 5 by omega) with rfl | rfl | rfl | rfl | rfl | rfl
              · refine wp_iload (pc := 81) 4 dX7_says_81 rfl ?_
                refine wp_iconst (pc := 83) (-1) dX7_says_83 (by decide) ?_
                refine wp_icmp_eq (pc := 84) 105 dX7_says_84 (by decide) (fun c_84 => ?_) (fun c_84 => ?_)
                · exact absurd c_84 (by decide)
                · refine wp_iload (pc := 87) 4 dX7_says_87 rfl ?_
                  refine wp_iload_n (pc := 89) 2 dX7_says_89 rfl rfl ?_
                  refine wp_icmp_eq (pc := 90) 105 dX7_says_90 (by decide) (fun c_90 => ?_) (fun c_90 => ?_)
                  · exact absurd c_90 (by decide)
                  · refine wp_aload_n (pc := 93) 0 dX7_says_93 rfl rfl ?_
                    refine wq_getR (pc := 94) 46 17 dX7_says_94 s0_40 flX7_46 rfl rfl (by decide) (by decide) ?_
                    refine wp_iload (pc := 97) 4 dX7_says_97 rfl ?_
                    refine wq_iald (pc := 99) 3 dX7_says_99 s0_51 (by decide) rfl (by decide) (by decide) ?_
                    refine wp_int (y := 1) ((hM.2.2.2.2.2.2.2 3 (by decide)).trans (by decide)) ?_
                    refine wp_istore (pc := 100) 4 dX7_says_100 (by decide) rfl ?_
                    refine wp_goto (pc := 102) 81 dX7_says_102 (by decide) ?_
                    refine wp_iload (pc := 81) 4 dX7_says_81 rfl ?_
                    refine wp_iconst (pc := 83) (-1) dX7_says_83 (by decide) ?_
                    refine wp_icmp_eq (pc := 84) 105 dX7_says_84 (by decide) (fun c_84 => ?_) (fun c_84 => ?_)
                    · exact absurd c_84 (by decide)
                    · refine wp_iload (pc := 87) 4 dX7_says_87 rfl ?_
                      refine wp_iload_n (pc := 89) 2 dX7_says_89 rfl rfl ?_
                      refine wp_icmp_eq (pc := 90) 105 dX7_says_90 (by decide) (fun c_90 => ?_) (fun c_90 => ?_)
                      · exact absurd c_90 (by decide)
                      · refine wp_aload_n (pc := 93) 0 dX7_says_93 rfl rfl ?_
                        refine wq_getR (pc := 94) 46 17 dX7_says_94 s0_40 flX7_46 rfl rfl (by decide) (by decide) ?_
                        refine wp_iload (pc := 97) 4 dX7_says_97 rfl ?_
                        refine wq_iald (pc := 99) 1 dX7_says_99 s0_51 (by decide) rfl (by decide) (by decide) ?_
                        refine wp_int (y := 0) ((hM.2.2.2.2.2.2.2 1 (by decide)).trans (by decide)) ?_
                        refine wp_istore (pc := 100) 4 dX7_says_100 (by decide) rfl ?_
                        refine wp_goto (pc := 102) 81 dX7_says_102 (by decide) ?_
                        refine wp_iload (pc := 81) 4 dX7_says_81 rfl ?_
                        refine wp_iconst (pc := 83) (-1) dX7_says_83 (by decide) ?_
                        refine wp_icmp_eq (pc := 84) 105 dX7_says_84 (by decide) (fun c_84 => ?_) (fun c_84 => ?_)
                        · exact absurd c_84 (by decide)
                        · refine wp_iload (pc := 87) 4 dX7_says_87 rfl ?_
                          refine wp_iload_n (pc := 89) 2 dX7_says_89 rfl rfl ?_
                          refine wp_icmp_eq (pc := 90) 105 dX7_says_90 (by decide) (fun c_90 => ?_) (fun c_90 => ?_)
                          · refine wp_iload (pc := 105) 4 dX7_says_105 rfl ?_
                            refine wp_iconst (pc := 107) (-1) dX7_says_107 (by decide) ?_
                            refine wp_icmp_ne (pc := 108) 120 dX7_says_108 (by decide) (fun c_108 => ?_) (fun c_108 => ?_)
                            · refine wp_iload_n (pc := 120) 2 dX7_says_120 rfl rfl ?_
                              refine wp_ifne (pc := 121) 140 dX7_says_121 (by decide) (fun c_121 => ?_) (fun c_121 => ?_)
                              · exact absurd (by decide) c_121
                              · refine wp_aload_n (pc := 124) 0 dX7_says_124 rfl rfl ?_
                                refine wq_getR (pc := 125) 13 0 dX7_says_125 s0_40 flX7_13 rfl rfl (by decide) (by decide) ?_
                                refine wp_bipush (pc := 128) (50) dX7_says_128 (by decide) ?_
                                refine wp_iconst (pc := 130) (3) dX7_says_130 (by decide) ?_
                                refine wp_iload_n (pc := 131) 3 dX7_says_131 rfl rfl ?_
                                refine wp_imul (pc := 132) dX7_says_132 ?_
                                refine wp_iadd (pc := 133) dX7_says_133 ?_
                                refine wp_iconst (pc := 134) (2) dX7_says_134 (by decide) ?_
                                refine wp_iadd (pc := 135) dX7_says_135 ?_
                                refine wq_iald (pc := 136) (50 + 3 * r + 2) dX7_says_136 s0_41 (by decide) ((congrArg (· + 2) (ix3 r)).trans (nI_add _ 2)) (by omega) (by decide) ?_
                                refine wp_int (hR.at (by omega)) ?_
                                refine wp_goto (pc := 137) 145 dX7_says_137 (by decide) ?_
                                refine wp_iretI (pc := 145) dX7_says_145 rfl ?_
                                rw [if_pos (show undK 3 0 = true by decide)] at k
                                rw [if_pos (show nI 0 = 0 from rfl)] at k
                                exact k _ _ _ hM Lo.rf
                            · exact absurd c_108 (by decide)
                          · exact absurd (by decide) c_90
              · refine wp_iload (pc := 81) 4 dX7_says_81 rfl ?_
                refine wp_iconst (pc := 83) (-1) dX7_says_83 (by decide) ?_
                refine wp_icmp_eq (pc := 84) 105 dX7_says_84 (by decide) (fun c_84 => ?_) (fun c_84 => ?_)
                · exact absurd c_84 (by decide)
                · refine wp_iload (pc := 87) 4 dX7_says_87 rfl ?_
                  refine wp_iload_n (pc := 89) 2 dX7_says_89 rfl rfl ?_
                  refine wp_icmp_eq (pc := 90) 105 dX7_says_90 (by decide) (fun c_90 => ?_) (fun c_90 => ?_)
                  · exact absurd c_90 (by decide)
                  · refine wp_aload_n (pc := 93) 0 dX7_says_93 rfl rfl ?_
                    refine wq_getR (pc := 94) 46 17 dX7_says_94 s0_40 flX7_46 rfl rfl (by decide) (by decide) ?_
                    refine wp_iload (pc := 97) 4 dX7_says_97 rfl ?_
                    refine wq_iald (pc := 99) 3 dX7_says_99 s0_51 (by decide) rfl (by decide) (by decide) ?_
                    refine wp_int (y := 1) ((hM.2.2.2.2.2.2.2 3 (by decide)).trans (by decide)) ?_
                    refine wp_istore (pc := 100) 4 dX7_says_100 (by decide) rfl ?_
                    refine wp_goto (pc := 102) 81 dX7_says_102 (by decide) ?_
                    refine wp_iload (pc := 81) 4 dX7_says_81 rfl ?_
                    refine wp_iconst (pc := 83) (-1) dX7_says_83 (by decide) ?_
                    refine wp_icmp_eq (pc := 84) 105 dX7_says_84 (by decide) (fun c_84 => ?_) (fun c_84 => ?_)
                    · exact absurd c_84 (by decide)
                    · refine wp_iload (pc := 87) 4 dX7_says_87 rfl ?_
                      refine wp_iload_n (pc := 89) 2 dX7_says_89 rfl rfl ?_
                      refine wp_icmp_eq (pc := 90) 105 dX7_says_90 (by decide) (fun c_90 => ?_) (fun c_90 => ?_)
                      · refine wp_iload (pc := 105) 4 dX7_says_105 rfl ?_
                        refine wp_iconst (pc := 107) (-1) dX7_says_107 (by decide) ?_
                        refine wp_icmp_ne (pc := 108) 120 dX7_says_108 (by decide) (fun c_108 => ?_) (fun c_108 => ?_)
                        · refine wp_iload_n (pc := 120) 2 dX7_says_120 rfl rfl ?_
                          refine wp_ifne (pc := 121) 140 dX7_says_121 (by decide) (fun c_121 => ?_) (fun c_121 => ?_)
                          · refine wp_aload_n (pc := 140) 0 dX7_says_140 rfl rfl ?_
                            refine wp_iload_n (pc := 141) 3 dX7_says_141 rfl rfl ?_
                            refine wc_V_I (pc := 142) dX7_says_142 lkX7_158 (sm_Rc.o (ci := 6) s0_40 (by decide) (by decide)) (by decide) (Nat.le_of_ble_eq_true rfl) ?_
                            refine c_X7_slip hw hR hr ?_
                            refine wp_iretI (pc := 145) dX7_says_145 rfl ?_
                            rw [if_pos (show undK 3 1 = true by decide)] at k
                            rw [if_neg (show ¬ nI 1 = 0 by decide)] at k
                            exact k _ _ _ hM Lo.rf
                          · exact absurd c_121 (by decide)
                        · exact absurd c_108 (by decide)
                      · exact absurd (by decide) c_90
              · refine wp_iload (pc := 81) 4 dX7_says_81 rfl ?_
                refine wp_iconst (pc := 83) (-1) dX7_says_83 (by decide) ?_
                refine wp_icmp_eq (pc := 84) 105 dX7_says_84 (by decide) (fun c_84 => ?_) (fun c_84 => ?_)
                · exact absurd c_84 (by decide)
                · refine wp_iload (pc := 87) 4 dX7_says_87 rfl ?_
                  refine wp_iload_n (pc := 89) 2 dX7_says_89 rfl rfl ?_
                  refine wp_icmp_eq (pc := 90) 105 dX7_says_90 (by decide) (fun c_90 => ?_) (fun c_90 => ?_)
                  · exact absurd c_90 (by decide)
                  · refine wp_aload_n (pc := 93) 0 dX7_says_93 rfl rfl ?_
                    refine wq_getR (pc := 94) 46 17 dX7_says_94 s0_40 flX7_46 rfl rfl (by decide) (by decide) ?_
                    refine wp_iload (pc := 97) 4 dX7_says_97 rfl ?_
                    refine wq_iald (pc := 99) 3 dX7_says_99 s0_51 (by decide) rfl (by decide) (by decide) ?_
                    refine wp_int (y := 1) ((hM.2.2.2.2.2.2.2 3 (by decide)).trans (by decide)) ?_
                    refine wp_istore (pc := 100) 4 dX7_says_100 (by decide) rfl ?_
                    refine wp_goto (pc := 102) 81 dX7_says_102 (by decide) ?_
                    refine wp_iload (pc := 81) 4 dX7_says_81 rfl ?_
                    refine wp_iconst (pc := 83) (-1) dX7_says_83 (by decide) ?_
                    refine wp_icmp_eq (pc := 84) 105 dX7_says_84 (by decide) (fun c_84 => ?_) (fun c_84 => ?_)
                    · exact absurd c_84 (by decide)
                    · refine wp_iload (pc := 87) 4 dX7_says_87 rfl ?_
                      refine wp_iload_n (pc := 89) 2 dX7_says_89 rfl rfl ?_
                      refine wp_icmp_eq (pc := 90) 105 dX7_says_90 (by decide) (fun c_90 => ?_) (fun c_90 => ?_)
                      · exact absurd c_90 (by decide)
                      · refine wp_aload_n (pc := 93) 0 dX7_says_93 rfl rfl ?_
                        refine wq_getR (pc := 94) 46 17 dX7_says_94 s0_40 flX7_46 rfl rfl (by decide) (by decide) ?_
                        refine wp_iload (pc := 97) 4 dX7_says_97 rfl ?_
                        refine wq_iald (pc := 99) 1 dX7_says_99 s0_51 (by decide) rfl (by decide) (by decide) ?_
                        refine wp_int (y := 0) ((hM.2.2.2.2.2.2.2 1 (by decide)).trans (by decide)) ?_
                        refine wp_istore (pc := 100) 4 dX7_says_100 (by decide) rfl ?_
                        refine wp_goto (pc := 102) 81 dX7_says_102 (by decide) ?_
                        refine wp_iload (pc := 81) 4 dX7_says_81 rfl ?_
                        refine wp_iconst (pc := 83) (-1) dX7_says_83 (by decide) ?_
                        refine wp_icmp_eq (pc := 84) 105 dX7_says_84 (by decide) (fun c_84 => ?_) (fun c_84 => ?_)
                        · exact absurd c_84 (by decide)
                        · refine wp_iload (pc := 87) 4 dX7_says_87 rfl ?_
                          refine wp_iload_n (pc := 89) 2 dX7_says_89 rfl rfl ?_
                          refine wp_icmp_eq (pc := 90) 105 dX7_says_90 (by decide) (fun c_90 => ?_) (fun c_90 => ?_)
                          · exact absurd c_90 (by decide)
                          · refine wp_aload_n (pc := 93) 0 dX7_says_93 rfl rfl ?_
                            refine wq_getR (pc := 94) 46 17 dX7_says_94 s0_40 flX7_46 rfl rfl (by decide) (by decide) ?_
                            refine wp_iload (pc := 97) 4 dX7_says_97 rfl ?_
                            refine wq_iald (pc := 99) 0 dX7_says_99 s0_51 (by decide) rfl (by decide) (by decide) ?_
                            refine wp_int (y := -1) ((hM.2.2.2.2.2.2.2 0 (by decide)).trans (by decide)) ?_
                            refine wp_istore (pc := 100) 4 dX7_says_100 (by decide) rfl ?_
                            refine wp_goto (pc := 102) 81 dX7_says_102 (by decide) ?_
                            refine wp_iload (pc := 81) 4 dX7_says_81 rfl ?_
                            refine wp_iconst (pc := 83) (-1) dX7_says_83 (by decide) ?_
                            refine wp_icmp_eq (pc := 84) 105 dX7_says_84 (by decide) (fun c_84 => ?_) (fun c_84 => ?_)
                            · refine wp_iload (pc := 105) 4 dX7_says_105 rfl ?_
                              refine wp_iconst (pc := 107) (-1) dX7_says_107 (by decide) ?_
                              refine wp_icmp_ne (pc := 108) 120 dX7_says_108 (by decide) (fun c_108 => ?_) (fun c_108 => ?_)
                              · exact absurd (by decide) c_108
                              · refine wp_aload_n (pc := 111) 0 dX7_says_111 rfl rfl ?_
                                refine wp_bipush (pc := 112) (-3) dX7_says_112 (by decide) ?_
                                refine wc_V_I (pc := 114) dX7_says_114 lkX7_81 (sm_Rc.o (ci := 6) s0_40 (by decide) (by decide)) (by decide) (Nat.le_of_ble_eq_true rfl) ?_
                                refine c_X7_no_1 ?_
                                refine wp_goto (pc := 117) 145 dX7_says_117 (by decide) ?_
                                refine wp_iretI (pc := 145) dX7_says_145 rfl ?_
                                rw [if_neg (show ¬ undK 3 2 = true by decide)] at k
                                exact k _ _ _ (hM.bmp (by decide)) (Lo.rf.uI (by decide))
                            · exact absurd (by decide) c_84
              · refine wp_iload (pc := 81) 4 dX7_says_81 rfl ?_
                refine wp_iconst (pc := 83) (-1) dX7_says_83 (by decide) ?_
                refine wp_icmp_eq (pc := 84) 105 dX7_says_84 (by decide) (fun c_84 => ?_) (fun c_84 => ?_)
                · exact absurd c_84 (by decide)
                · refine wp_iload (pc := 87) 4 dX7_says_87 rfl ?_
                  refine wp_iload_n (pc := 89) 2 dX7_says_89 rfl rfl ?_
                  refine wp_icmp_eq (pc := 90) 105 dX7_says_90 (by decide) (fun c_90 => ?_) (fun c_90 => ?_)
                  · refine wp_iload (pc := 105) 4 dX7_says_105 rfl ?_
                    refine wp_iconst (pc := 107) (-1) dX7_says_107 (by decide) ?_
                    refine wp_icmp_ne (pc := 108) 120 dX7_says_108 (by decide) (fun c_108 => ?_) (fun c_108 => ?_)
                    · refine wp_iload_n (pc := 120) 2 dX7_says_120 rfl rfl ?_
                      refine wp_ifne (pc := 121) 140 dX7_says_121 (by decide) (fun c_121 => ?_) (fun c_121 => ?_)
                      · refine wp_aload_n (pc := 140) 0 dX7_says_140 rfl rfl ?_
                        refine wp_iload_n (pc := 141) 3 dX7_says_141 rfl rfl ?_
                        refine wc_V_I (pc := 142) dX7_says_142 lkX7_158 (sm_Rc.o (ci := 6) s0_40 (by decide) (by decide)) (by decide) (Nat.le_of_ble_eq_true rfl) ?_
                        refine c_X7_slip hw hR hr ?_
                        refine wp_iretI (pc := 145) dX7_says_145 rfl ?_
                        rw [if_pos (show undK 3 3 = true by decide)] at k
                        rw [if_neg (show ¬ nI 3 = 0 by decide)] at k
                        exact k _ _ _ hM Lo.rf
                      · exact absurd c_121 (by decide)
                    · exact absurd c_108 (by decide)
                  · exact absurd (by decide) c_90
              · refine wp_iload (pc := 81) 4 dX7_says_81 rfl ?_
                refine wp_iconst (pc := 83) (-1) dX7_says_83 (by decide) ?_
                refine wp_icmp_eq (pc := 84) 105 dX7_says_84 (by decide) (fun c_84 => ?_) (fun c_84 => ?_)
                · exact absurd c_84 (by decide)
                · refine wp_iload (pc := 87) 4 dX7_says_87 rfl ?_
                  refine wp_iload_n (pc := 89) 2 dX7_says_89 rfl rfl ?_
                  refine wp_icmp_eq (pc := 90) 105 dX7_says_90 (by decide) (fun c_90 => ?_) (fun c_90 => ?_)
                  · exact absurd c_90 (by decide)
                  · refine wp_aload_n (pc := 93) 0 dX7_says_93 rfl rfl ?_
                    refine wq_getR (pc := 94) 46 17 dX7_says_94 s0_40 flX7_46 rfl rfl (by decide) (by decide) ?_
                    refine wp_iload (pc := 97) 4 dX7_says_97 rfl ?_
                    refine wq_iald (pc := 99) 3 dX7_says_99 s0_51 (by decide) rfl (by decide) (by decide) ?_
                    refine wp_int (y := 1) ((hM.2.2.2.2.2.2.2 3 (by decide)).trans (by decide)) ?_
                    refine wp_istore (pc := 100) 4 dX7_says_100 (by decide) rfl ?_
                    refine wp_goto (pc := 102) 81 dX7_says_102 (by decide) ?_
                    refine wp_iload (pc := 81) 4 dX7_says_81 rfl ?_
                    refine wp_iconst (pc := 83) (-1) dX7_says_83 (by decide) ?_
                    refine wp_icmp_eq (pc := 84) 105 dX7_says_84 (by decide) (fun c_84 => ?_) (fun c_84 => ?_)
                    · exact absurd c_84 (by decide)
                    · refine wp_iload (pc := 87) 4 dX7_says_87 rfl ?_
                      refine wp_iload_n (pc := 89) 2 dX7_says_89 rfl rfl ?_
                      refine wp_icmp_eq (pc := 90) 105 dX7_says_90 (by decide) (fun c_90 => ?_) (fun c_90 => ?_)
                      · exact absurd c_90 (by decide)
                      · refine wp_aload_n (pc := 93) 0 dX7_says_93 rfl rfl ?_
                        refine wq_getR (pc := 94) 46 17 dX7_says_94 s0_40 flX7_46 rfl rfl (by decide) (by decide) ?_
                        refine wp_iload (pc := 97) 4 dX7_says_97 rfl ?_
                        refine wq_iald (pc := 99) 1 dX7_says_99 s0_51 (by decide) rfl (by decide) (by decide) ?_
                        refine wp_int (y := 0) ((hM.2.2.2.2.2.2.2 1 (by decide)).trans (by decide)) ?_
                        refine wp_istore (pc := 100) 4 dX7_says_100 (by decide) rfl ?_
                        refine wp_goto (pc := 102) 81 dX7_says_102 (by decide) ?_
                        refine wp_iload (pc := 81) 4 dX7_says_81 rfl ?_
                        refine wp_iconst (pc := 83) (-1) dX7_says_83 (by decide) ?_
                        refine wp_icmp_eq (pc := 84) 105 dX7_says_84 (by decide) (fun c_84 => ?_) (fun c_84 => ?_)
                        · exact absurd c_84 (by decide)
                        · refine wp_iload (pc := 87) 4 dX7_says_87 rfl ?_
                          refine wp_iload_n (pc := 89) 2 dX7_says_89 rfl rfl ?_
                          refine wp_icmp_eq (pc := 90) 105 dX7_says_90 (by decide) (fun c_90 => ?_) (fun c_90 => ?_)
                          · exact absurd c_90 (by decide)
                          · refine wp_aload_n (pc := 93) 0 dX7_says_93 rfl rfl ?_
                            refine wq_getR (pc := 94) 46 17 dX7_says_94 s0_40 flX7_46 rfl rfl (by decide) (by decide) ?_
                            refine wp_iload (pc := 97) 4 dX7_says_97 rfl ?_
                            refine wq_iald (pc := 99) 0 dX7_says_99 s0_51 (by decide) rfl (by decide) (by decide) ?_
                            refine wp_int (y := -1) ((hM.2.2.2.2.2.2.2 0 (by decide)).trans (by decide)) ?_
                            refine wp_istore (pc := 100) 4 dX7_says_100 (by decide) rfl ?_
                            refine wp_goto (pc := 102) 81 dX7_says_102 (by decide) ?_
                            refine wp_iload (pc := 81) 4 dX7_says_81 rfl ?_
                            refine wp_iconst (pc := 83) (-1) dX7_says_83 (by decide) ?_
                            refine wp_icmp_eq (pc := 84) 105 dX7_says_84 (by decide) (fun c_84 => ?_) (fun c_84 => ?_)
                            · refine wp_iload (pc := 105) 4 dX7_says_105 rfl ?_
                              refine wp_iconst (pc := 107) (-1) dX7_says_107 (by decide) ?_
                              refine wp_icmp_ne (pc := 108) 120 dX7_says_108 (by decide) (fun c_108 => ?_) (fun c_108 => ?_)
                              · exact absurd (by decide) c_108
                              · refine wp_aload_n (pc := 111) 0 dX7_says_111 rfl rfl ?_
                                refine wp_bipush (pc := 112) (-3) dX7_says_112 (by decide) ?_
                                refine wc_V_I (pc := 114) dX7_says_114 lkX7_81 (sm_Rc.o (ci := 6) s0_40 (by decide) (by decide)) (by decide) (Nat.le_of_ble_eq_true rfl) ?_
                                refine c_X7_no_1 ?_
                                refine wp_goto (pc := 117) 145 dX7_says_117 (by decide) ?_
                                refine wp_iretI (pc := 145) dX7_says_145 rfl ?_
                                rw [if_neg (show ¬ undK 3 4 = true by decide)] at k
                                exact k _ _ _ (hM.bmp (by decide)) (Lo.rf.uI (by decide))
                            · exact absurd (by decide) c_84
              · refine wp_iload (pc := 81) 4 dX7_says_81 rfl ?_
                refine wp_iconst (pc := 83) (-1) dX7_says_83 (by decide) ?_
                refine wp_icmp_eq (pc := 84) 105 dX7_says_84 (by decide) (fun c_84 => ?_) (fun c_84 => ?_)
                · exact absurd c_84 (by decide)
                · refine wp_iload (pc := 87) 4 dX7_says_87 rfl ?_
                  refine wp_iload_n (pc := 89) 2 dX7_says_89 rfl rfl ?_
                  refine wp_icmp_eq (pc := 90) 105 dX7_says_90 (by decide) (fun c_90 => ?_) (fun c_90 => ?_)
                  · exact absurd c_90 (by decide)
                  · refine wp_aload_n (pc := 93) 0 dX7_says_93 rfl rfl ?_
                    refine wq_getR (pc := 94) 46 17 dX7_says_94 s0_40 flX7_46 rfl rfl (by decide) (by decide) ?_
                    refine wp_iload (pc := 97) 4 dX7_says_97 rfl ?_
                    refine wq_iald (pc := 99) 3 dX7_says_99 s0_51 (by decide) rfl (by decide) (by decide) ?_
                    refine wp_int (y := 1) ((hM.2.2.2.2.2.2.2 3 (by decide)).trans (by decide)) ?_
                    refine wp_istore (pc := 100) 4 dX7_says_100 (by decide) rfl ?_
                    refine wp_goto (pc := 102) 81 dX7_says_102 (by decide) ?_
                    refine wp_iload (pc := 81) 4 dX7_says_81 rfl ?_
                    refine wp_iconst (pc := 83) (-1) dX7_says_83 (by decide) ?_
                    refine wp_icmp_eq (pc := 84) 105 dX7_says_84 (by decide) (fun c_84 => ?_) (fun c_84 => ?_)
                    · exact absurd c_84 (by decide)
                    · refine wp_iload (pc := 87) 4 dX7_says_87 rfl ?_
                      refine wp_iload_n (pc := 89) 2 dX7_says_89 rfl rfl ?_
                      refine wp_icmp_eq (pc := 90) 105 dX7_says_90 (by decide) (fun c_90 => ?_) (fun c_90 => ?_)
                      · exact absurd c_90 (by decide)
                      · refine wp_aload_n (pc := 93) 0 dX7_says_93 rfl rfl ?_
                        refine wq_getR (pc := 94) 46 17 dX7_says_94 s0_40 flX7_46 rfl rfl (by decide) (by decide) ?_
                        refine wp_iload (pc := 97) 4 dX7_says_97 rfl ?_
                        refine wq_iald (pc := 99) 1 dX7_says_99 s0_51 (by decide) rfl (by decide) (by decide) ?_
                        refine wp_int (y := 0) ((hM.2.2.2.2.2.2.2 1 (by decide)).trans (by decide)) ?_
                        refine wp_istore (pc := 100) 4 dX7_says_100 (by decide) rfl ?_
                        refine wp_goto (pc := 102) 81 dX7_says_102 (by decide) ?_
                        refine wp_iload (pc := 81) 4 dX7_says_81 rfl ?_
                        refine wp_iconst (pc := 83) (-1) dX7_says_83 (by decide) ?_
                        refine wp_icmp_eq (pc := 84) 105 dX7_says_84 (by decide) (fun c_84 => ?_) (fun c_84 => ?_)
                        · exact absurd c_84 (by decide)
                        · refine wp_iload (pc := 87) 4 dX7_says_87 rfl ?_
                          refine wp_iload_n (pc := 89) 2 dX7_says_89 rfl rfl ?_
                          refine wp_icmp_eq (pc := 90) 105 dX7_says_90 (by decide) (fun c_90 => ?_) (fun c_90 => ?_)
                          · exact absurd c_90 (by decide)
                          · refine wp_aload_n (pc := 93) 0 dX7_says_93 rfl rfl ?_
                            refine wq_getR (pc := 94) 46 17 dX7_says_94 s0_40 flX7_46 rfl rfl (by decide) (by decide) ?_
                            refine wp_iload (pc := 97) 4 dX7_says_97 rfl ?_
                            refine wq_iald (pc := 99) 0 dX7_says_99 s0_51 (by decide) rfl (by decide) (by decide) ?_
                            refine wp_int (y := -1) ((hM.2.2.2.2.2.2.2 0 (by decide)).trans (by decide)) ?_
                            refine wp_istore (pc := 100) 4 dX7_says_100 (by decide) rfl ?_
                            refine wp_goto (pc := 102) 81 dX7_says_102 (by decide) ?_
                            refine wp_iload (pc := 81) 4 dX7_says_81 rfl ?_
                            refine wp_iconst (pc := 83) (-1) dX7_says_83 (by decide) ?_
                            refine wp_icmp_eq (pc := 84) 105 dX7_says_84 (by decide) (fun c_84 => ?_) (fun c_84 => ?_)
                            · refine wp_iload (pc := 105) 4 dX7_says_105 rfl ?_
                              refine wp_iconst (pc := 107) (-1) dX7_says_107 (by decide) ?_
                              refine wp_icmp_ne (pc := 108) 120 dX7_says_108 (by decide) (fun c_108 => ?_) (fun c_108 => ?_)
                              · exact absurd (by decide) c_108
                              · refine wp_aload_n (pc := 111) 0 dX7_says_111 rfl rfl ?_
                                refine wp_bipush (pc := 112) (-3) dX7_says_112 (by decide) ?_
                                refine wc_V_I (pc := 114) dX7_says_114 lkX7_81 (sm_Rc.o (ci := 6) s0_40 (by decide) (by decide)) (by decide) (Nat.le_of_ble_eq_true rfl) ?_
                                refine c_X7_no_1 ?_
                                refine wp_goto (pc := 117) 145 dX7_says_117 (by decide) ?_
                                refine wp_iretI (pc := 145) dX7_says_145 rfl ?_
                                rw [if_neg (show ¬ undK 3 5 = true by decide)] at k
                                exact k _ _ _ (hM.bmp (by decide)) (Lo.rf.uI (by decide))
                            · exact absurd (by decide) c_84
            · rcases (show n = 0 ∨ n = 1 ∨ n = 2 ∨ n = 3 ∨ n = 4 ∨ n = 5 by omega) with rfl | rfl | rfl | rfl | rfl | rfl
              · refine wp_iload (pc := 81) 4 dX7_says_81 rfl ?_
                refine wp_iconst (pc := 83) (-1) dX7_says_83 (by decide) ?_
                refine wp_icmp_eq (pc := 84) 105 dX7_says_84 (by decide) (fun c_84 => ?_) (fun c_84 => ?_)
                · exact absurd c_84 (by decide)
                · refine wp_iload (pc := 87) 4 dX7_says_87 rfl ?_
                  refine wp_iload_n (pc := 89) 2 dX7_says_89 rfl rfl ?_
                  refine wp_icmp_eq (pc := 90) 105 dX7_says_90 (by decide) (fun c_90 => ?_) (fun c_90 => ?_)
                  · exact absurd c_90 (by decide)
                  · refine wp_aload_n (pc := 93) 0 dX7_says_93 rfl rfl ?_
                    refine wq_getR (pc := 94) 46 17 dX7_says_94 s0_40 flX7_46 rfl rfl (by decide) (by decide) ?_
                    refine wp_iload (pc := 97) 4 dX7_says_97 rfl ?_
                    refine wq_iald (pc := 99) 4 dX7_says_99 s0_51 (by decide) rfl (by decide) (by decide) ?_
                    refine wp_int (y := 2) ((hM.2.2.2.2.2.2.2 4 (by decide)).trans (by decide)) ?_
                    refine wp_istore (pc := 100) 4 dX7_says_100 (by decide) rfl ?_
                    refine wp_goto (pc := 102) 81 dX7_says_102 (by decide) ?_
                    refine wp_iload (pc := 81) 4 dX7_says_81 rfl ?_
                    refine wp_iconst (pc := 83) (-1) dX7_says_83 (by decide) ?_
                    refine wp_icmp_eq (pc := 84) 105 dX7_says_84 (by decide) (fun c_84 => ?_) (fun c_84 => ?_)
                    · exact absurd c_84 (by decide)
                    · refine wp_iload (pc := 87) 4 dX7_says_87 rfl ?_
                      refine wp_iload_n (pc := 89) 2 dX7_says_89 rfl rfl ?_
                      refine wp_icmp_eq (pc := 90) 105 dX7_says_90 (by decide) (fun c_90 => ?_) (fun c_90 => ?_)
                      · exact absurd c_90 (by decide)
                      · refine wp_aload_n (pc := 93) 0 dX7_says_93 rfl rfl ?_
                        refine wq_getR (pc := 94) 46 17 dX7_says_94 s0_40 flX7_46 rfl rfl (by decide) (by decide) ?_
                        refine wp_iload (pc := 97) 4 dX7_says_97 rfl ?_
                        refine wq_iald (pc := 99) 2 dX7_says_99 s0_51 (by decide) rfl (by decide) (by decide) ?_
                        refine wp_int (y := 0) ((hM.2.2.2.2.2.2.2 2 (by decide)).trans (by decide)) ?_
                        refine wp_istore (pc := 100) 4 dX7_says_100 (by decide) rfl ?_
                        refine wp_goto (pc := 102) 81 dX7_says_102 (by decide) ?_
                        refine wp_iload (pc := 81) 4 dX7_says_81 rfl ?_
                        refine wp_iconst (pc := 83) (-1) dX7_says_83 (by decide) ?_
                        refine wp_icmp_eq (pc := 84) 105 dX7_says_84 (by decide) (fun c_84 => ?_) (fun c_84 => ?_)
                        · exact absurd c_84 (by decide)
                        · refine wp_iload (pc := 87) 4 dX7_says_87 rfl ?_
                          refine wp_iload_n (pc := 89) 2 dX7_says_89 rfl rfl ?_
                          refine wp_icmp_eq (pc := 90) 105 dX7_says_90 (by decide) (fun c_90 => ?_) (fun c_90 => ?_)
                          · refine wp_iload (pc := 105) 4 dX7_says_105 rfl ?_
                            refine wp_iconst (pc := 107) (-1) dX7_says_107 (by decide) ?_
                            refine wp_icmp_ne (pc := 108) 120 dX7_says_108 (by decide) (fun c_108 => ?_) (fun c_108 => ?_)
                            · refine wp_iload_n (pc := 120) 2 dX7_says_120 rfl rfl ?_
                              refine wp_ifne (pc := 121) 140 dX7_says_121 (by decide) (fun c_121 => ?_) (fun c_121 => ?_)
                              · exact absurd (by decide) c_121
                              · refine wp_aload_n (pc := 124) 0 dX7_says_124 rfl rfl ?_
                                refine wq_getR (pc := 125) 13 0 dX7_says_125 s0_40 flX7_13 rfl rfl (by decide) (by decide) ?_
                                refine wp_bipush (pc := 128) (50) dX7_says_128 (by decide) ?_
                                refine wp_iconst (pc := 130) (3) dX7_says_130 (by decide) ?_
                                refine wp_iload_n (pc := 131) 3 dX7_says_131 rfl rfl ?_
                                refine wp_imul (pc := 132) dX7_says_132 ?_
                                refine wp_iadd (pc := 133) dX7_says_133 ?_
                                refine wp_iconst (pc := 134) (2) dX7_says_134 (by decide) ?_
                                refine wp_iadd (pc := 135) dX7_says_135 ?_
                                refine wq_iald (pc := 136) (50 + 3 * r + 2) dX7_says_136 s0_41 (by decide) ((congrArg (· + 2) (ix3 r)).trans (nI_add _ 2)) (by omega) (by decide) ?_
                                refine wp_int (hR.at (by omega)) ?_
                                refine wp_goto (pc := 137) 145 dX7_says_137 (by decide) ?_
                                refine wp_iretI (pc := 145) dX7_says_145 rfl ?_
                                rw [if_pos (show undK 4 0 = true by decide)] at k
                                rw [if_pos (show nI 0 = 0 from rfl)] at k
                                exact k _ _ _ hM Lo.rf
                            · exact absurd c_108 (by decide)
                          · exact absurd (by decide) c_90
              · refine wp_iload (pc := 81) 4 dX7_says_81 rfl ?_
                refine wp_iconst (pc := 83) (-1) dX7_says_83 (by decide) ?_
                refine wp_icmp_eq (pc := 84) 105 dX7_says_84 (by decide) (fun c_84 => ?_) (fun c_84 => ?_)
                · exact absurd c_84 (by decide)
                · refine wp_iload (pc := 87) 4 dX7_says_87 rfl ?_
                  refine wp_iload_n (pc := 89) 2 dX7_says_89 rfl rfl ?_
                  refine wp_icmp_eq (pc := 90) 105 dX7_says_90 (by decide) (fun c_90 => ?_) (fun c_90 => ?_)
                  · exact absurd c_90 (by decide)
                  · refine wp_aload_n (pc := 93) 0 dX7_says_93 rfl rfl ?_
                    refine wq_getR (pc := 94) 46 17 dX7_says_94 s0_40 flX7_46 rfl rfl (by decide) (by decide) ?_
                    refine wp_iload (pc := 97) 4 dX7_says_97 rfl ?_
                    refine wq_iald (pc := 99) 4 dX7_says_99 s0_51 (by decide) rfl (by decide) (by decide) ?_
                    refine wp_int (y := 2) ((hM.2.2.2.2.2.2.2 4 (by decide)).trans (by decide)) ?_
                    refine wp_istore (pc := 100) 4 dX7_says_100 (by decide) rfl ?_
                    refine wp_goto (pc := 102) 81 dX7_says_102 (by decide) ?_
                    refine wp_iload (pc := 81) 4 dX7_says_81 rfl ?_
                    refine wp_iconst (pc := 83) (-1) dX7_says_83 (by decide) ?_
                    refine wp_icmp_eq (pc := 84) 105 dX7_says_84 (by decide) (fun c_84 => ?_) (fun c_84 => ?_)
                    · exact absurd c_84 (by decide)
                    · refine wp_iload (pc := 87) 4 dX7_says_87 rfl ?_
                      refine wp_iload_n (pc := 89) 2 dX7_says_89 rfl rfl ?_
                      refine wp_icmp_eq (pc := 90) 105 dX7_says_90 (by decide) (fun c_90 => ?_) (fun c_90 => ?_)
                      · exact absurd c_90 (by decide)
                      · refine wp_aload_n (pc := 93) 0 dX7_says_93 rfl rfl ?_
                        refine wq_getR (pc := 94) 46 17 dX7_says_94 s0_40 flX7_46 rfl rfl (by decide) (by decide) ?_
                        refine wp_iload (pc := 97) 4 dX7_says_97 rfl ?_
                        refine wq_iald (pc := 99) 2 dX7_says_99 s0_51 (by decide) rfl (by decide) (by decide) ?_
                        refine wp_int (y := 0) ((hM.2.2.2.2.2.2.2 2 (by decide)).trans (by decide)) ?_
                        refine wp_istore (pc := 100) 4 dX7_says_100 (by decide) rfl ?_
                        refine wp_goto (pc := 102) 81 dX7_says_102 (by decide) ?_
                        refine wp_iload (pc := 81) 4 dX7_says_81 rfl ?_
                        refine wp_iconst (pc := 83) (-1) dX7_says_83 (by decide) ?_
                        refine wp_icmp_eq (pc := 84) 105 dX7_says_84 (by decide) (fun c_84 => ?_) (fun c_84 => ?_)
                        · exact absurd c_84 (by decide)
                        · refine wp_iload (pc := 87) 4 dX7_says_87 rfl ?_
                          refine wp_iload_n (pc := 89) 2 dX7_says_89 rfl rfl ?_
                          refine wp_icmp_eq (pc := 90) 105 dX7_says_90 (by decide) (fun c_90 => ?_) (fun c_90 => ?_)
                          · exact absurd c_90 (by decide)
                          · refine wp_aload_n (pc := 93) 0 dX7_says_93 rfl rfl ?_
                            refine wq_getR (pc := 94) 46 17 dX7_says_94 s0_40 flX7_46 rfl rfl (by decide) (by decide) ?_
                            refine wp_iload (pc := 97) 4 dX7_says_97 rfl ?_
                            refine wq_iald (pc := 99) 0 dX7_says_99 s0_51 (by decide) rfl (by decide) (by decide) ?_
                            refine wp_int (y := -1) ((hM.2.2.2.2.2.2.2 0 (by decide)).trans (by decide)) ?_
                            refine wp_istore (pc := 100) 4 dX7_says_100 (by decide) rfl ?_
                            refine wp_goto (pc := 102) 81 dX7_says_102 (by decide) ?_
                            refine wp_iload (pc := 81) 4 dX7_says_81 rfl ?_
                            refine wp_iconst (pc := 83) (-1) dX7_says_83 (by decide) ?_
                            refine wp_icmp_eq (pc := 84) 105 dX7_says_84 (by decide) (fun c_84 => ?_) (fun c_84 => ?_)
                            · refine wp_iload (pc := 105) 4 dX7_says_105 rfl ?_
                              refine wp_iconst (pc := 107) (-1) dX7_says_107 (by decide) ?_
                              refine wp_icmp_ne (pc := 108) 120 dX7_says_108 (by decide) (fun c_108 => ?_) (fun c_108 => ?_)
                              · exact absurd (by decide) c_108
                              · refine wp_aload_n (pc := 111) 0 dX7_says_111 rfl rfl ?_
                                refine wp_bipush (pc := 112) (-3) dX7_says_112 (by decide) ?_
                                refine wc_V_I (pc := 114) dX7_says_114 lkX7_81 (sm_Rc.o (ci := 6) s0_40 (by decide) (by decide)) (by decide) (Nat.le_of_ble_eq_true rfl) ?_
                                refine c_X7_no_1 ?_
                                refine wp_goto (pc := 117) 145 dX7_says_117 (by decide) ?_
                                refine wp_iretI (pc := 145) dX7_says_145 rfl ?_
                                rw [if_neg (show ¬ undK 4 1 = true by decide)] at k
                                exact k _ _ _ (hM.bmp (by decide)) (Lo.rf.uI (by decide))
                            · exact absurd (by decide) c_84
              · refine wp_iload (pc := 81) 4 dX7_says_81 rfl ?_
                refine wp_iconst (pc := 83) (-1) dX7_says_83 (by decide) ?_
                refine wp_icmp_eq (pc := 84) 105 dX7_says_84 (by decide) (fun c_84 => ?_) (fun c_84 => ?_)
                · exact absurd c_84 (by decide)
                · refine wp_iload (pc := 87) 4 dX7_says_87 rfl ?_
                  refine wp_iload_n (pc := 89) 2 dX7_says_89 rfl rfl ?_
                  refine wp_icmp_eq (pc := 90) 105 dX7_says_90 (by decide) (fun c_90 => ?_) (fun c_90 => ?_)
                  · exact absurd c_90 (by decide)
                  · refine wp_aload_n (pc := 93) 0 dX7_says_93 rfl rfl ?_
                    refine wq_getR (pc := 94) 46 17 dX7_says_94 s0_40 flX7_46 rfl rfl (by decide) (by decide) ?_
                    refine wp_iload (pc := 97) 4 dX7_says_97 rfl ?_
                    refine wq_iald (pc := 99) 4 dX7_says_99 s0_51 (by decide) rfl (by decide) (by decide) ?_
                    refine wp_int (y := 2) ((hM.2.2.2.2.2.2.2 4 (by decide)).trans (by decide)) ?_
                    refine wp_istore (pc := 100) 4 dX7_says_100 (by decide) rfl ?_
                    refine wp_goto (pc := 102) 81 dX7_says_102 (by decide) ?_
                    refine wp_iload (pc := 81) 4 dX7_says_81 rfl ?_
                    refine wp_iconst (pc := 83) (-1) dX7_says_83 (by decide) ?_
                    refine wp_icmp_eq (pc := 84) 105 dX7_says_84 (by decide) (fun c_84 => ?_) (fun c_84 => ?_)
                    · exact absurd c_84 (by decide)
                    · refine wp_iload (pc := 87) 4 dX7_says_87 rfl ?_
                      refine wp_iload_n (pc := 89) 2 dX7_says_89 rfl rfl ?_
                      refine wp_icmp_eq (pc := 90) 105 dX7_says_90 (by decide) (fun c_90 => ?_) (fun c_90 => ?_)
                      · refine wp_iload (pc := 105) 4 dX7_says_105 rfl ?_
                        refine wp_iconst (pc := 107) (-1) dX7_says_107 (by decide) ?_
                        refine wp_icmp_ne (pc := 108) 120 dX7_says_108 (by decide) (fun c_108 => ?_) (fun c_108 => ?_)
                        · refine wp_iload_n (pc := 120) 2 dX7_says_120 rfl rfl ?_
                          refine wp_ifne (pc := 121) 140 dX7_says_121 (by decide) (fun c_121 => ?_) (fun c_121 => ?_)
                          · refine wp_aload_n (pc := 140) 0 dX7_says_140 rfl rfl ?_
                            refine wp_iload_n (pc := 141) 3 dX7_says_141 rfl rfl ?_
                            refine wc_V_I (pc := 142) dX7_says_142 lkX7_158 (sm_Rc.o (ci := 6) s0_40 (by decide) (by decide)) (by decide) (Nat.le_of_ble_eq_true rfl) ?_
                            refine c_X7_slip hw hR hr ?_
                            refine wp_iretI (pc := 145) dX7_says_145 rfl ?_
                            rw [if_pos (show undK 4 2 = true by decide)] at k
                            rw [if_neg (show ¬ nI 2 = 0 by decide)] at k
                            exact k _ _ _ hM Lo.rf
                          · exact absurd c_121 (by decide)
                        · exact absurd c_108 (by decide)
                      · exact absurd (by decide) c_90
              · refine wp_iload (pc := 81) 4 dX7_says_81 rfl ?_
                refine wp_iconst (pc := 83) (-1) dX7_says_83 (by decide) ?_
                refine wp_icmp_eq (pc := 84) 105 dX7_says_84 (by decide) (fun c_84 => ?_) (fun c_84 => ?_)
                · exact absurd c_84 (by decide)
                · refine wp_iload (pc := 87) 4 dX7_says_87 rfl ?_
                  refine wp_iload_n (pc := 89) 2 dX7_says_89 rfl rfl ?_
                  refine wp_icmp_eq (pc := 90) 105 dX7_says_90 (by decide) (fun c_90 => ?_) (fun c_90 => ?_)
                  · exact absurd c_90 (by decide)
                  · refine wp_aload_n (pc := 93) 0 dX7_says_93 rfl rfl ?_
                    refine wq_getR (pc := 94) 46 17 dX7_says_94 s0_40 flX7_46 rfl rfl (by decide) (by decide) ?_
                    refine wp_iload (pc := 97) 4 dX7_says_97 rfl ?_
                    refine wq_iald (pc := 99) 4 dX7_says_99 s0_51 (by decide) rfl (by decide) (by decide) ?_
                    refine wp_int (y := 2) ((hM.2.2.2.2.2.2.2 4 (by decide)).trans (by decide)) ?_
                    refine wp_istore (pc := 100) 4 dX7_says_100 (by decide) rfl ?_
                    refine wp_goto (pc := 102) 81 dX7_says_102 (by decide) ?_
                    refine wp_iload (pc := 81) 4 dX7_says_81 rfl ?_
                    refine wp_iconst (pc := 83) (-1) dX7_says_83 (by decide) ?_
                    refine wp_icmp_eq (pc := 84) 105 dX7_says_84 (by decide) (fun c_84 => ?_) (fun c_84 => ?_)
                    · exact absurd c_84 (by decide)
                    · refine wp_iload (pc := 87) 4 dX7_says_87 rfl ?_
                      refine wp_iload_n (pc := 89) 2 dX7_says_89 rfl rfl ?_
                      refine wp_icmp_eq (pc := 90) 105 dX7_says_90 (by decide) (fun c_90 => ?_) (fun c_90 => ?_)
                      · exact absurd c_90 (by decide)
                      · refine wp_aload_n (pc := 93) 0 dX7_says_93 rfl rfl ?_
                        refine wq_getR (pc := 94) 46 17 dX7_says_94 s0_40 flX7_46 rfl rfl (by decide) (by decide) ?_
                        refine wp_iload (pc := 97) 4 dX7_says_97 rfl ?_
                        refine wq_iald (pc := 99) 2 dX7_says_99 s0_51 (by decide) rfl (by decide) (by decide) ?_
                        refine wp_int (y := 0) ((hM.2.2.2.2.2.2.2 2 (by decide)).trans (by decide)) ?_
                        refine wp_istore (pc := 100) 4 dX7_says_100 (by decide) rfl ?_
                        refine wp_goto (pc := 102) 81 dX7_says_102 (by decide) ?_
                        refine wp_iload (pc := 81) 4 dX7_says_81 rfl ?_
                        refine wp_iconst (pc := 83) (-1) dX7_says_83 (by decide) ?_
                        refine wp_icmp_eq (pc := 84) 105 dX7_says_84 (by decide) (fun c_84 => ?_) (fun c_84 => ?_)
                        · exact absurd c_84 (by decide)
                        · refine wp_iload (pc := 87) 4 dX7_says_87 rfl ?_
                          refine wp_iload_n (pc := 89) 2 dX7_says_89 rfl rfl ?_
                          refine wp_icmp_eq (pc := 90) 105 dX7_says_90 (by decide) (fun c_90 => ?_) (fun c_90 => ?_)
                          · exact absurd c_90 (by decide)
                          · refine wp_aload_n (pc := 93) 0 dX7_says_93 rfl rfl ?_
                            refine wq_getR (pc := 94) 46 17 dX7_says_94 s0_40 flX7_46 rfl rfl (by decide) (by decide) ?_
                            refine wp_iload (pc := 97) 4 dX7_says_97 rfl ?_
                            refine wq_iald (pc := 99) 0 dX7_says_99 s0_51 (by decide) rfl (by decide) (by decide) ?_
                            refine wp_int (y := -1) ((hM.2.2.2.2.2.2.2 0 (by decide)).trans (by decide)) ?_
                            refine wp_istore (pc := 100) 4 dX7_says_100 (by decide) rfl ?_
                            refine wp_goto (pc := 102) 81 dX7_says_102 (by decide) ?_
                            refine wp_iload (pc := 81) 4 dX7_says_81 rfl ?_
                            refine wp_iconst (pc := 83) (-1) dX7_says_83 (by decide) ?_
                            refine wp_icmp_eq (pc := 84) 105 dX7_says_84 (by decide) (fun c_84 => ?_) (fun c_84 => ?_)
                            · refine wp_iload (pc := 105) 4 dX7_says_105 rfl ?_
                              refine wp_iconst (pc := 107) (-1) dX7_says_107 (by decide) ?_
                              refine wp_icmp_ne (pc := 108) 120 dX7_says_108 (by decide) (fun c_108 => ?_) (fun c_108 => ?_)
                              · exact absurd (by decide) c_108
                              · refine wp_aload_n (pc := 111) 0 dX7_says_111 rfl rfl ?_
                                refine wp_bipush (pc := 112) (-3) dX7_says_112 (by decide) ?_
                                refine wc_V_I (pc := 114) dX7_says_114 lkX7_81 (sm_Rc.o (ci := 6) s0_40 (by decide) (by decide)) (by decide) (Nat.le_of_ble_eq_true rfl) ?_
                                refine c_X7_no_1 ?_
                                refine wp_goto (pc := 117) 145 dX7_says_117 (by decide) ?_
                                refine wp_iretI (pc := 145) dX7_says_145 rfl ?_
                                rw [if_neg (show ¬ undK 4 3 = true by decide)] at k
                                exact k _ _ _ (hM.bmp (by decide)) (Lo.rf.uI (by decide))
                            · exact absurd (by decide) c_84
              · refine wp_iload (pc := 81) 4 dX7_says_81 rfl ?_
                refine wp_iconst (pc := 83) (-1) dX7_says_83 (by decide) ?_
                refine wp_icmp_eq (pc := 84) 105 dX7_says_84 (by decide) (fun c_84 => ?_) (fun c_84 => ?_)
                · exact absurd c_84 (by decide)
                · refine wp_iload (pc := 87) 4 dX7_says_87 rfl ?_
                  refine wp_iload_n (pc := 89) 2 dX7_says_89 rfl rfl ?_
                  refine wp_icmp_eq (pc := 90) 105 dX7_says_90 (by decide) (fun c_90 => ?_) (fun c_90 => ?_)
                  · refine wp_iload (pc := 105) 4 dX7_says_105 rfl ?_
                    refine wp_iconst (pc := 107) (-1) dX7_says_107 (by decide) ?_
                    refine wp_icmp_ne (pc := 108) 120 dX7_says_108 (by decide) (fun c_108 => ?_) (fun c_108 => ?_)
                    · refine wp_iload_n (pc := 120) 2 dX7_says_120 rfl rfl ?_
                      refine wp_ifne (pc := 121) 140 dX7_says_121 (by decide) (fun c_121 => ?_) (fun c_121 => ?_)
                      · refine wp_aload_n (pc := 140) 0 dX7_says_140 rfl rfl ?_
                        refine wp_iload_n (pc := 141) 3 dX7_says_141 rfl rfl ?_
                        refine wc_V_I (pc := 142) dX7_says_142 lkX7_158 (sm_Rc.o (ci := 6) s0_40 (by decide) (by decide)) (by decide) (Nat.le_of_ble_eq_true rfl) ?_
                        refine c_X7_slip hw hR hr ?_
                        refine wp_iretI (pc := 145) dX7_says_145 rfl ?_
                        rw [if_pos (show undK 4 4 = true by decide)] at k
                        rw [if_neg (show ¬ nI 4 = 0 by decide)] at k
                        exact k _ _ _ hM Lo.rf
                      · exact absurd c_121 (by decide)
                    · exact absurd c_108 (by decide)
                  · exact absurd (by decide) c_90
              · refine wp_iload (pc := 81) 4 dX7_says_81 rfl ?_
                refine wp_iconst (pc := 83) (-1) dX7_says_83 (by decide) ?_
                refine wp_icmp_eq (pc := 84) 105 dX7_says_84 (by decide) (fun c_84 => ?_) (fun c_84 => ?_)
                · exact absurd c_84 (by decide)
                · refine wp_iload (pc := 87) 4 dX7_says_87 rfl ?_
                  refine wp_iload_n (pc := 89) 2 dX7_says_89 rfl rfl ?_
                  refine wp_icmp_eq (pc := 90) 105 dX7_says_90 (by decide) (fun c_90 => ?_) (fun c_90 => ?_)
                  · exact absurd c_90 (by decide)
                  · refine wp_aload_n (pc := 93) 0 dX7_says_93 rfl rfl ?_
                    refine wq_getR (pc := 94) 46 17 dX7_says_94 s0_40 flX7_46 rfl rfl (by decide) (by decide) ?_
                    refine wp_iload (pc := 97) 4 dX7_says_97 rfl ?_
                    refine wq_iald (pc := 99) 4 dX7_says_99 s0_51 (by decide) rfl (by decide) (by decide) ?_
                    refine wp_int (y := 2) ((hM.2.2.2.2.2.2.2 4 (by decide)).trans (by decide)) ?_
                    refine wp_istore (pc := 100) 4 dX7_says_100 (by decide) rfl ?_
                    refine wp_goto (pc := 102) 81 dX7_says_102 (by decide) ?_
                    refine wp_iload (pc := 81) 4 dX7_says_81 rfl ?_
                    refine wp_iconst (pc := 83) (-1) dX7_says_83 (by decide) ?_
                    refine wp_icmp_eq (pc := 84) 105 dX7_says_84 (by decide) (fun c_84 => ?_) (fun c_84 => ?_)
                    · exact absurd c_84 (by decide)
                    · refine wp_iload (pc := 87) 4 dX7_says_87 rfl ?_
                      refine wp_iload_n (pc := 89) 2 dX7_says_89 rfl rfl ?_
                      refine wp_icmp_eq (pc := 90) 105 dX7_says_90 (by decide) (fun c_90 => ?_) (fun c_90 => ?_)
                      · exact absurd c_90 (by decide)
                      · refine wp_aload_n (pc := 93) 0 dX7_says_93 rfl rfl ?_
                        refine wq_getR (pc := 94) 46 17 dX7_says_94 s0_40 flX7_46 rfl rfl (by decide) (by decide) ?_
                        refine wp_iload (pc := 97) 4 dX7_says_97 rfl ?_
                        refine wq_iald (pc := 99) 2 dX7_says_99 s0_51 (by decide) rfl (by decide) (by decide) ?_
                        refine wp_int (y := 0) ((hM.2.2.2.2.2.2.2 2 (by decide)).trans (by decide)) ?_
                        refine wp_istore (pc := 100) 4 dX7_says_100 (by decide) rfl ?_
                        refine wp_goto (pc := 102) 81 dX7_says_102 (by decide) ?_
                        refine wp_iload (pc := 81) 4 dX7_says_81 rfl ?_
                        refine wp_iconst (pc := 83) (-1) dX7_says_83 (by decide) ?_
                        refine wp_icmp_eq (pc := 84) 105 dX7_says_84 (by decide) (fun c_84 => ?_) (fun c_84 => ?_)
                        · exact absurd c_84 (by decide)
                        · refine wp_iload (pc := 87) 4 dX7_says_87 rfl ?_
                          refine wp_iload_n (pc := 89) 2 dX7_says_89 rfl rfl ?_
                          refine wp_icmp_eq (pc := 90) 105 dX7_says_90 (by decide) (fun c_90 => ?_) (fun c_90 => ?_)
                          · exact absurd c_90 (by decide)
                          · refine wp_aload_n (pc := 93) 0 dX7_says_93 rfl rfl ?_
                            refine wq_getR (pc := 94) 46 17 dX7_says_94 s0_40 flX7_46 rfl rfl (by decide) (by decide) ?_
                            refine wp_iload (pc := 97) 4 dX7_says_97 rfl ?_
                            refine wq_iald (pc := 99) 0 dX7_says_99 s0_51 (by decide) rfl (by decide) (by decide) ?_
                            refine wp_int (y := -1) ((hM.2.2.2.2.2.2.2 0 (by decide)).trans (by decide)) ?_
                            refine wp_istore (pc := 100) 4 dX7_says_100 (by decide) rfl ?_
                            refine wp_goto (pc := 102) 81 dX7_says_102 (by decide) ?_
                            refine wp_iload (pc := 81) 4 dX7_says_81 rfl ?_
                            refine wp_iconst (pc := 83) (-1) dX7_says_83 (by decide) ?_
                            refine wp_icmp_eq (pc := 84) 105 dX7_says_84 (by decide) (fun c_84 => ?_) (fun c_84 => ?_)
                            · refine wp_iload (pc := 105) 4 dX7_says_105 rfl ?_
                              refine wp_iconst (pc := 107) (-1) dX7_says_107 (by decide) ?_
                              refine wp_icmp_ne (pc := 108) 120 dX7_says_108 (by decide) (fun c_108 => ?_) (fun c_108 => ?_)
                              · exact absurd (by decide) c_108
                              · refine wp_aload_n (pc := 111) 0 dX7_says_111 rfl rfl ?_
                                refine wp_bipush (pc := 112) (-3) dX7_says_112 (by decide) ?_
                                refine wc_V_I (pc := 114) dX7_says_114 lkX7_81 (sm_Rc.o (ci := 6) s0_40 (by decide) (by decide)) (by decide) (Nat.le_of_ble_eq_true rfl) ?_
                                refine c_X7_no_1 ?_
                                refine wp_goto (pc := 117) 145 dX7_says_117 (by decide) ?_
                                refine wp_iretI (pc := 145) dX7_says_145 rfl ?_
                                rw [if_neg (show ¬ undK 4 5 = true by decide)] at k
                                exact k _ _ _ (hM.bmp (by decide)) (Lo.rf.uI (by decide))
                            · exact absurd (by decide) c_84
            · rcases (show n = 0 ∨ n = 1 ∨ n = 2 ∨ n = 3 ∨ n = 4 ∨ n = 5 by omega) with rfl | rfl | rfl | rfl | rfl | rfl
              · refine wp_iload (pc := 81) 4 dX7_says_81 rfl ?_
                refine wp_iconst (pc := 83) (-1) dX7_says_83 (by decide) ?_
                refine wp_icmp_eq (pc := 84) 105 dX7_says_84 (by decide) (fun c_84 => ?_) (fun c_84 => ?_)
                · exact absurd c_84 (by decide)
                · refine wp_iload (pc := 87) 4 dX7_says_87 rfl ?_
                  refine wp_iload_n (pc := 89) 2 dX7_says_89 rfl rfl ?_
                  refine wp_icmp_eq (pc := 90) 105 dX7_says_90 (by decide) (fun c_90 => ?_) (fun c_90 => ?_)
                  · exact absurd c_90 (by decide)
                  · refine wp_aload_n (pc := 93) 0 dX7_says_93 rfl rfl ?_
                    refine wq_getR (pc := 94) 46 17 dX7_says_94 s0_40 flX7_46 rfl rfl (by decide) (by decide) ?_
                    refine wp_iload (pc := 97) 4 dX7_says_97 rfl ?_
                    refine wq_iald (pc := 99) 5 dX7_says_99 s0_51 (by decide) rfl (by decide) (by decide) ?_
                    refine wp_int (y := 0) ((hM.2.2.2.2.2.2.2 5 (by decide)).trans (by decide)) ?_
                    refine wp_istore (pc := 100) 4 dX7_says_100 (by decide) rfl ?_
                    refine wp_goto (pc := 102) 81 dX7_says_102 (by decide) ?_
                    refine wp_iload (pc := 81) 4 dX7_says_81 rfl ?_
                    refine wp_iconst (pc := 83) (-1) dX7_says_83 (by decide) ?_
                    refine wp_icmp_eq (pc := 84) 105 dX7_says_84 (by decide) (fun c_84 => ?_) (fun c_84 => ?_)
                    · exact absurd c_84 (by decide)
                    · refine wp_iload (pc := 87) 4 dX7_says_87 rfl ?_
                      refine wp_iload_n (pc := 89) 2 dX7_says_89 rfl rfl ?_
                      refine wp_icmp_eq (pc := 90) 105 dX7_says_90 (by decide) (fun c_90 => ?_) (fun c_90 => ?_)
                      · refine wp_iload (pc := 105) 4 dX7_says_105 rfl ?_
                        refine wp_iconst (pc := 107) (-1) dX7_says_107 (by decide) ?_
                        refine wp_icmp_ne (pc := 108) 120 dX7_says_108 (by decide) (fun c_108 => ?_) (fun c_108 => ?_)
                        · refine wp_iload_n (pc := 120) 2 dX7_says_120 rfl rfl ?_
                          refine wp_ifne (pc := 121) 140 dX7_says_121 (by decide) (fun c_121 => ?_) (fun c_121 => ?_)
                          · exact absurd (by decide) c_121
                          · refine wp_aload_n (pc := 124) 0 dX7_says_124 rfl rfl ?_
                            refine wq_getR (pc := 125) 13 0 dX7_says_125 s0_40 flX7_13 rfl rfl (by decide) (by decide) ?_
                            refine wp_bipush (pc := 128) (50) dX7_says_128 (by decide) ?_
                            refine wp_iconst (pc := 130) (3) dX7_says_130 (by decide) ?_
                            refine wp_iload_n (pc := 131) 3 dX7_says_131 rfl rfl ?_
                            refine wp_imul (pc := 132) dX7_says_132 ?_
                            refine wp_iadd (pc := 133) dX7_says_133 ?_
                            refine wp_iconst (pc := 134) (2) dX7_says_134 (by decide) ?_
                            refine wp_iadd (pc := 135) dX7_says_135 ?_
                            refine wq_iald (pc := 136) (50 + 3 * r + 2) dX7_says_136 s0_41 (by decide) ((congrArg (· + 2) (ix3 r)).trans (nI_add _ 2)) (by omega) (by decide) ?_
                            refine wp_int (hR.at (by omega)) ?_
                            refine wp_goto (pc := 137) 145 dX7_says_137 (by decide) ?_
                            refine wp_iretI (pc := 145) dX7_says_145 rfl ?_
                            rw [if_pos (show undK 5 0 = true by decide)] at k
                            rw [if_pos (show nI 0 = 0 from rfl)] at k
                            exact k _ _ _ hM Lo.rf
                        · exact absurd c_108 (by decide)
                      · exact absurd (by decide) c_90
              · refine wp_iload (pc := 81) 4 dX7_says_81 rfl ?_
                refine wp_iconst (pc := 83) (-1) dX7_says_83 (by decide) ?_
                refine wp_icmp_eq (pc := 84) 105 dX7_says_84 (by decide) (fun c_84 => ?_) (fun c_84 => ?_)
                · exact absurd c_84 (by decide)
                · refine wp_iload (pc := 87) 4 dX7_says_87 rfl ?_
                  refine wp_iload_n (pc := 89) 2 dX7_says_89 rfl rfl ?_
                  refine wp_icmp_eq (pc := 90) 105 dX7_says_90 (by decide) (fun c_90 => ?_) (fun c_90 => ?_)
                  · exact absurd c_90 (by decide)
                  · refine wp_aload_n (pc := 93) 0 dX7_says_93 rfl rfl ?_
                    refine wq_getR (pc := 94) 46 17 dX7_says_94 s0_40 flX7_46 rfl rfl (by decide) (by decide) ?_
                    refine wp_iload (pc := 97) 4 dX7_says_97 rfl ?_
                    refine wq_iald (pc := 99) 5 dX7_says_99 s0_51 (by decide) rfl (by decide) (by decide) ?_
                    refine wp_int (y := 0) ((hM.2.2.2.2.2.2.2 5 (by decide)).trans (by decide)) ?_
                    refine wp_istore (pc := 100) 4 dX7_says_100 (by decide) rfl ?_
                    refine wp_goto (pc := 102) 81 dX7_says_102 (by decide) ?_
                    refine wp_iload (pc := 81) 4 dX7_says_81 rfl ?_
                    refine wp_iconst (pc := 83) (-1) dX7_says_83 (by decide) ?_
                    refine wp_icmp_eq (pc := 84) 105 dX7_says_84 (by decide) (fun c_84 => ?_) (fun c_84 => ?_)
                    · exact absurd c_84 (by decide)
                    · refine wp_iload (pc := 87) 4 dX7_says_87 rfl ?_
                      refine wp_iload_n (pc := 89) 2 dX7_says_89 rfl rfl ?_
                      refine wp_icmp_eq (pc := 90) 105 dX7_says_90 (by decide) (fun c_90 => ?_) (fun c_90 => ?_)
                      · exact absurd c_90 (by decide)
                      · refine wp_aload_n (pc := 93) 0 dX7_says_93 rfl rfl ?_
                        refine wq_getR (pc := 94) 46 17 dX7_says_94 s0_40 flX7_46 rfl rfl (by decide) (by decide) ?_
                        refine wp_iload (pc := 97) 4 dX7_says_97 rfl ?_
                        refine wq_iald (pc := 99) 0 dX7_says_99 s0_51 (by decide) rfl (by decide) (by decide) ?_
                        refine wp_int (y := -1) ((hM.2.2.2.2.2.2.2 0 (by decide)).trans (by decide)) ?_
                        refine wp_istore (pc := 100) 4 dX7_says_100 (by decide) rfl ?_
                        refine wp_goto (pc := 102) 81 dX7_says_102 (by decide) ?_
                        refine wp_iload (pc := 81) 4 dX7_says_81 rfl ?_
                        refine wp_iconst (pc := 83) (-1) dX7_says_83 (by decide) ?_
                        refine wp_icmp_eq (pc := 84) 105 dX7_says_84 (by decide) (fun c_84 => ?_) (fun c_84 => ?_)
                        · refine wp_iload (pc := 105) 4 dX7_says_105 rfl ?_
                          refine wp_iconst (pc := 107) (-1) dX7_says_107 (by decide) ?_
                          refine wp_icmp_ne (pc := 108) 120 dX7_says_108 (by decide) (fun c_108 => ?_) (fun c_108 => ?_)
                          · exact absurd (by decide) c_108
                          · refine wp_aload_n (pc := 111) 0 dX7_says_111 rfl rfl ?_
                            refine wp_bipush (pc := 112) (-3) dX7_says_112 (by decide) ?_
                            refine wc_V_I (pc := 114) dX7_says_114 lkX7_81 (sm_Rc.o (ci := 6) s0_40 (by decide) (by decide)) (by decide) (Nat.le_of_ble_eq_true rfl) ?_
                            refine c_X7_no_1 ?_
                            refine wp_goto (pc := 117) 145 dX7_says_117 (by decide) ?_
                            refine wp_iretI (pc := 145) dX7_says_145 rfl ?_
                            rw [if_neg (show ¬ undK 5 1 = true by decide)] at k
                            exact k _ _ _ (hM.bmp (by decide)) (Lo.rf.uI (by decide))
                        · exact absurd (by decide) c_84
              · refine wp_iload (pc := 81) 4 dX7_says_81 rfl ?_
                refine wp_iconst (pc := 83) (-1) dX7_says_83 (by decide) ?_
                refine wp_icmp_eq (pc := 84) 105 dX7_says_84 (by decide) (fun c_84 => ?_) (fun c_84 => ?_)
                · exact absurd c_84 (by decide)
                · refine wp_iload (pc := 87) 4 dX7_says_87 rfl ?_
                  refine wp_iload_n (pc := 89) 2 dX7_says_89 rfl rfl ?_
                  refine wp_icmp_eq (pc := 90) 105 dX7_says_90 (by decide) (fun c_90 => ?_) (fun c_90 => ?_)
                  · exact absurd c_90 (by decide)
                  · refine wp_aload_n (pc := 93) 0 dX7_says_93 rfl rfl ?_
                    refine wq_getR (pc := 94) 46 17 dX7_says_94 s0_40 flX7_46 rfl rfl (by decide) (by decide) ?_
                    refine wp_iload (pc := 97) 4 dX7_says_97 rfl ?_
                    refine wq_iald (pc := 99) 5 dX7_says_99 s0_51 (by decide) rfl (by decide) (by decide) ?_
                    refine wp_int (y := 0) ((hM.2.2.2.2.2.2.2 5 (by decide)).trans (by decide)) ?_
                    refine wp_istore (pc := 100) 4 dX7_says_100 (by decide) rfl ?_
                    refine wp_goto (pc := 102) 81 dX7_says_102 (by decide) ?_
                    refine wp_iload (pc := 81) 4 dX7_says_81 rfl ?_
                    refine wp_iconst (pc := 83) (-1) dX7_says_83 (by decide) ?_
                    refine wp_icmp_eq (pc := 84) 105 dX7_says_84 (by decide) (fun c_84 => ?_) (fun c_84 => ?_)
                    · exact absurd c_84 (by decide)
                    · refine wp_iload (pc := 87) 4 dX7_says_87 rfl ?_
                      refine wp_iload_n (pc := 89) 2 dX7_says_89 rfl rfl ?_
                      refine wp_icmp_eq (pc := 90) 105 dX7_says_90 (by decide) (fun c_90 => ?_) (fun c_90 => ?_)
                      · exact absurd c_90 (by decide)
                      · refine wp_aload_n (pc := 93) 0 dX7_says_93 rfl rfl ?_
                        refine wq_getR (pc := 94) 46 17 dX7_says_94 s0_40 flX7_46 rfl rfl (by decide) (by decide) ?_
                        refine wp_iload (pc := 97) 4 dX7_says_97 rfl ?_
                        refine wq_iald (pc := 99) 0 dX7_says_99 s0_51 (by decide) rfl (by decide) (by decide) ?_
                        refine wp_int (y := -1) ((hM.2.2.2.2.2.2.2 0 (by decide)).trans (by decide)) ?_
                        refine wp_istore (pc := 100) 4 dX7_says_100 (by decide) rfl ?_
                        refine wp_goto (pc := 102) 81 dX7_says_102 (by decide) ?_
                        refine wp_iload (pc := 81) 4 dX7_says_81 rfl ?_
                        refine wp_iconst (pc := 83) (-1) dX7_says_83 (by decide) ?_
                        refine wp_icmp_eq (pc := 84) 105 dX7_says_84 (by decide) (fun c_84 => ?_) (fun c_84 => ?_)
                        · refine wp_iload (pc := 105) 4 dX7_says_105 rfl ?_
                          refine wp_iconst (pc := 107) (-1) dX7_says_107 (by decide) ?_
                          refine wp_icmp_ne (pc := 108) 120 dX7_says_108 (by decide) (fun c_108 => ?_) (fun c_108 => ?_)
                          · exact absurd (by decide) c_108
                          · refine wp_aload_n (pc := 111) 0 dX7_says_111 rfl rfl ?_
                            refine wp_bipush (pc := 112) (-3) dX7_says_112 (by decide) ?_
                            refine wc_V_I (pc := 114) dX7_says_114 lkX7_81 (sm_Rc.o (ci := 6) s0_40 (by decide) (by decide)) (by decide) (Nat.le_of_ble_eq_true rfl) ?_
                            refine c_X7_no_1 ?_
                            refine wp_goto (pc := 117) 145 dX7_says_117 (by decide) ?_
                            refine wp_iretI (pc := 145) dX7_says_145 rfl ?_
                            rw [if_neg (show ¬ undK 5 2 = true by decide)] at k
                            exact k _ _ _ (hM.bmp (by decide)) (Lo.rf.uI (by decide))
                        · exact absurd (by decide) c_84
              · refine wp_iload (pc := 81) 4 dX7_says_81 rfl ?_
                refine wp_iconst (pc := 83) (-1) dX7_says_83 (by decide) ?_
                refine wp_icmp_eq (pc := 84) 105 dX7_says_84 (by decide) (fun c_84 => ?_) (fun c_84 => ?_)
                · exact absurd c_84 (by decide)
                · refine wp_iload (pc := 87) 4 dX7_says_87 rfl ?_
                  refine wp_iload_n (pc := 89) 2 dX7_says_89 rfl rfl ?_
                  refine wp_icmp_eq (pc := 90) 105 dX7_says_90 (by decide) (fun c_90 => ?_) (fun c_90 => ?_)
                  · exact absurd c_90 (by decide)
                  · refine wp_aload_n (pc := 93) 0 dX7_says_93 rfl rfl ?_
                    refine wq_getR (pc := 94) 46 17 dX7_says_94 s0_40 flX7_46 rfl rfl (by decide) (by decide) ?_
                    refine wp_iload (pc := 97) 4 dX7_says_97 rfl ?_
                    refine wq_iald (pc := 99) 5 dX7_says_99 s0_51 (by decide) rfl (by decide) (by decide) ?_
                    refine wp_int (y := 0) ((hM.2.2.2.2.2.2.2 5 (by decide)).trans (by decide)) ?_
                    refine wp_istore (pc := 100) 4 dX7_says_100 (by decide) rfl ?_
                    refine wp_goto (pc := 102) 81 dX7_says_102 (by decide) ?_
                    refine wp_iload (pc := 81) 4 dX7_says_81 rfl ?_
                    refine wp_iconst (pc := 83) (-1) dX7_says_83 (by decide) ?_
                    refine wp_icmp_eq (pc := 84) 105 dX7_says_84 (by decide) (fun c_84 => ?_) (fun c_84 => ?_)
                    · exact absurd c_84 (by decide)
                    · refine wp_iload (pc := 87) 4 dX7_says_87 rfl ?_
                      refine wp_iload_n (pc := 89) 2 dX7_says_89 rfl rfl ?_
                      refine wp_icmp_eq (pc := 90) 105 dX7_says_90 (by decide) (fun c_90 => ?_) (fun c_90 => ?_)
                      · exact absurd c_90 (by decide)
                      · refine wp_aload_n (pc := 93) 0 dX7_says_93 rfl rfl ?_
                        refine wq_getR (pc := 94) 46 17 dX7_says_94 s0_40 flX7_46 rfl rfl (by decide) (by decide) ?_
                        refine wp_iload (pc := 97) 4 dX7_says_97 rfl ?_
                        refine wq_iald (pc := 99) 0 dX7_says_99 s0_51 (by decide) rfl (by decide) (by decide) ?_
                        refine wp_int (y := -1) ((hM.2.2.2.2.2.2.2 0 (by decide)).trans (by decide)) ?_
                        refine wp_istore (pc := 100) 4 dX7_says_100 (by decide) rfl ?_
                        refine wp_goto (pc := 102) 81 dX7_says_102 (by decide) ?_
                        refine wp_iload (pc := 81) 4 dX7_says_81 rfl ?_
                        refine wp_iconst (pc := 83) (-1) dX7_says_83 (by decide) ?_
                        refine wp_icmp_eq (pc := 84) 105 dX7_says_84 (by decide) (fun c_84 => ?_) (fun c_84 => ?_)
                        · refine wp_iload (pc := 105) 4 dX7_says_105 rfl ?_
                          refine wp_iconst (pc := 107) (-1) dX7_says_107 (by decide) ?_
                          refine wp_icmp_ne (pc := 108) 120 dX7_says_108 (by decide) (fun c_108 => ?_) (fun c_108 => ?_)
                          · exact absurd (by decide) c_108
                          · refine wp_aload_n (pc := 111) 0 dX7_says_111 rfl rfl ?_
                            refine wp_bipush (pc := 112) (-3) dX7_says_112 (by decide) ?_
                            refine wc_V_I (pc := 114) dX7_says_114 lkX7_81 (sm_Rc.o (ci := 6) s0_40 (by decide) (by decide)) (by decide) (Nat.le_of_ble_eq_true rfl) ?_
                            refine c_X7_no_1 ?_
                            refine wp_goto (pc := 117) 145 dX7_says_117 (by decide) ?_
                            refine wp_iretI (pc := 145) dX7_says_145 rfl ?_
                            rw [if_neg (show ¬ undK 5 3 = true by decide)] at k
                            exact k _ _ _ (hM.bmp (by decide)) (Lo.rf.uI (by decide))
                        · exact absurd (by decide) c_84
              · refine wp_iload (pc := 81) 4 dX7_says_81 rfl ?_
                refine wp_iconst (pc := 83) (-1) dX7_says_83 (by decide) ?_
                refine wp_icmp_eq (pc := 84) 105 dX7_says_84 (by decide) (fun c_84 => ?_) (fun c_84 => ?_)
                · exact absurd c_84 (by decide)
                · refine wp_iload (pc := 87) 4 dX7_says_87 rfl ?_
                  refine wp_iload_n (pc := 89) 2 dX7_says_89 rfl rfl ?_
                  refine wp_icmp_eq (pc := 90) 105 dX7_says_90 (by decide) (fun c_90 => ?_) (fun c_90 => ?_)
                  · exact absurd c_90 (by decide)
                  · refine wp_aload_n (pc := 93) 0 dX7_says_93 rfl rfl ?_
                    refine wq_getR (pc := 94) 46 17 dX7_says_94 s0_40 flX7_46 rfl rfl (by decide) (by decide) ?_
                    refine wp_iload (pc := 97) 4 dX7_says_97 rfl ?_
                    refine wq_iald (pc := 99) 5 dX7_says_99 s0_51 (by decide) rfl (by decide) (by decide) ?_
                    refine wp_int (y := 0) ((hM.2.2.2.2.2.2.2 5 (by decide)).trans (by decide)) ?_
                    refine wp_istore (pc := 100) 4 dX7_says_100 (by decide) rfl ?_
                    refine wp_goto (pc := 102) 81 dX7_says_102 (by decide) ?_
                    refine wp_iload (pc := 81) 4 dX7_says_81 rfl ?_
                    refine wp_iconst (pc := 83) (-1) dX7_says_83 (by decide) ?_
                    refine wp_icmp_eq (pc := 84) 105 dX7_says_84 (by decide) (fun c_84 => ?_) (fun c_84 => ?_)
                    · exact absurd c_84 (by decide)
                    · refine wp_iload (pc := 87) 4 dX7_says_87 rfl ?_
                      refine wp_iload_n (pc := 89) 2 dX7_says_89 rfl rfl ?_
                      refine wp_icmp_eq (pc := 90) 105 dX7_says_90 (by decide) (fun c_90 => ?_) (fun c_90 => ?_)
                      · exact absurd c_90 (by decide)
                      · refine wp_aload_n (pc := 93) 0 dX7_says_93 rfl rfl ?_
                        refine wq_getR (pc := 94) 46 17 dX7_says_94 s0_40 flX7_46 rfl rfl (by decide) (by decide) ?_
                        refine wp_iload (pc := 97) 4 dX7_says_97 rfl ?_
                        refine wq_iald (pc := 99) 0 dX7_says_99 s0_51 (by decide) rfl (by decide) (by decide) ?_
                        refine wp_int (y := -1) ((hM.2.2.2.2.2.2.2 0 (by decide)).trans (by decide)) ?_
                        refine wp_istore (pc := 100) 4 dX7_says_100 (by decide) rfl ?_
                        refine wp_goto (pc := 102) 81 dX7_says_102 (by decide) ?_
                        refine wp_iload (pc := 81) 4 dX7_says_81 rfl ?_
                        refine wp_iconst (pc := 83) (-1) dX7_says_83 (by decide) ?_
                        refine wp_icmp_eq (pc := 84) 105 dX7_says_84 (by decide) (fun c_84 => ?_) (fun c_84 => ?_)
                        · refine wp_iload (pc := 105) 4 dX7_says_105 rfl ?_
                          refine wp_iconst (pc := 107) (-1) dX7_says_107 (by decide) ?_
                          refine wp_icmp_ne (pc := 108) 120 dX7_says_108 (by decide) (fun c_108 => ?_) (fun c_108 => ?_)
                          · exact absurd (by decide) c_108
                          · refine wp_aload_n (pc := 111) 0 dX7_says_111 rfl rfl ?_
                            refine wp_bipush (pc := 112) (-3) dX7_says_112 (by decide) ?_
                            refine wc_V_I (pc := 114) dX7_says_114 lkX7_81 (sm_Rc.o (ci := 6) s0_40 (by decide) (by decide)) (by decide) (Nat.le_of_ble_eq_true rfl) ?_
                            refine c_X7_no_1 ?_
                            refine wp_goto (pc := 117) 145 dX7_says_117 (by decide) ?_
                            refine wp_iretI (pc := 145) dX7_says_145 rfl ?_
                            rw [if_neg (show ¬ undK 5 4 = true by decide)] at k
                            exact k _ _ _ (hM.bmp (by decide)) (Lo.rf.uI (by decide))
                        · exact absurd (by decide) c_84
              · refine wp_iload (pc := 81) 4 dX7_says_81 rfl ?_
                refine wp_iconst (pc := 83) (-1) dX7_says_83 (by decide) ?_
                refine wp_icmp_eq (pc := 84) 105 dX7_says_84 (by decide) (fun c_84 => ?_) (fun c_84 => ?_)
                · exact absurd c_84 (by decide)
                · refine wp_iload (pc := 87) 4 dX7_says_87 rfl ?_
                  refine wp_iload_n (pc := 89) 2 dX7_says_89 rfl rfl ?_
                  refine wp_icmp_eq (pc := 90) 105 dX7_says_90 (by decide) (fun c_90 => ?_) (fun c_90 => ?_)
                  · refine wp_iload (pc := 105) 4 dX7_says_105 rfl ?_
                    refine wp_iconst (pc := 107) (-1) dX7_says_107 (by decide) ?_
                    refine wp_icmp_ne (pc := 108) 120 dX7_says_108 (by decide) (fun c_108 => ?_) (fun c_108 => ?_)
                    · refine wp_iload_n (pc := 120) 2 dX7_says_120 rfl rfl ?_
                      refine wp_ifne (pc := 121) 140 dX7_says_121 (by decide) (fun c_121 => ?_) (fun c_121 => ?_)
                      · refine wp_aload_n (pc := 140) 0 dX7_says_140 rfl rfl ?_
                        refine wp_iload_n (pc := 141) 3 dX7_says_141 rfl rfl ?_
                        refine wc_V_I (pc := 142) dX7_says_142 lkX7_158 (sm_Rc.o (ci := 6) s0_40 (by decide) (by decide)) (by decide) (Nat.le_of_ble_eq_true rfl) ?_
                        refine c_X7_slip hw hR hr ?_
                        refine wp_iretI (pc := 145) dX7_says_145 rfl ?_
                        rw [if_pos (show undK 5 5 = true by decide)] at k
                        rw [if_neg (show ¬ nI 5 = 0 by decide)] at k
                        exact k _ _ _ hM Lo.rf
                      · exact absurd c_121 (by decide)
                    · exact absurd c_108 (by decide)
                  · exact absurd (by decide) c_90
          · exact absurd (nI_le (a := 10) (by omega) (by omega)) c_48
        · exact absurd c_30 (m1_ne (by omega))
    · refine wp_aload_n (pc := 16) 0 dX7_says_16 rfl rfl ?_
      refine wp_bipush (pc := 17) (-2) dX7_says_17 (by decide) ?_
      refine wc_V_I (pc := 19) dX7_says_19 lkX7_81 (sm_Rc.o (ci := 6) s0_40 (by decide) (by decide)) (by decide) (Nat.le_of_ble_eq_true rfl) ?_
      refine c_X7_no_0 ?_
      refine wp_iretI (pc := 22) dX7_says_22 rfl ?_
      unfold do_says at k
      rw [gat_f (c := (inS (nI a) && upB y 5)) (and_f2 c_13)] at k
      exact k _ _ _ (hM.bmp (by decide)) (Lo.rf.uI (by decide))
def plc : Option Nat → Int32
  | none => 1
  | some j => cod j
theorem c_X7_peal {d : Nat} {F I : Nat → Nat → Int32} {J : Nat → Nat → Int64} {Q : Option Value → sm_H → Prop} {s : Sg} (hM : MR s F I J) (ok : Ok s) {i n : Nat} (hi : i < 8) (hn : n ≤ 40) (k : Q (some (.int (plc (pcd s (nI i) (nI n))))) (S0, F, I, J)) : Wp mX7_peal (d + 0) 0 0 0 (sm_ini [.ref 40, .int (nI i), .int (nI n)] 3) [] (S0, F, I, J) Q := by
  show Wp _ _ _ _ _ [.ref 40, .int (nI i), .int (nI n)] _ _ _
  have hS := hM.2.2.2.2.2.1
  have ho := ok.2.2.2.2.1
  have hz := ok.2.2.1
  have hzi := ho.2 i
  have hx : inS (nI i) = true := decide_eq_true ((i32_in (n := 8) (by decide)).mpr ⟨i, hi, rfl⟩)
  have hy : upB (nI n) 40 = true := decide_eq_true ((i32_le (n := 40) (by decide)).mpr ⟨n, hn, rfl⟩)
  rcases ho.c i with e | ⟨k0, e, hk⟩ | ⟨k0, e, hk, hk2⟩
  · refine wp_aload_n (pc := 0) 0 dX7_peal_0 rfl rfl ?_
    refine wq_getR (pc := 1) 33 13 dX7_peal_1 s0_40 flX7_33 rfl rfl (by decide) (by decide) ?_
    refine wp_iload_n (pc := 4) 1 dX7_peal_4 rfl rfl ?_
    refine wq_iald (pc := 5) i dX7_peal_5 s0_47 (by decide) rfl hi (by decide) ?_
    refine wp_int (hS.1 _ hi) ?_
    refine wp_int (show eN (sgh s i) = -1 by rw [e]; rfl) ?_
    refine wp_iconst (pc := 6) (4) dX7_peal_6 (by decide) ?_
    refine wp_icmp_le (pc := 7) 15 dX7_peal_7 (by decide) (fun c_7 => ?_) (fun c_7 => ?_)
    · refine wp_aload_n (pc := 15) 0 dX7_peal_15 rfl rfl ?_
      refine wq_getR (pc := 16) 33 13 dX7_peal_16 s0_40 flX7_33 rfl rfl (by decide) (by decide) ?_
      refine wp_iload_n (pc := 19) 1 dX7_peal_19 rfl rfl ?_
      refine wq_iald (pc := 20) i dX7_peal_20 s0_47 (by decide) rfl hi (by decide) ?_
      refine wp_int (hS.1 _ hi) ?_
      refine wp_int (show eN (sgh s i) = -1 by rw [e]; rfl) ?_
      refine wp_iconst (pc := 21) (-1) dX7_peal_21 (by decide) ?_
      refine wp_icmp_ne (pc := 22) 30 dX7_peal_22 (by decide) (fun c_22 => ?_) (fun c_22 => ?_)
      · exact absurd (by decide) c_22
      · refine wp_bipush (pc := 25) (-4) dX7_peal_25 (by decide) ?_
        refine wp_goto (pc := 27) 46 dX7_peal_27 (by decide) ?_
        refine wp_iretI (pc := 46) dX7_peal_46 rfl ?_
        rw [pcd_n ⟨hx, hy⟩ hi e] at k
        exact k
    · exact absurd (by decide) c_7
  · refine wp_aload_n (pc := 0) 0 dX7_peal_0 rfl rfl ?_
    refine wq_getR (pc := 1) 33 13 dX7_peal_1 s0_40 flX7_33 rfl rfl (by decide) (by decide) ?_
    refine wp_iload_n (pc := 4) 1 dX7_peal_4 rfl rfl ?_
    refine wq_iald (pc := 5) i dX7_peal_5 s0_47 (by decide) rfl hi (by decide) ?_
    refine wp_int (hS.1 _ hi) ?_
    refine wp_int (show eN (sgh s i) = nI k0 by rw [e]; rfl) ?_
    refine wp_iconst (pc := 6) (4) dX7_peal_6 (by decide) ?_
    refine wp_icmp_le (pc := 7) 15 dX7_peal_7 (by decide) (fun c_7 => ?_) (fun c_7 => ?_)
    · refine wp_aload_n (pc := 15) 0 dX7_peal_15 rfl rfl ?_
      refine wq_getR (pc := 16) 33 13 dX7_peal_16 s0_40 flX7_33 rfl rfl (by decide) (by decide) ?_
      refine wp_iload_n (pc := 19) 1 dX7_peal_19 rfl rfl ?_
      refine wq_iald (pc := 20) i dX7_peal_20 s0_47 (by decide) rfl hi (by decide) ?_
      refine wp_int (hS.1 _ hi) ?_
      refine wp_int (show eN (sgh s i) = nI k0 by rw [e]; rfl) ?_
      refine wp_iconst (pc := 21) (-1) dX7_peal_21 (by decide) ?_
      refine wp_icmp_ne (pc := 22) 30 dX7_peal_22 (by decide) (fun c_22 => ?_) (fun c_22 => ?_)
      · refine wp_aload_n (pc := 30) 0 dX7_peal_30 rfl rfl ?_
        refine wq_getR (pc := 31) 36 14 dX7_peal_31 s0_40 flX7_36 rfl rfl (by decide) (by decide) ?_
        refine wp_iload_n (pc := 34) 1 dX7_peal_34 rfl rfl ?_
        refine wq_iald (pc := 35) i dX7_peal_35 s0_48 (by decide) rfl hi (by decide) ?_
        refine wp_int (hS.2.1 _ hi) ?_
        refine wp_iload_n (pc := 36) 2 dX7_peal_36 rfl rfl ?_
        refine wp_icmp_ge (pc := 37) 45 dX7_peal_37 (by decide) (fun c_37 => ?_) (fun c_37 => ?_)
        · refine wp_iconst (pc := 45) (1) dX7_peal_45 (by decide) ?_
          refine wp_iretI (pc := 46) dX7_peal_46 rfl ?_
          rw [pcd_r ⟨hx, hy⟩ hi hn e hk (fun z => nI_ge z (by omega) c_37)] at k
          exact k
        · refine wp_bipush (pc := 40) (-2) dX7_peal_40 (by decide) ?_
          refine wp_goto (pc := 42) 46 dX7_peal_42 (by decide) ?_
          refine wp_iretI (pc := 46) dX7_peal_46 rfl ?_
          rw [pcd_b ⟨hx, hy⟩ hi hn e hk (Nat.lt_of_not_le fun z => c_37 (nI_le z (by omega)))] at k
          exact k
      · exact absurd c_22 (m1_ne (by omega))
    · exact absurd (nI_le (b := 4) hk (by decide)) c_7
  · refine wp_aload_n (pc := 0) 0 dX7_peal_0 rfl rfl ?_
    refine wq_getR (pc := 1) 33 13 dX7_peal_1 s0_40 flX7_33 rfl rfl (by decide) (by decide) ?_
    refine wp_iload_n (pc := 4) 1 dX7_peal_4 rfl rfl ?_
    refine wq_iald (pc := 5) i dX7_peal_5 s0_47 (by decide) rfl hi (by decide) ?_
    refine wp_int (hS.1 _ hi) ?_
    refine wp_int (show eN (sgh s i) = nI k0 by rw [e]; rfl) ?_
    refine wp_iconst (pc := 6) (4) dX7_peal_6 (by decide) ?_
    refine wp_icmp_le (pc := 7) 15 dX7_peal_7 (by decide) (fun c_7 => ?_) (fun c_7 => ?_)
    · exact absurd c_7 (nI_ge (a := 4) (by omega) (by omega))
    · refine wp_bipush (pc := 10) (-3) dX7_peal_10 (by decide) ?_
      refine wp_goto (pc := 12) 46 dX7_peal_12 (by decide) ?_
      refine wp_iretI (pc := 46) dX7_peal_46 rfl ?_
      rw [pcd_g ⟨hx, hy⟩ hi e hk] at k
      exact k
theorem pcd_row {s : Sg} (ho : hok (sgh s) (sgs s)) {i n : Nat} (hi : i < 8) (hn : n ≤ 40) (h : pcd s (nI i) (nI n) = none) : hsz (sgh s) (sgs s) i = sgs s i ∧ n ≤ sgs s i := by
  have hx : inS (nI i) = true := decide_eq_true ((i32_in (n := 8) (by decide)).mpr ⟨i, hi, rfl⟩)
  have hy : upB (nI n) 40 = true := decide_eq_true ((i32_le (n := 40) (by decide)).mpr ⟨n, hn, rfl⟩)
  rcases ho.c i with e | ⟨k0, e, hk⟩ | ⟨k0, e, hk, hk2⟩
  · rw [pcd_n ⟨hx, hy⟩ hi e] at h; cases h
  · refine ⟨by unfold hsz; rw [e]; exact if_pos (decide_eq_true hk), ?_⟩
    by_cases hl : sgs s i < n
    · rw [pcd_b ⟨hx, hy⟩ hi hn e hk hl] at h; cases h
    · omega
  · rw [pcd_g ⟨hx, hy⟩ hi e hk] at h; cases h
theorem c_X7_pealed {d : Nat} {F I : Nat → Nat → Int32} {J : Nat → Nat → Int64} {Q : Option Value → sm_H → Prop} {s : Sg} (hw : WF (sgf s)) (hR : Rw 41 (sgf s) I) (hS : ShR 47 (sgh s) (sgs s) (sge s) I J) {i n : Nat} (hi : i < 8) (hn40 : n ≤ 40) (hzn : n ≤ hsz (sgh s) (sgs s) i) (kk : ∀ I1 : Nat → Nat → Int32, Rw 41 (plU (elA (sgh s) (sgs s) (sge s) i) n 0 (sgf s)).2 I1 → RF I I1 → Q (some (.int (eN (plU (elA (sgh s) (sgs s) (sge s) i) n 0 (sgf s)).1))) (S0, F, I1, J)) : Wp mX7_pealed (d + 3) 0 0 0 (sm_ini [.ref 40, .int (nI i), .int (nI n)] 6) [] (S0, F, I, J) Q := by
  show Wp _ _ _ _ _ [.ref 40, .int (nI i), .int (nI n), .null, .null, .null] _ _ _
  refine wp_iconst (pc := 0) (0) dX7_pealed_0 (by decide) ?_
  refine wp_istore_n (pc := 1) 3 dX7_pealed_1 rfl (by decide) rfl ?_
  refine wp_loopS (σ := (Nat → Nat → Int32) × rw_) (fun j _ => [.ref 40, .int (nI i), .int (nI n), .int (nI j), .null, .null]) (fun _ t => (S0, F, t.1, J)) (fun j t => Rw 41 t.2 t.1 ∧ WF t.2 ∧ RF I t.1 ∧ plU (elA (sgh s) (sgs s) (sge s) i) n 0 (sgf s) = plU (elA (sgh s) (sgs s) (sge s) i) (n - j) j t.2) n (fun j t hj hs nx => ?_) (fun t hs => ?_) 0 (I, sgf s) (Nat.zero_le _) ⟨hR, hw, RF.rf, rfl⟩
  · obtain ⟨hR1, hw1, hf1, hpl⟩ := hs
    have hg := hw1.n
    have hel : elA (sgh s) (sgs s) (sge s) i j = J 49 (i * 40 + j) := by
      unfold elA
      rw [if_pos (by omega)]
      exact (hS.2.2 _ (by omega)).symm
    refine wp_iload_n (pc := 2) 3 dX7_pealed_2 rfl rfl ?_
    refine wp_iload_n (pc := 3) 2 dX7_pealed_3 rfl rfl ?_
    refine wp_icmp_ge (pc := 4) 63 dX7_pealed_4 (by decide) (fun c_4 => ?_) (fun c_4 => ?_)
    · exact absurd c_4 (nI_ge hj (by omega))
    · refine wp_aload_n (pc := 7) 0 dX7_pealed_7 rfl rfl ?_
      refine wq_getR (pc := 8) 39 15 dX7_pealed_8 s0_40 flX7_39 rfl rfl (by decide) (by decide) ?_
      refine wp_bipush (pc := 11) (40) dX7_pealed_11 (by decide) ?_
      refine wp_iload_n (pc := 13) 1 dX7_pealed_13 rfl rfl ?_
      refine wp_imul (pc := 14) dX7_pealed_14 ?_
      refine wp_iload_n (pc := 15) 3 dX7_pealed_15 rfl rfl ?_
      refine wp_iadd (pc := 16) dX7_pealed_16 ?_
      refine wq_lald (pc := 17) (i * 40 + j) dX7_pealed_17 s0_49 (by decide) (ix40 i j) (by omega) (by decide) ?_
      refine wp_lng hel.symm ?_
      refine wp_lstore (pc := 18) 4 dX7_pealed_18 (by decide) rfl ?_
      refine wp_lload (pc := 20) 4 dX7_pealed_20 rfl ?_
      refine wp_lconst (pc := 22) 0 dX7_pealed_22 (by decide) ?_
      refine wp_lcmp (pc := 23) dX7_pealed_23 ?_
      refine wp_iflt (pc := 24) 48 dX7_pealed_24 (by decide) (fun c_24 => ?_) (fun c_24 => ?_)
      · refine wp_iload_n (pc := 48) 3 dX7_pealed_48 rfl rfl ?_
        refine wp_iretI (pc := 49) dX7_pealed_49 rfl ?_
        rw [hpl, show n - j = n - j - 1 + 1 by omega, pl_f (and_f1 (decide_eq_false (fun z => Int64.not_le.mpr ((lg_cmp_lt _ _).mp c_24) z.1)))] at kk
        exact kk _ hR1 hf1
      · refine wp_lload (pc := 27) 4 dX7_pealed_27 rfl ?_
        refine wp_aload_n (pc := 29) 0 dX7_pealed_29 rfl rfl ?_
        refine wc_V_ (pc := 30) dX7_pealed_30 lkX7_57 (sm_Rc.o (ci := 6) s0_40 (by decide) (by decide)) (by decide) (Nat.le_of_ble_eq_true rfl) ?_
        refine c_X7_many hw1 hR1 ?_
        refine wp_i2l (pc := 33) dX7_pealed_33 ?_
        refine wp_lcmp (pc := 34) dX7_pealed_34 ?_
        refine wp_ifge (pc := 35) 48 dX7_pealed_35 (by decide) (fun c_35 => ?_) (fun c_35 => ?_)
        · refine wp_iload_n (pc := 48) 3 dX7_pealed_48 rfl rfl ?_
          refine wp_iretI (pc := 49) dX7_pealed_49 rfl ?_
          rw [hpl, show n - j = n - j - 1 + 1 by omega, pl_f (and_f1 (decide_eq_false (fun z => Int64.not_lt.mpr ((lg_cmp_ge _ _).mp c_35) z.2)))] at kk
          exact kk _ hR1 hf1
        · have h0 := Int64.not_lt.mp (fun z => c_24 ((lg_cmp_lt _ _).mpr z))
          have h1 := Int64.not_le.mp (fun z => c_35 ((lg_cmp_ge _ _).mpr z))
          obtain ⟨m, hm1, hm2⟩ := l2i_n hg h0 h1
          refine wp_aload_n (pc := 38) 0 dX7_pealed_38 rfl rfl ?_
          refine wp_lload (pc := 39) 4 dX7_pealed_39 rfl ?_
          refine wp_l2i (pc := 41) dX7_pealed_41 ?_
          refine wp_int hm2 ?_
          refine wc_V_I (pc := 42) dX7_pealed_42 lkX7_138 (sm_Rc.o (ci := 6) s0_40 (by decide) (by decide)) (by decide) (Nat.le_of_ble_eq_true rfl) ?_
          refine c_X7_may hw1 hR1 hm1 ?_
          refine wp_ifne (pc := 45) 50 dX7_pealed_45 (by decide) (fun c_45 => ?_) (fun c_45 => ?_)
          · refine wp_aload_n (pc := 50) 0 dX7_pealed_50 rfl rfl ?_
            refine wp_lload (pc := 51) 4 dX7_pealed_51 rfl ?_
            refine wp_l2i (pc := 53) dX7_pealed_53 ?_
            refine wp_int hm2 ?_
            refine wc_V_I (pc := 54) dX7_pealed_54 lkX7_207 (sm_Rc.o (ci := 6) s0_40 (by decide) (by decide)) (by decide) (Nat.le_of_ble_eq_true rfl) ?_
            refine c_X7_rings hw1 hR1 hm1 (fun I2 hR2 hf2 => ?_)
            refine wp_incN (pc := 57) 3 dX7_pealed_57 rfl (by decide) rfl ?_
            refine wp_goto (pc := 60) 2 dX7_pealed_60 (by decide) ?_
            have hok : okT t.2 (elA (sgh s) (sgs s) (sge s) i j) = true := and_tt (decide_eq_true ⟨h0, h1⟩) (decide_eq_true (fun z => c_45 (by rw [hm2, nI_clamp (by omega)] at z; rw [z]; rfl)))
            rw [show n - j = n - (j + 1) + 1 by omega, pl_t hok, hm2, nI_clamp (by omega)] at hpl
            have nx := nx (I2, rgT t.2 m) ⟨hR2, WF_rgT hw1 hm1, hf1.tr hf2, hpl⟩
            refine wp_weak ?_ nx
            exact And.intro (Or.inr rfl) (And.intro (Or.inr rfl) (And.intro (Or.inr rfl) (And.intro (Or.inr rfl) (And.intro (Or.inl rfl) (And.intro (Or.inl rfl) (trivial))))))
          · refine wp_iload_n (pc := 48) 3 dX7_pealed_48 rfl rfl ?_
            refine wp_iretI (pc := 49) dX7_pealed_49 rfl ?_
            rw [hpl, show n - j = n - j - 1 + 1 by omega, pl_f (and_f2 (decide_eq_false (fun z => z (by rw [hm2, nI_clamp (by omega)]; exact (nI0 (may_le2 _ _)).mp c_45))))] at kk
            exact kk _ hR1 hf1
  · obtain ⟨hR1, hw1, hf1, hpl⟩ := hs
    refine wp_iload_n (pc := 2) 3 dX7_pealed_2 rfl rfl ?_
    refine wp_iload_n (pc := 3) 2 dX7_pealed_3 rfl rfl ?_
    refine wp_icmp_ge (pc := 4) 63 dX7_pealed_4 (by decide) (fun c_4 => ?_) (fun c_4 => ?_)
    · refine wp_iconst (pc := 63) (-1) dX7_pealed_63 (by decide) ?_
      refine wp_iretI (pc := 64) dX7_pealed_64 rfl ?_
      rw [hpl, Nat.sub_self] at kk
      exact kk _ hR1 hf1
    · exact absurd (Int32.le_refl _) c_4
theorem c_X7_judge {d : Nat} {F I : Nat → Nat → Int32} {J : Nat → Nat → Int64} {Q : Option Value → sm_H → Prop} {x y : Int32} {s : Sg} (hM : MR s F I J) (ok : Ok s) (k : ∀ F1 I1 J1, MR (do_judge s x y).2 F1 I1 J1 → Lo F I J F1 I1 J1 → Q (some (.int (do_judge s x y).1)) (S0, F1, I1, J1)) : Wp mX7_judge (d + 4) 0 0 0 (sm_ini [.ref 40, .int x, .int y] 4) [] (S0, F, I, J) Q := by
  show Wp _ _ _ _ _ [.ref 40, .int x, .int y, .null] _ _ _
  have hw := ok.1
  have hR := hM.1
  have hn := hw.n
  have hcw := hw.c
  have hbn := bn_1024 hw
  have hbl := bn_lt hw
  have hp2 := p2n hw
  have hh1 := hw.wth
  have hh2 := hw.crk
  have hh3 := hw.year
  have hS := hM.2.2.2.2.2.1
  have ho := ok.2.2.2.2.1
  have hz := ok.2.2.1
  refine wp_iload_n (pc := 0) 1 dX7_judge_0 rfl rfl ?_
  refine wc_S_I (pc := 1) dX7_judge_1 lkX7_204 (by decide) (Nat.le_of_ble_eq_true rfl) ?_
  refine c_X7_isShelf ?_
  refine wp_ifeqB (pc := 4) 17 dX7_judge_4 (by decide) (fun c_4 => ?_) (fun c_4 => ?_)
  · refine wp_aload_n (pc := 17) 0 dX7_judge_17 rfl rfl ?_
    refine wp_bipush (pc := 18) (-2) dX7_judge_18 (by decide) ?_
    refine wc_V_I (pc := 20) dX7_judge_20 lkX7_81 (sm_Rc.o (ci := 6) s0_40 (by decide) (by decide)) (by decide) (Nat.le_of_ble_eq_true rfl) ?_
    refine c_X7_no_0 ?_
    refine wp_iretI (pc := 23) dX7_judge_23 rfl ?_
    rw [do_judge_s (pcd_0 (fun z => by rw [c_4] at z; exact absurd z.1 (by decide)))] at k
    exact k _ _ _ (hM.bmp (by decide)) (Lo.rf.uI (by decide))
  · obtain ⟨i, hi, rfl⟩ := (i32_in (n := 8) (by decide)).mp (of_decide_eq_true c_4)
    refine wp_iload_n (pc := 7) 2 dX7_judge_7 rfl rfl ?_
    refine wp_iconst (pc := 8) (0) dX7_judge_8 (by decide) ?_
    refine wp_bipush (pc := 9) (40) dX7_judge_9 (by decide) ?_
    refine wc_S_III (pc := 11) dX7_judge_11 lkX7_49 (by decide) (Nat.le_of_ble_eq_true rfl) ?_
    refine c_X7_isIn ?_
    refine wp_ifneB (pc := 14) 24 dX7_judge_14 (by decide) (fun c_14 => ?_) (fun c_14 => ?_)
    · obtain ⟨n, hn, rfl⟩ := (i32_le (n := 40) (by decide)).mp (of_decide_eq_true c_14)
      rcases hp : pcd s (nI i) (nI n) with _ | j
      · refine wp_aload_n (pc := 24) 0 dX7_judge_24 rfl rfl ?_
        refine wp_iload_n (pc := 25) 1 dX7_judge_25 rfl rfl ?_
        refine wp_iload_n (pc := 26) 2 dX7_judge_26 rfl rfl ?_
        refine wc_V_II (pc := 27) dX7_judge_27 lkX7_211 (sm_Rc.o (ci := 6) s0_40 (by decide) (by decide)) (by decide) (Nat.le_of_ble_eq_true rfl) ?_
        refine c_X7_peal hM ok hi hn ?_
        rw [hp]
        refine wp_int (y := 1) rfl ?_
        refine wp_iconst (pc := 30) (1) dX7_judge_30 (by decide) ?_
        refine wp_icmp_eq (pc := 31) 45 dX7_judge_31 (by decide) (fun c_31 => ?_) (fun c_31 => ?_)
        · refine wp_aload_n (pc := 45) 0 dX7_judge_45 rfl rfl ?_
          refine wq_getR (pc := 46) 13 0 dX7_judge_46 s0_40 flX7_13 rfl rfl (by decide) (by decide) ?_
          refine wp_aload_n (pc := 49) 0 dX7_judge_49 rfl rfl ?_
          refine wq_getR (pc := 50) 17 1 dX7_judge_50 s0_40 flX7_17 rfl rfl (by decide) (by decide) ?_
          refine wc_S_RR (pc := 53) dX7_judge_53 lkX7_128 (by decide) (Nat.le_of_ble_eq_true rfl) ?_
          refine c_X7_move (a := 41) (b := 42) s0_41 s0_42 (by decide) (by decide) (by decide) ?_
          have hR0 : Rw 41 (sgf s) (rwI I 42 (I 41) 74) := fun j hj => by rw [rwI_ne (by decide)]; exact hR j hj
          have hS0 : ShR 47 (sgh s) (sgs s) (sge s) (rwI I 42 (I 41) 74) J := ⟨fun x hx => by rw [rwI_ne (by decide)]; exact hS.1 x hx, fun x hx => by rw [rwI_ne (by decide)]; exact hS.2.1 x hx, hS.2.2⟩
          have hM0 : MR s F (rwI I 42 (I 41) 74) J := hM.scr rfl rfl (fun a ha => rwI_ne ha) (fun _ _ => rfl)
          refine wp_aload_n (pc := 56) 0 dX7_judge_56 rfl rfl ?_
          refine wp_iload_n (pc := 57) 1 dX7_judge_57 rfl rfl ?_
          refine wp_iload_n (pc := 58) 2 dX7_judge_58 rfl rfl ?_
          refine wc_V_II (pc := 59) dX7_judge_59 lkX7_214 (sm_Rc.o (ci := 6) s0_40 (by decide) (by decide)) (by decide) (Nat.le_of_ble_eq_true rfl) ?_
          refine c_X7_pealed hw hR0 hS0 hi hn (by rw [(pcd_row ho hi hn hp).1]; exact (pcd_row ho hi hn hp).2) (fun I1 hR1 hf1 => ?_)
          refine wp_istore_n (pc := 62) 3 dX7_judge_62 rfl (by decide) rfl ?_
          refine wp_aload_n (pc := 63) 0 dX7_judge_63 rfl rfl ?_
          refine wq_getR (pc := 64) 17 1 dX7_judge_64 s0_40 flX7_17 rfl rfl (by decide) (by decide) ?_
          refine wp_aload_n (pc := 67) 0 dX7_judge_67 rfl rfl ?_
          refine wq_getR (pc := 68) 13 0 dX7_judge_68 s0_40 flX7_13 rfl rfl (by decide) (by decide) ?_
          refine wc_S_RR (pc := 71) dX7_judge_71 lkX7_128 (by decide) (Nat.le_of_ble_eq_true rfl) ?_
          refine c_X7_move (a := 42) (b := 41) s0_42 s0_41 (by decide) (by decide) (by decide) ?_
          refine wp_iload_n (pc := 74) 3 dX7_judge_74 rfl rfl ?_
          refine wp_iretI (pc := 75) dX7_judge_75 rfl ?_
          have hM2 : MR s F (rwI I1 41 (I1 42) 74) J := hM0.f (f := sgf s) (fun j hj => (rwI_at hj).trans ((congrFun (hf1 42 (by decide)) j).trans ((rwI_at hj).trans (hR j hj)))) (fun a ha => (rwI_ne ha).trans (hf1 a ha))
          have hlo : Lo F I J F (rwI I1 41 (I1 42) 74) J := ((mv_lo (by decide)).tr hf1.lo).tr (mv_lo (by decide))
          rw [do_judge_n hp hi hn] at k
          exact k _ _ _ hM2 hlo
        · exact absurd (by decide) c_31
      · have hj := pcd_lt hp
        rcases (show j = 0 ∨ j = 1 ∨ j = 2 by omega) with rfl | rfl | rfl
        · refine wp_aload_n (pc := 24) 0 dX7_judge_24 rfl rfl ?_
          refine wp_iload_n (pc := 25) 1 dX7_judge_25 rfl rfl ?_
          refine wp_iload_n (pc := 26) 2 dX7_judge_26 rfl rfl ?_
          refine wc_V_II (pc := 27) dX7_judge_27 lkX7_211 (sm_Rc.o (ci := 6) s0_40 (by decide) (by decide)) (by decide) (Nat.le_of_ble_eq_true rfl) ?_
          refine c_X7_peal hM ok hi hn ?_
          rw [hp]
          refine wp_int (y := -2) rfl ?_
          refine wp_iconst (pc := 30) (1) dX7_judge_30 (by decide) ?_
          refine wp_icmp_eq (pc := 31) 45 dX7_judge_31 (by decide) (fun c_31 => ?_) (fun c_31 => ?_)
          · exact absurd c_31 (by decide)
          · refine wp_aload_n (pc := 34) 0 dX7_judge_34 rfl rfl ?_
            refine wp_aload_n (pc := 35) 0 dX7_judge_35 rfl rfl ?_
            refine wp_iload_n (pc := 36) 1 dX7_judge_36 rfl rfl ?_
            refine wp_iload_n (pc := 37) 2 dX7_judge_37 rfl rfl ?_
            refine wc_V_II (pc := 38) dX7_judge_38 lkX7_211 (sm_Rc.o (ci := 6) s0_40 (by decide) (by decide)) (by decide) (Nat.le_of_ble_eq_true rfl) ?_
            refine c_X7_peal hM ok hi hn ?_
            rw [hp]
            refine wp_int (y := -2) rfl ?_
            refine wc_V_I (pc := 41) dX7_judge_41 lkX7_81 (sm_Rc.o (ci := 6) s0_40 (by decide) (by decide)) (by decide) (Nat.le_of_ble_eq_true rfl) ?_
            refine c_X7_no_0 ?_
            refine wp_iretI (pc := 44) dX7_judge_44 rfl ?_
            rw [do_judge_s hp] at k
            exact k _ _ _ (hM.bmp (by decide)) (Lo.rf.uI (by decide))
        · refine wp_aload_n (pc := 24) 0 dX7_judge_24 rfl rfl ?_
          refine wp_iload_n (pc := 25) 1 dX7_judge_25 rfl rfl ?_
          refine wp_iload_n (pc := 26) 2 dX7_judge_26 rfl rfl ?_
          refine wc_V_II (pc := 27) dX7_judge_27 lkX7_211 (sm_Rc.o (ci := 6) s0_40 (by decide) (by decide)) (by decide) (Nat.le_of_ble_eq_true rfl) ?_
          refine c_X7_peal hM ok hi hn ?_
          rw [hp]
          refine wp_int (y := -3) rfl ?_
          refine wp_iconst (pc := 30) (1) dX7_judge_30 (by decide) ?_
          refine wp_icmp_eq (pc := 31) 45 dX7_judge_31 (by decide) (fun c_31 => ?_) (fun c_31 => ?_)
          · exact absurd c_31 (by decide)
          · refine wp_aload_n (pc := 34) 0 dX7_judge_34 rfl rfl ?_
            refine wp_aload_n (pc := 35) 0 dX7_judge_35 rfl rfl ?_
            refine wp_iload_n (pc := 36) 1 dX7_judge_36 rfl rfl ?_
            refine wp_iload_n (pc := 37) 2 dX7_judge_37 rfl rfl ?_
            refine wc_V_II (pc := 38) dX7_judge_38 lkX7_211 (sm_Rc.o (ci := 6) s0_40 (by decide) (by decide)) (by decide) (Nat.le_of_ble_eq_true rfl) ?_
            refine c_X7_peal hM ok hi hn ?_
            rw [hp]
            refine wp_int (y := -3) rfl ?_
            refine wc_V_I (pc := 41) dX7_judge_41 lkX7_81 (sm_Rc.o (ci := 6) s0_40 (by decide) (by decide)) (by decide) (Nat.le_of_ble_eq_true rfl) ?_
            refine c_X7_no_1 ?_
            refine wp_iretI (pc := 44) dX7_judge_44 rfl ?_
            rw [do_judge_s hp] at k
            exact k _ _ _ (hM.bmp (by decide)) (Lo.rf.uI (by decide))
        · refine wp_aload_n (pc := 24) 0 dX7_judge_24 rfl rfl ?_
          refine wp_iload_n (pc := 25) 1 dX7_judge_25 rfl rfl ?_
          refine wp_iload_n (pc := 26) 2 dX7_judge_26 rfl rfl ?_
          refine wc_V_II (pc := 27) dX7_judge_27 lkX7_211 (sm_Rc.o (ci := 6) s0_40 (by decide) (by decide)) (by decide) (Nat.le_of_ble_eq_true rfl) ?_
          refine c_X7_peal hM ok hi hn ?_
          rw [hp]
          refine wp_int (y := -4) rfl ?_
          refine wp_iconst (pc := 30) (1) dX7_judge_30 (by decide) ?_
          refine wp_icmp_eq (pc := 31) 45 dX7_judge_31 (by decide) (fun c_31 => ?_) (fun c_31 => ?_)
          · exact absurd c_31 (by decide)
          · refine wp_aload_n (pc := 34) 0 dX7_judge_34 rfl rfl ?_
            refine wp_aload_n (pc := 35) 0 dX7_judge_35 rfl rfl ?_
            refine wp_iload_n (pc := 36) 1 dX7_judge_36 rfl rfl ?_
            refine wp_iload_n (pc := 37) 2 dX7_judge_37 rfl rfl ?_
            refine wc_V_II (pc := 38) dX7_judge_38 lkX7_211 (sm_Rc.o (ci := 6) s0_40 (by decide) (by decide)) (by decide) (Nat.le_of_ble_eq_true rfl) ?_
            refine c_X7_peal hM ok hi hn ?_
            rw [hp]
            refine wp_int (y := -4) rfl ?_
            refine wc_V_I (pc := 41) dX7_judge_41 lkX7_81 (sm_Rc.o (ci := 6) s0_40 (by decide) (by decide)) (by decide) (Nat.le_of_ble_eq_true rfl) ?_
            refine c_X7_no_2 ?_
            refine wp_iretI (pc := 44) dX7_judge_44 rfl ?_
            rw [do_judge_s hp] at k
            exact k _ _ _ (hM.bmp (by decide)) (Lo.rf.uI (by decide))
    · refine wp_aload_n (pc := 17) 0 dX7_judge_17 rfl rfl ?_
      refine wp_bipush (pc := 18) (-2) dX7_judge_18 (by decide) ?_
      refine wc_V_I (pc := 20) dX7_judge_20 lkX7_81 (sm_Rc.o (ci := 6) s0_40 (by decide) (by decide)) (by decide) (Nat.le_of_ble_eq_true rfl) ?_
      refine c_X7_no_0 ?_
      refine wp_iretI (pc := 23) dX7_judge_23 rfl ?_
      rw [do_judge_s (pcd_0 (fun z => absurd (c_14.symm.trans z.2) (by decide)))] at k
      exact k _ _ _ (hM.bmp (by decide)) (Lo.rf.uI (by decide))
theorem bh_0 {s : Sg} {x y z : Int32} (h : pcd s x y = some 0 ∨ upB z 1 = false) : do_behind s x y z = rfz s 0 := by
  by_cases hz : upB z 1 = true
  · rcases h with h | h
    · exact do_behind_s hz h
    · exact absurd (h.symm.trans hz) (by decide)
  · unfold do_behind
    rw [if_neg hz]
theorem c_X7_behind {d : Nat} {F I : Nat → Nat → Int32} {J : Nat → Nat → Int64} {Q : Option Value → sm_H → Prop} {x y z : Int32} {s : Sg} (hM : MR s F I J) (ok : Ok s) (k : ∀ F1 I1 J1, MR (do_behind s x y z).2 F1 I1 J1 → Lo F I J F1 I1 J1 → Q (some (.int (do_behind s x y z).1)) (S0, F1, I1, J1)) : Wp mX7_behind (d + 4) 0 0 0 (sm_ini [.ref 40, .int x, .int y, .int z] 6) [] (S0, F, I, J) Q := by
  show Wp _ _ _ _ _ [.ref 40, .int x, .int y, .int z, .null, .null] _ _ _
  have hw := ok.1
  have hR := hM.1
  have hn := hw.n
  have hcw := hw.c
  have hbn := bn_1024 hw
  have hbl := bn_lt hw
  have hp2 := p2n hw
  have hh1 := hw.wth
  have hh2 := hw.crk
  have hh3 := hw.year
  have hS := hM.2.2.2.2.2.1
  have ho := ok.2.2.2.2.1
  have hz := ok.2.2.1
  refine wp_iload_n (pc := 0) 1 dX7_behind_0 rfl rfl ?_
  refine wc_S_I (pc := 1) dX7_behind_1 lkX7_204 (by decide) (Nat.le_of_ble_eq_true rfl) ?_
  refine c_X7_isShelf ?_
  refine wp_ifeqB (pc := 4) 26 dX7_behind_4 (by decide) (fun c_4 => ?_) (fun c_4 => ?_)
  · refine wp_aload_n (pc := 26) 0 dX7_behind_26 rfl rfl ?_
    refine wp_bipush (pc := 27) (-2) dX7_behind_27 (by decide) ?_
    refine wc_V_I (pc := 29) dX7_behind_29 lkX7_81 (sm_Rc.o (ci := 6) s0_40 (by decide) (by decide)) (by decide) (Nat.le_of_ble_eq_true rfl) ?_
    refine c_X7_no_0 ?_
    refine wp_iretI (pc := 32) dX7_behind_32 rfl ?_
    rw [bh_0 (Or.inl (pcd_0 (fun z => by rw [c_4] at z; exact absurd z.1 (by decide))))] at k
    exact k _ _ _ (hM.bmp (by decide)) (Lo.rf.uI (by decide))
  · obtain ⟨i, hi, rfl⟩ := (i32_in (n := 8) (by decide)).mp (of_decide_eq_true c_4)
    refine wp_iload_n (pc := 7) 2 dX7_behind_7 rfl rfl ?_
    refine wp_iconst (pc := 8) (0) dX7_behind_8 (by decide) ?_
    refine wp_bipush (pc := 9) (40) dX7_behind_9 (by decide) ?_
    refine wc_S_III (pc := 11) dX7_behind_11 lkX7_49 (by decide) (Nat.le_of_ble_eq_true rfl) ?_
    refine c_X7_isIn ?_
    refine wp_ifeqB (pc := 14) 26 dX7_behind_14 (by decide) (fun c_14 => ?_) (fun c_14 => ?_)
    · refine wp_aload_n (pc := 26) 0 dX7_behind_26 rfl rfl ?_
      refine wp_bipush (pc := 27) (-2) dX7_behind_27 (by decide) ?_
      refine wc_V_I (pc := 29) dX7_behind_29 lkX7_81 (sm_Rc.o (ci := 6) s0_40 (by decide) (by decide)) (by decide) (Nat.le_of_ble_eq_true rfl) ?_
      refine c_X7_no_0 ?_
      refine wp_iretI (pc := 32) dX7_behind_32 rfl ?_
      rw [bh_0 (Or.inl (pcd_0 (fun z => absurd (c_14.symm.trans z.2) (by decide))))] at k
      exact k _ _ _ (hM.bmp (by decide)) (Lo.rf.uI (by decide))
    · obtain ⟨n, hn, rfl⟩ := (i32_le (n := 40) (by decide)).mp (of_decide_eq_true c_14)
      refine wp_iload_n (pc := 17) 3 dX7_behind_17 rfl rfl ?_
      refine wp_iconst (pc := 18) (0) dX7_behind_18 (by decide) ?_
      refine wp_iconst (pc := 19) (1) dX7_behind_19 (by decide) ?_
      refine wc_S_III (pc := 20) dX7_behind_20 lkX7_49 (by decide) (Nat.le_of_ble_eq_true rfl) ?_
      refine c_X7_isIn ?_
      refine wp_ifneB (pc := 23) 33 dX7_behind_23 (by decide) (fun c_23 => ?_) (fun c_23 => ?_)
      · rcases hp : pcd s (nI i) (nI n) with _ | j
        · rw [do_behind_n c_23 hp hi hn] at k
          refine wp_aload_n (pc := 33) 0 dX7_behind_33 rfl rfl ?_
          refine wp_iload_n (pc := 34) 1 dX7_behind_34 rfl rfl ?_
          refine wp_iload_n (pc := 35) 2 dX7_behind_35 rfl rfl ?_
          refine wc_V_II (pc := 36) dX7_behind_36 lkX7_211 (sm_Rc.o (ci := 6) s0_40 (by decide) (by decide)) (by decide) (Nat.le_of_ble_eq_true rfl) ?_
          refine c_X7_peal hM ok hi hn ?_
          rw [hp]
          refine wp_int (y := 1) rfl ?_
          refine wp_iconst (pc := 39) (1) dX7_behind_39 (by decide) ?_
          refine wp_icmp_eq (pc := 40) 54 dX7_behind_40 (by decide) (fun c_40 => ?_) (fun c_40 => ?_)
          · refine wp_aload_n (pc := 54) 0 dX7_behind_54 rfl rfl ?_
            refine wq_getR (pc := 55) 13 0 dX7_behind_55 s0_40 flX7_13 rfl rfl (by decide) (by decide) ?_
            refine wp_aload_n (pc := 58) 0 dX7_behind_58 rfl rfl ?_
            refine wq_getR (pc := 59) 17 1 dX7_behind_59 s0_40 flX7_17 rfl rfl (by decide) (by decide) ?_
            refine wc_S_RR (pc := 62) dX7_behind_62 lkX7_128 (by decide) (Nat.le_of_ble_eq_true rfl) ?_
            refine c_X7_move (a := 41) (b := 42) s0_41 s0_42 (by decide) (by decide) (by decide) ?_
            have hR0 : Rw 41 (sgf s) (rwI I 42 (I 41) 74) := fun j hj => by rw [rwI_ne (by decide)]; exact hR j hj
            have hS0 : ShR 47 (sgh s) (sgs s) (sge s) (rwI I 42 (I 41) 74) J := ⟨fun x hx => by rw [rwI_ne (by decide)]; exact hS.1 x hx, fun x hx => by rw [rwI_ne (by decide)]; exact hS.2.1 x hx, hS.2.2⟩
            have hM0 : MR s F (rwI I 42 (I 41) 74) J := hM.scr rfl rfl (fun a ha => rwI_ne ha) (fun _ _ => rfl)
            refine wp_aload_n (pc := 65) 0 dX7_behind_65 rfl rfl ?_
            refine wp_iload_n (pc := 66) 1 dX7_behind_66 rfl rfl ?_
            refine wp_iload_n (pc := 67) 2 dX7_behind_67 rfl rfl ?_
            refine wc_V_II (pc := 68) dX7_behind_68 lkX7_214 (sm_Rc.o (ci := 6) s0_40 (by decide) (by decide)) (by decide) (Nat.le_of_ble_eq_true rfl) ?_
            refine c_X7_pealed hw hR0 hS0 hi hn (by rw [(pcd_row ho hi hn hp).1]; exact (pcd_row ho hi hn hp).2) (fun I1 hR1 hf1 => ?_)
            refine wp_istore (pc := 71) 4 dX7_behind_71 (by decide) rfl ?_
            have hwg := plU_ok (tl := elA (sgh s) (sgs s) (sge s) i) (k := n) (i := 0) hw
            unfold bhV at k
            rcases hg : (plU (elA (sgh s) (sgs s) (sge s) i) n 0 (sgf s)).1 with _ | q
            · rw [hg] at k
              refine wp_to (lv' := [.ref 40, .int (nI i), .int (nI n), .int z, .int (-1), .null]) ?_ rfl rfl rfl
              refine wp_iload_n (pc := 73) 3 dX7_behind_73 rfl rfl ?_
              refine wp_ifne (pc := 74) 88 dX7_behind_74 (by decide) (fun c_74 => ?_) (fun c_74 => ?_)
              · refine wp_aload_n (pc := 88) 0 dX7_behind_88 rfl rfl ?_
                refine wp_aload_n (pc := 89) 0 dX7_behind_89 rfl rfl ?_
                refine wc_V_ (pc := 90) dX7_behind_90 lkX7_135 (sm_Rc.o (ci := 6) s0_40 (by decide) (by decide)) (by decide) (Nat.le_of_ble_eq_true rfl) ?_
                refine c_X7_been hwg hR1 ?_
                refine wc_V_I (pc := 93) dX7_behind_93 lkX7_168 (sm_Rc.o (ci := 6) s0_40 (by decide) (by decide)) (by decide) (Nat.le_of_ble_eq_true rfl) ?_
                refine c_X7_valueBy hwg hR1 (bn_lt hwg) ?_
                refine wp_istore (pc := 96) 5 dX7_behind_96 (by decide) rfl ?_
                refine wp_aload_n (pc := 98) 0 dX7_behind_98 rfl rfl ?_
                refine wq_getR (pc := 99) 17 1 dX7_behind_99 s0_40 flX7_17 rfl rfl (by decide) (by decide) ?_
                refine wp_aload_n (pc := 102) 0 dX7_behind_102 rfl rfl ?_
                refine wq_getR (pc := 103) 13 0 dX7_behind_103 s0_40 flX7_13 rfl rfl (by decide) (by decide) ?_
                refine wc_S_RR (pc := 106) dX7_behind_106 lkX7_128 (by decide) (Nat.le_of_ble_eq_true rfl) ?_
                refine c_X7_move (a := 42) (b := 41) s0_42 s0_41 (by decide) (by decide) (by decide) ?_
                refine wp_iload (pc := 109) 4 dX7_behind_109 rfl ?_
                refine wp_iconst (pc := 111) (-1) dX7_behind_111 (by decide) ?_
                refine wp_icmp_ne (pc := 112) 120 dX7_behind_112 (by decide) (fun c_112 => ?_) (fun c_112 => ?_)
                · exact absurd (by decide) c_112
                · refine wp_iload (pc := 115) 5 dX7_behind_115 rfl ?_
                  refine wp_goto (pc := 117) 126 dX7_behind_117 (by decide) ?_
                  refine wp_iretI (pc := 126) dX7_behind_126 rfl ?_
                  have hM2 : MR s F (rwI I1 41 (I1 42) 74) J := hM0.f (f := sgf s) (fun j hj => (rwI_at hj).trans ((congrFun (hf1 42 (by decide)) j).trans ((rwI_at hj).trans (hR j hj)))) (fun a ha => (rwI_ne ha).trans (hf1 a ha))
                  have hlo : Lo F I J F (rwI I1 41 (I1 42) 74) J := ((mv_lo (by decide)).tr hf1.lo).tr (mv_lo (by decide))
                  rw [if_neg c_74] at k
                  exact k _ _ _ hM2 hlo
              · refine wp_aload_n (pc := 77) 0 dX7_behind_77 rfl rfl ?_
                refine wp_aload_n (pc := 78) 0 dX7_behind_78 rfl rfl ?_
                refine wc_V_ (pc := 79) dX7_behind_79 lkX7_135 (sm_Rc.o (ci := 6) s0_40 (by decide) (by decide)) (by decide) (Nat.le_of_ble_eq_true rfl) ?_
                refine c_X7_been hwg hR1 ?_
                refine wc_V_I (pc := 82) dX7_behind_82 lkX7_65 (sm_Rc.o (ci := 6) s0_40 (by decide) (by decide)) (by decide) (Nat.le_of_ble_eq_true rfl) ?_
                refine c_X7_standsBy hwg hR1 (bn_lt hwg) ?_
                refine wp_goto (pc := 85) 96 dX7_behind_85 (by decide) ?_
                refine wp_istore (pc := 96) 5 dX7_behind_96 (by decide) rfl ?_
                refine wp_aload_n (pc := 98) 0 dX7_behind_98 rfl rfl ?_
                refine wq_getR (pc := 99) 17 1 dX7_behind_99 s0_40 flX7_17 rfl rfl (by decide) (by decide) ?_
                refine wp_aload_n (pc := 102) 0 dX7_behind_102 rfl rfl ?_
                refine wq_getR (pc := 103) 13 0 dX7_behind_103 s0_40 flX7_13 rfl rfl (by decide) (by decide) ?_
                refine wc_S_RR (pc := 106) dX7_behind_106 lkX7_128 (by decide) (Nat.le_of_ble_eq_true rfl) ?_
                refine c_X7_move (a := 42) (b := 41) s0_42 s0_41 (by decide) (by decide) (by decide) ?_
                refine wp_iload (pc := 109) 4 dX7_behind_109 rfl ?_
                refine wp_iconst (pc := 111) (-1) dX7_behind_111 (by decide) ?_
                refine wp_icmp_ne (pc := 112) 120 dX7_behind_112 (by decide) (fun c_112 => ?_) (fun c_112 => ?_)
                · exact absurd (by decide) c_112
                · refine wp_iload (pc := 115) 5 dX7_behind_115 rfl ?_
                  refine wp_goto (pc := 117) 126 dX7_behind_117 (by decide) ?_
                  refine wp_iretI (pc := 126) dX7_behind_126 rfl ?_
                  have hM2 : MR s F (rwI I1 41 (I1 42) 74) J := hM0.f (f := sgf s) (fun j hj => (rwI_at hj).trans ((congrFun (hf1 42 (by decide)) j).trans ((rwI_at hj).trans (hR j hj)))) (fun a ha => (rwI_ne ha).trans (hf1 a ha))
                  have hlo : Lo F I J F (rwI I1 41 (I1 42) 74) J := ((mv_lo (by decide)).tr hf1.lo).tr (mv_lo (by decide))
                  rw [if_pos c_74] at k
                  exact k _ _ _ hM2 hlo
            · have hq := plU_q hg
              rw [hg] at k
              refine wp_to (lv' := [.ref 40, .int (nI i), .int (nI n), .int z, .int (nI q), .null]) ?_ rfl rfl rfl
              refine wp_iload_n (pc := 73) 3 dX7_behind_73 rfl rfl ?_
              refine wp_ifne (pc := 74) 88 dX7_behind_74 (by decide) (fun c_74 => ?_) (fun c_74 => ?_)
              · refine wp_aload_n (pc := 88) 0 dX7_behind_88 rfl rfl ?_
                refine wp_aload_n (pc := 89) 0 dX7_behind_89 rfl rfl ?_
                refine wc_V_ (pc := 90) dX7_behind_90 lkX7_135 (sm_Rc.o (ci := 6) s0_40 (by decide) (by decide)) (by decide) (Nat.le_of_ble_eq_true rfl) ?_
                refine c_X7_been hwg hR1 ?_
                refine wc_V_I (pc := 93) dX7_behind_93 lkX7_168 (sm_Rc.o (ci := 6) s0_40 (by decide) (by decide)) (by decide) (Nat.le_of_ble_eq_true rfl) ?_
                refine c_X7_valueBy hwg hR1 (bn_lt hwg) ?_
                refine wp_istore (pc := 96) 5 dX7_behind_96 (by decide) rfl ?_
                refine wp_aload_n (pc := 98) 0 dX7_behind_98 rfl rfl ?_
                refine wq_getR (pc := 99) 17 1 dX7_behind_99 s0_40 flX7_17 rfl rfl (by decide) (by decide) ?_
                refine wp_aload_n (pc := 102) 0 dX7_behind_102 rfl rfl ?_
                refine wq_getR (pc := 103) 13 0 dX7_behind_103 s0_40 flX7_13 rfl rfl (by decide) (by decide) ?_
                refine wc_S_RR (pc := 106) dX7_behind_106 lkX7_128 (by decide) (Nat.le_of_ble_eq_true rfl) ?_
                refine c_X7_move (a := 42) (b := 41) s0_42 s0_41 (by decide) (by decide) (by decide) ?_
                have hM2 : MR s F (rwI I1 41 (I1 42) 74) J := hM0.f (f := sgf s) (fun j hj => (rwI_at hj).trans ((congrFun (hf1 42 (by decide)) j).trans ((rwI_at hj).trans (hR j hj)))) (fun a ha => (rwI_ne ha).trans (hf1 a ha))
                have hlo : Lo F I J F (rwI I1 41 (I1 42) 74) J := ((mv_lo (by decide)).tr hf1.lo).tr (mv_lo (by decide))
                refine wp_iload (pc := 109) 4 dX7_behind_109 rfl ?_
                refine wp_iconst (pc := 111) (-1) dX7_behind_111 (by decide) ?_
                refine wp_icmp_ne (pc := 112) 120 dX7_behind_112 (by decide) (fun c_112 => ?_) (fun c_112 => ?_)
                · refine wp_aload_n (pc := 120) 0 dX7_behind_120 rfl rfl ?_
                  refine wp_bipush (pc := 121) (-5) dX7_behind_121 (by decide) ?_
                  refine wc_V_I (pc := 123) dX7_behind_123 lkX7_81 (sm_Rc.o (ci := 6) s0_40 (by decide) (by decide)) (by decide) (Nat.le_of_ble_eq_true rfl) ?_
                  refine c_X7_no_3 ?_
                  refine wp_iretI (pc := 126) dX7_behind_126 rfl ?_
                  exact k _ _ _ (hM2.bmp (by decide)) (hlo.uI (by decide))
                · exact absurd c_112 (m1_ne (by omega))
              · refine wp_aload_n (pc := 77) 0 dX7_behind_77 rfl rfl ?_
                refine wp_aload_n (pc := 78) 0 dX7_behind_78 rfl rfl ?_
                refine wc_V_ (pc := 79) dX7_behind_79 lkX7_135 (sm_Rc.o (ci := 6) s0_40 (by decide) (by decide)) (by decide) (Nat.le_of_ble_eq_true rfl) ?_
                refine c_X7_been hwg hR1 ?_
                refine wc_V_I (pc := 82) dX7_behind_82 lkX7_65 (sm_Rc.o (ci := 6) s0_40 (by decide) (by decide)) (by decide) (Nat.le_of_ble_eq_true rfl) ?_
                refine c_X7_standsBy hwg hR1 (bn_lt hwg) ?_
                refine wp_goto (pc := 85) 96 dX7_behind_85 (by decide) ?_
                refine wp_istore (pc := 96) 5 dX7_behind_96 (by decide) rfl ?_
                refine wp_aload_n (pc := 98) 0 dX7_behind_98 rfl rfl ?_
                refine wq_getR (pc := 99) 17 1 dX7_behind_99 s0_40 flX7_17 rfl rfl (by decide) (by decide) ?_
                refine wp_aload_n (pc := 102) 0 dX7_behind_102 rfl rfl ?_
                refine wq_getR (pc := 103) 13 0 dX7_behind_103 s0_40 flX7_13 rfl rfl (by decide) (by decide) ?_
                refine wc_S_RR (pc := 106) dX7_behind_106 lkX7_128 (by decide) (Nat.le_of_ble_eq_true rfl) ?_
                refine c_X7_move (a := 42) (b := 41) s0_42 s0_41 (by decide) (by decide) (by decide) ?_
                have hM2 : MR s F (rwI I1 41 (I1 42) 74) J := hM0.f (f := sgf s) (fun j hj => (rwI_at hj).trans ((congrFun (hf1 42 (by decide)) j).trans ((rwI_at hj).trans (hR j hj)))) (fun a ha => (rwI_ne ha).trans (hf1 a ha))
                have hlo : Lo F I J F (rwI I1 41 (I1 42) 74) J := ((mv_lo (by decide)).tr hf1.lo).tr (mv_lo (by decide))
                refine wp_iload (pc := 109) 4 dX7_behind_109 rfl ?_
                refine wp_iconst (pc := 111) (-1) dX7_behind_111 (by decide) ?_
                refine wp_icmp_ne (pc := 112) 120 dX7_behind_112 (by decide) (fun c_112 => ?_) (fun c_112 => ?_)
                · refine wp_aload_n (pc := 120) 0 dX7_behind_120 rfl rfl ?_
                  refine wp_bipush (pc := 121) (-5) dX7_behind_121 (by decide) ?_
                  refine wc_V_I (pc := 123) dX7_behind_123 lkX7_81 (sm_Rc.o (ci := 6) s0_40 (by decide) (by decide)) (by decide) (Nat.le_of_ble_eq_true rfl) ?_
                  refine c_X7_no_3 ?_
                  refine wp_iretI (pc := 126) dX7_behind_126 rfl ?_
                  exact k _ _ _ (hM2.bmp (by decide)) (hlo.uI (by decide))
                · exact absurd c_112 (m1_ne (by omega))
          · exact absurd (by decide) c_40
        · have hj := pcd_lt hp
          rcases (show j = 0 ∨ j = 1 ∨ j = 2 by omega) with rfl | rfl | rfl
          · refine wp_aload_n (pc := 33) 0 dX7_behind_33 rfl rfl ?_
            refine wp_iload_n (pc := 34) 1 dX7_behind_34 rfl rfl ?_
            refine wp_iload_n (pc := 35) 2 dX7_behind_35 rfl rfl ?_
            refine wc_V_II (pc := 36) dX7_behind_36 lkX7_211 (sm_Rc.o (ci := 6) s0_40 (by decide) (by decide)) (by decide) (Nat.le_of_ble_eq_true rfl) ?_
            refine c_X7_peal hM ok hi hn ?_
            rw [hp]
            refine wp_int (y := -2) rfl ?_
            refine wp_iconst (pc := 39) (1) dX7_behind_39 (by decide) ?_
            refine wp_icmp_eq (pc := 40) 54 dX7_behind_40 (by decide) (fun c_40 => ?_) (fun c_40 => ?_)
            · exact absurd c_40 (by decide)
            · refine wp_aload_n (pc := 43) 0 dX7_behind_43 rfl rfl ?_
              refine wp_aload_n (pc := 44) 0 dX7_behind_44 rfl rfl ?_
              refine wp_iload_n (pc := 45) 1 dX7_behind_45 rfl rfl ?_
              refine wp_iload_n (pc := 46) 2 dX7_behind_46 rfl rfl ?_
              refine wc_V_II (pc := 47) dX7_behind_47 lkX7_211 (sm_Rc.o (ci := 6) s0_40 (by decide) (by decide)) (by decide) (Nat.le_of_ble_eq_true rfl) ?_
              refine c_X7_peal hM ok hi hn ?_
              rw [hp]
              refine wp_int (y := -2) rfl ?_
              refine wc_V_I (pc := 50) dX7_behind_50 lkX7_81 (sm_Rc.o (ci := 6) s0_40 (by decide) (by decide)) (by decide) (Nat.le_of_ble_eq_true rfl) ?_
              refine c_X7_no_0 ?_
              refine wp_iretI (pc := 53) dX7_behind_53 rfl ?_
              rw [do_behind_s c_23 hp] at k
              exact k _ _ _ (hM.bmp (by decide)) (Lo.rf.uI (by decide))
          · refine wp_aload_n (pc := 33) 0 dX7_behind_33 rfl rfl ?_
            refine wp_iload_n (pc := 34) 1 dX7_behind_34 rfl rfl ?_
            refine wp_iload_n (pc := 35) 2 dX7_behind_35 rfl rfl ?_
            refine wc_V_II (pc := 36) dX7_behind_36 lkX7_211 (sm_Rc.o (ci := 6) s0_40 (by decide) (by decide)) (by decide) (Nat.le_of_ble_eq_true rfl) ?_
            refine c_X7_peal hM ok hi hn ?_
            rw [hp]
            refine wp_int (y := -3) rfl ?_
            refine wp_iconst (pc := 39) (1) dX7_behind_39 (by decide) ?_
            refine wp_icmp_eq (pc := 40) 54 dX7_behind_40 (by decide) (fun c_40 => ?_) (fun c_40 => ?_)
            · exact absurd c_40 (by decide)
            · refine wp_aload_n (pc := 43) 0 dX7_behind_43 rfl rfl ?_
              refine wp_aload_n (pc := 44) 0 dX7_behind_44 rfl rfl ?_
              refine wp_iload_n (pc := 45) 1 dX7_behind_45 rfl rfl ?_
              refine wp_iload_n (pc := 46) 2 dX7_behind_46 rfl rfl ?_
              refine wc_V_II (pc := 47) dX7_behind_47 lkX7_211 (sm_Rc.o (ci := 6) s0_40 (by decide) (by decide)) (by decide) (Nat.le_of_ble_eq_true rfl) ?_
              refine c_X7_peal hM ok hi hn ?_
              rw [hp]
              refine wp_int (y := -3) rfl ?_
              refine wc_V_I (pc := 50) dX7_behind_50 lkX7_81 (sm_Rc.o (ci := 6) s0_40 (by decide) (by decide)) (by decide) (Nat.le_of_ble_eq_true rfl) ?_
              refine c_X7_no_1 ?_
              refine wp_iretI (pc := 53) dX7_behind_53 rfl ?_
              rw [do_behind_s c_23 hp] at k
              exact k _ _ _ (hM.bmp (by decide)) (Lo.rf.uI (by decide))
          · refine wp_aload_n (pc := 33) 0 dX7_behind_33 rfl rfl ?_
            refine wp_iload_n (pc := 34) 1 dX7_behind_34 rfl rfl ?_
            refine wp_iload_n (pc := 35) 2 dX7_behind_35 rfl rfl ?_
            refine wc_V_II (pc := 36) dX7_behind_36 lkX7_211 (sm_Rc.o (ci := 6) s0_40 (by decide) (by decide)) (by decide) (Nat.le_of_ble_eq_true rfl) ?_
            refine c_X7_peal hM ok hi hn ?_
            rw [hp]
            refine wp_int (y := -4) rfl ?_
            refine wp_iconst (pc := 39) (1) dX7_behind_39 (by decide) ?_
            refine wp_icmp_eq (pc := 40) 54 dX7_behind_40 (by decide) (fun c_40 => ?_) (fun c_40 => ?_)
            · exact absurd c_40 (by decide)
            · refine wp_aload_n (pc := 43) 0 dX7_behind_43 rfl rfl ?_
              refine wp_aload_n (pc := 44) 0 dX7_behind_44 rfl rfl ?_
              refine wp_iload_n (pc := 45) 1 dX7_behind_45 rfl rfl ?_
              refine wp_iload_n (pc := 46) 2 dX7_behind_46 rfl rfl ?_
              refine wc_V_II (pc := 47) dX7_behind_47 lkX7_211 (sm_Rc.o (ci := 6) s0_40 (by decide) (by decide)) (by decide) (Nat.le_of_ble_eq_true rfl) ?_
              refine c_X7_peal hM ok hi hn ?_
              rw [hp]
              refine wp_int (y := -4) rfl ?_
              refine wc_V_I (pc := 50) dX7_behind_50 lkX7_81 (sm_Rc.o (ci := 6) s0_40 (by decide) (by decide)) (by decide) (Nat.le_of_ble_eq_true rfl) ?_
              refine c_X7_no_2 ?_
              refine wp_iretI (pc := 53) dX7_behind_53 rfl ?_
              rw [do_behind_s c_23 hp] at k
              exact k _ _ _ (hM.bmp (by decide)) (Lo.rf.uI (by decide))
      · refine wp_aload_n (pc := 26) 0 dX7_behind_26 rfl rfl ?_
        refine wp_bipush (pc := 27) (-2) dX7_behind_27 (by decide) ?_
        refine wc_V_I (pc := 29) dX7_behind_29 lkX7_81 (sm_Rc.o (ci := 6) s0_40 (by decide) (by decide)) (by decide) (Nat.le_of_ble_eq_true rfl) ?_
        refine c_X7_no_0 ?_
        refine wp_iretI (pc := 32) dX7_behind_32 rfl ?_
        rw [bh_0 (Or.inr c_23)] at k
        exact k _ _ _ (hM.bmp (by decide)) (Lo.rf.uI (by decide))
