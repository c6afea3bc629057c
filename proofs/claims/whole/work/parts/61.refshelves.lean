/-! ===== the reference: shelves ===== -/
theorem Lo.z {F I F1 I1 : Nat → Nat → Int32} {J J1 : Nat → Nat → Int64} {b i : Nat} (h : Lo F I J F1 I1 J1) : Lo F I J F1 I1 (JZ J1 49 b i) := fun a ha => ⟨(h a ha).1, (h a ha).2.1, (funext fun y => if_neg (by omega)).trans (h a ha).2.2⟩
theorem c_X7_row {d : Nat} {F I : Nat → Nat → Int32} {J : Nat → Nat → Int64} {Q : Option Value → sm_H → Prop} {x y z : Int32} {s : Sg} (hM : MR s F I J) (ok : Ok s) (k : ∀ F1 I1 J1, MR (do_row s x y z).2 F1 I1 J1 → Lo F I J F1 I1 J1 → Q (some (.int (do_row s x y z).1)) (S0, F1, I1, J1)) : Wp mX7_row (d + 2) 0 0 0 (sm_ini [.ref 40, .int x, .int y, .int z] 5) [] (S0, F, I, J) Q := by
  show Wp _ _ _ _ _ [.ref 40, .int x, .int y, .int z, .null] _ _ _
  have hw := ok.1
  have hR := hM.1
  have hn := hw.n
  have hcw := hw.c
  have hbn := bn_1024 hw
  have hbl := bn_lt hw
  have hp2 := p2n hw
  have hh1 := hw.wth
  have hh2 := hw.crk
  have hh3 := hw.year
  have hS := hM.2.2.2.2.2.1
  have ho := ok.2.2.2.2.1
  have hz := ok.2.2.1
  refine wp_iload_n (pc := 0) 1 dX7_row_0 rfl rfl ?_
  refine wc_S_I (pc := 1) dX7_row_1 lkX7_204 (by decide) (Nat.le_of_ble_eq_true rfl) ?_
  refine c_X7_isShelf ?_
  refine wp_ifeqB (pc := 4) 26 dX7_row_4 (by decide) (fun c_4 => ?_) (fun c_4 => ?_)
  · refine wp_aload_n (pc := 26) 0 dX7_row_26 rfl rfl ?_
    refine wp_bipush (pc := 27) (-2) dX7_row_27 (by decide) ?_
    refine wc_V_I (pc := 29) dX7_row_29 lkX7_81 (sm_Rc.o (ci := 6) s0_40 (by decide) (by decide)) (by decide) (Nat.le_of_ble_eq_true rfl) ?_
    refine c_X7_no_0 ?_
    refine wp_iretI (pc := 32) dX7_row_32 rfl ?_
    unfold do_row at k
    rw [gat_f (c := (inS x && (upB y 4 && (upB z 40)))) (and_f1 c_4)] at k
    exact k _ _ _ (hM.bmp (by decide)) (Lo.rf.uI (by decide))
  · obtain ⟨a, ha, rfl⟩ := (i32_in (n := 8) (by decide)).mp (of_decide_eq_true c_4)
    refine wp_iload_n (pc := 7) 2 dX7_row_7 rfl rfl ?_
    refine wp_iconst (pc := 8) (0) dX7_row_8 (by decide) ?_
    refine wp_iconst (pc := 9) (4) dX7_row_9 (by decide) ?_
    refine wc_S_III (pc := 10) dX7_row_10 lkX7_49 (by decide) (Nat.le_of_ble_eq_true rfl) ?_
    refine c_X7_isIn ?_
    refine wp_ifeqB (pc := 13) 26 dX7_row_13 (by decide) (fun c_13 => ?_) (fun c_13 => ?_)
    · refine wp_aload_n (pc := 26) 0 dX7_row_26 rfl rfl ?_
      refine wp_bipush (pc := 27) (-2) dX7_row_27 (by decide) ?_
      refine wc_V_I (pc := 29) dX7_row_29 lkX7_81 (sm_Rc.o (ci := 6) s0_40 (by decide) (by decide)) (by decide) (Nat.le_of_ble_eq_true rfl) ?_
      refine c_X7_no_0 ?_
      refine wp_iretI (pc := 32) dX7_row_32 rfl ?_
      unfold do_row at k
      rw [gat_f (c := (inS (nI a) && (upB y 4 && (upB z 40)))) (and_f2 (and_f1 c_13))] at k
      exact k _ _ _ (hM.bmp (by decide)) (Lo.rf.uI (by decide))
    · obtain ⟨p, hp, rfl⟩ := (i32_le (n := 4) (by decide)).mp (of_decide_eq_true c_13)
      refine wp_iload_n (pc := 16) 3 dX7_row_16 rfl rfl ?_
      refine wp_iconst (pc := 17) (0) dX7_row_17 (by decide) ?_
      refine wp_bipush (pc := 18) (40) dX7_row_18 (by decide) ?_
      refine wc_S_III (pc := 20) dX7_row_20 lkX7_49 (by decide) (Nat.le_of_ble_eq_true rfl) ?_
      refine c_X7_isIn ?_
      refine wp_ifneB (pc := 23) 33 dX7_row_23 (by decide) (fun c_23 => ?_) (fun c_23 => ?_)
      · obtain ⟨m, hm, rfl⟩ := (i32_le (n := 40) (by decide)).mp (of_decide_eq_true c_23)
        refine wp_aload_n (pc := 33) 0 dX7_row_33 rfl rfl ?_
        refine wq_getR (pc := 34) 33 13 dX7_row_34 s0_40 flX7_33 rfl rfl (by decide) (by decide) ?_
        refine wp_iload_n (pc := 37) 1 dX7_row_37 rfl rfl ?_
        refine wp_iload_n (pc := 38) 2 dX7_row_38 rfl rfl ?_
        refine wq_iast (pc := 39) a dX7_row_39 s0_47 (by decide) rfl ha (by decide) ?_
        refine wp_aload_n (pc := 40) 0 dX7_row_40 rfl rfl ?_
        refine wq_getR (pc := 41) 36 14 dX7_row_41 s0_40 flX7_36 rfl rfl (by decide) (by decide) ?_
        refine wp_iload_n (pc := 44) 1 dX7_row_44 rfl rfl ?_
        refine wp_iload_n (pc := 45) 3 dX7_row_45 rfl rfl ?_
        refine wq_iast (pc := 46) a dX7_row_46 s0_48 (by decide) rfl ha (by decide) ?_
        refine wp_iconst (pc := 47) (0) dX7_row_47 (by decide) ?_
        refine wp_istore (pc := 48) 4 dX7_row_48 (by decide) rfl ?_
        refine wp_to (h' := (S0, F, sm_up (sm_up I 47 a (nI p)) 48 a (nI m), JZ J 49 (a * 40) 0)) ?_ rfl rfl (by rw [JZ_0])
        refine wp_loop (fun i => [.ref 40, .int (nI a), .int (nI p), .int (nI m), .int (nI i)]) (fun i => (S0, F, sm_up (sm_up I 47 a (nI p)) 48 a (nI m), JZ J 49 (a * 40) i)) (fun _ => True) 40 (fun i hi hv nx => ?_) (fun hv => ?_) 0 (Nat.zero_le _) trivial
        · refine wp_iload (pc := 50) 4 dX7_row_50 rfl ?_
          refine wp_bipush (pc := 52) (40) dX7_row_52 (by decide) ?_
          refine wp_icmp_ge (pc := 54) 76 dX7_row_54 (by decide) (fun c_54 => ?_) (fun c_54 => ?_)
          · exact absurd c_54 (nI_ge (b := 40) hi (by decide))
          · refine wp_aload_n (pc := 57) 0 dX7_row_57 rfl rfl ?_
            refine wq_getR (pc := 58) 39 15 dX7_row_58 s0_40 flX7_39 rfl rfl (by decide) (by decide) ?_
            refine wp_bipush (pc := 61) (40) dX7_row_61 (by decide) ?_
            refine wp_iload_n (pc := 63) 1 dX7_row_63 rfl rfl ?_
            refine wp_imul (pc := 64) dX7_row_64 ?_
            refine wp_iload (pc := 65) 4 dX7_row_65 rfl ?_
            refine wp_iadd (pc := 67) dX7_row_67 ?_
            refine wp_lconst (pc := 68) 0 dX7_row_68 (by decide) ?_
            refine wq_last (pc := 69) (a * 40 + i) dX7_row_69 s0_49 (by decide) (ix40 a i) (by omega) (by decide) ?_
            refine wp_incN (pc := 70) 4 dX7_row_70 rfl (by decide) rfl ?_
            refine wp_goto (pc := 73) 50 dX7_row_73 (by decide) ?_
            have nx := nx trivial
            rw [← JZ_s] at nx
            exact nx
        · refine wp_iload (pc := 50) 4 dX7_row_50 rfl ?_
          refine wp_bipush (pc := 52) (40) dX7_row_52 (by decide) ?_
          refine wp_icmp_ge (pc := 54) 76 dX7_row_54 (by decide) (fun c_54 => ?_) (fun c_54 => ?_)
          · refine wp_iconst (pc := 76) (1) dX7_row_76 (by decide) ?_
            refine wp_iretI (pc := 77) dX7_row_77 rfl ?_
            unfold do_row at k
            rw [gat_t (c := (inS (nI a) && (upB (nI p) 4 && (upB (nI m) 40)))) (and_tt c_4 (and_tt c_13 c_23)), nI_clamp (by omega), nI_clamp (by omega), nI_clamp (by omega)] at k
            exact k _ _ _ (hM.sh (((hS.uh a (some p)).uz a m).z (a * 40) 40) (fun x h1 h2 => (sm_up_ne h2).trans (sm_up_ne h1))) ((Lo.rf.uI (by decide)).uI (by decide)).z
          · exact absurd (by decide) c_54
      · refine wp_aload_n (pc := 26) 0 dX7_row_26 rfl rfl ?_
        refine wp_bipush (pc := 27) (-2) dX7_row_27 (by decide) ?_
        refine wc_V_I (pc := 29) dX7_row_29 lkX7_81 (sm_Rc.o (ci := 6) s0_40 (by decide) (by decide)) (by decide) (Nat.le_of_ble_eq_true rfl) ?_
        refine c_X7_no_0 ?_
        refine wp_iretI (pc := 32) dX7_row_32 rfl ?_
        unfold do_row at k
        rw [gat_f (c := (inS (nI a) && (upB (nI p) 4 && (upB z 40)))) (and_f2 (and_f2 c_23))] at k
        exact k _ _ _ (hM.bmp (by decide)) (Lo.rf.uI (by decide))
theorem c_X7_show {d : Nat} {F I : Nat → Nat → Int32} {J : Nat → Nat → Int64} {Q : Option Value → sm_H → Prop} {x y : Int32} {s : Sg} (hM : MR s F I J) (ok : Ok s) (k : ∀ F1 I1 J1, MR (do_show s x y).2 F1 I1 J1 → Lo F I J F1 I1 J1 → Q (some (.int (do_show s x y).1)) (S0, F1, I1, J1)) : Wp mX7_show (d + 2) 0 0 0 (sm_ini [.ref 40, .int x, .int y] 3) [] (S0, F, I, J) Q := by
  show Wp _ _ _ _ _ [.ref 40, .int x, .int y] _ _ _
  have hw := ok.1
  have hR := hM.1
  have hn := hw.n
  have hcw := hw.c
  have hbn := bn_1024 hw
  have hbl := bn_lt hw
  have hp2 := p2n hw
  have hh1 := hw.wth
  have hh2 := hw.crk
  have hh3 := hw.year
  have hS := hM.2.2.2.2.2.1
  have ho := ok.2.2.2.2.1
  have hz := ok.2.2.1
  refine wp_iload_n (pc := 0) 1 dX7_show_0 rfl rfl ?_
  refine wc_S_I (pc := 1) dX7_show_1 lkX7_204 (by decide) (Nat.le_of_ble_eq_true rfl) ?_
  refine c_X7_isShelf ?_
  refine wp_ifeqB (pc := 4) 20 dX7_show_4 (by decide) (fun c_4 => ?_) (fun c_4 => ?_)
  · refine wp_aload_n (pc := 20) 0 dX7_show_20 rfl rfl ?_
    refine wp_bipush (pc := 21) (-2) dX7_show_21 (by decide) ?_
    refine wc_V_I (pc := 23) dX7_show_23 lkX7_81 (sm_Rc.o (ci := 6) s0_40 (by decide) (by decide)) (by decide) (Nat.le_of_ble_eq_true rfl) ?_
    refine c_X7_no_0 ?_
    refine wp_iretI (pc := 26) dX7_show_26 rfl ?_
    unfold do_show at k
    rw [gat_f (c := (inS x && (decide (y = -1) || isRg s y))) (and_f1 c_4)] at k
    exact k _ _ _ (hM.bmp (by decide)) (Lo.rf.uI (by decide))
  · obtain ⟨a, ha, rfl⟩ := (i32_in (n := 8) (by decide)).mp (of_decide_eq_true c_4)
    refine wp_iload_n (pc := 7) 2 dX7_show_7 rfl rfl ?_
    refine wp_iconst (pc := 8) (-1) dX7_show_8 (by decide) ?_
    refine wp_icmp_eq (pc := 9) 27 dX7_show_9 (by decide) (fun c_9 => ?_) (fun c_9 => ?_)
    · refine wp_aload_n (pc := 27) 0 dX7_show_27 rfl rfl ?_
      refine wq_getR (pc := 28) 33 13 dX7_show_28 s0_40 flX7_33 rfl rfl (by decide) (by decide) ?_
      refine wp_iload_n (pc := 31) 1 dX7_show_31 rfl rfl ?_
      refine wp_iload_n (pc := 32) 2 dX7_show_32 rfl rfl ?_
      refine wp_iconst (pc := 33) (-1) dX7_show_33 (by decide) ?_
      refine wp_icmp_ne (pc := 34) 41 dX7_show_34 (by decide) (fun c_34 => ?_) (fun c_34 => ?_)
      · exact absurd c_9 c_34
      · refine wp_iconst (pc := 37) (-1) dX7_show_37 (by decide) ?_
        refine wp_goto (pc := 38) 45 dX7_show_38 (by decide) ?_
        refine wq_iast (pc := 45) a dX7_show_45 s0_47 (by decide) rfl ha (by decide) ?_
        refine wp_iconst (pc := 46) (1) dX7_show_46 (by decide) ?_
        refine wp_iretI (pc := 47) dX7_show_47 rfl ?_
        unfold do_show at k
        rw [gat_t (c := (inS (nI a) && (decide (y = -1) || isRg s y))) (and_tt c_4 (or_t1 (decide_eq_true c_9))), if_pos c_9, nI_clamp (by omega)] at k
        exact k _ _ _ (hM.sh (hS.uh a none) (fun x h1 h2 => sm_up_ne h1)) (Lo.rf.uI (by decide))
    · refine wp_aload_n (pc := 12) 0 dX7_show_12 rfl rfl ?_
      refine wp_iload_n (pc := 13) 2 dX7_show_13 rfl rfl ?_
      refine wc_V_I (pc := 14) dX7_show_14 lkX7_155 (sm_Rc.o (ci := 6) s0_40 (by decide) (by decide)) (by decide) (Nat.le_of_ble_eq_true rfl) ?_
      refine c_X7_isRinger hw hR ?_
      refine wp_ifneB (pc := 17) 27 dX7_show_17 (by decide) (fun c_17 => ?_) (fun c_17 => ?_)
      · have hc6 := hw.c
        obtain ⟨r, hr0, rfl⟩ := (i32_in (by omega)).mp (of_decide_eq_true c_17)
        have hr : r < 6 := by omega
        refine wp_aload_n (pc := 27) 0 dX7_show_27 rfl rfl ?_
        refine wq_getR (pc := 28) 33 13 dX7_show_28 s0_40 flX7_33 rfl rfl (by decide) (by decide) ?_
        refine wp_iload_n (pc := 31) 1 dX7_show_31 rfl rfl ?_
        refine wp_iload_n (pc := 32) 2 dX7_show_32 rfl rfl ?_
        refine wp_iconst (pc := 33) (-1) dX7_show_33 (by decide) ?_
        refine wp_icmp_ne (pc := 34) 41 dX7_show_34 (by decide) (fun c_34 => ?_) (fun c_34 => ?_)
        · refine wp_bipush (pc := 41) (10) dX7_show_41 (by decide) ?_
          refine wp_iload_n (pc := 43) 2 dX7_show_43 rfl rfl ?_
          refine wp_iadd (pc := 44) dX7_show_44 ?_
          refine wp_int (y := nI (10 + r)) (nI_add 10 r) ?_
          refine wq_iast (pc := 45) a dX7_show_45 s0_47 (by decide) rfl ha (by decide) ?_
          refine wp_iconst (pc := 46) (1) dX7_show_46 (by decide) ?_
          refine wp_iretI (pc := 47) dX7_show_47 rfl ?_
          unfold do_show at k
          rw [gat_t (c := (inS (nI a) && (decide (nI r = -1) || isRg s (nI r)))) (and_tt c_4 (or_t2 c_17)), if_neg c_9, nI_clamp (by omega), nI_clamp (by omega)] at k
          exact k _ _ _ (hM.sh (hS.uh a (some (10 + r))) (fun x h1 h2 => sm_up_ne h1)) (Lo.rf.uI (by decide))
        · exact absurd c_34 c_9
      · refine wp_aload_n (pc := 20) 0 dX7_show_20 rfl rfl ?_
        refine wp_bipush (pc := 21) (-2) dX7_show_21 (by decide) ?_
        refine wc_V_I (pc := 23) dX7_show_23 lkX7_81 (sm_Rc.o (ci := 6) s0_40 (by decide) (by decide)) (by decide) (Nat.le_of_ble_eq_true rfl) ?_
        refine c_X7_no_0 ?_
        refine wp_iretI (pc := 26) dX7_show_26 rfl ?_
        unfold do_show at k
        rw [gat_f (c := (inS (nI a) && (decide (y = -1) || isRg s y))) (and_f2 (or_ff (decide_eq_false c_9) c_17))] at k
        exact k _ _ _ (hM.bmp (by decide)) (Lo.rf.uI (by decide))
theorem c_X7_set {d : Nat} {F I : Nat → Nat → Int32} {J : Nat → Nat → Int64} {Q : Option Value → sm_H → Prop} {x y : Int32} {v : Int64} {s : Sg} (hM : MR s F I J) (ok : Ok s) (k : ∀ F1 I1 J1, MR (do_set s x y v).2 F1 I1 J1 → Lo F I J F1 I1 J1 → Q (some (.int (do_set s x y v).1)) (S0, F1, I1, J1)) : Wp mX7_set (d + 2) 0 0 0 (sm_ini [.ref 40, .int x, .int y, .long v] 6) [] (S0, F, I, J) Q := by
  show Wp _ _ _ _ _ [.ref 40, .int x, .int y, .long v, .null, .null] _ _ _
  have hS := hM.2.2.2.2.2.1
  have ho := ok.2.2.2.2.1
  have hz := ok.2.2.1
  refine wp_iload_n (pc := 0) 1 dX7_set_0 rfl rfl ?_
  refine wc_S_I (pc := 1) dX7_set_1 lkX7_204 (by decide) (Nat.le_of_ble_eq_true rfl) ?_
  refine c_X7_isShelf ?_
  refine wp_ifneB (pc := 4) 14 dX7_set_4 (by decide) (fun c_4 => ?_) (fun c_4 => ?_)
  · obtain ⟨a, ha, rfl⟩ := (i32_in (n := 8) (by decide)).mp (of_decide_eq_true c_4)
    rcases ho.c a with e | ⟨k0, e, hk⟩ | ⟨k0, e, hk, hk2⟩
    · rw [do_set_n c_4 ha e] at k
      refine wp_aload_n (pc := 14) 0 dX7_set_14 rfl rfl ?_
      refine wq_getR (pc := 15) 33 13 dX7_set_15 s0_40 flX7_33 rfl rfl (by decide) (by decide) ?_
      refine wp_iload_n (pc := 18) 1 dX7_set_18 rfl rfl ?_
      refine wq_iald (pc := 19) a dX7_set_19 s0_47 (by decide) rfl ha (by decide) ?_
      refine wp_int (hS.1 _ ha) ?_
      refine wp_int (show eN (sgh s a) = -1 by rw [e]; rfl) ?_
      refine wp_istore (pc := 20) 5 dX7_set_20 (by decide) rfl ?_
      refine wp_iload (pc := 22) 5 dX7_set_22 rfl ?_
      refine wp_iconst (pc := 24) (4) dX7_set_24 (by decide) ?_
      refine wp_icmp_le (pc := 25) 35 dX7_set_25 (by decide) (fun c_25 => ?_) (fun c_25 => ?_)
      · refine wp_iload (pc := 35) 5 dX7_set_35 rfl ?_
        refine wp_iconst (pc := 37) (-1) dX7_set_37 (by decide) ?_
        refine wp_icmp_ne (pc := 38) 48 dX7_set_38 (by decide) (fun c_38 => ?_) (fun c_38 => ?_)
        · exact absurd (by decide) c_38
        · refine wp_aload_n (pc := 41) 0 dX7_set_41 rfl rfl ?_
          refine wp_bipush (pc := 42) (-4) dX7_set_42 (by decide) ?_
          refine wc_V_I (pc := 44) dX7_set_44 lkX7_81 (sm_Rc.o (ci := 6) s0_40 (by decide) (by decide)) (by decide) (Nat.le_of_ble_eq_true rfl) ?_
          refine c_X7_no_2 ?_
          refine wp_iretI (pc := 47) dX7_set_47 rfl ?_
          exact k _ _ _ (hM.bmp (by decide)) (Lo.rf.uI (by decide))
      · exact absurd (by decide) c_25
    · rw [do_set_r c_4 ha e hk] at k
      have hza := ho.2 a
      rcases (show k0 = 0 ∨ k0 = 1 ∨ k0 = 2 ∨ k0 = 3 ∨ k0 = 4 by omega) with rfl | rfl | rfl | rfl | rfl
      · refine wp_aload_n (pc := 14) 0 dX7_set_14 rfl rfl ?_
        refine wq_getR (pc := 15) 33 13 dX7_set_15 s0_40 flX7_33 rfl rfl (by decide) (by decide) ?_
        refine wp_iload_n (pc := 18) 1 dX7_set_18 rfl rfl ?_
        refine wq_iald (pc := 19) a dX7_set_19 s0_47 (by decide) rfl ha (by decide) ?_
        refine wp_int (hS.1 _ ha) ?_
        refine wp_int (show eN (sgh s a) = 0 by rw [e]; rfl) ?_
        refine wp_istore (pc := 20) 5 dX7_set_20 (by decide) rfl ?_
        refine wp_iload (pc := 22) 5 dX7_set_22 rfl ?_
        refine wp_iconst (pc := 24) (4) dX7_set_24 (by decide) ?_
        refine wp_icmp_le (pc := 25) 35 dX7_set_25 (by decide) (fun c_25 => ?_) (fun c_25 => ?_)
        · refine wp_iload (pc := 35) 5 dX7_set_35 rfl ?_
          refine wp_iconst (pc := 37) (-1) dX7_set_37 (by decide) ?_
          refine wp_icmp_ne (pc := 38) 48 dX7_set_38 (by decide) (fun c_38 => ?_) (fun c_38 => ?_)
          · refine wp_iload_n (pc := 48) 2 dX7_set_48 rfl rfl ?_
            refine wp_iconst (pc := 49) (0) dX7_set_49 (by decide) ?_
            refine wp_aload_n (pc := 50) 0 dX7_set_50 rfl rfl ?_
            refine wq_getR (pc := 51) 36 14 dX7_set_51 s0_40 flX7_36 rfl rfl (by decide) (by decide) ?_
            refine wp_iload_n (pc := 54) 1 dX7_set_54 rfl rfl ?_
            refine wq_iald (pc := 55) a dX7_set_55 s0_48 (by decide) rfl ha (by decide) ?_
            refine wp_int (hS.2.1 _ ha) ?_
            refine wp_iconst (pc := 56) (1) dX7_set_56 (by decide) ?_
            refine wp_isub (pc := 57) dX7_set_57 ?_
            refine wc_S_III (pc := 58) dX7_set_58 lkX7_49 (by decide) (Nat.le_of_ble_eq_true rfl) ?_
            refine c_X7_isIn ?_
            refine wp_ifneB (pc := 61) 71 dX7_set_61 (by decide) (fun c_61 => ?_) (fun c_61 => ?_)
            · have hy := (i32_pred (by omega)).mp (of_decide_eq_true c_61)
              obtain ⟨j, hj, rfl⟩ := (i32_in (by omega)).mp hy
              refine wp_aload_n (pc := 71) 0 dX7_set_71 rfl rfl ?_
              refine wq_getR (pc := 72) 39 15 dX7_set_72 s0_40 flX7_39 rfl rfl (by decide) (by decide) ?_
              refine wp_bipush (pc := 75) (40) dX7_set_75 (by decide) ?_
              refine wp_iload_n (pc := 77) 1 dX7_set_77 rfl rfl ?_
              refine wp_imul (pc := 78) dX7_set_78 ?_
              refine wp_iload_n (pc := 79) 2 dX7_set_79 rfl rfl ?_
              refine wp_iadd (pc := 80) dX7_set_80 ?_
              refine wp_iload (pc := 81) 5 dX7_set_81 rfl ?_
              refine wp_ifne (pc := 83) 93 dX7_set_83 (by decide) (fun c_83 => ?_) (fun c_83 => ?_)
              · exact absurd (by decide) c_83
              · refine wp_lload_n (pc := 86) 3 dX7_set_86 rfl rfl ?_
                refine wp_l2i (pc := 87) dX7_set_87 ?_
                refine wp_i2b (pc := 88) dX7_set_88 ?_
                refine wp_i2l (pc := 89) dX7_set_89 ?_
                refine wp_goto (pc := 90) 139 dX7_set_90 (by decide) ?_
                refine wq_last (pc := 139) (a * 40 + j) dX7_set_139 s0_49 (by decide) (ix40 a j) (by omega) (by decide) ?_
                refine wp_iconst (pc := 140) (1) dX7_set_140 (by decide) ?_
                refine wp_iretI (pc := 141) dX7_set_141 rfl ?_
                rw [if_pos hy, nI_clamp (by omega)] at k
                exact k _ _ _ (hM.sh (hS.ue (a * 40 + j) _) (fun x h1 h2 => rfl)) (Lo.rf.uJ (by decide))
            · refine wp_aload_n (pc := 64) 0 dX7_set_64 rfl rfl ?_
              refine wp_bipush (pc := 65) (-2) dX7_set_65 (by decide) ?_
              refine wc_V_I (pc := 67) dX7_set_67 lkX7_81 (sm_Rc.o (ci := 6) s0_40 (by decide) (by decide)) (by decide) (Nat.le_of_ble_eq_true rfl) ?_
              refine c_X7_no_0 ?_
              refine wp_iretI (pc := 70) dX7_set_70 rfl ?_
              rw [if_neg (fun z => of_decide_eq_false c_61 ((i32_pred (by omega)).mpr z))] at k
              exact k _ _ _ (hM.bmp (by decide)) (Lo.rf.uI (by decide))
          · exact absurd c_38 (by decide)
        · exact absurd (by decide) c_25
      · refine wp_aload_n (pc := 14) 0 dX7_set_14 rfl rfl ?_
        refine wq_getR (pc := 15) 33 13 dX7_set_15 s0_40 flX7_33 rfl rfl (by decide) (by decide) ?_
        refine wp_iload_n (pc := 18) 1 dX7_set_18 rfl rfl ?_
        refine wq_iald (pc := 19) a dX7_set_19 s0_47 (by decide) rfl ha (by decide) ?_
        refine wp_int (hS.1 _ ha) ?_
        refine wp_int (show eN (sgh s a) = 1 by rw [e]; rfl) ?_
        refine wp_istore (pc := 20) 5 dX7_set_20 (by decide) rfl ?_
        refine wp_iload (pc := 22) 5 dX7_set_22 rfl ?_
        refine wp_iconst (pc := 24) (4) dX7_set_24 (by decide) ?_
        refine wp_icmp_le (pc := 25) 35 dX7_set_25 (by decide) (fun c_25 => ?_) (fun c_25 => ?_)
        · refine wp_iload (pc := 35) 5 dX7_set_35 rfl ?_
          refine wp_iconst (pc := 37) (-1) dX7_set_37 (by decide) ?_
          refine wp_icmp_ne (pc := 38) 48 dX7_set_38 (by decide) (fun c_38 => ?_) (fun c_38 => ?_)
          · refine wp_iload_n (pc := 48) 2 dX7_set_48 rfl rfl ?_
            refine wp_iconst (pc := 49) (0) dX7_set_49 (by decide) ?_
            refine wp_aload_n (pc := 50) 0 dX7_set_50 rfl rfl ?_
            refine wq_getR (pc := 51) 36 14 dX7_set_51 s0_40 flX7_36 rfl rfl (by decide) (by decide) ?_
            refine wp_iload_n (pc := 54) 1 dX7_set_54 rfl rfl ?_
            refine wq_iald (pc := 55) a dX7_set_55 s0_48 (by decide) rfl ha (by decide) ?_
            refine wp_int (hS.2.1 _ ha) ?_
            refine wp_iconst (pc := 56) (1) dX7_set_56 (by decide) ?_
            refine wp_isub (pc := 57) dX7_set_57 ?_
            refine wc_S_III (pc := 58) dX7_set_58 lkX7_49 (by decide) (Nat.le_of_ble_eq_true rfl) ?_
            refine c_X7_isIn ?_
            refine wp_ifneB (pc := 61) 71 dX7_set_61 (by decide) (fun c_61 => ?_) (fun c_61 => ?_)
            · have hy := (i32_pred (by omega)).mp (of_decide_eq_true c_61)
              obtain ⟨j, hj, rfl⟩ := (i32_in (by omega)).mp hy
              refine wp_aload_n (pc := 71) 0 dX7_set_71 rfl rfl ?_
              refine wq_getR (pc := 72) 39 15 dX7_set_72 s0_40 flX7_39 rfl rfl (by decide) (by decide) ?_
              refine wp_bipush (pc := 75) (40) dX7_set_75 (by decide) ?_
              refine wp_iload_n (pc := 77) 1 dX7_set_77 rfl rfl ?_
              refine wp_imul (pc := 78) dX7_set_78 ?_
              refine wp_iload_n (pc := 79) 2 dX7_set_79 rfl rfl ?_
              refine wp_iadd (pc := 80) dX7_set_80 ?_
              refine wp_iload (pc := 81) 5 dX7_set_81 rfl ?_
              refine wp_ifne (pc := 83) 93 dX7_set_83 (by decide) (fun c_83 => ?_) (fun c_83 => ?_)
              · refine wp_iload (pc := 93) 5 dX7_set_93 rfl ?_
                refine wp_iconst (pc := 95) (1) dX7_set_95 (by decide) ?_
                refine wp_icmp_ne (pc := 96) 106 dX7_set_96 (by decide) (fun c_96 => ?_) (fun c_96 => ?_)
                · exact absurd (by decide) c_96
                · refine wp_lload_n (pc := 99) 3 dX7_set_99 rfl rfl ?_
                  refine wp_l2i (pc := 100) dX7_set_100 ?_
                  refine wp_i2s (pc := 101) dX7_set_101 ?_
                  refine wp_i2l (pc := 102) dX7_set_102 ?_
                  refine wp_goto (pc := 103) 139 dX7_set_103 (by decide) ?_
                  refine wq_last (pc := 139) (a * 40 + j) dX7_set_139 s0_49 (by decide) (ix40 a j) (by omega) (by decide) ?_
                  refine wp_iconst (pc := 140) (1) dX7_set_140 (by decide) ?_
                  refine wp_iretI (pc := 141) dX7_set_141 rfl ?_
                  rw [if_pos hy, nI_clamp (by omega)] at k
                  exact k _ _ _ (hM.sh (hS.ue (a * 40 + j) _) (fun x h1 h2 => rfl)) (Lo.rf.uJ (by decide))
              · exact absurd c_83 (by decide)
            · refine wp_aload_n (pc := 64) 0 dX7_set_64 rfl rfl ?_
              refine wp_bipush (pc := 65) (-2) dX7_set_65 (by decide) ?_
              refine wc_V_I (pc := 67) dX7_set_67 lkX7_81 (sm_Rc.o (ci := 6) s0_40 (by decide) (by decide)) (by decide) (Nat.le_of_ble_eq_true rfl) ?_
              refine c_X7_no_0 ?_
              refine wp_iretI (pc := 70) dX7_set_70 rfl ?_
              rw [if_neg (fun z => of_decide_eq_false c_61 ((i32_pred (by omega)).mpr z))] at k
              exact k _ _ _ (hM.bmp (by decide)) (Lo.rf.uI (by decide))
          · exact absurd c_38 (by decide)
        · exact absurd (by decide) c_25
      · refine wp_aload_n (pc := 14) 0 dX7_set_14 rfl rfl ?_
        refine wq_getR (pc := 15) 33 13 dX7_set_15 s0_40 flX7_33 rfl rfl (by decide) (by decide) ?_
        refine wp_iload_n (pc := 18) 1 dX7_set_18 rfl rfl ?_
        refine wq_iald (pc := 19) a dX7_set_19 s0_47 (by decide) rfl ha (by decide) ?_
        refine wp_int (hS.1 _ ha) ?_
        refine wp_int (show eN (sgh s a) = 2 by rw [e]; rfl) ?_
        refine wp_istore (pc := 20) 5 dX7_set_20 (by decide) rfl ?_
        refine wp_iload (pc := 22) 5 dX7_set_22 rfl ?_
        refine wp_iconst (pc := 24) (4) dX7_set_24 (by decide) ?_
        refine wp_icmp_le (pc := 25) 35 dX7_set_25 (by decide) (fun c_25 => ?_) (fun c_25 => ?_)
        · refine wp_iload (pc := 35) 5 dX7_set_35 rfl ?_
          refine wp_iconst (pc := 37) (-1) dX7_set_37 (by decide) ?_
          refine wp_icmp_ne (pc := 38) 48 dX7_set_38 (by decide) (fun c_38 => ?_) (fun c_38 => ?_)
          · refine wp_iload_n (pc := 48) 2 dX7_set_48 rfl rfl ?_
            refine wp_iconst (pc := 49) (0) dX7_set_49 (by decide) ?_
            refine wp_aload_n (pc := 50) 0 dX7_set_50 rfl rfl ?_
            refine wq_getR (pc := 51) 36 14 dX7_set_51 s0_40 flX7_36 rfl rfl (by decide) (by decide) ?_
            refine wp_iload_n (pc := 54) 1 dX7_set_54 rfl rfl ?_
            refine wq_iald (pc := 55) a dX7_set_55 s0_48 (by decide) rfl ha (by decide) ?_
            refine wp_int (hS.2.1 _ ha) ?_
            refine wp_iconst (pc := 56) (1) dX7_set_56 (by decide) ?_
            refine wp_isub (pc := 57) dX7_set_57 ?_
            refine wc_S_III (pc := 58) dX7_set_58 lkX7_49 (by decide) (Nat.le_of_ble_eq_true rfl) ?_
            refine c_X7_isIn ?_
            refine wp_ifneB (pc := 61) 71 dX7_set_61 (by decide) (fun c_61 => ?_) (fun c_61 => ?_)
            · have hy := (i32_pred (by omega)).mp (of_decide_eq_true c_61)
              obtain ⟨j, hj, rfl⟩ := (i32_in (by omega)).mp hy
              refine wp_aload_n (pc := 71) 0 dX7_set_71 rfl rfl ?_
              refine wq_getR (pc := 72) 39 15 dX7_set_72 s0_40 flX7_39 rfl rfl (by decide) (by decide) ?_
              refine wp_bipush (pc := 75) (40) dX7_set_75 (by decide) ?_
              refine wp_iload_n (pc := 77) 1 dX7_set_77 rfl rfl ?_
              refine wp_imul (pc := 78) dX7_set_78 ?_
              refine wp_iload_n (pc := 79) 2 dX7_set_79 rfl rfl ?_
              refine wp_iadd (pc := 80) dX7_set_80 ?_
              refine wp_iload (pc := 81) 5 dX7_set_81 rfl ?_
              refine wp_ifne (pc := 83) 93 dX7_set_83 (by decide) (fun c_83 => ?_) (fun c_83 => ?_)
              · refine wp_iload (pc := 93) 5 dX7_set_93 rfl ?_
                refine wp_iconst (pc := 95) (1) dX7_set_95 (by decide) ?_
                refine wp_icmp_ne (pc := 96) 106 dX7_set_96 (by decide) (fun c_96 => ?_) (fun c_96 => ?_)
                · refine wp_iload (pc := 106) 5 dX7_set_106 rfl ?_
                  refine wp_iconst (pc := 108) (2) dX7_set_108 (by decide) ?_
                  refine wp_icmp_ne (pc := 109) 118 dX7_set_109 (by decide) (fun c_109 => ?_) (fun c_109 => ?_)
                  · exact absurd (by decide) c_109
                  · refine wp_lload_n (pc := 112) 3 dX7_set_112 rfl rfl ?_
                    refine wp_l2i (pc := 113) dX7_set_113 ?_
                    refine wp_i2l (pc := 114) dX7_set_114 ?_
                    refine wp_goto (pc := 115) 139 dX7_set_115 (by decide) ?_
                    refine wq_last (pc := 139) (a * 40 + j) dX7_set_139 s0_49 (by decide) (ix40 a j) (by omega) (by decide) ?_
                    refine wp_iconst (pc := 140) (1) dX7_set_140 (by decide) ?_
                    refine wp_iretI (pc := 141) dX7_set_141 rfl ?_
                    rw [if_pos hy, nI_clamp (by omega)] at k
                    exact k _ _ _ (hM.sh (hS.ue (a * 40 + j) _) (fun x h1 h2 => rfl)) (Lo.rf.uJ (by decide))
                · exact absurd c_96 (by decide)
              · exact absurd c_83 (by decide)
            · refine wp_aload_n (pc := 64) 0 dX7_set_64 rfl rfl ?_
              refine wp_bipush (pc := 65) (-2) dX7_set_65 (by decide) ?_
              refine wc_V_I (pc := 67) dX7_set_67 lkX7_81 (sm_Rc.o (ci := 6) s0_40 (by decide) (by decide)) (by decide) (Nat.le_of_ble_eq_true rfl) ?_
              refine c_X7_no_0 ?_
              refine wp_iretI (pc := 70) dX7_set_70 rfl ?_
              rw [if_neg (fun z => of_decide_eq_false c_61 ((i32_pred (by omega)).mpr z))] at k
              exact k _ _ _ (hM.bmp (by decide)) (Lo.rf.uI (by decide))
          · exact absurd c_38 (by decide)
        · exact absurd (by decide) c_25
      · refine wp_aload_n (pc := 14) 0 dX7_set_14 rfl rfl ?_
        refine wq_getR (pc := 15) 33 13 dX7_set_15 s0_40 flX7_33 rfl rfl (by decide) (by decide) ?_
        refine wp_iload_n (pc := 18) 1 dX7_set_18 rfl rfl ?_
        refine wq_iald (pc := 19) a dX7_set_19 s0_47 (by decide) rfl ha (by decide) ?_
        refine wp_int (hS.1 _ ha) ?_
        refine wp_int (show eN (sgh s a) = 3 by rw [e]; rfl) ?_
        refine wp_istore (pc := 20) 5 dX7_set_20 (by decide) rfl ?_
        refine wp_iload (pc := 22) 5 dX7_set_22 rfl ?_
        refine wp_iconst (pc := 24) (4) dX7_set_24 (by decide) ?_
        refine wp_icmp_le (pc := 25) 35 dX7_set_25 (by decide) (fun c_25 => ?_) (fun c_25 => ?_)
        · refine wp_iload (pc := 35) 5 dX7_set_35 rfl ?_
          refine wp_iconst (pc := 37) (-1) dX7_set_37 (by decide) ?_
          refine wp_icmp_ne (pc := 38) 48 dX7_set_38 (by decide) (fun c_38 => ?_) (fun c_38 => ?_)
          · refine wp_iload_n (pc := 48) 2 dX7_set_48 rfl rfl ?_
            refine wp_iconst (pc := 49) (0) dX7_set_49 (by decide) ?_
            refine wp_aload_n (pc := 50) 0 dX7_set_50 rfl rfl ?_
            refine wq_getR (pc := 51) 36 14 dX7_set_51 s0_40 flX7_36 rfl rfl (by decide) (by decide) ?_
            refine wp_iload_n (pc := 54) 1 dX7_set_54 rfl rfl ?_
            refine wq_iald (pc := 55) a dX7_set_55 s0_48 (by decide) rfl ha (by decide) ?_
            refine wp_int (hS.2.1 _ ha) ?_
            refine wp_iconst (pc := 56) (1) dX7_set_56 (by decide) ?_
            refine wp_isub (pc := 57) dX7_set_57 ?_
            refine wc_S_III (pc := 58) dX7_set_58 lkX7_49 (by decide) (Nat.le_of_ble_eq_true rfl) ?_
            refine c_X7_isIn ?_
            refine wp_ifneB (pc := 61) 71 dX7_set_61 (by decide) (fun c_61 => ?_) (fun c_61 => ?_)
            · have hy := (i32_pred (by omega)).mp (of_decide_eq_true c_61)
              obtain ⟨j, hj, rfl⟩ := (i32_in (by omega)).mp hy
              refine wp_aload_n (pc := 71) 0 dX7_set_71 rfl rfl ?_
              refine wq_getR (pc := 72) 39 15 dX7_set_72 s0_40 flX7_39 rfl rfl (by decide) (by decide) ?_
              refine wp_bipush (pc := 75) (40) dX7_set_75 (by decide) ?_
              refine wp_iload_n (pc := 77) 1 dX7_set_77 rfl rfl ?_
              refine wp_imul (pc := 78) dX7_set_78 ?_
              refine wp_iload_n (pc := 79) 2 dX7_set_79 rfl rfl ?_
              refine wp_iadd (pc := 80) dX7_set_80 ?_
              refine wp_iload (pc := 81) 5 dX7_set_81 rfl ?_
              refine wp_ifne (pc := 83) 93 dX7_set_83 (by decide) (fun c_83 => ?_) (fun c_83 => ?_)
              · refine wp_iload (pc := 93) 5 dX7_set_93 rfl ?_
                refine wp_iconst (pc := 95) (1) dX7_set_95 (by decide) ?_
                refine wp_icmp_ne (pc := 96) 106 dX7_set_96 (by decide) (fun c_96 => ?_) (fun c_96 => ?_)
                · refine wp_iload (pc := 106) 5 dX7_set_106 rfl ?_
                  refine wp_iconst (pc := 108) (2) dX7_set_108 (by decide) ?_
                  refine wp_icmp_ne (pc := 109) 118 dX7_set_109 (by decide) (fun c_109 => ?_) (fun c_109 => ?_)
                  · refine wp_iload (pc := 118) 5 dX7_set_118 rfl ?_
                    refine wp_iconst (pc := 120) (3) dX7_set_120 (by decide) ?_
                    refine wp_icmp_ne (pc := 121) 128 dX7_set_121 (by decide) (fun c_121 => ?_) (fun c_121 => ?_)
                    · exact absurd (by decide) c_121
                    · refine wp_lload_n (pc := 124) 3 dX7_set_124 rfl rfl ?_
                      refine wp_goto (pc := 125) 139 dX7_set_125 (by decide) ?_
                      refine wq_last (pc := 139) (a * 40 + j) dX7_set_139 s0_49 (by decide) (ix40 a j) (by omega) (by decide) ?_
                      refine wp_iconst (pc := 140) (1) dX7_set_140 (by decide) ?_
                      refine wp_iretI (pc := 141) dX7_set_141 rfl ?_
                      rw [if_pos hy, nI_clamp (by omega)] at k
                      exact k _ _ _ (hM.sh (hS.ue (a * 40 + j) _) (fun x h1 h2 => rfl)) (Lo.rf.uJ (by decide))
                  · exact absurd c_109 (by decide)
                · exact absurd c_96 (by decide)
              · exact absurd c_83 (by decide)
            · refine wp_aload_n (pc := 64) 0 dX7_set_64 rfl rfl ?_
              refine wp_bipush (pc := 65) (-2) dX7_set_65 (by decide) ?_
              refine wc_V_I (pc := 67) dX7_set_67 lkX7_81 (sm_Rc.o (ci := 6) s0_40 (by decide) (by decide)) (by decide) (Nat.le_of_ble_eq_true rfl) ?_
              refine c_X7_no_0 ?_
              refine wp_iretI (pc := 70) dX7_set_70 rfl ?_
              rw [if_neg (fun z => of_decide_eq_false c_61 ((i32_pred (by omega)).mpr z))] at k
              exact k _ _ _ (hM.bmp (by decide)) (Lo.rf.uI (by decide))
          · exact absurd c_38 (by decide)
        · exact absurd (by decide) c_25
      · refine wp_aload_n (pc := 14) 0 dX7_set_14 rfl rfl ?_
        refine wq_getR (pc := 15) 33 13 dX7_set_15 s0_40 flX7_33 rfl rfl (by decide) (by decide) ?_
        refine wp_iload_n (pc := 18) 1 dX7_set_18 rfl rfl ?_
        refine wq_iald (pc := 19) a dX7_set_19 s0_47 (by decide) rfl ha (by decide) ?_
        refine wp_int (hS.1 _ ha) ?_
        refine wp_int (show eN (sgh s a) = 4 by rw [e]; rfl) ?_
        refine wp_istore (pc := 20) 5 dX7_set_20 (by decide) rfl ?_
        refine wp_iload (pc := 22) 5 dX7_set_22 rfl ?_
        refine wp_iconst (pc := 24) (4) dX7_set_24 (by decide) ?_
        refine wp_icmp_le (pc := 25) 35 dX7_set_25 (by decide) (fun c_25 => ?_) (fun c_25 => ?_)
        · refine wp_iload (pc := 35) 5 dX7_set_35 rfl ?_
          refine wp_iconst (pc := 37) (-1) dX7_set_37 (by decide) ?_
          refine wp_icmp_ne (pc := 38) 48 dX7_set_38 (by decide) (fun c_38 => ?_) (fun c_38 => ?_)
          · refine wp_iload_n (pc := 48) 2 dX7_set_48 rfl rfl ?_
            refine wp_iconst (pc := 49) (0) dX7_set_49 (by decide) ?_
            refine wp_aload_n (pc := 50) 0 dX7_set_50 rfl rfl ?_
            refine wq_getR (pc := 51) 36 14 dX7_set_51 s0_40 flX7_36 rfl rfl (by decide) (by decide) ?_
            refine wp_iload_n (pc := 54) 1 dX7_set_54 rfl rfl ?_
            refine wq_iald (pc := 55) a dX7_set_55 s0_48 (by decide) rfl ha (by decide) ?_
            refine wp_int (hS.2.1 _ ha) ?_
            refine wp_iconst (pc := 56) (1) dX7_set_56 (by decide) ?_
            refine wp_isub (pc := 57) dX7_set_57 ?_
            refine wc_S_III (pc := 58) dX7_set_58 lkX7_49 (by decide) (Nat.le_of_ble_eq_true rfl) ?_
            refine c_X7_isIn ?_
            refine wp_ifneB (pc := 61) 71 dX7_set_61 (by decide) (fun c_61 => ?_) (fun c_61 => ?_)
            · have hy := (i32_pred (by omega)).mp (of_decide_eq_true c_61)
              obtain ⟨j, hj, rfl⟩ := (i32_in (by omega)).mp hy
              refine wp_aload_n (pc := 71) 0 dX7_set_71 rfl rfl ?_
              refine wq_getR (pc := 72) 39 15 dX7_set_72 s0_40 flX7_39 rfl rfl (by decide) (by decide) ?_
              refine wp_bipush (pc := 75) (40) dX7_set_75 (by decide) ?_
              refine wp_iload_n (pc := 77) 1 dX7_set_77 rfl rfl ?_
              refine wp_imul (pc := 78) dX7_set_78 ?_
              refine wp_iload_n (pc := 79) 2 dX7_set_79 rfl rfl ?_
              refine wp_iadd (pc := 80) dX7_set_80 ?_
              refine wp_iload (pc := 81) 5 dX7_set_81 rfl ?_
              refine wp_ifne (pc := 83) 93 dX7_set_83 (by decide) (fun c_83 => ?_) (fun c_83 => ?_)
              · refine wp_iload (pc := 93) 5 dX7_set_93 rfl ?_
                refine wp_iconst (pc := 95) (1) dX7_set_95 (by decide) ?_
                refine wp_icmp_ne (pc := 96) 106 dX7_set_96 (by decide) (fun c_96 => ?_) (fun c_96 => ?_)
                · refine wp_iload (pc := 106) 5 dX7_set_106 rfl ?_
                  refine wp_iconst (pc := 108) (2) dX7_set_108 (by decide) ?_
                  refine wp_icmp_ne (pc := 109) 118 dX7_set_109 (by decide) (fun c_109 => ?_) (fun c_109 => ?_)
                  · refine wp_iload (pc := 118) 5 dX7_set_118 rfl ?_
                    refine wp_iconst (pc := 120) (3) dX7_set_120 (by decide) ?_
                    refine wp_icmp_ne (pc := 121) 128 dX7_set_121 (by decide) (fun c_121 => ?_) (fun c_121 => ?_)
                    · refine wp_lload_n (pc := 128) 3 dX7_set_128 rfl rfl ?_
                      refine wp_lconst (pc := 129) 0 dX7_set_129 (by decide) ?_
                      refine wp_lcmp (pc := 130) dX7_set_130 ?_
                      refine wp_ifeq (pc := 131) 138 dX7_set_131 (by decide) (fun c_131 => ?_) (fun c_131 => ?_)
                      · refine wp_lconst (pc := 138) 0 dX7_set_138 (by decide) ?_
                        refine wq_last (pc := 139) (a * 40 + j) dX7_set_139 s0_49 (by decide) (ix40 a j) (by omega) (by decide) ?_
                        refine wp_iconst (pc := 140) (1) dX7_set_140 (by decide) ?_
                        refine wp_iretI (pc := 141) dX7_set_141 rfl ?_
                        rw [if_pos hy, nI_clamp (by omega)] at k
                        rw [show srt 4 v = 0 from if_pos ((lg_cmp_eq _ _).mp c_131)] at k
                        exact k _ _ _ (hM.sh (hS.ue (a * 40 + j) _) (fun x h1 h2 => rfl)) (Lo.rf.uJ (by decide))
                      · refine wp_lconst (pc := 134) 1 dX7_set_134 (by decide) ?_
                        refine wp_goto (pc := 135) 139 dX7_set_135 (by decide) ?_
                        refine wq_last (pc := 139) (a * 40 + j) dX7_set_139 s0_49 (by decide) (ix40 a j) (by omega) (by decide) ?_
                        refine wp_iconst (pc := 140) (1) dX7_set_140 (by decide) ?_
                        refine wp_iretI (pc := 141) dX7_set_141 rfl ?_
                        rw [if_pos hy, nI_clamp (by omega)] at k
                        rw [show srt 4 v = 1 from if_neg (fun z => c_131 ((lg_cmp_eq _ _).mpr z))] at k
                        exact k _ _ _ (hM.sh (hS.ue (a * 40 + j) _) (fun x h1 h2 => rfl)) (Lo.rf.uJ (by decide))
                    · exact absurd c_121 (by decide)
                  · exact absurd c_109 (by decide)
                · exact absurd c_96 (by decide)
              · exact absurd c_83 (by decide)
            · refine wp_aload_n (pc := 64) 0 dX7_set_64 rfl rfl ?_
              refine wp_bipush (pc := 65) (-2) dX7_set_65 (by decide) ?_
              refine wc_V_I (pc := 67) dX7_set_67 lkX7_81 (sm_Rc.o (ci := 6) s0_40 (by decide) (by decide)) (by decide) (Nat.le_of_ble_eq_true rfl) ?_
              refine c_X7_no_0 ?_
              refine wp_iretI (pc := 70) dX7_set_70 rfl ?_
              rw [if_neg (fun z => of_decide_eq_false c_61 ((i32_pred (by omega)).mpr z))] at k
              exact k _ _ _ (hM.bmp (by decide)) (Lo.rf.uI (by decide))
          · exact absurd c_38 (by decide)
        · exact absurd (by decide) c_25
    · rw [do_set_g c_4 ha e hk] at k
      refine wp_aload_n (pc := 14) 0 dX7_set_14 rfl rfl ?_
      refine wq_getR (pc := 15) 33 13 dX7_set_15 s0_40 flX7_33 rfl rfl (by decide) (by decide) ?_
      refine wp_iload_n (pc := 18) 1 dX7_set_18 rfl rfl ?_
      refine wq_iald (pc := 19) a dX7_set_19 s0_47 (by decide) rfl ha (by decide) ?_
      refine wp_int (hS.1 _ ha) ?_
      refine wp_int (show eN (sgh s a) = nI k0 by rw [e]; rfl) ?_
      refine wp_istore (pc := 20) 5 dX7_set_20 (by decide) rfl ?_
      refine wp_iload (pc := 22) 5 dX7_set_22 rfl ?_
      refine wp_iconst (pc := 24) (4) dX7_set_24 (by decide) ?_
      refine wp_icmp_le (pc := 25) 35 dX7_set_25 (by decide) (fun c_25 => ?_) (fun c_25 => ?_)
      · exact absurd c_25 (nI_ge (b := k0) (a := 4) (by omega) (by omega))
      · refine wp_aload_n (pc := 28) 0 dX7_set_28 rfl rfl ?_
        refine wp_bipush (pc := 29) (-3) dX7_set_29 (by decide) ?_
        refine wc_V_I (pc := 31) dX7_set_31 lkX7_81 (sm_Rc.o (ci := 6) s0_40 (by decide) (by decide)) (by decide) (Nat.le_of_ble_eq_true rfl) ?_
        refine c_X7_no_1 ?_
        refine wp_iretI (pc := 34) dX7_set_34 rfl ?_
        exact k _ _ _ (hM.bmp (by decide)) (Lo.rf.uI (by decide))
  · refine wp_aload_n (pc := 7) 0 dX7_set_7 rfl rfl ?_
    refine wp_bipush (pc := 8) (-2) dX7_set_8 (by decide) ?_
    refine wc_V_I (pc := 10) dX7_set_10 lkX7_81 (sm_Rc.o (ci := 6) s0_40 (by decide) (by decide)) (by decide) (Nat.le_of_ble_eq_true rfl) ?_
    refine c_X7_no_0 ?_
    refine wp_iretI (pc := 13) dX7_set_13 rfl ?_
    rw [do_set_o (fun z => absurd (c_4.symm.trans z) (by decide))] at k
    exact k _ _ _ (hM.bmp (by decide)) (Lo.rf.uI (by decide))
theorem prt_n1 {sz : Nat} {y z : Int32} (h : y < 0) : prtB sz y z = false := by simp [prtB, Int32.not_le.mpr h]
theorem prt_n2 {sz : Nat} {y z : Int32} (h : z < 0) : prtB sz y z = false := by simp [prtB, Int32.not_le.mpr h]
theorem prt_gt {sz a m : Nat} (hsz : sz ≤ 40) (ha : a < 2 ^ 31) (hm : m < 2 ^ 31) : nI sz - nI a < nI m ↔ sz < a + m := by
  rw [Int32.lt_iff_toInt_lt, sub_toInt hsz ha, nI_toInt hm]
  omega
theorem prt_t {sz a m : Nat} (hsz : sz ≤ 40) (ha : a < 2 ^ 31) (hm : m < 2 ^ 31) (h : ¬ nI sz - nI a < nI m) : prtB sz (nI a) (nI m) = true := by
  rw [prtB_n hsz ha hm]
  exact decide_eq_true (by have := mt (prt_gt hsz ha hm).mpr h; omega)
theorem prt_f {sz a m : Nat} (hsz : sz ≤ 40) (ha : a < 2 ^ 31) (hm : m < 2 ^ 31) (h : nI sz - nI a < nI m) : prtB sz (nI a) (nI m) = false := by
  rw [prtB_n hsz ha hm]
  exact decide_eq_false (by have := (prt_gt hsz ha hm).mp h; omega)
def JM (J : Nat → Nat → Int64) (A i : Nat) : Nat → Nat → Int64 := fun x y => if x = 50 ∧ y < i then J 49 (A + y) else J x y
theorem JM_0 {J : Nat → Nat → Int64} {A : Nat} : JM J A 0 = J := by funext x y; exact if_neg (by omega)
theorem JM_s {J : Nat → Nat → Int64} {A i : Nat} : sm_up (JM J A i) 50 i (J 49 (A + i)) = JM J A (i + 1) := by
  funext x y
  simp only [sm_up, JM]
  by_cases h : x = 50 ∧ y = i
  · rw [if_pos h, if_pos ⟨h.1, by omega⟩, h.2]
  · rw [if_neg h]
    by_cases h2 : x = 50 ∧ y < i
    · rw [if_pos h2, if_pos ⟨h2.1, by omega⟩]
    · rw [if_neg h2, if_neg (by omega)]
def JN (J : Nat → Nat → Int64) (g : Nat → Int64) (B i : Nat) : Nat → Nat → Int64 := fun x y => if x = 49 ∧ B ≤ y ∧ y < B + i then g (y - B) else J x y
theorem JN_0 {J : Nat → Nat → Int64} {g : Nat → Int64} {B : Nat} : JN J g B 0 = J := by funext x y; exact if_neg (by omega)
theorem JN_s {J : Nat → Nat → Int64} {g : Nat → Int64} {B i : Nat} : sm_up (JN J g B i) 49 (B + i) (g i) = JN J g B (i + 1) := by
  funext x y
  simp only [sm_up, JN]
  by_cases h : x = 49 ∧ y = B + i
  · rw [if_pos h, if_pos ⟨h.1, by omega, by omega⟩, h.2, Nat.add_sub_cancel_left]
  · rw [if_neg h]
    by_cases h2 : x = 49 ∧ B ≤ y ∧ y < B + i
    · rw [if_pos h2, if_pos ⟨h2.1, h2.2.1, by omega⟩]
    · rw [if_neg h2, if_neg (by omega)]
theorem JMN {s : Sg} {F I : Nat → Nat → Int32} {J : Nat → Nat → Int64} {hd : Nat → Option Nat} {zs : Nat → Nat} {el : Nat → Int64} (hS : ShR 47 hd zs el I J) {A B n : Nat} (hA : A + n ≤ 320) : ShR 47 hd zs (elM el A B n) I (JN (JM J A n) (fun y => J 49 (A + y)) B n) := by
  refine ⟨hS.1, hS.2.1, fun j hj => ?_⟩
  show JN (JM J A n) (fun y => J 49 (A + y)) B n 49 j = va_cpy el el A B n j
  unfold JN JM va_cpy
  by_cases h : B ≤ j ∧ j < B + n
  · rw [if_pos ⟨rfl, h.1, h.2⟩, if_pos h]
    exact hS.2.2 _ (by omega)
  · rw [if_neg (fun z => h z.2), if_neg (by omega), if_neg h]
    exact hS.2.2 _ hj
theorem JMN_lo {F I : Nat → Nat → Int32} {J : Nat → Nat → Int64} {g : Nat → Int64} {A B n m : Nat} : Lo F I J F I (JN (JM J A n) g B m) := fun a ha => ⟨rfl, rfl, funext fun y => by unfold JN JM; rw [if_neg (by omega), if_neg (by omega)]⟩
theorem c_X7_copy {d : Nat} {F I : Nat → Nat → Int32} {J : Nat → Nat → Int64} {Q : Option Value → sm_H → Prop} {x y z u v : Int32} {s : Sg} (hM : MR s F I J) (ok : Ok s) (k : ∀ F1 I1 J1, MR (do_copy s x y z u v).2 F1 I1 J1 → Lo F I J F1 I1 J1 → Q (some (.int (do_copy s x y z u v).1)) (S0, F1, I1, J1)) : Wp mX7_copy (d + 2) 0 0 0 (sm_ini [.ref 40, .int x, .int y, .int z, .int u, .int v] 7) [] (S0, F, I, J) Q := by
  show Wp _ _ _ _ _ [.ref 40, .int x, .int y, .int z, .int u, .int v, .null] _ _ _
  have hw := ok.1
  have hR := hM.1
  have hn := hw.n
  have hcw := hw.c
  have hbn := bn_1024 hw
  have hbl := bn_lt hw
  have hp2 := p2n hw
  have hh1 := hw.wth
  have hh2 := hw.crk
  have hh3 := hw.year
  have hS := hM.2.2.2.2.2.1
  have ho := ok.2.2.2.2.1
  have hz := ok.2.2.1
  refine wp_iload_n (pc := 0) 1 dX7_copy_0 rfl rfl ?_
  refine wc_S_I (pc := 1) dX7_copy_1 lkX7_204 (by decide) (Nat.le_of_ble_eq_true rfl) ?_
  refine c_X7_isShelf ?_
  refine wp_ifeqB (pc := 4) 14 dX7_copy_4 (by decide) (fun c_4 => ?_) (fun c_4 => ?_)
  · refine wp_aload_n (pc := 14) 0 dX7_copy_14 rfl rfl ?_
    refine wp_bipush (pc := 15) (-2) dX7_copy_15 (by decide) ?_
    refine wc_V_I (pc := 17) dX7_copy_17 lkX7_81 (sm_Rc.o (ci := 6) s0_40 (by decide) (by decide)) (by decide) (Nat.le_of_ble_eq_true rfl) ?_
    refine c_X7_no_0 ?_
    refine wp_iretI (pc := 20) dX7_copy_20 rfl ?_
    unfold do_copy at k
    rw [gat_f (c := (inS x && inS y)) (and_f1 c_4)] at k
    exact k _ _ _ (hM.bmp (by decide)) (Lo.rf.uI (by decide))
  · obtain ⟨a, ha, rfl⟩ := (i32_in (n := 8) (by decide)).mp (of_decide_eq_true c_4)
    refine wp_iload_n (pc := 7) 2 dX7_copy_7 rfl rfl ?_
    refine wc_S_I (pc := 8) dX7_copy_8 lkX7_204 (by decide) (Nat.le_of_ble_eq_true rfl) ?_
    refine c_X7_isShelf ?_
    refine wp_ifneB (pc := 11) 21 dX7_copy_11 (by decide) (fun c_11 => ?_) (fun c_11 => ?_)
    · obtain ⟨b, hb, rfl⟩ := (i32_in (n := 8) (by decide)).mp (of_decide_eq_true c_11)
      rcases ho.c a with e1 | ⟨k1, e1, hk1⟩ | ⟨k1, e1, hk1, hk11⟩
      · rcases ho.c b with e2 | ⟨k2, e2, hk2⟩ | ⟨k2, e2, hk2, hk22⟩
        · have hza := ho.2 a
          have hzb := ho.2 b
          refine wp_aload_n (pc := 21) 0 dX7_copy_21 rfl rfl ?_
          refine wq_getR (pc := 22) 33 13 dX7_copy_22 s0_40 flX7_33 rfl rfl (by decide) (by decide) ?_
          refine wp_iload_n (pc := 25) 1 dX7_copy_25 rfl rfl ?_
          refine wq_iald (pc := 26) a dX7_copy_26 s0_47 (by decide) rfl ha (by decide) ?_
          refine wp_int (hS.1 _ ha) ?_
          refine wp_int (show eN (sgh s a) = -1 by rw [e1]; rfl) ?_
          refine wp_iconst (pc := 27) (4) dX7_copy_27 (by decide) ?_
          refine wp_icmp_gt (pc := 28) 76 dX7_copy_28 (by decide) (fun c_28 => ?_) (fun c_28 => ?_)
          · exact absurd c_28 (by decide)
          · refine wp_aload_n (pc := 31) 0 dX7_copy_31 rfl rfl ?_
            refine wq_getR (pc := 32) 33 13 dX7_copy_32 s0_40 flX7_33 rfl rfl (by decide) (by decide) ?_
            refine wp_iload_n (pc := 35) 2 dX7_copy_35 rfl rfl ?_
            refine wq_iald (pc := 36) b dX7_copy_36 s0_47 (by decide) rfl hb (by decide) ?_
            refine wp_int (hS.1 _ hb) ?_
            refine wp_int (show eN (sgh s b) = -1 by rw [e2]; rfl) ?_
            refine wp_iconst (pc := 37) (4) dX7_copy_37 (by decide) ?_
            refine wp_icmp_gt (pc := 38) 76 dX7_copy_38 (by decide) (fun c_38 => ?_) (fun c_38 => ?_)
            · exact absurd c_38 (by decide)
            · refine wp_aload_n (pc := 41) 0 dX7_copy_41 rfl rfl ?_
              refine wq_getR (pc := 42) 33 13 dX7_copy_42 s0_40 flX7_33 rfl rfl (by decide) (by decide) ?_
              refine wp_iload_n (pc := 45) 1 dX7_copy_45 rfl rfl ?_
              refine wq_iald (pc := 46) a dX7_copy_46 s0_47 (by decide) rfl ha (by decide) ?_
              refine wp_int (hS.1 _ ha) ?_
              refine wp_int (show eN (sgh s a) = -1 by rw [e1]; rfl) ?_
              refine wp_iconst (pc := 47) (-1) dX7_copy_47 (by decide) ?_
              refine wp_icmp_eq (pc := 48) 83 dX7_copy_48 (by decide) (fun c_48 => ?_) (fun c_48 => ?_)
              · refine wp_aload_n (pc := 83) 0 dX7_copy_83 rfl rfl ?_
                refine wq_getR (pc := 84) 33 13 dX7_copy_84 s0_40 flX7_33 rfl rfl (by decide) (by decide) ?_
                refine wp_iload_n (pc := 87) 1 dX7_copy_87 rfl rfl ?_
                refine wq_iald (pc := 88) a dX7_copy_88 s0_47 (by decide) rfl ha (by decide) ?_
                refine wp_int (hS.1 _ ha) ?_
                refine wp_int (show eN (sgh s a) = -1 by rw [e1]; rfl) ?_
                refine wp_iconst (pc := 89) (-1) dX7_copy_89 (by decide) ?_
                refine wp_icmp_eq (pc := 90) 103 dX7_copy_90 (by decide) (fun c_90 => ?_) (fun c_90 => ?_)
                · refine wp_aload_n (pc := 103) 0 dX7_copy_103 rfl rfl ?_
                  refine wp_bipush (pc := 104) (-4) dX7_copy_104 (by decide) ?_
                  refine wc_V_I (pc := 106) dX7_copy_106 lkX7_81 (sm_Rc.o (ci := 6) s0_40 (by decide) (by decide)) (by decide) (Nat.le_of_ble_eq_true rfl) ?_
                  refine c_X7_no_2 ?_
                  refine wp_iretI (pc := 109) dX7_copy_109 rfl ?_
                  unfold do_copy at k
                  rw [gat_t (c := (inS (nI a) && inS (nI b))) (and_tt c_4 c_11), nI_clamp (show a < 2 ^ 31 by omega), nI_clamp (show b < 2 ^ 31 by omega), e1, e2] at k
                  rw [gat_t (c := (!hgr none && !hgr none)) (nn_t (show hgr none = false from rfl) (show hgr none = false from rfl))] at k
                  rw [gat_f (c := (hrow none && hrow none)) (and_f1 rfl)] at k
                  exact k _ _ _ (hM.bmp (by decide)) (Lo.rf.uI (by decide))
                · exact absurd (by decide) c_90
              · exact absurd (by decide) c_48
        · have hza := ho.2 a
          have hzb := ho.2 b
          refine wp_aload_n (pc := 21) 0 dX7_copy_21 rfl rfl ?_
          refine wq_getR (pc := 22) 33 13 dX7_copy_22 s0_40 flX7_33 rfl rfl (by decide) (by decide) ?_
          refine wp_iload_n (pc := 25) 1 dX7_copy_25 rfl rfl ?_
          refine wq_iald (pc := 26) a dX7_copy_26 s0_47 (by decide) rfl ha (by decide) ?_
          refine wp_int (hS.1 _ ha) ?_
          refine wp_int (show eN (sgh s a) = -1 by rw [e1]; rfl) ?_
          refine wp_iconst (pc := 27) (4) dX7_copy_27 (by decide) ?_
          refine wp_icmp_gt (pc := 28) 76 dX7_copy_28 (by decide) (fun c_28 => ?_) (fun c_28 => ?_)
          · exact absurd c_28 (by decide)
          · refine wp_aload_n (pc := 31) 0 dX7_copy_31 rfl rfl ?_
            refine wq_getR (pc := 32) 33 13 dX7_copy_32 s0_40 flX7_33 rfl rfl (by decide) (by decide) ?_
            refine wp_iload_n (pc := 35) 2 dX7_copy_35 rfl rfl ?_
            refine wq_iald (pc := 36) b dX7_copy_36 s0_47 (by decide) rfl hb (by decide) ?_
            refine wp_int (hS.1 _ hb) ?_
            refine wp_int (show eN (sgh s b) = nI k2 by rw [e2]; rfl) ?_
            refine wp_iconst (pc := 37) (4) dX7_copy_37 (by decide) ?_
            refine wp_icmp_gt (pc := 38) 76 dX7_copy_38 (by decide) (fun c_38 => ?_) (fun c_38 => ?_)
            · exact absurd c_38 (nI_nlt (a := 4) (by omega) (by omega))
            · refine wp_aload_n (pc := 41) 0 dX7_copy_41 rfl rfl ?_
              refine wq_getR (pc := 42) 33 13 dX7_copy_42 s0_40 flX7_33 rfl rfl (by decide) (by decide) ?_
              refine wp_iload_n (pc := 45) 1 dX7_copy_45 rfl rfl ?_
              refine wq_iald (pc := 46) a dX7_copy_46 s0_47 (by decide) rfl ha (by decide) ?_
              refine wp_int (hS.1 _ ha) ?_
              refine wp_int (show eN (sgh s a) = -1 by rw [e1]; rfl) ?_
              refine wp_iconst (pc := 47) (-1) dX7_copy_47 (by decide) ?_
              refine wp_icmp_eq (pc := 48) 83 dX7_copy_48 (by decide) (fun c_48 => ?_) (fun c_48 => ?_)
              · refine wp_aload_n (pc := 83) 0 dX7_copy_83 rfl rfl ?_
                refine wq_getR (pc := 84) 33 13 dX7_copy_84 s0_40 flX7_33 rfl rfl (by decide) (by decide) ?_
                refine wp_iload_n (pc := 87) 1 dX7_copy_87 rfl rfl ?_
                refine wq_iald (pc := 88) a dX7_copy_88 s0_47 (by decide) rfl ha (by decide) ?_
                refine wp_int (hS.1 _ ha) ?_
                refine wp_int (show eN (sgh s a) = -1 by rw [e1]; rfl) ?_
                refine wp_iconst (pc := 89) (-1) dX7_copy_89 (by decide) ?_
                refine wp_icmp_eq (pc := 90) 103 dX7_copy_90 (by decide) (fun c_90 => ?_) (fun c_90 => ?_)
                · refine wp_aload_n (pc := 103) 0 dX7_copy_103 rfl rfl ?_
                  refine wp_bipush (pc := 104) (-4) dX7_copy_104 (by decide) ?_
                  refine wc_V_I (pc := 106) dX7_copy_106 lkX7_81 (sm_Rc.o (ci := 6) s0_40 (by decide) (by decide)) (by decide) (Nat.le_of_ble_eq_true rfl) ?_
                  refine c_X7_no_2 ?_
                  refine wp_iretI (pc := 109) dX7_copy_109 rfl ?_
                  unfold do_copy at k
                  rw [gat_t (c := (inS (nI a) && inS (nI b))) (and_tt c_4 c_11), nI_clamp (show a < 2 ^ 31 by omega), nI_clamp (show b < 2 ^ 31 by omega), e1, e2] at k
                  rw [gat_t (c := (!hgr none && !hgr (some k2))) (nn_t (show hgr none = false from rfl) (show hgr (some k2) = false from (decide_eq_false (by omega))))] at k
                  rw [gat_f (c := (hrow none && hrow (some k2))) (and_f1 rfl)] at k
                  exact k _ _ _ (hM.bmp (by decide)) (Lo.rf.uI (by decide))
                · exact absurd (by decide) c_90
              · exact absurd (by decide) c_48
        · have hza := ho.2 a
          have hzb := ho.2 b
          refine wp_aload_n (pc := 21) 0 dX7_copy_21 rfl rfl ?_
          refine wq_getR (pc := 22) 33 13 dX7_copy_22 s0_40 flX7_33 rfl rfl (by decide) (by decide) ?_
          refine wp_iload_n (pc := 25) 1 dX7_copy_25 rfl rfl ?_
          refine wq_iald (pc := 26) a dX7_copy_26 s0_47 (by decide) rfl ha (by decide) ?_
          refine wp_int (hS.1 _ ha) ?_
          refine wp_int (show eN (sgh s a) = -1 by rw [e1]; rfl) ?_
          refine wp_iconst (pc := 27) (4) dX7_copy_27 (by decide) ?_
          refine wp_icmp_gt (pc := 28) 76 dX7_copy_28 (by decide) (fun c_28 => ?_) (fun c_28 => ?_)
          · exact absurd c_28 (by decide)
          · refine wp_aload_n (pc := 31) 0 dX7_copy_31 rfl rfl ?_
            refine wq_getR (pc := 32) 33 13 dX7_copy_32 s0_40 flX7_33 rfl rfl (by decide) (by decide) ?_
            refine wp_iload_n (pc := 35) 2 dX7_copy_35 rfl rfl ?_
            refine wq_iald (pc := 36) b dX7_copy_36 s0_47 (by decide) rfl hb (by decide) ?_
            refine wp_int (hS.1 _ hb) ?_
            refine wp_int (show eN (sgh s b) = nI k2 by rw [e2]; rfl) ?_
            refine wp_iconst (pc := 37) (4) dX7_copy_37 (by decide) ?_
            refine wp_icmp_gt (pc := 38) 76 dX7_copy_38 (by decide) (fun c_38 => ?_) (fun c_38 => ?_)
            · refine wp_aload_n (pc := 76) 0 dX7_copy_76 rfl rfl ?_
              refine wp_bipush (pc := 77) (-3) dX7_copy_77 (by decide) ?_
              refine wc_V_I (pc := 79) dX7_copy_79 lkX7_81 (sm_Rc.o (ci := 6) s0_40 (by decide) (by decide)) (by decide) (Nat.le_of_ble_eq_true rfl) ?_
              refine c_X7_no_1 ?_
              refine wp_iretI (pc := 82) dX7_copy_82 rfl ?_
              unfold do_copy at k
              rw [gat_t (c := (inS (nI a) && inS (nI b))) (and_tt c_4 c_11), nI_clamp (show a < 2 ^ 31 by omega), nI_clamp (show b < 2 ^ 31 by omega), e1, e2] at k
              rw [gat_f (c := (!hgr none && !hgr (some k2))) (nn_2 (show hgr (some k2) = true from (decide_eq_true hk2)))] at k
              exact k _ _ _ (hM.bmp (by decide)) (Lo.rf.uI (by decide))
            · exact absurd (nI_lt (a := 4) (by omega) (by omega)) c_38
      · rcases ho.c b with e2 | ⟨k2, e2, hk2⟩ | ⟨k2, e2, hk2, hk22⟩
        · have hza := ho.2 a
          have hzb := ho.2 b
          refine wp_aload_n (pc := 21) 0 dX7_copy_21 rfl rfl ?_
          refine wq_getR (pc := 22) 33 13 dX7_copy_22 s0_40 flX7_33 rfl rfl (by decide) (by decide) ?_
          refine wp_iload_n (pc := 25) 1 dX7_copy_25 rfl rfl ?_
          refine wq_iald (pc := 26) a dX7_copy_26 s0_47 (by decide) rfl ha (by decide) ?_
          refine wp_int (hS.1 _ ha) ?_
          refine wp_int (show eN (sgh s a) = nI k1 by rw [e1]; rfl) ?_
          refine wp_iconst (pc := 27) (4) dX7_copy_27 (by decide) ?_
          refine wp_icmp_gt (pc := 28) 76 dX7_copy_28 (by decide) (fun c_28 => ?_) (fun c_28 => ?_)
          · exact absurd c_28 (nI_nlt (a := 4) (by omega) (by omega))
          · refine wp_aload_n (pc := 31) 0 dX7_copy_31 rfl rfl ?_
            refine wq_getR (pc := 32) 33 13 dX7_copy_32 s0_40 flX7_33 rfl rfl (by decide) (by decide) ?_
            refine wp_iload_n (pc := 35) 2 dX7_copy_35 rfl rfl ?_
            refine wq_iald (pc := 36) b dX7_copy_36 s0_47 (by decide) rfl hb (by decide) ?_
            refine wp_int (hS.1 _ hb) ?_
            refine wp_int (show eN (sgh s b) = -1 by rw [e2]; rfl) ?_
            refine wp_iconst (pc := 37) (4) dX7_copy_37 (by decide) ?_
            refine wp_icmp_gt (pc := 38) 76 dX7_copy_38 (by decide) (fun c_38 => ?_) (fun c_38 => ?_)
            · exact absurd c_38 (by decide)
            · refine wp_aload_n (pc := 41) 0 dX7_copy_41 rfl rfl ?_
              refine wq_getR (pc := 42) 33 13 dX7_copy_42 s0_40 flX7_33 rfl rfl (by decide) (by decide) ?_
              refine wp_iload_n (pc := 45) 1 dX7_copy_45 rfl rfl ?_
              refine wq_iald (pc := 46) a dX7_copy_46 s0_47 (by decide) rfl ha (by decide) ?_
              refine wp_int (hS.1 _ ha) ?_
              refine wp_int (show eN (sgh s a) = nI k1 by rw [e1]; rfl) ?_
              refine wp_iconst (pc := 47) (-1) dX7_copy_47 (by decide) ?_
              refine wp_icmp_eq (pc := 48) 83 dX7_copy_48 (by decide) (fun c_48 => ?_) (fun c_48 => ?_)
              · exact absurd c_48 (m1_ne (by omega))
              · refine wp_aload_n (pc := 51) 0 dX7_copy_51 rfl rfl ?_
                refine wq_getR (pc := 52) 33 13 dX7_copy_52 s0_40 flX7_33 rfl rfl (by decide) (by decide) ?_
                refine wp_iload_n (pc := 55) 2 dX7_copy_55 rfl rfl ?_
                refine wq_iald (pc := 56) b dX7_copy_56 s0_47 (by decide) rfl hb (by decide) ?_
                refine wp_int (hS.1 _ hb) ?_
                refine wp_int (show eN (sgh s b) = -1 by rw [e2]; rfl) ?_
                refine wp_iconst (pc := 57) (-1) dX7_copy_57 (by decide) ?_
                refine wp_icmp_eq (pc := 58) 83 dX7_copy_58 (by decide) (fun c_58 => ?_) (fun c_58 => ?_)
                · refine wp_aload_n (pc := 83) 0 dX7_copy_83 rfl rfl ?_
                  refine wq_getR (pc := 84) 33 13 dX7_copy_84 s0_40 flX7_33 rfl rfl (by decide) (by decide) ?_
                  refine wp_iload_n (pc := 87) 1 dX7_copy_87 rfl rfl ?_
                  refine wq_iald (pc := 88) a dX7_copy_88 s0_47 (by decide) rfl ha (by decide) ?_
                  refine wp_int (hS.1 _ ha) ?_
                  refine wp_int (show eN (sgh s a) = nI k1 by rw [e1]; rfl) ?_
                  refine wp_iconst (pc := 89) (-1) dX7_copy_89 (by decide) ?_
                  refine wp_icmp_eq (pc := 90) 103 dX7_copy_90 (by decide) (fun c_90 => ?_) (fun c_90 => ?_)
                  · exact absurd c_90 (m1_ne (by omega))
                  · refine wp_aload_n (pc := 93) 0 dX7_copy_93 rfl rfl ?_
                    refine wq_getR (pc := 94) 33 13 dX7_copy_94 s0_40 flX7_33 rfl rfl (by decide) (by decide) ?_
                    refine wp_iload_n (pc := 97) 2 dX7_copy_97 rfl rfl ?_
                    refine wq_iald (pc := 98) b dX7_copy_98 s0_47 (by decide) rfl hb (by decide) ?_
                    refine wp_int (hS.1 _ hb) ?_
                    refine wp_int (show eN (sgh s b) = -1 by rw [e2]; rfl) ?_
                    refine wp_iconst (pc := 99) (-1) dX7_copy_99 (by decide) ?_
                    refine wp_icmp_ne (pc := 100) 110 dX7_copy_100 (by decide) (fun c_100 => ?_) (fun c_100 => ?_)
                    · exact absurd (by decide) c_100
                    · refine wp_aload_n (pc := 103) 0 dX7_copy_103 rfl rfl ?_
                      refine wp_bipush (pc := 104) (-4) dX7_copy_104 (by decide) ?_
                      refine wc_V_I (pc := 106) dX7_copy_106 lkX7_81 (sm_Rc.o (ci := 6) s0_40 (by decide) (by decide)) (by decide) (Nat.le_of_ble_eq_true rfl) ?_
                      refine c_X7_no_2 ?_
                      refine wp_iretI (pc := 109) dX7_copy_109 rfl ?_
                      unfold do_copy at k
                      rw [gat_t (c := (inS (nI a) && inS (nI b))) (and_tt c_4 c_11), nI_clamp (show a < 2 ^ 31 by omega), nI_clamp (show b < 2 ^ 31 by omega), e1, e2] at k
                      rw [gat_t (c := (!hgr (some k1) && !hgr none)) (nn_t (show hgr (some k1) = false from (decide_eq_false (by omega))) (show hgr none = false from rfl))] at k
                      rw [gat_f (c := (hrow (some k1) && hrow none)) (and_f2 rfl)] at k
                      exact k _ _ _ (hM.bmp (by decide)) (Lo.rf.uI (by decide))
                · exact absurd (by decide) c_58
        · have hza := ho.2 a
          have hzb := ho.2 b
          have hz1 : hsz (sgh s) (sgs s) a = sgs s a := by unfold hsz; rw [e1]; exact if_pos (decide_eq_true hk1)
          have hz2 : hsz (sgh s) (sgs s) b = sgs s b := by unfold hsz; rw [e2]; exact if_pos (decide_eq_true hk2)
          refine wp_aload_n (pc := 21) 0 dX7_copy_21 rfl rfl ?_
          refine wq_getR (pc := 22) 33 13 dX7_copy_22 s0_40 flX7_33 rfl rfl (by decide) (by decide) ?_
          refine wp_iload_n (pc := 25) 1 dX7_copy_25 rfl rfl ?_
          refine wq_iald (pc := 26) a dX7_copy_26 s0_47 (by decide) rfl ha (by decide) ?_
          refine wp_int (hS.1 _ ha) ?_
          refine wp_int (show eN (sgh s a) = nI k1 by rw [e1]; rfl) ?_
          refine wp_iconst (pc := 27) (4) dX7_copy_27 (by decide) ?_
          refine wp_icmp_gt (pc := 28) 76 dX7_copy_28 (by decide) (fun c_28 => ?_) (fun c_28 => ?_)
          · exact absurd c_28 (nI_nlt (a := 4) (by omega) (by omega))
          · refine wp_aload_n (pc := 31) 0 dX7_copy_31 rfl rfl ?_
            refine wq_getR (pc := 32) 33 13 dX7_copy_32 s0_40 flX7_33 rfl rfl (by decide) (by decide) ?_
            refine wp_iload_n (pc := 35) 2 dX7_copy_35 rfl rfl ?_
            refine wq_iald (pc := 36) b dX7_copy_36 s0_47 (by decide) rfl hb (by decide) ?_
            refine wp_int (hS.1 _ hb) ?_
            refine wp_int (show eN (sgh s b) = nI k2 by rw [e2]; rfl) ?_
            refine wp_iconst (pc := 37) (4) dX7_copy_37 (by decide) ?_
            refine wp_icmp_gt (pc := 38) 76 dX7_copy_38 (by decide) (fun c_38 => ?_) (fun c_38 => ?_)
            · exact absurd c_38 (nI_nlt (a := 4) (by omega) (by omega))
            · refine wp_aload_n (pc := 41) 0 dX7_copy_41 rfl rfl ?_
              refine wq_getR (pc := 42) 33 13 dX7_copy_42 s0_40 flX7_33 rfl rfl (by decide) (by decide) ?_
              refine wp_iload_n (pc := 45) 1 dX7_copy_45 rfl rfl ?_
              refine wq_iald (pc := 46) a dX7_copy_46 s0_47 (by decide) rfl ha (by decide) ?_
              refine wp_int (hS.1 _ ha) ?_
              refine wp_int (show eN (sgh s a) = nI k1 by rw [e1]; rfl) ?_
              refine wp_iconst (pc := 47) (-1) dX7_copy_47 (by decide) ?_
              refine wp_icmp_eq (pc := 48) 83 dX7_copy_48 (by decide) (fun c_48 => ?_) (fun c_48 => ?_)
              · exact absurd c_48 (m1_ne (by omega))
              · refine wp_aload_n (pc := 51) 0 dX7_copy_51 rfl rfl ?_
                refine wq_getR (pc := 52) 33 13 dX7_copy_52 s0_40 flX7_33 rfl rfl (by decide) (by decide) ?_
                refine wp_iload_n (pc := 55) 2 dX7_copy_55 rfl rfl ?_
                refine wq_iald (pc := 56) b dX7_copy_56 s0_47 (by decide) rfl hb (by decide) ?_
                refine wp_int (hS.1 _ hb) ?_
                refine wp_int (show eN (sgh s b) = nI k2 by rw [e2]; rfl) ?_
                refine wp_iconst (pc := 57) (-1) dX7_copy_57 (by decide) ?_
                refine wp_icmp_eq (pc := 58) 83 dX7_copy_58 (by decide) (fun c_58 => ?_) (fun c_58 => ?_)
                · exact absurd c_58 (m1_ne (by omega))
                · refine wp_aload_n (pc := 61) 0 dX7_copy_61 rfl rfl ?_
                  refine wq_getR (pc := 62) 33 13 dX7_copy_62 s0_40 flX7_33 rfl rfl (by decide) (by decide) ?_
                  refine wp_iload_n (pc := 65) 1 dX7_copy_65 rfl rfl ?_
                  refine wq_iald (pc := 66) a dX7_copy_66 s0_47 (by decide) rfl ha (by decide) ?_
                  refine wp_int (hS.1 _ ha) ?_
                  refine wp_int (show eN (sgh s a) = nI k1 by rw [e1]; rfl) ?_
                  refine wp_aload_n (pc := 67) 0 dX7_copy_67 rfl rfl ?_
                  refine wq_getR (pc := 68) 33 13 dX7_copy_68 s0_40 flX7_33 rfl rfl (by decide) (by decide) ?_
                  refine wp_iload_n (pc := 71) 2 dX7_copy_71 rfl rfl ?_
                  refine wq_iald (pc := 72) b dX7_copy_72 s0_47 (by decide) rfl hb (by decide) ?_
                  refine wp_int (hS.1 _ hb) ?_
                  refine wp_int (show eN (sgh s b) = nI k2 by rw [e2]; rfl) ?_
                  refine wp_icmp_eq (pc := 73) 83 dX7_copy_73 (by decide) (fun c_73 => ?_) (fun c_73 => ?_)
                  · refine wp_aload_n (pc := 83) 0 dX7_copy_83 rfl rfl ?_
                    refine wq_getR (pc := 84) 33 13 dX7_copy_84 s0_40 flX7_33 rfl rfl (by decide) (by decide) ?_
                    refine wp_iload_n (pc := 87) 1 dX7_copy_87 rfl rfl ?_
                    refine wq_iald (pc := 88) a dX7_copy_88 s0_47 (by decide) rfl ha (by decide) ?_
                    refine wp_int (hS.1 _ ha) ?_
                    refine wp_int (show eN (sgh s a) = nI k1 by rw [e1]; rfl) ?_
                    refine wp_iconst (pc := 89) (-1) dX7_copy_89 (by decide) ?_
                    refine wp_icmp_eq (pc := 90) 103 dX7_copy_90 (by decide) (fun c_90 => ?_) (fun c_90 => ?_)
                    · exact absurd c_90 (m1_ne (by omega))
                    · refine wp_aload_n (pc := 93) 0 dX7_copy_93 rfl rfl ?_
                      refine wq_getR (pc := 94) 33 13 dX7_copy_94 s0_40 flX7_33 rfl rfl (by decide) (by decide) ?_
                      refine wp_iload_n (pc := 97) 2 dX7_copy_97 rfl rfl ?_
                      refine wq_iald (pc := 98) b dX7_copy_98 s0_47 (by decide) rfl hb (by decide) ?_
                      refine wp_int (hS.1 _ hb) ?_
                      refine wp_int (show eN (sgh s b) = nI k2 by rw [e2]; rfl) ?_
                      refine wp_iconst (pc := 99) (-1) dX7_copy_99 (by decide) ?_
                      refine wp_icmp_ne (pc := 100) 110 dX7_copy_100 (by decide) (fun c_100 => ?_) (fun c_100 => ?_)
                      · refine wp_iload (pc := 110) 5 dX7_copy_110 rfl ?_
                        refine wp_iflt (pc := 112) 151 dX7_copy_112 (by decide) (fun c_112 => ?_) (fun c_112 => ?_)
                        · refine wp_aload_n (pc := 151) 0 dX7_copy_151 rfl rfl ?_
                          refine wp_bipush (pc := 152) (-2) dX7_copy_152 (by decide) ?_
                          refine wc_V_I (pc := 154) dX7_copy_154 lkX7_81 (sm_Rc.o (ci := 6) s0_40 (by decide) (by decide)) (by decide) (Nat.le_of_ble_eq_true rfl) ?_
                          refine c_X7_no_0 ?_
                          refine wp_iretI (pc := 157) dX7_copy_157 rfl ?_
                          unfold do_copy at k
                          rw [gat_t (c := (inS (nI a) && inS (nI b))) (and_tt c_4 c_11), nI_clamp (show a < 2 ^ 31 by omega), nI_clamp (show b < 2 ^ 31 by omega), e1, e2] at k
                          rw [gat_t (c := (!hgr (some k1) && !hgr (some k2))) (nn_t (show hgr (some k1) = false from (decide_eq_false (by omega))) (show hgr (some k2) = false from (decide_eq_false (by omega))))] at k
                          rw [gat_t (c := (hrow (some k1) && hrow (some k2))) (and_tt (show hrow (some k1) = true from (decide_eq_true hk1)) (show hrow (some k2) = true from (decide_eq_true hk2)))] at k
                          rw [gat_t (c := decide (some k1 = some k2)) (decide_eq_true (by rw [(nI_eq (by omega) (by omega)).mp c_73]))] at k
                          rw [gat_f (c := ((hrow (some k1) && prtB (hsz (sgh s) (sgs s) a) z v) && (hrow (some k2) && prtB (hsz (sgh s) (sgs s) b) u v))) (and_f1 (and_f2 (prt_n2 c_112)))] at k
                          exact k _ _ _ (hM.bmp (by decide)) (Lo.rf.uI (by decide))
                        · obtain ⟨m, hm, rfl⟩ := nI_of c_112
                          refine wp_iload_n (pc := 115) 3 dX7_copy_115 rfl rfl ?_
                          refine wp_iflt (pc := 116) 151 dX7_copy_116 (by decide) (fun c_116 => ?_) (fun c_116 => ?_)
                          · refine wp_aload_n (pc := 151) 0 dX7_copy_151 rfl rfl ?_
                            refine wp_bipush (pc := 152) (-2) dX7_copy_152 (by decide) ?_
                            refine wc_V_I (pc := 154) dX7_copy_154 lkX7_81 (sm_Rc.o (ci := 6) s0_40 (by decide) (by decide)) (by decide) (Nat.le_of_ble_eq_true rfl) ?_
                            refine c_X7_no_0 ?_
                            refine wp_iretI (pc := 157) dX7_copy_157 rfl ?_
                            unfold do_copy at k
                            rw [gat_t (c := (inS (nI a) && inS (nI b))) (and_tt c_4 c_11), nI_clamp (show a < 2 ^ 31 by omega), nI_clamp (show b < 2 ^ 31 by omega), e1, e2] at k
                            rw [gat_t (c := (!hgr (some k1) && !hgr (some k2))) (nn_t (show hgr (some k1) = false from (decide_eq_false (by omega))) (show hgr (some k2) = false from (decide_eq_false (by omega))))] at k
                            rw [gat_t (c := (hrow (some k1) && hrow (some k2))) (and_tt (show hrow (some k1) = true from (decide_eq_true hk1)) (show hrow (some k2) = true from (decide_eq_true hk2)))] at k
                            rw [gat_t (c := decide (some k1 = some k2)) (decide_eq_true (by rw [(nI_eq (by omega) (by omega)).mp c_73]))] at k
                            rw [gat_f (c := ((hrow (some k1) && prtB (hsz (sgh s) (sgs s) a) z (nI m)) && (hrow (some k2) && prtB (hsz (sgh s) (sgs s) b) u (nI m)))) (and_f1 (and_f2 (prt_n1 c_116)))] at k
                            exact k _ _ _ (hM.bmp (by decide)) (Lo.rf.uI (by decide))
                          · obtain ⟨p, hp, rfl⟩ := nI_of c_116
                            refine wp_iload (pc := 119) 4 dX7_copy_119 rfl ?_
                            refine wp_iflt (pc := 121) 151 dX7_copy_121 (by decide) (fun c_121 => ?_) (fun c_121 => ?_)
                            · refine wp_aload_n (pc := 151) 0 dX7_copy_151 rfl rfl ?_
                              refine wp_bipush (pc := 152) (-2) dX7_copy_152 (by decide) ?_
                              refine wc_V_I (pc := 154) dX7_copy_154 lkX7_81 (sm_Rc.o (ci := 6) s0_40 (by decide) (by decide)) (by decide) (Nat.le_of_ble_eq_true rfl) ?_
                              refine c_X7_no_0 ?_
                              refine wp_iretI (pc := 157) dX7_copy_157 rfl ?_
                              unfold do_copy at k
                              rw [gat_t (c := (inS (nI a) && inS (nI b))) (and_tt c_4 c_11), nI_clamp (show a < 2 ^ 31 by omega), nI_clamp (show b < 2 ^ 31 by omega), e1, e2] at k
                              rw [gat_t (c := (!hgr (some k1) && !hgr (some k2))) (nn_t (show hgr (some k1) = false from (decide_eq_false (by omega))) (show hgr (some k2) = false from (decide_eq_false (by omega))))] at k
                              rw [gat_t (c := (hrow (some k1) && hrow (some k2))) (and_tt (show hrow (some k1) = true from (decide_eq_true hk1)) (show hrow (some k2) = true from (decide_eq_true hk2)))] at k
                              rw [gat_t (c := decide (some k1 = some k2)) (decide_eq_true (by rw [(nI_eq (by omega) (by omega)).mp c_73]))] at k
                              rw [gat_f (c := ((hrow (some k1) && prtB (hsz (sgh s) (sgs s) a) (nI p) (nI m)) && (hrow (some k2) && prtB (hsz (sgh s) (sgs s) b) u (nI m)))) (and_f2 (and_f2 (prt_n1 c_121)))] at k
                              exact k _ _ _ (hM.bmp (by decide)) (Lo.rf.uI (by decide))
                            · obtain ⟨q, hq, rfl⟩ := nI_of c_121
                              refine wp_iload (pc := 124) 5 dX7_copy_124 rfl ?_
                              refine wp_aload_n (pc := 126) 0 dX7_copy_126 rfl rfl ?_
                              refine wq_getR (pc := 127) 36 14 dX7_copy_127 s0_40 flX7_36 rfl rfl (by decide) (by decide) ?_
                              refine wp_iload_n (pc := 130) 1 dX7_copy_130 rfl rfl ?_
                              refine wq_iald (pc := 131) a dX7_copy_131 s0_48 (by decide) rfl ha (by decide) ?_
                              refine wp_int (hS.2.1 _ ha) ?_
                              refine wp_iload_n (pc := 132) 3 dX7_copy_132 rfl rfl ?_
                              refine wp_isub (pc := 133) dX7_copy_133 ?_
                              refine wp_icmp_gt (pc := 134) 151 dX7_copy_134 (by decide) (fun c_134 => ?_) (fun c_134 => ?_)
                              · refine wp_aload_n (pc := 151) 0 dX7_copy_151 rfl rfl ?_
                                refine wp_bipush (pc := 152) (-2) dX7_copy_152 (by decide) ?_
                                refine wc_V_I (pc := 154) dX7_copy_154 lkX7_81 (sm_Rc.o (ci := 6) s0_40 (by decide) (by decide)) (by decide) (Nat.le_of_ble_eq_true rfl) ?_
                                refine c_X7_no_0 ?_
                                refine wp_iretI (pc := 157) dX7_copy_157 rfl ?_
                                unfold do_copy at k
                                rw [gat_t (c := (inS (nI a) && inS (nI b))) (and_tt c_4 c_11), nI_clamp (show a < 2 ^ 31 by omega), nI_clamp (show b < 2 ^ 31 by omega), e1, e2] at k
                                rw [gat_t (c := (!hgr (some k1) && !hgr (some k2))) (nn_t (show hgr (some k1) = false from (decide_eq_false (by omega))) (show hgr (some k2) = false from (decide_eq_false (by omega))))] at k
                                rw [gat_t (c := (hrow (some k1) && hrow (some k2))) (and_tt (show hrow (some k1) = true from (decide_eq_true hk1)) (show hrow (some k2) = true from (decide_eq_true hk2)))] at k
                                rw [gat_t (c := decide (some k1 = some k2)) (decide_eq_true (by rw [(nI_eq (by omega) (by omega)).mp c_73]))] at k
                                rw [gat_f (c := ((hrow (some k1) && prtB (hsz (sgh s) (sgs s) a) (nI p) (nI m)) && (hrow (some k2) && prtB (hsz (sgh s) (sgs s) b) (nI q) (nI m)))) (and_f1 (and_f2 (by rw [hz1]; exact prt_f (by omega) (by omega) (by omega) c_134)))] at k
                                exact k _ _ _ (hM.bmp (by decide)) (Lo.rf.uI (by decide))
                              · refine wp_iload (pc := 137) 5 dX7_copy_137 rfl ?_
                                refine wp_aload_n (pc := 139) 0 dX7_copy_139 rfl rfl ?_
                                refine wq_getR (pc := 140) 36 14 dX7_copy_140 s0_40 flX7_36 rfl rfl (by decide) (by decide) ?_
                                refine wp_iload_n (pc := 143) 2 dX7_copy_143 rfl rfl ?_
                                refine wq_iald (pc := 144) b dX7_copy_144 s0_48 (by decide) rfl hb (by decide) ?_
                                refine wp_int (hS.2.1 _ hb) ?_
                                refine wp_iload (pc := 145) 4 dX7_copy_145 rfl ?_
                                refine wp_isub (pc := 147) dX7_copy_147 ?_
                                refine wp_icmp_le (pc := 148) 158 dX7_copy_148 (by decide) (fun c_148 => ?_) (fun c_148 => ?_)
                                · refine wp_iconst (pc := 158) (0) dX7_copy_158 (by decide) ?_
                                  refine wp_istore (pc := 159) 6 dX7_copy_159 (by decide) rfl ?_
                                  have hpm : p + m ≤ sgs s a := Nat.le_of_not_lt fun z => c_134 ((prt_gt (by omega) (by omega) (by omega)).mpr z)
                                  have hqm : q + m ≤ sgs s b := Nat.le_of_not_lt fun z => Int32.not_lt.mpr c_148 ((prt_gt (by omega) (by omega) (by omega)).mpr z)
                                  refine wp_to (h' := (S0, F, I, JM J (a * 40 + p) 0)) ?_ rfl rfl (by rw [JM_0])
                                  refine wp_loop (fun i => [.ref 40, .int (nI a), .int (nI b), .int (nI p), .int (nI q), .int (nI m), .int (nI i)]) (fun i => (S0, F, I, JM J (a * 40 + p) i)) (fun _ => True) m (fun i hi hv nx => ?_) (fun hv => ?_) 0 (Nat.zero_le _) trivial
                                  · refine wp_iload (pc := 161) 6 dX7_copy_161 rfl ?_
                                    refine wp_iload (pc := 163) 5 dX7_copy_163 rfl ?_
                                    refine wp_icmp_ge (pc := 165) 195 dX7_copy_165 (by decide) (fun c_165 => ?_) (fun c_165 => ?_)
                                    · exact absurd c_165 (nI_ge (b := m) hi (by omega))
                                    · refine wp_aload_n (pc := 168) 0 dX7_copy_168 rfl rfl ?_
                                      refine wq_getR (pc := 169) 43 16 dX7_copy_169 s0_40 flX7_43 rfl rfl (by decide) (by decide) ?_
                                      refine wp_iload (pc := 172) 6 dX7_copy_172 rfl ?_
                                      refine wp_aload_n (pc := 174) 0 dX7_copy_174 rfl rfl ?_
                                      refine wq_getR (pc := 175) 39 15 dX7_copy_175 s0_40 flX7_39 rfl rfl (by decide) (by decide) ?_
                                      refine wp_bipush (pc := 178) (40) dX7_copy_178 (by decide) ?_
                                      refine wp_iload_n (pc := 180) 1 dX7_copy_180 rfl rfl ?_
                                      refine wp_imul (pc := 181) dX7_copy_181 ?_
                                      refine wp_iload_n (pc := 182) 3 dX7_copy_182 rfl rfl ?_
                                      refine wp_iadd (pc := 183) dX7_copy_183 ?_
                                      refine wp_iload (pc := 184) 6 dX7_copy_184 rfl ?_
                                      refine wp_iadd (pc := 186) dX7_copy_186 ?_
                                      refine wq_lald (pc := 187) (a * 40 + p + i) dX7_copy_187 s0_49 (by decide) (by rw [ix40, nI_add]) (by omega) (by decide) ?_
                                      refine wp_lng (y := J 49 (a * 40 + p + i)) (if_neg (by omega)) ?_
                                      refine wq_last (pc := 188) i dX7_copy_188 s0_50 (by decide) rfl (by omega) (by decide) ?_
                                      refine wp_incN (pc := 189) 6 dX7_copy_189 rfl (by decide) rfl ?_
                                      refine wp_goto (pc := 192) 161 dX7_copy_192 (by decide) ?_
                                      have nx := nx trivial
                                      rw [← JM_s] at nx
                                      exact nx
                                  · refine wp_iload (pc := 161) 6 dX7_copy_161 rfl ?_
                                    refine wp_iload (pc := 163) 5 dX7_copy_163 rfl ?_
                                    refine wp_icmp_ge (pc := 165) 195 dX7_copy_165 (by decide) (fun c_165 => ?_) (fun c_165 => ?_)
                                    · refine wp_iconst (pc := 195) (0) dX7_copy_195 (by decide) ?_
                                      refine wp_istore (pc := 196) 6 dX7_copy_196 (by decide) rfl ?_
                                      refine wp_to (h' := (S0, F, I, JN (JM J (a * 40 + p) m) (fun y => J 49 (a * 40 + p + y)) (b * 40 + q) 0)) ?_ rfl rfl (by rw [JN_0])
                                      refine wp_loop (fun i => [.ref 40, .int (nI a), .int (nI b), .int (nI p), .int (nI q), .int (nI m), .int (nI i)]) (fun i => (S0, F, I, JN (JM J (a * 40 + p) m) (fun y => J 49 (a * 40 + p + y)) (b * 40 + q) i)) (fun _ => True) m (fun i hi hv nx => ?_) (fun hv => ?_) 0 (Nat.zero_le _) trivial
                                      · refine wp_iload (pc := 198) 6 dX7_copy_198 rfl ?_
                                        refine wp_iload (pc := 200) 5 dX7_copy_200 rfl ?_
                                        refine wp_icmp_ge (pc := 202) 233 dX7_copy_202 (by decide) (fun c_202 => ?_) (fun c_202 => ?_)
                                        · exact absurd c_202 (nI_ge (b := m) hi (by omega))
                                        · refine wp_aload_n (pc := 205) 0 dX7_copy_205 rfl rfl ?_
                                          refine wq_getR (pc := 206) 39 15 dX7_copy_206 s0_40 flX7_39 rfl rfl (by decide) (by decide) ?_
                                          refine wp_bipush (pc := 209) (40) dX7_copy_209 (by decide) ?_
                                          refine wp_iload_n (pc := 211) 2 dX7_copy_211 rfl rfl ?_
                                          refine wp_imul (pc := 212) dX7_copy_212 ?_
                                          refine wp_iload (pc := 213) 4 dX7_copy_213 rfl ?_
                                          refine wp_iadd (pc := 215) dX7_copy_215 ?_
                                          refine wp_iload (pc := 216) 6 dX7_copy_216 rfl ?_
                                          refine wp_iadd (pc := 218) dX7_copy_218 ?_
                                          refine wp_aload_n (pc := 219) 0 dX7_copy_219 rfl rfl ?_
                                          refine wq_getR (pc := 220) 43 16 dX7_copy_220 s0_40 flX7_43 rfl rfl (by decide) (by decide) ?_
                                          refine wp_iload (pc := 223) 6 dX7_copy_223 rfl ?_
                                          refine wq_lald (pc := 225) i dX7_copy_225 s0_50 (by decide) rfl (by omega) (by decide) ?_
                                          refine wp_lng (y := (fun y => J 49 (a * 40 + p + y)) i) ?_ ?_
                                          · show JN (JM J (a * 40 + p) m) (fun y => J 49 (a * 40 + p + y)) (b * 40 + q) i 50 i = _
                                            unfold JN JM
                                            rw [if_neg (by omega), if_pos ⟨rfl, hi⟩]
                                          refine wq_last (pc := 226) (b * 40 + q + i) dX7_copy_226 s0_49 (by decide) (by rw [ix40, nI_add]) (by omega) (by decide) ?_
                                          refine wp_incN (pc := 227) 6 dX7_copy_227 rfl (by decide) rfl ?_
                                          refine wp_goto (pc := 230) 198 dX7_copy_230 (by decide) ?_
                                          have nx := nx trivial
                                          rw [← JN_s] at nx
                                          exact nx
                                      · refine wp_iload (pc := 198) 6 dX7_copy_198 rfl ?_
                                        refine wp_iload (pc := 200) 5 dX7_copy_200 rfl ?_
                                        refine wp_icmp_ge (pc := 202) 233 dX7_copy_202 (by decide) (fun c_202 => ?_) (fun c_202 => ?_)
                                        · refine wp_iload (pc := 233) 5 dX7_copy_233 rfl ?_
                                          refine wp_iretI (pc := 235) dX7_copy_235 rfl ?_
                                          unfold do_copy at k
                                          rw [gat_t (c := (inS (nI a) && inS (nI b))) (and_tt c_4 c_11), nI_clamp (show a < 2 ^ 31 by omega), nI_clamp (show b < 2 ^ 31 by omega), e1, e2] at k
                                          rw [gat_t (c := (!hgr (some k1) && !hgr (some k2))) (nn_t (show hgr (some k1) = false from (decide_eq_false (by omega))) (show hgr (some k2) = false from (decide_eq_false (by omega))))] at k
                                          rw [gat_t (c := (hrow (some k1) && hrow (some k2))) (and_tt (show hrow (some k1) = true from (decide_eq_true hk1)) (show hrow (some k2) = true from (decide_eq_true hk2)))] at k
                                          rw [gat_t (c := decide (some k1 = some k2)) (decide_eq_true (by rw [(nI_eq (by omega) (by omega)).mp c_73]))] at k
                                          rw [gat_t (c := ((hrow (some k1) && prtB (hsz (sgh s) (sgs s) a) (nI p) (nI m)) && (hrow (some k2) && prtB (hsz (sgh s) (sgs s) b) (nI q) (nI m)))) (and_tt (and_tt (decide_eq_true hk1) (by rw [hz1]; exact prt_t (by omega) (by omega) (by omega) c_134)) (and_tt (decide_eq_true hk2) (by rw [hz2]; exact prt_t (by omega) (by omega) (by omega) (Int32.not_lt.mpr c_148)))), nI_clamp (show p < 2 ^ 31 by omega), nI_clamp (show q < 2 ^ 31 by omega), nI_clamp (show m < 2 ^ 31 by omega)] at k
                                          exact k _ _ _ (hM.sh (JMN (s := s) (F := F) hS (by omega)) (fun x h1 h2 => rfl)) JMN_lo
                                        · exact absurd (Int32.le_refl _) c_202
                                    · exact absurd (Int32.le_refl _) c_165
                                · refine wp_aload_n (pc := 151) 0 dX7_copy_151 rfl rfl ?_
                                  refine wp_bipush (pc := 152) (-2) dX7_copy_152 (by decide) ?_
                                  refine wc_V_I (pc := 154) dX7_copy_154 lkX7_81 (sm_Rc.o (ci := 6) s0_40 (by decide) (by decide)) (by decide) (Nat.le_of_ble_eq_true rfl) ?_
                                  refine c_X7_no_0 ?_
                                  refine wp_iretI (pc := 157) dX7_copy_157 rfl ?_
                                  unfold do_copy at k
                                  rw [gat_t (c := (inS (nI a) && inS (nI b))) (and_tt c_4 c_11), nI_clamp (show a < 2 ^ 31 by omega), nI_clamp (show b < 2 ^ 31 by omega), e1, e2] at k
                                  rw [gat_t (c := (!hgr (some k1) && !hgr (some k2))) (nn_t (show hgr (some k1) = false from (decide_eq_false (by omega))) (show hgr (some k2) = false from (decide_eq_false (by omega))))] at k
                                  rw [gat_t (c := (hrow (some k1) && hrow (some k2))) (and_tt (show hrow (some k1) = true from (decide_eq_true hk1)) (show hrow (some k2) = true from (decide_eq_true hk2)))] at k
                                  rw [gat_t (c := decide (some k1 = some k2)) (decide_eq_true (by rw [(nI_eq (by omega) (by omega)).mp c_73]))] at k
                                  rw [gat_f (c := ((hrow (some k1) && prtB (hsz (sgh s) (sgs s) a) (nI p) (nI m)) && (hrow (some k2) && prtB (hsz (sgh s) (sgs s) b) (nI q) (nI m)))) (and_f2 (and_f2 (by rw [hz2]; exact prt_f (by omega) (by omega) (by omega) (Int32.not_le.mp c_148))))] at k
                                  exact k _ _ _ (hM.bmp (by decide)) (Lo.rf.uI (by decide))
                      · exact absurd c_100 (m1_ne (by omega))
                  · refine wp_aload_n (pc := 76) 0 dX7_copy_76 rfl rfl ?_
                    refine wp_bipush (pc := 77) (-3) dX7_copy_77 (by decide) ?_
                    refine wc_V_I (pc := 79) dX7_copy_79 lkX7_81 (sm_Rc.o (ci := 6) s0_40 (by decide) (by decide)) (by decide) (Nat.le_of_ble_eq_true rfl) ?_
                    refine c_X7_no_1 ?_
                    refine wp_iretI (pc := 82) dX7_copy_82 rfl ?_
                    unfold do_copy at k
                    rw [gat_t (c := (inS (nI a) && inS (nI b))) (and_tt c_4 c_11), nI_clamp (show a < 2 ^ 31 by omega), nI_clamp (show b < 2 ^ 31 by omega), e1, e2] at k
                    rw [gat_t (c := (!hgr (some k1) && !hgr (some k2))) (nn_t (show hgr (some k1) = false from (decide_eq_false (by omega))) (show hgr (some k2) = false from (decide_eq_false (by omega))))] at k
                    rw [gat_t (c := (hrow (some k1) && hrow (some k2))) (and_tt (show hrow (some k1) = true from (decide_eq_true hk1)) (show hrow (some k2) = true from (decide_eq_true hk2)))] at k
                    rw [gat_f (c := decide (some k1 = some k2)) (decide_eq_false (fun z => c_73 (by cases z; rfl)))] at k
                    exact k _ _ _ (hM.bmp (by decide)) (Lo.rf.uI (by decide))
        · have hza := ho.2 a
          have hzb := ho.2 b
          refine wp_aload_n (pc := 21) 0 dX7_copy_21 rfl rfl ?_
          refine wq_getR (pc := 22) 33 13 dX7_copy_22 s0_40 flX7_33 rfl rfl (by decide) (by decide) ?_
          refine wp_iload_n (pc := 25) 1 dX7_copy_25 rfl rfl ?_
          refine wq_iald (pc := 26) a dX7_copy_26 s0_47 (by decide) rfl ha (by decide) ?_
          refine wp_int (hS.1 _ ha) ?_
          refine wp_int (show eN (sgh s a) = nI k1 by rw [e1]; rfl) ?_
          refine wp_iconst (pc := 27) (4) dX7_copy_27 (by decide) ?_
          refine wp_icmp_gt (pc := 28) 76 dX7_copy_28 (by decide) (fun c_28 => ?_) (fun c_28 => ?_)
          · exact absurd c_28 (nI_nlt (a := 4) (by omega) (by omega))
          · refine wp_aload_n (pc := 31) 0 dX7_copy_31 rfl rfl ?_
            refine wq_getR (pc := 32) 33 13 dX7_copy_32 s0_40 flX7_33 rfl rfl (by decide) (by decide) ?_
            refine wp_iload_n (pc := 35) 2 dX7_copy_35 rfl rfl ?_
            refine wq_iald (pc := 36) b dX7_copy_36 s0_47 (by decide) rfl hb (by decide) ?_
            refine wp_int (hS.1 _ hb) ?_
            refine wp_int (show eN (sgh s b) = nI k2 by rw [e2]; rfl) ?_
            refine wp_iconst (pc := 37) (4) dX7_copy_37 (by decide) ?_
            refine wp_icmp_gt (pc := 38) 76 dX7_copy_38 (by decide) (fun c_38 => ?_) (fun c_38 => ?_)
            · refine wp_aload_n (pc := 76) 0 dX7_copy_76 rfl rfl ?_
              refine wp_bipush (pc := 77) (-3) dX7_copy_77 (by decide) ?_
              refine wc_V_I (pc := 79) dX7_copy_79 lkX7_81 (sm_Rc.o (ci := 6) s0_40 (by decide) (by decide)) (by decide) (Nat.le_of_ble_eq_true rfl) ?_
              refine c_X7_no_1 ?_
              refine wp_iretI (pc := 82) dX7_copy_82 rfl ?_
              unfold do_copy at k
              rw [gat_t (c := (inS (nI a) && inS (nI b))) (and_tt c_4 c_11), nI_clamp (show a < 2 ^ 31 by omega), nI_clamp (show b < 2 ^ 31 by omega), e1, e2] at k
              rw [gat_f (c := (!hgr (some k1) && !hgr (some k2))) (nn_2 (show hgr (some k2) = true from (decide_eq_true hk2)))] at k
              exact k _ _ _ (hM.bmp (by decide)) (Lo.rf.uI (by decide))
            · exact absurd (nI_lt (a := 4) (by omega) (by omega)) c_38
      · rcases ho.c b with e2 | ⟨k2, e2, hk2⟩ | ⟨k2, e2, hk2, hk22⟩
        · have hza := ho.2 a
          have hzb := ho.2 b
          refine wp_aload_n (pc := 21) 0 dX7_copy_21 rfl rfl ?_
          refine wq_getR (pc := 22) 33 13 dX7_copy_22 s0_40 flX7_33 rfl rfl (by decide) (by decide) ?_
          refine wp_iload_n (pc := 25) 1 dX7_copy_25 rfl rfl ?_
          refine wq_iald (pc := 26) a dX7_copy_26 s0_47 (by decide) rfl ha (by decide) ?_
          refine wp_int (hS.1 _ ha) ?_
          refine wp_int (show eN (sgh s a) = nI k1 by rw [e1]; rfl) ?_
          refine wp_iconst (pc := 27) (4) dX7_copy_27 (by decide) ?_
          refine wp_icmp_gt (pc := 28) 76 dX7_copy_28 (by decide) (fun c_28 => ?_) (fun c_28 => ?_)
          · refine wp_aload_n (pc := 76) 0 dX7_copy_76 rfl rfl ?_
            refine wp_bipush (pc := 77) (-3) dX7_copy_77 (by decide) ?_
            refine wc_V_I (pc := 79) dX7_copy_79 lkX7_81 (sm_Rc.o (ci := 6) s0_40 (by decide) (by decide)) (by decide) (Nat.le_of_ble_eq_true rfl) ?_
            refine c_X7_no_1 ?_
            refine wp_iretI (pc := 82) dX7_copy_82 rfl ?_
            unfold do_copy at k
            rw [gat_t (c := (inS (nI a) && inS (nI b))) (and_tt c_4 c_11), nI_clamp (show a < 2 ^ 31 by omega), nI_clamp (show b < 2 ^ 31 by omega), e1, e2] at k
            rw [gat_f (c := (!hgr (some k1) && !hgr none)) (nn_1 (show hgr (some k1) = true from (decide_eq_true hk1)))] at k
            exact k _ _ _ (hM.bmp (by decide)) (Lo.rf.uI (by decide))
          · exact absurd (nI_lt (a := 4) (by omega) (by omega)) c_28
        · have hza := ho.2 a
          have hzb := ho.2 b
          refine wp_aload_n (pc := 21) 0 dX7_copy_21 rfl rfl ?_
          refine wq_getR (pc := 22) 33 13 dX7_copy_22 s0_40 flX7_33 rfl rfl (by decide) (by decide) ?_
          refine wp_iload_n (pc := 25) 1 dX7_copy_25 rfl rfl ?_
          refine wq_iald (pc := 26) a dX7_copy_26 s0_47 (by decide) rfl ha (by decide) ?_
          refine wp_int (hS.1 _ ha) ?_
          refine wp_int (show eN (sgh s a) = nI k1 by rw [e1]; rfl) ?_
          refine wp_iconst (pc := 27) (4) dX7_copy_27 (by decide) ?_
          refine wp_icmp_gt (pc := 28) 76 dX7_copy_28 (by decide) (fun c_28 => ?_) (fun c_28 => ?_)
          · refine wp_aload_n (pc := 76) 0 dX7_copy_76 rfl rfl ?_
            refine wp_bipush (pc := 77) (-3) dX7_copy_77 (by decide) ?_
            refine wc_V_I (pc := 79) dX7_copy_79 lkX7_81 (sm_Rc.o (ci := 6) s0_40 (by decide) (by decide)) (by decide) (Nat.le_of_ble_eq_true rfl) ?_
            refine c_X7_no_1 ?_
            refine wp_iretI (pc := 82) dX7_copy_82 rfl ?_
            unfold do_copy at k
            rw [gat_t (c := (inS (nI a) && inS (nI b))) (and_tt c_4 c_11), nI_clamp (show a < 2 ^ 31 by omega), nI_clamp (show b < 2 ^ 31 by omega), e1, e2] at k
            rw [gat_f (c := (!hgr (some k1) && !hgr (some k2))) (nn_1 (show hgr (some k1) = true from (decide_eq_true hk1)))] at k
            exact k _ _ _ (hM.bmp (by decide)) (Lo.rf.uI (by decide))
          · exact absurd (nI_lt (a := 4) (by omega) (by omega)) c_28
        · have hza := ho.2 a
          have hzb := ho.2 b
          refine wp_aload_n (pc := 21) 0 dX7_copy_21 rfl rfl ?_
          refine wq_getR (pc := 22) 33 13 dX7_copy_22 s0_40 flX7_33 rfl rfl (by decide) (by decide) ?_
          refine wp_iload_n (pc := 25) 1 dX7_copy_25 rfl rfl ?_
          refine wq_iald (pc := 26) a dX7_copy_26 s0_47 (by decide) rfl ha (by decide) ?_
          refine wp_int (hS.1 _ ha) ?_
          refine wp_int (show eN (sgh s a) = nI k1 by rw [e1]; rfl) ?_
          refine wp_iconst (pc := 27) (4) dX7_copy_27 (by decide) ?_
          refine wp_icmp_gt (pc := 28) 76 dX7_copy_28 (by decide) (fun c_28 => ?_) (fun c_28 => ?_)
          · refine wp_aload_n (pc := 76) 0 dX7_copy_76 rfl rfl ?_
            refine wp_bipush (pc := 77) (-3) dX7_copy_77 (by decide) ?_
            refine wc_V_I (pc := 79) dX7_copy_79 lkX7_81 (sm_Rc.o (ci := 6) s0_40 (by decide) (by decide)) (by decide) (Nat.le_of_ble_eq_true rfl) ?_
            refine c_X7_no_1 ?_
            refine wp_iretI (pc := 82) dX7_copy_82 rfl ?_
            unfold do_copy at k
            rw [gat_t (c := (inS (nI a) && inS (nI b))) (and_tt c_4 c_11), nI_clamp (show a < 2 ^ 31 by omega), nI_clamp (show b < 2 ^ 31 by omega), e1, e2] at k
            rw [gat_f (c := (!hgr (some k1) && !hgr (some k2))) (nn_1 (show hgr (some k1) = true from (decide_eq_true hk1)))] at k
            exact k _ _ _ (hM.bmp (by decide)) (Lo.rf.uI (by decide))
          · exact absurd (nI_lt (a := 4) (by omega) (by omega)) c_28
    · refine wp_aload_n (pc := 14) 0 dX7_copy_14 rfl rfl ?_
      refine wp_bipush (pc := 15) (-2) dX7_copy_15 (by decide) ?_
      refine wc_V_I (pc := 17) dX7_copy_17 lkX7_81 (sm_Rc.o (ci := 6) s0_40 (by decide) (by decide)) (by decide) (Nat.le_of_ble_eq_true rfl) ?_
      refine c_X7_no_0 ?_
      refine wp_iretI (pc := 20) dX7_copy_20 rfl ?_
      unfold do_copy at k
      rw [gat_f (c := (inS (nI a) && inS y)) (and_f2 c_11)] at k
      exact k _ _ _ (hM.bmp (by decide)) (Lo.rf.uI (by decide))
