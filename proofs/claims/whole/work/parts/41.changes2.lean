/-! ===== more changes ===== -/
def do_hang (s : Sg) (x y z : Int32) : Int32 × Sg := gat 0 (isTh s x && (decide (0 ≤ y ∧ y < x) && upB z 1)) (b2 (((sgf s) (5 * x.toNatClampNeg + 2)).testBit y.toNatClampNeg), stF s (fu (sgf s) (5 * x.toNatClampNeg + 2) (hgN ((sgf s) (5 * x.toNatClampNeg + 2)) y.toNatClampNeg (decide (z = 1))))) s
theorem c_X6_hang {d : Nat} {F I : Nat → Nat → Int32} {J : Nat → Nat → Int64} {Q : Option Value → sm_H → Prop} {x y z : Int32} {s : Sg} (hC : CR s F I J) (ok : Ok s) (k : ∀ F1 I1 J1, CR (do_hang s x y z).2 F1 I1 J1 → Hi F I J F1 I1 J1 → Q (some (.int (do_hang s x y z).1)) (S0, F1, I1, J1)) : Wp mX6_hang (d + 2) 0 0 0 (sm_ini [.ref 0, .int x, .int y, .int z] 5) [] (S0, F, I, J) Q := by
  show Wp _ _ _ _ _ [.ref 0, .int x, .int y, .int z, .null] _ _ _
  have ht : isT 1 := Or.inl rfl
  have hw := ok.1
  have hT := hC.1
  have hn := hw.n
  have hbn := bn_1024 hw
  have hh1 := hw.wth
  have hh2 := hw.crk
  have hh3 := hw.year
  refine wp_aload_n (pc := 0) 0 dX6_hang_0 rfl rfl ?_
  refine wq_getR (pc := 1) 10 0 dX6_hang_1 s0_0 flX6_10 rfl rfl (by decide) (by decide) ?_
  refine wp_iload_n (pc := 4) 1 dX6_hang_4 rfl rfl ?_
  refine wc_V_I (pc := 5) dX6_hang_5 lkX6_146 (sm_Rc.o (ci := 4) s0_1 (by decide) (by decide)) (by decide) (Nat.le_of_ble_eq_true rfl) ?_
  refine c_X5_isThing ht hw hT ?_
  refine wp_ifeqB (pc := 8) 28 dX6_hang_8 (by decide) (fun c_8 => ?_) (fun c_8 => ?_)
  · refine wp_aload_n (pc := 28) 0 dX6_hang_28 rfl rfl ?_
    refine wp_bipush (pc := 29) (-2) dX6_hang_29 (by decide) ?_
    refine wc_V_I (pc := 31) dX6_hang_31 lkX6_59 (sm_Rc.o (ci := 5) s0_0 (by decide) (by decide)) (by decide) (Nat.le_of_ble_eq_true rfl) ?_
    refine c_X6_refuse_0 ?_
    refine wp_iretI (pc := 34) dX6_hang_34 rfl ?_
    unfold do_hang at k
    rw [gat_f (c := (isTh s x && (decide (0 ≤ y ∧ y < x) && upB z 1))) (and_f1 c_8)] at k
    exact k _ _ _ (hC.bmp (by decide)) (Hi.rf.uI (by decide))
  · obtain ⟨i, hi0, rfl⟩ := (i32_in (by omega)).mp (of_decide_eq_true c_8)
    have hi : i < 10 := by omega
    refine wp_iload_n (pc := 11) 2 dX6_hang_11 rfl rfl ?_
    refine wp_iflt (pc := 12) 28 dX6_hang_12 (by decide) (fun c_12 => ?_) (fun c_12 => ?_)
    · refine wp_aload_n (pc := 28) 0 dX6_hang_28 rfl rfl ?_
      refine wp_bipush (pc := 29) (-2) dX6_hang_29 (by decide) ?_
      refine wc_V_I (pc := 31) dX6_hang_31 lkX6_59 (sm_Rc.o (ci := 5) s0_0 (by decide) (by decide)) (by decide) (Nat.le_of_ble_eq_true rfl) ?_
      refine c_X6_refuse_0 ?_
      refine wp_iretI (pc := 34) dX6_hang_34 rfl ?_
      unfold do_hang at k
      rw [gat_f (c := (isTh s (nI i) && (decide (0 ≤ y ∧ y < nI i) && upB z 1))) (and_f2 (and_f1 (decide_eq_false (fun z => Int32.not_le.mpr c_12 z.1))))] at k
      exact k _ _ _ (hC.bmp (by decide)) (Hi.rf.uI (by decide))
    · refine wp_iload_n (pc := 15) 2 dX6_hang_15 rfl rfl ?_
      refine wp_iload_n (pc := 16) 1 dX6_hang_16 rfl rfl ?_
      refine wp_icmp_ge (pc := 17) 28 dX6_hang_17 (by decide) (fun c_17 => ?_) (fun c_17 => ?_)
      · refine wp_aload_n (pc := 28) 0 dX6_hang_28 rfl rfl ?_
        refine wp_bipush (pc := 29) (-2) dX6_hang_29 (by decide) ?_
        refine wc_V_I (pc := 31) dX6_hang_31 lkX6_59 (sm_Rc.o (ci := 5) s0_0 (by decide) (by decide)) (by decide) (Nat.le_of_ble_eq_true rfl) ?_
        refine c_X6_refuse_0 ?_
        refine wp_iretI (pc := 34) dX6_hang_34 rfl ?_
        unfold do_hang at k
        rw [gat_f (c := (isTh s (nI i) && (decide (0 ≤ y ∧ y < nI i) && upB z 1))) (and_f2 (and_f1 (decide_eq_false (fun z => Int32.not_lt.mpr c_17 z.2))))] at k
        exact k _ _ _ (hC.bmp (by decide)) (Hi.rf.uI (by decide))
      · have hl2 : 0 ≤ y ∧ y < nI i := ⟨Int32.not_lt.mp c_12, Int32.not_le.mp c_17⟩
        obtain ⟨l, hl0, rfl⟩ := (i32_in (by omega)).mp hl2
        have hl : l < 10 := by omega
        have ho10 := hw.on10 hi
        refine wp_iload_n (pc := 20) 3 dX6_hang_20 rfl rfl ?_
        refine wp_iconst (pc := 21) (1) dX6_hang_21 (by decide) ?_
        refine wc_S_II (pc := 22) dX6_hang_22 lkX6_55 (by decide) (Nat.le_of_ble_eq_true rfl) ?_
        refine c_X6_upTo ?_
        refine wp_ifneB (pc := 25) 35 dX6_hang_25 (by decide) (fun c_25 => ?_) (fun c_25 => ?_)
        · refine wp_aload_n (pc := 35) 0 dX6_hang_35 rfl rfl ?_
          refine wq_getR (pc := 36) 10 0 dX6_hang_36 s0_0 flX6_10 rfl rfl (by decide) (by decide) ?_
          refine wp_iload_n (pc := 39) 1 dX6_hang_39 rfl rfl ?_
          refine wc_V_I (pc := 40) dX6_hang_40 lkX6_149 (sm_Rc.o (ci := 4) s0_1 (by decide) (by decide)) (by decide) (Nat.le_of_ble_eq_true rfl) ?_
          refine c_X5_hungOf ht hw hT hi ?_
          refine wp_iload_n (pc := 43) 2 dX6_hang_43 rfl rfl ?_
          refine wc_S_II (pc := 44) dX6_hang_44 lkX6_152 (by decide) (Nat.le_of_ble_eq_true rfl) ?_
          refine c_X6_bitOf (by omega) (by omega) ?_
          refine wp_istore (pc := 47) 4 dX6_hang_47 (by decide) rfl ?_
          refine wp_aload_n (pc := 49) 0 dX6_hang_49 rfl rfl ?_
          refine wq_getR (pc := 50) 10 0 dX6_hang_50 s0_0 flX6_10 rfl rfl (by decide) (by decide) ?_
          refine wp_iload_n (pc := 53) 1 dX6_hang_53 rfl rfl ?_
          refine wp_iload_n (pc := 54) 2 dX6_hang_54 rfl rfl ?_
          refine wp_iload_n (pc := 55) 3 dX6_hang_55 rfl rfl ?_
          refine wp_iconst (pc := 56) (1) dX6_hang_56 (by decide) ?_
          refine wp_icmp_ne (pc := 57) 64 dX6_hang_57 (by decide) (fun c_57 => ?_) (fun c_57 => ?_)
          · refine wp_iconst (pc := 64) (0) dX6_hang_64 (by decide) ?_
            refine wc_V_III (pc := 65) dX6_hang_65 lkX6_155 (sm_Rc.o (ci := 4) s0_1 (by decide) (by decide)) (by decide) (Nat.le_of_ble_eq_true rfl) ?_
            refine c_X5_hangThing ht hw hT (b := false) hi hl (fun I1 hT1 hf1 => ?_)
            refine wp_iload (pc := 68) 4 dX6_hang_68 rfl ?_
            refine wp_iretI (pc := 70) dX6_hang_70 rfl ?_
            unfold do_hang at k
            rw [gat_t (c := (isTh s (nI i) && (decide (0 ≤ nI l ∧ nI l < nI i) && upB z 1))) (and_tt c_8 (and_tt (decide_eq_true hl2) c_25)), nI_clamp (by omega), nI_clamp (by omega)] at k
            rw [decide_eq_false c_57] at k
            exact k _ _ _ (hC.f hT1 hf1) (Hi.rf.fr ht hf1)
          · refine wp_iconst (pc := 60) (1) dX6_hang_60 (by decide) ?_
            refine wp_goto (pc := 61) 65 dX6_hang_61 (by decide) ?_
            refine wc_V_III (pc := 65) dX6_hang_65 lkX6_155 (sm_Rc.o (ci := 4) s0_1 (by decide) (by decide)) (by decide) (Nat.le_of_ble_eq_true rfl) ?_
            refine c_X5_hangThing ht hw hT (b := true) hi hl (fun I1 hT1 hf1 => ?_)
            refine wp_iload (pc := 68) 4 dX6_hang_68 rfl ?_
            refine wp_iretI (pc := 70) dX6_hang_70 rfl ?_
            unfold do_hang at k
            rw [gat_t (c := (isTh s (nI i) && (decide (0 ≤ nI l ∧ nI l < nI i) && upB z 1))) (and_tt c_8 (and_tt (decide_eq_true hl2) c_25)), nI_clamp (by omega), nI_clamp (by omega)] at k
            rw [decide_eq_true c_57] at k
            exact k _ _ _ (hC.f hT1 hf1) (Hi.rf.fr ht hf1)
        · refine wp_aload_n (pc := 28) 0 dX6_hang_28 rfl rfl ?_
          refine wp_bipush (pc := 29) (-2) dX6_hang_29 (by decide) ?_
          refine wc_V_I (pc := 31) dX6_hang_31 lkX6_59 (sm_Rc.o (ci := 5) s0_0 (by decide) (by decide)) (by decide) (Nat.le_of_ble_eq_true rfl) ?_
          refine c_X6_refuse_0 ?_
          refine wp_iretI (pc := 34) dX6_hang_34 rfl ?_
          unfold do_hang at k
          rw [gat_f (c := (isTh s (nI i) && (decide (0 ≤ nI l ∧ nI l < nI i) && upB z 1))) (and_f2 (and_f2 c_25))] at k
          exact k _ _ _ (hC.bmp (by decide)) (Hi.rf.uI (by decide))
theorem may_le2 (f : rw_) (i : Nat) : may f i < 2 ^ 31 := by
  unfold may
  split
  · split
    · split <;> decide
    · decide
  · decide
def do_ring (s : Sg) (x : Int32) : Int32 × Sg := gat 0 (isTh s x) (gat 3 (decide (¬ may (sgf s) x.toNatClampNeg = 0)) (nI (val (rgT (sgf s) x.toNatClampNeg) (bn (rgT (sgf s) x.toNatClampNeg))), stF s (rgT (sgf s) x.toNatClampNeg)) s) s
theorem c_X6_ring {d : Nat} {F I : Nat → Nat → Int32} {J : Nat → Nat → Int64} {Q : Option Value → sm_H → Prop} {x : Int32} {s : Sg} (hC : CR s F I J) (ok : Ok s) (k : ∀ F1 I1 J1, CR (do_ring s x).2 F1 I1 J1 → Hi F I J F1 I1 J1 → Q (some (.int (do_ring s x).1)) (S0, F1, I1, J1)) : Wp mX6_ring (d + 4) 0 0 0 (sm_ini [.ref 0, .int x] 2) [] (S0, F, I, J) Q := by
  show Wp _ _ _ _ _ [.ref 0, .int x] _ _ _
  have ht : isT 1 := Or.inl rfl
  have hw := ok.1
  have hT := hC.1
  have hn := hw.n
  have hbn := bn_1024 hw
  have hh1 := hw.wth
  have hh2 := hw.crk
  have hh3 := hw.year
  refine wp_aload_n (pc := 0) 0 dX6_ring_0 rfl rfl ?_
  refine wq_getR (pc := 1) 10 0 dX6_ring_1 s0_0 flX6_10 rfl rfl (by decide) (by decide) ?_
  refine wp_iload_n (pc := 4) 1 dX6_ring_4 rfl rfl ?_
  refine wc_V_I (pc := 5) dX6_ring_5 lkX6_146 (sm_Rc.o (ci := 4) s0_1 (by decide) (by decide)) (by decide) (Nat.le_of_ble_eq_true rfl) ?_
  refine c_X5_isThing ht hw hT ?_
  refine wp_ifneB (pc := 8) 18 dX6_ring_8 (by decide) (fun c_8 => ?_) (fun c_8 => ?_)
  · obtain ⟨i, hi0, rfl⟩ := (i32_in (by omega)).mp (of_decide_eq_true c_8)
    have hi : i < 10 := by omega
    refine wp_aload_n (pc := 18) 0 dX6_ring_18 rfl rfl ?_
    refine wq_getR (pc := 19) 10 0 dX6_ring_19 s0_0 flX6_10 rfl rfl (by decide) (by decide) ?_
    refine wp_iload_n (pc := 22) 1 dX6_ring_22 rfl rfl ?_
    refine wc_V_I (pc := 23) dX6_ring_23 lkX6_331 (sm_Rc.o (ci := 4) s0_1 (by decide) (by decide)) (by decide) (Nat.le_of_ble_eq_true rfl) ?_
    refine c_X5_mayBeRung ht hw hT hi ?_
    refine wp_ifne (pc := 26) 36 dX6_ring_26 (by decide) (fun c_26 => ?_) (fun c_26 => ?_)
    · refine wp_aload_n (pc := 36) 0 dX6_ring_36 rfl rfl ?_
      refine wq_getR (pc := 37) 10 0 dX6_ring_37 s0_0 flX6_10 rfl rfl (by decide) (by decide) ?_
      refine wp_iload_n (pc := 40) 1 dX6_ring_40 rfl rfl ?_
      refine wc_V_I (pc := 41) dX6_ring_41 lkX6_334 (sm_Rc.o (ci := 4) s0_1 (by decide) (by decide)) (by decide) (Nat.le_of_ble_eq_true rfl) ?_
      refine c_X5_ringThing ht hw hT hi (fun F1 I1 hT1 hf1 => ?_)
      have hw1 := WF_rgT hw hi0
      refine wp_aload_n (pc := 44) 0 dX6_ring_44 rfl rfl ?_
      refine wq_getR (pc := 45) 10 0 dX6_ring_45 s0_0 flX6_10 rfl rfl (by decide) (by decide) ?_
      refine wc_V_ (pc := 48) dX6_ring_48 lkX6_208 (sm_Rc.o (ci := 4) s0_1 (by decide) (by decide)) (by decide) (Nat.le_of_ble_eq_true rfl) ?_
      refine c_X5_valueNow ht hw1 hT1 ?_
      refine wp_iretI (pc := 51) dX6_ring_51 rfl ?_
      unfold do_ring at k
      rw [gat_t (c := isTh s (nI i)) c_8, nI_clamp (by omega)] at k
      rw [gat_t (c := decide (¬ may (sgf s) i = 0)) (decide_eq_true (fun z => c_26 (by rw [z]; rfl)))] at k
      exact k _ _ _ (hC.f hT1 hf1) (Hi.rf.fr ht hf1)
    · refine wp_aload_n (pc := 29) 0 dX6_ring_29 rfl rfl ?_
      refine wp_bipush (pc := 30) (-5) dX6_ring_30 (by decide) ?_
      refine wc_V_I (pc := 32) dX6_ring_32 lkX6_59 (sm_Rc.o (ci := 5) s0_0 (by decide) (by decide)) (by decide) (Nat.le_of_ble_eq_true rfl) ?_
      refine c_X6_refuse_3 ?_
      refine wp_iretI (pc := 35) dX6_ring_35 rfl ?_
      unfold do_ring at k
      rw [gat_t (c := isTh s (nI i)) c_8, nI_clamp (by omega)] at k
      rw [gat_f (c := decide (¬ may (sgf s) i = 0)) (decide_eq_false (fun z => z ((nI0 (may_le2 _ _)).mp c_26)))] at k
      exact k _ _ _ (hC.bmp (by decide)) (Hi.rf.uI (by decide))
  · refine wp_aload_n (pc := 11) 0 dX6_ring_11 rfl rfl ?_
    refine wp_bipush (pc := 12) (-2) dX6_ring_12 (by decide) ?_
    refine wc_V_I (pc := 14) dX6_ring_14 lkX6_59 (sm_Rc.o (ci := 5) s0_0 (by decide) (by decide)) (by decide) (Nat.le_of_ble_eq_true rfl) ?_
    refine c_X6_refuse_0 ?_
    refine wp_iretI (pc := 17) dX6_ring_17 rfl ?_
    unfold do_ring at k
    rw [gat_f (c := isTh s x) c_8] at k
    exact k _ _ _ (hC.bmp (by decide)) (Hi.rf.uI (by decide))
def do_day (s : Sg) : Int32 × Sg := (nI ((fu (sgf s) 70 (((sgf s) 70 + 1) % 4)) 70), stF s (fu (sgf s) 70 (((sgf s) 70 + 1) % 4)))
theorem c_X6_day {d : Nat} {F I : Nat → Nat → Int32} {J : Nat → Nat → Int64} {Q : Option Value → sm_H → Prop} {s : Sg} (hC : CR s F I J) (ok : Ok s) (k : ∀ F1 I1 J1, CR (do_day s).2 F1 I1 J1 → Hi F I J F1 I1 J1 → Q (some (.int (do_day s).1)) (S0, F1, I1, J1)) : Wp mX6_day (d + 1) 0 0 0 (sm_ini [.ref 0] 1) [] (S0, F, I, J) Q := by
  show Wp _ _ _ _ _ [.ref 0] _ _ _
  have ht : isT 1 := Or.inl rfl
  have hw := ok.1
  have hT := hC.1
  have hn := hw.n
  have hbn := bn_1024 hw
  have hh1 := hw.wth
  have hh2 := hw.crk
  have hh3 := hw.year
  refine wp_aload_n (pc := 0) 0 dX6_day_0 rfl rfl ?_
  refine wq_getR (pc := 1) 10 0 dX6_day_1 s0_0 flX6_10 rfl rfl (by decide) (by decide) ?_
  refine wc_V_ (pc := 4) dX6_day_4 lkX6_337 (sm_Rc.o (ci := 4) s0_1 (by decide) (by decide)) (by decide) (Nat.le_of_ble_eq_true rfl) ?_
  refine c_X5_passDay ht hw hT (fun F1 hT1 hf1 => ?_)
  refine wp_aload_n (pc := 7) 0 dX6_day_7 rfl rfl ?_
  refine wq_getR (pc := 8) 10 0 dX6_day_8 s0_0 flX6_10 rfl rfl (by decide) (by decide) ?_
  refine wq_getI (pc := 11) 340 6 dX6_day_11 s0_1 flX6_340 rfl (by decide) ?_
  refine wp_int hT1.wth ?_
  refine wp_iretI (pc := 14) dX6_day_14 rfl ?_
  unfold do_day at k
  exact k _ _ _ (hC.f hT1 hf1) (Hi.rf.fr ht hf1)
def do_seed (s : Sg) (x : Int32) : Int32 × Sg := (nI ((sgf s) 73), stF s (fu (sgf s) 73 x.toBitVec.toNat))
theorem c_X6_seed {d : Nat} {F I : Nat → Nat → Int32} {J : Nat → Nat → Int64} {Q : Option Value → sm_H → Prop} {x : Int32} {s : Sg} (hC : CR s F I J) (ok : Ok s) (k : ∀ F1 I1 J1, CR (do_seed s x).2 F1 I1 J1 → Hi F I J F1 I1 J1 → Q (some (.int (do_seed s x).1)) (S0, F1, I1, J1)) : Wp mX6_seed (d) 0 0 0 (sm_ini [.ref 0, .int x] 3) [] (S0, F, I, J) Q := by
  show Wp _ _ _ _ _ [.ref 0, .int x, .null] _ _ _
  have ht : isT 1 := Or.inl rfl
  have hw := ok.1
  have hT := hC.1
  have hn := hw.n
  have hbn := bn_1024 hw
  have hh1 := hw.wth
  have hh2 := hw.crk
  have hh3 := hw.year
  obtain ⟨m, hm, rfl⟩ := nI_ex x
  refine wp_aload_n (pc := 0) 0 dX6_seed_0 rfl rfl ?_
  refine wq_getR (pc := 1) 10 0 dX6_seed_1 s0_0 flX6_10 rfl rfl (by decide) (by decide) ?_
  refine wq_getI (pc := 4) 349 9 dX6_seed_4 s0_1 flX6_349 rfl (by decide) ?_
  refine wp_int hT.seed ?_
  refine wp_istore_n (pc := 7) 2 dX6_seed_7 rfl (by decide) rfl ?_
  refine wp_aload_n (pc := 8) 0 dX6_seed_8 rfl rfl ?_
  refine wq_getR (pc := 9) 10 0 dX6_seed_9 s0_0 flX6_10 rfl rfl (by decide) (by decide) ?_
  refine wp_iload_n (pc := 12) 1 dX6_seed_12 rfl rfl ?_
  refine wq_putI (pc := 13) 349 9 dX6_seed_13 s0_1 flX6_349 rfl rfl (by decide) ?_
  refine wp_iload_n (pc := 16) 2 dX6_seed_16 rfl rfl ?_
  refine wp_iretI (pc := 17) dX6_seed_17 rfl ?_
  unfold do_seed at k
  rw [nI_tn hm] at k
  exact k _ _ _ (hC.f (hT.uF (Or.inr (Or.inr (Or.inr (Or.inl ⟨rfl, rfl⟩))))) (Fr.rf.F (by omega) (by omega))) (Hi.rf.uF (by decide))
theorem CR.k {s : Sg} {F I F1 I1 : Nat → Nat → Int32} {J : Nat → Nat → Int64} (h : CR s F I J) (hT : Tw 11 (sgf s) F1 I1) (h2 : Fr 11 F I F1 I1) : CR (stK s) (sm_up F1 0 7 (b2 true)) I1 J := by
  obtain ⟨g1, g2, g3, g4, g5, g6⟩ := h
  refine ⟨g1.frame (fun a ha => (sm_up_ne (by omega)).trans (h2 a (by omega)).1) (fun a q1 q2 => (h2 a (by omega)).2), fun _ => hT.frame (fun a ha => sm_up_ne (by omega)) (fun a q1 q2 => rfl), up_eq, fun j hj => ?_, ⟨?_, fun j hj => ?_⟩, fun x hx => ?_, fun x hx => ?_, g6.2.2⟩
  · rw [(h2 39 (by omega)).2]; exact g4 j hj
  · rw [up_nk (by decide), (h2 35 (by omega)).1]; exact g5.1
  · rw [(h2 36 (by omega)).2]; exact g5.2 j hj
  · rw [(h2 32 (by omega)).2]; exact g6.1 x hx
  · rw [(h2 (32 + 1) (by omega)).2]; exact g6.2.1 x hx
def do_image (s : Sg) : Int32 × Sg := (1, stK s)
theorem c_X6_image {d : Nat} {F I : Nat → Nat → Int32} {J : Nat → Nat → Int64} {Q : Option Value → sm_H → Prop} {s : Sg} (hC : CR s F I J) (ok : Ok s) (k : ∀ F1 I1 J1, CR (do_image s).2 F1 I1 J1 → Hi F I J F1 I1 J1 → Q (some (.int (do_image s).1)) (S0, F1, I1, J1)) : Wp mX6_image (d + 3) 0 0 0 (sm_ini [.ref 0] 1) [] (S0, F, I, J) Q := by
  show Wp _ _ _ _ _ [.ref 0] _ _ _
  have ht : isT 1 := Or.inl rfl
  have hw := ok.1
  have hT := hC.1
  have hn := hw.n
  have hbn := bn_1024 hw
  have hh1 := hw.wth
  have hh2 := hw.crk
  have hh3 := hw.year
  refine wp_aload_n (pc := 0) 0 dX6_image_0 rfl rfl ?_
  refine wq_getR (pc := 1) 16 1 dX6_image_1 s0_0 flX6_16 rfl rfl (by decide) (by decide) ?_
  refine wp_aload_n (pc := 4) 0 dX6_image_4 rfl rfl ?_
  refine wq_getR (pc := 5) 10 0 dX6_image_5 s0_0 flX6_10 rfl rfl (by decide) (by decide) ?_
  refine wc_V_R (pc := 8) dX6_image_8 lkX6_182 (sm_Rc.o (ci := 4) s0_11 (by decide) (by decide)) (by decide) (Nat.le_of_ble_eq_true rfl) ?_
  refine c_X5_takeFrom (t := 11) (u := 1) (Or.inr (Or.inl rfl)) ht (Or.inr (by decide)) hT (fun F1 I1 hT1 hf1 => ?_)
  refine wp_aload_n (pc := 11) 0 dX6_image_11 rfl rfl ?_
  refine wp_iconst (pc := 12) (1) dX6_image_12 (by decide) ?_
  refine wp_int (y := b2 true) rfl ?_
  refine wq_putB (pc := 13) 47 7 dX6_image_13 s0_0 flX6_47 rfl rfl (by decide) ?_
  refine wp_iconst (pc := 16) (1) dX6_image_16 (by decide) ?_
  refine wp_iretI (pc := 17) dX6_image_17 rfl ?_
  unfold do_image at k
  exact k _ _ _ (hC.k hT1 hf1) ((Hi.rf.fr (Or.inr (Or.inl rfl)) hf1).uF (by decide))
def do_holds (s : Sg) (x : Int32) : Int32 × Sg := (if decide (0 ≤ x ∧ x < 8) = true then eN (sgh s x.toNatClampNeg) else -1, s)
theorem c_X6_holds {d : Nat} {F I : Nat → Nat → Int32} {J : Nat → Nat → Int64} {Q : Option Value → sm_H → Prop} {x : Int32} {s : Sg} (hC : CR s F I J) (ok : Ok s) (k : ∀ F1 I1 J1, CR (do_holds s x).2 F1 I1 J1 → Hi F I J F1 I1 J1 → Q (some (.int (do_holds s x).1)) (S0, F1, I1, J1)) : Wp mX6_holds (d + 2) 0 0 0 (sm_ini [.ref 0, .int x] 2) [] (S0, F, I, J) Q := by
  show Wp _ _ _ _ _ [.ref 0, .int x] _ _ _
  have ht : isT 1 := Or.inl rfl
  have hw := ok.1
  have hT := hC.1
  have hn := hw.n
  have hbn := bn_1024 hw
  have hh1 := hw.wth
  have hh2 := hw.crk
  have hh3 := hw.year
  refine wp_aload_n (pc := 0) 0 dX6_holds_0 rfl rfl ?_
  refine wq_getR (pc := 1) 25 3 dX6_holds_1 s0_0 flX6_25 rfl rfl (by decide) (by decide) ?_
  refine wp_iload_n (pc := 4) 1 dX6_holds_4 rfl rfl ?_
  have hS := hC.2.2.2.2.2
  have ho := ok.2.2.2.2.1
  unfold do_holds at k
  by_cases hx : 0 ≤ x ∧ x < 8
  · rw [if_pos (decide_eq_true hx)] at k
    obtain ⟨i, hi, rfl⟩ := (i32_in (n := 8) (by decide)).mp hx
    rw [nI_clamp (by omega)] at k
    refine wc_V_I (pc := 5) dX6_holds_5 lkX6_83 (sm_Rc.o (ci := 2) s0_31 (by decide) (by decide)) (by decide) (Nat.le_of_ble_eq_true rfl) ?_
    refine c_X3_heldIn_i hS ho hi ?_
    refine wp_iretI (pc := 8) dX6_holds_8 rfl ?_
    exact k _ _ _ hC Hi.rf
  · rw [if_neg (by rw [decide_eq_true_eq]; exact hx)] at k
    refine wc_V_I (pc := 5) dX6_holds_5 lkX6_83 (sm_Rc.o (ci := 2) s0_31 (by decide) (by decide)) (by decide) (Nat.le_of_ble_eq_true rfl) ?_
    refine c_X3_heldIn_o hx ?_
    refine wp_iretI (pc := 8) dX6_holds_8 rfl ?_
    exact k _ _ _ hC Hi.rf
