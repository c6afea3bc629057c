/-! ===== years, images, status, a tower by its tape ===== -/
def stV (s : Sg) (w : Nat) : Int32 := match w with
  | 0 => nI (sgf s 68)
  | 1 => nI (sgf s 69)
  | 2 => nI (sgf s 70)
  | 3 => nI (sgf s 71)
  | 4 => nI (sgf s 72)
  | 5 => nI (val (sgf s) (bn (sgf s)))
  | 6 => nI (sgz s)
  | 7 => nI (sgf s 73)
  | _ => nI (cnt (fun i => (sgh s i).isSome) 8)
def do_status (s : Sg) (x : Int32) : Int32 × Sg := (if upB x 8 = true then stV s x.toNatClampNeg else if 12 ≤ x ∧ x ≤ 16 then sgr s (x.toNatClampNeg - 12) else -1, s)
theorem c_X6_status {d : Nat} {F I : Nat → Nat → Int32} {J : Nat → Nat → Int64} {Q : Option Value → sm_H → Prop} {x : Int32} {s : Sg} (hC : CR s F I J) (ok : Ok s) (k : ∀ F1 I1 J1, CR (do_status s x).2 F1 I1 J1 → Hi F I J F1 I1 J1 → Q (some (.int (do_status s x).1)) (S0, F1, I1, J1)) : Wp mX6_status (d + 5) 0 0 0 (sm_ini [.ref 0, .int x] 2) [] (S0, F, I, J) Q := by
  show Wp _ _ _ _ _ [.ref 0, .int x] _ _ _
  have ht : isT 1 := Or.inl rfl
  have hw := ok.1
  have hT := hC.1
  have hn := hw.n
  have hbn := bn_1024 hw
  have hh1 := hw.wth
  have hh2 := hw.crk
  have hh3 := hw.year
  have hS := hC.2.2.2.2.2
  have ho := ok.2.2.2.2.1
  have hP := hC.2.2.2.2.1
  have hz := ok.2.2.1
  by_cases hx : upB x 8 = true
  · obtain ⟨v, hv, rfl⟩ := (i32_le (n := 8) (by decide)).mp (of_decide_eq_true hx)
    unfold do_status at k
    rw [if_pos hx, nI_clamp (by omega)] at k
    rcases (show v = 0 ∨ v = 1 ∨ v = 2 ∨ v = 3 ∨ v = 4 ∨ v = 5 ∨ v = 6 ∨ v = 7 ∨ v = 8 by omega) with rfl | rfl | rfl | rfl | rfl | rfl | rfl | rfl | rfl
    · refine wp_iload_n (pc := 0) 1 dX6_status_0 rfl rfl ?_
      refine wp_tswI (pc := 1) 0 52 dX6_status_1 (by decide) (by decide) rfl (by decide) ?_
      refine wp_aload_n (pc := 52) 0 dX6_status_52 rfl rfl ?_
      refine wq_getR (pc := 53) 10 0 dX6_status_53 s0_0 flX6_10 rfl rfl (by decide) (by decide) ?_
      refine wq_getI (pc := 56) 343 0 dX6_status_56 s0_1 flX6_343 rfl (by decide) ?_
      refine wp_int hT.n ?_
      refine wp_iretI (pc := 59) dX6_status_59 rfl ?_
      exact k _ _ _ hC Hi.rf
    · refine wp_iload_n (pc := 0) 1 dX6_status_0 rfl rfl ?_
      refine wp_tswI (pc := 1) 1 60 dX6_status_1 (by decide) (by decide) rfl (by decide) ?_
      refine wp_aload_n (pc := 60) 0 dX6_status_60 rfl rfl ?_
      refine wq_getR (pc := 61) 10 0 dX6_status_61 s0_0 flX6_10 rfl rfl (by decide) (by decide) ?_
      refine wq_getR (pc := 64) 98 10 dX6_status_64 s0_1 flX6_98 rfl rfl (by decide) (by decide) ?_
      refine wq_getI (pc := 67) 352 0 dX6_status_67 s0_6 flX6_352 rfl (by decide) ?_
      refine wp_int hT.crew ?_
      refine wp_iretI (pc := 70) dX6_status_70 rfl ?_
      exact k _ _ _ hC Hi.rf
    · refine wp_iload_n (pc := 0) 1 dX6_status_0 rfl rfl ?_
      refine wp_tswI (pc := 1) 2 71 dX6_status_1 (by decide) (by decide) rfl (by decide) ?_
      refine wp_aload_n (pc := 71) 0 dX6_status_71 rfl rfl ?_
      refine wq_getR (pc := 72) 10 0 dX6_status_72 s0_0 flX6_10 rfl rfl (by decide) (by decide) ?_
      refine wq_getI (pc := 75) 340 6 dX6_status_75 s0_1 flX6_340 rfl (by decide) ?_
      refine wp_int hT.wth ?_
      refine wp_iretI (pc := 78) dX6_status_78 rfl ?_
      exact k _ _ _ hC Hi.rf
    · refine wp_iload_n (pc := 0) 1 dX6_status_0 rfl rfl ?_
      refine wp_tswI (pc := 1) 3 79 dX6_status_1 (by decide) (by decide) rfl (by decide) ?_
      refine wp_aload_n (pc := 79) 0 dX6_status_79 rfl rfl ?_
      refine wq_getR (pc := 80) 10 0 dX6_status_80 s0_0 flX6_10 rfl rfl (by decide) (by decide) ?_
      refine wq_getI (pc := 83) 358 7 dX6_status_83 s0_1 flX6_358 rfl (by decide) ?_
      refine wp_int hT.year ?_
      refine wp_iretI (pc := 86) dX6_status_86 rfl ?_
      exact k _ _ _ hC Hi.rf
    · refine wp_iload_n (pc := 0) 1 dX6_status_0 rfl rfl ?_
      refine wp_tswI (pc := 1) 4 87 dX6_status_1 (by decide) (by decide) rfl (by decide) ?_
      refine wp_aload_n (pc := 87) 0 dX6_status_87 rfl rfl ?_
      refine wq_getR (pc := 88) 10 0 dX6_status_88 s0_0 flX6_10 rfl rfl (by decide) (by decide) ?_
      refine wq_getI (pc := 91) 123 8 dX6_status_91 s0_1 flX6_123 rfl (by decide) ?_
      refine wp_int hT.crk ?_
      refine wp_iretI (pc := 94) dX6_status_94 rfl ?_
      exact k _ _ _ hC Hi.rf
    · refine wp_iload_n (pc := 0) 1 dX6_status_0 rfl rfl ?_
      refine wp_tswI (pc := 1) 5 95 dX6_status_1 (by decide) (by decide) rfl (by decide) ?_
      refine wp_aload_n (pc := 95) 0 dX6_status_95 rfl rfl ?_
      refine wq_getR (pc := 96) 10 0 dX6_status_96 s0_0 flX6_10 rfl rfl (by decide) (by decide) ?_
      refine wc_V_ (pc := 99) dX6_status_99 lkX6_208 (sm_Rc.o (ci := 4) s0_1 (by decide) (by decide)) (by decide) (Nat.le_of_ble_eq_true rfl) ?_
      refine c_X5_valueNow ht hw hT ?_
      refine wp_iretI (pc := 102) dX6_status_102 rfl ?_
      exact k _ _ _ hC Hi.rf
    · refine wp_iload_n (pc := 0) 1 dX6_status_0 rfl rfl ?_
      refine wp_tswI (pc := 1) 6 103 dX6_status_1 (by decide) (by decide) rfl (by decide) ?_
      refine wp_aload_n (pc := 103) 0 dX6_status_103 rfl rfl ?_
      refine wq_getR (pc := 104) 32 4 dX6_status_104 s0_0 flX6_32 rfl rfl (by decide) (by decide) ?_
      refine wq_getI (pc := 107) 361 0 dX6_status_107 s0_35 flX6_361 rfl (by decide) ?_
      refine wp_int hC.2.2.2.2.1.1 ?_
      refine wp_iretI (pc := 110) dX6_status_110 rfl ?_
      exact k _ _ _ hC Hi.rf
    · refine wp_iload_n (pc := 0) 1 dX6_status_0 rfl rfl ?_
      refine wp_tswI (pc := 1) 7 111 dX6_status_1 (by decide) (by decide) rfl (by decide) ?_
      refine wp_aload_n (pc := 111) 0 dX6_status_111 rfl rfl ?_
      refine wq_getR (pc := 112) 10 0 dX6_status_112 s0_0 flX6_10 rfl rfl (by decide) (by decide) ?_
      refine wq_getI (pc := 115) 349 9 dX6_status_115 s0_1 flX6_349 rfl (by decide) ?_
      refine wp_int hT.seed ?_
      refine wp_iretI (pc := 118) dX6_status_118 rfl ?_
      exact k _ _ _ hC Hi.rf
    · refine wp_iload_n (pc := 0) 1 dX6_status_0 rfl rfl ?_
      refine wp_tswI (pc := 1) 8 119 dX6_status_1 (by decide) (by decide) rfl (by decide) ?_
      refine wp_aload_n (pc := 119) 0 dX6_status_119 rfl rfl ?_
      refine wq_getR (pc := 120) 25 3 dX6_status_120 s0_0 flX6_25 rfl rfl (by decide) (by decide) ?_
      refine wc_V_ (pc := 123) dX6_status_123 lkX6_364 (sm_Rc.o (ci := 2) s0_31 (by decide) (by decide)) (by decide) (Nat.le_of_ble_eq_true rfl) ?_
      refine c_X3_countHeld hS ho ?_
      refine wp_iretI (pc := 126) dX6_status_126 rfl ?_
      exact k _ _ _ hC Hi.rf
  · unfold do_status at k
    rw [if_neg hx] at k
    have hx2 := tsw_o (m := 8) (by decide) rfl hx
    refine wp_iload_n (pc := 0) 1 dX6_status_0 rfl rfl ?_
    refine wp_tswO (pc := 1) 127 dX6_status_1 hx2 (by decide) ?_
    refine wp_iload_n (pc := 127) 1 dX6_status_127 rfl rfl ?_
    refine wp_bipush (pc := 128) (12) dX6_status_128 (by decide) ?_
    refine wp_icmp_lt (pc := 130) 153 dX6_status_130 (by decide) (fun c_130 => ?_) (fun c_130 => ?_)
    · refine wp_iconst (pc := 153) (-1) dX6_status_153 (by decide) ?_
      refine wp_iretI (pc := 154) dX6_status_154 rfl ?_
      rw [if_neg (fun z => Int32.not_le.mpr c_130 z.1)] at k
      exact k _ _ _ hC Hi.rf
    · refine wp_iload_n (pc := 133) 1 dX6_status_133 rfl rfl ?_
      refine wp_bipush (pc := 134) (16) dX6_status_134 (by decide) ?_
      refine wp_icmp_gt (pc := 136) 153 dX6_status_136 (by decide) (fun c_136 => ?_) (fun c_136 => ?_)
      · refine wp_iconst (pc := 153) (-1) dX6_status_153 (by decide) ?_
        refine wp_iretI (pc := 154) dX6_status_154 rfl ?_
        rw [if_neg (fun z => Int32.not_le.mpr c_136 z.2)] at k
        exact k _ _ _ hC Hi.rf
      · obtain ⟨m, hm, rfl⟩ := (i32_le (n := 16) (by decide)).mp ⟨Int32.le_trans (by decide) (Int32.not_lt.mp c_130), Int32.not_lt.mp c_136⟩
        have hm1 : 12 ≤ m := (nI_leI (a := 12) (by decide) (by omega)).mp (Int32.not_lt.mp c_130)
        refine wp_aload_n (pc := 139) 0 dX6_status_139 rfl rfl ?_
        refine wq_getR (pc := 140) 43 6 dX6_status_140 s0_0 flX6_43 rfl rfl (by decide) (by decide) ?_
        refine wp_iload_n (pc := 143) 1 dX6_status_143 rfl rfl ?_
        refine wp_bipush (pc := 144) (12) dX6_status_144 (by decide) ?_
        refine wp_isub (pc := 146) dX6_status_146 ?_
        refine wp_int (y := nI (m - 12)) (sub_nI (b := 12) hm1) ?_
        refine wc_S_RI (pc := 147) dX6_status_147 lkX6_367 (by decide) (Nat.le_of_ble_eq_true rfl) ?_
        refine c_X6_at (n := m - 12) s0_39 (by decide) (by decide) (by omega) ?_
        refine wp_int (hC.2.2.2.1 (m - 12) (by omega)) ?_
        refine wp_goto (pc := 150) 154 dX6_status_150 (by decide) ?_
        refine wp_iretI (pc := 154) dX6_status_154 rfl ?_
        rw [if_pos ⟨Int32.not_lt.mp c_130, Int32.not_lt.mp c_136⟩, nI_clamp (by omega)] at k
        exact k _ _ _ hC Hi.rf
noncomputable def yU (f : rw_) : Nat → Nat × rw_
  | 0 => (0, f)
  | k + 1 => ((yU f k).1 + (yr (yU f k).2).1, (yr (yU f k).2).2)
theorem yU_ok {f : rw_} (hw : WF f) (h0 : 0 < f 68) : ∀ k, WF (yU f k).2 ∧ (yU f k).2 68 = f 68
  | 0 => ⟨hw, rfl⟩
  | k + 1 => by
    obtain ⟨h1, h2⟩ := yU_ok hw h0 k
    have h3 : 0 < (yU f k).2 68 := by omega
    exact ⟨WF_yr h1 h3, (yr_68 h1 h3).trans h2⟩
noncomputable def do_years (s : Sg) (x : Int32) : Int32 × Sg := gat 0 (decide (1 ≤ x ∧ x ≤ 60)) (gat 3 (decide (¬ sgf s 68 = 0)) (nI (yU (sgf s) x.toNatClampNeg).1, stF s (yU (sgf s) x.toNatClampNeg).2) s) s
theorem c_X6_years {d : Nat} {F I : Nat → Nat → Int32} {J : Nat → Nat → Int64} {Q : Option Value → sm_H → Prop} {x : Int32} {s : Sg} (hC : CR s F I J) (ok : Ok s) (k : ∀ F1 I1 J1, CR (do_years s x).2 F1 I1 J1 → Hi F I J F1 I1 J1 → Q (some (.int (do_years s x).1)) (S0, F1, I1, J1)) : Wp mX6_years (d + 6) 0 0 0 (sm_ini [.ref 0, .int x] 4) [] (S0, F, I, J) Q := by
  show Wp _ _ _ _ _ [.ref 0, .int x, .null, .null] _ _ _
  have ht : isT 1 := Or.inl rfl
  have hw := ok.1
  have hT := hC.1
  have hn := hw.n
  have hbn := bn_1024 hw
  have hh1 := hw.wth
  have hh2 := hw.crk
  have hh3 := hw.year
  refine wp_iload_n (pc := 0) 1 dX6_years_0 rfl rfl ?_
  refine wp_iconst (pc := 1) (1) dX6_years_1 (by decide) ?_
  refine wp_icmp_lt (pc := 2) 11 dX6_years_2 (by decide) (fun c_2 => ?_) (fun c_2 => ?_)
  · refine wp_aload_n (pc := 11) 0 dX6_years_11 rfl rfl ?_
    refine wp_bipush (pc := 12) (-2) dX6_years_12 (by decide) ?_
    refine wc_V_I (pc := 14) dX6_years_14 lkX6_59 (sm_Rc.o (ci := 5) s0_0 (by decide) (by decide)) (by decide) (Nat.le_of_ble_eq_true rfl) ?_
    refine c_X6_refuse_0 ?_
    refine wp_iretI (pc := 17) dX6_years_17 rfl ?_
    unfold do_years at k
    rw [gat_f (c := decide (1 ≤ x ∧ x ≤ 60)) (decide_eq_false (fun z => Int32.not_le.mpr c_2 z.1))] at k
    exact k _ _ _ (hC.bmp (by decide)) (Hi.rf.uI (by decide))
  · refine wp_iload_n (pc := 5) 1 dX6_years_5 rfl rfl ?_
    refine wp_bipush (pc := 6) (60) dX6_years_6 (by decide) ?_
    refine wp_icmp_le (pc := 8) 18 dX6_years_8 (by decide) (fun c_8 => ?_) (fun c_8 => ?_)
    · have hm2 := And.intro (Int32.not_lt.mp c_2) c_8
      obtain ⟨m, hm, rfl⟩ := (i32_le (n := 60) (by decide)).mp ⟨Int32.le_trans (by decide) hm2.1, hm2.2⟩
      refine wp_aload_n (pc := 18) 0 dX6_years_18 rfl rfl ?_
      refine wq_getR (pc := 19) 10 0 dX6_years_19 s0_0 flX6_10 rfl rfl (by decide) (by decide) ?_
      refine wq_getI (pc := 22) 343 0 dX6_years_22 s0_1 flX6_343 rfl (by decide) ?_
      refine wp_int hT.n ?_
      refine wp_ifne (pc := 25) 35 dX6_years_25 (by decide) (fun c_25 => ?_) (fun c_25 => ?_)
      · have h0 : ¬ sgf s 68 = 0 := fun z => c_25 (by rw [z]; rfl)
        refine wp_iconst (pc := 35) (0) dX6_years_35 (by decide) ?_
        refine wp_istore_n (pc := 36) 2 dX6_years_36 rfl (by decide) rfl ?_
        refine wp_iconst (pc := 37) (0) dX6_years_37 (by decide) ?_
        refine wp_istore_n (pc := 38) 3 dX6_years_38 rfl (by decide) rfl ?_
        unfold do_years at k
        rw [gat_t (c := decide (1 ≤ nI m ∧ nI m ≤ 60)) (decide_eq_true hm2), gat_t (c := decide (¬ sgf s 68 = 0)) (decide_eq_true h0), nI_clamp (by omega)] at k
        have h00 : 0 < sgf s 68 := by omega
        refine wp_loopS (σ := (Nat → Nat → Int32) × (Nat → Nat → Int32)) (fun i _ => [.ref 0, .int (nI m), .int (nI (yU (sgf s) i).1), .int (nI i)]) (fun _ t => (S0, t.1, t.2, J)) (fun i t => Tw 1 (yU (sgf s) i).2 t.1 t.2 ∧ Fr 1 F I t.1 t.2) m (fun i t hi hs nx => ?_) (fun t hs => ?_) 0 (F, I) (Nat.zero_le _) ⟨hT, Fr.rf⟩
        · obtain ⟨F1, I1⟩ := t
          simp only at hs
          obtain ⟨hT1, hf1⟩ := hs
          obtain ⟨hw1, h68⟩ := yU_ok hw h00 i
          refine wp_iload_n (pc := 39) 3 dX6_years_39 rfl rfl ?_
          refine wp_iload_n (pc := 40) 1 dX6_years_40 rfl rfl ?_
          refine wp_icmp_ge (pc := 41) 60 dX6_years_41 (by decide) (fun c_41 => ?_) (fun c_41 => ?_)
          · exact absurd c_41 (nI_ge hi (by omega))
          · refine wp_iload_n (pc := 44) 2 dX6_years_44 rfl rfl ?_
            refine wp_aload_n (pc := 45) 0 dX6_years_45 rfl rfl ?_
            refine wq_getR (pc := 46) 10 0 dX6_years_46 s0_0 flX6_10 rfl rfl (by decide) (by decide) ?_
            refine wc_V_ (pc := 49) dX6_years_49 lkX6_346 (sm_Rc.o (ci := 4) s0_1 (by decide) (by decide)) (by decide) (Nat.le_of_ble_eq_true rfl) ?_
            refine c_X5_passYearByDraws ht hw1 hT1 (by omega) (fun F2 I2 hT2 hf2 => ?_)
            refine wp_iadd (pc := 52) dX6_years_52 ?_
            refine wp_int (nI_add _ _) ?_
            refine wp_istore_n (pc := 53) 2 dX6_years_53 rfl (by decide) rfl ?_
            refine wp_incN (pc := 54) 3 dX6_years_54 rfl (by decide) rfl ?_
            refine wp_goto (pc := 57) 39 dX6_years_57 (by decide) ?_
            exact nx (F2, I2) ⟨hT2, hf1.tr hf2⟩
        · obtain ⟨F1, I1⟩ := t
          simp only at hs
          obtain ⟨hT1, hf1⟩ := hs
          refine wp_iload_n (pc := 39) 3 dX6_years_39 rfl rfl ?_
          refine wp_iload_n (pc := 40) 1 dX6_years_40 rfl rfl ?_
          refine wp_icmp_ge (pc := 41) 60 dX6_years_41 (by decide) (fun c_41 => ?_) (fun c_41 => ?_)
          · refine wp_iload_n (pc := 60) 2 dX6_years_60 rfl rfl ?_
            refine wp_iretI (pc := 61) dX6_years_61 rfl ?_
            exact k _ _ _ (hC.f hT1 hf1) (Hi.rf.fr ht hf1)
          · exact absurd (Int32.le_refl _) c_41
      · refine wp_aload_n (pc := 28) 0 dX6_years_28 rfl rfl ?_
        refine wp_bipush (pc := 29) (-5) dX6_years_29 (by decide) ?_
        refine wc_V_I (pc := 31) dX6_years_31 lkX6_59 (sm_Rc.o (ci := 5) s0_0 (by decide) (by decide)) (by decide) (Nat.le_of_ble_eq_true rfl) ?_
        refine c_X6_refuse_3 ?_
        refine wp_iretI (pc := 34) dX6_years_34 rfl ?_
        unfold do_years at k
        rw [gat_t (c := decide (1 ≤ nI m ∧ nI m ≤ 60)) (decide_eq_true hm2), gat_f (c := decide (¬ sgf s 68 = 0)) (decide_eq_false (fun z => z ((nI0 (by omega)).mp c_25)))] at k
        exact k _ _ _ (hC.bmp (by decide)) (Hi.rf.uI (by decide))
    · refine wp_aload_n (pc := 11) 0 dX6_years_11 rfl rfl ?_
      refine wp_bipush (pc := 12) (-2) dX6_years_12 (by decide) ?_
      refine wc_V_I (pc := 14) dX6_years_14 lkX6_59 (sm_Rc.o (ci := 5) s0_0 (by decide) (by decide)) (by decide) (Nat.le_of_ble_eq_true rfl) ?_
      refine c_X6_refuse_0 ?_
      refine wp_iretI (pc := 17) dX6_years_17 rfl ?_
      unfold do_years at k
      rw [gat_f (c := decide (1 ≤ x ∧ x ≤ 60)) (decide_eq_false (fun z => c_8 z.2))] at k
      exact k _ _ _ (hC.bmp (by decide)) (Hi.rf.uI (by decide))
theorem ShR.all {c m : Nat} {hd : Nat → Option Nat} {zs : Nat → Nat} {el : Nat → Int64} {I : Nat → Nat → Int32} {J : Nat → Nat → Int64} (h : ShR c (hdF m 8 hd) zs el I J) : ShR c (fun i => fgt m (hd i)) zs el I J := ⟨fun x hx => (h.1 x hx).trans (by unfold hdF; rw [if_pos hx]), h.2⟩
def do_back (s : Sg) : Int32 × Sg := gat 3 (sgb s) (1, stS (stF s (sgk s)) (fun i => fgt (sgk s 69) (sgh s i)) (sgs s) (sge s)) s
theorem c_X6_back {d : Nat} {F I : Nat → Nat → Int32} {J : Nat → Nat → Int64} {Q : Option Value → sm_H → Prop} {s : Sg} (hC : CR s F I J) (ok : Ok s) (k : ∀ F1 I1 J1, CR (do_back s).2 F1 I1 J1 → Hi F I J F1 I1 J1 → Q (some (.int (do_back s).1)) (S0, F1, I1, J1)) : Wp mX6_back (d + 5) 0 0 0 (sm_ini [.ref 0] 1) [] (S0, F, I, J) Q := by
  show Wp _ _ _ _ _ [.ref 0] _ _ _
  have ht : isT 1 := Or.inl rfl
  have hw := ok.1
  have hT := hC.1
  have hn := hw.n
  have hbn := bn_1024 hw
  have hh1 := hw.wth
  have hh2 := hw.crk
  have hh3 := hw.year
  have hS := hC.2.2.2.2.2
  have ho := ok.2.2.2.2.1
  have hP := hC.2.2.2.2.1
  have hz := ok.2.2.1
  refine wp_aload_n (pc := 0) 0 dX6_back_0 rfl rfl ?_
  refine wq_getI (pc := 1) 47 7 dX6_back_1 s0_0 flX6_47 rfl (by decide) ?_
  refine wp_int hC.2.2.1 ?_
  refine wp_ifneB (pc := 4) 14 dX6_back_4 (by decide) (fun c_4 => ?_) (fun c_4 => ?_)
  · refine wp_aload_n (pc := 14) 0 dX6_back_14 rfl rfl ?_
    refine wq_getR (pc := 15) 10 0 dX6_back_15 s0_0 flX6_10 rfl rfl (by decide) (by decide) ?_
    refine wp_aload_n (pc := 18) 0 dX6_back_18 rfl rfl ?_
    refine wq_getR (pc := 19) 16 1 dX6_back_19 s0_0 flX6_16 rfl rfl (by decide) (by decide) ?_
    refine wc_V_R (pc := 22) dX6_back_22 lkX6_182 (sm_Rc.o (ci := 4) s0_1 (by decide) (by decide)) (by decide) (Nat.le_of_ble_eq_true rfl) ?_
    refine c_X5_takeFrom (t := 1) (u := 11) ht (Or.inr (Or.inl rfl)) (Or.inl (by decide)) (hC.2.1 c_4) (fun F1 I1 hT1 hf1 => ?_)
    have hC1 := hC.f hT1 hf1
    refine wp_aload_n (pc := 25) 0 dX6_back_25 rfl rfl ?_
    refine wq_getR (pc := 26) 25 3 dX6_back_26 s0_0 flX6_25 rfl rfl (by decide) (by decide) ?_
    refine wp_aload_n (pc := 29) 0 dX6_back_29 rfl rfl ?_
    refine wq_getR (pc := 30) 10 0 dX6_back_30 s0_0 flX6_10 rfl rfl (by decide) (by decide) ?_
    refine wq_getR (pc := 33) 98 10 dX6_back_33 s0_1 flX6_98 rfl rfl (by decide) (by decide) ?_
    refine wq_getI (pc := 36) 352 0 dX6_back_36 s0_6 flX6_352 rfl (by decide) ?_
    refine wp_int hT1.crew ?_
    refine wc_V_I (pc := 39) dX6_back_39 lkX6_355 (sm_Rc.o (ci := 2) s0_31 (by decide) (by decide)) (by decide) (Nat.le_of_ble_eq_true rfl) ?_
    refine c_X3_forgetRingersFrom hC1.2.2.2.2.2 ho (by have := ok.2.1.c; omega) (fun I2 hS2 hg2 => ?_)
    refine wp_iconst (pc := 42) (1) dX6_back_42 (by decide) ?_
    refine wp_iretI (pc := 43) dX6_back_43 rfl ?_
    unfold do_back at k
    rw [gat_t (c := sgb s) c_4] at k
    exact k _ _ _ (hC1.sh hS2.all hg2) ((Hi.rf.fr ht hf1).sh hg2)
  · refine wp_aload_n (pc := 7) 0 dX6_back_7 rfl rfl ?_
    refine wp_bipush (pc := 8) (-5) dX6_back_8 (by decide) ?_
    refine wc_V_I (pc := 10) dX6_back_10 lkX6_59 (sm_Rc.o (ci := 5) s0_0 (by decide) (by decide)) (by decide) (Nat.le_of_ble_eq_true rfl) ?_
    refine c_X6_refuse_3 ?_
    refine wp_iretI (pc := 13) dX6_back_13 rfl ?_
    unfold do_back at k
    rw [gat_f (c := sgb s) c_4] at k
    exact k _ _ _ (hC.bmp (by decide)) (Hi.rf.uI (by decide))
