/-! ===== the reference: days, years, images, the tape fed ===== -/
theorem c_X7_day {d : Nat} {F I : Nat → Nat → Int32} {J : Nat → Nat → Int64} {Q : Option Value → sm_H → Prop} {s : Sg} (hM : MR s F I J) (ok : Ok s) (k : ∀ F1 I1 J1, MR (do_day s).2 F1 I1 J1 → Lo F I J F1 I1 J1 → Q (some (.int (do_day s).1)) (S0, F1, I1, J1)) : Wp mX7_day (d) 0 0 0 (sm_ini [.ref 40] 1) [] (S0, F, I, J) Q := by
  show Wp _ _ _ _ _ [.ref 40] _ _ _
  have hw := ok.1
  have hR := hM.1
  have hn := hw.n
  have hcw := hw.c
  have hbn := bn_1024 hw
  have hbl := bn_lt hw
  have hp2 := p2n hw
  have hh1 := hw.wth
  have hh2 := hw.crk
  have hh3 := hw.year
  refine wp_aload_n (pc := 0) 0 dX7_day_0 rfl rfl ?_
  refine wq_getR (pc := 1) 13 0 dX7_day_1 s0_40 flX7_13 rfl rfl (by decide) (by decide) ?_
  refine wp_bipush (pc := 4) (70) dX7_day_4 (by decide) ?_
  refine wp_aload_n (pc := 6) 0 dX7_day_6 rfl rfl ?_
  refine wq_getR (pc := 7) 13 0 dX7_day_7 s0_40 flX7_13 rfl rfl (by decide) (by decide) ?_
  refine wp_bipush (pc := 10) (70) dX7_day_10 (by decide) ?_
  refine wq_iald (pc := 12) 70 dX7_day_12 s0_41 (by decide) rfl (by decide) (by decide) ?_
  refine wp_int (hR.at (by decide)) ?_
  refine wp_iconst (pc := 13) (1) dX7_day_13 (by decide) ?_
  refine wp_iadd (pc := 14) dX7_day_14 ?_
  refine wp_int (nI_1 _) ?_
  refine wp_iconst (pc := 15) (4) dX7_day_15 (by decide) ?_
  refine wp_irem (pc := 16) dX7_day_16 (by decide) ?_
  refine wp_int (pk_rem (d := 4) (by omega) (by decide) (by decide)) ?_
  refine wq_iast (pc := 17) 70 dX7_day_17 s0_41 (by decide) rfl (by decide) (by decide) ?_
  refine wp_aload_n (pc := 18) 0 dX7_day_18 rfl rfl ?_
  refine wq_getR (pc := 19) 13 0 dX7_day_19 s0_40 flX7_13 rfl rfl (by decide) (by decide) ?_
  refine wp_bipush (pc := 22) (70) dX7_day_22 (by decide) ?_
  refine wq_iald (pc := 24) 70 dX7_day_24 s0_41 (by decide) rfl (by decide) (by decide) ?_
  refine wp_int up_eq ?_
  refine wp_iretI (pc := 25) dX7_day_25 rfl ?_
  unfold do_day at k
  rw [fu_eq] at k
  exact k _ _ _ (hM.f (hR.u 70 ((sgf s 70 + 1) % 4)) RF.rf.u) RF.rf.u.lo
theorem c_X7_seed {d : Nat} {F I : Nat → Nat → Int32} {J : Nat → Nat → Int64} {Q : Option Value → sm_H → Prop} {x : Int32} {s : Sg} (hM : MR s F I J) (ok : Ok s) (k : ∀ F1 I1 J1, MR (do_seed s x).2 F1 I1 J1 → Lo F I J F1 I1 J1 → Q (some (.int (do_seed s x).1)) (S0, F1, I1, J1)) : Wp mX7_seed (d) 0 0 0 (sm_ini [.ref 40, .int x] 3) [] (S0, F, I, J) Q := by
  show Wp _ _ _ _ _ [.ref 40, .int x, .null] _ _ _
  have hw := ok.1
  have hR := hM.1
  have hn := hw.n
  have hcw := hw.c
  have hbn := bn_1024 hw
  have hbl := bn_lt hw
  have hp2 := p2n hw
  have hh1 := hw.wth
  have hh2 := hw.crk
  have hh3 := hw.year
  obtain ⟨m, hm, rfl⟩ := nI_ex x
  refine wp_aload_n (pc := 0) 0 dX7_seed_0 rfl rfl ?_
  refine wq_getR (pc := 1) 13 0 dX7_seed_1 s0_40 flX7_13 rfl rfl (by decide) (by decide) ?_
  refine wp_bipush (pc := 4) (73) dX7_seed_4 (by decide) ?_
  refine wq_iald (pc := 6) 73 dX7_seed_6 s0_41 (by decide) rfl (by decide) (by decide) ?_
  refine wp_int (hR.at (by decide)) ?_
  refine wp_istore_n (pc := 7) 2 dX7_seed_7 rfl (by decide) rfl ?_
  refine wp_aload_n (pc := 8) 0 dX7_seed_8 rfl rfl ?_
  refine wq_getR (pc := 9) 13 0 dX7_seed_9 s0_40 flX7_13 rfl rfl (by decide) (by decide) ?_
  refine wp_bipush (pc := 12) (73) dX7_seed_12 (by decide) ?_
  refine wp_iload_n (pc := 14) 1 dX7_seed_14 rfl rfl ?_
  refine wq_iast (pc := 15) 73 dX7_seed_15 s0_41 (by decide) rfl (by decide) (by decide) ?_
  refine wp_iload_n (pc := 16) 2 dX7_seed_16 rfl rfl ?_
  refine wp_iretI (pc := 17) dX7_seed_17 rfl ?_
  unfold do_seed at k
  rw [nI_tn hm] at k
  exact k _ _ _ (hM.f (hR.u 73 m) RF.rf.u) RF.rf.u.lo
theorem c_X7_move {d : Nat} {F I : Nat → Nat → Int32} {J : Nat → Nat → Int64} {Q : Option Value → sm_H → Prop} {a b : Nat} (ha : S0[a]? = some (1, 74, [])) (hb : S0[b]? = some (1, 74, [])) (ha9 : a < 900) (hb9 : b < 900) (hne : a ≠ b) (k : Q none (S0, F, rwI I b (I a) 74, J)) : Wp mX7_move d 0 0 0 (sm_ini [.ref a, .ref b] 3) [] (S0, F, I, J) Q := by
  show Wp _ _ _ _ _ [.ref a, .ref b, .null] _ _ _
  refine wp_iconst (pc := 0) (0) dX7_move_0 (by decide) ?_
  refine wp_istore_n (pc := 1) 2 dX7_move_1 rfl (by decide) rfl ?_
  rw [← rwI_0 I b (I a)]
  refine wp_loop (fun i => [.ref a, .ref b, .int (nI i)]) (fun i => (S0, F, rwI I b (I a) i, J)) (fun i => True) 74 (fun i hi hv nx => ?_) (fun hv => ?_) 0 (by omega) trivial
  · refine wp_iload_n (pc := 2) 2 dX7_move_2 rfl rfl ?_
    refine wp_bipush (pc := 3) (74) dX7_move_3 (by decide) ?_
    refine wp_icmp_ge (pc := 5) 20 dX7_move_5 (by decide) (fun c_5 => ?_) (fun c_5 => ?_)
    · exact absurd c_5 (nI_ge (b := 74) hi (by omega))
    · refine wp_aload_n (pc := 8) 1 dX7_move_8 rfl rfl ?_
      refine wp_iload_n (pc := 9) 2 dX7_move_9 rfl rfl ?_
      refine wp_aload_n (pc := 10) 0 dX7_move_10 rfl rfl ?_
      refine wp_iload_n (pc := 11) 2 dX7_move_11 rfl rfl ?_
      refine wq_iald (pc := 12) _ dX7_move_12 ha ha9 rfl (by omega) (by decide) ?_
      refine wp_int (y := I a i) (by rw [rwI_ne hne]) ?_
      refine wq_iast (pc := 13) i dX7_move_13 hb hb9 rfl (by omega) (by decide) ?_
      refine wp_incN (pc := 14) 2 dX7_move_14 rfl (by decide) rfl ?_
      refine wp_goto (pc := 17) 2 dX7_move_17 (by decide) ?_
      have nx := nx trivial
      rw [← rwI_s] at nx
      exact nx
  · refine wp_iload_n (pc := 2) 2 dX7_move_2 rfl rfl ?_
    refine wp_bipush (pc := 3) (74) dX7_move_3 (by decide) ?_
    refine wp_icmp_ge (pc := 5) 20 dX7_move_5 (by decide) (fun c_5 => ?_) (fun c_5 => ?_)
    · refine wp_ret (pc := 20) dX7_move_20 rfl ?_
      exact k
    · exact absurd (Int32.le_refl _) c_5
theorem Rw.mv {a b : Nat} {f : rw_} {I : Nat → Nat → Int32} (h : Rw a f I) : Rw b f (rwI I b (I a) 74) := fun j hj => (rwI_at hj).trans (h j hj)
theorem mv_lo {F I : Nat → Nat → Int32} {J : Nat → Nat → Int64} {b n : Nat} {g : Nat → Int32} (hb : 40 ≤ b) : Lo F I J F (rwI I b g n) J := fun a ha => ⟨rfl, rwI_ne (by omega), rfl⟩
theorem c_X7_image {d : Nat} {F I : Nat → Nat → Int32} {J : Nat → Nat → Int64} {Q : Option Value → sm_H → Prop} {s : Sg} (hM : MR s F I J) (ok : Ok s) (k : ∀ F1 I1 J1, MR (do_image s).2 F1 I1 J1 → Lo F I J F1 I1 J1 → Q (some (.int (do_image s).1)) (S0, F1, I1, J1)) : Wp mX7_image (d + 1) 0 0 0 (sm_ini [.ref 40] 1) [] (S0, F, I, J) Q := by
  show Wp _ _ _ _ _ [.ref 40] _ _ _
  have hw := ok.1
  have hR := hM.1
  have hn := hw.n
  have hcw := hw.c
  have hbn := bn_1024 hw
  have hbl := bn_lt hw
  have hp2 := p2n hw
  have hh1 := hw.wth
  have hh2 := hw.crk
  have hh3 := hw.year
  refine wp_aload_n (pc := 0) 0 dX7_image_0 rfl rfl ?_
  refine wq_getR (pc := 1) 13 0 dX7_image_1 s0_40 flX7_13 rfl rfl (by decide) (by decide) ?_
  refine wp_aload_n (pc := 4) 0 dX7_image_4 rfl rfl ?_
  refine wq_getR (pc := 5) 20 2 dX7_image_5 s0_40 flX7_20 rfl rfl (by decide) (by decide) ?_
  refine wc_S_RR (pc := 8) dX7_image_8 lkX7_128 (by decide) (Nat.le_of_ble_eq_true rfl) ?_
  refine c_X7_move (a := 41) (b := 43) s0_41 s0_43 (by decide) (by decide) (by decide) ?_
  refine wp_aload_n (pc := 11) 0 dX7_image_11 rfl rfl ?_
  refine wp_iconst (pc := 12) (1) dX7_image_12 (by decide) ?_
  refine wp_int (y := b2 true) rfl ?_
  refine wq_putB (pc := 13) 224 3 dX7_image_13 s0_40 flX7_224 rfl rfl (by decide) ?_
  refine wp_iconst (pc := 16) (1) dX7_image_16 (by decide) ?_
  refine wp_iretI (pc := 17) dX7_image_17 rfl ?_
  unfold do_image at k
  exact k _ _ _ (hM.k hR.mv (fun a ha => rwI_ne ha)) ((mv_lo (by decide)).uF (by decide))
theorem fgt7_y {hd : Nat → Option Nat} {zs : Nat → Nat} (ho : hok hd zs) {m s : Nat} (hm : m ≤ 6) (h : 10 + nI m ≤ eN (hd s)) : fgt m (hd s) = none := by
  cases e : hd s with
  | none =>
    rw [e] at h
    rw [show (10 : Int32) = nI 10 from rfl, nI_add] at h
    exact absurd h ((fun z => m1_lt (a := 10 + m) (by omega) z))
  | some k =>
    have hk := ho.lt k e
    rw [e, show (10 : Int32) = nI 10 from rfl, nI_add] at h
    have h2 := (nI_leI (by omega) (by omega)).mp h
    unfold fgt
    rw [show hrg (some k) = some (k - 10) from if_pos (by omega)]
    exact if_pos (by omega)
theorem fgt7_n {hd : Nat → Option Nat} {zs : Nat → Nat} (ho : hok hd zs) {m s : Nat} (hm : m ≤ 6) (h : ¬ 10 + nI m ≤ eN (hd s)) : fgt m (hd s) = hd s := by
  cases e : hd s with
  | none => rfl
  | some k =>
    have hk := ho.lt k e
    rw [e, show (10 : Int32) = nI 10 from rfl, nI_add] at h
    have h2 : ¬ 10 + m ≤ k := fun z => h (nI_le z (by omega))
    unfold fgt
    by_cases h10 : 10 ≤ k
    · rw [show hrg (some k) = some (k - 10) from if_pos h10]
      exact if_neg (by omega)
    · rw [show hrg (some k) = none from if_neg h10]
theorem c_X7_back {d : Nat} {F I : Nat → Nat → Int32} {J : Nat → Nat → Int64} {Q : Option Value → sm_H → Prop} {s : Sg} (hM : MR s F I J) (ok : Ok s) (k : ∀ F1 I1 J1, MR (do_back s).2 F1 I1 J1 → Lo F I J F1 I1 J1 → Q (some (.int (do_back s).1)) (S0, F1, I1, J1)) : Wp mX7_back (d + 1) 0 0 0 (sm_ini [.ref 40] 2) [] (S0, F, I, J) Q := by
  show Wp _ _ _ _ _ [.ref 40, .null] _ _ _
  have hw := ok.1
  have hR := hM.1
  have hn := hw.n
  have hcw := hw.c
  have hbn := bn_1024 hw
  have hbl := bn_lt hw
  have hp2 := p2n hw
  have hh1 := hw.wth
  have hh2 := hw.crk
  have hh3 := hw.year
  have hS := hM.2.2.2.2.2.1
  have ho := ok.2.2.2.2.1
  have hz := ok.2.2.1
  refine wp_aload_n (pc := 0) 0 dX7_back_0 rfl rfl ?_
  refine wq_getI (pc := 1) 224 3 dX7_back_1 s0_40 flX7_224 rfl (by decide) ?_
  refine wp_int hM.2.2.1 ?_
  refine wp_ifneB (pc := 4) 14 dX7_back_4 (by decide) (fun c_4 => ?_) (fun c_4 => ?_)
  · have hRk : Rw 41 (sgk s) (rwI I 41 (I 43) 74) := (hM.2.1 c_4).mv
    refine wp_aload_n (pc := 14) 0 dX7_back_14 rfl rfl ?_
    refine wq_getR (pc := 15) 20 2 dX7_back_15 s0_40 flX7_20 rfl rfl (by decide) (by decide) ?_
    refine wp_aload_n (pc := 18) 0 dX7_back_18 rfl rfl ?_
    refine wq_getR (pc := 19) 13 0 dX7_back_19 s0_40 flX7_13 rfl rfl (by decide) (by decide) ?_
    refine wc_S_RR (pc := 22) dX7_back_22 lkX7_128 (by decide) (Nat.le_of_ble_eq_true rfl) ?_
    refine c_X7_move (a := 43) (b := 41) s0_43 s0_41 (by decide) (by decide) (by decide) ?_
    refine wp_iconst (pc := 25) (0) dX7_back_25 (by decide) ?_
    refine wp_istore_n (pc := 26) 1 dX7_back_26 rfl (by decide) rfl ?_
    rw [← rwI_0 (rwI I 41 (I 43) 74) 47 (fun j => eN (fgt (sgk s 69) (sgh s j)))]
    refine wp_loop (fun i => [.ref 40, .int (nI i)]) (fun i => (S0, F, rwI (rwI I 41 (I 43) 74) 47 (fun j => eN (fgt (sgk s 69) (sgh s j))) i, J)) (fun i => True) 8 (fun i hi hv nx => ?_) (fun hv => ?_) 0 (by omega) trivial
    · have h47 : (rwI (rwI I 41 (I 43) 74) 47 (fun j => eN (fgt (sgk s 69) (sgh s j))) i) 47 i = eN (sgh s i) := by rw [rwI_ge (Nat.le_refl _), rwI_ne (by decide)]; exact hS.1 i hi
      have h69 : (rwI (rwI I 41 (I 43) 74) 47 (fun j => eN (fgt (sgk s 69) (sgh s j))) i) 41 69 = nI (sgk s 69) := by rw [rwI_ne (by decide)]; exact hRk 69 (by decide)
      have hk6 := ok.2.1.c
      refine wp_iload_n (pc := 27) 1 dX7_back_27 rfl rfl ?_
      refine wp_bipush (pc := 28) (8) dX7_back_28 (by decide) ?_
      refine wp_icmp_ge (pc := 30) 74 dX7_back_30 (by decide) (fun c_30 => ?_) (fun c_30 => ?_)
      · exact absurd c_30 (nI_ge (b := 8) hi (by omega))
      · refine wp_aload_n (pc := 33) 0 dX7_back_33 rfl rfl ?_
        refine wq_getR (pc := 34) 33 13 dX7_back_34 s0_40 flX7_33 rfl rfl (by decide) (by decide) ?_
        refine wp_iload_n (pc := 37) 1 dX7_back_37 rfl rfl ?_
        refine wp_aload_n (pc := 38) 0 dX7_back_38 rfl rfl ?_
        refine wq_getR (pc := 39) 33 13 dX7_back_39 s0_40 flX7_33 rfl rfl (by decide) (by decide) ?_
        refine wp_iload_n (pc := 42) 1 dX7_back_42 rfl rfl ?_
        refine wq_iald (pc := 43) i dX7_back_43 s0_47 (by decide) rfl hi (by decide) ?_
        refine wp_int h47 ?_
        refine wp_bipush (pc := 44) (10) dX7_back_44 (by decide) ?_
        refine wp_aload_n (pc := 46) 0 dX7_back_46 rfl rfl ?_
        refine wq_getR (pc := 47) 13 0 dX7_back_47 s0_40 flX7_13 rfl rfl (by decide) (by decide) ?_
        refine wp_bipush (pc := 50) (69) dX7_back_50 (by decide) ?_
        refine wq_iald (pc := 52) 69 dX7_back_52 s0_41 (by decide) rfl (by decide) (by decide) ?_
        refine wp_int h69 ?_
        refine wp_iadd (pc := 53) dX7_back_53 ?_
        refine wp_icmp_lt (pc := 54) 61 dX7_back_54 (by decide) (fun c_54 => ?_) (fun c_54 => ?_)
        · refine wp_aload_n (pc := 61) 0 dX7_back_61 rfl rfl ?_
          refine wq_getR (pc := 62) 33 13 dX7_back_62 s0_40 flX7_33 rfl rfl (by decide) (by decide) ?_
          refine wp_iload_n (pc := 65) 1 dX7_back_65 rfl rfl ?_
          refine wq_iald (pc := 66) i dX7_back_66 s0_47 (by decide) rfl hi (by decide) ?_
          refine wp_int (y := eN (fgt (sgk s 69) (sgh s i))) (by rw [fgt7_n ho hk6 (Int32.not_le.mpr c_54)]; exact h47) ?_
          refine wq_iast (pc := 67) i dX7_back_67 s0_47 (by decide) rfl hi (by decide) ?_
          refine wp_incN (pc := 68) 1 dX7_back_68 rfl (by decide) rfl ?_
          refine wp_goto (pc := 71) 27 dX7_back_71 (by decide) ?_
          have nx := nx trivial
          rw [← rwI_s] at nx
          exact nx
        · refine wp_iconst (pc := 57) (-1) dX7_back_57 (by decide) ?_
          refine wp_goto (pc := 58) 67 dX7_back_58 (by decide) ?_
          refine wp_int (y := eN (fgt (sgk s 69) (sgh s i))) (by rw [fgt7_y ho hk6 (Int32.not_lt.mp c_54)]; rfl) ?_
          refine wq_iast (pc := 67) i dX7_back_67 s0_47 (by decide) rfl hi (by decide) ?_
          refine wp_incN (pc := 68) 1 dX7_back_68 rfl (by decide) rfl ?_
          refine wp_goto (pc := 71) 27 dX7_back_71 (by decide) ?_
          have nx := nx trivial
          rw [← rwI_s] at nx
          exact nx
    · have hS2 : ShR 47 (fun i => fgt (sgk s 69) (sgh s i)) (sgs s) (sge s) (rwI (rwI I 41 (I 43) 74) 47 (fun j => eN (fgt (sgk s 69) (sgh s j))) 8) J := ⟨fun x hx => rwI_at hx, fun x hx => by rw [rwI_ne (by decide), rwI_ne (by decide)]; exact hS.2.1 x hx, hS.2.2⟩
      refine wp_iload_n (pc := 27) 1 dX7_back_27 rfl rfl ?_
      refine wp_bipush (pc := 28) (8) dX7_back_28 (by decide) ?_
      refine wp_icmp_ge (pc := 30) 74 dX7_back_30 (by decide) (fun c_30 => ?_) (fun c_30 => ?_)
      · refine wp_iconst (pc := 74) (1) dX7_back_74 (by decide) ?_
        refine wp_iretI (pc := 75) dX7_back_75 rfl ?_
        unfold do_back at k
        rw [gat_t (c := sgb s) c_4] at k
        exact k _ _ _ ((hM.f hRk (fun a ha => rwI_ne ha)).sh hS2 (fun a h1 h2 => rwI_ne h1)) ((mv_lo (by decide)).tr (mv_lo (by decide)))
      · exact absurd (Int32.le_refl _) c_30
  · refine wp_aload_n (pc := 7) 0 dX7_back_7 rfl rfl ?_
    refine wp_bipush (pc := 8) (-5) dX7_back_8 (by decide) ?_
    refine wc_V_I (pc := 10) dX7_back_10 lkX7_81 (sm_Rc.o (ci := 6) s0_40 (by decide) (by decide)) (by decide) (Nat.le_of_ble_eq_true rfl) ?_
    refine c_X7_no_3 ?_
    refine wp_iretI (pc := 13) dX7_back_13 rfl ?_
    unfold do_back at k
    rw [gat_f (c := sgb s) c_4] at k
    exact k _ _ _ (hM.bmp (by decide)) (Lo.rf.uI (by decide))
theorem c_X7_draw {d : Nat} {F I : Nat → Nat → Int32} {J : Nat → Nat → Int64} {Q : Option Value → sm_H → Prop} {f : rw_} (hw : WF f) (hR : Rw 41 f I) {n : Nat} (h0 : 0 < n) (hn1 : n ≤ 100) (k : ∀ I1 : Nat → Nat → Int32, Rw 41 (fu f 73 (sd (f 73))) I1 → RF I I1 → Q (some (.int (nI (dr (f 73) n)))) (S0, F, I1, J)) : Wp mX7_draw (d) 0 0 0 (sm_ini [.ref 40, .int (nI n)] 2) [] (S0, F, I, J) Q := by
  show Wp _ _ _ _ _ [.ref 40, .int (nI n)] _ _ _
  refine wp_aload_n (pc := 0) 0 dX7_draw_0 rfl rfl ?_
  refine wq_getR (pc := 1) 13 0 dX7_draw_1 s0_40 flX7_13 rfl rfl (by decide) (by decide) ?_
  refine wp_bipush (pc := 4) (73) dX7_draw_4 (by decide) ?_
  refine wp_aload_n (pc := 6) 0 dX7_draw_6 rfl rfl ?_
  refine wq_getR (pc := 7) 13 0 dX7_draw_7 s0_40 flX7_13 rfl rfl (by decide) (by decide) ?_
  refine wp_bipush (pc := 10) (73) dX7_draw_10 (by decide) ?_
  refine wq_iald (pc := 12) 73 dX7_draw_12 s0_41 (by decide) rfl (by decide) (by decide) ?_
  refine wp_int (hR.at (by decide)) ?_
  refine wp_ldc (pc := 13) _ dX7_draw_13 koX7_217 ?_
  refine wp_imul (pc := 15) dX7_draw_15 ?_
  refine wp_sipush (pc := 16) (12345) dX7_draw_16 (by decide) ?_
  refine wp_iadd (pc := 19) dX7_draw_19 ?_
  refine wp_int (sd_nI _) ?_
  refine wq_iast (pc := 20) 73 dX7_draw_20 s0_41 (by decide) rfl (by decide) (by decide) ?_
  refine wp_aload_n (pc := 21) 0 dX7_draw_21 rfl rfl ?_
  refine wq_getR (pc := 22) 13 0 dX7_draw_22 s0_40 flX7_13 rfl rfl (by decide) (by decide) ?_
  refine wp_bipush (pc := 25) (73) dX7_draw_25 (by decide) ?_
  refine wq_iald (pc := 27) 73 dX7_draw_27 s0_41 (by decide) rfl (by decide) (by decide) ?_
  refine wp_int up_eq ?_
  refine wp_bipush (pc := 28) (16) dX7_draw_28 (by decide) ?_
  refine wp_iushr (pc := 30) dX7_draw_30 ?_
  refine wp_int (pk_ushrN (sd_lt _) 16 16 (by rw [us16]; rfl)) ?_
  refine wp_iload_n (pc := 31) 1 dX7_draw_31 rfl rfl ?_
  refine wp_irem (pc := 32) dX7_draw_32 (nI_ne0 h0 (by omega)) ?_
  refine wp_int (y := nI (dr (f 73) n)) ((pk_rem (by have := sd_lt (f 73); omega) h0 (by omega)).trans (by rw [dr_eq])) ?_
  refine wp_iretI (pc := 33) dX7_draw_33 rfl ?_
  exact k _ (hR.u 73 (sd (f 73))) RF.rf.u
theorem c_X7_feed {d : Nat} {F I : Nat → Nat → Int32} {J : Nat → Nat → Int64} {Q : Option Value → sm_H → Prop} {x : Int32} {s : Sg} (hM : MR s F I J) (ok : Ok s) (k : ∀ F1 I1 J1, MR (do_feed s x).2 F1 I1 J1 → Lo F I J F1 I1 J1 → Q (some (.int (do_feed s x).1)) (S0, F1, I1, J1)) : Wp mX7_feed (d + 1) 0 0 0 (sm_ini [.ref 40, .int x] 2) [] (S0, F, I, J) Q := by
  show Wp _ _ _ _ _ [.ref 40, .int x] _ _ _
  have hw := ok.1
  have hR := hM.1
  have hn := hw.n
  have hcw := hw.c
  have hbn := bn_1024 hw
  have hbl := bn_lt hw
  have hp2 := p2n hw
  have hh1 := hw.wth
  have hh2 := hw.crk
  have hh3 := hw.year
  have hS := hM.2.2.2.2.2.1
  have ho := ok.2.2.2.2.1
  have hz := ok.2.2.1
  refine wp_iload_n (pc := 0) 1 dX7_feed_0 rfl rfl ?_
  refine wp_iconst (pc := 1) (0) dX7_feed_1 (by decide) ?_
  refine wp_sipush (pc := 2) (255) dX7_feed_2 (by decide) ?_
  refine wc_S_III (pc := 5) dX7_feed_5 lkX7_49 (by decide) (Nat.le_of_ble_eq_true rfl) ?_
  refine c_X7_isIn ?_
  refine wp_ifneB (pc := 8) 18 dX7_feed_8 (by decide) (fun c_8 => ?_) (fun c_8 => ?_)
  · obtain ⟨l, hl, rfl⟩ := (i32_le (n := 255) (by decide)).mp (of_decide_eq_true c_8)
    refine wp_aload_n (pc := 18) 0 dX7_feed_18 rfl rfl ?_
    refine wq_getI (pc := 19) 93 6 dX7_feed_19 s0_40 flX7_93 rfl (by decide) ?_
    refine wp_int hM.2.2.2.2.1.1 ?_
    refine wp_sipush (pc := 22) (250) dX7_feed_22 (by decide) ?_
    refine wp_icmp_ne (pc := 25) 35 dX7_feed_25 (by decide) (fun c_25 => ?_) (fun c_25 => ?_)
    · have hrm : sgz s < 250 := Nat.lt_of_le_of_ne hz (fun z => c_25 (by rw [z]; rfl))
      refine wp_aload_n (pc := 35) 0 dX7_feed_35 rfl rfl ?_
      refine wq_getR (pc := 36) 26 5 dX7_feed_36 s0_40 flX7_26 rfl rfl (by decide) (by decide) ?_
      refine wp_aload_n (pc := 39) 0 dX7_feed_39 rfl rfl ?_
      refine wq_getI (pc := 40) 93 6 dX7_feed_40 s0_40 flX7_93 rfl (by decide) ?_
      refine wp_int hM.2.2.2.2.1.1 ?_
      refine wp_iload_n (pc := 43) 1 dX7_feed_43 rfl rfl ?_
      refine wq_iast (pc := 44) (sgz s) dX7_feed_44 s0_45 (by decide) rfl hrm (by decide) ?_
      refine wp_aload_n (pc := 45) 0 dX7_feed_45 rfl rfl ?_
      refine wp_dup (pc := 46) dX7_feed_46 rfl ?_
      refine wq_getI (pc := 47) 93 6 dX7_feed_47 s0_40 flX7_93 rfl (by decide) ?_
      refine wp_int hM.2.2.2.2.1.1 ?_
      refine wp_iconst (pc := 50) (1) dX7_feed_50 (by decide) ?_
      refine wp_iadd (pc := 51) dX7_feed_51 ?_
      refine wp_int (nI_1 _) ?_
      refine wq_putI (pc := 52) 93 6 dX7_feed_52 s0_40 flX7_93 rfl rfl (by decide) ?_
      refine wp_aload_n (pc := 55) 0 dX7_feed_55 rfl rfl ?_
      refine wq_getI (pc := 56) 93 6 dX7_feed_56 s0_40 flX7_93 rfl (by decide) ?_
      refine wp_int up_eq ?_
      refine wp_iretI (pc := 59) dX7_feed_59 rfl ?_
      unfold do_feed at k
      rw [gat_t (c := (upB (nI l) 255)) c_8] at k
      rw [gat_t (c := (decide (sgz s < 250))) (decide_eq_true hrm)] at k
      rw [nI_clamp (by omega)] at k
      exact k _ _ _ (hM.t (up_nj (by decide)) up_eq (fun j hj => by
        by_cases e : j = sgz s
        · subst e; rw [up_eq, pu_eq]
        · rw [up_nj e, pu_ne e]; exact hM.2.2.2.2.1.2 j hj) (fun a ha _ => sm_up_ne ha)) ((Lo.rf.uI (by decide)).uF (by decide))
    · refine wp_aload_n (pc := 28) 0 dX7_feed_28 rfl rfl ?_
      refine wp_bipush (pc := 29) (-6) dX7_feed_29 (by decide) ?_
      refine wc_V_I (pc := 31) dX7_feed_31 lkX7_81 (sm_Rc.o (ci := 6) s0_40 (by decide) (by decide)) (by decide) (Nat.le_of_ble_eq_true rfl) ?_
      refine c_X7_no_4 ?_
      refine wp_iretI (pc := 34) dX7_feed_34 rfl ?_
      unfold do_feed at k
      rw [gat_t (c := (upB (nI l) 255)) c_8] at k
      rw [gat_f (c := (decide (sgz s < 250))) (decide_eq_false (fun z => absurd ((nI_eq (by omega) (by decide)).mp c_25) (show ¬ sgz s = 250 by omega)))] at k
      exact k _ _ _ (hM.bmp (by decide)) (Lo.rf.uI (by decide))
  · refine wp_aload_n (pc := 11) 0 dX7_feed_11 rfl rfl ?_
    refine wp_bipush (pc := 12) (-2) dX7_feed_12 (by decide) ?_
    refine wc_V_I (pc := 14) dX7_feed_14 lkX7_81 (sm_Rc.o (ci := 6) s0_40 (by decide) (by decide)) (by decide) (Nat.le_of_ble_eq_true rfl) ?_
    refine c_X7_no_0 ?_
    refine wp_iretI (pc := 17) dX7_feed_17 rfl ?_
    unfold do_feed at k
    rw [gat_f (c := (upB x 255)) c_8] at k
    exact k _ _ _ (hM.bmp (by decide)) (Lo.rf.uI (by decide))
theorem c_X7_wipe {d : Nat} {F I : Nat → Nat → Int32} {J : Nat → Nat → Int64} {Q : Option Value → sm_H → Prop} {s : Sg} (hM : MR s F I J) (ok : Ok s) (k : ∀ F1 I1 J1, MR (do_wipe s).2 F1 I1 J1 → Lo F I J F1 I1 J1 → Q (some (.int (do_wipe s).1)) (S0, F1, I1, J1)) : Wp mX7_wipe (d) 0 0 0 (sm_ini [.ref 40] 2) [] (S0, F, I, J) Q := by
  show Wp _ _ _ _ _ [.ref 40, .null] _ _ _
  have hw := ok.1
  have hR := hM.1
  have hn := hw.n
  have hcw := hw.c
  have hbn := bn_1024 hw
  have hbl := bn_lt hw
  have hp2 := p2n hw
  have hh1 := hw.wth
  have hh2 := hw.crk
  have hh3 := hw.year
  refine wp_aload_n (pc := 0) 0 dX7_wipe_0 rfl rfl ?_
  refine wq_getI (pc := 1) 93 6 dX7_wipe_1 s0_40 flX7_93 rfl (by decide) ?_
  refine wp_int hM.2.2.2.2.1.1 ?_
  refine wp_istore_n (pc := 4) 1 dX7_wipe_4 rfl (by decide) rfl ?_
  refine wp_aload_n (pc := 5) 0 dX7_wipe_5 rfl rfl ?_
  refine wp_iconst (pc := 6) (0) dX7_wipe_6 (by decide) ?_
  refine wq_putI (pc := 7) 93 6 dX7_wipe_7 s0_40 flX7_93 rfl rfl (by decide) ?_
  refine wp_iload_n (pc := 10) 1 dX7_wipe_10 rfl rfl ?_
  refine wp_iretI (pc := 11) dX7_wipe_11 rfl ?_
  unfold do_wipe at k
  exact k _ _ _ (hM.t (up_nj (by decide)) up_eq hM.2.2.2.2.1.2 (fun a _ _ => rfl)) (Lo.rf.uF (by decide))
