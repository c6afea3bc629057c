/-! ===== the reference: what it answers by loops ===== -/
theorem fst_sN {p : Nat → Bool} {k : Nat} (h : fst p k = none) (hp : p k = true) : fst p (k + 1) = some k := by
  rw [fst, h]
  simp [hp]
theorem fst_sF {p : Nat → Bool} {k : Nat} (hp : p k = false) : fst p (k + 1) = fst p k := by
  rw [fst]
  cases fst p k with
  | none => simp [hp]
  | some j => rfl
theorem fst_sS {p : Nat → Bool} {k j : Nat} (h : fst p k = some j) : fst p (k + 1) = some j := by
  rw [fst, h]
theorem up1 {x : Int32} (h : upB x 1 = true) (h2 : ¬ x = 1) : x = 0 := by
  obtain ⟨v, hv, rfl⟩ := (i32_le (n := 1) (by decide)).mp (of_decide_eq_true h)
  rcases (show v = 0 ∨ v = 1 by omega) with rfl | rfl
  · rfl
  · exact absurd rfl h2
theorem cnt_const {p : Nat → Bool} {a : Nat} : ∀ {k : Nat}, (∀ j, a ≤ j → j < a + k → p j = false) → cnt p (a + k) = cnt p a
  | 0, _ => rfl
  | k + 1, h => by
    rw [← Nat.add_assoc, cnt_f (h (a + k) (by omega) (by omega))]
    exact cnt_const fun j h1 h2 => h j h1 (by omega)
theorem pop_cnt {v k : Nat} (h : v < 2 ^ k) (hk : k ≤ 10) : cnt (fun j => v.testBit j) k = pop v := by
  have h2 := cnt_const (p := fun j => v.testBit j) (a := k) (k := 10 - k) (fun j h1 _ => bit_ge h h1)
  rw [show k + (10 - k) = 10 by omega] at h2
  rw [← h2]
  simp only [pop, cnt, List.range, List.range.loop, List.map, List.sum_cons, List.sum_nil]
  omega
theorem c_X7_up {d : Nat} {F I : Nat → Nat → Int32} {J : Nat → Nat → Int64} {Q : Option Value → sm_H → Prop} {x : Int32} {s : Sg} (hM : MR s F I J) (ok : Ok s) (k : ∀ F1 I1 J1, MR (do_up s x).2 F1 I1 J1 → Lo F I J F1 I1 J1 → Q (some (.int (do_up s x).1)) (S0, F1, I1, J1)) : Wp mX7_up (d + 2) 0 0 0 (sm_ini [.ref 40, .int x] 4) [] (S0, F, I, J) Q := by
  show Wp _ _ _ _ _ [.ref 40, .int x, .null, .null] _ _ _
  have hw := ok.1
  have hR := hM.1
  have hn := hw.n
  have hcw := hw.c
  have hbn := bn_1024 hw
  have hbl := bn_lt hw
  have hp2 := p2n hw
  have hh1 := hw.wth
  have hh2 := hw.crk
  have hh3 := hw.year
  refine wp_aload_n (pc := 0) 0 dX7_up_0 rfl rfl ?_
  refine wp_iload_n (pc := 1) 1 dX7_up_1 rfl rfl ?_
  refine wc_V_I (pc := 2) dX7_up_2 lkX7_90 (sm_Rc.o (ci := 6) s0_40 (by decide) (by decide)) (by decide) (Nat.le_of_ble_eq_true rfl) ?_
  refine c_X7_isThing hw hR ?_
  refine wp_ifneB (pc := 5) 15 dX7_up_5 (by decide) (fun c_5 => ?_) (fun c_5 => ?_)
  · obtain ⟨a, ha0, rfl⟩ := (i32_in (by omega)).mp (of_decide_eq_true c_5)
    have ha : a < 10 := by omega
    refine wp_iconst (pc := 15) (0) dX7_up_15 (by decide) ?_
    refine wp_istore_n (pc := 16) 2 dX7_up_16 rfl (by decide) rfl ?_
    refine wp_iconst (pc := 17) (0) dX7_up_17 (by decide) ?_
    refine wp_istore_n (pc := 18) 3 dX7_up_18 rfl (by decide) rfl ?_
    unfold do_up at k
    rw [qry_t (c := (isTh s (nI a))) c_5] at k
    rw [nI_clamp (by omega)] at k
    refine wp_loop (fun i => [.ref 40, .int (nI a), .int (nI (col (fun j => (down (sgf s) j).testBit a) i)), .int (nI i)]) (fun i => (S0, F, I, J)) (fun i => True) (sgf s 68) (fun i hi hv nx => ?_) (fun hv => ?_) 0 (Nat.zero_le _) trivial
    · have hdl := down_1024 hw (i := i) (by omega)
      refine wp_iload_n (pc := 19) 3 dX7_up_19 rfl rfl ?_
      refine wp_aload_n (pc := 20) 0 dX7_up_20 rfl rfl ?_
      refine wc_V_ (pc := 21) dX7_up_21 lkX7_57 (sm_Rc.o (ci := 6) s0_40 (by decide) (by decide)) (by decide) (Nat.le_of_ble_eq_true rfl) ?_
      refine c_X7_many hw hR ?_
      refine wp_icmp_ge (pc := 24) 56 dX7_up_24 (by decide) (fun c_24 => ?_) (fun c_24 => ?_)
      · exact absurd c_24 (nI_ge (b := sgf s 68) hi (by omega))
      · refine wp_iload_n (pc := 27) 2 dX7_up_27 rfl rfl ?_
        refine wp_aload_n (pc := 28) 0 dX7_up_28 rfl rfl ?_
        refine wp_iload_n (pc := 29) 3 dX7_up_29 rfl rfl ?_
        refine wc_V_I (pc := 30) dX7_up_30 lkX7_177 (sm_Rc.o (ci := 6) s0_40 (by decide) (by decide)) (by decide) (Nat.le_of_ble_eq_true rfl) ?_
        refine c_X7_downOf hw hR (by omega) ?_
        refine wp_iload_n (pc := 33) 1 dX7_up_33 rfl rfl ?_
        refine wp_ishr (pc := 34) dX7_up_34 ?_
        refine wp_iconst (pc := 35) (1) dX7_up_35 (by decide) ?_
        refine wp_iand (pc := 36) dX7_up_36 ?_
        refine wp_int (bt_bit (by omega) (by omega)) ?_
        refine wp_iconst (pc := 37) (1) dX7_up_37 (by decide) ?_
        refine wp_icmp_ne1 (pc := 38) 47 dX7_up_38 (by decide) (fun c_38 => ?_) (fun c_38 => ?_)
        · refine wp_iconst (pc := 47) (0) dX7_up_47 (by decide) ?_
          refine wp_ior (pc := 48) dX7_up_48 ?_
          refine wp_int (or0 _) ?_
          refine wp_istore_n (pc := 49) 2 dX7_up_49 rfl (by decide) rfl ?_
          refine wp_incN (pc := 50) 3 dX7_up_50 rfl (by decide) rfl ?_
          refine wp_goto (pc := 53) 19 dX7_up_53 (by decide) ?_
          have nx := nx trivial
          rw [col_f (p := (fun j => (down (sgf s) j).testBit a)) c_38] at nx
          exact nx
        · refine wp_iconst (pc := 41) (1) dX7_up_41 (by decide) ?_
          refine wp_iload_n (pc := 42) 3 dX7_up_42 rfl rfl ?_
          refine wp_ishl (pc := 43) dX7_up_43 ?_
          refine wp_goto (pc := 44) 48 dX7_up_44 (by decide) ?_
          refine wp_int (bt_one (by omega)) ?_
          refine wp_ior (pc := 48) dX7_up_48 ?_
          refine wp_int (bt_or _ _) ?_
          refine wp_istore_n (pc := 49) 2 dX7_up_49 rfl (by decide) rfl ?_
          refine wp_incN (pc := 50) 3 dX7_up_50 rfl (by decide) rfl ?_
          refine wp_goto (pc := 53) 19 dX7_up_53 (by decide) ?_
          have nx := nx trivial
          rw [show col (fun j => (down (sgf s) j).testBit a) (i + 1) = col (fun j => (down (sgf s) j).testBit a) i ||| 2 ^ i by rw [col, if_pos c_38]] at nx
          exact nx
    · refine wp_iload_n (pc := 19) 3 dX7_up_19 rfl rfl ?_
      refine wp_aload_n (pc := 20) 0 dX7_up_20 rfl rfl ?_
      refine wc_V_ (pc := 21) dX7_up_21 lkX7_57 (sm_Rc.o (ci := 6) s0_40 (by decide) (by decide)) (by decide) (Nat.le_of_ble_eq_true rfl) ?_
      refine c_X7_many hw hR ?_
      refine wp_icmp_ge (pc := 24) 56 dX7_up_24 (by decide) (fun c_24 => ?_) (fun c_24 => ?_)
      · refine wp_iload_n (pc := 56) 2 dX7_up_56 rfl rfl ?_
        refine wp_iretI (pc := 57) dX7_up_57 rfl ?_
        exact k _ _ _ hM Lo.rf
      · exact absurd (Int32.le_refl _) c_24
  · refine wp_aload_n (pc := 8) 0 dX7_up_8 rfl rfl ?_
    refine wp_bipush (pc := 9) (-2) dX7_up_9 (by decide) ?_
    refine wc_V_I (pc := 11) dX7_up_11 lkX7_81 (sm_Rc.o (ci := 6) s0_40 (by decide) (by decide)) (by decide) (Nat.le_of_ble_eq_true rfl) ?_
    refine c_X7_no_0 ?_
    refine wp_iretI (pc := 14) dX7_up_14 rfl ?_
    unfold do_up at k
    rw [qry_f (c := (isTh s x)) c_5] at k
    exact k _ _ _ (hM.bmp (by decide)) (Lo.rf.uI (by decide))
theorem c_X7_whose {d : Nat} {F I : Nat → Nat → Int32} {J : Nat → Nat → Int64} {Q : Option Value → sm_H → Prop} {x : Int32} {s : Sg} (hM : MR s F I J) (ok : Ok s) (k : ∀ F1 I1 J1, MR (do_whose s x).2 F1 I1 J1 → Lo F I J F1 I1 J1 → Q (some (.int (do_whose s x).1)) (S0, F1, I1, J1)) : Wp mX7_whose (d + 4) 0 0 0 (sm_ini [.ref 40, .int x] 4) [] (S0, F, I, J) Q := by
  show Wp _ _ _ _ _ [.ref 40, .int x, .null, .null] _ _ _
  have hw := ok.1
  have hR := hM.1
  have hn := hw.n
  have hcw := hw.c
  have hbn := bn_1024 hw
  have hbl := bn_lt hw
  have hp2 := p2n hw
  have hh1 := hw.wth
  have hh2 := hw.crk
  have hh3 := hw.year
  refine wp_iload_n (pc := 0) 1 dX7_whose_0 rfl rfl ?_
  refine wp_iconst (pc := 1) (0) dX7_whose_1 (by decide) ?_
  refine wp_bipush (pc := 2) (99) dX7_whose_2 (by decide) ?_
  refine wc_S_III (pc := 4) dX7_whose_4 lkX7_49 (by decide) (Nat.le_of_ble_eq_true rfl) ?_
  refine c_X7_isIn ?_
  refine wp_ifneB (pc := 7) 17 dX7_whose_7 (by decide) (fun c_7 => ?_) (fun c_7 => ?_)
  · obtain ⟨v, hv, rfl⟩ := (i32_le (n := 99) (by decide)).mp (of_decide_eq_true c_7)
    refine wp_iconst (pc := 17) (0) dX7_whose_17 (by decide) ?_
    refine wp_istore_n (pc := 18) 2 dX7_whose_18 rfl (by decide) rfl ?_
    refine wp_iconst (pc := 19) (0) dX7_whose_19 (by decide) ?_
    refine wp_istore_n (pc := 20) 3 dX7_whose_20 rfl (by decide) rfl ?_
    unfold do_whose at k
    rw [qry_t (c := (upB (nI v) 99)) c_7] at k
    rw [nI_clamp (by omega)] at k
    refine wp_loop (fun i => [.ref 40, .int (nI v), .int (nI (col (fun j => decide (v ≤ slp (sgf s) j)) i)), .int (nI i)]) (fun i => (S0, F, I, J)) (fun i => True) (sgf s 69) (fun i hi hv nx => ?_) (fun hv => ?_) 0 (Nat.zero_le _) trivial
    · have hsl := slp_le hw (r := i) (by omega)
      refine wp_iload_n (pc := 21) 3 dX7_whose_21 rfl rfl ?_
      refine wp_aload_n (pc := 22) 0 dX7_whose_22 rfl rfl ?_
      refine wq_getR (pc := 23) 13 0 dX7_whose_23 s0_40 flX7_13 rfl rfl (by decide) (by decide) ?_
      refine wp_bipush (pc := 26) (69) dX7_whose_26 (by decide) ?_
      refine wq_iald (pc := 28) 69 dX7_whose_28 s0_41 (by decide) rfl (by decide) (by decide) ?_
      refine wp_int (hR.at (by decide)) ?_
      refine wp_icmp_ge (pc := 29) 57 dX7_whose_29 (by decide) (fun c_29 => ?_) (fun c_29 => ?_)
      · exact absurd c_29 (nI_ge (b := sgf s 69) hi (by omega))
      · refine wp_iload_n (pc := 32) 2 dX7_whose_32 rfl rfl ?_
        refine wp_aload_n (pc := 33) 0 dX7_whose_33 rfl rfl ?_
        refine wp_iload_n (pc := 34) 3 dX7_whose_34 rfl rfl ?_
        refine wc_V_I (pc := 35) dX7_whose_35 lkX7_158 (sm_Rc.o (ci := 6) s0_40 (by decide) (by decide)) (by decide) (Nat.le_of_ble_eq_true rfl) ?_
        refine c_X7_slip hw hR (by omega) ?_
        refine wp_iload_n (pc := 38) 1 dX7_whose_38 rfl rfl ?_
        refine wp_icmp_lt (pc := 39) 48 dX7_whose_39 (by decide) (fun c_39 => ?_) (fun c_39 => ?_)
        · refine wp_iconst (pc := 48) (0) dX7_whose_48 (by decide) ?_
          refine wp_ior (pc := 49) dX7_whose_49 ?_
          refine wp_int (or0 _) ?_
          refine wp_istore_n (pc := 50) 2 dX7_whose_50 rfl (by decide) rfl ?_
          refine wp_incN (pc := 51) 3 dX7_whose_51 rfl (by decide) rfl ?_
          refine wp_goto (pc := 54) 21 dX7_whose_54 (by decide) ?_
          have nx := nx trivial
          rw [col_f (p := (fun j => decide (v ≤ slp (sgf s) j))) (decide_eq_false (fun z => nI_nlt z (by omega) c_39))] at nx
          exact nx
        · refine wp_iconst (pc := 42) (1) dX7_whose_42 (by decide) ?_
          refine wp_iload_n (pc := 43) 3 dX7_whose_43 rfl rfl ?_
          refine wp_ishl (pc := 44) dX7_whose_44 ?_
          refine wp_goto (pc := 45) 49 dX7_whose_45 (by decide) ?_
          refine wp_int (bt_one (by omega)) ?_
          refine wp_ior (pc := 49) dX7_whose_49 ?_
          refine wp_int (bt_or _ _) ?_
          refine wp_istore_n (pc := 50) 2 dX7_whose_50 rfl (by decide) rfl ?_
          refine wp_incN (pc := 51) 3 dX7_whose_51 rfl (by decide) rfl ?_
          refine wp_goto (pc := 54) 21 dX7_whose_54 (by decide) ?_
          have nx := nx trivial
          rw [show col (fun j => decide (v ≤ slp (sgf s) j)) (i + 1) = col (fun j => decide (v ≤ slp (sgf s) j)) i ||| 2 ^ i by rw [col, if_pos (decide_eq_true (Nat.le_of_not_lt fun z => c_39 (nI_lt z (by omega))))]] at nx
          exact nx
    · refine wp_iload_n (pc := 21) 3 dX7_whose_21 rfl rfl ?_
      refine wp_aload_n (pc := 22) 0 dX7_whose_22 rfl rfl ?_
      refine wq_getR (pc := 23) 13 0 dX7_whose_23 s0_40 flX7_13 rfl rfl (by decide) (by decide) ?_
      refine wp_bipush (pc := 26) (69) dX7_whose_26 (by decide) ?_
      refine wq_iald (pc := 28) 69 dX7_whose_28 s0_41 (by decide) rfl (by decide) (by decide) ?_
      refine wp_int (hR.at (by decide)) ?_
      refine wp_icmp_ge (pc := 29) 57 dX7_whose_29 (by decide) (fun c_29 => ?_) (fun c_29 => ?_)
      · refine wp_iload_n (pc := 57) 2 dX7_whose_57 rfl rfl ?_
        refine wp_iretI (pc := 58) dX7_whose_58 rfl ?_
        exact k _ _ _ hM Lo.rf
      · exact absurd (Int32.le_refl _) c_29
  · refine wp_aload_n (pc := 10) 0 dX7_whose_10 rfl rfl ?_
    refine wp_bipush (pc := 11) (-2) dX7_whose_11 (by decide) ?_
    refine wc_V_I (pc := 13) dX7_whose_13 lkX7_81 (sm_Rc.o (ci := 6) s0_40 (by decide) (by decide)) (by decide) (Nat.le_of_ble_eq_true rfl) ?_
    refine c_X7_no_0 ?_
    refine wp_iretI (pc := 16) dX7_whose_16 rfl ?_
    unfold do_whose at k
    rw [qry_f (c := (upB x 99)) c_7] at k
    exact k _ _ _ (hM.bmp (by decide)) (Lo.rf.uI (by decide))
theorem c_X7_ofKind {d : Nat} {F I : Nat → Nat → Int32} {J : Nat → Nat → Int64} {Q : Option Value → sm_H → Prop} {x : Int32} {s : Sg} (hM : MR s F I J) (ok : Ok s) (k : ∀ F1 I1 J1, MR (do_ofKind s x).2 F1 I1 J1 → Lo F I J F1 I1 J1 → Q (some (.int (do_ofKind s x).1)) (S0, F1, I1, J1)) : Wp mX7_ofKind (d + 1) 0 0 0 (sm_ini [.ref 40, .int x] 4) [] (S0, F, I, J) Q := by
  show Wp _ _ _ _ _ [.ref 40, .int x, .null, .null] _ _ _
  have hw := ok.1
  have hR := hM.1
  have hn := hw.n
  have hcw := hw.c
  have hbn := bn_1024 hw
  have hbl := bn_lt hw
  have hp2 := p2n hw
  have hh1 := hw.wth
  have hh2 := hw.crk
  have hh3 := hw.year
  refine wp_iload_n (pc := 0) 1 dX7_ofKind_0 rfl rfl ?_
  refine wp_iconst (pc := 1) (0) dX7_ofKind_1 (by decide) ?_
  refine wp_iconst (pc := 2) (5) dX7_ofKind_2 (by decide) ?_
  refine wc_S_III (pc := 3) dX7_ofKind_3 lkX7_49 (by decide) (Nat.le_of_ble_eq_true rfl) ?_
  refine c_X7_isIn ?_
  refine wp_ifneB (pc := 6) 16 dX7_ofKind_6 (by decide) (fun c_6 => ?_) (fun c_6 => ?_)
  · obtain ⟨v, hv, rfl⟩ := (i32_le (n := 5) (by decide)).mp (of_decide_eq_true c_6)
    refine wp_iconst (pc := 16) (0) dX7_ofKind_16 (by decide) ?_
    refine wp_istore_n (pc := 17) 2 dX7_ofKind_17 rfl (by decide) rfl ?_
    refine wp_iconst (pc := 18) (0) dX7_ofKind_18 (by decide) ?_
    refine wp_istore_n (pc := 19) 3 dX7_ofKind_19 rfl (by decide) rfl ?_
    unfold do_ofKind at k
    rw [qry_t (c := (upB (nI v) 5)) c_6] at k
    rw [nI_clamp (by omega)] at k
    refine wp_loop (fun i => [.ref 40, .int (nI v), .int (nI (cnt (fun j => decide (sgf s (50 + 3 * j) = v)) i)), .int (nI i)]) (fun i => (S0, F, I, J)) (fun i => True) (sgf s 69) (fun i hi hv nx => ?_) (fun hv => ?_) 0 (Nat.zero_le _) trivial
    · have hkd := hw.kind (r := i) (by omega)
      refine wp_iload_n (pc := 20) 3 dX7_ofKind_20 rfl rfl ?_
      refine wp_aload_n (pc := 21) 0 dX7_ofKind_21 rfl rfl ?_
      refine wq_getR (pc := 22) 13 0 dX7_ofKind_22 s0_40 flX7_13 rfl rfl (by decide) (by decide) ?_
      refine wp_bipush (pc := 25) (69) dX7_ofKind_25 (by decide) ?_
      refine wq_iald (pc := 27) 69 dX7_ofKind_27 s0_41 (by decide) rfl (by decide) (by decide) ?_
      refine wp_int (hR.at (by decide)) ?_
      refine wp_icmp_ge (pc := 28) 60 dX7_ofKind_28 (by decide) (fun c_28 => ?_) (fun c_28 => ?_)
      · exact absurd c_28 (nI_ge (b := sgf s 69) hi (by omega))
      · refine wp_iload_n (pc := 31) 2 dX7_ofKind_31 rfl rfl ?_
        refine wp_aload_n (pc := 32) 0 dX7_ofKind_32 rfl rfl ?_
        refine wq_getR (pc := 33) 13 0 dX7_ofKind_33 s0_40 flX7_13 rfl rfl (by decide) (by decide) ?_
        refine wp_bipush (pc := 36) (50) dX7_ofKind_36 (by decide) ?_
        refine wp_iconst (pc := 38) (3) dX7_ofKind_38 (by decide) ?_
        refine wp_iload_n (pc := 39) 3 dX7_ofKind_39 rfl rfl ?_
        refine wp_imul (pc := 40) dX7_ofKind_40 ?_
        refine wp_iadd (pc := 41) dX7_ofKind_41 ?_
        refine wq_iald (pc := 42) (50 + 3 * i) dX7_ofKind_42 s0_41 (by decide) (ix3 i) (by omega) (by decide) ?_
        refine wp_int (hR.at (by omega)) ?_
        refine wp_iload_n (pc := 43) 1 dX7_ofKind_43 rfl rfl ?_
        refine wp_icmp_ne (pc := 44) 51 dX7_ofKind_44 (by decide) (fun c_44 => ?_) (fun c_44 => ?_)
        · refine wp_iconst (pc := 51) (0) dX7_ofKind_51 (by decide) ?_
          refine wp_iadd (pc := 52) dX7_ofKind_52 ?_
          refine wp_int (add0 _) ?_
          refine wp_istore_n (pc := 53) 2 dX7_ofKind_53 rfl (by decide) rfl ?_
          refine wp_incN (pc := 54) 3 dX7_ofKind_54 rfl (by decide) rfl ?_
          refine wp_goto (pc := 57) 20 dX7_ofKind_57 (by decide) ?_
          have nx := nx trivial
          rw [cnt_f (p := (fun j => decide (sgf s (50 + 3 * j) = v))) (decide_eq_false (fun z => c_44 (by rw [z])))] at nx
          exact nx
        · refine wp_iconst (pc := 47) (1) dX7_ofKind_47 (by decide) ?_
          refine wp_goto (pc := 48) 52 dX7_ofKind_48 (by decide) ?_
          refine wp_iadd (pc := 52) dX7_ofKind_52 ?_
          refine wp_int (nI_1 _) ?_
          refine wp_istore_n (pc := 53) 2 dX7_ofKind_53 rfl (by decide) rfl ?_
          refine wp_incN (pc := 54) 3 dX7_ofKind_54 rfl (by decide) rfl ?_
          refine wp_goto (pc := 57) 20 dX7_ofKind_57 (by decide) ?_
          have nx := nx trivial
          rw [cnt_t (p := (fun j => decide (sgf s (50 + 3 * j) = v))) (decide_eq_true ((nI_eq (by omega) (by omega)).mp c_44))] at nx
          exact nx
    · refine wp_iload_n (pc := 20) 3 dX7_ofKind_20 rfl rfl ?_
      refine wp_aload_n (pc := 21) 0 dX7_ofKind_21 rfl rfl ?_
      refine wq_getR (pc := 22) 13 0 dX7_ofKind_22 s0_40 flX7_13 rfl rfl (by decide) (by decide) ?_
      refine wp_bipush (pc := 25) (69) dX7_ofKind_25 (by decide) ?_
      refine wq_iald (pc := 27) 69 dX7_ofKind_27 s0_41 (by decide) rfl (by decide) (by decide) ?_
      refine wp_int (hR.at (by decide)) ?_
      refine wp_icmp_ge (pc := 28) 60 dX7_ofKind_28 (by decide) (fun c_28 => ?_) (fun c_28 => ?_)
      · refine wp_iload_n (pc := 60) 2 dX7_ofKind_60 rfl rfl ?_
        refine wp_iretI (pc := 61) dX7_ofKind_61 rfl ?_
        exact k _ _ _ hM Lo.rf
      · exact absurd (Int32.le_refl _) c_28
  · refine wp_aload_n (pc := 9) 0 dX7_ofKind_9 rfl rfl ?_
    refine wp_bipush (pc := 10) (-2) dX7_ofKind_10 (by decide) ?_
    refine wc_V_I (pc := 12) dX7_ofKind_12 lkX7_81 (sm_Rc.o (ci := 6) s0_40 (by decide) (by decide)) (by decide) (Nat.le_of_ble_eq_true rfl) ?_
    refine c_X7_no_0 ?_
    refine wp_iretI (pc := 15) dX7_ofKind_15 rfl ?_
    unfold do_ofKind at k
    rw [qry_f (c := (upB x 5)) c_6] at k
    exact k _ _ _ (hM.bmp (by decide)) (Lo.rf.uI (by decide))
theorem c_X7_inWeather {d : Nat} {F I : Nat → Nat → Int32} {J : Nat → Nat → Int64} {Q : Option Value → sm_H → Prop} {x : Int32} {s : Sg} (hM : MR s F I J) (ok : Ok s) (k : ∀ F1 I1 J1, MR (do_inWeather s x).2 F1 I1 J1 → Lo F I J F1 I1 J1 → Q (some (.int (do_inWeather s x).1)) (S0, F1, I1, J1)) : Wp mX7_inWeather (d + 1) 0 0 0 (sm_ini [.ref 40, .int x] 4) [] (S0, F, I, J) Q := by
  show Wp _ _ _ _ _ [.ref 40, .int x, .null, .null] _ _ _
  have hw := ok.1
  have hR := hM.1
  have hn := hw.n
  have hcw := hw.c
  have hbn := bn_1024 hw
  have hbl := bn_lt hw
  have hp2 := p2n hw
  have hh1 := hw.wth
  have hh2 := hw.crk
  have hh3 := hw.year
  refine wp_iload_n (pc := 0) 1 dX7_inWeather_0 rfl rfl ?_
  refine wp_iconst (pc := 1) (0) dX7_inWeather_1 (by decide) ?_
  refine wp_iconst (pc := 2) (3) dX7_inWeather_2 (by decide) ?_
  refine wc_S_III (pc := 3) dX7_inWeather_3 lkX7_49 (by decide) (Nat.le_of_ble_eq_true rfl) ?_
  refine c_X7_isIn ?_
  refine wp_ifneB (pc := 6) 16 dX7_inWeather_6 (by decide) (fun c_6 => ?_) (fun c_6 => ?_)
  · obtain ⟨v, hv, rfl⟩ := (i32_le (n := 3) (by decide)).mp (of_decide_eq_true c_6)
    refine wp_iconst (pc := 16) (0) dX7_inWeather_16 (by decide) ?_
    refine wp_istore_n (pc := 17) 2 dX7_inWeather_17 rfl (by decide) rfl ?_
    refine wp_iconst (pc := 18) (0) dX7_inWeather_18 (by decide) ?_
    refine wp_istore_n (pc := 19) 3 dX7_inWeather_19 rfl (by decide) rfl ?_
    unfold do_inWeather at k
    rw [qry_t (c := (upB (nI v) 3)) c_6] at k
    rw [nI_clamp (by omega)] at k
    refine wp_loop (fun i => [.ref 40, .int (nI v), .int (nI (col (fun j => decide (sgf s (5 * j + 1) = v)) i)), .int (nI i)]) (fun i => (S0, F, I, J)) (fun i => True) (sgf s 68) (fun i hi hv nx => ?_) (fun hv => ?_) 0 (Nat.zero_le _) trivial
    · have hr := hw.rung (i := i) (by omega)
      refine wp_iload_n (pc := 20) 3 dX7_inWeather_20 rfl rfl ?_
      refine wp_aload_n (pc := 21) 0 dX7_inWeather_21 rfl rfl ?_
      refine wc_V_ (pc := 22) dX7_inWeather_22 lkX7_57 (sm_Rc.o (ci := 6) s0_40 (by decide) (by decide)) (by decide) (Nat.le_of_ble_eq_true rfl) ?_
      refine c_X7_many hw hR ?_
      refine wp_icmp_ge (pc := 25) 54 dX7_inWeather_25 (by decide) (fun c_25 => ?_) (fun c_25 => ?_)
      · exact absurd c_25 (nI_ge (b := sgf s 68) hi (by omega))
      · refine wp_iload_n (pc := 28) 2 dX7_inWeather_28 rfl rfl ?_
        refine wp_aload_n (pc := 29) 0 dX7_inWeather_29 rfl rfl ?_
        refine wp_iload_n (pc := 30) 3 dX7_inWeather_30 rfl rfl ?_
        refine wp_iconst (pc := 31) (1) dX7_inWeather_31 (by decide) ?_
        refine wc_V_II (pc := 32) dX7_inWeather_32 lkX7_53 (sm_Rc.o (ci := 6) s0_40 (by decide) (by decide)) (by decide) (Nat.le_of_ble_eq_true rfl) ?_
        refine c_X7_of (w := 1) hw hR (by omega) ?_
        refine wp_iload_n (pc := 35) 1 dX7_inWeather_35 rfl rfl ?_
        refine wp_icmp_ne (pc := 36) 45 dX7_inWeather_36 (by decide) (fun c_36 => ?_) (fun c_36 => ?_)
        · refine wp_iconst (pc := 45) (0) dX7_inWeather_45 (by decide) ?_
          refine wp_ior (pc := 46) dX7_inWeather_46 ?_
          refine wp_int (or0 _) ?_
          refine wp_istore_n (pc := 47) 2 dX7_inWeather_47 rfl (by decide) rfl ?_
          refine wp_incN (pc := 48) 3 dX7_inWeather_48 rfl (by decide) rfl ?_
          refine wp_goto (pc := 51) 20 dX7_inWeather_51 (by decide) ?_
          have nx := nx trivial
          rw [col_f (p := (fun j => decide (sgf s (5 * j + 1) = v))) (decide_eq_false (fun z => c_36 (by rw [z])))] at nx
          exact nx
        · refine wp_iconst (pc := 39) (1) dX7_inWeather_39 (by decide) ?_
          refine wp_iload_n (pc := 40) 3 dX7_inWeather_40 rfl rfl ?_
          refine wp_ishl (pc := 41) dX7_inWeather_41 ?_
          refine wp_goto (pc := 42) 46 dX7_inWeather_42 (by decide) ?_
          refine wp_int (bt_one (by omega)) ?_
          refine wp_ior (pc := 46) dX7_inWeather_46 ?_
          refine wp_int (bt_or _ _) ?_
          refine wp_istore_n (pc := 47) 2 dX7_inWeather_47 rfl (by decide) rfl ?_
          refine wp_incN (pc := 48) 3 dX7_inWeather_48 rfl (by decide) rfl ?_
          refine wp_goto (pc := 51) 20 dX7_inWeather_51 (by decide) ?_
          have nx := nx trivial
          rw [show col (fun j => decide (sgf s (5 * j + 1) = v)) (i + 1) = col (fun j => decide (sgf s (5 * j + 1) = v)) i ||| 2 ^ i by rw [col, if_pos (decide_eq_true ((nI_eq (by omega) (by omega)).mp c_36))]] at nx
          exact nx
    · refine wp_iload_n (pc := 20) 3 dX7_inWeather_20 rfl rfl ?_
      refine wp_aload_n (pc := 21) 0 dX7_inWeather_21 rfl rfl ?_
      refine wc_V_ (pc := 22) dX7_inWeather_22 lkX7_57 (sm_Rc.o (ci := 6) s0_40 (by decide) (by decide)) (by decide) (Nat.le_of_ble_eq_true rfl) ?_
      refine c_X7_many hw hR ?_
      refine wp_icmp_ge (pc := 25) 54 dX7_inWeather_25 (by decide) (fun c_25 => ?_) (fun c_25 => ?_)
      · refine wp_iload_n (pc := 54) 2 dX7_inWeather_54 rfl rfl ?_
        refine wp_iretI (pc := 55) dX7_inWeather_55 rfl ?_
        exact k _ _ _ hM Lo.rf
      · exact absurd (Int32.le_refl _) c_25
  · refine wp_aload_n (pc := 9) 0 dX7_inWeather_9 rfl rfl ?_
    refine wp_bipush (pc := 10) (-2) dX7_inWeather_10 (by decide) ?_
    refine wc_V_I (pc := 12) dX7_inWeather_12 lkX7_81 (sm_Rc.o (ci := 6) s0_40 (by decide) (by decide)) (by decide) (Nat.le_of_ble_eq_true rfl) ?_
    refine c_X7_no_0 ?_
    refine wp_iretI (pc := 15) dX7_inWeather_15 rfl ?_
    unfold do_inWeather at k
    rw [qry_f (c := (upB x 3)) c_6] at k
    exact k _ _ _ (hM.bmp (by decide)) (Lo.rf.uI (by decide))
theorem c_X7_kinds {d : Nat} {F I : Nat → Nat → Int32} {J : Nat → Nat → Int64} {Q : Option Value → sm_H → Prop} {x y : Int32} {s : Sg} (hM : MR s F I J) (ok : Ok s) (k : ∀ F1 I1 J1, MR (do_kinds s x y).2 F1 I1 J1 → Lo F I J F1 I1 J1 → Q (some (.int (do_kinds s x y).1)) (S0, F1, I1, J1)) : Wp mX7_kinds (d + 3) 0 0 0 (sm_ini [.ref 40, .int x, .int y] 5) [] (S0, F, I, J) Q := by
  show Wp _ _ _ _ _ [.ref 40, .int x, .int y, .null, .null] _ _ _
  have hw := ok.1
  have hR := hM.1
  have hn := hw.n
  have hcw := hw.c
  have hbn := bn_1024 hw
  have hbl := bn_lt hw
  have hp2 := p2n hw
  have hh1 := hw.wth
  have hh2 := hw.crk
  have hh3 := hw.year
  refine wp_aload_n (pc := 0) 0 dX7_kinds_0 rfl rfl ?_
  refine wp_iload_n (pc := 1) 1 dX7_kinds_1 rfl rfl ?_
  refine wc_V_I (pc := 2) dX7_kinds_2 lkX7_155 (sm_Rc.o (ci := 6) s0_40 (by decide) (by decide)) (by decide) (Nat.le_of_ble_eq_true rfl) ?_
  refine c_X7_isRinger hw hR ?_
  refine wp_ifeqB (pc := 5) 18 dX7_kinds_5 (by decide) (fun c_5 => ?_) (fun c_5 => ?_)
  · refine wp_aload_n (pc := 18) 0 dX7_kinds_18 rfl rfl ?_
    refine wp_bipush (pc := 19) (-2) dX7_kinds_19 (by decide) ?_
    refine wc_V_I (pc := 21) dX7_kinds_21 lkX7_81 (sm_Rc.o (ci := 6) s0_40 (by decide) (by decide)) (by decide) (Nat.le_of_ble_eq_true rfl) ?_
    refine c_X7_no_0 ?_
    refine wp_iretI (pc := 24) dX7_kinds_24 rfl ?_
    unfold do_kinds at k
    rw [qry_f (c := (isRg s x && (upB y 99))) (and_f1 c_5)] at k
    exact k _ _ _ (hM.bmp (by decide)) (Lo.rf.uI (by decide))
  · have hc6 := hw.c
    obtain ⟨r, hr0, rfl⟩ := (i32_in (by omega)).mp (of_decide_eq_true c_5)
    have hr : r < 6 := by omega
    refine wp_iload_n (pc := 8) 2 dX7_kinds_8 rfl rfl ?_
    refine wp_iconst (pc := 9) (0) dX7_kinds_9 (by decide) ?_
    refine wp_bipush (pc := 10) (99) dX7_kinds_10 (by decide) ?_
    refine wc_S_III (pc := 12) dX7_kinds_12 lkX7_49 (by decide) (Nat.le_of_ble_eq_true rfl) ?_
    refine c_X7_isIn ?_
    refine wp_ifneB (pc := 15) 25 dX7_kinds_15 (by decide) (fun c_15 => ?_) (fun c_15 => ?_)
    · obtain ⟨v, hv, rfl⟩ := (i32_le (n := 99) (by decide)).mp (of_decide_eq_true c_15)
      refine wp_iconst (pc := 25) (0) dX7_kinds_25 (by decide) ?_
      refine wp_istore_n (pc := 26) 3 dX7_kinds_26 rfl (by decide) rfl ?_
      refine wp_iconst (pc := 27) (0) dX7_kinds_27 (by decide) ?_
      refine wp_istore (pc := 28) 4 dX7_kinds_28 (by decide) rfl ?_
      unfold do_kinds at k
      rw [qry_t (c := (isRg s (nI r) && (upB (nI v) 99))) (and_tt c_5 c_15)] at k
      rw [nI_clamp (by omega), nI_clamp (by omega)] at k
      refine wp_loop (fun i => [.ref 40, .int (nI r), .int (nI v), .int (nI (col (fun j => decide (slipN j (sgf s (50 + 3 * r + 1)) (sgf s (50 + 3 * r + 2)) (sgf s 72) = v)) i)), .int (nI i)]) (fun i => (S0, F, I, J)) (fun i => True) 6 (fun i hi hv nx => ?_) (fun hv => ?_) 0 (Nat.zero_le _) trivial
      · have hA := hw.a hr
        have hsl := slipN_le (kd := i) (b := sgf s (50 + 3 * r + 2)) (ck := sgf s 72) hA
        refine wp_iload (pc := 30) 4 dX7_kinds_30 rfl ?_
        refine wp_bipush (pc := 32) (6) dX7_kinds_32 (by decide) ?_
        refine wp_icmp_ge (pc := 34) 90 dX7_kinds_34 (by decide) (fun c_34 => ?_) (fun c_34 => ?_)
        · exact absurd c_34 (nI_ge (b := 6) hi (by omega))
        · refine wp_iload_n (pc := 37) 3 dX7_kinds_37 rfl rfl ?_
          refine wp_aload_n (pc := 38) 0 dX7_kinds_38 rfl rfl ?_
          refine wp_iload (pc := 39) 4 dX7_kinds_39 rfl ?_
          refine wp_aload_n (pc := 41) 0 dX7_kinds_41 rfl rfl ?_
          refine wq_getR (pc := 42) 13 0 dX7_kinds_42 s0_40 flX7_13 rfl rfl (by decide) (by decide) ?_
          refine wp_bipush (pc := 45) (50) dX7_kinds_45 (by decide) ?_
          refine wp_iconst (pc := 47) (3) dX7_kinds_47 (by decide) ?_
          refine wp_iload_n (pc := 48) 1 dX7_kinds_48 rfl rfl ?_
          refine wp_imul (pc := 49) dX7_kinds_49 ?_
          refine wp_iadd (pc := 50) dX7_kinds_50 ?_
          refine wp_iconst (pc := 51) (1) dX7_kinds_51 (by decide) ?_
          refine wp_iadd (pc := 52) dX7_kinds_52 ?_
          refine wq_iald (pc := 53) (50 + 3 * r + 1) dX7_kinds_53 s0_41 (by decide) ((congrArg (· + 1) (ix3 r)).trans (nI_1 _)) (by omega) (by decide) ?_
          refine wp_int (hR.at (by omega)) ?_
          refine wp_aload_n (pc := 54) 0 dX7_kinds_54 rfl rfl ?_
          refine wq_getR (pc := 55) 13 0 dX7_kinds_55 s0_40 flX7_13 rfl rfl (by decide) (by decide) ?_
          refine wp_bipush (pc := 58) (50) dX7_kinds_58 (by decide) ?_
          refine wp_iconst (pc := 60) (3) dX7_kinds_60 (by decide) ?_
          refine wp_iload_n (pc := 61) 1 dX7_kinds_61 rfl rfl ?_
          refine wp_imul (pc := 62) dX7_kinds_62 ?_
          refine wp_iadd (pc := 63) dX7_kinds_63 ?_
          refine wp_iconst (pc := 64) (2) dX7_kinds_64 (by decide) ?_
          refine wp_iadd (pc := 65) dX7_kinds_65 ?_
          refine wq_iald (pc := 66) (50 + 3 * r + 2) dX7_kinds_66 s0_41 (by decide) ((congrArg (· + 2) (ix3 r)).trans (nI_add _ 2)) (by omega) (by decide) ?_
          refine wp_int (hR.at (by omega)) ?_
          refine wc_V_III (pc := 67) dX7_kinds_67 lkX7_152 (sm_Rc.o (ci := 6) s0_40 (by decide) (by decide)) (by decide) (Nat.le_of_ble_eq_true rfl) ?_
          refine c_X7_slipBy hw hR hi (hw.a hr) (hw.bell hr) ?_
          refine wp_iload_n (pc := 70) 2 dX7_kinds_70 rfl rfl ?_
          refine wp_icmp_ne (pc := 71) 81 dX7_kinds_71 (by decide) (fun c_71 => ?_) (fun c_71 => ?_)
          · refine wp_iconst (pc := 81) (0) dX7_kinds_81 (by decide) ?_
            refine wp_ior (pc := 82) dX7_kinds_82 ?_
            refine wp_int (or0 _) ?_
            refine wp_istore_n (pc := 83) 3 dX7_kinds_83 rfl (by decide) rfl ?_
            refine wp_incN (pc := 84) 4 dX7_kinds_84 rfl (by decide) rfl ?_
            refine wp_goto (pc := 87) 30 dX7_kinds_87 (by decide) ?_
            have nx := nx trivial
            rw [col_f (p := (fun j => decide (slipN j (sgf s (50 + 3 * r + 1)) (sgf s (50 + 3 * r + 2)) (sgf s 72) = v))) (decide_eq_false (fun z => c_71 (by rw [z])))] at nx
            exact nx
          · refine wp_iconst (pc := 74) (1) dX7_kinds_74 (by decide) ?_
            refine wp_iload (pc := 75) 4 dX7_kinds_75 rfl ?_
            refine wp_ishl (pc := 77) dX7_kinds_77 ?_
            refine wp_goto (pc := 78) 82 dX7_kinds_78 (by decide) ?_
            refine wp_int (bt_one (by omega)) ?_
            refine wp_ior (pc := 82) dX7_kinds_82 ?_
            refine wp_int (bt_or _ _) ?_
            refine wp_istore_n (pc := 83) 3 dX7_kinds_83 rfl (by decide) rfl ?_
            refine wp_incN (pc := 84) 4 dX7_kinds_84 rfl (by decide) rfl ?_
            refine wp_goto (pc := 87) 30 dX7_kinds_87 (by decide) ?_
            have nx := nx trivial
            rw [show col (fun j => decide (slipN j (sgf s (50 + 3 * r + 1)) (sgf s (50 + 3 * r + 2)) (sgf s 72) = v)) (i + 1) = col (fun j => decide (slipN j (sgf s (50 + 3 * r + 1)) (sgf s (50 + 3 * r + 2)) (sgf s 72) = v)) i ||| 2 ^ i by rw [col, if_pos (decide_eq_true ((nI_eq (by omega) (by omega)).mp c_71))]] at nx
            exact nx
      · refine wp_iload (pc := 30) 4 dX7_kinds_30 rfl ?_
        refine wp_bipush (pc := 32) (6) dX7_kinds_32 (by decide) ?_
        refine wp_icmp_ge (pc := 34) 90 dX7_kinds_34 (by decide) (fun c_34 => ?_) (fun c_34 => ?_)
        · refine wp_iload_n (pc := 90) 3 dX7_kinds_90 rfl rfl ?_
          refine wp_iretI (pc := 91) dX7_kinds_91 rfl ?_
          exact k _ _ _ hM Lo.rf
        · exact absurd (Int32.le_refl _) c_34
    · refine wp_aload_n (pc := 18) 0 dX7_kinds_18 rfl rfl ?_
      refine wp_bipush (pc := 19) (-2) dX7_kinds_19 (by decide) ?_
      refine wc_V_I (pc := 21) dX7_kinds_21 lkX7_81 (sm_Rc.o (ci := 6) s0_40 (by decide) (by decide)) (by decide) (Nat.le_of_ble_eq_true rfl) ?_
      refine c_X7_no_0 ?_
      refine wp_iretI (pc := 24) dX7_kinds_24 rfl ?_
      unfold do_kinds at k
      rw [qry_f (c := (isRg s (nI r) && (upB y 99))) (and_f2 c_15)] at k
      exact k _ _ _ (hM.bmp (by decide)) (Lo.rf.uI (by decide))
theorem c_X7_ends {d : Nat} {F I : Nat → Nat → Int32} {J : Nat → Nat → Int64} {Q : Option Value → sm_H → Prop} {x : Int32} {s : Sg} (hM : MR s F I J) (ok : Ok s) (k : ∀ F1 I1 J1, MR (do_ends s x).2 F1 I1 J1 → Lo F I J F1 I1 J1 → Q (some (.int (do_ends s x).1)) (S0, F1, I1, J1)) : Wp mX7_ends (d + 1) 0 0 0 (sm_ini [.ref 40, .int x] 5) [] (S0, F, I, J) Q := by
  show Wp _ _ _ _ _ [.ref 40, .int x, .null, .null, .null] _ _ _
  have hw := ok.1
  have hR := hM.1
  have hn := hw.n
  have hcw := hw.c
  have hbn := bn_1024 hw
  have hbl := bn_lt hw
  have hp2 := p2n hw
  have hh1 := hw.wth
  have hh2 := hw.crk
  have hh3 := hw.year
  refine wp_iload_n (pc := 0) 1 dX7_ends_0 rfl rfl ?_
  refine wp_iconst (pc := 1) (0) dX7_ends_1 (by decide) ?_
  refine wp_iconst (pc := 2) (1) dX7_ends_2 (by decide) ?_
  refine wc_S_III (pc := 3) dX7_ends_3 lkX7_49 (by decide) (Nat.le_of_ble_eq_true rfl) ?_
  refine c_X7_isIn ?_
  refine wp_ifneB (pc := 6) 16 dX7_ends_6 (by decide) (fun c_6 => ?_) (fun c_6 => ?_)
  · refine wp_iconst (pc := 16) (0) dX7_ends_16 (by decide) ?_
    refine wp_istore_n (pc := 17) 2 dX7_ends_17 rfl (by decide) rfl ?_
    refine wp_iconst (pc := 18) (0) dX7_ends_18 (by decide) ?_
    refine wp_istore_n (pc := 19) 3 dX7_ends_19 rfl (by decide) rfl ?_
    refine wp_iconst (pc := 20) (0) dX7_ends_20 (by decide) ?_
    refine wp_istore (pc := 21) 4 dX7_ends_21 (by decide) rfl ?_
    unfold do_ends at k
    rw [qry_t (c := (upB x 1)) c_6] at k
    refine wp_loop (fun i => [.ref 40, .int x, .int (nI (orU (sgf s) i)), .int (nI (col (fun j => decide (sgf s (5 * j + 2) = 0)) i)), .int (nI i)]) (fun i => (S0, F, I, J)) (fun i => True) (sgf s 68) (fun i hi hv nx => ?_) (fun hv => ?_) 0 (Nat.zero_le _) trivial
    · have hO := hw.on10 (i := i) (by omega)
      refine wp_iload (pc := 23) 4 dX7_ends_23 rfl ?_
      refine wp_aload_n (pc := 25) 0 dX7_ends_25 rfl rfl ?_
      refine wc_V_ (pc := 26) dX7_ends_26 lkX7_57 (sm_Rc.o (ci := 6) s0_40 (by decide) (by decide)) (by decide) (Nat.le_of_ble_eq_true rfl) ?_
      refine c_X7_many hw hR ?_
      refine wp_icmp_ge (pc := 29) 69 dX7_ends_29 (by decide) (fun c_29 => ?_) (fun c_29 => ?_)
      · exact absurd c_29 (nI_ge (b := sgf s 68) hi (by omega))
      · refine wp_iload_n (pc := 32) 2 dX7_ends_32 rfl rfl ?_
        refine wp_aload_n (pc := 33) 0 dX7_ends_33 rfl rfl ?_
        refine wp_iload (pc := 34) 4 dX7_ends_34 rfl ?_
        refine wp_iconst (pc := 36) (2) dX7_ends_36 (by decide) ?_
        refine wc_V_II (pc := 37) dX7_ends_37 lkX7_53 (sm_Rc.o (ci := 6) s0_40 (by decide) (by decide)) (by decide) (Nat.le_of_ble_eq_true rfl) ?_
        refine c_X7_of (w := 2) hw hR (by omega) ?_
        refine wp_ior (pc := 40) dX7_ends_40 ?_
        refine wp_int (bt_or _ _) ?_
        refine wp_istore_n (pc := 41) 2 dX7_ends_41 rfl (by decide) rfl ?_
        refine wp_iload_n (pc := 42) 3 dX7_ends_42 rfl rfl ?_
        refine wp_aload_n (pc := 43) 0 dX7_ends_43 rfl rfl ?_
        refine wp_iload (pc := 44) 4 dX7_ends_44 rfl ?_
        refine wp_iconst (pc := 46) (2) dX7_ends_46 (by decide) ?_
        refine wc_V_II (pc := 47) dX7_ends_47 lkX7_53 (sm_Rc.o (ci := 6) s0_40 (by decide) (by decide)) (by decide) (Nat.le_of_ble_eq_true rfl) ?_
        refine c_X7_of (w := 2) hw hR (by omega) ?_
        refine wp_ifne (pc := 50) 60 dX7_ends_50 (by decide) (fun c_50 => ?_) (fun c_50 => ?_)
        · refine wp_iconst (pc := 60) (0) dX7_ends_60 (by decide) ?_
          refine wp_ior (pc := 61) dX7_ends_61 ?_
          refine wp_int (or0 _) ?_
          refine wp_istore_n (pc := 62) 3 dX7_ends_62 rfl (by decide) rfl ?_
          refine wp_incN (pc := 63) 4 dX7_ends_63 rfl (by decide) rfl ?_
          refine wp_goto (pc := 66) 23 dX7_ends_66 (by decide) ?_
          have nx := nx trivial
          rw [orU] at nx
          rw [col_f (p := (fun j => decide (sgf s (5 * j + 2) = 0))) (decide_eq_false (fun z => c_50 (by rw [z]; rfl)))] at nx
          exact nx
        · refine wp_iconst (pc := 53) (1) dX7_ends_53 (by decide) ?_
          refine wp_iload (pc := 54) 4 dX7_ends_54 rfl ?_
          refine wp_ishl (pc := 56) dX7_ends_56 ?_
          refine wp_goto (pc := 57) 61 dX7_ends_57 (by decide) ?_
          refine wp_int (bt_one (by omega)) ?_
          refine wp_ior (pc := 61) dX7_ends_61 ?_
          refine wp_int (bt_or _ _) ?_
          refine wp_istore_n (pc := 62) 3 dX7_ends_62 rfl (by decide) rfl ?_
          refine wp_incN (pc := 63) 4 dX7_ends_63 rfl (by decide) rfl ?_
          refine wp_goto (pc := 66) 23 dX7_ends_66 (by decide) ?_
          have nx := nx trivial
          rw [orU] at nx
          rw [show col (fun j => decide (sgf s (5 * j + 2) = 0)) (i + 1) = col (fun j => decide (sgf s (5 * j + 2) = 0)) i ||| 2 ^ i by rw [col, if_pos (decide_eq_true ((nI0 (by omega)).mp c_50))]] at nx
          exact nx
    · refine wp_iload (pc := 23) 4 dX7_ends_23 rfl ?_
      refine wp_aload_n (pc := 25) 0 dX7_ends_25 rfl rfl ?_
      refine wc_V_ (pc := 26) dX7_ends_26 lkX7_57 (sm_Rc.o (ci := 6) s0_40 (by decide) (by decide)) (by decide) (Nat.le_of_ble_eq_true rfl) ?_
      refine c_X7_many hw hR ?_
      refine wp_icmp_ge (pc := 29) 69 dX7_ends_29 (by decide) (fun c_29 => ?_) (fun c_29 => ?_)
      · refine wp_iload_n (pc := 69) 1 dX7_ends_69 rfl rfl ?_
        refine wp_iconst (pc := 70) (1) dX7_ends_70 (by decide) ?_
        refine wp_icmp_ne (pc := 71) 78 dX7_ends_71 (by decide) (fun c_71 => ?_) (fun c_71 => ?_)
        · refine wp_iconst (pc := 78) (1) dX7_ends_78 (by decide) ?_
          refine wp_aload_n (pc := 79) 0 dX7_ends_79 rfl rfl ?_
          refine wc_V_ (pc := 80) dX7_ends_80 lkX7_57 (sm_Rc.o (ci := 6) s0_40 (by decide) (by decide)) (by decide) (Nat.le_of_ble_eq_true rfl) ?_
          refine c_X7_many hw hR ?_
          refine wp_ishl (pc := 83) dX7_ends_83 ?_
          refine wp_iconst (pc := 84) (1) dX7_ends_84 (by decide) ?_
          refine wp_isub (pc := 85) dX7_ends_85 ?_
          refine wp_int (bt_all (by omega)) ?_
          refine wp_iload_n (pc := 86) 2 dX7_ends_86 rfl rfl ?_
          refine wp_iconst (pc := 87) (-1) dX7_ends_87 (by decide) ?_
          refine wp_ixor (pc := 88) dX7_ends_88 ?_
          refine wp_iand (pc := 89) dX7_ends_89 ?_
          refine wp_int (bt_dif _ _) ?_
          refine wp_iretI (pc := 90) dX7_ends_90 rfl ?_
          rw [if_pos (up1 c_6 c_71)] at k
          exact k _ _ _ hM Lo.rf
        · refine wp_iload_n (pc := 74) 3 dX7_ends_74 rfl rfl ?_
          refine wp_goto (pc := 75) 90 dX7_ends_75 (by decide) ?_
          refine wp_iretI (pc := 90) dX7_ends_90 rfl ?_
          rw [if_neg (fun z => absurd (z.symm.trans c_71) (by decide))] at k
          exact k _ _ _ hM Lo.rf
      · exact absurd (Int32.le_refl _) c_29
  · refine wp_aload_n (pc := 9) 0 dX7_ends_9 rfl rfl ?_
    refine wp_bipush (pc := 10) (-2) dX7_ends_10 (by decide) ?_
    refine wc_V_I (pc := 12) dX7_ends_12 lkX7_81 (sm_Rc.o (ci := 6) s0_40 (by decide) (by decide)) (by decide) (Nat.le_of_ble_eq_true rfl) ?_
    refine c_X7_no_0 ?_
    refine wp_iretI (pc := 15) dX7_ends_15 rfl ?_
    unfold do_ends at k
    rw [qry_f (c := (upB x 1)) c_6] at k
    exact k _ _ _ (hM.bmp (by decide)) (Lo.rf.uI (by decide))
theorem c_X7_once {d : Nat} {F I : Nat → Nat → Int32} {J : Nat → Nat → Int64} {Q : Option Value → sm_H → Prop} {x : Int32} {s : Sg} (hM : MR s F I J) (ok : Ok s) (k : ∀ F1 I1 J1, MR (do_once s x).2 F1 I1 J1 → Lo F I J F1 I1 J1 → Q (some (.int (do_once s x).1)) (S0, F1, I1, J1)) : Wp mX7_once (d + 5) 0 0 0 (sm_ini [.ref 40, .int x] 4) [] (S0, F, I, J) Q := by
  show Wp _ _ _ _ _ [.ref 40, .int x, .null, .null] _ _ _
  have hw := ok.1
  have hR := hM.1
  have hn := hw.n
  have hcw := hw.c
  have hbn := bn_1024 hw
  have hbl := bn_lt hw
  have hp2 := p2n hw
  have hh1 := hw.wth
  have hh2 := hw.crk
  have hh3 := hw.year
  refine wp_aload_n (pc := 0) 0 dX7_once_0 rfl rfl ?_
  refine wp_iload_n (pc := 1) 1 dX7_once_1 rfl rfl ?_
  refine wc_V_I (pc := 2) dX7_once_2 lkX7_162 (sm_Rc.o (ci := 6) s0_40 (by decide) (by decide)) (by decide) (Nat.le_of_ble_eq_true rfl) ?_
  refine c_X7_areRingers hw hR ?_
  refine wp_ifneB (pc := 5) 15 dX7_once_5 (by decide) (fun c_5 => ?_) (fun c_5 => ?_)
  · have hc6 := hw.c
    have hp6 : 2 ^ sgf s 69 ≤ 2 ^ 6 := Nat.pow_le_pow_right (by decide) hc6
    obtain ⟨b, hb0, rfl⟩ := (i32_in (by omega)).mp (of_decide_eq_true c_5)
    have hb : b < 64 := by omega
    refine wp_iconst (pc := 15) (0) dX7_once_15 (by decide) ?_
    refine wp_istore_n (pc := 16) 2 dX7_once_16 rfl (by decide) rfl ?_
    refine wp_iconst (pc := 17) (0) dX7_once_17 (by decide) ?_
    refine wp_istore_n (pc := 18) 3 dX7_once_18 rfl (by decide) rfl ?_
    unfold do_once at k
    rw [qry_t (c := (arRg s (nI b))) c_5] at k
    rw [nI_clamp (by omega)] at k
    refine wp_loop (fun i => [.ref 40, .int (nI b), .int (nI (onU (sgf s) b i)), .int (nI i)]) (fun i => (S0, F, I, J)) (fun i => True) (sgf s 69) (fun i hi hv nx => ?_) (fun hv => ?_) 0 (Nat.zero_le _) trivial
    · have hsl := slp_le hw (r := i) (by omega)
      have h57 := on1_le hw (k := i) (by omega) (dif b (2 ^ i))
      refine wp_iload_n (pc := 19) 3 dX7_once_19 rfl rfl ?_
      refine wp_aload_n (pc := 20) 0 dX7_once_20 rfl rfl ?_
      refine wq_getR (pc := 21) 13 0 dX7_once_21 s0_40 flX7_13 rfl rfl (by decide) (by decide) ?_
      refine wp_bipush (pc := 24) (69) dX7_once_24 (by decide) ?_
      refine wq_iald (pc := 26) 69 dX7_once_26 s0_41 (by decide) rfl (by decide) (by decide) ?_
      refine wp_int (hR.at (by decide)) ?_
      refine wp_icmp_ge (pc := 27) 72 dX7_once_27 (by decide) (fun c_27 => ?_) (fun c_27 => ?_)
      · exact absurd c_27 (nI_ge (b := sgf s 69) hi (by omega))
      · refine wp_iload_n (pc := 30) 2 dX7_once_30 rfl rfl ?_
        refine wp_iload_n (pc := 31) 1 dX7_once_31 rfl rfl ?_
        refine wp_iload_n (pc := 32) 3 dX7_once_32 rfl rfl ?_
        refine wp_ishr (pc := 33) dX7_once_33 ?_
        refine wp_iconst (pc := 34) (1) dX7_once_34 (by decide) ?_
        refine wp_iand (pc := 35) dX7_once_35 ?_
        refine wp_int (bt_bit (by omega) (by omega)) ?_
        refine wp_iconst (pc := 36) (1) dX7_once_36 (by decide) ?_
        refine wp_icmp_ne1 (pc := 37) 63 dX7_once_37 (by decide) (fun c_37 => ?_) (fun c_37 => ?_)
        · refine wp_iconst (pc := 63) (0) dX7_once_63 (by decide) ?_
          refine wp_iadd (pc := 64) dX7_once_64 ?_
          refine wp_int (add0 _) ?_
          refine wp_istore_n (pc := 65) 2 dX7_once_65 rfl (by decide) rfl ?_
          refine wp_incN (pc := 66) 3 dX7_once_66 rfl (by decide) rfl ?_
          refine wp_goto (pc := 69) 19 dX7_once_69 (by decide) ?_
          have nx := nx trivial
          rw [onU_f c_37] at nx
          exact nx
        · refine wp_aload_n (pc := 40) 0 dX7_once_40 rfl rfl ?_
          refine wp_iload_n (pc := 41) 3 dX7_once_41 rfl rfl ?_
          refine wc_V_I (pc := 42) dX7_once_42 lkX7_158 (sm_Rc.o (ci := 6) s0_40 (by decide) (by decide)) (by decide) (Nat.le_of_ble_eq_true rfl) ?_
          refine c_X7_slip hw hR (by omega) ?_
          refine wp_aload_n (pc := 45) 0 dX7_once_45 rfl rfl ?_
          refine wp_iload_n (pc := 46) 1 dX7_once_46 rfl rfl ?_
          refine wp_iconst (pc := 47) (1) dX7_once_47 (by decide) ?_
          refine wp_iload_n (pc := 48) 3 dX7_once_48 rfl rfl ?_
          refine wp_ishl (pc := 49) dX7_once_49 ?_
          refine wp_iconst (pc := 50) (-1) dX7_once_50 (by decide) ?_
          refine wp_ixor (pc := 51) dX7_once_51 ?_
          refine wp_iand (pc := 52) dX7_once_52 ?_
          refine wp_int (bt_clr (by omega)) ?_
          refine wc_V_I (pc := 53) dX7_once_53 lkX7_165 (sm_Rc.o (ci := 6) s0_40 (by decide) (by decide)) (by decide) (Nat.le_of_ble_eq_true rfl) ?_
          refine c_X7_wellOf hw hR (dif_le _ _ hb0) ?_
          refine wp_imul (pc := 56) dX7_once_56 ?_
          refine wp_int (pk_mul _ _) ?_
          refine wp_bipush (pc := 57) (100) dX7_once_57 (by decide) ?_
          refine wp_idiv (pc := 59) dX7_once_59 (by decide) ?_
          refine wp_int (pk_div (d := 100) (by omega) (by decide) (by decide)) ?_
          refine wp_goto (pc := 60) 64 dX7_once_60 (by decide) ?_
          refine wp_iadd (pc := 64) dX7_once_64 ?_
          refine wp_int (nI_add _ _) ?_
          refine wp_istore_n (pc := 65) 2 dX7_once_65 rfl (by decide) rfl ?_
          refine wp_incN (pc := 66) 3 dX7_once_66 rfl (by decide) rfl ?_
          refine wp_goto (pc := 69) 19 dX7_once_69 (by decide) ?_
          have nx := nx trivial
          rw [onU_t c_37] at nx
          exact nx
    · refine wp_iload_n (pc := 19) 3 dX7_once_19 rfl rfl ?_
      refine wp_aload_n (pc := 20) 0 dX7_once_20 rfl rfl ?_
      refine wq_getR (pc := 21) 13 0 dX7_once_21 s0_40 flX7_13 rfl rfl (by decide) (by decide) ?_
      refine wp_bipush (pc := 24) (69) dX7_once_24 (by decide) ?_
      refine wq_iald (pc := 26) 69 dX7_once_26 s0_41 (by decide) rfl (by decide) (by decide) ?_
      refine wp_int (hR.at (by decide)) ?_
      refine wp_icmp_ge (pc := 27) 72 dX7_once_27 (by decide) (fun c_27 => ?_) (fun c_27 => ?_)
      · refine wp_iload_n (pc := 72) 2 dX7_once_72 rfl rfl ?_
        refine wp_iretI (pc := 73) dX7_once_73 rfl ?_
        exact k _ _ _ hM Lo.rf
      · exact absurd (Int32.le_refl _) c_27
  · refine wp_aload_n (pc := 8) 0 dX7_once_8 rfl rfl ?_
    refine wp_bipush (pc := 9) (-2) dX7_once_9 (by decide) ?_
    refine wc_V_I (pc := 11) dX7_once_11 lkX7_81 (sm_Rc.o (ci := 6) s0_40 (by decide) (by decide)) (by decide) (Nat.le_of_ble_eq_true rfl) ?_
    refine c_X7_no_0 ?_
    refine wp_iretI (pc := 14) dX7_once_14 rfl ?_
    unfold do_once at k
    rw [qry_f (c := (arRg s x)) c_5] at k
    exact k _ _ _ (hM.bmp (by decide)) (Lo.rf.uI (by decide))
theorem c_X7_ways {d : Nat} {F I : Nat → Nat → Int32} {J : Nat → Nat → Int64} {Q : Option Value → sm_H → Prop} {x : Int32} {s : Sg} (hM : MR s F I J) (ok : Ok s) (k : ∀ F1 I1 J1, MR (do_ways s x).2 F1 I1 J1 → Lo F I J F1 I1 J1 → Q (some (.int (do_ways s x).1)) (S0, F1, I1, J1)) : Wp mX7_ways (d + 2) 0 0 0 (sm_ini [.ref 40, .int x] 4) [] (S0, F, I, J) Q := by
  show Wp _ _ _ _ _ [.ref 40, .int x, .null, .null] _ _ _
  have hw := ok.1
  have hR := hM.1
  have hn := hw.n
  have hcw := hw.c
  have hbn := bn_1024 hw
  have hbl := bn_lt hw
  have hp2 := p2n hw
  have hh1 := hw.wth
  have hh2 := hw.crk
  have hh3 := hw.year
  refine wp_aload_n (pc := 0) 0 dX7_ways_0 rfl rfl ?_
  refine wp_iload_n (pc := 1) 1 dX7_ways_1 rfl rfl ?_
  refine wc_V_I (pc := 2) dX7_ways_2 lkX7_180 (sm_Rc.o (ci := 6) s0_40 (by decide) (by decide)) (by decide) (Nat.le_of_ble_eq_true rfl) ?_
  refine c_X7_areThings hw hR ?_
  refine wp_ifneB (pc := 5) 15 dX7_ways_5 (by decide) (fun c_5 => ?_) (fun c_5 => ?_)
  · have hp2 := p2n hw
    obtain ⟨b, hb0, rfl⟩ := (i32_in (by omega)).mp (of_decide_eq_true c_5)
    have hb : b < 1024 := by omega
    refine wp_iconst (pc := 15) (0) dX7_ways_15 (by decide) ?_
    refine wp_istore_n (pc := 16) 2 dX7_ways_16 rfl (by decide) rfl ?_
    refine wp_iconst (pc := 17) (0) dX7_ways_17 (by decide) ?_
    refine wp_istore_n (pc := 18) 3 dX7_ways_18 rfl (by decide) rfl ?_
    unfold do_ways at k
    rw [qry_t (c := (arTh s (nI b))) c_5] at k
    rw [nI_clamp (by omega)] at k
    refine wp_loop (fun i => [.ref 40, .int (nI b), .int (nI (cnt (fun c => decide (sta (sgf s) c = b)) i)), .int (nI i)]) (fun i => (S0, F, I, J)) (fun i => True) (2 ^ sgf s 68) (fun i hi hv nx => ?_) (fun hv => ?_) 0 (Nat.zero_le _) trivial
    · have hs1 := sta_1024 (sgf s) i
      refine wp_iload_n (pc := 19) 3 dX7_ways_19 rfl rfl ?_
      refine wp_iconst (pc := 20) (1) dX7_ways_20 (by decide) ?_
      refine wp_aload_n (pc := 21) 0 dX7_ways_21 rfl rfl ?_
      refine wc_V_ (pc := 22) dX7_ways_22 lkX7_57 (sm_Rc.o (ci := 6) s0_40 (by decide) (by decide)) (by decide) (Nat.le_of_ble_eq_true rfl) ?_
      refine c_X7_many hw hR ?_
      refine wp_ishl (pc := 25) dX7_ways_25 ?_
      refine wp_int (bt_one (by omega)) ?_
      refine wp_icmp_ge (pc := 26) 52 dX7_ways_26 (by decide) (fun c_26 => ?_) (fun c_26 => ?_)
      · exact absurd c_26 (nI_ge (b := 2 ^ sgf s 68) hi (by omega))
      · refine wp_iload_n (pc := 29) 2 dX7_ways_29 rfl rfl ?_
        refine wp_aload_n (pc := 30) 0 dX7_ways_30 rfl rfl ?_
        refine wp_iload_n (pc := 31) 3 dX7_ways_31 rfl rfl ?_
        refine wc_V_I (pc := 32) dX7_ways_32 lkX7_65 (sm_Rc.o (ci := 6) s0_40 (by decide) (by decide)) (by decide) (Nat.le_of_ble_eq_true rfl) ?_
        refine c_X7_standsBy hw hR hi ?_
        refine wp_iload_n (pc := 35) 1 dX7_ways_35 rfl rfl ?_
        refine wp_icmp_ne (pc := 36) 43 dX7_ways_36 (by decide) (fun c_36 => ?_) (fun c_36 => ?_)
        · refine wp_iconst (pc := 43) (0) dX7_ways_43 (by decide) ?_
          refine wp_iadd (pc := 44) dX7_ways_44 ?_
          refine wp_int (add0 _) ?_
          refine wp_istore_n (pc := 45) 2 dX7_ways_45 rfl (by decide) rfl ?_
          refine wp_incN (pc := 46) 3 dX7_ways_46 rfl (by decide) rfl ?_
          refine wp_goto (pc := 49) 19 dX7_ways_49 (by decide) ?_
          have nx := nx trivial
          rw [cnt_f (p := (fun c => decide (sta (sgf s) c = b))) (decide_eq_false (fun z => c_36 (by rw [z])))] at nx
          exact nx
        · refine wp_iconst (pc := 39) (1) dX7_ways_39 (by decide) ?_
          refine wp_goto (pc := 40) 44 dX7_ways_40 (by decide) ?_
          refine wp_iadd (pc := 44) dX7_ways_44 ?_
          refine wp_int (nI_1 _) ?_
          refine wp_istore_n (pc := 45) 2 dX7_ways_45 rfl (by decide) rfl ?_
          refine wp_incN (pc := 46) 3 dX7_ways_46 rfl (by decide) rfl ?_
          refine wp_goto (pc := 49) 19 dX7_ways_49 (by decide) ?_
          have nx := nx trivial
          rw [cnt_t (p := (fun c => decide (sta (sgf s) c = b))) (decide_eq_true ((nI_eq (by omega) (by omega)).mp c_36))] at nx
          exact nx
    · refine wp_iload_n (pc := 19) 3 dX7_ways_19 rfl rfl ?_
      refine wp_iconst (pc := 20) (1) dX7_ways_20 (by decide) ?_
      refine wp_aload_n (pc := 21) 0 dX7_ways_21 rfl rfl ?_
      refine wc_V_ (pc := 22) dX7_ways_22 lkX7_57 (sm_Rc.o (ci := 6) s0_40 (by decide) (by decide)) (by decide) (Nat.le_of_ble_eq_true rfl) ?_
      refine c_X7_many hw hR ?_
      refine wp_ishl (pc := 25) dX7_ways_25 ?_
      refine wp_int (bt_one (by omega)) ?_
      refine wp_icmp_ge (pc := 26) 52 dX7_ways_26 (by decide) (fun c_26 => ?_) (fun c_26 => ?_)
      · refine wp_iload_n (pc := 52) 2 dX7_ways_52 rfl rfl ?_
        refine wp_iretI (pc := 53) dX7_ways_53 rfl ?_
        exact k _ _ _ hM Lo.rf
      · exact absurd (Int32.le_refl _) c_26
  · refine wp_aload_n (pc := 8) 0 dX7_ways_8 rfl rfl ?_
    refine wp_bipush (pc := 9) (-2) dX7_ways_9 (by decide) ?_
    refine wc_V_I (pc := 11) dX7_ways_11 lkX7_81 (sm_Rc.o (ci := 6) s0_40 (by decide) (by decide)) (by decide) (Nat.le_of_ble_eq_true rfl) ?_
    refine c_X7_no_0 ?_
    refine wp_iretI (pc := 14) dX7_ways_14 rfl ?_
    unfold do_ways at k
    rw [qry_f (c := (arTh s x)) c_5] at k
    exact k _ _ _ (hM.bmp (by decide)) (Lo.rf.uI (by decide))
theorem c_X7_to {d : Nat} {F I : Nat → Nat → Int32} {J : Nat → Nat → Int64} {Q : Option Value → sm_H → Prop} {x : Int32} {s : Sg} (hM : MR s F I J) (ok : Ok s) (k : ∀ F1 I1 J1, MR (do_to s x).2 F1 I1 J1 → Lo F I J F1 I1 J1 → Q (some (.int (do_to s x).1)) (S0, F1, I1, J1)) : Wp mX7_to (d + 2) 0 0 0 (sm_ini [.ref 40, .int x] 5) [] (S0, F, I, J) Q := by
  show Wp _ _ _ _ _ [.ref 40, .int x, .null, .null, .null] _ _ _
  have hw := ok.1
  have hR := hM.1
  have hn := hw.n
  have hcw := hw.c
  have hbn := bn_1024 hw
  have hbl := bn_lt hw
  have hp2 := p2n hw
  have hh1 := hw.wth
  have hh2 := hw.crk
  have hh3 := hw.year
  refine wp_aload_n (pc := 0) 0 dX7_to_0 rfl rfl ?_
  refine wp_iload_n (pc := 1) 1 dX7_to_1 rfl rfl ?_
  refine wc_V_I (pc := 2) dX7_to_2 lkX7_180 (sm_Rc.o (ci := 6) s0_40 (by decide) (by decide)) (by decide) (Nat.le_of_ble_eq_true rfl) ?_
  refine c_X7_areThings hw hR ?_
  refine wp_ifneB (pc := 5) 15 dX7_to_5 (by decide) (fun c_5 => ?_) (fun c_5 => ?_)
  · have hp2 := p2n hw
    obtain ⟨b, hb0, rfl⟩ := (i32_in (by omega)).mp (of_decide_eq_true c_5)
    have hb : b < 1024 := by omega
    refine wp_aload_n (pc := 15) 0 dX7_to_15 rfl rfl ?_
    refine wc_V_ (pc := 16) dX7_to_16 lkX7_135 (sm_Rc.o (ci := 6) s0_40 (by decide) (by decide)) (by decide) (Nat.le_of_ble_eq_true rfl) ?_
    refine c_X7_been hw hR ?_
    refine wp_istore_n (pc := 19) 2 dX7_to_19 rfl (by decide) rfl ?_
    refine wp_iconst (pc := 20) (-1) dX7_to_20 (by decide) ?_
    refine wp_istore_n (pc := 21) 3 dX7_to_21 rfl (by decide) rfl ?_
    refine wp_iconst (pc := 22) (0) dX7_to_22 (by decide) ?_
    refine wp_istore (pc := 23) 4 dX7_to_23 (by decide) rfl ?_
    unfold do_to at k
    rw [qry_t (c := (arTh s (nI b))) c_5] at k
    rw [nI_clamp (by omega)] at k
    refine wp_loop (fun i => [.ref 40, .int (nI b), .int (nI (bn (sgf s))), .int (eN (lstU (lvP (sgf s) b) i)), .int (nI i)]) (fun i => (S0, F, I, J)) (fun i => True) (2 ^ sgf s 68) (fun i hi hv nx => ?_) (fun hv => ?_) 0 (Nat.zero_le _) trivial
    · have hdi := dif_1024 i hbn
      have hs1 := sta_1024 (sgf s) (dif (bn (sgf s)) i)
      refine wp_iload (pc := 25) 4 dX7_to_25 rfl ?_
      refine wp_iconst (pc := 27) (1) dX7_to_27 (by decide) ?_
      refine wp_aload_n (pc := 28) 0 dX7_to_28 rfl rfl ?_
      refine wc_V_ (pc := 29) dX7_to_29 lkX7_57 (sm_Rc.o (ci := 6) s0_40 (by decide) (by decide)) (by decide) (Nat.le_of_ble_eq_true rfl) ?_
      refine c_X7_many hw hR ?_
      refine wp_ishl (pc := 32) dX7_to_32 ?_
      refine wp_int (bt_one (by omega)) ?_
      refine wp_icmp_ge (pc := 33) 77 dX7_to_33 (by decide) (fun c_33 => ?_) (fun c_33 => ?_)
      · exact absurd c_33 (nI_ge (b := 2 ^ sgf s 68) hi (by omega))
      · refine wp_iload (pc := 36) 4 dX7_to_36 rfl ?_
        refine wp_iload_n (pc := 38) 2 dX7_to_38 rfl rfl ?_
        refine wp_iconst (pc := 39) (-1) dX7_to_39 (by decide) ?_
        refine wp_ixor (pc := 40) dX7_to_40 ?_
        refine wp_iand (pc := 41) dX7_to_41 ?_
        refine wp_int (bt_dif _ _) ?_
        refine wp_ifne (pc := 42) 71 dX7_to_42 (by decide) (fun c_42 => ?_) (fun c_42 => ?_)
        · refine wp_incN (pc := 71) 4 dX7_to_71 rfl (by decide) rfl ?_
          refine wp_goto (pc := 74) 25 dX7_to_74 (by decide) ?_
          have nx := nx trivial
          rw [lst_f (Or.inl (by simp [lvP, show ¬ dif i (bn (sgf s)) = 0 from fun z => c_42 (by rw [z]; rfl)]))] at nx
          exact nx
        · refine wp_iload (pc := 45) 4 dX7_to_45 rfl ?_
          refine wp_iload_n (pc := 47) 3 dX7_to_47 rfl rfl ?_
          refine wc_S_II (pc := 48) dX7_to_48 lkX7_183 (by decide) (Nat.le_of_ble_eq_true rfl) ?_
          refine c_X7_isFewer (by omega) (fun b hb => by have := lstU_lt hb; omega) ?_
          refine wp_ifeqB (pc := 51) 71 dX7_to_51 (by decide) (fun c_51 => ?_) (fun c_51 => ?_)
          · refine wp_incN (pc := 71) 4 dX7_to_71 rfl (by decide) rfl ?_
            refine wp_goto (pc := 74) 25 dX7_to_74 (by decide) ?_
            have nx := nx trivial
            rw [lst_f (Or.inr c_51)] at nx
            exact nx
          · refine wp_aload_n (pc := 54) 0 dX7_to_54 rfl rfl ?_
            refine wp_iload_n (pc := 55) 2 dX7_to_55 rfl rfl ?_
            refine wp_iload (pc := 56) 4 dX7_to_56 rfl ?_
            refine wp_iconst (pc := 58) (-1) dX7_to_58 (by decide) ?_
            refine wp_ixor (pc := 59) dX7_to_59 ?_
            refine wp_iand (pc := 60) dX7_to_60 ?_
            refine wp_int (bt_dif _ _) ?_
            refine wc_V_I (pc := 61) dX7_to_61 lkX7_65 (sm_Rc.o (ci := 6) s0_40 (by decide) (by decide)) (by decide) (Nat.le_of_ble_eq_true rfl) ?_
            refine c_X7_standsBy hw hR (dif_le _ _ hbl) ?_
            refine wp_iload_n (pc := 64) 1 dX7_to_64 rfl rfl ?_
            refine wp_icmp_ne (pc := 65) 71 dX7_to_65 (by decide) (fun c_65 => ?_) (fun c_65 => ?_)
            · refine wp_incN (pc := 71) 4 dX7_to_71 rfl (by decide) rfl ?_
              refine wp_goto (pc := 74) 25 dX7_to_74 (by decide) ?_
              have nx := nx trivial
              rw [lst_f (Or.inl (by simp [lvP, show ¬ sta (sgf s) (dif (bn (sgf s)) i) = b from fun z => c_65 (by rw [z])]))] at nx
              exact nx
            · refine wp_iload (pc := 68) 4 dX7_to_68 rfl ?_
              refine wp_istore_n (pc := 70) 3 dX7_to_70 rfl (by decide) rfl ?_
              refine wp_incN (pc := 71) 4 dX7_to_71 rfl (by decide) rfl ?_
              refine wp_goto (pc := 74) 25 dX7_to_74 (by decide) ?_
              have nx := nx trivial
              rw [lst_t (by simp [lvP, (nIz (dif_1024 _ (by omega))).mp c_42, (nI_eq (by omega) (by omega)).mp c_65]) c_51] at nx
              exact nx
    · refine wp_iload (pc := 25) 4 dX7_to_25 rfl ?_
      refine wp_iconst (pc := 27) (1) dX7_to_27 (by decide) ?_
      refine wp_aload_n (pc := 28) 0 dX7_to_28 rfl rfl ?_
      refine wc_V_ (pc := 29) dX7_to_29 lkX7_57 (sm_Rc.o (ci := 6) s0_40 (by decide) (by decide)) (by decide) (Nat.le_of_ble_eq_true rfl) ?_
      refine c_X7_many hw hR ?_
      refine wp_ishl (pc := 32) dX7_to_32 ?_
      refine wp_int (bt_one (by omega)) ?_
      refine wp_icmp_ge (pc := 33) 77 dX7_to_33 (by decide) (fun c_33 => ?_) (fun c_33 => ?_)
      · refine wp_iload_n (pc := 77) 3 dX7_to_77 rfl rfl ?_
        refine wp_iretI (pc := 78) dX7_to_78 rfl ?_
        exact k _ _ _ hM Lo.rf
      · exact absurd (Int32.le_refl _) c_33
  · refine wp_aload_n (pc := 8) 0 dX7_to_8 rfl rfl ?_
    refine wp_bipush (pc := 9) (-2) dX7_to_9 (by decide) ?_
    refine wc_V_I (pc := 11) dX7_to_11 lkX7_81 (sm_Rc.o (ci := 6) s0_40 (by decide) (by decide)) (by decide) (Nat.le_of_ble_eq_true rfl) ?_
    refine c_X7_no_0 ?_
    refine wp_iretI (pc := 14) dX7_to_14 rfl ?_
    unfold do_to at k
    rw [qry_f (c := (arTh s x)) c_5] at k
    exact k _ _ _ (hM.bmp (by decide)) (Lo.rf.uI (by decide))
theorem c_X7_under {d : Nat} {F I : Nat → Nat → Int32} {J : Nat → Nat → Int64} {Q : Option Value → sm_H → Prop} {x : Int32} {s : Sg} (hM : MR s F I J) (ok : Ok s) (k : ∀ F1 I1 J1, MR (do_under s x).2 F1 I1 J1 → Lo F I J F1 I1 J1 → Q (some (.int (do_under s x).1)) (S0, F1, I1, J1)) : Wp mX7_under (d + 3) 0 0 0 (sm_ini [.ref 40, .int x] 5) [] (S0, F, I, J) Q := by
  show Wp _ _ _ _ _ [.ref 40, .int x, .null, .null, .null] _ _ _
  have hw := ok.1
  have hR := hM.1
  have hn := hw.n
  have hcw := hw.c
  have hbn := bn_1024 hw
  have hbl := bn_lt hw
  have hp2 := p2n hw
  have hh1 := hw.wth
  have hh2 := hw.crk
  have hh3 := hw.year
  refine wp_iload_n (pc := 0) 1 dX7_under_0 rfl rfl ?_
  refine wp_iconst (pc := 1) (0) dX7_under_1 (by decide) ?_
  refine wp_sipush (pc := 2) (999) dX7_under_2 (by decide) ?_
  refine wc_S_III (pc := 5) dX7_under_5 lkX7_49 (by decide) (Nat.le_of_ble_eq_true rfl) ?_
  refine c_X7_isIn ?_
  refine wp_ifneB (pc := 8) 18 dX7_under_8 (by decide) (fun c_8 => ?_) (fun c_8 => ?_)
  · obtain ⟨v, hv, rfl⟩ := (i32_le (n := 999) (by decide)).mp (of_decide_eq_true c_8)
    refine wp_aload_n (pc := 18) 0 dX7_under_18 rfl rfl ?_
    refine wc_V_ (pc := 19) dX7_under_19 lkX7_135 (sm_Rc.o (ci := 6) s0_40 (by decide) (by decide)) (by decide) (Nat.le_of_ble_eq_true rfl) ?_
    refine c_X7_been hw hR ?_
    refine wp_istore_n (pc := 22) 2 dX7_under_22 rfl (by decide) rfl ?_
    refine wp_iconst (pc := 23) (-1) dX7_under_23 (by decide) ?_
    refine wp_istore_n (pc := 24) 3 dX7_under_24 rfl (by decide) rfl ?_
    refine wp_iconst (pc := 25) (0) dX7_under_25 (by decide) ?_
    refine wp_istore (pc := 26) 4 dX7_under_26 (by decide) rfl ?_
    unfold do_under at k
    rw [qry_t (c := (upB (nI v) 999)) c_8] at k
    rw [nI_clamp (by omega)] at k
    refine wp_loop (fun i => [.ref 40, .int (nI v), .int (nI (bn (sgf s))), .int (eN (lstU (udP (sgf s) v) i)), .int (nI i)]) (fun i => (S0, F, I, J)) (fun i => True) (2 ^ sgf s 68) (fun i hi hv nx => ?_) (fun hv => ?_) 0 (Nat.zero_le _) trivial
    · have hdi := dif_1024 i hbn
      have hs1 := val_le hw (dif (bn (sgf s)) i)
      refine wp_iload (pc := 28) 4 dX7_under_28 rfl ?_
      refine wp_iconst (pc := 30) (1) dX7_under_30 (by decide) ?_
      refine wp_aload_n (pc := 31) 0 dX7_under_31 rfl rfl ?_
      refine wc_V_ (pc := 32) dX7_under_32 lkX7_57 (sm_Rc.o (ci := 6) s0_40 (by decide) (by decide)) (by decide) (Nat.le_of_ble_eq_true rfl) ?_
      refine c_X7_many hw hR ?_
      refine wp_ishl (pc := 35) dX7_under_35 ?_
      refine wp_int (bt_one (by omega)) ?_
      refine wp_icmp_ge (pc := 36) 80 dX7_under_36 (by decide) (fun c_36 => ?_) (fun c_36 => ?_)
      · exact absurd c_36 (nI_ge (b := 2 ^ sgf s 68) hi (by omega))
      · refine wp_iload (pc := 39) 4 dX7_under_39 rfl ?_
        refine wp_iload_n (pc := 41) 2 dX7_under_41 rfl rfl ?_
        refine wp_iconst (pc := 42) (-1) dX7_under_42 (by decide) ?_
        refine wp_ixor (pc := 43) dX7_under_43 ?_
        refine wp_iand (pc := 44) dX7_under_44 ?_
        refine wp_int (bt_dif _ _) ?_
        refine wp_ifne (pc := 45) 74 dX7_under_45 (by decide) (fun c_45 => ?_) (fun c_45 => ?_)
        · refine wp_incN (pc := 74) 4 dX7_under_74 rfl (by decide) rfl ?_
          refine wp_goto (pc := 77) 28 dX7_under_77 (by decide) ?_
          have nx := nx trivial
          rw [lst_f (Or.inl (by simp [udP, show ¬ dif i (bn (sgf s)) = 0 from fun z => c_45 (by rw [z]; rfl)]))] at nx
          exact nx
        · refine wp_iload (pc := 48) 4 dX7_under_48 rfl ?_
          refine wp_iload_n (pc := 50) 3 dX7_under_50 rfl rfl ?_
          refine wc_S_II (pc := 51) dX7_under_51 lkX7_183 (by decide) (Nat.le_of_ble_eq_true rfl) ?_
          refine c_X7_isFewer (by omega) (fun b hb => by have := lstU_lt hb; omega) ?_
          refine wp_ifeqB (pc := 54) 74 dX7_under_54 (by decide) (fun c_54 => ?_) (fun c_54 => ?_)
          · refine wp_incN (pc := 74) 4 dX7_under_74 rfl (by decide) rfl ?_
            refine wp_goto (pc := 77) 28 dX7_under_77 (by decide) ?_
            have nx := nx trivial
            rw [lst_f (Or.inr c_54)] at nx
            exact nx
          · refine wp_aload_n (pc := 57) 0 dX7_under_57 rfl rfl ?_
            refine wp_iload_n (pc := 58) 2 dX7_under_58 rfl rfl ?_
            refine wp_iload (pc := 59) 4 dX7_under_59 rfl ?_
            refine wp_iconst (pc := 61) (-1) dX7_under_61 (by decide) ?_
            refine wp_ixor (pc := 62) dX7_under_62 ?_
            refine wp_iand (pc := 63) dX7_under_63 ?_
            refine wp_int (bt_dif _ _) ?_
            refine wc_V_I (pc := 64) dX7_under_64 lkX7_168 (sm_Rc.o (ci := 6) s0_40 (by decide) (by decide)) (by decide) (Nat.le_of_ble_eq_true rfl) ?_
            refine c_X7_valueBy hw hR (dif_le _ _ hbl) ?_
            refine wp_iload_n (pc := 67) 1 dX7_under_67 rfl rfl ?_
            refine wp_icmp_gt (pc := 68) 74 dX7_under_68 (by decide) (fun c_68 => ?_) (fun c_68 => ?_)
            · refine wp_incN (pc := 74) 4 dX7_under_74 rfl (by decide) rfl ?_
              refine wp_goto (pc := 77) 28 dX7_under_77 (by decide) ?_
              have nx := nx trivial
              rw [lst_f (Or.inl (by simp [udP, show ¬ val (sgf s) (dif (bn (sgf s)) i) ≤ v from fun z => nI_nlt z (by omega) c_68]))] at nx
              exact nx
            · refine wp_iload (pc := 71) 4 dX7_under_71 rfl ?_
              refine wp_istore_n (pc := 73) 3 dX7_under_73 rfl (by decide) rfl ?_
              refine wp_incN (pc := 74) 4 dX7_under_74 rfl (by decide) rfl ?_
              refine wp_goto (pc := 77) 28 dX7_under_77 (by decide) ?_
              have nx := nx trivial
              rw [lst_t (by simp [udP, (nIz (dif_1024 _ (by omega))).mp c_45, show val (sgf s) (dif (bn (sgf s)) i) ≤ v from Nat.le_of_not_lt fun z => c_68 (nI_lt z (by omega))]) c_54] at nx
              exact nx
    · refine wp_iload (pc := 28) 4 dX7_under_28 rfl ?_
      refine wp_iconst (pc := 30) (1) dX7_under_30 (by decide) ?_
      refine wp_aload_n (pc := 31) 0 dX7_under_31 rfl rfl ?_
      refine wc_V_ (pc := 32) dX7_under_32 lkX7_57 (sm_Rc.o (ci := 6) s0_40 (by decide) (by decide)) (by decide) (Nat.le_of_ble_eq_true rfl) ?_
      refine c_X7_many hw hR ?_
      refine wp_ishl (pc := 35) dX7_under_35 ?_
      refine wp_int (bt_one (by omega)) ?_
      refine wp_icmp_ge (pc := 36) 80 dX7_under_36 (by decide) (fun c_36 => ?_) (fun c_36 => ?_)
      · refine wp_iload_n (pc := 80) 3 dX7_under_80 rfl rfl ?_
        refine wp_iretI (pc := 81) dX7_under_81 rfl ?_
        exact k _ _ _ hM Lo.rf
      · exact absurd (Int32.le_refl _) c_36
  · refine wp_aload_n (pc := 11) 0 dX7_under_11 rfl rfl ?_
    refine wp_bipush (pc := 12) (-2) dX7_under_12 (by decide) ?_
    refine wc_V_I (pc := 14) dX7_under_14 lkX7_81 (sm_Rc.o (ci := 6) s0_40 (by decide) (by decide)) (by decide) (Nat.le_of_ble_eq_true rfl) ?_
    refine c_X7_no_0 ?_
    refine wp_iretI (pc := 17) dX7_under_17 rfl ?_
    unfold do_under at k
    rw [qry_f (c := (upB x 999)) c_8] at k
    exact k _ _ _ (hM.bmp (by decide)) (Lo.rf.uI (by decide))
theorem c_X7_putBack {d : Nat} {F I : Nat → Nat → Int32} {J : Nat → Nat → Int64} {Q : Option Value → sm_H → Prop} {x : Int32} {s : Sg} (hM : MR s F I J) (ok : Ok s) (k : ∀ F1 I1 J1, MR (do_putBack s x).2 F1 I1 J1 → Lo F I J F1 I1 J1 → Q (some (.int (do_putBack s x).1)) (S0, F1, I1, J1)) : Wp mX7_putBack (d + 2) 0 0 0 (sm_ini [.ref 40, .int x] 5) [] (S0, F, I, J) Q := by
  show Wp _ _ _ _ _ [.ref 40, .int x, .null, .null, .null] _ _ _
  have hw := ok.1
  have hR := hM.1
  have hn := hw.n
  have hcw := hw.c
  have hbn := bn_1024 hw
  have hbl := bn_lt hw
  have hp2 := p2n hw
  have hh1 := hw.wth
  have hh2 := hw.crk
  have hh3 := hw.year
  refine wp_aload_n (pc := 0) 0 dX7_putBack_0 rfl rfl ?_
  refine wp_iload_n (pc := 1) 1 dX7_putBack_1 rfl rfl ?_
  refine wc_V_I (pc := 2) dX7_putBack_2 lkX7_90 (sm_Rc.o (ci := 6) s0_40 (by decide) (by decide)) (by decide) (Nat.le_of_ble_eq_true rfl) ?_
  refine c_X7_isThing hw hR ?_
  refine wp_ifneB (pc := 5) 15 dX7_putBack_5 (by decide) (fun c_5 => ?_) (fun c_5 => ?_)
  · obtain ⟨a, ha0, rfl⟩ := (i32_in (by omega)).mp (of_decide_eq_true c_5)
    have ha : a < 10 := by omega
    refine wp_aload_n (pc := 15) 0 dX7_putBack_15 rfl rfl ?_
    refine wp_iload_n (pc := 16) 1 dX7_putBack_16 rfl rfl ?_
    refine wc_V_I (pc := 17) dX7_putBack_17 lkX7_177 (sm_Rc.o (ci := 6) s0_40 (by decide) (by decide)) (by decide) (Nat.le_of_ble_eq_true rfl) ?_
    refine c_X7_downOf hw hR (by omega) ?_
    refine wp_iconst (pc := 20) (1) dX7_putBack_20 (by decide) ?_
    refine wp_iload_n (pc := 21) 1 dX7_putBack_21 rfl rfl ?_
    refine wp_ishl (pc := 22) dX7_putBack_22 ?_
    refine wp_int (bt_one (by omega)) ?_
    refine wp_ior (pc := 23) dX7_putBack_23 ?_
    refine wp_int (bt_or _ _) ?_
    refine wp_aload_n (pc := 24) 0 dX7_putBack_24 rfl rfl ?_
    refine wc_V_ (pc := 25) dX7_putBack_25 lkX7_135 (sm_Rc.o (ci := 6) s0_40 (by decide) (by decide)) (by decide) (Nat.le_of_ble_eq_true rfl) ?_
    refine c_X7_been hw hR ?_
    refine wp_iconst (pc := 28) (-1) dX7_putBack_28 (by decide) ?_
    refine wp_ixor (pc := 29) dX7_putBack_29 ?_
    refine wp_iand (pc := 30) dX7_putBack_30 ?_
    refine wp_int (y := nI (miss (sgf s) a)) (bt_dif _ _) ?_
    refine wp_istore_n (pc := 31) 2 dX7_putBack_31 rfl (by decide) rfl ?_
    refine wp_iconst (pc := 32) (0) dX7_putBack_32 (by decide) ?_
    refine wp_istore_n (pc := 33) 3 dX7_putBack_33 rfl (by decide) rfl ?_
    refine wp_iconst (pc := 34) (0) dX7_putBack_34 (by decide) ?_
    refine wp_istore (pc := 35) 4 dX7_putBack_35 (by decide) rfl ?_
    unfold do_putBack at k
    rw [qry_t (c := (isTh s (nI a))) c_5] at k
    rw [nI_clamp (by omega)] at k
    have hm := miss_lt hw ha
    refine wp_loop (fun i => [.ref 40, .int (nI a), .int (nI (miss (sgf s) a)), .int (nI (cnt (fun j => (miss (sgf s) a).testBit j) i)), .int (nI i)]) (fun i => (S0, F, I, J)) (fun i => ∀ j, j < i → (!(miss (sgf s) a).testBit j || opn (sgf s) j) = true) (sgf s 68) (fun i hi hv nx => ?_) (fun hv => ?_) 0 (Nat.zero_le _) (fun j hj => absurd hj (Nat.not_lt_zero j))
    · refine wp_iload (pc := 37) 4 dX7_putBack_37 rfl ?_
      refine wp_aload_n (pc := 39) 0 dX7_putBack_39 rfl rfl ?_
      refine wc_V_ (pc := 40) dX7_putBack_40 lkX7_57 (sm_Rc.o (ci := 6) s0_40 (by decide) (by decide)) (by decide) (Nat.le_of_ble_eq_true rfl) ?_
      refine c_X7_many hw hR ?_
      refine wp_icmp_ge (pc := 43) 76 dX7_putBack_43 (by decide) (fun c_43 => ?_) (fun c_43 => ?_)
      · exact absurd c_43 (nI_ge (b := sgf s 68) hi (by omega))
      · refine wp_iload_n (pc := 46) 2 dX7_putBack_46 rfl rfl ?_
        refine wp_iload (pc := 47) 4 dX7_putBack_47 rfl ?_
        refine wp_ishr (pc := 49) dX7_putBack_49 ?_
        refine wp_iconst (pc := 50) (1) dX7_putBack_50 (by decide) ?_
        refine wp_iand (pc := 51) dX7_putBack_51 ?_
        refine wp_int (bt_bit (by omega) (by omega)) ?_
        refine wp_iconst (pc := 52) (1) dX7_putBack_52 (by decide) ?_
        refine wp_icmp_ne1 (pc := 53) 70 dX7_putBack_53 (by decide) (fun c_53 => ?_) (fun c_53 => ?_)
        · refine wp_incN (pc := 70) 4 dX7_putBack_70 rfl (by decide) rfl ?_
          refine wp_goto (pc := 73) 37 dX7_putBack_73 (by decide) ?_
          have nx := nx (fun j hj => by
            by_cases hji : j = i
            · subst hji; simp [c_53]
            · exact hv j (by omega))
          rw [cnt_f (p := (fun j => (miss (sgf s) a).testBit j)) c_53] at nx
          exact nx
        · refine wp_aload_n (pc := 56) 0 dX7_putBack_56 rfl rfl ?_
          refine wp_iload (pc := 57) 4 dX7_putBack_57 rfl ?_
          refine wc_V_I (pc := 59) dX7_putBack_59 lkX7_61 (sm_Rc.o (ci := 6) s0_40 (by decide) (by decide)) (by decide) (Nat.le_of_ble_eq_true rfl) ?_
          refine c_X7_isOpen hw hR (by omega) ?_
          refine wp_ifneB (pc := 62) 67 dX7_putBack_62 (by decide) (fun c_62 => ?_) (fun c_62 => ?_)
          · refine wp_incN (pc := 67) 3 dX7_putBack_67 rfl (by decide) rfl ?_
            refine wp_incN (pc := 70) 4 dX7_putBack_70 rfl (by decide) rfl ?_
            refine wp_goto (pc := 73) 37 dX7_putBack_73 (by decide) ?_
            have nx := nx (fun j hj => by
              by_cases hji : j = i
              · subst hji; simp [c_62]
              · exact hv j (by omega))
            rw [cnt_t (p := (fun j => (miss (sgf s) a).testBit j)) c_53] at nx
            exact nx
          · refine wp_iconst (pc := 65) (-1) dX7_putBack_65 (by decide) ?_
            refine wp_iretI (pc := 66) dX7_putBack_66 rfl ?_
            rw [show ptb (sgf s) a = -1 by unfold ptb; rw [allB_f hi (by simp [c_53, c_62]), if_neg (by decide)]] at k
            exact k _ _ _ hM Lo.rf
    · refine wp_iload (pc := 37) 4 dX7_putBack_37 rfl ?_
      refine wp_aload_n (pc := 39) 0 dX7_putBack_39 rfl rfl ?_
      refine wc_V_ (pc := 40) dX7_putBack_40 lkX7_57 (sm_Rc.o (ci := 6) s0_40 (by decide) (by decide)) (by decide) (Nat.le_of_ble_eq_true rfl) ?_
      refine c_X7_many hw hR ?_
      refine wp_icmp_ge (pc := 43) 76 dX7_putBack_43 (by decide) (fun c_43 => ?_) (fun c_43 => ?_)
      · refine wp_iload_n (pc := 76) 3 dX7_putBack_76 rfl rfl ?_
        refine wp_iretI (pc := 77) dX7_putBack_77 rfl ?_
        rw [show ptb (sgf s) a = nI (pop (miss (sgf s) a)) by unfold ptb; rw [allB_t.mpr hv, if_pos rfl], ← pop_cnt (v := miss (sgf s) a) (k := sgf s 68) (dif_le _ _ (or_lt (Nat.lt_trans (down_lt hw ha) (p2_lt ha0)) (p2_lt ha0))) hn] at k
        exact k _ _ _ hM Lo.rf
      · exact absurd (Int32.le_refl _) c_43
  · refine wp_aload_n (pc := 8) 0 dX7_putBack_8 rfl rfl ?_
    refine wp_bipush (pc := 9) (-2) dX7_putBack_9 (by decide) ?_
    refine wc_V_I (pc := 11) dX7_putBack_11 lkX7_81 (sm_Rc.o (ci := 6) s0_40 (by decide) (by decide)) (by decide) (Nat.le_of_ble_eq_true rfl) ?_
    refine c_X7_no_0 ?_
    refine wp_iretI (pc := 14) dX7_putBack_14 rfl ?_
    unfold do_putBack at k
    rw [qry_f (c := (isTh s x)) c_5] at k
    exact k _ _ _ (hM.bmp (by decide)) (Lo.rf.uI (by decide))
theorem c_X7_crew {d : Nat} {F I : Nat → Nat → Int32} {J : Nat → Nat → Int64} {Q : Option Value → sm_H → Prop} {x : Int32} {s : Sg} (hM : MR s F I J) (ok : Ok s) (k : ∀ F1 I1 J1, MR (do_crew s x).2 F1 I1 J1 → Lo F I J F1 I1 J1 → Q (some (.int (do_crew s x).1)) (S0, F1, I1, J1)) : Wp mX7_crew (d + 5) 0 0 0 (sm_ini [.ref 40, .int x] 5) [] (S0, F, I, J) Q := by
  show Wp _ _ _ _ _ [.ref 40, .int x, .null, .null, .null] _ _ _
  have hw := ok.1
  have hR := hM.1
  have hn := hw.n
  have hcw := hw.c
  have hbn := bn_1024 hw
  have hbl := bn_lt hw
  have hp2 := p2n hw
  have hh1 := hw.wth
  have hh2 := hw.crk
  have hh3 := hw.year
  refine wp_iload_n (pc := 0) 1 dX7_crew_0 rfl rfl ?_
  refine wp_iconst (pc := 1) (0) dX7_crew_1 (by decide) ?_
  refine wp_bipush (pc := 2) (6) dX7_crew_2 (by decide) ?_
  refine wc_S_III (pc := 4) dX7_crew_4 lkX7_49 (by decide) (Nat.le_of_ble_eq_true rfl) ?_
  refine c_X7_isIn ?_
  refine wp_ifneB (pc := 7) 17 dX7_crew_7 (by decide) (fun c_7 => ?_) (fun c_7 => ?_)
  · obtain ⟨v, hv, rfl⟩ := (i32_le (n := 6) (by decide)).mp (of_decide_eq_true c_7)
    refine wp_iconst (pc := 17) (-1) dX7_crew_17 (by decide) ?_
    refine wp_istore_n (pc := 18) 2 dX7_crew_18 rfl (by decide) rfl ?_
    refine wp_iconst (pc := 19) (-1) dX7_crew_19 (by decide) ?_
    refine wp_istore_n (pc := 20) 3 dX7_crew_20 rfl (by decide) rfl ?_
    refine wp_iconst (pc := 21) (0) dX7_crew_21 (by decide) ?_
    refine wp_istore (pc := 22) 4 dX7_crew_22 (by decide) rfl ?_
    unfold do_crew at k
    rw [qry_t (c := (upB (nI v) 6)) c_7] at k
    rw [nI_clamp (by omega)] at k
    have hp6 := p2c hw
    refine wp_loop (fun i => [.ref 40, .int (nI v), .int (eN (crewU (sgf s) v i)), .int (eW (sgf s) (crewU (sgf s) v i)), .int (nI i)]) (fun _ => (S0, F, I, J)) (fun _ => True) (2 ^ sgf s 69) (fun i hi hv0 nx => ?_) (fun hv0 => ?_) 0 (Nat.zero_le _) trivial
    · have hpi := pop_le i
      have hwl : wl (sgf s) i ≤ 1000000 := wlU_le (sgf s) i (sgf s 69)
      rcases ho : bestU (fun b => decide (pop b = v)) (fun a b => decide (wl (sgf s) b < wl (sgf s) a)) i with _ | j
      · refine wp_to (lv' := [.ref 40, .int (nI v), .int (-1), .int (-1), .int (nI i)]) ?_ (by rw [show crewU (sgf s) v i = none from ho]; rfl) rfl rfl
        refine wp_iload (pc := 24) 4 dX7_crew_24 rfl ?_
        refine wp_iconst (pc := 26) (1) dX7_crew_26 (by decide) ?_
        refine wp_aload_n (pc := 27) 0 dX7_crew_27 rfl rfl ?_
        refine wq_getR (pc := 28) 13 0 dX7_crew_28 s0_40 flX7_13 rfl rfl (by decide) (by decide) ?_
        refine wp_bipush (pc := 31) (69) dX7_crew_31 (by decide) ?_
        refine wq_iald (pc := 33) 69 dX7_crew_33 s0_41 (by decide) rfl (by decide) (by decide) ?_
        refine wp_int (hR.at (by decide)) ?_
        refine wp_ishl (pc := 34) dX7_crew_34 ?_
        refine wp_int (bt_one (by omega)) ?_
        refine wp_icmp_ge (pc := 35) 73 dX7_crew_35 (by decide) (fun c_35 => ?_) (fun c_35 => ?_)
        · exact absurd c_35 (nI_ge (b := 2 ^ sgf s 69) hi (by omega))
        · refine wp_iload (pc := 38) 4 dX7_crew_38 rfl ?_
          refine wc_S_I (pc := 40) dX7_crew_40 lkX7_72 (by decide) (Nat.le_of_ble_eq_true rfl) ?_
          refine c_J6_bitCount_0f7a4 ?_
          refine wp_int (bc_pop (by omega)) ?_
          refine wp_iload_n (pc := 43) 1 dX7_crew_43 rfl rfl ?_
          refine wp_icmp_ne (pc := 44) 67 dX7_crew_44 (by decide) (fun c_44 => ?_) (fun c_44 => ?_)
          · refine wp_incN (pc := 67) 4 dX7_crew_67 rfl (by decide) rfl ?_
            refine wp_goto (pc := 70) 24 dX7_crew_70 (by decide) ?_
            have nx := nx trivial
            unfold crewU at nx
            rw [best_no (decide_eq_false (fun z => c_44 (by rw [z]))), ho] at nx
            exact nx
          · refine wp_aload_n (pc := 47) 0 dX7_crew_47 rfl rfl ?_
            refine wp_iload (pc := 48) 4 dX7_crew_48 rfl ?_
            refine wc_V_I (pc := 50) dX7_crew_50 lkX7_165 (sm_Rc.o (ci := 6) s0_40 (by decide) (by decide)) (by decide) (Nat.le_of_ble_eq_true rfl) ?_
            refine c_X7_wellOf hw hR hi ?_
            refine wp_iload_n (pc := 53) 3 dX7_crew_53 rfl rfl ?_
            refine wp_icmp_le (pc := 54) 67 dX7_crew_54 (by decide) (fun c_54 => ?_) (fun c_54 => ?_)
            · exact absurd c_54 (m1_lt (by omega))
            · refine wp_iload (pc := 57) 4 dX7_crew_57 rfl ?_
              refine wp_istore_n (pc := 59) 2 dX7_crew_59 rfl (by decide) rfl ?_
              refine wp_aload_n (pc := 60) 0 dX7_crew_60 rfl rfl ?_
              refine wp_iload (pc := 61) 4 dX7_crew_61 rfl ?_
              refine wc_V_I (pc := 63) dX7_crew_63 lkX7_165 (sm_Rc.o (ci := 6) s0_40 (by decide) (by decide)) (by decide) (Nat.le_of_ble_eq_true rfl) ?_
              refine c_X7_wellOf hw hR hi ?_
              refine wp_istore_n (pc := 66) 3 dX7_crew_66 rfl (by decide) rfl ?_
              refine wp_incN (pc := 67) 4 dX7_crew_67 rfl (by decide) rfl ?_
              refine wp_goto (pc := 70) 24 dX7_crew_70 (by decide) ?_
              have nx := nx trivial
              unfold crewU at nx
              rw [best_new (decide_eq_true ((nI_eq (by omega) (by omega)).mp c_44)) ho] at nx
              exact nx
      · have hwj : wl (sgf s) j ≤ 1000000 := wlU_le (sgf s) j (sgf s 69)
        refine wp_to (lv' := [.ref 40, .int (nI v), .int (nI j), .int (nI (wl (sgf s) j)), .int (nI i)]) ?_ (by rw [show crewU (sgf s) v i = some j from ho]; rfl) rfl rfl
        refine wp_iload (pc := 24) 4 dX7_crew_24 rfl ?_
        refine wp_iconst (pc := 26) (1) dX7_crew_26 (by decide) ?_
        refine wp_aload_n (pc := 27) 0 dX7_crew_27 rfl rfl ?_
        refine wq_getR (pc := 28) 13 0 dX7_crew_28 s0_40 flX7_13 rfl rfl (by decide) (by decide) ?_
        refine wp_bipush (pc := 31) (69) dX7_crew_31 (by decide) ?_
        refine wq_iald (pc := 33) 69 dX7_crew_33 s0_41 (by decide) rfl (by decide) (by decide) ?_
        refine wp_int (hR.at (by decide)) ?_
        refine wp_ishl (pc := 34) dX7_crew_34 ?_
        refine wp_int (bt_one (by omega)) ?_
        refine wp_icmp_ge (pc := 35) 73 dX7_crew_35 (by decide) (fun c_35 => ?_) (fun c_35 => ?_)
        · exact absurd c_35 (nI_ge (b := 2 ^ sgf s 69) hi (by omega))
        · refine wp_iload (pc := 38) 4 dX7_crew_38 rfl ?_
          refine wc_S_I (pc := 40) dX7_crew_40 lkX7_72 (by decide) (Nat.le_of_ble_eq_true rfl) ?_
          refine c_J6_bitCount_0f7a4 ?_
          refine wp_int (bc_pop (by omega)) ?_
          refine wp_iload_n (pc := 43) 1 dX7_crew_43 rfl rfl ?_
          refine wp_icmp_ne (pc := 44) 67 dX7_crew_44 (by decide) (fun c_44 => ?_) (fun c_44 => ?_)
          · refine wp_incN (pc := 67) 4 dX7_crew_67 rfl (by decide) rfl ?_
            refine wp_goto (pc := 70) 24 dX7_crew_70 (by decide) ?_
            have nx := nx trivial
            unfold crewU at nx
            rw [best_no (decide_eq_false (fun z => c_44 (by rw [z]))), ho] at nx
            exact nx
          · refine wp_aload_n (pc := 47) 0 dX7_crew_47 rfl rfl ?_
            refine wp_iload (pc := 48) 4 dX7_crew_48 rfl ?_
            refine wc_V_I (pc := 50) dX7_crew_50 lkX7_165 (sm_Rc.o (ci := 6) s0_40 (by decide) (by decide)) (by decide) (Nat.le_of_ble_eq_true rfl) ?_
            refine c_X7_wellOf hw hR hi ?_
            refine wp_iload_n (pc := 53) 3 dX7_crew_53 rfl rfl ?_
            refine wp_icmp_le (pc := 54) 67 dX7_crew_54 (by decide) (fun c_54 => ?_) (fun c_54 => ?_)
            · refine wp_incN (pc := 67) 4 dX7_crew_67 rfl (by decide) rfl ?_
              refine wp_goto (pc := 70) 24 dX7_crew_70 (by decide) ?_
              have nx := nx trivial
              unfold crewU at nx
              rw [best_st (decide_eq_true ((nI_eq (by omega) (by omega)).mp c_44)) ho (decide_eq_false (fun z => nI_ge z (by omega) c_54))] at nx
              exact nx
            · refine wp_iload (pc := 57) 4 dX7_crew_57 rfl ?_
              refine wp_istore_n (pc := 59) 2 dX7_crew_59 rfl (by decide) rfl ?_
              refine wp_aload_n (pc := 60) 0 dX7_crew_60 rfl rfl ?_
              refine wp_iload (pc := 61) 4 dX7_crew_61 rfl ?_
              refine wc_V_I (pc := 63) dX7_crew_63 lkX7_165 (sm_Rc.o (ci := 6) s0_40 (by decide) (by decide)) (by decide) (Nat.le_of_ble_eq_true rfl) ?_
              refine c_X7_wellOf hw hR hi ?_
              refine wp_istore_n (pc := 66) 3 dX7_crew_66 rfl (by decide) rfl ?_
              refine wp_incN (pc := 67) 4 dX7_crew_67 rfl (by decide) rfl ?_
              refine wp_goto (pc := 70) 24 dX7_crew_70 (by decide) ?_
              have nx := nx trivial
              unfold crewU at nx
              rw [best_up (decide_eq_true ((nI_eq (by omega) (by omega)).mp c_44)) ho (decide_eq_true (Nat.lt_of_not_le fun z => c_54 (nI_le z (by omega))))] at nx
              exact nx
    · refine wp_iload (pc := 24) 4 dX7_crew_24 rfl ?_
      refine wp_iconst (pc := 26) (1) dX7_crew_26 (by decide) ?_
      refine wp_aload_n (pc := 27) 0 dX7_crew_27 rfl rfl ?_
      refine wq_getR (pc := 28) 13 0 dX7_crew_28 s0_40 flX7_13 rfl rfl (by decide) (by decide) ?_
      refine wp_bipush (pc := 31) (69) dX7_crew_31 (by decide) ?_
      refine wq_iald (pc := 33) 69 dX7_crew_33 s0_41 (by decide) rfl (by decide) (by decide) ?_
      refine wp_int (hR.at (by decide)) ?_
      refine wp_ishl (pc := 34) dX7_crew_34 ?_
      refine wp_int (bt_one (by omega)) ?_
      refine wp_icmp_ge (pc := 35) 73 dX7_crew_35 (by decide) (fun c_35 => ?_) (fun c_35 => ?_)
      · refine wp_iload_n (pc := 73) 2 dX7_crew_73 rfl rfl ?_
        refine wp_iretI (pc := 74) dX7_crew_74 rfl ?_
        exact k _ _ _ hM Lo.rf
      · exact absurd (Int32.le_refl _) c_35
  · refine wp_aload_n (pc := 10) 0 dX7_crew_10 rfl rfl ?_
    refine wp_bipush (pc := 11) (-2) dX7_crew_11 (by decide) ?_
    refine wc_V_I (pc := 13) dX7_crew_13 lkX7_81 (sm_Rc.o (ci := 6) s0_40 (by decide) (by decide)) (by decide) (Nat.le_of_ble_eq_true rfl) ?_
    refine c_X7_no_0 ?_
    refine wp_iretI (pc := 16) dX7_crew_16 rfl ?_
    unfold do_crew at k
    rw [qry_f (c := (upB x 6)) c_7] at k
    exact k _ _ _ (hM.bmp (by decide)) (Lo.rf.uI (by decide))
theorem c_X7_deaf {d : Nat} {F I : Nat → Nat → Int32} {J : Nat → Nat → Int64} {Q : Option Value → sm_H → Prop} {x y : Int32} {s : Sg} (hM : MR s F I J) (ok : Ok s) (k : ∀ F1 I1 J1, MR (do_deaf s x y).2 F1 I1 J1 → Lo F I J F1 I1 J1 → Q (some (.int (do_deaf s x y).1)) (S0, F1, I1, J1)) : Wp mX7_deaf (d + 2) 0 0 0 (sm_ini [.ref 40, .int x, .int y] 8) [] (S0, F, I, J) Q := by
  show Wp _ _ _ _ _ [.ref 40, .int x, .int y, .null, .null, .null, .null, .null] _ _ _
  have hw := ok.1
  have hR := hM.1
  have hn := hw.n
  have hcw := hw.c
  have hbn := bn_1024 hw
  have hbl := bn_lt hw
  have hp2 := p2n hw
  have hh1 := hw.wth
  have hh2 := hw.crk
  have hh3 := hw.year
  refine wp_aload_n (pc := 0) 0 dX7_deaf_0 rfl rfl ?_
  refine wp_iload_n (pc := 1) 1 dX7_deaf_1 rfl rfl ?_
  refine wc_V_I (pc := 2) dX7_deaf_2 lkX7_180 (sm_Rc.o (ci := 6) s0_40 (by decide) (by decide)) (by decide) (Nat.le_of_ble_eq_true rfl) ?_
  refine c_X7_areThings hw hR ?_
  refine wp_ifeqB (pc := 5) 17 dX7_deaf_5 (by decide) (fun c_5 => ?_) (fun c_5 => ?_)
  · refine wp_aload_n (pc := 17) 0 dX7_deaf_17 rfl rfl ?_
    refine wp_bipush (pc := 18) (-2) dX7_deaf_18 (by decide) ?_
    refine wc_V_I (pc := 20) dX7_deaf_20 lkX7_81 (sm_Rc.o (ci := 6) s0_40 (by decide) (by decide)) (by decide) (Nat.le_of_ble_eq_true rfl) ?_
    refine c_X7_no_0 ?_
    refine wp_iretI (pc := 23) dX7_deaf_23 rfl ?_
    unfold do_deaf at k
    rw [qry_f (c := (arTh s x && (upB y 1))) (and_f1 c_5)] at k
    exact k _ _ _ (hM.bmp (by decide)) (Lo.rf.uI (by decide))
  · have hp2 := p2n hw
    obtain ⟨b, hb0, rfl⟩ := (i32_in (by omega)).mp (of_decide_eq_true c_5)
    have hb : b < 1024 := by omega
    refine wp_iload_n (pc := 8) 2 dX7_deaf_8 rfl rfl ?_
    refine wp_iconst (pc := 9) (0) dX7_deaf_9 (by decide) ?_
    refine wp_iconst (pc := 10) (1) dX7_deaf_10 (by decide) ?_
    refine wc_S_III (pc := 11) dX7_deaf_11 lkX7_49 (by decide) (Nat.le_of_ble_eq_true rfl) ?_
    refine c_X7_isIn ?_
    refine wp_ifneB (pc := 14) 24 dX7_deaf_14 (by decide) (fun c_14 => ?_) (fun c_14 => ?_)
    · refine wp_aload_n (pc := 24) 0 dX7_deaf_24 rfl rfl ?_
      refine wc_V_ (pc := 25) dX7_deaf_25 lkX7_135 (sm_Rc.o (ci := 6) s0_40 (by decide) (by decide)) (by decide) (Nat.le_of_ble_eq_true rfl) ?_
      refine c_X7_been hw hR ?_
      refine wp_istore_n (pc := 28) 3 dX7_deaf_28 rfl (by decide) rfl ?_
      refine wp_aload_n (pc := 29) 0 dX7_deaf_29 rfl rfl ?_
      refine wp_iload_n (pc := 30) 3 dX7_deaf_30 rfl rfl ?_
      refine wc_V_I (pc := 31) dX7_deaf_31 lkX7_65 (sm_Rc.o (ci := 6) s0_40 (by decide) (by decide)) (by decide) (Nat.le_of_ble_eq_true rfl) ?_
      refine c_X7_standsBy hw hR (by omega) ?_
      refine wp_iload_n (pc := 34) 1 dX7_deaf_34 rfl rfl ?_
      refine wp_ior (pc := 35) dX7_deaf_35 ?_
      refine wp_int (bt_or _ _) ?_
      refine wp_istore (pc := 36) 4 dX7_deaf_36 (by decide) rfl ?_
      refine wp_iconst (pc := 38) (0) dX7_deaf_38 (by decide) ?_
      refine wp_istore (pc := 39) 5 dX7_deaf_39 (by decide) rfl ?_
      refine wp_iconst (pc := 41) (-1) dX7_deaf_41 (by decide) ?_
      refine wp_istore (pc := 42) 6 dX7_deaf_42 (by decide) rfl ?_
      refine wp_iconst (pc := 44) (0) dX7_deaf_44 (by decide) ?_
      refine wp_istore (pc := 45) 7 dX7_deaf_45 (by decide) rfl ?_
      unfold do_deaf at k
      rw [qry_t (c := (arTh s (nI b) && (upB y 1))) (and_tt c_5 c_14)] at k
      rw [nI_clamp (by omega)] at k
      refine wp_loop (fun i => [.ref 40, .int (nI b), .int y, .int (nI (bn (sgf s))), .int (nI (sta (sgf s) (bn (sgf s)) ||| b)), .int (nI (cnt (rmP (sgf s) b) i)), .int (eN (fst (rmP (sgf s) b) i)), .int (nI i)]) (fun _ => (S0, F, I, J)) (fun _ => True) (2 ^ sgf s 68) (fun i hi hv0 nx => ?_) (fun hv0 => ?_) 0 (Nat.zero_le _) trivial
      · have hs1 := sta_1024 (sgf s) (bn (sgf s) ||| i)
        have hs2 := or_lt (n := 10) (sta_1024 (sgf s) (bn (sgf s))) (show b < 2 ^ 10 by omega)
        rcases ho : fst (rmP (sgf s) b) i with _ | j
        · refine wp_to (lv' := [.ref 40, .int (nI b), .int y, .int (nI (bn (sgf s))), .int (nI (sta (sgf s) (bn (sgf s)) ||| b)), .int (nI (cnt (rmP (sgf s) b) i)), .int (-1), .int (nI i)]) ?_ rfl rfl rfl
          refine wp_iload (pc := 47) 7 dX7_deaf_47 rfl ?_
          refine wp_iconst (pc := 49) (1) dX7_deaf_49 (by decide) ?_
          refine wp_aload_n (pc := 50) 0 dX7_deaf_50 rfl rfl ?_
          refine wc_V_ (pc := 51) dX7_deaf_51 lkX7_57 (sm_Rc.o (ci := 6) s0_40 (by decide) (by decide)) (by decide) (Nat.le_of_ble_eq_true rfl) ?_
          refine c_X7_many hw hR ?_
          refine wp_ishl (pc := 54) dX7_deaf_54 ?_
          refine wp_int (bt_one (by omega)) ?_
          refine wp_icmp_ge (pc := 55) 102 dX7_deaf_55 (by decide) (fun c_55 => ?_) (fun c_55 => ?_)
          · exact absurd c_55 (nI_ge (b := 2 ^ sgf s 68) hi (by omega))
          · refine wp_iload (pc := 58) 7 dX7_deaf_58 rfl ?_
            refine wp_iload_n (pc := 60) 3 dX7_deaf_60 rfl rfl ?_
            refine wp_iand (pc := 61) dX7_deaf_61 ?_
            refine wp_int (bt_and _ _) ?_
            refine wp_ifne (pc := 62) 96 dX7_deaf_62 (by decide) (fun c_62 => ?_) (fun c_62 => ?_)
            · refine wp_incN (pc := 96) 7 dX7_deaf_96 rfl (by decide) rfl ?_
              refine wp_goto (pc := 99) 47 dX7_deaf_99 (by decide) ?_
              have nx := nx trivial
              have hf : rmP (sgf s) b i = false := by simp [rmP, show ¬ i &&& bn (sgf s) = 0 from fun z => c_62 (by rw [z]; rfl)]
              rw [cnt_f (p := (rmP (sgf s) b)) hf, fst_sF (p := (rmP (sgf s) b)) hf, ho] at nx
              exact nx
            · refine wp_aload_n (pc := 65) 0 dX7_deaf_65 rfl rfl ?_
              refine wp_iload_n (pc := 66) 3 dX7_deaf_66 rfl rfl ?_
              refine wp_iload (pc := 67) 7 dX7_deaf_67 rfl ?_
              refine wp_ior (pc := 69) dX7_deaf_69 ?_
              refine wp_int (bt_or _ _) ?_
              refine wc_V_I (pc := 70) dX7_deaf_70 lkX7_65 (sm_Rc.o (ci := 6) s0_40 (by decide) (by decide)) (by decide) (Nat.le_of_ble_eq_true rfl) ?_
              refine c_X7_standsBy hw hR (or_lt hbl hi) ?_
              refine wp_iload (pc := 73) 4 dX7_deaf_73 rfl ?_
              refine wp_icmp_ne (pc := 75) 96 dX7_deaf_75 (by decide) (fun c_75 => ?_) (fun c_75 => ?_)
              · refine wp_incN (pc := 96) 7 dX7_deaf_96 rfl (by decide) rfl ?_
                refine wp_goto (pc := 99) 47 dX7_deaf_99 (by decide) ?_
                have nx := nx trivial
                have hf : rmP (sgf s) b i = false := by simp [rmP, show ¬ sta (sgf s) (bn (sgf s) ||| i) = sta (sgf s) (bn (sgf s)) ||| b from fun z => c_75 (by rw [z])]
                rw [cnt_f (p := (rmP (sgf s) b)) hf, fst_sF (p := (rmP (sgf s) b)) hf, ho] at nx
                exact nx
              · refine wp_incN (pc := 78) 5 dX7_deaf_78 rfl (by decide) rfl ?_
                refine wp_iload (pc := 81) 6 dX7_deaf_81 rfl ?_
                refine wp_iconst (pc := 83) (-1) dX7_deaf_83 (by decide) ?_
                refine wp_icmp_ne (pc := 84) 92 dX7_deaf_84 (by decide) (fun c_84 => ?_) (fun c_84 => ?_)
                · exact absurd (by decide) c_84
                · refine wp_iload (pc := 87) 7 dX7_deaf_87 rfl ?_
                  refine wp_goto (pc := 89) 94 dX7_deaf_89 (by decide) ?_
                  refine wp_istore (pc := 94) 6 dX7_deaf_94 (by decide) rfl ?_
                  refine wp_incN (pc := 96) 7 dX7_deaf_96 rfl (by decide) rfl ?_
                  refine wp_goto (pc := 99) 47 dX7_deaf_99 (by decide) ?_
                  have nx := nx trivial
                  have hf : rmP (sgf s) b i = true := by simp [rmP, (nIz (and_lt (n := 10) _ (show i < 2 ^ 10 by omega))).mp c_62, (nI_eq (by omega) (by omega)).mp c_75]
                  rw [cnt_t (p := (rmP (sgf s) b)) hf, fst_sN (p := (rmP (sgf s) b)) ho hf] at nx
                  exact nx
        · have hj := (fst_get ho).1
          refine wp_to (lv' := [.ref 40, .int (nI b), .int y, .int (nI (bn (sgf s))), .int (nI (sta (sgf s) (bn (sgf s)) ||| b)), .int (nI (cnt (rmP (sgf s) b) i)), .int (nI j), .int (nI i)]) ?_ rfl rfl rfl
          refine wp_iload (pc := 47) 7 dX7_deaf_47 rfl ?_
          refine wp_iconst (pc := 49) (1) dX7_deaf_49 (by decide) ?_
          refine wp_aload_n (pc := 50) 0 dX7_deaf_50 rfl rfl ?_
          refine wc_V_ (pc := 51) dX7_deaf_51 lkX7_57 (sm_Rc.o (ci := 6) s0_40 (by decide) (by decide)) (by decide) (Nat.le_of_ble_eq_true rfl) ?_
          refine c_X7_many hw hR ?_
          refine wp_ishl (pc := 54) dX7_deaf_54 ?_
          refine wp_int (bt_one (by omega)) ?_
          refine wp_icmp_ge (pc := 55) 102 dX7_deaf_55 (by decide) (fun c_55 => ?_) (fun c_55 => ?_)
          · exact absurd c_55 (nI_ge (b := 2 ^ sgf s 68) hi (by omega))
          · refine wp_iload (pc := 58) 7 dX7_deaf_58 rfl ?_
            refine wp_iload_n (pc := 60) 3 dX7_deaf_60 rfl rfl ?_
            refine wp_iand (pc := 61) dX7_deaf_61 ?_
            refine wp_int (bt_and _ _) ?_
            refine wp_ifne (pc := 62) 96 dX7_deaf_62 (by decide) (fun c_62 => ?_) (fun c_62 => ?_)
            · refine wp_incN (pc := 96) 7 dX7_deaf_96 rfl (by decide) rfl ?_
              refine wp_goto (pc := 99) 47 dX7_deaf_99 (by decide) ?_
              have nx := nx trivial
              have hf : rmP (sgf s) b i = false := by simp [rmP, show ¬ i &&& bn (sgf s) = 0 from fun z => c_62 (by rw [z]; rfl)]
              rw [cnt_f (p := (rmP (sgf s) b)) hf, fst_sF (p := (rmP (sgf s) b)) hf, ho] at nx
              exact nx
            · refine wp_aload_n (pc := 65) 0 dX7_deaf_65 rfl rfl ?_
              refine wp_iload_n (pc := 66) 3 dX7_deaf_66 rfl rfl ?_
              refine wp_iload (pc := 67) 7 dX7_deaf_67 rfl ?_
              refine wp_ior (pc := 69) dX7_deaf_69 ?_
              refine wp_int (bt_or _ _) ?_
              refine wc_V_I (pc := 70) dX7_deaf_70 lkX7_65 (sm_Rc.o (ci := 6) s0_40 (by decide) (by decide)) (by decide) (Nat.le_of_ble_eq_true rfl) ?_
              refine c_X7_standsBy hw hR (or_lt hbl hi) ?_
              refine wp_iload (pc := 73) 4 dX7_deaf_73 rfl ?_
              refine wp_icmp_ne (pc := 75) 96 dX7_deaf_75 (by decide) (fun c_75 => ?_) (fun c_75 => ?_)
              · refine wp_incN (pc := 96) 7 dX7_deaf_96 rfl (by decide) rfl ?_
                refine wp_goto (pc := 99) 47 dX7_deaf_99 (by decide) ?_
                have nx := nx trivial
                have hf : rmP (sgf s) b i = false := by simp [rmP, show ¬ sta (sgf s) (bn (sgf s) ||| i) = sta (sgf s) (bn (sgf s)) ||| b from fun z => c_75 (by rw [z])]
                rw [cnt_f (p := (rmP (sgf s) b)) hf, fst_sF (p := (rmP (sgf s) b)) hf, ho] at nx
                exact nx
              · refine wp_incN (pc := 78) 5 dX7_deaf_78 rfl (by decide) rfl ?_
                refine wp_iload (pc := 81) 6 dX7_deaf_81 rfl ?_
                refine wp_iconst (pc := 83) (-1) dX7_deaf_83 (by decide) ?_
                refine wp_icmp_ne (pc := 84) 92 dX7_deaf_84 (by decide) (fun c_84 => ?_) (fun c_84 => ?_)
                · refine wp_iload (pc := 92) 6 dX7_deaf_92 rfl ?_
                  refine wp_istore (pc := 94) 6 dX7_deaf_94 (by decide) rfl ?_
                  refine wp_incN (pc := 96) 7 dX7_deaf_96 rfl (by decide) rfl ?_
                  refine wp_goto (pc := 99) 47 dX7_deaf_99 (by decide) ?_
                  have nx := nx trivial
                  have hf : rmP (sgf s) b i = true := by simp [rmP, (nIz (and_lt (n := 10) _ (show i < 2 ^ 10 by omega))).mp c_62, (nI_eq (by omega) (by omega)).mp c_75]
                  rw [cnt_t (p := (rmP (sgf s) b)) hf, fst_sS (p := (rmP (sgf s) b)) ho] at nx
                  exact nx
                · exact absurd c_84 (m1_ne (by omega))
      · refine wp_iload (pc := 47) 7 dX7_deaf_47 rfl ?_
        refine wp_iconst (pc := 49) (1) dX7_deaf_49 (by decide) ?_
        refine wp_aload_n (pc := 50) 0 dX7_deaf_50 rfl rfl ?_
        refine wc_V_ (pc := 51) dX7_deaf_51 lkX7_57 (sm_Rc.o (ci := 6) s0_40 (by decide) (by decide)) (by decide) (Nat.le_of_ble_eq_true rfl) ?_
        refine c_X7_many hw hR ?_
        refine wp_ishl (pc := 54) dX7_deaf_54 ?_
        refine wp_int (bt_one (by omega)) ?_
        refine wp_icmp_ge (pc := 55) 102 dX7_deaf_55 (by decide) (fun c_55 => ?_) (fun c_55 => ?_)
        · refine wp_iload_n (pc := 102) 2 dX7_deaf_102 rfl rfl ?_
          refine wp_ifne (pc := 103) 111 dX7_deaf_103 (by decide) (fun c_103 => ?_) (fun c_103 => ?_)
          · refine wp_iload (pc := 111) 6 dX7_deaf_111 rfl ?_
            refine wp_iretI (pc := 113) dX7_deaf_113 rfl ?_
            rw [if_neg c_103] at k
            exact k _ _ _ hM Lo.rf
          · refine wp_iload (pc := 106) 5 dX7_deaf_106 rfl ?_
            refine wp_goto (pc := 108) 113 dX7_deaf_108 (by decide) ?_
            refine wp_iretI (pc := 113) dX7_deaf_113 rfl ?_
            rw [if_pos c_103] at k
            exact k _ _ _ hM Lo.rf
        · exact absurd (Int32.le_refl _) c_55
    · refine wp_aload_n (pc := 17) 0 dX7_deaf_17 rfl rfl ?_
      refine wp_bipush (pc := 18) (-2) dX7_deaf_18 (by decide) ?_
      refine wc_V_I (pc := 20) dX7_deaf_20 lkX7_81 (sm_Rc.o (ci := 6) s0_40 (by decide) (by decide)) (by decide) (Nat.le_of_ble_eq_true rfl) ?_
      refine c_X7_no_0 ?_
      refine wp_iretI (pc := 23) dX7_deaf_23 rfl ?_
      unfold do_deaf at k
      rw [qry_f (c := (arTh s (nI b) && (upB y 1))) (and_f2 c_14)] at k
      exact k _ _ _ (hM.bmp (by decide)) (Lo.rf.uI (by decide))
