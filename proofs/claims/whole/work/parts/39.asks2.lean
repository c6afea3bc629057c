/-! ===== more that the object answers ===== -/
def oV (o : Option Nat) (g : Nat → Nat) : Int32 := match o with
  | none => -1
  | some i => nI (g i)
def do_worst (s : Sg) (x : Int32) : Int32 × Sg := qry (upB x 1) (if x = 0 then eN (worstB (sgf s) (bn (sgf s)) ((sgf s) 68)) else oV (worstB (sgf s) (bn (sgf s)) ((sgf s) 68)) (fun i => val (sgf s) (dif (bn (sgf s)) (2 ^ i)))) s
theorem c_X6_worst {d : Nat} {F I : Nat → Nat → Int32} {J : Nat → Nat → Int64} {Q : Option Value → sm_H → Prop} {x : Int32} {s : Sg} (hC : CR s F I J) (ok : Ok s) (k : ∀ F1 I1 J1, CR (do_worst s x).2 F1 I1 J1 → Hi F I J F1 I1 J1 → Q (some (.int (do_worst s x).1)) (S0, F1, I1, J1)) : Wp mX6_worst (d + 4) 0 0 0 (sm_ini [.ref 0, .int x] 3) [] (S0, F, I, J) Q := by
  show Wp _ _ _ _ _ [.ref 0, .int x, .null] _ _ _
  have ht : isT 1 := Or.inl rfl
  have hw := ok.1
  have hT := hC.1
  have hn := hw.n
  have hbn := bn_1024 hw
  have hh1 := hw.wth
  have hh2 := hw.crk
  have hh3 := hw.year
  refine wp_iload_n (pc := 0) 1 dX6_worst_0 rfl rfl ?_
  refine wp_iconst (pc := 1) (1) dX6_worst_1 (by decide) ?_
  refine wc_S_II (pc := 2) dX6_worst_2 lkX6_55 (by decide) (Nat.le_of_ble_eq_true rfl) ?_
  refine c_X6_upTo ?_
  refine wp_ifneB (pc := 5) 15 dX6_worst_5 (by decide) (fun c_5 => ?_) (fun c_5 => ?_)
  · refine wp_aload_n (pc := 15) 0 dX6_worst_15 rfl rfl ?_
    refine wq_getR (pc := 16) 10 0 dX6_worst_16 s0_0 flX6_10 rfl rfl (by decide) (by decide) ?_
    refine wp_aload_n (pc := 19) 0 dX6_worst_19 rfl rfl ?_
    refine wq_getR (pc := 20) 10 0 dX6_worst_20 s0_0 flX6_10 rfl rfl (by decide) (by decide) ?_
    refine wq_getI (pc := 23) 202 5 dX6_worst_23 s0_1 flX6_202 rfl (by decide) ?_
    refine wp_int hT.been ?_
    refine wc_S_RI (pc := 26) dX6_worst_26 lkX6_265 (by decide) (Nat.le_of_ble_eq_true rfl) ?_
    refine c_X1_worstBack ht hw hT hbn ?_
    refine wp_istore_n (pc := 29) 2 dX6_worst_29 rfl (by decide) rfl ?_
    unfold do_worst at k
    rw [qry_t (c := upB x 1) c_5] at k
    rcases ho : worstB (sgf s) (bn (sgf s)) ((sgf s) 68) with _ | j
    · refine wp_to (lv' := [Value.ref 0, Value.int x, Value.int (-1)]) ?_ rfl rfl rfl
      refine wp_iload_n (pc := 30) 1 dX6_worst_30 rfl rfl ?_
      refine wp_ifeq (pc := 31) 39 dX6_worst_31 (by decide) (fun c_31 => ?_) (fun c_31 => ?_)
      · refine wp_iload_n (pc := 39) 2 dX6_worst_39 rfl rfl ?_
        refine wp_goto (pc := 40) 63 dX6_worst_40 (by decide) ?_
        refine wp_iretI (pc := 63) dX6_worst_63 rfl ?_
        rw [if_pos c_31, ho] at k
        exact k _ _ _ hC Hi.rf
      · refine wp_iload_n (pc := 34) 2 dX6_worst_34 rfl rfl ?_
        refine wp_iconst (pc := 35) (-1) dX6_worst_35 (by decide) ?_
        refine wp_icmp_ne (pc := 36) 43 dX6_worst_36 (by decide) (fun c_36 => ?_) (fun c_36 => ?_)
        · exact absurd (by decide) c_36
        · refine wp_iload_n (pc := 39) 2 dX6_worst_39 rfl rfl ?_
          refine wp_goto (pc := 40) 63 dX6_worst_40 (by decide) ?_
          refine wp_iretI (pc := 63) dX6_worst_63 rfl ?_
          rw [if_neg c_31, ho] at k
          exact k _ _ _ hC Hi.rf
    · have hj := (bestU_lt ho).1
      refine wp_to (lv' := [Value.ref 0, Value.int x, Value.int (nI j)]) ?_ rfl rfl rfl
      refine wp_iload_n (pc := 30) 1 dX6_worst_30 rfl rfl ?_
      refine wp_ifeq (pc := 31) 39 dX6_worst_31 (by decide) (fun c_31 => ?_) (fun c_31 => ?_)
      · refine wp_iload_n (pc := 39) 2 dX6_worst_39 rfl rfl ?_
        refine wp_goto (pc := 40) 63 dX6_worst_40 (by decide) ?_
        refine wp_iretI (pc := 63) dX6_worst_63 rfl ?_
        rw [if_pos c_31, ho] at k
        exact k _ _ _ hC Hi.rf
      · refine wp_iload_n (pc := 34) 2 dX6_worst_34 rfl rfl ?_
        refine wp_iconst (pc := 35) (-1) dX6_worst_35 (by decide) ?_
        refine wp_icmp_ne (pc := 36) 43 dX6_worst_36 (by decide) (fun c_36 => ?_) (fun c_36 => ?_)
        · refine wp_aload_n (pc := 43) 0 dX6_worst_43 rfl rfl ?_
          refine wq_getR (pc := 44) 10 0 dX6_worst_44 s0_0 flX6_10 rfl rfl (by decide) (by decide) ?_
          refine wp_aload_n (pc := 47) 0 dX6_worst_47 rfl rfl ?_
          refine wq_getR (pc := 48) 10 0 dX6_worst_48 s0_0 flX6_10 rfl rfl (by decide) (by decide) ?_
          refine wq_getI (pc := 51) 202 5 dX6_worst_51 s0_1 flX6_202 rfl (by decide) ?_
          refine wp_int hT.been ?_
          refine wp_iconst (pc := 54) (1) dX6_worst_54 (by decide) ?_
          refine wp_iload_n (pc := 55) 2 dX6_worst_55 rfl rfl ?_
          refine wp_ishl (pc := 56) dX6_worst_56 ?_
          refine wp_int (bt_one (by omega)) ?_
          refine wp_iconst (pc := 57) (-1) dX6_worst_57 (by decide) ?_
          refine wp_ixor (pc := 58) dX6_worst_58 ?_
          refine wp_iand (pc := 59) dX6_worst_59 ?_
          refine wp_int (bt_dif _ _) ?_
          refine wc_V_I (pc := 60) dX6_worst_60 lkX6_268 (sm_Rc.o (ci := 4) s0_1 (by decide) (by decide)) (by decide) (Nat.le_of_ble_eq_true rfl) ?_
          refine c_X5_valueIf ht hw hT (dif_1024 _ hbn) ?_
          refine wp_iretI (pc := 63) dX6_worst_63 rfl ?_
          rw [if_neg c_31, ho] at k
          exact k _ _ _ hC Hi.rf
        · exact absurd c_36 (m1_ne (by omega))
  · refine wp_aload_n (pc := 8) 0 dX6_worst_8 rfl rfl ?_
    refine wp_bipush (pc := 9) (-2) dX6_worst_9 (by decide) ?_
    refine wc_V_I (pc := 11) dX6_worst_11 lkX6_59 (sm_Rc.o (ci := 5) s0_0 (by decide) (by decide)) (by decide) (Nat.le_of_ble_eq_true rfl) ?_
    refine c_X6_refuse_0 ?_
    refine wp_iretI (pc := 14) dX6_worst_14 rfl ?_
    unfold do_worst at k
    rw [qry_f (c := (upB x 1)) c_5] at k
    exact k _ _ _ (hC.bmp (by decide)) (Hi.rf.uI (by decide))
def do_best (s : Sg) (x : Int32) : Int32 × Sg := qry (upB x 1) (if x = 0 then eN (bestF (sgf s) ((sgf s) 68)) else oV (bestF (sgf s) ((sgf s) 68)) (fun i => val (sgf s) (bn (sgf s) ||| 2 ^ i))) s
theorem c_X6_best {d : Nat} {F I : Nat → Nat → Int32} {J : Nat → Nat → Int64} {Q : Option Value → sm_H → Prop} {x : Int32} {s : Sg} (hC : CR s F I J) (ok : Ok s) (k : ∀ F1 I1 J1, CR (do_best s x).2 F1 I1 J1 → Hi F I J F1 I1 J1 → Q (some (.int (do_best s x).1)) (S0, F1, I1, J1)) : Wp mX6_best (d + 4) 0 0 0 (sm_ini [.ref 0, .int x] 3) [] (S0, F, I, J) Q := by
  show Wp _ _ _ _ _ [.ref 0, .int x, .null] _ _ _
  have ht : isT 1 := Or.inl rfl
  have hw := ok.1
  have hT := hC.1
  have hn := hw.n
  have hbn := bn_1024 hw
  have hh1 := hw.wth
  have hh2 := hw.crk
  have hh3 := hw.year
  refine wp_iload_n (pc := 0) 1 dX6_best_0 rfl rfl ?_
  refine wp_iconst (pc := 1) (1) dX6_best_1 (by decide) ?_
  refine wc_S_II (pc := 2) dX6_best_2 lkX6_55 (by decide) (Nat.le_of_ble_eq_true rfl) ?_
  refine c_X6_upTo ?_
  refine wp_ifneB (pc := 5) 15 dX6_best_5 (by decide) (fun c_5 => ?_) (fun c_5 => ?_)
  · refine wp_aload_n (pc := 15) 0 dX6_best_15 rfl rfl ?_
    refine wq_getR (pc := 16) 10 0 dX6_best_16 s0_0 flX6_10 rfl rfl (by decide) (by decide) ?_
    refine wc_S_R (pc := 19) dX6_best_19 lkX6_271 (by decide) (Nat.le_of_ble_eq_true rfl) ?_
    refine c_X1_bestForwards ht hw hT ?_
    refine wp_istore_n (pc := 22) 2 dX6_best_22 rfl (by decide) rfl ?_
    unfold do_best at k
    rw [qry_t (c := upB x 1) c_5] at k
    rcases ho : bestF (sgf s) ((sgf s) 68) with _ | j
    · refine wp_to (lv' := [Value.ref 0, Value.int x, Value.int (-1)]) ?_ rfl rfl rfl
      refine wp_iload_n (pc := 23) 1 dX6_best_23 rfl rfl ?_
      refine wp_ifeq (pc := 24) 32 dX6_best_24 (by decide) (fun c_24 => ?_) (fun c_24 => ?_)
      · refine wp_iload_n (pc := 32) 2 dX6_best_32 rfl rfl ?_
        refine wp_goto (pc := 33) 54 dX6_best_33 (by decide) ?_
        refine wp_iretI (pc := 54) dX6_best_54 rfl ?_
        rw [if_pos c_24, ho] at k
        exact k _ _ _ hC Hi.rf
      · refine wp_iload_n (pc := 27) 2 dX6_best_27 rfl rfl ?_
        refine wp_iconst (pc := 28) (-1) dX6_best_28 (by decide) ?_
        refine wp_icmp_ne (pc := 29) 36 dX6_best_29 (by decide) (fun c_29 => ?_) (fun c_29 => ?_)
        · exact absurd (by decide) c_29
        · refine wp_iload_n (pc := 32) 2 dX6_best_32 rfl rfl ?_
          refine wp_goto (pc := 33) 54 dX6_best_33 (by decide) ?_
          refine wp_iretI (pc := 54) dX6_best_54 rfl ?_
          rw [if_neg c_24, ho] at k
          exact k _ _ _ hC Hi.rf
    · have hj := (bestU_lt ho).1
      have hpj : 2 ^ j < 2 ^ 10 := p2_lt (show j < 10 by omega)
      refine wp_to (lv' := [Value.ref 0, Value.int x, Value.int (nI j)]) ?_ rfl rfl rfl
      refine wp_iload_n (pc := 23) 1 dX6_best_23 rfl rfl ?_
      refine wp_ifeq (pc := 24) 32 dX6_best_24 (by decide) (fun c_24 => ?_) (fun c_24 => ?_)
      · refine wp_iload_n (pc := 32) 2 dX6_best_32 rfl rfl ?_
        refine wp_goto (pc := 33) 54 dX6_best_33 (by decide) ?_
        refine wp_iretI (pc := 54) dX6_best_54 rfl ?_
        rw [if_pos c_24, ho] at k
        exact k _ _ _ hC Hi.rf
      · refine wp_iload_n (pc := 27) 2 dX6_best_27 rfl rfl ?_
        refine wp_iconst (pc := 28) (-1) dX6_best_28 (by decide) ?_
        refine wp_icmp_ne (pc := 29) 36 dX6_best_29 (by decide) (fun c_29 => ?_) (fun c_29 => ?_)
        · refine wp_aload_n (pc := 36) 0 dX6_best_36 rfl rfl ?_
          refine wq_getR (pc := 37) 10 0 dX6_best_37 s0_0 flX6_10 rfl rfl (by decide) (by decide) ?_
          refine wp_aload_n (pc := 40) 0 dX6_best_40 rfl rfl ?_
          refine wq_getR (pc := 41) 10 0 dX6_best_41 s0_0 flX6_10 rfl rfl (by decide) (by decide) ?_
          refine wq_getI (pc := 44) 202 5 dX6_best_44 s0_1 flX6_202 rfl (by decide) ?_
          refine wp_int hT.been ?_
          refine wp_iconst (pc := 47) (1) dX6_best_47 (by decide) ?_
          refine wp_iload_n (pc := 48) 2 dX6_best_48 rfl rfl ?_
          refine wp_ishl (pc := 49) dX6_best_49 ?_
          refine wp_int (bt_one (by omega)) ?_
          refine wp_ior (pc := 50) dX6_best_50 ?_
          refine wp_int (bt_or _ _) ?_
          refine wc_V_I (pc := 51) dX6_best_51 lkX6_268 (sm_Rc.o (ci := 4) s0_1 (by decide) (by decide)) (by decide) (Nat.le_of_ble_eq_true rfl) ?_
          refine c_X5_valueIf ht hw hT (or_lt (n := 10) hbn hpj) ?_
          refine wp_iretI (pc := 54) dX6_best_54 rfl ?_
          rw [if_neg c_24, ho] at k
          exact k _ _ _ hC Hi.rf
        · exact absurd c_29 (m1_ne (by omega))
  · refine wp_aload_n (pc := 8) 0 dX6_best_8 rfl rfl ?_
    refine wp_bipush (pc := 9) (-2) dX6_best_9 (by decide) ?_
    refine wc_V_I (pc := 11) dX6_best_11 lkX6_59 (sm_Rc.o (ci := 5) s0_0 (by decide) (by decide)) (by decide) (Nat.le_of_ble_eq_true rfl) ?_
    refine c_X6_refuse_0 ?_
    refine wp_iretI (pc := 14) dX6_best_14 rfl ?_
    unfold do_best at k
    rw [qry_f (c := (upB x 1)) c_5] at k
    exact k _ _ _ (hC.bmp (by decide)) (Hi.rf.uI (by decide))
def do_pair (s : Sg) (x : Int32) : Int32 × Sg := qry (upB x 1) (if x = 0 then eN ((prU (sgf s) ((sgf s) 68)).map Prod.fst) else oV ((prU (sgf s) ((sgf s) 68)).map Prod.fst) (fun c => val (sgf s) (dif (bn (sgf s)) (2 ^ (c / 10) ||| 2 ^ (c % 10))))) s
theorem c_X6_pair {d : Nat} {F I : Nat → Nat → Int32} {J : Nat → Nat → Int64} {Q : Option Value → sm_H → Prop} {x : Int32} {s : Sg} (hC : CR s F I J) (ok : Ok s) (k : ∀ F1 I1 J1, CR (do_pair s x).2 F1 I1 J1 → Hi F I J F1 I1 J1 → Q (some (.int (do_pair s x).1)) (S0, F1, I1, J1)) : Wp mX6_pair (d + 4) 0 0 0 (sm_ini [.ref 0, .int x] 3) [] (S0, F, I, J) Q := by
  show Wp _ _ _ _ _ [.ref 0, .int x, .null] _ _ _
  have ht : isT 1 := Or.inl rfl
  have hw := ok.1
  have hT := hC.1
  have hn := hw.n
  have hbn := bn_1024 hw
  have hh1 := hw.wth
  have hh2 := hw.crk
  have hh3 := hw.year
  refine wp_iload_n (pc := 0) 1 dX6_pair_0 rfl rfl ?_
  refine wp_iconst (pc := 1) (1) dX6_pair_1 (by decide) ?_
  refine wc_S_II (pc := 2) dX6_pair_2 lkX6_55 (by decide) (Nat.le_of_ble_eq_true rfl) ?_
  refine c_X6_upTo ?_
  refine wp_ifneB (pc := 5) 15 dX6_pair_5 (by decide) (fun c_5 => ?_) (fun c_5 => ?_)
  · refine wp_aload_n (pc := 15) 0 dX6_pair_15 rfl rfl ?_
    refine wq_getR (pc := 16) 10 0 dX6_pair_16 s0_0 flX6_10 rfl rfl (by decide) (by decide) ?_
    refine wc_S_R (pc := 19) dX6_pair_19 lkX6_296 (by decide) (Nat.le_of_ble_eq_true rfl) ?_
    refine c_X1_worstPair ht hw hT ?_
    refine wp_istore_n (pc := 22) 2 dX6_pair_22 rfl (by decide) rfl ?_
    unfold do_pair at k
    rw [qry_t (c := upB x 1) c_5] at k
    rcases ho : ((prU (sgf s) ((sgf s) 68)).map Prod.fst) with _ | j
    · refine wp_to (lv' := [Value.ref 0, Value.int x, Value.int (-1)]) ?_ rfl rfl rfl
      refine wp_iload_n (pc := 23) 1 dX6_pair_23 rfl rfl ?_
      refine wp_ifeq (pc := 24) 32 dX6_pair_24 (by decide) (fun c_24 => ?_) (fun c_24 => ?_)
      · refine wp_iload_n (pc := 32) 2 dX6_pair_32 rfl rfl ?_
        refine wp_goto (pc := 33) 66 dX6_pair_33 (by decide) ?_
        refine wp_iretI (pc := 66) dX6_pair_66 rfl ?_
        rw [if_pos c_24, ho] at k
        exact k _ _ _ hC Hi.rf
      · refine wp_iload_n (pc := 27) 2 dX6_pair_27 rfl rfl ?_
        refine wp_iconst (pc := 28) (-1) dX6_pair_28 (by decide) ?_
        refine wp_icmp_ne (pc := 29) 36 dX6_pair_29 (by decide) (fun c_29 => ?_) (fun c_29 => ?_)
        · exact absurd (by decide) c_29
        · refine wp_iload_n (pc := 32) 2 dX6_pair_32 rfl rfl ?_
          refine wp_goto (pc := 33) 66 dX6_pair_33 (by decide) ?_
          refine wp_iretI (pc := 66) dX6_pair_66 rfl ?_
          rw [if_neg c_24, ho] at k
          exact k _ _ _ hC Hi.rf
    · have hj : j < 110 := by
        rcases hq : prU (sgf s) (sgf s 68) with _ | ⟨c, v⟩
        · rw [hq] at ho; cases ho
        · rw [hq] at ho; cases ho; exact (okP_U hw hn c v hq).1
      refine wp_to (lv' := [Value.ref 0, Value.int x, Value.int (nI j)]) ?_ rfl rfl rfl
      refine wp_iload_n (pc := 23) 1 dX6_pair_23 rfl rfl ?_
      refine wp_ifeq (pc := 24) 32 dX6_pair_24 (by decide) (fun c_24 => ?_) (fun c_24 => ?_)
      · refine wp_iload_n (pc := 32) 2 dX6_pair_32 rfl rfl ?_
        refine wp_goto (pc := 33) 66 dX6_pair_33 (by decide) ?_
        refine wp_iretI (pc := 66) dX6_pair_66 rfl ?_
        rw [if_pos c_24, ho] at k
        exact k _ _ _ hC Hi.rf
      · refine wp_iload_n (pc := 27) 2 dX6_pair_27 rfl rfl ?_
        refine wp_iconst (pc := 28) (-1) dX6_pair_28 (by decide) ?_
        refine wp_icmp_ne (pc := 29) 36 dX6_pair_29 (by decide) (fun c_29 => ?_) (fun c_29 => ?_)
        · refine wp_aload_n (pc := 36) 0 dX6_pair_36 rfl rfl ?_
          refine wq_getR (pc := 37) 10 0 dX6_pair_37 s0_0 flX6_10 rfl rfl (by decide) (by decide) ?_
          refine wp_aload_n (pc := 40) 0 dX6_pair_40 rfl rfl ?_
          refine wq_getR (pc := 41) 10 0 dX6_pair_41 s0_0 flX6_10 rfl rfl (by decide) (by decide) ?_
          refine wq_getI (pc := 44) 202 5 dX6_pair_44 s0_1 flX6_202 rfl (by decide) ?_
          refine wp_int hT.been ?_
          refine wp_iconst (pc := 47) (1) dX6_pair_47 (by decide) ?_
          refine wp_iload_n (pc := 48) 2 dX6_pair_48 rfl rfl ?_
          refine wp_bipush (pc := 49) (10) dX6_pair_49 (by decide) ?_
          refine wp_idiv (pc := 51) dX6_pair_51 (by decide) ?_
          refine wp_int (pk_div (d := 10) (by omega) (by decide) (by decide)) ?_
          refine wp_ishl (pc := 52) dX6_pair_52 ?_
          refine wp_int (bt_one (by omega)) ?_
          refine wp_iconst (pc := 53) (1) dX6_pair_53 (by decide) ?_
          refine wp_iload_n (pc := 54) 2 dX6_pair_54 rfl rfl ?_
          refine wp_bipush (pc := 55) (10) dX6_pair_55 (by decide) ?_
          refine wp_irem (pc := 57) dX6_pair_57 (by decide) ?_
          refine wp_int (pk_rem (d := 10) (by omega) (by decide) (by decide)) ?_
          refine wp_ishl (pc := 58) dX6_pair_58 ?_
          refine wp_int (bt_one (by omega)) ?_
          refine wp_ior (pc := 59) dX6_pair_59 ?_
          refine wp_int (bt_or _ _) ?_
          refine wp_iconst (pc := 60) (-1) dX6_pair_60 (by decide) ?_
          refine wp_ixor (pc := 61) dX6_pair_61 ?_
          refine wp_iand (pc := 62) dX6_pair_62 ?_
          refine wp_int (bt_dif _ _) ?_
          refine wc_V_I (pc := 63) dX6_pair_63 lkX6_268 (sm_Rc.o (ci := 4) s0_1 (by decide) (by decide)) (by decide) (Nat.le_of_ble_eq_true rfl) ?_
          refine c_X5_valueIf ht hw hT (dif_1024 _ hbn) ?_
          refine wp_iretI (pc := 66) dX6_pair_66 rfl ?_
          rw [if_neg c_24, ho] at k
          exact k _ _ _ hC Hi.rf
        · exact absurd c_29 (m1_ne (by omega))
  · refine wp_aload_n (pc := 8) 0 dX6_pair_8 rfl rfl ?_
    refine wp_bipush (pc := 9) (-2) dX6_pair_9 (by decide) ?_
    refine wc_V_I (pc := 11) dX6_pair_11 lkX6_59 (sm_Rc.o (ci := 5) s0_0 (by decide) (by decide)) (by decide) (Nat.le_of_ble_eq_true rfl) ?_
    refine c_X6_refuse_0 ?_
    refine wp_iretI (pc := 14) dX6_pair_14 rfl ?_
    unfold do_pair at k
    rw [qry_f (c := (upB x 1)) c_5] at k
    exact k _ _ _ (hC.bmp (by decide)) (Hi.rf.uI (by decide))
theorem c_X1_firstPlayed_0 {d : Nat} {F I : Nat → Nat → Int32} {J : Nat → Nat → Int64} {Q : Option Value → sm_H → Prop} {t : Nat} (ht : isT t) {f : rw_} (hw : WF f) (hT : Tw t f F I) (k : Q (some (.int (-1))) (S0, F, I, J)) : Wp mX1_firstPlayed d 0 0 0 (sm_ini [.ref t, .int (nI 0)] 6) [] (S0, F, I, J) Q := by
  show Wp _ _ _ _ _ [.ref t, .int (nI 0), .null, .null, .null, .null] _ _ _
  refine wp_iconst (pc := 0) (-1) dX1_firstPlayed_0 (by decide) ?_
  refine wp_istore_n (pc := 1) 2 dX1_firstPlayed_1 rfl (by decide) rfl ?_
  refine wp_sipush (pc := 2) (1000) dX1_firstPlayed_2 (by decide) ?_
  refine wp_istore_n (pc := 5) 3 dX1_firstPlayed_5 rfl (by decide) rfl ?_
  refine wp_iconst (pc := 6) (0) dX1_firstPlayed_6 (by decide) ?_
  refine wp_istore (pc := 7) 4 dX1_firstPlayed_7 (by decide) rfl ?_
  refine wp_iload (pc := 9) 4 dX1_firstPlayed_9 rfl ?_
  refine wp_aload_n (pc := 11) 0 dX1_firstPlayed_11 rfl rfl ?_
  refine wq_getI (pc := 12) 41 0 dX1_firstPlayed_12 (tT ht) flX1_41 rfl ht.lt ?_
  refine wp_int hT.n ?_
  refine wp_icmp_ge (pc := 15) 73 dX1_firstPlayed_15 (by decide) (fun c_15 => ?_) (fun c_15 => ?_)
  · refine wp_iload_n (pc := 73) 2 dX1_firstPlayed_73 rfl rfl ?_
    refine wp_iretI (pc := 74) dX1_firstPlayed_74 rfl ?_
    exact k
  · refine wp_iload_n (pc := 18) 1 dX1_firstPlayed_18 rfl rfl ?_
    refine wp_ifle (pc := 19) 73 dX1_firstPlayed_19 (by decide) (fun c_19 => ?_) (fun c_19 => ?_)
    · refine wp_iload_n (pc := 73) 2 dX1_firstPlayed_73 rfl rfl ?_
      refine wp_iretI (pc := 74) dX1_firstPlayed_74 rfl ?_
      exact k
    · exact absurd (by decide) c_19
def fpV (f : rw_) (v : Nat) : Int32 := if v = 0 then -1 else eN (fpU f (v - 1) (f 68))
theorem c_X1_firstPlayed_a {d : Nat} {F I : Nat → Nat → Int32} {J : Nat → Nat → Int64} {Q : Option Value → sm_H → Prop} {t : Nat} (ht : isT t) {f : rw_} (hw : WF f) (hT : Tw t f F I) {v : Nat} (hv : v ≤ 5) (k : Q (some (.int (fpV f v))) (S0, F, I, J)) : Wp mX1_firstPlayed (d + 10) 0 0 0 (sm_ini [.ref t, .int (nI v)] 6) [] (S0, F, I, J) Q := by
  cases v with
  | zero => exact c_X1_firstPlayed_0 ht hw hT k
  | succ v => exact wp_deep (d1 := d + v + 5) (by omega) (c_X1_firstPlayed ht hw hT (by omega) k)
theorem c_X1_valuePlayed_a {d : Nat} {F I : Nat → Nat → Int32} {J : Nat → Nat → Int64} {Q : Option Value → sm_H → Prop} {t : Nat} (ht : isT t) {f : rw_} (hw : WF f) (hT : Tw t f F I) {v : Nat} (hv : v ≤ 5) (k : Q (some (.int (nI (mm f v (bn f) true)))) (S0, F, I, J)) : Wp mX1_valuePlayed (d + 10) 0 0 0 (sm_ini [.ref t, .int (nI v)] 2) [] (S0, F, I, J) Q :=
  wp_deep (d1 := d + v + 5) (by omega) (c_X1_valuePlayed ht hw hT (by omega) k)
def do_parishes (s : Sg) (x y : Int32) : Int32 × Sg := qry (upB x 5 && (upB y 1)) (if y = 0 then nI (mm (sgf s) x.toNatClampNeg (bn (sgf s)) true) else fpV (sgf s) x.toNatClampNeg) s
theorem c_X6_parishes {d : Nat} {F I : Nat → Nat → Int32} {J : Nat → Nat → Int64} {Q : Option Value → sm_H → Prop} {x y : Int32} {s : Sg} (hC : CR s F I J) (ok : Ok s) (k : ∀ F1 I1 J1, CR (do_parishes s x y).2 F1 I1 J1 → Hi F I J F1 I1 J1 → Q (some (.int (do_parishes s x y).1)) (S0, F1, I1, J1)) : Wp mX6_parishes (d + 11) 0 0 0 (sm_ini [.ref 0, .int x, .int y] 3) [] (S0, F, I, J) Q := by
  show Wp _ _ _ _ _ [.ref 0, .int x, .int y] _ _ _
  have ht : isT 1 := Or.inl rfl
  have hw := ok.1
  have hT := hC.1
  have hn := hw.n
  have hbn := bn_1024 hw
  have hh1 := hw.wth
  have hh2 := hw.crk
  have hh3 := hw.year
  refine wp_iload_n (pc := 0) 1 dX6_parishes_0 rfl rfl ?_
  refine wp_iconst (pc := 1) (5) dX6_parishes_1 (by decide) ?_
  refine wc_S_II (pc := 2) dX6_parishes_2 lkX6_55 (by decide) (Nat.le_of_ble_eq_true rfl) ?_
  refine c_X6_upTo ?_
  refine wp_ifeqB (pc := 5) 16 dX6_parishes_5 (by decide) (fun c_5 => ?_) (fun c_5 => ?_)
  · refine wp_aload_n (pc := 16) 0 dX6_parishes_16 rfl rfl ?_
    refine wp_bipush (pc := 17) (-2) dX6_parishes_17 (by decide) ?_
    refine wc_V_I (pc := 19) dX6_parishes_19 lkX6_59 (sm_Rc.o (ci := 5) s0_0 (by decide) (by decide)) (by decide) (Nat.le_of_ble_eq_true rfl) ?_
    refine c_X6_refuse_0 ?_
    refine wp_iretI (pc := 22) dX6_parishes_22 rfl ?_
    unfold do_parishes at k
    rw [qry_f (c := (upB x 5 && (upB y 1))) (and_f1 c_5)] at k
    exact k _ _ _ (hC.bmp (by decide)) (Hi.rf.uI (by decide))
  · obtain ⟨v, hv, rfl⟩ := (i32_le (n := 5) (by decide)).mp (of_decide_eq_true c_5)
    refine wp_iload_n (pc := 8) 2 dX6_parishes_8 rfl rfl ?_
    refine wp_iconst (pc := 9) (1) dX6_parishes_9 (by decide) ?_
    refine wc_S_II (pc := 10) dX6_parishes_10 lkX6_55 (by decide) (Nat.le_of_ble_eq_true rfl) ?_
    refine c_X6_upTo ?_
    refine wp_ifneB (pc := 13) 23 dX6_parishes_13 (by decide) (fun c_13 => ?_) (fun c_13 => ?_)
    · refine wp_iload_n (pc := 23) 2 dX6_parishes_23 rfl rfl ?_
      refine wp_ifne (pc := 24) 38 dX6_parishes_24 (by decide) (fun c_24 => ?_) (fun c_24 => ?_)
      · refine wp_aload_n (pc := 38) 0 dX6_parishes_38 rfl rfl ?_
        refine wq_getR (pc := 39) 10 0 dX6_parishes_39 s0_0 flX6_10 rfl rfl (by decide) (by decide) ?_
        refine wp_iload_n (pc := 42) 1 dX6_parishes_42 rfl rfl ?_
        refine wc_S_RI (pc := 43) dX6_parishes_43 lkX6_253 (by decide) (Nat.le_of_ble_eq_true rfl) ?_
        refine c_X1_firstPlayed_a ht hw hT hv ?_
        refine wp_iretI (pc := 46) dX6_parishes_46 rfl ?_
        unfold do_parishes at k
        rw [qry_t (c := (upB (nI v) 5 && (upB y 1))) (and_tt c_5 c_13)] at k
        rw [nI_clamp (by omega)] at k
        rw [if_neg c_24] at k
        exact k _ _ _ hC Hi.rf
      · refine wp_aload_n (pc := 27) 0 dX6_parishes_27 rfl rfl ?_
        refine wq_getR (pc := 28) 10 0 dX6_parishes_28 s0_0 flX6_10 rfl rfl (by decide) (by decide) ?_
        refine wp_iload_n (pc := 31) 1 dX6_parishes_31 rfl rfl ?_
        refine wc_S_RI (pc := 32) dX6_parishes_32 lkX6_250 (by decide) (Nat.le_of_ble_eq_true rfl) ?_
        refine c_X1_valuePlayed_a ht hw hT hv ?_
        refine wp_goto (pc := 35) 46 dX6_parishes_35 (by decide) ?_
        refine wp_iretI (pc := 46) dX6_parishes_46 rfl ?_
        unfold do_parishes at k
        rw [qry_t (c := (upB (nI v) 5 && (upB y 1))) (and_tt c_5 c_13)] at k
        rw [nI_clamp (by omega)] at k
        rw [if_pos c_24] at k
        exact k _ _ _ hC Hi.rf
    · refine wp_aload_n (pc := 16) 0 dX6_parishes_16 rfl rfl ?_
      refine wp_bipush (pc := 17) (-2) dX6_parishes_17 (by decide) ?_
      refine wc_V_I (pc := 19) dX6_parishes_19 lkX6_59 (sm_Rc.o (ci := 5) s0_0 (by decide) (by decide)) (by decide) (Nat.le_of_ble_eq_true rfl) ?_
      refine c_X6_refuse_0 ?_
      refine wp_iretI (pc := 22) dX6_parishes_22 rfl ?_
      unfold do_parishes at k
      rw [qry_f (c := (upB (nI v) 5 && (upB y 1))) (and_f2 c_13)] at k
      exact k _ _ _ (hC.bmp (by decide)) (Hi.rf.uI (by decide))
def do_slipped (s : Sg) (x y : Int32) : Int32 × Sg := qry (isTh s x && decide (1 ≤ y ∧ y ≤ 9)) (nI (dif (sta (sgf s) (bn (sgf s))) (sta (sgf s) (dif (bn (sgf s)) (2 ^ ((x.toNatClampNeg + y.toNatClampNeg) % (sgf s) 68)))))) s
theorem c_X6_slipped {d : Nat} {F I : Nat → Nat → Int32} {J : Nat → Nat → Int64} {Q : Option Value → sm_H → Prop} {x y : Int32} {s : Sg} (hC : CR s F I J) (ok : Ok s) (k : ∀ F1 I1 J1, CR (do_slipped s x y).2 F1 I1 J1 → Hi F I J F1 I1 J1 → Q (some (.int (do_slipped s x y).1)) (S0, F1, I1, J1)) : Wp mX6_slipped (d + 3) 0 0 0 (sm_ini [.ref 0, .int x, .int y] 3) [] (S0, F, I, J) Q := by
  show Wp _ _ _ _ _ [.ref 0, .int x, .int y] _ _ _
  have ht : isT 1 := Or.inl rfl
  have hw := ok.1
  have hT := hC.1
  have hn := hw.n
  have hbn := bn_1024 hw
  have hh1 := hw.wth
  have hh2 := hw.crk
  have hh3 := hw.year
  refine wp_aload_n (pc := 0) 0 dX6_slipped_0 rfl rfl ?_
  refine wq_getR (pc := 1) 10 0 dX6_slipped_1 s0_0 flX6_10 rfl rfl (by decide) (by decide) ?_
  refine wp_iload_n (pc := 4) 1 dX6_slipped_4 rfl rfl ?_
  refine wc_V_I (pc := 5) dX6_slipped_5 lkX6_146 (sm_Rc.o (ci := 4) s0_1 (by decide) (by decide)) (by decide) (Nat.le_of_ble_eq_true rfl) ?_
  refine c_X5_isThing ht hw hT ?_
  refine wp_ifeqB (pc := 8) 22 dX6_slipped_8 (by decide) (fun c_8 => ?_) (fun c_8 => ?_)
  · refine wp_aload_n (pc := 22) 0 dX6_slipped_22 rfl rfl ?_
    refine wp_bipush (pc := 23) (-2) dX6_slipped_23 (by decide) ?_
    refine wc_V_I (pc := 25) dX6_slipped_25 lkX6_59 (sm_Rc.o (ci := 5) s0_0 (by decide) (by decide)) (by decide) (Nat.le_of_ble_eq_true rfl) ?_
    refine c_X6_refuse_0 ?_
    refine wp_iretI (pc := 28) dX6_slipped_28 rfl ?_
    unfold do_slipped at k
    rw [qry_f (c := (isTh s x && decide (1 ≤ y ∧ y ≤ 9))) (and_f1 c_8)] at k
    exact k _ _ _ (hC.bmp (by decide)) (Hi.rf.uI (by decide))
  · obtain ⟨i, hi0, rfl⟩ := (i32_in (by omega)).mp (of_decide_eq_true c_8)
    have hi : i < 10 := by omega
    refine wp_iload_n (pc := 11) 2 dX6_slipped_11 rfl rfl ?_
    refine wp_iconst (pc := 12) (1) dX6_slipped_12 (by decide) ?_
    refine wp_icmp_lt (pc := 13) 22 dX6_slipped_13 (by decide) (fun c_13 => ?_) (fun c_13 => ?_)
    · refine wp_aload_n (pc := 22) 0 dX6_slipped_22 rfl rfl ?_
      refine wp_bipush (pc := 23) (-2) dX6_slipped_23 (by decide) ?_
      refine wc_V_I (pc := 25) dX6_slipped_25 lkX6_59 (sm_Rc.o (ci := 5) s0_0 (by decide) (by decide)) (by decide) (Nat.le_of_ble_eq_true rfl) ?_
      refine c_X6_refuse_0 ?_
      refine wp_iretI (pc := 28) dX6_slipped_28 rfl ?_
      unfold do_slipped at k
      rw [qry_f (c := (isTh s (nI i) && decide (1 ≤ y ∧ y ≤ 9))) (and_f2 (decide_eq_false (fun z => Int32.not_le.mpr c_13 z.1)))] at k
      exact k _ _ _ (hC.bmp (by decide)) (Hi.rf.uI (by decide))
    · refine wp_iload_n (pc := 16) 2 dX6_slipped_16 rfl rfl ?_
      refine wp_bipush (pc := 17) (9) dX6_slipped_17 (by decide) ?_
      refine wp_icmp_le (pc := 19) 29 dX6_slipped_19 (by decide) (fun c_19 => ?_) (fun c_19 => ?_)
      · obtain ⟨m, hm, rfl⟩ := (i32_le (n := 9) (by decide)).mp ⟨Int32.le_trans (by decide) (Int32.not_lt.mp c_13), c_19⟩
        refine wp_aload_n (pc := 29) 0 dX6_slipped_29 rfl rfl ?_
        refine wq_getR (pc := 30) 10 0 dX6_slipped_30 s0_0 flX6_10 rfl rfl (by decide) (by decide) ?_
        refine wp_aload_n (pc := 33) 0 dX6_slipped_33 rfl rfl ?_
        refine wq_getR (pc := 34) 10 0 dX6_slipped_34 s0_0 flX6_10 rfl rfl (by decide) (by decide) ?_
        refine wp_iload_n (pc := 37) 1 dX6_slipped_37 rfl rfl ?_
        refine wp_iload_n (pc := 38) 2 dX6_slipped_38 rfl rfl ?_
        refine wc_V_II (pc := 39) dX6_slipped_39 lkX6_238 (sm_Rc.o (ci := 4) s0_1 (by decide) (by decide)) (by decide) (Nat.le_of_ble_eq_true rfl) ?_
        refine c_X5_beyond ht hw hT (a := i) (b := m) (by omega) (by omega) (by omega) ?_
        have hml : (i + m) % sgf s 68 < sgf s 68 := Nat.mod_lt _ (by omega)
        refine wc_V_I (pc := 42) dX6_slipped_42 lkX6_214 (sm_Rc.o (ci := 4) s0_1 (by decide) (by decide)) (by decide) (Nat.le_of_ble_eq_true rfl) ?_
        refine c_X5_offBy ht hw hT (by omega) ?_
        refine wp_iretI (pc := 45) dX6_slipped_45 rfl ?_
        unfold do_slipped at k
        rw [qry_t (c := (isTh s (nI i) && decide (1 ≤ nI m ∧ nI m ≤ 9))) (and_tt c_8 (decide_eq_true ⟨Int32.not_lt.mp c_13, c_19⟩)), nI_clamp (by omega), nI_clamp (by omega)] at k
        exact k _ _ _ hC Hi.rf
      · refine wp_aload_n (pc := 22) 0 dX6_slipped_22 rfl rfl ?_
        refine wp_bipush (pc := 23) (-2) dX6_slipped_23 (by decide) ?_
        refine wc_V_I (pc := 25) dX6_slipped_25 lkX6_59 (sm_Rc.o (ci := 5) s0_0 (by decide) (by decide)) (by decide) (Nat.le_of_ble_eq_true rfl) ?_
        refine c_X6_refuse_0 ?_
        refine wp_iretI (pc := 28) dX6_slipped_28 rfl ?_
        unfold do_slipped at k
        rw [qry_f (c := (isTh s (nI i) && decide (1 ≤ y ∧ y ≤ 9))) (and_f2 (decide_eq_false (fun z => c_19 z.2)))] at k
        exact k _ _ _ (hC.bmp (by decide)) (Hi.rf.uI (by decide))
def rgV (f : rw_) (r w : Nat) : Int32 := match w with
  | 0 => nI (f (50 + 3 * r))
  | 1 => nI (f (50 + 3 * r + 1))
  | 2 => nI (f (50 + 3 * r + 2))
  | _ => nI (slp f r)
def alV (f : rw_) (w : Nat) : Int32 := match w with
  | 0 => nI (sta f (bn f))
  | 1 => nI (val f (bn f))
  | 2 => nI (bn f)
  | 3 => nI (col (fun j => decide (may f j = 1)) (f 68))
  | _ => nI (col (fun j => decide (may f j = 2)) (f 68))
theorem tsw_o {x : Int32} {m : Nat} (hm : m < 1000) {M : Int32} (hM : M = nI m) (h : ¬ upB x M = true) : x.toInt < 0 ∨ (m : Int) < x.toInt := by
  subst hM
  unfold upB at h
  rw [decide_eq_true_eq, Int32.le_iff_toInt_le, Int32.le_iff_toInt_le, nI_toInt (by omega), show (0 : Int32).toInt = 0 by decide] at h
  omega
def do_ringerOf (s : Sg) (x y : Int32) : Int32 × Sg := qry (isRg s x && (upB y 3)) (rgV (sgf s) x.toNatClampNeg y.toNatClampNeg) s
theorem c_X6_ringerOf {d : Nat} {F I : Nat → Nat → Int32} {J : Nat → Nat → Int64} {Q : Option Value → sm_H → Prop} {x y : Int32} {s : Sg} (hC : CR s F I J) (ok : Ok s) (k : ∀ F1 I1 J1, CR (do_ringerOf s x y).2 F1 I1 J1 → Hi F I J F1 I1 J1 → Q (some (.int (do_ringerOf s x y).1)) (S0, F1, I1, J1)) : Wp mX6_ringerOf (d + 4) 0 0 0 (sm_ini [.ref 0, .int x, .int y] 3) [] (S0, F, I, J) Q := by
  show Wp _ _ _ _ _ [.ref 0, .int x, .int y] _ _ _
  have ht : isT 1 := Or.inl rfl
  have hw := ok.1
  have hT := hC.1
  have hn := hw.n
  have hbn := bn_1024 hw
  have hh1 := hw.wth
  have hh2 := hw.crk
  have hh3 := hw.year
  refine wp_aload_n (pc := 0) 0 dX6_ringerOf_0 rfl rfl ?_
  refine wq_getR (pc := 1) 10 0 dX6_ringerOf_1 s0_0 flX6_10 rfl rfl (by decide) (by decide) ?_
  refine wq_getR (pc := 4) 98 10 dX6_ringerOf_4 s0_1 flX6_98 rfl rfl (by decide) (by decide) ?_
  refine wp_iload_n (pc := 7) 1 dX6_ringerOf_7 rfl rfl ?_
  refine wc_V_I (pc := 8) dX6_ringerOf_8 lkX6_102 (sm_Rc.o (ci := 0) s0_6 (by decide) (by decide)) (by decide) (Nat.le_of_ble_eq_true rfl) ?_
  refine c_X0_isRinger ht hw hT ?_
  refine wp_ifeqB (pc := 11) 22 dX6_ringerOf_11 (by decide) (fun c_11 => ?_) (fun c_11 => ?_)
  · refine wp_aload_n (pc := 22) 0 dX6_ringerOf_22 rfl rfl ?_
    refine wp_bipush (pc := 23) (-2) dX6_ringerOf_23 (by decide) ?_
    refine wc_V_I (pc := 25) dX6_ringerOf_25 lkX6_59 (sm_Rc.o (ci := 5) s0_0 (by decide) (by decide)) (by decide) (Nat.le_of_ble_eq_true rfl) ?_
    refine c_X6_refuse_0 ?_
    refine wp_iretI (pc := 28) dX6_ringerOf_28 rfl ?_
    unfold do_ringerOf at k
    rw [qry_f (c := (isRg s x && (upB y 3))) (and_f1 c_11)] at k
    exact k _ _ _ (hC.bmp (by decide)) (Hi.rf.uI (by decide))
  · have hc6 := hw.c
    obtain ⟨r, hr0, rfl⟩ := (i32_in (by omega)).mp (of_decide_eq_true c_11)
    have hr : r < 6 := by omega
    refine wp_iload_n (pc := 14) 2 dX6_ringerOf_14 rfl rfl ?_
    refine wp_iconst (pc := 15) (3) dX6_ringerOf_15 (by decide) ?_
    refine wc_S_II (pc := 16) dX6_ringerOf_16 lkX6_55 (by decide) (Nat.le_of_ble_eq_true rfl) ?_
    refine c_X6_upTo ?_
    refine wp_ifneB (pc := 19) 29 dX6_ringerOf_19 (by decide) (fun c_19 => ?_) (fun c_19 => ?_)
    · obtain ⟨v, hv, rfl⟩ := (i32_le (n := 3) (by decide)).mp (of_decide_eq_true c_19)
      unfold do_ringerOf at k
      rw [qry_t (c := (isRg s (nI r) && upB (nI v) 3)) (and_tt c_11 c_19), nI_clamp (by omega), nI_clamp (by omega)] at k
      rcases (show v = 0 ∨ v = 1 ∨ v = 2 ∨ v = 3 by omega) with rfl | rfl | rfl | rfl
      · refine wp_iload_n (pc := 29) 2 dX6_ringerOf_29 rfl rfl ?_
        refine wp_tswI (pc := 30) 0 56 dX6_ringerOf_30 (by decide) (by decide) rfl (by decide) ?_
        refine wp_aload_n (pc := 56) 0 dX6_ringerOf_56 rfl rfl ?_
        refine wq_getR (pc := 57) 10 0 dX6_ringerOf_57 s0_0 flX6_10 rfl rfl (by decide) (by decide) ?_
        refine wq_getR (pc := 60) 98 10 dX6_ringerOf_60 s0_1 flX6_98 rfl rfl (by decide) (by decide) ?_
        refine wp_iload_n (pc := 63) 1 dX6_ringerOf_63 rfl rfl ?_
        refine wc_V_I (pc := 64) dX6_ringerOf_64 lkX6_114 (sm_Rc.o (ci := 0) s0_6 (by decide) (by decide)) (by decide) (Nat.le_of_ble_eq_true rfl) ?_
        refine c_X0_kindOf ht hw hT hr ?_
        refine wp_iretI (pc := 67) dX6_ringerOf_67 rfl ?_
        exact k _ _ _ hC Hi.rf
      · refine wp_iload_n (pc := 29) 2 dX6_ringerOf_29 rfl rfl ?_
        refine wp_tswI (pc := 30) 1 68 dX6_ringerOf_30 (by decide) (by decide) rfl (by decide) ?_
        refine wp_aload_n (pc := 68) 0 dX6_ringerOf_68 rfl rfl ?_
        refine wq_getR (pc := 69) 10 0 dX6_ringerOf_69 s0_0 flX6_10 rfl rfl (by decide) (by decide) ?_
        refine wq_getR (pc := 72) 98 10 dX6_ringerOf_72 s0_1 flX6_98 rfl rfl (by decide) (by decide) ?_
        refine wp_iload_n (pc := 75) 1 dX6_ringerOf_75 rfl rfl ?_
        refine wc_V_I (pc := 76) dX6_ringerOf_76 lkX6_193 (sm_Rc.o (ci := 0) s0_6 (by decide) (by decide)) (by decide) (Nat.le_of_ble_eq_true rfl) ?_
        refine c_X0_aOf ht hw hT hr ?_
        refine wp_iretI (pc := 79) dX6_ringerOf_79 rfl ?_
        exact k _ _ _ hC Hi.rf
      · refine wp_iload_n (pc := 29) 2 dX6_ringerOf_29 rfl rfl ?_
        refine wp_tswI (pc := 30) 2 80 dX6_ringerOf_30 (by decide) (by decide) rfl (by decide) ?_
        refine wp_aload_n (pc := 80) 0 dX6_ringerOf_80 rfl rfl ?_
        refine wq_getR (pc := 81) 10 0 dX6_ringerOf_81 s0_0 flX6_10 rfl rfl (by decide) (by decide) ?_
        refine wq_getR (pc := 84) 98 10 dX6_ringerOf_84 s0_1 flX6_98 rfl rfl (by decide) (by decide) ?_
        refine wp_iload_n (pc := 87) 1 dX6_ringerOf_87 rfl rfl ?_
        refine wc_V_I (pc := 88) dX6_ringerOf_88 lkX6_120 (sm_Rc.o (ci := 0) s0_6 (by decide) (by decide)) (by decide) (Nat.le_of_ble_eq_true rfl) ?_
        refine c_X0_bellOf ht hw hT hr ?_
        refine wp_iretI (pc := 91) dX6_ringerOf_91 rfl ?_
        exact k _ _ _ hC Hi.rf
      · refine wp_iload_n (pc := 29) 2 dX6_ringerOf_29 rfl rfl ?_
        refine wp_tswO (pc := 30) 92 dX6_ringerOf_30 (by decide) (by decide) ?_
        refine wp_aload_n (pc := 92) 0 dX6_ringerOf_92 rfl rfl ?_
        refine wq_getR (pc := 93) 10 0 dX6_ringerOf_93 s0_0 flX6_10 rfl rfl (by decide) (by decide) ?_
        refine wq_getR (pc := 96) 98 10 dX6_ringerOf_96 s0_1 flX6_98 rfl rfl (by decide) (by decide) ?_
        refine wp_iload_n (pc := 99) 1 dX6_ringerOf_99 rfl rfl ?_
        refine wp_aload_n (pc := 100) 0 dX6_ringerOf_100 rfl rfl ?_
        refine wq_getR (pc := 101) 10 0 dX6_ringerOf_101 s0_0 flX6_10 rfl rfl (by decide) (by decide) ?_
        refine wq_getI (pc := 104) 123 8 dX6_ringerOf_104 s0_1 flX6_123 rfl (by decide) ?_
        refine wp_int hT.crk ?_
        refine wc_V_II (pc := 107) dX6_ringerOf_107 lkX6_127 (sm_Rc.o (ci := 0) s0_6 (by decide) (by decide)) (by decide) (Nat.le_of_ble_eq_true rfl) ?_
        refine c_X0_slipOf ht hw hT hr ?_
        refine wp_iretI (pc := 110) dX6_ringerOf_110 rfl ?_
        exact k _ _ _ hC Hi.rf
    · refine wp_aload_n (pc := 22) 0 dX6_ringerOf_22 rfl rfl ?_
      refine wp_bipush (pc := 23) (-2) dX6_ringerOf_23 (by decide) ?_
      refine wc_V_I (pc := 25) dX6_ringerOf_25 lkX6_59 (sm_Rc.o (ci := 5) s0_0 (by decide) (by decide)) (by decide) (Nat.le_of_ble_eq_true rfl) ?_
      refine c_X6_refuse_0 ?_
      refine wp_iretI (pc := 28) dX6_ringerOf_28 rfl ?_
      unfold do_ringerOf at k
      rw [qry_f (c := (isRg s (nI r) && (upB y 3))) (and_f2 c_19)] at k
      exact k _ _ _ (hC.bmp (by decide)) (Hi.rf.uI (by decide))
def do_all (s : Sg) (x : Int32) : Int32 × Sg := qry (upB x 4) (alV (sgf s) x.toNatClampNeg) s
theorem c_X6_all {d : Nat} {F I : Nat → Nat → Int32} {J : Nat → Nat → Int64} {Q : Option Value → sm_H → Prop} {x : Int32} {s : Sg} (hC : CR s F I J) (ok : Ok s) (k : ∀ F1 I1 J1, CR (do_all s x).2 F1 I1 J1 → Hi F I J F1 I1 J1 → Q (some (.int (do_all s x).1)) (S0, F1, I1, J1)) : Wp mX6_all (d + 4) 0 0 0 (sm_ini [.ref 0, .int x] 2) [] (S0, F, I, J) Q := by
  show Wp _ _ _ _ _ [.ref 0, .int x] _ _ _
  have ht : isT 1 := Or.inl rfl
  have hw := ok.1
  have hT := hC.1
  have hn := hw.n
  have hbn := bn_1024 hw
  have hh1 := hw.wth
  have hh2 := hw.crk
  have hh3 := hw.year
  by_cases hx : upB x 4 = true
  · obtain ⟨v, hv, rfl⟩ := (i32_le (n := 4) (by decide)).mp (of_decide_eq_true hx)
    unfold do_all at k
    rw [qry_t (c := upB (nI v) 4) hx, nI_clamp (by omega)] at k
    rcases (show v = 0 ∨ v = 1 ∨ v = 2 ∨ v = 3 ∨ v = 4 by omega) with rfl | rfl | rfl | rfl | rfl
    · refine wp_iload_n (pc := 0) 1 dX6_all_0 rfl rfl ?_
      refine wp_tswI (pc := 1) 0 36 dX6_all_1 (by decide) (by decide) rfl (by decide) ?_
      refine wp_aload_n (pc := 36) 0 dX6_all_36 rfl rfl ?_
      refine wq_getR (pc := 37) 10 0 dX6_all_37 s0_0 flX6_10 rfl rfl (by decide) (by decide) ?_
      refine wp_aload_n (pc := 40) 0 dX6_all_40 rfl rfl ?_
      refine wq_getR (pc := 41) 10 0 dX6_all_41 s0_0 flX6_10 rfl rfl (by decide) (by decide) ?_
      refine wq_getI (pc := 44) 202 5 dX6_all_44 s0_1 flX6_202 rfl (by decide) ?_
      refine wp_int hT.been ?_
      refine wc_V_I (pc := 47) dX6_all_47 lkX6_205 (sm_Rc.o (ci := 4) s0_1 (by decide) (by decide)) (by decide) (Nat.le_of_ble_eq_true rfl) ?_
      refine c_X5_standing ht hw hT hbn ?_
      refine wp_iretI (pc := 50) dX6_all_50 rfl ?_
      exact k _ _ _ hC Hi.rf
    · refine wp_iload_n (pc := 0) 1 dX6_all_0 rfl rfl ?_
      refine wp_tswI (pc := 1) 1 51 dX6_all_1 (by decide) (by decide) rfl (by decide) ?_
      refine wp_aload_n (pc := 51) 0 dX6_all_51 rfl rfl ?_
      refine wq_getR (pc := 52) 10 0 dX6_all_52 s0_0 flX6_10 rfl rfl (by decide) (by decide) ?_
      refine wc_V_ (pc := 55) dX6_all_55 lkX6_208 (sm_Rc.o (ci := 4) s0_1 (by decide) (by decide)) (by decide) (Nat.le_of_ble_eq_true rfl) ?_
      refine c_X5_valueNow ht hw hT ?_
      refine wp_iretI (pc := 58) dX6_all_58 rfl ?_
      exact k _ _ _ hC Hi.rf
    · refine wp_iload_n (pc := 0) 1 dX6_all_0 rfl rfl ?_
      refine wp_tswI (pc := 1) 2 59 dX6_all_1 (by decide) (by decide) rfl (by decide) ?_
      refine wp_aload_n (pc := 59) 0 dX6_all_59 rfl rfl ?_
      refine wq_getR (pc := 60) 10 0 dX6_all_60 s0_0 flX6_10 rfl rfl (by decide) (by decide) ?_
      refine wq_getI (pc := 63) 202 5 dX6_all_63 s0_1 flX6_202 rfl (by decide) ?_
      refine wp_int hT.been ?_
      refine wp_iretI (pc := 66) dX6_all_66 rfl ?_
      exact k _ _ _ hC Hi.rf
    · refine wp_iload_n (pc := 0) 1 dX6_all_0 rfl rfl ?_
      refine wp_tswI (pc := 1) 3 67 dX6_all_1 (by decide) (by decide) rfl (by decide) ?_
      refine wp_aload_n (pc := 67) 0 dX6_all_67 rfl rfl ?_
      refine wq_getR (pc := 68) 10 0 dX6_all_68 s0_0 flX6_10 rfl rfl (by decide) (by decide) ?_
      refine wp_iconst (pc := 71) (1) dX6_all_71 (by decide) ?_
      refine wc_V_I (pc := 72) dX6_all_72 lkX6_211 (sm_Rc.o (ci := 4) s0_1 (by decide) (by decide)) (by decide) (Nat.le_of_ble_eq_true rfl) ?_
      refine c_X5_allThatMay ht hw hT (w := 1) (by decide) ?_
      refine wp_iretI (pc := 75) dX6_all_75 rfl ?_
      exact k _ _ _ hC Hi.rf
    · refine wp_iload_n (pc := 0) 1 dX6_all_0 rfl rfl ?_
      refine wp_tswI (pc := 1) 4 76 dX6_all_1 (by decide) (by decide) rfl (by decide) ?_
      refine wp_aload_n (pc := 76) 0 dX6_all_76 rfl rfl ?_
      refine wq_getR (pc := 77) 10 0 dX6_all_77 s0_0 flX6_10 rfl rfl (by decide) (by decide) ?_
      refine wp_iconst (pc := 80) (2) dX6_all_80 (by decide) ?_
      refine wc_V_I (pc := 81) dX6_all_81 lkX6_211 (sm_Rc.o (ci := 4) s0_1 (by decide) (by decide)) (by decide) (Nat.le_of_ble_eq_true rfl) ?_
      refine c_X5_allThatMay ht hw hT (by decide) ?_
      refine wp_iretI (pc := 84) dX6_all_84 rfl ?_
      exact k _ _ _ hC Hi.rf
  · unfold do_all at k
    rw [qry_f (c := upB x 4) (Bool.eq_false_iff.mpr hx)] at k
    have hx2 := tsw_o (m := 4) (by decide) rfl hx
    refine wp_iload_n (pc := 0) 1 dX6_all_0 rfl rfl ?_
    refine wp_tswO (pc := 1) 85 dX6_all_1 hx2 (by decide) ?_
    refine wp_aload_n (pc := 85) 0 dX6_all_85 rfl rfl ?_
    refine wp_bipush (pc := 86) (-2) dX6_all_86 (by decide) ?_
    refine wc_V_I (pc := 88) dX6_all_88 lkX6_59 (sm_Rc.o (ci := 5) s0_0 (by decide) (by decide)) (by decide) (Nat.le_of_ble_eq_true rfl) ?_
    refine c_X6_refuse_0 ?_
    refine wp_iretI (pc := 91) dX6_all_91 rfl ?_
    exact k _ _ _ (hC.bmp (by decide)) (Hi.rf.uI (by decide))
