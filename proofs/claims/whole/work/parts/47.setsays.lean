/-! ===== elements set; what a shelf says ===== -/
def do_set (s : Sg) (x y : Int32) (v : Int64) : Int32 × Sg := if inS x = true then (match sgh s x.toNatClampNeg with
  | none => rfz s 2
  | some k => if 10 ≤ k then rfz s 1 else if 0 ≤ y ∧ y < nI (sgs s x.toNatClampNeg) then (1, stS s (sgh s) (sgs s) (pu (sge s) (x.toNatClampNeg * 40 + y.toNatClampNeg) (srt k v))) else rfz s 0) else rfz s 0
theorem do_set_o {s : Sg} {x y : Int32} {v : Int64} (h : ¬ inS x = true) : do_set s x y v = rfz s 0 := if_neg h
theorem do_set_n {s : Sg} {i : Nat} {y : Int32} {v : Int64} (h : inS (nI i) = true) (hi : i < 8) (e : sgh s i = none) : do_set s (nI i) y v = rfz s 2 := by unfold do_set; rw [if_pos h, nI_clamp (by omega), e]
theorem do_set_g {s : Sg} {i k : Nat} {y : Int32} {v : Int64} (h : inS (nI i) = true) (hi : i < 8) (e : sgh s i = some k) (hk : 10 ≤ k) : do_set s (nI i) y v = rfz s 1 := by unfold do_set; rw [if_pos h, nI_clamp (by omega), e]; exact if_pos hk
theorem do_set_r {s : Sg} {i k : Nat} {y : Int32} {v : Int64} (h : inS (nI i) = true) (hi : i < 8) (e : sgh s i = some k) (hk : k ≤ 4) : do_set s (nI i) y v = if 0 ≤ y ∧ y < nI (sgs s i) then (1, stS s (sgh s) (sgs s) (pu (sge s) (i * 40 + y.toNatClampNeg) (srt k v))) else rfz s 0 := by unfold do_set; rw [if_pos h, nI_clamp (by omega), e]; exact if_neg (by omega)
theorem c_X6_set {d : Nat} {F I : Nat → Nat → Int32} {J : Nat → Nat → Int64} {Q : Option Value → sm_H → Prop} {x y : Int32} {v : Int64} {s : Sg} (hC : CR s F I J) (ok : Ok s) (k : ∀ F1 I1 J1, CR (do_set s x y v).2 F1 I1 J1 → Hi F I J F1 I1 J1 → Q (some (.int (do_set s x y v).1)) (S0, F1, I1, J1)) : Wp mX6_set (d + 6) 0 0 0 (sm_ini [.ref 0, .int x, .int y, .long v] 6) [] (S0, F, I, J) Q := by
  show Wp _ _ _ _ _ [.ref 0, .int x, .int y, .long v, .null, .null] _ _ _
  have hS := hC.2.2.2.2.2
  have ho := ok.2.2.2.2.1
  have hP := hC.2.2.2.2.1
  have hz := ok.2.2.1
  by_cases hx : inS x = true
  · obtain ⟨i, hi, rfl⟩ := (i32_in (n := 8) (by decide)).mp (of_decide_eq_true hx)
    rcases ho.c i with e | ⟨k0, e, hk⟩ | ⟨k0, e, hk, hk2⟩
    · rw [do_set_n hx hi e] at k
      refine wp_aload_n (pc := 0) 0 dX6_set_0 rfl rfl ?_
      refine wp_iload_n (pc := 1) 1 dX6_set_1 rfl rfl ?_
      refine wc_V_I (pc := 2) dX6_set_2 lkX6_67 (sm_Rc.o (ci := 5) s0_0 (by decide) (by decide)) (by decide) (Nat.le_of_ble_eq_true rfl) ?_
      refine c_X6_refusalOfRow_n hC ok hi e ?_
      refine wp_istore (pc := 5) 5 dX6_set_5 (by decide) rfl ?_
      refine wp_iload (pc := 7) 5 dX6_set_7 rfl ?_
      refine wp_ifeq (pc := 9) 19 dX6_set_9 (by decide) (fun c_9 => ?_) (fun c_9 => ?_)
      · exact absurd c_9 (by decide)
      · refine wp_aload_n (pc := 12) 0 dX6_set_12 rfl rfl ?_
        refine wp_iload (pc := 13) 5 dX6_set_13 rfl ?_
        refine wc_V_I (pc := 15) dX6_set_15 lkX6_59 (sm_Rc.o (ci := 5) s0_0 (by decide) (by decide)) (by decide) (Nat.le_of_ble_eq_true rfl) ?_
        refine c_X6_refuse_2 ?_
        refine wp_iretI (pc := 18) dX6_set_18 rfl ?_
        exact k _ _ _ (hC.bmp (by decide)) (Hi.rf.uI (by decide))
    · rw [do_set_r hx hi e hk] at k
      have hzi := ho.2 i
      refine wp_aload_n (pc := 0) 0 dX6_set_0 rfl rfl ?_
      refine wp_iload_n (pc := 1) 1 dX6_set_1 rfl rfl ?_
      refine wc_V_I (pc := 2) dX6_set_2 lkX6_67 (sm_Rc.o (ci := 5) s0_0 (by decide) (by decide)) (by decide) (Nat.le_of_ble_eq_true rfl) ?_
      refine c_X6_refusalOfRow_r hC ok hi e hk ?_
      refine wp_istore (pc := 5) 5 dX6_set_5 (by decide) rfl ?_
      refine wp_iload (pc := 7) 5 dX6_set_7 rfl ?_
      refine wp_ifeq (pc := 9) 19 dX6_set_9 (by decide) (fun c_9 => ?_) (fun c_9 => ?_)
      · refine wp_iload_n (pc := 19) 2 dX6_set_19 rfl rfl ?_
        refine wp_iflt (pc := 20) 35 dX6_set_20 (by decide) (fun c_20 => ?_) (fun c_20 => ?_)
        · refine wp_aload_n (pc := 35) 0 dX6_set_35 rfl rfl ?_
          refine wp_bipush (pc := 36) (-2) dX6_set_36 (by decide) ?_
          refine wc_V_I (pc := 38) dX6_set_38 lkX6_59 (sm_Rc.o (ci := 5) s0_0 (by decide) (by decide)) (by decide) (Nat.le_of_ble_eq_true rfl) ?_
          refine c_X6_refuse_0 ?_
          refine wp_iretI (pc := 41) dX6_set_41 rfl ?_
          rw [if_neg (fun z => Int32.not_lt.mpr z.1 c_20)] at k
          exact k _ _ _ (hC.bmp (by decide)) (Hi.rf.uI (by decide))
        · refine wp_iload_n (pc := 23) 2 dX6_set_23 rfl rfl ?_
          refine wp_aload_n (pc := 24) 0 dX6_set_24 rfl rfl ?_
          refine wq_getR (pc := 25) 25 3 dX6_set_25 s0_0 flX6_25 rfl rfl (by decide) (by decide) ?_
          refine wp_iload_n (pc := 28) 1 dX6_set_28 rfl rfl ?_
          refine wc_V_I (pc := 29) dX6_set_29 lkX6_70 (sm_Rc.o (ci := 2) s0_31 (by decide) (by decide)) (by decide) (Nat.le_of_ble_eq_true rfl) ?_
          refine c_X3_sizeOf_i hS ho hi ?_
          refine wp_int (y := nI (sgs s i)) (by rw [show hsz (sgh s) (sgs s) i = sgs s i from if_pos (by rw [e]; exact decide_eq_true hk)]) ?_
          refine wp_icmp_lt (pc := 32) 42 dX6_set_32 (by decide) (fun c_32 => ?_) (fun c_32 => ?_)
          · have hy := And.intro (Int32.not_lt.mp c_20) c_32
            obtain ⟨j, hj, rfl⟩ := (i32_in (by omega)).mp hy
            refine wp_aload_n (pc := 42) 0 dX6_set_42 rfl rfl ?_
            refine wq_getR (pc := 43) 25 3 dX6_set_43 s0_0 flX6_25 rfl rfl (by decide) (by decide) ?_
            refine wp_iload_n (pc := 46) 1 dX6_set_46 rfl rfl ?_
            refine wp_iload_n (pc := 47) 2 dX6_set_47 rfl rfl ?_
            refine wp_lload_n (pc := 48) 3 dX6_set_48 rfl rfl ?_
            refine wc_V_IIJ (pc := 49) dX6_set_49 lkX6_73 (sm_Rc.o (ci := 2) s0_31 (by decide) (by decide)) (by decide) (Nat.le_of_ble_eq_true rfl) ?_
            refine c_X3_putElement hS ho hi (by omega) e hk ?_
            refine wp_iconst (pc := 52) (1) dX6_set_52 (by decide) ?_
            refine wp_iretI (pc := 53) dX6_set_53 rfl ?_
            rw [if_pos hy, nI_clamp (by omega)] at k
            exact k _ _ _ (hC.sh (hS.ue (i * 40 + j) _) ShF.rf.J) (Hi.rf.uJ (by decide))
          · refine wp_aload_n (pc := 35) 0 dX6_set_35 rfl rfl ?_
            refine wp_bipush (pc := 36) (-2) dX6_set_36 (by decide) ?_
            refine wc_V_I (pc := 38) dX6_set_38 lkX6_59 (sm_Rc.o (ci := 5) s0_0 (by decide) (by decide)) (by decide) (Nat.le_of_ble_eq_true rfl) ?_
            refine c_X6_refuse_0 ?_
            refine wp_iretI (pc := 41) dX6_set_41 rfl ?_
            rw [if_neg (fun z => c_32 z.2)] at k
            exact k _ _ _ (hC.bmp (by decide)) (Hi.rf.uI (by decide))
      · exact absurd (by decide) c_9
    · rw [do_set_g hx hi e hk] at k
      refine wp_aload_n (pc := 0) 0 dX6_set_0 rfl rfl ?_
      refine wp_iload_n (pc := 1) 1 dX6_set_1 rfl rfl ?_
      refine wc_V_I (pc := 2) dX6_set_2 lkX6_67 (sm_Rc.o (ci := 5) s0_0 (by decide) (by decide)) (by decide) (Nat.le_of_ble_eq_true rfl) ?_
      refine c_X6_refusalOfRow_g hC ok hi e hk ?_
      refine wp_istore (pc := 5) 5 dX6_set_5 (by decide) rfl ?_
      refine wp_iload (pc := 7) 5 dX6_set_7 rfl ?_
      refine wp_ifeq (pc := 9) 19 dX6_set_9 (by decide) (fun c_9 => ?_) (fun c_9 => ?_)
      · exact absurd c_9 (by decide)
      · refine wp_aload_n (pc := 12) 0 dX6_set_12 rfl rfl ?_
        refine wp_iload (pc := 13) 5 dX6_set_13 rfl ?_
        refine wc_V_I (pc := 15) dX6_set_15 lkX6_59 (sm_Rc.o (ci := 5) s0_0 (by decide) (by decide)) (by decide) (Nat.le_of_ble_eq_true rfl) ?_
        refine c_X6_refuse_1 ?_
        refine wp_iretI (pc := 18) dX6_set_18 rfl ?_
        exact k _ _ _ (hC.bmp (by decide)) (Hi.rf.uI (by decide))
  · rw [do_set_o hx] at k
    refine wp_aload_n (pc := 0) 0 dX6_set_0 rfl rfl ?_
    refine wp_iload_n (pc := 1) 1 dX6_set_1 rfl rfl ?_
    refine wc_V_I (pc := 2) dX6_set_2 lkX6_67 (sm_Rc.o (ci := 5) s0_0 (by decide) (by decide)) (by decide) (Nat.le_of_ble_eq_true rfl) ?_
    refine c_X6_refusalOfRow_o (fun z => hx (decide_eq_true z)) ?_
    refine wp_istore (pc := 5) 5 dX6_set_5 (by decide) rfl ?_
    refine wp_iload (pc := 7) 5 dX6_set_7 rfl ?_
    refine wp_ifeq (pc := 9) 19 dX6_set_9 (by decide) (fun c_9 => ?_) (fun c_9 => ?_)
    · exact absurd c_9 (by decide)
    · refine wp_aload_n (pc := 12) 0 dX6_set_12 rfl rfl ?_
      refine wp_iload (pc := 13) 5 dX6_set_13 rfl ?_
      refine wc_V_I (pc := 15) dX6_set_15 lkX6_59 (sm_Rc.o (ci := 5) s0_0 (by decide) (by decide)) (by decide) (Nat.le_of_ble_eq_true rfl) ?_
      refine c_X6_refuse_0 ?_
      refine wp_iretI (pc := 18) dX6_set_18 rfl ?_
      exact k _ _ _ (hC.bmp (by decide)) (Hi.rf.uI (by decide))
def syV (s : Sg) (k : Nat) (y : Int32) : Int32 × Sg := if undK (sgf s (50 + 3 * (k - 10))) y.toNatClampNeg = true then ((if y = 0 then nI (sgf s (50 + 3 * (k - 10) + 2)) else nI (slp (sgf s) (k - 10))), s) else rfz s 1
def do_says (s : Sg) (x y : Int32) : Int32 × Sg := gat 0 (inS x && upB y 5) (match sgh s x.toNatClampNeg with
  | none => rfz s 2
  | some k => if 10 ≤ k then syV s k y else rfz s 1) s
theorem says_n {s : Sg} {i n : Nat} (h : (inS (nI i) && upB (nI n) 5) = true) (hi : i < 8) (e : sgh s i = none) : do_says s (nI i) (nI n) = rfz s 2 := by unfold do_says; rw [gat_t h, nI_clamp (by omega), e]
theorem says_r {s : Sg} {i n k : Nat} (h : (inS (nI i) && upB (nI n) 5) = true) (hi : i < 8) (e : sgh s i = some k) (hk : k ≤ 4) : do_says s (nI i) (nI n) = rfz s 1 := by unfold do_says; rw [gat_t h, nI_clamp (by omega), e]; exact if_neg (by omega)
theorem says_g {s : Sg} {i n k : Nat} (h : (inS (nI i) && upB (nI n) 5) = true) (hi : i < 8) (e : sgh s i = some k) (hk : 10 ≤ k) : do_says s (nI i) (nI n) = syV s k (nI n) := by unfold do_says; rw [gat_t h, nI_clamp (by omega), e]; exact if_pos hk
theorem c_X6_says {d : Nat} {F I : Nat → Nat → Int32} {J : Nat → Nat → Int64} {Q : Option Value → sm_H → Prop} {x y : Int32} {s : Sg} (hC : CR s F I J) (ok : Ok s) (k : ∀ F1 I1 J1, CR (do_says s x y).2 F1 I1 J1 → Hi F I J F1 I1 J1 → Q (some (.int (do_says s x y).1)) (S0, F1, I1, J1)) : Wp mX6_says (d + 6) 0 0 0 (sm_ini [.ref 0, .int x, .int y] 5) [] (S0, F, I, J) Q := by
  show Wp _ _ _ _ _ [.ref 0, .int x, .int y, .null, .null] _ _ _
  have ht : isT 1 := Or.inl rfl
  have hw := ok.1
  have hT := hC.1
  have hn := hw.n
  have hbn := bn_1024 hw
  have hh1 := hw.wth
  have hh2 := hw.crk
  have hh3 := hw.year
  have hS := hC.2.2.2.2.2
  have ho := ok.2.2.2.2.1
  have hP := hC.2.2.2.2.1
  have hz := ok.2.2.1
  refine wp_iload_n (pc := 0) 1 dX6_says_0 rfl rfl ?_
  refine wc_S_I (pc := 1) dX6_says_1 lkX6_51 (by decide) (Nat.le_of_ble_eq_true rfl) ?_
  refine c_X3_isShelf ?_
  refine wp_ifeqB (pc := 4) 15 dX6_says_4 (by decide) (fun c_4 => ?_) (fun c_4 => ?_)
  · refine wp_aload_n (pc := 15) 0 dX6_says_15 rfl rfl ?_
    refine wp_bipush (pc := 16) (-2) dX6_says_16 (by decide) ?_
    refine wc_V_I (pc := 18) dX6_says_18 lkX6_59 (sm_Rc.o (ci := 5) s0_0 (by decide) (by decide)) (by decide) (Nat.le_of_ble_eq_true rfl) ?_
    refine c_X6_refuse_0 ?_
    refine wp_iretI (pc := 21) dX6_says_21 rfl ?_
    unfold do_says at k
    rw [gat_f (c := (inS x && upB y 5)) (and_f1 c_4)] at k
    exact k _ _ _ (hC.bmp (by decide)) (Hi.rf.uI (by decide))
  · obtain ⟨i, hi, rfl⟩ := (i32_in (n := 8) (by decide)).mp (of_decide_eq_true c_4)
    refine wp_iload_n (pc := 7) 2 dX6_says_7 rfl rfl ?_
    refine wp_iconst (pc := 8) (5) dX6_says_8 (by decide) ?_
    refine wc_S_II (pc := 9) dX6_says_9 lkX6_55 (by decide) (Nat.le_of_ble_eq_true rfl) ?_
    refine c_X6_upTo ?_
    refine wp_ifneB (pc := 12) 22 dX6_says_12 (by decide) (fun c_12 => ?_) (fun c_12 => ?_)
    · obtain ⟨n, hn5, rfl⟩ := (i32_le (n := 5) (by decide)).mp (of_decide_eq_true c_12)
      rcases ho.c i with e | ⟨k0, e, hk⟩ | ⟨k0, e, hk, hk2⟩
      · rw [says_n (and_tt c_4 c_12) hi e] at k
        refine wp_aload_n (pc := 22) 0 dX6_says_22 rfl rfl ?_
        refine wq_getR (pc := 23) 25 3 dX6_says_23 s0_0 flX6_25 rfl rfl (by decide) (by decide) ?_
        refine wp_iload_n (pc := 26) 1 dX6_says_26 rfl rfl ?_
        refine wc_V_I (pc := 27) dX6_says_27 lkX6_111 (sm_Rc.o (ci := 2) s0_31 (by decide) (by decide)) (by decide) (Nat.le_of_ble_eq_true rfl) ?_
        refine c_X3_ringerIn_i hS ho hi ?_
        refine wp_int (y := -1) (by rw [e]; rfl) ?_
        refine wp_istore_n (pc := 30) 3 dX6_says_30 rfl (by decide) rfl ?_
        refine wp_iload_n (pc := 31) 3 dX6_says_31 rfl rfl ?_
        refine wp_iconst (pc := 32) (-1) dX6_says_32 (by decide) ?_
        refine wp_icmp_eq (pc := 33) 58 dX6_says_33 (by decide) (fun c_33 => ?_) (fun c_33 => ?_)
        · refine wp_iconst (pc := 58) (0) dX6_says_58 (by decide) ?_
          refine wp_istore (pc := 59) 4 dX6_says_59 (by decide) rfl ?_
          refine wp_aload_n (pc := 61) 0 dX6_says_61 rfl rfl ?_
          refine wq_getR (pc := 62) 25 3 dX6_says_62 s0_0 flX6_25 rfl rfl (by decide) (by decide) ?_
          refine wp_iload_n (pc := 65) 1 dX6_says_65 rfl rfl ?_
          refine wc_V_I (pc := 66) dX6_says_66 lkX6_80 (sm_Rc.o (ci := 2) s0_31 (by decide) (by decide)) (by decide) (Nat.le_of_ble_eq_true rfl) ?_
          refine c_X3_hasRow_i hS ho hi ?_
          refine wp_int (y := 0) (by rw [show hrow (sgh s i) = false by rw [e]; rfl]; rfl) ?_
          refine wp_ifne (pc := 69) 82 dX6_says_69 (by decide) (fun c_69 => ?_) (fun c_69 => ?_)
          · exact absurd (by decide) c_69
          · refine wp_iload_n (pc := 72) 3 dX6_says_72 rfl rfl ?_
            refine wp_iconst (pc := 73) (-1) dX6_says_73 (by decide) ?_
            refine wp_icmp_eq (pc := 74) 89 dX6_says_74 (by decide) (fun c_74 => ?_) (fun c_74 => ?_)
            · refine wp_iload_n (pc := 89) 3 dX6_says_89 rfl rfl ?_
              refine wp_iconst (pc := 90) (-1) dX6_says_90 (by decide) ?_
              refine wp_icmp_ne (pc := 91) 101 dX6_says_91 (by decide) (fun c_91 => ?_) (fun c_91 => ?_)
              · exact absurd (by decide) c_91
              · refine wp_aload_n (pc := 94) 0 dX6_says_94 rfl rfl ?_
                refine wp_bipush (pc := 95) (-4) dX6_says_95 (by decide) ?_
                refine wc_V_I (pc := 97) dX6_says_97 lkX6_59 (sm_Rc.o (ci := 5) s0_0 (by decide) (by decide)) (by decide) (Nat.le_of_ble_eq_true rfl) ?_
                refine c_X6_refuse_2 ?_
                refine wp_iretI (pc := 100) dX6_says_100 rfl ?_
                exact k _ _ _ (hC.bmp (by decide)) (Hi.rf.uI (by decide))
            · exact absurd (by decide) c_74
        · exact absurd (by decide) c_33
      · rw [says_r (and_tt c_4 c_12) hi e hk] at k
        refine wp_aload_n (pc := 22) 0 dX6_says_22 rfl rfl ?_
        refine wq_getR (pc := 23) 25 3 dX6_says_23 s0_0 flX6_25 rfl rfl (by decide) (by decide) ?_
        refine wp_iload_n (pc := 26) 1 dX6_says_26 rfl rfl ?_
        refine wc_V_I (pc := 27) dX6_says_27 lkX6_111 (sm_Rc.o (ci := 2) s0_31 (by decide) (by decide)) (by decide) (Nat.le_of_ble_eq_true rfl) ?_
        refine c_X3_ringerIn_i hS ho hi ?_
        refine wp_int (y := -1) (by rw [e, show hrg (some k0) = none from if_neg (by omega)]; rfl) ?_
        refine wp_istore_n (pc := 30) 3 dX6_says_30 rfl (by decide) rfl ?_
        refine wp_iload_n (pc := 31) 3 dX6_says_31 rfl rfl ?_
        refine wp_iconst (pc := 32) (-1) dX6_says_32 (by decide) ?_
        refine wp_icmp_eq (pc := 33) 58 dX6_says_33 (by decide) (fun c_33 => ?_) (fun c_33 => ?_)
        · refine wp_iconst (pc := 58) (0) dX6_says_58 (by decide) ?_
          refine wp_istore (pc := 59) 4 dX6_says_59 (by decide) rfl ?_
          refine wp_aload_n (pc := 61) 0 dX6_says_61 rfl rfl ?_
          refine wq_getR (pc := 62) 25 3 dX6_says_62 s0_0 flX6_25 rfl rfl (by decide) (by decide) ?_
          refine wp_iload_n (pc := 65) 1 dX6_says_65 rfl rfl ?_
          refine wc_V_I (pc := 66) dX6_says_66 lkX6_80 (sm_Rc.o (ci := 2) s0_31 (by decide) (by decide)) (by decide) (Nat.le_of_ble_eq_true rfl) ?_
          refine c_X3_hasRow_i hS ho hi ?_
          refine wp_int (y := 1) (by rw [show hrow (sgh s i) = true by rw [e]; exact decide_eq_true hk]; rfl) ?_
          refine wp_ifne (pc := 69) 82 dX6_says_69 (by decide) (fun c_69 => ?_) (fun c_69 => ?_)
          · refine wp_aload_n (pc := 82) 0 dX6_says_82 rfl rfl ?_
            refine wp_bipush (pc := 83) (-3) dX6_says_83 (by decide) ?_
            refine wc_V_I (pc := 85) dX6_says_85 lkX6_59 (sm_Rc.o (ci := 5) s0_0 (by decide) (by decide)) (by decide) (Nat.le_of_ble_eq_true rfl) ?_
            refine c_X6_refuse_1 ?_
            refine wp_iretI (pc := 88) dX6_says_88 rfl ?_
            exact k _ _ _ (hC.bmp (by decide)) (Hi.rf.uI (by decide))
          · exact absurd c_69 (by decide)
        · exact absurd (by decide) c_33
      · rw [says_g (and_tt c_4 c_12) hi e hk] at k
        have hr : k0 - 10 < 6 := by omega
        have hkd := hw.kind hr
        refine wp_aload_n (pc := 22) 0 dX6_says_22 rfl rfl ?_
        refine wq_getR (pc := 23) 25 3 dX6_says_23 s0_0 flX6_25 rfl rfl (by decide) (by decide) ?_
        refine wp_iload_n (pc := 26) 1 dX6_says_26 rfl rfl ?_
        refine wc_V_I (pc := 27) dX6_says_27 lkX6_111 (sm_Rc.o (ci := 2) s0_31 (by decide) (by decide)) (by decide) (Nat.le_of_ble_eq_true rfl) ?_
        refine c_X3_ringerIn_i hS ho hi ?_
        refine wp_int (y := nI (k0 - 10)) (by rw [e, show hrg (some k0) = some (k0 - 10) from if_pos hk]; rfl) ?_
        refine wp_istore_n (pc := 30) 3 dX6_says_30 rfl (by decide) rfl ?_
        refine wp_iload_n (pc := 31) 3 dX6_says_31 rfl rfl ?_
        refine wp_iconst (pc := 32) (-1) dX6_says_32 (by decide) ?_
        refine wp_icmp_eq (pc := 33) 58 dX6_says_33 (by decide) (fun c_33 => ?_) (fun c_33 => ?_)
        · exact absurd c_33 (m1_ne (by omega))
        · refine wp_aload_n (pc := 36) 0 dX6_says_36 rfl rfl ?_
          refine wq_getR (pc := 37) 10 0 dX6_says_37 s0_0 flX6_10 rfl rfl (by decide) (by decide) ?_
          refine wq_getR (pc := 40) 98 10 dX6_says_40 s0_1 flX6_98 rfl rfl (by decide) (by decide) ?_
          refine wp_iload_n (pc := 43) 3 dX6_says_43 rfl rfl ?_
          refine wc_V_I (pc := 44) dX6_says_44 lkX6_114 (sm_Rc.o (ci := 0) s0_6 (by decide) (by decide)) (by decide) (Nat.le_of_ble_eq_true rfl) ?_
          refine c_X0_kindOf ht hw hT hr ?_
          refine wp_iload_n (pc := 47) 2 dX6_says_47 rfl rfl ?_
          refine wc_S_II (pc := 48) dX6_says_48 lkX6_117 (by decide) (Nat.le_of_ble_eq_true rfl) ?_
          refine c_X0_isUnder (by omega) (by omega) ?_
          refine wp_ifeqB (pc := 51) 58 dX6_says_51 (by decide) (fun c_51 => ?_) (fun c_51 => ?_)
          · refine wp_iconst (pc := 58) (0) dX6_says_58 (by decide) ?_
            refine wp_istore (pc := 59) 4 dX6_says_59 (by decide) rfl ?_
            refine wp_aload_n (pc := 61) 0 dX6_says_61 rfl rfl ?_
            refine wq_getR (pc := 62) 25 3 dX6_says_62 s0_0 flX6_25 rfl rfl (by decide) (by decide) ?_
            refine wp_iload_n (pc := 65) 1 dX6_says_65 rfl rfl ?_
            refine wc_V_I (pc := 66) dX6_says_66 lkX6_80 (sm_Rc.o (ci := 2) s0_31 (by decide) (by decide)) (by decide) (Nat.le_of_ble_eq_true rfl) ?_
            refine c_X3_hasRow_i hS ho hi ?_
            refine wp_int (y := 0) (by rw [show hrow (sgh s i) = false by rw [e]; exact decide_eq_false (by omega)]; rfl) ?_
            refine wp_ifne (pc := 69) 82 dX6_says_69 (by decide) (fun c_69 => ?_) (fun c_69 => ?_)
            · exact absurd (by decide) c_69
            · refine wp_iload_n (pc := 72) 3 dX6_says_72 rfl rfl ?_
              refine wp_iconst (pc := 73) (-1) dX6_says_73 (by decide) ?_
              refine wp_icmp_eq (pc := 74) 89 dX6_says_74 (by decide) (fun c_74 => ?_) (fun c_74 => ?_)
              · exact absurd c_74 (m1_ne (by omega))
              · refine wp_iload (pc := 77) 4 dX6_says_77 rfl ?_
                refine wp_ifne (pc := 79) 89 dX6_says_79 (by decide) (fun c_79 => ?_) (fun c_79 => ?_)
                · exact absurd (by decide) c_79
                · refine wp_aload_n (pc := 82) 0 dX6_says_82 rfl rfl ?_
                  refine wp_bipush (pc := 83) (-3) dX6_says_83 (by decide) ?_
                  refine wc_V_I (pc := 85) dX6_says_85 lkX6_59 (sm_Rc.o (ci := 5) s0_0 (by decide) (by decide)) (by decide) (Nat.le_of_ble_eq_true rfl) ?_
                  refine c_X6_refuse_1 ?_
                  refine wp_iretI (pc := 88) dX6_says_88 rfl ?_
                  unfold syV at k
                  rw [nI_clamp (by omega)] at k
                  rw [if_neg (show ¬ undK (sgf s (50 + 3 * (k0 - 10))) n = true from fun z => absurd (c_51.symm.trans z) (by decide))] at k
                  exact k _ _ _ (hC.bmp (by decide)) (Hi.rf.uI (by decide))
          · refine wp_iconst (pc := 54) (1) dX6_says_54 (by decide) ?_
            refine wp_goto (pc := 55) 59 dX6_says_55 (by decide) ?_
            refine wp_istore (pc := 59) 4 dX6_says_59 (by decide) rfl ?_
            refine wp_aload_n (pc := 61) 0 dX6_says_61 rfl rfl ?_
            refine wq_getR (pc := 62) 25 3 dX6_says_62 s0_0 flX6_25 rfl rfl (by decide) (by decide) ?_
            refine wp_iload_n (pc := 65) 1 dX6_says_65 rfl rfl ?_
            refine wc_V_I (pc := 66) dX6_says_66 lkX6_80 (sm_Rc.o (ci := 2) s0_31 (by decide) (by decide)) (by decide) (Nat.le_of_ble_eq_true rfl) ?_
            refine c_X3_hasRow_i hS ho hi ?_
            refine wp_int (y := 0) (by rw [show hrow (sgh s i) = false by rw [e]; exact decide_eq_false (by omega)]; rfl) ?_
            refine wp_ifne (pc := 69) 82 dX6_says_69 (by decide) (fun c_69 => ?_) (fun c_69 => ?_)
            · exact absurd (by decide) c_69
            · refine wp_iload_n (pc := 72) 3 dX6_says_72 rfl rfl ?_
              refine wp_iconst (pc := 73) (-1) dX6_says_73 (by decide) ?_
              refine wp_icmp_eq (pc := 74) 89 dX6_says_74 (by decide) (fun c_74 => ?_) (fun c_74 => ?_)
              · exact absurd c_74 (m1_ne (by omega))
              · refine wp_iload (pc := 77) 4 dX6_says_77 rfl ?_
                refine wp_ifne (pc := 79) 89 dX6_says_79 (by decide) (fun c_79 => ?_) (fun c_79 => ?_)
                · refine wp_iload_n (pc := 89) 3 dX6_says_89 rfl rfl ?_
                  refine wp_iconst (pc := 90) (-1) dX6_says_90 (by decide) ?_
                  refine wp_icmp_ne (pc := 91) 101 dX6_says_91 (by decide) (fun c_91 => ?_) (fun c_91 => ?_)
                  · refine wp_iload_n (pc := 101) 2 dX6_says_101 rfl rfl ?_
                    refine wp_ifne (pc := 102) 119 dX6_says_102 (by decide) (fun c_102 => ?_) (fun c_102 => ?_)
                    · refine wp_aload_n (pc := 119) 0 dX6_says_119 rfl rfl ?_
                      refine wq_getR (pc := 120) 10 0 dX6_says_120 s0_0 flX6_10 rfl rfl (by decide) (by decide) ?_
                      refine wq_getR (pc := 123) 98 10 dX6_says_123 s0_1 flX6_98 rfl rfl (by decide) (by decide) ?_
                      refine wp_iload_n (pc := 126) 3 dX6_says_126 rfl rfl ?_
                      refine wp_aload_n (pc := 127) 0 dX6_says_127 rfl rfl ?_
                      refine wq_getR (pc := 128) 10 0 dX6_says_128 s0_0 flX6_10 rfl rfl (by decide) (by decide) ?_
                      refine wq_getI (pc := 131) 123 8 dX6_says_131 s0_1 flX6_123 rfl (by decide) ?_
                      refine wp_int hT.crk ?_
                      refine wc_V_II (pc := 134) dX6_says_134 lkX6_127 (sm_Rc.o (ci := 0) s0_6 (by decide) (by decide)) (by decide) (Nat.le_of_ble_eq_true rfl) ?_
                      refine c_X0_slipOf ht hw hT hr ?_
                      refine wp_iretI (pc := 137) dX6_says_137 rfl ?_
                      unfold syV at k
                      rw [nI_clamp (by omega)] at k
                      rw [if_pos (show undK (sgf s (50 + 3 * (k0 - 10))) n = true from c_51)] at k
                      rw [if_neg c_102] at k
                      exact k _ _ _ hC Hi.rf
                    · refine wp_aload_n (pc := 105) 0 dX6_says_105 rfl rfl ?_
                      refine wq_getR (pc := 106) 10 0 dX6_says_106 s0_0 flX6_10 rfl rfl (by decide) (by decide) ?_
                      refine wq_getR (pc := 109) 98 10 dX6_says_109 s0_1 flX6_98 rfl rfl (by decide) (by decide) ?_
                      refine wp_iload_n (pc := 112) 3 dX6_says_112 rfl rfl ?_
                      refine wc_V_I (pc := 113) dX6_says_113 lkX6_120 (sm_Rc.o (ci := 0) s0_6 (by decide) (by decide)) (by decide) (Nat.le_of_ble_eq_true rfl) ?_
                      refine c_X0_bellOf ht hw hT hr ?_
                      refine wp_goto (pc := 116) 137 dX6_says_116 (by decide) ?_
                      refine wp_iretI (pc := 137) dX6_says_137 rfl ?_
                      unfold syV at k
                      rw [nI_clamp (by omega)] at k
                      rw [if_pos (show undK (sgf s (50 + 3 * (k0 - 10))) n = true from c_51)] at k
                      rw [if_pos c_102] at k
                      exact k _ _ _ hC Hi.rf
                  · exact absurd c_91 (m1_ne (by omega))
                · exact absurd c_79 (by decide)
    · refine wp_aload_n (pc := 15) 0 dX6_says_15 rfl rfl ?_
      refine wp_bipush (pc := 16) (-2) dX6_says_16 (by decide) ?_
      refine wc_V_I (pc := 18) dX6_says_18 lkX6_59 (sm_Rc.o (ci := 5) s0_0 (by decide) (by decide)) (by decide) (Nat.le_of_ble_eq_true rfl) ?_
      refine c_X6_refuse_0 ?_
      refine wp_iretI (pc := 21) dX6_says_21 rfl ?_
      unfold do_says at k
      rw [gat_f (c := (inS (nI i) && upB y 5)) (and_f2 c_12)] at k
      exact k _ _ _ (hC.bmp (by decide)) (Hi.rf.uI (by decide))
