/-! ===== told peals ===== -/
def pcd (s : Sg) (x y : Int32) : Option Nat := if inS x = true ∧ upB y 40 = true then (match sgh s x.toNatClampNeg with
  | none => some 2
  | some k => if 10 ≤ k then some 1 else if sgs s x.toNatClampNeg < y.toNatClampNeg then some 0 else none) else some 0
def rcd : Option Nat → Int32
  | none => 0
  | some j => cod j
theorem pcd_0 {s : Sg} {x y : Int32} (h : ¬ (inS x = true ∧ upB y 40 = true)) : pcd s x y = some 0 := if_neg h
theorem pcd_n {s : Sg} {i n : Nat} (h : inS (nI i) = true ∧ upB (nI n) 40 = true) (hi : i < 8) (e : sgh s i = none) : pcd s (nI i) (nI n) = some 2 := by
  unfold pcd; rw [if_pos h, nI_clamp (by omega), e]
theorem pcd_g {s : Sg} {i n k : Nat} (h : inS (nI i) = true ∧ upB (nI n) 40 = true) (hi : i < 8) (e : sgh s i = some k) (hk : 10 ≤ k) : pcd s (nI i) (nI n) = some 1 := by
  unfold pcd; rw [if_pos h, nI_clamp (by omega), e]; exact if_pos hk
theorem pcd_b {s : Sg} {i n k : Nat} (h : inS (nI i) = true ∧ upB (nI n) 40 = true) (hi : i < 8) (hn : n ≤ 40) (e : sgh s i = some k) (hk : k ≤ 4) (hl : sgs s i < n) : pcd s (nI i) (nI n) = some 0 := by
  unfold pcd; rw [if_pos h, nI_clamp (by omega), nI_clamp (by omega), e]; simp only; rw [if_neg (by omega), if_pos hl]
theorem pcd_r {s : Sg} {i n k : Nat} (h : inS (nI i) = true ∧ upB (nI n) 40 = true) (hi : i < 8) (hn : n ≤ 40) (e : sgh s i = some k) (hk : k ≤ 4) (hl : ¬ sgs s i < n) : pcd s (nI i) (nI n) = none := by
  unfold pcd; rw [if_pos h, nI_clamp (by omega), nI_clamp (by omega), e]; simp only; rw [if_neg (by omega), if_neg hl]
theorem pcd_get {s : Sg} {x y : Int32} (h : pcd s x y = none) : ∃ i n, x = nI i ∧ y = nI n ∧ i < 8 ∧ n ≤ 40 := by
  unfold pcd at h
  by_cases hh : inS x = true ∧ upB y 40 = true
  · obtain ⟨i, hi, rfl⟩ := (i32_in (n := 8) (by decide)).mp (of_decide_eq_true hh.1)
    obtain ⟨n, hn, rfl⟩ := (i32_le (n := 40) (by decide)).mp (of_decide_eq_true hh.2)
    exact ⟨i, n, rfl, rfl, hi, hn⟩
  · rw [if_neg hh] at h; cases h
theorem pcd_lt {s : Sg} {x y : Int32} {j : Nat} (h : pcd s x y = some j) : j < 3 := by
  unfold pcd at h
  split at h
  · split at h
    · cases h; decide
    · split at h
      · cases h; decide
      · split at h
        · cases h; decide
        · cases h
  · cases h; decide
theorem c_X6_refusalOfPeal {d : Nat} {F I : Nat → Nat → Int32} {J : Nat → Nat → Int64} {Q : Option Value → sm_H → Prop} {x y : Int32} {s : Sg} (hC : CR s F I J) (ok : Ok s) (k : Q (some (.int (rcd (pcd s x y)))) (S0, F, I, J)) : Wp mX6_refusalOfPeal (d + 5) 0 0 0 (sm_ini [.ref 0, .int x, .int y] 4) [] (S0, F, I, J) Q := by
  show Wp _ _ _ _ _ [.ref 0, .int x, .int y, .null] _ _ _
  have hS := hC.2.2.2.2.2
  have ho := ok.2.2.2.2.1
  have hP := hC.2.2.2.2.1
  have hz := ok.2.2.1
  refine wp_iload_n (pc := 0) 1 dX6_refusalOfPeal_0 rfl rfl ?_
  refine wc_S_I (pc := 1) dX6_refusalOfPeal_1 lkX6_51 (by decide) (Nat.le_of_ble_eq_true rfl) ?_
  refine c_X3_isShelf ?_
  refine wp_ifeqB (pc := 4) 16 dX6_refusalOfPeal_4 (by decide) (fun c_4 => ?_) (fun c_4 => ?_)
  · refine wp_bipush (pc := 16) (-2) dX6_refusalOfPeal_16 (by decide) ?_
    refine wp_iretI (pc := 18) dX6_refusalOfPeal_18 rfl ?_
    rw [pcd_0 (fun z => by rw [c_4] at z; exact absurd z.1 (by decide))] at k
    exact k
  · obtain ⟨i, hi, rfl⟩ := (i32_in (n := 8) (by decide)).mp (of_decide_eq_true c_4)
    refine wp_iload_n (pc := 7) 2 dX6_refusalOfPeal_7 rfl rfl ?_
    refine wp_bipush (pc := 8) (40) dX6_refusalOfPeal_8 (by decide) ?_
    refine wc_S_II (pc := 10) dX6_refusalOfPeal_10 lkX6_55 (by decide) (Nat.le_of_ble_eq_true rfl) ?_
    refine c_X6_upTo ?_
    refine wp_ifneB (pc := 13) 19 dX6_refusalOfPeal_13 (by decide) (fun c_13 => ?_) (fun c_13 => ?_)
    · obtain ⟨m, hm, rfl⟩ := (i32_le (n := 40) (by decide)).mp (of_decide_eq_true c_13)
      have hzi := ho.2 i
      rcases ho.c i with e | ⟨p, e, hk⟩ | ⟨p, e, hk, hk2⟩
      · refine wp_aload_n (pc := 19) 0 dX6_refusalOfPeal_19 rfl rfl ?_
        refine wp_iload_n (pc := 20) 1 dX6_refusalOfPeal_20 rfl rfl ?_
        refine wc_V_I (pc := 21) dX6_refusalOfPeal_21 lkX6_67 (sm_Rc.o (ci := 5) s0_0 (by decide) (by decide)) (by decide) (Nat.le_of_ble_eq_true rfl) ?_
        refine c_X6_refusalOfRow_n hC ok hi e ?_
        refine wp_istore_n (pc := 24) 3 dX6_refusalOfPeal_24 rfl (by decide) rfl ?_
        refine wp_iload_n (pc := 25) 3 dX6_refusalOfPeal_25 rfl rfl ?_
        refine wp_ifeq (pc := 26) 31 dX6_refusalOfPeal_26 (by decide) (fun c_26 => ?_) (fun c_26 => ?_)
        · exact absurd c_26 (by decide)
        · refine wp_iload_n (pc := 29) 3 dX6_refusalOfPeal_29 rfl rfl ?_
          refine wp_iretI (pc := 30) dX6_refusalOfPeal_30 rfl ?_
          rw [pcd_n ⟨c_4, c_13⟩ hi e] at k
          exact k
      · refine wp_aload_n (pc := 19) 0 dX6_refusalOfPeal_19 rfl rfl ?_
        refine wp_iload_n (pc := 20) 1 dX6_refusalOfPeal_20 rfl rfl ?_
        refine wc_V_I (pc := 21) dX6_refusalOfPeal_21 lkX6_67 (sm_Rc.o (ci := 5) s0_0 (by decide) (by decide)) (by decide) (Nat.le_of_ble_eq_true rfl) ?_
        refine c_X6_refusalOfRow_r hC ok hi e hk ?_
        refine wp_istore_n (pc := 24) 3 dX6_refusalOfPeal_24 rfl (by decide) rfl ?_
        refine wp_iload_n (pc := 25) 3 dX6_refusalOfPeal_25 rfl rfl ?_
        refine wp_ifeq (pc := 26) 31 dX6_refusalOfPeal_26 (by decide) (fun c_26 => ?_) (fun c_26 => ?_)
        · refine wp_iload_n (pc := 31) 2 dX6_refusalOfPeal_31 rfl rfl ?_
          refine wp_aload_n (pc := 32) 0 dX6_refusalOfPeal_32 rfl rfl ?_
          refine wq_getR (pc := 33) 25 3 dX6_refusalOfPeal_33 s0_0 flX6_25 rfl rfl (by decide) (by decide) ?_
          refine wp_iload_n (pc := 36) 1 dX6_refusalOfPeal_36 rfl rfl ?_
          refine wc_V_I (pc := 37) dX6_refusalOfPeal_37 lkX6_70 (sm_Rc.o (ci := 2) s0_31 (by decide) (by decide)) (by decide) (Nat.le_of_ble_eq_true rfl) ?_
          refine c_X3_sizeOf_i hS ho hi ?_
          refine wp_int (y := nI (sgs s i)) (by rw [show hsz (sgh s) (sgs s) i = sgs s i from if_pos (by rw [e]; exact decide_eq_true hk)]) ?_
          refine wp_icmp_le (pc := 40) 48 dX6_refusalOfPeal_40 (by decide) (fun c_40 => ?_) (fun c_40 => ?_)
          · refine wp_iconst (pc := 48) (0) dX6_refusalOfPeal_48 (by decide) ?_
            refine wp_iretI (pc := 49) dX6_refusalOfPeal_49 rfl ?_
            rw [pcd_r ⟨c_4, c_13⟩ hi hm e hk (fun z => nI_ge z (by omega) c_40)] at k
            exact k
          · refine wp_bipush (pc := 43) (-2) dX6_refusalOfPeal_43 (by decide) ?_
            refine wp_goto (pc := 45) 49 dX6_refusalOfPeal_45 (by decide) ?_
            refine wp_iretI (pc := 49) dX6_refusalOfPeal_49 rfl ?_
            rw [pcd_b ⟨c_4, c_13⟩ hi hm e hk (Nat.lt_of_not_le fun z => c_40 (nI_le z (by omega)))] at k
            exact k
        · exact absurd (by decide) c_26
      · refine wp_aload_n (pc := 19) 0 dX6_refusalOfPeal_19 rfl rfl ?_
        refine wp_iload_n (pc := 20) 1 dX6_refusalOfPeal_20 rfl rfl ?_
        refine wc_V_I (pc := 21) dX6_refusalOfPeal_21 lkX6_67 (sm_Rc.o (ci := 5) s0_0 (by decide) (by decide)) (by decide) (Nat.le_of_ble_eq_true rfl) ?_
        refine c_X6_refusalOfRow_g hC ok hi e hk ?_
        refine wp_istore_n (pc := 24) 3 dX6_refusalOfPeal_24 rfl (by decide) rfl ?_
        refine wp_iload_n (pc := 25) 3 dX6_refusalOfPeal_25 rfl rfl ?_
        refine wp_ifeq (pc := 26) 31 dX6_refusalOfPeal_26 (by decide) (fun c_26 => ?_) (fun c_26 => ?_)
        · exact absurd c_26 (by decide)
        · refine wp_iload_n (pc := 29) 3 dX6_refusalOfPeal_29 rfl rfl ?_
          refine wp_iretI (pc := 30) dX6_refusalOfPeal_30 rfl ?_
          rw [pcd_g ⟨c_4, c_13⟩ hi e hk] at k
          exact k
    · refine wp_bipush (pc := 16) (-2) dX6_refusalOfPeal_16 (by decide) ?_
      refine wp_iretI (pc := 18) dX6_refusalOfPeal_18 rfl ?_
      rw [pcd_0 (fun z => absurd (c_13.symm.trans z.2) (by decide))] at k
      exact k
def okT (g : rw_) (v : Int64) : Bool := decide (0 ≤ v ∧ v < (nI (g 68)).toInt64) && decide (¬ may g v.toInt32.toNatClampNeg = 0)
def plU (tl : Nat → Int64) : Nat → Nat → rw_ → Option Nat × rw_
  | 0, _, g => (none, g)
  | k + 1, i, g => if okT g (tl i) = true then plU tl k (i + 1) (rgT g (tl i).toInt32.toNatClampNeg) else (some i, g)
theorem pl_t {tl : Nat → Int64} {k i : Nat} {g : rw_} (h : okT g (tl i) = true) : plU tl (k + 1) i g = plU tl k (i + 1) (rgT g (tl i).toInt32.toNatClampNeg) := by rw [plU, if_pos h]
theorem pl_f {tl : Nat → Int64} {k i : Nat} {g : rw_} (h : okT g (tl i) = false) : plU tl (k + 1) i g = (some i, g) := by rw [plU, if_neg (by rw [h]; decide)]
theorem l2i_n {v : Int64} {n : Nat} (hn : n ≤ 10) (h0 : 0 ≤ v) (h1 : v < (nI n).toInt64) : ∃ m, m < n ∧ v.toInt32 = nI m := by
  rw [Int64.le_iff_toInt_le, show (0 : Int64).toInt = 0 by decide] at h0
  rw [Int64.lt_iff_toInt_lt, Int32.toInt_toInt64, nI_toInt (by omega)] at h1
  refine ⟨v.toInt.toNat, by omega, Int32.toInt_inj.mp ?_⟩
  rw [Int64.toInt_toInt32, nI_toInt (by omega), Int.toNat_of_nonneg h0]
  exact Int.bmod_eq_of_le (by omega) (by omega)
theorem c_X6_wrongPlace {d : Nat} {F I : Nat → Nat → Int32} {J : Nat → Nat → Int64} {Q : Option Value → sm_H → Prop} {s : Sg} (hC : CR s F I J) (ok : Ok s) {i n : Nat} (hi : i < 8) (hn40 : n ≤ 40) (kk : ∀ F1 I1 : Nat → Nat → Int32, Tw 21 (plU (elA (sgh s) (sgs s) (sge s) i) n 0 (sgf s)).2 F1 I1 → Fr 21 F I F1 I1 → Q (some (.int (eN (plU (elA (sgh s) (sgs s) (sge s) i) n 0 (sgf s)).1))) (S0, F1, I1, J)) : Wp mX6_wrongPlace (d + 6) 0 0 0 (sm_ini [.ref 0, .int (nI i), .int (nI n)] 6) [] (S0, F, I, J) Q := by
  show Wp _ _ _ _ _ [.ref 0, .int (nI i), .int (nI n), .null, .null, .null] _ _ _
  have ht : isT 1 := Or.inl rfl
  have hw := ok.1
  have hT := hC.1
  have hn := hw.n
  have hbn := bn_1024 hw
  have hh1 := hw.wth
  have hh2 := hw.crk
  have hh3 := hw.year
  have hS := hC.2.2.2.2.2
  have ho := ok.2.2.2.2.1
  have hP := hC.2.2.2.2.1
  have hz := ok.2.2.1
  refine wp_aload_n (pc := 0) 0 dX6_wrongPlace_0 rfl rfl ?_
  refine wq_getR (pc := 1) 19 2 dX6_wrongPlace_1 s0_0 flX6_19 rfl rfl (by decide) (by decide) ?_
  refine wp_aload_n (pc := 4) 0 dX6_wrongPlace_4 rfl rfl ?_
  refine wq_getR (pc := 5) 10 0 dX6_wrongPlace_5 s0_0 flX6_10 rfl rfl (by decide) (by decide) ?_
  refine wc_V_R (pc := 8) dX6_wrongPlace_8 lkX6_182 (sm_Rc.o (ci := 4) s0_21 (by decide) (by decide)) (by decide) (Nat.le_of_ble_eq_true rfl) ?_
  refine c_X5_takeFrom (t := 21) (u := 1) (Or.inr (Or.inr rfl) : isT 21) ht (Or.inr (by decide)) hT (fun F1 I1 hT1 hf1 => ?_)
  refine wp_iconst (pc := 11) (0) dX6_wrongPlace_11 (by decide) ?_
  refine wp_istore_n (pc := 12) 3 dX6_wrongPlace_12 rfl (by decide) rfl ?_
  refine wp_loopS (σ := (Nat → Nat → Int32) × (Nat → Nat → Int32) × rw_) (fun j _ => [.ref 0, .int (nI i), .int (nI n), .int (nI j), .null, .null]) (fun _ t => (S0, t.1, t.2.1, J)) (fun j t => Tw 21 t.2.2 t.1 t.2.1 ∧ WF t.2.2 ∧ Fr 21 F I t.1 t.2.1 ∧ plU (elA (sgh s) (sgs s) (sge s) i) n 0 (sgf s) = plU (elA (sgh s) (sgs s) (sge s) i) (n - j) j t.2.2) n (fun j t hj hs nx => ?_) (fun t hs => ?_) 0 (F1, I1, sgf s) (Nat.zero_le _) ⟨hT1, hw, hf1, rfl⟩
  · obtain ⟨F1, I1, g⟩ := t
    obtain ⟨hT1, hw1, hf1, hpl⟩ := hs
    simp only at hT1 hw1 hf1 hpl
    have hg := hw1.n
    have hC1 : CR s F1 I1 J := hC.scr (fun a ha => (hf1 a (by omega)).1) (fun a ha => (hf1 a (by omega)).2)
    refine wp_iload_n (pc := 13) 3 dX6_wrongPlace_13 rfl rfl ?_
    refine wp_iload_n (pc := 14) 2 dX6_wrongPlace_14 rfl rfl ?_
    refine wp_icmp_ge (pc := 15) 81 dX6_wrongPlace_15 (by decide) (fun c_15 => ?_) (fun c_15 => ?_)
    · exact absurd c_15 (nI_ge hj (by omega))
    · refine wp_aload_n (pc := 18) 0 dX6_wrongPlace_18 rfl rfl ?_
      refine wq_getR (pc := 19) 25 3 dX6_wrongPlace_19 s0_0 flX6_25 rfl rfl (by decide) (by decide) ?_
      refine wp_iload_n (pc := 22) 1 dX6_wrongPlace_22 rfl rfl ?_
      refine wp_iload_n (pc := 23) 3 dX6_wrongPlace_23 rfl rfl ?_
      refine wc_V_II (pc := 24) dX6_wrongPlace_24 lkX6_94 (sm_Rc.o (ci := 2) s0_31 (by decide) (by decide)) (by decide) (Nat.le_of_ble_eq_true rfl) ?_
      refine c_X3_elementAt_i hC1.2.2.2.2.2 ho hi (by omega) ?_
      refine wp_lstore (pc := 27) 4 dX6_wrongPlace_27 (by decide) rfl ?_
      refine wp_lload (pc := 29) 4 dX6_wrongPlace_29 rfl ?_
      refine wp_lconst (pc := 31) 0 dX6_wrongPlace_31 (by decide) ?_
      refine wp_lcmp (pc := 32) dX6_wrongPlace_32 ?_
      refine wp_iflt (pc := 33) 63 dX6_wrongPlace_33 (by decide) (fun c_33 => ?_) (fun c_33 => ?_)
      · refine wp_iload_n (pc := 63) 3 dX6_wrongPlace_63 rfl rfl ?_
        refine wp_iretI (pc := 64) dX6_wrongPlace_64 rfl ?_
        rw [hpl, show n - j = n - j - 1 + 1 by omega, pl_f (and_f1 (decide_eq_false (fun z => Int64.not_le.mpr ((lg_cmp_lt _ _).mp c_33) z.1)))] at kk
        exact kk _ _ hT1 hf1
      · refine wp_lload (pc := 36) 4 dX6_wrongPlace_36 rfl ?_
        refine wp_aload_n (pc := 38) 0 dX6_wrongPlace_38 rfl rfl ?_
        refine wq_getR (pc := 39) 19 2 dX6_wrongPlace_39 s0_0 flX6_19 rfl rfl (by decide) (by decide) ?_
        refine wq_getI (pc := 42) 343 0 dX6_wrongPlace_42 s0_21 flX6_343 rfl (by decide) ?_
        refine wp_int hT1.n ?_
        refine wp_i2l (pc := 45) dX6_wrongPlace_45 ?_
        refine wp_lcmp (pc := 46) dX6_wrongPlace_46 ?_
        refine wp_ifge (pc := 47) 63 dX6_wrongPlace_47 (by decide) (fun c_47 => ?_) (fun c_47 => ?_)
        · refine wp_iload_n (pc := 63) 3 dX6_wrongPlace_63 rfl rfl ?_
          refine wp_iretI (pc := 64) dX6_wrongPlace_64 rfl ?_
          rw [hpl, show n - j = n - j - 1 + 1 by omega, pl_f (and_f1 (decide_eq_false (fun z => Int64.not_lt.mpr ((lg_cmp_ge _ _).mp c_47) z.2)))] at kk
          exact kk _ _ hT1 hf1
        · have h0 := Int64.not_lt.mp (fun z => c_33 ((lg_cmp_lt _ _).mpr z))
          have h1 := Int64.not_le.mp (fun z => c_47 ((lg_cmp_ge _ _).mpr z))
          obtain ⟨m, hm1, hm2⟩ := l2i_n hg h0 h1
          refine wp_aload_n (pc := 50) 0 dX6_wrongPlace_50 rfl rfl ?_
          refine wq_getR (pc := 51) 19 2 dX6_wrongPlace_51 s0_0 flX6_19 rfl rfl (by decide) (by decide) ?_
          refine wp_lload (pc := 54) 4 dX6_wrongPlace_54 rfl ?_
          refine wp_l2i (pc := 56) dX6_wrongPlace_56 ?_
          refine wp_int hm2 ?_
          refine wc_V_I (pc := 57) dX6_wrongPlace_57 lkX6_331 (sm_Rc.o (ci := 4) s0_21 (by decide) (by decide)) (by decide) (Nat.le_of_ble_eq_true rfl) ?_
          refine c_X5_mayBeRung (Or.inr (Or.inr rfl) : isT 21) hw1 hT1 (by omega) ?_
          refine wp_ifne (pc := 60) 65 dX6_wrongPlace_60 (by decide) (fun c_60 => ?_) (fun c_60 => ?_)
          · refine wp_aload_n (pc := 65) 0 dX6_wrongPlace_65 rfl rfl ?_
            refine wq_getR (pc := 66) 19 2 dX6_wrongPlace_66 s0_0 flX6_19 rfl rfl (by decide) (by decide) ?_
            refine wp_lload (pc := 69) 4 dX6_wrongPlace_69 rfl ?_
            refine wp_l2i (pc := 71) dX6_wrongPlace_71 ?_
            refine wp_int hm2 ?_
            refine wc_V_I (pc := 72) dX6_wrongPlace_72 lkX6_334 (sm_Rc.o (ci := 4) s0_21 (by decide) (by decide)) (by decide) (Nat.le_of_ble_eq_true rfl) ?_
            refine c_X5_ringThing (Or.inr (Or.inr rfl) : isT 21) hw1 hT1 (by omega) (fun F2 I2 hT2 hf2 => ?_)
            refine wp_incN (pc := 75) 3 dX6_wrongPlace_75 rfl (by decide) rfl ?_
            refine wp_goto (pc := 78) 13 dX6_wrongPlace_78 (by decide) ?_
            have hok : okT g (elA (sgh s) (sgs s) (sge s) i j) = true := and_tt (decide_eq_true ⟨h0, h1⟩) (decide_eq_true (fun z => c_60 (by rw [hm2, nI_clamp (by omega)] at z; rw [z]; rfl)))
            rw [show n - j = n - (j + 1) + 1 by omega, pl_t hok, hm2, nI_clamp (by omega)] at hpl
            have nx := nx (F2, I2, rgT g m) ⟨hT2, WF_rgT hw1 hm1, hf1.tr hf2, hpl⟩
            refine wp_weak ?_ nx
            exact And.intro (Or.inr rfl) (And.intro (Or.inr rfl) (And.intro (Or.inr rfl) (And.intro (Or.inr rfl) (And.intro (Or.inl rfl) (And.intro (Or.inl rfl) (trivial))))))
          · refine wp_iload_n (pc := 63) 3 dX6_wrongPlace_63 rfl rfl ?_
            refine wp_iretI (pc := 64) dX6_wrongPlace_64 rfl ?_
            rw [hpl, show n - j = n - j - 1 + 1 by omega, pl_f (and_f2 (decide_eq_false (fun z => z (by rw [hm2, nI_clamp (by omega)]; exact (nI0 (may_le2 _ _)).mp c_60))))] at kk
            exact kk _ _ hT1 hf1
  · obtain ⟨F1, I1, g⟩ := t
    obtain ⟨hT1, hw1, hf1, hpl⟩ := hs
    simp only at hT1 hw1 hf1 hpl
    refine wp_iload_n (pc := 13) 3 dX6_wrongPlace_13 rfl rfl ?_
    refine wp_iload_n (pc := 14) 2 dX6_wrongPlace_14 rfl rfl ?_
    refine wp_icmp_ge (pc := 15) 81 dX6_wrongPlace_15 (by decide) (fun c_15 => ?_) (fun c_15 => ?_)
    · refine wp_iconst (pc := 81) (-1) dX6_wrongPlace_81 (by decide) ?_
      refine wp_iretI (pc := 82) dX6_wrongPlace_82 rfl ?_
      rw [hpl, Nat.sub_self] at kk
      exact kk _ _ hT1 hf1
    · exact absurd (Int32.le_refl _) c_15
