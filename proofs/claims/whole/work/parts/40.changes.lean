/-! ===== what changes the tower ===== -/
def gat (j : Nat) (c : Bool) (a : Int32 × Sg) (s : Sg) : Int32 × Sg := if c = true then a else rfz s j
theorem gat_t {j : Nat} {c : Bool} {a : Int32 × Sg} {s : Sg} (h : c = true) : gat j c a s = a := if_pos h
theorem gat_f {j : Nat} {c : Bool} {a : Int32 × Sg} {s : Sg} (h : c = false) : gat j c a s = rfz s j := if_neg (by rw [h]; decide)
theorem mostP_le (w : Nat) : mostP w ≤ 99 := by unfold mostP; split; omega; split <;> omega
theorem mostQ_le (w : Nat) : mostQ w ≤ 999 := by unfold mostQ; split; omega; split <;> omega
theorem nI_tn {m : Nat} (h : m < 2 ^ 32) : (nI m).toBitVec.toNat = m := by rw [nI_bv, BitVec.toNat_ofNat]; exact Nat.mod_eq_of_lt h
theorem nI_ex (x : Int32) : ∃ m, m < 2 ^ 32 ∧ x = nI m := ⟨x.toBitVec.toNat, x.toBitVec.isLt, i32_ext (by rw [nI_bv, BitVec.ofNat_toNat]; exact (BitVec.setWidth_eq _).symm)⟩
def do_thing (s : Sg) (x y : Int32) : Int32 × Sg := gat 0 (upB x 99 && (upB y 3)) (gat 4 (decide ((sgf s) 68 < 10)) (nI ((sgf s) 68), stF s (addT (sgf s) x.toNatClampNeg y.toNatClampNeg)) s) s
theorem c_X6_thing {d : Nat} {F I : Nat → Nat → Int32} {J : Nat → Nat → Int64} {Q : Option Value → sm_H → Prop} {x y : Int32} {s : Sg} (hC : CR s F I J) (ok : Ok s) (k : ∀ F1 I1 J1, CR (do_thing s x y).2 F1 I1 J1 → Hi F I J F1 I1 J1 → Q (some (.int (do_thing s x y).1)) (S0, F1, I1, J1)) : Wp mX6_thing (d + 2) 0 0 0 (sm_ini [.ref 0, .int x, .int y] 3) [] (S0, F, I, J) Q := by
  show Wp _ _ _ _ _ [.ref 0, .int x, .int y] _ _ _
  have ht : isT 1 := Or.inl rfl
  have hw := ok.1
  have hT := hC.1
  have hn := hw.n
  have hbn := bn_1024 hw
  have hh1 := hw.wth
  have hh2 := hw.crk
  have hh3 := hw.year
  refine wp_iload_n (pc := 0) 1 dX6_thing_0 rfl rfl ?_
  refine wp_iconst (pc := 1) (0) dX6_thing_1 (by decide) ?_
  refine wc_S_I (pc := 2) dX6_thing_2 lkX6_131 (by decide) (Nat.le_of_ble_eq_true rfl) ?_
  refine c_X5_most (w := 0) (by decide) ?_
  refine wp_int (y := 99) (by decide) ?_
  refine wc_S_II (pc := 5) dX6_thing_5 lkX6_55 (by decide) (Nat.le_of_ble_eq_true rfl) ?_
  refine c_X6_upTo ?_
  refine wp_ifeqB (pc := 8) 19 dX6_thing_8 (by decide) (fun c_8 => ?_) (fun c_8 => ?_)
  · refine wp_aload_n (pc := 19) 0 dX6_thing_19 rfl rfl ?_
    refine wp_bipush (pc := 20) (-2) dX6_thing_20 (by decide) ?_
    refine wc_V_I (pc := 22) dX6_thing_22 lkX6_59 (sm_Rc.o (ci := 5) s0_0 (by decide) (by decide)) (by decide) (Nat.le_of_ble_eq_true rfl) ?_
    refine c_X6_refuse_0 ?_
    refine wp_iretI (pc := 25) dX6_thing_25 rfl ?_
    unfold do_thing at k
    rw [gat_f (c := (upB x 99 && (upB y 3))) (and_f1 c_8)] at k
    exact k _ _ _ (hC.bmp (by decide)) (Hi.rf.uI (by decide))
  · obtain ⟨a, ha, rfl⟩ := (i32_le (n := 99) (by decide)).mp (of_decide_eq_true c_8)
    refine wp_iload_n (pc := 11) 2 dX6_thing_11 rfl rfl ?_
    refine wp_iconst (pc := 12) (3) dX6_thing_12 (by decide) ?_
    refine wc_S_II (pc := 13) dX6_thing_13 lkX6_55 (by decide) (Nat.le_of_ble_eq_true rfl) ?_
    refine c_X6_upTo ?_
    refine wp_ifneB (pc := 16) 26 dX6_thing_16 (by decide) (fun c_16 => ?_) (fun c_16 => ?_)
    · obtain ⟨b, hb, rfl⟩ := (i32_le (n := 3) (by decide)).mp (of_decide_eq_true c_16)
      refine wp_aload_n (pc := 26) 0 dX6_thing_26 rfl rfl ?_
      refine wq_getR (pc := 27) 10 0 dX6_thing_27 s0_0 flX6_10 rfl rfl (by decide) (by decide) ?_
      refine wc_V_ (pc := 30) dX6_thing_30 lkX6_134 (sm_Rc.o (ci := 4) s0_1 (by decide) (by decide)) (by decide) (Nat.le_of_ble_eq_true rfl) ?_
      refine c_X5_hasRoom ht hw hT ?_
      refine wp_ifneB (pc := 33) 43 dX6_thing_33 (by decide) (fun c_33 => ?_) (fun c_33 => ?_)
      · have hrm := of_decide_eq_true c_33
        refine wp_aload_n (pc := 43) 0 dX6_thing_43 rfl rfl ?_
        refine wq_getR (pc := 44) 10 0 dX6_thing_44 s0_0 flX6_10 rfl rfl (by decide) (by decide) ?_
        refine wp_iload_n (pc := 47) 1 dX6_thing_47 rfl rfl ?_
        refine wp_iload_n (pc := 48) 2 dX6_thing_48 rfl rfl ?_
        refine wc_V_II (pc := 49) dX6_thing_49 lkX6_138 (sm_Rc.o (ci := 4) s0_1 (by decide) (by decide)) (by decide) (Nat.le_of_ble_eq_true rfl) ?_
        refine c_X5_addThing ht hw hT hrm (fun F1 I1 hT1 hf1 => ?_)
        refine wp_iretI (pc := 52) dX6_thing_52 rfl ?_
        unfold do_thing at k
        rw [gat_t (c := (upB (nI a) 99 && (upB (nI b) 3))) (and_tt c_8 c_16)] at k
        rw [gat_t (c := (decide ((sgf s) 68 < 10))) c_33] at k
        rw [nI_clamp (by omega), nI_clamp (by omega)] at k
        exact k _ _ _ (hC.f hT1 hf1) (Hi.rf.fr ht hf1)
      · refine wp_aload_n (pc := 36) 0 dX6_thing_36 rfl rfl ?_
        refine wp_bipush (pc := 37) (-6) dX6_thing_37 (by decide) ?_
        refine wc_V_I (pc := 39) dX6_thing_39 lkX6_59 (sm_Rc.o (ci := 5) s0_0 (by decide) (by decide)) (by decide) (Nat.le_of_ble_eq_true rfl) ?_
        refine c_X6_refuse_4 ?_
        refine wp_iretI (pc := 42) dX6_thing_42 rfl ?_
        unfold do_thing at k
        rw [gat_t (c := (upB (nI a) 99 && (upB (nI b) 3))) (and_tt c_8 c_16)] at k
        rw [gat_f (c := (decide ((sgf s) 68 < 10))) c_33] at k
        exact k _ _ _ (hC.bmp (by decide)) (Hi.rf.uI (by decide))
    · refine wp_aload_n (pc := 19) 0 dX6_thing_19 rfl rfl ?_
      refine wp_bipush (pc := 20) (-2) dX6_thing_20 (by decide) ?_
      refine wc_V_I (pc := 22) dX6_thing_22 lkX6_59 (sm_Rc.o (ci := 5) s0_0 (by decide) (by decide)) (by decide) (Nat.le_of_ble_eq_true rfl) ?_
      refine c_X6_refuse_0 ?_
      refine wp_iretI (pc := 25) dX6_thing_25 rfl ?_
      unfold do_thing at k
      rw [gat_f (c := (upB (nI a) 99 && (upB y 3))) (and_f2 c_16)] at k
      exact k _ _ _ (hC.bmp (by decide)) (Hi.rf.uI (by decide))
def do_ringer (s : Sg) (x y z : Int32) : Int32 × Sg := gat 0 (upB x 5 && (upB y 9 && (upB z 7))) (gat 4 (decide ((sgf s) 69 < 6)) (nI ((sgf s) 69), stF s (addR (sgf s) x.toNatClampNeg y.toNatClampNeg z.toNatClampNeg)) s) s
theorem c_X6_ringer {d : Nat} {F I : Nat → Nat → Int32} {J : Nat → Nat → Int64} {Q : Option Value → sm_H → Prop} {x y z : Int32} {s : Sg} (hC : CR s F I J) (ok : Ok s) (k : ∀ F1 I1 J1, CR (do_ringer s x y z).2 F1 I1 J1 → Hi F I J F1 I1 J1 → Q (some (.int (do_ringer s x y z).1)) (S0, F1, I1, J1)) : Wp mX6_ringer (d + 2) 0 0 0 (sm_ini [.ref 0, .int x, .int y, .int z] 4) [] (S0, F, I, J) Q := by
  show Wp _ _ _ _ _ [.ref 0, .int x, .int y, .int z] _ _ _
  have ht : isT 1 := Or.inl rfl
  have hw := ok.1
  have hT := hC.1
  have hn := hw.n
  have hbn := bn_1024 hw
  have hh1 := hw.wth
  have hh2 := hw.crk
  have hh3 := hw.year
  refine wp_iload_n (pc := 0) 1 dX6_ringer_0 rfl rfl ?_
  refine wp_iconst (pc := 1) (5) dX6_ringer_1 (by decide) ?_
  refine wc_S_II (pc := 2) dX6_ringer_2 lkX6_55 (by decide) (Nat.le_of_ble_eq_true rfl) ?_
  refine c_X6_upTo ?_
  refine wp_ifeqB (pc := 5) 26 dX6_ringer_5 (by decide) (fun c_5 => ?_) (fun c_5 => ?_)
  · refine wp_aload_n (pc := 26) 0 dX6_ringer_26 rfl rfl ?_
    refine wp_bipush (pc := 27) (-2) dX6_ringer_27 (by decide) ?_
    refine wc_V_I (pc := 29) dX6_ringer_29 lkX6_59 (sm_Rc.o (ci := 5) s0_0 (by decide) (by decide)) (by decide) (Nat.le_of_ble_eq_true rfl) ?_
    refine c_X6_refuse_0 ?_
    refine wp_iretI (pc := 32) dX6_ringer_32 rfl ?_
    unfold do_ringer at k
    rw [gat_f (c := (upB x 5 && (upB y 9 && (upB z 7)))) (and_f1 c_5)] at k
    exact k _ _ _ (hC.bmp (by decide)) (Hi.rf.uI (by decide))
  · obtain ⟨a, ha, rfl⟩ := (i32_le (n := 5) (by decide)).mp (of_decide_eq_true c_5)
    refine wp_iload_n (pc := 8) 2 dX6_ringer_8 rfl rfl ?_
    refine wp_bipush (pc := 9) (9) dX6_ringer_9 (by decide) ?_
    refine wc_S_II (pc := 11) dX6_ringer_11 lkX6_55 (by decide) (Nat.le_of_ble_eq_true rfl) ?_
    refine c_X6_upTo ?_
    refine wp_ifeqB (pc := 14) 26 dX6_ringer_14 (by decide) (fun c_14 => ?_) (fun c_14 => ?_)
    · refine wp_aload_n (pc := 26) 0 dX6_ringer_26 rfl rfl ?_
      refine wp_bipush (pc := 27) (-2) dX6_ringer_27 (by decide) ?_
      refine wc_V_I (pc := 29) dX6_ringer_29 lkX6_59 (sm_Rc.o (ci := 5) s0_0 (by decide) (by decide)) (by decide) (Nat.le_of_ble_eq_true rfl) ?_
      refine c_X6_refuse_0 ?_
      refine wp_iretI (pc := 32) dX6_ringer_32 rfl ?_
      unfold do_ringer at k
      rw [gat_f (c := (upB (nI a) 5 && (upB y 9 && (upB z 7)))) (and_f2 (and_f1 c_14))] at k
      exact k _ _ _ (hC.bmp (by decide)) (Hi.rf.uI (by decide))
    · obtain ⟨b, hb, rfl⟩ := (i32_le (n := 9) (by decide)).mp (of_decide_eq_true c_14)
      refine wp_iload_n (pc := 17) 3 dX6_ringer_17 rfl rfl ?_
      refine wp_bipush (pc := 18) (7) dX6_ringer_18 (by decide) ?_
      refine wc_S_II (pc := 20) dX6_ringer_20 lkX6_55 (by decide) (Nat.le_of_ble_eq_true rfl) ?_
      refine c_X6_upTo ?_
      refine wp_ifneB (pc := 23) 33 dX6_ringer_23 (by decide) (fun c_23 => ?_) (fun c_23 => ?_)
      · obtain ⟨c, hc, rfl⟩ := (i32_le (n := 7) (by decide)).mp (of_decide_eq_true c_23)
        refine wp_aload_n (pc := 33) 0 dX6_ringer_33 rfl rfl ?_
        refine wq_getR (pc := 34) 10 0 dX6_ringer_34 s0_0 flX6_10 rfl rfl (by decide) (by decide) ?_
        refine wq_getR (pc := 37) 98 10 dX6_ringer_37 s0_1 flX6_98 rfl rfl (by decide) (by decide) ?_
        refine wc_V_ (pc := 40) dX6_ringer_40 lkX6_141 (sm_Rc.o (ci := 0) s0_6 (by decide) (by decide)) (by decide) (Nat.le_of_ble_eq_true rfl) ?_
        refine c_X0_hasRoom ht hw hT ?_
        refine wp_ifneB (pc := 43) 53 dX6_ringer_43 (by decide) (fun c_43 => ?_) (fun c_43 => ?_)
        · have hrm := of_decide_eq_true c_43
          refine wp_aload_n (pc := 53) 0 dX6_ringer_53 rfl rfl ?_
          refine wq_getR (pc := 54) 10 0 dX6_ringer_54 s0_0 flX6_10 rfl rfl (by decide) (by decide) ?_
          refine wq_getR (pc := 57) 98 10 dX6_ringer_57 s0_1 flX6_98 rfl rfl (by decide) (by decide) ?_
          refine wp_iload_n (pc := 60) 1 dX6_ringer_60 rfl rfl ?_
          refine wp_iload_n (pc := 61) 2 dX6_ringer_61 rfl rfl ?_
          refine wp_iload_n (pc := 62) 3 dX6_ringer_62 rfl rfl ?_
          refine wc_V_III (pc := 63) dX6_ringer_63 lkX6_142 (sm_Rc.o (ci := 0) s0_6 (by decide) (by decide)) (by decide) (Nat.le_of_ble_eq_true rfl) ?_
          refine c_X0_addRinger ht hw hT hrm (fun F1 I1 hT1 hf1 => ?_)
          refine wp_iretI (pc := 66) dX6_ringer_66 rfl ?_
          unfold do_ringer at k
          rw [gat_t (c := (upB (nI a) 5 && (upB (nI b) 9 && (upB (nI c) 7)))) (and_tt c_5 (and_tt c_14 c_23))] at k
          rw [gat_t (c := (decide ((sgf s) 69 < 6))) c_43] at k
          rw [nI_clamp (by omega), nI_clamp (by omega), nI_clamp (by omega)] at k
          exact k _ _ _ (hC.f hT1 hf1) (Hi.rf.fr ht hf1)
        · refine wp_aload_n (pc := 46) 0 dX6_ringer_46 rfl rfl ?_
          refine wp_bipush (pc := 47) (-6) dX6_ringer_47 (by decide) ?_
          refine wc_V_I (pc := 49) dX6_ringer_49 lkX6_59 (sm_Rc.o (ci := 5) s0_0 (by decide) (by decide)) (by decide) (Nat.le_of_ble_eq_true rfl) ?_
          refine c_X6_refuse_4 ?_
          refine wp_iretI (pc := 52) dX6_ringer_52 rfl ?_
          unfold do_ringer at k
          rw [gat_t (c := (upB (nI a) 5 && (upB (nI b) 9 && (upB (nI c) 7)))) (and_tt c_5 (and_tt c_14 c_23))] at k
          rw [gat_f (c := (decide ((sgf s) 69 < 6))) c_43] at k
          exact k _ _ _ (hC.bmp (by decide)) (Hi.rf.uI (by decide))
      · refine wp_aload_n (pc := 26) 0 dX6_ringer_26 rfl rfl ?_
        refine wp_bipush (pc := 27) (-2) dX6_ringer_27 (by decide) ?_
        refine wc_V_I (pc := 29) dX6_ringer_29 lkX6_59 (sm_Rc.o (ci := 5) s0_0 (by decide) (by decide)) (by decide) (Nat.le_of_ble_eq_true rfl) ?_
        refine c_X6_refuse_0 ?_
        refine wp_iretI (pc := 32) dX6_ringer_32 rfl ?_
        unfold do_ringer at k
        rw [gat_f (c := (upB (nI a) 5 && (upB (nI b) 9 && (upB z 7)))) (and_f2 (and_f2 c_23))] at k
        exact k _ _ _ (hC.bmp (by decide)) (Hi.rf.uI (by decide))
def do_free (s : Sg) (x : Int32) : Int32 × Sg := gat 0 (isTh s x) (nI ((sgf s) (5 * x.toNatClampNeg + 2)), stF s (fu (sgf s) (5 * x.toNatClampNeg + 2) 0)) s
theorem c_X6_free {d : Nat} {F I : Nat → Nat → Int32} {J : Nat → Nat → Int64} {Q : Option Value → sm_H → Prop} {x : Int32} {s : Sg} (hC : CR s F I J) (ok : Ok s) (k : ∀ F1 I1 J1, CR (do_free s x).2 F1 I1 J1 → Hi F I J F1 I1 J1 → Q (some (.int (do_free s x).1)) (S0, F1, I1, J1)) : Wp mX6_free (d + 2) 0 0 0 (sm_ini [.ref 0, .int x] 3) [] (S0, F, I, J) Q := by
  show Wp _ _ _ _ _ [.ref 0, .int x, .null] _ _ _
  have ht : isT 1 := Or.inl rfl
  have hw := ok.1
  have hT := hC.1
  have hn := hw.n
  have hbn := bn_1024 hw
  have hh1 := hw.wth
  have hh2 := hw.crk
  have hh3 := hw.year
  refine wp_aload_n (pc := 0) 0 dX6_free_0 rfl rfl ?_
  refine wq_getR (pc := 1) 10 0 dX6_free_1 s0_0 flX6_10 rfl rfl (by decide) (by decide) ?_
  refine wp_iload_n (pc := 4) 1 dX6_free_4 rfl rfl ?_
  refine wc_V_I (pc := 5) dX6_free_5 lkX6_146 (sm_Rc.o (ci := 4) s0_1 (by decide) (by decide)) (by decide) (Nat.le_of_ble_eq_true rfl) ?_
  refine c_X5_isThing ht hw hT ?_
  refine wp_ifneB (pc := 8) 18 dX6_free_8 (by decide) (fun c_8 => ?_) (fun c_8 => ?_)
  · obtain ⟨i, hi0, rfl⟩ := (i32_in (by omega)).mp (of_decide_eq_true c_8)
    have hi : i < 10 := by omega
    refine wp_aload_n (pc := 18) 0 dX6_free_18 rfl rfl ?_
    refine wq_getR (pc := 19) 10 0 dX6_free_19 s0_0 flX6_10 rfl rfl (by decide) (by decide) ?_
    refine wp_iload_n (pc := 22) 1 dX6_free_22 rfl rfl ?_
    refine wc_V_I (pc := 23) dX6_free_23 lkX6_149 (sm_Rc.o (ci := 4) s0_1 (by decide) (by decide)) (by decide) (Nat.le_of_ble_eq_true rfl) ?_
    refine c_X5_hungOf ht hw hT hi ?_
    refine wp_istore_n (pc := 26) 2 dX6_free_26 rfl (by decide) rfl ?_
    refine wp_aload_n (pc := 27) 0 dX6_free_27 rfl rfl ?_
    refine wq_getR (pc := 28) 10 0 dX6_free_28 s0_0 flX6_10 rfl rfl (by decide) (by decide) ?_
    refine wp_iload_n (pc := 31) 1 dX6_free_31 rfl rfl ?_
    refine wc_V_I (pc := 32) dX6_free_32 lkX6_309 (sm_Rc.o (ci := 4) s0_1 (by decide) (by decide)) (by decide) (Nat.le_of_ble_eq_true rfl) ?_
    refine c_X5_freeThing ht hw hT hi (fun I1 hT1 hf1 => ?_)
    refine wp_iload_n (pc := 35) 2 dX6_free_35 rfl rfl ?_
    refine wp_iretI (pc := 36) dX6_free_36 rfl ?_
    unfold do_free at k
    rw [gat_t (c := (isTh s (nI i))) c_8] at k
    rw [nI_clamp (by omega)] at k
    exact k _ _ _ (hC.f hT1 hf1) (Hi.rf.fr ht hf1)
  · refine wp_aload_n (pc := 11) 0 dX6_free_11 rfl rfl ?_
    refine wp_bipush (pc := 12) (-2) dX6_free_12 (by decide) ?_
    refine wc_V_I (pc := 14) dX6_free_14 lkX6_59 (sm_Rc.o (ci := 5) s0_0 (by decide) (by decide)) (by decide) (Nat.le_of_ble_eq_true rfl) ?_
    refine c_X6_refuse_0 ?_
    refine wp_iretI (pc := 17) dX6_free_17 rfl ?_
    unfold do_free at k
    rw [gat_f (c := (isTh s x)) c_8] at k
    exact k _ _ _ (hC.bmp (by decide)) (Hi.rf.uI (by decide))
def do_give (s : Sg) (x y z : Int32) : Int32 × Sg := gat 0 (isTh s x && (upB y 3 && (upB z (nI (mostP y.toNatClampNeg))))) (nI (partN (sgf s) x.toNatClampNeg y.toNatClampNeg), stF s (fu (sgf s) (5 * x.toNatClampNeg + pj y.toNatClampNeg) z.toNatClampNeg)) s
theorem c_X6_give {d : Nat} {F I : Nat → Nat → Int32} {J : Nat → Nat → Int64} {Q : Option Value → sm_H → Prop} {x y z : Int32} {s : Sg} (hC : CR s F I J) (ok : Ok s) (k : ∀ F1 I1 J1, CR (do_give s x y z).2 F1 I1 J1 → Hi F I J F1 I1 J1 → Q (some (.int (do_give s x y z).1)) (S0, F1, I1, J1)) : Wp mX6_give (d + 4) 0 0 0 (sm_ini [.ref 0, .int x, .int y, .int z] 5) [] (S0, F, I, J) Q := by
  show Wp _ _ _ _ _ [.ref 0, .int x, .int y, .int z, .null] _ _ _
  have ht : isT 1 := Or.inl rfl
  have hw := ok.1
  have hT := hC.1
  have hn := hw.n
  have hbn := bn_1024 hw
  have hh1 := hw.wth
  have hh2 := hw.crk
  have hh3 := hw.year
  refine wp_aload_n (pc := 0) 0 dX6_give_0 rfl rfl ?_
  refine wq_getR (pc := 1) 10 0 dX6_give_1 s0_0 flX6_10 rfl rfl (by decide) (by decide) ?_
  refine wp_iload_n (pc := 4) 1 dX6_give_4 rfl rfl ?_
  refine wc_V_I (pc := 5) dX6_give_5 lkX6_146 (sm_Rc.o (ci := 4) s0_1 (by decide) (by decide)) (by decide) (Nat.le_of_ble_eq_true rfl) ?_
  refine c_X5_isThing ht hw hT ?_
  refine wp_ifeqB (pc := 8) 30 dX6_give_8 (by decide) (fun c_8 => ?_) (fun c_8 => ?_)
  · refine wp_aload_n (pc := 30) 0 dX6_give_30 rfl rfl ?_
    refine wp_bipush (pc := 31) (-2) dX6_give_31 (by decide) ?_
    refine wc_V_I (pc := 33) dX6_give_33 lkX6_59 (sm_Rc.o (ci := 5) s0_0 (by decide) (by decide)) (by decide) (Nat.le_of_ble_eq_true rfl) ?_
    refine c_X6_refuse_0 ?_
    refine wp_iretI (pc := 36) dX6_give_36 rfl ?_
    unfold do_give at k
    rw [gat_f (c := (isTh s x && (upB y 3 && (upB z (nI (mostP y.toNatClampNeg)))))) (and_f1 c_8)] at k
    exact k _ _ _ (hC.bmp (by decide)) (Hi.rf.uI (by decide))
  · obtain ⟨i, hi0, rfl⟩ := (i32_in (by omega)).mp (of_decide_eq_true c_8)
    have hi : i < 10 := by omega
    refine wp_iload_n (pc := 11) 2 dX6_give_11 rfl rfl ?_
    refine wp_iconst (pc := 12) (3) dX6_give_12 (by decide) ?_
    refine wc_S_II (pc := 13) dX6_give_13 lkX6_55 (by decide) (Nat.le_of_ble_eq_true rfl) ?_
    refine c_X6_upTo ?_
    refine wp_ifeqB (pc := 16) 30 dX6_give_16 (by decide) (fun c_16 => ?_) (fun c_16 => ?_)
    · refine wp_aload_n (pc := 30) 0 dX6_give_30 rfl rfl ?_
      refine wp_bipush (pc := 31) (-2) dX6_give_31 (by decide) ?_
      refine wc_V_I (pc := 33) dX6_give_33 lkX6_59 (sm_Rc.o (ci := 5) s0_0 (by decide) (by decide)) (by decide) (Nat.le_of_ble_eq_true rfl) ?_
      refine c_X6_refuse_0 ?_
      refine wp_iretI (pc := 36) dX6_give_36 rfl ?_
      unfold do_give at k
      rw [gat_f (c := (isTh s (nI i) && (upB y 3 && (upB z (nI (mostP y.toNatClampNeg)))))) (and_f2 (and_f1 c_16))] at k
      exact k _ _ _ (hC.bmp (by decide)) (Hi.rf.uI (by decide))
    · obtain ⟨p, hp, rfl⟩ := (i32_le (n := 3) (by decide)).mp (of_decide_eq_true c_16)
      have hmp := mostP_le p
      have hpc : (nI p).toNatClampNeg = p := nI_clamp (by omega)
      refine wp_iload_n (pc := 19) 3 dX6_give_19 rfl rfl ?_
      refine wp_iload_n (pc := 20) 2 dX6_give_20 rfl rfl ?_
      refine wc_S_I (pc := 21) dX6_give_21 lkX6_131 (by decide) (Nat.le_of_ble_eq_true rfl) ?_
      refine c_X5_most (w := p) (by omega) ?_
      refine wc_S_II (pc := 24) dX6_give_24 lkX6_55 (by decide) (Nat.le_of_ble_eq_true rfl) ?_
      refine c_X6_upTo ?_
      refine wp_ifneB (pc := 27) 37 dX6_give_27 (by decide) (fun c_27 => ?_) (fun c_27 => ?_)
      · obtain ⟨v, hv, rfl⟩ := (i32_le (n := mostP p) (by omega)).mp (of_decide_eq_true c_27)
        refine wp_aload_n (pc := 37) 0 dX6_give_37 rfl rfl ?_
        refine wq_getR (pc := 38) 10 0 dX6_give_38 s0_0 flX6_10 rfl rfl (by decide) (by decide) ?_
        refine wp_iload_n (pc := 41) 1 dX6_give_41 rfl rfl ?_
        refine wp_iload_n (pc := 42) 2 dX6_give_42 rfl rfl ?_
        refine wc_V_II (pc := 43) dX6_give_43 lkX6_159 (sm_Rc.o (ci := 4) s0_1 (by decide) (by decide)) (by decide) (Nat.le_of_ble_eq_true rfl) ?_
        refine c_X5_partOf ht hw hT hi (by omega) ?_
        refine wp_istore (pc := 46) 4 dX6_give_46 (by decide) rfl ?_
        refine wp_aload_n (pc := 48) 0 dX6_give_48 rfl rfl ?_
        refine wq_getR (pc := 49) 10 0 dX6_give_49 s0_0 flX6_10 rfl rfl (by decide) (by decide) ?_
        refine wp_iload_n (pc := 52) 1 dX6_give_52 rfl rfl ?_
        refine wp_iload_n (pc := 53) 2 dX6_give_53 rfl rfl ?_
        refine wp_iload_n (pc := 54) 3 dX6_give_54 rfl rfl ?_
        refine wc_V_III (pc := 55) dX6_give_55 lkX6_162 (sm_Rc.o (ci := 4) s0_1 (by decide) (by decide)) (by decide) (Nat.le_of_ble_eq_true rfl) ?_
        refine c_X5_changePart ht hw hT hi (by omega) (fun e => by rw [e] at hv; exact hv) (fun F1 I1 hT1 hf1 => ?_)
        refine wp_iload (pc := 58) 4 dX6_give_58 rfl ?_
        refine wp_iretI (pc := 60) dX6_give_60 rfl ?_
        unfold do_give at k
        rw [hpc] at k
        rw [gat_t (c := (isTh s (nI i) && (upB (nI p) 3 && (upB (nI v) (nI (mostP p)))))) (and_tt c_8 (and_tt c_16 c_27))] at k
        rw [nI_clamp (by omega), nI_clamp (by omega)] at k
        exact k _ _ _ (hC.f hT1 hf1) (Hi.rf.fr ht hf1)
      · refine wp_aload_n (pc := 30) 0 dX6_give_30 rfl rfl ?_
        refine wp_bipush (pc := 31) (-2) dX6_give_31 (by decide) ?_
        refine wc_V_I (pc := 33) dX6_give_33 lkX6_59 (sm_Rc.o (ci := 5) s0_0 (by decide) (by decide)) (by decide) (Nat.le_of_ble_eq_true rfl) ?_
        refine c_X6_refuse_0 ?_
        refine wp_iretI (pc := 36) dX6_give_36 rfl ?_
        unfold do_give at k
        rw [hpc] at k
        rw [gat_f (c := (isTh s (nI i) && (upB (nI p) 3 && (upB z (nI (mostP p)))))) (and_f2 (and_f2 c_27))] at k
        exact k _ _ _ (hC.bmp (by decide)) (Hi.rf.uI (by decide))
def do_tell (s : Sg) (x y : Int32) : Int32 × Sg := gat 0 (upB x 2 && (upB y (nI (mostQ x.toNatClampNeg)))) (nI ((sgf s) (70 + x.toNatClampNeg)), stF s (fu (sgf s) (70 + x.toNatClampNeg) y.toNatClampNeg)) s
theorem c_X6_tell {d : Nat} {F I : Nat → Nat → Int32} {J : Nat → Nat → Int64} {Q : Option Value → sm_H → Prop} {x y : Int32} {s : Sg} (hC : CR s F I J) (ok : Ok s) (k : ∀ F1 I1 J1, CR (do_tell s x y).2 F1 I1 J1 → Hi F I J F1 I1 J1 → Q (some (.int (do_tell s x y).1)) (S0, F1, I1, J1)) : Wp mX6_tell (d + 2) 0 0 0 (sm_ini [.ref 0, .int x, .int y] 4) [] (S0, F, I, J) Q := by
  show Wp _ _ _ _ _ [.ref 0, .int x, .int y, .null] _ _ _
  have ht : isT 1 := Or.inl rfl
  have hw := ok.1
  have hT := hC.1
  have hn := hw.n
  have hbn := bn_1024 hw
  have hh1 := hw.wth
  have hh2 := hw.crk
  have hh3 := hw.year
  refine wp_iload_n (pc := 0) 1 dX6_tell_0 rfl rfl ?_
  refine wp_iconst (pc := 1) (2) dX6_tell_1 (by decide) ?_
  refine wc_S_II (pc := 2) dX6_tell_2 lkX6_55 (by decide) (Nat.le_of_ble_eq_true rfl) ?_
  refine c_X6_upTo ?_
  refine wp_ifeqB (pc := 5) 19 dX6_tell_5 (by decide) (fun c_5 => ?_) (fun c_5 => ?_)
  · refine wp_aload_n (pc := 19) 0 dX6_tell_19 rfl rfl ?_
    refine wp_bipush (pc := 20) (-2) dX6_tell_20 (by decide) ?_
    refine wc_V_I (pc := 22) dX6_tell_22 lkX6_59 (sm_Rc.o (ci := 5) s0_0 (by decide) (by decide)) (by decide) (Nat.le_of_ble_eq_true rfl) ?_
    refine c_X6_refuse_0 ?_
    refine wp_iretI (pc := 25) dX6_tell_25 rfl ?_
    unfold do_tell at k
    rw [gat_f (c := (upB x 2 && (upB y (nI (mostQ x.toNatClampNeg))))) (and_f1 c_5)] at k
    exact k _ _ _ (hC.bmp (by decide)) (Hi.rf.uI (by decide))
  · obtain ⟨p, hp, rfl⟩ := (i32_le (n := 2) (by decide)).mp (of_decide_eq_true c_5)
    have hmp := mostQ_le p
    have hpc : (nI p).toNatClampNeg = p := nI_clamp (by omega)
    refine wp_iload_n (pc := 8) 2 dX6_tell_8 rfl rfl ?_
    refine wp_iload_n (pc := 9) 1 dX6_tell_9 rfl rfl ?_
    refine wc_S_I (pc := 10) dX6_tell_10 lkX6_165 (by decide) (Nat.le_of_ble_eq_true rfl) ?_
    refine c_X5_mostTold (w := p) (by omega) ?_
    refine wc_S_II (pc := 13) dX6_tell_13 lkX6_55 (by decide) (Nat.le_of_ble_eq_true rfl) ?_
    refine c_X6_upTo ?_
    refine wp_ifneB (pc := 16) 26 dX6_tell_16 (by decide) (fun c_16 => ?_) (fun c_16 => ?_)
    · obtain ⟨v, hv, rfl⟩ := (i32_le (n := mostQ p) (by omega)).mp (of_decide_eq_true c_16)
      refine wp_aload_n (pc := 26) 0 dX6_tell_26 rfl rfl ?_
      refine wq_getR (pc := 27) 10 0 dX6_tell_27 s0_0 flX6_10 rfl rfl (by decide) (by decide) ?_
      refine wp_iload_n (pc := 30) 1 dX6_tell_30 rfl rfl ?_
      refine wc_V_I (pc := 31) dX6_tell_31 lkX6_168 (sm_Rc.o (ci := 4) s0_1 (by decide) (by decide)) (by decide) (Nat.le_of_ble_eq_true rfl) ?_
      refine c_X5_toldOf ht hw hT (by omega) ?_
      refine wp_istore_n (pc := 34) 3 dX6_tell_34 rfl (by decide) rfl ?_
      refine wp_aload_n (pc := 35) 0 dX6_tell_35 rfl rfl ?_
      refine wq_getR (pc := 36) 10 0 dX6_tell_36 s0_0 flX6_10 rfl rfl (by decide) (by decide) ?_
      refine wp_iload_n (pc := 39) 1 dX6_tell_39 rfl rfl ?_
      refine wp_iload_n (pc := 40) 2 dX6_tell_40 rfl rfl ?_
      refine wc_V_II (pc := 41) dX6_tell_41 lkX6_171 (sm_Rc.o (ci := 4) s0_1 (by decide) (by decide)) (by decide) (Nat.le_of_ble_eq_true rfl) ?_
      refine c_X5_changeTold ht hw hT (by omega) (fun F1 hT1 hf1 => ?_)
      refine wp_iload_n (pc := 44) 3 dX6_tell_44 rfl rfl ?_
      refine wp_iretI (pc := 45) dX6_tell_45 rfl ?_
      unfold do_tell at k
      rw [hpc] at k
      rw [gat_t (c := (upB (nI p) 2 && (upB (nI v) (nI (mostQ p))))) (and_tt c_5 c_16)] at k
      rw [nI_clamp (by omega)] at k
      exact k _ _ _ (hC.f hT1 hf1) (Hi.rf.fr ht hf1)
    · refine wp_aload_n (pc := 19) 0 dX6_tell_19 rfl rfl ?_
      refine wp_bipush (pc := 20) (-2) dX6_tell_20 (by decide) ?_
      refine wc_V_I (pc := 22) dX6_tell_22 lkX6_59 (sm_Rc.o (ci := 5) s0_0 (by decide) (by decide)) (by decide) (Nat.le_of_ble_eq_true rfl) ?_
      refine c_X6_refuse_0 ?_
      refine wp_iretI (pc := 25) dX6_tell_25 rfl ?_
      unfold do_tell at k
      rw [hpc] at k
      rw [gat_f (c := (upB (nI p) 2 && (upB y (nI (mostQ p))))) (and_f2 c_16)] at k
      exact k _ _ _ (hC.bmp (by decide)) (Hi.rf.uI (by decide))
