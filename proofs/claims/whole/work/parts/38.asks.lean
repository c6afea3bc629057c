/-! ===== what the object answers without a change ===== -/
theorem and_tt {a b : Bool} (h1 : a = true) (h2 : b = true) : (a && b) = true := by rw [h1, h2]; rfl
theorem and_f1 {a b : Bool} (h1 : a = false) : (a && b) = false := by rw [h1]; rfl
theorem and_f2 {a b : Bool} (h2 : b = false) : (a && b) = false := by rw [h2]; exact Bool.and_false _
def do_off (s : Sg) (x : Int32) : Int32 × Sg := qry (isTh s x) (nI (dif (sta (sgf s) (bn (sgf s))) (sta (sgf s) (dif (bn (sgf s)) (2 ^ x.toNatClampNeg))))) s
theorem c_X6_off {d : Nat} {F I : Nat → Nat → Int32} {J : Nat → Nat → Int64} {Q : Option Value → sm_H → Prop} {x : Int32} {s : Sg} (hC : CR s F I J) (ok : Ok s) (k : ∀ F1 I1 J1, CR (do_off s x).2 F1 I1 J1 → Hi F I J F1 I1 J1 → Q (some (.int (do_off s x).1)) (S0, F1, I1, J1)) : Wp mX6_off (d + 3) 0 0 0 (sm_ini [.ref 0, .int x] 2) [] (S0, F, I, J) Q := by
  show Wp _ _ _ _ _ [.ref 0, .int x] _ _ _
  have ht : isT 1 := Or.inl rfl
  have hw := ok.1
  have hT := hC.1
  have hn := hw.n
  have hbn := bn_1024 hw
  have hh1 := hw.wth
  have hh2 := hw.crk
  have hh3 := hw.year
  refine wp_aload_n (pc := 0) 0 dX6_off_0 rfl rfl ?_
  refine wq_getR (pc := 1) 10 0 dX6_off_1 s0_0 flX6_10 rfl rfl (by decide) (by decide) ?_
  refine wp_iload_n (pc := 4) 1 dX6_off_4 rfl rfl ?_
  refine wc_V_I (pc := 5) dX6_off_5 lkX6_146 (sm_Rc.o (ci := 4) s0_1 (by decide) (by decide)) (by decide) (Nat.le_of_ble_eq_true rfl) ?_
  refine c_X5_isThing ht hw hT ?_
  refine wp_ifeqB (pc := 8) 22 dX6_off_8 (by decide) (fun c_8 => ?_) (fun c_8 => ?_)
  · refine wp_aload_n (pc := 22) 0 dX6_off_22 rfl rfl ?_
    refine wp_bipush (pc := 23) (-2) dX6_off_23 (by decide) ?_
    refine wc_V_I (pc := 25) dX6_off_25 lkX6_59 (sm_Rc.o (ci := 5) s0_0 (by decide) (by decide)) (by decide) (Nat.le_of_ble_eq_true rfl) ?_
    refine c_X6_refuse_0 ?_
    refine wp_iretI (pc := 28) dX6_off_28 rfl ?_
    unfold do_off at k
    rw [qry_f (c := (isTh s x)) c_8] at k
    exact k _ _ _ (hC.bmp (by decide)) (Hi.rf.uI (by decide))
  · obtain ⟨i, hi0, rfl⟩ := (i32_in (by omega)).mp (of_decide_eq_true c_8)
    have hi : i < 10 := by omega
    refine wp_aload_n (pc := 11) 0 dX6_off_11 rfl rfl ?_
    refine wq_getR (pc := 12) 10 0 dX6_off_12 s0_0 flX6_10 rfl rfl (by decide) (by decide) ?_
    refine wp_iload_n (pc := 15) 1 dX6_off_15 rfl rfl ?_
    refine wc_V_I (pc := 16) dX6_off_16 lkX6_214 (sm_Rc.o (ci := 4) s0_1 (by decide) (by decide)) (by decide) (Nat.le_of_ble_eq_true rfl) ?_
    refine c_X5_offBy ht hw hT hi ?_
    refine wp_goto (pc := 19) 28 dX6_off_19 (by decide) ?_
    refine wp_iretI (pc := 28) dX6_off_28 rfl ?_
    unfold do_off at k
    rw [qry_t (c := (isTh s (nI i))) c_8] at k
    rw [nI_clamp (by omega)] at k
    exact k _ _ _ hC Hi.rf
def do_down (s : Sg) (x : Int32) : Int32 × Sg := qry (isTh s x) (nI (down (sgf s) x.toNatClampNeg)) s
theorem c_X6_down {d : Nat} {F I : Nat → Nat → Int32} {J : Nat → Nat → Int64} {Q : Option Value → sm_H → Prop} {x : Int32} {s : Sg} (hC : CR s F I J) (ok : Ok s) (k : ∀ F1 I1 J1, CR (do_down s x).2 F1 I1 J1 → Hi F I J F1 I1 J1 → Q (some (.int (do_down s x).1)) (S0, F1, I1, J1)) : Wp mX6_down (d + 3) 0 0 0 (sm_ini [.ref 0, .int x] 2) [] (S0, F, I, J) Q := by
  show Wp _ _ _ _ _ [.ref 0, .int x] _ _ _
  have ht : isT 1 := Or.inl rfl
  have hw := ok.1
  have hT := hC.1
  have hn := hw.n
  have hbn := bn_1024 hw
  have hh1 := hw.wth
  have hh2 := hw.crk
  have hh3 := hw.year
  refine wp_aload_n (pc := 0) 0 dX6_down_0 rfl rfl ?_
  refine wq_getR (pc := 1) 10 0 dX6_down_1 s0_0 flX6_10 rfl rfl (by decide) (by decide) ?_
  refine wp_iload_n (pc := 4) 1 dX6_down_4 rfl rfl ?_
  refine wc_V_I (pc := 5) dX6_down_5 lkX6_146 (sm_Rc.o (ci := 4) s0_1 (by decide) (by decide)) (by decide) (Nat.le_of_ble_eq_true rfl) ?_
  refine c_X5_isThing ht hw hT ?_
  refine wp_ifeqB (pc := 8) 22 dX6_down_8 (by decide) (fun c_8 => ?_) (fun c_8 => ?_)
  · refine wp_aload_n (pc := 22) 0 dX6_down_22 rfl rfl ?_
    refine wp_bipush (pc := 23) (-2) dX6_down_23 (by decide) ?_
    refine wc_V_I (pc := 25) dX6_down_25 lkX6_59 (sm_Rc.o (ci := 5) s0_0 (by decide) (by decide)) (by decide) (Nat.le_of_ble_eq_true rfl) ?_
    refine c_X6_refuse_0 ?_
    refine wp_iretI (pc := 28) dX6_down_28 rfl ?_
    unfold do_down at k
    rw [qry_f (c := (isTh s x)) c_8] at k
    exact k _ _ _ (hC.bmp (by decide)) (Hi.rf.uI (by decide))
  · obtain ⟨i, hi0, rfl⟩ := (i32_in (by omega)).mp (of_decide_eq_true c_8)
    have hi : i < 10 := by omega
    refine wp_aload_n (pc := 11) 0 dX6_down_11 rfl rfl ?_
    refine wq_getR (pc := 12) 10 0 dX6_down_12 s0_0 flX6_10 rfl rfl (by decide) (by decide) ?_
    refine wp_iload_n (pc := 15) 1 dX6_down_15 rfl rfl ?_
    refine wc_V_I (pc := 16) dX6_down_16 lkX6_217 (sm_Rc.o (ci := 4) s0_1 (by decide) (by decide)) (by decide) (Nat.le_of_ble_eq_true rfl) ?_
    refine c_X5_downOf ht hw hT hi ?_
    refine wp_goto (pc := 19) 28 dX6_down_19 (by decide) ?_
    refine wp_iretI (pc := 28) dX6_down_28 rfl ?_
    unfold do_down at k
    rw [qry_t (c := (isTh s (nI i))) c_8] at k
    rw [nI_clamp (by omega)] at k
    exact k _ _ _ hC Hi.rf
def do_up (s : Sg) (x : Int32) : Int32 × Sg := qry (isTh s x) (nI (col (fun j => (down (sgf s) j).testBit x.toNatClampNeg) ((sgf s) 68))) s
theorem c_X6_up {d : Nat} {F I : Nat → Nat → Int32} {J : Nat → Nat → Int64} {Q : Option Value → sm_H → Prop} {x : Int32} {s : Sg} (hC : CR s F I J) (ok : Ok s) (k : ∀ F1 I1 J1, CR (do_up s x).2 F1 I1 J1 → Hi F I J F1 I1 J1 → Q (some (.int (do_up s x).1)) (S0, F1, I1, J1)) : Wp mX6_up (d + 4) 0 0 0 (sm_ini [.ref 0, .int x] 2) [] (S0, F, I, J) Q := by
  show Wp _ _ _ _ _ [.ref 0, .int x] _ _ _
  have ht : isT 1 := Or.inl rfl
  have hw := ok.1
  have hT := hC.1
  have hn := hw.n
  have hbn := bn_1024 hw
  have hh1 := hw.wth
  have hh2 := hw.crk
  have hh3 := hw.year
  refine wp_aload_n (pc := 0) 0 dX6_up_0 rfl rfl ?_
  refine wq_getR (pc := 1) 10 0 dX6_up_1 s0_0 flX6_10 rfl rfl (by decide) (by decide) ?_
  refine wp_iload_n (pc := 4) 1 dX6_up_4 rfl rfl ?_
  refine wc_V_I (pc := 5) dX6_up_5 lkX6_146 (sm_Rc.o (ci := 4) s0_1 (by decide) (by decide)) (by decide) (Nat.le_of_ble_eq_true rfl) ?_
  refine c_X5_isThing ht hw hT ?_
  refine wp_ifeqB (pc := 8) 22 dX6_up_8 (by decide) (fun c_8 => ?_) (fun c_8 => ?_)
  · refine wp_aload_n (pc := 22) 0 dX6_up_22 rfl rfl ?_
    refine wp_bipush (pc := 23) (-2) dX6_up_23 (by decide) ?_
    refine wc_V_I (pc := 25) dX6_up_25 lkX6_59 (sm_Rc.o (ci := 5) s0_0 (by decide) (by decide)) (by decide) (Nat.le_of_ble_eq_true rfl) ?_
    refine c_X6_refuse_0 ?_
    refine wp_iretI (pc := 28) dX6_up_28 rfl ?_
    unfold do_up at k
    rw [qry_f (c := (isTh s x)) c_8] at k
    exact k _ _ _ (hC.bmp (by decide)) (Hi.rf.uI (by decide))
  · obtain ⟨i, hi0, rfl⟩ := (i32_in (by omega)).mp (of_decide_eq_true c_8)
    have hi : i < 10 := by omega
    refine wp_aload_n (pc := 11) 0 dX6_up_11 rfl rfl ?_
    refine wq_getR (pc := 12) 10 0 dX6_up_12 s0_0 flX6_10 rfl rfl (by decide) (by decide) ?_
    refine wp_iload_n (pc := 15) 1 dX6_up_15 rfl rfl ?_
    refine wc_V_I (pc := 16) dX6_up_16 lkX6_220 (sm_Rc.o (ci := 4) s0_1 (by decide) (by decide)) (by decide) (Nat.le_of_ble_eq_true rfl) ?_
    refine c_X5_upOf ht hw hT hi ?_
    refine wp_goto (pc := 19) 28 dX6_up_19 (by decide) ?_
    refine wp_iretI (pc := 28) dX6_up_28 rfl ?_
    unfold do_up at k
    rw [qry_t (c := (isTh s (nI i))) c_8] at k
    rw [nI_clamp (by omega)] at k
    exact k _ _ _ hC Hi.rf
def do_putBack (s : Sg) (x : Int32) : Int32 × Sg := qry (isTh s x) (ptb (sgf s) x.toNatClampNeg) s
theorem c_X6_putBack {d : Nat} {F I : Nat → Nat → Int32} {J : Nat → Nat → Int64} {Q : Option Value → sm_H → Prop} {x : Int32} {s : Sg} (hC : CR s F I J) (ok : Ok s) (k : ∀ F1 I1 J1, CR (do_putBack s x).2 F1 I1 J1 → Hi F I J F1 I1 J1 → Q (some (.int (do_putBack s x).1)) (S0, F1, I1, J1)) : Wp mX6_putBack (d + 4) 0 0 0 (sm_ini [.ref 0, .int x] 2) [] (S0, F, I, J) Q := by
  show Wp _ _ _ _ _ [.ref 0, .int x] _ _ _
  have ht : isT 1 := Or.inl rfl
  have hw := ok.1
  have hT := hC.1
  have hn := hw.n
  have hbn := bn_1024 hw
  have hh1 := hw.wth
  have hh2 := hw.crk
  have hh3 := hw.year
  refine wp_aload_n (pc := 0) 0 dX6_putBack_0 rfl rfl ?_
  refine wq_getR (pc := 1) 10 0 dX6_putBack_1 s0_0 flX6_10 rfl rfl (by decide) (by decide) ?_
  refine wp_iload_n (pc := 4) 1 dX6_putBack_4 rfl rfl ?_
  refine wc_V_I (pc := 5) dX6_putBack_5 lkX6_146 (sm_Rc.o (ci := 4) s0_1 (by decide) (by decide)) (by decide) (Nat.le_of_ble_eq_true rfl) ?_
  refine c_X5_isThing ht hw hT ?_
  refine wp_ifeqB (pc := 8) 22 dX6_putBack_8 (by decide) (fun c_8 => ?_) (fun c_8 => ?_)
  · refine wp_aload_n (pc := 22) 0 dX6_putBack_22 rfl rfl ?_
    refine wp_bipush (pc := 23) (-2) dX6_putBack_23 (by decide) ?_
    refine wc_V_I (pc := 25) dX6_putBack_25 lkX6_59 (sm_Rc.o (ci := 5) s0_0 (by decide) (by decide)) (by decide) (Nat.le_of_ble_eq_true rfl) ?_
    refine c_X6_refuse_0 ?_
    refine wp_iretI (pc := 28) dX6_putBack_28 rfl ?_
    unfold do_putBack at k
    rw [qry_f (c := (isTh s x)) c_8] at k
    exact k _ _ _ (hC.bmp (by decide)) (Hi.rf.uI (by decide))
  · obtain ⟨i, hi0, rfl⟩ := (i32_in (by omega)).mp (of_decide_eq_true c_8)
    have hi : i < 10 := by omega
    refine wp_aload_n (pc := 11) 0 dX6_putBack_11 rfl rfl ?_
    refine wq_getR (pc := 12) 10 0 dX6_putBack_12 s0_0 flX6_10 rfl rfl (by decide) (by decide) ?_
    refine wp_iload_n (pc := 15) 1 dX6_putBack_15 rfl rfl ?_
    refine wc_V_I (pc := 16) dX6_putBack_16 lkX6_247 (sm_Rc.o (ci := 4) s0_1 (by decide) (by decide)) (by decide) (Nat.le_of_ble_eq_true rfl) ?_
    refine c_X5_stepsToPutBack ht hw hT hi ?_
    refine wp_goto (pc := 19) 28 dX6_putBack_19 (by decide) ?_
    refine wp_iretI (pc := 28) dX6_putBack_28 rfl ?_
    unfold do_putBack at k
    rw [qry_t (c := (isTh s (nI i))) c_8] at k
    rw [nI_clamp (by omega)] at k
    exact k _ _ _ hC Hi.rf
def do_depth (s : Sg) (x : Int32) : Int32 × Sg := qry (isTh s x) (nI (dep (sgf s) x.toNatClampNeg)) s
theorem c_X6_depth {d : Nat} {F I : Nat → Nat → Int32} {J : Nat → Nat → Int64} {Q : Option Value → sm_H → Prop} {x : Int32} {s : Sg} (hC : CR s F I J) (ok : Ok s) (k : ∀ F1 I1 J1, CR (do_depth s x).2 F1 I1 J1 → Hi F I J F1 I1 J1 → Q (some (.int (do_depth s x).1)) (S0, F1, I1, J1)) : Wp mX6_depth (d + 4) 0 0 0 (sm_ini [.ref 0, .int x] 2) [] (S0, F, I, J) Q := by
  show Wp _ _ _ _ _ [.ref 0, .int x] _ _ _
  have ht : isT 1 := Or.inl rfl
  have hw := ok.1
  have hT := hC.1
  have hn := hw.n
  have hbn := bn_1024 hw
  have hh1 := hw.wth
  have hh2 := hw.crk
  have hh3 := hw.year
  refine wp_aload_n (pc := 0) 0 dX6_depth_0 rfl rfl ?_
  refine wq_getR (pc := 1) 10 0 dX6_depth_1 s0_0 flX6_10 rfl rfl (by decide) (by decide) ?_
  refine wp_iload_n (pc := 4) 1 dX6_depth_4 rfl rfl ?_
  refine wc_V_I (pc := 5) dX6_depth_5 lkX6_146 (sm_Rc.o (ci := 4) s0_1 (by decide) (by decide)) (by decide) (Nat.le_of_ble_eq_true rfl) ?_
  refine c_X5_isThing ht hw hT ?_
  refine wp_ifeqB (pc := 8) 22 dX6_depth_8 (by decide) (fun c_8 => ?_) (fun c_8 => ?_)
  · refine wp_aload_n (pc := 22) 0 dX6_depth_22 rfl rfl ?_
    refine wp_bipush (pc := 23) (-2) dX6_depth_23 (by decide) ?_
    refine wc_V_I (pc := 25) dX6_depth_25 lkX6_59 (sm_Rc.o (ci := 5) s0_0 (by decide) (by decide)) (by decide) (Nat.le_of_ble_eq_true rfl) ?_
    refine c_X6_refuse_0 ?_
    refine wp_iretI (pc := 28) dX6_depth_28 rfl ?_
    unfold do_depth at k
    rw [qry_f (c := (isTh s x)) c_8] at k
    exact k _ _ _ (hC.bmp (by decide)) (Hi.rf.uI (by decide))
  · obtain ⟨i, hi0, rfl⟩ := (i32_in (by omega)).mp (of_decide_eq_true c_8)
    have hi : i < 10 := by omega
    refine wp_aload_n (pc := 11) 0 dX6_depth_11 rfl rfl ?_
    refine wq_getR (pc := 12) 10 0 dX6_depth_12 s0_0 flX6_10 rfl rfl (by decide) (by decide) ?_
    refine wp_iload_n (pc := 15) 1 dX6_depth_15 rfl rfl ?_
    refine wc_V_I (pc := 16) dX6_depth_16 lkX6_275 (sm_Rc.o (ci := 4) s0_1 (by decide) (by decide)) (by decide) (Nat.le_of_ble_eq_true rfl) ?_
    refine c_X5_depthOf ht hw hT hi ?_
    refine wp_goto (pc := 19) 28 dX6_depth_19 (by decide) ?_
    refine wp_iretI (pc := 28) dX6_depth_28 rfl ?_
    unfold do_depth at k
    rw [qry_t (c := (isTh s (nI i))) c_8] at k
    rw [nI_clamp (by omega)] at k
    exact k _ _ _ (hC.scr (fun _ _ => rfl) (fun a ha => dpI_ne (by omega))) (fun a ha => ⟨rfl, dpI_ne (by omega), rfl⟩)
def do_chain (s : Sg) (x : Int32) : Int32 × Sg := qry (isTh s x) (nI (chain (sgf s) x.toNatClampNeg)) s
theorem c_X6_chain {d : Nat} {F I : Nat → Nat → Int32} {J : Nat → Nat → Int64} {Q : Option Value → sm_H → Prop} {x : Int32} {s : Sg} (hC : CR s F I J) (ok : Ok s) (k : ∀ F1 I1 J1, CR (do_chain s x).2 F1 I1 J1 → Hi F I J F1 I1 J1 → Q (some (.int (do_chain s x).1)) (S0, F1, I1, J1)) : Wp mX6_chain (d + 4) 0 0 0 (sm_ini [.ref 0, .int x] 2) [] (S0, F, I, J) Q := by
  show Wp _ _ _ _ _ [.ref 0, .int x] _ _ _
  have ht : isT 1 := Or.inl rfl
  have hw := ok.1
  have hT := hC.1
  have hn := hw.n
  have hbn := bn_1024 hw
  have hh1 := hw.wth
  have hh2 := hw.crk
  have hh3 := hw.year
  refine wp_aload_n (pc := 0) 0 dX6_chain_0 rfl rfl ?_
  refine wq_getR (pc := 1) 10 0 dX6_chain_1 s0_0 flX6_10 rfl rfl (by decide) (by decide) ?_
  refine wp_iload_n (pc := 4) 1 dX6_chain_4 rfl rfl ?_
  refine wc_V_I (pc := 5) dX6_chain_5 lkX6_146 (sm_Rc.o (ci := 4) s0_1 (by decide) (by decide)) (by decide) (Nat.le_of_ble_eq_true rfl) ?_
  refine c_X5_isThing ht hw hT ?_
  refine wp_ifeqB (pc := 8) 22 dX6_chain_8 (by decide) (fun c_8 => ?_) (fun c_8 => ?_)
  · refine wp_aload_n (pc := 22) 0 dX6_chain_22 rfl rfl ?_
    refine wp_bipush (pc := 23) (-2) dX6_chain_23 (by decide) ?_
    refine wc_V_I (pc := 25) dX6_chain_25 lkX6_59 (sm_Rc.o (ci := 5) s0_0 (by decide) (by decide)) (by decide) (Nat.le_of_ble_eq_true rfl) ?_
    refine c_X6_refuse_0 ?_
    refine wp_iretI (pc := 28) dX6_chain_28 rfl ?_
    unfold do_chain at k
    rw [qry_f (c := (isTh s x)) c_8] at k
    exact k _ _ _ (hC.bmp (by decide)) (Hi.rf.uI (by decide))
  · obtain ⟨i, hi0, rfl⟩ := (i32_in (by omega)).mp (of_decide_eq_true c_8)
    have hi : i < 10 := by omega
    refine wp_aload_n (pc := 11) 0 dX6_chain_11 rfl rfl ?_
    refine wq_getR (pc := 12) 10 0 dX6_chain_12 s0_0 flX6_10 rfl rfl (by decide) (by decide) ?_
    refine wp_iload_n (pc := 15) 1 dX6_chain_15 rfl rfl ?_
    refine wc_V_I (pc := 16) dX6_chain_16 lkX6_319 (sm_Rc.o (ci := 4) s0_1 (by decide) (by decide)) (by decide) (Nat.le_of_ble_eq_true rfl) ?_
    refine c_X5_chainFrom ht hw hT hi ?_
    refine wp_goto (pc := 19) 28 dX6_chain_19 (by decide) ?_
    refine wp_iretI (pc := 28) dX6_chain_28 rfl ?_
    unfold do_chain at k
    rw [qry_t (c := (isTh s (nI i))) c_8] at k
    rw [nI_clamp (by omega)] at k
    exact k _ _ _ (hC.scr (fun _ _ => rfl) (fun a ha => dpI_ne (by omega))) (fun a ha => ⟨rfl, dpI_ne (by omega), rfl⟩)
def do_soon (s : Sg) (x : Int32) : Int32 × Sg := qry (isTh s x) (untl (sgf s) (2 ^ x.toNatClampNeg)) s
theorem c_X6_soon {d : Nat} {F I : Nat → Nat → Int32} {J : Nat → Nat → Int64} {Q : Option Value → sm_H → Prop} {x : Int32} {s : Sg} (hC : CR s F I J) (ok : Ok s) (k : ∀ F1 I1 J1, CR (do_soon s x).2 F1 I1 J1 → Hi F I J F1 I1 J1 → Q (some (.int (do_soon s x).1)) (S0, F1, I1, J1)) : Wp mX6_soon (d + 3) 0 0 0 (sm_ini [.ref 0, .int x] 2) [] (S0, F, I, J) Q := by
  show Wp _ _ _ _ _ [.ref 0, .int x] _ _ _
  have ht : isT 1 := Or.inl rfl
  have hw := ok.1
  have hT := hC.1
  have hn := hw.n
  have hbn := bn_1024 hw
  have hh1 := hw.wth
  have hh2 := hw.crk
  have hh3 := hw.year
  refine wp_aload_n (pc := 0) 0 dX6_soon_0 rfl rfl ?_
  refine wq_getR (pc := 1) 10 0 dX6_soon_1 s0_0 flX6_10 rfl rfl (by decide) (by decide) ?_
  refine wp_iload_n (pc := 4) 1 dX6_soon_4 rfl rfl ?_
  refine wc_V_I (pc := 5) dX6_soon_5 lkX6_146 (sm_Rc.o (ci := 4) s0_1 (by decide) (by decide)) (by decide) (Nat.le_of_ble_eq_true rfl) ?_
  refine c_X5_isThing ht hw hT ?_
  refine wp_ifeqB (pc := 8) 24 dX6_soon_8 (by decide) (fun c_8 => ?_) (fun c_8 => ?_)
  · refine wp_aload_n (pc := 24) 0 dX6_soon_24 rfl rfl ?_
    refine wp_bipush (pc := 25) (-2) dX6_soon_25 (by decide) ?_
    refine wc_V_I (pc := 27) dX6_soon_27 lkX6_59 (sm_Rc.o (ci := 5) s0_0 (by decide) (by decide)) (by decide) (Nat.le_of_ble_eq_true rfl) ?_
    refine c_X6_refuse_0 ?_
    refine wp_iretI (pc := 30) dX6_soon_30 rfl ?_
    unfold do_soon at k
    rw [qry_f (c := (isTh s x)) c_8] at k
    exact k _ _ _ (hC.bmp (by decide)) (Hi.rf.uI (by decide))
  · obtain ⟨i, hi0, rfl⟩ := (i32_in (by omega)).mp (of_decide_eq_true c_8)
    have hi : i < 10 := by omega
    have hpi := p2_lt hi
    refine wp_aload_n (pc := 11) 0 dX6_soon_11 rfl rfl ?_
    refine wq_getR (pc := 12) 10 0 dX6_soon_12 s0_0 flX6_10 rfl rfl (by decide) (by decide) ?_
    refine wp_iconst (pc := 15) (1) dX6_soon_15 (by decide) ?_
    refine wp_iload_n (pc := 16) 1 dX6_soon_16 rfl rfl ?_
    refine wp_ishl (pc := 17) dX6_soon_17 ?_
    refine wp_int (bt_one (by omega)) ?_
    refine wc_V_I (pc := 18) dX6_soon_18 lkX6_235 (sm_Rc.o (ci := 4) s0_1 (by decide) (by decide)) (by decide) (Nat.le_of_ble_eq_true rfl) ?_
    refine c_X5_daysUntil ht hw hT (by omega) ?_
    refine wp_goto (pc := 21) 30 dX6_soon_21 (by decide) ?_
    refine wp_iretI (pc := 30) dX6_soon_30 rfl ?_
    unfold do_soon at k
    rw [qry_t (c := (isTh s (nI i))) c_8] at k
    rw [nI_clamp (by omega)] at k
    exact k _ _ _ hC Hi.rf
def do_alone (s : Sg) (x : Int32) : Int32 × Sg := qry (isTh s x) (b2 (decide (dif (dif (sta (sgf s) (bn (sgf s))) (sta (sgf s) (dif (bn (sgf s)) (2 ^ x.toNatClampNeg)))) (2 ^ x.toNatClampNeg) = 0))) s
theorem c_X6_alone {d : Nat} {F I : Nat → Nat → Int32} {J : Nat → Nat → Int64} {Q : Option Value → sm_H → Prop} {x : Int32} {s : Sg} (hC : CR s F I J) (ok : Ok s) (k : ∀ F1 I1 J1, CR (do_alone s x).2 F1 I1 J1 → Hi F I J F1 I1 J1 → Q (some (.int (do_alone s x).1)) (S0, F1, I1, J1)) : Wp mX6_alone (d + 3) 0 0 0 (sm_ini [.ref 0, .int x] 2) [] (S0, F, I, J) Q := by
  show Wp _ _ _ _ _ [.ref 0, .int x] _ _ _
  have ht : isT 1 := Or.inl rfl
  have hw := ok.1
  have hT := hC.1
  have hn := hw.n
  have hbn := bn_1024 hw
  have hh1 := hw.wth
  have hh2 := hw.crk
  have hh3 := hw.year
  have hs1 := sta_1024 (sgf s) (bn (sgf s))
  refine wp_aload_n (pc := 0) 0 dX6_alone_0 rfl rfl ?_
  refine wq_getR (pc := 1) 10 0 dX6_alone_1 s0_0 flX6_10 rfl rfl (by decide) (by decide) ?_
  refine wp_iload_n (pc := 4) 1 dX6_alone_4 rfl rfl ?_
  refine wc_V_I (pc := 5) dX6_alone_5 lkX6_146 (sm_Rc.o (ci := 4) s0_1 (by decide) (by decide)) (by decide) (Nat.le_of_ble_eq_true rfl) ?_
  refine c_X5_isThing ht hw hT ?_
  refine wp_ifneB (pc := 8) 18 dX6_alone_8 (by decide) (fun c_8 => ?_) (fun c_8 => ?_)
  · obtain ⟨i, hi0, rfl⟩ := (i32_in (by omega)).mp (of_decide_eq_true c_8)
    have hi : i < 10 := by omega
    refine wp_aload_n (pc := 18) 0 dX6_alone_18 rfl rfl ?_
    refine wq_getR (pc := 19) 10 0 dX6_alone_19 s0_0 flX6_10 rfl rfl (by decide) (by decide) ?_
    refine wp_iload_n (pc := 22) 1 dX6_alone_22 rfl rfl ?_
    refine wc_V_I (pc := 23) dX6_alone_23 lkX6_214 (sm_Rc.o (ci := 4) s0_1 (by decide) (by decide)) (by decide) (Nat.le_of_ble_eq_true rfl) ?_
    refine c_X5_offBy ht hw hT hi ?_
    refine wp_iconst (pc := 26) (1) dX6_alone_26 (by decide) ?_
    refine wp_iload_n (pc := 27) 1 dX6_alone_27 rfl rfl ?_
    refine wp_ishl (pc := 28) dX6_alone_28 ?_
    refine wp_int (bt_one (by omega)) ?_
    refine wp_iconst (pc := 29) (-1) dX6_alone_29 (by decide) ?_
    refine wp_ixor (pc := 30) dX6_alone_30 ?_
    refine wp_iand (pc := 31) dX6_alone_31 ?_
    refine wp_int (bt_dif _ _) ?_
    refine wp_ifne (pc := 32) 39 dX6_alone_32 (by decide) (fun c_32 => ?_) (fun c_32 => ?_)
    · refine wp_iconst (pc := 39) (0) dX6_alone_39 (by decide) ?_
      refine wp_iretI (pc := 40) dX6_alone_40 rfl ?_
      unfold do_alone at k
      rw [qry_t (c := (isTh s (nI i))) c_8] at k
      rw [nI_clamp (by omega)] at k
      rw [decide_eq_false (fun z => c_32 (by rw [z]; rfl))] at k
      exact k _ _ _ hC Hi.rf
    · refine wp_iconst (pc := 35) (1) dX6_alone_35 (by decide) ?_
      refine wp_goto (pc := 36) 40 dX6_alone_36 (by decide) ?_
      refine wp_iretI (pc := 40) dX6_alone_40 rfl ?_
      unfold do_alone at k
      rw [qry_t (c := (isTh s (nI i))) c_8] at k
      rw [nI_clamp (by omega)] at k
      rw [decide_eq_true ((nIz (dif_1024 _ (dif_1024 _ hs1))).mp c_32)] at k
      exact k _ _ _ hC Hi.rf
  · refine wp_aload_n (pc := 11) 0 dX6_alone_11 rfl rfl ?_
    refine wp_bipush (pc := 12) (-2) dX6_alone_12 (by decide) ?_
    refine wc_V_I (pc := 14) dX6_alone_14 lkX6_59 (sm_Rc.o (ci := 5) s0_0 (by decide) (by decide)) (by decide) (Nat.le_of_ble_eq_true rfl) ?_
    refine c_X6_refuse_0 ?_
    refine wp_iretI (pc := 17) dX6_alone_17 rfl ?_
    unfold do_alone at k
    rw [qry_f (c := (isTh s x)) c_8] at k
    exact k _ _ _ (hC.bmp (by decide)) (Hi.rf.uI (by decide))
def do_to (s : Sg) (x : Int32) : Int32 × Sg := qry (arTh s x) (eN (lstU (lvP (sgf s) x.toNatClampNeg) (2 ^ (sgf s) 68))) s
theorem c_X6_to {d : Nat} {F I : Nat → Nat → Int32} {J : Nat → Nat → Int64} {Q : Option Value → sm_H → Prop} {x : Int32} {s : Sg} (hC : CR s F I J) (ok : Ok s) (k : ∀ F1 I1 J1, CR (do_to s x).2 F1 I1 J1 → Hi F I J F1 I1 J1 → Q (some (.int (do_to s x).1)) (S0, F1, I1, J1)) : Wp mX6_to (d + 3) 0 0 0 (sm_ini [.ref 0, .int x] 2) [] (S0, F, I, J) Q := by
  show Wp _ _ _ _ _ [.ref 0, .int x] _ _ _
  have ht : isT 1 := Or.inl rfl
  have hw := ok.1
  have hT := hC.1
  have hn := hw.n
  have hbn := bn_1024 hw
  have hh1 := hw.wth
  have hh2 := hw.crk
  have hh3 := hw.year
  refine wp_aload_n (pc := 0) 0 dX6_to_0 rfl rfl ?_
  refine wq_getR (pc := 1) 10 0 dX6_to_1 s0_0 flX6_10 rfl rfl (by decide) (by decide) ?_
  refine wp_iload_n (pc := 4) 1 dX6_to_4 rfl rfl ?_
  refine wc_V_I (pc := 5) dX6_to_5 lkX6_223 (sm_Rc.o (ci := 4) s0_1 (by decide) (by decide)) (by decide) (Nat.le_of_ble_eq_true rfl) ?_
  refine c_X5_areThings ht hw hT ?_
  refine wp_ifeqB (pc := 8) 22 dX6_to_8 (by decide) (fun c_8 => ?_) (fun c_8 => ?_)
  · refine wp_aload_n (pc := 22) 0 dX6_to_22 rfl rfl ?_
    refine wp_bipush (pc := 23) (-2) dX6_to_23 (by decide) ?_
    refine wc_V_I (pc := 25) dX6_to_25 lkX6_59 (sm_Rc.o (ci := 5) s0_0 (by decide) (by decide)) (by decide) (Nat.le_of_ble_eq_true rfl) ?_
    refine c_X6_refuse_0 ?_
    refine wp_iretI (pc := 28) dX6_to_28 rfl ?_
    unfold do_to at k
    rw [qry_f (c := (arTh s x)) c_8] at k
    exact k _ _ _ (hC.bmp (by decide)) (Hi.rf.uI (by decide))
  · have hp2 := p2n hw
    obtain ⟨b, hb0, rfl⟩ := (i32_in (by omega)).mp (of_decide_eq_true c_8)
    have hb : b < 1024 := by omega
    refine wp_aload_n (pc := 11) 0 dX6_to_11 rfl rfl ?_
    refine wq_getR (pc := 12) 10 0 dX6_to_12 s0_0 flX6_10 rfl rfl (by decide) (by decide) ?_
    refine wp_iload_n (pc := 15) 1 dX6_to_15 rfl rfl ?_
    refine wc_S_RI (pc := 16) dX6_to_16 lkX6_226 (by decide) (Nat.le_of_ble_eq_true rfl) ?_
    refine c_X1_leastLeaving ht hw hT hb ?_
    refine wp_goto (pc := 19) 28 dX6_to_19 (by decide) ?_
    refine wp_iretI (pc := 28) dX6_to_28 rfl ?_
    unfold do_to at k
    rw [qry_t (c := (arTh s (nI b))) c_8] at k
    rw [nI_clamp (by omega)] at k
    exact k _ _ _ hC Hi.rf
def do_unsay (s : Sg) (x : Int32) : Int32 × Sg := qry (arTh s x) (eN ((unU (sgf s) x.toNatClampNeg (2 ^ (sgf s) 68)).map Prod.fst)) s
theorem c_X6_unsay {d : Nat} {F I : Nat → Nat → Int32} {J : Nat → Nat → Int64} {Q : Option Value → sm_H → Prop} {x : Int32} {s : Sg} (hC : CR s F I J) (ok : Ok s) (k : ∀ F1 I1 J1, CR (do_unsay s x).2 F1 I1 J1 → Hi F I J F1 I1 J1 → Q (some (.int (do_unsay s x).1)) (S0, F1, I1, J1)) : Wp mX6_unsay (d + 3) 0 0 0 (sm_ini [.ref 0, .int x] 2) [] (S0, F, I, J) Q := by
  show Wp _ _ _ _ _ [.ref 0, .int x] _ _ _
  have ht : isT 1 := Or.inl rfl
  have hw := ok.1
  have hT := hC.1
  have hn := hw.n
  have hbn := bn_1024 hw
  have hh1 := hw.wth
  have hh2 := hw.crk
  have hh3 := hw.year
  refine wp_aload_n (pc := 0) 0 dX6_unsay_0 rfl rfl ?_
  refine wq_getR (pc := 1) 10 0 dX6_unsay_1 s0_0 flX6_10 rfl rfl (by decide) (by decide) ?_
  refine wp_iload_n (pc := 4) 1 dX6_unsay_4 rfl rfl ?_
  refine wc_V_I (pc := 5) dX6_unsay_5 lkX6_223 (sm_Rc.o (ci := 4) s0_1 (by decide) (by decide)) (by decide) (Nat.le_of_ble_eq_true rfl) ?_
  refine c_X5_areThings ht hw hT ?_
  refine wp_ifeqB (pc := 8) 22 dX6_unsay_8 (by decide) (fun c_8 => ?_) (fun c_8 => ?_)
  · refine wp_aload_n (pc := 22) 0 dX6_unsay_22 rfl rfl ?_
    refine wp_bipush (pc := 23) (-2) dX6_unsay_23 (by decide) ?_
    refine wc_V_I (pc := 25) dX6_unsay_25 lkX6_59 (sm_Rc.o (ci := 5) s0_0 (by decide) (by decide)) (by decide) (Nat.le_of_ble_eq_true rfl) ?_
    refine c_X6_refuse_0 ?_
    refine wp_iretI (pc := 28) dX6_unsay_28 rfl ?_
    unfold do_unsay at k
    rw [qry_f (c := (arTh s x)) c_8] at k
    exact k _ _ _ (hC.bmp (by decide)) (Hi.rf.uI (by decide))
  · have hp2 := p2n hw
    obtain ⟨b, hb0, rfl⟩ := (i32_in (by omega)).mp (of_decide_eq_true c_8)
    have hb : b < 1024 := by omega
    refine wp_aload_n (pc := 11) 0 dX6_unsay_11 rfl rfl ?_
    refine wq_getR (pc := 12) 10 0 dX6_unsay_12 s0_0 flX6_10 rfl rfl (by decide) (by decide) ?_
    refine wp_iload_n (pc := 15) 1 dX6_unsay_15 rfl rfl ?_
    refine wc_S_RI (pc := 16) dX6_unsay_16 lkX6_232 (by decide) (Nat.le_of_ble_eq_true rfl) ?_
    refine c_X1_leastUnsaying ht hw hT hb ?_
    refine wp_goto (pc := 19) 28 dX6_unsay_19 (by decide) ?_
    refine wp_iretI (pc := 28) dX6_unsay_28 rfl ?_
    unfold do_unsay at k
    rw [qry_t (c := (arTh s (nI b))) c_8] at k
    rw [nI_clamp (by omega)] at k
    exact k _ _ _ hC Hi.rf
def do_until (s : Sg) (x : Int32) : Int32 × Sg := qry (arTh s x) (untl (sgf s) x.toNatClampNeg) s
theorem c_X6_until {d : Nat} {F I : Nat → Nat → Int32} {J : Nat → Nat → Int64} {Q : Option Value → sm_H → Prop} {x : Int32} {s : Sg} (hC : CR s F I J) (ok : Ok s) (k : ∀ F1 I1 J1, CR (do_until s x).2 F1 I1 J1 → Hi F I J F1 I1 J1 → Q (some (.int (do_until s x).1)) (S0, F1, I1, J1)) : Wp mX6_until (d + 3) 0 0 0 (sm_ini [.ref 0, .int x] 2) [] (S0, F, I, J) Q := by
  show Wp _ _ _ _ _ [.ref 0, .int x] _ _ _
  have ht : isT 1 := Or.inl rfl
  have hw := ok.1
  have hT := hC.1
  have hn := hw.n
  have hbn := bn_1024 hw
  have hh1 := hw.wth
  have hh2 := hw.crk
  have hh3 := hw.year
  refine wp_aload_n (pc := 0) 0 dX6_until_0 rfl rfl ?_
  refine wq_getR (pc := 1) 10 0 dX6_until_1 s0_0 flX6_10 rfl rfl (by decide) (by decide) ?_
  refine wp_iload_n (pc := 4) 1 dX6_until_4 rfl rfl ?_
  refine wc_V_I (pc := 5) dX6_until_5 lkX6_223 (sm_Rc.o (ci := 4) s0_1 (by decide) (by decide)) (by decide) (Nat.le_of_ble_eq_true rfl) ?_
  refine c_X5_areThings ht hw hT ?_
  refine wp_ifeqB (pc := 8) 22 dX6_until_8 (by decide) (fun c_8 => ?_) (fun c_8 => ?_)
  · refine wp_aload_n (pc := 22) 0 dX6_until_22 rfl rfl ?_
    refine wp_bipush (pc := 23) (-2) dX6_until_23 (by decide) ?_
    refine wc_V_I (pc := 25) dX6_until_25 lkX6_59 (sm_Rc.o (ci := 5) s0_0 (by decide) (by decide)) (by decide) (Nat.le_of_ble_eq_true rfl) ?_
    refine c_X6_refuse_0 ?_
    refine wp_iretI (pc := 28) dX6_until_28 rfl ?_
    unfold do_until at k
    rw [qry_f (c := (arTh s x)) c_8] at k
    exact k _ _ _ (hC.bmp (by decide)) (Hi.rf.uI (by decide))
  · have hp2 := p2n hw
    obtain ⟨b, hb0, rfl⟩ := (i32_in (by omega)).mp (of_decide_eq_true c_8)
    have hb : b < 1024 := by omega
    refine wp_aload_n (pc := 11) 0 dX6_until_11 rfl rfl ?_
    refine wq_getR (pc := 12) 10 0 dX6_until_12 s0_0 flX6_10 rfl rfl (by decide) (by decide) ?_
    refine wp_iload_n (pc := 15) 1 dX6_until_15 rfl rfl ?_
    refine wc_V_I (pc := 16) dX6_until_16 lkX6_235 (sm_Rc.o (ci := 4) s0_1 (by decide) (by decide)) (by decide) (Nat.le_of_ble_eq_true rfl) ?_
    refine c_X5_daysUntil ht hw hT hb ?_
    refine wp_goto (pc := 19) 28 dX6_until_19 (by decide) ?_
    refine wp_iretI (pc := 28) dX6_until_28 rfl ?_
    unfold do_until at k
    rw [qry_t (c := (arTh s (nI b))) c_8] at k
    rw [nI_clamp (by omega)] at k
    exact k _ _ _ hC Hi.rf
def do_ways (s : Sg) (x : Int32) : Int32 × Sg := qry (arTh s x) (nI (cnt (fun b => decide (sta (sgf s) b = x.toNatClampNeg)) (2 ^ (sgf s) 68))) s
theorem c_X6_ways {d : Nat} {F I : Nat → Nat → Int32} {J : Nat → Nat → Int64} {Q : Option Value → sm_H → Prop} {x : Int32} {s : Sg} (hC : CR s F I J) (ok : Ok s) (k : ∀ F1 I1 J1, CR (do_ways s x).2 F1 I1 J1 → Hi F I J F1 I1 J1 → Q (some (.int (do_ways s x).1)) (S0, F1, I1, J1)) : Wp mX6_ways (d + 3) 0 0 0 (sm_ini [.ref 0, .int x] 2) [] (S0, F, I, J) Q := by
  show Wp _ _ _ _ _ [.ref 0, .int x] _ _ _
  have ht : isT 1 := Or.inl rfl
  have hw := ok.1
  have hT := hC.1
  have hn := hw.n
  have hbn := bn_1024 hw
  have hh1 := hw.wth
  have hh2 := hw.crk
  have hh3 := hw.year
  refine wp_aload_n (pc := 0) 0 dX6_ways_0 rfl rfl ?_
  refine wq_getR (pc := 1) 10 0 dX6_ways_1 s0_0 flX6_10 rfl rfl (by decide) (by decide) ?_
  refine wp_iload_n (pc := 4) 1 dX6_ways_4 rfl rfl ?_
  refine wc_V_I (pc := 5) dX6_ways_5 lkX6_223 (sm_Rc.o (ci := 4) s0_1 (by decide) (by decide)) (by decide) (Nat.le_of_ble_eq_true rfl) ?_
  refine c_X5_areThings ht hw hT ?_
  refine wp_ifeqB (pc := 8) 22 dX6_ways_8 (by decide) (fun c_8 => ?_) (fun c_8 => ?_)
  · refine wp_aload_n (pc := 22) 0 dX6_ways_22 rfl rfl ?_
    refine wp_bipush (pc := 23) (-2) dX6_ways_23 (by decide) ?_
    refine wc_V_I (pc := 25) dX6_ways_25 lkX6_59 (sm_Rc.o (ci := 5) s0_0 (by decide) (by decide)) (by decide) (Nat.le_of_ble_eq_true rfl) ?_
    refine c_X6_refuse_0 ?_
    refine wp_iretI (pc := 28) dX6_ways_28 rfl ?_
    unfold do_ways at k
    rw [qry_f (c := (arTh s x)) c_8] at k
    exact k _ _ _ (hC.bmp (by decide)) (Hi.rf.uI (by decide))
  · have hp2 := p2n hw
    obtain ⟨b, hb0, rfl⟩ := (i32_in (by omega)).mp (of_decide_eq_true c_8)
    have hb : b < 1024 := by omega
    refine wp_aload_n (pc := 11) 0 dX6_ways_11 rfl rfl ?_
    refine wq_getR (pc := 12) 10 0 dX6_ways_12 s0_0 flX6_10 rfl rfl (by decide) (by decide) ?_
    refine wp_iload_n (pc := 15) 1 dX6_ways_15 rfl rfl ?_
    refine wc_S_RI (pc := 16) dX6_ways_16 lkX6_302 (by decide) (Nat.le_of_ble_eq_true rfl) ?_
    refine c_X1_countLeaving ht hw hT hb ?_
    refine wp_goto (pc := 19) 28 dX6_ways_19 (by decide) ?_
    refine wp_iretI (pc := 28) dX6_ways_28 rfl ?_
    unfold do_ways at k
    rw [qry_t (c := (arTh s (nI b))) c_8] at k
    rw [nI_clamp (by omega)] at k
    exact k _ _ _ hC Hi.rf
def do_deaf (s : Sg) (x y : Int32) : Int32 × Sg := qry (arTh s x && (upB y 1)) (if y = 0 then nI (cnt (rmP (sgf s) x.toNatClampNeg) (2 ^ (sgf s) 68)) else eN (fst (rmP (sgf s) x.toNatClampNeg) (2 ^ (sgf s) 68))) s
theorem c_X6_deaf {d : Nat} {F I : Nat → Nat → Int32} {J : Nat → Nat → Int64} {Q : Option Value → sm_H → Prop} {x y : Int32} {s : Sg} (hC : CR s F I J) (ok : Ok s) (k : ∀ F1 I1 J1, CR (do_deaf s x y).2 F1 I1 J1 → Hi F I J F1 I1 J1 → Q (some (.int (do_deaf s x y).1)) (S0, F1, I1, J1)) : Wp mX6_deaf (d + 4) 0 0 0 (sm_ini [.ref 0, .int x, .int y] 3) [] (S0, F, I, J) Q := by
  show Wp _ _ _ _ _ [.ref 0, .int x, .int y] _ _ _
  have ht : isT 1 := Or.inl rfl
  have hw := ok.1
  have hT := hC.1
  have hn := hw.n
  have hbn := bn_1024 hw
  have hh1 := hw.wth
  have hh2 := hw.crk
  have hh3 := hw.year
  refine wp_aload_n (pc := 0) 0 dX6_deaf_0 rfl rfl ?_
  refine wq_getR (pc := 1) 10 0 dX6_deaf_1 s0_0 flX6_10 rfl rfl (by decide) (by decide) ?_
  refine wp_iload_n (pc := 4) 1 dX6_deaf_4 rfl rfl ?_
  refine wc_V_I (pc := 5) dX6_deaf_5 lkX6_223 (sm_Rc.o (ci := 4) s0_1 (by decide) (by decide)) (by decide) (Nat.le_of_ble_eq_true rfl) ?_
  refine c_X5_areThings ht hw hT ?_
  refine wp_ifeqB (pc := 8) 19 dX6_deaf_8 (by decide) (fun c_8 => ?_) (fun c_8 => ?_)
  · refine wp_aload_n (pc := 19) 0 dX6_deaf_19 rfl rfl ?_
    refine wp_bipush (pc := 20) (-2) dX6_deaf_20 (by decide) ?_
    refine wc_V_I (pc := 22) dX6_deaf_22 lkX6_59 (sm_Rc.o (ci := 5) s0_0 (by decide) (by decide)) (by decide) (Nat.le_of_ble_eq_true rfl) ?_
    refine c_X6_refuse_0 ?_
    refine wp_iretI (pc := 25) dX6_deaf_25 rfl ?_
    unfold do_deaf at k
    rw [qry_f (c := (arTh s x && (upB y 1))) (and_f1 c_8)] at k
    exact k _ _ _ (hC.bmp (by decide)) (Hi.rf.uI (by decide))
  · have hp2 := p2n hw
    obtain ⟨b, hb0, rfl⟩ := (i32_in (by omega)).mp (of_decide_eq_true c_8)
    have hb : b < 1024 := by omega
    refine wp_iload_n (pc := 11) 2 dX6_deaf_11 rfl rfl ?_
    refine wp_iconst (pc := 12) (1) dX6_deaf_12 (by decide) ?_
    refine wc_S_II (pc := 13) dX6_deaf_13 lkX6_55 (by decide) (Nat.le_of_ble_eq_true rfl) ?_
    refine c_X6_upTo ?_
    refine wp_ifneB (pc := 16) 26 dX6_deaf_16 (by decide) (fun c_16 => ?_) (fun c_16 => ?_)
    · refine wp_iload_n (pc := 26) 2 dX6_deaf_26 rfl rfl ?_
      refine wp_ifne (pc := 27) 41 dX6_deaf_27 (by decide) (fun c_27 => ?_) (fun c_27 => ?_)
      · refine wp_aload_n (pc := 41) 0 dX6_deaf_41 rfl rfl ?_
        refine wq_getR (pc := 42) 10 0 dX6_deaf_42 s0_0 flX6_10 rfl rfl (by decide) (by decide) ?_
        refine wp_iload_n (pc := 45) 1 dX6_deaf_45 rfl rfl ?_
        refine wc_S_RI (pc := 46) dX6_deaf_46 lkX6_259 (by decide) (Nat.le_of_ble_eq_true rfl) ?_
        refine c_X1_leastRemembered ht hw hT hb ?_
        refine wp_iretI (pc := 49) dX6_deaf_49 rfl ?_
        unfold do_deaf at k
        rw [qry_t (c := (arTh s (nI b) && (upB y 1))) (and_tt c_8 c_16)] at k
        rw [nI_clamp (by omega)] at k
        rw [if_neg c_27] at k
        exact k _ _ _ hC Hi.rf
      · refine wp_aload_n (pc := 30) 0 dX6_deaf_30 rfl rfl ?_
        refine wq_getR (pc := 31) 10 0 dX6_deaf_31 s0_0 flX6_10 rfl rfl (by decide) (by decide) ?_
        refine wp_iload_n (pc := 34) 1 dX6_deaf_34 rfl rfl ?_
        refine wc_S_RI (pc := 35) dX6_deaf_35 lkX6_256 (by decide) (Nat.le_of_ble_eq_true rfl) ?_
        refine c_X1_countRemembered ht hw hT hb ?_
        refine wp_goto (pc := 38) 49 dX6_deaf_38 (by decide) ?_
        refine wp_iretI (pc := 49) dX6_deaf_49 rfl ?_
        unfold do_deaf at k
        rw [qry_t (c := (arTh s (nI b) && (upB y 1))) (and_tt c_8 c_16)] at k
        rw [nI_clamp (by omega)] at k
        rw [if_pos c_27] at k
        exact k _ _ _ hC Hi.rf
    · refine wp_aload_n (pc := 19) 0 dX6_deaf_19 rfl rfl ?_
      refine wp_bipush (pc := 20) (-2) dX6_deaf_20 (by decide) ?_
      refine wc_V_I (pc := 22) dX6_deaf_22 lkX6_59 (sm_Rc.o (ci := 5) s0_0 (by decide) (by decide)) (by decide) (Nat.le_of_ble_eq_true rfl) ?_
      refine c_X6_refuse_0 ?_
      refine wp_iretI (pc := 25) dX6_deaf_25 rfl ?_
      unfold do_deaf at k
      rw [qry_f (c := (arTh s (nI b) && (upB y 1))) (and_f2 c_16)] at k
      exact k _ _ _ (hC.bmp (by decide)) (Hi.rf.uI (by decide))
def do_well (s : Sg) (x : Int32) : Int32 × Sg := qry (arRg s x) (nI (wl (sgf s) x.toNatClampNeg)) s
theorem c_X6_well {d : Nat} {F I : Nat → Nat → Int32} {J : Nat → Nat → Int64} {Q : Option Value → sm_H → Prop} {x : Int32} {s : Sg} (hC : CR s F I J) (ok : Ok s) (k : ∀ F1 I1 J1, CR (do_well s x).2 F1 I1 J1 → Hi F I J F1 I1 J1 → Q (some (.int (do_well s x).1)) (S0, F1, I1, J1)) : Wp mX6_well (d + 5) 0 0 0 (sm_ini [.ref 0, .int x] 2) [] (S0, F, I, J) Q := by
  show Wp _ _ _ _ _ [.ref 0, .int x] _ _ _
  have ht : isT 1 := Or.inl rfl
  have hw := ok.1
  have hT := hC.1
  have hn := hw.n
  have hbn := bn_1024 hw
  have hh1 := hw.wth
  have hh2 := hw.crk
  have hh3 := hw.year
  refine wp_aload_n (pc := 0) 0 dX6_well_0 rfl rfl ?_
  refine wq_getR (pc := 1) 10 0 dX6_well_1 s0_0 flX6_10 rfl rfl (by decide) (by decide) ?_
  refine wq_getR (pc := 4) 98 10 dX6_well_4 s0_1 flX6_98 rfl rfl (by decide) (by decide) ?_
  refine wp_iload_n (pc := 7) 1 dX6_well_7 rfl rfl ?_
  refine wc_V_I (pc := 8) dX6_well_8 lkX6_196 (sm_Rc.o (ci := 0) s0_6 (by decide) (by decide)) (by decide) (Nat.le_of_ble_eq_true rfl) ?_
  refine c_X0_areRingers ht hw hT ?_
  refine wp_ifneB (pc := 11) 21 dX6_well_11 (by decide) (fun c_11 => ?_) (fun c_11 => ?_)
  · have hc6 := hw.c
    have hp6 : 2 ^ sgf s 69 ≤ 2 ^ 6 := Nat.pow_le_pow_right (by decide) hc6
    obtain ⟨b, hb0, rfl⟩ := (i32_in (by omega)).mp (of_decide_eq_true c_11)
    have hb : b < 64 := by omega
    refine wp_aload_n (pc := 21) 0 dX6_well_21 rfl rfl ?_
    refine wq_getR (pc := 22) 10 0 dX6_well_22 s0_0 flX6_10 rfl rfl (by decide) (by decide) ?_
    refine wq_getR (pc := 25) 98 10 dX6_well_25 s0_1 flX6_98 rfl rfl (by decide) (by decide) ?_
    refine wp_iload_n (pc := 28) 1 dX6_well_28 rfl rfl ?_
    refine wp_aload_n (pc := 29) 0 dX6_well_29 rfl rfl ?_
    refine wq_getR (pc := 30) 10 0 dX6_well_30 s0_0 flX6_10 rfl rfl (by decide) (by decide) ?_
    refine wq_getI (pc := 33) 123 8 dX6_well_33 s0_1 flX6_123 rfl (by decide) ?_
    refine wp_int hT.crk ?_
    refine wc_V_II (pc := 36) dX6_well_36 lkX6_199 (sm_Rc.o (ci := 0) s0_6 (by decide) (by decide)) (by decide) (Nat.le_of_ble_eq_true rfl) ?_
    refine c_X0_wellOf ht hw hT hb ?_
    refine wp_iretI (pc := 39) dX6_well_39 rfl ?_
    unfold do_well at k
    rw [qry_t (c := (arRg s (nI b))) c_11] at k
    rw [nI_clamp (by omega)] at k
    exact k _ _ _ hC Hi.rf
  · refine wp_aload_n (pc := 14) 0 dX6_well_14 rfl rfl ?_
    refine wp_bipush (pc := 15) (-2) dX6_well_15 (by decide) ?_
    refine wc_V_I (pc := 17) dX6_well_17 lkX6_59 (sm_Rc.o (ci := 5) s0_0 (by decide) (by decide)) (by decide) (Nat.le_of_ble_eq_true rfl) ?_
    refine c_X6_refuse_0 ?_
    refine wp_iretI (pc := 20) dX6_well_20 rfl ?_
    unfold do_well at k
    rw [qry_f (c := (arRg s x)) c_11] at k
    exact k _ _ _ (hC.bmp (by decide)) (Hi.rf.uI (by decide))
def do_once (s : Sg) (x : Int32) : Int32 × Sg := qry (arRg s x) (nI (onU (sgf s) x.toNatClampNeg ((sgf s) 69))) s
theorem c_X6_once {d : Nat} {F I : Nat → Nat → Int32} {J : Nat → Nat → Int64} {Q : Option Value → sm_H → Prop} {x : Int32} {s : Sg} (hC : CR s F I J) (ok : Ok s) (k : ∀ F1 I1 J1, CR (do_once s x).2 F1 I1 J1 → Hi F I J F1 I1 J1 → Q (some (.int (do_once s x).1)) (S0, F1, I1, J1)) : Wp mX6_once (d + 6) 0 0 0 (sm_ini [.ref 0, .int x] 2) [] (S0, F, I, J) Q := by
  show Wp _ _ _ _ _ [.ref 0, .int x] _ _ _
  have ht : isT 1 := Or.inl rfl
  have hw := ok.1
  have hT := hC.1
  have hn := hw.n
  have hbn := bn_1024 hw
  have hh1 := hw.wth
  have hh2 := hw.crk
  have hh3 := hw.year
  refine wp_aload_n (pc := 0) 0 dX6_once_0 rfl rfl ?_
  refine wq_getR (pc := 1) 10 0 dX6_once_1 s0_0 flX6_10 rfl rfl (by decide) (by decide) ?_
  refine wq_getR (pc := 4) 98 10 dX6_once_4 s0_1 flX6_98 rfl rfl (by decide) (by decide) ?_
  refine wp_iload_n (pc := 7) 1 dX6_once_7 rfl rfl ?_
  refine wc_V_I (pc := 8) dX6_once_8 lkX6_196 (sm_Rc.o (ci := 0) s0_6 (by decide) (by decide)) (by decide) (Nat.le_of_ble_eq_true rfl) ?_
  refine c_X0_areRingers ht hw hT ?_
  refine wp_ifneB (pc := 11) 21 dX6_once_11 (by decide) (fun c_11 => ?_) (fun c_11 => ?_)
  · have hc6 := hw.c
    have hp6 : 2 ^ sgf s 69 ≤ 2 ^ 6 := Nat.pow_le_pow_right (by decide) hc6
    obtain ⟨b, hb0, rfl⟩ := (i32_in (by omega)).mp (of_decide_eq_true c_11)
    have hb : b < 64 := by omega
    refine wp_aload_n (pc := 21) 0 dX6_once_21 rfl rfl ?_
    refine wq_getR (pc := 22) 10 0 dX6_once_22 s0_0 flX6_10 rfl rfl (by decide) (by decide) ?_
    refine wq_getR (pc := 25) 98 10 dX6_once_25 s0_1 flX6_98 rfl rfl (by decide) (by decide) ?_
    refine wp_iload_n (pc := 28) 1 dX6_once_28 rfl rfl ?_
    refine wp_aload_n (pc := 29) 0 dX6_once_29 rfl rfl ?_
    refine wq_getR (pc := 30) 10 0 dX6_once_30 s0_0 flX6_10 rfl rfl (by decide) (by decide) ?_
    refine wq_getI (pc := 33) 123 8 dX6_once_33 s0_1 flX6_123 rfl (by decide) ?_
    refine wp_int hT.crk ?_
    refine wc_V_II (pc := 36) dX6_once_36 lkX6_313 (sm_Rc.o (ci := 0) s0_6 (by decide) (by decide)) (by decide) (Nat.le_of_ble_eq_true rfl) ?_
    refine c_X0_onceOf ht hw hT hb ?_
    refine wp_iretI (pc := 39) dX6_once_39 rfl ?_
    unfold do_once at k
    rw [qry_t (c := (arRg s (nI b))) c_11] at k
    rw [nI_clamp (by omega)] at k
    exact k _ _ _ hC Hi.rf
  · refine wp_aload_n (pc := 14) 0 dX6_once_14 rfl rfl ?_
    refine wp_bipush (pc := 15) (-2) dX6_once_15 (by decide) ?_
    refine wc_V_I (pc := 17) dX6_once_17 lkX6_59 (sm_Rc.o (ci := 5) s0_0 (by decide) (by decide)) (by decide) (Nat.le_of_ble_eq_true rfl) ?_
    refine c_X6_refuse_0 ?_
    refine wp_iretI (pc := 20) dX6_once_20 rfl ?_
    unfold do_once at k
    rw [qry_f (c := (arRg s x)) c_11] at k
    exact k _ _ _ (hC.bmp (by decide)) (Hi.rf.uI (by decide))
def do_whose (s : Sg) (x : Int32) : Int32 × Sg := qry (upB x 99) (nI (col (fun j => decide (x.toNatClampNeg ≤ slp (sgf s) j)) ((sgf s) 69))) s
theorem c_X6_whose {d : Nat} {F I : Nat → Nat → Int32} {J : Nat → Nat → Int64} {Q : Option Value → sm_H → Prop} {x : Int32} {s : Sg} (hC : CR s F I J) (ok : Ok s) (k : ∀ F1 I1 J1, CR (do_whose s x).2 F1 I1 J1 → Hi F I J F1 I1 J1 → Q (some (.int (do_whose s x).1)) (S0, F1, I1, J1)) : Wp mX6_whose (d + 5) 0 0 0 (sm_ini [.ref 0, .int x] 2) [] (S0, F, I, J) Q := by
  show Wp _ _ _ _ _ [.ref 0, .int x] _ _ _
  have ht : isT 1 := Or.inl rfl
  have hw := ok.1
  have hT := hC.1
  have hn := hw.n
  have hbn := bn_1024 hw
  have hh1 := hw.wth
  have hh2 := hw.crk
  have hh3 := hw.year
  refine wp_iload_n (pc := 0) 1 dX6_whose_0 rfl rfl ?_
  refine wp_bipush (pc := 1) (99) dX6_whose_1 (by decide) ?_
  refine wc_S_II (pc := 3) dX6_whose_3 lkX6_55 (by decide) (Nat.le_of_ble_eq_true rfl) ?_
  refine c_X6_upTo ?_
  refine wp_ifeqB (pc := 6) 30 dX6_whose_6 (by decide) (fun c_6 => ?_) (fun c_6 => ?_)
  · refine wp_aload_n (pc := 30) 0 dX6_whose_30 rfl rfl ?_
    refine wp_bipush (pc := 31) (-2) dX6_whose_31 (by decide) ?_
    refine wc_V_I (pc := 33) dX6_whose_33 lkX6_59 (sm_Rc.o (ci := 5) s0_0 (by decide) (by decide)) (by decide) (Nat.le_of_ble_eq_true rfl) ?_
    refine c_X6_refuse_0 ?_
    refine wp_iretI (pc := 36) dX6_whose_36 rfl ?_
    unfold do_whose at k
    rw [qry_f (c := (upB x 99)) c_6] at k
    exact k _ _ _ (hC.bmp (by decide)) (Hi.rf.uI (by decide))
  · obtain ⟨v, hv, rfl⟩ := (i32_le (n := 99) (by decide)).mp (of_decide_eq_true c_6)
    refine wp_aload_n (pc := 9) 0 dX6_whose_9 rfl rfl ?_
    refine wq_getR (pc := 10) 10 0 dX6_whose_10 s0_0 flX6_10 rfl rfl (by decide) (by decide) ?_
    refine wq_getR (pc := 13) 98 10 dX6_whose_13 s0_1 flX6_98 rfl rfl (by decide) (by decide) ?_
    refine wp_iload_n (pc := 16) 1 dX6_whose_16 rfl rfl ?_
    refine wp_aload_n (pc := 17) 0 dX6_whose_17 rfl rfl ?_
    refine wq_getR (pc := 18) 10 0 dX6_whose_18 s0_0 flX6_10 rfl rfl (by decide) (by decide) ?_
    refine wq_getI (pc := 21) 123 8 dX6_whose_21 s0_1 flX6_123 rfl (by decide) ?_
    refine wp_int hT.crk ?_
    refine wc_V_II (pc := 24) dX6_whose_24 lkX6_241 (sm_Rc.o (ci := 0) s0_6 (by decide) (by decide)) (by decide) (Nat.le_of_ble_eq_true rfl) ?_
    refine c_X0_slippingBy ht hw hT hv ?_
    refine wp_goto (pc := 27) 36 dX6_whose_27 (by decide) ?_
    refine wp_iretI (pc := 36) dX6_whose_36 rfl ?_
    unfold do_whose at k
    rw [qry_t (c := (upB (nI v) 99)) c_6] at k
    rw [nI_clamp (by omega)] at k
    exact k _ _ _ hC Hi.rf
def do_crew (s : Sg) (x : Int32) : Int32 × Sg := qry (upB x 6) (eN (crewU (sgf s) x.toNatClampNeg (2 ^ (sgf s) 69))) s
theorem c_X6_crew {d : Nat} {F I : Nat → Nat → Int32} {J : Nat → Nat → Int64} {Q : Option Value → sm_H → Prop} {x : Int32} {s : Sg} (hC : CR s F I J) (ok : Ok s) (k : ∀ F1 I1 J1, CR (do_crew s x).2 F1 I1 J1 → Hi F I J F1 I1 J1 → Q (some (.int (do_crew s x).1)) (S0, F1, I1, J1)) : Wp mX6_crew (d + 6) 0 0 0 (sm_ini [.ref 0, .int x] 2) [] (S0, F, I, J) Q := by
  show Wp _ _ _ _ _ [.ref 0, .int x] _ _ _
  have ht : isT 1 := Or.inl rfl
  have hw := ok.1
  have hT := hC.1
  have hn := hw.n
  have hbn := bn_1024 hw
  have hh1 := hw.wth
  have hh2 := hw.crk
  have hh3 := hw.year
  refine wp_iload_n (pc := 0) 1 dX6_crew_0 rfl rfl ?_
  refine wp_bipush (pc := 1) (6) dX6_crew_1 (by decide) ?_
  refine wc_S_II (pc := 3) dX6_crew_3 lkX6_55 (by decide) (Nat.le_of_ble_eq_true rfl) ?_
  refine c_X6_upTo ?_
  refine wp_ifeqB (pc := 6) 30 dX6_crew_6 (by decide) (fun c_6 => ?_) (fun c_6 => ?_)
  · refine wp_aload_n (pc := 30) 0 dX6_crew_30 rfl rfl ?_
    refine wp_bipush (pc := 31) (-2) dX6_crew_31 (by decide) ?_
    refine wc_V_I (pc := 33) dX6_crew_33 lkX6_59 (sm_Rc.o (ci := 5) s0_0 (by decide) (by decide)) (by decide) (Nat.le_of_ble_eq_true rfl) ?_
    refine c_X6_refuse_0 ?_
    refine wp_iretI (pc := 36) dX6_crew_36 rfl ?_
    unfold do_crew at k
    rw [qry_f (c := (upB x 6)) c_6] at k
    exact k _ _ _ (hC.bmp (by decide)) (Hi.rf.uI (by decide))
  · obtain ⟨v, hv, rfl⟩ := (i32_le (n := 6) (by decide)).mp (of_decide_eq_true c_6)
    refine wp_aload_n (pc := 9) 0 dX6_crew_9 rfl rfl ?_
    refine wq_getR (pc := 10) 10 0 dX6_crew_10 s0_0 flX6_10 rfl rfl (by decide) (by decide) ?_
    refine wq_getR (pc := 13) 98 10 dX6_crew_13 s0_1 flX6_98 rfl rfl (by decide) (by decide) ?_
    refine wp_iload_n (pc := 16) 1 dX6_crew_16 rfl rfl ?_
    refine wp_aload_n (pc := 17) 0 dX6_crew_17 rfl rfl ?_
    refine wq_getR (pc := 18) 10 0 dX6_crew_18 s0_0 flX6_10 rfl rfl (by decide) (by decide) ?_
    refine wq_getI (pc := 21) 123 8 dX6_crew_21 s0_1 flX6_123 rfl (by decide) ?_
    refine wp_int hT.crk ?_
    refine wc_V_II (pc := 24) dX6_crew_24 lkX6_244 (sm_Rc.o (ci := 0) s0_6 (by decide) (by decide)) (by decide) (Nat.le_of_ble_eq_true rfl) ?_
    refine c_X0_bestCrew ht hw hT hv ?_
    refine wp_goto (pc := 27) 36 dX6_crew_27 (by decide) ?_
    refine wp_iretI (pc := 36) dX6_crew_36 rfl ?_
    unfold do_crew at k
    rw [qry_t (c := (upB (nI v) 6)) c_6] at k
    rw [nI_clamp (by omega)] at k
    exact k _ _ _ hC Hi.rf
def do_ofKind (s : Sg) (x : Int32) : Int32 × Sg := qry (upB x 5) (nI (cnt (fun j => decide ((sgf s) (50 + 3 * j) = x.toNatClampNeg)) ((sgf s) 69))) s
theorem c_X6_ofKind {d : Nat} {F I : Nat → Nat → Int32} {J : Nat → Nat → Int64} {Q : Option Value → sm_H → Prop} {x : Int32} {s : Sg} (hC : CR s F I J) (ok : Ok s) (k : ∀ F1 I1 J1, CR (do_ofKind s x).2 F1 I1 J1 → Hi F I J F1 I1 J1 → Q (some (.int (do_ofKind s x).1)) (S0, F1, I1, J1)) : Wp mX6_ofKind (d + 3) 0 0 0 (sm_ini [.ref 0, .int x] 2) [] (S0, F, I, J) Q := by
  show Wp _ _ _ _ _ [.ref 0, .int x] _ _ _
  have ht : isT 1 := Or.inl rfl
  have hw := ok.1
  have hT := hC.1
  have hn := hw.n
  have hbn := bn_1024 hw
  have hh1 := hw.wth
  have hh2 := hw.crk
  have hh3 := hw.year
  refine wp_iload_n (pc := 0) 1 dX6_ofKind_0 rfl rfl ?_
  refine wp_iconst (pc := 1) (5) dX6_ofKind_1 (by decide) ?_
  refine wc_S_II (pc := 2) dX6_ofKind_2 lkX6_55 (by decide) (Nat.le_of_ble_eq_true rfl) ?_
  refine c_X6_upTo ?_
  refine wp_ifeqB (pc := 5) 22 dX6_ofKind_5 (by decide) (fun c_5 => ?_) (fun c_5 => ?_)
  · refine wp_aload_n (pc := 22) 0 dX6_ofKind_22 rfl rfl ?_
    refine wp_bipush (pc := 23) (-2) dX6_ofKind_23 (by decide) ?_
    refine wc_V_I (pc := 25) dX6_ofKind_25 lkX6_59 (sm_Rc.o (ci := 5) s0_0 (by decide) (by decide)) (by decide) (Nat.le_of_ble_eq_true rfl) ?_
    refine c_X6_refuse_0 ?_
    refine wp_iretI (pc := 28) dX6_ofKind_28 rfl ?_
    unfold do_ofKind at k
    rw [qry_f (c := (upB x 5)) c_5] at k
    exact k _ _ _ (hC.bmp (by decide)) (Hi.rf.uI (by decide))
  · obtain ⟨v, hv, rfl⟩ := (i32_le (n := 5) (by decide)).mp (of_decide_eq_true c_5)
    refine wp_aload_n (pc := 8) 0 dX6_ofKind_8 rfl rfl ?_
    refine wq_getR (pc := 9) 10 0 dX6_ofKind_9 s0_0 flX6_10 rfl rfl (by decide) (by decide) ?_
    refine wq_getR (pc := 12) 98 10 dX6_ofKind_12 s0_1 flX6_98 rfl rfl (by decide) (by decide) ?_
    refine wp_iload_n (pc := 15) 1 dX6_ofKind_15 rfl rfl ?_
    refine wc_V_I (pc := 16) dX6_ofKind_16 lkX6_322 (sm_Rc.o (ci := 0) s0_6 (by decide) (by decide)) (by decide) (Nat.le_of_ble_eq_true rfl) ?_
    refine c_X0_countOfKind ht hw hT hv ?_
    refine wp_goto (pc := 19) 28 dX6_ofKind_19 (by decide) ?_
    refine wp_iretI (pc := 28) dX6_ofKind_28 rfl ?_
    unfold do_ofKind at k
    rw [qry_t (c := (upB (nI v) 5)) c_5] at k
    rw [nI_clamp (by omega)] at k
    exact k _ _ _ hC Hi.rf
def do_inWeather (s : Sg) (x : Int32) : Int32 × Sg := qry (upB x 3) (nI (col (fun j => decide ((sgf s) (5 * j + 1) = x.toNatClampNeg)) ((sgf s) 68))) s
theorem c_X6_inWeather {d : Nat} {F I : Nat → Nat → Int32} {J : Nat → Nat → Int64} {Q : Option Value → sm_H → Prop} {x : Int32} {s : Sg} (hC : CR s F I J) (ok : Ok s) (k : ∀ F1 I1 J1, CR (do_inWeather s x).2 F1 I1 J1 → Hi F I J F1 I1 J1 → Q (some (.int (do_inWeather s x).1)) (S0, F1, I1, J1)) : Wp mX6_inWeather (d + 2) 0 0 0 (sm_ini [.ref 0, .int x] 2) [] (S0, F, I, J) Q := by
  show Wp _ _ _ _ _ [.ref 0, .int x] _ _ _
  have ht : isT 1 := Or.inl rfl
  have hw := ok.1
  have hT := hC.1
  have hn := hw.n
  have hbn := bn_1024 hw
  have hh1 := hw.wth
  have hh2 := hw.crk
  have hh3 := hw.year
  refine wp_iload_n (pc := 0) 1 dX6_inWeather_0 rfl rfl ?_
  refine wp_iconst (pc := 1) (3) dX6_inWeather_1 (by decide) ?_
  refine wc_S_II (pc := 2) dX6_inWeather_2 lkX6_55 (by decide) (Nat.le_of_ble_eq_true rfl) ?_
  refine c_X6_upTo ?_
  refine wp_ifeqB (pc := 5) 19 dX6_inWeather_5 (by decide) (fun c_5 => ?_) (fun c_5 => ?_)
  · refine wp_aload_n (pc := 19) 0 dX6_inWeather_19 rfl rfl ?_
    refine wp_bipush (pc := 20) (-2) dX6_inWeather_20 (by decide) ?_
    refine wc_V_I (pc := 22) dX6_inWeather_22 lkX6_59 (sm_Rc.o (ci := 5) s0_0 (by decide) (by decide)) (by decide) (Nat.le_of_ble_eq_true rfl) ?_
    refine c_X6_refuse_0 ?_
    refine wp_iretI (pc := 25) dX6_inWeather_25 rfl ?_
    unfold do_inWeather at k
    rw [qry_f (c := (upB x 3)) c_5] at k
    exact k _ _ _ (hC.bmp (by decide)) (Hi.rf.uI (by decide))
  · obtain ⟨v, hv, rfl⟩ := (i32_le (n := 3) (by decide)).mp (of_decide_eq_true c_5)
    refine wp_aload_n (pc := 8) 0 dX6_inWeather_8 rfl rfl ?_
    refine wq_getR (pc := 9) 10 0 dX6_inWeather_9 s0_0 flX6_10 rfl rfl (by decide) (by decide) ?_
    refine wp_iload_n (pc := 12) 1 dX6_inWeather_12 rfl rfl ?_
    refine wc_V_I (pc := 13) dX6_inWeather_13 lkX6_316 (sm_Rc.o (ci := 4) s0_1 (by decide) (by decide)) (by decide) (Nat.le_of_ble_eq_true rfl) ?_
    refine c_X5_rungInWeather ht hw hT hv ?_
    refine wp_goto (pc := 16) 25 dX6_inWeather_16 (by decide) ?_
    refine wp_iretI (pc := 25) dX6_inWeather_25 rfl ?_
    unfold do_inWeather at k
    rw [qry_t (c := (upB (nI v) 3)) c_5] at k
    rw [nI_clamp (by omega)] at k
    exact k _ _ _ hC Hi.rf
def do_under (s : Sg) (x : Int32) : Int32 × Sg := qry (upB x 999) (eN (lstU (udP (sgf s) x.toNatClampNeg) (2 ^ (sgf s) 68))) s
theorem c_X6_under {d : Nat} {F I : Nat → Nat → Int32} {J : Nat → Nat → Int64} {Q : Option Value → sm_H → Prop} {x : Int32} {s : Sg} (hC : CR s F I J) (ok : Ok s) (k : ∀ F1 I1 J1, CR (do_under s x).2 F1 I1 J1 → Hi F I J F1 I1 J1 → Q (some (.int (do_under s x).1)) (S0, F1, I1, J1)) : Wp mX6_under (d + 4) 0 0 0 (sm_ini [.ref 0, .int x] 2) [] (S0, F, I, J) Q := by
  show Wp _ _ _ _ _ [.ref 0, .int x] _ _ _
  have ht : isT 1 := Or.inl rfl
  have hw := ok.1
  have hT := hC.1
  have hn := hw.n
  have hbn := bn_1024 hw
  have hh1 := hw.wth
  have hh2 := hw.crk
  have hh3 := hw.year
  refine wp_iload_n (pc := 0) 1 dX6_under_0 rfl rfl ?_
  refine wp_sipush (pc := 1) (999) dX6_under_1 (by decide) ?_
  refine wc_S_II (pc := 4) dX6_under_4 lkX6_55 (by decide) (Nat.le_of_ble_eq_true rfl) ?_
  refine c_X6_upTo ?_
  refine wp_ifeqB (pc := 7) 21 dX6_under_7 (by decide) (fun c_7 => ?_) (fun c_7 => ?_)
  · refine wp_aload_n (pc := 21) 0 dX6_under_21 rfl rfl ?_
    refine wp_bipush (pc := 22) (-2) dX6_under_22 (by decide) ?_
    refine wc_V_I (pc := 24) dX6_under_24 lkX6_59 (sm_Rc.o (ci := 5) s0_0 (by decide) (by decide)) (by decide) (Nat.le_of_ble_eq_true rfl) ?_
    refine c_X6_refuse_0 ?_
    refine wp_iretI (pc := 27) dX6_under_27 rfl ?_
    unfold do_under at k
    rw [qry_f (c := (upB x 999)) c_7] at k
    exact k _ _ _ (hC.bmp (by decide)) (Hi.rf.uI (by decide))
  · obtain ⟨v, hv, rfl⟩ := (i32_le (n := 999) (by decide)).mp (of_decide_eq_true c_7)
    refine wp_aload_n (pc := 10) 0 dX6_under_10 rfl rfl ?_
    refine wq_getR (pc := 11) 10 0 dX6_under_11 s0_0 flX6_10 rfl rfl (by decide) (by decide) ?_
    refine wp_iload_n (pc := 14) 1 dX6_under_14 rfl rfl ?_
    refine wc_S_RI (pc := 15) dX6_under_15 lkX6_299 (by decide) (Nat.le_of_ble_eq_true rfl) ?_
    refine c_X1_leastUnder ht hw hT hv ?_
    refine wp_goto (pc := 18) 27 dX6_under_18 (by decide) ?_
    refine wp_iretI (pc := 27) dX6_under_27 rfl ?_
    unfold do_under at k
    rw [qry_t (c := (upB (nI v) 999)) c_7] at k
    rw [nI_clamp (by omega)] at k
    exact k _ _ _ hC Hi.rf
def do_oldest (s : Sg) (x : Int32) : Int32 × Sg := qry (upB x 1) (eN (oldest (sgf s) (decide (x = 0)) ((sgf s) 68))) s
theorem c_X6_oldest {d : Nat} {F I : Nat → Nat → Int32} {J : Nat → Nat → Int64} {Q : Option Value → sm_H → Prop} {x : Int32} {s : Sg} (hC : CR s F I J) (ok : Ok s) (k : ∀ F1 I1 J1, CR (do_oldest s x).2 F1 I1 J1 → Hi F I J F1 I1 J1 → Q (some (.int (do_oldest s x).1)) (S0, F1, I1, J1)) : Wp mX6_oldest (d + 2) 0 0 0 (sm_ini [.ref 0, .int x] 2) [] (S0, F, I, J) Q := by
  show Wp _ _ _ _ _ [.ref 0, .int x] _ _ _
  have ht : isT 1 := Or.inl rfl
  have hw := ok.1
  have hT := hC.1
  have hn := hw.n
  have hbn := bn_1024 hw
  have hh1 := hw.wth
  have hh2 := hw.crk
  have hh3 := hw.year
  refine wp_iload_n (pc := 0) 1 dX6_oldest_0 rfl rfl ?_
  refine wp_iconst (pc := 1) (1) dX6_oldest_1 (by decide) ?_
  refine wc_S_II (pc := 2) dX6_oldest_2 lkX6_55 (by decide) (Nat.le_of_ble_eq_true rfl) ?_
  refine c_X6_upTo ?_
  refine wp_ifeqB (pc := 5) 27 dX6_oldest_5 (by decide) (fun c_5 => ?_) (fun c_5 => ?_)
  · refine wp_aload_n (pc := 27) 0 dX6_oldest_27 rfl rfl ?_
    refine wp_bipush (pc := 28) (-2) dX6_oldest_28 (by decide) ?_
    refine wc_V_I (pc := 30) dX6_oldest_30 lkX6_59 (sm_Rc.o (ci := 5) s0_0 (by decide) (by decide)) (by decide) (Nat.le_of_ble_eq_true rfl) ?_
    refine c_X6_refuse_0 ?_
    refine wp_iretI (pc := 33) dX6_oldest_33 rfl ?_
    unfold do_oldest at k
    rw [qry_f (c := (upB x 1)) c_5] at k
    exact k _ _ _ (hC.bmp (by decide)) (Hi.rf.uI (by decide))
  · refine wp_aload_n (pc := 8) 0 dX6_oldest_8 rfl rfl ?_
    refine wq_getR (pc := 9) 10 0 dX6_oldest_9 s0_0 flX6_10 rfl rfl (by decide) (by decide) ?_
    refine wp_iload_n (pc := 12) 1 dX6_oldest_12 rfl rfl ?_
    refine wp_ifne (pc := 13) 20 dX6_oldest_13 (by decide) (fun c_13 => ?_) (fun c_13 => ?_)
    · refine wp_iconst (pc := 20) (0) dX6_oldest_20 (by decide) ?_
      refine wc_V_I (pc := 21) dX6_oldest_21 lkX6_305 (sm_Rc.o (ci := 4) s0_1 (by decide) (by decide)) (by decide) (Nat.le_of_ble_eq_true rfl) ?_
      refine c_X5_oldestBeen ht hw hT (g := false) ?_
      refine wp_goto (pc := 24) 33 dX6_oldest_24 (by decide) ?_
      refine wp_iretI (pc := 33) dX6_oldest_33 rfl ?_
      unfold do_oldest at k
      rw [qry_t (c := (upB x 1)) c_5] at k
      rw [decide_eq_false c_13] at k
      exact k _ _ _ hC Hi.rf
    · refine wp_iconst (pc := 16) (1) dX6_oldest_16 (by decide) ?_
      refine wp_goto (pc := 17) 21 dX6_oldest_17 (by decide) ?_
      refine wc_V_I (pc := 21) dX6_oldest_21 lkX6_305 (sm_Rc.o (ci := 4) s0_1 (by decide) (by decide)) (by decide) (Nat.le_of_ble_eq_true rfl) ?_
      refine c_X5_oldestBeen ht hw hT (g := true) ?_
      refine wp_goto (pc := 24) 33 dX6_oldest_24 (by decide) ?_
      refine wp_iretI (pc := 33) dX6_oldest_33 rfl ?_
      unfold do_oldest at k
      rw [qry_t (c := (upB x 1)) c_5] at k
      rw [decide_eq_true c_13] at k
      exact k _ _ _ hC Hi.rf
def do_ends (s : Sg) (x : Int32) : Int32 × Sg := qry (upB x 1) (if x = 0 then nI (dif (2 ^ (sgf s) 68 - 1) (orU (sgf s) ((sgf s) 68))) else nI (col (fun j => decide ((sgf s) (5 * j + 2) = 0)) ((sgf s) 68))) s
theorem c_X6_ends {d : Nat} {F I : Nat → Nat → Int32} {J : Nat → Nat → Int64} {Q : Option Value → sm_H → Prop} {x : Int32} {s : Sg} (hC : CR s F I J) (ok : Ok s) (k : ∀ F1 I1 J1, CR (do_ends s x).2 F1 I1 J1 → Hi F I J F1 I1 J1 → Q (some (.int (do_ends s x).1)) (S0, F1, I1, J1)) : Wp mX6_ends (d + 3) 0 0 0 (sm_ini [.ref 0, .int x] 2) [] (S0, F, I, J) Q := by
  show Wp _ _ _ _ _ [.ref 0, .int x] _ _ _
  have ht : isT 1 := Or.inl rfl
  have hw := ok.1
  have hT := hC.1
  have hn := hw.n
  have hbn := bn_1024 hw
  have hh1 := hw.wth
  have hh2 := hw.crk
  have hh3 := hw.year
  refine wp_iload_n (pc := 0) 1 dX6_ends_0 rfl rfl ?_
  refine wp_iconst (pc := 1) (1) dX6_ends_1 (by decide) ?_
  refine wc_S_II (pc := 2) dX6_ends_2 lkX6_55 (by decide) (Nat.le_of_ble_eq_true rfl) ?_
  refine c_X6_upTo ?_
  refine wp_ifneB (pc := 5) 15 dX6_ends_5 (by decide) (fun c_5 => ?_) (fun c_5 => ?_)
  · refine wp_iload_n (pc := 15) 1 dX6_ends_15 rfl rfl ?_
    refine wp_ifne (pc := 16) 29 dX6_ends_16 (by decide) (fun c_16 => ?_) (fun c_16 => ?_)
    · refine wp_aload_n (pc := 29) 0 dX6_ends_29 rfl rfl ?_
      refine wq_getR (pc := 30) 10 0 dX6_ends_30 s0_0 flX6_10 rfl rfl (by decide) (by decide) ?_
      refine wc_V_ (pc := 33) dX6_ends_33 lkX6_281 (sm_Rc.o (ci := 4) s0_1 (by decide) (by decide)) (by decide) (Nat.le_of_ble_eq_true rfl) ?_
      refine c_X5_lowest ht hw hT ?_
      refine wp_iretI (pc := 36) dX6_ends_36 rfl ?_
      unfold do_ends at k
      rw [qry_t (c := (upB x 1)) c_5] at k
      rw [if_neg c_16] at k
      exact k _ _ _ hC Hi.rf
    · refine wp_aload_n (pc := 19) 0 dX6_ends_19 rfl rfl ?_
      refine wq_getR (pc := 20) 10 0 dX6_ends_20 s0_0 flX6_10 rfl rfl (by decide) (by decide) ?_
      refine wc_V_ (pc := 23) dX6_ends_23 lkX6_278 (sm_Rc.o (ci := 4) s0_1 (by decide) (by decide)) (by decide) (Nat.le_of_ble_eq_true rfl) ?_
      refine c_X5_highest ht hw hT ?_
      refine wp_goto (pc := 26) 36 dX6_ends_26 (by decide) ?_
      refine wp_iretI (pc := 36) dX6_ends_36 rfl ?_
      unfold do_ends at k
      rw [qry_t (c := (upB x 1)) c_5] at k
      rw [if_pos c_16] at k
      exact k _ _ _ hC Hi.rf
  · refine wp_aload_n (pc := 8) 0 dX6_ends_8 rfl rfl ?_
    refine wp_bipush (pc := 9) (-2) dX6_ends_9 (by decide) ?_
    refine wc_V_I (pc := 11) dX6_ends_11 lkX6_59 (sm_Rc.o (ci := 5) s0_0 (by decide) (by decide)) (by decide) (Nat.le_of_ble_eq_true rfl) ?_
    refine c_X6_refuse_0 ?_
    refine wp_iretI (pc := 14) dX6_ends_14 rfl ?_
    unfold do_ends at k
    rw [qry_f (c := (upB x 1)) c_5] at k
    exact k _ _ _ (hC.bmp (by decide)) (Hi.rf.uI (by decide))
def do_common (s : Sg) (x y : Int32) : Int32 × Sg := qry (isTh s x && (isTh s y)) (nI (down (sgf s) x.toNatClampNeg &&& down (sgf s) y.toNatClampNeg)) s
theorem c_X6_common {d : Nat} {F I : Nat → Nat → Int32} {J : Nat → Nat → Int64} {Q : Option Value → sm_H → Prop} {x y : Int32} {s : Sg} (hC : CR s F I J) (ok : Ok s) (k : ∀ F1 I1 J1, CR (do_common s x y).2 F1 I1 J1 → Hi F I J F1 I1 J1 → Q (some (.int (do_common s x y).1)) (S0, F1, I1, J1)) : Wp mX6_common (d + 3) 0 0 0 (sm_ini [.ref 0, .int x, .int y] 3) [] (S0, F, I, J) Q := by
  show Wp _ _ _ _ _ [.ref 0, .int x, .int y] _ _ _
  have ht : isT 1 := Or.inl rfl
  have hw := ok.1
  have hT := hC.1
  have hn := hw.n
  have hbn := bn_1024 hw
  have hh1 := hw.wth
  have hh2 := hw.crk
  have hh3 := hw.year
  refine wp_aload_n (pc := 0) 0 dX6_common_0 rfl rfl ?_
  refine wq_getR (pc := 1) 10 0 dX6_common_1 s0_0 flX6_10 rfl rfl (by decide) (by decide) ?_
  refine wp_iload_n (pc := 4) 1 dX6_common_4 rfl rfl ?_
  refine wc_V_I (pc := 5) dX6_common_5 lkX6_146 (sm_Rc.o (ci := 4) s0_1 (by decide) (by decide)) (by decide) (Nat.le_of_ble_eq_true rfl) ?_
  refine c_X5_isThing ht hw hT ?_
  refine wp_ifeqB (pc := 8) 22 dX6_common_8 (by decide) (fun c_8 => ?_) (fun c_8 => ?_)
  · refine wp_aload_n (pc := 22) 0 dX6_common_22 rfl rfl ?_
    refine wp_bipush (pc := 23) (-2) dX6_common_23 (by decide) ?_
    refine wc_V_I (pc := 25) dX6_common_25 lkX6_59 (sm_Rc.o (ci := 5) s0_0 (by decide) (by decide)) (by decide) (Nat.le_of_ble_eq_true rfl) ?_
    refine c_X6_refuse_0 ?_
    refine wp_iretI (pc := 28) dX6_common_28 rfl ?_
    unfold do_common at k
    rw [qry_f (c := (isTh s x && (isTh s y))) (and_f1 c_8)] at k
    exact k _ _ _ (hC.bmp (by decide)) (Hi.rf.uI (by decide))
  · obtain ⟨i, hi0, rfl⟩ := (i32_in (by omega)).mp (of_decide_eq_true c_8)
    have hi : i < 10 := by omega
    refine wp_aload_n (pc := 11) 0 dX6_common_11 rfl rfl ?_
    refine wq_getR (pc := 12) 10 0 dX6_common_12 s0_0 flX6_10 rfl rfl (by decide) (by decide) ?_
    refine wp_iload_n (pc := 15) 2 dX6_common_15 rfl rfl ?_
    refine wc_V_I (pc := 16) dX6_common_16 lkX6_146 (sm_Rc.o (ci := 4) s0_1 (by decide) (by decide)) (by decide) (Nat.le_of_ble_eq_true rfl) ?_
    refine c_X5_isThing ht hw hT ?_
    refine wp_ifneB (pc := 19) 29 dX6_common_19 (by decide) (fun c_19 => ?_) (fun c_19 => ?_)
    · obtain ⟨j, hj0, rfl⟩ := (i32_in (by omega)).mp (of_decide_eq_true c_19)
      have hj : j < 10 := by omega
      refine wp_aload_n (pc := 29) 0 dX6_common_29 rfl rfl ?_
      refine wq_getR (pc := 30) 10 0 dX6_common_30 s0_0 flX6_10 rfl rfl (by decide) (by decide) ?_
      refine wp_iload_n (pc := 33) 1 dX6_common_33 rfl rfl ?_
      refine wc_V_I (pc := 34) dX6_common_34 lkX6_217 (sm_Rc.o (ci := 4) s0_1 (by decide) (by decide)) (by decide) (Nat.le_of_ble_eq_true rfl) ?_
      refine c_X5_downOf ht hw hT hi ?_
      refine wp_aload_n (pc := 37) 0 dX6_common_37 rfl rfl ?_
      refine wq_getR (pc := 38) 10 0 dX6_common_38 s0_0 flX6_10 rfl rfl (by decide) (by decide) ?_
      refine wp_iload_n (pc := 41) 2 dX6_common_41 rfl rfl ?_
      refine wc_V_I (pc := 42) dX6_common_42 lkX6_217 (sm_Rc.o (ci := 4) s0_1 (by decide) (by decide)) (by decide) (Nat.le_of_ble_eq_true rfl) ?_
      refine c_X5_downOf ht hw hT hj ?_
      refine wp_iand (pc := 45) dX6_common_45 ?_
      refine wp_int (bt_and _ _) ?_
      refine wp_iretI (pc := 46) dX6_common_46 rfl ?_
      unfold do_common at k
      rw [qry_t (c := (isTh s (nI i) && (isTh s (nI j)))) (and_tt c_8 c_19)] at k
      rw [nI_clamp (by omega), nI_clamp (by omega)] at k
      exact k _ _ _ hC Hi.rf
    · refine wp_aload_n (pc := 22) 0 dX6_common_22 rfl rfl ?_
      refine wp_bipush (pc := 23) (-2) dX6_common_23 (by decide) ?_
      refine wc_V_I (pc := 25) dX6_common_25 lkX6_59 (sm_Rc.o (ci := 5) s0_0 (by decide) (by decide)) (by decide) (Nat.le_of_ble_eq_true rfl) ?_
      refine c_X6_refuse_0 ?_
      refine wp_iretI (pc := 28) dX6_common_28 rfl ?_
      unfold do_common at k
      rw [qry_f (c := (isTh s (nI i) && (isTh s y))) (and_f2 c_19)] at k
      exact k _ _ _ (hC.bmp (by decide)) (Hi.rf.uI (by decide))
def do_weatherFor (s : Sg) (x : Int32) : Int32 × Sg := qry (upB x 1) (if x = 0 then nI (amax (cbk (sgf s)) 3) else nI (cbk (sgf s) (amax (cbk (sgf s)) 3))) s
theorem c_X6_weatherFor {d : Nat} {F I : Nat → Nat → Int32} {J : Nat → Nat → Int64} {Q : Option Value → sm_H → Prop} {x : Int32} {s : Sg} (hC : CR s F I J) (ok : Ok s) (k : ∀ F1 I1 J1, CR (do_weatherFor s x).2 F1 I1 J1 → Hi F I J F1 I1 J1 → Q (some (.int (do_weatherFor s x).1)) (S0, F1, I1, J1)) : Wp mX6_weatherFor (d + 4) 0 0 0 (sm_ini [.ref 0, .int x] 3) [] (S0, F, I, J) Q := by
  show Wp _ _ _ _ _ [.ref 0, .int x, .null] _ _ _
  have ht : isT 1 := Or.inl rfl
  have hw := ok.1
  have hT := hC.1
  have hn := hw.n
  have hbn := bn_1024 hw
  have hh1 := hw.wth
  have hh2 := hw.crk
  have hh3 := hw.year
  have ham := amax_le (cbk (sgf s)) 3
  refine wp_iload_n (pc := 0) 1 dX6_weatherFor_0 rfl rfl ?_
  refine wp_iconst (pc := 1) (1) dX6_weatherFor_1 (by decide) ?_
  refine wc_S_II (pc := 2) dX6_weatherFor_2 lkX6_55 (by decide) (Nat.le_of_ble_eq_true rfl) ?_
  refine c_X6_upTo ?_
  refine wp_ifneB (pc := 5) 15 dX6_weatherFor_5 (by decide) (fun c_5 => ?_) (fun c_5 => ?_)
  · refine wp_aload_n (pc := 15) 0 dX6_weatherFor_15 rfl rfl ?_
    refine wq_getR (pc := 16) 10 0 dX6_weatherFor_16 s0_0 flX6_10 rfl rfl (by decide) (by decide) ?_
    refine wc_V_ (pc := 19) dX6_weatherFor_19 lkX6_284 (sm_Rc.o (ci := 4) s0_1 (by decide) (by decide)) (by decide) (Nat.le_of_ble_eq_true rfl) ?_
    refine c_X5_fullestWeather ht hw hT ?_
    refine wp_istore_n (pc := 22) 2 dX6_weatherFor_22 rfl (by decide) rfl ?_
    refine wp_iload_n (pc := 23) 1 dX6_weatherFor_23 rfl rfl ?_
    refine wp_ifne (pc := 24) 31 dX6_weatherFor_24 (by decide) (fun c_24 => ?_) (fun c_24 => ?_)
    · refine wp_aload_n (pc := 31) 0 dX6_weatherFor_31 rfl rfl ?_
      refine wq_getR (pc := 32) 10 0 dX6_weatherFor_32 s0_0 flX6_10 rfl rfl (by decide) (by decide) ?_
      refine wp_iload_n (pc := 35) 2 dX6_weatherFor_35 rfl rfl ?_
      refine wc_V_I (pc := 36) dX6_weatherFor_36 lkX6_287 (sm_Rc.o (ci := 4) s0_1 (by decide) (by decide)) (by decide) (Nat.le_of_ble_eq_true rfl) ?_
      refine c_X5_countBackIn ht hw hT ham ?_
      refine wp_iretI (pc := 39) dX6_weatherFor_39 rfl ?_
      unfold do_weatherFor at k
      rw [qry_t (c := (upB x 1)) c_5] at k
      rw [if_neg c_24] at k
      exact k _ _ _ hC Hi.rf
    · refine wp_iload_n (pc := 27) 2 dX6_weatherFor_27 rfl rfl ?_
      refine wp_goto (pc := 28) 39 dX6_weatherFor_28 (by decide) ?_
      refine wp_iretI (pc := 39) dX6_weatherFor_39 rfl ?_
      unfold do_weatherFor at k
      rw [qry_t (c := (upB x 1)) c_5] at k
      rw [if_pos c_24] at k
      exact k _ _ _ hC Hi.rf
  · refine wp_aload_n (pc := 8) 0 dX6_weatherFor_8 rfl rfl ?_
    refine wp_bipush (pc := 9) (-2) dX6_weatherFor_9 (by decide) ?_
    refine wc_V_I (pc := 11) dX6_weatherFor_11 lkX6_59 (sm_Rc.o (ci := 5) s0_0 (by decide) (by decide)) (by decide) (Nat.le_of_ble_eq_true rfl) ?_
    refine c_X6_refuse_0 ?_
    refine wp_iretI (pc := 14) dX6_weatherFor_14 rfl ?_
    unfold do_weatherFor at k
    rw [qry_f (c := (upB x 1)) c_5] at k
    exact k _ _ _ (hC.bmp (by decide)) (Hi.rf.uI (by decide))
def do_bell (s : Sg) (x : Int32) : Int32 × Sg := qry (upB x 1) (if x = 0 then nI (amax (cop (sgf s)) 7) else nI (cop (sgf s) (amax (cop (sgf s)) 7))) s
theorem c_X6_bell {d : Nat} {F I : Nat → Nat → Int32} {J : Nat → Nat → Int64} {Q : Option Value → sm_H → Prop} {x : Int32} {s : Sg} (hC : CR s F I J) (ok : Ok s) (k : ∀ F1 I1 J1, CR (do_bell s x).2 F1 I1 J1 → Hi F I J F1 I1 J1 → Q (some (.int (do_bell s x).1)) (S0, F1, I1, J1)) : Wp mX6_bell (d + 4) 0 0 0 (sm_ini [.ref 0, .int x] 3) [] (S0, F, I, J) Q := by
  show Wp _ _ _ _ _ [.ref 0, .int x, .null] _ _ _
  have ht : isT 1 := Or.inl rfl
  have hw := ok.1
  have hT := hC.1
  have hn := hw.n
  have hbn := bn_1024 hw
  have hh1 := hw.wth
  have hh2 := hw.crk
  have hh3 := hw.year
  have ham := amax_le (cop (sgf s)) 7
  refine wp_iload_n (pc := 0) 1 dX6_bell_0 rfl rfl ?_
  refine wp_iconst (pc := 1) (1) dX6_bell_1 (by decide) ?_
  refine wc_S_II (pc := 2) dX6_bell_2 lkX6_55 (by decide) (Nat.le_of_ble_eq_true rfl) ?_
  refine c_X6_upTo ?_
  refine wp_ifneB (pc := 5) 15 dX6_bell_5 (by decide) (fun c_5 => ?_) (fun c_5 => ?_)
  · refine wp_aload_n (pc := 15) 0 dX6_bell_15 rfl rfl ?_
    refine wq_getR (pc := 16) 10 0 dX6_bell_16 s0_0 flX6_10 rfl rfl (by decide) (by decide) ?_
    refine wc_V_ (pc := 19) dX6_bell_19 lkX6_290 (sm_Rc.o (ci := 4) s0_1 (by decide) (by decide)) (by decide) (Nat.le_of_ble_eq_true rfl) ?_
    refine c_X5_fullestBell ht hw hT ?_
    refine wp_istore_n (pc := 22) 2 dX6_bell_22 rfl (by decide) rfl ?_
    refine wp_iload_n (pc := 23) 1 dX6_bell_23 rfl rfl ?_
    refine wp_ifne (pc := 24) 31 dX6_bell_24 (by decide) (fun c_24 => ?_) (fun c_24 => ?_)
    · refine wp_aload_n (pc := 31) 0 dX6_bell_31 rfl rfl ?_
      refine wq_getR (pc := 32) 10 0 dX6_bell_32 s0_0 flX6_10 rfl rfl (by decide) (by decide) ?_
      refine wp_iload_n (pc := 35) 2 dX6_bell_35 rfl rfl ?_
      refine wc_V_I (pc := 36) dX6_bell_36 lkX6_293 (sm_Rc.o (ci := 4) s0_1 (by decide) (by decide)) (by decide) (Nat.le_of_ble_eq_true rfl) ?_
      refine c_X5_countOpenOn ht hw hT ham ?_
      refine wp_iretI (pc := 39) dX6_bell_39 rfl ?_
      unfold do_bell at k
      rw [qry_t (c := (upB x 1)) c_5] at k
      rw [if_neg c_24] at k
      exact k _ _ _ hC Hi.rf
    · refine wp_iload_n (pc := 27) 2 dX6_bell_27 rfl rfl ?_
      refine wp_goto (pc := 28) 39 dX6_bell_28 (by decide) ?_
      refine wp_iretI (pc := 39) dX6_bell_39 rfl ?_
      unfold do_bell at k
      rw [qry_t (c := (upB x 1)) c_5] at k
      rw [if_pos c_24] at k
      exact k _ _ _ hC Hi.rf
  · refine wp_aload_n (pc := 8) 0 dX6_bell_8 rfl rfl ?_
    refine wp_bipush (pc := 9) (-2) dX6_bell_9 (by decide) ?_
    refine wc_V_I (pc := 11) dX6_bell_11 lkX6_59 (sm_Rc.o (ci := 5) s0_0 (by decide) (by decide)) (by decide) (Nat.le_of_ble_eq_true rfl) ?_
    refine c_X6_refuse_0 ?_
    refine wp_iretI (pc := 14) dX6_bell_14 rfl ?_
    unfold do_bell at k
    rw [qry_f (c := (upB x 1)) c_5] at k
    exact k _ _ _ (hC.bmp (by decide)) (Hi.rf.uI (by decide))
def do_pillar (s : Sg) : Int32 × Sg := (eN (worstB (sgf s) (sta (sgf s) (bn (sgf s))) ((sgf s) 68)), s)
theorem c_X6_pillar {d : Nat} {F I : Nat → Nat → Int32} {J : Nat → Nat → Int64} {Q : Option Value → sm_H → Prop} {s : Sg} (hC : CR s F I J) (ok : Ok s) (k : ∀ F1 I1 J1, CR (do_pillar s).2 F1 I1 J1 → Hi F I J F1 I1 J1 → Q (some (.int (do_pillar s).1)) (S0, F1, I1, J1)) : Wp mX6_pillar (d + 4) 0 0 0 (sm_ini [.ref 0] 1) [] (S0, F, I, J) Q := by
  show Wp _ _ _ _ _ [.ref 0] _ _ _
  have ht : isT 1 := Or.inl rfl
  have hw := ok.1
  have hT := hC.1
  have hn := hw.n
  have hbn := bn_1024 hw
  have hh1 := hw.wth
  have hh2 := hw.crk
  have hh3 := hw.year
  have hs1 := sta_1024 (sgf s) (bn (sgf s))
  refine wp_aload_n (pc := 0) 0 dX6_pillar_0 rfl rfl ?_
  refine wq_getR (pc := 1) 10 0 dX6_pillar_1 s0_0 flX6_10 rfl rfl (by decide) (by decide) ?_
  refine wp_aload_n (pc := 4) 0 dX6_pillar_4 rfl rfl ?_
  refine wq_getR (pc := 5) 10 0 dX6_pillar_5 s0_0 flX6_10 rfl rfl (by decide) (by decide) ?_
  refine wp_aload_n (pc := 8) 0 dX6_pillar_8 rfl rfl ?_
  refine wq_getR (pc := 9) 10 0 dX6_pillar_9 s0_0 flX6_10 rfl rfl (by decide) (by decide) ?_
  refine wq_getI (pc := 12) 202 5 dX6_pillar_12 s0_1 flX6_202 rfl (by decide) ?_
  refine wp_int hT.been ?_
  refine wc_V_I (pc := 15) dX6_pillar_15 lkX6_205 (sm_Rc.o (ci := 4) s0_1 (by decide) (by decide)) (by decide) (Nat.le_of_ble_eq_true rfl) ?_
  refine c_X5_standing ht hw hT (by omega) ?_
  refine wc_S_RI (pc := 18) dX6_pillar_18 lkX6_265 (by decide) (Nat.le_of_ble_eq_true rfl) ?_
  refine c_X1_worstBack ht hw hT hs1 ?_
  refine wp_iretI (pc := 21) dX6_pillar_21 rfl ?_
  unfold do_pillar at k
  exact k _ _ _ hC Hi.rf
def do_kinds (s : Sg) (x y : Int32) : Int32 × Sg := qry (isRg s x && (upB y 99)) (nI (col (fun j => decide (slipN j ((sgf s) (50 + 3 * x.toNatClampNeg + 1)) ((sgf s) (50 + 3 * x.toNatClampNeg + 2)) ((sgf s) 72) = y.toNatClampNeg)) 6)) s
theorem c_X6_kinds {d : Nat} {F I : Nat → Nat → Int32} {J : Nat → Nat → Int64} {Q : Option Value → sm_H → Prop} {x y : Int32} {s : Sg} (hC : CR s F I J) (ok : Ok s) (k : ∀ F1 I1 J1, CR (do_kinds s x y).2 F1 I1 J1 → Hi F I J F1 I1 J1 → Q (some (.int (do_kinds s x y).1)) (S0, F1, I1, J1)) : Wp mX6_kinds (d + 4) 0 0 0 (sm_ini [.ref 0, .int x, .int y] 3) [] (S0, F, I, J) Q := by
  show Wp _ _ _ _ _ [.ref 0, .int x, .int y] _ _ _
  have ht : isT 1 := Or.inl rfl
  have hw := ok.1
  have hT := hC.1
  have hn := hw.n
  have hbn := bn_1024 hw
  have hh1 := hw.wth
  have hh2 := hw.crk
  have hh3 := hw.year
  refine wp_aload_n (pc := 0) 0 dX6_kinds_0 rfl rfl ?_
  refine wq_getR (pc := 1) 10 0 dX6_kinds_1 s0_0 flX6_10 rfl rfl (by decide) (by decide) ?_
  refine wq_getR (pc := 4) 98 10 dX6_kinds_4 s0_1 flX6_98 rfl rfl (by decide) (by decide) ?_
  refine wp_iload_n (pc := 7) 1 dX6_kinds_7 rfl rfl ?_
  refine wc_V_I (pc := 8) dX6_kinds_8 lkX6_102 (sm_Rc.o (ci := 0) s0_6 (by decide) (by decide)) (by decide) (Nat.le_of_ble_eq_true rfl) ?_
  refine c_X0_isRinger ht hw hT ?_
  refine wp_ifeqB (pc := 11) 23 dX6_kinds_11 (by decide) (fun c_11 => ?_) (fun c_11 => ?_)
  · refine wp_aload_n (pc := 23) 0 dX6_kinds_23 rfl rfl ?_
    refine wp_bipush (pc := 24) (-2) dX6_kinds_24 (by decide) ?_
    refine wc_V_I (pc := 26) dX6_kinds_26 lkX6_59 (sm_Rc.o (ci := 5) s0_0 (by decide) (by decide)) (by decide) (Nat.le_of_ble_eq_true rfl) ?_
    refine c_X6_refuse_0 ?_
    refine wp_iretI (pc := 29) dX6_kinds_29 rfl ?_
    unfold do_kinds at k
    rw [qry_f (c := (isRg s x && (upB y 99))) (and_f1 c_11)] at k
    exact k _ _ _ (hC.bmp (by decide)) (Hi.rf.uI (by decide))
  · have hc6 := hw.c
    obtain ⟨r, hr0, rfl⟩ := (i32_in (by omega)).mp (of_decide_eq_true c_11)
    have hr : r < 6 := by omega
    refine wp_iload_n (pc := 14) 2 dX6_kinds_14 rfl rfl ?_
    refine wp_bipush (pc := 15) (99) dX6_kinds_15 (by decide) ?_
    refine wc_S_II (pc := 17) dX6_kinds_17 lkX6_55 (by decide) (Nat.le_of_ble_eq_true rfl) ?_
    refine c_X6_upTo ?_
    refine wp_ifneB (pc := 20) 30 dX6_kinds_20 (by decide) (fun c_20 => ?_) (fun c_20 => ?_)
    · obtain ⟨v, hv, rfl⟩ := (i32_le (n := 99) (by decide)).mp (of_decide_eq_true c_20)
      refine wp_aload_n (pc := 30) 0 dX6_kinds_30 rfl rfl ?_
      refine wq_getR (pc := 31) 10 0 dX6_kinds_31 s0_0 flX6_10 rfl rfl (by decide) (by decide) ?_
      refine wq_getR (pc := 34) 98 10 dX6_kinds_34 s0_1 flX6_98 rfl rfl (by decide) (by decide) ?_
      refine wp_iload_n (pc := 37) 1 dX6_kinds_37 rfl rfl ?_
      refine wp_iload_n (pc := 38) 2 dX6_kinds_38 rfl rfl ?_
      refine wp_aload_n (pc := 39) 0 dX6_kinds_39 rfl rfl ?_
      refine wq_getR (pc := 40) 10 0 dX6_kinds_40 s0_0 flX6_10 rfl rfl (by decide) (by decide) ?_
      refine wq_getI (pc := 43) 123 8 dX6_kinds_43 s0_1 flX6_123 rfl (by decide) ?_
      refine wp_int hT.crk ?_
      refine wc_V_III (pc := 46) dX6_kinds_46 lkX6_262 (sm_Rc.o (ci := 0) s0_6 (by decide) (by decide)) (by decide) (Nat.le_of_ble_eq_true rfl) ?_
      refine c_X0_kindsSlippingBy ht hw hT hr hv ?_
      refine wp_iretI (pc := 49) dX6_kinds_49 rfl ?_
      unfold do_kinds at k
      rw [qry_t (c := (isRg s (nI r) && (upB (nI v) 99))) (and_tt c_11 c_20)] at k
      rw [nI_clamp (by omega), nI_clamp (by omega)] at k
      exact k _ _ _ hC Hi.rf
    · refine wp_aload_n (pc := 23) 0 dX6_kinds_23 rfl rfl ?_
      refine wp_bipush (pc := 24) (-2) dX6_kinds_24 (by decide) ?_
      refine wc_V_I (pc := 26) dX6_kinds_26 lkX6_59 (sm_Rc.o (ci := 5) s0_0 (by decide) (by decide)) (by decide) (Nat.le_of_ble_eq_true rfl) ?_
      refine c_X6_refuse_0 ?_
      refine wp_iretI (pc := 29) dX6_kinds_29 rfl ?_
      unfold do_kinds at k
      rw [qry_f (c := (isRg s (nI r) && (upB y 99))) (and_f2 c_20)] at k
      exact k _ _ _ (hC.bmp (by decide)) (Hi.rf.uI (by decide))
def do_thingOf (s : Sg) (x y : Int32) : Int32 × Sg := qry (isTh s x && (upB y 7)) (nI (partN (sgf s) x.toNatClampNeg y.toNatClampNeg)) s
theorem c_X6_thingOf {d : Nat} {F I : Nat → Nat → Int32} {J : Nat → Nat → Int64} {Q : Option Value → sm_H → Prop} {x y : Int32} {s : Sg} (hC : CR s F I J) (ok : Ok s) (k : ∀ F1 I1 J1, CR (do_thingOf s x y).2 F1 I1 J1 → Hi F I J F1 I1 J1 → Q (some (.int (do_thingOf s x y).1)) (S0, F1, I1, J1)) : Wp mX6_thingOf (d + 4) 0 0 0 (sm_ini [.ref 0, .int x, .int y] 3) [] (S0, F, I, J) Q := by
  show Wp _ _ _ _ _ [.ref 0, .int x, .int y] _ _ _
  have ht : isT 1 := Or.inl rfl
  have hw := ok.1
  have hT := hC.1
  have hn := hw.n
  have hbn := bn_1024 hw
  have hh1 := hw.wth
  have hh2 := hw.crk
  have hh3 := hw.year
  refine wp_aload_n (pc := 0) 0 dX6_thingOf_0 rfl rfl ?_
  refine wq_getR (pc := 1) 10 0 dX6_thingOf_1 s0_0 flX6_10 rfl rfl (by decide) (by decide) ?_
  refine wp_iload_n (pc := 4) 1 dX6_thingOf_4 rfl rfl ?_
  refine wc_V_I (pc := 5) dX6_thingOf_5 lkX6_146 (sm_Rc.o (ci := 4) s0_1 (by decide) (by decide)) (by decide) (Nat.le_of_ble_eq_true rfl) ?_
  refine c_X5_isThing ht hw hT ?_
  refine wp_ifeqB (pc := 8) 20 dX6_thingOf_8 (by decide) (fun c_8 => ?_) (fun c_8 => ?_)
  · refine wp_aload_n (pc := 20) 0 dX6_thingOf_20 rfl rfl ?_
    refine wp_bipush (pc := 21) (-2) dX6_thingOf_21 (by decide) ?_
    refine wc_V_I (pc := 23) dX6_thingOf_23 lkX6_59 (sm_Rc.o (ci := 5) s0_0 (by decide) (by decide)) (by decide) (Nat.le_of_ble_eq_true rfl) ?_
    refine c_X6_refuse_0 ?_
    refine wp_iretI (pc := 26) dX6_thingOf_26 rfl ?_
    unfold do_thingOf at k
    rw [qry_f (c := (isTh s x && (upB y 7))) (and_f1 c_8)] at k
    exact k _ _ _ (hC.bmp (by decide)) (Hi.rf.uI (by decide))
  · obtain ⟨i, hi0, rfl⟩ := (i32_in (by omega)).mp (of_decide_eq_true c_8)
    have hi : i < 10 := by omega
    refine wp_iload_n (pc := 11) 2 dX6_thingOf_11 rfl rfl ?_
    refine wp_bipush (pc := 12) (7) dX6_thingOf_12 (by decide) ?_
    refine wc_S_II (pc := 14) dX6_thingOf_14 lkX6_55 (by decide) (Nat.le_of_ble_eq_true rfl) ?_
    refine c_X6_upTo ?_
    refine wp_ifneB (pc := 17) 27 dX6_thingOf_17 (by decide) (fun c_17 => ?_) (fun c_17 => ?_)
    · obtain ⟨v, hv, rfl⟩ := (i32_le (n := 7) (by decide)).mp (of_decide_eq_true c_17)
      refine wp_aload_n (pc := 27) 0 dX6_thingOf_27 rfl rfl ?_
      refine wq_getR (pc := 28) 10 0 dX6_thingOf_28 s0_0 flX6_10 rfl rfl (by decide) (by decide) ?_
      refine wp_iload_n (pc := 31) 1 dX6_thingOf_31 rfl rfl ?_
      refine wp_iload_n (pc := 32) 2 dX6_thingOf_32 rfl rfl ?_
      refine wc_V_II (pc := 33) dX6_thingOf_33 lkX6_159 (sm_Rc.o (ci := 4) s0_1 (by decide) (by decide)) (by decide) (Nat.le_of_ble_eq_true rfl) ?_
      refine c_X5_partOf ht hw hT hi (by omega) ?_
      refine wp_iretI (pc := 36) dX6_thingOf_36 rfl ?_
      unfold do_thingOf at k
      rw [qry_t (c := (isTh s (nI i) && (upB (nI v) 7))) (and_tt c_8 c_17)] at k
      rw [nI_clamp (by omega), nI_clamp (by omega)] at k
      exact k _ _ _ hC Hi.rf
    · refine wp_aload_n (pc := 20) 0 dX6_thingOf_20 rfl rfl ?_
      refine wp_bipush (pc := 21) (-2) dX6_thingOf_21 (by decide) ?_
      refine wc_V_I (pc := 23) dX6_thingOf_23 lkX6_59 (sm_Rc.o (ci := 5) s0_0 (by decide) (by decide)) (by decide) (Nat.le_of_ble_eq_true rfl) ?_
      refine c_X6_refuse_0 ?_
      refine wp_iretI (pc := 26) dX6_thingOf_26 rfl ?_
      unfold do_thingOf at k
      rw [qry_f (c := (isTh s (nI i) && (upB y 7))) (and_f2 c_17)] at k
      exact k _ _ _ (hC.bmp (by decide)) (Hi.rf.uI (by decide))
