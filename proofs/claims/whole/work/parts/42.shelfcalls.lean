/-! ===== shelves and the tape, called ===== -/
def inS (x : Int32) : Bool := decide (0 ≤ x ∧ x < 8)
theorem c_X3_isShelf {d : Nat} {h : sm_H} {Q : Option Value → sm_H → Prop} {x : Int32} (k : Q (some (.int (b2 (inS x)))) h) : Wp mX3_isShelf d 0 0 0 (sm_ini [.int x] 1) [] h Q := by
  by_cases hx : 0 ≤ x ∧ x < 8
  · rw [show inS x = true from decide_eq_true hx] at k
    obtain ⟨i, hi, rfl⟩ := (i32_in (n := 8) (by decide)).mp hx
    exact c_X3_isShelf_i hi k
  · rw [show inS x = false from decide_eq_false hx] at k
    exact c_X3_isShelf_o hx k
theorem CR.t {s : Sg} {F I F1 I1 : Nat → Nat → Int32} {J : Nat → Nat → Int64} {sz : Nat} {tp : Nat → Nat} (h : CR s F I J) (hP : TpD sz tp F1 I1) (hF : ∀ a, a ≠ 35 → F1 a = F a) (hI : ∀ a, a ≠ 36 → I1 a = I a) : CR (stT s sz tp) F1 I1 J := by
  obtain ⟨g1, g2, g3, g4, g5, g6⟩ := h
  refine ⟨g1.frame (fun a ha => hF a (by omega)) (fun a q1 q2 => hI a (by omega)), fun z => (g2 z).frame (fun a ha => hF a (by omega)) (fun a q1 q2 => hI a (by omega)), ?_, fun j hj => ?_, hP, fun x hx => ?_, fun x hx => ?_, g6.2.2⟩
  · rw [hF 0 (by omega)]; exact g3
  · rw [hI 39 (by omega)]; exact g4 j hj
  · rw [hI 32 (by omega)]; exact g6.1 x hx
  · rw [hI (32 + 1) (by omega)]; exact g6.2.1 x hx
def do_row (s : Sg) (x y z : Int32) : Int32 × Sg := gat 0 (inS x && (upB y 4 && (upB z 40))) (1, stS s (pu (sgh s) x.toNatClampNeg (some y.toNatClampNeg)) (pu (sgs s) x.toNatClampNeg z.toNatClampNeg) (elZ (sge s) (x.toNatClampNeg * 40) 40)) s
theorem c_X6_row {d : Nat} {F I : Nat → Nat → Int32} {J : Nat → Nat → Int64} {Q : Option Value → sm_H → Prop} {x y z : Int32} {s : Sg} (hC : CR s F I J) (ok : Ok s) (k : ∀ F1 I1 J1, CR (do_row s x y z).2 F1 I1 J1 → Hi F I J F1 I1 J1 → Q (some (.int (do_row s x y z).1)) (S0, F1, I1, J1)) : Wp mX6_row (d + 2) 0 0 0 (sm_ini [.ref 0, .int x, .int y, .int z] 4) [] (S0, F, I, J) Q := by
  show Wp _ _ _ _ _ [.ref 0, .int x, .int y, .int z] _ _ _
  have ht : isT 1 := Or.inl rfl
  have hw := ok.1
  have hT := hC.1
  have hn := hw.n
  have hbn := bn_1024 hw
  have hh1 := hw.wth
  have hh2 := hw.crk
  have hh3 := hw.year
  have hS := hC.2.2.2.2.2
  have ho := ok.2.2.2.2.1
  have hP := hC.2.2.2.2.1
  have hz := ok.2.2.1
  refine wp_iload_n (pc := 0) 1 dX6_row_0 rfl rfl ?_
  refine wc_S_I (pc := 1) dX6_row_1 lkX6_51 (by decide) (Nat.le_of_ble_eq_true rfl) ?_
  refine c_X3_isShelf ?_
  refine wp_ifeqB (pc := 4) 24 dX6_row_4 (by decide) (fun c_4 => ?_) (fun c_4 => ?_)
  · refine wp_aload_n (pc := 24) 0 dX6_row_24 rfl rfl ?_
    refine wp_bipush (pc := 25) (-2) dX6_row_25 (by decide) ?_
    refine wc_V_I (pc := 27) dX6_row_27 lkX6_59 (sm_Rc.o (ci := 5) s0_0 (by decide) (by decide)) (by decide) (Nat.le_of_ble_eq_true rfl) ?_
    refine c_X6_refuse_0 ?_
    refine wp_iretI (pc := 30) dX6_row_30 rfl ?_
    unfold do_row at k
    rw [gat_f (c := (inS x && (upB y 4 && (upB z 40)))) (and_f1 c_4)] at k
    exact k _ _ _ (hC.bmp (by decide)) (Hi.rf.uI (by decide))
  · obtain ⟨i, hi, rfl⟩ := (i32_in (n := 8) (by decide)).mp (of_decide_eq_true c_4)
    refine wp_iload_n (pc := 7) 2 dX6_row_7 rfl rfl ?_
    refine wp_iconst (pc := 8) (4) dX6_row_8 (by decide) ?_
    refine wc_S_II (pc := 9) dX6_row_9 lkX6_55 (by decide) (Nat.le_of_ble_eq_true rfl) ?_
    refine c_X6_upTo ?_
    refine wp_ifeqB (pc := 12) 24 dX6_row_12 (by decide) (fun c_12 => ?_) (fun c_12 => ?_)
    · refine wp_aload_n (pc := 24) 0 dX6_row_24 rfl rfl ?_
      refine wp_bipush (pc := 25) (-2) dX6_row_25 (by decide) ?_
      refine wc_V_I (pc := 27) dX6_row_27 lkX6_59 (sm_Rc.o (ci := 5) s0_0 (by decide) (by decide)) (by decide) (Nat.le_of_ble_eq_true rfl) ?_
      refine c_X6_refuse_0 ?_
      refine wp_iretI (pc := 30) dX6_row_30 rfl ?_
      unfold do_row at k
      rw [gat_f (c := (inS (nI i) && (upB y 4 && (upB z 40)))) (and_f2 (and_f1 c_12))] at k
      exact k _ _ _ (hC.bmp (by decide)) (Hi.rf.uI (by decide))
    · obtain ⟨p, hp, rfl⟩ := (i32_le (n := 4) (by decide)).mp (of_decide_eq_true c_12)
      refine wp_iload_n (pc := 15) 3 dX6_row_15 rfl rfl ?_
      refine wp_bipush (pc := 16) (40) dX6_row_16 (by decide) ?_
      refine wc_S_II (pc := 18) dX6_row_18 lkX6_55 (by decide) (Nat.le_of_ble_eq_true rfl) ?_
      refine c_X6_upTo ?_
      refine wp_ifneB (pc := 21) 31 dX6_row_21 (by decide) (fun c_21 => ?_) (fun c_21 => ?_)
      · obtain ⟨m, hm, rfl⟩ := (i32_le (n := 40) (by decide)).mp (of_decide_eq_true c_21)
        refine wp_aload_n (pc := 31) 0 dX6_row_31 rfl rfl ?_
        refine wq_getR (pc := 32) 25 3 dX6_row_32 s0_0 flX6_25 rfl rfl (by decide) (by decide) ?_
        refine wp_iload_n (pc := 35) 1 dX6_row_35 rfl rfl ?_
        refine wp_iload_n (pc := 36) 2 dX6_row_36 rfl rfl ?_
        refine wp_iload_n (pc := 37) 3 dX6_row_37 rfl rfl ?_
        refine wc_V_III (pc := 38) dX6_row_38 lkX6_63 (sm_Rc.o (ci := 2) s0_31 (by decide) (by decide)) (by decide) (Nat.le_of_ble_eq_true rfl) ?_
        refine c_X3_putRow hS ho hi hm (fun I1 J1 hS1 hf1 => ?_)
        refine wp_iconst (pc := 41) (1) dX6_row_41 (by decide) ?_
        refine wp_iretI (pc := 42) dX6_row_42 rfl ?_
        unfold do_row at k
        rw [gat_t (c := (inS (nI i) && (upB (nI p) 4 && (upB (nI m) 40)))) (and_tt c_4 (and_tt c_12 c_21))] at k
        rw [nI_clamp (by omega), nI_clamp (by omega), nI_clamp (by omega)] at k
        exact k _ _ _ (hC.sh hS1 hf1) (Hi.rf.sh hf1)
      · refine wp_aload_n (pc := 24) 0 dX6_row_24 rfl rfl ?_
        refine wp_bipush (pc := 25) (-2) dX6_row_25 (by decide) ?_
        refine wc_V_I (pc := 27) dX6_row_27 lkX6_59 (sm_Rc.o (ci := 5) s0_0 (by decide) (by decide)) (by decide) (Nat.le_of_ble_eq_true rfl) ?_
        refine c_X6_refuse_0 ?_
        refine wp_iretI (pc := 30) dX6_row_30 rfl ?_
        unfold do_row at k
        rw [gat_f (c := (inS (nI i) && (upB (nI p) 4 && (upB z 40)))) (and_f2 (and_f2 c_21))] at k
        exact k _ _ _ (hC.bmp (by decide)) (Hi.rf.uI (by decide))
theorem or_ff {a b : Bool} (h1 : a = false) (h2 : b = false) : (a || b) = false := by rw [h1, h2]; rfl
theorem or_t1 {a b : Bool} (h1 : a = true) : (a || b) = true := by rw [h1]; rfl
theorem or_t2 {a b : Bool} (h2 : b = true) : (a || b) = true := by rw [h2]; exact Bool.or_true _
def do_show (s : Sg) (x y : Int32) : Int32 × Sg := gat 0 (inS x && (decide (y = -1) || isRg s y)) (1, stS s (pu (sgh s) x.toNatClampNeg (if y = -1 then none else some (10 + y.toNatClampNeg))) (sgs s) (sge s)) s
theorem c_X6_show {d : Nat} {F I : Nat → Nat → Int32} {J : Nat → Nat → Int64} {Q : Option Value → sm_H → Prop} {x y : Int32} {s : Sg} (hC : CR s F I J) (ok : Ok s) (k : ∀ F1 I1 J1, CR (do_show s x y).2 F1 I1 J1 → Hi F I J F1 I1 J1 → Q (some (.int (do_show s x y).1)) (S0, F1, I1, J1)) : Wp mX6_show (d + 2) 0 0 0 (sm_ini [.ref 0, .int x, .int y] 3) [] (S0, F, I, J) Q := by
  show Wp _ _ _ _ _ [.ref 0, .int x, .int y] _ _ _
  have ht : isT 1 := Or.inl rfl
  have hw := ok.1
  have hT := hC.1
  have hn := hw.n
  have hbn := bn_1024 hw
  have hh1 := hw.wth
  have hh2 := hw.crk
  have hh3 := hw.year
  have hS := hC.2.2.2.2.2
  have ho := ok.2.2.2.2.1
  have hP := hC.2.2.2.2.1
  have hz := ok.2.2.1
  refine wp_iload_n (pc := 0) 1 dX6_show_0 rfl rfl ?_
  refine wc_S_I (pc := 1) dX6_show_1 lkX6_51 (by decide) (Nat.le_of_ble_eq_true rfl) ?_
  refine c_X3_isShelf ?_
  refine wp_ifeqB (pc := 4) 26 dX6_show_4 (by decide) (fun c_4 => ?_) (fun c_4 => ?_)
  · refine wp_aload_n (pc := 26) 0 dX6_show_26 rfl rfl ?_
    refine wp_bipush (pc := 27) (-2) dX6_show_27 (by decide) ?_
    refine wc_V_I (pc := 29) dX6_show_29 lkX6_59 (sm_Rc.o (ci := 5) s0_0 (by decide) (by decide)) (by decide) (Nat.le_of_ble_eq_true rfl) ?_
    refine c_X6_refuse_0 ?_
    refine wp_iretI (pc := 32) dX6_show_32 rfl ?_
    unfold do_show at k
    rw [gat_f (c := (inS x && (decide (y = -1) || isRg s y))) (and_f1 c_4)] at k
    exact k _ _ _ (hC.bmp (by decide)) (Hi.rf.uI (by decide))
  · obtain ⟨i, hi, rfl⟩ := (i32_in (n := 8) (by decide)).mp (of_decide_eq_true c_4)
    refine wp_iload_n (pc := 7) 2 dX6_show_7 rfl rfl ?_
    refine wp_iconst (pc := 8) (-1) dX6_show_8 (by decide) ?_
    refine wp_icmp_eq (pc := 9) 33 dX6_show_9 (by decide) (fun c_9 => ?_) (fun c_9 => ?_)
    · refine wp_aload_n (pc := 33) 0 dX6_show_33 rfl rfl ?_
      refine wq_getR (pc := 34) 25 3 dX6_show_34 s0_0 flX6_25 rfl rfl (by decide) (by decide) ?_
      refine wp_iload_n (pc := 37) 1 dX6_show_37 rfl rfl ?_
      refine wp_iload_n (pc := 38) 2 dX6_show_38 rfl rfl ?_
      refine wc_V_II (pc := 39) dX6_show_39 lkX6_107 (sm_Rc.o (ci := 2) s0_31 (by decide) (by decide)) (by decide) (Nat.le_of_ble_eq_true rfl) ?_
      rw [c_9]
      refine c_X3_putRinger_n hS ho hi ?_
      refine wp_iconst (pc := 42) (1) dX6_show_42 (by decide) ?_
      refine wp_iretI (pc := 43) dX6_show_43 rfl ?_
      unfold do_show at k
      rw [gat_t (c := (inS (nI i) && (decide (y = -1) || isRg s y))) (and_tt c_4 (or_t1 (decide_eq_true c_9))), if_pos c_9, nI_clamp (by omega)] at k
      exact k _ _ _ (hC.sh (hS.uh i none) (ShF.rf.I (Or.inl rfl))) (Hi.rf.uI (by decide))
    · refine wp_aload_n (pc := 12) 0 dX6_show_12 rfl rfl ?_
      refine wq_getR (pc := 13) 10 0 dX6_show_13 s0_0 flX6_10 rfl rfl (by decide) (by decide) ?_
      refine wq_getR (pc := 16) 98 10 dX6_show_16 s0_1 flX6_98 rfl rfl (by decide) (by decide) ?_
      refine wp_iload_n (pc := 19) 2 dX6_show_19 rfl rfl ?_
      refine wc_V_I (pc := 20) dX6_show_20 lkX6_102 (sm_Rc.o (ci := 0) s0_6 (by decide) (by decide)) (by decide) (Nat.le_of_ble_eq_true rfl) ?_
      refine c_X0_isRinger ht hw hT ?_
      refine wp_ifneB (pc := 23) 33 dX6_show_23 (by decide) (fun c_23 => ?_) (fun c_23 => ?_)
      · have hc6 := hw.c
        obtain ⟨r, hr0, rfl⟩ := (i32_in (by omega)).mp (of_decide_eq_true c_23)
        have hr : r < 6 := by omega
        refine wp_aload_n (pc := 33) 0 dX6_show_33 rfl rfl ?_
        refine wq_getR (pc := 34) 25 3 dX6_show_34 s0_0 flX6_25 rfl rfl (by decide) (by decide) ?_
        refine wp_iload_n (pc := 37) 1 dX6_show_37 rfl rfl ?_
        refine wp_iload_n (pc := 38) 2 dX6_show_38 rfl rfl ?_
        refine wc_V_II (pc := 39) dX6_show_39 lkX6_107 (sm_Rc.o (ci := 2) s0_31 (by decide) (by decide)) (by decide) (Nat.le_of_ble_eq_true rfl) ?_
        refine c_X3_putRinger_s hS ho hi (by omega) ?_
        refine wp_iconst (pc := 42) (1) dX6_show_42 (by decide) ?_
        refine wp_iretI (pc := 43) dX6_show_43 rfl ?_
        unfold do_show at k
        rw [gat_t (c := (inS (nI i) && (decide (nI r = -1) || isRg s (nI r)))) (and_tt c_4 (or_t2 c_23)), if_neg c_9, nI_clamp (by omega), nI_clamp (by omega)] at k
        exact k _ _ _ (hC.sh (hS.uh i (some (10 + r))) (ShF.rf.I (Or.inl rfl))) (Hi.rf.uI (by decide))
      · refine wp_aload_n (pc := 26) 0 dX6_show_26 rfl rfl ?_
        refine wp_bipush (pc := 27) (-2) dX6_show_27 (by decide) ?_
        refine wc_V_I (pc := 29) dX6_show_29 lkX6_59 (sm_Rc.o (ci := 5) s0_0 (by decide) (by decide)) (by decide) (Nat.le_of_ble_eq_true rfl) ?_
        refine c_X6_refuse_0 ?_
        refine wp_iretI (pc := 32) dX6_show_32 rfl ?_
        unfold do_show at k
        rw [gat_f (c := (inS (nI i) && (decide (y = -1) || isRg s y))) (and_f2 (or_ff (decide_eq_false c_9) c_23))] at k
        exact k _ _ _ (hC.bmp (by decide)) (Hi.rf.uI (by decide))
def do_feed (s : Sg) (x : Int32) : Int32 × Sg := gat 0 (upB x 255) (gat 4 (decide (sgz s < 250)) (nI (sgz s + 1), stT s (sgz s + 1) (pu (sgt s) (sgz s) x.toNatClampNeg)) s) s
theorem c_X6_feed {d : Nat} {F I : Nat → Nat → Int32} {J : Nat → Nat → Int64} {Q : Option Value → sm_H → Prop} {x : Int32} {s : Sg} (hC : CR s F I J) (ok : Ok s) (k : ∀ F1 I1 J1, CR (do_feed s x).2 F1 I1 J1 → Hi F I J F1 I1 J1 → Q (some (.int (do_feed s x).1)) (S0, F1, I1, J1)) : Wp mX6_feed (d + 2) 0 0 0 (sm_ini [.ref 0, .int x] 2) [] (S0, F, I, J) Q := by
  show Wp _ _ _ _ _ [.ref 0, .int x] _ _ _
  have ht : isT 1 := Or.inl rfl
  have hw := ok.1
  have hT := hC.1
  have hn := hw.n
  have hbn := bn_1024 hw
  have hh1 := hw.wth
  have hh2 := hw.crk
  have hh3 := hw.year
  have hS := hC.2.2.2.2.2
  have ho := ok.2.2.2.2.1
  have hP := hC.2.2.2.2.1
  have hz := ok.2.2.1
  refine wp_iload_n (pc := 0) 1 dX6_feed_0 rfl rfl ?_
  refine wp_sipush (pc := 1) (255) dX6_feed_1 (by decide) ?_
  refine wc_S_II (pc := 4) dX6_feed_4 lkX6_55 (by decide) (Nat.le_of_ble_eq_true rfl) ?_
  refine c_X6_upTo ?_
  refine wp_ifneB (pc := 7) 17 dX6_feed_7 (by decide) (fun c_7 => ?_) (fun c_7 => ?_)
  · obtain ⟨l, hl, rfl⟩ := (i32_le (n := 255) (by decide)).mp (of_decide_eq_true c_7)
    refine wp_aload_n (pc := 17) 0 dX6_feed_17 rfl rfl ?_
    refine wq_getR (pc := 18) 32 4 dX6_feed_18 s0_0 flX6_32 rfl rfl (by decide) (by decide) ?_
    refine wc_V_ (pc := 21) dX6_feed_21 lkX6_174 (sm_Rc.o (ci := 3) s0_35 (by decide) (by decide)) (by decide) (Nat.le_of_ble_eq_true rfl) ?_
    refine c_X4_hasRoom hP hz ?_
    refine wp_ifneB (pc := 24) 34 dX6_feed_24 (by decide) (fun c_24 => ?_) (fun c_24 => ?_)
    · have hrm := of_decide_eq_true c_24
      refine wp_aload_n (pc := 34) 0 dX6_feed_34 rfl rfl ?_
      refine wq_getR (pc := 35) 32 4 dX6_feed_35 s0_0 flX6_32 rfl rfl (by decide) (by decide) ?_
      refine wp_iload_n (pc := 38) 1 dX6_feed_38 rfl rfl ?_
      refine wc_V_I (pc := 39) dX6_feed_39 lkX6_175 (sm_Rc.o (ci := 3) s0_35 (by decide) (by decide)) (by decide) (Nat.le_of_ble_eq_true rfl) ?_
      refine c_X4_add hP hz hrm ?_
      refine wp_iretI (pc := 42) dX6_feed_42 rfl ?_
      unfold do_feed at k
      rw [gat_t (c := (upB (nI l) 255)) c_7] at k
      rw [gat_t (c := (decide (sgz s < 250))) c_24] at k
      rw [nI_clamp (by omega)] at k
      exact k _ _ _ (hC.t ⟨up_eq, fun j hj => by
        by_cases e : j = sgz s
        · subst e; rw [up_eq, pu_eq]
        · rw [up_nj e, pu_ne e]; exact hP.2 j hj⟩ (fun a ha => sm_up_ne ha) (fun a ha => sm_up_ne ha)) ((Hi.rf.uF (by decide)).uI (by decide))
    · refine wp_aload_n (pc := 27) 0 dX6_feed_27 rfl rfl ?_
      refine wp_bipush (pc := 28) (-6) dX6_feed_28 (by decide) ?_
      refine wc_V_I (pc := 30) dX6_feed_30 lkX6_59 (sm_Rc.o (ci := 5) s0_0 (by decide) (by decide)) (by decide) (Nat.le_of_ble_eq_true rfl) ?_
      refine c_X6_refuse_4 ?_
      refine wp_iretI (pc := 33) dX6_feed_33 rfl ?_
      unfold do_feed at k
      rw [gat_t (c := (upB (nI l) 255)) c_7] at k
      rw [gat_f (c := (decide (sgz s < 250))) c_24] at k
      exact k _ _ _ (hC.bmp (by decide)) (Hi.rf.uI (by decide))
  · refine wp_aload_n (pc := 10) 0 dX6_feed_10 rfl rfl ?_
    refine wp_bipush (pc := 11) (-2) dX6_feed_11 (by decide) ?_
    refine wc_V_I (pc := 13) dX6_feed_13 lkX6_59 (sm_Rc.o (ci := 5) s0_0 (by decide) (by decide)) (by decide) (Nat.le_of_ble_eq_true rfl) ?_
    refine c_X6_refuse_0 ?_
    refine wp_iretI (pc := 16) dX6_feed_16 rfl ?_
    unfold do_feed at k
    rw [gat_f (c := (upB x 255)) c_7] at k
    exact k _ _ _ (hC.bmp (by decide)) (Hi.rf.uI (by decide))
def do_wipe (s : Sg) : Int32 × Sg := (nI (sgz s), stT s 0 (sgt s))
theorem c_X6_wipe {d : Nat} {F I : Nat → Nat → Int32} {J : Nat → Nat → Int64} {Q : Option Value → sm_H → Prop} {s : Sg} (hC : CR s F I J) (ok : Ok s) (k : ∀ F1 I1 J1, CR (do_wipe s).2 F1 I1 J1 → Hi F I J F1 I1 J1 → Q (some (.int (do_wipe s).1)) (S0, F1, I1, J1)) : Wp mX6_wipe (d + 1) 0 0 0 (sm_ini [.ref 0] 1) [] (S0, F, I, J) Q := by
  show Wp _ _ _ _ _ [.ref 0] _ _ _
  have ht : isT 1 := Or.inl rfl
  have hw := ok.1
  have hT := hC.1
  have hn := hw.n
  have hbn := bn_1024 hw
  have hh1 := hw.wth
  have hh2 := hw.crk
  have hh3 := hw.year
  have hS := hC.2.2.2.2.2
  have ho := ok.2.2.2.2.1
  have hP := hC.2.2.2.2.1
  have hz := ok.2.2.1
  refine wp_aload_n (pc := 0) 0 dX6_wipe_0 rfl rfl ?_
  refine wq_getR (pc := 1) 32 4 dX6_wipe_1 s0_0 flX6_32 rfl rfl (by decide) (by decide) ?_
  refine wc_V_ (pc := 4) dX6_wipe_4 lkX6_178 (sm_Rc.o (ci := 3) s0_35 (by decide) (by decide)) (by decide) (Nat.le_of_ble_eq_true rfl) ?_
  refine c_X4_empty hP hz ?_
  refine wp_iretI (pc := 7) dX6_wipe_7 rfl ?_
  unfold do_wipe at k
  exact k _ _ _ (hC.t ⟨up_eq, hP.2⟩ (fun a ha => sm_up_ne ha) (fun _ _ => rfl)) (Hi.rf.uF (by decide))
def do_element (s : Sg) (x y : Int32) : Int64 := if inS x = true ∧ ¬ y < 0 then elA (sgh s) (sgs s) (sge s) x.toNatClampNeg y.toNatClampNeg else 0
theorem c_X6_element {d : Nat} {F I : Nat → Nat → Int32} {J : Nat → Nat → Int64} {Q : Option Value → sm_H → Prop} {x y : Int32} {s : Sg} (hC : CR s F I J) (ok : Ok s) (k : Q (some (.long (do_element s x y))) (S0, F, I, J)) : Wp mX6_element (d + 6) 0 0 0 (sm_ini [.ref 0, .int x, .int y] 3) [] (S0, F, I, J) Q := by
  show Wp _ _ _ _ _ [.ref 0, .int x, .int y] _ _ _
  refine wp_aload_n (pc := 0) 0 dX6_element_0 rfl rfl ?_
  refine wq_getR (pc := 1) 25 3 dX6_element_1 s0_0 flX6_25 rfl rfl (by decide) (by decide) ?_
  refine wp_iload_n (pc := 4) 1 dX6_element_4 rfl rfl ?_
  refine wp_iload_n (pc := 5) 2 dX6_element_5 rfl rfl ?_
  have hS := hC.2.2.2.2.2
  have ho := ok.2.2.2.2.1
  unfold do_element at k
  by_cases hy : y < 0
  · rw [if_neg (fun z => z.2 hy)] at k
    refine wc_V_II (pc := 6) dX6_element_6 lkX6_94 (sm_Rc.o (ci := 2) s0_31 (by decide) (by decide)) (by decide) (Nat.le_of_ble_eq_true rfl) ?_
    refine c_X3_elementAt_n hy ?_
    refine wp_lret (pc := 9) dX6_element_9 rfl ?_
    exact k
  · by_cases hx : inS x = true
    · rw [if_pos ⟨hx, hy⟩] at k
      obtain ⟨i, hi, rfl⟩ := (i32_in (n := 8) (by decide)).mp (of_decide_eq_true hx)
      obtain ⟨j, hj, rfl⟩ := nI_of hy
      rw [nI_clamp (by omega), nI_clamp (by omega)] at k
      refine wc_V_II (pc := 6) dX6_element_6 lkX6_94 (sm_Rc.o (ci := 2) s0_31 (by decide) (by decide)) (by decide) (Nat.le_of_ble_eq_true rfl) ?_
      refine c_X3_elementAt_i hS ho hi hj ?_
      refine wp_lret (pc := 9) dX6_element_9 rfl ?_
      exact k
    · rw [if_neg (fun z => hx z.1)] at k
      refine wc_V_II (pc := 6) dX6_element_6 lkX6_94 (sm_Rc.o (ci := 2) s0_31 (by decide) (by decide)) (by decide) (Nat.le_of_ble_eq_true rfl) ?_
      refine c_X3_elementAt_o (fun z => hx (decide_eq_true z)) ?_
      refine wp_lret (pc := 9) dX6_element_9 rfl ?_
      exact k
