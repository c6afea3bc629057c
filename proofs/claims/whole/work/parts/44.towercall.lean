/-! ===== a tower by its tape; refusals of a row ===== -/
theorem Hi.frd {t : Nat} {F I F1 I1 F2 I2 : Nat → Nat → Int32} {J J1 : Nat → Nat → Int64} (h : Hi F I J F1 I1 J1) (ht : isT t) (h2 : Frd t F1 I1 F2 I2) : Hi F I J F2 I2 J1 := by
  have hh := ht.hi
  exact fun a ha => ⟨((h2 a (by omega)).1 (by omega)).trans (h a ha).1, ((h2 a (by omega)).2 (by omega)).trans (h a ha).2.1, (h a ha).2.2⟩
def do_tower (s : Sg) : Int32 × Sg := match (twU (sgz s) (sgt s) 250 (sgf s) (tks (sgz s) (sgt s) 0) 0).1 with
  | none => (twO (twU (sgz s) (sgt s) 250 (sgf s) (tks (sgz s) (sgt s) 0) 0), stF (stT s 0 (sgt s)) (twU (sgz s) (sgt s) 250 (sgf s) (tks (sgz s) (sgt s) 0) 0).2.1)
  | some q => (-20 - nI q, stR (stT s 0 (sgt s)) 0)
theorem do_tower_n {s : Sg} (h : (twU (sgz s) (sgt s) 250 (sgf s) (tks (sgz s) (sgt s) 0) 0).1 = none) : do_tower s = (twO (twU (sgz s) (sgt s) 250 (sgf s) (tks (sgz s) (sgt s) 0) 0), stF (stT s 0 (sgt s)) (twU (sgz s) (sgt s) 250 (sgf s) (tks (sgz s) (sgt s) 0) 0).2.1) := by unfold do_tower; rw [h]
theorem do_tower_s {s : Sg} {q : Nat} (h : (twU (sgz s) (sgt s) 250 (sgf s) (tks (sgz s) (sgt s) 0) 0).1 = some q) : do_tower s = (-20 - nI q, stR (stT s 0 (sgt s)) 0) := by unfold do_tower; rw [h]
theorem twU_q {sz : Nat} {tp : Nat → Nat} : ∀ {k : Nat} {f : rw_} {q n x : Nat}, WF f → q ≤ sz → (twU sz tp k f q n).1 = some x → x ≤ sz
  | 0, f, q, n, x, _, hq, h => by cases h; exact hq
  | k + 1, f, q, n, x, hw, hq, h => by
    have hok := stm_ok (tp := tp) hw hq
    rw [twU] at h
    split at h
    · cases h; exact hok.2
    · split at h
      · cases h
      · split at h
        · exact twU_q hok.1 (nxk_le hok.2) h
        · cases h; exact hok.2
theorem c_X6_tower {d : Nat} {F I : Nat → Nat → Int32} {J : Nat → Nat → Int64} {Q : Option Value → sm_H → Prop} {s : Sg} (hC : CR s F I J) (ok : Ok s) (k : ∀ F1 I1 J1, CR (do_tower s).2 F1 I1 J1 → Hi F I J F1 I1 J1 → Q (some (.int (do_tower s).1)) (S0, F1, I1, J1)) : Wp mX6_tower (d + 9) 0 0 0 (sm_ini [.ref 0] 2) [] (S0, F, I, J) Q := by
  show Wp _ _ _ _ _ [.ref 0, .null] _ _ _
  have ht : isT 1 := Or.inl rfl
  have hw := ok.1
  have hT := hC.1
  have hn := hw.n
  have hbn := bn_1024 hw
  have hh1 := hw.wth
  have hh2 := hw.crk
  have hh3 := hw.year
  have hS := hC.2.2.2.2.2
  have ho := ok.2.2.2.2.1
  have hP := hC.2.2.2.2.1
  have hz := ok.2.2.1
  refine wp_aload_n (pc := 0) 0 dX6_tower_0 rfl rfl ?_
  refine wq_getR (pc := 1) 19 2 dX6_tower_1 s0_0 flX6_19 rfl rfl (by decide) (by decide) ?_
  refine wp_aload_n (pc := 4) 0 dX6_tower_4 rfl rfl ?_
  refine wq_getR (pc := 5) 10 0 dX6_tower_5 s0_0 flX6_10 rfl rfl (by decide) (by decide) ?_
  refine wc_V_R (pc := 8) dX6_tower_8 lkX6_182 (sm_Rc.o (ci := 4) s0_21 (by decide) (by decide)) (by decide) (Nat.le_of_ble_eq_true rfl) ?_
  refine c_X5_takeFrom (t := 21) (u := 1) (Or.inr (Or.inr rfl) : isT 21) ht (Or.inr (by decide)) hT (fun F1 I1 hT1 hf1 => ?_)
  have hC1 : CR s F1 I1 J := hC.scr (fun a ha => (hf1 a (by omega)).1) (fun a ha => (hf1 a (by omega)).2)
  refine wp_aload_n (pc := 11) 0 dX6_tower_11 rfl rfl ?_
  refine wq_getR (pc := 12) 39 5 dX6_tower_12 s0_0 flX6_39 rfl rfl (by decide) (by decide) ?_
  refine wp_aload_n (pc := 15) 0 dX6_tower_15 rfl rfl ?_
  refine wq_getR (pc := 16) 32 4 dX6_tower_16 s0_0 flX6_32 rfl rfl (by decide) (by decide) ?_
  refine wp_aload_n (pc := 19) 0 dX6_tower_19 rfl rfl ?_
  refine wq_getR (pc := 20) 19 2 dX6_tower_20 s0_0 flX6_19 rfl rfl (by decide) (by decide) ?_
  refine wc_V_RR (pc := 23) dX6_tower_23 lkX6_186 (sm_Rc.o (ci := 1) s0_37 (by decide) (by decide)) (by decide) (Nat.le_of_ble_eq_true rfl) ?_
  refine c_X2_readTower hC1.2.2.2.2.1 hz ok.2.2.2.1 (Or.inr (Or.inr rfl) : isT 21) hw hT1 (fun F2 I2 hT2 hg2 hf2 => ?_)
  have hC2 : CR s F2 I2 J := hC1.scr (fun a ha => (hf2 a (by omega)).1 (by omega)) (fun a ha => (hf2 a (by omega)).2 (by omega))
  refine wp_istore_n (pc := 26) 1 dX6_tower_26 rfl (by decide) rfl ?_
  refine wp_aload_n (pc := 27) 0 dX6_tower_27 rfl rfl ?_
  refine wq_getR (pc := 28) 32 4 dX6_tower_28 s0_0 flX6_32 rfl rfl (by decide) (by decide) ?_
  refine wc_V_ (pc := 31) dX6_tower_31 lkX6_178 (sm_Rc.o (ci := 3) s0_35 (by decide) (by decide)) (by decide) (Nat.le_of_ble_eq_true rfl) ?_
  refine c_X4_empty hC2.2.2.2.2.1 hz ?_
  refine wp_pop (pc := 34) dX6_tower_34 rfl ?_
  refine wp_aload_n (pc := 35) 0 dX6_tower_35 rfl rfl ?_
  refine wq_getR (pc := 36) 39 5 dX6_tower_36 s0_0 flX6_39 rfl rfl (by decide) (by decide) ?_
  have hC3 : CR (stT s 0 (sgt s)) (sm_up F2 35 0 0) I2 J := hC2.t ⟨up_eq, hC2.2.2.2.2.1.2⟩ (fun a ha => sm_up_ne ha) (fun _ _ => rfl)
  rcases hr : (twU (sgz s) (sgt s) 250 (sgf s) (tks (sgz s) (sgt s) 0) 0).1 with _ | q
  · refine wq_getI (pc := 39) 190 0 dX6_tower_39 s0_37 flX6_190 rfl (by decide) ?_
    refine wp_int ((up_nk (by decide)).trans (hg2.trans (by rw [hr]; rfl)) : _ = (-1 : Int32)) ?_
    refine wp_iconst (pc := 42) (-1) dX6_tower_42 (by decide) ?_
    refine wp_icmp_eq (pc := 43) 64 dX6_tower_43 (by decide) (fun c_43 => ?_) (fun c_43 => ?_)
    · refine wp_aload_n (pc := 64) 0 dX6_tower_64 rfl rfl ?_
      refine wq_getR (pc := 65) 10 0 dX6_tower_65 s0_0 flX6_10 rfl rfl (by decide) (by decide) ?_
      refine wp_aload_n (pc := 68) 0 dX6_tower_68 rfl rfl ?_
      refine wq_getR (pc := 69) 19 2 dX6_tower_69 s0_0 flX6_19 rfl rfl (by decide) (by decide) ?_
      refine wc_V_R (pc := 72) dX6_tower_72 lkX6_182 (sm_Rc.o (ci := 4) s0_1 (by decide) (by decide)) (by decide) (Nat.le_of_ble_eq_true rfl) ?_
      refine c_X5_takeFrom (t := 1) (u := 21) ht (Or.inr (Or.inr rfl) : isT 21) (Or.inl (by decide)) (hT2.frame (fun a ha => sm_up_ne (by omega)) (fun _ _ _ => rfl)) (fun F3 I3 hT3 hf3 => ?_)
      refine wp_iload_n (pc := 75) 1 dX6_tower_75 rfl rfl ?_
      refine wp_iretI (pc := 76) dX6_tower_76 rfl ?_
      rw [do_tower_n hr] at k
      exact k _ _ _ (hC3.f hT3 hf3) ((((Hi.rf.fr (Or.inr (Or.inr rfl) : isT 21) hf1).frd (Or.inr (Or.inr rfl) : isT 21) hf2).uF (by decide)).fr ht hf3)
    · exact absurd rfl c_43
  · have hq := twU_q hw (tks_le (Nat.zero_le (sgz s))).2 hr
    refine wq_getI (pc := 39) 190 0 dX6_tower_39 s0_37 flX6_190 rfl (by decide) ?_
    refine wp_int ((up_nk (by decide)).trans (hg2.trans (by rw [hr]; rfl)) : _ = nI q) ?_
    refine wp_iconst (pc := 42) (-1) dX6_tower_42 (by decide) ?_
    refine wp_icmp_eq (pc := 43) 64 dX6_tower_43 (by decide) (fun c_43 => ?_) (fun c_43 => ?_)
    · exact absurd c_43 (m1_ne (by omega))
    · refine wp_aload_n (pc := 46) 0 dX6_tower_46 rfl rfl ?_
      refine wp_bipush (pc := 47) (-2) dX6_tower_47 (by decide) ?_
      refine wc_V_I (pc := 49) dX6_tower_49 lkX6_59 (sm_Rc.o (ci := 5) s0_0 (by decide) (by decide)) (by decide) (Nat.le_of_ble_eq_true rfl) ?_
      refine c_X6_refuse_0 ?_
      refine wp_pop (pc := 52) dX6_tower_52 rfl ?_
      refine wp_bipush (pc := 53) (-20) dX6_tower_53 (by decide) ?_
      refine wp_aload_n (pc := 55) 0 dX6_tower_55 rfl rfl ?_
      refine wq_getR (pc := 56) 39 5 dX6_tower_56 s0_0 flX6_39 rfl rfl (by decide) (by decide) ?_
      refine wq_getI (pc := 59) 190 0 dX6_tower_59 s0_37 flX6_190 rfl (by decide) ?_
      refine wp_int ((up_nk (by decide)).trans (hg2.trans (by rw [hr]; rfl)) : _ = nI q) ?_
      refine wp_isub (pc := 62) dX6_tower_62 ?_
      refine wp_iretI (pc := 63) dX6_tower_63 rfl ?_
      rw [do_tower_s hr] at k
      exact k _ _ _ (hC3.bmp (by decide)) ((((Hi.rf.fr (Or.inr (Or.inr rfl) : isT 21) hf1).frd (Or.inr (Or.inr rfl) : isT 21) hf2).uF (by decide)).uI (by decide))
theorem c_X6_refusalOfRow_n {d : Nat} {F I : Nat → Nat → Int32} {J : Nat → Nat → Int64} {Q : Option Value → sm_H → Prop} {s : Sg} (hC : CR s F I J) (ok : Ok s) {i : Nat} (hi : i < 8) (e : sgh s i = none) (k : Q (some (.int (-4))) (S0, F, I, J)) : Wp mX6_refusalOfRow (d + 4) 0 0 0 (sm_ini [.ref 0, .int (nI i)] 2) [] (S0, F, I, J) Q := by
  show Wp _ _ _ _ _ [.ref 0, .int (nI i)] _ _ _
  have hS := hC.2.2.2.2.2
  have ho := ok.2.2.2.2.1
  have hP := hC.2.2.2.2.1
  have hz := ok.2.2.1
  refine wp_iload_n (pc := 0) 1 dX6_refusalOfRow_0 rfl rfl ?_
  refine wc_S_I (pc := 1) dX6_refusalOfRow_1 lkX6_51 (by decide) (Nat.le_of_ble_eq_true rfl) ?_
  refine c_X3_isShelf_i hi ?_
  refine wp_ifne (pc := 4) 10 dX6_refusalOfRow_4 (by decide) (fun c_4 => ?_) (fun c_4 => ?_)
  · refine wp_aload_n (pc := 10) 0 dX6_refusalOfRow_10 rfl rfl ?_
    refine wq_getR (pc := 11) 25 3 dX6_refusalOfRow_11 s0_0 flX6_25 rfl rfl (by decide) (by decide) ?_
    refine wp_iload_n (pc := 14) 1 dX6_refusalOfRow_14 rfl rfl ?_
    refine wc_V_I (pc := 15) dX6_refusalOfRow_15 lkX6_77 (sm_Rc.o (ci := 2) s0_31 (by decide) (by decide)) (by decide) (Nat.le_of_ble_eq_true rfl) ?_
    refine c_X3_hasRinger_i hS ho hi ?_
    refine wp_int (y := 0) (by rw [show hgr (sgh s i) = false by rw [e]; rfl]; rfl) ?_
    refine wp_ifeq (pc := 18) 24 dX6_refusalOfRow_18 (by decide) (fun c_18 => ?_) (fun c_18 => ?_)
    · refine wp_aload_n (pc := 24) 0 dX6_refusalOfRow_24 rfl rfl ?_
      refine wq_getR (pc := 25) 25 3 dX6_refusalOfRow_25 s0_0 flX6_25 rfl rfl (by decide) (by decide) ?_
      refine wp_iload_n (pc := 28) 1 dX6_refusalOfRow_28 rfl rfl ?_
      refine wc_V_I (pc := 29) dX6_refusalOfRow_29 lkX6_80 (sm_Rc.o (ci := 2) s0_31 (by decide) (by decide)) (by decide) (Nat.le_of_ble_eq_true rfl) ?_
      refine c_X3_hasRow_i hS ho hi ?_
      refine wp_int (y := 0) (by rw [show hrow (sgh s i) = false by rw [e]; rfl]; rfl) ?_
      refine wp_ifeq (pc := 32) 39 dX6_refusalOfRow_32 (by decide) (fun c_32 => ?_) (fun c_32 => ?_)
      · refine wp_bipush (pc := 39) (-4) dX6_refusalOfRow_39 (by decide) ?_
        refine wp_iretI (pc := 41) dX6_refusalOfRow_41 rfl ?_
        exact k
      · exact absurd (by decide) c_32
    · exact absurd (by decide) c_18
  · exact absurd c_4 (by decide)
theorem c_X6_refusalOfRow_r {d : Nat} {F I : Nat → Nat → Int32} {J : Nat → Nat → Int64} {Q : Option Value → sm_H → Prop} {s : Sg} (hC : CR s F I J) (ok : Ok s) {i : Nat} (hi : i < 8) {p : Nat} (e : sgh s i = some p) (hk : p ≤ 4) (k : Q (some (.int (0))) (S0, F, I, J)) : Wp mX6_refusalOfRow (d + 4) 0 0 0 (sm_ini [.ref 0, .int (nI i)] 2) [] (S0, F, I, J) Q := by
  show Wp _ _ _ _ _ [.ref 0, .int (nI i)] _ _ _
  have hS := hC.2.2.2.2.2
  have ho := ok.2.2.2.2.1
  have hP := hC.2.2.2.2.1
  have hz := ok.2.2.1
  refine wp_iload_n (pc := 0) 1 dX6_refusalOfRow_0 rfl rfl ?_
  refine wc_S_I (pc := 1) dX6_refusalOfRow_1 lkX6_51 (by decide) (Nat.le_of_ble_eq_true rfl) ?_
  refine c_X3_isShelf_i hi ?_
  refine wp_ifne (pc := 4) 10 dX6_refusalOfRow_4 (by decide) (fun c_4 => ?_) (fun c_4 => ?_)
  · refine wp_aload_n (pc := 10) 0 dX6_refusalOfRow_10 rfl rfl ?_
    refine wq_getR (pc := 11) 25 3 dX6_refusalOfRow_11 s0_0 flX6_25 rfl rfl (by decide) (by decide) ?_
    refine wp_iload_n (pc := 14) 1 dX6_refusalOfRow_14 rfl rfl ?_
    refine wc_V_I (pc := 15) dX6_refusalOfRow_15 lkX6_77 (sm_Rc.o (ci := 2) s0_31 (by decide) (by decide)) (by decide) (Nat.le_of_ble_eq_true rfl) ?_
    refine c_X3_hasRinger_i hS ho hi ?_
    refine wp_int (y := 0) (by rw [show hgr (sgh s i) = false by rw [e]; exact decide_eq_false (by omega)]; rfl) ?_
    refine wp_ifeq (pc := 18) 24 dX6_refusalOfRow_18 (by decide) (fun c_18 => ?_) (fun c_18 => ?_)
    · refine wp_aload_n (pc := 24) 0 dX6_refusalOfRow_24 rfl rfl ?_
      refine wq_getR (pc := 25) 25 3 dX6_refusalOfRow_25 s0_0 flX6_25 rfl rfl (by decide) (by decide) ?_
      refine wp_iload_n (pc := 28) 1 dX6_refusalOfRow_28 rfl rfl ?_
      refine wc_V_I (pc := 29) dX6_refusalOfRow_29 lkX6_80 (sm_Rc.o (ci := 2) s0_31 (by decide) (by decide)) (by decide) (Nat.le_of_ble_eq_true rfl) ?_
      refine c_X3_hasRow_i hS ho hi ?_
      refine wp_int (y := 1) (by rw [show hrow (sgh s i) = true by rw [e]; exact decide_eq_true hk]; rfl) ?_
      refine wp_ifeq (pc := 32) 39 dX6_refusalOfRow_32 (by decide) (fun c_32 => ?_) (fun c_32 => ?_)
      · exact absurd c_32 (by decide)
      · refine wp_iconst (pc := 35) (0) dX6_refusalOfRow_35 (by decide) ?_
        refine wp_goto (pc := 36) 41 dX6_refusalOfRow_36 (by decide) ?_
        refine wp_iretI (pc := 41) dX6_refusalOfRow_41 rfl ?_
        exact k
    · exact absurd (by decide) c_18
  · exact absurd c_4 (by decide)
theorem c_X6_refusalOfRow_g {d : Nat} {F I : Nat → Nat → Int32} {J : Nat → Nat → Int64} {Q : Option Value → sm_H → Prop} {s : Sg} (hC : CR s F I J) (ok : Ok s) {i : Nat} (hi : i < 8) {p : Nat} (e : sgh s i = some p) (hk : 10 ≤ p) (k : Q (some (.int (-3))) (S0, F, I, J)) : Wp mX6_refusalOfRow (d + 4) 0 0 0 (sm_ini [.ref 0, .int (nI i)] 2) [] (S0, F, I, J) Q := by
  show Wp _ _ _ _ _ [.ref 0, .int (nI i)] _ _ _
  have hS := hC.2.2.2.2.2
  have ho := ok.2.2.2.2.1
  have hP := hC.2.2.2.2.1
  have hz := ok.2.2.1
  refine wp_iload_n (pc := 0) 1 dX6_refusalOfRow_0 rfl rfl ?_
  refine wc_S_I (pc := 1) dX6_refusalOfRow_1 lkX6_51 (by decide) (Nat.le_of_ble_eq_true rfl) ?_
  refine c_X3_isShelf_i hi ?_
  refine wp_ifne (pc := 4) 10 dX6_refusalOfRow_4 (by decide) (fun c_4 => ?_) (fun c_4 => ?_)
  · refine wp_aload_n (pc := 10) 0 dX6_refusalOfRow_10 rfl rfl ?_
    refine wq_getR (pc := 11) 25 3 dX6_refusalOfRow_11 s0_0 flX6_25 rfl rfl (by decide) (by decide) ?_
    refine wp_iload_n (pc := 14) 1 dX6_refusalOfRow_14 rfl rfl ?_
    refine wc_V_I (pc := 15) dX6_refusalOfRow_15 lkX6_77 (sm_Rc.o (ci := 2) s0_31 (by decide) (by decide)) (by decide) (Nat.le_of_ble_eq_true rfl) ?_
    refine c_X3_hasRinger_i hS ho hi ?_
    refine wp_int (y := 1) (by rw [show hgr (sgh s i) = true by rw [e]; exact decide_eq_true hk]; rfl) ?_
    refine wp_ifeq (pc := 18) 24 dX6_refusalOfRow_18 (by decide) (fun c_18 => ?_) (fun c_18 => ?_)
    · exact absurd c_18 (by decide)
    · refine wp_bipush (pc := 21) (-3) dX6_refusalOfRow_21 (by decide) ?_
      refine wp_iretI (pc := 23) dX6_refusalOfRow_23 rfl ?_
      exact k
  · exact absurd c_4 (by decide)
theorem c_X6_refusalOfRow_o {d : Nat} {F I : Nat → Nat → Int32} {J : Nat → Nat → Int64} {Q : Option Value → sm_H → Prop} {x : Int32} (hx : ¬ (0 ≤ x ∧ x < 8)) (k : Q (some (.int (-2))) (S0, F, I, J)) : Wp mX6_refusalOfRow (d + 4) 0 0 0 (sm_ini [.ref 0, .int x] 2) [] (S0, F, I, J) Q := by
  show Wp _ _ _ _ _ [.ref 0, .int x] _ _ _
  refine wp_iload_n (pc := 0) 1 dX6_refusalOfRow_0 rfl rfl ?_
  refine wc_S_I (pc := 1) dX6_refusalOfRow_1 lkX6_51 (by decide) (Nat.le_of_ble_eq_true rfl) ?_
  refine c_X3_isShelf_o hx ?_
  refine wp_ifne (pc := 4) 10 dX6_refusalOfRow_4 (by decide) (fun c_4 => ?_) (fun c_4 => ?_)
  · exact absurd (by decide) c_4
  · refine wp_bipush (pc := 7) (-2) dX6_refusalOfRow_7 (by decide) ?_
    refine wp_iretI (pc := 9) dX6_refusalOfRow_9 rfl ?_
    exact k
