/-! ===== told peals, called; elements ===== -/
def do_judge (s : Sg) (x y : Int32) : Int32 × Sg := match pcd s x y with
  | some j => rfz s j
  | none => (eN (plU (elA (sgh s) (sgs s) (sge s) x.toNatClampNeg) y.toNatClampNeg 0 (sgf s)).1, s)
theorem do_judge_s {s : Sg} {x y : Int32} {j : Nat} (h : pcd s x y = some j) : do_judge s x y = rfz s j := by unfold do_judge; rw [h]
theorem do_judge_n {s : Sg} {i n : Nat} (h : pcd s (nI i) (nI n) = none) (hi : i < 8) (hn : n ≤ 40) : do_judge s (nI i) (nI n) = (eN (plU (elA (sgh s) (sgs s) (sge s) i) n 0 (sgf s)).1, s) := by unfold do_judge; rw [h]; simp only; rw [nI_clamp (by omega), nI_clamp (by omega)]
def bhV (g : Option Nat × rw_) (z : Int32) (s : Sg) : Int32 × Sg := match g.1 with
  | some _ => rfz s 3
  | none => (if z = 0 then nI (sta g.2 (bn g.2)) else nI (val g.2 (bn g.2)), s)
def do_behind (s : Sg) (x y z : Int32) : Int32 × Sg := if upB z 1 = true then (match pcd s x y with
  | some j => rfz s j
  | none => bhV (plU (elA (sgh s) (sgs s) (sge s) x.toNatClampNeg) y.toNatClampNeg 0 (sgf s)) z s) else rfz s 0
theorem do_behind_s {s : Sg} {x y z : Int32} {j : Nat} (hz : upB z 1 = true) (h : pcd s x y = some j) : do_behind s x y z = rfz s j := by unfold do_behind; rw [if_pos hz, h]
theorem do_behind_n {s : Sg} {i n : Nat} {z : Int32} (hz : upB z 1 = true) (h : pcd s (nI i) (nI n) = none) (hi : i < 8) (hn : n ≤ 40) : do_behind s (nI i) (nI n) z = bhV (plU (elA (sgh s) (sgs s) (sge s) i) n 0 (sgf s)) z s := by unfold do_behind; rw [if_pos hz, h]; simp only; rw [nI_clamp (by omega), nI_clamp (by omega)]
theorem plU_ok {tl : Nat → Int64} : ∀ {k i : Nat} {g : rw_}, WF g → WF (plU tl k i g).2
  | 0, _, _, h => h
  | k + 1, i, g, h => by
    cases e : okT g (tl i) with
    | false => rw [pl_f e]; exact h
    | true =>
      rw [pl_t e]
      unfold okT at e
      rw [Bool.and_eq_true, decide_eq_true_eq] at e
      obtain ⟨m, hm, hm2⟩ := l2i_n h.n e.1.1 e.1.2
      rw [hm2, nI_clamp (by have := h.n; omega)]
      exact plU_ok (WF_rgT h hm)
theorem c_X6_judge {d : Nat} {F I : Nat → Nat → Int32} {J : Nat → Nat → Int64} {Q : Option Value → sm_H → Prop} {x y : Int32} {s : Sg} (hC : CR s F I J) (ok : Ok s) (k : ∀ F1 I1 J1, CR (do_judge s x y).2 F1 I1 J1 → Hi F I J F1 I1 J1 → Q (some (.int (do_judge s x y).1)) (S0, F1, I1, J1)) : Wp mX6_judge (d + 7) 0 0 0 (sm_ini [.ref 0, .int x, .int y] 4) [] (S0, F, I, J) Q := by
  show Wp _ _ _ _ _ [.ref 0, .int x, .int y, .null] _ _ _
  have ht : isT 1 := Or.inl rfl
  have hw := ok.1
  have hT := hC.1
  have hn := hw.n
  have hbn := bn_1024 hw
  have hh1 := hw.wth
  have hh2 := hw.crk
  have hh3 := hw.year
  have hS := hC.2.2.2.2.2
  have ho := ok.2.2.2.2.1
  have hP := hC.2.2.2.2.1
  have hz := ok.2.2.1
  refine wp_aload_n (pc := 0) 0 dX6_judge_0 rfl rfl ?_
  refine wp_iload_n (pc := 1) 1 dX6_judge_1 rfl rfl ?_
  refine wp_iload_n (pc := 2) 2 dX6_judge_2 rfl rfl ?_
  refine wc_V_II (pc := 3) dX6_judge_3 lkX6_325 (sm_Rc.o (ci := 5) s0_0 (by decide) (by decide)) (by decide) (Nat.le_of_ble_eq_true rfl) ?_
  refine c_X6_refusalOfPeal hC ok ?_
  refine wp_istore_n (pc := 6) 3 dX6_judge_6 rfl (by decide) rfl ?_
  rcases hp : pcd s x y with _ | j
  · obtain ⟨i, n, rfl, rfl, hi, hn40⟩ := pcd_get hp
    rw [do_judge_n hp hi hn40] at k
    refine wp_iload_n (pc := 7) 3 dX6_judge_7 rfl rfl ?_
    refine wp_ifeq (pc := 8) 19 dX6_judge_8 (by decide) (fun c_8 => ?_) (fun c_8 => ?_)
    · refine wp_aload_n (pc := 19) 0 dX6_judge_19 rfl rfl ?_
      refine wp_iload_n (pc := 20) 1 dX6_judge_20 rfl rfl ?_
      refine wp_iload_n (pc := 21) 2 dX6_judge_21 rfl rfl ?_
      refine wc_V_II (pc := 22) dX6_judge_22 lkX6_328 (sm_Rc.o (ci := 5) s0_0 (by decide) (by decide)) (by decide) (Nat.le_of_ble_eq_true rfl) ?_
      refine c_X6_wrongPlace hC ok hi hn40 (fun F1 I1 hT1 hf1 => ?_)
      refine wp_iretI (pc := 25) dX6_judge_25 rfl ?_
      exact k _ _ _ (hC.scr (fun a ha => (hf1 a (by omega)).1) (fun a ha => (hf1 a (by omega)).2)) (Hi.rf.fr (Or.inr (Or.inr rfl) : isT 21) hf1)
    · exact absurd (by decide) c_8
  · have hj := pcd_lt hp
    rcases (show j = 0 ∨ j = 1 ∨ j = 2 by omega) with rfl | rfl | rfl
    · refine wp_iload_n (pc := 7) 3 dX6_judge_7 rfl rfl ?_
      refine wp_ifeq (pc := 8) 19 dX6_judge_8 (by decide) (fun c_8 => ?_) (fun c_8 => ?_)
      · exact absurd c_8 (by decide)
      · refine wp_aload_n (pc := 11) 0 dX6_judge_11 rfl rfl ?_
        refine wp_iload_n (pc := 12) 3 dX6_judge_12 rfl rfl ?_
        refine wc_V_I (pc := 13) dX6_judge_13 lkX6_59 (sm_Rc.o (ci := 5) s0_0 (by decide) (by decide)) (by decide) (Nat.le_of_ble_eq_true rfl) ?_
        refine c_X6_refuse_0 ?_
        refine wp_goto (pc := 16) 25 dX6_judge_16 (by decide) ?_
        refine wp_iretI (pc := 25) dX6_judge_25 rfl ?_
        rw [do_judge_s hp] at k
        exact k _ _ _ (hC.bmp (by decide)) (Hi.rf.uI (by decide))
    · refine wp_iload_n (pc := 7) 3 dX6_judge_7 rfl rfl ?_
      refine wp_ifeq (pc := 8) 19 dX6_judge_8 (by decide) (fun c_8 => ?_) (fun c_8 => ?_)
      · exact absurd c_8 (by decide)
      · refine wp_aload_n (pc := 11) 0 dX6_judge_11 rfl rfl ?_
        refine wp_iload_n (pc := 12) 3 dX6_judge_12 rfl rfl ?_
        refine wc_V_I (pc := 13) dX6_judge_13 lkX6_59 (sm_Rc.o (ci := 5) s0_0 (by decide) (by decide)) (by decide) (Nat.le_of_ble_eq_true rfl) ?_
        refine c_X6_refuse_1 ?_
        refine wp_goto (pc := 16) 25 dX6_judge_16 (by decide) ?_
        refine wp_iretI (pc := 25) dX6_judge_25 rfl ?_
        rw [do_judge_s hp] at k
        exact k _ _ _ (hC.bmp (by decide)) (Hi.rf.uI (by decide))
    · refine wp_iload_n (pc := 7) 3 dX6_judge_7 rfl rfl ?_
      refine wp_ifeq (pc := 8) 19 dX6_judge_8 (by decide) (fun c_8 => ?_) (fun c_8 => ?_)
      · exact absurd c_8 (by decide)
      · refine wp_aload_n (pc := 11) 0 dX6_judge_11 rfl rfl ?_
        refine wp_iload_n (pc := 12) 3 dX6_judge_12 rfl rfl ?_
        refine wc_V_I (pc := 13) dX6_judge_13 lkX6_59 (sm_Rc.o (ci := 5) s0_0 (by decide) (by decide)) (by decide) (Nat.le_of_ble_eq_true rfl) ?_
        refine c_X6_refuse_2 ?_
        refine wp_goto (pc := 16) 25 dX6_judge_16 (by decide) ?_
        refine wp_iretI (pc := 25) dX6_judge_25 rfl ?_
        rw [do_judge_s hp] at k
        exact k _ _ _ (hC.bmp (by decide)) (Hi.rf.uI (by decide))
theorem plU_q {tl : Nat → Int64} : ∀ {k i : Nat} {g : rw_} {q : Nat}, (plU tl k i g).1 = some q → q < i + k
  | 0, _, _, _, h => by cases h
  | k + 1, i, g, q, h => by
    cases e : okT g (tl i) with
    | false => rw [pl_f e] at h; cases h; omega
    | true =>
      rw [pl_t e] at h
      have := plU_q h
      omega
theorem c_X6_behind {d : Nat} {F I : Nat → Nat → Int32} {J : Nat → Nat → Int64} {Q : Option Value → sm_H → Prop} {x y z : Int32} {s : Sg} (hC : CR s F I J) (ok : Ok s) (k : ∀ F1 I1 J1, CR (do_behind s x y z).2 F1 I1 J1 → Hi F I J F1 I1 J1 → Q (some (.int (do_behind s x y z).1)) (S0, F1, I1, J1)) : Wp mX6_behind (d + 7) 0 0 0 (sm_ini [.ref 0, .int x, .int y, .int z] 5) [] (S0, F, I, J) Q := by
  show Wp _ _ _ _ _ [.ref 0, .int x, .int y, .int z, .null] _ _ _
  have ht : isT 1 := Or.inl rfl
  have hw := ok.1
  have hT := hC.1
  have hn := hw.n
  have hbn := bn_1024 hw
  have hh1 := hw.wth
  have hh2 := hw.crk
  have hh3 := hw.year
  have hS := hC.2.2.2.2.2
  have ho := ok.2.2.2.2.1
  have hP := hC.2.2.2.2.1
  have hz := ok.2.2.1
  refine wp_iload_n (pc := 0) 3 dX6_behind_0 rfl rfl ?_
  refine wp_iconst (pc := 1) (1) dX6_behind_1 (by decide) ?_
  refine wc_S_II (pc := 2) dX6_behind_2 lkX6_55 (by decide) (Nat.le_of_ble_eq_true rfl) ?_
  refine c_X6_upTo ?_
  refine wp_ifeqB (pc := 5) 17 dX6_behind_5 (by decide) (fun c_5 => ?_) (fun c_5 => ?_)
  · refine wp_bipush (pc := 17) (-2) dX6_behind_17 (by decide) ?_
    refine wp_istore (pc := 19) 4 dX6_behind_19 (by decide) rfl ?_
    refine wp_iload (pc := 21) 4 dX6_behind_21 rfl ?_
    refine wp_ifeq (pc := 23) 33 dX6_behind_23 (by decide) (fun c_23 => ?_) (fun c_23 => ?_)
    · exact absurd c_23 (by decide)
    · refine wp_aload_n (pc := 26) 0 dX6_behind_26 rfl rfl ?_
      refine wp_iload (pc := 27) 4 dX6_behind_27 rfl ?_
      refine wc_V_I (pc := 29) dX6_behind_29 lkX6_59 (sm_Rc.o (ci := 5) s0_0 (by decide) (by decide)) (by decide) (Nat.le_of_ble_eq_true rfl) ?_
      refine c_X6_refuse_0 ?_
      refine wp_iretI (pc := 32) dX6_behind_32 rfl ?_
      unfold do_behind at k
      rw [if_neg (show ¬ upB z 1 = true from fun y => absurd (c_5.symm.trans y) (by decide))] at k
      exact k _ _ _ (hC.bmp (by decide)) (Hi.rf.uI (by decide))
  · refine wp_aload_n (pc := 8) 0 dX6_behind_8 rfl rfl ?_
    refine wp_iload_n (pc := 9) 1 dX6_behind_9 rfl rfl ?_
    refine wp_iload_n (pc := 10) 2 dX6_behind_10 rfl rfl ?_
    refine wc_V_II (pc := 11) dX6_behind_11 lkX6_325 (sm_Rc.o (ci := 5) s0_0 (by decide) (by decide)) (by decide) (Nat.le_of_ble_eq_true rfl) ?_
    refine c_X6_refusalOfPeal hC ok ?_
    refine wp_goto (pc := 14) 19 dX6_behind_14 (by decide) ?_
    rcases hp : pcd s x y with _ | j
    · obtain ⟨i, n, rfl, rfl, hi, hn40⟩ := pcd_get hp
      rw [do_behind_n c_5 hp hi hn40] at k
      refine wp_istore (pc := 19) 4 dX6_behind_19 (by decide) rfl ?_
      refine wp_iload (pc := 21) 4 dX6_behind_21 rfl ?_
      refine wp_ifeq (pc := 23) 33 dX6_behind_23 (by decide) (fun c_23 => ?_) (fun c_23 => ?_)
      · refine wp_aload_n (pc := 33) 0 dX6_behind_33 rfl rfl ?_
        refine wp_iload_n (pc := 34) 1 dX6_behind_34 rfl rfl ?_
        refine wp_iload_n (pc := 35) 2 dX6_behind_35 rfl rfl ?_
        refine wc_V_II (pc := 36) dX6_behind_36 lkX6_328 (sm_Rc.o (ci := 5) s0_0 (by decide) (by decide)) (by decide) (Nat.le_of_ble_eq_true rfl) ?_
        refine c_X6_wrongPlace hC ok hi hn40 (fun F1 I1 hT1 hf1 => ?_)
        have hwg := plU_ok (tl := elA (sgh s) (sgs s) (sge s) i) (k := n) (i := 0) hw
        unfold bhV at k
        rcases hg : (plU (elA (sgh s) (sgs s) (sge s) i) n 0 (sgf s)).1 with _ | q
        · rw [hg] at k
          have hbg := bn_1024 hwg
          refine wp_iconst (pc := 39) (-1) dX6_behind_39 (by decide) ?_
          refine wp_icmp_eq (pc := 40) 50 dX6_behind_40 (by decide) (fun c_40 => ?_) (fun c_40 => ?_)
          · refine wp_iload_n (pc := 50) 3 dX6_behind_50 rfl rfl ?_
            refine wp_ifne (pc := 51) 71 dX6_behind_51 (by decide) (fun c_51 => ?_) (fun c_51 => ?_)
            · refine wp_aload_n (pc := 71) 0 dX6_behind_71 rfl rfl ?_
              refine wq_getR (pc := 72) 19 2 dX6_behind_72 s0_0 flX6_19 rfl rfl (by decide) (by decide) ?_
              refine wc_V_ (pc := 75) dX6_behind_75 lkX6_208 (sm_Rc.o (ci := 4) s0_21 (by decide) (by decide)) (by decide) (Nat.le_of_ble_eq_true rfl) ?_
              refine c_X5_valueNow (Or.inr (Or.inr rfl) : isT 21) hwg hT1 ?_
              refine wp_iretI (pc := 78) dX6_behind_78 rfl ?_
              rw [if_neg c_51] at k
              exact k _ _ _ (hC.scr (fun a ha => (hf1 a (by omega)).1) (fun a ha => (hf1 a (by omega)).2)) (Hi.rf.fr (Or.inr (Or.inr rfl) : isT 21) hf1)
            · refine wp_aload_n (pc := 54) 0 dX6_behind_54 rfl rfl ?_
              refine wq_getR (pc := 55) 19 2 dX6_behind_55 s0_0 flX6_19 rfl rfl (by decide) (by decide) ?_
              refine wp_aload_n (pc := 58) 0 dX6_behind_58 rfl rfl ?_
              refine wq_getR (pc := 59) 19 2 dX6_behind_59 s0_0 flX6_19 rfl rfl (by decide) (by decide) ?_
              refine wq_getI (pc := 62) 202 5 dX6_behind_62 s0_21 flX6_202 rfl (by decide) ?_
              refine wp_int hT1.been ?_
              refine wc_V_I (pc := 65) dX6_behind_65 lkX6_205 (sm_Rc.o (ci := 4) s0_21 (by decide) (by decide)) (by decide) (Nat.le_of_ble_eq_true rfl) ?_
              refine c_X5_standing (Or.inr (Or.inr rfl) : isT 21) hwg hT1 hbg ?_
              refine wp_goto (pc := 68) 78 dX6_behind_68 (by decide) ?_
              refine wp_iretI (pc := 78) dX6_behind_78 rfl ?_
              rw [if_pos c_51] at k
              exact k _ _ _ (hC.scr (fun a ha => (hf1 a (by omega)).1) (fun a ha => (hf1 a (by omega)).2)) (Hi.rf.fr (Or.inr (Or.inr rfl) : isT 21) hf1)
          · exact absurd (by decide) c_40
        · have hq := plU_q hg
          rw [hg] at k
          refine wp_iconst (pc := 39) (-1) dX6_behind_39 (by decide) ?_
          refine wp_icmp_eq (pc := 40) 50 dX6_behind_40 (by decide) (fun c_40 => ?_) (fun c_40 => ?_)
          · exact absurd c_40 (m1_ne (by omega))
          · refine wp_aload_n (pc := 43) 0 dX6_behind_43 rfl rfl ?_
            refine wp_bipush (pc := 44) (-5) dX6_behind_44 (by decide) ?_
            refine wc_V_I (pc := 46) dX6_behind_46 lkX6_59 (sm_Rc.o (ci := 5) s0_0 (by decide) (by decide)) (by decide) (Nat.le_of_ble_eq_true rfl) ?_
            refine c_X6_refuse_3 ?_
            refine wp_iretI (pc := 49) dX6_behind_49 rfl ?_
            exact k _ _ _ ((hC.scr (fun a ha => (hf1 a (by omega)).1) (fun a ha => (hf1 a (by omega)).2)).bmp (by decide)) ((Hi.rf.fr (Or.inr (Or.inr rfl) : isT 21) hf1).uI (by decide))
      · exact absurd (by decide) c_23
    · have hj := pcd_lt hp
      rcases (show j = 0 ∨ j = 1 ∨ j = 2 by omega) with rfl | rfl | rfl
      · refine wp_istore (pc := 19) 4 dX6_behind_19 (by decide) rfl ?_
        refine wp_iload (pc := 21) 4 dX6_behind_21 rfl ?_
        refine wp_ifeq (pc := 23) 33 dX6_behind_23 (by decide) (fun c_23 => ?_) (fun c_23 => ?_)
        · exact absurd c_23 (by decide)
        · refine wp_aload_n (pc := 26) 0 dX6_behind_26 rfl rfl ?_
          refine wp_iload (pc := 27) 4 dX6_behind_27 rfl ?_
          refine wc_V_I (pc := 29) dX6_behind_29 lkX6_59 (sm_Rc.o (ci := 5) s0_0 (by decide) (by decide)) (by decide) (Nat.le_of_ble_eq_true rfl) ?_
          refine c_X6_refuse_0 ?_
          refine wp_iretI (pc := 32) dX6_behind_32 rfl ?_
          rw [do_behind_s c_5 hp] at k
          exact k _ _ _ (hC.bmp (by decide)) (Hi.rf.uI (by decide))
      · refine wp_istore (pc := 19) 4 dX6_behind_19 (by decide) rfl ?_
        refine wp_iload (pc := 21) 4 dX6_behind_21 rfl ?_
        refine wp_ifeq (pc := 23) 33 dX6_behind_23 (by decide) (fun c_23 => ?_) (fun c_23 => ?_)
        · exact absurd c_23 (by decide)
        · refine wp_aload_n (pc := 26) 0 dX6_behind_26 rfl rfl ?_
          refine wp_iload (pc := 27) 4 dX6_behind_27 rfl ?_
          refine wc_V_I (pc := 29) dX6_behind_29 lkX6_59 (sm_Rc.o (ci := 5) s0_0 (by decide) (by decide)) (by decide) (Nat.le_of_ble_eq_true rfl) ?_
          refine c_X6_refuse_1 ?_
          refine wp_iretI (pc := 32) dX6_behind_32 rfl ?_
          rw [do_behind_s c_5 hp] at k
          exact k _ _ _ (hC.bmp (by decide)) (Hi.rf.uI (by decide))
      · refine wp_istore (pc := 19) 4 dX6_behind_19 (by decide) rfl ?_
        refine wp_iload (pc := 21) 4 dX6_behind_21 rfl ?_
        refine wp_ifeq (pc := 23) 33 dX6_behind_23 (by decide) (fun c_23 => ?_) (fun c_23 => ?_)
        · exact absurd c_23 (by decide)
        · refine wp_aload_n (pc := 26) 0 dX6_behind_26 rfl rfl ?_
          refine wp_iload (pc := 27) 4 dX6_behind_27 rfl ?_
          refine wc_V_I (pc := 29) dX6_behind_29 lkX6_59 (sm_Rc.o (ci := 5) s0_0 (by decide) (by decide)) (by decide) (Nat.le_of_ble_eq_true rfl) ?_
          refine c_X6_refuse_2 ?_
          refine wp_iretI (pc := 32) dX6_behind_32 rfl ?_
          rw [do_behind_s c_5 hp] at k
          exact k _ _ _ (hC.bmp (by decide)) (Hi.rf.uI (by decide))
