/-! ===== the reference: turns; what it answers without a loop ===== -/
def NB (F F1 : Nat → Nat → Int32) : Prop := ∀ x y, ¬ (x = 40 ∧ y = 12) → F1 x y = F x y
theorem NB.rf {F : Nat → Nat → Int32} : NB F F := fun _ _ _ => rfl
theorem NB.tr {F F1 F2 : Nat → Nat → Int32} (h : NB F F1) (h2 : NB F1 F2) : NB F F2 := fun x y z => (h2 x y z).trans (h x y z)
theorem NB.u {F F1 : Nat → Nat → Int32} {v : Int32} (h : NB F F1) : NB F (sm_up F1 40 12 v) := fun x y z => (if_neg z).trans (h x y z)
theorem NB.lo {F F1 I : Nat → Nat → Int32} {J : Nat → Nat → Int64} (h : NB F F1) : Lo F I J F1 I J := fun a ha => ⟨funext fun y => h a y (by omega), rfl, rfl⟩
def vU (f : rw_) (k b : Nat) (back : Bool) (i : Nat) : Nat := mm f k (b ^^^ 2 ^ i) (!back)
def wU (f : rw_) (k b : Nat) (back : Bool) (n : Nat) : Option Nat := bestU (mmP b back) (mmL (vU f k b back) back) n
def eV (f : rw_) (k b : Nat) (back : Bool) : Option Nat → Int32
  | none => 0
  | some j => nI (vU f k b back j)
def bgn (f : rw_) : Nat → Nat → Bool → Int32
  | 0, _, _ => -1
  | k + 1, b, back => eN (wU f k b back (f 68))
theorem mm_n {f : rw_} {k b : Nat} {back : Bool} (h : wU f k b back (f 68) = none) : mm f (k + 1) b back = mm f k b (!back) := by
  have h2 : bestU (mmP b back) (mmL (fun i => mm f k (b ^^^ 2 ^ i) (!back)) back) (f 68) = none := h
  first
  | (rw [mm, h2]; done)
  | (rw [mm, h2]; rfl)
theorem mm_s {f : rw_} {k b j : Nat} {back : Bool} (h : wU f k b back (f 68) = some j) : mm f (k + 1) b back = vU f k b back j := by
  have h2 : bestU (mmP b back) (mmL (fun i => mm f k (b ^^^ 2 ^ i) (!back)) back) (f 68) = some j := h
  first
  | (rw [mm, h2]; done)
  | (rw [mm, h2]; rfl)
theorem bgn_s {f : rw_} {k b : Nat} {back : Bool} {o : Option Nat} (h : wU f k b back (f 68) = o) : eN o = bgn f (k + 1) b back := by subst h; rfl
theorem bgn_fp (f : rw_) (v : Nat) : bgn f v (bn f) true = fpV f v := by
  cases v with
  | zero => rfl
  | succ k =>
    have h : wU f k (bn f) true (f 68) = fpU f k (f 68) := bestU_congr (fun i _ => by unfold mmP; cases (bn f).testBit i <;> rfl) (fun i j _ _ _ _ => rfl)
    show eN (wU f k (bn f) true (f 68)) = if k + 1 = 0 then -1 else eN (fpU f (k + 1 - 1) (f 68))
    rw [if_neg (Nat.succ_ne_zero k), h]; rfl
theorem c_X7_turns_r {I : Nat → Nat → Int32} {J : Nat → Nat → Int64} {f : rw_} (hw : WF f) (hR : Rw 41 f I) : ∀ (n : Nat) {F : Nat → Nat → Int32} {b : Nat} {back : Bool} {d : Nat} {Q : Option Value → sm_H → Prop}, n ≤ 5 → b < 2 ^ f 68 → (∀ F1 : Nat → Nat → Int32, NB F F1 → F1 40 12 = bgn f n b back → Q (some (.int (nI (mm f n b back)))) (S0, F1, I, J)) → Wp mX7_turns (d + n + 3) 0 0 0 (sm_ini [.ref 40, .int (nI b), .int (nI n), .int (b2 back)] 8) [] (S0, F, I, J) Q
  | 0, F, b, back, d, Q, h5, hb, kk => by
    show Wp _ _ _ _ _ [.ref 40, .int (nI b), .int 0, .int (b2 back), .null, .null, .null, .null] _ _ _
    refine wp_iload_n (pc := 0) 2 dX7_turns_0 rfl rfl ?_
    refine wp_ifne (pc := 1) 15 dX7_turns_1 (by decide) (fun c_1 => ?_) (fun c_1 => ?_)
    · exact absurd (by decide) c_1
    · refine wp_aload_n (pc := 4) 0 dX7_turns_4 rfl rfl ?_
      refine wp_iconst (pc := 5) (-1) dX7_turns_5 (by decide) ?_
      refine wq_putI (pc := 6) 190 12 dX7_turns_6 s0_40 flX7_190 rfl rfl (by decide) ?_
      refine wp_aload_n (pc := 9) 0 dX7_turns_9 rfl rfl ?_
      refine wp_iload_n (pc := 10) 1 dX7_turns_10 rfl rfl ?_
      refine wc_V_I (pc := 11) dX7_turns_11 lkX7_168 (sm_Rc.o (ci := 6) s0_40 (by decide) (by decide)) (by decide) (Nat.le_of_ble_eq_true rfl) ?_
      refine c_X7_valueBy hw hR hb ?_
      refine wp_iretI (pc := 14) dX7_turns_14 rfl ?_
      exact kk _ NB.rf.u up_eq
  | n + 1, F, b, true, d, Q, h5, hb, kk => by
    show Wp _ _ _ _ _ [.ref 40, .int (nI b), .int (nI (n + 1)), .int 1, .null, .null, .null, .null] _ _ _
    refine wp_iload_n (pc := 0) 2 dX7_turns_0 rfl rfl ?_
    refine wp_ifne (pc := 1) 15 dX7_turns_1 (by decide) (fun c_1 => ?_) (fun c_1 => ?_)
    · refine wp_iconst (pc := 15) (0) dX7_turns_15 (by decide) ?_
      refine wp_istore (pc := 16) 4 dX7_turns_16 (by decide) rfl ?_
      refine wp_iconst (pc := 18) (-1) dX7_turns_18 (by decide) ?_
      refine wp_istore (pc := 19) 5 dX7_turns_19 (by decide) rfl ?_
      refine wp_iconst (pc := 21) (0) dX7_turns_21 (by decide) ?_
      refine wp_istore (pc := 22) 6 dX7_turns_22 (by decide) rfl ?_
      refine wp_loopS (σ := Nat → Nat → Int32) (fun i _ => [.ref 40, .int (nI b), .int (nI (n + 1)), .int 1, .int (eV f n b true (wU f n b true i)), .int (eN (wU f n b true i)), .int (nI i), .null]) (fun _ F1 => (S0, F1, I, J)) (fun _ F1 => NB F F1) (f 68) (fun i F1 hi hs nx => ?_) (fun F1 hs => ?_) 0 F (Nat.zero_le _) NB.rf
      · have hn := hw.n
        have hp2 := p2n hw
        have hvi : vU f n b true i ≤ 990 := mm_le hw _ _ _
        rcases ho : bestU (mmP b true) (mmL (vU f n b true) true) i with _ | j
        · refine wp_to (lv' := [.ref 40, .int (nI b), .int (nI (n + 1)), .int 1, .int (0), .int (-1), .int (nI i), .null]) ?_ (by rw [show wU f n b true i = none from ho]; rfl) rfl rfl
          refine wp_iload (pc := 24) 6 dX7_turns_24 rfl ?_
          refine wp_aload_n (pc := 26) 0 dX7_turns_26 rfl rfl ?_
          refine wc_V_ (pc := 27) dX7_turns_27 lkX7_57 (sm_Rc.o (ci := 6) s0_40 (by decide) (by decide)) (by decide) (Nat.le_of_ble_eq_true rfl) ?_
          refine c_X7_many hw hR ?_
          refine wp_icmp_ge (pc := 30) 116 dX7_turns_30 (by decide) (fun c_30 => ?_) (fun c_30 => ?_)
          · exact absurd c_30 (nI_ge (b := f 68) hi (by omega))
          · refine wp_iload_n (pc := 33) 1 dX7_turns_33 rfl rfl ?_
            refine wp_iload (pc := 34) 6 dX7_turns_34 rfl ?_
            refine wp_ishr (pc := 36) dX7_turns_36 ?_
            refine wp_iconst (pc := 37) (1) dX7_turns_37 (by decide) ?_
            refine wp_iand (pc := 38) dX7_turns_38 ?_
            refine wp_int (bt_bit (by omega) (by omega)) ?_
            refine wp_iload_n (pc := 39) 3 dX7_turns_39 rfl rfl ?_
            refine wp_ifeq (pc := 40) 47 dX7_turns_40 (by decide) (fun c_40 => ?_) (fun c_40 => ?_)
            · exact absurd c_40 (by decide)
            · refine wp_iconst (pc := 43) (1) dX7_turns_43 (by decide) ?_
              refine wp_goto (pc := 44) 48 dX7_turns_44 (by decide) ?_
              refine wp_icmp_ne1 (pc := 48) 110 dX7_turns_48 (by decide) (fun c_48 => ?_) (fun c_48 => ?_)
              · refine wp_incN (pc := 110) 6 dX7_turns_110 rfl (by decide) rfl ?_
                refine wp_goto (pc := 113) 24 dX7_turns_113 (by decide) ?_
                have nx := nx _ hs
                unfold wU at nx
                rw [best_no (show mmP b true i = false by unfold mmP; rw [c_48]; rfl), ho] at nx
                exact nx
              · refine wp_aload_n (pc := 51) 0 dX7_turns_51 rfl rfl ?_
                refine wp_iload_n (pc := 52) 1 dX7_turns_52 rfl rfl ?_
                refine wp_iconst (pc := 53) (1) dX7_turns_53 (by decide) ?_
                refine wp_iload (pc := 54) 6 dX7_turns_54 rfl ?_
                refine wp_ishl (pc := 56) dX7_turns_56 ?_
                refine wp_int (bt_one (by omega)) ?_
                refine wp_ixor (pc := 57) dX7_turns_57 ?_
                refine wp_int (bt_xor _ _) ?_
                refine wp_iload_n (pc := 58) 2 dX7_turns_58 rfl rfl ?_
                refine wp_iconst (pc := 59) (1) dX7_turns_59 (by decide) ?_
                refine wp_isub (pc := 60) dX7_turns_60 ?_
                refine wp_int (nI_pred _) ?_
                refine wp_iload_n (pc := 61) 3 dX7_turns_61 rfl rfl ?_
                refine wp_ifne (pc := 62) 69 dX7_turns_62 (by decide) (fun c_62 => ?_) (fun c_62 => ?_)
                · refine wp_iconst (pc := 69) (0) dX7_turns_69 (by decide) ?_
                  refine wc_V_III (pc := 70) dX7_turns_70 lkX7_193 (sm_Rc.o (ci := 6) s0_40 (by decide) (by decide)) (by decide) (Nat.le_of_ble_eq_true rfl) ?_
                  refine wp_deep (d1 := d + n + 3) (by omega) (c_X7_turns_r hw hR n (back := false) (d := d) (by omega) (xor_n hb hi) (fun F2 hF2 hb2 => ?_))
                  have hs2 := hs.tr hF2
                  refine wp_int (y := nI (vU f n b true i)) rfl ?_
                  refine wp_istore (pc := 73) 7 dX7_turns_73 (by decide) rfl ?_
                  refine wp_iload (pc := 75) 5 dX7_turns_75 rfl ?_
                  refine wp_iconst (pc := 77) (-1) dX7_turns_77 (by decide) ?_
                  refine wp_icmp_eq (pc := 78) 102 dX7_turns_78 (by decide) (fun c_78 => ?_) (fun c_78 => ?_)
                  · refine wp_iload (pc := 102) 7 dX7_turns_102 rfl ?_
                    refine wp_istore (pc := 104) 4 dX7_turns_104 (by decide) rfl ?_
                    refine wp_iload (pc := 106) 6 dX7_turns_106 rfl ?_
                    refine wp_istore (pc := 108) 5 dX7_turns_108 (by decide) rfl ?_
                    refine wp_incN (pc := 110) 6 dX7_turns_110 rfl (by decide) rfl ?_
                    refine wp_goto (pc := 113) 24 dX7_turns_113 (by decide) ?_
                    have nx := nx _ hs2
                    unfold wU at nx
                    rw [best_new (show mmP b true i = true by unfold mmP; rw [c_48]; rfl) ho] at nx
                    refine wp_weak ?_ nx
                    exact And.intro (Or.inr rfl) (And.intro (Or.inr rfl) (And.intro (Or.inr rfl) (And.intro (Or.inr rfl) (And.intro (Or.inr rfl) (And.intro (Or.inr rfl) (And.intro (Or.inr rfl) (And.intro (Or.inl rfl) (trivial))))))))
                  · exact absurd (by decide) c_78
                · exact absurd c_62 (by decide)
        · have hj := (bestU_lt ho).1
          have hvj : vU f n b true j ≤ 990 := mm_le hw _ _ _
          refine wp_to (lv' := [.ref 40, .int (nI b), .int (nI (n + 1)), .int 1, .int (nI (vU f n b true j)), .int (nI j), .int (nI i), .null]) ?_ (by rw [show wU f n b true i = some j from ho]; rfl) rfl rfl
          refine wp_iload (pc := 24) 6 dX7_turns_24 rfl ?_
          refine wp_aload_n (pc := 26) 0 dX7_turns_26 rfl rfl ?_
          refine wc_V_ (pc := 27) dX7_turns_27 lkX7_57 (sm_Rc.o (ci := 6) s0_40 (by decide) (by decide)) (by decide) (Nat.le_of_ble_eq_true rfl) ?_
          refine c_X7_many hw hR ?_
          refine wp_icmp_ge (pc := 30) 116 dX7_turns_30 (by decide) (fun c_30 => ?_) (fun c_30 => ?_)
          · exact absurd c_30 (nI_ge (b := f 68) hi (by omega))
          · refine wp_iload_n (pc := 33) 1 dX7_turns_33 rfl rfl ?_
            refine wp_iload (pc := 34) 6 dX7_turns_34 rfl ?_
            refine wp_ishr (pc := 36) dX7_turns_36 ?_
            refine wp_iconst (pc := 37) (1) dX7_turns_37 (by decide) ?_
            refine wp_iand (pc := 38) dX7_turns_38 ?_
            refine wp_int (bt_bit (by omega) (by omega)) ?_
            refine wp_iload_n (pc := 39) 3 dX7_turns_39 rfl rfl ?_
            refine wp_ifeq (pc := 40) 47 dX7_turns_40 (by decide) (fun c_40 => ?_) (fun c_40 => ?_)
            · exact absurd c_40 (by decide)
            · refine wp_iconst (pc := 43) (1) dX7_turns_43 (by decide) ?_
              refine wp_goto (pc := 44) 48 dX7_turns_44 (by decide) ?_
              refine wp_icmp_ne1 (pc := 48) 110 dX7_turns_48 (by decide) (fun c_48 => ?_) (fun c_48 => ?_)
              · refine wp_incN (pc := 110) 6 dX7_turns_110 rfl (by decide) rfl ?_
                refine wp_goto (pc := 113) 24 dX7_turns_113 (by decide) ?_
                have nx := nx _ hs
                unfold wU at nx
                rw [best_no (show mmP b true i = false by unfold mmP; rw [c_48]; rfl), ho] at nx
                exact nx
              · refine wp_aload_n (pc := 51) 0 dX7_turns_51 rfl rfl ?_
                refine wp_iload_n (pc := 52) 1 dX7_turns_52 rfl rfl ?_
                refine wp_iconst (pc := 53) (1) dX7_turns_53 (by decide) ?_
                refine wp_iload (pc := 54) 6 dX7_turns_54 rfl ?_
                refine wp_ishl (pc := 56) dX7_turns_56 ?_
                refine wp_int (bt_one (by omega)) ?_
                refine wp_ixor (pc := 57) dX7_turns_57 ?_
                refine wp_int (bt_xor _ _) ?_
                refine wp_iload_n (pc := 58) 2 dX7_turns_58 rfl rfl ?_
                refine wp_iconst (pc := 59) (1) dX7_turns_59 (by decide) ?_
                refine wp_isub (pc := 60) dX7_turns_60 ?_
                refine wp_int (nI_pred _) ?_
                refine wp_iload_n (pc := 61) 3 dX7_turns_61 rfl rfl ?_
                refine wp_ifne (pc := 62) 69 dX7_turns_62 (by decide) (fun c_62 => ?_) (fun c_62 => ?_)
                · refine wp_iconst (pc := 69) (0) dX7_turns_69 (by decide) ?_
                  refine wc_V_III (pc := 70) dX7_turns_70 lkX7_193 (sm_Rc.o (ci := 6) s0_40 (by decide) (by decide)) (by decide) (Nat.le_of_ble_eq_true rfl) ?_
                  refine wp_deep (d1 := d + n + 3) (by omega) (c_X7_turns_r hw hR n (back := false) (d := d) (by omega) (xor_n hb hi) (fun F2 hF2 hb2 => ?_))
                  have hs2 := hs.tr hF2
                  refine wp_int (y := nI (vU f n b true i)) rfl ?_
                  refine wp_istore (pc := 73) 7 dX7_turns_73 (by decide) rfl ?_
                  refine wp_iload (pc := 75) 5 dX7_turns_75 rfl ?_
                  refine wp_iconst (pc := 77) (-1) dX7_turns_77 (by decide) ?_
                  refine wp_icmp_eq (pc := 78) 102 dX7_turns_78 (by decide) (fun c_78 => ?_) (fun c_78 => ?_)
                  · exact absurd c_78 (m1_ne (by omega))
                  · refine wp_iload_n (pc := 81) 3 dX7_turns_81 rfl rfl ?_
                    refine wp_ifeq (pc := 82) 95 dX7_turns_82 (by decide) (fun c_82 => ?_) (fun c_82 => ?_)
                    · exact absurd c_82 (by decide)
                    · refine wp_iload (pc := 85) 7 dX7_turns_85 rfl ?_
                      refine wp_iload (pc := 87) 4 dX7_turns_87 rfl ?_
                      refine wp_icmp_ge (pc := 89) 110 dX7_turns_89 (by decide) (fun c_89 => ?_) (fun c_89 => ?_)
                      · refine wp_incN (pc := 110) 6 dX7_turns_110 rfl (by decide) rfl ?_
                        refine wp_goto (pc := 113) 24 dX7_turns_113 (by decide) ?_
                        have nx := nx _ hs2
                        unfold wU at nx
                        rw [best_st (show mmP b true i = true by unfold mmP; rw [c_48]; rfl) ho (show mmL (vU f n b true) true i j = false from decide_eq_false (fun z => nI_ge z (by omega) c_89))] at nx
                        refine wp_weak ?_ nx
                        exact And.intro (Or.inr rfl) (And.intro (Or.inr rfl) (And.intro (Or.inr rfl) (And.intro (Or.inr rfl) (And.intro (Or.inr rfl) (And.intro (Or.inr rfl) (And.intro (Or.inr rfl) (And.intro (Or.inl rfl) (trivial))))))))
                      · refine wp_goto (pc := 92) 102 dX7_turns_92 (by decide) ?_
                        refine wp_iload (pc := 102) 7 dX7_turns_102 rfl ?_
                        refine wp_istore (pc := 104) 4 dX7_turns_104 (by decide) rfl ?_
                        refine wp_iload (pc := 106) 6 dX7_turns_106 rfl ?_
                        refine wp_istore (pc := 108) 5 dX7_turns_108 (by decide) rfl ?_
                        refine wp_incN (pc := 110) 6 dX7_turns_110 rfl (by decide) rfl ?_
                        refine wp_goto (pc := 113) 24 dX7_turns_113 (by decide) ?_
                        have nx := nx _ hs2
                        unfold wU at nx
                        rw [best_up (show mmP b true i = true by unfold mmP; rw [c_48]; rfl) ho (show mmL (vU f n b true) true i j = true from decide_eq_true (Nat.lt_of_not_le fun z => c_89 (nI_le z (by omega))))] at nx
                        refine wp_weak ?_ nx
                        exact And.intro (Or.inr rfl) (And.intro (Or.inr rfl) (And.intro (Or.inr rfl) (And.intro (Or.inr rfl) (And.intro (Or.inr rfl) (And.intro (Or.inr rfl) (And.intro (Or.inr rfl) (And.intro (Or.inl rfl) (trivial))))))))
                · exact absurd c_62 (by decide)
      · have hn := hw.n
        rcases ho : wU f n b true (f 68) with _ | j
        · refine wp_to (lv' := [.ref 40, .int (nI b), .int (nI (n + 1)), .int 1, .int (0), .int (-1), .int (nI (f 68)), .null]) ?_ rfl rfl rfl
          refine wp_iload (pc := 24) 6 dX7_turns_24 rfl ?_
          refine wp_aload_n (pc := 26) 0 dX7_turns_26 rfl rfl ?_
          refine wc_V_ (pc := 27) dX7_turns_27 lkX7_57 (sm_Rc.o (ci := 6) s0_40 (by decide) (by decide)) (by decide) (Nat.le_of_ble_eq_true rfl) ?_
          refine c_X7_many hw hR ?_
          refine wp_icmp_ge (pc := 30) 116 dX7_turns_30 (by decide) (fun c_30 => ?_) (fun c_30 => ?_)
          · refine wp_iload (pc := 116) 5 dX7_turns_116 rfl ?_
            refine wp_iconst (pc := 118) (-1) dX7_turns_118 (by decide) ?_
            refine wp_icmp_ne (pc := 119) 141 dX7_turns_119 (by decide) (fun c_119 => ?_) (fun c_119 => ?_)
            · exact absurd (by decide) c_119
            · refine wp_aload_n (pc := 122) 0 dX7_turns_122 rfl rfl ?_
              refine wp_iload_n (pc := 123) 1 dX7_turns_123 rfl rfl ?_
              refine wp_iload_n (pc := 124) 2 dX7_turns_124 rfl rfl ?_
              refine wp_iconst (pc := 125) (1) dX7_turns_125 (by decide) ?_
              refine wp_isub (pc := 126) dX7_turns_126 ?_
              refine wp_int (nI_pred _) ?_
              refine wp_iload_n (pc := 127) 3 dX7_turns_127 rfl rfl ?_
              refine wp_ifne (pc := 128) 135 dX7_turns_128 (by decide) (fun c_128 => ?_) (fun c_128 => ?_)
              · refine wp_iconst (pc := 135) (0) dX7_turns_135 (by decide) ?_
                refine wc_V_III (pc := 136) dX7_turns_136 lkX7_193 (sm_Rc.o (ci := 6) s0_40 (by decide) (by decide)) (by decide) (Nat.le_of_ble_eq_true rfl) ?_
                refine wp_deep (d1 := d + n + 3) (by omega) (c_X7_turns_r hw hR n (back := false) (d := d) (by omega) hb (fun F2 hF2 hb2 => ?_))
                have hs2 := hs.tr hF2
                refine wp_istore (pc := 139) 4 dX7_turns_139 (by decide) rfl ?_
                refine wp_aload_n (pc := 141) 0 dX7_turns_141 rfl rfl ?_
                refine wp_iload (pc := 142) 5 dX7_turns_142 rfl ?_
                refine wq_putI (pc := 144) 190 12 dX7_turns_144 s0_40 flX7_190 rfl rfl (by decide) ?_
                refine wp_iload (pc := 147) 4 dX7_turns_147 rfl ?_
                refine wp_iretI (pc := 149) dX7_turns_149 rfl ?_
                have e := mm_n ho
                rw [e] at kk
                exact kk _ hs2.u (up_eq.trans (bgn_s ho))
              · exact absurd c_128 (by decide)
          · exact absurd (Int32.le_refl _) c_30
        · have hj := (bestU_lt ho).1
          refine wp_to (lv' := [.ref 40, .int (nI b), .int (nI (n + 1)), .int 1, .int (nI (vU f n b true j)), .int (nI j), .int (nI (f 68)), .null]) ?_ rfl rfl rfl
          refine wp_iload (pc := 24) 6 dX7_turns_24 rfl ?_
          refine wp_aload_n (pc := 26) 0 dX7_turns_26 rfl rfl ?_
          refine wc_V_ (pc := 27) dX7_turns_27 lkX7_57 (sm_Rc.o (ci := 6) s0_40 (by decide) (by decide)) (by decide) (Nat.le_of_ble_eq_true rfl) ?_
          refine c_X7_many hw hR ?_
          refine wp_icmp_ge (pc := 30) 116 dX7_turns_30 (by decide) (fun c_30 => ?_) (fun c_30 => ?_)
          · refine wp_iload (pc := 116) 5 dX7_turns_116 rfl ?_
            refine wp_iconst (pc := 118) (-1) dX7_turns_118 (by decide) ?_
            refine wp_icmp_ne (pc := 119) 141 dX7_turns_119 (by decide) (fun c_119 => ?_) (fun c_119 => ?_)
            · refine wp_aload_n (pc := 141) 0 dX7_turns_141 rfl rfl ?_
              refine wp_iload (pc := 142) 5 dX7_turns_142 rfl ?_
              refine wq_putI (pc := 144) 190 12 dX7_turns_144 s0_40 flX7_190 rfl rfl (by decide) ?_
              refine wp_iload (pc := 147) 4 dX7_turns_147 rfl ?_
              refine wp_iretI (pc := 149) dX7_turns_149 rfl ?_
              have e := mm_s ho
              rw [e] at kk
              exact kk _ hs.u (up_eq.trans (bgn_s ho))
            · exact absurd c_119 (m1_ne (by omega))
          · exact absurd (Int32.le_refl _) c_30
    · exact absurd c_1 (nI_ne0 (by omega) (by omega))
  | n + 1, F, b, false, d, Q, h5, hb, kk => by
    show Wp _ _ _ _ _ [.ref 40, .int (nI b), .int (nI (n + 1)), .int 0, .null, .null, .null, .null] _ _ _
    refine wp_iload_n (pc := 0) 2 dX7_turns_0 rfl rfl ?_
    refine wp_ifne (pc := 1) 15 dX7_turns_1 (by decide) (fun c_1 => ?_) (fun c_1 => ?_)
    · refine wp_iconst (pc := 15) (0) dX7_turns_15 (by decide) ?_
      refine wp_istore (pc := 16) 4 dX7_turns_16 (by decide) rfl ?_
      refine wp_iconst (pc := 18) (-1) dX7_turns_18 (by decide) ?_
      refine wp_istore (pc := 19) 5 dX7_turns_19 (by decide) rfl ?_
      refine wp_iconst (pc := 21) (0) dX7_turns_21 (by decide) ?_
      refine wp_istore (pc := 22) 6 dX7_turns_22 (by decide) rfl ?_
      refine wp_loopS (σ := Nat → Nat → Int32) (fun i _ => [.ref 40, .int (nI b), .int (nI (n + 1)), .int 0, .int (eV f n b false (wU f n b false i)), .int (eN (wU f n b false i)), .int (nI i), .null]) (fun _ F1 => (S0, F1, I, J)) (fun _ F1 => NB F F1) (f 68) (fun i F1 hi hs nx => ?_) (fun F1 hs => ?_) 0 F (Nat.zero_le _) NB.rf
      · have hn := hw.n
        have hp2 := p2n hw
        have hvi : vU f n b false i ≤ 990 := mm_le hw _ _ _
        rcases ho : bestU (mmP b false) (mmL (vU f n b false) false) i with _ | j
        · refine wp_to (lv' := [.ref 40, .int (nI b), .int (nI (n + 1)), .int 0, .int (0), .int (-1), .int (nI i), .null]) ?_ (by rw [show wU f n b false i = none from ho]; rfl) rfl rfl
          refine wp_iload (pc := 24) 6 dX7_turns_24 rfl ?_
          refine wp_aload_n (pc := 26) 0 dX7_turns_26 rfl rfl ?_
          refine wc_V_ (pc := 27) dX7_turns_27 lkX7_57 (sm_Rc.o (ci := 6) s0_40 (by decide) (by decide)) (by decide) (Nat.le_of_ble_eq_true rfl) ?_
          refine c_X7_many hw hR ?_
          refine wp_icmp_ge (pc := 30) 116 dX7_turns_30 (by decide) (fun c_30 => ?_) (fun c_30 => ?_)
          · exact absurd c_30 (nI_ge (b := f 68) hi (by omega))
          · refine wp_iload_n (pc := 33) 1 dX7_turns_33 rfl rfl ?_
            refine wp_iload (pc := 34) 6 dX7_turns_34 rfl ?_
            refine wp_ishr (pc := 36) dX7_turns_36 ?_
            refine wp_iconst (pc := 37) (1) dX7_turns_37 (by decide) ?_
            refine wp_iand (pc := 38) dX7_turns_38 ?_
            refine wp_int (bt_bit (by omega) (by omega)) ?_
            refine wp_iload_n (pc := 39) 3 dX7_turns_39 rfl rfl ?_
            refine wp_ifeq (pc := 40) 47 dX7_turns_40 (by decide) (fun c_40 => ?_) (fun c_40 => ?_)
            · refine wp_iconst (pc := 47) (0) dX7_turns_47 (by decide) ?_
              refine wp_icmp_ne (pc := 48) 110 dX7_turns_48 (by decide) (fun c_48 => ?_) (fun c_48 => ?_)
              · refine wp_incN (pc := 110) 6 dX7_turns_110 rfl (by decide) rfl ?_
                refine wp_goto (pc := 113) 24 dX7_turns_113 (by decide) ?_
                have nx := nx _ hs
                unfold wU at nx
                rw [best_no (show mmP b false i = false by unfold mmP; rw [b2_n.mp c_48]; rfl), ho] at nx
                exact nx
              · refine wp_aload_n (pc := 51) 0 dX7_turns_51 rfl rfl ?_
                refine wp_iload_n (pc := 52) 1 dX7_turns_52 rfl rfl ?_
                refine wp_iconst (pc := 53) (1) dX7_turns_53 (by decide) ?_
                refine wp_iload (pc := 54) 6 dX7_turns_54 rfl ?_
                refine wp_ishl (pc := 56) dX7_turns_56 ?_
                refine wp_int (bt_one (by omega)) ?_
                refine wp_ixor (pc := 57) dX7_turns_57 ?_
                refine wp_int (bt_xor _ _) ?_
                refine wp_iload_n (pc := 58) 2 dX7_turns_58 rfl rfl ?_
                refine wp_iconst (pc := 59) (1) dX7_turns_59 (by decide) ?_
                refine wp_isub (pc := 60) dX7_turns_60 ?_
                refine wp_int (nI_pred _) ?_
                refine wp_iload_n (pc := 61) 3 dX7_turns_61 rfl rfl ?_
                refine wp_ifne (pc := 62) 69 dX7_turns_62 (by decide) (fun c_62 => ?_) (fun c_62 => ?_)
                · exact absurd (by decide) c_62
                · refine wp_iconst (pc := 65) (1) dX7_turns_65 (by decide) ?_
                  refine wp_goto (pc := 66) 70 dX7_turns_66 (by decide) ?_
                  refine wc_V_III (pc := 70) dX7_turns_70 lkX7_193 (sm_Rc.o (ci := 6) s0_40 (by decide) (by decide)) (by decide) (Nat.le_of_ble_eq_true rfl) ?_
                  refine wp_deep (d1 := d + n + 3) (by omega) (c_X7_turns_r hw hR n (back := true) (d := d) (by omega) (xor_n hb hi) (fun F2 hF2 hb2 => ?_))
                  have hs2 := hs.tr hF2
                  refine wp_int (y := nI (vU f n b false i)) rfl ?_
                  refine wp_istore (pc := 73) 7 dX7_turns_73 (by decide) rfl ?_
                  refine wp_iload (pc := 75) 5 dX7_turns_75 rfl ?_
                  refine wp_iconst (pc := 77) (-1) dX7_turns_77 (by decide) ?_
                  refine wp_icmp_eq (pc := 78) 102 dX7_turns_78 (by decide) (fun c_78 => ?_) (fun c_78 => ?_)
                  · refine wp_iload (pc := 102) 7 dX7_turns_102 rfl ?_
                    refine wp_istore (pc := 104) 4 dX7_turns_104 (by decide) rfl ?_
                    refine wp_iload (pc := 106) 6 dX7_turns_106 rfl ?_
                    refine wp_istore (pc := 108) 5 dX7_turns_108 (by decide) rfl ?_
                    refine wp_incN (pc := 110) 6 dX7_turns_110 rfl (by decide) rfl ?_
                    refine wp_goto (pc := 113) 24 dX7_turns_113 (by decide) ?_
                    have nx := nx _ hs2
                    unfold wU at nx
                    rw [best_new (show mmP b false i = true by unfold mmP; rw [(b2_0.mp c_48)]; rfl) ho] at nx
                    refine wp_weak ?_ nx
                    exact And.intro (Or.inr rfl) (And.intro (Or.inr rfl) (And.intro (Or.inr rfl) (And.intro (Or.inr rfl) (And.intro (Or.inr rfl) (And.intro (Or.inr rfl) (And.intro (Or.inr rfl) (And.intro (Or.inl rfl) (trivial))))))))
                  · exact absurd (by decide) c_78
            · exact absurd (by decide) c_40
        · have hj := (bestU_lt ho).1
          have hvj : vU f n b false j ≤ 990 := mm_le hw _ _ _
          refine wp_to (lv' := [.ref 40, .int (nI b), .int (nI (n + 1)), .int 0, .int (nI (vU f n b false j)), .int (nI j), .int (nI i), .null]) ?_ (by rw [show wU f n b false i = some j from ho]; rfl) rfl rfl
          refine wp_iload (pc := 24) 6 dX7_turns_24 rfl ?_
          refine wp_aload_n (pc := 26) 0 dX7_turns_26 rfl rfl ?_
          refine wc_V_ (pc := 27) dX7_turns_27 lkX7_57 (sm_Rc.o (ci := 6) s0_40 (by decide) (by decide)) (by decide) (Nat.le_of_ble_eq_true rfl) ?_
          refine c_X7_many hw hR ?_
          refine wp_icmp_ge (pc := 30) 116 dX7_turns_30 (by decide) (fun c_30 => ?_) (fun c_30 => ?_)
          · exact absurd c_30 (nI_ge (b := f 68) hi (by omega))
          · refine wp_iload_n (pc := 33) 1 dX7_turns_33 rfl rfl ?_
            refine wp_iload (pc := 34) 6 dX7_turns_34 rfl ?_
            refine wp_ishr (pc := 36) dX7_turns_36 ?_
            refine wp_iconst (pc := 37) (1) dX7_turns_37 (by decide) ?_
            refine wp_iand (pc := 38) dX7_turns_38 ?_
            refine wp_int (bt_bit (by omega) (by omega)) ?_
            refine wp_iload_n (pc := 39) 3 dX7_turns_39 rfl rfl ?_
            refine wp_ifeq (pc := 40) 47 dX7_turns_40 (by decide) (fun c_40 => ?_) (fun c_40 => ?_)
            · refine wp_iconst (pc := 47) (0) dX7_turns_47 (by decide) ?_
              refine wp_icmp_ne (pc := 48) 110 dX7_turns_48 (by decide) (fun c_48 => ?_) (fun c_48 => ?_)
              · refine wp_incN (pc := 110) 6 dX7_turns_110 rfl (by decide) rfl ?_
                refine wp_goto (pc := 113) 24 dX7_turns_113 (by decide) ?_
                have nx := nx _ hs
                unfold wU at nx
                rw [best_no (show mmP b false i = false by unfold mmP; rw [b2_n.mp c_48]; rfl), ho] at nx
                exact nx
              · refine wp_aload_n (pc := 51) 0 dX7_turns_51 rfl rfl ?_
                refine wp_iload_n (pc := 52) 1 dX7_turns_52 rfl rfl ?_
                refine wp_iconst (pc := 53) (1) dX7_turns_53 (by decide) ?_
                refine wp_iload (pc := 54) 6 dX7_turns_54 rfl ?_
                refine wp_ishl (pc := 56) dX7_turns_56 ?_
                refine wp_int (bt_one (by omega)) ?_
                refine wp_ixor (pc := 57) dX7_turns_57 ?_
                refine wp_int (bt_xor _ _) ?_
                refine wp_iload_n (pc := 58) 2 dX7_turns_58 rfl rfl ?_
                refine wp_iconst (pc := 59) (1) dX7_turns_59 (by decide) ?_
                refine wp_isub (pc := 60) dX7_turns_60 ?_
                refine wp_int (nI_pred _) ?_
                refine wp_iload_n (pc := 61) 3 dX7_turns_61 rfl rfl ?_
                refine wp_ifne (pc := 62) 69 dX7_turns_62 (by decide) (fun c_62 => ?_) (fun c_62 => ?_)
                · exact absurd (by decide) c_62
                · refine wp_iconst (pc := 65) (1) dX7_turns_65 (by decide) ?_
                  refine wp_goto (pc := 66) 70 dX7_turns_66 (by decide) ?_
                  refine wc_V_III (pc := 70) dX7_turns_70 lkX7_193 (sm_Rc.o (ci := 6) s0_40 (by decide) (by decide)) (by decide) (Nat.le_of_ble_eq_true rfl) ?_
                  refine wp_deep (d1 := d + n + 3) (by omega) (c_X7_turns_r hw hR n (back := true) (d := d) (by omega) (xor_n hb hi) (fun F2 hF2 hb2 => ?_))
                  have hs2 := hs.tr hF2
                  refine wp_int (y := nI (vU f n b false i)) rfl ?_
                  refine wp_istore (pc := 73) 7 dX7_turns_73 (by decide) rfl ?_
                  refine wp_iload (pc := 75) 5 dX7_turns_75 rfl ?_
                  refine wp_iconst (pc := 77) (-1) dX7_turns_77 (by decide) ?_
                  refine wp_icmp_eq (pc := 78) 102 dX7_turns_78 (by decide) (fun c_78 => ?_) (fun c_78 => ?_)
                  · exact absurd c_78 (m1_ne (by omega))
                  · refine wp_iload_n (pc := 81) 3 dX7_turns_81 rfl rfl ?_
                    refine wp_ifeq (pc := 82) 95 dX7_turns_82 (by decide) (fun c_82 => ?_) (fun c_82 => ?_)
                    · refine wp_iload (pc := 95) 7 dX7_turns_95 rfl ?_
                      refine wp_iload (pc := 97) 4 dX7_turns_97 rfl ?_
                      refine wp_icmp_le (pc := 99) 110 dX7_turns_99 (by decide) (fun c_99 => ?_) (fun c_99 => ?_)
                      · refine wp_incN (pc := 110) 6 dX7_turns_110 rfl (by decide) rfl ?_
                        refine wp_goto (pc := 113) 24 dX7_turns_113 (by decide) ?_
                        have nx := nx _ hs2
                        unfold wU at nx
                        rw [best_st (show mmP b false i = true by unfold mmP; rw [(b2_0.mp c_48)]; rfl) ho (show mmL (vU f n b false) false i j = false from decide_eq_false (fun z => nI_ge z (by omega) c_99))] at nx
                        refine wp_weak ?_ nx
                        exact And.intro (Or.inr rfl) (And.intro (Or.inr rfl) (And.intro (Or.inr rfl) (And.intro (Or.inr rfl) (And.intro (Or.inr rfl) (And.intro (Or.inr rfl) (And.intro (Or.inr rfl) (And.intro (Or.inl rfl) (trivial))))))))
                      · refine wp_iload (pc := 102) 7 dX7_turns_102 rfl ?_
                        refine wp_istore (pc := 104) 4 dX7_turns_104 (by decide) rfl ?_
                        refine wp_iload (pc := 106) 6 dX7_turns_106 rfl ?_
                        refine wp_istore (pc := 108) 5 dX7_turns_108 (by decide) rfl ?_
                        refine wp_incN (pc := 110) 6 dX7_turns_110 rfl (by decide) rfl ?_
                        refine wp_goto (pc := 113) 24 dX7_turns_113 (by decide) ?_
                        have nx := nx _ hs2
                        unfold wU at nx
                        rw [best_up (show mmP b false i = true by unfold mmP; rw [(b2_0.mp c_48)]; rfl) ho (show mmL (vU f n b false) false i j = true from decide_eq_true (Nat.lt_of_not_le fun z => c_99 (nI_le z (by omega))))] at nx
                        refine wp_weak ?_ nx
                        exact And.intro (Or.inr rfl) (And.intro (Or.inr rfl) (And.intro (Or.inr rfl) (And.intro (Or.inr rfl) (And.intro (Or.inr rfl) (And.intro (Or.inr rfl) (And.intro (Or.inr rfl) (And.intro (Or.inl rfl) (trivial))))))))
                    · exact absurd (by decide) c_82
            · exact absurd (by decide) c_40
      · have hn := hw.n
        rcases ho : wU f n b false (f 68) with _ | j
        · refine wp_to (lv' := [.ref 40, .int (nI b), .int (nI (n + 1)), .int 0, .int (0), .int (-1), .int (nI (f 68)), .null]) ?_ rfl rfl rfl
          refine wp_iload (pc := 24) 6 dX7_turns_24 rfl ?_
          refine wp_aload_n (pc := 26) 0 dX7_turns_26 rfl rfl ?_
          refine wc_V_ (pc := 27) dX7_turns_27 lkX7_57 (sm_Rc.o (ci := 6) s0_40 (by decide) (by decide)) (by decide) (Nat.le_of_ble_eq_true rfl) ?_
          refine c_X7_many hw hR ?_
          refine wp_icmp_ge (pc := 30) 116 dX7_turns_30 (by decide) (fun c_30 => ?_) (fun c_30 => ?_)
          · refine wp_iload (pc := 116) 5 dX7_turns_116 rfl ?_
            refine wp_iconst (pc := 118) (-1) dX7_turns_118 (by decide) ?_
            refine wp_icmp_ne (pc := 119) 141 dX7_turns_119 (by decide) (fun c_119 => ?_) (fun c_119 => ?_)
            · exact absurd (by decide) c_119
            · refine wp_aload_n (pc := 122) 0 dX7_turns_122 rfl rfl ?_
              refine wp_iload_n (pc := 123) 1 dX7_turns_123 rfl rfl ?_
              refine wp_iload_n (pc := 124) 2 dX7_turns_124 rfl rfl ?_
              refine wp_iconst (pc := 125) (1) dX7_turns_125 (by decide) ?_
              refine wp_isub (pc := 126) dX7_turns_126 ?_
              refine wp_int (nI_pred _) ?_
              refine wp_iload_n (pc := 127) 3 dX7_turns_127 rfl rfl ?_
              refine wp_ifne (pc := 128) 135 dX7_turns_128 (by decide) (fun c_128 => ?_) (fun c_128 => ?_)
              · exact absurd (by decide) c_128
              · refine wp_iconst (pc := 131) (1) dX7_turns_131 (by decide) ?_
                refine wp_goto (pc := 132) 136 dX7_turns_132 (by decide) ?_
                refine wc_V_III (pc := 136) dX7_turns_136 lkX7_193 (sm_Rc.o (ci := 6) s0_40 (by decide) (by decide)) (by decide) (Nat.le_of_ble_eq_true rfl) ?_
                refine wp_deep (d1 := d + n + 3) (by omega) (c_X7_turns_r hw hR n (back := true) (d := d) (by omega) hb (fun F2 hF2 hb2 => ?_))
                have hs2 := hs.tr hF2
                refine wp_istore (pc := 139) 4 dX7_turns_139 (by decide) rfl ?_
                refine wp_aload_n (pc := 141) 0 dX7_turns_141 rfl rfl ?_
                refine wp_iload (pc := 142) 5 dX7_turns_142 rfl ?_
                refine wq_putI (pc := 144) 190 12 dX7_turns_144 s0_40 flX7_190 rfl rfl (by decide) ?_
                refine wp_iload (pc := 147) 4 dX7_turns_147 rfl ?_
                refine wp_iretI (pc := 149) dX7_turns_149 rfl ?_
                have e := mm_n ho
                rw [e] at kk
                exact kk _ hs2.u (up_eq.trans (bgn_s ho))
          · exact absurd (Int32.le_refl _) c_30
        · have hj := (bestU_lt ho).1
          refine wp_to (lv' := [.ref 40, .int (nI b), .int (nI (n + 1)), .int 0, .int (nI (vU f n b false j)), .int (nI j), .int (nI (f 68)), .null]) ?_ rfl rfl rfl
          refine wp_iload (pc := 24) 6 dX7_turns_24 rfl ?_
          refine wp_aload_n (pc := 26) 0 dX7_turns_26 rfl rfl ?_
          refine wc_V_ (pc := 27) dX7_turns_27 lkX7_57 (sm_Rc.o (ci := 6) s0_40 (by decide) (by decide)) (by decide) (Nat.le_of_ble_eq_true rfl) ?_
          refine c_X7_many hw hR ?_
          refine wp_icmp_ge (pc := 30) 116 dX7_turns_30 (by decide) (fun c_30 => ?_) (fun c_30 => ?_)
          · refine wp_iload (pc := 116) 5 dX7_turns_116 rfl ?_
            refine wp_iconst (pc := 118) (-1) dX7_turns_118 (by decide) ?_
            refine wp_icmp_ne (pc := 119) 141 dX7_turns_119 (by decide) (fun c_119 => ?_) (fun c_119 => ?_)
            · refine wp_aload_n (pc := 141) 0 dX7_turns_141 rfl rfl ?_
              refine wp_iload (pc := 142) 5 dX7_turns_142 rfl ?_
              refine wq_putI (pc := 144) 190 12 dX7_turns_144 s0_40 flX7_190 rfl rfl (by decide) ?_
              refine wp_iload (pc := 147) 4 dX7_turns_147 rfl ?_
              refine wp_iretI (pc := 149) dX7_turns_149 rfl ?_
              have e := mm_s ho
              rw [e] at kk
              exact kk _ hs.u (up_eq.trans (bgn_s ho))
            · exact absurd c_119 (m1_ne (by omega))
          · exact absurd (Int32.le_refl _) c_30
    · exact absurd c_1 (nI_ne0 (by omega) (by omega))
theorem c_X7_parishes {d : Nat} {F I : Nat → Nat → Int32} {J : Nat → Nat → Int64} {Q : Option Value → sm_H → Prop} {x y : Int32} {s : Sg} (hM : MR s F I J) (ok : Ok s) (k : ∀ F1 I1 J1, MR (do_parishes s x y).2 F1 I1 J1 → Lo F I J F1 I1 J1 → Q (some (.int (do_parishes s x y).1)) (S0, F1, I1, J1)) : Wp mX7_parishes (d + 9) 0 0 0 (sm_ini [.ref 40, .int x, .int y] 4) [] (S0, F, I, J) Q := by
  show Wp _ _ _ _ _ [.ref 40, .int x, .int y, .null] _ _ _
  have hw := ok.1
  have hR := hM.1
  have hn := hw.n
  have hcw := hw.c
  have hbn := bn_1024 hw
  have hbl := bn_lt hw
  have hp2 := p2n hw
  have hh1 := hw.wth
  have hh2 := hw.crk
  have hh3 := hw.year
  refine wp_iload_n (pc := 0) 1 dX7_parishes_0 rfl rfl ?_
  refine wp_iconst (pc := 1) (0) dX7_parishes_1 (by decide) ?_
  refine wp_iconst (pc := 2) (5) dX7_parishes_2 (by decide) ?_
  refine wc_S_III (pc := 3) dX7_parishes_3 lkX7_49 (by decide) (Nat.le_of_ble_eq_true rfl) ?_
  refine c_X7_isIn ?_
  refine wp_ifeqB (pc := 6) 18 dX7_parishes_6 (by decide) (fun c_6 => ?_) (fun c_6 => ?_)
  · refine wp_aload_n (pc := 18) 0 dX7_parishes_18 rfl rfl ?_
    refine wp_bipush (pc := 19) (-2) dX7_parishes_19 (by decide) ?_
    refine wc_V_I (pc := 21) dX7_parishes_21 lkX7_81 (sm_Rc.o (ci := 6) s0_40 (by decide) (by decide)) (by decide) (Nat.le_of_ble_eq_true rfl) ?_
    refine c_X7_no_0 ?_
    refine wp_iretI (pc := 24) dX7_parishes_24 rfl ?_
    unfold do_parishes at k
    rw [qry_f (c := (upB x 5 && (upB y 1))) (and_f1 c_6)] at k
    exact k _ _ _ (hM.bmp (by decide)) (Lo.rf.uI (by decide))
  · obtain ⟨v, hv, rfl⟩ := (i32_le (n := 5) (by decide)).mp (of_decide_eq_true c_6)
    refine wp_iload_n (pc := 9) 2 dX7_parishes_9 rfl rfl ?_
    refine wp_iconst (pc := 10) (0) dX7_parishes_10 (by decide) ?_
    refine wp_iconst (pc := 11) (1) dX7_parishes_11 (by decide) ?_
    refine wc_S_III (pc := 12) dX7_parishes_12 lkX7_49 (by decide) (Nat.le_of_ble_eq_true rfl) ?_
    refine c_X7_isIn ?_
    refine wp_ifneB (pc := 15) 25 dX7_parishes_15 (by decide) (fun c_15 => ?_) (fun c_15 => ?_)
    · refine wp_aload_n (pc := 25) 0 dX7_parishes_25 rfl rfl ?_
      refine wp_aload_n (pc := 26) 0 dX7_parishes_26 rfl rfl ?_
      refine wc_V_ (pc := 27) dX7_parishes_27 lkX7_135 (sm_Rc.o (ci := 6) s0_40 (by decide) (by decide)) (by decide) (Nat.le_of_ble_eq_true rfl) ?_
      refine c_X7_been hw hR ?_
      refine wp_iload_n (pc := 30) 1 dX7_parishes_30 rfl rfl ?_
      refine wp_iconst (pc := 31) (1) dX7_parishes_31 (by decide) ?_
      refine wc_V_III (pc := 32) dX7_parishes_32 lkX7_193 (sm_Rc.o (ci := 6) s0_40 (by decide) (by decide)) (by decide) (Nat.le_of_ble_eq_true rfl) ?_
      refine wp_deep (d1 := d + v + 3) (by omega) (c_X7_turns_r hw hR v (back := true) (by omega) hbl (fun F1 hF1 hb1 => ?_))
      refine wp_istore_n (pc := 35) 3 dX7_parishes_35 rfl (by decide) rfl ?_
      refine wp_iload_n (pc := 36) 2 dX7_parishes_36 rfl rfl ?_
      refine wp_ifne (pc := 37) 44 dX7_parishes_37 (by decide) (fun c_37 => ?_) (fun c_37 => ?_)
      · refine wp_aload_n (pc := 44) 0 dX7_parishes_44 rfl rfl ?_
        refine wq_getI (pc := 45) 190 12 dX7_parishes_45 s0_40 flX7_190 rfl (by decide) ?_
        refine wp_int (hb1.trans (bgn_fp _ _)) ?_
        refine wp_iretI (pc := 48) dX7_parishes_48 rfl ?_
        unfold do_parishes at k
        rw [qry_t (c := (upB (nI v) 5 && (upB y 1))) (and_tt c_6 c_15)] at k
        rw [nI_clamp (by omega)] at k
        rw [if_neg c_37] at k
        exact k _ _ _ (hM.scr (hF1 _ _ (by decide)) (hF1 _ _ (by decide)) (fun _ _ => rfl) (fun _ _ => rfl)) hF1.lo
      · refine wp_iload_n (pc := 40) 3 dX7_parishes_40 rfl rfl ?_
        refine wp_goto (pc := 41) 48 dX7_parishes_41 (by decide) ?_
        refine wp_iretI (pc := 48) dX7_parishes_48 rfl ?_
        unfold do_parishes at k
        rw [qry_t (c := (upB (nI v) 5 && (upB y 1))) (and_tt c_6 c_15)] at k
        rw [nI_clamp (by omega)] at k
        rw [if_pos c_37] at k
        exact k _ _ _ (hM.scr (hF1 _ _ (by decide)) (hF1 _ _ (by decide)) (fun _ _ => rfl) (fun _ _ => rfl)) hF1.lo
    · refine wp_aload_n (pc := 18) 0 dX7_parishes_18 rfl rfl ?_
      refine wp_bipush (pc := 19) (-2) dX7_parishes_19 (by decide) ?_
      refine wc_V_I (pc := 21) dX7_parishes_21 lkX7_81 (sm_Rc.o (ci := 6) s0_40 (by decide) (by decide)) (by decide) (Nat.le_of_ble_eq_true rfl) ?_
      refine c_X7_no_0 ?_
      refine wp_iretI (pc := 24) dX7_parishes_24 rfl ?_
      unfold do_parishes at k
      rw [qry_f (c := (upB (nI v) 5 && (upB y 1))) (and_f2 c_15)] at k
      exact k _ _ _ (hM.bmp (by decide)) (Lo.rf.uI (by decide))
theorem c_X7_off {d : Nat} {F I : Nat → Nat → Int32} {J : Nat → Nat → Int64} {Q : Option Value → sm_H → Prop} {x : Int32} {s : Sg} (hM : MR s F I J) (ok : Ok s) (k : ∀ F1 I1 J1, MR (do_off s x).2 F1 I1 J1 → Lo F I J F1 I1 J1 → Q (some (.int (do_off s x).1)) (S0, F1, I1, J1)) : Wp mX7_off (d + 3) 0 0 0 (sm_ini [.ref 40, .int x] 2) [] (S0, F, I, J) Q := by
  show Wp _ _ _ _ _ [.ref 40, .int x] _ _ _
  have hw := ok.1
  have hR := hM.1
  have hn := hw.n
  have hcw := hw.c
  have hbn := bn_1024 hw
  have hbl := bn_lt hw
  have hp2 := p2n hw
  have hh1 := hw.wth
  have hh2 := hw.crk
  have hh3 := hw.year
  refine wp_aload_n (pc := 0) 0 dX7_off_0 rfl rfl ?_
  refine wp_iload_n (pc := 1) 1 dX7_off_1 rfl rfl ?_
  refine wc_V_I (pc := 2) dX7_off_2 lkX7_90 (sm_Rc.o (ci := 6) s0_40 (by decide) (by decide)) (by decide) (Nat.le_of_ble_eq_true rfl) ?_
  refine c_X7_isThing hw hR ?_
  refine wp_ifeqB (pc := 5) 16 dX7_off_5 (by decide) (fun c_5 => ?_) (fun c_5 => ?_)
  · refine wp_aload_n (pc := 16) 0 dX7_off_16 rfl rfl ?_
    refine wp_bipush (pc := 17) (-2) dX7_off_17 (by decide) ?_
    refine wc_V_I (pc := 19) dX7_off_19 lkX7_81 (sm_Rc.o (ci := 6) s0_40 (by decide) (by decide)) (by decide) (Nat.le_of_ble_eq_true rfl) ?_
    refine c_X7_no_0 ?_
    refine wp_iretI (pc := 22) dX7_off_22 rfl ?_
    unfold do_off at k
    rw [qry_f (c := (isTh s x)) c_5] at k
    exact k _ _ _ (hM.bmp (by decide)) (Lo.rf.uI (by decide))
  · obtain ⟨i, hi0, rfl⟩ := (i32_in (by omega)).mp (of_decide_eq_true c_5)
    have hi : i < 10 := by omega
    refine wp_aload_n (pc := 8) 0 dX7_off_8 rfl rfl ?_
    refine wp_iload_n (pc := 9) 1 dX7_off_9 rfl rfl ?_
    refine wc_V_I (pc := 10) dX7_off_10 lkX7_174 (sm_Rc.o (ci := 6) s0_40 (by decide) (by decide)) (by decide) (Nat.le_of_ble_eq_true rfl) ?_
    refine c_X7_offBy hw hR (by omega) ?_
    refine wp_goto (pc := 13) 22 dX7_off_13 (by decide) ?_
    refine wp_iretI (pc := 22) dX7_off_22 rfl ?_
    unfold do_off at k
    rw [qry_t (c := (isTh s (nI i))) c_5] at k
    rw [nI_clamp (by omega)] at k
    exact k _ _ _ hM Lo.rf
theorem c_X7_down {d : Nat} {F I : Nat → Nat → Int32} {J : Nat → Nat → Int64} {Q : Option Value → sm_H → Prop} {x : Int32} {s : Sg} (hM : MR s F I J) (ok : Ok s) (k : ∀ F1 I1 J1, MR (do_down s x).2 F1 I1 J1 → Lo F I J F1 I1 J1 → Q (some (.int (do_down s x).1)) (S0, F1, I1, J1)) : Wp mX7_down (d + 2) 0 0 0 (sm_ini [.ref 40, .int x] 2) [] (S0, F, I, J) Q := by
  show Wp _ _ _ _ _ [.ref 40, .int x] _ _ _
  have hw := ok.1
  have hR := hM.1
  have hn := hw.n
  have hcw := hw.c
  have hbn := bn_1024 hw
  have hbl := bn_lt hw
  have hp2 := p2n hw
  have hh1 := hw.wth
  have hh2 := hw.crk
  have hh3 := hw.year
  refine wp_aload_n (pc := 0) 0 dX7_down_0 rfl rfl ?_
  refine wp_iload_n (pc := 1) 1 dX7_down_1 rfl rfl ?_
  refine wc_V_I (pc := 2) dX7_down_2 lkX7_90 (sm_Rc.o (ci := 6) s0_40 (by decide) (by decide)) (by decide) (Nat.le_of_ble_eq_true rfl) ?_
  refine c_X7_isThing hw hR ?_
  refine wp_ifeqB (pc := 5) 16 dX7_down_5 (by decide) (fun c_5 => ?_) (fun c_5 => ?_)
  · refine wp_aload_n (pc := 16) 0 dX7_down_16 rfl rfl ?_
    refine wp_bipush (pc := 17) (-2) dX7_down_17 (by decide) ?_
    refine wc_V_I (pc := 19) dX7_down_19 lkX7_81 (sm_Rc.o (ci := 6) s0_40 (by decide) (by decide)) (by decide) (Nat.le_of_ble_eq_true rfl) ?_
    refine c_X7_no_0 ?_
    refine wp_iretI (pc := 22) dX7_down_22 rfl ?_
    unfold do_down at k
    rw [qry_f (c := (isTh s x)) c_5] at k
    exact k _ _ _ (hM.bmp (by decide)) (Lo.rf.uI (by decide))
  · obtain ⟨i, hi0, rfl⟩ := (i32_in (by omega)).mp (of_decide_eq_true c_5)
    have hi : i < 10 := by omega
    refine wp_aload_n (pc := 8) 0 dX7_down_8 rfl rfl ?_
    refine wp_iload_n (pc := 9) 1 dX7_down_9 rfl rfl ?_
    refine wc_V_I (pc := 10) dX7_down_10 lkX7_177 (sm_Rc.o (ci := 6) s0_40 (by decide) (by decide)) (by decide) (Nat.le_of_ble_eq_true rfl) ?_
    refine c_X7_downOf hw hR (by omega) ?_
    refine wp_goto (pc := 13) 22 dX7_down_13 (by decide) ?_
    refine wp_iretI (pc := 22) dX7_down_22 rfl ?_
    unfold do_down at k
    rw [qry_t (c := (isTh s (nI i))) c_5] at k
    rw [nI_clamp (by omega)] at k
    exact k _ _ _ hM Lo.rf
theorem c_X7_depth {d : Nat} {F I : Nat → Nat → Int32} {J : Nat → Nat → Int64} {Q : Option Value → sm_H → Prop} {x : Int32} {s : Sg} (hM : MR s F I J) (ok : Ok s) (k : ∀ F1 I1 J1, MR (do_depth s x).2 F1 I1 J1 → Lo F I J F1 I1 J1 → Q (some (.int (do_depth s x).1)) (S0, F1, I1, J1)) : Wp mX7_depth (d + 11) 0 0 0 (sm_ini [.ref 40, .int x] 2) [] (S0, F, I, J) Q := by
  show Wp _ _ _ _ _ [.ref 40, .int x] _ _ _
  have hw := ok.1
  have hR := hM.1
  have hn := hw.n
  have hcw := hw.c
  have hbn := bn_1024 hw
  have hbl := bn_lt hw
  have hp2 := p2n hw
  have hh1 := hw.wth
  have hh2 := hw.crk
  have hh3 := hw.year
  refine wp_aload_n (pc := 0) 0 dX7_depth_0 rfl rfl ?_
  refine wp_iload_n (pc := 1) 1 dX7_depth_1 rfl rfl ?_
  refine wc_V_I (pc := 2) dX7_depth_2 lkX7_90 (sm_Rc.o (ci := 6) s0_40 (by decide) (by decide)) (by decide) (Nat.le_of_ble_eq_true rfl) ?_
  refine c_X7_isThing hw hR ?_
  refine wp_ifeqB (pc := 5) 16 dX7_depth_5 (by decide) (fun c_5 => ?_) (fun c_5 => ?_)
  · refine wp_aload_n (pc := 16) 0 dX7_depth_16 rfl rfl ?_
    refine wp_bipush (pc := 17) (-2) dX7_depth_17 (by decide) ?_
    refine wc_V_I (pc := 19) dX7_depth_19 lkX7_81 (sm_Rc.o (ci := 6) s0_40 (by decide) (by decide)) (by decide) (Nat.le_of_ble_eq_true rfl) ?_
    refine c_X7_no_0 ?_
    refine wp_iretI (pc := 22) dX7_depth_22 rfl ?_
    unfold do_depth at k
    rw [qry_f (c := (isTh s x)) c_5] at k
    exact k _ _ _ (hM.bmp (by decide)) (Lo.rf.uI (by decide))
  · obtain ⟨i, hi0, rfl⟩ := (i32_in (by omega)).mp (of_decide_eq_true c_5)
    have hi : i < 10 := by omega
    refine wp_aload_n (pc := 8) 0 dX7_depth_8 rfl rfl ?_
    refine wp_iload_n (pc := 9) 1 dX7_depth_9 rfl rfl ?_
    refine wc_V_I (pc := 10) dX7_depth_10 lkX7_201 (sm_Rc.o (ci := 6) s0_40 (by decide) (by decide)) (by decide) (Nat.le_of_ble_eq_true rfl) ?_
    refine c_X7_depthOf hw hR (by omega) ?_
    refine wp_goto (pc := 13) 22 dX7_depth_13 (by decide) ?_
    refine wp_iretI (pc := 22) dX7_depth_22 rfl ?_
    unfold do_depth at k
    rw [qry_t (c := (isTh s (nI i))) c_5] at k
    rw [nI_clamp (by omega)] at k
    exact k _ _ _ hM Lo.rf
theorem c_X7_soon {d : Nat} {F I : Nat → Nat → Int32} {J : Nat → Nat → Int64} {Q : Option Value → sm_H → Prop} {x : Int32} {s : Sg} (hM : MR s F I J) (ok : Ok s) (k : ∀ F1 I1 J1, MR (do_soon s x).2 F1 I1 J1 → Lo F I J F1 I1 J1 → Q (some (.int (do_soon s x).1)) (S0, F1, I1, J1)) : Wp mX7_soon (d + 2) 0 0 0 (sm_ini [.ref 40, .int x] 2) [] (S0, F, I, J) Q := by
  show Wp _ _ _ _ _ [.ref 40, .int x] _ _ _
  have hw := ok.1
  have hR := hM.1
  have hn := hw.n
  have hcw := hw.c
  have hbn := bn_1024 hw
  have hbl := bn_lt hw
  have hp2 := p2n hw
  have hh1 := hw.wth
  have hh2 := hw.crk
  have hh3 := hw.year
  refine wp_aload_n (pc := 0) 0 dX7_soon_0 rfl rfl ?_
  refine wp_iload_n (pc := 1) 1 dX7_soon_1 rfl rfl ?_
  refine wc_V_I (pc := 2) dX7_soon_2 lkX7_90 (sm_Rc.o (ci := 6) s0_40 (by decide) (by decide)) (by decide) (Nat.le_of_ble_eq_true rfl) ?_
  refine c_X7_isThing hw hR ?_
  refine wp_ifeqB (pc := 5) 18 dX7_soon_5 (by decide) (fun c_5 => ?_) (fun c_5 => ?_)
  · refine wp_aload_n (pc := 18) 0 dX7_soon_18 rfl rfl ?_
    refine wp_bipush (pc := 19) (-2) dX7_soon_19 (by decide) ?_
    refine wc_V_I (pc := 21) dX7_soon_21 lkX7_81 (sm_Rc.o (ci := 6) s0_40 (by decide) (by decide)) (by decide) (Nat.le_of_ble_eq_true rfl) ?_
    refine c_X7_no_0 ?_
    refine wp_iretI (pc := 24) dX7_soon_24 rfl ?_
    unfold do_soon at k
    rw [qry_f (c := (isTh s x)) c_5] at k
    exact k _ _ _ (hM.bmp (by decide)) (Lo.rf.uI (by decide))
  · obtain ⟨i, hi0, rfl⟩ := (i32_in (by omega)).mp (of_decide_eq_true c_5)
    have hi : i < 10 := by omega
    have hpi := p2_lt hi
    refine wp_aload_n (pc := 8) 0 dX7_soon_8 rfl rfl ?_
    refine wp_iconst (pc := 9) (1) dX7_soon_9 (by decide) ?_
    refine wp_iload_n (pc := 10) 1 dX7_soon_10 rfl rfl ?_
    refine wp_ishl (pc := 11) dX7_soon_11 ?_
    refine wp_int (bt_one (by omega)) ?_
    refine wc_V_I (pc := 12) dX7_soon_12 lkX7_187 (sm_Rc.o (ci := 6) s0_40 (by decide) (by decide)) (by decide) (Nat.le_of_ble_eq_true rfl) ?_
    refine c_X7_untilAll hw hR (by omega) ?_
    refine wp_goto (pc := 15) 24 dX7_soon_15 (by decide) ?_
    refine wp_iretI (pc := 24) dX7_soon_24 rfl ?_
    unfold do_soon at k
    rw [qry_t (c := (isTh s (nI i))) c_5] at k
    rw [nI_clamp (by omega)] at k
    exact k _ _ _ hM Lo.rf
theorem c_X7_alone {d : Nat} {F I : Nat → Nat → Int32} {J : Nat → Nat → Int64} {Q : Option Value → sm_H → Prop} {x : Int32} {s : Sg} (hM : MR s F I J) (ok : Ok s) (k : ∀ F1 I1 J1, MR (do_alone s x).2 F1 I1 J1 → Lo F I J F1 I1 J1 → Q (some (.int (do_alone s x).1)) (S0, F1, I1, J1)) : Wp mX7_alone (d + 3) 0 0 0 (sm_ini [.ref 40, .int x] 2) [] (S0, F, I, J) Q := by
  show Wp _ _ _ _ _ [.ref 40, .int x] _ _ _
  have hw := ok.1
  have hR := hM.1
  have hn := hw.n
  have hcw := hw.c
  have hbn := bn_1024 hw
  have hbl := bn_lt hw
  have hp2 := p2n hw
  have hh1 := hw.wth
  have hh2 := hw.crk
  have hh3 := hw.year
  have hs1 := sta_1024 (sgf s) (bn (sgf s))
  refine wp_aload_n (pc := 0) 0 dX7_alone_0 rfl rfl ?_
  refine wp_iload_n (pc := 1) 1 dX7_alone_1 rfl rfl ?_
  refine wc_V_I (pc := 2) dX7_alone_2 lkX7_90 (sm_Rc.o (ci := 6) s0_40 (by decide) (by decide)) (by decide) (Nat.le_of_ble_eq_true rfl) ?_
  refine c_X7_isThing hw hR ?_
  refine wp_ifeqB (pc := 5) 30 dX7_alone_5 (by decide) (fun c_5 => ?_) (fun c_5 => ?_)
  · refine wp_aload_n (pc := 30) 0 dX7_alone_30 rfl rfl ?_
    refine wp_bipush (pc := 31) (-2) dX7_alone_31 (by decide) ?_
    refine wc_V_I (pc := 33) dX7_alone_33 lkX7_81 (sm_Rc.o (ci := 6) s0_40 (by decide) (by decide)) (by decide) (Nat.le_of_ble_eq_true rfl) ?_
    refine c_X7_no_0 ?_
    refine wp_iretI (pc := 36) dX7_alone_36 rfl ?_
    unfold do_alone at k
    rw [qry_f (c := (isTh s x)) c_5] at k
    exact k _ _ _ (hM.bmp (by decide)) (Lo.rf.uI (by decide))
  · obtain ⟨i, hi0, rfl⟩ := (i32_in (by omega)).mp (of_decide_eq_true c_5)
    have hi : i < 10 := by omega
    refine wp_aload_n (pc := 8) 0 dX7_alone_8 rfl rfl ?_
    refine wp_iload_n (pc := 9) 1 dX7_alone_9 rfl rfl ?_
    refine wc_V_I (pc := 10) dX7_alone_10 lkX7_174 (sm_Rc.o (ci := 6) s0_40 (by decide) (by decide)) (by decide) (Nat.le_of_ble_eq_true rfl) ?_
    refine c_X7_offBy hw hR (by omega) ?_
    refine wp_iconst (pc := 13) (1) dX7_alone_13 (by decide) ?_
    refine wp_iload_n (pc := 14) 1 dX7_alone_14 rfl rfl ?_
    refine wp_ishl (pc := 15) dX7_alone_15 ?_
    refine wp_int (bt_one (by omega)) ?_
    refine wp_iconst (pc := 16) (-1) dX7_alone_16 (by decide) ?_
    refine wp_ixor (pc := 17) dX7_alone_17 ?_
    refine wp_iand (pc := 18) dX7_alone_18 ?_
    refine wp_int (bt_dif _ _) ?_
    refine wp_ifne (pc := 19) 26 dX7_alone_19 (by decide) (fun c_19 => ?_) (fun c_19 => ?_)
    · refine wp_iconst (pc := 26) (0) dX7_alone_26 (by decide) ?_
      refine wp_goto (pc := 27) 36 dX7_alone_27 (by decide) ?_
      refine wp_iretI (pc := 36) dX7_alone_36 rfl ?_
      unfold do_alone at k
      rw [qry_t (c := (isTh s (nI i))) c_5] at k
      rw [nI_clamp (by omega)] at k
      rw [decide_eq_false (fun z => c_19 (by rw [z]; rfl))] at k
      exact k _ _ _ hM Lo.rf
    · refine wp_iconst (pc := 22) (1) dX7_alone_22 (by decide) ?_
      refine wp_goto (pc := 23) 36 dX7_alone_23 (by decide) ?_
      refine wp_iretI (pc := 36) dX7_alone_36 rfl ?_
      unfold do_alone at k
      rw [qry_t (c := (isTh s (nI i))) c_5] at k
      rw [nI_clamp (by omega)] at k
      rw [decide_eq_true ((nIz (dif_1024 _ (dif_1024 _ hs1))).mp c_19)] at k
      exact k _ _ _ hM Lo.rf
theorem c_X7_until {d : Nat} {F I : Nat → Nat → Int32} {J : Nat → Nat → Int64} {Q : Option Value → sm_H → Prop} {x : Int32} {s : Sg} (hM : MR s F I J) (ok : Ok s) (k : ∀ F1 I1 J1, MR (do_until s x).2 F1 I1 J1 → Lo F I J F1 I1 J1 → Q (some (.int (do_until s x).1)) (S0, F1, I1, J1)) : Wp mX7_until (d + 2) 0 0 0 (sm_ini [.ref 40, .int x] 2) [] (S0, F, I, J) Q := by
  show Wp _ _ _ _ _ [.ref 40, .int x] _ _ _
  have hw := ok.1
  have hR := hM.1
  have hn := hw.n
  have hcw := hw.c
  have hbn := bn_1024 hw
  have hbl := bn_lt hw
  have hp2 := p2n hw
  have hh1 := hw.wth
  have hh2 := hw.crk
  have hh3 := hw.year
  refine wp_aload_n (pc := 0) 0 dX7_until_0 rfl rfl ?_
  refine wp_iload_n (pc := 1) 1 dX7_until_1 rfl rfl ?_
  refine wc_V_I (pc := 2) dX7_until_2 lkX7_180 (sm_Rc.o (ci := 6) s0_40 (by decide) (by decide)) (by decide) (Nat.le_of_ble_eq_true rfl) ?_
  refine c_X7_areThings hw hR ?_
  refine wp_ifeqB (pc := 5) 16 dX7_until_5 (by decide) (fun c_5 => ?_) (fun c_5 => ?_)
  · refine wp_aload_n (pc := 16) 0 dX7_until_16 rfl rfl ?_
    refine wp_bipush (pc := 17) (-2) dX7_until_17 (by decide) ?_
    refine wc_V_I (pc := 19) dX7_until_19 lkX7_81 (sm_Rc.o (ci := 6) s0_40 (by decide) (by decide)) (by decide) (Nat.le_of_ble_eq_true rfl) ?_
    refine c_X7_no_0 ?_
    refine wp_iretI (pc := 22) dX7_until_22 rfl ?_
    unfold do_until at k
    rw [qry_f (c := (arTh s x)) c_5] at k
    exact k _ _ _ (hM.bmp (by decide)) (Lo.rf.uI (by decide))
  · have hp2 := p2n hw
    obtain ⟨b, hb0, rfl⟩ := (i32_in (by omega)).mp (of_decide_eq_true c_5)
    have hb : b < 1024 := by omega
    refine wp_aload_n (pc := 8) 0 dX7_until_8 rfl rfl ?_
    refine wp_iload_n (pc := 9) 1 dX7_until_9 rfl rfl ?_
    refine wc_V_I (pc := 10) dX7_until_10 lkX7_187 (sm_Rc.o (ci := 6) s0_40 (by decide) (by decide)) (by decide) (Nat.le_of_ble_eq_true rfl) ?_
    refine c_X7_untilAll hw hR (by omega) ?_
    refine wp_goto (pc := 13) 22 dX7_until_13 (by decide) ?_
    refine wp_iretI (pc := 22) dX7_until_22 rfl ?_
    unfold do_until at k
    rw [qry_t (c := (arTh s (nI b))) c_5] at k
    rw [nI_clamp (by omega)] at k
    exact k _ _ _ hM Lo.rf
theorem c_X7_well {d : Nat} {F I : Nat → Nat → Int32} {J : Nat → Nat → Int64} {Q : Option Value → sm_H → Prop} {x : Int32} {s : Sg} (hM : MR s F I J) (ok : Ok s) (k : ∀ F1 I1 J1, MR (do_well s x).2 F1 I1 J1 → Lo F I J F1 I1 J1 → Q (some (.int (do_well s x).1)) (S0, F1, I1, J1)) : Wp mX7_well (d + 5) 0 0 0 (sm_ini [.ref 40, .int x] 2) [] (S0, F, I, J) Q := by
  show Wp _ _ _ _ _ [.ref 40, .int x] _ _ _
  have hw := ok.1
  have hR := hM.1
  have hn := hw.n
  have hcw := hw.c
  have hbn := bn_1024 hw
  have hbl := bn_lt hw
  have hp2 := p2n hw
  have hh1 := hw.wth
  have hh2 := hw.crk
  have hh3 := hw.year
  refine wp_aload_n (pc := 0) 0 dX7_well_0 rfl rfl ?_
  refine wp_iload_n (pc := 1) 1 dX7_well_1 rfl rfl ?_
  refine wc_V_I (pc := 2) dX7_well_2 lkX7_162 (sm_Rc.o (ci := 6) s0_40 (by decide) (by decide)) (by decide) (Nat.le_of_ble_eq_true rfl) ?_
  refine c_X7_areRingers hw hR ?_
  refine wp_ifeqB (pc := 5) 16 dX7_well_5 (by decide) (fun c_5 => ?_) (fun c_5 => ?_)
  · refine wp_aload_n (pc := 16) 0 dX7_well_16 rfl rfl ?_
    refine wp_bipush (pc := 17) (-2) dX7_well_17 (by decide) ?_
    refine wc_V_I (pc := 19) dX7_well_19 lkX7_81 (sm_Rc.o (ci := 6) s0_40 (by decide) (by decide)) (by decide) (Nat.le_of_ble_eq_true rfl) ?_
    refine c_X7_no_0 ?_
    refine wp_iretI (pc := 22) dX7_well_22 rfl ?_
    unfold do_well at k
    rw [qry_f (c := (arRg s x)) c_5] at k
    exact k _ _ _ (hM.bmp (by decide)) (Lo.rf.uI (by decide))
  · have hc6 := hw.c
    have hp6 : 2 ^ sgf s 69 ≤ 2 ^ 6 := Nat.pow_le_pow_right (by decide) hc6
    obtain ⟨b, hb0, rfl⟩ := (i32_in (by omega)).mp (of_decide_eq_true c_5)
    have hb : b < 64 := by omega
    refine wp_aload_n (pc := 8) 0 dX7_well_8 rfl rfl ?_
    refine wp_iload_n (pc := 9) 1 dX7_well_9 rfl rfl ?_
    refine wc_V_I (pc := 10) dX7_well_10 lkX7_165 (sm_Rc.o (ci := 6) s0_40 (by decide) (by decide)) (by decide) (Nat.le_of_ble_eq_true rfl) ?_
    refine c_X7_wellOf hw hR hb0 ?_
    refine wp_goto (pc := 13) 22 dX7_well_13 (by decide) ?_
    refine wp_iretI (pc := 22) dX7_well_22 rfl ?_
    unfold do_well at k
    rw [qry_t (c := (arRg s (nI b))) c_5] at k
    rw [nI_clamp (by omega)] at k
    exact k _ _ _ hM Lo.rf
theorem c_X7_common {d : Nat} {F I : Nat → Nat → Int32} {J : Nat → Nat → Int64} {Q : Option Value → sm_H → Prop} {x y : Int32} {s : Sg} (hM : MR s F I J) (ok : Ok s) (k : ∀ F1 I1 J1, MR (do_common s x y).2 F1 I1 J1 → Lo F I J F1 I1 J1 → Q (some (.int (do_common s x y).1)) (S0, F1, I1, J1)) : Wp mX7_common (d + 2) 0 0 0 (sm_ini [.ref 40, .int x, .int y] 3) [] (S0, F, I, J) Q := by
  show Wp _ _ _ _ _ [.ref 40, .int x, .int y] _ _ _
  have hw := ok.1
  have hR := hM.1
  have hn := hw.n
  have hcw := hw.c
  have hbn := bn_1024 hw
  have hbl := bn_lt hw
  have hp2 := p2n hw
  have hh1 := hw.wth
  have hh2 := hw.crk
  have hh3 := hw.year
  refine wp_aload_n (pc := 0) 0 dX7_common_0 rfl rfl ?_
  refine wp_iload_n (pc := 1) 1 dX7_common_1 rfl rfl ?_
  refine wc_V_I (pc := 2) dX7_common_2 lkX7_90 (sm_Rc.o (ci := 6) s0_40 (by decide) (by decide)) (by decide) (Nat.le_of_ble_eq_true rfl) ?_
  refine c_X7_isThing hw hR ?_
  refine wp_ifeqB (pc := 5) 30 dX7_common_5 (by decide) (fun c_5 => ?_) (fun c_5 => ?_)
  · refine wp_aload_n (pc := 30) 0 dX7_common_30 rfl rfl ?_
    refine wp_bipush (pc := 31) (-2) dX7_common_31 (by decide) ?_
    refine wc_V_I (pc := 33) dX7_common_33 lkX7_81 (sm_Rc.o (ci := 6) s0_40 (by decide) (by decide)) (by decide) (Nat.le_of_ble_eq_true rfl) ?_
    refine c_X7_no_0 ?_
    refine wp_iretI (pc := 36) dX7_common_36 rfl ?_
    unfold do_common at k
    rw [qry_f (c := (isTh s x && (isTh s y))) (and_f1 c_5)] at k
    exact k _ _ _ (hM.bmp (by decide)) (Lo.rf.uI (by decide))
  · obtain ⟨i, hi0, rfl⟩ := (i32_in (by omega)).mp (of_decide_eq_true c_5)
    have hi : i < 10 := by omega
    refine wp_aload_n (pc := 8) 0 dX7_common_8 rfl rfl ?_
    refine wp_iload_n (pc := 9) 2 dX7_common_9 rfl rfl ?_
    refine wc_V_I (pc := 10) dX7_common_10 lkX7_90 (sm_Rc.o (ci := 6) s0_40 (by decide) (by decide)) (by decide) (Nat.le_of_ble_eq_true rfl) ?_
    refine c_X7_isThing hw hR ?_
    refine wp_ifeqB (pc := 13) 30 dX7_common_13 (by decide) (fun c_13 => ?_) (fun c_13 => ?_)
    · refine wp_aload_n (pc := 30) 0 dX7_common_30 rfl rfl ?_
      refine wp_bipush (pc := 31) (-2) dX7_common_31 (by decide) ?_
      refine wc_V_I (pc := 33) dX7_common_33 lkX7_81 (sm_Rc.o (ci := 6) s0_40 (by decide) (by decide)) (by decide) (Nat.le_of_ble_eq_true rfl) ?_
      refine c_X7_no_0 ?_
      refine wp_iretI (pc := 36) dX7_common_36 rfl ?_
      unfold do_common at k
      rw [qry_f (c := (isTh s (nI i) && (isTh s y))) (and_f2 c_13)] at k
      exact k _ _ _ (hM.bmp (by decide)) (Lo.rf.uI (by decide))
    · obtain ⟨j, hj0, rfl⟩ := (i32_in (by omega)).mp (of_decide_eq_true c_13)
      have hj : j < 10 := by omega
      refine wp_aload_n (pc := 16) 0 dX7_common_16 rfl rfl ?_
      refine wp_iload_n (pc := 17) 1 dX7_common_17 rfl rfl ?_
      refine wc_V_I (pc := 18) dX7_common_18 lkX7_177 (sm_Rc.o (ci := 6) s0_40 (by decide) (by decide)) (by decide) (Nat.le_of_ble_eq_true rfl) ?_
      refine c_X7_downOf hw hR (by omega) ?_
      refine wp_aload_n (pc := 21) 0 dX7_common_21 rfl rfl ?_
      refine wp_iload_n (pc := 22) 2 dX7_common_22 rfl rfl ?_
      refine wc_V_I (pc := 23) dX7_common_23 lkX7_177 (sm_Rc.o (ci := 6) s0_40 (by decide) (by decide)) (by decide) (Nat.le_of_ble_eq_true rfl) ?_
      refine c_X7_downOf hw hR (by omega) ?_
      refine wp_iand (pc := 26) dX7_common_26 ?_
      refine wp_int (bt_and _ _) ?_
      refine wp_goto (pc := 27) 36 dX7_common_27 (by decide) ?_
      refine wp_iretI (pc := 36) dX7_common_36 rfl ?_
      unfold do_common at k
      rw [qry_t (c := (isTh s (nI i) && (isTh s (nI j)))) (and_tt c_5 c_13)] at k
      rw [nI_clamp (by omega), nI_clamp (by omega)] at k
      exact k _ _ _ hM Lo.rf
theorem c_X7_worst {d : Nat} {F I : Nat → Nat → Int32} {J : Nat → Nat → Int64} {Q : Option Value → sm_H → Prop} {x : Int32} {s : Sg} (hM : MR s F I J) (ok : Ok s) (k : ∀ F1 I1 J1, MR (do_worst s x).2 F1 I1 J1 → Lo F I J F1 I1 J1 → Q (some (.int (do_worst s x).1)) (S0, F1, I1, J1)) : Wp mX7_worst (d + 4) 0 0 0 (sm_ini [.ref 40, .int x] 2) [] (S0, F, I, J) Q := by
  show Wp _ _ _ _ _ [.ref 40, .int x] _ _ _
  have hw := ok.1
  have hR := hM.1
  have hn := hw.n
  have hcw := hw.c
  have hbn := bn_1024 hw
  have hbl := bn_lt hw
  have hp2 := p2n hw
  have hh1 := hw.wth
  have hh2 := hw.crk
  have hh3 := hw.year
  refine wp_iload_n (pc := 0) 1 dX7_worst_0 rfl rfl ?_
  refine wp_iconst (pc := 1) (0) dX7_worst_1 (by decide) ?_
  refine wp_iconst (pc := 2) (1) dX7_worst_2 (by decide) ?_
  refine wc_S_III (pc := 3) dX7_worst_3 lkX7_49 (by decide) (Nat.le_of_ble_eq_true rfl) ?_
  refine c_X7_isIn ?_
  refine wp_ifeqB (pc := 6) 18 dX7_worst_6 (by decide) (fun c_6 => ?_) (fun c_6 => ?_)
  · refine wp_aload_n (pc := 18) 0 dX7_worst_18 rfl rfl ?_
    refine wp_bipush (pc := 19) (-2) dX7_worst_19 (by decide) ?_
    refine wc_V_I (pc := 21) dX7_worst_21 lkX7_81 (sm_Rc.o (ci := 6) s0_40 (by decide) (by decide)) (by decide) (Nat.le_of_ble_eq_true rfl) ?_
    refine c_X7_no_0 ?_
    refine wp_iretI (pc := 24) dX7_worst_24 rfl ?_
    unfold do_worst at k
    rw [qry_f (c := (upB x 1)) c_6] at k
    exact k _ _ _ (hM.bmp (by decide)) (Lo.rf.uI (by decide))
  · refine wp_aload_n (pc := 9) 0 dX7_worst_9 rfl rfl ?_
    refine wp_iconst (pc := 10) (1) dX7_worst_10 (by decide) ?_
    refine wp_iload_n (pc := 11) 1 dX7_worst_11 rfl rfl ?_
    refine wc_V_II (pc := 12) dX7_worst_12 lkX7_197 (sm_Rc.o (ci := 6) s0_40 (by decide) (by decide)) (by decide) (Nat.le_of_ble_eq_true rfl) ?_
    refine c_X7_extreme_1 hw hR ?_
    refine wp_goto (pc := 15) 24 dX7_worst_15 (by decide) ?_
    refine wp_iretI (pc := 24) dX7_worst_24 rfl ?_
    unfold do_worst at k
    rw [qry_t (c := (upB x 1)) c_6] at k
    exact k _ _ _ hM Lo.rf
theorem c_X7_best {d : Nat} {F I : Nat → Nat → Int32} {J : Nat → Nat → Int64} {Q : Option Value → sm_H → Prop} {x : Int32} {s : Sg} (hM : MR s F I J) (ok : Ok s) (k : ∀ F1 I1 J1, MR (do_best s x).2 F1 I1 J1 → Lo F I J F1 I1 J1 → Q (some (.int (do_best s x).1)) (S0, F1, I1, J1)) : Wp mX7_best (d + 4) 0 0 0 (sm_ini [.ref 40, .int x] 2) [] (S0, F, I, J) Q := by
  show Wp _ _ _ _ _ [.ref 40, .int x] _ _ _
  have hw := ok.1
  have hR := hM.1
  have hn := hw.n
  have hcw := hw.c
  have hbn := bn_1024 hw
  have hbl := bn_lt hw
  have hp2 := p2n hw
  have hh1 := hw.wth
  have hh2 := hw.crk
  have hh3 := hw.year
  refine wp_iload_n (pc := 0) 1 dX7_best_0 rfl rfl ?_
  refine wp_iconst (pc := 1) (0) dX7_best_1 (by decide) ?_
  refine wp_iconst (pc := 2) (1) dX7_best_2 (by decide) ?_
  refine wc_S_III (pc := 3) dX7_best_3 lkX7_49 (by decide) (Nat.le_of_ble_eq_true rfl) ?_
  refine c_X7_isIn ?_
  refine wp_ifeqB (pc := 6) 18 dX7_best_6 (by decide) (fun c_6 => ?_) (fun c_6 => ?_)
  · refine wp_aload_n (pc := 18) 0 dX7_best_18 rfl rfl ?_
    refine wp_bipush (pc := 19) (-2) dX7_best_19 (by decide) ?_
    refine wc_V_I (pc := 21) dX7_best_21 lkX7_81 (sm_Rc.o (ci := 6) s0_40 (by decide) (by decide)) (by decide) (Nat.le_of_ble_eq_true rfl) ?_
    refine c_X7_no_0 ?_
    refine wp_iretI (pc := 24) dX7_best_24 rfl ?_
    unfold do_best at k
    rw [qry_f (c := (upB x 1)) c_6] at k
    exact k _ _ _ (hM.bmp (by decide)) (Lo.rf.uI (by decide))
  · refine wp_aload_n (pc := 9) 0 dX7_best_9 rfl rfl ?_
    refine wp_iconst (pc := 10) (0) dX7_best_10 (by decide) ?_
    refine wp_iload_n (pc := 11) 1 dX7_best_11 rfl rfl ?_
    refine wc_V_II (pc := 12) dX7_best_12 lkX7_197 (sm_Rc.o (ci := 6) s0_40 (by decide) (by decide)) (by decide) (Nat.le_of_ble_eq_true rfl) ?_
    refine c_X7_extreme_0 hw hR ?_
    refine wp_goto (pc := 15) 24 dX7_best_15 (by decide) ?_
    refine wp_iretI (pc := 24) dX7_best_24 rfl ?_
    unfold do_best at k
    rw [qry_t (c := (upB x 1)) c_6] at k
    exact k _ _ _ hM Lo.rf
theorem c_X7_slipped {d : Nat} {F I : Nat → Nat → Int32} {J : Nat → Nat → Int64} {Q : Option Value → sm_H → Prop} {x y : Int32} {s : Sg} (hM : MR s F I J) (ok : Ok s) (k : ∀ F1 I1 J1, MR (do_slipped s x y).2 F1 I1 J1 → Lo F I J F1 I1 J1 → Q (some (.int (do_slipped s x y).1)) (S0, F1, I1, J1)) : Wp mX7_slipped (d + 3) 0 0 0 (sm_ini [.ref 40, .int x, .int y] 3) [] (S0, F, I, J) Q := by
  show Wp _ _ _ _ _ [.ref 40, .int x, .int y] _ _ _
  have hw := ok.1
  have hR := hM.1
  have hn := hw.n
  have hcw := hw.c
  have hbn := bn_1024 hw
  have hbl := bn_lt hw
  have hp2 := p2n hw
  have hh1 := hw.wth
  have hh2 := hw.crk
  have hh3 := hw.year
  refine wp_aload_n (pc := 0) 0 dX7_slipped_0 rfl rfl ?_
  refine wp_iload_n (pc := 1) 1 dX7_slipped_1 rfl rfl ?_
  refine wc_V_I (pc := 2) dX7_slipped_2 lkX7_90 (sm_Rc.o (ci := 6) s0_40 (by decide) (by decide)) (by decide) (Nat.le_of_ble_eq_true rfl) ?_
  refine c_X7_isThing hw hR ?_
  refine wp_ifeqB (pc := 5) 33 dX7_slipped_5 (by decide) (fun c_5 => ?_) (fun c_5 => ?_)
  · refine wp_aload_n (pc := 33) 0 dX7_slipped_33 rfl rfl ?_
    refine wp_bipush (pc := 34) (-2) dX7_slipped_34 (by decide) ?_
    refine wc_V_I (pc := 36) dX7_slipped_36 lkX7_81 (sm_Rc.o (ci := 6) s0_40 (by decide) (by decide)) (by decide) (Nat.le_of_ble_eq_true rfl) ?_
    refine c_X7_no_0 ?_
    refine wp_iretI (pc := 39) dX7_slipped_39 rfl ?_
    unfold do_slipped at k
    rw [qry_f (c := (isTh s x && (decide (1 ≤ y ∧ y ≤ 9)))) (and_f1 c_5)] at k
    exact k _ _ _ (hM.bmp (by decide)) (Lo.rf.uI (by decide))
  · obtain ⟨i, hi0, rfl⟩ := (i32_in (by omega)).mp (of_decide_eq_true c_5)
    have hi : i < 10 := by omega
    refine wp_iload_n (pc := 8) 2 dX7_slipped_8 rfl rfl ?_
    refine wp_iconst (pc := 9) (1) dX7_slipped_9 (by decide) ?_
    refine wp_bipush (pc := 10) (9) dX7_slipped_10 (by decide) ?_
    refine wc_S_III (pc := 12) dX7_slipped_12 lkX7_49 (by decide) (Nat.le_of_ble_eq_true rfl) ?_
    refine c_X7_isIn ?_
    refine wp_ifeqB (pc := 15) 33 dX7_slipped_15 (by decide) (fun c_15 => ?_) (fun c_15 => ?_)
    · refine wp_aload_n (pc := 33) 0 dX7_slipped_33 rfl rfl ?_
      refine wp_bipush (pc := 34) (-2) dX7_slipped_34 (by decide) ?_
      refine wc_V_I (pc := 36) dX7_slipped_36 lkX7_81 (sm_Rc.o (ci := 6) s0_40 (by decide) (by decide)) (by decide) (Nat.le_of_ble_eq_true rfl) ?_
      refine c_X7_no_0 ?_
      refine wp_iretI (pc := 39) dX7_slipped_39 rfl ?_
      unfold do_slipped at k
      rw [qry_f (c := (isTh s (nI i) && (decide (1 ≤ y ∧ y ≤ 9)))) (and_f2 c_15)] at k
      exact k _ _ _ (hM.bmp (by decide)) (Lo.rf.uI (by decide))
    · obtain ⟨m, hm, rfl⟩ := (i32_le (n := 9) (by decide)).mp ⟨Int32.le_trans (by decide) (of_decide_eq_true c_15).1, (of_decide_eq_true c_15).2⟩
      refine wp_aload_n (pc := 18) 0 dX7_slipped_18 rfl rfl ?_
      refine wp_iload_n (pc := 19) 1 dX7_slipped_19 rfl rfl ?_
      refine wp_iload_n (pc := 20) 2 dX7_slipped_20 rfl rfl ?_
      refine wp_iadd (pc := 21) dX7_slipped_21 ?_
      refine wp_int (nI_add _ _) ?_
      refine wp_aload_n (pc := 22) 0 dX7_slipped_22 rfl rfl ?_
      refine wc_V_ (pc := 23) dX7_slipped_23 lkX7_57 (sm_Rc.o (ci := 6) s0_40 (by decide) (by decide)) (by decide) (Nat.le_of_ble_eq_true rfl) ?_
      refine c_X7_many hw hR ?_
      refine wp_irem (pc := 26) dX7_slipped_26 (nI_ne0 (by omega) (by omega)) ?_
      refine wp_int (pk_rem (by omega) (by omega) (by omega)) ?_
      have hml : (i + m) % sgf s 68 < sgf s 68 := Nat.mod_lt _ (by omega)
      refine wc_V_I (pc := 27) dX7_slipped_27 lkX7_174 (sm_Rc.o (ci := 6) s0_40 (by decide) (by decide)) (by decide) (Nat.le_of_ble_eq_true rfl) ?_
      refine c_X7_offBy hw hR (by omega) ?_
      refine wp_goto (pc := 30) 39 dX7_slipped_30 (by decide) ?_
      refine wp_iretI (pc := 39) dX7_slipped_39 rfl ?_
      unfold do_slipped at k
      rw [qry_t (c := (isTh s (nI i) && (decide (1 ≤ nI m ∧ nI m ≤ 9)))) (and_tt c_5 c_15)] at k
      rw [nI_clamp (by omega), nI_clamp (by omega)] at k
      exact k _ _ _ hM Lo.rf
