/-! ===== the parishes' walk ===== -/
theorem c_X1_playedOut {F I : Nat → Nat → Int32} {J : Nat → Nat → Int64} {t : Nat} (ht : isT t) {f : rw_} (hw : WF f) (hT : Tw t f F I) : ∀ (k : Nat) (_ : k < 100) {d : Nat} {Q : Option Value → sm_H → Prop} {b : Nat} {back : Bool} {lo hi : Int} (_ : b < 2 ^ f 68) (_ : -1 ≤ lo) (_ : hi ≤ 1000) (_ : lo < hi) (_ : ∀ r : Int, AB lo hi (mm f k b back) r → -1 ≤ r → r ≤ 1000 → Q (some (.int (iI r))) (S0, F, I, J)), Wp mX1_playedOut (d + k + 4) 0 0 0 (sm_ini [.ref t, .int (nI b), .int (nI k), .int (b2 back), .int (iI lo), .int (iI hi)] 11) [] (S0, F, I, J) Q
  | 0, _, d, Q, b, back, lo, hi, hb, hlo, hhi, hlh, kk => by
    show Wp _ (d + 3 + 1) _ _ _ [.ref t, .int (nI b), .int (nI 0), .int (b2 back), .int (iI lo), .int (iI hi), .null, .null, .null, .null, .null] _ _ _
    have hp2 := p2n hw
    refine wp_iload_n (pc := 0) 2 dX1_playedOut_0 rfl rfl ?_
    refine wp_ifgt (pc := 1) 10 dX1_playedOut_1 (by decide) (fun c_1 => ?_) (fun c_1 => ?_)
    · exact absurd c_1 (by decide)
    · refine wp_aload_n (pc := 4) 0 dX1_playedOut_4 rfl rfl ?_
      refine wp_iload_n (pc := 5) 1 dX1_playedOut_5 rfl rfl ?_
      refine wc_V_I (pc := 6) dX1_playedOut_6 lkX1_30 (sm_Rc.o (ci := 4) (tT ht) (by decide) ht.lt) (by decide) (Nat.le_of_ble_eq_true rfl) ?_
      refine c_X5_valueIf ht hw hT (by omega) ?_
      have hvl := val_le hw b
      refine wp_int (iI_nat _ (by omega)) ?_
      refine wp_iretI (pc := 9) dX1_playedOut_9 rfl ?_
      exact kk _ (AB.self _ _ _) (by omega) (by omega)
  | k + 1, hk, d, Q, b, back, lo, hi, hb, hlo, hhi, hlh, kk => by
    show Wp _ (d + k + 4 + 1) _ _ _ [.ref t, .int (nI b), .int (nI (k + 1)), .int (b2 back), .int (iI lo), .int (iI hi), .null, .null, .null, .null, .null] _ _ _
    have hp2 := p2n hw
    cases back
    · refine wp_iload_n (pc := 0) 2 dX1_playedOut_0 rfl rfl ?_
      refine wp_ifgt (pc := 1) 10 dX1_playedOut_1 (by decide) (fun c_1 => ?_) (fun c_1 => ?_)
      · refine wp_iload_n (pc := 10) 3 dX1_playedOut_10 rfl rfl ?_
        refine wp_ifeq (pc := 11) 18 dX1_playedOut_11 (by decide) (fun c_11 => ?_) (fun c_11 => ?_)
        · refine wp_aload_n (pc := 18) 0 dX1_playedOut_18 rfl rfl ?_
          refine wc_V_ (pc := 19) dX1_playedOut_19 lkX1_33 (sm_Rc.o (ci := 4) (tT ht) (by decide) ht.lt) (by decide) (Nat.le_of_ble_eq_true rfl) ?_
          refine c_X5_everyThing ht hw hT ?_
          refine wp_iload_n (pc := 22) 1 dX1_playedOut_22 rfl rfl ?_
          refine wp_iconst (pc := 23) (-1) dX1_playedOut_23 (by decide) ?_
          refine wp_ixor (pc := 24) dX1_playedOut_24 ?_
          refine wp_iand (pc := 25) dX1_playedOut_25 ?_
          refine wp_int (y := nI (chs f b false)) (by rw [show chs f b false = dif (2 ^ f 68 - 1) b from rfl, ← bt_dif]) ?_
          refine wp_istore (pc := 26) 6 dX1_playedOut_26 (by decide) rfl ?_
          refine wp_iload (pc := 28) 6 dX1_playedOut_28 rfl ?_
          refine wp_ifne (pc := 30) 55 dX1_playedOut_30 (by decide) (fun c_30 => ?_) (fun c_30 => ?_)
          · refine wp_iload (pc := 55) 4 dX1_playedOut_55 rfl ?_
            refine wp_istore (pc := 57) 7 dX1_playedOut_57 (by decide) rfl ?_
            refine wp_iload (pc := 59) 5 dX1_playedOut_59 rfl ?_
            refine wp_istore (pc := 61) 8 dX1_playedOut_61 (by decide) rfl ?_
            refine wp_iconst (pc := 63) (0) dX1_playedOut_63 (by decide) ?_
            refine wp_istore (pc := 64) 9 dX1_playedOut_64 (by decide) rfl ?_
            have hcl := chs_lt (f := f) (b := b) (back := false) hb
            have hc0 : ¬ chs f b false = 0 := fun z => c_30 (by rw [z]; rfl)
            refine wp_loopS (σ := Int × Int) (fun i s => [.ref t, .int (nI b), .int (nI (k + 1)), .int (b2 false), .int (iI lo), .int (iI hi), .int (nI (chs f b false)), .int (iI s.1), .int (iI s.2), .int (nI i), .null]) (fun _ _ => (S0, F, I, J)) (fun i s => s.2 = hi ∧ ivF lo hi (pm (mmP b false) (fun i => mm f k (b ^^^ 2 ^ i) (!false)) false i) s.1) (f 68) (fun i s hi hs nx => ?_) (fun s hs => ?_) 0 (lo, hi) (Nat.zero_le _) ⟨rfl, by omega, by omega, rfl⟩
            · obtain ⟨lo2, hi2⟩ := s
              simp only at hs
              have hrg := hs.2.1
              have hrg2 := hs.2.2.1
              have hs1 := hs.1
              have hbx := xor_n hb hi
              have hcl := chs_lt (back := false) hb
              have hp2 := p2n hw
              have hn := hw.n
              refine wp_iload (pc := 66) 9 dX1_playedOut_66 rfl ?_
              refine wp_aload_n (pc := 68) 0 dX1_playedOut_68 rfl rfl ?_
              refine wq_getI (pc := 69) 41 0 dX1_playedOut_69 (tT ht) flX1_41 rfl ht.lt ?_
              refine wp_int hT.n ?_
              refine wp_icmp_ge (pc := 72) 151 dX1_playedOut_72 (by decide) (fun c_72 => ?_) (fun c_72 => ?_)
              · exact absurd c_72 (nI_ge (b := f 68) hi (by omega))
              · refine wp_iload (pc := 75) 7 dX1_playedOut_75 rfl ?_
                refine wp_iload (pc := 77) 8 dX1_playedOut_77 rfl ?_
                refine wp_icmp_ge (pc := 79) 151 dX1_playedOut_79 (by decide) (fun c_79 => ?_) (fun c_79 => ?_)
                · refine wp_iload_n (pc := 151) 3 dX1_playedOut_151 rfl rfl ?_
                  refine wp_ifeq (pc := 152) 160 dX1_playedOut_152 (by decide) (fun c_152 => ?_) (fun c_152 => ?_)
                  · refine wp_iload (pc := 160) 7 dX1_playedOut_160 rfl ?_
                    refine wp_iretI (pc := 162) dX1_playedOut_162 rfl ?_
                    have hle : hi2 ≤ lo2 := (iI_le (by omega) (by omega)).mp c_79
                    obtain ⟨m, hm1, hm2⟩ := ivF_cut hs.2 hlh (by rw [← hs.1]; exact hle)
                    obtain ⟨m3, hm3, hm4⟩ := pm_up hm1 (f 68 - i)
                    rw [show i + (f 68 - i) = f 68 by omega] at hm3
                    refine kk lo2 ?_ (by omega) (by omega)
                    rw [mm_pm hm3]
                    exact hm2 m3 hm4
                  · exact absurd (by decide) c_152
                · have hlt : lo2 < hi2 := Int.not_le.mp fun z => c_79 ((iI_le (by omega) (by omega)).mpr z)
                  refine wp_iload (pc := 82) 6 dX1_playedOut_82 rfl ?_
                  refine wp_iload (pc := 84) 9 dX1_playedOut_84 rfl ?_
                  refine wc_SN_II (pc := 86) dX1_playedOut_86 lkX1_44 (by decide) (Nat.le_of_ble_eq_true rfl) ?_
                  refine c_X6_isIn (by omega) (by omega) ?_
                  refine wp_ifeqB (pc := 89) 145 dX1_playedOut_89 (by decide) (fun c_89 => ?_) (fun c_89 => ?_)
                  · refine wp_incN (pc := 145) 9 dX1_playedOut_145 rfl (by decide) rfl ?_
                    refine wp_goto (pc := 148) 66 dX1_playedOut_148 (by decide) ?_
                    have hx : pm (mmP b false) (fun i => mm f k (b ^^^ 2 ^ i) (!false)) false (i + 1) = pm (mmP b false) (fun i => mm f k (b ^^^ 2 ^ i) (!false)) false i := pm_no (by rw [← chs_bit hi]; exact c_89)
                    exact nx (lo2, hi2) ⟨hs.1, by rw [hx]; exact hs.2⟩
                  · refine wp_aload_n (pc := 92) 0 dX1_playedOut_92 rfl rfl ?_
                    refine wp_iload_n (pc := 93) 1 dX1_playedOut_93 rfl rfl ?_
                    refine wp_iconst (pc := 94) (1) dX1_playedOut_94 (by decide) ?_
                    refine wp_iload (pc := 95) 9 dX1_playedOut_95 rfl ?_
                    refine wp_ishl (pc := 97) dX1_playedOut_97 ?_
                    refine wp_int (bt_one (by omega)) ?_
                    refine wp_ixor (pc := 98) dX1_playedOut_98 ?_
                    refine wp_int (bt_xor _ _) ?_
                    refine wp_iload_n (pc := 99) 2 dX1_playedOut_99 rfl rfl ?_
                    refine wp_iconst (pc := 100) (1) dX1_playedOut_100 (by decide) ?_
                    refine wp_isub (pc := 101) dX1_playedOut_101 ?_
                    refine wp_int (nI_pred _) ?_
                    refine wp_iload_n (pc := 102) 3 dX1_playedOut_102 rfl rfl ?_
                    refine wp_ifne (pc := 103) 110 dX1_playedOut_103 (by decide) (fun c_103 => ?_) (fun c_103 => ?_)
                    · exact absurd (by decide) c_103
                    · refine wp_iconst (pc := 106) (1) dX1_playedOut_106 (by decide) ?_
                      refine wp_goto (pc := 107) 111 dX1_playedOut_107 (by decide) ?_
                      refine wp_iload (pc := 111) 7 dX1_playedOut_111 rfl ?_
                      refine wp_iload (pc := 113) 8 dX1_playedOut_113 rfl ?_
                      refine wc_S_RIIIII (pc := 115) dX1_playedOut_115 lkX1_47 (by decide) (Nat.le_of_ble_eq_true rfl) ?_
                      refine c_X1_playedOut ht hw hT k (by omega) (back := true) hbx (by omega) (by omega) hlt (fun r hr1 hr2 hr3 => ?_)
                      refine wp_istore (pc := 118) 10 dX1_playedOut_118 (by decide) rfl ?_
                      refine wp_iload_n (pc := 120) 3 dX1_playedOut_120 rfl rfl ?_
                      refine wp_ifeq (pc := 121) 136 dX1_playedOut_121 (by decide) (fun c_121 => ?_) (fun c_121 => ?_)
                      · refine wp_iload (pc := 136) 7 dX1_playedOut_136 rfl ?_
                        refine wp_iload (pc := 138) 10 dX1_playedOut_138 rfl ?_
                        refine wc_S_II (pc := 140) dX1_playedOut_140 lkX1_57 (by decide) (Nat.le_of_ble_eq_true rfl) ?_
                        refine c_J9_max_7cf53 ?_
                        refine wp_int (iI_max (by omega) (by omega)) ?_
                        refine wp_istore (pc := 143) 7 dX1_playedOut_143 (by decide) rfl ?_
                        refine wp_incN (pc := 145) 9 dX1_playedOut_145 rfl (by decide) rfl ?_
                        refine wp_goto (pc := 148) 66 dX1_playedOut_148 (by decide) ?_
                        have hx : pm (mmP b false) (fun i => mm f k (b ^^^ 2 ^ i) (!false)) false (i + 1) = _ := pm_max (by rw [← chs_bit hi]; exact c_89)
                        have nx := nx (max lo2 r, hi2) ⟨hs.1, by rw [hx]; exact ivF_step hs.2 (by rw [← hs.1]; exact hlt) (by rw [← hs.1]; exact hr1) hr3 hhi⟩
                        refine wp_weak ?_ nx
                        exact And.intro (Or.inr rfl) (And.intro (Or.inr rfl) (And.intro (Or.inr rfl) (And.intro (Or.inr rfl) (And.intro (Or.inr rfl) (And.intro (Or.inr rfl) (And.intro (Or.inr rfl) (And.intro (Or.inr rfl) (And.intro (Or.inr rfl) (And.intro (Or.inr rfl) (And.intro (Or.inl rfl) (trivial)))))))))))
                      · exact absurd (by decide) c_121
            · obtain ⟨lo2, hi2⟩ := s
              simp only at hs
              have hrg := hs.2.1
              have hrg2 := hs.2.2.1
              have hs1 := hs.1
              refine wp_iload (pc := 66) 9 dX1_playedOut_66 rfl ?_
              refine wp_aload_n (pc := 68) 0 dX1_playedOut_68 rfl rfl ?_
              refine wq_getI (pc := 69) 41 0 dX1_playedOut_69 (tT ht) flX1_41 rfl ht.lt ?_
              refine wp_int hT.n ?_
              refine wp_icmp_ge (pc := 72) 151 dX1_playedOut_72 (by decide) (fun c_72 => ?_) (fun c_72 => ?_)
              · refine wp_iload_n (pc := 151) 3 dX1_playedOut_151 rfl rfl ?_
                refine wp_ifeq (pc := 152) 160 dX1_playedOut_152 (by decide) (fun c_152 => ?_) (fun c_152 => ?_)
                · refine wp_iload (pc := 160) 7 dX1_playedOut_160 rfl ?_
                  refine wp_iretI (pc := 162) dX1_playedOut_162 rfl ?_
                  obtain ⟨m, hm⟩ : ∃ m, pm (mmP b false) (fun i => mm f k (b ^^^ 2 ^ i) (!false)) false (f 68) = some m := by
                    cases e : pm (mmP b false) (fun i => mm f k (b ^^^ 2 ^ i) (!false)) false (f 68) with
                    | none =>
                      exact absurd ((chs_0 hb).mpr (Option.map_eq_none_iff.mp e)) hc0
                    | some m => exact ⟨m, rfl⟩
                  rw [hm] at hs
                  refine kk lo2 ?_ (by omega) (by omega)
                  rw [mm_pm hm]
                  exact ivF_end hs.2 hlh
                · exact absurd (by decide) c_152
              · exact absurd (Int32.le_refl _) c_72
          · refine wp_aload_n (pc := 33) 0 dX1_playedOut_33 rfl rfl ?_
            refine wp_iload_n (pc := 34) 1 dX1_playedOut_34 rfl rfl ?_
            refine wp_iload_n (pc := 35) 2 dX1_playedOut_35 rfl rfl ?_
            refine wp_iconst (pc := 36) (1) dX1_playedOut_36 (by decide) ?_
            refine wp_isub (pc := 37) dX1_playedOut_37 ?_
            refine wp_int (nI_pred _) ?_
            refine wp_iload_n (pc := 38) 3 dX1_playedOut_38 rfl rfl ?_
            refine wp_ifne (pc := 39) 46 dX1_playedOut_39 (by decide) (fun c_39 => ?_) (fun c_39 => ?_)
            · exact absurd (by decide) c_39
            · refine wp_iconst (pc := 42) (1) dX1_playedOut_42 (by decide) ?_
              refine wp_goto (pc := 43) 47 dX1_playedOut_43 (by decide) ?_
              refine wp_iload (pc := 47) 4 dX1_playedOut_47 rfl ?_
              refine wp_iload (pc := 49) 5 dX1_playedOut_49 rfl ?_
              refine wc_S_RIIIII (pc := 51) dX1_playedOut_51 lkX1_47 (by decide) (Nat.le_of_ble_eq_true rfl) ?_
              refine c_X1_playedOut ht hw hT k (by omega) (back := true) hb hlo hhi hlh (fun r hr1 hr2 hr3 => ?_)
              refine wp_iretI (pc := 54) dX1_playedOut_54 rfl ?_
              refine kk r ?_ hr2 hr3
              have hp2 := p2n hw
              have hcl := chs_lt (back := false) hb
              have hz : chs f b false = 0 := (nI0 (by omega)).mp c_30
              rw [mm, (chs_0 hb).mp hz]
              exact hr1
        · exact absurd (by decide) c_11
      · exact absurd ((nI_ltI (a := 0) (by decide) (by omega)).mpr (Nat.succ_pos k)) c_1
    · refine wp_iload_n (pc := 0) 2 dX1_playedOut_0 rfl rfl ?_
      refine wp_ifgt (pc := 1) 10 dX1_playedOut_1 (by decide) (fun c_1 => ?_) (fun c_1 => ?_)
      · refine wp_iload_n (pc := 10) 3 dX1_playedOut_10 rfl rfl ?_
        refine wp_ifeq (pc := 11) 18 dX1_playedOut_11 (by decide) (fun c_11 => ?_) (fun c_11 => ?_)
        · exact absurd c_11 (by decide)
        · refine wp_iload_n (pc := 14) 1 dX1_playedOut_14 rfl rfl ?_
          refine wp_goto (pc := 15) 26 dX1_playedOut_15 (by decide) ?_
          refine wp_int (y := nI (chs f b true)) (by rw [show chs f b true = b from rfl]) ?_
          refine wp_istore (pc := 26) 6 dX1_playedOut_26 (by decide) rfl ?_
          refine wp_iload (pc := 28) 6 dX1_playedOut_28 rfl ?_
          refine wp_ifne (pc := 30) 55 dX1_playedOut_30 (by decide) (fun c_30 => ?_) (fun c_30 => ?_)
          · refine wp_iload (pc := 55) 4 dX1_playedOut_55 rfl ?_
            refine wp_istore (pc := 57) 7 dX1_playedOut_57 (by decide) rfl ?_
            refine wp_iload (pc := 59) 5 dX1_playedOut_59 rfl ?_
            refine wp_istore (pc := 61) 8 dX1_playedOut_61 (by decide) rfl ?_
            refine wp_iconst (pc := 63) (0) dX1_playedOut_63 (by decide) ?_
            refine wp_istore (pc := 64) 9 dX1_playedOut_64 (by decide) rfl ?_
            have hcl := chs_lt (f := f) (b := b) (back := true) hb
            have hc0 : ¬ chs f b true = 0 := fun z => c_30 (by rw [z]; rfl)
            refine wp_loopS (σ := Int × Int) (fun i s => [.ref t, .int (nI b), .int (nI (k + 1)), .int (b2 true), .int (iI lo), .int (iI hi), .int (nI (chs f b true)), .int (iI s.1), .int (iI s.2), .int (nI i), .null]) (fun _ _ => (S0, F, I, J)) (fun i s => s.1 = lo ∧ ivB lo hi (pm (mmP b true) (fun i => mm f k (b ^^^ 2 ^ i) (!true)) true i) s.2) (f 68) (fun i s hi hs nx => ?_) (fun s hs => ?_) 0 (lo, hi) (Nat.zero_le _) ⟨rfl, by omega, by omega, rfl⟩
            · obtain ⟨lo2, hi2⟩ := s
              simp only at hs
              have hrg := hs.2.1
              have hrg2 := hs.2.2.1
              have hs1 := hs.1
              have hbx := xor_n hb hi
              have hcl := chs_lt (back := true) hb
              have hp2 := p2n hw
              have hn := hw.n
              refine wp_iload (pc := 66) 9 dX1_playedOut_66 rfl ?_
              refine wp_aload_n (pc := 68) 0 dX1_playedOut_68 rfl rfl ?_
              refine wq_getI (pc := 69) 41 0 dX1_playedOut_69 (tT ht) flX1_41 rfl ht.lt ?_
              refine wp_int hT.n ?_
              refine wp_icmp_ge (pc := 72) 151 dX1_playedOut_72 (by decide) (fun c_72 => ?_) (fun c_72 => ?_)
              · exact absurd c_72 (nI_ge (b := f 68) hi (by omega))
              · refine wp_iload (pc := 75) 7 dX1_playedOut_75 rfl ?_
                refine wp_iload (pc := 77) 8 dX1_playedOut_77 rfl ?_
                refine wp_icmp_ge (pc := 79) 151 dX1_playedOut_79 (by decide) (fun c_79 => ?_) (fun c_79 => ?_)
                · refine wp_iload_n (pc := 151) 3 dX1_playedOut_151 rfl rfl ?_
                  refine wp_ifeq (pc := 152) 160 dX1_playedOut_152 (by decide) (fun c_152 => ?_) (fun c_152 => ?_)
                  · exact absurd c_152 (by decide)
                  · refine wp_iload (pc := 155) 8 dX1_playedOut_155 rfl ?_
                    refine wp_goto (pc := 157) 162 dX1_playedOut_157 (by decide) ?_
                    refine wp_iretI (pc := 162) dX1_playedOut_162 rfl ?_
                    have hle : hi2 ≤ lo2 := (iI_le (by omega) (by omega)).mp c_79
                    obtain ⟨m, hm1, hm2⟩ := ivB_cut hs.2 hlh (by rw [← hs.1]; exact hle)
                    obtain ⟨m3, hm3, hm4⟩ := pm_dn hm1 (f 68 - i)
                    rw [show i + (f 68 - i) = f 68 by omega] at hm3
                    refine kk hi2 ?_ (by omega) (by omega)
                    rw [mm_pm hm3]
                    exact hm2 m3 hm4
                · have hlt : lo2 < hi2 := Int.not_le.mp fun z => c_79 ((iI_le (by omega) (by omega)).mpr z)
                  refine wp_iload (pc := 82) 6 dX1_playedOut_82 rfl ?_
                  refine wp_iload (pc := 84) 9 dX1_playedOut_84 rfl ?_
                  refine wc_SN_II (pc := 86) dX1_playedOut_86 lkX1_44 (by decide) (Nat.le_of_ble_eq_true rfl) ?_
                  refine c_X6_isIn (by omega) (by omega) ?_
                  refine wp_ifeqB (pc := 89) 145 dX1_playedOut_89 (by decide) (fun c_89 => ?_) (fun c_89 => ?_)
                  · refine wp_incN (pc := 145) 9 dX1_playedOut_145 rfl (by decide) rfl ?_
                    refine wp_goto (pc := 148) 66 dX1_playedOut_148 (by decide) ?_
                    have hx : pm (mmP b true) (fun i => mm f k (b ^^^ 2 ^ i) (!true)) true (i + 1) = pm (mmP b true) (fun i => mm f k (b ^^^ 2 ^ i) (!true)) true i := pm_no (by rw [← chs_bit hi]; exact c_89)
                    exact nx (lo2, hi2) ⟨hs.1, by rw [hx]; exact hs.2⟩
                  · refine wp_aload_n (pc := 92) 0 dX1_playedOut_92 rfl rfl ?_
                    refine wp_iload_n (pc := 93) 1 dX1_playedOut_93 rfl rfl ?_
                    refine wp_iconst (pc := 94) (1) dX1_playedOut_94 (by decide) ?_
                    refine wp_iload (pc := 95) 9 dX1_playedOut_95 rfl ?_
                    refine wp_ishl (pc := 97) dX1_playedOut_97 ?_
                    refine wp_int (bt_one (by omega)) ?_
                    refine wp_ixor (pc := 98) dX1_playedOut_98 ?_
                    refine wp_int (bt_xor _ _) ?_
                    refine wp_iload_n (pc := 99) 2 dX1_playedOut_99 rfl rfl ?_
                    refine wp_iconst (pc := 100) (1) dX1_playedOut_100 (by decide) ?_
                    refine wp_isub (pc := 101) dX1_playedOut_101 ?_
                    refine wp_int (nI_pred _) ?_
                    refine wp_iload_n (pc := 102) 3 dX1_playedOut_102 rfl rfl ?_
                    refine wp_ifne (pc := 103) 110 dX1_playedOut_103 (by decide) (fun c_103 => ?_) (fun c_103 => ?_)
                    · refine wp_iconst (pc := 110) (0) dX1_playedOut_110 (by decide) ?_
                      refine wp_iload (pc := 111) 7 dX1_playedOut_111 rfl ?_
                      refine wp_iload (pc := 113) 8 dX1_playedOut_113 rfl ?_
                      refine wc_S_RIIIII (pc := 115) dX1_playedOut_115 lkX1_47 (by decide) (Nat.le_of_ble_eq_true rfl) ?_
                      refine c_X1_playedOut ht hw hT k (by omega) (back := false) hbx (by omega) (by omega) hlt (fun r hr1 hr2 hr3 => ?_)
                      refine wp_istore (pc := 118) 10 dX1_playedOut_118 (by decide) rfl ?_
                      refine wp_iload_n (pc := 120) 3 dX1_playedOut_120 rfl rfl ?_
                      refine wp_ifeq (pc := 121) 136 dX1_playedOut_121 (by decide) (fun c_121 => ?_) (fun c_121 => ?_)
                      · exact absurd c_121 (by decide)
                      · refine wp_iload (pc := 124) 8 dX1_playedOut_124 rfl ?_
                        refine wp_iload (pc := 126) 10 dX1_playedOut_126 rfl ?_
                        refine wc_S_II (pc := 128) dX1_playedOut_128 lkX1_51 (by decide) (Nat.le_of_ble_eq_true rfl) ?_
                        refine c_J9_min_7cf53 ?_
                        refine wp_int (iI_min (by omega) (by omega)) ?_
                        refine wp_istore (pc := 131) 8 dX1_playedOut_131 (by decide) rfl ?_
                        refine wp_goto (pc := 133) 145 dX1_playedOut_133 (by decide) ?_
                        refine wp_incN (pc := 145) 9 dX1_playedOut_145 rfl (by decide) rfl ?_
                        refine wp_goto (pc := 148) 66 dX1_playedOut_148 (by decide) ?_
                        have hx : pm (mmP b true) (fun i => mm f k (b ^^^ 2 ^ i) (!true)) true (i + 1) = _ := pm_min (by rw [← chs_bit hi]; exact c_89)
                        have nx := nx (lo2, min hi2 r) ⟨hs.1, by rw [hx]; exact ivB_step hs.2 (by rw [← hs.1]; exact hlt) (by rw [← hs.1]; exact hr1) hr2 hlo⟩
                        refine wp_weak ?_ nx
                        exact And.intro (Or.inr rfl) (And.intro (Or.inr rfl) (And.intro (Or.inr rfl) (And.intro (Or.inr rfl) (And.intro (Or.inr rfl) (And.intro (Or.inr rfl) (And.intro (Or.inr rfl) (And.intro (Or.inr rfl) (And.intro (Or.inr rfl) (And.intro (Or.inr rfl) (And.intro (Or.inl rfl) (trivial)))))))))))
                    · exact absurd c_103 (by decide)
            · obtain ⟨lo2, hi2⟩ := s
              simp only at hs
              have hrg := hs.2.1
              have hrg2 := hs.2.2.1
              have hs1 := hs.1
              refine wp_iload (pc := 66) 9 dX1_playedOut_66 rfl ?_
              refine wp_aload_n (pc := 68) 0 dX1_playedOut_68 rfl rfl ?_
              refine wq_getI (pc := 69) 41 0 dX1_playedOut_69 (tT ht) flX1_41 rfl ht.lt ?_
              refine wp_int hT.n ?_
              refine wp_icmp_ge (pc := 72) 151 dX1_playedOut_72 (by decide) (fun c_72 => ?_) (fun c_72 => ?_)
              · refine wp_iload_n (pc := 151) 3 dX1_playedOut_151 rfl rfl ?_
                refine wp_ifeq (pc := 152) 160 dX1_playedOut_152 (by decide) (fun c_152 => ?_) (fun c_152 => ?_)
                · exact absurd c_152 (by decide)
                · refine wp_iload (pc := 155) 8 dX1_playedOut_155 rfl ?_
                  refine wp_goto (pc := 157) 162 dX1_playedOut_157 (by decide) ?_
                  refine wp_iretI (pc := 162) dX1_playedOut_162 rfl ?_
                  obtain ⟨m, hm⟩ : ∃ m, pm (mmP b true) (fun i => mm f k (b ^^^ 2 ^ i) (!true)) true (f 68) = some m := by
                    cases e : pm (mmP b true) (fun i => mm f k (b ^^^ 2 ^ i) (!true)) true (f 68) with
                    | none =>
                      exact absurd ((chs_0 hb).mpr (Option.map_eq_none_iff.mp e)) hc0
                    | some m => exact ⟨m, rfl⟩
                  rw [hm] at hs
                  refine kk hi2 ?_ (by omega) (by omega)
                  rw [mm_pm hm]
                  exact ivB_end hs.2 hlh
              · exact absurd (Int32.le_refl _) c_72
          · refine wp_aload_n (pc := 33) 0 dX1_playedOut_33 rfl rfl ?_
            refine wp_iload_n (pc := 34) 1 dX1_playedOut_34 rfl rfl ?_
            refine wp_iload_n (pc := 35) 2 dX1_playedOut_35 rfl rfl ?_
            refine wp_iconst (pc := 36) (1) dX1_playedOut_36 (by decide) ?_
            refine wp_isub (pc := 37) dX1_playedOut_37 ?_
            refine wp_int (nI_pred _) ?_
            refine wp_iload_n (pc := 38) 3 dX1_playedOut_38 rfl rfl ?_
            refine wp_ifne (pc := 39) 46 dX1_playedOut_39 (by decide) (fun c_39 => ?_) (fun c_39 => ?_)
            · refine wp_iconst (pc := 46) (0) dX1_playedOut_46 (by decide) ?_
              refine wp_iload (pc := 47) 4 dX1_playedOut_47 rfl ?_
              refine wp_iload (pc := 49) 5 dX1_playedOut_49 rfl ?_
              refine wc_S_RIIIII (pc := 51) dX1_playedOut_51 lkX1_47 (by decide) (Nat.le_of_ble_eq_true rfl) ?_
              refine c_X1_playedOut ht hw hT k (by omega) (back := false) hb hlo hhi hlh (fun r hr1 hr2 hr3 => ?_)
              refine wp_iretI (pc := 54) dX1_playedOut_54 rfl ?_
              refine kk r ?_ hr2 hr3
              have hp2 := p2n hw
              have hcl := chs_lt (back := true) hb
              have hz : chs f b true = 0 := (nI0 (by omega)).mp c_30
              rw [mm, (chs_0 hb).mp hz]
              exact hr1
            · exact absurd c_39 (by decide)
      · exact absurd ((nI_ltI (a := 0) (by decide) (by omega)).mpr (Nat.succ_pos k)) c_1
def fpU (f : rw_) (k n : Nat) : Option Nat := bestU (fun i => (bn f).testBit i) (fun i j => decide (mm f k (bn f ^^^ 2 ^ i) false < mm f k (bn f ^^^ 2 ^ j) false)) n
def eG (f : rw_) (k : Nat) : Option Nat → Int32
  | none => iI 1000
  | some j => iI (mm f k (bn f ^^^ 2 ^ j) false)
theorem c_X1_valuePlayed {F I : Nat → Nat → Int32} {J : Nat → Nat → Int64} {Q : Option Value → sm_H → Prop} {d : Nat} {t : Nat} (ht : isT t) {f : rw_} (hw : WF f) (hT : Tw t f F I) {k : Nat} (hk : k < 100) (kk : Q (some (.int (nI (mm f k (bn f) true)))) (S0, F, I, J)) : Wp mX1_valuePlayed (d + k + 5) 0 0 0 (sm_ini [.ref t, .int (nI k)] 2) [] (S0, F, I, J) Q := by
  show Wp _ (d + k + 4 + 1) _ _ _ [.ref t, .int (nI k)] _ _ _
  refine wp_aload_n (pc := 0) 0 dX1_valuePlayed_0 rfl rfl ?_
  refine wp_aload_n (pc := 1) 0 dX1_valuePlayed_1 rfl rfl ?_
  refine wq_getI (pc := 2) 15 5 dX1_valuePlayed_2 (tT ht) flX1_15 rfl ht.lt ?_
  refine wp_int hT.been ?_
  refine wp_iload_n (pc := 5) 1 dX1_valuePlayed_5 rfl rfl ?_
  refine wp_iconst (pc := 6) (1) dX1_valuePlayed_6 (by decide) ?_
  refine wp_iconst (pc := 7) (-1) dX1_valuePlayed_7 (by decide) ?_
  refine wp_sipush (pc := 8) (1000) dX1_valuePlayed_8 (by decide) ?_
  refine wc_S_RIIIII (pc := 11) dX1_valuePlayed_11 lkX1_47 (by decide) (Nat.le_of_ble_eq_true rfl) ?_
  refine c_X1_playedOut ht hw hT k hk (back := true) (lo := -1) (hi := 1000) (bn_lt hw) (by decide) (by decide) (by decide) (fun r hr1 hr2 hr3 => ?_)
  have hm := mm_le hw k (bn f) true
  refine wp_iretI (pc := 14) dX1_valuePlayed_14 rfl ?_
  rw [hr1.2.2 (by omega) (by omega), ← iI_nat _ (by omega)]
  exact kk
theorem c_X1_firstPlayed {F I : Nat → Nat → Int32} {J : Nat → Nat → Int64} {Q : Option Value → sm_H → Prop} {d : Nat} {t : Nat} (ht : isT t) {f : rw_} (hw : WF f) (hT : Tw t f F I) {k : Nat} (hk : k < 99) (kk : Q (some (.int (eN (fpU f k (f 68))))) (S0, F, I, J)) : Wp mX1_firstPlayed (d + k + 5) 0 0 0 (sm_ini [.ref t, .int (nI (k + 1))] 6) [] (S0, F, I, J) Q := by
  show Wp _ (d + k + 4 + 1) _ _ _ [.ref t, .int (nI (k + 1)), .null, .null, .null, .null] _ _ _
  refine wp_iconst (pc := 0) (-1) dX1_firstPlayed_0 (by decide) ?_
  refine wp_istore_n (pc := 1) 2 dX1_firstPlayed_1 rfl (by decide) rfl ?_
  refine wp_sipush (pc := 2) (1000) dX1_firstPlayed_2 (by decide) ?_
  refine wp_istore_n (pc := 5) 3 dX1_firstPlayed_5 rfl (by decide) rfl ?_
  refine wp_iconst (pc := 6) (0) dX1_firstPlayed_6 (by decide) ?_
  refine wp_istore (pc := 7) 4 dX1_firstPlayed_7 (by decide) rfl ?_
  refine wp_loop (fun i => [.ref t, .int (nI (k + 1)), .int (eN (fpU f k i)), .int (eG f k (fpU f k i)), .int (nI i), .null]) (fun _ => (S0, F, I, J)) (fun _ => True) (f 68) (fun i hi hv nx => ?_) (fun hv => ?_) 0 (Nat.zero_le _) trivial
  · have hn := hw.n
    have hb := bn_1024 hw
    have hbx := xor_n (bn_lt hw) hi
    have hmi := mm_le hw k (bn f ^^^ 2 ^ i) false
    rcases ho : bestU (fun i => (bn f).testBit i) (fun i j => decide (mm f k (bn f ^^^ 2 ^ i) false < mm f k (bn f ^^^ 2 ^ j) false)) i with _ | j
    · refine wp_to (lv' := [.ref t, .int (nI (k + 1)), .int (-1), .int (iI 1000), .int (nI i), .null]) ?_ (by rw [show fpU f k i = none from ho]; rfl) rfl rfl
      refine wp_iload (pc := 9) 4 dX1_firstPlayed_9 rfl ?_
      refine wp_aload_n (pc := 11) 0 dX1_firstPlayed_11 rfl rfl ?_
      refine wq_getI (pc := 12) 41 0 dX1_firstPlayed_12 (tT ht) flX1_41 rfl ht.lt ?_
      refine wp_int hT.n ?_
      refine wp_icmp_ge (pc := 15) 73 dX1_firstPlayed_15 (by decide) (fun c_15 => ?_) (fun c_15 => ?_)
      · exact absurd c_15 (nI_ge (b := f 68) hi (by omega))
      · refine wp_iload_n (pc := 18) 1 dX1_firstPlayed_18 rfl rfl ?_
        refine wp_ifle (pc := 19) 73 dX1_firstPlayed_19 (by decide) (fun c_19 => ?_) (fun c_19 => ?_)
        · exact absurd c_19 (nI_nle (by omega) (by omega))
        · refine wp_aload_n (pc := 22) 0 dX1_firstPlayed_22 rfl rfl ?_
          refine wq_getI (pc := 23) 15 5 dX1_firstPlayed_23 (tT ht) flX1_15 rfl ht.lt ?_
          refine wp_int hT.been ?_
          refine wp_iload (pc := 26) 4 dX1_firstPlayed_26 rfl ?_
          refine wc_SN_II (pc := 28) dX1_firstPlayed_28 lkX1_44 (by decide) (Nat.le_of_ble_eq_true rfl) ?_
          refine c_X6_isIn (by omega) (by omega) ?_
          refine wp_ifeqB (pc := 31) 67 dX1_firstPlayed_31 (by decide) (fun c_31 => ?_) (fun c_31 => ?_)
          · refine wp_incN (pc := 67) 4 dX1_firstPlayed_67 rfl (by decide) rfl ?_
            refine wp_goto (pc := 70) 9 dX1_firstPlayed_70 (by decide) ?_
            have nx := nx trivial
            unfold fpU at nx
            rw [best_no c_31, ho] at nx
            exact nx
          · refine wp_aload_n (pc := 34) 0 dX1_firstPlayed_34 rfl rfl ?_
            refine wp_aload_n (pc := 35) 0 dX1_firstPlayed_35 rfl rfl ?_
            refine wq_getI (pc := 36) 15 5 dX1_firstPlayed_36 (tT ht) flX1_15 rfl ht.lt ?_
            refine wp_int hT.been ?_
            refine wp_iconst (pc := 39) (1) dX1_firstPlayed_39 (by decide) ?_
            refine wp_iload (pc := 40) 4 dX1_firstPlayed_40 rfl ?_
            refine wp_ishl (pc := 42) dX1_firstPlayed_42 ?_
            refine wp_int (bt_one (by omega)) ?_
            refine wp_ixor (pc := 43) dX1_firstPlayed_43 ?_
            refine wp_int (bt_xor _ _) ?_
            refine wp_iload_n (pc := 44) 1 dX1_firstPlayed_44 rfl rfl ?_
            refine wp_iconst (pc := 45) (1) dX1_firstPlayed_45 (by decide) ?_
            refine wp_isub (pc := 46) dX1_firstPlayed_46 ?_
            refine wp_int (nI_pred _) ?_
            refine wp_iconst (pc := 47) (0) dX1_firstPlayed_47 (by decide) ?_
            refine wp_iconst (pc := 48) (-1) dX1_firstPlayed_48 (by decide) ?_
            refine wp_iload_n (pc := 49) 3 dX1_firstPlayed_49 rfl rfl ?_
            refine wc_S_RIIIII (pc := 50) dX1_firstPlayed_50 lkX1_47 (by decide) (Nat.le_of_ble_eq_true rfl) ?_
            refine c_X1_playedOut ht hw hT k (by omega) (back := false) (lo := -1) (hi := 1000) hbx (by decide) (by omega) (by omega) (fun r hr1 hr2 hr3 => ?_)
            refine wp_istore (pc := 53) 5 dX1_firstPlayed_53 (by decide) rfl ?_
            refine wp_iload (pc := 55) 5 dX1_firstPlayed_55 rfl ?_
            refine wp_iload_n (pc := 57) 3 dX1_firstPlayed_57 rfl rfl ?_
            refine wp_icmp_ge (pc := 58) 67 dX1_firstPlayed_58 (by decide) (fun c_58 => ?_) (fun c_58 => ?_)
            · exact absurd ((iI_le (by omega) (by omega)).mp c_58) (by have := hr1.2.2 (by omega) (by omega); omega)
            · refine wp_iload (pc := 61) 4 dX1_firstPlayed_61 rfl ?_
              refine wp_istore_n (pc := 63) 2 dX1_firstPlayed_63 rfl (by decide) rfl ?_
              refine wp_iload (pc := 64) 5 dX1_firstPlayed_64 rfl ?_
              refine wp_istore_n (pc := 66) 3 dX1_firstPlayed_66 rfl (by decide) rfl ?_
              refine wp_incN (pc := 67) 4 dX1_firstPlayed_67 rfl (by decide) rfl ?_
              refine wp_goto (pc := 70) 9 dX1_firstPlayed_70 (by decide) ?_
              have nx := nx trivial
              unfold fpU at nx
              rw [best_new c_31 ho] at nx
              rw [show r = (mm f k (bn f ^^^ 2 ^ i) false : Int) from hr1.2.2 (by omega) (by omega)]
              refine wp_weak ?_ nx
              exact And.intro (Or.inr rfl) (And.intro (Or.inr rfl) (And.intro (Or.inr rfl) (And.intro (Or.inr rfl) (And.intro (Or.inr rfl) (And.intro (Or.inl rfl) (trivial))))))
    · have hmj := mm_le hw k (bn f ^^^ 2 ^ j) false
      refine wp_to (lv' := [.ref t, .int (nI (k + 1)), .int (nI j), .int (iI (mm f k (bn f ^^^ 2 ^ j) false)), .int (nI i), .null]) ?_ (by rw [show fpU f k i = some j from ho]; rfl) rfl rfl
      refine wp_iload (pc := 9) 4 dX1_firstPlayed_9 rfl ?_
      refine wp_aload_n (pc := 11) 0 dX1_firstPlayed_11 rfl rfl ?_
      refine wq_getI (pc := 12) 41 0 dX1_firstPlayed_12 (tT ht) flX1_41 rfl ht.lt ?_
      refine wp_int hT.n ?_
      refine wp_icmp_ge (pc := 15) 73 dX1_firstPlayed_15 (by decide) (fun c_15 => ?_) (fun c_15 => ?_)
      · exact absurd c_15 (nI_ge (b := f 68) hi (by omega))
      · refine wp_iload_n (pc := 18) 1 dX1_firstPlayed_18 rfl rfl ?_
        refine wp_ifle (pc := 19) 73 dX1_firstPlayed_19 (by decide) (fun c_19 => ?_) (fun c_19 => ?_)
        · exact absurd c_19 (nI_nle (by omega) (by omega))
        · refine wp_aload_n (pc := 22) 0 dX1_firstPlayed_22 rfl rfl ?_
          refine wq_getI (pc := 23) 15 5 dX1_firstPlayed_23 (tT ht) flX1_15 rfl ht.lt ?_
          refine wp_int hT.been ?_
          refine wp_iload (pc := 26) 4 dX1_firstPlayed_26 rfl ?_
          refine wc_SN_II (pc := 28) dX1_firstPlayed_28 lkX1_44 (by decide) (Nat.le_of_ble_eq_true rfl) ?_
          refine c_X6_isIn (by omega) (by omega) ?_
          refine wp_ifeqB (pc := 31) 67 dX1_firstPlayed_31 (by decide) (fun c_31 => ?_) (fun c_31 => ?_)
          · refine wp_incN (pc := 67) 4 dX1_firstPlayed_67 rfl (by decide) rfl ?_
            refine wp_goto (pc := 70) 9 dX1_firstPlayed_70 (by decide) ?_
            have nx := nx trivial
            unfold fpU at nx
            rw [best_no c_31, ho] at nx
            exact nx
          · refine wp_aload_n (pc := 34) 0 dX1_firstPlayed_34 rfl rfl ?_
            refine wp_aload_n (pc := 35) 0 dX1_firstPlayed_35 rfl rfl ?_
            refine wq_getI (pc := 36) 15 5 dX1_firstPlayed_36 (tT ht) flX1_15 rfl ht.lt ?_
            refine wp_int hT.been ?_
            refine wp_iconst (pc := 39) (1) dX1_firstPlayed_39 (by decide) ?_
            refine wp_iload (pc := 40) 4 dX1_firstPlayed_40 rfl ?_
            refine wp_ishl (pc := 42) dX1_firstPlayed_42 ?_
            refine wp_int (bt_one (by omega)) ?_
            refine wp_ixor (pc := 43) dX1_firstPlayed_43 ?_
            refine wp_int (bt_xor _ _) ?_
            refine wp_iload_n (pc := 44) 1 dX1_firstPlayed_44 rfl rfl ?_
            refine wp_iconst (pc := 45) (1) dX1_firstPlayed_45 (by decide) ?_
            refine wp_isub (pc := 46) dX1_firstPlayed_46 ?_
            refine wp_int (nI_pred _) ?_
            refine wp_iconst (pc := 47) (0) dX1_firstPlayed_47 (by decide) ?_
            refine wp_iconst (pc := 48) (-1) dX1_firstPlayed_48 (by decide) ?_
            refine wp_iload_n (pc := 49) 3 dX1_firstPlayed_49 rfl rfl ?_
            refine wc_S_RIIIII (pc := 50) dX1_firstPlayed_50 lkX1_47 (by decide) (Nat.le_of_ble_eq_true rfl) ?_
            refine c_X1_playedOut ht hw hT k (by omega) (back := false) (lo := -1) (hi := (mm f k (bn f ^^^ 2 ^ j) false : Int)) hbx (by decide) (by omega) (by omega) (fun r hr1 hr2 hr3 => ?_)
            refine wp_istore (pc := 53) 5 dX1_firstPlayed_53 (by decide) rfl ?_
            refine wp_iload (pc := 55) 5 dX1_firstPlayed_55 rfl ?_
            refine wp_iload_n (pc := 57) 3 dX1_firstPlayed_57 rfl rfl ?_
            refine wp_icmp_ge (pc := 58) 67 dX1_firstPlayed_58 (by decide) (fun c_58 => ?_) (fun c_58 => ?_)
            · refine wp_incN (pc := 67) 4 dX1_firstPlayed_67 rfl (by decide) rfl ?_
              refine wp_goto (pc := 70) 9 dX1_firstPlayed_70 (by decide) ?_
              have nx := nx trivial
              unfold fpU at nx
              have hge := (iI_le (by omega) (by omega)).mp c_58
              rw [best_st c_31 ho (decide_eq_false (fun z => by have := hr1.2.2 (by omega) (by omega); omega))] at nx
              refine wp_weak ?_ nx
              exact And.intro (Or.inr rfl) (And.intro (Or.inr rfl) (And.intro (Or.inr rfl) (And.intro (Or.inr rfl) (And.intro (Or.inr rfl) (And.intro (Or.inl rfl) (trivial))))))
            · refine wp_iload (pc := 61) 4 dX1_firstPlayed_61 rfl ?_
              refine wp_istore_n (pc := 63) 2 dX1_firstPlayed_63 rfl (by decide) rfl ?_
              refine wp_iload (pc := 64) 5 dX1_firstPlayed_64 rfl ?_
              refine wp_istore_n (pc := 66) 3 dX1_firstPlayed_66 rfl (by decide) rfl ?_
              refine wp_incN (pc := 67) 4 dX1_firstPlayed_67 rfl (by decide) rfl ?_
              refine wp_goto (pc := 70) 9 dX1_firstPlayed_70 (by decide) ?_
              have nx := nx trivial
              unfold fpU at nx
              have hlt : r < (mm f k (bn f ^^^ 2 ^ j) false : Int) := Int.not_le.mp fun z => c_58 ((iI_le (by omega) (by omega)).mpr z)
              have hlt2 : mm f k (bn f ^^^ 2 ^ i) false < mm f k (bn f ^^^ 2 ^ j) false := Nat.lt_of_not_le fun z => by have := hr1.2.1 (by omega); omega
              rw [best_up c_31 ho (decide_eq_true hlt2)] at nx
              rw [show r = (mm f k (bn f ^^^ 2 ^ i) false : Int) from hr1.2.2 (by omega) (by omega)]
              refine wp_weak ?_ nx
              exact And.intro (Or.inr rfl) (And.intro (Or.inr rfl) (And.intro (Or.inr rfl) (And.intro (Or.inr rfl) (And.intro (Or.inr rfl) (And.intro (Or.inl rfl) (trivial))))))
  · refine wp_iload (pc := 9) 4 dX1_firstPlayed_9 rfl ?_
    refine wp_aload_n (pc := 11) 0 dX1_firstPlayed_11 rfl rfl ?_
    refine wq_getI (pc := 12) 41 0 dX1_firstPlayed_12 (tT ht) flX1_41 rfl ht.lt ?_
    refine wp_int hT.n ?_
    refine wp_icmp_ge (pc := 15) 73 dX1_firstPlayed_15 (by decide) (fun c_15 => ?_) (fun c_15 => ?_)
    · refine wp_iload_n (pc := 73) 2 dX1_firstPlayed_73 rfl rfl ?_
      refine wp_iretI (pc := 74) dX1_firstPlayed_74 rfl ?_
      exact kk
    · exact absurd (Int32.le_refl _) c_15
