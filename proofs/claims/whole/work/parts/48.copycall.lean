/-! ===== parts copied ===== -/
def do_copy (s : Sg) (x y z u v : Int32) : Int32 × Sg := gat 0 (inS x && inS y) (gat 1 (!hgr (sgh s x.toNatClampNeg) && !hgr (sgh s y.toNatClampNeg)) (gat 2 (hrow (sgh s x.toNatClampNeg) && hrow (sgh s y.toNatClampNeg)) (gat 1 (decide ((sgh s x.toNatClampNeg) = (sgh s y.toNatClampNeg))) (gat 0 ((hrow (sgh s x.toNatClampNeg) && prtB (hsz (sgh s) (sgs s) x.toNatClampNeg) z v) && (hrow (sgh s y.toNatClampNeg) && prtB (hsz (sgh s) (sgs s) y.toNatClampNeg) u v)) (v, stS s (sgh s) (sgs s) (elM (sge s) (x.toNatClampNeg * 40 + z.toNatClampNeg) (y.toNatClampNeg * 40 + u.toNatClampNeg) v.toNatClampNeg)) s) s) s) s) s
theorem eN_inj {a b : Option Nat} (ha : ∀ k, a = some k → k < 1000) (hb : ∀ k, b = some k → k < 1000) (h : eN a = eN b) : a = b := by
  cases a with
  | none =>
    cases b with
    | none => rfl
    | some k => exact absurd (Eq.symm h) (m1_ne (by have := hb k rfl; omega))
  | some j =>
    cases b with
    | none => exact absurd h (m1_ne (by have := ha j rfl; omega))
    | some k => rw [(nI_eq (by have := ha j rfl; omega) (by have := hb k rfl; omega)).mp h]
theorem hok.lt {hd : Nat → Option Nat} {zs : Nat → Nat} (h : hok hd zs) {s : Nat} : ∀ k, hd s = some k → k < 1000 := fun k e => by
  have := h.1 s k e
  omega
theorem nn_t {a b : Bool} (h1 : a = false) (h2 : b = false) : (!a && !b) = true := by rw [h1, h2]; rfl
theorem nn_1 {a b : Bool} (h1 : a = true) : (!a && !b) = false := by rw [h1]; rfl
theorem nn_2 {a b : Bool} (h2 : b = true) : (!a && !b) = false := by rw [h2]; exact Bool.and_false _
theorem c_X6_copy {d : Nat} {F I : Nat → Nat → Int32} {J : Nat → Nat → Int64} {Q : Option Value → sm_H → Prop} {x y z u v : Int32} {s : Sg} (hC : CR s F I J) (ok : Ok s) (k : ∀ F1 I1 J1, CR (do_copy s x y z u v).2 F1 I1 J1 → Hi F I J F1 I1 J1 → Q (some (.int (do_copy s x y z u v).1)) (S0, F1, I1, J1)) : Wp mX6_copy (d + 6) 0 0 0 (sm_ini [.ref 0, .int x, .int y, .int z, .int u, .int v] 7) [] (S0, F, I, J) Q := by
  show Wp _ _ _ _ _ [.ref 0, .int x, .int y, .int z, .int u, .int v, .null] _ _ _
  have ht : isT 1 := Or.inl rfl
  have hw := ok.1
  have hT := hC.1
  have hn := hw.n
  have hbn := bn_1024 hw
  have hh1 := hw.wth
  have hh2 := hw.crk
  have hh3 := hw.year
  have hS := hC.2.2.2.2.2
  have ho := ok.2.2.2.2.1
  refine wp_iload_n (pc := 0) 1 dX6_copy_0 rfl rfl ?_
  refine wc_S_I (pc := 1) dX6_copy_1 lkX6_51 (by decide) (Nat.le_of_ble_eq_true rfl) ?_
  refine c_X3_isShelf ?_
  refine wp_ifeqB (pc := 4) 14 dX6_copy_4 (by decide) (fun c_4 => ?_) (fun c_4 => ?_)
  · refine wp_aload_n (pc := 14) 0 dX6_copy_14 rfl rfl ?_
    refine wp_bipush (pc := 15) (-2) dX6_copy_15 (by decide) ?_
    refine wc_V_I (pc := 17) dX6_copy_17 lkX6_59 (sm_Rc.o (ci := 5) s0_0 (by decide) (by decide)) (by decide) (Nat.le_of_ble_eq_true rfl) ?_
    refine c_X6_refuse_0 ?_
    refine wp_iretI (pc := 20) dX6_copy_20 rfl ?_
    unfold do_copy at k
    rw [gat_f (c := (inS x && inS y)) (and_f1 c_4)] at k
    exact k _ _ _ (hC.bmp (by decide)) (Hi.rf.uI (by decide))
  · obtain ⟨i, hi, rfl⟩ := (i32_in (n := 8) (by decide)).mp (of_decide_eq_true c_4)
    refine wp_iload_n (pc := 7) 2 dX6_copy_7 rfl rfl ?_
    refine wc_S_I (pc := 8) dX6_copy_8 lkX6_51 (by decide) (Nat.le_of_ble_eq_true rfl) ?_
    refine c_X3_isShelf ?_
    refine wp_ifneB (pc := 11) 21 dX6_copy_11 (by decide) (fun c_11 => ?_) (fun c_11 => ?_)
    · obtain ⟨j, hj, rfl⟩ := (i32_in (n := 8) (by decide)).mp (of_decide_eq_true c_11)
      refine wp_aload_n (pc := 21) 0 dX6_copy_21 rfl rfl ?_
      refine wq_getR (pc := 22) 25 3 dX6_copy_22 s0_0 flX6_25 rfl rfl (by decide) (by decide) ?_
      refine wp_iload_n (pc := 25) 1 dX6_copy_25 rfl rfl ?_
      refine wc_V_I (pc := 26) dX6_copy_26 lkX6_77 (sm_Rc.o (ci := 2) s0_31 (by decide) (by decide)) (by decide) (Nat.le_of_ble_eq_true rfl) ?_
      refine c_X3_hasRinger_i hS ho hi ?_
      refine wp_ifneB (pc := 29) 43 dX6_copy_29 (by decide) (fun c_29 => ?_) (fun c_29 => ?_)
      · refine wp_aload_n (pc := 43) 0 dX6_copy_43 rfl rfl ?_
        refine wp_bipush (pc := 44) (-3) dX6_copy_44 (by decide) ?_
        refine wc_V_I (pc := 46) dX6_copy_46 lkX6_59 (sm_Rc.o (ci := 5) s0_0 (by decide) (by decide)) (by decide) (Nat.le_of_ble_eq_true rfl) ?_
        refine c_X6_refuse_1 ?_
        refine wp_iretI (pc := 49) dX6_copy_49 rfl ?_
        unfold do_copy at k
        rw [gat_t (c := (inS (nI i) && inS (nI j))) (and_tt c_4 c_11), nI_clamp (show i < 2 ^ 31 by omega), nI_clamp (show j < 2 ^ 31 by omega)] at k
        rw [gat_f (c := (!hgr (sgh s i) && !hgr (sgh s j))) (nn_1 c_29)] at k
        exact k _ _ _ (hC.bmp (by decide)) (Hi.rf.uI (by decide))
      · refine wp_aload_n (pc := 32) 0 dX6_copy_32 rfl rfl ?_
        refine wq_getR (pc := 33) 25 3 dX6_copy_33 s0_0 flX6_25 rfl rfl (by decide) (by decide) ?_
        refine wp_iload_n (pc := 36) 2 dX6_copy_36 rfl rfl ?_
        refine wc_V_I (pc := 37) dX6_copy_37 lkX6_77 (sm_Rc.o (ci := 2) s0_31 (by decide) (by decide)) (by decide) (Nat.le_of_ble_eq_true rfl) ?_
        refine c_X3_hasRinger_i hS ho hj ?_
        refine wp_ifeqB (pc := 40) 50 dX6_copy_40 (by decide) (fun c_40 => ?_) (fun c_40 => ?_)
        · refine wp_aload_n (pc := 50) 0 dX6_copy_50 rfl rfl ?_
          refine wq_getR (pc := 51) 25 3 dX6_copy_51 s0_0 flX6_25 rfl rfl (by decide) (by decide) ?_
          refine wp_iload_n (pc := 54) 1 dX6_copy_54 rfl rfl ?_
          refine wc_V_I (pc := 55) dX6_copy_55 lkX6_80 (sm_Rc.o (ci := 2) s0_31 (by decide) (by decide)) (by decide) (Nat.le_of_ble_eq_true rfl) ?_
          refine c_X3_hasRow_i hS ho hi ?_
          refine wp_ifeqB (pc := 58) 76 dX6_copy_58 (by decide) (fun c_58 => ?_) (fun c_58 => ?_)
          · refine wp_iconst (pc := 76) (0) dX6_copy_76 (by decide) ?_
            refine wp_istore (pc := 77) 6 dX6_copy_77 (by decide) rfl ?_
            refine wp_iload (pc := 79) 6 dX6_copy_79 rfl ?_
            refine wp_ifeq (pc := 81) 110 dX6_copy_81 (by decide) (fun c_81 => ?_) (fun c_81 => ?_)
            · refine wp_iload (pc := 110) 6 dX6_copy_110 rfl ?_
              refine wp_ifne (pc := 112) 122 dX6_copy_112 (by decide) (fun c_112 => ?_) (fun c_112 => ?_)
              · exact absurd (by decide) c_112
              · refine wp_aload_n (pc := 115) 0 dX6_copy_115 rfl rfl ?_
                refine wp_bipush (pc := 116) (-4) dX6_copy_116 (by decide) ?_
                refine wc_V_I (pc := 118) dX6_copy_118 lkX6_59 (sm_Rc.o (ci := 5) s0_0 (by decide) (by decide)) (by decide) (Nat.le_of_ble_eq_true rfl) ?_
                refine c_X6_refuse_2 ?_
                refine wp_iretI (pc := 121) dX6_copy_121 rfl ?_
                unfold do_copy at k
                rw [gat_t (c := (inS (nI i) && inS (nI j))) (and_tt c_4 c_11), nI_clamp (show i < 2 ^ 31 by omega), nI_clamp (show j < 2 ^ 31 by omega)] at k
                rw [gat_t (c := (!hgr (sgh s i) && !hgr (sgh s j))) (nn_t c_29 c_40)] at k
                rw [gat_f (c := (hrow (sgh s i) && hrow (sgh s j))) (and_f1 c_58)] at k
                exact k _ _ _ (hC.bmp (by decide)) (Hi.rf.uI (by decide))
            · exact absurd (by decide) c_81
          · refine wp_aload_n (pc := 61) 0 dX6_copy_61 rfl rfl ?_
            refine wq_getR (pc := 62) 25 3 dX6_copy_62 s0_0 flX6_25 rfl rfl (by decide) (by decide) ?_
            refine wp_iload_n (pc := 65) 2 dX6_copy_65 rfl rfl ?_
            refine wc_V_I (pc := 66) dX6_copy_66 lkX6_80 (sm_Rc.o (ci := 2) s0_31 (by decide) (by decide)) (by decide) (Nat.le_of_ble_eq_true rfl) ?_
            refine c_X3_hasRow_i hS ho hj ?_
            refine wp_ifeqB (pc := 69) 76 dX6_copy_69 (by decide) (fun c_69 => ?_) (fun c_69 => ?_)
            · refine wp_iconst (pc := 76) (0) dX6_copy_76 (by decide) ?_
              refine wp_istore (pc := 77) 6 dX6_copy_77 (by decide) rfl ?_
              refine wp_iload (pc := 79) 6 dX6_copy_79 rfl ?_
              refine wp_ifeq (pc := 81) 110 dX6_copy_81 (by decide) (fun c_81 => ?_) (fun c_81 => ?_)
              · refine wp_iload (pc := 110) 6 dX6_copy_110 rfl ?_
                refine wp_ifne (pc := 112) 122 dX6_copy_112 (by decide) (fun c_112 => ?_) (fun c_112 => ?_)
                · exact absurd (by decide) c_112
                · refine wp_aload_n (pc := 115) 0 dX6_copy_115 rfl rfl ?_
                  refine wp_bipush (pc := 116) (-4) dX6_copy_116 (by decide) ?_
                  refine wc_V_I (pc := 118) dX6_copy_118 lkX6_59 (sm_Rc.o (ci := 5) s0_0 (by decide) (by decide)) (by decide) (Nat.le_of_ble_eq_true rfl) ?_
                  refine c_X6_refuse_2 ?_
                  refine wp_iretI (pc := 121) dX6_copy_121 rfl ?_
                  unfold do_copy at k
                  rw [gat_t (c := (inS (nI i) && inS (nI j))) (and_tt c_4 c_11), nI_clamp (show i < 2 ^ 31 by omega), nI_clamp (show j < 2 ^ 31 by omega)] at k
                  rw [gat_t (c := (!hgr (sgh s i) && !hgr (sgh s j))) (nn_t c_29 c_40)] at k
                  rw [gat_f (c := (hrow (sgh s i) && hrow (sgh s j))) (and_f2 c_69)] at k
                  exact k _ _ _ (hC.bmp (by decide)) (Hi.rf.uI (by decide))
              · exact absurd (by decide) c_81
            · refine wp_iconst (pc := 72) (1) dX6_copy_72 (by decide) ?_
              refine wp_goto (pc := 73) 77 dX6_copy_73 (by decide) ?_
              refine wp_istore (pc := 77) 6 dX6_copy_77 (by decide) rfl ?_
              refine wp_iload (pc := 79) 6 dX6_copy_79 rfl ?_
              refine wp_ifeq (pc := 81) 110 dX6_copy_81 (by decide) (fun c_81 => ?_) (fun c_81 => ?_)
              · exact absurd c_81 (by decide)
              · refine wp_aload_n (pc := 84) 0 dX6_copy_84 rfl rfl ?_
                refine wq_getR (pc := 85) 25 3 dX6_copy_85 s0_0 flX6_25 rfl rfl (by decide) (by decide) ?_
                refine wp_iload_n (pc := 88) 1 dX6_copy_88 rfl rfl ?_
                refine wc_V_I (pc := 89) dX6_copy_89 lkX6_83 (sm_Rc.o (ci := 2) s0_31 (by decide) (by decide)) (by decide) (Nat.le_of_ble_eq_true rfl) ?_
                refine c_X3_heldIn_i hS ho hi ?_
                refine wp_aload_n (pc := 92) 0 dX6_copy_92 rfl rfl ?_
                refine wq_getR (pc := 93) 25 3 dX6_copy_93 s0_0 flX6_25 rfl rfl (by decide) (by decide) ?_
                refine wp_iload_n (pc := 96) 2 dX6_copy_96 rfl rfl ?_
                refine wc_V_I (pc := 97) dX6_copy_97 lkX6_83 (sm_Rc.o (ci := 2) s0_31 (by decide) (by decide)) (by decide) (Nat.le_of_ble_eq_true rfl) ?_
                refine c_X3_heldIn_i hS ho hj ?_
                refine wp_icmp_eq (pc := 100) 110 dX6_copy_100 (by decide) (fun c_100 => ?_) (fun c_100 => ?_)
                · refine wp_iload (pc := 110) 6 dX6_copy_110 rfl ?_
                  refine wp_ifne (pc := 112) 122 dX6_copy_112 (by decide) (fun c_112 => ?_) (fun c_112 => ?_)
                  · refine wp_aload_n (pc := 122) 0 dX6_copy_122 rfl rfl ?_
                    refine wq_getR (pc := 123) 25 3 dX6_copy_123 s0_0 flX6_25 rfl rfl (by decide) (by decide) ?_
                    refine wp_iload_n (pc := 126) 1 dX6_copy_126 rfl rfl ?_
                    refine wp_iload_n (pc := 127) 3 dX6_copy_127 rfl rfl ?_
                    refine wp_iload (pc := 128) 5 dX6_copy_128 rfl ?_
                    refine wc_V_III (pc := 130) dX6_copy_130 lkX6_86 (sm_Rc.o (ci := 2) s0_31 (by decide) (by decide)) (by decide) (Nat.le_of_ble_eq_true rfl) ?_
                    refine c_X3_hasPart hS ho hi ?_
                    refine wp_ifeqB (pc := 133) 151 dX6_copy_133 (by decide) (fun c_133 => ?_) (fun c_133 => ?_)
                    · refine wp_aload_n (pc := 151) 0 dX6_copy_151 rfl rfl ?_
                      refine wp_bipush (pc := 152) (-2) dX6_copy_152 (by decide) ?_
                      refine wc_V_I (pc := 154) dX6_copy_154 lkX6_59 (sm_Rc.o (ci := 5) s0_0 (by decide) (by decide)) (by decide) (Nat.le_of_ble_eq_true rfl) ?_
                      refine c_X6_refuse_0 ?_
                      refine wp_iretI (pc := 157) dX6_copy_157 rfl ?_
                      unfold do_copy at k
                      rw [gat_t (c := (inS (nI i) && inS (nI j))) (and_tt c_4 c_11), nI_clamp (show i < 2 ^ 31 by omega), nI_clamp (show j < 2 ^ 31 by omega)] at k
                      rw [gat_t (c := (!hgr (sgh s i) && !hgr (sgh s j))) (nn_t c_29 c_40)] at k
                      rw [gat_t (c := (hrow (sgh s i) && hrow (sgh s j))) (and_tt c_58 c_69)] at k
                      rw [gat_t (c := (decide ((sgh s i) = (sgh s j)))) (decide_eq_true (eN_inj ho.lt ho.lt c_100))] at k
                      rw [gat_f (c := ((hrow (sgh s i) && prtB (hsz (sgh s) (sgs s) i) z v) && (hrow (sgh s j) && prtB (hsz (sgh s) (sgs s) j) u v))) (and_f1 c_133)] at k
                      exact k _ _ _ (hC.bmp (by decide)) (Hi.rf.uI (by decide))
                    · refine wp_aload_n (pc := 136) 0 dX6_copy_136 rfl rfl ?_
                      refine wq_getR (pc := 137) 25 3 dX6_copy_137 s0_0 flX6_25 rfl rfl (by decide) (by decide) ?_
                      refine wp_iload_n (pc := 140) 2 dX6_copy_140 rfl rfl ?_
                      refine wp_iload (pc := 141) 4 dX6_copy_141 rfl ?_
                      refine wp_iload (pc := 143) 5 dX6_copy_143 rfl ?_
                      refine wc_V_III (pc := 145) dX6_copy_145 lkX6_86 (sm_Rc.o (ci := 2) s0_31 (by decide) (by decide)) (by decide) (Nat.le_of_ble_eq_true rfl) ?_
                      refine c_X3_hasPart hS ho hj ?_
                      refine wp_ifneB (pc := 148) 158 dX6_copy_148 (by decide) (fun c_148 => ?_) (fun c_148 => ?_)
                      · have hzi := hsz_le ho i
                        have hzj := hsz_le ho j
                        obtain ⟨a, m, rfl, rfl, h1⟩ := prtB_t hzi (Bool.and_eq_true_iff.mp c_133).2
                        obtain ⟨b, m2, rfl, e2, h2⟩ := prtB_t hzj (Bool.and_eq_true_iff.mp c_148).2
                        obtain rfl := (nI_eq (by omega) (by omega)).mp e2
                        refine wp_aload_n (pc := 158) 0 dX6_copy_158 rfl rfl ?_
                        refine wq_getR (pc := 159) 25 3 dX6_copy_159 s0_0 flX6_25 rfl rfl (by decide) (by decide) ?_
                        refine wp_iload_n (pc := 162) 1 dX6_copy_162 rfl rfl ?_
                        refine wp_iload_n (pc := 163) 2 dX6_copy_163 rfl rfl ?_
                        refine wp_iload_n (pc := 164) 3 dX6_copy_164 rfl rfl ?_
                        refine wp_iload (pc := 165) 4 dX6_copy_165 rfl ?_
                        refine wp_iload (pc := 167) 5 dX6_copy_167 rfl ?_
                        refine wc_V_IIIII (pc := 169) dX6_copy_169 lkX6_90 (sm_Rc.o (ci := 2) s0_31 (by decide) (by decide)) (by decide) (Nat.le_of_ble_eq_true rfl) ?_
                        refine c_X3_move hS ho hi hj c_58 c_69 h1 h2 (fun J1 hS1 hf1 => ?_)
                        refine wp_iload (pc := 172) 5 dX6_copy_172 rfl ?_
                        refine wp_iretI (pc := 174) dX6_copy_174 rfl ?_
                        unfold do_copy at k
                        rw [gat_t (c := (inS (nI i) && inS (nI j))) (and_tt c_4 c_11), nI_clamp (show i < 2 ^ 31 by omega), nI_clamp (show j < 2 ^ 31 by omega)] at k
                        rw [gat_t (c := (!hgr (sgh s i) && !hgr (sgh s j))) (nn_t c_29 c_40)] at k
                        rw [gat_t (c := (hrow (sgh s i) && hrow (sgh s j))) (and_tt c_58 c_69)] at k
                        rw [gat_t (c := (decide ((sgh s i) = (sgh s j)))) (decide_eq_true (eN_inj ho.lt ho.lt c_100))] at k
                        rw [gat_t (c := ((hrow (sgh s i) && prtB (hsz (sgh s) (sgs s) i) (nI a) (nI m)) && (hrow (sgh s j) && prtB (hsz (sgh s) (sgs s) j) (nI b) (nI m)))) (and_tt c_133 c_148), nI_clamp (show a < 2 ^ 31 by omega), nI_clamp (show b < 2 ^ 31 by omega), nI_clamp (show m < 2 ^ 31 by omega)] at k
                        exact k _ _ _ (hC.sh hS1 hf1) (Hi.rf.sh hf1)
                      · refine wp_aload_n (pc := 151) 0 dX6_copy_151 rfl rfl ?_
                        refine wp_bipush (pc := 152) (-2) dX6_copy_152 (by decide) ?_
                        refine wc_V_I (pc := 154) dX6_copy_154 lkX6_59 (sm_Rc.o (ci := 5) s0_0 (by decide) (by decide)) (by decide) (Nat.le_of_ble_eq_true rfl) ?_
                        refine c_X6_refuse_0 ?_
                        refine wp_iretI (pc := 157) dX6_copy_157 rfl ?_
                        unfold do_copy at k
                        rw [gat_t (c := (inS (nI i) && inS (nI j))) (and_tt c_4 c_11), nI_clamp (show i < 2 ^ 31 by omega), nI_clamp (show j < 2 ^ 31 by omega)] at k
                        rw [gat_t (c := (!hgr (sgh s i) && !hgr (sgh s j))) (nn_t c_29 c_40)] at k
                        rw [gat_t (c := (hrow (sgh s i) && hrow (sgh s j))) (and_tt c_58 c_69)] at k
                        rw [gat_t (c := (decide ((sgh s i) = (sgh s j)))) (decide_eq_true (eN_inj ho.lt ho.lt c_100))] at k
                        rw [gat_f (c := ((hrow (sgh s i) && prtB (hsz (sgh s) (sgs s) i) z v) && (hrow (sgh s j) && prtB (hsz (sgh s) (sgs s) j) u v))) (and_f2 c_148)] at k
                        exact k _ _ _ (hC.bmp (by decide)) (Hi.rf.uI (by decide))
                  · exact absurd c_112 (by decide)
                · refine wp_aload_n (pc := 103) 0 dX6_copy_103 rfl rfl ?_
                  refine wp_bipush (pc := 104) (-3) dX6_copy_104 (by decide) ?_
                  refine wc_V_I (pc := 106) dX6_copy_106 lkX6_59 (sm_Rc.o (ci := 5) s0_0 (by decide) (by decide)) (by decide) (Nat.le_of_ble_eq_true rfl) ?_
                  refine c_X6_refuse_1 ?_
                  refine wp_iretI (pc := 109) dX6_copy_109 rfl ?_
                  unfold do_copy at k
                  rw [gat_t (c := (inS (nI i) && inS (nI j))) (and_tt c_4 c_11), nI_clamp (show i < 2 ^ 31 by omega), nI_clamp (show j < 2 ^ 31 by omega)] at k
                  rw [gat_t (c := (!hgr (sgh s i) && !hgr (sgh s j))) (nn_t c_29 c_40)] at k
                  rw [gat_t (c := (hrow (sgh s i) && hrow (sgh s j))) (and_tt c_58 c_69)] at k
                  rw [gat_f (c := (decide ((sgh s i) = (sgh s j)))) (decide_eq_false (fun z => c_100 (by rw [z])))] at k
                  exact k _ _ _ (hC.bmp (by decide)) (Hi.rf.uI (by decide))
        · refine wp_aload_n (pc := 43) 0 dX6_copy_43 rfl rfl ?_
          refine wp_bipush (pc := 44) (-3) dX6_copy_44 (by decide) ?_
          refine wc_V_I (pc := 46) dX6_copy_46 lkX6_59 (sm_Rc.o (ci := 5) s0_0 (by decide) (by decide)) (by decide) (Nat.le_of_ble_eq_true rfl) ?_
          refine c_X6_refuse_1 ?_
          refine wp_iretI (pc := 49) dX6_copy_49 rfl ?_
          unfold do_copy at k
          rw [gat_t (c := (inS (nI i) && inS (nI j))) (and_tt c_4 c_11), nI_clamp (show i < 2 ^ 31 by omega), nI_clamp (show j < 2 ^ 31 by omega)] at k
          rw [gat_f (c := (!hgr (sgh s i) && !hgr (sgh s j))) (nn_2 c_40)] at k
          exact k _ _ _ (hC.bmp (by decide)) (Hi.rf.uI (by decide))
    · refine wp_aload_n (pc := 14) 0 dX6_copy_14 rfl rfl ?_
      refine wp_bipush (pc := 15) (-2) dX6_copy_15 (by decide) ?_
      refine wc_V_I (pc := 17) dX6_copy_17 lkX6_59 (sm_Rc.o (ci := 5) s0_0 (by decide) (by decide)) (by decide) (Nat.le_of_ble_eq_true rfl) ?_
      refine c_X6_refuse_0 ?_
      refine wp_iretI (pc := 20) dX6_copy_20 rfl ?_
      unfold do_copy at k
      rw [gat_f (c := (inS (nI i) && inS y)) (and_f2 c_11)] at k
      exact k _ _ _ (hC.bmp (by decide)) (Hi.rf.uI (by decide))
