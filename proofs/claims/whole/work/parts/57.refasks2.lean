/-! ===== the reference: the pair, parts, shelves asked ===== -/
theorem bt_bit2 {v i j : Nat} (hv : v < 2 ^ 31) (hi : i < 32) (hj : j < 32) : ((nI v >>> (nI i &&& 31)) &&& (nI v >>> (nI j &&& 31))) &&& 1 = b2 (v.testBit i && v.testBit j) := by
  have h1 : v / 2 ^ i &&& v / 2 ^ j < 2 ^ 32 := Nat.lt_of_le_of_lt Nat.and_le_left (Nat.lt_of_le_of_lt (Nat.div_le_self _ _) (by omega))
  have e : ∀ x : Nat, x % 2 = (x.testBit 0).toNat := by
    intro x
    rw [Nat.testBit_zero]
    rcases Nat.mod_two_eq_zero_or_one x with h | h <;> simp [h]
  rw [bt_shr hv hi, bt_shr hv hj, bt_and, bt_and1 h1, b2_nI, e, Nat.testBit_and, Nat.testBit_div_two_pow, Nat.testBit_div_two_pow]
  simp
theorem two_in {b i j : Nat} : dif (2 ^ j ||| 2 ^ i) b = 0 ↔ (b.testBit i && b.testBit j) = true := by
  rw [dif_0, Bool.and_eq_true]
  constructor
  · intro h
    exact ⟨h i (by rw [Nat.testBit_or, bit_p2, bit_p2]; simp), h j (by rw [Nat.testBit_or, bit_p2, bit_p2]; simp)⟩
  · intro h k hk
    rw [Nat.testBit_or, bit_p2, bit_p2, Bool.or_eq_true, decide_eq_true_eq, decide_eq_true_eq] at hk
    rcases hk with rfl | rfl
    · exact h.2
    · exact h.1
theorem dif_dif (a x y : Nat) : dif (dif a x) y = dif a (y ||| x) := bits_ext fun k => by
  rw [dif_bit, dif_bit, dif_bit, Nat.testBit_or]
  cases a.testBit k <;> cases x.testBit k <;> cases y.testBit k <;> rfl
def okV (f : rw_) (q : Option (Nat × Nat)) : Prop := ∀ c v, q = some (c, v) → v = val f (dif (bn f) (2 ^ (c / 10) ||| 2 ^ (c % 10)))
theorem okV_1 {f : rw_} {o : Option (Nat × Nat)} {i j : Nat} (h : okV f o) (hj : j < 10) : okV f (pr1 f o i j) := by
  intro c v e
  have h0 : ∀ {c v : Nat}, some (10 * i + j, prV f i j) = some (c, v) → v = val f (dif (bn f) (2 ^ (c / 10) ||| 2 ^ (c % 10))) := fun e => by
    cases e
    unfold prV
    rw [show (10 * i + j) / 10 = i by omega, show (10 * i + j) % 10 = j by omega, Nat.or_comm]
  unfold pr1 at e
  split at e
  · cases o with
    | none => exact h0 e
    | some q =>
      simp only at e
      split at e
      · exact h0 e
      · exact h c v e
  · exact h c v e
theorem okV_J {f : rw_} {o : Option (Nat × Nat)} {i : Nat} (h : okV f o) : ∀ {k : Nat}, k ≤ 10 → okV f (prJ f i o k)
  | 0, _ => h
  | k + 1, hk => by
    rw [prJ]
    split
    · exact okV_1 (okV_J h (by omega)) (by omega)
    · exact okV_J h (by omega)
theorem okV_U {f : rw_} (hn : f 68 ≤ 10) : ∀ {i : Nat}, okV f (prU f i)
  | 0 => fun _ _ e => by cases e
  | i + 1 => okV_J (okV_U hn) hn
theorem bn_toNat {f : rw_} (h : WF f) {i : Nat} (hi : i < f 68) : ((bn f).testBit i).toNat = f (5 * i + 3) := by
  have hn := h.n
  have hb := h.been (i := i) (by omega)
  rw [bn_at h hi]
  rcases (show f (5 * i + 3) = 0 ∨ f (5 * i + 3) = 1 by omega) with e | e <;> rw [e] <;> rfl
theorem sh8 (x : Int32) : (0 ≤ x ∧ x ≤ 7) ↔ (0 ≤ x ∧ x < 8) := by
  have h := i32_pred (x := x) (n := 8) (by decide)
  rw [show (nI 8 - 1 : Int32) = 7 by decide] at h
  exact h
theorem eN_row {hd : Nat → Option Nat} {zs : Nat → Nat} (ho : hok hd zs) (s : Nat) : decide (0 ≤ eN (hd s) ∧ eN (hd s) ≤ 4) = hrow (hd s) := by
  cases e : hd s with
  | none => rfl
  | some k =>
    have hk := ho.lt k e
    show decide (0 ≤ nI k ∧ nI k ≤ nI 4) = decide (k ≤ 4)
    rw [decide_eq_decide]
    exact ⟨fun z => (nI_leI (by omega) (by decide)).mp z.2, fun z => ⟨nI_pos' (by omega), (nI_leI (by omega) (by decide)).mpr z⟩⟩
theorem ix40 (i j : Nat) : (40 : Int32) * nI i + nI j = nI (i * 40 + j) := by rw [show (40 : Int32) = nI 40 from rfl, pk_mul, nI_add, Nat.mul_comm]
theorem wp_lng {M : sm_M} {d mc ms pc : Nat} {lv st : List Value} {h : sm_H} {Q : Option Value → sm_H → Prop} {x y : Int64} (e : x = y) (k : Wp M d mc ms pc lv (.long y :: st) h Q) : Wp M d mc ms pc lv (.long x :: st) h Q := by subst e; exact k
theorem c_X7_pair {d : Nat} {F I : Nat → Nat → Int32} {J : Nat → Nat → Int64} {Q : Option Value → sm_H → Prop} {x : Int32} {s : Sg} (hM : MR s F I J) (ok : Ok s) (k : ∀ F1 I1 J1, MR (do_pair s x).2 F1 I1 J1 → Lo F I J F1 I1 J1 → Q (some (.int (do_pair s x).1)) (S0, F1, I1, J1)) : Wp mX7_pair (d + 3) 0 0 0 (sm_ini [.ref 40, .int x] 8) [] (S0, F, I, J) Q := by
  show Wp _ _ _ _ _ [.ref 40, .int x, .null, .null, .null, .null, .null, .null] _ _ _
  have hw := ok.1
  have hR := hM.1
  have hn := hw.n
  have hcw := hw.c
  have hbn := bn_1024 hw
  have hbl := bn_lt hw
  have hp2 := p2n hw
  have hh1 := hw.wth
  have hh2 := hw.crk
  have hh3 := hw.year
  refine wp_iload_n (pc := 0) 1 dX7_pair_0 rfl rfl ?_
  refine wp_iconst (pc := 1) (0) dX7_pair_1 (by decide) ?_
  refine wp_iconst (pc := 2) (1) dX7_pair_2 (by decide) ?_
  refine wc_S_III (pc := 3) dX7_pair_3 lkX7_49 (by decide) (Nat.le_of_ble_eq_true rfl) ?_
  refine c_X7_isIn ?_
  refine wp_ifneB (pc := 6) 16 dX7_pair_6 (by decide) (fun c_6 => ?_) (fun c_6 => ?_)
  · refine wp_aload_n (pc := 16) 0 dX7_pair_16 rfl rfl ?_
    refine wc_V_ (pc := 17) dX7_pair_17 lkX7_135 (sm_Rc.o (ci := 6) s0_40 (by decide) (by decide)) (by decide) (Nat.le_of_ble_eq_true rfl) ?_
    refine c_X7_been hw hR ?_
    refine wp_istore_n (pc := 20) 2 dX7_pair_20 rfl (by decide) rfl ?_
    refine wp_iconst (pc := 21) (-1) dX7_pair_21 (by decide) ?_
    refine wp_istore_n (pc := 22) 3 dX7_pair_22 rfl (by decide) rfl ?_
    refine wp_iconst (pc := 23) (0) dX7_pair_23 (by decide) ?_
    refine wp_istore (pc := 24) 4 dX7_pair_24 (by decide) rfl ?_
    refine wp_iconst (pc := 26) (0) dX7_pair_26 (by decide) ?_
    refine wp_istore (pc := 27) 5 dX7_pair_27 (by decide) rfl ?_
    unfold do_pair at k
    rw [qry_t (c := (upB x 1)) c_6] at k
    refine wp_loop (fun i => [.ref 40, .int x, .int (nI (bn (sgf s))), .int (eN ((prU (sgf s) i).map Prod.fst)), .int (eL (prU (sgf s) i)), .int (nI i), .null, .null]) (fun _ => (S0, F, I, J)) (fun _ => True) (sgf s 68) (fun i hi hv nx => ?_) (fun hv => ?_) 0 (Nat.zero_le _) trivial
    · refine wp_iload (pc := 29) 5 dX7_pair_29 rfl ?_
      refine wp_aload_n (pc := 31) 0 dX7_pair_31 rfl rfl ?_
      refine wc_V_ (pc := 32) dX7_pair_32 lkX7_57 (sm_Rc.o (ci := 6) s0_40 (by decide) (by decide)) (by decide) (Nat.le_of_ble_eq_true rfl) ?_
      refine c_X7_many hw hR ?_
      refine wp_icmp_ge (pc := 35) 126 dX7_pair_35 (by decide) (fun c_35 => ?_) (fun c_35 => ?_)
      · exact absurd c_35 (nI_ge (b := sgf s 68) hi (by omega))
      · refine wp_iload (pc := 38) 5 dX7_pair_38 rfl ?_
        refine wp_iconst (pc := 40) (1) dX7_pair_40 (by decide) ?_
        refine wp_iadd (pc := 41) dX7_pair_41 ?_
        refine wp_int (nI_1 _) ?_
        refine wp_istore (pc := 42) 6 dX7_pair_42 (by decide) rfl ?_
        have hpj : prU (sgf s) i = prJ (sgf s) i (prU (sgf s) i) (i + 1) := (prJ_0 (Nat.le_refl _)).symm
        refine wp_to (lv' := [.ref 40, .int x, .int (nI (bn (sgf s))), .int (eN ((prJ (sgf s) i (prU (sgf s) i) (i + 1)).map Prod.fst)), .int (eL (prJ (sgf s) i (prU (sgf s) i) (i + 1))), .int (nI i), .int (nI (i + 1)), .null]) ?_ (by rw [← hpj]; rfl) rfl rfl
        refine wp_loop (fun j => [.ref 40, .int x, .int (nI (bn (sgf s))), .int (eN ((prJ (sgf s) i (prU (sgf s) i) j).map Prod.fst)), .int (eL (prJ (sgf s) i (prU (sgf s) i) j)), .int (nI i), .int (nI j), .null]) (fun _ => (S0, F, I, J)) (fun j => i < j) (sgf s 68) (fun j hj hv nx => ?_) (fun _ => ?_) (i + 1) (by omega) (Nat.lt_succ_self i)
        · have hvv := val_le hw (dif (bn (sgf s)) (2 ^ j ||| 2 ^ i))
          have hok := okP_J hw (okP_U hw (i := i) (by omega)) (i := i) (by omega) (k := j) (by omega)
          rcases ho : prJ (sgf s) i (prU (sgf s) i) j with _ | ⟨c, v⟩
          · refine wp_to (lv' := [.ref 40, .int x, .int (nI (bn (sgf s))), .int (-1), .int (0), .int (nI i), .int (nI j), .null]) ?_ rfl rfl rfl
            refine wp_iload (pc := 44) 6 dX7_pair_44 rfl ?_
            refine wp_aload_n (pc := 46) 0 dX7_pair_46 rfl rfl ?_
            refine wc_V_ (pc := 47) dX7_pair_47 lkX7_57 (sm_Rc.o (ci := 6) s0_40 (by decide) (by decide)) (by decide) (Nat.le_of_ble_eq_true rfl) ?_
            refine c_X7_many hw hR ?_
            refine wp_icmp_ge (pc := 50) 120 dX7_pair_50 (by decide) (fun c_50 => ?_) (fun c_50 => ?_)
            · exact absurd c_50 (nI_ge (b := sgf s 68) hj (by omega))
            · refine wp_iload_n (pc := 53) 2 dX7_pair_53 rfl rfl ?_
              refine wp_iload (pc := 54) 5 dX7_pair_54 rfl ?_
              refine wp_ishr (pc := 56) dX7_pair_56 ?_
              refine wp_iload_n (pc := 57) 2 dX7_pair_57 rfl rfl ?_
              refine wp_iload (pc := 58) 6 dX7_pair_58 rfl ?_
              refine wp_ishr (pc := 60) dX7_pair_60 ?_
              refine wp_iand (pc := 61) dX7_pair_61 ?_
              refine wp_iconst (pc := 62) (1) dX7_pair_62 (by decide) ?_
              refine wp_iand (pc := 63) dX7_pair_63 ?_
              refine wp_int (bt_bit2 (by omega) (by omega) (by omega)) ?_
              refine wp_iconst (pc := 64) (1) dX7_pair_64 (by decide) ?_
              refine wp_icmp_ne1 (pc := 65) 114 dX7_pair_65 (by decide) (fun c_65 => ?_) (fun c_65 => ?_)
              · refine wp_incN (pc := 114) 6 dX7_pair_114 rfl (by decide) rfl ?_
                refine wp_goto (pc := 117) 44 dX7_pair_117 (by decide) ?_
                have nx := nx (by omega)
                rw [prJ_s hv, pr_no (fun z => absurd ((two_in.mp z).symm.trans c_65) (by decide)), ho] at nx
                refine wp_weak ?_ nx
                exact And.intro (Or.inr rfl) (And.intro (Or.inr rfl) (And.intro (Or.inr rfl) (And.intro (Or.inr rfl) (And.intro (Or.inr rfl) (And.intro (Or.inr rfl) (And.intro (Or.inr rfl) (And.intro (Or.inl rfl) (trivial))))))))
              · refine wp_aload_n (pc := 68) 0 dX7_pair_68 rfl rfl ?_
                refine wp_iload_n (pc := 69) 2 dX7_pair_69 rfl rfl ?_
                refine wp_iconst (pc := 70) (1) dX7_pair_70 (by decide) ?_
                refine wp_iload (pc := 71) 5 dX7_pair_71 rfl ?_
                refine wp_ishl (pc := 73) dX7_pair_73 ?_
                refine wp_iconst (pc := 74) (-1) dX7_pair_74 (by decide) ?_
                refine wp_ixor (pc := 75) dX7_pair_75 ?_
                refine wp_iand (pc := 76) dX7_pair_76 ?_
                refine wp_int (bt_clr (by omega)) ?_
                refine wp_iconst (pc := 77) (1) dX7_pair_77 (by decide) ?_
                refine wp_iload (pc := 78) 6 dX7_pair_78 rfl ?_
                refine wp_ishl (pc := 80) dX7_pair_80 ?_
                refine wp_iconst (pc := 81) (-1) dX7_pair_81 (by decide) ?_
                refine wp_ixor (pc := 82) dX7_pair_82 ?_
                refine wp_iand (pc := 83) dX7_pair_83 ?_
                refine wp_int (y := nI (dif (bn (sgf s)) (2 ^ j ||| 2 ^ i))) (by rw [bt_clr (by omega), dif_dif]) ?_
                refine wc_V_I (pc := 84) dX7_pair_84 lkX7_168 (sm_Rc.o (ci := 6) s0_40 (by decide) (by decide)) (by decide) (Nat.le_of_ble_eq_true rfl) ?_
                refine c_X7_valueBy hw hR (dif_le _ _ hbl) ?_
                refine wp_istore (pc := 87) 7 dX7_pair_87 (by decide) rfl ?_
                refine wp_iload_n (pc := 89) 3 dX7_pair_89 rfl rfl ?_
                refine wp_iconst (pc := 90) (-1) dX7_pair_90 (by decide) ?_
                refine wp_icmp_eq (pc := 91) 101 dX7_pair_91 (by decide) (fun c_91 => ?_) (fun c_91 => ?_)
                · refine wp_bipush (pc := 101) (10) dX7_pair_101 (by decide) ?_
                  refine wp_iload (pc := 103) 5 dX7_pair_103 rfl ?_
                  refine wp_imul (pc := 105) dX7_pair_105 ?_
                  refine wp_int (x := 10 * nI _) (pk_mul 10 _) ?_
                  refine wp_iload (pc := 106) 6 dX7_pair_106 rfl ?_
                  refine wp_iadd (pc := 108) dX7_pair_108 ?_
                  refine wp_int (nI_add _ _) ?_
                  refine wp_istore_n (pc := 109) 3 dX7_pair_109 rfl (by decide) rfl ?_
                  refine wp_iload (pc := 110) 7 dX7_pair_110 rfl ?_
                  refine wp_istore (pc := 112) 4 dX7_pair_112 (by decide) rfl ?_
                  refine wp_incN (pc := 114) 6 dX7_pair_114 rfl (by decide) rfl ?_
                  refine wp_goto (pc := 117) 44 dX7_pair_117 (by decide) ?_
                  have nx := nx (by omega)
                  rw [prJ_s hv, ho, pr_new (two_in.mpr c_65)] at nx
                  refine wp_weak ?_ nx
                  exact And.intro (Or.inr rfl) (And.intro (Or.inr rfl) (And.intro (Or.inr rfl) (And.intro (Or.inr rfl) (And.intro (Or.inr rfl) (And.intro (Or.inr rfl) (And.intro (Or.inr rfl) (And.intro (Or.inl rfl) (trivial))))))))
                · exact absurd (by decide) c_91
          · have hcv := hok c v ho
            refine wp_to (lv' := [.ref 40, .int x, .int (nI (bn (sgf s))), .int (nI c), .int (nI v), .int (nI i), .int (nI j), .null]) ?_ rfl rfl rfl
            refine wp_iload (pc := 44) 6 dX7_pair_44 rfl ?_
            refine wp_aload_n (pc := 46) 0 dX7_pair_46 rfl rfl ?_
            refine wc_V_ (pc := 47) dX7_pair_47 lkX7_57 (sm_Rc.o (ci := 6) s0_40 (by decide) (by decide)) (by decide) (Nat.le_of_ble_eq_true rfl) ?_
            refine c_X7_many hw hR ?_
            refine wp_icmp_ge (pc := 50) 120 dX7_pair_50 (by decide) (fun c_50 => ?_) (fun c_50 => ?_)
            · exact absurd c_50 (nI_ge (b := sgf s 68) hj (by omega))
            · refine wp_iload_n (pc := 53) 2 dX7_pair_53 rfl rfl ?_
              refine wp_iload (pc := 54) 5 dX7_pair_54 rfl ?_
              refine wp_ishr (pc := 56) dX7_pair_56 ?_
              refine wp_iload_n (pc := 57) 2 dX7_pair_57 rfl rfl ?_
              refine wp_iload (pc := 58) 6 dX7_pair_58 rfl ?_
              refine wp_ishr (pc := 60) dX7_pair_60 ?_
              refine wp_iand (pc := 61) dX7_pair_61 ?_
              refine wp_iconst (pc := 62) (1) dX7_pair_62 (by decide) ?_
              refine wp_iand (pc := 63) dX7_pair_63 ?_
              refine wp_int (bt_bit2 (by omega) (by omega) (by omega)) ?_
              refine wp_iconst (pc := 64) (1) dX7_pair_64 (by decide) ?_
              refine wp_icmp_ne1 (pc := 65) 114 dX7_pair_65 (by decide) (fun c_65 => ?_) (fun c_65 => ?_)
              · refine wp_incN (pc := 114) 6 dX7_pair_114 rfl (by decide) rfl ?_
                refine wp_goto (pc := 117) 44 dX7_pair_117 (by decide) ?_
                have nx := nx (by omega)
                rw [prJ_s hv, pr_no (fun z => absurd ((two_in.mp z).symm.trans c_65) (by decide)), ho] at nx
                refine wp_weak ?_ nx
                exact And.intro (Or.inr rfl) (And.intro (Or.inr rfl) (And.intro (Or.inr rfl) (And.intro (Or.inr rfl) (And.intro (Or.inr rfl) (And.intro (Or.inr rfl) (And.intro (Or.inr rfl) (And.intro (Or.inl rfl) (trivial))))))))
              · refine wp_aload_n (pc := 68) 0 dX7_pair_68 rfl rfl ?_
                refine wp_iload_n (pc := 69) 2 dX7_pair_69 rfl rfl ?_
                refine wp_iconst (pc := 70) (1) dX7_pair_70 (by decide) ?_
                refine wp_iload (pc := 71) 5 dX7_pair_71 rfl ?_
                refine wp_ishl (pc := 73) dX7_pair_73 ?_
                refine wp_iconst (pc := 74) (-1) dX7_pair_74 (by decide) ?_
                refine wp_ixor (pc := 75) dX7_pair_75 ?_
                refine wp_iand (pc := 76) dX7_pair_76 ?_
                refine wp_int (bt_clr (by omega)) ?_
                refine wp_iconst (pc := 77) (1) dX7_pair_77 (by decide) ?_
                refine wp_iload (pc := 78) 6 dX7_pair_78 rfl ?_
                refine wp_ishl (pc := 80) dX7_pair_80 ?_
                refine wp_iconst (pc := 81) (-1) dX7_pair_81 (by decide) ?_
                refine wp_ixor (pc := 82) dX7_pair_82 ?_
                refine wp_iand (pc := 83) dX7_pair_83 ?_
                refine wp_int (y := nI (dif (bn (sgf s)) (2 ^ j ||| 2 ^ i))) (by rw [bt_clr (by omega), dif_dif]) ?_
                refine wc_V_I (pc := 84) dX7_pair_84 lkX7_168 (sm_Rc.o (ci := 6) s0_40 (by decide) (by decide)) (by decide) (Nat.le_of_ble_eq_true rfl) ?_
                refine c_X7_valueBy hw hR (dif_le _ _ hbl) ?_
                refine wp_istore (pc := 87) 7 dX7_pair_87 (by decide) rfl ?_
                refine wp_iload_n (pc := 89) 3 dX7_pair_89 rfl rfl ?_
                refine wp_iconst (pc := 90) (-1) dX7_pair_90 (by decide) ?_
                refine wp_icmp_eq (pc := 91) 101 dX7_pair_91 (by decide) (fun c_91 => ?_) (fun c_91 => ?_)
                · exact absurd c_91 (m1_ne (by omega))
                · refine wp_iload (pc := 94) 7 dX7_pair_94 rfl ?_
                  refine wp_iload (pc := 96) 4 dX7_pair_96 rfl ?_
                  refine wp_icmp_ge (pc := 98) 114 dX7_pair_98 (by decide) (fun c_98 => ?_) (fun c_98 => ?_)
                  · refine wp_incN (pc := 114) 6 dX7_pair_114 rfl (by decide) rfl ?_
                    refine wp_goto (pc := 117) 44 dX7_pair_117 (by decide) ?_
                    have nx := nx (by omega)
                    rw [prJ_s hv, ho, pr_st (f := (sgf s)) (q := (c, v)) (two_in.mpr c_65) (fun z => nI_ge (show val (sgf s) (dif (bn (sgf s)) (2 ^ j ||| 2 ^ i)) < v from z) (by omega) c_98)] at nx
                    refine wp_weak ?_ nx
                    exact And.intro (Or.inr rfl) (And.intro (Or.inr rfl) (And.intro (Or.inr rfl) (And.intro (Or.inr rfl) (And.intro (Or.inr rfl) (And.intro (Or.inr rfl) (And.intro (Or.inr rfl) (And.intro (Or.inl rfl) (trivial))))))))
                  · refine wp_bipush (pc := 101) (10) dX7_pair_101 (by decide) ?_
                    refine wp_iload (pc := 103) 5 dX7_pair_103 rfl ?_
                    refine wp_imul (pc := 105) dX7_pair_105 ?_
                    refine wp_int (x := 10 * nI _) (pk_mul 10 _) ?_
                    refine wp_iload (pc := 106) 6 dX7_pair_106 rfl ?_
                    refine wp_iadd (pc := 108) dX7_pair_108 ?_
                    refine wp_int (nI_add _ _) ?_
                    refine wp_istore_n (pc := 109) 3 dX7_pair_109 rfl (by decide) rfl ?_
                    refine wp_iload (pc := 110) 7 dX7_pair_110 rfl ?_
                    refine wp_istore (pc := 112) 4 dX7_pair_112 (by decide) rfl ?_
                    refine wp_incN (pc := 114) 6 dX7_pair_114 rfl (by decide) rfl ?_
                    refine wp_goto (pc := 117) 44 dX7_pair_117 (by decide) ?_
                    have nx := nx (by omega)
                    rw [prJ_s hv, ho, pr_up (f := (sgf s)) (q := (c, v)) (two_in.mpr c_65) (show val (sgf s) (dif (bn (sgf s)) (2 ^ j ||| 2 ^ i)) < v from Nat.lt_of_not_le fun z => c_98 (nI_le z (by omega)))] at nx
                    refine wp_weak ?_ nx
                    exact And.intro (Or.inr rfl) (And.intro (Or.inr rfl) (And.intro (Or.inr rfl) (And.intro (Or.inr rfl) (And.intro (Or.inr rfl) (And.intro (Or.inr rfl) (And.intro (Or.inr rfl) (And.intro (Or.inl rfl) (trivial))))))))
        · refine wp_iload (pc := 44) 6 dX7_pair_44 rfl ?_
          refine wp_aload_n (pc := 46) 0 dX7_pair_46 rfl rfl ?_
          refine wc_V_ (pc := 47) dX7_pair_47 lkX7_57 (sm_Rc.o (ci := 6) s0_40 (by decide) (by decide)) (by decide) (Nat.le_of_ble_eq_true rfl) ?_
          refine c_X7_many hw hR ?_
          refine wp_icmp_ge (pc := 50) 120 dX7_pair_50 (by decide) (fun c_50 => ?_) (fun c_50 => ?_)
          · refine wp_incN (pc := 120) 5 dX7_pair_120 rfl (by decide) rfl ?_
            refine wp_goto (pc := 123) 29 dX7_pair_123 (by decide) ?_
            have nx := nx trivial
            refine wp_weak ?_ nx
            exact And.intro (Or.inr rfl) (And.intro (Or.inr rfl) (And.intro (Or.inr rfl) (And.intro (Or.inr rfl) (And.intro (Or.inr rfl) (And.intro (Or.inr rfl) (And.intro (Or.inl rfl) (And.intro (Or.inl rfl) (trivial))))))))
          · exact absurd (Int32.le_refl _) c_50
    · have hok := okP_U hw (i := sgf s 68) hn
      rcases ho : prU (sgf s) (sgf s 68) with _ | ⟨c, v⟩
      · rw [ho] at k
        refine wp_to (lv' := [.ref 40, .int x, .int (nI (bn (sgf s))), .int (-1), .int (0), .int (nI (sgf s 68)), .null, .null]) ?_ rfl rfl rfl
        refine wp_iload (pc := 29) 5 dX7_pair_29 rfl ?_
        refine wp_aload_n (pc := 31) 0 dX7_pair_31 rfl rfl ?_
        refine wc_V_ (pc := 32) dX7_pair_32 lkX7_57 (sm_Rc.o (ci := 6) s0_40 (by decide) (by decide)) (by decide) (Nat.le_of_ble_eq_true rfl) ?_
        refine c_X7_many hw hR ?_
        refine wp_icmp_ge (pc := 35) 126 dX7_pair_35 (by decide) (fun c_35 => ?_) (fun c_35 => ?_)
        · refine wp_iload_n (pc := 126) 1 dX7_pair_126 rfl rfl ?_
          refine wp_ifeq (pc := 127) 135 dX7_pair_127 (by decide) (fun c_127 => ?_) (fun c_127 => ?_)
          · refine wp_iload_n (pc := 135) 3 dX7_pair_135 rfl rfl ?_
            refine wp_goto (pc := 136) 141 dX7_pair_136 (by decide) ?_
            refine wp_iretI (pc := 141) dX7_pair_141 rfl ?_
            rw [if_pos c_127] at k
            exact k _ _ _ hM Lo.rf
          · refine wp_iload_n (pc := 130) 3 dX7_pair_130 rfl rfl ?_
            refine wp_iconst (pc := 131) (-1) dX7_pair_131 (by decide) ?_
            refine wp_icmp_ne (pc := 132) 139 dX7_pair_132 (by decide) (fun c_132 => ?_) (fun c_132 => ?_)
            · exact absurd (by decide) c_132
            · refine wp_iload_n (pc := 135) 3 dX7_pair_135 rfl rfl ?_
              refine wp_goto (pc := 136) 141 dX7_pair_136 (by decide) ?_
              refine wp_iretI (pc := 141) dX7_pair_141 rfl ?_
              rw [if_neg c_127] at k
              exact k _ _ _ hM Lo.rf
        · exact absurd (Int32.le_refl _) c_35
      · have hcv := hok c v ho
        rw [ho] at k
        refine wp_to (lv' := [.ref 40, .int x, .int (nI (bn (sgf s))), .int (nI c), .int (nI v), .int (nI (sgf s 68)), .null, .null]) ?_ rfl rfl rfl
        refine wp_iload (pc := 29) 5 dX7_pair_29 rfl ?_
        refine wp_aload_n (pc := 31) 0 dX7_pair_31 rfl rfl ?_
        refine wc_V_ (pc := 32) dX7_pair_32 lkX7_57 (sm_Rc.o (ci := 6) s0_40 (by decide) (by decide)) (by decide) (Nat.le_of_ble_eq_true rfl) ?_
        refine c_X7_many hw hR ?_
        refine wp_icmp_ge (pc := 35) 126 dX7_pair_35 (by decide) (fun c_35 => ?_) (fun c_35 => ?_)
        · refine wp_iload_n (pc := 126) 1 dX7_pair_126 rfl rfl ?_
          refine wp_ifeq (pc := 127) 135 dX7_pair_127 (by decide) (fun c_127 => ?_) (fun c_127 => ?_)
          · refine wp_iload_n (pc := 135) 3 dX7_pair_135 rfl rfl ?_
            refine wp_goto (pc := 136) 141 dX7_pair_136 (by decide) ?_
            refine wp_iretI (pc := 141) dX7_pair_141 rfl ?_
            rw [if_pos c_127] at k
            exact k _ _ _ hM Lo.rf
          · refine wp_iload_n (pc := 130) 3 dX7_pair_130 rfl rfl ?_
            refine wp_iconst (pc := 131) (-1) dX7_pair_131 (by decide) ?_
            refine wp_icmp_ne (pc := 132) 139 dX7_pair_132 (by decide) (fun c_132 => ?_) (fun c_132 => ?_)
            · refine wp_iload (pc := 139) 4 dX7_pair_139 rfl ?_
              refine wp_iretI (pc := 141) dX7_pair_141 rfl ?_
              rw [if_neg c_127] at k
              rw [show v = _ from okV_U hn c v ho]
              exact k _ _ _ hM Lo.rf
            · exact absurd c_132 (m1_ne (by omega))
        · exact absurd (Int32.le_refl _) c_35
  · refine wp_aload_n (pc := 9) 0 dX7_pair_9 rfl rfl ?_
    refine wp_bipush (pc := 10) (-2) dX7_pair_10 (by decide) ?_
    refine wc_V_I (pc := 12) dX7_pair_12 lkX7_81 (sm_Rc.o (ci := 6) s0_40 (by decide) (by decide)) (by decide) (Nat.le_of_ble_eq_true rfl) ?_
    refine c_X7_no_0 ?_
    refine wp_iretI (pc := 15) dX7_pair_15 rfl ?_
    unfold do_pair at k
    rw [qry_f (c := (upB x 1)) c_6] at k
    exact k _ _ _ (hM.bmp (by decide)) (Lo.rf.uI (by decide))
theorem c_X7_thingOf {d : Nat} {F I : Nat → Nat → Int32} {J : Nat → Nat → Int64} {Q : Option Value → sm_H → Prop} {x y : Int32} {s : Sg} (hM : MR s F I J) (ok : Ok s) (k : ∀ F1 I1 J1, MR (do_thingOf s x y).2 F1 I1 J1 → Lo F I J F1 I1 J1 → Q (some (.int (do_thingOf s x y).1)) (S0, F1, I1, J1)) : Wp mX7_thingOf (d + 2) 0 0 0 (sm_ini [.ref 40, .int x, .int y] 3) [] (S0, F, I, J) Q := by
  show Wp _ _ _ _ _ [.ref 40, .int x, .int y] _ _ _
  have hw := ok.1
  have hR := hM.1
  have hn := hw.n
  have hcw := hw.c
  have hbn := bn_1024 hw
  have hbl := bn_lt hw
  have hp2 := p2n hw
  have hh1 := hw.wth
  have hh2 := hw.crk
  have hh3 := hw.year
  refine wp_aload_n (pc := 0) 0 dX7_thingOf_0 rfl rfl ?_
  refine wp_iload_n (pc := 1) 1 dX7_thingOf_1 rfl rfl ?_
  refine wc_V_I (pc := 2) dX7_thingOf_2 lkX7_90 (sm_Rc.o (ci := 6) s0_40 (by decide) (by decide)) (by decide) (Nat.le_of_ble_eq_true rfl) ?_
  refine c_X7_isThing hw hR ?_
  refine wp_ifeqB (pc := 5) 18 dX7_thingOf_5 (by decide) (fun c_5 => ?_) (fun c_5 => ?_)
  · refine wp_aload_n (pc := 18) 0 dX7_thingOf_18 rfl rfl ?_
    refine wp_bipush (pc := 19) (-2) dX7_thingOf_19 (by decide) ?_
    refine wc_V_I (pc := 21) dX7_thingOf_21 lkX7_81 (sm_Rc.o (ci := 6) s0_40 (by decide) (by decide)) (by decide) (Nat.le_of_ble_eq_true rfl) ?_
    refine c_X7_no_0 ?_
    refine wp_iretI (pc := 24) dX7_thingOf_24 rfl ?_
    unfold do_thingOf at k
    rw [qry_f (c := (isTh s x && (upB y 7))) (and_f1 c_5)] at k
    exact k _ _ _ (hM.bmp (by decide)) (Lo.rf.uI (by decide))
  · obtain ⟨i, hi0, rfl⟩ := (i32_in (by omega)).mp (of_decide_eq_true c_5)
    have hi : i < 10 := by omega
    refine wp_iload_n (pc := 8) 2 dX7_thingOf_8 rfl rfl ?_
    refine wp_iconst (pc := 9) (0) dX7_thingOf_9 (by decide) ?_
    refine wp_bipush (pc := 10) (7) dX7_thingOf_10 (by decide) ?_
    refine wc_S_III (pc := 12) dX7_thingOf_12 lkX7_49 (by decide) (Nat.le_of_ble_eq_true rfl) ?_
    refine c_X7_isIn ?_
    refine wp_ifneB (pc := 15) 25 dX7_thingOf_15 (by decide) (fun c_15 => ?_) (fun c_15 => ?_)
    · obtain ⟨v, hv, rfl⟩ := (i32_le (n := 7) (by decide)).mp (of_decide_eq_true c_15)
      unfold do_thingOf at k
      rw [qry_t (c := (isTh s (nI i) && (upB (nI v) 7))) (and_tt c_5 c_15)] at k
      rw [nI_clamp (by omega), nI_clamp (by omega)] at k
      rcases (show v = 0 ∨ v = 1 ∨ v = 2 ∨ v = 3 ∨ v = 4 ∨ v = 5 ∨ v = 6 ∨ v = 7 by omega) with rfl | rfl | rfl | rfl | rfl | rfl | rfl | rfl
      · refine wp_iload_n (pc := 25) 2 dX7_thingOf_25 rfl rfl ?_
        refine wp_tswI (pc := 26) 0 68 dX7_thingOf_26 (by decide) (by decide) rfl (by decide) ?_
        refine wp_aload_n (pc := 68) 0 dX7_thingOf_68 rfl rfl ?_
        refine wp_iload_n (pc := 69) 1 dX7_thingOf_69 rfl rfl ?_
        refine wp_iconst (pc := 70) (0) dX7_thingOf_70 (by decide) ?_
        refine wc_V_II (pc := 71) dX7_thingOf_71 lkX7_53 (sm_Rc.o (ci := 6) s0_40 (by decide) (by decide)) (by decide) (Nat.le_of_ble_eq_true rfl) ?_
        refine c_X7_of (w := 0) hw hR (by omega) ?_
        refine wp_iretI (pc := 74) dX7_thingOf_74 rfl ?_
        exact k _ _ _ hM Lo.rf
      · refine wp_iload_n (pc := 25) 2 dX7_thingOf_25 rfl rfl ?_
        refine wp_tswI (pc := 26) 1 75 dX7_thingOf_26 (by decide) (by decide) rfl (by decide) ?_
        refine wp_aload_n (pc := 75) 0 dX7_thingOf_75 rfl rfl ?_
        refine wp_iload_n (pc := 76) 1 dX7_thingOf_76 rfl rfl ?_
        refine wp_iconst (pc := 77) (1) dX7_thingOf_77 (by decide) ?_
        refine wc_V_II (pc := 78) dX7_thingOf_78 lkX7_53 (sm_Rc.o (ci := 6) s0_40 (by decide) (by decide)) (by decide) (Nat.le_of_ble_eq_true rfl) ?_
        refine c_X7_of (w := 1) hw hR (by omega) ?_
        refine wp_iretI (pc := 81) dX7_thingOf_81 rfl ?_
        exact k _ _ _ hM Lo.rf
      · refine wp_iload_n (pc := 25) 2 dX7_thingOf_25 rfl rfl ?_
        refine wp_tswI (pc := 26) 2 82 dX7_thingOf_26 (by decide) (by decide) rfl (by decide) ?_
        refine wp_aload_n (pc := 82) 0 dX7_thingOf_82 rfl rfl ?_
        refine wp_iload_n (pc := 83) 1 dX7_thingOf_83 rfl rfl ?_
        refine wp_iconst (pc := 84) (4) dX7_thingOf_84 (by decide) ?_
        refine wc_V_II (pc := 85) dX7_thingOf_85 lkX7_53 (sm_Rc.o (ci := 6) s0_40 (by decide) (by decide)) (by decide) (Nat.le_of_ble_eq_true rfl) ?_
        refine c_X7_of (w := 4) hw hR (by omega) ?_
        refine wp_iretI (pc := 88) dX7_thingOf_88 rfl ?_
        exact k _ _ _ hM Lo.rf
      · refine wp_iload_n (pc := 25) 2 dX7_thingOf_25 rfl rfl ?_
        refine wp_tswI (pc := 26) 3 89 dX7_thingOf_26 (by decide) (by decide) rfl (by decide) ?_
        refine wp_aload_n (pc := 89) 0 dX7_thingOf_89 rfl rfl ?_
        refine wp_iload_n (pc := 90) 1 dX7_thingOf_90 rfl rfl ?_
        refine wp_iconst (pc := 91) (3) dX7_thingOf_91 (by decide) ?_
        refine wc_V_II (pc := 92) dX7_thingOf_92 lkX7_53 (sm_Rc.o (ci := 6) s0_40 (by decide) (by decide)) (by decide) (Nat.le_of_ble_eq_true rfl) ?_
        refine c_X7_of (w := 3) hw hR (by omega) ?_
        refine wp_int (y := nI (partN (sgf s) i 3)) (congrArg nI (bn_toNat hw hi0).symm) ?_
        refine wp_iretI (pc := 95) dX7_thingOf_95 rfl ?_
        exact k _ _ _ hM Lo.rf
      · refine wp_iload_n (pc := 25) 2 dX7_thingOf_25 rfl rfl ?_
        refine wp_tswI (pc := 26) 4 96 dX7_thingOf_26 (by decide) (by decide) rfl (by decide) ?_
        refine wp_aload_n (pc := 96) 0 dX7_thingOf_96 rfl rfl ?_
        refine wp_iload_n (pc := 97) 1 dX7_thingOf_97 rfl rfl ?_
        refine wp_iconst (pc := 98) (2) dX7_thingOf_98 (by decide) ?_
        refine wc_V_II (pc := 99) dX7_thingOf_99 lkX7_53 (sm_Rc.o (ci := 6) s0_40 (by decide) (by decide)) (by decide) (Nat.le_of_ble_eq_true rfl) ?_
        refine c_X7_of (w := 2) hw hR (by omega) ?_
        refine wp_iretI (pc := 102) dX7_thingOf_102 rfl ?_
        exact k _ _ _ hM Lo.rf
      · refine wp_iload_n (pc := 25) 2 dX7_thingOf_25 rfl rfl ?_
        refine wp_tswI (pc := 26) 5 103 dX7_thingOf_26 (by decide) (by decide) rfl (by decide) ?_
        refine wp_aload_n (pc := 103) 0 dX7_thingOf_103 rfl rfl ?_
        refine wp_aload_n (pc := 104) 0 dX7_thingOf_104 rfl rfl ?_
        refine wc_V_ (pc := 105) dX7_thingOf_105 lkX7_135 (sm_Rc.o (ci := 6) s0_40 (by decide) (by decide)) (by decide) (Nat.le_of_ble_eq_true rfl) ?_
        refine c_X7_been hw hR ?_
        refine wc_V_I (pc := 108) dX7_thingOf_108 lkX7_65 (sm_Rc.o (ci := 6) s0_40 (by decide) (by decide)) (by decide) (Nat.le_of_ble_eq_true rfl) ?_
        refine c_X7_standsBy hw hR hbl ?_
        refine wp_iload_n (pc := 111) 1 dX7_thingOf_111 rfl rfl ?_
        refine wp_ishr (pc := 112) dX7_thingOf_112 ?_
        refine wp_iconst (pc := 113) (1) dX7_thingOf_113 (by decide) ?_
        refine wp_iand (pc := 114) dX7_thingOf_114 ?_
        refine wp_int ((bt_bit (Nat.lt_trans (sta_1024 _ _) (by decide)) (by omega)).trans (b2_nI _)) ?_
        refine wp_iretI (pc := 115) dX7_thingOf_115 rfl ?_
        exact k _ _ _ hM Lo.rf
      · refine wp_iload_n (pc := 25) 2 dX7_thingOf_25 rfl rfl ?_
        refine wp_tswI (pc := 26) 6 116 dX7_thingOf_26 (by decide) (by decide) rfl (by decide) ?_
        refine wp_aload_n (pc := 116) 0 dX7_thingOf_116 rfl rfl ?_
        refine wp_iload_n (pc := 117) 1 dX7_thingOf_117 rfl rfl ?_
        refine wc_V_I (pc := 118) dX7_thingOf_118 lkX7_61 (sm_Rc.o (ci := 6) s0_40 (by decide) (by decide)) (by decide) (Nat.le_of_ble_eq_true rfl) ?_
        refine c_X7_isOpen hw hR (by omega) ?_
        refine wp_ifeqB (pc := 121) 128 dX7_thingOf_121 (by decide) (fun c_121 => ?_) (fun c_121 => ?_)
        · refine wp_iconst (pc := 128) (0) dX7_thingOf_128 (by decide) ?_
          refine wp_iretI (pc := 129) dX7_thingOf_129 rfl ?_
          rw [show partN (sgf s) i 6 = 0 by simp [partN, c_121]] at k
          exact k _ _ _ hM Lo.rf
        · refine wp_iconst (pc := 124) (1) dX7_thingOf_124 (by decide) ?_
          refine wp_goto (pc := 125) 129 dX7_thingOf_125 (by decide) ?_
          refine wp_iretI (pc := 129) dX7_thingOf_129 rfl ?_
          rw [show partN (sgf s) i 6 = 1 by simp [partN, c_121]] at k
          exact k _ _ _ hM Lo.rf
      · refine wp_iload_n (pc := 25) 2 dX7_thingOf_25 rfl rfl ?_
        refine wp_tswO (pc := 26) 130 dX7_thingOf_26 (by decide) (by decide) ?_
        refine wp_aload_n (pc := 130) 0 dX7_thingOf_130 rfl rfl ?_
        refine wp_iload_n (pc := 131) 1 dX7_thingOf_131 rfl rfl ?_
        refine wc_V_I (pc := 132) dX7_thingOf_132 lkX7_138 (sm_Rc.o (ci := 6) s0_40 (by decide) (by decide)) (by decide) (Nat.le_of_ble_eq_true rfl) ?_
        refine c_X7_may hw hR (by omega) ?_
        refine wp_iretI (pc := 135) dX7_thingOf_135 rfl ?_
        exact k _ _ _ hM Lo.rf
    · refine wp_aload_n (pc := 18) 0 dX7_thingOf_18 rfl rfl ?_
      refine wp_bipush (pc := 19) (-2) dX7_thingOf_19 (by decide) ?_
      refine wc_V_I (pc := 21) dX7_thingOf_21 lkX7_81 (sm_Rc.o (ci := 6) s0_40 (by decide) (by decide)) (by decide) (Nat.le_of_ble_eq_true rfl) ?_
      refine c_X7_no_0 ?_
      refine wp_iretI (pc := 24) dX7_thingOf_24 rfl ?_
      unfold do_thingOf at k
      rw [qry_f (c := (isTh s (nI i) && (upB y 7))) (and_f2 c_15)] at k
      exact k _ _ _ (hM.bmp (by decide)) (Lo.rf.uI (by decide))
theorem c_X7_ringerOf {d : Nat} {F I : Nat → Nat → Int32} {J : Nat → Nat → Int64} {Q : Option Value → sm_H → Prop} {x y : Int32} {s : Sg} (hM : MR s F I J) (ok : Ok s) (k : ∀ F1 I1 J1, MR (do_ringerOf s x y).2 F1 I1 J1 → Lo F I J F1 I1 J1 → Q (some (.int (do_ringerOf s x y).1)) (S0, F1, I1, J1)) : Wp mX7_ringerOf (d + 4) 0 0 0 (sm_ini [.ref 40, .int x, .int y] 3) [] (S0, F, I, J) Q := by
  show Wp _ _ _ _ _ [.ref 40, .int x, .int y] _ _ _
  have hw := ok.1
  have hR := hM.1
  have hn := hw.n
  have hcw := hw.c
  have hbn := bn_1024 hw
  have hbl := bn_lt hw
  have hp2 := p2n hw
  have hh1 := hw.wth
  have hh2 := hw.crk
  have hh3 := hw.year
  refine wp_aload_n (pc := 0) 0 dX7_ringerOf_0 rfl rfl ?_
  refine wp_iload_n (pc := 1) 1 dX7_ringerOf_1 rfl rfl ?_
  refine wc_V_I (pc := 2) dX7_ringerOf_2 lkX7_155 (sm_Rc.o (ci := 6) s0_40 (by decide) (by decide)) (by decide) (Nat.le_of_ble_eq_true rfl) ?_
  refine c_X7_isRinger hw hR ?_
  refine wp_ifeqB (pc := 5) 17 dX7_ringerOf_5 (by decide) (fun c_5 => ?_) (fun c_5 => ?_)
  · refine wp_aload_n (pc := 17) 0 dX7_ringerOf_17 rfl rfl ?_
    refine wp_bipush (pc := 18) (-2) dX7_ringerOf_18 (by decide) ?_
    refine wc_V_I (pc := 20) dX7_ringerOf_20 lkX7_81 (sm_Rc.o (ci := 6) s0_40 (by decide) (by decide)) (by decide) (Nat.le_of_ble_eq_true rfl) ?_
    refine c_X7_no_0 ?_
    refine wp_iretI (pc := 23) dX7_ringerOf_23 rfl ?_
    unfold do_ringerOf at k
    rw [qry_f (c := (isRg s x && (upB y 3))) (and_f1 c_5)] at k
    exact k _ _ _ (hM.bmp (by decide)) (Lo.rf.uI (by decide))
  · have hc6 := hw.c
    obtain ⟨r, hr0, rfl⟩ := (i32_in (by omega)).mp (of_decide_eq_true c_5)
    have hr : r < 6 := by omega
    refine wp_iload_n (pc := 8) 2 dX7_ringerOf_8 rfl rfl ?_
    refine wp_iconst (pc := 9) (0) dX7_ringerOf_9 (by decide) ?_
    refine wp_iconst (pc := 10) (3) dX7_ringerOf_10 (by decide) ?_
    refine wc_S_III (pc := 11) dX7_ringerOf_11 lkX7_49 (by decide) (Nat.le_of_ble_eq_true rfl) ?_
    refine c_X7_isIn ?_
    refine wp_ifneB (pc := 14) 24 dX7_ringerOf_14 (by decide) (fun c_14 => ?_) (fun c_14 => ?_)
    · obtain ⟨v, hv, rfl⟩ := (i32_le (n := 3) (by decide)).mp (of_decide_eq_true c_14)
      unfold do_ringerOf at k
      rw [qry_t (c := (isRg s (nI r) && (upB (nI v) 3))) (and_tt c_5 c_14)] at k
      rw [nI_clamp (by omega), nI_clamp (by omega)] at k
      rcases (show v = 0 ∨ v = 1 ∨ v = 2 ∨ v = 3 by omega) with rfl | rfl | rfl | rfl
      · refine wp_iload_n (pc := 24) 2 dX7_ringerOf_24 rfl rfl ?_
        refine wp_iconst (pc := 25) (3) dX7_ringerOf_25 (by decide) ?_
        refine wp_icmp_ne (pc := 26) 37 dX7_ringerOf_26 (by decide) (fun c_26 => ?_) (fun c_26 => ?_)
        · refine wp_aload_n (pc := 37) 0 dX7_ringerOf_37 rfl rfl ?_
          refine wq_getR (pc := 38) 13 0 dX7_ringerOf_38 s0_40 flX7_13 rfl rfl (by decide) (by decide) ?_
          refine wp_bipush (pc := 41) (50) dX7_ringerOf_41 (by decide) ?_
          refine wp_iconst (pc := 43) (3) dX7_ringerOf_43 (by decide) ?_
          refine wp_iload_n (pc := 44) 1 dX7_ringerOf_44 rfl rfl ?_
          refine wp_imul (pc := 45) dX7_ringerOf_45 ?_
          refine wp_iadd (pc := 46) dX7_ringerOf_46 ?_
          refine wp_iload_n (pc := 47) 2 dX7_ringerOf_47 rfl rfl ?_
          refine wp_iadd (pc := 48) dX7_ringerOf_48 ?_
          refine wq_iald (pc := 49) (50 + 3 * r + 0) dX7_ringerOf_49 s0_41 (by decide) ((congrArg (· + nI 0) (ix3 r)).trans (nI_add _ 0)) (by omega) (by decide) ?_
          refine wp_int (hR.at (by omega)) ?_
          refine wp_iretI (pc := 50) dX7_ringerOf_50 rfl ?_
          exact k _ _ _ hM Lo.rf
        · exact absurd c_26 (by decide)
      · refine wp_iload_n (pc := 24) 2 dX7_ringerOf_24 rfl rfl ?_
        refine wp_iconst (pc := 25) (3) dX7_ringerOf_25 (by decide) ?_
        refine wp_icmp_ne (pc := 26) 37 dX7_ringerOf_26 (by decide) (fun c_26 => ?_) (fun c_26 => ?_)
        · refine wp_aload_n (pc := 37) 0 dX7_ringerOf_37 rfl rfl ?_
          refine wq_getR (pc := 38) 13 0 dX7_ringerOf_38 s0_40 flX7_13 rfl rfl (by decide) (by decide) ?_
          refine wp_bipush (pc := 41) (50) dX7_ringerOf_41 (by decide) ?_
          refine wp_iconst (pc := 43) (3) dX7_ringerOf_43 (by decide) ?_
          refine wp_iload_n (pc := 44) 1 dX7_ringerOf_44 rfl rfl ?_
          refine wp_imul (pc := 45) dX7_ringerOf_45 ?_
          refine wp_iadd (pc := 46) dX7_ringerOf_46 ?_
          refine wp_iload_n (pc := 47) 2 dX7_ringerOf_47 rfl rfl ?_
          refine wp_iadd (pc := 48) dX7_ringerOf_48 ?_
          refine wq_iald (pc := 49) (50 + 3 * r + 1) dX7_ringerOf_49 s0_41 (by decide) ((congrArg (· + nI 1) (ix3 r)).trans (nI_add _ 1)) (by omega) (by decide) ?_
          refine wp_int (hR.at (by omega)) ?_
          refine wp_iretI (pc := 50) dX7_ringerOf_50 rfl ?_
          exact k _ _ _ hM Lo.rf
        · exact absurd c_26 (by decide)
      · refine wp_iload_n (pc := 24) 2 dX7_ringerOf_24 rfl rfl ?_
        refine wp_iconst (pc := 25) (3) dX7_ringerOf_25 (by decide) ?_
        refine wp_icmp_ne (pc := 26) 37 dX7_ringerOf_26 (by decide) (fun c_26 => ?_) (fun c_26 => ?_)
        · refine wp_aload_n (pc := 37) 0 dX7_ringerOf_37 rfl rfl ?_
          refine wq_getR (pc := 38) 13 0 dX7_ringerOf_38 s0_40 flX7_13 rfl rfl (by decide) (by decide) ?_
          refine wp_bipush (pc := 41) (50) dX7_ringerOf_41 (by decide) ?_
          refine wp_iconst (pc := 43) (3) dX7_ringerOf_43 (by decide) ?_
          refine wp_iload_n (pc := 44) 1 dX7_ringerOf_44 rfl rfl ?_
          refine wp_imul (pc := 45) dX7_ringerOf_45 ?_
          refine wp_iadd (pc := 46) dX7_ringerOf_46 ?_
          refine wp_iload_n (pc := 47) 2 dX7_ringerOf_47 rfl rfl ?_
          refine wp_iadd (pc := 48) dX7_ringerOf_48 ?_
          refine wq_iald (pc := 49) (50 + 3 * r + 2) dX7_ringerOf_49 s0_41 (by decide) ((congrArg (· + nI 2) (ix3 r)).trans (nI_add _ 2)) (by omega) (by decide) ?_
          refine wp_int (hR.at (by omega)) ?_
          refine wp_iretI (pc := 50) dX7_ringerOf_50 rfl ?_
          exact k _ _ _ hM Lo.rf
        · exact absurd c_26 (by decide)
      · refine wp_iload_n (pc := 24) 2 dX7_ringerOf_24 rfl rfl ?_
        refine wp_iconst (pc := 25) (3) dX7_ringerOf_25 (by decide) ?_
        refine wp_icmp_ne (pc := 26) 37 dX7_ringerOf_26 (by decide) (fun c_26 => ?_) (fun c_26 => ?_)
        · exact absurd (by decide) c_26
        · refine wp_aload_n (pc := 29) 0 dX7_ringerOf_29 rfl rfl ?_
          refine wp_iload_n (pc := 30) 1 dX7_ringerOf_30 rfl rfl ?_
          refine wc_V_I (pc := 31) dX7_ringerOf_31 lkX7_158 (sm_Rc.o (ci := 6) s0_40 (by decide) (by decide)) (by decide) (Nat.le_of_ble_eq_true rfl) ?_
          refine c_X7_slip hw hR (by omega) ?_
          refine wp_goto (pc := 34) 50 dX7_ringerOf_34 (by decide) ?_
          refine wp_iretI (pc := 50) dX7_ringerOf_50 rfl ?_
          exact k _ _ _ hM Lo.rf
    · refine wp_aload_n (pc := 17) 0 dX7_ringerOf_17 rfl rfl ?_
      refine wp_bipush (pc := 18) (-2) dX7_ringerOf_18 (by decide) ?_
      refine wc_V_I (pc := 20) dX7_ringerOf_20 lkX7_81 (sm_Rc.o (ci := 6) s0_40 (by decide) (by decide)) (by decide) (Nat.le_of_ble_eq_true rfl) ?_
      refine c_X7_no_0 ?_
      refine wp_iretI (pc := 23) dX7_ringerOf_23 rfl ?_
      unfold do_ringerOf at k
      rw [qry_f (c := (isRg s (nI r) && (upB y 3))) (and_f2 c_14)] at k
      exact k _ _ _ (hM.bmp (by decide)) (Lo.rf.uI (by decide))
theorem c_X7_all {d : Nat} {F I : Nat → Nat → Int32} {J : Nat → Nat → Int64} {Q : Option Value → sm_H → Prop} {x : Int32} {s : Sg} (hM : MR s F I J) (ok : Ok s) (k : ∀ F1 I1 J1, MR (do_all s x).2 F1 I1 J1 → Lo F I J F1 I1 J1 → Q (some (.int (do_all s x).1)) (S0, F1, I1, J1)) : Wp mX7_all (d + 3) 0 0 0 (sm_ini [.ref 40, .int x] 2) [] (S0, F, I, J) Q := by
  show Wp _ _ _ _ _ [.ref 40, .int x] _ _ _
  have hw := ok.1
  have hR := hM.1
  have hn := hw.n
  have hcw := hw.c
  have hbn := bn_1024 hw
  have hbl := bn_lt hw
  have hp2 := p2n hw
  have hh1 := hw.wth
  have hh2 := hw.crk
  have hh3 := hw.year
  by_cases hx : upB x 4 = true
  · obtain ⟨v, hv, rfl⟩ := (i32_le (n := 4) (by decide)).mp (of_decide_eq_true hx)
    unfold do_all at k
    rw [qry_t (c := upB (nI v) 4) hx, nI_clamp (by omega)] at k
    rcases (show v = 0 ∨ v = 1 ∨ v = 2 ∨ v = 3 ∨ v = 4 by omega) with rfl | rfl | rfl | rfl | rfl
    · refine wp_iload_n (pc := 0) 1 dX7_all_0 rfl rfl ?_
      refine wp_tswI (pc := 1) 0 36 dX7_all_1 (by decide) (by decide) rfl (by decide) ?_
      refine wp_aload_n (pc := 36) 0 dX7_all_36 rfl rfl ?_
      refine wp_aload_n (pc := 37) 0 dX7_all_37 rfl rfl ?_
      refine wc_V_ (pc := 38) dX7_all_38 lkX7_135 (sm_Rc.o (ci := 6) s0_40 (by decide) (by decide)) (by decide) (Nat.le_of_ble_eq_true rfl) ?_
      refine c_X7_been hw hR ?_
      refine wc_V_I (pc := 41) dX7_all_41 lkX7_65 (sm_Rc.o (ci := 6) s0_40 (by decide) (by decide)) (by decide) (Nat.le_of_ble_eq_true rfl) ?_
      refine c_X7_standsBy hw hR hbl ?_
      refine wp_iretI (pc := 44) dX7_all_44 rfl ?_
      exact k _ _ _ hM Lo.rf
    · refine wp_iload_n (pc := 0) 1 dX7_all_0 rfl rfl ?_
      refine wp_tswI (pc := 1) 1 45 dX7_all_1 (by decide) (by decide) rfl (by decide) ?_
      refine wp_aload_n (pc := 45) 0 dX7_all_45 rfl rfl ?_
      refine wp_aload_n (pc := 46) 0 dX7_all_46 rfl rfl ?_
      refine wc_V_ (pc := 47) dX7_all_47 lkX7_135 (sm_Rc.o (ci := 6) s0_40 (by decide) (by decide)) (by decide) (Nat.le_of_ble_eq_true rfl) ?_
      refine c_X7_been hw hR ?_
      refine wc_V_I (pc := 50) dX7_all_50 lkX7_168 (sm_Rc.o (ci := 6) s0_40 (by decide) (by decide)) (by decide) (Nat.le_of_ble_eq_true rfl) ?_
      refine c_X7_valueBy hw hR hbl ?_
      refine wp_iretI (pc := 53) dX7_all_53 rfl ?_
      exact k _ _ _ hM Lo.rf
    · refine wp_iload_n (pc := 0) 1 dX7_all_0 rfl rfl ?_
      refine wp_tswI (pc := 1) 2 54 dX7_all_1 (by decide) (by decide) rfl (by decide) ?_
      refine wp_aload_n (pc := 54) 0 dX7_all_54 rfl rfl ?_
      refine wc_V_ (pc := 55) dX7_all_55 lkX7_135 (sm_Rc.o (ci := 6) s0_40 (by decide) (by decide)) (by decide) (Nat.le_of_ble_eq_true rfl) ?_
      refine c_X7_been hw hR ?_
      refine wp_iretI (pc := 58) dX7_all_58 rfl ?_
      exact k _ _ _ hM Lo.rf
    · refine wp_iload_n (pc := 0) 1 dX7_all_0 rfl rfl ?_
      refine wp_tswI (pc := 1) 3 59 dX7_all_1 (by decide) (by decide) rfl (by decide) ?_
      refine wp_aload_n (pc := 59) 0 dX7_all_59 rfl rfl ?_
      refine wp_iconst (pc := 60) (1) dX7_all_60 (by decide) ?_
      refine wc_V_I (pc := 61) dX7_all_61 lkX7_171 (sm_Rc.o (ci := 6) s0_40 (by decide) (by decide)) (by decide) (Nat.le_of_ble_eq_true rfl) ?_
      refine c_X7_mayBits (w := 1) hw hR (by decide) ?_
      refine wp_iretI (pc := 64) dX7_all_64 rfl ?_
      exact k _ _ _ hM Lo.rf
    · refine wp_iload_n (pc := 0) 1 dX7_all_0 rfl rfl ?_
      refine wp_tswI (pc := 1) 4 65 dX7_all_1 (by decide) (by decide) rfl (by decide) ?_
      refine wp_aload_n (pc := 65) 0 dX7_all_65 rfl rfl ?_
      refine wp_iconst (pc := 66) (2) dX7_all_66 (by decide) ?_
      refine wc_V_I (pc := 67) dX7_all_67 lkX7_171 (sm_Rc.o (ci := 6) s0_40 (by decide) (by decide)) (by decide) (Nat.le_of_ble_eq_true rfl) ?_
      refine c_X7_mayBits (w := 2) hw hR (by decide) ?_
      refine wp_iretI (pc := 70) dX7_all_70 rfl ?_
      exact k _ _ _ hM Lo.rf
  · unfold do_all at k
    rw [qry_f (c := upB x 4) (Bool.eq_false_iff.mpr hx)] at k
    have hx2 := tsw_o (m := 4) (by decide) rfl hx
    refine wp_iload_n (pc := 0) 1 dX7_all_0 rfl rfl ?_
    refine wp_tswO (pc := 1) 71 dX7_all_1 hx2 (by decide) ?_
    refine wp_aload_n (pc := 71) 0 dX7_all_71 rfl rfl ?_
    refine wp_bipush (pc := 72) (-2) dX7_all_72 (by decide) ?_
    refine wc_V_I (pc := 74) dX7_all_74 lkX7_81 (sm_Rc.o (ci := 6) s0_40 (by decide) (by decide)) (by decide) (Nat.le_of_ble_eq_true rfl) ?_
    refine c_X7_no_0 ?_
    refine wp_iretI (pc := 77) dX7_all_77 rfl ?_
    exact k _ _ _ (hM.bmp (by decide)) (Lo.rf.uI (by decide))
theorem c_X7_isShelf {d : Nat} {h : sm_H} {Q : Option Value → sm_H → Prop} {x : Int32} (k : Q (some (.int (b2 (inS x)))) h) : Wp mX7_isShelf (d + 1) 0 0 0 (sm_ini [.int x] 1) [] h Q := by
  show Wp _ _ _ _ _ [.int x] _ _ _
  refine wp_iload_n (pc := 0) 0 dX7_isShelf_0 rfl rfl ?_
  refine wp_iconst (pc := 1) (0) dX7_isShelf_1 (by decide) ?_
  refine wp_bipush (pc := 2) (7) dX7_isShelf_2 (by decide) ?_
  refine wc_S_III (pc := 4) dX7_isShelf_4 lkX7_49 (by decide) (Nat.le_of_ble_eq_true rfl) ?_
  refine c_X7_isIn ?_
  refine wp_int (y := b2 (inS x)) (congrArg b2 (decide_eq_decide.mpr (sh8 x))) ?_
  refine wp_iretB (pc := 7) dX7_isShelf_7 rfl ?_
  exact k
theorem c_X7_holds {d : Nat} {F I : Nat → Nat → Int32} {J : Nat → Nat → Int64} {Q : Option Value → sm_H → Prop} {x : Int32} {s : Sg} (hM : MR s F I J) (ok : Ok s) (k : ∀ F1 I1 J1, MR (do_holds s x).2 F1 I1 J1 → Lo F I J F1 I1 J1 → Q (some (.int (do_holds s x).1)) (S0, F1, I1, J1)) : Wp mX7_holds (d + 2) 0 0 0 (sm_ini [.ref 40, .int x] 2) [] (S0, F, I, J) Q := by
  show Wp _ _ _ _ _ [.ref 40, .int x] _ _ _
  have hw := ok.1
  have hR := hM.1
  have hn := hw.n
  have hcw := hw.c
  have hbn := bn_1024 hw
  have hbl := bn_lt hw
  have hp2 := p2n hw
  have hh1 := hw.wth
  have hh2 := hw.crk
  have hh3 := hw.year
  have hS := hM.2.2.2.2.2.1
  have ho := ok.2.2.2.2.1
  have hz := ok.2.2.1
  refine wp_iload_n (pc := 0) 1 dX7_holds_0 rfl rfl ?_
  refine wc_S_I (pc := 1) dX7_holds_1 lkX7_204 (by decide) (Nat.le_of_ble_eq_true rfl) ?_
  refine c_X7_isShelf ?_
  refine wp_ifeqB (pc := 4) 16 dX7_holds_4 (by decide) (fun c_4 => ?_) (fun c_4 => ?_)
  · refine wp_iconst (pc := 16) (-1) dX7_holds_16 (by decide) ?_
    refine wp_iretI (pc := 17) dX7_holds_17 rfl ?_
    unfold do_holds at k
    rw [if_neg (show ¬ decide (0 ≤ x ∧ x < 8) = true from fun z => absurd (c_4.symm.trans z) (by decide))] at k
    exact k _ _ _ hM Lo.rf
  · obtain ⟨i, hi, rfl⟩ := (i32_in (n := 8) (by decide)).mp (of_decide_eq_true c_4)
    refine wp_aload_n (pc := 7) 0 dX7_holds_7 rfl rfl ?_
    refine wq_getR (pc := 8) 33 13 dX7_holds_8 s0_40 flX7_33 rfl rfl (by decide) (by decide) ?_
    refine wp_iload_n (pc := 11) 1 dX7_holds_11 rfl rfl ?_
    refine wq_iald (pc := 12) i dX7_holds_12 s0_47 (by decide) rfl hi (by decide) ?_
    refine wp_int (hS.1 _ hi) ?_
    refine wp_goto (pc := 13) 17 dX7_holds_13 (by decide) ?_
    refine wp_iretI (pc := 17) dX7_holds_17 rfl ?_
    unfold do_holds at k
    rw [if_pos (show decide (0 ≤ nI i ∧ nI i < 8) = true from c_4), nI_clamp (by omega)] at k
    exact k _ _ _ hM Lo.rf
theorem c_X7_element {d : Nat} {F I : Nat → Nat → Int32} {J : Nat → Nat → Int64} {Q : Option Value → sm_H → Prop} {x y : Int32} {s : Sg} (hM : MR s F I J) (ok : Ok s) (k : Q (some (.long (do_element s x y))) (S0, F, I, J)) : Wp mX7_element (d + 2) 0 0 0 (sm_ini [.ref 40, .int x, .int y] 3) [] (S0, F, I, J) Q := by
  show Wp _ _ _ _ _ [.ref 40, .int x, .int y] _ _ _
  have hS := hM.2.2.2.2.2.1
  have ho := ok.2.2.2.2.1
  have hz := ok.2.2.1
  refine wp_iload_n (pc := 0) 1 dX7_element_0 rfl rfl ?_
  refine wc_S_I (pc := 1) dX7_element_1 lkX7_204 (by decide) (Nat.le_of_ble_eq_true rfl) ?_
  refine c_X7_isShelf ?_
  refine wp_ifeqB (pc := 4) 51 dX7_element_4 (by decide) (fun c_4 => ?_) (fun c_4 => ?_)
  · refine wp_lconst (pc := 51) 0 dX7_element_51 (by decide) ?_
    refine wp_lret (pc := 52) dX7_element_52 rfl ?_
    unfold do_element at k
    rw [if_neg (fun z => absurd (c_4.symm.trans z.1) (by decide))] at k
    exact k
  · obtain ⟨i, hi, rfl⟩ := (i32_in (n := 8) (by decide)).mp (of_decide_eq_true c_4)
    have hzi := ho.2 i
    refine wp_aload_n (pc := 7) 0 dX7_element_7 rfl rfl ?_
    refine wq_getR (pc := 8) 33 13 dX7_element_8 s0_40 flX7_33 rfl rfl (by decide) (by decide) ?_
    refine wp_iload_n (pc := 11) 1 dX7_element_11 rfl rfl ?_
    refine wq_iald (pc := 12) i dX7_element_12 s0_47 (by decide) rfl hi (by decide) ?_
    refine wp_int (hS.1 _ hi) ?_
    refine wp_iconst (pc := 13) (0) dX7_element_13 (by decide) ?_
    refine wp_iconst (pc := 14) (4) dX7_element_14 (by decide) ?_
    refine wc_S_III (pc := 15) dX7_element_15 lkX7_49 (by decide) (Nat.le_of_ble_eq_true rfl) ?_
    refine c_X7_isIn ?_
    refine wp_ifeqB (pc := 18) 51 dX7_element_18 (by decide) (fun c_18 => ?_) (fun c_18 => ?_)
    · refine wp_lconst (pc := 51) 0 dX7_element_51 (by decide) ?_
      refine wp_lret (pc := 52) dX7_element_52 rfl ?_
      unfold do_element at k
      by_cases hy : y < 0
      · rw [if_neg (fun z => z.2 hy)] at k
        exact k
      · rw [if_pos ⟨c_4, hy⟩, nI_clamp (by omega)] at k
        unfold elA hsz at k
        rw [show hrow (sgh s i) = false from (eN_row ho i).symm.trans c_18, if_neg (show ¬ false = true by decide), if_neg (Nat.not_lt_zero _)] at k
        exact k
    · refine wp_iload_n (pc := 21) 2 dX7_element_21 rfl rfl ?_
      refine wp_iconst (pc := 22) (0) dX7_element_22 (by decide) ?_
      refine wp_aload_n (pc := 23) 0 dX7_element_23 rfl rfl ?_
      refine wq_getR (pc := 24) 36 14 dX7_element_24 s0_40 flX7_36 rfl rfl (by decide) (by decide) ?_
      refine wp_iload_n (pc := 27) 1 dX7_element_27 rfl rfl ?_
      refine wq_iald (pc := 28) i dX7_element_28 s0_48 (by decide) rfl hi (by decide) ?_
      refine wp_int (hS.2.1 _ hi) ?_
      refine wp_iconst (pc := 29) (1) dX7_element_29 (by decide) ?_
      refine wp_isub (pc := 30) dX7_element_30 ?_
      refine wc_S_III (pc := 31) dX7_element_31 lkX7_49 (by decide) (Nat.le_of_ble_eq_true rfl) ?_
      refine c_X7_isIn ?_
      refine wp_ifeqB (pc := 34) 51 dX7_element_34 (by decide) (fun c_34 => ?_) (fun c_34 => ?_)
      · refine wp_lconst (pc := 51) 0 dX7_element_51 (by decide) ?_
        refine wp_lret (pc := 52) dX7_element_52 rfl ?_
        unfold do_element at k
        by_cases hy : y < 0
        · rw [if_neg (fun z => z.2 hy)] at k
          exact k
        · rw [if_pos ⟨c_4, hy⟩, nI_clamp (by omega)] at k
          obtain ⟨j, hj, rfl⟩ := nI_of hy
          unfold elA hsz at k
          rw [show hrow (sgh s i) = true from (eN_row ho i).symm.trans c_18, if_pos rfl, nI_clamp (by omega), if_neg (fun z => of_decide_eq_false c_34 ((i32_pred (by omega)).mpr ⟨nI_pos' (by omega), nI_lt z (by omega)⟩))] at k
          exact k
      · obtain ⟨j, hj, rfl⟩ := (i32_in (by omega)).mp ((i32_pred (by omega)).mp (of_decide_eq_true c_34))
        refine wp_aload_n (pc := 37) 0 dX7_element_37 rfl rfl ?_
        refine wq_getR (pc := 38) 39 15 dX7_element_38 s0_40 flX7_39 rfl rfl (by decide) (by decide) ?_
        refine wp_bipush (pc := 41) (40) dX7_element_41 (by decide) ?_
        refine wp_iload_n (pc := 43) 1 dX7_element_43 rfl rfl ?_
        refine wp_imul (pc := 44) dX7_element_44 ?_
        refine wp_iload_n (pc := 45) 2 dX7_element_45 rfl rfl ?_
        refine wp_iadd (pc := 46) dX7_element_46 ?_
        refine wq_lald (pc := 47) (i * 40 + j) dX7_element_47 s0_49 (by decide) (ix40 i j) (by omega) (by decide) ?_
        refine wp_lng (hS.2.2 _ (by omega)) ?_
        refine wp_goto (pc := 48) 52 dX7_element_48 (by decide) ?_
        refine wp_lret (pc := 52) dX7_element_52 rfl ?_
        unfold do_element at k
        rw [if_pos ⟨c_4, nI_pos (by omega)⟩, nI_clamp (by omega), nI_clamp (by omega)] at k
        unfold elA hsz at k
        rw [show hrow (sgh s i) = true from (eN_row ho i).symm.trans c_18, if_pos rfl, if_pos hj] at k
        exact k
theorem c_X7_status {d : Nat} {F I : Nat → Nat → Int32} {J : Nat → Nat → Int64} {Q : Option Value → sm_H → Prop} {x : Int32} {s : Sg} (hM : MR s F I J) (ok : Ok s) (k : ∀ F1 I1 J1, MR (do_status s x).2 F1 I1 J1 → Lo F I J F1 I1 J1 → Q (some (.int (do_status s x).1)) (S0, F1, I1, J1)) : Wp mX7_status (d + 3) 0 0 0 (sm_ini [.ref 40, .int x] 4) [] (S0, F, I, J) Q := by
  show Wp _ _ _ _ _ [.ref 40, .int x, .null, .null] _ _ _
  have hw := ok.1
  have hR := hM.1
  have hn := hw.n
  have hcw := hw.c
  have hbn := bn_1024 hw
  have hbl := bn_lt hw
  have hp2 := p2n hw
  have hh1 := hw.wth
  have hh2 := hw.crk
  have hh3 := hw.year
  have hS := hM.2.2.2.2.2.1
  have ho := ok.2.2.2.2.1
  have hz := ok.2.2.1
  by_cases hx : upB x 8 = true
  · obtain ⟨v, hv, rfl⟩ := (i32_le (n := 8) (by decide)).mp (of_decide_eq_true hx)
    unfold do_status at k
    rw [if_pos hx, nI_clamp (by omega)] at k
    rcases (show v = 0 ∨ v = 1 ∨ v = 2 ∨ v = 3 ∨ v = 4 ∨ v = 5 ∨ v = 6 ∨ v = 7 ∨ v = 8 by omega) with rfl | rfl | rfl | rfl | rfl | rfl | rfl | rfl | rfl
    · refine wp_iconst (pc := 0) (0) dX7_status_0 (by decide) ?_
      refine wp_istore_n (pc := 1) 2 dX7_status_1 rfl (by decide) rfl ?_
      refine wp_iload_n (pc := 2) 1 dX7_status_2 rfl rfl ?_
      refine wp_tswI (pc := 3) 0 52 dX7_status_3 (by decide) (by decide) rfl (by decide) ?_
      refine wp_aload_n (pc := 52) 0 dX7_status_52 rfl rfl ?_
      refine wc_V_ (pc := 53) dX7_status_53 lkX7_57 (sm_Rc.o (ci := 6) s0_40 (by decide) (by decide)) (by decide) (Nat.le_of_ble_eq_true rfl) ?_
      refine c_X7_many hw hR ?_
      refine wp_iretI (pc := 56) dX7_status_56 rfl ?_
      exact k _ _ _ hM Lo.rf
    · refine wp_iconst (pc := 0) (0) dX7_status_0 (by decide) ?_
      refine wp_istore_n (pc := 1) 2 dX7_status_1 rfl (by decide) rfl ?_
      refine wp_iload_n (pc := 2) 1 dX7_status_2 rfl rfl ?_
      refine wp_tswI (pc := 3) 1 57 dX7_status_3 (by decide) (by decide) rfl (by decide) ?_
      refine wp_aload_n (pc := 57) 0 dX7_status_57 rfl rfl ?_
      refine wq_getR (pc := 58) 13 0 dX7_status_58 s0_40 flX7_13 rfl rfl (by decide) (by decide) ?_
      refine wp_bipush (pc := 61) (69) dX7_status_61 (by decide) ?_
      refine wq_iald (pc := 63) 69 dX7_status_63 s0_41 (by decide) rfl (by decide) (by decide) ?_
      refine wp_int (hR.at (by decide)) ?_
      refine wp_iretI (pc := 64) dX7_status_64 rfl ?_
      exact k _ _ _ hM Lo.rf
    · refine wp_iconst (pc := 0) (0) dX7_status_0 (by decide) ?_
      refine wp_istore_n (pc := 1) 2 dX7_status_1 rfl (by decide) rfl ?_
      refine wp_iload_n (pc := 2) 1 dX7_status_2 rfl rfl ?_
      refine wp_tswI (pc := 3) 2 65 dX7_status_3 (by decide) (by decide) rfl (by decide) ?_
      refine wp_aload_n (pc := 65) 0 dX7_status_65 rfl rfl ?_
      refine wq_getR (pc := 66) 13 0 dX7_status_66 s0_40 flX7_13 rfl rfl (by decide) (by decide) ?_
      refine wp_bipush (pc := 69) (70) dX7_status_69 (by decide) ?_
      refine wp_iload_n (pc := 71) 1 dX7_status_71 rfl rfl ?_
      refine wp_iadd (pc := 72) dX7_status_72 ?_
      refine wp_iconst (pc := 73) (2) dX7_status_73 (by decide) ?_
      refine wp_isub (pc := 74) dX7_status_74 ?_
      refine wq_iald (pc := 75) 70 dX7_status_75 s0_41 (by decide) (by decide) (by decide) (by decide) ?_
      refine wp_int (hR.at (by decide)) ?_
      refine wp_iretI (pc := 76) dX7_status_76 rfl ?_
      exact k _ _ _ hM Lo.rf
    · refine wp_iconst (pc := 0) (0) dX7_status_0 (by decide) ?_
      refine wp_istore_n (pc := 1) 2 dX7_status_1 rfl (by decide) rfl ?_
      refine wp_iload_n (pc := 2) 1 dX7_status_2 rfl rfl ?_
      refine wp_tswI (pc := 3) 3 65 dX7_status_3 (by decide) (by decide) rfl (by decide) ?_
      refine wp_aload_n (pc := 65) 0 dX7_status_65 rfl rfl ?_
      refine wq_getR (pc := 66) 13 0 dX7_status_66 s0_40 flX7_13 rfl rfl (by decide) (by decide) ?_
      refine wp_bipush (pc := 69) (70) dX7_status_69 (by decide) ?_
      refine wp_iload_n (pc := 71) 1 dX7_status_71 rfl rfl ?_
      refine wp_iadd (pc := 72) dX7_status_72 ?_
      refine wp_iconst (pc := 73) (2) dX7_status_73 (by decide) ?_
      refine wp_isub (pc := 74) dX7_status_74 ?_
      refine wq_iald (pc := 75) 71 dX7_status_75 s0_41 (by decide) (by decide) (by decide) (by decide) ?_
      refine wp_int (hR.at (by decide)) ?_
      refine wp_iretI (pc := 76) dX7_status_76 rfl ?_
      exact k _ _ _ hM Lo.rf
    · refine wp_iconst (pc := 0) (0) dX7_status_0 (by decide) ?_
      refine wp_istore_n (pc := 1) 2 dX7_status_1 rfl (by decide) rfl ?_
      refine wp_iload_n (pc := 2) 1 dX7_status_2 rfl rfl ?_
      refine wp_tswI (pc := 3) 4 65 dX7_status_3 (by decide) (by decide) rfl (by decide) ?_
      refine wp_aload_n (pc := 65) 0 dX7_status_65 rfl rfl ?_
      refine wq_getR (pc := 66) 13 0 dX7_status_66 s0_40 flX7_13 rfl rfl (by decide) (by decide) ?_
      refine wp_bipush (pc := 69) (70) dX7_status_69 (by decide) ?_
      refine wp_iload_n (pc := 71) 1 dX7_status_71 rfl rfl ?_
      refine wp_iadd (pc := 72) dX7_status_72 ?_
      refine wp_iconst (pc := 73) (2) dX7_status_73 (by decide) ?_
      refine wp_isub (pc := 74) dX7_status_74 ?_
      refine wq_iald (pc := 75) 72 dX7_status_75 s0_41 (by decide) (by decide) (by decide) (by decide) ?_
      refine wp_int (hR.at (by decide)) ?_
      refine wp_iretI (pc := 76) dX7_status_76 rfl ?_
      exact k _ _ _ hM Lo.rf
    · refine wp_iconst (pc := 0) (0) dX7_status_0 (by decide) ?_
      refine wp_istore_n (pc := 1) 2 dX7_status_1 rfl (by decide) rfl ?_
      refine wp_iload_n (pc := 2) 1 dX7_status_2 rfl rfl ?_
      refine wp_tswI (pc := 3) 5 77 dX7_status_3 (by decide) (by decide) rfl (by decide) ?_
      refine wp_aload_n (pc := 77) 0 dX7_status_77 rfl rfl ?_
      refine wp_aload_n (pc := 78) 0 dX7_status_78 rfl rfl ?_
      refine wc_V_ (pc := 79) dX7_status_79 lkX7_135 (sm_Rc.o (ci := 6) s0_40 (by decide) (by decide)) (by decide) (Nat.le_of_ble_eq_true rfl) ?_
      refine c_X7_been hw hR ?_
      refine wc_V_I (pc := 82) dX7_status_82 lkX7_168 (sm_Rc.o (ci := 6) s0_40 (by decide) (by decide)) (by decide) (Nat.le_of_ble_eq_true rfl) ?_
      refine c_X7_valueBy hw hR hbl ?_
      refine wp_iretI (pc := 85) dX7_status_85 rfl ?_
      exact k _ _ _ hM Lo.rf
    · refine wp_iconst (pc := 0) (0) dX7_status_0 (by decide) ?_
      refine wp_istore_n (pc := 1) 2 dX7_status_1 rfl (by decide) rfl ?_
      refine wp_iload_n (pc := 2) 1 dX7_status_2 rfl rfl ?_
      refine wp_tswI (pc := 3) 6 86 dX7_status_3 (by decide) (by decide) rfl (by decide) ?_
      refine wp_aload_n (pc := 86) 0 dX7_status_86 rfl rfl ?_
      refine wq_getI (pc := 87) 93 6 dX7_status_87 s0_40 flX7_93 rfl (by decide) ?_
      refine wp_int hM.2.2.2.2.1.1 ?_
      refine wp_iretI (pc := 90) dX7_status_90 rfl ?_
      exact k _ _ _ hM Lo.rf
    · refine wp_iconst (pc := 0) (0) dX7_status_0 (by decide) ?_
      refine wp_istore_n (pc := 1) 2 dX7_status_1 rfl (by decide) rfl ?_
      refine wp_iload_n (pc := 2) 1 dX7_status_2 rfl rfl ?_
      refine wp_tswI (pc := 3) 7 91 dX7_status_3 (by decide) (by decide) rfl (by decide) ?_
      refine wp_aload_n (pc := 91) 0 dX7_status_91 rfl rfl ?_
      refine wq_getR (pc := 92) 13 0 dX7_status_92 s0_40 flX7_13 rfl rfl (by decide) (by decide) ?_
      refine wp_bipush (pc := 95) (73) dX7_status_95 (by decide) ?_
      refine wq_iald (pc := 97) 73 dX7_status_97 s0_41 (by decide) rfl (by decide) (by decide) ?_
      refine wp_int (hR.at (by decide)) ?_
      refine wp_iretI (pc := 98) dX7_status_98 rfl ?_
      exact k _ _ _ hM Lo.rf
    · refine wp_iconst (pc := 0) (0) dX7_status_0 (by decide) ?_
      refine wp_istore_n (pc := 1) 2 dX7_status_1 rfl (by decide) rfl ?_
      refine wp_iload_n (pc := 2) 1 dX7_status_2 rfl rfl ?_
      refine wp_tswI (pc := 3) 8 99 dX7_status_3 (by decide) (by decide) rfl (by decide) ?_
      refine wp_iconst (pc := 99) (0) dX7_status_99 (by decide) ?_
      refine wp_istore_n (pc := 100) 3 dX7_status_100 rfl (by decide) rfl ?_
      refine wp_loop (fun i => [.ref 40, .int (nI 8), .int (nI (cnt (fun i => (sgh s i).isSome) i)), .int (nI i)]) (fun i => (S0, F, I, J)) (fun i => True) 8 (fun i hi hv nx => ?_) (fun hv => ?_) 0 (by omega) trivial
      · refine wp_iload_n (pc := 101) 3 dX7_status_101 rfl rfl ?_
        refine wp_bipush (pc := 102) (8) dX7_status_102 (by decide) ?_
        refine wp_icmp_ge (pc := 104) 131 dX7_status_104 (by decide) (fun c_104 => ?_) (fun c_104 => ?_)
        · exact absurd c_104 (nI_ge (b := 8) hi (by omega))
        · refine wp_iload_n (pc := 107) 2 dX7_status_107 rfl rfl ?_
          refine wp_aload_n (pc := 108) 0 dX7_status_108 rfl rfl ?_
          refine wq_getR (pc := 109) 33 13 dX7_status_109 s0_40 flX7_33 rfl rfl (by decide) (by decide) ?_
          refine wp_iload_n (pc := 112) 3 dX7_status_112 rfl rfl ?_
          refine wq_iald (pc := 113) i dX7_status_113 s0_47 (by decide) rfl hi (by decide) ?_
          refine wp_int (hS.1 _ hi) ?_
          refine wp_iconst (pc := 114) (-1) dX7_status_114 (by decide) ?_
          refine wp_icmp_ne (pc := 115) 122 dX7_status_115 (by decide) (fun c_115 => ?_) (fun c_115 => ?_)
          · refine wp_iconst (pc := 122) (1) dX7_status_122 (by decide) ?_
            refine wp_iadd (pc := 123) dX7_status_123 ?_
            refine wp_int (nI_1 _) ?_
            refine wp_istore_n (pc := 124) 2 dX7_status_124 rfl (by decide) rfl ?_
            refine wp_incN (pc := 125) 3 dX7_status_125 rfl (by decide) rfl ?_
            refine wp_goto (pc := 128) 101 dX7_status_128 (by decide) ?_
            have nx := nx trivial
            rw [cnt_t (p := (fun i => (sgh s i).isSome)) (show (sgh s i).isSome = true by
              cases e : sgh s i with
              | none => rw [e] at c_115; exact absurd rfl c_115
              | some j => rfl)] at nx
            exact nx
          · refine wp_iconst (pc := 118) (0) dX7_status_118 (by decide) ?_
            refine wp_goto (pc := 119) 123 dX7_status_119 (by decide) ?_
            refine wp_iadd (pc := 123) dX7_status_123 ?_
            refine wp_int (add0 _) ?_
            refine wp_istore_n (pc := 124) 2 dX7_status_124 rfl (by decide) rfl ?_
            refine wp_incN (pc := 125) 3 dX7_status_125 rfl (by decide) rfl ?_
            refine wp_goto (pc := 128) 101 dX7_status_128 (by decide) ?_
            have nx := nx trivial
            rw [cnt_f (p := (fun i => (sgh s i).isSome)) (show (sgh s i).isSome = false by rw [(eN_none (fun j hj => Nat.lt_trans (ho.lt j hj) (by decide))).mp c_115]; rfl)] at nx
            exact nx
      · refine wp_iload_n (pc := 101) 3 dX7_status_101 rfl rfl ?_
        refine wp_bipush (pc := 102) (8) dX7_status_102 (by decide) ?_
        refine wp_icmp_ge (pc := 104) 131 dX7_status_104 (by decide) (fun c_104 => ?_) (fun c_104 => ?_)
        · refine wp_iload_n (pc := 131) 2 dX7_status_131 rfl rfl ?_
          refine wp_iretI (pc := 132) dX7_status_132 rfl ?_
          exact k _ _ _ hM Lo.rf
        · exact absurd (Int32.le_refl _) c_104
  · unfold do_status at k
    rw [if_neg hx] at k
    have hx2 := tsw_o (m := 8) (by decide) rfl hx
    refine wp_iconst (pc := 0) (0) dX7_status_0 (by decide) ?_
    refine wp_istore_n (pc := 1) 2 dX7_status_1 rfl (by decide) rfl ?_
    refine wp_iload_n (pc := 2) 1 dX7_status_2 rfl rfl ?_
    refine wp_tswO (pc := 3) 133 dX7_status_3 hx2 (by decide) ?_
    refine wp_iload_n (pc := 133) 1 dX7_status_133 rfl rfl ?_
    refine wp_bipush (pc := 134) (12) dX7_status_134 (by decide) ?_
    refine wp_bipush (pc := 136) (16) dX7_status_136 (by decide) ?_
    refine wc_S_III (pc := 138) dX7_status_138 lkX7_49 (by decide) (Nat.le_of_ble_eq_true rfl) ?_
    refine c_X7_isIn ?_
    refine wp_ifeqB (pc := 141) 156 dX7_status_141 (by decide) (fun c_141 => ?_) (fun c_141 => ?_)
    · refine wp_iconst (pc := 156) (-1) dX7_status_156 (by decide) ?_
      refine wp_iretI (pc := 157) dX7_status_157 rfl ?_
      rw [if_neg (of_decide_eq_false c_141)] at k
      exact k _ _ _ hM Lo.rf
    · have h12 := of_decide_eq_true c_141
      obtain ⟨m, hm, rfl⟩ := (i32_le (n := 16) (by decide)).mp ⟨Int32.le_trans (by decide) h12.1, h12.2⟩
      have hm1 : 12 ≤ m := (nI_leI (a := 12) (by decide) (by omega)).mp h12.1
      refine wp_aload_n (pc := 144) 0 dX7_status_144 rfl rfl ?_
      refine wq_getR (pc := 145) 23 4 dX7_status_145 s0_40 flX7_23 rfl rfl (by decide) (by decide) ?_
      refine wp_iload_n (pc := 148) 1 dX7_status_148 rfl rfl ?_
      refine wp_bipush (pc := 149) (10) dX7_status_149 (by decide) ?_
      refine wp_isub (pc := 151) dX7_status_151 ?_
      refine wq_iald (pc := 152) (2 + (m - 12)) dX7_status_152 s0_44 (by decide) (by rw [show (10 : Int32) = nI 10 from rfl, sub_nI (by omega)]; congr 1; omega) (by omega) (by decide) ?_
      refine wp_int (hM.2.2.2.1 (m - 12) (by omega)) ?_
      refine wp_goto (pc := 153) 157 dX7_status_153 (by decide) ?_
      refine wp_iretI (pc := 157) dX7_status_157 rfl ?_
      rw [if_pos (of_decide_eq_true c_141), nI_clamp (by omega)] at k
      exact k _ _ _ hM Lo.rf
