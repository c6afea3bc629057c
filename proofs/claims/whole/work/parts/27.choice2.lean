/-! ===== unsaying, the pair ===== -/
theorem m1_gt {a : Nat} (h : a < 2 ^ 31) : (-1 : Int32) < nI a := by
  have : ¬ nI a ≤ -1 := m1_lt h
  exact Int32.not_le.mp this
def eM : Option (Nat × Nat) → Int32
  | none => -1
  | some q => nI q.2
theorem un_no {f : rw_} {s k : Nat} (h : ¬ (dif k (bn f) = 0 ∧ sta f (dif (bn f) k) &&& s = 0)) : unU f s (k + 1) = unU f s k := by rw [unU, if_neg h]
theorem un_new {f : rw_} {s k : Nat} (h : dif k (bn f) = 0 ∧ sta f (dif (bn f) k) &&& s = 0) (e : unU f s k = none) : unU f s (k + 1) = some (k, pop (sta f (dif (bn f) k))) := by rw [unU, if_pos h, e]
theorem un_up {f : rw_} {s k b m : Nat} (h : dif k (bn f) = 0 ∧ sta f (dif (bn f) k) &&& s = 0) (e : unU f s k = some (b, m)) (hl : m < pop (sta f (dif (bn f) k)) ∨ (m = pop (sta f (dif (bn f) k)) ∧ pop k < pop b)) : unU f s (k + 1) = some (k, pop (sta f (dif (bn f) k))) := by rw [unU, if_pos h, e]; simp only [if_pos hl]
theorem un_st {f : rw_} {s k b m : Nat} (h : dif k (bn f) = 0 ∧ sta f (dif (bn f) k) &&& s = 0) (e : unU f s k = some (b, m)) (hl : ¬ (m < pop (sta f (dif (bn f) k)) ∨ (m = pop (sta f (dif (bn f) k)) ∧ pop k < pop b))) : unU f s (k + 1) = some (b, m) := by rw [unU, if_pos h, e]; simp only [if_neg hl]
theorem un_bn {f : rw_} (hw : WF f) (s : Nat) : unU f s (2 ^ f 68) = unU f s (bn f + 1) := by
  have h := bn_lt hw
  have := unU_end (f := f) s (k := bn f + 1) (fun i hi z => by have := sub_le z; omega) (2 ^ f 68 - (bn f + 1))
  rw [show bn f + 1 + (2 ^ f 68 - (bn f + 1)) = 2 ^ f 68 by omega] at this
  exact this
theorem eqI {a b : Nat} (ha : a < 2 ^ 31) (hb : b < 2 ^ 31) : nI a = nI b ↔ a = b := nI_eq ha hb
theorem c_X1_leastUnsaying {d : Nat} {F I : Nat → Nat → Int32} {J : Nat → Nat → Int64} {Q : Option Value → sm_H → Prop} {t : Nat} (ht : isT t) {f : rw_} (hw : WF f) (hT : Tw t f F I) {s : Nat} (hs : s < 1024) (k : Q (some (.int (eN ((unU f s (2 ^ f 68)).map Prod.fst)))) (S0, F, I, J)) : Wp mX1_leastUnsaying (d + 2) 0 0 0 (sm_ini [.ref t, .int (nI s)] 8) [] (S0, F, I, J) Q := by
  show Wp _ _ _ _ _ [.ref t, .int (nI s), .null, .null, .null, .null, .null, .null] _ _ _
  refine wp_iconst (pc := 0) (-1) dX1_leastUnsaying_0 (by decide) ?_
  refine wp_istore_n (pc := 1) 2 dX1_leastUnsaying_1 rfl (by decide) rfl ?_
  refine wp_iconst (pc := 2) (-1) dX1_leastUnsaying_2 (by decide) ?_
  refine wp_istore_n (pc := 3) 3 dX1_leastUnsaying_3 rfl (by decide) rfl ?_
  refine wp_iconst (pc := 4) (0) dX1_leastUnsaying_4 (by decide) ?_
  refine wp_istore (pc := 5) 4 dX1_leastUnsaying_5 (by decide) rfl ?_
  rw [un_bn hw s] at k
  refine wp_loop (fun i => [.ref t, .int (nI s), .int (eN ((unU f s i).map Prod.fst)), .int (eM (unU f s i)), .int (nI i), .null, .null, .null]) (fun _ => (S0, F, I, J)) (fun _ => True) (bn f + 1) (fun i hi hv nx => ?_) (fun hv => ?_) 0 (Nat.zero_le _) trivial
  · have hb := bn_1024 hw
    have hdi := dif_1024 i hb
    have hs1 := sta_1024 f (dif (bn f) i)
    have hpo := pop_le (sta f (dif (bn f) i))
    rcases ho : unU f s i with _ | ⟨b, m⟩
    · refine wp_to (lv' := [.ref t, .int (nI s), .int (-1), .int (-1), .int (nI i), .null, .null, .null]) ?_ rfl rfl rfl
      refine wp_iload (pc := 7) 4 dX1_leastUnsaying_7 rfl ?_
      refine wp_aload_n (pc := 9) 0 dX1_leastUnsaying_9 rfl rfl ?_
      refine wq_getI (pc := 10) 15 5 dX1_leastUnsaying_10 (tT ht) flX1_15 rfl ht.lt ?_
      refine wp_int hT.been ?_
      refine wp_icmp_gt (pc := 13) 105 dX1_leastUnsaying_13 (by decide) (fun c_13 => ?_) (fun c_13 => ?_)
      · exact absurd c_13 (gt_abs hi (by omega))
      · refine wp_iload (pc := 16) 4 dX1_leastUnsaying_16 rfl ?_
        refine wp_aload_n (pc := 18) 0 dX1_leastUnsaying_18 rfl rfl ?_
        refine wq_getI (pc := 19) 15 5 dX1_leastUnsaying_19 (tT ht) flX1_15 rfl ht.lt ?_
        refine wp_int hT.been ?_
        refine wp_iconst (pc := 22) (-1) dX1_leastUnsaying_22 (by decide) ?_
        refine wp_ixor (pc := 23) dX1_leastUnsaying_23 ?_
        refine wp_iand (pc := 24) dX1_leastUnsaying_24 ?_
        refine wp_int (bt_dif _ _) ?_
        refine wp_ifeq (pc := 25) 31 dX1_leastUnsaying_25 (by decide) (fun c_25 => ?_) (fun c_25 => ?_)
        · refine wp_aload_n (pc := 31) 0 dX1_leastUnsaying_31 rfl rfl ?_
          refine wp_aload_n (pc := 32) 0 dX1_leastUnsaying_32 rfl rfl ?_
          refine wq_getI (pc := 33) 15 5 dX1_leastUnsaying_33 (tT ht) flX1_15 rfl ht.lt ?_
          refine wp_int hT.been ?_
          refine wp_iload (pc := 36) 4 dX1_leastUnsaying_36 rfl ?_
          refine wp_iconst (pc := 38) (-1) dX1_leastUnsaying_38 (by decide) ?_
          refine wp_ixor (pc := 39) dX1_leastUnsaying_39 ?_
          refine wp_iand (pc := 40) dX1_leastUnsaying_40 ?_
          refine wp_int (bt_dif _ _) ?_
          refine wc_V_I (pc := 41) dX1_leastUnsaying_41 lkX1_27 (sm_Rc.o (ci := 4) (tT ht) (by decide) ht.lt) (by decide) (Nat.le_of_ble_eq_true rfl) ?_
          refine c_X5_standing ht hw hT (by omega) ?_
          refine wp_istore (pc := 44) 5 dX1_leastUnsaying_44 (by decide) rfl ?_
          refine wp_iload (pc := 46) 5 dX1_leastUnsaying_46 rfl ?_
          refine wc_S_I (pc := 48) dX1_leastUnsaying_48 lkX1_9 (by decide) (Nat.le_of_ble_eq_true rfl) ?_
          refine c_J6_bitCount_0f7a4 ?_
          refine wp_int (bc_pop hs1) ?_
          refine wp_istore (pc := 51) 6 dX1_leastUnsaying_51 (by decide) rfl ?_
          refine wp_iload (pc := 53) 6 dX1_leastUnsaying_53 rfl ?_
          refine wp_iload_n (pc := 55) 3 dX1_leastUnsaying_55 rfl rfl ?_
          refine wp_icmp_gt (pc := 56) 74 dX1_leastUnsaying_56 (by decide) (fun c_56 => ?_) (fun c_56 => ?_)
          · refine wp_iconst (pc := 74) (1) dX1_leastUnsaying_74 (by decide) ?_
            refine wp_goto (pc := 75) 79 dX1_leastUnsaying_75 (by decide) ?_
            refine wp_istore (pc := 79) 7 dX1_leastUnsaying_79 (by decide) rfl ?_
            refine wp_iload (pc := 81) 5 dX1_leastUnsaying_81 rfl ?_
            refine wp_iload_n (pc := 83) 1 dX1_leastUnsaying_83 rfl rfl ?_
            refine wp_iand (pc := 84) dX1_leastUnsaying_84 ?_
            refine wp_int (bt_and _ _) ?_
            refine wp_ifne (pc := 85) 99 dX1_leastUnsaying_85 (by decide) (fun c_85 => ?_) (fun c_85 => ?_)
            · refine wp_incN (pc := 99) 4 dX1_leastUnsaying_99 rfl (by decide) rfl ?_
              refine wp_goto (pc := 102) 7 dX1_leastUnsaying_102 (by decide) ?_
              have nx := nx trivial
              rw [un_no (fun z => c_85 (by rw [z.2]; rfl)), ho] at nx
              refine wp_weak ?_ nx
              exact And.intro (Or.inr rfl) (And.intro (Or.inr rfl) (And.intro (Or.inr rfl) (And.intro (Or.inr rfl) (And.intro (Or.inr rfl) (And.intro (Or.inl rfl) (And.intro (Or.inl rfl) (And.intro (Or.inl rfl) (trivial))))))))
            · refine wp_iload (pc := 88) 7 dX1_leastUnsaying_88 rfl ?_
              refine wp_ifeq (pc := 90) 99 dX1_leastUnsaying_90 (by decide) (fun c_90 => ?_) (fun c_90 => ?_)
              · exact absurd c_90 (by decide)
              · refine wp_iload (pc := 93) 4 dX1_leastUnsaying_93 rfl ?_
                refine wp_istore_n (pc := 95) 2 dX1_leastUnsaying_95 rfl (by decide) rfl ?_
                refine wp_iload (pc := 96) 6 dX1_leastUnsaying_96 rfl ?_
                refine wp_istore_n (pc := 98) 3 dX1_leastUnsaying_98 rfl (by decide) rfl ?_
                refine wp_incN (pc := 99) 4 dX1_leastUnsaying_99 rfl (by decide) rfl ?_
                refine wp_goto (pc := 102) 7 dX1_leastUnsaying_102 (by decide) ?_
                have nx := nx trivial
                rw [un_new ⟨(nIz (dif_1024 _ (by omega))).mp c_25, (nIz (and_lt (n := 10) _ hs1)).mp c_85⟩ ho] at nx
                refine wp_weak ?_ nx
                exact And.intro (Or.inr rfl) (And.intro (Or.inr rfl) (And.intro (Or.inr rfl) (And.intro (Or.inr rfl) (And.intro (Or.inr rfl) (And.intro (Or.inl rfl) (And.intro (Or.inl rfl) (And.intro (Or.inl rfl) (trivial))))))))
          · exact absurd (m1_gt (by omega)) c_56
        · refine wp_goto (pc := 28) 99 dX1_leastUnsaying_28 (by decide) ?_
          refine wp_incN (pc := 99) 4 dX1_leastUnsaying_99 rfl (by decide) rfl ?_
          refine wp_goto (pc := 102) 7 dX1_leastUnsaying_102 (by decide) ?_
          have nx := nx trivial
          rw [un_no (fun z => c_25 (by rw [z.1]; rfl)), ho] at nx
          refine wp_weak ?_ nx
          exact And.intro (Or.inr rfl) (And.intro (Or.inr rfl) (And.intro (Or.inr rfl) (And.intro (Or.inr rfl) (And.intro (Or.inr rfl) (And.intro (Or.inl rfl) (And.intro (Or.inl rfl) (And.intro (Or.inl rfl) (trivial))))))))
    · have hm := unU_lt ho
      simp only at hm
      refine wp_to (lv' := [.ref t, .int (nI s), .int (nI b), .int (nI m), .int (nI i), .null, .null, .null]) ?_ rfl rfl rfl
      refine wp_iload (pc := 7) 4 dX1_leastUnsaying_7 rfl ?_
      refine wp_aload_n (pc := 9) 0 dX1_leastUnsaying_9 rfl rfl ?_
      refine wq_getI (pc := 10) 15 5 dX1_leastUnsaying_10 (tT ht) flX1_15 rfl ht.lt ?_
      refine wp_int hT.been ?_
      refine wp_icmp_gt (pc := 13) 105 dX1_leastUnsaying_13 (by decide) (fun c_13 => ?_) (fun c_13 => ?_)
      · exact absurd c_13 (gt_abs hi (by omega))
      · refine wp_iload (pc := 16) 4 dX1_leastUnsaying_16 rfl ?_
        refine wp_aload_n (pc := 18) 0 dX1_leastUnsaying_18 rfl rfl ?_
        refine wq_getI (pc := 19) 15 5 dX1_leastUnsaying_19 (tT ht) flX1_15 rfl ht.lt ?_
        refine wp_int hT.been ?_
        refine wp_iconst (pc := 22) (-1) dX1_leastUnsaying_22 (by decide) ?_
        refine wp_ixor (pc := 23) dX1_leastUnsaying_23 ?_
        refine wp_iand (pc := 24) dX1_leastUnsaying_24 ?_
        refine wp_int (bt_dif _ _) ?_
        refine wp_ifeq (pc := 25) 31 dX1_leastUnsaying_25 (by decide) (fun c_25 => ?_) (fun c_25 => ?_)
        · refine wp_aload_n (pc := 31) 0 dX1_leastUnsaying_31 rfl rfl ?_
          refine wp_aload_n (pc := 32) 0 dX1_leastUnsaying_32 rfl rfl ?_
          refine wq_getI (pc := 33) 15 5 dX1_leastUnsaying_33 (tT ht) flX1_15 rfl ht.lt ?_
          refine wp_int hT.been ?_
          refine wp_iload (pc := 36) 4 dX1_leastUnsaying_36 rfl ?_
          refine wp_iconst (pc := 38) (-1) dX1_leastUnsaying_38 (by decide) ?_
          refine wp_ixor (pc := 39) dX1_leastUnsaying_39 ?_
          refine wp_iand (pc := 40) dX1_leastUnsaying_40 ?_
          refine wp_int (bt_dif _ _) ?_
          refine wc_V_I (pc := 41) dX1_leastUnsaying_41 lkX1_27 (sm_Rc.o (ci := 4) (tT ht) (by decide) ht.lt) (by decide) (Nat.le_of_ble_eq_true rfl) ?_
          refine c_X5_standing ht hw hT (by omega) ?_
          refine wp_istore (pc := 44) 5 dX1_leastUnsaying_44 (by decide) rfl ?_
          refine wp_iload (pc := 46) 5 dX1_leastUnsaying_46 rfl ?_
          refine wc_S_I (pc := 48) dX1_leastUnsaying_48 lkX1_9 (by decide) (Nat.le_of_ble_eq_true rfl) ?_
          refine c_J6_bitCount_0f7a4 ?_
          refine wp_int (bc_pop hs1) ?_
          refine wp_istore (pc := 51) 6 dX1_leastUnsaying_51 (by decide) rfl ?_
          refine wp_iload (pc := 53) 6 dX1_leastUnsaying_53 rfl ?_
          refine wp_iload_n (pc := 55) 3 dX1_leastUnsaying_55 rfl rfl ?_
          refine wp_icmp_gt (pc := 56) 74 dX1_leastUnsaying_56 (by decide) (fun c_56 => ?_) (fun c_56 => ?_)
          · refine wp_iconst (pc := 74) (1) dX1_leastUnsaying_74 (by decide) ?_
            refine wp_goto (pc := 75) 79 dX1_leastUnsaying_75 (by decide) ?_
            refine wp_istore (pc := 79) 7 dX1_leastUnsaying_79 (by decide) rfl ?_
            refine wp_iload (pc := 81) 5 dX1_leastUnsaying_81 rfl ?_
            refine wp_iload_n (pc := 83) 1 dX1_leastUnsaying_83 rfl rfl ?_
            refine wp_iand (pc := 84) dX1_leastUnsaying_84 ?_
            refine wp_int (bt_and _ _) ?_
            refine wp_ifne (pc := 85) 99 dX1_leastUnsaying_85 (by decide) (fun c_85 => ?_) (fun c_85 => ?_)
            · refine wp_incN (pc := 99) 4 dX1_leastUnsaying_99 rfl (by decide) rfl ?_
              refine wp_goto (pc := 102) 7 dX1_leastUnsaying_102 (by decide) ?_
              have nx := nx trivial
              rw [un_no (fun z => c_85 (by rw [z.2]; rfl)), ho] at nx
              refine wp_weak ?_ nx
              exact And.intro (Or.inr rfl) (And.intro (Or.inr rfl) (And.intro (Or.inr rfl) (And.intro (Or.inr rfl) (And.intro (Or.inr rfl) (And.intro (Or.inl rfl) (And.intro (Or.inl rfl) (And.intro (Or.inl rfl) (trivial))))))))
            · refine wp_iload (pc := 88) 7 dX1_leastUnsaying_88 rfl ?_
              refine wp_ifeq (pc := 90) 99 dX1_leastUnsaying_90 (by decide) (fun c_90 => ?_) (fun c_90 => ?_)
              · exact absurd c_90 (by decide)
              · refine wp_iload (pc := 93) 4 dX1_leastUnsaying_93 rfl ?_
                refine wp_istore_n (pc := 95) 2 dX1_leastUnsaying_95 rfl (by decide) rfl ?_
                refine wp_iload (pc := 96) 6 dX1_leastUnsaying_96 rfl ?_
                refine wp_istore_n (pc := 98) 3 dX1_leastUnsaying_98 rfl (by decide) rfl ?_
                refine wp_incN (pc := 99) 4 dX1_leastUnsaying_99 rfl (by decide) rfl ?_
                refine wp_goto (pc := 102) 7 dX1_leastUnsaying_102 (by decide) ?_
                have nx := nx trivial
                rw [un_up ⟨(nIz (dif_1024 _ (by omega))).mp c_25, (nIz (and_lt (n := 10) _ hs1)).mp c_85⟩ ho (Or.inl (Nat.lt_of_not_le fun z => nI_nlt z (by omega) c_56))] at nx
                refine wp_weak ?_ nx
                exact And.intro (Or.inr rfl) (And.intro (Or.inr rfl) (And.intro (Or.inr rfl) (And.intro (Or.inr rfl) (And.intro (Or.inr rfl) (And.intro (Or.inl rfl) (And.intro (Or.inl rfl) (And.intro (Or.inl rfl) (trivial))))))))
          · refine wp_iload (pc := 59) 6 dX1_leastUnsaying_59 rfl ?_
            refine wp_iload_n (pc := 61) 3 dX1_leastUnsaying_61 rfl rfl ?_
            refine wp_icmp_ne (pc := 62) 78 dX1_leastUnsaying_62 (by decide) (fun c_62 => ?_) (fun c_62 => ?_)
            · refine wp_iconst (pc := 78) (0) dX1_leastUnsaying_78 (by decide) ?_
              refine wp_istore (pc := 79) 7 dX1_leastUnsaying_79 (by decide) rfl ?_
              refine wp_iload (pc := 81) 5 dX1_leastUnsaying_81 rfl ?_
              refine wp_iload_n (pc := 83) 1 dX1_leastUnsaying_83 rfl rfl ?_
              refine wp_iand (pc := 84) dX1_leastUnsaying_84 ?_
              refine wp_int (bt_and _ _) ?_
              refine wp_ifne (pc := 85) 99 dX1_leastUnsaying_85 (by decide) (fun c_85 => ?_) (fun c_85 => ?_)
              · refine wp_incN (pc := 99) 4 dX1_leastUnsaying_99 rfl (by decide) rfl ?_
                refine wp_goto (pc := 102) 7 dX1_leastUnsaying_102 (by decide) ?_
                have nx := nx trivial
                rw [un_no (fun z => c_85 (by rw [z.2]; rfl)), ho] at nx
                refine wp_weak ?_ nx
                exact And.intro (Or.inr rfl) (And.intro (Or.inr rfl) (And.intro (Or.inr rfl) (And.intro (Or.inr rfl) (And.intro (Or.inr rfl) (And.intro (Or.inl rfl) (And.intro (Or.inl rfl) (And.intro (Or.inl rfl) (trivial))))))))
              · refine wp_iload (pc := 88) 7 dX1_leastUnsaying_88 rfl ?_
                refine wp_ifeq (pc := 90) 99 dX1_leastUnsaying_90 (by decide) (fun c_90 => ?_) (fun c_90 => ?_)
                · refine wp_incN (pc := 99) 4 dX1_leastUnsaying_99 rfl (by decide) rfl ?_
                  refine wp_goto (pc := 102) 7 dX1_leastUnsaying_102 (by decide) ?_
                  have nx := nx trivial
                  rw [un_st ⟨(nIz (dif_1024 _ (by omega))).mp c_25, (nIz (and_lt (n := 10) _ hs1)).mp c_85⟩ ho (fun z => z.elim (fun z => c_56 (nI_lt z (by omega))) (fun z => c_62 (by rw [z.1])))] at nx
                  refine wp_weak ?_ nx
                  exact And.intro (Or.inr rfl) (And.intro (Or.inr rfl) (And.intro (Or.inr rfl) (And.intro (Or.inr rfl) (And.intro (Or.inr rfl) (And.intro (Or.inl rfl) (And.intro (Or.inl rfl) (And.intro (Or.inl rfl) (trivial))))))))
                · exact absurd (by decide) c_90
            · refine wp_iload (pc := 65) 4 dX1_leastUnsaying_65 rfl ?_
              refine wp_iload_n (pc := 67) 2 dX1_leastUnsaying_67 rfl rfl ?_
              refine wc_S_II (pc := 68) dX1_leastUnsaying_68 lkX1_21 (by decide) (Nat.le_of_ble_eq_true rfl) ?_
              refine c_X1_isFewer_s (by omega) (by omega) ?_
              refine wp_ifeqB (pc := 71) 78 dX1_leastUnsaying_71 (by decide) (fun c_71 => ?_) (fun c_71 => ?_)
              · refine wp_iconst (pc := 78) (0) dX1_leastUnsaying_78 (by decide) ?_
                refine wp_istore (pc := 79) 7 dX1_leastUnsaying_79 (by decide) rfl ?_
                refine wp_iload (pc := 81) 5 dX1_leastUnsaying_81 rfl ?_
                refine wp_iload_n (pc := 83) 1 dX1_leastUnsaying_83 rfl rfl ?_
                refine wp_iand (pc := 84) dX1_leastUnsaying_84 ?_
                refine wp_int (bt_and _ _) ?_
                refine wp_ifne (pc := 85) 99 dX1_leastUnsaying_85 (by decide) (fun c_85 => ?_) (fun c_85 => ?_)
                · refine wp_incN (pc := 99) 4 dX1_leastUnsaying_99 rfl (by decide) rfl ?_
                  refine wp_goto (pc := 102) 7 dX1_leastUnsaying_102 (by decide) ?_
                  have nx := nx trivial
                  rw [un_no (fun z => c_85 (by rw [z.2]; rfl)), ho] at nx
                  refine wp_weak ?_ nx
                  exact And.intro (Or.inr rfl) (And.intro (Or.inr rfl) (And.intro (Or.inr rfl) (And.intro (Or.inr rfl) (And.intro (Or.inr rfl) (And.intro (Or.inl rfl) (And.intro (Or.inl rfl) (And.intro (Or.inl rfl) (trivial))))))))
                · refine wp_iload (pc := 88) 7 dX1_leastUnsaying_88 rfl ?_
                  refine wp_ifeq (pc := 90) 99 dX1_leastUnsaying_90 (by decide) (fun c_90 => ?_) (fun c_90 => ?_)
                  · refine wp_incN (pc := 99) 4 dX1_leastUnsaying_99 rfl (by decide) rfl ?_
                    refine wp_goto (pc := 102) 7 dX1_leastUnsaying_102 (by decide) ?_
                    have nx := nx trivial
                    rw [un_st ⟨(nIz (dif_1024 _ (by omega))).mp c_25, (nIz (and_lt (n := 10) _ hs1)).mp c_85⟩ ho (fun z => z.elim (fun z => c_56 (nI_lt z (by omega))) (fun z => of_decide_eq_false c_71 z.2))] at nx
                    refine wp_weak ?_ nx
                    exact And.intro (Or.inr rfl) (And.intro (Or.inr rfl) (And.intro (Or.inr rfl) (And.intro (Or.inr rfl) (And.intro (Or.inr rfl) (And.intro (Or.inl rfl) (And.intro (Or.inl rfl) (And.intro (Or.inl rfl) (trivial))))))))
                  · exact absurd (by decide) c_90
              · refine wp_iconst (pc := 74) (1) dX1_leastUnsaying_74 (by decide) ?_
                refine wp_goto (pc := 75) 79 dX1_leastUnsaying_75 (by decide) ?_
                refine wp_istore (pc := 79) 7 dX1_leastUnsaying_79 (by decide) rfl ?_
                refine wp_iload (pc := 81) 5 dX1_leastUnsaying_81 rfl ?_
                refine wp_iload_n (pc := 83) 1 dX1_leastUnsaying_83 rfl rfl ?_
                refine wp_iand (pc := 84) dX1_leastUnsaying_84 ?_
                refine wp_int (bt_and _ _) ?_
                refine wp_ifne (pc := 85) 99 dX1_leastUnsaying_85 (by decide) (fun c_85 => ?_) (fun c_85 => ?_)
                · refine wp_incN (pc := 99) 4 dX1_leastUnsaying_99 rfl (by decide) rfl ?_
                  refine wp_goto (pc := 102) 7 dX1_leastUnsaying_102 (by decide) ?_
                  have nx := nx trivial
                  rw [un_no (fun z => c_85 (by rw [z.2]; rfl)), ho] at nx
                  refine wp_weak ?_ nx
                  exact And.intro (Or.inr rfl) (And.intro (Or.inr rfl) (And.intro (Or.inr rfl) (And.intro (Or.inr rfl) (And.intro (Or.inr rfl) (And.intro (Or.inl rfl) (And.intro (Or.inl rfl) (And.intro (Or.inl rfl) (trivial))))))))
                · refine wp_iload (pc := 88) 7 dX1_leastUnsaying_88 rfl ?_
                  refine wp_ifeq (pc := 90) 99 dX1_leastUnsaying_90 (by decide) (fun c_90 => ?_) (fun c_90 => ?_)
                  · exact absurd c_90 (by decide)
                  · refine wp_iload (pc := 93) 4 dX1_leastUnsaying_93 rfl ?_
                    refine wp_istore_n (pc := 95) 2 dX1_leastUnsaying_95 rfl (by decide) rfl ?_
                    refine wp_iload (pc := 96) 6 dX1_leastUnsaying_96 rfl ?_
                    refine wp_istore_n (pc := 98) 3 dX1_leastUnsaying_98 rfl (by decide) rfl ?_
                    refine wp_incN (pc := 99) 4 dX1_leastUnsaying_99 rfl (by decide) rfl ?_
                    refine wp_goto (pc := 102) 7 dX1_leastUnsaying_102 (by decide) ?_
                    have nx := nx trivial
                    rw [un_up ⟨(nIz (dif_1024 _ (by omega))).mp c_25, (nIz (and_lt (n := 10) _ hs1)).mp c_85⟩ ho (Or.inr ⟨((nI_eq (by omega) (by omega)).mp c_62).symm, of_decide_eq_true c_71⟩)] at nx
                    refine wp_weak ?_ nx
                    exact And.intro (Or.inr rfl) (And.intro (Or.inr rfl) (And.intro (Or.inr rfl) (And.intro (Or.inr rfl) (And.intro (Or.inr rfl) (And.intro (Or.inl rfl) (And.intro (Or.inl rfl) (And.intro (Or.inl rfl) (trivial))))))))
        · refine wp_goto (pc := 28) 99 dX1_leastUnsaying_28 (by decide) ?_
          refine wp_incN (pc := 99) 4 dX1_leastUnsaying_99 rfl (by decide) rfl ?_
          refine wp_goto (pc := 102) 7 dX1_leastUnsaying_102 (by decide) ?_
          have nx := nx trivial
          rw [un_no (fun z => c_25 (by rw [z.1]; rfl)), ho] at nx
          refine wp_weak ?_ nx
          exact And.intro (Or.inr rfl) (And.intro (Or.inr rfl) (And.intro (Or.inr rfl) (And.intro (Or.inr rfl) (And.intro (Or.inr rfl) (And.intro (Or.inl rfl) (And.intro (Or.inl rfl) (And.intro (Or.inl rfl) (trivial))))))))
  · have hb := bn_1024 hw
    refine wp_iload (pc := 7) 4 dX1_leastUnsaying_7 rfl ?_
    refine wp_aload_n (pc := 9) 0 dX1_leastUnsaying_9 rfl rfl ?_
    refine wq_getI (pc := 10) 15 5 dX1_leastUnsaying_10 (tT ht) flX1_15 rfl ht.lt ?_
    refine wp_int hT.been ?_
    refine wp_icmp_gt (pc := 13) 105 dX1_leastUnsaying_13 (by decide) (fun c_13 => ?_) (fun c_13 => ?_)
    · refine wp_iload_n (pc := 105) 2 dX1_leastUnsaying_105 rfl rfl ?_
      refine wp_iretI (pc := 106) dX1_leastUnsaying_106 rfl ?_
      exact k
    · exact absurd (gt_fin (by omega)) c_13
def prV (f : rw_) (i j : Nat) : Nat := val f (dif (bn f) (2 ^ j ||| 2 ^ i))
/-- one more pair -/
def pr1 (f : rw_) (o : Option (Nat × Nat)) (i j : Nat) : Option (Nat × Nat) :=
  if dif (2 ^ j ||| 2 ^ i) (bn f) = 0 then (match o with
    | none => some (10 * i + j, prV f i j)
    | some q => if prV f i j < q.2 then some (10 * i + j, prV f i j) else some q) else o
def prJ (f : rw_) (i : Nat) (o : Option (Nat × Nat)) : Nat → Option (Nat × Nat)
  | 0 => o
  | k + 1 => if i < k then pr1 f (prJ f i o k) i k else prJ f i o k
def prU (f : rw_) : Nat → Option (Nat × Nat)
  | 0 => none
  | i + 1 => prJ f i (prU f i) (f 68)
def eL : Option (Nat × Nat) → Int32
  | none => 0
  | some q => nI q.2
theorem prJ_0 {f : rw_} {i : Nat} {o : Option (Nat × Nat)} : ∀ {k : Nat}, k ≤ i + 1 → prJ f i o k = o
  | 0, _ => rfl
  | k + 1, h => by rw [prJ, if_neg (by omega), prJ_0 (by omega)]
theorem prJ_s {f : rw_} {i k : Nat} {o : Option (Nat × Nat)} (h : i < k) : prJ f i o (k + 1) = pr1 f (prJ f i o k) i k := by rw [prJ, if_pos h]
theorem prJ_n {f : rw_} {i : Nat} {o : Option (Nat × Nat)} (n : Nat) (h : n ≤ i) : prJ f i o n = o := prJ_0 (by omega)
def okP (q : Option (Nat × Nat)) : Prop := ∀ c v, q = some (c, v) → c < 110 ∧ v < 1024
theorem val_1024 {f : rw_} (hw : WF f) (b : Nat) : val f b < 1024 := by have := val_le hw b; omega
theorem okP_1 {f : rw_} (hw : WF f) {o : Option (Nat × Nat)} {i j : Nat} (h : okP o) (hi : i < 10) (hj : j < 10) : okP (pr1 f o i j) := by
  intro c v e
  have hv := val_1024 hw (dif (bn f) (2 ^ j ||| 2 ^ i))
  have h0 : ∀ {c v : Nat}, some (10 * i + j, prV f i j) = some (c, v) → c < 110 ∧ v < 1024 := fun e => by
    cases e; exact ⟨by omega, hv⟩
  unfold pr1 at e
  split at e
  · cases o with
    | none => exact h0 e
    | some q =>
      simp only at e
      split at e
      · exact h0 e
      · exact h c v e
  · exact h c v e
theorem okP_J {f : rw_} (hw : WF f) {o : Option (Nat × Nat)} {i : Nat} (h : okP o) (hi : i < 10) : ∀ {k : Nat}, k ≤ 10 → okP (prJ f i o k)
  | 0, _ => h
  | k + 1, hk => by
    rw [prJ]
    split
    · exact okP_1 hw (okP_J hw h hi (by omega)) hi (by omega)
    · exact okP_J hw h hi (by omega)
theorem okP_U {f : rw_} (hw : WF f) : ∀ {i : Nat}, i ≤ 10 → okP (prU f i)
  | 0, _ => fun _ _ e => by cases e
  | i + 1, hi => okP_J hw (okP_U hw (by omega)) (by omega) hw.n
theorem pr_no {f : rw_} {o : Option (Nat × Nat)} {i j : Nat} (h : ¬ dif (2 ^ j ||| 2 ^ i) (bn f) = 0) : pr1 f o i j = o := by unfold pr1; rw [if_neg h]
theorem pr_new {f : rw_} {i j : Nat} (h : dif (2 ^ j ||| 2 ^ i) (bn f) = 0) : pr1 f none i j = some (10 * i + j, prV f i j) := by unfold pr1; rw [if_pos h]
theorem pr_up {f : rw_} {q : Nat × Nat} {i j : Nat} (h : dif (2 ^ j ||| 2 ^ i) (bn f) = 0) (hl : prV f i j < q.2) : pr1 f (some q) i j = some (10 * i + j, prV f i j) := by unfold pr1; rw [if_pos h]; simp only [if_pos hl]
theorem pr_st {f : rw_} {q : Nat × Nat} {i j : Nat} (h : dif (2 ^ j ||| 2 ^ i) (bn f) = 0) (hl : ¬ prV f i j < q.2) : pr1 f (some q) i j = some q := by unfold pr1; rw [if_pos h]; simp only [if_neg hl]
theorem c_X1_worstPair {d : Nat} {F I : Nat → Nat → Int32} {J : Nat → Nat → Int64} {Q : Option Value → sm_H → Prop} {t : Nat} (ht : isT t) {f : rw_} (hw : WF f) (hT : Tw t f F I)  (k : Q (some (.int (eN ((prU f (f 68)).map Prod.fst)))) (S0, F, I, J)) : Wp mX1_worstPair (d + 3) 0 0 0 (sm_ini [.ref t] 7) [] (S0, F, I, J) Q := by
  show Wp _ _ _ _ _ [.ref t, .null, .null, .null, .null, .null, .null] _ _ _
  refine wp_iconst (pc := 0) (-1) dX1_worstPair_0 (by decide) ?_
  refine wp_istore_n (pc := 1) 1 dX1_worstPair_1 rfl (by decide) rfl ?_
  refine wp_iconst (pc := 2) (0) dX1_worstPair_2 (by decide) ?_
  refine wp_istore_n (pc := 3) 2 dX1_worstPair_3 rfl (by decide) rfl ?_
  refine wp_iconst (pc := 4) (0) dX1_worstPair_4 (by decide) ?_
  refine wp_istore_n (pc := 5) 3 dX1_worstPair_5 rfl (by decide) rfl ?_
  refine wp_loop (fun i => [.ref t, .int (eN ((prU f i).map Prod.fst)), .int (eL (prU f i)), .int (nI i), .null, .null, .null]) (fun _ => (S0, F, I, J)) (fun _ => True) (f 68) (fun i hi hv nx => ?_) (fun hv => ?_) 0 (Nat.zero_le _) trivial
  · have hn := hw.n
    have hb := bn_1024 hw
    refine wp_iload_n (pc := 6) 3 dX1_worstPair_6 rfl rfl ?_
    refine wp_aload_n (pc := 7) 0 dX1_worstPair_7 rfl rfl ?_
    refine wq_getI (pc := 8) 41 0 dX1_worstPair_8 (tT ht) flX1_41 rfl ht.lt ?_
    refine wp_int hT.n ?_
    refine wp_icmp_ge (pc := 11) 99 dX1_worstPair_11 (by decide) (fun c_11 => ?_) (fun c_11 => ?_)
    · exact absurd c_11 (nI_ge (b := f 68) hi (by omega))
    · refine wp_iload_n (pc := 14) 3 dX1_worstPair_14 rfl rfl ?_
      refine wp_iconst (pc := 15) (1) dX1_worstPair_15 (by decide) ?_
      refine wp_iadd (pc := 16) dX1_worstPair_16 ?_
      refine wp_int (nI_1 _) ?_
      refine wp_istore (pc := 17) 4 dX1_worstPair_17 (by decide) rfl ?_
      have hpj : prU f i = prJ f i (prU f i) (i + 1) := (prJ_0 (Nat.le_refl _)).symm
      refine wp_to (lv' := [.ref t, .int (eN ((prJ f i (prU f i) (i + 1)).map Prod.fst)), .int (eL (prJ f i (prU f i) (i + 1))), .int (nI i), .int (nI (i + 1)), .null, .null]) ?_ (by rw [← hpj]; rfl) rfl rfl
      refine wp_loop (fun j => [.ref t, .int (eN ((prJ f i (prU f i) j).map Prod.fst)), .int (eL (prJ f i (prU f i) j)), .int (nI i), .int (nI j), .null, .null]) (fun _ => (S0, F, I, J)) (fun j => i < j) (f 68) (fun j hj hv nx => ?_) (fun hv => ?_) (i + 1) (by omega) (Nat.lt_succ_self i)
      · have hor := or_lt (n := 10) (p2_lt (show j < 10 by omega)) (p2_lt (show i < 10 by omega))
        have hdv := dif_1024 (2 ^ j ||| 2 ^ i) hb
        have hvv := val_le hw (dif (bn f) (2 ^ j ||| 2 ^ i))
        have hok := okP_J hw (okP_U hw (i := i) (by omega)) (i := i) (by omega) (k := j) (by omega)
        rcases ho : prJ f i (prU f i) j with _ | ⟨c, v⟩
        · refine wp_to (lv' := [.ref t, .int (-1), .int 0, .int (nI i), .int (nI j), .null, .null]) ?_ rfl rfl rfl
          refine wp_iload (pc := 19) 4 dX1_worstPair_19 rfl ?_
          refine wp_aload_n (pc := 21) 0 dX1_worstPair_21 rfl rfl ?_
          refine wq_getI (pc := 22) 41 0 dX1_worstPair_22 (tT ht) flX1_41 rfl ht.lt ?_
          refine wp_int hT.n ?_
          refine wp_icmp_ge (pc := 25) 93 dX1_worstPair_25 (by decide) (fun c_25 => ?_) (fun c_25 => ?_)
          · exact absurd c_25 (nI_ge (b := f 68) hj (by omega))
          · refine wp_iconst (pc := 28) (1) dX1_worstPair_28 (by decide) ?_
            refine wp_iload (pc := 29) 4 dX1_worstPair_29 rfl ?_
            refine wp_ishl (pc := 31) dX1_worstPair_31 ?_
            refine wp_int (bt_one (by omega)) ?_
            refine wp_iconst (pc := 32) (1) dX1_worstPair_32 (by decide) ?_
            refine wp_iload_n (pc := 33) 3 dX1_worstPair_33 rfl rfl ?_
            refine wp_ishl (pc := 34) dX1_worstPair_34 ?_
            refine wp_int (bt_one (by omega)) ?_
            refine wp_ior (pc := 35) dX1_worstPair_35 ?_
            refine wp_int (bt_or _ _) ?_
            refine wp_istore (pc := 36) 5 dX1_worstPair_36 (by decide) rfl ?_
            refine wp_iload (pc := 38) 5 dX1_worstPair_38 rfl ?_
            refine wp_aload_n (pc := 40) 0 dX1_worstPair_40 rfl rfl ?_
            refine wq_getI (pc := 41) 15 5 dX1_worstPair_41 (tT ht) flX1_15 rfl ht.lt ?_
            refine wp_int hT.been ?_
            refine wp_iconst (pc := 44) (-1) dX1_worstPair_44 (by decide) ?_
            refine wp_ixor (pc := 45) dX1_worstPair_45 ?_
            refine wp_iand (pc := 46) dX1_worstPair_46 ?_
            refine wp_int (bt_dif _ _) ?_
            refine wp_ifne (pc := 47) 87 dX1_worstPair_47 (by decide) (fun c_47 => ?_) (fun c_47 => ?_)
            · refine wp_incN (pc := 87) 4 dX1_worstPair_87 rfl (by decide) rfl ?_
              refine wp_goto (pc := 90) 19 dX1_worstPair_90 (by decide) ?_
              have nx := nx (by omega)
              rw [prJ_s hv, pr_no (fun z => c_47 (by rw [z]; rfl)), ho] at nx
              refine wp_weak ?_ nx
              exact And.intro (Or.inr rfl) (And.intro (Or.inr rfl) (And.intro (Or.inr rfl) (And.intro (Or.inr rfl) (And.intro (Or.inr rfl) (And.intro (Or.inl rfl) (And.intro (Or.inl rfl) (trivial)))))))
            · refine wp_aload_n (pc := 50) 0 dX1_worstPair_50 rfl rfl ?_
              refine wp_aload_n (pc := 51) 0 dX1_worstPair_51 rfl rfl ?_
              refine wq_getI (pc := 52) 15 5 dX1_worstPair_52 (tT ht) flX1_15 rfl ht.lt ?_
              refine wp_int hT.been ?_
              refine wp_iload (pc := 55) 5 dX1_worstPair_55 rfl ?_
              refine wp_iconst (pc := 57) (-1) dX1_worstPair_57 (by decide) ?_
              refine wp_ixor (pc := 58) dX1_worstPair_58 ?_
              refine wp_iand (pc := 59) dX1_worstPair_59 ?_
              refine wp_int (bt_dif _ _) ?_
              refine wc_V_I (pc := 60) dX1_worstPair_60 lkX1_30 (sm_Rc.o (ci := 4) (tT ht) (by decide) ht.lt) (by decide) (Nat.le_of_ble_eq_true rfl) ?_
              refine c_X5_valueIf ht hw hT (by omega) ?_
              refine wp_istore (pc := 63) 6 dX1_worstPair_63 (by decide) rfl ?_
              refine wp_iload_n (pc := 65) 1 dX1_worstPair_65 rfl rfl ?_
              refine wp_iconst (pc := 66) (-1) dX1_worstPair_66 (by decide) ?_
              refine wp_icmp_eq (pc := 67) 76 dX1_worstPair_67 (by decide) (fun c_67 => ?_) (fun c_67 => ?_)
              · refine wp_bipush (pc := 76) (10) dX1_worstPair_76 (by decide) ?_
                refine wp_iload_n (pc := 78) 3 dX1_worstPair_78 rfl rfl ?_
                refine wp_imul (pc := 79) dX1_worstPair_79 ?_
                refine wp_int (x := 10 * nI _) (pk_mul 10 _) ?_
                refine wp_iload (pc := 80) 4 dX1_worstPair_80 rfl ?_
                refine wp_iadd (pc := 82) dX1_worstPair_82 ?_
                refine wp_int (nI_add _ _) ?_
                refine wp_istore_n (pc := 83) 1 dX1_worstPair_83 rfl (by decide) rfl ?_
                refine wp_iload (pc := 84) 6 dX1_worstPair_84 rfl ?_
                refine wp_istore_n (pc := 86) 2 dX1_worstPair_86 rfl (by decide) rfl ?_
                refine wp_incN (pc := 87) 4 dX1_worstPair_87 rfl (by decide) rfl ?_
                refine wp_goto (pc := 90) 19 dX1_worstPair_90 (by decide) ?_
                have nx := nx (by omega)
                rw [prJ_s hv, ho, pr_new ((nIz (dif_1024 _ hor)).mp c_47)] at nx
                refine wp_weak ?_ nx
                exact And.intro (Or.inr rfl) (And.intro (Or.inr rfl) (And.intro (Or.inr rfl) (And.intro (Or.inr rfl) (And.intro (Or.inr rfl) (And.intro (Or.inl rfl) (And.intro (Or.inl rfl) (trivial)))))))
              · exact absurd rfl c_67
        · have hcv := hok c v ho
          refine wp_to (lv' := [.ref t, .int (nI c), .int (nI v), .int (nI i), .int (nI j), .null, .null]) ?_ rfl rfl rfl
          refine wp_iload (pc := 19) 4 dX1_worstPair_19 rfl ?_
          refine wp_aload_n (pc := 21) 0 dX1_worstPair_21 rfl rfl ?_
          refine wq_getI (pc := 22) 41 0 dX1_worstPair_22 (tT ht) flX1_41 rfl ht.lt ?_
          refine wp_int hT.n ?_
          refine wp_icmp_ge (pc := 25) 93 dX1_worstPair_25 (by decide) (fun c_25 => ?_) (fun c_25 => ?_)
          · exact absurd c_25 (nI_ge (b := f 68) hj (by omega))
          · refine wp_iconst (pc := 28) (1) dX1_worstPair_28 (by decide) ?_
            refine wp_iload (pc := 29) 4 dX1_worstPair_29 rfl ?_
            refine wp_ishl (pc := 31) dX1_worstPair_31 ?_
            refine wp_int (bt_one (by omega)) ?_
            refine wp_iconst (pc := 32) (1) dX1_worstPair_32 (by decide) ?_
            refine wp_iload_n (pc := 33) 3 dX1_worstPair_33 rfl rfl ?_
            refine wp_ishl (pc := 34) dX1_worstPair_34 ?_
            refine wp_int (bt_one (by omega)) ?_
            refine wp_ior (pc := 35) dX1_worstPair_35 ?_
            refine wp_int (bt_or _ _) ?_
            refine wp_istore (pc := 36) 5 dX1_worstPair_36 (by decide) rfl ?_
            refine wp_iload (pc := 38) 5 dX1_worstPair_38 rfl ?_
            refine wp_aload_n (pc := 40) 0 dX1_worstPair_40 rfl rfl ?_
            refine wq_getI (pc := 41) 15 5 dX1_worstPair_41 (tT ht) flX1_15 rfl ht.lt ?_
            refine wp_int hT.been ?_
            refine wp_iconst (pc := 44) (-1) dX1_worstPair_44 (by decide) ?_
            refine wp_ixor (pc := 45) dX1_worstPair_45 ?_
            refine wp_iand (pc := 46) dX1_worstPair_46 ?_
            refine wp_int (bt_dif _ _) ?_
            refine wp_ifne (pc := 47) 87 dX1_worstPair_47 (by decide) (fun c_47 => ?_) (fun c_47 => ?_)
            · refine wp_incN (pc := 87) 4 dX1_worstPair_87 rfl (by decide) rfl ?_
              refine wp_goto (pc := 90) 19 dX1_worstPair_90 (by decide) ?_
              have nx := nx (by omega)
              rw [prJ_s hv, pr_no (fun z => c_47 (by rw [z]; rfl)), ho] at nx
              refine wp_weak ?_ nx
              exact And.intro (Or.inr rfl) (And.intro (Or.inr rfl) (And.intro (Or.inr rfl) (And.intro (Or.inr rfl) (And.intro (Or.inr rfl) (And.intro (Or.inl rfl) (And.intro (Or.inl rfl) (trivial)))))))
            · refine wp_aload_n (pc := 50) 0 dX1_worstPair_50 rfl rfl ?_
              refine wp_aload_n (pc := 51) 0 dX1_worstPair_51 rfl rfl ?_
              refine wq_getI (pc := 52) 15 5 dX1_worstPair_52 (tT ht) flX1_15 rfl ht.lt ?_
              refine wp_int hT.been ?_
              refine wp_iload (pc := 55) 5 dX1_worstPair_55 rfl ?_
              refine wp_iconst (pc := 57) (-1) dX1_worstPair_57 (by decide) ?_
              refine wp_ixor (pc := 58) dX1_worstPair_58 ?_
              refine wp_iand (pc := 59) dX1_worstPair_59 ?_
              refine wp_int (bt_dif _ _) ?_
              refine wc_V_I (pc := 60) dX1_worstPair_60 lkX1_30 (sm_Rc.o (ci := 4) (tT ht) (by decide) ht.lt) (by decide) (Nat.le_of_ble_eq_true rfl) ?_
              refine c_X5_valueIf ht hw hT (by omega) ?_
              refine wp_istore (pc := 63) 6 dX1_worstPair_63 (by decide) rfl ?_
              refine wp_iload_n (pc := 65) 1 dX1_worstPair_65 rfl rfl ?_
              refine wp_iconst (pc := 66) (-1) dX1_worstPair_66 (by decide) ?_
              refine wp_icmp_eq (pc := 67) 76 dX1_worstPair_67 (by decide) (fun c_67 => ?_) (fun c_67 => ?_)
              · exact absurd c_67 (m1_ne (by omega))
              · refine wp_iload (pc := 70) 6 dX1_worstPair_70 rfl ?_
                refine wp_iload_n (pc := 72) 2 dX1_worstPair_72 rfl rfl ?_
                refine wp_icmp_ge (pc := 73) 87 dX1_worstPair_73 (by decide) (fun c_73 => ?_) (fun c_73 => ?_)
                · refine wp_incN (pc := 87) 4 dX1_worstPair_87 rfl (by decide) rfl ?_
                  refine wp_goto (pc := 90) 19 dX1_worstPair_90 (by decide) ?_
                  have nx := nx (by omega)
                  rw [prJ_s hv, ho, pr_st (f := f) (q := (c, v)) ((nIz (dif_1024 _ hor)).mp c_47) (fun z => nI_ge (show val f (dif (bn f) (2 ^ j ||| 2 ^ i)) < v from z) (by omega) c_73)] at nx
                  refine wp_weak ?_ nx
                  exact And.intro (Or.inr rfl) (And.intro (Or.inr rfl) (And.intro (Or.inr rfl) (And.intro (Or.inr rfl) (And.intro (Or.inr rfl) (And.intro (Or.inl rfl) (And.intro (Or.inl rfl) (trivial)))))))
                · refine wp_bipush (pc := 76) (10) dX1_worstPair_76 (by decide) ?_
                  refine wp_iload_n (pc := 78) 3 dX1_worstPair_78 rfl rfl ?_
                  refine wp_imul (pc := 79) dX1_worstPair_79 ?_
                  refine wp_int (x := 10 * nI _) (pk_mul 10 _) ?_
                  refine wp_iload (pc := 80) 4 dX1_worstPair_80 rfl ?_
                  refine wp_iadd (pc := 82) dX1_worstPair_82 ?_
                  refine wp_int (nI_add _ _) ?_
                  refine wp_istore_n (pc := 83) 1 dX1_worstPair_83 rfl (by decide) rfl ?_
                  refine wp_iload (pc := 84) 6 dX1_worstPair_84 rfl ?_
                  refine wp_istore_n (pc := 86) 2 dX1_worstPair_86 rfl (by decide) rfl ?_
                  refine wp_incN (pc := 87) 4 dX1_worstPair_87 rfl (by decide) rfl ?_
                  refine wp_goto (pc := 90) 19 dX1_worstPair_90 (by decide) ?_
                  have nx := nx (by omega)
                  rw [prJ_s hv, ho, pr_up (f := f) (q := (c, v)) ((nIz (dif_1024 _ hor)).mp c_47) (show val f (dif (bn f) (2 ^ j ||| 2 ^ i)) < v from Nat.lt_of_not_le fun z => c_73 (nI_le z (by omega)))] at nx
                  refine wp_weak ?_ nx
                  exact And.intro (Or.inr rfl) (And.intro (Or.inr rfl) (And.intro (Or.inr rfl) (And.intro (Or.inr rfl) (And.intro (Or.inr rfl) (And.intro (Or.inl rfl) (And.intro (Or.inl rfl) (trivial)))))))
      · refine wp_iload (pc := 19) 4 dX1_worstPair_19 rfl ?_
        refine wp_aload_n (pc := 21) 0 dX1_worstPair_21 rfl rfl ?_
        refine wq_getI (pc := 22) 41 0 dX1_worstPair_22 (tT ht) flX1_41 rfl ht.lt ?_
        refine wp_int hT.n ?_
        refine wp_icmp_ge (pc := 25) 93 dX1_worstPair_25 (by decide) (fun c_25 => ?_) (fun c_25 => ?_)
        · refine wp_incN (pc := 93) 3 dX1_worstPair_93 rfl (by decide) rfl ?_
          refine wp_goto (pc := 96) 6 dX1_worstPair_96 (by decide) ?_
          have nx := nx trivial
          refine wp_weak ?_ nx
          exact And.intro (Or.inr rfl) (And.intro (Or.inr rfl) (And.intro (Or.inr rfl) (And.intro (Or.inr rfl) (And.intro (Or.inl rfl) (And.intro (Or.inl rfl) (And.intro (Or.inl rfl) (trivial)))))))
        · exact absurd (Int32.le_refl _) c_25
  · refine wp_iload_n (pc := 6) 3 dX1_worstPair_6 rfl rfl ?_
    refine wp_aload_n (pc := 7) 0 dX1_worstPair_7 rfl rfl ?_
    refine wq_getI (pc := 8) 41 0 dX1_worstPair_8 (tT ht) flX1_41 rfl ht.lt ?_
    refine wp_int hT.n ?_
    refine wp_icmp_ge (pc := 11) 99 dX1_worstPair_11 (by decide) (fun c_11 => ?_) (fun c_11 => ?_)
    · refine wp_iload_n (pc := 99) 1 dX1_worstPair_99 rfl rfl ?_
      refine wp_iretI (pc := 100) dX1_worstPair_100 rfl ?_
      exact k
    · exact absurd (Int32.le_refl _) c_11
