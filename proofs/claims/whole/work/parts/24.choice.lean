/-! ===== which things to ring ===== -/
theorem c_X1_isFewer_n {d : Nat} {h : sm_H} {Q : Option Value → sm_H → Prop} {a : Nat} (ha : a < 1024) (k : Q (some (.int (b2 true))) h) : Wp mX1_isFewer (d + 1) 0 0 0 (sm_ini [.int (nI a), .int (-1)] 2) [] h Q := by
  show Wp _ _ _ _ _ [.int (nI a), .int (-1)] _ _ _
  refine wp_iload_n (pc := 0) 1 dX1_isFewer_0 rfl rfl ?_
  refine wp_iconst (pc := 1) (-1) dX1_isFewer_1 (by decide) ?_
  refine wp_icmp_eq (pc := 2) 16 dX1_isFewer_2 (by decide) (fun c_2 => ?_) (fun c_2 => ?_)
  · refine wp_iconst (pc := 16) (1) dX1_isFewer_16 (by decide) ?_
    refine wp_goto (pc := 17) 21 dX1_isFewer_17 (by decide) ?_
    refine wp_iret (pc := 21) dX1_isFewer_21 ⟨_, rfl, by decide⟩ ?_
    exact k
  · exact absurd rfl c_2
theorem c_X1_isFewer_s {d : Nat} {h : sm_H} {Q : Option Value → sm_H → Prop} {a b : Nat} (ha : a < 1024) (hb : b < 1024) (k : Q (some (.int (b2 (decide (pop a < pop b))))) h) : Wp mX1_isFewer (d + 1) 0 0 0 (sm_ini [.int (nI a), .int (nI b)] 2) [] h Q := by
  show Wp _ _ _ _ _ [.int (nI a), .int (nI b)] _ _ _
  have hpa := pop_le a
  have hpb := pop_le b
  refine wp_iload_n (pc := 0) 1 dX1_isFewer_0 rfl rfl ?_
  refine wp_iconst (pc := 1) (-1) dX1_isFewer_1 (by decide) ?_
  refine wp_icmp_eq (pc := 2) 16 dX1_isFewer_2 (by decide) (fun c_2 => ?_) (fun c_2 => ?_)
  · exact absurd c_2 (m1_ne (by omega))
  · refine wp_iload_n (pc := 5) 0 dX1_isFewer_5 rfl rfl ?_
    refine wc_S_I (pc := 6) dX1_isFewer_6 lkX1_9 (by decide) (Nat.le_of_ble_eq_true rfl) ?_
    refine c_J6_bitCount_0f7a4 ?_
    refine wp_int (bc_pop ha) ?_
    refine wp_iload_n (pc := 9) 1 dX1_isFewer_9 rfl rfl ?_
    refine wc_S_I (pc := 10) dX1_isFewer_10 lkX1_9 (by decide) (Nat.le_of_ble_eq_true rfl) ?_
    refine c_J6_bitCount_0f7a4 ?_
    refine wp_int (bc_pop hb) ?_
    refine wp_icmp_ge (pc := 13) 20 dX1_isFewer_13 (by decide) (fun c_13 => ?_) (fun c_13 => ?_)
    · refine wp_iconst (pc := 20) (0) dX1_isFewer_20 (by decide) ?_
      refine wp_iret (pc := 21) dX1_isFewer_21 ⟨_, rfl, by decide⟩ ?_
      rw [decide_eq_false (fun z => nI_ge z (by omega) c_13)] at k; exact k
    · refine wp_iconst (pc := 16) (1) dX1_isFewer_16 (by decide) ?_
      refine wp_goto (pc := 17) 21 dX1_isFewer_17 (by decide) ?_
      refine wp_iret (pc := 21) dX1_isFewer_21 ⟨_, rfl, by decide⟩ ?_
      rw [decide_eq_true (Nat.lt_of_not_le fun z => c_13 (nI_le z (by omega)))] at k; exact k
theorem c_X1_isFewer {d : Nat} {h : sm_H} {Q : Option Value → sm_H → Prop} {a : Nat} {o : Option Nat} (ha : a < 1024) (ho : ∀ b, o = some b → b < 1024) (k : Q (some (.int (b2 (isf a o)))) h) : Wp mX1_isFewer (d + 1) 0 0 0 (sm_ini [.int (nI a), .int (eN o)] 2) [] h Q := by
  cases o with
  | none => exact c_X1_isFewer_n ha k
  | some b => exact c_X1_isFewer_s ha (ho b rfl) k
theorem gt_abs {a b : Nat} (h : a < b + 1) (hb : b < 2 ^ 31) : ¬ nI b < nI a := nI_nlt (by omega) hb
theorem gt_fin {b : Nat} (hb : b + 1 < 2 ^ 31) : nI b < nI (b + 1) := nI_lt (by omega) hb
def lvP (f : rw_) (s k : Nat) : Bool := decide (dif k (bn f) = 0) && decide (sta f (dif (bn f) k) = s)
def udP (f : rw_) (v k : Nat) : Bool := decide (dif k (bn f) = 0) && decide (val f (dif (bn f) k) ≤ v)
theorem lst_bn {f : rw_} (hw : WF f) {p : Nat → Bool} (hp : ∀ i, p i = true → dif i (bn f) = 0) : lstU p (2 ^ f 68) = lstU p (bn f + 1) := by
  have h := bn_lt hw
  have := lstU_end (p := p) (k := bn f + 1) (fun i hi => by
    cases e : p i
    · rfl
    · have := sub_le (hp i e); omega) (2 ^ f 68 - (bn f + 1))
  rw [show bn f + 1 + (2 ^ f 68 - (bn f + 1)) = 2 ^ f 68 by omega] at this
  exact this
theorem lst_t {p : Nat → Bool} {k : Nat} (h1 : p k = true) (h2 : isf k (lstU p k) = true) : lstU p (k + 1) = some k := by rw [lstU, if_pos ⟨h1, h2⟩]
theorem lst_f {p : Nat → Bool} {k : Nat} (h1 : p k = false ∨ isf k (lstU p k) = false) : lstU p (k + 1) = lstU p k := by
  rw [lstU, if_neg]
  rintro ⟨a, b⟩
  rcases h1 with h | h
  · rw [h] at a; cases a
  · rw [h] at b; cases b
theorem nIz {x : Nat} (h : x < 1024) : nI x = 0 ↔ x = 0 := nI0 (by omega)
theorem c_X1_leastLeaving {d : Nat} {F I : Nat → Nat → Int32} {J : Nat → Nat → Int64} {Q : Option Value → sm_H → Prop} {t : Nat} (ht : isT t) {f : rw_} (hw : WF f) (hT : Tw t f F I) {s : Nat} (hs : s < 1024) (k : Q (some (.int (eN (lstU (lvP f s) (2 ^ f 68))))) (S0, F, I, J)) : Wp mX1_leastLeaving (d + 2) 0 0 0 (sm_ini [.ref t, .int (nI s)] 4) [] (S0, F, I, J) Q := by
  show Wp _ _ _ _ _ [.ref t, .int (nI s), .null, .null] _ _ _
  refine wp_iconst (pc := 0) (-1) dX1_leastLeaving_0 (by decide) ?_
  refine wp_istore_n (pc := 1) 2 dX1_leastLeaving_1 rfl (by decide) rfl ?_
  refine wp_iconst (pc := 2) (0) dX1_leastLeaving_2 (by decide) ?_
  refine wp_istore_n (pc := 3) 3 dX1_leastLeaving_3 rfl (by decide) rfl ?_
  rw [lst_bn hw (fun i hi => by simp [lvP] at hi; exact hi.1)] at k
  refine wp_loop (fun i => [.ref t, .int (nI s), .int (eN (lstU (lvP f s) i)), .int (nI i)]) (fun i => (S0, F, I, J)) (fun i => True) (bn f + 1) (fun i hi hv nx => ?_) (fun hv => ?_) 0 (by omega) trivial
  · have hb := bn_1024 hw
    have hdi := dif_1024 i hb
    refine wp_iload_n (pc := 4) 3 dX1_leastLeaving_4 rfl rfl ?_
    refine wp_aload_n (pc := 5) 0 dX1_leastLeaving_5 rfl rfl ?_
    refine wq_getI (pc := 6) 15 5 dX1_leastLeaving_6 (tT ht) flX1_15 rfl ht.lt ?_
    refine wp_int hT.been ?_
    refine wp_icmp_gt (pc := 9) 55 dX1_leastLeaving_9 (by decide) (fun c_9 => ?_) (fun c_9 => ?_)
    · exact absurd c_9 (gt_abs hi (by omega))
    · refine wp_iload_n (pc := 12) 3 dX1_leastLeaving_12 rfl rfl ?_
      refine wp_aload_n (pc := 13) 0 dX1_leastLeaving_13 rfl rfl ?_
      refine wq_getI (pc := 14) 15 5 dX1_leastLeaving_14 (tT ht) flX1_15 rfl ht.lt ?_
      refine wp_int hT.been ?_
      refine wp_iconst (pc := 17) (-1) dX1_leastLeaving_17 (by decide) ?_
      refine wp_ixor (pc := 18) dX1_leastLeaving_18 ?_
      refine wp_iand (pc := 19) dX1_leastLeaving_19 ?_
      refine wp_int (bt_dif _ _) ?_
      refine wp_ifne (pc := 20) 49 dX1_leastLeaving_20 (by decide) (fun c_20 => ?_) (fun c_20 => ?_)
      · refine wp_incN (pc := 49) 3 dX1_leastLeaving_49 rfl (by decide) rfl ?_
        refine wp_goto (pc := 52) 4 dX1_leastLeaving_52 (by decide) ?_
        have nx := nx trivial
        rw [lst_f (Or.inl (by simp [lvP, show ¬ dif i (bn f) = 0 from fun z => c_20 (by rw [z]; rfl)]))] at nx
        exact nx
      · refine wp_iload_n (pc := 23) 3 dX1_leastLeaving_23 rfl rfl ?_
        refine wp_iload_n (pc := 24) 2 dX1_leastLeaving_24 rfl rfl ?_
        refine wc_S_II (pc := 25) dX1_leastLeaving_25 lkX1_21 (by decide) (Nat.le_of_ble_eq_true rfl) ?_
        refine c_X1_isFewer (by omega) (fun b hb => by have := lstU_lt hb; omega) ?_
        refine wp_ifeqB (pc := 28) 49 dX1_leastLeaving_28 (by decide) (fun c_28 => ?_) (fun c_28 => ?_)
        · refine wp_incN (pc := 49) 3 dX1_leastLeaving_49 rfl (by decide) rfl ?_
          refine wp_goto (pc := 52) 4 dX1_leastLeaving_52 (by decide) ?_
          have nx := nx trivial
          rw [lst_f (Or.inr c_28)] at nx
          exact nx
        · refine wp_aload_n (pc := 31) 0 dX1_leastLeaving_31 rfl rfl ?_
          refine wp_aload_n (pc := 32) 0 dX1_leastLeaving_32 rfl rfl ?_
          refine wq_getI (pc := 33) 15 5 dX1_leastLeaving_33 (tT ht) flX1_15 rfl ht.lt ?_
          refine wp_int hT.been ?_
          refine wp_iload_n (pc := 36) 3 dX1_leastLeaving_36 rfl rfl ?_
          refine wp_iconst (pc := 37) (-1) dX1_leastLeaving_37 (by decide) ?_
          refine wp_ixor (pc := 38) dX1_leastLeaving_38 ?_
          refine wp_iand (pc := 39) dX1_leastLeaving_39 ?_
          refine wp_int (bt_dif _ _) ?_
          refine wc_V_I (pc := 40) dX1_leastLeaving_40 lkX1_27 (sm_Rc.o (ci := 4) (tT ht) (by decide) ht.lt) (by decide) (Nat.le_of_ble_eq_true rfl) ?_
          refine c_X5_standing ht hw hT (by omega) ?_
          refine wp_iload_n (pc := 43) 1 dX1_leastLeaving_43 rfl rfl ?_
          have hs1 := sta_1024 f (dif (bn f) i)
          refine wp_icmp_ne (pc := 44) 49 dX1_leastLeaving_44 (by decide) (fun c_44 => ?_) (fun c_44 => ?_)
          · refine wp_incN (pc := 49) 3 dX1_leastLeaving_49 rfl (by decide) rfl ?_
            refine wp_goto (pc := 52) 4 dX1_leastLeaving_52 (by decide) ?_
            have nx := nx trivial
            rw [lst_f (Or.inl (by simp [lvP, show ¬ sta f (dif (bn f) i) = s from fun z => c_44 (by rw [z])]))] at nx
            exact nx
          · refine wp_iload_n (pc := 47) 3 dX1_leastLeaving_47 rfl rfl ?_
            refine wp_istore_n (pc := 48) 2 dX1_leastLeaving_48 rfl (by decide) rfl ?_
            refine wp_incN (pc := 49) 3 dX1_leastLeaving_49 rfl (by decide) rfl ?_
            refine wp_goto (pc := 52) 4 dX1_leastLeaving_52 (by decide) ?_
            have nx := nx trivial
            rw [lst_t (by simp [lvP, (nIz (dif_1024 _ (by omega))).mp c_20, (nI_eq (by omega) (by omega)).mp c_44]) c_28] at nx
            exact nx
  · have hb := bn_1024 hw
    refine wp_iload_n (pc := 4) 3 dX1_leastLeaving_4 rfl rfl ?_
    refine wp_aload_n (pc := 5) 0 dX1_leastLeaving_5 rfl rfl ?_
    refine wq_getI (pc := 6) 15 5 dX1_leastLeaving_6 (tT ht) flX1_15 rfl ht.lt ?_
    refine wp_int hT.been ?_
    refine wp_icmp_gt (pc := 9) 55 dX1_leastLeaving_9 (by decide) (fun c_9 => ?_) (fun c_9 => ?_)
    · refine wp_iload_n (pc := 55) 2 dX1_leastLeaving_55 rfl rfl ?_
      refine wp_iretI (pc := 56) dX1_leastLeaving_56 rfl ?_
      exact k
    · exact absurd (gt_fin (by omega)) c_9
theorem c_X1_leastUnder {d : Nat} {F I : Nat → Nat → Int32} {J : Nat → Nat → Int64} {Q : Option Value → sm_H → Prop} {t : Nat} (ht : isT t) {f : rw_} (hw : WF f) (hT : Tw t f F I) {v : Nat} (hv : v ≤ 999) (k : Q (some (.int (eN (lstU (udP f v) (2 ^ f 68))))) (S0, F, I, J)) : Wp mX1_leastUnder (d + 3) 0 0 0 (sm_ini [.ref t, .int (nI v)] 4) [] (S0, F, I, J) Q := by
  show Wp _ _ _ _ _ [.ref t, .int (nI v), .null, .null] _ _ _
  refine wp_iconst (pc := 0) (-1) dX1_leastUnder_0 (by decide) ?_
  refine wp_istore_n (pc := 1) 2 dX1_leastUnder_1 rfl (by decide) rfl ?_
  refine wp_iconst (pc := 2) (0) dX1_leastUnder_2 (by decide) ?_
  refine wp_istore_n (pc := 3) 3 dX1_leastUnder_3 rfl (by decide) rfl ?_
  rw [lst_bn hw (fun i hi => by simp [udP] at hi; exact hi.1)] at k
  refine wp_loop (fun i => [.ref t, .int (nI v), .int (eN (lstU (udP f v) i)), .int (nI i)]) (fun i => (S0, F, I, J)) (fun i => True) (bn f + 1) (fun i hi hv nx => ?_) (fun hv => ?_) 0 (by omega) trivial
  · have hb := bn_1024 hw
    have hdi := dif_1024 i hb
    refine wp_iload_n (pc := 4) 3 dX1_leastUnder_4 rfl rfl ?_
    refine wp_aload_n (pc := 5) 0 dX1_leastUnder_5 rfl rfl ?_
    refine wq_getI (pc := 6) 15 5 dX1_leastUnder_6 (tT ht) flX1_15 rfl ht.lt ?_
    refine wp_int hT.been ?_
    refine wp_icmp_gt (pc := 9) 55 dX1_leastUnder_9 (by decide) (fun c_9 => ?_) (fun c_9 => ?_)
    · exact absurd c_9 (gt_abs hi (by omega))
    · refine wp_iload_n (pc := 12) 3 dX1_leastUnder_12 rfl rfl ?_
      refine wp_aload_n (pc := 13) 0 dX1_leastUnder_13 rfl rfl ?_
      refine wq_getI (pc := 14) 15 5 dX1_leastUnder_14 (tT ht) flX1_15 rfl ht.lt ?_
      refine wp_int hT.been ?_
      refine wp_iconst (pc := 17) (-1) dX1_leastUnder_17 (by decide) ?_
      refine wp_ixor (pc := 18) dX1_leastUnder_18 ?_
      refine wp_iand (pc := 19) dX1_leastUnder_19 ?_
      refine wp_int (bt_dif _ _) ?_
      refine wp_ifne (pc := 20) 49 dX1_leastUnder_20 (by decide) (fun c_20 => ?_) (fun c_20 => ?_)
      · refine wp_incN (pc := 49) 3 dX1_leastUnder_49 rfl (by decide) rfl ?_
        refine wp_goto (pc := 52) 4 dX1_leastUnder_52 (by decide) ?_
        have nx := nx trivial
        rw [lst_f (Or.inl (by simp [udP, show ¬ dif i (bn f) = 0 from fun z => c_20 (by rw [z]; rfl)]))] at nx
        exact nx
      · refine wp_iload_n (pc := 23) 3 dX1_leastUnder_23 rfl rfl ?_
        refine wp_iload_n (pc := 24) 2 dX1_leastUnder_24 rfl rfl ?_
        refine wc_S_II (pc := 25) dX1_leastUnder_25 lkX1_21 (by decide) (Nat.le_of_ble_eq_true rfl) ?_
        refine c_X1_isFewer (by omega) (fun b hb => by have := lstU_lt hb; omega) ?_
        refine wp_ifeqB (pc := 28) 49 dX1_leastUnder_28 (by decide) (fun c_28 => ?_) (fun c_28 => ?_)
        · refine wp_incN (pc := 49) 3 dX1_leastUnder_49 rfl (by decide) rfl ?_
          refine wp_goto (pc := 52) 4 dX1_leastUnder_52 (by decide) ?_
          have nx := nx trivial
          rw [lst_f (Or.inr c_28)] at nx
          exact nx
        · refine wp_aload_n (pc := 31) 0 dX1_leastUnder_31 rfl rfl ?_
          refine wp_aload_n (pc := 32) 0 dX1_leastUnder_32 rfl rfl ?_
          refine wq_getI (pc := 33) 15 5 dX1_leastUnder_33 (tT ht) flX1_15 rfl ht.lt ?_
          refine wp_int hT.been ?_
          refine wp_iload_n (pc := 36) 3 dX1_leastUnder_36 rfl rfl ?_
          refine wp_iconst (pc := 37) (-1) dX1_leastUnder_37 (by decide) ?_
          refine wp_ixor (pc := 38) dX1_leastUnder_38 ?_
          refine wp_iand (pc := 39) dX1_leastUnder_39 ?_
          refine wp_int (bt_dif _ _) ?_
          refine wc_V_I (pc := 40) dX1_leastUnder_40 lkX1_30 (sm_Rc.o (ci := 4) (tT ht) (by decide) ht.lt) (by decide) (Nat.le_of_ble_eq_true rfl) ?_
          refine c_X5_valueIf ht hw hT (by omega) ?_
          refine wp_iload_n (pc := 43) 1 dX1_leastUnder_43 rfl rfl ?_
          have hs1 := val_le hw (dif (bn f) i)
          refine wp_icmp_gt (pc := 44) 49 dX1_leastUnder_44 (by decide) (fun c_44 => ?_) (fun c_44 => ?_)
          · refine wp_incN (pc := 49) 3 dX1_leastUnder_49 rfl (by decide) rfl ?_
            refine wp_goto (pc := 52) 4 dX1_leastUnder_52 (by decide) ?_
            have nx := nx trivial
            rw [lst_f (Or.inl (by simp [udP, show ¬ val f (dif (bn f) i) ≤ v from fun z => nI_nlt z (by omega) c_44]))] at nx
            exact nx
          · refine wp_iload_n (pc := 47) 3 dX1_leastUnder_47 rfl rfl ?_
            refine wp_istore_n (pc := 48) 2 dX1_leastUnder_48 rfl (by decide) rfl ?_
            refine wp_incN (pc := 49) 3 dX1_leastUnder_49 rfl (by decide) rfl ?_
            refine wp_goto (pc := 52) 4 dX1_leastUnder_52 (by decide) ?_
            have nx := nx trivial
            rw [lst_t (by simp [udP, (nIz (dif_1024 _ (by omega))).mp c_20, show val f (dif (bn f) i) ≤ v from Nat.le_of_not_lt fun z => c_44 (nI_lt z (by omega))]) c_28] at nx
            exact nx
  · have hb := bn_1024 hw
    refine wp_iload_n (pc := 4) 3 dX1_leastUnder_4 rfl rfl ?_
    refine wp_aload_n (pc := 5) 0 dX1_leastUnder_5 rfl rfl ?_
    refine wq_getI (pc := 6) 15 5 dX1_leastUnder_6 (tT ht) flX1_15 rfl ht.lt ?_
    refine wp_int hT.been ?_
    refine wp_icmp_gt (pc := 9) 55 dX1_leastUnder_9 (by decide) (fun c_9 => ?_) (fun c_9 => ?_)
    · refine wp_iload_n (pc := 55) 2 dX1_leastUnder_55 rfl rfl ?_
      refine wp_iretI (pc := 56) dX1_leastUnder_56 rfl ?_
      exact k
    · exact absurd (gt_fin (by omega)) c_9
def rmP (f : rw_) (s k : Nat) : Bool := decide (k &&& bn f = 0) && decide (sta f (bn f ||| k) = sta f (bn f) ||| s)
theorem c_X1_countLeaving {d : Nat} {F I : Nat → Nat → Int32} {J : Nat → Nat → Int64} {Q : Option Value → sm_H → Prop} {t : Nat} (ht : isT t) {f : rw_} (hw : WF f) (hT : Tw t f F I) {s : Nat} (hs : s < 1024) (k : Q (some (.int (nI (cnt (fun b => decide (sta f b = s)) (2 ^ f 68))))) (S0, F, I, J)) : Wp mX1_countLeaving (d + 2) 0 0 0 (sm_ini [.ref t, .int (nI s)] 4) [] (S0, F, I, J) Q := by
  show Wp _ _ _ _ _ [.ref t, .int (nI s), .null, .null] _ _ _
  refine wp_iconst (pc := 0) (0) dX1_countLeaving_0 (by decide) ?_
  refine wp_istore_n (pc := 1) 2 dX1_countLeaving_1 rfl (by decide) rfl ?_
  refine wp_iconst (pc := 2) (0) dX1_countLeaving_2 (by decide) ?_
  refine wp_istore_n (pc := 3) 3 dX1_countLeaving_3 rfl (by decide) rfl ?_
  refine wp_loop (fun i => [.ref t, .int (nI s), .int (nI (cnt (fun b => decide (sta f b = s)) i)), .int (nI i)]) (fun i => (S0, F, I, J)) (fun i => True) (2 ^ f 68) (fun i hi hv nx => ?_) (fun hv => ?_) 0 (Nat.zero_le _) trivial
  · have hp2 := p2n hw
    have hs1 := sta_1024 f i
    refine wp_iload_n (pc := 4) 3 dX1_countLeaving_4 rfl rfl ?_
    refine wp_aload_n (pc := 5) 0 dX1_countLeaving_5 rfl rfl ?_
    refine wc_V_ (pc := 6) dX1_countLeaving_6 lkX1_33 (sm_Rc.o (ci := 4) (tT ht) (by decide) ht.lt) (by decide) (Nat.le_of_ble_eq_true rfl) ?_
    refine c_X5_everyThing ht hw hT ?_
    refine wp_icmp_gt (pc := 9) 30 dX1_countLeaving_9 (by decide) (fun c_9 => ?_) (fun c_9 => ?_)
    · exact absurd c_9 (nI_nlt (by omega) (by omega))
    · refine wp_aload_n (pc := 12) 0 dX1_countLeaving_12 rfl rfl ?_
      refine wp_iload_n (pc := 13) 3 dX1_countLeaving_13 rfl rfl ?_
      refine wc_V_I (pc := 14) dX1_countLeaving_14 lkX1_27 (sm_Rc.o (ci := 4) (tT ht) (by decide) ht.lt) (by decide) (Nat.le_of_ble_eq_true rfl) ?_
      refine c_X5_standing ht hw hT (by omega) ?_
      refine wp_iload_n (pc := 17) 1 dX1_countLeaving_17 rfl rfl ?_
      refine wp_icmp_ne (pc := 18) 24 dX1_countLeaving_18 (by decide) (fun c_18 => ?_) (fun c_18 => ?_)
      · refine wp_incN (pc := 24) 3 dX1_countLeaving_24 rfl (by decide) rfl ?_
        refine wp_goto (pc := 27) 4 dX1_countLeaving_27 (by decide) ?_
        have nx := nx trivial
        rw [cnt_f (p := (fun b => decide (sta f b = s))) (decide_eq_false (fun z => c_18 (by rw [z])))] at nx
        exact nx
      · refine wp_incN (pc := 21) 2 dX1_countLeaving_21 rfl (by decide) rfl ?_
        refine wp_incN (pc := 24) 3 dX1_countLeaving_24 rfl (by decide) rfl ?_
        refine wp_goto (pc := 27) 4 dX1_countLeaving_27 (by decide) ?_
        have nx := nx trivial
        rw [cnt_t (p := (fun b => decide (sta f b = s))) (decide_eq_true ((nI_eq (by omega) (by omega)).mp c_18))] at nx
        exact nx
  · have hp2 := p2n hw
    refine wp_iload_n (pc := 4) 3 dX1_countLeaving_4 rfl rfl ?_
    refine wp_aload_n (pc := 5) 0 dX1_countLeaving_5 rfl rfl ?_
    refine wc_V_ (pc := 6) dX1_countLeaving_6 lkX1_33 (sm_Rc.o (ci := 4) (tT ht) (by decide) ht.lt) (by decide) (Nat.le_of_ble_eq_true rfl) ?_
    refine c_X5_everyThing ht hw hT ?_
    refine wp_icmp_gt (pc := 9) 30 dX1_countLeaving_9 (by decide) (fun c_9 => ?_) (fun c_9 => ?_)
    · refine wp_iload_n (pc := 30) 2 dX1_countLeaving_30 rfl rfl ?_
      refine wp_iretI (pc := 31) dX1_countLeaving_31 rfl ?_
      exact k
    · exact absurd (nI_lt (show 2 ^ f 68 - 1 < 2 ^ f 68 by have := Nat.two_pow_pos (f 68); omega) (by omega)) c_9
theorem c_X1_isRemembered {d : Nat} {F I : Nat → Nat → Int32} {J : Nat → Nat → Int64} {Q : Option Value → sm_H → Prop} {t : Nat} (ht : isT t) {f : rw_} (hw : WF f) (hT : Tw t f F I) {s b : Nat} (hs : s < 1024) (hb : b < 1024) (k : Q (some (.int (b2 (rmP f s b)))) (S0, F, I, J)) : Wp mX1_isRemembered (d + 2) 0 0 0 (sm_ini [.ref t, .int (nI s), .int (nI b)] 3) [] (S0, F, I, J) Q := by
  show Wp _ _ _ _ _ [.ref t, .int (nI s), .int (nI b)] _ _ _
  have hbn := bn_1024 hw
  have hor := or_lt (n := 10) hbn hb
  have hs1 := sta_1024 f (bn f ||| b)
  have hs2 := or_lt (n := 10) (sta_1024 f (bn f)) hs
  refine wp_iload_n (pc := 0) 2 dX1_isRemembered_0 rfl rfl ?_
  refine wp_aload_n (pc := 1) 0 dX1_isRemembered_1 rfl rfl ?_
  refine wq_getI (pc := 2) 15 5 dX1_isRemembered_2 (tT ht) flX1_15 rfl ht.lt ?_
  refine wp_int hT.been ?_
  refine wp_iand (pc := 5) dX1_isRemembered_5 ?_
  refine wp_int (bt_and _ _) ?_
  refine wp_ifne (pc := 6) 36 dX1_isRemembered_6 (by decide) (fun c_6 => ?_) (fun c_6 => ?_)
  · refine wp_iconst (pc := 36) (0) dX1_isRemembered_36 (by decide) ?_
    refine wp_iret (pc := 37) dX1_isRemembered_37 ⟨_, rfl, by decide⟩ ?_
    rw [show rmP f s b = false by simp [rmP, show ¬ b &&& bn f = 0 from fun z => c_6 (by rw [z]; rfl)]] at k; exact k
  · refine wp_aload_n (pc := 9) 0 dX1_isRemembered_9 rfl rfl ?_
    refine wp_aload_n (pc := 10) 0 dX1_isRemembered_10 rfl rfl ?_
    refine wq_getI (pc := 11) 15 5 dX1_isRemembered_11 (tT ht) flX1_15 rfl ht.lt ?_
    refine wp_int hT.been ?_
    refine wp_iload_n (pc := 14) 2 dX1_isRemembered_14 rfl rfl ?_
    refine wp_ior (pc := 15) dX1_isRemembered_15 ?_
    refine wp_int (bt_or _ _) ?_
    refine wc_V_I (pc := 16) dX1_isRemembered_16 lkX1_27 (sm_Rc.o (ci := 4) (tT ht) (by decide) ht.lt) (by decide) (Nat.le_of_ble_eq_true rfl) ?_
    refine c_X5_standing ht hw hT (by omega) ?_
    refine wp_aload_n (pc := 19) 0 dX1_isRemembered_19 rfl rfl ?_
    refine wp_aload_n (pc := 20) 0 dX1_isRemembered_20 rfl rfl ?_
    refine wq_getI (pc := 21) 15 5 dX1_isRemembered_21 (tT ht) flX1_15 rfl ht.lt ?_
    refine wp_int hT.been ?_
    refine wc_V_I (pc := 24) dX1_isRemembered_24 lkX1_27 (sm_Rc.o (ci := 4) (tT ht) (by decide) ht.lt) (by decide) (Nat.le_of_ble_eq_true rfl) ?_
    refine c_X5_standing ht hw hT (by omega) ?_
    refine wp_iload_n (pc := 27) 1 dX1_isRemembered_27 rfl rfl ?_
    refine wp_ior (pc := 28) dX1_isRemembered_28 ?_
    refine wp_int (bt_or _ _) ?_
    refine wp_icmp_ne (pc := 29) 36 dX1_isRemembered_29 (by decide) (fun c_29 => ?_) (fun c_29 => ?_)
    · refine wp_iconst (pc := 36) (0) dX1_isRemembered_36 (by decide) ?_
      refine wp_iret (pc := 37) dX1_isRemembered_37 ⟨_, rfl, by decide⟩ ?_
      rw [show rmP f s b = false by simp [rmP, show ¬ sta f (bn f ||| b) = sta f (bn f) ||| s from fun z => c_29 (by rw [z])]] at k; exact k
    · refine wp_iconst (pc := 32) (1) dX1_isRemembered_32 (by decide) ?_
      refine wp_goto (pc := 33) 37 dX1_isRemembered_33 (by decide) ?_
      refine wp_iret (pc := 37) dX1_isRemembered_37 ⟨_, rfl, by decide⟩ ?_
      rw [show rmP f s b = true by simp [rmP, (nIz (and_lt (n := 10) _ hb)).mp c_6, (nI_eq (by omega) (by omega)).mp c_29]] at k; exact k
theorem c_X1_countRemembered {d : Nat} {F I : Nat → Nat → Int32} {J : Nat → Nat → Int64} {Q : Option Value → sm_H → Prop} {t : Nat} (ht : isT t) {f : rw_} (hw : WF f) (hT : Tw t f F I) {s : Nat} (hs : s < 1024) (k : Q (some (.int (nI (cnt (rmP f s) (2 ^ f 68))))) (S0, F, I, J)) : Wp mX1_countRemembered (d + 3) 0 0 0 (sm_ini [.ref t, .int (nI s)] 4) [] (S0, F, I, J) Q := by
  show Wp _ _ _ _ _ [.ref t, .int (nI s), .null, .null] _ _ _
  refine wp_iconst (pc := 0) (0) dX1_countRemembered_0 (by decide) ?_
  refine wp_istore_n (pc := 1) 2 dX1_countRemembered_1 rfl (by decide) rfl ?_
  refine wp_iconst (pc := 2) (0) dX1_countRemembered_2 (by decide) ?_
  refine wp_istore_n (pc := 3) 3 dX1_countRemembered_3 rfl (by decide) rfl ?_
  refine wp_loop (fun i => [.ref t, .int (nI s), .int (nI (cnt (rmP f s) i)), .int (nI i)]) (fun i => (S0, F, I, J)) (fun i => True) (2 ^ f 68) (fun i hi hv nx => ?_) (fun hv => ?_) 0 (Nat.zero_le _) trivial
  · have hp2 := p2n hw
    refine wp_iload_n (pc := 4) 3 dX1_countRemembered_4 rfl rfl ?_
    refine wp_aload_n (pc := 5) 0 dX1_countRemembered_5 rfl rfl ?_
    refine wc_V_ (pc := 6) dX1_countRemembered_6 lkX1_33 (sm_Rc.o (ci := 4) (tT ht) (by decide) ht.lt) (by decide) (Nat.le_of_ble_eq_true rfl) ?_
    refine c_X5_everyThing ht hw hT ?_
    refine wp_icmp_gt (pc := 9) 30 dX1_countRemembered_9 (by decide) (fun c_9 => ?_) (fun c_9 => ?_)
    · exact absurd c_9 (nI_nlt (by omega) (by omega))
    · refine wp_aload_n (pc := 12) 0 dX1_countRemembered_12 rfl rfl ?_
      refine wp_iload_n (pc := 13) 1 dX1_countRemembered_13 rfl rfl ?_
      refine wp_iload_n (pc := 14) 3 dX1_countRemembered_14 rfl rfl ?_
      refine wc_S_RII (pc := 15) dX1_countRemembered_15 lkX1_37 (by decide) (Nat.le_of_ble_eq_true rfl) ?_
      refine c_X1_isRemembered ht hw hT (by omega) (by omega) ?_
      refine wp_ifeqB (pc := 18) 24 dX1_countRemembered_18 (by decide) (fun c_18 => ?_) (fun c_18 => ?_)
      · refine wp_incN (pc := 24) 3 dX1_countRemembered_24 rfl (by decide) rfl ?_
        refine wp_goto (pc := 27) 4 dX1_countRemembered_27 (by decide) ?_
        have nx := nx trivial
        rw [cnt_f c_18] at nx
        exact nx
      · refine wp_incN (pc := 21) 2 dX1_countRemembered_21 rfl (by decide) rfl ?_
        refine wp_incN (pc := 24) 3 dX1_countRemembered_24 rfl (by decide) rfl ?_
        refine wp_goto (pc := 27) 4 dX1_countRemembered_27 (by decide) ?_
        have nx := nx trivial
        rw [cnt_t c_18] at nx
        exact nx
  · have hp2 := p2n hw
    refine wp_iload_n (pc := 4) 3 dX1_countRemembered_4 rfl rfl ?_
    refine wp_aload_n (pc := 5) 0 dX1_countRemembered_5 rfl rfl ?_
    refine wc_V_ (pc := 6) dX1_countRemembered_6 lkX1_33 (sm_Rc.o (ci := 4) (tT ht) (by decide) ht.lt) (by decide) (Nat.le_of_ble_eq_true rfl) ?_
    refine c_X5_everyThing ht hw hT ?_
    refine wp_icmp_gt (pc := 9) 30 dX1_countRemembered_9 (by decide) (fun c_9 => ?_) (fun c_9 => ?_)
    · refine wp_iload_n (pc := 30) 2 dX1_countRemembered_30 rfl rfl ?_
      refine wp_iretI (pc := 31) dX1_countRemembered_31 rfl ?_
      exact k
    · exact absurd (nI_lt (show 2 ^ f 68 - 1 < 2 ^ f 68 by have := Nat.two_pow_pos (f 68); omega) (by omega)) c_9
theorem c_X1_leastRemembered {d : Nat} {F I : Nat → Nat → Int32} {J : Nat → Nat → Int64} {Q : Option Value → sm_H → Prop} {t : Nat} (ht : isT t) {f : rw_} (hw : WF f) (hT : Tw t f F I) {s : Nat} (hs : s < 1024) (k : Q (some (.int (eN (fst (rmP f s) (2 ^ f 68))))) (S0, F, I, J)) : Wp mX1_leastRemembered (d + 3) 0 0 0 (sm_ini [.ref t, .int (nI s)] 3) [] (S0, F, I, J) Q := by
  show Wp _ _ _ _ _ [.ref t, .int (nI s), .null] _ _ _
  refine wp_iconst (pc := 0) (0) dX1_leastRemembered_0 (by decide) ?_
  refine wp_istore_n (pc := 1) 2 dX1_leastRemembered_1 rfl (by decide) rfl ?_
  refine wp_loop (fun i => [.ref t, .int (nI s), .int (nI i)]) (fun i => (S0, F, I, J)) (fun i => ∀ j, j < i → rmP f s j = false) (2 ^ f 68) (fun i hi hv nx => ?_) (fun hv => ?_) 0 (Nat.zero_le _) (fun j hj => absurd hj (Nat.not_lt_zero j))
  · have hp2 := p2n hw
    refine wp_iload_n (pc := 2) 2 dX1_leastRemembered_2 rfl rfl ?_
    refine wp_aload_n (pc := 3) 0 dX1_leastRemembered_3 rfl rfl ?_
    refine wc_V_ (pc := 4) dX1_leastRemembered_4 lkX1_33 (sm_Rc.o (ci := 4) (tT ht) (by decide) ht.lt) (by decide) (Nat.le_of_ble_eq_true rfl) ?_
    refine c_X5_everyThing ht hw hT ?_
    refine wp_icmp_gt (pc := 7) 27 dX1_leastRemembered_7 (by decide) (fun c_7 => ?_) (fun c_7 => ?_)
    · exact absurd c_7 (nI_nlt (by omega) (by omega))
    · refine wp_aload_n (pc := 10) 0 dX1_leastRemembered_10 rfl rfl ?_
      refine wp_iload_n (pc := 11) 1 dX1_leastRemembered_11 rfl rfl ?_
      refine wp_iload_n (pc := 12) 2 dX1_leastRemembered_12 rfl rfl ?_
      refine wc_S_RII (pc := 13) dX1_leastRemembered_13 lkX1_37 (by decide) (Nat.le_of_ble_eq_true rfl) ?_
      refine c_X1_isRemembered ht hw hT (by omega) (by omega) ?_
      refine wp_ifeqB (pc := 16) 21 dX1_leastRemembered_16 (by decide) (fun c_16 => ?_) (fun c_16 => ?_)
      · refine wp_incN (pc := 21) 2 dX1_leastRemembered_21 rfl (by decide) rfl ?_
        refine wp_goto (pc := 24) 2 dX1_leastRemembered_24 (by decide) ?_
        have nx := nx (fun j hj => by
          by_cases hji : j = i
          · subst hji; exact c_16
          · exact hv j (by omega))
        exact nx
      · refine wp_iload_n (pc := 19) 2 dX1_leastRemembered_19 rfl rfl ?_
        refine wp_iretI (pc := 20) dX1_leastRemembered_20 rfl ?_
        rw [fst_some hi hv c_16] at k; exact k
  · have hp2 := p2n hw
    refine wp_iload_n (pc := 2) 2 dX1_leastRemembered_2 rfl rfl ?_
    refine wp_aload_n (pc := 3) 0 dX1_leastRemembered_3 rfl rfl ?_
    refine wc_V_ (pc := 4) dX1_leastRemembered_4 lkX1_33 (sm_Rc.o (ci := 4) (tT ht) (by decide) ht.lt) (by decide) (Nat.le_of_ble_eq_true rfl) ?_
    refine c_X5_everyThing ht hw hT ?_
    refine wp_icmp_gt (pc := 7) 27 dX1_leastRemembered_7 (by decide) (fun c_7 => ?_) (fun c_7 => ?_)
    · refine wp_iconst (pc := 27) (-1) dX1_leastRemembered_27 (by decide) ?_
      refine wp_iretI (pc := 28) dX1_leastRemembered_28 rfl ?_
      rw [fst_none.mpr hv] at k; exact k
    · exact absurd (nI_lt (show 2 ^ f 68 - 1 < 2 ^ f 68 by have := Nat.two_pow_pos (f 68); omega) (by omega)) c_7
def wbL (f : rw_) (i j : Nat) : Bool := decide (val f (dif (bn f) (2 ^ i)) < val f (dif (bn f) (2 ^ j)))
def worstB (f : rw_) (s k : Nat) : Option Nat := bestU (fun i => s.testBit i) (wbL f) k
def eB (f : rw_) : Option Nat → Int32
  | none => 0
  | some j => nI (val f (dif (bn f) (2 ^ j)))
def bfL (f : rw_) (i j : Nat) : Bool := decide (val f (bn f ||| 2 ^ j) < val f (bn f ||| 2 ^ i))
def bestF (f : rw_) (k : Nat) : Option Nat := bestU (fun i => !(bn f).testBit i) (bfL f) k
def eF (f : rw_) : Option Nat → Int32
  | none => -1
  | some j => nI (val f (bn f ||| 2 ^ j))
theorem c_X1_worstBack {d : Nat} {F I : Nat → Nat → Int32} {J : Nat → Nat → Int64} {Q : Option Value → sm_H → Prop} {t : Nat} (ht : isT t) {f : rw_} (hw : WF f) (hT : Tw t f F I) {s : Nat} (hs : s < 1024) (k : Q (some (.int (eN (worstB f s (f 68))))) (S0, F, I, J)) : Wp mX1_worstBack (d + 3) 0 0 0 (sm_ini [.ref t, .int (nI s)] 6) [] (S0, F, I, J) Q := by
  show Wp _ _ _ _ _ [.ref t, .int (nI s), .null, .null, .null, .null] _ _ _
  refine wp_iconst (pc := 0) (-1) dX1_worstBack_0 (by decide) ?_
  refine wp_istore_n (pc := 1) 2 dX1_worstBack_1 rfl (by decide) rfl ?_
  refine wp_iconst (pc := 2) (0) dX1_worstBack_2 (by decide) ?_
  refine wp_istore_n (pc := 3) 3 dX1_worstBack_3 rfl (by decide) rfl ?_
  refine wp_iconst (pc := 4) (0) dX1_worstBack_4 (by decide) ?_
  refine wp_istore (pc := 5) 4 dX1_worstBack_5 (by decide) rfl ?_
  refine wp_loop (fun i => [.ref t, .int (nI s), .int (eN (worstB f s i)), .int (eB f (worstB f s i)), .int (nI i), .null]) (fun _ => (S0, F, I, J)) (fun _ => True) (f 68) (fun i hi hv nx => ?_) (fun hv => ?_) 0 (Nat.zero_le _) trivial
  · have hn := hw.n
    have hb := bn_1024 hw
    have hdi := dif_1024 (2 ^ i) hb
    have hvi := val_le hw (dif (bn f) (2 ^ i))
    rcases ho : bestU (fun i => s.testBit i) (wbL f) i with _ | j
    · refine wp_to (lv' := [.ref t, .int (nI s), .int (-1), .int 0, .int (nI i), .null]) ?_ (by rw [show worstB f s i = none from ho]; rfl) rfl rfl
      refine wp_iload (pc := 7) 4 dX1_worstBack_7 rfl ?_
      refine wp_aload_n (pc := 9) 0 dX1_worstBack_9 rfl rfl ?_
      refine wq_getI (pc := 10) 41 0 dX1_worstBack_10 (tT ht) flX1_41 rfl ht.lt ?_
      refine wp_int hT.n ?_
      refine wp_icmp_ge (pc := 13) 65 dX1_worstBack_13 (by decide) (fun c_13 => ?_) (fun c_13 => ?_)
      · exact absurd c_13 (nI_ge (b := f 68) hi (by omega))
      · refine wp_iload_n (pc := 16) 1 dX1_worstBack_16 rfl rfl ?_
        refine wp_iload (pc := 17) 4 dX1_worstBack_17 rfl ?_
        refine wc_SN_II (pc := 19) dX1_worstBack_19 lkX1_44 (by decide) (Nat.le_of_ble_eq_true rfl) ?_
        refine c_X6_isIn (by omega) (by omega) ?_
        refine wp_ifeqB (pc := 22) 59 dX1_worstBack_22 (by decide) (fun c_22 => ?_) (fun c_22 => ?_)
        · refine wp_incN (pc := 59) 4 dX1_worstBack_59 rfl (by decide) rfl ?_
          refine wp_goto (pc := 62) 7 dX1_worstBack_62 (by decide) ?_
          have nx := nx trivial
          unfold worstB at nx
          rw [best_no c_22, ho] at nx
          exact nx
        · refine wp_aload_n (pc := 25) 0 dX1_worstBack_25 rfl rfl ?_
          refine wp_aload_n (pc := 26) 0 dX1_worstBack_26 rfl rfl ?_
          refine wq_getI (pc := 27) 15 5 dX1_worstBack_27 (tT ht) flX1_15 rfl ht.lt ?_
          refine wp_int hT.been ?_
          refine wp_iconst (pc := 30) (1) dX1_worstBack_30 (by decide) ?_
          refine wp_iload (pc := 31) 4 dX1_worstBack_31 rfl ?_
          refine wp_ishl (pc := 33) dX1_worstBack_33 ?_
          refine wp_iconst (pc := 34) (-1) dX1_worstBack_34 (by decide) ?_
          refine wp_ixor (pc := 35) dX1_worstBack_35 ?_
          refine wp_iand (pc := 36) dX1_worstBack_36 ?_
          refine wp_int (bt_clr (by omega)) ?_
          refine wc_V_I (pc := 37) dX1_worstBack_37 lkX1_30 (sm_Rc.o (ci := 4) (tT ht) (by decide) ht.lt) (by decide) (Nat.le_of_ble_eq_true rfl) ?_
          refine c_X5_valueIf ht hw hT (by omega) ?_
          refine wp_istore (pc := 40) 5 dX1_worstBack_40 (by decide) rfl ?_
          refine wp_iload_n (pc := 42) 2 dX1_worstBack_42 rfl rfl ?_
          refine wp_iconst (pc := 43) (-1) dX1_worstBack_43 (by decide) ?_
          refine wp_icmp_eq (pc := 44) 53 dX1_worstBack_44 (by decide) (fun c_44 => ?_) (fun c_44 => ?_)
          · refine wp_iload (pc := 53) 4 dX1_worstBack_53 rfl ?_
            refine wp_istore_n (pc := 55) 2 dX1_worstBack_55 rfl (by decide) rfl ?_
            refine wp_iload (pc := 56) 5 dX1_worstBack_56 rfl ?_
            refine wp_istore_n (pc := 58) 3 dX1_worstBack_58 rfl (by decide) rfl ?_
            refine wp_incN (pc := 59) 4 dX1_worstBack_59 rfl (by decide) rfl ?_
            refine wp_goto (pc := 62) 7 dX1_worstBack_62 (by decide) ?_
            have nx := nx trivial
            unfold worstB at nx
            rw [best_new c_22 ho] at nx
            refine wp_weak ?_ nx
            exact And.intro (Or.inr rfl) (And.intro (Or.inr rfl) (And.intro (Or.inr rfl) (And.intro (Or.inr rfl) (And.intro (Or.inr rfl) (And.intro (Or.inl rfl) (trivial))))))
          · exact absurd rfl c_44
    · have hj := (bestU_lt ho).1
      have hvj := val_le hw (dif (bn f) (2 ^ j))
      refine wp_to (lv' := [.ref t, .int (nI s), .int (nI j), .int (nI (val f (dif (bn f) (2 ^ j)))), .int (nI i), .null]) ?_ (by rw [show worstB f s i = some j from ho]; rfl) rfl rfl
      refine wp_iload (pc := 7) 4 dX1_worstBack_7 rfl ?_
      refine wp_aload_n (pc := 9) 0 dX1_worstBack_9 rfl rfl ?_
      refine wq_getI (pc := 10) 41 0 dX1_worstBack_10 (tT ht) flX1_41 rfl ht.lt ?_
      refine wp_int hT.n ?_
      refine wp_icmp_ge (pc := 13) 65 dX1_worstBack_13 (by decide) (fun c_13 => ?_) (fun c_13 => ?_)
      · exact absurd c_13 (nI_ge (b := f 68) hi (by omega))
      · refine wp_iload_n (pc := 16) 1 dX1_worstBack_16 rfl rfl ?_
        refine wp_iload (pc := 17) 4 dX1_worstBack_17 rfl ?_
        refine wc_SN_II (pc := 19) dX1_worstBack_19 lkX1_44 (by decide) (Nat.le_of_ble_eq_true rfl) ?_
        refine c_X6_isIn (by omega) (by omega) ?_
        refine wp_ifeqB (pc := 22) 59 dX1_worstBack_22 (by decide) (fun c_22 => ?_) (fun c_22 => ?_)
        · refine wp_incN (pc := 59) 4 dX1_worstBack_59 rfl (by decide) rfl ?_
          refine wp_goto (pc := 62) 7 dX1_worstBack_62 (by decide) ?_
          have nx := nx trivial
          unfold worstB at nx
          rw [best_no c_22, ho] at nx
          exact nx
        · refine wp_aload_n (pc := 25) 0 dX1_worstBack_25 rfl rfl ?_
          refine wp_aload_n (pc := 26) 0 dX1_worstBack_26 rfl rfl ?_
          refine wq_getI (pc := 27) 15 5 dX1_worstBack_27 (tT ht) flX1_15 rfl ht.lt ?_
          refine wp_int hT.been ?_
          refine wp_iconst (pc := 30) (1) dX1_worstBack_30 (by decide) ?_
          refine wp_iload (pc := 31) 4 dX1_worstBack_31 rfl ?_
          refine wp_ishl (pc := 33) dX1_worstBack_33 ?_
          refine wp_iconst (pc := 34) (-1) dX1_worstBack_34 (by decide) ?_
          refine wp_ixor (pc := 35) dX1_worstBack_35 ?_
          refine wp_iand (pc := 36) dX1_worstBack_36 ?_
          refine wp_int (bt_clr (by omega)) ?_
          refine wc_V_I (pc := 37) dX1_worstBack_37 lkX1_30 (sm_Rc.o (ci := 4) (tT ht) (by decide) ht.lt) (by decide) (Nat.le_of_ble_eq_true rfl) ?_
          refine c_X5_valueIf ht hw hT (by omega) ?_
          refine wp_istore (pc := 40) 5 dX1_worstBack_40 (by decide) rfl ?_
          refine wp_iload_n (pc := 42) 2 dX1_worstBack_42 rfl rfl ?_
          refine wp_iconst (pc := 43) (-1) dX1_worstBack_43 (by decide) ?_
          refine wp_icmp_eq (pc := 44) 53 dX1_worstBack_44 (by decide) (fun c_44 => ?_) (fun c_44 => ?_)
          · exact absurd c_44 (m1_ne (by omega))
          · refine wp_iload (pc := 47) 5 dX1_worstBack_47 rfl ?_
            refine wp_iload_n (pc := 49) 3 dX1_worstBack_49 rfl rfl ?_
            refine wp_icmp_ge (pc := 50) 59 dX1_worstBack_50 (by decide) (fun c_50 => ?_) (fun c_50 => ?_)
            · refine wp_incN (pc := 59) 4 dX1_worstBack_59 rfl (by decide) rfl ?_
              refine wp_goto (pc := 62) 7 dX1_worstBack_62 (by decide) ?_
              have nx := nx trivial
              unfold worstB at nx
              rw [best_st c_22 ho (decide_eq_false (fun z => nI_ge z (by omega) c_50))] at nx
              refine wp_weak ?_ nx
              exact And.intro (Or.inr rfl) (And.intro (Or.inr rfl) (And.intro (Or.inr rfl) (And.intro (Or.inr rfl) (And.intro (Or.inr rfl) (And.intro (Or.inl rfl) (trivial))))))
            · refine wp_iload (pc := 53) 4 dX1_worstBack_53 rfl ?_
              refine wp_istore_n (pc := 55) 2 dX1_worstBack_55 rfl (by decide) rfl ?_
              refine wp_iload (pc := 56) 5 dX1_worstBack_56 rfl ?_
              refine wp_istore_n (pc := 58) 3 dX1_worstBack_58 rfl (by decide) rfl ?_
              refine wp_incN (pc := 59) 4 dX1_worstBack_59 rfl (by decide) rfl ?_
              refine wp_goto (pc := 62) 7 dX1_worstBack_62 (by decide) ?_
              have nx := nx trivial
              unfold worstB at nx
              rw [best_up c_22 ho (decide_eq_true (Nat.lt_of_not_le fun z => c_50 (nI_le z (by omega))))] at nx
              refine wp_weak ?_ nx
              exact And.intro (Or.inr rfl) (And.intro (Or.inr rfl) (And.intro (Or.inr rfl) (And.intro (Or.inr rfl) (And.intro (Or.inr rfl) (And.intro (Or.inl rfl) (trivial))))))
  · refine wp_iload (pc := 7) 4 dX1_worstBack_7 rfl ?_
    refine wp_aload_n (pc := 9) 0 dX1_worstBack_9 rfl rfl ?_
    refine wq_getI (pc := 10) 41 0 dX1_worstBack_10 (tT ht) flX1_41 rfl ht.lt ?_
    refine wp_int hT.n ?_
    refine wp_icmp_ge (pc := 13) 65 dX1_worstBack_13 (by decide) (fun c_13 => ?_) (fun c_13 => ?_)
    · refine wp_iload_n (pc := 65) 2 dX1_worstBack_65 rfl rfl ?_
      refine wp_iretI (pc := 66) dX1_worstBack_66 rfl ?_
      exact k
    · exact absurd (Int32.le_refl _) c_13
theorem c_X1_bestForwards {d : Nat} {F I : Nat → Nat → Int32} {J : Nat → Nat → Int64} {Q : Option Value → sm_H → Prop} {t : Nat} (ht : isT t) {f : rw_} (hw : WF f) (hT : Tw t f F I)  (k : Q (some (.int (eN (bestF f (f 68))))) (S0, F, I, J)) : Wp mX1_bestForwards (d + 3) 0 0 0 (sm_ini [.ref t] 5) [] (S0, F, I, J) Q := by
  show Wp _ _ _ _ _ [.ref t, .null, .null, .null, .null] _ _ _
  refine wp_iconst (pc := 0) (-1) dX1_bestForwards_0 (by decide) ?_
  refine wp_istore_n (pc := 1) 1 dX1_bestForwards_1 rfl (by decide) rfl ?_
  refine wp_iconst (pc := 2) (-1) dX1_bestForwards_2 (by decide) ?_
  refine wp_istore_n (pc := 3) 2 dX1_bestForwards_3 rfl (by decide) rfl ?_
  refine wp_iconst (pc := 4) (0) dX1_bestForwards_4 (by decide) ?_
  refine wp_istore_n (pc := 5) 3 dX1_bestForwards_5 rfl (by decide) rfl ?_
  refine wp_loop (fun i => [.ref t, .int (eN (bestF f i)), .int (eF f (bestF f i)), .int (nI i), .null]) (fun _ => (S0, F, I, J)) (fun _ => True) (f 68) (fun i hi hv nx => ?_) (fun hv => ?_) 0 (Nat.zero_le _) trivial
  · have hn := hw.n
    have hb := bn_1024 hw
    have hdi := or_lt (n := 10) hb (p2_lt (show i < 10 by omega))
    have hvi := val_le hw (bn f ||| 2 ^ i)
    rcases ho : bestU (fun i => !(bn f).testBit i) (bfL f) i with _ | j
    · refine wp_to (lv' := [.ref t, .int (-1), .int (-1), .int (nI i), .null]) ?_ (by rw [show bestF f i = none from ho]; rfl) rfl rfl
      refine wp_iload_n (pc := 6) 3 dX1_bestForwards_6 rfl rfl ?_
      refine wp_aload_n (pc := 7) 0 dX1_bestForwards_7 rfl rfl ?_
      refine wq_getI (pc := 8) 41 0 dX1_bestForwards_8 (tT ht) flX1_41 rfl ht.lt ?_
      refine wp_int hT.n ?_
      refine wp_icmp_ge (pc := 11) 56 dX1_bestForwards_11 (by decide) (fun c_11 => ?_) (fun c_11 => ?_)
      · exact absurd c_11 (nI_ge (b := f 68) hi (by omega))
      · refine wp_aload_n (pc := 14) 0 dX1_bestForwards_14 rfl rfl ?_
        refine wq_getI (pc := 15) 15 5 dX1_bestForwards_15 (tT ht) flX1_15 rfl ht.lt ?_
        refine wp_int hT.been ?_
        refine wp_iload_n (pc := 18) 3 dX1_bestForwards_18 rfl rfl ?_
        refine wc_SN_II (pc := 19) dX1_bestForwards_19 lkX1_44 (by decide) (Nat.le_of_ble_eq_true rfl) ?_
        refine c_X6_isIn (by omega) (by omega) ?_
        refine wp_ifneB (pc := 22) 50 dX1_bestForwards_22 (by decide) (fun c_22 => ?_) (fun c_22 => ?_)
        · refine wp_incN (pc := 50) 3 dX1_bestForwards_50 rfl (by decide) rfl ?_
          refine wp_goto (pc := 53) 6 dX1_bestForwards_53 (by decide) ?_
          have nx := nx trivial
          unfold bestF at nx
          rw [best_no (show (!(bn f).testBit i) = false by rw [c_22]; rfl), ho] at nx
          exact nx
        · refine wp_aload_n (pc := 25) 0 dX1_bestForwards_25 rfl rfl ?_
          refine wp_aload_n (pc := 26) 0 dX1_bestForwards_26 rfl rfl ?_
          refine wq_getI (pc := 27) 15 5 dX1_bestForwards_27 (tT ht) flX1_15 rfl ht.lt ?_
          refine wp_int hT.been ?_
          refine wp_iconst (pc := 30) (1) dX1_bestForwards_30 (by decide) ?_
          refine wp_iload_n (pc := 31) 3 dX1_bestForwards_31 rfl rfl ?_
          refine wp_ishl (pc := 32) dX1_bestForwards_32 ?_
          refine wp_int (bt_one (by omega)) ?_
          refine wp_ior (pc := 33) dX1_bestForwards_33 ?_
          refine wp_int (bt_or _ _) ?_
          refine wc_V_I (pc := 34) dX1_bestForwards_34 lkX1_30 (sm_Rc.o (ci := 4) (tT ht) (by decide) ht.lt) (by decide) (Nat.le_of_ble_eq_true rfl) ?_
          refine c_X5_valueIf ht hw hT (by omega) ?_
          refine wp_istore (pc := 37) 4 dX1_bestForwards_37 (by decide) rfl ?_
          refine wp_iload (pc := 39) 4 dX1_bestForwards_39 rfl ?_
          refine wp_iload_n (pc := 41) 2 dX1_bestForwards_41 rfl rfl ?_
          refine wp_icmp_le (pc := 42) 50 dX1_bestForwards_42 (by decide) (fun c_42 => ?_) (fun c_42 => ?_)
          · exact absurd c_42 (m1_lt (by omega))
          · refine wp_iload_n (pc := 45) 3 dX1_bestForwards_45 rfl rfl ?_
            refine wp_istore_n (pc := 46) 1 dX1_bestForwards_46 rfl (by decide) rfl ?_
            refine wp_iload (pc := 47) 4 dX1_bestForwards_47 rfl ?_
            refine wp_istore_n (pc := 49) 2 dX1_bestForwards_49 rfl (by decide) rfl ?_
            refine wp_incN (pc := 50) 3 dX1_bestForwards_50 rfl (by decide) rfl ?_
            refine wp_goto (pc := 53) 6 dX1_bestForwards_53 (by decide) ?_
            have nx := nx trivial
            unfold bestF at nx
            rw [best_new (show (!(bn f).testBit i) = true by rw [c_22]; rfl) ho] at nx
            refine wp_weak ?_ nx
            exact And.intro (Or.inr rfl) (And.intro (Or.inr rfl) (And.intro (Or.inr rfl) (And.intro (Or.inr rfl) (And.intro (Or.inl rfl) (trivial)))))
    · have hj := (bestU_lt ho).1
      have hvj := val_le hw (bn f ||| 2 ^ j)
      refine wp_to (lv' := [.ref t, .int (nI j), .int (nI (val f (bn f ||| 2 ^ j))), .int (nI i), .null]) ?_ (by rw [show bestF f i = some j from ho]; rfl) rfl rfl
      refine wp_iload_n (pc := 6) 3 dX1_bestForwards_6 rfl rfl ?_
      refine wp_aload_n (pc := 7) 0 dX1_bestForwards_7 rfl rfl ?_
      refine wq_getI (pc := 8) 41 0 dX1_bestForwards_8 (tT ht) flX1_41 rfl ht.lt ?_
      refine wp_int hT.n ?_
      refine wp_icmp_ge (pc := 11) 56 dX1_bestForwards_11 (by decide) (fun c_11 => ?_) (fun c_11 => ?_)
      · exact absurd c_11 (nI_ge (b := f 68) hi (by omega))
      · refine wp_aload_n (pc := 14) 0 dX1_bestForwards_14 rfl rfl ?_
        refine wq_getI (pc := 15) 15 5 dX1_bestForwards_15 (tT ht) flX1_15 rfl ht.lt ?_
        refine wp_int hT.been ?_
        refine wp_iload_n (pc := 18) 3 dX1_bestForwards_18 rfl rfl ?_
        refine wc_SN_II (pc := 19) dX1_bestForwards_19 lkX1_44 (by decide) (Nat.le_of_ble_eq_true rfl) ?_
        refine c_X6_isIn (by omega) (by omega) ?_
        refine wp_ifneB (pc := 22) 50 dX1_bestForwards_22 (by decide) (fun c_22 => ?_) (fun c_22 => ?_)
        · refine wp_incN (pc := 50) 3 dX1_bestForwards_50 rfl (by decide) rfl ?_
          refine wp_goto (pc := 53) 6 dX1_bestForwards_53 (by decide) ?_
          have nx := nx trivial
          unfold bestF at nx
          rw [best_no (show (!(bn f).testBit i) = false by rw [c_22]; rfl), ho] at nx
          exact nx
        · refine wp_aload_n (pc := 25) 0 dX1_bestForwards_25 rfl rfl ?_
          refine wp_aload_n (pc := 26) 0 dX1_bestForwards_26 rfl rfl ?_
          refine wq_getI (pc := 27) 15 5 dX1_bestForwards_27 (tT ht) flX1_15 rfl ht.lt ?_
          refine wp_int hT.been ?_
          refine wp_iconst (pc := 30) (1) dX1_bestForwards_30 (by decide) ?_
          refine wp_iload_n (pc := 31) 3 dX1_bestForwards_31 rfl rfl ?_
          refine wp_ishl (pc := 32) dX1_bestForwards_32 ?_
          refine wp_int (bt_one (by omega)) ?_
          refine wp_ior (pc := 33) dX1_bestForwards_33 ?_
          refine wp_int (bt_or _ _) ?_
          refine wc_V_I (pc := 34) dX1_bestForwards_34 lkX1_30 (sm_Rc.o (ci := 4) (tT ht) (by decide) ht.lt) (by decide) (Nat.le_of_ble_eq_true rfl) ?_
          refine c_X5_valueIf ht hw hT (by omega) ?_
          refine wp_istore (pc := 37) 4 dX1_bestForwards_37 (by decide) rfl ?_
          refine wp_iload (pc := 39) 4 dX1_bestForwards_39 rfl ?_
          refine wp_iload_n (pc := 41) 2 dX1_bestForwards_41 rfl rfl ?_
          refine wp_icmp_le (pc := 42) 50 dX1_bestForwards_42 (by decide) (fun c_42 => ?_) (fun c_42 => ?_)
          · refine wp_incN (pc := 50) 3 dX1_bestForwards_50 rfl (by decide) rfl ?_
            refine wp_goto (pc := 53) 6 dX1_bestForwards_53 (by decide) ?_
            have nx := nx trivial
            unfold bestF at nx
            rw [best_st (show (!(bn f).testBit i) = true by rw [c_22]; rfl) ho (decide_eq_false (fun z => nI_ge z (by omega) c_42))] at nx
            refine wp_weak ?_ nx
            exact And.intro (Or.inr rfl) (And.intro (Or.inr rfl) (And.intro (Or.inr rfl) (And.intro (Or.inr rfl) (And.intro (Or.inl rfl) (trivial)))))
          · refine wp_iload_n (pc := 45) 3 dX1_bestForwards_45 rfl rfl ?_
            refine wp_istore_n (pc := 46) 1 dX1_bestForwards_46 rfl (by decide) rfl ?_
            refine wp_iload (pc := 47) 4 dX1_bestForwards_47 rfl ?_
            refine wp_istore_n (pc := 49) 2 dX1_bestForwards_49 rfl (by decide) rfl ?_
            refine wp_incN (pc := 50) 3 dX1_bestForwards_50 rfl (by decide) rfl ?_
            refine wp_goto (pc := 53) 6 dX1_bestForwards_53 (by decide) ?_
            have nx := nx trivial
            unfold bestF at nx
            rw [best_up (show (!(bn f).testBit i) = true by rw [c_22]; rfl) ho (decide_eq_true (Nat.lt_of_not_le fun z => c_42 (nI_le z (by omega))))] at nx
            refine wp_weak ?_ nx
            exact And.intro (Or.inr rfl) (And.intro (Or.inr rfl) (And.intro (Or.inr rfl) (And.intro (Or.inr rfl) (And.intro (Or.inl rfl) (trivial)))))
  · refine wp_iload_n (pc := 6) 3 dX1_bestForwards_6 rfl rfl ?_
    refine wp_aload_n (pc := 7) 0 dX1_bestForwards_7 rfl rfl ?_
    refine wq_getI (pc := 8) 41 0 dX1_bestForwards_8 (tT ht) flX1_41 rfl ht.lt ?_
    refine wp_int hT.n ?_
    refine wp_icmp_ge (pc := 11) 56 dX1_bestForwards_11 (by decide) (fun c_11 => ?_) (fun c_11 => ?_)
    · refine wp_iload_n (pc := 56) 1 dX1_bestForwards_56 rfl rfl ?_
      refine wp_iretI (pc := 57) dX1_bestForwards_57 rfl ?_
      exact k
    · exact absurd (Int32.le_refl _) c_11
