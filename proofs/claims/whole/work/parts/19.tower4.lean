/-! ===== the developers' tower: the oldest, parts, changes ===== -/
theorem m1_ne {j : Nat} (h : j < 2 ^ 31) : ¬ nI j = -1 := fun z => by
  have h1 : (nI j).toInt = (-1 : Int32).toInt := by rw [z]
  rw [nI_toInt h] at h1
  have h2 : (-1 : Int32).toInt = -1 := by decide
  omega
theorem sub_le0 {a b : Nat} (ha : a < 2 ^ 30) (hb : b < 2 ^ 30) : nI a - nI b ≤ 0 ↔ a ≤ b := by
  rw [Int32.le_iff_toInt_le, pk_sub_toInt ha hb]
  have : (0 : Int32).toInt = 0 := by decide
  omega
theorem sub_ge0 {a b : Nat} (ha : a < 2 ^ 30) (hb : b < 2 ^ 30) : 0 ≤ nI a - nI b ↔ b ≤ a := by
  rw [Int32.le_iff_toInt_le, pk_sub_toInt ha hb]
  have : (0 : Int32).toInt = 0 := by decide
  omega
def oldL (f : rw_) (g : Bool) (i j : Nat) : Bool := if g = true then decide (f (5 * j + 4) < f (5 * i + 4)) else decide (f (5 * i + 4) < f (5 * j + 4))
def oldest (f : rw_) (g : Bool) (k : Nat) : Option Nat := bestU (fun i => (bn f).testBit i) (oldL f g) k
theorem best_no {p : Nat → Bool} {l : Nat → Nat → Bool} {k : Nat} (h : p k = false) : bestU p l (k + 1) = bestU p l k := by rw [bestU, if_neg (by rw [h]; decide)]
theorem best_new {p : Nat → Bool} {l : Nat → Nat → Bool} {k : Nat} (h : p k = true) (e : bestU p l k = none) : bestU p l (k + 1) = some k := by rw [bestU, if_pos h, e]
theorem best_up {p : Nat → Bool} {l : Nat → Nat → Bool} {k j : Nat} (h : p k = true) (e : bestU p l k = some j) (hl : l k j = true) : bestU p l (k + 1) = some k := by rw [bestU, if_pos h, e]; simp [hl]
theorem best_st {p : Nat → Bool} {l : Nat → Nat → Bool} {k j : Nat} (h : p k = true) (e : bestU p l k = some j) (hl : l k j = false) : bestU p l (k + 1) = some j := by rw [bestU, if_pos h, e]; simp [hl]
theorem c_X5_oldestBeen {d : Nat} {F I : Nat → Nat → Int32} {J : Nat → Nat → Int64} {Q : Option Value → sm_H → Prop} {t : Nat} (ht : isT t) {f : rw_} (hw : WF f) (hT : Tw t f F I) {g : Bool} (k : Q (some (.int (eN (oldest f g (f 68))))) (S0, F, I, J)) : Wp mX5_oldestBeen (d + 1) 0 0 0 (sm_ini [.ref t, .int (b2 g)] 5) [] (S0, F, I, J) Q := by
  show Wp _ _ _ _ _ [.ref t, .int (b2 g), .null, .null, .null] _ _ _
  refine wp_iconst (pc := 0) (-1) dX5_oldestBeen_0 (by decide) ?_
  refine wp_istore_n (pc := 1) 2 dX5_oldestBeen_1 rfl (by decide) rfl ?_
  refine wp_iconst (pc := 2) (0) dX5_oldestBeen_2 (by decide) ?_
  refine wp_istore_n (pc := 3) 3 dX5_oldestBeen_3 rfl (by decide) rfl ?_
  refine wp_loop (fun i => [.ref t, .int (b2 g), .int (eN (oldest f g i)), .int (nI i), .null]) (fun _ => (S0, F, I, J)) (fun _ => True) (f 68) (fun i hi hv nx => ?_) (fun hv => ?_) 0 (by omega) trivial
  · have hn := hw.n
    have hi10 : i < 10 := by omega
    have hb := bn_1024 hw
    have ha := hw.age hi10
    rcases ho : bestU (fun i => (bn f).testBit i) (oldL f g) i with _ | j
    · refine wp_to (lv' := [.ref t, .int (b2 g), .int (-1), .int (nI i), .null]) ?_ (by rw [show oldest f g i = none from ho]; rfl) rfl rfl
      refine wp_iload_n (pc := 4) 3 dX5_oldestBeen_4 rfl rfl ?_
      refine wp_aload_n (pc := 5) 0 dX5_oldestBeen_5 rfl rfl ?_
      refine wq_getI (pc := 6) 9 0 dX5_oldestBeen_6 (tT ht) flX5_9 rfl ht.lt ?_
      refine wp_int hT.n ?_
      refine wp_icmp_ge (pc := 9) 72 dX5_oldestBeen_9 (by decide) (fun c_9 => ?_) (fun c_9 => ?_)
      · exact absurd c_9 (nI_ge (b := f 68) hi (by omega))
      · refine wp_aload_n (pc := 12) 0 dX5_oldestBeen_12 rfl rfl ?_
        refine wq_getI (pc := 13) 28 5 dX5_oldestBeen_13 (tT ht) flX5_28 rfl ht.lt ?_
        refine wp_int hT.been ?_
        refine wp_iload_n (pc := 16) 3 dX5_oldestBeen_16 rfl rfl ?_
        refine wc_SN_II (pc := 17) dX5_oldestBeen_17 lkX5_97 (by decide) (Nat.le_of_ble_eq_true rfl) ?_
        refine c_X6_isIn (by omega) (by omega) ?_
        refine wp_ifeqB (pc := 20) 66 dX5_oldestBeen_20 (by decide) (fun c_20 => ?_) (fun c_20 => ?_)
        · refine wp_incN (pc := 66) 3 dX5_oldestBeen_66 rfl (by decide) rfl ?_
          refine wp_goto (pc := 69) 4 dX5_oldestBeen_69 (by decide) ?_
          have nx := nx trivial
          unfold oldest at nx
          rw [best_no c_20, ho] at nx
          exact nx
        · refine wp_aload_n (pc := 23) 0 dX5_oldestBeen_23 rfl rfl ?_
          refine wq_getR (pc := 24) 22 3 dX5_oldestBeen_24 (tT ht) flX5_22 rfl rfl ht.lt (ht.ltn 3) ?_
          refine wp_iload_n (pc := 27) 3 dX5_oldestBeen_27 rfl rfl ?_
          refine wc_SN_RI (pc := 28) dX5_oldestBeen_28 lkX5_71 (by decide) (Nat.le_of_ble_eq_true rfl) ?_
          refine c_X6_at (tT3 ht) (ht.ltn 3) (by decide) hi10 ?_
          refine wp_int (hT.age hi10) ?_
          refine wp_aload_n (pc := 31) 0 dX5_oldestBeen_31 rfl rfl ?_
          refine wq_getR (pc := 32) 22 3 dX5_oldestBeen_32 (tT ht) flX5_22 rfl rfl ht.lt (ht.ltn 3) ?_
          refine wp_iload_n (pc := 35) 2 dX5_oldestBeen_35 rfl rfl ?_
          refine wc_SN_RI (pc := 36) dX5_oldestBeen_36 lkX5_71 (by decide) (Nat.le_of_ble_eq_true rfl) ?_
          refine c_X6_at_neg (by decide) ?_
          refine wp_isub (pc := 39) dX5_oldestBeen_39 ?_
          refine wp_istore (pc := 40) 4 dX5_oldestBeen_40 (by decide) rfl ?_
          refine wp_iload_n (pc := 42) 2 dX5_oldestBeen_42 rfl rfl ?_
          refine wp_iconst (pc := 43) (-1) dX5_oldestBeen_43 (by decide) ?_
          refine wp_icmp_eq (pc := 44) 64 dX5_oldestBeen_44 (by decide) (fun c_44 => ?_) (fun c_44 => ?_)
          · refine wp_iload_n (pc := 64) 3 dX5_oldestBeen_64 rfl rfl ?_
            refine wp_istore_n (pc := 65) 2 dX5_oldestBeen_65 rfl (by decide) rfl ?_
            refine wp_incN (pc := 66) 3 dX5_oldestBeen_66 rfl (by decide) rfl ?_
            refine wp_goto (pc := 69) 4 dX5_oldestBeen_69 (by decide) ?_
            have nx := nx trivial
            unfold oldest at nx
            rw [best_new c_20 ho] at nx
            refine wp_weak ?_ nx
            exact And.intro (Or.inr rfl) (And.intro (Or.inr rfl) (And.intro (Or.inr rfl) (And.intro (Or.inr rfl) (And.intro (Or.inl rfl) trivial))))
          · exact absurd rfl c_44
    · have hj := (bestU_lt ho).1
      have hj10 : j < 10 := by omega
      have haj := hw.age hj10
      refine wp_to (lv' := [.ref t, .int (b2 g), .int (nI j), .int (nI i), .null]) ?_ (by rw [show oldest f g i = some j from ho]; rfl) rfl rfl
      refine wp_iload_n (pc := 4) 3 dX5_oldestBeen_4 rfl rfl ?_
      refine wp_aload_n (pc := 5) 0 dX5_oldestBeen_5 rfl rfl ?_
      refine wq_getI (pc := 6) 9 0 dX5_oldestBeen_6 (tT ht) flX5_9 rfl ht.lt ?_
      refine wp_int hT.n ?_
      refine wp_icmp_ge (pc := 9) 72 dX5_oldestBeen_9 (by decide) (fun c_9 => ?_) (fun c_9 => ?_)
      · exact absurd c_9 (nI_ge (b := f 68) hi (by omega))
      · refine wp_aload_n (pc := 12) 0 dX5_oldestBeen_12 rfl rfl ?_
        refine wq_getI (pc := 13) 28 5 dX5_oldestBeen_13 (tT ht) flX5_28 rfl ht.lt ?_
        refine wp_int hT.been ?_
        refine wp_iload_n (pc := 16) 3 dX5_oldestBeen_16 rfl rfl ?_
        refine wc_SN_II (pc := 17) dX5_oldestBeen_17 lkX5_97 (by decide) (Nat.le_of_ble_eq_true rfl) ?_
        refine c_X6_isIn (by omega) (by omega) ?_
        refine wp_ifeqB (pc := 20) 66 dX5_oldestBeen_20 (by decide) (fun c_20 => ?_) (fun c_20 => ?_)
        · refine wp_incN (pc := 66) 3 dX5_oldestBeen_66 rfl (by decide) rfl ?_
          refine wp_goto (pc := 69) 4 dX5_oldestBeen_69 (by decide) ?_
          have nx := nx trivial
          unfold oldest at nx
          rw [best_no c_20, ho] at nx
          exact nx
        · refine wp_aload_n (pc := 23) 0 dX5_oldestBeen_23 rfl rfl ?_
          refine wq_getR (pc := 24) 22 3 dX5_oldestBeen_24 (tT ht) flX5_22 rfl rfl ht.lt (ht.ltn 3) ?_
          refine wp_iload_n (pc := 27) 3 dX5_oldestBeen_27 rfl rfl ?_
          refine wc_SN_RI (pc := 28) dX5_oldestBeen_28 lkX5_71 (by decide) (Nat.le_of_ble_eq_true rfl) ?_
          refine c_X6_at (tT3 ht) (ht.ltn 3) (by decide) hi10 ?_
          refine wp_int (hT.age hi10) ?_
          refine wp_aload_n (pc := 31) 0 dX5_oldestBeen_31 rfl rfl ?_
          refine wq_getR (pc := 32) 22 3 dX5_oldestBeen_32 (tT ht) flX5_22 rfl rfl ht.lt (ht.ltn 3) ?_
          refine wp_iload_n (pc := 35) 2 dX5_oldestBeen_35 rfl rfl ?_
          refine wc_SN_RI (pc := 36) dX5_oldestBeen_36 lkX5_71 (by decide) (Nat.le_of_ble_eq_true rfl) ?_
          refine c_X6_at (tT3 ht) (ht.ltn 3) (by decide) hj10 ?_
          refine wp_int (hT.age hj10) ?_
          refine wp_isub (pc := 39) dX5_oldestBeen_39 ?_
          refine wp_istore (pc := 40) 4 dX5_oldestBeen_40 (by decide) rfl ?_
          refine wp_iload_n (pc := 42) 2 dX5_oldestBeen_42 rfl rfl ?_
          refine wp_iconst (pc := 43) (-1) dX5_oldestBeen_43 (by decide) ?_
          refine wp_icmp_eq (pc := 44) 64 dX5_oldestBeen_44 (by decide) (fun c_44 => ?_) (fun c_44 => ?_)
          · exact absurd c_44 (m1_ne (by omega))
          · refine wp_iload_n (pc := 47) 1 dX5_oldestBeen_47 rfl rfl ?_
            refine wp_ifeqB (pc := 48) 59 dX5_oldestBeen_48 (by decide) (fun c_48 => ?_) (fun c_48 => ?_)
            · refine wp_iload (pc := 59) 4 dX5_oldestBeen_59 rfl ?_
              refine wp_ifge (pc := 61) 66 dX5_oldestBeen_61 (by decide) (fun c_61 => ?_) (fun c_61 => ?_)
              · refine wp_incN (pc := 66) 3 dX5_oldestBeen_66 rfl (by decide) rfl ?_
                refine wp_goto (pc := 69) 4 dX5_oldestBeen_69 (by decide) ?_
                have nx := nx trivial
                unfold oldest at nx
                rw [best_st c_20 ho (by simp [oldL, c_48]; exact (sub_ge0 (by omega) (by omega)).mp c_61)] at nx
                refine wp_weak ?_ nx
                exact And.intro (Or.inr rfl) (And.intro (Or.inr rfl) (And.intro (Or.inr rfl) (And.intro (Or.inr rfl) (And.intro (Or.inl rfl) trivial))))
              · refine wp_iload_n (pc := 64) 3 dX5_oldestBeen_64 rfl rfl ?_
                refine wp_istore_n (pc := 65) 2 dX5_oldestBeen_65 rfl (by decide) rfl ?_
                refine wp_incN (pc := 66) 3 dX5_oldestBeen_66 rfl (by decide) rfl ?_
                refine wp_goto (pc := 69) 4 dX5_oldestBeen_69 (by decide) ?_
                have nx := nx trivial
                unfold oldest at nx
                rw [best_up c_20 ho (by simp [oldL, c_48]; exact Nat.lt_of_not_le fun z => c_61 ((sub_ge0 (by omega) (by omega)).mpr z))] at nx
                refine wp_weak ?_ nx
                exact And.intro (Or.inr rfl) (And.intro (Or.inr rfl) (And.intro (Or.inr rfl) (And.intro (Or.inr rfl) (And.intro (Or.inl rfl) trivial))))
            · refine wp_iload (pc := 51) 4 dX5_oldestBeen_51 rfl ?_
              refine wp_ifle (pc := 53) 66 dX5_oldestBeen_53 (by decide) (fun c_53 => ?_) (fun c_53 => ?_)
              · refine wp_incN (pc := 66) 3 dX5_oldestBeen_66 rfl (by decide) rfl ?_
                refine wp_goto (pc := 69) 4 dX5_oldestBeen_69 (by decide) ?_
                have nx := nx trivial
                unfold oldest at nx
                rw [best_st c_20 ho (by simp [oldL, c_48]; exact (sub_le0 (by omega) (by omega)).mp c_53)] at nx
                refine wp_weak ?_ nx
                exact And.intro (Or.inr rfl) (And.intro (Or.inr rfl) (And.intro (Or.inr rfl) (And.intro (Or.inr rfl) (And.intro (Or.inl rfl) trivial))))
              · refine wp_goto (pc := 56) 64 dX5_oldestBeen_56 (by decide) ?_
                refine wp_iload_n (pc := 64) 3 dX5_oldestBeen_64 rfl rfl ?_
                refine wp_istore_n (pc := 65) 2 dX5_oldestBeen_65 rfl (by decide) rfl ?_
                refine wp_incN (pc := 66) 3 dX5_oldestBeen_66 rfl (by decide) rfl ?_
                refine wp_goto (pc := 69) 4 dX5_oldestBeen_69 (by decide) ?_
                have nx := nx trivial
                unfold oldest at nx
                rw [best_up c_20 ho (by simp [oldL, c_48]; exact Nat.lt_of_not_le fun z => c_53 ((sub_le0 (by omega) (by omega)).mpr z))] at nx
                refine wp_weak ?_ nx
                exact And.intro (Or.inr rfl) (And.intro (Or.inr rfl) (And.intro (Or.inr rfl) (And.intro (Or.inr rfl) (And.intro (Or.inl rfl) trivial))))
  · refine wp_iload_n (pc := 4) 3 dX5_oldestBeen_4 rfl rfl ?_
    refine wp_aload_n (pc := 5) 0 dX5_oldestBeen_5 rfl rfl ?_
    refine wq_getI (pc := 6) 9 0 dX5_oldestBeen_6 (tT ht) flX5_9 rfl ht.lt ?_
    refine wp_int hT.n ?_
    refine wp_icmp_ge (pc := 9) 72 dX5_oldestBeen_9 (by decide) (fun c_9 => ?_) (fun c_9 => ?_)
    · refine wp_iload_n (pc := 72) 2 dX5_oldestBeen_72 rfl rfl ?_
      refine wp_iretI (pc := 73) dX5_oldestBeen_73 rfl ?_
      exact k
    · exact absurd (Int32.le_refl _) c_9
theorem areT {n : Nat} (hn : n ≤ 10) (x : Int32) : x &&& (nI (2 ^ n - 1) ^^^ (-1)) = 0 ↔ (0 ≤ x ∧ x < nI (2 ^ n)) := by
  have h2 : 2 ^ n ≤ 1024 := show 2 ^ n ≤ 2 ^ 10 from Nat.pow_le_pow_right (by decide) hn
  have h0 := Nat.two_pow_pos n
  have hx : x = nI x.toBitVec.toNat := i32_ext (by rw [nI_bv]; simp)
  have hlt : x.toBitVec.toNat < 2 ^ 32 := x.toBitVec.isLt
  generalize x.toBitVec.toNat = v at hx hlt
  subst hx
  rw [bt_dif, i32_in (by omega)]
  have hz : nI (dif v (2 ^ n - 1)) = 0 ↔ dif v (2 ^ n - 1) = 0 := by
    have hd : dif v (2 ^ n - 1) < 2 ^ 32 := dif_le v _ hlt
    constructor
    · intro h
      have h1 : (nI (dif v (2 ^ n - 1))).toBitVec.toNat = (0 : Int32).toBitVec.toNat := by rw [h]
      rw [pk_tn hd] at h1
      exact h1
    · intro h; rw [h]; rfl
  rw [hz]
  constructor
  · intro h
    have := sub_le h
    exact ⟨v, by omega, rfl⟩
  · rintro ⟨j, hj, e⟩
    have e2 : v = j := by
      have h1 : (nI v).toBitVec.toNat = (nI j).toBitVec.toNat := by rw [e]
      rwa [pk_tn hlt, pk_tn (by omega)] at h1
    subst e2
    refine dif_0.mpr fun i hi => ?_
    have hin : i < n := by
      rcases Nat.lt_or_ge i n with q | q
      · exact q
      · rw [bit_ge hj q] at hi; cases hi
    rw [Nat.testBit_two_pow_sub_one]
    exact decide_eq_true hin
theorem c_X5_areThings {d : Nat} {F I : Nat → Nat → Int32} {J : Nat → Nat → Int64} {Q : Option Value → sm_H → Prop} {t : Nat} (ht : isT t) {f : rw_} (hw : WF f) (hT : Tw t f F I) {x : Int32} (k : Q (some (.int (b2 (decide (0 ≤ x ∧ x < nI (2 ^ f 68)))))) (S0, F, I, J)) : Wp mX5_areThings (d + 1) 0 0 0 (sm_ini [.ref t, .int x] 2) [] (S0, F, I, J) Q := by
  show Wp _ _ _ _ _ [.ref t, .int x] _ _ _
  refine wp_iload_n (pc := 0) 1 dX5_areThings_0 rfl rfl ?_
  refine wp_aload_n (pc := 1) 0 dX5_areThings_1 rfl rfl ?_
  refine wc_V_ (pc := 2) dX5_areThings_2 lkX5_63 (sm_Rc.o (ci := 4) (tT ht) (by decide) ht.lt) (by decide) (Nat.le_of_ble_eq_true rfl) ?_
  refine c_X5_everyThing ht hw hT ?_
  refine wp_iconst (pc := 5) (-1) dX5_areThings_5 (by decide) ?_
  refine wp_ixor (pc := 6) dX5_areThings_6 ?_
  refine wp_iand (pc := 7) dX5_areThings_7 ?_
  refine wp_ifne (pc := 8) 15 dX5_areThings_8 (by decide) (fun c_8 => ?_) (fun c_8 => ?_)
  · refine wp_iconst (pc := 15) (0) dX5_areThings_15 (by decide) ?_
    refine wp_iret (pc := 16) dX5_areThings_16 ⟨_, rfl, by decide⟩ ?_
    rw [decide_eq_false (fun z => c_8 ((areT hw.n x).mpr z))] at k; exact k
  · refine wp_iconst (pc := 11) (1) dX5_areThings_11 (by decide) ?_
    refine wp_goto (pc := 12) 16 dX5_areThings_12 (by decide) ?_
    refine wp_iret (pc := 16) dX5_areThings_16 ⟨_, rfl, by decide⟩ ?_
    rw [decide_eq_true ((areT hw.n x).mp c_8)] at k; exact k
theorem c_X5_beyond {d : Nat} {F I : Nat → Nat → Int32} {J : Nat → Nat → Int64} {Q : Option Value → sm_H → Prop} {t : Nat} (ht : isT t) {f : rw_} (hw : WF f) (hT : Tw t f F I) {a b : Nat} (ha : a < 100) (hb : b < 100) (h0 : 0 < f 68) (k : Q (some (.int (nI ((a + b) % f 68)))) (S0, F, I, J)) : Wp mX5_beyond (d) 0 0 0 (sm_ini [.ref t, .int (nI a), .int (nI b)] 3) [] (S0, F, I, J) Q := by
  show Wp _ _ _ _ _ [.ref t, .int (nI a), .int (nI b)] _ _ _
  have hn := hw.n
  refine wp_aload_n (pc := 0) 0 dX5_beyond_0 rfl rfl ?_
  refine wq_getI (pc := 1) 9 0 dX5_beyond_1 (tT ht) flX5_9 rfl ht.lt ?_
  refine wp_int hT.n ?_
  refine wp_ifle (pc := 4) 18 dX5_beyond_4 (by decide) (fun c_4 => ?_) (fun c_4 => ?_)
  · exact absurd c_4 (nI_nle h0 (by omega))
  · refine wp_iload_n (pc := 7) 1 dX5_beyond_7 rfl rfl ?_
    refine wp_iload_n (pc := 8) 2 dX5_beyond_8 rfl rfl ?_
    refine wp_iadd (pc := 9) dX5_beyond_9 ?_
    refine wp_int (nI_add _ _) ?_
    refine wp_aload_n (pc := 10) 0 dX5_beyond_10 rfl rfl ?_
    refine wq_getI (pc := 11) 9 0 dX5_beyond_11 (tT ht) flX5_9 rfl ht.lt ?_
    refine wp_int hT.n ?_
    refine wp_irem (pc := 14) dX5_beyond_14 (nI_ne0 h0 (by omega)) ?_
    refine wp_int (pk_rem (by omega) h0 (by omega)) ?_
    refine wp_goto (pc := 15) 19 dX5_beyond_15 (by decide) ?_
    refine wp_iretI (pc := 19) dX5_beyond_19 rfl ?_
    exact k
def mostP (w : Nat) : Nat := if w = 1 then 3 else if w = 3 then 1 else 99
def mostQ (w : Nat) : Nat := if w = 0 then 3 else if w = 1 then 999 else 255
theorem c_X5_most {d : Nat} {h : sm_H} {Q : Option Value → sm_H → Prop} {w : Nat} (h4 : w < 4) (k : Q (some (.int (nI (mostP w)))) h) : Wp mX5_most (d) 0 0 0 (sm_ini [.int (nI w)] 1) [] h Q := by
  show Wp _ _ _ _ _ [.int (nI w)] _ _ _
  rcases (show w = 0 ∨ w = 1 ∨ w = 2 ∨ w = 3 by omega) with rfl | rfl | rfl | rfl
  · refine wp_iload_n (pc := 0) 0 dX5_most_0 rfl rfl ?_
    refine wp_tswI (pc := 1) 0 28 dX5_most_1 (by decide) (by decide) rfl (by decide) ?_
    refine wp_bipush (pc := 28) (99) dX5_most_28 (by decide) ?_
    refine wp_iretI (pc := 30) dX5_most_30 rfl ?_
    exact k
  · refine wp_iload_n (pc := 0) 0 dX5_most_0 rfl rfl ?_
    refine wp_tswI (pc := 1) 1 31 dX5_most_1 (by decide) (by decide) rfl (by decide) ?_
    refine wp_iconst (pc := 31) (3) dX5_most_31 (by decide) ?_
    refine wp_iretI (pc := 32) dX5_most_32 rfl ?_
    exact k
  · refine wp_iload_n (pc := 0) 0 dX5_most_0 rfl rfl ?_
    refine wp_tswI (pc := 1) 2 33 dX5_most_1 (by decide) (by decide) rfl (by decide) ?_
    refine wp_bipush (pc := 33) (99) dX5_most_33 (by decide) ?_
    refine wp_iretI (pc := 35) dX5_most_35 rfl ?_
    exact k
  · refine wp_iload_n (pc := 0) 0 dX5_most_0 rfl rfl ?_
    refine wp_tswO (pc := 1) 36 dX5_most_1 (by decide) (by decide) ?_
    refine wp_iconst (pc := 36) (1) dX5_most_36 (by decide) ?_
    refine wp_iretI (pc := 37) dX5_most_37 rfl ?_
    exact k
theorem c_X5_mostTold {d : Nat} {h : sm_H} {Q : Option Value → sm_H → Prop} {w : Nat} (h3 : w < 3) (k : Q (some (.int (nI (mostQ w)))) h) : Wp mX5_mostTold (d) 0 0 0 (sm_ini [.int (nI w)] 1) [] h Q := by
  show Wp _ _ _ _ _ [.int (nI w)] _ _ _
  rcases (show w = 0 ∨ w = 1 ∨ w = 2 by omega) with rfl | rfl | rfl
  · refine wp_iload_n (pc := 0) 0 dX5_mostTold_0 rfl rfl ?_
    refine wp_ifne (pc := 1) 8 dX5_mostTold_1 (by decide) (fun c_1 => ?_) (fun c_1 => ?_)
    · exact absurd rfl c_1
    · refine wp_iconst (pc := 4) (3) dX5_mostTold_4 (by decide) ?_
      refine wp_goto (pc := 5) 22 dX5_mostTold_5 (by decide) ?_
      refine wp_iretI (pc := 22) dX5_mostTold_22 rfl ?_
      exact k
  · refine wp_iload_n (pc := 0) 0 dX5_mostTold_0 rfl rfl ?_
    refine wp_ifne (pc := 1) 8 dX5_mostTold_1 (by decide) (fun c_1 => ?_) (fun c_1 => ?_)
    · refine wp_iload_n (pc := 8) 0 dX5_mostTold_8 rfl rfl ?_
      refine wp_iconst (pc := 9) (1) dX5_mostTold_9 (by decide) ?_
      refine wp_icmp_ne (pc := 10) 19 dX5_mostTold_10 (by decide) (fun c_10 => ?_) (fun c_10 => ?_)
      · exact absurd rfl c_10
      · refine wp_sipush (pc := 13) (999) dX5_mostTold_13 (by decide) ?_
        refine wp_goto (pc := 16) 22 dX5_mostTold_16 (by decide) ?_
        refine wp_iretI (pc := 22) dX5_mostTold_22 rfl ?_
        exact k
    · exact absurd c_1 (by decide)
  · refine wp_iload_n (pc := 0) 0 dX5_mostTold_0 rfl rfl ?_
    refine wp_ifne (pc := 1) 8 dX5_mostTold_1 (by decide) (fun c_1 => ?_) (fun c_1 => ?_)
    · refine wp_iload_n (pc := 8) 0 dX5_mostTold_8 rfl rfl ?_
      refine wp_iconst (pc := 9) (1) dX5_mostTold_9 (by decide) ?_
      refine wp_icmp_ne (pc := 10) 19 dX5_mostTold_10 (by decide) (fun c_10 => ?_) (fun c_10 => ?_)
      · refine wp_sipush (pc := 19) (255) dX5_mostTold_19 (by decide) ?_
        refine wp_iretI (pc := 22) dX5_mostTold_22 rfl ?_
        exact k
      · exact absurd c_10 (by decide)
    · exact absurd c_1 (by decide)
theorem c_X5_toldOf {d : Nat} {F I : Nat → Nat → Int32} {J : Nat → Nat → Int64} {Q : Option Value → sm_H → Prop} {t : Nat} (ht : isT t) {f : rw_} (hw : WF f) (hT : Tw t f F I) {w : Nat} (h3 : w < 3) (k : Q (some (.int (nI (f (70 + w))))) (S0, F, I, J)) : Wp mX5_toldOf (d) 0 0 0 (sm_ini [.ref t, .int (nI w)] 2) [] (S0, F, I, J) Q := by
  show Wp _ _ _ _ _ [.ref t, .int (nI w)] _ _ _
  have hn := hw.n
  have hbn := bn_1024 hw
  rcases (show w = 0 ∨ w = 1 ∨ w = 2 by omega) with rfl | rfl | rfl
  · refine wp_iload_n (pc := 0) 1 dX5_toldOf_0 rfl rfl ?_
    refine wp_ifne (pc := 1) 11 dX5_toldOf_1 (by decide) (fun c_1 => ?_) (fun c_1 => ?_)
    · exact absurd rfl c_1
    · refine wp_aload_n (pc := 4) 0 dX5_toldOf_4 rfl rfl ?_
      refine wq_getI (pc := 5) 31 6 dX5_toldOf_5 (tT ht) flX5_31 rfl ht.lt ?_
      refine wp_int hT.wth ?_
      refine wp_goto (pc := 8) 27 dX5_toldOf_8 (by decide) ?_
      refine wp_iretI (pc := 27) dX5_toldOf_27 rfl ?_
      exact k
  · refine wp_iload_n (pc := 0) 1 dX5_toldOf_0 rfl rfl ?_
    refine wp_ifne (pc := 1) 11 dX5_toldOf_1 (by decide) (fun c_1 => ?_) (fun c_1 => ?_)
    · refine wp_iload_n (pc := 11) 1 dX5_toldOf_11 rfl rfl ?_
      refine wp_iconst (pc := 12) (1) dX5_toldOf_12 (by decide) ?_
      refine wp_icmp_ne (pc := 13) 23 dX5_toldOf_13 (by decide) (fun c_13 => ?_) (fun c_13 => ?_)
      · exact absurd rfl c_13
      · refine wp_aload_n (pc := 16) 0 dX5_toldOf_16 rfl rfl ?_
        refine wq_getI (pc := 17) 34 7 dX5_toldOf_17 (tT ht) flX5_34 rfl ht.lt ?_
        refine wp_int hT.year ?_
        refine wp_goto (pc := 20) 27 dX5_toldOf_20 (by decide) ?_
        refine wp_iretI (pc := 27) dX5_toldOf_27 rfl ?_
        exact k
    · exact absurd c_1 (by decide)
  · refine wp_iload_n (pc := 0) 1 dX5_toldOf_0 rfl rfl ?_
    refine wp_ifne (pc := 1) 11 dX5_toldOf_1 (by decide) (fun c_1 => ?_) (fun c_1 => ?_)
    · refine wp_iload_n (pc := 11) 1 dX5_toldOf_11 rfl rfl ?_
      refine wp_iconst (pc := 12) (1) dX5_toldOf_12 (by decide) ?_
      refine wp_icmp_ne (pc := 13) 23 dX5_toldOf_13 (by decide) (fun c_13 => ?_) (fun c_13 => ?_)
      · refine wp_aload_n (pc := 23) 0 dX5_toldOf_23 rfl rfl ?_
        refine wq_getI (pc := 24) 37 8 dX5_toldOf_24 (tT ht) flX5_37 rfl ht.lt ?_
        refine wp_int hT.crk ?_
        refine wp_iretI (pc := 27) dX5_toldOf_27 rfl ?_
        exact k
      · exact absurd c_13 (by decide)
    · exact absurd c_1 (by decide)
def partN (f : rw_) (i w : Nat) : Nat := if w = 0 then f (5 * i) else if w = 1 then f (5 * i + 1) else if w = 2 then f (5 * i + 4) else if w = 3 then ((bn f).testBit i).toNat else if w = 4 then f (5 * i + 2) else if w = 5 then ((sta f (bn f)).testBit i).toNat else if w = 6 then (opn f i).toNat else may f i
theorem c_X5_partOf {d : Nat} {F I : Nat → Nat → Int32} {J : Nat → Nat → Int64} {Q : Option Value → sm_H → Prop} {t : Nat} (ht : isT t) {f : rw_} (hw : WF f) (hT : Tw t f F I) {i w : Nat} (hi : i < 10) (h8 : w < 8) (k : Q (some (.int (nI (partN f i w)))) (S0, F, I, J)) : Wp mX5_partOf (d + 3) 0 0 0 (sm_ini [.ref t, .int (nI i), .int (nI w)] 3) [] (S0, F, I, J) Q := by
  show Wp _ _ _ _ _ [.ref t, .int (nI i), .int (nI w)] _ _ _
  have hn := hw.n
  have hbn := bn_1024 hw
  rcases (show w = 0 ∨ w = 1 ∨ w = 2 ∨ w = 3 ∨ w = 4 ∨ w = 5 ∨ w = 6 ∨ w = 7 by omega) with rfl | rfl | rfl | rfl | rfl | rfl | rfl | rfl
  · refine wp_iload_n (pc := 0) 2 dX5_partOf_0 rfl rfl ?_
    refine wp_tswI (pc := 1) 0 44 dX5_partOf_1 (by decide) (by decide) rfl (by decide) ?_
    refine wp_aload_n (pc := 44) 0 dX5_partOf_44 rfl rfl ?_
    refine wq_getR (pc := 45) 15 1 dX5_partOf_45 (tT ht) flX5_15 rfl rfl ht.lt (ht.ltn 1) ?_
    refine wp_iload_n (pc := 48) 1 dX5_partOf_48 rfl rfl ?_
    refine wc_SN_RI (pc := 49) dX5_partOf_49 lkX5_71 (by decide) (Nat.le_of_ble_eq_true rfl) ?_
    refine c_X6_at (tT1 ht) (ht.ltn 1) (by decide) hi ?_
    refine wp_int (hT.worth hi) ?_
    refine wp_iretI (pc := 52) dX5_partOf_52 rfl ?_
    exact k
  · refine wp_iload_n (pc := 0) 2 dX5_partOf_0 rfl rfl ?_
    refine wp_tswI (pc := 1) 1 53 dX5_partOf_1 (by decide) (by decide) rfl (by decide) ?_
    refine wp_aload_n (pc := 53) 0 dX5_partOf_53 rfl rfl ?_
    refine wq_getR (pc := 54) 19 2 dX5_partOf_54 (tT ht) flX5_19 rfl rfl ht.lt (ht.ltn 2) ?_
    refine wp_iload_n (pc := 57) 1 dX5_partOf_57 rfl rfl ?_
    refine wc_SN_RI (pc := 58) dX5_partOf_58 lkX5_71 (by decide) (Nat.le_of_ble_eq_true rfl) ?_
    refine c_X6_at (tT2 ht) (ht.ltn 2) (by decide) hi ?_
    refine wp_int (hT.rung hi) ?_
    refine wp_iretI (pc := 61) dX5_partOf_61 rfl ?_
    exact k
  · refine wp_iload_n (pc := 0) 2 dX5_partOf_0 rfl rfl ?_
    refine wp_tswI (pc := 1) 2 62 dX5_partOf_1 (by decide) (by decide) rfl (by decide) ?_
    refine wp_aload_n (pc := 62) 0 dX5_partOf_62 rfl rfl ?_
    refine wq_getR (pc := 63) 22 3 dX5_partOf_63 (tT ht) flX5_22 rfl rfl ht.lt (ht.ltn 3) ?_
    refine wp_iload_n (pc := 66) 1 dX5_partOf_66 rfl rfl ?_
    refine wc_SN_RI (pc := 67) dX5_partOf_67 lkX5_71 (by decide) (Nat.le_of_ble_eq_true rfl) ?_
    refine c_X6_at (tT3 ht) (ht.ltn 3) (by decide) hi ?_
    refine wp_int (hT.age hi) ?_
    refine wp_iretI (pc := 70) dX5_partOf_70 rfl ?_
    exact k
  · refine wp_iload_n (pc := 0) 2 dX5_partOf_0 rfl rfl ?_
    refine wp_tswI (pc := 1) 3 71 dX5_partOf_1 (by decide) (by decide) rfl (by decide) ?_
    refine wp_aload_n (pc := 71) 0 dX5_partOf_71 rfl rfl ?_
    refine wq_getI (pc := 72) 28 5 dX5_partOf_72 (tT ht) flX5_28 rfl ht.lt ?_
    refine wp_int hT.been ?_
    refine wp_iload_n (pc := 75) 1 dX5_partOf_75 rfl rfl ?_
    refine wc_SN_II (pc := 76) dX5_partOf_76 lkX5_75 (by decide) (Nat.le_of_ble_eq_true rfl) ?_
    refine c_X6_bitOf (by omega) (by omega) ?_
    refine wp_int (b2_nI _) ?_
    refine wp_iretI (pc := 79) dX5_partOf_79 rfl ?_
    exact k
  · refine wp_iload_n (pc := 0) 2 dX5_partOf_0 rfl rfl ?_
    refine wp_tswI (pc := 1) 4 80 dX5_partOf_1 (by decide) (by decide) rfl (by decide) ?_
    refine wp_aload_n (pc := 80) 0 dX5_partOf_80 rfl rfl ?_
    refine wp_iload_n (pc := 81) 1 dX5_partOf_81 rfl rfl ?_
    refine wc_V_I (pc := 82) dX5_partOf_82 lkX5_79 (sm_Rc.o (ci := 4) (tT ht) (by decide) ht.lt) (by decide) (Nat.le_of_ble_eq_true rfl) ?_
    refine c_X5_hungOf ht hw hT hi ?_
    refine wp_iretI (pc := 85) dX5_partOf_85 rfl ?_
    exact k
  · refine wp_iload_n (pc := 0) 2 dX5_partOf_0 rfl rfl ?_
    refine wp_tswI (pc := 1) 5 86 dX5_partOf_1 (by decide) (by decide) rfl (by decide) ?_
    refine wp_aload_n (pc := 86) 0 dX5_partOf_86 rfl rfl ?_
    refine wp_aload_n (pc := 87) 0 dX5_partOf_87 rfl rfl ?_
    refine wq_getI (pc := 88) 28 5 dX5_partOf_88 (tT ht) flX5_28 rfl ht.lt ?_
    refine wp_int hT.been ?_
    refine wc_V_I (pc := 91) dX5_partOf_91 lkX5_83 (sm_Rc.o (ci := 4) (tT ht) (by decide) ht.lt) (by decide) (Nat.le_of_ble_eq_true rfl) ?_
    refine c_X5_standing ht hw hT (by omega) ?_
    refine wp_iload_n (pc := 94) 1 dX5_partOf_94 rfl rfl ?_
    refine wc_SN_II (pc := 95) dX5_partOf_95 lkX5_75 (by decide) (Nat.le_of_ble_eq_true rfl) ?_
    refine c_X6_bitOf (Nat.lt_trans (sta_1024 f _) (by decide)) (by omega) ?_
    refine wp_int (b2_nI _) ?_
    refine wp_iretI (pc := 98) dX5_partOf_98 rfl ?_
    exact k
  · refine wp_iload_n (pc := 0) 2 dX5_partOf_0 rfl rfl ?_
    refine wp_tswI (pc := 1) 6 99 dX5_partOf_1 (by decide) (by decide) rfl (by decide) ?_
    refine wp_aload_n (pc := 99) 0 dX5_partOf_99 rfl rfl ?_
    refine wp_iload_n (pc := 100) 1 dX5_partOf_100 rfl rfl ?_
    refine wc_V_I (pc := 101) dX5_partOf_101 lkX5_86 (sm_Rc.o (ci := 4) (tT ht) (by decide) ht.lt) (by decide) (Nat.le_of_ble_eq_true rfl) ?_
    refine c_X5_isOpen ht hw hT (by omega) ?_
    refine wp_ifeqB (pc := 104) 111 dX5_partOf_104 (by decide) (fun c_104 => ?_) (fun c_104 => ?_)
    · refine wp_iconst (pc := 111) (0) dX5_partOf_111 (by decide) ?_
      refine wp_iretI (pc := 112) dX5_partOf_112 rfl ?_
      rw [show partN f i 6 = 0 by simp [partN, c_104]] at k; exact k
    · refine wp_iconst (pc := 107) (1) dX5_partOf_107 (by decide) ?_
      refine wp_goto (pc := 108) 112 dX5_partOf_108 (by decide) ?_
      refine wp_iretI (pc := 112) dX5_partOf_112 rfl ?_
      rw [show partN f i 6 = 1 by simp [partN, c_104]] at k; exact k
  · refine wp_iload_n (pc := 0) 2 dX5_partOf_0 rfl rfl ?_
    refine wp_tswO (pc := 1) 113 dX5_partOf_1 (by decide) (by decide) ?_
    refine wp_aload_n (pc := 113) 0 dX5_partOf_113 rfl rfl ?_
    refine wp_iload_n (pc := 114) 1 dX5_partOf_114 rfl rfl ?_
    refine wc_V_I (pc := 115) dX5_partOf_115 lkX5_90 (sm_Rc.o (ci := 4) (tT ht) (by decide) ht.lt) (by decide) (Nat.le_of_ble_eq_true rfl) ?_
    refine c_X5_mayBeRung ht hw hT hi ?_
    refine wp_iretI (pc := 118) dX5_partOf_118 rfl ?_
    exact k
