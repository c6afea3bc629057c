/-! ===== changes of the shelves; the tape ===== -/
def srt : Nat → Int64 → Int64
  | 0, v => v.toInt32.toInt8.toInt32.toInt64
  | 1, v => v.toInt32.toInt16.toInt32.toInt64
  | 2, v => v.toInt32.toInt64
  | 3, v => v
  | _, v => if v = 0 then 0 else 1
def ShF (c : Nat) (I : Nat → Nat → Int32) (J : Nat → Nat → Int64) (I1 : Nat → Nat → Int32) (J1 : Nat → Nat → Int64) : Prop := ∀ a, (a ≠ c → a ≠ c + 1 → I1 a = I a) ∧ (a ≠ c + 2 → J1 a = J a)
theorem ShR.uh {c : Nat} {hd : Nat → Option Nat} {zs : Nat → Nat} {el : Nat → Int64} {I : Nat → Nat → Int32} {J : Nat → Nat → Int64} (h : ShR c hd zs el I J) (s : Nat) (o : Option Nat) : ShR c (pu hd s o) zs el (sm_up I c s (eN o)) J := by
  refine ⟨fun x hx => ?_, fun x hx => ?_, h.2.2⟩
  · by_cases e : x = s
    · subst e; rw [up_eq, pu_eq]
    · rw [up_nj e, pu_ne e]; exact h.1 x hx
  · rw [up_nk (by omega)]; exact h.2.1 x hx
theorem ShR.uz {c : Nat} {hd : Nat → Option Nat} {zs : Nat → Nat} {el : Nat → Int64} {I : Nat → Nat → Int32} {J : Nat → Nat → Int64} (h : ShR c hd zs el I J) (s n : Nat) : ShR c hd (pu zs s n) el (sm_up I (c + 1) s (nI n)) J := by
  refine ⟨fun x hx => ?_, fun x hx => ?_, h.2.2⟩
  · rw [up_nk (by omega)]; exact h.1 x hx
  · by_cases e : x = s
    · subst e; rw [up_eq, pu_eq]
    · rw [up_nj e, pu_ne e]; exact h.2.1 x hx
theorem ShR.ue {c : Nat} {hd : Nat → Option Nat} {zs : Nat → Nat} {el : Nat → Int64} {I : Nat → Nat → Int32} {J : Nat → Nat → Int64} (h : ShR c hd zs el I J) (j : Nat) (v : Int64) : ShR c hd zs (pu el j v) I (sm_up J (c + 2) j v) := by
  refine ⟨h.1, h.2.1, fun x hx => ?_⟩
  by_cases e : x = j
  · subst e; rw [up_eq, pu_eq]
  · rw [up_nj e, pu_ne e]; exact h.2.2 x hx
theorem ShF.rf {c : Nat} {I : Nat → Nat → Int32} {J : Nat → Nat → Int64} : ShF c I J I J := fun _ => ⟨fun _ _ => rfl, fun _ => rfl⟩
theorem ShF.I {c k j : Nat} {I I1 : Nat → Nat → Int32} {J J1 : Nat → Nat → Int64} {v : Int32} (h : ShF c I J I1 J1) (hk : k = c ∨ k = c + 1) : ShF c I J (sm_up I1 k j v) J1 := fun a => ⟨fun h1 h2 => (sm_up_ne (by omega)).trans ((h a).1 h1 h2), (h a).2⟩
theorem ShF.J {c j : Nat} {I I1 : Nat → Nat → Int32} {J J1 : Nat → Nat → Int64} {v : Int64} (h : ShF c I J I1 J1) : ShF c I J I1 (sm_up J1 (c + 2) j v) := fun a => ⟨(h a).1, fun h1 => (sm_up_ne h1).trans ((h a).2 h1)⟩
def elZ (el : Nat → Int64) (b i : Nat) : Nat → Int64 := fun x => if b ≤ x ∧ x < b + i then 0 else el x
def JZ (J : Nat → Nat → Int64) (c b i : Nat) : Nat → Nat → Int64 := fun a x => if a = c ∧ b ≤ x ∧ x < b + i then 0 else J a x
theorem JZ_0 {J : Nat → Nat → Int64} {c b : Nat} : JZ J c b 0 = J := by
  funext a x
  exact if_neg (by omega)
theorem JZ_s {J : Nat → Nat → Int64} {c b i : Nat} : sm_up (JZ J c b i) c (b + i) 0 = JZ J c b (i + 1) := by
  funext a x
  simp only [sm_up, JZ]
  by_cases h1 : a = c ∧ x = b + i
  · rw [if_pos h1, if_pos (by omega)]
  · rw [if_neg h1]
    by_cases h2 : a = c ∧ b ≤ x ∧ x < b + i
    · rw [if_pos h2, if_pos (by omega)]
    · rw [if_neg h2, if_neg (by omega)]
theorem ShR.z {c : Nat} {hd : Nat → Option Nat} {zs : Nat → Nat} {el : Nat → Int64} {I : Nat → Nat → Int32} {J : Nat → Nat → Int64} (h : ShR c hd zs el I J) (b i : Nat) : ShR c hd zs (elZ el b i) I (JZ J (c + 2) b i) := by
  refine ⟨h.1, h.2.1, fun x hx => ?_⟩
  simp only [JZ, elZ]
  by_cases e : b ≤ x ∧ x < b + i
  · rw [if_pos e, if_pos ⟨trivial, e⟩]
  · rw [if_neg e, if_neg (fun z => e z.2)]; exact h.2.2 x hx
theorem ShF.z {c b i : Nat} {I I1 : Nat → Nat → Int32} {J J1 : Nat → Nat → Int64} (h : ShF c I J I1 J1) : ShF c I J I1 (JZ J1 (c + 2) b i) := fun a => ⟨(h a).1, fun h1 => by
  rw [← (h a).2 h1]
  funext x
  exact if_neg (fun z => h1 z.1)⟩
/-- what may be taken of a row -/
def prtB (sz : Nat) (y z : Int32) : Bool := decide (0 ≤ y) && (decide (0 ≤ z) && (decide (z ≤ nI sz) && decide (y ≤ nI sz - z)))
theorem sub_toInt {a b : Nat} (ha : a ≤ 40) (hb : b < 2 ^ 31) : (nI a - nI b).toInt = (a : Int) - b := by
  rw [Int32.toInt_sub, nI_toInt (by omega), nI_toInt hb]
  exact Int.bmod_eq_of_le (by omega) (by omega)
theorem prtB_n {sz a m : Nat} (hsz : sz ≤ 40) (ha : a < 2 ^ 31) (hm : m < 2 ^ 31) : prtB sz (nI a) (nI m) = decide (a + m ≤ sz) := by
  have h1 : (0 : Int32) ≤ nI a := nI_pos' ha
  have h2 : (0 : Int32) ≤ nI m := nI_pos' hm
  unfold prtB
  rw [decide_eq_true h1, decide_eq_true h2]
  simp only [Bool.true_and]
  by_cases h : a + m ≤ sz
  · rw [decide_eq_true h, decide_eq_true (nI_le (by omega) (by omega)), decide_eq_true]
    · rfl
    · rw [Int32.le_iff_toInt_le, sub_toInt hsz hm, nI_toInt ha]; omega
  · rw [decide_eq_false h]
    by_cases h3 : m ≤ sz
    · rw [show decide (nI a ≤ nI sz - nI m) = false from decide_eq_false (fun z => by
        rw [Int32.le_iff_toInt_le, sub_toInt hsz hm, nI_toInt ha] at z; omega)]
      exact Bool.and_false _
    · rw [show decide (nI m ≤ nI sz) = false from decide_eq_false (nI_ge (by omega) hm)]
      rfl
theorem prtB_t {sz : Nat} {y z : Int32} (hsz : sz ≤ 40) (h : prtB sz y z = true) : ∃ a m, y = nI a ∧ z = nI m ∧ a + m ≤ sz := by
  have h0 := h
  unfold prtB at h0
  simp only [Bool.and_eq_true, decide_eq_true_eq] at h0
  obtain ⟨a, ha, rfl⟩ := nI_of (x := y) (Int32.not_lt.mpr h0.1)
  obtain ⟨m, hm, rfl⟩ := nI_of (x := z) (Int32.not_lt.mpr h0.2.1)
  rw [prtB_n hsz ha hm] at h
  exact ⟨a, m, rfl, rfl, of_decide_eq_true h⟩
theorem c_X3_putLong {d : Nat} {F I : Nat → Nat → Int32} {J : Nat → Nat → Int64} {Q : Option Value → sm_H → Prop} {s : Nat} (hs : s < 8) {i : Nat} (hi : i < 40) {v : Int64} (k : Q none (S0, F, I, sm_up J 34 (s * 40 + i) v)) : Wp mX3_putLong (d) 0 0 0 (sm_ini [.ref 31, .int (nI s), .int (nI i), .long v] 6) [] (S0, F, I, J) Q := by
  show Wp _ _ _ _ _ [.ref 31, .int (nI s), .int (nI i), .long v, .null, .null] _ _ _
  refine wp_iload_n (pc := 0) 1 dX3_putLong_0 rfl rfl ?_
  refine wp_bipush (pc := 1) (40) dX3_putLong_1 (by decide) ?_
  refine wp_imul (pc := 3) dX3_putLong_3 ?_
  refine wp_int (nI_mul s 40) ?_
  refine wp_iload_n (pc := 4) 2 dX3_putLong_4 rfl rfl ?_
  
  refine wp_iadd (pc := 5) dX3_putLong_5 ?_
  
  refine wp_int (nI_add _ _) ?_
  refine wp_istore (pc := 6) 5 dX3_putLong_6 (by decide) rfl ?_
  refine wp_iload (pc := 8) 5 dX3_putLong_8 rfl ?_
  refine wp_iflt (pc := 10) 31 dX3_putLong_10 (by decide) (fun c_10 => ?_) (fun c_10 => ?_)
  · exact absurd c_10 (nI_pos (by omega))
  · refine wp_iload (pc := 13) 5 dX3_putLong_13 rfl ?_
    refine wp_aload_n (pc := 15) 0 dX3_putLong_15 rfl rfl ?_
    refine wq_getR (pc := 16) 18 2 dX3_putLong_16 s0_31 flX3_18 rfl rfl (by decide) (by decide) ?_
    refine wp_alenL (pc := 19) 320 dX3_putLong_19 s0_34 (by decide) (by decide) ?_
    refine wp_icmp_ge (pc := 20) 31 dX3_putLong_20 (by decide) (fun c_20 => ?_) (fun c_20 => ?_)
    · exact absurd c_20 (nI_ge (b := 320) (show s * 40 + i < 320 by omega) (by decide))
    · refine wp_aload_n (pc := 23) 0 dX3_putLong_23 rfl rfl ?_
      refine wq_getR (pc := 24) 18 2 dX3_putLong_24 s0_31 flX3_18 rfl rfl (by decide) (by decide) ?_
      refine wp_iload (pc := 27) 5 dX3_putLong_27 rfl ?_
      refine wp_lload_n (pc := 29) 3 dX3_putLong_29 rfl rfl ?_
      refine wq_last (pc := 30) (s * 40 + i) dX3_putLong_30 s0_34 (by decide) rfl (by omega) (by decide) ?_
      refine wp_ret (pc := 31) dX3_putLong_31 rfl ?_
      exact k
theorem c_X3_asSort {d : Nat} {h : sm_H} {Q : Option Value → sm_H → Prop} {k : Nat} (hk : k ≤ 4) {v : Int64} (kk : Q (some (.long (srt k v))) h) : Wp mX3_asSort d 0 0 0 (sm_ini [.int (nI k), .long v] 3) [] h Q := by
  show Wp _ _ _ _ _ [.int (nI k), .long v, .null] _ _ _
  rcases (show k = 0 ∨ k = 1 ∨ k = 2 ∨ k = 3 ∨ k = 4 by omega) with rfl | rfl | rfl | rfl | rfl
  · refine wp_iload_n (pc := 0) 0 dX3_asSort_0 rfl rfl ?_
    refine wp_tswI (pc := 1) 0 36 dX3_asSort_1 (by decide) (by decide) rfl (by decide) ?_
    refine wp_lload_n (pc := 36) 1 dX3_asSort_36 rfl rfl ?_
    refine wp_l2i (pc := 37) dX3_asSort_37 ?_
    refine wp_i2b (pc := 38) dX3_asSort_38 ?_
    refine wp_i2l (pc := 39) dX3_asSort_39 ?_
    refine wp_lret (pc := 40) dX3_asSort_40 rfl ?_
    exact kk
  · refine wp_iload_n (pc := 0) 0 dX3_asSort_0 rfl rfl ?_
    refine wp_tswI (pc := 1) 1 41 dX3_asSort_1 (by decide) (by decide) rfl (by decide) ?_
    refine wp_lload_n (pc := 41) 1 dX3_asSort_41 rfl rfl ?_
    refine wp_l2i (pc := 42) dX3_asSort_42 ?_
    refine wp_i2s (pc := 43) dX3_asSort_43 ?_
    refine wp_i2l (pc := 44) dX3_asSort_44 ?_
    refine wp_lret (pc := 45) dX3_asSort_45 rfl ?_
    exact kk
  · refine wp_iload_n (pc := 0) 0 dX3_asSort_0 rfl rfl ?_
    refine wp_tswI (pc := 1) 2 46 dX3_asSort_1 (by decide) (by decide) rfl (by decide) ?_
    refine wp_lload_n (pc := 46) 1 dX3_asSort_46 rfl rfl ?_
    refine wp_l2i (pc := 47) dX3_asSort_47 ?_
    refine wp_i2l (pc := 48) dX3_asSort_48 ?_
    refine wp_lret (pc := 49) dX3_asSort_49 rfl ?_
    exact kk
  · refine wp_iload_n (pc := 0) 0 dX3_asSort_0 rfl rfl ?_
    refine wp_tswI (pc := 1) 3 62 dX3_asSort_1 (by decide) (by decide) rfl (by decide) ?_
    refine wp_lload_n (pc := 62) 1 dX3_asSort_62 rfl rfl ?_
    refine wp_lret (pc := 63) dX3_asSort_63 rfl ?_
    exact kk
  · refine wp_iload_n (pc := 0) 0 dX3_asSort_0 rfl rfl ?_
    refine wp_tswI (pc := 1) 4 50 dX3_asSort_1 (by decide) (by decide) rfl (by decide) ?_
    refine wp_lload_n (pc := 50) 1 dX3_asSort_50 rfl rfl ?_
    refine wp_lconst (pc := 51) 0 dX3_asSort_51 (by decide) ?_
    refine wp_lcmp (pc := 52) dX3_asSort_52 ?_
    refine wp_ifeq (pc := 53) 60 dX3_asSort_53 (by decide) (fun c_53 => ?_) (fun c_53 => ?_)
    · refine wp_lconst (pc := 60) 0 dX3_asSort_60 (by decide) ?_
      refine wp_lret (pc := 61) dX3_asSort_61 rfl ?_
      rw [show srt 4 v = 0 from if_pos ((lg_cmp_eq _ _).mp c_53)] at kk; exact kk
    · refine wp_lconst (pc := 56) 1 dX3_asSort_56 (by decide) ?_
      refine wp_goto (pc := 57) 61 dX3_asSort_57 (by decide) ?_
      refine wp_lret (pc := 61) dX3_asSort_61 rfl ?_
      rw [show srt 4 v = 1 from if_neg (fun z => c_53 ((lg_cmp_eq _ _).mpr z))] at kk; exact kk
theorem c_X3_putElement {d : Nat} {F I : Nat → Nat → Int32} {J : Nat → Nat → Int64} {Q : Option Value → sm_H → Prop} {hd : Nat → Option Nat} {zs : Nat → Nat} {el : Nat → Int64} (hS : ShR 32 hd zs el I J) (ho : hok hd zs) {s : Nat} (hs : s < 8) {i : Nat} (hi : i < 40) {v : Int64} {k : Nat} (e : hd s = some k) (hk : k ≤ 4) (kk : Q none (S0, F, I, sm_up J 34 (s * 40 + i) (srt k v))) : Wp mX3_putElement (d + 2) 0 0 0 (sm_ini [.ref 31, .int (nI s), .int (nI i), .long v] 5) [] (S0, F, I, J) Q := by
  show Wp _ _ _ _ _ [.ref 31, .int (nI s), .int (nI i), .long v, .null] _ _ _
  refine wp_aload_n (pc := 0) 0 dX3_putElement_0 rfl rfl ?_
  refine wp_iload_n (pc := 1) 1 dX3_putElement_1 rfl rfl ?_
  refine wp_iload_n (pc := 2) 2 dX3_putElement_2 rfl rfl ?_
  refine wp_aload_n (pc := 3) 0 dX3_putElement_3 rfl rfl ?_
  refine wp_iload_n (pc := 4) 1 dX3_putElement_4 rfl rfl ?_
  refine wc_V_I (pc := 5) dX3_putElement_5 lkX3_30 (sm_Rc.o (ci := 2) s0_31 (by decide) (by decide)) (by decide) (Nat.le_of_ble_eq_true rfl) ?_
  refine c_X3_heldIn_i hS ho hs ?_
  refine wp_int (y := nI k) (by rw [e]; rfl) ?_
  refine wp_lload_n (pc := 8) 3 dX3_putElement_8 rfl rfl ?_
  refine wc_S_IJ (pc := 9) dX3_putElement_9 lkX3_51 (by decide) (Nat.le_of_ble_eq_true rfl) ?_
  refine c_X3_asSort hk ?_
  refine wc_V_IIJ (pc := 12) dX3_putElement_12 lkX3_47 (sm_Rc.o (ci := 2) s0_31 (by decide) (by decide)) (by decide) (Nat.le_of_ble_eq_true rfl) ?_
  refine c_X3_putLong hs hi ?_
  refine wp_ret (pc := 15) dX3_putElement_15 rfl ?_
  exact kk
theorem c_X3_putRinger_n {d : Nat} {F I : Nat → Nat → Int32} {J : Nat → Nat → Int64} {Q : Option Value → sm_H → Prop} {hd : Nat → Option Nat} {zs : Nat → Nat} {el : Nat → Int64} (hS : ShR 32 hd zs el I J) (ho : hok hd zs) {s : Nat} (hs : s < 8) (k : Q none (S0, F, sm_up I 32 s (-1), J)) : Wp mX3_putRinger (d + 1) 0 0 0 (sm_ini [.ref 31, .int (nI s), .int (-1)] 3) [] (S0, F, I, J) Q := by
  show Wp _ _ _ _ _ [.ref 31, .int (nI s), .int (-1)] _ _ _
  refine wp_aload_n (pc := 0) 0 dX3_putRinger_0 rfl rfl ?_
  refine wq_getR (pc := 1) 11 0 dX3_putRinger_1 s0_31 flX3_11 rfl rfl (by decide) (by decide) ?_
  refine wp_iload_n (pc := 4) 1 dX3_putRinger_4 rfl rfl ?_
  refine wp_iload_n (pc := 5) 2 dX3_putRinger_5 rfl rfl ?_
  refine wp_iconst (pc := 6) (-1) dX3_putRinger_6 (by decide) ?_
  refine wp_icmp_ne (pc := 7) 14 dX3_putRinger_7 (by decide) (fun c_7 => ?_) (fun c_7 => ?_)
  · exact absurd rfl c_7
  · refine wp_iconst (pc := 10) (-1) dX3_putRinger_10 (by decide) ?_
    refine wp_goto (pc := 11) 18 dX3_putRinger_11 (by decide) ?_
    refine wc_SN_RII (pc := 18) dX3_putRinger_18 lkX3_43 (by decide) (Nat.le_of_ble_eq_true rfl) ?_
    refine c_X6_put s0_32 (by decide) (by decide) hs ?_
    refine wp_ret (pc := 21) dX3_putRinger_21 rfl ?_
    exact k
theorem c_X3_putRinger_s {d : Nat} {F I : Nat → Nat → Int32} {J : Nat → Nat → Int64} {Q : Option Value → sm_H → Prop} {hd : Nat → Option Nat} {zs : Nat → Nat} {el : Nat → Int64} (hS : ShR 32 hd zs el I J) (ho : hok hd zs) {s : Nat} (hs : s < 8) {r : Nat} (hr : r < 16) (k : Q none (S0, F, sm_up I 32 s (nI (10 + r)), J)) : Wp mX3_putRinger (d + 1) 0 0 0 (sm_ini [.ref 31, .int (nI s), .int (nI r)] 3) [] (S0, F, I, J) Q := by
  show Wp _ _ _ _ _ [.ref 31, .int (nI s), .int (nI r)] _ _ _
  refine wp_aload_n (pc := 0) 0 dX3_putRinger_0 rfl rfl ?_
  refine wq_getR (pc := 1) 11 0 dX3_putRinger_1 s0_31 flX3_11 rfl rfl (by decide) (by decide) ?_
  refine wp_iload_n (pc := 4) 1 dX3_putRinger_4 rfl rfl ?_
  refine wp_iload_n (pc := 5) 2 dX3_putRinger_5 rfl rfl ?_
  refine wp_iconst (pc := 6) (-1) dX3_putRinger_6 (by decide) ?_
  refine wp_icmp_ne (pc := 7) 14 dX3_putRinger_7 (by decide) (fun c_7 => ?_) (fun c_7 => ?_)
  · refine wp_bipush (pc := 14) (10) dX3_putRinger_14 (by decide) ?_
    refine wp_iload_n (pc := 16) 2 dX3_putRinger_16 rfl rfl ?_
    refine wp_iadd (pc := 17) dX3_putRinger_17 ?_
    refine wp_int (nI_add 10 _) ?_
    refine wc_SN_RII (pc := 18) dX3_putRinger_18 lkX3_43 (by decide) (Nat.le_of_ble_eq_true rfl) ?_
    refine c_X6_put s0_32 (by decide) (by decide) hs ?_
    refine wp_ret (pc := 21) dX3_putRinger_21 rfl ?_
    exact k
  · exact absurd c_7 (m1_ne (by omega))
theorem c_X3_putRow {d : Nat} {F I : Nat → Nat → Int32} {J : Nat → Nat → Int64} {Q : Option Value → sm_H → Prop} {hd : Nat → Option Nat} {zs : Nat → Nat} {el : Nat → Int64} (hS : ShR 32 hd zs el I J) (ho : hok hd zs) {s : Nat} (hs : s < 8) {o n : Nat} (hn : n ≤ 40) (kk : ∀ I1 J1, ShR 32 (pu hd s (some o)) (pu zs s n) (elZ el (s * 40) 40) I1 J1 → ShF 32 I J I1 J1 → Q none (S0, F, I1, J1)) : Wp mX3_putRow (d + 1) 0 0 0 (sm_ini [.ref 31, .int (nI s), .int (nI o), .int (nI n)] 5) [] (S0, F, I, J) Q := by
  show Wp _ _ _ _ _ [.ref 31, .int (nI s), .int (nI o), .int (nI n), .null] _ _ _
  refine wp_aload_n (pc := 0) 0 dX3_putRow_0 rfl rfl ?_
  refine wq_getR (pc := 1) 11 0 dX3_putRow_1 s0_31 flX3_11 rfl rfl (by decide) (by decide) ?_
  refine wp_iload_n (pc := 4) 1 dX3_putRow_4 rfl rfl ?_
  refine wp_iload_n (pc := 5) 2 dX3_putRow_5 rfl rfl ?_
  refine wc_SN_RII (pc := 6) dX3_putRow_6 lkX3_43 (by decide) (Nat.le_of_ble_eq_true rfl) ?_
  refine c_X6_put s0_32 (by decide) (by decide) hs ?_
  refine wp_aload_n (pc := 9) 0 dX3_putRow_9 rfl rfl ?_
  refine wq_getR (pc := 10) 15 1 dX3_putRow_10 s0_31 flX3_15 rfl rfl (by decide) (by decide) ?_
  refine wp_iload_n (pc := 13) 1 dX3_putRow_13 rfl rfl ?_
  refine wp_iload_n (pc := 14) 3 dX3_putRow_14 rfl rfl ?_
  refine wc_SN_RII (pc := 15) dX3_putRow_15 lkX3_43 (by decide) (Nat.le_of_ble_eq_true rfl) ?_
  refine c_X6_put s0_33 (by decide) (by decide) hs ?_
  refine wp_iconst (pc := 18) (0) dX3_putRow_18 (by decide) ?_
  refine wp_istore (pc := 19) 4 dX3_putRow_19 (by decide) rfl ?_
  rw [show (S0, F, sm_up (sm_up I 32 s (nI o)) 33 s (nI n), J) = (S0, F, sm_up (sm_up I 32 s (nI o)) 33 s (nI n), JZ J 34 (s * 40) 0) by rw [JZ_0]]
  refine wp_loop (fun i => [.ref 31, .int (nI s), .int (nI o), .int (nI n), .int (nI i)]) (fun i => (S0, F, sm_up (sm_up I 32 s (nI o)) 33 s (nI n), JZ J 34 (s * 40) i)) (fun _ => True) 40 (fun i hi hv nx => ?_) (fun hv => ?_) 0 (Nat.zero_le _) trivial
  · refine wp_iload (pc := 21) 4 dX3_putRow_21 rfl ?_
    refine wp_bipush (pc := 23) (40) dX3_putRow_23 (by decide) ?_
    refine wp_icmp_ge (pc := 25) 42 dX3_putRow_25 (by decide) (fun c_25 => ?_) (fun c_25 => ?_)
    · exact absurd c_25 (nI_ge (b := 40) hi (by decide))
    · refine wp_aload_n (pc := 28) 0 dX3_putRow_28 rfl rfl ?_
      refine wp_iload_n (pc := 29) 1 dX3_putRow_29 rfl rfl ?_
      refine wp_iload (pc := 30) 4 dX3_putRow_30 rfl ?_
      refine wp_lconst (pc := 32) 0 dX3_putRow_32 (by decide) ?_
      refine wc_V_IIJ (pc := 33) dX3_putRow_33 lkX3_47 (sm_Rc.o (ci := 2) s0_31 (by decide) (by decide)) (by decide) (Nat.le_of_ble_eq_true rfl) ?_
      refine c_X3_putLong hs hi ?_
      refine wp_incN (pc := 36) 4 dX3_putRow_36 rfl (by decide) rfl ?_
      refine wp_goto (pc := 39) 21 dX3_putRow_39 (by decide) ?_
      have nx := nx trivial
      rw [← JZ_s] at nx
      exact nx
  · refine wp_iload (pc := 21) 4 dX3_putRow_21 rfl ?_
    refine wp_bipush (pc := 23) (40) dX3_putRow_23 (by decide) ?_
    refine wp_icmp_ge (pc := 25) 42 dX3_putRow_25 (by decide) (fun c_25 => ?_) (fun c_25 => ?_)
    · refine wp_ret (pc := 42) dX3_putRow_42 rfl ?_
      exact kk _ _ (((hS.uh s (some o)).uz s n).z (s * 40) 40) ((((ShF.rf).I (Or.inl rfl)).I (Or.inr rfl)).z)
    · exact absurd (by decide) c_25
theorem c_X3_hasPart {d : Nat} {F I : Nat → Nat → Int32} {J : Nat → Nat → Int64} {Q : Option Value → sm_H → Prop} {hd : Nat → Option Nat} {zs : Nat → Nat} {el : Nat → Int64} (hS : ShR 32 hd zs el I J) (ho : hok hd zs) {s : Nat} (hs : s < 8) {y z : Int32} (k : Q (some (.int (b2 (hrow (hd s) && prtB (hsz hd zs s) y z)))) (S0, F, I, J)) : Wp mX3_hasPart (d + 4) 0 0 0 (sm_ini [.ref 31, .int (nI s), .int y, .int z] 4) [] (S0, F, I, J) Q := by
  show Wp _ _ _ _ _ [.ref 31, .int (nI s), .int y, .int z] _ _ _
  refine wp_aload_n (pc := 0) 0 dX3_hasPart_0 rfl rfl ?_
  refine wp_iload_n (pc := 1) 1 dX3_hasPart_1 rfl rfl ?_
  refine wc_V_I (pc := 2) dX3_hasPart_2 lkX3_37 (sm_Rc.o (ci := 2) s0_31 (by decide) (by decide)) (by decide) (Nat.le_of_ble_eq_true rfl) ?_
  refine c_X3_hasRow_i hS ho hs ?_
  refine wp_ifeqB (pc := 5) 40 dX3_hasPart_5 (by decide) (fun c_5 => ?_) (fun c_5 => ?_)
  · refine wp_iconst (pc := 40) (0) dX3_hasPart_40 (by decide) ?_
    refine wp_iret (pc := 41) dX3_hasPart_41 ⟨_, rfl, by decide⟩ ?_
    rw [c_5] at k; exact k
  · refine wp_iload_n (pc := 8) 2 dX3_hasPart_8 rfl rfl ?_
    refine wp_iflt (pc := 9) 40 dX3_hasPart_9 (by decide) (fun c_9 => ?_) (fun c_9 => ?_)
    · refine wp_iconst (pc := 40) (0) dX3_hasPart_40 (by decide) ?_
      refine wp_iret (pc := 41) dX3_hasPart_41 ⟨_, rfl, by decide⟩ ?_
      rw [show prtB (hsz hd zs s) y z = false by simp [prtB, Int32.not_le.mpr c_9]] at k; rw [Bool.and_false] at k; exact k
    · refine wp_iload_n (pc := 12) 3 dX3_hasPart_12 rfl rfl ?_
      refine wp_iflt (pc := 13) 40 dX3_hasPart_13 (by decide) (fun c_13 => ?_) (fun c_13 => ?_)
      · refine wp_iconst (pc := 40) (0) dX3_hasPart_40 (by decide) ?_
        refine wp_iret (pc := 41) dX3_hasPart_41 ⟨_, rfl, by decide⟩ ?_
        rw [show prtB (hsz hd zs s) y z = false by simp [prtB, Int32.not_le.mpr c_13]] at k; rw [Bool.and_false] at k; exact k
      · refine wp_iload_n (pc := 16) 3 dX3_hasPart_16 rfl rfl ?_
        refine wp_aload_n (pc := 17) 0 dX3_hasPart_17 rfl rfl ?_
        refine wp_iload_n (pc := 18) 1 dX3_hasPart_18 rfl rfl ?_
        refine wc_V_I (pc := 19) dX3_hasPart_19 lkX3_40 (sm_Rc.o (ci := 2) s0_31 (by decide) (by decide)) (by decide) (Nat.le_of_ble_eq_true rfl) ?_
        refine c_X3_sizeOf_i hS ho hs ?_
        refine wp_icmp_gt (pc := 22) 40 dX3_hasPart_22 (by decide) (fun c_22 => ?_) (fun c_22 => ?_)
        · refine wp_iconst (pc := 40) (0) dX3_hasPart_40 (by decide) ?_
          refine wp_iret (pc := 41) dX3_hasPart_41 ⟨_, rfl, by decide⟩ ?_
          rw [show prtB (hsz hd zs s) y z = false by simp [prtB, Int32.not_le.mpr c_22]] at k; rw [Bool.and_false] at k; exact k
        · refine wp_iload_n (pc := 25) 2 dX3_hasPart_25 rfl rfl ?_
          refine wp_aload_n (pc := 26) 0 dX3_hasPart_26 rfl rfl ?_
          refine wp_iload_n (pc := 27) 1 dX3_hasPart_27 rfl rfl ?_
          refine wc_V_I (pc := 28) dX3_hasPart_28 lkX3_40 (sm_Rc.o (ci := 2) s0_31 (by decide) (by decide)) (by decide) (Nat.le_of_ble_eq_true rfl) ?_
          refine c_X3_sizeOf_i hS ho hs ?_
          refine wp_iload_n (pc := 31) 3 dX3_hasPart_31 rfl rfl ?_
          refine wp_isub (pc := 32) dX3_hasPart_32 ?_
          refine wp_icmp_gt (pc := 33) 40 dX3_hasPart_33 (by decide) (fun c_33 => ?_) (fun c_33 => ?_)
          · refine wp_iconst (pc := 40) (0) dX3_hasPart_40 (by decide) ?_
            refine wp_iret (pc := 41) dX3_hasPart_41 ⟨_, rfl, by decide⟩ ?_
            rw [show prtB (hsz hd zs s) y z = false by simp [prtB, Int32.not_le.mpr c_33]] at k; rw [Bool.and_false] at k; exact k
          · refine wp_iconst (pc := 36) (1) dX3_hasPart_36 (by decide) ?_
            refine wp_goto (pc := 37) 41 dX3_hasPart_37 (by decide) ?_
            refine wp_iret (pc := 41) dX3_hasPart_41 ⟨_, rfl, by decide⟩ ?_
            rw [c_5, show prtB (hsz hd zs s) y z = true by simp [prtB, Int32.not_lt.mp c_9, Int32.not_lt.mp c_13, Int32.not_lt.mp c_22, Int32.not_lt.mp c_33]] at k; exact k
def elM (el : Nat → Int64) (a b n : Nat) : Nat → Int64 := va_cpy el el a b n
theorem ShR.m {c : Nat} {hd : Nat → Option Nat} {zs : Nat → Nat} {el : Nat → Int64} {I : Nat → Nat → Int32} {J : Nat → Nat → Int64} (h : ShR c hd zs el I J) {a b n : Nat} (ha : a + n ≤ 320) : ShR c hd zs (elM el a b n) I (sm_ups J (c + 2) (va_cpy (J (c + 2)) (J (c + 2)) a b n)) := by
  refine ⟨h.1, h.2.1, fun x hx => ?_⟩
  rw [sm_ups_eq]
  simp only [elM, va_cpy]
  split
  · exact h.2.2 _ (by omega)
  · exact h.2.2 x hx
theorem ShF.m {c : Nat} {I I1 : Nat → Nat → Int32} {J J1 : Nat → Nat → Int64} {g : Nat → Int64} (h : ShF c I J I1 J1) : ShF c I J I1 (sm_ups J1 (c + 2) g) := fun a => ⟨(h a).1, fun h1 => (sm_ups_ne h1).trans ((h a).2 h1)⟩
theorem c_X3_move {d : Nat} {F I : Nat → Nat → Int32} {J : Nat → Nat → Int64} {Q : Option Value → sm_H → Prop} {hd : Nat → Option Nat} {zs : Nat → Nat} {el : Nat → Int64} (hS : ShR 32 hd zs el I J) (ho : hok hd zs) {p q i j n : Nat} (hp : p < 8) (hq : q < 8) (hrp : hrow (hd p) = true) (hrq : hrow (hd q) = true) (hi : i + n ≤ hsz hd zs p) (hj : j + n ≤ hsz hd zs q) (kk : ∀ J1, ShR 32 hd zs (elM el (p * 40 + i) (q * 40 + j) n) I J1 → ShF 32 I J I J1 → Q none (S0, F, I, J1)) : Wp mX3_move (d + 5) 0 0 0 (sm_ini [.ref 31, .int (nI p), .int (nI q), .int (nI i), .int (nI j), .int (nI n)] 6) [] (S0, F, I, J) Q := by
  show Wp _ _ _ _ _ [.ref 31, .int (nI p), .int (nI q), .int (nI i), .int (nI j), .int (nI n)] _ _ _
  have h1 := hsz_le ho p
  have h2 := hsz_le ho q
  refine wp_aload_n (pc := 0) 0 dX3_move_0 rfl rfl ?_
  refine wp_iload_n (pc := 1) 1 dX3_move_1 rfl rfl ?_
  refine wp_iload_n (pc := 2) 3 dX3_move_2 rfl rfl ?_
  refine wp_iload (pc := 3) 5 dX3_move_3 rfl ?_
  refine wc_V_III (pc := 5) dX3_move_5 lkX3_55 (sm_Rc.o (ci := 2) s0_31 (by decide) (by decide)) (by decide) (Nat.le_of_ble_eq_true rfl) ?_
  refine c_X3_hasPart hS ho hp ?_
  refine wp_int (y := 1) (by rw [hrp, prtB_n h1 (by omega) (by omega), decide_eq_true hi]; rfl) ?_
  refine wp_ifeq (pc := 8) 49 dX3_move_8 (by decide) (fun c_8 => ?_) (fun c_8 => ?_)
  · exact absurd c_8 (by decide)
  · refine wp_aload_n (pc := 11) 0 dX3_move_11 rfl rfl ?_
    refine wp_iload_n (pc := 12) 2 dX3_move_12 rfl rfl ?_
    refine wp_iload (pc := 13) 4 dX3_move_13 rfl ?_
    refine wp_iload (pc := 15) 5 dX3_move_15 rfl ?_
    refine wc_V_III (pc := 17) dX3_move_17 lkX3_55 (sm_Rc.o (ci := 2) s0_31 (by decide) (by decide)) (by decide) (Nat.le_of_ble_eq_true rfl) ?_
    refine c_X3_hasPart hS ho hq ?_
    refine wp_int (y := 1) (by rw [hrq, prtB_n h2 (by omega) (by omega), decide_eq_true hj]; rfl) ?_
    refine wp_ifeq (pc := 20) 49 dX3_move_20 (by decide) (fun c_20 => ?_) (fun c_20 => ?_)
    · exact absurd c_20 (by decide)
    · refine wp_aload_n (pc := 23) 0 dX3_move_23 rfl rfl ?_
      refine wq_getR (pc := 24) 18 2 dX3_move_24 s0_31 flX3_18 rfl rfl (by decide) (by decide) ?_
      refine wp_iload_n (pc := 27) 1 dX3_move_27 rfl rfl ?_
      refine wp_bipush (pc := 28) (40) dX3_move_28 (by decide) ?_
      refine wp_imul (pc := 30) dX3_move_30 ?_
      refine wp_int (nI_mul p 40) ?_
      refine wp_iload_n (pc := 31) 3 dX3_move_31 rfl rfl ?_
      refine wp_iadd (pc := 32) dX3_move_32 ?_
      refine wp_int (nI_add _ _) ?_
      refine wp_aload_n (pc := 33) 0 dX3_move_33 rfl rfl ?_
      refine wq_getR (pc := 34) 18 2 dX3_move_34 s0_31 flX3_18 rfl rfl (by decide) (by decide) ?_
      refine wp_iload_n (pc := 37) 2 dX3_move_37 rfl rfl ?_
      refine wp_bipush (pc := 38) (40) dX3_move_38 (by decide) ?_
      refine wp_imul (pc := 40) dX3_move_40 ?_
      refine wp_int (nI_mul q 40) ?_
      refine wp_iload (pc := 41) 4 dX3_move_41 rfl ?_
      refine wp_iadd (pc := 43) dX3_move_43 ?_
      refine wp_int (nI_add _ _) ?_
      refine wp_iload (pc := 44) 5 dX3_move_44 rfl ?_
      refine wp_copyL (pc := 46) dX3_move_46 acX3_59 ac_native ac_static inRJ10 s0_34 s0_34 (by decide) (by decide) (nI_pos (by omega)) (nI_pos (by omega)) (nI_pos (by omega)) (by rw [nI_clamp (by omega), nI_clamp (by omega)]; omega) (by rw [nI_clamp (by omega), nI_clamp (by omega)]; omega) (Nat.le_of_ble_eq_true rfl) ?_
      refine wp_ret (pc := 49) dX3_move_49 rfl ?_
      rw [nI_clamp (by omega), nI_clamp (by omega), nI_clamp (by omega)]
      exact kk _ (hS.m (by omega)) (ShF.rf.m)
def fgt (m : Nat) (o : Option Nat) : Option Nat := match hrg o with
  | none => o
  | some r => if m ≤ r then none else o
def hdF (m i : Nat) (hd : Nat → Option Nat) : Nat → Option Nat := fun x => if x < i then fgt m (hd x) else hd x
def IF (I : Nat → Nat → Int32) (hd : Nat → Option Nat) (m i : Nat) : Nat → Nat → Int32 := fun a x => if a = 32 ∧ x < i then eN (fgt m (hd x)) else I a x
theorem IF_0 {I : Nat → Nat → Int32} {hd : Nat → Option Nat} {m : Nat} : IF I hd m 0 = I := by
  funext a x
  exact if_neg (by omega)
theorem IF_s {I : Nat → Nat → Int32} {hd : Nat → Option Nat} {m i : Nat} : sm_up (IF I hd m i) 32 i (eN (fgt m (hd i))) = IF I hd m (i + 1) := by
  funext a x
  simp only [sm_up, IF]
  by_cases h1 : a = 32 ∧ x = i
  · rw [if_pos h1, if_pos (by omega), h1.2]
  · rw [if_neg h1]
    by_cases h2 : a = 32 ∧ x < i
    · rw [if_pos h2, if_pos (by omega)]
    · rw [if_neg h2, if_neg (by omega)]
theorem IF_n {I : Nat → Nat → Int32} {hd : Nat → Option Nat} {m i : Nat} (h : I 32 i = eN (fgt m (hd i))) : IF I hd m i = IF I hd m (i + 1) := by
  rw [← IF_s]
  funext a x
  simp only [sm_up]
  by_cases h1 : a = 32 ∧ x = i
  · rw [if_pos h1, h1.1, h1.2, ← h]; exact if_neg (by omega)
  · rw [if_neg h1]
theorem IF_R {I : Nat → Nat → Int32} {J : Nat → Nat → Int64} {hd : Nat → Option Nat} {zs : Nat → Nat} {el : Nat → Int64} (h : ShR 32 hd zs el I J) (m i : Nat) : ShR 32 (hdF m i hd) zs el (IF I hd m i) J := by
  refine ⟨fun x hx => ?_, fun x hx => ?_, h.2.2⟩
  · simp only [IF, hdF]
    by_cases e : x < i
    · rw [if_pos ⟨trivial, e⟩, if_pos e]
    · rw [if_neg (fun z => e z.2), if_neg e]; exact h.1 x hx
  · simp only [IF]; rw [if_neg (by omega)]; exact h.2.1 x hx
theorem IF_F {I : Nat → Nat → Int32} {J : Nat → Nat → Int64} {hd : Nat → Option Nat} {m i : Nat} : ShF 32 I J (IF I hd m i) J := fun a => ⟨fun h1 _ => by
  funext x
  exact if_neg (fun z => h1 z.1), fun _ => rfl⟩
theorem fgt_n {m : Nat} {o : Option Nat} (h : hrg o = none) : fgt m o = o := by rw [fgt, h]
theorem fgt_k {m r : Nat} {o : Option Nat} (h : hrg o = some r) (hm : ¬ m ≤ r) : fgt m o = o := by simp only [fgt, h, if_neg hm]
theorem fgt_f {m r : Nat} {o : Option Nat} (h : hrg o = some r) (hm : m ≤ r) : fgt m o = none := by simp only [fgt, h, if_pos hm]
theorem fgt_ok {m i : Nat} {hd : Nat → Option Nat} {zs : Nat → Nat} (h : hok hd zs) : hok (hdF m i hd) zs := by
  refine ⟨fun s k e => ?_, h.2⟩
  unfold hdF at e
  split at e
  · unfold fgt at e
    split at e
    · exact h.1 s k e
    · split at e
      · cases e
      · exact h.1 s k e
  · exact h.1 s k e
theorem c_X3_forgetRingersFrom {d : Nat} {F I : Nat → Nat → Int32} {J : Nat → Nat → Int64} {Q : Option Value → sm_H → Prop} {hd : Nat → Option Nat} {zs : Nat → Nat} {el : Nat → Int64} (hS : ShR 32 hd zs el I J) (ho : hok hd zs) {m : Nat} (hm : m < 2 ^ 31) (kk : ∀ I1, ShR 32 (hdF m 8 hd) zs el I1 J → ShF 32 I J I1 J → Q none (S0, F, I1, J)) : Wp mX3_forgetRingersFrom (d + 4) 0 0 0 (sm_ini [.ref 31, .int (nI m)] 3) [] (S0, F, I, J) Q := by
  show Wp _ _ _ _ _ [.ref 31, .int (nI m), .null] _ _ _
  refine wp_iconst (pc := 0) (0) dX3_forgetRingersFrom_0 (by decide) ?_
  refine wp_istore_n (pc := 1) 2 dX3_forgetRingersFrom_1 rfl (by decide) rfl ?_
  rw [show (S0, F, I, J) = (S0, F, IF I hd m 0, J) by rw [IF_0]]
  refine wp_loop (fun i => [.ref 31, .int (nI m), .int (nI i)]) (fun i => (S0, F, IF I hd m i, J)) (fun _ => True) 8 (fun i hi hv nx => ?_) (fun hv => ?_) 0 (Nat.zero_le _) trivial
  · have hS2 := IF_R hS m i
    have ho2 := fgt_ok (m := m) (i := i) ho
    have he : hdF m i hd i = hd i := if_neg (Nat.lt_irrefl i)
    rcases ho.c i with e | ⟨k, e, hk⟩ | ⟨k, e, hk, hk2⟩
    · have hg : hrg (hd i) = none := by rw [e]; rfl
      refine wp_iload_n (pc := 2) 2 dX3_forgetRingersFrom_2 rfl rfl ?_
      refine wp_bipush (pc := 3) (8) dX3_forgetRingersFrom_3 (by decide) ?_
      refine wp_icmp_ge (pc := 5) 29 dX3_forgetRingersFrom_5 (by decide) (fun c_5 => ?_) (fun c_5 => ?_)
      · exact absurd c_5 (nI_ge (b := 8) hi (by decide))
      · refine wp_aload_n (pc := 8) 0 dX3_forgetRingersFrom_8 rfl rfl ?_
        refine wp_iload_n (pc := 9) 2 dX3_forgetRingersFrom_9 rfl rfl ?_
        refine wc_V_I (pc := 10) dX3_forgetRingersFrom_10 lkX3_65 (sm_Rc.o (ci := 2) s0_31 (by decide) (by decide)) (by decide) (Nat.le_of_ble_eq_true rfl) ?_
        refine c_X3_ringerIn_i hS2 ho2 hi ?_
        refine wp_int (y := -1) (by rw [he, hg]; rfl) ?_
        refine wp_iload_n (pc := 13) 1 dX3_forgetRingersFrom_13 rfl rfl ?_
        refine wp_icmp_lt (pc := 14) 23 dX3_forgetRingersFrom_14 (by decide) (fun c_14 => ?_) (fun c_14 => ?_)
        · refine wp_incN (pc := 23) 2 dX3_forgetRingersFrom_23 rfl (by decide) rfl ?_
          refine wp_goto (pc := 26) 2 dX3_forgetRingersFrom_26 (by decide) ?_
          have nx := nx trivial
          rw [← IF_n (by rw [fgt_n hg, hS.1 i hi])] at nx
          exact nx
        · exact absurd (Int32.lt_of_lt_of_le (by decide) (nI_pos' hm)) c_14
    · have hg : hrg (hd i) = none := by rw [e]; exact if_neg (by omega)
      refine wp_iload_n (pc := 2) 2 dX3_forgetRingersFrom_2 rfl rfl ?_
      refine wp_bipush (pc := 3) (8) dX3_forgetRingersFrom_3 (by decide) ?_
      refine wp_icmp_ge (pc := 5) 29 dX3_forgetRingersFrom_5 (by decide) (fun c_5 => ?_) (fun c_5 => ?_)
      · exact absurd c_5 (nI_ge (b := 8) hi (by decide))
      · refine wp_aload_n (pc := 8) 0 dX3_forgetRingersFrom_8 rfl rfl ?_
        refine wp_iload_n (pc := 9) 2 dX3_forgetRingersFrom_9 rfl rfl ?_
        refine wc_V_I (pc := 10) dX3_forgetRingersFrom_10 lkX3_65 (sm_Rc.o (ci := 2) s0_31 (by decide) (by decide)) (by decide) (Nat.le_of_ble_eq_true rfl) ?_
        refine c_X3_ringerIn_i hS2 ho2 hi ?_
        refine wp_int (y := -1) (by rw [he, hg]; rfl) ?_
        refine wp_iload_n (pc := 13) 1 dX3_forgetRingersFrom_13 rfl rfl ?_
        refine wp_icmp_lt (pc := 14) 23 dX3_forgetRingersFrom_14 (by decide) (fun c_14 => ?_) (fun c_14 => ?_)
        · refine wp_incN (pc := 23) 2 dX3_forgetRingersFrom_23 rfl (by decide) rfl ?_
          refine wp_goto (pc := 26) 2 dX3_forgetRingersFrom_26 (by decide) ?_
          have nx := nx trivial
          rw [← IF_n (by rw [fgt_n hg, hS.1 i hi])] at nx
          exact nx
        · exact absurd (Int32.lt_of_lt_of_le (by decide) (nI_pos' hm)) c_14
    · have hg : hrg (hd i) = some (k - 10) := by rw [e]; exact if_pos hk
      refine wp_iload_n (pc := 2) 2 dX3_forgetRingersFrom_2 rfl rfl ?_
      refine wp_bipush (pc := 3) (8) dX3_forgetRingersFrom_3 (by decide) ?_
      refine wp_icmp_ge (pc := 5) 29 dX3_forgetRingersFrom_5 (by decide) (fun c_5 => ?_) (fun c_5 => ?_)
      · exact absurd c_5 (nI_ge (b := 8) hi (by decide))
      · refine wp_aload_n (pc := 8) 0 dX3_forgetRingersFrom_8 rfl rfl ?_
        refine wp_iload_n (pc := 9) 2 dX3_forgetRingersFrom_9 rfl rfl ?_
        refine wc_V_I (pc := 10) dX3_forgetRingersFrom_10 lkX3_65 (sm_Rc.o (ci := 2) s0_31 (by decide) (by decide)) (by decide) (Nat.le_of_ble_eq_true rfl) ?_
        refine c_X3_ringerIn_i hS2 ho2 hi ?_
        refine wp_int (y := nI (k - 10)) (by rw [he, hg]; rfl) ?_
        refine wp_iload_n (pc := 13) 1 dX3_forgetRingersFrom_13 rfl rfl ?_
        refine wp_icmp_lt (pc := 14) 23 dX3_forgetRingersFrom_14 (by decide) (fun c_14 => ?_) (fun c_14 => ?_)
        · refine wp_incN (pc := 23) 2 dX3_forgetRingersFrom_23 rfl (by decide) rfl ?_
          refine wp_goto (pc := 26) 2 dX3_forgetRingersFrom_26 (by decide) ?_
          have nx := nx trivial
          rw [← IF_n (by rw [fgt_k hg (fun z => nI_nlt z (by omega) c_14), hS.1 i hi])] at nx
          exact nx
        · refine wp_aload_n (pc := 17) 0 dX3_forgetRingersFrom_17 rfl rfl ?_
          refine wp_iload_n (pc := 18) 2 dX3_forgetRingersFrom_18 rfl rfl ?_
          refine wp_iconst (pc := 19) (-1) dX3_forgetRingersFrom_19 (by decide) ?_
          refine wc_V_II (pc := 20) dX3_forgetRingersFrom_20 lkX3_68 (sm_Rc.o (ci := 2) s0_31 (by decide) (by decide)) (by decide) (Nat.le_of_ble_eq_true rfl) ?_
          refine c_X3_putRinger_n hS2 ho2 hi ?_
          refine wp_incN (pc := 23) 2 dX3_forgetRingersFrom_23 rfl (by decide) rfl ?_
          refine wp_goto (pc := 26) 2 dX3_forgetRingersFrom_26 (by decide) ?_
          have nx := nx trivial
          rw [← IF_s, fgt_f hg (Nat.le_of_not_lt fun z => c_14 (nI_lt z (by omega)))] at nx
          exact nx
  · refine wp_iload_n (pc := 2) 2 dX3_forgetRingersFrom_2 rfl rfl ?_
    refine wp_bipush (pc := 3) (8) dX3_forgetRingersFrom_3 (by decide) ?_
    refine wp_icmp_ge (pc := 5) 29 dX3_forgetRingersFrom_5 (by decide) (fun c_5 => ?_) (fun c_5 => ?_)
    · refine wp_ret (pc := 29) dX3_forgetRingersFrom_29 rfl ?_
      exact kk _ (IF_R hS m 8) IF_F
    · exact absurd (by decide) c_5
def TpD (sz : Nat) (tp : Nat → Nat) (F I : Nat → Nat → Int32) : Prop := F 35 0 = nI sz ∧ ∀ j, j < 250 → I 36 j = nI (tp j)
def ltr (sz : Nat) (tp : Nat → Nat) (p : Nat) : Option Nat := if p < sz then some (tp p) else none
theorem c_X4_hasRoom {d : Nat} {F I : Nat → Nat → Int32} {J : Nat → Nat → Int64} {Q : Option Value → sm_H → Prop} {sz : Nat} {tp : Nat → Nat} (hP : TpD sz tp F I) (hz : sz ≤ 250)  (k : Q (some (.int (b2 (decide (sz < 250))))) (S0, F, I, J)) : Wp mX4_hasRoom (d) 0 0 0 (sm_ini [.ref 35] 1) [] (S0, F, I, J) Q := by
  show Wp _ _ _ _ _ [.ref 35] _ _ _
  refine wp_aload_n (pc := 0) 0 dX4_hasRoom_0 rfl rfl ?_
  refine wq_getI (pc := 1) 9 0 dX4_hasRoom_1 s0_35 flX4_9 rfl (by decide) ?_
  refine wp_int hP.1 ?_
  refine wp_sipush (pc := 4) (250) dX4_hasRoom_4 (by decide) ?_
  refine wp_icmp_ge (pc := 7) 14 dX4_hasRoom_7 (by decide) (fun c_7 => ?_) (fun c_7 => ?_)
  · refine wp_iconst (pc := 14) (0) dX4_hasRoom_14 (by decide) ?_
    refine wp_iret (pc := 15) dX4_hasRoom_15 ⟨_, rfl, by decide⟩ ?_
    rw [decide_eq_false (fun z => nI_ge (b := 250) z (by decide) c_7)] at k; exact k
  · refine wp_iconst (pc := 10) (1) dX4_hasRoom_10 (by decide) ?_
    refine wp_goto (pc := 11) 15 dX4_hasRoom_11 (by decide) ?_
    refine wp_iret (pc := 15) dX4_hasRoom_15 ⟨_, rfl, by decide⟩ ?_
    rw [decide_eq_true (Nat.lt_of_not_le fun z => c_7 (nI_le (a := 250) z (by omega)))] at k; exact k
theorem c_X4_add {d : Nat} {F I : Nat → Nat → Int32} {J : Nat → Nat → Int64} {Q : Option Value → sm_H → Prop} {sz : Nat} {tp : Nat → Nat} (hP : TpD sz tp F I) (hz : sz ≤ 250) {l : Nat} (hl : sz < 250) (k : Q (some (.int (nI (sz + 1)))) (S0, sm_up F 35 0 (nI (sz + 1)), sm_up I 36 sz (nI l), J)) : Wp mX4_add (d + 1) 0 0 0 (sm_ini [.ref 35, .int (nI l)] 2) [] (S0, F, I, J) Q := by
  show Wp _ _ _ _ _ [.ref 35, .int (nI l)] _ _ _
  refine wp_aload_n (pc := 0) 0 dX4_add_0 rfl rfl ?_
  refine wq_getR (pc := 1) 15 1 dX4_add_1 s0_35 flX4_15 rfl rfl (by decide) (by decide) ?_
  refine wp_aload_n (pc := 4) 0 dX4_add_4 rfl rfl ?_
  refine wq_getI (pc := 5) 9 0 dX4_add_5 s0_35 flX4_9 rfl (by decide) ?_
  refine wp_int hP.1 ?_
  refine wp_iload_n (pc := 8) 1 dX4_add_8 rfl rfl ?_
  refine wc_SN_RII (pc := 9) dX4_add_9 lkX4_19 (by decide) (Nat.le_of_ble_eq_true rfl) ?_
  refine c_X6_put s0_36 (by decide) (by decide) hl ?_
  refine wp_aload_n (pc := 12) 0 dX4_add_12 rfl rfl ?_
  refine wp_dup (pc := 13) dX4_add_13 rfl ?_
  refine wq_getI (pc := 14) 9 0 dX4_add_14 s0_35 flX4_9 rfl (by decide) ?_
  refine wp_int hP.1 ?_
  refine wp_iconst (pc := 17) (1) dX4_add_17 (by decide) ?_
  refine wp_iadd (pc := 18) dX4_add_18 ?_
  refine wp_int (nI_1 _) ?_
  refine wq_putI (pc := 19) 9 0 dX4_add_19 s0_35 flX4_9 rfl rfl (by decide) ?_
  refine wp_aload_n (pc := 22) 0 dX4_add_22 rfl rfl ?_
  refine wq_getI (pc := 23) 9 0 dX4_add_23 s0_35 flX4_9 rfl (by decide) ?_
  refine wp_int up_eq ?_
  refine wp_iretI (pc := 26) dX4_add_26 rfl ?_
  exact k
theorem c_X4_empty {d : Nat} {F I : Nat → Nat → Int32} {J : Nat → Nat → Int64} {Q : Option Value → sm_H → Prop} {sz : Nat} {tp : Nat → Nat} (hP : TpD sz tp F I) (hz : sz ≤ 250)  (k : Q (some (.int (nI sz))) (S0, sm_up F 35 0 0, I, J)) : Wp mX4_empty (d) 0 0 0 (sm_ini [.ref 35] 2) [] (S0, F, I, J) Q := by
  show Wp _ _ _ _ _ [.ref 35, .null] _ _ _
  refine wp_aload_n (pc := 0) 0 dX4_empty_0 rfl rfl ?_
  refine wq_getI (pc := 1) 9 0 dX4_empty_1 s0_35 flX4_9 rfl (by decide) ?_
  refine wp_int hP.1 ?_
  refine wp_istore_n (pc := 4) 1 dX4_empty_4 rfl (by decide) rfl ?_
  refine wp_aload_n (pc := 5) 0 dX4_empty_5 rfl rfl ?_
  refine wp_iconst (pc := 6) (0) dX4_empty_6 (by decide) ?_
  refine wq_putI (pc := 7) 9 0 dX4_empty_7 s0_35 flX4_9 rfl rfl (by decide) ?_
  refine wp_iload_n (pc := 10) 1 dX4_empty_10 rfl rfl ?_
  refine wp_iretI (pc := 11) dX4_empty_11 rfl ?_
  exact k
theorem c_X4_letterAt {d : Nat} {F I : Nat → Nat → Int32} {J : Nat → Nat → Int64} {Q : Option Value → sm_H → Prop} {sz : Nat} {tp : Nat → Nat} (hP : TpD sz tp F I) (hz : sz ≤ 250) {p : Nat} (hp : p < 2 ^ 31) (k : Q (some (.int (eN (ltr sz tp p)))) (S0, F, I, J)) : Wp mX4_letterAt (d + 1) 0 0 0 (sm_ini [.ref 35, .int (nI p)] 2) [] (S0, F, I, J) Q := by
  show Wp _ _ _ _ _ [.ref 35, .int (nI p)] _ _ _
  refine wp_iload_n (pc := 0) 1 dX4_letterAt_0 rfl rfl ?_
  refine wp_aload_n (pc := 1) 0 dX4_letterAt_1 rfl rfl ?_
  refine wq_getI (pc := 2) 9 0 dX4_letterAt_2 s0_35 flX4_9 rfl (by decide) ?_
  refine wp_int hP.1 ?_
  refine wp_icmp_ge (pc := 5) 19 dX4_letterAt_5 (by decide) (fun c_5 => ?_) (fun c_5 => ?_)
  · refine wp_iconst (pc := 19) (-1) dX4_letterAt_19 (by decide) ?_
    refine wp_iretI (pc := 20) dX4_letterAt_20 rfl ?_
    rw [show ltr sz tp p = none from if_neg (fun z => nI_ge z (by omega) c_5)] at k; exact k
  · have hlt : p < sz := Nat.lt_of_not_le fun z => c_5 (nI_le z (by omega))
    refine wp_aload_n (pc := 8) 0 dX4_letterAt_8 rfl rfl ?_
    refine wq_getR (pc := 9) 15 1 dX4_letterAt_9 s0_35 flX4_15 rfl rfl (by decide) (by decide) ?_
    refine wp_iload_n (pc := 12) 1 dX4_letterAt_12 rfl rfl ?_
    refine wc_SN_RI (pc := 13) dX4_letterAt_13 lkX4_23 (by decide) (Nat.le_of_ble_eq_true rfl) ?_
    refine c_X6_at s0_36 (by decide) (by decide) (by omega) ?_
    refine wp_int (hP.2 p (by omega)) ?_
    refine wp_goto (pc := 16) 20 dX4_letterAt_16 (by decide) ?_
    refine wp_iretI (pc := 20) dX4_letterAt_20 rfl ?_
    rw [show ltr sz tp p = some (tp p) from if_pos hlt] at k; exact k
