/-! ===== tokens ===== -/
def isSm (l : Nat) : Bool := decide (97 ≤ l) && decide (l ≤ 122)
def isDg (l : Nat) : Bool := decide (48 ≤ l) && decide (l ≤ 57)
def isSp (l : Nat) : Bool := decide (l = 32)
def rn (P : Nat → Bool) (sz : Nat) (tp : Nat → Nat) : Nat → Nat → Nat
  | 0, p => p
  | k + 1, p => if p < sz ∧ P (tp p) = true then rn P sz tp k (p + 1) else p
def run (P : Nat → Bool) (sz : Nat) (tp : Nat → Nat) (p : Nat) : Nat := rn P sz tp (sz - p) p
theorem run_t {P : Nat → Bool} {sz : Nat} {tp : Nat → Nat} {p : Nat} (h1 : p < sz) (h2 : P (tp p) = true) : run P sz tp p = run P sz tp (p + 1) := by
  unfold run
  rw [show sz - p = (sz - (p + 1)) + 1 by omega, rn, if_pos ⟨h1, h2⟩]
theorem run_f {P : Nat → Bool} {sz : Nat} {tp : Nat → Nat} {p : Nat} (h : ¬ (p < sz ∧ P (tp p) = true)) : run P sz tp p = p := by
  unfold run
  cases e : sz - p with
  | zero => rfl
  | succ k => rw [rn, if_neg h]
theorem rn_ge {P : Nat → Bool} {sz : Nat} {tp : Nat → Nat} : ∀ {k p : Nat}, p ≤ rn P sz tp k p
  | 0, p => Nat.le_refl p
  | k + 1, p => by
    rw [rn]
    split
    · have := rn_ge (P := P) (sz := sz) (tp := tp) (k := k) (p := p + 1); omega
    · exact Nat.le_refl p
theorem rn_le {P : Nat → Bool} {sz : Nat} {tp : Nat → Nat} : ∀ {k p : Nat}, p ≤ sz → rn P sz tp k p ≤ sz
  | 0, p, h => h
  | k + 1, p, h => by
    rw [rn]
    split
    · rename_i hh; exact rn_le (by omega)
    · exact h
theorem rn_P {P : Nat → Bool} {sz : Nat} {tp : Nat → Nat} : ∀ {k p j : Nat}, p ≤ j → j < rn P sz tp k p → P (tp j) = true
  | 0, p, j, h1, h2 => by simp only [rn] at h2; omega
  | k + 1, p, j, h1, h2 => by
    rw [rn] at h2
    split at h2
    · rename_i hh
      by_cases e : j = p
      · rw [e]; exact hh.2
      · exact rn_P (by omega) h2
    · omega
theorem run_ge {P : Nat → Bool} {sz : Nat} {tp : Nat → Nat} {p : Nat} : p ≤ run P sz tp p := rn_ge
theorem run_le {P : Nat → Bool} {sz : Nat} {tp : Nat → Nat} {p : Nat} (h : p ≤ sz) : run P sz tp p ≤ sz := rn_le h
theorem run_P {P : Nat → Bool} {sz : Nat} {tp : Nat → Nat} {p j : Nat} (h1 : p ≤ j) (h2 : j < run P sz tp p) : P (tp j) = true := rn_P h1 h2
def oP (P : Nat → Bool) : Option Nat → Bool
  | none => false
  | some l => P l
theorem oP_t {P : Nat → Bool} {sz : Nat} {tp : Nat → Nat} {p : Nat} (h : oP P (ltr sz tp p) = true) : p < sz ∧ P (tp p) = true := by
  unfold ltr at h
  split at h
  · rename_i h1; exact ⟨h1, h⟩
  · cases h
theorem oP_f {P : Nat → Bool} {sz : Nat} {tp : Nat → Nat} {p : Nat} (h : oP P (ltr sz tp p) = false) : ¬ (p < sz ∧ P (tp p) = true) := by
  rintro ⟨h1, h2⟩
  unfold ltr at h
  rw [if_pos h1] at h
  exact absurd (h.symm.trans h2) (by decide)
/-- a token: where it starts, of which sort it is, where it ends, its number -/
def tks (sz : Nat) (tp : Nat → Nat) (p : Nat) : Nat := run isSp sz tp p
def srtk (sz : Nat) (tp : Nat → Nat) (q : Nat) : Nat := match ltr sz tp q with
  | none => 0
  | some l => if isSm l = true then 1 else if isDg l = true then 2 else if l = 59 then 3 else 4
def endk (sz : Nat) (tp : Nat → Nat) (q : Nat) : Nat := match srtk sz tp q with
  | 0 => q
  | 1 => run isSm sz tp (q + 1)
  | 2 => run isDg sz tp (q + 1)
  | _ => q + 1
def nmU (tp : Nat → Nat) (q : Nat) : Nat → Nat
  | 0 => 0
  | k + 1 => 10 * nmU tp q k + (tp (q + k) - 48)
def nmk (sz : Nat) (tp : Nat → Nat) (q : Nat) : Nat := if endk sz tp q - q ≤ 3 then nmU tp q (endk sz tp q - q) else 1000
theorem nmU_lt {tp : Nat → Nat} {q : Nat} (h : ∀ j, tp j < 256) : ∀ {k : Nat}, k ≤ 3 → nmU tp q k < 256 * 111 * k + 1
  | 0, _ => Nat.zero_lt_one
  | k + 1, hk => by
    have := nmU_lt (q := q) h (k := k) (by omega)
    have := h (q + k)
    rcases (show k = 0 ∨ k = 1 ∨ k = 2 by omega) with rfl | rfl | rfl
    · simp only [nmU]; omega
    · simp only [nmU] at *; have := h (q + 0); omega
    · simp only [nmU] at *; have := h (q + 0); have := h (q + 1); omega
theorem up_up {α : Type} {f : Nat → Nat → α} {k j : Nat} {u v : α} : sm_up (sm_up f k j u) k j v = sm_up f k j v := by
  funext a b
  simp only [sm_up]
  by_cases h : a = k ∧ b = j
  · rw [if_pos h, if_pos h]
  · rw [if_neg h, if_neg h, if_neg h]
theorem c_X2_isSmall_n {d : Nat} {h : sm_H} {Q : Option Value → sm_H → Prop}  (k : Q (some (.int (b2 (oP isSm none)))) h) : Wp mX2_isSmall (d) 0 0 0 (sm_ini [.int (-1)] 1) [] h Q := by
  show Wp _ _ _ _ _ [.int (-1)] _ _ _
  refine wp_iload_n (pc := 0) 0 dX2_isSmall_0 rfl rfl ?_
  refine wp_bipush (pc := 1) (97) dX2_isSmall_1 (by decide) ?_
  refine wp_icmp_lt (pc := 3) 16 dX2_isSmall_3 (by decide) (fun c_3 => ?_) (fun c_3 => ?_)
  · refine wp_iconst (pc := 16) (0) dX2_isSmall_16 (by decide) ?_
    refine wp_iret (pc := 17) dX2_isSmall_17 ⟨_, rfl, by decide⟩ ?_
    exact k
  · exact absurd (by decide) c_3
theorem c_X2_isSmall_s {d : Nat} {h : sm_H} {Q : Option Value → sm_H → Prop} {l : Nat} (hl : l < 256) (k : Q (some (.int (b2 (oP isSm (some l))))) h) : Wp mX2_isSmall (d) 0 0 0 (sm_ini [.int (nI l)] 1) [] h Q := by
  show Wp _ _ _ _ _ [.int (nI l)] _ _ _
  refine wp_iload_n (pc := 0) 0 dX2_isSmall_0 rfl rfl ?_
  refine wp_bipush (pc := 1) (97) dX2_isSmall_1 (by decide) ?_
  refine wp_icmp_lt (pc := 3) 16 dX2_isSmall_3 (by decide) (fun c_3 => ?_) (fun c_3 => ?_)
  · refine wp_iconst (pc := 16) (0) dX2_isSmall_16 (by decide) ?_
    refine wp_iret (pc := 17) dX2_isSmall_17 ⟨_, rfl, by decide⟩ ?_
    rw [show oP isSm (some l) = false by simp only [oP, isSm, decide_eq_false (show ¬ 97 ≤ l from fun z => absurd ((nI_ltI (b := 97) (by omega) (by decide)).mp c_3) (by omega)), Bool.false_and]] at k; exact k
  · refine wp_iload_n (pc := 6) 0 dX2_isSmall_6 rfl rfl ?_
    refine wp_bipush (pc := 7) (122) dX2_isSmall_7 (by decide) ?_
    refine wp_icmp_gt (pc := 9) 16 dX2_isSmall_9 (by decide) (fun c_9 => ?_) (fun c_9 => ?_)
    · refine wp_iconst (pc := 16) (0) dX2_isSmall_16 (by decide) ?_
      refine wp_iret (pc := 17) dX2_isSmall_17 ⟨_, rfl, by decide⟩ ?_
      rw [show oP isSm (some l) = false by simp only [oP, isSm, decide_eq_false (show ¬ l ≤ 122 from fun z => absurd ((nI_ltI (a := 122) (by decide) (by omega)).mp c_9) (by omega)), Bool.and_false]] at k; exact k
    · refine wp_iconst (pc := 12) (1) dX2_isSmall_12 (by decide) ?_
      refine wp_goto (pc := 13) 17 dX2_isSmall_13 (by decide) ?_
      refine wp_iret (pc := 17) dX2_isSmall_17 ⟨_, rfl, by decide⟩ ?_
      rw [show oP isSm (some l) = true by simp only [oP, isSm, decide_eq_true (show 97 ≤ l from Nat.le_of_not_lt fun z => c_3 ((nI_ltI (b := 97) (by omega) (by decide)).mpr z)), decide_eq_true (show l ≤ 122 from Nat.le_of_not_lt fun z => c_9 ((nI_ltI (a := 122) (by decide) (by omega)).mpr z)), Bool.and_true]] at k; exact k
theorem c_X2_isSmall {d : Nat} {h : sm_H} {Q : Option Value → sm_H → Prop} {o : Option Nat} (ho : ∀ l, o = some l → l < 256) (k : Q (some (.int (b2 (oP isSm o)))) h) : Wp mX2_isSmall d 0 0 0 (sm_ini [.int (eN o)] 1) [] h Q := by
  cases o with
  | none => exact c_X2_isSmall_n k
  | some l => exact c_X2_isSmall_s (ho l rfl) k
theorem c_X2_isDigit_n {d : Nat} {h : sm_H} {Q : Option Value → sm_H → Prop}  (k : Q (some (.int (b2 (oP isDg none)))) h) : Wp mX2_isDigit (d) 0 0 0 (sm_ini [.int (-1)] 1) [] h Q := by
  show Wp _ _ _ _ _ [.int (-1)] _ _ _
  refine wp_iload_n (pc := 0) 0 dX2_isDigit_0 rfl rfl ?_
  refine wp_bipush (pc := 1) (48) dX2_isDigit_1 (by decide) ?_
  refine wp_icmp_lt (pc := 3) 16 dX2_isDigit_3 (by decide) (fun c_3 => ?_) (fun c_3 => ?_)
  · refine wp_iconst (pc := 16) (0) dX2_isDigit_16 (by decide) ?_
    refine wp_iret (pc := 17) dX2_isDigit_17 ⟨_, rfl, by decide⟩ ?_
    exact k
  · exact absurd (by decide) c_3
theorem c_X2_isDigit_s {d : Nat} {h : sm_H} {Q : Option Value → sm_H → Prop} {l : Nat} (hl : l < 256) (k : Q (some (.int (b2 (oP isDg (some l))))) h) : Wp mX2_isDigit (d) 0 0 0 (sm_ini [.int (nI l)] 1) [] h Q := by
  show Wp _ _ _ _ _ [.int (nI l)] _ _ _
  refine wp_iload_n (pc := 0) 0 dX2_isDigit_0 rfl rfl ?_
  refine wp_bipush (pc := 1) (48) dX2_isDigit_1 (by decide) ?_
  refine wp_icmp_lt (pc := 3) 16 dX2_isDigit_3 (by decide) (fun c_3 => ?_) (fun c_3 => ?_)
  · refine wp_iconst (pc := 16) (0) dX2_isDigit_16 (by decide) ?_
    refine wp_iret (pc := 17) dX2_isDigit_17 ⟨_, rfl, by decide⟩ ?_
    rw [show oP isDg (some l) = false by simp only [oP, isDg, decide_eq_false (show ¬ 48 ≤ l from fun z => absurd ((nI_ltI (b := 48) (by omega) (by decide)).mp c_3) (by omega)), Bool.false_and]] at k; exact k
  · refine wp_iload_n (pc := 6) 0 dX2_isDigit_6 rfl rfl ?_
    refine wp_bipush (pc := 7) (57) dX2_isDigit_7 (by decide) ?_
    refine wp_icmp_gt (pc := 9) 16 dX2_isDigit_9 (by decide) (fun c_9 => ?_) (fun c_9 => ?_)
    · refine wp_iconst (pc := 16) (0) dX2_isDigit_16 (by decide) ?_
      refine wp_iret (pc := 17) dX2_isDigit_17 ⟨_, rfl, by decide⟩ ?_
      rw [show oP isDg (some l) = false by simp only [oP, isDg, decide_eq_false (show ¬ l ≤ 57 from fun z => absurd ((nI_ltI (a := 57) (by decide) (by omega)).mp c_9) (by omega)), Bool.and_false]] at k; exact k
    · refine wp_iconst (pc := 12) (1) dX2_isDigit_12 (by decide) ?_
      refine wp_goto (pc := 13) 17 dX2_isDigit_13 (by decide) ?_
      refine wp_iret (pc := 17) dX2_isDigit_17 ⟨_, rfl, by decide⟩ ?_
      rw [show oP isDg (some l) = true by simp only [oP, isDg, decide_eq_true (show 48 ≤ l from Nat.le_of_not_lt fun z => c_3 ((nI_ltI (b := 48) (by omega) (by decide)).mpr z)), decide_eq_true (show l ≤ 57 from Nat.le_of_not_lt fun z => c_9 ((nI_ltI (a := 57) (by decide) (by omega)).mpr z)), Bool.and_true]] at k; exact k
theorem c_X2_isDigit {d : Nat} {h : sm_H} {Q : Option Value → sm_H → Prop} {o : Option Nat} (ho : ∀ l, o = some l → l < 256) (k : Q (some (.int (b2 (oP isDg o)))) h) : Wp mX2_isDigit d 0 0 0 (sm_ini [.int (eN o)] 1) [] h Q := by
  cases o with
  | none => exact c_X2_isDigit_n k
  | some l => exact c_X2_isDigit_s (ho l rfl) k
theorem ltr_lt {sz : Nat} {tp : Nat → Nat} (h : ∀ j, tp j < 256) (p : Nat) : ∀ l, ltr sz tp p = some l → l < 256 := by
  intro l e
  unfold ltr at e
  split at e
  · cases e; exact h p
  · cases e
theorem ltr_32 {sz : Nat} {tp : Nat → Nat} (h : ∀ j, tp j < 256) {p : Nat} : eN (ltr sz tp p) = 32 ↔ oP isSp (ltr sz tp p) = true := by
  cases e : ltr sz tp p with
  | none => exact ⟨fun z => absurd z (by decide), fun z => by cases z⟩
  | some l =>
    have hl := ltr_lt h p l e
    show nI l = nI 32 ↔ decide (l = 32) = true
    rw [nI_eq (by omega) (by decide), decide_eq_true_eq]
theorem TpD.up {sz : Nat} {tp : Nat → Nat} {F I : Nat → Nat → Int32} (h : TpD sz tp F I) {j : Nat} {v : Int32} : TpD sz tp (sm_up F 37 j v) I := ⟨(up_nk (by decide)).trans h.1, h.2⟩
theorem sub_nI {a b : Nat} (h : b ≤ a) : nI a - nI b = nI (a - b) := by
  rw [show nI a = nI (a - b) + nI b by rw [nI_add, Nat.sub_add_cancel h]]
  exact Int32.add_sub_cancel _ _
theorem isDg_b {l : Nat} (h : isDg l = true) : 48 ≤ l ∧ l ≤ 57 := by
  unfold isDg at h
  rw [Bool.and_eq_true, decide_eq_true_eq, decide_eq_true_eq] at h
  exact h
theorem c_X2_numberHere {d : Nat} {F I : Nat → Nat → Int32} {J : Nat → Nat → Int64} {Q : Option Value → sm_H → Prop} {sz : Nat} {tp : Nat → Nat} (hP : TpD sz tp F I) (hz : sz ≤ 250) (ht : ∀ j, tp j < 256) {q e : Nat} (hq : F 37 2 = nI q) (hx : F 37 3 = nI e) (hqe : q ≤ e) (he : e ≤ sz) (hd : ∀ j, q ≤ j → j < e → isDg (tp j) = true) (k : Q (some (.int (nI (if e - q ≤ 3 then nmU tp q (e - q) else 1000)))) (S0, F, I, J)) : Wp mX2_numberHere (d + 2) 0 0 0 (sm_ini [.ref 37, .ref 35] 4) [] (S0, F, I, J) Q := by
  show Wp _ _ _ _ _ [.ref 37, .ref 35, .null, .null] _ _ _
  refine wp_aload_n (pc := 0) 0 dX2_numberHere_0 rfl rfl ?_
  refine wq_getI (pc := 1) 21 3 dX2_numberHere_1 s0_37 flX2_21 rfl (by decide) ?_
  refine wp_int hx ?_
  refine wp_aload_n (pc := 4) 0 dX2_numberHere_4 rfl rfl ?_
  refine wq_getI (pc := 5) 18 2 dX2_numberHere_5 s0_37 flX2_18 rfl (by decide) ?_
  refine wp_int hq ?_
  refine wp_isub (pc := 8) dX2_numberHere_8 ?_
  refine wp_int (sub_nI hqe) ?_
  refine wp_iconst (pc := 9) (3) dX2_numberHere_9 (by decide) ?_
  refine wp_icmp_le (pc := 10) 17 dX2_numberHere_10 (by decide) (fun c_10 => ?_) (fun c_10 => ?_)
  · refine wp_iconst (pc := 17) (0) dX2_numberHere_17 (by decide) ?_
    refine wp_istore_n (pc := 18) 2 dX2_numberHere_18 rfl (by decide) rfl ?_
    refine wp_aload_n (pc := 19) 0 dX2_numberHere_19 rfl rfl ?_
    refine wq_getI (pc := 20) 18 2 dX2_numberHere_20 s0_37 flX2_18 rfl (by decide) ?_
    refine wp_int hq ?_
    refine wp_istore_n (pc := 23) 3 dX2_numberHere_23 rfl (by decide) rfl ?_
    have h3 : e - q ≤ 3 := (nI_leI (b := 3) (by omega) (by decide)).mp c_10
    refine wp_to (lv' := [.ref 37, .ref 35, .int (nI (nmU tp q 0)), .int (nI (q + 0))]) ?_ rfl rfl rfl
    refine wp_loop (fun i => [.ref 37, .ref 35, .int (nI (nmU tp q i)), .int (nI (q + i))]) (fun _ => (S0, F, I, J)) (fun _ => True) (e - q) (fun i hi hv nx => ?_) (fun hv => ?_) 0 (Nat.zero_le _) trivial
    · have hl := isDg_b (hd (q + i) (by omega) (by omega))
      have hlt : ltr sz tp (q + i) = some (tp (q + i)) := if_pos (by omega)
      refine wp_iload_n (pc := 24) 3 dX2_numberHere_24 rfl rfl ?_
      refine wp_aload_n (pc := 25) 0 dX2_numberHere_25 rfl rfl ?_
      refine wq_getI (pc := 26) 21 3 dX2_numberHere_26 s0_37 flX2_21 rfl (by decide) ?_
      refine wp_int hx ?_
      refine wp_icmp_ge (pc := 29) 52 dX2_numberHere_29 (by decide) (fun c_29 => ?_) (fun c_29 => ?_)
      · exact absurd c_29 (nI_ge (b := e) (by omega) (by omega))
      · refine wp_bipush (pc := 32) (10) dX2_numberHere_32 (by decide) ?_
        refine wp_iload_n (pc := 34) 2 dX2_numberHere_34 rfl rfl ?_
        refine wp_imul (pc := 35) dX2_numberHere_35 ?_
        refine wp_int (x := 10 * nI _) (pk_mul 10 _) ?_
        refine wp_aload_n (pc := 36) 1 dX2_numberHere_36 rfl rfl ?_
        refine wp_iload_n (pc := 37) 3 dX2_numberHere_37 rfl rfl ?_
        refine wc_V_I (pc := 38) dX2_numberHere_38 lkX2_117 (sm_Rc.o (ci := 3) s0_35 (by decide) (by decide)) (by decide) (Nat.le_of_ble_eq_true rfl) ?_
        refine c_X4_letterAt hP hz (by omega) ?_
        refine wp_int (y := nI (tp (q + i))) (by rw [hlt]; rfl) ?_
        refine wp_iadd (pc := 41) dX2_numberHere_41 ?_
        refine wp_int (nI_add _ _) ?_
        refine wp_bipush (pc := 42) (48) dX2_numberHere_42 (by decide) ?_
        refine wp_isub (pc := 44) dX2_numberHere_44 ?_
        refine wp_int (y := nI (nmU tp q (i + 1))) (by rw [show (48 : Int32) = nI 48 from rfl, sub_nI (by omega)]; show _ = nI (10 * nmU tp q i + (tp (q + i) - 48)); rw [Nat.add_sub_assoc hl.1]) ?_
        refine wp_istore_n (pc := 45) 2 dX2_numberHere_45 rfl (by decide) rfl ?_
        refine wp_incN (pc := 46) 3 dX2_numberHere_46 rfl (by decide) rfl ?_
        refine wp_goto (pc := 49) 24 dX2_numberHere_49 (by decide) ?_
        have nx := nx trivial
        exact nx
    · refine wp_iload_n (pc := 24) 3 dX2_numberHere_24 rfl rfl ?_
      refine wp_aload_n (pc := 25) 0 dX2_numberHere_25 rfl rfl ?_
      refine wq_getI (pc := 26) 21 3 dX2_numberHere_26 s0_37 flX2_21 rfl (by decide) ?_
      refine wp_int hx ?_
      refine wp_icmp_ge (pc := 29) 52 dX2_numberHere_29 (by decide) (fun c_29 => ?_) (fun c_29 => ?_)
      · refine wp_iload_n (pc := 52) 2 dX2_numberHere_52 rfl rfl ?_
        refine wp_iretI (pc := 53) dX2_numberHere_53 rfl ?_
        rw [if_pos h3] at k; exact k
      · exact absurd (by rw [Nat.add_sub_cancel' hqe]; exact Int32.le_refl _) c_29
  · refine wp_sipush (pc := 13) (1000) dX2_numberHere_13 (by decide) ?_
    refine wp_iretI (pc := 16) dX2_numberHere_16 rfl ?_
    rw [if_neg (fun z => c_10 ((nI_leI (b := 3) (by omega) (by decide)).mpr z))] at k; exact k
