/-! ===== the library's strings ===== -/
section SQN
variable {M Mc : sm_M} {d mc ms pc : Nat} {lv st : List Value} {h : sm_H} {Q : Option Value → sm_H → Prop}
theorem wc_S_IIN {idx : Nat} {x0 : Int32} {x1 : Int32} (hdg : decode M.2.1 pc = .ok (.invokestatic idx, 3)) (ck : sm_ckS M.1.cls idx Mc 3) (hz : 3 ≤ Mc.2.2.1) (hr : (st.map fun v => v.category).sum ≤ 8)
    (kk : Wp Mc d 0 0 0 (sm_ini [.int x0, .int x1, .null] Mc.2.2.1) [] h (fun v h1 => Wp M (d + 1) 0 0 (pc + 3) lv (v.toList ++ st) h1 Q)) : Wp M (d + 1) 0 0 pc lv (.null :: .int x1 :: .int x0 :: st) h Q :=
  wp_callS (k := 0) (as := [.int x0, .int x1, .null]) hdg ck rfl rfl hz hr rfl rfl kk
end SQN
section ST
variable {d : Nat} {h : sm_H} {Q : Option Value → sm_H → Prop}
theorem c_J0_coder {i : Nat} (hi : i < 10) (k : Q (some (.int 0)) h) : Wp mJ0_coder_7d493 d 0 0 0 (sm_ini [.ref (1000 + i)] 1) [] h Q := by
  show Wp _ _ _ _ _ [.ref (1000 + i)] _ _ _
  refine wp_compact (pc := 0) dJ0_coder_7d493_0 flJ0_38 ?_
  refine wp_ifeq (pc := 3) 13 dJ0_coder_7d493_3 (by decide) (fun c_3 => ?_) (fun c_3 => ?_)
  · exact absurd c_3 (by decide)
  · refine wp_aload_n (pc := 6) 0 dJ0_coder_7d493_6 rfl rfl ?_
    refine wp_strC (pc := 7) i dJ0_coder_7d493_7 hi flJ0_15 ?_
    refine wp_goto (pc := 10) 14 dJ0_coder_7d493_10 (by decide) ?_
    refine wp_iret (pc := 14) dJ0_coder_7d493_14 ⟨_, rfl, by decide⟩ ?_
    exact k
theorem c_J0_isLatin1 {i : Nat} (hi : i < 10) (k : Q (some (.int 1)) h) : Wp mJ0_isLatin1_aae02 d 0 0 0 (sm_ini [.ref (1000 + i)] 1) [] h Q := by
  show Wp _ _ _ _ _ [.ref (1000 + i)] _ _ _
  refine wp_compact (pc := 0) dJ0_isLatin1_aae02_0 flJ0_38 ?_
  refine wp_ifeq (pc := 3) 17 dJ0_isLatin1_aae02_3 (by decide) (fun c_3 => ?_) (fun c_3 => ?_)
  · exact absurd c_3 (by decide)
  · refine wp_aload_n (pc := 6) 0 dJ0_isLatin1_aae02_6 rfl rfl ?_
    refine wp_strC (pc := 7) i dJ0_isLatin1_aae02_7 hi flJ0_15 ?_
    refine wp_ifne (pc := 10) 17 dJ0_isLatin1_aae02_10 (by decide) (fun c_10 => ?_) (fun c_10 => ?_)
    · exact absurd rfl c_10
    · refine wp_iconst (pc := 13) (1) dJ0_isLatin1_aae02_13 (by decide) ?_
      refine wp_goto (pc := 14) 18 dJ0_isLatin1_aae02_14 (by decide) ?_
      refine wp_iret (pc := 18) dJ0_isLatin1_aae02_18 ⟨_, rfl, by decide⟩ ?_
      exact k
theorem c_J0_length {i : Nat} (hi : i < 10) (k : Q (some (.int (nI (sm_len.getD i 0)))) h) : Wp mJ0_length_8abf5 (d + 1) 0 0 0 (sm_ini [.ref (1000 + i)] 1) [] h Q := by
  show Wp _ _ _ _ _ [.ref (1000 + i)] _ _ _
  refine wp_aload_n (pc := 0) 0 dJ0_length_8abf5_0 rfl rfl ?_
  refine wp_strV (pc := 1) i dJ0_length_8abf5_1 hi flJ0_9 ?_
  refine wp_strN (pc := 4) i (nI (sm_len.getD i 0)) dJ0_length_8abf5_4 hi rfl ?_
  refine wp_aload_n (pc := 5) 0 dJ0_length_8abf5_5 rfl rfl ?_
  refine wc_V_ (pc := 6) dJ0_length_8abf5_6 lkJ0_335 (sm_Rc.s hi) (by decide) (Nat.le_of_ble_eq_true rfl) ?_
  refine c_J0_coder hi ?_
  refine wp_ishr (pc := 9) dJ0_length_8abf5_9 ?_
  refine wp_int (y := nI (sm_len.getD i 0)) ?_ ?_
  · rw [show (0 : Int32) &&& 31 = 0 by decide]
    exact Int32.shiftRight_zero
  refine wp_iretI (pc := 10) dJ0_length_8abf5_10 rfl ?_
  exact k
theorem c_J3_checkIndex {x y : Int32} {v : Value} (hv : v = .null ∨ v = .ref 3000) (hx : ¬ x < 0) (hy : x < y) (k : Q (some (.int x)) h) : Wp mJ3_checkIndex_8e157 d 0 0 0 (sm_ini [.int x, .int y, v] 3) [] h Q := by
  rcases hv with rfl | rfl
  · show Wp _ _ _ _ _ [.int x, .int y, .null] _ _ _
    refine wp_iload_n (pc := 0) 0 dJ3_checkIndex_8e157_0 rfl rfl ?_
    refine wp_iflt (pc := 1) 9 dJ3_checkIndex_8e157_1 (by decide) (fun c_1 => absurd c_1 hx) (fun c_1 => ?_)
    refine wp_iload_n (pc := 4) 0 dJ3_checkIndex_8e157_4 rfl rfl ?_
    refine wp_iload_n (pc := 5) 1 dJ3_checkIndex_8e157_5 rfl rfl ?_
    refine wp_icmp_lt (pc := 6) 16 dJ3_checkIndex_8e157_6 (by decide) (fun c_6 => ?_) (fun c_6 => absurd hy c_6)
    refine wp_iload_n (pc := 16) 0 dJ3_checkIndex_8e157_16 rfl rfl ?_
    exact wp_iretI (pc := 17) dJ3_checkIndex_8e157_17 rfl k
  · show Wp _ _ _ _ _ [.int x, .int y, .ref 3000] _ _ _
    refine wp_iload_n (pc := 0) 0 dJ3_checkIndex_8e157_0 rfl rfl ?_
    refine wp_iflt (pc := 1) 9 dJ3_checkIndex_8e157_1 (by decide) (fun c_1 => absurd c_1 hx) (fun c_1 => ?_)
    refine wp_iload_n (pc := 4) 0 dJ3_checkIndex_8e157_4 rfl rfl ?_
    refine wp_iload_n (pc := 5) 1 dJ3_checkIndex_8e157_5 rfl rfl ?_
    refine wp_icmp_lt (pc := 6) 16 dJ3_checkIndex_8e157_6 (by decide) (fun c_6 => ?_) (fun c_6 => absurd hy c_6)
    refine wp_iload_n (pc := 16) 0 dJ3_checkIndex_8e157_16 rfl rfl ?_
    exact wp_iretI (pc := 17) dJ3_checkIndex_8e157_17 rfl k
theorem c_J0_checkIndex {x y : Int32} (hx : ¬ x < 0) (hy : x < y) (k : Q none h) : Wp mJ0_checkIndex_df160 (d + 1) 0 0 0 (sm_ini [.int x, .int y] 2) [] h Q := by
  show Wp _ _ _ _ _ [.int x, .int y] _ _ _
  refine wp_iload_n (pc := 0) 0 dJ0_checkIndex_df160_0 rfl rfl ?_
  refine wp_iload_n (pc := 1) 1 dJ0_checkIndex_df160_1 rfl rfl ?_
  refine wp_sioobe (pc := 2) dJ0_checkIndex_df160_2 flJ0_1053 (fun v hc hv => ?_)
  have fin : Wp mJ0_checkIndex_df160 (d + 1) 0 0 8 [.int x, .int y] [.int x] h Q := by
    refine wp_pop (pc := 8) dJ0_checkIndex_df160_8 rfl ?_
    exact wp_ret (pc := 9) dJ0_checkIndex_df160_9 rfl k
  rcases hv with rfl | rfl
  · refine wc_S_IIN (pc := 5) dJ0_checkIndex_df160_5 lkJ0_1059 (by decide) (Nat.le_of_ble_eq_true rfl) ?_
    exact c_J3_checkIndex (Or.inl rfl) hx hy fin
  · refine wc_S_IIR (pc := 5) dJ0_checkIndex_df160_5 lkJ0_1059 (by decide) (Nat.le_of_ble_eq_true rfl) ?_
    exact c_J3_checkIndex (Or.inr rfl) hx hy fin
/-- the letter of a word at a place -/
def wlt (i n : Nat) : Int32 := ((((sm_byt.getD i []).getD n 0) &&& 255).toUInt32 % 65536).toInt32
theorem c_J1_charAt {i n : Nat} (hi : i < 10) (hn : n < sm_len.getD i 0) (hl : sm_len.getD i 0 < 100) (k : Q (some (.int (wlt i n))) h) (hw : narrow .char (.int (wlt i n)) = .int (wlt i n)) : Wp mJ1_charAt_3b067 (d + 2) 0 0 0 (sm_ini [.ref (2000 + i), .int (nI n)] 2) [] h Q := by
  show Wp _ _ _ _ _ [.ref (2000 + i), .int (nI n)] _ _ _
  refine wp_iload_n (pc := 0) 1 dJ1_charAt_3b067_0 rfl rfl ?_
  refine wp_aload_n (pc := 1) 0 dJ1_charAt_3b067_1 rfl rfl ?_
  refine wp_strN (pc := 2) i (nI (sm_len.getD i 0)) dJ1_charAt_3b067_2 hi rfl ?_
  refine wc_S_II (pc := 3) dJ1_charAt_3b067_3 lkJ1_9 (by decide) (Nat.le_of_ble_eq_true rfl) ?_
  refine c_J0_checkIndex (nI_pos (by omega)) (nI_lt hn (by omega)) ?_
  refine wp_aload_n (pc := 6) 0 dJ1_charAt_3b067_6 rfl rfl ?_
  refine wp_iload_n (pc := 7) 1 dJ1_charAt_3b067_7 rfl rfl ?_
  refine wp_strB (pc := 8) i dJ1_charAt_3b067_8 hi (vp_in_nI hn (by omega)) ?_
  rw [nI_clamp (by omega)]
  refine wp_sipush (pc := 9) (255) dJ1_charAt_3b067_9 (by decide) ?_
  refine wp_iand (pc := 12) dJ1_charAt_3b067_12 ?_
  refine wp_i2c (pc := 13) dJ1_charAt_3b067_13 ?_
  exact wp_iret (pc := 14) dJ1_charAt_3b067_14 ⟨_, rfl, hw⟩ k
theorem c_J0_charAt {i n : Nat} (hi : i < 10) (hn : n < sm_len.getD i 0) (hl : sm_len.getD i 0 < 100) (hw : narrow .char (.int (wlt i n)) = .int (wlt i n)) (k : Q (some (.int (wlt i n))) h) : Wp mJ0_charAt_5068e (d + 3) 0 0 0 (sm_ini [.ref (1000 + i), .int (nI n)] 2) [] h Q := by
  show Wp _ _ _ _ _ [.ref (1000 + i), .int (nI n)] _ _ _
  refine wp_aload_n (pc := 0) 0 dJ0_charAt_5068e_0 rfl rfl ?_
  refine wc_V_ (pc := 1) dJ0_charAt_5068e_1 lkJ0_492 (sm_Rc.s hi) (by decide) (Nat.le_of_ble_eq_true rfl) ?_
  refine c_J0_isLatin1 hi ?_
  refine wp_ifeq (pc := 4) 16 dJ0_charAt_5068e_4 (by decide) (fun c_4 => absurd c_4 (by decide)) (fun c_4 => ?_)
  refine wp_aload_n (pc := 7) 0 dJ0_charAt_5068e_7 rfl rfl ?_
  refine wp_strV (pc := 8) i dJ0_charAt_5068e_8 hi flJ0_9 ?_
  refine wp_iload_n (pc := 11) 1 dJ0_charAt_5068e_11 rfl rfl ?_
  refine wc_S_RI (pc := 12) dJ0_charAt_5068e_12 lkJ0_495 (by decide) (Nat.le_of_ble_eq_true rfl) ?_
  refine c_J1_charAt hi hn hl ?_ hw
  exact wp_iret (pc := 15) dJ0_charAt_5068e_15 ⟨_, rfl, hw⟩ k
theorem len_lt {i : Nat} (hi : i < 10) : sm_len.getD i 0 < 8 ∧ 4 ≤ sm_len.getD i 0 := by
  rcases (show i = 0 ∨ i = 1 ∨ i = 2 ∨ i = 3 ∨ i = 4 ∨ i = 5 ∨ i = 6 ∨ i = 7 ∨ i = 8 ∨ i = 9 by omega) with rfl | rfl | rfl | rfl | rfl | rfl | rfl | rfl | rfl | rfl <;> decide
/-- the letters as numbers -/
def wdl (i n : Nat) : Nat := (wlt i n).toNatClampNeg
theorem wdl_all : ∀ i, i < 10 → ∀ n, n < 7 → (n < sm_len.getD i 0 → wlt i n = nI (wdl i n) ∧ 97 ≤ wdl i n ∧ wdl i n ≤ 122 ∧ narrow .char (.int (wlt i n)) = .int (wlt i n)) := by decide +kernel
end ST
