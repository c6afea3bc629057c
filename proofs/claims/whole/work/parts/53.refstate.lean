/-! ===== the reference: its state; depths, turns, extremes ===== -/
def wd7 (j : Nat) : Nat := ([116, 104, 105, 110, 103, 0, 0, 104, 97, 110, 103, 115, 0, 0, 102, 114, 101, 101, 0, 0, 0, 117, 110, 115, 97, 105, 100, 0, 115, 97, 105, 100, 0, 0, 0, 114, 105, 110, 103, 101, 114, 0, 119, 101, 97, 116, 104, 101, 114, 99, 114, 97, 99, 107, 0, 0, 109, 101, 110, 100, 0, 0, 0, 121, 101, 97, 114, 0, 0, 0] : List Nat).getD j 0
def MR (s : Sg) (F I : Nat → Nat → Int32) (J : Nat → Nat → Int64) : Prop := Rw 41 (sgf s) I ∧ (sgb s = true → Rw 43 (sgk s) I) ∧ F 40 3 = b2 (sgb s) ∧ (∀ j, j < 5 → I 44 (2 + j) = sgr s j) ∧ (F 40 6 = nI (sgz s) ∧ ∀ j, j < 250 → I 45 j = nI (sgt s j)) ∧ ShR 47 (sgh s) (sgs s) (sge s) I J ∧ (∀ j, j < 70 → I 46 j = nI (wd7 j)) ∧ (∀ j, j < 6 → I 51 j = upK j)
def Lo (F I : Nat → Nat → Int32) (J : Nat → Nat → Int64) (F1 I1 : Nat → Nat → Int32) (J1 : Nat → Nat → Int64) : Prop := ∀ a, a < 40 → F1 a = F a ∧ I1 a = I a ∧ J1 a = J a
section MRS
variable {s : Sg} {F I F1 I1 : Nat → Nat → Int32} {J J1 : Nat → Nat → Int64}
theorem Lo.rf : Lo F I J F I J := fun _ _ => ⟨rfl, rfl, rfl⟩
theorem Lo.tr {F2 I2 : Nat → Nat → Int32} {J2 : Nat → Nat → Int64} (h : Lo F I J F1 I1 J1) (h2 : Lo F1 I1 J1 F2 I2 J2) : Lo F I J F2 I2 J2 := fun a ha => ⟨(h2 a ha).1.trans (h a ha).1, (h2 a ha).2.1.trans (h a ha).2.1, (h2 a ha).2.2.trans (h a ha).2.2⟩
theorem Lo.uF {k j : Nat} {v : Int32} (h : Lo F I J F1 I1 J1) (hk : 40 ≤ k) : Lo F I J (sm_up F1 k j v) I1 J1 := fun a ha => ⟨(sm_up_ne (by omega)).trans (h a ha).1, (h a ha).2⟩
theorem Lo.uI {k j : Nat} {v : Int32} (h : Lo F I J F1 I1 J1) (hk : 40 ≤ k) : Lo F I J F1 (sm_up I1 k j v) J1 := fun a ha => ⟨(h a ha).1, (sm_up_ne (by omega)).trans (h a ha).2.1, (h a ha).2.2⟩
theorem Lo.uJ {k j : Nat} {v : Int64} (h : Lo F I J F1 I1 J1) (hk : 40 ≤ k) : Lo F I J F1 I1 (sm_up J1 k j v) := fun a ha => ⟨(h a ha).1, (h a ha).2.1, (sm_up_ne (by omega)).trans (h a ha).2.2⟩
/-- what changes of the reference's scratch alone -/
theorem MR.scr (h : MR s F I J) (h3 : F1 40 3 = F 40 3) (h6 : F1 40 6 = F 40 6) (hI : ∀ a, a ≠ 42 → I1 a = I a) (hJ : ∀ a, a ≠ 50 → J1 a = J a) : MR s F1 I1 J1 := by
  obtain ⟨g1, g2, g3, g4, g5, g6, g7, g8⟩ := h
  refine ⟨fun j hj => ?_, fun z j hj => ?_, h3.trans g3, fun j hj => ?_, ⟨h6.trans g5.1, fun j hj => ?_⟩, ⟨fun x hx => ?_, fun x hx => ?_, fun x hx => ?_⟩, fun j hj => ?_, fun j hj => ?_⟩
  · rw [hI 41 (by decide)]; exact g1 j hj
  · rw [hI 43 (by decide)]; exact g2 z j hj
  · rw [hI 44 (by decide)]; exact g4 j hj
  · rw [hI 45 (by decide)]; exact g5.2 j hj
  · rw [hI 47 (by decide)]; exact g6.1 x hx
  · rw [hI (47 + 1) (by decide)]; exact g6.2.1 x hx
  · rw [hJ (47 + 2) (by decide)]; exact g6.2.2 x hx
  · rw [hI 46 (by decide)]; exact g7 j hj
  · rw [hI 51 (by decide)]; exact g8 j hj
theorem MR.bmp (h : MR s F I J) {j : Nat} (hj : j < 5) : MR (stR s j) F (sm_up I 44 (2 + j) (I 44 (2 + j) + 1)) J := by
  obtain ⟨g1, g2, g3, g4, g5, g6, g7, g8⟩ := h
  refine ⟨fun x hx => ?_, fun z x hx => ?_, g3, fun i hi => ?_, ⟨g5.1, fun x hx => ?_⟩, ⟨fun x hx => ?_, fun x hx => ?_, g6.2.2⟩, fun x hx => ?_, fun x hx => ?_⟩
  · rw [up_nk (by decide)]; exact g1 x hx
  · rw [up_nk (by decide)]; exact g2 z x hx
  · by_cases e : i = j
    · subst e
      rw [up_eq, g4 i hi]
      exact (pu_eq (g := sgr s)).symm
    · rw [up_nj (by omega), g4 i hi]
      exact (pu_ne (g := sgr s) e).symm
  · rw [up_nk (by decide)]; exact g5.2 x hx
  · rw [up_nk (by decide)]; exact g6.1 x hx
  · rw [up_nk (by decide)]; exact g6.2.1 x hx
  · rw [up_nk (by decide)]; exact g7 x hx
  · rw [up_nk (by decide)]; exact g8 x hx
theorem MR.f {f : rw_} (h : MR s F I J) (hR : Rw 41 f I1) (hI : ∀ a, a ≠ 41 → I1 a = I a) : MR (stF s f) F I1 J := by
  obtain ⟨g1, g2, g3, g4, g5, g6, g7, g8⟩ := h
  refine ⟨hR, fun z j hj => ?_, g3, fun j hj => ?_, ⟨g5.1, fun j hj => ?_⟩, ⟨fun x hx => ?_, fun x hx => ?_, g6.2.2⟩, fun j hj => ?_, fun j hj => ?_⟩
  · rw [hI 43 (by decide)]; exact g2 z j hj
  · rw [hI 44 (by decide)]; exact g4 j hj
  · rw [hI 45 (by decide)]; exact g5.2 j hj
  · rw [hI 47 (by decide)]; exact g6.1 x hx
  · rw [hI (47 + 1) (by decide)]; exact g6.2.1 x hx
  · rw [hI 46 (by decide)]; exact g7 j hj
  · rw [hI 51 (by decide)]; exact g8 j hj
theorem MR.t {sz : Nat} {tp : Nat → Nat} (h : MR s F I J) (h3 : F1 40 3 = F 40 3) (h6 : F1 40 6 = nI sz) (h4 : ∀ j, j < 250 → I1 45 j = nI (tp j)) (hI : ∀ a, a ≠ 45 → a ≠ 42 → I1 a = I a) : MR (stT s sz tp) F1 I1 J := by
  obtain ⟨g1, g2, g3, g4, g5, g6, g7, g8⟩ := h
  refine ⟨fun j hj => ?_, fun z j hj => ?_, h3.trans g3, fun j hj => ?_, ⟨h6, h4⟩, ⟨fun x hx => ?_, fun x hx => ?_, g6.2.2⟩, fun j hj => ?_, fun j hj => ?_⟩
  · rw [hI 41 (by decide) (by decide)]; exact g1 j hj
  · rw [hI 43 (by decide) (by decide)]; exact g2 z j hj
  · rw [hI 44 (by decide) (by decide)]; exact g4 j hj
  · rw [hI 47 (by decide) (by decide)]; exact g6.1 x hx
  · rw [hI (47 + 1) (by decide) (by decide)]; exact g6.2.1 x hx
  · rw [hI 46 (by decide) (by decide)]; exact g7 j hj
  · rw [hI 51 (by decide) (by decide)]; exact g8 j hj
theorem MR.sh {hd : Nat → Option Nat} {zs : Nat → Nat} {el : Nat → Int64} (h : MR s F I J) (hS : ShR 47 hd zs el I1 J1) (hI : ∀ a, a ≠ 47 → a ≠ 48 → I1 a = I a) : MR (stS s hd zs el) F I1 J1 := by
  obtain ⟨g1, g2, g3, g4, g5, g6, g7, g8⟩ := h
  refine ⟨fun j hj => ?_, fun z j hj => ?_, g3, fun j hj => ?_, ⟨g5.1, fun j hj => ?_⟩, hS, fun j hj => ?_, fun j hj => ?_⟩
  · rw [hI 41 (by decide) (by decide)]; exact g1 j hj
  · rw [hI 43 (by decide) (by decide)]; exact g2 z j hj
  · rw [hI 44 (by decide) (by decide)]; exact g4 j hj
  · rw [hI 45 (by decide) (by decide)]; exact g5.2 j hj
  · rw [hI 46 (by decide) (by decide)]; exact g7 j hj
  · rw [hI 51 (by decide) (by decide)]; exact g8 j hj
theorem MR.k (h : MR s F I J) (hR : Rw 43 (sgf s) I1) (hI : ∀ a, a ≠ 43 → I1 a = I a) : MR (stK s) (sm_up F 40 3 (b2 true)) I1 J := by
  obtain ⟨g1, g2, g3, g4, g5, g6, g7, g8⟩ := h
  refine ⟨fun j hj => ?_, fun _ => hR, up_eq, fun j hj => ?_, ⟨(up_nj (by decide)).trans g5.1, fun j hj => ?_⟩, ⟨fun x hx => ?_, fun x hx => ?_, g6.2.2⟩, fun j hj => ?_, fun j hj => ?_⟩
  · rw [hI 41 (by decide)]; exact g1 j hj
  · rw [hI 44 (by decide)]; exact g4 j hj
  · rw [hI 45 (by decide)]; exact g5.2 j hj
  · rw [hI 47 (by decide)]; exact g6.1 x hx
  · rw [hI (47 + 1) (by decide)]; exact g6.2.1 x hx
  · rw [hI 46 (by decide)]; exact g7 j hj
  · rw [hI 51 (by decide)]; exact g8 j hj
end MRS
theorem c_X7_no_0 {d : Nat} {F I : Nat → Nat → Int32} {J : Nat → Nat → Int64} {Q : Option Value → sm_H → Prop} (k : Q (some (.int (cod 0))) (S0, F, sm_up I 44 (2 + 0) (I 44 (2 + 0) + 1), J)) : Wp mX7_no d 0 0 0 (sm_ini [.ref 40, .int (-2)] 2) [] (S0, F, I, J) Q := by
  show Wp _ _ _ _ _ [.ref 40, .int (-2)] _ _ _
  refine wp_aload_n (pc := 0) 0 dX7_no_0 rfl rfl ?_
  refine wq_getR (pc := 1) 23 4 dX7_no_1 s0_40 flX7_23 rfl rfl (by decide) (by decide) ?_
  refine wp_iload_n (pc := 4) 1 dX7_no_4 rfl rfl ?_
  refine wp_ineg (pc := 5) dX7_no_5 ?_
  refine wp_int (y := 2) (by decide) ?_
  refine wp_dup2 (pc := 6) dX7_no_6 rfl rfl ?_
  refine wq_iald (pc := 7) 2 dX7_no_7 s0_44 (by decide) rfl (by decide) (by decide) ?_
  refine wp_iconst (pc := 8) (1) dX7_no_8 (by decide) ?_
  refine wp_iadd (pc := 9) dX7_no_9 ?_
  refine wq_iast (pc := 10) 2 dX7_no_10 s0_44 (by decide) rfl (by decide) (by decide) ?_
  refine wp_iload_n (pc := 11) 1 dX7_no_11 rfl rfl ?_
  refine wp_iretI (pc := 12) dX7_no_12 rfl ?_
  exact k
theorem c_X7_no_1 {d : Nat} {F I : Nat → Nat → Int32} {J : Nat → Nat → Int64} {Q : Option Value → sm_H → Prop} (k : Q (some (.int (cod 1))) (S0, F, sm_up I 44 (2 + 1) (I 44 (2 + 1) + 1), J)) : Wp mX7_no d 0 0 0 (sm_ini [.ref 40, .int (-3)] 2) [] (S0, F, I, J) Q := by
  show Wp _ _ _ _ _ [.ref 40, .int (-3)] _ _ _
  refine wp_aload_n (pc := 0) 0 dX7_no_0 rfl rfl ?_
  refine wq_getR (pc := 1) 23 4 dX7_no_1 s0_40 flX7_23 rfl rfl (by decide) (by decide) ?_
  refine wp_iload_n (pc := 4) 1 dX7_no_4 rfl rfl ?_
  refine wp_ineg (pc := 5) dX7_no_5 ?_
  refine wp_int (y := 3) (by decide) ?_
  refine wp_dup2 (pc := 6) dX7_no_6 rfl rfl ?_
  refine wq_iald (pc := 7) 3 dX7_no_7 s0_44 (by decide) rfl (by decide) (by decide) ?_
  refine wp_iconst (pc := 8) (1) dX7_no_8 (by decide) ?_
  refine wp_iadd (pc := 9) dX7_no_9 ?_
  refine wq_iast (pc := 10) 3 dX7_no_10 s0_44 (by decide) rfl (by decide) (by decide) ?_
  refine wp_iload_n (pc := 11) 1 dX7_no_11 rfl rfl ?_
  refine wp_iretI (pc := 12) dX7_no_12 rfl ?_
  exact k
theorem c_X7_no_2 {d : Nat} {F I : Nat → Nat → Int32} {J : Nat → Nat → Int64} {Q : Option Value → sm_H → Prop} (k : Q (some (.int (cod 2))) (S0, F, sm_up I 44 (2 + 2) (I 44 (2 + 2) + 1), J)) : Wp mX7_no d 0 0 0 (sm_ini [.ref 40, .int (-4)] 2) [] (S0, F, I, J) Q := by
  show Wp _ _ _ _ _ [.ref 40, .int (-4)] _ _ _
  refine wp_aload_n (pc := 0) 0 dX7_no_0 rfl rfl ?_
  refine wq_getR (pc := 1) 23 4 dX7_no_1 s0_40 flX7_23 rfl rfl (by decide) (by decide) ?_
  refine wp_iload_n (pc := 4) 1 dX7_no_4 rfl rfl ?_
  refine wp_ineg (pc := 5) dX7_no_5 ?_
  refine wp_int (y := 4) (by decide) ?_
  refine wp_dup2 (pc := 6) dX7_no_6 rfl rfl ?_
  refine wq_iald (pc := 7) 4 dX7_no_7 s0_44 (by decide) rfl (by decide) (by decide) ?_
  refine wp_iconst (pc := 8) (1) dX7_no_8 (by decide) ?_
  refine wp_iadd (pc := 9) dX7_no_9 ?_
  refine wq_iast (pc := 10) 4 dX7_no_10 s0_44 (by decide) rfl (by decide) (by decide) ?_
  refine wp_iload_n (pc := 11) 1 dX7_no_11 rfl rfl ?_
  refine wp_iretI (pc := 12) dX7_no_12 rfl ?_
  exact k
theorem c_X7_no_3 {d : Nat} {F I : Nat → Nat → Int32} {J : Nat → Nat → Int64} {Q : Option Value → sm_H → Prop} (k : Q (some (.int (cod 3))) (S0, F, sm_up I 44 (2 + 3) (I 44 (2 + 3) + 1), J)) : Wp mX7_no d 0 0 0 (sm_ini [.ref 40, .int (-5)] 2) [] (S0, F, I, J) Q := by
  show Wp _ _ _ _ _ [.ref 40, .int (-5)] _ _ _
  refine wp_aload_n (pc := 0) 0 dX7_no_0 rfl rfl ?_
  refine wq_getR (pc := 1) 23 4 dX7_no_1 s0_40 flX7_23 rfl rfl (by decide) (by decide) ?_
  refine wp_iload_n (pc := 4) 1 dX7_no_4 rfl rfl ?_
  refine wp_ineg (pc := 5) dX7_no_5 ?_
  refine wp_int (y := 5) (by decide) ?_
  refine wp_dup2 (pc := 6) dX7_no_6 rfl rfl ?_
  refine wq_iald (pc := 7) 5 dX7_no_7 s0_44 (by decide) rfl (by decide) (by decide) ?_
  refine wp_iconst (pc := 8) (1) dX7_no_8 (by decide) ?_
  refine wp_iadd (pc := 9) dX7_no_9 ?_
  refine wq_iast (pc := 10) 5 dX7_no_10 s0_44 (by decide) rfl (by decide) (by decide) ?_
  refine wp_iload_n (pc := 11) 1 dX7_no_11 rfl rfl ?_
  refine wp_iretI (pc := 12) dX7_no_12 rfl ?_
  exact k
theorem c_X7_no_4 {d : Nat} {F I : Nat → Nat → Int32} {J : Nat → Nat → Int64} {Q : Option Value → sm_H → Prop} (k : Q (some (.int (cod 4))) (S0, F, sm_up I 44 (2 + 4) (I 44 (2 + 4) + 1), J)) : Wp mX7_no d 0 0 0 (sm_ini [.ref 40, .int (-6)] 2) [] (S0, F, I, J) Q := by
  show Wp _ _ _ _ _ [.ref 40, .int (-6)] _ _ _
  refine wp_aload_n (pc := 0) 0 dX7_no_0 rfl rfl ?_
  refine wq_getR (pc := 1) 23 4 dX7_no_1 s0_40 flX7_23 rfl rfl (by decide) (by decide) ?_
  refine wp_iload_n (pc := 4) 1 dX7_no_4 rfl rfl ?_
  refine wp_ineg (pc := 5) dX7_no_5 ?_
  refine wp_int (y := 6) (by decide) ?_
  refine wp_dup2 (pc := 6) dX7_no_6 rfl rfl ?_
  refine wq_iald (pc := 7) 6 dX7_no_7 s0_44 (by decide) rfl (by decide) (by decide) ?_
  refine wp_iconst (pc := 8) (1) dX7_no_8 (by decide) ?_
  refine wp_iadd (pc := 9) dX7_no_9 ?_
  refine wq_iast (pc := 10) 6 dX7_no_10 s0_44 (by decide) rfl (by decide) (by decide) ?_
  refine wp_iload_n (pc := 11) 1 dX7_no_11 rfl rfl ?_
  refine wp_iretI (pc := 12) dX7_no_12 rfl ?_
  exact k
theorem dn_t {f : rw_} {b k : Nat} (h : b.testBit k = true) : dnD f b (k + 1) = dnD f (b ||| f (5 * k + 2)) k := by rw [dnD, if_pos h]
theorem dn_f {f : rw_} {b k : Nat} (h : b.testBit k = false) : dnD f b (k + 1) = dnD f b k := by rw [dnD, if_neg (by rw [h]; decide)]
theorem c_X7_downOf {d : Nat} {F I : Nat → Nat → Int32} {J : Nat → Nat → Int64} {Q : Option Value → sm_H → Prop} {f : rw_} (hw : WF f) (hR : Rw 41 f I) {a : Nat} (ha : a < 10) (k : Q (some (.int (nI (down f a)))) (S0, F, I, J)) : Wp mX7_downOf (d + 1) 0 0 0 (sm_ini [.ref 40, .int (nI a)] 4) [] (S0, F, I, J) Q := by
  show Wp _ _ _ _ _ [.ref 40, .int (nI a), .null, .null] _ _ _
  refine wp_aload_n (pc := 0) 0 dX7_downOf_0 rfl rfl ?_
  refine wp_iload_n (pc := 1) 1 dX7_downOf_1 rfl rfl ?_
  refine wp_iconst (pc := 2) (2) dX7_downOf_2 (by decide) ?_
  refine wc_V_II (pc := 3) dX7_downOf_3 lkX7_53 (sm_Rc.o (ci := 6) s0_40 (by decide) (by decide)) (by decide) (Nat.le_of_ble_eq_true rfl) ?_
  refine c_X7_of (w := 2) hw hR (by omega) ?_
  refine wp_istore_n (pc := 6) 2 dX7_downOf_6 rfl (by decide) rfl ?_
  refine wp_iload_n (pc := 7) 1 dX7_downOf_7 rfl rfl ?_
  refine wp_iconst (pc := 8) (1) dX7_downOf_8 (by decide) ?_
  refine wp_isub (pc := 9) dX7_downOf_9 ?_
  refine wp_istore_n (pc := 10) 3 dX7_downOf_10 rfl (by decide) rfl ?_
  refine wp_loopS (σ := Nat) (fun i b => [.ref 40, .int (nI a), .int (nI b), .int (nI (a - i) - 1)]) (fun _ _ => (S0, F, I, J)) (fun i b => b < 1024 ∧ dnD f b (a - i) = dnD f (f (5 * a + 2)) a) a (fun i b hi hs nx => ?_) (fun b hs => ?_) 0 (f (5 * a + 2)) (Nat.zero_le _) ⟨hw.on10 ha, rfl⟩
  · obtain ⟨hb1, hd1⟩ := hs
    obtain ⟨j, hj⟩ : ∃ j, a - i = j + 1 := ⟨a - i - 1, by omega⟩
    have hj2 : a - (i + 1) = j := by omega
    rw [hj] at hd1
    have hO := hw.on10 (i := j) (by omega)
    refine wp_to (lv' := [.ref 40, .int (nI a), .int (nI b), .int (nI j)]) ?_ (by rw [hj, nI_pred]) rfl rfl
    refine wp_iload_n (pc := 11) 3 dX7_downOf_11 rfl rfl ?_
    refine wp_iflt (pc := 12) 43 dX7_downOf_12 (by decide) (fun c_12 => ?_) (fun c_12 => ?_)
    · exact absurd c_12 (nI_pos (by omega))
    · refine wp_iload_n (pc := 15) 2 dX7_downOf_15 rfl rfl ?_
      refine wp_iload_n (pc := 16) 2 dX7_downOf_16 rfl rfl ?_
      refine wp_iload_n (pc := 17) 3 dX7_downOf_17 rfl rfl ?_
      refine wp_ishr (pc := 18) dX7_downOf_18 ?_
      refine wp_iconst (pc := 19) (1) dX7_downOf_19 (by decide) ?_
      refine wp_iand (pc := 20) dX7_downOf_20 ?_
      refine wp_int (bt_bit (by omega) (by omega)) ?_
      refine wp_iconst (pc := 21) (1) dX7_downOf_21 (by decide) ?_
      refine wp_icmp_ne1 (pc := 22) 34 dX7_downOf_22 (by decide) (fun c_22 => ?_) (fun c_22 => ?_)
      · refine wp_iconst (pc := 34) (0) dX7_downOf_34 (by decide) ?_
        refine wp_ior (pc := 35) dX7_downOf_35 ?_
        refine wp_int (or0 _) ?_
        refine wp_istore_n (pc := 36) 2 dX7_downOf_36 rfl (by decide) rfl ?_
        refine wp_dec1 (pc := 37) 3 dX7_downOf_37 rfl (by decide) rfl ?_
        refine wp_goto (pc := 40) 11 dX7_downOf_40 (by decide) ?_
        have nx := nx b ⟨hb1, by rw [hj2, ← dn_f c_22]; exact hd1⟩
        rw [hj2] at nx
        exact nx
      · refine wp_aload_n (pc := 25) 0 dX7_downOf_25 rfl rfl ?_
        refine wp_iload_n (pc := 26) 3 dX7_downOf_26 rfl rfl ?_
        refine wp_iconst (pc := 27) (2) dX7_downOf_27 (by decide) ?_
        refine wc_V_II (pc := 28) dX7_downOf_28 lkX7_53 (sm_Rc.o (ci := 6) s0_40 (by decide) (by decide)) (by decide) (Nat.le_of_ble_eq_true rfl) ?_
        refine c_X7_of (w := 2) hw hR (by omega) ?_
        refine wp_goto (pc := 31) 35 dX7_downOf_31 (by decide) ?_
        refine wp_ior (pc := 35) dX7_downOf_35 ?_
        refine wp_int (bt_or _ _) ?_
        refine wp_istore_n (pc := 36) 2 dX7_downOf_36 rfl (by decide) rfl ?_
        refine wp_dec1 (pc := 37) 3 dX7_downOf_37 rfl (by decide) rfl ?_
        refine wp_goto (pc := 40) 11 dX7_downOf_40 (by decide) ?_
        have nx := nx (b ||| f (5 * j + 2)) ⟨or_lt (n := 10) hb1 hO, by rw [hj2, ← dn_t c_22]; exact hd1⟩
        rw [hj2] at nx
        exact nx
  · obtain ⟨hb1, hd1⟩ := hs
    rw [Nat.sub_self] at hd1
    refine wp_to (lv' := [.ref 40, .int (nI a), .int (nI b), .int (-1)]) ?_ (by rw [Nat.sub_self]; rfl) rfl rfl
    refine wp_iload_n (pc := 11) 3 dX7_downOf_11 rfl rfl ?_
    refine wp_iflt (pc := 12) 43 dX7_downOf_12 (by decide) (fun c_12 => ?_) (fun c_12 => ?_)
    · refine wp_iload_n (pc := 43) 2 dX7_downOf_43 rfl rfl ?_
      refine wp_iretI (pc := 44) dX7_downOf_44 rfl ?_
      rw [down_of hw ha, ← hd1] at k; exact k
    · exact absurd (by decide) c_12
theorem rm4 {a b : Nat} (ha : a ≤ 3) (hb : b ≤ 3) : (nI a - nI b + 4) - (nI a - nI b + 4) / 4 * 4 = nI ((a + 4 - b) % 4) :=
  (by decide +kernel : ∀ a b : Fin 4, (nI a.val - nI b.val + 4) - (nI a.val - nI b.val + 4) / 4 * 4 = nI ((a.val + 4 - b.val) % 4)) ⟨a, by omega⟩ ⟨b, by omega⟩
theorem c_X7_untilAll {d : Nat} {F I : Nat → Nat → Int32} {J : Nat → Nat → Int64} {Q : Option Value → sm_H → Prop} {f : rw_} (hw : WF f) (hR : Rw 41 f I) {b : Nat} (hb : b < 1024) (k : Q (some (.int (untl f b))) (S0, F, I, J)) : Wp mX7_untilAll (d + 1) 0 0 0 (sm_ini [.ref 40, .int (nI b)] 4) [] (S0, F, I, J) Q := by
  show Wp _ _ _ _ _ [.ref 40, .int (nI b), .null, .null] _ _ _
  refine wp_iconst (pc := 0) (0) dX7_untilAll_0 (by decide) ?_
  refine wp_istore_n (pc := 1) 2 dX7_untilAll_1 rfl (by decide) rfl ?_
  refine wp_iconst (pc := 2) (0) dX7_untilAll_2 (by decide) ?_
  refine wp_istore_n (pc := 3) 3 dX7_untilAll_3 rfl (by decide) rfl ?_
  refine wp_loop (fun i => [.ref 40, .int (nI b), .int (nI (dyU f b i)), .int (nI i)]) (fun i => (S0, F, I, J)) (fun i => ∀ j, j < i → dyOk f b j = true) (f 68) (fun i hi hv nx => ?_) (fun hv => ?_) 0 (by omega) (fun j hj => absurd hj (Nat.not_lt_zero j))
  · have hn := hw.n
    have hb3 := hw.been (i := i) (by omega)
    have hr := hw.rung (i := i) (by omega)
    have hh := hw.wth
    have hbi := bn_at hw hi
    have hd := dyU_le f b i
    have hmod := Nat.mod_lt (f (5 * i + 1) + 4 - f 70) (show 4 > 0 by decide)
    refine wp_iload_n (pc := 4) 3 dX7_untilAll_4 rfl rfl ?_
    refine wp_aload_n (pc := 5) 0 dX7_untilAll_5 rfl rfl ?_
    refine wc_V_ (pc := 6) dX7_untilAll_6 lkX7_57 (sm_Rc.o (ci := 6) s0_40 (by decide) (by decide)) (by decide) (Nat.le_of_ble_eq_true rfl) ?_
    refine c_X7_many hw hR ?_
    refine wp_icmp_ge (pc := 9) 71 dX7_untilAll_9 (by decide) (fun c_9 => ?_) (fun c_9 => ?_)
    · exact absurd c_9 (nI_ge (b := f 68) hi (by omega))
    · refine wp_iload_n (pc := 12) 1 dX7_untilAll_12 rfl rfl ?_
      refine wp_iload_n (pc := 13) 3 dX7_untilAll_13 rfl rfl ?_
      refine wp_ishr (pc := 14) dX7_untilAll_14 ?_
      refine wp_iconst (pc := 15) (1) dX7_untilAll_15 (by decide) ?_
      refine wp_iand (pc := 16) dX7_untilAll_16 ?_
      refine wp_int (bt_bit (by omega) (by omega)) ?_
      refine wp_iconst (pc := 17) (1) dX7_untilAll_17 (by decide) ?_
      refine wp_icmp_ne1 (pc := 18) 65 dX7_untilAll_18 (by decide) (fun c_18 => ?_) (fun c_18 => ?_)
      · refine wp_incN (pc := 65) 3 dX7_untilAll_65 rfl (by decide) rfl ?_
        refine wp_goto (pc := 68) 4 dX7_untilAll_68 (by decide) ?_
        have nx := nx (fun j hj => by
          by_cases hji : j = i
          · subst hji; simp [dyOk, c_18]
          · exact hv j (by omega))
        rw [dyU_f c_18] at nx
        exact nx
      · refine wp_aload_n (pc := 21) 0 dX7_untilAll_21 rfl rfl ?_
        refine wp_iload_n (pc := 22) 3 dX7_untilAll_22 rfl rfl ?_
        refine wp_iconst (pc := 23) (3) dX7_untilAll_23 (by decide) ?_
        refine wc_V_II (pc := 24) dX7_untilAll_24 lkX7_53 (sm_Rc.o (ci := 6) s0_40 (by decide) (by decide)) (by decide) (Nat.le_of_ble_eq_true rfl) ?_
        refine c_X7_of (w := 3) hw hR (by omega) ?_
        refine wp_ifeq (pc := 27) 38 dX7_untilAll_27 (by decide) (fun c_27 => ?_) (fun c_27 => ?_)
        · refine wp_iconst (pc := 38) (-1) dX7_untilAll_38 (by decide) ?_
          refine wp_iretI (pc := 39) dX7_untilAll_39 rfl ?_
          rw [untl_bad hi (by simp [dyOk, c_18, hbi, (nI0 (by omega)).mp c_27])] at k; exact k
        · have h1 : f (5 * i + 3) = 1 := by
            have : ¬ f (5 * i + 3) = 0 := fun z => c_27 (by rw [z]; rfl)
            omega
          refine wp_aload_n (pc := 30) 0 dX7_untilAll_30 rfl rfl ?_
          refine wp_iload_n (pc := 31) 3 dX7_untilAll_31 rfl rfl ?_
          refine wc_V_I (pc := 32) dX7_untilAll_32 lkX7_61 (sm_Rc.o (ci := 6) s0_40 (by decide) (by decide)) (by decide) (Nat.le_of_ble_eq_true rfl) ?_
          refine c_X7_isOpen hw hR (by omega) ?_
          refine wp_ifneB (pc := 35) 40 dX7_untilAll_35 (by decide) (fun c_35 => ?_) (fun c_35 => ?_)
          · refine wp_iload_n (pc := 40) 2 dX7_untilAll_40 rfl rfl ?_
            refine wp_aload_n (pc := 41) 0 dX7_untilAll_41 rfl rfl ?_
            refine wp_iload_n (pc := 42) 3 dX7_untilAll_42 rfl rfl ?_
            refine wp_iconst (pc := 43) (1) dX7_untilAll_43 (by decide) ?_
            refine wc_V_II (pc := 44) dX7_untilAll_44 lkX7_53 (sm_Rc.o (ci := 6) s0_40 (by decide) (by decide)) (by decide) (Nat.le_of_ble_eq_true rfl) ?_
            refine c_X7_of (w := 1) hw hR (by omega) ?_
            refine wp_aload_n (pc := 47) 0 dX7_untilAll_47 rfl rfl ?_
            refine wq_getR (pc := 48) 13 0 dX7_untilAll_48 s0_40 flX7_13 rfl rfl (by decide) (by decide) ?_
            refine wp_bipush (pc := 51) (70) dX7_untilAll_51 (by decide) ?_
            refine wq_iald (pc := 53) 70 dX7_untilAll_53 s0_41 (by decide) rfl (by decide) (by decide) ?_
            refine wp_int (hR.at (by decide)) ?_
            refine wp_isub (pc := 54) dX7_untilAll_54 ?_
            refine wp_iconst (pc := 55) (4) dX7_untilAll_55 (by decide) ?_
            refine wp_iadd (pc := 56) dX7_untilAll_56 ?_
            refine wp_iconst (pc := 57) (4) dX7_untilAll_57 (by decide) ?_
            refine wp_irem (pc := 58) dX7_untilAll_58 (by decide) ?_
            refine wp_int (rm4 hr hh) ?_
            refine wp_iconst (pc := 59) (1) dX7_untilAll_59 (by decide) ?_
            refine wp_iadd (pc := 60) dX7_untilAll_60 ?_
            refine wp_int (nI_1 _) ?_
            refine wc_S_II (pc := 61) dX7_untilAll_61 lkX7_146 (by decide) (Nat.le_of_ble_eq_true rfl) ?_
            refine c_J9_max_7cf53 ?_
            refine wp_int (max_nI (by omega) (by omega)) ?_
            refine wp_istore_n (pc := 64) 2 dX7_untilAll_64 rfl (by decide) rfl ?_
            refine wp_incN (pc := 65) 3 dX7_untilAll_65 rfl (by decide) rfl ?_
            refine wp_goto (pc := 68) 4 dX7_untilAll_68 (by decide) ?_
            have nx := nx (fun j hj => by
              by_cases hji : j = i
              · subst hji; simp [dyOk, hbi, h1, c_35]
              · exact hv j (by omega))
            rw [dyU_t c_18] at nx
            exact nx
          · refine wp_iconst (pc := 38) (-1) dX7_untilAll_38 (by decide) ?_
            refine wp_iretI (pc := 39) dX7_untilAll_39 rfl ?_
            rw [untl_bad hi (by simp [dyOk, c_18, c_35])] at k; exact k
  · refine wp_iload_n (pc := 4) 3 dX7_untilAll_4 rfl rfl ?_
    refine wp_aload_n (pc := 5) 0 dX7_untilAll_5 rfl rfl ?_
    refine wc_V_ (pc := 6) dX7_untilAll_6 lkX7_57 (sm_Rc.o (ci := 6) s0_40 (by decide) (by decide)) (by decide) (Nat.le_of_ble_eq_true rfl) ?_
    refine c_X7_many hw hR ?_
    refine wp_icmp_ge (pc := 9) 71 dX7_untilAll_9 (by decide) (fun c_9 => ?_) (fun c_9 => ?_)
    · refine wp_iload_n (pc := 71) 2 dX7_untilAll_71 rfl rfl ?_
      refine wp_iretI (pc := 72) dX7_untilAll_72 rfl ?_
      rw [untl_ok hv] at k; exact k
    · exact absurd (Int32.le_refl _) c_9
theorem c_X7_depthOf_r {F I : Nat → Nat → Int32} {J : Nat → Nat → Int64} {f : rw_} (hw : WF f) (hR : Rw 41 f I) : ∀ (n a : Nat) {d : Nat} {Q : Option Value → sm_H → Prop}, a < n → a < 10 → Q (some (.int (nI (dep f a)))) (S0, F, I, J) → Wp mX7_depthOf (d + a + 1) 0 0 0 (sm_ini [.ref 40, .int (nI a)] 4) [] (S0, F, I, J) Q
  | 0, _, _, _, h, _, _ => absurd h (Nat.not_lt_zero _)
  | n + 1, a, d, Q, han, ha, kk => by
    show Wp _ _ _ _ _ [.ref 40, .int (nI a), .null, .null] _ _ _
    refine wp_iconst (pc := 0) (0) dX7_depthOf_0 (by decide) ?_
    refine wp_istore_n (pc := 1) 2 dX7_depthOf_1 rfl (by decide) rfl ?_
    refine wp_iconst (pc := 2) (0) dX7_depthOf_2 (by decide) ?_
    refine wp_istore_n (pc := 3) 3 dX7_depthOf_3 rfl (by decide) rfl ?_
    refine wp_loop (fun i => [.ref 40, .int (nI a), .int (nI (mxU f (dep f) a i)), .int (nI i)]) (fun i => (S0, F, I, J)) (fun i => True) a (fun i hi hv nx => ?_) (fun hv => ?_) 0 (by omega) trivial
    · have hO := hw.on10 ha
      have hdi := dep_le f i
      have hm := mxU_le f a a (k := i) (fun j hj => Nat.lt_of_le_of_lt (dep_le f j) (show j < a by omega))
      refine wp_iload_n (pc := 4) 3 dX7_depthOf_4 rfl rfl ?_
      refine wp_iload_n (pc := 5) 1 dX7_depthOf_5 rfl rfl ?_
      refine wp_icmp_ge (pc := 6) 45 dX7_depthOf_6 (by decide) (fun c_6 => ?_) (fun c_6 => ?_)
      · exact absurd c_6 (nI_ge (b := a) hi (by omega))
      · refine wp_aload_n (pc := 9) 0 dX7_depthOf_9 rfl rfl ?_
        refine wp_iload_n (pc := 10) 1 dX7_depthOf_10 rfl rfl ?_
        refine wp_iconst (pc := 11) (2) dX7_depthOf_11 (by decide) ?_
        refine wc_V_II (pc := 12) dX7_depthOf_12 lkX7_53 (sm_Rc.o (ci := 6) s0_40 (by decide) (by decide)) (by decide) (Nat.le_of_ble_eq_true rfl) ?_
        refine c_X7_of (w := 2) hw hR (by omega) ?_
        refine wp_iload_n (pc := 15) 3 dX7_depthOf_15 rfl rfl ?_
        refine wp_ishr (pc := 16) dX7_depthOf_16 ?_
        refine wp_iconst (pc := 17) (1) dX7_depthOf_17 (by decide) ?_
        refine wp_iand (pc := 18) dX7_depthOf_18 ?_
        refine wp_int (bt_bit (by omega) (by omega)) ?_
        refine wp_iconst (pc := 19) (1) dX7_depthOf_19 (by decide) ?_
        refine wp_icmp_ne1 (pc := 20) 37 dX7_depthOf_20 (by decide) (fun c_20 => ?_) (fun c_20 => ?_)
        · refine wp_iload_n (pc := 37) 2 dX7_depthOf_37 rfl rfl ?_
          refine wp_istore_n (pc := 38) 2 dX7_depthOf_38 rfl (by decide) rfl ?_
          refine wp_incN (pc := 39) 3 dX7_depthOf_39 rfl (by decide) rfl ?_
          refine wp_goto (pc := 42) 4 dX7_depthOf_42 (by decide) ?_
          have nx := nx trivial
          rw [mxU_f c_20] at nx
          exact nx
        · refine wp_iload_n (pc := 23) 2 dX7_depthOf_23 rfl rfl ?_
          refine wp_iconst (pc := 24) (1) dX7_depthOf_24 (by decide) ?_
          refine wp_aload_n (pc := 25) 0 dX7_depthOf_25 rfl rfl ?_
          refine wp_iload_n (pc := 26) 3 dX7_depthOf_26 rfl rfl ?_
          refine wc_V_I (pc := 27) dX7_depthOf_27 lkX7_201 (sm_Rc.o (ci := 6) s0_40 (by decide) (by decide)) (by decide) (Nat.le_of_ble_eq_true rfl) ?_
          refine wp_deep (d1 := d + i + 1) (by omega) (c_X7_depthOf_r hw hR n i (by omega) (by omega) ?_)
          refine wp_iadd (pc := 30) dX7_depthOf_30 ?_
          refine wp_int (y := nI (dep f i + 1)) ((nI_add 1 _).trans (by rw [Nat.add_comm])) ?_
          refine wc_S_II (pc := 31) dX7_depthOf_31 lkX7_146 (by decide) (Nat.le_of_ble_eq_true rfl) ?_
          refine c_J9_max_7cf53 ?_
          refine wp_int (max_nI (by omega) (by omega)) ?_
          refine wp_goto (pc := 34) 38 dX7_depthOf_34 (by decide) ?_
          refine wp_istore_n (pc := 38) 2 dX7_depthOf_38 rfl (by decide) rfl ?_
          refine wp_incN (pc := 39) 3 dX7_depthOf_39 rfl (by decide) rfl ?_
          refine wp_goto (pc := 42) 4 dX7_depthOf_42 (by decide) ?_
          have nx := nx trivial
          rw [mxU_t c_20] at nx
          exact nx
    · refine wp_iload_n (pc := 4) 3 dX7_depthOf_4 rfl rfl ?_
      refine wp_iload_n (pc := 5) 1 dX7_depthOf_5 rfl rfl ?_
      refine wp_icmp_ge (pc := 6) 45 dX7_depthOf_6 (by decide) (fun c_6 => ?_) (fun c_6 => ?_)
      · refine wp_iload_n (pc := 45) 2 dX7_depthOf_45 rfl rfl ?_
        refine wp_iretI (pc := 46) dX7_depthOf_46 rfl ?_
        rw [dep_eq f a] at kk; exact kk
      · exact absurd (Int32.le_refl _) c_6
theorem c_X7_depthOf {d : Nat} {F I : Nat → Nat → Int32} {J : Nat → Nat → Int64} {Q : Option Value → sm_H → Prop} {f : rw_} (hw : WF f) (hR : Rw 41 f I) {a : Nat} (ha : a < 10) (k : Q (some (.int (nI (dep f a)))) (S0, F, I, J)) : Wp mX7_depthOf (d + 10) 0 0 0 (sm_ini [.ref 40, .int (nI a)] 4) [] (S0, F, I, J) Q := wp_deep (d1 := d + a + 1) (by omega) (c_X7_depthOf_r hw hR (a + 1) a (by omega) ha k)
theorem xor_on {b i : Nat} (h : b.testBit i = true) : b ^^^ 2 ^ i = dif b (2 ^ i) := bits_ext fun j => by
  rw [Nat.testBit_xor, dif_bit, bit_p2]
  by_cases e : i = j
  · subst e; simp [h]
  · simp [e]
theorem xor_of {b i : Nat} (h : b.testBit i = false) : b ^^^ 2 ^ i = b ||| 2 ^ i := bits_ext fun j => by
  rw [Nat.testBit_xor, Nat.testBit_or, bit_p2]
  by_cases e : i = j
  · subst e; simp [h]
  · simp [e]
def eF0 (f : rw_) : Option Nat → Int32
  | none => 0
  | some j => nI (val f (bn f ||| 2 ^ j))
theorem c_X7_extreme_1 {d : Nat} {F I : Nat → Nat → Int32} {J : Nat → Nat → Int64} {Q : Option Value → sm_H → Prop} {f : rw_} (hw : WF f) (hR : Rw 41 f I) {x : Int32} (k : Q (some (.int (if x = 0 then eN (worstB f (bn f) (f 68)) else oV (worstB f (bn f) (f 68)) (fun i => val f (dif (bn f) (2 ^ i)))))) (S0, F, I, J)) : Wp mX7_extreme (d + 3) 0 0 0 (sm_ini [.ref 40, .int 1, .int x] 8) [] (S0, F, I, J) Q := by
  show Wp _ _ _ _ _ [.ref 40, .int 1, .int x, .null, .null, .null, .null, .null] _ _ _
  refine wp_aload_n (pc := 0) 0 dX7_extreme_0 rfl rfl ?_
  refine wc_V_ (pc := 1) dX7_extreme_1 lkX7_135 (sm_Rc.o (ci := 6) s0_40 (by decide) (by decide)) (by decide) (Nat.le_of_ble_eq_true rfl) ?_
  refine c_X7_been hw hR ?_
  refine wp_istore_n (pc := 4) 3 dX7_extreme_4 rfl (by decide) rfl ?_
  refine wp_iconst (pc := 5) (0) dX7_extreme_5 (by decide) ?_
  refine wp_istore (pc := 6) 4 dX7_extreme_6 (by decide) rfl ?_
  refine wp_iconst (pc := 8) (-1) dX7_extreme_8 (by decide) ?_
  refine wp_istore (pc := 9) 5 dX7_extreme_9 (by decide) rfl ?_
  refine wp_iconst (pc := 11) (0) dX7_extreme_11 (by decide) ?_
  refine wp_istore (pc := 12) 6 dX7_extreme_12 (by decide) rfl ?_
  refine wp_loop (fun i => [.ref 40, .int 1, .int x, .int (nI (bn f)), .int (eB f (worstB f (bn f) i)), .int (eN (worstB f (bn f) i)), .int (nI i), .null]) (fun _ => (S0, F, I, J)) (fun _ => True) (f 68) (fun i hi hv nx => ?_) (fun hv => ?_) 0 (Nat.zero_le _) trivial
  · have hn := hw.n
    have hbl := bn_lt hw
    have hb := bn_1024 hw
    have hvi := val_le hw (dif (bn f) (2 ^ i))
    rcases ho : bestU (fun i => (bn f).testBit i) (wbL f) i with _ | j
    · refine wp_to (lv' := [.ref 40, .int 1, .int x, .int (nI (bn f)), .int (0), .int (-1), .int (nI i), .null]) ?_ (by rw [show worstB f (bn f) i = none from ho]; rfl) rfl rfl
      refine wp_iload (pc := 14) 6 dX7_extreme_14 rfl ?_
      refine wp_aload_n (pc := 16) 0 dX7_extreme_16 rfl rfl ?_
      refine wc_V_ (pc := 17) dX7_extreme_17 lkX7_57 (sm_Rc.o (ci := 6) s0_40 (by decide) (by decide)) (by decide) (Nat.le_of_ble_eq_true rfl) ?_
      refine c_X7_many hw hR ?_
      refine wp_icmp_ge (pc := 20) 94 dX7_extreme_20 (by decide) (fun c_20 => ?_) (fun c_20 => ?_)
      · exact absurd c_20 (nI_ge (b := f 68) hi (by omega))
      · refine wp_iload_n (pc := 23) 3 dX7_extreme_23 rfl rfl ?_
        refine wp_iload (pc := 24) 6 dX7_extreme_24 rfl ?_
        refine wp_ishr (pc := 26) dX7_extreme_26 ?_
        refine wp_iconst (pc := 27) (1) dX7_extreme_27 (by decide) ?_
        refine wp_iand (pc := 28) dX7_extreme_28 ?_
        refine wp_int (bt_bit (by omega) (by omega)) ?_
        refine wp_iload_n (pc := 29) 1 dX7_extreme_29 rfl rfl ?_
        refine wp_ifeq (pc := 30) 37 dX7_extreme_30 (by decide) (fun c_30 => ?_) (fun c_30 => ?_)
        · exact absurd c_30 (by decide)
        · refine wp_iconst (pc := 33) (1) dX7_extreme_33 (by decide) ?_
          refine wp_goto (pc := 34) 38 dX7_extreme_34 (by decide) ?_
          refine wp_icmp_ne1 (pc := 38) 88 dX7_extreme_38 (by decide) (fun c_38 => ?_) (fun c_38 => ?_)
          · refine wp_incN (pc := 88) 6 dX7_extreme_88 rfl (by decide) rfl ?_
            refine wp_goto (pc := 91) 14 dX7_extreme_91 (by decide) ?_
            have nx := nx trivial
            unfold worstB at nx
            rw [best_no (show (bn f).testBit i = false from c_38), ho] at nx
            exact nx
          · refine wp_aload_n (pc := 41) 0 dX7_extreme_41 rfl rfl ?_
            refine wp_iload_n (pc := 42) 3 dX7_extreme_42 rfl rfl ?_
            refine wp_iconst (pc := 43) (1) dX7_extreme_43 (by decide) ?_
            refine wp_iload (pc := 44) 6 dX7_extreme_44 rfl ?_
            refine wp_ishl (pc := 46) dX7_extreme_46 ?_
            refine wp_int (bt_one (by omega)) ?_
            refine wp_ixor (pc := 47) dX7_extreme_47 ?_
            refine wp_int (y := nI (dif (bn f) (2 ^ i))) (by rw [bt_xor, xor_on c_38]) ?_
            refine wc_V_I (pc := 48) dX7_extreme_48 lkX7_168 (sm_Rc.o (ci := 6) s0_40 (by decide) (by decide)) (by decide) (Nat.le_of_ble_eq_true rfl) ?_
            refine c_X7_valueBy hw hR (dif_le _ _ hbl) ?_
            refine wp_istore (pc := 51) 7 dX7_extreme_51 (by decide) rfl ?_
            refine wp_iload (pc := 53) 5 dX7_extreme_53 rfl ?_
            refine wp_iconst (pc := 55) (-1) dX7_extreme_55 (by decide) ?_
            refine wp_icmp_eq (pc := 56) 80 dX7_extreme_56 (by decide) (fun c_56 => ?_) (fun c_56 => ?_)
            · refine wp_iload (pc := 80) 7 dX7_extreme_80 rfl ?_
              refine wp_istore (pc := 82) 4 dX7_extreme_82 (by decide) rfl ?_
              refine wp_iload (pc := 84) 6 dX7_extreme_84 rfl ?_
              refine wp_istore (pc := 86) 5 dX7_extreme_86 (by decide) rfl ?_
              refine wp_incN (pc := 88) 6 dX7_extreme_88 rfl (by decide) rfl ?_
              refine wp_goto (pc := 91) 14 dX7_extreme_91 (by decide) ?_
              have nx := nx trivial
              unfold worstB at nx
              rw [best_new (show (bn f).testBit i = true from c_38) ho] at nx
              refine wp_weak ?_ nx
              exact And.intro (Or.inr rfl) (And.intro (Or.inr rfl) (And.intro (Or.inr rfl) (And.intro (Or.inr rfl) (And.intro (Or.inr rfl) (And.intro (Or.inr rfl) (And.intro (Or.inr rfl) (And.intro (Or.inl rfl) (trivial))))))))
            · exact absurd (by decide) c_56
    · have hj := (bestU_lt ho).1
      have hvj := val_le hw (dif (bn f) (2 ^ j))
      refine wp_to (lv' := [.ref 40, .int 1, .int x, .int (nI (bn f)), .int (nI (val f (dif (bn f) (2 ^ j)))), .int (nI j), .int (nI i), .null]) ?_ (by rw [show worstB f (bn f) i = some j from ho]; rfl) rfl rfl
      refine wp_iload (pc := 14) 6 dX7_extreme_14 rfl ?_
      refine wp_aload_n (pc := 16) 0 dX7_extreme_16 rfl rfl ?_
      refine wc_V_ (pc := 17) dX7_extreme_17 lkX7_57 (sm_Rc.o (ci := 6) s0_40 (by decide) (by decide)) (by decide) (Nat.le_of_ble_eq_true rfl) ?_
      refine c_X7_many hw hR ?_
      refine wp_icmp_ge (pc := 20) 94 dX7_extreme_20 (by decide) (fun c_20 => ?_) (fun c_20 => ?_)
      · exact absurd c_20 (nI_ge (b := f 68) hi (by omega))
      · refine wp_iload_n (pc := 23) 3 dX7_extreme_23 rfl rfl ?_
        refine wp_iload (pc := 24) 6 dX7_extreme_24 rfl ?_
        refine wp_ishr (pc := 26) dX7_extreme_26 ?_
        refine wp_iconst (pc := 27) (1) dX7_extreme_27 (by decide) ?_
        refine wp_iand (pc := 28) dX7_extreme_28 ?_
        refine wp_int (bt_bit (by omega) (by omega)) ?_
        refine wp_iload_n (pc := 29) 1 dX7_extreme_29 rfl rfl ?_
        refine wp_ifeq (pc := 30) 37 dX7_extreme_30 (by decide) (fun c_30 => ?_) (fun c_30 => ?_)
        · exact absurd c_30 (by decide)
        · refine wp_iconst (pc := 33) (1) dX7_extreme_33 (by decide) ?_
          refine wp_goto (pc := 34) 38 dX7_extreme_34 (by decide) ?_
          refine wp_icmp_ne1 (pc := 38) 88 dX7_extreme_38 (by decide) (fun c_38 => ?_) (fun c_38 => ?_)
          · refine wp_incN (pc := 88) 6 dX7_extreme_88 rfl (by decide) rfl ?_
            refine wp_goto (pc := 91) 14 dX7_extreme_91 (by decide) ?_
            have nx := nx trivial
            unfold worstB at nx
            rw [best_no (show (bn f).testBit i = false from c_38), ho] at nx
            exact nx
          · refine wp_aload_n (pc := 41) 0 dX7_extreme_41 rfl rfl ?_
            refine wp_iload_n (pc := 42) 3 dX7_extreme_42 rfl rfl ?_
            refine wp_iconst (pc := 43) (1) dX7_extreme_43 (by decide) ?_
            refine wp_iload (pc := 44) 6 dX7_extreme_44 rfl ?_
            refine wp_ishl (pc := 46) dX7_extreme_46 ?_
            refine wp_int (bt_one (by omega)) ?_
            refine wp_ixor (pc := 47) dX7_extreme_47 ?_
            refine wp_int (y := nI (dif (bn f) (2 ^ i))) (by rw [bt_xor, xor_on c_38]) ?_
            refine wc_V_I (pc := 48) dX7_extreme_48 lkX7_168 (sm_Rc.o (ci := 6) s0_40 (by decide) (by decide)) (by decide) (Nat.le_of_ble_eq_true rfl) ?_
            refine c_X7_valueBy hw hR (dif_le _ _ hbl) ?_
            refine wp_istore (pc := 51) 7 dX7_extreme_51 (by decide) rfl ?_
            refine wp_iload (pc := 53) 5 dX7_extreme_53 rfl ?_
            refine wp_iconst (pc := 55) (-1) dX7_extreme_55 (by decide) ?_
            refine wp_icmp_eq (pc := 56) 80 dX7_extreme_56 (by decide) (fun c_56 => ?_) (fun c_56 => ?_)
            · exact absurd c_56 (m1_ne (by omega))
            · refine wp_iload_n (pc := 59) 1 dX7_extreme_59 rfl rfl ?_
              refine wp_ifeq (pc := 60) 73 dX7_extreme_60 (by decide) (fun c_60 => ?_) (fun c_60 => ?_)
              · exact absurd c_60 (by decide)
              · refine wp_iload (pc := 63) 7 dX7_extreme_63 rfl ?_
                refine wp_iload (pc := 65) 4 dX7_extreme_65 rfl ?_
                refine wp_icmp_ge (pc := 67) 88 dX7_extreme_67 (by decide) (fun c_67 => ?_) (fun c_67 => ?_)
                · refine wp_incN (pc := 88) 6 dX7_extreme_88 rfl (by decide) rfl ?_
                  refine wp_goto (pc := 91) 14 dX7_extreme_91 (by decide) ?_
                  have nx := nx trivial
                  unfold worstB at nx
                  rw [best_st (show (bn f).testBit i = true from c_38) ho (decide_eq_false (fun z => nI_ge z (by omega) c_67))] at nx
                  refine wp_weak ?_ nx
                  exact And.intro (Or.inr rfl) (And.intro (Or.inr rfl) (And.intro (Or.inr rfl) (And.intro (Or.inr rfl) (And.intro (Or.inr rfl) (And.intro (Or.inr rfl) (And.intro (Or.inr rfl) (And.intro (Or.inl rfl) (trivial))))))))
                · refine wp_goto (pc := 70) 80 dX7_extreme_70 (by decide) ?_
                  refine wp_iload (pc := 80) 7 dX7_extreme_80 rfl ?_
                  refine wp_istore (pc := 82) 4 dX7_extreme_82 (by decide) rfl ?_
                  refine wp_iload (pc := 84) 6 dX7_extreme_84 rfl ?_
                  refine wp_istore (pc := 86) 5 dX7_extreme_86 (by decide) rfl ?_
                  refine wp_incN (pc := 88) 6 dX7_extreme_88 rfl (by decide) rfl ?_
                  refine wp_goto (pc := 91) 14 dX7_extreme_91 (by decide) ?_
                  have nx := nx trivial
                  unfold worstB at nx
                  rw [best_up (show (bn f).testBit i = true from c_38) ho (decide_eq_true (Nat.lt_of_not_le fun z => c_67 (nI_le z (by omega))))] at nx
                  refine wp_weak ?_ nx
                  exact And.intro (Or.inr rfl) (And.intro (Or.inr rfl) (And.intro (Or.inr rfl) (And.intro (Or.inr rfl) (And.intro (Or.inr rfl) (And.intro (Or.inr rfl) (And.intro (Or.inr rfl) (And.intro (Or.inl rfl) (trivial))))))))
  · have hn := hw.n
    rcases ho : worstB f (bn f) (f 68) with _ | j
    · rw [ho] at k
      refine wp_to (lv' := [.ref 40, .int 1, .int x, .int (nI (bn f)), .int (0), .int (-1), .int (nI (f 68)), .null]) ?_ rfl rfl rfl
      refine wp_iload (pc := 14) 6 dX7_extreme_14 rfl ?_
      refine wp_aload_n (pc := 16) 0 dX7_extreme_16 rfl rfl ?_
      refine wc_V_ (pc := 17) dX7_extreme_17 lkX7_57 (sm_Rc.o (ci := 6) s0_40 (by decide) (by decide)) (by decide) (Nat.le_of_ble_eq_true rfl) ?_
      refine c_X7_many hw hR ?_
      refine wp_icmp_ge (pc := 20) 94 dX7_extreme_20 (by decide) (fun c_20 => ?_) (fun c_20 => ?_)
      · refine wp_iload_n (pc := 94) 2 dX7_extreme_94 rfl rfl ?_
        refine wp_ifeq (pc := 95) 104 dX7_extreme_95 (by decide) (fun c_95 => ?_) (fun c_95 => ?_)
        · refine wp_iload (pc := 104) 5 dX7_extreme_104 rfl ?_
          refine wp_goto (pc := 106) 111 dX7_extreme_106 (by decide) ?_
          refine wp_iretI (pc := 111) dX7_extreme_111 rfl ?_
          rw [if_pos c_95] at k; exact k
        · refine wp_iload (pc := 98) 5 dX7_extreme_98 rfl ?_
          refine wp_iconst (pc := 100) (-1) dX7_extreme_100 (by decide) ?_
          refine wp_icmp_ne (pc := 101) 109 dX7_extreme_101 (by decide) (fun c_101 => ?_) (fun c_101 => ?_)
          · exact absurd (by decide) c_101
          · refine wp_iload (pc := 104) 5 dX7_extreme_104 rfl ?_
            refine wp_goto (pc := 106) 111 dX7_extreme_106 (by decide) ?_
            refine wp_iretI (pc := 111) dX7_extreme_111 rfl ?_
            rw [if_neg c_95] at k; exact k
      · exact absurd (Int32.le_refl _) c_20
    · have hj := (bestU_lt ho).1
      rw [ho] at k
      refine wp_to (lv' := [.ref 40, .int 1, .int x, .int (nI (bn f)), .int (nI (val f (dif (bn f) (2 ^ j)))), .int (nI j), .int (nI (f 68)), .null]) ?_ rfl rfl rfl
      refine wp_iload (pc := 14) 6 dX7_extreme_14 rfl ?_
      refine wp_aload_n (pc := 16) 0 dX7_extreme_16 rfl rfl ?_
      refine wc_V_ (pc := 17) dX7_extreme_17 lkX7_57 (sm_Rc.o (ci := 6) s0_40 (by decide) (by decide)) (by decide) (Nat.le_of_ble_eq_true rfl) ?_
      refine c_X7_many hw hR ?_
      refine wp_icmp_ge (pc := 20) 94 dX7_extreme_20 (by decide) (fun c_20 => ?_) (fun c_20 => ?_)
      · refine wp_iload_n (pc := 94) 2 dX7_extreme_94 rfl rfl ?_
        refine wp_ifeq (pc := 95) 104 dX7_extreme_95 (by decide) (fun c_95 => ?_) (fun c_95 => ?_)
        · refine wp_iload (pc := 104) 5 dX7_extreme_104 rfl ?_
          refine wp_goto (pc := 106) 111 dX7_extreme_106 (by decide) ?_
          refine wp_iretI (pc := 111) dX7_extreme_111 rfl ?_
          rw [if_pos c_95] at k; exact k
        · refine wp_iload (pc := 98) 5 dX7_extreme_98 rfl ?_
          refine wp_iconst (pc := 100) (-1) dX7_extreme_100 (by decide) ?_
          refine wp_icmp_ne (pc := 101) 109 dX7_extreme_101 (by decide) (fun c_101 => ?_) (fun c_101 => ?_)
          · refine wp_iload (pc := 109) 4 dX7_extreme_109 rfl ?_
            refine wp_iretI (pc := 111) dX7_extreme_111 rfl ?_
            rw [if_neg c_95] at k; exact k
          · exact absurd c_101 (m1_ne (by omega))
      · exact absurd (Int32.le_refl _) c_20
theorem c_X7_extreme_0 {d : Nat} {F I : Nat → Nat → Int32} {J : Nat → Nat → Int64} {Q : Option Value → sm_H → Prop} {f : rw_} (hw : WF f) (hR : Rw 41 f I) {x : Int32} (k : Q (some (.int (if x = 0 then eN (bestF f (f 68)) else oV (bestF f (f 68)) (fun i => val f (bn f ||| 2 ^ i))))) (S0, F, I, J)) : Wp mX7_extreme (d + 3) 0 0 0 (sm_ini [.ref 40, .int 0, .int x] 8) [] (S0, F, I, J) Q := by
  show Wp _ _ _ _ _ [.ref 40, .int 0, .int x, .null, .null, .null, .null, .null] _ _ _
  refine wp_aload_n (pc := 0) 0 dX7_extreme_0 rfl rfl ?_
  refine wc_V_ (pc := 1) dX7_extreme_1 lkX7_135 (sm_Rc.o (ci := 6) s0_40 (by decide) (by decide)) (by decide) (Nat.le_of_ble_eq_true rfl) ?_
  refine c_X7_been hw hR ?_
  refine wp_istore_n (pc := 4) 3 dX7_extreme_4 rfl (by decide) rfl ?_
  refine wp_iconst (pc := 5) (0) dX7_extreme_5 (by decide) ?_
  refine wp_istore (pc := 6) 4 dX7_extreme_6 (by decide) rfl ?_
  refine wp_iconst (pc := 8) (-1) dX7_extreme_8 (by decide) ?_
  refine wp_istore (pc := 9) 5 dX7_extreme_9 (by decide) rfl ?_
  refine wp_iconst (pc := 11) (0) dX7_extreme_11 (by decide) ?_
  refine wp_istore (pc := 12) 6 dX7_extreme_12 (by decide) rfl ?_
  refine wp_loop (fun i => [.ref 40, .int 0, .int x, .int (nI (bn f)), .int (eF0 f (bestF f i)), .int (eN (bestF f i)), .int (nI i), .null]) (fun _ => (S0, F, I, J)) (fun _ => True) (f 68) (fun i hi hv nx => ?_) (fun hv => ?_) 0 (Nat.zero_le _) trivial
  · have hn := hw.n
    have hbl := bn_lt hw
    have hb := bn_1024 hw
    have hvi := val_le hw (bn f ||| 2 ^ i)
    rcases ho : bestU (fun i => !(bn f).testBit i) (bfL f) i with _ | j
    · refine wp_to (lv' := [.ref 40, .int 0, .int x, .int (nI (bn f)), .int (0), .int (-1), .int (nI i), .null]) ?_ (by rw [show bestF f i = none from ho]; rfl) rfl rfl
      refine wp_iload (pc := 14) 6 dX7_extreme_14 rfl ?_
      refine wp_aload_n (pc := 16) 0 dX7_extreme_16 rfl rfl ?_
      refine wc_V_ (pc := 17) dX7_extreme_17 lkX7_57 (sm_Rc.o (ci := 6) s0_40 (by decide) (by decide)) (by decide) (Nat.le_of_ble_eq_true rfl) ?_
      refine c_X7_many hw hR ?_
      refine wp_icmp_ge (pc := 20) 94 dX7_extreme_20 (by decide) (fun c_20 => ?_) (fun c_20 => ?_)
      · exact absurd c_20 (nI_ge (b := f 68) hi (by omega))
      · refine wp_iload_n (pc := 23) 3 dX7_extreme_23 rfl rfl ?_
        refine wp_iload (pc := 24) 6 dX7_extreme_24 rfl ?_
        refine wp_ishr (pc := 26) dX7_extreme_26 ?_
        refine wp_iconst (pc := 27) (1) dX7_extreme_27 (by decide) ?_
        refine wp_iand (pc := 28) dX7_extreme_28 ?_
        refine wp_int (bt_bit (by omega) (by omega)) ?_
        refine wp_iload_n (pc := 29) 1 dX7_extreme_29 rfl rfl ?_
        refine wp_ifeq (pc := 30) 37 dX7_extreme_30 (by decide) (fun c_30 => ?_) (fun c_30 => ?_)
        · refine wp_iconst (pc := 37) (0) dX7_extreme_37 (by decide) ?_
          refine wp_icmp_ne (pc := 38) 88 dX7_extreme_38 (by decide) (fun c_38 => ?_) (fun c_38 => ?_)
          · refine wp_incN (pc := 88) 6 dX7_extreme_88 rfl (by decide) rfl ?_
            refine wp_goto (pc := 91) 14 dX7_extreme_91 (by decide) ?_
            have nx := nx trivial
            unfold bestF at nx
            rw [best_no (show (!(bn f).testBit i) = false by rw [b2_n.mp c_38]; rfl), ho] at nx
            exact nx
          · refine wp_aload_n (pc := 41) 0 dX7_extreme_41 rfl rfl ?_
            refine wp_iload_n (pc := 42) 3 dX7_extreme_42 rfl rfl ?_
            refine wp_iconst (pc := 43) (1) dX7_extreme_43 (by decide) ?_
            refine wp_iload (pc := 44) 6 dX7_extreme_44 rfl ?_
            refine wp_ishl (pc := 46) dX7_extreme_46 ?_
            refine wp_int (bt_one (by omega)) ?_
            refine wp_ixor (pc := 47) dX7_extreme_47 ?_
            refine wp_int (y := nI (bn f ||| 2 ^ i)) (by rw [bt_xor, xor_of (b2_0.mp c_38)]) ?_
            refine wc_V_I (pc := 48) dX7_extreme_48 lkX7_168 (sm_Rc.o (ci := 6) s0_40 (by decide) (by decide)) (by decide) (Nat.le_of_ble_eq_true rfl) ?_
            refine c_X7_valueBy hw hR (or_lt hbl (p2_lt hi)) ?_
            refine wp_istore (pc := 51) 7 dX7_extreme_51 (by decide) rfl ?_
            refine wp_iload (pc := 53) 5 dX7_extreme_53 rfl ?_
            refine wp_iconst (pc := 55) (-1) dX7_extreme_55 (by decide) ?_
            refine wp_icmp_eq (pc := 56) 80 dX7_extreme_56 (by decide) (fun c_56 => ?_) (fun c_56 => ?_)
            · refine wp_iload (pc := 80) 7 dX7_extreme_80 rfl ?_
              refine wp_istore (pc := 82) 4 dX7_extreme_82 (by decide) rfl ?_
              refine wp_iload (pc := 84) 6 dX7_extreme_84 rfl ?_
              refine wp_istore (pc := 86) 5 dX7_extreme_86 (by decide) rfl ?_
              refine wp_incN (pc := 88) 6 dX7_extreme_88 rfl (by decide) rfl ?_
              refine wp_goto (pc := 91) 14 dX7_extreme_91 (by decide) ?_
              have nx := nx trivial
              unfold bestF at nx
              rw [best_new (show (!(bn f).testBit i) = true by rw [b2_0.mp c_38]; rfl) ho] at nx
              refine wp_weak ?_ nx
              exact And.intro (Or.inr rfl) (And.intro (Or.inr rfl) (And.intro (Or.inr rfl) (And.intro (Or.inr rfl) (And.intro (Or.inr rfl) (And.intro (Or.inr rfl) (And.intro (Or.inr rfl) (And.intro (Or.inl rfl) (trivial))))))))
            · exact absurd (by decide) c_56
        · exact absurd (by decide) c_30
    · have hj := (bestU_lt ho).1
      have hvj := val_le hw (bn f ||| 2 ^ j)
      refine wp_to (lv' := [.ref 40, .int 0, .int x, .int (nI (bn f)), .int (nI (val f (bn f ||| 2 ^ j))), .int (nI j), .int (nI i), .null]) ?_ (by rw [show bestF f i = some j from ho]; rfl) rfl rfl
      refine wp_iload (pc := 14) 6 dX7_extreme_14 rfl ?_
      refine wp_aload_n (pc := 16) 0 dX7_extreme_16 rfl rfl ?_
      refine wc_V_ (pc := 17) dX7_extreme_17 lkX7_57 (sm_Rc.o (ci := 6) s0_40 (by decide) (by decide)) (by decide) (Nat.le_of_ble_eq_true rfl) ?_
      refine c_X7_many hw hR ?_
      refine wp_icmp_ge (pc := 20) 94 dX7_extreme_20 (by decide) (fun c_20 => ?_) (fun c_20 => ?_)
      · exact absurd c_20 (nI_ge (b := f 68) hi (by omega))
      · refine wp_iload_n (pc := 23) 3 dX7_extreme_23 rfl rfl ?_
        refine wp_iload (pc := 24) 6 dX7_extreme_24 rfl ?_
        refine wp_ishr (pc := 26) dX7_extreme_26 ?_
        refine wp_iconst (pc := 27) (1) dX7_extreme_27 (by decide) ?_
        refine wp_iand (pc := 28) dX7_extreme_28 ?_
        refine wp_int (bt_bit (by omega) (by omega)) ?_
        refine wp_iload_n (pc := 29) 1 dX7_extreme_29 rfl rfl ?_
        refine wp_ifeq (pc := 30) 37 dX7_extreme_30 (by decide) (fun c_30 => ?_) (fun c_30 => ?_)
        · refine wp_iconst (pc := 37) (0) dX7_extreme_37 (by decide) ?_
          refine wp_icmp_ne (pc := 38) 88 dX7_extreme_38 (by decide) (fun c_38 => ?_) (fun c_38 => ?_)
          · refine wp_incN (pc := 88) 6 dX7_extreme_88 rfl (by decide) rfl ?_
            refine wp_goto (pc := 91) 14 dX7_extreme_91 (by decide) ?_
            have nx := nx trivial
            unfold bestF at nx
            rw [best_no (show (!(bn f).testBit i) = false by rw [b2_n.mp c_38]; rfl), ho] at nx
            exact nx
          · refine wp_aload_n (pc := 41) 0 dX7_extreme_41 rfl rfl ?_
            refine wp_iload_n (pc := 42) 3 dX7_extreme_42 rfl rfl ?_
            refine wp_iconst (pc := 43) (1) dX7_extreme_43 (by decide) ?_
            refine wp_iload (pc := 44) 6 dX7_extreme_44 rfl ?_
            refine wp_ishl (pc := 46) dX7_extreme_46 ?_
            refine wp_int (bt_one (by omega)) ?_
            refine wp_ixor (pc := 47) dX7_extreme_47 ?_
            refine wp_int (y := nI (bn f ||| 2 ^ i)) (by rw [bt_xor, xor_of (b2_0.mp c_38)]) ?_
            refine wc_V_I (pc := 48) dX7_extreme_48 lkX7_168 (sm_Rc.o (ci := 6) s0_40 (by decide) (by decide)) (by decide) (Nat.le_of_ble_eq_true rfl) ?_
            refine c_X7_valueBy hw hR (or_lt hbl (p2_lt hi)) ?_
            refine wp_istore (pc := 51) 7 dX7_extreme_51 (by decide) rfl ?_
            refine wp_iload (pc := 53) 5 dX7_extreme_53 rfl ?_
            refine wp_iconst (pc := 55) (-1) dX7_extreme_55 (by decide) ?_
            refine wp_icmp_eq (pc := 56) 80 dX7_extreme_56 (by decide) (fun c_56 => ?_) (fun c_56 => ?_)
            · exact absurd c_56 (m1_ne (by omega))
            · refine wp_iload_n (pc := 59) 1 dX7_extreme_59 rfl rfl ?_
              refine wp_ifeq (pc := 60) 73 dX7_extreme_60 (by decide) (fun c_60 => ?_) (fun c_60 => ?_)
              · refine wp_iload (pc := 73) 7 dX7_extreme_73 rfl ?_
                refine wp_iload (pc := 75) 4 dX7_extreme_75 rfl ?_
                refine wp_icmp_le (pc := 77) 88 dX7_extreme_77 (by decide) (fun c_77 => ?_) (fun c_77 => ?_)
                · refine wp_incN (pc := 88) 6 dX7_extreme_88 rfl (by decide) rfl ?_
                  refine wp_goto (pc := 91) 14 dX7_extreme_91 (by decide) ?_
                  have nx := nx trivial
                  unfold bestF at nx
                  rw [best_st (show (!(bn f).testBit i) = true by rw [b2_0.mp c_38]; rfl) ho (decide_eq_false (fun z => nI_ge z (by omega) c_77))] at nx
                  refine wp_weak ?_ nx
                  exact And.intro (Or.inr rfl) (And.intro (Or.inr rfl) (And.intro (Or.inr rfl) (And.intro (Or.inr rfl) (And.intro (Or.inr rfl) (And.intro (Or.inr rfl) (And.intro (Or.inr rfl) (And.intro (Or.inl rfl) (trivial))))))))
                · refine wp_iload (pc := 80) 7 dX7_extreme_80 rfl ?_
                  refine wp_istore (pc := 82) 4 dX7_extreme_82 (by decide) rfl ?_
                  refine wp_iload (pc := 84) 6 dX7_extreme_84 rfl ?_
                  refine wp_istore (pc := 86) 5 dX7_extreme_86 (by decide) rfl ?_
                  refine wp_incN (pc := 88) 6 dX7_extreme_88 rfl (by decide) rfl ?_
                  refine wp_goto (pc := 91) 14 dX7_extreme_91 (by decide) ?_
                  have nx := nx trivial
                  unfold bestF at nx
                  rw [best_up (show (!(bn f).testBit i) = true by rw [b2_0.mp c_38]; rfl) ho (decide_eq_true (Nat.lt_of_not_le fun z => c_77 (nI_le z (by omega))))] at nx
                  refine wp_weak ?_ nx
                  exact And.intro (Or.inr rfl) (And.intro (Or.inr rfl) (And.intro (Or.inr rfl) (And.intro (Or.inr rfl) (And.intro (Or.inr rfl) (And.intro (Or.inr rfl) (And.intro (Or.inr rfl) (And.intro (Or.inl rfl) (trivial))))))))
              · exact absurd (by decide) c_60
        · exact absurd (by decide) c_30
  · have hn := hw.n
    rcases ho : bestF f (f 68) with _ | j
    · rw [ho] at k
      refine wp_to (lv' := [.ref 40, .int 0, .int x, .int (nI (bn f)), .int (0), .int (-1), .int (nI (f 68)), .null]) ?_ rfl rfl rfl
      refine wp_iload (pc := 14) 6 dX7_extreme_14 rfl ?_
      refine wp_aload_n (pc := 16) 0 dX7_extreme_16 rfl rfl ?_
      refine wc_V_ (pc := 17) dX7_extreme_17 lkX7_57 (sm_Rc.o (ci := 6) s0_40 (by decide) (by decide)) (by decide) (Nat.le_of_ble_eq_true rfl) ?_
      refine c_X7_many hw hR ?_
      refine wp_icmp_ge (pc := 20) 94 dX7_extreme_20 (by decide) (fun c_20 => ?_) (fun c_20 => ?_)
      · refine wp_iload_n (pc := 94) 2 dX7_extreme_94 rfl rfl ?_
        refine wp_ifeq (pc := 95) 104 dX7_extreme_95 (by decide) (fun c_95 => ?_) (fun c_95 => ?_)
        · refine wp_iload (pc := 104) 5 dX7_extreme_104 rfl ?_
          refine wp_goto (pc := 106) 111 dX7_extreme_106 (by decide) ?_
          refine wp_iretI (pc := 111) dX7_extreme_111 rfl ?_
          rw [if_pos c_95] at k; exact k
        · refine wp_iload (pc := 98) 5 dX7_extreme_98 rfl ?_
          refine wp_iconst (pc := 100) (-1) dX7_extreme_100 (by decide) ?_
          refine wp_icmp_ne (pc := 101) 109 dX7_extreme_101 (by decide) (fun c_101 => ?_) (fun c_101 => ?_)
          · exact absurd (by decide) c_101
          · refine wp_iload (pc := 104) 5 dX7_extreme_104 rfl ?_
            refine wp_goto (pc := 106) 111 dX7_extreme_106 (by decide) ?_
            refine wp_iretI (pc := 111) dX7_extreme_111 rfl ?_
            rw [if_neg c_95] at k; exact k
      · exact absurd (Int32.le_refl _) c_20
    · have hj := (bestU_lt ho).1
      rw [ho] at k
      refine wp_to (lv' := [.ref 40, .int 0, .int x, .int (nI (bn f)), .int (nI (val f (bn f ||| 2 ^ j))), .int (nI j), .int (nI (f 68)), .null]) ?_ rfl rfl rfl
      refine wp_iload (pc := 14) 6 dX7_extreme_14 rfl ?_
      refine wp_aload_n (pc := 16) 0 dX7_extreme_16 rfl rfl ?_
      refine wc_V_ (pc := 17) dX7_extreme_17 lkX7_57 (sm_Rc.o (ci := 6) s0_40 (by decide) (by decide)) (by decide) (Nat.le_of_ble_eq_true rfl) ?_
      refine c_X7_many hw hR ?_
      refine wp_icmp_ge (pc := 20) 94 dX7_extreme_20 (by decide) (fun c_20 => ?_) (fun c_20 => ?_)
      · refine wp_iload_n (pc := 94) 2 dX7_extreme_94 rfl rfl ?_
        refine wp_ifeq (pc := 95) 104 dX7_extreme_95 (by decide) (fun c_95 => ?_) (fun c_95 => ?_)
        · refine wp_iload (pc := 104) 5 dX7_extreme_104 rfl ?_
          refine wp_goto (pc := 106) 111 dX7_extreme_106 (by decide) ?_
          refine wp_iretI (pc := 111) dX7_extreme_111 rfl ?_
          rw [if_pos c_95] at k; exact k
        · refine wp_iload (pc := 98) 5 dX7_extreme_98 rfl ?_
          refine wp_iconst (pc := 100) (-1) dX7_extreme_100 (by decide) ?_
          refine wp_icmp_ne (pc := 101) 109 dX7_extreme_101 (by decide) (fun c_101 => ?_) (fun c_101 => ?_)
          · refine wp_iload (pc := 109) 4 dX7_extreme_109 rfl ?_
            refine wp_iretI (pc := 111) dX7_extreme_111 rfl ?_
            rw [if_neg c_95] at k; exact k
          · exact absurd c_101 (m1_ne (by omega))
      · exact absurd (Int32.le_refl _) c_20
