/-! ===== the state that both keep; refusals ===== -/
abbrev Sg : Type := rw_ × rw_ × Bool × (Nat → Int32) × (Nat × (Nat → Nat)) × (Nat → Option Nat) × (Nat → Nat) × (Nat → Int64)
abbrev sgf (s : Sg) : rw_ := s.1
abbrev sgk (s : Sg) : rw_ := s.2.1
abbrev sgb (s : Sg) : Bool := s.2.2.1
abbrev sgr (s : Sg) : Nat → Int32 := s.2.2.2.1
abbrev sgz (s : Sg) : Nat := s.2.2.2.2.1.1
abbrev sgt (s : Sg) : Nat → Nat := s.2.2.2.2.1.2
abbrev sgh (s : Sg) : Nat → Option Nat := s.2.2.2.2.2.1
abbrev sgs (s : Sg) : Nat → Nat := s.2.2.2.2.2.2.1
abbrev sge (s : Sg) : Nat → Int64 := s.2.2.2.2.2.2.2
def CR (s : Sg) (F I : Nat → Nat → Int32) (J : Nat → Nat → Int64) : Prop := Tw 1 (sgf s) F I ∧ (sgb s = true → Tw 11 (sgk s) F I) ∧ F 0 7 = b2 (sgb s) ∧ (∀ j, j < 5 → I 39 j = sgr s j) ∧ TpD (sgz s) (sgt s) F I ∧ ShR 32 (sgh s) (sgs s) (sge s) I J
def Ok (s : Sg) : Prop := WF (sgf s) ∧ WF (sgk s) ∧ sgz s ≤ 250 ∧ (∀ j, sgt s j < 256) ∧ hok (sgh s) (sgs s) ∧ (∀ i r, sgh s i = some (10 + r) → r < sgf s 69)
def Hi (F I : Nat → Nat → Int32) (J : Nat → Nat → Int64) (F1 I1 : Nat → Nat → Int32) (J1 : Nat → Nat → Int64) : Prop := ∀ a, 40 ≤ a → F1 a = F a ∧ I1 a = I a ∧ J1 a = J a
def stF (s : Sg) (f : rw_) : Sg := (f, s.2)
def stK (s : Sg) : Sg := (s.1, s.1, true, s.2.2.2)
def stR (s : Sg) (j : Nat) : Sg := (s.1, s.2.1, s.2.2.1, pu s.2.2.2.1 j (s.2.2.2.1 j + 1), s.2.2.2.2)
def stT (s : Sg) (sz : Nat) (tp : Nat → Nat) : Sg := (s.1, s.2.1, s.2.2.1, s.2.2.2.1, (sz, tp), s.2.2.2.2.2)
def stS (s : Sg) (hd : Nat → Option Nat) (zs : Nat → Nat) (el : Nat → Int64) : Sg := (s.1, s.2.1, s.2.2.1, s.2.2.2.1, s.2.2.2.2.1, hd, zs, el)
def cod : Nat → Int32
  | 0 => -2
  | 1 => -3
  | 2 => -4
  | 3 => -5
  | _ => -6
def rfz (s : Sg) (j : Nat) : Int32 × Sg := (cod j, stR s j)
def qry (c : Bool) (v : Int32) (s : Sg) : Int32 × Sg := if c = true then (v, s) else rfz s 0
theorem qry_t {c : Bool} {v : Int32} {s : Sg} (h : c = true) : qry c v s = (v, s) := if_pos h
theorem qry_f {c : Bool} {v : Int32} {s : Sg} (h : c = false) : qry c v s = rfz s 0 := if_neg (by rw [h]; decide)
section CRS
variable {s : Sg} {F I F1 I1 : Nat → Nat → Int32} {J J1 : Nat → Nat → Int64}
theorem Hi.rf : Hi F I J F I J := fun _ _ => ⟨rfl, rfl, rfl⟩
theorem Hi.tr {F2 I2 : Nat → Nat → Int32} {J2 : Nat → Nat → Int64} (h : Hi F I J F1 I1 J1) (h2 : Hi F1 I1 J1 F2 I2 J2) : Hi F I J F2 I2 J2 := fun a ha => ⟨(h2 a ha).1.trans (h a ha).1, (h2 a ha).2.1.trans (h a ha).2.1, (h2 a ha).2.2.trans (h a ha).2.2⟩
theorem Hi.uF {k j : Nat} {v : Int32} (h : Hi F I J F1 I1 J1) (hk : k < 40) : Hi F I J (sm_up F1 k j v) I1 J1 := fun a ha => ⟨(sm_up_ne (by omega)).trans (h a ha).1, (h a ha).2⟩
theorem Hi.uI {k j : Nat} {v : Int32} (h : Hi F I J F1 I1 J1) (hk : k < 40) : Hi F I J F1 (sm_up I1 k j v) J1 := fun a ha => ⟨(h a ha).1, (sm_up_ne (by omega)).trans (h a ha).2.1, (h a ha).2.2⟩
theorem Hi.uJ {k j : Nat} {v : Int64} (h : Hi F I J F1 I1 J1) (hk : k < 40) : Hi F I J F1 I1 (sm_up J1 k j v) := fun a ha => ⟨(h a ha).1, (h a ha).2.1, (sm_up_ne (by omega)).trans (h a ha).2.2⟩
theorem Hi.fr {t : Nat} {F2 I2 : Nat → Nat → Int32} (h : Hi F I J F1 I1 J1) (ht : isT t) (h2 : Fr t F1 I1 F2 I2) : Hi F I J F2 I2 J1 := by
  have hh := ht.hi
  exact fun a ha => ⟨(h2 a (by omega)).1.trans (h a ha).1, (h2 a (by omega)).2.trans (h a ha).2.1, (h a ha).2.2⟩
theorem Hi.sh {I2 : Nat → Nat → Int32} {J2 : Nat → Nat → Int64} (h : Hi F I J F1 I1 J1) (h2 : ShF 32 I1 J1 I2 J2) : Hi F I J F1 I2 J2 := fun a ha => ⟨(h a ha).1, ((h2 a).1 (by omega) (by omega)).trans (h a ha).2.1, ((h2 a).2 (by omega)).trans (h a ha).2.2⟩
/-- what changes only scratch cells -/
theorem CR.scr (h : CR s F I J) (hF : ∀ a, a ≤ 9 ∨ (11 ≤ a ∧ a ≤ 19) ∨ a = 35 → F1 a = F a) (hI : ∀ a, a ≤ 9 ∨ (11 ≤ a ∧ a ≤ 19) ∨ (31 ≤ a ∧ a ≤ 36) ∨ a = 39 → I1 a = I a) : CR s F1 I1 J := by
  obtain ⟨h1, h2, h3, h4, h5, h6⟩ := h
  refine ⟨h1.frame (fun a ha => hF a (by omega)) (fun a g1 g2 => hI a (by omega)), fun z => (h2 z).frame (fun a ha => hF a (by omega)) (fun a g1 g2 => hI a (by omega)), ?_, fun j hj => ?_, ⟨?_, fun j hj => ?_⟩, fun x hx => ?_, fun x hx => ?_, h6.2.2⟩
  · rw [hF 0 (by omega)]; exact h3
  · rw [hI 39 (by omega)]; exact h4 j hj
  · rw [hF 35 (by omega)]; exact h5.1
  · rw [hI 36 (by omega)]; exact h5.2 j hj
  · rw [hI 32 (by omega)]; exact h6.1 x hx
  · rw [hI (32 + 1) (by omega)]; exact h6.2.1 x hx
theorem CR.f {f : rw_} (h : CR s F I J) (hT : Tw 1 f F1 I1) (h2 : Fr 1 F I F1 I1) : CR (stF s f) F1 I1 J := by
  obtain ⟨g1, g2, g3, g4, g5, g6⟩ := h
  refine ⟨hT, fun z => (g2 z).frame (fun a ha => (h2 a (by omega)).1) (fun a q1 q2 => (h2 a (by omega)).2), ?_, fun j hj => ?_, ⟨?_, fun j hj => ?_⟩, fun x hx => ?_, fun x hx => ?_, g6.2.2⟩
  · rw [(h2 0 (by omega)).1]; exact g3
  · rw [(h2 39 (by omega)).2]; exact g4 j hj
  · rw [(h2 35 (by omega)).1]; exact g5.1
  · rw [(h2 36 (by omega)).2]; exact g5.2 j hj
  · rw [(h2 32 (by omega)).2]; exact g6.1 x hx
  · rw [(h2 (32 + 1) (by omega)).2]; exact g6.2.1 x hx
theorem CR.sh {hd : Nat → Option Nat} {zs : Nat → Nat} {el : Nat → Int64} (h : CR s F I J) (hS : ShR 32 hd zs el I1 J1) (h2 : ShF 32 I J I1 J1) : CR (stS s hd zs el) F I1 J1 := by
  obtain ⟨g1, g2, g3, g4, g5, g6⟩ := h
  refine ⟨g1.frame (fun a ha => rfl) (fun a q1 q2 => (h2 a).1 (by omega) (by omega)), fun z => (g2 z).frame (fun a ha => rfl) (fun a q1 q2 => (h2 a).1 (by omega) (by omega)), g3, fun j hj => ?_, ⟨g5.1, fun j hj => ?_⟩, hS⟩
  · rw [(h2 39).1 (by omega) (by omega)]; exact g4 j hj
  · rw [(h2 36).1 (by omega) (by omega)]; exact g5.2 j hj
theorem CR.bump (h : CR s F I J) (j : Nat) : CR (stR s j) F (sm_up I 39 j (I 39 j + 1)) J ∨ 5 ≤ j := by
  by_cases hj : 5 ≤ j
  · exact Or.inr hj
  refine Or.inl ?_
  obtain ⟨g1, g2, g3, g4, g5, g6⟩ := h
  refine ⟨g1.frame (fun a ha => rfl) (fun a q1 q2 => sm_up_ne (by omega)), fun z => (g2 z).frame (fun a ha => rfl) (fun a q1 q2 => sm_up_ne (by omega)), g3, fun i hi => ?_, ⟨g5.1, fun i hi => ?_⟩, fun x hx => ?_, fun x hx => ?_, g6.2.2⟩
  · by_cases e : i = j
    · subst e
      rw [up_eq, g4 i (by omega)]
      exact (pu_eq (g := sgr s)).symm
    · rw [up_nj e, g4 i hi]
      exact (pu_ne (g := sgr s) e).symm
  · rw [up_nk (by decide)]; exact g5.2 i hi
  · rw [up_nk (by decide)]; exact g6.1 x hx
  · rw [up_nk (by decide)]; exact g6.2.1 x hx
theorem CR.bmp (h : CR s F I J) {j : Nat} (hj : j < 5) : CR (stR s j) F (sm_up I 39 j (I 39 j + 1)) J := (h.bump j).resolve_right (by omega)
end CRS
theorem Ok.n {s : Sg} (h : Ok s) : sgf s 68 ≤ 10 := h.1.n
def isTh (s : Sg) (x : Int32) : Bool := decide (0 ≤ x ∧ x < nI (sgf s 68))
def arTh (s : Sg) (x : Int32) : Bool := decide (0 ≤ x ∧ x < nI (2 ^ sgf s 68))
def isRg (s : Sg) (x : Int32) : Bool := decide (0 ≤ x ∧ x < nI (sgf s 69))
def arRg (s : Sg) (x : Int32) : Bool := decide (0 ≤ x ∧ x < nI (2 ^ sgf s 69))
def upB (x m : Int32) : Bool := decide (0 ≤ x ∧ x ≤ m)
theorem c_X6_refuse_0 {d : Nat} {F I : Nat → Nat → Int32} {J : Nat → Nat → Int64} {Q : Option Value → sm_H → Prop}  (k : Q (some (.int (cod 0))) (S0, F, sm_up I 39 0 (I 39 0 + 1), J)) : Wp mX6_refuse (d + 1) 0 0 0 (sm_ini [.ref 0, .int (-2)] 3) [] (S0, F, I, J) Q := by
  show Wp _ _ _ _ _ [.ref 0, .int (-2), .null] _ _ _
  refine wp_bipush (pc := 0) (-2) dX6_refuse_0 (by decide) ?_
  refine wp_iload_n (pc := 2) 1 dX6_refuse_2 rfl rfl ?_
  refine wp_isub (pc := 3) dX6_refuse_3 ?_
  refine wp_int (y := nI 0) (by decide) ?_
  refine wp_istore_n (pc := 4) 2 dX6_refuse_4 rfl (by decide) rfl ?_
  refine wp_aload_n (pc := 5) 0 dX6_refuse_5 rfl rfl ?_
  refine wq_getR (pc := 6) 43 6 dX6_refuse_6 s0_0 flX6_43 rfl rfl (by decide) (by decide) ?_
  refine wp_iload_n (pc := 9) 2 dX6_refuse_9 rfl rfl ?_
  refine wp_aload_n (pc := 10) 0 dX6_refuse_10 rfl rfl ?_
  refine wq_getR (pc := 11) 43 6 dX6_refuse_11 s0_0 flX6_43 rfl rfl (by decide) (by decide) ?_
  refine wp_iload_n (pc := 14) 2 dX6_refuse_14 rfl rfl ?_
  refine wc_S_RI (pc := 15) dX6_refuse_15 lkX6_367 (by decide) (Nat.le_of_ble_eq_true rfl) ?_
  refine c_X6_at s0_39 (by decide) (by decide) (by decide) ?_
  refine wp_iconst (pc := 18) (1) dX6_refuse_18 (by decide) ?_
  refine wp_iadd (pc := 19) dX6_refuse_19 ?_
  refine wc_S_RII (pc := 20) dX6_refuse_20 lkX6_371 (by decide) (Nat.le_of_ble_eq_true rfl) ?_
  refine c_X6_put s0_39 (by decide) (by decide) (by decide) ?_
  refine wp_iload_n (pc := 23) 1 dX6_refuse_23 rfl rfl ?_
  refine wp_iretI (pc := 24) dX6_refuse_24 rfl ?_
  exact k
theorem c_X6_refuse_1 {d : Nat} {F I : Nat → Nat → Int32} {J : Nat → Nat → Int64} {Q : Option Value → sm_H → Prop}  (k : Q (some (.int (cod 1))) (S0, F, sm_up I 39 1 (I 39 1 + 1), J)) : Wp mX6_refuse (d + 1) 0 0 0 (sm_ini [.ref 0, .int (-3)] 3) [] (S0, F, I, J) Q := by
  show Wp _ _ _ _ _ [.ref 0, .int (-3), .null] _ _ _
  refine wp_bipush (pc := 0) (-2) dX6_refuse_0 (by decide) ?_
  refine wp_iload_n (pc := 2) 1 dX6_refuse_2 rfl rfl ?_
  refine wp_isub (pc := 3) dX6_refuse_3 ?_
  refine wp_int (y := nI 1) (by decide) ?_
  refine wp_istore_n (pc := 4) 2 dX6_refuse_4 rfl (by decide) rfl ?_
  refine wp_aload_n (pc := 5) 0 dX6_refuse_5 rfl rfl ?_
  refine wq_getR (pc := 6) 43 6 dX6_refuse_6 s0_0 flX6_43 rfl rfl (by decide) (by decide) ?_
  refine wp_iload_n (pc := 9) 2 dX6_refuse_9 rfl rfl ?_
  refine wp_aload_n (pc := 10) 0 dX6_refuse_10 rfl rfl ?_
  refine wq_getR (pc := 11) 43 6 dX6_refuse_11 s0_0 flX6_43 rfl rfl (by decide) (by decide) ?_
  refine wp_iload_n (pc := 14) 2 dX6_refuse_14 rfl rfl ?_
  refine wc_S_RI (pc := 15) dX6_refuse_15 lkX6_367 (by decide) (Nat.le_of_ble_eq_true rfl) ?_
  refine c_X6_at s0_39 (by decide) (by decide) (by decide) ?_
  refine wp_iconst (pc := 18) (1) dX6_refuse_18 (by decide) ?_
  refine wp_iadd (pc := 19) dX6_refuse_19 ?_
  refine wc_S_RII (pc := 20) dX6_refuse_20 lkX6_371 (by decide) (Nat.le_of_ble_eq_true rfl) ?_
  refine c_X6_put s0_39 (by decide) (by decide) (by decide) ?_
  refine wp_iload_n (pc := 23) 1 dX6_refuse_23 rfl rfl ?_
  refine wp_iretI (pc := 24) dX6_refuse_24 rfl ?_
  exact k
theorem c_X6_refuse_2 {d : Nat} {F I : Nat → Nat → Int32} {J : Nat → Nat → Int64} {Q : Option Value → sm_H → Prop}  (k : Q (some (.int (cod 2))) (S0, F, sm_up I 39 2 (I 39 2 + 1), J)) : Wp mX6_refuse (d + 1) 0 0 0 (sm_ini [.ref 0, .int (-4)] 3) [] (S0, F, I, J) Q := by
  show Wp _ _ _ _ _ [.ref 0, .int (-4), .null] _ _ _
  refine wp_bipush (pc := 0) (-2) dX6_refuse_0 (by decide) ?_
  refine wp_iload_n (pc := 2) 1 dX6_refuse_2 rfl rfl ?_
  refine wp_isub (pc := 3) dX6_refuse_3 ?_
  refine wp_int (y := nI 2) (by decide) ?_
  refine wp_istore_n (pc := 4) 2 dX6_refuse_4 rfl (by decide) rfl ?_
  refine wp_aload_n (pc := 5) 0 dX6_refuse_5 rfl rfl ?_
  refine wq_getR (pc := 6) 43 6 dX6_refuse_6 s0_0 flX6_43 rfl rfl (by decide) (by decide) ?_
  refine wp_iload_n (pc := 9) 2 dX6_refuse_9 rfl rfl ?_
  refine wp_aload_n (pc := 10) 0 dX6_refuse_10 rfl rfl ?_
  refine wq_getR (pc := 11) 43 6 dX6_refuse_11 s0_0 flX6_43 rfl rfl (by decide) (by decide) ?_
  refine wp_iload_n (pc := 14) 2 dX6_refuse_14 rfl rfl ?_
  refine wc_S_RI (pc := 15) dX6_refuse_15 lkX6_367 (by decide) (Nat.le_of_ble_eq_true rfl) ?_
  refine c_X6_at s0_39 (by decide) (by decide) (by decide) ?_
  refine wp_iconst (pc := 18) (1) dX6_refuse_18 (by decide) ?_
  refine wp_iadd (pc := 19) dX6_refuse_19 ?_
  refine wc_S_RII (pc := 20) dX6_refuse_20 lkX6_371 (by decide) (Nat.le_of_ble_eq_true rfl) ?_
  refine c_X6_put s0_39 (by decide) (by decide) (by decide) ?_
  refine wp_iload_n (pc := 23) 1 dX6_refuse_23 rfl rfl ?_
  refine wp_iretI (pc := 24) dX6_refuse_24 rfl ?_
  exact k
theorem c_X6_refuse_3 {d : Nat} {F I : Nat → Nat → Int32} {J : Nat → Nat → Int64} {Q : Option Value → sm_H → Prop}  (k : Q (some (.int (cod 3))) (S0, F, sm_up I 39 3 (I 39 3 + 1), J)) : Wp mX6_refuse (d + 1) 0 0 0 (sm_ini [.ref 0, .int (-5)] 3) [] (S0, F, I, J) Q := by
  show Wp _ _ _ _ _ [.ref 0, .int (-5), .null] _ _ _
  refine wp_bipush (pc := 0) (-2) dX6_refuse_0 (by decide) ?_
  refine wp_iload_n (pc := 2) 1 dX6_refuse_2 rfl rfl ?_
  refine wp_isub (pc := 3) dX6_refuse_3 ?_
  refine wp_int (y := nI 3) (by decide) ?_
  refine wp_istore_n (pc := 4) 2 dX6_refuse_4 rfl (by decide) rfl ?_
  refine wp_aload_n (pc := 5) 0 dX6_refuse_5 rfl rfl ?_
  refine wq_getR (pc := 6) 43 6 dX6_refuse_6 s0_0 flX6_43 rfl rfl (by decide) (by decide) ?_
  refine wp_iload_n (pc := 9) 2 dX6_refuse_9 rfl rfl ?_
  refine wp_aload_n (pc := 10) 0 dX6_refuse_10 rfl rfl ?_
  refine wq_getR (pc := 11) 43 6 dX6_refuse_11 s0_0 flX6_43 rfl rfl (by decide) (by decide) ?_
  refine wp_iload_n (pc := 14) 2 dX6_refuse_14 rfl rfl ?_
  refine wc_S_RI (pc := 15) dX6_refuse_15 lkX6_367 (by decide) (Nat.le_of_ble_eq_true rfl) ?_
  refine c_X6_at s0_39 (by decide) (by decide) (by decide) ?_
  refine wp_iconst (pc := 18) (1) dX6_refuse_18 (by decide) ?_
  refine wp_iadd (pc := 19) dX6_refuse_19 ?_
  refine wc_S_RII (pc := 20) dX6_refuse_20 lkX6_371 (by decide) (Nat.le_of_ble_eq_true rfl) ?_
  refine c_X6_put s0_39 (by decide) (by decide) (by decide) ?_
  refine wp_iload_n (pc := 23) 1 dX6_refuse_23 rfl rfl ?_
  refine wp_iretI (pc := 24) dX6_refuse_24 rfl ?_
  exact k
theorem c_X6_refuse_4 {d : Nat} {F I : Nat → Nat → Int32} {J : Nat → Nat → Int64} {Q : Option Value → sm_H → Prop}  (k : Q (some (.int (cod 4))) (S0, F, sm_up I 39 4 (I 39 4 + 1), J)) : Wp mX6_refuse (d + 1) 0 0 0 (sm_ini [.ref 0, .int (-6)] 3) [] (S0, F, I, J) Q := by
  show Wp _ _ _ _ _ [.ref 0, .int (-6), .null] _ _ _
  refine wp_bipush (pc := 0) (-2) dX6_refuse_0 (by decide) ?_
  refine wp_iload_n (pc := 2) 1 dX6_refuse_2 rfl rfl ?_
  refine wp_isub (pc := 3) dX6_refuse_3 ?_
  refine wp_int (y := nI 4) (by decide) ?_
  refine wp_istore_n (pc := 4) 2 dX6_refuse_4 rfl (by decide) rfl ?_
  refine wp_aload_n (pc := 5) 0 dX6_refuse_5 rfl rfl ?_
  refine wq_getR (pc := 6) 43 6 dX6_refuse_6 s0_0 flX6_43 rfl rfl (by decide) (by decide) ?_
  refine wp_iload_n (pc := 9) 2 dX6_refuse_9 rfl rfl ?_
  refine wp_aload_n (pc := 10) 0 dX6_refuse_10 rfl rfl ?_
  refine wq_getR (pc := 11) 43 6 dX6_refuse_11 s0_0 flX6_43 rfl rfl (by decide) (by decide) ?_
  refine wp_iload_n (pc := 14) 2 dX6_refuse_14 rfl rfl ?_
  refine wc_S_RI (pc := 15) dX6_refuse_15 lkX6_367 (by decide) (Nat.le_of_ble_eq_true rfl) ?_
  refine c_X6_at s0_39 (by decide) (by decide) (by decide) ?_
  refine wp_iconst (pc := 18) (1) dX6_refuse_18 (by decide) ?_
  refine wp_iadd (pc := 19) dX6_refuse_19 ?_
  refine wc_S_RII (pc := 20) dX6_refuse_20 lkX6_371 (by decide) (Nat.le_of_ble_eq_true rfl) ?_
  refine c_X6_put s0_39 (by decide) (by decide) (by decide) ?_
  refine wp_iload_n (pc := 23) 1 dX6_refuse_23 rfl rfl ?_
  refine wp_iretI (pc := 24) dX6_refuse_24 rfl ?_
  exact k
