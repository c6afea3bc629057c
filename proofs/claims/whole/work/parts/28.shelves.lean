/-! ===== the shelves ===== -/
def pu {α : Type} (g : Nat → α) (j : Nat) (v : α) : Nat → α := fun x => if x = j then v else g x
theorem pu_eq {α : Type} {g : Nat → α} {j : Nat} {v : α} : pu g j v j = v := if_pos rfl
theorem pu_ne {α : Type} {g : Nat → α} {j x : Nat} {v : α} (h : x ≠ j) : pu g j v x = g x := if_neg h
theorem nI_mul (a b : Nat) : nI a * nI b = nI (a * b) := (Int32.ofNat_mul a b).symm
def ShR (c : Nat) (hd : Nat → Option Nat) (zs : Nat → Nat) (el : Nat → Int64) (I : Nat → Nat → Int32) (J : Nat → Nat → Int64) : Prop :=
  (∀ s, s < 8 → I c s = eN (hd s)) ∧ (∀ s, s < 8 → I (c + 1) s = nI (zs s)) ∧ (∀ j, j < 320 → J (c + 2) j = el j)
def hok (hd : Nat → Option Nat) (zs : Nat → Nat) : Prop := (∀ s k, hd s = some k → k ≤ 4 ∨ (10 ≤ k ∧ k < 16)) ∧ (∀ s, zs s ≤ 40)
def hrow : Option Nat → Bool
  | none => false
  | some k => decide (k ≤ 4)
def hgr : Option Nat → Bool
  | none => false
  | some k => decide (10 ≤ k)
def hrg : Option Nat → Option Nat
  | none => none
  | some k => if 10 ≤ k then some (k - 10) else none
def hsz (hd : Nat → Option Nat) (zs : Nat → Nat) (s : Nat) : Nat := if hrow (hd s) = true then zs s else 0
theorem hok.c {hd : Nat → Option Nat} {zs : Nat → Nat} (h : hok hd zs) (s : Nat) : hd s = none ∨ (∃ k, hd s = some k ∧ k ≤ 4) ∨ (∃ k, hd s = some k ∧ 10 ≤ k ∧ k < 16) := by
  cases e : hd s with
  | none => exact Or.inl rfl
  | some k =>
    rcases h.1 s k e with h | h
    · exact Or.inr (Or.inl ⟨k, rfl, h⟩)
    · exact Or.inr (Or.inr ⟨k, rfl, h⟩)
theorem hsz_le {hd : Nat → Option Nat} {zs : Nat → Nat} (h : hok hd zs) (s : Nat) : hsz hd zs s ≤ 40 := by
  have := h.2 s
  unfold hsz
  split <;> omega
def elA (hd : Nat → Option Nat) (zs : Nat → Nat) (el : Nat → Int64) (s i : Nat) : Int64 := if i < hsz hd zs s then el (s * 40 + i) else 0
theorem c_X3_isShelf_i {d : Nat} {h : sm_H} {Q : Option Value → sm_H → Prop} {s : Nat} (hs : s < 8) (k : Q (some (.int (b2 true))) h) : Wp mX3_isShelf (d) 0 0 0 (sm_ini [.int (nI s)] 1) [] h Q := by
  show Wp _ _ _ _ _ [.int (nI s)] _ _ _
  refine wp_iload_n (pc := 0) 0 dX3_isShelf_0 rfl rfl ?_
  refine wp_iflt (pc := 1) 14 dX3_isShelf_1 (by decide) (fun c_1 => ?_) (fun c_1 => ?_)
  · exact absurd c_1 (nI_pos (by omega))
  · refine wp_iload_n (pc := 4) 0 dX3_isShelf_4 rfl rfl ?_
    refine wp_bipush (pc := 5) (8) dX3_isShelf_5 (by decide) ?_
    refine wp_icmp_ge (pc := 7) 14 dX3_isShelf_7 (by decide) (fun c_7 => ?_) (fun c_7 => ?_)
    · exact absurd c_7 (nI_ge (b := 8) hs (by decide))
    · refine wp_iconst (pc := 10) (1) dX3_isShelf_10 (by decide) ?_
      refine wp_goto (pc := 11) 15 dX3_isShelf_11 (by decide) ?_
      refine wp_iret (pc := 15) dX3_isShelf_15 ⟨_, rfl, by decide⟩ ?_
      exact k
theorem c_X3_isShelf_o {d : Nat} {h : sm_H} {Q : Option Value → sm_H → Prop} {x : Int32} (hx : ¬ (0 ≤ x ∧ x < 8)) (k : Q (some (.int (b2 false))) h) : Wp mX3_isShelf (d) 0 0 0 (sm_ini [.int x] 1) [] h Q := by
  show Wp _ _ _ _ _ [.int x] _ _ _
  refine wp_iload_n (pc := 0) 0 dX3_isShelf_0 rfl rfl ?_
  refine wp_iflt (pc := 1) 14 dX3_isShelf_1 (by decide) (fun c_1 => ?_) (fun c_1 => ?_)
  · refine wp_iconst (pc := 14) (0) dX3_isShelf_14 (by decide) ?_
    refine wp_iret (pc := 15) dX3_isShelf_15 ⟨_, rfl, by decide⟩ ?_
    exact k
  · refine wp_iload_n (pc := 4) 0 dX3_isShelf_4 rfl rfl ?_
    refine wp_bipush (pc := 5) (8) dX3_isShelf_5 (by decide) ?_
    refine wp_icmp_ge (pc := 7) 14 dX3_isShelf_7 (by decide) (fun c_7 => ?_) (fun c_7 => ?_)
    · refine wp_iconst (pc := 14) (0) dX3_isShelf_14 (by decide) ?_
      refine wp_iret (pc := 15) dX3_isShelf_15 ⟨_, rfl, by decide⟩ ?_
      exact k
    · exact absurd ⟨Int32.not_lt.mp c_1, Int32.not_le.mp c_7⟩ hx
theorem c_X3_heldIn_i {d : Nat} {F I : Nat → Nat → Int32} {J : Nat → Nat → Int64} {Q : Option Value → sm_H → Prop} {hd : Nat → Option Nat} {zs : Nat → Nat} {el : Nat → Int64} (hS : ShR 32 hd zs el I J) (ho : hok hd zs) {s : Nat} (hs : s < 8) (k : Q (some (.int (eN (hd s)))) (S0, F, I, J)) : Wp mX3_heldIn (d + 1) 0 0 0 (sm_ini [.ref 31, .int (nI s)] 2) [] (S0, F, I, J) Q := by
  show Wp _ _ _ _ _ [.ref 31, .int (nI s)] _ _ _
  refine wp_iload_n (pc := 0) 1 dX3_heldIn_0 rfl rfl ?_
  refine wc_S_I (pc := 1) dX3_heldIn_1 lkX3_22 (by decide) (Nat.le_of_ble_eq_true rfl) ?_
  refine c_X3_isShelf_i hs ?_
  refine wp_ifeq (pc := 4) 18 dX3_heldIn_4 (by decide) (fun c_4 => ?_) (fun c_4 => ?_)
  · exact absurd c_4 (by decide)
  · refine wp_aload_n (pc := 7) 0 dX3_heldIn_7 rfl rfl ?_
    refine wq_getR (pc := 8) 11 0 dX3_heldIn_8 s0_31 flX3_11 rfl rfl (by decide) (by decide) ?_
    refine wp_iload_n (pc := 11) 1 dX3_heldIn_11 rfl rfl ?_
    refine wc_SN_RI (pc := 12) dX3_heldIn_12 lkX3_26 (by decide) (Nat.le_of_ble_eq_true rfl) ?_
    refine c_X6_at s0_32 (by decide) (by decide) hs ?_
    refine wp_int (hS.1 s hs) ?_
    refine wp_goto (pc := 15) 19 dX3_heldIn_15 (by decide) ?_
    refine wp_iretI (pc := 19) dX3_heldIn_19 rfl ?_
    exact k
theorem c_X3_heldIn_o {d : Nat} {F I : Nat → Nat → Int32} {J : Nat → Nat → Int64} {Q : Option Value → sm_H → Prop} {x : Int32} (hx : ¬ (0 ≤ x ∧ x < 8)) (k : Q (some (.int (-1))) (S0, F, I, J)) : Wp mX3_heldIn (d + 1) 0 0 0 (sm_ini [.ref 31, .int x] 2) [] (S0, F, I, J) Q := by
  show Wp _ _ _ _ _ [.ref 31, .int x] _ _ _
  refine wp_iload_n (pc := 0) 1 dX3_heldIn_0 rfl rfl ?_
  refine wc_S_I (pc := 1) dX3_heldIn_1 lkX3_22 (by decide) (Nat.le_of_ble_eq_true rfl) ?_
  refine c_X3_isShelf_o hx ?_
  refine wp_ifeq (pc := 4) 18 dX3_heldIn_4 (by decide) (fun c_4 => ?_) (fun c_4 => ?_)
  · refine wp_iconst (pc := 18) (-1) dX3_heldIn_18 (by decide) ?_
    refine wp_iretI (pc := 19) dX3_heldIn_19 rfl ?_
    exact k
  · exact absurd (by decide) c_4
theorem c_X3_hasRow_i {d : Nat} {F I : Nat → Nat → Int32} {J : Nat → Nat → Int64} {Q : Option Value → sm_H → Prop} {hd : Nat → Option Nat} {zs : Nat → Nat} {el : Nat → Int64} (hS : ShR 32 hd zs el I J) (ho : hok hd zs) {s : Nat} (hs : s < 8) (kk : Q (some (.int (b2 (hrow (hd s))))) (S0, F, I, J)) : Wp mX3_hasRow (d + 2) 0 0 0 (sm_ini [.ref 31, .int (nI s)] 2) [] (S0, F, I, J) Q := by
  show Wp _ _ _ _ _ [.ref 31, .int (nI s)] _ _ _
  rcases ho.c s with e | ⟨k, e, hk⟩ | ⟨k, e, hk, hk2⟩
  · refine wp_aload_n (pc := 0) 0 dX3_hasRow_0 rfl rfl ?_
    refine wp_iload_n (pc := 1) 1 dX3_hasRow_1 rfl rfl ?_
    refine wc_V_I (pc := 2) dX3_hasRow_2 lkX3_30 (sm_Rc.o (ci := 2) s0_31 (by decide) (by decide)) (by decide) (Nat.le_of_ble_eq_true rfl) ?_
    refine c_X3_heldIn_i hS ho hs ?_
    refine wp_int (y := -1) (by rw [e]; rfl) ?_
    refine wp_iflt (pc := 5) 21 dX3_hasRow_5 (by decide) (fun c_5 => ?_) (fun c_5 => ?_)
    · refine wp_iconst (pc := 21) (0) dX3_hasRow_21 (by decide) ?_
      refine wp_iret (pc := 22) dX3_hasRow_22 ⟨_, rfl, by decide⟩ ?_
      rw [show hrow (hd s) = false by rw [e]; rfl] at kk; exact kk
    · exact absurd (by decide) c_5
  · refine wp_aload_n (pc := 0) 0 dX3_hasRow_0 rfl rfl ?_
    refine wp_iload_n (pc := 1) 1 dX3_hasRow_1 rfl rfl ?_
    refine wc_V_I (pc := 2) dX3_hasRow_2 lkX3_30 (sm_Rc.o (ci := 2) s0_31 (by decide) (by decide)) (by decide) (Nat.le_of_ble_eq_true rfl) ?_
    refine c_X3_heldIn_i hS ho hs ?_
    refine wp_int (y := nI k) (by rw [e]; rfl) ?_
    refine wp_iflt (pc := 5) 21 dX3_hasRow_5 (by decide) (fun c_5 => ?_) (fun c_5 => ?_)
    · exact absurd c_5 (nI_pos (by omega))
    · refine wp_aload_n (pc := 8) 0 dX3_hasRow_8 rfl rfl ?_
      refine wp_iload_n (pc := 9) 1 dX3_hasRow_9 rfl rfl ?_
      refine wc_V_I (pc := 10) dX3_hasRow_10 lkX3_30 (sm_Rc.o (ci := 2) s0_31 (by decide) (by decide)) (by decide) (Nat.le_of_ble_eq_true rfl) ?_
      refine c_X3_heldIn_i hS ho hs ?_
      refine wp_int (y := nI k) (by rw [e]; rfl) ?_
      refine wp_iconst (pc := 13) (4) dX3_hasRow_13 (by decide) ?_
      refine wp_icmp_gt (pc := 14) 21 dX3_hasRow_14 (by decide) (fun c_14 => ?_) (fun c_14 => ?_)
      · exact absurd ((nI_ltI (a := 4) (by decide) (by omega)).mp c_14) (by omega)
      · refine wp_iconst (pc := 17) (1) dX3_hasRow_17 (by decide) ?_
        refine wp_goto (pc := 18) 22 dX3_hasRow_18 (by decide) ?_
        refine wp_iret (pc := 22) dX3_hasRow_22 ⟨_, rfl, by decide⟩ ?_
        rw [show hrow (hd s) = true by rw [e]; exact decide_eq_true hk] at kk; exact kk
  · refine wp_aload_n (pc := 0) 0 dX3_hasRow_0 rfl rfl ?_
    refine wp_iload_n (pc := 1) 1 dX3_hasRow_1 rfl rfl ?_
    refine wc_V_I (pc := 2) dX3_hasRow_2 lkX3_30 (sm_Rc.o (ci := 2) s0_31 (by decide) (by decide)) (by decide) (Nat.le_of_ble_eq_true rfl) ?_
    refine c_X3_heldIn_i hS ho hs ?_
    refine wp_int (y := nI k) (by rw [e]; rfl) ?_
    refine wp_iflt (pc := 5) 21 dX3_hasRow_5 (by decide) (fun c_5 => ?_) (fun c_5 => ?_)
    · exact absurd c_5 (nI_pos (by omega))
    · refine wp_aload_n (pc := 8) 0 dX3_hasRow_8 rfl rfl ?_
      refine wp_iload_n (pc := 9) 1 dX3_hasRow_9 rfl rfl ?_
      refine wc_V_I (pc := 10) dX3_hasRow_10 lkX3_30 (sm_Rc.o (ci := 2) s0_31 (by decide) (by decide)) (by decide) (Nat.le_of_ble_eq_true rfl) ?_
      refine c_X3_heldIn_i hS ho hs ?_
      refine wp_int (y := nI k) (by rw [e]; rfl) ?_
      refine wp_iconst (pc := 13) (4) dX3_hasRow_13 (by decide) ?_
      refine wp_icmp_gt (pc := 14) 21 dX3_hasRow_14 (by decide) (fun c_14 => ?_) (fun c_14 => ?_)
      · refine wp_iconst (pc := 21) (0) dX3_hasRow_21 (by decide) ?_
        refine wp_iret (pc := 22) dX3_hasRow_22 ⟨_, rfl, by decide⟩ ?_
        rw [show hrow (hd s) = false by rw [e]; exact decide_eq_false (by omega)] at kk; exact kk
      · exact absurd ((nI_ltI (a := 4) (by decide) (by omega)).mpr (by omega)) c_14
theorem c_X3_hasRow_o {d : Nat} {F I : Nat → Nat → Int32} {J : Nat → Nat → Int64} {Q : Option Value → sm_H → Prop} {x : Int32} (hx : ¬ (0 ≤ x ∧ x < 8)) (k : Q (some (.int (b2 false))) (S0, F, I, J)) : Wp mX3_hasRow (d + 2) 0 0 0 (sm_ini [.ref 31, .int x] 2) [] (S0, F, I, J) Q := by
  show Wp _ _ _ _ _ [.ref 31, .int x] _ _ _
  refine wp_aload_n (pc := 0) 0 dX3_hasRow_0 rfl rfl ?_
  refine wp_iload_n (pc := 1) 1 dX3_hasRow_1 rfl rfl ?_
  refine wc_V_I (pc := 2) dX3_hasRow_2 lkX3_30 (sm_Rc.o (ci := 2) s0_31 (by decide) (by decide)) (by decide) (Nat.le_of_ble_eq_true rfl) ?_
  refine c_X3_heldIn_o hx ?_
  refine wp_iflt (pc := 5) 21 dX3_hasRow_5 (by decide) (fun c_5 => ?_) (fun c_5 => ?_)
  · refine wp_iconst (pc := 21) (0) dX3_hasRow_21 (by decide) ?_
    refine wp_iret (pc := 22) dX3_hasRow_22 ⟨_, rfl, by decide⟩ ?_
    exact k
  · exact absurd (by decide) c_5
theorem c_X3_hasRinger_i {d : Nat} {F I : Nat → Nat → Int32} {J : Nat → Nat → Int64} {Q : Option Value → sm_H → Prop} {hd : Nat → Option Nat} {zs : Nat → Nat} {el : Nat → Int64} (hS : ShR 32 hd zs el I J) (ho : hok hd zs) {s : Nat} (hs : s < 8) (kk : Q (some (.int (b2 (hgr (hd s))))) (S0, F, I, J)) : Wp mX3_hasRinger (d + 2) 0 0 0 (sm_ini [.ref 31, .int (nI s)] 2) [] (S0, F, I, J) Q := by
  show Wp _ _ _ _ _ [.ref 31, .int (nI s)] _ _ _
  rcases ho.c s with e | ⟨k, e, hk⟩ | ⟨k, e, hk, hk2⟩
  · refine wp_aload_n (pc := 0) 0 dX3_hasRinger_0 rfl rfl ?_
    refine wp_iload_n (pc := 1) 1 dX3_hasRinger_1 rfl rfl ?_
    refine wc_V_I (pc := 2) dX3_hasRinger_2 lkX3_30 (sm_Rc.o (ci := 2) s0_31 (by decide) (by decide)) (by decide) (Nat.le_of_ble_eq_true rfl) ?_
    refine c_X3_heldIn_i hS ho hs ?_
    refine wp_int (y := -1) (by rw [e]; rfl) ?_
    refine wp_bipush (pc := 5) (10) dX3_hasRinger_5 (by decide) ?_
    refine wp_icmp_lt (pc := 7) 14 dX3_hasRinger_7 (by decide) (fun c_7 => ?_) (fun c_7 => ?_)
    · refine wp_iconst (pc := 14) (0) dX3_hasRinger_14 (by decide) ?_
      refine wp_iret (pc := 15) dX3_hasRinger_15 ⟨_, rfl, by decide⟩ ?_
      rw [show hgr (hd s) = false by rw [e]; rfl] at kk; exact kk
    · exact absurd (by decide) c_7
  · refine wp_aload_n (pc := 0) 0 dX3_hasRinger_0 rfl rfl ?_
    refine wp_iload_n (pc := 1) 1 dX3_hasRinger_1 rfl rfl ?_
    refine wc_V_I (pc := 2) dX3_hasRinger_2 lkX3_30 (sm_Rc.o (ci := 2) s0_31 (by decide) (by decide)) (by decide) (Nat.le_of_ble_eq_true rfl) ?_
    refine c_X3_heldIn_i hS ho hs ?_
    refine wp_int (y := nI k) (by rw [e]; rfl) ?_
    refine wp_bipush (pc := 5) (10) dX3_hasRinger_5 (by decide) ?_
    refine wp_icmp_lt (pc := 7) 14 dX3_hasRinger_7 (by decide) (fun c_7 => ?_) (fun c_7 => ?_)
    · refine wp_iconst (pc := 14) (0) dX3_hasRinger_14 (by decide) ?_
      refine wp_iret (pc := 15) dX3_hasRinger_15 ⟨_, rfl, by decide⟩ ?_
      rw [show hgr (hd s) = false by rw [e]; exact decide_eq_false (by omega)] at kk; exact kk
    · exact absurd ((nI_ltI (b := 10) (by omega) (by decide)).mpr (by omega)) c_7
  · refine wp_aload_n (pc := 0) 0 dX3_hasRinger_0 rfl rfl ?_
    refine wp_iload_n (pc := 1) 1 dX3_hasRinger_1 rfl rfl ?_
    refine wc_V_I (pc := 2) dX3_hasRinger_2 lkX3_30 (sm_Rc.o (ci := 2) s0_31 (by decide) (by decide)) (by decide) (Nat.le_of_ble_eq_true rfl) ?_
    refine c_X3_heldIn_i hS ho hs ?_
    refine wp_int (y := nI k) (by rw [e]; rfl) ?_
    refine wp_bipush (pc := 5) (10) dX3_hasRinger_5 (by decide) ?_
    refine wp_icmp_lt (pc := 7) 14 dX3_hasRinger_7 (by decide) (fun c_7 => ?_) (fun c_7 => ?_)
    · exact absurd ((nI_ltI (b := 10) (by omega) (by decide)).mp c_7) (by omega)
    · refine wp_iconst (pc := 10) (1) dX3_hasRinger_10 (by decide) ?_
      refine wp_goto (pc := 11) 15 dX3_hasRinger_11 (by decide) ?_
      refine wp_iret (pc := 15) dX3_hasRinger_15 ⟨_, rfl, by decide⟩ ?_
      rw [show hgr (hd s) = true by rw [e]; exact decide_eq_true hk] at kk; exact kk
theorem c_X3_ringerIn_i {d : Nat} {F I : Nat → Nat → Int32} {J : Nat → Nat → Int64} {Q : Option Value → sm_H → Prop} {hd : Nat → Option Nat} {zs : Nat → Nat} {el : Nat → Int64} (hS : ShR 32 hd zs el I J) (ho : hok hd zs) {s : Nat} (hs : s < 8) (kk : Q (some (.int (eN (hrg (hd s))))) (S0, F, I, J)) : Wp mX3_ringerIn (d + 3) 0 0 0 (sm_ini [.ref 31, .int (nI s)] 2) [] (S0, F, I, J) Q := by
  show Wp _ _ _ _ _ [.ref 31, .int (nI s)] _ _ _
  rcases ho.c s with e | ⟨k, e, hk⟩ | ⟨k, e, hk, hk2⟩
  · refine wp_aload_n (pc := 0) 0 dX3_ringerIn_0 rfl rfl ?_
    refine wp_iload_n (pc := 1) 1 dX3_ringerIn_1 rfl rfl ?_
    refine wc_V_I (pc := 2) dX3_ringerIn_2 lkX3_34 (sm_Rc.o (ci := 2) s0_31 (by decide) (by decide)) (by decide) (Nat.le_of_ble_eq_true rfl) ?_
    refine c_X3_hasRinger_i hS ho hs ?_
    refine wp_int (y := 0) (by rw [show hgr (hd s) = false by rw [e]; rfl]; rfl) ?_
    refine wp_ifeq (pc := 5) 19 dX3_ringerIn_5 (by decide) (fun c_5 => ?_) (fun c_5 => ?_)
    · refine wp_iconst (pc := 19) (-1) dX3_ringerIn_19 (by decide) ?_
      refine wp_iretI (pc := 20) dX3_ringerIn_20 rfl ?_
      rw [show hrg (hd s) = none by rw [e]; rfl] at kk; exact kk
    · exact absurd (by decide) c_5
  · refine wp_aload_n (pc := 0) 0 dX3_ringerIn_0 rfl rfl ?_
    refine wp_iload_n (pc := 1) 1 dX3_ringerIn_1 rfl rfl ?_
    refine wc_V_I (pc := 2) dX3_ringerIn_2 lkX3_34 (sm_Rc.o (ci := 2) s0_31 (by decide) (by decide)) (by decide) (Nat.le_of_ble_eq_true rfl) ?_
    refine c_X3_hasRinger_i hS ho hs ?_
    refine wp_int (y := 0) (by rw [show hgr (hd s) = false by rw [e]; exact decide_eq_false (by omega)]; rfl) ?_
    refine wp_ifeq (pc := 5) 19 dX3_ringerIn_5 (by decide) (fun c_5 => ?_) (fun c_5 => ?_)
    · refine wp_iconst (pc := 19) (-1) dX3_ringerIn_19 (by decide) ?_
      refine wp_iretI (pc := 20) dX3_ringerIn_20 rfl ?_
      rw [show hrg (hd s) = none by rw [e]; exact if_neg (by omega)] at kk; exact kk
    · exact absurd (by decide) c_5
  · refine wp_aload_n (pc := 0) 0 dX3_ringerIn_0 rfl rfl ?_
    refine wp_iload_n (pc := 1) 1 dX3_ringerIn_1 rfl rfl ?_
    refine wc_V_I (pc := 2) dX3_ringerIn_2 lkX3_34 (sm_Rc.o (ci := 2) s0_31 (by decide) (by decide)) (by decide) (Nat.le_of_ble_eq_true rfl) ?_
    refine c_X3_hasRinger_i hS ho hs ?_
    refine wp_int (y := 1) (by rw [show hgr (hd s) = true by rw [e]; exact decide_eq_true hk]; rfl) ?_
    refine wp_ifeq (pc := 5) 19 dX3_ringerIn_5 (by decide) (fun c_5 => ?_) (fun c_5 => ?_)
    · exact absurd c_5 (by decide)
    · refine wp_aload_n (pc := 8) 0 dX3_ringerIn_8 rfl rfl ?_
      refine wp_iload_n (pc := 9) 1 dX3_ringerIn_9 rfl rfl ?_
      refine wc_V_I (pc := 10) dX3_ringerIn_10 lkX3_30 (sm_Rc.o (ci := 2) s0_31 (by decide) (by decide)) (by decide) (Nat.le_of_ble_eq_true rfl) ?_
      refine c_X3_heldIn_i hS ho hs ?_
      refine wp_int (y := nI k) (by rw [e]; rfl) ?_
      refine wp_bipush (pc := 13) (10) dX3_ringerIn_13 (by decide) ?_
      refine wp_isub (pc := 15) dX3_ringerIn_15 ?_
      refine wp_int (y := nI (k - 10)) (by rw [show k = k - 10 + 10 by omega, ← nI_add]; exact Int32.add_sub_cancel _ _) ?_
      refine wp_goto (pc := 16) 20 dX3_ringerIn_16 (by decide) ?_
      refine wp_iretI (pc := 20) dX3_ringerIn_20 rfl ?_
      rw [show hrg (hd s) = some (k - 10) by rw [e]; exact if_pos hk] at kk; exact kk
theorem c_X3_sizeOf_i {d : Nat} {F I : Nat → Nat → Int32} {J : Nat → Nat → Int64} {Q : Option Value → sm_H → Prop} {hd : Nat → Option Nat} {zs : Nat → Nat} {el : Nat → Int64} (hS : ShR 32 hd zs el I J) (ho : hok hd zs) {s : Nat} (hs : s < 8) (k : Q (some (.int (nI (hsz hd zs s)))) (S0, F, I, J)) : Wp mX3_sizeOf (d + 3) 0 0 0 (sm_ini [.ref 31, .int (nI s)] 2) [] (S0, F, I, J) Q := by
  show Wp _ _ _ _ _ [.ref 31, .int (nI s)] _ _ _
  refine wp_aload_n (pc := 0) 0 dX3_sizeOf_0 rfl rfl ?_
  refine wp_iload_n (pc := 1) 1 dX3_sizeOf_1 rfl rfl ?_
  refine wc_V_I (pc := 2) dX3_sizeOf_2 lkX3_37 (sm_Rc.o (ci := 2) s0_31 (by decide) (by decide)) (by decide) (Nat.le_of_ble_eq_true rfl) ?_
  refine c_X3_hasRow_i hS ho hs ?_
  refine wp_ifeqB (pc := 5) 19 dX3_sizeOf_5 (by decide) (fun c_5 => ?_) (fun c_5 => ?_)
  · refine wp_iconst (pc := 19) (0) dX3_sizeOf_19 (by decide) ?_
    refine wp_iretI (pc := 20) dX3_sizeOf_20 rfl ?_
    rw [show hsz hd zs s = 0 from if_neg (by rw [c_5]; decide)] at k; exact k
  · refine wp_aload_n (pc := 8) 0 dX3_sizeOf_8 rfl rfl ?_
    refine wq_getR (pc := 9) 15 1 dX3_sizeOf_9 s0_31 flX3_15 rfl rfl (by decide) (by decide) ?_
    refine wp_iload_n (pc := 12) 1 dX3_sizeOf_12 rfl rfl ?_
    refine wc_SN_RI (pc := 13) dX3_sizeOf_13 lkX3_26 (by decide) (Nat.le_of_ble_eq_true rfl) ?_
    refine c_X6_at s0_33 (by decide) (by decide) hs ?_
    refine wp_int (hS.2.1 s hs) ?_
    refine wp_goto (pc := 16) 20 dX3_sizeOf_16 (by decide) ?_
    refine wp_iretI (pc := 20) dX3_sizeOf_20 rfl ?_
    rw [show hsz hd zs s = zs s from if_pos c_5] at k; exact k
theorem c_X3_sizeOf_o {d : Nat} {F I : Nat → Nat → Int32} {J : Nat → Nat → Int64} {Q : Option Value → sm_H → Prop} {x : Int32} (hx : ¬ (0 ≤ x ∧ x < 8)) (k : Q (some (.int (0))) (S0, F, I, J)) : Wp mX3_sizeOf (d + 3) 0 0 0 (sm_ini [.ref 31, .int x] 2) [] (S0, F, I, J) Q := by
  show Wp _ _ _ _ _ [.ref 31, .int x] _ _ _
  refine wp_aload_n (pc := 0) 0 dX3_sizeOf_0 rfl rfl ?_
  refine wp_iload_n (pc := 1) 1 dX3_sizeOf_1 rfl rfl ?_
  refine wc_V_I (pc := 2) dX3_sizeOf_2 lkX3_37 (sm_Rc.o (ci := 2) s0_31 (by decide) (by decide)) (by decide) (Nat.le_of_ble_eq_true rfl) ?_
  refine c_X3_hasRow_o hx ?_
  refine wp_ifeq (pc := 5) 19 dX3_sizeOf_5 (by decide) (fun c_5 => ?_) (fun c_5 => ?_)
  · refine wp_iconst (pc := 19) (0) dX3_sizeOf_19 (by decide) ?_
    refine wp_iretI (pc := 20) dX3_sizeOf_20 rfl ?_
    exact k
  · exact absurd (by decide) c_5
theorem c_X3_elementAt_i {d : Nat} {F I : Nat → Nat → Int32} {J : Nat → Nat → Int64} {Q : Option Value → sm_H → Prop} {hd : Nat → Option Nat} {zs : Nat → Nat} {el : Nat → Int64} (hS : ShR 32 hd zs el I J) (ho : hok hd zs) {s : Nat} (hs : s < 8) {i : Nat} (hi : i < 2 ^ 31) (k : Q (some (.long (elA hd zs el s i))) (S0, F, I, J)) : Wp mX3_elementAt (d + 4) 0 0 0 (sm_ini [.ref 31, .int (nI s), .int (nI i)] 4) [] (S0, F, I, J) Q := by
  show Wp _ _ _ _ _ [.ref 31, .int (nI s), .int (nI i), .null] _ _ _
  have hz := hsz_le ho s
  refine wp_iload_n (pc := 0) 2 dX3_elementAt_0 rfl rfl ?_
  refine wp_iflt (pc := 1) 13 dX3_elementAt_1 (by decide) (fun c_1 => ?_) (fun c_1 => ?_)
  · exact absurd c_1 (nI_pos hi)
  · refine wp_iload_n (pc := 4) 2 dX3_elementAt_4 rfl rfl ?_
    refine wp_aload_n (pc := 5) 0 dX3_elementAt_5 rfl rfl ?_
    refine wp_iload_n (pc := 6) 1 dX3_elementAt_6 rfl rfl ?_
    refine wc_V_I (pc := 7) dX3_elementAt_7 lkX3_40 (sm_Rc.o (ci := 2) s0_31 (by decide) (by decide)) (by decide) (Nat.le_of_ble_eq_true rfl) ?_
    refine c_X3_sizeOf_i hS ho hs ?_
    refine wp_icmp_lt (pc := 10) 15 dX3_elementAt_10 (by decide) (fun c_10 => ?_) (fun c_10 => ?_)
    · have hlt := (nI_ltI hi (by omega)).mp c_10
      refine wp_iload_n (pc := 15) 1 dX3_elementAt_15 rfl rfl ?_
      refine wp_bipush (pc := 16) (40) dX3_elementAt_16 (by decide) ?_
      refine wp_imul (pc := 18) dX3_elementAt_18 ?_
      refine wp_int (nI_mul s 40) ?_
      refine wp_iload_n (pc := 19) 2 dX3_elementAt_19 rfl rfl ?_
      refine wp_iadd (pc := 20) dX3_elementAt_20 ?_
      refine wp_int (nI_add _ _) ?_
      refine wp_istore_n (pc := 21) 3 dX3_elementAt_21 rfl (by decide) rfl ?_
      refine wp_iload_n (pc := 22) 3 dX3_elementAt_22 rfl rfl ?_
      refine wp_iflt (pc := 23) 44 dX3_elementAt_23 (by decide) (fun c_23 => ?_) (fun c_23 => ?_)
      · exact absurd c_23 (nI_pos (by omega))
      · refine wp_iload_n (pc := 26) 3 dX3_elementAt_26 rfl rfl ?_
        refine wp_aload_n (pc := 27) 0 dX3_elementAt_27 rfl rfl ?_
        refine wq_getR (pc := 28) 18 2 dX3_elementAt_28 s0_31 flX3_18 rfl rfl (by decide) (by decide) ?_
        refine wp_alenL (pc := 31) 320 dX3_elementAt_31 s0_34 (by decide) (by decide) ?_
        refine wp_icmp_ge (pc := 32) 44 dX3_elementAt_32 (by decide) (fun c_32 => ?_) (fun c_32 => ?_)
        · exact absurd c_32 (nI_ge (b := 320) (show s * 40 + i < 320 by omega) (by decide))
        · refine wp_aload_n (pc := 35) 0 dX3_elementAt_35 rfl rfl ?_
          refine wq_getR (pc := 36) 18 2 dX3_elementAt_36 s0_31 flX3_18 rfl rfl (by decide) (by decide) ?_
          refine wp_iload_n (pc := 39) 3 dX3_elementAt_39 rfl rfl ?_
          refine wq_lald (pc := 40) (s * 40 + i) dX3_elementAt_40 s0_34 (by decide) rfl (by omega) (by decide) ?_
          
          refine wp_goto (pc := 41) 45 dX3_elementAt_41 (by decide) ?_
          refine wp_lret (pc := 45) dX3_elementAt_45 rfl ?_
          rw [hS.2.2 (s * 40 + i) (by omega)]; rw [show elA hd zs el s i = el (s * 40 + i) from if_pos hlt] at k; exact k
    · refine wp_lconst (pc := 13) 0 dX3_elementAt_13 (by decide) ?_
      refine wp_lret (pc := 14) dX3_elementAt_14 rfl ?_
      rw [show elA hd zs el s i = 0 from if_neg (fun z => c_10 (nI_lt z (by omega)))] at k; exact k
theorem c_X3_elementAt_n {d : Nat} {F I : Nat → Nat → Int32} {J : Nat → Nat → Int64} {Q : Option Value → sm_H → Prop} {x y : Int32} (hy : y < 0) (k : Q (some (.long (0))) (S0, F, I, J)) : Wp mX3_elementAt (d + 4) 0 0 0 (sm_ini [.ref 31, .int x, .int y] 4) [] (S0, F, I, J) Q := by
  show Wp _ _ _ _ _ [.ref 31, .int x, .int y, .null] _ _ _
  refine wp_iload_n (pc := 0) 2 dX3_elementAt_0 rfl rfl ?_
  refine wp_iflt (pc := 1) 13 dX3_elementAt_1 (by decide) (fun c_1 => ?_) (fun c_1 => ?_)
  · refine wp_lconst (pc := 13) 0 dX3_elementAt_13 (by decide) ?_
    refine wp_lret (pc := 14) dX3_elementAt_14 rfl ?_
    exact k
  · exact absurd hy c_1
theorem c_X3_elementAt_o {d : Nat} {F I : Nat → Nat → Int32} {J : Nat → Nat → Int64} {Q : Option Value → sm_H → Prop} {x : Int32} (hx : ¬ (0 ≤ x ∧ x < 8)) {y : Int32} (k : Q (some (.long (0))) (S0, F, I, J)) : Wp mX3_elementAt (d + 4) 0 0 0 (sm_ini [.ref 31, .int x, .int y] 4) [] (S0, F, I, J) Q := by
  show Wp _ _ _ _ _ [.ref 31, .int x, .int y, .null] _ _ _
  refine wp_iload_n (pc := 0) 2 dX3_elementAt_0 rfl rfl ?_
  refine wp_iflt (pc := 1) 13 dX3_elementAt_1 (by decide) (fun c_1 => ?_) (fun c_1 => ?_)
  · refine wp_lconst (pc := 13) 0 dX3_elementAt_13 (by decide) ?_
    refine wp_lret (pc := 14) dX3_elementAt_14 rfl ?_
    exact k
  · refine wp_iload_n (pc := 4) 2 dX3_elementAt_4 rfl rfl ?_
    refine wp_aload_n (pc := 5) 0 dX3_elementAt_5 rfl rfl ?_
    refine wp_iload_n (pc := 6) 1 dX3_elementAt_6 rfl rfl ?_
    refine wc_V_I (pc := 7) dX3_elementAt_7 lkX3_40 (sm_Rc.o (ci := 2) s0_31 (by decide) (by decide)) (by decide) (Nat.le_of_ble_eq_true rfl) ?_
    refine c_X3_sizeOf_o hx ?_
    refine wp_icmp_lt (pc := 10) 15 dX3_elementAt_10 (by decide) (fun c_10 => ?_) (fun c_10 => ?_)
    · exact absurd c_10 c_1
    · refine wp_lconst (pc := 13) 0 dX3_elementAt_13 (by decide) ?_
      refine wp_lret (pc := 14) dX3_elementAt_14 rfl ?_
      exact k
theorem c_X3_countHeld {d : Nat} {F I : Nat → Nat → Int32} {J : Nat → Nat → Int64} {Q : Option Value → sm_H → Prop} {hd : Nat → Option Nat} {zs : Nat → Nat} {el : Nat → Int64} (hS : ShR 32 hd zs el I J) (ho : hok hd zs)  (k : Q (some (.int (nI (cnt (fun s => (hd s).isSome) 8)))) (S0, F, I, J)) : Wp mX3_countHeld (d + 2) 0 0 0 (sm_ini [.ref 31] 3) [] (S0, F, I, J) Q := by
  show Wp _ _ _ _ _ [.ref 31, .null, .null] _ _ _
  refine wp_iconst (pc := 0) (0) dX3_countHeld_0 (by decide) ?_
  refine wp_istore_n (pc := 1) 1 dX3_countHeld_1 rfl (by decide) rfl ?_
  refine wp_iconst (pc := 2) (0) dX3_countHeld_2 (by decide) ?_
  refine wp_istore_n (pc := 3) 2 dX3_countHeld_3 rfl (by decide) rfl ?_
  refine wp_loop (fun s => [.ref 31, .int (nI (cnt (fun s => (hd s).isSome) s)), .int (nI s)]) (fun _ => (S0, F, I, J)) (fun _ => True) 8 (fun s hs hv nx => ?_) (fun hv => ?_) 0 (Nat.zero_le _) trivial
  · rcases ho.c s with e | ⟨k, e, hk⟩ | ⟨k, e, hk, hk2⟩
    · refine wp_iload_n (pc := 4) 2 dX3_countHeld_4 rfl rfl ?_
      refine wp_bipush (pc := 5) (8) dX3_countHeld_5 (by decide) ?_
      refine wp_icmp_ge (pc := 7) 28 dX3_countHeld_7 (by decide) (fun c_7 => ?_) (fun c_7 => ?_)
      · exact absurd c_7 (nI_ge (b := 8) hs (by decide))
      · refine wp_aload_n (pc := 10) 0 dX3_countHeld_10 rfl rfl ?_
        refine wp_iload_n (pc := 11) 2 dX3_countHeld_11 rfl rfl ?_
        refine wc_V_I (pc := 12) dX3_countHeld_12 lkX3_30 (sm_Rc.o (ci := 2) s0_31 (by decide) (by decide)) (by decide) (Nat.le_of_ble_eq_true rfl) ?_
        refine c_X3_heldIn_i hS ho hs ?_
        refine wp_int (y := -1) (by rw [e]; rfl) ?_
        refine wp_iconst (pc := 15) (-1) dX3_countHeld_15 (by decide) ?_
        refine wp_icmp_eq (pc := 16) 22 dX3_countHeld_16 (by decide) (fun c_16 => ?_) (fun c_16 => ?_)
        · refine wp_incN (pc := 22) 2 dX3_countHeld_22 rfl (by decide) rfl ?_
          refine wp_goto (pc := 25) 4 dX3_countHeld_25 (by decide) ?_
          have nx := nx trivial
          rw [cnt_f (p := (fun s => (hd s).isSome)) (by simp only [e]; rfl)] at nx
          exact nx
        · exact absurd (by decide) c_16
    · refine wp_iload_n (pc := 4) 2 dX3_countHeld_4 rfl rfl ?_
      refine wp_bipush (pc := 5) (8) dX3_countHeld_5 (by decide) ?_
      refine wp_icmp_ge (pc := 7) 28 dX3_countHeld_7 (by decide) (fun c_7 => ?_) (fun c_7 => ?_)
      · exact absurd c_7 (nI_ge (b := 8) hs (by decide))
      · refine wp_aload_n (pc := 10) 0 dX3_countHeld_10 rfl rfl ?_
        refine wp_iload_n (pc := 11) 2 dX3_countHeld_11 rfl rfl ?_
        refine wc_V_I (pc := 12) dX3_countHeld_12 lkX3_30 (sm_Rc.o (ci := 2) s0_31 (by decide) (by decide)) (by decide) (Nat.le_of_ble_eq_true rfl) ?_
        refine c_X3_heldIn_i hS ho hs ?_
        refine wp_int (y := nI k) (by rw [e]; rfl) ?_
        refine wp_iconst (pc := 15) (-1) dX3_countHeld_15 (by decide) ?_
        refine wp_icmp_eq (pc := 16) 22 dX3_countHeld_16 (by decide) (fun c_16 => ?_) (fun c_16 => ?_)
        · exact absurd c_16 (m1_ne (by omega))
        · refine wp_incN (pc := 19) 1 dX3_countHeld_19 rfl (by decide) rfl ?_
          refine wp_incN (pc := 22) 2 dX3_countHeld_22 rfl (by decide) rfl ?_
          refine wp_goto (pc := 25) 4 dX3_countHeld_25 (by decide) ?_
          have nx := nx trivial
          rw [cnt_t (p := (fun s => (hd s).isSome)) (by simp only [e]; rfl)] at nx
          exact nx
    · refine wp_iload_n (pc := 4) 2 dX3_countHeld_4 rfl rfl ?_
      refine wp_bipush (pc := 5) (8) dX3_countHeld_5 (by decide) ?_
      refine wp_icmp_ge (pc := 7) 28 dX3_countHeld_7 (by decide) (fun c_7 => ?_) (fun c_7 => ?_)
      · exact absurd c_7 (nI_ge (b := 8) hs (by decide))
      · refine wp_aload_n (pc := 10) 0 dX3_countHeld_10 rfl rfl ?_
        refine wp_iload_n (pc := 11) 2 dX3_countHeld_11 rfl rfl ?_
        refine wc_V_I (pc := 12) dX3_countHeld_12 lkX3_30 (sm_Rc.o (ci := 2) s0_31 (by decide) (by decide)) (by decide) (Nat.le_of_ble_eq_true rfl) ?_
        refine c_X3_heldIn_i hS ho hs ?_
        refine wp_int (y := nI k) (by rw [e]; rfl) ?_
        refine wp_iconst (pc := 15) (-1) dX3_countHeld_15 (by decide) ?_
        refine wp_icmp_eq (pc := 16) 22 dX3_countHeld_16 (by decide) (fun c_16 => ?_) (fun c_16 => ?_)
        · exact absurd c_16 (m1_ne (by omega))
        · refine wp_incN (pc := 19) 1 dX3_countHeld_19 rfl (by decide) rfl ?_
          refine wp_incN (pc := 22) 2 dX3_countHeld_22 rfl (by decide) rfl ?_
          refine wp_goto (pc := 25) 4 dX3_countHeld_25 (by decide) ?_
          have nx := nx trivial
          rw [cnt_t (p := (fun s => (hd s).isSome)) (by simp only [e]; rfl)] at nx
          exact nx
  · refine wp_iload_n (pc := 4) 2 dX3_countHeld_4 rfl rfl ?_
    refine wp_bipush (pc := 5) (8) dX3_countHeld_5 (by decide) ?_
    refine wp_icmp_ge (pc := 7) 28 dX3_countHeld_7 (by decide) (fun c_7 => ?_) (fun c_7 => ?_)
    · refine wp_iload_n (pc := 28) 1 dX3_countHeld_28 rfl rfl ?_
      refine wp_iretI (pc := 29) dX3_countHeld_29 rfl ?_
      exact k
    · exact absurd (by decide) c_7
