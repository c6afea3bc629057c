/-! ===== constructors: from no cells to both objects ===== -/
theorem oi_inst : Cond.instanceMethod Lib.objectInit ∈ sm_Ts := sm_tin 22 (by decide +kernel) (by decide +kernel)
theorem oi_code : Cond.code Lib.objectInit ⟨#[0xb1]⟩ 1 none ∈ sm_Ts := sm_tin 23 (by decide +kernel) (by decide +kernel)
theorem ob_RX6 : Cond.methodLink RX6 1 Lib.objectInit ∈ sm_Ts := sm_tin 21 (by decide +kernel) (by decide +kernel)
theorem ob_RX5 : Cond.methodLink RX5 3 Lib.objectInit ∈ sm_Ts := sm_tin 29 (by decide +kernel) (by decide +kernel)
theorem ob_RX0 : Cond.methodLink RX0 3 Lib.objectInit ∈ sm_Ts := sm_tin 35 (by decide +kernel) (by decide +kernel)
theorem ob_RX3 : Cond.methodLink RX3 3 Lib.objectInit ∈ sm_Ts := sm_tin 108 (by decide +kernel) (by decide +kernel)
theorem ob_RX4 : Cond.methodLink RX4 3 Lib.objectInit ∈ sm_Ts := sm_tin 125 (by decide +kernel) (by decide +kernel)
theorem ob_RX2 : Cond.methodLink RX2 3 Lib.objectInit ∈ sm_Ts := sm_tin 139 (by decide +kernel) (by decide +kernel)
theorem ob_RX7 : Cond.methodLink RX7 1 Lib.objectInit ∈ sm_Ts := sm_tin 1017 (by decide +kernel) (by decide +kernel)
theorem wp_obj {M : sm_M} {d mc ms pc idx k : Nat} {lv st : List Value} {h : sm_H} {Q : Option Value → sm_H → Prop} (hdg : decode M.2.1 pc = .ok (.invokespecial idx, 3)) (hl : Cond.methodLink M.1.cls idx Lib.objectInit ∈ sm_Ts) (hr : (st.map fun v => v.category).sum ≤ 8) (hd : 1 ≤ d)
    (kk : Wp M d mc ms (pc + 3) lv st h Q) : Wp M d mc ms pc lv (.ref k :: st) h Q := by
  intro X p l e_ R s m args below meth c H locs cells slots QQ ls F hP hS hL hk
  obtain ⟨f1, f2, f3, f4, f5, f6, f7, f8, f9, f10, f11⟩ := id F
  exact W.objInit (g := F0 m pc ls ((.ref k :: st).map (sm_v X))) f1 f2 f5 (f8 _ hl) (f8 _ oi_inst) (f8 _ oi_code) rfl (hL.1.trans f3.symm) rfl hdg (by omega) (by have := sm_cats X hr; show 2 * 0 + _ + 12 ≤ _; omega) (kk X p l e_ R s m args below meth c H locs cells slots QQ ls F hP hS hL hk)
theorem wq_cast {M : sm_M} {d mc ms pc k N : Nat} {r : List (Option Nat)} {lv st : List Value} {S : sm_S} {F I : Nat → Nat → Int32} {J : Nat → Nat → Int64} {Q : Option Value → sm_H → Prop} {i x : Int32} (n : Nat) (v : Int32) (hdg : decode M.2.1 pc = .ok (.castore, 1)) (hs : S[k]? = some (3, N, r)) (k9 : k < 900) (hi : i = nI n) (hn : n < N) (hN : N < 2 ^ 31) (hv : vp_nar .char x = v)
    (kk : Wp M d mc ms (pc + 1) lv st (S, F, sm_up I k n v, J) Q) : Wp M d mc ms pc lv (.int x :: .int i :: .ref k :: st) (S, F, I, J) Q := by
  subst hi hv
  refine wp_castore hdg hs k9 (vp_in_nI hn hN) ?_
  rw [nI_clamp (by omega)]
  exact kk
theorem wp_cnt {M : sm_M} {d mc ms mc1 ms1 pc : Nat} {lv st : List Value} {h : sm_H} {Q : Option Value → sm_H → Prop} (e1 : mc = mc1) (e2 : ms = ms1) (k : Wp M d mc1 ms1 pc lv st h Q) : Wp M d mc ms pc lv st h Q := by subst e1 e2; exact k
def f0 : rw_ := fun x => if x = 73 then 1 else 0
theorem bn_f0 : bn f0 = 0 := by decide
def CW (I : Nat → Nat → Int32) (n : Nat) : Nat → Nat → Int32 := fun a b => if a = 46 ∧ b < n then nI (wd7 b) else I a b
theorem cw_0 (I : Nat → Nat → Int32) : CW I 0 = I := by funext a b; exact if_neg (by omega)
theorem cw_s (I : Nat → Nat → Int32) (n : Nat) : sm_up (CW I n) 46 n (nI (wd7 n)) = CW I (n + 1) := by
  funext a b
  simp only [sm_up, CW]
  by_cases h : a = 46 ∧ b = n
  · rw [if_pos h, if_pos ⟨h.1, by omega⟩, h.2]
  · rw [if_neg h]
    by_cases h2 : a = 46 ∧ b < n
    · rw [if_pos h2, if_pos ⟨h2.1, by omega⟩]
    · rw [if_neg h2, if_neg (by omega)]
theorem cw_h {Z : sm_S} {F I : Nat → Nat → Int32} {J : Nat → Nat → Int64} (n : Nat) : (Z, F, sm_up (CW I n) 46 n (nI (wd7 n)), J) = (Z, F, CW I (n + 1), J) := by rw [cw_s]
theorem cw_h0 {Z : sm_S} {F I : Nat → Nat → Int32} {J : Nat → Nat → Int64} : (Z, F, sm_up I 46 0 (nI (wd7 0)), J) = (Z, F, CW I 1, J) := by rw [← cw_s, cw_0]
theorem df_0 : ∀ j, j < sm_N 0 → defaultValue (sm_ty 0 j) = if sm_isR (sm_ty 0 j) = true then .null else .int 0 := fun j hj => by
  have hj : j < 4 := hj
  rcases (show j = 0 ∨ j = 1 ∨ j = 2 ∨ j = 3 by omega) with rfl | rfl | rfl | rfl <;> rfl
theorem df_1 : ∀ j, j < sm_N 1 → defaultValue (sm_ty 1 j) = if sm_isR (sm_ty 1 j) = true then .null else .int 0 := fun j hj => by
  have hj : j < 6 := hj
  rcases (show j = 0 ∨ j = 1 ∨ j = 2 ∨ j = 3 ∨ j = 4 ∨ j = 5 by omega) with rfl | rfl | rfl | rfl | rfl | rfl <;> rfl
theorem df_2 : ∀ j, j < sm_N 2 → defaultValue (sm_ty 2 j) = if sm_isR (sm_ty 2 j) = true then .null else .int 0 := fun j hj => by
  have hj : j < 3 := hj
  rcases (show j = 0 ∨ j = 1 ∨ j = 2 by omega) with rfl | rfl | rfl <;> rfl
theorem df_3 : ∀ j, j < sm_N 3 → defaultValue (sm_ty 3 j) = if sm_isR (sm_ty 3 j) = true then .null else .int 0 := fun j hj => by
  have hj : j < 2 := hj
  rcases (show j = 0 ∨ j = 1 by omega) with rfl | rfl <;> rfl
theorem df_4 : ∀ j, j < sm_N 4 → defaultValue (sm_ty 4 j) = if sm_isR (sm_ty 4 j) = true then .null else .int 0 := fun j hj => by
  have hj : j < 12 := hj
  rcases (show j = 0 ∨ j = 1 ∨ j = 2 ∨ j = 3 ∨ j = 4 ∨ j = 5 ∨ j = 6 ∨ j = 7 ∨ j = 8 ∨ j = 9 ∨ j = 10 ∨ j = 11 by omega) with rfl | rfl | rfl | rfl | rfl | rfl | rfl | rfl | rfl | rfl | rfl | rfl <;> rfl
theorem df_5 : ∀ j, j < sm_N 5 → defaultValue (sm_ty 5 j) = if sm_isR (sm_ty 5 j) = true then .null else .int 0 := fun j hj => by
  have hj : j < 8 := hj
  rcases (show j = 0 ∨ j = 1 ∨ j = 2 ∨ j = 3 ∨ j = 4 ∨ j = 5 ∨ j = 6 ∨ j = 7 by omega) with rfl | rfl | rfl | rfl | rfl | rfl | rfl | rfl <;> rfl
theorem df_6 : ∀ j, j < sm_N 6 → defaultValue (sm_ty 6 j) = if sm_isR (sm_ty 6 j) = true then .null else .int 0 := fun j hj => by
  have hj : j < 18 := hj
  rcases (show j = 0 ∨ j = 1 ∨ j = 2 ∨ j = 3 ∨ j = 4 ∨ j = 5 ∨ j = 6 ∨ j = 7 ∨ j = 8 ∨ j = 9 ∨ j = 10 ∨ j = 11 ∨ j = 12 ∨ j = 13 ∨ j = 14 ∨ j = 15 ∨ j = 16 ∨ j = 17 by omega) with rfl | rfl | rfl | rfl | rfl | rfl | rfl | rfl | rfl | rfl | rfl | rfl | rfl | rfl | rfl | rfl | rfl | rfl <;> rfl
theorem c_X7_fresh {d : Nat} {S : sm_S} {F I : Nat → Nat → Int32} {J : Nat → Nat → Int64} {Q : Option Value → sm_H → Prop} {n : Nat} (hn : S.length = n) (h9 : n < 900) (k : Q (some (.ref n)) (S ++ [(1, 74, [])], F, sm_up (sm_ups I n (fun _ => 0)) n 73 1, J)) : Wp mX7_fresh d 1 74 0 (sm_ini [] 1) [] (S, F, I, J) Q := by
  subst hn
  show Wp _ _ _ _ _ [.null] _ _ _
  refine wp_bipush (pc := 0) (74) dX7_fresh_0 (by decide) ?_
  refine wp_newI (pc := 2) (mc := 0) (ms := 0) 74 dX7_fresh_2 (by decide) (by decide) (by decide) ar_int h9 ?_
  refine wp_astore_n (pc := 4) 0 dX7_fresh_4 rfl (by decide) rfl ?_
  refine wp_aload_n (pc := 5) 0 dX7_fresh_5 rfl rfl ?_
  refine wp_bipush (pc := 6) (73) dX7_fresh_6 (by decide) ?_
  refine wp_iconst (pc := 8) (1) dX7_fresh_8 (by decide) ?_
  refine wq_iast (pc := 9) (N := 74) (r := []) 73 dX7_fresh_9 (by simp) h9 rfl (by decide) (by decide) ?_
  refine wp_aload_n (pc := 10) 0 dX7_fresh_10 rfl rfl ?_
  refine wp_aret (pc := 11) dX7_fresh_11 ⟨_, rfl, Or.inr ⟨_, rfl⟩⟩ ?_
  exact k
def Z_0 : sm_S := [(0, 5, [none, none, none, none, none, none, none, none])]
def Z_1 : sm_S := [(0, 5, [none, none, none, none, none, none, none, none]), (0, 4, [none, none, none, none, none, none, none, none, none, none, none, none])]
def Z_2 : sm_S := [(0, 5, [none, none, none, none, none, none, none, none]), (0, 4, [none, none, none, none, none, none, none, none, none, none, none, none]), (1, 10, [])]
def Z_3 : sm_S := [(0, 5, [none, none, none, none, none, none, none, none]), (0, 4, [none, some 2, none, none, none, none, none, none, none, none, none, none]), (1, 10, [])]
def Z_4 : sm_S := [(0, 5, [none, none, none, none, none, none, none, none]), (0, 4, [none, some 2, none, none, none, none, none, none, none, none, none, none]), (1, 10, []), (1, 10, [])]
def Z_5 : sm_S := [(0, 5, [none, none, none, none, none, none, none, none]), (0, 4, [none, some 2, some 3, none, none, none, none, none, none, none, none, none]), (1, 10, []), (1, 10, [])]
def Z_6 : sm_S := [(0, 5, [none, none, none, none, none, none, none, none]), (0, 4, [none, some 2, some 3, none, none, none, none, none, none, none, none, none]), (1, 10, []), (1, 10, []), (1, 10, [])]
def Z_7 : sm_S := [(0, 5, [none, none, none, none, none, none, none, none]), (0, 4, [none, some 2, some 3, some 4, none, none, none, none, none, none, none, none]), (1, 10, []), (1, 10, []), (1, 10, [])]
def Z_8 : sm_S := [(0, 5, [none, none, none, none, none, none, none, none]), (0, 4, [none, some 2, some 3, some 4, none, none, none, none, none, none, none, none]), (1, 10, []), (1, 10, []), (1, 10, []), (1, 10, [])]
def Z_9 : sm_S := [(0, 5, [none, none, none, none, none, none, none, none]), (0, 4, [none, some 2, some 3, some 4, some 5, none, none, none, none, none, none, none]), (1, 10, []), (1, 10, []), (1, 10, []), (1, 10, [])]
def Z_10 : sm_S := [(0, 5, [none, none, none, none, none, none, none, none]), (0, 4, [none, some 2, some 3, some 4, some 5, none, none, none, none, none, none, none]), (1, 10, []), (1, 10, []), (1, 10, []), (1, 10, []), (0, 0, [none, none, none, none])]
def Z_11 : sm_S := [(0, 5, [none, none, none, none, none, none, none, none]), (0, 4, [none, some 2, some 3, some 4, some 5, none, none, none, none, none, none, none]), (1, 10, []), (1, 10, []), (1, 10, []), (1, 10, []), (0, 0, [none, none, none, none]), (1, 6, [])]
def Z_12 : sm_S := [(0, 5, [none, none, none, none, none, none, none, none]), (0, 4, [none, some 2, some 3, some 4, some 5, none, none, none, none, none, none, none]), (1, 10, []), (1, 10, []), (1, 10, []), (1, 10, []), (0, 0, [none, some 7, none, none]), (1, 6, [])]
def Z_13 : sm_S := [(0, 5, [none, none, none, none, none, none, none, none]), (0, 4, [none, some 2, some 3, some 4, some 5, none, none, none, none, none, none, none]), (1, 10, []), (1, 10, []), (1, 10, []), (1, 10, []), (0, 0, [none, some 7, none, none]), (1, 6, []), (1, 6, [])]
def Z_14 : sm_S := [(0, 5, [none, none, none, none, none, none, none, none]), (0, 4, [none, some 2, some 3, some 4, some 5, none, none, none, none, none, none, none]), (1, 10, []), (1, 10, []), (1, 10, []), (1, 10, []), (0, 0, [none, some 7, some 8, none]), (1, 6, []), (1, 6, [])]
def Z_15 : sm_S := [(0, 5, [none, none, none, none, none, none, none, none]), (0, 4, [none, some 2, some 3, some 4, some 5, none, none, none, none, none, none, none]), (1, 10, []), (1, 10, []), (1, 10, []), (1, 10, []), (0, 0, [none, some 7, some 8, none]), (1, 6, []), (1, 6, []), (1, 6, [])]
def Z_16 : sm_S := [(0, 5, [none, none, none, none, none, none, none, none]), (0, 4, [none, some 2, some 3, some 4, some 5, none, none, none, none, none, none, none]), (1, 10, []), (1, 10, []), (1, 10, []), (1, 10, []), (0, 0, [none, some 7, some 8, some 9]), (1, 6, []), (1, 6, []), (1, 6, [])]
theorem i_X0_6 {d : Nat} {F I : Nat → Nat → Int32} {J : Nat → Nat → Int64} {Q : Option Value → sm_H → Prop} (k : ∀ F1 I1 : Nat → Nat → Int32, F1 6 0 = 0 → (∀ j, I1 7 j = 0 ∧ I1 8 j = 0 ∧ I1 9 j = 0) → (∀ a, a ≠ 6 → F1 a = F a) → (∀ a, a < 7 ∨ 9 < a → I1 a = I a) → Q none (Z_16, F1, I1, J)) : Wp mX0_init (d + 1) 3 18 0 (sm_ini [.ref 6] 1) [] (Z_10, F, I, J) Q := by
  show Wp _ _ _ _ _ [.ref 6] _ _ _
  refine wp_aload_n (pc := 0) 0 dX0_init_0 rfl rfl ?_
  refine wp_obj (pc := 1) dX0_init_1 ob_RX0 (by decide) (by omega) ?_
  refine wp_aload_n (pc := 4) 0 dX0_init_4 rfl rfl ?_
  refine wp_iconst (pc := 5) (0) dX0_init_5 (by decide) ?_
  refine wq_putI (pc := 6) (ci := 0) (refs := [none, none, none, none]) 9 0 dX0_init_6 rfl flX0_9 rfl rfl (by decide) ?_
  refine wp_aload_n (pc := 9) 0 dX0_init_9 rfl rfl ?_
  refine wp_bipush (pc := 10) (6) dX0_init_10 (by decide) ?_
  refine wp_newI (pc := 12) (mc := 2) (ms := 12) 6 dX0_init_12 (by decide) (by decide) (by decide) ar_int (show Z_10.length < 900 by decide) ?_
  refine wp_to (st' := [.ref 7, .ref 6]) (h' := (Z_11, (sm_up F 6 0 (0)), (sm_ups I 7 (fun _ => 0)), J)) ?_ rfl rfl rfl
  refine wp_putR (pc := 14) (ci := 0) (refs := [none, none, none, none]) 15 1 dX0_init_14 rfl flX0_15 rfl rfl rfl rfl (fun _ => ⟨rfl, rfl⟩) (by decide) (by decide) (by decide) ?_
  refine wp_to (h' := (Z_12, (sm_up F 6 0 (0)), (sm_ups I 7 (fun _ => 0)), J)) ?_ rfl rfl rfl
  refine wp_aload_n (pc := 17) 0 dX0_init_17 rfl rfl ?_
  refine wp_bipush (pc := 18) (6) dX0_init_18 (by decide) ?_
  refine wp_newI (pc := 20) (mc := 1) (ms := 6) 6 dX0_init_20 (by decide) (by decide) (by decide) ar_int (show Z_12.length < 900 by decide) ?_
  refine wp_to (st' := [.ref 8, .ref 6]) (h' := (Z_13, (sm_up F 6 0 (0)), (sm_ups (sm_ups I 7 (fun _ => 0)) 8 (fun _ => 0)), J)) ?_ rfl rfl rfl
  refine wp_putR (pc := 22) (ci := 0) (refs := [none, some 7, none, none]) 19 2 dX0_init_22 rfl flX0_19 rfl rfl rfl rfl (fun _ => ⟨rfl, rfl⟩) (by decide) (by decide) (by decide) ?_
  refine wp_to (h' := (Z_14, (sm_up F 6 0 (0)), (sm_ups (sm_ups I 7 (fun _ => 0)) 8 (fun _ => 0)), J)) ?_ rfl rfl rfl
  refine wp_aload_n (pc := 25) 0 dX0_init_25 rfl rfl ?_
  refine wp_bipush (pc := 26) (6) dX0_init_26 (by decide) ?_
  refine wp_newI (pc := 28) (mc := 0) (ms := 0) 6 dX0_init_28 (by decide) (by decide) (by decide) ar_int (show Z_14.length < 900 by decide) ?_
  refine wp_to (st' := [.ref 9, .ref 6]) (h' := (Z_15, (sm_up F 6 0 (0)), (sm_ups (sm_ups (sm_ups I 7 (fun _ => 0)) 8 (fun _ => 0)) 9 (fun _ => 0)), J)) ?_ rfl rfl rfl
  refine wp_putR (pc := 30) (ci := 0) (refs := [none, some 7, some 8, none]) 22 3 dX0_init_30 rfl flX0_22 rfl rfl rfl rfl (fun _ => ⟨rfl, rfl⟩) (by decide) (by decide) (by decide) ?_
  refine wp_to (h' := (Z_16, (sm_up F 6 0 (0)), (sm_ups (sm_ups (sm_ups I 7 (fun _ => 0)) 8 (fun _ => 0)) 9 (fun _ => 0)), J)) ?_ rfl rfl rfl
  refine wp_ret (pc := 33) dX0_init_33 rfl ?_
  exact k _ _ up_eq (fun j => ⟨by simp [sm_ups], by simp [sm_ups], by simp [sm_ups]⟩) (fun a ha => sm_up_ne ha) (fun a ha => by funext j; simp [sm_ups, show a ≠ 7 by omega, show a ≠ 8 by omega, show a ≠ 9 by omega])
def Z_17 : sm_S := [(0, 5, [none, none, none, none, none, none, none, none]), (0, 4, [none, some 2, some 3, some 4, some 5, none, none, none, none, none, some 6, none]), (1, 10, []), (1, 10, []), (1, 10, []), (1, 10, []), (0, 0, [none, some 7, some 8, some 9]), (1, 6, []), (1, 6, []), (1, 6, [])]
def Z_18 : sm_S := [(0, 5, [none, none, none, none, none, none, none, none]), (0, 4, [none, some 2, some 3, some 4, some 5, none, none, none, none, none, some 6, none]), (1, 10, []), (1, 10, []), (1, 10, []), (1, 10, []), (0, 0, [none, some 7, some 8, some 9]), (1, 6, []), (1, 6, []), (1, 6, []), (1, 10, [])]
def Z_19 : sm_S := [(0, 5, [none, none, none, none, none, none, none, none]), (0, 4, [none, some 2, some 3, some 4, some 5, none, none, none, none, none, some 6, some 10]), (1, 10, []), (1, 10, []), (1, 10, []), (1, 10, []), (0, 0, [none, some 7, some 8, some 9]), (1, 6, []), (1, 6, []), (1, 6, []), (1, 10, [])]
theorem i_X5_1 {d : Nat} {F I : Nat → Nat → Int32} {J : Nat → Nat → Int64} {Q : Option Value → sm_H → Prop} (k : ∀ F1 I1 : Nat → Nat → Int32, Tw 1 f0 F1 I1 → (∀ a, a < 1 ∨ 10 < a → F1 a = F a ∧ I1 a = I a) → Q none (Z_19, F1, I1, J)) : Wp mX5_init (d + 2) 9 72 0 (sm_ini [.ref 1] 1) [] (Z_1, F, I, J) Q := by
  show Wp _ _ _ _ _ [.ref 1] _ _ _
  refine wp_aload_n (pc := 0) 0 dX5_init_0 rfl rfl ?_
  refine wp_obj (pc := 1) dX5_init_1 ob_RX5 (by decide) (by omega) ?_
  refine wp_aload_n (pc := 4) 0 dX5_init_4 rfl rfl ?_
  refine wp_iconst (pc := 5) (0) dX5_init_5 (by decide) ?_
  refine wq_putI (pc := 6) (ci := 4) (refs := [none, none, none, none, none, none, none, none, none, none, none, none]) 9 0 dX5_init_6 rfl flX5_9 rfl rfl (by decide) ?_
  refine wp_aload_n (pc := 9) 0 dX5_init_9 rfl rfl ?_
  refine wp_bipush (pc := 10) (10) dX5_init_10 (by decide) ?_
  refine wp_newI (pc := 12) (mc := 8) (ms := 62) 10 dX5_init_12 (by decide) (by decide) (by decide) ar_int (show Z_1.length < 900 by decide) ?_
  refine wp_to (st' := [.ref 2, .ref 1]) (h' := (Z_2, (sm_up F 1 0 (0)), (sm_ups I 2 (fun _ => 0)), J)) ?_ rfl rfl rfl
  refine wp_putR (pc := 14) (ci := 4) (refs := [none, none, none, none, none, none, none, none, none, none, none, none]) 15 1 dX5_init_14 rfl flX5_15 rfl rfl rfl rfl (fun _ => ⟨rfl, rfl⟩) (by decide) (by decide) (by decide) ?_
  refine wp_to (h' := (Z_3, (sm_up F 1 0 (0)), (sm_ups I 2 (fun _ => 0)), J)) ?_ rfl rfl rfl
  refine wp_aload_n (pc := 17) 0 dX5_init_17 rfl rfl ?_
  refine wp_bipush (pc := 18) (10) dX5_init_18 (by decide) ?_
  refine wp_newI (pc := 20) (mc := 7) (ms := 52) 10 dX5_init_20 (by decide) (by decide) (by decide) ar_int (show Z_3.length < 900 by decide) ?_
  refine wp_to (st' := [.ref 3, .ref 1]) (h' := (Z_4, (sm_up F 1 0 (0)), (sm_ups (sm_ups I 2 (fun _ => 0)) 3 (fun _ => 0)), J)) ?_ rfl rfl rfl
  refine wp_putR (pc := 22) (ci := 4) (refs := [none, some 2, none, none, none, none, none, none, none, none, none, none]) 19 2 dX5_init_22 rfl flX5_19 rfl rfl rfl rfl (fun _ => ⟨rfl, rfl⟩) (by decide) (by decide) (by decide) ?_
  refine wp_to (h' := (Z_5, (sm_up F 1 0 (0)), (sm_ups (sm_ups I 2 (fun _ => 0)) 3 (fun _ => 0)), J)) ?_ rfl rfl rfl
  refine wp_aload_n (pc := 25) 0 dX5_init_25 rfl rfl ?_
  refine wp_bipush (pc := 26) (10) dX5_init_26 (by decide) ?_
  refine wp_newI (pc := 28) (mc := 6) (ms := 42) 10 dX5_init_28 (by decide) (by decide) (by decide) ar_int (show Z_5.length < 900 by decide) ?_
  refine wp_to (st' := [.ref 4, .ref 1]) (h' := (Z_6, (sm_up F 1 0 (0)), (sm_ups (sm_ups (sm_ups I 2 (fun _ => 0)) 3 (fun _ => 0)) 4 (fun _ => 0)), J)) ?_ rfl rfl rfl
  refine wp_putR (pc := 30) (ci := 4) (refs := [none, some 2, some 3, none, none, none, none, none, none, none, none, none]) 22 3 dX5_init_30 rfl flX5_22 rfl rfl rfl rfl (fun _ => ⟨rfl, rfl⟩) (by decide) (by decide) (by decide) ?_
  refine wp_to (h' := (Z_7, (sm_up F 1 0 (0)), (sm_ups (sm_ups (sm_ups I 2 (fun _ => 0)) 3 (fun _ => 0)) 4 (fun _ => 0)), J)) ?_ rfl rfl rfl
  refine wp_aload_n (pc := 33) 0 dX5_init_33 rfl rfl ?_
  refine wp_bipush (pc := 34) (10) dX5_init_34 (by decide) ?_
  refine wp_newI (pc := 36) (mc := 5) (ms := 32) 10 dX5_init_36 (by decide) (by decide) (by decide) ar_int (show Z_7.length < 900 by decide) ?_
  refine wp_to (st' := [.ref 5, .ref 1]) (h' := (Z_8, (sm_up F 1 0 (0)), (sm_ups (sm_ups (sm_ups (sm_ups I 2 (fun _ => 0)) 3 (fun _ => 0)) 4 (fun _ => 0)) 5 (fun _ => 0)), J)) ?_ rfl rfl rfl
  refine wp_putR (pc := 38) (ci := 4) (refs := [none, some 2, some 3, some 4, none, none, none, none, none, none, none, none]) 25 4 dX5_init_38 rfl flX5_25 rfl rfl rfl rfl (fun _ => ⟨rfl, rfl⟩) (by decide) (by decide) (by decide) ?_
  refine wp_to (h' := (Z_9, (sm_up F 1 0 (0)), (sm_ups (sm_ups (sm_ups (sm_ups I 2 (fun _ => 0)) 3 (fun _ => 0)) 4 (fun _ => 0)) 5 (fun _ => 0)), J)) ?_ rfl rfl rfl
  refine wp_aload_n (pc := 41) 0 dX5_init_41 rfl rfl ?_
  refine wp_iconst (pc := 42) (0) dX5_init_42 (by decide) ?_
  refine wq_putI (pc := 43) (ci := 4) (refs := [none, some 2, some 3, some 4, some 5, none, none, none, none, none, none, none]) 28 5 dX5_init_43 rfl flX5_28 rfl rfl (by decide) ?_
  refine wp_aload_n (pc := 46) 0 dX5_init_46 rfl rfl ?_
  refine wp_iconst (pc := 47) (0) dX5_init_47 (by decide) ?_
  refine wq_putI (pc := 48) (ci := 4) (refs := [none, some 2, some 3, some 4, some 5, none, none, none, none, none, none, none]) 31 6 dX5_init_48 rfl flX5_31 rfl rfl (by decide) ?_
  refine wp_aload_n (pc := 51) 0 dX5_init_51 rfl rfl ?_
  refine wp_iconst (pc := 52) (0) dX5_init_52 (by decide) ?_
  refine wq_putI (pc := 53) (ci := 4) (refs := [none, some 2, some 3, some 4, some 5, none, none, none, none, none, none, none]) 34 7 dX5_init_53 rfl flX5_34 rfl rfl (by decide) ?_
  refine wp_aload_n (pc := 56) 0 dX5_init_56 rfl rfl ?_
  refine wp_iconst (pc := 57) (0) dX5_init_57 (by decide) ?_
  refine wq_putI (pc := 58) (ci := 4) (refs := [none, some 2, some 3, some 4, some 5, none, none, none, none, none, none, none]) 37 8 dX5_init_58 rfl flX5_37 rfl rfl (by decide) ?_
  refine wp_aload_n (pc := 61) 0 dX5_init_61 rfl rfl ?_
  refine wp_iconst (pc := 62) (1) dX5_init_62 (by decide) ?_
  refine wq_putI (pc := 63) (ci := 4) (refs := [none, some 2, some 3, some 4, some 5, none, none, none, none, none, none, none]) 40 9 dX5_init_63 rfl flX5_40 rfl rfl (by decide) ?_
  refine wp_aload_n (pc := 66) 0 dX5_init_66 rfl rfl ?_
  refine wp_cnt (mc1 := 4 + 1) (ms1 := 28 + sm_N 0) (by decide) (by decide) (wp_new (pc := 67) (ci := 0) dX5_init_67 (by decide) clX5_43 nw0 inRX0 (show Z_9.length < 900 by decide) df_0 ?_)
  refine wp_to (st' := [.ref 6, .ref 1]) (h' := (Z_10, (sm_ups (sm_up (sm_up (sm_up (sm_up (sm_up (sm_up F 1 0 (0)) 1 5 (0)) 1 6 (0)) 1 7 (0)) 1 8 (0)) 1 9 (1)) 6 (fun _ => 0)), (sm_ups (sm_ups (sm_ups (sm_ups I 2 (fun _ => 0)) 3 (fun _ => 0)) 4 (fun _ => 0)) 5 (fun _ => 0)), J)) ?_ rfl rfl rfl
  refine wp_dup (pc := 70) dX5_init_70 rfl ?_
  refine wp_callIN (pc := 71) (k := 6) (as := []) (st := [.ref 6, .ref 1]) (mc1 := 3) (ms1 := 18) (mc2 := 1) (ms2 := 10) dX5_init_71 lkX5_45 rfl rfl (by decide) (by decide) (by decide) (by decide) ?_
  refine i_X0_6 (d := d) (fun F1 I1 hb1 hb2 hb3 hb4 => ?_)
  refine wp_putR (pc := 74) (ci := 4) (refs := [none, some 2, some 3, some 4, some 5, none, none, none, none, none, none, none]) 46 10 dX5_init_74 rfl flX5_46 rfl rfl rfl rfl (fun _ => ⟨rfl, rfl⟩) (by decide) (by decide) (by decide) ?_
  refine wp_to (h' := (Z_17, F1, I1, J)) ?_ rfl rfl rfl
  refine wp_aload_n (pc := 77) 0 dX5_init_77 rfl rfl ?_
  refine wp_bipush (pc := 78) (10) dX5_init_78 (by decide) ?_
  refine wp_newI (pc := 80) (mc := 0) (ms := 0) 10 dX5_init_80 (by decide) (by decide) (by decide) ar_int (show Z_17.length < 900 by decide) ?_
  refine wp_to (st' := [.ref 10, .ref 1]) (h' := (Z_18, F1, (sm_ups I1 10 (fun _ => 0)), J)) ?_ rfl rfl rfl
  refine wp_putR (pc := 82) (ci := 4) (refs := [none, some 2, some 3, some 4, some 5, none, none, none, none, none, some 6, none]) 50 11 dX5_init_82 rfl flX5_50 rfl rfl rfl rfl (fun _ => ⟨rfl, rfl⟩) (by decide) (by decide) (by decide) ?_
  refine wp_to (h' := (Z_19, F1, (sm_ups I1 10 (fun _ => 0)), J)) ?_ rfl rfl rfl
  refine wp_ret (pc := 85) dX5_init_85 rfl ?_
  have hF : ∀ j, F1 1 j = _ := fun j => congrFun (hb3 1 (by decide)) j
  refine k _ _ ⟨?_, ?_, ?_, ?_, ?_, ?_, ?_, fun i hi => ⟨?_, ?_, ?_, ?_⟩, fun r hr => ⟨?_, ?_, ?_⟩⟩ (fun a ha => ⟨?_, ?_⟩)
  · rw [hF]; simp [sm_up, sm_ups]; rfl
  · rw [hF, bn_f0]; simp [sm_up, sm_ups]; rfl
  · rw [hF]; simp [sm_up, sm_ups]; rfl
  · rw [hF]; simp [sm_up, sm_ups]; rfl
  · rw [hF]; simp [sm_up, sm_ups]; rfl
  · rw [hF]; simp [sm_up, sm_ups]; rfl
  · exact hb1.trans rfl
  · rw [show f0 (5 * i) = 0 from if_neg (by omega)]; simp [sm_ups, hb4 2 (by decide)]; rfl
  · rw [show f0 (5 * i + 1) = 0 from if_neg (by omega)]; simp [sm_ups, hb4 3 (by decide)]; rfl
  · rw [show f0 (5 * i + 4) = 0 from if_neg (by omega)]; simp [sm_ups, hb4 4 (by decide)]; rfl
  · rw [show f0 (5 * i + 2) = 0 from if_neg (by omega)]; simp [sm_ups, hb4 5 (by decide)]; rfl
  · rw [show f0 (50 + 3 * r) = 0 from if_neg (by omega)]; simp [sm_ups, (hb2 r).1]; rfl
  · rw [show f0 (50 + 3 * r + 1) = 0 from if_neg (by omega)]; simp [sm_ups, (hb2 r).2.1]; rfl
  · rw [show f0 (50 + 3 * r + 2) = 0 from if_neg (by omega)]; simp [sm_ups, (hb2 r).2.2]; rfl
  · rw [hb3 a (by omega)]; funext j; simp [sm_up, sm_ups, show a ≠ 1 by omega, show a ≠ 6 by omega]
  · funext j; simp [sm_ups, hb4 a (by omega), show a ≠ 10 by omega, show a ≠ 2 by omega, show a ≠ 3 by omega, show a ≠ 4 by omega, show a ≠ 5 by omega]
def Z_20 : sm_S := [(0, 5, [some 1, none, none, none, none, none, none, none]), (0, 4, [none, some 2, some 3, some 4, some 5, none, none, none, none, none, some 6, some 10]), (1, 10, []), (1, 10, []), (1, 10, []), (1, 10, []), (0, 0, [none, some 7, some 8, some 9]), (1, 6, []), (1, 6, []), (1, 6, []), (1, 10, [])]
def Z_21 : sm_S := [(0, 5, [some 1, none, none, none, none, none, none, none]), (0, 4, [none, some 2, some 3, some 4, some 5, none, none, none, none, none, some 6, some 10]), (1, 10, []), (1, 10, []), (1, 10, []), (1, 10, []), (0, 0, [none, some 7, some 8, some 9]), (1, 6, []), (1, 6, []), (1, 6, []), (1, 10, []), (0, 4, [none, none, none, none, none, none, none, none, none, none, none, none])]
def Z_22 : sm_S := [(0, 5, [some 1, none, none, none, none, none, none, none]), (0, 4, [none, some 2, some 3, some 4, some 5, none, none, none, none, none, some 6, some 10]), (1, 10, []), (1, 10, []), (1, 10, []), (1, 10, []), (0, 0, [none, some 7, some 8, some 9]), (1, 6, []), (1, 6, []), (1, 6, []), (1, 10, []), (0, 4, [none, none, none, none, none, none, none, none, none, none, none, none]), (1, 10, [])]
def Z_23 : sm_S := [(0, 5, [some 1, none, none, none, none, none, none, none]), (0, 4, [none, some 2, some 3, some 4, some 5, none, none, none, none, none, some 6, some 10]), (1, 10, []), (1, 10, []), (1, 10, []), (1, 10, []), (0, 0, [none, some 7, some 8, some 9]), (1, 6, []), (1, 6, []), (1, 6, []), (1, 10, []), (0, 4, [none, some 12, none, none, none, none, none, none, none, none, none, none]), (1, 10, [])]
def Z_24 : sm_S := [(0, 5, [some 1, none, none, none, none, none, none, none]), (0, 4, [none, some 2, some 3, some 4, some 5, none, none, none, none, none, some 6, some 10]), (1, 10, []), (1, 10, []), (1, 10, []), (1, 10, []), (0, 0, [none, some 7, some 8, some 9]), (1, 6, []), (1, 6, []), (1, 6, []), (1, 10, []), (0, 4, [none, some 12, none, none, none, none, none, none, none, none, none, none]), (1, 10, []), (1, 10, [])]
def Z_25 : sm_S := [(0, 5, [some 1, none, none, none, none, none, none, none]), (0, 4, [none, some 2, some 3, some 4, some 5, none, none, none, none, none, some 6, some 10]), (1, 10, []), (1, 10, []), (1, 10, []), (1, 10, []), (0, 0, [none, some 7, some 8, some 9]), (1, 6, []), (1, 6, []), (1, 6, []), (1, 10, []), (0, 4, [none, some 12, some 13, none, none, none, none, none, none, none, none, none]), (1, 10, []), (1, 10, [])]
def Z_26 : sm_S := [(0, 5, [some 1, none, none, none, none, none, none, none]), (0, 4, [none, some 2, some 3, some 4, some 5, none, none, none, none, none, some 6, some 10]), (1, 10, []), (1, 10, []), (1, 10, []), (1, 10, []), (0, 0, [none, some 7, some 8, some 9]), (1, 6, []), (1, 6, []), (1, 6, []), (1, 10, []), (0, 4, [none, some 12, some 13, none, none, none, none, none, none, none, none, none]), (1, 10, []), (1, 10, []), (1, 10, [])]
def Z_27 : sm_S := [(0, 5, [some 1, none, none, none, none, none, none, none]), (0, 4, [none, some 2, some 3, some 4, some 5, none, none, none, none, none, some 6, some 10]), (1, 10, []), (1, 10, []), (1, 10, []), (1, 10, []), (0, 0, [none, some 7, some 8, some 9]), (1, 6, []), (1, 6, []), (1, 6, []), (1, 10, []), (0, 4, [none, some 12, some 13, some 14, none, none, none, none, none, none, none, none]), (1, 10, []), (1, 10, []), (1, 10, [])]
def Z_28 : sm_S := [(0, 5, [some 1, none, none, none, none, none, none, none]), (0, 4, [none, some 2, some 3, some 4, some 5, none, none, none, none, none, some 6, some 10]), (1, 10, []), (1, 10, []), (1, 10, []), (1, 10, []), (0, 0, [none, some 7, some 8, some 9]), (1, 6, []), (1, 6, []), (1, 6, []), (1, 10, []), (0, 4, [none, some 12, some 13, some 14, none, none, none, none, none, none, none, none]), (1, 10, []), (1, 10, []), (1, 10, []), (1, 10, [])]
def Z_29 : sm_S := [(0, 5, [some 1, none, none, none, none, none, none, none]), (0, 4, [none, some 2, some 3, some 4, some 5, none, none, none, none, none, some 6, some 10]), (1, 10, []), (1, 10, []), (1, 10, []), (1, 10, []), (0, 0, [none, some 7, some 8, some 9]), (1, 6, []), (1, 6, []), (1, 6, []), (1, 10, []), (0, 4, [none, some 12, some 13, some 14, some 15, none, none, none, none, none, none, none]), (1, 10, []), (1, 10, []), (1, 10, []), (1, 10, [])]
def Z_30 : sm_S := [(0, 5, [some 1, none, none, none, none, none, none, none]), (0, 4, [none, some 2, some 3, some 4, some 5, none, none, none, none, none, some 6, some 10]), (1, 10, []), (1, 10, []), (1, 10, []), (1, 10, []), (0, 0, [none, some 7, some 8, some 9]), (1, 6, []), (1, 6, []), (1, 6, []), (1, 10, []), (0, 4, [none, some 12, some 13, some 14, some 15, none, none, none, none, none, none, none]), (1, 10, []), (1, 10, []), (1, 10, []), (1, 10, []), (0, 0, [none, none, none, none])]
def Z_31 : sm_S := [(0, 5, [some 1, none, none, none, none, none, none, none]), (0, 4, [none, some 2, some 3, some 4, some 5, none, none, none, none, none, some 6, some 10]), (1, 10, []), (1, 10, []), (1, 10, []), (1, 10, []), (0, 0, [none, some 7, some 8, some 9]), (1, 6, []), (1, 6, []), (1, 6, []), (1, 10, []), (0, 4, [none, some 12, some 13, some 14, some 15, none, none, none, none, none, none, none]), (1, 10, []), (1, 10, []), (1, 10, []), (1, 10, []), (0, 0, [none, none, none, none]), (1, 6, [])]
def Z_32 : sm_S := [(0, 5, [some 1, none, none, none, none, none, none, none]), (0, 4, [none, some 2, some 3, some 4, some 5, none, none, none, none, none, some 6, some 10]), (1, 10, []), (1, 10, []), (1, 10, []), (1, 10, []), (0, 0, [none, some 7, some 8, some 9]), (1, 6, []), (1, 6, []), (1, 6, []), (1, 10, []), (0, 4, [none, some 12, some 13, some 14, some 15, none, none, none, none, none, none, none]), (1, 10, []), (1, 10, []), (1, 10, []), (1, 10, []), (0, 0, [none, some 17, none, none]), (1, 6, [])]
def Z_33 : sm_S := [(0, 5, [some 1, none, none, none, none, none, none, none]), (0, 4, [none, some 2, some 3, some 4, some 5, none, none, none, none, none, some 6, some 10]), (1, 10, []), (1, 10, []), (1, 10, []), (1, 10, []), (0, 0, [none, some 7, some 8, some 9]), (1, 6, []), (1, 6, []), (1, 6, []), (1, 10, []), (0, 4, [none, some 12, some 13, some 14, some 15, none, none, none, none, none, none, none]), (1, 10, []), (1, 10, []), (1, 10, []), (1, 10, []), (0, 0, [none, some 17, none, none]), (1, 6, []), (1, 6, [])]
def Z_34 : sm_S := [(0, 5, [some 1, none, none, none, none, none, none, none]), (0, 4, [none, some 2, some 3, some 4, some 5, none, none, none, none, none, some 6, some 10]), (1, 10, []), (1, 10, []), (1, 10, []), (1, 10, []), (0, 0, [none, some 7, some 8, some 9]), (1, 6, []), (1, 6, []), (1, 6, []), (1, 10, []), (0, 4, [none, some 12, some 13, some 14, some 15, none, none, none, none, none, none, none]), (1, 10, []), (1, 10, []), (1, 10, []), (1, 10, []), (0, 0, [none, some 17, some 18, none]), (1, 6, []), (1, 6, [])]
def Z_35 : sm_S := [(0, 5, [some 1, none, none, none, none, none, none, none]), (0, 4, [none, some 2, some 3, some 4, some 5, none, none, none, none, none, some 6, some 10]), (1, 10, []), (1, 10, []), (1, 10, []), (1, 10, []), (0, 0, [none, some 7, some 8, some 9]), (1, 6, []), (1, 6, []), (1, 6, []), (1, 10, []), (0, 4, [none, some 12, some 13, some 14, some 15, none, none, none, none, none, none, none]), (1, 10, []), (1, 10, []), (1, 10, []), (1, 10, []), (0, 0, [none, some 17, some 18, none]), (1, 6, []), (1, 6, []), (1, 6, [])]
def Z_36 : sm_S := [(0, 5, [some 1, none, none, none, none, none, none, none]), (0, 4, [none, some 2, some 3, some 4, some 5, none, none, none, none, none, some 6, some 10]), (1, 10, []), (1, 10, []), (1, 10, []), (1, 10, []), (0, 0, [none, some 7, some 8, some 9]), (1, 6, []), (1, 6, []), (1, 6, []), (1, 10, []), (0, 4, [none, some 12, some 13, some 14, some 15, none, none, none, none, none, none, none]), (1, 10, []), (1, 10, []), (1, 10, []), (1, 10, []), (0, 0, [none, some 17, some 18, some 19]), (1, 6, []), (1, 6, []), (1, 6, [])]
theorem i_X0_16 {d : Nat} {F I : Nat → Nat → Int32} {J : Nat → Nat → Int64} {Q : Option Value → sm_H → Prop} (k : ∀ F1 I1 : Nat → Nat → Int32, F1 16 0 = 0 → (∀ j, I1 17 j = 0 ∧ I1 18 j = 0 ∧ I1 19 j = 0) → (∀ a, a ≠ 16 → F1 a = F a) → (∀ a, a < 17 ∨ 19 < a → I1 a = I a) → Q none (Z_36, F1, I1, J)) : Wp mX0_init (d + 1) 3 18 0 (sm_ini [.ref 16] 1) [] (Z_30, F, I, J) Q := by
  show Wp _ _ _ _ _ [.ref 16] _ _ _
  refine wp_aload_n (pc := 0) 0 dX0_init_0 rfl rfl ?_
  refine wp_obj (pc := 1) dX0_init_1 ob_RX0 (by decide) (by omega) ?_
  refine wp_aload_n (pc := 4) 0 dX0_init_4 rfl rfl ?_
  refine wp_iconst (pc := 5) (0) dX0_init_5 (by decide) ?_
  refine wq_putI (pc := 6) (ci := 0) (refs := [none, none, none, none]) 9 0 dX0_init_6 rfl flX0_9 rfl rfl (by decide) ?_
  refine wp_aload_n (pc := 9) 0 dX0_init_9 rfl rfl ?_
  refine wp_bipush (pc := 10) (6) dX0_init_10 (by decide) ?_
  refine wp_newI (pc := 12) (mc := 2) (ms := 12) 6 dX0_init_12 (by decide) (by decide) (by decide) ar_int (show Z_30.length < 900 by decide) ?_
  refine wp_to (st' := [.ref 17, .ref 16]) (h' := (Z_31, (sm_up F 16 0 (0)), (sm_ups I 17 (fun _ => 0)), J)) ?_ rfl rfl rfl
  refine wp_putR (pc := 14) (ci := 0) (refs := [none, none, none, none]) 15 1 dX0_init_14 rfl flX0_15 rfl rfl rfl rfl (fun _ => ⟨rfl, rfl⟩) (by decide) (by decide) (by decide) ?_
  refine wp_to (h' := (Z_32, (sm_up F 16 0 (0)), (sm_ups I 17 (fun _ => 0)), J)) ?_ rfl rfl rfl
  refine wp_aload_n (pc := 17) 0 dX0_init_17 rfl rfl ?_
  refine wp_bipush (pc := 18) (6) dX0_init_18 (by decide) ?_
  refine wp_newI (pc := 20) (mc := 1) (ms := 6) 6 dX0_init_20 (by decide) (by decide) (by decide) ar_int (show Z_32.length < 900 by decide) ?_
  refine wp_to (st' := [.ref 18, .ref 16]) (h' := (Z_33, (sm_up F 16 0 (0)), (sm_ups (sm_ups I 17 (fun _ => 0)) 18 (fun _ => 0)), J)) ?_ rfl rfl rfl
  refine wp_putR (pc := 22) (ci := 0) (refs := [none, some 17, none, none]) 19 2 dX0_init_22 rfl flX0_19 rfl rfl rfl rfl (fun _ => ⟨rfl, rfl⟩) (by decide) (by decide) (by decide) ?_
  refine wp_to (h' := (Z_34, (sm_up F 16 0 (0)), (sm_ups (sm_ups I 17 (fun _ => 0)) 18 (fun _ => 0)), J)) ?_ rfl rfl rfl
  refine wp_aload_n (pc := 25) 0 dX0_init_25 rfl rfl ?_
  refine wp_bipush (pc := 26) (6) dX0_init_26 (by decide) ?_
  refine wp_newI (pc := 28) (mc := 0) (ms := 0) 6 dX0_init_28 (by decide) (by decide) (by decide) ar_int (show Z_34.length < 900 by decide) ?_
  refine wp_to (st' := [.ref 19, .ref 16]) (h' := (Z_35, (sm_up F 16 0 (0)), (sm_ups (sm_ups (sm_ups I 17 (fun _ => 0)) 18 (fun _ => 0)) 19 (fun _ => 0)), J)) ?_ rfl rfl rfl
  refine wp_putR (pc := 30) (ci := 0) (refs := [none, some 17, some 18, none]) 22 3 dX0_init_30 rfl flX0_22 rfl rfl rfl rfl (fun _ => ⟨rfl, rfl⟩) (by decide) (by decide) (by decide) ?_
  refine wp_to (h' := (Z_36, (sm_up F 16 0 (0)), (sm_ups (sm_ups (sm_ups I 17 (fun _ => 0)) 18 (fun _ => 0)) 19 (fun _ => 0)), J)) ?_ rfl rfl rfl
  refine wp_ret (pc := 33) dX0_init_33 rfl ?_
  exact k _ _ up_eq (fun j => ⟨by simp [sm_ups], by simp [sm_ups], by simp [sm_ups]⟩) (fun a ha => sm_up_ne ha) (fun a ha => by funext j; simp [sm_ups, show a ≠ 17 by omega, show a ≠ 18 by omega, show a ≠ 19 by omega])
def Z_37 : sm_S := [(0, 5, [some 1, none, none, none, none, none, none, none]), (0, 4, [none, some 2, some 3, some 4, some 5, none, none, none, none, none, some 6, some 10]), (1, 10, []), (1, 10, []), (1, 10, []), (1, 10, []), (0, 0, [none, some 7, some 8, some 9]), (1, 6, []), (1, 6, []), (1, 6, []), (1, 10, []), (0, 4, [none, some 12, some 13, some 14, some 15, none, none, none, none, none, some 16, none]), (1, 10, []), (1, 10, []), (1, 10, []), (1, 10, []), (0, 0, [none, some 17, some 18, some 19]), (1, 6, []), (1, 6, []), (1, 6, [])]
def Z_38 : sm_S := [(0, 5, [some 1, none, none, none, none, none, none, none]), (0, 4, [none, some 2, some 3, some 4, some 5, none, none, none, none, none, some 6, some 10]), (1, 10, []), (1, 10, []), (1, 10, []), (1, 10, []), (0, 0, [none, some 7, some 8, some 9]), (1, 6, []), (1, 6, []), (1, 6, []), (1, 10, []), (0, 4, [none, some 12, some 13, some 14, some 15, none, none, none, none, none, some 16, none]), (1, 10, []), (1, 10, []), (1, 10, []), (1, 10, []), (0, 0, [none, some 17, some 18, some 19]), (1, 6, []), (1, 6, []), (1, 6, []), (1, 10, [])]
def Z_39 : sm_S := [(0, 5, [some 1, none, none, none, none, none, none, none]), (0, 4, [none, some 2, some 3, some 4, some 5, none, none, none, none, none, some 6, some 10]), (1, 10, []), (1, 10, []), (1, 10, []), (1, 10, []), (0, 0, [none, some 7, some 8, some 9]), (1, 6, []), (1, 6, []), (1, 6, []), (1, 10, []), (0, 4, [none, some 12, some 13, some 14, some 15, none, none, none, none, none, some 16, some 20]), (1, 10, []), (1, 10, []), (1, 10, []), (1, 10, []), (0, 0, [none, some 17, some 18, some 19]), (1, 6, []), (1, 6, []), (1, 6, []), (1, 10, [])]
theorem i_X5_11 {d : Nat} {F I : Nat → Nat → Int32} {J : Nat → Nat → Int64} {Q : Option Value → sm_H → Prop} (k : ∀ F1 I1 : Nat → Nat → Int32, Tw 11 f0 F1 I1 → (∀ a, a < 11 ∨ 20 < a → F1 a = F a ∧ I1 a = I a) → Q none (Z_39, F1, I1, J)) : Wp mX5_init (d + 2) 9 72 0 (sm_ini [.ref 11] 1) [] (Z_21, F, I, J) Q := by
  show Wp _ _ _ _ _ [.ref 11] _ _ _
  refine wp_aload_n (pc := 0) 0 dX5_init_0 rfl rfl ?_
  refine wp_obj (pc := 1) dX5_init_1 ob_RX5 (by decide) (by omega) ?_
  refine wp_aload_n (pc := 4) 0 dX5_init_4 rfl rfl ?_
  refine wp_iconst (pc := 5) (0) dX5_init_5 (by decide) ?_
  refine wq_putI (pc := 6) (ci := 4) (refs := [none, none, none, none, none, none, none, none, none, none, none, none]) 9 0 dX5_init_6 rfl flX5_9 rfl rfl (by decide) ?_
  refine wp_aload_n (pc := 9) 0 dX5_init_9 rfl rfl ?_
  refine wp_bipush (pc := 10) (10) dX5_init_10 (by decide) ?_
  refine wp_newI (pc := 12) (mc := 8) (ms := 62) 10 dX5_init_12 (by decide) (by decide) (by decide) ar_int (show Z_21.length < 900 by decide) ?_
  refine wp_to (st' := [.ref 12, .ref 11]) (h' := (Z_22, (sm_up F 11 0 (0)), (sm_ups I 12 (fun _ => 0)), J)) ?_ rfl rfl rfl
  refine wp_putR (pc := 14) (ci := 4) (refs := [none, none, none, none, none, none, none, none, none, none, none, none]) 15 1 dX5_init_14 rfl flX5_15 rfl rfl rfl rfl (fun _ => ⟨rfl, rfl⟩) (by decide) (by decide) (by decide) ?_
  refine wp_to (h' := (Z_23, (sm_up F 11 0 (0)), (sm_ups I 12 (fun _ => 0)), J)) ?_ rfl rfl rfl
  refine wp_aload_n (pc := 17) 0 dX5_init_17 rfl rfl ?_
  refine wp_bipush (pc := 18) (10) dX5_init_18 (by decide) ?_
  refine wp_newI (pc := 20) (mc := 7) (ms := 52) 10 dX5_init_20 (by decide) (by decide) (by decide) ar_int (show Z_23.length < 900 by decide) ?_
  refine wp_to (st' := [.ref 13, .ref 11]) (h' := (Z_24, (sm_up F 11 0 (0)), (sm_ups (sm_ups I 12 (fun _ => 0)) 13 (fun _ => 0)), J)) ?_ rfl rfl rfl
  refine wp_putR (pc := 22) (ci := 4) (refs := [none, some 12, none, none, none, none, none, none, none, none, none, none]) 19 2 dX5_init_22 rfl flX5_19 rfl rfl rfl rfl (fun _ => ⟨rfl, rfl⟩) (by decide) (by decide) (by decide) ?_
  refine wp_to (h' := (Z_25, (sm_up F 11 0 (0)), (sm_ups (sm_ups I 12 (fun _ => 0)) 13 (fun _ => 0)), J)) ?_ rfl rfl rfl
  refine wp_aload_n (pc := 25) 0 dX5_init_25 rfl rfl ?_
  refine wp_bipush (pc := 26) (10) dX5_init_26 (by decide) ?_
  refine wp_newI (pc := 28) (mc := 6) (ms := 42) 10 dX5_init_28 (by decide) (by decide) (by decide) ar_int (show Z_25.length < 900 by decide) ?_
  refine wp_to (st' := [.ref 14, .ref 11]) (h' := (Z_26, (sm_up F 11 0 (0)), (sm_ups (sm_ups (sm_ups I 12 (fun _ => 0)) 13 (fun _ => 0)) 14 (fun _ => 0)), J)) ?_ rfl rfl rfl
  refine wp_putR (pc := 30) (ci := 4) (refs := [none, some 12, some 13, none, none, none, none, none, none, none, none, none]) 22 3 dX5_init_30 rfl flX5_22 rfl rfl rfl rfl (fun _ => ⟨rfl, rfl⟩) (by decide) (by decide) (by decide) ?_
  refine wp_to (h' := (Z_27, (sm_up F 11 0 (0)), (sm_ups (sm_ups (sm_ups I 12 (fun _ => 0)) 13 (fun _ => 0)) 14 (fun _ => 0)), J)) ?_ rfl rfl rfl
  refine wp_aload_n (pc := 33) 0 dX5_init_33 rfl rfl ?_
  refine wp_bipush (pc := 34) (10) dX5_init_34 (by decide) ?_
  refine wp_newI (pc := 36) (mc := 5) (ms := 32) 10 dX5_init_36 (by decide) (by decide) (by decide) ar_int (show Z_27.length < 900 by decide) ?_
  refine wp_to (st' := [.ref 15, .ref 11]) (h' := (Z_28, (sm_up F 11 0 (0)), (sm_ups (sm_ups (sm_ups (sm_ups I 12 (fun _ => 0)) 13 (fun _ => 0)) 14 (fun _ => 0)) 15 (fun _ => 0)), J)) ?_ rfl rfl rfl
  refine wp_putR (pc := 38) (ci := 4) (refs := [none, some 12, some 13, some 14, none, none, none, none, none, none, none, none]) 25 4 dX5_init_38 rfl flX5_25 rfl rfl rfl rfl (fun _ => ⟨rfl, rfl⟩) (by decide) (by decide) (by decide) ?_
  refine wp_to (h' := (Z_29, (sm_up F 11 0 (0)), (sm_ups (sm_ups (sm_ups (sm_ups I 12 (fun _ => 0)) 13 (fun _ => 0)) 14 (fun _ => 0)) 15 (fun _ => 0)), J)) ?_ rfl rfl rfl
  refine wp_aload_n (pc := 41) 0 dX5_init_41 rfl rfl ?_
  refine wp_iconst (pc := 42) (0) dX5_init_42 (by decide) ?_
  refine wq_putI (pc := 43) (ci := 4) (refs := [none, some 12, some 13, some 14, some 15, none, none, none, none, none, none, none]) 28 5 dX5_init_43 rfl flX5_28 rfl rfl (by decide) ?_
  refine wp_aload_n (pc := 46) 0 dX5_init_46 rfl rfl ?_
  refine wp_iconst (pc := 47) (0) dX5_init_47 (by decide) ?_
  refine wq_putI (pc := 48) (ci := 4) (refs := [none, some 12, some 13, some 14, some 15, none, none, none, none, none, none, none]) 31 6 dX5_init_48 rfl flX5_31 rfl rfl (by decide) ?_
  refine wp_aload_n (pc := 51) 0 dX5_init_51 rfl rfl ?_
  refine wp_iconst (pc := 52) (0) dX5_init_52 (by decide) ?_
  refine wq_putI (pc := 53) (ci := 4) (refs := [none, some 12, some 13, some 14, some 15, none, none, none, none, none, none, none]) 34 7 dX5_init_53 rfl flX5_34 rfl rfl (by decide) ?_
  refine wp_aload_n (pc := 56) 0 dX5_init_56 rfl rfl ?_
  refine wp_iconst (pc := 57) (0) dX5_init_57 (by decide) ?_
  refine wq_putI (pc := 58) (ci := 4) (refs := [none, some 12, some 13, some 14, some 15, none, none, none, none, none, none, none]) 37 8 dX5_init_58 rfl flX5_37 rfl rfl (by decide) ?_
  refine wp_aload_n (pc := 61) 0 dX5_init_61 rfl rfl ?_
  refine wp_iconst (pc := 62) (1) dX5_init_62 (by decide) ?_
  refine wq_putI (pc := 63) (ci := 4) (refs := [none, some 12, some 13, some 14, some 15, none, none, none, none, none, none, none]) 40 9 dX5_init_63 rfl flX5_40 rfl rfl (by decide) ?_
  refine wp_aload_n (pc := 66) 0 dX5_init_66 rfl rfl ?_
  refine wp_cnt (mc1 := 4 + 1) (ms1 := 28 + sm_N 0) (by decide) (by decide) (wp_new (pc := 67) (ci := 0) dX5_init_67 (by decide) clX5_43 nw0 inRX0 (show Z_29.length < 900 by decide) df_0 ?_)
  refine wp_to (st' := [.ref 16, .ref 11]) (h' := (Z_30, (sm_ups (sm_up (sm_up (sm_up (sm_up (sm_up (sm_up F 11 0 (0)) 11 5 (0)) 11 6 (0)) 11 7 (0)) 11 8 (0)) 11 9 (1)) 16 (fun _ => 0)), (sm_ups (sm_ups (sm_ups (sm_ups I 12 (fun _ => 0)) 13 (fun _ => 0)) 14 (fun _ => 0)) 15 (fun _ => 0)), J)) ?_ rfl rfl rfl
  refine wp_dup (pc := 70) dX5_init_70 rfl ?_
  refine wp_callIN (pc := 71) (k := 16) (as := []) (st := [.ref 16, .ref 11]) (mc1 := 3) (ms1 := 18) (mc2 := 1) (ms2 := 10) dX5_init_71 lkX5_45 rfl rfl (by decide) (by decide) (by decide) (by decide) ?_
  refine i_X0_16 (d := d) (fun F1 I1 hb1 hb2 hb3 hb4 => ?_)
  refine wp_putR (pc := 74) (ci := 4) (refs := [none, some 12, some 13, some 14, some 15, none, none, none, none, none, none, none]) 46 10 dX5_init_74 rfl flX5_46 rfl rfl rfl rfl (fun _ => ⟨rfl, rfl⟩) (by decide) (by decide) (by decide) ?_
  refine wp_to (h' := (Z_37, F1, I1, J)) ?_ rfl rfl rfl
  refine wp_aload_n (pc := 77) 0 dX5_init_77 rfl rfl ?_
  refine wp_bipush (pc := 78) (10) dX5_init_78 (by decide) ?_
  refine wp_newI (pc := 80) (mc := 0) (ms := 0) 10 dX5_init_80 (by decide) (by decide) (by decide) ar_int (show Z_37.length < 900 by decide) ?_
  refine wp_to (st' := [.ref 20, .ref 11]) (h' := (Z_38, F1, (sm_ups I1 20 (fun _ => 0)), J)) ?_ rfl rfl rfl
  refine wp_putR (pc := 82) (ci := 4) (refs := [none, some 12, some 13, some 14, some 15, none, none, none, none, none, some 16, none]) 50 11 dX5_init_82 rfl flX5_50 rfl rfl rfl rfl (fun _ => ⟨rfl, rfl⟩) (by decide) (by decide) (by decide) ?_
  refine wp_to (h' := (Z_39, F1, (sm_ups I1 20 (fun _ => 0)), J)) ?_ rfl rfl rfl
  refine wp_ret (pc := 85) dX5_init_85 rfl ?_
  have hF : ∀ j, F1 11 j = _ := fun j => congrFun (hb3 11 (by decide)) j
  refine k _ _ ⟨?_, ?_, ?_, ?_, ?_, ?_, ?_, fun i hi => ⟨?_, ?_, ?_, ?_⟩, fun r hr => ⟨?_, ?_, ?_⟩⟩ (fun a ha => ⟨?_, ?_⟩)
  · rw [hF]; simp [sm_up, sm_ups]; rfl
  · rw [hF, bn_f0]; simp [sm_up, sm_ups]; rfl
  · rw [hF]; simp [sm_up, sm_ups]; rfl
  · rw [hF]; simp [sm_up, sm_ups]; rfl
  · rw [hF]; simp [sm_up, sm_ups]; rfl
  · rw [hF]; simp [sm_up, sm_ups]; rfl
  · exact hb1.trans rfl
  · rw [show f0 (5 * i) = 0 from if_neg (by omega)]; simp [sm_ups, hb4 12 (by decide)]; rfl
  · rw [show f0 (5 * i + 1) = 0 from if_neg (by omega)]; simp [sm_ups, hb4 13 (by decide)]; rfl
  · rw [show f0 (5 * i + 4) = 0 from if_neg (by omega)]; simp [sm_ups, hb4 14 (by decide)]; rfl
  · rw [show f0 (5 * i + 2) = 0 from if_neg (by omega)]; simp [sm_ups, hb4 15 (by decide)]; rfl
  · rw [show f0 (50 + 3 * r) = 0 from if_neg (by omega)]; simp [sm_ups, (hb2 r).1]; rfl
  · rw [show f0 (50 + 3 * r + 1) = 0 from if_neg (by omega)]; simp [sm_ups, (hb2 r).2.1]; rfl
  · rw [show f0 (50 + 3 * r + 2) = 0 from if_neg (by omega)]; simp [sm_ups, (hb2 r).2.2]; rfl
  · rw [hb3 a (by omega)]; funext j; simp [sm_up, sm_ups, show a ≠ 11 by omega, show a ≠ 16 by omega]
  · funext j; simp [sm_ups, hb4 a (by omega), show a ≠ 20 by omega, show a ≠ 12 by omega, show a ≠ 13 by omega, show a ≠ 14 by omega, show a ≠ 15 by omega]
def Z_40 : sm_S := [(0, 5, [some 1, some 11, none, none, none, none, none, none]), (0, 4, [none, some 2, some 3, some 4, some 5, none, none, none, none, none, some 6, some 10]), (1, 10, []), (1, 10, []), (1, 10, []), (1, 10, []), (0, 0, [none, some 7, some 8, some 9]), (1, 6, []), (1, 6, []), (1, 6, []), (1, 10, []), (0, 4, [none, some 12, some 13, some 14, some 15, none, none, none, none, none, some 16, some 20]), (1, 10, []), (1, 10, []), (1, 10, []), (1, 10, []), (0, 0, [none, some 17, some 18, some 19]), (1, 6, []), (1, 6, []), (1, 6, []), (1, 10, [])]
def Z_41 : sm_S := [(0, 5, [some 1, some 11, none, none, none, none, none, none]), (0, 4, [none, some 2, some 3, some 4, some 5, none, none, none, none, none, some 6, some 10]), (1, 10, []), (1, 10, []), (1, 10, []), (1, 10, []), (0, 0, [none, some 7, some 8, some 9]), (1, 6, []), (1, 6, []), (1, 6, []), (1, 10, []), (0, 4, [none, some 12, some 13, some 14, some 15, none, none, none, none, none, some 16, some 20]), (1, 10, []), (1, 10, []), (1, 10, []), (1, 10, []), (0, 0, [none, some 17, some 18, some 19]), (1, 6, []), (1, 6, []), (1, 6, []), (1, 10, []), (0, 4, [none, none, none, none, none, none, none, none, none, none, none, none])]
def Z_42 : sm_S := [(0, 5, [some 1, some 11, none, none, none, none, none, none]), (0, 4, [none, some 2, some 3, some 4, some 5, none, none, none, none, none, some 6, some 10]), (1, 10, []), (1, 10, []), (1, 10, []), (1, 10, []), (0, 0, [none, some 7, some 8, some 9]), (1, 6, []), (1, 6, []), (1, 6, []), (1, 10, []), (0, 4, [none, some 12, some 13, some 14, some 15, none, none, none, none, none, some 16, some 20]), (1, 10, []), (1, 10, []), (1, 10, []), (1, 10, []), (0, 0, [none, some 17, some 18, some 19]), (1, 6, []), (1, 6, []), (1, 6, []), (1, 10, []), (0, 4, [none, none, none, none, none, none, none, none, none, none, none, none]), (1, 10, [])]
def Z_43 : sm_S := [(0, 5, [some 1, some 11, none, none, none, none, none, none]), (0, 4, [none, some 2, some 3, some 4, some 5, none, none, none, none, none, some 6, some 10]), (1, 10, []), (1, 10, []), (1, 10, []), (1, 10, []), (0, 0, [none, some 7, some 8, some 9]), (1, 6, []), (1, 6, []), (1, 6, []), (1, 10, []), (0, 4, [none, some 12, some 13, some 14, some 15, none, none, none, none, none, some 16, some 20]), (1, 10, []), (1, 10, []), (1, 10, []), (1, 10, []), (0, 0, [none, some 17, some 18, some 19]), (1, 6, []), (1, 6, []), (1, 6, []), (1, 10, []), (0, 4, [none, some 22, none, none, none, none, none, none, none, none, none, none]), (1, 10, [])]
def Z_44 : sm_S := [(0, 5, [some 1, some 11, none, none, none, none, none, none]), (0, 4, [none, some 2, some 3, some 4, some 5, none, none, none, none, none, some 6, some 10]), (1, 10, []), (1, 10, []), (1, 10, []), (1, 10, []), (0, 0, [none, some 7, some 8, some 9]), (1, 6, []), (1, 6, []), (1, 6, []), (1, 10, []), (0, 4, [none, some 12, some 13, some 14, some 15, none, none, none, none, none, some 16, some 20]), (1, 10, []), (1, 10, []), (1, 10, []), (1, 10, []), (0, 0, [none, some 17, some 18, some 19]), (1, 6, []), (1, 6, []), (1, 6, []), (1, 10, []), (0, 4, [none, some 22, none, none, none, none, none, none, none, none, none, none]), (1, 10, []), (1, 10, [])]
def Z_45 : sm_S := [(0, 5, [some 1, some 11, none, none, none, none, none, none]), (0, 4, [none, some 2, some 3, some 4, some 5, none, none, none, none, none, some 6, some 10]), (1, 10, []), (1, 10, []), (1, 10, []), (1, 10, []), (0, 0, [none, some 7, some 8, some 9]), (1, 6, []), (1, 6, []), (1, 6, []), (1, 10, []), (0, 4, [none, some 12, some 13, some 14, some 15, none, none, none, none, none, some 16, some 20]), (1, 10, []), (1, 10, []), (1, 10, []), (1, 10, []), (0, 0, [none, some 17, some 18, some 19]), (1, 6, []), (1, 6, []), (1, 6, []), (1, 10, []), (0, 4, [none, some 22, some 23, none, none, none, none, none, none, none, none, none]), (1, 10, []), (1, 10, [])]
def Z_46 : sm_S := [(0, 5, [some 1, some 11, none, none, none, none, none, none]), (0, 4, [none, some 2, some 3, some 4, some 5, none, none, none, none, none, some 6, some 10]), (1, 10, []), (1, 10, []), (1, 10, []), (1, 10, []), (0, 0, [none, some 7, some 8, some 9]), (1, 6, []), (1, 6, []), (1, 6, []), (1, 10, []), (0, 4, [none, some 12, some 13, some 14, some 15, none, none, none, none, none, some 16, some 20]), (1, 10, []), (1, 10, []), (1, 10, []), (1, 10, []), (0, 0, [none, some 17, some 18, some 19]), (1, 6, []), (1, 6, []), (1, 6, []), (1, 10, []), (0, 4, [none, some 22, some 23, none, none, none, none, none, none, none, none, none]), (1, 10, []), (1, 10, []), (1, 10, [])]
def Z_47 : sm_S := [(0, 5, [some 1, some 11, none, none, none, none, none, none]), (0, 4, [none, some 2, some 3, some 4, some 5, none, none, none, none, none, some 6, some 10]), (1, 10, []), (1, 10, []), (1, 10, []), (1, 10, []), (0, 0, [none, some 7, some 8, some 9]), (1, 6, []), (1, 6, []), (1, 6, []), (1, 10, []), (0, 4, [none, some 12, some 13, some 14, some 15, none, none, none, none, none, some 16, some 20]), (1, 10, []), (1, 10, []), (1, 10, []), (1, 10, []), (0, 0, [none, some 17, some 18, some 19]), (1, 6, []), (1, 6, []), (1, 6, []), (1, 10, []), (0, 4, [none, some 22, some 23, some 24, none, none, none, none, none, none, none, none]), (1, 10, []), (1, 10, []), (1, 10, [])]
def Z_48 : sm_S := [(0, 5, [some 1, some 11, none, none, none, none, none, none]), (0, 4, [none, some 2, some 3, some 4, some 5, none, none, none, none, none, some 6, some 10]), (1, 10, []), (1, 10, []), (1, 10, []), (1, 10, []), (0, 0, [none, some 7, some 8, some 9]), (1, 6, []), (1, 6, []), (1, 6, []), (1, 10, []), (0, 4, [none, some 12, some 13, some 14, some 15, none, none, none, none, none, some 16, some 20]), (1, 10, []), (1, 10, []), (1, 10, []), (1, 10, []), (0, 0, [none, some 17, some 18, some 19]), (1, 6, []), (1, 6, []), (1, 6, []), (1, 10, []), (0, 4, [none, some 22, some 23, some 24, none, none, none, none, none, none, none, none]), (1, 10, []), (1, 10, []), (1, 10, []), (1, 10, [])]
def Z_49 : sm_S := [(0, 5, [some 1, some 11, none, none, none, none, none, none]), (0, 4, [none, some 2, some 3, some 4, some 5, none, none, none, none, none, some 6, some 10]), (1, 10, []), (1, 10, []), (1, 10, []), (1, 10, []), (0, 0, [none, some 7, some 8, some 9]), (1, 6, []), (1, 6, []), (1, 6, []), (1, 10, []), (0, 4, [none, some 12, some 13, some 14, some 15, none, none, none, none, none, some 16, some 20]), (1, 10, []), (1, 10, []), (1, 10, []), (1, 10, []), (0, 0, [none, some 17, some 18, some 19]), (1, 6, []), (1, 6, []), (1, 6, []), (1, 10, []), (0, 4, [none, some 22, some 23, some 24, some 25, none, none, none, none, none, none, none]), (1, 10, []), (1, 10, []), (1, 10, []), (1, 10, [])]
def Z_50 : sm_S := [(0, 5, [some 1, some 11, none, none, none, none, none, none]), (0, 4, [none, some 2, some 3, some 4, some 5, none, none, none, none, none, some 6, some 10]), (1, 10, []), (1, 10, []), (1, 10, []), (1, 10, []), (0, 0, [none, some 7, some 8, some 9]), (1, 6, []), (1, 6, []), (1, 6, []), (1, 10, []), (0, 4, [none, some 12, some 13, some 14, some 15, none, none, none, none, none, some 16, some 20]), (1, 10, []), (1, 10, []), (1, 10, []), (1, 10, []), (0, 0, [none, some 17, some 18, some 19]), (1, 6, []), (1, 6, []), (1, 6, []), (1, 10, []), (0, 4, [none, some 22, some 23, some 24, some 25, none, none, none, none, none, none, none]), (1, 10, []), (1, 10, []), (1, 10, []), (1, 10, []), (0, 0, [none, none, none, none])]
def Z_51 : sm_S := [(0, 5, [some 1, some 11, none, none, none, none, none, none]), (0, 4, [none, some 2, some 3, some 4, some 5, none, none, none, none, none, some 6, some 10]), (1, 10, []), (1, 10, []), (1, 10, []), (1, 10, []), (0, 0, [none, some 7, some 8, some 9]), (1, 6, []), (1, 6, []), (1, 6, []), (1, 10, []), (0, 4, [none, some 12, some 13, some 14, some 15, none, none, none, none, none, some 16, some 20]), (1, 10, []), (1, 10, []), (1, 10, []), (1, 10, []), (0, 0, [none, some 17, some 18, some 19]), (1, 6, []), (1, 6, []), (1, 6, []), (1, 10, []), (0, 4, [none, some 22, some 23, some 24, some 25, none, none, none, none, none, none, none]), (1, 10, []), (1, 10, []), (1, 10, []), (1, 10, []), (0, 0, [none, none, none, none]), (1, 6, [])]
def Z_52 : sm_S := [(0, 5, [some 1, some 11, none, none, none, none, none, none]), (0, 4, [none, some 2, some 3, some 4, some 5, none, none, none, none, none, some 6, some 10]), (1, 10, []), (1, 10, []), (1, 10, []), (1, 10, []), (0, 0, [none, some 7, some 8, some 9]), (1, 6, []), (1, 6, []), (1, 6, []), (1, 10, []), (0, 4, [none, some 12, some 13, some 14, some 15, none, none, none, none, none, some 16, some 20]), (1, 10, []), (1, 10, []), (1, 10, []), (1, 10, []), (0, 0, [none, some 17, some 18, some 19]), (1, 6, []), (1, 6, []), (1, 6, []), (1, 10, []), (0, 4, [none, some 22, some 23, some 24, some 25, none, none, none, none, none, none, none]), (1, 10, []), (1, 10, []), (1, 10, []), (1, 10, []), (0, 0, [none, some 27, none, none]), (1, 6, [])]
def Z_53 : sm_S := [(0, 5, [some 1, some 11, none, none, none, none, none, none]), (0, 4, [none, some 2, some 3, some 4, some 5, none, none, none, none, none, some 6, some 10]), (1, 10, []), (1, 10, []), (1, 10, []), (1, 10, []), (0, 0, [none, some 7, some 8, some 9]), (1, 6, []), (1, 6, []), (1, 6, []), (1, 10, []), (0, 4, [none, some 12, some 13, some 14, some 15, none, none, none, none, none, some 16, some 20]), (1, 10, []), (1, 10, []), (1, 10, []), (1, 10, []), (0, 0, [none, some 17, some 18, some 19]), (1, 6, []), (1, 6, []), (1, 6, []), (1, 10, []), (0, 4, [none, some 22, some 23, some 24, some 25, none, none, none, none, none, none, none]), (1, 10, []), (1, 10, []), (1, 10, []), (1, 10, []), (0, 0, [none, some 27, none, none]), (1, 6, []), (1, 6, [])]
def Z_54 : sm_S := [(0, 5, [some 1, some 11, none, none, none, none, none, none]), (0, 4, [none, some 2, some 3, some 4, some 5, none, none, none, none, none, some 6, some 10]), (1, 10, []), (1, 10, []), (1, 10, []), (1, 10, []), (0, 0, [none, some 7, some 8, some 9]), (1, 6, []), (1, 6, []), (1, 6, []), (1, 10, []), (0, 4, [none, some 12, some 13, some 14, some 15, none, none, none, none, none, some 16, some 20]), (1, 10, []), (1, 10, []), (1, 10, []), (1, 10, []), (0, 0, [none, some 17, some 18, some 19]), (1, 6, []), (1, 6, []), (1, 6, []), (1, 10, []), (0, 4, [none, some 22, some 23, some 24, some 25, none, none, none, none, none, none, none]), (1, 10, []), (1, 10, []), (1, 10, []), (1, 10, []), (0, 0, [none, some 27, some 28, none]), (1, 6, []), (1, 6, [])]
def Z_55 : sm_S := [(0, 5, [some 1, some 11, none, none, none, none, none, none]), (0, 4, [none, some 2, some 3, some 4, some 5, none, none, none, none, none, some 6, some 10]), (1, 10, []), (1, 10, []), (1, 10, []), (1, 10, []), (0, 0, [none, some 7, some 8, some 9]), (1, 6, []), (1, 6, []), (1, 6, []), (1, 10, []), (0, 4, [none, some 12, some 13, some 14, some 15, none, none, none, none, none, some 16, some 20]), (1, 10, []), (1, 10, []), (1, 10, []), (1, 10, []), (0, 0, [none, some 17, some 18, some 19]), (1, 6, []), (1, 6, []), (1, 6, []), (1, 10, []), (0, 4, [none, some 22, some 23, some 24, some 25, none, none, none, none, none, none, none]), (1, 10, []), (1, 10, []), (1, 10, []), (1, 10, []), (0, 0, [none, some 27, some 28, none]), (1, 6, []), (1, 6, []), (1, 6, [])]
def Z_56 : sm_S := [(0, 5, [some 1, some 11, none, none, none, none, none, none]), (0, 4, [none, some 2, some 3, some 4, some 5, none, none, none, none, none, some 6, some 10]), (1, 10, []), (1, 10, []), (1, 10, []), (1, 10, []), (0, 0, [none, some 7, some 8, some 9]), (1, 6, []), (1, 6, []), (1, 6, []), (1, 10, []), (0, 4, [none, some 12, some 13, some 14, some 15, none, none, none, none, none, some 16, some 20]), (1, 10, []), (1, 10, []), (1, 10, []), (1, 10, []), (0, 0, [none, some 17, some 18, some 19]), (1, 6, []), (1, 6, []), (1, 6, []), (1, 10, []), (0, 4, [none, some 22, some 23, some 24, some 25, none, none, none, none, none, none, none]), (1, 10, []), (1, 10, []), (1, 10, []), (1, 10, []), (0, 0, [none, some 27, some 28, some 29]), (1, 6, []), (1, 6, []), (1, 6, [])]
theorem i_X0_26 {d : Nat} {F I : Nat → Nat → Int32} {J : Nat → Nat → Int64} {Q : Option Value → sm_H → Prop} (k : ∀ F1 I1 : Nat → Nat → Int32, F1 26 0 = 0 → (∀ j, I1 27 j = 0 ∧ I1 28 j = 0 ∧ I1 29 j = 0) → (∀ a, a ≠ 26 → F1 a = F a) → (∀ a, a < 27 ∨ 29 < a → I1 a = I a) → Q none (Z_56, F1, I1, J)) : Wp mX0_init (d + 1) 3 18 0 (sm_ini [.ref 26] 1) [] (Z_50, F, I, J) Q := by
  show Wp _ _ _ _ _ [.ref 26] _ _ _
  refine wp_aload_n (pc := 0) 0 dX0_init_0 rfl rfl ?_
  refine wp_obj (pc := 1) dX0_init_1 ob_RX0 (by decide) (by omega) ?_
  refine wp_aload_n (pc := 4) 0 dX0_init_4 rfl rfl ?_
  refine wp_iconst (pc := 5) (0) dX0_init_5 (by decide) ?_
  refine wq_putI (pc := 6) (ci := 0) (refs := [none, none, none, none]) 9 0 dX0_init_6 rfl flX0_9 rfl rfl (by decide) ?_
  refine wp_aload_n (pc := 9) 0 dX0_init_9 rfl rfl ?_
  refine wp_bipush (pc := 10) (6) dX0_init_10 (by decide) ?_
  refine wp_newI (pc := 12) (mc := 2) (ms := 12) 6 dX0_init_12 (by decide) (by decide) (by decide) ar_int (show Z_50.length < 900 by decide) ?_
  refine wp_to (st' := [.ref 27, .ref 26]) (h' := (Z_51, (sm_up F 26 0 (0)), (sm_ups I 27 (fun _ => 0)), J)) ?_ rfl rfl rfl
  refine wp_putR (pc := 14) (ci := 0) (refs := [none, none, none, none]) 15 1 dX0_init_14 rfl flX0_15 rfl rfl rfl rfl (fun _ => ⟨rfl, rfl⟩) (by decide) (by decide) (by decide) ?_
  refine wp_to (h' := (Z_52, (sm_up F 26 0 (0)), (sm_ups I 27 (fun _ => 0)), J)) ?_ rfl rfl rfl
  refine wp_aload_n (pc := 17) 0 dX0_init_17 rfl rfl ?_
  refine wp_bipush (pc := 18) (6) dX0_init_18 (by decide) ?_
  refine wp_newI (pc := 20) (mc := 1) (ms := 6) 6 dX0_init_20 (by decide) (by decide) (by decide) ar_int (show Z_52.length < 900 by decide) ?_
  refine wp_to (st' := [.ref 28, .ref 26]) (h' := (Z_53, (sm_up F 26 0 (0)), (sm_ups (sm_ups I 27 (fun _ => 0)) 28 (fun _ => 0)), J)) ?_ rfl rfl rfl
  refine wp_putR (pc := 22) (ci := 0) (refs := [none, some 27, none, none]) 19 2 dX0_init_22 rfl flX0_19 rfl rfl rfl rfl (fun _ => ⟨rfl, rfl⟩) (by decide) (by decide) (by decide) ?_
  refine wp_to (h' := (Z_54, (sm_up F 26 0 (0)), (sm_ups (sm_ups I 27 (fun _ => 0)) 28 (fun _ => 0)), J)) ?_ rfl rfl rfl
  refine wp_aload_n (pc := 25) 0 dX0_init_25 rfl rfl ?_
  refine wp_bipush (pc := 26) (6) dX0_init_26 (by decide) ?_
  refine wp_newI (pc := 28) (mc := 0) (ms := 0) 6 dX0_init_28 (by decide) (by decide) (by decide) ar_int (show Z_54.length < 900 by decide) ?_
  refine wp_to (st' := [.ref 29, .ref 26]) (h' := (Z_55, (sm_up F 26 0 (0)), (sm_ups (sm_ups (sm_ups I 27 (fun _ => 0)) 28 (fun _ => 0)) 29 (fun _ => 0)), J)) ?_ rfl rfl rfl
  refine wp_putR (pc := 30) (ci := 0) (refs := [none, some 27, some 28, none]) 22 3 dX0_init_30 rfl flX0_22 rfl rfl rfl rfl (fun _ => ⟨rfl, rfl⟩) (by decide) (by decide) (by decide) ?_
  refine wp_to (h' := (Z_56, (sm_up F 26 0 (0)), (sm_ups (sm_ups (sm_ups I 27 (fun _ => 0)) 28 (fun _ => 0)) 29 (fun _ => 0)), J)) ?_ rfl rfl rfl
  refine wp_ret (pc := 33) dX0_init_33 rfl ?_
  exact k _ _ up_eq (fun j => ⟨by simp [sm_ups], by simp [sm_ups], by simp [sm_ups]⟩) (fun a ha => sm_up_ne ha) (fun a ha => by funext j; simp [sm_ups, show a ≠ 27 by omega, show a ≠ 28 by omega, show a ≠ 29 by omega])
def Z_57 : sm_S := [(0, 5, [some 1, some 11, none, none, none, none, none, none]), (0, 4, [none, some 2, some 3, some 4, some 5, none, none, none, none, none, some 6, some 10]), (1, 10, []), (1, 10, []), (1, 10, []), (1, 10, []), (0, 0, [none, some 7, some 8, some 9]), (1, 6, []), (1, 6, []), (1, 6, []), (1, 10, []), (0, 4, [none, some 12, some 13, some 14, some 15, none, none, none, none, none, some 16, some 20]), (1, 10, []), (1, 10, []), (1, 10, []), (1, 10, []), (0, 0, [none, some 17, some 18, some 19]), (1, 6, []), (1, 6, []), (1, 6, []), (1, 10, []), (0, 4, [none, some 22, some 23, some 24, some 25, none, none, none, none, none, some 26, none]), (1, 10, []), (1, 10, []), (1, 10, []), (1, 10, []), (0, 0, [none, some 27, some 28, some 29]), (1, 6, []), (1, 6, []), (1, 6, [])]
def Z_58 : sm_S := [(0, 5, [some 1, some 11, none, none, none, none, none, none]), (0, 4, [none, some 2, some 3, some 4, some 5, none, none, none, none, none, some 6, some 10]), (1, 10, []), (1, 10, []), (1, 10, []), (1, 10, []), (0, 0, [none, some 7, some 8, some 9]), (1, 6, []), (1, 6, []), (1, 6, []), (1, 10, []), (0, 4, [none, some 12, some 13, some 14, some 15, none, none, none, none, none, some 16, some 20]), (1, 10, []), (1, 10, []), (1, 10, []), (1, 10, []), (0, 0, [none, some 17, some 18, some 19]), (1, 6, []), (1, 6, []), (1, 6, []), (1, 10, []), (0, 4, [none, some 22, some 23, some 24, some 25, none, none, none, none, none, some 26, none]), (1, 10, []), (1, 10, []), (1, 10, []), (1, 10, []), (0, 0, [none, some 27, some 28, some 29]), (1, 6, []), (1, 6, []), (1, 6, []), (1, 10, [])]
def Z_59 : sm_S := [(0, 5, [some 1, some 11, none, none, none, none, none, none]), (0, 4, [none, some 2, some 3, some 4, some 5, none, none, none, none, none, some 6, some 10]), (1, 10, []), (1, 10, []), (1, 10, []), (1, 10, []), (0, 0, [none, some 7, some 8, some 9]), (1, 6, []), (1, 6, []), (1, 6, []), (1, 10, []), (0, 4, [none, some 12, some 13, some 14, some 15, none, none, none, none, none, some 16, some 20]), (1, 10, []), (1, 10, []), (1, 10, []), (1, 10, []), (0, 0, [none, some 17, some 18, some 19]), (1, 6, []), (1, 6, []), (1, 6, []), (1, 10, []), (0, 4, [none, some 22, some 23, some 24, some 25, none, none, none, none, none, some 26, some 30]), (1, 10, []), (1, 10, []), (1, 10, []), (1, 10, []), (0, 0, [none, some 27, some 28, some 29]), (1, 6, []), (1, 6, []), (1, 6, []), (1, 10, [])]
theorem i_X5_21 {d : Nat} {F I : Nat → Nat → Int32} {J : Nat → Nat → Int64} {Q : Option Value → sm_H → Prop} (k : ∀ F1 I1 : Nat → Nat → Int32, Tw 21 f0 F1 I1 → (∀ a, a < 21 ∨ 30 < a → F1 a = F a ∧ I1 a = I a) → Q none (Z_59, F1, I1, J)) : Wp mX5_init (d + 2) 9 72 0 (sm_ini [.ref 21] 1) [] (Z_41, F, I, J) Q := by
  show Wp _ _ _ _ _ [.ref 21] _ _ _
  refine wp_aload_n (pc := 0) 0 dX5_init_0 rfl rfl ?_
  refine wp_obj (pc := 1) dX5_init_1 ob_RX5 (by decide) (by omega) ?_
  refine wp_aload_n (pc := 4) 0 dX5_init_4 rfl rfl ?_
  refine wp_iconst (pc := 5) (0) dX5_init_5 (by decide) ?_
  refine wq_putI (pc := 6) (ci := 4) (refs := [none, none, none, none, none, none, none, none, none, none, none, none]) 9 0 dX5_init_6 rfl flX5_9 rfl rfl (by decide) ?_
  refine wp_aload_n (pc := 9) 0 dX5_init_9 rfl rfl ?_
  refine wp_bipush (pc := 10) (10) dX5_init_10 (by decide) ?_
  refine wp_newI (pc := 12) (mc := 8) (ms := 62) 10 dX5_init_12 (by decide) (by decide) (by decide) ar_int (show Z_41.length < 900 by decide) ?_
  refine wp_to (st' := [.ref 22, .ref 21]) (h' := (Z_42, (sm_up F 21 0 (0)), (sm_ups I 22 (fun _ => 0)), J)) ?_ rfl rfl rfl
  refine wp_putR (pc := 14) (ci := 4) (refs := [none, none, none, none, none, none, none, none, none, none, none, none]) 15 1 dX5_init_14 rfl flX5_15 rfl rfl rfl rfl (fun _ => ⟨rfl, rfl⟩) (by decide) (by decide) (by decide) ?_
  refine wp_to (h' := (Z_43, (sm_up F 21 0 (0)), (sm_ups I 22 (fun _ => 0)), J)) ?_ rfl rfl rfl
  refine wp_aload_n (pc := 17) 0 dX5_init_17 rfl rfl ?_
  refine wp_bipush (pc := 18) (10) dX5_init_18 (by decide) ?_
  refine wp_newI (pc := 20) (mc := 7) (ms := 52) 10 dX5_init_20 (by decide) (by decide) (by decide) ar_int (show Z_43.length < 900 by decide) ?_
  refine wp_to (st' := [.ref 23, .ref 21]) (h' := (Z_44, (sm_up F 21 0 (0)), (sm_ups (sm_ups I 22 (fun _ => 0)) 23 (fun _ => 0)), J)) ?_ rfl rfl rfl
  refine wp_putR (pc := 22) (ci := 4) (refs := [none, some 22, none, none, none, none, none, none, none, none, none, none]) 19 2 dX5_init_22 rfl flX5_19 rfl rfl rfl rfl (fun _ => ⟨rfl, rfl⟩) (by decide) (by decide) (by decide) ?_
  refine wp_to (h' := (Z_45, (sm_up F 21 0 (0)), (sm_ups (sm_ups I 22 (fun _ => 0)) 23 (fun _ => 0)), J)) ?_ rfl rfl rfl
  refine wp_aload_n (pc := 25) 0 dX5_init_25 rfl rfl ?_
  refine wp_bipush (pc := 26) (10) dX5_init_26 (by decide) ?_
  refine wp_newI (pc := 28) (mc := 6) (ms := 42) 10 dX5_init_28 (by decide) (by decide) (by decide) ar_int (show Z_45.length < 900 by decide) ?_
  refine wp_to (st' := [.ref 24, .ref 21]) (h' := (Z_46, (sm_up F 21 0 (0)), (sm_ups (sm_ups (sm_ups I 22 (fun _ => 0)) 23 (fun _ => 0)) 24 (fun _ => 0)), J)) ?_ rfl rfl rfl
  refine wp_putR (pc := 30) (ci := 4) (refs := [none, some 22, some 23, none, none, none, none, none, none, none, none, none]) 22 3 dX5_init_30 rfl flX5_22 rfl rfl rfl rfl (fun _ => ⟨rfl, rfl⟩) (by decide) (by decide) (by decide) ?_
  refine wp_to (h' := (Z_47, (sm_up F 21 0 (0)), (sm_ups (sm_ups (sm_ups I 22 (fun _ => 0)) 23 (fun _ => 0)) 24 (fun _ => 0)), J)) ?_ rfl rfl rfl
  refine wp_aload_n (pc := 33) 0 dX5_init_33 rfl rfl ?_
  refine wp_bipush (pc := 34) (10) dX5_init_34 (by decide) ?_
  refine wp_newI (pc := 36) (mc := 5) (ms := 32) 10 dX5_init_36 (by decide) (by decide) (by decide) ar_int (show Z_47.length < 900 by decide) ?_
  refine wp_to (st' := [.ref 25, .ref 21]) (h' := (Z_48, (sm_up F 21 0 (0)), (sm_ups (sm_ups (sm_ups (sm_ups I 22 (fun _ => 0)) 23 (fun _ => 0)) 24 (fun _ => 0)) 25 (fun _ => 0)), J)) ?_ rfl rfl rfl
  refine wp_putR (pc := 38) (ci := 4) (refs := [none, some 22, some 23, some 24, none, none, none, none, none, none, none, none]) 25 4 dX5_init_38 rfl flX5_25 rfl rfl rfl rfl (fun _ => ⟨rfl, rfl⟩) (by decide) (by decide) (by decide) ?_
  refine wp_to (h' := (Z_49, (sm_up F 21 0 (0)), (sm_ups (sm_ups (sm_ups (sm_ups I 22 (fun _ => 0)) 23 (fun _ => 0)) 24 (fun _ => 0)) 25 (fun _ => 0)), J)) ?_ rfl rfl rfl
  refine wp_aload_n (pc := 41) 0 dX5_init_41 rfl rfl ?_
  refine wp_iconst (pc := 42) (0) dX5_init_42 (by decide) ?_
  refine wq_putI (pc := 43) (ci := 4) (refs := [none, some 22, some 23, some 24, some 25, none, none, none, none, none, none, none]) 28 5 dX5_init_43 rfl flX5_28 rfl rfl (by decide) ?_
  refine wp_aload_n (pc := 46) 0 dX5_init_46 rfl rfl ?_
  refine wp_iconst (pc := 47) (0) dX5_init_47 (by decide) ?_
  refine wq_putI (pc := 48) (ci := 4) (refs := [none, some 22, some 23, some 24, some 25, none, none, none, none, none, none, none]) 31 6 dX5_init_48 rfl flX5_31 rfl rfl (by decide) ?_
  refine wp_aload_n (pc := 51) 0 dX5_init_51 rfl rfl ?_
  refine wp_iconst (pc := 52) (0) dX5_init_52 (by decide) ?_
  refine wq_putI (pc := 53) (ci := 4) (refs := [none, some 22, some 23, some 24, some 25, none, none, none, none, none, none, none]) 34 7 dX5_init_53 rfl flX5_34 rfl rfl (by decide) ?_
  refine wp_aload_n (pc := 56) 0 dX5_init_56 rfl rfl ?_
  refine wp_iconst (pc := 57) (0) dX5_init_57 (by decide) ?_
  refine wq_putI (pc := 58) (ci := 4) (refs := [none, some 22, some 23, some 24, some 25, none, none, none, none, none, none, none]) 37 8 dX5_init_58 rfl flX5_37 rfl rfl (by decide) ?_
  refine wp_aload_n (pc := 61) 0 dX5_init_61 rfl rfl ?_
  refine wp_iconst (pc := 62) (1) dX5_init_62 (by decide) ?_
  refine wq_putI (pc := 63) (ci := 4) (refs := [none, some 22, some 23, some 24, some 25, none, none, none, none, none, none, none]) 40 9 dX5_init_63 rfl flX5_40 rfl rfl (by decide) ?_
  refine wp_aload_n (pc := 66) 0 dX5_init_66 rfl rfl ?_
  refine wp_cnt (mc1 := 4 + 1) (ms1 := 28 + sm_N 0) (by decide) (by decide) (wp_new (pc := 67) (ci := 0) dX5_init_67 (by decide) clX5_43 nw0 inRX0 (show Z_49.length < 900 by decide) df_0 ?_)
  refine wp_to (st' := [.ref 26, .ref 21]) (h' := (Z_50, (sm_ups (sm_up (sm_up (sm_up (sm_up (sm_up (sm_up F 21 0 (0)) 21 5 (0)) 21 6 (0)) 21 7 (0)) 21 8 (0)) 21 9 (1)) 26 (fun _ => 0)), (sm_ups (sm_ups (sm_ups (sm_ups I 22 (fun _ => 0)) 23 (fun _ => 0)) 24 (fun _ => 0)) 25 (fun _ => 0)), J)) ?_ rfl rfl rfl
  refine wp_dup (pc := 70) dX5_init_70 rfl ?_
  refine wp_callIN (pc := 71) (k := 26) (as := []) (st := [.ref 26, .ref 21]) (mc1 := 3) (ms1 := 18) (mc2 := 1) (ms2 := 10) dX5_init_71 lkX5_45 rfl rfl (by decide) (by decide) (by decide) (by decide) ?_
  refine i_X0_26 (d := d) (fun F1 I1 hb1 hb2 hb3 hb4 => ?_)
  refine wp_putR (pc := 74) (ci := 4) (refs := [none, some 22, some 23, some 24, some 25, none, none, none, none, none, none, none]) 46 10 dX5_init_74 rfl flX5_46 rfl rfl rfl rfl (fun _ => ⟨rfl, rfl⟩) (by decide) (by decide) (by decide) ?_
  refine wp_to (h' := (Z_57, F1, I1, J)) ?_ rfl rfl rfl
  refine wp_aload_n (pc := 77) 0 dX5_init_77 rfl rfl ?_
  refine wp_bipush (pc := 78) (10) dX5_init_78 (by decide) ?_
  refine wp_newI (pc := 80) (mc := 0) (ms := 0) 10 dX5_init_80 (by decide) (by decide) (by decide) ar_int (show Z_57.length < 900 by decide) ?_
  refine wp_to (st' := [.ref 30, .ref 21]) (h' := (Z_58, F1, (sm_ups I1 30 (fun _ => 0)), J)) ?_ rfl rfl rfl
  refine wp_putR (pc := 82) (ci := 4) (refs := [none, some 22, some 23, some 24, some 25, none, none, none, none, none, some 26, none]) 50 11 dX5_init_82 rfl flX5_50 rfl rfl rfl rfl (fun _ => ⟨rfl, rfl⟩) (by decide) (by decide) (by decide) ?_
  refine wp_to (h' := (Z_59, F1, (sm_ups I1 30 (fun _ => 0)), J)) ?_ rfl rfl rfl
  refine wp_ret (pc := 85) dX5_init_85 rfl ?_
  have hF : ∀ j, F1 21 j = _ := fun j => congrFun (hb3 21 (by decide)) j
  refine k _ _ ⟨?_, ?_, ?_, ?_, ?_, ?_, ?_, fun i hi => ⟨?_, ?_, ?_, ?_⟩, fun r hr => ⟨?_, ?_, ?_⟩⟩ (fun a ha => ⟨?_, ?_⟩)
  · rw [hF]; simp [sm_up, sm_ups]; rfl
  · rw [hF, bn_f0]; simp [sm_up, sm_ups]; rfl
  · rw [hF]; simp [sm_up, sm_ups]; rfl
  · rw [hF]; simp [sm_up, sm_ups]; rfl
  · rw [hF]; simp [sm_up, sm_ups]; rfl
  · rw [hF]; simp [sm_up, sm_ups]; rfl
  · exact hb1.trans rfl
  · rw [show f0 (5 * i) = 0 from if_neg (by omega)]; simp [sm_ups, hb4 22 (by decide)]; rfl
  · rw [show f0 (5 * i + 1) = 0 from if_neg (by omega)]; simp [sm_ups, hb4 23 (by decide)]; rfl
  · rw [show f0 (5 * i + 4) = 0 from if_neg (by omega)]; simp [sm_ups, hb4 24 (by decide)]; rfl
  · rw [show f0 (5 * i + 2) = 0 from if_neg (by omega)]; simp [sm_ups, hb4 25 (by decide)]; rfl
  · rw [show f0 (50 + 3 * r) = 0 from if_neg (by omega)]; simp [sm_ups, (hb2 r).1]; rfl
  · rw [show f0 (50 + 3 * r + 1) = 0 from if_neg (by omega)]; simp [sm_ups, (hb2 r).2.1]; rfl
  · rw [show f0 (50 + 3 * r + 2) = 0 from if_neg (by omega)]; simp [sm_ups, (hb2 r).2.2]; rfl
  · rw [hb3 a (by omega)]; funext j; simp [sm_up, sm_ups, show a ≠ 21 by omega, show a ≠ 26 by omega]
  · funext j; simp [sm_ups, hb4 a (by omega), show a ≠ 30 by omega, show a ≠ 22 by omega, show a ≠ 23 by omega, show a ≠ 24 by omega, show a ≠ 25 by omega]
def Z_60 : sm_S := [(0, 5, [some 1, some 11, some 21, none, none, none, none, none]), (0, 4, [none, some 2, some 3, some 4, some 5, none, none, none, none, none, some 6, some 10]), (1, 10, []), (1, 10, []), (1, 10, []), (1, 10, []), (0, 0, [none, some 7, some 8, some 9]), (1, 6, []), (1, 6, []), (1, 6, []), (1, 10, []), (0, 4, [none, some 12, some 13, some 14, some 15, none, none, none, none, none, some 16, some 20]), (1, 10, []), (1, 10, []), (1, 10, []), (1, 10, []), (0, 0, [none, some 17, some 18, some 19]), (1, 6, []), (1, 6, []), (1, 6, []), (1, 10, []), (0, 4, [none, some 22, some 23, some 24, some 25, none, none, none, none, none, some 26, some 30]), (1, 10, []), (1, 10, []), (1, 10, []), (1, 10, []), (0, 0, [none, some 27, some 28, some 29]), (1, 6, []), (1, 6, []), (1, 6, []), (1, 10, [])]
def Z_61 : sm_S := [(0, 5, [some 1, some 11, some 21, none, none, none, none, none]), (0, 4, [none, some 2, some 3, some 4, some 5, none, none, none, none, none, some 6, some 10]), (1, 10, []), (1, 10, []), (1, 10, []), (1, 10, []), (0, 0, [none, some 7, some 8, some 9]), (1, 6, []), (1, 6, []), (1, 6, []), (1, 10, []), (0, 4, [none, some 12, some 13, some 14, some 15, none, none, none, none, none, some 16, some 20]), (1, 10, []), (1, 10, []), (1, 10, []), (1, 10, []), (0, 0, [none, some 17, some 18, some 19]), (1, 6, []), (1, 6, []), (1, 6, []), (1, 10, []), (0, 4, [none, some 22, some 23, some 24, some 25, none, none, none, none, none, some 26, some 30]), (1, 10, []), (1, 10, []), (1, 10, []), (1, 10, []), (0, 0, [none, some 27, some 28, some 29]), (1, 6, []), (1, 6, []), (1, 6, []), (1, 10, []), (0, 2, [none, none, none])]
def Z_62 : sm_S := [(0, 5, [some 1, some 11, some 21, none, none, none, none, none]), (0, 4, [none, some 2, some 3, some 4, some 5, none, none, none, none, none, some 6, some 10]), (1, 10, []), (1, 10, []), (1, 10, []), (1, 10, []), (0, 0, [none, some 7, some 8, some 9]), (1, 6, []), (1, 6, []), (1, 6, []), (1, 10, []), (0, 4, [none, some 12, some 13, some 14, some 15, none, none, none, none, none, some 16, some 20]), (1, 10, []), (1, 10, []), (1, 10, []), (1, 10, []), (0, 0, [none, some 17, some 18, some 19]), (1, 6, []), (1, 6, []), (1, 6, []), (1, 10, []), (0, 4, [none, some 22, some 23, some 24, some 25, none, none, none, none, none, some 26, some 30]), (1, 10, []), (1, 10, []), (1, 10, []), (1, 10, []), (0, 0, [none, some 27, some 28, some 29]), (1, 6, []), (1, 6, []), (1, 6, []), (1, 10, []), (0, 2, [none, none, none]), (1, 8, [])]
def Z_63 : sm_S := [(0, 5, [some 1, some 11, some 21, none, none, none, none, none]), (0, 4, [none, some 2, some 3, some 4, some 5, none, none, none, none, none, some 6, some 10]), (1, 10, []), (1, 10, []), (1, 10, []), (1, 10, []), (0, 0, [none, some 7, some 8, some 9]), (1, 6, []), (1, 6, []), (1, 6, []), (1, 10, []), (0, 4, [none, some 12, some 13, some 14, some 15, none, none, none, none, none, some 16, some 20]), (1, 10, []), (1, 10, []), (1, 10, []), (1, 10, []), (0, 0, [none, some 17, some 18, some 19]), (1, 6, []), (1, 6, []), (1, 6, []), (1, 10, []), (0, 4, [none, some 22, some 23, some 24, some 25, none, none, none, none, none, some 26, some 30]), (1, 10, []), (1, 10, []), (1, 10, []), (1, 10, []), (0, 0, [none, some 27, some 28, some 29]), (1, 6, []), (1, 6, []), (1, 6, []), (1, 10, []), (0, 2, [some 32, none, none]), (1, 8, [])]
def Z_64 : sm_S := [(0, 5, [some 1, some 11, some 21, none, none, none, none, none]), (0, 4, [none, some 2, some 3, some 4, some 5, none, none, none, none, none, some 6, some 10]), (1, 10, []), (1, 10, []), (1, 10, []), (1, 10, []), (0, 0, [none, some 7, some 8, some 9]), (1, 6, []), (1, 6, []), (1, 6, []), (1, 10, []), (0, 4, [none, some 12, some 13, some 14, some 15, none, none, none, none, none, some 16, some 20]), (1, 10, []), (1, 10, []), (1, 10, []), (1, 10, []), (0, 0, [none, some 17, some 18, some 19]), (1, 6, []), (1, 6, []), (1, 6, []), (1, 10, []), (0, 4, [none, some 22, some 23, some 24, some 25, none, none, none, none, none, some 26, some 30]), (1, 10, []), (1, 10, []), (1, 10, []), (1, 10, []), (0, 0, [none, some 27, some 28, some 29]), (1, 6, []), (1, 6, []), (1, 6, []), (1, 10, []), (0, 2, [some 32, none, none]), (1, 8, []), (1, 8, [])]
def Z_65 : sm_S := [(0, 5, [some 1, some 11, some 21, none, none, none, none, none]), (0, 4, [none, some 2, some 3, some 4, some 5, none, none, none, none, none, some 6, some 10]), (1, 10, []), (1, 10, []), (1, 10, []), (1, 10, []), (0, 0, [none, some 7, some 8, some 9]), (1, 6, []), (1, 6, []), (1, 6, []), (1, 10, []), (0, 4, [none, some 12, some 13, some 14, some 15, none, none, none, none, none, some 16, some 20]), (1, 10, []), (1, 10, []), (1, 10, []), (1, 10, []), (0, 0, [none, some 17, some 18, some 19]), (1, 6, []), (1, 6, []), (1, 6, []), (1, 10, []), (0, 4, [none, some 22, some 23, some 24, some 25, none, none, none, none, none, some 26, some 30]), (1, 10, []), (1, 10, []), (1, 10, []), (1, 10, []), (0, 0, [none, some 27, some 28, some 29]), (1, 6, []), (1, 6, []), (1, 6, []), (1, 10, []), (0, 2, [some 32, some 33, none]), (1, 8, []), (1, 8, [])]
def Z_66 : sm_S := [(0, 5, [some 1, some 11, some 21, none, none, none, none, none]), (0, 4, [none, some 2, some 3, some 4, some 5, none, none, none, none, none, some 6, some 10]), (1, 10, []), (1, 10, []), (1, 10, []), (1, 10, []), (0, 0, [none, some 7, some 8, some 9]), (1, 6, []), (1, 6, []), (1, 6, []), (1, 10, []), (0, 4, [none, some 12, some 13, some 14, some 15, none, none, none, none, none, some 16, some 20]), (1, 10, []), (1, 10, []), (1, 10, []), (1, 10, []), (0, 0, [none, some 17, some 18, some 19]), (1, 6, []), (1, 6, []), (1, 6, []), (1, 10, []), (0, 4, [none, some 22, some 23, some 24, some 25, none, none, none, none, none, some 26, some 30]), (1, 10, []), (1, 10, []), (1, 10, []), (1, 10, []), (0, 0, [none, some 27, some 28, some 29]), (1, 6, []), (1, 6, []), (1, 6, []), (1, 10, []), (0, 2, [some 32, some 33, none]), (1, 8, []), (1, 8, []), (2, 320, [])]
def Z_67 : sm_S := [(0, 5, [some 1, some 11, some 21, none, none, none, none, none]), (0, 4, [none, some 2, some 3, some 4, some 5, none, none, none, none, none, some 6, some 10]), (1, 10, []), (1, 10, []), (1, 10, []), (1, 10, []), (0, 0, [none, some 7, some 8, some 9]), (1, 6, []), (1, 6, []), (1, 6, []), (1, 10, []), (0, 4, [none, some 12, some 13, some 14, some 15, none, none, none, none, none, some 16, some 20]), (1, 10, []), (1, 10, []), (1, 10, []), (1, 10, []), (0, 0, [none, some 17, some 18, some 19]), (1, 6, []), (1, 6, []), (1, 6, []), (1, 10, []), (0, 4, [none, some 22, some 23, some 24, some 25, none, none, none, none, none, some 26, some 30]), (1, 10, []), (1, 10, []), (1, 10, []), (1, 10, []), (0, 0, [none, some 27, some 28, some 29]), (1, 6, []), (1, 6, []), (1, 6, []), (1, 10, []), (0, 2, [some 32, some 33, some 34]), (1, 8, []), (1, 8, []), (2, 320, [])]
theorem i_X3_31 {d : Nat} {F I : Nat → Nat → Int32} {J : Nat → Nat → Int64} {Q : Option Value → sm_H → Prop} (k : ∀ (F1 I1 : Nat → Nat → Int32) (J1 : Nat → Nat → Int64), (∀ j, j < 8 → I1 32 j = -1) → (∀ j, I1 33 j = 0) → (∀ j, J1 34 j = 0) → (∀ a, F1 a = F a) → (∀ a, a < 32 ∨ 33 < a → I1 a = I a) → (∀ a, a ≠ 34 → J1 a = J a) → Q none (Z_67, F1, I1, J1)) : Wp mX3_init (d + 1) 3 336 0 (sm_ini [.ref 31] 2) [] (Z_61, F, I, J) Q := by
  show Wp _ _ _ _ _ [.ref 31, .null] _ _ _
  refine wp_aload_n (pc := 0) 0 dX3_init_0 rfl rfl ?_
  refine wp_obj (pc := 1) dX3_init_1 ob_RX3 (by decide) (by omega) ?_
  refine wp_aload_n (pc := 4) 0 dX3_init_4 rfl rfl ?_
  refine wp_bipush (pc := 5) (8) dX3_init_5 (by decide) ?_
  refine wp_newI (pc := 7) (mc := 2) (ms := 328) 8 dX3_init_7 (by decide) (by decide) (by decide) ar_int (show Z_61.length < 900 by decide) ?_
  refine wp_to (st' := [.ref 32, .ref 31]) (h' := (Z_62, F, (sm_ups I 32 (fun _ => 0)), J)) ?_ rfl rfl rfl
  refine wp_putR (pc := 9) (ci := 2) (refs := [none, none, none]) 11 0 dX3_init_9 rfl flX3_11 rfl rfl rfl rfl (fun _ => ⟨rfl, rfl⟩) (by decide) (by decide) (by decide) ?_
  refine wp_to (h' := (Z_63, F, (sm_ups I 32 (fun _ => 0)), J)) ?_ rfl rfl rfl
  refine wp_aload_n (pc := 12) 0 dX3_init_12 rfl rfl ?_
  refine wp_bipush (pc := 13) (8) dX3_init_13 (by decide) ?_
  refine wp_newI (pc := 15) (mc := 1) (ms := 320) 8 dX3_init_15 (by decide) (by decide) (by decide) ar_int (show Z_63.length < 900 by decide) ?_
  refine wp_to (st' := [.ref 33, .ref 31]) (h' := (Z_64, F, (sm_ups (sm_ups I 32 (fun _ => 0)) 33 (fun _ => 0)), J)) ?_ rfl rfl rfl
  refine wp_putR (pc := 17) (ci := 2) (refs := [some 32, none, none]) 15 1 dX3_init_17 rfl flX3_15 rfl rfl rfl rfl (fun _ => ⟨rfl, rfl⟩) (by decide) (by decide) (by decide) ?_
  refine wp_to (h' := (Z_65, F, (sm_ups (sm_ups I 32 (fun _ => 0)) 33 (fun _ => 0)), J)) ?_ rfl rfl rfl
  refine wp_aload_n (pc := 20) 0 dX3_init_20 rfl rfl ?_
  refine wp_sipush (pc := 21) (320) dX3_init_21 (by decide) ?_
  refine wp_newL (pc := 24) (mc := 0) (ms := 0) 320 dX3_init_24 (by decide) (by decide) (by decide) ar_long (show Z_65.length < 900 by decide) ?_
  refine wp_to (st' := [.ref 34, .ref 31]) (h' := (Z_66, F, (sm_ups (sm_ups I 32 (fun _ => 0)) 33 (fun _ => 0)), (sm_ups J 34 (fun _ => 0)))) ?_ rfl rfl rfl
  refine wp_putR (pc := 26) (ci := 2) (refs := [some 32, some 33, none]) 18 2 dX3_init_26 rfl flX3_18 rfl rfl rfl rfl (fun _ => ⟨rfl, rfl⟩) (by decide) (by decide) (by decide) ?_
  refine wp_to (h' := (Z_67, F, (sm_ups (sm_ups I 32 (fun _ => 0)) 33 (fun _ => 0)), (sm_ups J 34 (fun _ => 0)))) ?_ rfl rfl rfl
  refine wp_iconst (pc := 29) (0) dX3_init_29 (by decide) ?_
  refine wp_istore_n (pc := 30) 1 dX3_init_30 rfl (by decide) rfl ?_
  refine wp_to (h' := (Z_67, F, rwI (sm_ups (sm_ups I 32 (fun _ => 0)) 33 (fun _ => 0)) 32 (fun _ => (-1 : Int32)) 0, (sm_ups J 34 (fun _ => 0)))) ?_ rfl rfl (by rw [rwI_0])
  refine wp_loop (fun i => [.ref 31, .int (nI i)]) (fun i => (Z_67, F, rwI (sm_ups (sm_ups I 32 (fun _ => 0)) 33 (fun _ => 0)) 32 (fun _ => (-1 : Int32)) i, (sm_ups J 34 (fun _ => 0)))) (fun _ => True) 8 (fun i hi hv nx => ?_) (fun hv => ?_) 0 (Nat.zero_le _) trivial
  · refine wp_iload_n (pc := 31) 1 dX3_init_31 rfl rfl ?_
    refine wp_aload_n (pc := 32) 0 dX3_init_32 rfl rfl ?_
    refine wq_getR (pc := 33) (ci := 2) (refs := [some 32, some 33, some 34]) 11 0 dX3_init_33 rfl flX3_11 rfl rfl (by decide) (by decide) ?_
    refine wp_alenI (pc := 36) (n := 8) (r := []) 8 dX3_init_36 rfl (by decide) (by decide) ?_
    refine wp_icmp_ge (pc := 37) 53 dX3_init_37 (by decide) (fun c_37 => ?_) (fun c_37 => ?_)
    · exact absurd c_37 (nI_ge (b := 8) hi (by decide))
    · refine wp_aload_n (pc := 40) 0 dX3_init_40 rfl rfl ?_
      refine wq_getR (pc := 41) (ci := 2) (refs := [some 32, some 33, some 34]) 11 0 dX3_init_41 rfl flX3_11 rfl rfl (by decide) (by decide) ?_
      refine wp_iload_n (pc := 44) 1 dX3_init_44 rfl rfl ?_
      refine wp_iconst (pc := 45) (-1) dX3_init_45 (by decide) ?_
      refine wq_iast (pc := 46) (N := 8) (r := []) i dX3_init_46 rfl (by decide) rfl hi (by decide) ?_
      refine wp_incN (pc := 47) 1 dX3_init_47 rfl (by decide) rfl ?_
      refine wp_goto (pc := 50) 31 dX3_init_50 (by decide) ?_
      have nx := nx trivial
      rw [← rwI_s] at nx
      exact nx
  · refine wp_iload_n (pc := 31) 1 dX3_init_31 rfl rfl ?_
    refine wp_aload_n (pc := 32) 0 dX3_init_32 rfl rfl ?_
    refine wq_getR (pc := 33) (ci := 2) (refs := [some 32, some 33, some 34]) 11 0 dX3_init_33 rfl flX3_11 rfl rfl (by decide) (by decide) ?_
    refine wp_alenI (pc := 36) (n := 8) (r := []) 8 dX3_init_36 rfl (by decide) (by decide) ?_
    refine wp_icmp_ge (pc := 37) 53 dX3_init_37 (by decide) (fun c_37 => ?_) (fun c_37 => ?_)
    · refine wp_ret (pc := 53) dX3_init_53 rfl ?_
      exact k _ _ _ (fun j hj => rwI_at hj) (fun j => by rw [rwI_ne (by decide)]; simp [sm_ups]) (fun j => by simp [sm_ups]) (fun a => rfl) (fun a ha => by rw [rwI_ne (by omega)]; funext j; simp [sm_ups, show a ≠ 32 by omega, show a ≠ 33 by omega]) (fun a ha => sm_ups_ne ha)
    · exact absurd (by decide) c_37
def Z_68 : sm_S := [(0, 5, [some 1, some 11, some 21, some 31, none, none, none, none]), (0, 4, [none, some 2, some 3, some 4, some 5, none, none, none, none, none, some 6, some 10]), (1, 10, []), (1, 10, []), (1, 10, []), (1, 10, []), (0, 0, [none, some 7, some 8, some 9]), (1, 6, []), (1, 6, []), (1, 6, []), (1, 10, []), (0, 4, [none, some 12, some 13, some 14, some 15, none, none, none, none, none, some 16, some 20]), (1, 10, []), (1, 10, []), (1, 10, []), (1, 10, []), (0, 0, [none, some 17, some 18, some 19]), (1, 6, []), (1, 6, []), (1, 6, []), (1, 10, []), (0, 4, [none, some 22, some 23, some 24, some 25, none, none, none, none, none, some 26, some 30]), (1, 10, []), (1, 10, []), (1, 10, []), (1, 10, []), (0, 0, [none, some 27, some 28, some 29]), (1, 6, []), (1, 6, []), (1, 6, []), (1, 10, []), (0, 2, [some 32, some 33, some 34]), (1, 8, []), (1, 8, []), (2, 320, [])]
def Z_69 : sm_S := [(0, 5, [some 1, some 11, some 21, some 31, none, none, none, none]), (0, 4, [none, some 2, some 3, some 4, some 5, none, none, none, none, none, some 6, some 10]), (1, 10, []), (1, 10, []), (1, 10, []), (1, 10, []), (0, 0, [none, some 7, some 8, some 9]), (1, 6, []), (1, 6, []), (1, 6, []), (1, 10, []), (0, 4, [none, some 12, some 13, some 14, some 15, none, none, none, none, none, some 16, some 20]), (1, 10, []), (1, 10, []), (1, 10, []), (1, 10, []), (0, 0, [none, some 17, some 18, some 19]), (1, 6, []), (1, 6, []), (1, 6, []), (1, 10, []), (0, 4, [none, some 22, some 23, some 24, some 25, none, none, none, none, none, some 26, some 30]), (1, 10, []), (1, 10, []), (1, 10, []), (1, 10, []), (0, 0, [none, some 27, some 28, some 29]), (1, 6, []), (1, 6, []), (1, 6, []), (1, 10, []), (0, 2, [some 32, some 33, some 34]), (1, 8, []), (1, 8, []), (2, 320, []), (0, 3, [none, none])]
def Z_70 : sm_S := [(0, 5, [some 1, some 11, some 21, some 31, none, none, none, none]), (0, 4, [none, some 2, some 3, some 4, some 5, none, none, none, none, none, some 6, some 10]), (1, 10, []), (1, 10, []), (1, 10, []), (1, 10, []), (0, 0, [none, some 7, some 8, some 9]), (1, 6, []), (1, 6, []), (1, 6, []), (1, 10, []), (0, 4, [none, some 12, some 13, some 14, some 15, none, none, none, none, none, some 16, some 20]), (1, 10, []), (1, 10, []), (1, 10, []), (1, 10, []), (0, 0, [none, some 17, some 18, some 19]), (1, 6, []), (1, 6, []), (1, 6, []), (1, 10, []), (0, 4, [none, some 22, some 23, some 24, some 25, none, none, none, none, none, some 26, some 30]), (1, 10, []), (1, 10, []), (1, 10, []), (1, 10, []), (0, 0, [none, some 27, some 28, some 29]), (1, 6, []), (1, 6, []), (1, 6, []), (1, 10, []), (0, 2, [some 32, some 33, some 34]), (1, 8, []), (1, 8, []), (2, 320, []), (0, 3, [none, none]), (1, 250, [])]
def Z_71 : sm_S := [(0, 5, [some 1, some 11, some 21, some 31, none, none, none, none]), (0, 4, [none, some 2, some 3, some 4, some 5, none, none, none, none, none, some 6, some 10]), (1, 10, []), (1, 10, []), (1, 10, []), (1, 10, []), (0, 0, [none, some 7, some 8, some 9]), (1, 6, []), (1, 6, []), (1, 6, []), (1, 10, []), (0, 4, [none, some 12, some 13, some 14, some 15, none, none, none, none, none, some 16, some 20]), (1, 10, []), (1, 10, []), (1, 10, []), (1, 10, []), (0, 0, [none, some 17, some 18, some 19]), (1, 6, []), (1, 6, []), (1, 6, []), (1, 10, []), (0, 4, [none, some 22, some 23, some 24, some 25, none, none, none, none, none, some 26, some 30]), (1, 10, []), (1, 10, []), (1, 10, []), (1, 10, []), (0, 0, [none, some 27, some 28, some 29]), (1, 6, []), (1, 6, []), (1, 6, []), (1, 10, []), (0, 2, [some 32, some 33, some 34]), (1, 8, []), (1, 8, []), (2, 320, []), (0, 3, [none, some 36]), (1, 250, [])]
theorem i_X4_35 {d : Nat} {F I : Nat → Nat → Int32} {J : Nat → Nat → Int64} {Q : Option Value → sm_H → Prop} (k : ∀ F1 I1 : Nat → Nat → Int32, F1 35 0 = 0 → (∀ j, I1 36 j = 0) → (∀ a, a ≠ 35 → F1 a = F a) → (∀ a, a ≠ 36 → I1 a = I a) → Q none (Z_71, F1, I1, J)) : Wp mX4_init (d + 1) 1 250 0 (sm_ini [.ref 35] 1) [] (Z_69, F, I, J) Q := by
  show Wp _ _ _ _ _ [.ref 35] _ _ _
  refine wp_aload_n (pc := 0) 0 dX4_init_0 rfl rfl ?_
  refine wp_obj (pc := 1) dX4_init_1 ob_RX4 (by decide) (by omega) ?_
  refine wp_aload_n (pc := 4) 0 dX4_init_4 rfl rfl ?_
  refine wp_iconst (pc := 5) (0) dX4_init_5 (by decide) ?_
  refine wq_putI (pc := 6) (ci := 3) (refs := [none, none]) 9 0 dX4_init_6 rfl flX4_9 rfl rfl (by decide) ?_
  refine wp_aload_n (pc := 9) 0 dX4_init_9 rfl rfl ?_
  refine wp_sipush (pc := 10) (250) dX4_init_10 (by decide) ?_
  refine wp_newI (pc := 13) (mc := 0) (ms := 0) 250 dX4_init_13 (by decide) (by decide) (by decide) ar_int (show Z_69.length < 900 by decide) ?_
  refine wp_to (st' := [.ref 36, .ref 35]) (h' := (Z_70, (sm_up F 35 0 (0)), (sm_ups I 36 (fun _ => 0)), J)) ?_ rfl rfl rfl
  refine wp_putR (pc := 15) (ci := 3) (refs := [none, none]) 15 1 dX4_init_15 rfl flX4_15 rfl rfl rfl rfl (fun _ => ⟨rfl, rfl⟩) (by decide) (by decide) (by decide) ?_
  refine wp_to (h' := (Z_71, (sm_up F 35 0 (0)), (sm_ups I 36 (fun _ => 0)), J)) ?_ rfl rfl rfl
  refine wp_ret (pc := 18) dX4_init_18 rfl ?_
  exact k _ _ up_eq (fun j => by simp [sm_ups]) (fun a ha => sm_up_ne ha) (fun a ha => sm_ups_ne ha)
def Z_72 : sm_S := [(0, 5, [some 1, some 11, some 21, some 31, some 35, none, none, none]), (0, 4, [none, some 2, some 3, some 4, some 5, none, none, none, none, none, some 6, some 10]), (1, 10, []), (1, 10, []), (1, 10, []), (1, 10, []), (0, 0, [none, some 7, some 8, some 9]), (1, 6, []), (1, 6, []), (1, 6, []), (1, 10, []), (0, 4, [none, some 12, some 13, some 14, some 15, none, none, none, none, none, some 16, some 20]), (1, 10, []), (1, 10, []), (1, 10, []), (1, 10, []), (0, 0, [none, some 17, some 18, some 19]), (1, 6, []), (1, 6, []), (1, 6, []), (1, 10, []), (0, 4, [none, some 22, some 23, some 24, some 25, none, none, none, none, none, some 26, some 30]), (1, 10, []), (1, 10, []), (1, 10, []), (1, 10, []), (0, 0, [none, some 27, some 28, some 29]), (1, 6, []), (1, 6, []), (1, 6, []), (1, 10, []), (0, 2, [some 32, some 33, some 34]), (1, 8, []), (1, 8, []), (2, 320, []), (0, 3, [none, some 36]), (1, 250, [])]
def Z_73 : sm_S := [(0, 5, [some 1, some 11, some 21, some 31, some 35, none, none, none]), (0, 4, [none, some 2, some 3, some 4, some 5, none, none, none, none, none, some 6, some 10]), (1, 10, []), (1, 10, []), (1, 10, []), (1, 10, []), (0, 0, [none, some 7, some 8, some 9]), (1, 6, []), (1, 6, []), (1, 6, []), (1, 10, []), (0, 4, [none, some 12, some 13, some 14, some 15, none, none, none, none, none, some 16, some 20]), (1, 10, []), (1, 10, []), (1, 10, []), (1, 10, []), (0, 0, [none, some 17, some 18, some 19]), (1, 6, []), (1, 6, []), (1, 6, []), (1, 10, []), (0, 4, [none, some 22, some 23, some 24, some 25, none, none, none, none, none, some 26, some 30]), (1, 10, []), (1, 10, []), (1, 10, []), (1, 10, []), (0, 0, [none, some 27, some 28, some 29]), (1, 6, []), (1, 6, []), (1, 6, []), (1, 10, []), (0, 2, [some 32, some 33, some 34]), (1, 8, []), (1, 8, []), (2, 320, []), (0, 3, [none, some 36]), (1, 250, []), (0, 1, [none, none, none, none, none, none])]
def Z_74 : sm_S := [(0, 5, [some 1, some 11, some 21, some 31, some 35, none, none, none]), (0, 4, [none, some 2, some 3, some 4, some 5, none, none, none, none, none, some 6, some 10]), (1, 10, []), (1, 10, []), (1, 10, []), (1, 10, []), (0, 0, [none, some 7, some 8, some 9]), (1, 6, []), (1, 6, []), (1, 6, []), (1, 10, []), (0, 4, [none, some 12, some 13, some 14, some 15, none, none, none, none, none, some 16, some 20]), (1, 10, []), (1, 10, []), (1, 10, []), (1, 10, []), (0, 0, [none, some 17, some 18, some 19]), (1, 6, []), (1, 6, []), (1, 6, []), (1, 10, []), (0, 4, [none, some 22, some 23, some 24, some 25, none, none, none, none, none, some 26, some 30]), (1, 10, []), (1, 10, []), (1, 10, []), (1, 10, []), (0, 0, [none, some 27, some 28, some 29]), (1, 6, []), (1, 6, []), (1, 6, []), (1, 10, []), (0, 2, [some 32, some 33, some 34]), (1, 8, []), (1, 8, []), (2, 320, []), (0, 3, [none, some 36]), (1, 250, []), (0, 1, [none, none, none, none, none, none]), (1, 3, [])]
def Z_75 : sm_S := [(0, 5, [some 1, some 11, some 21, some 31, some 35, none, none, none]), (0, 4, [none, some 2, some 3, some 4, some 5, none, none, none, none, none, some 6, some 10]), (1, 10, []), (1, 10, []), (1, 10, []), (1, 10, []), (0, 0, [none, some 7, some 8, some 9]), (1, 6, []), (1, 6, []), (1, 6, []), (1, 10, []), (0, 4, [none, some 12, some 13, some 14, some 15, none, none, none, none, none, some 16, some 20]), (1, 10, []), (1, 10, []), (1, 10, []), (1, 10, []), (0, 0, [none, some 17, some 18, some 19]), (1, 6, []), (1, 6, []), (1, 6, []), (1, 10, []), (0, 4, [none, some 22, some 23, some 24, some 25, none, none, none, none, none, some 26, some 30]), (1, 10, []), (1, 10, []), (1, 10, []), (1, 10, []), (0, 0, [none, some 27, some 28, some 29]), (1, 6, []), (1, 6, []), (1, 6, []), (1, 10, []), (0, 2, [some 32, some 33, some 34]), (1, 8, []), (1, 8, []), (2, 320, []), (0, 3, [none, some 36]), (1, 250, []), (0, 1, [none, none, none, none, none, some 38]), (1, 3, [])]
theorem i_X2_37 {d : Nat} {F I : Nat → Nat → Int32} {J : Nat → Nat → Int64} {Q : Option Value → sm_H → Prop} (k : ∀ F1 I1 : Nat → Nat → Int32, (∀ a, a ≠ 37 → F1 a = F a) → (∀ a, a ≠ 38 → I1 a = I a) → Q none (Z_75, F1, I1, J)) : Wp mX2_init (d + 1) 1 3 0 (sm_ini [.ref 37] 1) [] (Z_73, F, I, J) Q := by
  show Wp _ _ _ _ _ [.ref 37] _ _ _
  refine wp_aload_n (pc := 0) 0 dX2_init_0 rfl rfl ?_
  refine wp_obj (pc := 1) dX2_init_1 ob_RX2 (by decide) (by omega) ?_
  refine wp_aload_n (pc := 4) 0 dX2_init_4 rfl rfl ?_
  refine wp_iconst (pc := 5) (-1) dX2_init_5 (by decide) ?_
  refine wq_putI (pc := 6) (ci := 1) (refs := [none, none, none, none, none, none]) 9 0 dX2_init_6 rfl flX2_9 rfl rfl (by decide) ?_
  refine wp_aload_n (pc := 9) 0 dX2_init_9 rfl rfl ?_
  refine wp_iconst (pc := 10) (0) dX2_init_10 (by decide) ?_
  refine wq_putI (pc := 11) (ci := 1) (refs := [none, none, none, none, none, none]) 15 1 dX2_init_11 rfl flX2_15 rfl rfl (by decide) ?_
  refine wp_aload_n (pc := 14) 0 dX2_init_14 rfl rfl ?_
  refine wp_iconst (pc := 15) (0) dX2_init_15 (by decide) ?_
  refine wq_putI (pc := 16) (ci := 1) (refs := [none, none, none, none, none, none]) 18 2 dX2_init_16 rfl flX2_18 rfl rfl (by decide) ?_
  refine wp_aload_n (pc := 19) 0 dX2_init_19 rfl rfl ?_
  refine wp_iconst (pc := 20) (0) dX2_init_20 (by decide) ?_
  refine wq_putI (pc := 21) (ci := 1) (refs := [none, none, none, none, none, none]) 21 3 dX2_init_21 rfl flX2_21 rfl rfl (by decide) ?_
  refine wp_aload_n (pc := 24) 0 dX2_init_24 rfl rfl ?_
  refine wp_iconst (pc := 25) (0) dX2_init_25 (by decide) ?_
  refine wq_putI (pc := 26) (ci := 1) (refs := [none, none, none, none, none, none]) 24 4 dX2_init_26 rfl flX2_24 rfl rfl (by decide) ?_
  refine wp_aload_n (pc := 29) 0 dX2_init_29 rfl rfl ?_
  refine wp_iconst (pc := 30) (3) dX2_init_30 (by decide) ?_
  refine wp_newI (pc := 31) (mc := 0) (ms := 0) 3 dX2_init_31 (by decide) (by decide) (by decide) ar_int (show Z_73.length < 900 by decide) ?_
  refine wp_to (st' := [.ref 38, .ref 37]) (h' := (Z_74, (sm_up (sm_up (sm_up (sm_up (sm_up F 37 0 (-1)) 37 1 (0)) 37 2 (0)) 37 3 (0)) 37 4 (0)), (sm_ups I 38 (fun _ => 0)), J)) ?_ rfl rfl rfl
  refine wp_putR (pc := 33) (ci := 1) (refs := [none, none, none, none, none, none]) 27 5 dX2_init_33 rfl flX2_27 rfl rfl rfl rfl (fun _ => ⟨rfl, rfl⟩) (by decide) (by decide) (by decide) ?_
  refine wp_to (h' := (Z_75, (sm_up (sm_up (sm_up (sm_up (sm_up F 37 0 (-1)) 37 1 (0)) 37 2 (0)) 37 3 (0)) 37 4 (0)), (sm_ups I 38 (fun _ => 0)), J)) ?_ rfl rfl rfl
  refine wp_ret (pc := 36) dX2_init_36 rfl ?_
  exact k _ _ (fun a ha => by funext j; simp [sm_up, ha]) (fun a ha => sm_ups_ne ha)
def Z_76 : sm_S := [(0, 5, [some 1, some 11, some 21, some 31, some 35, some 37, none, none]), (0, 4, [none, some 2, some 3, some 4, some 5, none, none, none, none, none, some 6, some 10]), (1, 10, []), (1, 10, []), (1, 10, []), (1, 10, []), (0, 0, [none, some 7, some 8, some 9]), (1, 6, []), (1, 6, []), (1, 6, []), (1, 10, []), (0, 4, [none, some 12, some 13, some 14, some 15, none, none, none, none, none, some 16, some 20]), (1, 10, []), (1, 10, []), (1, 10, []), (1, 10, []), (0, 0, [none, some 17, some 18, some 19]), (1, 6, []), (1, 6, []), (1, 6, []), (1, 10, []), (0, 4, [none, some 22, some 23, some 24, some 25, none, none, none, none, none, some 26, some 30]), (1, 10, []), (1, 10, []), (1, 10, []), (1, 10, []), (0, 0, [none, some 27, some 28, some 29]), (1, 6, []), (1, 6, []), (1, 6, []), (1, 10, []), (0, 2, [some 32, some 33, some 34]), (1, 8, []), (1, 8, []), (2, 320, []), (0, 3, [none, some 36]), (1, 250, []), (0, 1, [none, none, none, none, none, some 38]), (1, 3, [])]
def Z_77 : sm_S := [(0, 5, [some 1, some 11, some 21, some 31, some 35, some 37, none, none]), (0, 4, [none, some 2, some 3, some 4, some 5, none, none, none, none, none, some 6, some 10]), (1, 10, []), (1, 10, []), (1, 10, []), (1, 10, []), (0, 0, [none, some 7, some 8, some 9]), (1, 6, []), (1, 6, []), (1, 6, []), (1, 10, []), (0, 4, [none, some 12, some 13, some 14, some 15, none, none, none, none, none, some 16, some 20]), (1, 10, []), (1, 10, []), (1, 10, []), (1, 10, []), (0, 0, [none, some 17, some 18, some 19]), (1, 6, []), (1, 6, []), (1, 6, []), (1, 10, []), (0, 4, [none, some 22, some 23, some 24, some 25, none, none, none, none, none, some 26, some 30]), (1, 10, []), (1, 10, []), (1, 10, []), (1, 10, []), (0, 0, [none, some 27, some 28, some 29]), (1, 6, []), (1, 6, []), (1, 6, []), (1, 10, []), (0, 2, [some 32, some 33, some 34]), (1, 8, []), (1, 8, []), (2, 320, []), (0, 3, [none, some 36]), (1, 250, []), (0, 1, [none, none, none, none, none, some 38]), (1, 3, []), (1, 5, [])]
def Z_78 : sm_S := [(0, 5, [some 1, some 11, some 21, some 31, some 35, some 37, some 39, none]), (0, 4, [none, some 2, some 3, some 4, some 5, none, none, none, none, none, some 6, some 10]), (1, 10, []), (1, 10, []), (1, 10, []), (1, 10, []), (0, 0, [none, some 7, some 8, some 9]), (1, 6, []), (1, 6, []), (1, 6, []), (1, 10, []), (0, 4, [none, some 12, some 13, some 14, some 15, none, none, none, none, none, some 16, some 20]), (1, 10, []), (1, 10, []), (1, 10, []), (1, 10, []), (0, 0, [none, some 17, some 18, some 19]), (1, 6, []), (1, 6, []), (1, 6, []), (1, 10, []), (0, 4, [none, some 22, some 23, some 24, some 25, none, none, none, none, none, some 26, some 30]), (1, 10, []), (1, 10, []), (1, 10, []), (1, 10, []), (0, 0, [none, some 27, some 28, some 29]), (1, 6, []), (1, 6, []), (1, 6, []), (1, 10, []), (0, 2, [some 32, some 33, some 34]), (1, 8, []), (1, 8, []), (2, 320, []), (0, 3, [none, some 36]), (1, 250, []), (0, 1, [none, none, none, none, none, some 38]), (1, 3, []), (1, 5, [])]
def s0 : Sg := (f0, f0, false, fun _ => 0, (0, fun _ => 0), fun _ => none, fun _ => 0, fun _ => 0)
theorem i_X6 {d : Nat} {F I : Nat → Nat → Int32} {J : Nat → Nat → Int64} {Q : Option Value → sm_H → Prop} (k : ∀ (F1 I1 : Nat → Nat → Int32) (J1 : Nat → Nat → Int64), CR s0 F1 I1 J1 → Q none (Z_78, F1, I1, J1)) : Wp mX6_init (d + 3) 39 857 0 (sm_ini [.ref 0] 1) [] (Z_0, F, I, J) Q := by
  show Wp _ _ _ _ _ [.ref 0] _ _ _
  refine wp_aload_n (pc := 0) 0 dX6_init_0 rfl rfl ?_
  refine wp_obj (pc := 1) dX6_init_1 ob_RX6 (by decide) (by omega) ?_
  refine wp_aload_n (pc := 4) 0 dX6_init_4 rfl rfl ?_
  refine wp_cnt (mc1 := 38 + 1) (ms1 := 845 + sm_N 4) (by decide) (by decide) (wp_new (pc := 5) (ci := 4) dX6_init_5 (by decide) clX6_7 nw4 inRX5 (show Z_0.length < 900 by decide) df_4 ?_)
  refine wp_to (st' := [.ref 1, .ref 0]) (h' := (Z_1, (sm_ups F 1 (fun _ => 0)), I, J)) ?_ rfl rfl rfl
  refine wp_dup (pc := 8) dX6_init_8 rfl ?_
  refine wp_callIN (pc := 9) (k := 1) (as := []) (st := [.ref 1, .ref 0]) (mc1 := 9) (ms1 := 72) (mc2 := 29) (ms2 := 773) dX6_init_9 lkX6_9 rfl rfl (by decide) (by decide) (by decide) (by decide) ?_
  refine i_X5_1 (d := d) (fun F1 I1 ht1 hf1 => ?_)
  refine wp_putR (pc := 12) (ci := 5) (refs := [none, none, none, none, none, none, none, none]) 10 0 dX6_init_12 rfl flX6_10 rfl rfl rfl rfl (fun _ => ⟨rfl, rfl⟩) (by decide) (by decide) (by decide) ?_
  refine wp_to (h' := (Z_20, F1, I1, J)) ?_ rfl rfl rfl
  refine wp_aload_n (pc := 15) 0 dX6_init_15 rfl rfl ?_
  refine wp_cnt (mc1 := 28 + 1) (ms1 := 761 + sm_N 4) (by decide) (by decide) (wp_new (pc := 16) (ci := 4) dX6_init_16 (by decide) clX6_7 nw4 inRX5 (show Z_20.length < 900 by decide) df_4 ?_)
  refine wp_to (st' := [.ref 11, .ref 0]) (h' := (Z_21, (sm_ups F1 11 (fun _ => 0)), I1, J)) ?_ rfl rfl rfl
  refine wp_dup (pc := 19) dX6_init_19 rfl ?_
  refine wp_callIN (pc := 20) (k := 11) (as := []) (st := [.ref 11, .ref 0]) (mc1 := 9) (ms1 := 72) (mc2 := 19) (ms2 := 689) dX6_init_20 lkX6_9 rfl rfl (by decide) (by decide) (by decide) (by decide) ?_
  refine i_X5_11 (d := d) (fun F11 I11 ht11 hf11 => ?_)
  refine wp_putR (pc := 23) (ci := 5) (refs := [some 1, none, none, none, none, none, none, none]) 16 1 dX6_init_23 rfl flX6_16 rfl rfl rfl rfl (fun _ => ⟨rfl, rfl⟩) (by decide) (by decide) (by decide) ?_
  refine wp_to (h' := (Z_40, F11, I11, J)) ?_ rfl rfl rfl
  refine wp_aload_n (pc := 26) 0 dX6_init_26 rfl rfl ?_
  refine wp_cnt (mc1 := 18 + 1) (ms1 := 677 + sm_N 4) (by decide) (by decide) (wp_new (pc := 27) (ci := 4) dX6_init_27 (by decide) clX6_7 nw4 inRX5 (show Z_40.length < 900 by decide) df_4 ?_)
  refine wp_to (st' := [.ref 21, .ref 0]) (h' := (Z_41, (sm_ups F11 21 (fun _ => 0)), I11, J)) ?_ rfl rfl rfl
  refine wp_dup (pc := 30) dX6_init_30 rfl ?_
  refine wp_callIN (pc := 31) (k := 21) (as := []) (st := [.ref 21, .ref 0]) (mc1 := 9) (ms1 := 72) (mc2 := 9) (ms2 := 605) dX6_init_31 lkX6_9 rfl rfl (by decide) (by decide) (by decide) (by decide) ?_
  refine i_X5_21 (d := d) (fun F21 I21 ht21 hf21 => ?_)
  refine wp_putR (pc := 34) (ci := 5) (refs := [some 1, some 11, none, none, none, none, none, none]) 19 2 dX6_init_34 rfl flX6_19 rfl rfl rfl rfl (fun _ => ⟨rfl, rfl⟩) (by decide) (by decide) (by decide) ?_
  refine wp_to (h' := (Z_60, F21, I21, J)) ?_ rfl rfl rfl
  refine wp_aload_n (pc := 37) 0 dX6_init_37 rfl rfl ?_
  refine wp_cnt (mc1 := 8 + 1) (ms1 := 602 + sm_N 2) (by decide) (by decide) (wp_new (pc := 38) (ci := 2) dX6_init_38 (by decide) clX6_22 nw2 inRX3 (show Z_60.length < 900 by decide) df_2 ?_)
  refine wp_to (st' := [.ref 31, .ref 0]) (h' := (Z_61, (sm_ups F21 31 (fun _ => 0)), I21, J)) ?_ rfl rfl rfl
  refine wp_dup (pc := 41) dX6_init_41 rfl ?_
  refine wp_callI (pc := 42) (k := 31) (as := []) (st := [.ref 31, .ref 0]) (mc1 := 3) (ms1 := 336) (mc2 := 5) (ms2 := 266) dX6_init_42 lkX6_24 rfl rfl (by decide) (by decide) (by decide) (by decide) ?_
  refine i_X3_31 (d := d + 1) (fun F31 I31 J31 ha31 hb31 hc31 hd31 he31 hf31 => ?_)
  refine wp_putR (pc := 45) (ci := 5) (refs := [some 1, some 11, some 21, none, none, none, none, none]) 25 3 dX6_init_45 rfl flX6_25 rfl rfl rfl rfl (fun _ => ⟨rfl, rfl⟩) (by decide) (by decide) (by decide) ?_
  refine wp_to (h' := (Z_68, F31, I31, J31)) ?_ rfl rfl rfl
  refine wp_aload_n (pc := 48) 0 dX6_init_48 rfl rfl ?_
  refine wp_cnt (mc1 := 4 + 1) (ms1 := 264 + sm_N 3) (by decide) (by decide) (wp_new (pc := 49) (ci := 3) dX6_init_49 (by decide) clX6_29 nw3 inRX4 (show Z_68.length < 900 by decide) df_3 ?_)
  refine wp_to (st' := [.ref 35, .ref 0]) (h' := (Z_69, (sm_ups F31 35 (fun _ => 0)), I31, J31)) ?_ rfl rfl rfl
  refine wp_dup (pc := 52) dX6_init_52 rfl ?_
  refine wp_callIN (pc := 53) (k := 35) (as := []) (st := [.ref 35, .ref 0]) (mc1 := 1) (ms1 := 250) (mc2 := 3) (ms2 := 14) dX6_init_53 lkX6_31 rfl rfl (by decide) (by decide) (by decide) (by decide) ?_
  refine i_X4_35 (d := d + 1) (fun F35 I35 ha35 hb35 hc35 hd35 => ?_)
  refine wp_putR (pc := 56) (ci := 5) (refs := [some 1, some 11, some 21, some 31, none, none, none, none]) 32 4 dX6_init_56 rfl flX6_32 rfl rfl rfl rfl (fun _ => ⟨rfl, rfl⟩) (by decide) (by decide) (by decide) ?_
  refine wp_to (h' := (Z_72, F35, I35, J31)) ?_ rfl rfl rfl
  refine wp_aload_n (pc := 59) 0 dX6_init_59 rfl rfl ?_
  refine wp_cnt (mc1 := 2 + 1) (ms1 := 8 + sm_N 1) (by decide) (by decide) (wp_new (pc := 60) (ci := 1) dX6_init_60 (by decide) clX6_36 nw1 inRX2 (show Z_72.length < 900 by decide) df_1 ?_)
  refine wp_to (st' := [.ref 37, .ref 0]) (h' := (Z_73, (sm_ups F35 37 (fun _ => 0)), I35, J31)) ?_ rfl rfl rfl
  refine wp_dup (pc := 63) dX6_init_63 rfl ?_
  refine wp_callIN (pc := 64) (k := 37) (as := []) (st := [.ref 37, .ref 0]) (mc1 := 1) (ms1 := 3) (mc2 := 1) (ms2 := 5) dX6_init_64 lkX6_38 rfl rfl (by decide) (by decide) (by decide) (by decide) ?_
  refine i_X2_37 (d := d + 1) (fun F37 I37 hc37 hd37 => ?_)
  refine wp_putR (pc := 67) (ci := 5) (refs := [some 1, some 11, some 21, some 31, some 35, none, none, none]) 39 5 dX6_init_67 rfl flX6_39 rfl rfl rfl rfl (fun _ => ⟨rfl, rfl⟩) (by decide) (by decide) (by decide) ?_
  refine wp_to (h' := (Z_76, F37, I37, J31)) ?_ rfl rfl rfl
  refine wp_aload_n (pc := 70) 0 dX6_init_70 rfl rfl ?_
  refine wp_iconst (pc := 71) (5) dX6_init_71 (by decide) ?_
  refine wp_newI (pc := 72) (mc := 0) (ms := 0) 5 dX6_init_72 (by decide) (by decide) (by decide) ar_int (show Z_76.length < 900 by decide) ?_
  refine wp_to (st' := [.ref 39, .ref 0]) (h' := (Z_77, F37, (sm_ups I37 39 (fun _ => 0)), J31)) ?_ rfl rfl rfl
  refine wp_putR (pc := 74) (ci := 5) (refs := [some 1, some 11, some 21, some 31, some 35, some 37, none, none]) 43 6 dX6_init_74 rfl flX6_43 rfl rfl rfl rfl (fun _ => ⟨rfl, rfl⟩) (by decide) (by decide) (by decide) ?_
  refine wp_to (h' := (Z_78, F37, (sm_ups I37 39 (fun _ => 0)), J31)) ?_ rfl rfl rfl
  refine wp_aload_n (pc := 77) 0 dX6_init_77 rfl rfl ?_
  refine wp_iconst (pc := 78) (0) dX6_init_78 (by decide) ?_
  refine wp_int (y := b2 false) rfl ?_
  refine wq_putB (pc := 79) (ci := 5) (refs := [some 1, some 11, some 21, some 31, some 35, some 37, some 39, none]) 47 7 dX6_init_79 rfl flX6_47 rfl rfl (by decide) ?_
  refine wp_ret (pc := 82) dX6_init_82 rfl ?_
  refine k _ _ _ ⟨?_, fun z => (by cases z), ?_, fun j hj => ?_, ⟨?_, fun j hj => ?_⟩, ⟨fun x hx => ?_, fun x hx => ?_, fun x hx => ?_⟩⟩
  · refine ht1.frame (fun a ha => ?_) (fun a h1 h2 => ?_)
    · rw [sm_up_ne (show a ≠ 0 by omega), hc37 a (by omega), sm_ups_ne (show a ≠ 37 by omega), hc35 a (by omega), sm_ups_ne (show a ≠ 35 by omega), hd31 a, sm_ups_ne (show a ≠ 31 by omega), (hf21 a (by omega)).1, sm_ups_ne (show a ≠ 21 by omega), (hf11 a (by omega)).1, sm_ups_ne (show a ≠ 11 by omega)]
    · rw [sm_ups_ne (show a ≠ 39 by omega), hd37 a (by omega), hd35 a (by omega), he31 a (by omega), (hf21 a (by omega)).2, (hf11 a (by omega)).2]
  · exact up_eq
  · simp [sm_ups]; rfl
  · rw [sm_up_ne (show (35 : Nat) ≠ 0 by decide), hc37 35 (by decide), sm_ups_ne (show (35 : Nat) ≠ 37 by decide)]; exact ha35
  · rw [sm_ups_ne (show (36 : Nat) ≠ 39 by decide), hd37 36 (by decide)]; exact hb35 j
  · rw [sm_ups_ne (show (32 : Nat) ≠ 39 by decide), hd37 32 (by decide), hd35 32 (by decide)]; exact ha31 x hx
  · rw [sm_ups_ne (show (32 + 1 : Nat) ≠ 39 by decide), hd37 (32 + 1) (by decide), hd35 (32 + 1) (by decide)]; exact hb31 x
  · exact hc31 x
def Z_79 : sm_S := [(0, 5, [some 1, some 11, some 21, some 31, some 35, some 37, some 39, none]), (0, 4, [none, some 2, some 3, some 4, some 5, none, none, none, none, none, some 6, some 10]), (1, 10, []), (1, 10, []), (1, 10, []), (1, 10, []), (0, 0, [none, some 7, some 8, some 9]), (1, 6, []), (1, 6, []), (1, 6, []), (1, 10, []), (0, 4, [none, some 12, some 13, some 14, some 15, none, none, none, none, none, some 16, some 20]), (1, 10, []), (1, 10, []), (1, 10, []), (1, 10, []), (0, 0, [none, some 17, some 18, some 19]), (1, 6, []), (1, 6, []), (1, 6, []), (1, 10, []), (0, 4, [none, some 22, some 23, some 24, some 25, none, none, none, none, none, some 26, some 30]), (1, 10, []), (1, 10, []), (1, 10, []), (1, 10, []), (0, 0, [none, some 27, some 28, some 29]), (1, 6, []), (1, 6, []), (1, 6, []), (1, 10, []), (0, 2, [some 32, some 33, some 34]), (1, 8, []), (1, 8, []), (2, 320, []), (0, 3, [none, some 36]), (1, 250, []), (0, 1, [none, none, none, none, none, some 38]), (1, 3, []), (1, 5, []), (0, 6, [none, none, none, none, none, none, none, none, none, none, none, none, none, none, none, none, none, none])]
def Z_80 : sm_S := [(0, 5, [some 1, some 11, some 21, some 31, some 35, some 37, some 39, none]), (0, 4, [none, some 2, some 3, some 4, some 5, none, none, none, none, none, some 6, some 10]), (1, 10, []), (1, 10, []), (1, 10, []), (1, 10, []), (0, 0, [none, some 7, some 8, some 9]), (1, 6, []), (1, 6, []), (1, 6, []), (1, 10, []), (0, 4, [none, some 12, some 13, some 14, some 15, none, none, none, none, none, some 16, some 20]), (1, 10, []), (1, 10, []), (1, 10, []), (1, 10, []), (0, 0, [none, some 17, some 18, some 19]), (1, 6, []), (1, 6, []), (1, 6, []), (1, 10, []), (0, 4, [none, some 22, some 23, some 24, some 25, none, none, none, none, none, some 26, some 30]), (1, 10, []), (1, 10, []), (1, 10, []), (1, 10, []), (0, 0, [none, some 27, some 28, some 29]), (1, 6, []), (1, 6, []), (1, 6, []), (1, 10, []), (0, 2, [some 32, some 33, some 34]), (1, 8, []), (1, 8, []), (2, 320, []), (0, 3, [none, some 36]), (1, 250, []), (0, 1, [none, none, none, none, none, some 38]), (1, 3, []), (1, 5, []), (0, 6, [none, none, none, none, none, none, none, none, none, none, none, none, none, none, none, none, none, none]), (1, 74, [])]
def Z_81 : sm_S := [(0, 5, [some 1, some 11, some 21, some 31, some 35, some 37, some 39, none]), (0, 4, [none, some 2, some 3, some 4, some 5, none, none, none, none, none, some 6, some 10]), (1, 10, []), (1, 10, []), (1, 10, []), (1, 10, []), (0, 0, [none, some 7, some 8, some 9]), (1, 6, []), (1, 6, []), (1, 6, []), (1, 10, []), (0, 4, [none, some 12, some 13, some 14, some 15, none, none, none, none, none, some 16, some 20]), (1, 10, []), (1, 10, []), (1, 10, []), (1, 10, []), (0, 0, [none, some 17, some 18, some 19]), (1, 6, []), (1, 6, []), (1, 6, []), (1, 10, []), (0, 4, [none, some 22, some 23, some 24, some 25, none, none, none, none, none, some 26, some 30]), (1, 10, []), (1, 10, []), (1, 10, []), (1, 10, []), (0, 0, [none, some 27, some 28, some 29]), (1, 6, []), (1, 6, []), (1, 6, []), (1, 10, []), (0, 2, [some 32, some 33, some 34]), (1, 8, []), (1, 8, []), (2, 320, []), (0, 3, [none, some 36]), (1, 250, []), (0, 1, [none, none, none, none, none, some 38]), (1, 3, []), (1, 5, []), (0, 6, [some 41, none, none, none, none, none, none, none, none, none, none, none, none, none, none, none, none, none]), (1, 74, [])]
def Z_82 : sm_S := [(0, 5, [some 1, some 11, some 21, some 31, some 35, some 37, some 39, none]), (0, 4, [none, some 2, some 3, some 4, some 5, none, none, none, none, none, some 6, some 10]), (1, 10, []), (1, 10, []), (1, 10, []), (1, 10, []), (0, 0, [none, some 7, some 8, some 9]), (1, 6, []), (1, 6, []), (1, 6, []), (1, 10, []), (0, 4, [none, some 12, some 13, some 14, some 15, none, none, none, none, none, some 16, some 20]), (1, 10, []), (1, 10, []), (1, 10, []), (1, 10, []), (0, 0, [none, some 17, some 18, some 19]), (1, 6, []), (1, 6, []), (1, 6, []), (1, 10, []), (0, 4, [none, some 22, some 23, some 24, some 25, none, none, none, none, none, some 26, some 30]), (1, 10, []), (1, 10, []), (1, 10, []), (1, 10, []), (0, 0, [none, some 27, some 28, some 29]), (1, 6, []), (1, 6, []), (1, 6, []), (1, 10, []), (0, 2, [some 32, some 33, some 34]), (1, 8, []), (1, 8, []), (2, 320, []), (0, 3, [none, some 36]), (1, 250, []), (0, 1, [none, none, none, none, none, some 38]), (1, 3, []), (1, 5, []), (0, 6, [some 41, none, none, none, none, none, none, none, none, none, none, none, none, none, none, none, none, none]), (1, 74, []), (1, 74, [])]
def Z_83 : sm_S := [(0, 5, [some 1, some 11, some 21, some 31, some 35, some 37, some 39, none]), (0, 4, [none, some 2, some 3, some 4, some 5, none, none, none, none, none, some 6, some 10]), (1, 10, []), (1, 10, []), (1, 10, []), (1, 10, []), (0, 0, [none, some 7, some 8, some 9]), (1, 6, []), (1, 6, []), (1, 6, []), (1, 10, []), (0, 4, [none, some 12, some 13, some 14, some 15, none, none, none, none, none, some 16, some 20]), (1, 10, []), (1, 10, []), (1, 10, []), (1, 10, []), (0, 0, [none, some 17, some 18, some 19]), (1, 6, []), (1, 6, []), (1, 6, []), (1, 10, []), (0, 4, [none, some 22, some 23, some 24, some 25, none, none, none, none, none, some 26, some 30]), (1, 10, []), (1, 10, []), (1, 10, []), (1, 10, []), (0, 0, [none, some 27, some 28, some 29]), (1, 6, []), (1, 6, []), (1, 6, []), (1, 10, []), (0, 2, [some 32, some 33, some 34]), (1, 8, []), (1, 8, []), (2, 320, []), (0, 3, [none, some 36]), (1, 250, []), (0, 1, [none, none, none, none, none, some 38]), (1, 3, []), (1, 5, []), (0, 6, [some 41, some 42, none, none, none, none, none, none, none, none, none, none, none, none, none, none, none, none]), (1, 74, []), (1, 74, [])]
def Z_84 : sm_S := [(0, 5, [some 1, some 11, some 21, some 31, some 35, some 37, some 39, none]), (0, 4, [none, some 2, some 3, some 4, some 5, none, none, none, none, none, some 6, some 10]), (1, 10, []), (1, 10, []), (1, 10, []), (1, 10, []), (0, 0, [none, some 7, some 8, some 9]), (1, 6, []), (1, 6, []), (1, 6, []), (1, 10, []), (0, 4, [none, some 12, some 13, some 14, some 15, none, none, none, none, none, some 16, some 20]), (1, 10, []), (1, 10, []), (1, 10, []), (1, 10, []), (0, 0, [none, some 17, some 18, some 19]), (1, 6, []), (1, 6, []), (1, 6, []), (1, 10, []), (0, 4, [none, some 22, some 23, some 24, some 25, none, none, none, none, none, some 26, some 30]), (1, 10, []), (1, 10, []), (1, 10, []), (1, 10, []), (0, 0, [none, some 27, some 28, some 29]), (1, 6, []), (1, 6, []), (1, 6, []), (1, 10, []), (0, 2, [some 32, some 33, some 34]), (1, 8, []), (1, 8, []), (2, 320, []), (0, 3, [none, some 36]), (1, 250, []), (0, 1, [none, none, none, none, none, some 38]), (1, 3, []), (1, 5, []), (0, 6, [some 41, some 42, none, none, none, none, none, none, none, none, none, none, none, none, none, none, none, none]), (1, 74, []), (1, 74, []), (1, 74, [])]
def Z_85 : sm_S := [(0, 5, [some 1, some 11, some 21, some 31, some 35, some 37, some 39, none]), (0, 4, [none, some 2, some 3, some 4, some 5, none, none, none, none, none, some 6, some 10]), (1, 10, []), (1, 10, []), (1, 10, []), (1, 10, []), (0, 0, [none, some 7, some 8, some 9]), (1, 6, []), (1, 6, []), (1, 6, []), (1, 10, []), (0, 4, [none, some 12, some 13, some 14, some 15, none, none, none, none, none, some 16, some 20]), (1, 10, []), (1, 10, []), (1, 10, []), (1, 10, []), (0, 0, [none, some 17, some 18, some 19]), (1, 6, []), (1, 6, []), (1, 6, []), (1, 10, []), (0, 4, [none, some 22, some 23, some 24, some 25, none, none, none, none, none, some 26, some 30]), (1, 10, []), (1, 10, []), (1, 10, []), (1, 10, []), (0, 0, [none, some 27, some 28, some 29]), (1, 6, []), (1, 6, []), (1, 6, []), (1, 10, []), (0, 2, [some 32, some 33, some 34]), (1, 8, []), (1, 8, []), (2, 320, []), (0, 3, [none, some 36]), (1, 250, []), (0, 1, [none, none, none, none, none, some 38]), (1, 3, []), (1, 5, []), (0, 6, [some 41, some 42, some 43, none, none, none, none, none, none, none, none, none, none, none, none, none, none, none]), (1, 74, []), (1, 74, []), (1, 74, [])]
def Z_86 : sm_S := [(0, 5, [some 1, some 11, some 21, some 31, some 35, some 37, some 39, none]), (0, 4, [none, some 2, some 3, some 4, some 5, none, none, none, none, none, some 6, some 10]), (1, 10, []), (1, 10, []), (1, 10, []), (1, 10, []), (0, 0, [none, some 7, some 8, some 9]), (1, 6, []), (1, 6, []), (1, 6, []), (1, 10, []), (0, 4, [none, some 12, some 13, some 14, some 15, none, none, none, none, none, some 16, some 20]), (1, 10, []), (1, 10, []), (1, 10, []), (1, 10, []), (0, 0, [none, some 17, some 18, some 19]), (1, 6, []), (1, 6, []), (1, 6, []), (1, 10, []), (0, 4, [none, some 22, some 23, some 24, some 25, none, none, none, none, none, some 26, some 30]), (1, 10, []), (1, 10, []), (1, 10, []), (1, 10, []), (0, 0, [none, some 27, some 28, some 29]), (1, 6, []), (1, 6, []), (1, 6, []), (1, 10, []), (0, 2, [some 32, some 33, some 34]), (1, 8, []), (1, 8, []), (2, 320, []), (0, 3, [none, some 36]), (1, 250, []), (0, 1, [none, none, none, none, none, some 38]), (1, 3, []), (1, 5, []), (0, 6, [some 41, some 42, some 43, none, none, none, none, none, none, none, none, none, none, none, none, none, none, none]), (1, 74, []), (1, 74, []), (1, 74, []), (1, 7, [])]
def Z_87 : sm_S := [(0, 5, [some 1, some 11, some 21, some 31, some 35, some 37, some 39, none]), (0, 4, [none, some 2, some 3, some 4, some 5, none, none, none, none, none, some 6, some 10]), (1, 10, []), (1, 10, []), (1, 10, []), (1, 10, []), (0, 0, [none, some 7, some 8, some 9]), (1, 6, []), (1, 6, []), (1, 6, []), (1, 10, []), (0, 4, [none, some 12, some 13, some 14, some 15, none, none, none, none, none, some 16, some 20]), (1, 10, []), (1, 10, []), (1, 10, []), (1, 10, []), (0, 0, [none, some 17, some 18, some 19]), (1, 6, []), (1, 6, []), (1, 6, []), (1, 10, []), (0, 4, [none, some 22, some 23, some 24, some 25, none, none, none, none, none, some 26, some 30]), (1, 10, []), (1, 10, []), (1, 10, []), (1, 10, []), (0, 0, [none, some 27, some 28, some 29]), (1, 6, []), (1, 6, []), (1, 6, []), (1, 10, []), (0, 2, [some 32, some 33, some 34]), (1, 8, []), (1, 8, []), (2, 320, []), (0, 3, [none, some 36]), (1, 250, []), (0, 1, [none, none, none, none, none, some 38]), (1, 3, []), (1, 5, []), (0, 6, [some 41, some 42, some 43, none, some 44, none, none, none, none, none, none, none, none, none, none, none, none, none]), (1, 74, []), (1, 74, []), (1, 74, []), (1, 7, [])]
def Z_88 : sm_S := [(0, 5, [some 1, some 11, some 21, some 31, some 35, some 37, some 39, none]), (0, 4, [none, some 2, some 3, some 4, some 5, none, none, none, none, none, some 6, some 10]), (1, 10, []), (1, 10, []), (1, 10, []), (1, 10, []), (0, 0, [none, some 7, some 8, some 9]), (1, 6, []), (1, 6, []), (1, 6, []), (1, 10, []), (0, 4, [none, some 12, some 13, some 14, some 15, none, none, none, none, none, some 16, some 20]), (1, 10, []), (1, 10, []), (1, 10, []), (1, 10, []), (0, 0, [none, some 17, some 18, some 19]), (1, 6, []), (1, 6, []), (1, 6, []), (1, 10, []), (0, 4, [none, some 22, some 23, some 24, some 25, none, none, none, none, none, some 26, some 30]), (1, 10, []), (1, 10, []), (1, 10, []), (1, 10, []), (0, 0, [none, some 27, some 28, some 29]), (1, 6, []), (1, 6, []), (1, 6, []), (1, 10, []), (0, 2, [some 32, some 33, some 34]), (1, 8, []), (1, 8, []), (2, 320, []), (0, 3, [none, some 36]), (1, 250, []), (0, 1, [none, none, none, none, none, some 38]), (1, 3, []), (1, 5, []), (0, 6, [some 41, some 42, some 43, none, some 44, none, none, none, none, none, none, none, none, none, none, none, none, none]), (1, 74, []), (1, 74, []), (1, 74, []), (1, 7, []), (1, 250, [])]
def Z_89 : sm_S := [(0, 5, [some 1, some 11, some 21, some 31, some 35, some 37, some 39, none]), (0, 4, [none, some 2, some 3, some 4, some 5, none, none, none, none, none, some 6, some 10]), (1, 10, []), (1, 10, []), (1, 10, []), (1, 10, []), (0, 0, [none, some 7, some 8, some 9]), (1, 6, []), (1, 6, []), (1, 6, []), (1, 10, []), (0, 4, [none, some 12, some 13, some 14, some 15, none, none, none, none, none, some 16, some 20]), (1, 10, []), (1, 10, []), (1, 10, []), (1, 10, []), (0, 0, [none, some 17, some 18, some 19]), (1, 6, []), (1, 6, []), (1, 6, []), (1, 10, []), (0, 4, [none, some 22, some 23, some 24, some 25, none, none, none, none, none, some 26, some 30]), (1, 10, []), (1, 10, []), (1, 10, []), (1, 10, []), (0, 0, [none, some 27, some 28, some 29]), (1, 6, []), (1, 6, []), (1, 6, []), (1, 10, []), (0, 2, [some 32, some 33, some 34]), (1, 8, []), (1, 8, []), (2, 320, []), (0, 3, [none, some 36]), (1, 250, []), (0, 1, [none, none, none, none, none, some 38]), (1, 3, []), (1, 5, []), (0, 6, [some 41, some 42, some 43, none, some 44, some 45, none, none, none, none, none, none, none, none, none, none, none, none]), (1, 74, []), (1, 74, []), (1, 74, []), (1, 7, []), (1, 250, [])]
def Z_90 : sm_S := [(0, 5, [some 1, some 11, some 21, some 31, some 35, some 37, some 39, none]), (0, 4, [none, some 2, some 3, some 4, some 5, none, none, none, none, none, some 6, some 10]), (1, 10, []), (1, 10, []), (1, 10, []), (1, 10, []), (0, 0, [none, some 7, some 8, some 9]), (1, 6, []), (1, 6, []), (1, 6, []), (1, 10, []), (0, 4, [none, some 12, some 13, some 14, some 15, none, none, none, none, none, some 16, some 20]), (1, 10, []), (1, 10, []), (1, 10, []), (1, 10, []), (0, 0, [none, some 17, some 18, some 19]), (1, 6, []), (1, 6, []), (1, 6, []), (1, 10, []), (0, 4, [none, some 22, some 23, some 24, some 25, none, none, none, none, none, some 26, some 30]), (1, 10, []), (1, 10, []), (1, 10, []), (1, 10, []), (0, 0, [none, some 27, some 28, some 29]), (1, 6, []), (1, 6, []), (1, 6, []), (1, 10, []), (0, 2, [some 32, some 33, some 34]), (1, 8, []), (1, 8, []), (2, 320, []), (0, 3, [none, some 36]), (1, 250, []), (0, 1, [none, none, none, none, none, some 38]), (1, 3, []), (1, 5, []), (0, 6, [some 41, some 42, some 43, none, some 44, some 45, none, none, none, none, none, none, none, none, none, none, none, none]), (1, 74, []), (1, 74, []), (1, 74, []), (1, 7, []), (1, 250, []), (3, 70, [])]
def Z_91 : sm_S := [(0, 5, [some 1, some 11, some 21, some 31, some 35, some 37, some 39, none]), (0, 4, [none, some 2, some 3, some 4, some 5, none, none, none, none, none, some 6, some 10]), (1, 10, []), (1, 10, []), (1, 10, []), (1, 10, []), (0, 0, [none, some 7, some 8, some 9]), (1, 6, []), (1, 6, []), (1, 6, []), (1, 10, []), (0, 4, [none, some 12, some 13, some 14, some 15, none, none, none, none, none, some 16, some 20]), (1, 10, []), (1, 10, []), (1, 10, []), (1, 10, []), (0, 0, [none, some 17, some 18, some 19]), (1, 6, []), (1, 6, []), (1, 6, []), (1, 10, []), (0, 4, [none, some 22, some 23, some 24, some 25, none, none, none, none, none, some 26, some 30]), (1, 10, []), (1, 10, []), (1, 10, []), (1, 10, []), (0, 0, [none, some 27, some 28, some 29]), (1, 6, []), (1, 6, []), (1, 6, []), (1, 10, []), (0, 2, [some 32, some 33, some 34]), (1, 8, []), (1, 8, []), (2, 320, []), (0, 3, [none, some 36]), (1, 250, []), (0, 1, [none, none, none, none, none, some 38]), (1, 3, []), (1, 5, []), (0, 6, [some 41, some 42, some 43, none, some 44, some 45, none, none, none, none, none, some 46, none, none, none, none, none, none]), (1, 74, []), (1, 74, []), (1, 74, []), (1, 7, []), (1, 250, []), (3, 70, [])]
def Z_92 : sm_S := [(0, 5, [some 1, some 11, some 21, some 31, some 35, some 37, some 39, none]), (0, 4, [none, some 2, some 3, some 4, some 5, none, none, none, none, none, some 6, some 10]), (1, 10, []), (1, 10, []), (1, 10, []), (1, 10, []), (0, 0, [none, some 7, some 8, some 9]), (1, 6, []), (1, 6, []), (1, 6, []), (1, 10, []), (0, 4, [none, some 12, some 13, some 14, some 15, none, none, none, none, none, some 16, some 20]), (1, 10, []), (1, 10, []), (1, 10, []), (1, 10, []), (0, 0, [none, some 17, some 18, some 19]), (1, 6, []), (1, 6, []), (1, 6, []), (1, 10, []), (0, 4, [none, some 22, some 23, some 24, some 25, none, none, none, none, none, some 26, some 30]), (1, 10, []), (1, 10, []), (1, 10, []), (1, 10, []), (0, 0, [none, some 27, some 28, some 29]), (1, 6, []), (1, 6, []), (1, 6, []), (1, 10, []), (0, 2, [some 32, some 33, some 34]), (1, 8, []), (1, 8, []), (2, 320, []), (0, 3, [none, some 36]), (1, 250, []), (0, 1, [none, none, none, none, none, some 38]), (1, 3, []), (1, 5, []), (0, 6, [some 41, some 42, some 43, none, some 44, some 45, none, none, none, none, none, some 46, none, none, none, none, none, none]), (1, 74, []), (1, 74, []), (1, 74, []), (1, 7, []), (1, 250, []), (3, 70, []), (1, 8, [])]
def Z_93 : sm_S := [(0, 5, [some 1, some 11, some 21, some 31, some 35, some 37, some 39, none]), (0, 4, [none, some 2, some 3, some 4, some 5, none, none, none, none, none, some 6, some 10]), (1, 10, []), (1, 10, []), (1, 10, []), (1, 10, []), (0, 0, [none, some 7, some 8, some 9]), (1, 6, []), (1, 6, []), (1, 6, []), (1, 10, []), (0, 4, [none, some 12, some 13, some 14, some 15, none, none, none, none, none, some 16, some 20]), (1, 10, []), (1, 10, []), (1, 10, []), (1, 10, []), (0, 0, [none, some 17, some 18, some 19]), (1, 6, []), (1, 6, []), (1, 6, []), (1, 10, []), (0, 4, [none, some 22, some 23, some 24, some 25, none, none, none, none, none, some 26, some 30]), (1, 10, []), (1, 10, []), (1, 10, []), (1, 10, []), (0, 0, [none, some 27, some 28, some 29]), (1, 6, []), (1, 6, []), (1, 6, []), (1, 10, []), (0, 2, [some 32, some 33, some 34]), (1, 8, []), (1, 8, []), (2, 320, []), (0, 3, [none, some 36]), (1, 250, []), (0, 1, [none, none, none, none, none, some 38]), (1, 3, []), (1, 5, []), (0, 6, [some 41, some 42, some 43, none, some 44, some 45, none, none, none, none, none, some 46, none, some 47, none, none, none, none]), (1, 74, []), (1, 74, []), (1, 74, []), (1, 7, []), (1, 250, []), (3, 70, []), (1, 8, [])]
def Z_94 : sm_S := [(0, 5, [some 1, some 11, some 21, some 31, some 35, some 37, some 39, none]), (0, 4, [none, some 2, some 3, some 4, some 5, none, none, none, none, none, some 6, some 10]), (1, 10, []), (1, 10, []), (1, 10, []), (1, 10, []), (0, 0, [none, some 7, some 8, some 9]), (1, 6, []), (1, 6, []), (1, 6, []), (1, 10, []), (0, 4, [none, some 12, some 13, some 14, some 15, none, none, none, none, none, some 16, some 20]), (1, 10, []), (1, 10, []), (1, 10, []), (1, 10, []), (0, 0, [none, some 17, some 18, some 19]), (1, 6, []), (1, 6, []), (1, 6, []), (1, 10, []), (0, 4, [none, some 22, some 23, some 24, some 25, none, none, none, none, none, some 26, some 30]), (1, 10, []), (1, 10, []), (1, 10, []), (1, 10, []), (0, 0, [none, some 27, some 28, some 29]), (1, 6, []), (1, 6, []), (1, 6, []), (1, 10, []), (0, 2, [some 32, some 33, some 34]), (1, 8, []), (1, 8, []), (2, 320, []), (0, 3, [none, some 36]), (1, 250, []), (0, 1, [none, none, none, none, none, some 38]), (1, 3, []), (1, 5, []), (0, 6, [some 41, some 42, some 43, none, some 44, some 45, none, none, none, none, none, some 46, none, some 47, none, none, none, none]), (1, 74, []), (1, 74, []), (1, 74, []), (1, 7, []), (1, 250, []), (3, 70, []), (1, 8, []), (1, 8, [])]
def Z_95 : sm_S := [(0, 5, [some 1, some 11, some 21, some 31, some 35, some 37, some 39, none]), (0, 4, [none, some 2, some 3, some 4, some 5, none, none, none, none, none, some 6, some 10]), (1, 10, []), (1, 10, []), (1, 10, []), (1, 10, []), (0, 0, [none, some 7, some 8, some 9]), (1, 6, []), (1, 6, []), (1, 6, []), (1, 10, []), (0, 4, [none, some 12, some 13, some 14, some 15, none, none, none, none, none, some 16, some 20]), (1, 10, []), (1, 10, []), (1, 10, []), (1, 10, []), (0, 0, [none, some 17, some 18, some 19]), (1, 6, []), (1, 6, []), (1, 6, []), (1, 10, []), (0, 4, [none, some 22, some 23, some 24, some 25, none, none, none, none, none, some 26, some 30]), (1, 10, []), (1, 10, []), (1, 10, []), (1, 10, []), (0, 0, [none, some 27, some 28, some 29]), (1, 6, []), (1, 6, []), (1, 6, []), (1, 10, []), (0, 2, [some 32, some 33, some 34]), (1, 8, []), (1, 8, []), (2, 320, []), (0, 3, [none, some 36]), (1, 250, []), (0, 1, [none, none, none, none, none, some 38]), (1, 3, []), (1, 5, []), (0, 6, [some 41, some 42, some 43, none, some 44, some 45, none, none, none, none, none, some 46, none, some 47, some 48, none, none, none]), (1, 74, []), (1, 74, []), (1, 74, []), (1, 7, []), (1, 250, []), (3, 70, []), (1, 8, []), (1, 8, [])]
def Z_96 : sm_S := [(0, 5, [some 1, some 11, some 21, some 31, some 35, some 37, some 39, none]), (0, 4, [none, some 2, some 3, some 4, some 5, none, none, none, none, none, some 6, some 10]), (1, 10, []), (1, 10, []), (1, 10, []), (1, 10, []), (0, 0, [none, some 7, some 8, some 9]), (1, 6, []), (1, 6, []), (1, 6, []), (1, 10, []), (0, 4, [none, some 12, some 13, some 14, some 15, none, none, none, none, none, some 16, some 20]), (1, 10, []), (1, 10, []), (1, 10, []), (1, 10, []), (0, 0, [none, some 17, some 18, some 19]), (1, 6, []), (1, 6, []), (1, 6, []), (1, 10, []), (0, 4, [none, some 22, some 23, some 24, some 25, none, none, none, none, none, some 26, some 30]), (1, 10, []), (1, 10, []), (1, 10, []), (1, 10, []), (0, 0, [none, some 27, some 28, some 29]), (1, 6, []), (1, 6, []), (1, 6, []), (1, 10, []), (0, 2, [some 32, some 33, some 34]), (1, 8, []), (1, 8, []), (2, 320, []), (0, 3, [none, some 36]), (1, 250, []), (0, 1, [none, none, none, none, none, some 38]), (1, 3, []), (1, 5, []), (0, 6, [some 41, some 42, some 43, none, some 44, some 45, none, none, none, none, none, some 46, none, some 47, some 48, none, none, none]), (1, 74, []), (1, 74, []), (1, 74, []), (1, 7, []), (1, 250, []), (3, 70, []), (1, 8, []), (1, 8, []), (2, 320, [])]
def Z_97 : sm_S := [(0, 5, [some 1, some 11, some 21, some 31, some 35, some 37, some 39, none]), (0, 4, [none, some 2, some 3, some 4, some 5, none, none, none, none, none, some 6, some 10]), (1, 10, []), (1, 10, []), (1, 10, []), (1, 10, []), (0, 0, [none, some 7, some 8, some 9]), (1, 6, []), (1, 6, []), (1, 6, []), (1, 10, []), (0, 4, [none, some 12, some 13, some 14, some 15, none, none, none, none, none, some 16, some 20]), (1, 10, []), (1, 10, []), (1, 10, []), (1, 10, []), (0, 0, [none, some 17, some 18, some 19]), (1, 6, []), (1, 6, []), (1, 6, []), (1, 10, []), (0, 4, [none, some 22, some 23, some 24, some 25, none, none, none, none, none, some 26, some 30]), (1, 10, []), (1, 10, []), (1, 10, []), (1, 10, []), (0, 0, [none, some 27, some 28, some 29]), (1, 6, []), (1, 6, []), (1, 6, []), (1, 10, []), (0, 2, [some 32, some 33, some 34]), (1, 8, []), (1, 8, []), (2, 320, []), (0, 3, [none, some 36]), (1, 250, []), (0, 1, [none, none, none, none, none, some 38]), (1, 3, []), (1, 5, []), (0, 6, [some 41, some 42, some 43, none, some 44, some 45, none, none, none, none, none, some 46, none, some 47, some 48, some 49, none, none]), (1, 74, []), (1, 74, []), (1, 74, []), (1, 7, []), (1, 250, []), (3, 70, []), (1, 8, []), (1, 8, []), (2, 320, [])]
def Z_98 : sm_S := [(0, 5, [some 1, some 11, some 21, some 31, some 35, some 37, some 39, none]), (0, 4, [none, some 2, some 3, some 4, some 5, none, none, none, none, none, some 6, some 10]), (1, 10, []), (1, 10, []), (1, 10, []), (1, 10, []), (0, 0, [none, some 7, some 8, some 9]), (1, 6, []), (1, 6, []), (1, 6, []), (1, 10, []), (0, 4, [none, some 12, some 13, some 14, some 15, none, none, none, none, none, some 16, some 20]), (1, 10, []), (1, 10, []), (1, 10, []), (1, 10, []), (0, 0, [none, some 17, some 18, some 19]), (1, 6, []), (1, 6, []), (1, 6, []), (1, 10, []), (0, 4, [none, some 22, some 23, some 24, some 25, none, none, none, none, none, some 26, some 30]), (1, 10, []), (1, 10, []), (1, 10, []), (1, 10, []), (0, 0, [none, some 27, some 28, some 29]), (1, 6, []), (1, 6, []), (1, 6, []), (1, 10, []), (0, 2, [some 32, some 33, some 34]), (1, 8, []), (1, 8, []), (2, 320, []), (0, 3, [none, some 36]), (1, 250, []), (0, 1, [none, none, none, none, none, some 38]), (1, 3, []), (1, 5, []), (0, 6, [some 41, some 42, some 43, none, some 44, some 45, none, none, none, none, none, some 46, none, some 47, some 48, some 49, none, none]), (1, 74, []), (1, 74, []), (1, 74, []), (1, 7, []), (1, 250, []), (3, 70, []), (1, 8, []), (1, 8, []), (2, 320, []), (2, 40, [])]
def Z_99 : sm_S := [(0, 5, [some 1, some 11, some 21, some 31, some 35, some 37, some 39, none]), (0, 4, [none, some 2, some 3, some 4, some 5, none, none, none, none, none, some 6, some 10]), (1, 10, []), (1, 10, []), (1, 10, []), (1, 10, []), (0, 0, [none, some 7, some 8, some 9]), (1, 6, []), (1, 6, []), (1, 6, []), (1, 10, []), (0, 4, [none, some 12, some 13, some 14, some 15, none, none, none, none, none, some 16, some 20]), (1, 10, []), (1, 10, []), (1, 10, []), (1, 10, []), (0, 0, [none, some 17, some 18, some 19]), (1, 6, []), (1, 6, []), (1, 6, []), (1, 10, []), (0, 4, [none, some 22, some 23, some 24, some 25, none, none, none, none, none, some 26, some 30]), (1, 10, []), (1, 10, []), (1, 10, []), (1, 10, []), (0, 0, [none, some 27, some 28, some 29]), (1, 6, []), (1, 6, []), (1, 6, []), (1, 10, []), (0, 2, [some 32, some 33, some 34]), (1, 8, []), (1, 8, []), (2, 320, []), (0, 3, [none, some 36]), (1, 250, []), (0, 1, [none, none, none, none, none, some 38]), (1, 3, []), (1, 5, []), (0, 6, [some 41, some 42, some 43, none, some 44, some 45, none, none, none, none, none, some 46, none, some 47, some 48, some 49, some 50, none]), (1, 74, []), (1, 74, []), (1, 74, []), (1, 7, []), (1, 250, []), (3, 70, []), (1, 8, []), (1, 8, []), (2, 320, []), (2, 40, [])]
def Z_100 : sm_S := [(0, 5, [some 1, some 11, some 21, some 31, some 35, some 37, some 39, none]), (0, 4, [none, some 2, some 3, some 4, some 5, none, none, none, none, none, some 6, some 10]), (1, 10, []), (1, 10, []), (1, 10, []), (1, 10, []), (0, 0, [none, some 7, some 8, some 9]), (1, 6, []), (1, 6, []), (1, 6, []), (1, 10, []), (0, 4, [none, some 12, some 13, some 14, some 15, none, none, none, none, none, some 16, some 20]), (1, 10, []), (1, 10, []), (1, 10, []), (1, 10, []), (0, 0, [none, some 17, some 18, some 19]), (1, 6, []), (1, 6, []), (1, 6, []), (1, 10, []), (0, 4, [none, some 22, some 23, some 24, some 25, none, none, none, none, none, some 26, some 30]), (1, 10, []), (1, 10, []), (1, 10, []), (1, 10, []), (0, 0, [none, some 27, some 28, some 29]), (1, 6, []), (1, 6, []), (1, 6, []), (1, 10, []), (0, 2, [some 32, some 33, some 34]), (1, 8, []), (1, 8, []), (2, 320, []), (0, 3, [none, some 36]), (1, 250, []), (0, 1, [none, none, none, none, none, some 38]), (1, 3, []), (1, 5, []), (0, 6, [some 41, some 42, some 43, none, some 44, some 45, none, none, none, none, none, some 46, none, some 47, some 48, some 49, some 50, none]), (1, 74, []), (1, 74, []), (1, 74, []), (1, 7, []), (1, 250, []), (3, 70, []), (1, 8, []), (1, 8, []), (2, 320, []), (2, 40, []), (1, 6, [])]
def Z_101 : sm_S := [(0, 5, [some 1, some 11, some 21, some 31, some 35, some 37, some 39, none]), (0, 4, [none, some 2, some 3, some 4, some 5, none, none, none, none, none, some 6, some 10]), (1, 10, []), (1, 10, []), (1, 10, []), (1, 10, []), (0, 0, [none, some 7, some 8, some 9]), (1, 6, []), (1, 6, []), (1, 6, []), (1, 10, []), (0, 4, [none, some 12, some 13, some 14, some 15, none, none, none, none, none, some 16, some 20]), (1, 10, []), (1, 10, []), (1, 10, []), (1, 10, []), (0, 0, [none, some 17, some 18, some 19]), (1, 6, []), (1, 6, []), (1, 6, []), (1, 10, []), (0, 4, [none, some 22, some 23, some 24, some 25, none, none, none, none, none, some 26, some 30]), (1, 10, []), (1, 10, []), (1, 10, []), (1, 10, []), (0, 0, [none, some 27, some 28, some 29]), (1, 6, []), (1, 6, []), (1, 6, []), (1, 10, []), (0, 2, [some 32, some 33, some 34]), (1, 8, []), (1, 8, []), (2, 320, []), (0, 3, [none, some 36]), (1, 250, []), (0, 1, [none, none, none, none, none, some 38]), (1, 3, []), (1, 5, []), (0, 6, [some 41, some 42, some 43, none, some 44, some 45, none, none, none, none, none, some 46, none, some 47, some 48, some 49, some 50, some 51]), (1, 74, []), (1, 74, []), (1, 74, []), (1, 7, []), (1, 250, []), (3, 70, []), (1, 8, []), (1, 8, []), (2, 320, []), (2, 40, []), (1, 6, [])]
set_option maxHeartbeats 1000000 in
theorem i_X7 {d : Nat} {F I : Nat → Nat → Int32} {J : Nat → Nat → Int64} {Q : Option Value → sm_H → Prop} (hF : ∀ j, F 40 j = 0) (k : ∀ (F1 I1 : Nat → Nat → Int32) (J1 : Nat → Nat → Int64), MR s0 F1 I1 J1 → Lo F I J F1 I1 J1 → Q none (Z_101, F1, I1, J1)) : Wp mX7_init (d + 2) 11 931 0 (sm_ini [.ref 40] 1) [] (Z_79, F, I, J) Q := by
  show Wp _ _ _ _ _ [.ref 40] _ _ _
  refine wp_aload_n (pc := 0) 0 dX7_init_0 rfl rfl ?_
  refine wp_obj (pc := 1) dX7_init_1 ob_RX7 (by decide) (by omega) ?_
  refine wp_aload_n (pc := 4) 0 dX7_init_4 rfl rfl ?_
  refine wp_callS (pc := 5) (k := 0) (as := []) (st := [.ref 40]) (mc1 := 1) (ms1 := 74) (mc2 := 10) (ms2 := 857) dX7_init_5 lkX7_7 rfl rfl (by decide) (by decide) (by decide) (by decide) ?_
  refine c_X7_fresh (S := Z_79) (n := 41) rfl (by decide) ?_
  refine wp_to (st' := [.ref 41, .ref 40]) (h' := (Z_80, F, (sm_up (sm_ups I 41 (fun _ => 0)) 41 73 1), J)) ?_ rfl rfl rfl
  refine wp_putR (pc := 8) (ci := 6) (refs := [none, none, none, none, none, none, none, none, none, none, none, none, none, none, none, none, none, none]) 13 0 dX7_init_8 rfl flX7_13 rfl rfl rfl rfl (fun _ => ⟨rfl, rfl⟩) (by decide) (by decide) (by decide) ?_
  refine wp_to (h' := (Z_81, F, (sm_up (sm_ups I 41 (fun _ => 0)) 41 73 1), J)) ?_ rfl rfl rfl
  refine wp_aload_n (pc := 11) 0 dX7_init_11 rfl rfl ?_
  refine wp_bipush (pc := 12) (74) dX7_init_12 (by decide) ?_
  refine wp_newI (pc := 14) (mc := 9) (ms := 783) 74 dX7_init_14 (by decide) (by decide) (by decide) ar_int (show Z_81.length < 900 by decide) ?_
  refine wp_to (st' := [.ref 42, .ref 40]) (h' := (Z_82, F, (sm_ups (sm_up (sm_ups I 41 (fun _ => 0)) 41 73 1) 42 (fun _ => 0)), J)) ?_ rfl rfl rfl
  refine wp_putR (pc := 16) (ci := 6) (refs := [some 41, none, none, none, none, none, none, none, none, none, none, none, none, none, none, none, none, none]) 17 1 dX7_init_16 rfl flX7_17 rfl rfl rfl rfl (fun _ => ⟨rfl, rfl⟩) (by decide) (by decide) (by decide) ?_
  refine wp_to (h' := (Z_83, F, (sm_ups (sm_up (sm_ups I 41 (fun _ => 0)) 41 73 1) 42 (fun _ => 0)), J)) ?_ rfl rfl rfl
  refine wp_aload_n (pc := 19) 0 dX7_init_19 rfl rfl ?_
  refine wp_bipush (pc := 20) (74) dX7_init_20 (by decide) ?_
  refine wp_newI (pc := 22) (mc := 8) (ms := 709) 74 dX7_init_22 (by decide) (by decide) (by decide) ar_int (show Z_83.length < 900 by decide) ?_
  refine wp_to (st' := [.ref 43, .ref 40]) (h' := (Z_84, F, (sm_ups (sm_ups (sm_up (sm_ups I 41 (fun _ => 0)) 41 73 1) 42 (fun _ => 0)) 43 (fun _ => 0)), J)) ?_ rfl rfl rfl
  refine wp_putR (pc := 24) (ci := 6) (refs := [some 41, some 42, none, none, none, none, none, none, none, none, none, none, none, none, none, none, none, none]) 20 2 dX7_init_24 rfl flX7_20 rfl rfl rfl rfl (fun _ => ⟨rfl, rfl⟩) (by decide) (by decide) (by decide) ?_
  refine wp_to (h' := (Z_85, F, (sm_ups (sm_ups (sm_up (sm_ups I 41 (fun _ => 0)) 41 73 1) 42 (fun _ => 0)) 43 (fun _ => 0)), J)) ?_ rfl rfl rfl
  refine wp_aload_n (pc := 27) 0 dX7_init_27 rfl rfl ?_
  refine wp_bipush (pc := 28) (7) dX7_init_28 (by decide) ?_
  refine wp_newI (pc := 30) (mc := 7) (ms := 702) 7 dX7_init_30 (by decide) (by decide) (by decide) ar_int (show Z_85.length < 900 by decide) ?_
  refine wp_to (st' := [.ref 44, .ref 40]) (h' := (Z_86, F, (sm_ups (sm_ups (sm_ups (sm_up (sm_ups I 41 (fun _ => 0)) 41 73 1) 42 (fun _ => 0)) 43 (fun _ => 0)) 44 (fun _ => 0)), J)) ?_ rfl rfl rfl
  refine wp_putR (pc := 32) (ci := 6) (refs := [some 41, some 42, some 43, none, none, none, none, none, none, none, none, none, none, none, none, none, none, none]) 23 4 dX7_init_32 rfl flX7_23 rfl rfl rfl rfl (fun _ => ⟨rfl, rfl⟩) (by decide) (by decide) (by decide) ?_
  refine wp_to (h' := (Z_87, F, (sm_ups (sm_ups (sm_ups (sm_up (sm_ups I 41 (fun _ => 0)) 41 73 1) 42 (fun _ => 0)) 43 (fun _ => 0)) 44 (fun _ => 0)), J)) ?_ rfl rfl rfl
  refine wp_aload_n (pc := 35) 0 dX7_init_35 rfl rfl ?_
  refine wp_sipush (pc := 36) (250) dX7_init_36 (by decide) ?_
  refine wp_newI (pc := 39) (mc := 6) (ms := 452) 250 dX7_init_39 (by decide) (by decide) (by decide) ar_int (show Z_87.length < 900 by decide) ?_
  refine wp_to (st' := [.ref 45, .ref 40]) (h' := (Z_88, F, (sm_ups (sm_ups (sm_ups (sm_ups (sm_up (sm_ups I 41 (fun _ => 0)) 41 73 1) 42 (fun _ => 0)) 43 (fun _ => 0)) 44 (fun _ => 0)) 45 (fun _ => 0)), J)) ?_ rfl rfl rfl
  refine wp_putR (pc := 41) (ci := 6) (refs := [some 41, some 42, some 43, none, some 44, none, none, none, none, none, none, none, none, none, none, none, none, none]) 26 5 dX7_init_41 rfl flX7_26 rfl rfl rfl rfl (fun _ => ⟨rfl, rfl⟩) (by decide) (by decide) (by decide) ?_
  refine wp_to (h' := (Z_89, F, (sm_ups (sm_ups (sm_ups (sm_ups (sm_up (sm_ups I 41 (fun _ => 0)) 41 73 1) 42 (fun _ => 0)) 43 (fun _ => 0)) 44 (fun _ => 0)) 45 (fun _ => 0)), J)) ?_ rfl rfl rfl
  refine wp_aload_n (pc := 44) 0 dX7_init_44 rfl rfl ?_
  refine wp_bipush (pc := 45) (70) dX7_init_45 (by decide) ?_
  refine wp_newC (pc := 47) (mc := 5) (ms := 382) 70 dX7_init_47 (by decide) (by decide) (by decide) ar_char (show Z_89.length < 900 by decide) ?_
  refine wp_to (st' := [.ref 46, .ref 40]) (h' := (Z_90, F, (sm_ups (sm_ups (sm_ups (sm_ups (sm_ups (sm_up (sm_ups I 41 (fun _ => 0)) 41 73 1) 42 (fun _ => 0)) 43 (fun _ => 0)) 44 (fun _ => 0)) 45 (fun _ => 0)) 46 (fun _ => 0)), J)) ?_ rfl rfl rfl
  refine wp_dup (pc := 49) dX7_init_49 rfl ?_
  refine wp_iconst (pc := 50) (0) dX7_init_50 (by decide) ?_
  refine wp_bipush (pc := 51) (116) dX7_init_51 (by decide) ?_
  refine wq_cast (pc := 53) (N := 70) (r := []) 0 (nI (wd7 0)) dX7_init_53 rfl (by decide) rfl (by decide) (by decide) (by decide) ?_
  refine wp_to (h' := (Z_90, F, (CW (sm_ups (sm_ups (sm_ups (sm_ups (sm_ups (sm_up (sm_ups I 41 (fun _ => 0)) 41 73 1) 42 (fun _ => 0)) 43 (fun _ => 0)) 44 (fun _ => 0)) 45 (fun _ => 0)) 46 (fun _ => 0)) 1), J)) ?_ rfl rfl cw_h0
  refine wp_dup (pc := 54) dX7_init_54 rfl ?_
  refine wp_iconst (pc := 55) (1) dX7_init_55 (by decide) ?_
  refine wp_bipush (pc := 56) (104) dX7_init_56 (by decide) ?_
  refine wq_cast (pc := 58) (N := 70) (r := []) 1 (nI (wd7 1)) dX7_init_58 rfl (by decide) rfl (by decide) (by decide) (by decide) ?_
  refine wp_to (h' := (Z_90, F, (CW (sm_ups (sm_ups (sm_ups (sm_ups (sm_ups (sm_up (sm_ups I 41 (fun _ => 0)) 41 73 1) 42 (fun _ => 0)) 43 (fun _ => 0)) 44 (fun _ => 0)) 45 (fun _ => 0)) 46 (fun _ => 0)) 2), J)) ?_ rfl rfl (cw_h 1)
  refine wp_dup (pc := 59) dX7_init_59 rfl ?_
  refine wp_iconst (pc := 60) (2) dX7_init_60 (by decide) ?_
  refine wp_bipush (pc := 61) (105) dX7_init_61 (by decide) ?_
  refine wq_cast (pc := 63) (N := 70) (r := []) 2 (nI (wd7 2)) dX7_init_63 rfl (by decide) rfl (by decide) (by decide) (by decide) ?_
  refine wp_to (h' := (Z_90, F, (CW (sm_ups (sm_ups (sm_ups (sm_ups (sm_ups (sm_up (sm_ups I 41 (fun _ => 0)) 41 73 1) 42 (fun _ => 0)) 43 (fun _ => 0)) 44 (fun _ => 0)) 45 (fun _ => 0)) 46 (fun _ => 0)) 3), J)) ?_ rfl rfl (cw_h 2)
  refine wp_dup (pc := 64) dX7_init_64 rfl ?_
  refine wp_iconst (pc := 65) (3) dX7_init_65 (by decide) ?_
  refine wp_bipush (pc := 66) (110) dX7_init_66 (by decide) ?_
  refine wq_cast (pc := 68) (N := 70) (r := []) 3 (nI (wd7 3)) dX7_init_68 rfl (by decide) rfl (by decide) (by decide) (by decide) ?_
  refine wp_to (h' := (Z_90, F, (CW (sm_ups (sm_ups (sm_ups (sm_ups (sm_ups (sm_up (sm_ups I 41 (fun _ => 0)) 41 73 1) 42 (fun _ => 0)) 43 (fun _ => 0)) 44 (fun _ => 0)) 45 (fun _ => 0)) 46 (fun _ => 0)) 4), J)) ?_ rfl rfl (cw_h 3)
  refine wp_dup (pc := 69) dX7_init_69 rfl ?_
  refine wp_iconst (pc := 70) (4) dX7_init_70 (by decide) ?_
  refine wp_bipush (pc := 71) (103) dX7_init_71 (by decide) ?_
  refine wq_cast (pc := 73) (N := 70) (r := []) 4 (nI (wd7 4)) dX7_init_73 rfl (by decide) rfl (by decide) (by decide) (by decide) ?_
  refine wp_to (h' := (Z_90, F, (CW (sm_ups (sm_ups (sm_ups (sm_ups (sm_ups (sm_up (sm_ups I 41 (fun _ => 0)) 41 73 1) 42 (fun _ => 0)) 43 (fun _ => 0)) 44 (fun _ => 0)) 45 (fun _ => 0)) 46 (fun _ => 0)) 5), J)) ?_ rfl rfl (cw_h 4)
  refine wp_dup (pc := 74) dX7_init_74 rfl ?_
  refine wp_iconst (pc := 75) (5) dX7_init_75 (by decide) ?_
  refine wp_iconst (pc := 76) (0) dX7_init_76 (by decide) ?_
  refine wq_cast (pc := 77) (N := 70) (r := []) 5 (nI (wd7 5)) dX7_init_77 rfl (by decide) rfl (by decide) (by decide) (by decide) ?_
  refine wp_to (h' := (Z_90, F, (CW (sm_ups (sm_ups (sm_ups (sm_ups (sm_ups (sm_up (sm_ups I 41 (fun _ => 0)) 41 73 1) 42 (fun _ => 0)) 43 (fun _ => 0)) 44 (fun _ => 0)) 45 (fun _ => 0)) 46 (fun _ => 0)) 6), J)) ?_ rfl rfl (cw_h 5)
  refine wp_dup (pc := 78) dX7_init_78 rfl ?_
  refine wp_bipush (pc := 79) (6) dX7_init_79 (by decide) ?_
  refine wp_iconst (pc := 81) (0) dX7_init_81 (by decide) ?_
  refine wq_cast (pc := 82) (N := 70) (r := []) 6 (nI (wd7 6)) dX7_init_82 rfl (by decide) rfl (by decide) (by decide) (by decide) ?_
  refine wp_to (h' := (Z_90, F, (CW (sm_ups (sm_ups (sm_ups (sm_ups (sm_ups (sm_up (sm_ups I 41 (fun _ => 0)) 41 73 1) 42 (fun _ => 0)) 43 (fun _ => 0)) 44 (fun _ => 0)) 45 (fun _ => 0)) 46 (fun _ => 0)) 7), J)) ?_ rfl rfl (cw_h 6)
  refine wp_dup (pc := 83) dX7_init_83 rfl ?_
  refine wp_bipush (pc := 84) (7) dX7_init_84 (by decide) ?_
  refine wp_bipush (pc := 86) (104) dX7_init_86 (by decide) ?_
  refine wq_cast (pc := 88) (N := 70) (r := []) 7 (nI (wd7 7)) dX7_init_88 rfl (by decide) rfl (by decide) (by decide) (by decide) ?_
  refine wp_to (h' := (Z_90, F, (CW (sm_ups (sm_ups (sm_ups (sm_ups (sm_ups (sm_up (sm_ups I 41 (fun _ => 0)) 41 73 1) 42 (fun _ => 0)) 43 (fun _ => 0)) 44 (fun _ => 0)) 45 (fun _ => 0)) 46 (fun _ => 0)) 8), J)) ?_ rfl rfl (cw_h 7)
  refine wp_dup (pc := 89) dX7_init_89 rfl ?_
  refine wp_bipush (pc := 90) (8) dX7_init_90 (by decide) ?_
  refine wp_bipush (pc := 92) (97) dX7_init_92 (by decide) ?_
  refine wq_cast (pc := 94) (N := 70) (r := []) 8 (nI (wd7 8)) dX7_init_94 rfl (by decide) rfl (by decide) (by decide) (by decide) ?_
  refine wp_to (h' := (Z_90, F, (CW (sm_ups (sm_ups (sm_ups (sm_ups (sm_ups (sm_up (sm_ups I 41 (fun _ => 0)) 41 73 1) 42 (fun _ => 0)) 43 (fun _ => 0)) 44 (fun _ => 0)) 45 (fun _ => 0)) 46 (fun _ => 0)) 9), J)) ?_ rfl rfl (cw_h 8)
  refine wp_dup (pc := 95) dX7_init_95 rfl ?_
  refine wp_bipush (pc := 96) (9) dX7_init_96 (by decide) ?_
  refine wp_bipush (pc := 98) (110) dX7_init_98 (by decide) ?_
  refine wq_cast (pc := 100) (N := 70) (r := []) 9 (nI (wd7 9)) dX7_init_100 rfl (by decide) rfl (by decide) (by decide) (by decide) ?_
  refine wp_to (h' := (Z_90, F, (CW (sm_ups (sm_ups (sm_ups (sm_ups (sm_ups (sm_up (sm_ups I 41 (fun _ => 0)) 41 73 1) 42 (fun _ => 0)) 43 (fun _ => 0)) 44 (fun _ => 0)) 45 (fun _ => 0)) 46 (fun _ => 0)) 10), J)) ?_ rfl rfl (cw_h 9)
  refine wp_dup (pc := 101) dX7_init_101 rfl ?_
  refine wp_bipush (pc := 102) (10) dX7_init_102 (by decide) ?_
  refine wp_bipush (pc := 104) (103) dX7_init_104 (by decide) ?_
  refine wq_cast (pc := 106) (N := 70) (r := []) 10 (nI (wd7 10)) dX7_init_106 rfl (by decide) rfl (by decide) (by decide) (by decide) ?_
  refine wp_to (h' := (Z_90, F, (CW (sm_ups (sm_ups (sm_ups (sm_ups (sm_ups (sm_up (sm_ups I 41 (fun _ => 0)) 41 73 1) 42 (fun _ => 0)) 43 (fun _ => 0)) 44 (fun _ => 0)) 45 (fun _ => 0)) 46 (fun _ => 0)) 11), J)) ?_ rfl rfl (cw_h 10)
  refine wp_dup (pc := 107) dX7_init_107 rfl ?_
  refine wp_bipush (pc := 108) (11) dX7_init_108 (by decide) ?_
  refine wp_bipush (pc := 110) (115) dX7_init_110 (by decide) ?_
  refine wq_cast (pc := 112) (N := 70) (r := []) 11 (nI (wd7 11)) dX7_init_112 rfl (by decide) rfl (by decide) (by decide) (by decide) ?_
  refine wp_to (h' := (Z_90, F, (CW (sm_ups (sm_ups (sm_ups (sm_ups (sm_ups (sm_up (sm_ups I 41 (fun _ => 0)) 41 73 1) 42 (fun _ => 0)) 43 (fun _ => 0)) 44 (fun _ => 0)) 45 (fun _ => 0)) 46 (fun _ => 0)) 12), J)) ?_ rfl rfl (cw_h 11)
  refine wp_dup (pc := 113) dX7_init_113 rfl ?_
  refine wp_bipush (pc := 114) (12) dX7_init_114 (by decide) ?_
  refine wp_iconst (pc := 116) (0) dX7_init_116 (by decide) ?_
  refine wq_cast (pc := 117) (N := 70) (r := []) 12 (nI (wd7 12)) dX7_init_117 rfl (by decide) rfl (by decide) (by decide) (by decide) ?_
  refine wp_to (h' := (Z_90, F, (CW (sm_ups (sm_ups (sm_ups (sm_ups (sm_ups (sm_up (sm_ups I 41 (fun _ => 0)) 41 73 1) 42 (fun _ => 0)) 43 (fun _ => 0)) 44 (fun _ => 0)) 45 (fun _ => 0)) 46 (fun _ => 0)) 13), J)) ?_ rfl rfl (cw_h 12)
  refine wp_dup (pc := 118) dX7_init_118 rfl ?_
  refine wp_bipush (pc := 119) (13) dX7_init_119 (by decide) ?_
  refine wp_iconst (pc := 121) (0) dX7_init_121 (by decide) ?_
  refine wq_cast (pc := 122) (N := 70) (r := []) 13 (nI (wd7 13)) dX7_init_122 rfl (by decide) rfl (by decide) (by decide) (by decide) ?_
  refine wp_to (h' := (Z_90, F, (CW (sm_ups (sm_ups (sm_ups (sm_ups (sm_ups (sm_up (sm_ups I 41 (fun _ => 0)) 41 73 1) 42 (fun _ => 0)) 43 (fun _ => 0)) 44 (fun _ => 0)) 45 (fun _ => 0)) 46 (fun _ => 0)) 14), J)) ?_ rfl rfl (cw_h 13)
  refine wp_dup (pc := 123) dX7_init_123 rfl ?_
  refine wp_bipush (pc := 124) (14) dX7_init_124 (by decide) ?_
  refine wp_bipush (pc := 126) (102) dX7_init_126 (by decide) ?_
  refine wq_cast (pc := 128) (N := 70) (r := []) 14 (nI (wd7 14)) dX7_init_128 rfl (by decide) rfl (by decide) (by decide) (by decide) ?_
  refine wp_to (h' := (Z_90, F, (CW (sm_ups (sm_ups (sm_ups (sm_ups (sm_ups (sm_up (sm_ups I 41 (fun _ => 0)) 41 73 1) 42 (fun _ => 0)) 43 (fun _ => 0)) 44 (fun _ => 0)) 45 (fun _ => 0)) 46 (fun _ => 0)) 15), J)) ?_ rfl rfl (cw_h 14)
  refine wp_dup (pc := 129) dX7_init_129 rfl ?_
  refine wp_bipush (pc := 130) (15) dX7_init_130 (by decide) ?_
  refine wp_bipush (pc := 132) (114) dX7_init_132 (by decide) ?_
  refine wq_cast (pc := 134) (N := 70) (r := []) 15 (nI (wd7 15)) dX7_init_134 rfl (by decide) rfl (by decide) (by decide) (by decide) ?_
  refine wp_to (h' := (Z_90, F, (CW (sm_ups (sm_ups (sm_ups (sm_ups (sm_ups (sm_up (sm_ups I 41 (fun _ => 0)) 41 73 1) 42 (fun _ => 0)) 43 (fun _ => 0)) 44 (fun _ => 0)) 45 (fun _ => 0)) 46 (fun _ => 0)) 16), J)) ?_ rfl rfl (cw_h 15)
  refine wp_dup (pc := 135) dX7_init_135 rfl ?_
  refine wp_bipush (pc := 136) (16) dX7_init_136 (by decide) ?_
  refine wp_bipush (pc := 138) (101) dX7_init_138 (by decide) ?_
  refine wq_cast (pc := 140) (N := 70) (r := []) 16 (nI (wd7 16)) dX7_init_140 rfl (by decide) rfl (by decide) (by decide) (by decide) ?_
  refine wp_to (h' := (Z_90, F, (CW (sm_ups (sm_ups (sm_ups (sm_ups (sm_ups (sm_up (sm_ups I 41 (fun _ => 0)) 41 73 1) 42 (fun _ => 0)) 43 (fun _ => 0)) 44 (fun _ => 0)) 45 (fun _ => 0)) 46 (fun _ => 0)) 17), J)) ?_ rfl rfl (cw_h 16)
  refine wp_dup (pc := 141) dX7_init_141 rfl ?_
  refine wp_bipush (pc := 142) (17) dX7_init_142 (by decide) ?_
  refine wp_bipush (pc := 144) (101) dX7_init_144 (by decide) ?_
  refine wq_cast (pc := 146) (N := 70) (r := []) 17 (nI (wd7 17)) dX7_init_146 rfl (by decide) rfl (by decide) (by decide) (by decide) ?_
  refine wp_to (h' := (Z_90, F, (CW (sm_ups (sm_ups (sm_ups (sm_ups (sm_ups (sm_up (sm_ups I 41 (fun _ => 0)) 41 73 1) 42 (fun _ => 0)) 43 (fun _ => 0)) 44 (fun _ => 0)) 45 (fun _ => 0)) 46 (fun _ => 0)) 18), J)) ?_ rfl rfl (cw_h 17)
  refine wp_dup (pc := 147) dX7_init_147 rfl ?_
  refine wp_bipush (pc := 148) (18) dX7_init_148 (by decide) ?_
  refine wp_iconst (pc := 150) (0) dX7_init_150 (by decide) ?_
  refine wq_cast (pc := 151) (N := 70) (r := []) 18 (nI (wd7 18)) dX7_init_151 rfl (by decide) rfl (by decide) (by decide) (by decide) ?_
  refine wp_to (h' := (Z_90, F, (CW (sm_ups (sm_ups (sm_ups (sm_ups (sm_ups (sm_up (sm_ups I 41 (fun _ => 0)) 41 73 1) 42 (fun _ => 0)) 43 (fun _ => 0)) 44 (fun _ => 0)) 45 (fun _ => 0)) 46 (fun _ => 0)) 19), J)) ?_ rfl rfl (cw_h 18)
  refine wp_dup (pc := 152) dX7_init_152 rfl ?_
  refine wp_bipush (pc := 153) (19) dX7_init_153 (by decide) ?_
  refine wp_iconst (pc := 155) (0) dX7_init_155 (by decide) ?_
  refine wq_cast (pc := 156) (N := 70) (r := []) 19 (nI (wd7 19)) dX7_init_156 rfl (by decide) rfl (by decide) (by decide) (by decide) ?_
  refine wp_to (h' := (Z_90, F, (CW (sm_ups (sm_ups (sm_ups (sm_ups (sm_ups (sm_up (sm_ups I 41 (fun _ => 0)) 41 73 1) 42 (fun _ => 0)) 43 (fun _ => 0)) 44 (fun _ => 0)) 45 (fun _ => 0)) 46 (fun _ => 0)) 20), J)) ?_ rfl rfl (cw_h 19)
  refine wp_dup (pc := 157) dX7_init_157 rfl ?_
  refine wp_bipush (pc := 158) (20) dX7_init_158 (by decide) ?_
  refine wp_iconst (pc := 160) (0) dX7_init_160 (by decide) ?_
  refine wq_cast (pc := 161) (N := 70) (r := []) 20 (nI (wd7 20)) dX7_init_161 rfl (by decide) rfl (by decide) (by decide) (by decide) ?_
  refine wp_to (h' := (Z_90, F, (CW (sm_ups (sm_ups (sm_ups (sm_ups (sm_ups (sm_up (sm_ups I 41 (fun _ => 0)) 41 73 1) 42 (fun _ => 0)) 43 (fun _ => 0)) 44 (fun _ => 0)) 45 (fun _ => 0)) 46 (fun _ => 0)) 21), J)) ?_ rfl rfl (cw_h 20)
  refine wp_dup (pc := 162) dX7_init_162 rfl ?_
  refine wp_bipush (pc := 163) (21) dX7_init_163 (by decide) ?_
  refine wp_bipush (pc := 165) (117) dX7_init_165 (by decide) ?_
  refine wq_cast (pc := 167) (N := 70) (r := []) 21 (nI (wd7 21)) dX7_init_167 rfl (by decide) rfl (by decide) (by decide) (by decide) ?_
  refine wp_to (h' := (Z_90, F, (CW (sm_ups (sm_ups (sm_ups (sm_ups (sm_ups (sm_up (sm_ups I 41 (fun _ => 0)) 41 73 1) 42 (fun _ => 0)) 43 (fun _ => 0)) 44 (fun _ => 0)) 45 (fun _ => 0)) 46 (fun _ => 0)) 22), J)) ?_ rfl rfl (cw_h 21)
  refine wp_dup (pc := 168) dX7_init_168 rfl ?_
  refine wp_bipush (pc := 169) (22) dX7_init_169 (by decide) ?_
  refine wp_bipush (pc := 171) (110) dX7_init_171 (by decide) ?_
  refine wq_cast (pc := 173) (N := 70) (r := []) 22 (nI (wd7 22)) dX7_init_173 rfl (by decide) rfl (by decide) (by decide) (by decide) ?_
  refine wp_to (h' := (Z_90, F, (CW (sm_ups (sm_ups (sm_ups (sm_ups (sm_ups (sm_up (sm_ups I 41 (fun _ => 0)) 41 73 1) 42 (fun _ => 0)) 43 (fun _ => 0)) 44 (fun _ => 0)) 45 (fun _ => 0)) 46 (fun _ => 0)) 23), J)) ?_ rfl rfl (cw_h 22)
  refine wp_dup (pc := 174) dX7_init_174 rfl ?_
  refine wp_bipush (pc := 175) (23) dX7_init_175 (by decide) ?_
  refine wp_bipush (pc := 177) (115) dX7_init_177 (by decide) ?_
  refine wq_cast (pc := 179) (N := 70) (r := []) 23 (nI (wd7 23)) dX7_init_179 rfl (by decide) rfl (by decide) (by decide) (by decide) ?_
  refine wp_to (h' := (Z_90, F, (CW (sm_ups (sm_ups (sm_ups (sm_ups (sm_ups (sm_up (sm_ups I 41 (fun _ => 0)) 41 73 1) 42 (fun _ => 0)) 43 (fun _ => 0)) 44 (fun _ => 0)) 45 (fun _ => 0)) 46 (fun _ => 0)) 24), J)) ?_ rfl rfl (cw_h 23)
  refine wp_dup (pc := 180) dX7_init_180 rfl ?_
  refine wp_bipush (pc := 181) (24) dX7_init_181 (by decide) ?_
  refine wp_bipush (pc := 183) (97) dX7_init_183 (by decide) ?_
  refine wq_cast (pc := 185) (N := 70) (r := []) 24 (nI (wd7 24)) dX7_init_185 rfl (by decide) rfl (by decide) (by decide) (by decide) ?_
  refine wp_to (h' := (Z_90, F, (CW (sm_ups (sm_ups (sm_ups (sm_ups (sm_ups (sm_up (sm_ups I 41 (fun _ => 0)) 41 73 1) 42 (fun _ => 0)) 43 (fun _ => 0)) 44 (fun _ => 0)) 45 (fun _ => 0)) 46 (fun _ => 0)) 25), J)) ?_ rfl rfl (cw_h 24)
  refine wp_dup (pc := 186) dX7_init_186 rfl ?_
  refine wp_bipush (pc := 187) (25) dX7_init_187 (by decide) ?_
  refine wp_bipush (pc := 189) (105) dX7_init_189 (by decide) ?_
  refine wq_cast (pc := 191) (N := 70) (r := []) 25 (nI (wd7 25)) dX7_init_191 rfl (by decide) rfl (by decide) (by decide) (by decide) ?_
  refine wp_to (h' := (Z_90, F, (CW (sm_ups (sm_ups (sm_ups (sm_ups (sm_ups (sm_up (sm_ups I 41 (fun _ => 0)) 41 73 1) 42 (fun _ => 0)) 43 (fun _ => 0)) 44 (fun _ => 0)) 45 (fun _ => 0)) 46 (fun _ => 0)) 26), J)) ?_ rfl rfl (cw_h 25)
  refine wp_dup (pc := 192) dX7_init_192 rfl ?_
  refine wp_bipush (pc := 193) (26) dX7_init_193 (by decide) ?_
  refine wp_bipush (pc := 195) (100) dX7_init_195 (by decide) ?_
  refine wq_cast (pc := 197) (N := 70) (r := []) 26 (nI (wd7 26)) dX7_init_197 rfl (by decide) rfl (by decide) (by decide) (by decide) ?_
  refine wp_to (h' := (Z_90, F, (CW (sm_ups (sm_ups (sm_ups (sm_ups (sm_ups (sm_up (sm_ups I 41 (fun _ => 0)) 41 73 1) 42 (fun _ => 0)) 43 (fun _ => 0)) 44 (fun _ => 0)) 45 (fun _ => 0)) 46 (fun _ => 0)) 27), J)) ?_ rfl rfl (cw_h 26)
  refine wp_dup (pc := 198) dX7_init_198 rfl ?_
  refine wp_bipush (pc := 199) (27) dX7_init_199 (by decide) ?_
  refine wp_iconst (pc := 201) (0) dX7_init_201 (by decide) ?_
  refine wq_cast (pc := 202) (N := 70) (r := []) 27 (nI (wd7 27)) dX7_init_202 rfl (by decide) rfl (by decide) (by decide) (by decide) ?_
  refine wp_to (h' := (Z_90, F, (CW (sm_ups (sm_ups (sm_ups (sm_ups (sm_ups (sm_up (sm_ups I 41 (fun _ => 0)) 41 73 1) 42 (fun _ => 0)) 43 (fun _ => 0)) 44 (fun _ => 0)) 45 (fun _ => 0)) 46 (fun _ => 0)) 28), J)) ?_ rfl rfl (cw_h 27)
  refine wp_dup (pc := 203) dX7_init_203 rfl ?_
  refine wp_bipush (pc := 204) (28) dX7_init_204 (by decide) ?_
  refine wp_bipush (pc := 206) (115) dX7_init_206 (by decide) ?_
  refine wq_cast (pc := 208) (N := 70) (r := []) 28 (nI (wd7 28)) dX7_init_208 rfl (by decide) rfl (by decide) (by decide) (by decide) ?_
  refine wp_to (h' := (Z_90, F, (CW (sm_ups (sm_ups (sm_ups (sm_ups (sm_ups (sm_up (sm_ups I 41 (fun _ => 0)) 41 73 1) 42 (fun _ => 0)) 43 (fun _ => 0)) 44 (fun _ => 0)) 45 (fun _ => 0)) 46 (fun _ => 0)) 29), J)) ?_ rfl rfl (cw_h 28)
  refine wp_dup (pc := 209) dX7_init_209 rfl ?_
  refine wp_bipush (pc := 210) (29) dX7_init_210 (by decide) ?_
  refine wp_bipush (pc := 212) (97) dX7_init_212 (by decide) ?_
  refine wq_cast (pc := 214) (N := 70) (r := []) 29 (nI (wd7 29)) dX7_init_214 rfl (by decide) rfl (by decide) (by decide) (by decide) ?_
  refine wp_to (h' := (Z_90, F, (CW (sm_ups (sm_ups (sm_ups (sm_ups (sm_ups (sm_up (sm_ups I 41 (fun _ => 0)) 41 73 1) 42 (fun _ => 0)) 43 (fun _ => 0)) 44 (fun _ => 0)) 45 (fun _ => 0)) 46 (fun _ => 0)) 30), J)) ?_ rfl rfl (cw_h 29)
  refine wp_dup (pc := 215) dX7_init_215 rfl ?_
  refine wp_bipush (pc := 216) (30) dX7_init_216 (by decide) ?_
  refine wp_bipush (pc := 218) (105) dX7_init_218 (by decide) ?_
  refine wq_cast (pc := 220) (N := 70) (r := []) 30 (nI (wd7 30)) dX7_init_220 rfl (by decide) rfl (by decide) (by decide) (by decide) ?_
  refine wp_to (h' := (Z_90, F, (CW (sm_ups (sm_ups (sm_ups (sm_ups (sm_ups (sm_up (sm_ups I 41 (fun _ => 0)) 41 73 1) 42 (fun _ => 0)) 43 (fun _ => 0)) 44 (fun _ => 0)) 45 (fun _ => 0)) 46 (fun _ => 0)) 31), J)) ?_ rfl rfl (cw_h 30)
  refine wp_dup (pc := 221) dX7_init_221 rfl ?_
  refine wp_bipush (pc := 222) (31) dX7_init_222 (by decide) ?_
  refine wp_bipush (pc := 224) (100) dX7_init_224 (by decide) ?_
  refine wq_cast (pc := 226) (N := 70) (r := []) 31 (nI (wd7 31)) dX7_init_226 rfl (by decide) rfl (by decide) (by decide) (by decide) ?_
  refine wp_to (h' := (Z_90, F, (CW (sm_ups (sm_ups (sm_ups (sm_ups (sm_ups (sm_up (sm_ups I 41 (fun _ => 0)) 41 73 1) 42 (fun _ => 0)) 43 (fun _ => 0)) 44 (fun _ => 0)) 45 (fun _ => 0)) 46 (fun _ => 0)) 32), J)) ?_ rfl rfl (cw_h 31)
  refine wp_dup (pc := 227) dX7_init_227 rfl ?_
  refine wp_bipush (pc := 228) (32) dX7_init_228 (by decide) ?_
  refine wp_iconst (pc := 230) (0) dX7_init_230 (by decide) ?_
  refine wq_cast (pc := 231) (N := 70) (r := []) 32 (nI (wd7 32)) dX7_init_231 rfl (by decide) rfl (by decide) (by decide) (by decide) ?_
  refine wp_to (h' := (Z_90, F, (CW (sm_ups (sm_ups (sm_ups (sm_ups (sm_ups (sm_up (sm_ups I 41 (fun _ => 0)) 41 73 1) 42 (fun _ => 0)) 43 (fun _ => 0)) 44 (fun _ => 0)) 45 (fun _ => 0)) 46 (fun _ => 0)) 33), J)) ?_ rfl rfl (cw_h 32)
  refine wp_dup (pc := 232) dX7_init_232 rfl ?_
  refine wp_bipush (pc := 233) (33) dX7_init_233 (by decide) ?_
  refine wp_iconst (pc := 235) (0) dX7_init_235 (by decide) ?_
  refine wq_cast (pc := 236) (N := 70) (r := []) 33 (nI (wd7 33)) dX7_init_236 rfl (by decide) rfl (by decide) (by decide) (by decide) ?_
  refine wp_to (h' := (Z_90, F, (CW (sm_ups (sm_ups (sm_ups (sm_ups (sm_ups (sm_up (sm_ups I 41 (fun _ => 0)) 41 73 1) 42 (fun _ => 0)) 43 (fun _ => 0)) 44 (fun _ => 0)) 45 (fun _ => 0)) 46 (fun _ => 0)) 34), J)) ?_ rfl rfl (cw_h 33)
  refine wp_dup (pc := 237) dX7_init_237 rfl ?_
  refine wp_bipush (pc := 238) (34) dX7_init_238 (by decide) ?_
  refine wp_iconst (pc := 240) (0) dX7_init_240 (by decide) ?_
  refine wq_cast (pc := 241) (N := 70) (r := []) 34 (nI (wd7 34)) dX7_init_241 rfl (by decide) rfl (by decide) (by decide) (by decide) ?_
  refine wp_to (h' := (Z_90, F, (CW (sm_ups (sm_ups (sm_ups (sm_ups (sm_ups (sm_up (sm_ups I 41 (fun _ => 0)) 41 73 1) 42 (fun _ => 0)) 43 (fun _ => 0)) 44 (fun _ => 0)) 45 (fun _ => 0)) 46 (fun _ => 0)) 35), J)) ?_ rfl rfl (cw_h 34)
  refine wp_dup (pc := 242) dX7_init_242 rfl ?_
  refine wp_bipush (pc := 243) (35) dX7_init_243 (by decide) ?_
  refine wp_bipush (pc := 245) (114) dX7_init_245 (by decide) ?_
  refine wq_cast (pc := 247) (N := 70) (r := []) 35 (nI (wd7 35)) dX7_init_247 rfl (by decide) rfl (by decide) (by decide) (by decide) ?_
  refine wp_to (h' := (Z_90, F, (CW (sm_ups (sm_ups (sm_ups (sm_ups (sm_ups (sm_up (sm_ups I 41 (fun _ => 0)) 41 73 1) 42 (fun _ => 0)) 43 (fun _ => 0)) 44 (fun _ => 0)) 45 (fun _ => 0)) 46 (fun _ => 0)) 36), J)) ?_ rfl rfl (cw_h 35)
  refine wp_dup (pc := 248) dX7_init_248 rfl ?_
  refine wp_bipush (pc := 249) (36) dX7_init_249 (by decide) ?_
  refine wp_bipush (pc := 251) (105) dX7_init_251 (by decide) ?_
  refine wq_cast (pc := 253) (N := 70) (r := []) 36 (nI (wd7 36)) dX7_init_253 rfl (by decide) rfl (by decide) (by decide) (by decide) ?_
  refine wp_to (h' := (Z_90, F, (CW (sm_ups (sm_ups (sm_ups (sm_ups (sm_ups (sm_up (sm_ups I 41 (fun _ => 0)) 41 73 1) 42 (fun _ => 0)) 43 (fun _ => 0)) 44 (fun _ => 0)) 45 (fun _ => 0)) 46 (fun _ => 0)) 37), J)) ?_ rfl rfl (cw_h 36)
  refine wp_dup (pc := 254) dX7_init_254 rfl ?_
  refine wp_bipush (pc := 255) (37) dX7_init_255 (by decide) ?_
  refine wp_bipush (pc := 257) (110) dX7_init_257 (by decide) ?_
  refine wq_cast (pc := 259) (N := 70) (r := []) 37 (nI (wd7 37)) dX7_init_259 rfl (by decide) rfl (by decide) (by decide) (by decide) ?_
  refine wp_to (h' := (Z_90, F, (CW (sm_ups (sm_ups (sm_ups (sm_ups (sm_ups (sm_up (sm_ups I 41 (fun _ => 0)) 41 73 1) 42 (fun _ => 0)) 43 (fun _ => 0)) 44 (fun _ => 0)) 45 (fun _ => 0)) 46 (fun _ => 0)) 38), J)) ?_ rfl rfl (cw_h 37)
  refine wp_dup (pc := 260) dX7_init_260 rfl ?_
  refine wp_bipush (pc := 261) (38) dX7_init_261 (by decide) ?_
  refine wp_bipush (pc := 263) (103) dX7_init_263 (by decide) ?_
  refine wq_cast (pc := 265) (N := 70) (r := []) 38 (nI (wd7 38)) dX7_init_265 rfl (by decide) rfl (by decide) (by decide) (by decide) ?_
  refine wp_to (h' := (Z_90, F, (CW (sm_ups (sm_ups (sm_ups (sm_ups (sm_ups (sm_up (sm_ups I 41 (fun _ => 0)) 41 73 1) 42 (fun _ => 0)) 43 (fun _ => 0)) 44 (fun _ => 0)) 45 (fun _ => 0)) 46 (fun _ => 0)) 39), J)) ?_ rfl rfl (cw_h 38)
  refine wp_dup (pc := 266) dX7_init_266 rfl ?_
  refine wp_bipush (pc := 267) (39) dX7_init_267 (by decide) ?_
  refine wp_bipush (pc := 269) (101) dX7_init_269 (by decide) ?_
  refine wq_cast (pc := 271) (N := 70) (r := []) 39 (nI (wd7 39)) dX7_init_271 rfl (by decide) rfl (by decide) (by decide) (by decide) ?_
  refine wp_to (h' := (Z_90, F, (CW (sm_ups (sm_ups (sm_ups (sm_ups (sm_ups (sm_up (sm_ups I 41 (fun _ => 0)) 41 73 1) 42 (fun _ => 0)) 43 (fun _ => 0)) 44 (fun _ => 0)) 45 (fun _ => 0)) 46 (fun _ => 0)) 40), J)) ?_ rfl rfl (cw_h 39)
  refine wp_dup (pc := 272) dX7_init_272 rfl ?_
  refine wp_bipush (pc := 273) (40) dX7_init_273 (by decide) ?_
  refine wp_bipush (pc := 275) (114) dX7_init_275 (by decide) ?_
  refine wq_cast (pc := 277) (N := 70) (r := []) 40 (nI (wd7 40)) dX7_init_277 rfl (by decide) rfl (by decide) (by decide) (by decide) ?_
  refine wp_to (h' := (Z_90, F, (CW (sm_ups (sm_ups (sm_ups (sm_ups (sm_ups (sm_up (sm_ups I 41 (fun _ => 0)) 41 73 1) 42 (fun _ => 0)) 43 (fun _ => 0)) 44 (fun _ => 0)) 45 (fun _ => 0)) 46 (fun _ => 0)) 41), J)) ?_ rfl rfl (cw_h 40)
  refine wp_dup (pc := 278) dX7_init_278 rfl ?_
  refine wp_bipush (pc := 279) (41) dX7_init_279 (by decide) ?_
  refine wp_iconst (pc := 281) (0) dX7_init_281 (by decide) ?_
  refine wq_cast (pc := 282) (N := 70) (r := []) 41 (nI (wd7 41)) dX7_init_282 rfl (by decide) rfl (by decide) (by decide) (by decide) ?_
  refine wp_to (h' := (Z_90, F, (CW (sm_ups (sm_ups (sm_ups (sm_ups (sm_ups (sm_up (sm_ups I 41 (fun _ => 0)) 41 73 1) 42 (fun _ => 0)) 43 (fun _ => 0)) 44 (fun _ => 0)) 45 (fun _ => 0)) 46 (fun _ => 0)) 42), J)) ?_ rfl rfl (cw_h 41)
  refine wp_dup (pc := 283) dX7_init_283 rfl ?_
  refine wp_bipush (pc := 284) (42) dX7_init_284 (by decide) ?_
  refine wp_bipush (pc := 286) (119) dX7_init_286 (by decide) ?_
  refine wq_cast (pc := 288) (N := 70) (r := []) 42 (nI (wd7 42)) dX7_init_288 rfl (by decide) rfl (by decide) (by decide) (by decide) ?_
  refine wp_to (h' := (Z_90, F, (CW (sm_ups (sm_ups (sm_ups (sm_ups (sm_ups (sm_up (sm_ups I 41 (fun _ => 0)) 41 73 1) 42 (fun _ => 0)) 43 (fun _ => 0)) 44 (fun _ => 0)) 45 (fun _ => 0)) 46 (fun _ => 0)) 43), J)) ?_ rfl rfl (cw_h 42)
  refine wp_dup (pc := 289) dX7_init_289 rfl ?_
  refine wp_bipush (pc := 290) (43) dX7_init_290 (by decide) ?_
  refine wp_bipush (pc := 292) (101) dX7_init_292 (by decide) ?_
  refine wq_cast (pc := 294) (N := 70) (r := []) 43 (nI (wd7 43)) dX7_init_294 rfl (by decide) rfl (by decide) (by decide) (by decide) ?_
  refine wp_to (h' := (Z_90, F, (CW (sm_ups (sm_ups (sm_ups (sm_ups (sm_ups (sm_up (sm_ups I 41 (fun _ => 0)) 41 73 1) 42 (fun _ => 0)) 43 (fun _ => 0)) 44 (fun _ => 0)) 45 (fun _ => 0)) 46 (fun _ => 0)) 44), J)) ?_ rfl rfl (cw_h 43)
  refine wp_dup (pc := 295) dX7_init_295 rfl ?_
  refine wp_bipush (pc := 296) (44) dX7_init_296 (by decide) ?_
  refine wp_bipush (pc := 298) (97) dX7_init_298 (by decide) ?_
  refine wq_cast (pc := 300) (N := 70) (r := []) 44 (nI (wd7 44)) dX7_init_300 rfl (by decide) rfl (by decide) (by decide) (by decide) ?_
  refine wp_to (h' := (Z_90, F, (CW (sm_ups (sm_ups (sm_ups (sm_ups (sm_ups (sm_up (sm_ups I 41 (fun _ => 0)) 41 73 1) 42 (fun _ => 0)) 43 (fun _ => 0)) 44 (fun _ => 0)) 45 (fun _ => 0)) 46 (fun _ => 0)) 45), J)) ?_ rfl rfl (cw_h 44)
  refine wp_dup (pc := 301) dX7_init_301 rfl ?_
  refine wp_bipush (pc := 302) (45) dX7_init_302 (by decide) ?_
  refine wp_bipush (pc := 304) (116) dX7_init_304 (by decide) ?_
  refine wq_cast (pc := 306) (N := 70) (r := []) 45 (nI (wd7 45)) dX7_init_306 rfl (by decide) rfl (by decide) (by decide) (by decide) ?_
  refine wp_to (h' := (Z_90, F, (CW (sm_ups (sm_ups (sm_ups (sm_ups (sm_ups (sm_up (sm_ups I 41 (fun _ => 0)) 41 73 1) 42 (fun _ => 0)) 43 (fun _ => 0)) 44 (fun _ => 0)) 45 (fun _ => 0)) 46 (fun _ => 0)) 46), J)) ?_ rfl rfl (cw_h 45)
  refine wp_dup (pc := 307) dX7_init_307 rfl ?_
  refine wp_bipush (pc := 308) (46) dX7_init_308 (by decide) ?_
  refine wp_bipush (pc := 310) (104) dX7_init_310 (by decide) ?_
  refine wq_cast (pc := 312) (N := 70) (r := []) 46 (nI (wd7 46)) dX7_init_312 rfl (by decide) rfl (by decide) (by decide) (by decide) ?_
  refine wp_to (h' := (Z_90, F, (CW (sm_ups (sm_ups (sm_ups (sm_ups (sm_ups (sm_up (sm_ups I 41 (fun _ => 0)) 41 73 1) 42 (fun _ => 0)) 43 (fun _ => 0)) 44 (fun _ => 0)) 45 (fun _ => 0)) 46 (fun _ => 0)) 47), J)) ?_ rfl rfl (cw_h 46)
  refine wp_dup (pc := 313) dX7_init_313 rfl ?_
  refine wp_bipush (pc := 314) (47) dX7_init_314 (by decide) ?_
  refine wp_bipush (pc := 316) (101) dX7_init_316 (by decide) ?_
  refine wq_cast (pc := 318) (N := 70) (r := []) 47 (nI (wd7 47)) dX7_init_318 rfl (by decide) rfl (by decide) (by decide) (by decide) ?_
  refine wp_to (h' := (Z_90, F, (CW (sm_ups (sm_ups (sm_ups (sm_ups (sm_ups (sm_up (sm_ups I 41 (fun _ => 0)) 41 73 1) 42 (fun _ => 0)) 43 (fun _ => 0)) 44 (fun _ => 0)) 45 (fun _ => 0)) 46 (fun _ => 0)) 48), J)) ?_ rfl rfl (cw_h 47)
  refine wp_dup (pc := 319) dX7_init_319 rfl ?_
  refine wp_bipush (pc := 320) (48) dX7_init_320 (by decide) ?_
  refine wp_bipush (pc := 322) (114) dX7_init_322 (by decide) ?_
  refine wq_cast (pc := 324) (N := 70) (r := []) 48 (nI (wd7 48)) dX7_init_324 rfl (by decide) rfl (by decide) (by decide) (by decide) ?_
  refine wp_to (h' := (Z_90, F, (CW (sm_ups (sm_ups (sm_ups (sm_ups (sm_ups (sm_up (sm_ups I 41 (fun _ => 0)) 41 73 1) 42 (fun _ => 0)) 43 (fun _ => 0)) 44 (fun _ => 0)) 45 (fun _ => 0)) 46 (fun _ => 0)) 49), J)) ?_ rfl rfl (cw_h 48)
  refine wp_dup (pc := 325) dX7_init_325 rfl ?_
  refine wp_bipush (pc := 326) (49) dX7_init_326 (by decide) ?_
  refine wp_bipush (pc := 328) (99) dX7_init_328 (by decide) ?_
  refine wq_cast (pc := 330) (N := 70) (r := []) 49 (nI (wd7 49)) dX7_init_330 rfl (by decide) rfl (by decide) (by decide) (by decide) ?_
  refine wp_to (h' := (Z_90, F, (CW (sm_ups (sm_ups (sm_ups (sm_ups (sm_ups (sm_up (sm_ups I 41 (fun _ => 0)) 41 73 1) 42 (fun _ => 0)) 43 (fun _ => 0)) 44 (fun _ => 0)) 45 (fun _ => 0)) 46 (fun _ => 0)) 50), J)) ?_ rfl rfl (cw_h 49)
  refine wp_dup (pc := 331) dX7_init_331 rfl ?_
  refine wp_bipush (pc := 332) (50) dX7_init_332 (by decide) ?_
  refine wp_bipush (pc := 334) (114) dX7_init_334 (by decide) ?_
  refine wq_cast (pc := 336) (N := 70) (r := []) 50 (nI (wd7 50)) dX7_init_336 rfl (by decide) rfl (by decide) (by decide) (by decide) ?_
  refine wp_to (h' := (Z_90, F, (CW (sm_ups (sm_ups (sm_ups (sm_ups (sm_ups (sm_up (sm_ups I 41 (fun _ => 0)) 41 73 1) 42 (fun _ => 0)) 43 (fun _ => 0)) 44 (fun _ => 0)) 45 (fun _ => 0)) 46 (fun _ => 0)) 51), J)) ?_ rfl rfl (cw_h 50)
  refine wp_dup (pc := 337) dX7_init_337 rfl ?_
  refine wp_bipush (pc := 338) (51) dX7_init_338 (by decide) ?_
  refine wp_bipush (pc := 340) (97) dX7_init_340 (by decide) ?_
  refine wq_cast (pc := 342) (N := 70) (r := []) 51 (nI (wd7 51)) dX7_init_342 rfl (by decide) rfl (by decide) (by decide) (by decide) ?_
  refine wp_to (h' := (Z_90, F, (CW (sm_ups (sm_ups (sm_ups (sm_ups (sm_ups (sm_up (sm_ups I 41 (fun _ => 0)) 41 73 1) 42 (fun _ => 0)) 43 (fun _ => 0)) 44 (fun _ => 0)) 45 (fun _ => 0)) 46 (fun _ => 0)) 52), J)) ?_ rfl rfl (cw_h 51)
  refine wp_dup (pc := 343) dX7_init_343 rfl ?_
  refine wp_bipush (pc := 344) (52) dX7_init_344 (by decide) ?_
  refine wp_bipush (pc := 346) (99) dX7_init_346 (by decide) ?_
  refine wq_cast (pc := 348) (N := 70) (r := []) 52 (nI (wd7 52)) dX7_init_348 rfl (by decide) rfl (by decide) (by decide) (by decide) ?_
  refine wp_to (h' := (Z_90, F, (CW (sm_ups (sm_ups (sm_ups (sm_ups (sm_ups (sm_up (sm_ups I 41 (fun _ => 0)) 41 73 1) 42 (fun _ => 0)) 43 (fun _ => 0)) 44 (fun _ => 0)) 45 (fun _ => 0)) 46 (fun _ => 0)) 53), J)) ?_ rfl rfl (cw_h 52)
  refine wp_dup (pc := 349) dX7_init_349 rfl ?_
  refine wp_bipush (pc := 350) (53) dX7_init_350 (by decide) ?_
  refine wp_bipush (pc := 352) (107) dX7_init_352 (by decide) ?_
  refine wq_cast (pc := 354) (N := 70) (r := []) 53 (nI (wd7 53)) dX7_init_354 rfl (by decide) rfl (by decide) (by decide) (by decide) ?_
  refine wp_to (h' := (Z_90, F, (CW (sm_ups (sm_ups (sm_ups (sm_ups (sm_ups (sm_up (sm_ups I 41 (fun _ => 0)) 41 73 1) 42 (fun _ => 0)) 43 (fun _ => 0)) 44 (fun _ => 0)) 45 (fun _ => 0)) 46 (fun _ => 0)) 54), J)) ?_ rfl rfl (cw_h 53)
  refine wp_dup (pc := 355) dX7_init_355 rfl ?_
  refine wp_bipush (pc := 356) (54) dX7_init_356 (by decide) ?_
  refine wp_iconst (pc := 358) (0) dX7_init_358 (by decide) ?_
  refine wq_cast (pc := 359) (N := 70) (r := []) 54 (nI (wd7 54)) dX7_init_359 rfl (by decide) rfl (by decide) (by decide) (by decide) ?_
  refine wp_to (h' := (Z_90, F, (CW (sm_ups (sm_ups (sm_ups (sm_ups (sm_ups (sm_up (sm_ups I 41 (fun _ => 0)) 41 73 1) 42 (fun _ => 0)) 43 (fun _ => 0)) 44 (fun _ => 0)) 45 (fun _ => 0)) 46 (fun _ => 0)) 55), J)) ?_ rfl rfl (cw_h 54)
  refine wp_dup (pc := 360) dX7_init_360 rfl ?_
  refine wp_bipush (pc := 361) (55) dX7_init_361 (by decide) ?_
  refine wp_iconst (pc := 363) (0) dX7_init_363 (by decide) ?_
  refine wq_cast (pc := 364) (N := 70) (r := []) 55 (nI (wd7 55)) dX7_init_364 rfl (by decide) rfl (by decide) (by decide) (by decide) ?_
  refine wp_to (h' := (Z_90, F, (CW (sm_ups (sm_ups (sm_ups (sm_ups (sm_ups (sm_up (sm_ups I 41 (fun _ => 0)) 41 73 1) 42 (fun _ => 0)) 43 (fun _ => 0)) 44 (fun _ => 0)) 45 (fun _ => 0)) 46 (fun _ => 0)) 56), J)) ?_ rfl rfl (cw_h 55)
  refine wp_dup (pc := 365) dX7_init_365 rfl ?_
  refine wp_bipush (pc := 366) (56) dX7_init_366 (by decide) ?_
  refine wp_bipush (pc := 368) (109) dX7_init_368 (by decide) ?_
  refine wq_cast (pc := 370) (N := 70) (r := []) 56 (nI (wd7 56)) dX7_init_370 rfl (by decide) rfl (by decide) (by decide) (by decide) ?_
  refine wp_to (h' := (Z_90, F, (CW (sm_ups (sm_ups (sm_ups (sm_ups (sm_ups (sm_up (sm_ups I 41 (fun _ => 0)) 41 73 1) 42 (fun _ => 0)) 43 (fun _ => 0)) 44 (fun _ => 0)) 45 (fun _ => 0)) 46 (fun _ => 0)) 57), J)) ?_ rfl rfl (cw_h 56)
  refine wp_dup (pc := 371) dX7_init_371 rfl ?_
  refine wp_bipush (pc := 372) (57) dX7_init_372 (by decide) ?_
  refine wp_bipush (pc := 374) (101) dX7_init_374 (by decide) ?_
  refine wq_cast (pc := 376) (N := 70) (r := []) 57 (nI (wd7 57)) dX7_init_376 rfl (by decide) rfl (by decide) (by decide) (by decide) ?_
  refine wp_to (h' := (Z_90, F, (CW (sm_ups (sm_ups (sm_ups (sm_ups (sm_ups (sm_up (sm_ups I 41 (fun _ => 0)) 41 73 1) 42 (fun _ => 0)) 43 (fun _ => 0)) 44 (fun _ => 0)) 45 (fun _ => 0)) 46 (fun _ => 0)) 58), J)) ?_ rfl rfl (cw_h 57)
  refine wp_dup (pc := 377) dX7_init_377 rfl ?_
  refine wp_bipush (pc := 378) (58) dX7_init_378 (by decide) ?_
  refine wp_bipush (pc := 380) (110) dX7_init_380 (by decide) ?_
  refine wq_cast (pc := 382) (N := 70) (r := []) 58 (nI (wd7 58)) dX7_init_382 rfl (by decide) rfl (by decide) (by decide) (by decide) ?_
  refine wp_to (h' := (Z_90, F, (CW (sm_ups (sm_ups (sm_ups (sm_ups (sm_ups (sm_up (sm_ups I 41 (fun _ => 0)) 41 73 1) 42 (fun _ => 0)) 43 (fun _ => 0)) 44 (fun _ => 0)) 45 (fun _ => 0)) 46 (fun _ => 0)) 59), J)) ?_ rfl rfl (cw_h 58)
  refine wp_dup (pc := 383) dX7_init_383 rfl ?_
  refine wp_bipush (pc := 384) (59) dX7_init_384 (by decide) ?_
  refine wp_bipush (pc := 386) (100) dX7_init_386 (by decide) ?_
  refine wq_cast (pc := 388) (N := 70) (r := []) 59 (nI (wd7 59)) dX7_init_388 rfl (by decide) rfl (by decide) (by decide) (by decide) ?_
  refine wp_to (h' := (Z_90, F, (CW (sm_ups (sm_ups (sm_ups (sm_ups (sm_ups (sm_up (sm_ups I 41 (fun _ => 0)) 41 73 1) 42 (fun _ => 0)) 43 (fun _ => 0)) 44 (fun _ => 0)) 45 (fun _ => 0)) 46 (fun _ => 0)) 60), J)) ?_ rfl rfl (cw_h 59)
  refine wp_dup (pc := 389) dX7_init_389 rfl ?_
  refine wp_bipush (pc := 390) (60) dX7_init_390 (by decide) ?_
  refine wp_iconst (pc := 392) (0) dX7_init_392 (by decide) ?_
  refine wq_cast (pc := 393) (N := 70) (r := []) 60 (nI (wd7 60)) dX7_init_393 rfl (by decide) rfl (by decide) (by decide) (by decide) ?_
  refine wp_to (h' := (Z_90, F, (CW (sm_ups (sm_ups (sm_ups (sm_ups (sm_ups (sm_up (sm_ups I 41 (fun _ => 0)) 41 73 1) 42 (fun _ => 0)) 43 (fun _ => 0)) 44 (fun _ => 0)) 45 (fun _ => 0)) 46 (fun _ => 0)) 61), J)) ?_ rfl rfl (cw_h 60)
  refine wp_dup (pc := 394) dX7_init_394 rfl ?_
  refine wp_bipush (pc := 395) (61) dX7_init_395 (by decide) ?_
  refine wp_iconst (pc := 397) (0) dX7_init_397 (by decide) ?_
  refine wq_cast (pc := 398) (N := 70) (r := []) 61 (nI (wd7 61)) dX7_init_398 rfl (by decide) rfl (by decide) (by decide) (by decide) ?_
  refine wp_to (h' := (Z_90, F, (CW (sm_ups (sm_ups (sm_ups (sm_ups (sm_ups (sm_up (sm_ups I 41 (fun _ => 0)) 41 73 1) 42 (fun _ => 0)) 43 (fun _ => 0)) 44 (fun _ => 0)) 45 (fun _ => 0)) 46 (fun _ => 0)) 62), J)) ?_ rfl rfl (cw_h 61)
  refine wp_dup (pc := 399) dX7_init_399 rfl ?_
  refine wp_bipush (pc := 400) (62) dX7_init_400 (by decide) ?_
  refine wp_iconst (pc := 402) (0) dX7_init_402 (by decide) ?_
  refine wq_cast (pc := 403) (N := 70) (r := []) 62 (nI (wd7 62)) dX7_init_403 rfl (by decide) rfl (by decide) (by decide) (by decide) ?_
  refine wp_to (h' := (Z_90, F, (CW (sm_ups (sm_ups (sm_ups (sm_ups (sm_ups (sm_up (sm_ups I 41 (fun _ => 0)) 41 73 1) 42 (fun _ => 0)) 43 (fun _ => 0)) 44 (fun _ => 0)) 45 (fun _ => 0)) 46 (fun _ => 0)) 63), J)) ?_ rfl rfl (cw_h 62)
  refine wp_dup (pc := 404) dX7_init_404 rfl ?_
  refine wp_bipush (pc := 405) (63) dX7_init_405 (by decide) ?_
  refine wp_bipush (pc := 407) (121) dX7_init_407 (by decide) ?_
  refine wq_cast (pc := 409) (N := 70) (r := []) 63 (nI (wd7 63)) dX7_init_409 rfl (by decide) rfl (by decide) (by decide) (by decide) ?_
  refine wp_to (h' := (Z_90, F, (CW (sm_ups (sm_ups (sm_ups (sm_ups (sm_ups (sm_up (sm_ups I 41 (fun _ => 0)) 41 73 1) 42 (fun _ => 0)) 43 (fun _ => 0)) 44 (fun _ => 0)) 45 (fun _ => 0)) 46 (fun _ => 0)) 64), J)) ?_ rfl rfl (cw_h 63)
  refine wp_dup (pc := 410) dX7_init_410 rfl ?_
  refine wp_bipush (pc := 411) (64) dX7_init_411 (by decide) ?_
  refine wp_bipush (pc := 413) (101) dX7_init_413 (by decide) ?_
  refine wq_cast (pc := 415) (N := 70) (r := []) 64 (nI (wd7 64)) dX7_init_415 rfl (by decide) rfl (by decide) (by decide) (by decide) ?_
  refine wp_to (h' := (Z_90, F, (CW (sm_ups (sm_ups (sm_ups (sm_ups (sm_ups (sm_up (sm_ups I 41 (fun _ => 0)) 41 73 1) 42 (fun _ => 0)) 43 (fun _ => 0)) 44 (fun _ => 0)) 45 (fun _ => 0)) 46 (fun _ => 0)) 65), J)) ?_ rfl rfl (cw_h 64)
  refine wp_dup (pc := 416) dX7_init_416 rfl ?_
  refine wp_bipush (pc := 417) (65) dX7_init_417 (by decide) ?_
  refine wp_bipush (pc := 419) (97) dX7_init_419 (by decide) ?_
  refine wq_cast (pc := 421) (N := 70) (r := []) 65 (nI (wd7 65)) dX7_init_421 rfl (by decide) rfl (by decide) (by decide) (by decide) ?_
  refine wp_to (h' := (Z_90, F, (CW (sm_ups (sm_ups (sm_ups (sm_ups (sm_ups (sm_up (sm_ups I 41 (fun _ => 0)) 41 73 1) 42 (fun _ => 0)) 43 (fun _ => 0)) 44 (fun _ => 0)) 45 (fun _ => 0)) 46 (fun _ => 0)) 66), J)) ?_ rfl rfl (cw_h 65)
  refine wp_dup (pc := 422) dX7_init_422 rfl ?_
  refine wp_bipush (pc := 423) (66) dX7_init_423 (by decide) ?_
  refine wp_bipush (pc := 425) (114) dX7_init_425 (by decide) ?_
  refine wq_cast (pc := 427) (N := 70) (r := []) 66 (nI (wd7 66)) dX7_init_427 rfl (by decide) rfl (by decide) (by decide) (by decide) ?_
  refine wp_to (h' := (Z_90, F, (CW (sm_ups (sm_ups (sm_ups (sm_ups (sm_ups (sm_up (sm_ups I 41 (fun _ => 0)) 41 73 1) 42 (fun _ => 0)) 43 (fun _ => 0)) 44 (fun _ => 0)) 45 (fun _ => 0)) 46 (fun _ => 0)) 67), J)) ?_ rfl rfl (cw_h 66)
  refine wp_dup (pc := 428) dX7_init_428 rfl ?_
  refine wp_bipush (pc := 429) (67) dX7_init_429 (by decide) ?_
  refine wp_iconst (pc := 431) (0) dX7_init_431 (by decide) ?_
  refine wq_cast (pc := 432) (N := 70) (r := []) 67 (nI (wd7 67)) dX7_init_432 rfl (by decide) rfl (by decide) (by decide) (by decide) ?_
  refine wp_to (h' := (Z_90, F, (CW (sm_ups (sm_ups (sm_ups (sm_ups (sm_ups (sm_up (sm_ups I 41 (fun _ => 0)) 41 73 1) 42 (fun _ => 0)) 43 (fun _ => 0)) 44 (fun _ => 0)) 45 (fun _ => 0)) 46 (fun _ => 0)) 68), J)) ?_ rfl rfl (cw_h 67)
  refine wp_dup (pc := 433) dX7_init_433 rfl ?_
  refine wp_bipush (pc := 434) (68) dX7_init_434 (by decide) ?_
  refine wp_iconst (pc := 436) (0) dX7_init_436 (by decide) ?_
  refine wq_cast (pc := 437) (N := 70) (r := []) 68 (nI (wd7 68)) dX7_init_437 rfl (by decide) rfl (by decide) (by decide) (by decide) ?_
  refine wp_to (h' := (Z_90, F, (CW (sm_ups (sm_ups (sm_ups (sm_ups (sm_ups (sm_up (sm_ups I 41 (fun _ => 0)) 41 73 1) 42 (fun _ => 0)) 43 (fun _ => 0)) 44 (fun _ => 0)) 45 (fun _ => 0)) 46 (fun _ => 0)) 69), J)) ?_ rfl rfl (cw_h 68)
  refine wp_dup (pc := 438) dX7_init_438 rfl ?_
  refine wp_bipush (pc := 439) (69) dX7_init_439 (by decide) ?_
  refine wp_iconst (pc := 441) (0) dX7_init_441 (by decide) ?_
  refine wq_cast (pc := 442) (N := 70) (r := []) 69 (nI (wd7 69)) dX7_init_442 rfl (by decide) rfl (by decide) (by decide) (by decide) ?_
  refine wp_to (h' := (Z_90, F, (CW (sm_ups (sm_ups (sm_ups (sm_ups (sm_ups (sm_up (sm_ups I 41 (fun _ => 0)) 41 73 1) 42 (fun _ => 0)) 43 (fun _ => 0)) 44 (fun _ => 0)) 45 (fun _ => 0)) 46 (fun _ => 0)) 70), J)) ?_ rfl rfl (cw_h 69)
  refine wp_putR (pc := 443) (ci := 6) (refs := [some 41, some 42, some 43, none, some 44, some 45, none, none, none, none, none, none, none, none, none, none, none, none]) 29 11 dX7_init_443 rfl flX7_29 rfl rfl rfl rfl (fun _ => ⟨rfl, rfl⟩) (by decide) (by decide) (by decide) ?_
  refine wp_to (h' := (Z_91, F, (CW (sm_ups (sm_ups (sm_ups (sm_ups (sm_ups (sm_up (sm_ups I 41 (fun _ => 0)) 41 73 1) 42 (fun _ => 0)) 43 (fun _ => 0)) 44 (fun _ => 0)) 45 (fun _ => 0)) 46 (fun _ => 0)) 70), J)) ?_ rfl rfl rfl
  refine wp_aload_n (pc := 446) 0 dX7_init_446 rfl rfl ?_
  refine wp_bipush (pc := 447) (8) dX7_init_447 (by decide) ?_
  refine wp_newI (pc := 449) (mc := 4) (ms := 374) 8 dX7_init_449 (by decide) (by decide) (by decide) ar_int (show Z_91.length < 900 by decide) ?_
  refine wp_to (st' := [.ref 47, .ref 40]) (h' := (Z_92, F, (sm_ups (CW (sm_ups (sm_ups (sm_ups (sm_ups (sm_ups (sm_up (sm_ups I 41 (fun _ => 0)) 41 73 1) 42 (fun _ => 0)) 43 (fun _ => 0)) 44 (fun _ => 0)) 45 (fun _ => 0)) 46 (fun _ => 0)) 70) 47 (fun _ => 0)), J)) ?_ rfl rfl rfl
  refine wp_dup (pc := 451) dX7_init_451 rfl ?_
  refine wp_iconst (pc := 452) (0) dX7_init_452 (by decide) ?_
  refine wp_iconst (pc := 453) (-1) dX7_init_453 (by decide) ?_
  refine wq_iast (pc := 454) (N := 8) (r := []) 0 dX7_init_454 rfl (by decide) rfl (by decide) (by decide) ?_
  refine wp_dup (pc := 455) dX7_init_455 rfl ?_
  refine wp_iconst (pc := 456) (1) dX7_init_456 (by decide) ?_
  refine wp_iconst (pc := 457) (-1) dX7_init_457 (by decide) ?_
  refine wq_iast (pc := 458) (N := 8) (r := []) 1 dX7_init_458 rfl (by decide) rfl (by decide) (by decide) ?_
  refine wp_dup (pc := 459) dX7_init_459 rfl ?_
  refine wp_iconst (pc := 460) (2) dX7_init_460 (by decide) ?_
  refine wp_iconst (pc := 461) (-1) dX7_init_461 (by decide) ?_
  refine wq_iast (pc := 462) (N := 8) (r := []) 2 dX7_init_462 rfl (by decide) rfl (by decide) (by decide) ?_
  refine wp_dup (pc := 463) dX7_init_463 rfl ?_
  refine wp_iconst (pc := 464) (3) dX7_init_464 (by decide) ?_
  refine wp_iconst (pc := 465) (-1) dX7_init_465 (by decide) ?_
  refine wq_iast (pc := 466) (N := 8) (r := []) 3 dX7_init_466 rfl (by decide) rfl (by decide) (by decide) ?_
  refine wp_dup (pc := 467) dX7_init_467 rfl ?_
  refine wp_iconst (pc := 468) (4) dX7_init_468 (by decide) ?_
  refine wp_iconst (pc := 469) (-1) dX7_init_469 (by decide) ?_
  refine wq_iast (pc := 470) (N := 8) (r := []) 4 dX7_init_470 rfl (by decide) rfl (by decide) (by decide) ?_
  refine wp_dup (pc := 471) dX7_init_471 rfl ?_
  refine wp_iconst (pc := 472) (5) dX7_init_472 (by decide) ?_
  refine wp_iconst (pc := 473) (-1) dX7_init_473 (by decide) ?_
  refine wq_iast (pc := 474) (N := 8) (r := []) 5 dX7_init_474 rfl (by decide) rfl (by decide) (by decide) ?_
  refine wp_dup (pc := 475) dX7_init_475 rfl ?_
  refine wp_bipush (pc := 476) (6) dX7_init_476 (by decide) ?_
  refine wp_iconst (pc := 478) (-1) dX7_init_478 (by decide) ?_
  refine wq_iast (pc := 479) (N := 8) (r := []) 6 dX7_init_479 rfl (by decide) rfl (by decide) (by decide) ?_
  refine wp_dup (pc := 480) dX7_init_480 rfl ?_
  refine wp_bipush (pc := 481) (7) dX7_init_481 (by decide) ?_
  refine wp_iconst (pc := 483) (-1) dX7_init_483 (by decide) ?_
  refine wq_iast (pc := 484) (N := 8) (r := []) 7 dX7_init_484 rfl (by decide) rfl (by decide) (by decide) ?_
  refine wp_putR (pc := 485) (ci := 6) (refs := [some 41, some 42, some 43, none, some 44, some 45, none, none, none, none, none, some 46, none, none, none, none, none, none]) 33 13 dX7_init_485 rfl flX7_33 rfl rfl rfl rfl (fun _ => ⟨rfl, rfl⟩) (by decide) (by decide) (by decide) ?_
  refine wp_to (h' := (Z_93, F, (sm_up (sm_up (sm_up (sm_up (sm_up (sm_up (sm_up (sm_up (sm_ups (CW (sm_ups (sm_ups (sm_ups (sm_ups (sm_ups (sm_up (sm_ups I 41 (fun _ => 0)) 41 73 1) 42 (fun _ => 0)) 43 (fun _ => 0)) 44 (fun _ => 0)) 45 (fun _ => 0)) 46 (fun _ => 0)) 70) 47 (fun _ => 0)) 47 0 (-1)) 47 1 (-1)) 47 2 (-1)) 47 3 (-1)) 47 4 (-1)) 47 5 (-1)) 47 6 (-1)) 47 7 (-1)), J)) ?_ rfl rfl rfl
  refine wp_aload_n (pc := 488) 0 dX7_init_488 rfl rfl ?_
  refine wp_bipush (pc := 489) (8) dX7_init_489 (by decide) ?_
  refine wp_newI (pc := 491) (mc := 3) (ms := 366) 8 dX7_init_491 (by decide) (by decide) (by decide) ar_int (show Z_93.length < 900 by decide) ?_
  refine wp_to (st' := [.ref 48, .ref 40]) (h' := (Z_94, F, (sm_ups (sm_up (sm_up (sm_up (sm_up (sm_up (sm_up (sm_up (sm_up (sm_ups (CW (sm_ups (sm_ups (sm_ups (sm_ups (sm_ups (sm_up (sm_ups I 41 (fun _ => 0)) 41 73 1) 42 (fun _ => 0)) 43 (fun _ => 0)) 44 (fun _ => 0)) 45 (fun _ => 0)) 46 (fun _ => 0)) 70) 47 (fun _ => 0)) 47 0 (-1)) 47 1 (-1)) 47 2 (-1)) 47 3 (-1)) 47 4 (-1)) 47 5 (-1)) 47 6 (-1)) 47 7 (-1)) 48 (fun _ => 0)), J)) ?_ rfl rfl rfl
  refine wp_putR (pc := 493) (ci := 6) (refs := [some 41, some 42, some 43, none, some 44, some 45, none, none, none, none, none, some 46, none, some 47, none, none, none, none]) 36 14 dX7_init_493 rfl flX7_36 rfl rfl rfl rfl (fun _ => ⟨rfl, rfl⟩) (by decide) (by decide) (by decide) ?_
  refine wp_to (h' := (Z_95, F, (sm_ups (sm_up (sm_up (sm_up (sm_up (sm_up (sm_up (sm_up (sm_up (sm_ups (CW (sm_ups (sm_ups (sm_ups (sm_ups (sm_ups (sm_up (sm_ups I 41 (fun _ => 0)) 41 73 1) 42 (fun _ => 0)) 43 (fun _ => 0)) 44 (fun _ => 0)) 45 (fun _ => 0)) 46 (fun _ => 0)) 70) 47 (fun _ => 0)) 47 0 (-1)) 47 1 (-1)) 47 2 (-1)) 47 3 (-1)) 47 4 (-1)) 47 5 (-1)) 47 6 (-1)) 47 7 (-1)) 48 (fun _ => 0)), J)) ?_ rfl rfl rfl
  refine wp_aload_n (pc := 496) 0 dX7_init_496 rfl rfl ?_
  refine wp_sipush (pc := 497) (320) dX7_init_497 (by decide) ?_
  refine wp_newL (pc := 500) (mc := 2) (ms := 46) 320 dX7_init_500 (by decide) (by decide) (by decide) ar_long (show Z_95.length < 900 by decide) ?_
  refine wp_to (st' := [.ref 49, .ref 40]) (h' := (Z_96, F, (sm_ups (sm_up (sm_up (sm_up (sm_up (sm_up (sm_up (sm_up (sm_up (sm_ups (CW (sm_ups (sm_ups (sm_ups (sm_ups (sm_ups (sm_up (sm_ups I 41 (fun _ => 0)) 41 73 1) 42 (fun _ => 0)) 43 (fun _ => 0)) 44 (fun _ => 0)) 45 (fun _ => 0)) 46 (fun _ => 0)) 70) 47 (fun _ => 0)) 47 0 (-1)) 47 1 (-1)) 47 2 (-1)) 47 3 (-1)) 47 4 (-1)) 47 5 (-1)) 47 6 (-1)) 47 7 (-1)) 48 (fun _ => 0)), (sm_ups J 49 (fun _ => 0)))) ?_ rfl rfl rfl
  refine wp_putR (pc := 502) (ci := 6) (refs := [some 41, some 42, some 43, none, some 44, some 45, none, none, none, none, none, some 46, none, some 47, some 48, none, none, none]) 39 15 dX7_init_502 rfl flX7_39 rfl rfl rfl rfl (fun _ => ⟨rfl, rfl⟩) (by decide) (by decide) (by decide) ?_
  refine wp_to (h' := (Z_97, F, (sm_ups (sm_up (sm_up (sm_up (sm_up (sm_up (sm_up (sm_up (sm_up (sm_ups (CW (sm_ups (sm_ups (sm_ups (sm_ups (sm_ups (sm_up (sm_ups I 41 (fun _ => 0)) 41 73 1) 42 (fun _ => 0)) 43 (fun _ => 0)) 44 (fun _ => 0)) 45 (fun _ => 0)) 46 (fun _ => 0)) 70) 47 (fun _ => 0)) 47 0 (-1)) 47 1 (-1)) 47 2 (-1)) 47 3 (-1)) 47 4 (-1)) 47 5 (-1)) 47 6 (-1)) 47 7 (-1)) 48 (fun _ => 0)), (sm_ups J 49 (fun _ => 0)))) ?_ rfl rfl rfl
  refine wp_aload_n (pc := 505) 0 dX7_init_505 rfl rfl ?_
  refine wp_bipush (pc := 506) (40) dX7_init_506 (by decide) ?_
  refine wp_newL (pc := 508) (mc := 1) (ms := 6) 40 dX7_init_508 (by decide) (by decide) (by decide) ar_long (show Z_97.length < 900 by decide) ?_
  refine wp_to (st' := [.ref 50, .ref 40]) (h' := (Z_98, F, (sm_ups (sm_up (sm_up (sm_up (sm_up (sm_up (sm_up (sm_up (sm_up (sm_ups (CW (sm_ups (sm_ups (sm_ups (sm_ups (sm_ups (sm_up (sm_ups I 41 (fun _ => 0)) 41 73 1) 42 (fun _ => 0)) 43 (fun _ => 0)) 44 (fun _ => 0)) 45 (fun _ => 0)) 46 (fun _ => 0)) 70) 47 (fun _ => 0)) 47 0 (-1)) 47 1 (-1)) 47 2 (-1)) 47 3 (-1)) 47 4 (-1)) 47 5 (-1)) 47 6 (-1)) 47 7 (-1)) 48 (fun _ => 0)), (sm_ups (sm_ups J 49 (fun _ => 0)) 50 (fun _ => 0)))) ?_ rfl rfl rfl
  refine wp_putR (pc := 510) (ci := 6) (refs := [some 41, some 42, some 43, none, some 44, some 45, none, none, none, none, none, some 46, none, some 47, some 48, some 49, none, none]) 43 16 dX7_init_510 rfl flX7_43 rfl rfl rfl rfl (fun _ => ⟨rfl, rfl⟩) (by decide) (by decide) (by decide) ?_
  refine wp_to (h' := (Z_99, F, (sm_ups (sm_up (sm_up (sm_up (sm_up (sm_up (sm_up (sm_up (sm_up (sm_ups (CW (sm_ups (sm_ups (sm_ups (sm_ups (sm_ups (sm_up (sm_ups I 41 (fun _ => 0)) 41 73 1) 42 (fun _ => 0)) 43 (fun _ => 0)) 44 (fun _ => 0)) 45 (fun _ => 0)) 46 (fun _ => 0)) 70) 47 (fun _ => 0)) 47 0 (-1)) 47 1 (-1)) 47 2 (-1)) 47 3 (-1)) 47 4 (-1)) 47 5 (-1)) 47 6 (-1)) 47 7 (-1)) 48 (fun _ => 0)), (sm_ups (sm_ups J 49 (fun _ => 0)) 50 (fun _ => 0)))) ?_ rfl rfl rfl
  refine wp_aload_n (pc := 513) 0 dX7_init_513 rfl rfl ?_
  refine wp_bipush (pc := 514) (6) dX7_init_514 (by decide) ?_
  refine wp_newI (pc := 516) (mc := 0) (ms := 0) 6 dX7_init_516 (by decide) (by decide) (by decide) ar_int (show Z_99.length < 900 by decide) ?_
  refine wp_to (st' := [.ref 51, .ref 40]) (h' := (Z_100, F, (sm_ups (sm_ups (sm_up (sm_up (sm_up (sm_up (sm_up (sm_up (sm_up (sm_up (sm_ups (CW (sm_ups (sm_ups (sm_ups (sm_ups (sm_ups (sm_up (sm_ups I 41 (fun _ => 0)) 41 73 1) 42 (fun _ => 0)) 43 (fun _ => 0)) 44 (fun _ => 0)) 45 (fun _ => 0)) 46 (fun _ => 0)) 70) 47 (fun _ => 0)) 47 0 (-1)) 47 1 (-1)) 47 2 (-1)) 47 3 (-1)) 47 4 (-1)) 47 5 (-1)) 47 6 (-1)) 47 7 (-1)) 48 (fun _ => 0)) 51 (fun _ => 0)), (sm_ups (sm_ups J 49 (fun _ => 0)) 50 (fun _ => 0)))) ?_ rfl rfl rfl
  refine wp_dup (pc := 518) dX7_init_518 rfl ?_
  refine wp_iconst (pc := 519) (0) dX7_init_519 (by decide) ?_
  refine wp_iconst (pc := 520) (-1) dX7_init_520 (by decide) ?_
  refine wq_iast (pc := 521) (N := 6) (r := []) 0 dX7_init_521 rfl (by decide) rfl (by decide) (by decide) ?_
  refine wp_dup (pc := 522) dX7_init_522 rfl ?_
  refine wp_iconst (pc := 523) (1) dX7_init_523 (by decide) ?_
  refine wp_iconst (pc := 524) (0) dX7_init_524 (by decide) ?_
  refine wq_iast (pc := 525) (N := 6) (r := []) 1 dX7_init_525 rfl (by decide) rfl (by decide) (by decide) ?_
  refine wp_dup (pc := 526) dX7_init_526 rfl ?_
  refine wp_iconst (pc := 527) (2) dX7_init_527 (by decide) ?_
  refine wp_iconst (pc := 528) (0) dX7_init_528 (by decide) ?_
  refine wq_iast (pc := 529) (N := 6) (r := []) 2 dX7_init_529 rfl (by decide) rfl (by decide) (by decide) ?_
  refine wp_dup (pc := 530) dX7_init_530 rfl ?_
  refine wp_iconst (pc := 531) (3) dX7_init_531 (by decide) ?_
  refine wp_iconst (pc := 532) (1) dX7_init_532 (by decide) ?_
  refine wq_iast (pc := 533) (N := 6) (r := []) 3 dX7_init_533 rfl (by decide) rfl (by decide) (by decide) ?_
  refine wp_dup (pc := 534) dX7_init_534 rfl ?_
  refine wp_iconst (pc := 535) (4) dX7_init_535 (by decide) ?_
  refine wp_iconst (pc := 536) (2) dX7_init_536 (by decide) ?_
  refine wq_iast (pc := 537) (N := 6) (r := []) 4 dX7_init_537 rfl (by decide) rfl (by decide) (by decide) ?_
  refine wp_dup (pc := 538) dX7_init_538 rfl ?_
  refine wp_iconst (pc := 539) (5) dX7_init_539 (by decide) ?_
  refine wp_iconst (pc := 540) (0) dX7_init_540 (by decide) ?_
  refine wq_iast (pc := 541) (N := 6) (r := []) 5 dX7_init_541 rfl (by decide) rfl (by decide) (by decide) ?_
  refine wp_putR (pc := 542) (ci := 6) (refs := [some 41, some 42, some 43, none, some 44, some 45, none, none, none, none, none, some 46, none, some 47, some 48, some 49, some 50, none]) 46 17 dX7_init_542 rfl flX7_46 rfl rfl rfl rfl (fun _ => ⟨rfl, rfl⟩) (by decide) (by decide) (by decide) ?_
  refine wp_to (h' := (Z_101, F, (sm_up (sm_up (sm_up (sm_up (sm_up (sm_up (sm_ups (sm_ups (sm_up (sm_up (sm_up (sm_up (sm_up (sm_up (sm_up (sm_up (sm_ups (CW (sm_ups (sm_ups (sm_ups (sm_ups (sm_ups (sm_up (sm_ups I 41 (fun _ => 0)) 41 73 1) 42 (fun _ => 0)) 43 (fun _ => 0)) 44 (fun _ => 0)) 45 (fun _ => 0)) 46 (fun _ => 0)) 70) 47 (fun _ => 0)) 47 0 (-1)) 47 1 (-1)) 47 2 (-1)) 47 3 (-1)) 47 4 (-1)) 47 5 (-1)) 47 6 (-1)) 47 7 (-1)) 48 (fun _ => 0)) 51 (fun _ => 0)) 51 0 (-1)) 51 1 (0)) 51 2 (0)) 51 3 (1)) 51 4 (2)) 51 5 (0)), (sm_ups (sm_ups J 49 (fun _ => 0)) 50 (fun _ => 0)))) ?_ rfl rfl rfl
  refine wp_ret (pc := 545) dX7_init_545 rfl ?_
  refine k _ _ _ ⟨fun j hj => ?_, fun z => (by cases z), ?_, fun j hj => ?_, ⟨?_, fun j hj => ?_⟩, ⟨fun x hx => ?_, fun x hx => ?_, fun x hx => ?_⟩, fun j hj => ?_, fun j hj => ?_⟩ (fun a ha => ⟨?_, ?_, ?_⟩)
  · show _ = nI (if j = 73 then 1 else 0)
    simp only [sm_up, sm_ups, CW]
    by_cases e : j = 73
    · subst e; simp; rfl
    · simp [e]; rfl
  · exact hF 3
  · simp [sm_up, sm_ups, CW]; rfl
  · exact hF 6
  · simp [sm_up, sm_ups, CW]; rfl
  · rcases (show x = 0 ∨ x = 1 ∨ x = 2 ∨ x = 3 ∨ x = 4 ∨ x = 5 ∨ x = 6 ∨ x = 7 by omega) with rfl | rfl | rfl | rfl | rfl | rfl | rfl | rfl <;> (simp [sm_up, sm_ups, CW]; rfl)
  · simp [sm_up, sm_ups, CW]; rfl
  · simp [sm_ups]; rfl
  · simp [sm_up, sm_ups, CW, hj]
  · rcases (show j = 0 ∨ j = 1 ∨ j = 2 ∨ j = 3 ∨ j = 4 ∨ j = 5 by omega) with rfl | rfl | rfl | rfl | rfl | rfl <;> (simp [sm_up, sm_ups, CW]; rfl)
  · rfl
  · funext j; simp [sm_up, sm_ups, CW, show a ≠ 41 by omega, show a ≠ 42 by omega, show a ≠ 43 by omega, show a ≠ 44 by omega, show a ≠ 45 by omega, show a ≠ 46 by omega, show a ≠ 47 by omega, show a ≠ 48 by omega, show a ≠ 49 by omega, show a ≠ 50 by omega, show a ≠ 51 by omega]
  · funext j; simp [sm_ups, show a ≠ 49 by omega, show a ≠ 50 by omega]
theorem z7_S0 : Z_101 = S0 := rfl
