/-! ===== the two objects: which cell is what; rows in their words ===== -/
def S0 : sm_S := [(0, 5, [some 1, some 11, some 21, some 31, some 35, some 37, some 39, none]), (0, 4, [none, some 2, some 3, some 4, some 5, none, none, none, none, none, some 6, some 10]), (1, 10, []), (1, 10, []), (1, 10, []), (1, 10, []), (0, 0, [none, some 7, some 8, some 9]), (1, 6, []), (1, 6, []), (1, 6, []), (1, 10, []), (0, 4, [none, some 12, some 13, some 14, some 15, none, none, none, none, none, some 16, some 20]), (1, 10, []), (1, 10, []), (1, 10, []), (1, 10, []), (0, 0, [none, some 17, some 18, some 19]), (1, 6, []), (1, 6, []), (1, 6, []), (1, 10, []), (0, 4, [none, some 22, some 23, some 24, some 25, none, none, none, none, none, some 26, some 30]), (1, 10, []), (1, 10, []), (1, 10, []), (1, 10, []), (0, 0, [none, some 27, some 28, some 29]), (1, 6, []), (1, 6, []), (1, 6, []), (1, 10, []), (0, 2, [some 32, some 33, some 34]), (1, 8, []), (1, 8, []), (2, 320, []), (0, 3, [none, some 36]), (1, 250, []), (0, 1, [none, none, none, none, none, some 38]), (1, 3, []), (1, 5, []), (0, 6, [some 41, some 42, some 43, none, some 44, some 45, none, none, none, none, none, some 46, none, some 47, some 48, some 49, some 50, some 51]), (1, 74, []), (1, 74, []), (1, 74, []), (1, 7, []), (1, 250, []), (3, 70, []), (1, 8, []), (1, 8, []), (2, 320, []), (2, 40, []), (1, 6, [])]
theorem s0_0 : S0[0]? = some (0, 5, [some 1, some 11, some 21, some 31, some 35, some 37, some 39, none]) := rfl
theorem s0_1 : S0[1]? = some (0, 4, [none, some 2, some 3, some 4, some 5, none, none, none, none, none, some 6, some 10]) := rfl
theorem s0_2 : S0[2]? = some (1, 10, []) := rfl
theorem s0_3 : S0[3]? = some (1, 10, []) := rfl
theorem s0_4 : S0[4]? = some (1, 10, []) := rfl
theorem s0_5 : S0[5]? = some (1, 10, []) := rfl
theorem s0_6 : S0[6]? = some (0, 0, [none, some 7, some 8, some 9]) := rfl
theorem s0_7 : S0[7]? = some (1, 6, []) := rfl
theorem s0_8 : S0[8]? = some (1, 6, []) := rfl
theorem s0_9 : S0[9]? = some (1, 6, []) := rfl
theorem s0_10 : S0[10]? = some (1, 10, []) := rfl
theorem s0_11 : S0[11]? = some (0, 4, [none, some 12, some 13, some 14, some 15, none, none, none, none, none, some 16, some 20]) := rfl
theorem s0_12 : S0[12]? = some (1, 10, []) := rfl
theorem s0_13 : S0[13]? = some (1, 10, []) := rfl
theorem s0_14 : S0[14]? = some (1, 10, []) := rfl
theorem s0_15 : S0[15]? = some (1, 10, []) := rfl
theorem s0_16 : S0[16]? = some (0, 0, [none, some 17, some 18, some 19]) := rfl
theorem s0_17 : S0[17]? = some (1, 6, []) := rfl
theorem s0_18 : S0[18]? = some (1, 6, []) := rfl
theorem s0_19 : S0[19]? = some (1, 6, []) := rfl
theorem s0_20 : S0[20]? = some (1, 10, []) := rfl
theorem s0_21 : S0[21]? = some (0, 4, [none, some 22, some 23, some 24, some 25, none, none, none, none, none, some 26, some 30]) := rfl
theorem s0_22 : S0[22]? = some (1, 10, []) := rfl
theorem s0_23 : S0[23]? = some (1, 10, []) := rfl
theorem s0_24 : S0[24]? = some (1, 10, []) := rfl
theorem s0_25 : S0[25]? = some (1, 10, []) := rfl
theorem s0_26 : S0[26]? = some (0, 0, [none, some 27, some 28, some 29]) := rfl
theorem s0_27 : S0[27]? = some (1, 6, []) := rfl
theorem s0_28 : S0[28]? = some (1, 6, []) := rfl
theorem s0_29 : S0[29]? = some (1, 6, []) := rfl
theorem s0_30 : S0[30]? = some (1, 10, []) := rfl
theorem s0_31 : S0[31]? = some (0, 2, [some 32, some 33, some 34]) := rfl
theorem s0_32 : S0[32]? = some (1, 8, []) := rfl
theorem s0_33 : S0[33]? = some (1, 8, []) := rfl
theorem s0_34 : S0[34]? = some (2, 320, []) := rfl
theorem s0_35 : S0[35]? = some (0, 3, [none, some 36]) := rfl
theorem s0_36 : S0[36]? = some (1, 250, []) := rfl
theorem s0_37 : S0[37]? = some (0, 1, [none, none, none, none, none, some 38]) := rfl
theorem s0_38 : S0[38]? = some (1, 3, []) := rfl
theorem s0_39 : S0[39]? = some (1, 5, []) := rfl
theorem s0_40 : S0[40]? = some (0, 6, [some 41, some 42, some 43, none, some 44, some 45, none, none, none, none, none, some 46, none, some 47, some 48, some 49, some 50, some 51]) := rfl
theorem s0_41 : S0[41]? = some (1, 74, []) := rfl
theorem s0_42 : S0[42]? = some (1, 74, []) := rfl
theorem s0_43 : S0[43]? = some (1, 74, []) := rfl
theorem s0_44 : S0[44]? = some (1, 7, []) := rfl
theorem s0_45 : S0[45]? = some (1, 250, []) := rfl
theorem s0_46 : S0[46]? = some (3, 70, []) := rfl
theorem s0_47 : S0[47]? = some (1, 8, []) := rfl
theorem s0_48 : S0[48]? = some (1, 8, []) := rfl
theorem s0_49 : S0[49]? = some (2, 320, []) := rfl
theorem s0_50 : S0[50]? = some (2, 40, []) := rfl
theorem s0_51 : S0[51]? = some (1, 6, []) := rfl
abbrev isT (t : Nat) : Prop := t = 1 ∨ t = 11 ∨ t = 21
theorem tT {t : Nat} (ht : isT t) : S0[t]? = some (0, 4, [none, some (t + 1), some (t + 2), some (t + 3), some (t + 4), none, none, none, none, none, some (t + 5), some (t + 9)]) := by rcases ht with rfl | rfl | rfl <;> rfl
theorem tT1 {t : Nat} (ht : isT t) : S0[t + 1]? = some (1, 10, []) := by rcases ht with rfl | rfl | rfl <;> rfl
theorem tT2 {t : Nat} (ht : isT t) : S0[t + 2]? = some (1, 10, []) := by rcases ht with rfl | rfl | rfl <;> rfl
theorem tT3 {t : Nat} (ht : isT t) : S0[t + 3]? = some (1, 10, []) := by rcases ht with rfl | rfl | rfl <;> rfl
theorem tT4 {t : Nat} (ht : isT t) : S0[t + 4]? = some (1, 10, []) := by rcases ht with rfl | rfl | rfl <;> rfl
theorem tT9 {t : Nat} (ht : isT t) : S0[t + 9]? = some (1, 10, []) := by rcases ht with rfl | rfl | rfl <;> rfl
theorem tT5 {t : Nat} (ht : isT t) : S0[t + 5]? = some (0, 0, [none, some (t + 6), some (t + 7), some (t + 8)]) := by rcases ht with rfl | rfl | rfl <;> rfl
theorem tT6 {t : Nat} (ht : isT t) : S0[t + 6]? = some (1, 6, []) := by rcases ht with rfl | rfl | rfl <;> rfl
theorem tT7 {t : Nat} (ht : isT t) : S0[t + 7]? = some (1, 6, []) := by rcases ht with rfl | rfl | rfl <;> rfl
theorem tT8 {t : Nat} (ht : isT t) : S0[t + 8]? = some (1, 6, []) := by rcases ht with rfl | rfl | rfl <;> rfl
theorem isT.lt {t : Nat} (ht : isT t) : t < 900 := by rcases ht with rfl | rfl | rfl <;> decide
theorem isT.ltn {t : Nat} (ht : isT t) (j : Nat) (hj : j < 800 := by decide) : t + j < 900 := by rcases ht with rfl | rfl | rfl <;> omega
def b2 (b : Bool) : Int32 := if b then 1 else 0
theorem b2_0 {b : Bool} : b2 b = 0 ↔ b = false := by cases b <;> simp [b2]
theorem b2_n {b : Bool} : b2 b ≠ 0 ↔ b = true := by cases b <;> simp [b2]
theorem b2_1 {b : Bool} : b2 b = 1 ↔ b = true := by cases b <;> simp [b2]
theorem b2_nar (b : Bool) : narrow .boolean (.int (b2 b)) = .int (b2 b) := by cases b <;> decide
theorem b2_fit (b : Bool) : fits .boolean (.int (b2 b)) = true := by cases b <;> decide
theorem b2_t : b2 true = 1 := rfl
theorem b2_f : b2 false = 0 := rfl
section SQ
variable {M Mc : sm_M} {d mc ms pc : Nat} {lv st : List Value} {h : sm_H} {Q : Option Value → sm_H → Prop} {S : sm_S} {F I : Nat → Nat → Int32} {J : Nat → Nat → Int64}
theorem wp_deep {d1 d2 : Nat} (hd : d1 ≤ d2) (k : Wp M d1 mc ms pc lv st h Q) : Wp M d2 mc ms pc lv st h Q := by
  intro X p l e_ R s m args below meth c H locs cells slots QQ ls F hP hS hL hk
  obtain ⟨f1, f2, f3, f4, f5, f6, f7, f8, f9, f10, f11⟩ := F
  exact k X p l e_ R s m args below meth c H locs cells slots QQ ls ⟨f1, f2, f3, f4, f5, f6, f7, f8, f9, ⟨by omega, by omega⟩, f11⟩ hP hS hL hk
theorem wp_to {lv' st' : List Value} {h' : sm_H} (k : Wp M d mc ms pc lv' st' h' Q) (e1 : lv = lv') (e2 : st = st') (e3 : h = h') : Wp M d mc ms pc lv st h Q := by subst e1 e2 e3; exact k
theorem wp_int {x y : Int32} (e : x = y) (k : Wp M d mc ms pc lv (.int y :: st) h Q) : Wp M d mc ms pc lv (.int x :: st) h Q := by subst e; exact k
theorem wp_int2 {x y : Int32} {v : Value} (e : x = y) (k : Wp M d mc ms pc lv (v :: .int y :: st) h Q) : Wp M d mc ms pc lv (v :: .int x :: st) h Q := by subst e; exact k
/-- a loop whose state is a function of its turn -/
theorem wp_loop (St : Nat → List Value) (Hp : Nat → sm_H) (Inv : Nat → Prop) (e : Nat) (step : ∀ i, i < e → Inv i → (Inv (i + 1) → Wp M d mc ms pc (St (i + 1)) [] (Hp (i + 1)) Q) → Wp M d mc ms pc (St i) [] (Hp i) Q) (exit : Inv e → Wp M d mc ms pc (St e) [] (Hp e) Q) (i : Nat) (hi : i ≤ e) (h0 : Inv i) : Wp M d mc ms pc (St i) [] (Hp i) Q := by
  have key : ∀ n i, i ≤ e → e - i = n → Inv i → Wp M d mc ms pc (St i) [] (Hp i) Q := by
    intro n
    induction n with
    | zero =>
      intro i hi hn h0
      have : i = e := by omega
      subst this
      exact exit h0
    | succ n ih =>
      intro i hi hn h0
      exact step i (by omega) h0 (fun h1 => ih (i + 1) (by omega) (by omega) h1)
  exact key _ i hi rfl h0
theorem wp_ifeqB {c : Bool} {off : Int} (tgt : Nat) (hdg : decode M.2.1 pc = .ok (.ifCond .eq off, 3)) (ht : (pc : Int) + off = (tgt : Int)) (kt : c = false → Wp M d mc ms tgt lv st h Q) (kf : c = true → Wp M d mc ms (pc + 3) lv st h Q) : Wp M d mc ms pc lv (.int (b2 c) :: st) h Q :=
  wp_ifeq tgt hdg ht (fun z => kt (b2_0.mp z)) (fun z => kf (b2_n.mp z))
theorem wp_ifneB {c : Bool} {off : Int} (tgt : Nat) (hdg : decode M.2.1 pc = .ok (.ifCond .ne off, 3)) (ht : (pc : Int) + off = (tgt : Int)) (kt : c = true → Wp M d mc ms tgt lv st h Q) (kf : c = false → Wp M d mc ms (pc + 3) lv st h Q) : Wp M d mc ms pc lv (.int (b2 c) :: st) h Q :=
  wp_ifne tgt hdg ht (fun z => kt (b2_n.mp z)) (fun z => kf (b2_0.mp z))
theorem wp_iretB {c : Bool} (hdg : decode M.2.1 pc = .ok (.ireturn, 1)) (hr : M.2.2.2 = some .boolean) (k : Q (some (.int (b2 c))) h) : Wp M d 0 0 pc lv [.int (b2 c)] h Q := wp_iret hdg ⟨_, hr, b2_nar c⟩ k
theorem wp_iretI {x : Int32} (hdg : decode M.2.1 pc = .ok (.ireturn, 1)) (hr : M.2.2.2 = some .int) (k : Q (some (.int x)) h) : Wp M d 0 0 pc lv [.int x] h Q := wp_iret hdg ⟨_, hr, rfl⟩ k
theorem wq_getI {k ci : Nat} {refs : List (Option Nat)} (idx j : Nat) (hdg : decode M.2.1 pc = .ok (.getfield idx, 3)) (hs : S[k]? = some (0, ci, refs)) (fl : sm_fl M.1.cls idx ci j) (ht : sm_isR (sm_ty ci j) = false) (k9 : k < 900)
    (kk : Wp M d mc ms (pc + 3) lv (.int (F k j) :: st) (S, F, I, J) Q) : Wp M d mc ms pc lv (.ref k :: st) (S, F, I, J) Q := wp_getI idx j hdg hs fl ht k9 kk
theorem wq_getR {k ci : Nat} {refs : List (Option Nat)} (idx j : Nat) {a : Nat} (hdg : decode M.2.1 pc = .ok (.getfield idx, 3)) (hs : S[k]? = some (0, ci, refs)) (fl : sm_fl M.1.cls idx ci j) (ht : sm_isR (sm_ty ci j) = true) (hr : refs[j]? = some (some a)) (k9 : k < 900) (a9 : a < 900)
    (kk : Wp M d mc ms (pc + 3) lv (.ref a :: st) (S, F, I, J) Q) : Wp M d mc ms pc lv (.ref k :: st) (S, F, I, J) Q := wp_getR idx j hdg hs fl ht hr k9 a9 kk
theorem wq_putI {k ci : Nat} {refs : List (Option Nat)} {x : Int32} (idx j : Nat) (hdg : decode M.2.1 pc = .ok (.putfield idx, 3)) (hs : S[k]? = some (0, ci, refs)) (fl : sm_fl M.1.cls idx ci j) (hfin : (sm_T ci j).2.2.2 = false) (ht : sm_ty ci j = .int) (k9 : k < 900)
    (kk : Wp M d mc ms (pc + 3) lv st (S, sm_up F k j x, I, J) Q) : Wp M d mc ms pc lv (.int x :: .ref k :: st) (S, F, I, J) Q := wp_putI idx j hdg hs fl hfin (by rw [ht]; rfl) (by rw [ht]; rfl) (by rw [ht]; rfl) k9 kk
theorem wq_putB {k ci : Nat} {refs : List (Option Nat)} {c : Bool} (idx j : Nat) (hdg : decode M.2.1 pc = .ok (.putfield idx, 3)) (hs : S[k]? = some (0, ci, refs)) (fl : sm_fl M.1.cls idx ci j) (hfin : (sm_T ci j).2.2.2 = false) (ht : sm_ty ci j = .boolean) (k9 : k < 900)
    (kk : Wp M d mc ms (pc + 3) lv st (S, sm_up F k j (b2 c), I, J) Q) : Wp M d mc ms pc lv (.int (b2 c) :: .ref k :: st) (S, F, I, J) Q := wp_putI idx j hdg hs fl hfin (by rw [ht]; rfl) (by rw [ht]; exact b2_nar c) (by rw [ht]; exact b2_fit c) k9 kk
theorem wq_iald {k N : Nat} {r : List (Option Nat)} {i : Int32} (n : Nat) (hdg : decode M.2.1 pc = .ok (.iaload, 1)) (hs : S[k]? = some (1, N, r)) (k9 : k < 900) (hi : i = nI n) (hn : n < N) (hN : N < 2 ^ 31)
    (kk : Wp M d mc ms (pc + 1) lv (.int (I k n) :: st) (S, F, I, J) Q) : Wp M d mc ms pc lv (.int i :: .ref k :: st) (S, F, I, J) Q := by
  subst hi
  refine wp_iaload hdg hs k9 (vp_in_nI hn hN) ?_
  rw [nI_clamp (by omega)]
  exact kk
theorem wq_cald {k N : Nat} {r : List (Option Nat)} {i : Int32} (n : Nat) (hdg : decode M.2.1 pc = .ok (.caload, 1)) (hs : S[k]? = some (3, N, r)) (k9 : k < 900) (hi : i = nI n) (hn : n < N) (hN : N < 2 ^ 31)
    (kk : Wp M d mc ms (pc + 1) lv (.int (I k n) :: st) (S, F, I, J) Q) : Wp M d mc ms pc lv (.int i :: .ref k :: st) (S, F, I, J) Q := by
  subst hi
  refine wp_caload hdg hs k9 (vp_in_nI hn hN) ?_
  rw [nI_clamp (by omega)]
  exact kk
theorem wq_lald {k N : Nat} {r : List (Option Nat)} {i : Int32} (n : Nat) (hdg : decode M.2.1 pc = .ok (.laload, 1)) (hs : S[k]? = some (2, N, r)) (k9 : k < 900) (hi : i = nI n) (hn : n < N) (hN : N < 2 ^ 31)
    (kk : Wp M d mc ms (pc + 1) lv (.long (J k n) :: st) (S, F, I, J) Q) : Wp M d mc ms pc lv (.int i :: .ref k :: st) (S, F, I, J) Q := by
  subst hi
  refine wp_laload hdg hs k9 (vp_in_nI hn hN) ?_
  rw [nI_clamp (by omega)]
  exact kk
theorem wq_iast {k N : Nat} {r : List (Option Nat)} {i x : Int32} (n : Nat) (hdg : decode M.2.1 pc = .ok (.iastore, 1)) (hs : S[k]? = some (1, N, r)) (k9 : k < 900) (hi : i = nI n) (hn : n < N) (hN : N < 2 ^ 31)
    (kk : Wp M d mc ms (pc + 1) lv st (S, F, sm_up I k n x, J) Q) : Wp M d mc ms pc lv (.int x :: .int i :: .ref k :: st) (S, F, I, J) Q := by
  subst hi
  refine wp_iastore hdg hs k9 (vp_in_nI hn hN) ?_
  rw [nI_clamp (by omega)]
  exact kk
theorem wq_last {k N : Nat} {r : List (Option Nat)} {i : Int32} {x : Int64} (n : Nat) (hdg : decode M.2.1 pc = .ok (.lastore, 1)) (hs : S[k]? = some (2, N, r)) (k9 : k < 900) (hi : i = nI n) (hn : n < N) (hN : N < 2 ^ 31)
    (kk : Wp M d mc ms (pc + 1) lv st (S, F, I, sm_up J k n x) Q) : Wp M d mc ms pc lv (.long x :: .int i :: .ref k :: st) (S, F, I, J) Q := by
  subst hi
  refine wp_lastore hdg hs k9 (vp_in_nI hn hN) ?_
  rw [nI_clamp (by omega)]
  exact kk
theorem wc_S_ {idx : Nat} (hdg : decode M.2.1 pc = .ok (.invokestatic idx, 3)) (ck : sm_ckS M.1.cls idx Mc 0) (hz : 0 ≤ Mc.2.2.1) (hr : (st.map fun v => v.category).sum ≤ 8)
    (kk : Wp Mc d 0 0 0 (sm_ini [] Mc.2.2.1) [] h (fun v h1 => Wp M (d + 1) 0 0 (pc + 3) lv (v.toList ++ st) h1 Q)) : Wp M (d + 1) 0 0 pc lv (st) h Q :=
  wp_callS (k := 0) (as := []) hdg ck rfl rfl hz hr rfl rfl kk
theorem wc_S_I {idx : Nat} {x0 : Int32} (hdg : decode M.2.1 pc = .ok (.invokestatic idx, 3)) (ck : sm_ckS M.1.cls idx Mc 1) (hz : 1 ≤ Mc.2.2.1) (hr : (st.map fun v => v.category).sum ≤ 8)
    (kk : Wp Mc d 0 0 0 (sm_ini [.int x0] Mc.2.2.1) [] h (fun v h1 => Wp M (d + 1) 0 0 (pc + 3) lv (v.toList ++ st) h1 Q)) : Wp M (d + 1) 0 0 pc lv (.int x0 :: st) h Q :=
  wp_callS (k := 0) (as := [.int x0]) hdg ck rfl rfl hz hr rfl rfl kk
theorem wc_S_II {idx : Nat} {x0 : Int32} {x1 : Int32} (hdg : decode M.2.1 pc = .ok (.invokestatic idx, 3)) (ck : sm_ckS M.1.cls idx Mc 2) (hz : 2 ≤ Mc.2.2.1) (hr : (st.map fun v => v.category).sum ≤ 8)
    (kk : Wp Mc d 0 0 0 (sm_ini [.int x0, .int x1] Mc.2.2.1) [] h (fun v h1 => Wp M (d + 1) 0 0 (pc + 3) lv (v.toList ++ st) h1 Q)) : Wp M (d + 1) 0 0 pc lv (.int x1 :: .int x0 :: st) h Q :=
  wp_callS (k := 0) (as := [.int x0, .int x1]) hdg ck rfl rfl hz hr rfl rfl kk
theorem wc_S_III {idx : Nat} {x0 : Int32} {x1 : Int32} {x2 : Int32} (hdg : decode M.2.1 pc = .ok (.invokestatic idx, 3)) (ck : sm_ckS M.1.cls idx Mc 3) (hz : 3 ≤ Mc.2.2.1) (hr : (st.map fun v => v.category).sum ≤ 8)
    (kk : Wp Mc d 0 0 0 (sm_ini [.int x0, .int x1, .int x2] Mc.2.2.1) [] h (fun v h1 => Wp M (d + 1) 0 0 (pc + 3) lv (v.toList ++ st) h1 Q)) : Wp M (d + 1) 0 0 pc lv (.int x2 :: .int x1 :: .int x0 :: st) h Q :=
  wp_callS (k := 0) (as := [.int x0, .int x1, .int x2]) hdg ck rfl rfl hz hr rfl rfl kk
theorem wc_S_IIR {idx : Nat} {x0 : Int32} {x1 : Int32} {x2 : Nat} (hdg : decode M.2.1 pc = .ok (.invokestatic idx, 3)) (ck : sm_ckS M.1.cls idx Mc 3) (hz : 3 ≤ Mc.2.2.1) (hr : (st.map fun v => v.category).sum ≤ 8)
    (kk : Wp Mc d 0 0 0 (sm_ini [.int x0, .int x1, .ref x2] Mc.2.2.1) [] h (fun v h1 => Wp M (d + 1) 0 0 (pc + 3) lv (v.toList ++ st) h1 Q)) : Wp M (d + 1) 0 0 pc lv (.ref x2 :: .int x1 :: .int x0 :: st) h Q :=
  wp_callS (k := 0) (as := [.int x0, .int x1, .ref x2]) hdg ck rfl rfl hz hr rfl rfl kk
theorem wc_S_IJ {idx : Nat} {x0 : Int32} {x1 : Int64} (hdg : decode M.2.1 pc = .ok (.invokestatic idx, 3)) (ck : sm_ckS M.1.cls idx Mc 2) (hz : 3 ≤ Mc.2.2.1) (hr : (st.map fun v => v.category).sum ≤ 8)
    (kk : Wp Mc d 0 0 0 (sm_ini [.int x0, .long x1] Mc.2.2.1) [] h (fun v h1 => Wp M (d + 1) 0 0 (pc + 3) lv (v.toList ++ st) h1 Q)) : Wp M (d + 1) 0 0 pc lv (.long x1 :: .int x0 :: st) h Q :=
  wp_callS (k := 0) (as := [.int x0, .long x1]) hdg ck rfl rfl hz hr rfl rfl kk
theorem wc_S_IR {idx : Nat} {x0 : Int32} {x1 : Nat} (hdg : decode M.2.1 pc = .ok (.invokestatic idx, 3)) (ck : sm_ckS M.1.cls idx Mc 2) (hz : 2 ≤ Mc.2.2.1) (hr : (st.map fun v => v.category).sum ≤ 8)
    (kk : Wp Mc d 0 0 0 (sm_ini [.int x0, .ref x1] Mc.2.2.1) [] h (fun v h1 => Wp M (d + 1) 0 0 (pc + 3) lv (v.toList ++ st) h1 Q)) : Wp M (d + 1) 0 0 pc lv (.ref x1 :: .int x0 :: st) h Q :=
  wp_callS (k := 0) (as := [.int x0, .ref x1]) hdg ck rfl rfl hz hr rfl rfl kk
theorem wc_S_R {idx : Nat} {x0 : Nat} (hdg : decode M.2.1 pc = .ok (.invokestatic idx, 3)) (ck : sm_ckS M.1.cls idx Mc 1) (hz : 1 ≤ Mc.2.2.1) (hr : (st.map fun v => v.category).sum ≤ 8)
    (kk : Wp Mc d 0 0 0 (sm_ini [.ref x0] Mc.2.2.1) [] h (fun v h1 => Wp M (d + 1) 0 0 (pc + 3) lv (v.toList ++ st) h1 Q)) : Wp M (d + 1) 0 0 pc lv (.ref x0 :: st) h Q :=
  wp_callS (k := 0) (as := [.ref x0]) hdg ck rfl rfl hz hr rfl rfl kk
theorem wc_S_RI {idx : Nat} {x0 : Nat} {x1 : Int32} (hdg : decode M.2.1 pc = .ok (.invokestatic idx, 3)) (ck : sm_ckS M.1.cls idx Mc 2) (hz : 2 ≤ Mc.2.2.1) (hr : (st.map fun v => v.category).sum ≤ 8)
    (kk : Wp Mc d 0 0 0 (sm_ini [.ref x0, .int x1] Mc.2.2.1) [] h (fun v h1 => Wp M (d + 1) 0 0 (pc + 3) lv (v.toList ++ st) h1 Q)) : Wp M (d + 1) 0 0 pc lv (.int x1 :: .ref x0 :: st) h Q :=
  wp_callS (k := 0) (as := [.ref x0, .int x1]) hdg ck rfl rfl hz hr rfl rfl kk
theorem wc_S_RII {idx : Nat} {x0 : Nat} {x1 : Int32} {x2 : Int32} (hdg : decode M.2.1 pc = .ok (.invokestatic idx, 3)) (ck : sm_ckS M.1.cls idx Mc 3) (hz : 3 ≤ Mc.2.2.1) (hr : (st.map fun v => v.category).sum ≤ 8)
    (kk : Wp Mc d 0 0 0 (sm_ini [.ref x0, .int x1, .int x2] Mc.2.2.1) [] h (fun v h1 => Wp M (d + 1) 0 0 (pc + 3) lv (v.toList ++ st) h1 Q)) : Wp M (d + 1) 0 0 pc lv (.int x2 :: .int x1 :: .ref x0 :: st) h Q :=
  wp_callS (k := 0) (as := [.ref x0, .int x1, .int x2]) hdg ck rfl rfl hz hr rfl rfl kk
theorem wc_S_RIIIII {idx : Nat} {x0 : Nat} {x1 : Int32} {x2 : Int32} {x3 : Int32} {x4 : Int32} {x5 : Int32} (hdg : decode M.2.1 pc = .ok (.invokestatic idx, 3)) (ck : sm_ckS M.1.cls idx Mc 6) (hz : 6 ≤ Mc.2.2.1) (hr : (st.map fun v => v.category).sum ≤ 8)
    (kk : Wp Mc d 0 0 0 (sm_ini [.ref x0, .int x1, .int x2, .int x3, .int x4, .int x5] Mc.2.2.1) [] h (fun v h1 => Wp M (d + 1) 0 0 (pc + 3) lv (v.toList ++ st) h1 Q)) : Wp M (d + 1) 0 0 pc lv (.int x5 :: .int x4 :: .int x3 :: .int x2 :: .int x1 :: .ref x0 :: st) h Q :=
  wp_callS (k := 0) (as := [.ref x0, .int x1, .int x2, .int x3, .int x4, .int x5]) hdg ck rfl rfl hz hr rfl rfl kk
theorem wc_S_RR {idx : Nat} {x0 : Nat} {x1 : Nat} (hdg : decode M.2.1 pc = .ok (.invokestatic idx, 3)) (ck : sm_ckS M.1.cls idx Mc 2) (hz : 2 ≤ Mc.2.2.1) (hr : (st.map fun v => v.category).sum ≤ 8)
    (kk : Wp Mc d 0 0 0 (sm_ini [.ref x0, .ref x1] Mc.2.2.1) [] h (fun v h1 => Wp M (d + 1) 0 0 (pc + 3) lv (v.toList ++ st) h1 Q)) : Wp M (d + 1) 0 0 pc lv (.ref x1 :: .ref x0 :: st) h Q :=
  wp_callS (k := 0) (as := [.ref x0, .ref x1]) hdg ck rfl rfl hz hr rfl rfl kk
theorem wc_SN_II {idx : Nat} {host : String} {x0 : Int32} {x1 : Int32} (hdg : decode M.2.1 pc = .ok (.invokestatic idx, 3)) (ck : sm_ckSN M.1.cls idx host Mc 2) (hz : 2 ≤ Mc.2.2.1) (hr : (st.map fun v => v.category).sum ≤ 8)
    (kk : Wp Mc d 0 0 0 (sm_ini [.int x0, .int x1] Mc.2.2.1) [] h (fun v h1 => Wp M (d + 1) 0 0 (pc + 3) lv (v.toList ++ st) h1 Q)) : Wp M (d + 1) 0 0 pc lv (.int x1 :: .int x0 :: st) h Q :=
  wp_callSN (k := 0) (as := [.int x0, .int x1]) hdg ck rfl rfl hz hr rfl rfl kk
theorem wc_SN_RI {idx : Nat} {host : String} {x0 : Nat} {x1 : Int32} (hdg : decode M.2.1 pc = .ok (.invokestatic idx, 3)) (ck : sm_ckSN M.1.cls idx host Mc 2) (hz : 2 ≤ Mc.2.2.1) (hr : (st.map fun v => v.category).sum ≤ 8)
    (kk : Wp Mc d 0 0 0 (sm_ini [.ref x0, .int x1] Mc.2.2.1) [] h (fun v h1 => Wp M (d + 1) 0 0 (pc + 3) lv (v.toList ++ st) h1 Q)) : Wp M (d + 1) 0 0 pc lv (.int x1 :: .ref x0 :: st) h Q :=
  wp_callSN (k := 0) (as := [.ref x0, .int x1]) hdg ck rfl rfl hz hr rfl rfl kk
theorem wc_SN_RII {idx : Nat} {host : String} {x0 : Nat} {x1 : Int32} {x2 : Int32} (hdg : decode M.2.1 pc = .ok (.invokestatic idx, 3)) (ck : sm_ckSN M.1.cls idx host Mc 3) (hz : 3 ≤ Mc.2.2.1) (hr : (st.map fun v => v.category).sum ≤ 8)
    (kk : Wp Mc d 0 0 0 (sm_ini [.ref x0, .int x1, .int x2] Mc.2.2.1) [] h (fun v h1 => Wp M (d + 1) 0 0 (pc + 3) lv (v.toList ++ st) h1 Q)) : Wp M (d + 1) 0 0 pc lv (.int x2 :: .int x1 :: .ref x0 :: st) h Q :=
  wp_callSN (k := 0) (as := [.ref x0, .int x1, .int x2]) hdg ck rfl rfl hz hr rfl rfl kk
theorem wc_V_ {idx k : Nat} (hdg : decode M.2.1 pc = .ok (.invokevirtual idx, 3)) (ck : sm_ckV M.1.cls idx Mc 0) (hrc : sm_Rc h k Mc.1.cls) (hz : 1 ≤ Mc.2.2.1) (hr : (st.map fun v => v.category).sum ≤ 8)
    (kk : Wp Mc d 0 0 0 (sm_ini [.ref k] Mc.2.2.1) [] h (fun v h1 => Wp M (d + 1) 0 0 (pc + 3) lv (v.toList ++ st) h1 Q)) : Wp M (d + 1) 0 0 pc lv (.ref k :: st) h Q :=
  wp_callV (as := []) hdg ck hrc rfl rfl hz hr rfl rfl kk
theorem wc_V_I {idx k : Nat} {x0 : Int32} (hdg : decode M.2.1 pc = .ok (.invokevirtual idx, 3)) (ck : sm_ckV M.1.cls idx Mc 1) (hrc : sm_Rc h k Mc.1.cls) (hz : 2 ≤ Mc.2.2.1) (hr : (st.map fun v => v.category).sum ≤ 8)
    (kk : Wp Mc d 0 0 0 (sm_ini [.ref k, .int x0] Mc.2.2.1) [] h (fun v h1 => Wp M (d + 1) 0 0 (pc + 3) lv (v.toList ++ st) h1 Q)) : Wp M (d + 1) 0 0 pc lv (.int x0 :: .ref k :: st) h Q :=
  wp_callV (as := [.int x0]) hdg ck hrc rfl rfl hz hr rfl rfl kk
theorem wc_V_II {idx k : Nat} {x0 : Int32} {x1 : Int32} (hdg : decode M.2.1 pc = .ok (.invokevirtual idx, 3)) (ck : sm_ckV M.1.cls idx Mc 2) (hrc : sm_Rc h k Mc.1.cls) (hz : 3 ≤ Mc.2.2.1) (hr : (st.map fun v => v.category).sum ≤ 8)
    (kk : Wp Mc d 0 0 0 (sm_ini [.ref k, .int x0, .int x1] Mc.2.2.1) [] h (fun v h1 => Wp M (d + 1) 0 0 (pc + 3) lv (v.toList ++ st) h1 Q)) : Wp M (d + 1) 0 0 pc lv (.int x1 :: .int x0 :: .ref k :: st) h Q :=
  wp_callV (as := [.int x0, .int x1]) hdg ck hrc rfl rfl hz hr rfl rfl kk
theorem wc_V_III {idx k : Nat} {x0 : Int32} {x1 : Int32} {x2 : Int32} (hdg : decode M.2.1 pc = .ok (.invokevirtual idx, 3)) (ck : sm_ckV M.1.cls idx Mc 3) (hrc : sm_Rc h k Mc.1.cls) (hz : 4 ≤ Mc.2.2.1) (hr : (st.map fun v => v.category).sum ≤ 8)
    (kk : Wp Mc d 0 0 0 (sm_ini [.ref k, .int x0, .int x1, .int x2] Mc.2.2.1) [] h (fun v h1 => Wp M (d + 1) 0 0 (pc + 3) lv (v.toList ++ st) h1 Q)) : Wp M (d + 1) 0 0 pc lv (.int x2 :: .int x1 :: .int x0 :: .ref k :: st) h Q :=
  wp_callV (as := [.int x0, .int x1, .int x2]) hdg ck hrc rfl rfl hz hr rfl rfl kk
theorem wc_V_IIIII {idx k : Nat} {x0 : Int32} {x1 : Int32} {x2 : Int32} {x3 : Int32} {x4 : Int32} (hdg : decode M.2.1 pc = .ok (.invokevirtual idx, 3)) (ck : sm_ckV M.1.cls idx Mc 5) (hrc : sm_Rc h k Mc.1.cls) (hz : 6 ≤ Mc.2.2.1) (hr : (st.map fun v => v.category).sum ≤ 8)
    (kk : Wp Mc d 0 0 0 (sm_ini [.ref k, .int x0, .int x1, .int x2, .int x3, .int x4] Mc.2.2.1) [] h (fun v h1 => Wp M (d + 1) 0 0 (pc + 3) lv (v.toList ++ st) h1 Q)) : Wp M (d + 1) 0 0 pc lv (.int x4 :: .int x3 :: .int x2 :: .int x1 :: .int x0 :: .ref k :: st) h Q :=
  wp_callV (as := [.int x0, .int x1, .int x2, .int x3, .int x4]) hdg ck hrc rfl rfl hz hr rfl rfl kk
theorem wc_V_IIJ {idx k : Nat} {x0 : Int32} {x1 : Int32} {x2 : Int64} (hdg : decode M.2.1 pc = .ok (.invokevirtual idx, 3)) (ck : sm_ckV M.1.cls idx Mc 3) (hrc : sm_Rc h k Mc.1.cls) (hz : 5 ≤ Mc.2.2.1) (hr : (st.map fun v => v.category).sum ≤ 8)
    (kk : Wp Mc d 0 0 0 (sm_ini [.ref k, .int x0, .int x1, .long x2] Mc.2.2.1) [] h (fun v h1 => Wp M (d + 1) 0 0 (pc + 3) lv (v.toList ++ st) h1 Q)) : Wp M (d + 1) 0 0 pc lv (.long x2 :: .int x1 :: .int x0 :: .ref k :: st) h Q :=
  wp_callV (as := [.int x0, .int x1, .long x2]) hdg ck hrc rfl rfl hz hr rfl rfl kk
theorem wc_V_R {idx k : Nat} {x0 : Nat} (hdg : decode M.2.1 pc = .ok (.invokevirtual idx, 3)) (ck : sm_ckV M.1.cls idx Mc 1) (hrc : sm_Rc h k Mc.1.cls) (hz : 2 ≤ Mc.2.2.1) (hr : (st.map fun v => v.category).sum ≤ 8)
    (kk : Wp Mc d 0 0 0 (sm_ini [.ref k, .ref x0] Mc.2.2.1) [] h (fun v h1 => Wp M (d + 1) 0 0 (pc + 3) lv (v.toList ++ st) h1 Q)) : Wp M (d + 1) 0 0 pc lv (.ref x0 :: .ref k :: st) h Q :=
  wp_callV (as := [.ref x0]) hdg ck hrc rfl rfl hz hr rfl rfl kk
theorem wc_V_RI {idx k : Nat} {x0 : Nat} {x1 : Int32} (hdg : decode M.2.1 pc = .ok (.invokevirtual idx, 3)) (ck : sm_ckV M.1.cls idx Mc 2) (hrc : sm_Rc h k Mc.1.cls) (hz : 3 ≤ Mc.2.2.1) (hr : (st.map fun v => v.category).sum ≤ 8)
    (kk : Wp Mc d 0 0 0 (sm_ini [.ref k, .ref x0, .int x1] Mc.2.2.1) [] h (fun v h1 => Wp M (d + 1) 0 0 (pc + 3) lv (v.toList ++ st) h1 Q)) : Wp M (d + 1) 0 0 pc lv (.int x1 :: .ref x0 :: .ref k :: st) h Q :=
  wp_callV (as := [.ref x0, .int x1]) hdg ck hrc rfl rfl hz hr rfl rfl kk
theorem wc_V_RII {idx k : Nat} {x0 : Nat} {x1 : Int32} {x2 : Int32} (hdg : decode M.2.1 pc = .ok (.invokevirtual idx, 3)) (ck : sm_ckV M.1.cls idx Mc 3) (hrc : sm_Rc h k Mc.1.cls) (hz : 4 ≤ Mc.2.2.1) (hr : (st.map fun v => v.category).sum ≤ 8)
    (kk : Wp Mc d 0 0 0 (sm_ini [.ref k, .ref x0, .int x1, .int x2] Mc.2.2.1) [] h (fun v h1 => Wp M (d + 1) 0 0 (pc + 3) lv (v.toList ++ st) h1 Q)) : Wp M (d + 1) 0 0 pc lv (.int x2 :: .int x1 :: .ref x0 :: .ref k :: st) h Q :=
  wp_callV (as := [.ref x0, .int x1, .int x2]) hdg ck hrc rfl rfl hz hr rfl rfl kk
theorem wc_V_RR {idx k : Nat} {x0 : Nat} {x1 : Nat} (hdg : decode M.2.1 pc = .ok (.invokevirtual idx, 3)) (ck : sm_ckV M.1.cls idx Mc 2) (hrc : sm_Rc h k Mc.1.cls) (hz : 3 ≤ Mc.2.2.1) (hr : (st.map fun v => v.category).sum ≤ 8)
    (kk : Wp Mc d 0 0 0 (sm_ini [.ref k, .ref x0, .ref x1] Mc.2.2.1) [] h (fun v h1 => Wp M (d + 1) 0 0 (pc + 3) lv (v.toList ++ st) h1 Q)) : Wp M (d + 1) 0 0 pc lv (.ref x1 :: .ref x0 :: .ref k :: st) h Q :=
  wp_callV (as := [.ref x0, .ref x1]) hdg ck hrc rfl rfl hz hr rfl rfl kk
end SQ
