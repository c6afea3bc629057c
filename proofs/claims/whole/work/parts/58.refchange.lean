/-! ===== the reference: changes ===== -/
theorem Rw.u {k : Nat} {f : rw_} {I : Nat → Nat → Int32} (h : Rw k f I) (j v : Nat) : Rw k (fu f j v) (sm_up I k j (nI v)) := fun x hx => by
  by_cases e : x = j
  · subst e; rw [up_eq, fu_eq]
  · rw [up_nj e, fu_ne e]; exact h x hx
def RF (I I1 : Nat → Nat → Int32) : Prop := ∀ x, x ≠ 41 → I1 x = I x
theorem RF.rf {I : Nat → Nat → Int32} : RF I I := fun _ _ => rfl
theorem RF.tr {I I1 I2 : Nat → Nat → Int32} (h : RF I I1) (h2 : RF I1 I2) : RF I I2 := fun x hx => (h2 x hx).trans (h x hx)
theorem RF.u {I I1 : Nat → Nat → Int32} {j : Nat} {v : Int32} (h : RF I I1) : RF I (sm_up I1 41 j v) := fun x hx => (sm_up_ne hx).trans (h x hx)
theorem RF.lo {F I I1 : Nat → Nat → Int32} {J : Nat → Nat → Int64} (h : RF I I1) : Lo F I J F I1 J := fun a ha => ⟨rfl, h a (by omega), rfl⟩
theorem fu_sw {f : rw_} {i j u v : Nat} (h : i ≠ j) : fu (fu f i u) j v = fu (fu f j v) i u := by
  funext x
  by_cases e : x = j
  · subst e; rw [fu_eq, fu_ne (fun z => h z.symm), fu_eq]
  · rw [fu_ne e]
    by_cases e2 : x = i
    · subst e2; rw [fu_eq, fu_eq]
    · rw [fu_ne e2, fu_ne e2, fu_ne e]
theorem fu_id {f : rw_} {j v : Nat} (h : v = f j) : fu f j v = f := by
  funext x
  by_cases e : x = j
  · subst e; rw [fu_eq, h]
  · rw [fu_ne e]
theorem clr_or (a l : Nat) : dif a (2 ^ l) ||| 2 ^ l = a ||| 2 ^ l := bits_ext fun k => by
  rw [Nat.testBit_or, Nat.testBit_or, dif_bit]
  cases a.testBit k <;> cases (2 ^ l).testBit k <;> rfl
theorem c_X7_of0 {d : Nat} {F I : Nat → Nat → Int32} {J : Nat → Nat → Int64} {Q : Option Value → sm_H → Prop} {f : rw_} (hR : Rw 41 f I) {i w : Nat} (h : 5 * i + w < 74) (k : Q (some (.int (nI (f (5 * i + w))))) (S0, F, I, J)) : Wp mX7_of (d) 0 0 0 (sm_ini [.ref 40, .int (nI i), .int (nI w)] 3) [] (S0, F, I, J) Q := by
  show Wp _ _ _ _ _ [.ref 40, .int (nI i), .int (nI w)] _ _ _
  refine wp_aload_n (pc := 0) 0 dX7_of_0 rfl rfl ?_
  refine wq_getR (pc := 1) 13 0 dX7_of_1 s0_40 flX7_13 rfl rfl (by decide) (by decide) ?_
  refine wp_iconst (pc := 4) (5) dX7_of_4 (by decide) ?_
  refine wp_iload_n (pc := 5) 1 dX7_of_5 rfl rfl ?_
  refine wp_imul (pc := 6) dX7_of_6 ?_
  refine wp_iload_n (pc := 7) 2 dX7_of_7 rfl rfl ?_
  refine wp_iadd (pc := 8) dX7_of_8 ?_
  refine wq_iald (pc := 9) (5 * i + w) dX7_of_9 s0_41 (by decide) (ix5 i w) h (by decide) ?_
  refine wp_int (hR.at h) ?_
  refine wp_iretI (pc := 10) dX7_of_10 rfl ?_
  exact k
theorem c_X7_becomes {d : Nat} {F I : Nat → Nat → Int32} {J : Nat → Nat → Int64} {Q : Option Value → sm_H → Prop} {f : rw_} (hR : Rw 41 f I) {i w v : Nat} (h : 5 * i + w < 74) (k : Q (some (.int (nI (f (5 * i + w))))) (S0, F, sm_up I 41 (5 * i + w) (nI v), J)) : Wp mX7_becomes (d + 1) 0 0 0 (sm_ini [.ref 40, .int (nI i), .int (nI w), .int (nI v)] 5) [] (S0, F, I, J) Q := by
  show Wp _ _ _ _ _ [.ref 40, .int (nI i), .int (nI w), .int (nI v), .null] _ _ _
  refine wp_aload_n (pc := 0) 0 dX7_becomes_0 rfl rfl ?_
  refine wp_iload_n (pc := 1) 1 dX7_becomes_1 rfl rfl ?_
  refine wp_iload_n (pc := 2) 2 dX7_becomes_2 rfl rfl ?_
  refine wc_V_II (pc := 3) dX7_becomes_3 lkX7_53 (sm_Rc.o (ci := 6) s0_40 (by decide) (by decide)) (by decide) (Nat.le_of_ble_eq_true rfl) ?_
  refine c_X7_of0 hR h ?_
  refine wp_istore (pc := 6) 4 dX7_becomes_6 (by decide) rfl ?_
  refine wp_aload_n (pc := 8) 0 dX7_becomes_8 rfl rfl ?_
  refine wq_getR (pc := 9) 13 0 dX7_becomes_9 s0_40 flX7_13 rfl rfl (by decide) (by decide) ?_
  refine wp_iconst (pc := 12) (5) dX7_becomes_12 (by decide) ?_
  refine wp_iload_n (pc := 13) 1 dX7_becomes_13 rfl rfl ?_
  refine wp_imul (pc := 14) dX7_becomes_14 ?_
  refine wp_iload_n (pc := 15) 2 dX7_becomes_15 rfl rfl ?_
  refine wp_iadd (pc := 16) dX7_becomes_16 ?_
  refine wp_iload_n (pc := 17) 3 dX7_becomes_17 rfl rfl ?_
  refine wq_iast (pc := 18) (5 * i + w) dX7_becomes_18 s0_41 (by decide) (ix5 i w) h (by decide) ?_
  refine wp_iload (pc := 19) 4 dX7_becomes_19 rfl ?_
  refine wp_iretI (pc := 21) dX7_becomes_21 rfl ?_
  exact k
theorem c_X7_addThing {d : Nat} {F I : Nat → Nat → Int32} {J : Nat → Nat → Int64} {Q : Option Value → sm_H → Prop} {f : rw_} (hw : WF f) (hR : Rw 41 f I) {a b : Nat} (hn : f 68 < 10) (k : ∀ I1 : Nat → Nat → Int32, Rw 41 (addT f a b) I1 → RF I I1 → Q (some (.int (nI (f 68)))) (S0, F, I1, J)) : Wp mX7_addThing (d + 2) 0 0 0 (sm_ini [.ref 40, .int (nI a), .int (nI b)] 4) [] (S0, F, I, J) Q := by
  show Wp _ _ _ _ _ [.ref 40, .int (nI a), .int (nI b), .null] _ _ _
  refine wp_aload_n (pc := 0) 0 dX7_addThing_0 rfl rfl ?_
  refine wc_V_ (pc := 1) dX7_addThing_1 lkX7_57 (sm_Rc.o (ci := 6) s0_40 (by decide) (by decide)) (by decide) (Nat.le_of_ble_eq_true rfl) ?_
  refine c_X7_many hw hR ?_
  refine wp_istore_n (pc := 4) 3 dX7_addThing_4 rfl (by decide) rfl ?_
  refine wp_aload_n (pc := 5) 0 dX7_addThing_5 rfl rfl ?_
  refine wp_iload_n (pc := 6) 3 dX7_addThing_6 rfl rfl ?_
  refine wp_iconst (pc := 7) (0) dX7_addThing_7 (by decide) ?_
  refine wp_iload_n (pc := 8) 1 dX7_addThing_8 rfl rfl ?_
  refine wc_V_III (pc := 9) dX7_addThing_9 lkX7_77 (sm_Rc.o (ci := 6) s0_40 (by decide) (by decide)) (by decide) (Nat.le_of_ble_eq_true rfl) ?_
  refine c_X7_becomes (w := 0) (v := a) hR (by omega) ?_
  have hR1 := hR.u (5 * f 68 + 0) (a)
  refine wp_pop (pc := 12) dX7_addThing_12 rfl ?_
  refine wp_aload_n (pc := 13) 0 dX7_addThing_13 rfl rfl ?_
  refine wp_iload_n (pc := 14) 3 dX7_addThing_14 rfl rfl ?_
  refine wp_iconst (pc := 15) (1) dX7_addThing_15 (by decide) ?_
  refine wp_iload_n (pc := 16) 2 dX7_addThing_16 rfl rfl ?_
  refine wc_V_III (pc := 17) dX7_addThing_17 lkX7_77 (sm_Rc.o (ci := 6) s0_40 (by decide) (by decide)) (by decide) (Nat.le_of_ble_eq_true rfl) ?_
  refine c_X7_becomes (w := 1) (v := b) hR1 (by omega) ?_
  have hR2 := hR1.u (5 * f 68 + 1) (b)
  refine wp_pop (pc := 20) dX7_addThing_20 rfl ?_
  refine wp_aload_n (pc := 21) 0 dX7_addThing_21 rfl rfl ?_
  refine wp_iload_n (pc := 22) 3 dX7_addThing_22 rfl rfl ?_
  refine wp_iconst (pc := 23) (2) dX7_addThing_23 (by decide) ?_
  refine wp_iconst (pc := 24) (0) dX7_addThing_24 (by decide) ?_
  refine wc_V_III (pc := 25) dX7_addThing_25 lkX7_77 (sm_Rc.o (ci := 6) s0_40 (by decide) (by decide)) (by decide) (Nat.le_of_ble_eq_true rfl) ?_
  refine c_X7_becomes (w := 2) (v := 0) hR2 (by omega) ?_
  have hR3 := hR2.u (5 * f 68 + 2) (0)
  refine wp_pop (pc := 28) dX7_addThing_28 rfl ?_
  refine wp_aload_n (pc := 29) 0 dX7_addThing_29 rfl rfl ?_
  refine wp_iload_n (pc := 30) 3 dX7_addThing_30 rfl rfl ?_
  refine wp_iconst (pc := 31) (3) dX7_addThing_31 (by decide) ?_
  refine wp_iconst (pc := 32) (1) dX7_addThing_32 (by decide) ?_
  refine wc_V_III (pc := 33) dX7_addThing_33 lkX7_77 (sm_Rc.o (ci := 6) s0_40 (by decide) (by decide)) (by decide) (Nat.le_of_ble_eq_true rfl) ?_
  refine c_X7_becomes (w := 3) (v := 1) hR3 (by omega) ?_
  have hR4 := hR3.u (5 * f 68 + 3) (1)
  refine wp_pop (pc := 36) dX7_addThing_36 rfl ?_
  refine wp_aload_n (pc := 37) 0 dX7_addThing_37 rfl rfl ?_
  refine wp_iload_n (pc := 38) 3 dX7_addThing_38 rfl rfl ?_
  refine wp_iconst (pc := 39) (4) dX7_addThing_39 (by decide) ?_
  refine wp_iconst (pc := 40) (0) dX7_addThing_40 (by decide) ?_
  refine wc_V_III (pc := 41) dX7_addThing_41 lkX7_77 (sm_Rc.o (ci := 6) s0_40 (by decide) (by decide)) (by decide) (Nat.le_of_ble_eq_true rfl) ?_
  refine c_X7_becomes (w := 4) (v := 0) hR4 (by omega) ?_
  have hR5 := hR4.u (5 * f 68 + 4) (0)
  refine wp_pop (pc := 44) dX7_addThing_44 rfl ?_
  refine wp_aload_n (pc := 45) 0 dX7_addThing_45 rfl rfl ?_
  refine wq_getR (pc := 46) 13 0 dX7_addThing_46 s0_40 flX7_13 rfl rfl (by decide) (by decide) ?_
  refine wp_bipush (pc := 49) (68) dX7_addThing_49 (by decide) ?_
  refine wp_dup2 (pc := 51) dX7_addThing_51 rfl rfl ?_
  refine wq_iald (pc := 52) 68 dX7_addThing_52 s0_41 (by decide) rfl (by decide) (by decide) ?_
  refine wp_int (y := nI (f 68)) ((hR5.at (by decide)).trans (by rw [fu_ne (by omega), fu_ne (by omega), fu_ne (by omega), fu_ne (by omega), fu_ne (by omega)])) ?_
  refine wp_iconst (pc := 53) (1) dX7_addThing_53 (by decide) ?_
  refine wp_iadd (pc := 54) dX7_addThing_54 ?_
  refine wp_int (nI_1 _) ?_
  refine wq_iast (pc := 55) 68 dX7_addThing_55 s0_41 (by decide) rfl (by decide) (by decide) ?_
  refine wp_iload_n (pc := 56) 3 dX7_addThing_56 rfl rfl ?_
  refine wp_iretI (pc := 57) dX7_addThing_57 rfl ?_
  have hR6 := hR5.u 68 (f 68 + 1)
  rw [fu_sw (i := 5 * f 68 + 3) (j := 5 * f 68 + 4) (by omega), fu_sw (i := 5 * f 68 + 2) (j := 5 * f 68 + 4) (by omega)] at hR6
  exact k _ hR6 RF.rf.u.u.u.u.u.u
theorem c_X7_addRinger {d : Nat} {F I : Nat → Nat → Int32} {J : Nat → Nat → Int64} {Q : Option Value → sm_H → Prop} {f : rw_} (hw : WF f) (hR : Rw 41 f I) {a b c : Nat} (hc6 : f 69 < 6) (k : ∀ I1 : Nat → Nat → Int32, Rw 41 (addR f a b c) I1 → RF I I1 → Q (some (.int (nI (f 69)))) (S0, F, I1, J)) : Wp mX7_addRinger (d) 0 0 0 (sm_ini [.ref 40, .int (nI a), .int (nI b), .int (nI c)] 5) [] (S0, F, I, J) Q := by
  show Wp _ _ _ _ _ [.ref 40, .int (nI a), .int (nI b), .int (nI c), .null] _ _ _
  refine wp_aload_n (pc := 0) 0 dX7_addRinger_0 rfl rfl ?_
  refine wq_getR (pc := 1) 13 0 dX7_addRinger_1 s0_40 flX7_13 rfl rfl (by decide) (by decide) ?_
  refine wp_bipush (pc := 4) (69) dX7_addRinger_4 (by decide) ?_
  refine wq_iald (pc := 6) 69 dX7_addRinger_6 s0_41 (by decide) rfl (by decide) (by decide) ?_
  refine wp_int (hR.at (by decide)) ?_
  refine wp_istore (pc := 7) 4 dX7_addRinger_7 (by decide) rfl ?_
  refine wp_aload_n (pc := 9) 0 dX7_addRinger_9 rfl rfl ?_
  refine wq_getR (pc := 10) 13 0 dX7_addRinger_10 s0_40 flX7_13 rfl rfl (by decide) (by decide) ?_
  refine wp_bipush (pc := 13) (50) dX7_addRinger_13 (by decide) ?_
  refine wp_iconst (pc := 15) (3) dX7_addRinger_15 (by decide) ?_
  refine wp_iload (pc := 16) 4 dX7_addRinger_16 rfl ?_
  refine wp_imul (pc := 18) dX7_addRinger_18 ?_
  refine wp_iadd (pc := 19) dX7_addRinger_19 ?_
  refine wp_iload_n (pc := 20) 1 dX7_addRinger_20 rfl rfl ?_
  refine wq_iast (pc := 21) (50 + 3 * f 69) dX7_addRinger_21 s0_41 (by decide) (ix3 (f 69)) (by omega) (by decide) ?_
  refine wp_aload_n (pc := 22) 0 dX7_addRinger_22 rfl rfl ?_
  refine wq_getR (pc := 23) 13 0 dX7_addRinger_23 s0_40 flX7_13 rfl rfl (by decide) (by decide) ?_
  refine wp_bipush (pc := 26) (50) dX7_addRinger_26 (by decide) ?_
  refine wp_iconst (pc := 28) (3) dX7_addRinger_28 (by decide) ?_
  refine wp_iload (pc := 29) 4 dX7_addRinger_29 rfl ?_
  refine wp_imul (pc := 31) dX7_addRinger_31 ?_
  refine wp_iadd (pc := 32) dX7_addRinger_32 ?_
  refine wp_iconst (pc := 33) (1) dX7_addRinger_33 (by decide) ?_
  refine wp_iadd (pc := 34) dX7_addRinger_34 ?_
  refine wp_iload_n (pc := 35) 2 dX7_addRinger_35 rfl rfl ?_
  refine wq_iast (pc := 36) (50 + 3 * f 69 + 1) dX7_addRinger_36 s0_41 (by decide) ((congrArg (· + 1) (ix3 (f 69))).trans (nI_1 _)) (by omega) (by decide) ?_
  refine wp_aload_n (pc := 37) 0 dX7_addRinger_37 rfl rfl ?_
  refine wq_getR (pc := 38) 13 0 dX7_addRinger_38 s0_40 flX7_13 rfl rfl (by decide) (by decide) ?_
  refine wp_bipush (pc := 41) (50) dX7_addRinger_41 (by decide) ?_
  refine wp_iconst (pc := 43) (3) dX7_addRinger_43 (by decide) ?_
  refine wp_iload (pc := 44) 4 dX7_addRinger_44 rfl ?_
  refine wp_imul (pc := 46) dX7_addRinger_46 ?_
  refine wp_iadd (pc := 47) dX7_addRinger_47 ?_
  refine wp_iconst (pc := 48) (2) dX7_addRinger_48 (by decide) ?_
  refine wp_iadd (pc := 49) dX7_addRinger_49 ?_
  refine wp_iload_n (pc := 50) 3 dX7_addRinger_50 rfl rfl ?_
  refine wq_iast (pc := 51) (50 + 3 * f 69 + 2) dX7_addRinger_51 s0_41 (by decide) ((congrArg (· + 2) (ix3 (f 69))).trans (nI_add _ 2)) (by omega) (by decide) ?_
  refine wp_aload_n (pc := 52) 0 dX7_addRinger_52 rfl rfl ?_
  refine wq_getR (pc := 53) 13 0 dX7_addRinger_53 s0_40 flX7_13 rfl rfl (by decide) (by decide) ?_
  refine wp_bipush (pc := 56) (69) dX7_addRinger_56 (by decide) ?_
  refine wp_dup2 (pc := 58) dX7_addRinger_58 rfl rfl ?_
  refine wq_iald (pc := 59) 69 dX7_addRinger_59 s0_41 (by decide) rfl (by decide) (by decide) ?_
  have hR3 := ((hR.u (50 + 3 * f 69) a).u (50 + 3 * f 69 + 1) b).u (50 + 3 * f 69 + 2) c
  refine wp_int (y := nI (f 69)) ((hR3.at (by decide)).trans (by rw [fu_ne (by omega), fu_ne (by omega), fu_ne (by omega)])) ?_
  refine wp_iconst (pc := 60) (1) dX7_addRinger_60 (by decide) ?_
  refine wp_iadd (pc := 61) dX7_addRinger_61 ?_
  refine wp_int (nI_1 _) ?_
  refine wq_iast (pc := 62) 69 dX7_addRinger_62 s0_41 (by decide) rfl (by decide) (by decide) ?_
  refine wp_iload (pc := 63) 4 dX7_addRinger_63 rfl ?_
  refine wp_iretI (pc := 65) dX7_addRinger_65 rfl ?_
  exact k _ (hR3.u 69 (f 69 + 1)) RF.rf.u.u.u.u
theorem c_X7_rings {d : Nat} {F I : Nat → Nat → Int32} {J : Nat → Nat → Int64} {Q : Option Value → sm_H → Prop} {f : rw_} (hw : WF f) (hR : Rw 41 f I) {i : Nat} (hi : i < f 68) (k : ∀ I1 : Nat → Nat → Int32, Rw 41 (rgT f i) I1 → RF I I1 → Q none (S0, F, I1, J)) : Wp mX7_rings (d + 2) 0 0 0 (sm_ini [.ref 40, .int (nI i)] 2) [] (S0, F, I, J) Q := by
  show Wp _ _ _ _ _ [.ref 40, .int (nI i)] _ _ _
  have hn := hw.n
  have hb3 := hw.been (i := i) (by omega)
  have hag := hw.age (i := i) (by omega)
  have hbi := bn_at hw hi
  refine wp_aload_n (pc := 0) 0 dX7_rings_0 rfl rfl ?_
  refine wp_iload_n (pc := 1) 1 dX7_rings_1 rfl rfl ?_
  refine wp_iconst (pc := 2) (3) dX7_rings_2 (by decide) ?_
  refine wc_V_II (pc := 3) dX7_rings_3 lkX7_53 (sm_Rc.o (ci := 6) s0_40 (by decide) (by decide)) (by decide) (Nat.le_of_ble_eq_true rfl) ?_
  refine c_X7_of (w := 3) hw hR (by omega) ?_
  refine wp_iconst (pc := 6) (1) dX7_rings_6 (by decide) ?_
  refine wp_icmp_ne (pc := 7) 21 dX7_rings_7 (by decide) (fun c_7 => ?_) (fun c_7 => ?_)
  · refine wp_aload_n (pc := 21) 0 dX7_rings_21 rfl rfl ?_
    refine wp_iload_n (pc := 22) 1 dX7_rings_22 rfl rfl ?_
    refine wp_iconst (pc := 23) (3) dX7_rings_23 (by decide) ?_
    refine wp_iconst (pc := 24) (1) dX7_rings_24 (by decide) ?_
    refine wc_V_III (pc := 25) dX7_rings_25 lkX7_77 (sm_Rc.o (ci := 6) s0_40 (by decide) (by decide)) (by decide) (Nat.le_of_ble_eq_true rfl) ?_
    refine c_X7_becomes (w := 3) (v := 1) hR (by omega) ?_
    have hR1 := hR.u (5 * i + 3) (1)
    refine wp_pop (pc := 28) dX7_rings_28 rfl ?_
    refine wp_aload_n (pc := 29) 0 dX7_rings_29 rfl rfl ?_
    refine wp_iload_n (pc := 30) 1 dX7_rings_30 rfl rfl ?_
    refine wp_iconst (pc := 31) (1) dX7_rings_31 (by decide) ?_
    refine wp_aload_n (pc := 32) 0 dX7_rings_32 rfl rfl ?_
    refine wq_getR (pc := 33) 13 0 dX7_rings_33 s0_40 flX7_13 rfl rfl (by decide) (by decide) ?_
    refine wp_bipush (pc := 36) (70) dX7_rings_36 (by decide) ?_
    refine wq_iald (pc := 38) 70 dX7_rings_38 s0_41 (by decide) rfl (by decide) (by decide) ?_
    refine wp_int (y := nI (f 70)) ((hR1.at (by decide)).trans (by rw [fu_ne (by omega)])) ?_
    refine wc_V_III (pc := 39) dX7_rings_39 lkX7_77 (sm_Rc.o (ci := 6) s0_40 (by decide) (by decide)) (by decide) (Nat.le_of_ble_eq_true rfl) ?_
    refine c_X7_becomes (w := 1) (v := f 70) hR1 (by omega) ?_
    have hR2 := hR1.u (5 * i + 1) (f 70)
    refine wp_pop (pc := 42) dX7_rings_42 rfl ?_
    refine wp_aload_n (pc := 43) 0 dX7_rings_43 rfl rfl ?_
    refine wp_iload_n (pc := 44) 1 dX7_rings_44 rfl rfl ?_
    refine wp_iconst (pc := 45) (4) dX7_rings_45 (by decide) ?_
    refine wp_iconst (pc := 46) (0) dX7_rings_46 (by decide) ?_
    refine wp_aload_n (pc := 47) 0 dX7_rings_47 rfl rfl ?_
    refine wp_iload_n (pc := 48) 1 dX7_rings_48 rfl rfl ?_
    refine wp_iconst (pc := 49) (4) dX7_rings_49 (by decide) ?_
    refine wc_V_II (pc := 50) dX7_rings_50 lkX7_53 (sm_Rc.o (ci := 6) s0_40 (by decide) (by decide)) (by decide) (Nat.le_of_ble_eq_true rfl) ?_
    refine c_X7_of0 (w := 4) hR2 (by omega) ?_
    refine wp_int (y := nI (f (5 * i + 4))) (by rw [fu_ne (by omega), fu_ne (by omega)]) ?_
    refine wp_iconst (pc := 53) (1) dX7_rings_53 (by decide) ?_
    refine wp_isub (pc := 54) dX7_rings_54 ?_
    refine wc_S_II (pc := 55) dX7_rings_55 lkX7_146 (by decide) (Nat.le_of_ble_eq_true rfl) ?_
    refine c_J9_max_7cf53 ?_
    refine wp_int (ag1 hag) ?_
    refine wc_V_III (pc := 58) dX7_rings_58 lkX7_77 (sm_Rc.o (ci := 6) s0_40 (by decide) (by decide)) (by decide) (Nat.le_of_ble_eq_true rfl) ?_
    refine c_X7_becomes (w := 4) (v := f (5 * i + 4) - 1) hR2 (by omega) ?_
    have hR3 := hR2.u (5 * i + 4) (f (5 * i + 4) - 1)
    refine wp_pop (pc := 61) dX7_rings_61 rfl ?_
    refine wp_ret (pc := 62) dX7_rings_62 rfl ?_
    rw [show rgT f i = fu (fu (fu f (5 * i + 3) 1) (5 * i + 1) (f 70)) (5 * i + 4) (f (5 * i + 4) - 1) by unfold rgT; rw [if_neg (by rw [hbi]; exact fun z => c_7 (by rw [of_decide_eq_true z]; rfl))]] at k
    exact k _ hR3 RF.rf.u.u.u
  · refine wp_aload_n (pc := 10) 0 dX7_rings_10 rfl rfl ?_
    refine wp_iload_n (pc := 11) 1 dX7_rings_11 rfl rfl ?_
    refine wp_iconst (pc := 12) (3) dX7_rings_12 (by decide) ?_
    refine wp_iconst (pc := 13) (0) dX7_rings_13 (by decide) ?_
    refine wc_V_III (pc := 14) dX7_rings_14 lkX7_77 (sm_Rc.o (ci := 6) s0_40 (by decide) (by decide)) (by decide) (Nat.le_of_ble_eq_true rfl) ?_
    refine c_X7_becomes (w := 3) (v := 0) hR (by omega) ?_
    have hR1 := hR.u (5 * i + 3) (0)
    refine wp_pop (pc := 17) dX7_rings_17 rfl ?_
    refine wp_goto (pc := 18) 62 dX7_rings_18 (by decide) ?_
    refine wp_ret (pc := 62) dX7_rings_62 rfl ?_
    rw [show rgT f i = fu f (5 * i + 3) 0 by unfold rgT; rw [if_pos (by rw [hbi]; exact decide_eq_true ((nI_eq (by omega) (by decide)).mp c_7))]] at k
    exact k _ hR1 RF.rf.u
theorem c_X7_thing {d : Nat} {F I : Nat → Nat → Int32} {J : Nat → Nat → Int64} {Q : Option Value → sm_H → Prop} {x y : Int32} {s : Sg} (hM : MR s F I J) (ok : Ok s) (k : ∀ F1 I1 J1, MR (do_thing s x y).2 F1 I1 J1 → Lo F I J F1 I1 J1 → Q (some (.int (do_thing s x y).1)) (S0, F1, I1, J1)) : Wp mX7_thing (d + 3) 0 0 0 (sm_ini [.ref 40, .int x, .int y] 3) [] (S0, F, I, J) Q := by
  show Wp _ _ _ _ _ [.ref 40, .int x, .int y] _ _ _
  have hw := ok.1
  have hR := hM.1
  have hn := hw.n
  have hcw := hw.c
  have hbn := bn_1024 hw
  have hbl := bn_lt hw
  have hp2 := p2n hw
  have hh1 := hw.wth
  have hh2 := hw.crk
  have hh3 := hw.year
  refine wp_iload_n (pc := 0) 1 dX7_thing_0 rfl rfl ?_
  refine wp_iconst (pc := 1) (0) dX7_thing_1 (by decide) ?_
  refine wp_bipush (pc := 2) (99) dX7_thing_2 (by decide) ?_
  refine wc_S_III (pc := 4) dX7_thing_4 lkX7_49 (by decide) (Nat.le_of_ble_eq_true rfl) ?_
  refine c_X7_isIn ?_
  refine wp_ifeqB (pc := 7) 19 dX7_thing_7 (by decide) (fun c_7 => ?_) (fun c_7 => ?_)
  · refine wp_aload_n (pc := 19) 0 dX7_thing_19 rfl rfl ?_
    refine wp_bipush (pc := 20) (-2) dX7_thing_20 (by decide) ?_
    refine wc_V_I (pc := 22) dX7_thing_22 lkX7_81 (sm_Rc.o (ci := 6) s0_40 (by decide) (by decide)) (by decide) (Nat.le_of_ble_eq_true rfl) ?_
    refine c_X7_no_0 ?_
    refine wp_iretI (pc := 25) dX7_thing_25 rfl ?_
    unfold do_thing at k
    rw [gat_f (c := (upB x 99 && (upB y 3))) (and_f1 c_7)] at k
    exact k _ _ _ (hM.bmp (by decide)) (Lo.rf.uI (by decide))
  · obtain ⟨a, ha, rfl⟩ := (i32_le (n := 99) (by decide)).mp (of_decide_eq_true c_7)
    refine wp_iload_n (pc := 10) 2 dX7_thing_10 rfl rfl ?_
    refine wp_iconst (pc := 11) (0) dX7_thing_11 (by decide) ?_
    refine wp_iconst (pc := 12) (3) dX7_thing_12 (by decide) ?_
    refine wc_S_III (pc := 13) dX7_thing_13 lkX7_49 (by decide) (Nat.le_of_ble_eq_true rfl) ?_
    refine c_X7_isIn ?_
    refine wp_ifneB (pc := 16) 26 dX7_thing_16 (by decide) (fun c_16 => ?_) (fun c_16 => ?_)
    · obtain ⟨b, hb, rfl⟩ := (i32_le (n := 3) (by decide)).mp (of_decide_eq_true c_16)
      refine wp_aload_n (pc := 26) 0 dX7_thing_26 rfl rfl ?_
      refine wc_V_ (pc := 27) dX7_thing_27 lkX7_57 (sm_Rc.o (ci := 6) s0_40 (by decide) (by decide)) (by decide) (Nat.le_of_ble_eq_true rfl) ?_
      refine c_X7_many hw hR ?_
      refine wp_bipush (pc := 30) (10) dX7_thing_30 (by decide) ?_
      refine wp_icmp_ne (pc := 32) 44 dX7_thing_32 (by decide) (fun c_32 => ?_) (fun c_32 => ?_)
      · have hrm : sgf s 68 < 10 := Nat.lt_of_le_of_ne hn (fun z => c_32 (by rw [z]; rfl))
        refine wp_aload_n (pc := 44) 0 dX7_thing_44 rfl rfl ?_
        refine wp_iload_n (pc := 45) 1 dX7_thing_45 rfl rfl ?_
        refine wp_iload_n (pc := 46) 2 dX7_thing_46 rfl rfl ?_
        refine wc_V_II (pc := 47) dX7_thing_47 lkX7_84 (sm_Rc.o (ci := 6) s0_40 (by decide) (by decide)) (by decide) (Nat.le_of_ble_eq_true rfl) ?_
        refine c_X7_addThing hw hR hrm (fun I1 hR1 hf1 => ?_)
        refine wp_iretI (pc := 50) dX7_thing_50 rfl ?_
        unfold do_thing at k
        rw [gat_t (c := (upB (nI a) 99 && (upB (nI b) 3))) (and_tt c_7 c_16)] at k
        rw [gat_t (c := (decide ((sgf s) 68 < 10))) (decide_eq_true hrm)] at k
        rw [nI_clamp (by omega), nI_clamp (by omega)] at k
        exact k _ _ _ (hM.f hR1 hf1) hf1.lo
      · refine wp_aload_n (pc := 35) 0 dX7_thing_35 rfl rfl ?_
        refine wp_bipush (pc := 36) (-6) dX7_thing_36 (by decide) ?_
        refine wc_V_I (pc := 38) dX7_thing_38 lkX7_81 (sm_Rc.o (ci := 6) s0_40 (by decide) (by decide)) (by decide) (Nat.le_of_ble_eq_true rfl) ?_
        refine c_X7_no_4 ?_
        refine wp_goto (pc := 41) 50 dX7_thing_41 (by decide) ?_
        refine wp_iretI (pc := 50) dX7_thing_50 rfl ?_
        unfold do_thing at k
        rw [gat_t (c := (upB (nI a) 99 && (upB (nI b) 3))) (and_tt c_7 c_16)] at k
        rw [gat_f (c := (decide ((sgf s) 68 < 10))) (decide_eq_false (fun z => absurd ((nI_eq (by omega) (by decide)).mp c_32) (show ¬ sgf s 68 = 10 by omega)))] at k
        exact k _ _ _ (hM.bmp (by decide)) (Lo.rf.uI (by decide))
    · refine wp_aload_n (pc := 19) 0 dX7_thing_19 rfl rfl ?_
      refine wp_bipush (pc := 20) (-2) dX7_thing_20 (by decide) ?_
      refine wc_V_I (pc := 22) dX7_thing_22 lkX7_81 (sm_Rc.o (ci := 6) s0_40 (by decide) (by decide)) (by decide) (Nat.le_of_ble_eq_true rfl) ?_
      refine c_X7_no_0 ?_
      refine wp_iretI (pc := 25) dX7_thing_25 rfl ?_
      unfold do_thing at k
      rw [gat_f (c := (upB (nI a) 99 && (upB y 3))) (and_f2 c_16)] at k
      exact k _ _ _ (hM.bmp (by decide)) (Lo.rf.uI (by decide))
theorem c_X7_ringer {d : Nat} {F I : Nat → Nat → Int32} {J : Nat → Nat → Int64} {Q : Option Value → sm_H → Prop} {x y z : Int32} {s : Sg} (hM : MR s F I J) (ok : Ok s) (k : ∀ F1 I1 J1, MR (do_ringer s x y z).2 F1 I1 J1 → Lo F I J F1 I1 J1 → Q (some (.int (do_ringer s x y z).1)) (S0, F1, I1, J1)) : Wp mX7_ringer (d + 1) 0 0 0 (sm_ini [.ref 40, .int x, .int y, .int z] 4) [] (S0, F, I, J) Q := by
  show Wp _ _ _ _ _ [.ref 40, .int x, .int y, .int z] _ _ _
  have hw := ok.1
  have hR := hM.1
  have hn := hw.n
  have hcw := hw.c
  have hbn := bn_1024 hw
  have hbl := bn_lt hw
  have hp2 := p2n hw
  have hh1 := hw.wth
  have hh2 := hw.crk
  have hh3 := hw.year
  refine wp_iload_n (pc := 0) 1 dX7_ringer_0 rfl rfl ?_
  refine wp_iconst (pc := 1) (0) dX7_ringer_1 (by decide) ?_
  refine wp_iconst (pc := 2) (5) dX7_ringer_2 (by decide) ?_
  refine wc_S_III (pc := 3) dX7_ringer_3 lkX7_49 (by decide) (Nat.le_of_ble_eq_true rfl) ?_
  refine c_X7_isIn ?_
  refine wp_ifeqB (pc := 6) 29 dX7_ringer_6 (by decide) (fun c_6 => ?_) (fun c_6 => ?_)
  · refine wp_aload_n (pc := 29) 0 dX7_ringer_29 rfl rfl ?_
    refine wp_bipush (pc := 30) (-2) dX7_ringer_30 (by decide) ?_
    refine wc_V_I (pc := 32) dX7_ringer_32 lkX7_81 (sm_Rc.o (ci := 6) s0_40 (by decide) (by decide)) (by decide) (Nat.le_of_ble_eq_true rfl) ?_
    refine c_X7_no_0 ?_
    refine wp_iretI (pc := 35) dX7_ringer_35 rfl ?_
    unfold do_ringer at k
    rw [gat_f (c := (upB x 5 && (upB y 9 && (upB z 7)))) (and_f1 c_6)] at k
    exact k _ _ _ (hM.bmp (by decide)) (Lo.rf.uI (by decide))
  · obtain ⟨a, ha, rfl⟩ := (i32_le (n := 5) (by decide)).mp (of_decide_eq_true c_6)
    refine wp_iload_n (pc := 9) 2 dX7_ringer_9 rfl rfl ?_
    refine wp_iconst (pc := 10) (0) dX7_ringer_10 (by decide) ?_
    refine wp_bipush (pc := 11) (9) dX7_ringer_11 (by decide) ?_
    refine wc_S_III (pc := 13) dX7_ringer_13 lkX7_49 (by decide) (Nat.le_of_ble_eq_true rfl) ?_
    refine c_X7_isIn ?_
    refine wp_ifeqB (pc := 16) 29 dX7_ringer_16 (by decide) (fun c_16 => ?_) (fun c_16 => ?_)
    · refine wp_aload_n (pc := 29) 0 dX7_ringer_29 rfl rfl ?_
      refine wp_bipush (pc := 30) (-2) dX7_ringer_30 (by decide) ?_
      refine wc_V_I (pc := 32) dX7_ringer_32 lkX7_81 (sm_Rc.o (ci := 6) s0_40 (by decide) (by decide)) (by decide) (Nat.le_of_ble_eq_true rfl) ?_
      refine c_X7_no_0 ?_
      refine wp_iretI (pc := 35) dX7_ringer_35 rfl ?_
      unfold do_ringer at k
      rw [gat_f (c := (upB (nI a) 5 && (upB y 9 && (upB z 7)))) (and_f2 (and_f1 c_16))] at k
      exact k _ _ _ (hM.bmp (by decide)) (Lo.rf.uI (by decide))
    · obtain ⟨b, hb, rfl⟩ := (i32_le (n := 9) (by decide)).mp (of_decide_eq_true c_16)
      refine wp_iload_n (pc := 19) 3 dX7_ringer_19 rfl rfl ?_
      refine wp_iconst (pc := 20) (0) dX7_ringer_20 (by decide) ?_
      refine wp_bipush (pc := 21) (7) dX7_ringer_21 (by decide) ?_
      refine wc_S_III (pc := 23) dX7_ringer_23 lkX7_49 (by decide) (Nat.le_of_ble_eq_true rfl) ?_
      refine c_X7_isIn ?_
      refine wp_ifneB (pc := 26) 36 dX7_ringer_26 (by decide) (fun c_26 => ?_) (fun c_26 => ?_)
      · obtain ⟨c, hc, rfl⟩ := (i32_le (n := 7) (by decide)).mp (of_decide_eq_true c_26)
        refine wp_aload_n (pc := 36) 0 dX7_ringer_36 rfl rfl ?_
        refine wq_getR (pc := 37) 13 0 dX7_ringer_37 s0_40 flX7_13 rfl rfl (by decide) (by decide) ?_
        refine wp_bipush (pc := 40) (69) dX7_ringer_40 (by decide) ?_
        refine wq_iald (pc := 42) 69 dX7_ringer_42 s0_41 (by decide) rfl (by decide) (by decide) ?_
        refine wp_int (hR.at (by decide)) ?_
        refine wp_bipush (pc := 43) (6) dX7_ringer_43 (by decide) ?_
        refine wp_icmp_ne (pc := 45) 57 dX7_ringer_45 (by decide) (fun c_45 => ?_) (fun c_45 => ?_)
        · have hrm : sgf s 69 < 6 := Nat.lt_of_le_of_ne hcw (fun z => c_45 (by rw [z]; rfl))
          refine wp_aload_n (pc := 57) 0 dX7_ringer_57 rfl rfl ?_
          refine wp_iload_n (pc := 58) 1 dX7_ringer_58 rfl rfl ?_
          refine wp_iload_n (pc := 59) 2 dX7_ringer_59 rfl rfl ?_
          refine wp_iload_n (pc := 60) 3 dX7_ringer_60 rfl rfl ?_
          refine wc_V_III (pc := 61) dX7_ringer_61 lkX7_87 (sm_Rc.o (ci := 6) s0_40 (by decide) (by decide)) (by decide) (Nat.le_of_ble_eq_true rfl) ?_
          refine c_X7_addRinger hw hR hrm (fun I1 hR1 hf1 => ?_)
          refine wp_iretI (pc := 64) dX7_ringer_64 rfl ?_
          unfold do_ringer at k
          rw [gat_t (c := (upB (nI a) 5 && (upB (nI b) 9 && (upB (nI c) 7)))) (and_tt c_6 (and_tt c_16 c_26))] at k
          rw [gat_t (c := (decide ((sgf s) 69 < 6))) (decide_eq_true hrm)] at k
          rw [nI_clamp (by omega), nI_clamp (by omega), nI_clamp (by omega)] at k
          exact k _ _ _ (hM.f hR1 hf1) hf1.lo
        · refine wp_aload_n (pc := 48) 0 dX7_ringer_48 rfl rfl ?_
          refine wp_bipush (pc := 49) (-6) dX7_ringer_49 (by decide) ?_
          refine wc_V_I (pc := 51) dX7_ringer_51 lkX7_81 (sm_Rc.o (ci := 6) s0_40 (by decide) (by decide)) (by decide) (Nat.le_of_ble_eq_true rfl) ?_
          refine c_X7_no_4 ?_
          refine wp_goto (pc := 54) 64 dX7_ringer_54 (by decide) ?_
          refine wp_iretI (pc := 64) dX7_ringer_64 rfl ?_
          unfold do_ringer at k
          rw [gat_t (c := (upB (nI a) 5 && (upB (nI b) 9 && (upB (nI c) 7)))) (and_tt c_6 (and_tt c_16 c_26))] at k
          rw [gat_f (c := (decide ((sgf s) 69 < 6))) (decide_eq_false (fun z => absurd ((nI_eq (by omega) (by decide)).mp c_45) (show ¬ sgf s 69 = 6 by omega)))] at k
          exact k _ _ _ (hM.bmp (by decide)) (Lo.rf.uI (by decide))
      · refine wp_aload_n (pc := 29) 0 dX7_ringer_29 rfl rfl ?_
        refine wp_bipush (pc := 30) (-2) dX7_ringer_30 (by decide) ?_
        refine wc_V_I (pc := 32) dX7_ringer_32 lkX7_81 (sm_Rc.o (ci := 6) s0_40 (by decide) (by decide)) (by decide) (Nat.le_of_ble_eq_true rfl) ?_
        refine c_X7_no_0 ?_
        refine wp_iretI (pc := 35) dX7_ringer_35 rfl ?_
        unfold do_ringer at k
        rw [gat_f (c := (upB (nI a) 5 && (upB (nI b) 9 && (upB z 7)))) (and_f2 (and_f2 c_26))] at k
        exact k _ _ _ (hM.bmp (by decide)) (Lo.rf.uI (by decide))
theorem c_X7_free {d : Nat} {F I : Nat → Nat → Int32} {J : Nat → Nat → Int64} {Q : Option Value → sm_H → Prop} {x : Int32} {s : Sg} (hM : MR s F I J) (ok : Ok s) (k : ∀ F1 I1 J1, MR (do_free s x).2 F1 I1 J1 → Lo F I J F1 I1 J1 → Q (some (.int (do_free s x).1)) (S0, F1, I1, J1)) : Wp mX7_free (d + 2) 0 0 0 (sm_ini [.ref 40, .int x] 2) [] (S0, F, I, J) Q := by
  show Wp _ _ _ _ _ [.ref 40, .int x] _ _ _
  have hw := ok.1
  have hR := hM.1
  have hn := hw.n
  have hcw := hw.c
  have hbn := bn_1024 hw
  have hbl := bn_lt hw
  have hp2 := p2n hw
  have hh1 := hw.wth
  have hh2 := hw.crk
  have hh3 := hw.year
  refine wp_aload_n (pc := 0) 0 dX7_free_0 rfl rfl ?_
  refine wp_iload_n (pc := 1) 1 dX7_free_1 rfl rfl ?_
  refine wc_V_I (pc := 2) dX7_free_2 lkX7_90 (sm_Rc.o (ci := 6) s0_40 (by decide) (by decide)) (by decide) (Nat.le_of_ble_eq_true rfl) ?_
  refine c_X7_isThing hw hR ?_
  refine wp_ifeqB (pc := 5) 18 dX7_free_5 (by decide) (fun c_5 => ?_) (fun c_5 => ?_)
  · refine wp_aload_n (pc := 18) 0 dX7_free_18 rfl rfl ?_
    refine wp_bipush (pc := 19) (-2) dX7_free_19 (by decide) ?_
    refine wc_V_I (pc := 21) dX7_free_21 lkX7_81 (sm_Rc.o (ci := 6) s0_40 (by decide) (by decide)) (by decide) (Nat.le_of_ble_eq_true rfl) ?_
    refine c_X7_no_0 ?_
    refine wp_iretI (pc := 24) dX7_free_24 rfl ?_
    unfold do_free at k
    rw [gat_f (c := (isTh s x)) c_5] at k
    exact k _ _ _ (hM.bmp (by decide)) (Lo.rf.uI (by decide))
  · obtain ⟨i, hi0, rfl⟩ := (i32_in (by omega)).mp (of_decide_eq_true c_5)
    have hi : i < 10 := by omega
    refine wp_aload_n (pc := 8) 0 dX7_free_8 rfl rfl ?_
    refine wp_iload_n (pc := 9) 1 dX7_free_9 rfl rfl ?_
    refine wp_iconst (pc := 10) (2) dX7_free_10 (by decide) ?_
    refine wp_iconst (pc := 11) (0) dX7_free_11 (by decide) ?_
    refine wc_V_III (pc := 12) dX7_free_12 lkX7_77 (sm_Rc.o (ci := 6) s0_40 (by decide) (by decide)) (by decide) (Nat.le_of_ble_eq_true rfl) ?_
    refine c_X7_becomes (w := 2) (v := 0) hR (by omega) ?_
    refine wp_goto (pc := 15) 24 dX7_free_15 (by decide) ?_
    refine wp_iretI (pc := 24) dX7_free_24 rfl ?_
    unfold do_free at k
    rw [gat_t (c := (isTh s (nI i))) c_5] at k
    rw [nI_clamp (by omega)] at k
    exact k _ _ _ (hM.f (hR.u (5 * i + 2) 0) RF.rf.u) RF.rf.u.lo
theorem c_X7_give {d : Nat} {F I : Nat → Nat → Int32} {J : Nat → Nat → Int64} {Q : Option Value → sm_H → Prop} {x y z : Int32} {s : Sg} (hM : MR s F I J) (ok : Ok s) (k : ∀ F1 I1 J1, MR (do_give s x y z).2 F1 I1 J1 → Lo F I J F1 I1 J1 → Q (some (.int (do_give s x y z).1)) (S0, F1, I1, J1)) : Wp mX7_give (d + 2) 0 0 0 (sm_ini [.ref 40, .int x, .int y, .int z] 4) [] (S0, F, I, J) Q := by
  show Wp _ _ _ _ _ [.ref 40, .int x, .int y, .int z] _ _ _
  have hw := ok.1
  have hR := hM.1
  have hn := hw.n
  have hcw := hw.c
  have hbn := bn_1024 hw
  have hbl := bn_lt hw
  have hp2 := p2n hw
  have hh1 := hw.wth
  have hh2 := hw.crk
  have hh3 := hw.year
  refine wp_aload_n (pc := 0) 0 dX7_give_0 rfl rfl ?_
  refine wp_iload_n (pc := 1) 1 dX7_give_1 rfl rfl ?_
  refine wc_V_I (pc := 2) dX7_give_2 lkX7_90 (sm_Rc.o (ci := 6) s0_40 (by decide) (by decide)) (by decide) (Nat.le_of_ble_eq_true rfl) ?_
  refine c_X7_isThing hw hR ?_
  refine wp_ifeqB (pc := 5) 45 dX7_give_5 (by decide) (fun c_5 => ?_) (fun c_5 => ?_)
  · refine wp_aload_n (pc := 45) 0 dX7_give_45 rfl rfl ?_
    refine wp_bipush (pc := 46) (-2) dX7_give_46 (by decide) ?_
    refine wc_V_I (pc := 48) dX7_give_48 lkX7_81 (sm_Rc.o (ci := 6) s0_40 (by decide) (by decide)) (by decide) (Nat.le_of_ble_eq_true rfl) ?_
    refine c_X7_no_0 ?_
    refine wp_iretI (pc := 51) dX7_give_51 rfl ?_
    unfold do_give at k
    rw [gat_f (c := (isTh s x && (upB y 3 && (upB z (nI (mostP y.toNatClampNeg)))))) (and_f1 c_5)] at k
    exact k _ _ _ (hM.bmp (by decide)) (Lo.rf.uI (by decide))
  · obtain ⟨i, hi0, rfl⟩ := (i32_in (by omega)).mp (of_decide_eq_true c_5)
    have hi : i < 10 := by omega
    refine wp_iload_n (pc := 8) 2 dX7_give_8 rfl rfl ?_
    refine wp_iconst (pc := 9) (0) dX7_give_9 (by decide) ?_
    refine wp_iconst (pc := 10) (3) dX7_give_10 (by decide) ?_
    refine wc_S_III (pc := 11) dX7_give_11 lkX7_49 (by decide) (Nat.le_of_ble_eq_true rfl) ?_
    refine c_X7_isIn ?_
    refine wp_ifeqB (pc := 14) 45 dX7_give_14 (by decide) (fun c_14 => ?_) (fun c_14 => ?_)
    · refine wp_aload_n (pc := 45) 0 dX7_give_45 rfl rfl ?_
      refine wp_bipush (pc := 46) (-2) dX7_give_46 (by decide) ?_
      refine wc_V_I (pc := 48) dX7_give_48 lkX7_81 (sm_Rc.o (ci := 6) s0_40 (by decide) (by decide)) (by decide) (Nat.le_of_ble_eq_true rfl) ?_
      refine c_X7_no_0 ?_
      refine wp_iretI (pc := 51) dX7_give_51 rfl ?_
      unfold do_give at k
      rw [gat_f (c := (isTh s (nI i) && (upB y 3 && (upB z (nI (mostP y.toNatClampNeg)))))) (and_f2 (and_f1 c_14))] at k
      exact k _ _ _ (hM.bmp (by decide)) (Lo.rf.uI (by decide))
    · obtain ⟨p, hp, rfl⟩ := (i32_le (n := 3) (by decide)).mp (of_decide_eq_true c_14)
      have hpc : (nI p).toNatClampNeg = p := nI_clamp (by omega)
      unfold do_give at k
      rw [hpc] at k
      rcases (show p = 0 ∨ p = 1 ∨ p = 2 ∨ p = 3 by omega) with rfl | rfl | rfl | rfl
      · refine wp_iload_n (pc := 17) 3 dX7_give_17 rfl rfl ?_
        refine wp_iconst (pc := 18) (0) dX7_give_18 (by decide) ?_
        refine wp_iload_n (pc := 19) 2 dX7_give_19 rfl rfl ?_
        refine wp_iconst (pc := 20) (1) dX7_give_20 (by decide) ?_
        refine wp_icmp_ne (pc := 21) 28 dX7_give_21 (by decide) (fun c_21 => ?_) (fun c_21 => ?_)
        · refine wp_iload_n (pc := 28) 2 dX7_give_28 rfl rfl ?_
          refine wp_iconst (pc := 29) (3) dX7_give_29 (by decide) ?_
          refine wp_icmp_ne (pc := 30) 37 dX7_give_30 (by decide) (fun c_30 => ?_) (fun c_30 => ?_)
          · refine wp_bipush (pc := 37) (99) dX7_give_37 (by decide) ?_
            refine wc_S_III (pc := 39) dX7_give_39 lkX7_49 (by decide) (Nat.le_of_ble_eq_true rfl) ?_
            refine c_X7_isIn ?_
            refine wp_ifneB (pc := 42) 52 dX7_give_42 (by decide) (fun c_42 => ?_) (fun c_42 => ?_)
            · obtain ⟨v, hv, rfl⟩ := (i32_le (n := 99) (by decide)).mp (of_decide_eq_true c_42)
              refine wp_aload_n (pc := 52) 0 dX7_give_52 rfl rfl ?_
              refine wp_iload_n (pc := 53) 1 dX7_give_53 rfl rfl ?_
              refine wp_iload_n (pc := 54) 2 dX7_give_54 rfl rfl ?_
              refine wp_ifne (pc := 55) 62 dX7_give_55 (by decide) (fun c_55 => ?_) (fun c_55 => ?_)
              · exact absurd (by decide) c_55
              · refine wp_iconst (pc := 58) (0) dX7_give_58 (by decide) ?_
                refine wp_goto (pc := 59) 81 dX7_give_59 (by decide) ?_
                refine wp_iload_n (pc := 81) 3 dX7_give_81 rfl rfl ?_
                refine wc_V_III (pc := 82) dX7_give_82 lkX7_77 (sm_Rc.o (ci := 6) s0_40 (by decide) (by decide)) (by decide) (Nat.le_of_ble_eq_true rfl) ?_
                refine c_X7_becomes (w := 0) (v := v) hR (by omega) ?_
                refine wp_iretI (pc := 85) dX7_give_85 rfl ?_
                rw [gat_t (c := (isTh s (nI i) && (upB (nI 0) 3 && (upB (nI v) (nI (mostP 0)))))) (and_tt c_5 (and_tt c_14 c_42)), nI_clamp (by omega), nI_clamp (by omega)] at k
                exact k _ _ _ (hM.f (hR.u (5 * i + 0) v) RF.rf.u) RF.rf.u.lo
            · refine wp_aload_n (pc := 45) 0 dX7_give_45 rfl rfl ?_
              refine wp_bipush (pc := 46) (-2) dX7_give_46 (by decide) ?_
              refine wc_V_I (pc := 48) dX7_give_48 lkX7_81 (sm_Rc.o (ci := 6) s0_40 (by decide) (by decide)) (by decide) (Nat.le_of_ble_eq_true rfl) ?_
              refine c_X7_no_0 ?_
              refine wp_iretI (pc := 51) dX7_give_51 rfl ?_
              rw [gat_f (c := (isTh s (nI i) && (upB (nI 0) 3 && (upB z (nI (mostP 0)))))) (and_f2 (and_f2 c_42))] at k
              exact k _ _ _ (hM.bmp (by decide)) (Lo.rf.uI (by decide))
          · exact absurd c_30 (by decide)
        · exact absurd c_21 (by decide)
      · refine wp_iload_n (pc := 17) 3 dX7_give_17 rfl rfl ?_
        refine wp_iconst (pc := 18) (0) dX7_give_18 (by decide) ?_
        refine wp_iload_n (pc := 19) 2 dX7_give_19 rfl rfl ?_
        refine wp_iconst (pc := 20) (1) dX7_give_20 (by decide) ?_
        refine wp_icmp_ne (pc := 21) 28 dX7_give_21 (by decide) (fun c_21 => ?_) (fun c_21 => ?_)
        · exact absurd (by decide) c_21
        · refine wp_iconst (pc := 24) (3) dX7_give_24 (by decide) ?_
          refine wp_goto (pc := 25) 39 dX7_give_25 (by decide) ?_
          refine wc_S_III (pc := 39) dX7_give_39 lkX7_49 (by decide) (Nat.le_of_ble_eq_true rfl) ?_
          refine c_X7_isIn ?_
          refine wp_ifneB (pc := 42) 52 dX7_give_42 (by decide) (fun c_42 => ?_) (fun c_42 => ?_)
          · obtain ⟨v, hv, rfl⟩ := (i32_le (n := 3) (by decide)).mp (of_decide_eq_true c_42)
            refine wp_aload_n (pc := 52) 0 dX7_give_52 rfl rfl ?_
            refine wp_iload_n (pc := 53) 1 dX7_give_53 rfl rfl ?_
            refine wp_iload_n (pc := 54) 2 dX7_give_54 rfl rfl ?_
            refine wp_ifne (pc := 55) 62 dX7_give_55 (by decide) (fun c_55 => ?_) (fun c_55 => ?_)
            · refine wp_iload_n (pc := 62) 2 dX7_give_62 rfl rfl ?_
              refine wp_iconst (pc := 63) (1) dX7_give_63 (by decide) ?_
              refine wp_icmp_ne (pc := 64) 71 dX7_give_64 (by decide) (fun c_64 => ?_) (fun c_64 => ?_)
              · exact absurd (by decide) c_64
              · refine wp_iconst (pc := 67) (1) dX7_give_67 (by decide) ?_
                refine wp_goto (pc := 68) 81 dX7_give_68 (by decide) ?_
                refine wp_iload_n (pc := 81) 3 dX7_give_81 rfl rfl ?_
                refine wc_V_III (pc := 82) dX7_give_82 lkX7_77 (sm_Rc.o (ci := 6) s0_40 (by decide) (by decide)) (by decide) (Nat.le_of_ble_eq_true rfl) ?_
                refine c_X7_becomes (w := 1) (v := v) hR (by omega) ?_
                refine wp_iretI (pc := 85) dX7_give_85 rfl ?_
                rw [gat_t (c := (isTh s (nI i) && (upB (nI 1) 3 && (upB (nI v) (nI (mostP 1)))))) (and_tt c_5 (and_tt c_14 c_42)), nI_clamp (by omega), nI_clamp (by omega)] at k
                exact k _ _ _ (hM.f (hR.u (5 * i + 1) v) RF.rf.u) RF.rf.u.lo
            · exact absurd c_55 (by decide)
          · refine wp_aload_n (pc := 45) 0 dX7_give_45 rfl rfl ?_
            refine wp_bipush (pc := 46) (-2) dX7_give_46 (by decide) ?_
            refine wc_V_I (pc := 48) dX7_give_48 lkX7_81 (sm_Rc.o (ci := 6) s0_40 (by decide) (by decide)) (by decide) (Nat.le_of_ble_eq_true rfl) ?_
            refine c_X7_no_0 ?_
            refine wp_iretI (pc := 51) dX7_give_51 rfl ?_
            rw [gat_f (c := (isTh s (nI i) && (upB (nI 1) 3 && (upB z (nI (mostP 1)))))) (and_f2 (and_f2 c_42))] at k
            exact k _ _ _ (hM.bmp (by decide)) (Lo.rf.uI (by decide))
      · refine wp_iload_n (pc := 17) 3 dX7_give_17 rfl rfl ?_
        refine wp_iconst (pc := 18) (0) dX7_give_18 (by decide) ?_
        refine wp_iload_n (pc := 19) 2 dX7_give_19 rfl rfl ?_
        refine wp_iconst (pc := 20) (1) dX7_give_20 (by decide) ?_
        refine wp_icmp_ne (pc := 21) 28 dX7_give_21 (by decide) (fun c_21 => ?_) (fun c_21 => ?_)
        · refine wp_iload_n (pc := 28) 2 dX7_give_28 rfl rfl ?_
          refine wp_iconst (pc := 29) (3) dX7_give_29 (by decide) ?_
          refine wp_icmp_ne (pc := 30) 37 dX7_give_30 (by decide) (fun c_30 => ?_) (fun c_30 => ?_)
          · refine wp_bipush (pc := 37) (99) dX7_give_37 (by decide) ?_
            refine wc_S_III (pc := 39) dX7_give_39 lkX7_49 (by decide) (Nat.le_of_ble_eq_true rfl) ?_
            refine c_X7_isIn ?_
            refine wp_ifneB (pc := 42) 52 dX7_give_42 (by decide) (fun c_42 => ?_) (fun c_42 => ?_)
            · obtain ⟨v, hv, rfl⟩ := (i32_le (n := 99) (by decide)).mp (of_decide_eq_true c_42)
              refine wp_aload_n (pc := 52) 0 dX7_give_52 rfl rfl ?_
              refine wp_iload_n (pc := 53) 1 dX7_give_53 rfl rfl ?_
              refine wp_iload_n (pc := 54) 2 dX7_give_54 rfl rfl ?_
              refine wp_ifne (pc := 55) 62 dX7_give_55 (by decide) (fun c_55 => ?_) (fun c_55 => ?_)
              · refine wp_iload_n (pc := 62) 2 dX7_give_62 rfl rfl ?_
                refine wp_iconst (pc := 63) (1) dX7_give_63 (by decide) ?_
                refine wp_icmp_ne (pc := 64) 71 dX7_give_64 (by decide) (fun c_64 => ?_) (fun c_64 => ?_)
                · refine wp_iload_n (pc := 71) 2 dX7_give_71 rfl rfl ?_
                  refine wp_iconst (pc := 72) (2) dX7_give_72 (by decide) ?_
                  refine wp_icmp_ne (pc := 73) 80 dX7_give_73 (by decide) (fun c_73 => ?_) (fun c_73 => ?_)
                  · exact absurd (by decide) c_73
                  · refine wp_iconst (pc := 76) (4) dX7_give_76 (by decide) ?_
                    refine wp_goto (pc := 77) 81 dX7_give_77 (by decide) ?_
                    refine wp_iload_n (pc := 81) 3 dX7_give_81 rfl rfl ?_
                    refine wc_V_III (pc := 82) dX7_give_82 lkX7_77 (sm_Rc.o (ci := 6) s0_40 (by decide) (by decide)) (by decide) (Nat.le_of_ble_eq_true rfl) ?_
                    refine c_X7_becomes (w := 4) (v := v) hR (by omega) ?_
                    refine wp_iretI (pc := 85) dX7_give_85 rfl ?_
                    rw [gat_t (c := (isTh s (nI i) && (upB (nI 2) 3 && (upB (nI v) (nI (mostP 2)))))) (and_tt c_5 (and_tt c_14 c_42)), nI_clamp (by omega), nI_clamp (by omega)] at k
                    exact k _ _ _ (hM.f (hR.u (5 * i + 4) v) RF.rf.u) RF.rf.u.lo
                · exact absurd c_64 (by decide)
              · exact absurd c_55 (by decide)
            · refine wp_aload_n (pc := 45) 0 dX7_give_45 rfl rfl ?_
              refine wp_bipush (pc := 46) (-2) dX7_give_46 (by decide) ?_
              refine wc_V_I (pc := 48) dX7_give_48 lkX7_81 (sm_Rc.o (ci := 6) s0_40 (by decide) (by decide)) (by decide) (Nat.le_of_ble_eq_true rfl) ?_
              refine c_X7_no_0 ?_
              refine wp_iretI (pc := 51) dX7_give_51 rfl ?_
              rw [gat_f (c := (isTh s (nI i) && (upB (nI 2) 3 && (upB z (nI (mostP 2)))))) (and_f2 (and_f2 c_42))] at k
              exact k _ _ _ (hM.bmp (by decide)) (Lo.rf.uI (by decide))
          · exact absurd c_30 (by decide)
        · exact absurd c_21 (by decide)
      · refine wp_iload_n (pc := 17) 3 dX7_give_17 rfl rfl ?_
        refine wp_iconst (pc := 18) (0) dX7_give_18 (by decide) ?_
        refine wp_iload_n (pc := 19) 2 dX7_give_19 rfl rfl ?_
        refine wp_iconst (pc := 20) (1) dX7_give_20 (by decide) ?_
        refine wp_icmp_ne (pc := 21) 28 dX7_give_21 (by decide) (fun c_21 => ?_) (fun c_21 => ?_)
        · refine wp_iload_n (pc := 28) 2 dX7_give_28 rfl rfl ?_
          refine wp_iconst (pc := 29) (3) dX7_give_29 (by decide) ?_
          refine wp_icmp_ne (pc := 30) 37 dX7_give_30 (by decide) (fun c_30 => ?_) (fun c_30 => ?_)
          · exact absurd (by decide) c_30
          · refine wp_iconst (pc := 33) (1) dX7_give_33 (by decide) ?_
            refine wp_goto (pc := 34) 39 dX7_give_34 (by decide) ?_
            refine wc_S_III (pc := 39) dX7_give_39 lkX7_49 (by decide) (Nat.le_of_ble_eq_true rfl) ?_
            refine c_X7_isIn ?_
            refine wp_ifneB (pc := 42) 52 dX7_give_42 (by decide) (fun c_42 => ?_) (fun c_42 => ?_)
            · obtain ⟨v, hv, rfl⟩ := (i32_le (n := 1) (by decide)).mp (of_decide_eq_true c_42)
              refine wp_aload_n (pc := 52) 0 dX7_give_52 rfl rfl ?_
              refine wp_iload_n (pc := 53) 1 dX7_give_53 rfl rfl ?_
              refine wp_iload_n (pc := 54) 2 dX7_give_54 rfl rfl ?_
              refine wp_ifne (pc := 55) 62 dX7_give_55 (by decide) (fun c_55 => ?_) (fun c_55 => ?_)
              · refine wp_iload_n (pc := 62) 2 dX7_give_62 rfl rfl ?_
                refine wp_iconst (pc := 63) (1) dX7_give_63 (by decide) ?_
                refine wp_icmp_ne (pc := 64) 71 dX7_give_64 (by decide) (fun c_64 => ?_) (fun c_64 => ?_)
                · refine wp_iload_n (pc := 71) 2 dX7_give_71 rfl rfl ?_
                  refine wp_iconst (pc := 72) (2) dX7_give_72 (by decide) ?_
                  refine wp_icmp_ne (pc := 73) 80 dX7_give_73 (by decide) (fun c_73 => ?_) (fun c_73 => ?_)
                  · refine wp_iconst (pc := 80) (3) dX7_give_80 (by decide) ?_
                    refine wp_iload_n (pc := 81) 3 dX7_give_81 rfl rfl ?_
                    refine wc_V_III (pc := 82) dX7_give_82 lkX7_77 (sm_Rc.o (ci := 6) s0_40 (by decide) (by decide)) (by decide) (Nat.le_of_ble_eq_true rfl) ?_
                    refine c_X7_becomes (w := 3) (v := v) hR (by omega) ?_
                    refine wp_int (y := nI (partN (sgf s) i 3)) (congrArg nI (bn_toNat hw hi0).symm) ?_
                    refine wp_iretI (pc := 85) dX7_give_85 rfl ?_
                    rw [gat_t (c := (isTh s (nI i) && (upB (nI 3) 3 && (upB (nI v) (nI (mostP 3)))))) (and_tt c_5 (and_tt c_14 c_42)), nI_clamp (by omega), nI_clamp (by omega)] at k
                    exact k _ _ _ (hM.f (hR.u (5 * i + 3) v) RF.rf.u) RF.rf.u.lo
                  · exact absurd c_73 (by decide)
                · exact absurd c_64 (by decide)
              · exact absurd c_55 (by decide)
            · refine wp_aload_n (pc := 45) 0 dX7_give_45 rfl rfl ?_
              refine wp_bipush (pc := 46) (-2) dX7_give_46 (by decide) ?_
              refine wc_V_I (pc := 48) dX7_give_48 lkX7_81 (sm_Rc.o (ci := 6) s0_40 (by decide) (by decide)) (by decide) (Nat.le_of_ble_eq_true rfl) ?_
              refine c_X7_no_0 ?_
              refine wp_iretI (pc := 51) dX7_give_51 rfl ?_
              rw [gat_f (c := (isTh s (nI i) && (upB (nI 3) 3 && (upB z (nI (mostP 3)))))) (and_f2 (and_f2 c_42))] at k
              exact k _ _ _ (hM.bmp (by decide)) (Lo.rf.uI (by decide))
        · exact absurd c_21 (by decide)
theorem c_X7_tell {d : Nat} {F I : Nat → Nat → Int32} {J : Nat → Nat → Int64} {Q : Option Value → sm_H → Prop} {x y : Int32} {s : Sg} (hM : MR s F I J) (ok : Ok s) (k : ∀ F1 I1 J1, MR (do_tell s x y).2 F1 I1 J1 → Lo F I J F1 I1 J1 → Q (some (.int (do_tell s x y).1)) (S0, F1, I1, J1)) : Wp mX7_tell (d + 1) 0 0 0 (sm_ini [.ref 40, .int x, .int y] 4) [] (S0, F, I, J) Q := by
  show Wp _ _ _ _ _ [.ref 40, .int x, .int y, .null] _ _ _
  have hw := ok.1
  have hR := hM.1
  have hn := hw.n
  have hcw := hw.c
  have hbn := bn_1024 hw
  have hbl := bn_lt hw
  have hp2 := p2n hw
  have hh1 := hw.wth
  have hh2 := hw.crk
  have hh3 := hw.year
  refine wp_iload_n (pc := 0) 1 dX7_tell_0 rfl rfl ?_
  refine wp_iconst (pc := 1) (0) dX7_tell_1 (by decide) ?_
  refine wp_iconst (pc := 2) (2) dX7_tell_2 (by decide) ?_
  refine wc_S_III (pc := 3) dX7_tell_3 lkX7_49 (by decide) (Nat.le_of_ble_eq_true rfl) ?_
  refine c_X7_isIn ?_
  refine wp_ifeqB (pc := 6) 39 dX7_tell_6 (by decide) (fun c_6 => ?_) (fun c_6 => ?_)
  · refine wp_aload_n (pc := 39) 0 dX7_tell_39 rfl rfl ?_
    refine wp_bipush (pc := 40) (-2) dX7_tell_40 (by decide) ?_
    refine wc_V_I (pc := 42) dX7_tell_42 lkX7_81 (sm_Rc.o (ci := 6) s0_40 (by decide) (by decide)) (by decide) (Nat.le_of_ble_eq_true rfl) ?_
    refine c_X7_no_0 ?_
    refine wp_iretI (pc := 45) dX7_tell_45 rfl ?_
    unfold do_tell at k
    rw [gat_f (c := (upB x 2 && (upB y (nI (mostQ x.toNatClampNeg))))) (and_f1 c_6)] at k
    exact k _ _ _ (hM.bmp (by decide)) (Lo.rf.uI (by decide))
  · obtain ⟨p, hp, rfl⟩ := (i32_le (n := 2) (by decide)).mp (of_decide_eq_true c_6)
    have hpc : (nI p).toNatClampNeg = p := nI_clamp (by omega)
    unfold do_tell at k
    rw [hpc] at k
    rcases (show p = 0 ∨ p = 1 ∨ p = 2 by omega) with rfl | rfl | rfl
    · refine wp_iload_n (pc := 9) 2 dX7_tell_9 rfl rfl ?_
      refine wp_iconst (pc := 10) (0) dX7_tell_10 (by decide) ?_
      refine wp_iload_n (pc := 11) 1 dX7_tell_11 rfl rfl ?_
      refine wp_ifne (pc := 12) 19 dX7_tell_12 (by decide) (fun c_12 => ?_) (fun c_12 => ?_)
      · exact absurd (by decide) c_12
      · refine wp_iconst (pc := 15) (3) dX7_tell_15 (by decide) ?_
        refine wp_goto (pc := 16) 33 dX7_tell_16 (by decide) ?_
        refine wc_S_III (pc := 33) dX7_tell_33 lkX7_49 (by decide) (Nat.le_of_ble_eq_true rfl) ?_
        refine c_X7_isIn ?_
        refine wp_ifneB (pc := 36) 46 dX7_tell_36 (by decide) (fun c_36 => ?_) (fun c_36 => ?_)
        · obtain ⟨v, hv, rfl⟩ := (i32_le (n := 3) (by decide)).mp (of_decide_eq_true c_36)
          refine wp_aload_n (pc := 46) 0 dX7_tell_46 rfl rfl ?_
          refine wq_getR (pc := 47) 13 0 dX7_tell_47 s0_40 flX7_13 rfl rfl (by decide) (by decide) ?_
          refine wp_bipush (pc := 50) (70) dX7_tell_50 (by decide) ?_
          refine wp_iload_n (pc := 52) 1 dX7_tell_52 rfl rfl ?_
          refine wp_iadd (pc := 53) dX7_tell_53 ?_
          refine wq_iald (pc := 54) 70 dX7_tell_54 s0_41 (by decide) (by decide) (by decide) (by decide) ?_
          refine wp_int (hR.at (by decide)) ?_
          refine wp_istore_n (pc := 55) 3 dX7_tell_55 rfl (by decide) rfl ?_
          refine wp_aload_n (pc := 56) 0 dX7_tell_56 rfl rfl ?_
          refine wq_getR (pc := 57) 13 0 dX7_tell_57 s0_40 flX7_13 rfl rfl (by decide) (by decide) ?_
          refine wp_bipush (pc := 60) (70) dX7_tell_60 (by decide) ?_
          refine wp_iload_n (pc := 62) 1 dX7_tell_62 rfl rfl ?_
          refine wp_iadd (pc := 63) dX7_tell_63 ?_
          refine wp_iload_n (pc := 64) 2 dX7_tell_64 rfl rfl ?_
          refine wq_iast (pc := 65) 70 dX7_tell_65 s0_41 (by decide) (by decide) (by decide) (by decide) ?_
          refine wp_iload_n (pc := 66) 3 dX7_tell_66 rfl rfl ?_
          refine wp_iretI (pc := 67) dX7_tell_67 rfl ?_
          rw [gat_t (c := (upB (nI 0) 2 && (upB (nI v) (nI (mostQ 0))))) (and_tt c_6 c_36), nI_clamp (by omega)] at k
          exact k _ _ _ (hM.f (hR.u 70 v) RF.rf.u) RF.rf.u.lo
        · refine wp_aload_n (pc := 39) 0 dX7_tell_39 rfl rfl ?_
          refine wp_bipush (pc := 40) (-2) dX7_tell_40 (by decide) ?_
          refine wc_V_I (pc := 42) dX7_tell_42 lkX7_81 (sm_Rc.o (ci := 6) s0_40 (by decide) (by decide)) (by decide) (Nat.le_of_ble_eq_true rfl) ?_
          refine c_X7_no_0 ?_
          refine wp_iretI (pc := 45) dX7_tell_45 rfl ?_
          rw [gat_f (c := (upB (nI 0) 2 && (upB y (nI (mostQ 0))))) (and_f2 c_36)] at k
          exact k _ _ _ (hM.bmp (by decide)) (Lo.rf.uI (by decide))
    · refine wp_iload_n (pc := 9) 2 dX7_tell_9 rfl rfl ?_
      refine wp_iconst (pc := 10) (0) dX7_tell_10 (by decide) ?_
      refine wp_iload_n (pc := 11) 1 dX7_tell_11 rfl rfl ?_
      refine wp_ifne (pc := 12) 19 dX7_tell_12 (by decide) (fun c_12 => ?_) (fun c_12 => ?_)
      · refine wp_iload_n (pc := 19) 1 dX7_tell_19 rfl rfl ?_
        refine wp_iconst (pc := 20) (1) dX7_tell_20 (by decide) ?_
        refine wp_icmp_ne (pc := 21) 30 dX7_tell_21 (by decide) (fun c_21 => ?_) (fun c_21 => ?_)
        · exact absurd (by decide) c_21
        · refine wp_sipush (pc := 24) (999) dX7_tell_24 (by decide) ?_
          refine wp_goto (pc := 27) 33 dX7_tell_27 (by decide) ?_
          refine wc_S_III (pc := 33) dX7_tell_33 lkX7_49 (by decide) (Nat.le_of_ble_eq_true rfl) ?_
          refine c_X7_isIn ?_
          refine wp_ifneB (pc := 36) 46 dX7_tell_36 (by decide) (fun c_36 => ?_) (fun c_36 => ?_)
          · obtain ⟨v, hv, rfl⟩ := (i32_le (n := 999) (by decide)).mp (of_decide_eq_true c_36)
            refine wp_aload_n (pc := 46) 0 dX7_tell_46 rfl rfl ?_
            refine wq_getR (pc := 47) 13 0 dX7_tell_47 s0_40 flX7_13 rfl rfl (by decide) (by decide) ?_
            refine wp_bipush (pc := 50) (70) dX7_tell_50 (by decide) ?_
            refine wp_iload_n (pc := 52) 1 dX7_tell_52 rfl rfl ?_
            refine wp_iadd (pc := 53) dX7_tell_53 ?_
            refine wq_iald (pc := 54) 71 dX7_tell_54 s0_41 (by decide) (by decide) (by decide) (by decide) ?_
            refine wp_int (hR.at (by decide)) ?_
            refine wp_istore_n (pc := 55) 3 dX7_tell_55 rfl (by decide) rfl ?_
            refine wp_aload_n (pc := 56) 0 dX7_tell_56 rfl rfl ?_
            refine wq_getR (pc := 57) 13 0 dX7_tell_57 s0_40 flX7_13 rfl rfl (by decide) (by decide) ?_
            refine wp_bipush (pc := 60) (70) dX7_tell_60 (by decide) ?_
            refine wp_iload_n (pc := 62) 1 dX7_tell_62 rfl rfl ?_
            refine wp_iadd (pc := 63) dX7_tell_63 ?_
            refine wp_iload_n (pc := 64) 2 dX7_tell_64 rfl rfl ?_
            refine wq_iast (pc := 65) 71 dX7_tell_65 s0_41 (by decide) (by decide) (by decide) (by decide) ?_
            refine wp_iload_n (pc := 66) 3 dX7_tell_66 rfl rfl ?_
            refine wp_iretI (pc := 67) dX7_tell_67 rfl ?_
            rw [gat_t (c := (upB (nI 1) 2 && (upB (nI v) (nI (mostQ 1))))) (and_tt c_6 c_36), nI_clamp (by omega)] at k
            exact k _ _ _ (hM.f (hR.u 71 v) RF.rf.u) RF.rf.u.lo
          · refine wp_aload_n (pc := 39) 0 dX7_tell_39 rfl rfl ?_
            refine wp_bipush (pc := 40) (-2) dX7_tell_40 (by decide) ?_
            refine wc_V_I (pc := 42) dX7_tell_42 lkX7_81 (sm_Rc.o (ci := 6) s0_40 (by decide) (by decide)) (by decide) (Nat.le_of_ble_eq_true rfl) ?_
            refine c_X7_no_0 ?_
            refine wp_iretI (pc := 45) dX7_tell_45 rfl ?_
            rw [gat_f (c := (upB (nI 1) 2 && (upB y (nI (mostQ 1))))) (and_f2 c_36)] at k
            exact k _ _ _ (hM.bmp (by decide)) (Lo.rf.uI (by decide))
      · exact absurd c_12 (by decide)
    · refine wp_iload_n (pc := 9) 2 dX7_tell_9 rfl rfl ?_
      refine wp_iconst (pc := 10) (0) dX7_tell_10 (by decide) ?_
      refine wp_iload_n (pc := 11) 1 dX7_tell_11 rfl rfl ?_
      refine wp_ifne (pc := 12) 19 dX7_tell_12 (by decide) (fun c_12 => ?_) (fun c_12 => ?_)
      · refine wp_iload_n (pc := 19) 1 dX7_tell_19 rfl rfl ?_
        refine wp_iconst (pc := 20) (1) dX7_tell_20 (by decide) ?_
        refine wp_icmp_ne (pc := 21) 30 dX7_tell_21 (by decide) (fun c_21 => ?_) (fun c_21 => ?_)
        · refine wp_sipush (pc := 30) (255) dX7_tell_30 (by decide) ?_
          refine wc_S_III (pc := 33) dX7_tell_33 lkX7_49 (by decide) (Nat.le_of_ble_eq_true rfl) ?_
          refine c_X7_isIn ?_
          refine wp_ifneB (pc := 36) 46 dX7_tell_36 (by decide) (fun c_36 => ?_) (fun c_36 => ?_)
          · obtain ⟨v, hv, rfl⟩ := (i32_le (n := 255) (by decide)).mp (of_decide_eq_true c_36)
            refine wp_aload_n (pc := 46) 0 dX7_tell_46 rfl rfl ?_
            refine wq_getR (pc := 47) 13 0 dX7_tell_47 s0_40 flX7_13 rfl rfl (by decide) (by decide) ?_
            refine wp_bipush (pc := 50) (70) dX7_tell_50 (by decide) ?_
            refine wp_iload_n (pc := 52) 1 dX7_tell_52 rfl rfl ?_
            refine wp_iadd (pc := 53) dX7_tell_53 ?_
            refine wq_iald (pc := 54) 72 dX7_tell_54 s0_41 (by decide) (by decide) (by decide) (by decide) ?_
            refine wp_int (hR.at (by decide)) ?_
            refine wp_istore_n (pc := 55) 3 dX7_tell_55 rfl (by decide) rfl ?_
            refine wp_aload_n (pc := 56) 0 dX7_tell_56 rfl rfl ?_
            refine wq_getR (pc := 57) 13 0 dX7_tell_57 s0_40 flX7_13 rfl rfl (by decide) (by decide) ?_
            refine wp_bipush (pc := 60) (70) dX7_tell_60 (by decide) ?_
            refine wp_iload_n (pc := 62) 1 dX7_tell_62 rfl rfl ?_
            refine wp_iadd (pc := 63) dX7_tell_63 ?_
            refine wp_iload_n (pc := 64) 2 dX7_tell_64 rfl rfl ?_
            refine wq_iast (pc := 65) 72 dX7_tell_65 s0_41 (by decide) (by decide) (by decide) (by decide) ?_
            refine wp_iload_n (pc := 66) 3 dX7_tell_66 rfl rfl ?_
            refine wp_iretI (pc := 67) dX7_tell_67 rfl ?_
            rw [gat_t (c := (upB (nI 2) 2 && (upB (nI v) (nI (mostQ 2))))) (and_tt c_6 c_36), nI_clamp (by omega)] at k
            exact k _ _ _ (hM.f (hR.u 72 v) RF.rf.u) RF.rf.u.lo
          · refine wp_aload_n (pc := 39) 0 dX7_tell_39 rfl rfl ?_
            refine wp_bipush (pc := 40) (-2) dX7_tell_40 (by decide) ?_
            refine wc_V_I (pc := 42) dX7_tell_42 lkX7_81 (sm_Rc.o (ci := 6) s0_40 (by decide) (by decide)) (by decide) (Nat.le_of_ble_eq_true rfl) ?_
            refine c_X7_no_0 ?_
            refine wp_iretI (pc := 45) dX7_tell_45 rfl ?_
            rw [gat_f (c := (upB (nI 2) 2 && (upB y (nI (mostQ 2))))) (and_f2 c_36)] at k
            exact k _ _ _ (hM.bmp (by decide)) (Lo.rf.uI (by decide))
        · exact absurd c_21 (by decide)
      · exact absurd c_12 (by decide)
theorem c_X7_hang {d : Nat} {F I : Nat → Nat → Int32} {J : Nat → Nat → Int64} {Q : Option Value → sm_H → Prop} {x y z : Int32} {s : Sg} (hM : MR s F I J) (ok : Ok s) (k : ∀ F1 I1 J1, MR (do_hang s x y z).2 F1 I1 J1 → Lo F I J F1 I1 J1 → Q (some (.int (do_hang s x y z).1)) (S0, F1, I1, J1)) : Wp mX7_hang (d + 2) 0 0 0 (sm_ini [.ref 40, .int x, .int y, .int z] 5) [] (S0, F, I, J) Q := by
  show Wp _ _ _ _ _ [.ref 40, .int x, .int y, .int z, .null] _ _ _
  have hw := ok.1
  have hR := hM.1
  have hn := hw.n
  have hcw := hw.c
  have hbn := bn_1024 hw
  have hbl := bn_lt hw
  have hp2 := p2n hw
  have hh1 := hw.wth
  have hh2 := hw.crk
  have hh3 := hw.year
  refine wp_aload_n (pc := 0) 0 dX7_hang_0 rfl rfl ?_
  refine wp_iload_n (pc := 1) 1 dX7_hang_1 rfl rfl ?_
  refine wc_V_I (pc := 2) dX7_hang_2 lkX7_90 (sm_Rc.o (ci := 6) s0_40 (by decide) (by decide)) (by decide) (Nat.le_of_ble_eq_true rfl) ?_
  refine c_X7_isThing hw hR ?_
  refine wp_ifeqB (pc := 5) 28 dX7_hang_5 (by decide) (fun c_5 => ?_) (fun c_5 => ?_)
  · refine wp_aload_n (pc := 28) 0 dX7_hang_28 rfl rfl ?_
    refine wp_bipush (pc := 29) (-2) dX7_hang_29 (by decide) ?_
    refine wc_V_I (pc := 31) dX7_hang_31 lkX7_81 (sm_Rc.o (ci := 6) s0_40 (by decide) (by decide)) (by decide) (Nat.le_of_ble_eq_true rfl) ?_
    refine c_X7_no_0 ?_
    refine wp_iretI (pc := 34) dX7_hang_34 rfl ?_
    unfold do_hang at k
    rw [gat_f (c := (isTh s x && (decide (0 ≤ y ∧ y < x) && upB z 1))) (and_f1 c_5)] at k
    exact k _ _ _ (hM.bmp (by decide)) (Lo.rf.uI (by decide))
  · obtain ⟨i, hi0, rfl⟩ := (i32_in (by omega)).mp (of_decide_eq_true c_5)
    have hi : i < 10 := by omega
    refine wp_iload_n (pc := 8) 2 dX7_hang_8 rfl rfl ?_
    refine wp_iconst (pc := 9) (0) dX7_hang_9 (by decide) ?_
    refine wp_iload_n (pc := 10) 1 dX7_hang_10 rfl rfl ?_
    refine wp_iconst (pc := 11) (1) dX7_hang_11 (by decide) ?_
    refine wp_isub (pc := 12) dX7_hang_12 ?_
    refine wc_S_III (pc := 13) dX7_hang_13 lkX7_49 (by decide) (Nat.le_of_ble_eq_true rfl) ?_
    refine c_X7_isIn ?_
    refine wp_ifeqB (pc := 16) 28 dX7_hang_16 (by decide) (fun c_16 => ?_) (fun c_16 => ?_)
    · refine wp_aload_n (pc := 28) 0 dX7_hang_28 rfl rfl ?_
      refine wp_bipush (pc := 29) (-2) dX7_hang_29 (by decide) ?_
      refine wc_V_I (pc := 31) dX7_hang_31 lkX7_81 (sm_Rc.o (ci := 6) s0_40 (by decide) (by decide)) (by decide) (Nat.le_of_ble_eq_true rfl) ?_
      refine c_X7_no_0 ?_
      refine wp_iretI (pc := 34) dX7_hang_34 rfl ?_
      unfold do_hang at k
      rw [gat_f (c := (isTh s (nI i) && (decide (0 ≤ y ∧ y < nI i) && upB z 1))) (and_f2 (and_f1 ((decide_eq_decide.mpr (i32_pred (by omega))).symm.trans c_16)))] at k
      exact k _ _ _ (hM.bmp (by decide)) (Lo.rf.uI (by decide))
    · obtain ⟨l, hl0, rfl⟩ := (i32_in (by omega)).mp ((i32_pred (by omega)).mp (of_decide_eq_true c_16))
      have hl : l < 10 := by omega
      have hl2 : decide (0 ≤ nI l ∧ nI l < nI i) = true := (decide_eq_decide.mpr (i32_pred (by omega))).symm.trans c_16
      refine wp_iload_n (pc := 19) 3 dX7_hang_19 rfl rfl ?_
      refine wp_iconst (pc := 20) (0) dX7_hang_20 (by decide) ?_
      refine wp_iconst (pc := 21) (1) dX7_hang_21 (by decide) ?_
      refine wc_S_III (pc := 22) dX7_hang_22 lkX7_49 (by decide) (Nat.le_of_ble_eq_true rfl) ?_
      refine c_X7_isIn ?_
      refine wp_ifneB (pc := 25) 35 dX7_hang_25 (by decide) (fun c_25 => ?_) (fun c_25 => ?_)
      · obtain ⟨v, hv, rfl⟩ := (i32_le (n := 1) (by decide)).mp (of_decide_eq_true c_25)
        unfold do_hang at k
        rw [gat_t (c := (isTh s (nI i) && (decide (0 ≤ nI l ∧ nI l < nI i) && upB (nI v) 1))) (and_tt c_5 (and_tt hl2 c_25)), nI_clamp (by omega), nI_clamp (by omega)] at k
        have ho10 := hw.on10 hi
        rcases (show v = 0 ∨ v = 1 by omega) with rfl | rfl
        · refine wp_aload_n (pc := 35) 0 dX7_hang_35 rfl rfl ?_
          refine wp_iload_n (pc := 36) 1 dX7_hang_36 rfl rfl ?_
          refine wp_iconst (pc := 37) (2) dX7_hang_37 (by decide) ?_
          refine wc_V_II (pc := 38) dX7_hang_38 lkX7_53 (sm_Rc.o (ci := 6) s0_40 (by decide) (by decide)) (by decide) (Nat.le_of_ble_eq_true rfl) ?_
          refine c_X7_of (w := 2) hw hR (by omega) ?_
          refine wp_iload_n (pc := 41) 2 dX7_hang_41 rfl rfl ?_
          refine wp_ishr (pc := 42) dX7_hang_42 ?_
          refine wp_iconst (pc := 43) (1) dX7_hang_43 (by decide) ?_
          refine wp_iand (pc := 44) dX7_hang_44 ?_
          refine wp_int (bt_bit (by omega) (by omega)) ?_
          refine wp_istore (pc := 45) 4 dX7_hang_45 (by decide) rfl ?_
          refine wp_aload_n (pc := 47) 0 dX7_hang_47 rfl rfl ?_
          refine wp_iload_n (pc := 48) 1 dX7_hang_48 rfl rfl ?_
          refine wp_iconst (pc := 49) (2) dX7_hang_49 (by decide) ?_
          refine wp_aload_n (pc := 50) 0 dX7_hang_50 rfl rfl ?_
          refine wp_iload_n (pc := 51) 1 dX7_hang_51 rfl rfl ?_
          refine wp_iconst (pc := 52) (2) dX7_hang_52 (by decide) ?_
          refine wc_V_II (pc := 53) dX7_hang_53 lkX7_53 (sm_Rc.o (ci := 6) s0_40 (by decide) (by decide)) (by decide) (Nat.le_of_ble_eq_true rfl) ?_
          refine c_X7_of (w := 2) hw hR (by omega) ?_
          refine wp_iconst (pc := 56) (1) dX7_hang_56 (by decide) ?_
          refine wp_iload_n (pc := 57) 2 dX7_hang_57 rfl rfl ?_
          refine wp_ishl (pc := 58) dX7_hang_58 ?_
          refine wp_iconst (pc := 59) (-1) dX7_hang_59 (by decide) ?_
          refine wp_ixor (pc := 60) dX7_hang_60 ?_
          refine wp_iand (pc := 61) dX7_hang_61 ?_
          refine wp_int (bt_clr (by omega)) ?_
          refine wp_iload_n (pc := 62) 3 dX7_hang_62 rfl rfl ?_
          refine wp_iload_n (pc := 63) 2 dX7_hang_63 rfl rfl ?_
          refine wp_ishl (pc := 64) dX7_hang_64 ?_
          refine wp_int (y := nI (0 * 2 ^ l)) (bt_shl (a := 0) (by omega) (by omega)) ?_
          refine wp_ior (pc := 65) dX7_hang_65 ?_
          refine wp_int (y := nI (hgN (sgf s (5 * i + 2)) l false)) ((bt_or _ _).trans (by rw [Nat.zero_mul, Nat.or_zero]; rfl)) ?_
          refine wc_V_III (pc := 66) dX7_hang_66 lkX7_77 (sm_Rc.o (ci := 6) s0_40 (by decide) (by decide)) (by decide) (Nat.le_of_ble_eq_true rfl) ?_
          refine c_X7_becomes (w := 2) (v := hgN (sgf s (5 * i + 2)) l false) hR (by omega) ?_
          refine wp_pop (pc := 69) dX7_hang_69 rfl ?_
          refine wp_iload (pc := 70) 4 dX7_hang_70 rfl ?_
          refine wp_iretI (pc := 72) dX7_hang_72 rfl ?_
          exact k _ _ _ (hM.f (hR.u (5 * i + 2) (hgN (sgf s (5 * i + 2)) l false)) RF.rf.u) RF.rf.u.lo
        · refine wp_aload_n (pc := 35) 0 dX7_hang_35 rfl rfl ?_
          refine wp_iload_n (pc := 36) 1 dX7_hang_36 rfl rfl ?_
          refine wp_iconst (pc := 37) (2) dX7_hang_37 (by decide) ?_
          refine wc_V_II (pc := 38) dX7_hang_38 lkX7_53 (sm_Rc.o (ci := 6) s0_40 (by decide) (by decide)) (by decide) (Nat.le_of_ble_eq_true rfl) ?_
          refine c_X7_of (w := 2) hw hR (by omega) ?_
          refine wp_iload_n (pc := 41) 2 dX7_hang_41 rfl rfl ?_
          refine wp_ishr (pc := 42) dX7_hang_42 ?_
          refine wp_iconst (pc := 43) (1) dX7_hang_43 (by decide) ?_
          refine wp_iand (pc := 44) dX7_hang_44 ?_
          refine wp_int (bt_bit (by omega) (by omega)) ?_
          refine wp_istore (pc := 45) 4 dX7_hang_45 (by decide) rfl ?_
          refine wp_aload_n (pc := 47) 0 dX7_hang_47 rfl rfl ?_
          refine wp_iload_n (pc := 48) 1 dX7_hang_48 rfl rfl ?_
          refine wp_iconst (pc := 49) (2) dX7_hang_49 (by decide) ?_
          refine wp_aload_n (pc := 50) 0 dX7_hang_50 rfl rfl ?_
          refine wp_iload_n (pc := 51) 1 dX7_hang_51 rfl rfl ?_
          refine wp_iconst (pc := 52) (2) dX7_hang_52 (by decide) ?_
          refine wc_V_II (pc := 53) dX7_hang_53 lkX7_53 (sm_Rc.o (ci := 6) s0_40 (by decide) (by decide)) (by decide) (Nat.le_of_ble_eq_true rfl) ?_
          refine c_X7_of (w := 2) hw hR (by omega) ?_
          refine wp_iconst (pc := 56) (1) dX7_hang_56 (by decide) ?_
          refine wp_iload_n (pc := 57) 2 dX7_hang_57 rfl rfl ?_
          refine wp_ishl (pc := 58) dX7_hang_58 ?_
          refine wp_iconst (pc := 59) (-1) dX7_hang_59 (by decide) ?_
          refine wp_ixor (pc := 60) dX7_hang_60 ?_
          refine wp_iand (pc := 61) dX7_hang_61 ?_
          refine wp_int (bt_clr (by omega)) ?_
          refine wp_iload_n (pc := 62) 3 dX7_hang_62 rfl rfl ?_
          refine wp_iload_n (pc := 63) 2 dX7_hang_63 rfl rfl ?_
          refine wp_ishl (pc := 64) dX7_hang_64 ?_
          refine wp_int (y := nI (2 ^ l)) (bt_one (by omega)) ?_
          refine wp_ior (pc := 65) dX7_hang_65 ?_
          refine wp_int (y := nI (hgN (sgf s (5 * i + 2)) l true)) ((bt_or _ _).trans (by rw [clr_or]; rfl)) ?_
          refine wc_V_III (pc := 66) dX7_hang_66 lkX7_77 (sm_Rc.o (ci := 6) s0_40 (by decide) (by decide)) (by decide) (Nat.le_of_ble_eq_true rfl) ?_
          refine c_X7_becomes (w := 2) (v := hgN (sgf s (5 * i + 2)) l true) hR (by omega) ?_
          refine wp_pop (pc := 69) dX7_hang_69 rfl ?_
          refine wp_iload (pc := 70) 4 dX7_hang_70 rfl ?_
          refine wp_iretI (pc := 72) dX7_hang_72 rfl ?_
          exact k _ _ _ (hM.f (hR.u (5 * i + 2) (hgN (sgf s (5 * i + 2)) l true)) RF.rf.u) RF.rf.u.lo
      · refine wp_aload_n (pc := 28) 0 dX7_hang_28 rfl rfl ?_
        refine wp_bipush (pc := 29) (-2) dX7_hang_29 (by decide) ?_
        refine wc_V_I (pc := 31) dX7_hang_31 lkX7_81 (sm_Rc.o (ci := 6) s0_40 (by decide) (by decide)) (by decide) (Nat.le_of_ble_eq_true rfl) ?_
        refine c_X7_no_0 ?_
        refine wp_iretI (pc := 34) dX7_hang_34 rfl ?_
        unfold do_hang at k
        rw [gat_f (c := (isTh s (nI i) && (decide (0 ≤ nI l ∧ nI l < nI i) && upB z 1))) (and_f2 (and_f2 c_25))] at k
        exact k _ _ _ (hM.bmp (by decide)) (Lo.rf.uI (by decide))
theorem c_X7_ring {d : Nat} {F I : Nat → Nat → Int32} {J : Nat → Nat → Int64} {Q : Option Value → sm_H → Prop} {x : Int32} {s : Sg} (hM : MR s F I J) (ok : Ok s) (k : ∀ F1 I1 J1, MR (do_ring s x).2 F1 I1 J1 → Lo F I J F1 I1 J1 → Q (some (.int (do_ring s x).1)) (S0, F1, I1, J1)) : Wp mX7_ring (d + 3) 0 0 0 (sm_ini [.ref 40, .int x] 2) [] (S0, F, I, J) Q := by
  show Wp _ _ _ _ _ [.ref 40, .int x] _ _ _
  have hw := ok.1
  have hR := hM.1
  have hn := hw.n
  have hcw := hw.c
  have hbn := bn_1024 hw
  have hbl := bn_lt hw
  have hp2 := p2n hw
  have hh1 := hw.wth
  have hh2 := hw.crk
  have hh3 := hw.year
  refine wp_aload_n (pc := 0) 0 dX7_ring_0 rfl rfl ?_
  refine wp_iload_n (pc := 1) 1 dX7_ring_1 rfl rfl ?_
  refine wc_V_I (pc := 2) dX7_ring_2 lkX7_90 (sm_Rc.o (ci := 6) s0_40 (by decide) (by decide)) (by decide) (Nat.le_of_ble_eq_true rfl) ?_
  refine c_X7_isThing hw hR ?_
  refine wp_ifneB (pc := 5) 15 dX7_ring_5 (by decide) (fun c_5 => ?_) (fun c_5 => ?_)
  · obtain ⟨i, hi0, rfl⟩ := (i32_in (by omega)).mp (of_decide_eq_true c_5)
    have hi : i < 10 := by omega
    refine wp_aload_n (pc := 15) 0 dX7_ring_15 rfl rfl ?_
    refine wp_iload_n (pc := 16) 1 dX7_ring_16 rfl rfl ?_
    refine wc_V_I (pc := 17) dX7_ring_17 lkX7_138 (sm_Rc.o (ci := 6) s0_40 (by decide) (by decide)) (by decide) (Nat.le_of_ble_eq_true rfl) ?_
    refine c_X7_may hw hR hi0 ?_
    refine wp_ifne (pc := 20) 30 dX7_ring_20 (by decide) (fun c_20 => ?_) (fun c_20 => ?_)
    · refine wp_aload_n (pc := 30) 0 dX7_ring_30 rfl rfl ?_
      refine wp_iload_n (pc := 31) 1 dX7_ring_31 rfl rfl ?_
      refine wc_V_I (pc := 32) dX7_ring_32 lkX7_207 (sm_Rc.o (ci := 6) s0_40 (by decide) (by decide)) (by decide) (Nat.le_of_ble_eq_true rfl) ?_
      refine c_X7_rings hw hR hi0 (fun I1 hR1 hf1 => ?_)
      have hw1 := WF_rgT hw hi0
      refine wp_aload_n (pc := 35) 0 dX7_ring_35 rfl rfl ?_
      refine wp_aload_n (pc := 36) 0 dX7_ring_36 rfl rfl ?_
      refine wc_V_ (pc := 37) dX7_ring_37 lkX7_135 (sm_Rc.o (ci := 6) s0_40 (by decide) (by decide)) (by decide) (Nat.le_of_ble_eq_true rfl) ?_
      refine c_X7_been hw1 hR1 ?_
      refine wc_V_I (pc := 40) dX7_ring_40 lkX7_168 (sm_Rc.o (ci := 6) s0_40 (by decide) (by decide)) (by decide) (Nat.le_of_ble_eq_true rfl) ?_
      refine c_X7_valueBy hw1 hR1 (bn_lt hw1) ?_
      refine wp_iretI (pc := 43) dX7_ring_43 rfl ?_
      unfold do_ring at k
      rw [gat_t (c := (isTh s (nI i))) c_5] at k
      rw [gat_t (c := (decide (¬ may (sgf s) (nI i).toNatClampNeg = 0))) (decide_eq_true (fun z => c_20 (by rw [nI_clamp (by omega)] at z; rw [z]; rfl)))] at k
      rw [nI_clamp (by omega)] at k
      exact k _ _ _ (hM.f hR1 hf1) hf1.lo
    · refine wp_aload_n (pc := 23) 0 dX7_ring_23 rfl rfl ?_
      refine wp_bipush (pc := 24) (-5) dX7_ring_24 (by decide) ?_
      refine wc_V_I (pc := 26) dX7_ring_26 lkX7_81 (sm_Rc.o (ci := 6) s0_40 (by decide) (by decide)) (by decide) (Nat.le_of_ble_eq_true rfl) ?_
      refine c_X7_no_3 ?_
      refine wp_iretI (pc := 29) dX7_ring_29 rfl ?_
      unfold do_ring at k
      rw [gat_t (c := (isTh s (nI i))) c_5] at k
      rw [gat_f (c := (decide (¬ may (sgf s) (nI i).toNatClampNeg = 0))) (decide_eq_false (fun z => z (by rw [nI_clamp (by omega)]; exact (nI0 (may_le2 _ _)).mp c_20)))] at k
      exact k _ _ _ (hM.bmp (by decide)) (Lo.rf.uI (by decide))
  · refine wp_aload_n (pc := 8) 0 dX7_ring_8 rfl rfl ?_
    refine wp_bipush (pc := 9) (-2) dX7_ring_9 (by decide) ?_
    refine wc_V_I (pc := 11) dX7_ring_11 lkX7_81 (sm_Rc.o (ci := 6) s0_40 (by decide) (by decide)) (by decide) (Nat.le_of_ble_eq_true rfl) ?_
    refine c_X7_no_0 ?_
    refine wp_iretI (pc := 14) dX7_ring_14 rfl ?_
    unfold do_ring at k
    rw [gat_f (c := (isTh s x)) c_5] at k
    exact k _ _ _ (hM.bmp (by decide)) (Lo.rf.uI (by decide))
