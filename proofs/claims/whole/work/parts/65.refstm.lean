/-! ===== the reference: a tower by its tape ===== -/
def HP (sz : Nat) (tp : Nat → Nat) (r : Bool × rw_ × Nat) (a : Nat) (F I F1 I1 : Nat → Nat → Int32) : Prop := Rw 41 r.2.1 I1 ∧ RF I I1 ∧ KF F F1 ∧ (r.1 = false → F1 40 8 = nI r.2.2) ∧ (r.1 = true → ∃ p, a ≤ p ∧ p ≤ sz ∧ F1 40 7 = nI p ∧ tks sz tp p = r.2.2)
theorem HP_f {sz : Nat} {tp : Nat → Nat} {f : rw_} {a c : Nat} {F I F1 : Nat → Nat → Int32} (hR : Rw 41 f I) (hk : KF F F1) (hr : RS sz tp c F1) : HP sz tp (false, f, c) a F I F1 I := ⟨hR, RF.rf, hk, fun _ => hr.2.1, (fun z => by cases z)⟩
theorem HP_t {sz : Nat} {tp : Nat → Nat} {g : rw_} {a c : Nat} {F I F1 I1 : Nat → Nat → Int32} (hR : Rw 41 g I1) (hf : RF I I1) (hk : KF F F1) (hr : RS sz tp c F1) (hc : c ≤ sz) (ha : a ≤ c) : HP sz tp (true, g, nxk sz tp c) a F I F1 I1 := ⟨hR, hf, hk, (fun z => by cases z), fun _ => ⟨endk sz tp c, Nat.le_trans ha (endk_le hc).1, (endk_le hc).2.1, hr.1, rfl⟩⟩
theorem HP.mo {sz : Nat} {tp : Nat → Nat} {r : Bool × rw_ × Nat} {a b : Nat} {F I F0 F1 I1 : Nat → Nat → Int32} (h : HP sz tp r a F I F1 I1) (hk : KF F0 F) (hb : b ≤ a) : HP sz tp r b F0 I F1 I1 := ⟨h.1, h.2.1, hk.tr h.2.2.1, h.2.2.2.1, fun z => (h.2.2.2.2 z).elim fun p hp => ⟨p, Nat.le_trans hb hp.1, hp.2⟩⟩
theorem rdL (n : Nat) (hn : n < 2 ^ 20) : ∀ m, m < 2 ^ 20 → (nI m ≤ nI n ↔ m < n + 1) := fun m hm => (nI_leI (by omega) (by omega)).trans (by omega)
theorem rdP (n : Nat) (hn : n < 2 ^ 20) : ∀ m, m < 2 ^ 20 → (nI m ≤ nI n - 1 ↔ m < n) := fun m hm => le_prd (by omega) (by omega)
theorem nx_ge {sz : Nat} {tp : Nat → Nat} {q : Nat} (h : q ≤ sz) : q ≤ nxk sz tp q := Nat.le_trans (endk_le h).1 (tks_le (endk_le h).2.1).1
theorem nx_gt {sz : Nat} {tp : Nat → Nat} {q : Nat} (h : q ≤ sz) (h2 : ¬ srtk sz tp q = 0) : q < nxk sz tp q := Nat.lt_of_lt_of_le ((endk_le h).2.2 h2) (tks_le (endk_le h).2.1).1
theorem c_X7_readRinger {d : Nat} {F I : Nat → Nat → Int32} {J : Nat → Nat → Int64} {Q : Option Value → sm_H → Prop} {sz : Nat} {tp : Nat → Nat} (hP : TP sz tp F I) {f : rw_} (hw : WF f) (hR : Rw 41 f I) {p : Nat} (hp : p ≤ sz) (hp7 : F 40 7 = nI p) (hc6 : f 69 < 6) (k : ∀ F1 I1 : Nat → Nat → Int32, HP sz tp (stN1 sz tp f 5 (tks sz tp p)) (tks sz tp p) F I F1 I1 → Q (some (.int (b2 (stN1 sz tp f 5 (tks sz tp p)).1))) (S0, F1, I1, J)) : Wp mX7_readRinger (d + 4) 0 0 0 (sm_ini [.ref 40] 3) [] (S0, F, I, J) Q := by
  show Wp _ _ _ _ _ [.ref 40, .null, .null] _ _ _
  have hn6 := hw.c
  have ha0 := (tks_le (tp := tp) hp).2
  have ha1 : nxk sz tp (tks sz tp p) ≤ sz := nxk_le ha0
  have ha2 : nxk sz tp (nxk sz tp (tks sz tp p)) ≤ sz := nxk_le ha1
  have hg0 := nx_ge (tp := tp) ha0
  have hg1 := nx_ge (tp := tp) ha1
  refine wp_aload_n (pc := 0) 0 dX7_readRinger_0 rfl rfl ?_
  refine wp_iconst (pc := 1) (5) dX7_readRinger_1 (by decide) ?_
  refine wc_V_I (pc := 2) dX7_readRinger_2 lkX7_121 (sm_Rc.o (ci := 6) s0_40 (by decide) (by decide)) (by decide) (Nat.le_of_ble_eq_true rfl) ?_
  refine c_X7_reads (L := 6) hP hp hp7 (rdL 5 (by decide)) (fun F1 hr1 hk1 => ?_)
  refine wp_ifneB (pc := 5) 10 dX7_readRinger_5 (by decide) (fun c_5 => ?_) (fun c_5 => ?_)
  · refine wp_aload_n (pc := 10) 0 dX7_readRinger_10 rfl rfl ?_
    refine wq_getI (pc := 11) 103 10 dX7_readRinger_11 s0_40 flX7_103 rfl (by decide) ?_
    refine wp_int (hr1.2.2.2 (rdT_g c_5).1) ?_
    refine wp_istore_n (pc := 14) 1 dX7_readRinger_14 rfl (by decide) rfl ?_
    refine wp_aload_n (pc := 15) 0 dX7_readRinger_15 rfl rfl ?_
    refine wp_bipush (pc := 16) (9) dX7_readRinger_16 (by decide) ?_
    refine wc_V_I (pc := 18) dX7_readRinger_18 lkX7_121 (sm_Rc.o (ci := 6) s0_40 (by decide) (by decide)) (by decide) (Nat.le_of_ble_eq_true rfl) ?_
    refine c_X7_reads (L := 10) (hP.kf hk1) (endk_le ha0).2.1 hr1.1 (rdL 9 (by decide)) (fun F2 hr2 hk2 => ?_)
    refine wp_ifneB (pc := 21) 26 dX7_readRinger_21 (by decide) (fun c_21 => ?_) (fun c_21 => ?_)
    · refine wp_aload_n (pc := 26) 0 dX7_readRinger_26 rfl rfl ?_
      refine wq_getI (pc := 27) 103 10 dX7_readRinger_27 s0_40 flX7_103 rfl (by decide) ?_
      refine wp_int (hr2.2.2.2 (rdT_g c_21).1) ?_
      refine wp_istore_n (pc := 30) 2 dX7_readRinger_30 rfl (by decide) rfl ?_
      refine wp_aload_n (pc := 31) 0 dX7_readRinger_31 rfl rfl ?_
      refine wp_bipush (pc := 32) (7) dX7_readRinger_32 (by decide) ?_
      refine wc_V_I (pc := 34) dX7_readRinger_34 lkX7_121 (sm_Rc.o (ci := 6) s0_40 (by decide) (by decide)) (by decide) (Nat.le_of_ble_eq_true rfl) ?_
      refine c_X7_reads (L := 8) ((hP.kf hk1).kf hk2) (endk_le ha1).2.1 hr2.1 (rdL 7 (by decide)) (fun F3 hr3 hk3 => ?_)
      refine wp_ifneB (pc := 37) 42 dX7_readRinger_37 (by decide) (fun c_37 => ?_) (fun c_37 => ?_)
      · refine wp_aload_n (pc := 42) 0 dX7_readRinger_42 rfl rfl ?_
        refine wp_iload_n (pc := 43) 1 dX7_readRinger_43 rfl rfl ?_
        refine wp_iload_n (pc := 44) 2 dX7_readRinger_44 rfl rfl ?_
        refine wp_aload_n (pc := 45) 0 dX7_readRinger_45 rfl rfl ?_
        refine wq_getI (pc := 46) 103 10 dX7_readRinger_46 s0_40 flX7_103 rfl (by decide) ?_
        refine wp_int (hr3.2.2.2 (rdT_g c_37).1) ?_
        refine wc_V_III (pc := 49) dX7_readRinger_49 lkX7_87 (sm_Rc.o (ci := 6) s0_40 (by decide) (by decide)) (by decide) (Nat.le_of_ble_eq_true rfl) ?_
        refine c_X7_addRinger hw hR hc6 (fun I1 hR1 hf1 => ?_)
        refine wp_pop (pc := 52) dX7_readRinger_52 rfl ?_
        refine wp_iconst (pc := 53) (1) dX7_readRinger_53 (by decide) ?_
        refine wp_iret (pc := 54) dX7_readRinger_54 ⟨_, rfl, by decide⟩ ?_
        rw [stN1_2 (show rdT sz tp (tks sz tp p) (lmW f 5 0 0) = true from c_5) (by decide), stN2_3 (show rdT sz tp (nxk sz tp (tks sz tp p)) (lmW f 5 1 (nmk sz tp (tks sz tp p))) = true from c_21) (by decide), stN3_t (show rdT sz tp (nxk sz tp (nxk sz tp (tks sz tp p))) (lmW f 5 2 (nmk sz tp (tks sz tp p))) = true from c_37)] at k
        exact k _ _ (HP_t hR1 hf1 ((hk1.tr hk2).tr hk3) hr3 ha2 (Nat.le_trans hg0 hg1))
      · refine wp_iconst (pc := 40) (0) dX7_readRinger_40 (by decide) ?_
        refine wp_iret (pc := 41) dX7_readRinger_41 ⟨_, rfl, by decide⟩ ?_
        rw [stN1_2 (show rdT sz tp (tks sz tp p) (lmW f 5 0 0) = true from c_5) (by decide), stN2_3 (show rdT sz tp (nxk sz tp (tks sz tp p)) (lmW f 5 1 (nmk sz tp (tks sz tp p))) = true from c_21) (by decide), stN3_f (show rdT sz tp (nxk sz tp (nxk sz tp (tks sz tp p))) (lmW f 5 2 (nmk sz tp (tks sz tp p))) = false from c_37)] at k
        exact k _ _ (HP_f hR ((hk1.tr hk2).tr hk3) hr3)
    · refine wp_iconst (pc := 24) (0) dX7_readRinger_24 (by decide) ?_
      refine wp_iret (pc := 25) dX7_readRinger_25 ⟨_, rfl, by decide⟩ ?_
      rw [stN1_2 (show rdT sz tp (tks sz tp p) (lmW f 5 0 0) = true from c_5) (by decide), stN2_f (show rdT sz tp (nxk sz tp (tks sz tp p)) (lmW f 5 1 (nmk sz tp (tks sz tp p))) = false from c_21)] at k
      exact k _ _ (HP_f hR (hk1.tr hk2) hr2)
  · refine wp_iconst (pc := 8) (0) dX7_readRinger_8 (by decide) ?_
    refine wp_iret (pc := 9) dX7_readRinger_9 ⟨_, rfl, by decide⟩ ?_
    rw [stN1_f (show rdT sz tp (tks sz tp p) (lmW f 5 0 0) = false from c_5)] at k
    exact k _ _ (HP_f hR hk1 hr1)
set_option maxHeartbeats 1000000 in
theorem c_X7_happens {d : Nat} {F I : Nat → Nat → Int32} {J : Nat → Nat → Int64} {Q : Option Value → sm_H → Prop} {sz : Nat} {tp : Nat → Nat} (hP : TP sz tp F I) {f : rw_} (hw : WF f) (hR : Rw 41 f I) (h46 : ∀ j, j < 70 → I 46 j = nI (wd7 j)) {p : Nat} (hp : p ≤ sz) (hp7 : F 40 7 = nI p) (k : ∀ F1 I1 : Nat → Nat → Int32, HP sz tp (stm sz tp f (tks sz tp p)) (tks sz tp p + 1) F I F1 I1 → Q (some (.int (b2 (stm sz tp f (tks sz tp p)).1))) (S0, F1, I1, J)) : Wp mX7_happens (d + 5) 0 0 0 (sm_ini [.ref 40] 3) [] (S0, F, I, J) Q := by
  show Wp _ _ _ _ _ [.ref 40, .null, .null] _ _ _
  have hn := hw.n
  have hn6 := hw.c
  have hck := hw.crk
  have hqle := (tks_le (tp := tp) hp).2
  have ha1 : nxk sz tp (tks sz tp p) ≤ sz := nxk_le hqle
  have ha2 : nxk sz tp (nxk sz tp (tks sz tp p)) ≤ sz := nxk_le ha1
  have hg1 := nx_ge (tp := tp) ha1
  refine wp_aload_n (pc := 0) 0 dX7_happens_0 rfl rfl ?_
  refine wc_V_ (pc := 1) dX7_happens_1 lkX7_115 (sm_Rc.o (ci := 6) s0_40 (by decide) (by decide)) (by decide) (Nat.le_of_ble_eq_true rfl) ?_
  refine c_X7_read hP hp hp7 (fun F1 hr hk => ?_)
  have hPk := hP.kf hk
  refine wp_aload_n (pc := 4) 0 dX7_happens_4 rfl rfl ?_
  refine wc_V_ (pc := 5) dX7_happens_5 lkX7_118 (sm_Rc.o (ci := 6) s0_40 (by decide) (by decide)) (by decide) (Nat.le_of_ble_eq_true rfl) ?_
  refine c_X7_word hPk h46 hqle hr ?_
  refine wp_istore_n (pc := 8) 1 dX7_happens_8 rfl (by decide) rfl ?_
  refine wp_iconst (pc := 9) (0) dX7_happens_9 (by decide) ?_
  refine wp_istore_n (pc := 10) 2 dX7_happens_10 rfl (by decide) rfl ?_
  rcases hwd : wrd sz tp (tks sz tp p) with _ | w
  · refine wp_to (lv' := [.ref 40, .int (-1), .int 0]) ?_ rfl rfl rfl
    refine wp_iload_n (pc := 11) 1 dX7_happens_11 rfl rfl ?_
    refine wp_tswO (pc := 12) 347 dX7_happens_12 (by decide) (by decide) ?_
    refine wp_iconst (pc := 347) (0) dX7_happens_347 (by decide) ?_
    refine wp_iret (pc := 348) dX7_happens_348 ⟨_, rfl, by decide⟩ ?_
    rw [stm_n hwd] at k
    exact k _ _ (HP_f hR hk hr)
  · have hw10 := wrd_lt hwd
    have hs1 : ¬ srtk sz tp (tks sz tp p) = 0 := fun z => by rw [wrd_n (by rw [z]; decide)] at hwd; cases hwd
    have hgt : tks sz tp p + 1 ≤ nxk sz tp (tks sz tp p) := nx_gt hqle hs1
    refine wp_to (lv' := [.ref 40, .int (nI w), .int 0]) ?_ rfl rfl rfl
    rcases (show w = 0 ∨ w = 1 ∨ w = 2 ∨ w = 3 ∨ w = 4 ∨ w = 5 ∨ w = 6 ∨ w = 7 ∨ w = 8 ∨ w = 9 by omega) with rfl | rfl | rfl | rfl | rfl | rfl | rfl | rfl | rfl | rfl
    · refine wp_iload_n (pc := 11) 1 dX7_happens_11 rfl rfl ?_
      refine wp_tswI (pc := 12) 0 68 dX7_happens_12 (by decide) (by decide) rfl (by decide) ?_
      refine wp_aload_n (pc := 68) 0 dX7_happens_68 rfl rfl ?_
      refine wc_V_ (pc := 69) dX7_happens_69 lkX7_57 (sm_Rc.o (ci := 6) s0_40 (by decide) (by decide)) (by decide) (Nat.le_of_ble_eq_true rfl) ?_
      refine c_X7_many hw hR ?_
      refine wp_bipush (pc := 72) (10) dX7_happens_72 (by decide) ?_
      refine wp_icmp_eq (pc := 74) 86 dX7_happens_74 (by decide) (fun c_74 => ?_) (fun c_74 => ?_)
      · refine wp_iconst (pc := 86) (0) dX7_happens_86 (by decide) ?_
        refine wp_iret (pc := 87) dX7_happens_87 ⟨_, rfl, by decide⟩ ?_
        rw [stm_r hwd (show noRm f 0 = true by simp [noRm, show 10 ≤ f 68 by have := (nI_eq (b := 10) (by omega) (by decide)).mp c_74; omega])] at k
        exact k _ _ (HP_f hR hk hr)
      · have hrm : f 68 < 10 := Nat.lt_of_le_of_ne hw.n (fun z => c_74 (by rw [z]; rfl))
        refine wp_aload_n (pc := 77) 0 dX7_happens_77 rfl rfl ?_
        refine wp_bipush (pc := 78) (99) dX7_happens_78 (by decide) ?_
        refine wc_V_I (pc := 80) dX7_happens_80 lkX7_121 (sm_Rc.o (ci := 6) s0_40 (by decide) (by decide)) (by decide) (Nat.le_of_ble_eq_true rfl) ?_
        refine c_X7_reads (L := 100) hPk (endk_le hqle).2.1 hr.1 (rdL 99 (by decide)) (fun F2 hr2 hk2 => ?_)
        refine wp_ifneB (pc := 83) 88 dX7_happens_83 (by decide) (fun c_83 => ?_) (fun c_83 => ?_)
        · refine wp_aload_n (pc := 88) 0 dX7_happens_88 rfl rfl ?_
          refine wq_getI (pc := 89) 103 10 dX7_happens_89 s0_40 flX7_103 rfl (by decide) ?_
          refine wp_int (hr2.2.2.2 (rdT_g c_83).1) ?_
          refine wp_istore_n (pc := 92) 2 dX7_happens_92 rfl (by decide) rfl ?_
          refine wp_aload_n (pc := 93) 0 dX7_happens_93 rfl rfl ?_
          refine wp_iconst (pc := 94) (3) dX7_happens_94 (by decide) ?_
          refine wc_V_I (pc := 95) dX7_happens_95 lkX7_121 (sm_Rc.o (ci := 6) s0_40 (by decide) (by decide)) (by decide) (Nat.le_of_ble_eq_true rfl) ?_
          refine c_X7_reads (L := 4) (hPk.kf hk2) (endk_le ha1).2.1 hr2.1 (rdL 3 (by decide)) (fun F3 hr3 hk3 => ?_)
          refine wp_ifneB (pc := 98) 103 dX7_happens_98 (by decide) (fun c_98 => ?_) (fun c_98 => ?_)
          · refine wp_aload_n (pc := 103) 0 dX7_happens_103 rfl rfl ?_
            refine wp_iload_n (pc := 104) 2 dX7_happens_104 rfl rfl ?_
            refine wp_aload_n (pc := 105) 0 dX7_happens_105 rfl rfl ?_
            refine wq_getI (pc := 106) 103 10 dX7_happens_106 s0_40 flX7_103 rfl (by decide) ?_
            refine wp_int (hr3.2.2.2 (rdT_g c_98).1) ?_
            refine wc_V_II (pc := 109) dX7_happens_109 lkX7_84 (sm_Rc.o (ci := 6) s0_40 (by decide) (by decide)) (by decide) (Nat.le_of_ble_eq_true rfl) ?_
            refine c_X7_addThing hw hR hrm (fun I1 hR1 hf1 => ?_)
            refine wp_pop (pc := 112) dX7_happens_112 rfl ?_
            refine wp_iconst (pc := 113) (1) dX7_happens_113 (by decide) ?_
            refine wp_iret (pc := 114) dX7_happens_114 ⟨_, rfl, by decide⟩ ?_
            rw [stm_w hwd (show noRm f 0 = false by simp [noRm, hrm]), stN1_2 (show rdT sz tp (nxk sz tp (tks sz tp p)) (lmW f 0 0 0) = true from c_83) (by decide), stN2_2 (show rdT sz tp (nxk sz tp (nxk sz tp (tks sz tp p))) (lmW f 0 1 (nmk sz tp (nxk sz tp (tks sz tp p)))) = true from c_98) rfl] at k
            exact k _ _ (HP_t hR1 hf1 ((hk.tr hk2).tr hk3) hr3 ha2 (Nat.le_trans hgt hg1))
          · refine wp_iconst (pc := 101) (0) dX7_happens_101 (by decide) ?_
            refine wp_iret (pc := 102) dX7_happens_102 ⟨_, rfl, by decide⟩ ?_
            rw [stm_w hwd (show noRm f 0 = false by simp [noRm, hrm]), stN1_2 (show rdT sz tp (nxk sz tp (tks sz tp p)) (lmW f 0 0 0) = true from c_83) (by decide), stN2_f (show rdT sz tp (nxk sz tp (nxk sz tp (tks sz tp p))) (lmW f 0 1 (nmk sz tp (nxk sz tp (tks sz tp p)))) = false from c_98)] at k
            exact k _ _ (HP_f hR ((hk.tr hk2).tr hk3) hr3)
        · refine wp_iconst (pc := 86) (0) dX7_happens_86 (by decide) ?_
          refine wp_iret (pc := 87) dX7_happens_87 ⟨_, rfl, by decide⟩ ?_
          rw [stm_w hwd (show noRm f 0 = false by simp [noRm, hrm]), stN1_f (show rdT sz tp (nxk sz tp (tks sz tp p)) (lmW f 0 0 0) = false from c_83)] at k
          exact k _ _ (HP_f hR (hk.tr hk2) hr2)
    · refine wp_iload_n (pc := 11) 1 dX7_happens_11 rfl rfl ?_
      refine wp_tswI (pc := 12) 1 115 dX7_happens_12 (by decide) (by decide) rfl (by decide) ?_
      refine wp_aload_n (pc := 115) 0 dX7_happens_115 rfl rfl ?_
      refine wp_aload_n (pc := 116) 0 dX7_happens_116 rfl rfl ?_
      refine wc_V_ (pc := 117) dX7_happens_117 lkX7_57 (sm_Rc.o (ci := 6) s0_40 (by decide) (by decide)) (by decide) (Nat.le_of_ble_eq_true rfl) ?_
      refine c_X7_many hw hR ?_
      refine wp_iconst (pc := 120) (1) dX7_happens_120 (by decide) ?_
      refine wp_isub (pc := 121) dX7_happens_121 ?_
      refine wc_V_I (pc := 122) dX7_happens_122 lkX7_121 (sm_Rc.o (ci := 6) s0_40 (by decide) (by decide)) (by decide) (Nat.le_of_ble_eq_true rfl) ?_
      refine c_X7_reads (L := f 68) hPk (endk_le hqle).2.1 hr.1 (rdP (f 68) (by omega)) (fun F2 hr2 hk2 => ?_)
      refine wp_ifneB (pc := 125) 130 dX7_happens_125 (by decide) (fun c_125 => ?_) (fun c_125 => ?_)
      · refine wp_aload_n (pc := 130) 0 dX7_happens_130 rfl rfl ?_
        refine wq_getI (pc := 131) 103 10 dX7_happens_131 s0_40 flX7_103 rfl (by decide) ?_
        have hva : nmk sz tp (nxk sz tp (tks sz tp p)) < 10 := Nat.lt_of_lt_of_le (rdT_g c_125).2 hw.n
        refine wp_int (y := nI (nmk sz tp (nxk sz tp (tks sz tp p)))) (hr2.2.2.2 (rdT_g c_125).1) ?_
        refine wp_istore_n (pc := 134) 2 dX7_happens_134 rfl (by decide) rfl ?_
        refine wp_aload_n (pc := 135) 0 dX7_happens_135 rfl rfl ?_
        refine wp_iload_n (pc := 136) 2 dX7_happens_136 rfl rfl ?_
        refine wp_iconst (pc := 137) (1) dX7_happens_137 (by decide) ?_
        refine wp_isub (pc := 138) dX7_happens_138 ?_
        refine wc_V_I (pc := 139) dX7_happens_139 lkX7_121 (sm_Rc.o (ci := 6) s0_40 (by decide) (by decide)) (by decide) (Nat.le_of_ble_eq_true rfl) ?_
        refine c_X7_reads (L := nmk sz tp (nxk sz tp (tks sz tp p))) (hPk.kf hk2) (endk_le ha1).2.1 hr2.1 (rdP (nmk sz tp (nxk sz tp (tks sz tp p))) (nmk_lt hP.2.2.2)) (fun F3 hr3 hk3 => ?_)
        refine wp_ifneB (pc := 142) 147 dX7_happens_142 (by decide) (fun c_142 => ?_) (fun c_142 => ?_)
        · have hvb : nmk sz tp (nxk sz tp (nxk sz tp (tks sz tp p))) < nmk sz tp (nxk sz tp (tks sz tp p)) := (rdT_g c_142).2
          refine wp_aload_n (pc := 147) 0 dX7_happens_147 rfl rfl ?_
          refine wp_iload_n (pc := 148) 2 dX7_happens_148 rfl rfl ?_
          refine wp_iconst (pc := 149) (2) dX7_happens_149 (by decide) ?_
          refine wp_aload_n (pc := 150) 0 dX7_happens_150 rfl rfl ?_
          refine wp_iload_n (pc := 151) 2 dX7_happens_151 rfl rfl ?_
          refine wp_iconst (pc := 152) (2) dX7_happens_152 (by decide) ?_
          refine wc_V_II (pc := 153) dX7_happens_153 lkX7_53 (sm_Rc.o (ci := 6) s0_40 (by decide) (by decide)) (by decide) (Nat.le_of_ble_eq_true rfl) ?_
          refine c_X7_of0 (w := 2) hR (by omega) ?_
          refine wp_iconst (pc := 156) (1) dX7_happens_156 (by decide) ?_
          refine wp_aload_n (pc := 157) 0 dX7_happens_157 rfl rfl ?_
          refine wq_getI (pc := 158) 103 10 dX7_happens_158 s0_40 flX7_103 rfl (by decide) ?_
          refine wp_int (y := nI (nmk sz tp (nxk sz tp (nxk sz tp (tks sz tp p))))) (hr3.2.2.2 (rdT_g c_142).1) ?_
          refine wp_ishl (pc := 161) dX7_happens_161 ?_
          refine wp_int (bt_one (by omega)) ?_
          refine wp_ior (pc := 162) dX7_happens_162 ?_
          refine wp_int (bt_or _ _) ?_
          refine wc_V_III (pc := 163) dX7_happens_163 lkX7_77 (sm_Rc.o (ci := 6) s0_40 (by decide) (by decide)) (by decide) (Nat.le_of_ble_eq_true rfl) ?_
          refine c_X7_becomes (w := 2) hR (by omega) ?_
          refine wp_pop (pc := 166) dX7_happens_166 rfl ?_
          refine wp_iconst (pc := 167) (1) dX7_happens_167 (by decide) ?_
          refine wp_iret (pc := 168) dX7_happens_168 ⟨_, rfl, by decide⟩ ?_
          rw [stm_w hwd (show noRm f 1 = false from rfl), stN1_2 (show rdT sz tp (nxk sz tp (tks sz tp p)) (lmW f 1 0 0) = true from c_125) (by decide), stN2_2 (show rdT sz tp (nxk sz tp (nxk sz tp (tks sz tp p))) (lmW f 1 1 (nmk sz tp (nxk sz tp (tks sz tp p)))) = true from c_142) rfl] at k
          exact k _ _ (HP_t (hR.u (5 * nmk sz tp (nxk sz tp (tks sz tp p)) + 2) (f (5 * nmk sz tp (nxk sz tp (tks sz tp p)) + 2) ||| 2 ^ nmk sz tp (nxk sz tp (nxk sz tp (tks sz tp p))))) RF.rf.u ((hk.tr hk2).tr hk3) hr3 ha2 (Nat.le_trans hgt hg1))
        · refine wp_iconst (pc := 145) (0) dX7_happens_145 (by decide) ?_
          refine wp_iret (pc := 146) dX7_happens_146 ⟨_, rfl, by decide⟩ ?_
          rw [stm_w hwd (show noRm f 1 = false from rfl), stN1_2 (show rdT sz tp (nxk sz tp (tks sz tp p)) (lmW f 1 0 0) = true from c_125) (by decide), stN2_f (show rdT sz tp (nxk sz tp (nxk sz tp (tks sz tp p))) (lmW f 1 1 (nmk sz tp (nxk sz tp (tks sz tp p)))) = false from c_142)] at k
          exact k _ _ (HP_f hR ((hk.tr hk2).tr hk3) hr3)
      · refine wp_iconst (pc := 128) (0) dX7_happens_128 (by decide) ?_
        refine wp_iret (pc := 129) dX7_happens_129 ⟨_, rfl, by decide⟩ ?_
        rw [stm_w hwd (show noRm f 1 = false from rfl), stN1_f (show rdT sz tp (nxk sz tp (tks sz tp p)) (lmW f 1 0 0) = false from c_125)] at k
        exact k _ _ (HP_f hR (hk.tr hk2) hr2)
    · refine wp_iload_n (pc := 11) 1 dX7_happens_11 rfl rfl ?_
      refine wp_tswI (pc := 12) 2 169 dX7_happens_12 (by decide) (by decide) rfl (by decide) ?_
      refine wp_aload_n (pc := 169) 0 dX7_happens_169 rfl rfl ?_
      refine wp_aload_n (pc := 170) 0 dX7_happens_170 rfl rfl ?_
      refine wc_V_ (pc := 171) dX7_happens_171 lkX7_57 (sm_Rc.o (ci := 6) s0_40 (by decide) (by decide)) (by decide) (Nat.le_of_ble_eq_true rfl) ?_
      refine c_X7_many hw hR ?_
      refine wp_iconst (pc := 174) (1) dX7_happens_174 (by decide) ?_
      refine wp_isub (pc := 175) dX7_happens_175 ?_
      refine wc_V_I (pc := 176) dX7_happens_176 lkX7_121 (sm_Rc.o (ci := 6) s0_40 (by decide) (by decide)) (by decide) (Nat.le_of_ble_eq_true rfl) ?_
      refine c_X7_reads (L := f 68) hPk (endk_le hqle).2.1 hr.1 (rdP (f 68) (by omega)) (fun F2 hr2 hk2 => ?_)
      refine wp_ifneB (pc := 179) 184 dX7_happens_179 (by decide) (fun c_179 => ?_) (fun c_179 => ?_)
      · have hvv := (rdT_g c_179).2
        refine wp_aload_n (pc := 184) 0 dX7_happens_184 rfl rfl ?_
        refine wp_aload_n (pc := 185) 0 dX7_happens_185 rfl rfl ?_
        refine wq_getI (pc := 186) 103 10 dX7_happens_186 s0_40 flX7_103 rfl (by decide) ?_
        refine wp_int (hr2.2.2.2 (rdT_g c_179).1) ?_
        refine wp_iload_n (pc := 189) 1 dX7_happens_189 rfl rfl ?_
        refine wp_iconst (pc := 190) (2) dX7_happens_190 (by decide) ?_
        refine wp_icmp_ne (pc := 191) 198 dX7_happens_191 (by decide) (fun c_191 => ?_) (fun c_191 => ?_)
        · exact absurd (by decide) c_191
        · refine wp_iconst (pc := 194) (2) dX7_happens_194 (by decide) ?_
          refine wp_goto (pc := 195) 199 dX7_happens_195 (by decide) ?_
          refine wp_iload_n (pc := 199) 1 dX7_happens_199 rfl rfl ?_
          refine wp_iconst (pc := 200) (4) dX7_happens_200 (by decide) ?_
          refine wp_icmp_ne (pc := 201) 208 dX7_happens_201 (by decide) (fun c_201 => ?_) (fun c_201 => ?_)
          · refine wp_iconst (pc := 208) (0) dX7_happens_208 (by decide) ?_
            refine wc_V_III (pc := 209) dX7_happens_209 lkX7_77 (sm_Rc.o (ci := 6) s0_40 (by decide) (by decide)) (by decide) (Nat.le_of_ble_eq_true rfl) ?_
            refine c_X7_becomes (w := 2) (v := 0) hR (by omega) ?_
            refine wp_pop (pc := 212) dX7_happens_212 rfl ?_
            refine wp_iconst (pc := 213) (1) dX7_happens_213 (by decide) ?_
            refine wp_iret (pc := 214) dX7_happens_214 ⟨_, rfl, by decide⟩ ?_
            rw [stm_w hwd (show noRm f 2 = false from rfl), stN1_1 (show rdT sz tp (nxk sz tp (tks sz tp p)) (lmW f 2 0 0) = true from c_179) rfl] at k
            exact k _ _ (HP_t (hR.u (5 * (nmk sz tp (nxk sz tp (tks sz tp p))) + 2) 0) RF.rf.u (hk.tr hk2) hr2 ha1 hgt)
          · exact absurd c_201 (by decide)
      · refine wp_iconst (pc := 182) (0) dX7_happens_182 (by decide) ?_
        refine wp_iret (pc := 183) dX7_happens_183 ⟨_, rfl, by decide⟩ ?_
        rw [stm_w hwd (show noRm f 2 = false from rfl), stN1_f (show rdT sz tp (nxk sz tp (tks sz tp p)) (lmW f 2 0 0) = false from c_179)] at k
        exact k _ _ (HP_f hR (hk.tr hk2) hr2)
    · refine wp_iload_n (pc := 11) 1 dX7_happens_11 rfl rfl ?_
      refine wp_tswI (pc := 12) 3 169 dX7_happens_12 (by decide) (by decide) rfl (by decide) ?_
      refine wp_aload_n (pc := 169) 0 dX7_happens_169 rfl rfl ?_
      refine wp_aload_n (pc := 170) 0 dX7_happens_170 rfl rfl ?_
      refine wc_V_ (pc := 171) dX7_happens_171 lkX7_57 (sm_Rc.o (ci := 6) s0_40 (by decide) (by decide)) (by decide) (Nat.le_of_ble_eq_true rfl) ?_
      refine c_X7_many hw hR ?_
      refine wp_iconst (pc := 174) (1) dX7_happens_174 (by decide) ?_
      refine wp_isub (pc := 175) dX7_happens_175 ?_
      refine wc_V_I (pc := 176) dX7_happens_176 lkX7_121 (sm_Rc.o (ci := 6) s0_40 (by decide) (by decide)) (by decide) (Nat.le_of_ble_eq_true rfl) ?_
      refine c_X7_reads (L := f 68) hPk (endk_le hqle).2.1 hr.1 (rdP (f 68) (by omega)) (fun F2 hr2 hk2 => ?_)
      refine wp_ifneB (pc := 179) 184 dX7_happens_179 (by decide) (fun c_179 => ?_) (fun c_179 => ?_)
      · have hvv := (rdT_g c_179).2
        refine wp_aload_n (pc := 184) 0 dX7_happens_184 rfl rfl ?_
        refine wp_aload_n (pc := 185) 0 dX7_happens_185 rfl rfl ?_
        refine wq_getI (pc := 186) 103 10 dX7_happens_186 s0_40 flX7_103 rfl (by decide) ?_
        refine wp_int (hr2.2.2.2 (rdT_g c_179).1) ?_
        refine wp_iload_n (pc := 189) 1 dX7_happens_189 rfl rfl ?_
        refine wp_iconst (pc := 190) (2) dX7_happens_190 (by decide) ?_
        refine wp_icmp_ne (pc := 191) 198 dX7_happens_191 (by decide) (fun c_191 => ?_) (fun c_191 => ?_)
        · refine wp_iconst (pc := 198) (3) dX7_happens_198 (by decide) ?_
          refine wp_iload_n (pc := 199) 1 dX7_happens_199 rfl rfl ?_
          refine wp_iconst (pc := 200) (4) dX7_happens_200 (by decide) ?_
          refine wp_icmp_ne (pc := 201) 208 dX7_happens_201 (by decide) (fun c_201 => ?_) (fun c_201 => ?_)
          · refine wp_iconst (pc := 208) (0) dX7_happens_208 (by decide) ?_
            refine wc_V_III (pc := 209) dX7_happens_209 lkX7_77 (sm_Rc.o (ci := 6) s0_40 (by decide) (by decide)) (by decide) (Nat.le_of_ble_eq_true rfl) ?_
            refine c_X7_becomes (w := 3) (v := 0) hR (by omega) ?_
            refine wp_pop (pc := 212) dX7_happens_212 rfl ?_
            refine wp_iconst (pc := 213) (1) dX7_happens_213 (by decide) ?_
            refine wp_iret (pc := 214) dX7_happens_214 ⟨_, rfl, by decide⟩ ?_
            rw [stm_w hwd (show noRm f 3 = false from rfl), stN1_1 (show rdT sz tp (nxk sz tp (tks sz tp p)) (lmW f 3 0 0) = true from c_179) rfl] at k
            exact k _ _ (HP_t (hR.u (5 * (nmk sz tp (nxk sz tp (tks sz tp p))) + 3) 0) RF.rf.u (hk.tr hk2) hr2 ha1 hgt)
          · exact absurd c_201 (by decide)
        · exact absurd c_191 (by decide)
      · refine wp_iconst (pc := 182) (0) dX7_happens_182 (by decide) ?_
        refine wp_iret (pc := 183) dX7_happens_183 ⟨_, rfl, by decide⟩ ?_
        rw [stm_w hwd (show noRm f 3 = false from rfl), stN1_f (show rdT sz tp (nxk sz tp (tks sz tp p)) (lmW f 3 0 0) = false from c_179)] at k
        exact k _ _ (HP_f hR (hk.tr hk2) hr2)
    · refine wp_iload_n (pc := 11) 1 dX7_happens_11 rfl rfl ?_
      refine wp_tswI (pc := 12) 4 169 dX7_happens_12 (by decide) (by decide) rfl (by decide) ?_
      refine wp_aload_n (pc := 169) 0 dX7_happens_169 rfl rfl ?_
      refine wp_aload_n (pc := 170) 0 dX7_happens_170 rfl rfl ?_
      refine wc_V_ (pc := 171) dX7_happens_171 lkX7_57 (sm_Rc.o (ci := 6) s0_40 (by decide) (by decide)) (by decide) (Nat.le_of_ble_eq_true rfl) ?_
      refine c_X7_many hw hR ?_
      refine wp_iconst (pc := 174) (1) dX7_happens_174 (by decide) ?_
      refine wp_isub (pc := 175) dX7_happens_175 ?_
      refine wc_V_I (pc := 176) dX7_happens_176 lkX7_121 (sm_Rc.o (ci := 6) s0_40 (by decide) (by decide)) (by decide) (Nat.le_of_ble_eq_true rfl) ?_
      refine c_X7_reads (L := f 68) hPk (endk_le hqle).2.1 hr.1 (rdP (f 68) (by omega)) (fun F2 hr2 hk2 => ?_)
      refine wp_ifneB (pc := 179) 184 dX7_happens_179 (by decide) (fun c_179 => ?_) (fun c_179 => ?_)
      · have hvv := (rdT_g c_179).2
        refine wp_aload_n (pc := 184) 0 dX7_happens_184 rfl rfl ?_
        refine wp_aload_n (pc := 185) 0 dX7_happens_185 rfl rfl ?_
        refine wq_getI (pc := 186) 103 10 dX7_happens_186 s0_40 flX7_103 rfl (by decide) ?_
        refine wp_int (hr2.2.2.2 (rdT_g c_179).1) ?_
        refine wp_iload_n (pc := 189) 1 dX7_happens_189 rfl rfl ?_
        refine wp_iconst (pc := 190) (2) dX7_happens_190 (by decide) ?_
        refine wp_icmp_ne (pc := 191) 198 dX7_happens_191 (by decide) (fun c_191 => ?_) (fun c_191 => ?_)
        · refine wp_iconst (pc := 198) (3) dX7_happens_198 (by decide) ?_
          refine wp_iload_n (pc := 199) 1 dX7_happens_199 rfl rfl ?_
          refine wp_iconst (pc := 200) (4) dX7_happens_200 (by decide) ?_
          refine wp_icmp_ne (pc := 201) 208 dX7_happens_201 (by decide) (fun c_201 => ?_) (fun c_201 => ?_)
          · exact absurd (by decide) c_201
          · refine wp_iconst (pc := 204) (1) dX7_happens_204 (by decide) ?_
            refine wp_goto (pc := 205) 209 dX7_happens_205 (by decide) ?_
            refine wc_V_III (pc := 209) dX7_happens_209 lkX7_77 (sm_Rc.o (ci := 6) s0_40 (by decide) (by decide)) (by decide) (Nat.le_of_ble_eq_true rfl) ?_
            refine c_X7_becomes (w := 3) (v := 1) hR (by omega) ?_
            refine wp_pop (pc := 212) dX7_happens_212 rfl ?_
            refine wp_iconst (pc := 213) (1) dX7_happens_213 (by decide) ?_
            refine wp_iret (pc := 214) dX7_happens_214 ⟨_, rfl, by decide⟩ ?_
            rw [stm_w hwd (show noRm f 4 = false from rfl), stN1_1 (show rdT sz tp (nxk sz tp (tks sz tp p)) (lmW f 4 0 0) = true from c_179) rfl] at k
            exact k _ _ (HP_t (hR.u (5 * (nmk sz tp (nxk sz tp (tks sz tp p))) + 3) 1) RF.rf.u (hk.tr hk2) hr2 ha1 hgt)
        · exact absurd c_191 (by decide)
      · refine wp_iconst (pc := 182) (0) dX7_happens_182 (by decide) ?_
        refine wp_iret (pc := 183) dX7_happens_183 ⟨_, rfl, by decide⟩ ?_
        rw [stm_w hwd (show noRm f 4 = false from rfl), stN1_f (show rdT sz tp (nxk sz tp (tks sz tp p)) (lmW f 4 0 0) = false from c_179)] at k
        exact k _ _ (HP_f hR (hk.tr hk2) hr2)
    · refine wp_iload_n (pc := 11) 1 dX7_happens_11 rfl rfl ?_
      refine wp_tswI (pc := 12) 5 215 dX7_happens_12 (by decide) (by decide) rfl (by decide) ?_
      refine wp_aload_n (pc := 215) 0 dX7_happens_215 rfl rfl ?_
      refine wq_getR (pc := 216) 13 0 dX7_happens_216 s0_40 flX7_13 rfl rfl (by decide) (by decide) ?_
      refine wp_bipush (pc := 219) (69) dX7_happens_219 (by decide) ?_
      refine wq_iald (pc := 221) 69 dX7_happens_221 s0_41 (by decide) rfl (by decide) (by decide) ?_
      refine wp_int (hR.at (by decide)) ?_
      refine wp_bipush (pc := 222) (6) dX7_happens_222 (by decide) ?_
      refine wp_icmp_ge (pc := 224) 238 dX7_happens_224 (by decide) (fun c_224 => ?_) (fun c_224 => ?_)
      · refine wp_iconst (pc := 238) (0) dX7_happens_238 (by decide) ?_
        refine wp_iret (pc := 239) dX7_happens_239 ⟨_, rfl, by decide⟩ ?_
        rw [stm_r hwd (show noRm f 5 = true by simp [noRm, show 6 ≤ f 69 from Nat.le_of_not_lt fun z => nI_ge (b := 6) z (by decide) c_224])] at k
        exact k _ _ (HP_f hR hk hr)
      · have hrm : f 69 < 6 := Nat.lt_of_not_le fun z => c_224 (nI_le (a := 6) z (by omega))
        refine wp_aload_n (pc := 227) 0 dX7_happens_227 rfl rfl ?_
        refine wc_V_ (pc := 228) dX7_happens_228 lkX7_124 (sm_Rc.o (ci := 6) s0_40 (by decide) (by decide)) (by decide) (Nat.le_of_ble_eq_true rfl) ?_
        refine c_X7_readRinger hPk hw hR (endk_le hqle).2.1 hr.1 hrm (fun F2 I2 hH => ?_)
        refine wp_ifeqB (pc := 231) 238 dX7_happens_231 (by decide) (fun c_231 => ?_) (fun c_231 => ?_)
        · refine wp_iconst (pc := 238) (0) dX7_happens_238 (by decide) ?_
          refine wp_iret (pc := 239) dX7_happens_239 ⟨_, rfl, by decide⟩ ?_
          rw [stm_w hwd (show noRm f 5 = false by simp [noRm, hrm])] at k
          have k := k _ _ (hH.mo hk hgt)
          rw [show (stN1 sz tp f 5 (nxk sz tp (tks sz tp p))).1 = false from c_231] at k
          exact k
        · refine wp_iconst (pc := 234) (1) dX7_happens_234 (by decide) ?_
          refine wp_goto (pc := 235) 239 dX7_happens_235 (by decide) ?_
          refine wp_iret (pc := 239) dX7_happens_239 ⟨_, rfl, by decide⟩ ?_
          rw [stm_w hwd (show noRm f 5 = false by simp [noRm, hrm])] at k
          have k := k _ _ (hH.mo hk hgt)
          rw [show (stN1 sz tp f 5 (nxk sz tp (tks sz tp p))).1 = true from c_231] at k
          exact k
    · refine wp_iload_n (pc := 11) 1 dX7_happens_11 rfl rfl ?_
      refine wp_tswI (pc := 12) 6 240 dX7_happens_12 (by decide) (by decide) rfl (by decide) ?_
      refine wp_aload_n (pc := 240) 0 dX7_happens_240 rfl rfl ?_
      refine wp_iconst (pc := 241) (3) dX7_happens_241 (by decide) ?_
      refine wc_V_I (pc := 242) dX7_happens_242 lkX7_121 (sm_Rc.o (ci := 6) s0_40 (by decide) (by decide)) (by decide) (Nat.le_of_ble_eq_true rfl) ?_
      refine c_X7_reads (L := 4) hPk (endk_le hqle).2.1 hr.1 (rdL 3 (by decide)) (fun F2 hr2 hk2 => ?_)
      refine wp_ifneB (pc := 245) 250 dX7_happens_245 (by decide) (fun c_245 => ?_) (fun c_245 => ?_)
      · have hvv := (rdT_g c_245).2
        refine wp_aload_n (pc := 250) 0 dX7_happens_250 rfl rfl ?_
        refine wq_getR (pc := 251) 13 0 dX7_happens_251 s0_40 flX7_13 rfl rfl (by decide) (by decide) ?_
        refine wp_bipush (pc := 254) (70) dX7_happens_254 (by decide) ?_
        refine wp_aload_n (pc := 256) 0 dX7_happens_256 rfl rfl ?_
        refine wq_getI (pc := 257) 103 10 dX7_happens_257 s0_40 flX7_103 rfl (by decide) ?_
        refine wp_int (hr2.2.2.2 (rdT_g c_245).1) ?_
        refine wq_iast (pc := 260) 70 dX7_happens_260 s0_41 (by decide) rfl (by decide) (by decide) ?_
        refine wp_iconst (pc := 261) (1) dX7_happens_261 (by decide) ?_
        refine wp_iret (pc := 262) dX7_happens_262 ⟨_, rfl, by decide⟩ ?_
        rw [stm_w hwd (show noRm f 6 = false from rfl), stN1_1 (show rdT sz tp (nxk sz tp (tks sz tp p)) (lmW f 6 0 0) = true from c_245) rfl] at k
        exact k _ _ (HP_t (hR.u 70 (nmk sz tp (nxk sz tp (tks sz tp p)))) RF.rf.u (hk.tr hk2) hr2 ha1 hgt)
      · refine wp_iconst (pc := 248) (0) dX7_happens_248 (by decide) ?_
        refine wp_iret (pc := 249) dX7_happens_249 ⟨_, rfl, by decide⟩ ?_
        rw [stm_w hwd (show noRm f 6 = false from rfl), stN1_f (show rdT sz tp (nxk sz tp (tks sz tp p)) (lmW f 6 0 0) = false from c_245)] at k
        exact k _ _ (HP_f hR (hk.tr hk2) hr2)
    · refine wp_iload_n (pc := 11) 1 dX7_happens_11 rfl rfl ?_
      refine wp_tswI (pc := 12) 7 263 dX7_happens_12 (by decide) (by decide) rfl (by decide) ?_
      refine wp_aload_n (pc := 263) 0 dX7_happens_263 rfl rfl ?_
      refine wp_bipush (pc := 264) (7) dX7_happens_264 (by decide) ?_
      refine wc_V_I (pc := 266) dX7_happens_266 lkX7_121 (sm_Rc.o (ci := 6) s0_40 (by decide) (by decide)) (by decide) (Nat.le_of_ble_eq_true rfl) ?_
      refine c_X7_reads (L := 8) hPk (endk_le hqle).2.1 hr.1 (rdL 7 (by decide)) (fun F2 hr2 hk2 => ?_)
      refine wp_ifneB (pc := 269) 274 dX7_happens_269 (by decide) (fun c_269 => ?_) (fun c_269 => ?_)
      · have hvv := (rdT_g c_269).2
        refine wp_aload_n (pc := 274) 0 dX7_happens_274 rfl rfl ?_
        refine wq_getR (pc := 275) 13 0 dX7_happens_275 s0_40 flX7_13 rfl rfl (by decide) (by decide) ?_
        refine wp_bipush (pc := 278) (72) dX7_happens_278 (by decide) ?_
        refine wp_iload_n (pc := 280) 1 dX7_happens_280 rfl rfl ?_
        refine wp_bipush (pc := 281) (7) dX7_happens_281 (by decide) ?_
        refine wp_icmp_ne (pc := 283) 303 dX7_happens_283 (by decide) (fun c_283 => ?_) (fun c_283 => ?_)
        · exact absurd (by decide) c_283
        · refine wp_aload_n (pc := 286) 0 dX7_happens_286 rfl rfl ?_
          refine wq_getR (pc := 287) 13 0 dX7_happens_287 s0_40 flX7_13 rfl rfl (by decide) (by decide) ?_
          refine wp_bipush (pc := 290) (72) dX7_happens_290 (by decide) ?_
          refine wq_iald (pc := 292) 72 dX7_happens_292 s0_41 (by decide) rfl (by decide) (by decide) ?_
          refine wp_int (hR.at (by decide)) ?_
          refine wp_iconst (pc := 293) (1) dX7_happens_293 (by decide) ?_
          refine wp_aload_n (pc := 294) 0 dX7_happens_294 rfl rfl ?_
          refine wq_getI (pc := 295) 103 10 dX7_happens_295 s0_40 flX7_103 rfl (by decide) ?_
          refine wp_int (hr2.2.2.2 (rdT_g c_269).1) ?_
          refine wp_ishl (pc := 298) dX7_happens_298 ?_
          refine wp_int (bt_one (by omega)) ?_
          refine wp_ior (pc := 299) dX7_happens_299 ?_
          refine wp_int (bt_or _ _) ?_
          refine wp_goto (pc := 300) 319 dX7_happens_300 (by decide) ?_
          refine wq_iast (pc := 319) 72 dX7_happens_319 s0_41 (by decide) rfl (by decide) (by decide) ?_
          refine wp_iconst (pc := 320) (1) dX7_happens_320 (by decide) ?_
          refine wp_iret (pc := 321) dX7_happens_321 ⟨_, rfl, by decide⟩ ?_
          rw [stm_w hwd (show noRm f 7 = false from rfl), stN1_1 (show rdT sz tp (nxk sz tp (tks sz tp p)) (lmW f 7 0 0) = true from c_269) rfl] at k
          exact k _ _ (HP_t (hR.u 72 (f 72 ||| 2 ^ (nmk sz tp (nxk sz tp (tks sz tp p))))) RF.rf.u (hk.tr hk2) hr2 ha1 hgt)
      · refine wp_iconst (pc := 272) (0) dX7_happens_272 (by decide) ?_
        refine wp_iret (pc := 273) dX7_happens_273 ⟨_, rfl, by decide⟩ ?_
        rw [stm_w hwd (show noRm f 7 = false from rfl), stN1_f (show rdT sz tp (nxk sz tp (tks sz tp p)) (lmW f 7 0 0) = false from c_269)] at k
        exact k _ _ (HP_f hR (hk.tr hk2) hr2)
    · refine wp_iload_n (pc := 11) 1 dX7_happens_11 rfl rfl ?_
      refine wp_tswI (pc := 12) 8 263 dX7_happens_12 (by decide) (by decide) rfl (by decide) ?_
      refine wp_aload_n (pc := 263) 0 dX7_happens_263 rfl rfl ?_
      refine wp_bipush (pc := 264) (7) dX7_happens_264 (by decide) ?_
      refine wc_V_I (pc := 266) dX7_happens_266 lkX7_121 (sm_Rc.o (ci := 6) s0_40 (by decide) (by decide)) (by decide) (Nat.le_of_ble_eq_true rfl) ?_
      refine c_X7_reads (L := 8) hPk (endk_le hqle).2.1 hr.1 (rdL 7 (by decide)) (fun F2 hr2 hk2 => ?_)
      refine wp_ifneB (pc := 269) 274 dX7_happens_269 (by decide) (fun c_269 => ?_) (fun c_269 => ?_)
      · have hvv := (rdT_g c_269).2
        refine wp_aload_n (pc := 274) 0 dX7_happens_274 rfl rfl ?_
        refine wq_getR (pc := 275) 13 0 dX7_happens_275 s0_40 flX7_13 rfl rfl (by decide) (by decide) ?_
        refine wp_bipush (pc := 278) (72) dX7_happens_278 (by decide) ?_
        refine wp_iload_n (pc := 280) 1 dX7_happens_280 rfl rfl ?_
        refine wp_bipush (pc := 281) (7) dX7_happens_281 (by decide) ?_
        refine wp_icmp_ne (pc := 283) 303 dX7_happens_283 (by decide) (fun c_283 => ?_) (fun c_283 => ?_)
        · refine wp_aload_n (pc := 303) 0 dX7_happens_303 rfl rfl ?_
          refine wq_getR (pc := 304) 13 0 dX7_happens_304 s0_40 flX7_13 rfl rfl (by decide) (by decide) ?_
          refine wp_bipush (pc := 307) (72) dX7_happens_307 (by decide) ?_
          refine wq_iald (pc := 309) 72 dX7_happens_309 s0_41 (by decide) rfl (by decide) (by decide) ?_
          refine wp_int (hR.at (by decide)) ?_
          refine wp_iconst (pc := 310) (1) dX7_happens_310 (by decide) ?_
          refine wp_aload_n (pc := 311) 0 dX7_happens_311 rfl rfl ?_
          refine wq_getI (pc := 312) 103 10 dX7_happens_312 s0_40 flX7_103 rfl (by decide) ?_
          refine wp_int (hr2.2.2.2 (rdT_g c_269).1) ?_
          refine wp_ishl (pc := 315) dX7_happens_315 ?_
          refine wp_iconst (pc := 316) (-1) dX7_happens_316 (by decide) ?_
          refine wp_ixor (pc := 317) dX7_happens_317 ?_
          refine wp_iand (pc := 318) dX7_happens_318 ?_
          refine wp_int (bt_clr (by omega)) ?_
          refine wq_iast (pc := 319) 72 dX7_happens_319 s0_41 (by decide) rfl (by decide) (by decide) ?_
          refine wp_iconst (pc := 320) (1) dX7_happens_320 (by decide) ?_
          refine wp_iret (pc := 321) dX7_happens_321 ⟨_, rfl, by decide⟩ ?_
          rw [stm_w hwd (show noRm f 8 = false from rfl), stN1_1 (show rdT sz tp (nxk sz tp (tks sz tp p)) (lmW f 8 0 0) = true from c_269) rfl] at k
          exact k _ _ (HP_t (hR.u 72 (dif (f 72) (2 ^ (nmk sz tp (nxk sz tp (tks sz tp p)))))) RF.rf.u (hk.tr hk2) hr2 ha1 hgt)
        · exact absurd c_283 (by decide)
      · refine wp_iconst (pc := 272) (0) dX7_happens_272 (by decide) ?_
        refine wp_iret (pc := 273) dX7_happens_273 ⟨_, rfl, by decide⟩ ?_
        rw [stm_w hwd (show noRm f 8 = false from rfl), stN1_f (show rdT sz tp (nxk sz tp (tks sz tp p)) (lmW f 8 0 0) = false from c_269)] at k
        exact k _ _ (HP_f hR (hk.tr hk2) hr2)
    · refine wp_iload_n (pc := 11) 1 dX7_happens_11 rfl rfl ?_
      refine wp_tswI (pc := 12) 9 322 dX7_happens_12 (by decide) (by decide) rfl (by decide) ?_
      refine wp_aload_n (pc := 322) 0 dX7_happens_322 rfl rfl ?_
      refine wp_sipush (pc := 323) (999) dX7_happens_323 (by decide) ?_
      refine wc_V_I (pc := 326) dX7_happens_326 lkX7_121 (sm_Rc.o (ci := 6) s0_40 (by decide) (by decide)) (by decide) (Nat.le_of_ble_eq_true rfl) ?_
      refine c_X7_reads (L := 1000) hPk (endk_le hqle).2.1 hr.1 (rdL 999 (by decide)) (fun F2 hr2 hk2 => ?_)
      refine wp_ifneB (pc := 329) 334 dX7_happens_329 (by decide) (fun c_329 => ?_) (fun c_329 => ?_)
      · have hvv := (rdT_g c_329).2
        refine wp_aload_n (pc := 334) 0 dX7_happens_334 rfl rfl ?_
        refine wq_getR (pc := 335) 13 0 dX7_happens_335 s0_40 flX7_13 rfl rfl (by decide) (by decide) ?_
        refine wp_bipush (pc := 338) (71) dX7_happens_338 (by decide) ?_
        refine wp_aload_n (pc := 340) 0 dX7_happens_340 rfl rfl ?_
        refine wq_getI (pc := 341) 103 10 dX7_happens_341 s0_40 flX7_103 rfl (by decide) ?_
        refine wp_int (hr2.2.2.2 (rdT_g c_329).1) ?_
        refine wq_iast (pc := 344) 71 dX7_happens_344 s0_41 (by decide) rfl (by decide) (by decide) ?_
        refine wp_iconst (pc := 345) (1) dX7_happens_345 (by decide) ?_
        refine wp_iret (pc := 346) dX7_happens_346 ⟨_, rfl, by decide⟩ ?_
        rw [stm_w hwd (show noRm f 9 = false from rfl), stN1_1 (show rdT sz tp (nxk sz tp (tks sz tp p)) (lmW f 9 0 0) = true from c_329) rfl] at k
        exact k _ _ (HP_t (hR.u 71 (nmk sz tp (nxk sz tp (tks sz tp p)))) RF.rf.u (hk.tr hk2) hr2 ha1 hgt)
      · refine wp_iconst (pc := 332) (0) dX7_happens_332 (by decide) ?_
        refine wp_iret (pc := 333) dX7_happens_333 ⟨_, rfl, by decide⟩ ?_
        rw [stm_w hwd (show noRm f 9 = false from rfl), stN1_f (show rdT sz tp (nxk sz tp (tks sz tp p)) (lmW f 9 0 0) = false from c_329)] at k
        exact k _ _ (HP_f hR (hk.tr hk2) hr2)
