/-! ===== the reference: years ===== -/
def agU (f : rw_) (i : Nat) : rw_ := fun x => if x < 5 * i ∧ x % 5 = 4 then min 99 (f x + f (x - 1)) else f x
theorem agU_0 (f : rw_) : agU f 0 = f := by funext x; exact if_neg (by omega)
theorem agU_s (f : rw_) (i : Nat) : fu (agU f i) (5 * i + 4) (min 99 (f (5 * i + 4) + f (5 * i + 3))) = agU f (i + 1) := by
  funext x
  by_cases e : x = 5 * i + 4
  · subst e
    rw [fu_eq]
    unfold agU
    rw [if_pos ⟨by omega, by omega⟩]; rfl
  · rw [fu_ne e]
    unfold agU
    by_cases h : x < 5 * i ∧ x % 5 = 4
    · rw [if_pos h, if_pos ⟨by omega, h.2⟩]
    · rw [if_neg h, if_neg (by omega)]
theorem agU_ne (f : rw_) {i x : Nat} (h : 5 * i ≤ x ∨ ¬ x % 5 = 4) : agU f i x = f x := if_neg (by omega)
theorem agU_end {f : rw_} (hw : WF f) : agU f (f 68) = agF f := by
  have hn := hw.n
  funext x
  unfold agU agF
  by_cases h : x < 5 * f 68 ∧ x % 5 = 4
  · rw [if_pos h, if_pos ⟨by omega, h.2⟩]
  · rw [if_neg h]
    by_cases h2 : x < 50 ∧ x % 5 = 4
    · rw [if_pos h2]
      obtain ⟨i, rfl⟩ : ∃ i, x = 5 * i + 4 := ⟨x / 5, by omega⟩
      have h3 := hw.been_out (i := i) (by omega) (by omega)
      have h4 := hw.age (i := i) (by omega)
      rw [show 5 * i + 4 - 1 = 5 * i + 3 by omega, h3]
      omega
    · rw [if_neg h2]
theorem c_X7_many0 {d : Nat} {F I : Nat → Nat → Int32} {J : Nat → Nat → Int64} {Q : Option Value → sm_H → Prop} {f : rw_} (hR : Rw 41 f I)  (k : Q (some (.int (nI (f 68)))) (S0, F, I, J)) : Wp mX7_many (d) 0 0 0 (sm_ini [.ref 40] 1) [] (S0, F, I, J) Q := by
  show Wp _ _ _ _ _ [.ref 40] _ _ _
  refine wp_aload_n (pc := 0) 0 dX7_many_0 rfl rfl ?_
  refine wq_getR (pc := 1) 13 0 dX7_many_1 s0_40 flX7_13 rfl rfl (by decide) (by decide) ?_
  refine wp_bipush (pc := 4) (68) dX7_many_4 (by decide) ?_
  refine wq_iald (pc := 6) 68 dX7_many_6 s0_41 (by decide) rfl (by decide) (by decide) ?_
  refine wp_int (hR.at (by decide)) ?_
  refine wp_iretI (pc := 7) dX7_many_7 rfl ?_
  exact k
set_option maxHeartbeats 1000000 in
theorem c_X7_year {d : Nat} {F I : Nat → Nat → Int32} {J : Nat → Nat → Int64} {Q : Option Value → sm_H → Prop} {f : rw_} (hw : WF f) (hR : Rw 41 f I) (h0 : 0 < f 68) (k : ∀ I1 : Nat → Nat → Int32, Rw 41 ((yr f).2) I1 → RF I I1 → Q (some (.int (nI (yr f).1))) (S0, F, I1, J)) : Wp mX7_year (d + 4) 0 0 0 (sm_ini [.ref 40] 6) [] (S0, F, I, J) Q := by
  show Wp _ _ _ _ _ [.ref 40, .null, .null, .null, .null, .null] _ _ _
  have hn := hw.n
  have hyr := hw.year
  refine wp_aload_n (pc := 0) 0 dX7_year_0 rfl rfl ?_
  refine wq_getR (pc := 1) 13 0 dX7_year_1 s0_40 flX7_13 rfl rfl (by decide) (by decide) ?_
  refine wp_bipush (pc := 4) (71) dX7_year_4 (by decide) ?_
  refine wp_sipush (pc := 6) (999) dX7_year_6 (by decide) ?_
  refine wp_aload_n (pc := 9) 0 dX7_year_9 rfl rfl ?_
  refine wq_getR (pc := 10) 13 0 dX7_year_10 s0_40 flX7_13 rfl rfl (by decide) (by decide) ?_
  refine wp_bipush (pc := 13) (71) dX7_year_13 (by decide) ?_
  refine wq_iald (pc := 15) 71 dX7_year_15 s0_41 (by decide) rfl (by decide) (by decide) ?_
  refine wp_int (hR.at (by decide)) ?_
  refine wp_iconst (pc := 16) (1) dX7_year_16 (by decide) ?_
  refine wp_iadd (pc := 17) dX7_year_17 ?_
  refine wp_int (nI_1 _) ?_
  refine wc_S_II (pc := 18) dX7_year_18 lkX7_141 (by decide) (Nat.le_of_ble_eq_true rfl) ?_
  refine c_J9_min_7cf53 ?_
  refine wp_int (y := nI (min 999 (f 71 + 1))) (min_nI (a := 999) (by decide) (by omega)) ?_
  refine wq_iast (pc := 21) 71 dX7_year_21 s0_41 (by decide) rfl (by decide) (by decide) ?_
  refine wp_iconst (pc := 22) (0) dX7_year_22 (by decide) ?_
  refine wp_istore_n (pc := 23) 1 dX7_year_23 rfl (by decide) rfl ?_
  have hwA : WF (fu f 71 (min 999 (f 71 + 1))) := WF_far hw (by decide) ⟨by omega, fun _ => Nat.min_le_left _ _, by omega, by omega⟩
  have hR2 : Rw 41 (fu f 71 (min 999 (f 71 + 1))) (sm_up I 41 71 (nI (min 999 (f 71 + 1)))) := hR.u 71 (min 999 (f 71 + 1))
  rw [← agU_0 (fu f 71 (min 999 (f 71 + 1)))] at hR2
  refine wp_loopS (σ := Nat → Nat → Int32) (fun i _ => [.ref 40, .int (nI i), .null, .null, .null, .null]) (fun _ I1 => (S0, F, I1, J)) (fun i I1 => Rw 41 (agU (fu f 71 (min 999 (f 71 + 1))) i) I1 ∧ RF I I1) (f 68) (fun i I1 hi hs nx => ?_) (fun I1 hs => ?_) 0 _ (Nat.zero_le _) ⟨hR2, RF.rf.u⟩
  · obtain ⟨hR3, hf3⟩ := hs
    have hag := hwA.age (i := i) (by omega)
    have hbn3 := hwA.been (i := i) (by omega)
    refine wp_iload_n (pc := 24) 1 dX7_year_24 rfl rfl ?_
    refine wp_aload_n (pc := 25) 0 dX7_year_25 rfl rfl ?_
    refine wc_V_ (pc := 26) dX7_year_26 lkX7_57 (sm_Rc.o (ci := 6) s0_40 (by decide) (by decide)) (by decide) (Nat.le_of_ble_eq_true rfl) ?_
    refine c_X7_many0 hR3 ?_
    refine wp_int (y := nI (f 68)) (by rw [agU_ne _ (by omega), fu_ne (by decide)]) ?_
    refine wp_icmp_ge (pc := 29) 63 dX7_year_29 (by decide) (fun c_29 => ?_) (fun c_29 => ?_)
    · exact absurd c_29 (nI_ge (b := f 68) hi (by omega))
    · refine wp_aload_n (pc := 32) 0 dX7_year_32 rfl rfl ?_
      refine wp_iload_n (pc := 33) 1 dX7_year_33 rfl rfl ?_
      refine wp_iconst (pc := 34) (4) dX7_year_34 (by decide) ?_
      refine wp_bipush (pc := 35) (99) dX7_year_35 (by decide) ?_
      refine wp_aload_n (pc := 37) 0 dX7_year_37 rfl rfl ?_
      refine wp_iload_n (pc := 38) 1 dX7_year_38 rfl rfl ?_
      refine wp_iconst (pc := 39) (4) dX7_year_39 (by decide) ?_
      refine wc_V_II (pc := 40) dX7_year_40 lkX7_53 (sm_Rc.o (ci := 6) s0_40 (by decide) (by decide)) (by decide) (Nat.le_of_ble_eq_true rfl) ?_
      refine c_X7_of0 (w := 4) hR3 (by omega) ?_
      refine wp_int (y := nI ((fu f 71 (min 999 (f 71 + 1))) (5 * i + 4))) (by rw [agU_ne _ (by omega)]) ?_
      refine wp_aload_n (pc := 43) 0 dX7_year_43 rfl rfl ?_
      refine wp_iload_n (pc := 44) 1 dX7_year_44 rfl rfl ?_
      refine wp_iconst (pc := 45) (3) dX7_year_45 (by decide) ?_
      refine wc_V_II (pc := 46) dX7_year_46 lkX7_53 (sm_Rc.o (ci := 6) s0_40 (by decide) (by decide)) (by decide) (Nat.le_of_ble_eq_true rfl) ?_
      refine c_X7_of0 (w := 3) hR3 (by omega) ?_
      refine wp_int (y := nI ((fu f 71 (min 999 (f 71 + 1))) (5 * i + 3))) (by rw [agU_ne _ (by omega)]) ?_
      refine wp_iadd (pc := 49) dX7_year_49 ?_
      refine wp_int (nI_add _ _) ?_
      refine wc_S_II (pc := 50) dX7_year_50 lkX7_141 (by decide) (Nat.le_of_ble_eq_true rfl) ?_
      refine c_J9_min_7cf53 ?_
      refine wp_int (y := nI (min 99 ((fu f 71 (min 999 (f 71 + 1))) (5 * i + 4) + (fu f 71 (min 999 (f 71 + 1))) (5 * i + 3)))) (min_nI (a := 99) (by decide) (by omega)) ?_
      refine wc_V_III (pc := 53) dX7_year_53 lkX7_77 (sm_Rc.o (ci := 6) s0_40 (by decide) (by decide)) (by decide) (Nat.le_of_ble_eq_true rfl) ?_
      refine c_X7_becomes (w := 4) hR3 (by omega) ?_
      have hR4 := hR3.u (5 * i + 4) (min 99 ((fu f 71 (min 999 (f 71 + 1))) (5 * i + 4) + (fu f 71 (min 999 (f 71 + 1))) (5 * i + 3)))
      refine wp_pop (pc := 56) dX7_year_56 rfl ?_
      refine wp_incN (pc := 57) 1 dX7_year_57 rfl (by decide) rfl ?_
      refine wp_goto (pc := 60) 24 dX7_year_60 (by decide) ?_
      rw [agU_s] at hR4
      exact nx _ ⟨hR4, hf3.u⟩
  · obtain ⟨hR3, hf3⟩ := hs
    rw [show f 68 = (fu f 71 (min 999 (f 71 + 1))) 68 by rw [fu_ne (by decide)], agU_end hwA] at hR3
    have hR3 : Rw 41 (yrA f) I1 := hR3
    have h68 : yrB f 68 = f 68 := yrB_68 f
    have h69 : yrB f 69 = f 69 := rfl
    have hwB := WF_yrB hw
    have hwC := WF_yrC hw h0
    have hw6 := WF_seed hwB (sd_lt (yrB f 73))
    have hw7 := WF_seed hwB (sd_lt (sd (yrB f 73)))
    have hw8 := WF_seed hwB (sd_lt (sd (sd (yrB f 73))))
    have hth := dr_lt (s := yrB f 73) h0
    have hcr := hw.c
    refine wp_iload_n (pc := 24) 1 dX7_year_24 rfl rfl ?_
    refine wp_aload_n (pc := 25) 0 dX7_year_25 rfl rfl ?_
    refine wc_V_ (pc := 26) dX7_year_26 lkX7_57 (sm_Rc.o (ci := 6) s0_40 (by decide) (by decide)) (by decide) (Nat.le_of_ble_eq_true rfl) ?_
    refine c_X7_many0 hR3 ?_
    refine wp_int (y := nI (f 68)) rfl ?_
    refine wp_icmp_ge (pc := 29) 63 dX7_year_29 (by decide) (fun c_29 => ?_) (fun c_29 => ?_)
    · refine wp_aload_n (pc := 63) 0 dX7_year_63 rfl rfl ?_
      refine wq_getR (pc := 64) 13 0 dX7_year_64 s0_40 flX7_13 rfl rfl (by decide) (by decide) ?_
      refine wp_bipush (pc := 67) (70) dX7_year_67 (by decide) ?_
      refine wp_aload_n (pc := 69) 0 dX7_year_69 rfl rfl ?_
      refine wp_iconst (pc := 70) (4) dX7_year_70 (by decide) ?_
      refine wc_V_I (pc := 71) dX7_year_71 lkX7_218 (sm_Rc.o (ci := 6) s0_40 (by decide) (by decide)) (by decide) (Nat.le_of_ble_eq_true rfl) ?_
      refine c_X7_draw (f := yrA f) (WF_yrA hw) hR3 (n := 4) (by decide) (by decide) (fun I4 hR4 hf4 => ?_)
      have hf4 := hf3.tr hf4
      refine wq_iast (pc := 74) 70 dX7_year_74 s0_41 (by decide) rfl (by decide) (by decide) ?_
      have hR5 : Rw 41 (yrB f) (sm_up I4 41 70 (nI (dr (yrA f 73) 4))) := hR4.u 70 (dr (yrA f 73) 4)
      have hf5 := hf4.u (j := 70) (v := nI (dr (yrA f 73) 4))
      refine wp_aload_n (pc := 75) 0 dX7_year_75 rfl rfl ?_
      refine wp_aload_n (pc := 76) 0 dX7_year_76 rfl rfl ?_
      refine wc_V_ (pc := 77) dX7_year_77 lkX7_57 (sm_Rc.o (ci := 6) s0_40 (by decide) (by decide)) (by decide) (Nat.le_of_ble_eq_true rfl) ?_
      refine c_X7_many0 hR5 ?_
      refine wp_int (y := nI (f 68)) rfl ?_
      refine wc_V_I (pc := 80) dX7_year_80 lkX7_218 (sm_Rc.o (ci := 6) s0_40 (by decide) (by decide)) (by decide) (Nat.le_of_ble_eq_true rfl) ?_
      refine c_X7_draw hwB hR5 h0 (by omega) (fun I6 hR6 hf6 => ?_)
      have hf6 := hf5.tr hf6
      refine wp_istore_n (pc := 83) 1 dX7_year_83 rfl (by decide) rfl ?_
      refine wp_iconst (pc := 84) (0) dX7_year_84 (by decide) ?_
      refine wp_istore_n (pc := 85) 2 dX7_year_85 rfl (by decide) rfl ?_
      refine wp_aload_n (pc := 86) 0 dX7_year_86 rfl rfl ?_
      refine wq_getR (pc := 87) 13 0 dX7_year_87 s0_40 flX7_13 rfl rfl (by decide) (by decide) ?_
      refine wp_bipush (pc := 90) (69) dX7_year_90 (by decide) ?_
      refine wq_iald (pc := 92) 69 dX7_year_92 s0_41 (by decide) rfl (by decide) (by decide) ?_
      refine wp_int (y := nI (f 69)) ((hR6.at (by decide)).trans rfl) ?_
      refine wp_ifle (pc := 93) 128 dX7_year_93 (by decide) (fun c_93 => ?_) (fun c_93 => ?_)
      · have hc0 : yrB f 69 = 0 := by
          rw [h69]
          rcases Nat.eq_zero_or_pos (f 69) with h | h
          · exact h
          · exact absurd c_93 (nI_nle h (by omega))
        refine wp_iload_n (pc := 128) 2 dX7_year_128 rfl rfl ?_
        refine wp_ifeq (pc := 129) 143 dX7_year_129 (by decide) (fun c_129 => ?_) (fun c_129 => ?_)
        · refine wp_iload_n (pc := 143) 1 dX7_year_143 rfl rfl ?_
          refine wp_istore_n (pc := 144) 3 dX7_year_144 rfl (by decide) rfl ?_
          refine wp_aload_n (pc := 145) 0 dX7_year_145 rfl rfl ?_
          refine wp_iload_n (pc := 146) 3 dX7_year_146 rfl rfl ?_
          refine wc_V_I (pc := 147) dX7_year_147 lkX7_138 (sm_Rc.o (ci := 6) s0_40 (by decide) (by decide)) (by decide) (Nat.le_of_ble_eq_true rfl) ?_
          obtain ⟨wh, hwh⟩ : ∃ w, w = (dr (yrB f 73) (f 68)) := ⟨_, rfl⟩
          have hwl : wh < f 68 := by rw [hwh]; exact hth
          refine c_X7_may (i := (dr (yrB f 73) (f 68))) hw6 hR6 (by rw [fu_ne (by decide), h68]; exact hth) ?_
          rw [← hwh]
          refine wp_ifne (pc := 150) 157 dX7_year_150 (by decide) (fun c_150 => ?_) (fun c_150 => ?_)
          · have hrb := rbd_1 (show sdc (yrB f) = sd (yrB f 73) by unfold sdc; rw [if_pos hc0]) (show whc (yrB f) = wh by rw [hwh]; unfold whc; rw [if_pos hc0, h68]) (fun z => c_150 (by rw [z]; rfl))
            have hyc : yrC f = rgT (fu (yrB f) 73 (sd (yrB f 73))) wh := by unfold yrC; rw [hrb]
            have hy1 : (rbd (yrB f)).1 = 1 := by rw [hrb]
            refine wp_iconst (pc := 157) (1) dX7_year_157 (by decide) ?_
            refine wp_istore (pc := 158) 4 dX7_year_158 (by decide) rfl ?_
            refine wp_iload (pc := 160) 4 dX7_year_160 rfl ?_
            refine wp_iconst (pc := 162) (1) dX7_year_162 (by decide) ?_
            refine wp_icmp_ne (pc := 163) 171 dX7_year_163 (by decide) (fun c_163 => ?_) (fun c_163 => ?_)
            · exact absurd (by decide) c_163
            · refine wp_aload_n (pc := 166) 0 dX7_year_166 rfl rfl ?_
              refine wp_iload_n (pc := 167) 3 dX7_year_167 rfl rfl ?_
              refine wc_V_I (pc := 168) dX7_year_168 lkX7_207 (sm_Rc.o (ci := 6) s0_40 (by decide) (by decide)) (by decide) (Nat.le_of_ble_eq_true rfl) ?_
              refine c_X7_rings (i := wh) hw6 hR6 (by rw [fu_ne (by decide), h68]; exact hwl) (fun I9 hR9 hf9 => ?_)
              rw [← hyc] at hR9
              have hf9 := hf6.tr hf9
              refine wp_aload_n (pc := 171) 0 dX7_year_171 rfl rfl ?_
              refine wp_bipush (pc := 172) (8) dX7_year_172 (by decide) ?_
              refine wc_V_I (pc := 174) dX7_year_174 lkX7_218 (sm_Rc.o (ci := 6) s0_40 (by decide) (by decide)) (by decide) (Nat.le_of_ble_eq_true rfl) ?_
              refine c_X7_draw hwC hR9 (n := 8) (by decide) (by decide) (fun I10 hR10 hf10 => ?_)
              have hf10 := hf9.tr hf10
              have h72 := WF_yrC hw h0
              have hd8 : dr (yrC f 73) 8 < 8 := dr_lt (by decide)
              refine wp_istore (pc := 177) 5 dX7_year_177 (by decide) rfl ?_
              refine wp_aload_n (pc := 179) 0 dX7_year_179 rfl rfl ?_
              refine wq_getR (pc := 180) 13 0 dX7_year_180 s0_40 flX7_13 rfl rfl (by decide) (by decide) ?_
              refine wp_bipush (pc := 183) (72) dX7_year_183 (by decide) ?_
              refine wp_dup2 (pc := 185) dX7_year_185 rfl rfl ?_
              refine wq_iald (pc := 186) 72 dX7_year_186 s0_41 (by decide) rfl (by decide) (by decide) ?_
              refine wp_int (y := nI (yrC f 72)) ((hR10.at (by decide)).trans (by rw [fu_ne (by decide)])) ?_
              refine wp_aload_n (pc := 187) 0 dX7_year_187 rfl rfl ?_
              refine wp_bipush (pc := 188) (10) dX7_year_188 (by decide) ?_
              refine wc_V_I (pc := 190) dX7_year_190 lkX7_218 (sm_Rc.o (ci := 6) s0_40 (by decide) (by decide)) (by decide) (Nat.le_of_ble_eq_true rfl) ?_
              refine c_X7_draw (WF_seed hwC (sd_lt _)) hR10 (n := 10) (by decide) (by decide) (fun I11 hR11 hf11 => ?_)
              have hf11 := hf10.tr hf11
              rw [fu_fu] at hR11
              have hck := hwC.crk
              have hd10 : dr (sd (yrC f 73)) 10 < 10 := dr_lt (by decide)
              refine wp_int (y := nI (dr (sd (yrC f 73)) 10)) (by rw [fu_eq]) ?_
              refine wp_ifne (pc := 193) 203 dX7_year_193 (by decide) (fun c_193 => ?_) (fun c_193 => ?_)
              · refine wp_iconst (pc := 203) (0) dX7_year_203 (by decide) ?_
                refine wp_ior (pc := 204) dX7_year_204 ?_
                refine wp_int (or0 _) ?_
                refine wq_iast (pc := 205) 72 dX7_year_205 s0_41 (by decide) rfl (by decide) (by decide) ?_
                refine wp_iload (pc := 206) 4 dX7_year_206 rfl ?_
                refine wp_iretI (pc := 208) dX7_year_208 rfl ?_
                have hz : ¬ dr (sd (yrC f 73)) 10 = 0 := fun z => c_193 (by rw [z]; rfl)
                have hy : yr f = ((rbd (yrB f)).1, yrD f) := by unfold yr; rw [if_neg hz]
                rw [hy, hy1] at k
                rw [fu_eq] at hR11
                have hR12 := hR11.u 72 (yrC f 72)
                rw [fu_id (f := fu (yrC f) 73 (sd (sd (yrC f 73)))) (show yrC f 72 = _ by rw [fu_ne (by decide)])] at hR12
                exact k _ hR12 hf11.u
              · refine wp_iconst (pc := 196) (1) dX7_year_196 (by decide) ?_
                refine wp_iload (pc := 197) 5 dX7_year_197 rfl ?_
                refine wp_ishl (pc := 199) dX7_year_199 ?_
                refine wp_goto (pc := 200) 204 dX7_year_200 (by decide) ?_
                refine wp_int (bt_one (by omega)) ?_
                refine wp_ior (pc := 204) dX7_year_204 ?_
                refine wp_int (bt_or _ _) ?_
                refine wq_iast (pc := 205) 72 dX7_year_205 s0_41 (by decide) rfl (by decide) (by decide) ?_
                refine wp_iload (pc := 206) 4 dX7_year_206 rfl ?_
                refine wp_iretI (pc := 208) dX7_year_208 rfl ?_
                have hz : dr (sd (yrC f 73)) 10 = 0 := (nI0 (by omega)).mp c_193
                have hy : yr f = ((rbd (yrB f)).1, fu (yrD f) 72 (yrD f 72 ||| 2 ^ dr (yrC f 73) 8)) := by unfold yr; rw [if_pos hz]
                rw [hy, hy1] at k
                rw [fu_eq] at hR11
                have hR12 := hR11.u 72 (yrC f 72 ||| 2 ^ dr (yrC f 73) 8)
                exact k _ hR12 hf11.u
          · have hrb := rbd_0 (show sdc (yrB f) = sd (yrB f 73) by unfold sdc; rw [if_pos hc0]) (show whc (yrB f) = wh by rw [hwh]; unfold whc; rw [if_pos hc0, h68]) ((nI0 (Nat.lt_of_le_of_lt (may_le _ _) (by decide))).mp c_150)
            have hyc : yrC f = fu (yrB f) 73 (sd (yrB f 73)) := by unfold yrC; rw [hrb]
            have hy1 : (rbd (yrB f)).1 = 0 := by rw [hrb]
            refine wp_iconst (pc := 153) (0) dX7_year_153 (by decide) ?_
            refine wp_goto (pc := 154) 158 dX7_year_154 (by decide) ?_
            refine wp_istore (pc := 158) 4 dX7_year_158 (by decide) rfl ?_
            refine wp_iload (pc := 160) 4 dX7_year_160 rfl ?_
            refine wp_iconst (pc := 162) (1) dX7_year_162 (by decide) ?_
            refine wp_icmp_ne (pc := 163) 171 dX7_year_163 (by decide) (fun c_163 => ?_) (fun c_163 => ?_)
            · refine wp_aload_n (pc := 171) 0 dX7_year_171 rfl rfl ?_
              refine wp_bipush (pc := 172) (8) dX7_year_172 (by decide) ?_
              refine wc_V_I (pc := 174) dX7_year_174 lkX7_218 (sm_Rc.o (ci := 6) s0_40 (by decide) (by decide)) (by decide) (Nat.le_of_ble_eq_true rfl) ?_
              have hR9 := hR6
              rw [← hyc] at hR9
              have hf9 := hf6
              refine c_X7_draw hwC hR9 (n := 8) (by decide) (by decide) (fun I10 hR10 hf10 => ?_)
              have hf10 := hf9.tr hf10
              have h72 := WF_yrC hw h0
              have hd8 : dr (yrC f 73) 8 < 8 := dr_lt (by decide)
              refine wp_istore (pc := 177) 5 dX7_year_177 (by decide) rfl ?_
              refine wp_aload_n (pc := 179) 0 dX7_year_179 rfl rfl ?_
              refine wq_getR (pc := 180) 13 0 dX7_year_180 s0_40 flX7_13 rfl rfl (by decide) (by decide) ?_
              refine wp_bipush (pc := 183) (72) dX7_year_183 (by decide) ?_
              refine wp_dup2 (pc := 185) dX7_year_185 rfl rfl ?_
              refine wq_iald (pc := 186) 72 dX7_year_186 s0_41 (by decide) rfl (by decide) (by decide) ?_
              refine wp_int (y := nI (yrC f 72)) ((hR10.at (by decide)).trans (by rw [fu_ne (by decide)])) ?_
              refine wp_aload_n (pc := 187) 0 dX7_year_187 rfl rfl ?_
              refine wp_bipush (pc := 188) (10) dX7_year_188 (by decide) ?_
              refine wc_V_I (pc := 190) dX7_year_190 lkX7_218 (sm_Rc.o (ci := 6) s0_40 (by decide) (by decide)) (by decide) (Nat.le_of_ble_eq_true rfl) ?_
              refine c_X7_draw (WF_seed hwC (sd_lt _)) hR10 (n := 10) (by decide) (by decide) (fun I11 hR11 hf11 => ?_)
              have hf11 := hf10.tr hf11
              rw [fu_fu] at hR11
              have hck := hwC.crk
              have hd10 : dr (sd (yrC f 73)) 10 < 10 := dr_lt (by decide)
              refine wp_int (y := nI (dr (sd (yrC f 73)) 10)) (by rw [fu_eq]) ?_
              refine wp_ifne (pc := 193) 203 dX7_year_193 (by decide) (fun c_193 => ?_) (fun c_193 => ?_)
              · refine wp_iconst (pc := 203) (0) dX7_year_203 (by decide) ?_
                refine wp_ior (pc := 204) dX7_year_204 ?_
                refine wp_int (or0 _) ?_
                refine wq_iast (pc := 205) 72 dX7_year_205 s0_41 (by decide) rfl (by decide) (by decide) ?_
                refine wp_iload (pc := 206) 4 dX7_year_206 rfl ?_
                refine wp_iretI (pc := 208) dX7_year_208 rfl ?_
                have hz : ¬ dr (sd (yrC f 73)) 10 = 0 := fun z => c_193 (by rw [z]; rfl)
                have hy : yr f = ((rbd (yrB f)).1, yrD f) := by unfold yr; rw [if_neg hz]
                rw [hy, hy1] at k
                rw [fu_eq] at hR11
                have hR12 := hR11.u 72 (yrC f 72)
                rw [fu_id (f := fu (yrC f) 73 (sd (sd (yrC f 73)))) (show yrC f 72 = _ by rw [fu_ne (by decide)])] at hR12
                exact k _ hR12 hf11.u
              · refine wp_iconst (pc := 196) (1) dX7_year_196 (by decide) ?_
                refine wp_iload (pc := 197) 5 dX7_year_197 rfl ?_
                refine wp_ishl (pc := 199) dX7_year_199 ?_
                refine wp_goto (pc := 200) 204 dX7_year_200 (by decide) ?_
                refine wp_int (bt_one (by omega)) ?_
                refine wp_ior (pc := 204) dX7_year_204 ?_
                refine wp_int (bt_or _ _) ?_
                refine wq_iast (pc := 205) 72 dX7_year_205 s0_41 (by decide) rfl (by decide) (by decide) ?_
                refine wp_iload (pc := 206) 4 dX7_year_206 rfl ?_
                refine wp_iretI (pc := 208) dX7_year_208 rfl ?_
                have hz : dr (sd (yrC f 73)) 10 = 0 := (nI0 (by omega)).mp c_193
                have hy : yr f = ((rbd (yrB f)).1, fu (yrD f) 72 (yrD f 72 ||| 2 ^ dr (yrC f 73) 8)) := by unfold yr; rw [if_pos hz]
                rw [hy, hy1] at k
                rw [fu_eq] at hR11
                have hR12 := hR11.u 72 (yrC f 72 ||| 2 ^ dr (yrC f 73) 8)
                exact k _ hR12 hf11.u
            · exact absurd c_163 (by decide)
        · exact absurd (by decide) c_129
      · have hc0 : ¬ yrB f 69 = 0 := fun z => c_93 (by rw [h69] at z; rw [z]; decide)
        refine wp_aload_n (pc := 96) 0 dX7_year_96 rfl rfl ?_
        refine wp_aload_n (pc := 97) 0 dX7_year_97 rfl rfl ?_
        refine wq_getR (pc := 98) 13 0 dX7_year_98 s0_40 flX7_13 rfl rfl (by decide) (by decide) ?_
        refine wp_bipush (pc := 101) (69) dX7_year_101 (by decide) ?_
        refine wq_iald (pc := 103) 69 dX7_year_103 s0_41 (by decide) rfl (by decide) (by decide) ?_
        refine wp_int (y := nI (f 69)) ((hR6.at (by decide)).trans rfl) ?_
        refine wc_V_I (pc := 104) dX7_year_104 lkX7_218 (sm_Rc.o (ci := 6) s0_40 (by decide) (by decide)) (by decide) (Nat.le_of_ble_eq_true rfl) ?_
        refine c_X7_draw hw6 hR6 (n := f 69) (by rw [h69] at hc0; omega) (by omega) (fun I7 hR7 hf7 => ?_)
        have hf7 := hf6.tr hf7
        rw [fu_fu, fu_eq] at hR7
        refine wp_int (y := nI (dr (sd (yrB f 73)) (f 69))) (by rw [fu_eq]) ?_
        have hrr : dr (sd (yrB f 73)) (f 69) < f 69 := dr_lt (by rw [h69] at hc0; omega)
        refine wp_istore_n (pc := 107) 3 dX7_year_107 rfl (by decide) rfl ?_
        refine wp_aload_n (pc := 108) 0 dX7_year_108 rfl rfl ?_
        refine wp_bipush (pc := 109) (100) dX7_year_109 (by decide) ?_
        refine wc_V_I (pc := 111) dX7_year_111 lkX7_218 (sm_Rc.o (ci := 6) s0_40 (by decide) (by decide)) (by decide) (Nat.le_of_ble_eq_true rfl) ?_
        refine c_X7_draw hw7 hR7 (n := 100) (by decide) (by decide) (fun I8 hR8 hf8 => ?_)
        have hf8 := hf7.tr hf8
        rw [fu_fu, fu_eq] at hR8
        refine wp_int (y := nI (dr (sd (sd (yrB f 73))) 100)) (by rw [fu_eq]) ?_
        refine wp_aload_n (pc := 114) 0 dX7_year_114 rfl rfl ?_
        refine wp_iload_n (pc := 115) 3 dX7_year_115 rfl rfl ?_
        refine wc_V_I (pc := 116) dX7_year_116 lkX7_158 (sm_Rc.o (ci := 6) s0_40 (by decide) (by decide)) (by decide) (Nat.le_of_ble_eq_true rfl) ?_
        refine c_X7_slip (r := dr (sd (yrB f 73)) (f 69)) hw8 hR8 (by omega) ?_
        refine wp_int (y := nI (slp (yrB f) (dr (sd (yrB f 73)) (yrB f 69)))) (by rw [slp_seed _ _ _ (by omega), h69]) ?_
        have hsle := slp_le hwB (r := dr (sd (yrB f 73)) (yrB f 69)) (by rw [h69]; omega)
        have hdl : dr (sd (sd (yrB f 73))) 100 < 100 := dr_lt (by decide)
        refine wp_icmp_ge (pc := 119) 126 dX7_year_119 (by decide) (fun c_119 => ?_) (fun c_119 => ?_)
        · have hsl : ¬ dr (sd (sd (yrB f 73))) 100 < slp (yrB f) (dr (sd (yrB f 73)) (yrB f 69)) := fun z => nI_ge z (by omega) c_119
          refine wp_iconst (pc := 126) (0) dX7_year_126 (by decide) ?_
          refine wp_istore_n (pc := 127) 2 dX7_year_127 rfl (by decide) rfl ?_
          refine wp_iload_n (pc := 128) 2 dX7_year_128 rfl rfl ?_
          refine wp_ifeq (pc := 129) 143 dX7_year_129 (by decide) (fun c_129 => ?_) (fun c_129 => ?_)
          · refine wp_iload_n (pc := 143) 1 dX7_year_143 rfl rfl ?_
            refine wp_istore_n (pc := 144) 3 dX7_year_144 rfl (by decide) rfl ?_
            refine wp_aload_n (pc := 145) 0 dX7_year_145 rfl rfl ?_
            refine wp_iload_n (pc := 146) 3 dX7_year_146 rfl rfl ?_
            refine wc_V_I (pc := 147) dX7_year_147 lkX7_138 (sm_Rc.o (ci := 6) s0_40 (by decide) (by decide)) (by decide) (Nat.le_of_ble_eq_true rfl) ?_
            obtain ⟨wh, hwh⟩ : ∃ w, w = (dr (yrB f 73) (f 68)) := ⟨_, rfl⟩
            have hwl : wh < f 68 := by rw [hwh]; exact hth
            refine c_X7_may (i := (dr (yrB f 73) (f 68))) hw8 hR8 (by rw [fu_ne (by decide), h68]; exact hth) ?_
            rw [← hwh]
            refine wp_ifne (pc := 150) 157 dX7_year_150 (by decide) (fun c_150 => ?_) (fun c_150 => ?_)
            · have hrb := rbd_1 (show sdc (yrB f) = sd (sd (sd (yrB f 73))) by unfold sdc; rw [if_neg hc0]) (show whc (yrB f) = wh by rw [hwh]; unfold whc; rw [if_neg hc0, if_neg hsl, h68]) (fun z => c_150 (by rw [z]; rfl))
              have hyc : yrC f = rgT (fu (yrB f) 73 (sd (sd (sd (yrB f 73))))) wh := by unfold yrC; rw [hrb]
              have hy1 : (rbd (yrB f)).1 = 1 := by rw [hrb]
              refine wp_iconst (pc := 157) (1) dX7_year_157 (by decide) ?_
              refine wp_istore (pc := 158) 4 dX7_year_158 (by decide) rfl ?_
              refine wp_iload (pc := 160) 4 dX7_year_160 rfl ?_
              refine wp_iconst (pc := 162) (1) dX7_year_162 (by decide) ?_
              refine wp_icmp_ne (pc := 163) 171 dX7_year_163 (by decide) (fun c_163 => ?_) (fun c_163 => ?_)
              · exact absurd (by decide) c_163
              · refine wp_aload_n (pc := 166) 0 dX7_year_166 rfl rfl ?_
                refine wp_iload_n (pc := 167) 3 dX7_year_167 rfl rfl ?_
                refine wc_V_I (pc := 168) dX7_year_168 lkX7_207 (sm_Rc.o (ci := 6) s0_40 (by decide) (by decide)) (by decide) (Nat.le_of_ble_eq_true rfl) ?_
                refine c_X7_rings (i := wh) hw8 hR8 (by rw [fu_ne (by decide), h68]; exact hwl) (fun I9 hR9 hf9 => ?_)
                rw [← hyc] at hR9
                have hf9 := hf8.tr hf9
                refine wp_aload_n (pc := 171) 0 dX7_year_171 rfl rfl ?_
                refine wp_bipush (pc := 172) (8) dX7_year_172 (by decide) ?_
                refine wc_V_I (pc := 174) dX7_year_174 lkX7_218 (sm_Rc.o (ci := 6) s0_40 (by decide) (by decide)) (by decide) (Nat.le_of_ble_eq_true rfl) ?_
                refine c_X7_draw hwC hR9 (n := 8) (by decide) (by decide) (fun I10 hR10 hf10 => ?_)
                have hf10 := hf9.tr hf10
                have h72 := WF_yrC hw h0
                have hd8 : dr (yrC f 73) 8 < 8 := dr_lt (by decide)
                refine wp_istore (pc := 177) 5 dX7_year_177 (by decide) rfl ?_
                refine wp_aload_n (pc := 179) 0 dX7_year_179 rfl rfl ?_
                refine wq_getR (pc := 180) 13 0 dX7_year_180 s0_40 flX7_13 rfl rfl (by decide) (by decide) ?_
                refine wp_bipush (pc := 183) (72) dX7_year_183 (by decide) ?_
                refine wp_dup2 (pc := 185) dX7_year_185 rfl rfl ?_
                refine wq_iald (pc := 186) 72 dX7_year_186 s0_41 (by decide) rfl (by decide) (by decide) ?_
                refine wp_int (y := nI (yrC f 72)) ((hR10.at (by decide)).trans (by rw [fu_ne (by decide)])) ?_
                refine wp_aload_n (pc := 187) 0 dX7_year_187 rfl rfl ?_
                refine wp_bipush (pc := 188) (10) dX7_year_188 (by decide) ?_
                refine wc_V_I (pc := 190) dX7_year_190 lkX7_218 (sm_Rc.o (ci := 6) s0_40 (by decide) (by decide)) (by decide) (Nat.le_of_ble_eq_true rfl) ?_
                refine c_X7_draw (WF_seed hwC (sd_lt _)) hR10 (n := 10) (by decide) (by decide) (fun I11 hR11 hf11 => ?_)
                have hf11 := hf10.tr hf11
                rw [fu_fu] at hR11
                have hck := hwC.crk
                have hd10 : dr (sd (yrC f 73)) 10 < 10 := dr_lt (by decide)
                refine wp_int (y := nI (dr (sd (yrC f 73)) 10)) (by rw [fu_eq]) ?_
                refine wp_ifne (pc := 193) 203 dX7_year_193 (by decide) (fun c_193 => ?_) (fun c_193 => ?_)
                · refine wp_iconst (pc := 203) (0) dX7_year_203 (by decide) ?_
                  refine wp_ior (pc := 204) dX7_year_204 ?_
                  refine wp_int (or0 _) ?_
                  refine wq_iast (pc := 205) 72 dX7_year_205 s0_41 (by decide) rfl (by decide) (by decide) ?_
                  refine wp_iload (pc := 206) 4 dX7_year_206 rfl ?_
                  refine wp_iretI (pc := 208) dX7_year_208 rfl ?_
                  have hz : ¬ dr (sd (yrC f 73)) 10 = 0 := fun z => c_193 (by rw [z]; rfl)
                  have hy : yr f = ((rbd (yrB f)).1, yrD f) := by unfold yr; rw [if_neg hz]
                  rw [hy, hy1] at k
                  rw [fu_eq] at hR11
                  have hR12 := hR11.u 72 (yrC f 72)
                  rw [fu_id (f := fu (yrC f) 73 (sd (sd (yrC f 73)))) (show yrC f 72 = _ by rw [fu_ne (by decide)])] at hR12
                  exact k _ hR12 hf11.u
                · refine wp_iconst (pc := 196) (1) dX7_year_196 (by decide) ?_
                  refine wp_iload (pc := 197) 5 dX7_year_197 rfl ?_
                  refine wp_ishl (pc := 199) dX7_year_199 ?_
                  refine wp_goto (pc := 200) 204 dX7_year_200 (by decide) ?_
                  refine wp_int (bt_one (by omega)) ?_
                  refine wp_ior (pc := 204) dX7_year_204 ?_
                  refine wp_int (bt_or _ _) ?_
                  refine wq_iast (pc := 205) 72 dX7_year_205 s0_41 (by decide) rfl (by decide) (by decide) ?_
                  refine wp_iload (pc := 206) 4 dX7_year_206 rfl ?_
                  refine wp_iretI (pc := 208) dX7_year_208 rfl ?_
                  have hz : dr (sd (yrC f 73)) 10 = 0 := (nI0 (by omega)).mp c_193
                  have hy : yr f = ((rbd (yrB f)).1, fu (yrD f) 72 (yrD f 72 ||| 2 ^ dr (yrC f 73) 8)) := by unfold yr; rw [if_pos hz]
                  rw [hy, hy1] at k
                  rw [fu_eq] at hR11
                  have hR12 := hR11.u 72 (yrC f 72 ||| 2 ^ dr (yrC f 73) 8)
                  exact k _ hR12 hf11.u
            · have hrb := rbd_0 (show sdc (yrB f) = sd (sd (sd (yrB f 73))) by unfold sdc; rw [if_neg hc0]) (show whc (yrB f) = wh by rw [hwh]; unfold whc; rw [if_neg hc0, if_neg hsl, h68]) ((nI0 (Nat.lt_of_le_of_lt (may_le _ _) (by decide))).mp c_150)
              have hyc : yrC f = fu (yrB f) 73 (sd (sd (sd (yrB f 73)))) := by unfold yrC; rw [hrb]
              have hy1 : (rbd (yrB f)).1 = 0 := by rw [hrb]
              refine wp_iconst (pc := 153) (0) dX7_year_153 (by decide) ?_
              refine wp_goto (pc := 154) 158 dX7_year_154 (by decide) ?_
              refine wp_istore (pc := 158) 4 dX7_year_158 (by decide) rfl ?_
              refine wp_iload (pc := 160) 4 dX7_year_160 rfl ?_
              refine wp_iconst (pc := 162) (1) dX7_year_162 (by decide) ?_
              refine wp_icmp_ne (pc := 163) 171 dX7_year_163 (by decide) (fun c_163 => ?_) (fun c_163 => ?_)
              · refine wp_aload_n (pc := 171) 0 dX7_year_171 rfl rfl ?_
                refine wp_bipush (pc := 172) (8) dX7_year_172 (by decide) ?_
                refine wc_V_I (pc := 174) dX7_year_174 lkX7_218 (sm_Rc.o (ci := 6) s0_40 (by decide) (by decide)) (by decide) (Nat.le_of_ble_eq_true rfl) ?_
                have hR9 := hR8
                rw [← hyc] at hR9
                have hf9 := hf8
                refine c_X7_draw hwC hR9 (n := 8) (by decide) (by decide) (fun I10 hR10 hf10 => ?_)
                have hf10 := hf9.tr hf10
                have h72 := WF_yrC hw h0
                have hd8 : dr (yrC f 73) 8 < 8 := dr_lt (by decide)
                refine wp_istore (pc := 177) 5 dX7_year_177 (by decide) rfl ?_
                refine wp_aload_n (pc := 179) 0 dX7_year_179 rfl rfl ?_
                refine wq_getR (pc := 180) 13 0 dX7_year_180 s0_40 flX7_13 rfl rfl (by decide) (by decide) ?_
                refine wp_bipush (pc := 183) (72) dX7_year_183 (by decide) ?_
                refine wp_dup2 (pc := 185) dX7_year_185 rfl rfl ?_
                refine wq_iald (pc := 186) 72 dX7_year_186 s0_41 (by decide) rfl (by decide) (by decide) ?_
                refine wp_int (y := nI (yrC f 72)) ((hR10.at (by decide)).trans (by rw [fu_ne (by decide)])) ?_
                refine wp_aload_n (pc := 187) 0 dX7_year_187 rfl rfl ?_
                refine wp_bipush (pc := 188) (10) dX7_year_188 (by decide) ?_
                refine wc_V_I (pc := 190) dX7_year_190 lkX7_218 (sm_Rc.o (ci := 6) s0_40 (by decide) (by decide)) (by decide) (Nat.le_of_ble_eq_true rfl) ?_
                refine c_X7_draw (WF_seed hwC (sd_lt _)) hR10 (n := 10) (by decide) (by decide) (fun I11 hR11 hf11 => ?_)
                have hf11 := hf10.tr hf11
                rw [fu_fu] at hR11
                have hck := hwC.crk
                have hd10 : dr (sd (yrC f 73)) 10 < 10 := dr_lt (by decide)
                refine wp_int (y := nI (dr (sd (yrC f 73)) 10)) (by rw [fu_eq]) ?_
                refine wp_ifne (pc := 193) 203 dX7_year_193 (by decide) (fun c_193 => ?_) (fun c_193 => ?_)
                · refine wp_iconst (pc := 203) (0) dX7_year_203 (by decide) ?_
                  refine wp_ior (pc := 204) dX7_year_204 ?_
                  refine wp_int (or0 _) ?_
                  refine wq_iast (pc := 205) 72 dX7_year_205 s0_41 (by decide) rfl (by decide) (by decide) ?_
                  refine wp_iload (pc := 206) 4 dX7_year_206 rfl ?_
                  refine wp_iretI (pc := 208) dX7_year_208 rfl ?_
                  have hz : ¬ dr (sd (yrC f 73)) 10 = 0 := fun z => c_193 (by rw [z]; rfl)
                  have hy : yr f = ((rbd (yrB f)).1, yrD f) := by unfold yr; rw [if_neg hz]
                  rw [hy, hy1] at k
                  rw [fu_eq] at hR11
                  have hR12 := hR11.u 72 (yrC f 72)
                  rw [fu_id (f := fu (yrC f) 73 (sd (sd (yrC f 73)))) (show yrC f 72 = _ by rw [fu_ne (by decide)])] at hR12
                  exact k _ hR12 hf11.u
                · refine wp_iconst (pc := 196) (1) dX7_year_196 (by decide) ?_
                  refine wp_iload (pc := 197) 5 dX7_year_197 rfl ?_
                  refine wp_ishl (pc := 199) dX7_year_199 ?_
                  refine wp_goto (pc := 200) 204 dX7_year_200 (by decide) ?_
                  refine wp_int (bt_one (by omega)) ?_
                  refine wp_ior (pc := 204) dX7_year_204 ?_
                  refine wp_int (bt_or _ _) ?_
                  refine wq_iast (pc := 205) 72 dX7_year_205 s0_41 (by decide) rfl (by decide) (by decide) ?_
                  refine wp_iload (pc := 206) 4 dX7_year_206 rfl ?_
                  refine wp_iretI (pc := 208) dX7_year_208 rfl ?_
                  have hz : dr (sd (yrC f 73)) 10 = 0 := (nI0 (by omega)).mp c_193
                  have hy : yr f = ((rbd (yrB f)).1, fu (yrD f) 72 (yrD f 72 ||| 2 ^ dr (yrC f 73) 8)) := by unfold yr; rw [if_pos hz]
                  rw [hy, hy1] at k
                  rw [fu_eq] at hR11
                  have hR12 := hR11.u 72 (yrC f 72 ||| 2 ^ dr (yrC f 73) 8)
                  exact k _ hR12 hf11.u
              · exact absurd c_163 (by decide)
          · exact absurd (by decide) c_129
        · have hsl : dr (sd (sd (yrB f 73))) 100 < slp (yrB f) (dr (sd (yrB f 73)) (yrB f 69)) := Nat.lt_of_not_le fun z => c_119 (nI_le z (by omega))
          refine wp_iconst (pc := 122) (1) dX7_year_122 (by decide) ?_
          refine wp_goto (pc := 123) 127 dX7_year_123 (by decide) ?_
          refine wp_istore_n (pc := 127) 2 dX7_year_127 rfl (by decide) rfl ?_
          refine wp_iload_n (pc := 128) 2 dX7_year_128 rfl rfl ?_
          refine wp_ifeq (pc := 129) 143 dX7_year_129 (by decide) (fun c_129 => ?_) (fun c_129 => ?_)
          · exact absurd c_129 (by decide)
          · refine wp_iload_n (pc := 132) 1 dX7_year_132 rfl rfl ?_
            refine wp_iconst (pc := 133) (1) dX7_year_133 (by decide) ?_
            refine wp_iadd (pc := 134) dX7_year_134 ?_
            refine wp_int (nI_1 _) ?_
            refine wp_aload_n (pc := 135) 0 dX7_year_135 rfl rfl ?_
            refine wc_V_ (pc := 136) dX7_year_136 lkX7_57 (sm_Rc.o (ci := 6) s0_40 (by decide) (by decide)) (by decide) (Nat.le_of_ble_eq_true rfl) ?_
            refine c_X7_many0 hR8 ?_
            refine wp_int (y := nI (f 68)) rfl ?_
            refine wp_irem (pc := 139) dX7_year_139 (nI_ne0 h0 (by omega)) ?_
            refine wp_int (pk_rem (by omega) h0 (by omega)) ?_
            refine wp_goto (pc := 140) 144 dX7_year_140 (by decide) ?_
            refine wp_istore_n (pc := 144) 3 dX7_year_144 rfl (by decide) rfl ?_
            refine wp_aload_n (pc := 145) 0 dX7_year_145 rfl rfl ?_
            refine wp_iload_n (pc := 146) 3 dX7_year_146 rfl rfl ?_
            refine wc_V_I (pc := 147) dX7_year_147 lkX7_138 (sm_Rc.o (ci := 6) s0_40 (by decide) (by decide)) (by decide) (Nat.le_of_ble_eq_true rfl) ?_
            obtain ⟨wh, hwh⟩ : ∃ w, w = (((dr (yrB f 73) (f 68)) + 1) % f 68) := ⟨_, rfl⟩
            have hwl : wh < f 68 := by rw [hwh]; exact Nat.mod_lt _ h0
            refine c_X7_may (i := (((dr (yrB f 73) (f 68)) + 1) % f 68)) hw8 hR8 (by rw [fu_ne (by decide), h68]; exact Nat.mod_lt _ h0) ?_
            rw [← hwh]
            refine wp_ifne (pc := 150) 157 dX7_year_150 (by decide) (fun c_150 => ?_) (fun c_150 => ?_)
            · have hrb := rbd_1 (show sdc (yrB f) = sd (sd (sd (yrB f 73))) by unfold sdc; rw [if_neg hc0]) (show whc (yrB f) = wh by rw [hwh]; unfold whc; rw [if_neg hc0, if_pos hsl, h68]) (fun z => c_150 (by rw [z]; rfl))
              have hyc : yrC f = rgT (fu (yrB f) 73 (sd (sd (sd (yrB f 73))))) wh := by unfold yrC; rw [hrb]
              have hy1 : (rbd (yrB f)).1 = 1 := by rw [hrb]
              refine wp_iconst (pc := 157) (1) dX7_year_157 (by decide) ?_
              refine wp_istore (pc := 158) 4 dX7_year_158 (by decide) rfl ?_
              refine wp_iload (pc := 160) 4 dX7_year_160 rfl ?_
              refine wp_iconst (pc := 162) (1) dX7_year_162 (by decide) ?_
              refine wp_icmp_ne (pc := 163) 171 dX7_year_163 (by decide) (fun c_163 => ?_) (fun c_163 => ?_)
              · exact absurd (by decide) c_163
              · refine wp_aload_n (pc := 166) 0 dX7_year_166 rfl rfl ?_
                refine wp_iload_n (pc := 167) 3 dX7_year_167 rfl rfl ?_
                refine wc_V_I (pc := 168) dX7_year_168 lkX7_207 (sm_Rc.o (ci := 6) s0_40 (by decide) (by decide)) (by decide) (Nat.le_of_ble_eq_true rfl) ?_
                refine c_X7_rings (i := wh) hw8 hR8 (by rw [fu_ne (by decide), h68]; exact hwl) (fun I9 hR9 hf9 => ?_)
                rw [← hyc] at hR9
                have hf9 := hf8.tr hf9
                refine wp_aload_n (pc := 171) 0 dX7_year_171 rfl rfl ?_
                refine wp_bipush (pc := 172) (8) dX7_year_172 (by decide) ?_
                refine wc_V_I (pc := 174) dX7_year_174 lkX7_218 (sm_Rc.o (ci := 6) s0_40 (by decide) (by decide)) (by decide) (Nat.le_of_ble_eq_true rfl) ?_
                refine c_X7_draw hwC hR9 (n := 8) (by decide) (by decide) (fun I10 hR10 hf10 => ?_)
                have hf10 := hf9.tr hf10
                have h72 := WF_yrC hw h0
                have hd8 : dr (yrC f 73) 8 < 8 := dr_lt (by decide)
                refine wp_istore (pc := 177) 5 dX7_year_177 (by decide) rfl ?_
                refine wp_aload_n (pc := 179) 0 dX7_year_179 rfl rfl ?_
                refine wq_getR (pc := 180) 13 0 dX7_year_180 s0_40 flX7_13 rfl rfl (by decide) (by decide) ?_
                refine wp_bipush (pc := 183) (72) dX7_year_183 (by decide) ?_
                refine wp_dup2 (pc := 185) dX7_year_185 rfl rfl ?_
                refine wq_iald (pc := 186) 72 dX7_year_186 s0_41 (by decide) rfl (by decide) (by decide) ?_
                refine wp_int (y := nI (yrC f 72)) ((hR10.at (by decide)).trans (by rw [fu_ne (by decide)])) ?_
                refine wp_aload_n (pc := 187) 0 dX7_year_187 rfl rfl ?_
                refine wp_bipush (pc := 188) (10) dX7_year_188 (by decide) ?_
                refine wc_V_I (pc := 190) dX7_year_190 lkX7_218 (sm_Rc.o (ci := 6) s0_40 (by decide) (by decide)) (by decide) (Nat.le_of_ble_eq_true rfl) ?_
                refine c_X7_draw (WF_seed hwC (sd_lt _)) hR10 (n := 10) (by decide) (by decide) (fun I11 hR11 hf11 => ?_)
                have hf11 := hf10.tr hf11
                rw [fu_fu] at hR11
                have hck := hwC.crk
                have hd10 : dr (sd (yrC f 73)) 10 < 10 := dr_lt (by decide)
                refine wp_int (y := nI (dr (sd (yrC f 73)) 10)) (by rw [fu_eq]) ?_
                refine wp_ifne (pc := 193) 203 dX7_year_193 (by decide) (fun c_193 => ?_) (fun c_193 => ?_)
                · refine wp_iconst (pc := 203) (0) dX7_year_203 (by decide) ?_
                  refine wp_ior (pc := 204) dX7_year_204 ?_
                  refine wp_int (or0 _) ?_
                  refine wq_iast (pc := 205) 72 dX7_year_205 s0_41 (by decide) rfl (by decide) (by decide) ?_
                  refine wp_iload (pc := 206) 4 dX7_year_206 rfl ?_
                  refine wp_iretI (pc := 208) dX7_year_208 rfl ?_
                  have hz : ¬ dr (sd (yrC f 73)) 10 = 0 := fun z => c_193 (by rw [z]; rfl)
                  have hy : yr f = ((rbd (yrB f)).1, yrD f) := by unfold yr; rw [if_neg hz]
                  rw [hy, hy1] at k
                  rw [fu_eq] at hR11
                  have hR12 := hR11.u 72 (yrC f 72)
                  rw [fu_id (f := fu (yrC f) 73 (sd (sd (yrC f 73)))) (show yrC f 72 = _ by rw [fu_ne (by decide)])] at hR12
                  exact k _ hR12 hf11.u
                · refine wp_iconst (pc := 196) (1) dX7_year_196 (by decide) ?_
                  refine wp_iload (pc := 197) 5 dX7_year_197 rfl ?_
                  refine wp_ishl (pc := 199) dX7_year_199 ?_
                  refine wp_goto (pc := 200) 204 dX7_year_200 (by decide) ?_
                  refine wp_int (bt_one (by omega)) ?_
                  refine wp_ior (pc := 204) dX7_year_204 ?_
                  refine wp_int (bt_or _ _) ?_
                  refine wq_iast (pc := 205) 72 dX7_year_205 s0_41 (by decide) rfl (by decide) (by decide) ?_
                  refine wp_iload (pc := 206) 4 dX7_year_206 rfl ?_
                  refine wp_iretI (pc := 208) dX7_year_208 rfl ?_
                  have hz : dr (sd (yrC f 73)) 10 = 0 := (nI0 (by omega)).mp c_193
                  have hy : yr f = ((rbd (yrB f)).1, fu (yrD f) 72 (yrD f 72 ||| 2 ^ dr (yrC f 73) 8)) := by unfold yr; rw [if_pos hz]
                  rw [hy, hy1] at k
                  rw [fu_eq] at hR11
                  have hR12 := hR11.u 72 (yrC f 72 ||| 2 ^ dr (yrC f 73) 8)
                  exact k _ hR12 hf11.u
            · have hrb := rbd_0 (show sdc (yrB f) = sd (sd (sd (yrB f 73))) by unfold sdc; rw [if_neg hc0]) (show whc (yrB f) = wh by rw [hwh]; unfold whc; rw [if_neg hc0, if_pos hsl, h68]) ((nI0 (Nat.lt_of_le_of_lt (may_le _ _) (by decide))).mp c_150)
              have hyc : yrC f = fu (yrB f) 73 (sd (sd (sd (yrB f 73)))) := by unfold yrC; rw [hrb]
              have hy1 : (rbd (yrB f)).1 = 0 := by rw [hrb]
              refine wp_iconst (pc := 153) (0) dX7_year_153 (by decide) ?_
              refine wp_goto (pc := 154) 158 dX7_year_154 (by decide) ?_
              refine wp_istore (pc := 158) 4 dX7_year_158 (by decide) rfl ?_
              refine wp_iload (pc := 160) 4 dX7_year_160 rfl ?_
              refine wp_iconst (pc := 162) (1) dX7_year_162 (by decide) ?_
              refine wp_icmp_ne (pc := 163) 171 dX7_year_163 (by decide) (fun c_163 => ?_) (fun c_163 => ?_)
              · refine wp_aload_n (pc := 171) 0 dX7_year_171 rfl rfl ?_
                refine wp_bipush (pc := 172) (8) dX7_year_172 (by decide) ?_
                refine wc_V_I (pc := 174) dX7_year_174 lkX7_218 (sm_Rc.o (ci := 6) s0_40 (by decide) (by decide)) (by decide) (Nat.le_of_ble_eq_true rfl) ?_
                have hR9 := hR8
                rw [← hyc] at hR9
                have hf9 := hf8
                refine c_X7_draw hwC hR9 (n := 8) (by decide) (by decide) (fun I10 hR10 hf10 => ?_)
                have hf10 := hf9.tr hf10
                have h72 := WF_yrC hw h0
                have hd8 : dr (yrC f 73) 8 < 8 := dr_lt (by decide)
                refine wp_istore (pc := 177) 5 dX7_year_177 (by decide) rfl ?_
                refine wp_aload_n (pc := 179) 0 dX7_year_179 rfl rfl ?_
                refine wq_getR (pc := 180) 13 0 dX7_year_180 s0_40 flX7_13 rfl rfl (by decide) (by decide) ?_
                refine wp_bipush (pc := 183) (72) dX7_year_183 (by decide) ?_
                refine wp_dup2 (pc := 185) dX7_year_185 rfl rfl ?_
                refine wq_iald (pc := 186) 72 dX7_year_186 s0_41 (by decide) rfl (by decide) (by decide) ?_
                refine wp_int (y := nI (yrC f 72)) ((hR10.at (by decide)).trans (by rw [fu_ne (by decide)])) ?_
                refine wp_aload_n (pc := 187) 0 dX7_year_187 rfl rfl ?_
                refine wp_bipush (pc := 188) (10) dX7_year_188 (by decide) ?_
                refine wc_V_I (pc := 190) dX7_year_190 lkX7_218 (sm_Rc.o (ci := 6) s0_40 (by decide) (by decide)) (by decide) (Nat.le_of_ble_eq_true rfl) ?_
                refine c_X7_draw (WF_seed hwC (sd_lt _)) hR10 (n := 10) (by decide) (by decide) (fun I11 hR11 hf11 => ?_)
                have hf11 := hf10.tr hf11
                rw [fu_fu] at hR11
                have hck := hwC.crk
                have hd10 : dr (sd (yrC f 73)) 10 < 10 := dr_lt (by decide)
                refine wp_int (y := nI (dr (sd (yrC f 73)) 10)) (by rw [fu_eq]) ?_
                refine wp_ifne (pc := 193) 203 dX7_year_193 (by decide) (fun c_193 => ?_) (fun c_193 => ?_)
                · refine wp_iconst (pc := 203) (0) dX7_year_203 (by decide) ?_
                  refine wp_ior (pc := 204) dX7_year_204 ?_
                  refine wp_int (or0 _) ?_
                  refine wq_iast (pc := 205) 72 dX7_year_205 s0_41 (by decide) rfl (by decide) (by decide) ?_
                  refine wp_iload (pc := 206) 4 dX7_year_206 rfl ?_
                  refine wp_iretI (pc := 208) dX7_year_208 rfl ?_
                  have hz : ¬ dr (sd (yrC f 73)) 10 = 0 := fun z => c_193 (by rw [z]; rfl)
                  have hy : yr f = ((rbd (yrB f)).1, yrD f) := by unfold yr; rw [if_neg hz]
                  rw [hy, hy1] at k
                  rw [fu_eq] at hR11
                  have hR12 := hR11.u 72 (yrC f 72)
                  rw [fu_id (f := fu (yrC f) 73 (sd (sd (yrC f 73)))) (show yrC f 72 = _ by rw [fu_ne (by decide)])] at hR12
                  exact k _ hR12 hf11.u
                · refine wp_iconst (pc := 196) (1) dX7_year_196 (by decide) ?_
                  refine wp_iload (pc := 197) 5 dX7_year_197 rfl ?_
                  refine wp_ishl (pc := 199) dX7_year_199 ?_
                  refine wp_goto (pc := 200) 204 dX7_year_200 (by decide) ?_
                  refine wp_int (bt_one (by omega)) ?_
                  refine wp_ior (pc := 204) dX7_year_204 ?_
                  refine wp_int (bt_or _ _) ?_
                  refine wq_iast (pc := 205) 72 dX7_year_205 s0_41 (by decide) rfl (by decide) (by decide) ?_
                  refine wp_iload (pc := 206) 4 dX7_year_206 rfl ?_
                  refine wp_iretI (pc := 208) dX7_year_208 rfl ?_
                  have hz : dr (sd (yrC f 73)) 10 = 0 := (nI0 (by omega)).mp c_193
                  have hy : yr f = ((rbd (yrB f)).1, fu (yrD f) 72 (yrD f 72 ||| 2 ^ dr (yrC f 73) 8)) := by unfold yr; rw [if_pos hz]
                  rw [hy, hy1] at k
                  rw [fu_eq] at hR11
                  have hR12 := hR11.u 72 (yrC f 72 ||| 2 ^ dr (yrC f 73) 8)
                  exact k _ hR12 hf11.u
              · exact absurd c_163 (by decide)
    · exact absurd (Int32.le_refl _) c_29
theorem c_X7_years {d : Nat} {F I : Nat → Nat → Int32} {J : Nat → Nat → Int64} {Q : Option Value → sm_H → Prop} {x : Int32} {s : Sg} (hM : MR s F I J) (ok : Ok s) (k : ∀ F1 I1 J1, MR (do_years s x).2 F1 I1 J1 → Lo F I J F1 I1 J1 → Q (some (.int (do_years s x).1)) (S0, F1, I1, J1)) : Wp mX7_years (d + 5) 0 0 0 (sm_ini [.ref 40, .int x] 4) [] (S0, F, I, J) Q := by
  show Wp _ _ _ _ _ [.ref 40, .int x, .null, .null] _ _ _
  have hw := ok.1
  have hR := hM.1
  have hn := hw.n
  have hcw := hw.c
  have hbn := bn_1024 hw
  have hbl := bn_lt hw
  have hp2 := p2n hw
  have hh1 := hw.wth
  have hh2 := hw.crk
  have hh3 := hw.year
  refine wp_iload_n (pc := 0) 1 dX7_years_0 rfl rfl ?_
  refine wp_iconst (pc := 1) (1) dX7_years_1 (by decide) ?_
  refine wp_bipush (pc := 2) (60) dX7_years_2 (by decide) ?_
  refine wc_S_III (pc := 4) dX7_years_4 lkX7_49 (by decide) (Nat.le_of_ble_eq_true rfl) ?_
  refine c_X7_isIn ?_
  refine wp_ifneB (pc := 7) 17 dX7_years_7 (by decide) (fun c_7 => ?_) (fun c_7 => ?_)
  · have hm2 := of_decide_eq_true c_7
    obtain ⟨m, hm, rfl⟩ := (i32_le (n := 60) (by decide)).mp ⟨Int32.le_trans (by decide) hm2.1, hm2.2⟩
    refine wp_aload_n (pc := 17) 0 dX7_years_17 rfl rfl ?_
    refine wc_V_ (pc := 18) dX7_years_18 lkX7_57 (sm_Rc.o (ci := 6) s0_40 (by decide) (by decide)) (by decide) (Nat.le_of_ble_eq_true rfl) ?_
    refine c_X7_many hw hR ?_
    refine wp_ifne (pc := 21) 31 dX7_years_21 (by decide) (fun c_21 => ?_) (fun c_21 => ?_)
    · have h0 : ¬ sgf s 68 = 0 := fun z => c_21 (by rw [z]; rfl)
      refine wp_iconst (pc := 31) (0) dX7_years_31 (by decide) ?_
      refine wp_istore_n (pc := 32) 2 dX7_years_32 rfl (by decide) rfl ?_
      refine wp_iconst (pc := 33) (0) dX7_years_33 (by decide) ?_
      refine wp_istore_n (pc := 34) 3 dX7_years_34 rfl (by decide) rfl ?_
      unfold do_years at k
      rw [gat_t (c := decide (1 ≤ nI m ∧ nI m ≤ 60)) c_7, gat_t (c := decide (¬ sgf s 68 = 0)) (decide_eq_true h0), nI_clamp (by omega)] at k
      have h00 : 0 < sgf s 68 := by omega
      refine wp_loopS (σ := Nat → Nat → Int32) (fun i _ => [.ref 40, .int (nI m), .int (nI (yU (sgf s) i).1), .int (nI i)]) (fun _ I1 => (S0, F, I1, J)) (fun i I1 => Rw 41 (yU (sgf s) i).2 I1 ∧ RF I I1) m (fun i I1 hi hs nx => ?_) (fun I1 hs => ?_) 0 I (Nat.zero_le _) ⟨hR, RF.rf⟩
      · obtain ⟨hR1, hf1⟩ := hs
        obtain ⟨hw1, h68⟩ := yU_ok hw h00 i
        refine wp_iload_n (pc := 35) 3 dX7_years_35 rfl rfl ?_
        refine wp_iload_n (pc := 36) 1 dX7_years_36 rfl rfl ?_
        refine wp_icmp_ge (pc := 37) 53 dX7_years_37 (by decide) (fun c_37 => ?_) (fun c_37 => ?_)
        · exact absurd c_37 (nI_ge hi (by omega))
        · refine wp_iload_n (pc := 40) 2 dX7_years_40 rfl rfl ?_
          refine wp_aload_n (pc := 41) 0 dX7_years_41 rfl rfl ?_
          refine wc_V_ (pc := 42) dX7_years_42 lkX7_221 (sm_Rc.o (ci := 6) s0_40 (by decide) (by decide)) (by decide) (Nat.le_of_ble_eq_true rfl) ?_
          refine c_X7_year hw1 hR1 (by omega) (fun I2 hR2 hf2 => ?_)
          refine wp_iadd (pc := 45) dX7_years_45 ?_
          refine wp_int (nI_add _ _) ?_
          refine wp_istore_n (pc := 46) 2 dX7_years_46 rfl (by decide) rfl ?_
          refine wp_incN (pc := 47) 3 dX7_years_47 rfl (by decide) rfl ?_
          refine wp_goto (pc := 50) 35 dX7_years_50 (by decide) ?_
          exact nx _ ⟨hR2, hf1.tr hf2⟩
      · obtain ⟨hR1, hf1⟩ := hs
        refine wp_iload_n (pc := 35) 3 dX7_years_35 rfl rfl ?_
        refine wp_iload_n (pc := 36) 1 dX7_years_36 rfl rfl ?_
        refine wp_icmp_ge (pc := 37) 53 dX7_years_37 (by decide) (fun c_37 => ?_) (fun c_37 => ?_)
        · refine wp_iload_n (pc := 53) 2 dX7_years_53 rfl rfl ?_
          refine wp_iretI (pc := 54) dX7_years_54 rfl ?_
          exact k _ _ _ (hM.f hR1 hf1) hf1.lo
        · exact absurd (Int32.le_refl _) c_37
    · refine wp_aload_n (pc := 24) 0 dX7_years_24 rfl rfl ?_
      refine wp_bipush (pc := 25) (-5) dX7_years_25 (by decide) ?_
      refine wc_V_I (pc := 27) dX7_years_27 lkX7_81 (sm_Rc.o (ci := 6) s0_40 (by decide) (by decide)) (by decide) (Nat.le_of_ble_eq_true rfl) ?_
      refine c_X7_no_3 ?_
      refine wp_iretI (pc := 30) dX7_years_30 rfl ?_
      unfold do_years at k
      rw [gat_t (c := decide (1 ≤ nI m ∧ nI m ≤ 60)) c_7, gat_f (c := decide (¬ sgf s 68 = 0)) (decide_eq_false (fun z => z ((nI0 (by omega)).mp c_21)))] at k
      exact k _ _ _ (hM.bmp (by decide)) (Lo.rf.uI (by decide))
  · refine wp_aload_n (pc := 10) 0 dX7_years_10 rfl rfl ?_
    refine wp_bipush (pc := 11) (-2) dX7_years_11 (by decide) ?_
    refine wc_V_I (pc := 13) dX7_years_13 lkX7_81 (sm_Rc.o (ci := 6) s0_40 (by decide) (by decide)) (by decide) (Nat.le_of_ble_eq_true rfl) ?_
    refine c_X7_no_0 ?_
    refine wp_iretI (pc := 16) dX7_years_16 rfl ?_
    unfold do_years at k
    rw [gat_f (c := decide (1 ≤ x ∧ x ≤ 60)) c_7] at k
    exact k _ _ _ (hM.bmp (by decide)) (Lo.rf.uI (by decide))
