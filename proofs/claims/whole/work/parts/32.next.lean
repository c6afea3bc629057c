/-! ===== the next token ===== -/
theorem up_sw {α : Type} {f : Nat → Nat → α} {k i j : Nat} {u v : α} (h : i ≠ j) : sm_up (sm_up f k i u) k j v = sm_up (sm_up f k j v) k i u := by
  funext a b
  simp only [sm_up]
  by_cases h1 : a = k ∧ b = j
  · rw [if_pos h1, if_neg (by omega), if_pos h1]
  · rw [if_neg h1]
    by_cases h2 : a = k ∧ b = i
    · rw [if_pos h2, if_pos h2]
    · rw [if_neg h2, if_neg h2, if_neg h1]
theorem srtk_0 {sz : Nat} {tp : Nat → Nat} {q : Nat} (e : ltr sz tp q = none) : srtk sz tp q = 0 := by unfold srtk; rw [e]
theorem srtk_1 {sz : Nat} {tp : Nat → Nat} {q l : Nat} (e : ltr sz tp q = some l) (h : oP isSm (some l) = true) : srtk sz tp q = 1 := by unfold srtk; rw [e]; exact if_pos h
theorem srtk_2 {sz : Nat} {tp : Nat → Nat} {q l : Nat} (e : ltr sz tp q = some l) (h1 : oP isSm (some l) = false) (h : oP isDg (some l) = true) : srtk sz tp q = 2 := by
  unfold srtk; rw [e]; simp only
  rw [if_neg (show ¬ isSm l = true from fun z => absurd (z.symm.trans h1) (by decide))]; exact if_pos h
theorem srtk_3 {sz : Nat} {tp : Nat → Nat} {q l : Nat} (e : ltr sz tp q = some l) (h1 : oP isSm (some l) = false) (h2 : oP isDg (some l) = false) : srtk sz tp q = if l = 59 then 3 else 4 := by
  unfold srtk; rw [e]; simp only
  rw [if_neg (show ¬ isSm l = true from fun z => absurd (z.symm.trans h1) (by decide)), if_neg (show ¬ isDg l = true from fun z => absurd (z.symm.trans h2) (by decide))]
theorem ltr_s {sz : Nat} {tp : Nat → Nat} {q l : Nat} (e : ltr sz tp q = some l) : q < sz ∧ tp q = l := by
  unfold ltr at e
  split at e
  · cases e; exact ⟨by assumption, rfl⟩
  · cases e
section ADV
variable {d : Nat} {F I : Nat → Nat → Int32} {J : Nat → Nat → Int64} {Q : Option Value → sm_H → Prop}
theorem c_X2_tail {sz : Nat} {tp : Nat → Nat} (hP : TpD sz tp F I) (hz : sz ≤ 250) (ht : ∀ j, tp j < 256) {q : Nat} (h2 : F 37 2 = nI q) (hq0 : q ≤ sz) {x : Int32} (k : ∀ F1 : Nat → Nat → Int32, F1 37 1 = nI (srtk sz tp q) → F1 37 2 = nI q → F1 37 3 = nI (endk sz tp q) → (srtk sz tp q = 2 → F1 37 4 = nI (nmk sz tp q)) → F1 37 0 = F 37 0 → (∀ a, a ≠ 37 → F1 a = F a) → Q none (S0, F1, I, J)) : Wp mX2_advance (d + 3) 0 0 46 [.ref 37, .ref 35, .int x, .null] [] (S0, F, I, J) Q := by
  cases e : ltr sz tp q with
  | none =>
    refine wp_aload_n (pc := 46) 1 dX2_advance_46 rfl rfl ?_
    refine wp_aload_n (pc := 47) 0 dX2_advance_47 rfl rfl ?_
    refine wq_getI (pc := 48) 18 2 dX2_advance_48 s0_37 flX2_18 rfl (by decide) ?_
    refine wp_int (y := nI q) (by simp [sm_up, h2]) ?_
    refine wc_V_I (pc := 51) dX2_advance_51 lkX2_117 (sm_Rc.o (ci := 3) s0_35 (by decide) (by decide)) (by decide) (Nat.le_of_ble_eq_true rfl) ?_
    refine c_X4_letterAt (by first | exact hP | exact hP.up | exact hP.up.up | exact hP.up.up.up | exact hP.up.up.up.up) hz (by omega) ?_
    refine wp_int (y := -1) (by rw [e]; rfl) ?_
    refine wp_istore_n (pc := 54) 2 dX2_advance_54 rfl (by decide) rfl ?_
    refine wp_aload_n (pc := 55) 0 dX2_advance_55 rfl rfl ?_
    refine wp_aload_n (pc := 56) 0 dX2_advance_56 rfl rfl ?_
    refine wq_getI (pc := 57) 18 2 dX2_advance_57 s0_37 flX2_18 rfl (by decide) ?_
    refine wp_int (y := nI q) (by simp [sm_up, h2]) ?_
    refine wp_iconst (pc := 60) (1) dX2_advance_60 (by decide) ?_
    refine wp_iadd (pc := 61) dX2_advance_61 ?_
    refine wp_int (nI_1 _) ?_
    refine wq_putI (pc := 62) 21 3 dX2_advance_62 s0_37 flX2_21 rfl rfl (by decide) ?_
    refine wp_iload_n (pc := 65) 2 dX2_advance_65 rfl rfl ?_
    refine wp_iconst (pc := 66) (-1) dX2_advance_66 (by decide) ?_
    refine wp_icmp_ne (pc := 67) 86 dX2_advance_67 (by decide) (fun c_67 => ?_) (fun c_67 => ?_)
    · exact absurd (by decide) c_67
    · refine wp_aload_n (pc := 70) 0 dX2_advance_70 rfl rfl ?_
      refine wp_iconst (pc := 71) (0) dX2_advance_71 (by decide) ?_
      refine wq_putI (pc := 72) 15 1 dX2_advance_72 s0_37 flX2_15 rfl rfl (by decide) ?_
      refine wp_aload_n (pc := 75) 0 dX2_advance_75 rfl rfl ?_
      refine wp_aload_n (pc := 76) 0 dX2_advance_76 rfl rfl ?_
      refine wq_getI (pc := 77) 18 2 dX2_advance_77 s0_37 flX2_18 rfl (by decide) ?_
      refine wp_int (y := nI q) (by simp [sm_up, h2]) ?_
      refine wq_putI (pc := 80) 21 3 dX2_advance_80 s0_37 flX2_21 rfl rfl (by decide) ?_
      refine wp_goto (pc := 83) 218 dX2_advance_83 (by decide) ?_
      refine wp_ret (pc := 218) dX2_advance_218 rfl ?_
      have hk := srtk_0 e
      refine k _ (by rw [hk]; simp [sm_up]; rfl) (by simp [sm_up, h2]) (by simp [sm_up, endk, hk]) (fun z => absurd (hk.symm.trans z) (by decide)) (by simp [sm_up]) (fun a ha => by repeat rw [sm_up_ne ha])
  | some l =>
    have hl := ltr_lt ht q l e
    have hq := ltr_s e
    refine wp_aload_n (pc := 46) 1 dX2_advance_46 rfl rfl ?_
    refine wp_aload_n (pc := 47) 0 dX2_advance_47 rfl rfl ?_
    refine wq_getI (pc := 48) 18 2 dX2_advance_48 s0_37 flX2_18 rfl (by decide) ?_
    refine wp_int (y := nI q) (by simp [sm_up, h2]) ?_
    refine wc_V_I (pc := 51) dX2_advance_51 lkX2_117 (sm_Rc.o (ci := 3) s0_35 (by decide) (by decide)) (by decide) (Nat.le_of_ble_eq_true rfl) ?_
    refine c_X4_letterAt (by first | exact hP | exact hP.up | exact hP.up.up | exact hP.up.up.up | exact hP.up.up.up.up) hz (by omega) ?_
    refine wp_int (y := nI l) (by rw [e]; rfl) ?_
    refine wp_istore_n (pc := 54) 2 dX2_advance_54 rfl (by decide) rfl ?_
    refine wp_aload_n (pc := 55) 0 dX2_advance_55 rfl rfl ?_
    refine wp_aload_n (pc := 56) 0 dX2_advance_56 rfl rfl ?_
    refine wq_getI (pc := 57) 18 2 dX2_advance_57 s0_37 flX2_18 rfl (by decide) ?_
    refine wp_int (y := nI q) (by simp [sm_up, h2]) ?_
    refine wp_iconst (pc := 60) (1) dX2_advance_60 (by decide) ?_
    refine wp_iadd (pc := 61) dX2_advance_61 ?_
    refine wp_int (nI_1 _) ?_
    refine wq_putI (pc := 62) 21 3 dX2_advance_62 s0_37 flX2_21 rfl rfl (by decide) ?_
    refine wp_iload_n (pc := 65) 2 dX2_advance_65 rfl rfl ?_
    refine wp_iconst (pc := 66) (-1) dX2_advance_66 (by decide) ?_
    refine wp_icmp_ne (pc := 67) 86 dX2_advance_67 (by decide) (fun c_67 => ?_) (fun c_67 => ?_)
    · refine wp_iload_n (pc := 86) 2 dX2_advance_86 rfl rfl ?_
      refine wc_S_I (pc := 87) dX2_advance_87 lkX2_120 (by decide) (Nat.le_of_ble_eq_true rfl) ?_
      refine c_X2_isSmall_s hl ?_
      refine wp_ifeqB (pc := 90) 140 dX2_advance_90 (by decide) (fun c_90 => ?_) (fun c_90 => ?_)
      · refine wp_iload_n (pc := 140) 2 dX2_advance_140 rfl rfl ?_
        refine wc_S_I (pc := 141) dX2_advance_141 lkX2_124 (by decide) (Nat.le_of_ble_eq_true rfl) ?_
        refine c_X2_isDigit_s hl ?_
        refine wp_ifeqB (pc := 144) 203 dX2_advance_144 (by decide) (fun c_144 => ?_) (fun c_144 => ?_)
        · refine wp_aload_n (pc := 203) 0 dX2_advance_203 rfl rfl ?_
          refine wp_iload_n (pc := 204) 2 dX2_advance_204 rfl rfl ?_
          refine wp_bipush (pc := 205) (59) dX2_advance_205 (by decide) ?_
          refine wp_icmp_ne (pc := 207) 214 dX2_advance_207 (by decide) (fun c_207 => ?_) (fun c_207 => ?_)
          · refine wp_iconst (pc := 214) (4) dX2_advance_214 (by decide) ?_
            refine wq_putI (pc := 215) 15 1 dX2_advance_215 s0_37 flX2_15 rfl rfl (by decide) ?_
            refine wp_ret (pc := 218) dX2_advance_218 rfl ?_
            have hk : srtk sz tp q = 4 := by rw [srtk_3 e c_90 c_144, if_neg (fun z => c_207 (by rw [z]; rfl))]
            refine k _ (by rw [hk]; simp [sm_up]; rfl) (by simp [sm_up, h2]) (by simp [sm_up, endk, hk]) (fun z => absurd (hk.symm.trans z) (by decide)) (by simp [sm_up]) (fun a ha => by repeat rw [sm_up_ne ha])
          · refine wp_iconst (pc := 210) (3) dX2_advance_210 (by decide) ?_
            refine wp_goto (pc := 211) 215 dX2_advance_211 (by decide) ?_
            refine wq_putI (pc := 215) 15 1 dX2_advance_215 s0_37 flX2_15 rfl rfl (by decide) ?_
            refine wp_ret (pc := 218) dX2_advance_218 rfl ?_
            have hk : srtk sz tp q = 3 := by rw [srtk_3 e c_90 c_144, if_pos ((nI_eq (b := 59) (by omega) (by decide)).mp c_207)]
            refine k _ (by rw [hk]; simp [sm_up]; rfl) (by simp [sm_up, h2]) (by simp [sm_up, endk, hk]) (fun z => absurd (hk.symm.trans z) (by decide)) (by simp [sm_up]) (fun a ha => by repeat rw [sm_up_ne ha])
        · refine wp_aload_n (pc := 147) 0 dX2_advance_147 rfl rfl ?_
          refine wp_iconst (pc := 148) (2) dX2_advance_148 (by decide) ?_
          refine wq_putI (pc := 149) 15 1 dX2_advance_149 s0_37 flX2_15 rfl rfl (by decide) ?_
          refine wp_iconst (pc := 152) (0) dX2_advance_152 (by decide) ?_
          refine wp_istore_n (pc := 153) 3 dX2_advance_153 rfl (by decide) rfl ?_
          have hk := srtk_2 e c_90 c_144
          rw [show (S0, sm_up (sm_up F 37 3 (nI (q + 1))) 37 1 2, I, J) = (S0, sm_up (sm_up F 37 1 2) 37 3 (nI (q + 1 + 0)), I, J) by rw [up_sw (by decide)]]
          refine wp_loop (fun i => [.ref 37, .ref 35, .int (nI l), .int (nI i)]) (fun i => (S0, sm_up (sm_up F 37 1 2) 37 3 (nI (q + 1 + i)), I, J)) (fun i => q + 1 + i ≤ sz ∧ run isDg sz tp (q + 1) = run isDg sz tp (q + 1 + i)) 250 (fun i hi hv nx => ?_) (fun hv => absurd hv.1 (by omega)) 0 (Nat.zero_le _) ⟨by omega, rfl⟩
          · obtain ⟨hv1, hv2⟩ := hv
            refine wp_iload_n (pc := 154) 3 dX2_advance_154 rfl rfl ?_
            refine wp_sipush (pc := 155) (250) dX2_advance_155 (by decide) ?_
            refine wp_icmp_ge (pc := 158) 191 dX2_advance_158 (by decide) (fun c_158 => ?_) (fun c_158 => ?_)
            · exact absurd c_158 (nI_ge (b := 250) hi (by decide))
            · refine wp_aload_n (pc := 161) 1 dX2_advance_161 rfl rfl ?_
              refine wp_aload_n (pc := 162) 0 dX2_advance_162 rfl rfl ?_
              refine wq_getI (pc := 163) 21 3 dX2_advance_163 s0_37 flX2_21 rfl (by decide) ?_
              refine wp_int up_eq ?_
              refine wc_V_I (pc := 166) dX2_advance_166 lkX2_117 (sm_Rc.o (ci := 3) s0_35 (by decide) (by decide)) (by decide) (Nat.le_of_ble_eq_true rfl) ?_
              refine c_X4_letterAt (by first | exact hP | exact hP.up | exact hP.up.up | exact hP.up.up.up | exact hP.up.up.up.up) hz (by omega) ?_
              refine wc_S_I (pc := 169) dX2_advance_169 lkX2_124 (by decide) (Nat.le_of_ble_eq_true rfl) ?_
              refine c_X2_isDigit (ltr_lt ht _) ?_
              refine wp_ifeqB (pc := 172) 191 dX2_advance_172 (by decide) (fun c_172 => ?_) (fun c_172 => ?_)
              · have he : q + 1 + i = run isDg sz tp (q + 1) := by rw [hv2]; exact (run_f (oP_f c_172)).symm
                have hge := run_ge (P := isDg) (sz := sz) (tp := tp) (p := q + 1)
                have hle := run_le (P := isDg) (tp := tp) (show q + 1 ≤ sz by omega)
                rw [he]
                refine wp_aload_n (pc := 191) 0 dX2_advance_191 rfl rfl ?_
                refine wp_aload_n (pc := 192) 0 dX2_advance_192 rfl rfl ?_
                refine wp_aload_n (pc := 193) 1 dX2_advance_193 rfl rfl ?_
                refine wc_V_R (pc := 194) dX2_advance_194 lkX2_127 (sm_Rc.o (ci := 1) s0_37 (by decide) (by decide)) (by decide) (Nat.le_of_ble_eq_true rfl) ?_
                refine c_X2_numberHere (by first | exact hP | exact hP.up | exact hP.up.up | exact hP.up.up.up | exact hP.up.up.up.up) hz ht (q := q) (e := run isDg sz tp (q + 1)) (by simp [sm_up, h2]) up_eq (by omega) hle (fun j h5 h6 => ?_) ?_
                · by_cases e6 : j = q
                  · rw [e6, hq.2]; exact c_144
                  · exact run_P (p := q + 1) (by omega) h6
                refine wq_putI (pc := 197) 24 4 dX2_advance_197 s0_37 flX2_24 rfl rfl (by decide) ?_
                refine wp_goto (pc := 200) 218 dX2_advance_200 (by decide) ?_
                refine wp_ret (pc := 218) dX2_advance_218 rfl ?_
                refine k _ (by rw [hk]; simp [sm_up]; rfl) (by simp [sm_up, h2]) (by simp [sm_up, endk, hk]) (fun z => by simp [sm_up, nmk, endk, hk]) (by simp [sm_up]) (fun a ha => by repeat rw [sm_up_ne ha])
              · refine wp_aload_n (pc := 175) 0 dX2_advance_175 rfl rfl ?_
                refine wp_dup (pc := 176) dX2_advance_176 rfl ?_
                refine wq_getI (pc := 177) 21 3 dX2_advance_177 s0_37 flX2_21 rfl (by decide) ?_
                refine wp_int up_eq ?_
                refine wp_iconst (pc := 180) (1) dX2_advance_180 (by decide) ?_
                refine wp_iadd (pc := 181) dX2_advance_181 ?_
                refine wp_int (nI_1 _) ?_
                refine wq_putI (pc := 182) 21 3 dX2_advance_182 s0_37 flX2_21 rfl rfl (by decide) ?_
                refine wp_incN (pc := 185) 3 dX2_advance_185 rfl (by decide) rfl ?_
                refine wp_goto (pc := 188) 154 dX2_advance_188 (by decide) ?_
                have hh := oP_t c_172
                have nx := nx ⟨by omega, by rw [hv2, run_t hh.1 hh.2]; rfl⟩
                rw [up_up]
                exact nx
      · refine wp_aload_n (pc := 93) 0 dX2_advance_93 rfl rfl ?_
        refine wp_iconst (pc := 94) (1) dX2_advance_94 (by decide) ?_
        refine wq_putI (pc := 95) 15 1 dX2_advance_95 s0_37 flX2_15 rfl rfl (by decide) ?_
        refine wp_iconst (pc := 98) (0) dX2_advance_98 (by decide) ?_
        refine wp_istore_n (pc := 99) 3 dX2_advance_99 rfl (by decide) rfl ?_
        have hk := srtk_1 e c_90
        rw [show (S0, sm_up (sm_up F 37 3 (nI (q + 1))) 37 1 1, I, J) = (S0, sm_up (sm_up F 37 1 1) 37 3 (nI (q + 1 + 0)), I, J) by rw [up_sw (by decide)]]
        refine wp_loop (fun i => [.ref 37, .ref 35, .int (nI l), .int (nI i)]) (fun i => (S0, sm_up (sm_up F 37 1 1) 37 3 (nI (q + 1 + i)), I, J)) (fun i => q + 1 + i ≤ sz ∧ run isSm sz tp (q + 1) = run isSm sz tp (q + 1 + i)) 250 (fun i hi hv nx => ?_) (fun hv => absurd hv.1 (by omega)) 0 (Nat.zero_le _) ⟨by omega, rfl⟩
        · obtain ⟨hv1, hv2⟩ := hv
          refine wp_iload_n (pc := 100) 3 dX2_advance_100 rfl rfl ?_
          refine wp_sipush (pc := 101) (250) dX2_advance_101 (by decide) ?_
          refine wp_icmp_ge (pc := 104) 137 dX2_advance_104 (by decide) (fun c_104 => ?_) (fun c_104 => ?_)
          · exact absurd c_104 (nI_ge (b := 250) hi (by decide))
          · refine wp_aload_n (pc := 107) 1 dX2_advance_107 rfl rfl ?_
            refine wp_aload_n (pc := 108) 0 dX2_advance_108 rfl rfl ?_
            refine wq_getI (pc := 109) 21 3 dX2_advance_109 s0_37 flX2_21 rfl (by decide) ?_
            refine wp_int up_eq ?_
            refine wc_V_I (pc := 112) dX2_advance_112 lkX2_117 (sm_Rc.o (ci := 3) s0_35 (by decide) (by decide)) (by decide) (Nat.le_of_ble_eq_true rfl) ?_
            refine c_X4_letterAt (by first | exact hP | exact hP.up | exact hP.up.up | exact hP.up.up.up | exact hP.up.up.up.up) hz (by omega) ?_
            refine wc_S_I (pc := 115) dX2_advance_115 lkX2_120 (by decide) (Nat.le_of_ble_eq_true rfl) ?_
            refine c_X2_isSmall (ltr_lt ht _) ?_
            refine wp_ifeqB (pc := 118) 137 dX2_advance_118 (by decide) (fun c_118 => ?_) (fun c_118 => ?_)
            · have he : q + 1 + i = run isSm sz tp (q + 1) := by rw [hv2]; exact (run_f (oP_f c_118)).symm
              rw [he]
              refine wp_goto (pc := 137) 218 dX2_advance_137 (by decide) ?_
              refine wp_ret (pc := 218) dX2_advance_218 rfl ?_
              refine k _ (by rw [hk]; simp [sm_up]; rfl) (by simp [sm_up, h2]) (by simp [sm_up, endk, hk]) (fun z => absurd (hk.symm.trans z) (by decide)) (by simp [sm_up]) (fun a ha => by repeat rw [sm_up_ne ha])
            · refine wp_aload_n (pc := 121) 0 dX2_advance_121 rfl rfl ?_
              refine wp_dup (pc := 122) dX2_advance_122 rfl ?_
              refine wq_getI (pc := 123) 21 3 dX2_advance_123 s0_37 flX2_21 rfl (by decide) ?_
              refine wp_int up_eq ?_
              refine wp_iconst (pc := 126) (1) dX2_advance_126 (by decide) ?_
              refine wp_iadd (pc := 127) dX2_advance_127 ?_
              refine wp_int (nI_1 _) ?_
              refine wq_putI (pc := 128) 21 3 dX2_advance_128 s0_37 flX2_21 rfl rfl (by decide) ?_
              refine wp_incN (pc := 131) 3 dX2_advance_131 rfl (by decide) rfl ?_
              refine wp_goto (pc := 134) 100 dX2_advance_134 (by decide) ?_
              have hh := oP_t c_118
              have nx := nx ⟨by omega, by rw [hv2, run_t hh.1 hh.2]; rfl⟩
              rw [up_up]
              exact nx
    · exact absurd c_67 (m1_ne (by omega))
end ADV
