/-! ===== the states stay well, for every call; what the other side leaves ===== -/
theorem rgT_69 (f : rw_) {i : Nat} (hi : i < 10) : rgT f i 69 = f 69 := by
  unfold rgT
  split
  · rw [fu_ne (by omega)]
  · rw [fu_ne (by omega), fu_ne (by omega), fu_ne (by omega)]
theorem rbd_69 {f : rw_} (hn : f 68 ≤ 10) (h0 : 0 < f 68) : (rbd f).2 69 = f 69 := by
  unfold rbd
  split
  · rfl
  · have := whc_lt h0
    show rgT _ _ 69 = _
    rw [rgT_69 _ (by omega)]; rfl
theorem yr_69 {f : rw_} (hw : WF f) (h0 : 0 < f 68) : (yr f).2 69 = f 69 := by
  have hC : yrC f 69 = f 69 := by
    unfold yrC
    rw [rbd_69 (by rw [yrB_68]; exact hw.n) (by rw [yrB_68]; exact h0)]; rfl
  unfold yr
  show (if dr (sd (yrC f 73)) 10 = 0 then fu (yrD f) 72 (yrD f 72 ||| 2 ^ dr (yrC f 73) 8) else yrD f : rw_) 69 = f 69
  split
  · show yrD f 69 = _
    exact hC
  · exact hC
theorem yU_69 {f : rw_} (hw : WF f) (h0 : 0 < f 68) : ∀ k, (yU f k).2 69 = f 69
  | 0 => rfl
  | k + 1 => by
    obtain ⟨h1, h2⟩ := yU_ok hw h0 k
    have h3 : 0 < (yU f k).2 68 := by omega
    exact (yr_69 h1 h3).trans (yU_69 hw h0 k)
theorem ok_years {s : Sg} (ok : Ok s) (x : Int32) : Ok (do_years s x).2 := by
  unfold do_years
  refine ok.gt fun h1 => ok.gt fun h2 => ?_
  have h0 : 0 < sgf s 68 := Nat.pos_of_ne_zero (of_decide_eq_true h2)
  exact ok.f (yU_ok ok.1 h0 _).1 (Nat.le_of_eq (yU_69 ok.1 h0 _).symm)
theorem cry_69 {f : rw_} (hw : WF f) {w a b c : Nat} (h10 : w < 10) (hno : noRm f w = false) (ha : a < lmW f w 0 0) : f 69 ≤ cry f w a b c 69 := by
  have hn := hw.n
  rcases (show w = 0 ∨ w = 1 ∨ w = 2 ∨ w = 3 ∨ w = 4 ∨ w = 5 ∨ w = 6 ∨ w = 7 ∨ w = 8 ∨ w = 9 by omega) with rfl | rfl | rfl | rfl | rfl | rfl | rfl | rfl | rfl | rfl
  · have hr : f 68 < 10 := Nat.lt_of_not_le fun z => by simp [noRm, Nat.not_lt.mpr z] at hno
    show f 69 ≤ addT f a b 69
    unfold addT
    rw [fu_ne (by decide), fu_ne (by omega), fu_ne (by omega), fu_ne (by omega), fu_ne (by omega), fu_ne (by omega)]
    exact Nat.le_refl _
  · have ha : a < f 68 := ha
    exact Nat.le_of_eq (fu_ne (by omega)).symm
  · have ha : a < f 68 := ha
    exact Nat.le_of_eq (fu_ne (by omega)).symm
  · have ha : a < f 68 := ha
    exact Nat.le_of_eq (fu_ne (by omega)).symm
  · have ha : a < f 68 := ha
    exact Nat.le_of_eq (fu_ne (by omega)).symm
  · show f 69 ≤ addR f a b c 69
    unfold addR
    rw [fu_eq]; omega
  · exact Nat.le_of_eq (fu_ne (by omega)).symm
  · exact Nat.le_of_eq (fu_ne (by omega)).symm
  · exact Nat.le_of_eq (fu_ne (by omega)).symm
  · exact Nat.le_of_eq (fu_ne (by omega)).symm
theorem stm_69 {sz : Nat} {tp : Nat → Nat} {f : rw_} {q : Nat} (hw : WF f) : f 69 ≤ (stm sz tp f q).2.1 69 := by
  cases e : wrd sz tp q with
  | none => rw [stm_n e]; exact Nat.le_refl _
  | some w =>
    cases e2 : noRm f w with
    | true => rw [stm_r e e2]; exact Nat.le_refl _
    | false =>
      rw [stm_w e e2]
      cases r1 : rdT sz tp (nxk sz tp q) (lmW f w 0 0) with
      | false => rw [stN1_f r1]; exact Nat.le_refl _
      | true =>
        have g1 := (rdT_g r1).2
        by_cases c1 : cnW w = 1
        · rw [stN1_1 r1 c1]; exact cry_69 hw (wrd_lt e) e2 g1
        · rw [stN1_2 r1 c1]
          cases r2 : rdT sz tp (nxk sz tp (nxk sz tp q)) (lmW f w 1 (nmk sz tp (nxk sz tp q))) with
          | false => rw [stN2_f r2]; exact Nat.le_refl _
          | true =>
            by_cases c2 : cnW w = 2
            · rw [stN2_2 r2 c2]; exact cry_69 hw (wrd_lt e) e2 g1
            · rw [stN2_3 r2 c2]
              cases r3 : rdT sz tp (nxk sz tp (nxk sz tp (nxk sz tp q))) (lmW f w 2 (nmk sz tp (nxk sz tp q))) with
              | false => rw [stN3_f r3]; exact Nat.le_refl _
              | true => rw [stN3_t r3]; exact cry_69 hw (wrd_lt e) e2 g1
theorem twU_ok {sz : Nat} {tp : Nat → Nat} : ∀ (k : Nat) (f : rw_) (q n : Nat), WF f → q ≤ sz → WF (twU sz tp k f q n).2.1 ∧ f 69 ≤ (twU sz tp k f q n).2.1 69
  | 0, f, q, n, hw, hq => ⟨hw, Nat.le_refl _⟩
  | k + 1, f, q, n, hw, hq => by
    obtain ⟨h1, h2⟩ := stm_ok (tp := tp) hw hq
    have h3 := stm_69 (sz := sz) (tp := tp) (q := q) hw
    cases e : (stm sz tp f q).1 with
    | false => rw [tw_f e]; exact ⟨h1, h3⟩
    | true =>
      by_cases e2 : srtk sz tp (stm sz tp f q).2.2 = 0
      · rw [tw_0 e e2]; exact ⟨h1, h3⟩
      · by_cases e3 : srtk sz tp (stm sz tp f q).2.2 = 3
        · rw [tw_3 e e3]
          obtain ⟨g1, g2⟩ := twU_ok (sz := sz) (tp := tp) k _ (nxk sz tp (stm sz tp f q).2.2) (n + 1) h1 (nxk_le h2)
          exact ⟨g1, Nat.le_trans h3 g2⟩
        · rw [tw_e e e2 e3]; exact ⟨h1, h3⟩
theorem Ok.t0 {s : Sg} (ok : Ok s) : Ok (stT s 0 (sgt s)) := ⟨ok.1, ok.2.1, Nat.zero_le _, ok.2.2.2⟩
theorem ok_tower {s : Sg} (ok : Ok s) : Ok (do_tower s).2 := by
  cases e : (twU (sgz s) (sgt s) 250 (sgf s) (tks (sgz s) (sgt s) 0) 0).1 with
  | none =>
    rw [do_tower_n e]
    obtain ⟨h1, h2⟩ := twU_ok (sz := sgz s) (tp := sgt s) 250 (sgf s) (tks (sgz s) (sgt s) 0) 0 ok.1 (tks_le (Nat.zero_le _)).2
    exact ok.t0.f h1 h2
  | some q => rw [do_tower_s e]; exact ok.t0.r 0
theorem Ok.q {s : Sg} {c : Bool} {v : Int32} (ok : Ok s) : Ok (qry c v s).2 := by
  unfold qry
  split
  · exact ok
  · exact ok.r 0
theorem ok_judge {s : Sg} (ok : Ok s) (x y : Int32) : Ok (do_judge s x y).2 := by
  unfold do_judge
  split
  · exact ok.r _
  · exact ok
theorem ok_behind {s : Sg} (ok : Ok s) (x y z : Int32) : Ok (do_behind s x y z).2 := by
  unfold do_behind
  split
  · split
    · exact ok.r _
    · unfold bhV
      split
      · exact ok.r _
      · exact ok
  · exact ok.r _
theorem ok_says {s : Sg} (ok : Ok s) (x y : Int32) : Ok (do_says s x y).2 := by
  unfold do_says
  refine ok.gt fun _ => ?_
  split
  · exact ok.r _
  · split
    · unfold syV
      split
      · exact ok
      · exact ok.r _
    · exact ok.r _
theorem ok_s0 : Ok s0 := by
  have h : WF f0 := ⟨by decide, by decide, by decide, by decide, by decide, by decide, by decide, by decide, by decide⟩
  refine ⟨h, h, by decide, fun _ => (show (0 : Nat) < 256 by decide), ⟨fun i k e => (by cases e), fun _ => Nat.zero_le 40⟩, fun i r e => (by cases e)⟩
theorem CR.lo {s : Sg} {F I F1 I1 : Nat → Nat → Int32} {J J1 : Nat → Nat → Int64} (h : CR s F I J) (hl : Lo F I J F1 I1 J1) : CR s F1 I1 J1 := by
  obtain ⟨h1, h2, h3, h4, h5, h6, h7, h8⟩ := h
  refine ⟨h1.frame (fun a ha => (hl a (by omega)).1) (fun a _ _ => (hl a (by omega)).2.1), fun z => (h2 z).frame (fun a ha => (hl a (by omega)).1) (fun a _ _ => (hl a (by omega)).2.1), ?_, fun j hj => ?_, ⟨?_, fun j hj => ?_⟩, fun x hx => ?_, fun x hx => ?_, fun x hx => ?_⟩
  · rw [(hl 0 (by decide)).1]; exact h3
  · rw [(hl 39 (by decide)).2.1]; exact h4 j hj
  · rw [(hl 35 (by decide)).1]; exact h5.1
  · rw [(hl 36 (by decide)).2.1]; exact h5.2 j hj
  · rw [(hl 32 (by decide)).2.1]; exact h6 x hx
  · rw [(hl (32 + 1) (by decide)).2.1]; exact h7 x hx
  · rw [(hl (32 + 2) (by decide)).2.2]; exact h8 x hx
theorem MR.hi {s : Sg} {F I F1 I1 : Nat → Nat → Int32} {J J1 : Nat → Nat → Int64} (h : MR s F I J) (hl : Hi F I J F1 I1 J1) : MR s F1 I1 J1 := by
  obtain ⟨g1, g2, g3, g4, g5, ⟨g6, g6b, g6c⟩, g7, g8⟩ := h
  refine ⟨fun j hj => ?_, fun z j hj => ?_, ?_, fun j hj => ?_, ⟨?_, fun j hj => ?_⟩, ⟨fun x hx => ?_, fun x hx => ?_, fun x hx => ?_⟩, fun j hj => ?_, fun j hj => ?_⟩
  · rw [(hl 41 (by decide)).2.1]; exact g1 j hj
  · rw [(hl 43 (by decide)).2.1]; exact g2 z j hj
  · rw [(hl 40 (by decide)).1]; exact g3
  · rw [(hl 44 (by decide)).2.1]; exact g4 j hj
  · rw [(hl 40 (by decide)).1]; exact g5.1
  · rw [(hl 45 (by decide)).2.1]; exact g5.2 j hj
  · rw [(hl 47 (by decide)).2.1]; exact g6 x hx
  · rw [(hl (47 + 1) (by decide)).2.1]; exact g6b x hx
  · rw [(hl (47 + 2) (by decide)).2.2]; exact g6c x hx
  · rw [(hl 46 (by decide)).2.1]; exact g7 j hj
  · rw [(hl 51 (by decide)).2.1]; exact g8 j hj
