/-! ===== the states stay well ===== -/
theorem Ok.r {s : Sg} (ok : Ok s) (j : Nat) : Ok (stR s j) := ok
theorem Ok.gt {s : Sg} {j : Nat} {c : Bool} {a : Int32 × Sg} (ok : Ok s) (h : c = true → Ok a.2) : Ok (gat j c a s).2 := by
  unfold gat
  split
  · exact h (by assumption)
  · exact ok.r j
theorem Ok.f {s : Sg} {f : rw_} (ok : Ok s) (hw : WF f) (hc : sgf s 69 ≤ f 69) : Ok (stF s f) := ⟨hw, ok.2.1, ok.2.2.1, ok.2.2.2.1, ok.2.2.2.2.1, fun i r e => Nat.lt_of_lt_of_le (ok.2.2.2.2.2 i r e) hc⟩
theorem upB_n {x : Int32} {m : Nat} (hm : m < 2 ^ 31) (h : upB x (nI m) = true) : x.toNatClampNeg ≤ m := by
  obtain ⟨j, hj, rfl⟩ := (i32_le hm).mp (of_decide_eq_true h)
  rw [nI_clamp (by omega)]; exact hj
theorem isTh_n {s : Sg} {x : Int32} (ok : Ok s) (h : isTh s x = true) : x.toNatClampNeg < sgf s 68 := by
  have hn := ok.1.n
  obtain ⟨j, hj, rfl⟩ := (i32_in (by omega)).mp (of_decide_eq_true h)
  rw [nI_clamp (by omega)]; exact hj
theorem inS_n {x : Int32} (h : inS x = true) : x.toNatClampNeg < 8 := by
  obtain ⟨j, hj, rfl⟩ := (i32_in (n := 8) (by decide)).mp (of_decide_eq_true h)
  rw [nI_clamp (by omega)]; exact hj
theorem and_g {a b : Bool} (h : (a && b) = true) : a = true ∧ b = true := Bool.and_eq_true_iff.mp h
theorem ok_thing {s : Sg} (ok : Ok s) (x y : Int32) : Ok (do_thing s x y).2 := by
  unfold do_thing
  refine ok.gt fun h1 => ok.gt fun h2 => ?_
  have h2 := of_decide_eq_true h2
  refine ok.f (WF_addT ok.1 h2 (upB_n (m := 99) (by decide) (and_g h1).1) (upB_n (m := 3) (by decide) (and_g h1).2)) (Nat.le_of_eq ?_)
  unfold addT
  rw [fu_ne (by decide), fu_ne (by omega), fu_ne (by omega), fu_ne (by omega), fu_ne (by omega), fu_ne (by omega)]
theorem ok_ringer {s : Sg} (ok : Ok s) (x y z : Int32) : Ok (do_ringer s x y z).2 := by
  unfold do_ringer
  refine ok.gt fun h1 => ok.gt fun h2 => ?_
  have h2 := of_decide_eq_true h2
  refine ok.f (WF_addR ok.1 h2 (upB_n (m := 5) (by decide) (and_g h1).1) (upB_n (m := 9) (by decide) (and_g (and_g h1).2).1) (upB_n (m := 7) (by decide) (and_g (and_g h1).2).2)) ?_
  unfold addR
  rw [fu_eq]; omega
theorem ok_free {s : Sg} (ok : Ok s) (x : Int32) : Ok (do_free s x).2 := by
  unfold do_free
  refine ok.gt fun h1 => ?_
  have hi := isTh_n ok h1
  have hn := ok.1.n
  exact ok.f (WF_on ok.1 hi (Nat.two_pow_pos _)) (Nat.le_of_eq (fu_ne (by omega)).symm)
theorem ok_hang {s : Sg} (ok : Ok s) (x y z : Int32) : Ok (do_hang s x y z).2 := by
  unfold do_hang
  refine ok.gt fun h1 => ?_
  have hi := isTh_n ok (and_g h1).1
  have hn := ok.1.n
  have hl : y.toNatClampNeg < x.toNatClampNeg := by
    have h := of_decide_eq_true (and_g (and_g h1).2).1
    obtain ⟨i, hi, rfl⟩ := (i32_in (by omega)).mp (of_decide_eq_true (and_g h1).1)
    obtain ⟨j, hj, rfl⟩ := (i32_in (n := i) (by omega)).mp h
    rw [nI_clamp (by omega), nI_clamp (by omega)]; exact hj
  refine ok.f (WF_on ok.1 hi ?_) (Nat.le_of_eq (fu_ne (by omega)).symm)
  have ho := ok.1.on (show x.toNatClampNeg < 10 by omega)
  unfold hgN
  split
  · exact or_lt ho (p2_lt hl)
  · exact dif_le _ _ ho
theorem ok_ring {s : Sg} (ok : Ok s) (x : Int32) : Ok (do_ring s x).2 := by
  unfold do_ring
  refine ok.gt fun h1 => ok.gt fun _ => ?_
  have hi := isTh_n ok h1
  have hn := ok.1.n
  refine ok.f (WF_rgT ok.1 hi) (Nat.le_of_eq ?_)
  unfold rgT
  split
  · exact (fu_ne (by omega)).symm
  · rw [fu_ne (by omega), fu_ne (by omega), fu_ne (by omega)]
theorem ok_day {s : Sg} (ok : Ok s) : Ok (do_day s).2 := by
  unfold do_day
  exact ok.f (WF_far ok.1 (by decide) ⟨fun _ => by omega, by omega, by omega, by omega⟩) (Nat.le_of_eq (fu_ne (by decide)).symm)
theorem ok_seed {s : Sg} (ok : Ok s) (x : Int32) : Ok (do_seed s x).2 := by
  unfold do_seed
  exact ok.f (WF_seed ok.1 x.toBitVec.isLt) (Nat.le_of_eq (fu_ne (by decide)).symm)
theorem ok_image {s : Sg} (ok : Ok s) : Ok (do_image s).2 := ⟨ok.1, ok.1, ok.2.2.1, ok.2.2.2.1, ok.2.2.2.2.1, ok.2.2.2.2.2⟩
