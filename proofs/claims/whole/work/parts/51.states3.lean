/-! ===== the states stay well: years, back, a tower, what is told ===== -/
theorem ok_tell {s : Sg} (ok : Ok s) (x y : Int32) : Ok (do_tell s x y).2 := by
  unfold do_tell
  refine ok.gt fun h1 => ?_
  have hx := upB_n (m := 2) (by decide) (and_g h1).1
  have hm := mostQ_le x.toNatClampNeg
  have hy := upB_n (m := mostQ x.toNatClampNeg) (by omega) (and_g h1).2
  refine ok.f (WF_far ok.1 (by omega) ⟨fun e => ?_, fun e => ?_, fun e => ?_, by omega⟩) (Nat.le_of_eq (fu_ne (by omega)).symm)
  · rw [show x.toNatClampNeg = 0 by omega] at hy; exact hy
  · rw [show x.toNatClampNeg = 1 by omega] at hy; exact hy
  · rw [show x.toNatClampNeg = 2 by omega] at hy; exact hy
theorem ok_give {s : Sg} (ok : Ok s) (x y z : Int32) : Ok (do_give s x y z).2 := by
  unfold do_give
  refine ok.gt fun h1 => ?_
  have hi := isTh_n ok (and_g h1).1
  have hn := ok.1.n
  have hp := upB_n (m := 3) (by decide) (and_g (and_g h1).2).1
  have hm := mostP_le y.toNatClampNeg
  have hz := upB_n (m := mostP y.toNatClampNeg) (by omega) (and_g (and_g h1).2).2
  have hpj : pj y.toNatClampNeg ≤ 4 := by unfold pj; split <;> omega
  refine ok.f ?_ (Nat.le_of_eq (fu_ne (by omega)).symm)
  rcases (show y.toNatClampNeg = 0 ∨ y.toNatClampNeg = 1 ∨ y.toNatClampNeg = 2 ∨ y.toNatClampNeg = 3 by omega) with e | e | e | e
  · rw [e] at hz ⊢; exact WF_worth ok.1 (by omega) hz
  · rw [e] at hz ⊢; exact WF_rung ok.1 (by omega) hz
  · rw [e] at hz ⊢; exact WF_age ok.1 (by omega) hz
  · rw [e] at hz ⊢; exact WF_been ok.1 hi hz
theorem fgt_s {m k : Nat} {o : Option Nat} (h : fgt m o = some k) : o = some k ∧ (10 ≤ k → k - 10 < m) := by
  cases o with
  | none => unfold fgt hrg at h; cases h
  | some j =>
    by_cases hj : 10 ≤ j
    · have hg : hrg (some j) = some (j - 10) := if_pos hj
      by_cases hm : m ≤ j - 10
      · rw [fgt_f hg hm] at h; cases h
      · rw [fgt_k hg hm] at h; cases h; exact ⟨rfl, fun _ => by omega⟩
    · have hg : hrg (some j) = none := if_neg hj
      rw [fgt_n hg] at h; cases h; exact ⟨rfl, fun z => absurd z hj⟩
theorem ok_back {s : Sg} (ok : Ok s) : Ok (do_back s).2 := by
  unfold do_back
  refine ok.gt fun _ => ?_
  refine ⟨ok.2.1, ok.2.1, ok.2.2.1, ok.2.2.2.1, ⟨fun i k e => ok.2.2.2.2.1.1 i k (fgt_s e).1, ok.2.2.2.2.1.2⟩, fun i r e => ?_⟩
  have := (fgt_s e).2 (by omega)
  show r < sgk s 69
  omega
