/-! ===== the states stay well, the rest ===== -/
theorem Ok.h {s : Sg} {hd : Nat → Option Nat} {zs : Nat → Nat} {el : Nat → Int64} (ok : Ok s) (h : hok hd zs) (h2 : ∀ i r, hd i = some (10 + r) → r < sgf s 69) : Ok (stS s hd zs el) := ⟨ok.1, ok.2.1, ok.2.2.1, ok.2.2.2.1, h, h2⟩
theorem ok_feed {s : Sg} (ok : Ok s) (x : Int32) : Ok (do_feed s x).2 := by
  unfold do_feed
  refine ok.gt fun h1 => ok.gt fun h2 => ?_
  have h2 := of_decide_eq_true h2
  have h3 := upB_n (m := 255) (by decide) h1
  refine ⟨ok.1, ok.2.1, h2, fun j => ?_, ok.2.2.2.2⟩
  show pu (sgt s) (sgz s) x.toNatClampNeg j < 256
  unfold pu
  split
  · omega
  · exact ok.2.2.2.1 j
theorem ok_wipe {s : Sg} (ok : Ok s) : Ok (do_wipe s).2 := ⟨ok.1, ok.2.1, Nat.zero_le _, ok.2.2.2⟩
theorem ok_row {s : Sg} (ok : Ok s) (x y z : Int32) : Ok (do_row s x y z).2 := by
  unfold do_row
  refine ok.gt fun h1 => ?_
  have h4 := upB_n (m := 4) (by decide) (and_g (and_g h1).2).1
  have h40 := upB_n (m := 40) (by decide) (and_g (and_g h1).2).2
  refine ok.h ⟨fun i k e => ?_, fun i => ?_⟩ (fun i r e => ?_)
  · unfold pu at e
    split at e
    · cases e; exact Or.inl h4
    · exact ok.2.2.2.2.1.1 i k e
  · unfold pu
    split
    · exact h40
    · exact ok.2.2.2.2.1.2 i
  · unfold pu at e
    split at e
    · have := Option.some.inj e; omega
    · exact ok.2.2.2.2.2 i r e
theorem ok_show {s : Sg} (ok : Ok s) (x y : Int32) : Ok (do_show s x y).2 := by
  unfold do_show
  refine ok.gt fun h1 => ?_
  have hc := ok.1.c
  have hy : ¬ y = -1 → y.toNatClampNeg < sgf s 69 := by
    intro hn
    rcases Bool.or_eq_true_iff.mp (and_g h1).2 with h | h
    · exact absurd (of_decide_eq_true h) hn
    · obtain ⟨j, hj, rfl⟩ := (i32_in (by omega)).mp (of_decide_eq_true h)
      rw [nI_clamp (by omega)]; exact hj
  refine ok.h ⟨fun i k e => ?_, ok.2.2.2.2.1.2⟩ (fun i r e => ?_)
  · unfold pu at e
    split at e
    · split at e
      · cases e
      · rename_i hn
        have := hy hn
        cases e; omega
    · exact ok.2.2.2.2.1.1 i k e
  · unfold pu at e
    split at e
    · split at e
      · cases e
      · rename_i hn
        have := hy hn
        have := Option.some.inj e
        omega
    · exact ok.2.2.2.2.2 i r e
theorem ok_copy {s : Sg} (ok : Ok s) (x y z u v : Int32) : Ok (do_copy s x y z u v).2 := by
  unfold do_copy
  exact ok.gt fun _ => ok.gt fun _ => ok.gt fun _ => ok.gt fun _ => ok.gt fun _ => ok
theorem ok_set {s : Sg} (ok : Ok s) (x y : Int32) (v : Int64) : Ok (do_set s x y v).2 := by
  unfold do_set
  split
  · split
    · exact ok
    · split
      · exact ok
      · split <;> exact ok
  · exact ok
