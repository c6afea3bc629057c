/-! ===== from the entry ===== -/
abbrev gvn : Cond := Jvm.Cond.and given_1 narrow_1
theorem gv_ex : ∀ i : Nat, i < 10 → Cond.exactly (Term.string RX2 (sm_six.getD i 0)) "java/lang/String" ∈ flatC gvn := by decide +kernel
theorem gv_co : ∀ i : Nat, i < 10 → Cond.eq (.field (Term.string RX2 (sm_six.getD i 0)) "java/lang/String" "coder" "B") (.int 0) ∈ flatC gvn := by decide +kernel
theorem gv_ar : ∀ i : Nat, i < 10 → Cond.arrayOf (.field (Term.string RX2 (sm_six.getD i 0)) "java/lang/String" "value" "[B") .byte ∈ flatC gvn := by decide +kernel
theorem gv_le : ∀ i : Nat, i < 10 → Cond.eq (.length (.field (Term.string RX2 (sm_six.getD i 0)) "java/lang/String" "value" "[B")) (.int (Int32.ofNat (sm_len.getD i 0))) ∈ flatC gvn := by decide +kernel
theorem gv_el : ∀ i : Nat, i < 10 → ∀ j : Nat, j < sm_len.getD i 0 → Cond.eq (.elem (.field (Term.string RX2 (sm_six.getD i 0)) "java/lang/String" "value" "[B") (.int (Int32.ofNat j))) (.int ((sm_byt.getD i []).getD j 0)) ∈ flatC gvn := by decide +kernel
theorem gv_ne : ∀ i : Nat, i < 10 → ∀ j : Nat, j < 10 → i ≠ j → Cond.not (Cond.eq (Term.string RX2 (sm_six.getD i 0)) (Term.string RX2 (sm_six.getD j 0))) ∈ flatC gvn ∨ Cond.not (Cond.eq (Term.string RX2 (sm_six.getD j 0)) (Term.string RX2 (sm_six.getD i 0))) ∈ flatC gvn := by decide +kernel
theorem gv_cs : Cond.eq (.static "java/lang/String" "COMPACT_STRINGS" "Z") (.int 1) ∈ flatC gvn := by decide +kernel
theorem gv_si : Cond.isRef (.static "jdk/internal/util/Preconditions" "SIOOBE_FORMATTER" "Ljava/util/function/BiFunction;") ∈ flatC gvn := by decide +kernel
theorem gv_ln : ∀ i : Nat, i < 10 → sm_len.getD i 0 < 2 ^ 31 := by decide
theorem tb_sr : ∀ i : Nat, i < 10 → tables_1[504 + i]? = some (Cond.stringRef RX2 (sm_six.getD i 0) (sm_stx.getD i "")) := by decide +kernel
theorem tb_ls : tables_1[527]? = some (Cond.laysStatic "java/lang/String" "COMPACT_STRINGS" "Z") := by decide +kernel
theorem tb_lp : tables_1[543]? = some (Cond.laysStatic "jdk/internal/util/Preconditions" "SIOOBE_FORMATTER" "Ljava/util/function/BiFunction;") := by decide +kernel
theorem tb_is : tables_1[10]? = some (Cond.initialized "java/lang/String") := by decide +kernel
theorem tb_ip : tables_1[12]? = some (Cond.initialized "jdk/internal/util/Preconditions") := by decide +kernel
theorem tb_in {i : Nat} {w : Cond} (h : tables_1[i]? = some w) : w ∈ lw_tbl := List.mem_append_right _ (List.mem_of_getElem? h)
theorem nw_all : ∀ c : Nat, c < 7 → Cond.instantiable (sm_C c) (sm_N c) ∈ sm_Ts := fun c hc => by
  rcases (show c = 0 ∨ c = 1 ∨ c = 2 ∨ c = 3 ∨ c = 4 ∨ c = 5 ∨ c = 6 by omega) with rfl | rfl | rfl | rfl | rfl | rfl | rfl
  · exact nw0
  · exact nw1
  · exact nw2
  · exact nw3
  · exact nw4
  · exact nw5
  · exact nw6
theorem st_arr {s : State} {args : Array Value} {ty : FieldType} (h : (Cond.arrayClass ty).before args s = true) : ∃ cA : ClassId, ArrOfT s cA ty ∧ s.vm.findClass ("[" ++ ty.toString) = some cA := by
  obtain ⟨cA, kA, comp, h1, h2, h3⟩ := Cond.arrayClass_spec h
  exact ⟨cA, fun n z => ⟨fun k h => (by cases h), kA, h2, comp, h3⟩, h1⟩
theorem st_K {s : State} {args : Array Value} (hts : ∀ w ∈ sm_Ts, w.before args s = true) : ∃ (D : va_G) (cA : Nat → ClassId), va_K D vwCl [(cA 0, .int), (cA 1, .long), (cA 2, .char)] s := by
  have h0 : ∀ c : Nat, ∃ q : ClassId × (Nat → Nat), c < 7 → u_Kn s (sm_C c) (sm_T c) (sm_N c) q.1 q.2 := fun c => by
    by_cases hc : c < 7
    · obtain ⟨cC, iS, h⟩ := u_known hts (sm_in c hc) (hts _ (nw_all c hc))
      exact ⟨(cC, iS), fun _ => h⟩
    · obtain ⟨cC, iS, h⟩ := u_known hts (sm_in 0 (by decide)) (hts _ (nw_all 0 (by decide)))
      exact ⟨(cC, iS), fun z => absurd z hc⟩
  obtain ⟨f, hf⟩ := Classical.axiomOfChoice h0
  obtain ⟨a0, g0, n0⟩ := st_arr (hts _ ar_int)
  obtain ⟨a1, g1, n1⟩ := st_arr (hts _ ar_long)
  obtain ⟨a2, g2, n2⟩ := st_arr (hts _ ar_char)
  refine ⟨(fun c => (f c).1, fun c => (f c).2), fun i => if i = 0 then a0 else if i = 1 then a1 else a2, fun c q hq => ?_, fun k q hq => ?_⟩
  · by_cases hc : c < 7
    · rw [sm_cl hc] at hq
      cases hq
      exact hf c hc
    · rw [List.getElem?_eq_none (by show 7 ≤ c; omega)] at hq
      cases hq
  · match k, hq with
    | 0, hq => cases hq; exact ⟨g0, n0⟩
    | 1, hq => cases hq; exact ⟨g1, n1⟩
    | 2, hq => cases hq; exact ⟨g2, n2⟩
    | k + 3, hq => cases hq
theorem st_nw {s : State} {args : Array Value} (hts : ∀ w ∈ lw_tbl, w.before args s = true) : ∀ w ∈ sm_nw, va_Nw w s := fun w hw => by
  obtain ⟨h1, h2⟩ := List.mem_filter.mp hw
  have h3 := hts w (List.mem_append_right _ h1)
  cases w <;> first | (simp [sm_isNest] at h2; done) | exact va_Nw.of rfl h3
theorem st_S {s : State} {args : Array Value} (hts : ∀ w ∈ lw_tbl, w.before args s = true) (hgv : gvn.before args s = true) : ∃ adK adV : Nat → Nat, vk_S 10 sm_len sm_byt adK adV (fun q => s.heap.size ≤ q) s s.heap ∧ (∀ i : Nat, i < 10 → vk_R RX2 (sm_six.getD i 0) (sm_stx.getD i "") (adK i) s) ∧
    va_Z "java/lang/String" "COMPACT_STRINGS" "Z" (.int 1) (fun q => s.heap.size ≤ q) s s.heap ∧ (va_Z "jdk/internal/util/Preconditions" "SIOOBE_FORMATTER" "Ljava/util/function/BiFunction;" .null (fun q => s.heap.size ≤ q) s s.heap ∨ va_Z "jdk/internal/util/Preconditions" "SIOOBE_FORMATTER" "Ljava/util/function/BiFunction;" (.ref (adV 1000)) (fun q => s.heap.size ≤ q) s s.heap) := by
  have hs := flat_of_before _ hgv
  have hA : ∀ a : Nat, a < s.heap.size → ¬ (fun q => s.heap.size ≤ q) a := fun a h => Nat.not_le.mpr h
  obtain ⟨adK, adV, hS, hev⟩ := vk_Sof (args := args) (s := s) (N := 10) (tm := fun i => Term.string RX2 (sm_six.getD i 0)) (len := sm_len) (byt := sm_byt) (A := fun q => s.heap.size ≤ q) gv_ln (fun i hi => hs _ (gv_ex i hi)) (fun i hi => hs _ (gv_co i hi)) (fun i hi => hs _ (gv_ar i hi)) (fun i hi => hs _ (gv_le i hi)) (fun i hi j hj => hs _ (gv_el i hi j hj)) (fun i j hi hj hij => (gv_ne i hi j hj hij).imp (fun z => hs _ z) (fun z => hs _ z)) hA
  have hR : ∀ i : Nat, i < 10 → vk_R RX2 (sm_six.getD i 0) (sm_stx.getD i "") (adK i) s := fun i hi => vk_R.of (hts _ (tb_in (tb_sr i hi))) (hev i hi)
  have hC : va_Z "java/lang/String" "COMPACT_STRINGS" "Z" (.int 1) (fun q => s.heap.size ≤ q) s s.heap := va_Zof (hts _ (tb_in tb_ls)) (hts _ (tb_in tb_is)) (va_eqt (hs _ gv_cs)) hA
  have hZ := va_Zqof (hts _ (tb_in tb_lp)) (hts _ (tb_in tb_ip)) (hs _ gv_si) hA
  rcases hZ with hZ | ⟨t, hZ⟩
  · exact ⟨adK, adV, hS, hR, hC, Or.inl hZ⟩
  · refine ⟨adK, fun k => if k = 1000 then t else adV k, ⟨fun i hi => ?_, hS.2⟩, hR, hC, Or.inr ?_⟩
    · have e : (if i = 1000 then t else adV i) = adV i := if_neg (by omega)
      show va_O _ _ _ _ _ ∧ va_OF _ _ _ _ _ _ _ _ ∧ va_OF _ _ _ (.ref (if i = 1000 then t else adV i)) _ _ _ _ ∧ va_T _ (if i = 1000 then t else adV i) _ _ _ _ _
      rw [e]
      exact hS.1 i hi
    · exact hZ
