section SM3
variable {M : sm_M} {d mc ms pc : Nat} {lv st : List Value} {h : sm_H} {Q : Option Value → sm_H → Prop}

theorem sm_size {X : sm_X} {h : sm_H} {H H0 : Heap} {n : Nat} {locs : List Loc} (hP : sm_Wd X h H n) (h0 : X.1 ≤ H0.size) (hS : va_S (sm_A X) H0 H locs) (hz : H.size ≤ n) : H.size = X.1 + h.1.length := by
  have h1 := hP.2
  by_cases hl : h.1.length = 0
  · have := hS.1
    omega
  · have h2 := (hP.1 (h.1.length - 1) _ (sm_ws_at (by omega))).lt
    have h3 : X.1 + (h.1.length - 1) < H.size := h2
    omega
theorem sm_W_size {p : Program} {l : Launch} {e : Env} {R : Room} {s : State} {m : MethodId} {args : Array Value} {below : List Frame} {meth : Method} {c : Code} {H : Heap} {locs : List Loc} {cells slots : Nat} {QQ : State → Prop} {g : JFrame}
    (k : H.size ≤ s.heap.size + cells → W p l e R s m args below meth c H locs cells slots QQ g) : W p l e R s m args below meth c H locs cells slots QQ g := fun T hT X => k (by rw [← hT]; exact X.heapSize) T hT X
theorem wp_new {ci idx : Nat} (hdg : decode M.2.1 pc = .ok (.new idx, 3)) (hci : ci < 7) (hcl : Cond.classLink M.1.cls idx (sm_C ci) ∈ sm_Ts) (hins : Cond.instantiable (sm_C ci) (sm_N ci) ∈ sm_Ts) (hini : Cond.initialized (sm_C ci) ∈ sm_Ts) (k9 : h.1.length < 900) (hdef : ∀ j, j < sm_N ci → defaultValue (sm_ty ci j) = if sm_isR (sm_ty ci j) = true then .null else .int 0)
    (kk : Wp M d mc ms (pc + 3) lv (.ref h.1.length :: st) (h.1 ++ [(0, ci, List.replicate (sm_N ci) none)], sm_ups h.2.1 h.1.length (fun _ => 0), h.2.2.1, h.2.2.2) Q) : Wp M d (mc + 1) (ms + sm_N ci) pc lv st h Q := by
  intro X p l e_ R s m args below meth c H locs cells slots QQ ls F hP hS hL hk
  obtain ⟨f1, f2, f3, f4, f5, f6, f7, f8, f9, f10, f11⟩ := id F
  refine sm_W_size fun hz => ?_
  have hsz := sm_size hP f9.1 hS hz
  have hKn := f9.2.1.1 ci _ (sm_cl hci)
  refine W.newcK f1 f2 f5 (f8 _ hcl) (f8 _ hins) (f8 _ hini) rfl hdg (by omega) (by omega) hKn.2.1 rfl fun H1 kC hkC e1 z1 o1 => ?_
  have e3 : sm_ws X (h.1 ++ [(0, ci, List.replicate (sm_N ci) none)], sm_ups h.2.1 h.1.length (fun _ => 0), h.2.2.1, h.2.2.2) = sm_ws X h ++ [(X.1 + h.1.length, .inr (ci, (List.range (sm_N ci)).map (fun j => defaultValue (sm_ty ci j))))] := by
    rw [sm_ws_push (h := h) (h' := (h.1 ++ [(0, ci, List.replicate (sm_N ci) none)], sm_ups h.2.1 h.1.length (fun _ => 0), h.2.2.1, h.2.2.2)) (x := (0, ci, List.replicate (sm_N ci) none)) rfl (fun i hi => sm_ce_eq (List.getElem?_append_left hi) (sm_ups_ne (k := h.1.length) (by omega)) rfl rfl), sm_ce_o (ci := ci) (refs := List.replicate (sm_N ci) none) (by simp)]
    congr 5
    refine List.map_congr_left fun j hj => ?_
    have hj' := List.mem_range.mp hj
    rw [hdef j hj']
    unfold sm_fv
    by_cases ht : sm_isR (sm_ty ci j) = true
    · rw [if_pos ht, if_pos ht]
      rw [List.getElem?_replicate, if_pos hj']
    · rw [if_neg ht, if_neg ht]
      show Value.int (sm_ups h.2.1 h.1.length (fun _ => 0) h.1.length j) = _
      rw [sm_ups_eq]
  have hk2 : ∀ (k : Nat) (x : Nat × va_E), (sm_ws X h)[k]? = some x → H1[x.1]? = H[x.1]? := fun k x hx => o1 x.1 ((hP.1 k x hx).lt)
  have hP1 : va_P X.2.2.1 vwCl (sm_ws X h ++ [(X.1 + h.1.length, .inr (ci, (List.range (sm_N ci)).map (fun j => defaultValue (sm_ty ci j))))]) H1 := by
    refine (hP.1.kept hk2).app (fun k x hx => ?_)
    have hz2 : k < 1 := (List.getElem?_eq_some_iff.mp hx).1
    rw [show k = 0 by omega] at hx
    cases hx
    rw [← hsz]
    exact ⟨_, sm_cl hci, (u_born (sm_ty ci) f8 (sm_in ci hci) hKn hkC e1 (sm_ty_ok hci)).to (fun j hj => by
      have hj' : j < sm_N ci := hj
      simp [vp_V, hj'])⟩
  rw [← e3] at hP1
  have hS1 : va_S (sm_A X) s.heap H1 locs := ⟨Nat.le_trans hS.1 (by omega), fun x h1 h2 => (o1 x (Nat.lt_of_lt_of_le h1 hS.1)).trans (hS.2.1 x h1 h2), hS.2.2⟩
  have e5 : (F0 m pc ls (st.map (sm_v X))).stack = st.map (sm_v X) := rfl
  have e6 : Value.ref H.size = sm_v X (.ref h.1.length) := by
    show Value.ref H.size = .ref (sm_G X h.1.length)
    rw [sm_G_lt k9, hsz]
  show W p l e_ R s m args below meth c H1 locs (cells + 1) (slots + sm_N ci) QQ (F0 m (pc + 3) ls (.ref H.size :: st.map (sm_v X)))
  rw [e6]
  have hn := hP.2
  refine kk X p l e_ R s m args below meth c H1 locs (cells + 1) (slots + sm_N ci) QQ ls ⟨f1, f2, f3, f4, f5, f6, f7, f8, f9, f10, ⟨by omega, by omega⟩⟩ ⟨hP1, by simp; omega⟩ hS1 hL (fun v h' H' locs' ls' pc' q hw hs hr => ?_)
  have h7 := hk v h' H' locs' ls' pc' q ⟨hw.1, by have := hw.2; omega⟩ hs hr
  rw [show cells + 1 + mc = cells + (mc + 1) by omega, show slots + sm_N ci + ms = slots + (ms + sm_N ci) by omega]
  exact h7
theorem wp_newI {n : Int32} (N : Nat) (hdg : decode M.2.1 pc = .ok (.newarray .int, 2)) (hN : n.toNatClampNeg = N) (hn : ¬ n < 0) (hb : N ≤ 1000) (har : Cond.arrayClass .int ∈ sm_Ts) (k9 : h.1.length < 900)
    (kk : Wp M d mc ms (pc + 2) lv (.ref h.1.length :: st) (h.1 ++ [(1, N, [])], h.2.1, sm_ups h.2.2.1 h.1.length (fun _ => 0), h.2.2.2) Q) : Wp M d (mc + 1) (ms + N) pc lv (.int n :: st) h Q := by
  intro X p l e_ R s m args below meth c H locs cells slots QQ ls F hP hS hL hk
  obtain ⟨f1, f2, f3, f4, f5, f6, f7, f8, f9, f10, f11⟩ := id F
  refine sm_W_size fun hz => ?_
  have hsz := sm_size hP f9.1 hS hz
  have hby : N * componentBytes .int ≤ 536870912 := by
    have h8 : componentBytes .int ≤ 8 := by decide
    exact Nat.le_trans (Nat.mul_le_mul hb h8) (by decide)
  refine va_newaK (atype := .int) (N := N) f1 f2 (f8 _ har) rfl hdg rfl hn hN hby (by omega) (by omega) rfl fun H1 cA e1 z1 o1 hAr hNm => ?_
  have hcA : cA = X.2.1 0 := by
    have h1 := (f9.2.1.2 0 (X.2.1 0, .int) rfl).2
    have h2 : s.vm.findClass ("[" ++ (FieldType.toString .int)) = some (X.2.1 0) := h1
    exact Option.some.inj (hNm.symm.trans h2)
  subst hcA
  have e3 : sm_ws X (h.1 ++ [(1, N, [])], h.2.1, sm_ups h.2.2.1 h.1.length (fun _ => 0), h.2.2.2) = sm_ws X h ++ [(X.1 + h.1.length, (.inl (X.2.1 0, N, .inl (fun _ => 0))))] := by
    rw [sm_ws_push (h := h) (h' := (h.1 ++ [(1, N, [])], h.2.1, sm_ups h.2.2.1 h.1.length (fun _ => 0), h.2.2.2)) (x := (1, N, [])) rfl (fun i hi => sm_ce_eq (List.getElem?_append_left hi) rfl (sm_ups_ne (k := h.1.length) (by omega)) rfl), sm_ce_i (n := N) (r := []) (by simp)]
    simp only [sm_ups_eq]
  have hk2 : ∀ (k : Nat) (x : Nat × va_E), (sm_ws X h)[k]? = some x → H1[x.1]? = H[x.1]? := fun k x hx => o1 x.1 ((hP.1 k x hx).lt)
  have hP1 : va_P X.2.2.1 vwCl (sm_ws X h ++ [(X.1 + h.1.length, (.inl (X.2.1 0, N, .inl (fun _ => 0))))]) H1 := by
    refine (hP.1.kept hk2).app (fun k x hx => ?_)
    have hz2 : k < 1 := (List.getElem?_eq_some_iff.mp hx).1
    rw [show k = 0 by omega] at hx
    cases hx
    rw [← hsz]
    exact e1
  rw [← e3] at hP1
  have hS1 : va_S (sm_A X) s.heap H1 locs := ⟨Nat.le_trans hS.1 (by omega), fun x h1 h2 => (o1 x (Nat.lt_of_lt_of_le h1 hS.1)).trans (hS.2.1 x h1 h2), hS.2.2⟩
  have e6 : Value.ref H.size = sm_v X (.ref h.1.length) := by
    show Value.ref H.size = .ref (sm_G X h.1.length)
    rw [sm_G_lt k9, hsz]
  show W p l e_ R s m args below meth c H1 locs (cells + 1) (slots + N) QQ (F0 m (pc + 2) ls (.ref H.size :: st.map (sm_v X)))
  rw [e6]
  have hn := hP.2
  refine kk X p l e_ R s m args below meth c H1 locs (cells + 1) (slots + N) QQ ls ⟨f1, f2, f3, f4, f5, f6, f7, f8, f9, f10, ⟨by omega, by omega⟩⟩ ⟨hP1, by simp; omega⟩ hS1 hL (fun v h' H' locs' ls' pc' q hw hs hr => ?_)
  have h7 := hk v h' H' locs' ls' pc' q ⟨hw.1, by have := hw.2; omega⟩ hs hr
  rw [show cells + 1 + mc = cells + (mc + 1) by omega, show slots + N + ms = slots + (ms + N) by omega]
  exact h7
theorem wp_newL {n : Int32} (N : Nat) (hdg : decode M.2.1 pc = .ok (.newarray .long, 2)) (hN : n.toNatClampNeg = N) (hn : ¬ n < 0) (hb : N ≤ 1000) (har : Cond.arrayClass .long ∈ sm_Ts) (k9 : h.1.length < 900)
    (kk : Wp M d mc ms (pc + 2) lv (.ref h.1.length :: st) (h.1 ++ [(2, N, [])], h.2.1, h.2.2.1, sm_ups h.2.2.2 h.1.length (fun _ => 0)) Q) : Wp M d (mc + 1) (ms + N) pc lv (.int n :: st) h Q := by
  intro X p l e_ R s m args below meth c H locs cells slots QQ ls F hP hS hL hk
  obtain ⟨f1, f2, f3, f4, f5, f6, f7, f8, f9, f10, f11⟩ := id F
  refine sm_W_size fun hz => ?_
  have hsz := sm_size hP f9.1 hS hz
  have hby : N * componentBytes .long ≤ 536870912 := by
    have h8 : componentBytes .long ≤ 8 := by decide
    exact Nat.le_trans (Nat.mul_le_mul hb h8) (by decide)
  refine va_newaK (atype := .long) (N := N) f1 f2 (f8 _ har) rfl hdg rfl hn hN hby (by omega) (by omega) rfl fun H1 cA e1 z1 o1 hAr hNm => ?_
  have hcA : cA = X.2.1 1 := by
    have h1 := (f9.2.1.2 1 (X.2.1 1, .long) rfl).2
    have h2 : s.vm.findClass ("[" ++ (FieldType.toString .long)) = some (X.2.1 1) := h1
    exact Option.some.inj (hNm.symm.trans h2)
  subst hcA
  have e3 : sm_ws X (h.1 ++ [(2, N, [])], h.2.1, h.2.2.1, sm_ups h.2.2.2 h.1.length (fun _ => 0)) = sm_ws X h ++ [(X.1 + h.1.length, (.inl (X.2.1 1, N, .inr (.inl (fun _ => 0)))))] := by
    rw [sm_ws_push (h := h) (h' := (h.1 ++ [(2, N, [])], h.2.1, h.2.2.1, sm_ups h.2.2.2 h.1.length (fun _ => 0))) (x := (2, N, [])) rfl (fun i hi => sm_ce_eq (List.getElem?_append_left hi) rfl rfl (sm_ups_ne (k := h.1.length) (by omega))), sm_ce_l (n := N) (r := []) (by simp)]
    simp only [sm_ups_eq]
  have hk2 : ∀ (k : Nat) (x : Nat × va_E), (sm_ws X h)[k]? = some x → H1[x.1]? = H[x.1]? := fun k x hx => o1 x.1 ((hP.1 k x hx).lt)
  have hP1 : va_P X.2.2.1 vwCl (sm_ws X h ++ [(X.1 + h.1.length, (.inl (X.2.1 1, N, .inr (.inl (fun _ => 0)))))]) H1 := by
    refine (hP.1.kept hk2).app (fun k x hx => ?_)
    have hz2 : k < 1 := (List.getElem?_eq_some_iff.mp hx).1
    rw [show k = 0 by omega] at hx
    cases hx
    rw [← hsz]
    exact e1
  rw [← e3] at hP1
  have hS1 : va_S (sm_A X) s.heap H1 locs := ⟨Nat.le_trans hS.1 (by omega), fun x h1 h2 => (o1 x (Nat.lt_of_lt_of_le h1 hS.1)).trans (hS.2.1 x h1 h2), hS.2.2⟩
  have e6 : Value.ref H.size = sm_v X (.ref h.1.length) := by
    show Value.ref H.size = .ref (sm_G X h.1.length)
    rw [sm_G_lt k9, hsz]
  show W p l e_ R s m args below meth c H1 locs (cells + 1) (slots + N) QQ (F0 m (pc + 2) ls (.ref H.size :: st.map (sm_v X)))
  rw [e6]
  have hn := hP.2
  refine kk X p l e_ R s m args below meth c H1 locs (cells + 1) (slots + N) QQ ls ⟨f1, f2, f3, f4, f5, f6, f7, f8, f9, f10, ⟨by omega, by omega⟩⟩ ⟨hP1, by simp; omega⟩ hS1 hL (fun v h' H' locs' ls' pc' q hw hs hr => ?_)
  have h7 := hk v h' H' locs' ls' pc' q ⟨hw.1, by have := hw.2; omega⟩ hs hr
  rw [show cells + 1 + mc = cells + (mc + 1) by omega, show slots + N + ms = slots + (ms + N) by omega]
  exact h7
theorem wp_newC {n : Int32} (N : Nat) (hdg : decode M.2.1 pc = .ok (.newarray .char, 2)) (hN : n.toNatClampNeg = N) (hn : ¬ n < 0) (hb : N ≤ 1000) (har : Cond.arrayClass .char ∈ sm_Ts) (k9 : h.1.length < 900)
    (kk : Wp M d mc ms (pc + 2) lv (.ref h.1.length :: st) (h.1 ++ [(3, N, [])], h.2.1, sm_ups h.2.2.1 h.1.length (fun _ => 0), h.2.2.2) Q) : Wp M d (mc + 1) (ms + N) pc lv (.int n :: st) h Q := by
  intro X p l e_ R s m args below meth c H locs cells slots QQ ls F hP hS hL hk
  obtain ⟨f1, f2, f3, f4, f5, f6, f7, f8, f9, f10, f11⟩ := id F
  refine sm_W_size fun hz => ?_
  have hsz := sm_size hP f9.1 hS hz
  have hby : N * componentBytes .char ≤ 536870912 := by
    have h8 : componentBytes .char ≤ 8 := by decide
    exact Nat.le_trans (Nat.mul_le_mul hb h8) (by decide)
  refine va_newaK (atype := .char) (N := N) f1 f2 (f8 _ har) rfl hdg rfl hn hN hby (by omega) (by omega) rfl fun H1 cA e1 z1 o1 hAr hNm => ?_
  have hcA : cA = X.2.1 2 := by
    have h1 := (f9.2.1.2 2 (X.2.1 2, .char) rfl).2
    have h2 : s.vm.findClass ("[" ++ (FieldType.toString .char)) = some (X.2.1 2) := h1
    exact Option.some.inj (hNm.symm.trans h2)
  subst hcA
  have e3 : sm_ws X (h.1 ++ [(3, N, [])], h.2.1, sm_ups h.2.2.1 h.1.length (fun _ => 0), h.2.2.2) = sm_ws X h ++ [(X.1 + h.1.length, (.inl (X.2.1 2, N, .inl (fun _ => 0))))] := by
    rw [sm_ws_push (h := h) (h' := (h.1 ++ [(3, N, [])], h.2.1, sm_ups h.2.2.1 h.1.length (fun _ => 0), h.2.2.2)) (x := (3, N, [])) rfl (fun i hi => sm_ce_eq (List.getElem?_append_left hi) rfl (sm_ups_ne (k := h.1.length) (by omega)) rfl), sm_ce_c (n := N) (r := []) (by simp)]
    simp only [sm_ups_eq]
  have hk2 : ∀ (k : Nat) (x : Nat × va_E), (sm_ws X h)[k]? = some x → H1[x.1]? = H[x.1]? := fun k x hx => o1 x.1 ((hP.1 k x hx).lt)
  have hP1 : va_P X.2.2.1 vwCl (sm_ws X h ++ [(X.1 + h.1.length, (.inl (X.2.1 2, N, .inl (fun _ => 0))))]) H1 := by
    refine (hP.1.kept hk2).app (fun k x hx => ?_)
    have hz2 : k < 1 := (List.getElem?_eq_some_iff.mp hx).1
    rw [show k = 0 by omega] at hx
    cases hx
    rw [← hsz]
    exact e1
  rw [← e3] at hP1
  have hS1 : va_S (sm_A X) s.heap H1 locs := ⟨Nat.le_trans hS.1 (by omega), fun x h1 h2 => (o1 x (Nat.lt_of_lt_of_le h1 hS.1)).trans (hS.2.1 x h1 h2), hS.2.2⟩
  have e6 : Value.ref H.size = sm_v X (.ref h.1.length) := by
    show Value.ref H.size = .ref (sm_G X h.1.length)
    rw [sm_G_lt k9, hsz]
  show W p l e_ R s m args below meth c H1 locs (cells + 1) (slots + N) QQ (F0 m (pc + 2) ls (.ref H.size :: st.map (sm_v X)))
  rw [e6]
  have hn := hP.2
  refine kk X p l e_ R s m args below meth c H1 locs (cells + 1) (slots + N) QQ ls ⟨f1, f2, f3, f4, f5, f6, f7, f8, f9, f10, ⟨by omega, by omega⟩⟩ ⟨hP1, by simp; omega⟩ hS1 hL (fun v h' H' locs' ls' pc' q hw hs hr => ?_)
  have h7 := hk v h' H' locs' ls' pc' q ⟨hw.1, by have := hw.2; omega⟩ hs hr
  rw [show cells + 1 + mc = cells + (mc + 1) by omega, show slots + N + ms = slots + (ms + N) by omega]
  exact h7
theorem wp_copyI {k0 k1 n0 n1 idx : Nat} {r0 r1 : List (Option Nat)} {sp dp n : Int32} (hdg : decode M.2.1 pc = .ok (.invokestatic idx, 3)) (hl : Cond.methodLink M.1.cls idx arraycopyName ∈ sm_Ts) (hnat : Cond.native arraycopyName ∈ sm_Ts) (hst : Cond.static arraycopyName ∈ sm_Ts) (hini : Cond.initialized "java/lang/System" ∈ sm_Ts)
    (hs0 : h.1[k0]? = some (1, n0, r0)) (hs1 : h.1[k1]? = some (1, n1, r1)) (k09 : k0 < 900) (k19 : k1 < 900) (h1 : ¬ sp < 0) (h2 : ¬ dp < 0) (h3 : ¬ n < 0) (h4 : sp.toNatClampNeg + n.toNatClampNeg ≤ n0) (h5 : dp.toNatClampNeg + n.toNatClampNeg ≤ n1) (hr : (st.map fun v => v.category).sum ≤ 8)
    (kk : Wp M (d + 1) mc ms (pc + 3) lv st (h.1, h.2.1, sm_ups h.2.2.1 k1 (va_cpy (h.2.2.1 k0) (h.2.2.1 k1) sp.toNatClampNeg dp.toNatClampNeg n.toNatClampNeg), h.2.2.2) Q) : Wp M (d + 1) mc ms pc lv (.int n :: .int dp :: .ref k1 :: .int sp :: .ref k0 :: st) h Q := by
  intro X p l e_ R s m args below meth c H locs cells slots QQ ls F hP hS hL hk
  obtain ⟨f1, f2, f3, f4, f5, f6, f7, f8, f9, f10, f11⟩ := id F
  have e0 := sm_ws_at (X := X) (sm_lt hs0)
  rw [sm_ce_i hs0] at e0
  have e1 := sm_ws_at (X := X) (sm_lt hs1)
  rw [sm_ce_i hs1] at e1
  show W p l e_ R s m args below meth c H locs cells slots QQ (F0 m pc ls (.int n :: .int dp :: .ref (sm_G X k1) :: .int sp :: .ref (sm_G X k0) :: st.map (sm_v X)))
  rw [sm_G_lt k09, sm_G_lt k19]
  have e3 : sm_ws X (h.1, h.2.1, sm_ups h.2.2.1 k1 (va_cpy (h.2.2.1 k0) (h.2.2.1 k1) sp.toNatClampNeg dp.toNatClampNeg n.toNatClampNeg), h.2.2.2) = (sm_ws X h).set k1 (X.1 + k1, .inl (X.2.1 0, n1, .inl (va_cpy (h.2.2.1 k0) (h.2.2.1 k1) sp.toNatClampNeg dp.toNatClampNeg n.toNatClampNeg))) := by
    rw [sm_ws_set (h := h) (h' := (h.1, h.2.1, sm_ups h.2.2.1 k1 (va_cpy (h.2.2.1 k0) (h.2.2.1 k1) sp.toNatClampNeg dp.toNatClampNeg n.toNatClampNeg), h.2.2.2)) (k := k1) rfl (sm_lt hs1) (fun i2 _ hi => sm_ce_eq rfl rfl (sm_ups_ne hi) rfl), sm_ce_i (h := (h.1, h.2.1, sm_ups h.2.2.1 k1 (va_cpy (h.2.2.1 k0) (h.2.2.1 k1) sp.toNatClampNeg dp.toNatClampNeg n.toNatClampNeg), h.2.2.2)) hs1]
    simp only [sm_ups_eq]
  have hcat : ((st.map (sm_v X)).map fun v => v.category).sum ≤ 8 := by
    rw [List.map_map]
    rw [show ((fun v : Value => v.category) ∘ sm_v X) = fun v : Value => v.category from funext fun v => sm_v_cat X v]
    exact hr
  have hnw : nativeFrameWords "java/lang/System" "arraycopy" 5 ≤ 30 := by decide +kernel
  refine va_copyi f1 f2 (f3.trans hL.1.symm) f5 (f8 _ hl) (f8 _ hnat) (f8 _ hst) (f8 _ hini) f9.2.1 hP.1 (sm_D X h) hS k0 k1 0 0 e0 e1 rfl rfl rfl h1 h2 h3 h4 h5 (fun i hi => rfl) (by omega) (by omega) hdg (fun H1 locs1 hP1 _ hS1 => ?_)
  rw [← e3] at hP1
  exact kk X p l e_ R s m args below meth c H1 locs1 cells slots QQ ls F ⟨hP1, hP.2⟩ hS1 hL hk
theorem wp_copyL {k0 k1 n0 n1 idx : Nat} {r0 r1 : List (Option Nat)} {sp dp n : Int32} (hdg : decode M.2.1 pc = .ok (.invokestatic idx, 3)) (hl : Cond.methodLink M.1.cls idx arraycopyName ∈ sm_Ts) (hnat : Cond.native arraycopyName ∈ sm_Ts) (hst : Cond.static arraycopyName ∈ sm_Ts) (hini : Cond.initialized "java/lang/System" ∈ sm_Ts)
    (hs0 : h.1[k0]? = some (2, n0, r0)) (hs1 : h.1[k1]? = some (2, n1, r1)) (k09 : k0 < 900) (k19 : k1 < 900) (h1 : ¬ sp < 0) (h2 : ¬ dp < 0) (h3 : ¬ n < 0) (h4 : sp.toNatClampNeg + n.toNatClampNeg ≤ n0) (h5 : dp.toNatClampNeg + n.toNatClampNeg ≤ n1) (hr : (st.map fun v => v.category).sum ≤ 8)
    (kk : Wp M (d + 1) mc ms (pc + 3) lv st (h.1, h.2.1, h.2.2.1, sm_ups h.2.2.2 k1 (va_cpy (h.2.2.2 k0) (h.2.2.2 k1) sp.toNatClampNeg dp.toNatClampNeg n.toNatClampNeg)) Q) : Wp M (d + 1) mc ms pc lv (.int n :: .int dp :: .ref k1 :: .int sp :: .ref k0 :: st) h Q := by
  intro X p l e_ R s m args below meth c H locs cells slots QQ ls F hP hS hL hk
  obtain ⟨f1, f2, f3, f4, f5, f6, f7, f8, f9, f10, f11⟩ := id F
  have e0 := sm_ws_at (X := X) (sm_lt hs0)
  rw [sm_ce_l hs0] at e0
  have e1 := sm_ws_at (X := X) (sm_lt hs1)
  rw [sm_ce_l hs1] at e1
  show W p l e_ R s m args below meth c H locs cells slots QQ (F0 m pc ls (.int n :: .int dp :: .ref (sm_G X k1) :: .int sp :: .ref (sm_G X k0) :: st.map (sm_v X)))
  rw [sm_G_lt k09, sm_G_lt k19]
  have e3 : sm_ws X (h.1, h.2.1, h.2.2.1, sm_ups h.2.2.2 k1 (va_cpy (h.2.2.2 k0) (h.2.2.2 k1) sp.toNatClampNeg dp.toNatClampNeg n.toNatClampNeg)) = (sm_ws X h).set k1 (X.1 + k1, .inl (X.2.1 1, n1, .inr (.inl (va_cpy (h.2.2.2 k0) (h.2.2.2 k1) sp.toNatClampNeg dp.toNatClampNeg n.toNatClampNeg)))) := by
    rw [sm_ws_set (h := h) (h' := (h.1, h.2.1, h.2.2.1, sm_ups h.2.2.2 k1 (va_cpy (h.2.2.2 k0) (h.2.2.2 k1) sp.toNatClampNeg dp.toNatClampNeg n.toNatClampNeg))) (k := k1) rfl (sm_lt hs1) (fun i2 _ hi => sm_ce_eq rfl rfl rfl (sm_ups_ne hi)), sm_ce_l (h := (h.1, h.2.1, h.2.2.1, sm_ups h.2.2.2 k1 (va_cpy (h.2.2.2 k0) (h.2.2.2 k1) sp.toNatClampNeg dp.toNatClampNeg n.toNatClampNeg))) hs1]
    simp only [sm_ups_eq]
  have hcat : ((st.map (sm_v X)).map fun v => v.category).sum ≤ 8 := by
    rw [List.map_map]
    rw [show ((fun v : Value => v.category) ∘ sm_v X) = fun v : Value => v.category from funext fun v => sm_v_cat X v]
    exact hr
  have hnw : nativeFrameWords "java/lang/System" "arraycopy" 5 ≤ 30 := by decide +kernel
  refine va_copyl f1 f2 (f3.trans hL.1.symm) f5 (f8 _ hl) (f8 _ hnat) (f8 _ hst) (f8 _ hini) f9.2.1 hP.1 (sm_D X h) hS k0 k1 1 1 e0 e1 rfl rfl rfl h1 h2 h3 h4 h5 (fun i hi => rfl) (by omega) (by omega) hdg (fun H1 locs1 hP1 _ hS1 => ?_)
  rw [← e3] at hP1
  exact kk X p l e_ R s m args below meth c H1 locs1 cells slots QQ ls F ⟨hP1, hP.2⟩ hS1 hL hk
theorem wp_ldc {idx : Nat} (v : Int32) (hdg : decode M.2.1 pc = .ok (.ldc idx, 2)) (hc : Cond.constant M.1.cls idx v ∈ sm_Ts) (kk : Wp M d mc ms (pc + 2) lv (.int v :: st) h Q) : Wp M d mc ms pc lv st h Q := by
  intro X p l e_ R s m args below meth c H locs cells slots QQ ls F hP hS hL hk
  obtain ⟨f1, f2, f3, f4, f5, f6, f7, f8, f9, f10, f11⟩ := id F
  exact lv_ldc f1 f2 f5 (f8 _ hc) hdg (kk X p l e_ R s m args below meth c H locs cells slots QQ ls F hP hS hL hk)
theorem wp_ldc_w {idx : Nat} (v : Int32) (hdg : decode M.2.1 pc = .ok (.ldc_w idx, 3)) (hc : Cond.constant M.1.cls idx v ∈ sm_Ts) (kk : Wp M d mc ms (pc + 3) lv (.int v :: st) h Q) : Wp M d mc ms pc lv st h Q := by
  intro X p l e_ R s m args below meth c H locs cells slots QQ ls F hP hS hL hk
  obtain ⟨f1, f2, f3, f4, f5, f6, f7, f8, f9, f10, f11⟩ := id F
  exact lv_ldcw f1 f2 f5 (f8 _ hc) hdg (kk X p l e_ R s m args below meth c H locs cells slots QQ ls F hP hS hL hk)
theorem wp_ldc2 {idx : Nat} (v : Int64) (hdg : decode M.2.1 pc = .ok (.ldc2_w idx, 3)) (hc : Cond.constantLong M.1.cls idx v ∈ sm_Ts) (kk : Wp M d mc ms (pc + 3) lv (.long v :: st) h Q) : Wp M d mc ms pc lv st h Q := by
  intro X p l e_ R s m args below meth c H locs cells slots QQ ls F hP hS hL hk
  obtain ⟨f1, f2, f3, f4, f5, f6, f7, f8, f9, f10, f11⟩ := id F
  exact lv_ldc2 f1 f2 f5 (f8 _ hc) hdg (kk X p l e_ R s m args below meth c H locs cells slots QQ ls F hP hS hL hk)
theorem wp_ldcS {idx : Nat} (i : Nat) (hdg : decode M.2.1 pc = .ok (.ldc idx, 2)) (hi : i < 10) (hx : sm_six.getD i 0 = idx) (hM : M.1.cls = RX2) (kk : Wp M d mc ms (pc + 2) lv (.ref (1000 + i) :: st) h Q) : Wp M d mc ms pc lv st h Q := by
  intro X p l e_ R s m args below meth c H locs cells slots QQ ls F hP hS hL hk
  obtain ⟨f1, f2, f3, f4, f5, f6, f7, f8, f9, f10, f11⟩ := id F
  have hZ := f9.2.2.2.1.2.1 i hi
  rw [hx] at hZ
  have e : X.2.2.2.2.1 i = sm_G X (1000 + i) := by
    unfold sm_G
    rw [if_neg (by omega), if_neg (by omega), if_pos (by omega), Nat.add_sub_cancel_left]
  refine va_ldcS f1 f2 (own := RX2) (by rw [← hM]; exact f5) hZ hdg ?_
  rw [e]
  exact kk X p l e_ R s m args below meth c H locs cells slots QQ ls F hP hS hL hk
theorem sm_G_s {X : sm_X} {i : Nat} (hi : i < 10) : sm_G X (1000 + i) = X.2.2.2.2.1 i := by
  unfold sm_G
  rw [if_neg (by omega), if_neg (by omega), if_pos (by omega), Nat.add_sub_cancel_left]
theorem sm_G_b {X : sm_X} {i : Nat} : sm_G X (2000 + i) = X.2.2.2.2.2 i := by
  unfold sm_G
  rw [if_neg (by omega), if_neg (by omega), if_neg (by omega), Nat.add_sub_cancel_left]
/-- a String constant's fields, and its row of bytes -/
theorem wp_strV {idx : Nat} (i : Nat) (hdg : decode M.2.1 pc = .ok (.getfield idx, 3)) (hi : i < 10) (hl : Cond.fieldLink M.1.cls idx "java/lang/String" "value" "[B" ∈ sm_Ts) (kk : Wp M d mc ms (pc + 3) lv (.ref (2000 + i) :: st) h Q) : Wp M d mc ms pc lv (.ref (1000 + i) :: st) h Q := by
  intro X p l e_ R s m args below meth c H locs cells slots QQ ls F hP hS hL hk
  obtain ⟨f1, f2, f3, f4, f5, f6, f7, f8, f9, f10, f11⟩ := id F
  show W p l e_ R s m args below meth c H locs cells slots QQ (F0 m pc ls (.ref (sm_G X (1000 + i)) :: st.map (sm_v X)))
  rw [sm_G_s hi]
  have hE := ((f9.2.2.2.1.1).1 i hi).2.2.1
  refine vk_getf (ref := "java/lang/String") f1 f2 hE hS f5 (f8 _ hl) (fun _ z => z) hdg ?_
  have e : Value.ref (X.2.2.2.2.2 i) = sm_v X (.ref (2000 + i)) := by show _ = Value.ref (sm_G X (2000 + i)); rw [sm_G_b]
  rw [e]
  exact kk X p l e_ R s m args below meth c H locs cells slots QQ ls F hP hS hL hk
theorem wp_strC {idx : Nat} (i : Nat) (hdg : decode M.2.1 pc = .ok (.getfield idx, 3)) (hi : i < 10) (hl : Cond.fieldLink M.1.cls idx "java/lang/String" "coder" "B" ∈ sm_Ts) (kk : Wp M d mc ms (pc + 3) lv (.int 0 :: st) h Q) : Wp M d mc ms pc lv (.ref (1000 + i) :: st) h Q := by
  intro X p l e_ R s m args below meth c H locs cells slots QQ ls F hP hS hL hk
  obtain ⟨f1, f2, f3, f4, f5, f6, f7, f8, f9, f10, f11⟩ := id F
  show W p l e_ R s m args below meth c H locs cells slots QQ (F0 m pc ls (.ref (sm_G X (1000 + i)) :: st.map (sm_v X)))
  rw [sm_G_s hi]
  have hE := ((f9.2.2.2.1.1).1 i hi).2.1
  exact vk_getf (ref := "java/lang/String") f1 f2 hE hS f5 (f8 _ hl) (fun _ z => z) hdg (kk X p l e_ R s m args below meth c H locs cells slots QQ ls F hP hS hL hk)
theorem wp_strN (i : Nat) (v : Int32) (hdg : decode M.2.1 pc = .ok (.arraylength, 1)) (hi : i < 10) (hv : Int32.ofNat (sm_len.getD i 0) = v) (kk : Wp M d mc ms (pc + 1) lv (.int v :: st) h Q) : Wp M d mc ms pc lv (.ref (2000 + i) :: st) h Q := by
  intro X p l e_ R s m args below meth c H locs cells slots QQ ls F hP hS hL hk
  obtain ⟨f1, f2, f3, f4, f5, f6, f7, f8, f9, f10, f11⟩ := id F
  show W p l e_ R s m args below meth c H locs cells slots QQ (F0 m pc ls (.ref (sm_G X (2000 + i)) :: st.map (sm_v X)))
  rw [sm_G_b]
  obtain ⟨cell, h1, h2, h3, h4, h5, h6, h7⟩ := (((f9.2.2.2.1.1).1 i hi).2.2.2).kept hS.2.1
  exact W.alen f1 f2 h1 h2 (h5.trans hv) rfl rfl hdg (kk X p l e_ R s m args below meth c H locs cells slots QQ ls F hP hS hL hk)
theorem wp_strB (i : Nat) {j : Int32} (hdg : decode M.2.1 pc = .ok (.baload, 1)) (hi : i < 10) (hin : vp_in j (sm_len.getD i 0)) (kk : Wp M d mc ms (pc + 1) lv (.int ((sm_byt.getD i []).getD j.toNatClampNeg 0) :: st) h Q) : Wp M d mc ms pc lv (.int j :: .ref (2000 + i) :: st) h Q := by
  intro X p l e_ R s m args below meth c H locs cells slots QQ ls F hP hS hL hk
  obtain ⟨f1, f2, f3, f4, f5, f6, f7, f8, f9, f10, f11⟩ := id F
  show W p l e_ R s m args below meth c H locs cells slots QQ (F0 m pc ls (.int j :: .ref (sm_G X (2000 + i)) :: st.map (sm_v X)))
  rw [sm_G_b]
  exact va_tb f1 f2 ((f9.2.2.2.1.1).1 i hi).2.2.2 hS hin rfl hdg (kk X p l e_ R s m args below meth c H locs cells slots QQ ls F hP hS hL hk)
theorem wp_compact {idx : Nat} (hdg : decode M.2.1 pc = .ok (.getstatic idx, 3)) (hl : Cond.fieldLink M.1.cls idx "java/lang/String" "COMPACT_STRINGS" "Z" ∈ sm_Ts) (kk : Wp M d mc ms (pc + 3) lv (.int 1 :: st) h Q) : Wp M d mc ms pc lv st h Q := by
  intro X p l e_ R s m args below meth c H locs cells slots QQ ls F hP hS hL hk
  obtain ⟨f1, f2, f3, f4, f5, f6, f7, f8, f9, f10, f11⟩ := id F
  exact va_gets (ref := "java/lang/String") f1 f2 f9.2.2.2.1.2.2.1 hS f5 (f8 _ hl) (fun _ z => z) hdg (kk X p l e_ R s m args below meth c H locs cells slots QQ ls F hP hS hL hk)
theorem wp_sioobe {idx : Nat} (hdg : decode M.2.1 pc = .ok (.getstatic idx, 3)) (hl : Cond.fieldLink M.1.cls idx "jdk/internal/util/Preconditions" "SIOOBE_FORMATTER" "Ljava/util/function/BiFunction;" ∈ sm_Ts) (kk : ∀ v : Value, v.category = 1 → (v = .null ∨ v = .ref 3000) → Wp M d mc ms (pc + 3) lv (v :: st) h Q) : Wp M d mc ms pc lv st h Q := by
  intro X p l e_ R s m args below meth c H locs cells slots QQ ls F hP hS hL hk
  obtain ⟨f1, f2, f3, f4, f5, f6, f7, f8, f9, f10, f11⟩ := id F
  rcases f9.2.2.2.1.2.2.2 with hZ | hZ
  · exact va_gets (ref := "jdk/internal/util/Preconditions") f1 f2 hZ hS f5 (f8 _ hl) (fun _ z => z) hdg (kk .null rfl (Or.inl rfl) X p l e_ R s m args below meth c H locs cells slots QQ ls F hP hS hL hk)
  · refine va_gets (ref := "jdk/internal/util/Preconditions") f1 f2 hZ hS f5 (f8 _ hl) (fun _ z => z) hdg ?_
    have e : Value.ref (X.2.2.2.2.2 1000) = sm_v X (.ref (2000 + 1000)) := by show _ = Value.ref (sm_G X (2000 + 1000)); rw [sm_G_b]
    rw [e]
    exact kk (.ref 3000) rfl (Or.inr rfl) X p l e_ R s m args below meth c H locs cells slots QQ ls F hP hS hL hk
theorem wp_widen {mc1 ms1 : Nat} (h1 : mc1 ≤ mc) (h2 : ms1 ≤ ms) (kk : Wp M d mc1 ms1 pc lv st h Q) (hlen : ∀ v h', Q v h' → mc1 = mc) : Wp M d mc ms pc lv st h Q := by
  intro X p l e_ R s m args below meth c H locs cells slots QQ ls F hP hS hL hk
  obtain ⟨f1, f2, f3, f4, f5, f6, f7, f8, f9, f10, f11⟩ := id F
  refine kk X p l e_ R s m args below meth c H locs cells slots QQ ls ⟨f1, f2, f3, f4, f5, f6, f7, f8, f9, f10, ⟨by omega, by omega⟩⟩ hP hS hL (fun v h' H' locs' ls' pc' q hw hs hr => ?_)
  have e := hlen v h' q
  subst e
  exact W.widen (Nat.le_refl _) (by omega) (hk v h' H' locs' ls' pc' q hw hs hr)
end SM3
