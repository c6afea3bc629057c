/-! ===== calls of the plain machine ===== -/
def sm_ini : List Value → Nat → List Value
  | [], n => List.replicate n .null
  | v :: vs, n => if v.category = 2 then v :: .null :: sm_ini vs (n - 2) else v :: sm_ini vs (n - 1)
abbrev sm_wsM (M : sm_M) : List Cond := Cond.code M.1 M.2.1 M.2.2.1 M.2.2.2 :: sm_Ts
abbrev sm_rm (d mc ms : Nat) : Room := { frames := d, cells := mc, slots := ms, locals := 64 * d }
def sm_Pc (X : sm_X) (h : sm_H) (as : List Value) : Array Value → State → Prop := va_Pc (as.map (sm_v X)) (fun U => sm_Env X U U.heap ∧ sm_Wd X h U.heap U.heap.size)
def sm_Qc (X : sm_X) (mc : Nat) (Q : Option Value → sm_H → Prop) : Array Value → State → Outcome → State → Prop := fun _ st o t =>
  ∃ (v : Option Value) (h' : sm_H), o = .returned (v.map (sm_v X)) ∧ Q v h' ∧ sm_Wd X h' t.heap (st.heap.size + mc) ∧ va_F (sm_A X) st t
theorem sm_good {w : Cond} (h : w ∈ sm_Ts) : (w.onTables && w.keeps) = true ∨ ∃ ty, w = .arrayClass ty := good_of_word (List.mem_filter.mp h).2
theorem sm_goodIn {M : sm_M} (hc : Cond.code M.1 M.2.1 M.2.2.1 M.2.2.2 ∈ sm_Ts) : GoodIn sm_Ts (sm_wsM M) := by
  intro w hw
  rcases List.mem_cons.mp hw with rfl | hw
  · exact ⟨hc, sm_good hc⟩
  · exact ⟨hw, sm_good hw⟩
theorem sm_lg_map (X : sm_X) (vs : List Value) : (lg_sl (vs.map (sm_v X))).length = (lg_sl vs).length := by
  induction vs with
  | nil => rfl
  | cons v t ih =>
    simp only [lg_sl, List.map_cons, List.flatMap_cons, List.length_append] at ih ⊢
    rw [ih, sm_v_cat]
    by_cases h : v.category = 2 <;> simp [h]
theorem sm_ini_at (X : sm_X) : ∀ (vs : List Value) (n k i : Nat) (v : Value), (sm_ini vs n)[i]? = some v → v ≠ .null → (k + i, sm_v X v) ∈ lv_args k (vs.map (sm_v X))
  | [], n, k, i, v, h, hv => by
    simp only [sm_ini, List.getElem?_replicate] at h
    split at h
    · cases h; exact absurd rfl hv
    · cases h
  | u :: vs, n, k, i, v, h, hv => by
    have e2 : lv_args k ((u :: vs).map (sm_v X)) = (k, sm_v X u) :: lv_args (if u.category = 2 then k + 2 else k + 1) (vs.map (sm_v X)) := by
      show (k, sm_v X u) :: lv_args (if (sm_v X u).category = 2 then k + 2 else k + 1) (vs.map (sm_v X)) = _
      rw [sm_v_cat]
    rw [e2]
    by_cases hc : u.category = 2
    · rw [if_pos hc]
      rw [sm_ini, if_pos hc] at h
      match i, h with
      | 0, h =>
        rw [List.getElem?_cons_zero] at h
        cases h
        exact List.mem_cons_self
      | 1, h =>
        rw [List.getElem?_cons_succ, List.getElem?_cons_zero] at h
        cases h
        exact absurd rfl hv
      | i + 2, h =>
        rw [List.getElem?_cons_succ, List.getElem?_cons_succ] at h
        have := sm_ini_at X vs (n - 2) (k + 2) i v h hv
        rw [show k + (i + 2) = k + 2 + i by omega]
        exact List.mem_cons_of_mem _ this
    · rw [if_neg hc]
      rw [sm_ini, if_neg hc] at h
      match i, h with
      | 0, h =>
        rw [List.getElem?_cons_zero] at h
        cases h
        exact List.mem_cons_self
      | i + 1, h =>
        rw [List.getElem?_cons_succ] at h
        have := sm_ini_at X vs (n - 1) (k + 1) i v h hv
        rw [show k + (i + 1) = k + 1 + i by omega]
        exact List.mem_cons_of_mem _ this
theorem sm_metW {l : Launch} {y : MethodName} {ws ws' : List Cond} {rm : Room} {Pc : Array Value → State → Prop} {Qc : Array Value → State → Outcome → State → Prop} {mc ms : Nat} {free : Addr → Prop} {cc : ByteArray} {maxL : Nat} {ret : Option FieldType}
    (hy : plainFor y = true) (hw : ws = Cond.code y cc maxL ret :: ws')
    (body : ∀ p e s m args below meth c s₁, BodyLoose p l y (headSpec ws rm) cc maxL ret e s m args below meth c s₁ → c.maxLocals = maxL → Pc args s →
      W p l e (headSpec ws rm).room s m args below meth c s.heap [] 0 0 (MQ below Qc args s mc ms free) (entryFrame m args maxL)) : Met l y ws rm Pc Qc mc ms free := by
  refine MetFree.of_bodySF (code := cc) (maxLocals := maxL) (ret := ret) hy (fun args s m h hn => ?_) (fun p e s m args below meth c s₁ B hml hP _ => ?_)
  · obtain ⟨meth, c, h1, h2, h3, h4, h5, h6, -, -⟩ := Cond.code_spec hn (atoms_spec (ws := ws) h _ (by rw [hw]; exact List.mem_cons_self))
    exact ⟨meth, c, h1, h2, h3, h4, h5, h6⟩
  · obtain ⟨t, a1, o, b1, b2, b3⟩ := body p e s m args below meth c s₁ B hml hP s₁ (by rw [B.state]; rfl) (Stand.of_body B)
    exact ⟨t, o, a1, b1, b2, ⟨b3.1, b3.2⟩⟩
theorem wp_met (l : Launch) (X : sm_X) {M : sm_M} {d mc ms : Nat} {as : List Value} {h : sm_H} {Q : Option Value → sm_H → Prop} (hy : plainFor M.1 = true) (hsz : (lg_sl as).length ≤ M.2.2.1)
    (k : Wp M d mc ms 0 (sm_ini as M.2.2.1) [] h Q) : Met l M.1 (sm_wsM M) (sm_rm d mc ms) (sm_Pc X h as) (sm_Qc X mc Q) mc ms (sm_A X) := by
  refine sm_metW (cc := M.2.1) (maxL := M.2.2.1) (ret := M.2.2.2) hy rfl ?_
  intro p e s m args' below meth c s₁ B hml hv
  obtain ⟨rfl, hE, hW⟩ := hv
  have hx := B.exec
  have hb := B.bytes
  have hr := B.returns
  have hts := atoms_spec (ws := sm_wsM M) B.pre
  have hown : s.vm.findClass M.1.cls = some m.cls := findClass_of_methodNamed B.named
  have hlocks := B.notSynchronized
  have hin : meth.name = M.1.name := (name_of_methodNamed B.named B.method).1
  have hl := lv_entry (as.map (sm_v X)) (n := M.2.2.1) (by rw [sm_lg_map]; exact hsz)
  rw [lg_entry_eq]
  generalize (lg_sl (as.map (sm_v X)) ++ List.replicate (M.2.2.1 - (lg_sl (as.map (sm_v X))).length) Slot.unset).toArray = ls at hl ⊢
  have hL : sm_L X ls M.2.2.1 (sm_ini as M.2.2.1) := ⟨hl.1, hl.2.1, fun i v hi hv => by
    have h1 := hl.2.2 _ (sm_ini_at X as M.2.2.1 0 i v hi hv)
    rw [Nat.zero_add] at h1
    exact h1⟩
  refine k X p l e (sm_rm d mc ms) s m _ below meth c s.heap [] 0 0 _ ls ⟨hx, hb, hml, hr, hown, hlocks, hin, fun w hw => hts w (List.mem_cons_of_mem _ hw), hE, ⟨Nat.le_refl _, Nat.le_refl _⟩, ⟨by simp, by simp⟩⟩ hW va_S.rf hL (fun v h' H' locs' ls' pc' q hw hs hrt => ?_)
  rw [Nat.zero_add, Nat.zero_add]
  rw [Nat.zero_add] at hw
  cases v with
  | none =>
    obtain ⟨g1, g2⟩ := hrt
    exact W.vret hx hb (hr.trans g2) (fun t ht _ => ⟨none, h', rfl, q, by rw [ht]; exact hw, hs.F ht⟩) hs.2.2 g1 hlocks
  | some v =>
    cases v with
    | int r =>
      obtain ⟨g1, ty, g2, g3⟩ := hrt
      exact W.zret hx hb (hr.trans g2) g3 (fun t ht _ => ⟨some (.int r), h', rfl, q, by rw [ht]; exact hw, hs.F ht⟩) hs.2.2 g1 hlocks
    | long r =>
      obtain ⟨g1, g2⟩ := hrt
      exact W.lret hx hb (hr.trans g2) (fun t ht _ => ⟨some (.long r), h', rfl, q, by rw [ht]; exact hw, hs.F ht⟩) hs.2.2 g1 hlocks
    | ref r =>
      obtain ⟨g1, rt, g2, g3⟩ := hrt
      exact W.aret hx hb (hr.trans g2) g3 (Or.inr ⟨_, rfl⟩) (fun t ht _ => ⟨some (.ref r), h', rfl, q, by rw [ht]; exact hw, hs.F ht⟩) hs.2.2 g1 hlocks
    | _ => exact absurd hrt (fun z => z)
theorem sm_blind (X : sm_X) (h : sm_H) (as : List Value) : FrameBlind (sm_Pc X h as) := by
  intro a U g mk hq
  obtain ⟨h1, h2, h3⟩ := hq
  exact ⟨h1, h2.mv (State.WarmedH.refl U) (Nat.le_refl _) (fun _ _ _ => rfl), h3⟩
section SM4
variable {p : Program} {l : Launch} {e : Env} {R : Room} {s : State} {m : MethodId} {args : Array Value} {below : List Frame} {meth : Method} {c : Code} {H : Heap} {locs : List Loc} {cells slots : Nat} {QQ : State → Prop}
theorem sm_runW {X : sm_X} {Q1 : Option Value → sm_H → Prop} {mc1 ms1 pc : Nat} {ls : Array Slot} {st0 rest : List Value} {a : Array Value} (hr : va_Run p l e R s m args below meth c H locs cells slots mc1 ms1 (F0 m pc ls st0) rest (sm_Qc X mc1 Q1 a) (sm_A X)) (hS : va_S (sm_A X) s.heap H locs)
    (kk : ∀ (v : Option Value) (h1 : sm_H) (H1 : Heap) (locs1 : List Loc), Q1 v h1 → sm_Wd X h1 H1 (H.size + mc1) → va_S (sm_A X) s.heap H1 locs1 → W p l e R s m args below meth c H1 locs1 (cells + mc1) (slots + ms1) QQ (F0 m (pc + 3) ls ((v.map (sm_v X)).toList ++ rest))) : W p l e R s m args below meth c H locs cells slots QQ (F0 m pc ls st0) := by
  intro T hT X'
  obtain ⟨v, st₀, t, T', L, h0, X'', hL, e1, e2, ⟨v0, h1, hv, hq, hw, hz, hk⟩, st⟩ := hr T hT X'
  cases hv
  rw [h0] at hz hk hw
  obtain ⟨t2, a1, b1⟩ := kk v0 h1 T'.heap (locs ++ L) hq (by rw [e1]; exact hw)
    ⟨Nat.le_trans hS.1 (by rw [e1]; exact hz), fun q h1 h2 => by rw [e1, hk q (Nat.lt_of_lt_of_le h1 hS.1) h2]; exact hS.2.1 q h1 h2, fun q hq => by
      rcases List.mem_append.mp hq with h | h
      · exact hS.2.2 q h
      · exact hL q h⟩ T' rfl X''
  exact ⟨t2, st t2 a1, b1⟩
end SM4
/-- what every call needs of the callee -/
abbrev sm_ck (Mc : sm_M) (n : Nat) : Prop := Cond.code Mc.1 Mc.2.1 Mc.2.2.1 Mc.2.2.2 ∈ sm_Ts ∧ Cond.initialized Mc.1.cls ∈ sm_Ts ∧ (Mc.1.cls ≠ "java/lang/invoke/MethodHandle" ∧ Mc.1.cls ≠ "java/lang/invoke/VarHandle" ∧ (parseMethodDescriptor Mc.1.desc).map (fun d => d.parameters.length) = some n) ∧ plainFor Mc.1 = true ∧ Mc.2.2.1 ≤ 45
abbrev sm_ckS (own : String) (idx : Nat) (Mc : sm_M) (n : Nat) : Prop := sm_ck Mc n ∧ Cond.methodLink own idx Mc.1 ∈ sm_Ts ∧ Cond.static Mc.1 ∈ sm_Ts
abbrev sm_ckV (own : String) (idx : Nat) (Mc : sm_M) (n : Nat) : Prop := sm_ck Mc n ∧ Cond.methodLink own idx Mc.1 ∈ sm_Ts ∧ Cond.instanceMethod Mc.1 ∈ sm_Ts ∧ Cond.selects Mc.1.cls Mc.1 Mc.1 ∈ sm_Ts
abbrev sm_ckI (own : String) (idx : Nat) (Mc : sm_M) (n : Nat) : Prop := sm_ck Mc n ∧ Cond.methodLink own idx Mc.1 ∈ sm_Ts ∧ Cond.instanceMethod Mc.1 ∈ sm_Ts ∧ Mc.1.name = "<init>" ∧ Mc.2.2.2 = none
abbrev sm_ckSN (own : String) (idx : Nat) (host : String) (Mc : sm_M) (n : Nat) : Prop := sm_ck Mc n ∧ Cond.methodLinkNest own idx Mc.1 host ∈ sm_nw ∧ Cond.static Mc.1 ∈ sm_Ts
abbrev sm_ckVN (own : String) (idx : Nat) (host : String) (Mc : sm_M) (n : Nat) : Prop := sm_ck Mc n ∧ Cond.methodLinkNest own idx Mc.1 host ∈ sm_nw ∧ Cond.instanceMethod Mc.1 ∈ sm_Ts ∧ Cond.selects Mc.1.cls Mc.1 Mc.1 ∈ sm_Ts
abbrev sm_ckIN (own : String) (idx : Nat) (host : String) (Mc : sm_M) (n : Nat) : Prop := sm_ck Mc n ∧ Cond.methodLinkNest own idx Mc.1 host ∈ sm_nw ∧ Cond.instanceMethod Mc.1 ∈ sm_Ts ∧ Mc.1.name = "<init>" ∧ Mc.2.2.2 = none
def sm_Rc (h : sm_H) (k : Nat) (C : String) : Prop := (∃ ci refs, h.1[k]? = some (0, ci, refs) ∧ ci < 7 ∧ k < 900 ∧ C = sm_C ci) ∨ (∃ i, i < 10 ∧ k = 1000 + i ∧ C = "java/lang/String")
theorem sm_Rc.o {h : sm_H} {k ci : Nat} {refs : List (Option Nat)} (hs : h.1[k]? = some (0, ci, refs)) (hci : ci < 7) (k9 : k < 900) : sm_Rc h k (sm_C ci) := Or.inl ⟨ci, refs, hs, hci, k9, rfl⟩
theorem sm_Rc.s {h : sm_H} {i : Nat} (hi : i < 10) : sm_Rc h (1000 + i) "java/lang/String" := Or.inr ⟨i, hi, rfl, rfl⟩
theorem sm_Rc.get {X : sm_X} {h : sm_H} {k : Nat} {C : String} {s : State} {H : Heap} {n : Nat} {locs : List Loc} (hr : sm_Rc h k C) (hE : sm_Env X s s.heap) (hP : sm_Wd X h H n) (hS : va_S (sm_A X) s.heap H locs) : ∃ cell : Cell, H[sm_G X k]? = some cell ∧ cell.vm.isStatics = false ∧ s.vm.findClass C = some cell.cls := by
  rcases hr with ⟨ci, refs, hs, hci, k9, rfl⟩ | ⟨i, hi, rfl, rfl⟩
  · have e := sm_ws_at (X := X) (sm_lt hs)
    rw [sm_ce_o hs] at e
    rw [sm_G_lt k9]
    exact va_recv hE.2.1 hP.1 (sm_cl hci) e
  · rw [sm_G_s hi]
    exact vk_recv hE.2.2.2.1.1 hi hS
theorem sm_cats (X : sm_X) {st : List Value} (hr : (st.map fun v => v.category).sum ≤ 8) : ((st.map (sm_v X)).map fun v => v.category).sum ≤ 8 := by
  rw [List.map_map, show ((fun v : Value => v.category) ∘ sm_v X) = fun v : Value => v.category from funext fun v => sm_v_cat X v]
  exact hr
section SM5
variable {M Mc : sm_M} {d mc ms pc mc1 ms1 mc2 ms2 idx n : Nat} {lv st st0 as : List Value} {h : sm_H} {Q : Option Value → sm_H → Prop} {host : String}

theorem wp_callS {k : Nat} (hdg : decode M.2.1 pc = .ok (.invokestatic idx, 3)) (ck : sm_ckS M.1.cls idx Mc n)  (hst : st0 = as.reverse ++ st) (hn : as.length = n) (hsz : (lg_sl as).length ≤ Mc.2.2.1) (hr : (st.map fun v => v.category).sum ≤ 8) (hmc : mc1 + mc2 = mc) (hms : ms1 + ms2 = ms)
    (kk : Wp Mc d mc1 ms1 0 (sm_ini as Mc.2.2.1) [] h (fun v h1 => Wp M (d + 1) mc2 ms2 (pc + 3) lv (v.toList ++ st) h1 Q)) : Wp M (d + 1) mc ms pc lv st0 h Q := by
  intro X p l e_ R s m args below meth c H locs cells slots QQ ls F hP hS hL hk
  obtain ⟨f1, f2, f3, f4, f5, f6, f7, f8, f9, f10, f11⟩ := id F
  subst hst
  refine sm_W_size fun hz => ?_
  have hsz1 := sm_size hP f9.1 hS hz
  have hM := wp_met l X ck.1.2.2.2.1 hsz kk
  have hEU : ∀ U : State, U.heap = H → s.WarmedH U.vm → sm_Env X U U.heap ∧ sm_Wd X h U.heap U.heap.size := fun U hU hW => by
    rw [hU]
    exact ⟨f9.mv hW hS.1 hS.2.1, hP.1, hsz1⟩
  have hrun := va_runS (As := as.map (sm_v X)) (rest := st.map (sm_v X)) (g := F0 m pc ls ((as.reverse ++ st).map (sm_v X))) (locs := locs) (cells := cells) (slots := slots) (R := R) (args := args) (below := below) (H := H) (e := e_) (meth := meth) ⟨f1, f2, f3, f5, f8⟩ hM ⟨callB_of n f8 (sm_goodIn ck.1.1) rfl rfl rfl (f8 _ ck.1.2.1) (f8 _ ck.2.1) ck.1.2.2.1 ⟨by show d + 1 ≤ _; omega, by show 8 + (Mc.2.2.1 + 11) + 64 * d ≤ _; have := ck.1.2.2.2.2; omega⟩, f8 _ ck.2.2⟩ ⟨sm_blind X h as, fun U hU hW => ⟨rfl, hEU U hU hW⟩⟩ rfl (by simpa using hn) hL.1 (by simp [sm_v]) (lv_room (sm_cats X hr)) hdg ⟨by omega, by omega⟩
  refine sm_runW hrun hS (fun v h1 H1 locs1 hq hw hs1 => ?_)
  have hw2 := hP.2
  have hw3 := hw.2
  have hq2 := hq X p l e_ R s m args below meth c H1 locs1 (cells + mc1) (slots + ms1) QQ ls ⟨f1, f2, f3, f4, f5, f6, f7, f8, f9, f10, ⟨by omega, by omega⟩⟩ ⟨hw.1, by omega⟩ hs1 hL (fun v' h' H' locs' ls' pc' q hw4 hs4 hr4 => by
    have h7 := hk v' h' H' locs' ls' pc' q ⟨hw4.1, by have := hw4.2; omega⟩ hs4 hr4
    rw [show cells + mc1 + mc2 = cells + mc by omega, show slots + ms1 + ms2 = slots + ms by omega]
    exact h7)
  have e9 : ((v.toList ++ st).map (sm_v X)) = (v.map (sm_v X)).toList ++ st.map (sm_v X) := by cases v <;> simp
  rw [e9] at hq2
  exact hq2
theorem wp_callV {k : Nat} (hdg : decode M.2.1 pc = .ok (.invokevirtual idx, 3)) (ck : sm_ckV M.1.cls idx Mc n) (hrc : sm_Rc h k Mc.1.cls) (hst : st0 = as.reverse ++ .ref k :: st) (hn : as.length = n) (hsz : (lg_sl (.ref k :: as)).length ≤ Mc.2.2.1) (hr : (st.map fun v => v.category).sum ≤ 8) (hmc : mc1 + mc2 = mc) (hms : ms1 + ms2 = ms)
    (kk : Wp Mc d mc1 ms1 0 (sm_ini (.ref k :: as) Mc.2.2.1) [] h (fun v h1 => Wp M (d + 1) mc2 ms2 (pc + 3) lv (v.toList ++ st) h1 Q)) : Wp M (d + 1) mc ms pc lv st0 h Q := by
  intro X p l e_ R s m args below meth c H locs cells slots QQ ls F hP hS hL hk
  obtain ⟨f1, f2, f3, f4, f5, f6, f7, f8, f9, f10, f11⟩ := id F
  subst hst
  refine sm_W_size fun hz => ?_
  have hsz1 := sm_size hP f9.1 hS hz
  have hM := wp_met l X ck.1.2.2.2.1 hsz kk
  have hEU : ∀ U : State, U.heap = H → s.WarmedH U.vm → sm_Env X U U.heap ∧ sm_Wd X h U.heap U.heap.size := fun U hU hW => by
    rw [hU]
    exact ⟨f9.mv hW hS.1 hS.2.1, hP.1, hsz1⟩
  have hrun := va_runV (As := as.map (sm_v X)) (rest := st.map (sm_v X)) (g := F0 m pc ls ((as.reverse ++ .ref k :: st).map (sm_v X))) (locs := locs) (cells := cells) (slots := slots) (R := R) (args := args) (below := below) (H := H) (e := e_) (meth := meth) ⟨f1, f2, f3, f5, f8⟩ hM ⟨callB_of n f8 (sm_goodIn ck.1.1) rfl rfl rfl (f8 _ ck.1.2.1) (f8 _ ck.2.1) ck.1.2.2.1 ⟨by show d + 1 ≤ _; omega, by show 8 + (Mc.2.2.1 + 11) + 64 * d ≤ _; have := ck.1.2.2.2.2; omega⟩, f8 _ ck.2.2.1, f8 _ ck.2.2.2⟩ ⟨sm_blind X h (.ref k :: as), hrc.get f9 hP hS, fun U hU hW => ⟨rfl, hEU U hU hW⟩⟩ rfl (by simpa using hn) hL.1 (by simp [sm_v]) (lv_room (sm_cats X hr)) hdg ⟨by omega, by omega⟩
  refine sm_runW hrun hS (fun v h1 H1 locs1 hq hw hs1 => ?_)
  have hw2 := hP.2
  have hw3 := hw.2
  have hq2 := hq X p l e_ R s m args below meth c H1 locs1 (cells + mc1) (slots + ms1) QQ ls ⟨f1, f2, f3, f4, f5, f6, f7, f8, f9, f10, ⟨by omega, by omega⟩⟩ ⟨hw.1, by omega⟩ hs1 hL (fun v' h' H' locs' ls' pc' q hw4 hs4 hr4 => by
    have h7 := hk v' h' H' locs' ls' pc' q ⟨hw4.1, by have := hw4.2; omega⟩ hs4 hr4
    rw [show cells + mc1 + mc2 = cells + mc by omega, show slots + ms1 + ms2 = slots + ms by omega]
    exact h7)
  have e9 : ((v.toList ++ st).map (sm_v X)) = (v.map (sm_v X)).toList ++ st.map (sm_v X) := by cases v <;> simp
  rw [e9] at hq2
  exact hq2
theorem wp_callI {k : Nat} (hdg : decode M.2.1 pc = .ok (.invokespecial idx, 3)) (ck : sm_ckI M.1.cls idx Mc n)  (hst : st0 = as.reverse ++ .ref k :: st) (hn : as.length = n) (hsz : (lg_sl (.ref k :: as)).length ≤ Mc.2.2.1) (hr : (st.map fun v => v.category).sum ≤ 8) (hmc : mc1 + mc2 = mc) (hms : ms1 + ms2 = ms)
    (kk : Wp Mc d mc1 ms1 0 (sm_ini (.ref k :: as) Mc.2.2.1) [] h (fun v h1 => Wp M (d + 1) mc2 ms2 (pc + 3) lv (v.toList ++ st) h1 Q)) : Wp M (d + 1) mc ms pc lv st0 h Q := by
  intro X p l e_ R s m args below meth c H locs cells slots QQ ls F hP hS hL hk
  obtain ⟨f1, f2, f3, f4, f5, f6, f7, f8, f9, f10, f11⟩ := id F
  subst hst
  refine sm_W_size fun hz => ?_
  have hsz1 := sm_size hP f9.1 hS hz
  have hM := wp_met l X ck.1.2.2.2.1 hsz kk
  have hEU : ∀ U : State, U.heap = H → s.WarmedH U.vm → sm_Env X U U.heap ∧ sm_Wd X h U.heap U.heap.size := fun U hU hW => by
    rw [hU]
    exact ⟨f9.mv hW hS.1 hS.2.1, hP.1, hsz1⟩
  have hcb : CallB R s args M.1.cls idx Mc.1 Mc.2.1 Mc.2.2.1 Mc.2.2.2 (sm_wsM Mc) (sm_rm d mc1 ms1) mc1 ms1 n := callB_of n f8 (sm_goodIn ck.1.1) rfl rfl rfl (f8 _ ck.1.2.1) (f8 _ ck.2.1) ck.1.2.2.1 ⟨by show d + 1 ≤ _; omega, by show 8 + (Mc.2.2.1 + 11) + 64 * d ≤ _; have := ck.1.2.2.2.2; omega⟩
  rw [ck.2.2.2.2] at hcb
  have hrun := va_runI (As := as.map (sm_v X)) (rest := st.map (sm_v X)) (g := F0 m pc ls ((as.reverse ++ .ref k :: st).map (sm_v X))) (locs := locs) (cells := cells) (slots := slots) (R := R) (args := args) (below := below) (H := H) (e := e_) (meth := meth) ⟨f1, f2, f3, f5, f8⟩ hM ⟨hcb, ck.2.2.2.1, f8 _ ck.2.2.1⟩ ⟨sm_blind X h (.ref k :: as), fun U hU hW => ⟨rfl, hEU U hU hW⟩⟩ rfl (by simpa using hn) hL.1 (by simp [sm_v]) (lv_room (sm_cats X hr)) hdg ⟨by omega, by omega⟩
  refine sm_runW hrun hS (fun v h1 H1 locs1 hq hw hs1 => ?_)
  have hw2 := hP.2
  have hw3 := hw.2
  have hq2 := hq X p l e_ R s m args below meth c H1 locs1 (cells + mc1) (slots + ms1) QQ ls ⟨f1, f2, f3, f4, f5, f6, f7, f8, f9, f10, ⟨by omega, by omega⟩⟩ ⟨hw.1, by omega⟩ hs1 hL (fun v' h' H' locs' ls' pc' q hw4 hs4 hr4 => by
    have h7 := hk v' h' H' locs' ls' pc' q ⟨hw4.1, by have := hw4.2; omega⟩ hs4 hr4
    rw [show cells + mc1 + mc2 = cells + mc by omega, show slots + ms1 + ms2 = slots + ms by omega]
    exact h7)
  have e9 : ((v.toList ++ st).map (sm_v X)) = (v.map (sm_v X)).toList ++ st.map (sm_v X) := by cases v <;> simp
  rw [e9] at hq2
  exact hq2
theorem wp_callSN {k : Nat} (hdg : decode M.2.1 pc = .ok (.invokestatic idx, 3)) (ck : sm_ckSN M.1.cls idx host Mc n)  (hst : st0 = as.reverse ++ st) (hn : as.length = n) (hsz : (lg_sl as).length ≤ Mc.2.2.1) (hr : (st.map fun v => v.category).sum ≤ 8) (hmc : mc1 + mc2 = mc) (hms : ms1 + ms2 = ms)
    (kk : Wp Mc d mc1 ms1 0 (sm_ini as Mc.2.2.1) [] h (fun v h1 => Wp M (d + 1) mc2 ms2 (pc + 3) lv (v.toList ++ st) h1 Q)) : Wp M (d + 1) mc ms pc lv st0 h Q := by
  intro X p l e_ R s m args below meth c H locs cells slots QQ ls F hP hS hL hk
  obtain ⟨f1, f2, f3, f4, f5, f6, f7, f8, f9, f10, f11⟩ := id F
  subst hst
  refine sm_W_size fun hz => ?_
  have hsz1 := sm_size hP f9.1 hS hz
  have hM := wp_met l X ck.1.2.2.2.1 hsz kk
  have hEU : ∀ U : State, U.heap = H → s.WarmedH U.vm → sm_Env X U U.heap ∧ sm_Wd X h U.heap U.heap.size := fun U hU hW => by
    rw [hU]
    exact ⟨f9.mv hW hS.1 hS.2.1, hP.1, hsz1⟩
  have hrun := va_runSN (As := as.map (sm_v X)) (rest := st.map (sm_v X)) (g := F0 m pc ls ((as.reverse ++ st).map (sm_v X))) (locs := locs) (cells := cells) (slots := slots) (R := R) (args := args) (below := below) (H := H) (e := e_) (meth := meth) ⟨f1, f2, f3, f5, f8⟩ hM ⟨va_cnB n f8 (sm_goodIn ck.1.1) rfl rfl rfl (f9.2.2.2.2 _ ck.2.1) (f8 _ ck.1.2.1) ck.1.2.2.1 ⟨by show d + 1 ≤ _; omega, by show 8 + (Mc.2.2.1 + 11) + 64 * d ≤ _; have := ck.1.2.2.2.2; omega⟩, f8 _ ck.2.2, trivial⟩ ⟨sm_blind X h as, fun U hU hW => ⟨rfl, hEU U hU hW⟩⟩ rfl (by simpa using hn) hL.1 (by simp [sm_v]) (lv_room (sm_cats X hr)) hdg ⟨by omega, by omega⟩
  refine sm_runW hrun hS (fun v h1 H1 locs1 hq hw hs1 => ?_)
  have hw2 := hP.2
  have hw3 := hw.2
  have hq2 := hq X p l e_ R s m args below meth c H1 locs1 (cells + mc1) (slots + ms1) QQ ls ⟨f1, f2, f3, f4, f5, f6, f7, f8, f9, f10, ⟨by omega, by omega⟩⟩ ⟨hw.1, by omega⟩ hs1 hL (fun v' h' H' locs' ls' pc' q hw4 hs4 hr4 => by
    have h7 := hk v' h' H' locs' ls' pc' q ⟨hw4.1, by have := hw4.2; omega⟩ hs4 hr4
    rw [show cells + mc1 + mc2 = cells + mc by omega, show slots + ms1 + ms2 = slots + ms by omega]
    exact h7)
  have e9 : ((v.toList ++ st).map (sm_v X)) = (v.map (sm_v X)).toList ++ st.map (sm_v X) := by cases v <;> simp
  rw [e9] at hq2
  exact hq2
theorem wp_callVN {k : Nat} (hdg : decode M.2.1 pc = .ok (.invokevirtual idx, 3)) (ck : sm_ckVN M.1.cls idx host Mc n) (hrc : sm_Rc h k Mc.1.cls) (hst : st0 = as.reverse ++ .ref k :: st) (hn : as.length = n) (hsz : (lg_sl (.ref k :: as)).length ≤ Mc.2.2.1) (hr : (st.map fun v => v.category).sum ≤ 8) (hmc : mc1 + mc2 = mc) (hms : ms1 + ms2 = ms)
    (kk : Wp Mc d mc1 ms1 0 (sm_ini (.ref k :: as) Mc.2.2.1) [] h (fun v h1 => Wp M (d + 1) mc2 ms2 (pc + 3) lv (v.toList ++ st) h1 Q)) : Wp M (d + 1) mc ms pc lv st0 h Q := by
  intro X p l e_ R s m args below meth c H locs cells slots QQ ls F hP hS hL hk
  obtain ⟨f1, f2, f3, f4, f5, f6, f7, f8, f9, f10, f11⟩ := id F
  subst hst
  refine sm_W_size fun hz => ?_
  have hsz1 := sm_size hP f9.1 hS hz
  have hM := wp_met l X ck.1.2.2.2.1 hsz kk
  have hEU : ∀ U : State, U.heap = H → s.WarmedH U.vm → sm_Env X U U.heap ∧ sm_Wd X h U.heap U.heap.size := fun U hU hW => by
    rw [hU]
    exact ⟨f9.mv hW hS.1 hS.2.1, hP.1, hsz1⟩
  have hrun := va_runVN (As := as.map (sm_v X)) (rest := st.map (sm_v X)) (g := F0 m pc ls ((as.reverse ++ .ref k :: st).map (sm_v X))) (locs := locs) (cells := cells) (slots := slots) (R := R) (args := args) (below := below) (H := H) (e := e_) (meth := meth) ⟨f1, f2, f3, f5, f8⟩ hM ⟨va_cnB n f8 (sm_goodIn ck.1.1) rfl rfl rfl (f9.2.2.2.2 _ ck.2.1) (f8 _ ck.1.2.1) ck.1.2.2.1 ⟨by show d + 1 ≤ _; omega, by show 8 + (Mc.2.2.1 + 11) + 64 * d ≤ _; have := ck.1.2.2.2.2; omega⟩, f8 _ ck.2.2.1, f8 _ ck.2.2.2⟩ ⟨sm_blind X h (.ref k :: as), hrc.get f9 hP hS, fun U hU hW => ⟨rfl, hEU U hU hW⟩⟩ rfl (by simpa using hn) hL.1 (by simp [sm_v]) (lv_room (sm_cats X hr)) hdg ⟨by omega, by omega⟩
  refine sm_runW hrun hS (fun v h1 H1 locs1 hq hw hs1 => ?_)
  have hw2 := hP.2
  have hw3 := hw.2
  have hq2 := hq X p l e_ R s m args below meth c H1 locs1 (cells + mc1) (slots + ms1) QQ ls ⟨f1, f2, f3, f4, f5, f6, f7, f8, f9, f10, ⟨by omega, by omega⟩⟩ ⟨hw.1, by omega⟩ hs1 hL (fun v' h' H' locs' ls' pc' q hw4 hs4 hr4 => by
    have h7 := hk v' h' H' locs' ls' pc' q ⟨hw4.1, by have := hw4.2; omega⟩ hs4 hr4
    rw [show cells + mc1 + mc2 = cells + mc by omega, show slots + ms1 + ms2 = slots + ms by omega]
    exact h7)
  have e9 : ((v.toList ++ st).map (sm_v X)) = (v.map (sm_v X)).toList ++ st.map (sm_v X) := by cases v <;> simp
  rw [e9] at hq2
  exact hq2
theorem wp_callIN {k : Nat} (hdg : decode M.2.1 pc = .ok (.invokespecial idx, 3)) (ck : sm_ckIN M.1.cls idx host Mc n)  (hst : st0 = as.reverse ++ .ref k :: st) (hn : as.length = n) (hsz : (lg_sl (.ref k :: as)).length ≤ Mc.2.2.1) (hr : (st.map fun v => v.category).sum ≤ 8) (hmc : mc1 + mc2 = mc) (hms : ms1 + ms2 = ms)
    (kk : Wp Mc d mc1 ms1 0 (sm_ini (.ref k :: as) Mc.2.2.1) [] h (fun v h1 => Wp M (d + 1) mc2 ms2 (pc + 3) lv (v.toList ++ st) h1 Q)) : Wp M (d + 1) mc ms pc lv st0 h Q := by
  intro X p l e_ R s m args below meth c H locs cells slots QQ ls F hP hS hL hk
  obtain ⟨f1, f2, f3, f4, f5, f6, f7, f8, f9, f10, f11⟩ := id F
  subst hst
  refine sm_W_size fun hz => ?_
  have hsz1 := sm_size hP f9.1 hS hz
  have hM := wp_met l X ck.1.2.2.2.1 hsz kk
  have hEU : ∀ U : State, U.heap = H → s.WarmedH U.vm → sm_Env X U U.heap ∧ sm_Wd X h U.heap U.heap.size := fun U hU hW => by
    rw [hU]
    exact ⟨f9.mv hW hS.1 hS.2.1, hP.1, hsz1⟩
  have hcb : va_CN R s args M.1.cls idx Mc.1 host Mc.2.1 Mc.2.2.1 Mc.2.2.2 (sm_wsM Mc) (sm_rm d mc1 ms1) mc1 ms1 n := va_cnB n f8 (sm_goodIn ck.1.1) rfl rfl rfl (f9.2.2.2.2 _ ck.2.1) (f8 _ ck.1.2.1) ck.1.2.2.1 ⟨by show d + 1 ≤ _; omega, by show 8 + (Mc.2.2.1 + 11) + 64 * d ≤ _; have := ck.1.2.2.2.2; omega⟩
  rw [ck.2.2.2.2] at hcb
  have hrun := va_runIN (As := as.map (sm_v X)) (rest := st.map (sm_v X)) (g := F0 m pc ls ((as.reverse ++ .ref k :: st).map (sm_v X))) (locs := locs) (cells := cells) (slots := slots) (R := R) (args := args) (below := below) (H := H) (e := e_) (meth := meth) ⟨f1, f2, f3, f5, f8⟩ hM ⟨hcb, ck.2.2.2.1, f8 _ ck.2.2.1⟩ ⟨sm_blind X h (.ref k :: as), fun U hU hW => ⟨rfl, hEU U hU hW⟩⟩ rfl (by simpa using hn) hL.1 (by simp [sm_v]) (lv_room (sm_cats X hr)) hdg ⟨by omega, by omega⟩
  refine sm_runW hrun hS (fun v h1 H1 locs1 hq hw hs1 => ?_)
  have hw2 := hP.2
  have hw3 := hw.2
  have hq2 := hq X p l e_ R s m args below meth c H1 locs1 (cells + mc1) (slots + ms1) QQ ls ⟨f1, f2, f3, f4, f5, f6, f7, f8, f9, f10, ⟨by omega, by omega⟩⟩ ⟨hw.1, by omega⟩ hs1 hL (fun v' h' H' locs' ls' pc' q hw4 hs4 hr4 => by
    have h7 := hk v' h' H' locs' ls' pc' q ⟨hw4.1, by have := hw4.2; omega⟩ hs4 hr4
    rw [show cells + mc1 + mc2 = cells + mc by omega, show slots + ms1 + ms2 = slots + ms by omega]
    exact h7)
  have e9 : ((v.toList ++ st).map (sm_v X)) = (v.map (sm_v X)).toList ++ st.map (sm_v X) := by cases v <;> simp
  rw [e9] at hq2
  exact hq2
end SM5
