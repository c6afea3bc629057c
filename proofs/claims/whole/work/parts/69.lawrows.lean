/-! ===== the law: its rows, for a script that is fixed ===== -/
def WpX (X : sm_X) (M : sm_M) (d mc ms pc : Nat) (lv st : List Value) (h : sm_H) (Q : Option Value → sm_H → Prop) : Prop :=
  ∀ (p : Program) (l : Launch) (e : Env) (R : Room) (s : State) (m : MethodId) (args : Array Value) (below : List Frame) (meth : Method) (c : Code) (H : Heap) (locs : List Loc) (cells slots : Nat) (QQ : State → Prop) (ls : Array Slot),
    sm_Fx M d mc ms X p R s m args meth c cells slots → sm_Wd X h H (s.heap.size + cells) → va_S (sm_A X) s.heap H locs → sm_L X ls M.2.2.1 lv →
    (∀ (v : Option Value) (h' : sm_H) (H' : Heap) (locs' : List Loc) (ls' : Array Slot) (pc' : Nat), Q v h' → sm_Wd X h' H' (s.heap.size + (cells + mc)) → va_S (sm_A X) s.heap H' locs' → sm_rt M v pc' →
      W p l e R s m args below meth c H' locs' (cells + mc) (slots + ms) QQ (F0 m pc' ls' (v.map (sm_v X)).toList)) →
    W p l e R s m args below meth c H locs cells slots QQ (F0 m pc ls (st.map (sm_v X)))
section WX
variable {X : sm_X} {M Mc : sm_M} {d mc ms pc mc1 ms1 mc2 ms2 n : Nat} {lv st st0 as : List Value} {h : sm_H} {Q : Option Value → sm_H → Prop}

theorem wx_iconst {n : Int} (v : Int32) (hdg : decode M.2.1 pc = .ok (.iconst n, 1)) (hv : Int32.ofInt n = v)
    (k : WpX X M d mc ms (pc + 1) lv (.int v :: st) h Q) : WpX X M d mc ms pc lv st h Q := by
  intro p l e_ R s m args below meth c H locs cells slots QQ ls F hP hS hL hk
  exact lv_iconst F.1 F.2.1 hdg hv (k p l e_ R s m args below meth c H locs cells slots QQ ls F hP hS hL hk)
theorem wx_bipush {n : Int} (v : Int32) (hdg : decode M.2.1 pc = .ok (.bipush n, 2)) (hv : (Int8.ofInt n).toInt32 = v)
    (k : WpX X M d mc ms (pc + 2) lv (.int v :: st) h Q) : WpX X M d mc ms pc lv st h Q := by
  intro p l e_ R s m args below meth c H locs cells slots QQ ls F hP hS hL hk
  exact lv_bipush F.1 F.2.1 hdg hv (k p l e_ R s m args below meth c H locs cells slots QQ ls F hP hS hL hk)
theorem wx_iadd {x y : Int32} (hdg : decode M.2.1 pc = .ok (.iadd, 1))
    (k : WpX X M d mc ms (pc + 1) lv (.int (x + y) :: st) h Q) : WpX X M d mc ms pc lv (.int y :: .int x :: st) h Q := by
  intro p l e_ R s m args below meth c H locs cells slots QQ ls F hP hS hL hk
  exact lv_iadd F.1 F.2.1 hdg (k p l e_ R s m args below meth c H locs cells slots QQ ls F hP hS hL hk)
theorem wx_isub {x y : Int32} (hdg : decode M.2.1 pc = .ok (.isub, 1))
    (k : WpX X M d mc ms (pc + 1) lv (.int (x - y) :: st) h Q) : WpX X M d mc ms pc lv (.int y :: .int x :: st) h Q := by
  intro p l e_ R s m args below meth c H locs cells slots QQ ls F hP hS hL hk
  exact lv_isub F.1 F.2.1 hdg (k p l e_ R s m args below meth c H locs cells slots QQ ls F hP hS hL hk)
theorem wx_iand {x y : Int32} (hdg : decode M.2.1 pc = .ok (.iand, 1))
    (k : WpX X M d mc ms (pc + 1) lv (.int (x &&& y) :: st) h Q) : WpX X M d mc ms pc lv (.int y :: .int x :: st) h Q := by
  intro p l e_ R s m args below meth c H locs cells slots QQ ls F hP hS hL hk
  exact lv_iand F.1 F.2.1 hdg (k p l e_ R s m args below meth c H locs cells slots QQ ls F hP hS hL hk)
theorem wx_land {x y : Int64} (hdg : decode M.2.1 pc = .ok (.land, 1))
    (k : WpX X M d mc ms (pc + 1) lv (.long (x &&& y) :: st) h Q) : WpX X M d mc ms pc lv (.long y :: .long x :: st) h Q := by
  intro p l e_ R s m args below meth c H locs cells slots QQ ls F hP hS hL hk
  exact lv_land F.1 F.2.1 hdg (k p l e_ R s m args below meth c H locs cells slots QQ ls F hP hS hL hk)
theorem wx_lor {x y : Int64} (hdg : decode M.2.1 pc = .ok (.lor, 1))
    (k : WpX X M d mc ms (pc + 1) lv (.long (x ||| y) :: st) h Q) : WpX X M d mc ms pc lv (.long y :: .long x :: st) h Q := by
  intro p l e_ R s m args below meth c H locs cells slots QQ ls F hP hS hL hk
  exact lv_lor F.1 F.2.1 hdg (k p l e_ R s m args below meth c H locs cells slots QQ ls F hP hS hL hk)
theorem wx_lshl {x : Int64} {y : Int32} (hdg : decode M.2.1 pc = .ok (.lshl, 1))
    (k : WpX X M d mc ms (pc + 1) lv (.long (x <<< (y.toInt64 &&& 63)) :: st) h Q) : WpX X M d mc ms pc lv (.int y :: .long x :: st) h Q := by
  intro p l e_ R s m args below meth c H locs cells slots QQ ls F hP hS hL hk
  exact lv_lshl F.1 F.2.1 hdg rfl (k p l e_ R s m args below meth c H locs cells slots QQ ls F hP hS hL hk)
theorem wx_lcmp {x y : Int64} (hdg : decode M.2.1 pc = .ok (.lcmp, 1))
    (k : WpX X M d mc ms (pc + 1) lv (.int (lg_cmp x y) :: st) h Q) : WpX X M d mc ms pc lv (.long y :: .long x :: st) h Q := by
  intro p l e_ R s m args below meth c H locs cells slots QQ ls F hP hS hL hk
  exact W.lcmp F.1 F.2.1 hdg (k p l e_ R s m args below meth c H locs cells slots QQ ls F hP hS hL hk)
theorem wx_i2l {x : Int32} (hdg : decode M.2.1 pc = .ok (.i2l, 1))
    (k : WpX X M d mc ms (pc + 1) lv (.long (x.toInt64) :: st) h Q) : WpX X M d mc ms pc lv (.int x :: st) h Q := by
  intro p l e_ R s m args below meth c H locs cells slots QQ ls F hP hS hL hk
  exact lv_i2l F.1 F.2.1 hdg rfl (k p l e_ R s m args below meth c H locs cells slots QQ ls F hP hS hL hk)
theorem wx_dup {v : Value} (hdg : decode M.2.1 pc = .ok (.dup, 1)) (hv : v.category = 1)
    (k : WpX X M d mc ms (pc + 1) lv (v :: v :: st) h Q) : WpX X M d mc ms pc lv (v :: st) h Q := by
  intro p l e_ R s m args below meth c H locs cells slots QQ ls F hP hS hL hk
  exact lv_dup F.1 F.2.1 hdg ((sm_v_cat X v).trans hv) (k p l e_ R s m args below meth c H locs cells slots QQ ls F hP hS hL hk)
theorem wx_iload_n {n : Fin 4} (i : Nat) {x : Int32} (hdg : decode M.2.1 pc = .ok (.iload_n n, 1)) (hi : (n : Nat) = i) (hl : lv[i]? = some (.int x))
    (k : WpX X M d mc ms (pc + 1) lv (.int x :: st) h Q) : WpX X M d mc ms pc lv st h Q := by
  intro p l e_ R s m args below meth c H locs cells slots QQ ls F hP hS hL hk
  exact lv_iload_n F.1 F.2.1 hdg hi (hL.at hl (fun z => by cases z)) (k p l e_ R s m args below meth c H locs cells slots QQ ls F hP hS hL hk)
theorem wx_aload_n {n : Fin 4} (i : Nat) {x : Nat} (hdg : decode M.2.1 pc = .ok (.aload_n n, 1)) (hi : (n : Nat) = i) (hl : lv[i]? = some (.ref x))
    (k : WpX X M d mc ms (pc + 1) lv (.ref x :: st) h Q) : WpX X M d mc ms pc lv st h Q := by
  intro p l e_ R s m args below meth c H locs cells slots QQ ls F hP hS hL hk
  exact lv_aload_n F.1 F.2.1 hdg hi (hL.at hl (fun z => by cases z)) (k p l e_ R s m args below meth c H locs cells slots QQ ls F hP hS hL hk)
theorem wx_istore_n {n : Fin 4} (i : Nat) {x : Int32} (hdg : decode M.2.1 pc = .ok (.istore_n n, 1)) (hi : (n : Nat) = i) (hm : i < M.2.2.1) (hp : sm_pr lv i = true)
    (k : WpX X M d mc ms (pc + 1) (lv.set i (.int x)) st h Q) : WpX X M d mc ms pc lv (.int x :: st) h Q := by
  intro p l e_ R s m args below meth c H locs cells slots QQ ls F hP hS hL hk
  exact lv_istore_n F.1 F.2.1 hdg hi hL.has hm rfl (fun ls hL2 => k p l e_ R s m args below meth c H locs cells slots QQ ls F hP hS (sm_L.st1 (x := .int x) hp hL2) hk)
theorem wx_astore_n {n : Fin 4} (i : Nat) {x : Nat} (hdg : decode M.2.1 pc = .ok (.astore_n n, 1)) (hi : (n : Nat) = i) (hm : i < M.2.2.1) (hp : sm_pr lv i = true)
    (k : WpX X M d mc ms (pc + 1) (lv.set i (.ref x)) st h Q) : WpX X M d mc ms pc lv (.ref x :: st) h Q := by
  intro p l e_ R s m args below meth c H locs cells slots QQ ls F hP hS hL hk
  exact lv_astore_n F.1 F.2.1 hdg hi hL.has hm rfl (fun ls hL2 => k p l e_ R s m args below meth c H locs cells slots QQ ls F hP hS (sm_L.st1 (x := .ref x) hp hL2) hk)
theorem wx_iinc (i : Nat) {n : Int} {x : Int32} (v : Int32) (hdg : decode M.2.1 pc = .ok (.iinc i n, 3)) (hl : lv[i]? = some (.int x)) (hv : x + Int32.ofInt n = v) (hm : i < M.2.2.1) (hp : sm_pr lv i = true)
    (k : WpX X M d mc ms (pc + 3) (lv.set i (.int v)) st h Q) : WpX X M d mc ms pc lv st h Q := by
  intro p l e_ R s m args below meth c H locs cells slots QQ ls F hP hS hL hk
  obtain ⟨j, hj⟩ := List.getElem?_of_mem (sm_as_in (X := X) hl (fun z => by cases z))
  exact lv_iinc F.1 F.2.1 hdg hL.has (k := j) hj hv hm rfl (fun ls hL2 => k p l e_ R s m args below meth c H locs cells slots QQ ls F hP hS (sm_L.st1 (x := .int v) hp hL2) hk)
theorem wx_goto {off : Int} (tgt : Nat) (hdg : decode M.2.1 pc = .ok (.goto off, 3)) (ht : (pc : Int) + off = (tgt : Int))
    (k : WpX X M d mc ms tgt lv st h Q) : WpX X M d mc ms pc lv st h Q := by
  intro p l e_ R s m args below meth c H locs cells slots QQ ls F hP hS hL hk
  exact lv_goto F.1 F.2.1 hdg ht (k p l e_ R s m args below meth c H locs cells slots QQ ls F hP hS hL hk)
theorem wx_icmp_eq {x y : Int32} {off : Int} (tgt : Nat) (hdg : decode M.2.1 pc = .ok (.if_icmp .eq off, 3)) (ht : (pc : Int) + off = (tgt : Int))
    (kt : x = y → WpX X M d mc ms tgt lv st h Q) (kf : ¬ x = y → WpX X M d mc ms (pc + 3) lv st h Q) : WpX X M d mc ms pc lv (.int y :: .int x :: st) h Q := by
  intro p l e_ R s m args below meth c H locs cells slots QQ ls F hP hS hL hk
  exact lv_icmp_eq F.1 F.2.1 hdg ht (fun z => kt z p l e_ R s m args below meth c H locs cells slots QQ ls F hP hS hL hk) (fun z => kf z p l e_ R s m args below meth c H locs cells slots QQ ls F hP hS hL hk)
theorem wx_ifeq {x : Int32} {off : Int} (tgt : Nat) (hdg : decode M.2.1 pc = .ok (.ifCond .eq off, 3)) (ht : (pc : Int) + off = (tgt : Int))
    (kt : x = 0 → WpX X M d mc ms tgt lv st h Q) (kf : ¬ x = 0 → WpX X M d mc ms (pc + 3) lv st h Q) : WpX X M d mc ms pc lv (.int x :: st) h Q := by
  intro p l e_ R s m args below meth c H locs cells slots QQ ls F hP hS hL hk
  exact lv_if_eq F.1 F.2.1 hdg ht (fun z => kt z p l e_ R s m args below meth c H locs cells slots QQ ls F hP hS hL hk) (fun z => kf z p l e_ R s m args below meth c H locs cells slots QQ ls F hP hS hL hk)
theorem wx_icmp_gt {x y : Int32} {off : Int} (tgt : Nat) (hdg : decode M.2.1 pc = .ok (.if_icmp .gt off, 3)) (ht : (pc : Int) + off = (tgt : Int))
    (kt : y < x → WpX X M d mc ms tgt lv st h Q) (kf : ¬ y < x → WpX X M d mc ms (pc + 3) lv st h Q) : WpX X M d mc ms pc lv (.int y :: .int x :: st) h Q := by
  intro p l e_ R s m args below meth c H locs cells slots QQ ls F hP hS hL hk
  exact lv_icmp_gt F.1 F.2.1 hdg ht (fun z => kt z p l e_ R s m args below meth c H locs cells slots QQ ls F hP hS hL hk) (fun z => kf z p l e_ R s m args below meth c H locs cells slots QQ ls F hP hS hL hk)
theorem wx_iret {x : Int32} (hdg : decode M.2.1 pc = .ok (.ireturn, 1)) (hr : ∃ ty, M.2.2.2 = some ty ∧ narrow ty (.int x) = .int x) (k : Q (some (.int x)) h) : WpX X M d 0 0 pc lv [.int x] h Q := by
  intro p l e_ R s m args below meth c H locs cells slots QQ ls F hP hS hL hk
  exact hk (some (.int x)) h H locs ls pc k hP hS ⟨hdg, hr⟩
theorem wx_new {ci idx : Nat} (hdg : decode M.2.1 pc = .ok (.new idx, 3)) (hci : ci < 7) (hcl : Cond.classLink M.1.cls idx (sm_C ci) ∈ sm_Ts) (hins : Cond.instantiable (sm_C ci) (sm_N ci) ∈ sm_Ts) (hini : Cond.initialized (sm_C ci) ∈ sm_Ts) (k9 : h.1.length < 900) (hdef : ∀ j, j < sm_N ci → defaultValue (sm_ty ci j) = if sm_isR (sm_ty ci j) = true then .null else .int 0)
    (kk : WpX X M d mc ms (pc + 3) lv (.ref h.1.length :: st) (h.1 ++ [(0, ci, List.replicate (sm_N ci) none)], sm_ups h.2.1 h.1.length (fun _ => 0), h.2.2.1, h.2.2.2) Q) : WpX X M d (mc + 1) (ms + sm_N ci) pc lv st h Q := by
  intro p l e_ R s m args below meth c H locs cells slots QQ ls F hP hS hL hk
  obtain ⟨f1, f2, f3, f4, f5, f6, f7, f8, f9, f10, f11⟩ := id F
  refine sm_W_size fun hz => ?_
  have hsz := sm_size hP f9.1 hS hz
  have hKn := f9.2.1.1 ci _ (sm_cl hci)
  refine W.newcK f1 f2 f5 (f8 _ hcl) (f8 _ hins) (f8 _ hini) rfl hdg (by omega) (by omega) hKn.2.1 rfl fun H1 kC hkC e1 z1 o1 => ?_
  have e3 : sm_ws X (h.1 ++ [(0, ci, List.replicate (sm_N ci) none)], sm_ups h.2.1 h.1.length (fun _ => 0), h.2.2.1, h.2.2.2) = sm_ws X h ++ [(X.1 + h.1.length, .inr (ci, (List.range (sm_N ci)).map (fun j => defaultValue (sm_ty ci j))))] := by
    rw [sm_ws_push (h := h) (h' := (h.1 ++ [(0, ci, List.replicate (sm_N ci) none)], sm_ups h.2.1 h.1.length (fun _ => 0), h.2.2.1, h.2.2.2)) (x := (0, ci, List.replicate (sm_N ci) none)) rfl (fun i hi => sm_ce_eq (List.getElem?_append_left hi) (sm_ups_ne (k := h.1.length) (by omega)) rfl rfl), sm_ce_o (ci := ci) (refs := List.replicate (sm_N ci) none) (by simp)]
    congr 5
    refine List.map_congr_left fun j hj => ?_
    have hj' := List.mem_range.mp hj
    rw [hdef j hj']
    unfold sm_fv
    by_cases ht : sm_isR (sm_ty ci j) = true
    · rw [if_pos ht, if_pos ht]
      rw [List.getElem?_replicate, if_pos hj']
    · rw [if_neg ht, if_neg ht]
      show Value.int (sm_ups h.2.1 h.1.length (fun _ => 0) h.1.length j) = _
      rw [sm_ups_eq]
  have hk2 : ∀ (k : Nat) (x : Nat × va_E), (sm_ws X h)[k]? = some x → H1[x.1]? = H[x.1]? := fun k x hx => o1 x.1 ((hP.1 k x hx).lt)
  have hP1 : va_P X.2.2.1 vwCl (sm_ws X h ++ [(X.1 + h.1.length, .inr (ci, (List.range (sm_N ci)).map (fun j => defaultValue (sm_ty ci j))))]) H1 := by
    refine (hP.1.kept hk2).app (fun k x hx => ?_)
    have hz2 : k < 1 := (List.getElem?_eq_some_iff.mp hx).1
    rw [show k = 0 by omega] at hx
    cases hx
    rw [← hsz]
    exact ⟨_, sm_cl hci, (u_born (sm_ty ci) f8 (sm_in ci hci) hKn hkC e1 (sm_ty_ok hci)).to (fun j hj => by
      have hj' : j < sm_N ci := hj
      simp [vp_V, hj'])⟩
  rw [← e3] at hP1
  have hS1 : va_S (sm_A X) s.heap H1 locs := ⟨Nat.le_trans hS.1 (by omega), fun x h1 h2 => (o1 x (Nat.lt_of_lt_of_le h1 hS.1)).trans (hS.2.1 x h1 h2), hS.2.2⟩
  have e5 : (F0 m pc ls (st.map (sm_v X))).stack = st.map (sm_v X) := rfl
  have e6 : Value.ref H.size = sm_v X (.ref h.1.length) := by
    show Value.ref H.size = .ref (sm_G X h.1.length)
    rw [sm_G_lt k9, hsz]
  show W p l e_ R s m args below meth c H1 locs (cells + 1) (slots + sm_N ci) QQ (F0 m (pc + 3) ls (.ref H.size :: st.map (sm_v X)))
  rw [e6]
  have hn := hP.2
  refine kk p l e_ R s m args below meth c H1 locs (cells + 1) (slots + sm_N ci) QQ ls ⟨f1, f2, f3, f4, f5, f6, f7, f8, f9, f10, ⟨by omega, by omega⟩⟩ ⟨hP1, by simp; omega⟩ hS1 hL (fun v h' H' locs' ls' pc' q hw hs hr => ?_)
  have h7 := hk v h' H' locs' ls' pc' q ⟨hw.1, by have := hw.2; omega⟩ hs hr
  rw [show cells + 1 + mc = cells + (mc + 1) by omega, show slots + sm_N ci + ms = slots + (ms + sm_N ci) by omega]
  exact h7
theorem wx_ldc2 {idx : Nat} (v : Int64) (hdg : decode M.2.1 pc = .ok (.ldc2_w idx, 3)) (hc : Cond.constantLong M.1.cls idx v ∈ sm_Ts) (kk : WpX X M d mc ms (pc + 3) lv (.long v :: st) h Q) : WpX X M d mc ms pc lv st h Q := by
  intro p l e_ R s m args below meth c H locs cells slots QQ ls F hP hS hL hk
  obtain ⟨f1, f2, f3, f4, f5, f6, f7, f8, f9, f10, f11⟩ := id F
  exact lv_ldc2 f1 f2 f5 (f8 _ hc) hdg (kk p l e_ R s m args below meth c H locs cells slots QQ ls F hP hS hL hk)
theorem wx_tswI {dflt lo hi : Int} {offs : Array Int} {len : Nat} {x : Int32} (j : Nat) {off : Int} (tgt : Nat) (hdg : decode M.2.1 pc = .ok (.tableswitch dflt lo hi offs, len)) (hx : x.toInt = lo + j) (hj : lo + j ≤ hi) (ho : offs[j]? = some off) (ht : (pc : Int) + off = (tgt : Int))
    (k : WpX X M d mc ms tgt lv st h Q) : WpX X M d mc ms pc lv (.int x :: st) h Q := by
  intro p l e_ R s m args below meth c H locs cells slots QQ ls F hP hS hL hk
  exact lv_tableIn F.1 F.2.1 hdg (by omega) (by omega) (by rw [hx, show (lo + (j : Int) - lo).toNat = j by omega]; exact ho) ht (k p l e_ R s m args below meth c H locs cells slots QQ ls F hP hS hL hk)
theorem wx_tswO {dflt lo hi : Int} {offs : Array Int} {len : Nat} {x : Int32} (tgt : Nat) (hdg : decode M.2.1 pc = .ok (.tableswitch dflt lo hi offs, len)) (hx : x.toInt < lo ∨ hi < x.toInt) (ht : (pc : Int) + dflt = (tgt : Int))
    (k : WpX X M d mc ms tgt lv st h Q) : WpX X M d mc ms pc lv (.int x :: st) h Q := by
  intro p l e_ R s m args below meth c H locs cells slots QQ ls F hP hS hL hk
  exact lv_tableOut F.1 F.2.1 hdg hx ht (k p l e_ R s m args below meth c H locs cells slots QQ ls F hP hS hL hk)
theorem wx_callV {idx k : Nat} (hdg : decode M.2.1 pc = .ok (.invokevirtual idx, 3)) (ck : sm_ckV M.1.cls idx Mc n) (hrc : sm_Rc h k Mc.1.cls) (hst : st0 = as.reverse ++ .ref k :: st) (hn : as.length = n) (hsz : (lg_sl (.ref k :: as)).length ≤ Mc.2.2.1) (hr : (st.map fun v => v.category).sum ≤ 8) (hmc : mc1 + mc2 = mc) (hms : ms1 + ms2 = ms)
    (kk : Wp Mc d mc1 ms1 0 (sm_ini (.ref k :: as) Mc.2.2.1) [] h (fun v h1 => WpX X M (d + 1) mc2 ms2 (pc + 3) lv (v.toList ++ st) h1 Q)) : WpX X M (d + 1) mc ms pc lv st0 h Q := by
  intro p l e_ R s m args below meth c H locs cells slots QQ ls F hP hS hL hk
  obtain ⟨f1, f2, f3, f4, f5, f6, f7, f8, f9, f10, f11⟩ := id F
  subst hst
  refine sm_W_size fun hz => ?_
  have hsz1 := sm_size hP f9.1 hS hz
  have hM := wp_met l X ck.1.2.2.2.1 hsz kk
  have hEU : ∀ U : State, U.heap = H → s.WarmedH U.vm → sm_Env X U U.heap ∧ sm_Wd X h U.heap U.heap.size := fun U hU hW => by
    rw [hU]
    exact ⟨f9.mv hW hS.1 hS.2.1, hP.1, hsz1⟩
  have hrun := va_runV (As := as.map (sm_v X)) (rest := st.map (sm_v X)) (g := F0 m pc ls ((as.reverse ++ .ref k :: st).map (sm_v X))) (locs := locs) (cells := cells) (slots := slots) (R := R) (args := args) (below := below) (H := H) (e := e_) (meth := meth) ⟨f1, f2, f3, f5, f8⟩ hM ⟨callB_of n f8 (sm_goodIn ck.1.1) rfl rfl rfl (f8 _ ck.1.2.1) (f8 _ ck.2.1) ck.1.2.2.1 ⟨by show d + 1 ≤ _; omega, by show 8 + (Mc.2.2.1 + 11) + 64 * d ≤ _; have := ck.1.2.2.2.2; omega⟩, f8 _ ck.2.2.1, f8 _ ck.2.2.2⟩ ⟨sm_blind X h (.ref k :: as), hrc.get f9 hP hS, fun U hU hW => ⟨rfl, hEU U hU hW⟩⟩ rfl (by simpa using hn) hL.1 (by simp [sm_v]) (lv_room (sm_cats X hr)) hdg ⟨by omega, by omega⟩
  refine sm_runW hrun hS (fun v h1 H1 locs1 hq hw hs1 => ?_)
  have hw2 := hP.2
  have hw3 := hw.2
  have hq2 := hq p l e_ R s m args below meth c H1 locs1 (cells + mc1) (slots + ms1) QQ ls ⟨f1, f2, f3, f4, f5, f6, f7, f8, f9, f10, ⟨by omega, by omega⟩⟩ ⟨hw.1, by omega⟩ hs1 hL (fun v' h' H' locs' ls' pc' q hw4 hs4 hr4 => by
    have h7 := hk v' h' H' locs' ls' pc' q ⟨hw4.1, by have := hw4.2; omega⟩ hs4 hr4
    rw [show cells + mc1 + mc2 = cells + mc by omega, show slots + ms1 + ms2 = slots + ms by omega]
    exact h7)
  have e9 : ((v.toList ++ st).map (sm_v X)) = (v.map (sm_v X)).toList ++ st.map (sm_v X) := by cases v <;> simp
  rw [e9] at hq2
  exact hq2
theorem wx_callI {idx k : Nat} (hdg : decode M.2.1 pc = .ok (.invokespecial idx, 3)) (ck : sm_ckI M.1.cls idx Mc n)  (hst : st0 = as.reverse ++ .ref k :: st) (hn : as.length = n) (hsz : (lg_sl (.ref k :: as)).length ≤ Mc.2.2.1) (hr : (st.map fun v => v.category).sum ≤ 8) (hmc : mc1 + mc2 = mc) (hms : ms1 + ms2 = ms)
    (kk : Wp Mc d mc1 ms1 0 (sm_ini (.ref k :: as) Mc.2.2.1) [] h (fun v h1 => WpX X M (d + 1) mc2 ms2 (pc + 3) lv (v.toList ++ st) h1 Q)) : WpX X M (d + 1) mc ms pc lv st0 h Q := by
  intro p l e_ R s m args below meth c H locs cells slots QQ ls F hP hS hL hk
  obtain ⟨f1, f2, f3, f4, f5, f6, f7, f8, f9, f10, f11⟩ := id F
  subst hst
  refine sm_W_size fun hz => ?_
  have hsz1 := sm_size hP f9.1 hS hz
  have hM := wp_met l X ck.1.2.2.2.1 hsz kk
  have hEU : ∀ U : State, U.heap = H → s.WarmedH U.vm → sm_Env X U U.heap ∧ sm_Wd X h U.heap U.heap.size := fun U hU hW => by
    rw [hU]
    exact ⟨f9.mv hW hS.1 hS.2.1, hP.1, hsz1⟩
  have hcb : CallB R s args M.1.cls idx Mc.1 Mc.2.1 Mc.2.2.1 Mc.2.2.2 (sm_wsM Mc) (sm_rm d mc1 ms1) mc1 ms1 n := callB_of n f8 (sm_goodIn ck.1.1) rfl rfl rfl (f8 _ ck.1.2.1) (f8 _ ck.2.1) ck.1.2.2.1 ⟨by show d + 1 ≤ _; omega, by show 8 + (Mc.2.2.1 + 11) + 64 * d ≤ _; have := ck.1.2.2.2.2; omega⟩
  rw [ck.2.2.2.2] at hcb
  have hrun := va_runI (As := as.map (sm_v X)) (rest := st.map (sm_v X)) (g := F0 m pc ls ((as.reverse ++ .ref k :: st).map (sm_v X))) (locs := locs) (cells := cells) (slots := slots) (R := R) (args := args) (below := below) (H := H) (e := e_) (meth := meth) ⟨f1, f2, f3, f5, f8⟩ hM ⟨hcb, ck.2.2.2.1, f8 _ ck.2.2.1⟩ ⟨sm_blind X h (.ref k :: as), fun U hU hW => ⟨rfl, hEU U hU hW⟩⟩ rfl (by simpa using hn) hL.1 (by simp [sm_v]) (lv_room (sm_cats X hr)) hdg ⟨by omega, by omega⟩
  refine sm_runW hrun hS (fun v h1 H1 locs1 hq hw hs1 => ?_)
  have hw2 := hP.2
  have hw3 := hw.2
  have hq2 := hq p l e_ R s m args below meth c H1 locs1 (cells + mc1) (slots + ms1) QQ ls ⟨f1, f2, f3, f4, f5, f6, f7, f8, f9, f10, ⟨by omega, by omega⟩⟩ ⟨hw.1, by omega⟩ hs1 hL (fun v' h' H' locs' ls' pc' q hw4 hs4 hr4 => by
    have h7 := hk v' h' H' locs' ls' pc' q ⟨hw4.1, by have := hw4.2; omega⟩ hs4 hr4
    rw [show cells + mc1 + mc2 = cells + mc by omega, show slots + ms1 + ms2 = slots + ms by omega]
    exact h7)
  have e9 : ((v.toList ++ st).map (sm_v X)) = (v.map (sm_v X)).toList ++ st.map (sm_v X) := by cases v <;> simp
  rw [e9] at hq2
  exact hq2
theorem wx_to {lv' st' : List Value} {h' : sm_H} (k : WpX X M d mc ms pc lv' st' h' Q) (e1 : lv = lv') (e2 : st = st') (e3 : h = h') : WpX X M d mc ms pc lv st h Q := by subst e1 e2 e3; exact k
theorem wy_V_ {idx k : Nat} (hdg : decode M.2.1 pc = .ok (.invokevirtual idx, 3)) (ck : sm_ckV M.1.cls idx Mc 0) (hrc : sm_Rc h k Mc.1.cls) (hz : 1 ≤ Mc.2.2.1) (hr : (st.map fun v => v.category).sum ≤ 8)
    (kk : Wp Mc d 0 0 0 (sm_ini [.ref k] Mc.2.2.1) [] h (fun v h1 => WpX X M (d + 1) 0 0 (pc + 3) lv (v.toList ++ st) h1 Q)) : WpX X M (d + 1) 0 0 pc lv (.ref k :: st) h Q :=
  wx_callV (as := []) hdg ck hrc rfl rfl hz hr rfl rfl kk
theorem wy_V_I {idx k : Nat} {x0 : Int32} (hdg : decode M.2.1 pc = .ok (.invokevirtual idx, 3)) (ck : sm_ckV M.1.cls idx Mc 1) (hrc : sm_Rc h k Mc.1.cls) (hz : 2 ≤ Mc.2.2.1) (hr : (st.map fun v => v.category).sum ≤ 8)
    (kk : Wp Mc d 0 0 0 (sm_ini [.ref k, .int x0] Mc.2.2.1) [] h (fun v h1 => WpX X M (d + 1) 0 0 (pc + 3) lv (v.toList ++ st) h1 Q)) : WpX X M (d + 1) 0 0 pc lv (.int x0 :: .ref k :: st) h Q :=
  wx_callV (as := [.int x0]) hdg ck hrc rfl rfl hz hr rfl rfl kk
theorem wy_V_II {idx k : Nat} {x0 : Int32} {x1 : Int32} (hdg : decode M.2.1 pc = .ok (.invokevirtual idx, 3)) (ck : sm_ckV M.1.cls idx Mc 2) (hrc : sm_Rc h k Mc.1.cls) (hz : 3 ≤ Mc.2.2.1) (hr : (st.map fun v => v.category).sum ≤ 8)
    (kk : Wp Mc d 0 0 0 (sm_ini [.ref k, .int x0, .int x1] Mc.2.2.1) [] h (fun v h1 => WpX X M (d + 1) 0 0 (pc + 3) lv (v.toList ++ st) h1 Q)) : WpX X M (d + 1) 0 0 pc lv (.int x1 :: .int x0 :: .ref k :: st) h Q :=
  wx_callV (as := [.int x0, .int x1]) hdg ck hrc rfl rfl hz hr rfl rfl kk
theorem wy_V_III {idx k : Nat} {x0 : Int32} {x1 : Int32} {x2 : Int32} (hdg : decode M.2.1 pc = .ok (.invokevirtual idx, 3)) (ck : sm_ckV M.1.cls idx Mc 3) (hrc : sm_Rc h k Mc.1.cls) (hz : 4 ≤ Mc.2.2.1) (hr : (st.map fun v => v.category).sum ≤ 8)
    (kk : Wp Mc d 0 0 0 (sm_ini [.ref k, .int x0, .int x1, .int x2] Mc.2.2.1) [] h (fun v h1 => WpX X M (d + 1) 0 0 (pc + 3) lv (v.toList ++ st) h1 Q)) : WpX X M (d + 1) 0 0 pc lv (.int x2 :: .int x1 :: .int x0 :: .ref k :: st) h Q :=
  wx_callV (as := [.int x0, .int x1, .int x2]) hdg ck hrc rfl rfl hz hr rfl rfl kk
theorem wy_V_IIIII {idx k : Nat} {x0 : Int32} {x1 : Int32} {x2 : Int32} {x3 : Int32} {x4 : Int32} (hdg : decode M.2.1 pc = .ok (.invokevirtual idx, 3)) (ck : sm_ckV M.1.cls idx Mc 5) (hrc : sm_Rc h k Mc.1.cls) (hz : 6 ≤ Mc.2.2.1) (hr : (st.map fun v => v.category).sum ≤ 8)
    (kk : Wp Mc d 0 0 0 (sm_ini [.ref k, .int x0, .int x1, .int x2, .int x3, .int x4] Mc.2.2.1) [] h (fun v h1 => WpX X M (d + 1) 0 0 (pc + 3) lv (v.toList ++ st) h1 Q)) : WpX X M (d + 1) 0 0 pc lv (.int x4 :: .int x3 :: .int x2 :: .int x1 :: .int x0 :: .ref k :: st) h Q :=
  wx_callV (as := [.int x0, .int x1, .int x2, .int x3, .int x4]) hdg ck hrc rfl rfl hz hr rfl rfl kk
theorem wy_V_IIJ {idx k : Nat} {x0 : Int32} {x1 : Int32} {x2 : Int64} (hdg : decode M.2.1 pc = .ok (.invokevirtual idx, 3)) (ck : sm_ckV M.1.cls idx Mc 3) (hrc : sm_Rc h k Mc.1.cls) (hz : 5 ≤ Mc.2.2.1) (hr : (st.map fun v => v.category).sum ≤ 8)
    (kk : Wp Mc d 0 0 0 (sm_ini [.ref k, .int x0, .int x1, .long x2] Mc.2.2.1) [] h (fun v h1 => WpX X M (d + 1) 0 0 (pc + 3) lv (v.toList ++ st) h1 Q)) : WpX X M (d + 1) 0 0 pc lv (.long x2 :: .int x1 :: .int x0 :: .ref k :: st) h Q :=
  wx_callV (as := [.int x0, .int x1, .long x2]) hdg ck hrc rfl rfl hz hr rfl rfl kk
theorem wx_loopS {σ : Type} (St : Nat → σ → List Value) (Hp : Nat → σ → sm_H) (Inv : Nat → σ → Prop) (e : Nat) (step : ∀ i s, i < e → Inv i s → (∀ s', Inv (i + 1) s' → WpX X M d mc ms pc (St (i + 1) s') [] (Hp (i + 1) s') Q) → WpX X M d mc ms pc (St i s) [] (Hp i s) Q) (exit : ∀ s, Inv e s → WpX X M d mc ms pc (St e s) [] (Hp e s) Q) (i : Nat) (s : σ) (hi : i ≤ e) (h0 : Inv i s) : WpX X M d mc ms pc (St i s) [] (Hp i s) Q := by
  have key : ∀ n i s, i ≤ e → e - i = n → Inv i s → WpX X M d mc ms pc (St i s) [] (Hp i s) Q := by
    intro n
    induction n with
    | zero =>
      intro i s hi hn h0
      have : i = e := by omega
      subst this
      exact exit s h0
    | succ n ih =>
      intro i s hi hn h0
      exact step i s (by omega) h0 (fun s' h1 => ih (i + 1) s' (by omega) (by omega) h1)
  exact key _ i s hi rfl h0
theorem wx_slen (hdg : decode M.2.1 pc = .ok (.arraylength, 1)) (kk : WpX X M d mc ms (pc + 1) lv (.int (nI X.2.2.2.1.2.1) :: st) h Q) : WpX X M d mc ms pc lv (.ref 900 :: st) h Q := by
  intro p l e_ R s m args below meth c H locs cells slots QQ ls F hP hS hL hk
  obtain ⟨f1, f2, f3, f4, f5, f6, f7, f8, f9, f10, f11⟩ := id F
  have hX := f9.2.2.1
  have e : (.ref (sm_G X 900) : Value) = .ref X.2.2.2.1.1 := rfl
  show W p l e_ R s m args below meth c H locs cells slots QQ (F0 m pc ls (.ref (sm_G X 900) :: st.map (sm_v X)))
  rw [e]
  exact va_slen f1 f2 hX.1 (Nat.lt_of_lt_of_le hX.2 f9.1) (Nat.not_le.mpr hX.2) hS hdg (kk p l e_ R s m args below meth c H locs cells slots QQ ls F hP hS hL hk)
theorem wx_sld {i : Int32} (hin : vp_in i X.2.2.2.1.2.1) (hdg : decode M.2.1 pc = .ok (.iaload, 1)) (kk : WpX X M d mc ms (pc + 1) lv (.int (X.2.2.2.1.2.2 i.toNatClampNeg) :: st) h Q) : WpX X M d mc ms pc lv (.int i :: .ref 900 :: st) h Q := by
  intro p l e_ R s m args below meth c H locs cells slots QQ ls F hP hS hL hk
  obtain ⟨f1, f2, f3, f4, f5, f6, f7, f8, f9, f10, f11⟩ := id F
  have hX := f9.2.2.1
  have e : (.ref (sm_G X 900) : Value) = .ref X.2.2.2.1.1 := rfl
  show W p l e_ R s m args below meth c H locs cells slots QQ (F0 m pc ls (.int i :: .ref (sm_G X 900) :: st.map (sm_v X)))
  rw [e]
  exact va_sld f1 f2 hX.1 (Nat.lt_of_lt_of_le hX.2 f9.1) (Nat.not_le.mpr hX.2) hS hin hdg (kk p l e_ R s m args below meth c H locs cells slots QQ ls F hP hS hL hk)
/-- script[i + k] -/
theorem wx_arg {i : Nat} {n : Int} (k : Nat) (hi : i + k < X.2.2.2.1.2.1) (hL : X.2.2.2.1.2.1 ≤ 3072) (hn : Int32.ofInt n = nI k) (d0 : decode M.2.1 pc = .ok (.aload_n 0, 1)) (d1 : decode M.2.1 (pc + 1) = .ok (.iload_n 3, 1)) (d2 : decode M.2.1 (pc + 2) = .ok (.iconst n, 1)) (d3 : decode M.2.1 (pc + 3) = .ok (.iadd, 1)) (d4 : decode M.2.1 (pc + 4) = .ok (.iaload, 1)) (l0 : lv[0]? = some (.ref 900)) (l3 : lv[3]? = some (.int (nI i)))
    (kk : WpX X M d mc ms (pc + 5) lv (.int (X.2.2.2.1.2.2 (i + k)) :: st) h Q) : WpX X M d mc ms pc lv st h Q := by
  refine wx_aload_n 0 d0 rfl l0 ?_
  refine wx_iload_n 3 d1 rfl l3 ?_
  refine wx_iconst (nI k) d2 hn ?_
  refine wx_iadd d3 ?_
  rw [show nI i + nI k = nI (i + k) from (Int32.ofNat_add i k).symm]
  refine wx_sld (vp_in_nI hi (by omega)) d4 ?_
  rw [nI_clamp (by omega)]
  exact kk
theorem wx_arg0 {i : Nat} (hi : i < X.2.2.2.1.2.1) (hL : X.2.2.2.1.2.1 ≤ 3072) (d0 : decode M.2.1 pc = .ok (.aload_n 0, 1)) (d1 : decode M.2.1 (pc + 1) = .ok (.iload_n 3, 1)) (d4 : decode M.2.1 (pc + 2) = .ok (.iaload, 1)) (l0 : lv[0]? = some (.ref 900)) (l3 : lv[3]? = some (.int (nI i)))
    (kk : WpX X M d mc ms (pc + 3) lv (.int (X.2.2.2.1.2.2 i) :: st) h Q) : WpX X M d mc ms pc lv st h Q := by
  refine wx_aload_n 0 d0 rfl l0 ?_
  refine wx_iload_n 3 d1 rfl l3 ?_
  refine wx_sld (vp_in_nI hi (by omega)) d4 ?_
  rw [nI_clamp (by omega)]
  exact kk
end WX
