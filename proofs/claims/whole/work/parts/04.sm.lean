/-! ===== the plain machine: a method's frame and the cells of the two objects, in numbers of our own ===== -/
/-- what stays through the whole run: the first own address, array classes by tag, the tables' numbers, the script (address, length, ints), addresses of String constants and of their rows -/
abbrev sm_X : Type := Nat × (Nat → ClassId) × va_G × (Nat × Nat × (Nat → Int32)) × (Nat → Nat) × (Nat → Nat)
/-- the shapes of the cells: (0, class, references of its fields), (1 ints, 2 longs, 3 chars; length) -/
abbrev sm_S : Type := List (Nat × Nat × List (Option Nat))
/-- shapes, whole-number fields, int (char) rows, long rows -/
abbrev sm_H : Type := sm_S × (Nat → Nat → Int32) × (Nat → Nat → Int32) × (Nat → Nat → Int64)
/-- a method: name, code, locals, what it returns -/
abbrev sm_M : Type := MethodName × ByteArray × Nat × Option FieldType
def sm_up {α : Type} (f : Nat → Nat → α) (k j : Nat) (v : α) : Nat → Nat → α := fun a b => if a = k ∧ b = j then v else f a b
def sm_ups {α : Type} (f : Nat → Nat → α) (k : Nat) (g : Nat → α) : Nat → Nat → α := fun a b => if a = k then g b else f a b
def sm_G (X : sm_X) (k : Nat) : Nat := if k < 900 then X.1 + k else if k < 1000 then X.2.2.2.1.1 else if k < 2000 then X.2.2.2.2.1 (k - 1000) else X.2.2.2.2.2 (k - 2000)
def sm_v (X : sm_X) : Value → Value
  | .ref k => .ref (sm_G X k)
  | w => w
abbrev sm_A (X : sm_X) : Nat → Prop := fun q => X.1 ≤ q
def sm_ty (ci j : Nat) : FieldType := match ci with
  | 0 => tyX0 j
  | 1 => tyX2 j
  | 2 => tyX3 j
  | 3 => tyX4 j
  | 4 => tyX5 j
  | 5 => tyX6 j
  | _ => tyX7 j
def sm_N (ci : Nat) : Nat := match ci with
  | 0 => 4
  | 1 => 6
  | 2 => 3
  | 3 => 2
  | 4 => 12
  | 5 => 8
  | _ => 18
def sm_C (ci : Nat) : String := match ci with
  | 0 => RX0
  | 1 => RX2
  | 2 => RX3
  | 3 => RX4
  | 4 => RX5
  | 5 => RX6
  | _ => RX7
def sm_T (ci : Nat) : u_T := match ci with
  | 0 => TX0
  | 1 => TX2
  | 2 => TX3
  | 3 => TX4
  | 4 => TX5
  | 5 => TX6
  | _ => TX7
def sm_isR : FieldType → Bool
  | .object _ => true
  | .array _ => true
  | _ => false
theorem sm_cl {ci : Nat} (h : ci < 7) : vwCl[ci]? = some (sm_C ci, sm_T ci, sm_N ci) := by
  rcases (show ci = 0 ∨ ci = 1 ∨ ci = 2 ∨ ci = 3 ∨ ci = 4 ∨ ci = 5 ∨ ci = 6 by omega) with rfl | rfl | rfl | rfl | rfl | rfl | rfl <;> rfl
theorem sm_ty_ok {ci : Nat} (h : ci < 7) : ∀ k, k < sm_N ci → parseFieldDescriptor (sm_T ci k).2.2.1 = some (sm_ty ci k) := by
  rcases (show ci = 0 ∨ ci = 1 ∨ ci = 2 ∨ ci = 3 ∨ ci = 4 ∨ ci = 5 ∨ ci = 6 by omega) with rfl | rfl | rfl | rfl | rfl | rfl | rfl
  · exact tyX0_ok
  · exact tyX2_ok
  · exact tyX3_ok
  · exact tyX4_ok
  · exact tyX5_ok
  · exact tyX6_ok
  · exact tyX7_ok
theorem sm_nm {ci : Nat} (h : ci < 7) : ∀ a, a < sm_N ci → ∀ b, b < sm_N ci → a ≠ b → (sm_T ci a).2.1 ≠ (sm_T ci b).2.1 := by
  rcases (show ci = 0 ∨ ci = 1 ∨ ci = 2 ∨ ci = 3 ∨ ci = 4 ∨ ci = 5 ∨ ci = 6 by omega) with rfl | rfl | rfl | rfl | rfl | rfl | rfl
  · exact nmX0
  · exact nmX2
  · exact nmX3
  · exact nmX4
  · exact nmX5
  · exact nmX6
  · exact nmX7
/-- a field's value: a reference field's lies in the shape -/
def sm_fv (X : sm_X) (h : sm_H) (k ci : Nat) (refs : List (Option Nat)) (j : Nat) : Value :=
  if sm_isR (sm_ty ci j) = true then (match refs[j]? with
    | some (some a) => .ref (X.1 + a)
    | _ => .null) else .int (h.2.1 k j)
def sm_ce (X : sm_X) (h : sm_H) (k : Nat) : va_E := match h.1[k]? with
  | some (0, ci, refs) => .inr (ci, (List.range (sm_N ci)).map (sm_fv X h k ci refs))
  | some (1, n, _) => .inl (X.2.1 0, n, .inl (h.2.2.1 k))
  | some (2, n, _) => .inl (X.2.1 1, n, .inr (.inl (h.2.2.2 k)))
  | some (_, n, _) => .inl (X.2.1 2, n, .inl (h.2.2.1 k))
  | none => .inr (0, [])
def sm_ws (X : sm_X) (h : sm_H) : va_W := (List.range h.1.length).map (fun k => (X.1 + k, sm_ce X h k))
def sm_Wd (X : sm_X) (h : sm_H) (H : Heap) (n : Nat) : Prop := va_P X.2.2.1 vwCl (sm_ws X h) H ∧ n = X.1 + h.1.length
abbrev sm_tys (X : sm_X) : List (ClassId × FieldType) := [(X.2.1 0, .int), (X.2.1 1, .long), (X.2.1 2, .char)]
/-- the tables' words that a call hands on -/
def sm_Ts : List Cond := lw_tbl.filter goodWord
def sm_isNest : Cond → Bool
  | .methodLinkNest .. => true
  | _ => false
def sm_nw : List Cond := tables_1.filter sm_isNest
def sm_len : List Nat := [5, 5, 4, 6, 4, 6, 7, 5, 4, 4]
def sm_byt : List (List Int32) := [[116, 104, 105, 110, 103], [104, 97, 110, 103, 115], [102, 114, 101, 101], [117, 110, 115, 97, 105, 100], [115, 97, 105, 100], [114, 105, 110, 103, 101, 114], [119, 101, 97, 116, 104, 101, 114], [99, 114, 97, 99, 107], [109, 101, 110, 100], [121, 101, 97, 114]]
def sm_six : List Nat := [148, 150, 152, 154, 156, 158, 160, 161, 163, 165]
def sm_stx : List String := ["thing", "hangs", "free", "unsaid", "said", "ringer", "weather", "crack", "mend", "year"]
def sm_Str (X : sm_X) (s : State) (H : Heap) : Prop :=
  vk_S 10 sm_len sm_byt X.2.2.2.2.1 X.2.2.2.2.2 (sm_A X) s H ∧ (∀ i : Nat, i < 10 → vk_R RX2 (sm_six.getD i 0) (sm_stx.getD i "") (X.2.2.2.2.1 i) s) ∧
  va_Z "java/lang/String" "COMPACT_STRINGS" "Z" (.int 1) (sm_A X) s H ∧ (va_Z "jdk/internal/util/Preconditions" "SIOOBE_FORMATTER" "Ljava/util/function/BiFunction;" .null (sm_A X) s H ∨ va_Z "jdk/internal/util/Preconditions" "SIOOBE_FORMATTER" "Ljava/util/function/BiFunction;" (.ref (X.2.2.2.2.2 1000)) (sm_A X) s H)
def sm_Env (X : sm_X) (s : State) (H : Heap) : Prop := X.1 ≤ H.size ∧ va_K X.2.2.1 vwCl (sm_tys X) s ∧ (va_X X.2.2.2.1.1 X.2.2.2.1.2.1 X.2.2.2.1.2.2 s H ∧ X.2.2.2.1.1 < X.1) ∧ sm_Str X s H ∧ ∀ w ∈ sm_nw, va_Nw w s
theorem sm_Env.mv {X : sm_X} {s U : State} {H H' : Heap} (hW : s.WarmedH U.vm) (hz : H.size ≤ H'.size) (hq : ∀ q : Nat, q < H.size → ¬ sm_A X q → H'[q]? = H[q]?) (h : sm_Env X s H) : sm_Env X U H' := by
  obtain ⟨h1, h2, ⟨h3, h3'⟩, ⟨h4, h5, h6, h7⟩, h8⟩ := h
  have ha := hW.alike
  refine ⟨Nat.le_trans h1 hz, va_K.moved ha h2, ⟨(va_X.moved ha h3).kept (hq _ (Nat.lt_of_lt_of_le h3' h1) (Nat.not_le.mpr h3')), h3'⟩, ⟨(vk_S.moved ha h4).kept hq, fun i hi => (h5 i hi).warm hW, (va_Z.moved ha h6).kept hq, ?_⟩, fun w hw => ?_⟩
  · rcases h7 with h7 | h7
    · exact Or.inl ((va_Z.moved ha h7).kept hq)
    · exact Or.inr ((va_Z.moved ha h7).kept hq)
  · have h9 := h8 w hw
    have h10 : sm_isNest w = true := (List.mem_filter.mp hw).2
    cases w <;> first | (simp [sm_isNest] at h10; done) | exact va_Nw.warmM hW h9
/-- the frame's locals, by their places; null: nothing is said -/
def sm_L (X : sm_X) (ls : Array Slot) (n : Nat) (lv : List Value) : Prop := ls.size = n ∧ lv_wf ls ∧ ∀ (i : Nat) (v : Value), lv[i]? = some v → v ≠ .null → ls[i]? = some (.val (sm_v X v))
abbrev sm_Fx (M : sm_M) (d mc ms : Nat) (X : sm_X) (p : Program) (R : Room) (s : State) (m : MethodId) (args : Array Value) (meth : Method) (c : Code) (cells slots : Nat) : Prop :=
  p.tables.exec = Jvm.exec ∧ c.code = M.2.1 ∧ c.maxLocals = M.2.2.1 ∧ meth.sig.returnType = M.2.2.2 ∧ s.vm.findClass M.1.cls = some m.cls ∧ meth.locks = false ∧ meth.name = M.1.name ∧ (∀ w ∈ sm_Ts, w.before args s = true) ∧ sm_Env X s s.heap ∧ (d ≤ R.frames ∧ 64 * d ≤ R.locals) ∧ (cells + mc ≤ R.cells ∧ slots + ms ≤ R.slots)
/-- how a method's code ends with an answer -/
def sm_rt (M : sm_M) (v : Option Value) (pc : Nat) : Prop := match v with
  | none => decode M.2.1 pc = .ok (.return_, 1) ∧ M.2.2.2 = none
  | some (.int r) => decode M.2.1 pc = .ok (.ireturn, 1) ∧ ∃ ty, M.2.2.2 = some ty ∧ narrow ty (.int r) = .int r
  | some (.long _) => decode M.2.1 pc = .ok (.lreturn, 1) ∧ M.2.2.2 = some .long
  | some (.ref _) => decode M.2.1 pc = .ok (.areturn, 1) ∧ ∃ rt, M.2.2.2 = some rt ∧ ((∃ n, rt = .object n) ∨ ∃ t, rt = .array t)
  | _ => False
/-- from here the method comes to its end, with an answer and cells as Q says; mc, ms: cells and fields that it makes from here on -/
def Wp (M : sm_M) (d mc ms pc : Nat) (lv st : List Value) (h : sm_H) (Q : Option Value → sm_H → Prop) : Prop :=
  ∀ (X : sm_X) (p : Program) (l : Launch) (e : Env) (R : Room) (s : State) (m : MethodId) (args : Array Value) (below : List Frame) (meth : Method) (c : Code) (H : Heap) (locs : List Loc) (cells slots : Nat) (QQ : State → Prop) (ls : Array Slot),
    sm_Fx M d mc ms X p R s m args meth c cells slots → sm_Wd X h H (s.heap.size + cells) → va_S (sm_A X) s.heap H locs → sm_L X ls M.2.2.1 lv →
    (∀ (v : Option Value) (h' : sm_H) (H' : Heap) (locs' : List Loc) (ls' : Array Slot) (pc' : Nat), Q v h' → sm_Wd X h' H' (s.heap.size + (cells + mc)) → va_S (sm_A X) s.heap H' locs' → sm_rt M v pc' →
      W p l e R s m args below meth c H' locs' (cells + mc) (slots + ms) QQ (F0 m pc' ls' (v.map (sm_v X)).toList)) →
    W p l e R s m args below meth c H locs cells slots QQ (F0 m pc ls (st.map (sm_v X)))
theorem sm_v_cat (X : sm_X) (v : Value) : (sm_v X v).category = v.category := by cases v <;> rfl
theorem sm_L.at {X : sm_X} {ls : Array Slot} {n i : Nat} {lv : List Value} {v : Value} (h : sm_L X ls n lv) (hi : lv[i]? = some v) (hv : v ≠ .null) : ls[i]? = some (.val (sm_v X v)) := h.2.2 i v hi hv
def sm_as (X : sm_X) (lv : List Value) : List (Nat × Value) := (List.range lv.length).filterMap (fun i => match (lv[i]? : Option Value) with
  | some .null => none
  | some v => some (i, sm_v X v)
  | none => none)
theorem sm_as_mem {X : sm_X} {lv : List Value} {q : Nat × Value} (h : q ∈ sm_as X lv) : ∃ v, lv[q.1]? = some v ∧ v ≠ .null ∧ q.2 = sm_v X v := by
  obtain ⟨i, -, hi⟩ := List.mem_filterMap.mp h
  cases hv : lv[i]? with
  | none => rw [hv] at hi; cases hi
  | some v =>
    rw [hv] at hi
    cases v <;> first | (cases hi; done) | (cases hi; exact ⟨_, hv, (fun z => by cases z), rfl⟩)
theorem sm_as_in {X : sm_X} {lv : List Value} {i : Nat} {v : Value} (h : lv[i]? = some v) (hv : v ≠ .null) : (i, sm_v X v) ∈ sm_as X lv := by
  refine List.mem_filterMap.mpr ⟨i, List.mem_range.mpr (List.getElem?_eq_some_iff.mp h).1, ?_⟩
  rw [h]
  cases v <;> first | rfl | exact absurd rfl hv
theorem sm_L.has {X : sm_X} {ls : Array Slot} {n : Nat} {lv : List Value} (h : sm_L X ls n lv) : lv_has ls n (sm_as X lv) := ⟨h.1, h.2.1, fun q hq => by
  obtain ⟨v, h1, h2, h3⟩ := sm_as_mem hq
  rw [h3]
  exact h.2.2 q.1 v h1 h2⟩
/-- the place ahead doesn't hold a long -/
def sm_pr (lv : List Value) : Nat → Bool
  | 0 => true
  | i + 1 => match lv[i]? with
    | some (.long _) => false
    | some (.double _) => false
    | _ => true
theorem sm_L.st1 {X : sm_X} {ls' : Array Slot} {n i : Nat} {lv : List Value} {x : Value} (hp : sm_pr lv i = true)
    (h' : lv_has ls' n ((i, sm_v X x) :: (sm_as X lv).filter (fun q => !(q.1 == i) && !(q.1 + 1 == i && q.2.category == 2)))) : sm_L X ls' n (lv.set i x) := by
  refine ⟨h'.1, h'.2.1, fun j v hj hv => ?_⟩
  by_cases hji : i = j
  · subst hji
    rw [List.getElem?_set] at hj
    simp only [if_true] at hj
    by_cases hlt : i < lv.length
    · rw [if_pos hlt] at hj
      cases hj
      exact h'.2.2 (i, sm_v X x) List.mem_cons_self
    · rw [if_neg hlt] at hj; cases hj
  · rw [List.getElem?_set_ne hji] at hj
    refine h'.2.2 (j, sm_v X v) (List.mem_cons_of_mem _ (List.mem_filter.mpr ⟨sm_as_in hj hv, ?_⟩))
    have h1 : (j == i) = false := by simpa using fun z => hji z.symm
    by_cases h2 : j + 1 = i
    · subst h2
      have h3 : v.category ≠ 2 := by
        intro z
        rw [sm_pr, hj] at hp
        cases v <;> simp [Value.category] at z hp
      simp [h1, sm_v_cat, h3]
    · simp [h1, h2]
theorem sm_L.st2 {X : sm_X} {ls' : Array Slot} {n i : Nat} {lv : List Value} {x : Int64} (hp : sm_pr lv i = true)
    (h' : lv_has ls' n ((i, .long x) :: (sm_as X lv).filter (fun q => !(q.1 == i) && (!(q.1 == i + 1) && !(q.1 + 1 == i && q.2.category == 2))))) : sm_L X ls' n ((lv.set i (.long x)).set (i + 1) .null) := by
  refine ⟨h'.1, h'.2.1, fun j v hj hv => ?_⟩
  by_cases hj1 : i + 1 = j
  · subst hj1
    rw [List.getElem?_set] at hj
    simp only [if_true] at hj
    by_cases hlt : i + 1 < (lv.set i (.long x)).length
    · rw [if_pos hlt] at hj
      cases hj
      exact absurd rfl hv
    · rw [if_neg hlt] at hj; cases hj
  · rw [List.getElem?_set_ne hj1] at hj
    by_cases hji : i = j
    · subst hji
      rw [List.getElem?_set] at hj
      simp only [if_true] at hj
      by_cases hlt : i < lv.length
      · rw [if_pos hlt] at hj
        cases hj
        exact h'.2.2 (i, .long x) List.mem_cons_self
      · rw [if_neg hlt] at hj; cases hj
    · rw [List.getElem?_set_ne hji] at hj
      refine h'.2.2 (j, sm_v X v) (List.mem_cons_of_mem _ (List.mem_filter.mpr ⟨sm_as_in hj hv, ?_⟩))
      have h1 : (j == i) = false := by simpa using fun z => hji z.symm
      have h1' : (j == i + 1) = false := by simpa using fun z => hj1 z.symm
      by_cases h2 : j + 1 = i
      · subst h2
        have h3 : v.category ≠ 2 := by
          intro z
          rw [sm_pr, hj] at hp
          cases v <;> simp [Value.category] at z hp
        simp [h1, h1', sm_v_cat, h3]
      · simp [h1, h1', h2]

section SM1
variable {M : sm_M} {d mc ms pc : Nat} {lv st : List Value} {h : sm_H} {Q : Option Value → sm_H → Prop}

theorem wp_iconst {n : Int} (v : Int32) (hdg : decode M.2.1 pc = .ok (.iconst n, 1)) (hv : Int32.ofInt n = v)
    (k : Wp M d mc ms (pc + 1) lv (.int v :: st) h Q) : Wp M d mc ms pc lv st h Q := by
  intro X p l e_ R s m args below meth c H locs cells slots QQ ls F hP hS hL hk
  exact lv_iconst F.1 F.2.1 hdg hv (k X p l e_ R s m args below meth c H locs cells slots QQ ls F hP hS hL hk)
theorem wp_bipush {n : Int} (v : Int32) (hdg : decode M.2.1 pc = .ok (.bipush n, 2)) (hv : (Int8.ofInt n).toInt32 = v)
    (k : Wp M d mc ms (pc + 2) lv (.int v :: st) h Q) : Wp M d mc ms pc lv st h Q := by
  intro X p l e_ R s m args below meth c H locs cells slots QQ ls F hP hS hL hk
  exact lv_bipush F.1 F.2.1 hdg hv (k X p l e_ R s m args below meth c H locs cells slots QQ ls F hP hS hL hk)
theorem wp_sipush {n : Int} (v : Int32) (hdg : decode M.2.1 pc = .ok (.sipush n, 3)) (hv : (Int16.ofInt n).toInt32 = v)
    (k : Wp M d mc ms (pc + 3) lv (.int v :: st) h Q) : Wp M d mc ms pc lv st h Q := by
  intro X p l e_ R s m args below meth c H locs cells slots QQ ls F hP hS hL hk
  exact lv_sipush F.1 F.2.1 hdg hv (k X p l e_ R s m args below meth c H locs cells slots QQ ls F hP hS hL hk)
theorem wp_lconst {n : Fin 2} (v : Int64) (hdg : decode M.2.1 pc = .ok (.lconst n, 1)) (hv : Int64.ofNat (n : Nat) = v)
    (k : Wp M d mc ms (pc + 1) lv (.long v :: st) h Q) : Wp M d mc ms pc lv st h Q := by
  intro X p l e_ R s m args below meth c H locs cells slots QQ ls F hP hS hL hk
  exact lv_lconst F.1 F.2.1 hdg hv (k X p l e_ R s m args below meth c H locs cells slots QQ ls F hP hS hL hk)
theorem wp_iadd {x y : Int32} (hdg : decode M.2.1 pc = .ok (.iadd, 1))
    (k : Wp M d mc ms (pc + 1) lv (.int (x + y) :: st) h Q) : Wp M d mc ms pc lv (.int y :: .int x :: st) h Q := by
  intro X p l e_ R s m args below meth c H locs cells slots QQ ls F hP hS hL hk
  exact lv_iadd F.1 F.2.1 hdg (k X p l e_ R s m args below meth c H locs cells slots QQ ls F hP hS hL hk)
theorem wp_isub {x y : Int32} (hdg : decode M.2.1 pc = .ok (.isub, 1))
    (k : Wp M d mc ms (pc + 1) lv (.int (x - y) :: st) h Q) : Wp M d mc ms pc lv (.int y :: .int x :: st) h Q := by
  intro X p l e_ R s m args below meth c H locs cells slots QQ ls F hP hS hL hk
  exact lv_isub F.1 F.2.1 hdg (k X p l e_ R s m args below meth c H locs cells slots QQ ls F hP hS hL hk)
theorem wp_imul {x y : Int32} (hdg : decode M.2.1 pc = .ok (.imul, 1))
    (k : Wp M d mc ms (pc + 1) lv (.int (x * y) :: st) h Q) : Wp M d mc ms pc lv (.int y :: .int x :: st) h Q := by
  intro X p l e_ R s m args below meth c H locs cells slots QQ ls F hP hS hL hk
  exact lv_imul F.1 F.2.1 hdg (k X p l e_ R s m args below meth c H locs cells slots QQ ls F hP hS hL hk)
theorem wp_iand {x y : Int32} (hdg : decode M.2.1 pc = .ok (.iand, 1))
    (k : Wp M d mc ms (pc + 1) lv (.int (x &&& y) :: st) h Q) : Wp M d mc ms pc lv (.int y :: .int x :: st) h Q := by
  intro X p l e_ R s m args below meth c H locs cells slots QQ ls F hP hS hL hk
  exact lv_iand F.1 F.2.1 hdg (k X p l e_ R s m args below meth c H locs cells slots QQ ls F hP hS hL hk)
theorem wp_ior {x y : Int32} (hdg : decode M.2.1 pc = .ok (.ior, 1))
    (k : Wp M d mc ms (pc + 1) lv (.int (x ||| y) :: st) h Q) : Wp M d mc ms pc lv (.int y :: .int x :: st) h Q := by
  intro X p l e_ R s m args below meth c H locs cells slots QQ ls F hP hS hL hk
  exact lv_ior F.1 F.2.1 hdg (k X p l e_ R s m args below meth c H locs cells slots QQ ls F hP hS hL hk)
theorem wp_ixor {x y : Int32} (hdg : decode M.2.1 pc = .ok (.ixor, 1))
    (k : Wp M d mc ms (pc + 1) lv (.int (x ^^^ y) :: st) h Q) : Wp M d mc ms pc lv (.int y :: .int x :: st) h Q := by
  intro X p l e_ R s m args below meth c H locs cells slots QQ ls F hP hS hL hk
  exact lv_ixor F.1 F.2.1 hdg (k X p l e_ R s m args below meth c H locs cells slots QQ ls F hP hS hL hk)
theorem wp_ishl {x y : Int32} (hdg : decode M.2.1 pc = .ok (.ishl, 1))
    (k : Wp M d mc ms (pc + 1) lv (.int (x <<< (y &&& 31)) :: st) h Q) : Wp M d mc ms pc lv (.int y :: .int x :: st) h Q := by
  intro X p l e_ R s m args below meth c H locs cells slots QQ ls F hP hS hL hk
  exact lv_ishl F.1 F.2.1 hdg (k X p l e_ R s m args below meth c H locs cells slots QQ ls F hP hS hL hk)
theorem wp_ishr {x y : Int32} (hdg : decode M.2.1 pc = .ok (.ishr, 1))
    (k : Wp M d mc ms (pc + 1) lv (.int (x >>> (y &&& 31)) :: st) h Q) : Wp M d mc ms pc lv (.int y :: .int x :: st) h Q := by
  intro X p l e_ R s m args below meth c H locs cells slots QQ ls F hP hS hL hk
  exact lv_ishr F.1 F.2.1 hdg (k X p l e_ R s m args below meth c H locs cells slots QQ ls F hP hS hL hk)
theorem wp_iushr {x y : Int32} (hdg : decode M.2.1 pc = .ok (.iushr, 1))
    (k : Wp M d mc ms (pc + 1) lv (.int (x.toUInt32 >>> (y.toUInt32 &&& Int32.toUInt32 31)).toInt32 :: st) h Q) : Wp M d mc ms pc lv (.int y :: .int x :: st) h Q := by
  intro X p l e_ R s m args below meth c H locs cells slots QQ ls F hP hS hL hk
  exact lv_iushr F.1 F.2.1 hdg rfl (k X p l e_ R s m args below meth c H locs cells slots QQ ls F hP hS hL hk)
theorem wp_idiv {x y : Int32} (hdg : decode M.2.1 pc = .ok (.idiv, 1)) (hne : ¬ y = 0)
    (k : Wp M d mc ms (pc + 1) lv (.int (x / y) :: st) h Q) : Wp M d mc ms pc lv (.int y :: .int x :: st) h Q := by
  intro X p l e_ R s m args below meth c H locs cells slots QQ ls F hP hS hL hk
  exact lv_idiv F.1 F.2.1 hdg hne (k X p l e_ R s m args below meth c H locs cells slots QQ ls F hP hS hL hk)
theorem wp_irem {x y : Int32} (hdg : decode M.2.1 pc = .ok (.irem, 1)) (hne : ¬ y = 0)
    (k : Wp M d mc ms (pc + 1) lv (.int (x - x / y * y) :: st) h Q) : Wp M d mc ms pc lv (.int y :: .int x :: st) h Q := by
  intro X p l e_ R s m args below meth c H locs cells slots QQ ls F hP hS hL hk
  exact lv_irem F.1 F.2.1 hdg hne (k X p l e_ R s m args below meth c H locs cells slots QQ ls F hP hS hL hk)
theorem wp_ineg {x : Int32} (hdg : decode M.2.1 pc = .ok (.ineg, 1))
    (k : Wp M d mc ms (pc + 1) lv (.int (-x) :: st) h Q) : Wp M d mc ms pc lv (.int x :: st) h Q := by
  intro X p l e_ R s m args below meth c H locs cells slots QQ ls F hP hS hL hk
  exact lv_ineg F.1 F.2.1 hdg (k X p l e_ R s m args below meth c H locs cells slots QQ ls F hP hS hL hk)
theorem wp_land {x y : Int64} (hdg : decode M.2.1 pc = .ok (.land, 1))
    (k : Wp M d mc ms (pc + 1) lv (.long (x &&& y) :: st) h Q) : Wp M d mc ms pc lv (.long y :: .long x :: st) h Q := by
  intro X p l e_ R s m args below meth c H locs cells slots QQ ls F hP hS hL hk
  exact lv_land F.1 F.2.1 hdg (k X p l e_ R s m args below meth c H locs cells slots QQ ls F hP hS hL hk)
theorem wp_lor {x y : Int64} (hdg : decode M.2.1 pc = .ok (.lor, 1))
    (k : Wp M d mc ms (pc + 1) lv (.long (x ||| y) :: st) h Q) : Wp M d mc ms pc lv (.long y :: .long x :: st) h Q := by
  intro X p l e_ R s m args below meth c H locs cells slots QQ ls F hP hS hL hk
  exact lv_lor F.1 F.2.1 hdg (k X p l e_ R s m args below meth c H locs cells slots QQ ls F hP hS hL hk)
theorem wp_lshl {x : Int64} {y : Int32} (hdg : decode M.2.1 pc = .ok (.lshl, 1))
    (k : Wp M d mc ms (pc + 1) lv (.long (x <<< (y.toInt64 &&& 63)) :: st) h Q) : Wp M d mc ms pc lv (.int y :: .long x :: st) h Q := by
  intro X p l e_ R s m args below meth c H locs cells slots QQ ls F hP hS hL hk
  exact lv_lshl F.1 F.2.1 hdg rfl (k X p l e_ R s m args below meth c H locs cells slots QQ ls F hP hS hL hk)
theorem wp_lcmp {x y : Int64} (hdg : decode M.2.1 pc = .ok (.lcmp, 1))
    (k : Wp M d mc ms (pc + 1) lv (.int (lg_cmp x y) :: st) h Q) : Wp M d mc ms pc lv (.long y :: .long x :: st) h Q := by
  intro X p l e_ R s m args below meth c H locs cells slots QQ ls F hP hS hL hk
  exact W.lcmp F.1 F.2.1 hdg (k X p l e_ R s m args below meth c H locs cells slots QQ ls F hP hS hL hk)
theorem wp_i2l {x : Int32} (hdg : decode M.2.1 pc = .ok (.i2l, 1))
    (k : Wp M d mc ms (pc + 1) lv (.long (x.toInt64) :: st) h Q) : Wp M d mc ms pc lv (.int x :: st) h Q := by
  intro X p l e_ R s m args below meth c H locs cells slots QQ ls F hP hS hL hk
  exact lv_i2l F.1 F.2.1 hdg rfl (k X p l e_ R s m args below meth c H locs cells slots QQ ls F hP hS hL hk)
theorem wp_l2i {x : Int64} (hdg : decode M.2.1 pc = .ok (.l2i, 1))
    (k : Wp M d mc ms (pc + 1) lv (.int (x.toInt32) :: st) h Q) : Wp M d mc ms pc lv (.long x :: st) h Q := by
  intro X p l e_ R s m args below meth c H locs cells slots QQ ls F hP hS hL hk
  exact lv_l2i F.1 F.2.1 hdg rfl (k X p l e_ R s m args below meth c H locs cells slots QQ ls F hP hS hL hk)
theorem wp_i2b {x : Int32} (hdg : decode M.2.1 pc = .ok (.i2b, 1))
    (k : Wp M d mc ms (pc + 1) lv (.int (x.toInt8.toInt32) :: st) h Q) : Wp M d mc ms pc lv (.int x :: st) h Q := by
  intro X p l e_ R s m args below meth c H locs cells slots QQ ls F hP hS hL hk
  exact lv_i2b F.1 F.2.1 hdg rfl (k X p l e_ R s m args below meth c H locs cells slots QQ ls F hP hS hL hk)
theorem wp_i2s {x : Int32} (hdg : decode M.2.1 pc = .ok (.i2s, 1))
    (k : Wp M d mc ms (pc + 1) lv (.int (x.toInt16.toInt32) :: st) h Q) : Wp M d mc ms pc lv (.int x :: st) h Q := by
  intro X p l e_ R s m args below meth c H locs cells slots QQ ls F hP hS hL hk
  exact lv_i2s F.1 F.2.1 hdg rfl (k X p l e_ R s m args below meth c H locs cells slots QQ ls F hP hS hL hk)
theorem wp_i2c {x : Int32} (hdg : decode M.2.1 pc = .ok (.i2c, 1))
    (k : Wp M d mc ms (pc + 1) lv (.int ((x.toUInt32 % 65536).toInt32) :: st) h Q) : Wp M d mc ms pc lv (.int x :: st) h Q := by
  intro X p l e_ R s m args below meth c H locs cells slots QQ ls F hP hS hL hk
  exact lv_i2c F.1 F.2.1 hdg rfl (k X p l e_ R s m args below meth c H locs cells slots QQ ls F hP hS hL hk)
theorem wp_dup {v : Value} (hdg : decode M.2.1 pc = .ok (.dup, 1)) (hv : v.category = 1)
    (k : Wp M d mc ms (pc + 1) lv (v :: v :: st) h Q) : Wp M d mc ms pc lv (v :: st) h Q := by
  intro X p l e_ R s m args below meth c H locs cells slots QQ ls F hP hS hL hk
  exact lv_dup F.1 F.2.1 hdg ((sm_v_cat X v).trans hv) (k X p l e_ R s m args below meth c H locs cells slots QQ ls F hP hS hL hk)
theorem wp_pop {v : Value} (hdg : decode M.2.1 pc = .ok (.pop, 1)) (hv : v.category = 1)
    (k : Wp M d mc ms (pc + 1) lv st h Q) : Wp M d mc ms pc lv (v :: st) h Q := by
  intro X p l e_ R s m args below meth c H locs cells slots QQ ls F hP hS hL hk
  exact lv_pop F.1 F.2.1 hdg ((sm_v_cat X v).trans hv) (k X p l e_ R s m args below meth c H locs cells slots QQ ls F hP hS hL hk)
theorem wp_iload_n {n : Fin 4} (i : Nat) {x : Int32} (hdg : decode M.2.1 pc = .ok (.iload_n n, 1)) (hi : (n : Nat) = i) (hl : lv[i]? = some (.int x))
    (k : Wp M d mc ms (pc + 1) lv (.int x :: st) h Q) : Wp M d mc ms pc lv st h Q := by
  intro X p l e_ R s m args below meth c H locs cells slots QQ ls F hP hS hL hk
  exact lv_iload_n F.1 F.2.1 hdg hi (hL.at hl (fun z => by cases z)) (k X p l e_ R s m args below meth c H locs cells slots QQ ls F hP hS hL hk)
theorem wp_iload (i : Nat) {x : Int32} (hdg : decode M.2.1 pc = .ok (.iload i, 2)) (hl : lv[i]? = some (.int x))
    (k : Wp M d mc ms (pc + 2) lv (.int x :: st) h Q) : Wp M d mc ms pc lv st h Q := by
  intro X p l e_ R s m args below meth c H locs cells slots QQ ls F hP hS hL hk
  exact lv_iload F.1 F.2.1 hdg (hL.at hl (fun z => by cases z)) (k X p l e_ R s m args below meth c H locs cells slots QQ ls F hP hS hL hk)
theorem wp_lload_n {n : Fin 4} (i : Nat) {x : Int64} (hdg : decode M.2.1 pc = .ok (.lload_n n, 1)) (hi : (n : Nat) = i) (hl : lv[i]? = some (.long x))
    (k : Wp M d mc ms (pc + 1) lv (.long x :: st) h Q) : Wp M d mc ms pc lv st h Q := by
  intro X p l e_ R s m args below meth c H locs cells slots QQ ls F hP hS hL hk
  exact lv_lload_n F.1 F.2.1 hdg hi (hL.at hl (fun z => by cases z)) (k X p l e_ R s m args below meth c H locs cells slots QQ ls F hP hS hL hk)
theorem wp_lload (i : Nat) {x : Int64} (hdg : decode M.2.1 pc = .ok (.lload i, 2)) (hl : lv[i]? = some (.long x))
    (k : Wp M d mc ms (pc + 2) lv (.long x :: st) h Q) : Wp M d mc ms pc lv st h Q := by
  intro X p l e_ R s m args below meth c H locs cells slots QQ ls F hP hS hL hk
  exact lv_lload F.1 F.2.1 hdg (hL.at hl (fun z => by cases z)) (k X p l e_ R s m args below meth c H locs cells slots QQ ls F hP hS hL hk)
theorem wp_aload_n {n : Fin 4} (i : Nat) {x : Nat} (hdg : decode M.2.1 pc = .ok (.aload_n n, 1)) (hi : (n : Nat) = i) (hl : lv[i]? = some (.ref x))
    (k : Wp M d mc ms (pc + 1) lv (.ref x :: st) h Q) : Wp M d mc ms pc lv st h Q := by
  intro X p l e_ R s m args below meth c H locs cells slots QQ ls F hP hS hL hk
  exact lv_aload_n F.1 F.2.1 hdg hi (hL.at hl (fun z => by cases z)) (k X p l e_ R s m args below meth c H locs cells slots QQ ls F hP hS hL hk)
theorem wp_aload (i : Nat) {x : Nat} (hdg : decode M.2.1 pc = .ok (.aload i, 2)) (hl : lv[i]? = some (.ref x))
    (k : Wp M d mc ms (pc + 2) lv (.ref x :: st) h Q) : Wp M d mc ms pc lv st h Q := by
  intro X p l e_ R s m args below meth c H locs cells slots QQ ls F hP hS hL hk
  exact lv_aload F.1 F.2.1 hdg (hL.at hl (fun z => by cases z)) (k X p l e_ R s m args below meth c H locs cells slots QQ ls F hP hS hL hk)
theorem wp_istore_n {n : Fin 4} (i : Nat) {x : Int32} (hdg : decode M.2.1 pc = .ok (.istore_n n, 1)) (hi : (n : Nat) = i) (hm : i < M.2.2.1) (hp : sm_pr lv i = true)
    (k : Wp M d mc ms (pc + 1) (lv.set i (.int x)) st h Q) : Wp M d mc ms pc lv (.int x :: st) h Q := by
  intro X p l e_ R s m args below meth c H locs cells slots QQ ls F hP hS hL hk
  exact lv_istore_n F.1 F.2.1 hdg hi hL.has hm rfl (fun ls hL2 => k X p l e_ R s m args below meth c H locs cells slots QQ ls F hP hS (sm_L.st1 (x := .int x) hp hL2) hk)
theorem wp_istore (i : Nat) {x : Int32} (hdg : decode M.2.1 pc = .ok (.istore i, 2)) (hm : i < M.2.2.1) (hp : sm_pr lv i = true)
    (k : Wp M d mc ms (pc + 2) (lv.set i (.int x)) st h Q) : Wp M d mc ms pc lv (.int x :: st) h Q := by
  intro X p l e_ R s m args below meth c H locs cells slots QQ ls F hP hS hL hk
  exact lv_istore F.1 F.2.1 hdg hL.has hm rfl (fun ls hL2 => k X p l e_ R s m args below meth c H locs cells slots QQ ls F hP hS (sm_L.st1 (x := .int x) hp hL2) hk)
theorem wp_astore_n {n : Fin 4} (i : Nat) {x : Nat} (hdg : decode M.2.1 pc = .ok (.astore_n n, 1)) (hi : (n : Nat) = i) (hm : i < M.2.2.1) (hp : sm_pr lv i = true)
    (k : Wp M d mc ms (pc + 1) (lv.set i (.ref x)) st h Q) : Wp M d mc ms pc lv (.ref x :: st) h Q := by
  intro X p l e_ R s m args below meth c H locs cells slots QQ ls F hP hS hL hk
  exact lv_astore_n F.1 F.2.1 hdg hi hL.has hm rfl (fun ls hL2 => k X p l e_ R s m args below meth c H locs cells slots QQ ls F hP hS (sm_L.st1 (x := .ref x) hp hL2) hk)
theorem wp_astore (i : Nat) {x : Nat} (hdg : decode M.2.1 pc = .ok (.astore i, 2)) (hm : i < M.2.2.1) (hp : sm_pr lv i = true)
    (k : Wp M d mc ms (pc + 2) (lv.set i (.ref x)) st h Q) : Wp M d mc ms pc lv (.ref x :: st) h Q := by
  intro X p l e_ R s m args below meth c H locs cells slots QQ ls F hP hS hL hk
  exact lv_astore F.1 F.2.1 hdg hL.has hm rfl (fun ls hL2 => k X p l e_ R s m args below meth c H locs cells slots QQ ls F hP hS (sm_L.st1 (x := .ref x) hp hL2) hk)
theorem wp_lstore (i : Nat) {x : Int64} (hdg : decode M.2.1 pc = .ok (.lstore i, 2)) (hm : i + 1 < M.2.2.1) (hp : sm_pr lv i = true)
    (k : Wp M d mc ms (pc + 2) ((lv.set i (.long x)).set (i + 1) .null) st h Q) : Wp M d mc ms pc lv (.long x :: st) h Q := by
  intro X p l e_ R s m args below meth c H locs cells slots QQ ls F hP hS hL hk
  exact lv_lstore F.1 F.2.1 hdg hL.has hm rfl (fun ls hL2 => k X p l e_ R s m args below meth c H locs cells slots QQ ls F hP hS (sm_L.st2 hp hL2) hk)
theorem wp_iinc (i : Nat) {n : Int} {x : Int32} (v : Int32) (hdg : decode M.2.1 pc = .ok (.iinc i n, 3)) (hl : lv[i]? = some (.int x)) (hv : x + Int32.ofInt n = v) (hm : i < M.2.2.1) (hp : sm_pr lv i = true)
    (k : Wp M d mc ms (pc + 3) (lv.set i (.int v)) st h Q) : Wp M d mc ms pc lv st h Q := by
  intro X p l e_ R s m args below meth c H locs cells slots QQ ls F hP hS hL hk
  obtain ⟨j, hj⟩ := List.getElem?_of_mem (sm_as_in (X := X) hl (fun z => by cases z))
  exact lv_iinc F.1 F.2.1 hdg hL.has (k := j) hj hv hm rfl (fun ls hL2 => k X p l e_ R s m args below meth c H locs cells slots QQ ls F hP hS (sm_L.st1 (x := .int v) hp hL2) hk)
theorem wp_goto {off : Int} (tgt : Nat) (hdg : decode M.2.1 pc = .ok (.goto off, 3)) (ht : (pc : Int) + off = (tgt : Int))
    (k : Wp M d mc ms tgt lv st h Q) : Wp M d mc ms pc lv st h Q := by
  intro X p l e_ R s m args below meth c H locs cells slots QQ ls F hP hS hL hk
  exact lv_goto F.1 F.2.1 hdg ht (k X p l e_ R s m args below meth c H locs cells slots QQ ls F hP hS hL hk)
theorem wp_icmp_eq {x y : Int32} {off : Int} (tgt : Nat) (hdg : decode M.2.1 pc = .ok (.if_icmp .eq off, 3)) (ht : (pc : Int) + off = (tgt : Int))
    (kt : x = y → Wp M d mc ms tgt lv st h Q) (kf : ¬ x = y → Wp M d mc ms (pc + 3) lv st h Q) : Wp M d mc ms pc lv (.int y :: .int x :: st) h Q := by
  intro X p l e_ R s m args below meth c H locs cells slots QQ ls F hP hS hL hk
  exact lv_icmp_eq F.1 F.2.1 hdg ht (fun z => kt z X p l e_ R s m args below meth c H locs cells slots QQ ls F hP hS hL hk) (fun z => kf z X p l e_ R s m args below meth c H locs cells slots QQ ls F hP hS hL hk)
theorem wp_ifeq {x : Int32} {off : Int} (tgt : Nat) (hdg : decode M.2.1 pc = .ok (.ifCond .eq off, 3)) (ht : (pc : Int) + off = (tgt : Int))
    (kt : x = 0 → Wp M d mc ms tgt lv st h Q) (kf : ¬ x = 0 → Wp M d mc ms (pc + 3) lv st h Q) : Wp M d mc ms pc lv (.int x :: st) h Q := by
  intro X p l e_ R s m args below meth c H locs cells slots QQ ls F hP hS hL hk
  exact lv_if_eq F.1 F.2.1 hdg ht (fun z => kt z X p l e_ R s m args below meth c H locs cells slots QQ ls F hP hS hL hk) (fun z => kf z X p l e_ R s m args below meth c H locs cells slots QQ ls F hP hS hL hk)
theorem wp_icmp_ne {x y : Int32} {off : Int} (tgt : Nat) (hdg : decode M.2.1 pc = .ok (.if_icmp .ne off, 3)) (ht : (pc : Int) + off = (tgt : Int))
    (kt : ¬ x = y → Wp M d mc ms tgt lv st h Q) (kf : x = y → Wp M d mc ms (pc + 3) lv st h Q) : Wp M d mc ms pc lv (.int y :: .int x :: st) h Q := by
  intro X p l e_ R s m args below meth c H locs cells slots QQ ls F hP hS hL hk
  exact lv_icmp_ne F.1 F.2.1 hdg ht (fun z => kt z X p l e_ R s m args below meth c H locs cells slots QQ ls F hP hS hL hk) (fun z => kf z X p l e_ R s m args below meth c H locs cells slots QQ ls F hP hS hL hk)
theorem wp_ifne {x : Int32} {off : Int} (tgt : Nat) (hdg : decode M.2.1 pc = .ok (.ifCond .ne off, 3)) (ht : (pc : Int) + off = (tgt : Int))
    (kt : ¬ x = 0 → Wp M d mc ms tgt lv st h Q) (kf : x = 0 → Wp M d mc ms (pc + 3) lv st h Q) : Wp M d mc ms pc lv (.int x :: st) h Q := by
  intro X p l e_ R s m args below meth c H locs cells slots QQ ls F hP hS hL hk
  exact lv_if_ne F.1 F.2.1 hdg ht (fun z => kt z X p l e_ R s m args below meth c H locs cells slots QQ ls F hP hS hL hk) (fun z => kf z X p l e_ R s m args below meth c H locs cells slots QQ ls F hP hS hL hk)
theorem wp_icmp_lt {x y : Int32} {off : Int} (tgt : Nat) (hdg : decode M.2.1 pc = .ok (.if_icmp .lt off, 3)) (ht : (pc : Int) + off = (tgt : Int))
    (kt : x < y → Wp M d mc ms tgt lv st h Q) (kf : ¬ x < y → Wp M d mc ms (pc + 3) lv st h Q) : Wp M d mc ms pc lv (.int y :: .int x :: st) h Q := by
  intro X p l e_ R s m args below meth c H locs cells slots QQ ls F hP hS hL hk
  exact lv_icmp_lt F.1 F.2.1 hdg ht (fun z => kt z X p l e_ R s m args below meth c H locs cells slots QQ ls F hP hS hL hk) (fun z => kf z X p l e_ R s m args below meth c H locs cells slots QQ ls F hP hS hL hk)
theorem wp_iflt {x : Int32} {off : Int} (tgt : Nat) (hdg : decode M.2.1 pc = .ok (.ifCond .lt off, 3)) (ht : (pc : Int) + off = (tgt : Int))
    (kt : x < 0 → Wp M d mc ms tgt lv st h Q) (kf : ¬ x < 0 → Wp M d mc ms (pc + 3) lv st h Q) : Wp M d mc ms pc lv (.int x :: st) h Q := by
  intro X p l e_ R s m args below meth c H locs cells slots QQ ls F hP hS hL hk
  exact lv_if_lt F.1 F.2.1 hdg ht (fun z => kt z X p l e_ R s m args below meth c H locs cells slots QQ ls F hP hS hL hk) (fun z => kf z X p l e_ R s m args below meth c H locs cells slots QQ ls F hP hS hL hk)
theorem wp_icmp_ge {x y : Int32} {off : Int} (tgt : Nat) (hdg : decode M.2.1 pc = .ok (.if_icmp .ge off, 3)) (ht : (pc : Int) + off = (tgt : Int))
    (kt : y ≤ x → Wp M d mc ms tgt lv st h Q) (kf : ¬ y ≤ x → Wp M d mc ms (pc + 3) lv st h Q) : Wp M d mc ms pc lv (.int y :: .int x :: st) h Q := by
  intro X p l e_ R s m args below meth c H locs cells slots QQ ls F hP hS hL hk
  exact lv_icmp_ge F.1 F.2.1 hdg ht (fun z => kt z X p l e_ R s m args below meth c H locs cells slots QQ ls F hP hS hL hk) (fun z => kf z X p l e_ R s m args below meth c H locs cells slots QQ ls F hP hS hL hk)
theorem wp_ifge {x : Int32} {off : Int} (tgt : Nat) (hdg : decode M.2.1 pc = .ok (.ifCond .ge off, 3)) (ht : (pc : Int) + off = (tgt : Int))
    (kt : 0 ≤ x → Wp M d mc ms tgt lv st h Q) (kf : ¬ 0 ≤ x → Wp M d mc ms (pc + 3) lv st h Q) : Wp M d mc ms pc lv (.int x :: st) h Q := by
  intro X p l e_ R s m args below meth c H locs cells slots QQ ls F hP hS hL hk
  exact lv_if_ge F.1 F.2.1 hdg ht (fun z => kt z X p l e_ R s m args below meth c H locs cells slots QQ ls F hP hS hL hk) (fun z => kf z X p l e_ R s m args below meth c H locs cells slots QQ ls F hP hS hL hk)
theorem wp_icmp_gt {x y : Int32} {off : Int} (tgt : Nat) (hdg : decode M.2.1 pc = .ok (.if_icmp .gt off, 3)) (ht : (pc : Int) + off = (tgt : Int))
    (kt : y < x → Wp M d mc ms tgt lv st h Q) (kf : ¬ y < x → Wp M d mc ms (pc + 3) lv st h Q) : Wp M d mc ms pc lv (.int y :: .int x :: st) h Q := by
  intro X p l e_ R s m args below meth c H locs cells slots QQ ls F hP hS hL hk
  exact lv_icmp_gt F.1 F.2.1 hdg ht (fun z => kt z X p l e_ R s m args below meth c H locs cells slots QQ ls F hP hS hL hk) (fun z => kf z X p l e_ R s m args below meth c H locs cells slots QQ ls F hP hS hL hk)
theorem wp_ifgt {x : Int32} {off : Int} (tgt : Nat) (hdg : decode M.2.1 pc = .ok (.ifCond .gt off, 3)) (ht : (pc : Int) + off = (tgt : Int))
    (kt : 0 < x → Wp M d mc ms tgt lv st h Q) (kf : ¬ 0 < x → Wp M d mc ms (pc + 3) lv st h Q) : Wp M d mc ms pc lv (.int x :: st) h Q := by
  intro X p l e_ R s m args below meth c H locs cells slots QQ ls F hP hS hL hk
  exact lv_if_gt F.1 F.2.1 hdg ht (fun z => kt z X p l e_ R s m args below meth c H locs cells slots QQ ls F hP hS hL hk) (fun z => kf z X p l e_ R s m args below meth c H locs cells slots QQ ls F hP hS hL hk)
theorem wp_icmp_le {x y : Int32} {off : Int} (tgt : Nat) (hdg : decode M.2.1 pc = .ok (.if_icmp .le off, 3)) (ht : (pc : Int) + off = (tgt : Int))
    (kt : x ≤ y → Wp M d mc ms tgt lv st h Q) (kf : ¬ x ≤ y → Wp M d mc ms (pc + 3) lv st h Q) : Wp M d mc ms pc lv (.int y :: .int x :: st) h Q := by
  intro X p l e_ R s m args below meth c H locs cells slots QQ ls F hP hS hL hk
  exact lv_icmp_le F.1 F.2.1 hdg ht (fun z => kt z X p l e_ R s m args below meth c H locs cells slots QQ ls F hP hS hL hk) (fun z => kf z X p l e_ R s m args below meth c H locs cells slots QQ ls F hP hS hL hk)
theorem wp_ifle {x : Int32} {off : Int} (tgt : Nat) (hdg : decode M.2.1 pc = .ok (.ifCond .le off, 3)) (ht : (pc : Int) + off = (tgt : Int))
    (kt : x ≤ 0 → Wp M d mc ms tgt lv st h Q) (kf : ¬ x ≤ 0 → Wp M d mc ms (pc + 3) lv st h Q) : Wp M d mc ms pc lv (.int x :: st) h Q := by
  intro X p l e_ R s m args below meth c H locs cells slots QQ ls F hP hS hL hk
  exact lv_if_le F.1 F.2.1 hdg ht (fun z => kt z X p l e_ R s m args below meth c H locs cells slots QQ ls F hP hS hL hk) (fun z => kf z X p l e_ R s m args below meth c H locs cells slots QQ ls F hP hS hL hk)
theorem wp_table {dflt lo hi : Int} {offs : Array Int} {len : Nat} {x : Int32} (hdg : decode M.2.1 pc = .ok (.tableswitch dflt lo hi offs, len))
    (kin : ∀ (j : Nat) (off : Int) (tgt : Nat), x.toInt = lo + j → offs[j]? = some off → x.toInt ≤ hi → (pc : Int) + off = (tgt : Int) → Wp M d mc ms tgt lv st h Q) (hin : ∀ (j : Nat) (off : Int), offs[j]? = some off → ∃ tgt : Nat, (pc : Int) + off = (tgt : Int)) (hsz : (offs.size : Int) = hi - lo + 1)
    (tgt : Nat) (ht : (pc : Int) + dflt = (tgt : Int)) (kout : x.toInt < lo ∨ hi < x.toInt → Wp M d mc ms tgt lv st h Q) : Wp M d mc ms pc lv (.int x :: st) h Q := by
  intro X p l e_ R s m args below meth c H locs cells slots QQ ls F hP hS hL hk
  by_cases h1 : x.toInt < lo
  · exact lv_tableOut F.1 F.2.1 hdg (Or.inl h1) ht (kout (Or.inl h1) X p l e_ R s m args below meth c H locs cells slots QQ ls F hP hS hL hk)
  · by_cases h2 : hi < x.toInt
    · exact lv_tableOut F.1 F.2.1 hdg (Or.inr h2) ht (kout (Or.inr h2) X p l e_ R s m args below meth c H locs cells slots QQ ls F hP hS hL hk)
    · have hj : (x.toInt - lo).toNat < offs.size := by omega
      obtain ⟨t, ht2⟩ := hin _ _ (Array.getElem?_eq_getElem hj)
      exact lv_tableIn F.1 F.2.1 hdg h1 h2 (Array.getElem?_eq_getElem hj) ht2 (kin (x.toInt - lo).toNat _ t (by omega) (Array.getElem?_eq_getElem hj) (by omega) ht2 X p l e_ R s m args below meth c H locs cells slots QQ ls F hP hS hL hk)
theorem wp_lookup {dflt : Int} {ps : Array (Int × Int)} {len : Nat} {x : Int32} {off : Int} (tgt : Nat) (hdg : decode M.2.1 pc = .ok (.lookupswitch dflt ps, len)) (hp : (ps.toList.zip (ps.toList.drop 1)).all (fun (a, next) => a.1 < next.1) = true) (ho : Op.lookupswitch.offset ps.toList dflt x.toInt = off) (ht : (pc : Int) + off = (tgt : Int))
    (k : Wp M d mc ms tgt lv st h Q) : Wp M d mc ms pc lv (.int x :: st) h Q := by
  intro X p l e_ R s m args below meth c H locs cells slots QQ ls F hP hS hL hk
  exact lv_lookup F.1 F.2.1 hdg hp ho ht (k X p l e_ R s m args below meth c H locs cells slots QQ ls F hP hS hL hk)
theorem wp_ret {pc : Nat} (hdg : decode M.2.1 pc = .ok (.return_, 1)) (hr : M.2.2.2 = none) (k : Q none h) : Wp M d 0 0 pc lv [] h Q := by
  intro X p l e_ R s m args below meth c H locs cells slots QQ ls F hP hS hL hk
  exact hk none h H locs ls pc k hP hS ⟨hdg, hr⟩
theorem wp_iret {x : Int32} (hdg : decode M.2.1 pc = .ok (.ireturn, 1)) (hr : ∃ ty, M.2.2.2 = some ty ∧ narrow ty (.int x) = .int x) (k : Q (some (.int x)) h) : Wp M d 0 0 pc lv [.int x] h Q := by
  intro X p l e_ R s m args below meth c H locs cells slots QQ ls F hP hS hL hk
  exact hk (some (.int x)) h H locs ls pc k hP hS ⟨hdg, hr⟩
theorem wp_lret {x : Int64} (hdg : decode M.2.1 pc = .ok (.lreturn, 1)) (hr : M.2.2.2 = some .long) (k : Q (some (.long x)) h) : Wp M d 0 0 pc lv [.long x] h Q := by
  intro X p l e_ R s m args below meth c H locs cells slots QQ ls F hP hS hL hk
  exact hk (some (.long x)) h H locs ls pc k hP hS ⟨hdg, hr⟩
theorem wp_aret {x : Nat} (hdg : decode M.2.1 pc = .ok (.areturn, 1)) (hr : ∃ rt, M.2.2.2 = some rt ∧ ((∃ n, rt = .object n) ∨ ∃ t, rt = .array t)) (k : Q (some (.ref x)) h) : Wp M d 0 0 pc lv [.ref x] h Q := by
  intro X p l e_ R s m args below meth c H locs cells slots QQ ls F hP hS hL hk
  exact hk (some (.ref x)) h H locs ls pc k hP hS ⟨hdg, hr⟩
theorem wp_mono {Q2 : Option Value → sm_H → Prop} (hQ : ∀ v h', Q v h' → Q2 v h') (k : Wp M d mc ms pc lv st h Q) : Wp M d mc ms pc lv st h Q2 := by
  intro X p l e_ R s m args below meth c H locs cells slots QQ ls F hP hS hL hk
  exact k X p l e_ R s m args below meth c H locs cells slots QQ ls F hP hS hL (fun v h' H' locs' ls' pc' q => hk v h' H' locs' ls' pc' (hQ v h' q))
end SM1
