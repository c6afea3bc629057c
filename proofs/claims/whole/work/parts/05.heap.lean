/-! ===== cells of the plain machine ===== -/
theorem sm_ws_at {X : sm_X} {h : sm_H} {k : Nat} (hk : k < h.1.length) : (sm_ws X h)[k]? = some (X.1 + k, sm_ce X h k) := by
  unfold sm_ws
  rw [List.getElem?_map, List.getElem?_range hk]
  rfl
theorem sm_ws_len (X : sm_X) (h : sm_H) : (sm_ws X h).length = h.1.length := by simp [sm_ws]
theorem sm_ws_key {X : sm_X} {h : sm_H} {k : Nat} {q : Nat × va_E} (hk : (sm_ws X h)[k]? = some q) : k < h.1.length ∧ q = (X.1 + k, sm_ce X h k) := by
  have hl : k < h.1.length := by rw [← sm_ws_len X h]; exact (List.getElem?_eq_some_iff.mp hk).1
  rw [sm_ws_at hl] at hk
  cases hk
  exact ⟨hl, rfl⟩
theorem sm_D (X : sm_X) (h : sm_H) : va_D (sm_A X) (sm_ws X h) := by
  refine ⟨fun i j p q hi hj e => ?_, fun k q hk => ?_⟩
  · obtain ⟨-, rfl⟩ := sm_ws_key hi
    obtain ⟨-, rfl⟩ := sm_ws_key hj
    have e' : X.1 + i = X.1 + j := e
    omega
  · obtain ⟨-, rfl⟩ := sm_ws_key hk
    exact Nat.le_add_right _ _
theorem sm_ws_set {X : sm_X} {h h' : sm_H} {k : Nat} (hl : h'.1.length = h.1.length) (hk : k < h.1.length) (ho : ∀ i, i < h.1.length → i ≠ k → sm_ce X h' i = sm_ce X h i) : sm_ws X h' = (sm_ws X h).set k (X.1 + k, sm_ce X h' k) := by
  refine List.ext_getElem? fun i => ?_
  by_cases hi : i < h.1.length
  · rw [sm_ws_at (by rw [hl]; exact hi)]
    by_cases hik : k = i
    · subst hik
      rw [List.getElem?_set_self (by rw [sm_ws_len]; exact hk)]
    · rw [List.getElem?_set_ne hik, sm_ws_at hi, ho i hi (fun z => hik z.symm)]
  · rw [List.getElem?_eq_none (by rw [sm_ws_len, hl]; omega), List.getElem?_eq_none (by rw [List.length_set, sm_ws_len]; omega)]
theorem sm_ws_push {X : sm_X} {h h' : sm_H} {x : Nat × Nat × List (Option Nat)} (hl : h'.1 = h.1 ++ [x]) (ho : ∀ i, i < h.1.length → sm_ce X h' i = sm_ce X h i) : sm_ws X h' = sm_ws X h ++ [(X.1 + h.1.length, sm_ce X h' h.1.length)] := by
  have hn : h'.1.length = h.1.length + 1 := by rw [hl]; simp
  refine List.ext_getElem? fun i => ?_
  by_cases hi : i < h.1.length
  · rw [sm_ws_at (by omega), List.getElem?_append_left (by rw [sm_ws_len]; exact hi), sm_ws_at hi, ho i hi]
  · rw [List.getElem?_append_right (by rw [sm_ws_len]; omega), sm_ws_len]
    by_cases hi2 : i = h.1.length
    · subst hi2
      rw [sm_ws_at (by omega), Nat.sub_self]
      rfl
    · rw [List.getElem?_eq_none (by rw [sm_ws_len]; omega), List.getElem?_eq_none (by simp; omega)]
theorem sm_lt {h : sm_H} {k : Nat} {x : Nat × Nat × List (Option Nat)} (hs : h.1[k]? = some x) : k < h.1.length := (List.getElem?_eq_some_iff.mp hs).1
theorem sm_ce_o {X : sm_X} {h : sm_H} {k ci : Nat} {refs : List (Option Nat)} (hs : h.1[k]? = some (0, ci, refs)) : sm_ce X h k = .inr (ci, (List.range (sm_N ci)).map (sm_fv X h k ci refs)) := by
  unfold sm_ce
  rw [hs]
  try rfl
theorem sm_ce_i {X : sm_X} {h : sm_H} {k n : Nat} {r : List (Option Nat)} (hs : h.1[k]? = some (1, n, r)) : sm_ce X h k = .inl (X.2.1 0, n, .inl (h.2.2.1 k)) := by
  unfold sm_ce
  rw [hs]
  try rfl
theorem sm_ce_l {X : sm_X} {h : sm_H} {k n : Nat} {r : List (Option Nat)} (hs : h.1[k]? = some (2, n, r)) : sm_ce X h k = .inl (X.2.1 1, n, .inr (.inl (h.2.2.2 k))) := by
  unfold sm_ce
  rw [hs]
  try rfl
theorem sm_ce_c {X : sm_X} {h : sm_H} {k n : Nat} {r : List (Option Nat)} (hs : h.1[k]? = some (3, n, r)) : sm_ce X h k = .inl (X.2.1 2, n, .inl (h.2.2.1 k)) := by
  unfold sm_ce
  rw [hs]
  try rfl
/-- a cell whose shape and own numbers are the same is the same -/
theorem sm_ce_eq {X : sm_X} {h h' : sm_H} {i : Nat} (h1 : h'.1[i]? = h.1[i]?) (h2 : h'.2.1 i = h.2.1 i) (h3 : h'.2.2.1 i = h.2.2.1 i) (h4 : h'.2.2.2 i = h.2.2.2 i) : sm_ce X h' i = sm_ce X h i := by
  unfold sm_ce
  rw [h1]
  split
  · have : sm_fv X h' i = sm_fv X h i := by funext ci refs j; simp only [sm_fv, h2]
    rw [this]
  · rw [h3]
  · rw [h4]
  · rw [h3]
  · rfl
theorem sm_G_lt {X : sm_X} {k : Nat} (h : k < 900) : sm_G X k = X.1 + k := by unfold sm_G; rw [if_pos h]
theorem sm_up_ne {α : Type} {f : Nat → Nat → α} {k j : Nat} {v : α} {i : Nat} (h : i ≠ k) : sm_up f k j v i = f i := by funext b; simp [sm_up, h]
theorem sm_ups_ne {α : Type} {f : Nat → Nat → α} {k : Nat} {g : Nat → α} {i : Nat} (h : i ≠ k) : sm_ups f k g i = f i := by funext b; simp [sm_ups, h]
theorem sm_ups_eq {α : Type} {f : Nat → Nat → α} {k : Nat} {g : Nat → α} : sm_ups f k g k = g := by funext b; simp [sm_ups]
theorem sm_up_upd {f : Nat → Nat → Int32} {k j : Nat} {v : Int32} : sm_up f k j v k = upd (f k) j v := by funext b; simp [sm_up, upd]
theorem sm_up_updL {f : Nat → Nat → Int64} {k j : Nat} {v : Int64} : sm_up f k j v k = vp_updL (f k) j v := by funext b; simp [sm_up, vp_updL]
theorem sm_in (ci : Nat) (hci : ci < 7) : ∀ w ∈ u_ws (sm_C ci) (sm_T ci) (sm_N ci), w ∈ sm_Ts := by
  rcases (show ci = 0 ∨ ci = 1 ∨ ci = 2 ∨ ci = 3 ∨ ci = 4 ∨ ci = 5 ∨ ci = 6 by omega) with rfl | rfl | rfl | rfl | rfl | rfl | rfl <;> decide +kernel
/-- a field as the class 'own' names it by its number idx: field j of class ci -/
abbrev sm_fl (own : String) (idx ci j : Nat) : Prop := ci < 7 ∧ j < sm_N ci ∧ Cond.fieldLink own idx (sm_T ci j).1 (sm_T ci j).2.1 (sm_T ci j).2.2.1 ∈ sm_Ts
theorem sm_fs {X : sm_X} {h : sm_H} {k ci j : Nat} {refs : List (Option Nat)} (hj : j < sm_N ci) : ((List.range (sm_N ci)).map (sm_fv X h k ci refs))[j]? = some (sm_fv X h k ci refs j) := by
  rw [List.getElem?_map, List.getElem?_range hj]; rfl

section SM2
variable {M : sm_M} {d mc ms pc : Nat} {lv st : List Value} {h : sm_H} {Q : Option Value → sm_H → Prop}

theorem wp_getI {k ci : Nat} {refs : List (Option Nat)} (idx j : Nat) (hdg : decode M.2.1 pc = .ok (.getfield idx, 3)) (hs : h.1[k]? = some (0, ci, refs)) (fl : sm_fl M.1.cls idx ci j) (ht : sm_isR (sm_ty ci j) = false) (k9 : k < 900)
    (kk : Wp M d mc ms (pc + 3) lv (.int (h.2.1 k j) :: st) h Q) : Wp M d mc ms pc lv (.ref k :: st) h Q := by
  intro X p l e_ R s m args below meth c H locs cells slots QQ ls F hP hS hL hk
  obtain ⟨f1, f2, f3, f4, f5, f6, f7, f8, f9, f10, f11⟩ := id F
  have e := sm_ws_at (X := X) (sm_lt hs)
  rw [sm_ce_o hs] at e
  show W p l e_ R s m args below meth c H locs cells slots QQ (F0 m pc ls (.ref (sm_G X k) :: st.map (sm_v X)))
  rw [sm_G_lt k9]
  refine va_get (ref := (sm_T ci j).1) f1 f2 f8 (sm_in ci fl.1) f5 f9.2.1 hP.1 k e (sm_cl fl.1) j fl.2.1 (f8 _ fl.2.2) (fun _ z => z) (sm_fs fl.2.1) hdg ?_
  have e2 : sm_fv X h k ci refs j = .int (h.2.1 k j) := by unfold sm_fv; rw [ht]; rfl
  rw [e2]
  exact kk X p l e_ R s m args below meth c H locs cells slots QQ ls F hP hS hL hk
theorem wp_getR {k ci : Nat} {refs : List (Option Nat)} (idx j : Nat) {a : Nat} (hdg : decode M.2.1 pc = .ok (.getfield idx, 3)) (hs : h.1[k]? = some (0, ci, refs)) (fl : sm_fl M.1.cls idx ci j) (ht : sm_isR (sm_ty ci j) = true) (hr : refs[j]? = some (some a)) (k9 : k < 900) (a9 : a < 900)
    (kk : Wp M d mc ms (pc + 3) lv (.ref a :: st) h Q) : Wp M d mc ms pc lv (.ref k :: st) h Q := by
  intro X p l e_ R s m args below meth c H locs cells slots QQ ls F hP hS hL hk
  obtain ⟨f1, f2, f3, f4, f5, f6, f7, f8, f9, f10, f11⟩ := id F
  have e := sm_ws_at (X := X) (sm_lt hs)
  rw [sm_ce_o hs] at e
  show W p l e_ R s m args below meth c H locs cells slots QQ (F0 m pc ls (.ref (sm_G X k) :: st.map (sm_v X)))
  rw [sm_G_lt k9]
  refine va_get (ref := (sm_T ci j).1) f1 f2 f8 (sm_in ci fl.1) f5 f9.2.1 hP.1 k e (sm_cl fl.1) j fl.2.1 (f8 _ fl.2.2) (fun _ z => z) (sm_fs fl.2.1) hdg ?_
  have e2 : sm_fv X h k ci refs j = sm_v X (.ref a) := by
    unfold sm_fv
    rw [ht, hr]
    show Value.ref (X.1 + a) = .ref (sm_G X a)
    rw [sm_G_lt a9]
  rw [e2]
  exact kk X p l e_ R s m args below meth c H locs cells slots QQ ls F hP hS hL hk
theorem wp_putI {k ci : Nat} {refs : List (Option Nat)} {x : Int32} (idx j : Nat) (hdg : decode M.2.1 pc = .ok (.putfield idx, 3)) (hs : h.1[k]? = some (0, ci, refs)) (fl : sm_fl M.1.cls idx ci j) (hfin : (sm_T ci j).2.2.2 = false) (ht : sm_isR (sm_ty ci j) = false) (hn : narrow (sm_ty ci j) (.int x) = .int x) (hfit : fits (sm_ty ci j) (.int x) = true) (k9 : k < 900)
    (kk : Wp M d mc ms (pc + 3) lv st (h.1, sm_up h.2.1 k j x, h.2.2.1, h.2.2.2) Q) : Wp M d mc ms pc lv (.int x :: .ref k :: st) h Q := by
  intro X p l e_ R s m args below meth c H locs cells slots QQ ls F hP hS hL hk
  obtain ⟨f1, f2, f3, f4, f5, f6, f7, f8, f9, f10, f11⟩ := id F
  have e := sm_ws_at (X := X) (sm_lt hs)
  rw [sm_ce_o hs] at e
  show W p l e_ R s m args below meth c H locs cells slots QQ (F0 m pc ls (.int x :: .ref (sm_G X k) :: st.map (sm_v X)))
  rw [sm_G_lt k9]
  have e3 : sm_ws X (h.1, sm_up h.2.1 k j x, h.2.2.1, h.2.2.2) = (sm_ws X h).set k (X.1 + k, .inr (ci, ((List.range (sm_N ci)).map (sm_fv X h k ci refs)).set j (.int x))) := by
    rw [sm_ws_set (h := h) (h' := (h.1, sm_up h.2.1 k j x, h.2.2.1, h.2.2.2)) (k := k) rfl (sm_lt hs) (fun i _ hi => sm_ce_eq rfl (sm_up_ne hi) rfl rfl), sm_ce_o (h := (h.1, sm_up h.2.1 k j x, h.2.2.1, h.2.2.2)) hs]
    congr 3
    refine congrArg (Prod.mk ci) ?_
    refine List.ext_getElem? fun i => ?_
    rw [List.getElem?_map]
    by_cases hi : i < sm_N ci
    · rw [List.getElem?_range hi]
      by_cases hij : j = i
      · subst hij
        rw [List.getElem?_set_self (by simpa using hi)]
        simp [sm_fv, ht, sm_up]
      · rw [List.getElem?_set_ne hij, List.getElem?_map, List.getElem?_range hi]
        have hz : sm_up h.2.1 k j x k i = h.2.1 k i := by unfold sm_up; rw [if_neg (fun z => hij z.2.symm)]
        simp only [sm_fv, Option.map_some, hz]
    · rw [List.getElem?_eq_none (by simpa using hi), List.getElem?_eq_none (by simpa using hi)]
      rfl
  refine va_put (ref := (sm_T ci j).1) f1 f2 f8 (sm_in ci fl.1) (sm_ty ci) (sm_ty_ok fl.1) (sm_nm fl.1) f5 f9.2.1 hP.1 (sm_D X h) hS k e (sm_cl fl.1) j fl.2.1 (f8 _ fl.2.2) (fun _ z => z) hfin (sm_ty_ok fl.1 j fl.2.1) hn hfit (by simpa using fl.2.1) hdg (fun H1 locs1 hP1 _ hS1 => ?_)
  rw [← e3] at hP1
  exact kk X p l e_ R s m args below meth c H1 locs1 cells slots QQ ls F ⟨hP1, hP.2⟩ hS1 hL hk
theorem wp_putR {k ci : Nat} {refs : List (Option Nat)} {a : Nat} (idx j : Nat) (hdg : decode M.2.1 pc = .ok (.putfield idx, 3)) (hs : h.1[k]? = some (0, ci, refs)) (fl : sm_fl M.1.cls idx ci j) (hfin : (sm_T ci j).2.2.2 = true) (hin : M.1.name = "<init>") (hown : (sm_T ci j).1 = M.1.cls) (ht : sm_isR (sm_ty ci j) = true) (hn : ∀ q : Nat, narrow (sm_ty ci j) (.ref q) = .ref q ∧ fits (sm_ty ci j) (.ref q) = true) (hlen : j < refs.length) (k9 : k < 900) (a9 : a < 900)
    (kk : Wp M d mc ms (pc + 3) lv st (h.1.set k (0, ci, refs.set j (some a)), h.2.1, h.2.2.1, h.2.2.2) Q) : Wp M d mc ms pc lv (.ref a :: .ref k :: st) h Q := by
  intro X p l e_ R s m args below meth c H locs cells slots QQ ls F hP hS hL hk
  obtain ⟨f1, f2, f3, f4, f5, f6, f7, f8, f9, f10, f11⟩ := id F
  have e := sm_ws_at (X := X) (sm_lt hs)
  rw [sm_ce_o hs] at e
  show W p l e_ R s m args below meth c H locs cells slots QQ (F0 m pc ls (.ref (sm_G X a) :: .ref (sm_G X k) :: st.map (sm_v X)))
  rw [sm_G_lt k9, sm_G_lt a9]
  have e3 : sm_ws X (h.1.set k (0, ci, refs.set j (some a)), h.2.1, h.2.2.1, h.2.2.2) = (sm_ws X h).set k (X.1 + k, .inr (ci, ((List.range (sm_N ci)).map (sm_fv X h k ci refs)).set j (.ref (X.1 + a)))) := by
    rw [sm_ws_set (h := h) (h' := (h.1.set k (0, ci, refs.set j (some a)), h.2.1, h.2.2.1, h.2.2.2)) (k := k) (by simp) (sm_lt hs) (fun i _ hi => sm_ce_eq (List.getElem?_set_ne (fun z => hi z.symm)) rfl rfl rfl), sm_ce_o (h := (h.1.set k (0, ci, refs.set j (some a)), h.2.1, h.2.2.1, h.2.2.2)) (List.getElem?_set_self (sm_lt hs))]
    congr 3
    refine congrArg (Prod.mk ci) ?_
    refine List.ext_getElem? fun i => ?_
    rw [List.getElem?_map]
    by_cases hi : i < sm_N ci
    · rw [List.getElem?_range hi]
      by_cases hij : j = i
      · subst hij
        rw [List.getElem?_set_self (by simpa using hi)]
        simp [sm_fv, ht, List.getElem?_set_self hlen]
      · rw [List.getElem?_set_ne hij, List.getElem?_map, List.getElem?_range hi]
        simp [sm_fv, List.getElem?_set_ne hij]
    · rw [List.getElem?_eq_none (by simpa using hi), List.getElem?_eq_none (by simpa using hi)]
      rfl
  refine va_putF (ref := (sm_T ci j).1) f1 f2 f8 (sm_in ci fl.1) (sm_ty ci) (sm_ty_ok fl.1) (sm_nm fl.1) f5 f9.2.1 hP.1 (sm_D X h) hS k e (sm_cl fl.1) j fl.2.1 (f8 _ fl.2.2) (fun _ z => z) hfin (f7.trans hin) hown (sm_ty_ok fl.1 j fl.2.1) (hn _).1 (hn _).2 (by simpa using fl.2.1) hdg (fun H1 locs1 hP1 _ hS1 => ?_)
  rw [← e3] at hP1
  exact kk X p l e_ R s m args below meth c H1 locs1 cells slots QQ ls F ⟨hP1, by simpa using hP.2⟩ hS1 hL hk
theorem wp_iaload {k n : Nat} {r : List (Option Nat)} {i : Int32} (hdg : decode M.2.1 pc = .ok (.iaload, 1)) (hs : h.1[k]? = some (1, n, r)) (k9 : k < 900) (hin : vp_in i n)
    (kk : Wp M d mc ms (pc + 1) lv (.int (h.2.2.1 k i.toNatClampNeg) :: st) h Q) : Wp M d mc ms pc lv (.int i :: .ref k :: st) h Q := by
  intro X p l e_ R s m args below meth c H locs cells slots QQ ls F hP hS hL hk
  obtain ⟨f1, f2, f3, f4, f5, f6, f7, f8, f9, f10, f11⟩ := id F
  have e := sm_ws_at (X := X) (sm_lt hs)
  rw [sm_ce_i hs] at e
  show W p l e_ R s m args below meth c H locs cells slots QQ (F0 m pc ls (.int i :: .ref (sm_G X k) :: st.map (sm_v X)))
  rw [sm_G_lt k9]
  exact va_iald f1 f2 f9.2.1 hP.1 k 0 e rfl hin hdg (kk X p l e_ R s m args below meth c H locs cells slots QQ ls F hP hS hL hk)
theorem wp_caload {k n : Nat} {r : List (Option Nat)} {i : Int32} (hdg : decode M.2.1 pc = .ok (.caload, 1)) (hs : h.1[k]? = some (3, n, r)) (k9 : k < 900) (hin : vp_in i n)
    (kk : Wp M d mc ms (pc + 1) lv (.int (h.2.2.1 k i.toNatClampNeg) :: st) h Q) : Wp M d mc ms pc lv (.int i :: .ref k :: st) h Q := by
  intro X p l e_ R s m args below meth c H locs cells slots QQ ls F hP hS hL hk
  obtain ⟨f1, f2, f3, f4, f5, f6, f7, f8, f9, f10, f11⟩ := id F
  have e := sm_ws_at (X := X) (sm_lt hs)
  rw [sm_ce_c hs] at e
  show W p l e_ R s m args below meth c H locs cells slots QQ (F0 m pc ls (.int i :: .ref (sm_G X k) :: st.map (sm_v X)))
  rw [sm_G_lt k9]
  exact va_cald f1 f2 f9.2.1 hP.1 k 2 e rfl hin hdg (kk X p l e_ R s m args below meth c H locs cells slots QQ ls F hP hS hL hk)
theorem wp_laload {k n : Nat} {r : List (Option Nat)} {i : Int32} (hdg : decode M.2.1 pc = .ok (.laload, 1)) (hs : h.1[k]? = some (2, n, r)) (k9 : k < 900) (hin : vp_in i n)
    (kk : Wp M d mc ms (pc + 1) lv (.long (h.2.2.2 k i.toNatClampNeg) :: st) h Q) : Wp M d mc ms pc lv (.int i :: .ref k :: st) h Q := by
  intro X p l e_ R s m args below meth c H locs cells slots QQ ls F hP hS hL hk
  obtain ⟨f1, f2, f3, f4, f5, f6, f7, f8, f9, f10, f11⟩ := id F
  have e := sm_ws_at (X := X) (sm_lt hs)
  rw [sm_ce_l hs] at e
  show W p l e_ R s m args below meth c H locs cells slots QQ (F0 m pc ls (.int i :: .ref (sm_G X k) :: st.map (sm_v X)))
  rw [sm_G_lt k9]
  exact va_lald f1 f2 f9.2.1 hP.1 k 1 e rfl hin hdg (kk X p l e_ R s m args below meth c H locs cells slots QQ ls F hP hS hL hk)
theorem wp_iastore {k n : Nat} {r : List (Option Nat)} {i : Int32} {x : Int32} (hdg : decode M.2.1 pc = .ok (.iastore, 1)) (hs : h.1[k]? = some (1, n, r)) (k9 : k < 900) (hin : vp_in i n)
    (kk : Wp M d mc ms (pc + 1) lv st (h.1, h.2.1, sm_up h.2.2.1 k i.toNatClampNeg x, h.2.2.2) Q) : Wp M d mc ms pc lv (.int x :: .int i :: .ref k :: st) h Q := by
  intro X p l e_ R s m args below meth c H locs cells slots QQ ls F hP hS hL hk
  obtain ⟨f1, f2, f3, f4, f5, f6, f7, f8, f9, f10, f11⟩ := id F
  have e := sm_ws_at (X := X) (sm_lt hs)
  rw [sm_ce_i hs] at e
  show W p l e_ R s m args below meth c H locs cells slots QQ (F0 m pc ls (.int x :: .int i :: .ref (sm_G X k) :: st.map (sm_v X)))
  rw [sm_G_lt k9]
  have e3 : sm_ws X (h.1, h.2.1, sm_up h.2.2.1 k i.toNatClampNeg x, h.2.2.2) = (sm_ws X h).set k (X.1 + k, .inl (X.2.1 0, n, .inl (upd (h.2.2.1 k) i.toNatClampNeg x))) := by
    rw [sm_ws_set (h := h) (h' := (h.1, h.2.1, sm_up h.2.2.1 k i.toNatClampNeg x, h.2.2.2)) (k := k) rfl (sm_lt hs) (fun i2 _ hi => sm_ce_eq rfl rfl (sm_up_ne hi) rfl), sm_ce_i (h := (h.1, h.2.1, sm_up h.2.2.1 k i.toNatClampNeg x, h.2.2.2)) hs]
    simp only [sm_up_upd]
  refine va_iast f1 f2 f9.2.1 hP.1 (sm_D X h) hS k 0 e rfl hin hdg (fun H1 locs1 hP1 _ hS1 => ?_)
  rw [← e3] at hP1
  exact kk X p l e_ R s m args below meth c H1 locs1 cells slots QQ ls F ⟨hP1, hP.2⟩ hS1 hL hk
theorem wp_castore {k n : Nat} {r : List (Option Nat)} {i : Int32} {x : Int32} (hdg : decode M.2.1 pc = .ok (.castore, 1)) (hs : h.1[k]? = some (3, n, r)) (k9 : k < 900) (hin : vp_in i n)
    (kk : Wp M d mc ms (pc + 1) lv st (h.1, h.2.1, sm_up h.2.2.1 k i.toNatClampNeg (vp_nar .char x), h.2.2.2) Q) : Wp M d mc ms pc lv (.int x :: .int i :: .ref k :: st) h Q := by
  intro X p l e_ R s m args below meth c H locs cells slots QQ ls F hP hS hL hk
  obtain ⟨f1, f2, f3, f4, f5, f6, f7, f8, f9, f10, f11⟩ := id F
  have e := sm_ws_at (X := X) (sm_lt hs)
  rw [sm_ce_c hs] at e
  show W p l e_ R s m args below meth c H locs cells slots QQ (F0 m pc ls (.int x :: .int i :: .ref (sm_G X k) :: st.map (sm_v X)))
  rw [sm_G_lt k9]
  have e3 : sm_ws X (h.1, h.2.1, sm_up h.2.2.1 k i.toNatClampNeg (vp_nar .char x), h.2.2.2) = (sm_ws X h).set k (X.1 + k, .inl (X.2.1 2, n, .inl (upd (h.2.2.1 k) i.toNatClampNeg (vp_nar .char x)))) := by
    rw [sm_ws_set (h := h) (h' := (h.1, h.2.1, sm_up h.2.2.1 k i.toNatClampNeg (vp_nar .char x), h.2.2.2)) (k := k) rfl (sm_lt hs) (fun i2 _ hi => sm_ce_eq rfl rfl (sm_up_ne hi) rfl), sm_ce_c (h := (h.1, h.2.1, sm_up h.2.2.1 k i.toNatClampNeg (vp_nar .char x), h.2.2.2)) hs]
    simp only [sm_up_upd]
  refine va_cast f1 f2 f9.2.1 hP.1 (sm_D X h) hS k 2 e rfl hin hdg (fun H1 locs1 hP1 _ hS1 => ?_)
  rw [← e3] at hP1
  exact kk X p l e_ R s m args below meth c H1 locs1 cells slots QQ ls F ⟨hP1, hP.2⟩ hS1 hL hk
theorem wp_lastore {k n : Nat} {r : List (Option Nat)} {i : Int32} {x : Int64} (hdg : decode M.2.1 pc = .ok (.lastore, 1)) (hs : h.1[k]? = some (2, n, r)) (k9 : k < 900) (hin : vp_in i n)
    (kk : Wp M d mc ms (pc + 1) lv st (h.1, h.2.1, h.2.2.1, sm_up h.2.2.2 k i.toNatClampNeg x) Q) : Wp M d mc ms pc lv (.long x :: .int i :: .ref k :: st) h Q := by
  intro X p l e_ R s m args below meth c H locs cells slots QQ ls F hP hS hL hk
  obtain ⟨f1, f2, f3, f4, f5, f6, f7, f8, f9, f10, f11⟩ := id F
  have e := sm_ws_at (X := X) (sm_lt hs)
  rw [sm_ce_l hs] at e
  show W p l e_ R s m args below meth c H locs cells slots QQ (F0 m pc ls (.long x :: .int i :: .ref (sm_G X k) :: st.map (sm_v X)))
  rw [sm_G_lt k9]
  have e3 : sm_ws X (h.1, h.2.1, h.2.2.1, sm_up h.2.2.2 k i.toNatClampNeg x) = (sm_ws X h).set k (X.1 + k, .inl (X.2.1 1, n, .inr (.inl (vp_updL (h.2.2.2 k) i.toNatClampNeg x)))) := by
    rw [sm_ws_set (h := h) (h' := (h.1, h.2.1, h.2.2.1, sm_up h.2.2.2 k i.toNatClampNeg x)) (k := k) rfl (sm_lt hs) (fun i2 _ hi => sm_ce_eq rfl rfl rfl (sm_up_ne hi)), sm_ce_l (h := (h.1, h.2.1, h.2.2.1, sm_up h.2.2.2 k i.toNatClampNeg x)) hs]
    simp only [sm_up_updL]
  refine va_last f1 f2 f9.2.1 hP.1 (sm_D X h) hS k 1 e rfl hin hdg (fun H1 locs1 hP1 _ hS1 => ?_)
  rw [← e3] at hP1
  exact kk X p l e_ R s m args below meth c H1 locs1 cells slots QQ ls F ⟨hP1, hP.2⟩ hS1 hL hk
theorem wp_alenI {k n : Nat} {r : List (Option Nat)} (v : Int32) (hdg : decode M.2.1 pc = .ok (.arraylength, 1)) (hs : h.1[k]? = some (1, n, r)) (k9 : k < 900) (hv : Int32.ofNat n = v)
    (kk : Wp M d mc ms (pc + 1) lv (.int v :: st) h Q) : Wp M d mc ms pc lv (.ref k :: st) h Q := by
  intro X p l e_ R s m args below meth c H locs cells slots QQ ls F hP hS hL hk
  obtain ⟨f1, f2, f3, f4, f5, f6, f7, f8, f9, f10, f11⟩ := id F
  have e := sm_ws_at (X := X) (sm_lt hs)
  rw [sm_ce_i hs] at e
  show W p l e_ R s m args below meth c H locs cells slots QQ (F0 m pc ls (.ref (sm_G X k) :: st.map (sm_v X)))
  rw [sm_G_lt k9]
  exact va_alen f1 f2 f9.2.1 hP.1 k 0 e rfl hv hdg (kk X p l e_ R s m args below meth c H locs cells slots QQ ls F hP hS hL hk)
theorem wp_alenL {k n : Nat} {r : List (Option Nat)} (v : Int32) (hdg : decode M.2.1 pc = .ok (.arraylength, 1)) (hs : h.1[k]? = some (2, n, r)) (k9 : k < 900) (hv : Int32.ofNat n = v)
    (kk : Wp M d mc ms (pc + 1) lv (.int v :: st) h Q) : Wp M d mc ms pc lv (.ref k :: st) h Q := by
  intro X p l e_ R s m args below meth c H locs cells slots QQ ls F hP hS hL hk
  obtain ⟨f1, f2, f3, f4, f5, f6, f7, f8, f9, f10, f11⟩ := id F
  have e := sm_ws_at (X := X) (sm_lt hs)
  rw [sm_ce_l hs] at e
  show W p l e_ R s m args below meth c H locs cells slots QQ (F0 m pc ls (.ref (sm_G X k) :: st.map (sm_v X)))
  rw [sm_G_lt k9]
  exact va_alen f1 f2 f9.2.1 hP.1 k 1 e rfl hv hdg (kk X p l e_ R s m args below meth c H locs cells slots QQ ls F hP hS hL hk)
theorem wp_alenC {k n : Nat} {r : List (Option Nat)} (v : Int32) (hdg : decode M.2.1 pc = .ok (.arraylength, 1)) (hs : h.1[k]? = some (3, n, r)) (k9 : k < 900) (hv : Int32.ofNat n = v)
    (kk : Wp M d mc ms (pc + 1) lv (.int v :: st) h Q) : Wp M d mc ms pc lv (.ref k :: st) h Q := by
  intro X p l e_ R s m args below meth c H locs cells slots QQ ls F hP hS hL hk
  obtain ⟨f1, f2, f3, f4, f5, f6, f7, f8, f9, f10, f11⟩ := id F
  have e := sm_ws_at (X := X) (sm_lt hs)
  rw [sm_ce_c hs] at e
  show W p l e_ R s m args below meth c H locs cells slots QQ (F0 m pc ls (.ref (sm_G X k) :: st.map (sm_v X)))
  rw [sm_G_lt k9]
  exact va_alen f1 f2 f9.2.1 hP.1 k 2 e rfl hv hdg (kk X p l e_ R s m args below meth c H locs cells slots QQ ls F hP hS hL hk)
end SM2
