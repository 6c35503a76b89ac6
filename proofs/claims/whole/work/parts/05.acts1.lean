/-! WHAT AN ACTION NEEDS AND GIVES -/
theorem pm_pI_e {st r : List Value} {x : Int32} (h : pm_pI st = some (x, r)) : st = .int x :: r := by
  unfold pm_pI at h
  split at h
  · cases h; rfl
  · cases h
theorem pm_pL_e {st r : List Value} {x : Int64} (h : pm_pL st = some (x, r)) : st = .long x :: r := by
  unfold pm_pL at h
  split at h
  · cases h; rfl
  · cases h
theorem pm_pR_e {st r : List Value} {x : Nat} (h : pm_pR st = some (x, r)) : st = .ref x :: r := by
  unfold pm_pR at h
  split at h
  · cases h; rfl
  · cases h
theorem pm_p1_e {st r : List Value} {x : Value} (h : pm_p1 st = some (x, r)) : st = x :: r ∧ x.category = 1 := by
  unfold pm_p1 at h
  split at h
  · split at h
    · cases h; exact ⟨rfl, by assumption⟩
    · cases h
  · cases h
theorem pm_mv_cat (K : pm_K) (v : Value) : (pm_mv K v).category = v.category := by cases v <;> rfl
theorem pm_lg_e : ∀ {ls : pm_LS} {i : Nat} {v : Value}, pm_lg ls i = some v → ls[i]? = some (some v)
  | [], i, v, h => by cases h
  | x :: l, 0, v, h => by
    have h : x = some v := h
    rw [h]; rfl
  | x :: l, n + 1, v, h => by
    rw [List.getElem?_cons_succ]
    exact pm_lg_e (ls := l) h
theorem pm_c2_e {x : Option Value} {v : Value} (h : ¬ pm_c2 x = true) (hx : x = some v) : ¬ v.category = 2 := by
  subst hx
  cases v <;> simp [pm_c2, Value.category] at h ⊢
theorem pm_l1_e : ∀ {ls ls' : pm_LS} {i : Nat} {v : Value}, pm_l1 ls i v = some ls' → i < ls.length ∧ ls'.length = ls.length ∧ (∀ j : Nat, ls'[j]? = if j = i then some (some v) else ls[j]?) ∧ ∀ (j : Nat) (w : Value), j + 1 = i → ls[j]? = some (some w) → ¬ w.category = 2
  | [], _, _, _, h => by cases h
  | x :: l, ls', 0, v, h => by
    have h : some (some v :: l) = some ls' := h
    cases h
    refine ⟨by simp, by simp, fun j => ?_, fun j w hj => by omega⟩
    cases j with
    | zero => rfl
    | succ j => simp
  | x :: l, ls', n + 1, v, h => by
    have h : (if n = 0 ∧ pm_c2 x = true then none else (pm_l1 l n v).map (fun r => x :: r)) = some ls' := h
    by_cases hc : n = 0 ∧ pm_c2 x = true
    · rw [if_pos hc] at h; cases h
    · rw [if_neg hc] at h
      cases hl : pm_l1 l n v with
      | none => rw [hl] at h; cases h
      | some l' =>
        rw [hl] at h
        have h : some (x :: l') = some ls' := h
        cases h
        obtain ⟨h1, h2, h3, h4⟩ := pm_l1_e hl
        refine ⟨by simpa using h1, by simpa using h2, fun j => ?_, fun j w hj hw => ?_⟩
        · cases j with
          | zero => simp
          | succ j => rw [List.getElem?_cons_succ, List.getElem?_cons_succ, h3 j]; simp
        · cases j with
          | zero => exact pm_c2_e (fun q => hc ⟨by omega, q⟩) (Option.some.inj hw)
          | succ j => rw [List.getElem?_cons_succ] at hw; exact h4 j w (by omega) hw
theorem pm_l2_e : ∀ {ls ls' : pm_LS} {i : Nat} {v : Value}, pm_l2 ls i v = some ls' → i + 1 < ls.length ∧ ls'.length = ls.length ∧ (∀ j : Nat, ls'[j]? = if j = i then some (some v) else if j = i + 1 then some none else ls[j]?) ∧ ∀ (j : Nat) (w : Value), j + 1 = i → ls[j]? = some (some w) → ¬ w.category = 2
  | [], _, _, _, h => by simp [pm_l2] at h
  | [x], _, 0, _, h => by simp [pm_l2] at h
  | x :: y :: l, ls', 0, v, h => by
    have h : some (some v :: none :: l) = some ls' := by rw [← h, pm_l2]
    cases h
    refine ⟨by simp, by simp, fun j => ?_, fun j w hj => by omega⟩
    match j with
    | 0 => rfl
    | 1 => rfl
    | j + 2 => simp
  | x :: l, ls', n + 1, v, h => by
    rw [pm_l2] at h
    by_cases hc : n = 0 ∧ pm_c2 x = true
    · rw [if_pos hc] at h; cases h
    · rw [if_neg hc] at h
      cases hl : pm_l2 l n v with
      | none => rw [hl] at h; cases h
      | some l' =>
        rw [hl] at h
        have h : some (x :: l') = some ls' := h
        cases h
        obtain ⟨h1, h2, h3, h4⟩ := pm_l2_e hl
        refine ⟨by simpa using h1, by simpa using h2, fun j => ?_, fun j w hj hw => ?_⟩
        · cases j with
          | zero => simp
          | succ j => rw [List.getElem?_cons_succ, List.getElem?_cons_succ, h3 j]; simp
        · cases j with
          | zero => exact pm_c2_e (fun q => hc ⟨by omega, q⟩) (Option.some.inj hw)
          | succ j => rw [List.getElem?_cons_succ] at hw; exact h4 j w (by omega) hw
/-- what the locals hold, as the kit lists it -/
def pm_en (K : pm_K) (ls : pm_LS) : List (Nat × Value) := (List.range ls.length).filterMap (fun i => (pm_lg ls i).map (fun v => (i, pm_mv K v)))
theorem pm_lg_i : ∀ {ls : pm_LS} {i : Nat} {v : Value}, ls[i]? = some (some v) → pm_lg ls i = some v
  | [], i, v, h => by simp at h
  | x :: l, 0, v, h => by
    have h : some x = some (some v) := h
    exact Option.some.inj h
  | x :: l, n + 1, v, h => by
    rw [List.getElem?_cons_succ] at h
    exact pm_lg_i (ls := l) h
theorem pm_en_mem {K : pm_K} {ls : pm_LS} {i : Nat} {v : Value} (h : ls[i]? = some (some v)) : (i, pm_mv K v) ∈ pm_en K ls := by
  refine List.mem_filterMap.mpr ⟨i, List.mem_range.mpr (List.getElem?_eq_some_iff.mp h).1, ?_⟩
  rw [pm_lg_i h]; rfl
theorem pm_en_has {K : pm_K} {nL : Nat} {ls : pm_LS} {lr : Array Slot} (h : pm_LR K nL ls lr) : lv_has lr nL (pm_en K ls) := by
  refine ⟨h.1, h.2.1, fun q hq => ?_⟩
  obtain ⟨i, -, hi⟩ := List.mem_filterMap.mp hq
  cases hv : pm_lg ls i with
  | none => rw [hv] at hi; cases hi
  | some v =>
    rw [hv] at hi
    have hi : some (i, pm_mv K v) = some q := hi
    cases hi
    exact h.2.2.2 i v (pm_lg_e hv)
theorem pm_LR_1 {K : pm_K} {nL : Nat} {ls ls' : pm_LS} {lr lr' : Array Slot} {i : Nat} {v : Value} (h : pm_LR K nL ls lr) (hl : pm_l1 ls i v = some ls') (h' : lv_has lr' nL ((i, pm_mv K v) :: (pm_en K ls).filter (fun q => !(q.1 == i) && !(q.1 + 1 == i && q.2.category == 2)))) : pm_LR K nL ls' lr' := by
  obtain ⟨h1, h2, h3, h4⟩ := pm_l1_e hl
  refine ⟨h'.1, h'.2.1, by rw [h2]; exact h.2.2.1, fun j w hw => ?_⟩
  rw [h3] at hw
  by_cases hj : j = i
  · rw [if_pos hj] at hw
    cases Option.some.inj hw
    rw [hj]
    exact h'.2.2 (i, pm_mv K v) List.mem_cons_self
  · rw [if_neg hj] at hw
    refine h'.2.2 (j, pm_mv K w) (List.mem_cons_of_mem _ (List.mem_filter.mpr ⟨pm_en_mem hw, ?_⟩))
    have e1 : (j == i) = false := by simpa using hj
    by_cases hj2 : j + 1 = i
    · have e2 : ((pm_mv K w).category == 2) = false := by rw [pm_mv_cat]; simpa using h4 j w hj2 hw
      simp only [e1, e2, Bool.and_false, Bool.not_false, Bool.and_true]
    · have e2 : (j + 1 == i) = false := by simpa using hj2
      simp only [e1, e2, Bool.false_and, Bool.not_false, Bool.and_true]
theorem pm_LR_2 {K : pm_K} {nL : Nat} {ls ls' : pm_LS} {lr lr' : Array Slot} {i : Nat} {v : Value} (h : pm_LR K nL ls lr) (hl : pm_l2 ls i v = some ls') (h' : lv_has lr' nL ((i, pm_mv K v) :: (pm_en K ls).filter (fun q => !(q.1 == i) && (!(q.1 == i + 1) && !(q.1 + 1 == i && q.2.category == 2))))) : pm_LR K nL ls' lr' := by
  obtain ⟨h1, h2, h3, h4⟩ := pm_l2_e hl
  refine ⟨h'.1, h'.2.1, by rw [h2]; exact h.2.2.1, fun j w hw => ?_⟩
  rw [h3] at hw
  by_cases hj : j = i
  · rw [if_pos hj] at hw
    cases Option.some.inj hw
    rw [hj]
    exact h'.2.2 (i, pm_mv K v) List.mem_cons_self
  · rw [if_neg hj] at hw
    by_cases hjj : j = i + 1
    · rw [if_pos hjj] at hw; cases hw
    · rw [if_neg hjj] at hw
      refine h'.2.2 (j, pm_mv K w) (List.mem_cons_of_mem _ (List.mem_filter.mpr ⟨pm_en_mem hw, ?_⟩))
      have e1 : (j == i) = false := by simpa using hj
      have e3 : (j == i + 1) = false := by simpa using hjj
      by_cases hj2 : j + 1 = i
      · have e2 : ((pm_mv K w).category == 2) = false := by rw [pm_mv_cat]; simpa using h4 j w hj2 hw
        simp only [e1, e2, e3, Bool.and_false, Bool.not_false, Bool.and_true]
      · have e2 : (j + 1 == i) = false := by simpa using hj2
        simp only [e1, e2, e3, Bool.false_and, Bool.not_false, Bool.and_true]
theorem pm_LR_lt {K : pm_K} {nL : Nat} {ls : pm_LS} {lr : Array Slot} {i : Nat} (h : pm_LR K nL ls lr) (hi : i < ls.length) : i < nL := Nat.lt_of_lt_of_le hi h.2.2.1

section SM
variable {K : pm_K} {l : Launch} {mt : pm_T} {own : String} {cc : ByteArray} {nL : Nat} {rt : Option FieldType} {pcb : Nat → Nat} {pc : Nat}
theorem sm_iconst {n : Int} {v : Int32} (hd : decode cc pc = .ok (.iconst n, 1)) (hv : Int32.ofInt n = v) : pm_Sim K l mt own cc nL rt pcb pc (pc + 1) (ac_i v) := by
  intro p e R s m args below meth c cells slots Q C ls st h o ho
  obtain ⟨hx, hb, hml, hown, hts, hSt, hJ, hf1, hl1, hc1, hs1⟩ := C
  cases ho
  exact fun G H locs lr hP hS hL => lv_iconst hx hb hd hv (G H locs lr hP hS hL)
theorem sm_bipush {n : Int} {v : Int32} (hd : decode cc pc = .ok (.bipush n, 2)) (hv : (Int8.ofInt n).toInt32 = v) : pm_Sim K l mt own cc nL rt pcb pc (pc + 2) (ac_i v) := by
  intro p e R s m args below meth c cells slots Q C ls st h o ho
  obtain ⟨hx, hb, hml, hown, hts, hSt, hJ, hf1, hl1, hc1, hs1⟩ := C
  cases ho
  exact fun G H locs lr hP hS hL => lv_bipush hx hb hd hv (G H locs lr hP hS hL)
theorem sm_sipush {n : Int} {v : Int32} (hd : decode cc pc = .ok (.sipush n, 3)) (hv : (Int16.ofInt n).toInt32 = v) : pm_Sim K l mt own cc nL rt pcb pc (pc + 3) (ac_i v) := by
  intro p e R s m args below meth c cells slots Q C ls st h o ho
  obtain ⟨hx, hb, hml, hown, hts, hSt, hJ, hf1, hl1, hc1, hs1⟩ := C
  cases ho
  exact fun G H locs lr hP hS hL => lv_sipush hx hb hd hv (G H locs lr hP hS hL)
theorem sm_lconst {n : Fin 2} {v : Int64} (hd : decode cc pc = .ok (.lconst n, 1)) (hv : Int64.ofNat (n : Nat) = v) : pm_Sim K l mt own cc nL rt pcb pc (pc + 1) (ac_l v) := by
  intro p e R s m args below meth c cells slots Q C ls st h o ho
  obtain ⟨hx, hb, hml, hown, hts, hSt, hJ, hf1, hl1, hc1, hs1⟩ := C
  cases ho
  exact fun G H locs lr hP hS hL => lv_lconst hx hb hd hv (G H locs lr hP hS hL)
theorem sm_ldc {n : Nat} {v : Int32} (hd : decode cc pc = .ok (.ldc n, 2)) (hw : Cond.constant own n v ∈ pm_big) : pm_Sim K l mt own cc nL rt pcb pc (pc + 2) (ac_i v) := by
  intro p e R s m args below meth c cells slots Q C ls st h o ho
  obtain ⟨hx, hb, hml, hown, hts, hSt, hJ, hf1, hl1, hc1, hs1⟩ := C
  cases ho
  exact fun G H locs lr hP hS hL => lv_ldc hx hb hown (hts _ hw) hd (G H locs lr hP hS hL)
theorem sm_ldcw {n : Nat} {v : Int32} (hd : decode cc pc = .ok (.ldc_w n, 3)) (hw : Cond.constant own n v ∈ pm_big) : pm_Sim K l mt own cc nL rt pcb pc (pc + 3) (ac_i v) := by
  intro p e R s m args below meth c cells slots Q C ls st h o ho
  obtain ⟨hx, hb, hml, hown, hts, hSt, hJ, hf1, hl1, hc1, hs1⟩ := C
  cases ho
  exact fun G H locs lr hP hS hL => lv_ldcw hx hb hown (hts _ hw) hd (G H locs lr hP hS hL)
theorem sm_ldc2 {n : Nat} {v : Int64} (hd : decode cc pc = .ok (.ldc2_w n, 3)) (hw : Cond.constantLong own n v ∈ pm_big) : pm_Sim K l mt own cc nL rt pcb pc (pc + 3) (ac_l v) := by
  intro p e R s m args below meth c cells slots Q C ls st h o ho
  obtain ⟨hx, hb, hml, hown, hts, hSt, hJ, hf1, hl1, hc1, hs1⟩ := C
  cases ho
  exact fun G H locs lr hP hS hL => lv_ldc2 hx hb hown (hts _ hw) hd (G H locs lr hP hS hL)
theorem sm_null (hd : decode cc pc = .ok (.aconst_null, 1)) : pm_Sim K l mt own cc nL rt pcb pc (pc + 1) (ac_v .null) := by
  intro p e R s m args below meth c cells slots Q C ls st h o ho
  obtain ⟨hx, hb, hml, hown, hts, hSt, hJ, hf1, hl1, hc1, hs1⟩ := C
  cases ho
  exact fun G H locs lr hP hS hL => lv_null hx hb hd (G H locs lr hP hS hL)
theorem sm_ldcS {n j i : Nat} {tx : String} (hd : decode cc pc = .ok (.ldc n, 2)) (hj : pm_tR[j]? = some (own, n, tx, i)) : pm_Sim K l mt own cc nL rt pcb pc (pc + 2) (ac_v (.ref i)) := by
  intro p e R s m args below meth c cells slots Q C ls st h o ho
  obtain ⟨hx, hb, hml, hown, hts, hSt, hJ, hf1, hl1, hc1, hs1⟩ := C
  cases ho
  exact fun G H locs lr hP hS hL => va_ldcS hx hb hown (hSt.2.2.2.1 j _ hj) hd (G H locs lr hP hS hL)
theorem ac_ild_e {i : Nat} {ls : pm_LS} {st : List Value} {h : pm_HP} {o : pm_Out} (ho : ac_ild i ls st h = some o) : ∃ x : Int32, ls[i]? = some (some (.int x)) ∧ o = .inl (ls, .int x :: st, h) := by
  unfold ac_ild at ho
  split at ho
  · cases ho; exact ⟨_, pm_lg_e (by assumption), rfl⟩
  · cases ho
theorem ac_lld_e {i : Nat} {ls : pm_LS} {st : List Value} {h : pm_HP} {o : pm_Out} (ho : ac_lld i ls st h = some o) : ∃ x : Int64, ls[i]? = some (some (.long x)) ∧ o = .inl (ls, .long x :: st, h) := by
  unfold ac_lld at ho
  split at ho
  · cases ho; exact ⟨_, pm_lg_e (by assumption), rfl⟩
  · cases ho
theorem sm_iload_n {k : Fin 4} {i : Nat} (hd : decode cc pc = .ok (.iload_n k, 1)) (hi : (k : Nat) = i) : pm_Sim K l mt own cc nL rt pcb pc (pc + 1) (ac_ild i) := by
  intro p e R s m args below meth c cells slots Q C ls st h o ho
  obtain ⟨hx, hb, hml, hown, hts, hSt, hJ, hf1, hl1, hc1, hs1⟩ := C
  obtain ⟨x, hl, rfl⟩ := ac_ild_e ho
  exact fun G H locs lr hP hS hL => lv_iload_n hx hb hd hi (hL.2.2.2 i _ hl) (G H locs lr hP hS hL)
theorem sm_iload {i : Nat} (hd : decode cc pc = .ok (.iload i, 2)) : pm_Sim K l mt own cc nL rt pcb pc (pc + 2) (ac_ild i) := by
  intro p e R s m args below meth c cells slots Q C ls st h o ho
  obtain ⟨hx, hb, hml, hown, hts, hSt, hJ, hf1, hl1, hc1, hs1⟩ := C
  obtain ⟨x, hl, rfl⟩ := ac_ild_e ho
  exact fun G H locs lr hP hS hL => lv_iload hx hb hd (hL.2.2.2 i _ hl) (G H locs lr hP hS hL)
theorem sm_lload_n {k : Fin 4} {i : Nat} (hd : decode cc pc = .ok (.lload_n k, 1)) (hi : (k : Nat) = i) : pm_Sim K l mt own cc nL rt pcb pc (pc + 1) (ac_lld i) := by
  intro p e R s m args below meth c cells slots Q C ls st h o ho
  obtain ⟨hx, hb, hml, hown, hts, hSt, hJ, hf1, hl1, hc1, hs1⟩ := C
  obtain ⟨x, hl, rfl⟩ := ac_lld_e ho
  exact fun G H locs lr hP hS hL => lv_lload_n hx hb hd hi (hL.2.2.2 i _ hl) (G H locs lr hP hS hL)
theorem sm_lload {i : Nat} (hd : decode cc pc = .ok (.lload i, 2)) : pm_Sim K l mt own cc nL rt pcb pc (pc + 2) (ac_lld i) := by
  intro p e R s m args below meth c cells slots Q C ls st h o ho
  obtain ⟨hx, hb, hml, hown, hts, hSt, hJ, hf1, hl1, hc1, hs1⟩ := C
  obtain ⟨x, hl, rfl⟩ := ac_lld_e ho
  exact fun G H locs lr hP hS hL => lv_lload hx hb hd (hL.2.2.2 i _ hl) (G H locs lr hP hS hL)
theorem ac_ald_e {i : Nat} {ls : pm_LS} {st : List Value} {h : pm_HP} {o : pm_Out} (ho : ac_ald i ls st h = some o) : (∃ x : Nat, ls[i]? = some (some (.ref x)) ∧ o = .inl (ls, .ref x :: st, h)) ∨ (ls[i]? = some (some .null) ∧ o = .inl (ls, .null :: st, h)) := by
  unfold ac_ald at ho
  split at ho
  · cases ho; exact Or.inl ⟨_, pm_lg_e (by assumption), rfl⟩
  · cases ho; exact Or.inr ⟨pm_lg_e (by assumption), rfl⟩
  · cases ho
theorem sm_aload_n {k : Fin 4} {i : Nat} (hd : decode cc pc = .ok (.aload_n k, 1)) (hi : (k : Nat) = i) : pm_Sim K l mt own cc nL rt pcb pc (pc + 1) (ac_ald i) := by
  intro p e R s m args below meth c cells slots Q C ls st h o ho
  obtain ⟨hx, hb, hml, hown, hts, hSt, hJ, hf1, hl1, hc1, hs1⟩ := C
  rcases ac_ald_e ho with ⟨x, hl, rfl⟩ | ⟨hl, rfl⟩
  · exact fun G H locs lr hP hS hL => lv_aload_n hx hb hd hi (hL.2.2.2 i _ hl) (G H locs lr hP hS hL)
  · exact fun G H locs lr hP hS hL => lv_aload_nN hx hb hd hi (hL.2.2.2 i _ hl) (G H locs lr hP hS hL)
theorem sm_aload {i : Nat} (hd : decode cc pc = .ok (.aload i, 2)) : pm_Sim K l mt own cc nL rt pcb pc (pc + 2) (ac_ald i) := by
  intro p e R s m args below meth c cells slots Q C ls st h o ho
  obtain ⟨hx, hb, hml, hown, hts, hSt, hJ, hf1, hl1, hc1, hs1⟩ := C
  rcases ac_ald_e ho with ⟨x, hl, rfl⟩ | ⟨hl, rfl⟩
  · exact fun G H locs lr hP hS hL => lv_aload hx hb hd (hL.2.2.2 i _ hl) (G H locs lr hP hS hL)
  · exact fun G H locs lr hP hS hL => lv_aloadN hx hb hd (hL.2.2.2 i _ hl) (G H locs lr hP hS hL)
theorem ac_ist_e {i : Nat} {ls : pm_LS} {st : List Value} {h : pm_HP} {o : pm_Out} (ho : ac_ist i ls st h = some o) : ∃ (x : Int32) (r : List Value) (ls' : pm_LS), st = .int x :: r ∧ pm_l1 ls i (.int x) = some ls' ∧ o = .inl (ls', r, h) := by
  unfold ac_ist at ho
  split at ho
  · split at ho
    · cases ho; exact ⟨_, _, _, pm_pI_e (by assumption), by assumption, rfl⟩
    · cases ho
  · cases ho
theorem ac_lst_e {i : Nat} {ls : pm_LS} {st : List Value} {h : pm_HP} {o : pm_Out} (ho : ac_lst i ls st h = some o) : ∃ (x : Int64) (r : List Value) (ls' : pm_LS), st = .long x :: r ∧ pm_l2 ls i (.long x) = some ls' ∧ o = .inl (ls', r, h) := by
  unfold ac_lst at ho
  split at ho
  · split at ho
    · cases ho; exact ⟨_, _, _, pm_pL_e (by assumption), by assumption, rfl⟩
    · cases ho
  · cases ho
theorem ac_ast_e {i : Nat} {ls : pm_LS} {st : List Value} {h : pm_HP} {o : pm_Out} (ho : ac_ast i ls st h = some o) : (∃ (x : Nat) (r : List Value) (ls' : pm_LS), st = .ref x :: r ∧ pm_l1 ls i (.ref x) = some ls' ∧ o = .inl (ls', r, h)) ∨ ∃ (r : List Value) (ls' : pm_LS), st = .null :: r ∧ pm_l1 ls i .null = some ls' ∧ o = .inl (ls', r, h) := by
  unfold ac_ast at ho
  split at ho
  · split at ho
    · cases ho; exact Or.inl ⟨_, _, _, rfl, by assumption, rfl⟩
    · cases ho
  · split at ho
    · cases ho; exact Or.inr ⟨_, _, rfl, by assumption, rfl⟩
    · cases ho
  · cases ho
theorem sm_istore_n {k : Fin 4} {i : Nat} (hd : decode cc pc = .ok (.istore_n k, 1)) (hi : (k : Nat) = i) : pm_Sim K l mt own cc nL rt pcb pc (pc + 1) (ac_ist i) := by
  intro p e R s m args below meth c cells slots Q C ls st h o ho
  obtain ⟨hx, hb, hml, hown, hts, hSt, hJ, hf1, hl1, hc1, hs1⟩ := C
  obtain ⟨x, r, ls', rfl, hl, rfl⟩ := ac_ist_e ho
  exact fun G H locs lr hP hS hL => lv_istore_n hx hb hd hi (pm_en_has hL) (pm_LR_lt hL (pm_l1_e hl).1) rfl (fun lr' h' => G H locs lr' hP hS (pm_LR_1 hL hl h'))
theorem sm_istore {i : Nat} (hd : decode cc pc = .ok (.istore i, 2)) : pm_Sim K l mt own cc nL rt pcb pc (pc + 2) (ac_ist i) := by
  intro p e R s m args below meth c cells slots Q C ls st h o ho
  obtain ⟨hx, hb, hml, hown, hts, hSt, hJ, hf1, hl1, hc1, hs1⟩ := C
  obtain ⟨x, r, ls', rfl, hl, rfl⟩ := ac_ist_e ho
  exact fun G H locs lr hP hS hL => lv_istore hx hb hd (pm_en_has hL) (pm_LR_lt hL (pm_l1_e hl).1) rfl (fun lr' h' => G H locs lr' hP hS (pm_LR_1 hL hl h'))
theorem sm_lstore_n {k : Fin 4} {i : Nat} (hd : decode cc pc = .ok (.lstore_n k, 1)) (hi : (k : Nat) = i) : pm_Sim K l mt own cc nL rt pcb pc (pc + 1) (ac_lst i) := by
  intro p e R s m args below meth c cells slots Q C ls st h o ho
  obtain ⟨hx, hb, hml, hown, hts, hSt, hJ, hf1, hl1, hc1, hs1⟩ := C
  obtain ⟨x, r, ls', rfl, hl, rfl⟩ := ac_lst_e ho
  exact fun G H locs lr hP hS hL => lv_lstore_n hx hb hd hi (pm_en_has hL) (Nat.lt_of_lt_of_le (pm_l2_e hl).1 hL.2.2.1) rfl (fun lr' h' => G H locs lr' hP hS (pm_LR_2 hL hl h'))
theorem sm_lstore {i : Nat} (hd : decode cc pc = .ok (.lstore i, 2)) : pm_Sim K l mt own cc nL rt pcb pc (pc + 2) (ac_lst i) := by
  intro p e R s m args below meth c cells slots Q C ls st h o ho
  obtain ⟨hx, hb, hml, hown, hts, hSt, hJ, hf1, hl1, hc1, hs1⟩ := C
  obtain ⟨x, r, ls', rfl, hl, rfl⟩ := ac_lst_e ho
  exact fun G H locs lr hP hS hL => lv_lstore hx hb hd (pm_en_has hL) (Nat.lt_of_lt_of_le (pm_l2_e hl).1 hL.2.2.1) rfl (fun lr' h' => G H locs lr' hP hS (pm_LR_2 hL hl h'))
theorem sm_astore_n {k : Fin 4} {i : Nat} (hd : decode cc pc = .ok (.astore_n k, 1)) (hi : (k : Nat) = i) : pm_Sim K l mt own cc nL rt pcb pc (pc + 1) (ac_ast i) := by
  intro p e R s m args below meth c cells slots Q C ls st h o ho
  obtain ⟨hx, hb, hml, hown, hts, hSt, hJ, hf1, hl1, hc1, hs1⟩ := C
  rcases ac_ast_e ho with ⟨x, r, ls', rfl, hl, rfl⟩ | ⟨r, ls', rfl, hl, rfl⟩
  · exact fun G H locs lr hP hS hL => lv_astore_n hx hb hd hi (pm_en_has hL) (pm_LR_lt hL (pm_l1_e hl).1) rfl (fun lr' h' => G H locs lr' hP hS (pm_LR_1 hL hl h'))
  · exact fun G H locs lr hP hS hL => lv_astore_nN hx hb hd hi (pm_en_has hL) (pm_LR_lt hL (pm_l1_e hl).1) rfl (fun lr' h' => G H locs lr' hP hS (pm_LR_1 hL hl h'))
theorem sm_astore {i : Nat} (hd : decode cc pc = .ok (.astore i, 2)) : pm_Sim K l mt own cc nL rt pcb pc (pc + 2) (ac_ast i) := by
  intro p e R s m args below meth c cells slots Q C ls st h o ho
  obtain ⟨hx, hb, hml, hown, hts, hSt, hJ, hf1, hl1, hc1, hs1⟩ := C
  rcases ac_ast_e ho with ⟨x, r, ls', rfl, hl, rfl⟩ | ⟨r, ls', rfl, hl, rfl⟩
  · exact fun G H locs lr hP hS hL => lv_astore hx hb hd (pm_en_has hL) (pm_LR_lt hL (pm_l1_e hl).1) rfl (fun lr' h' => G H locs lr' hP hS (pm_LR_1 hL hl h'))
  · exact fun G H locs lr hP hS hL => lv_astoreN hx hb hd (pm_en_has hL) (pm_LR_lt hL (pm_l1_e hl).1) rfl (fun lr' h' => G H locs lr' hP hS (pm_LR_1 hL hl h'))
theorem ac_inc_e {i : Nat} {n : Int32} {ls : pm_LS} {st : List Value} {h : pm_HP} {o : pm_Out} (ho : ac_inc i n ls st h = some o) : ∃ (x : Int32) (ls' : pm_LS), ls[i]? = some (some (.int x)) ∧ pm_l1 ls i (.int (x + n)) = some ls' ∧ o = .inl (ls', st, h) := by
  unfold ac_inc at ho
  split at ho
  · split at ho
    · cases ho; exact ⟨_, _, pm_lg_e (by assumption), by assumption, rfl⟩
    · cases ho
  · cases ho
theorem sm_iinc {i : Nat} {n : Int} {v : Int32} (hd : decode cc pc = .ok (.iinc i n, 3)) (hv : Int32.ofInt n = v) : pm_Sim K l mt own cc nL rt pcb pc (pc + 3) (ac_inc i v) := by
  intro p e R s m args below meth c cells slots Q C ls st h o ho
  obtain ⟨hx, hb, hml, hown, hts, hSt, hJ, hf1, hl1, hc1, hs1⟩ := C
  obtain ⟨x, ls', hl0, hl, rfl⟩ := ac_inc_e ho
  intro G H locs lr hP hS hL
  obtain ⟨k, hk⟩ := List.getElem?_of_mem (pm_en_mem (K := K) hl0)
  exact lv_iinc hx hb hd (pm_en_has hL) hk (by rw [hv]) (pm_LR_lt hL (pm_l1_e hl).1) rfl (fun lr' h' => G H locs lr' hP hS (pm_LR_1 hL hl h'))
end SM
