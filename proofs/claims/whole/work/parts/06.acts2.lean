/-- where a switch goes: pairs, else d -/
def pm_sf : List (Int32 × Nat) → Nat → Int32 → Nat
  | [], d, _ => d
  | (k, b) :: r, d, x => if x = k then b else pm_sf r d x
def pm_tsOk (pcb : Nat → Nat) (pc : Nat) : Int → List (Int32 × Nat) → List Int → Bool
  | lo, (k, b) :: r, o :: os => decide (k.toInt = lo) && decide ((pc : Int) + o = (pcb b : Int)) && pm_tsOk pcb pc (lo + 1) r os
  | _, [], [] => true
  | _, _, _ => false
def pm_lsOk (pcb : Nat → Nat) (pc : Nat) : List (Int32 × Nat) → List (Int × Int) → Bool
  | (k, b) :: r, (a, o) :: os => decide (k.toInt = a) && decide ((pc : Int) + o = (pcb b : Int)) && pm_lsOk pcb pc r os
  | [], [] => true
  | _, _ => false
theorem pm_sf_out {pcb : Nat → Nat} {pc d : Nat} {x : Int32} : ∀ (ps : List (Int32 × Nat)) (os : List Int) (lo : Int), pm_tsOk pcb pc lo ps os = true → (x.toInt < lo ∨ lo + os.length ≤ x.toInt) → pm_sf ps d x = d
  | [], [], lo, _, _ => rfl
  | [], o :: os, lo, h, _ => by simp [pm_tsOk] at h
  | (k, b) :: r, [], lo, h, _ => by simp [pm_tsOk] at h
  | (k, b) :: r, o :: os, lo, h, hx => by
    simp only [pm_tsOk, Bool.and_eq_true, decide_eq_true_eq] at h
    rw [pm_sf, if_neg]
    · exact pm_sf_out r os (lo + 1) h.2 (by simp only [List.length_cons] at hx; omega)
    · intro e
      rw [e, h.1.1] at hx
      simp only [List.length_cons] at hx
      omega
theorem pm_sf_in {pcb : Nat → Nat} {pc d : Nat} {x : Int32} : ∀ (ps : List (Int32 × Nat)) (os : List Int) (lo : Int), pm_tsOk pcb pc lo ps os = true → ¬ x.toInt < lo → x.toInt < lo + os.length → ∃ off, os[(x.toInt - lo).toNat]? = some off ∧ (pc : Int) + off = (pcb (pm_sf ps d x) : Int)
  | [], [], lo, _, h1, h2 => by simp at h2; omega
  | [], o :: os, lo, h, _, _ => by simp [pm_tsOk] at h
  | (k, b) :: r, [], lo, h, _, _ => by simp [pm_tsOk] at h
  | (k, b) :: r, o :: os, lo, h, h1, h2 => by
    simp only [pm_tsOk, Bool.and_eq_true, decide_eq_true_eq] at h
    by_cases e : x.toInt = lo
    · have ex : x = k := Int32.toInt_inj.mp (by rw [e, h.1.1])
      refine ⟨o, by rw [e]; simp, ?_⟩
      rw [pm_sf, if_pos ex]; exact h.1.2
    · have ex : ¬ x = k := fun q => e (by rw [q, h.1.1])
      obtain ⟨off, g1, g2⟩ := pm_sf_in (d := d) (x := x) r os (lo + 1) h.2 (by omega) (by simp only [List.length_cons] at h2; omega)
      refine ⟨off, ?_, by rw [pm_sf, if_neg ex]; exact g2⟩
      have e2 : (x.toInt - lo).toNat = (x.toInt - (lo + 1)).toNat + 1 := by omega
      rw [e2, List.getElem?_cons_succ]
      exact g1
theorem pm_sf_l {pcb : Nat → Nat} {pc d : Nat} {x : Int32} {dflt : Int} (hdf : (pc : Int) + dflt = (pcb d : Int)) : ∀ (ps : List (Int32 × Nat)) (os : List (Int × Int)), pm_lsOk pcb pc ps os = true → (pc : Int) + Op.lookupswitch.offset os dflt x.toInt = (pcb (pm_sf ps d x) : Int)
  | [], [], _ => hdf
  | [], o :: os, h => by simp [pm_lsOk] at h
  | (k, b) :: r, [], h => by simp [pm_lsOk] at h
  | (k, b) :: r, (a, o) :: os, h => by
    simp only [pm_lsOk, Bool.and_eq_true, decide_eq_true_eq] at h
    by_cases e : x = k
    · rw [pm_sf, if_pos e, Op.lookupswitch.offset_cons, if_pos (by rw [e, h.1.1])]
      exact h.1.2
    · rw [pm_sf, if_neg e, lv_osw e h.1.1]
      exact pm_sf_l hdf r os h.2
def ac_sw (ps : List (Int32 × Nat)) (d : Nat) : pm_Ac := fun ls st h => match pm_pI st with
  | some (x, r) => pm_j (pm_sf ps d x) ls r h
  | none => none
theorem pm_cs_sum (K : pm_K) : ∀ st : List Value, ((st.map (pm_mv K)).map fun v => v.category).sum = pm_cs st
  | [] => rfl
  | v :: st => by
    simp only [List.map_cons, List.sum_cons, pm_cs, pm_mv_cat]
    rw [pm_cs_sum K st]
section SM
variable {K : pm_K} {l : Launch} {mt : pm_T} {own : String} {cc : ByteArray} {nL : Nat} {rt : Option FieldType} {pcb : Nat → Nat} {pc : Nat}
theorem ac_bin_e {f : Int32 → Int32 → Int32} {ls : pm_LS} {st : List Value} {h : pm_HP} {o : pm_Out} (ho : ac_bin f ls st h = some o) : ∃ (x y : Int32) (r : List Value), st = .int y :: .int x :: r ∧ o = .inl (ls, .int (f x y) :: r, h) := by
  unfold ac_bin at ho
  split at ho
  · split at ho
    · cases ho
      rename_i h1 _ _ _ h2
      exact ⟨_, _, _, by rw [pm_pI_e h1, pm_pI_e h2], rfl⟩
    · cases ho
  · cases ho
theorem ac_dv_e {f : Int32 → Int32 → Int32} {ls : pm_LS} {st : List Value} {h : pm_HP} {o : pm_Out} (ho : ac_dv f ls st h = some o) : ∃ (x y : Int32) (r : List Value), st = .int y :: .int x :: r ∧ ¬ y = 0 ∧ o = .inl (ls, .int (f x y) :: r, h) := by
  unfold ac_dv at ho
  split at ho
  · split at ho
    · rename_i h1 _ _ _ h2
      split at ho
      · cases ho
      · cases ho
        exact ⟨_, _, _, by rw [pm_pI_e h1, pm_pI_e h2], by assumption, rfl⟩
    · cases ho
  · cases ho
theorem ac_un_e {f : Int32 → Int32} {ls : pm_LS} {st : List Value} {h : pm_HP} {o : pm_Out} (ho : ac_un f ls st h = some o) : ∃ (x : Int32) (r : List Value), st = .int x :: r ∧ o = .inl (ls, .int (f x) :: r, h) := by
  unfold ac_un at ho
  split at ho
  · cases ho
    rename_i h1
    exact ⟨_, _, pm_pI_e h1, rfl⟩
  · cases ho
theorem ac_lbin_e {f : Int64 → Int64 → Int64} {ls : pm_LS} {st : List Value} {h : pm_HP} {o : pm_Out} (ho : ac_lbin f ls st h = some o) : ∃ (x y : Int64) (r : List Value), st = .long y :: .long x :: r ∧ o = .inl (ls, .long (f x y) :: r, h) := by
  unfold ac_lbin at ho
  split at ho
  · split at ho
    · cases ho
      rename_i h1 _ _ _ h2
      exact ⟨_, _, _, by rw [pm_pL_e h1, pm_pL_e h2], rfl⟩
    · cases ho
  · cases ho
theorem ac_ldv_e {f : Int64 → Int64 → Int64} {ls : pm_LS} {st : List Value} {h : pm_HP} {o : pm_Out} (ho : ac_ldv f ls st h = some o) : ∃ (x y : Int64) (r : List Value), st = .long y :: .long x :: r ∧ ¬ y = 0 ∧ o = .inl (ls, .long (f x y) :: r, h) := by
  unfold ac_ldv at ho
  split at ho
  · split at ho
    · rename_i h1 _ _ _ h2
      split at ho
      · cases ho
      · cases ho
        exact ⟨_, _, _, by rw [pm_pL_e h1, pm_pL_e h2], by assumption, rfl⟩
    · cases ho
  · cases ho
theorem ac_lsh_e {f : Int64 → Int32 → Int64} {ls : pm_LS} {st : List Value} {h : pm_HP} {o : pm_Out} (ho : ac_lsh f ls st h = some o) : ∃ (x : Int64) (y : Int32) (r : List Value), st = .int y :: .long x :: r ∧ o = .inl (ls, .long (f x y) :: r, h) := by
  unfold ac_lsh at ho
  split at ho
  · split at ho
    · cases ho
      rename_i h1 _ _ _ h2
      exact ⟨_, _, _, by rw [pm_pI_e h1, pm_pL_e h2], rfl⟩
    · cases ho
  · cases ho
theorem ac_lcmp_e {ls : pm_LS} {st : List Value} {h : pm_HP} {o : pm_Out} (ho : ac_lcmp ls st h = some o) : ∃ (x y : Int64) (r : List Value), st = .long y :: .long x :: r ∧ o = .inl (ls, .int (lg_cmp x y) :: r, h) := by
  unfold ac_lcmp at ho
  split at ho
  · split at ho
    · cases ho
      rename_i h1 _ _ _ h2
      exact ⟨_, _, _, by rw [pm_pL_e h1, pm_pL_e h2], rfl⟩
    · cases ho
  · cases ho
theorem ac_i2l_e {ls : pm_LS} {st : List Value} {h : pm_HP} {o : pm_Out} (ho : ac_i2l ls st h = some o) : ∃ (x : Int32) (r : List Value), st = .int x :: r ∧ o = .inl (ls, .long x.toInt64 :: r, h) := by
  unfold ac_i2l at ho
  split at ho
  · cases ho
    rename_i h1
    exact ⟨_, _, pm_pI_e h1, rfl⟩
  · cases ho
theorem ac_l2i_e {ls : pm_LS} {st : List Value} {h : pm_HP} {o : pm_Out} (ho : ac_l2i ls st h = some o) : ∃ (x : Int64) (r : List Value), st = .long x :: r ∧ o = .inl (ls, .int x.toInt32 :: r, h) := by
  unfold ac_l2i at ho
  split at ho
  · cases ho
    rename_i h1
    exact ⟨_, _, pm_pL_e h1, rfl⟩
  · cases ho
theorem ac_dup_e {ls : pm_LS} {st : List Value} {h : pm_HP} {o : pm_Out} (ho : ac_dup ls st h = some o) : ∃ (x : Value) (r : List Value), st = x :: r ∧ x.category = 1 ∧ o = .inl (ls, x :: x :: r, h) := by
  unfold ac_dup at ho
  split at ho
  · cases ho
    rename_i h1
    exact ⟨_, _, (pm_p1_e h1).1, (pm_p1_e h1).2, rfl⟩
  · cases ho
theorem ac_dup2_e {ls : pm_LS} {st : List Value} {h : pm_HP} {o : pm_Out} (ho : ac_dup2 ls st h = some o) : ∃ (x y : Value) (r : List Value), st = x :: y :: r ∧ x.category = 1 ∧ y.category = 1 ∧ o = .inl (ls, x :: y :: x :: y :: r, h) := by
  unfold ac_dup2 at ho
  split at ho
  · split at ho
    · cases ho
      rename_i h1 _ _ _ h2
      exact ⟨_, _, _, by rw [(pm_p1_e h1).1, (pm_p1_e h2).1], (pm_p1_e h1).2, (pm_p1_e h2).2, rfl⟩
    · cases ho
  · cases ho
theorem ac_pop_e {ls : pm_LS} {st : List Value} {h : pm_HP} {o : pm_Out} (ho : ac_pop ls st h = some o) : ∃ (x : Value) (r : List Value), st = x :: r ∧ x.category = 1 ∧ o = .inl (ls, r, h) := by
  unfold ac_pop at ho
  split at ho
  · cases ho
    rename_i h1
    exact ⟨_, _, (pm_p1_e h1).1, (pm_p1_e h1).2, rfl⟩
  · cases ho
theorem ac_if0_e {q : Int32 → Bool} {b : Nat} {ls : pm_LS} {st : List Value} {h : pm_HP} {o : pm_Out} (ho : ac_if0 q b ls st h = some o) : ∃ (x : Int32) (r : List Value), st = .int x :: r ∧ ((q x = true ∧ o = .inr (.inl (b, ls, r, h))) ∨ (q x = false ∧ o = .inl (ls, r, h))) := by
  unfold ac_if0 at ho
  split at ho
  · rename_i h1
    split at ho
    · cases ho; exact ⟨_, _, pm_pI_e h1, Or.inl ⟨by assumption, rfl⟩⟩
    · rename_i h2
      cases ho; exact ⟨_, _, pm_pI_e h1, Or.inr ⟨Bool.eq_false_iff.mpr h2, rfl⟩⟩
  · cases ho
theorem ac_if2_e {q : Int32 → Int32 → Bool} {b : Nat} {ls : pm_LS} {st : List Value} {h : pm_HP} {o : pm_Out} (ho : ac_if2 q b ls st h = some o) : ∃ (x y : Int32) (r : List Value), st = .int y :: .int x :: r ∧ ((q x y = true ∧ o = .inr (.inl (b, ls, r, h))) ∨ (q x y = false ∧ o = .inl (ls, r, h))) := by
  unfold ac_if2 at ho
  split at ho
  · split at ho
    · rename_i h1 _ _ _ h2
      split at ho
      · cases ho; exact ⟨_, _, _, by rw [pm_pI_e h1, pm_pI_e h2], Or.inl ⟨by assumption, rfl⟩⟩
      · rename_i h3
        cases ho; exact ⟨_, _, _, by rw [pm_pI_e h1, pm_pI_e h2], Or.inr ⟨Bool.eq_false_iff.mpr h3, rfl⟩⟩
    · cases ho
  · cases ho
theorem ac_sw_e {ps : List (Int32 × Nat)} {d : Nat} {ls : pm_LS} {st : List Value} {h : pm_HP} {o : pm_Out} (ho : ac_sw ps d ls st h = some o) : ∃ (x : Int32) (r : List Value), st = .int x :: r ∧ o = .inr (.inl (pm_sf ps d x, ls, r, h)) := by
  unfold ac_sw at ho
  split at ho
  · cases ho
    rename_i h1
    exact ⟨_, _, pm_pI_e h1, rfl⟩
  · cases ho
theorem ac_m1_e {f : Int32 → Int32} {ls : pm_LS} {st : List Value} {h : pm_HP} {o : pm_Out} (ho : ac_m1 f ls st h = some o) : ∃ (x : Int32) (r : List Value), st = .int x :: r ∧ pm_cs r ≤ 8 ∧ o = .inl (ls, .int (f x) :: r, h) := by
  unfold ac_m1 at ho
  split at ho
  · rename_i h1
    split at ho
    · cases ho; exact ⟨_, _, pm_pI_e h1, by assumption, rfl⟩
    · cases ho
  · cases ho
theorem ac_m2_e {f : Int32 → Int32 → Int32} {ls : pm_LS} {st : List Value} {h : pm_HP} {o : pm_Out} (ho : ac_m2 f ls st h = some o) : ∃ (x y : Int32) (r : List Value), st = .int y :: .int x :: r ∧ pm_cs r ≤ 8 ∧ o = .inl (ls, .int (f x y) :: r, h) := by
  unfold ac_m2 at ho
  split at ho
  · split at ho
    · rename_i h1 _ _ _ h2
      split at ho
      · cases ho; exact ⟨_, _, _, by rw [pm_pI_e h1, pm_pI_e h2], by assumption, rfl⟩
      · cases ho
    · cases ho
  · cases ho
theorem ac_ml_e {f : Int64 → Int64} {ls : pm_LS} {st : List Value} {h : pm_HP} {o : pm_Out} (ho : ac_ml f ls st h = some o) : ∃ (x : Int64) (r : List Value), st = .long x :: r ∧ pm_cs r ≤ 8 ∧ o = .inl (ls, .long (f x) :: r, h) := by
  unfold ac_ml at ho
  split at ho
  · rename_i h1
    split at ho
    · cases ho; exact ⟨_, _, pm_pL_e h1, by assumption, rfl⟩
    · cases ho
  · cases ho
theorem sm_iadd (hd : decode cc pc = .ok (.iadd, 1)) : pm_Sim K l mt own cc nL rt pcb pc (pc + 1) (ac_bin (fun x y => x + y)) := by
  intro p e R s m args below meth c cells slots Q C ls st h o ho
  obtain ⟨hx, hb, hml, hown, hts, hSt, hJ, hf1, hl1, hc1, hs1⟩ := C
  obtain ⟨x, y, r, rfl, rfl⟩ := ac_bin_e ho
  exact fun G H locs lr hP hS hL => lv_iadd hx hb hd (G H locs lr hP hS hL)
theorem sm_isub (hd : decode cc pc = .ok (.isub, 1)) : pm_Sim K l mt own cc nL rt pcb pc (pc + 1) (ac_bin (fun x y => x - y)) := by
  intro p e R s m args below meth c cells slots Q C ls st h o ho
  obtain ⟨hx, hb, hml, hown, hts, hSt, hJ, hf1, hl1, hc1, hs1⟩ := C
  obtain ⟨x, y, r, rfl, rfl⟩ := ac_bin_e ho
  exact fun G H locs lr hP hS hL => lv_isub hx hb hd (G H locs lr hP hS hL)
theorem sm_imul (hd : decode cc pc = .ok (.imul, 1)) : pm_Sim K l mt own cc nL rt pcb pc (pc + 1) (ac_bin (fun x y => x * y)) := by
  intro p e R s m args below meth c cells slots Q C ls st h o ho
  obtain ⟨hx, hb, hml, hown, hts, hSt, hJ, hf1, hl1, hc1, hs1⟩ := C
  obtain ⟨x, y, r, rfl, rfl⟩ := ac_bin_e ho
  exact fun G H locs lr hP hS hL => lv_imul hx hb hd (G H locs lr hP hS hL)
theorem sm_iand (hd : decode cc pc = .ok (.iand, 1)) : pm_Sim K l mt own cc nL rt pcb pc (pc + 1) (ac_bin (fun x y => x &&& y)) := by
  intro p e R s m args below meth c cells slots Q C ls st h o ho
  obtain ⟨hx, hb, hml, hown, hts, hSt, hJ, hf1, hl1, hc1, hs1⟩ := C
  obtain ⟨x, y, r, rfl, rfl⟩ := ac_bin_e ho
  exact fun G H locs lr hP hS hL => lv_iand hx hb hd (G H locs lr hP hS hL)
theorem sm_ior (hd : decode cc pc = .ok (.ior, 1)) : pm_Sim K l mt own cc nL rt pcb pc (pc + 1) (ac_bin (fun x y => x ||| y)) := by
  intro p e R s m args below meth c cells slots Q C ls st h o ho
  obtain ⟨hx, hb, hml, hown, hts, hSt, hJ, hf1, hl1, hc1, hs1⟩ := C
  obtain ⟨x, y, r, rfl, rfl⟩ := ac_bin_e ho
  exact fun G H locs lr hP hS hL => lv_ior hx hb hd (G H locs lr hP hS hL)
theorem sm_ixor (hd : decode cc pc = .ok (.ixor, 1)) : pm_Sim K l mt own cc nL rt pcb pc (pc + 1) (ac_bin (fun x y => x ^^^ y)) := by
  intro p e R s m args below meth c cells slots Q C ls st h o ho
  obtain ⟨hx, hb, hml, hown, hts, hSt, hJ, hf1, hl1, hc1, hs1⟩ := C
  obtain ⟨x, y, r, rfl, rfl⟩ := ac_bin_e ho
  exact fun G H locs lr hP hS hL => lv_ixor hx hb hd (G H locs lr hP hS hL)
theorem sm_ishl (hd : decode cc pc = .ok (.ishl, 1)) : pm_Sim K l mt own cc nL rt pcb pc (pc + 1) (ac_bin (fun x y => x <<< (y &&& 31))) := by
  intro p e R s m args below meth c cells slots Q C ls st h o ho
  obtain ⟨hx, hb, hml, hown, hts, hSt, hJ, hf1, hl1, hc1, hs1⟩ := C
  obtain ⟨x, y, r, rfl, rfl⟩ := ac_bin_e ho
  exact fun G H locs lr hP hS hL => lv_ishl hx hb hd (G H locs lr hP hS hL)
theorem sm_ishr (hd : decode cc pc = .ok (.ishr, 1)) : pm_Sim K l mt own cc nL rt pcb pc (pc + 1) (ac_bin (fun x y => x >>> (y &&& 31))) := by
  intro p e R s m args below meth c cells slots Q C ls st h o ho
  obtain ⟨hx, hb, hml, hown, hts, hSt, hJ, hf1, hl1, hc1, hs1⟩ := C
  obtain ⟨x, y, r, rfl, rfl⟩ := ac_bin_e ho
  exact fun G H locs lr hP hS hL => lv_ishr hx hb hd (G H locs lr hP hS hL)
theorem sm_iushr (hd : decode cc pc = .ok (.iushr, 1)) : pm_Sim K l mt own cc nL rt pcb pc (pc + 1) (ac_bin (fun x y => (x.toUInt32 >>> (y.toUInt32 &&& Int32.toUInt32 31)).toInt32)) := by
  intro p e R s m args below meth c cells slots Q C ls st h o ho
  obtain ⟨hx, hb, hml, hown, hts, hSt, hJ, hf1, hl1, hc1, hs1⟩ := C
  obtain ⟨x, y, r, rfl, rfl⟩ := ac_bin_e ho
  exact fun G H locs lr hP hS hL => lv_iushr hx hb hd rfl (G H locs lr hP hS hL)
theorem sm_ladd (hd : decode cc pc = .ok (.ladd, 1)) : pm_Sim K l mt own cc nL rt pcb pc (pc + 1) (ac_lbin (fun x y => x + y)) := by
  intro p e R s m args below meth c cells slots Q C ls st h o ho
  obtain ⟨hx, hb, hml, hown, hts, hSt, hJ, hf1, hl1, hc1, hs1⟩ := C
  obtain ⟨x, y, r, rfl, rfl⟩ := ac_lbin_e ho
  exact fun G H locs lr hP hS hL => lv_ladd hx hb hd (G H locs lr hP hS hL)
theorem sm_lsub (hd : decode cc pc = .ok (.lsub, 1)) : pm_Sim K l mt own cc nL rt pcb pc (pc + 1) (ac_lbin (fun x y => x - y)) := by
  intro p e R s m args below meth c cells slots Q C ls st h o ho
  obtain ⟨hx, hb, hml, hown, hts, hSt, hJ, hf1, hl1, hc1, hs1⟩ := C
  obtain ⟨x, y, r, rfl, rfl⟩ := ac_lbin_e ho
  exact fun G H locs lr hP hS hL => lv_lsub hx hb hd (G H locs lr hP hS hL)
theorem sm_lmul (hd : decode cc pc = .ok (.lmul, 1)) : pm_Sim K l mt own cc nL rt pcb pc (pc + 1) (ac_lbin (fun x y => x * y)) := by
  intro p e R s m args below meth c cells slots Q C ls st h o ho
  obtain ⟨hx, hb, hml, hown, hts, hSt, hJ, hf1, hl1, hc1, hs1⟩ := C
  obtain ⟨x, y, r, rfl, rfl⟩ := ac_lbin_e ho
  exact fun G H locs lr hP hS hL => lv_lmul hx hb hd (G H locs lr hP hS hL)
theorem sm_land (hd : decode cc pc = .ok (.land, 1)) : pm_Sim K l mt own cc nL rt pcb pc (pc + 1) (ac_lbin (fun x y => x &&& y)) := by
  intro p e R s m args below meth c cells slots Q C ls st h o ho
  obtain ⟨hx, hb, hml, hown, hts, hSt, hJ, hf1, hl1, hc1, hs1⟩ := C
  obtain ⟨x, y, r, rfl, rfl⟩ := ac_lbin_e ho
  exact fun G H locs lr hP hS hL => lv_land hx hb hd (G H locs lr hP hS hL)
theorem sm_lor (hd : decode cc pc = .ok (.lor, 1)) : pm_Sim K l mt own cc nL rt pcb pc (pc + 1) (ac_lbin (fun x y => x ||| y)) := by
  intro p e R s m args below meth c cells slots Q C ls st h o ho
  obtain ⟨hx, hb, hml, hown, hts, hSt, hJ, hf1, hl1, hc1, hs1⟩ := C
  obtain ⟨x, y, r, rfl, rfl⟩ := ac_lbin_e ho
  exact fun G H locs lr hP hS hL => lv_lor hx hb hd (G H locs lr hP hS hL)
theorem sm_lxor (hd : decode cc pc = .ok (.lxor, 1)) : pm_Sim K l mt own cc nL rt pcb pc (pc + 1) (ac_lbin (fun x y => x ^^^ y)) := by
  intro p e R s m args below meth c cells slots Q C ls st h o ho
  obtain ⟨hx, hb, hml, hown, hts, hSt, hJ, hf1, hl1, hc1, hs1⟩ := C
  obtain ⟨x, y, r, rfl, rfl⟩ := ac_lbin_e ho
  exact fun G H locs lr hP hS hL => lv_lxor hx hb hd (G H locs lr hP hS hL)
theorem sm_lushr (hd : decode cc pc = .ok (.lushr, 1)) : pm_Sim K l mt own cc nL rt pcb pc (pc + 1) (ac_lsh (fun x y => (x.toUInt64 >>> (y.toInt64.toUInt64 &&& Int64.toUInt64 63)).toInt64)) := by
  intro p e R s m args below meth c cells slots Q C ls st h o ho
  obtain ⟨hx, hb, hml, hown, hts, hSt, hJ, hf1, hl1, hc1, hs1⟩ := C
  obtain ⟨x, y, r, rfl, rfl⟩ := ac_lsh_e ho
  exact fun G H locs lr hP hS hL => lv_lushr hx hb hd rfl (G H locs lr hP hS hL)
theorem sm_lshr (hd : decode cc pc = .ok (.lshr, 1)) : pm_Sim K l mt own cc nL rt pcb pc (pc + 1) (ac_lsh (fun x y => x >>> (y.toInt64 &&& 63))) := by
  intro p e R s m args below meth c cells slots Q C ls st h o ho
  obtain ⟨hx, hb, hml, hown, hts, hSt, hJ, hf1, hl1, hc1, hs1⟩ := C
  obtain ⟨x, y, r, rfl, rfl⟩ := ac_lsh_e ho
  exact fun G H locs lr hP hS hL => lv_lshr hx hb hd rfl (G H locs lr hP hS hL)
theorem sm_idiv (hd : decode cc pc = .ok (.idiv, 1)) : pm_Sim K l mt own cc nL rt pcb pc (pc + 1) (ac_dv (fun x y => x / y)) := by
  intro p e R s m args below meth c cells slots Q C ls st h o ho
  obtain ⟨hx, hb, hml, hown, hts, hSt, hJ, hf1, hl1, hc1, hs1⟩ := C
  obtain ⟨x, y, r, rfl, hne, rfl⟩ := ac_dv_e ho
  exact fun G H locs lr hP hS hL => lv_idiv hx hb hd hne (G H locs lr hP hS hL)
theorem sm_irem (hd : decode cc pc = .ok (.irem, 1)) : pm_Sim K l mt own cc nL rt pcb pc (pc + 1) (ac_dv (fun x y => x - x / y * y)) := by
  intro p e R s m args below meth c cells slots Q C ls st h o ho
  obtain ⟨hx, hb, hml, hown, hts, hSt, hJ, hf1, hl1, hc1, hs1⟩ := C
  obtain ⟨x, y, r, rfl, hne, rfl⟩ := ac_dv_e ho
  exact fun G H locs lr hP hS hL => lv_irem hx hb hd hne (G H locs lr hP hS hL)
theorem sm_ldiv (hd : decode cc pc = .ok (.ldiv, 1)) : pm_Sim K l mt own cc nL rt pcb pc (pc + 1) (ac_ldv (fun x y => x / y)) := by
  intro p e R s m args below meth c cells slots Q C ls st h o ho
  obtain ⟨hx, hb, hml, hown, hts, hSt, hJ, hf1, hl1, hc1, hs1⟩ := C
  obtain ⟨x, y, r, rfl, hne, rfl⟩ := ac_ldv_e ho
  exact fun G H locs lr hP hS hL => lv_ldiv hx hb hd hne (G H locs lr hP hS hL)
theorem sm_lrem (hd : decode cc pc = .ok (.lrem, 1)) : pm_Sim K l mt own cc nL rt pcb pc (pc + 1) (ac_ldv (fun x y => x - x / y * y)) := by
  intro p e R s m args below meth c cells slots Q C ls st h o ho
  obtain ⟨hx, hb, hml, hown, hts, hSt, hJ, hf1, hl1, hc1, hs1⟩ := C
  obtain ⟨x, y, r, rfl, hne, rfl⟩ := ac_ldv_e ho
  exact fun G H locs lr hP hS hL => lv_lrem hx hb hd hne (G H locs lr hP hS hL)
theorem sm_ineg (hd : decode cc pc = .ok (.ineg, 1)) : pm_Sim K l mt own cc nL rt pcb pc (pc + 1) (ac_un (fun x => -x)) := by
  intro p e R s m args below meth c cells slots Q C ls st h o ho
  obtain ⟨hx, hb, hml, hown, hts, hSt, hJ, hf1, hl1, hc1, hs1⟩ := C
  obtain ⟨x, r, rfl, rfl⟩ := ac_un_e ho
  exact fun G H locs lr hP hS hL => lv_ineg hx hb hd (G H locs lr hP hS hL)
theorem sm_i2b (hd : decode cc pc = .ok (.i2b, 1)) : pm_Sim K l mt own cc nL rt pcb pc (pc + 1) (ac_un (fun x => x.toInt8.toInt32)) := by
  intro p e R s m args below meth c cells slots Q C ls st h o ho
  obtain ⟨hx, hb, hml, hown, hts, hSt, hJ, hf1, hl1, hc1, hs1⟩ := C
  obtain ⟨x, r, rfl, rfl⟩ := ac_un_e ho
  exact fun G H locs lr hP hS hL => lv_i2b hx hb hd rfl (G H locs lr hP hS hL)
theorem sm_i2s (hd : decode cc pc = .ok (.i2s, 1)) : pm_Sim K l mt own cc nL rt pcb pc (pc + 1) (ac_un (fun x => x.toInt16.toInt32)) := by
  intro p e R s m args below meth c cells slots Q C ls st h o ho
  obtain ⟨hx, hb, hml, hown, hts, hSt, hJ, hf1, hl1, hc1, hs1⟩ := C
  obtain ⟨x, r, rfl, rfl⟩ := ac_un_e ho
  exact fun G H locs lr hP hS hL => lv_i2s hx hb hd rfl (G H locs lr hP hS hL)
theorem sm_i2c (hd : decode cc pc = .ok (.i2c, 1)) : pm_Sim K l mt own cc nL rt pcb pc (pc + 1) (ac_un (fun x => (x.toUInt32 % 65536).toInt32)) := by
  intro p e R s m args below meth c cells slots Q C ls st h o ho
  obtain ⟨hx, hb, hml, hown, hts, hSt, hJ, hf1, hl1, hc1, hs1⟩ := C
  obtain ⟨x, r, rfl, rfl⟩ := ac_un_e ho
  exact fun G H locs lr hP hS hL => lv_i2c hx hb hd rfl (G H locs lr hP hS hL)
theorem sm_lcmp (hd : decode cc pc = .ok (.lcmp, 1)) : pm_Sim K l mt own cc nL rt pcb pc (pc + 1) (ac_lcmp) := by
  intro p e R s m args below meth c cells slots Q C ls st h o ho
  obtain ⟨hx, hb, hml, hown, hts, hSt, hJ, hf1, hl1, hc1, hs1⟩ := C
  obtain ⟨x, y, r, rfl, rfl⟩ := ac_lcmp_e ho
  exact fun G H locs lr hP hS hL => W.lcmp hx hb hd (G H locs lr hP hS hL)
theorem sm_i2l (hd : decode cc pc = .ok (.i2l, 1)) : pm_Sim K l mt own cc nL rt pcb pc (pc + 1) (ac_i2l) := by
  intro p e R s m args below meth c cells slots Q C ls st h o ho
  obtain ⟨hx, hb, hml, hown, hts, hSt, hJ, hf1, hl1, hc1, hs1⟩ := C
  obtain ⟨x, r, rfl, rfl⟩ := ac_i2l_e ho
  exact fun G H locs lr hP hS hL => lv_i2l hx hb hd rfl (G H locs lr hP hS hL)
theorem sm_l2i (hd : decode cc pc = .ok (.l2i, 1)) : pm_Sim K l mt own cc nL rt pcb pc (pc + 1) (ac_l2i) := by
  intro p e R s m args below meth c cells slots Q C ls st h o ho
  obtain ⟨hx, hb, hml, hown, hts, hSt, hJ, hf1, hl1, hc1, hs1⟩ := C
  obtain ⟨x, r, rfl, rfl⟩ := ac_l2i_e ho
  exact fun G H locs lr hP hS hL => lv_l2i hx hb hd rfl (G H locs lr hP hS hL)
theorem sm_dup (hd : decode cc pc = .ok (.dup, 1)) : pm_Sim K l mt own cc nL rt pcb pc (pc + 1) (ac_dup) := by
  intro p e R s m args below meth c cells slots Q C ls st h o ho
  obtain ⟨hx, hb, hml, hown, hts, hSt, hJ, hf1, hl1, hc1, hs1⟩ := C
  obtain ⟨x, r, rfl, hc, rfl⟩ := ac_dup_e ho
  exact fun G H locs lr hP hS hL => lv_dup hx hb hd ((pm_mv_cat K x).trans hc) (G H locs lr hP hS hL)
theorem sm_dup2 (hd : decode cc pc = .ok (.dup2, 1)) : pm_Sim K l mt own cc nL rt pcb pc (pc + 1) (ac_dup2) := by
  intro p e R s m args below meth c cells slots Q C ls st h o ho
  obtain ⟨hx, hb, hml, hown, hts, hSt, hJ, hf1, hl1, hc1, hs1⟩ := C
  obtain ⟨x, y, r, rfl, hc, hc2, rfl⟩ := ac_dup2_e ho
  exact fun G H locs lr hP hS hL => lv_dup2_11 hx hb hd ((pm_mv_cat K x).trans hc) ((pm_mv_cat K y).trans hc2) (G H locs lr hP hS hL)
theorem sm_pop (hd : decode cc pc = .ok (.pop, 1)) : pm_Sim K l mt own cc nL rt pcb pc (pc + 1) (ac_pop) := by
  intro p e R s m args below meth c cells slots Q C ls st h o ho
  obtain ⟨hx, hb, hml, hown, hts, hSt, hJ, hf1, hl1, hc1, hs1⟩ := C
  obtain ⟨x, r, rfl, hc, rfl⟩ := ac_pop_e ho
  exact fun G H locs lr hP hS hL => lv_pop hx hb hd ((pm_mv_cat K x).trans hc) (G H locs lr hP hS hL)
theorem sm_if_eq {b : Nat} {off : Int} (hd : decode cc pc = .ok (.ifCond .eq off, 3)) (ht : (pc : Int) + off = ((pcb b : Nat) : Int)) : pm_Sim K l mt own cc nL rt pcb pc (pc + 3) (ac_if0 (fun x => decide (x = 0)) b) := by
  intro p e R s m args below meth c cells slots Q C ls st h o ho
  obtain ⟨hx, hb, hml, hown, hts, hSt, hJ, hf1, hl1, hc1, hs1⟩ := C
  obtain ⟨x, r, rfl, ⟨hq, rfl⟩ | ⟨hq, rfl⟩⟩ := ac_if0_e ho
  · have hq := of_decide_eq_true hq
    exact fun G H locs lr hP hS hL => lv_if_eq hx hb hd ht (fun _ => G H locs lr hP hS hL) (fun h => absurd hq h)
  · have hq := of_decide_eq_false hq
    exact fun G H locs lr hP hS hL => lv_if_eq hx hb hd ht (fun h => absurd h hq) (fun _ => G H locs lr hP hS hL)
theorem sm_icmp_eq {b : Nat} {off : Int} (hd : decode cc pc = .ok (.if_icmp .eq off, 3)) (ht : (pc : Int) + off = ((pcb b : Nat) : Int)) : pm_Sim K l mt own cc nL rt pcb pc (pc + 3) (ac_if2 (fun x y => decide (x = y)) b) := by
  intro p e R s m args below meth c cells slots Q C ls st h o ho
  obtain ⟨hx, hb, hml, hown, hts, hSt, hJ, hf1, hl1, hc1, hs1⟩ := C
  obtain ⟨x, y, r, rfl, ⟨hq, rfl⟩ | ⟨hq, rfl⟩⟩ := ac_if2_e ho
  · have hq := of_decide_eq_true hq
    exact fun G H locs lr hP hS hL => lv_icmp_eq hx hb hd ht (fun _ => G H locs lr hP hS hL) (fun h => absurd hq h)
  · have hq := of_decide_eq_false hq
    exact fun G H locs lr hP hS hL => lv_icmp_eq hx hb hd ht (fun h => absurd h hq) (fun _ => G H locs lr hP hS hL)
theorem sm_if_ne {b : Nat} {off : Int} (hd : decode cc pc = .ok (.ifCond .ne off, 3)) (ht : (pc : Int) + off = ((pcb b : Nat) : Int)) : pm_Sim K l mt own cc nL rt pcb pc (pc + 3) (ac_if0 (fun x => decide (¬ x = 0)) b) := by
  intro p e R s m args below meth c cells slots Q C ls st h o ho
  obtain ⟨hx, hb, hml, hown, hts, hSt, hJ, hf1, hl1, hc1, hs1⟩ := C
  obtain ⟨x, r, rfl, ⟨hq, rfl⟩ | ⟨hq, rfl⟩⟩ := ac_if0_e ho
  · have hq := of_decide_eq_true hq
    exact fun G H locs lr hP hS hL => lv_if_ne hx hb hd ht (fun _ => G H locs lr hP hS hL) (fun h => absurd h hq)
  · have hq := of_decide_eq_false hq
    exact fun G H locs lr hP hS hL => lv_if_ne hx hb hd ht (fun h => absurd h hq) (fun _ => G H locs lr hP hS hL)
theorem sm_icmp_ne {b : Nat} {off : Int} (hd : decode cc pc = .ok (.if_icmp .ne off, 3)) (ht : (pc : Int) + off = ((pcb b : Nat) : Int)) : pm_Sim K l mt own cc nL rt pcb pc (pc + 3) (ac_if2 (fun x y => decide (¬ x = y)) b) := by
  intro p e R s m args below meth c cells slots Q C ls st h o ho
  obtain ⟨hx, hb, hml, hown, hts, hSt, hJ, hf1, hl1, hc1, hs1⟩ := C
  obtain ⟨x, y, r, rfl, ⟨hq, rfl⟩ | ⟨hq, rfl⟩⟩ := ac_if2_e ho
  · have hq := of_decide_eq_true hq
    exact fun G H locs lr hP hS hL => lv_icmp_ne hx hb hd ht (fun _ => G H locs lr hP hS hL) (fun h => absurd h hq)
  · have hq := of_decide_eq_false hq
    exact fun G H locs lr hP hS hL => lv_icmp_ne hx hb hd ht (fun h => absurd h hq) (fun _ => G H locs lr hP hS hL)
theorem sm_if_lt {b : Nat} {off : Int} (hd : decode cc pc = .ok (.ifCond .lt off, 3)) (ht : (pc : Int) + off = ((pcb b : Nat) : Int)) : pm_Sim K l mt own cc nL rt pcb pc (pc + 3) (ac_if0 (fun x => decide (x < 0)) b) := by
  intro p e R s m args below meth c cells slots Q C ls st h o ho
  obtain ⟨hx, hb, hml, hown, hts, hSt, hJ, hf1, hl1, hc1, hs1⟩ := C
  obtain ⟨x, r, rfl, ⟨hq, rfl⟩ | ⟨hq, rfl⟩⟩ := ac_if0_e ho
  · have hq := of_decide_eq_true hq
    exact fun G H locs lr hP hS hL => lv_if_lt hx hb hd ht (fun _ => G H locs lr hP hS hL) (fun h => absurd hq h)
  · have hq := of_decide_eq_false hq
    exact fun G H locs lr hP hS hL => lv_if_lt hx hb hd ht (fun h => absurd h hq) (fun _ => G H locs lr hP hS hL)
theorem sm_icmp_lt {b : Nat} {off : Int} (hd : decode cc pc = .ok (.if_icmp .lt off, 3)) (ht : (pc : Int) + off = ((pcb b : Nat) : Int)) : pm_Sim K l mt own cc nL rt pcb pc (pc + 3) (ac_if2 (fun x y => decide (x < y)) b) := by
  intro p e R s m args below meth c cells slots Q C ls st h o ho
  obtain ⟨hx, hb, hml, hown, hts, hSt, hJ, hf1, hl1, hc1, hs1⟩ := C
  obtain ⟨x, y, r, rfl, ⟨hq, rfl⟩ | ⟨hq, rfl⟩⟩ := ac_if2_e ho
  · have hq := of_decide_eq_true hq
    exact fun G H locs lr hP hS hL => lv_icmp_lt hx hb hd ht (fun _ => G H locs lr hP hS hL) (fun h => absurd hq h)
  · have hq := of_decide_eq_false hq
    exact fun G H locs lr hP hS hL => lv_icmp_lt hx hb hd ht (fun h => absurd h hq) (fun _ => G H locs lr hP hS hL)
theorem sm_if_ge {b : Nat} {off : Int} (hd : decode cc pc = .ok (.ifCond .ge off, 3)) (ht : (pc : Int) + off = ((pcb b : Nat) : Int)) : pm_Sim K l mt own cc nL rt pcb pc (pc + 3) (ac_if0 (fun x => decide (0 ≤ x)) b) := by
  intro p e R s m args below meth c cells slots Q C ls st h o ho
  obtain ⟨hx, hb, hml, hown, hts, hSt, hJ, hf1, hl1, hc1, hs1⟩ := C
  obtain ⟨x, r, rfl, ⟨hq, rfl⟩ | ⟨hq, rfl⟩⟩ := ac_if0_e ho
  · have hq := of_decide_eq_true hq
    exact fun G H locs lr hP hS hL => lv_if_ge hx hb hd ht (fun _ => G H locs lr hP hS hL) (fun h => absurd hq h)
  · have hq := of_decide_eq_false hq
    exact fun G H locs lr hP hS hL => lv_if_ge hx hb hd ht (fun h => absurd h hq) (fun _ => G H locs lr hP hS hL)
theorem sm_icmp_ge {b : Nat} {off : Int} (hd : decode cc pc = .ok (.if_icmp .ge off, 3)) (ht : (pc : Int) + off = ((pcb b : Nat) : Int)) : pm_Sim K l mt own cc nL rt pcb pc (pc + 3) (ac_if2 (fun x y => decide (y ≤ x)) b) := by
  intro p e R s m args below meth c cells slots Q C ls st h o ho
  obtain ⟨hx, hb, hml, hown, hts, hSt, hJ, hf1, hl1, hc1, hs1⟩ := C
  obtain ⟨x, y, r, rfl, ⟨hq, rfl⟩ | ⟨hq, rfl⟩⟩ := ac_if2_e ho
  · have hq := of_decide_eq_true hq
    exact fun G H locs lr hP hS hL => lv_icmp_ge hx hb hd ht (fun _ => G H locs lr hP hS hL) (fun h => absurd hq h)
  · have hq := of_decide_eq_false hq
    exact fun G H locs lr hP hS hL => lv_icmp_ge hx hb hd ht (fun h => absurd h hq) (fun _ => G H locs lr hP hS hL)
theorem sm_if_gt {b : Nat} {off : Int} (hd : decode cc pc = .ok (.ifCond .gt off, 3)) (ht : (pc : Int) + off = ((pcb b : Nat) : Int)) : pm_Sim K l mt own cc nL rt pcb pc (pc + 3) (ac_if0 (fun x => decide (0 < x)) b) := by
  intro p e R s m args below meth c cells slots Q C ls st h o ho
  obtain ⟨hx, hb, hml, hown, hts, hSt, hJ, hf1, hl1, hc1, hs1⟩ := C
  obtain ⟨x, r, rfl, ⟨hq, rfl⟩ | ⟨hq, rfl⟩⟩ := ac_if0_e ho
  · have hq := of_decide_eq_true hq
    exact fun G H locs lr hP hS hL => lv_if_gt hx hb hd ht (fun _ => G H locs lr hP hS hL) (fun h => absurd hq h)
  · have hq := of_decide_eq_false hq
    exact fun G H locs lr hP hS hL => lv_if_gt hx hb hd ht (fun h => absurd h hq) (fun _ => G H locs lr hP hS hL)
theorem sm_icmp_gt {b : Nat} {off : Int} (hd : decode cc pc = .ok (.if_icmp .gt off, 3)) (ht : (pc : Int) + off = ((pcb b : Nat) : Int)) : pm_Sim K l mt own cc nL rt pcb pc (pc + 3) (ac_if2 (fun x y => decide (y < x)) b) := by
  intro p e R s m args below meth c cells slots Q C ls st h o ho
  obtain ⟨hx, hb, hml, hown, hts, hSt, hJ, hf1, hl1, hc1, hs1⟩ := C
  obtain ⟨x, y, r, rfl, ⟨hq, rfl⟩ | ⟨hq, rfl⟩⟩ := ac_if2_e ho
  · have hq := of_decide_eq_true hq
    exact fun G H locs lr hP hS hL => lv_icmp_gt hx hb hd ht (fun _ => G H locs lr hP hS hL) (fun h => absurd hq h)
  · have hq := of_decide_eq_false hq
    exact fun G H locs lr hP hS hL => lv_icmp_gt hx hb hd ht (fun h => absurd h hq) (fun _ => G H locs lr hP hS hL)
theorem sm_if_le {b : Nat} {off : Int} (hd : decode cc pc = .ok (.ifCond .le off, 3)) (ht : (pc : Int) + off = ((pcb b : Nat) : Int)) : pm_Sim K l mt own cc nL rt pcb pc (pc + 3) (ac_if0 (fun x => decide (x ≤ 0)) b) := by
  intro p e R s m args below meth c cells slots Q C ls st h o ho
  obtain ⟨hx, hb, hml, hown, hts, hSt, hJ, hf1, hl1, hc1, hs1⟩ := C
  obtain ⟨x, r, rfl, ⟨hq, rfl⟩ | ⟨hq, rfl⟩⟩ := ac_if0_e ho
  · have hq := of_decide_eq_true hq
    exact fun G H locs lr hP hS hL => lv_if_le hx hb hd ht (fun _ => G H locs lr hP hS hL) (fun h => absurd hq h)
  · have hq := of_decide_eq_false hq
    exact fun G H locs lr hP hS hL => lv_if_le hx hb hd ht (fun h => absurd h hq) (fun _ => G H locs lr hP hS hL)
theorem sm_icmp_le {b : Nat} {off : Int} (hd : decode cc pc = .ok (.if_icmp .le off, 3)) (ht : (pc : Int) + off = ((pcb b : Nat) : Int)) : pm_Sim K l mt own cc nL rt pcb pc (pc + 3) (ac_if2 (fun x y => decide (x ≤ y)) b) := by
  intro p e R s m args below meth c cells slots Q C ls st h o ho
  obtain ⟨hx, hb, hml, hown, hts, hSt, hJ, hf1, hl1, hc1, hs1⟩ := C
  obtain ⟨x, y, r, rfl, ⟨hq, rfl⟩ | ⟨hq, rfl⟩⟩ := ac_if2_e ho
  · have hq := of_decide_eq_true hq
    exact fun G H locs lr hP hS hL => lv_icmp_le hx hb hd ht (fun _ => G H locs lr hP hS hL) (fun h => absurd hq h)
  · have hq := of_decide_eq_false hq
    exact fun G H locs lr hP hS hL => lv_icmp_le hx hb hd ht (fun h => absurd h hq) (fun _ => G H locs lr hP hS hL)
theorem ac_ifn_e {qn qr : Bool} {b : Nat} {ls : pm_LS} {st : List Value} {h : pm_HP} {o : pm_Out} (ho : ac_ifn qn qr b ls st h = some o) : ∃ r : List Value, (st = .null :: r ∧ ((qn = true ∧ o = .inr (.inl (b, ls, r, h))) ∨ (qn = false ∧ o = .inl (ls, r, h)))) ∨ ∃ x : Nat, st = .ref x :: r ∧ ((qr = true ∧ o = .inr (.inl (b, ls, r, h))) ∨ (qr = false ∧ o = .inl (ls, r, h))) := by
  unfold ac_ifn at ho
  split at ho
  · split at ho
    · cases ho; exact ⟨_, Or.inl ⟨rfl, Or.inl ⟨by assumption, rfl⟩⟩⟩
    · rename_i h3
      cases ho; exact ⟨_, Or.inl ⟨rfl, Or.inr ⟨Bool.eq_false_iff.mpr h3, rfl⟩⟩⟩
  · split at ho
    · cases ho; exact ⟨_, Or.inr ⟨_, rfl, Or.inl ⟨by assumption, rfl⟩⟩⟩
    · rename_i h3
      cases ho; exact ⟨_, Or.inr ⟨_, rfl, Or.inr ⟨Bool.eq_false_iff.mpr h3, rfl⟩⟩⟩
  · cases ho
theorem sm_ifnull {b : Nat} {off : Int} (hd : decode cc pc = .ok (.ifnull off, 3)) (ht : (pc : Int) + off = ((pcb b : Nat) : Int)) : pm_Sim K l mt own cc nL rt pcb pc (pc + 3) (ac_ifn true false b) := by
  intro p e R s m args below meth c cells slots Q C ls st h o ho
  obtain ⟨hx, hb, hml, hown, hts, hSt, hJ, hf1, hl1, hc1, hs1⟩ := C
  obtain ⟨r, ⟨rfl, ⟨hq, rfl⟩ | ⟨hq, rfl⟩⟩ | ⟨x, rfl, ⟨hq, rfl⟩ | ⟨hq, rfl⟩⟩⟩ := ac_ifn_e ho
  · exact fun G H locs lr hP hS hL => lv_ifnullN hx hb hd ht (G H locs lr hP hS hL)
  · cases hq
  · cases hq
  · exact fun G H locs lr hP hS hL => lv_ifnull hx hb hd (G H locs lr hP hS hL)
theorem sm_ifnonnull {b : Nat} {off : Int} (hd : decode cc pc = .ok (.ifnonnull off, 3)) (ht : (pc : Int) + off = ((pcb b : Nat) : Int)) : pm_Sim K l mt own cc nL rt pcb pc (pc + 3) (ac_ifn false true b) := by
  intro p e R s m args below meth c cells slots Q C ls st h o ho
  obtain ⟨hx, hb, hml, hown, hts, hSt, hJ, hf1, hl1, hc1, hs1⟩ := C
  obtain ⟨r, ⟨rfl, ⟨hq, rfl⟩ | ⟨hq, rfl⟩⟩ | ⟨x, rfl, ⟨hq, rfl⟩ | ⟨hq, rfl⟩⟩⟩ := ac_ifn_e ho
  · cases hq
  · exact fun G H locs lr hP hS hL => lv_ifnonnullN hx hb hd (G H locs lr hP hS hL)
  · exact fun G H locs lr hP hS hL => lv_ifnonnull hx hb hd ht (G H locs lr hP hS hL)
  · cases hq
theorem sm_goto {b : Nat} {off : Int} (hd : decode cc pc = .ok (.goto off, 3)) (ht : (pc : Int) + off = ((pcb b : Nat) : Int)) : pm_Sim K l mt own cc nL rt pcb pc (pc + 3) (ac_go b) := by
  intro p e R s m args below meth c cells slots Q C ls st h o ho
  obtain ⟨hx, hb, hml, hown, hts, hSt, hJ, hf1, hl1, hc1, hs1⟩ := C
  cases ho
  exact fun G H locs lr hP hS hL => lv_goto hx hb hd ht (G H locs lr hP hS hL)
theorem sm_fall {b : Nat} (ht : pcb b = pc) : pm_Sim K l mt own cc nL rt pcb pc pc (ac_go b) := by
  intro p e R s m args below meth c cells slots Q C ls st h o ho
  obtain ⟨hx, hb, hml, hown, hts, hSt, hJ, hf1, hl1, hc1, hs1⟩ := C
  cases ho
  intro G
  rw [ht] at G
  exact G
theorem sm_tsw {d len : Nat} {ps : List (Int32 × Nat)} {dflt lo hi : Int} {offs : Array Int} (hd : decode cc pc = .ok (.tableswitch dflt lo hi offs, len)) (hps : pm_tsOk pcb pc lo ps offs.toList = true) (hhi : lo + (offs.toList.length : Int) = hi + 1) (hdf : (pc : Int) + dflt = ((pcb d : Nat) : Int)) : pm_Sim K l mt own cc nL rt pcb pc pc (ac_sw ps d) := by
  intro p e R s m args below meth c cells slots Q C ls st h o ho
  obtain ⟨hx, hb, hml, hown, hts, hSt, hJ, hf1, hl1, hc1, hs1⟩ := C
  obtain ⟨x, r, rfl, rfl⟩ := ac_sw_e ho
  intro G H locs lr hP hS hL
  by_cases hq : x.toInt < lo ∨ hi < x.toInt
  · have e : pm_sf ps d x = d := pm_sf_out ps offs.toList lo hps (by omega)
    refine lv_tableOut hx hb hd hq hdf ?_
    have G := G H locs lr hP hS hL
    rw [e] at G
    exact G
  · have h1 : ¬ x.toInt < lo := fun q => hq (Or.inl q)
    have h2 : ¬ hi < x.toInt := fun q => hq (Or.inr q)
    obtain ⟨off, g1, g2⟩ := pm_sf_in (d := d) (x := x) ps offs.toList lo hps h1 (by omega)
    exact lv_tableIn hx hb hd h1 h2 (by rw [← Array.getElem?_toList]; exact g1) g2 (G H locs lr hP hS hL)
theorem sm_lsw {d len : Nat} {ps : List (Int32 × Nat)} {dflt : Int} {prs : Array (Int × Int)} (hd : decode cc pc = .ok (.lookupswitch dflt prs, len)) (hp : (prs.toList.zip (prs.toList.drop 1)).all (fun (a, next) => a.1 < next.1) = true) (hps : pm_lsOk pcb pc ps prs.toList = true) (hdf : (pc : Int) + dflt = ((pcb d : Nat) : Int)) : pm_Sim K l mt own cc nL rt pcb pc pc (ac_sw ps d) := by
  intro p e R s m args below meth c cells slots Q C ls st h o ho
  obtain ⟨hx, hb, hml, hown, hts, hSt, hJ, hf1, hl1, hc1, hs1⟩ := C
  obtain ⟨x, r, rfl, rfl⟩ := ac_sw_e ho
  intro G H locs lr hP hS hL
  exact lv_lookup hx hb hd hp rfl (pm_sf_l hdf ps prs.toList hps) (G H locs lr hP hS hL)
theorem ac_ri_e {ls : pm_LS} {st : List Value} {h : pm_HP} {o : pm_Out} (ho : ac_ri ls st h = some o) : ∃ x : Int32, st = [.int x] ∧ o = .inr (.inr (.inl (some (.int x), h))) := by
  unfold ac_ri at ho
  split at ho
  · cases ho; exact ⟨_, rfl, rfl⟩
  · cases ho
theorem ac_rz_e {f : Int32 → Int32} {ls : pm_LS} {st : List Value} {h : pm_HP} {o : pm_Out} (ho : ac_rz f ls st h = some o) : ∃ x : Int32, st = [.int x] ∧ f x = x ∧ o = .inr (.inr (.inl (some (.int x), h))) := by
  unfold ac_rz at ho
  split at ho
  · split at ho
    · cases ho; exact ⟨_, rfl, by assumption, rfl⟩
    · cases ho
  · cases ho
theorem ac_rl_e {ls : pm_LS} {st : List Value} {h : pm_HP} {o : pm_Out} (ho : ac_rl ls st h = some o) : ∃ x : Int64, st = [.long x] ∧ o = .inr (.inr (.inl (some (.long x), h))) := by
  unfold ac_rl at ho
  split at ho
  · cases ho; exact ⟨_, rfl, rfl⟩
  · cases ho
theorem ac_ra_e {ls : pm_LS} {st : List Value} {h : pm_HP} {o : pm_Out} (ho : ac_ra ls st h = some o) : (∃ x : Nat, st = [.ref x] ∧ o = .inr (.inr (.inl (some (.ref x), h)))) ∨ (st = [.null] ∧ o = .inr (.inr (.inl (some .null, h)))) := by
  unfold ac_ra at ho
  split at ho
  · cases ho; exact Or.inl ⟨_, rfl, rfl⟩
  · cases ho; exact Or.inr ⟨rfl, rfl⟩
  · cases ho
theorem ac_rv_e {ls : pm_LS} {st : List Value} {h : pm_HP} {o : pm_Out} (ho : ac_rv ls st h = some o) : st = [] ∧ o = .inr (.inr (.inl (none, h))) := by
  unfold ac_rv at ho
  split at ho
  · cases ho; exact ⟨rfl, rfl⟩
  · cases ho
theorem sm_ireturn {pc' : Nat} (hd : decode cc pc = .ok (.ireturn, 1)) (hr : rt = some .int) : pm_Sim K l mt own cc nL rt pcb pc pc' (ac_ri) := by
  intro p e R s m args below meth c cells slots Q C ls st h o ho
  obtain ⟨hx, hb, hml, hown, hts, hSt, hJ, hf1, hl1, hc1, hs1⟩ := C
  obtain ⟨x, rfl, rfl⟩ := ac_ri_e ho
  exact ⟨⟨hd, _, hr, rfl⟩, rfl, rfl⟩
theorem sm_zreturn {pc' : Nat} (hd : decode cc pc = .ok (.ireturn, 1)) (hr : rt = some .boolean) : pm_Sim K l mt own cc nL rt pcb pc pc' (ac_rz (fun v => v &&& 1)) := by
  intro p e R s m args below meth c cells slots Q C ls st h o ho
  obtain ⟨hx, hb, hml, hown, hts, hSt, hJ, hf1, hl1, hc1, hs1⟩ := C
  obtain ⟨x, rfl, hz, rfl⟩ := ac_rz_e ho
  exact ⟨⟨hd, _, hr, congrArg Value.int hz⟩, rfl, rfl⟩
theorem sm_creturn {pc' : Nat} (hd : decode cc pc = .ok (.ireturn, 1)) (hr : rt = some .char) : pm_Sim K l mt own cc nL rt pcb pc pc' (ac_rz (fun v => v.toUInt32.toUInt16.toUInt32.toInt32)) := by
  intro p e R s m args below meth c cells slots Q C ls st h o ho
  obtain ⟨hx, hb, hml, hown, hts, hSt, hJ, hf1, hl1, hc1, hs1⟩ := C
  obtain ⟨x, rfl, hz, rfl⟩ := ac_rz_e ho
  exact ⟨⟨hd, _, hr, congrArg Value.int hz⟩, rfl, rfl⟩
theorem sm_breturn {pc' : Nat} (hd : decode cc pc = .ok (.ireturn, 1)) (hr : rt = some .byte) : pm_Sim K l mt own cc nL rt pcb pc pc' (ac_rz (fun v => v.toInt8.toInt32)) := by
  intro p e R s m args below meth c cells slots Q C ls st h o ho
  obtain ⟨hx, hb, hml, hown, hts, hSt, hJ, hf1, hl1, hc1, hs1⟩ := C
  obtain ⟨x, rfl, hz, rfl⟩ := ac_rz_e ho
  exact ⟨⟨hd, _, hr, congrArg Value.int hz⟩, rfl, rfl⟩
theorem sm_lreturn {pc' : Nat} (hd : decode cc pc = .ok (.lreturn, 1)) (hr : rt = some .long) : pm_Sim K l mt own cc nL rt pcb pc pc' (ac_rl) := by
  intro p e R s m args below meth c cells slots Q C ls st h o ho
  obtain ⟨hx, hb, hml, hown, hts, hSt, hJ, hf1, hl1, hc1, hs1⟩ := C
  obtain ⟨x, rfl, rfl⟩ := ac_rl_e ho
  exact ⟨⟨hd, hr⟩, rfl, rfl⟩
theorem sm_areturn {pc' : Nat} {n : String} (hd : decode cc pc = .ok (.areturn, 1)) (hr : rt = some (.object n)) : pm_Sim K l mt own cc nL rt pcb pc pc' (ac_ra) := by
  intro p e R s m args below meth c cells slots Q C ls st h o ho
  obtain ⟨hx, hb, hml, hown, hts, hSt, hJ, hf1, hl1, hc1, hs1⟩ := C
  rcases ac_ra_e ho with ⟨x, rfl, rfl⟩ | ⟨rfl, rfl⟩
  · exact ⟨⟨hd, _, hr⟩, rfl, rfl⟩
  · exact ⟨⟨hd, _, hr⟩, rfl, rfl⟩
theorem sm_return {pc' : Nat} (hd : decode cc pc = .ok (.return_, 1)) (hr : rt = none) : pm_Sim K l mt own cc nL rt pcb pc pc' (ac_rv) := by
  intro p e R s m args below meth c cells slots Q C ls st h o ho
  obtain ⟨hx, hb, hml, hown, hts, hSt, hJ, hf1, hl1, hc1, hs1⟩ := C
  obtain ⟨rfl, rfl⟩ := ac_rv_e ho
  exact ⟨⟨hr, hd⟩, rfl, rfl⟩
theorem sm_mmax {n : Nat} (hd : decode cc pc = .ok (.invokestatic n, 3)) (h1 : Cond.methodLink own n Lib.Math.max.name ∈ pm_big) (h2 : Cond.static Lib.Math.max.name ∈ pm_big) (h3 : Cond.initialized "java/lang/Math" ∈ pm_big) (h4 : Cond.code Lib.Math.max.name Lib.Math.max.code 2 (some .int) ∈ pm_big) : pm_Sim K l mt own cc nL rt pcb pc (pc + 3) (ac_m2 (fun x y => if x < y then y else x)) := by
  intro p e R s m args below meth c cells slots Q C ls st h o ho
  obtain ⟨hx, hb, hml, hown, hts, hSt, hJ, hf1, hl1, hc1, hs1⟩ := C
  obtain ⟨x, y, r, rfl, hc, rfl⟩ := ac_m2_e ho
  exact fun G H locs lr hP hS hL => va_mmax hx hb (hml.trans hL.1.symm) hown (hts _ h1) (hts _ h2) (hts _ h3) (hts _ h4) hf1 (by rw [pm_cs_sum]; omega) hc1 hs1 hd (G H locs lr hP hS hL)
theorem sm_mmin {n : Nat} (hd : decode cc pc = .ok (.invokestatic n, 3)) (h1 : Cond.methodLink own n Lib.Math.min.name ∈ pm_big) (h2 : Cond.static Lib.Math.min.name ∈ pm_big) (h3 : Cond.initialized "java/lang/Math" ∈ pm_big) (h4 : Cond.code Lib.Math.min.name Lib.Math.min.code 2 (some .int) ∈ pm_big) : pm_Sim K l mt own cc nL rt pcb pc (pc + 3) (ac_m2 (fun x y => if y < x then y else x)) := by
  intro p e R s m args below meth c cells slots Q C ls st h o ho
  obtain ⟨hx, hb, hml, hown, hts, hSt, hJ, hf1, hl1, hc1, hs1⟩ := C
  obtain ⟨x, y, r, rfl, hc, rfl⟩ := ac_m2_e ho
  exact fun G H locs lr hP hS hL => va_mmin hx hb (hml.trans hL.1.symm) hown (hts _ h1) (hts _ h2) (hts _ h3) (hts _ h4) hf1 (by rw [pm_cs_sum]; omega) hc1 hs1 hd (G H locs lr hP hS hL)
theorem sm_mabs {n : Nat} (hd : decode cc pc = .ok (.invokestatic n, 3)) (h1 : Cond.methodLink own n Lib.Math.abs.name ∈ pm_big) (h2 : Cond.static Lib.Math.abs.name ∈ pm_big) (h3 : Cond.initialized "java/lang/Math" ∈ pm_big) (h4 : Cond.code Lib.Math.abs.name Lib.Math.abs.code 1 (some .int) ∈ pm_big) : pm_Sim K l mt own cc nL rt pcb pc (pc + 3) (ac_m1 (fun x => if 0 ≤ x then x else 0 - x)) := by
  intro p e R s m args below meth c cells slots Q C ls st h o ho
  obtain ⟨hx, hb, hml, hown, hts, hSt, hJ, hf1, hl1, hc1, hs1⟩ := C
  obtain ⟨x, r, rfl, hc, rfl⟩ := ac_m1_e ho
  exact fun G H locs lr hP hS hL => va_mabs hx hb (hml.trans hL.1.symm) hown (hts _ h1) (hts _ h2) (hts _ h3) (hts _ h4) hf1 (by rw [pm_cs_sum]; omega) hc1 hs1 hd (G H locs lr hP hS hL)
theorem sm_mlabs {n : Nat} (hd : decode cc pc = .ok (.invokestatic n, 3)) (h1 : Cond.methodLink own n Lib.MathLoose.abs_long.x ∈ pm_big) (h2 : Cond.static Lib.MathLoose.abs_long.x ∈ pm_big) (h3 : Cond.initialized "java/lang/Math" ∈ pm_big) (h4 : Cond.code Lib.MathLoose.abs_long.x Lib.MathLoose.abs_long.code 2 (some .long) ∈ pm_big) : pm_Sim K l mt own cc nL rt pcb pc (pc + 3) (ac_ml (fun x => if 0 < x then x else -x)) := by
  intro p e R s m args below meth c cells slots Q C ls st h o ho
  obtain ⟨hx, hb, hml, hown, hts, hSt, hJ, hf1, hl1, hc1, hs1⟩ := C
  obtain ⟨x, r, rfl, hc, rfl⟩ := ac_ml_e ho
  exact fun G H locs lr hP hS hL => va_mabs_long hx hb (hml.trans hL.1.symm) hown (hts _ h1) (hts _ h2) (hts _ h3) (hts _ h4) hf1 (by rw [pm_cs_sum]; omega) hc1 hs1 hd (G H locs lr hP hS hL)
end SM
