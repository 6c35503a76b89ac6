/-! ACTIONS ON CELLS, one by one -/
theorem ac_gi_e {cs : List Nat} {k : Nat} {ls : pm_LS} {st : List Value} {h : pm_HP} {o : pm_Out} (ho : ac_gi cs k ls st h = some o) : ∃ (a : Nat) (r : List Value), st = .ref a :: r ∧ pm_is cs a = true ∧ o = .inl (ls, .int (h.1 a k) :: r, h) := by
  unfold ac_gi at ho
  split at ho
  · rename_i h1
    split at ho
    · cases ho; exact ⟨_, _, pm_pR_e h1, by assumption, rfl⟩
    · cases ho
  · cases ho
theorem ac_gl_e {cs : List Nat} {k : Nat} {ls : pm_LS} {st : List Value} {h : pm_HP} {o : pm_Out} (ho : ac_gl cs k ls st h = some o) : ∃ (a : Nat) (r : List Value), st = .ref a :: r ∧ pm_is cs a = true ∧ o = .inl (ls, .long (h.2 a k) :: r, h) := by
  unfold ac_gl at ho
  split at ho
  · rename_i h1
    split at ho
    · cases ho; exact ⟨_, _, pm_pR_e h1, by assumption, rfl⟩
    · cases ho
  · cases ho
theorem ac_gr_e {cs : List Nat} {k : Nat} {ls : pm_LS} {st : List Value} {h : pm_HP} {o : pm_Out} (ho : ac_gr cs k ls st h = some o) : ∃ (a : Nat) (r : List Value), st = .ref a :: r ∧ pm_is cs a = true ∧ o = .inl (ls, .ref (pm_rf a k) :: r, h) := by
  unfold ac_gr at ho
  split at ho
  · rename_i h1
    split at ho
    · cases ho; exact ⟨_, _, pm_pR_e h1, by assumption, rfl⟩
    · cases ho
  · cases ho
theorem ac_gc_e {cs : List Nat} {k : Nat} {ls : pm_LS} {st : List Value} {h : pm_HP} {o : pm_Out} (ho : ac_gc cs k ls st h = some o) : ∃ (a : Nat) (r : List Value), st = .ref a :: r ∧ pm_is cs a = true ∧ o = .inl (ls, .int (pm_fc a k) :: r, h) := by
  unfold ac_gc at ho
  split at ho
  · rename_i h1
    split at ho
    · cases ho; exact ⟨_, _, pm_pR_e h1, by assumption, rfl⟩
    · cases ho
  · cases ho
theorem ac_gs_e {cs : List Nat} {k : Nat} {ls : pm_LS} {st : List Value} {h : pm_HP} {o : pm_Out} (ho : ac_gs cs k ls st h = some o) : ∃ (a : Nat) (r : List Value), st = .ref a :: r ∧ pm_is cs a = true ∧ o = .inl (ls, .ref (pm_sd (h.1 a k)) :: r, h) := by
  unfold ac_gs at ho
  split at ho
  · rename_i h1
    split at ho
    · cases ho; exact ⟨_, _, pm_pR_e h1, by assumption, rfl⟩
    · cases ho
  · cases ho
theorem ac_pi_e {cs : List Nat} {k : Nat} {ls : pm_LS} {st : List Value} {h : pm_HP} {o : pm_Out} (ho : ac_pi cs k ls st h = some o) : ∃ (v : Int32) (a : Nat) (r : List Value), st = .int v :: .ref a :: r ∧ pm_is cs a = true ∧ o = .inl (ls, r, pm_si h a k v) := by
  unfold ac_pi at ho
  split at ho
  · split at ho
    · rename_i h1 _ _ _ h2
      split at ho
      · rename_i h3
        cases ho; exact ⟨_, _, _, by rw [pm_pI_e h1, pm_pR_e h2], h3, rfl⟩
      · cases ho
    · cases ho
  · cases ho
theorem ac_pz_e {cs : List Nat} {k : Nat} {ls : pm_LS} {st : List Value} {h : pm_HP} {o : pm_Out} (ho : ac_pz cs k ls st h = some o) : ∃ (v : Int32) (a : Nat) (r : List Value), st = .int v :: .ref a :: r ∧ pm_is cs a = true ∧ (v = 0 ∨ v = 1) ∧ o = .inl (ls, r, pm_si h a k v) := by
  unfold ac_pz at ho
  split at ho
  · split at ho
    · rename_i h1 _ _ _ h2
      split at ho
      · rename_i h3
        cases ho; exact ⟨_, _, _, by rw [pm_pI_e h1, pm_pR_e h2], h3.1, h3.2, rfl⟩
      · cases ho
    · cases ho
  · cases ho
theorem ac_pl_e {cs : List Nat} {k : Nat} {ls : pm_LS} {st : List Value} {h : pm_HP} {o : pm_Out} (ho : ac_pl cs k ls st h = some o) : ∃ (v : Int64) (a : Nat) (r : List Value), st = .long v :: .ref a :: r ∧ pm_is cs a = true ∧ o = .inl (ls, r, pm_sl h a k v) := by
  unfold ac_pl at ho
  split at ho
  · split at ho
    · rename_i h1 _ _ _ h2
      split at ho
      · rename_i h3
        cases ho; exact ⟨_, _, _, by rw [pm_pL_e h1, pm_pR_e h2], h3, rfl⟩
      · cases ho
    · cases ho
  · cases ho
theorem ac_ps_e {cs : List Nat} {k : Nat} {ls : pm_LS} {st : List Value} {h : pm_HP} {o : pm_Out} (ho : ac_ps cs k ls st h = some o) : ∃ (v : Nat) (a : Nat) (r : List Value), st = .ref v :: .ref a :: r ∧ pm_is cs a = true ∧ pm_kd v = 31 ∧ o = .inl (ls, r, pm_si h a k (nI (v - 80))) := by
  unfold ac_ps at ho
  split at ho
  · split at ho
    · rename_i h1 _ _ _ h2
      split at ho
      · rename_i h3
        cases ho; exact ⟨_, _, _, by rw [pm_pR_e h1, pm_pR_e h2], h3.1, h3.2, rfl⟩
      · cases ho
    · cases ho
  · cases ho
theorem ac_ia_e {ls : pm_LS} {st : List Value} {h : pm_HP} {o : pm_Out} (ho : ac_ia ls st h = some o) : ∃ (i : Int32) (a : Nat) (r : List Value), st = .int i :: .ref a :: r ∧ pm_kd a = 20 ∧ pm_ix i (pm_al a) = true ∧ o = .inl (ls, .int (h.1 a i.toNatClampNeg) :: r, h) := by
  unfold ac_ia at ho
  split at ho
  · split at ho
    · rename_i h1 _ _ _ h2
      split at ho
      · rename_i h3
        cases ho; exact ⟨_, _, _, by rw [pm_pI_e h1, pm_pR_e h2], h3.1, h3.2, rfl⟩
      · cases ho
    · cases ho
  · cases ho
theorem ac_is_e {ls : pm_LS} {st : List Value} {h : pm_HP} {o : pm_Out} (ho : ac_is ls st h = some o) : ∃ (i : Int32) (a : Nat) (r : List Value), st = .int i :: .ref a :: r ∧ pm_kd a = 30 ∧ pm_ix i (pm_al a) = true ∧ o = .inl (ls, .int (pm_sv a i.toNatClampNeg) :: r, h) := by
  unfold ac_is at ho
  split at ho
  · split at ho
    · rename_i h1 _ _ _ h2
      split at ho
      · rename_i h3
        cases ho; exact ⟨_, _, _, by rw [pm_pI_e h1, pm_pR_e h2], h3.1, h3.2, rfl⟩
      · cases ho
    · cases ho
  · cases ho
theorem ac_ba_e {ls : pm_LS} {st : List Value} {h : pm_HP} {o : pm_Out} (ho : ac_ba ls st h = some o) : ∃ (i : Int32) (a : Nat) (r : List Value), st = .int i :: .ref a :: r ∧ pm_kd a = 32 ∧ pm_ix i (pm_al a) = true ∧ o = .inl (ls, .int (pm_by a i.toNatClampNeg) :: r, h) := by
  unfold ac_ba at ho
  split at ho
  · split at ho
    · rename_i h1 _ _ _ h2
      split at ho
      · rename_i h3
        cases ho; exact ⟨_, _, _, by rw [pm_pI_e h1, pm_pR_e h2], h3.1, h3.2, rfl⟩
      · cases ho
    · cases ho
  · cases ho
theorem ac_aa_e {ls : pm_LS} {st : List Value} {h : pm_HP} {o : pm_Out} (ho : ac_aa ls st h = some o) : ∃ (i : Int32) (a : Nat) (r : List Value), st = .int i :: .ref a :: r ∧ (pm_kd a = 21 ∨ pm_kd a = 22) ∧ pm_ix i (pm_al a) = true ∧ o = .inl (ls, .ref (pm_rf a i.toNatClampNeg) :: r, h) := by
  unfold ac_aa at ho
  split at ho
  · split at ho
    · rename_i h1 _ _ _ h2
      split at ho
      · rename_i h3
        cases ho; exact ⟨_, _, _, by rw [pm_pI_e h1, pm_pR_e h2], h3.1, h3.2, rfl⟩
      · cases ho
    · cases ho
  · cases ho
theorem ac_ias_e {ls : pm_LS} {st : List Value} {h : pm_HP} {o : pm_Out} (ho : ac_ias ls st h = some o) : ∃ (x i : Int32) (a : Nat) (r : List Value), st = .int x :: .int i :: .ref a :: r ∧ pm_kd a = 20 ∧ pm_ix i (pm_al a) = true ∧ o = .inl (ls, r, pm_si h a i.toNatClampNeg x) := by
  unfold ac_ias at ho
  split at ho
  · split at ho
    · split at ho
      · rename_i h1 _ _ _ h2 _ _ _ h3
        split at ho
        · rename_i h4
          cases ho; exact ⟨_, _, _, _, by rw [pm_pI_e h1, pm_pI_e h2, pm_pR_e h3], h4.1, h4.2, rfl⟩
        · cases ho
      · cases ho
    · cases ho
  · cases ho
theorem ac_ln_e {ls : pm_LS} {st : List Value} {h : pm_HP} {o : pm_Out} (ho : ac_ln ls st h = some o) : ∃ (a : Nat) (r : List Value), st = .ref a :: r ∧ (pm_kd a = 20 ∨ pm_kd a = 21 ∨ pm_kd a = 22) ∧ o = .inl (ls, .int (nI (pm_al a)) :: r, h) := by
  unfold ac_ln at ho
  split at ho
  · rename_i h1
    split at ho
    · rename_i h3
      cases ho; exact ⟨_, _, pm_pR_e h1, h3, rfl⟩
    · cases ho
  · cases ho
theorem ac_lb_e {ls : pm_LS} {st : List Value} {h : pm_HP} {o : pm_Out} (ho : ac_lb ls st h = some o) : ∃ (a : Nat) (r : List Value), st = .ref a :: r ∧ (pm_kd a = 32) ∧ o = .inl (ls, .int (nI (pm_al a)) :: r, h) := by
  unfold ac_lb at ho
  split at ho
  · rename_i h1
    split at ho
    · rename_i h3
      cases ho; exact ⟨_, _, pm_pR_e h1, h3, rfl⟩
    · cases ho
  · cases ho
theorem ac_tv_e {ls : pm_LS} {st : List Value} {h : pm_HP} {o : pm_Out} (ho : ac_tv ls st h = some o) : ∃ (a : Nat) (r : List Value), st = .ref a :: r ∧ (pm_kd a = 31) ∧ o = .inl (ls, .ref (a + 5) :: r, h) := by
  unfold ac_tv at ho
  split at ho
  · rename_i h1
    split at ho
    · rename_i h3
      cases ho; exact ⟨_, _, pm_pR_e h1, h3, rfl⟩
    · cases ho
  · cases ho
theorem ac_tc_e {ls : pm_LS} {st : List Value} {h : pm_HP} {o : pm_Out} (ho : ac_tc ls st h = some o) : ∃ (a : Nat) (r : List Value), st = .ref a :: r ∧ (pm_kd a = 31) ∧ o = .inl (ls, .int 0 :: r, h) := by
  unfold ac_tc at ho
  split at ho
  · rename_i h1
    split at ho
    · rename_i h3
      cases ho; exact ⟨_, _, pm_pR_e h1, h3, rfl⟩
    · cases ho
  · cases ho
theorem pm_tk_e : ∀ (n : Nat) (st acc as r : List Value), pm_tk n st acc = some (as, r) → as.length = n + acc.length ∧ as.reverse ++ r = acc.reverse ++ st
  | 0, st, acc, as, r, h => by
    have h : some (acc, st) = some (as, r) := h
    cases h
    exact ⟨by omega, rfl⟩
  | n + 1, [], acc, as, r, h => by cases h
  | n + 1, v :: st, acc, as, r, h => by
    obtain ⟨h1, h2⟩ := pm_tk_e n st (v :: acc) as r h
    refine ⟨by rw [h1, List.length_cons]; omega, ?_⟩
    rw [h2, List.reverse_cons, List.append_assoc]
    rfl
theorem ac_cs_e {y n : Nat} {ls : pm_LS} {st : List Value} {h : pm_HP} {o : pm_Out} (ho : ac_cs y n ls st h = some o) : ∃ (as r : List Value), as.length = n ∧ st = as.reverse ++ r ∧ pm_cs r ≤ 8 ∧ o = .inr (.inr (.inr (y, as, ls, r, h))) := by
  unfold ac_cs at ho
  split at ho
  · rename_i h1
    split at ho
    · rename_i h2
      cases ho
      obtain ⟨g1, g2⟩ := pm_tk_e _ _ _ _ _ h1
      exact ⟨_, _, g1, g2.symm, h2, rfl⟩
    · cases ho
  · cases ho
theorem ac_cv_e {y n : Nat} {cs : List Nat} {ls : pm_LS} {st : List Value} {h : pm_HP} {o : pm_Out} (ho : ac_cv y n cs ls st h = some o) : ∃ (as r : List Value) (a : Nat), as.length = n ∧ st = as.reverse ++ .ref a :: r ∧ pm_is cs a = true ∧ pm_cs r ≤ 8 ∧ o = .inr (.inr (.inr (y, .ref a :: as, ls, r, h))) := by
  unfold ac_cv at ho
  split at ho
  · split at ho
    · rename_i h1 _ _ _ h2
      split at ho
      · rename_i h3
        cases ho
        obtain ⟨g1, g2⟩ := pm_tk_e _ _ _ _ _ h1
        exact ⟨_, _, _, g1, by rw [← pm_pR_e h2]; exact g2.symm, h3.1, h3.2, rfl⟩
      · cases ho
    · cases ho
  · cases ho
/-- of a text -/
def ac_ct (y n : Nat) : pm_Ac := fun ls st h => match pm_tk n st [] with
  | some (as, r) => (match pm_pR r with
    | some (a, r) => if pm_kd a = 31 ∧ pm_cs r ≤ 8 then pm_c y (.ref a :: as) ls r h else none
    | none => none)
  | none => none
theorem ac_ct_e {y n : Nat} {ls : pm_LS} {st : List Value} {h : pm_HP} {o : pm_Out} (ho : ac_ct y n ls st h = some o) : ∃ (as r : List Value) (a : Nat), as.length = n ∧ st = as.reverse ++ .ref a :: r ∧ pm_kd a = 31 ∧ pm_cs r ≤ 8 ∧ o = .inr (.inr (.inr (y, .ref a :: as, ls, r, h))) := by
  unfold ac_ct at ho
  split at ho
  · split at ho
    · rename_i h1 _ _ _ h2
      split at ho
      · rename_i h3
        cases ho
        obtain ⟨g1, g2⟩ := pm_tk_e _ _ _ _ _ h1
        exact ⟨_, _, _, g1, by rw [← pm_pR_e h2]; exact g2.symm, h3.1, h3.2, rfl⟩
      · cases ho
    · cases ho
  · cases ho
theorem pm_good {ws : List Cond} (h : ∀ w ∈ ws, w ∈ pm_big) : GoodIn pm_big ws := fun w hw => ⟨h w hw, (List.mem_cons.mp (h w hw)).elim (fun e => good_of_word (by rw [e]; rfl)) (fun q => good_of_word (List.mem_filter.mp q).2)⟩
theorem pm_bm {w : Cond} (i : Nat) (h : lw_tbl[i]? = some w) (hg : goodWord w = true) : w ∈ pm_big := List.mem_cons_of_mem _ (List.mem_filter.mpr ⟨List.mem_of_getElem? h, hg⟩)
/-- the links of a call: of a static method; of one of class C; of one that C inherits -/
def pm_LS0 (own : String) (idx : Nat) (yn : MethodName) (n : Nat) : Prop := (Cond.methodLink own idx yn ∈ pm_big ∨ ∃ host, Cond.methodLinkNest own idx yn host ∈ pm_nest) ∧ Cond.static yn ∈ pm_big ∧ Cond.initialized yn.cls ∈ pm_big ∧ (yn.cls ≠ "java/lang/invoke/MethodHandle" ∧ yn.cls ≠ "java/lang/invoke/VarHandle" ∧ (parseMethodDescriptor yn.desc).map (fun d => d.parameters.length) = some n)
def pm_LV (own : String) (idx : Nat) (C : String) (yn : MethodName) (n : Nat) : Prop :=
  (Cond.methodLink own idx yn ∈ pm_big ∧ Cond.instanceMethod yn ∈ pm_big ∧ Cond.selects C yn yn ∈ pm_big ∧ Cond.initialized C ∈ pm_big ∧ (yn.cls = C ∧ yn.cls ≠ "java/lang/invoke/MethodHandle" ∧ yn.cls ≠ "java/lang/invoke/VarHandle" ∧ (parseMethodDescriptor yn.desc).map (fun d => d.parameters.length) = some n)) ∨
  ∃ (x : MethodName) (owner : String), Cond.methodLink own idx x ∈ pm_big ∧ Cond.sameMethod x.cls owner x.name x.desc ∈ pm_big ∧ Cond.selects C x yn ∈ pm_big ∧ Cond.instanceMethod yn ∈ pm_big ∧ Cond.initialized yn.cls ∈ pm_big ∧ yn = ⟨owner, x.name, x.desc⟩ ∧ (owner ≠ "java/lang/invoke/MethodHandle" ∧ owner ≠ "java/lang/invoke/VarHandle" ∧ (parseMethodDescriptor x.desc).map (fun d => d.parameters.length) = some n)
section SM
variable {K : pm_K} {l : Launch} {mt : pm_T} {own : String} {cc : ByteArray} {nL : Nat} {rt : Option FieldType} {pcb : Nat → Nat} {pc : Nat}
variable {p : Program} {e : Env} {R : Room} {s : State} {m : MethodId} {args : Array Value} {below : List Frame} {meth : Method} {c : Code} {cells slots : Nat} {Q : State → Prop}
theorem pm_call {H : Heap} {locs : List Loc} {lr : Array Slot} {st0 rest : List Value} {v : Option Value} {h'' : pm_HP} {aa : Array Value} (hr : va_Run p l e R s m args below meth c H locs cells slots 0 0 (F0 m pc lr st0) rest (pm_Post K v h'' aa) (pm_A K)) (hS : va_S (pm_A K) s.heap H locs)
    (kk : ∀ (H1 : Heap) (locs1 : List Loc), va_P K.1 vwCl (pm_wd K h'') H1 → va_S (pm_A K) s.heap H1 locs1 → W p l e R s m args below meth c H1 locs1 cells slots Q (F0 m (pc + 3) lr ((v.map (pm_mv K)).toList ++ rest))) : W p l e R s m args below meth c H locs cells slots Q (F0 m pc lr st0) := by
  intro T hT X
  obtain ⟨v0, st₀, t, T', L, h0, X', hL, e1, e2, ⟨hv, hp, hz, hk⟩, st⟩ := hr T hT X
  cases hv
  rw [h0] at hz hk
  obtain ⟨t2, a1, b1⟩ := kk T'.heap (locs ++ L) (by rw [e1]; exact hp) ⟨Nat.le_trans hS.1 (by rw [e1]; exact hz), fun q h1 h2 => by rw [e1, hk q (Nat.lt_of_lt_of_le h1 hS.1) h2]; exact hS.2.1 q h1 h2, fun q hq => by
    rcases List.mem_append.mp hq with h | h
    · exact hS.2.2 q h
    · exact hL q h⟩ T' rfl X'
  exact ⟨t2, st t2 a1, b1⟩
theorem pm_blind (as : List Value) (h : pm_HP) : FrameBlind (pm_Pre K as h) := fun a U g mk q => ⟨q.1, q.2.1, pm_St.same (K := K) (u := U) (U := U.calling g mk a) (H := U.heap) rfl q.2.2⟩
theorem pm_pre (hSt : pm_St K s s.heap) {H : Heap} {locs : List Loc} {h : pm_HP} (hP : va_P K.1 vwCl (pm_wd K h) H) (hS : va_S (pm_A K) s.heap H locs) (as : List Value) : ∀ U : State, U.heap = H → s.WarmedH U.vm → pm_Pre K as h (as.map (pm_mv K)).toArray U := by
  intro U hU hW
  exact ⟨rfl, by rw [hU]; exact hP, by rw [hU]; exact hSt.go hW hS⟩
theorem sm_gi {idx k : Nat} {cs : List Nat} (hd : decode cc pc = .ok (.getfield idx, 3)) (hF : pm_FL own idx k 0 cs) : pm_Sim K l mt own cc nL rt pcb pc (pc + 3) (ac_gi cs k) := by
  intro p e R s m args below meth c cells slots Q C ls st h o ho
  obtain ⟨a, r, rfl, ha, rfl⟩ := ac_gi_e ho
  exact fun G H locs lr hP hS hL => pm_wget C hd hF ha hP (fun ht => by
    have ev : pm_mv K (pm_val h a k) = .int (h.1 a k) := by
      unfold pm_val
      rw [ht]; rfl
    rw [ev]
    exact G H locs lr hP hS hL)
theorem sm_gl {idx k : Nat} {cs : List Nat} (hd : decode cc pc = .ok (.getfield idx, 3)) (hF : pm_FL own idx k 1 cs) : pm_Sim K l mt own cc nL rt pcb pc (pc + 3) (ac_gl cs k) := by
  intro p e R s m args below meth c cells slots Q C ls st h o ho
  obtain ⟨a, r, rfl, ha, rfl⟩ := ac_gl_e ho
  exact fun G H locs lr hP hS hL => pm_wget C hd hF ha hP (fun ht => by
    have ev : pm_mv K (pm_val h a k) = .long (h.2 a k) := by
      unfold pm_val
      rw [ht]; rfl
    rw [ev]
    exact G H locs lr hP hS hL)
theorem sm_gr {idx k : Nat} {cs : List Nat} (hd : decode cc pc = .ok (.getfield idx, 3)) (hF : pm_FL own idx k 2 cs) : pm_Sim K l mt own cc nL rt pcb pc (pc + 3) (ac_gr cs k) := by
  intro p e R s m args below meth c cells slots Q C ls st h o ho
  obtain ⟨a, r, rfl, ha, rfl⟩ := ac_gr_e ho
  exact fun G H locs lr hP hS hL => pm_wget C hd hF ha hP (fun ht => by
    have ev : pm_mv K (pm_val h a k) = .ref (K.2.1 (pm_rf a k)) := by
      unfold pm_val
      rw [ht]; rfl
    rw [ev]
    exact G H locs lr hP hS hL)
theorem sm_gc {idx k : Nat} {cs : List Nat} (hd : decode cc pc = .ok (.getfield idx, 3)) (hF : pm_FL own idx k 4 cs) : pm_Sim K l mt own cc nL rt pcb pc (pc + 3) (ac_gc cs k) := by
  intro p e R s m args below meth c cells slots Q C ls st h o ho
  obtain ⟨a, r, rfl, ha, rfl⟩ := ac_gc_e ho
  exact fun G H locs lr hP hS hL => pm_wget C hd hF ha hP (fun ht => by
    have ev : pm_mv K (pm_val h a k) = .int (pm_fc a k) := by
      unfold pm_val
      rw [ht]; rfl
    rw [ev]
    exact G H locs lr hP hS hL)
theorem sm_gs {idx k : Nat} {cs : List Nat} (hd : decode cc pc = .ok (.getfield idx, 3)) (hF : pm_FL own idx k 3 cs) : pm_Sim K l mt own cc nL rt pcb pc (pc + 3) (ac_gs cs k) := by
  intro p e R s m args below meth c cells slots Q C ls st h o ho
  obtain ⟨a, r, rfl, ha, rfl⟩ := ac_gs_e ho
  exact fun G H locs lr hP hS hL => pm_wget C hd hF ha hP (fun ht => by
    have ev : pm_mv K (pm_val h a k) = .ref (K.2.1 (pm_sd (h.1 a k))) := by
      unfold pm_val
      rw [ht]; rfl
    rw [ev]
    exact G H locs lr hP hS hL)
theorem sm_pi {idx k : Nat} {cs : List Nat} (hd : decode cc pc = .ok (.putfield idx, 3)) (hF : pm_FP own idx k 0 .int cs) : pm_Sim K l mt own cc nL rt pcb pc (pc + 3) (ac_pi cs k) := by
  intro p e R s m args below meth c cells slots Q C ls st h o ho
  obtain ⟨v, a, r, rfl, ha, rfl⟩ := ac_pi_e ho
  exact fun G H locs lr hP hS hL => pm_wput C hd hF ha (v := .int v) (rfl) (rfl) hP hS (fun ht hk => pm_wd_si rfl hk (by
    unfold pm_val
    rw [ht]
    show Value.int (if a = a ∧ k = k then v else h.1 a k) = _
    rw [if_pos ⟨rfl, rfl⟩])) (fun H1 locs1 g1 g2 => G H1 locs1 lr g1 g2 hL)
theorem sm_pz {idx k : Nat} {cs : List Nat} (hd : decode cc pc = .ok (.putfield idx, 3)) (hF : pm_FP own idx k 0 .boolean cs) : pm_Sim K l mt own cc nL rt pcb pc (pc + 3) (ac_pz cs k) := by
  intro p e R s m args below meth c cells slots Q C ls st h o ho
  obtain ⟨v, a, r, rfl, ha, hz, rfl⟩ := ac_pz_e ho
  exact fun G H locs lr hP hS hL => pm_wput C hd hF ha (v := .int v) (by rcases hz with rfl | rfl <;> rfl) (by rcases hz with rfl | rfl <;> rfl) hP hS (fun ht hk => pm_wd_si rfl hk (by
    unfold pm_val
    rw [ht]
    show Value.int (if a = a ∧ k = k then v else h.1 a k) = _
    rw [if_pos ⟨rfl, rfl⟩])) (fun H1 locs1 g1 g2 => G H1 locs1 lr g1 g2 hL)
theorem sm_pl {idx k : Nat} {cs : List Nat} (hd : decode cc pc = .ok (.putfield idx, 3)) (hF : pm_FP own idx k 1 .long cs) : pm_Sim K l mt own cc nL rt pcb pc (pc + 3) (ac_pl cs k) := by
  intro p e R s m args below meth c cells slots Q C ls st h o ho
  obtain ⟨v, a, r, rfl, ha, rfl⟩ := ac_pl_e ho
  exact fun G H locs lr hP hS hL => pm_wput C hd hF ha (v := .long v) (rfl) (rfl) hP hS (fun ht hk => pm_wd_sl rfl hk (by
    unfold pm_val
    rw [ht]
    show Value.long (if a = a ∧ k = k then v else h.2 a k) = _
    rw [if_pos ⟨rfl, rfl⟩])) (fun H1 locs1 g1 g2 => G H1 locs1 lr g1 g2 hL)
theorem sm_ps {idx k : Nat} {n : String} {cs : List Nat} (hd : decode cc pc = .ok (.putfield idx, 3)) (hF : pm_FP own idx k 3 (.object n) cs) : pm_Sim K l mt own cc nL rt pcb pc (pc + 3) (ac_ps cs k) := by
  intro p e R s m args below meth c cells slots Q C ls st h o ho
  obtain ⟨v, a, r, rfl, ha, hz, rfl⟩ := ac_ps_e ho
  exact fun G H locs lr hP hS hL => pm_wput C hd hF ha (v := .ref (K.2.1 v)) rfl rfl hP hS (fun ht hk => pm_wd_si rfl hk (by
    unfold pm_val
    rw [ht]
    show Value.ref (K.2.1 (pm_sd (if a = a ∧ k = k then nI (v - 80) else h.1 a k))) = _
    rw [if_pos ⟨rfl, rfl⟩]
    have hv := pm_kd_t hz
    have e : pm_sd (nI (v - 80)) = v := by
      unfold pm_sd
      rw [show (nI (v - 80)).toNatClampNeg = v - 80 from Int32.toNatClampNeg_ofNat_of_lt (by omega)]
      omega
    rw [e])) (fun H1 locs1 g1 g2 => G H1 locs1 lr g1 g2 hL)
theorem sm_ia (hd : decode cc pc = .ok (.iaload, 1)) : pm_Sim K l mt own cc nL rt pcb pc (pc + 1) (ac_ia) := by
  intro p e R s m args below meth c cells slots Q C ls st h o ho
  obtain ⟨hx, hb, hml, hown, hts, hSt, hJ, hf1, hl1, hc1, hs1⟩ := C
  obtain ⟨i, a, r, rfl, ha, hi, rfl⟩ := ac_ia_e ho
  exact fun G H locs lr hP hS hL => va_iald hx hb hSt.1 hP a 0 (by rw [pm_wd_get K h (pm_kd_w (by omega)), pm_cell_a K h ha]) rfl (pm_ix_e hi) hd (G H locs lr hP hS hL)
theorem sm_ias (hd : decode cc pc = .ok (.iastore, 1)) : pm_Sim K l mt own cc nL rt pcb pc (pc + 1) (ac_ias) := by
  intro p e R s m args below meth c cells slots Q C ls st h o ho
  obtain ⟨hx, hb, hml, hown, hts, hSt, hJ, hf1, hl1, hc1, hs1⟩ := C
  obtain ⟨x, i, a, r, rfl, ha, hi, rfl⟩ := ac_ias_e ho
  exact fun G H locs lr hP hS hL => va_iast hx hb hSt.1 hP (pm_wd_D hJ h) hS a 0 (by rw [pm_wd_get K h (pm_kd_w (by omega)), pm_cell_a K h ha]) rfl (pm_ix_e hi) hd (fun H1 locs1 g1 _ g3 => G H1 locs1 lr (by rw [← pm_wd_as ha]; exact g1) g3 hL)
theorem sm_aa (hd : decode cc pc = .ok (.aaload, 1)) : pm_Sim K l mt own cc nL rt pcb pc (pc + 1) (ac_aa) := by
  intro p e R s m args below meth c cells slots Q C ls st h o ho
  obtain ⟨hx, hb, hml, hown, hts, hSt, hJ, hf1, hl1, hc1, hs1⟩ := C
  obtain ⟨i, a, r, rfl, ha, hi, rfl⟩ := ac_aa_e ho
  intro G H locs lr hP hS hL
  have he : (pm_wd K h)[a]? = some (K.2.1 a, .inl (if pm_kd a = 21 then K.2.2.2.1 else K.2.2.2.2.1, pm_al a, .inr (.inr (.inr (.inr (fun k => some (K.2.1 (pm_rf a k)))))))) := by
    rw [pm_wd_get K h (pm_kd_w (by omega)), pm_cell_r K h ha]
  rcases ha with ha | ha
  · rw [if_pos ha] at he
    exact va_aldq hx hb hSt.1 hP a 1 he rfl (pm_ix_e hi) hd (G H locs lr hP hS hL)
  · rw [if_neg (by omega)] at he
    exact va_aldq hx hb hSt.1 hP a 2 he rfl (pm_ix_e hi) hd (G H locs lr hP hS hL)
theorem sm_ln (hd : decode cc pc = .ok (.arraylength, 1)) : pm_Sim K l mt own cc nL rt pcb pc (pc + 1) (ac_ln) := by
  intro p e R s m args below meth c cells slots Q C ls st h o ho
  obtain ⟨hx, hb, hml, hown, hts, hSt, hJ, hf1, hl1, hc1, hs1⟩ := C
  obtain ⟨a, r, rfl, ha, rfl⟩ := ac_ln_e ho
  intro G H locs lr hP hS hL
  by_cases h2 : pm_kd a = 20
  · exact va_alen hx hb hSt.1 hP a 0 (x := (pm_al a, .inl (h.1 a))) (by rw [pm_wd_get K h (pm_kd_w (by omega)), pm_cell_a K h h2]) rfl rfl hd (G H locs lr hP hS hL)
  · have he : (pm_wd K h)[a]? = some (K.2.1 a, .inl (if pm_kd a = 21 then K.2.2.2.1 else K.2.2.2.2.1, pm_al a, .inr (.inr (.inr (.inr (fun k => some (K.2.1 (pm_rf a k)))))))) := by
      rw [pm_wd_get K h (pm_kd_w (by omega)), pm_cell_r K h (by omega)]
    by_cases h3 : pm_kd a = 21
    · rw [if_pos h3] at he
      exact va_alen hx hb hSt.1 hP a 1 he rfl rfl hd (G H locs lr hP hS hL)
    · rw [if_neg h3] at he
      exact va_alen hx hb hSt.1 hP a 2 he rfl rfl hd (G H locs lr hP hS hL)
theorem sm_is (hd : decode cc pc = .ok (.iaload, 1)) : pm_Sim K l mt own cc nL rt pcb pc (pc + 1) (ac_is) := by
  intro p e R s m args below meth c cells slots Q C ls st h o ho
  obtain ⟨hx, hb, hml, hown, hts, hSt, hJ, hf1, hl1, hc1, hs1⟩ := C
  obtain ⟨i, a, r, rfl, ha, hi, rfl⟩ := ac_is_e ho
  intro G H locs lr hP hS hL
  obtain ⟨q, hq, hn⟩ : ∃ q, pm_sN[a - 76]? = some q ∧ q.2 = pm_al a := by
    have hk := pm_kd_s ha
    rcases (show a = 76 ∨ a = 77 ∨ a = 78 ∨ a = 79 by omega) with rfl | rfl | rfl | rfl <;> exact ⟨_, rfl, rfl⟩
  have hT := (hSt.2.2.1 (a - 76) q hq).2
  rw [show 76 + (a - 76) = a by have := pm_kd_s ha; omega, hn] at hT
  exact va_ti hx hb hT hS (pm_ix_e hi) rfl hd (G H locs lr hP hS hL)
theorem sm_st {idx j n : Nat} {nm : String} (hd : decode cc pc = .ok (.getstatic idx, 3)) (hj : pm_sN[j]? = some (nm, n)) (hw : Cond.fieldLink own idx "NeedleLine" nm "[I" ∈ pm_big ∨ ∃ host, Cond.fieldLinkNest own idx "NeedleLine" nm "[I" host ∈ pm_nest) : pm_Sim K l mt own cc nL rt pcb pc (pc + 3) (ac_v (.ref (76 + j))) := by
  intro p e R s m args below meth c cells slots Q C ls st h o ho
  obtain ⟨hx, hb, hml, hown, hts, hSt, hJ, hf1, hl1, hc1, hs1⟩ := C
  cases ho
  intro G H locs lr hP hS hL
  rcases hw with hw | ⟨host, hw⟩
  · exact va_gets hx hb (hSt.2.2.1 j _ hj).1 hS hown (hts _ hw) (fun _ h => h) hd (G H locs lr hP hS hL)
  · exact va_getsN hx hb (hSt.2.2.1 j _ hj).1 hS hown ((hSt.2.1 _ hw).use rfl) (fun _ h => h) hd (G H locs lr hP hS hL)
theorem sm_cps {idx : Nat} (hd : decode cc pc = .ok (.getstatic idx, 3)) (hw : Cond.fieldLink own idx "java/lang/String" "COMPACT_STRINGS" "Z" ∈ pm_big) : pm_Sim K l mt own cc nL rt pcb pc (pc + 3) (ac_i 1) := by
  intro p e R s m args below meth c cells slots Q C ls st h o ho
  obtain ⟨hx, hb, hml, hown, hts, hSt, hJ, hf1, hl1, hc1, hs1⟩ := C
  cases ho
  intro G H locs lr hP hS hL
  exact va_gets hx hb hSt.2.2.2.2.2.1 hS hown (hts _ hw) (fun _ h => h) hd (G H locs lr hP hS hL)
theorem sm_fm {idx : Nat} {fb : Bool} (hd : decode cc pc = .ok (.getstatic idx, 3)) (hfb : fb = K.2.2.2.2.2) (hw : Cond.fieldLink own idx "jdk/internal/util/Preconditions" "SIOOBE_FORMATTER" "Ljava/util/function/BiFunction;" ∈ pm_big) : pm_Sim K l mt own cc nL rt pcb pc (pc + 3) (ac_v (pm_fv fb)) := by
  intro p e R s m args below meth c cells slots Q C ls st h o ho
  obtain ⟨hx, hb, hml, hown, hts, hSt, hJ, hf1, hl1, hc1, hs1⟩ := C
  cases ho
  subst hfb
  intro G H locs lr hP hS hL
  exact va_gets hx hb hSt.2.2.2.2.2.2 hS hown (hts _ hw) (fun _ h => h) hd (G H locs lr hP hS hL)
def ac_no : pm_Ac := fun _ _ _ => none
theorem sm_no {pc' : Nat} : pm_Sim K l mt own cc nL rt pcb pc pc' ac_no := by
  intro p e R s m args below meth c cells slots Q C ls st h o ho
  cases ho
theorem sm_tv {idx : Nat} (hd : decode cc pc = .ok (.getfield idx, 3)) (hw : Cond.fieldLink own idx "java/lang/String" "value" "[B" ∈ pm_big) : pm_Sim K l mt own cc nL rt pcb pc (pc + 3) (ac_tv) := by
  intro p e R s m args below meth c cells slots Q C ls st h o ho
  obtain ⟨hx, hb, hml, hown, hts, hSt, hJ, hf1, hl1, hc1, hs1⟩ := C
  obtain ⟨a, r, rfl, ha, rfl⟩ := ac_tv_e ho
  intro G H locs lr hP hS hL
  have hk := pm_kd_t ha
  have hE := (hSt.2.2.2.2.1.1 (a - 80) (by omega)).2.2.1
  dsimp only at hE
  rw [show 80 + (a - 80) = a by omega, show 85 + (a - 80) = a + 5 by omega] at hE
  exact vk_getf hx hb hE hS hown (hts _ hw) (fun _ h => h) hd (G H locs lr hP hS hL)
theorem sm_tc {idx : Nat} (hd : decode cc pc = .ok (.getfield idx, 3)) (hw : Cond.fieldLink own idx "java/lang/String" "coder" "B" ∈ pm_big) : pm_Sim K l mt own cc nL rt pcb pc (pc + 3) (ac_tc) := by
  intro p e R s m args below meth c cells slots Q C ls st h o ho
  obtain ⟨hx, hb, hml, hown, hts, hSt, hJ, hf1, hl1, hc1, hs1⟩ := C
  obtain ⟨a, r, rfl, ha, rfl⟩ := ac_tc_e ho
  intro G H locs lr hP hS hL
  have hk := pm_kd_t ha
  have hE := (hSt.2.2.2.2.1.1 (a - 80) (by omega)).2.1
  dsimp only at hE
  rw [show 80 + (a - 80) = a by omega] at hE
  exact vk_getf hx hb hE hS hown (hts _ hw) (fun _ h => h) hd (G H locs lr hP hS hL)
theorem pm_byT (hSt : pm_St K s s.heap) {a : Nat} (ha : pm_kd a = 32) : va_T .byte (K.2.1 a) (pm_al a) (fun j => .int (pm_by a j)) (pm_A K) s s.heap := by
  have hk := pm_kd_b ha
  have hE := (hSt.2.2.2.2.1.1 (a - 85) (by omega)).2.2.2
  dsimp only at hE
  rw [show 85 + (a - 85) = a by omega] at hE
  have e : pm_lenT.getD (a - 85) 0 = pm_al a := by
    rcases (show a = 85 ∨ a = 86 ∨ a = 87 by omega) with rfl | rfl | rfl <;> rfl
  rw [e] at hE
  exact hE
theorem sm_ba (hd : decode cc pc = .ok (.baload, 1)) : pm_Sim K l mt own cc nL rt pcb pc (pc + 1) (ac_ba) := by
  intro p e R s m args below meth c cells slots Q C ls st h o ho
  obtain ⟨hx, hb, hml, hown, hts, hSt, hJ, hf1, hl1, hc1, hs1⟩ := C
  obtain ⟨i, a, r, rfl, ha, hi, rfl⟩ := ac_ba_e ho
  exact fun G H locs lr hP hS hL => va_tb hx hb (pm_byT hSt ha) hS (pm_ix_e hi) rfl hd (G H locs lr hP hS hL)
theorem sm_lb (hd : decode cc pc = .ok (.arraylength, 1)) : pm_Sim K l mt own cc nL rt pcb pc (pc + 1) (ac_lb) := by
  intro p e R s m args below meth c cells slots Q C ls st h o ho
  obtain ⟨hx, hb, hml, hown, hts, hSt, hJ, hf1, hl1, hc1, hs1⟩ := C
  obtain ⟨a, r, rfl, ha, rfl⟩ := ac_lb_e ho
  exact fun G H locs lr hP hS hL => va_tlen hx hb (pm_byT hSt ha) hS rfl hd (G H locs lr hP hS hL)
theorem sm_cs {idx y n ml : Nat} {yn : MethodName} {bc : ByteArray} {yr : Option FieldType} (hd : decode cc pc = .ok (.invokestatic idx, 3)) (hy : mt y = (yn, bc, ml, yr)) (hc : Cond.code yn bc ml yr ∈ pm_big) (hL0 : pm_LS0 own idx yn n) : pm_Sim K l mt own cc nL rt pcb pc (pc + 3) (ac_cs y n) := by
  intro p e R s m args below meth c cells slots Q C ls st h o ho
  obtain ⟨hx, hb, hml, hown, hts, hSt, hJ, hf1, hl1, hc1, hs1⟩ := C
  obtain ⟨as, r, hn, rfl, hcs, rfl⟩ := ac_cs_e ho
  obtain ⟨hlink, h2, h3, h4⟩ := hL0
  intro v h'' hM G H locs lr hP hS hL
  obtain ⟨rm, m1, m2, m3, m4, hM⟩ := hM
  have hst : ((as.reverse ++ r).map (pm_mv K)) = (as.map (pm_mv K)).reverse ++ r.map (pm_mv K) := by
    rw [List.map_append, List.map_reverse]
  have hws : pm_ws mt y = .code yn bc ml yr :: pm_big := by unfold pm_ws; rw [hy]
  have hwsin : ∀ w ∈ pm_ws mt y, w ∈ pm_big := by
    rw [hws]; intro w hw
    rcases List.mem_cons.mp hw with rfl | hw
    · exact hc
    · exact hw
  rw [hy] at m4 hM
  have hpre : PreS s H (pm_Pre K as h) (as.map (pm_mv K)) := ⟨pm_blind as h, pm_pre hSt hP hS as⟩
  have hroom := lv_room (m := m) (pc := pc) (ls := lr) (rest := (as.map (pm_mv K)).reverse ++ r.map (pm_mv K)) (st := r.map (pm_mv K)) (by rw [pm_cs_sum]; exact hcs)
  have hGo : ∀ (H1 : Heap) (locs1 : List Loc), va_P K.1 vwCl (pm_wd K h'') H1 → va_S (pm_A K) s.heap H1 locs1 → W p l e R s m args below meth c H1 locs1 cells slots Q (F0 m (pc + 3) lr ((v.map (pm_mv K)).toList ++ r.map (pm_mv K))) := by
    intro H1 locs1 g1 g2
    have g := G H1 locs1 lr g1 g2 hL
    rw [List.map_append] at g
    cases v <;> exact g
  rw [hst]
  rcases hlink with hlink | ⟨host, hlink⟩
  · exact pm_call (va_runS (As := as.map (pm_mv K)) (rest := r.map (pm_mv K)) ⟨hx, hb, hml, hown, hts⟩ hM (va_cwS n hts (pm_good (fun w hw => by
      unfold va_wsS at hw
      rcases List.mem_append.mp hw with hw | hw
      · simp only [List.mem_cons, List.not_mem_nil, or_false] at hw
        rcases hw with rfl | rfl | rfl
        · exact hlink
        · exact h2
        · exact h3
      · exact hwsin w hw)) hws m1 m2 h4 ⟨m3, m4⟩) hpre rfl (by rw [List.length_map]; exact hn) hL.1 rfl hroom hd ⟨hc1, hs1⟩) hS hGo
  · exact pm_call (va_runSN (As := as.map (pm_mv K)) (rest := r.map (pm_mv K)) ⟨hx, hb, hml, hown, hts⟩ hM ⟨va_cnB n hts (pm_good hwsin) hws m1 m2 (hSt.2.1 _ hlink) (hts _ h3) h4 ⟨m3, m4⟩, hts _ h2, trivial⟩ hpre rfl (by rw [List.length_map]; exact hn) hL.1 rfl hroom hd ⟨hc1, hs1⟩) hS hGo
/-- a call of a cell's method, whatever the cell is -/
theorem pm_callV {idx y n ml : Nat} {yn : MethodName} {bc : ByteArray} {yr : Option FieldType} {Cn : String} (C : pm_Cx K p R s m args c cells slots own cc nL) (hd : decode cc pc = .ok (.invokevirtual idx, 3)) (hy : mt y = (yn, bc, ml, yr)) (hc : Cond.code yn bc ml yr ∈ pm_big) (hL0 : pm_LV own idx Cn yn n)
    {as r : List Value} {a : Nat} (hn : as.length = n) (hcs : pm_cs r ≤ 8) {ls : pm_LS} {h h'' : pm_HP} {v : Option Value} (hM : pm_M K l mt R y (.ref a :: as) h v h'') {H : Heap} {locs : List Loc} {lr : Array Slot} (hP : va_P K.1 vwCl (pm_wd K h) H) (hS : va_S (pm_A K) s.heap H locs) (hL : pm_LR K nL ls lr)
    (hrec : ∃ cellB : Cell, H[K.2.1 a]? = some cellB ∧ cellB.vm.isStatics = false ∧ s.vm.findClass Cn = some cellB.cls)
    (G : pm_G K p l e R s m args below meth c cells slots Q nL (pc + 3) ls (v.toList ++ r) h'') : W p l e R s m args below meth c H locs cells slots Q (F0 m pc lr ((as.reverse ++ .ref a :: r).map (pm_mv K))) := by
  obtain ⟨hx, hb, hml, hown, hts, hSt, hJ, hf1, hl1, hc1, hs1⟩ := C
  obtain ⟨rm, m1, m2, m3, m4, hM⟩ := hM
  have hst : ((as.reverse ++ .ref a :: r).map (pm_mv K)) = (as.map (pm_mv K)).reverse ++ .ref (K.2.1 a) :: r.map (pm_mv K) := by
    rw [List.map_append, List.map_reverse]; rfl
  have hws : pm_ws mt y = .code yn bc ml yr :: pm_big := by unfold pm_ws; rw [hy]
  have hwsin : ∀ w ∈ pm_ws mt y, w ∈ pm_big := by
    rw [hws]; intro w hw
    rcases List.mem_cons.mp hw with rfl | hw
    · exact hc
    · exact hw
  rw [hy] at m4 hM
  have hpre : PreV s H Cn (K.2.1 a) (pm_Pre K (.ref a :: as) h) (as.map (pm_mv K)) := ⟨pm_blind _ h, hrec, pm_pre hSt hP hS (.ref a :: as)⟩
  have hroom := lv_room (m := m) (pc := pc) (ls := lr) (rest := (as.map (pm_mv K)).reverse ++ .ref (K.2.1 a) :: r.map (pm_mv K)) (st := r.map (pm_mv K)) (by rw [pm_cs_sum]; exact hcs)
  have hGo : ∀ (H1 : Heap) (locs1 : List Loc), va_P K.1 vwCl (pm_wd K h'') H1 → va_S (pm_A K) s.heap H1 locs1 → W p l e R s m args below meth c H1 locs1 cells slots Q (F0 m (pc + 3) lr ((v.map (pm_mv K)).toList ++ r.map (pm_mv K))) := by
    intro H1 locs1 g1 g2
    have g := G H1 locs1 lr g1 g2 hL
    rw [List.map_append] at g
    cases v <;> exact g
  rw [hst]
  rcases hL0 with ⟨h1, h2, h3, h4, h5⟩ | ⟨x, owner, h1, h2, h3, h4, h5, h6, h7⟩
  · exact pm_call (va_runV (As := as.map (pm_mv K)) (rest := r.map (pm_mv K)) ⟨hx, hb, hml, hown, hts⟩ hM (cwV n hts (pm_good (fun w hw => by
      unfold wsV at hw
      rcases List.mem_append.mp hw with hw | hw
      · simp only [List.mem_cons, List.not_mem_nil, or_false] at hw
        rcases hw with rfl | rfl | rfl | rfl
        · exact h1
        · exact h2
        · exact h3
        · exact h4
      · exact hwsin w hw)) hws m1 m2 h5 ⟨m3, m4⟩) hpre rfl (by rw [List.length_map]; exact hn) hL.1 rfl hroom hd ⟨hc1, hs1⟩) hS hGo
  · exact pm_call (va_runU (As := as.map (pm_mv K)) (rest := r.map (pm_mv K)) ⟨hx, hb, hml, hown, hts⟩ hM (va_cwU (C := Cn) (owner := owner) (x := x) n hts (pm_good (fun w hw => by
      unfold va_wsU at hw
      rcases List.mem_append.mp hw with hw | hw
      · simp only [List.mem_cons, List.not_mem_nil, or_false] at hw
        rcases hw with rfl | rfl | rfl | rfl | rfl
        · exact h1
        · exact h2
        · exact h3
        · exact h4
        · exact h5
      · exact hwsin w hw)) hws m1 m2 h6 h7 ⟨m3, m4⟩) hpre rfl (by rw [List.length_map]; exact hn) hL.1 rfl hroom hd ⟨hc1, hs1⟩) hS hGo
/-- which class a kind is -/
def pm_cn (ci : Nat) : String := match vwCl[ci]? with
  | some q => q.1
  | none => ""
theorem pm_recv (hSt : pm_St K s s.heap) {h : pm_HP} {H : Heap} (hP : va_P K.1 vwCl (pm_wd K h) H) {a : Nat} {q : vw_C} (hq : vwCl[pm_kd a]? = some q) : ∃ cellB : Cell, H[K.2.1 a]? = some cellB ∧ cellB.vm.isStatics = false ∧ s.vm.findClass (pm_cn (pm_kd a)) = some cellB.cls := by
  have hl : pm_kd a < 10 := (List.getElem?_eq_some_iff.mp hq).1
  have e : pm_cn (pm_kd a) = q.1 := by unfold pm_cn; rw [hq]
  rw [e]
  exact va_recv (D := K.1) hSt.1 hP hq (q0 := a) (by rw [pm_wd_get K h (pm_kd_w (by omega)), pm_cell_o K h (by omega)])
theorem sm_cv {idx y n ml : Nat} {cs : List Nat} {yn : MethodName} {bc : ByteArray} {yr : Option FieldType} (hd : decode cc pc = .ok (.invokevirtual idx, 3)) (hy : mt y = (yn, bc, ml, yr)) (hc : Cond.code yn bc ml yr ∈ pm_big) (hL0 : ∀ ci ∈ cs, ci < 10 ∧ pm_LV own idx (pm_cn ci) yn n) : pm_Sim K l mt own cc nL rt pcb pc (pc + 3) (ac_cv y n cs) := by
  intro p e R s m args below meth c cells slots Q C ls st h o ho
  obtain ⟨as, r, a, hn, rfl, ha, hcs, rfl⟩ := ac_cv_e ho
  intro v h'' hM G H locs lr hP hS hL
  obtain ⟨hci, hV⟩ := hL0 _ (pm_is_e ha)
  have hq : ∃ q, vwCl[pm_kd a]? = some q := ⟨_, List.getElem?_eq_getElem (show pm_kd a < vwCl.length from hci)⟩
  obtain ⟨q, hq⟩ := hq
  exact pm_callV C hd hy hc hV hn hcs hM hP hS hL (pm_recv C.2.2.2.2.2.1 hP hq) G
theorem sm_ct {idx y n ml : Nat} {yn : MethodName} {bc : ByteArray} {yr : Option FieldType} (hd : decode cc pc = .ok (.invokevirtual idx, 3)) (hy : mt y = (yn, bc, ml, yr)) (hc : Cond.code yn bc ml yr ∈ pm_big) (hL0 : pm_LV own idx "java/lang/String" yn n) : pm_Sim K l mt own cc nL rt pcb pc (pc + 3) (ac_ct y n) := by
  intro p e R s m args below meth c cells slots Q C ls st h o ho
  obtain ⟨as, r, a, hn, rfl, ha, hcs, rfl⟩ := ac_ct_e ho
  intro v h'' hM G H locs lr hP hS hL
  have hk := pm_kd_t ha
  have hrec := vk_recv C.2.2.2.2.2.1.2.2.2.2.1 (i := a - 80) (by omega) hS
  rw [show 80 + (a - 80) = a by omega] at hrec
  exact pm_callV C hd hy hc hL0 hn hcs hM hP hS hL hrec G
theorem ac_cp_e {ls : pm_LS} {st : List Value} {h : pm_HP} {o : pm_Out} (ho : ac_cp ls st h = some o) : ∃ (n dp sp : Int32) (a1 a0 : Nat) (r : List Value), st = .int n :: .int dp :: .ref a1 :: .int sp :: .ref a0 :: r ∧ (pm_kd a0 = 20 ∧ pm_kd a1 = 20 ∧ 0 ≤ sp ∧ 0 ≤ dp ∧ 0 ≤ n ∧ sp.toNatClampNeg + n.toNatClampNeg ≤ pm_al a0 ∧ dp.toNatClampNeg + n.toNatClampNeg ≤ pm_al a1 ∧ pm_cs r ≤ 8) ∧ o = .inl (ls, r, pm_cp h a0 a1 sp.toNatClampNeg dp.toNatClampNeg n.toNatClampNeg) := by
  unfold ac_cp at ho
  split at ho
  · split at ho
    · rename_i h3
      cases ho; exact ⟨_, _, _, _, _, _, rfl, h3, rfl⟩
    · cases ho
  · cases ho
theorem pm_nfw : nativeFrameWords "java/lang/System" "arraycopy" 5 + 11 ≤ 50 := by decide +kernel
theorem sm_cp {idx : Nat} (hd : decode cc pc = .ok (.invokestatic idx, 3)) (h1 : Cond.methodLink own idx arraycopyName ∈ pm_big) (h2 : Cond.native arraycopyName ∈ pm_big) (h3 : Cond.static arraycopyName ∈ pm_big) (h4 : Cond.initialized "java/lang/System" ∈ pm_big) : pm_Sim K l mt own cc nL rt pcb pc (pc + 3) (ac_cp) := by
  intro p e R s m args below meth c cells slots Q C ls st h o ho
  obtain ⟨hx, hb, hml, hown, hts, hSt, hJ, hf1, hl1, hc1, hs1⟩ := C
  obtain ⟨n, dp, sp, a1, a0, r, rfl, ⟨k0, k1, hsp, hdp, hn, b0, b1, hcs⟩, rfl⟩ := ac_cp_e ho
  intro G H locs lr hP hS hL
  have hset : (pm_wd K h).set a1 (K.2.1 a1, .inl (K.2.2.1, pm_al a1, .inl (va_cpy (h.1 a0) (h.1 a1) sp.toNatClampNeg dp.toNatClampNeg n.toNatClampNeg))) = pm_wd K (pm_cp h a0 a1 sp.toNatClampNeg dp.toNatClampNeg n.toNatClampNeg) := by
    refine pm_wd_set ?_ (fun j hj => pm_cell_cp K h _ _ _ _ _ hj)
    rw [pm_cell_a K _ k1]
    congr 4
    funext b
    show (if a1 = a1 then _ else _) = _
    rw [if_pos rfl]
  have hnw := pm_nfw
  refine va_copyi hx hb (hml.trans hL.1.symm) hown (hts _ h1) (hts _ h2) (hts _ h3) (hts _ h4) hSt.1 hP (pm_wd_D hJ h) hS a0 a1 0 0 (ty := .int) (by rw [pm_wd_get K h (pm_kd_w (by omega)), pm_cell_a K h k0]) (by rw [pm_wd_get K h (pm_kd_w (by omega)), pm_cell_a K h k1]) rfl rfl rfl (Int32.not_lt.mpr hsp) (Int32.not_lt.mpr hdp) (Int32.not_lt.mpr hn) b0 b1 (fun _ _ => rfl) hf1 (by rw [pm_cs_sum]; omega) hd (fun H1 locs1 g1 _ g3 => ?_)
  exact G H1 locs1 lr (by rw [← hset]; exact g1) g3 hL
end SM
