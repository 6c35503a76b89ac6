/-! A PURE RUN IS WHAT THE MACHINE DOES -/
theorem pm_in0_e (K : pm_K) : ∀ (vs : List Value) (i j : Nat) (v : Value), (pm_in0 vs)[j]? = some (some v) → (i + j, pm_mv K v) ∈ lv_args i (vs.map (pm_mv K))
  | [], i, j, v, h => by simp [pm_in0] at h
  | x :: vs, i, j, v, h => by
    have hc := pm_mv_cat K x
    simp only [List.map_cons, lv_args, hc]
    by_cases h2 : x.category = 2
    · rw [pm_in0, if_pos h2] at h
      rw [if_pos h2]
      match j, h with
      | 0, h =>
        have h : x = v := Option.some.inj (Option.some.inj h)
        rw [h]; exact List.mem_cons_self
      | 1, h => cases h
      | j + 2, h =>
        refine List.mem_cons_of_mem _ ?_
        have g := pm_in0_e K vs (i + 2) j v h
        rw [show i + (j + 2) = i + 2 + j by omega]
        exact g
    · rw [pm_in0, if_neg h2] at h
      rw [if_neg h2]
      match j, h with
      | 0, h =>
        have h : x = v := Option.some.inj (Option.some.inj h)
        rw [h]; exact List.mem_cons_self
      | j + 1, h =>
        refine List.mem_cons_of_mem _ ?_
        have g := pm_in0_e K vs (i + 1) j v h
        rw [show i + (j + 1) = i + 1 + j by omega]
        exact g
theorem pm_in0_len (K : pm_K) : ∀ vs : List Value, (lg_sl (vs.map (pm_mv K))).length = (pm_in0 vs).length
  | [] => rfl
  | x :: vs => by
    have hc := pm_mv_cat K x
    have e : lg_sl ((x :: vs).map (pm_mv K)) = (if (pm_mv K x).category = 2 then [Slot.val (pm_mv K x), Slot.second] else [Slot.val (pm_mv K x)]) ++ lg_sl (vs.map (pm_mv K)) := by
      simp [lg_sl]
    rw [e, List.length_append, pm_in0_len K vs, hc, pm_in0]
    by_cases h2 : x.category = 2
    · rw [if_pos h2, if_pos h2]; simp; omega
    · rw [if_neg h2, if_neg h2]; simp; omega
theorem pm_ini_LR (K : pm_K) {as : List Value} {n : Nat} (h : (pm_in0 as).length ≤ n) : pm_LR K n (pm_ini n as) ((lg_sl (as.map (pm_mv K)) ++ List.replicate (n - (lg_sl (as.map (pm_mv K))).length) Slot.unset).toArray) := by
  obtain ⟨h1, h2, h3⟩ := lv_entry (as.map (pm_mv K)) (n := n) (by rw [pm_in0_len]; exact h)
  refine ⟨h1, h2, ?_, fun i v hv => ?_⟩
  · unfold pm_ini; simp; omega
  · unfold pm_ini at hv
    have hi : i < (pm_in0 as).length := by
      rcases Nat.lt_or_ge i (pm_in0 as).length with q | q
      · exact q
      · rw [List.getElem?_append_right q] at hv
        simp [List.getElem?_replicate] at hv
    rw [List.getElem?_append_left hi] at hv
    have g := pm_in0_e K as 0 i v hv
    rw [Nat.zero_add] at g
    exact h3 (i, pm_mv K v) g
/-- what method y answers, with d calls open at most -/
noncomputable def pm_rs (pg : Nat → Nat → List pm_Ac) (mt : pm_T) : Nat → Nat → List Value → pm_HP → Option pm_RV
  | 0 => fun _ _ _ => none
  | d + 1 => fun y as h => if (pm_in0 as).length ≤ (mt y).2.2.1 then pm_ev (pg y) (pm_rs pg mt d) (pg y 0) (pm_ini (mt y).2.2.1 as) [] h else none
def pm_SimB (K : pm_K) (l : Launch) (mt : pm_T) (own : String) (cc : ByteArray) (nL : Nat) (rt : Option FieldType) (pcb : Nat → Nat) : Nat → List pm_Ac → Prop
  | _, [] => True
  | pc, a :: k => ∃ pc', pm_Sim K l mt own cc nL rt pcb pc pc' a ∧ pm_SimB K l mt own cc nL rt pcb pc' k
/-- method y's actions are its bytecode -/
def pm_MOk (K : pm_K) (l : Launch) (pg : Nat → Nat → List pm_Ac) (mt : pm_T) (y : Nat) : Prop :=
  plainName (mt y).1.cls = true ∧ (mt y).2.2.1 ≤ 40 ∧ ∃ pcb : Nat → Nat, pcb 0 = 0 ∧ ∀ b, pm_SimB K l mt (mt y).1.cls (mt y).2.1 (mt y).2.2.1 (mt y).2.2.2 pcb (pcb b) (pg y b)
def pm_rm (d : Nat) : Room := { frames := d, cells := 0, slots := 0, locals := 64 * d }
/-- a run of actions, whatever is done at its end -/
theorem pm_run {K : pm_K} {l : Launch} {pg : Nat → Nat → List pm_Ac} {mt : pm_T} {own : String} {cc : ByteArray} {nL : Nat} {rt : Option FieldType} {pcb : Nat → Nat} {pgy : Nat → List pm_Ac} {cal : Nat → List Value → pm_HP → Option pm_RV}
    {p : Program} {e : Env} {R : Room} {s : State} {m : MethodId} {args : Array Value} {below : List Frame} {meth : Method} {c : Code} {cells slots : Nat} {Q : State → Prop} (C : pm_Cx K p R s m args c cells slots own cc nL)
    (hB : ∀ b, pm_SimB K l mt own cc nL rt pcb (pcb b) (pgy b))
    (hcal : ∀ (y : Nat) (as : List Value) (h : pm_HP) (v : Option Value) (h' : pm_HP), cal y as h = some (v, h') → pm_M K l mt R y as h v h')
    {v : Option Value} {h' : pm_HP}
    (hret : ∀ (pc : Nat) (ls : pm_LS), pm_ret cc rt pc v → pm_G K p l e R s m args below meth c cells slots Q nL pc ls v.toList h') :
    ∀ (n : Nat) (k : List pm_Ac) (pc : Nat) (ls : pm_LS) (st : List Value) (h : pm_HP), pm_SimB K l mt own cc nL rt pcb pc k → pm_rn pgy cal n k ls st h = some (v, h') → pm_G K p l e R s m args below meth c cells slots Q nL pc ls st h := by
  intro n
  induction n with
  | zero => intro k pc ls st h _ hr; cases hr
  | succ n ih =>
    intro k pc ls st h hk hr
    cases k with
    | nil => cases hr
    | cons a k =>
      obtain ⟨pc', hs, hk⟩ := hk
      rw [pm_rn] at hr
      cases ha : a ls st h with
      | none => rw [ha] at hr; cases hr
      | some o =>
        rw [ha] at hr
        have g := hs p e R s m args below meth c cells slots Q C ls st h o ha
        rcases o with ⟨ls', st', h1⟩ | ⟨b, ls', st', h1⟩ | ⟨v0, h0⟩ | ⟨y, as, ls', st', h1⟩
        · exact g (ih _ _ _ _ _ hk hr)
        · exact g (ih _ _ _ _ _ (hB b) hr)
        · obtain ⟨g1, rfl, rfl⟩ := g
          cases hr
          exact hret pc ls g1
        · dsimp only at hr
          cases hc : cal y as h1 with
          | none => rw [hc] at hr; cases hr
          | some vh =>
            obtain ⟨v1, h2⟩ := vh
            rw [hc] at hr
            exact g v1 h2 (hcal y as h1 v1 h2 hc) (ih _ _ _ _ _ hk hr)
theorem pm_master {K : pm_K} {l : Launch} {pg : Nat → Nat → List pm_Ac} {mt : pm_T} (hJ : pm_Inj K) (hok : ∀ y, (∀ b, pg y b = []) ∨ pm_MOk K l pg mt y) (hml : ∀ y, (mt y).2.2.1 ≤ 40) : ∀ (d y : Nat) (as : List Value) (h : pm_HP) (v : Option Value) (h' : pm_HP), pm_rs pg mt d y as h = some (v, h') → Met l (mt y).1 (pm_ws mt y) (pm_rm d) (pm_Pre K as h) (pm_Post K v h') 0 0 (pm_A K) := by
  intro d
  induction d with
  | zero => intro y as h v h' hr; cases hr
  | succ d ih =>
    intro y as h v h' hr
    have hr : (if (pm_in0 as).length ≤ (mt y).2.2.1 then pm_ev (pg y) (pm_rs pg mt d) (pg y 0) (pm_ini (mt y).2.2.1 as) [] h else none) = some (v, h') := hr
    by_cases hlen : (pm_in0 as).length ≤ (mt y).2.2.1
    · rw [if_pos hlen, pm_ev_iff] at hr
      obtain ⟨n, hr⟩ := hr
      rcases hok y with hno | ⟨hpl, h40, pcb, hp0, hB⟩
      · rw [hno 0] at hr
        cases n <;> cases hr
      · refine Met.ofW (cc := (mt y).2.1) (maxL := (mt y).2.2.1) (ret := (mt y).2.2.2) hpl rfl ?_
        intro p e s m args below meth c s₁ B hmlc hv
        obtain ⟨rfl, hP, hSt⟩ := hv
        have hts := atoms_spec (ws := pm_ws mt y) B.pre
        have hown : s.vm.findClass (mt y).1.cls = some m.cls := findClass_of_methodNamed B.named
        have hlocks := B.notSynchronized
        have C : pm_Cx K p (pm_rm (d + 1)) s m (as.map (pm_mv K)).toArray c 0 0 (mt y).1.cls (mt y).2.1 (mt y).2.2.1 :=
          ⟨B.exec, B.bytes, hmlc, hown, fun w hw => hts w (List.mem_cons_of_mem _ hw), hSt, hJ, Nat.le_add_left 1 d, by show 64 ≤ 64 * (d + 1); omega, Nat.le_refl 0, Nat.le_refl 0⟩
        have hx := B.exec
        have hb := B.bytes
        have hrt := B.returns
        rw [lg_entry_eq]
        have G := pm_run (pg := pg) (e := e) (below := below) (meth := meth) (Q := MQ below (pm_Post K v h') (as.map (pm_mv K)).toArray s 0 0 (pm_A K)) C hB (cal := pm_rs pg mt d) (v := v) (h' := h') (fun y1 as1 h1 v1 h2 hc => ?_) (fun pc ls hret => ?_) n (pg y 0) 0 (pm_ini (mt y).2.2.1 as) [] h (by have := hB 0; rwa [hp0] at this) hr
        · exact G s.heap [] _ hP va_S.rf (pm_ini_LR K hlen)
        · exact ⟨pm_rm d, rfl, rfl, Nat.le_refl _, by show 8 + ((mt y1).2.2.1 + 11) + 64 * d ≤ 64 * (d + 1); have := hml y1; omega, ih y1 as1 h1 v1 h2 hc⟩
        · intro H locs lr hP1 hS1 hL1
          have hq : ∀ t : State, t.heap = H → s.WarmedH t.vm → pm_Post K v h' (as.map (pm_mv K)).toArray s (.returned (v.map (pm_mv K))) t := fun t ht hW => ⟨rfl, by rw [ht]; exact hP1, hS1.F ht⟩
          match v, hret, hq with
          | none, hret, hq => exact W.vret hx hb (by rw [hrt]; exact hret.1) hq hS1.2.2 hret.2
          | some (.int x), hret, hq =>
            obtain ⟨h1, ty, h2, h3⟩ := hret
            exact W.zret hx hb (by rw [hrt]; exact h2) h3 hq hS1.2.2 h1
          | some (.long x), hret, hq => exact W.lret hx hb (by rw [hrt]; exact hret.2) hq hS1.2.2 hret.1
          | some .null, hret, hq =>
            obtain ⟨h1, nn, h2⟩ := hret
            exact W.aret hx hb (by rw [hrt]; exact h2) (Or.inl ⟨nn, rfl⟩) (Or.inl rfl) hq hS1.2.2 h1
          | some (.ref x), hret, hq =>
            obtain ⟨h1, nn, h2⟩ := hret
            exact W.aret hx hb (by rw [hrt]; exact h2) (Or.inl ⟨nn, rfl⟩) (Or.inr ⟨_, rfl⟩) hq hS1.2.2 h1
          | some (.float x), hret, hq => exact hret.elim
          | some (.double x), hret, hq => exact hret.elim
          | some (.retAddr x), hret, hq => exact hret.elim
    · rw [if_neg hlen] at hr; cases hr
