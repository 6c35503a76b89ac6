/-! THE MACHINE BENEATH: an action is what an instruction does -/
abbrev pm_K : Type := va_G × (Nat → Nat) × ClassId × ClassId × ClassId × Bool
def pm_mv (K : pm_K) (v : Value) : Value := match v with
  | .ref i => .ref (K.2.1 i)
  | v => v
def pm_cell (K : pm_K) (h : pm_HP) (i : Nat) : va_E :=
  if pm_kd i < 20 then .inr (pm_kd i, (List.range (pm_nf (pm_kd i))).map (fun k => pm_mv K (pm_val h i k)))
  else if pm_kd i = 20 then .inl (K.2.2.1, pm_al i, .inl (h.1 i))
  else .inl (if pm_kd i = 21 then K.2.2.2.1 else K.2.2.2.2.1, pm_al i, .inr (.inr (.inr (.inr (fun k => some (K.2.1 (pm_rf i k)))))))
def pm_wd (K : pm_K) (h : pm_HP) : va_W := (List.range 76).map (fun i => (K.2.1 i, pm_cell K h i))
def pm_A (K : pm_K) : Nat → Prop := fun q => ∃ i, i < 76 ∧ q = K.2.1 i
def pm_tys (K : pm_K) : List (ClassId × FieldType) := [(K.2.2.1, .int), (K.2.2.2.1, .object "NeedleLine$Sheet"), (K.2.2.2.2.1, .object "java/lang/String")]
def pm_nest : List Cond := tables_1.filter (fun w => match w with
  | .fieldLinkNest _ _ _ _ _ _ => true
  | .methodLinkNest _ _ _ _ => true
  | _ => false)
def pm_sN : List (String × Nat) := [("LEAST_OF_MILE", 4), ("MOST_OF_MILE", 4), ("KIND_ABOVE", 7), ("BODIES", 28)]
def pm_tR : List (String × Nat × String × Nat) := [("NeedleLine", 158, "insat", 80), ("NeedleLine", 160, "ilwc", 81), ("NeedleLine$Parser", 27, "", 82), ("NeedleLineModel", 30, "insat", 80), ("NeedleLineModel", 32, "ilwc", 81)]
/-- a formatter that nobody asks: null or not -/
def pm_fv (b : Bool) : Value := if b = true then .ref 89 else .null
/-- what stays of the start: classes, links, constant rows, texts -/
def pm_St (K : pm_K) (U : State) (H : Heap) : Prop :=
  va_K K.1 vwCl (pm_tys K) U ∧ (∀ w ∈ pm_nest, va_Nw w U) ∧
  (∀ (j : Nat) (q : String × Nat), pm_sN[j]? = some q → va_Z "NeedleLine" q.1 "[I" (.ref (K.2.1 (76 + j))) (pm_A K) U H ∧ va_T .int (K.2.1 (76 + j)) q.2 (fun k => .int (pm_sv (76 + j) k)) (pm_A K) U H) ∧
  (∀ (j : Nat) (q : String × Nat × String × Nat), pm_tR[j]? = some q → vk_R q.1 q.2.1 q.2.2.1 (K.2.1 q.2.2.2) U) ∧
  vk_S 3 pm_lenT pm_bytT (fun j => K.2.1 (80 + j)) (fun j => K.2.1 (85 + j)) (pm_A K) U H ∧
  va_Z "java/lang/String" "COMPACT_STRINGS" "Z" (.int 1) (pm_A K) U H ∧
  va_Z "jdk/internal/util/Preconditions" "SIOOBE_FORMATTER" "Ljava/util/function/BiFunction;" (pm_mv K (pm_fv K.2.2.2.2.2)) (pm_A K) U H
theorem pm_nest_warm {s U : State} (hW : s.WarmedH U.vm) : ∀ w ∈ pm_nest, va_Nw w s → va_Nw w U := by
  intro w hw h
  have h1 := (List.mem_filter.mp hw).2
  cases w <;> first | exact va_Nw.warmF hW h | exact va_Nw.warmM hW h | (simp at h1; done)
theorem pm_St.go {K : pm_K} {s U : State} {H : Heap} {locs : List Loc} (h : pm_St K s s.heap) (hW : s.WarmedH U.vm) (hS : va_S (pm_A K) s.heap H locs) : pm_St K U H := by
  obtain ⟨h1, h2, h3, h4, h5, h6, h7⟩ := h
  have ha := hW.alike
  refine ⟨va_K.moved ha h1, fun w hw => pm_nest_warm hW w hw (h2 w hw), fun j q hq => ?_, fun j q hq => vk_R.warm hW (h4 j q hq), vk_S.moved ha (vk_S.kept h5 hS.2.1), va_Z.moved ha (va_Z.kept h6 hS.2.1), va_Z.moved ha (va_Z.kept h7 hS.2.1)⟩
  exact ⟨va_Z.moved ha (va_Z.kept (h3 j q hq).1 hS.2.1), va_T.moved ha (va_T.kept (h3 j q hq).2 hS.2.1)⟩
theorem pm_St.same {K : pm_K} {u U : State} {H : Heap} (hv : u.vm = U.vm) (h : pm_St K u H) : pm_St K U H := by
  obtain ⟨h1, h2, h3, h4, h5, h6, h7⟩ := h
  have ha : u.vm.Alike U.vm := by rw [hv]; exact Vm.Alike.refl U.vm
  refine ⟨va_K.moved ha h1, fun w hw => va_Nw.same ?_ hv (h2 w hw), fun j q hq => ?_, fun j q hq => vk_R.same hv.symm (h4 j q hq), vk_S.moved ha h5, va_Z.moved ha h6, va_Z.moved ha h7⟩
  · have h1 := (List.mem_filter.mp hw).2
    cases w <;> first | rfl | (simp at h1; done)
  · exact ⟨va_Z.moved ha (h3 j q hq).1, va_T.moved ha (h3 j q hq).2⟩
/-- the addresses of the world's cells are apart -/
def pm_Inj (K : pm_K) : Prop := ∀ i j : Nat, i < 76 → j < 76 → K.2.1 i = K.2.1 j → i = j
theorem pm_wd_get (K : pm_K) (h : pm_HP) {i : Nat} (hi : i < 76) : (pm_wd K h)[i]? = some (K.2.1 i, pm_cell K h i) := by
  simp [pm_wd, hi]
theorem pm_wd_D {K : pm_K} (hJ : pm_Inj K) (h : pm_HP) : va_D (pm_A K) (pm_wd K h) := by
  have key : ∀ (i : Nat) (p : Nat × va_E), (pm_wd K h)[i]? = some p → i < 76 ∧ p.1 = K.2.1 i := by
    intro i p hp
    have hi : i < 76 := by
      have := (List.getElem?_eq_some_iff.mp hp).1
      simpa [pm_wd] using this
    rw [pm_wd_get K h hi] at hp
    exact ⟨hi, by rw [← Option.some.inj hp]⟩
  refine ⟨fun i j p q hp hq e => ?_, fun i q hq => ?_⟩
  · obtain ⟨h1, h2⟩ := key i p hp
    obtain ⟨h3, h4⟩ := key j q hq
    exact hJ i j h1 h3 (by rw [← h2, ← h4]; exact e)
  · obtain ⟨h1, h2⟩ := key i q hq
    exact ⟨i, h1, h2⟩
/-- a cell written -/
theorem pm_wd_set {K : pm_K} {h h' : pm_HP} {i : Nat} {E : va_E} (he : pm_cell K h' i = E) (ho : ∀ j, j ≠ i → pm_cell K h' j = pm_cell K h j) : (pm_wd K h).set i (K.2.1 i, E) = pm_wd K h' := by
  apply List.ext_getElem?
  intro j
  by_cases hj : j < 76
  · by_cases hij : i = j
    · subst hij
      rw [List.getElem?_set_self (by simpa [pm_wd] using hj), pm_wd_get K h' hj, he]
    · rw [List.getElem?_set_ne hij, pm_wd_get K h hj, pm_wd_get K h' hj, ho j (Ne.symm hij)]
  · rw [List.getElem?_eq_none (by simp [pm_wd]; omega), List.getElem?_eq_none (by simp [pm_wd]; omega)]
/-- the locals -/
def pm_LR (K : pm_K) (nL : Nat) (ls : pm_LS) (lr : Array Slot) : Prop := lr.size = nL ∧ lv_wf lr ∧ ls.length ≤ nL ∧ ∀ (i : Nat) (v : Value), ls[i]? = some (some v) → lr[i]? = some (.val (pm_mv K v))
def pm_bigQ (w : Cond) : Bool := goodWord w
/-- a private method of Table is selected for a Slips, too -/
def pm_x1 : Cond := .selects "NeedleLine$Slips" ⟨"NeedleLine$Table", "holds", "(II)Z"⟩ ⟨"NeedleLine$Table", "holds", "(II)Z"⟩
def pm_big : List Cond := pm_x1 :: lw_tbl.filter pm_bigQ
theorem pm_x1_of {y : MethodName} {C : String} {s : State} {args : Array Value} {n n2 : Nat} (hy : y.cls ≠ "java/lang/invoke/MethodHandle" ∧ y.cls ≠ "java/lang/invoke/VarHandle") (hC : (Cond.instantiable C n2).before args s = true)
    (hins : (Cond.instantiable y.cls n).before args s = true) (hpriv : (Cond.privateMethod y).before args s = true) (hinst : (Cond.instanceMethod y).before args s = true) :
    (Cond.selects C y y).before args s = true := by
  obtain ⟨c0, k0, hc0, hk0, -, -, -, -⟩ := Cond.instantiable_spec hC
  obtain ⟨c, k, hc, hk, -, hniab, -, -⟩ := Cond.instantiable_spec hins
  have hni : k.isInterface = false := (Bool.or_eq_false_iff.mp hniab).1
  obtain ⟨mk, methM, hnamed, hmethM, -, -⟩ := Cond.instanceMethod_spec hinst
  have hfound : s.methodFound? y.cls y.name y.desc = some mk := State.methodFound?_of_named hnamed hy
  have hcls : mk.cls = c := Option.some.inj ((findClass_of_methodNamed hnamed).symm.trans hc)
  have hsel : selectMethod {} s.vm c0 mk = .method mk := selectMethod_private hmethM (Cond.privateMethod_at hpriv mk methM hnamed hmethM)
  simp only [Cond.before, Cond.holds, Cond.value, hc0, hfound, hnamed, hsel, hcls, hk]
  simp; exact hni
theorem pm_big_of {s : State} {args : Array Value} (hts : ∀ w ∈ lw_tbl, w.before args s = true) : ∀ w ∈ pm_big, w.before args s = true := by
  intro w hw
  rcases List.mem_cons.mp hw with rfl | hw
  · exact pm_x1_of ⟨by decide, by decide⟩ (hts (.instantiable "NeedleLine$Slips" 4) (by decide +kernel)) (hts (.instantiable "NeedleLine$Table" 4) (by decide +kernel)) (hts (.privateMethod ⟨"NeedleLine$Table", "holds", "(II)Z"⟩) (by decide +kernel)) (hts (.instanceMethod ⟨"NeedleLine$Table", "holds", "(II)Z"⟩) (by decide +kernel))
  · exact hts w (List.mem_filter.mp hw).1
/-- what a method's body has at hand -/
def pm_Cx (K : pm_K) (p : Program) (R : Room) (s : State) (m : MethodId) (args : Array Value) (c : Code) (cells slots : Nat) (own : String) (cc : ByteArray) (nL : Nat) : Prop :=
  p.tables.exec = Jvm.exec ∧ c.code = cc ∧ c.maxLocals = nL ∧ s.vm.findClass own = some m.cls ∧ (∀ w ∈ pm_big, w.before args s = true) ∧ pm_St K s s.heap ∧ pm_Inj K ∧ 1 ≤ R.frames ∧ 64 ≤ R.locals ∧ cells ≤ R.cells ∧ slots ≤ R.slots
/-- from here the machine goes on to Q -/
def pm_G (K : pm_K) (p : Program) (l : Launch) (e : Env) (R : Room) (s : State) (m : MethodId) (args : Array Value) (below : List Frame) (meth : Method) (c : Code) (cells slots : Nat) (Q : State → Prop) (nL : Nat) (pc : Nat) (ls : pm_LS) (st : List Value) (h : pm_HP) : Prop :=
  ∀ (H : Heap) (locs : List Loc) (lr : Array Slot), va_P K.1 vwCl (pm_wd K h) H → va_S (pm_A K) s.heap H locs → pm_LR K nL ls lr → W p l e R s m args below meth c H locs cells slots Q (F0 m pc lr (st.map (pm_mv K)))
/-- the methods by number: name, code, places for locals, what it returns -/
abbrev pm_T : Type := Nat → MethodName × ByteArray × Nat × Option FieldType
def pm_ws (mt : pm_T) (y : Nat) : List Cond := .code (mt y).1 (mt y).2.1 (mt y).2.2.1 (mt y).2.2.2 :: pm_big
def pm_Pre (K : pm_K) (as : List Value) (h : pm_HP) : Array Value → State → Prop := va_Pc (as.map (pm_mv K)) (fun U => va_P K.1 vwCl (pm_wd K h) U.heap ∧ pm_St K U U.heap)
def pm_Post (K : pm_K) (v : Option Value) (h : pm_HP) : Array Value → State → Outcome → State → Prop := fun _ st oc t => oc = .returned (v.map (pm_mv K)) ∧ va_P K.1 vwCl (pm_wd K h) t.heap ∧ va_F (pm_A K) st t
/-- a callee's contract, in a room that fits into R -/
def pm_M (K : pm_K) (l : Launch) (mt : pm_T) (R : Room) (y : Nat) (as : List Value) (h : pm_HP) (v : Option Value) (h' : pm_HP) : Prop :=
  ∃ rm : Room, rm.cells = 0 ∧ rm.slots = 0 ∧ rm.frames + 1 ≤ R.frames ∧ 8 + ((mt y).2.2.1 + 11) + rm.locals ≤ R.locals ∧ Met l (mt y).1 (pm_ws mt y) rm (pm_Pre K as h) (pm_Post K v h') 0 0 (pm_A K)
/-- how a method may end -/
def pm_ret (cc : ByteArray) (rt : Option FieldType) (pc : Nat) (v : Option Value) : Prop := match v with
  | none => rt = none ∧ decode cc pc = .ok (.return_, 1)
  | some (.int x) => decode cc pc = .ok (.ireturn, 1) ∧ ∃ ty, rt = some ty ∧ narrow ty (.int x) = .int x
  | some (.long _) => decode cc pc = .ok (.lreturn, 1) ∧ rt = some .long
  | some .null => decode cc pc = .ok (.areturn, 1) ∧ ∃ n, rt = some (.object n)
  | some (.ref _) => decode cc pc = .ok (.areturn, 1) ∧ ∃ n, rt = some (.object n)
  | _ => False
/-- AN ACTION IS WHAT THE INSTRUCTION AT pc DOES -/
def pm_Sim (K : pm_K) (l : Launch) (mt : pm_T) (own : String) (cc : ByteArray) (nL : Nat) (rt : Option FieldType) (pcb : Nat → Nat) (pc pc' : Nat) (a : pm_Ac) : Prop :=
  ∀ (p : Program) (e : Env) (R : Room) (s : State) (m : MethodId) (args : Array Value) (below : List Frame) (meth : Method) (c : Code) (cells slots : Nat) (Q : State → Prop), pm_Cx K p R s m args c cells slots own cc nL → ∀ (ls : pm_LS) (st : List Value) (h : pm_HP) (o : pm_Out), a ls st h = some o → match o with
    | .inl (ls', st', h') => pm_G K p l e R s m args below meth c cells slots Q nL pc' ls' st' h' → pm_G K p l e R s m args below meth c cells slots Q nL pc ls st h
    | .inr (.inl (b, ls', st', h')) => pm_G K p l e R s m args below meth c cells slots Q nL (pcb b) ls' st' h' → pm_G K p l e R s m args below meth c cells slots Q nL pc ls st h
    | .inr (.inr (.inl (v, h'))) => pm_ret cc rt pc v ∧ st = v.toList ∧ h' = h
    | .inr (.inr (.inr (y, as, ls', st', h'))) => ∀ (v : Option Value) (h'' : pm_HP), pm_M K l mt R y as h' v h'' → pm_G K p l e R s m args below meth c cells slots Q nL pc' ls' (v.toList ++ st') h'' → pm_G K p l e R s m args below meth c cells slots Q nL pc ls st h
