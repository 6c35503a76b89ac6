/-! CONSTRUCTORS, WALKED: steps over a list of cells -/
abbrev xt (cI cS cT : ClassId) : List (ClassId × FieldType) := [(cI, .int), (cS, .object "NeedleLine$Sheet"), (cT, .object "java/lang/String")]
abbrev xa_T : Type := va_G × ClassId × ClassId × ClassId × Nat × Nat × Nat
/-- what a constructor needs of the classes -/
def xe (E : xa_T) (U : State) : Prop := va_K E.1 vwCl (xt E.2.1 E.2.2.1 E.2.2.2.1) U ∧ (∀ w ∈ pm_nest, va_Nw w U) ∧ va_AO "NeedleLine$Sheet" U ∧ va_AO "java/lang/String" U ∧ vk_R "NeedleLine$Parser" 27 "" E.2.2.2.2.1 U ∧ vk_R "NeedleLineModel" 30 "insat" E.2.2.2.2.2.1 U ∧ vk_R "NeedleLineModel" 32 "ilwc" E.2.2.2.2.2.2 U
theorem xe.warm {E : xa_T} {s U : State} (hW : s.WarmedH U.vm) (h : xe E s) : xe E U := by
  obtain ⟨h1, h2, h3, h4, h5, h6, h7⟩ := h
  exact ⟨va_K.moved hW.alike h1, fun w hw => pm_nest_warm hW w hw (h2 w hw), va_AO.moved hW.alike h3, va_AO.moved hW.alike h4, vk_R.warm hW h5, vk_R.warm hW h6, vk_R.warm hW h7⟩
theorem xe.same {E : xa_T} {u U : State} (hv : u.vm = U.vm) (h : xe E u) : xe E U := by
  obtain ⟨h1, h2, h3, h4, h5, h6, h7⟩ := h
  have ha : u.vm.Alike U.vm := by rw [hv]; exact Vm.Alike.refl U.vm
  refine ⟨va_K.moved ha h1, fun w hw => va_Nw.same ?_ hv (h2 w hw), va_AO.moved ha h3, va_AO.moved ha h4, vk_R.same hv.symm h5, vk_R.same hv.symm h6, vk_R.same hv.symm h7⟩
  have h1 := (List.mem_filter.mp hw).2
  cases w <;> first | rfl | (simp at h1; done)
def xa_X (E : xa_T) (p : Program) (s : State) (m : MethodId) (args : Array Value) (meth : Method) (c : Code) (own : String) (cc : ByteArray) (nL : Nat) (A : Nat → Prop) (nm : String) (rt : Option FieldType) : Prop :=
  p.tables.exec = Jvm.exec ∧ c.code = cc ∧ c.maxLocals = nL ∧ s.vm.findClass own = some m.cls ∧ (∀ w ∈ pm_big, w.before args s = true) ∧ xe E s ∧ (∀ q, s.heap.size ≤ q → A q) ∧ meth.name = nm ∧ meth.locks = false ∧ meth.sig.returnType = rt
def xa_W (E : xa_T) (A : Nat → Prop) (s : State) (ws : va_W) (H : Heap) (locs : List Loc) : Prop := va_P E.1 vwCl ws H ∧ va_D A ws ∧ va_S A s.heap H locs
/-- the two texts of the reference lie apart -/
def xz (zb : Bool) (E : xa_T) (A : Nat → Prop) (U : State) (H : Heap) : Prop := zb = true → va_O "java/lang/String" E.2.2.2.2.2.1 A U H ∧ va_O "java/lang/String" E.2.2.2.2.2.2 A U H
def xa_pre (zb : Bool) (E : xa_T) (sz : Nat) (w0 : va_W) (U : State) : Prop := U.heap.size = sz ∧ va_P E.1 vwCl w0 U.heap ∧ xe E U ∧ va_D (fun _ => True) w0 ∧ xz zb E (va_A w0 sz) U U.heap
/-- a constructor's contract: from its own cells w0 to w1, at addresses u -/
def xa_C (zb : Bool) (l : Launch) (E : xa_T) (y : MethodName) (bytes : ByteArray) (maxL fr loc mc ms : Nat) (as : List Value) (h0 : Nat) (w0 : va_W) (w1 : (Nat → Nat) → va_W) : Prop :=
  ∀ sz, Met l y (.code y bytes maxL none :: pm_big) ({ frames := fr, cells := mc, slots := ms, locals := loc }) (va_Pc (.ref h0 :: as) (xa_pre zb E sz w0)) (va_Qv (fun _ : Nat → Nat => True) (fun u t => va_P E.1 vwCl (w1 u) t.heap ∧ va_D (va_A w0 sz) (w1 u)) (va_A w0 sz)) mc ms (va_A w0 sz)
def xa_End (E : xa_T) (below : List Frame) (A : Nat → Prop) (args : Array Value) (s : State) (mc ms : Nat) (w1 : (Nat → Nat) → va_W) : State → Prop :=
  MQ below (va_Qv (fun _ : Nat → Nat => True) (fun u t => va_P E.1 vwCl (w1 u) t.heap ∧ va_D A (w1 u)) A) args s mc ms A
theorem xa_enter {zb : Bool} {l : Launch} {E : xa_T} {y : MethodName} {bytes : ByteArray} {maxL fr loc mc ms : Nat} {as : List Value} {h0 : Nat} {w0 : va_W} {w1 : (Nat → Nat) → va_W} (hpl : plainName y.cls = true) (hlen : (lg_sl (.ref h0 :: as)).length ≤ maxL)
    (k : ∀ (p : Program) (e : Env) (s : State) (m : MethodId) (args : Array Value) (below : List Frame) (meth : Method) (c : Code) (A : Nat → Prop), xa_X E p s m args meth c y.cls bytes maxL A y.name none → xa_W E A s w0 s.heap [] → xz zb E A s s.heap → ∀ ls : Array Slot, lv_has ls maxL (lv_args 0 (.ref h0 :: as)) →
      W p l e ({ frames := fr, cells := mc, slots := ms, locals := loc }) s m args below meth c s.heap [] 0 0 (xa_End E below A args s mc ms w1) (F0 m 0 ls [])) : xa_C zb l E y bytes maxL fr loc mc ms as h0 w0 w1 := by
  intro sz
  refine Met.ofW (cc := bytes) (maxL := maxL) (ret := none) hpl rfl ?_
  intro p e s m args below meth c s₁ B hml hv
  obtain ⟨rfl, hsz, hP, hE, hD0, hZ⟩ := hv
  have hts := atoms_spec (ws := .code y bytes maxL none :: pm_big) B.pre
  have hown : s.vm.findClass y.cls = some m.cls := findClass_of_methodNamed B.named
  have hin : meth.name = y.name := (name_of_methodNamed B.named B.method).1
  subst hsz
  have hD := hD0.self (sz := s.heap.size)
  generalize hAe : va_A w0 s.heap.size = A at hD hZ ⊢
  have hA : ∀ q : Nat, s.heap.size ≤ q → A q := fun q h => by rw [← hAe]; exact Or.inr h
  rw [lg_entry_eq]
  exact k p e s m _ below meth c A ⟨B.exec, B.bytes, hml, hown, fun w hw => hts w (List.mem_cons_of_mem _ hw), hE, hA, hin, B.notSynchronized, B.returns⟩ ⟨hP, hD, va_S.rf⟩ hZ _ (lv_entry (.ref h0 :: as) hlen)
section XA
variable {E : xa_T} {l : Launch} {p : Program} {e : Env} {R : Room} {s : State} {m : MethodId} {args : Array Value} {below : List Frame} {meth : Method} {c : Code} {H : Heap} {locs : List Loc} {cells slots : Nat} {Q : State → Prop}
variable {own nm : String} {rt : Option FieldType} {cc : ByteArray} {nL pc : Nat} {A : Nat → Prop} {ws : va_W} {ls : Array Slot} {rest : List Value} {a : Nat}
theorem xa_exit {w1 : (Nat → Nat) → va_W} (X : xa_X E p s m args meth c own cc nL A nm none) (hw : xa_W E A s ws H locs) (u : Nat → Nat) (perm : List Nat) (h1 : perm.filterMap (fun i => ws[i]?) = w1 u) (h2 : perm.map (fun i => ws[i]?) = (w1 u).map some) (hn : va_nd perm = true) (hd : decode cc pc = .ok (.return_, 1)) :
    W p l e R s m args below meth c H locs cells slots (xa_End E below A args s cells slots w1) (F0 m pc ls []) := by
  obtain ⟨hx, hb, hml, hown, hts, hE, hA, hin, hlocks, hr⟩ := X
  obtain ⟨hP, hD, hS⟩ := hw
  exact W.vret hx hb hr (fun t ht hW => ⟨⟨u, rfl, trivial, by rw [ht]; exact hP.sub perm h1, hD.sub perm hn h2⟩, hS.F ht⟩) hS.2.2 hd hlocks
theorem xa_obj {idx : Nat} (X : xa_X E p s m args meth c own cc nL A nm rt) (hl : ls.size = nL) (h1 : Cond.methodLink own idx Lib.objectInit ∈ pm_big) (h2 : Cond.instanceMethod Lib.objectInit ∈ pm_big) (h3 : Cond.code Lib.objectInit ⟨#[0xb1]⟩ 1 none ∈ pm_big) (hR : 1 ≤ R.frames ∧ 12 ≤ R.locals) (hd : decode cc pc = .ok (.invokespecial idx, 3))
    (kk : W p l e R s m args below meth c H locs cells slots Q (F0 m (pc + 3) ls [])) : W p l e R s m args below meth c H locs cells slots Q (F0 m pc ls [.ref a]) := by
  obtain ⟨hx, hb, hml, hown, hts, hE, hA, hin, hlocks, hr⟩ := X
  refine W.objInit hx hb hown (hts _ h1) (hts _ h2) (hts _ h3) rfl (by rw [hml]; exact hl) rfl hd hR.1 ?_ ?_
  · show 2 * 0 + 0 + 12 ≤ R.locals
    have := hR.2
    omega
  · exact W.eq (g2 := F0 m (pc + 3) ls []) rfl kk
theorem xa_new {idx ci N : Nat} {C : String} {T : u_T} {ty : Nat → FieldType} {fs : List Value} (X : xa_X E p s m args meth c own cc nL A nm rt) (hw : xa_W E A s ws H locs) (hc : vwCl[ci]? = some (C, T, N)) (hty : ∀ k, k < N → parseFieldDescriptor (T k).2.2.1 = some (ty k)) (h1 : Cond.classLink own idx C ∈ pm_big) (h2 : Cond.instantiable C N ∈ pm_big) (h3 : Cond.initialized C ∈ pm_big)
    (hfs : ∀ j, j < N → defaultValue (ty j) = vp_V fs j) (hcells : cells + 1 ≤ R.cells) (hslots : slots + N ≤ R.slots) (hdg : decode cc pc = .ok (.new idx, 3))
    (kk : ∀ (q : Nat) (H1 : Heap), xa_W E A s (ws ++ [(q, .inr (ci, fs))]) H1 locs → W p l e R s m args below meth c H1 locs (cells + 1) (slots + N) Q (F0 m (pc + 3) ls (.ref q :: rest))) : W p l e R s m args below meth c H locs cells slots Q (F0 m pc ls rest) := by
  obtain ⟨hx, hb, hml, hown, hts, hE, hA, hin, hlocks, hr⟩ := X
  obtain ⟨hP, hD, hS⟩ := hw
  exact va_new hx hb hts (pm_uw hc) ty hty hown (hts _ h1) (hts _ h2) (hts _ h3) hE.1 hP hD hS hA hc hfs hcells hslots hdg (fun q H1 g1 g2 g3 => kk q H1 ⟨g1, g2, g3⟩)
theorem xa_newa {n : Int32} {N : Nat} (X : xa_X E p s m args meth c own cc nL A nm rt) (hw : xa_W E A s ws H locs) (h1 : Cond.arrayClass .int ∈ pm_big) (hn : n = nI N) (hN : N < 2 ^ 20) (hcells : cells + 1 ≤ R.cells) (hslots : slots + N ≤ R.slots) (hdg : decode cc pc = .ok (.newarray .int, 2))
    (kk : ∀ (q : Nat) (H1 : Heap), xa_W E A s (ws ++ [(q, .inl (E.2.1, N, .inl (fun _ => 0)))]) H1 locs → W p l e R s m args below meth c H1 locs (cells + 1) (slots + N) Q (F0 m (pc + 2) ls (.ref q :: rest))) : W p l e R s m args below meth c H locs cells slots Q (F0 m pc ls (.int n :: rest)) := by
  obtain ⟨hx, hb, hml, hown, hts, hE, hA, hin, hlocks, hr⟩ := X
  obtain ⟨hP, hD, hS⟩ := hw
  subst hn
  refine va_newa (atype := .int) (ty := .int) (N' := N) (a0 := (N, .inl (fun _ => 0))) hx hb (hts _ h1) rfl hE.1 hP hD hS hA (fun _ => rfl) (nI_pos (by omega)) (nI_clamp (by omega)) ?_ hcells hslots hdg (fun q cA H1 g0 g1 g2 g3 => ?_)
  · show N * 4 ≤ 536870912
    omega
  · have e1 : s.vm.findClass "[I" = some cA := (g0.2 3 (cA, .int) rfl).2
    have e2 : s.vm.findClass "[I" = some E.2.1 := (hE.1.2 0 (E.2.1, .int) rfl).2
    obtain rfl : cA = E.2.1 := Option.some.inj (e1.symm.trans e2)
    exact kk q H1 ⟨g1, g2, g3⟩
theorem xa_putF {idx ci N : Nat} {C : String} {T : u_T} {ty0 : Nat → FieldType} {fs : List Value} {v : Value} {ty : FieldType} (X : xa_X E p s m args meth c own cc nL A "<init>" rt) (hw : xa_W E A s ws H locs) (q0 : Nat) (he : ws[q0]? = some (a, .inr (ci, fs))) (hc : vwCl[ci]? = some (C, T, N)) (hty : ∀ k, k < N → parseFieldDescriptor (T k).2.2.1 = some (ty0 k)) (hnm : ∀ a, a < N → ∀ b, b < N → a ≠ b → (T a).2.1 ≠ (T b).2.1)
    (k : Nat) (hk : k < N) (hlink : Cond.fieldLink own idx (T k).1 (T k).2.1 (T k).2.2.1 ∈ pm_big) (hfin : (T k).2.2.2 = true) (hdecl : (T k).1 = own) (hd : ty0 k = ty) (hn : narrow ty v = v) (hfit : fits ty v = true) (hl : k < fs.length) (hdg : decode cc pc = .ok (.putfield idx, 3))
    (kk : ∀ (H1 : Heap) (locs1 : List Loc), xa_W E A s (ws.set q0 (a, .inr (ci, fs.set k v))) H1 locs1 → W p l e R s m args below meth c H1 locs1 cells slots Q (F0 m (pc + 3) ls rest)) : W p l e R s m args below meth c H locs cells slots Q (F0 m pc ls (v :: .ref a :: rest)) := by
  obtain ⟨hx, hb, hml, hown, hts, hE, hA, hin, hlocks, hr⟩ := X
  obtain ⟨hP, hD, hS⟩ := hw
  exact va_putF hx hb hts (pm_uw hc) ty0 hty hnm hown hE.1 hP hD hS q0 he hc k hk (hts _ hlink) (fun _ h => h) hfin hin hdecl ((hty k hk).trans (congrArg some hd)) hn hfit hl hdg (fun H1 locs1 g1 g2 g3 => kk H1 locs1 ⟨g1, g2, g3⟩)
theorem xa_put {idx ci N : Nat} {C : String} {T : u_T} {ty0 : Nat → FieldType} {fs : List Value} {v : Value} {ty : FieldType} (X : xa_X E p s m args meth c own cc nL A nm rt) (hw : xa_W E A s ws H locs) (q0 : Nat) (he : ws[q0]? = some (a, .inr (ci, fs))) (hc : vwCl[ci]? = some (C, T, N)) (hty : ∀ k, k < N → parseFieldDescriptor (T k).2.2.1 = some (ty0 k)) (hnm : ∀ a, a < N → ∀ b, b < N → a ≠ b → (T a).2.1 ≠ (T b).2.1)
    (k : Nat) (hk : k < N) (hlink : Cond.fieldLink own idx (T k).1 (T k).2.1 (T k).2.2.1 ∈ pm_big) (hfin : (T k).2.2.2 = false) (hd : ty0 k = ty) (hn : narrow ty v = v) (hfit : fits ty v = true) (hl : k < fs.length) (hdg : decode cc pc = .ok (.putfield idx, 3))
    (kk : ∀ (H1 : Heap) (locs1 : List Loc), xa_W E A s (ws.set q0 (a, .inr (ci, fs.set k v))) H1 locs1 → W p l e R s m args below meth c H1 locs1 cells slots Q (F0 m (pc + 3) ls rest)) : W p l e R s m args below meth c H locs cells slots Q (F0 m pc ls (v :: .ref a :: rest)) := by
  obtain ⟨hx, hb, hml, hown, hts, hE, hA, hin, hlocks, hr⟩ := X
  obtain ⟨hP, hD, hS⟩ := hw
  exact va_put hx hb hts (pm_uw hc) ty0 hty hnm hown hE.1 hP hD hS q0 he hc k hk (hts _ hlink) (fun _ h => h) hfin ((hty k hk).trans (congrArg some hd)) hn hfit hl hdg (fun H1 locs1 g1 g2 g3 => kk H1 locs1 ⟨g1, g2, g3⟩)
theorem xa_get {idx ci N : Nat} {C : String} {T : u_T} {fs : List Value} {v : Value} (X : xa_X E p s m args meth c own cc nL A nm rt) (hw : xa_W E A s ws H locs) (q0 : Nat) (he : ws[q0]? = some (a, .inr (ci, fs))) (hc : vwCl[ci]? = some (C, T, N)) (k : Nat) (hk : k < N) (hlink : Cond.fieldLink own idx (T k).1 (T k).2.1 (T k).2.2.1 ∈ pm_big) (hv : fs[k]? = some v) (hdg : decode cc pc = .ok (.getfield idx, 3))
    (kk : W p l e R s m args below meth c H locs cells slots Q (F0 m (pc + 3) ls (v :: rest))) : W p l e R s m args below meth c H locs cells slots Q (F0 m pc ls (.ref a :: rest)) := by
  obtain ⟨hx, hb, hml, hown, hts, hE, hA, hin, hlocks, hr⟩ := X
  obtain ⟨hP, hD, hS⟩ := hw
  exact va_get hx hb hts (pm_uw hc) hown hE.1 hP q0 he hc k hk (hts _ hlink) (fun _ h => h) hv hdg kk
theorem xa_ias {n : Nat} {f : Nat → Int32} {i x : Int32} (X : xa_X E p s m args meth c own cc nL A nm rt) (hw : xa_W E A s ws H locs) (q0 : Nat) (he : ws[q0]? = some (a, .inl (E.2.1, n, .inl f))) (hin : vp_in i n) (hdg : decode cc pc = .ok (.iastore, 1))
    (kk : ∀ (H1 : Heap) (locs1 : List Loc), xa_W E A s (ws.set q0 (a, .inl (E.2.1, n, .inl (upd f i.toNatClampNeg x)))) H1 locs1 → W p l e R s m args below meth c H1 locs1 cells slots Q (F0 m (pc + 1) ls rest)) : W p l e R s m args below meth c H locs cells slots Q (F0 m pc ls (.int x :: .int i :: .ref a :: rest)) := by
  obtain ⟨hx, hb, hml, hown, hts, hE, hA, hin2, hlocks, hr⟩ := X
  obtain ⟨hP, hD, hS⟩ := hw
  exact va_iast hx hb hE.1 hP hD hS q0 0 he rfl hin hdg (fun H1 locs1 g1 g2 g3 => kk H1 locs1 ⟨g1, g2, g3⟩)
/-- a constructor called -/
theorem xa_call {zb : Bool} {idx : Nat} {y : MethodName} {bytes : ByteArray} {maxL fr loc mc ms n : Nat} {as st : List Value} {h1 : Nat} {w0 wr : va_W} {w1 : (Nat → Nat) → va_W} (X : xa_X E p s m args meth c own cc nL A nm rt) (hw : xa_W E A s ws H locs) (hC : xa_C zb l E y bytes maxL fr loc mc ms as h1 w0 w1) (hZ : xz zb E (va_A w0 H.size) s H) (hls : ls.size = nL)
    (isC isR : List Nat) (hCs : isC.map (fun i => ws[i]?) = w0.map some) (hCf : isC.filterMap (fun i => ws[i]?) = w0) (hRs : isR.map (fun i => ws[i]?) = wr.map some) (hnC : va_nd isC = true) (hnR : va_nd isR = true) (hdis : ∀ i ∈ isR, i ∉ isC)
    (k1 : Cond.methodLink own idx y ∈ pm_big ∨ ∃ host, Cond.methodLinkNest own idx y host ∈ pm_nest) (k2 : Cond.instanceMethod y ∈ pm_big) (k3 : Cond.initialized y.cls ∈ pm_big) (k4 : Cond.code y bytes maxL none ∈ pm_big) (hy1 : y.name = "<init>") (hyn : y.cls ≠ "java/lang/invoke/MethodHandle" ∧ y.cls ≠ "java/lang/invoke/VarHandle" ∧ (parseMethodDescriptor y.desc).map (fun d => d.parameters.length) = some n) (hn : as.length = n)
    (hR : fr + 1 ≤ R.frames ∧ 8 + (maxL + 11) + loc ≤ R.locals) (hst : st = as.reverse ++ .ref h1 :: rest) (hroom : (rest.map fun v => v.category).sum ≤ 8) (hd : decode cc pc = .ok (.invokespecial idx, 3)) (hcs : cells + mc ≤ R.cells ∧ slots + ms ≤ R.slots)
    (kk : ∀ (u : Nat → Nat) (H1 : Heap) (locs1 : List Loc), xa_W E A s (wr ++ w1 u) H1 locs1 → W p l e R s m args below meth c H1 locs1 (cells + mc) (slots + ms) Q (F0 m (pc + 3) ls rest)) : W p l e R s m args below meth c H locs cells slots Q (F0 m pc ls st) := by
  obtain ⟨hx, hb, hml, hown, hts, hE, hA, hin, hlocks, hr⟩ := X
  obtain ⟨hP, hD, hS⟩ := hw
  have hPc := hP.sub (ws' := w0) isC hCf
  have hDc := hD.sub (ws' := w0) isC hnC hCs
  have hFc := va_free (wc := w0) hD hS hA isC hCs
  have hin0 : ∀ w ∈ (.code y bytes maxL none :: pm_big : List Cond), w ∈ pm_big := by
    intro w hw
    rcases List.mem_cons.mp hw with rfl | hw
    · exact k4
    · exact hw
  have hgo : ∀ (u : Nat → Nat) (t : State) (H1 : Heap) (locs1 : List Loc), t.heap = H1 → (va_P E.1 vwCl (w1 u) t.heap ∧ va_D (va_A w0 H.size) (w1 u)) → (∀ q : Nat, q < H.size → ¬ va_A w0 H.size q → H1[q]? = H[q]?) → va_S A s.heap H1 locs1 → W p l e R s m args below meth c H1 locs1 (cells + mc) (slots + ms) Q (F0 m (pc + 3) ls rest) := by
    intro u t H1 locs1 ht hB hk1 hS1
    obtain ⟨hP1, hD1⟩ := hB
    rw [ht] at hP1
    obtain ⟨hP2, hD2⟩ := va_join (wr := wr) (w1 := w1 u) hP hD isC isR hCs hRs hnR hdis hk1 hFc hP1 hD1
    exact kk u H1 locs1 ⟨hP2, hD2, hS1⟩
  rcases k1 with k1 | ⟨host, k1⟩
  · exact va_callv (va_runI (As := as) (rest := rest) (b := h1) ⟨hx, hb, hml, hown, hts⟩ (hC H.size) (cwI n hts (pm_good hin0) rfl rfl rfl (hts _ k3) (hts _ k1) (hts _ k2) hy1 hyn hR)
      ⟨fun a U g mk q => ⟨q.1, q.2.1, q.2.2.1, xe.same (u := U) (U := U.calling g mk a) rfl q.2.2.2.1, q.2.2.2.2⟩, fun U hU hW => ⟨rfl, by rw [hU], by rw [hU]; exact hPc, hE.warm hW, hDc.weaken (fun _ _ _ _ => trivial), fun hz => by rw [hU]; exact ⟨va_O.moved hW.alike (hZ hz).1, va_O.moved hW.alike (hZ hz).2⟩⟩⟩ rfl hn hls hst (lv_room hroom) hd hcs) hS (fun q _ h => hFc q h) hFc (fun u t H1 locs1 ht hvm hw hB hz1 hk1 hS1 => hgo u t H1 locs1 ht hB hk1 hS1)
  · exact va_callv (va_runIN (As := as) (rest := rest) (b := h1) ⟨hx, hb, hml, hown, hts⟩ (hC H.size) ⟨va_cnB n hts (pm_good hin0) rfl rfl rfl (hE.2.1 _ k1) (hts _ k3) hyn hR, hy1, hts _ k2⟩
      ⟨fun a U g mk q => ⟨q.1, q.2.1, q.2.2.1, xe.same (u := U) (U := U.calling g mk a) rfl q.2.2.2.1, q.2.2.2.2⟩, fun U hU hW => ⟨rfl, by rw [hU], by rw [hU]; exact hPc, hE.warm hW, hDc.weaken (fun _ _ _ _ => trivial), fun hz => by rw [hU]; exact ⟨va_O.moved hW.alike (hZ hz).1, va_O.moved hW.alike (hZ hz).2⟩⟩⟩ rfl hn hls hst (lv_room hroom) hd hcs) hS (fun q _ h => hFc q h) hFc (fun u t H1 locs1 ht hvm hw hB hz1 hk1 hS1 => hgo u t H1 locs1 ht hB hk1 hS1)
end XA
