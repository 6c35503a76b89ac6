/-! held, and tables -/
def xh (n k : Int32) : Int32 := if 0 < (if k < n then k else n) then (if k < n then k else n) else 0
set_option maxRecDepth 100000 in
theorem ch_held (l : Launch) (n k : Int32) : Met l yX8_held (.code yX8_held cX8_held 2 (some .int) :: pm_big) ({ frames := 1, cells := 0, slots := 0, locals := 40 }) (va_Pc [.int n, .int k] (fun _ => True)) (va_Qi (fun (r : Int32) (_ : Unit) => r = xh n k) (fun _ _ => True) (fun _ => False)) 0 0 (fun _ => False) := by
  refine Met.ofW (cc := cX8_held) (maxL := 2) (ret := some .int) (by decide) rfl ?_
  intro p e s m args below meth c s₁ B hml hv
  obtain ⟨rfl, -⟩ := hv
  have hx := B.exec
  have hb := B.bytes
  have hr := B.returns
  have hts0 := atoms_spec (ws := .code yX8_held cX8_held 2 (some .int) :: pm_big) B.pre
  have hts : ∀ w ∈ pm_big, w.before #[.int n, .int k] s = true := fun w hw => hts0 w (List.mem_cons_of_mem _ hw)
  have hown : s.vm.findClass "NeedleLine" = some m.cls := findClass_of_methodNamed B.named
  have hlocks := B.notSynchronized
  have hl := lv_entry ([.int n, .int k]) (n := 2) (Nat.le_of_ble_eq_true rfl)
  rw [lg_entry_eq]
  generalize (lg_sl ([.int n, .int k]) ++ List.replicate (2 - (lg_sl ([.int n, .int k])).length) Slot.unset).toArray = ls at hl ⊢
  have hl : lv_has ls 2 [(0, .int n), (1, .int k)] := hl
  refine lv_iconst (v := 0) hx hb dX8_held_0 (by decide) ?_
  refine lv_iload_n hx hb dX8_held_1 rfl (lv_at hl 0 rfl) ?_
  refine lv_iload_n hx hb dX8_held_2 rfl (lv_at hl 1 rfl) ?_
  refine va_mmin hx hb (hml.trans hl.1.symm) hown (hts _ mw_101) (hts _ mw_102) (hts _ mw_64) (hts _ mw_103) (Nat.le_of_ble_eq_true rfl) (Nat.le_of_ble_eq_true rfl) (Nat.zero_le _) (Nat.zero_le _) dX8_held_3 ?_
  refine va_mmax hx hb (hml.trans hl.1.symm) hown (hts _ mw_104) (hts _ mw_105) (hts _ mw_64) (hts _ mw_106) (Nat.le_of_ble_eq_true rfl) (Nat.le_of_ble_eq_true rfl) (Nat.zero_le _) (Nat.zero_le _) dX8_held_6 ?_
  exact W.zret hx hb (ty := .int) (by rw [hr]) rfl (fun t ht hW => ⟨⟨_, (), rfl, rfl, trivial⟩, by rw [ht]; exact Nat.le_refl _, fun q _ _ => by rw [ht]⟩) (fun q hq => by cases hq) dX8_held_9
section XB
variable {E : xa_T} {l : Launch} {p : Program} {e : Env} {R : Room} {s : State} {m : MethodId} {args : Array Value} {below : List Frame} {meth : Method} {c : Code} {H : Heap} {locs : List Loc} {cells slots : Nat} {Q : State → Prop}
variable {own nm : String} {rt : Option FieldType} {cc : ByteArray} {nL pc : Nat} {A : Nat → Prop} {ws : va_W} {ls : Array Slot} {rest : List Value}
theorem xa_held {idx : Nat} {n k v : Int32} (X : xa_X E p s m args meth c own cc nL A nm rt) (hw : xa_W E A s ws H locs) (hls : ls.size = nL) (hl : Cond.methodLinkNest own idx yX8_held "NeedleLine" ∈ pm_nest) (hR : 2 ≤ R.frames ∧ 61 ≤ R.locals) (hroom : (rest.map fun v => v.category).sum ≤ 8) (hcs : cells ≤ R.cells ∧ slots ≤ R.slots) (hd : decode cc pc = .ok (.invokestatic idx, 3)) (hv : xh n k = v)
    (kk : ∀ (H1 : Heap) (locs1 : List Loc), xa_W E A s ws H1 locs1 → W p l e R s m args below meth c H1 locs1 cells slots Q (F0 m (pc + 3) ls (.int v :: rest))) : W p l e R s m args below meth c H locs cells slots Q (F0 m pc ls (.int k :: .int n :: rest)) := by
  obtain ⟨hx, hb, hml, hown, hts, hE, hA, hin, hlocks, hr⟩ := X
  obtain ⟨hP, hD, hS⟩ := hw
  have hin0 : ∀ w ∈ (.code yX8_held cX8_held 2 (some .int) :: pm_big : List Cond), w ∈ pm_big := by
    intro w hw
    rcases List.mem_cons.mp hw with rfl | hw
    · exact mw_100
    · exact hw
  refine va_calli (va_runSN (As := [.int n, .int k]) (rest := rest) ⟨hx, hb, hml, hown, hts⟩ (ch_held l n k) ⟨va_cnB 2 hts (pm_good hin0) rfl rfl rfl (hE.2.1 _ hl) (hts _ mw_61) (by decide +kernel) ⟨hR.1, hR.2⟩, hts _ mw_99, trivial⟩
    ⟨fun a U g mk q => ⟨q.1, trivial⟩, fun U hU hW => ⟨rfl, trivial⟩⟩ rfl rfl hls rfl (lv_room hroom) hd hcs) hS (fun q _ h => h.elim) (fun q h => h.elim) (fun r u t H1 locs1 ht hvm hw hB hz1 hk1 hS1 => ?_)
  rw [hw, hv]
  exact kk H1 locs1 ⟨hP.kept (fun k x hx => hk1 x.1 ((hP k x hx).lt) (fun h => h)), hD, hS1⟩
theorem xa_newq {idx j N : Nat} {n : Int32} {C : String} {cA : ClassId} (X : xa_X E p s m args meth c own cc nL A nm rt) (hw : xa_W E A s ws H locs) (h1 : Cond.classLink own idx C ∈ pm_big) (ho : va_AO C s) (hj : (xt E.2.1 E.2.2.1 E.2.2.2.1)[j]? = some (cA, .object C)) (hn : n = nI N) (hN : N < 2 ^ 20) (hcells : cells + 1 ≤ R.cells) (hslots : slots + N ≤ R.slots) (hdg : decode cc pc = .ok (.anewarray idx, 3))
    (kk : ∀ (q : Nat) (H1 : Heap), xa_W E A s (ws ++ [(q, .inl (cA, N, .inr (.inr (.inr (.inr (fun _ => none))))))]) H1 locs → W p l e R s m args below meth c H1 locs (cells + 1) (slots + N) Q (F0 m (pc + 3) ls (.ref q :: rest))) : W p l e R s m args below meth c H locs cells slots Q (F0 m pc ls (.int n :: rest)) := by
  obtain ⟨hx, hb, hml, hown, hts, hE, hA, hin, hlocks, hr⟩ := X
  obtain ⟨hP, hD, hS⟩ := hw
  subst hn
  refine va_newq hx hb hown (hts _ h1) ho hE.1 hP hD hS hA (nI_pos (by omega)) (nI_clamp (by omega)) (by omega) hcells hslots hdg (fun q cB H1 g0 g1 g2 g3 => ?_)
  obtain ⟨kA, comp, -, -, -, e1⟩ := (g0.2 3 (cB, .object C) rfl).2
  obtain ⟨kA2, comp2, -, -, -, e2⟩ := (hE.1.2 j (cA, .object C) hj).2
  obtain rfl : cB = cA := Option.some.inj (e1.symm.trans e2)
  exact kk q H1 ⟨g1, g2, g3⟩
theorem xa_astq {a n v : Nat} {vs : List Value} {f : Nat → Option Nat} {i : Int32} (X : xa_X E p s m args meth c own cc nL A nm rt) (hw : xa_W E A s ws H locs) (q0 qk : Nat) (he : ws[q0]? = some (a, .inl (E.2.2.1, n, .inr (.inr (.inr (.inr f)))))) (hv : ws[qk]? = some (v, .inr (2, vs))) (hin : vp_in i n) (hdg : decode cc pc = .ok (.aastore, 1))
    (kk : ∀ (H1 : Heap) (locs1 : List Loc), xa_W E A s (ws.set q0 (a, .inl (E.2.2.1, n, .inr (.inr (.inr (.inr (va_up f i.toNatClampNeg (some v)))))))) H1 locs1 → W p l e R s m args below meth c H1 locs1 cells slots Q (F0 m (pc + 1) ls rest)) : W p l e R s m args below meth c H locs cells slots Q (F0 m pc ls (.ref v :: .int i :: .ref a :: rest)) := by
  obtain ⟨hx, hb, hml, hown, hts, hE, hA, hin2, hlocks, hr⟩ := X
  obtain ⟨hP, hD, hS⟩ := hw
  exact va_astq hx hb hE.1 hP hD hS q0 1 qk 2 he rfl hv rfl hin hdg (fun H1 locs1 g1 g2 g3 => kk H1 locs1 ⟨g1, g2, g3⟩)
theorem xa_astqM {a n v : Nat} {f : Nat → Option Nat} {i : Int32} (X : xa_X E p s m args meth c own cc nL A nm rt) (hw : xa_W E A s ws H locs) (q0 : Nat) (he : ws[q0]? = some (a, .inl (E.2.2.2.1, n, .inr (.inr (.inr (.inr f)))))) (hv : va_O "java/lang/String" v A s s.heap) (hin : vp_in i n) (hdg : decode cc pc = .ok (.aastore, 1))
    (kk : ∀ (H1 : Heap) (locs1 : List Loc), xa_W E A s (ws.set q0 (a, .inl (E.2.2.2.1, n, .inr (.inr (.inr (.inr (va_up f i.toNatClampNeg (some v)))))))) H1 locs1 → W p l e R s m args below meth c H1 locs1 cells slots Q (F0 m (pc + 1) ls rest)) : W p l e R s m args below meth c H locs cells slots Q (F0 m pc ls (.ref v :: .int i :: .ref a :: rest)) := by
  obtain ⟨hx, hb, hml, hown, hts, hE, hA, hin2, hlocks, hr⟩ := X
  obtain ⟨hP, hD, hS⟩ := hw
  obtain ⟨cell, g1, g2, g3, g4⟩ := va_O.kept hv hS.2.1
  obtain ⟨kC, hkC, -⟩ := Vm.findClass_spec g3
  have hAny : va_Any "java/lang/String" s H v := ⟨cell, g1, g2, ⟨kC, hkC⟩, fun comp h => vb_asgS comp cell.cls h g3⟩
  exact va_astqM hx hb hE.1 hP hD hS q0 2 he rfl hAny hin hdg (fun H1 locs1 g1 g2 g3 => kk H1 locs1 ⟨g1, g2, g3⟩)
theorem xa_len {a : Nat} {n : Nat} {f : Nat → Option Nat} (X : xa_X E p s m args meth c own cc nL A nm rt) (hw : xa_W E A s ws H locs) (q0 : Nat) (he : ws[q0]? = some (a, .inl (E.2.2.1, n, .inr (.inr (.inr (.inr f)))))) (hdg : decode cc pc = .ok (.arraylength, 1))
    (kk : W p l e R s m args below meth c H locs cells slots Q (F0 m (pc + 1) ls (.int (nI n) :: rest))) : W p l e R s m args below meth c H locs cells slots Q (F0 m pc ls (.ref a :: rest)) := by
  obtain ⟨hx, hb, hml, hown, hts, hE, hA, hin2, hlocks, hr⟩ := X
  obtain ⟨hP, hD, hS⟩ := hw
  exact va_alen hx hb hE.1 hP q0 1 he rfl rfl hdg kk
/-- a method of a cell called, that answers nothing -/
theorem xa_callV {idx : Nat} {y : MethodName} {bytes : ByteArray} {maxL fr loc n ci N : Nat} {T : u_T} {as st : List Value} {h1 : Nat} {fs : List Value} {wr : va_W} {w1 : (Nat → Nat) → va_W} (X : xa_X E p s m args meth c own cc nL A nm rt) (hw : xa_W E A s ws H locs) (hc : vwCl[ci]? = some (y.cls, T, N)) (hC : xa_C false l E y bytes maxL fr loc 0 0 as h1 [(h1, .inr (ci, fs))] w1) (hls : ls.size = nL)
    (iC : Nat) (isR : List Nat) (hCs : ws[iC]? = some (h1, .inr (ci, fs))) (hRs : isR.map (fun i => ws[i]?) = wr.map some) (hnR : va_nd isR = true) (hdis : ∀ i ∈ isR, i ∉ [iC])
    (k1 : Cond.methodLink own idx y ∈ pm_big) (k2 : Cond.instanceMethod y ∈ pm_big) (k5 : Cond.selects y.cls y y ∈ pm_big) (k3 : Cond.initialized y.cls ∈ pm_big) (k4 : Cond.code y bytes maxL none ∈ pm_big) (hyn : y.cls = y.cls ∧ y.cls ≠ "java/lang/invoke/MethodHandle" ∧ y.cls ≠ "java/lang/invoke/VarHandle" ∧ (parseMethodDescriptor y.desc).map (fun d => d.parameters.length) = some n) (hn : as.length = n)
    (hR : fr + 1 ≤ R.frames ∧ 8 + (maxL + 11) + loc ≤ R.locals) (hst : st = as.reverse ++ .ref h1 :: rest) (hroom : (rest.map fun v => v.category).sum ≤ 8) (hd : decode cc pc = .ok (.invokevirtual idx, 3)) (hcs : cells ≤ R.cells ∧ slots ≤ R.slots)
    (kk : ∀ (u : Nat → Nat) (H1 : Heap) (locs1 : List Loc), xa_W E A s (wr ++ w1 u) H1 locs1 → W p l e R s m args below meth c H1 locs1 cells slots Q (F0 m (pc + 3) ls rest)) : W p l e R s m args below meth c H locs cells slots Q (F0 m pc ls st) := by
  obtain ⟨hx, hb, hml, hown, hts, hE, hA, hin, hlocks, hr⟩ := X
  obtain ⟨hP, hD, hS⟩ := hw
  have hC1 : [iC].map (fun i => ws[i]?) = ([(h1, .inr (ci, fs))] : va_W).map some := by simp [hCs]
  have hC2 : [iC].filterMap (fun i => ws[i]?) = ([(h1, .inr (ci, fs))] : va_W) := by simp [hCs]
  have hPc := hP.sub [iC] hC2
  have hDc := hD.sub [iC] rfl hC1
  have hFc := va_free hD hS hA [iC] hC1
  have hin0 : ∀ w ∈ (.code y bytes maxL none :: pm_big : List Cond), w ∈ pm_big := by
    intro w hw
    rcases List.mem_cons.mp hw with rfl | hw
    · exact k4
    · exact hw
  refine va_callv (va_runV (As := as) (rest := rest) (b := h1) (C := y.cls) ⟨hx, hb, hml, hown, hts⟩ (hC H.size) (cwV n hts (pm_good (fun w hw => by
      unfold wsV at hw
      rcases List.mem_append.mp hw with hw | hw
      · simp only [List.mem_cons, List.not_mem_nil, or_false] at hw
        rcases hw with rfl | rfl | rfl | rfl
        · exact k1
        · exact k2
        · exact k5
        · exact k3
      · exact hin0 w hw)) rfl rfl rfl hyn hR)
    ⟨fun a U g mk q => ⟨q.1, q.2.1, q.2.2.1, xe.same (u := U) (U := U.calling g mk a) rfl q.2.2.2.1, q.2.2.2.2⟩, va_recv hE.1 hPc hc (q0 := 0) rfl, fun U hU hW => ⟨rfl, by rw [hU], by rw [hU]; exact hPc, hE.warm hW, hDc.weaken (fun _ _ _ _ => trivial), fun hz => Bool.noConfusion hz⟩⟩ rfl hn hls hst (lv_room hroom) hd hcs) hS (fun q _ h => hFc q h) hFc (fun u t H1 locs1 ht hvm hw hB hz1 hk1 hS1 => ?_)
  obtain ⟨hP1, hD1⟩ := hB
  rw [ht] at hP1
  obtain ⟨hP2, hD2⟩ := va_join (wr := wr) (w1 := w1 u) hP hD [iC] isR hC1 hRs hnR hdis hk1 hFc hP1 hD1
  exact kk u H1 locs1 ⟨hP2, hD2, hS1⟩
end XB
