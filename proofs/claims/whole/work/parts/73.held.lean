/-! held, and tables -/
def xh (n k : Int32) : Int32 := if 0 < (if k < n then k else n) then (if k < n then k else n) else 0
set_option maxRecDepth 100000 in
theorem ch_held (l : Launch) (n k : Int32) : Met l yX8_held (.code yX8_held cX8_held 2 (some .int) :: pm_big) ({ frames := 1, cells := 0, slots := 0, locals := 40 }) (va_Pc [.int n, .int k] (fun _ => True)) (va_Qi (fun (r : Int32) (_ : Unit) => r = xh n k) (fun _ _ => True) (fun _ => False)) 0 0 (fun _ => False) := by
  refine Met.ofW (cc := cX8_held) (maxL := 2) (ret := some .int) (by decide) rfl ?_
  intro p e s m args below meth c s₁ B hml hv
  obtain ⟨rfl, -⟩ := hv
  have hx := B.exec
  have hb := B.bytes
  have hr := B.returns
  have hts0 := atoms_spec (ws := .code yX8_held cX8_held 2 (some .int) :: pm_big) B.pre
  have hts : ∀ w ∈ pm_big, w.before #[.int n, .int k] s = true := fun w hw => hts0 w (List.mem_cons_of_mem _ hw)
  have hown : s.vm.findClass "NeedleLine" = some m.cls := findClass_of_methodNamed B.named
  have hlocks := B.notSynchronized
  have hl := lv_entry ([.int n, .int k]) (n := 2) (Nat.le_of_ble_eq_true rfl)
  rw [lg_entry_eq]
  generalize (lg_sl ([.int n, .int k]) ++ List.replicate (2 - (lg_sl ([.int n, .int k])).length) Slot.unset).toArray = ls at hl ⊢
  have hl : lv_has ls 2 [(0, .int n), (1, .int k)] := hl
  refine lv_iconst (v := 0) hx hb dX8_held_0 (by decide) ?_
  refine lv_iload_n hx hb dX8_held_1 rfl (lv_at hl 0 rfl) ?_
  refine lv_iload_n hx hb dX8_held_2 rfl (lv_at hl 1 rfl) ?_
  refine va_mmin hx hb (hml.trans hl.1.symm) hown (hts _ mw_101) (hts _ mw_102) (hts _ mw_64) (hts _ mw_103) (Nat.le_of_ble_eq_true rfl) (Nat.le_of_ble_eq_true rfl) (Nat.zero_le _) (Nat.zero_le _) dX8_held_3 ?_
  refine va_mmax hx hb (hml.trans hl.1.symm) hown (hts _ mw_104) (hts _ mw_105) (hts _ mw_64) (hts _ mw_106) (Nat.le_of_ble_eq_true rfl) (Nat.le_of_ble_eq_true rfl) (Nat.zero_le _) (Nat.zero_le _) dX8_held_6 ?_
  exact W.zret hx hb (ty := .int) (by rw [hr]) rfl (fun t ht hW => ⟨⟨_, (), rfl, rfl, trivial⟩, by rw [ht]; exact Nat.le_refl _, fun q _ _ => by rw [ht]⟩) (fun q hq => by cases hq) dX8_held_9
section XB
variable {E : xa_T} {l : Launch} {p : Program} {e : Env} {R : Room} {s : State} {m : MethodId} {args : Array Value} {below : List Frame} {meth : Method} {c : Code} {H : Heap} {locs : List Loc} {cells slots : Nat} {Q : State → Prop}
variable {own : String} {cc : ByteArray} {nL pc : Nat} {A : Nat → Prop} {ws : va_W} {ls : Array Slot} {rest : List Value}
theorem xa_held {idx : Nat} {n k v : Int32} (X : xa_X E p s m args meth c own cc nL A) (hw : xa_W E A s ws H locs) (hls : ls.size = nL) (hl : Cond.methodLinkNest own idx yX8_held "NeedleLine" ∈ pm_nest) (hR : 2 ≤ R.frames ∧ 61 ≤ R.locals) (hroom : (rest.map fun v => v.category).sum ≤ 8) (hcs : cells ≤ R.cells ∧ slots ≤ R.slots) (hd : decode cc pc = .ok (.invokestatic idx, 3)) (hv : xh n k = v)
    (kk : ∀ (H1 : Heap) (locs1 : List Loc), xa_W E A s ws H1 locs1 → W p l e R s m args below meth c H1 locs1 cells slots Q (F0 m (pc + 3) ls (.int v :: rest))) : W p l e R s m args below meth c H locs cells slots Q (F0 m pc ls (.int k :: .int n :: rest)) := by
  obtain ⟨hx, hb, hml, hown, hts, hE, hA, hin, hlocks, hr⟩ := X
  obtain ⟨hP, hD, hS⟩ := hw
  have hin0 : ∀ w ∈ (.code yX8_held cX8_held 2 (some .int) :: pm_big : List Cond), w ∈ pm_big := by
    intro w hw
    rcases List.mem_cons.mp hw with rfl | hw
    · exact mw_100
    · exact hw
  refine va_calli (va_runSN (As := [.int n, .int k]) (rest := rest) ⟨hx, hb, hml, hown, hts⟩ (ch_held l n k) ⟨va_cnB 2 hts (pm_good hin0) rfl rfl rfl (hE.2.1 _ hl) (hts _ mw_61) (by decide +kernel) ⟨hR.1, hR.2⟩, hts _ mw_99, trivial⟩
    ⟨fun a U g mk q => ⟨q.1, trivial⟩, fun U hU hW => ⟨rfl, trivial⟩⟩ rfl rfl hls rfl (lv_room hroom) hd hcs) hS (fun q _ h => h.elim) (fun q h => h.elim) (fun r u t H1 locs1 ht hvm hw hB hz1 hk1 hS1 => ?_)
  rw [hw, hv]
  exact kk H1 locs1 ⟨hP.kept (fun k x hx => hk1 x.1 ((hP k x hx).lt) (fun h => h)), hD, hS1⟩
end XB
