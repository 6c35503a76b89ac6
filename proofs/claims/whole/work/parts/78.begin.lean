/-! THE LAW, from its entry -/
theorem wk_classes {s : State} {args : Array Value} (hts : ∀ w ∈ pm_big, w.before args s = true) : ∃ (dC : Nat → ClassId) (dI : Nat → Nat → Nat), ∀ (k : Nat) (q : vw_C), vwCl[k]? = some q → u_Kn s q.1 q.2.1 q.2.2 (dC k) (dI k) := by
  obtain ⟨c0, i0, h0⟩ := u_known (C := RX0) (T := TX0) (N := 2) (n := 2) hts (pm_uw (ci := 0) rfl) (hts _ (pm_bm 133 (by decide +kernel) rfl))
  obtain ⟨c1, i1, h1⟩ := u_known (C := RX1) (T := TX1) (N := 6) (n := 6) hts (pm_uw (ci := 1) rfl) (hts _ (pm_bm 234 (by decide +kernel) rfl))
  obtain ⟨c2, i2, h2⟩ := u_known (C := RX2) (T := TX2) (N := 3) (n := 3) hts (pm_uw (ci := 2) rfl) (hts _ (pm_bm 292 (by decide +kernel) rfl))
  obtain ⟨c3, i3, h3⟩ := u_known (C := RX3) (T := TX3) (N := 4) (n := 4) hts (pm_uw (ci := 3) rfl) (hts _ (pm_bm 122 (by decide +kernel) rfl))
  obtain ⟨c4, i4, h4⟩ := u_known (C := RX4) (T := TX4) (N := 5) (n := 5) hts (pm_uw (ci := 4) rfl) (hts _ (pm_bm 266 (by decide +kernel) rfl))
  obtain ⟨c5, i5, h5⟩ := u_known (C := RX5) (T := TX5) (N := 10) (n := 10) hts (pm_uw (ci := 5) rfl) (hts _ (pm_bm 87 (by decide +kernel) rfl))
  obtain ⟨c6, i6, h6⟩ := u_known (C := RX6) (T := TX6) (N := 4) (n := 4) hts (pm_uw (ci := 6) rfl) (hts _ (pm_bm 93 (by decide +kernel) rfl))
  obtain ⟨c7, i7, h7⟩ := u_known (C := RX7) (T := TX7) (N := 10) (n := 10) hts (pm_uw (ci := 7) rfl) (hts _ (pm_bm 197 (by decide +kernel) rfl))
  obtain ⟨c8, i8, h8⟩ := u_known (C := RX8) (T := TX8) (N := 10) (n := 10) hts (pm_uw (ci := 8) rfl) (hts _ (pm_bm 79 (by decide +kernel) rfl))
  obtain ⟨c9, i9, h9⟩ := u_known (C := RX9) (T := TX9) (N := 27) (n := 27) hts (pm_uw (ci := 9) rfl) (hts _ (pm_bm 1019 (by decide +kernel) rfl))
  refine ⟨fun k => [c0, c1, c2, c3, c4, c5, c6, c7, c8, c9].getD k c0, fun k => [i0, i1, i2, i3, i4, i5, i6, i7, i8, i9].getD k i0, ?_⟩
  intro k q hq
  match k, hq with
  | 0, hq => cases hq; exact h0
  | 1, hq => cases hq; exact h1
  | 2, hq => cases hq; exact h2
  | 3, hq => cases hq; exact h3
  | 4, hq => cases hq; exact h4
  | 5, hq => cases hq; exact h5
  | 6, hq => cases hq; exact h6
  | 7, hq => cases hq; exact h7
  | 8, hq => cases hq; exact h8
  | 9, hq => cases hq; exact h9
  | k + 10, hq => cases hq
theorem wk_K {s : State} {args : Array Value} (hts : ∀ w ∈ pm_big, w.before args s = true) (hS : va_AO "NeedleLine$Sheet" s) (hT : va_AO "java/lang/String" s) : ∃ (D : va_G) (cI cS cT : ClassId), va_K D vwCl (xt cI cS cT) s := by
  obtain ⟨dC, dI, hc⟩ := wk_classes hts
  obtain ⟨cI, kI, compI, h1, h2, h3⟩ := Cond.arrayClass_spec (type := .int) (hts _ (pm_bm 120 (by decide +kernel) rfl))
  obtain ⟨compS, cS, kS, s1, -, s2, s3, s4⟩ := Cond.arrayOver_spec hS
  obtain ⟨compT, cT, kT, t1, -, t2, t3, t4⟩ := Cond.arrayOver_spec hT
  refine ⟨(dC, dI), cI, cS, cT, hc, fun k q h => ?_⟩
  match k, h with
  | 0, h => cases h; exact ⟨fun n z => ⟨fun k h => (by cases h), kI, h2, compI, h3⟩, h1⟩
  | 1, h => cases h; exact ⟨fun n z => ⟨fun k h => (by cases h), kS, s2, compS, s3⟩, kS, compS, s2, s3, s1, s4⟩
  | 2, h => cases h; exact ⟨fun n z => ⟨fun k h => (by cases h), kT, t2, compT, t3⟩, kT, compT, t2, t3, t1, t4⟩
  | k + 3, h => cases h
set_option maxHeartbeats 4000000 in
set_option maxRecDepth 100000 in
theorem whole_start {p : Program} {e : Env} {s : State} {m : MethodId} {below : List Frame} {meth : Method} {c : Code} (l : Launch) (hflags : l.flags = flags0) {b L : Nat} {xs : Nat → Int32} (hL : L ≤ 3072) (C0 : lw_At p s m meth c b L xs) : W p l e room_1 s m #[Value.ref b] below meth c s.heap [] 0 0 (lw_Z below #[Value.ref b] s) (entryFrame m ([Value.ref b] : List Value).toArray 4) := by
  obtain ⟨hx, hb, hr, hml, hown, hts, hX, hbl, hlocks, hgv⟩ := id C0
  obtain ⟨sN, adK, adV, fb, fa, hB⟩ := so_base C0
  have htb := pm_big_of hts
  have hAS : va_AO "NeedleLine$Sheet" s := va_AO.of (hts _ (List.mem_of_getElem? (i := 291) (by decide +kernel) : (Cond.arrayOver (FieldType.object "NeedleLine$Sheet")) ∈ lw_tbl))
  have hAT : va_AO "java/lang/String" s := va_AO.of (hts _ (List.mem_of_getElem? (i := 1025) (by decide +kernel) : (Cond.arrayOver (FieldType.object "java/lang/String")) ∈ lw_tbl))
  obtain ⟨D, cI, cS, cT, hK⟩ := wk_K htb hAS hAT
  have hA : ∀ q : Nat, s.heap.size ≤ q → (fun q : Nat => s.heap.size ≤ q) q := fun _ h => h
  have hE : xe (fE D cI cS cT adK) s := ⟨hK, hB.1, hAS, hAT, hB.2.2.1 2 _ rfl, hB.2.2.1 3 _ rfl, hB.2.2.1 4 _ rfl⟩
  have X : xa_X (fE D cI cS cT adK) p s m #[.ref b] meth c "NeedleLineLaw" code 4 (fun q : Nat => s.heap.size ≤ q) meth.name meth.sig.returnType := ⟨hx, hb, hml, hown, htb, hE, hA, rfl, hlocks, rfl⟩
  have hw : xa_W (fE D cI cS cT adK) (fun q : Nat => s.heap.size ≤ q) s [] s.heap [] := ⟨fun k q h => by simp at h, ⟨fun i j p q h => by simp at h, fun k q h => by simp at h⟩, va_S.rf⟩
  have hl := lv_entry ([.ref b]) (n := 4) (Nat.le_of_ble_eq_true rfl)
  rw [lg_entry_eq]
  generalize (lg_sl ([.ref b]) ++ List.replicate (4 - (lg_sl ([.ref b])).length) Slot.unset).toArray = ls at hl ⊢
  have hl : lv_has ls 4 [(0, .ref b)] := hl
  refine xa_new X hw (ci := 8) (C := RX8) (T := TX8) (N := 10) (ty := tyX8) (fs := [.null, .null, .null, .null, .null, .null, .null, .null, .null, .int 0]) rfl tyX8_ok (pm_bm 78 (by decide +kernel) rfl) (pm_bm 79 (by decide +kernel) rfl) mw_61 (fun j hj => by rcases (show j = 0 ∨ j = 1 ∨ j = 2 ∨ j = 3 ∨ j = 4 ∨ j = 5 ∨ j = 6 ∨ j = 7 ∨ j = 8 ∨ j = 9 by omega) with rfl | rfl | rfl | rfl | rfl | rfl | rfl | rfl | rfl | rfl <;> rfl) (Nat.le_of_ble_eq_true rfl) (Nat.le_of_ble_eq_true rfl) dL_law_0 (fun q8 H hw => ?_)
  have hw : xa_W (fE D cI cS cT adK) (fun q : Nat => s.heap.size ≤ q) s [(q8, .inr (8, [.null, .null, .null, .null, .null, .null, .null, .null, .null, .int 0]))] H [] := hw
  refine W.widen (k := 1) (n := 10) (Nat.le_of_ble_eq_true rfl) (Nat.le_of_ble_eq_true rfl) ?_
  refine lv_dup hx hb dL_law_3 rfl ?_
  refine xa_call (as := []) (wr := []) X hw (cx_X8 l (fE D cI cS cT adK) q8) (fun h => Bool.noConfusion h) hl.1 [0] ([]) rfl rfl rfl rfl rfl (by decide) (Or.inl (pm_bm 80 (by decide +kernel) rfl)) (pm_bm 81 (by decide +kernel) rfl) mw_61 (pm_bm 82 (by decide +kernel) rfl) rfl (by decide +kernel) rfl ⟨(Nat.le_of_ble_eq_true rfl), (Nat.le_of_ble_eq_true rfl)⟩ (rest := [.ref q8]) rfl (Nat.le_of_ble_eq_true rfl) dL_law_4 ⟨(Nat.le_of_ble_eq_true rfl), (Nat.le_of_ble_eq_true rfl)⟩ (fun u H locs hw => ?_)
  have hw : xa_W (fE D cI cS cT adK) (fun q : Nat => s.heap.size ≤ q) s (wx_X8 (fE D cI cS cT adK) q8 u) H locs := hw
  refine W.widen (k := 59) (n := 1469) (Nat.le_of_ble_eq_true rfl) (Nat.le_of_ble_eq_true rfl) ?_
  refine lv_astore_n (lv' := [(1, .ref q8), (0, .ref b)]) hx hb dL_law_7 rfl hl (by decide) rfl (fun ls hl => ?_)
  refine xa_new X hw (ci := 9) (C := RX9) (T := TX9) (N := 27) (ty := tyX9) (fs := [.null, .null, .int 0, .null, .null, .null, .null, .null, .int 0, .int 0, .int 0, .int 0, .null, .int 0, .null, .null, .null, .long 0, .long 0, .null, .int 0, .int 0, .int 0, .null, .null, .null, .null]) rfl tyX9_ok (pm_bm 1018 (by decide +kernel) rfl) (pm_bm 1019 (by decide +kernel) rfl) mw_71 (fun j hj => by rcases (show j = 0 ∨ j = 1 ∨ j = 2 ∨ j = 3 ∨ j = 4 ∨ j = 5 ∨ j = 6 ∨ j = 7 ∨ j = 8 ∨ j = 9 ∨ j = 10 ∨ j = 11 ∨ j = 12 ∨ j = 13 ∨ j = 14 ∨ j = 15 ∨ j = 16 ∨ j = 17 ∨ j = 18 ∨ j = 19 ∨ j = 20 ∨ j = 21 ∨ j = 22 ∨ j = 23 ∨ j = 24 ∨ j = 25 ∨ j = 26 by omega) with rfl | rfl | rfl | rfl | rfl | rfl | rfl | rfl | rfl | rfl | rfl | rfl | rfl | rfl | rfl | rfl | rfl | rfl | rfl | rfl | rfl | rfl | rfl | rfl | rfl | rfl | rfl <;> rfl) (Nat.le_of_ble_eq_true rfl) (Nat.le_of_ble_eq_true rfl) dL_law_8 (fun q9 H hw => ?_)
  refine W.widen (k := 60) (n := 1496) (Nat.le_of_ble_eq_true rfl) (Nat.le_of_ble_eq_true rfl) ?_
  refine lv_dup hx hb dL_law_11 rfl ?_
  have hfree := va_free (wc := [(q9, .inr (9, [.null, .null, .int 0, .null, .null, .null, .null, .null, .int 0, .int 0, .int 0, .int 0, .null, .int 0, .null, .null, .null, .long 0, .long 0, .null, .int 0, .int 0, .int 0, .null, .null, .null, .null]))]) hw.2.1 hw.2.2 hA [59] rfl
  have hO : ∀ i, i < 3 → va_O "java/lang/String" (adK i) (va_A [(q9, .inr (9, [.null, .null, .int 0, .null, .null, .null, .null, .null, .int 0, .int 0, .int 0, .int 0, .null, .int 0, .null, .null, .null, .long 0, .long 0, .null, .int 0, .int 0, .int 0, .null, .null, .null, .null]))] H.size) s H := fun i hi => va_O.narrow (va_O.kept (hB.2.2.2.1.1 i hi).1 hw.2.2.2.1) hfree
  refine xa_call (as := []) (wr := wx_X8 (fE D cI cS cT adK) q8 u) X hw (cx_X9 l (fE D cI cS cT adK) q9) (fun _ => ⟨hO 0 (by decide), hO 1 (by decide)⟩) hl.1 [59] (List.range 59) rfl rfl rfl rfl rfl (by decide) (Or.inl (pm_bm 1020 (by decide +kernel) rfl)) (pm_bm 1021 (by decide +kernel) rfl) mw_71 (pm_bm 1022 (by decide +kernel) rfl) rfl (by decide +kernel) rfl ⟨(Nat.le_of_ble_eq_true rfl), (Nat.le_of_ble_eq_true rfl)⟩ (rest := [.ref q9]) rfl (Nat.le_of_ble_eq_true rfl) dL_law_12 ⟨(Nat.le_of_ble_eq_true rfl), (Nat.le_of_ble_eq_true rfl)⟩ (fun v H locs hw => ?_)
  refine W.widen (k := 76) (n := 2766) (Nat.le_of_ble_eq_true rfl) (Nat.le_of_ble_eq_true rfl) ?_
  refine lv_astore_n (lv' := [(2, .ref q9), (1, .ref q8), (0, .ref b)]) hx hb dL_law_15 rfl hl (by decide) rfl (fun ls hl => ?_)
  refine lv_iconst (v := 0) hx hb dL_law_16 (by decide) ?_
  refine lv_istore_n (lv' := [(3, .int 0), (2, .ref q9), (1, .ref q8), (0, .ref b)]) hx hb dL_law_17 rfl hl (by decide) rfl (fun ls hl => ?_)
  refine va_forget (fun q hq => hw.2.2.2.2 q hq) ?_
  obtain ⟨hJ, hAd⟩ := fin_J (b := b) (fa := fa) (sN := sN) (adV := adV) (fb := fb) hw.2.1
  obtain ⟨hSt, hA2⟩ := so_St (b := b) hB hK hAd
  have hS : va_S (pm_A (D, so_K (fA q8 q9 u v) b sN adK adV fa, cI, cS, cT, fb)) s.heap H [] := ⟨hw.2.2.1, fun q h1 _ => hw.2.2.2.1 q h1 (Nat.not_le.mpr h1), fun q hq => by cases hq⟩
  refine lw_run l hL C0 (K := (D, so_K (fA q8 q9 u v) b sN adK adV fa, cI, cS, cT, fb)) rfl hSt hJ hA2 (h := hI) Inv_hI (fin_P hw.1) hS (Nat.le_of_ble_eq_true rfl) (Nat.le_of_ble_eq_true rfl) ?_
  refine ⟨hl.1, hl.2.1, by decide, fun i x hx => ?_⟩
  match i, hx with
  | 0, hx => cases hx; exact lv_at hl 3 rfl
  | 1, hx => cases hx; exact lv_at hl 2 rfl
  | 2, hx => cases hx; exact lv_at hl 1 rfl
  | 3, hx => cases hx; exact lv_at hl 0 rfl
  | i + 4, hx => cases hx
