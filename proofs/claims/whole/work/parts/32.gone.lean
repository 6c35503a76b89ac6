/-! BOTH LINES GONE: the same posts -/
theorem smA_congr {p p' : Nat → Bool} {g g' : Nat → Int32} : ∀ (k i : Nat) (a : Int32), (∀ s, i ≤ s → s < i + k → p s = p' s ∧ g s = g' s) → smA p g i k a = smA p' g' i k a
  | 0, i, a, _ => rfl
  | k + 1, i, a, h => by
    rw [smA, smA, (h i (by omega) (by omega)).1, (h i (by omega) (by omega)).2]
    exact smA_congr k (i + 1) _ (fun s h1 h2 => h s (by omega) (by omega))
theorem tnF_congr {M M' : Nat → Nat → Int32} {L L' : Nat → Int32} {n : Nat} (hM : ∀ i, i < n → M 3 i = M' 3 i) (hL : ∀ i, i < n → L i = L' i) : ∀ j, j ≤ n → tnF M L j = tnF M' L' j
  | 0, _ => rfl
  | j + 1, hj => by rw [tnF, tnF, tnF_congr hM hL j (by omega), hM j (by omega), hL j (by omega)]
theorem sdF_congr {M M' : Nat → Nat → Int32} {L L' P P' : Nat → Int32} {n : Nat} (hM : ∀ i, i < n → ∀ c, c < 5 → M c i = M' c i) (hL : ∀ i, i < n → L i = L' i) (hP : ∀ i, i < n → P i = P' i) : ∀ j, j ≤ n → sdF M L P j = sdF M' L' P' j
  | 0, _ => rfl
  | j + 1, hj => by
    rw [sdF, sdF, sdF_congr hM hL hP j (by omega), tnF_congr (fun i hi => hM i hi 3 (by omega)) hL (j + 1) hj]
    unfold drF
    rw [hM j (by omega) 0 (by omega), hM j (by omega) 4 (by omega), hP j (by omega)]
theorem alF_congr {M M' : Nat → Nat → Int32} {S S' : Nat → Int32} {n : Nat} (hM : ∀ i, i < n → ∀ c, c < 5 → M c i = M' c i) (hS : ∀ i, i < n → S i = S' i) : ∀ j, j ≤ n → alF M S j = alF M' S' j
  | 0, _ => rfl
  | j + 1, hj => by rw [alF, alF, alF_congr hM hS j (by omega), hM j (by omega) 1 (by omega), hS j (by omega)]
def SDf (h : pm_HP) (u : Nat) : Nat → Int32 := sdF (rm h) (rLe h u) (rPu h u)
def ALf (h : pm_HP) (u : Nat) : Nat → Int32 := alF (rm h) (rSh h u)
def TNf (h : pm_HP) (u : Nat) : Nat → Int32 := tnF (rm h) (rLe h u)
/-- the class's walk rows hold the line -/
def Gn (h h1 : pm_HP) (n u : Nat) : Prop := frm wkC h h1 ∧ h1.1 17 7 = nI n ∧ h1.1 17 8 = h.1 60 6 ∧ h1.1 17 9 = h.1 60 7 ∧ (∀ j, j ≤ n → h1.1 52 j = SDf h u j ∧ h1.1 53 j = ALf h u j) ∧ ∀ j, j < n → h1.1 54 j = TNf h u (j + 1) ∧ h1.1 55 j = rLe h u j ∧ h1.1 56 j = rPu h u j ∧ h1.1 57 j = rSh h u j ∧ h1.1 58 j = drF (rm h) (rPu h u) j
/-- the reference's, from a heap whose row 60 is h's -/
def Gr (h h1 h2 : pm_HP) (n u : Nat) : Prop := frm [63, 64, 65] h1 h2 ∧ (∀ j, j ≤ n → h2.1 63 j = SDf h u j ∧ h2.1 64 j = ALf h u j) ∧ ∀ j, j < n → h2.1 65 j = TNf h u (j + 1)
theorem wo_p {h : pm_HP} {s : Nat} (hs : s < 8) (iS : RS h (31 + 1) 60) : onP h (-1) s = decide (rl h 4 s = 1) := by
  unfold onP
  rw [eq_sl iS hs (by omega)]
  have e : ¬ nI s = -1 := by
    intro q
    have h1 := nI_pos (n := s) (by omega)
    rw [q] at h1
    exact h1 (by decide)
  simp [e]
theorem cLe_eq {h : pm_HP} {u i : Nat} (iS : RS h (31 + 1) 60) (hu : u ≤ 8) : cLe h u (-1) i = rLe h u i := by
  unfold cLe rLe
  refine smA_congr u 0 0 (fun s _ h2 => ?_)
  have hs : s < 8 := by omega
  exact ⟨wo_p hs iS, by rw [eq_sl iS hs (c := 0) (by omega), eq_sl iS hs (c := 1) (by omega), eq_sl iS hs (c := 2) (by omega), eq_sl iS hs (c := 3) (by omega)]⟩
theorem cPu_eq {h : pm_HP} {u i : Nat} (iS : RS h (31 + 1) 60) (iM : RM h 31 60) (hu : u ≤ 8) (hi : i < 24) : cPu h u (-1) i = rPu h u i := by
  unfold cPu rPu
  refine smA_congr u 0 0 (fun s _ h2 => ?_)
  have hs : s < 8 := by omega
  exact ⟨wo_p hs iS, by rw [eq_sl iS hs (c := 0) (by omega), eq_sl iS hs (c := 1) (by omega), eq_sl iS hs (c := 2) (by omega), eq_sl iS hs (c := 3) (by omega), eq_mi iM hi (by omega)]⟩
theorem cSh_eq {h : pm_HP} {u i : Nat} (iS : RS h (31 + 1) 60) (iM : RM h 31 60) (hu : u ≤ 8) (hi : i < 24) : cSh h u (-1) i = rSh h u i := by
  unfold cSh rSh
  refine smA_congr u 0 0 (fun s _ h2 => ?_)
  have hs : s < 8 := by omega
  exact ⟨wo_p hs iS, by rw [eq_sl iS hs (c := 0) (by omega), eq_sl iS hs (c := 1) (by omega), eq_sl iS hs (c := 2) (by omega), eq_sl iS hs (c := 3) (by omega), eq_mi iM hi (by omega)]⟩
section G1
variable {fb : Bool} {d : Nat} {h : pm_HP}
theorem go_c {n u nt nb nw : Nat} (hI : Inv h) (iN : RN h 3 60 n u nt nb nw) : ∃ h1, rs fb (d + 99) n_X7_go [.ref 17, .ref 1, .int (-1)] h = some (none, h1) ∧ Gn h h1 n u := by
  obtain ⟨-, iZ, iM, iS, iT, iB, iW, iX, iY⟩ := hI.1
  obtain ⟨h1, r, hf, h7, h8, h9, k1, k2⟩ := sp_go (fb := fb) (d := d + 93) (wo := -1) iN.1.1 iN.1.2.2.2 iN.2.1.1 iN.2.1.2.2 hI.2.2.2.2.2.1 hI.2.2.2.2.2.2.1
  have hn := iN.1.2.2.2
  have hu := iN.2.1.2.2
  have eM : ∀ i, i < n → ∀ c, c < 5 → mi h c i = rm h c i := fun i hi c hc => eq_mi iM (by omega) hc
  have eL : ∀ i, i < n → cLe h u (-1) i = rLe h u i := fun i hi => cLe_eq iS hu
  have eP : ∀ i, i < n → cPu h u (-1) i = rPu h u i := fun i hi => cPu_eq iS iM hu (by omega)
  have eS : ∀ i, i < n → cSh h u (-1) i = rSh h u i := fun i hi => cSh_eq iS iM hu (by omega)
  refine ⟨h1, r, hf, h7, by rw [h8]; exact iZ.2.1, by rw [h9]; exact iZ.2.2, fun j hj => ?_, fun j hj => ?_⟩
  · rw [(k1 j hj).1, (k1 j hj).2]
    exact ⟨sdF_congr eM eL eP j hj, alF_congr eM eS j hj⟩
  · obtain ⟨g1, g2, g3, g4, g5⟩ := k2 j hj
    rw [g1, g2, g3, g4, g5]
    refine ⟨tnF_congr (fun i hi => eM i hi 3 (by omega)) eL (j + 1) (by omega), eL j hj, eP j hj, eS j hj, ?_⟩
    unfold drF
    rw [eM j hj 0 (by omega), eM j hj 4 (by omega), eP j hj]
theorem go_r {h1 : pm_HP} {n u nt nb nw : Nat} (hI : Inv h) (iN : RN h 3 60 n u nt nb nw) (h60 : h1.1 60 = h.1 60) (h63 : h1.1 63 0 = 0) (h64 : h1.1 64 0 = 0) : ∃ h2, rs fb (d + 99) n_X9_goes [.ref 59] h1 = some (none, h2) ∧ Gr h h1 h2 n u := by
  obtain ⟨-, iZ, iM, iS, iT, iB, iW, iX, iY⟩ := hI.1
  have er : rm h1 = rm h := by funext c i; unfold rm; rw [h60]
  have el : rl h1 = rl h := by funext c i; unfold rl; rw [h60]
  have e1 : rLe h1 u = rLe h u := by funext i; unfold rLe; rw [el]
  have e2 : rPu h1 u = rPu h u := by funext i; unfold rPu; rw [el, er]
  have e3 : rSh h1 u = rSh h u := by funext i; unfold rSh; rw [el, er]
  obtain ⟨h2, r, hf, k1, k2⟩ := sr_goes (fb := fb) (d := d + 95) (h := h1) iN.1.2.2.2 iN.2.1.2.2 (by rw [h60]; exact iN.2.1.2.1) (by rw [h60]; exact iN.1.2.1) (fun s hs => by rw [el]; exact (iS s hs).2.2.2.1) h63 h64
  rw [er, e1, e2, e3] at k1
  rw [er, e1] at k2
  exact ⟨h2, r, hf, k1, k2⟩
/-- the invariant behind both -/
theorem Gn_0 {h1 : pm_HP} {n u : Nat} (g : Gn h h1 n u) : h1.1 52 0 = 0 ∧ h1.1 53 0 = 0 := by
  have := g.2.2.2.2.1 0 (by omega)
  exact ⟨this.1, this.2⟩
theorem Gr_0 {h1 h2 : pm_HP} {n u : Nat} (g : Gr h h1 h2 n u) : h2.1 63 0 = 0 ∧ h2.1 64 0 = 0 := by
  have := g.2.1 0 (by omega)
  exact ⟨this.1, this.2⟩
theorem Inv_gn {h1 : pm_HP} {n u : Nat} (hI : Inv h) (g : Gn h h1 n u) : Inv h1 := by
  have z := Gn_0 g
  refine Inv_frm hI g.1 (by decide) ⟨z.1, z.2, ?_, ?_⟩
  · rw [g.1.1 63 (by decide)]; exact hI.2.2.2.2.2.2.2.1
  · rw [g.1.1 64 (by decide)]; exact hI.2.2.2.2.2.2.2.2
theorem Inv_gr {h1 h2 : pm_HP} {n u : Nat} (hI : Inv h1) (g : Gr h h1 h2 n u) : Inv h2 := by
  have z := Gr_0 g
  refine Inv_frm hI g.1 (by decide) ⟨?_, ?_, z.1, z.2⟩
  · rw [g.1.1 52 (by decide)]; exact hI.2.2.2.2.2.1
  · rw [g.1.1 53 (by decide)]; exact hI.2.2.2.2.2.2.1
/-- both gone, one behind the other -/
theorem go2 {n u nt nb nw : Nat} (hI : Inv h) (iN : RN h 3 60 n u nt nb nw) : ∃ h1 h2, rs fb (d + 99) n_X7_go [.ref 17, .ref 1, .int (-1)] h = some (none, h1) ∧ Gn h h1 n u ∧ rs fb (d + 99) n_X9_goes [.ref 59] h1 = some (none, h2) ∧ Gr h h1 h2 n u ∧ Inv h2 := by
  obtain ⟨h1, r1, g1⟩ := go_c (fb := fb) (d := d) hI iN
  obtain ⟨h2, r2, g2⟩ := go_r (fb := fb) (d := d) (h1 := h1) hI iN (g1.1.1 60 (by decide)) (by rw [g1.1.1 63 (by decide)]; exact hI.2.2.2.2.2.2.2.1) (by rw [g1.1.1 64 (by decide)]; exact hI.2.2.2.2.2.2.2.2)
  exact ⟨h1, h2, r1, g1, r2, g2, Inv_gr (Inv_gn hI g1) g2⟩
end G1
