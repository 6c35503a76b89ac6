/-! THE LINE IS GONE (the class) -/
def smA (p : Nat → Bool) (g : Nat → Int32) : Nat → Nat → Int32 → Int32
  | _, 0, acc => acc
  | i, n + 1, acc => smA p g (i + 1) n (if p i = true then acc + g i else acc)
def up3 (h : pm_HP) (i : Nat) (x y z : Int32) : pm_HP := (fun a b => if a = 55 ∧ b = i then x else if a = 56 ∧ b = i then y else if a = 57 ∧ b = i then z else h.1 a b, h.2)
theorem up3_x {h : pm_HP} {i : Nat} {x y z : Int32} : (up3 h i x y z).1 55 i = x := by simp [up3]
theorem up3_y {h : pm_HP} {i : Nat} {x y z : Int32} : (up3 h i x y z).1 56 i = y := by simp [up3]
theorem up3_z {h : pm_HP} {i : Nat} {x y z : Int32} : (up3 h i x y z).1 57 i = z := by simp [up3]
theorem up3_sx {h : pm_HP} {i : Nat} {x y z v : Int32} : pm_si (up3 h i x y z) 55 i v = up3 h i v y z := by
  unfold pm_si up3
  congr 1
  funext a b
  by_cases q : a = 55 ∧ b = i <;> simp [q]
theorem up3_sy {h : pm_HP} {i : Nat} {x y z v : Int32} : pm_si (up3 h i x y z) 56 i v = up3 h i x v z := by
  unfold pm_si up3
  congr 1
  funext a b
  by_cases q : a = 56 ∧ b = i <;> simp [q]
theorem up3_sz {h : pm_HP} {i : Nat} {x y z v : Int32} : pm_si (up3 h i x y z) 57 i v = up3 h i x y v := by
  unfold pm_si up3
  congr 1
  funext a b
  by_cases q : a = 57 ∧ b = i <;> simp [q]
theorem up3_sl {h : pm_HP} {i c s : Nat} {x y z : Int32} : sl (up3 h i x y z) c s = sl h c s := by simp [sl, up3]
theorem up3_4 {h : pm_HP} {i : Nat} {x y z : Int32} : (up3 h i x y z).1 4 3 = h.1 4 3 := by simp [up3]
theorem up3_0 {h : pm_HP} {i : Nat} {x y z : Int32} : pm_si (pm_si (pm_si h 55 i x) 56 i y) 57 i z = up3 h i x y z := by
  unfold pm_si up3
  congr 1
  funext a b
  by_cases q : a = 57 ∧ b = i
  · simp [q]
  · by_cases q2 : a = 56 ∧ b = i <;> by_cases q3 : a = 55 ∧ b = i <;> simp [q, q2, q3]
def onP (h : pm_HP) (wo : Int32) (s : Nat) : Bool := decide (¬ nI s = wo ∧ sl h 4 s = 1)
set_option maxRecDepth 100000 in
theorem lp_addUp {fb : Bool} {d i u : Nat} {wo W Z : Int32} (hi : i < 24) (hu8 : u ≤ 8) {h : pm_HP} (hu : h.1 4 3 = nI u) : ∀ (k s : Nat) (x y z : Int32), s + k = u →
    pm_ev P_X7_addUpSlips (rs fb (d + 4)) (P_X7_addUpSlips 1) [some (.ref 17), some (.ref 1), some (.int (nI i)), some (.int wo), some (.int W), some (.int Z), some (.int (nI s))] [] (up3 h i x y z) =
      some (none, up3 h i (smA (onP h wo) (fun s => leF (sl h 0 s) (sl h 1 s) (sl h 2 s) (sl h 3 s) (nI i)) s k x) (smA (onP h wo) (fun s => puF (sl h 0 s) (sl h 1 s) (sl h 2 s) (sl h 3 s) (nI i) W) s k y) (smA (onP h wo) (fun s => shF (sl h 0 s) (sl h 1 s) (sl h 2 s) (sl h 3 s) (nI i) Z) s k z)) := by
  intro k
  induction k with
  | zero =>
    intro s x y z hs
    have e1 : nI u ≤ nI s := nI_le (by omega) (by omega)
    simp only [c20, c2i, c2n, c2r, cs8_0, cs8_1, cs8_2, cs8_3, cs8_4, decide_eq_true_eq, ev_ald0, ev_ald1, ev_aldn0, ev_aldn1, ev_bin, ev_cv0, ev_cv2, ev_cv3, ev_dup2_ii, ev_dup2_ir, ev_go, ev_gr, ev_i, ev_ia, ev_ias, ev_if2, ev_ild2, ev_ild3, ev_ild4, ev_ild5, ev_ild6, ev_inc6, ev_ist4, ev_ist5, ev_ist6, ev_rv, i00, i01, i10, is_sw, pm_bd_s, pm_tl_n, pm_tl_s, ↓reduceIte, pb_X7_addUpSlips_0, pb_X7_addUpSlips_1, pb_X7_addUpSlips_2, pb_X7_addUpSlips_3, kd_1, rf_1_0, rf_1_1, rf_1_2, rf_1_3, rf_1_4, rf_1_5, rf_1_6, is_5_1, kd_4, rf_4_2, fc_4_0, fc_4_1, is_6_3_4, is_3_6_4, is_3_4, sp_used, up3_4, hu, e1, smA]
  | succ k ih =>
    intro s x y z hs
    have e1 : ¬ nI u ≤ nI s := nI_ge (by omega) (by omega)
    have hs8 : s < 8 := by omega
    have ih2 := ih (s + 1)
    have hix : pm_ix (nI i) 24 = true := pm_ix_n hi (by omega)
    have hcl := nI_clamp (show i < 2 ^ 31 by omega)
    rw [smA, smA, smA, pb_X7_addUpSlips_1]
    by_cases hw : nI s = wo
    · have hp : onP h wo s = false := by unfold onP; simp [hw]
      rw [hp]
      have hwT : (nI s = wo) = True := eq_true hw
      simp only [c20, c2i, c2n, c2r, cs8_0, cs8_1, cs8_2, cs8_3, cs8_4, decide_eq_true_eq, ev_ald0, ev_ald1, ev_aldn0, ev_aldn1, ev_bin, ev_cv0, ev_cv2, ev_cv3, ev_dup2_ii, ev_dup2_ir, ev_go, ev_gr, ev_i, ev_ia, ev_ias, ev_if2, ev_ild2, ev_ild3, ev_ild4, ev_ild5, ev_ild6, ev_inc6, ev_ist4, ev_ist5, ev_ist6, ev_rv, i00, i01, i10, is_sw, pm_bd_s, pm_tl_n, pm_tl_s, ↓reduceIte, pb_X7_addUpSlips_2, kd_1, rf_1_0, rf_1_1, rf_1_2, rf_1_3, rf_1_4, rf_1_5, rf_1_6, is_5_1, kd_4, rf_4_2, fc_4_0, fc_4_1, is_6_3_4, is_3_6_4, is_3_4, sp_used, up3_4, hu, e1, hwT, nI_1, Bool.false_eq_true]
      exact ih2 x y z (by omega)
    · by_cases ho : sl h 4 s = 1
      · have hp : onP h wo s = true := by unfold onP; simp [hw, ho]
        rw [hp]
        simp only [c20, c2i, c2n, c2r, cs8_0, cs8_1, cs8_2, cs8_3, cs8_4, decide_eq_true_eq, ev_ald0, ev_ald1, ev_aldn0, ev_aldn1, ev_bin, ev_cv0, ev_cv2, ev_cv3, ev_dup2_ii, ev_dup2_ir, ev_go, ev_gr, ev_i, ev_ia, ev_ias, ev_if2, ev_ild2, ev_ild3, ev_ild4, ev_ild5, ev_ild6, ev_inc6, ev_ist4, ev_ist5, ev_ist6, ev_rv, i00, i01, i10, is_sw, pm_bd_s, pm_tl_n, pm_tl_s, ↓reduceIte, pb_X7_addUpSlips_2, kd_1, rf_1_0, rf_1_1, rf_1_2, rf_1_3, rf_1_4, rf_1_5, rf_1_6, is_5_1, kd_4, rf_4_2, fc_4_0, fc_4_1, is_6_3_4, is_3_6_4, is_3_4, kd_17, rf_17_0, rf_17_1, rf_17_2, rf_17_3, rf_17_4, rf_17_5, rf_17_6, is_7_17, kd_55, al_55, kd_56, al_56, kd_57, al_57, sp_used, up3_4, hu, e1, hw, ho, nI_1, at_4_4 hs8, up3_sl, hix, hcl, up3_x, up3_y, up3_z, up3_sx, up3_sy, up3_sz, sp_leansAt hs8, sp_pushesAt hs8, sp_shortensAt hs8, not_true_eq_false]
        exact ih2 _ _ _ (by omega)
      · have hp : onP h wo s = false := by unfold onP; simp [ho]
        rw [hp]
        simp only [c20, c2i, c2n, c2r, cs8_0, cs8_1, cs8_2, cs8_3, cs8_4, decide_eq_true_eq, ev_ald0, ev_ald1, ev_aldn0, ev_aldn1, ev_bin, ev_cv0, ev_cv2, ev_cv3, ev_dup2_ii, ev_dup2_ir, ev_go, ev_gr, ev_i, ev_ia, ev_ias, ev_if2, ev_ild2, ev_ild3, ev_ild4, ev_ild5, ev_ild6, ev_inc6, ev_ist4, ev_ist5, ev_ist6, ev_rv, i00, i01, i10, is_sw, pm_bd_s, pm_tl_n, pm_tl_s, ↓reduceIte, pb_X7_addUpSlips_2, kd_1, rf_1_0, rf_1_1, rf_1_2, rf_1_3, rf_1_4, rf_1_5, rf_1_6, is_5_1, kd_4, rf_4_2, fc_4_0, fc_4_1, is_6_3_4, is_3_6_4, is_3_4, sp_used, up3_4, hu, e1, hw, ho, nI_1, at_4_4 hs8, up3_sl, not_false_eq_true, Bool.false_eq_true]
        exact ih2 x y z (by omega)
/-- what leans, pushes, shortens at mile i, of the first u slips without one -/
def cLe (h : pm_HP) (u : Nat) (wo : Int32) (i : Nat) : Int32 := smA (onP h wo) (fun s => leF (sl h 0 s) (sl h 1 s) (sl h 2 s) (sl h 3 s) (nI i)) 0 u 0
def cPu (h : pm_HP) (u : Nat) (wo : Int32) (i : Nat) : Int32 := smA (onP h wo) (fun s => puF (sl h 0 s) (sl h 1 s) (sl h 2 s) (sl h 3 s) (nI i) (mi h 2 i)) 0 u 0
def cSh (h : pm_HP) (u : Nat) (wo : Int32) (i : Nat) : Int32 := smA (onP h wo) (fun s => shF (sl h 0 s) (sl h 1 s) (sl h 2 s) (sl h 3 s) (nI i) (mi h 1 i)) 0 u 0
set_option maxRecDepth 100000 in
theorem sp_addUp {fb : Bool} {d i u : Nat} {wo : Int32} (hi : i < 24) (hu8 : u ≤ 8) {h : pm_HP} (hu : h.1 4 3 = nI u) : rs fb (d + 5) n_X7_addUpSlips [.ref 17, .ref 1, .int (nI i), .int wo] h = some (none, up3 h i (cLe h u wo i) (cPu h u wo i) (cSh h u wo i)) := by
  have hix : pm_ix (nI i) 24 = true := pm_ix_n hi (by omega)
  have hcl := nI_clamp (show i < 2 ^ 31 by omega)
  rw [en_X7_addUpSlips]
  simp only [c20, c2i, c2n, c2r, cs8_0, cs8_1, cs8_2, cs8_3, cs8_4, decide_eq_true_eq, ev_ald0, ev_ald1, ev_aldn0, ev_aldn1, ev_bin, ev_cv0, ev_cv2, ev_cv3, ev_dup2_ii, ev_dup2_ir, ev_go, ev_gr, ev_i, ev_ia, ev_ias, ev_if2, ev_ild2, ev_ild3, ev_ild4, ev_ild5, ev_ild6, ev_inc6, ev_ist4, ev_ist5, ev_ist6, ev_rv, i00, i01, i10, is_sw, pm_bd_s, pm_tl_n, pm_tl_s, ↓reduceIte, pb_X7_addUpSlips_0, kd_1, rf_1_0, rf_1_1, rf_1_2, rf_1_3, rf_1_4, rf_1_5, rf_1_6, is_5_1, kd_3, rf_3_2, fc_3_0, fc_3_1, is_6_3_3, is_3_6_3, kd_17, rf_17_0, rf_17_1, rf_17_2, rf_17_3, rf_17_4, rf_17_5, rf_17_6, is_7_17, kd_55, al_55, kd_56, al_56, kd_57, al_57, at_3_1 hi, at_3_2 hi, hix, hcl, up3_0]
  have e := lp_addUp (fb := fb) (d := d) (wo := wo) (W := mi h 2 i) (Z := mi h 1 i) hi hu8 hu u 0 0 0 0 (by omega)
  rw [nI_0] at e
  exact e
/-- the line: what is turned before a mile, side and along of a post -/
def tnF (M : Nat → Nat → Int32) (L : Nat → Int32) : Nat → Int32
  | 0 => 0
  | i + 1 => (if M 3 i = 1 then 0 else tnF M L i) + L i
def drF (M : Nat → Nat → Int32) (P : Nat → Int32) (i : Nat) : Int32 := M 0 i + P i + M 4 i
def sdF (M : Nat → Nat → Int32) (L P : Nat → Int32) : Nat → Int32
  | 0 => 0
  | i + 1 => sdF M L P i + tnF M L (i + 1) + drF M P i
def alF (M : Nat → Nat → Int32) (S : Nat → Int32) : Nat → Int32
  | 0 => 0
  | i + 1 => alF M S i + 1760 - 3 * M 1 i - S i
/-- heaps that are the same but for some cells -/
def frm (cs : List Nat) (h h' : pm_HP) : Prop := (∀ a, a ∉ cs → h'.1 a = h.1 a) ∧ h'.2 = h.2
theorem frm.rf (cs : List Nat) (h : pm_HP) : frm cs h h := ⟨fun _ _ => rfl, rfl⟩
theorem frm.tr {cs : List Nat} {h h' h'' : pm_HP} (a : frm cs h h') (b : frm cs h' h'') : frm cs h h'' := ⟨fun q hq => (b.1 q hq).trans (a.1 q hq), b.2.trans a.2⟩
theorem frm.si {cs : List Nat} {h h' : pm_HP} (a : frm cs h h') {i k : Nat} {v : Int32} (hi : i ∈ cs) : frm cs h (pm_si h' i k v) := by
  refine ⟨fun q hq => ?_, a.2⟩
  rw [← a.1 q hq]
  funext b
  exact si_ne _ _ (fun z => hq (z.1 ▸ hi))
theorem frm.up3 {cs : List Nat} {h h' : pm_HP} (a : frm cs h h') {i : Nat} {x y z : Int32} (h1 : 55 ∈ cs) (h2 : 56 ∈ cs) (h3 : 57 ∈ cs) : frm cs h (up3 h' i x y z) := by
  rw [← up3_0]
  exact ((a.si h1).si h2).si h3
theorem frm.sub {cs cs' : List Nat} {h h' : pm_HP} (a : frm cs h h') (hs : ∀ q ∈ cs, q ∈ cs') : frm cs' h h' := ⟨fun q hq => a.1 q (fun z => hq (hs q z)), a.2⟩
abbrev wkC : List Nat := [17, 52, 53, 54, 55, 56, 57, 58]
/-- what stands in the walk's rows, up to mile i -/
def wkI (h : pm_HP) (M : Nat → Nat → Int32) (L P S : Nat → Int32) (i : Nat) : Prop :=
  (∀ j, j ≤ i → h.1 52 j = sdF M L P j ∧ h.1 53 j = alF M S j) ∧ ∀ j, j < i → h.1 54 j = tnF M L (j + 1) ∧ h.1 55 j = L j ∧ h.1 56 j = P j ∧ h.1 57 j = S j ∧ h.1 58 j = drF M P j

theorem up3_at (h : pm_HP) (i : Nat) (x y z : Int32) (a b : Nat) : (up3 h i x y z).1 a b = if a = 55 ∧ b = i then x else if a = 56 ∧ b = i then y else if a = 57 ∧ b = i then z else h.1 a b := rfl
/-- the rows behind one mile more -/
def go1 (h : pm_HP) (i : Nat) (t0 l p s : Int32) : pm_HP :=
  pm_si (pm_si (pm_si (pm_si (up3 h i l p s) 58 i (mi h 0 i + p + mi h 4 i)) 54 i ((if mi h 3 i = 1 then 0 else t0) + l)) 52 (i + 1) (h.1 52 i + ((if mi h 3 i = 1 then 0 else t0) + l) + (mi h 0 i + p + mi h 4 i))) 53 (i + 1) (h.1 53 i + 1760 - 3 * mi h 1 i - s)
theorem go1_frm (h : pm_HP) (i : Nat) (t0 l p s : Int32) : frm [52, 53, 54, 55, 56, 57, 58] h (go1 h i t0 l p s) := by
  unfold go1
  exact (((((frm.rf _ h).up3 (by decide) (by decide) (by decide)).si (by decide)).si (by decide)).si (by decide)).si (by decide)
set_option maxRecDepth 100000 in
set_option maxHeartbeats 4000000 in
theorem go1_run {fb : Bool} {d i n u : Nat} {wo t0 : Int32} (hi : i < n) (hn : n ≤ 24) (hu8 : u ≤ 8) {h : pm_HP} (hu : h.1 4 3 = nI u) (hn7 : h.1 17 7 = nI n) :
    pm_ev P_X7_go (rs fb (d + 5)) (P_X7_go 1) [some (.ref 17), some (.ref 1), some (.int wo), some (.int t0), some (.int (nI i))] [] h = pm_ev P_X7_go (rs fb (d + 5)) (P_X7_go 1) [some (.ref 17), some (.ref 1), some (.int wo), some (.int ((if mi h 3 i = 1 then 0 else t0) + cLe h u wo i)), some (.int (nI (i + 1)))] [] (go1 h i t0 (cLe h u wo i) (cPu h u wo i) (cSh h u wo i)) := by
  have e1 : ¬ nI n ≤ nI i := nI_ge hi (by omega)
  have hi24 : i < 24 := by omega
  have hix : pm_ix (nI i) 24 = true := pm_ix_n hi24 (by omega)
  have hix5 : pm_ix (nI i) 25 = true := pm_ix_n (by omega) (by omega)
  have hix6 : pm_ix (nI (i + 1)) 25 = true := pm_ix_n (by omega) (by omega)
  have hcl := nI_clamp (show i < 2 ^ 31 by omega)
  have hcl2 := nI_clamp (show i + 1 < 2 ^ 31 by omega)
  have ne1 : (i = i + 1) = False := by simp
  unfold go1
  generalize hx : cLe h u wo i = x
  generalize hy : cPu h u wo i = y
  generalize hz : cSh h u wo i = z
  have hadd : ∀ d, rs fb (d + 5) n_X7_addUpSlips [.ref 17, .ref 1, .int (nI i), .int wo] h = some (none, up3 h i x y z) := fun d => by rw [sp_addUp hi24 hu8 hu, hx, hy, hz]
  conv => lhs; rw [pb_X7_go_1]
  by_cases hc : mi h 3 i = 1
  · simp only [c20, c2i, c2n, c2r, cs8_0, cs8_1, cs8_2, cs8_3, cs8_4, decide_eq_true_eq, ev_ald0, ev_ald1, ev_aldn0, ev_aldn1, ev_bin, ev_cs2, ev_cv0, ev_cv2, ev_cv3, ev_gi, ev_go, ev_gr, ev_i, ev_ia, ev_ias, ev_if2, ev_ild2, ev_ild3, ev_ild4, ev_inc4, ev_ist3, ev_ist4, ev_pi, ev_rv, i00, i01, i10, is_sw, pm_bd_s, pm_tl_n, pm_tl_s, ↓reduceIte, pb_X7_go_2, kd_1, rf_1_0, rf_1_1, rf_1_2, rf_1_3, rf_1_4, rf_1_5, rf_1_6, is_5_1, kd_3, rf_3_2, fc_3_0, fc_3_1, is_6_3_3, is_3_6_3, kd_17, rf_17_0, rf_17_1, rf_17_2, rf_17_3, rf_17_4, rf_17_5, rf_17_6, is_7_17, kd_52, al_52, kd_53, al_53, kd_54, al_54, kd_55, al_55, kd_56, al_56, kd_57, al_57, kd_58, al_58, hn7, e1, hadd, hix, hix5, hix6, hcl, hcl2, at_3_0 hi24, at_3_1 hi24, at_3_3 hi24, at_3_4 hi24, nI_1, mi, si_at, up3_at, Nat.reduceEqDiff, false_and, and_false, and_true, true_and, and_self, ne1, not_true_eq_false]
    unfold mi at hc
    simp only [hc, not_true_eq_false, ↓reduceIte]

  · simp only [c20, c2i, c2n, c2r, cs8_0, cs8_1, cs8_2, cs8_3, cs8_4, decide_eq_true_eq, ev_ald0, ev_ald1, ev_aldn0, ev_aldn1, ev_bin, ev_cs2, ev_cv0, ev_cv2, ev_cv3, ev_gi, ev_go, ev_gr, ev_i, ev_ia, ev_ias, ev_if2, ev_ild2, ev_ild3, ev_ild4, ev_inc4, ev_ist3, ev_ist4, ev_pi, ev_rv, i00, i01, i10, is_sw, pm_bd_s, pm_tl_n, pm_tl_s, ↓reduceIte, pb_X7_go_2, kd_1, rf_1_0, rf_1_1, rf_1_2, rf_1_3, rf_1_4, rf_1_5, rf_1_6, is_5_1, kd_3, rf_3_2, fc_3_0, fc_3_1, is_6_3_3, is_3_6_3, kd_17, rf_17_0, rf_17_1, rf_17_2, rf_17_3, rf_17_4, rf_17_5, rf_17_6, is_7_17, kd_52, al_52, kd_53, al_53, kd_54, al_54, kd_55, al_55, kd_56, al_56, kd_57, al_57, kd_58, al_58, hn7, e1, hadd, hix, hix5, hix6, hcl, hcl2, at_3_0 hi24, at_3_1 hi24, at_3_3 hi24, at_3_4 hi24, nI_1, mi, si_at, up3_at, Nat.reduceEqDiff, false_and, and_false, and_true, true_and, and_self, ne1, not_true_eq_false]
    unfold mi at hc
    simp only [hc, not_false_eq_true, ↓reduceIte]

theorem go1_wk {h : pm_HP} {M : Nat → Nat → Int32} {L P S : Nat → Int32} {i : Nat} {t0 : Int32} (hM : M = mi h) (hI : wkI h M L P S i) (ht : t0 = tnF M L i) : wkI (go1 h i t0 (L i) (P i) (S i)) M L P S (i + 1) := by
  subst hM
  obtain ⟨h1, h2⟩ := hI
  have g := h1 i (Nat.le_refl i)
  refine ⟨fun j hj => ?_, fun j hj => ?_⟩
  · by_cases q : j = i + 1
    · subst q
      unfold go1
      simp only [si_at, up3_at, Nat.reduceEqDiff, false_and, and_self, and_true, ↓reduceIte]
      rw [g.1, g.2, ht]
      exact ⟨rfl, rfl⟩
    · have hq : ¬ j = i + 1 := q
      have g2 := h1 j (by omega)
      unfold go1
      simp only [si_at, up3_at, Nat.reduceEqDiff, false_and, and_false, hq, ↓reduceIte]
      exact g2
  · by_cases q : j = i
    · subst q
      unfold go1
      simp only [si_at, up3_at, Nat.reduceEqDiff, false_and, and_self, and_true, ↓reduceIte]
      rw [ht]
      exact ⟨rfl, trivial, trivial, trivial, rfl⟩
    · have g2 := h2 j (by omega)
      have hq : ¬ j = i := q
      unfold go1
      simp only [si_at, up3_at, Nat.reduceEqDiff, false_and, and_false, hq, ↓reduceIte]
      exact g2
theorem frm_mi {cs : List Nat} {h h' : pm_HP} (hf : frm cs h h') (hc : 31 ∉ cs) : mi h' = mi h := by
  funext c i; unfold mi; rw [hf.1 31 hc]
theorem frm_sl {cs : List Nat} {h h' : pm_HP} (hf : frm cs h h') (hc : 32 ∉ cs) : sl h' = sl h := by
  funext c i; unfold sl; rw [hf.1 32 hc]
theorem frm_cLe {cs : List Nat} {h h' : pm_HP} (hf : frm cs h h') (hc : 32 ∉ cs) (u : Nat) (wo : Int32) : cLe h' u wo = cLe h u wo := by
  funext i; unfold cLe onP; rw [frm_sl hf hc]
theorem frm_cPu {cs : List Nat} {h h' : pm_HP} (hf : frm cs h h') (hc : 32 ∉ cs) (hc2 : 31 ∉ cs) (u : Nat) (wo : Int32) : cPu h' u wo = cPu h u wo := by
  funext i; unfold cPu onP; rw [frm_sl hf hc, frm_mi hf hc2]
theorem frm_cSh {cs : List Nat} {h h' : pm_HP} (hf : frm cs h h') (hc : 32 ∉ cs) (hc2 : 31 ∉ cs) (u : Nat) (wo : Int32) : cSh h' u wo = cSh h u wo := by
  funext i; unfold cSh onP; rw [frm_sl hf hc, frm_mi hf hc2]
set_option maxRecDepth 100000 in
theorem lp_go {fb : Bool} {d n u : Nat} {wo : Int32} (hn : n ≤ 24) (hu8 : u ≤ 8) {h0 : pm_HP} (hu : h0.1 4 3 = nI u) (hn7 : h0.1 17 7 = nI n) : ∀ (k i : Nat) (h : pm_HP), i + k = n → frm [52, 53, 54, 55, 56, 57, 58] h0 h → wkI h (mi h0) (cLe h0 u wo) (cPu h0 u wo) (cSh h0 u wo) i →
    ∃ h', frm [52, 53, 54, 55, 56, 57, 58] h0 h' ∧ wkI h' (mi h0) (cLe h0 u wo) (cPu h0 u wo) (cSh h0 u wo) n ∧ pm_ev P_X7_go (rs fb (d + 5)) (P_X7_go 1) [some (.ref 17), some (.ref 1), some (.int wo), some (.int (tnF (mi h0) (cLe h0 u wo) i)), some (.int (nI i))] [] h = some (none, h') := by
  intro k
  induction k with
  | zero =>
    intro i h hi hf hI
    have e1 : nI n ≤ nI i := nI_le (by omega) (by omega)
    have h7 : h.1 17 7 = nI n := by rw [hf.1 17 (by decide)]; exact hn7
    refine ⟨h, hf, by rw [show n = i by omega]; exact hI, ?_⟩
    rw [pb_X7_go_1]
    simp only [c20, c2i, c2n, c2r, cs8_0, cs8_1, cs8_2, cs8_3, cs8_4, decide_eq_true_eq, ev_ald0, ev_ald1, ev_aldn0, ev_aldn1, ev_bin, ev_cs2, ev_cv0, ev_cv2, ev_cv3, ev_gi, ev_go, ev_gr, ev_i, ev_ia, ev_ias, ev_if2, ev_ild2, ev_ild3, ev_ild4, ev_inc4, ev_ist3, ev_ist4, ev_pi, ev_rv, i00, i01, i10, is_sw, pm_bd_s, pm_tl_n, pm_tl_s, ↓reduceIte, pb_X7_go_3, kd_17, rf_17_0, rf_17_1, rf_17_2, rf_17_3, rf_17_4, rf_17_5, rf_17_6, is_7_17, h7, e1]
  | succ k ih =>
    intro i h hi hf hI
    have h7 : h.1 17 7 = nI n := by rw [hf.1 17 (by decide)]; exact hn7
    have h4 : h.1 4 3 = nI u := by rw [hf.1 4 (by decide)]; exact hu
    have r := go1_run (fb := fb) (d := d) (wo := wo) (t0 := tnF (mi h0) (cLe h0 u wo) i) (show i < n by omega) hn hu8 h4 h7
    rw [frm_cLe hf (by decide), frm_cPu hf (by decide) (by decide), frm_cSh hf (by decide) (by decide), frm_mi hf (by decide)] at r
    rw [r]
    exact ih (i + 1) _ (by omega) (hf.tr (go1_frm _ _ _ _ _ _)) (go1_wk (frm_mi hf (by decide)).symm hI rfl)
set_option maxRecDepth 100000 in
set_option maxHeartbeats 4000000 in
/-- THE LINE IS GONE -/
theorem sp_go {fb : Bool} {d n u : Nat} {wo : Int32} {h : pm_HP} (hn : h.1 3 3 = nI n) (hn24 : n ≤ 24) (hu : h.1 4 3 = nI u) (hu8 : u ≤ 8) (h52 : h.1 52 0 = 0) (h53 : h.1 53 0 = 0) :
    ∃ h', rs fb (d + 6) n_X7_go [.ref 17, .ref 1, .int wo] h = some (none, h') ∧ frm wkC h h' ∧ h'.1 17 7 = nI n ∧ h'.1 17 8 = h.1 1 7 ∧ h'.1 17 9 = h.1 1 8 ∧ wkI h' (mi h) (cLe h u wo) (cPu h u wo) (cSh h u wo) n := by
  have e1 : (if 24 < nI n then (24 : Int32) else nI n) = nI n := if_neg (nI_nlt (a := 24) (b := n) hn24 (by omega))
  have e2 : (if 0 < nI n then nI n else 0) = nI n := by
    by_cases hz : n = 0
    · subst hz; rfl
    · rw [if_pos]
      exact nI_lt (a := 0) (b := n) (by omega) (by omega)
  have hf0 : frm wkC h (pm_si (pm_si (pm_si h 17 7 (nI n)) 17 8 (h.1 1 7)) 17 9 (h.1 1 8)) := (((frm.rf _ h).si (by decide)).si (by decide)).si (by decide)
  generalize hh : pm_si (pm_si (pm_si h 17 7 (nI n)) 17 8 (h.1 1 7)) 17 9 (h.1 1 8) = h1 at hf0
  have g7 : h1.1 17 7 = nI n := by rw [← hh]; simp only [si_at]; simp
  have g8 : h1.1 17 8 = h.1 1 7 := by rw [← hh]; simp only [si_at]; simp
  have g9 : h1.1 17 9 = h.1 1 8 := by rw [← hh]; simp only [si_at]; simp
  have g4 : h1.1 4 3 = nI u := by rw [hf0.1 4 (by decide)]; exact hu
  obtain ⟨h', hf, hI, r⟩ := lp_go (fb := fb) (d := d) (wo := wo) hn24 hu8 g4 g7 n 0 h1 (by omega) (frm.rf _ h1) ⟨fun j hj => by
    have : j = 0 := by omega
    subst this
    rw [← hh]
    simp only [si_at]
    simp [h52, h53, sdF, alF], fun j hj => absurd hj (Nat.not_lt_zero j)⟩
  rw [frm_mi hf0 (by decide), frm_cLe hf0 (by decide), frm_cPu hf0 (by decide) (by decide), frm_cSh hf0 (by decide) (by decide)] at hI
  refine ⟨h', ?_, hf0.tr (hf.sub (by decide)), by rw [hf.1 17 (by decide)]; exact g7, by rw [hf.1 17 (by decide)]; exact g8, by rw [hf.1 17 (by decide)]; exact g9, hI⟩
  rw [en_X7_go]
  simp only [c20, c2i, c2n, c2r, cs8_0, cs8_1, cs8_2, cs8_3, cs8_4, decide_eq_true_eq, ev_ald0, ev_ald1, ev_aldn0, ev_aldn1, ev_bin, ev_cs2, ev_cv0, ev_cv2, ev_cv3, ev_gi, ev_go, ev_gr, ev_i, ev_ia, ev_ias, ev_if2, ev_ild2, ev_ild3, ev_ild4, ev_inc4, ev_ist3, ev_ist4, ev_pi, ev_rv, i00, i01, i10, is_sw, pm_bd_s, pm_tl_n, pm_tl_s, ↓reduceIte, pb_X7_go_0, kd_1, rf_1_0, rf_1_1, rf_1_2, rf_1_3, rf_1_4, rf_1_5, rf_1_6, is_5_1, kd_3, rf_3_2, fc_3_0, fc_3_1, is_6_3_3, is_3_6_3, kd_17, rf_17_0, rf_17_1, rf_17_2, rf_17_3, rf_17_4, rf_17_5, rf_17_6, is_7_17, sp_used, sp_held, hn, e1, e2, si_at, Nat.reduceEqDiff, false_and, ↓reduceIte, hh]
  rw [nI_0] at r
  exact r
