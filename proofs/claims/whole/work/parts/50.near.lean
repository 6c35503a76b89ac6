/-! BOUNDS OF WHAT A LINE IS; PAIRS OF CALLS: nearest -/
def bd (x : Int32) (N : Nat) : Prop := x.toInt.natAbs ≤ N
theorem bd_le {x : Int32} {N M : Nat} (h : bd x N) (hm : N ≤ M) : bd x M := Nat.le_trans h hm
theorem bd_0 (N : Nat) : bd 0 N := by
  unfold bd
  rw [show (0 : Int32).toInt = 0 by decide]
  omega
theorem bd_add {x y : Int32} {M N : Nat} (hx : bd x M) (hy : bd y N) (h : M + N < 2 ^ 31) : bd (x + y) (M + N) := by
  unfold bd at *
  rw [Int32.toInt_add, Int.bmod_eq_of_le] <;> omega
theorem bd_sub {x y : Int32} {M N : Nat} (hx : bd x M) (hy : bd y N) (h : M + N < 2 ^ 31) : bd (x - y) (M + N) := by
  unfold bd at *
  rw [Int32.toInt_sub, Int.bmod_eq_of_le] <;> omega
theorem bd_mul {x y : Int32} {M N : Nat} (hx : bd x M) (hy : bd y N) (h : M * N < 2 ^ 31) : bd (x * y) (M * N) := by
  unfold bd at *
  have e : (x.toInt * y.toInt).natAbs ≤ M * N := by rw [Int.natAbs_mul]; exact Nat.mul_le_mul hx hy
  rw [Int32.toInt_mul]
  generalize x.toInt * y.toInt = p at e ⊢
  generalize M * N = q at e h ⊢
  rw [Int.bmod_eq_of_le] <;> omega
theorem bd_div {x y : Int32} {M : Nat} (hx : bd x M) (h : M < 2 ^ 31) : bd (x / y) M := by
  unfold bd at *
  have e := Int.natAbs_tdiv_le_natAbs x.toInt y.toInt
  rw [Int32.toInt_div]
  generalize x.toInt.tdiv y.toInt = p at e ⊢
  rw [Int.bmod_eq_of_le] <;> omega
theorem bd_in {x lo hi : Int32} {N : Nat} (h : inB lo hi x) (hl : -(N : Int) ≤ lo.toInt) (hh : hi.toInt ≤ N) : bd x N := by
  unfold bd
  have h1 := Int32.le_iff_toInt_le.mp h.1
  have h2 := Int32.le_iff_toInt_le.mp h.2
  omega
theorem bd_ite {c : Prop} [Decidable c] {x y : Int32} {N : Nat} (hx : bd x N) (hy : bd y N) : bd (if c then x else y) N := by
  by_cases q : c
  · rw [if_pos q]; exact hx
  · rw [if_neg q]; exact hy
theorem bd_n {n N : Nat} (h : n ≤ N) (h2 : n < 2 ^ 31) : bd (nI n) N := by
  unfold bd
  rw [nI_toInt h2]
  omega
theorem ab_n {x : Int32} {N : Nat} (hx : bd x N) (hN : N < 2 ^ 31) : (ab32 x).toInt = (x.toInt.natAbs : Int) := by
  unfold bd at hx
  have z : (0 : Int32).toInt = 0 := by decide
  unfold ab32
  by_cases q : 0 ≤ x
  · rw [if_pos q]
    have := Int32.le_iff_toInt_le.mp q
    omega
  · rw [if_neg q]
    have : x.toInt < 0 := by
      have := Int32.lt_iff_toInt_lt.mp (Int32.not_le.mp q)
      omega
    rw [Int32.toInt_sub, z, Int.bmod_eq_of_le] <;> omega
theorem bd_ab {x : Int32} {N : Nat} (hx : bd x N) (hN : N < 2 ^ 31) : bd (ab32 x) N := by
  have e := ab_n hx hN
  unfold bd at *
  omega
theorem bd_sm {p : Nat → Bool} {g : Nat → Int32} {G : Nat} : ∀ (k i : Nat) (a : Int32) (A : Nat), (∀ s, i ≤ s → s < i + k → bd (g s) G) → bd a A → A + k * G < 2 ^ 31 → bd (smA p g i k a) (A + k * G)
  | 0, i, a, A, _, ha, _ => by rw [smA, Nat.zero_mul, Nat.add_zero]; exact ha
  | k + 1, i, a, A, hg, ha, hl => by
    rw [smA]
    rw [Nat.succ_mul] at hl ⊢
    have e := bd_sm (p := p) k (i + 1) (if p i = true then a + g i else a) (A + G) (fun s h1 h2 => hg s (by omega) (by omega)) (bd_ite (bd_add ha (hg i (by omega) (by omega)) (by omega)) (bd_le ha (by omega))) (by omega)
    exact bd_le e (by omega)
theorem bd_leF {k f t m i : Int32} (hm : bd m 99) : bd (leF k f t m i) 99 := bd_ite hm (bd_0 _)
theorem bd_puF {k f t m i w : Int32} (hm : bd m 99) : bd (puF k f t m i w) 99 := bd_ite (bd_ite hm (bd_ite (bd_div hm (by omega)) (bd_0 _))) (bd_0 _)
theorem bd_shF {k f t m i s : Int32} (hm : bd m 99) (hs : bd s 9) : bd (shF k f t m i s) 1056 := by
  have h1 : bd (s + 1) 10 := bd_add (M := 9) (N := 1) hs (by unfold bd; decide) (by omega)
  have h2 : bd (m * (s + 1)) 990 := bd_mul hm h1 (by omega)
  have h3 : bd (2 * m) 198 := bd_mul (M := 2) (N := 99) (by unfold bd; decide) hm (by omega)
  have h4 : bd (66 : Int32) 66 := by unfold bd; decide
  unfold shF
  exact bd_ite (bd_ite (bd_le h2 (by omega)) (bd_ite (bd_add (M := 990) (N := 66) h2 (bd_ite h4 (bd_0 _)) (by omega)) (bd_ite (bd_le h3 (by omega)) (bd_0 _)))) (bd_0 _)
section BD
variable {h : pm_HP}
theorem bd_m (iS : RS h 32 60) {s : Nat} (hs : s < 8) : bd (rl h 3 s) 99 := bd_in (iS s hs).2.2.2.2.2.1 (by decide) (by decide)
theorem bd_rLe (iS : RS h 32 60) {u i : Nat} (hu : u ≤ 8) : bd (rLe h u i) 792 := by
  have e := bd_sm (p := fun s => decide (rl h 4 s = 1)) (g := fun s => leF (rl h 0 s) (rl h 1 s) (rl h 2 s) (rl h 3 s) (nI i)) (G := 99) u 0 0 0 (fun s _ h2 => bd_leF (bd_m iS (by omega))) (bd_0 _) (by omega)
  exact bd_le e (by omega)
theorem bd_rPu (iS : RS h 32 60) {u i : Nat} (hu : u ≤ 8) : bd (rPu h u i) 792 := by
  have e := bd_sm (p := fun s => decide (rl h 4 s = 1)) (g := fun s => puF (rl h 0 s) (rl h 1 s) (rl h 2 s) (rl h 3 s) (nI i) (rm h 2 i)) (G := 99) u 0 0 0 (fun s _ h2 => bd_puF (bd_m iS (by omega))) (bd_0 _) (by omega)
  exact bd_le e (by omega)
theorem bd_rSh (iS : RS h 32 60) (iM : RM h 31 60) {u i : Nat} (hu : u ≤ 8) (hi : i < 24) : bd (rSh h u i) 8448 := by
  have hs : bd (rm h 1 i) 9 := bd_in (iM i hi).2.2.1 (by decide) (by decide)
  have e := bd_sm (p := fun s => decide (rl h 4 s = 1)) (g := fun s => shF (rl h 0 s) (rl h 1 s) (rl h 2 s) (rl h 3 s) (nI i) (rm h 1 i)) (G := 1056) u 0 0 0 (fun s _ h2 => bd_shF (bd_m iS (by omega)) hs) (bd_0 _) (by omega)
  exact bd_le e (by omega)
theorem bd_tn (iS : RS h 32 60) {u : Nat} (hu : u ≤ 8) : ∀ j, j ≤ 24 → bd (TNf h u j) (j * 792)
  | 0, _ => bd_0 _
  | j + 1, hj => by
    have e := bd_tn iS hu j (by omega)
    have l := bd_rLe iS (i := j) hu
    show bd ((if rm h 3 j = 1 then 0 else TNf h u j) + rLe h u j) ((j + 1) * 792)
    rw [Nat.succ_mul]
    exact bd_add (bd_ite (bd_0 _) e) l (by omega)
theorem bd_dr (iS : RS h 32 60) (iM : RM h 31 60) {u i : Nat} (hu : u ≤ 8) (hi : i < 24) : bd (drF (rm h) (rPu h u) i) 990 := by
  have h0 : bd (rm h 0 i) 99 := bd_in (iM i hi).2.1 (by decide) (by decide)
  have h4 : bd (rm h 4 i) 99 := bd_in (iM i hi).2.2.2.2.2 (by decide) (by decide)
  have hp := bd_rPu iS (i := i) hu
  exact bd_add (M := 891) (N := 99) (bd_add (M := 99) (N := 792) h0 hp (by omega)) h4 (by omega)
theorem bd_sd (iS : RS h 32 60) (iM : RM h 31 60) {u : Nat} (hu : u ≤ 8) : ∀ j, j ≤ 24 → bd (SDf h u j) (j * 20000)
  | 0, _ => bd_0 _
  | j + 1, hj => by
    have e := bd_sd iS iM hu j (by omega)
    have t := bd_le (bd_tn iS hu (j + 1) hj) (show (j + 1) * 792 ≤ 19008 by omega)
    have g := bd_dr iS iM (i := j) hu (by omega)
    show bd (SDf h u j + TNf h u (j + 1) + drF (rm h) (rPu h u) j) ((j + 1) * 20000)
    have r := bd_add (bd_add e t (by omega)) g (by omega)
    exact bd_le r (by omega)
theorem bd_al (iS : RS h 32 60) (iM : RM h 31 60) {u : Nat} (hu : u ≤ 8) : ∀ j, j ≤ 24 → bd (ALf h u j) (j * 11000)
  | 0, _ => bd_0 _
  | j + 1, hj => by
    have e := bd_al iS iM hu j (by omega)
    have hs : bd (rm h 1 j) 9 := bd_in (iM j (by omega)).2.2.1 (by decide) (by decide)
    have s := bd_rSh iS iM (i := j) hu (by omega)
    have t : bd (3 * rm h 1 j) 27 := bd_mul (M := 3) (N := 9) (by unfold bd; decide) hs (by omega)
    have y : bd (1760 : Int32) 1760 := by unfold bd; decide
    show bd (ALf h u j + 1760 - 3 * rm h 1 j - rSh h u j) ((j + 1) * 11000)
    have r := bd_sub (bd_sub (bd_add e y (by omega)) t (by omega)) s (by omega)
    exact bd_le r (by omega)
end BD
def dsF (S A : Nat → Int32) (x y : Int32) (j : Nat) : Int32 := ab32 (S j - x) + ab32 (A j - y)
theorem ds_nn {S A : Nat → Int32} {x y : Int32} {j : Nat} (hS : bd (S j) 480000) (hA : bd (A j) 264000) (hx : bd x 99999) (hy : bd y 99999) : ¬ dsF S A x y j < 0 := by
  have h1 := bd_sub hS hx (by omega)
  have h2 := bd_sub hA hy (by omega)
  have e1 := ab_n h1 (by omega)
  have e2 := ab_n h2 (by omega)
  unfold bd at h1 h2
  have z : (0 : Int32).toInt = 0 := by decide
  rw [Int32.lt_iff_toInt_lt, z]
  unfold dsF
  rw [Int32.toInt_add, e1, e2, Int.bmod_eq_of_le] <;> omega
def nrA (D : Nat → Int32) : Nat → Nat → Nat → Nat
  | _, 0, b => b
  | i, k + 1, b => nrA D (i + 1) k (if D b ≤ D i then b else i)
section PK
variable {fb : Bool} {d : Nat} {h : pm_HP}
set_option maxRecDepth 100000 in
theorem lp_nearC {n : Nat} {S A : Nat → Int32} {x y : Int32} (hn3 : h.1 3 3 = nI n) (h7 : h.1 17 7 = nI n) (hn : n ≤ 24) (hS : ∀ j, j ≤ n → h.1 52 j = S j ∧ h.1 53 j = A j) : ∀ (k i b : Nat), i + k = n + 1 → b < i → pm_ev P_X8_nearest (rs fb (d + 3)) (P_X8_nearest 3) [some (.ref 0), some (.int x), some (.int y), some (.int (nI b)), some (.int (nI i))] [] h = some (some (.int (nI (nrA (dsF S A x y) i k b))), h) := by
  have es : ∀ j, ab32 (S j - x) + ab32 (A j - y) = dsF S A x y j := fun _ => rfl
  intro k
  induction k with
  | zero =>
    intro i b hi hb
    have e1 : nI n < nI i := nI_lt (by omega) (by omega)
    rw [pb_X8_nearest_3]
    simp only [c20, c2i, c2n, c2r, cs8_0, cs8_1, cs8_2, cs8_3, cs8_4, decide_eq_true_eq, ev_ald0, ev_aldn0, ev_cs3, ev_cv0, ev_cv1, ev_cv2, ev_cv3, ev_go, ev_gr, ev_i, ev_if0, ev_if2, ev_ild1, ev_ild2, ev_ild3, ev_ild4, ev_inc4, ev_ist3, ev_ist4, ev_ri, i00, i01, i10, is_sw, not_false_eq_true, not_true_eq_false, pm_bd_s, pm_tl_n, pm_tl_s, ↓reduceIte, pb_X8_nearest_5, kd_0, rf_0_0, rf_0_1, rf_0_2, rf_0_3, rf_0_4, rf_0_5, rf_0_6, rf_0_7, rf_0_8, is_8_0, kd_1, rf_1_0, rf_1_1, rf_1_2, rf_1_3, rf_1_4, rf_1_5, rf_1_6, is_5_1, kd_3, rf_3_2, fc_3_0, fc_3_1, is_6_3_3, is_3_6_3, sp_used, hn3, e1, nrA]
  | succ k ih =>
    intro i b hi hb
    have e1 : ¬ nI n < nI i := nI_nlt (by omega) (by omega)
    have s1 := sp_distanceOf (fb := fb) (d := d) (h := h) (j := i) (x := x) (y := y) h7 hn (by omega)
    have s2 := sp_distanceOf (fb := fb) (d := d) (h := h) (j := b) (x := x) (y := y) h7 hn (by omega)
    rw [(hS i (by omega)).1, (hS i (by omega)).2, es] at s1
    rw [(hS b (by omega)).1, (hS b (by omega)).2, es] at s2
    rw [pb_X8_nearest_3, nrA]
    by_cases p : dsF S A x y b ≤ dsF S A x y i
    · simp only [c20, c2i, c2n, c2r, cs8_0, cs8_1, cs8_2, cs8_3, cs8_4, decide_eq_true_eq, ev_ald0, ev_aldn0, ev_cs3, ev_cv0, ev_cv1, ev_cv2, ev_cv3, ev_go, ev_gr, ev_i, ev_if0, ev_if2, ev_ild1, ev_ild2, ev_ild3, ev_ild4, ev_inc4, ev_ist3, ev_ist4, ev_ri, i00, i01, i10, is_sw, not_false_eq_true, not_true_eq_false, pm_bd_s, pm_tl_n, pm_tl_s, ↓reduceIte, pb_X8_nearest_4, kd_0, rf_0_0, rf_0_1, rf_0_2, rf_0_3, rf_0_4, rf_0_5, rf_0_6, rf_0_7, rf_0_8, is_8_0, kd_1, rf_1_0, rf_1_1, rf_1_2, rf_1_3, rf_1_4, rf_1_5, rf_1_6, is_5_1, kd_3, rf_3_2, fc_3_0, fc_3_1, is_6_3_3, is_3_6_3, kd_17, rf_17_0, rf_17_1, rf_17_2, rf_17_3, rf_17_4, rf_17_5, rf_17_6, is_7_17, sp_used, hn3, e1, nI_1, s1, s2, p, if_true]
      exact ih (i + 1) b (by omega) (by omega)
    · simp only [c20, c2i, c2n, c2r, cs8_0, cs8_1, cs8_2, cs8_3, cs8_4, decide_eq_true_eq, ev_ald0, ev_aldn0, ev_cs3, ev_cv0, ev_cv1, ev_cv2, ev_cv3, ev_go, ev_gr, ev_i, ev_if0, ev_if2, ev_ild1, ev_ild2, ev_ild3, ev_ild4, ev_inc4, ev_ist3, ev_ist4, ev_ri, i00, i01, i10, is_sw, not_false_eq_true, not_true_eq_false, pm_bd_s, pm_tl_n, pm_tl_s, ↓reduceIte, pb_X8_nearest_4, kd_0, rf_0_0, rf_0_1, rf_0_2, rf_0_3, rf_0_4, rf_0_5, rf_0_6, rf_0_7, rf_0_8, is_8_0, kd_1, rf_1_0, rf_1_1, rf_1_2, rf_1_3, rf_1_4, rf_1_5, rf_1_6, is_5_1, kd_3, rf_3_2, fc_3_0, fc_3_1, is_6_3_3, is_3_6_3, kd_17, rf_17_0, rf_17_1, rf_17_2, rf_17_3, rf_17_4, rf_17_5, rf_17_6, is_7_17, sp_used, hn3, e1, nI_1, s1, s2, p, if_false]
      exact ih (i + 1) i (by omega) (by omega)
set_option maxRecDepth 100000 in
theorem lp_nearR {n : Nat} {S A : Nat → Int32} {x y : Int32} (hn0 : h.1 60 0 = nI n) (hn : n ≤ 24) (hS : ∀ j, j ≤ n → h.1 63 j = S j ∧ h.1 64 j = A j) (hD : ∀ j, j ≤ n → ¬ dsF S A x y j < 0) : ∀ (k i b : Nat) (z : Option Value), i + k = n + 1 → b < i → pm_ev P_X9_nearest (rs fb d) (P_X9_nearest 3) [some (.ref 59), some (.int x), some (.int y), some (.int (nI b)), some (.int (dsF S A x y b)), some (.int (nI i)), z] [] h = some (some (.int (nI (nrA (dsF S A x y) i k b))), h) := by
  have es : ∀ j, ab32 (S j - x) + ab32 (A j - y) = dsF S A x y j := fun _ => rfl
  have ab : ∀ x : Int32, (if 0 ≤ x then x else 0 - x) = ab32 x := fun _ => rfl
  have ix0 : pm_ix (0 : Int32) 440 = true := by decide
  have cl0 : (0 : Int32).toNatClampNeg = 0 := by decide
  intro k
  induction k with
  | zero =>
    intro i b z hi hb
    have e1 : nI n < nI i := nI_lt (by omega) (by omega)
    rw [pb_X9_nearest_3]
    simp only [c20, c2i, c2n, c2r, cs8_0, cs8_1, cs8_2, cs8_3, cs8_4, decide_eq_true_eq, ev_ald0, ev_aldn0, ev_bin, ev_cs3, ev_cv0, ev_cv1, ev_go, ev_gr, ev_i, ev_ia, ev_if0, ev_if2, ev_ild1, ev_ild2, ev_ild3, ev_ild4, ev_ild5, ev_ild6, ev_inc5, ev_ist3, ev_ist4, ev_ist5, ev_ist6, ev_m1, ev_ri, i00, i01, i10, not_false_eq_true, not_true_eq_false, pm_bd_s, pm_tl_n, pm_tl_s, ↓reduceIte, pb_X9_nearest_6, kd_59, rf_59_0, rf_59_1, rf_59_3, rf_59_4, rf_59_5, rf_59_6, rf_59_7, rf_59_12, rf_59_14, rf_59_15, rf_59_16, rf_59_19, rf_59_23, rf_59_24, rf_59_25, rf_59_26, is_9_59, kd_60, al_60, ix0, cl0, hn0, e1, nrA]
  | succ k ih =>
    intro i b z hi hb
    have e1 : ¬ nI n < nI i := nI_nlt (by omega) (by omega)
    have x1 : pm_ix (nI i) 25 = true := pm_ix_n (by omega) (by omega)
    have c1 := nI_clamp (show i < 2 ^ 31 by omega)
    have s1 := (hS i (by omega)).1
    have s2 := (hS i (by omega)).2
    have nn := hD b (by omega)
    rw [pb_X9_nearest_3, nrA]
    by_cases p : dsF S A x y b ≤ dsF S A x y i
    · simp only [c20, c2i, c2n, c2r, cs8_0, cs8_1, cs8_2, cs8_3, cs8_4, decide_eq_true_eq, ev_ald0, ev_aldn0, ev_bin, ev_cs3, ev_cv0, ev_cv1, ev_go, ev_gr, ev_i, ev_ia, ev_if0, ev_if2, ev_ild1, ev_ild2, ev_ild3, ev_ild4, ev_ild5, ev_ild6, ev_inc5, ev_ist3, ev_ist4, ev_ist5, ev_ist6, ev_m1, ev_ri, i00, i01, i10, not_false_eq_true, not_true_eq_false, pm_bd_s, pm_tl_n, pm_tl_s, ↓reduceIte, pb_X9_nearest_4, pb_X9_nearest_5, kd_59, rf_59_0, rf_59_1, rf_59_3, rf_59_4, rf_59_5, rf_59_6, rf_59_7, rf_59_12, rf_59_14, rf_59_15, rf_59_16, rf_59_19, rf_59_23, rf_59_24, rf_59_25, rf_59_26, is_9_59, kd_60, al_60, kd_63, al_63, kd_64, al_64, ix0, cl0, hn0, e1, x1, c1, nI_1, s1, s2, ab, es, nn, p, if_true]
      exact ih (i + 1) b _ (by omega) (by omega)
    · simp only [c20, c2i, c2n, c2r, cs8_0, cs8_1, cs8_2, cs8_3, cs8_4, decide_eq_true_eq, ev_ald0, ev_aldn0, ev_bin, ev_cs3, ev_cv0, ev_cv1, ev_go, ev_gr, ev_i, ev_ia, ev_if0, ev_if2, ev_ild1, ev_ild2, ev_ild3, ev_ild4, ev_ild5, ev_ild6, ev_inc5, ev_ist3, ev_ist4, ev_ist5, ev_ist6, ev_m1, ev_ri, i00, i01, i10, not_false_eq_true, not_true_eq_false, pm_bd_s, pm_tl_n, pm_tl_s, ↓reduceIte, pb_X9_nearest_4, pb_X9_nearest_5, kd_59, rf_59_0, rf_59_1, rf_59_3, rf_59_4, rf_59_5, rf_59_6, rf_59_7, rf_59_12, rf_59_14, rf_59_15, rf_59_16, rf_59_19, rf_59_23, rf_59_24, rf_59_25, rf_59_26, is_9_59, kd_60, al_60, kd_63, al_63, kd_64, al_64, ix0, cl0, hn0, e1, x1, c1, nI_1, s1, s2, ab, es, nn, p, if_false]
      exact ih (i + 1) i _ (by omega) (by omega)
theorem pr_nearest (hI : Inv h) (x y : Int32) : Pr fb (d + 100) n_X8_nearest n_X9_nearest [.int x, .int y] h := by
  obtain ⟨⟨n, u, nt, nb, nw, iN⟩, iZ, iM, iS, iT, iB, iW, iX, iY⟩ := id hI.1
  by_cases q1 : -99999 ≤ x ∧ x ≤ 99999
  · by_cases q2 : 0 ≤ y ∧ y ≤ 99999
    · obtain ⟨h1, h2, r1, g1, r2, g2, hI2⟩ := go2 (fb := fb) (d := d) hI iN
      have hn := iN.1.2.2.2
      have hu := iN.2.1.2.2
      have hn3 : h1.1 3 3 = nI n := by rw [Gn_3 g1]; exact iN.1.1
      have hn0 : h2.1 60 0 = nI n := by rw [Gr_60 g1 g2]; exact iN.1.2.1
      have bx : bd x 99999 := bd_in (lo := -99999) (hi := 99999) q1 (by decide) (by decide)
      have by' : bd y 99999 := bd_in (lo := 0) (hi := 99999) q2 (by decide) (by decide)
      have hD : ∀ j, j ≤ n → ¬ dsF (SDf h u) (ALf h u) x y j < 0 := fun j hj => ds_nn (bd_le (bd_sd iS iM hu j (by omega)) (by omega)) (bd_le (bd_al iS iM hu j (by omega)) (by omega)) bx by'
      have es : ∀ j, ab32 (SDf h u j - x) + ab32 (ALf h u j - y) = dsF (SDf h u) (ALf h u) x y j := fun _ => rfl
      have ab : ∀ x : Int32, (if 0 ≤ x then x else 0 - x) = ab32 x := fun _ => rfl
      refine ⟨nI (nrA (dsF (SDf h u) (ALf h u) x y) 1 n 0), h1, h2, ?_, ?_, hI2⟩
      · have e := lp_nearC (fb := fb) (d := d + 96) (h := h1) (S := SDf h u) (A := ALf h u) (x := x) (y := y) hn3 g1.2.1 hn g1.2.2.2.2.1 n 1 0 (by omega) (by omega)
        rw [nI_0] at e
        rw [en_X8_nearest]
        simp only [c20, c2i, c2n, c2r, cs8_0, cs8_1, cs8_2, cs8_3, cs8_4, decide_eq_true_eq, ev_ald0, ev_aldn0, ev_cs3, ev_cv0, ev_cv1, ev_cv2, ev_cv3, ev_go, ev_gr, ev_i, ev_if0, ev_if2, ev_ild1, ev_ild2, ev_ild3, ev_ild4, ev_inc4, ev_ist3, ev_ist4, ev_ri, i00, i01, i10, is_sw, not_false_eq_true, not_true_eq_false, pm_bd_s, pm_tl_n, pm_tl_s, ↓reduceIte, pb_X8_nearest_0, pb_X8_nearest_1, pb_X8_nearest_2, kd_0, rf_0_0, rf_0_1, rf_0_2, rf_0_3, rf_0_4, rf_0_5, rf_0_6, rf_0_7, rf_0_8, is_8_0, kd_1, rf_1_0, rf_1_1, rf_1_2, rf_1_3, rf_1_4, rf_1_5, rf_1_6, is_5_1, kd_17, rf_17_0, rf_17_1, rf_17_2, rf_17_3, rf_17_4, rf_17_5, rf_17_6, is_7_17, sp_isIn, bI_0, bI_n0, eq_true q1, eq_true q2, not_true_eq_false, if_true, if_false, r1]
        exact e
      · have e := lp_nearR (fb := fb) (d := d + 99) (h := h2) (S := SDf h u) (A := ALf h u) (x := x) (y := y) hn0 hn g2.2.1 hD n 1 0 (some (.int (dsF (SDf h u) (ALf h u) x y 0))) (by omega) (by omega)
        rw [nI_0] at e
        have ix0 : pm_ix (0 : Int32) 440 = true := by decide
        have ix1 : pm_ix (0 : Int32) 25 = true := by decide
        have cl0 : (0 : Int32).toNatClampNeg = 0 := by decide
        have s1 := (g2.2.1 0 (by omega)).1
        have s2 := (g2.2.1 0 (by omega)).2
        have e1 : ¬ nI n < 0 := nI_pos (by omega)
        have m1 : (-1 : Int32) < 0 := by decide
        have z1 : (0 : Int32) + 1 = nI 1 := by decide
        rw [en_X9_nearest]
        simp only [c20, c2i, c2n, c2r, cs8_0, cs8_1, cs8_2, cs8_3, cs8_4, decide_eq_true_eq, ev_ald0, ev_aldn0, ev_bin, ev_cs3, ev_cv0, ev_cv1, ev_go, ev_gr, ev_i, ev_ia, ev_if0, ev_if2, ev_ild1, ev_ild2, ev_ild3, ev_ild4, ev_ild5, ev_ild6, ev_inc5, ev_ist3, ev_ist4, ev_ist5, ev_ist6, ev_m1, ev_ri, i00, i01, i10, not_false_eq_true, not_true_eq_false, pm_bd_s, pm_tl_n, pm_tl_s, ↓reduceIte, pb_X9_nearest_0, pb_X9_nearest_1, pb_X9_nearest_2, kd_59, rf_59_0, rf_59_1, rf_59_3, rf_59_4, rf_59_5, rf_59_6, rf_59_7, rf_59_12, rf_59_14, rf_59_15, rf_59_16, rf_59_19, rf_59_23, rf_59_24, rf_59_25, rf_59_26, is_9_59, sr_isIn, bI_0, bI_n0, eq_true q1, eq_true q2, not_true_eq_false, if_true, if_false, r2]
        rw [pb_X9_nearest_3]
        simp only [c20, c2i, c2n, c2r, cs8_0, cs8_1, cs8_2, cs8_3, cs8_4, decide_eq_true_eq, ev_ald0, ev_aldn0, ev_bin, ev_cs3, ev_cv0, ev_cv1, ev_go, ev_gr, ev_i, ev_ia, ev_if0, ev_if2, ev_ild1, ev_ild2, ev_ild3, ev_ild4, ev_ild5, ev_ild6, ev_inc5, ev_ist3, ev_ist4, ev_ist5, ev_ist6, ev_m1, ev_ri, i00, i01, i10, not_false_eq_true, not_true_eq_false, pm_bd_s, pm_tl_n, pm_tl_s, ↓reduceIte, pb_X9_nearest_4, pb_X9_nearest_5, kd_59, rf_59_0, rf_59_1, rf_59_3, rf_59_4, rf_59_5, rf_59_6, rf_59_7, rf_59_12, rf_59_14, rf_59_15, rf_59_16, rf_59_19, rf_59_23, rf_59_24, rf_59_25, rf_59_26, is_9_59, kd_60, al_60, kd_63, al_63, kd_64, al_64, ix0, ix1, cl0, hn0, e1, s1, s2, ab, es, m1, z1, if_true, if_false]
        exact e
    · refine Pr_e (e := 1) (x := -1000000001) hI (by omega) (by omega) ?_ ?_
      · rw [en_X8_nearest]
        simp only [c20, c2i, c2n, c2r, cs8_0, cs8_1, cs8_2, cs8_3, cs8_4, decide_eq_true_eq, ev_ald0, ev_aldn0, ev_cs3, ev_cv0, ev_cv1, ev_cv2, ev_cv3, ev_go, ev_gr, ev_i, ev_if0, ev_if2, ev_ild1, ev_ild2, ev_ild3, ev_ild4, ev_inc4, ev_ist3, ev_ist4, ev_ri, i00, i01, i10, is_sw, not_false_eq_true, not_true_eq_false, pm_bd_s, pm_tl_n, pm_tl_s, ↓reduceIte, pb_X8_nearest_0, pb_X8_nearest_1, kd_0, rf_0_0, rf_0_1, rf_0_2, rf_0_3, rf_0_4, rf_0_5, rf_0_6, rf_0_7, rf_0_8, is_8_0, sp_isIn, bI_0, bI_n0, eq_true q1, eq_false q2, not_true_eq_false, if_true, if_false, fail_1, F1]
      · rw [en_X9_nearest]
        simp only [c20, c2i, c2n, c2r, cs8_0, cs8_1, cs8_2, cs8_3, cs8_4, decide_eq_true_eq, ev_ald0, ev_aldn0, ev_bin, ev_cs3, ev_cv0, ev_cv1, ev_go, ev_gr, ev_i, ev_ia, ev_if0, ev_if2, ev_ild1, ev_ild2, ev_ild3, ev_ild4, ev_ild5, ev_ild6, ev_inc5, ev_ist3, ev_ist4, ev_ist5, ev_ist6, ev_m1, ev_ri, i00, i01, i10, not_false_eq_true, not_true_eq_false, pm_bd_s, pm_tl_n, pm_tl_s, ↓reduceIte, pb_X9_nearest_0, pb_X9_nearest_1, kd_59, rf_59_0, rf_59_1, rf_59_3, rf_59_4, rf_59_5, rf_59_6, rf_59_7, rf_59_12, rf_59_14, rf_59_15, rf_59_16, rf_59_19, rf_59_23, rf_59_24, rf_59_25, rf_59_26, is_9_59, sr_isIn, bI_0, bI_n0, eq_true q1, eq_false q2, not_true_eq_false, if_true, if_false, find_1]
  · refine Pr_e (e := 1) (x := -1000000001) hI (by omega) (by omega) ?_ ?_
    · rw [en_X8_nearest]
      simp only [c20, c2i, c2n, c2r, cs8_0, cs8_1, cs8_2, cs8_3, cs8_4, decide_eq_true_eq, ev_ald0, ev_aldn0, ev_cs3, ev_cv0, ev_cv1, ev_cv2, ev_cv3, ev_go, ev_gr, ev_i, ev_if0, ev_if2, ev_ild1, ev_ild2, ev_ild3, ev_ild4, ev_inc4, ev_ist3, ev_ist4, ev_ri, i00, i01, i10, is_sw, not_false_eq_true, not_true_eq_false, pm_bd_s, pm_tl_n, pm_tl_s, ↓reduceIte, pb_X8_nearest_0, pb_X8_nearest_1, kd_0, rf_0_0, rf_0_1, rf_0_2, rf_0_3, rf_0_4, rf_0_5, rf_0_6, rf_0_7, rf_0_8, is_8_0, sp_isIn, bI_0, bI_n0, eq_false q1, not_false_eq_true, if_true, if_false, fail_1, F1]
    · rw [en_X9_nearest]
      simp only [c20, c2i, c2n, c2r, cs8_0, cs8_1, cs8_2, cs8_3, cs8_4, decide_eq_true_eq, ev_ald0, ev_aldn0, ev_bin, ev_cs3, ev_cv0, ev_cv1, ev_go, ev_gr, ev_i, ev_ia, ev_if0, ev_if2, ev_ild1, ev_ild2, ev_ild3, ev_ild4, ev_ild5, ev_ild6, ev_inc5, ev_ist3, ev_ist4, ev_ist5, ev_ist6, ev_m1, ev_ri, i00, i01, i10, not_false_eq_true, not_true_eq_false, pm_bd_s, pm_tl_n, pm_tl_s, ↓reduceIte, pb_X9_nearest_0, pb_X9_nearest_1, kd_59, rf_59_0, rf_59_1, rf_59_3, rf_59_4, rf_59_5, rf_59_6, rf_59_7, rf_59_12, rf_59_14, rf_59_15, rf_59_16, rf_59_19, rf_59_23, rf_59_24, rf_59_25, rf_59_26, is_9_59, sr_isIn, bI_0, bI_n0, eq_false q1, not_false_eq_true, if_true, if_false, find_1]
end PK
