/-! LOOPS OF THE CLASS: counts, sheets, copies -/
theorem add0 (x : Int32) : x + 0 = x := Int32.add_zero x
set_option maxRecDepth 100000 in
theorem lp_howMany {fb : Bool} {d t c u : Nat} {v : Int32} {h : pm_HP} (ht : pm_is [3, 6] t = true) (hc : c < tC t) (hu : h.1 t 3 = nI u) (hu2 : u ≤ tR t) : ∀ (k i : Nat) (a : Int32), i + k = u → pm_ev P_X6_howMany (rs fb (d + 2)) (P_X6_howMany 1) [some (.ref t), some (.int (nI c)), some (.int v), some (.int a), some (.int (nI i))] [] h = some (some (.int (smA (fun i => decide (h.1 (pm_rf t 2) (c * tR t + i) = v)) (fun _ => 1) i k a)), h) := by
  obtain ⟨f1, f2, f3, f4, f5, f6, f7, f8⟩ := t_facts t (t_lt ht) ht
  intro k
  induction k with
  | zero =>
    intro i a hi
    have e1 : nI u ≤ nI i := nI_le (by omega) (by omega)
    rw [pb_X6_howMany_1]
    simp only [c20, c2i, c2n, c2r, cs8_0, cs8_1, cs8_2, cs8_3, cs8_4, decide_eq_true_eq, ev_ald0, ev_aldn0, ev_cv2, ev_gi, ev_go, ev_i, ev_if2, ev_ild1, ev_ild2, ev_ild3, ev_ild4, ev_inc3, ev_inc4, ev_ist3, ev_ist4, ev_ri, i00, i01, i10, is_sw, pm_bd_s, pm_tl_n, pm_tl_s, ↓reduceIte, pb_X6_howMany_3, ht, hu, e1, smA]
  | succ k ih =>
    intro i a hi
    have e1 : ¬ nI u ≤ nI i := nI_ge (by omega) (by omega)
    have hr : i < tR t := by omega
    rw [pb_X6_howMany_1, smA]
    by_cases q : h.1 (pm_rf t 2) (c * tR t + i) = v
    · simp only [c20, c2i, c2n, c2r, cs8_0, cs8_1, cs8_2, cs8_3, cs8_4, decide_eq_true_eq, ev_ald0, ev_aldn0, ev_cv2, ev_gi, ev_go, ev_i, ev_if2, ev_ild1, ev_ild2, ev_ild3, ev_ild4, ev_inc3, ev_inc4, ev_ist3, ev_ist4, ev_ri, i00, i01, i10, is_sw, pm_bd_s, pm_tl_n, pm_tl_s, ↓reduceIte, pb_X6_howMany_2, ht, hu, e1, sp_at ht hc hr, q, nI_1, not_true_eq_false]
      exact ih (i + 1) _ (by omega)
    · simp only [c20, c2i, c2n, c2r, cs8_0, cs8_1, cs8_2, cs8_3, cs8_4, decide_eq_true_eq, ev_ald0, ev_aldn0, ev_cv2, ev_gi, ev_go, ev_i, ev_if2, ev_ild1, ev_ild2, ev_ild3, ev_ild4, ev_inc3, ev_inc4, ev_ist3, ev_ist4, ev_ri, i00, i01, i10, is_sw, pm_bd_s, pm_tl_n, pm_tl_s, ↓reduceIte, pb_X6_howMany_2, ht, hu, e1, sp_at ht hc hr, q, nI_1, not_false_eq_true, decide_false, Bool.false_eq_true]
      exact ih (i + 1) _ (by omega)
theorem sp_howMany {fb : Bool} {d t c u : Nat} {v : Int32} {h : pm_HP} (ht : pm_is [3, 6] t = true) (hc : c < tC t) (hu : h.1 t 3 = nI u) (hu2 : u ≤ tR t) : rs fb (d + 3) n_X6_howMany [.ref t, .int (nI c), .int v] h = some (some (.int (smA (fun i => decide (h.1 (pm_rf t 2) (c * tR t + i) = v)) (fun _ => 1) 0 u 0)), h) := by
  rw [en_X6_howMany]
  simp only [c20, c2i, c2n, c2r, cs8_0, cs8_1, cs8_2, cs8_3, cs8_4, decide_eq_true_eq, ev_ald0, ev_aldn0, ev_cv2, ev_gi, ev_go, ev_i, ev_if2, ev_ild1, ev_ild2, ev_ild3, ev_ild4, ev_inc3, ev_inc4, ev_ist3, ev_ist4, ev_ri, i00, i01, i10, is_sw, pm_bd_s, pm_tl_n, pm_tl_s, ↓reduceIte, pb_X6_howMany_0]
  have e := lp_howMany (fb := fb) (d := d) (v := v) ht hc hu hu2 u 0 0 (by omega)
  rw [nI_0] at e
  exact e
theorem cp_at (h : pm_HP) (a0 a1 s d n a b : Nat) : (pm_cp h a0 a1 s d n).1 a b = if a = a1 then va_cpy (h.1 a0) (h.1 a1) s d n b else h.1 a b := by
  show (if a = a1 then va_cpy (h.1 a0) (h.1 a1) s d n b else h.1 a b) = _
  rfl
theorem cp_in (f g : Nat → Int32) {n b : Nat} (hb : b < n) : va_cpy f g 0 0 n b = f b := by
  unfold va_cpy
  rw [if_pos ⟨Nat.zero_le _, by omega⟩]
  rw [Nat.sub_zero, Nat.zero_add]
def tkT (h : pm_HP) (o t a b N : Nat) : pm_HP := pm_si (pm_cp h a b 0 0 N) t 3 (h.1 o 3)
theorem tb_ne : ∀ t, t < 90 → pm_is [3, 6] t = true → ∀ o, o < 90 → pm_is [3, 6] o = true → ¬ o = pm_rf t 2 := by decide +kernel
theorem sp_ttake {fb : Bool} {d t o u : Nat} {h : pm_HP} (ht : pm_is [3, 6] t = true) (ho : pm_is [3, 6] o = true) (hC : tC t = tC o) (hR : tR t = tR o) (hu : h.1 o 3 = nI u) (hu2 : u ≤ tR o) : rs fb (d + 3) n_X6_take [.ref t, .ref o] h = some (none, tkT h o t (pm_rf o 2) (pm_rf t 2) (tC t * tR t)) := by
  obtain ⟨f1, f2, f3, f4, f5, f6, f7, f8⟩ := t_facts t (t_lt ht) ht
  obtain ⟨g1, g2, g3, g4, g5, g6, g7, g8⟩ := t_facts o (t_lt ho) ho
  have hb := t_big (Nat.le_refl (tC t * tR t)) f4 f6
  have e0 : (0 : Int32).toNatClampNeg = 0 := by decide
  have e2 : (0 : Int32) ≤ 0 := by decide
  have e3 : (0 : Int32) ≤ nI (tC t * tR t) := nI_pos' hb
  have e4 : ¬ nI (tC t * tR t) < nI (tC t * tR t) := nI_nlt (Nat.le_refl _) hb
  have hcl := nI_clamp hb
  have eo : (pm_cp h (pm_rf o 2) (pm_rf t 2) 0 0 (tC t * tR t)).1 o 3 = nI u := by
    rw [cp_at, if_neg (tb_ne t (t_lt ht) ht o (t_lt ho) ho), hu]
  rw [← hC, ← hR] at g2
  rw [en_X6_take]
  unfold tkT
  simp only [c20, c2i, c2n, c2r, cs8_0, cs8_1, cs8_2, cs8_3, cs8_4, ev_ald0, ev_ald1, ev_aldn0, ev_aldn1, ev_cp, ev_cv1, ev_gi, ev_gr, ev_i, ev_ild2, ev_ist2, ev_ln, ev_m2, ev_rv, is_sw, pm_bd_s, pm_tl_n, pm_tl_s, pb_X6_take_0, ht, ho, f1, f2, g1, g2, e0, e2, e3, e4, hcl, Nat.zero_add, Nat.le_refl, and_self, eo, sp_use ht (show u ≤ tR t by omega), ↓reduceIte, hu]
/-- rows of zeros -/
def zr (h : pm_HP) (a n : Nat) : pm_HP := (fun x b => if x = a ∧ b < n then 0 else h.1 x b, h.2)
theorem zr_0 (h : pm_HP) (a : Nat) : zr h a 0 = h := by
  unfold zr
  simp
theorem zr_s (h : pm_HP) (a n : Nat) : pm_si (zr h a n) a n 0 = zr h a (n + 1) := by
  unfold zr pm_si
  congr 1
  funext x b
  by_cases q : x = a
  · by_cases q2 : b = n
    · simp [q, q2]
    · by_cases q3 : b < n
      · simp [q, q2, q3, show b < n + 1 by omega]
      · simp [q, q2, q3, show ¬ b < n + 1 by omega]
  · simp [q]
theorem zr_at (h : pm_HP) (a n x b : Nat) : (zr h a n).1 x b = if x = a ∧ b < n then 0 else h.1 x b := rfl
set_option maxRecDepth 100000 in
theorem lp_lay {fb : Bool} {d k : Nat} {x y : Int32} {h : pm_HP} (hk : k < 4) : ∀ (m i : Nat), i + m = 24 → pm_ev P_X2_lay (rs fb d) (P_X2_lay 1) [some (.ref (23 + k)), some (.int x), some (.int y), some (.int (nI i))] [] (zr h (48 + k) i) = some (none, zr h (48 + k) 24) := by
  obtain ⟨f1, f2, f3, f4, f5⟩ := sh_facts k hk
  intro m
  induction m with
  | zero =>
    intro i hi
    have e1 : (24 : Int32) ≤ nI i := nI_le (a := 24) (b := i) (by omega) (by omega)
    rw [pb_X2_lay_1]
    simp only [c20, c2i, c2n, c2r, cs8_0, cs8_1, cs8_2, cs8_3, cs8_4, decide_eq_true_eq, ev_ald0, ev_aldn0, ev_cs2, ev_go, ev_gr, ev_i, ev_ias, ev_if2, ev_ild1, ev_ild2, ev_ild3, ev_inc3, ev_ist3, ev_pi, ev_rv, i00, i01, i10, pm_bd_s, pm_tl_n, pm_tl_s, ↓reduceIte, pb_X2_lay_2, e1]
    rw [show i = 24 by omega]
  | succ m ih =>
    intro i hi
    have e1 : ¬ (24 : Int32) ≤ nI i := nI_ge (a := i) (b := 24) (by omega) (by omega)
    have hix : pm_ix (nI i) 24 = true := pm_ix_n (by omega) (by omega)
    have hcl := nI_clamp (show i < 2 ^ 31 by omega)
    rw [pb_X2_lay_1]
    simp only [c20, c2i, c2n, c2r, cs8_0, cs8_1, cs8_2, cs8_3, cs8_4, decide_eq_true_eq, ev_ald0, ev_aldn0, ev_cs2, ev_go, ev_gr, ev_i, ev_ias, ev_if2, ev_ild1, ev_ild2, ev_ild3, ev_inc3, ev_ist3, ev_pi, ev_rv, i00, i01, i10, pm_bd_s, pm_tl_n, pm_tl_s, ↓reduceIte, pb_X2_lay_2, e1, f1, f2, f3, f4, hix, hcl, zr_s, nI_1]
    exact ih (i + 1) (by omega)
theorem sp_lay {fb : Bool} {d k z : Nat} {x : Int32} {h : pm_HP} (hk : k < 4) (hz : z ≤ 24) : rs fb (d + 2) n_X2_lay [.ref (23 + k), .int x, .int (nI z)] h = some (none, zr (pm_si (pm_si h (23 + k) 1 x) (23 + k) 2 (nI z)) (48 + k) 24) := by
  obtain ⟨f1, f2, f3, f4, f5⟩ := sh_facts k hk
  have e1 : (if 24 < nI z then (24 : Int32) else nI z) = nI z := if_neg (nI_nlt (a := 24) (b := z) hz (by omega))
  have e2 : (if 0 < nI z then nI z else 0) = nI z := by
    by_cases hq : z = 0
    · subst hq; rfl
    · rw [if_pos]
      exact nI_lt (a := 0) (b := z) (by omega) (by omega)
  rw [en_X2_lay]
  simp only [c20, c2i, c2n, c2r, cs8_0, cs8_1, cs8_2, cs8_3, cs8_4, decide_eq_true_eq, ev_ald0, ev_aldn0, ev_cs2, ev_go, ev_gr, ev_i, ev_ias, ev_if2, ev_ild1, ev_ild2, ev_ild3, ev_inc3, ev_ist3, ev_pi, ev_rv, i00, i01, i10, pm_bd_s, pm_tl_n, pm_tl_s, ↓reduceIte, pb_X2_lay_0, f1, sp_held, e1, e2]
  have e := lp_lay (fb := fb) (d := d + 1) (x := x) (y := nI z) (h := pm_si (pm_si h (23 + k) 1 x) (23 + k) 2 (nI z)) hk 24 0 (by omega)
  rw [zr_0, nI_0] at e
  exact e
/-- whether the number j has the step of the one ahead of it -/
def evB (h : pm_HP) (k j : Nat) : Bool := decide (stF h k (nI j) = stF h k (nI j - 1))
set_option maxRecDepth 100000 in
theorem lp_evens {fb : Bool} {d k z : Nat} {h : pm_HP} (hk : k < 4) (hz : h.1 (23 + k) 2 = nI z) (hz2 : z ≤ 24) : ∀ (m i : Nat) (a : Int32), 1 ≤ i → (i + m = z ∨ (m = 0 ∧ z ≤ i)) → i ≤ 25 → pm_ev P_X2_evenSteps (rs fb (d + 4)) (P_X2_evenSteps 1) [some (.ref (23 + k)), some (.int a), some (.int (nI i))] [] h = some (some (.int (smA (evB h k) (fun _ => 1) i m a)), h) := by
  obtain ⟨f1, f2, f3, f4, f5⟩ := sh_facts k hk
  intro m
  induction m with
  | zero =>
    intro i a h1 hi hi2
    have e1 : nI z ≤ nI i := nI_le (by omega) (by omega)
    rw [pb_X2_evenSteps_1]
    simp only [c20, c2i, c2n, c2r, cs8_0, cs8_1, cs8_2, cs8_3, cs8_4, decide_eq_true_eq, ev_ald0, ev_aldn0, ev_bin, ev_cv1, ev_gi, ev_go, ev_i, ev_if0, ev_if2, ev_ild1, ev_ild2, ev_inc2, ev_ist1, ev_ist2, ev_ri, i00, i01, i10, pm_bd_s, pm_tl_n, pm_tl_s, ↓reduceIte, pb_X2_evenSteps_4, f1, hz, e1, smA]
  | succ m ih =>
    intro i a h1 hi hi2
    have e1 : ¬ nI z ≤ nI i := nI_ge (by omega) (by omega)
    rw [pb_X2_evenSteps_1, smA]
    by_cases q : stF h k (nI i) = stF h k (nI i - 1)
    · simp only [c20, c2i, c2n, c2r, cs8_0, cs8_1, cs8_2, cs8_3, cs8_4, decide_eq_true_eq, ev_ald0, ev_aldn0, ev_bin, ev_cv1, ev_gi, ev_go, ev_i, ev_if0, ev_if2, ev_ild1, ev_ild2, ev_inc2, ev_ist1, ev_ist2, ev_ri, i00, i01, i10, pm_bd_s, pm_tl_n, pm_tl_s, ↓reduceIte, pb_X2_evenSteps_2, pb_X2_evenSteps_3, f1, hz, e1, sp_isEven hk hz hz2 h1 (show i < 2 ^ 31 by omega), bI_0, q, evB, nI_1, not_true_eq_false, decide_true]
      exact ih (i + 1) _ (by omega) (by omega) (by omega)
    · simp only [c20, c2i, c2n, c2r, cs8_0, cs8_1, cs8_2, cs8_3, cs8_4, decide_eq_true_eq, ev_ald0, ev_aldn0, ev_bin, ev_cv1, ev_gi, ev_go, ev_i, ev_if0, ev_if2, ev_ild1, ev_ild2, ev_inc2, ev_ist1, ev_ist2, ev_ri, i00, i01, i10, pm_bd_s, pm_tl_n, pm_tl_s, ↓reduceIte, pb_X2_evenSteps_2, pb_X2_evenSteps_3, f1, hz, e1, sp_isEven hk hz hz2 h1 (show i < 2 ^ 31 by omega), bI_0, q, evB, nI_1, not_false_eq_true, decide_false, Bool.false_eq_true, add0]
      exact ih (i + 1) _ (by omega) (by omega) (by omega)
theorem sp_evens {fb : Bool} {d k z : Nat} {h : pm_HP} (hk : k < 4) (hz : h.1 (23 + k) 2 = nI z) (hz2 : z ≤ 24) : rs fb (d + 5) n_X2_evenSteps [.ref (23 + k)] h = some (some (.int (smA (evB h k) (fun _ => 1) 1 (z - 1) 0)), h) := by
  rw [en_X2_evenSteps]
  simp only [c20, c2i, c2n, c2r, cs8_0, cs8_1, cs8_2, cs8_3, cs8_4, decide_eq_true_eq, ev_ald0, ev_aldn0, ev_bin, ev_cv1, ev_gi, ev_go, ev_i, ev_if0, ev_if2, ev_ild1, ev_ild2, ev_inc2, ev_ist1, ev_ist2, ev_ri, i00, i01, i10, pm_bd_s, pm_tl_n, pm_tl_s, ↓reduceIte, pb_X2_evenSteps_0]
  exact lp_evens (fb := fb) (d := d) hk hz hz2 (z - 1) 1 0 (by omega) (by omega) (by omega)
def lgA (p : Nat → Bool) : Nat → Nat → Int32 → Int32 → Int32
  | _, 0, l, _ => l
  | i, m + 1, l, r => lgA p (i + 1) m (if l < (if p i = true then r + 1 else 0) then (if p i = true then r + 1 else 0) else l) (if p i = true then r + 1 else 0)
set_option maxRecDepth 100000 in
theorem lp_longest {fb : Bool} {d k z : Nat} {h : pm_HP} (hk : k < 4) (hz : h.1 (23 + k) 2 = nI z) (hz2 : z ≤ 24) : ∀ (m i : Nat) (a r : Int32), 1 ≤ i → (i + m = z ∨ (m = 0 ∧ z ≤ i)) → i ≤ 25 → pm_ev P_X2_longestEvenRow (rs fb (d + 4)) (P_X2_longestEvenRow 1) [some (.ref (23 + k)), some (.int a), some (.int r), some (.int (nI i))] [] h = some (some (.int (lgA (evB h k) i m a r)), h) := by
  obtain ⟨f1, f2, f3, f4, f5⟩ := sh_facts k hk
  intro m
  induction m with
  | zero =>
    intro i a r h1 hi hi2
    have e1 : nI z ≤ nI i := nI_le (by omega) (by omega)
    rw [pb_X2_longestEvenRow_1]
    simp only [c20, c2i, c2n, c2r, cs8_0, cs8_1, cs8_2, cs8_3, cs8_4, decide_eq_true_eq, ev_ald0, ev_aldn0, ev_bin, ev_cv1, ev_gi, ev_go, ev_i, ev_if0, ev_if2, ev_ild1, ev_ild2, ev_ild3, ev_inc3, ev_ist1, ev_ist2, ev_ist3, ev_m2, ev_ri, i00, i01, i10, pm_bd_s, pm_tl_n, pm_tl_s, ↓reduceIte, pb_X2_longestEvenRow_4, f1, hz, e1, lgA]
  | succ m ih =>
    intro i a r h1 hi hi2
    have e1 : ¬ nI z ≤ nI i := nI_ge (by omega) (by omega)
    rw [pb_X2_longestEvenRow_1, lgA]
    by_cases q : stF h k (nI i) = stF h k (nI i - 1)
    · have hq : evB h k i = true := decide_eq_true q
      rw [hq]
      simp only [c20, c2i, c2n, c2r, cs8_0, cs8_1, cs8_2, cs8_3, cs8_4, decide_eq_true_eq, ev_ald0, ev_aldn0, ev_bin, ev_cv1, ev_gi, ev_go, ev_i, ev_if0, ev_if2, ev_ild1, ev_ild2, ev_ild3, ev_inc3, ev_ist1, ev_ist2, ev_ist3, ev_m2, ev_ri, i00, i01, i10, pm_bd_s, pm_tl_n, pm_tl_s, ↓reduceIte, pb_X2_longestEvenRow_2, pb_X2_longestEvenRow_3, f1, hz, e1, sp_isEven hk hz hz2 h1 (show i < 2 ^ 31 by omega), bI_0, q, nI_1, not_true_eq_false]
      exact ih (i + 1) _ _ (by omega) (by omega) (by omega)
    · have hq : evB h k i = false := decide_eq_false q
      rw [hq]
      simp only [c20, c2i, c2n, c2r, cs8_0, cs8_1, cs8_2, cs8_3, cs8_4, decide_eq_true_eq, ev_ald0, ev_aldn0, ev_bin, ev_cv1, ev_gi, ev_go, ev_i, ev_if0, ev_if2, ev_ild1, ev_ild2, ev_ild3, ev_inc3, ev_ist1, ev_ist2, ev_ist3, ev_m2, ev_ri, i00, i01, i10, pm_bd_s, pm_tl_n, pm_tl_s, ↓reduceIte, pb_X2_longestEvenRow_2, pb_X2_longestEvenRow_3, f1, hz, e1, sp_isEven hk hz hz2 h1 (show i < 2 ^ 31 by omega), bI_0, q, nI_1, not_false_eq_true, Bool.false_eq_true]
      exact ih (i + 1) _ _ (by omega) (by omega) (by omega)
theorem sp_longest {fb : Bool} {d k z : Nat} {h : pm_HP} (hk : k < 4) (hz : h.1 (23 + k) 2 = nI z) (hz2 : z ≤ 24) : rs fb (d + 5) n_X2_longestEvenRow [.ref (23 + k)] h = some (some (.int (lgA (evB h k) 1 (z - 1) 0 0)), h) := by
  rw [en_X2_longestEvenRow]
  simp only [c20, c2i, c2n, c2r, cs8_0, cs8_1, cs8_2, cs8_3, cs8_4, decide_eq_true_eq, ev_ald0, ev_aldn0, ev_bin, ev_cv1, ev_gi, ev_go, ev_i, ev_if0, ev_if2, ev_ild1, ev_ild2, ev_ild3, ev_inc3, ev_ist1, ev_ist2, ev_ist3, ev_m2, ev_ri, i00, i01, i10, pm_bd_s, pm_tl_n, pm_tl_s, ↓reduceIte, pb_X2_longestEvenRow_0]
  exact lp_longest (fb := fb) (d := d) hk hz hz2 (z - 1) 1 0 0 (by omega) (by omega) (by omega)
/-- Euclid, in at most k steps -/
def gcA : Nat → Int64 → Int64 → Int64
  | 0, a, _ => a
  | k + 1, a, b => if b = 0 then a else gcA k b (a - a / b * b)
theorem lg_cmp_0 (x : Int64) : (lg_cmp x 0 = 0) = (x = 0) := by
  unfold lg_cmp
  by_cases q : x = 0
  · simp [q]
  · by_cases q2 : x > 0 <;> simp [q, q2]
set_option maxRecDepth 100000 in
theorem lp_gc {fb : Bool} {d : Nat} {x0 x1 : Int64} {h : pm_HP} : ∀ (k i : Nat) (a b : Int64) (z : Option Value), i + k = 100 → pm_ev P_X8_greatestCommon (rs fb d) (P_X8_greatestCommon 1) [some (.long x0), none, some (.long x1), none, some (.long a), none, some (.long b), none, some (.int (nI i)), z, none] [] h = some (some (.long (gcA k a b)), h) := by
  intro k
  induction k with
  | zero =>
    intro i a b z hi
    have e1 : (100 : Int32) ≤ nI i := nI_le (a := 100) (b := i) (by omega) (by omega)
    rw [pb_X8_greatestCommon_1]
    simp only [c20, c2i, c2n, c2r, decide_eq_true_eq, ev_go, ev_i, ev_if0, ev_if2, ev_ild8, ev_inc8, ev_ist8, ev_l, ev_lcmp, ev_ldv, ev_lld0, ev_lld2, ev_lld4, ev_lld6, ev_lld9, ev_lst4, ev_lst6, ev_lst9, ev_rl, i00, i01, i10, ↓reduceIte, pb_X8_greatestCommon_2, e1, gcA]
  | succ k ih =>
    intro i a b z hi
    have e1 : ¬ (100 : Int32) ≤ nI i := nI_ge (a := i) (b := 100) (by omega) (by omega)
    rw [pb_X8_greatestCommon_1, gcA]
    by_cases q : b = 0
    · simp only [c20, c2i, c2n, c2r, decide_eq_true_eq, ev_go, ev_i, ev_if0, ev_if2, ev_ild8, ev_inc8, ev_ist8, ev_l, ev_lcmp, ev_ldv, ev_lld0, ev_lld2, ev_lld4, ev_lld6, ev_lld9, ev_lst4, ev_lst6, ev_lst9, ev_rl, i00, i01, i10, ↓reduceIte, pb_X8_greatestCommon_2, e1, lg_cmp_0, q]
    · simp only [c20, c2i, c2n, c2r, decide_eq_true_eq, ev_go, ev_i, ev_if0, ev_if2, ev_ild8, ev_inc8, ev_ist8, ev_l, ev_lcmp, ev_ldv, ev_lld0, ev_lld2, ev_lld4, ev_lld6, ev_lld9, ev_lst4, ev_lst6, ev_lst9, ev_rl, i00, i01, i10, ↓reduceIte, pb_X8_greatestCommon_2, e1, lg_cmp_0, q, nI_1]
      exact ih (i + 1) _ _ _ (by omega)
theorem sp_gc {fb : Bool} {d : Nat} {a b : Int64} {h : pm_HP} : rs fb (d + 1) n_X8_greatestCommon [.long a, .long b] h = some (some (.long (gcA 100 a b)), h) := by
  rw [en_X8_greatestCommon]
  simp only [c20, c2i, c2n, c2r, decide_eq_true_eq, ev_go, ev_i, ev_if0, ev_if2, ev_ild8, ev_inc8, ev_ist8, ev_l, ev_lcmp, ev_ldv, ev_lld0, ev_lld2, ev_lld4, ev_lld6, ev_lld9, ev_lst4, ev_lst6, ev_lst9, ev_rl, i00, i01, i10, ↓reduceIte, pb_X8_greatestCommon_0]
  exact lp_gc (fb := fb) (d := d) 100 0 a b none (by omega)
