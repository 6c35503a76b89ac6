/-! TABLES: what each method does, by numbers of Nat -/
def tC (t : Nat) : Nat := (pm_fc t 0).toNatClampNeg
def tR (t : Nat) : Nat := (pm_fc t 1).toNatClampNeg
theorem t_facts : ∀ t, t < 90 → pm_is [3, 6] t = true → pm_kd (pm_rf t 2) = 20 ∧ pm_al (pm_rf t 2) = tC t * tR t ∧ 1 ≤ tC t ∧ tC t ≤ 5 ∧ 1 ≤ tR t ∧ tR t ≤ 60 ∧ pm_fc t 0 = nI (tC t) ∧ pm_fc t 1 = nI (tR t) := by decide +kernel
theorem t_lt {t : Nat} (ht : pm_is [3, 6] t = true) : t < 90 := by
  have h := pm_is_e ht
  refine pm_kd_lt ?_
  simp only [List.mem_cons, List.not_mem_nil, or_false] at h
  omega
theorem nI_mul (a b : Nat) : nI a * nI b = nI (a * b) := (Int32.ofNat_mul a b).symm
theorem pm_ix_n {i n : Nat} (h : i < n) (hn : n < 2 ^ 31) : pm_ix (nI i) n = true := by
  unfold pm_ix
  rw [nI_clamp (by omega)]
  simp [nI_pos' (show i < 2 ^ 31 by omega), h]
theorem t_idx {a b c d : Nat} (h1 : a < c) (h2 : b < d) : a * d + b < c * d := by
  have : (a + 1) * d ≤ c * d := Nat.mul_le_mul_right d (by omega)
  rw [Nat.add_mul] at this
  omega
theorem t_big {a c d : Nat} (h1 : a ≤ c * d) (h2 : c ≤ 5) (h3 : d ≤ 60) : a < 2 ^ 31 := by
  have : c * d ≤ 5 * 60 := Nat.mul_le_mul h2 h3
  omega
theorem sp_holds {fb : Bool} {d t c r : Nat} {h : pm_HP} (ht : pm_is [3, 6] t = true) (hc : c < tC t) (hr : r < tR t) : rs fb (d + 1) n_X6_holds [.ref t, .int (nI c), .int (nI r)] h = some (some (.int 1), h) := by
  obtain ⟨f1, f2, f3, f4, f5, f6, f7, f8⟩ := t_facts t (t_lt ht) ht
  have e1 : ¬ nI c < 0 := nI_pos (by omega)
  have e2 : ¬ nI r < 0 := nI_pos (by omega)
  have e3 : ¬ nI (tC t) ≤ nI c := nI_ge hc (by omega)
  have e4 : ¬ nI (tR t) ≤ nI r := nI_ge hr (by omega)
  rw [en_X6_holds]
  simp only [decide_eq_true_eq, ev_ald0, ev_aldn0, ev_gc, ev_go, ev_i, ev_if0, ev_if2, ev_ild1, ev_ild2, ev_rz, i00, i01, i10, if_false, if_true, pb_X6_holds_0, pb_X6_holds_1, pb_X6_holds_2, ht, f7, f8, e1, e2, e3, e4, if_false]
  rfl
theorem sp_at {fb : Bool} {d t c r : Nat} {h : pm_HP} (ht : pm_is [3, 6] t = true) (hc : c < tC t) (hr : r < tR t) : rs fb (d + 2) n_X6_at [.ref t, .int (nI c), .int (nI r)] h = some (some (.int (h.1 (pm_rf t 2) (c * tR t + r))), h) := by
  obtain ⟨f1, f2, f3, f4, f5, f6, f7, f8⟩ := t_facts t (t_lt ht) ht
  have hi := t_idx hc hr
  have hb := t_big (Nat.le_of_lt hi) f4 f6
  have hix : pm_ix (nI (c * tR t + r)) (tC t * tR t) = true := pm_ix_n hi (t_big (Nat.le_refl _) f4 f6)
  rw [en_X6_at]
  simp only [cs8_0, cs8_1, cs8_2, cs8_3, cs8_4, decide_eq_true_eq, ev_ald0, ev_aldn0, ev_bin, ev_cv2, ev_gc, ev_go, ev_gr, ev_i, ev_ia, ev_if0, ev_ild1, ev_ild2, ev_ri, i00, i01, i10, if_false, if_true, is_sw, pm_bd_s, pm_tl_n, pm_tl_s, pb_X6_at_0, pb_X6_at_1, pb_X6_at_2, ht, f1, f2, f8, sp_holds ht hc hr, nI_mul, nI_add, hix, nI_clamp hb, Nat.reduceAdd, Nat.reduceLeDiff]
theorem sp_set {fb : Bool} {d t c r : Nat} {v : Int32} {h : pm_HP} (ht : pm_is [3, 6] t = true) (hc : c < tC t) (hr : r < tR t) : rs fb (d + 2) n_X6_set [.ref t, .int (nI c), .int (nI r), .int v] h = some (none, pm_si h (pm_rf t 2) (c * tR t + r) v) := by
  obtain ⟨f1, f2, f3, f4, f5, f6, f7, f8⟩ := t_facts t (t_lt ht) ht
  have hi := t_idx hc hr
  have hb := t_big (Nat.le_of_lt hi) f4 f6
  have hix : pm_ix (nI (c * tR t + r)) (tC t * tR t) = true := pm_ix_n hi (t_big (Nat.le_refl _) f4 f6)
  rw [en_X6_set]
  simp only [cs8_0, cs8_1, cs8_2, cs8_3, cs8_4, decide_eq_true_eq, ev_ald0, ev_aldn0, ev_bin, ev_cv2, ev_gc, ev_go, ev_gr, ev_ias, ev_if0, ev_ild1, ev_ild2, ev_ild3, ev_rv, i00, i01, i10, if_false, if_true, is_sw, pm_bd_s, pm_tl_n, pm_tl_s, pb_X6_set_0, pb_X6_set_1, ht, f1, f2, f8, sp_holds ht hc hr, nI_mul, nI_add, hix, nI_clamp hb, Nat.reduceAdd, Nat.reduceLeDiff]
theorem sp_used {fb : Bool} {d t : Nat} {h : pm_HP} (ht : pm_is [3, 6] t = true) : rs fb (d + 1) n_X6_used [.ref t] h = some (some (.int (h.1 t 3)), h) := by
  rw [en_X6_used]
  simp only [ev_ald0, ev_aldn0, ev_gi, ev_ri, pb_X6_used_0, ht]
theorem sp_use {fb : Bool} {d t n : Nat} {h : pm_HP} (ht : pm_is [3, 6] t = true) (hn : n ≤ tR t) : rs fb (d + 2) n_X6_use [.ref t, .int (nI n)] h = some (none, pm_si h t 3 (nI n)) := by
  obtain ⟨f1, f2, f3, f4, f5, f6, f7, f8⟩ := t_facts t (t_lt ht) ht
  have e1 : ¬ nI (tR t) < nI n := nI_nlt hn (by omega)
  have e2 : (if 0 < nI n then nI n else 0) = nI n := by
    by_cases hz : n = 0
    · subst hz; rfl
    · rw [if_pos]
      have := nI_lt (a := 0) (b := n) (by omega) (by omega)
      exact this
  rw [en_X6_use]
  simp only [cs8_0, cs8_1, cs8_2, cs8_3, cs8_4, ev_ald0, ev_aldn0, ev_cs2, ev_gc, ev_ild1, ev_pi, ev_rv, pm_bd_s, pm_tl_n, pm_tl_s, pb_X6_use_0, ht, f8, sp_held, e1, e2, Nat.reduceAdd, Nat.reduceLeDiff, if_false]
theorem sp_has {fb : Bool} {d t u : Nat} {v : Int32} {h : pm_HP} (ht : pm_is [3, 6] t = true) (hu : h.1 t 3 = nI u) (hu2 : u ≤ 60) : rs fb (d + 2) n_X6_has [.ref t, .int v] h = some (some (.int (bI (0 ≤ v ∧ v < nI u))), h) := by
  have e : (0 ≤ v ∧ v ≤ nI u - 1) ↔ (0 ≤ v ∧ v < nI u) := by
    have e1 := nI_toInt (show u < 2 ^ 31 by omega)
    have e2 : (nI u - 1).toInt = (u : Int) - 1 := by
      rw [Int32.toInt_sub, e1]
      show ((u : Int) - 1).bmod (2 ^ 32) = _
      rw [Int.bmod_eq_of_le] <;> omega
    rw [Int32.le_iff_toInt_le (x := v), Int32.lt_iff_toInt_lt (x := v), e1, e2]
    constructor
    · rintro ⟨g1, g2⟩; exact ⟨g1, by omega⟩
    · rintro ⟨g1, g2⟩; exact ⟨g1, by omega⟩
  have eb : bI (0 ≤ v ∧ v ≤ nI u - 1) = bI (0 ≤ v ∧ v < nI u) := by
    unfold bI
    by_cases q : 0 ≤ v ∧ v < nI u
    · rw [if_pos q, if_pos (e.mpr q)]
    · rw [if_neg q, if_neg (fun z => q (e.mp z))]
  rw [en_X6_has]
  simp only [cs8_0, cs8_1, cs8_2, cs8_3, cs8_4, ev_ald0, ev_aldn0, ev_bin, ev_cs3, ev_gi, ev_i, ev_ild1, ev_rz, pm_bd_s, pm_tl_n, pm_tl_s, pb_X6_has_0, ht, hu, sp_isIn, Nat.reduceAdd, Nat.reduceLeDiff, bI_a, if_true, eb]
theorem sp_isFull {fb : Bool} {d t u : Nat} {h : pm_HP} (ht : pm_is [3, 6] t = true) (hu : h.1 t 3 = nI u) (hu2 : u ≤ tR t) : rs fb (d + 1) n_X6_isFull [.ref t] h = some (some (.int (bI (u = tR t))), h) := by
  obtain ⟨f1, f2, f3, f4, f5, f6, f7, f8⟩ := t_facts t (t_lt ht) ht
  rw [en_X6_isFull]
  simp only [decide_eq_true_eq, ev_ald0, ev_aldn0, ev_gc, ev_gi, ev_go, ev_i, ev_if2, ev_rz, i00, i01, i10, if_false, if_true, pb_X6_isFull_0, pb_X6_isFull_1, pb_X6_isFull_2, ht, hu, f8]
  by_cases q : u = tR t
  · have e : ¬ nI u < nI (tR t) := nI_nlt (by omega) (by omega)
    simp [q, bI]
  · have e : nI u < nI (tR t) := nI_lt (by omega) (by omega)
    simp [q, bI, e]
theorem sp_add {fb : Bool} {d t u : Nat} {v : Int32} {h : pm_HP} (ht : pm_is [3, 6] t = true) (hu : h.1 t 3 = nI u) (hu2 : u < tR t) : rs fb (d + 3) n_X6_add [.ref t, .int v] h = some (some (.int (nI u)), pm_si (pm_si h t 3 (nI (u + 1))) (pm_rf t 2) u v) := by
  obtain ⟨f1, f2, f3, f4, f5, f6, f7, f8⟩ := t_facts t (t_lt ht) ht
  have e0 : (0 : Int32) = nI 0 := rfl
  have e1 : (1 : Int32) = nI 1 := rfl
  have hs := fun h => sp_set (fb := fb) (d := d) (v := v) (h := h) ht (c := 0) (r := u) (by omega) hu2
  rw [← e0] at hs
  rw [en_X6_add]
  simp only [c20, c2i, c2n, c2r, cs8_0, cs8_1, cs8_2, cs8_3, cs8_4, ev_ald0, ev_aldn0, ev_bin, ev_cv1, ev_cv3, ev_gi, ev_i, ev_ild1, ev_ild2, ev_ist2, ev_ri, is_sw, pm_bd_s, pm_tl_n, pm_tl_s, pb_X6_add_0, ht, hu, nI_1, sp_use ht (show u + 1 ≤ tR t by omega), hs, Nat.reduceAdd, Nat.reduceLeDiff, Nat.zero_mul, Nat.zero_add]
