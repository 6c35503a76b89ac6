/-! LAWS IN TEXTS, SHEETS -/
theorem k_cases {P : Nat → Prop} {cs : List Nat} {a : Nat} (ha : pm_is cs a = true) (h : ∀ i, i < 90 → pm_is cs i = true → P i) (hc : ∀ q ∈ cs, q < 99) : P a := h a (pm_kd_lt (hc _ (pm_is_e ha))) ha
theorem w_facts : ∀ t, t < 90 → pm_is [0] t = true → pm_kd (pm_rf t 0) = 20 ∧ pm_al (pm_rf t 0) = 60 := by decide +kernel
theorem w_lt {t : Nat} (ht : pm_is [0] t = true) : t < 90 := by
  refine pm_kd_lt ?_
  have h := pm_is_e ht
  simp only [List.mem_cons, List.not_mem_nil, or_false] at h
  omega
theorem sp_isTold {fb : Bool} {d t : Nat} {h : pm_HP} (ht : pm_is [0] t = true) : rs fb (d + 1) n_X0_isTold [.ref t] h = some (some (.int (bI (0 < h.1 t 1))), h) := by
  rw [en_X0_isTold]
  simp only [decide_eq_true_eq, ev_ald0, ev_aldn0, ev_gi, ev_go, ev_i, ev_if0, ev_rz, i00, i01, i10, if_false, if_true, pb_X0_isTold_0, pb_X0_isTold_1, pb_X0_isTold_2, ht]
  by_cases q : h.1 t 1 ≤ 0
  · simp [q, bI, Int32.not_lt.mpr q]
  · simp [q, bI, Int32.not_le.mp q]
theorem sp_clear {fb : Bool} {d t : Nat} {h : pm_HP} (ht : pm_is [0] t = true) : rs fb (d + 1) n_X0_clear [.ref t] h = some (none, pm_si h t 1 0) := by
  rw [en_X0_clear]
  simp only [ev_ald0, ev_aldn0, ev_i, ev_pi, ev_rv, pb_X0_clear_0, ht]
theorem si_same (h : pm_HP) (a k : Nat) (v : Int32) : (pm_si h a k v).1 a k = v := by
  show (if a = a ∧ k = k then v else h.1 a k) = v
  rw [if_pos ⟨rfl, rfl⟩]
theorem si_ne (h : pm_HP) {a k b j : Nat} (v : Int32) (hn : ¬ (b = a ∧ j = k)) : (pm_si h a k v).1 b j = h.1 b j := by
  show (if b = a ∧ j = k then v else h.1 b j) = h.1 b j
  rw [if_neg hn]
theorem si_at (h : pm_HP) (a k b j : Nat) (v : Int32) : (pm_si h a k v).1 b j = if b = a ∧ j = k then v else h.1 b j := rfl
theorem si_2 (h : pm_HP) (a k : Nat) (v : Int32) : (pm_si h a k v).2 = h.2 := rfl
theorem w_ne : ∀ t, t < 90 → pm_is [0] t = true → ¬ t = pm_rf t 0 := by decide +kernel
/-- a part more, where there is room -/
theorem sp_ladd {fb : Bool} {d t u : Nat} {v : Int32} {h : pm_HP} (ht : pm_is [0] t = true) (hu : h.1 t 1 = nI u) (hu2 : u < 60) : rs fb (d + 1) n_X0_add [.ref t, .int v] h = some (none, pm_si (pm_si h (pm_rf t 0) u v) t 1 (nI (u + 1))) := by
  obtain ⟨f1, f2⟩ := w_facts t (w_lt ht) ht
  have e1 : ¬ nI 60 ≤ nI u := nI_ge hu2 (by omega)
  have hix : pm_ix (nI u) 60 = true := pm_ix_n hu2 (by omega)
  have hcl := nI_clamp (show u < 2 ^ 31 by omega)
  have hne := w_ne t (w_lt ht) ht
  have e2 : (pm_si h (pm_rf t 0) u v).1 t 1 = nI u := by rw [si_ne _ _ (fun q => hne q.1), hu]
  rw [en_X0_add]
  simp only [decide_eq_true_eq, ev_ald0, ev_aldn0, ev_bin, ev_dup_i, ev_dup_r, ev_gi, ev_go, ev_gr, ev_i, ev_ias, ev_if2, ev_ild1, ev_ln, ev_pi, ev_rv, i00, i01, i10, if_false, if_true, pb_X0_add_0, pb_X0_add_1, ht, f1, f2, hu, e1, hix, hcl, e2, nI_1]
theorem sp_ladd_full {fb : Bool} {d t : Nat} {v : Int32} {h : pm_HP} (ht : pm_is [0] t = true) (hu : h.1 t 1 = nI 60) : rs fb (d + 1) n_X0_add [.ref t, .int v] h = some (none, h) := by
  obtain ⟨f1, f2⟩ := w_facts t (w_lt ht) ht
  have e1 : nI 60 ≤ nI 60 := nI_le (Nat.le_refl _) (by omega)
  rw [en_X0_add]
  simp only [decide_eq_true_eq, ev_ald0, ev_aldn0, ev_bin, ev_dup_i, ev_dup_r, ev_gi, ev_go, ev_gr, ev_i, ev_ias, ev_if2, ev_ild1, ev_ln, ev_pi, ev_rv, i00, i01, i10, if_false, if_true, pb_X0_add_0, pb_X0_add_1, ht, f1, f2, hu, e1]
theorem sp_ltake {fb : Bool} {d t o : Nat} {h : pm_HP} (ht : pm_is [0] t = true) (ho : pm_is [0] o = true) : rs fb (d + 1) n_X0_take [.ref t, .ref o] h = some (none, pm_si (pm_cp h (pm_rf o 0) (pm_rf t 0) 0 0 60) t 1 ((pm_cp h (pm_rf o 0) (pm_rf t 0) 0 0 60).1 o 1)) := by
  obtain ⟨f1, f2⟩ := w_facts t (w_lt ht) ht
  obtain ⟨g1, g2⟩ := w_facts o (w_lt ho) ho
  have e0 : (0 : Int32).toNatClampNeg = 0 := by decide
  have e1 : (nI 60).toNatClampNeg = 60 := by decide
  have e2 : (0 : Int32) ≤ 0 := by decide
  have e3 : (0 : Int32) ≤ nI 60 := by decide
  rw [en_X0_take]
  simp only [cs8_0, cs8_1, cs8_2, cs8_3, cs8_4, ev_ald0, ev_ald1, ev_aldn0, ev_aldn1, ev_cp, ev_gi, ev_gr, ev_i, ev_ln, ev_pi, ev_rv, pb_X0_take_0, ht, ho, f1, f2, g1, g2, e0, e1, e2, e3, Nat.zero_add, Nat.le_refl, and_self, if_true]
theorem sp_truth {fb : Bool} {d : Nat} {x : Int32} {h : pm_HP} : rs fb (d + 1) n_X0_truth [.int x] h = some (some (.int (bI (¬ x = 0))), h) := by
  rw [en_X0_truth]
  simp only [decide_eq_true_eq, ev_go, ev_i, ev_if0, ev_ild0, ev_ri, i00, i01, i10, if_false, if_true, pb_X0_truth_0, pb_X0_truth_1, pb_X0_truth_2]
  by_cases q : x = 0 <;> simp [q, bI]
/-- the signs, as the class writes them -/
def joF (g a b : Int32) : Int32 := if g = 38 then bI (¬ a = 0 ∧ ¬ b = 0) else if g = 42 then a * b else if g = 43 then a + b else if g = 45 then a - b else if g = 47 then (if b = 0 then 0 else a / b) else if g = 60 then bI (a < b) else if g = 61 then bI (a = b) else if g = 62 then bI (b < a) else if g = 124 then bI (¬ a = 0 ∨ ¬ b = 0) else (if b = 0 then 0 else a - a / b * b)
theorem sp_joined {fb : Bool} {d : Nat} {g a b : Int32} {h : pm_HP} : rs fb (d + 2) n_X0_joined [.int g, .int a, .int b] h = some (some (.int (joF g a b)), h) := by
  rw [en_X0_joined]
  simp only [cs8_0, cs8_1, cs8_2, cs8_3, cs8_4, decide_eq_true_eq, ev_bin, ev_cs1, ev_dv, ev_go, ev_i, ev_if0, ev_if2, ev_ild0, ev_ild1, ev_ild2, ev_ri, ev_sw_0, ev_sw_1, i00, i01, i10, if_false, if_true, pm_bd_s, pm_tl_n, pm_tl_s, pb_X0_joined_0, pb_X0_joined_1, pb_X0_joined_2, pb_X0_joined_3, pb_X0_joined_4, pb_X0_joined_5, pb_X0_joined_6, pb_X0_joined_7, pb_X0_joined_8, pb_X0_joined_9, pb_X0_joined_10, pb_X0_joined_11, pb_X0_joined_12, pb_X0_joined_13, pb_X0_joined_14, pb_X0_joined_15, pb_X0_joined_16, pb_X0_joined_17, pb_X0_joined_18, pb_X0_joined_19, pb_X0_joined_20, pb_X0_joined_21, pb_X0_joined_22, pb_X0_joined_23, pb_X0_joined_24, pb_X0_joined_25, sp_truth, bI_0]
  unfold joF
  by_cases g1 : g = 38
  · subst g1; by_cases a0 : a = 0 <;> by_cases b0 : b = 0 <;> simp [a0, b0, bI]
  rw [if_neg g1, if_neg g1]
  by_cases g2 : g = 42
  · subst g2; simp
  rw [if_neg g2, if_neg g2]
  by_cases g3 : g = 43
  · subst g3; simp
  rw [if_neg g3, if_neg g3]
  by_cases g4 : g = 45
  · subst g4; simp
  rw [if_neg g4, if_neg g4]
  by_cases g5 : g = 47
  · subst g5; by_cases b0 : b = 0 <;> simp [b0]
  rw [if_neg g5, if_neg g5]
  by_cases g6 : g = 60
  · subst g6
    by_cases q : b ≤ a
    · simp [q, bI, Int32.not_lt.mpr q]
    · simp [q, bI, Int32.not_le.mp q]
  rw [if_neg g6, if_neg g6]
  by_cases g7 : g = 61
  · subst g7; by_cases q : a = b <;> simp [q, bI]
  rw [if_neg g7, if_neg g7]
  by_cases g8 : g = 62
  · subst g8
    by_cases q : a ≤ b
    · simp [q, bI, Int32.not_lt.mpr q]
    · simp [q, bI, Int32.not_le.mp q]
  rw [if_neg g8, if_neg g8]
  by_cases g9 : g = 124
  · subst g9; by_cases a0 : a = 0 <;> by_cases b0 : b = 0 <;> simp [a0, b0, bI]
  rw [if_neg g9, if_neg g9]
  by_cases b0 : b = 0 <;> simp [b0]
theorem sp_named {fb : Bool} {d i : Nat} {h : pm_HP} (hi : i < 5) : rs fb (d + 2) n_X0_named [.ref 29, .int (nI i)] h = some (some (.int (h.1 29 i)), h) := by
  have e : (0 ≤ nI i ∧ nI i ≤ nI 5 - 1) = True := eq_true ⟨nI_pos' (by omega), nI_le (a := i) (b := 4) (by omega) (by omega)⟩
  have hix : pm_ix (nI i) 5 = true := pm_ix_n hi (by omega)
  have hcl := nI_clamp (show i < 2 ^ 31 by omega)
  rw [en_X0_named]
  simp only [cs8_0, cs8_1, cs8_2, cs8_3, cs8_4, decide_eq_true_eq, ev_ald0, ev_aldn0, ev_bin, ev_cs3, ev_go, ev_i, ev_ia, ev_if0, ev_ild1, ev_ln, ev_ri, i00, i01, i10, if_false, if_true, pm_bd_s, pm_tl_n, pm_tl_s, pb_X0_named_0, pb_X0_named_1, pb_X0_named_2, kd_29, al_29, sp_isIn, bI_0, e, hix, hcl, not_true_eq_false]
