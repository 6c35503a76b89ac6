/-! PAIRS OF CALLS: voice -/
def aK (k : Nat) : Nat := if k = 3 then 2 else if k = 4 then 1 else if k = 6 then 5 else 0
def oB (k v : Nat) : Bool := k == 0 || (k == 1 && (v == 0 || v == 3)) || (k == 2 && v == 1) || (k == 3 && (v == 1 || v == 2)) || (k == 4 && (v == 0 || v == 3)) || (k == 5 && v == 2) || (k == 6 && (v == 0 || v == 2))
def oK (F v : Nat) : Nat := if oB F v = true then F else if oB (aK F) v = true then aK F else 0
def bdT (k v : Nat) : Int32 := pm_sv 79 (k * 4 + v)
theorem n1 : nI 1 = 1 := rfl
theorem n2 : nI 2 = 2 := rfl
theorem n3 : nI 3 = 3 := rfl
theorem n4 : nI 4 = 4 := rfl
theorem n5 : nI 5 = 5 := rfl
theorem n6 : nI 6 = 6 := rfl
theorem tb_o : ∀ k, k < 7 → ∀ v, v < 4 → (bdT k v = 0 ↔ oB k v = false) := by decide +kernel
theorem tb_a : ∀ k, k < 7 → 1 ≤ k → abF (nI k) = nI (aK k) ∧ (if nI k = 0 then (-1 : Int32) else if nI k = 3 then 2 else if nI k = 4 then 1 else if nI k = 6 then 5 else 0) = nI (aK k) := by decide +kernel
theorem tb_b : ∀ k, k < 7 → aK k < 7 ∧ aK (aK k) = 0 := by decide +kernel
theorem tb_0 : ∀ v, v < 4 → oB 0 v = true := by decide +kernel
theorem tb_k : ∀ F, F < 7 → ∀ v, v < 4 → oK F v < 7 ∧ oB (oK F v) v = true := by decide +kernel
def dpW (g : Nat → Nat → Bool) (K k v : Nat) : Bool := if k = 0 then (if v = 1 then g K 0 else if v = 2 then g K 1 else true) else if k = 1 then (if v = 0 then g 0 0 else (g 0 3 && g K 1)) else if k = 2 then g 0 1 else if k = 3 then (if v = 1 then g 2 1 else g 2 2) else if k = 4 then (if v = 0 then g 1 0 else (g 1 3 && g K 2)) else if k = 5 then g 0 2 else (if v = 0 then true else g 5 2)
def dpV : Nat → Nat → Nat → Nat → Bool
  | 0, _, _, _ => false
  | f + 1, K, F, v => dpW (dpV f K) K (oK F v) v
theorem dp_all : ∀ K, K < 7 → ∀ v, v < 4 → dpV 10 K K v = true := by decide +kernel
def VC (K s : Nat) (m : Int32) (h : pm_HP) : Prop := h.1 19 1 = nI K ∧ h.1 19 2 = nI s ∧ h.1 19 3 = m
def VD (K s : Nat) (m : Int32) (h : pm_HP) : Prop := h.1 59 21 = nI s ∧ rl h 0 s = nI K ∧ rl h 3 s = m ∧ s < 8
def VR (hc hr : pm_HP) : Prop := ∃ t, t ≤ 30 ∧ hc.1 22 3 = nI t ∧ hr.1 59 20 = nI t ∧ (∀ i, i < t → hc.1 47 i = hr.1 71 i) ∧ hc.1 19 4 = hr.1 59 22 ∧ (hr.1 59 22 = 0 ∨ hr.1 59 22 = 1)
def FC (h h' : pm_HP) : Prop := ∀ a b, ¬ (a = 19 ∧ b = 4) → ¬ a = 22 → ¬ a = 47 → h'.1 a b = h.1 a b
def FR (h h' : pm_HP) : Prop := ∀ a b, ¬ (a = 59 ∧ (b = 20 ∨ b = 22)) → ¬ a = 71 → h'.1 a b = h.1 a b
theorem FC.tr {h h' h'' : pm_HP} (a : FC h h') (b : FC h' h'') : FC h h'' := fun x y h1 h2 h3 => (b x y h1 h2 h3).trans (a x y h1 h2 h3)
theorem FR.tr {h h' h'' : pm_HP} (a : FR h h') (b : FR h' h'') : FR h h'' := fun x y h1 h2 => (b x y h1 h2).trans (a x y h1 h2)
theorem VC_t {K s : Nat} {m : Int32} {h h' : pm_HP} (v : VC K s m h) (f : FC h h') : VC K s m h' := by
  unfold VC at *
  rw [f 19 1 (by omega) (by omega) (by omega), f 19 2 (by omega) (by omega) (by omega), f 19 3 (by omega) (by omega) (by omega)]
  exact v
theorem VD_t {K s : Nat} {m : Int32} {h h' : pm_HP} (v : VD K s m h) (f : FR h h') : VD K s m h' := by
  unfold VD rl at *
  rw [f 59 21 (by omega) (by omega), f 60 _ (by omega) (by omega), f 60 _ (by omega) (by omega)]
  exact v
section VO
variable {fb : Bool} {d : Nat} {h : pm_HP}
theorem sp_bodyOf {k v : Nat} (hk : k < 7) (hv : v < 4) : rs fb (d + 2) n_X4_bodyOf [.int (nI k), .int (nI v)] h = some (some (.int (bdT k v)), h) := by
  have e : nI k * 4 + nI v = nI (k * 4 + v) := by
    show nI k * nI 4 + nI v = _
    rw [nI_mul, nI_add]
  have q1 : (0 ≤ nI k ∧ nI k ≤ 6) = True := eq_true ⟨nI_pos' (by omega), nI_le (b := 6) (by omega) (by omega)⟩
  have q2 : (0 ≤ nI v ∧ nI v ≤ 3) = True := eq_true ⟨nI_pos' (by omega), nI_le (b := 3) (by omega) (by omega)⟩
  have x1 : pm_ix (nI (k * 4 + v)) 28 = true := pm_ix_n (by omega) (by omega)
  have c1 := nI_clamp (show k * 4 + v < 2 ^ 31 by omega)
  have z10 : ((1 : Int32) = 0) = False := by decide
  rw [en_X4_bodyOf]
  unfold bdT
  simp only [c20, c2i, c2n, c2r, cs8_0, cs8_1, cs8_2, cs8_3, cs8_4, decide_eq_true_eq, ev_bin, ev_cs3, ev_go, ev_i, ev_if0, ev_ild0, ev_ild1, ev_ild2, ev_is, ev_ist2, ev_ri, ev_v, i00, i01, i10, not_false_eq_true, not_true_eq_false, pm_bd_s, pm_tl_n, pm_tl_s, ↓reduceIte, pb_X4_bodyOf_0, pb_X4_bodyOf_1, pb_X4_bodyOf_2, pb_X4_bodyOf_3, pb_X4_bodyOf_4, kd_79, al_79, sp_isIn, bI_0, q1, q2, z10, e, x1, c1, not_true_eq_false, if_true, if_false]
set_option maxRecDepth 100000 in
theorem sr_hasOwn {k v : Nat} (hk : k < 7) (hv : v < 4) : rs fb (d + 1) n_X9_hasOwn [.int (nI k), .int (nI v)] h = some (some (.int (if oB k v = true then 1 else 0)), h) := by
  have a1 : ((1 : Int32) &&& 1 = 1) = True := by decide
  have a0 : ((0 : Int32) &&& 1 = 0) = True := by decide
  rw [en_X9_hasOwn]
  rcases (show k = 0 ∨ k = 1 ∨ k = 2 ∨ k = 3 ∨ k = 4 ∨ k = 5 ∨ k = 6 by omega) with rfl | rfl | rfl | rfl | rfl | rfl | rfl <;> rcases (show v = 0 ∨ v = 1 ∨ v = 2 ∨ v = 3 by omega) with rfl | rfl | rfl | rfl <;> simp only [decide_eq_true_eq, ev_go, ev_i, ev_if0, ev_if2, ev_ild0, ev_ild1, ev_rz, ev_sw_0, ev_sw_1, i00, i01, i10, not_false_eq_true, not_true_eq_false, ↓reduceIte, pb_X9_hasOwn_0, pb_X9_hasOwn_1, pb_X9_hasOwn_2, pb_X9_hasOwn_3, pb_X9_hasOwn_4, pb_X9_hasOwn_5, pb_X9_hasOwn_6, pb_X9_hasOwn_7, pb_X9_hasOwn_8, pb_X9_hasOwn_9, pb_X9_hasOwn_10, pb_X9_hasOwn_11, pb_X9_hasOwn_12, pb_X9_hasOwn_13, pb_X9_hasOwn_14, pb_X9_hasOwn_15, pb_X9_hasOwn_16, pb_X9_hasOwn_17, pb_X9_hasOwn_18, pb_X9_hasOwn_19, nl_0_1, nl_0_2, nl_0_3, nl_0_4, nl_0_5, nl_0_6, nl_0_7, nl_0_8, nl_1_0, nl_1_2, nl_1_3, nl_1_4, nl_1_5, nl_1_6, nl_1_7, nl_1_8, nl_2_0, nl_2_1, nl_2_3, nl_2_4, nl_2_5, nl_2_6, nl_2_7, nl_2_8, nl_3_0, nl_3_1, nl_3_2, nl_3_4, nl_3_5, nl_3_6, nl_3_7, nl_3_8, nl_4_0, nl_4_1, nl_4_2, nl_4_3, nl_4_5, nl_4_6, nl_4_7, nl_4_8, nl_5_0, nl_5_1, nl_5_2, nl_5_3, nl_5_4, nl_5_6, nl_5_7, nl_5_8, nl_6_0, nl_6_1, nl_6_2, nl_6_3, nl_6_4, nl_6_5, nl_6_7, nl_6_8, nl_7_0, nl_7_1, nl_7_2, nl_7_3, nl_7_4, nl_7_5, nl_7_6, nl_7_8, nl_8_0, nl_8_1, nl_8_2, nl_8_3, nl_8_4, nl_8_5, nl_8_6, nl_8_7, nI_0, n1, n2, n3, n4, n5, n6, a0, a1, not_true_eq_false, not_false_eq_true, if_true, if_false] <;> rfl
theorem snd_s0 {its v : Nat} {F x q : Int32} {j : Nat} {dp : Int32} (hi : its < 7) (hv : v < 4) (hj : j < 7) (ho : oB its v = true) : pm_ev P_X4_sound (rs fb (d + 2)) (P_X4_sound 1) [some (.ref 19), some (.int (nI v)), some (.int F), some (.int x), some (.int dp), some (.int (nI its)), some (.int (nI j))] [] h = pm_ev P_X4_sound (rs fb (d + 2)) (P_X4_sound 2) [some (.ref 19), some (.int (nI v)), some (.int F), some (.int x), some (.int dp), some (.int (nI its)), some (.int (nI j))] [] h := by
  have e1 : ¬ (7 : Int32) ≤ nI j := nI_ge (b := 7) (by omega) (by omega)
  have z : (bdT its v = 0) = False := eq_false (fun t => by rw [(tb_o its hi v hv).mp t] at ho; cases ho)
  rw [pb_X4_sound_1]
  simp only [c20, c2i, c2n, c2r, cs8_0, cs8_1, cs8_2, cs8_3, cs8_4, decide_eq_true_eq, ev_ald0, ev_aldn0, ev_bin, ev_cs1, ev_cs2, ev_cv0, ev_cv1, ev_cv4, ev_gi, ev_go, ev_gr, ev_i, ev_if0, ev_if2, ev_ild1, ev_ild2, ev_ild3, ev_ild4, ev_ild5, ev_ild6, ev_inc6, ev_ist5, ev_ist6, ev_pop_i, ev_pop_r, ev_ri, i00, i01, i10, is_sw, not_false_eq_true, not_true_eq_false, pm_bd_s, pm_tl_n, pm_tl_s, ↓reduceIte, e1, sp_bodyOf hi hv, z, not_false_eq_true, if_true, if_false]
theorem snd_s1 {its v : Nat} {F x : Int32} {j : Nat} {dp : Int32} (hi : its < 7) (hv : v < 4) (hj : j < 7) (ho : ¬ oB its v = true) : pm_ev P_X4_sound (rs fb (d + 2)) (P_X4_sound 1) [some (.ref 19), some (.int (nI v)), some (.int F), some (.int x), some (.int dp), some (.int (nI its)), some (.int (nI j))] [] h = pm_ev P_X4_sound (rs fb (d + 2)) (P_X4_sound 1) [some (.ref 19), some (.int (nI v)), some (.int F), some (.int x), some (.int dp), some (.int (nI (aK its))), some (.int (nI (j + 1)))] [] h := by
  have e1 : ¬ (7 : Int32) ≤ nI j := nI_ge (b := 7) (by omega) (by omega)
  have z : (bdT its v = 0) = True := eq_true ((tb_o its hi v hv).mpr (by simpa using ho))
  have i1 : 1 ≤ its := by
    rcases Nat.eq_zero_or_pos its with rfl | t
    · exact absurd (tb_0 v hv) ho
    · exact t
  conv => lhs; rw [pb_X4_sound_1]
  simp only [c20, c2i, c2n, c2r, cs8_0, cs8_1, cs8_2, cs8_3, cs8_4, decide_eq_true_eq, ev_ald0, ev_aldn0, ev_bin, ev_cs1, ev_cs2, ev_cv0, ev_cv1, ev_cv4, ev_gi, ev_go, ev_gr, ev_i, ev_if0, ev_if2, ev_ild1, ev_ild2, ev_ild3, ev_ild4, ev_ild5, ev_ild6, ev_inc6, ev_ist5, ev_ist6, ev_pop_i, ev_pop_r, ev_ri, i00, i01, i10, is_sw, not_false_eq_true, not_true_eq_false, pm_bd_s, pm_tl_n, pm_tl_s, ↓reduceIte, e1, sp_bodyOf hi hv, z, sp_above, (tb_a its hi i1).1, nI_1, not_true_eq_false, if_true, if_false]
theorem snd_f {F v : Nat} {x dp : Int32} (hF : F < 7) (hv : v < 4) : ∃ q, pm_ev P_X4_sound (rs fb (d + 2)) (P_X4_sound 1) [some (.ref 19), some (.int (nI v)), some (.int (nI F)), some (.int x), some (.int dp), some (.int (nI F)), some (.int 0)] [] h = pm_ev P_X4_sound (rs fb (d + 2)) (P_X4_sound 2) [some (.ref 19), some (.int (nI v)), some (.int (nI F)), some (.int x), some (.int dp), some (.int (nI (oK F v))), some (.int q)] [] h := by
  rw [← nI_0]
  obtain ⟨b1, b2⟩ := tb_b F hF
  unfold oK
  by_cases q : oB F v = true
  · rw [if_pos q]
    exact ⟨_, snd_s0 (q := 0) hF hv (by omega) q⟩
  · rw [if_neg q, snd_s1 hF hv (by omega) q]
    by_cases q2 : oB (aK F) v = true
    · rw [if_pos q2]
      exact ⟨_, snd_s0 (q := 0) b1 hv (by omega) q2⟩
    · rw [if_neg q2, snd_s1 b1 hv (by omega) q2, b2]
      exact ⟨_, snd_s0 (q := 0) (by omega) hv (by omega) (tb_0 v hv)⟩
theorem bf_s0 {its v : Nat} {F x : Int32} (hi : its < 7) (hv : v < 4) (ho : oB its v = true) : pm_ev P_X9_bodyFrom (rs fb (d + 2)) (P_X9_bodyFrom 1) [some (.ref 59), some (.int F), some (.int (nI v)), some (.int x), some (.int (nI its))] [] h = pm_ev P_X9_bodyFrom (rs fb (d + 2)) (P_X9_bodyFrom 2) [some (.ref 59), some (.int F), some (.int (nI v)), some (.int x), some (.int (nI its))] [] h := by
  have z10 : ((1 : Int32) = 0) = False := by decide
  rw [pb_X9_bodyFrom_1]
  simp only [c20, c2i, c2n, c2r, cs8_0, cs8_1, cs8_2, cs8_3, cs8_4, decide_eq_true_eq, ev_ald0, ev_aldn0, ev_cs1, ev_cs2, ev_cv3, ev_gi, ev_go, ev_i, ev_if0, ev_ild1, ev_ild2, ev_ild3, ev_ild4, ev_ist4, ev_ri, i00, i01, i10, not_false_eq_true, not_true_eq_false, pm_bd_s, pm_tl_n, pm_tl_s, ↓reduceIte, sr_hasOwn hi hv, ho, z10, not_false_eq_true, if_true, if_false]
theorem bf_s1 {its v : Nat} {F x : Int32} (hi : its < 7) (hv : v < 4) (ho : ¬ oB its v = true) : pm_ev P_X9_bodyFrom (rs fb (d + 2)) (P_X9_bodyFrom 1) [some (.ref 59), some (.int F), some (.int (nI v)), some (.int x), some (.int (nI its))] [] h = pm_ev P_X9_bodyFrom (rs fb (d + 2)) (P_X9_bodyFrom 1) [some (.ref 59), some (.int F), some (.int (nI v)), some (.int x), some (.int (nI (aK its)))] [] h := by
  have i1 : 1 ≤ its := by
    rcases Nat.eq_zero_or_pos its with rfl | t
    · exact absurd (tb_0 v hv) ho
    · exact t
  have ab := sr_above (fb := fb) (d := d + 1) (h := h) (k := nI its)
  rw [(tb_a its hi i1).2] at ab
  conv => lhs; rw [pb_X9_bodyFrom_1]
  simp only [c20, c2i, c2n, c2r, cs8_0, cs8_1, cs8_2, cs8_3, cs8_4, decide_eq_true_eq, ev_ald0, ev_aldn0, ev_cs1, ev_cs2, ev_cv3, ev_gi, ev_go, ev_i, ev_if0, ev_ild1, ev_ild2, ev_ild3, ev_ild4, ev_ist4, ev_ri, i00, i01, i10, not_false_eq_true, not_true_eq_false, pm_bd_s, pm_tl_n, pm_tl_s, ↓reduceIte, sr_hasOwn hi hv, ho, ab, Bool.false_eq_true, not_true_eq_false, if_true, if_false]
theorem bf_f {F v : Nat} {x : Int32} (hF : F < 7) (hv : v < 4) : pm_ev P_X9_bodyFrom (rs fb (d + 2)) (P_X9_bodyFrom 1) [some (.ref 59), some (.int (nI F)), some (.int (nI v)), some (.int x), some (.int (nI F))] [] h = pm_ev P_X9_bodyFrom (rs fb (d + 2)) (P_X9_bodyFrom 2) [some (.ref 59), some (.int (nI F)), some (.int (nI v)), some (.int x), some (.int (nI (oK F v)))] [] h := by
  obtain ⟨b1, b2⟩ := tb_b F hF
  unfold oK
  by_cases q : oB F v = true
  · rw [if_pos q]
    exact bf_s0 hF hv q
  · rw [if_neg q, bf_s1 hF hv q]
    by_cases q2 : oB (aK F) v = true
    · rw [if_pos q2]
      exact bf_s0 b1 hv q2
    · rw [if_neg q2, bf_s1 b1 hv q2, b2]
      exact bf_s0 (by omega) hv (tb_0 v hv)
theorem full_22 {u : Nat} (hu : h.1 22 3 = nI u) (hu2 : u ≤ 30) : rs fb (d + 1) n_X6_isFull [.ref 22] h = some (some (.int (bI (u = 30))), h) := by
  have e := sp_isFull (fb := fb) (d := d) (t := 22) (by decide) hu (by rw [tR_22]; exact hu2)
  rw [tR_22] at e
  exact e
theorem add_22 {u : Nat} {v : Int32} (hu : h.1 22 3 = nI u) (hu2 : u < 30) : rs fb (d + 3) n_X6_add [.ref 22, .int v] h = some (some (.int (nI u)), pm_si (pm_si h 22 3 (nI (u + 1))) 47 u v) := sp_add (t := 22) (by decide) hu (by rw [tR_22]; exact hu2)
/-- a body begins -/
theorem bg {hc hr : pm_HP} {k v : Nat} (V : VR hc hr) (hk : k < 7) (hv : v < 4) : ∃ hc1 hr1, (∀ D, rs fb (D + 1) n_X9_began [.ref 59, .int (bdT k v)] hr = some (none, hr1)) ∧ VR hc1 hr1 ∧ FC hc hc1 ∧ FR hr hr1 ∧ hr1.1 59 22 = hr.1 59 22 ∧ ∀ D F x dp q, pm_ev P_X4_sound (rs fb (D + 3)) (P_X4_sound 4) [some (.ref 19), some (.int (nI v)), some (.int F), some (.int x), some (.int dp), some (.int (nI k)), some (.int q)] [] hc = pm_ev P_X4_sound (rs fb (D + 3)) (P_X4_sound 5) [some (.ref 19), some (.int (nI v)), some (.int F), some (.int x), some (.int dp), some (.int (nI k)), some (.int q)] [] hc1 := by
  obtain ⟨t, t1, t2, t3, t4, t5, t6⟩ := V
  by_cases q : t = 30
  · subst q
    have e1 : (30 : Int32) ≤ nI 30 := Int32.le_refl _
    refine ⟨hc, hr, fun D => ?_, ⟨30, t1, t2, t3, t4, t5, t6⟩, fun _ _ _ _ _ => rfl, fun _ _ _ _ => rfl, rfl, fun D F x dp q => ?_⟩
    · rw [en_X9_began]
      simp only [decide_eq_true_eq, ev_ald0, ev_aldn0, ev_bin, ev_dup_i, ev_dup_r, ev_gi, ev_go, ev_gr, ev_i, ev_ias, ev_if2, ev_ild1, ev_pi, ev_rv, i00, i01, i10, not_false_eq_true, not_true_eq_false, ↓reduceIte, pb_X9_began_0, pb_X9_began_1, kd_59, rf_59_0, rf_59_1, rf_59_3, rf_59_4, rf_59_5, rf_59_6, rf_59_7, rf_59_12, rf_59_14, rf_59_15, rf_59_16, rf_59_19, rf_59_23, rf_59_24, rf_59_25, rf_59_26, is_9_59, t3, e1, if_true]
    · have z : (30 = 30) = True := eq_true rfl
      rw [pb_X4_sound_4]
      simp only [c20, c2i, c2n, c2r, cs8_0, cs8_1, cs8_2, cs8_3, cs8_4, decide_eq_true_eq, ev_ald0, ev_aldn0, ev_bin, ev_cs1, ev_cs2, ev_cv0, ev_cv1, ev_cv4, ev_gi, ev_go, ev_gr, ev_i, ev_if0, ev_if2, ev_ild1, ev_ild2, ev_ild3, ev_ild4, ev_ild5, ev_ild6, ev_inc6, ev_ist5, ev_ist6, ev_pop_i, ev_pop_r, ev_ri, i00, i01, i10, is_sw, not_false_eq_true, not_true_eq_false, pm_bd_s, pm_tl_n, pm_tl_s, ↓reduceIte, kd_19, rf_19_0, is_4_19, kd_22, rf_22_2, fc_22_0, fc_22_1, is_6_3_22, is_3_6_22, full_22 t2 t1, bI_0, z, not_true_eq_false, not_false_eq_true, if_true, if_false]
  · have e1 : ¬ (30 : Int32) ≤ nI t := nI_ge (b := 30) (by omega) (by omega)
    have x1 : pm_ix (nI t) 30 = true := pm_ix_n (by omega) (by omega)
    have c1 := nI_clamp (show t < 2 ^ 31 by omega)
    have h20 : (pm_si hr 71 t (bdT k v)).1 59 20 = nI t := (si_ne _ _ (by omega)).trans t3
    refine ⟨pm_si (pm_si hc 22 3 (nI (t + 1))) 47 t (bdT k v), pm_si (pm_si hr 71 t (bdT k v)) 59 20 (nI (t + 1)), fun D => ?_, ⟨t + 1, by omega, ?_, ?_, ?_, ?_, ?_⟩, ?_, ?_, ?_, fun D F x dp q' => ?_⟩
    · rw [en_X9_began]
      simp only [decide_eq_true_eq, ev_ald0, ev_aldn0, ev_bin, ev_dup_i, ev_dup_r, ev_gi, ev_go, ev_gr, ev_i, ev_ias, ev_if2, ev_ild1, ev_pi, ev_rv, i00, i01, i10, not_false_eq_true, not_true_eq_false, ↓reduceIte, pb_X9_began_0, pb_X9_began_1, kd_59, rf_59_0, rf_59_1, rf_59_3, rf_59_4, rf_59_5, rf_59_6, rf_59_7, rf_59_12, rf_59_14, rf_59_15, rf_59_16, rf_59_19, rf_59_23, rf_59_24, rf_59_25, rf_59_26, is_9_59, kd_71, al_71, t3, h20, e1, x1, c1, nI_1, if_true, if_false]
    · rw [si_ne _ _ (by omega), si_same]
    · rw [si_same]
    · intro i hi
      by_cases c : i = t
      · subst c
        rw [si_same, si_ne (a := 59) _ _ (by omega), si_same]
      · rw [si_ne (a := 47) _ _ (by omega), si_ne (a := 22) _ _ (by omega), si_ne (a := 59) _ _ (by omega), si_ne (a := 71) _ _ (by omega)]
        exact t4 i (by omega)
    · rw [si_ne _ _ (by omega), si_ne _ _ (by omega), si_ne _ _ (by omega), si_ne _ _ (by omega)]
      exact t5
    · rw [si_ne _ _ (by omega), si_ne _ _ (by omega)]
      exact t6
    · intro a b n1 n2 n3
      rw [si_ne _ _ (by omega), si_ne _ _ (by omega)]
    · intro a b n1 n2
      rw [si_ne _ _ (by omega), si_ne _ _ (by omega)]
    · rw [si_ne _ _ (by omega), si_ne _ _ (by omega)]
    · have z : (t = 30) = False := eq_false q
      rw [pb_X4_sound_4]
      simp only [c20, c2i, c2n, c2r, cs8_0, cs8_1, cs8_2, cs8_3, cs8_4, decide_eq_true_eq, ev_ald0, ev_aldn0, ev_bin, ev_cs1, ev_cs2, ev_cv0, ev_cv1, ev_cv4, ev_gi, ev_go, ev_gr, ev_i, ev_if0, ev_if2, ev_ild1, ev_ild2, ev_ild3, ev_ild4, ev_ild5, ev_ild6, ev_inc6, ev_ist5, ev_ist6, ev_pop_i, ev_pop_r, ev_ri, i00, i01, i10, is_sw, not_false_eq_true, not_true_eq_false, pm_bd_s, pm_tl_n, pm_tl_s, ↓reduceIte, kd_19, rf_19_0, is_4_19, kd_22, rf_22_2, fc_22_0, fc_22_1, is_6_3_22, is_3_6_22, full_22 t2 t1, bI_0, z, not_true_eq_false, not_false_eq_true, if_true, if_false, sp_bodyOf hk hv, add_22 t2 (show t < 30 by omega)]
def Jv (fb : Bool) (K s : Nat) (m : Int32) (f : Nat) : Prop := ∀ (F v : Nat) (x : Int32) (deep dc dr : Nat) (hc hr : pm_HP), F < 7 → v < 4 → dpV f K F v = true → deep + f ≤ 40 → VC K s m hc → VD K s m hr → VR hc hr → ∃ y hc' hr', rs fb (dc + 2 * f + 6) n_X4_sound [.ref 19, .int (nI v), .int (nI F), .int x, .int (nI deep)] hc = some (some (.int y), hc') ∧ rs fb (dr + 3 * f + 6) n_X9_bodyFrom [.ref 59, .int (nI F), .int (nI v), .int x] hr = some (some (.int y), hr') ∧ FC hc hc' ∧ FR hr hr' ∧ VR hc' hr'
theorem sr_voiced {K s : Nat} {m : Int32} {D : Nat} {v x : Int32} {R : Option pm_RV} {y : Int32} {h' : pm_HP} (vd : VD K s m h) (W : rs fb (D + 1) n_X9_bodyFrom [.ref 59, .int (nI K), .int v, .int x] h = some (some (.int y), h')) : rs fb (D + 2) n_X9_voiced [.ref 59, .int v, .int x] h = some (some (.int y), h') := by
  rw [en_X9_voiced]
  simp only [cs8_0, cs8_1, cs8_2, cs8_3, cs8_4, ev_ald0, ev_aldn0, ev_cv2, ev_cv3, ev_gi, ev_i, ev_ild1, ev_ild2, ev_ri, pm_bd_s, pm_tl_n, pm_tl_s, pb_X9_voiced_0, kd_59, rf_59_0, rf_59_1, rf_59_3, rf_59_4, rf_59_5, rf_59_6, rf_59_7, rf_59_12, rf_59_14, rf_59_15, rf_59_16, rf_59_19, rf_59_23, rf_59_24, rf_59_25, rf_59_26, is_9_59, vd.1, rl_0 vd.2.2.2, vd.2.1, W]
/-- the bodies worked out, on both sides -/
theorem wb {K s f k v deep dc dr : Nat} {m x : Int32} {hc1 hr0 hr1 : pm_HP} (hK : K < 7) (J : Jv fb K s m f) (hk : k < 7) (hv : v < 4) (ho : oB k v = true) (hd : dpW (dpV f K) K k v = true) (hde : deep + 1 + f ≤ 40) (vc : VC K s m hc1) (vd0 : VD K s m hr0) (vd : VD K s m hr1) (V : VR hc1 hr1) (hp : hr1.1 59 22 = 0) (rb : ∀ D, rs fb (D + 1) n_X9_began [.ref 59, .int (bdT k v)] hr0 = some (none, hr1)) : ∃ y hc2 hr2, rs fb (dc + 2 * f + 7) n_X4_workedOut [.ref 19, .int (bdT k v), .int (abF (nI k)), .int x, .int (nI (deep + 1))] hc1 = some (some (.int y), hc2) ∧ rs fb (dr + 3 * f + 8) n_X9_body [.ref 59, .int (nI k), .int (nI v), .int x] hr0 = some (some (.int y), hr2) ∧ FC hc1 hc2 ∧ FR hr1 hr2 ∧ VR hc2 hr2 := by
  have hs := vd.2.2.2
  have z2 : ((2 : Int32) = 0) = False := by decide
  rcases (show k = 0 ∨ k = 1 ∨ k = 2 ∨ k = 3 ∨ k = 4 ∨ k = 5 ∨ k = 6 by omega) with rfl | rfl | rfl | rfl | rfl | rfl | rfl
  · rcases (show v = 0 ∨ v = 1 ∨ v = 2 ∨ v = 3 by omega) with rfl | rfl | rfl | rfl
    · have eb : bdT 0 0 = 10 := by decide +kernel
      have ea : abF (nI 0) = -1 := by decide +kernel
      have e4 : (4 : Int32) * 0 + 0 = 0 := by decide
      rw [eb] at rb ⊢
      rw [ea]
      refine ⟨x + nI s, hc1, hr1, ?_, ?_, fun _ _ _ _ _ => rfl, fun _ _ _ _ => rfl, V⟩
      · rw [en_X4_workedOut]
        simp only [cs8_0, cs8_1, cs8_2, cs8_3, cs8_4, ev_ald0, ev_aldn0, ev_bin, ev_cv1, ev_cv4, ev_dv, ev_gi, ev_i, ev_ild1, ev_ild2, ev_ild3, ev_ild4, ev_ri, ev_sw_0, ev_sw_1, pm_bd_s, pm_tl_n, pm_tl_s, pb_X4_workedOut_0, pb_X4_workedOut_1, kd_19, rf_19_0, is_4_19, nI_0, n1, n2, n3, n4, n5, n6, vc.1, vc.2.1, vc.2.2, if_true, if_false]
      · rw [en_X9_body]
        simp only [c20, c2i, c2n, c2r, cs8_0, cs8_1, cs8_2, cs8_3, cs8_4, decide_eq_true_eq, ev_ald0, ev_aldn0, ev_bin, ev_cv1, ev_cv2, ev_cv3, ev_dv, ev_gi, ev_go, ev_i, ev_if0, ev_if2, ev_ild1, ev_ild2, ev_ild3, ev_ild4, ev_ild5, ev_ist4, ev_ist5, ev_pz, ev_ri, ev_sw_0, ev_sw_1, ev_un, i00, i01, i10, not_false_eq_true, not_true_eq_false, pm_bd_s, pm_tl_n, pm_tl_s, ↓reduceIte, pb_X9_body_0, pb_X9_body_1, kd_59, rf_59_0, rf_59_1, rf_59_3, rf_59_4, rf_59_5, rf_59_6, rf_59_7, rf_59_12, rf_59_14, rf_59_15, rf_59_16, rf_59_19, rf_59_23, rf_59_24, rf_59_25, rf_59_26, is_9_59, nI_0, n1, n2, n3, n4, n5, n6, vd0.1, rl_3 hs, vd0.2.2.1, e4, rb, vd.1, if_true, if_false]
    · have eb : bdT 0 1 = 11 := by decide +kernel
      have ea : abF (nI 0) = -1 := by decide +kernel
      have e4 : (4 : Int32) * 0 + 1 = 1 := by decide
      have fw : ((11 : Int32) = 10) = False := by decide
      have fr : ((1 : Int32) = 0) = False := by decide
      rw [eb] at rb ⊢
      rw [ea]
      have hda : dpV f K K 0 = true := by simpa [dpW] using hd
      obtain ⟨y1, hc2, hr2, a1, b1, fc1, fr1, V2⟩ := J K 0 (x) (deep + 1) dc dr hc1 hr1 hK (by omega) hda (by omega) vc vd V
      have b1 := sr_voiced (R := none) vd b1
      simp only [nI_0, n1, n2, n3, n4, n5, n6] at a1 b1
      refine ⟨y1 * 2, hc2, hr2, ?_, ?_, fc1, fr1, V2⟩
      · have w1 := (VC_t vc fc1)
        rw [en_X4_workedOut]
        simp only [cs8_0, cs8_1, cs8_2, cs8_3, cs8_4, ev_ald0, ev_aldn0, ev_bin, ev_cv1, ev_cv4, ev_dv, ev_gi, ev_i, ev_ild1, ev_ild2, ev_ild3, ev_ild4, ev_ri, ev_sw_0, ev_sw_1, pm_bd_s, pm_tl_n, pm_tl_s, pb_X4_workedOut_0, pb_X4_workedOut_2, kd_19, rf_19_0, is_4_19, fw, nI_0, n1, n2, n3, n4, n5, n6, vc.1, vc.2.1, vc.2.2, w1.1, w1.2.1, w1.2.2, z2, a1, if_true, if_false]
      · have w1 := VD_t vd fr1
        rw [en_X9_body]
        simp only [c20, c2i, c2n, c2r, cs8_0, cs8_1, cs8_2, cs8_3, cs8_4, decide_eq_true_eq, ev_ald0, ev_aldn0, ev_bin, ev_cv1, ev_cv2, ev_cv3, ev_dv, ev_gi, ev_go, ev_i, ev_if0, ev_if2, ev_ild1, ev_ild2, ev_ild3, ev_ild4, ev_ild5, ev_ist4, ev_ist5, ev_pz, ev_ri, ev_sw_0, ev_sw_1, ev_un, i00, i01, i10, not_false_eq_true, not_true_eq_false, pm_bd_s, pm_tl_n, pm_tl_s, ↓reduceIte, pb_X9_body_0, pb_X9_body_2, kd_59, rf_59_0, rf_59_1, rf_59_3, rf_59_4, rf_59_5, rf_59_6, rf_59_7, rf_59_12, rf_59_14, rf_59_15, rf_59_16, rf_59_19, rf_59_23, rf_59_24, rf_59_25, rf_59_26, is_9_59, fr, nI_0, n1, n2, n3, n4, n5, n6, vd0.1, rl_3 hs, vd0.2.2.1, e4, rb, vd.1, w1.1, z2, b1, if_true, if_false]
    · have eb : bdT 0 2 = 12 := by decide +kernel
      have ea : abF (nI 0) = -1 := by decide +kernel
      have e4 : (4 : Int32) * 0 + 2 = 2 := by decide
      have fw : ((12 : Int32) = 10) = False ∧ ((12 : Int32) = 11) = False := by decide
      have fr : ((2 : Int32) = 0) = False ∧ ((2 : Int32) = 1) = False := by decide
      rw [eb] at rb ⊢
      rw [ea]
      have hda : dpV f K K 1 = true := by simpa [dpW] using hd
      obtain ⟨y1, hc2, hr2, a1, b1, fc1, fr1, V2⟩ := J K 1 (x) (deep + 1) dc dr hc1 hr1 hK (by omega) hda (by omega) vc vd V
      have b1 := sr_voiced (R := none) vd b1
      simp only [nI_0, n1, n2, n3, n4, n5, n6] at a1 b1
      refine ⟨y1 - m, hc2, hr2, ?_, ?_, fc1, fr1, V2⟩
      · have w1 := (VC_t vc fc1)
        rw [en_X4_workedOut]
        simp only [cs8_0, cs8_1, cs8_2, cs8_3, cs8_4, ev_ald0, ev_aldn0, ev_bin, ev_cv1, ev_cv4, ev_dv, ev_gi, ev_i, ev_ild1, ev_ild2, ev_ild3, ev_ild4, ev_ri, ev_sw_0, ev_sw_1, pm_bd_s, pm_tl_n, pm_tl_s, pb_X4_workedOut_0, pb_X4_workedOut_3, kd_19, rf_19_0, is_4_19, fw, nI_0, n1, n2, n3, n4, n5, n6, vc.1, vc.2.1, vc.2.2, w1.1, w1.2.1, w1.2.2, z2, a1, if_true, if_false]
      · have w1 := VD_t vd fr1
        rw [en_X9_body]
        simp only [c20, c2i, c2n, c2r, cs8_0, cs8_1, cs8_2, cs8_3, cs8_4, decide_eq_true_eq, ev_ald0, ev_aldn0, ev_bin, ev_cv1, ev_cv2, ev_cv3, ev_dv, ev_gi, ev_go, ev_i, ev_if0, ev_if2, ev_ild1, ev_ild2, ev_ild3, ev_ild4, ev_ild5, ev_ist4, ev_ist5, ev_pz, ev_ri, ev_sw_0, ev_sw_1, ev_un, i00, i01, i10, not_false_eq_true, not_true_eq_false, pm_bd_s, pm_tl_n, pm_tl_s, ↓reduceIte, pb_X9_body_0, pb_X9_body_3, kd_59, rf_59_0, rf_59_1, rf_59_3, rf_59_4, rf_59_5, rf_59_6, rf_59_7, rf_59_12, rf_59_14, rf_59_15, rf_59_16, rf_59_19, rf_59_23, rf_59_24, rf_59_25, rf_59_26, is_9_59, fr, nI_0, n1, n2, n3, n4, n5, n6, vd0.1, rl_3 hs, vd0.2.2.1, e4, rb, vd.1, w1.1, z2, b1, if_true, if_false]
    · have eb : bdT 0 3 = 13 := by decide +kernel
      have ea : abF (nI 0) = -1 := by decide +kernel
      have e4 : (4 : Int32) * 0 + 3 = 3 := by decide
      have fw : ((13 : Int32) = 10) = False ∧ ((13 : Int32) = 11) = False ∧ ((13 : Int32) = 12) = False := by decide
      have fr : ((3 : Int32) = 0) = False ∧ ((3 : Int32) = 1) = False ∧ ((3 : Int32) = 2) = False := by decide
      rw [eb] at rb ⊢
      rw [ea]
      by_cases q : m = nI s
      · have q0 : m - nI s = 0 := by rw [q, Int32.sub_self]
        refine ⟨0, pm_si hc1 19 4 1, pm_si hr1 59 22 1, ?_, ?_, ?_, ?_, ?_⟩
        · have md : ∀ D, rs fb (D + 1) n_X4_mended [.ref 19, .int x] hc1 = some (some (.int 0), pm_si hc1 19 4 1) := by
            intro D
            rw [en_X4_mended]
            simp only [c20, c2i, c2n, c2r, decide_eq_true_eq, ev_ald0, ev_aldn0, ev_bin, ev_dv, ev_gi, ev_i, ev_if0, ev_ild1, ev_ild2, ev_ist2, ev_pz, ev_ri, i00, i01, i10, not_false_eq_true, not_true_eq_false, ↓reduceIte, pb_X4_mended_0, pb_X4_mended_1, kd_19, rf_19_0, is_4_19, nl_0_1, nl_0_2, nl_0_3, nl_0_4, nl_0_5, nl_0_6, nl_0_7, nl_0_8, nl_1_0, nl_1_2, nl_1_3, nl_1_4, nl_1_5, nl_1_6, nl_1_7, nl_1_8, nl_2_0, nl_2_1, nl_2_3, nl_2_4, nl_2_5, nl_2_6, nl_2_7, nl_2_8, nl_3_0, nl_3_1, nl_3_2, nl_3_4, nl_3_5, nl_3_6, nl_3_7, nl_3_8, nl_4_0, nl_4_1, nl_4_2, nl_4_3, nl_4_5, nl_4_6, nl_4_7, nl_4_8, nl_5_0, nl_5_1, nl_5_2, nl_5_3, nl_5_4, nl_5_6, nl_5_7, nl_5_8, nl_6_0, nl_6_1, nl_6_2, nl_6_3, nl_6_4, nl_6_5, nl_6_7, nl_6_8, nl_7_0, nl_7_1, nl_7_2, nl_7_3, nl_7_4, nl_7_5, nl_7_6, nl_7_8, nl_8_0, nl_8_1, nl_8_2, nl_8_3, nl_8_4, nl_8_5, nl_8_6, nl_8_7, vc.2.1, vc.2.2, q0, not_true_eq_false, or_true, if_true, if_false]
          rw [en_X4_workedOut]
          simp only [cs8_0, cs8_1, cs8_2, cs8_3, cs8_4, ev_ald0, ev_aldn0, ev_bin, ev_cv1, ev_cv4, ev_dv, ev_gi, ev_i, ev_ild1, ev_ild2, ev_ild3, ev_ild4, ev_ri, ev_sw_0, ev_sw_1, pm_bd_s, pm_tl_n, pm_tl_s, pb_X4_workedOut_0, pb_X4_workedOut_4, kd_19, rf_19_0, is_4_19, fw, nI_0, n1, n2, n3, n4, n5, n6, vc.1, vc.2.1, vc.2.2, md, if_true, if_false]
        · rw [en_X9_body]
          simp only [c20, c2i, c2n, c2r, cs8_0, cs8_1, cs8_2, cs8_3, cs8_4, decide_eq_true_eq, ev_ald0, ev_aldn0, ev_bin, ev_cv1, ev_cv2, ev_cv3, ev_dv, ev_gi, ev_go, ev_i, ev_if0, ev_if2, ev_ild1, ev_ild2, ev_ild3, ev_ild4, ev_ild5, ev_ist4, ev_ist5, ev_pz, ev_ri, ev_sw_0, ev_sw_1, ev_un, i00, i01, i10, not_false_eq_true, not_true_eq_false, pm_bd_s, pm_tl_n, pm_tl_s, ↓reduceIte, pb_X9_body_0, pb_X9_body_4, pb_X9_body_5, pb_X9_body_6, pb_X9_body_7, pb_X9_body_8, kd_59, rf_59_0, rf_59_1, rf_59_3, rf_59_4, rf_59_5, rf_59_6, rf_59_7, rf_59_12, rf_59_14, rf_59_15, rf_59_16, rf_59_19, rf_59_23, rf_59_24, rf_59_25, rf_59_26, is_9_59, nl_0_1, nl_0_2, nl_0_3, nl_0_4, nl_0_5, nl_0_6, nl_0_7, nl_0_8, nl_1_0, nl_1_2, nl_1_3, nl_1_4, nl_1_5, nl_1_6, nl_1_7, nl_1_8, nl_2_0, nl_2_1, nl_2_3, nl_2_4, nl_2_5, nl_2_6, nl_2_7, nl_2_8, nl_3_0, nl_3_1, nl_3_2, nl_3_4, nl_3_5, nl_3_6, nl_3_7, nl_3_8, nl_4_0, nl_4_1, nl_4_2, nl_4_3, nl_4_5, nl_4_6, nl_4_7, nl_4_8, nl_5_0, nl_5_1, nl_5_2, nl_5_3, nl_5_4, nl_5_6, nl_5_7, nl_5_8, nl_6_0, nl_6_1, nl_6_2, nl_6_3, nl_6_4, nl_6_5, nl_6_7, nl_6_8, nl_7_0, nl_7_1, nl_7_2, nl_7_3, nl_7_4, nl_7_5, nl_7_6, nl_7_8, nl_8_0, nl_8_1, nl_8_2, nl_8_3, nl_8_4, nl_8_5, nl_8_6, nl_8_7, fr, nI_0, n1, n2, n3, n4, n5, n6, vd0.1, rl_3 hs, vd0.2.2.1, e4, rb, vd.1, q, si_same, not_true_eq_false, not_false_eq_true, or_true, if_true, if_false]
        · intro a b h1 h2 h3
          rw [si_ne _ _ (by omega)]
        · intro a b h1 h2
          rw [si_ne _ _ (by omega)]
        · obtain ⟨t, t1, t2, t3, t4, t5, t6⟩ := V
          refine ⟨t, t1, by rw [si_ne _ _ (by omega)]; exact t2, by rw [si_ne _ _ (by omega)]; exact t3, fun i hi => by rw [si_ne _ _ (by omega), si_ne _ _ (by omega)]; exact t4 i hi, by rw [si_same, si_same], Or.inr (si_same _ _ _ _)⟩
      · have q0 : ¬ m - nI s = 0 := fun e => q (by
          have t := Int32.sub_add_cancel m (nI s)
          rw [e, Int32.zero_add] at t
          exact t.symm)
        refine ⟨x / (m - nI s), hc1, pm_si hr1 59 22 0, ?_, ?_, fun _ _ _ _ _ => rfl, ?_, ?_⟩
        · have md : ∀ D, rs fb (D + 1) n_X4_mended [.ref 19, .int x] hc1 = some (some (.int (x / (m - nI s))), hc1) := by
            intro D
            rw [en_X4_mended]
            simp only [c20, c2i, c2n, c2r, decide_eq_true_eq, ev_ald0, ev_aldn0, ev_bin, ev_dv, ev_gi, ev_i, ev_if0, ev_ild1, ev_ild2, ev_ist2, ev_pz, ev_ri, i00, i01, i10, not_false_eq_true, not_true_eq_false, ↓reduceIte, pb_X4_mended_0, pb_X4_mended_1, kd_19, rf_19_0, is_4_19, vc.2.1, vc.2.2, q0, not_true_eq_false, not_false_eq_true, if_true, if_false]
          rw [en_X4_workedOut]
          simp only [cs8_0, cs8_1, cs8_2, cs8_3, cs8_4, ev_ald0, ev_aldn0, ev_bin, ev_cv1, ev_cv4, ev_dv, ev_gi, ev_i, ev_ild1, ev_ild2, ev_ild3, ev_ild4, ev_ri, ev_sw_0, ev_sw_1, pm_bd_s, pm_tl_n, pm_tl_s, pb_X4_workedOut_0, pb_X4_workedOut_4, kd_19, rf_19_0, is_4_19, fw, nI_0, n1, n2, n3, n4, n5, n6, vc.1, vc.2.1, vc.2.2, md, if_true, if_false]
        · rw [en_X9_body]
          simp only [c20, c2i, c2n, c2r, cs8_0, cs8_1, cs8_2, cs8_3, cs8_4, decide_eq_true_eq, ev_ald0, ev_aldn0, ev_bin, ev_cv1, ev_cv2, ev_cv3, ev_dv, ev_gi, ev_go, ev_i, ev_if0, ev_if2, ev_ild1, ev_ild2, ev_ild3, ev_ild4, ev_ild5, ev_ist4, ev_ist5, ev_pz, ev_ri, ev_sw_0, ev_sw_1, ev_un, i00, i01, i10, not_false_eq_true, not_true_eq_false, pm_bd_s, pm_tl_n, pm_tl_s, ↓reduceIte, pb_X9_body_0, pb_X9_body_4, pb_X9_body_5, pb_X9_body_6, pb_X9_body_7, pb_X9_body_8, kd_59, rf_59_0, rf_59_1, rf_59_3, rf_59_4, rf_59_5, rf_59_6, rf_59_7, rf_59_12, rf_59_14, rf_59_15, rf_59_16, rf_59_19, rf_59_23, rf_59_24, rf_59_25, rf_59_26, is_9_59, nl_0_1, nl_0_2, nl_0_3, nl_0_4, nl_0_5, nl_0_6, nl_0_7, nl_0_8, nl_1_0, nl_1_2, nl_1_3, nl_1_4, nl_1_5, nl_1_6, nl_1_7, nl_1_8, nl_2_0, nl_2_1, nl_2_3, nl_2_4, nl_2_5, nl_2_6, nl_2_7, nl_2_8, nl_3_0, nl_3_1, nl_3_2, nl_3_4, nl_3_5, nl_3_6, nl_3_7, nl_3_8, nl_4_0, nl_4_1, nl_4_2, nl_4_3, nl_4_5, nl_4_6, nl_4_7, nl_4_8, nl_5_0, nl_5_1, nl_5_2, nl_5_3, nl_5_4, nl_5_6, nl_5_7, nl_5_8, nl_6_0, nl_6_1, nl_6_2, nl_6_3, nl_6_4, nl_6_5, nl_6_7, nl_6_8, nl_7_0, nl_7_1, nl_7_2, nl_7_3, nl_7_4, nl_7_5, nl_7_6, nl_7_8, nl_8_0, nl_8_1, nl_8_2, nl_8_3, nl_8_4, nl_8_5, nl_8_6, nl_8_7, fr, nI_0, n1, n2, n3, n4, n5, n6, vd0.1, rl_3 hs, vd0.2.2.1, e4, rb, vd.1, q, q0, si_same, si_at, Nat.reduceEqDiff, and_false, not_true_eq_false, not_false_eq_true, true_or, if_true, if_false]
        · intro a b h1 h2
          rw [si_ne _ _ (by omega)]
        · obtain ⟨t, t1, t2, t3, t4, t5, t6⟩ := V
          refine ⟨t, t1, t2, by rw [si_ne _ _ (by omega)]; exact t3, fun i hi => by rw [si_ne _ _ (by omega)]; exact t4 i hi, by rw [si_same, t5, hp], Or.inl (si_same _ _ _ _)⟩
  · rcases (show v = 0 ∨ v = 1 ∨ v = 2 ∨ v = 3 by omega) with rfl | rfl | rfl | rfl
    · have eb : bdT 1 0 = 20 := by decide +kernel
      have ea : abF (nI 1) = 0 := by decide +kernel
      have e4 : (4 : Int32) * 1 + 0 = 4 := by decide
      have fw : ((20 : Int32) = 10) = False ∧ ((20 : Int32) = 11) = False ∧ ((20 : Int32) = 12) = False ∧ ((20 : Int32) = 13) = False := by decide
      have fr : ((4 : Int32) = 0) = False ∧ ((4 : Int32) = 1) = False ∧ ((4 : Int32) = 2) = False ∧ ((4 : Int32) = 3) = False := by decide
      rw [eb] at rb ⊢
      rw [ea]
      have hda : dpV f K 0 0 = true := by simpa [dpW] using hd
      obtain ⟨y1, hc2, hr2, a1, b1, fc1, fr1, V2⟩ := J 0 0 (x) (deep + 1) dc (dr + 1) hc1 hr1 (by omega) (by omega) hda (by omega) vc vd V
      rw [show dr + 1 + 3 * f + 6 = dr + 3 * f + 7 by omega] at b1
      simp only [nI_0, n1, n2, n3, n4, n5, n6] at a1 b1
      refine ⟨y1 - 4, hc2, hr2, ?_, ?_, fc1, fr1, V2⟩
      · have w1 := (VC_t vc fc1)
        rw [en_X4_workedOut]
        simp only [cs8_0, cs8_1, cs8_2, cs8_3, cs8_4, ev_ald0, ev_aldn0, ev_bin, ev_cv1, ev_cv4, ev_dv, ev_gi, ev_i, ev_ild1, ev_ild2, ev_ild3, ev_ild4, ev_ri, ev_sw_0, ev_sw_1, pm_bd_s, pm_tl_n, pm_tl_s, pb_X4_workedOut_0, pb_X4_workedOut_5, kd_19, rf_19_0, is_4_19, fw, nI_0, n1, n2, n3, n4, n5, n6, vc.1, vc.2.1, vc.2.2, w1.1, w1.2.1, w1.2.2, z2, a1, if_true, if_false]
      · have w1 := VD_t vd fr1
        rw [en_X9_body]
        simp only [c20, c2i, c2n, c2r, cs8_0, cs8_1, cs8_2, cs8_3, cs8_4, decide_eq_true_eq, ev_ald0, ev_aldn0, ev_bin, ev_cv1, ev_cv2, ev_cv3, ev_dv, ev_gi, ev_go, ev_i, ev_if0, ev_if2, ev_ild1, ev_ild2, ev_ild3, ev_ild4, ev_ild5, ev_ist4, ev_ist5, ev_pz, ev_ri, ev_sw_0, ev_sw_1, ev_un, i00, i01, i10, not_false_eq_true, not_true_eq_false, pm_bd_s, pm_tl_n, pm_tl_s, ↓reduceIte, pb_X9_body_0, pb_X9_body_9, kd_59, rf_59_0, rf_59_1, rf_59_3, rf_59_4, rf_59_5, rf_59_6, rf_59_7, rf_59_12, rf_59_14, rf_59_15, rf_59_16, rf_59_19, rf_59_23, rf_59_24, rf_59_25, rf_59_26, is_9_59, fr, nI_0, n1, n2, n3, n4, n5, n6, vd0.1, rl_3 hs, vd0.2.2.1, e4, rb, vd.1, w1.1, z2, b1, if_true, if_false]
    · exact absurd ho (by decide)
    · exact absurd ho (by decide)
    · have eb : bdT 1 3 = 21 := by decide +kernel
      have ea : abF (nI 1) = 0 := by decide +kernel
      have e4 : (4 : Int32) * 1 + 3 = 7 := by decide
      have fw : ((21 : Int32) = 10) = False ∧ ((21 : Int32) = 11) = False ∧ ((21 : Int32) = 12) = False ∧ ((21 : Int32) = 13) = False ∧ ((21 : Int32) = 20) = False := by decide
      have fr : ((7 : Int32) = 0) = False ∧ ((7 : Int32) = 1) = False ∧ ((7 : Int32) = 2) = False ∧ ((7 : Int32) = 3) = False ∧ ((7 : Int32) = 4) = False ∧ ((7 : Int32) = 5) = False ∧ ((7 : Int32) = 6) = False := by decide
      rw [eb] at rb ⊢
      rw [ea]
      obtain ⟨hda, hdb⟩ : dpV f K 0 3 = true ∧ dpV f K K 1 = true := by simpa [dpW] using hd
      obtain ⟨y1, hc2, hr2, a1, b1, fc1, fr1, V2⟩ := J 0 3 (x) (deep + 1) dc (dr + 1) hc1 hr1 (by omega) (by omega) hda (by omega) vc vd V
      rw [show dr + 1 + 3 * f + 6 = dr + 3 * f + 7 by omega] at b1
      simp only [nI_0, n1, n2, n3, n4, n5, n6] at a1 b1
      obtain ⟨y2, hc3, hr3, a2, b2, fc2, fr2, V3⟩ := J K 1 (1) (deep + 1) dc dr hc2 hr2 hK (by omega) hdb (by omega) (VC_t vc fc1) (VD_t vd fr1) V2
      have b2 := sr_voiced (R := none) (VD_t vd fr1) b2
      simp only [nI_0, n1, n2, n3, n4, n5, n6] at a2 b2
      refine ⟨y1 + y2, hc3, hr3, ?_, ?_, (fc1.tr fc2), (fr1.tr fr2), V3⟩
      · have w1 := (VC_t vc fc1)
        rw [en_X4_workedOut]
        simp only [cs8_0, cs8_1, cs8_2, cs8_3, cs8_4, ev_ald0, ev_aldn0, ev_bin, ev_cv1, ev_cv4, ev_dv, ev_gi, ev_i, ev_ild1, ev_ild2, ev_ild3, ev_ild4, ev_ri, ev_sw_0, ev_sw_1, pm_bd_s, pm_tl_n, pm_tl_s, pb_X4_workedOut_0, pb_X4_workedOut_6, kd_19, rf_19_0, is_4_19, fw, nI_0, n1, n2, n3, n4, n5, n6, vc.1, vc.2.1, vc.2.2, w1.1, w1.2.1, w1.2.2, z2, a1, a2, if_true, if_false]
      · have w1 := VD_t vd fr1
        rw [en_X9_body]
        simp only [c20, c2i, c2n, c2r, cs8_0, cs8_1, cs8_2, cs8_3, cs8_4, decide_eq_true_eq, ev_ald0, ev_aldn0, ev_bin, ev_cv1, ev_cv2, ev_cv3, ev_dv, ev_gi, ev_go, ev_i, ev_if0, ev_if2, ev_ild1, ev_ild2, ev_ild3, ev_ild4, ev_ild5, ev_ist4, ev_ist5, ev_pz, ev_ri, ev_sw_0, ev_sw_1, ev_un, i00, i01, i10, not_false_eq_true, not_true_eq_false, pm_bd_s, pm_tl_n, pm_tl_s, ↓reduceIte, pb_X9_body_0, pb_X9_body_10, kd_59, rf_59_0, rf_59_1, rf_59_3, rf_59_4, rf_59_5, rf_59_6, rf_59_7, rf_59_12, rf_59_14, rf_59_15, rf_59_16, rf_59_19, rf_59_23, rf_59_24, rf_59_25, rf_59_26, is_9_59, fr, nI_0, n1, n2, n3, n4, n5, n6, vd0.1, rl_3 hs, vd0.2.2.1, e4, rb, vd.1, w1.1, z2, b1, b2, if_true, if_false]
  · rcases (show v = 0 ∨ v = 1 ∨ v = 2 ∨ v = 3 by omega) with rfl | rfl | rfl | rfl
    · exact absurd ho (by decide)
    · have eb : bdT 2 1 = 30 := by decide +kernel
      have ea : abF (nI 2) = 0 := by decide +kernel
      have e4 : (4 : Int32) * 2 + 1 = 9 := by decide
      have fw : ((30 : Int32) = 10) = False ∧ ((30 : Int32) = 11) = False ∧ ((30 : Int32) = 12) = False ∧ ((30 : Int32) = 13) = False ∧ ((30 : Int32) = 20) = False ∧ ((30 : Int32) = 21) = False := by decide
      have fr : ((9 : Int32) = 0) = False ∧ ((9 : Int32) = 1) = False ∧ ((9 : Int32) = 2) = False ∧ ((9 : Int32) = 3) = False ∧ ((9 : Int32) = 4) = False ∧ ((9 : Int32) = 5) = False ∧ ((9 : Int32) = 6) = False ∧ ((9 : Int32) = 7) = False ∧ ((9 : Int32) = 8) = False := by decide
      rw [eb] at rb ⊢
      rw [ea]
      have hda : dpV f K 0 1 = true := by simpa [dpW] using hd
      obtain ⟨y1, hc2, hr2, a1, b1, fc1, fr1, V2⟩ := J 0 1 (x) (deep + 1) dc (dr + 1) hc1 hr1 (by omega) (by omega) hda (by omega) vc vd V
      rw [show dr + 1 + 3 * f + 6 = dr + 3 * f + 7 by omega] at b1
      simp only [nI_0, n1, n2, n3, n4, n5, n6] at a1 b1
      refine ⟨0 - y1, hc2, hr2, ?_, ?_, fc1, fr1, V2⟩
      · have w1 := (VC_t vc fc1)
        rw [en_X4_workedOut]
        simp only [cs8_0, cs8_1, cs8_2, cs8_3, cs8_4, ev_ald0, ev_aldn0, ev_bin, ev_cv1, ev_cv4, ev_dv, ev_gi, ev_i, ev_ild1, ev_ild2, ev_ild3, ev_ild4, ev_ri, ev_sw_0, ev_sw_1, pm_bd_s, pm_tl_n, pm_tl_s, pb_X4_workedOut_0, pb_X4_workedOut_7, kd_19, rf_19_0, is_4_19, fw, nI_0, n1, n2, n3, n4, n5, n6, vc.1, vc.2.1, vc.2.2, w1.1, w1.2.1, w1.2.2, z2, a1, if_true, if_false]
      · have w1 := VD_t vd fr1
        rw [en_X9_body]
        simp only [c20, c2i, c2n, c2r, cs8_0, cs8_1, cs8_2, cs8_3, cs8_4, decide_eq_true_eq, ev_ald0, ev_aldn0, ev_bin, ev_cv1, ev_cv2, ev_cv3, ev_dv, ev_gi, ev_go, ev_i, ev_if0, ev_if2, ev_ild1, ev_ild2, ev_ild3, ev_ild4, ev_ild5, ev_ist4, ev_ist5, ev_pz, ev_ri, ev_sw_0, ev_sw_1, ev_un, i00, i01, i10, not_false_eq_true, not_true_eq_false, pm_bd_s, pm_tl_n, pm_tl_s, ↓reduceIte, pb_X9_body_0, pb_X9_body_11, kd_59, rf_59_0, rf_59_1, rf_59_3, rf_59_4, rf_59_5, rf_59_6, rf_59_7, rf_59_12, rf_59_14, rf_59_15, rf_59_16, rf_59_19, rf_59_23, rf_59_24, rf_59_25, rf_59_26, is_9_59, fr, nI_0, n1, n2, n3, n4, n5, n6, vd0.1, rl_3 hs, vd0.2.2.1, e4, rb, vd.1, w1.1, z2, b1, if_true, if_false, Int32.zero_sub]
    · exact absurd ho (by decide)
    · exact absurd ho (by decide)
  · rcases (show v = 0 ∨ v = 1 ∨ v = 2 ∨ v = 3 by omega) with rfl | rfl | rfl | rfl
    · exact absurd ho (by decide)
    · have eb : bdT 3 1 = 41 := by decide +kernel
      have ea : abF (nI 3) = 2 := by decide +kernel
      have e4 : (4 : Int32) * 3 + 1 = 13 := by decide
      have fw : ((41 : Int32) = 10) = False ∧ ((41 : Int32) = 11) = False ∧ ((41 : Int32) = 12) = False ∧ ((41 : Int32) = 13) = False ∧ ((41 : Int32) = 20) = False ∧ ((41 : Int32) = 21) = False ∧ ((41 : Int32) = 30) = False ∧ ((41 : Int32) = 40) = False := by decide
      have fr : ((13 : Int32) = 0) = False ∧ ((13 : Int32) = 1) = False ∧ ((13 : Int32) = 2) = False ∧ ((13 : Int32) = 3) = False ∧ ((13 : Int32) = 4) = False ∧ ((13 : Int32) = 5) = False ∧ ((13 : Int32) = 6) = False ∧ ((13 : Int32) = 7) = False ∧ ((13 : Int32) = 8) = False ∧ ((13 : Int32) = 9) = False ∧ ((13 : Int32) = 10) = False ∧ ((13 : Int32) = 11) = False ∧ ((13 : Int32) = 12) = False := by decide
      rw [eb] at rb ⊢
      rw [ea]
      have hda : dpV f K 2 1 = true := by simpa [dpW] using hd
      obtain ⟨y1, hc2, hr2, a1, b1, fc1, fr1, V2⟩ := J 2 1 (x) (deep + 1) dc (dr + 1) hc1 hr1 (by omega) (by omega) hda (by omega) vc vd V
      rw [show dr + 1 + 3 * f + 6 = dr + 3 * f + 7 by omega] at b1
      simp only [nI_0, n1, n2, n3, n4, n5, n6] at a1 b1
      refine ⟨y1 + nI s, hc2, hr2, ?_, ?_, fc1, fr1, V2⟩
      · have w1 := (VC_t vc fc1)
        rw [en_X4_workedOut]
        simp only [cs8_0, cs8_1, cs8_2, cs8_3, cs8_4, ev_ald0, ev_aldn0, ev_bin, ev_cv1, ev_cv4, ev_dv, ev_gi, ev_i, ev_ild1, ev_ild2, ev_ild3, ev_ild4, ev_ri, ev_sw_0, ev_sw_1, pm_bd_s, pm_tl_n, pm_tl_s, pb_X4_workedOut_0, pb_X4_workedOut_9, kd_19, rf_19_0, is_4_19, fw, nI_0, n1, n2, n3, n4, n5, n6, vc.1, vc.2.1, vc.2.2, w1.1, w1.2.1, w1.2.2, z2, a1, if_true, if_false]
      · have w1 := VD_t vd fr1
        rw [en_X9_body]
        simp only [c20, c2i, c2n, c2r, cs8_0, cs8_1, cs8_2, cs8_3, cs8_4, decide_eq_true_eq, ev_ald0, ev_aldn0, ev_bin, ev_cv1, ev_cv2, ev_cv3, ev_dv, ev_gi, ev_go, ev_i, ev_if0, ev_if2, ev_ild1, ev_ild2, ev_ild3, ev_ild4, ev_ild5, ev_ist4, ev_ist5, ev_pz, ev_ri, ev_sw_0, ev_sw_1, ev_un, i00, i01, i10, not_false_eq_true, not_true_eq_false, pm_bd_s, pm_tl_n, pm_tl_s, ↓reduceIte, pb_X9_body_0, pb_X9_body_13, kd_59, rf_59_0, rf_59_1, rf_59_3, rf_59_4, rf_59_5, rf_59_6, rf_59_7, rf_59_12, rf_59_14, rf_59_15, rf_59_16, rf_59_19, rf_59_23, rf_59_24, rf_59_25, rf_59_26, is_9_59, fr, nI_0, n1, n2, n3, n4, n5, n6, vd0.1, rl_3 hs, vd0.2.2.1, e4, rb, vd.1, w1.1, z2, b1, if_true, if_false]
    · have eb : bdT 3 2 = 40 := by decide +kernel
      have ea : abF (nI 3) = 2 := by decide +kernel
      have e4 : (4 : Int32) * 3 + 2 = 14 := by decide
      have fw : ((40 : Int32) = 10) = False ∧ ((40 : Int32) = 11) = False ∧ ((40 : Int32) = 12) = False ∧ ((40 : Int32) = 13) = False ∧ ((40 : Int32) = 20) = False ∧ ((40 : Int32) = 21) = False ∧ ((40 : Int32) = 30) = False := by decide
      have fr : ((14 : Int32) = 0) = False ∧ ((14 : Int32) = 1) = False ∧ ((14 : Int32) = 2) = False ∧ ((14 : Int32) = 3) = False ∧ ((14 : Int32) = 4) = False ∧ ((14 : Int32) = 5) = False ∧ ((14 : Int32) = 6) = False ∧ ((14 : Int32) = 7) = False ∧ ((14 : Int32) = 8) = False ∧ ((14 : Int32) = 9) = False ∧ ((14 : Int32) = 10) = False ∧ ((14 : Int32) = 11) = False ∧ ((14 : Int32) = 12) = False ∧ ((14 : Int32) = 13) = False := by decide
      rw [eb] at rb ⊢
      rw [ea]
      have hda : dpV f K 2 2 = true := by simpa [dpW] using hd
      obtain ⟨y1, hc2, hr2, a1, b1, fc1, fr1, V2⟩ := J 2 2 (x / 2) (deep + 1) dc (dr + 1) hc1 hr1 (by omega) (by omega) hda (by omega) vc vd V
      rw [show dr + 1 + 3 * f + 6 = dr + 3 * f + 7 by omega] at b1
      simp only [nI_0, n1, n2, n3, n4, n5, n6] at a1 b1
      refine ⟨y1, hc2, hr2, ?_, ?_, fc1, fr1, V2⟩
      · have w1 := (VC_t vc fc1)
        rw [en_X4_workedOut]
        simp only [cs8_0, cs8_1, cs8_2, cs8_3, cs8_4, ev_ald0, ev_aldn0, ev_bin, ev_cv1, ev_cv4, ev_dv, ev_gi, ev_i, ev_ild1, ev_ild2, ev_ild3, ev_ild4, ev_ri, ev_sw_0, ev_sw_1, pm_bd_s, pm_tl_n, pm_tl_s, pb_X4_workedOut_0, pb_X4_workedOut_8, kd_19, rf_19_0, is_4_19, fw, nI_0, n1, n2, n3, n4, n5, n6, vc.1, vc.2.1, vc.2.2, w1.1, w1.2.1, w1.2.2, z2, a1, if_true, if_false]
      · have w1 := VD_t vd fr1
        rw [en_X9_body]
        simp only [c20, c2i, c2n, c2r, cs8_0, cs8_1, cs8_2, cs8_3, cs8_4, decide_eq_true_eq, ev_ald0, ev_aldn0, ev_bin, ev_cv1, ev_cv2, ev_cv3, ev_dv, ev_gi, ev_go, ev_i, ev_if0, ev_if2, ev_ild1, ev_ild2, ev_ild3, ev_ild4, ev_ild5, ev_ist4, ev_ist5, ev_pz, ev_ri, ev_sw_0, ev_sw_1, ev_un, i00, i01, i10, not_false_eq_true, not_true_eq_false, pm_bd_s, pm_tl_n, pm_tl_s, ↓reduceIte, pb_X9_body_0, pb_X9_body_12, kd_59, rf_59_0, rf_59_1, rf_59_3, rf_59_4, rf_59_5, rf_59_6, rf_59_7, rf_59_12, rf_59_14, rf_59_15, rf_59_16, rf_59_19, rf_59_23, rf_59_24, rf_59_25, rf_59_26, is_9_59, fr, nI_0, n1, n2, n3, n4, n5, n6, vd0.1, rl_3 hs, vd0.2.2.1, e4, rb, vd.1, w1.1, z2, b1, if_true, if_false]
    · exact absurd ho (by decide)
  · rcases (show v = 0 ∨ v = 1 ∨ v = 2 ∨ v = 3 by omega) with rfl | rfl | rfl | rfl
    · have eb : bdT 4 0 = 50 := by decide +kernel
      have ea : abF (nI 4) = 1 := by decide +kernel
      have e4 : (4 : Int32) * 4 + 0 = 16 := by decide
      have fw : ((50 : Int32) = 10) = False ∧ ((50 : Int32) = 11) = False ∧ ((50 : Int32) = 12) = False ∧ ((50 : Int32) = 13) = False ∧ ((50 : Int32) = 20) = False ∧ ((50 : Int32) = 21) = False ∧ ((50 : Int32) = 30) = False ∧ ((50 : Int32) = 40) = False ∧ ((50 : Int32) = 41) = False := by decide
      have fr : ((16 : Int32) = 0) = False ∧ ((16 : Int32) = 1) = False ∧ ((16 : Int32) = 2) = False ∧ ((16 : Int32) = 3) = False ∧ ((16 : Int32) = 4) = False ∧ ((16 : Int32) = 5) = False ∧ ((16 : Int32) = 6) = False ∧ ((16 : Int32) = 7) = False ∧ ((16 : Int32) = 8) = False ∧ ((16 : Int32) = 9) = False ∧ ((16 : Int32) = 10) = False ∧ ((16 : Int32) = 11) = False ∧ ((16 : Int32) = 12) = False ∧ ((16 : Int32) = 13) = False ∧ ((16 : Int32) = 14) = False := by decide
      have fq2 : ((16 : Int32) = 15) = False := by decide
      rw [eb] at rb ⊢
      rw [ea]
      have hda : dpV f K 1 0 = true := by simpa [dpW] using hd
      obtain ⟨y1, hc2, hr2, a1, b1, fc1, fr1, V2⟩ := J 1 0 (x) (deep + 1) dc (dr + 1) hc1 hr1 (by omega) (by omega) hda (by omega) vc vd V
      rw [show dr + 1 + 3 * f + 6 = dr + 3 * f + 7 by omega] at b1
      simp only [nI_0, n1, n2, n3, n4, n5, n6] at a1 b1
      refine ⟨y1 * 3, hc2, hr2, ?_, ?_, fc1, fr1, V2⟩
      · have w1 := (VC_t vc fc1)
        rw [en_X4_workedOut]
        simp only [cs8_0, cs8_1, cs8_2, cs8_3, cs8_4, ev_ald0, ev_aldn0, ev_bin, ev_cv1, ev_cv4, ev_dv, ev_gi, ev_i, ev_ild1, ev_ild2, ev_ild3, ev_ild4, ev_ri, ev_sw_0, ev_sw_1, pm_bd_s, pm_tl_n, pm_tl_s, pb_X4_workedOut_0, pb_X4_workedOut_10, kd_19, rf_19_0, is_4_19, fw, nI_0, n1, n2, n3, n4, n5, n6, vc.1, vc.2.1, vc.2.2, w1.1, w1.2.1, w1.2.2, z2, a1, if_true, if_false]
      · have w1 := VD_t vd fr1
        rw [en_X9_body]
        simp only [c20, c2i, c2n, c2r, cs8_0, cs8_1, cs8_2, cs8_3, cs8_4, decide_eq_true_eq, ev_ald0, ev_aldn0, ev_bin, ev_cv1, ev_cv2, ev_cv3, ev_dv, ev_gi, ev_go, ev_i, ev_if0, ev_if2, ev_ild1, ev_ild2, ev_ild3, ev_ild4, ev_ild5, ev_ist4, ev_ist5, ev_pz, ev_ri, ev_sw_0, ev_sw_1, ev_un, i00, i01, i10, not_false_eq_true, not_true_eq_false, pm_bd_s, pm_tl_n, pm_tl_s, ↓reduceIte, pb_X9_body_0, pb_X9_body_14, kd_59, rf_59_0, rf_59_1, rf_59_3, rf_59_4, rf_59_5, rf_59_6, rf_59_7, rf_59_12, rf_59_14, rf_59_15, rf_59_16, rf_59_19, rf_59_23, rf_59_24, rf_59_25, rf_59_26, is_9_59, fr, fq2, nI_0, n1, n2, n3, n4, n5, n6, vd0.1, rl_3 hs, vd0.2.2.1, e4, rb, vd.1, w1.1, z2, b1, if_true, if_false]
    · exact absurd ho (by decide)
    · exact absurd ho (by decide)
    · have eb : bdT 4 3 = 51 := by decide +kernel
      have ea : abF (nI 4) = 1 := by decide +kernel
      have e4 : (4 : Int32) * 4 + 3 = 19 := by decide
      have fw : ((51 : Int32) = 10) = False ∧ ((51 : Int32) = 11) = False ∧ ((51 : Int32) = 12) = False ∧ ((51 : Int32) = 13) = False ∧ ((51 : Int32) = 20) = False ∧ ((51 : Int32) = 21) = False ∧ ((51 : Int32) = 30) = False ∧ ((51 : Int32) = 40) = False ∧ ((51 : Int32) = 41) = False ∧ ((51 : Int32) = 50) = False := by decide
      have fr : ((19 : Int32) = 0) = False ∧ ((19 : Int32) = 1) = False ∧ ((19 : Int32) = 2) = False ∧ ((19 : Int32) = 3) = False ∧ ((19 : Int32) = 4) = False ∧ ((19 : Int32) = 5) = False ∧ ((19 : Int32) = 6) = False ∧ ((19 : Int32) = 7) = False ∧ ((19 : Int32) = 8) = False ∧ ((19 : Int32) = 9) = False ∧ ((19 : Int32) = 10) = False ∧ ((19 : Int32) = 11) = False ∧ ((19 : Int32) = 12) = False ∧ ((19 : Int32) = 13) = False ∧ ((19 : Int32) = 14) = False := by decide
      have fq2 : ((19 : Int32) = 15) = False ∧ ((19 : Int32) = 16) = False ∧ ((19 : Int32) = 17) = False ∧ ((19 : Int32) = 18) = False := by decide
      rw [eb] at rb ⊢
      rw [ea]
      obtain ⟨hda, hdb⟩ : dpV f K 1 3 = true ∧ dpV f K K 2 = true := by simpa [dpW] using hd
      obtain ⟨y1, hc2, hr2, a1, b1, fc1, fr1, V2⟩ := J 1 3 (x) (deep + 1) dc (dr + 1) hc1 hr1 (by omega) (by omega) hda (by omega) vc vd V
      rw [show dr + 1 + 3 * f + 6 = dr + 3 * f + 7 by omega] at b1
      simp only [nI_0, n1, n2, n3, n4, n5, n6] at a1 b1
      obtain ⟨y2, hc3, hr3, a2, b2, fc2, fr2, V3⟩ := J K 2 (0) (deep + 1) dc dr hc2 hr2 hK (by omega) hdb (by omega) (VC_t vc fc1) (VD_t vd fr1) V2
      have b2 := sr_voiced (R := none) (VD_t vd fr1) b2
      simp only [nI_0, n1, n2, n3, n4, n5, n6] at a2 b2
      refine ⟨y1 - y2, hc3, hr3, ?_, ?_, (fc1.tr fc2), (fr1.tr fr2), V3⟩
      · have w1 := (VC_t vc fc1)
        rw [en_X4_workedOut]
        simp only [cs8_0, cs8_1, cs8_2, cs8_3, cs8_4, ev_ald0, ev_aldn0, ev_bin, ev_cv1, ev_cv4, ev_dv, ev_gi, ev_i, ev_ild1, ev_ild2, ev_ild3, ev_ild4, ev_ri, ev_sw_0, ev_sw_1, pm_bd_s, pm_tl_n, pm_tl_s, pb_X4_workedOut_0, pb_X4_workedOut_11, kd_19, rf_19_0, is_4_19, fw, nI_0, n1, n2, n3, n4, n5, n6, vc.1, vc.2.1, vc.2.2, w1.1, w1.2.1, w1.2.2, z2, a1, a2, if_true, if_false]
      · have w1 := VD_t vd fr1
        rw [en_X9_body]
        simp only [c20, c2i, c2n, c2r, cs8_0, cs8_1, cs8_2, cs8_3, cs8_4, decide_eq_true_eq, ev_ald0, ev_aldn0, ev_bin, ev_cv1, ev_cv2, ev_cv3, ev_dv, ev_gi, ev_go, ev_i, ev_if0, ev_if2, ev_ild1, ev_ild2, ev_ild3, ev_ild4, ev_ild5, ev_ist4, ev_ist5, ev_pz, ev_ri, ev_sw_0, ev_sw_1, ev_un, i00, i01, i10, not_false_eq_true, not_true_eq_false, pm_bd_s, pm_tl_n, pm_tl_s, ↓reduceIte, pb_X9_body_0, pb_X9_body_15, kd_59, rf_59_0, rf_59_1, rf_59_3, rf_59_4, rf_59_5, rf_59_6, rf_59_7, rf_59_12, rf_59_14, rf_59_15, rf_59_16, rf_59_19, rf_59_23, rf_59_24, rf_59_25, rf_59_26, is_9_59, fr, fq2, nI_0, n1, n2, n3, n4, n5, n6, vd0.1, rl_3 hs, vd0.2.2.1, e4, rb, vd.1, w1.1, z2, b1, b2, if_true, if_false]
  · rcases (show v = 0 ∨ v = 1 ∨ v = 2 ∨ v = 3 by omega) with rfl | rfl | rfl | rfl
    · exact absurd ho (by decide)
    · exact absurd ho (by decide)
    · have eb : bdT 5 2 = 60 := by decide +kernel
      have ea : abF (nI 5) = 0 := by decide +kernel
      have e4 : (4 : Int32) * 5 + 2 = 22 := by decide
      have fw : ((60 : Int32) = 10) = False ∧ ((60 : Int32) = 11) = False ∧ ((60 : Int32) = 12) = False ∧ ((60 : Int32) = 13) = False ∧ ((60 : Int32) = 20) = False ∧ ((60 : Int32) = 21) = False ∧ ((60 : Int32) = 30) = False ∧ ((60 : Int32) = 40) = False ∧ ((60 : Int32) = 41) = False ∧ ((60 : Int32) = 50) = False ∧ ((60 : Int32) = 51) = False := by decide
      have fr : ((22 : Int32) = 0) = False ∧ ((22 : Int32) = 1) = False ∧ ((22 : Int32) = 2) = False ∧ ((22 : Int32) = 3) = False ∧ ((22 : Int32) = 4) = False ∧ ((22 : Int32) = 5) = False ∧ ((22 : Int32) = 6) = False ∧ ((22 : Int32) = 7) = False ∧ ((22 : Int32) = 8) = False ∧ ((22 : Int32) = 9) = False ∧ ((22 : Int32) = 10) = False ∧ ((22 : Int32) = 11) = False ∧ ((22 : Int32) = 12) = False ∧ ((22 : Int32) = 13) = False ∧ ((22 : Int32) = 14) = False := by decide
      have fq2 : ((22 : Int32) = 15) = False ∧ ((22 : Int32) = 16) = False ∧ ((22 : Int32) = 17) = False ∧ ((22 : Int32) = 18) = False ∧ ((22 : Int32) = 19) = False ∧ ((22 : Int32) = 20) = False ∧ ((22 : Int32) = 21) = False := by decide
      rw [eb] at rb ⊢
      rw [ea]
      have hda : dpV f K 0 2 = true := by simpa [dpW] using hd
      obtain ⟨y1, hc2, hr2, a1, b1, fc1, fr1, V2⟩ := J 0 2 (x) (deep + 1) dc (dr + 1) hc1 hr1 (by omega) (by omega) hda (by omega) vc vd V
      rw [show dr + 1 + 3 * f + 6 = dr + 3 * f + 7 by omega] at b1
      simp only [nI_0, n1, n2, n3, n4, n5, n6] at a1 b1
      refine ⟨y1 ^^^ m, hc2, hr2, ?_, ?_, fc1, fr1, V2⟩
      · have w1 := (VC_t vc fc1)
        rw [en_X4_workedOut]
        simp only [cs8_0, cs8_1, cs8_2, cs8_3, cs8_4, ev_ald0, ev_aldn0, ev_bin, ev_cv1, ev_cv4, ev_dv, ev_gi, ev_i, ev_ild1, ev_ild2, ev_ild3, ev_ild4, ev_ri, ev_sw_0, ev_sw_1, pm_bd_s, pm_tl_n, pm_tl_s, pb_X4_workedOut_0, pb_X4_workedOut_12, kd_19, rf_19_0, is_4_19, fw, nI_0, n1, n2, n3, n4, n5, n6, vc.1, vc.2.1, vc.2.2, w1.1, w1.2.1, w1.2.2, z2, a1, if_true, if_false]
      · have w1 := VD_t vd fr1
        rw [en_X9_body]
        simp only [c20, c2i, c2n, c2r, cs8_0, cs8_1, cs8_2, cs8_3, cs8_4, decide_eq_true_eq, ev_ald0, ev_aldn0, ev_bin, ev_cv1, ev_cv2, ev_cv3, ev_dv, ev_gi, ev_go, ev_i, ev_if0, ev_if2, ev_ild1, ev_ild2, ev_ild3, ev_ild4, ev_ild5, ev_ist4, ev_ist5, ev_pz, ev_ri, ev_sw_0, ev_sw_1, ev_un, i00, i01, i10, not_false_eq_true, not_true_eq_false, pm_bd_s, pm_tl_n, pm_tl_s, ↓reduceIte, pb_X9_body_0, pb_X9_body_16, kd_59, rf_59_0, rf_59_1, rf_59_3, rf_59_4, rf_59_5, rf_59_6, rf_59_7, rf_59_12, rf_59_14, rf_59_15, rf_59_16, rf_59_19, rf_59_23, rf_59_24, rf_59_25, rf_59_26, is_9_59, fr, fq2, nI_0, n1, n2, n3, n4, n5, n6, vd0.1, rl_3 hs, vd0.2.2.1, e4, rb, vd.1, w1.1, z2, b1, if_true, if_false]
    · exact absurd ho (by decide)
  · rcases (show v = 0 ∨ v = 1 ∨ v = 2 ∨ v = 3 by omega) with rfl | rfl | rfl | rfl
    · have eb : bdT 6 0 = 71 := by decide +kernel
      have ea : abF (nI 6) = 5 := by decide +kernel
      have e4 : (4 : Int32) * 6 + 0 = 24 := by decide
      have fw : ((71 : Int32) = 10) = False ∧ ((71 : Int32) = 11) = False ∧ ((71 : Int32) = 12) = False ∧ ((71 : Int32) = 13) = False ∧ ((71 : Int32) = 20) = False ∧ ((71 : Int32) = 21) = False ∧ ((71 : Int32) = 30) = False ∧ ((71 : Int32) = 40) = False ∧ ((71 : Int32) = 41) = False ∧ ((71 : Int32) = 50) = False ∧ ((71 : Int32) = 51) = False ∧ ((71 : Int32) = 60) = False ∧ ((71 : Int32) = 70) = False := by decide
      have fr : ((24 : Int32) = 0) = False ∧ ((24 : Int32) = 1) = False ∧ ((24 : Int32) = 2) = False ∧ ((24 : Int32) = 3) = False ∧ ((24 : Int32) = 4) = False ∧ ((24 : Int32) = 5) = False ∧ ((24 : Int32) = 6) = False ∧ ((24 : Int32) = 7) = False ∧ ((24 : Int32) = 8) = False ∧ ((24 : Int32) = 9) = False ∧ ((24 : Int32) = 10) = False ∧ ((24 : Int32) = 11) = False ∧ ((24 : Int32) = 12) = False ∧ ((24 : Int32) = 13) = False ∧ ((24 : Int32) = 14) = False := by decide
      have fq2 : ((24 : Int32) = 15) = False ∧ ((24 : Int32) = 16) = False ∧ ((24 : Int32) = 17) = False ∧ ((24 : Int32) = 18) = False ∧ ((24 : Int32) = 19) = False ∧ ((24 : Int32) = 20) = False ∧ ((24 : Int32) = 21) = False ∧ ((24 : Int32) = 22) = False ∧ ((24 : Int32) = 23) = False := by decide
      rw [eb] at rb ⊢
      rw [ea]
      refine ⟨6, hc1, hr1, ?_, ?_, fun _ _ _ _ _ => rfl, fun _ _ _ _ => rfl, V⟩
      · rw [en_X4_workedOut]
        simp only [cs8_0, cs8_1, cs8_2, cs8_3, cs8_4, ev_ald0, ev_aldn0, ev_bin, ev_cv1, ev_cv4, ev_dv, ev_gi, ev_i, ev_ild1, ev_ild2, ev_ild3, ev_ild4, ev_ri, ev_sw_0, ev_sw_1, pm_bd_s, pm_tl_n, pm_tl_s, pb_X4_workedOut_0, pb_X4_workedOut_14, kd_19, rf_19_0, is_4_19, fw, nI_0, n1, n2, n3, n4, n5, n6, vc.1, vc.2.1, vc.2.2, if_true, if_false]
      · rw [en_X9_body]
        simp only [c20, c2i, c2n, c2r, cs8_0, cs8_1, cs8_2, cs8_3, cs8_4, decide_eq_true_eq, ev_ald0, ev_aldn0, ev_bin, ev_cv1, ev_cv2, ev_cv3, ev_dv, ev_gi, ev_go, ev_i, ev_if0, ev_if2, ev_ild1, ev_ild2, ev_ild3, ev_ild4, ev_ild5, ev_ist4, ev_ist5, ev_pz, ev_ri, ev_sw_0, ev_sw_1, ev_un, i00, i01, i10, not_false_eq_true, not_true_eq_false, pm_bd_s, pm_tl_n, pm_tl_s, ↓reduceIte, pb_X9_body_0, pb_X9_body_18, kd_59, rf_59_0, rf_59_1, rf_59_3, rf_59_4, rf_59_5, rf_59_6, rf_59_7, rf_59_12, rf_59_14, rf_59_15, rf_59_16, rf_59_19, rf_59_23, rf_59_24, rf_59_25, rf_59_26, is_9_59, fr, fq2, nI_0, n1, n2, n3, n4, n5, n6, vd0.1, rl_3 hs, vd0.2.2.1, e4, rb, vd.1, if_true, if_false]
    · exact absurd ho (by decide)
    · have eb : bdT 6 2 = 70 := by decide +kernel
      have ea : abF (nI 6) = 5 := by decide +kernel
      have e4 : (4 : Int32) * 6 + 2 = 26 := by decide
      have fw : ((70 : Int32) = 10) = False ∧ ((70 : Int32) = 11) = False ∧ ((70 : Int32) = 12) = False ∧ ((70 : Int32) = 13) = False ∧ ((70 : Int32) = 20) = False ∧ ((70 : Int32) = 21) = False ∧ ((70 : Int32) = 30) = False ∧ ((70 : Int32) = 40) = False ∧ ((70 : Int32) = 41) = False ∧ ((70 : Int32) = 50) = False ∧ ((70 : Int32) = 51) = False ∧ ((70 : Int32) = 60) = False := by decide
      have fr : ((26 : Int32) = 0) = False ∧ ((26 : Int32) = 1) = False ∧ ((26 : Int32) = 2) = False ∧ ((26 : Int32) = 3) = False ∧ ((26 : Int32) = 4) = False ∧ ((26 : Int32) = 5) = False ∧ ((26 : Int32) = 6) = False ∧ ((26 : Int32) = 7) = False ∧ ((26 : Int32) = 8) = False ∧ ((26 : Int32) = 9) = False ∧ ((26 : Int32) = 10) = False ∧ ((26 : Int32) = 11) = False ∧ ((26 : Int32) = 12) = False ∧ ((26 : Int32) = 13) = False ∧ ((26 : Int32) = 14) = False := by decide
      have fq2 : ((26 : Int32) = 15) = False ∧ ((26 : Int32) = 16) = False ∧ ((26 : Int32) = 17) = False ∧ ((26 : Int32) = 18) = False ∧ ((26 : Int32) = 19) = False ∧ ((26 : Int32) = 20) = False ∧ ((26 : Int32) = 21) = False ∧ ((26 : Int32) = 22) = False ∧ ((26 : Int32) = 23) = False ∧ ((26 : Int32) = 24) = False ∧ ((26 : Int32) = 25) = False := by decide
      rw [eb] at rb ⊢
      rw [ea]
      have hda : dpV f K 5 2 = true := by simpa [dpW] using hd
      obtain ⟨y1, hc2, hr2, a1, b1, fc1, fr1, V2⟩ := J 5 2 (x + 1) (deep + 1) dc (dr + 1) hc1 hr1 (by omega) (by omega) hda (by omega) vc vd V
      rw [show dr + 1 + 3 * f + 6 = dr + 3 * f + 7 by omega] at b1
      simp only [nI_0, n1, n2, n3, n4, n5, n6] at a1 b1
      refine ⟨y1, hc2, hr2, ?_, ?_, fc1, fr1, V2⟩
      · have w1 := (VC_t vc fc1)
        rw [en_X4_workedOut]
        simp only [cs8_0, cs8_1, cs8_2, cs8_3, cs8_4, ev_ald0, ev_aldn0, ev_bin, ev_cv1, ev_cv4, ev_dv, ev_gi, ev_i, ev_ild1, ev_ild2, ev_ild3, ev_ild4, ev_ri, ev_sw_0, ev_sw_1, pm_bd_s, pm_tl_n, pm_tl_s, pb_X4_workedOut_0, pb_X4_workedOut_13, kd_19, rf_19_0, is_4_19, fw, nI_0, n1, n2, n3, n4, n5, n6, vc.1, vc.2.1, vc.2.2, w1.1, w1.2.1, w1.2.2, z2, a1, if_true, if_false]
      · have w1 := VD_t vd fr1
        rw [en_X9_body]
        simp only [c20, c2i, c2n, c2r, cs8_0, cs8_1, cs8_2, cs8_3, cs8_4, decide_eq_true_eq, ev_ald0, ev_aldn0, ev_bin, ev_cv1, ev_cv2, ev_cv3, ev_dv, ev_gi, ev_go, ev_i, ev_if0, ev_if2, ev_ild1, ev_ild2, ev_ild3, ev_ild4, ev_ild5, ev_ist4, ev_ist5, ev_pz, ev_ri, ev_sw_0, ev_sw_1, ev_un, i00, i01, i10, not_false_eq_true, not_true_eq_false, pm_bd_s, pm_tl_n, pm_tl_s, ↓reduceIte, pb_X9_body_0, pb_X9_body_17, kd_59, rf_59_0, rf_59_1, rf_59_3, rf_59_4, rf_59_5, rf_59_6, rf_59_7, rf_59_12, rf_59_14, rf_59_15, rf_59_16, rf_59_19, rf_59_23, rf_59_24, rf_59_25, rf_59_26, is_9_59, fr, fq2, nI_0, n1, n2, n3, n4, n5, n6, vd0.1, rl_3 hs, vd0.2.2.1, e4, rb, vd.1, w1.1, z2, b1, if_true, if_false]
    · exact absurd ho (by decide)
theorem Jv_all {K s : Nat} {m : Int32} (hK : K < 7) : ∀ f, Jv fb K s m f
  | 0 => by
    intro F v x deep dc dr hc hr h1 h2 h3
    cases h3
  | f + 1 => by
    intro F v x deep dc dr hc hr hF hv hd hde vc vd V
    obtain ⟨k1, k2⟩ := tb_k F hF v hv
    obtain ⟨q, sf⟩ := snd_f (fb := fb) (d := dc + 2 * f + 5) (h := hc) (x := x) (dp := nI deep) hF hv
    have bf := bf_f (fb := fb) (d := dr + 3 * f + 6) (h := hr) (x := x) hF hv
    obtain ⟨t, t1, t2, t3, t4, t5, t6⟩ := id V
    have z10 : ((1 : Int32) = 0) = False := by decide
    rcases t6 with p | p
    · obtain ⟨hc1, hr1, rb, V1, fc1, fr1, e22, E⟩ := bg (fb := fb) (k := oK F v) (v := v) V k1 hv
      obtain ⟨y, hc2, hr2, a, b, fc2, fr2, V2⟩ := wb (fb := fb) (dc := dc) (dr := dr) (x := x) (deep := deep) hK (Jv_all hK f) k1 hv k2 hd (by omega) (VC_t vc fc1) vd (VD_t vd fr1) V1 (by rw [e22]; exact p) rb
      have e40 : nI deep < 40 := nI_lt (b := 40) (by omega) (by omega)
      refine ⟨y, hc2, hr2, ?_, ?_, fc1.tr fc2, fr1.tr fr2, V2⟩
      · rw [show dc + 2 * (f + 1) + 6 = dc + 2 * f + 5 + 3 by omega, en_X4_sound]
        simp only [c20, c2i, c2n, c2r, cs8_0, cs8_1, cs8_2, cs8_3, cs8_4, decide_eq_true_eq, ev_ald0, ev_aldn0, ev_bin, ev_cs1, ev_cs2, ev_cv0, ev_cv1, ev_cv4, ev_gi, ev_go, ev_gr, ev_i, ev_if0, ev_if2, ev_ild1, ev_ild2, ev_ild3, ev_ild4, ev_ild5, ev_ild6, ev_inc6, ev_ist5, ev_ist6, ev_pop_i, ev_pop_r, ev_ri, i00, i01, i10, is_sw, not_false_eq_true, not_true_eq_false, pm_bd_s, pm_tl_n, pm_tl_s, ↓reduceIte, pb_X4_sound_0]
        rw [sf, pb_X4_sound_2]
        simp only [c20, c2i, c2n, c2r, cs8_0, cs8_1, cs8_2, cs8_3, cs8_4, decide_eq_true_eq, ev_ald0, ev_aldn0, ev_bin, ev_cs1, ev_cs2, ev_cv0, ev_cv1, ev_cv4, ev_gi, ev_go, ev_gr, ev_i, ev_if0, ev_if2, ev_ild1, ev_ild2, ev_ild3, ev_ild4, ev_ild5, ev_ild6, ev_inc6, ev_ist5, ev_ist6, ev_pop_i, ev_pop_r, ev_ri, i00, i01, i10, is_sw, not_false_eq_true, not_true_eq_false, pm_bd_s, pm_tl_n, pm_tl_s, ↓reduceIte, kd_19, rf_19_0, is_4_19, t5, p, e40, not_true_eq_false, if_true, if_false]
        rw [show dc + 2 * f + 5 + 2 = dc + 2 * f + 4 + 3 by omega, E, pb_X4_sound_5]
        rw [show dc + 2 * f + 4 + 3 = dc + 2 * f + 7 by omega]
        simp only [c20, c2i, c2n, c2r, cs8_0, cs8_1, cs8_2, cs8_3, cs8_4, decide_eq_true_eq, ev_ald0, ev_aldn0, ev_bin, ev_cs1, ev_cs2, ev_cv0, ev_cv1, ev_cv4, ev_gi, ev_go, ev_gr, ev_i, ev_if0, ev_if2, ev_ild1, ev_ild2, ev_ild3, ev_ild4, ev_ild5, ev_ild6, ev_inc6, ev_ist5, ev_ist6, ev_pop_i, ev_pop_r, ev_ri, i00, i01, i10, is_sw, not_false_eq_true, not_true_eq_false, pm_bd_s, pm_tl_n, pm_tl_s, ↓reduceIte, kd_19, rf_19_0, is_4_19, sp_bodyOf k1 hv, sp_above, nI_1, a]
      · rw [show dr + 3 * (f + 1) + 6 = dr + 3 * f + 6 + 3 by omega, en_X9_bodyFrom]
        simp only [c20, c2i, c2n, c2r, cs8_0, cs8_1, cs8_2, cs8_3, cs8_4, decide_eq_true_eq, ev_ald0, ev_aldn0, ev_cs1, ev_cs2, ev_cv3, ev_gi, ev_go, ev_i, ev_if0, ev_ild1, ev_ild2, ev_ild3, ev_ild4, ev_ist4, ev_ri, i00, i01, i10, not_false_eq_true, not_true_eq_false, pm_bd_s, pm_tl_n, pm_tl_s, ↓reduceIte, pb_X9_bodyFrom_0]
        rw [bf, pb_X9_bodyFrom_2]
        rw [show dr + 3 * f + 6 + 2 = dr + 3 * f + 8 by omega]
        simp only [c20, c2i, c2n, c2r, cs8_0, cs8_1, cs8_2, cs8_3, cs8_4, decide_eq_true_eq, ev_ald0, ev_aldn0, ev_cs1, ev_cs2, ev_cv3, ev_gi, ev_go, ev_i, ev_if0, ev_ild1, ev_ild2, ev_ild3, ev_ild4, ev_ist4, ev_ri, i00, i01, i10, not_false_eq_true, not_true_eq_false, pm_bd_s, pm_tl_n, pm_tl_s, ↓reduceIte, pb_X9_bodyFrom_3, pb_X9_bodyFrom_4, kd_59, rf_59_0, rf_59_1, rf_59_3, rf_59_4, rf_59_5, rf_59_6, rf_59_7, rf_59_12, rf_59_14, rf_59_15, rf_59_16, rf_59_19, rf_59_23, rf_59_24, rf_59_25, rf_59_26, is_9_59, p, b, if_true, if_false]
    · refine ⟨0, hc, hr, ?_, ?_, fun _ _ _ _ _ => rfl, fun _ _ _ _ => rfl, V⟩
      · rw [show dc + 2 * (f + 1) + 6 = dc + 2 * f + 5 + 3 by omega, en_X4_sound]
        simp only [c20, c2i, c2n, c2r, cs8_0, cs8_1, cs8_2, cs8_3, cs8_4, decide_eq_true_eq, ev_ald0, ev_aldn0, ev_bin, ev_cs1, ev_cs2, ev_cv0, ev_cv1, ev_cv4, ev_gi, ev_go, ev_gr, ev_i, ev_if0, ev_if2, ev_ild1, ev_ild2, ev_ild3, ev_ild4, ev_ild5, ev_ild6, ev_inc6, ev_ist5, ev_ist6, ev_pop_i, ev_pop_r, ev_ri, i00, i01, i10, is_sw, not_false_eq_true, not_true_eq_false, pm_bd_s, pm_tl_n, pm_tl_s, ↓reduceIte, pb_X4_sound_0]
        rw [sf, pb_X4_sound_2]
        simp only [c20, c2i, c2n, c2r, cs8_0, cs8_1, cs8_2, cs8_3, cs8_4, decide_eq_true_eq, ev_ald0, ev_aldn0, ev_bin, ev_cs1, ev_cs2, ev_cv0, ev_cv1, ev_cv4, ev_gi, ev_go, ev_gr, ev_i, ev_if0, ev_if2, ev_ild1, ev_ild2, ev_ild3, ev_ild4, ev_ild5, ev_ild6, ev_inc6, ev_ist5, ev_ist6, ev_pop_i, ev_pop_r, ev_ri, i00, i01, i10, is_sw, not_false_eq_true, not_true_eq_false, pm_bd_s, pm_tl_n, pm_tl_s, ↓reduceIte, pb_X4_sound_3, kd_19, rf_19_0, is_4_19, t5, p, z10, not_false_eq_true, if_true, if_false]
      · rw [show dr + 3 * (f + 1) + 6 = dr + 3 * f + 6 + 3 by omega, en_X9_bodyFrom]
        simp only [c20, c2i, c2n, c2r, cs8_0, cs8_1, cs8_2, cs8_3, cs8_4, decide_eq_true_eq, ev_ald0, ev_aldn0, ev_cs1, ev_cs2, ev_cv3, ev_gi, ev_go, ev_i, ev_if0, ev_ild1, ev_ild2, ev_ild3, ev_ild4, ev_ist4, ev_ri, i00, i01, i10, not_false_eq_true, not_true_eq_false, pm_bd_s, pm_tl_n, pm_tl_s, ↓reduceIte, pb_X9_bodyFrom_0]
        rw [bf, pb_X9_bodyFrom_2]
        simp only [c20, c2i, c2n, c2r, cs8_0, cs8_1, cs8_2, cs8_3, cs8_4, decide_eq_true_eq, ev_ald0, ev_aldn0, ev_cs1, ev_cs2, ev_cv3, ev_gi, ev_go, ev_i, ev_if0, ev_ild1, ev_ild2, ev_ild3, ev_ild4, ev_ist4, ev_ri, i00, i01, i10, not_false_eq_true, not_true_eq_false, pm_bd_s, pm_tl_n, pm_tl_s, ↓reduceIte, pb_X9_bodyFrom_4, kd_59, rf_59_0, rf_59_1, rf_59_3, rf_59_4, rf_59_5, rf_59_6, rf_59_7, rf_59_12, rf_59_14, rf_59_15, rf_59_16, rf_59_19, rf_59_23, rf_59_24, rf_59_25, rf_59_26, is_9_59, p, z10, if_true, if_false]
end VO
