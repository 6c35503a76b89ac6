/-! PAIRS OF CALLS: image, restore -/
theorem dp_congr {nn : Nat} {p q : Nat → Int32} : ∀ {k : Nat}, (∀ i, i < k → p i = q i) → dpF nn p k = dpF nn q k
  | 0, _ => rfl
  | k + 1, h => by
    rw [dpF, dpF, dp_congr (fun i hi => h i (by omega)), h k (by omega)]
theorem SR_cp {h h' : pm_HP} {S T A B S' T' A' B' : Nat} (hI : SR h S T A B) (hT : ∀ k, k < 5 → h'.1 (T' + k) 3 = h.1 (T + k) 3) (h5 : h'.1 (T' + 5) 1 = h.1 (T + 5) 1) (h6 : h'.1 (T' + 6) 1 = h.1 (T + 6) 1) (hS : h'.1 S' 7 = h.1 S 7 ∧ h'.1 S' 8 = h.1 S 8 ∧ h'.1 S' 9 = h.1 S 9)
(a0 : ∀ b, b < 120 → h'.1 (A') b = h.1 (A) b) (a1 : ∀ b, b < 40 → h'.1 (A' + 1) b = h.1 (A + 1) b) (a2 : ∀ b, b < 64 → h'.1 (A' + 2) b = h.1 (A + 2) b) (a3 : ∀ b, b < 60 → h'.1 (A' + 3) b = h.1 (A + 3) b) (a4 : ∀ b, b < 24 → h'.1 (A' + 4) b = h.1 (A + 4) b) (a5 : ∀ b, b < 60 → h'.1 (A' + 5) b = h.1 (A + 5) b) (a6 : ∀ b, b < 60 → h'.1 (A' + 6) b = h.1 (A + 6) b)
 (hB : ∀ j, j < 440 → h'.1 B' j = h.1 B j) : SR h' S' T' A' B' := by
  obtain ⟨⟨n, u, nt, nb, nw, iN⟩, iZ, iM, iS, iT, iB, iW, iX, iY⟩ := hI
  have t0 := hT 0 (by omega)
  rw [Nat.add_zero, Nat.add_zero] at t0
  refine ⟨⟨n, u, nt, nb, nw, ?_⟩, ?_, ?_, ?_, ?_, ?_, ?_, ?_, ?_⟩
  · unfold RN at iN ⊢
    rw [t0, hT 1 (by omega), hT 2 (by omega), hT 3 (by omega), hT 4 (by omega), hB 0 (by omega), hB 1 (by omega), hB 2 (by omega), hB 3 (by omega), hB 4 (by omega)]
    exact iN
  · unfold RZ at iZ ⊢
    rw [hS.1, hS.2.1, hS.2.2, hB 5 (by omega), hB 6 (by omega), hB 7 (by omega)]
    exact iZ
  · intro i hi
    obtain ⟨g1, g2⟩ := iM i hi
    rw [hB _ (by omega), hB _ (by omega), hB _ (by omega), hB _ (by omega), hB _ (by omega)]
    exact ⟨fun c hc => by rw [hB _ (by omega), a0 _ (by omega)]; exact g1 c hc, g2⟩
  · intro i hi
    obtain ⟨g1, g2⟩ := iS i hi
    rw [hB _ (by omega), hB _ (by omega), hB _ (by omega), hB _ (by omega), hB _ (by omega)]
    exact ⟨fun c hc => by rw [hB _ (by omega), a1 _ (by omega)]; exact g1 c hc, g2⟩
  · intro i hi
    obtain ⟨g1, g2⟩ := iT i hi
    rw [hB _ (by omega)]
    exact ⟨fun c hc => by rw [hB _ (by omega), a2 _ (by omega)]; exact g1 c hc, g2⟩
  · intro i hi
    rw [hB _ (by omega), a3 i hi]
    exact iB i hi
  · intro i hi
    rw [hB _ (by omega), a4 i hi]
    exact iW i hi
  · obtain ⟨k, k1, k2, k3, k4, k5⟩ := iX
    refine ⟨k, k1, by rw [h5]; exact k2, by rw [hB _ (by omega)]; exact k3, fun i hi => ?_, k5.imp id (fun q => ?_)⟩
    · rw [a5 i (by omega), hB _ (by omega)]; exact k4 i hi
    · rw [dp_congr (fun i hi => a5 i (by omega))]; exact q
  · obtain ⟨k, k1, k2, k3, k4, k5⟩ := iY
    refine ⟨k, k1, by rw [h6]; exact k2, by rw [hB _ (by omega)]; exact k3, fun i hi => ?_, k5.imp id (fun q => ?_)⟩
    · rw [a6 i (by omega), hB _ (by omega)]; exact k4 i hi
    · rw [dp_congr (fun i hi => a6 i (by omega))]; exact q
theorem w_ne2 : ∀ t, t < 90 → pm_is [0] t = true → ∀ o, o < 90 → pm_is [0] o = true → ¬ o = pm_rf t 0 := by decide +kernel
theorem tQ_3 : tR 3 = 24 := by decide +kernel
theorem tQ_4 : tR 4 = 8 := by decide +kernel
theorem tQ_5 : tR 5 = 16 := by decide +kernel
theorem tQ_6 : tR 6 = 60 := by decide +kernel
theorem tQ_7 : tR 7 = 24 := by decide +kernel
theorem tQ_10 : tR 10 = 24 := by decide +kernel
theorem tQ_11 : tR 11 = 8 := by decide +kernel
theorem tQ_12 : tR 12 = 16 := by decide +kernel
theorem tQ_13 : tR 13 = 60 := by decide +kernel
theorem tQ_14 : tR 14 = 24 := by decide +kernel
section PM
variable {fb : Bool} {d : Nat} {h : pm_HP}
theorem sp_tt {t o u : Nat} (ht : pm_is [3, 6] t = true) (ho : pm_is [3, 6] o = true) (hC : tC t = tC o) (hR : tR t = tR o) (hu : h.1 o 3 = nI u) (hu2 : u ≤ tR o) : ∃ h', rs fb (d + 3) n_X6_take [.ref t, .ref o] h = some (none, h') ∧ (∀ x, ¬ x = t → ¬ x = pm_rf t 2 → h'.1 x = h.1 x) ∧ h'.1 t 3 = h.1 o 3 ∧ ∀ y, y < tC t * tR t → h'.1 (pm_rf t 2) y = h.1 (pm_rf o 2) y := by
  refine ⟨_, sp_ttake ht ho hC hR hu hu2, fun x h1 h2 => ?_, si_same _ _ _ _, fun y hy => ?_⟩
  · funext b
    unfold tkT
    rw [si_ne _ _ (fun q => h1 q.1), cp_at, if_neg h2]
  · unfold tkT
    rw [si_ne _ _ (fun q => tb_ne t (t_lt ht) ht t (t_lt ht) ht q.1.symm), cp_at, if_pos rfl, cp_in _ _ hy]
theorem sp_lt {t o : Nat} (ht : pm_is [0] t = true) (ho : pm_is [0] o = true) : ∃ h', rs fb (d + 1) n_X0_take [.ref t, .ref o] h = some (none, h') ∧ (∀ x, ¬ x = t → ¬ x = pm_rf t 0 → h'.1 x = h.1 x) ∧ h'.1 t 1 = h.1 o 1 ∧ ∀ y, y < 60 → h'.1 (pm_rf t 0) y = h.1 (pm_rf o 0) y := by
  refine ⟨_, sp_ltake ht ho, fun x h1 h2 => ?_, ?_, fun y hy => ?_⟩
  · funext b
    rw [si_ne _ _ (fun q => h1 q.1), cp_at, if_neg h2]
  · rw [si_same, cp_at, if_neg (w_ne2 t (w_lt ht) ht o (w_lt ho) ho)]
  · rw [si_ne _ _ (fun q => w_ne t (w_lt ht) ht q.1.symm), cp_at, if_pos rfl, cp_in _ _ hy]
/-- a state taken -/
def TK (h h' : pm_HP) (S' T' A' S T A : Nat) : Prop := (∀ a, ¬ a = S' → ¬ (T' ≤ a ∧ a < T' + 7) → ¬ (A' ≤ a ∧ a < A' + 7) → h'.1 a = h.1 a) ∧ (∀ k, k < 5 → h'.1 (T' + k) 3 = h.1 (T + k) 3) ∧ h'.1 (T' + 5) 1 = h.1 (T + 5) 1 ∧ h'.1 (T' + 6) 1 = h.1 (T + 6) 1 ∧ (h'.1 S' 7 = h.1 S 7 ∧ h'.1 S' 8 = h.1 S 8 ∧ h'.1 S' 9 = h.1 S 9) ∧ (∀ b, b < 120 → h'.1 (A') b = h.1 (A) b) ∧ (∀ b, b < 40 → h'.1 (A' + 1) b = h.1 (A + 1) b) ∧ (∀ b, b < 64 → h'.1 (A' + 2) b = h.1 (A + 2) b) ∧ (∀ b, b < 60 → h'.1 (A' + 3) b = h.1 (A + 3) b) ∧ (∀ b, b < 24 → h'.1 (A' + 4) b = h.1 (A + 4) b) ∧ (∀ b, b < 60 → h'.1 (A' + 5) b = h.1 (A + 5) b) ∧ (∀ b, b < 60 → h'.1 (A' + 6) b = h.1 (A + 6) b)
set_option maxRecDepth 100000 in
theorem sp_keep {n u nt nb nw : Nat} (iN : RN h 3 60 n u nt nb nw) : ∃ h', rs fb (d + 4) n_X5_take [.ref 2, .ref 1] h = some (none, h') ∧ TK h h' 2 10 38 1 3 31 := by
  obtain ⟨⟨n1, -, -, n4⟩, ⟨u1, -, u3⟩, ⟨t1, -, t3⟩, ⟨b1, -, b3⟩, w1, -, w3⟩ := iN
  have p0 : h.1 3 3 = nI n := by
    exact n1
  obtain ⟨H0, r0, f0, g0, c0⟩ := sp_tt (fb := fb) (d := d) (h := h) (t := 10) (o := 3) (u := n) (by decide) (by decide) (by decide +kernel) (by decide +kernel) p0 (by rw [tQ_3]; exact n4)
  rw [show pm_rf 10 2 = 38 by decide] at f0 c0
  rw [show tC 10 * tR 10 = 120 by decide +kernel, show pm_rf 3 2 = 31 by decide] at c0
  have p1 : H0.1 4 3 = nI u := by
    rw [f0 _ (by decide) (by decide)]
    exact u1
  obtain ⟨H1, r1, f1, g1, c1⟩ := sp_tt (fb := fb) (d := d) (h := H0) (t := 11) (o := 4) (u := u) (by decide) (by decide) (by decide +kernel) (by decide +kernel) p1 (by rw [tQ_4]; exact u3)
  rw [show pm_rf 11 2 = 39 by decide] at f1 c1
  rw [show tC 11 * tR 11 = 40 by decide +kernel, show pm_rf 4 2 = 32 by decide] at c1
  have p2 : H1.1 5 3 = nI nt := by
    rw [f1 _ (by decide) (by decide), f0 _ (by decide) (by decide)]
    exact t1
  obtain ⟨H2, r2, f2, g2, c2⟩ := sp_tt (fb := fb) (d := d) (h := H1) (t := 12) (o := 5) (u := nt) (by decide) (by decide) (by decide +kernel) (by decide +kernel) p2 (by rw [tQ_5]; exact t3)
  rw [show pm_rf 12 2 = 40 by decide] at f2 c2
  rw [show tC 12 * tR 12 = 64 by decide +kernel, show pm_rf 5 2 = 33 by decide] at c2
  have p3 : H2.1 6 3 = nI nb := by
    rw [f2 _ (by decide) (by decide), f1 _ (by decide) (by decide), f0 _ (by decide) (by decide)]
    exact b1
  obtain ⟨H3, r3, f3, g3, c3⟩ := sp_tt (fb := fb) (d := d) (h := H2) (t := 13) (o := 6) (u := nb) (by decide) (by decide) (by decide +kernel) (by decide +kernel) p3 (by rw [tQ_6]; exact b3)
  rw [show pm_rf 13 2 = 41 by decide] at f3 c3
  rw [show tC 13 * tR 13 = 60 by decide +kernel, show pm_rf 6 2 = 34 by decide] at c3
  have p4 : H3.1 7 3 = nI nw := by
    rw [f3 _ (by decide) (by decide), f2 _ (by decide) (by decide), f1 _ (by decide) (by decide), f0 _ (by decide) (by decide)]
    exact w1
  obtain ⟨H4, r4, f4, g4, c4⟩ := sp_tt (fb := fb) (d := d) (h := H3) (t := 14) (o := 7) (u := nw) (by decide) (by decide) (by decide +kernel) (by decide +kernel) p4 (by rw [tQ_7]; exact w3)
  rw [show pm_rf 14 2 = 42 by decide] at f4 c4
  rw [show tC 14 * tR 14 = 24 by decide +kernel, show pm_rf 7 2 = 35 by decide] at c4
  obtain ⟨H5, r5, f5, g5, c5⟩ := sp_lt (fb := fb) (d := d + 2) (h := H4) (t := 15) (o := 8) (by decide) (by decide)
  rw [show pm_rf 15 0 = 43 by decide] at f5 c5
  rw [show pm_rf 8 0 = 36 by decide] at c5
  obtain ⟨H6, r6, f6, g6, c6⟩ := sp_lt (fb := fb) (d := d + 2) (h := H5) (t := 16) (o := 9) (by decide) (by decide)
  rw [show pm_rf 16 0 = 44 by decide] at f6 c6
  rw [show pm_rf 9 0 = 37 by decide] at c6
  refine ⟨pm_si (pm_si (pm_si H6 2 7 (H6.1 1 7)) 2 8 (H6.1 1 8)) 2 9 (H6.1 1 9), ?_, ?_⟩
  · have s8 : (pm_si H6 2 7 (H6.1 1 7)).1 1 8 = H6.1 1 8 := si_ne _ _ (by omega)
    have s9 : (pm_si (pm_si H6 2 7 (H6.1 1 7)) 2 8 (H6.1 1 8)).1 1 9 = H6.1 1 9 := (si_ne _ _ (by omega)).trans (si_ne _ _ (by omega))
    rw [en_X5_take]
    simp only [cs8_0, cs8_1, cs8_2, cs8_3, cs8_4, ev_ald0, ev_ald1, ev_aldn0, ev_aldn1, ev_cv1, ev_gi, ev_gr, ev_pi, ev_rv, is_sw, pm_bd_s, pm_tl_n, pm_tl_s, pb_X5_take_0, kd_1, rf_1_0, rf_1_1, rf_1_2, rf_1_3, rf_1_4, rf_1_5, rf_1_6, is_5_1, kd_2, rf_2_0, rf_2_1, rf_2_2, rf_2_3, rf_2_4, rf_2_5, rf_2_6, is_5_2, kd_3, rf_3_2, fc_3_0, fc_3_1, is_6_3_3, is_3_6_3, kd_4, rf_4_2, fc_4_0, fc_4_1, is_6_3_4, is_3_6_4, is_3_4, kd_5, rf_5_2, fc_5_0, fc_5_1, is_6_3_5, is_3_6_5, kd_6, rf_6_2, fc_6_0, fc_6_1, is_6_3_6, is_3_6_6, kd_7, rf_7_2, fc_7_0, fc_7_1, is_6_3_7, is_3_6_7, kd_8, rf_8_0, is_0_8, kd_9, rf_9_0, is_0_9, kd_10, rf_10_2, fc_10_0, fc_10_1, is_6_3_10, is_3_6_10, kd_11, rf_11_2, fc_11_0, fc_11_1, is_6_3_11, is_3_6_11, is_3_11, kd_12, rf_12_2, fc_12_0, fc_12_1, is_6_3_12, is_3_6_12, kd_13, rf_13_2, fc_13_0, fc_13_1, is_6_3_13, is_3_6_13, kd_14, rf_14_2, fc_14_0, fc_14_1, is_6_3_14, is_3_6_14, kd_15, rf_15_0, is_0_15, kd_16, rf_16_0, is_0_16, r0, r1, r2, r3, r4, r5, r6, s8, s9]
  · have X : ∀ a, ¬ a = 2 → (pm_si (pm_si (pm_si H6 2 7 (H6.1 1 7)) 2 8 (H6.1 1 8)) 2 9 (H6.1 1 9)).1 a = H6.1 a := fun a ha => by funext b; rw [si_ne _ _ (fun q => ha q.1), si_ne _ _ (fun q => ha q.1), si_ne _ _ (fun q => ha q.1)]
    have Y : ∀ a, ¬ a = 2 → ¬ (10 ≤ a ∧ a < 17) → ¬ (38 ≤ a ∧ a < 45) → H6.1 a = h.1 a := fun a h1 h2 h3 => by rw [f6 a (by omega) (by omega), f5 a (by omega) (by omega), f4 a (by omega) (by omega), f3 a (by omega) (by omega), f2 a (by omega) (by omega), f1 a (by omega) (by omega), f0 a (by omega) (by omega)]
    refine ⟨fun a h1 h2 h3 => (X a h1).trans (Y a h1 (by omega) (by omega)), fun k hk => ?_, ?_, ?_, ⟨?_, ?_, ?_⟩, ?_, ?_, ?_, ?_, ?_, ?_, ?_⟩
    · rcases (show k = 0 ∨ k = 1 ∨ k = 2 ∨ k = 3 ∨ k = 4 by omega) with rfl | rfl | rfl | rfl | rfl
      · show (pm_si (pm_si (pm_si H6 2 7 (H6.1 1 7)) 2 8 (H6.1 1 8)) 2 9 (H6.1 1 9)).1 10 3 = h.1 3 3
        rw [X 10 (by omega), f6 10 (by omega) (by omega), f5 10 (by omega) (by omega), f4 10 (by omega) (by omega), f3 10 (by omega) (by omega), f2 10 (by omega) (by omega), f1 10 (by omega) (by omega), g0]
      · show (pm_si (pm_si (pm_si H6 2 7 (H6.1 1 7)) 2 8 (H6.1 1 8)) 2 9 (H6.1 1 9)).1 11 3 = h.1 4 3
        rw [X 11 (by omega), f6 11 (by omega) (by omega), f5 11 (by omega) (by omega), f4 11 (by omega) (by omega), f3 11 (by omega) (by omega), f2 11 (by omega) (by omega), g1, f0 4 (by omega) (by omega)]
      · show (pm_si (pm_si (pm_si H6 2 7 (H6.1 1 7)) 2 8 (H6.1 1 8)) 2 9 (H6.1 1 9)).1 12 3 = h.1 5 3
        rw [X 12 (by omega), f6 12 (by omega) (by omega), f5 12 (by omega) (by omega), f4 12 (by omega) (by omega), f3 12 (by omega) (by omega), g2, f1 5 (by omega) (by omega), f0 5 (by omega) (by omega)]
      · show (pm_si (pm_si (pm_si H6 2 7 (H6.1 1 7)) 2 8 (H6.1 1 8)) 2 9 (H6.1 1 9)).1 13 3 = h.1 6 3
        rw [X 13 (by omega), f6 13 (by omega) (by omega), f5 13 (by omega) (by omega), f4 13 (by omega) (by omega), g3, f2 6 (by omega) (by omega), f1 6 (by omega) (by omega), f0 6 (by omega) (by omega)]
      · show (pm_si (pm_si (pm_si H6 2 7 (H6.1 1 7)) 2 8 (H6.1 1 8)) 2 9 (H6.1 1 9)).1 14 3 = h.1 7 3
        rw [X 14 (by omega), f6 14 (by omega) (by omega), f5 14 (by omega) (by omega), g4, f3 7 (by omega) (by omega), f2 7 (by omega) (by omega), f1 7 (by omega) (by omega), f0 7 (by omega) (by omega)]
    · show (pm_si (pm_si (pm_si H6 2 7 (H6.1 1 7)) 2 8 (H6.1 1 8)) 2 9 (H6.1 1 9)).1 15 1 = h.1 8 1
      rw [X 15 (by omega), f6 15 (by omega) (by omega), g5, f4 8 (by omega) (by omega), f3 8 (by omega) (by omega), f2 8 (by omega) (by omega), f1 8 (by omega) (by omega), f0 8 (by omega) (by omega)]
    · show (pm_si (pm_si (pm_si H6 2 7 (H6.1 1 7)) 2 8 (H6.1 1 8)) 2 9 (H6.1 1 9)).1 16 1 = h.1 9 1
      rw [X 16 (by omega), g6, f5 9 (by omega) (by omega), f4 9 (by omega) (by omega), f3 9 (by omega) (by omega), f2 9 (by omega) (by omega), f1 9 (by omega) (by omega), f0 9 (by omega) (by omega)]
    · simp only [si_at, Nat.reduceEqDiff, and_false, and_self, if_false, if_true]
      rw [Y 1 (by omega) (by omega) (by omega)]
    · simp only [si_at, Nat.reduceEqDiff, and_false, and_self, if_false, if_true]
      rw [Y 1 (by omega) (by omega) (by omega)]
    · simp only [si_at, Nat.reduceEqDiff, and_false, and_self, if_false, if_true]
      rw [Y 1 (by omega) (by omega) (by omega)]
    · intro b hb
      show (pm_si (pm_si (pm_si H6 2 7 (H6.1 1 7)) 2 8 (H6.1 1 8)) 2 9 (H6.1 1 9)).1 38 b = h.1 31 b
      rw [X 38 (by omega), f6 38 (by omega) (by omega), f5 38 (by omega) (by omega), f4 38 (by omega) (by omega), f3 38 (by omega) (by omega), f2 38 (by omega) (by omega), f1 38 (by omega) (by omega), c0 b hb]
    · intro b hb
      show (pm_si (pm_si (pm_si H6 2 7 (H6.1 1 7)) 2 8 (H6.1 1 8)) 2 9 (H6.1 1 9)).1 39 b = h.1 32 b
      rw [X 39 (by omega), f6 39 (by omega) (by omega), f5 39 (by omega) (by omega), f4 39 (by omega) (by omega), f3 39 (by omega) (by omega), f2 39 (by omega) (by omega), c1 b hb, f0 32 (by omega) (by omega)]
    · intro b hb
      show (pm_si (pm_si (pm_si H6 2 7 (H6.1 1 7)) 2 8 (H6.1 1 8)) 2 9 (H6.1 1 9)).1 40 b = h.1 33 b
      rw [X 40 (by omega), f6 40 (by omega) (by omega), f5 40 (by omega) (by omega), f4 40 (by omega) (by omega), f3 40 (by omega) (by omega), c2 b hb, f1 33 (by omega) (by omega), f0 33 (by omega) (by omega)]
    · intro b hb
      show (pm_si (pm_si (pm_si H6 2 7 (H6.1 1 7)) 2 8 (H6.1 1 8)) 2 9 (H6.1 1 9)).1 41 b = h.1 34 b
      rw [X 41 (by omega), f6 41 (by omega) (by omega), f5 41 (by omega) (by omega), f4 41 (by omega) (by omega), c3 b hb, f2 34 (by omega) (by omega), f1 34 (by omega) (by omega), f0 34 (by omega) (by omega)]
    · intro b hb
      show (pm_si (pm_si (pm_si H6 2 7 (H6.1 1 7)) 2 8 (H6.1 1 8)) 2 9 (H6.1 1 9)).1 42 b = h.1 35 b
      rw [X 42 (by omega), f6 42 (by omega) (by omega), f5 42 (by omega) (by omega), c4 b hb, f3 35 (by omega) (by omega), f2 35 (by omega) (by omega), f1 35 (by omega) (by omega), f0 35 (by omega) (by omega)]
    · intro b hb
      show (pm_si (pm_si (pm_si H6 2 7 (H6.1 1 7)) 2 8 (H6.1 1 8)) 2 9 (H6.1 1 9)).1 43 b = h.1 36 b
      rw [X 43 (by omega), f6 43 (by omega) (by omega), c5 b hb, f4 36 (by omega) (by omega), f3 36 (by omega) (by omega), f2 36 (by omega) (by omega), f1 36 (by omega) (by omega), f0 36 (by omega) (by omega)]
    · intro b hb
      show (pm_si (pm_si (pm_si H6 2 7 (H6.1 1 7)) 2 8 (H6.1 1 8)) 2 9 (H6.1 1 9)).1 44 b = h.1 37 b
      rw [X 44 (by omega), c6 b hb, f5 37 (by omega) (by omega), f4 37 (by omega) (by omega), f3 37 (by omega) (by omega), f2 37 (by omega) (by omega), f1 37 (by omega) (by omega), f0 37 (by omega) (by omega)]
set_option maxRecDepth 100000 in
theorem sp_back {n u nt nb nw : Nat} (iN : RN h 10 61 n u nt nb nw) : ∃ h', rs fb (d + 4) n_X5_take [.ref 1, .ref 2] h = some (none, h') ∧ TK h h' 1 3 31 2 10 38 := by
  obtain ⟨⟨n1, -, -, n4⟩, ⟨u1, -, u3⟩, ⟨t1, -, t3⟩, ⟨b1, -, b3⟩, w1, -, w3⟩ := iN
  have p0 : h.1 10 3 = nI n := by
    exact n1
  obtain ⟨H0, r0, f0, g0, c0⟩ := sp_tt (fb := fb) (d := d) (h := h) (t := 3) (o := 10) (u := n) (by decide) (by decide) (by decide +kernel) (by decide +kernel) p0 (by rw [tQ_10]; exact n4)
  rw [show pm_rf 3 2 = 31 by decide] at f0 c0
  rw [show tC 3 * tR 3 = 120 by decide +kernel, show pm_rf 10 2 = 38 by decide] at c0
  have p1 : H0.1 11 3 = nI u := by
    rw [f0 _ (by decide) (by decide)]
    exact u1
  obtain ⟨H1, r1, f1, g1, c1⟩ := sp_tt (fb := fb) (d := d) (h := H0) (t := 4) (o := 11) (u := u) (by decide) (by decide) (by decide +kernel) (by decide +kernel) p1 (by rw [tQ_11]; exact u3)
  rw [show pm_rf 4 2 = 32 by decide] at f1 c1
  rw [show tC 4 * tR 4 = 40 by decide +kernel, show pm_rf 11 2 = 39 by decide] at c1
  have p2 : H1.1 12 3 = nI nt := by
    rw [f1 _ (by decide) (by decide), f0 _ (by decide) (by decide)]
    exact t1
  obtain ⟨H2, r2, f2, g2, c2⟩ := sp_tt (fb := fb) (d := d) (h := H1) (t := 5) (o := 12) (u := nt) (by decide) (by decide) (by decide +kernel) (by decide +kernel) p2 (by rw [tQ_12]; exact t3)
  rw [show pm_rf 5 2 = 33 by decide] at f2 c2
  rw [show tC 5 * tR 5 = 64 by decide +kernel, show pm_rf 12 2 = 40 by decide] at c2
  have p3 : H2.1 13 3 = nI nb := by
    rw [f2 _ (by decide) (by decide), f1 _ (by decide) (by decide), f0 _ (by decide) (by decide)]
    exact b1
  obtain ⟨H3, r3, f3, g3, c3⟩ := sp_tt (fb := fb) (d := d) (h := H2) (t := 6) (o := 13) (u := nb) (by decide) (by decide) (by decide +kernel) (by decide +kernel) p3 (by rw [tQ_13]; exact b3)
  rw [show pm_rf 6 2 = 34 by decide] at f3 c3
  rw [show tC 6 * tR 6 = 60 by decide +kernel, show pm_rf 13 2 = 41 by decide] at c3
  have p4 : H3.1 14 3 = nI nw := by
    rw [f3 _ (by decide) (by decide), f2 _ (by decide) (by decide), f1 _ (by decide) (by decide), f0 _ (by decide) (by decide)]
    exact w1
  obtain ⟨H4, r4, f4, g4, c4⟩ := sp_tt (fb := fb) (d := d) (h := H3) (t := 7) (o := 14) (u := nw) (by decide) (by decide) (by decide +kernel) (by decide +kernel) p4 (by rw [tQ_14]; exact w3)
  rw [show pm_rf 7 2 = 35 by decide] at f4 c4
  rw [show tC 7 * tR 7 = 24 by decide +kernel, show pm_rf 14 2 = 42 by decide] at c4
  obtain ⟨H5, r5, f5, g5, c5⟩ := sp_lt (fb := fb) (d := d + 2) (h := H4) (t := 8) (o := 15) (by decide) (by decide)
  rw [show pm_rf 8 0 = 36 by decide] at f5 c5
  rw [show pm_rf 15 0 = 43 by decide] at c5
  obtain ⟨H6, r6, f6, g6, c6⟩ := sp_lt (fb := fb) (d := d + 2) (h := H5) (t := 9) (o := 16) (by decide) (by decide)
  rw [show pm_rf 9 0 = 37 by decide] at f6 c6
  rw [show pm_rf 16 0 = 44 by decide] at c6
  refine ⟨pm_si (pm_si (pm_si H6 1 7 (H6.1 2 7)) 1 8 (H6.1 2 8)) 1 9 (H6.1 2 9), ?_, ?_⟩
  · have s8 : (pm_si H6 1 7 (H6.1 2 7)).1 2 8 = H6.1 2 8 := si_ne _ _ (by omega)
    have s9 : (pm_si (pm_si H6 1 7 (H6.1 2 7)) 1 8 (H6.1 2 8)).1 2 9 = H6.1 2 9 := (si_ne _ _ (by omega)).trans (si_ne _ _ (by omega))
    rw [en_X5_take]
    simp only [cs8_0, cs8_1, cs8_2, cs8_3, cs8_4, ev_ald0, ev_ald1, ev_aldn0, ev_aldn1, ev_cv1, ev_gi, ev_gr, ev_pi, ev_rv, is_sw, pm_bd_s, pm_tl_n, pm_tl_s, pb_X5_take_0, kd_1, rf_1_0, rf_1_1, rf_1_2, rf_1_3, rf_1_4, rf_1_5, rf_1_6, is_5_1, kd_2, rf_2_0, rf_2_1, rf_2_2, rf_2_3, rf_2_4, rf_2_5, rf_2_6, is_5_2, kd_3, rf_3_2, fc_3_0, fc_3_1, is_6_3_3, is_3_6_3, kd_4, rf_4_2, fc_4_0, fc_4_1, is_6_3_4, is_3_6_4, is_3_4, kd_5, rf_5_2, fc_5_0, fc_5_1, is_6_3_5, is_3_6_5, kd_6, rf_6_2, fc_6_0, fc_6_1, is_6_3_6, is_3_6_6, kd_7, rf_7_2, fc_7_0, fc_7_1, is_6_3_7, is_3_6_7, kd_8, rf_8_0, is_0_8, kd_9, rf_9_0, is_0_9, kd_10, rf_10_2, fc_10_0, fc_10_1, is_6_3_10, is_3_6_10, kd_11, rf_11_2, fc_11_0, fc_11_1, is_6_3_11, is_3_6_11, is_3_11, kd_12, rf_12_2, fc_12_0, fc_12_1, is_6_3_12, is_3_6_12, kd_13, rf_13_2, fc_13_0, fc_13_1, is_6_3_13, is_3_6_13, kd_14, rf_14_2, fc_14_0, fc_14_1, is_6_3_14, is_3_6_14, kd_15, rf_15_0, is_0_15, kd_16, rf_16_0, is_0_16, r0, r1, r2, r3, r4, r5, r6, s8, s9]
  · have X : ∀ a, ¬ a = 1 → (pm_si (pm_si (pm_si H6 1 7 (H6.1 2 7)) 1 8 (H6.1 2 8)) 1 9 (H6.1 2 9)).1 a = H6.1 a := fun a ha => by funext b; rw [si_ne _ _ (fun q => ha q.1), si_ne _ _ (fun q => ha q.1), si_ne _ _ (fun q => ha q.1)]
    have Y : ∀ a, ¬ a = 1 → ¬ (3 ≤ a ∧ a < 10) → ¬ (31 ≤ a ∧ a < 38) → H6.1 a = h.1 a := fun a h1 h2 h3 => by rw [f6 a (by omega) (by omega), f5 a (by omega) (by omega), f4 a (by omega) (by omega), f3 a (by omega) (by omega), f2 a (by omega) (by omega), f1 a (by omega) (by omega), f0 a (by omega) (by omega)]
    refine ⟨fun a h1 h2 h3 => (X a h1).trans (Y a h1 (by omega) (by omega)), fun k hk => ?_, ?_, ?_, ⟨?_, ?_, ?_⟩, ?_, ?_, ?_, ?_, ?_, ?_, ?_⟩
    · rcases (show k = 0 ∨ k = 1 ∨ k = 2 ∨ k = 3 ∨ k = 4 by omega) with rfl | rfl | rfl | rfl | rfl
      · show (pm_si (pm_si (pm_si H6 1 7 (H6.1 2 7)) 1 8 (H6.1 2 8)) 1 9 (H6.1 2 9)).1 3 3 = h.1 10 3
        rw [X 3 (by omega), f6 3 (by omega) (by omega), f5 3 (by omega) (by omega), f4 3 (by omega) (by omega), f3 3 (by omega) (by omega), f2 3 (by omega) (by omega), f1 3 (by omega) (by omega), g0]
      · show (pm_si (pm_si (pm_si H6 1 7 (H6.1 2 7)) 1 8 (H6.1 2 8)) 1 9 (H6.1 2 9)).1 4 3 = h.1 11 3
        rw [X 4 (by omega), f6 4 (by omega) (by omega), f5 4 (by omega) (by omega), f4 4 (by omega) (by omega), f3 4 (by omega) (by omega), f2 4 (by omega) (by omega), g1, f0 11 (by omega) (by omega)]
      · show (pm_si (pm_si (pm_si H6 1 7 (H6.1 2 7)) 1 8 (H6.1 2 8)) 1 9 (H6.1 2 9)).1 5 3 = h.1 12 3
        rw [X 5 (by omega), f6 5 (by omega) (by omega), f5 5 (by omega) (by omega), f4 5 (by omega) (by omega), f3 5 (by omega) (by omega), g2, f1 12 (by omega) (by omega), f0 12 (by omega) (by omega)]
      · show (pm_si (pm_si (pm_si H6 1 7 (H6.1 2 7)) 1 8 (H6.1 2 8)) 1 9 (H6.1 2 9)).1 6 3 = h.1 13 3
        rw [X 6 (by omega), f6 6 (by omega) (by omega), f5 6 (by omega) (by omega), f4 6 (by omega) (by omega), g3, f2 13 (by omega) (by omega), f1 13 (by omega) (by omega), f0 13 (by omega) (by omega)]
      · show (pm_si (pm_si (pm_si H6 1 7 (H6.1 2 7)) 1 8 (H6.1 2 8)) 1 9 (H6.1 2 9)).1 7 3 = h.1 14 3
        rw [X 7 (by omega), f6 7 (by omega) (by omega), f5 7 (by omega) (by omega), g4, f3 14 (by omega) (by omega), f2 14 (by omega) (by omega), f1 14 (by omega) (by omega), f0 14 (by omega) (by omega)]
    · show (pm_si (pm_si (pm_si H6 1 7 (H6.1 2 7)) 1 8 (H6.1 2 8)) 1 9 (H6.1 2 9)).1 8 1 = h.1 15 1
      rw [X 8 (by omega), f6 8 (by omega) (by omega), g5, f4 15 (by omega) (by omega), f3 15 (by omega) (by omega), f2 15 (by omega) (by omega), f1 15 (by omega) (by omega), f0 15 (by omega) (by omega)]
    · show (pm_si (pm_si (pm_si H6 1 7 (H6.1 2 7)) 1 8 (H6.1 2 8)) 1 9 (H6.1 2 9)).1 9 1 = h.1 16 1
      rw [X 9 (by omega), g6, f5 16 (by omega) (by omega), f4 16 (by omega) (by omega), f3 16 (by omega) (by omega), f2 16 (by omega) (by omega), f1 16 (by omega) (by omega), f0 16 (by omega) (by omega)]
    · simp only [si_at, Nat.reduceEqDiff, and_false, and_self, if_false, if_true]
      rw [Y 2 (by omega) (by omega) (by omega)]
    · simp only [si_at, Nat.reduceEqDiff, and_false, and_self, if_false, if_true]
      rw [Y 2 (by omega) (by omega) (by omega)]
    · simp only [si_at, Nat.reduceEqDiff, and_false, and_self, if_false, if_true]
      rw [Y 2 (by omega) (by omega) (by omega)]
    · intro b hb
      show (pm_si (pm_si (pm_si H6 1 7 (H6.1 2 7)) 1 8 (H6.1 2 8)) 1 9 (H6.1 2 9)).1 31 b = h.1 38 b
      rw [X 31 (by omega), f6 31 (by omega) (by omega), f5 31 (by omega) (by omega), f4 31 (by omega) (by omega), f3 31 (by omega) (by omega), f2 31 (by omega) (by omega), f1 31 (by omega) (by omega), c0 b hb]
    · intro b hb
      show (pm_si (pm_si (pm_si H6 1 7 (H6.1 2 7)) 1 8 (H6.1 2 8)) 1 9 (H6.1 2 9)).1 32 b = h.1 39 b
      rw [X 32 (by omega), f6 32 (by omega) (by omega), f5 32 (by omega) (by omega), f4 32 (by omega) (by omega), f3 32 (by omega) (by omega), f2 32 (by omega) (by omega), c1 b hb, f0 39 (by omega) (by omega)]
    · intro b hb
      show (pm_si (pm_si (pm_si H6 1 7 (H6.1 2 7)) 1 8 (H6.1 2 8)) 1 9 (H6.1 2 9)).1 33 b = h.1 40 b
      rw [X 33 (by omega), f6 33 (by omega) (by omega), f5 33 (by omega) (by omega), f4 33 (by omega) (by omega), f3 33 (by omega) (by omega), c2 b hb, f1 40 (by omega) (by omega), f0 40 (by omega) (by omega)]
    · intro b hb
      show (pm_si (pm_si (pm_si H6 1 7 (H6.1 2 7)) 1 8 (H6.1 2 8)) 1 9 (H6.1 2 9)).1 34 b = h.1 41 b
      rw [X 34 (by omega), f6 34 (by omega) (by omega), f5 34 (by omega) (by omega), f4 34 (by omega) (by omega), c3 b hb, f2 41 (by omega) (by omega), f1 41 (by omega) (by omega), f0 41 (by omega) (by omega)]
    · intro b hb
      show (pm_si (pm_si (pm_si H6 1 7 (H6.1 2 7)) 1 8 (H6.1 2 8)) 1 9 (H6.1 2 9)).1 35 b = h.1 42 b
      rw [X 35 (by omega), f6 35 (by omega) (by omega), f5 35 (by omega) (by omega), c4 b hb, f3 42 (by omega) (by omega), f2 42 (by omega) (by omega), f1 42 (by omega) (by omega), f0 42 (by omega) (by omega)]
    · intro b hb
      show (pm_si (pm_si (pm_si H6 1 7 (H6.1 2 7)) 1 8 (H6.1 2 8)) 1 9 (H6.1 2 9)).1 36 b = h.1 43 b
      rw [X 36 (by omega), f6 36 (by omega) (by omega), c5 b hb, f4 43 (by omega) (by omega), f3 43 (by omega) (by omega), f2 43 (by omega) (by omega), f1 43 (by omega) (by omega), f0 43 (by omega) (by omega)]
    · intro b hb
      show (pm_si (pm_si (pm_si H6 1 7 (H6.1 2 7)) 1 8 (H6.1 2 8)) 1 9 (H6.1 2 9)).1 37 b = h.1 44 b
      rw [X 37 (by omega), c6 b hb, f5 44 (by omega) (by omega), f4 44 (by omega) (by omega), f3 44 (by omega) (by omega), f2 44 (by omega) (by omega), f1 44 (by omega) (by omega), f0 44 (by omega) (by omega)]
end PM
section PN
variable {fb : Bool} {d : Nat} {h : pm_HP}
theorem cq_61 (j : Nat) (hj : j < 440) : (cq h 60 61 440).1 61 j = h.1 60 j := by rw [cq_at, if_pos ⟨rfl, hj⟩]
theorem pr_image (hI : Inv h) : Pr fb (d + 100) n_X8_image n_X9_image [] h := by
  obtain ⟨i1, i2, i3, i4, i5, i6⟩ := id hI
  obtain ⟨⟨n, u, nt, nb, nw, iN⟩, -⟩ := id i1
  obtain ⟨h1, r1, k1⟩ := sp_keep (fb := fb) (d := d + 95) (h := h) iN
  have kE := k1.1
  have e0 : h1.1 0 = h.1 0 := kE 0 (by omega) (by omega) (by omega)
  have e59 : h1.1 59 = h.1 59 := kE 59 (by omega) (by omega) (by omega)
  have e60 : h1.1 60 = h.1 60 := kE 60 (by omega) (by omega) (by omega)
  have rc := sr_copy (fb := fb) (d := d + 98) (h := pm_si h1 0 9 (h1.1 0 9 + 1)) (a := 60) (b := 61) (by decide) (by decide) (by decide) (by decide) (by omega)
  have V : ∀ a b, (pm_si (cq (pm_si h1 0 9 (h1.1 0 9 + 1)) 60 61 440) 59 2 (h.1 59 2 + 1)).1 a b = if a = 59 ∧ b = 2 then h.1 59 2 + 1 else if a = 61 ∧ b < 440 then h.1 60 b else if a = 0 ∧ b = 9 then h.1 0 9 + 1 else h1.1 a b := by
    intro a b
    rw [si_at, cq_at, si_ne (a := 0) (b := 60) _ _ (by omega), e60, si_at, e0]
  have W : ∀ a, ¬ a = 0 → ¬ a = 59 → ¬ a = 61 → (pm_si (cq (pm_si h1 0 9 (h1.1 0 9 + 1)) 60 61 440) 59 2 (h.1 59 2 + 1)).1 a = h1.1 a := by
    intro a n1 n2 n3
    funext b
    rw [V, if_neg (by omega), if_neg (by omega), if_neg (by omega)]
  have U : ∀ a, ¬ a = 0 → ¬ a = 59 → ¬ a = 61 → ¬ a = 2 → ¬ (10 ≤ a ∧ a < 17) → ¬ (38 ≤ a ∧ a < 45) → (pm_si (cq (pm_si h1 0 9 (h1.1 0 9 + 1)) 60 61 440) 59 2 (h.1 59 2 + 1)).1 a = h.1 a := fun a n1 n2 n3 n4 n5 n6 => (W a n1 n2 n3).trans (kE a n4 (by omega) (by omega))
  refine ⟨h.1 0 9 + 1, pm_si h1 0 9 (h1.1 0 9 + 1), pm_si (cq (pm_si h1 0 9 (h1.1 0 9 + 1)) 60 61 440) 59 2 (h.1 59 2 + 1), ?_, ?_, ?_⟩
  · rw [en_X8_image]
    simp only [cs8_0, cs8_1, cs8_2, cs8_3, cs8_4, ev_ald0, ev_aldn0, ev_bin, ev_cv1, ev_dup_i, ev_dup_r, ev_gi, ev_gr, ev_i, ev_pi, ev_ri, pm_bd_s, pm_tl_n, pm_tl_s, pb_X8_image_0, kd_0, rf_0_0, rf_0_1, rf_0_2, rf_0_3, rf_0_4, rf_0_5, rf_0_6, rf_0_7, rf_0_8, is_8_0, kd_1, rf_1_0, rf_1_1, rf_1_2, rf_1_3, rf_1_4, rf_1_5, rf_1_6, is_5_1, kd_2, rf_2_0, rf_2_1, rf_2_2, rf_2_3, rf_2_4, rf_2_5, rf_2_6, is_5_2, r1, si_same, e0]
  · have q : (cq (pm_si h1 0 9 (h1.1 0 9 + 1)) 60 61 440).1 59 2 = h.1 59 2 := by
      rw [cq_at, if_neg (by omega), si_ne _ _ (by omega), e59]
    rw [en_X9_image]
    simp only [cs8_0, cs8_1, cs8_2, cs8_3, cs8_4, ev_ald0, ev_aldn0, ev_bin, ev_cs2, ev_dup_i, ev_dup_r, ev_gi, ev_gr, ev_i, ev_pi, ev_ri, pm_bd_s, pm_tl_n, pm_tl_s, pb_X9_image_0, kd_59, rf_59_0, rf_59_1, rf_59_3, rf_59_4, rf_59_5, rf_59_6, rf_59_7, rf_59_12, rf_59_14, rf_59_15, rf_59_16, rf_59_19, rf_59_23, rf_59_24, rf_59_25, rf_59_26, is_9_59, kd_60, al_60, kd_61, al_61, rc, q, si_same]
    rw [i2.1]
  · obtain ⟨-, kT, k5, k6, kS, a0, a1, a2, a3, a4, a5, a6⟩ := k1
    refine ⟨SR_eq i1 (U _ (by omega) (by omega) (by omega) (by omega) (by omega) (by omega)) (U _ (by omega) (by omega) (by omega) (by omega) (by omega) (by omega)) (fun k hk => U _ (by omega) (by omega) (by omega) (by omega) (by omega) (by omega)) (fun k hk => U _ (by omega) (by omega) (by omega) (by omega) (by omega) (by omega)), ⟨?_, Or.inr ?_⟩, ?_, ?_, ?_, ?_⟩
    · rw [V, V, if_neg (by omega), if_neg (by omega), if_pos ⟨rfl, rfl⟩, if_pos ⟨rfl, rfl⟩, i2.1]
    · refine SR_cp (B' := 61) i1 (fun k hk => ?_) ?_ ?_ ?_ (fun b hb => ?_) (fun b hb => ?_) (fun b hb => ?_) (fun b hb => ?_) (fun b hb => ?_) (fun b hb => ?_) (fun b hb => ?_) (fun j hj => ?_)
      · rw [W _ (by omega) (by omega) (by omega)]; exact kT k hk
      · rw [W _ (by omega) (by omega) (by omega)]; exact k5
      · rw [W _ (by omega) (by omega) (by omega)]; exact k6
      · rw [W _ (by omega) (by omega) (by omega)]; exact kS
      · rw [W _ (by omega) (by omega) (by omega)]; exact a0 b hb
      · rw [W _ (by omega) (by omega) (by omega)]; exact a1 b hb
      · rw [W _ (by omega) (by omega) (by omega)]; exact a2 b hb
      · rw [W _ (by omega) (by omega) (by omega)]; exact a3 b hb
      · rw [W _ (by omega) (by omega) (by omega)]; exact a4 b hb
      · rw [W _ (by omega) (by omega) (by omega)]; exact a5 b hb
      · rw [W _ (by omega) (by omega) (by omega)]; exact a6 b hb
      · rw [V, if_neg (by omega), if_pos ⟨rfl, hj⟩]
    · unfold RE
      rw [U 28 (by omega) (by omega) (by omega) (by omega) (by omega) (by omega), U 62 (by omega) (by omega) (by omega) (by omega) (by omega) (by omega)]
      exact i3
    · obtain ⟨v, v0, v1, v2, v3⟩ := i4
      refine ⟨v, v0, ?_, ?_, fun i hi => ?_⟩
      · rw [U 22 (by omega) (by omega) (by omega) (by omega) (by omega) (by omega)]; exact v1
      · rw [V, if_neg (by omega), if_neg (by omega), if_neg (by omega), e59]; exact v2
      · rw [U 47 (by omega) (by omega) (by omega) (by omega) (by omega) (by omega), U 71 (by omega) (by omega) (by omega) (by omega) (by omega) (by omega)]; exact v3 i hi
    · intro k hk
      obtain ⟨z, g1, g2, g3, g4, g5, g6⟩ := i5 k hk
      rw [U (23 + k) (by omega) (by omega) (by omega) (by omega) (by omega) (by omega), U (48 + k) (by omega) (by omega) (by omega) (by omega) (by omega) (by omega), U 72 (by omega) (by omega) (by omega) (by omega) (by omega) (by omega), U 73 (by omega) (by omega) (by omega) (by omega) (by omega) (by omega), U 74 (by omega) (by omega) (by omega) (by omega) (by omega) (by omega)]
      exact ⟨z, g1, g2, g3, g4, g5, g6⟩
    · unfold R0
      rw [U 52 (by omega) (by omega) (by omega) (by omega) (by omega) (by omega), U 53 (by omega) (by omega) (by omega) (by omega) (by omega) (by omega), U 63 (by omega) (by omega) (by omega) (by omega) (by omega) (by omega), U 64 (by omega) (by omega) (by omega) (by omega) (by omega) (by omega)]
      exact i6
theorem pr_restore (hI : Inv h) : Pr fb (d + 100) n_X8_restore n_X9_restore [] h := by
  obtain ⟨i1, i2, i3, i4, i5, i6⟩ := id hI
  by_cases q : h.1 59 2 = 0
  · have q0 : h.1 0 9 = 0 := i2.1.trans q
    refine Pr_e (e := 2) (x := -1000000002) hI (by omega) (by omega) ?_ ?_
    · rw [en_X8_restore]
      simp only [cs8_0, cs8_1, cs8_2, cs8_3, cs8_4, decide_eq_true_eq, ev_ald0, ev_aldn0, ev_cv0, ev_cv1, ev_gi, ev_gr, ev_i, ev_if0, ev_ri, i00, i01, i10, is_sw, not_false_eq_true, not_true_eq_false, pm_bd_s, pm_tl_n, pm_tl_s, ↓reduceIte, pb_X8_restore_0, pb_X8_restore_1, kd_0, rf_0_0, rf_0_1, rf_0_2, rf_0_3, rf_0_4, rf_0_5, rf_0_6, rf_0_7, rf_0_8, is_8_0, q0, not_true_eq_false, if_true, if_false, fail_2, F2]
    · have q' : (pm_si h 28 2 (h.1 28 2 + 1)).1 59 2 = 0 := q
      rw [en_X9_restore]
      simp only [cs8_0, cs8_1, cs8_2, cs8_3, cs8_4, decide_eq_true_eq, ev_ald0, ev_aldn0, ev_cs2, ev_cv1, ev_gi, ev_gr, ev_i, ev_ia, ev_if0, ev_ri, i00, i01, i10, not_false_eq_true, not_true_eq_false, pm_bd_s, pm_tl_n, pm_tl_s, ↓reduceIte, pb_X9_restore_0, pb_X9_restore_1, kd_59, rf_59_0, rf_59_1, rf_59_3, rf_59_4, rf_59_5, rf_59_6, rf_59_7, rf_59_12, rf_59_14, rf_59_15, rf_59_16, rf_59_19, rf_59_23, rf_59_24, rf_59_25, rf_59_26, is_9_59, q', not_true_eq_false, if_true, if_false, find_2]
  · have q0 : ¬ h.1 0 9 = 0 := by rw [i2.1]; exact q
    have iK := i2.2.resolve_left q
    obtain ⟨⟨n, u, nt, nb, nw, iN⟩, -⟩ := id iK
    obtain ⟨h1, r1, k1⟩ := sp_back (fb := fb) (d := d + 95) (h := h) iN
    have kE := k1.1
    have e60 : h1.1 60 = h.1 60 := kE 60 (by omega) (by omega) (by omega)
    have e61 : h1.1 61 = h.1 61 := kE 61 (by omega) (by omega) (by omega)
    have rc := sr_copy (fb := fb) (d := d + 98) (h := h1) (a := 61) (b := 60) (by decide) (by decide) (by decide) (by decide) (by omega)
    have V : ∀ a b, (cq h1 61 60 440).1 a b = if a = 60 ∧ b < 440 then h.1 61 b else h1.1 a b := by
      intro a b
      rw [cq_at, e61]
    have W : ∀ a, ¬ a = 60 → (cq h1 61 60 440).1 a = h1.1 a := by
      intro a n1
      funext b
      rw [V, if_neg (by omega)]
    have U : ∀ a, ¬ a = 60 → ¬ a = 1 → ¬ (3 ≤ a ∧ a < 10) → ¬ (31 ≤ a ∧ a < 38) → (cq h1 61 60 440).1 a = h.1 a := fun a n1 n2 n3 n4 => (W a n1).trans (kE a n2 (by omega) (by omega))
    obtain ⟨-, kT, k5, k6, kS, a0, a1, a2, a3, a4, a5, a6⟩ := k1
    have n3 : h1.1 3 3 = nI n := by
      have := kT 0 (by omega)
      rw [Nat.add_zero, Nat.add_zero] at this
      rw [this]; exact iN.1.1
    refine ⟨nI n, h1, cq h1 61 60 440, ?_, ?_, ?_⟩
    · rw [en_X8_restore]
      simp only [cs8_0, cs8_1, cs8_2, cs8_3, cs8_4, decide_eq_true_eq, ev_ald0, ev_aldn0, ev_cv0, ev_cv1, ev_gi, ev_gr, ev_i, ev_if0, ev_ri, i00, i01, i10, is_sw, not_false_eq_true, not_true_eq_false, pm_bd_s, pm_tl_n, pm_tl_s, ↓reduceIte, pb_X8_restore_0, pb_X8_restore_1, kd_0, rf_0_0, rf_0_1, rf_0_2, rf_0_3, rf_0_4, rf_0_5, rf_0_6, rf_0_7, rf_0_8, is_8_0, kd_1, rf_1_0, rf_1_1, rf_1_2, rf_1_3, rf_1_4, rf_1_5, rf_1_6, is_5_1, kd_2, rf_2_0, rf_2_1, rf_2_2, rf_2_3, rf_2_4, rf_2_5, rf_2_6, is_5_2, kd_3, rf_3_2, fc_3_0, fc_3_1, is_6_3_3, is_3_6_3, q0, not_false_eq_true, if_true, if_false, r1, sp_used, n3]
    · have q' : ¬ h1.1 59 2 = 0 := by rw [kE 59 (by omega) (by omega) (by omega)]; exact q
      have ix0 : pm_ix (0 : Int32) 440 = true := by decide
      have cl0 : (0 : Int32).toNatClampNeg = 0 := by decide
      have v0 : (cq h1 61 60 440).1 60 0 = nI n := by rw [V, if_pos ⟨rfl, by omega⟩]; exact iN.1.2.1
      rw [en_X9_restore]
      simp only [cs8_0, cs8_1, cs8_2, cs8_3, cs8_4, decide_eq_true_eq, ev_ald0, ev_aldn0, ev_cs2, ev_cv1, ev_gi, ev_gr, ev_i, ev_ia, ev_if0, ev_ri, i00, i01, i10, not_false_eq_true, not_true_eq_false, pm_bd_s, pm_tl_n, pm_tl_s, ↓reduceIte, pb_X9_restore_0, pb_X9_restore_1, kd_59, rf_59_0, rf_59_1, rf_59_3, rf_59_4, rf_59_5, rf_59_6, rf_59_7, rf_59_12, rf_59_14, rf_59_15, rf_59_16, rf_59_19, rf_59_23, rf_59_24, rf_59_25, rf_59_26, is_9_59, kd_60, al_60, kd_61, al_61, q', not_false_eq_true, if_true, if_false, rc, ix0, cl0, v0]
    · refine ⟨?_, ⟨?_, Or.inr ?_⟩, ?_, ?_, ?_, ?_⟩
      · refine SR_cp (B' := 60) iK (fun k hk => ?_) ?_ ?_ ?_ (fun b hb => ?_) (fun b hb => ?_) (fun b hb => ?_) (fun b hb => ?_) (fun b hb => ?_) (fun b hb => ?_) (fun b hb => ?_) (fun j hj => ?_)
        · rw [W _ (by omega)]; exact kT k hk
        · rw [W _ (by omega)]; exact k5
        · rw [W _ (by omega)]; exact k6
        · rw [W _ (by omega)]; exact kS
        · rw [W _ (by omega)]; exact a0 b hb
        · rw [W _ (by omega)]; exact a1 b hb
        · rw [W _ (by omega)]; exact a2 b hb
        · rw [W _ (by omega)]; exact a3 b hb
        · rw [W _ (by omega)]; exact a4 b hb
        · rw [W _ (by omega)]; exact a5 b hb
        · rw [W _ (by omega)]; exact a6 b hb
        · rw [V, if_pos ⟨rfl, hj⟩]
      · rw [U 0 (by omega) (by omega) (by omega) (by omega), U 59 (by omega) (by omega) (by omega) (by omega)]; exact i2.1
      · exact SR_eq iK (U _ (by omega) (by omega) (by omega) (by omega)) (U _ (by omega) (by omega) (by omega) (by omega)) (fun k hk => U _ (by omega) (by omega) (by omega) (by omega)) (fun k hk => U _ (by omega) (by omega) (by omega) (by omega))
      · unfold RE
        rw [U 28 (by omega) (by omega) (by omega) (by omega), U 62 (by omega) (by omega) (by omega) (by omega)]
        exact i3
      · unfold RV
        rw [U 22 (by omega) (by omega) (by omega) (by omega), U 59 (by omega) (by omega) (by omega) (by omega), U 47 (by omega) (by omega) (by omega) (by omega), U 71 (by omega) (by omega) (by omega) (by omega)]
        exact i4
      · intro k hk
        obtain ⟨z, g1, g2, g3, g4, g5, g6⟩ := i5 k hk
        rw [U (23 + k) (by omega) (by omega) (by omega) (by omega), U (48 + k) (by omega) (by omega) (by omega) (by omega), U 72 (by omega) (by omega) (by omega) (by omega), U 73 (by omega) (by omega) (by omega) (by omega), U 74 (by omega) (by omega) (by omega) (by omega)]
        exact ⟨z, g1, g2, g3, g4, g5, g6⟩
      · unfold R0
        rw [U 52 (by omega) (by omega) (by omega) (by omega), U 53 (by omega) (by omega) (by omega) (by omega), U 63 (by omega) (by omega) (by omega) (by omega), U 64 (by omega) (by omega) (by omega) (by omega)]
        exact i6
end PN
