/-! THE LAW'S LOOP: all cases, all of the script -/
section LQ
variable {fb : Bool} {L : Nat} {xs : Nat → Int32} {h : pm_HP}
theorem lc_sw {i x q : Int32} {b d : Nat} {r : List (Int32 × Nat)} (h1 : lc_G fb L xs i (P_L xs L b) h) (h2 : ∃ h', Inv h' ∧ pm_ev (P_L xs L) (rs fb (1 + 100)) [ac_sw r d] [some (.ref 88), some (.ref 0), some (.ref 59), some (.int i)] (.int x :: []) h = pm_ev (P_L xs L) (rs fb (1 + 100)) (P_L xs L 45) [some (.ref 88), some (.ref 0), some (.ref 59), some (.int i)] [] h') : ∃ h', Inv h' ∧ pm_ev (P_L xs L) (rs fb (1 + 100)) [ac_sw ((q, b) :: r) d] [some (.ref 88), some (.ref 0), some (.ref 59), some (.int i)] (.int x :: []) h = pm_ev (P_L xs L) (rs fb (1 + 100)) (P_L xs L 45) [some (.ref 88), some (.ref 0), some (.ref 59), some (.int i)] [] h' := by
  rw [ev_sw_1]
  by_cases hq : x = q
  · rw [if_pos hq]; exact h1
  · rw [if_neg hq]; exact h2
theorem lc_swd {i x : Int32} (hI : Inv h) : ∃ h', Inv h' ∧ pm_ev (P_L xs L) (rs fb (1 + 100)) [ac_sw [] 45] [some (.ref 88), some (.ref 0), some (.ref 59), some (.int i)] (.int x :: []) h = pm_ev (P_L xs L) (rs fb (1 + 100)) (P_L xs L 45) [some (.ref 88), some (.ref 0), some (.ref 59), some (.int i)] [] h' := ⟨h, hI, by rw [ev_sw_0]⟩
set_option maxRecDepth 100000 in
theorem lc_all {i x : Int32} (hI : Inv h) (i1 : pm_ix (i + 1) L = true) (i2 : pm_ix (i + 2) L = true) (i3 : pm_ix (i + 3) L = true) (i4 : pm_ix (i + 4) L = true) (i5 : pm_ix (i + 5) L = true) : ∃ h', Inv h' ∧ pm_ev (P_L xs L) (rs fb (1 + 100)) [ac_sw [(0, 1), (1, 2), (2, 3), (3, 4), (4, 5), (5, 6), (6, 7), (7, 8), (8, 9), (9, 10), (10, 11), (11, 12), (12, 13), (13, 14), (14, 15), (15, 16), (16, 17), (17, 18), (18, 19), (19, 20), (20, 21), (21, 22), (22, 23), (23, 24), (24, 25), (25, 26), (26, 27), (27, 28), (28, 29), (29, 30), (30, 31), (31, 32), (32, 33), (33, 34), (34, 35), (35, 36), (36, 37), (37, 38), (38, 39), (39, 40), (40, 41), (41, 42), (42, 43), (43, 44)] 45] [some (.ref 88), some (.ref 0), some (.ref 59), some (.int i)] (.int x :: []) h = pm_ev (P_L xs L) (rs fb (1 + 100)) (P_L xs L 45) [some (.ref 88), some (.ref 0), some (.ref 59), some (.int i)] [] h' := by
  refine lc_sw (lc_1 hI i1 i2 i3 i4 i5) ?_
  refine lc_sw (lc_2 hI i1 i2 i3 i4 i5) ?_
  refine lc_sw (lc_3 hI i1 i2 i3 i4 i5) ?_
  refine lc_sw (lc_4 hI i1 i2 i3 i4 i5) ?_
  refine lc_sw (lc_5 hI i1 i2 i3 i4 i5) ?_
  refine lc_sw (lc_6 hI i1 i2 i3 i4 i5) ?_
  refine lc_sw (lc_7 hI i1 i2 i3 i4 i5) ?_
  refine lc_sw (lc_8 hI i1 i2 i3 i4 i5) ?_
  refine lc_sw (lc_9 hI i1 i2 i3 i4 i5) ?_
  refine lc_sw (lc_10 hI i1 i2 i3 i4 i5) ?_
  refine lc_sw (lc_11 hI i1 i2 i3 i4 i5) ?_
  refine lc_sw (lc_12 hI i1 i2 i3 i4 i5) ?_
  refine lc_sw (lc_13 hI i1 i2 i3 i4 i5) ?_
  refine lc_sw (lc_14 hI i1 i2 i3 i4 i5) ?_
  refine lc_sw (lc_15 hI i1 i2 i3 i4 i5) ?_
  refine lc_sw (lc_16 hI i1 i2 i3 i4 i5) ?_
  refine lc_sw (lc_17 hI i1 i2 i3 i4 i5) ?_
  refine lc_sw (lc_18 hI i1 i2 i3 i4 i5) ?_
  refine lc_sw (lc_19 hI i1 i2 i3 i4 i5) ?_
  refine lc_sw (lc_20 hI i1 i2 i3 i4 i5) ?_
  refine lc_sw (lc_21 hI i1 i2 i3 i4 i5) ?_
  refine lc_sw (lc_22 hI i1 i2 i3 i4 i5) ?_
  refine lc_sw (lc_23 hI i1 i2 i3 i4 i5) ?_
  refine lc_sw (lc_24 hI i1 i2 i3 i4 i5) ?_
  refine lc_sw (lc_25 hI i1 i2 i3 i4 i5) ?_
  refine lc_sw (lc_26 hI i1 i2 i3 i4 i5) ?_
  refine lc_sw (lc_27 hI i1 i2 i3 i4 i5) ?_
  refine lc_sw (lc_28 hI i1 i2 i3 i4 i5) ?_
  refine lc_sw (lc_29 hI i1 i2 i3 i4 i5) ?_
  refine lc_sw (lc_30 hI i1 i2 i3 i4 i5) ?_
  refine lc_sw (lc_31 hI i1 i2 i3 i4 i5) ?_
  refine lc_sw (lc_32 hI i1 i2 i3 i4 i5) ?_
  refine lc_sw (lc_33 hI i1 i2 i3 i4 i5) ?_
  refine lc_sw (lc_34 hI i1 i2 i3 i4 i5) ?_
  refine lc_sw (lc_35 hI i1 i2 i3 i4 i5) ?_
  refine lc_sw (lc_36 hI i1 i2 i3 i4 i5) ?_
  refine lc_sw (lc_37 hI i1 i2 i3 i4 i5) ?_
  refine lc_sw (lc_38 hI i1 i2 i3 i4 i5) ?_
  refine lc_sw (lc_39 hI i1 i2 i3 i4 i5) ?_
  refine lc_sw (lc_40 hI i1 i2 i3 i4 i5) ?_
  refine lc_sw (lc_41 hI i1 i2 i3 i4 i5) ?_
  refine lc_sw (lc_42 hI i1 i2 i3 i4 i5) ?_
  refine lc_sw (lc_43 hI i1 i2 i3 i4 i5) ?_
  refine lc_sw (lc_44 hI i1 i2 i3 i4 i5) ?_
  exact lc_swd hI
theorem li_6 {n L : Nat} (hL : L ≤ 3072) (hn : n ≤ L) (hc : ¬ nI L - 6 < nI n) : n + 6 ≤ L := by
  rcases Nat.lt_or_ge L 6 with q | q
  · exfalso
    apply hc
    have hd : ∀ M, M < 6 → (nI M - 6).toInt = (M : Int) - 6 := by decide
    have hs := hd L q
    rw [Int32.lt_iff_toInt_lt, hs, nI_toInt (by omega)]
    omega
  · have e : nI L - 6 = nI (L - 6) := by
      have e1 : nI L = nI (L - 6) + 6 := by
        rw [show (6 : Int32) = nI 6 from rfl, nI_add, Nat.sub_add_cancel q]
      rw [e1, Int32.add_sub_cancel]
    rw [e] at hc
    rcases Nat.lt_or_ge (L - 6) n with g | g
    · exact absurd (nI_lt g (by omega)) hc
    · omega
theorem li_k {n k L : Nat} (hL : L ≤ 3072) (hn : n + k < L) {x : Int32} (hx : x = nI k) : pm_ix (nI n + x) L = true := by
  rw [hx, nI_add]
  exact pm_ix_n hn (by omega)
theorem li_loop (hL : L ≤ 3072) : ∀ (r n : Nat) (h : pm_HP), Inv h → n ≤ L → L < n + r → ∃ h', pm_ev (P_L xs L) (rs fb (1 + 100)) (P_L xs L 0) [some (.ref 88), some (.ref 0), some (.ref 59), some (.int (nI n))] [] h = some (some (.int 1), h') := by
  intro r
  induction r with
  | zero => intro n h _ h1 h2; omega
  | succ r ih =>
    intro n h hI hn hr
    rw [pb_L_0]
    simp only [ev_ild3, ev_ald0, ev_sn, ev_i, ev_bin, ev_if2, decide_eq_true_eq]
    by_cases hc : nI L - 6 < nI n
    · rw [if_pos hc, pb_L_46]
      simp only [ev_i, ev_rz]
      exact ⟨h, by rw [if_pos (by decide)]⟩
    · rw [if_neg hc]
      have h6 := li_6 hL hn hc
      rw [ev_sx (pm_ix_n (by omega) (by omega))]
      simp only [ev_i, ev_bin]
      obtain ⟨h1, hJ, e⟩ := lc_all (fb := fb) (xs := xs) (L := L) (i := nI n) (x := xs (nI n).toNatClampNeg &&& 63) hI (li_k hL (k := 1) (by omega) rfl) (li_k hL (k := 2) (by omega) rfl) (li_k hL (k := 3) (by omega) rfl) (li_k hL (k := 4) (by omega) rfl) (li_k hL (k := 5) (by omega) rfl)
      rw [e, pb_L_45]
      have e6 : nI n + 6 = nI (n + 6) := nI_add n 6
      simp only [ev_inc3, c2r, ev_go, e6]
      exact ih (n + 6) h1 hJ h6 (by omega)
end LQ
