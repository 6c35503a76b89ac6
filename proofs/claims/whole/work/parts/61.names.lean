/-! TEXTS ARE READ: names -/
def nmF (use : Nat) (c : Int32) : Int32 := if use = 0 then (if c = 105 then 0 else if c = 110 then 1 else if c = 115 then 2 else if c = 97 then 3 else if c = 116 then 4 else -1) else (if c = 105 then 0 else if c = 108 then 1 else if c = 119 then 2 else if c = 99 then 3 else -1)
theorem ch_c : ∀ c, c < 256 → ((nI c).toUInt32 % 65536).toInt32 = nI c := by decide +kernel
theorem ch_n : ∀ c, c < 256 → (nI c < 0) = False ∧ ((255 : Int32) < nI c) = False := by decide +kernel
theorem ch_97 : ∀ c, c < 256 → ((97 : Int32) = (nI c).toInt8.toInt32 ↔ nI c = 97) := by decide +kernel
theorem ch_99 : ∀ c, c < 256 → ((99 : Int32) = (nI c).toInt8.toInt32 ↔ nI c = 99) := by decide +kernel
theorem ch_105 : ∀ c, c < 256 → ((105 : Int32) = (nI c).toInt8.toInt32 ↔ nI c = 105) := by decide +kernel
theorem ch_108 : ∀ c, c < 256 → ((108 : Int32) = (nI c).toInt8.toInt32 ↔ nI c = 108) := by decide +kernel
theorem ch_110 : ∀ c, c < 256 → ((110 : Int32) = (nI c).toInt8.toInt32 ↔ nI c = 110) := by decide +kernel
theorem ch_115 : ∀ c, c < 256 → ((115 : Int32) = (nI c).toInt8.toInt32 ↔ nI c = 115) := by decide +kernel
theorem ch_116 : ∀ c, c < 256 → ((116 : Int32) = (nI c).toInt8.toInt32 ↔ nI c = 116) := by decide +kernel
theorem ch_119 : ∀ c, c < 256 → ((119 : Int32) = (nI c).toInt8.toInt32 ↔ nI c = 119) := by decide +kernel
theorem by_85_0 : pm_by 85 0 = 105 := by decide +kernel
theorem by_85_1 : pm_by 85 1 = 110 := by decide +kernel
theorem by_85_2 : pm_by 85 2 = 115 := by decide +kernel
theorem by_85_3 : pm_by 85 3 = 97 := by decide +kernel
theorem by_85_4 : pm_by 85 4 = 116 := by decide +kernel
theorem by_86_0 : pm_by 86 0 = 105 := by decide +kernel
theorem by_86_1 : pm_by 86 1 = 108 := by decide +kernel
theorem by_86_2 : pm_by 86 2 = 119 := by decide +kernel
theorem by_86_3 : pm_by 86 3 = 99 := by decide +kernel
section NM
variable {fb : Bool} {d : Nat} {h : pm_HP}
theorem en_J3_null {x0 x1 : Int32} : rs fb (d + 1) n_J3_checkIndex_8e157 [.int x0, .int x1, .null] h = pm_ev (P_J3_checkIndex_8e157) (rs fb d) (P_J3_checkIndex_8e157 0) [some (.int x0), some (.int x1), some .null] [] h := rfl
theorem j_lat {t : Nat} (ht : pm_kd t = 31) : rs fb (d + 1) n_J0_isLatin1_aae02 [.ref t] h = some (some (.int 1), h) := by
  have a1 : ((1 : Int32) &&& 1 = 1) = True := by decide
  rw [en_J0_isLatin1_aae02]
  simp only [decide_eq_true_eq, ev_ald0, ev_aldn0, ev_go, ev_i, ev_if0, ev_rz, ev_tc, i00, i01, i10, not_false_eq_true, not_true_eq_false, ↓reduceIte, pb_J0_isLatin1_aae02_0, pb_J0_isLatin1_aae02_1, pb_J0_isLatin1_aae02_2, ht, i10, a1, not_true_eq_false, if_true, if_false]
theorem j_cod {t : Nat} (ht : pm_kd t = 31) : rs fb (d + 1) n_J0_coder_7d493 [.ref t] h = some (some (.int 0), h) := by
  have a1 : ((0 : Int32).toInt8.toInt32 = 0) = True := by decide
  rw [en_J0_coder_7d493]
  simp only [decide_eq_true_eq, ev_ald0, ev_aldn0, ev_go, ev_i, ev_if0, ev_rz, ev_tc, i00, i01, i10, not_false_eq_true, not_true_eq_false, ↓reduceIte, pb_J0_coder_7d493_0, pb_J0_coder_7d493_1, pb_J0_coder_7d493_2, ht, i10, a1, if_true, if_false]
theorem j_len0 : rs fb (d + 2) n_J0_length_8abf5 [.ref 80] h = some (some (.int 5), h) := by
  have e : nI 5 >>> ((0 : Int32) &&& 31) = 5 := by decide
  rw [en_J0_length_8abf5]
  simp only [cs8_0, cs8_1, cs8_2, cs8_3, cs8_4, ev_ald0, ev_aldn0, ev_bin, ev_ct0, ev_lb, ev_ri, ev_tv, pm_bd_s, pm_tl_n, pm_tl_s, pb_J0_length_8abf5_0, kd_80, rf_80_0, kd_85, al_85, Nat.reduceAdd, j_cod kd_80, e]
theorem j_len1 : rs fb (d + 2) n_J0_length_8abf5 [.ref 81] h = some (some (.int 4), h) := by
  have e : nI 4 >>> ((0 : Int32) &&& 31) = 4 := by decide
  rw [en_J0_length_8abf5]
  simp only [cs8_0, cs8_1, cs8_2, cs8_3, cs8_4, ev_ald0, ev_aldn0, ev_bin, ev_ct0, ev_lb, ev_ri, ev_tv, pm_bd_s, pm_tl_n, pm_tl_s, pb_J0_length_8abf5_0, kd_81, rf_81_0, kd_86, al_86, Nat.reduceAdd, j_cod kd_81, e]
theorem j_enc {c : Nat} (hc : c < 256) : rs fb (d + 1) n_J1_canEncode_9a6ad [.int (nI c)] h = some (some (.int 1), h) := by
  have a1 : ((1 : Int32) &&& 1 = 1) = True := by decide
  rw [en_J1_canEncode_9a6ad]
  simp only [decide_eq_true_eq, ev_go, ev_i, ev_if0, ev_if2, ev_ild0, ev_rz, i00, i01, i10, not_false_eq_true, not_true_eq_false, ↓reduceIte, pb_J1_canEncode_9a6ad_0, pb_J1_canEncode_9a6ad_1, pb_J1_canEncode_9a6ad_2, ch_n c hc, a1, if_true, if_false]
theorem j_ich0 {c : Nat} (hc : c < 256) : rs fb (d + 1) n_J1_indexOfChar_4cfef [.ref 85, .int (nI c), .int 0, .int 5] h = some (some (.int (nmF 0 (nI c))), h) := by
  rw [en_J1_indexOfChar_4cfef]
  unfold nmF
  have l0 : ¬ (5 : Int32) ≤ 0 := by decide
  have l1 : ¬ (5 : Int32) ≤ 1 := by decide
  have l2 : ¬ (5 : Int32) ≤ 2 := by decide
  have l3 : ¬ (5 : Int32) ≤ 3 := by decide
  have l4 : ¬ (5 : Int32) ≤ 4 := by decide
  have lz : (5 : Int32) ≤ 5 := by decide
  have s0 : (0 : Int32) + 1 = 1 := by decide
  have s1 : (1 : Int32) + 1 = 2 := by decide
  have s2 : (2 : Int32) + 1 = 3 := by decide
  have s3 : (3 : Int32) + 1 = 4 := by decide
  have s4 : (4 : Int32) + 1 = 5 := by decide
  have x0 : pm_ix (0 : Int32) 5 = true := by decide
  have k0 : (0 : Int32).toNatClampNeg = 0 := by decide
  have x1 : pm_ix (1 : Int32) 5 = true := by decide
  have k1 : (1 : Int32).toNatClampNeg = 1 := by decide
  have x2 : pm_ix (2 : Int32) 5 = true := by decide
  have k2 : (2 : Int32).toNatClampNeg = 2 := by decide
  have x3 : pm_ix (3 : Int32) 5 = true := by decide
  have k3 : (3 : Int32).toNatClampNeg = 3 := by decide
  have x4 : pm_ix (4 : Int32) 5 = true := by decide
  have k4 : (4 : Int32).toNatClampNeg = 4 := by decide
  by_cases q0 : nI c = 105
  · have f0 : ((105 : Int32) = (nI c).toInt8.toInt32) = True := eq_true ((ch_105 c hc).mpr q0)
    have g0 := eq_true q0
    simp only [c20, c2i, c2n, c2r, decide_eq_true_eq, ev_ald0, ev_aldn0, ev_ba, ev_go, ev_i, ev_if2, ev_ild1, ev_ild2, ev_ild3, ev_ild4, ev_ild5, ev_inc5, ev_ist4, ev_ist5, ev_ri, ev_un, i00, i01, i10, not_false_eq_true, not_true_eq_false, ↓reduceIte, pb_J1_indexOfChar_4cfef_0, pb_J1_indexOfChar_4cfef_1, pb_J1_indexOfChar_4cfef_2, pb_J1_indexOfChar_4cfef_3, kd_85, al_85, l0, s0, x0, k0, by_85_0, l1, s1, x1, k1, by_85_1, l2, s2, x2, k2, by_85_2, l3, s3, x3, k3, by_85_3, l4, s4, x4, k4, by_85_4, lz, f0, g0, not_true_eq_false, not_false_eq_true, if_true, if_false, Nat.one_ne_zero]
  · have f0 : ((105 : Int32) = (nI c).toInt8.toInt32) = False := eq_false (fun t => q0 ((ch_105 c hc).mp t))
    have g0 := eq_false q0
    by_cases q1 : nI c = 110
    · have f1 : ((110 : Int32) = (nI c).toInt8.toInt32) = True := eq_true ((ch_110 c hc).mpr q1)
      have g1 := eq_true q1
      simp only [c20, c2i, c2n, c2r, decide_eq_true_eq, ev_ald0, ev_aldn0, ev_ba, ev_go, ev_i, ev_if2, ev_ild1, ev_ild2, ev_ild3, ev_ild4, ev_ild5, ev_inc5, ev_ist4, ev_ist5, ev_ri, ev_un, i00, i01, i10, not_false_eq_true, not_true_eq_false, ↓reduceIte, pb_J1_indexOfChar_4cfef_0, pb_J1_indexOfChar_4cfef_1, pb_J1_indexOfChar_4cfef_2, pb_J1_indexOfChar_4cfef_3, kd_85, al_85, l0, s0, x0, k0, by_85_0, l1, s1, x1, k1, by_85_1, l2, s2, x2, k2, by_85_2, l3, s3, x3, k3, by_85_3, l4, s4, x4, k4, by_85_4, lz, f0, g0, f1, g1, not_true_eq_false, not_false_eq_true, if_true, if_false, Nat.one_ne_zero]
    · have f1 : ((110 : Int32) = (nI c).toInt8.toInt32) = False := eq_false (fun t => q1 ((ch_110 c hc).mp t))
      have g1 := eq_false q1
      by_cases q2 : nI c = 115
      · have f2 : ((115 : Int32) = (nI c).toInt8.toInt32) = True := eq_true ((ch_115 c hc).mpr q2)
        have g2 := eq_true q2
        simp only [c20, c2i, c2n, c2r, decide_eq_true_eq, ev_ald0, ev_aldn0, ev_ba, ev_go, ev_i, ev_if2, ev_ild1, ev_ild2, ev_ild3, ev_ild4, ev_ild5, ev_inc5, ev_ist4, ev_ist5, ev_ri, ev_un, i00, i01, i10, not_false_eq_true, not_true_eq_false, ↓reduceIte, pb_J1_indexOfChar_4cfef_0, pb_J1_indexOfChar_4cfef_1, pb_J1_indexOfChar_4cfef_2, pb_J1_indexOfChar_4cfef_3, kd_85, al_85, l0, s0, x0, k0, by_85_0, l1, s1, x1, k1, by_85_1, l2, s2, x2, k2, by_85_2, l3, s3, x3, k3, by_85_3, l4, s4, x4, k4, by_85_4, lz, f0, g0, f1, g1, f2, g2, not_true_eq_false, not_false_eq_true, if_true, if_false, Nat.one_ne_zero]
      · have f2 : ((115 : Int32) = (nI c).toInt8.toInt32) = False := eq_false (fun t => q2 ((ch_115 c hc).mp t))
        have g2 := eq_false q2
        by_cases q3 : nI c = 97
        · have f3 : ((97 : Int32) = (nI c).toInt8.toInt32) = True := eq_true ((ch_97 c hc).mpr q3)
          have g3 := eq_true q3
          simp only [c20, c2i, c2n, c2r, decide_eq_true_eq, ev_ald0, ev_aldn0, ev_ba, ev_go, ev_i, ev_if2, ev_ild1, ev_ild2, ev_ild3, ev_ild4, ev_ild5, ev_inc5, ev_ist4, ev_ist5, ev_ri, ev_un, i00, i01, i10, not_false_eq_true, not_true_eq_false, ↓reduceIte, pb_J1_indexOfChar_4cfef_0, pb_J1_indexOfChar_4cfef_1, pb_J1_indexOfChar_4cfef_2, pb_J1_indexOfChar_4cfef_3, kd_85, al_85, l0, s0, x0, k0, by_85_0, l1, s1, x1, k1, by_85_1, l2, s2, x2, k2, by_85_2, l3, s3, x3, k3, by_85_3, l4, s4, x4, k4, by_85_4, lz, f0, g0, f1, g1, f2, g2, f3, g3, not_true_eq_false, not_false_eq_true, if_true, if_false, Nat.one_ne_zero]
        · have f3 : ((97 : Int32) = (nI c).toInt8.toInt32) = False := eq_false (fun t => q3 ((ch_97 c hc).mp t))
          have g3 := eq_false q3
          by_cases q4 : nI c = 116
          · have f4 : ((116 : Int32) = (nI c).toInt8.toInt32) = True := eq_true ((ch_116 c hc).mpr q4)
            have g4 := eq_true q4
            simp only [c20, c2i, c2n, c2r, decide_eq_true_eq, ev_ald0, ev_aldn0, ev_ba, ev_go, ev_i, ev_if2, ev_ild1, ev_ild2, ev_ild3, ev_ild4, ev_ild5, ev_inc5, ev_ist4, ev_ist5, ev_ri, ev_un, i00, i01, i10, not_false_eq_true, not_true_eq_false, ↓reduceIte, pb_J1_indexOfChar_4cfef_0, pb_J1_indexOfChar_4cfef_1, pb_J1_indexOfChar_4cfef_2, pb_J1_indexOfChar_4cfef_3, kd_85, al_85, l0, s0, x0, k0, by_85_0, l1, s1, x1, k1, by_85_1, l2, s2, x2, k2, by_85_2, l3, s3, x3, k3, by_85_3, l4, s4, x4, k4, by_85_4, lz, f0, g0, f1, g1, f2, g2, f3, g3, f4, g4, not_true_eq_false, not_false_eq_true, if_true, if_false, Nat.one_ne_zero]
          · have f4 : ((116 : Int32) = (nI c).toInt8.toInt32) = False := eq_false (fun t => q4 ((ch_116 c hc).mp t))
            have g4 := eq_false q4
            simp only [c20, c2i, c2n, c2r, decide_eq_true_eq, ev_ald0, ev_aldn0, ev_ba, ev_go, ev_i, ev_if2, ev_ild1, ev_ild2, ev_ild3, ev_ild4, ev_ild5, ev_inc5, ev_ist4, ev_ist5, ev_ri, ev_un, i00, i01, i10, not_false_eq_true, not_true_eq_false, ↓reduceIte, pb_J1_indexOfChar_4cfef_0, pb_J1_indexOfChar_4cfef_1, pb_J1_indexOfChar_4cfef_2, pb_J1_indexOfChar_4cfef_3, kd_85, al_85, l0, s0, x0, k0, by_85_0, l1, s1, x1, k1, by_85_1, l2, s2, x2, k2, by_85_2, l3, s3, x3, k3, by_85_3, l4, s4, x4, k4, by_85_4, lz, f0, g0, f1, g1, f2, g2, f3, g3, f4, g4, not_true_eq_false, not_false_eq_true, if_true, if_false, Nat.one_ne_zero]
theorem j_idx0 {c : Nat} (hc : c < 256) : rs fb (d + 5) n_J0_indexOf_0f7a4 [.ref 80, .int (nI c)] h = some (some (.int (nmF 0 (nI c))), h) := by
  have z10 : ((1 : Int32) = 0) = False := by decide
  have e1 : (if (0 : Int32) < 0 then (0 : Int32) else 0) = 0 := by decide
  have e2 : (if (5 : Int32) < nI 5 then (5 : Int32) else nI 5) = 5 := by decide
  have e2' : (if nI 5 < (5 : Int32) then nI 5 else (5 : Int32)) = 5 := by decide
  have e3 : (0 : Int32) < 5 := by decide
  have r1 : rs fb (d + 3) n_J1_indexOf_4cfef [.ref 85, .int (nI c), .int 0, .int 5] h = some (some (.int (nmF 0 (nI c))), h) := by
    rw [en_J1_indexOf_4cfef]
    simp only [c20, c2i, c2n, c2r, cs8_0, cs8_1, cs8_2, cs8_3, cs8_4, decide_eq_true_eq, ev_ald0, ev_aldn0, ev_cs1, ev_cs4, ev_i, ev_if0, ev_if2, ev_ild1, ev_ild2, ev_ild3, ev_ist2, ev_ist3, ev_lb, ev_m2, ev_ri, i00, i01, i10, not_false_eq_true, not_true_eq_false, pm_bd_s, pm_tl_n, pm_tl_s, ↓reduceIte, pb_J1_indexOf_4cfef_0, pb_J1_indexOf_4cfef_1, pb_J1_indexOf_4cfef_2, kd_85, al_85, j_enc hc, z10, e1, e2, e2', e3, j_ich0 hc, not_false_eq_true, if_true, if_false]
  have r2 : rs fb (d + 4) n_J0_indexOf_7cf53 [.ref 80, .int (nI c), .int 0] h = some (some (.int (nmF 0 (nI c))), h) := by
    rw [en_J0_indexOf_7cf53]
    simp only [cs8_0, cs8_1, cs8_2, cs8_3, cs8_4, decide_eq_true_eq, ev_ald0, ev_aldn0, ev_cs4, ev_ct0, ev_go, ev_if0, ev_ild1, ev_ild2, ev_no, ev_ri, ev_tv, i00, i01, i10, not_false_eq_true, not_true_eq_false, pm_bd_s, pm_tl_n, pm_tl_s, ↓reduceIte, pb_J0_indexOf_7cf53_0, pb_J0_indexOf_7cf53_1, pb_J0_indexOf_7cf53_2, kd_80, rf_80_0, kd_85, al_85, Nat.reduceAdd, j_lat kd_80, j_len0, z10, r1, if_true, if_false]
  rw [en_J0_indexOf_0f7a4]
  simp only [cs8_0, cs8_1, cs8_2, cs8_3, cs8_4, ev_ald0, ev_aldn0, ev_ct2, ev_i, ev_ild1, ev_ri, pm_bd_s, pm_tl_n, pm_tl_s, pb_J0_indexOf_0f7a4_0, kd_80, rf_80_0, r2]
theorem j_chr0_0 : rs fb (d + 5) n_J0_charAt_5068e [.ref 80, .int 0] h = some (some (.int 105), h) := by
  have z10 : ((1 : Int32) = 0) = False := by decide
  have a1 : ((0 : Int32) < 0) = False := by decide
  have a2 : ((0 : Int32) < nI 5) = True := by decide
  have x1 : pm_ix (0 : Int32) 5 = true := by decide
  have k1 : (0 : Int32).toNatClampNeg = 0 := by decide
  have e1 : (((105 : Int32) &&& 255).toUInt32 % 65536).toInt32 = 105 := by decide
  have e2 : ((105 : Int32).toUInt32.toUInt16.toUInt32.toInt32 = 105) = True := by decide
  have r1 : rs fb (d + 2) n_J3_checkIndex_8e157 [.int 0, .int (nI 5), pm_fv fb] h = some (some (.int 0), h) := by
    cases fb
    · show rs false (d + 2) n_J3_checkIndex_8e157 [.int 0, .int (nI 5), .null] h = _
      rw [en_J3_null]
      simp only [decide_eq_true_eq, ev_ald2, ev_aldn2, ev_go, ev_if0, ev_if2, ev_ild0, ev_ild1, ev_no, ev_ri, i00, i01, i10, not_false_eq_true, not_true_eq_false, ↓reduceIte, pb_J3_checkIndex_8e157_0, pb_J3_checkIndex_8e157_1, pb_J3_checkIndex_8e157_2, a1, a2, if_true, if_false]
    · show rs true (d + 2) n_J3_checkIndex_8e157 [.int 0, .int (nI 5), .ref 89] h = _
      rw [en_J3_checkIndex_8e157]
      simp only [decide_eq_true_eq, ev_ald2, ev_aldn2, ev_go, ev_if0, ev_if2, ev_ild0, ev_ild1, ev_no, ev_ri, i00, i01, i10, not_false_eq_true, not_true_eq_false, ↓reduceIte, pb_J3_checkIndex_8e157_0, pb_J3_checkIndex_8e157_1, pb_J3_checkIndex_8e157_2, a1, a2, if_true, if_false]
  have r2 : rs fb (d + 3) n_J0_checkIndex_df160 [.int 0, .int (nI 5)] h = some (none, h) := by
    rw [en_J0_checkIndex_df160]
    simp only [cs8_0, cs8_1, cs8_2, cs8_3, cs8_4, ev_cs3, ev_ild0, ev_ild1, ev_pop_i, ev_pop_r, ev_rv, ev_v, pm_bd_s, pm_tl_n, pm_tl_s, pb_J0_checkIndex_df160_0, r1]
  have r3 : rs fb (d + 4) n_J1_charAt_3b067 [.ref 85, .int 0] h = some (some (.int 105), h) := by
    rw [en_J1_charAt_3b067]
    simp only [cs8_0, cs8_1, cs8_2, cs8_3, cs8_4, ev_ald0, ev_aldn0, ev_ba, ev_bin, ev_cs2, ev_i, ev_ild1, ev_lb, ev_rz, ev_un, pm_bd_s, pm_tl_n, pm_tl_s, pb_J1_charAt_3b067_0, kd_85, al_85, r2, x1, k1, by_85_0, e1, e2, if_true, if_false]
  rw [en_J0_charAt_5068e]
  simp only [cs8_0, cs8_1, cs8_2, cs8_3, cs8_4, decide_eq_true_eq, ev_ald0, ev_aldn0, ev_cs2, ev_ct0, ev_if0, ev_ild1, ev_no, ev_rz, ev_tv, i00, i01, i10, not_false_eq_true, not_true_eq_false, pm_bd_s, pm_tl_n, pm_tl_s, ↓reduceIte, pb_J0_charAt_5068e_0, pb_J0_charAt_5068e_1, kd_80, rf_80_0, kd_85, al_85, Nat.reduceAdd, j_lat kd_80, z10, r3, e2, if_true, if_false]
theorem j_chr0_1 : rs fb (d + 5) n_J0_charAt_5068e [.ref 80, .int 1] h = some (some (.int 110), h) := by
  have z10 : ((1 : Int32) = 0) = False := by decide
  have a1 : ((1 : Int32) < 0) = False := by decide
  have a2 : ((1 : Int32) < nI 5) = True := by decide
  have x1 : pm_ix (1 : Int32) 5 = true := by decide
  have k1 : (1 : Int32).toNatClampNeg = 1 := by decide
  have e1 : (((110 : Int32) &&& 255).toUInt32 % 65536).toInt32 = 110 := by decide
  have e2 : ((110 : Int32).toUInt32.toUInt16.toUInt32.toInt32 = 110) = True := by decide
  have r1 : rs fb (d + 2) n_J3_checkIndex_8e157 [.int 1, .int (nI 5), pm_fv fb] h = some (some (.int 1), h) := by
    cases fb
    · show rs false (d + 2) n_J3_checkIndex_8e157 [.int 1, .int (nI 5), .null] h = _
      rw [en_J3_null]
      simp only [decide_eq_true_eq, ev_ald2, ev_aldn2, ev_go, ev_if0, ev_if2, ev_ild0, ev_ild1, ev_no, ev_ri, i00, i01, i10, not_false_eq_true, not_true_eq_false, ↓reduceIte, pb_J3_checkIndex_8e157_0, pb_J3_checkIndex_8e157_1, pb_J3_checkIndex_8e157_2, a1, a2, if_true, if_false]
    · show rs true (d + 2) n_J3_checkIndex_8e157 [.int 1, .int (nI 5), .ref 89] h = _
      rw [en_J3_checkIndex_8e157]
      simp only [decide_eq_true_eq, ev_ald2, ev_aldn2, ev_go, ev_if0, ev_if2, ev_ild0, ev_ild1, ev_no, ev_ri, i00, i01, i10, not_false_eq_true, not_true_eq_false, ↓reduceIte, pb_J3_checkIndex_8e157_0, pb_J3_checkIndex_8e157_1, pb_J3_checkIndex_8e157_2, a1, a2, if_true, if_false]
  have r2 : rs fb (d + 3) n_J0_checkIndex_df160 [.int 1, .int (nI 5)] h = some (none, h) := by
    rw [en_J0_checkIndex_df160]
    simp only [cs8_0, cs8_1, cs8_2, cs8_3, cs8_4, ev_cs3, ev_ild0, ev_ild1, ev_pop_i, ev_pop_r, ev_rv, ev_v, pm_bd_s, pm_tl_n, pm_tl_s, pb_J0_checkIndex_df160_0, r1]
  have r3 : rs fb (d + 4) n_J1_charAt_3b067 [.ref 85, .int 1] h = some (some (.int 110), h) := by
    rw [en_J1_charAt_3b067]
    simp only [cs8_0, cs8_1, cs8_2, cs8_3, cs8_4, ev_ald0, ev_aldn0, ev_ba, ev_bin, ev_cs2, ev_i, ev_ild1, ev_lb, ev_rz, ev_un, pm_bd_s, pm_tl_n, pm_tl_s, pb_J1_charAt_3b067_0, kd_85, al_85, r2, x1, k1, by_85_1, e1, e2, if_true, if_false]
  rw [en_J0_charAt_5068e]
  simp only [cs8_0, cs8_1, cs8_2, cs8_3, cs8_4, decide_eq_true_eq, ev_ald0, ev_aldn0, ev_cs2, ev_ct0, ev_if0, ev_ild1, ev_no, ev_rz, ev_tv, i00, i01, i10, not_false_eq_true, not_true_eq_false, pm_bd_s, pm_tl_n, pm_tl_s, ↓reduceIte, pb_J0_charAt_5068e_0, pb_J0_charAt_5068e_1, kd_80, rf_80_0, kd_85, al_85, Nat.reduceAdd, j_lat kd_80, z10, r3, e2, if_true, if_false]
theorem j_chr0_2 : rs fb (d + 5) n_J0_charAt_5068e [.ref 80, .int 2] h = some (some (.int 115), h) := by
  have z10 : ((1 : Int32) = 0) = False := by decide
  have a1 : ((2 : Int32) < 0) = False := by decide
  have a2 : ((2 : Int32) < nI 5) = True := by decide
  have x1 : pm_ix (2 : Int32) 5 = true := by decide
  have k1 : (2 : Int32).toNatClampNeg = 2 := by decide
  have e1 : (((115 : Int32) &&& 255).toUInt32 % 65536).toInt32 = 115 := by decide
  have e2 : ((115 : Int32).toUInt32.toUInt16.toUInt32.toInt32 = 115) = True := by decide
  have r1 : rs fb (d + 2) n_J3_checkIndex_8e157 [.int 2, .int (nI 5), pm_fv fb] h = some (some (.int 2), h) := by
    cases fb
    · show rs false (d + 2) n_J3_checkIndex_8e157 [.int 2, .int (nI 5), .null] h = _
      rw [en_J3_null]
      simp only [decide_eq_true_eq, ev_ald2, ev_aldn2, ev_go, ev_if0, ev_if2, ev_ild0, ev_ild1, ev_no, ev_ri, i00, i01, i10, not_false_eq_true, not_true_eq_false, ↓reduceIte, pb_J3_checkIndex_8e157_0, pb_J3_checkIndex_8e157_1, pb_J3_checkIndex_8e157_2, a1, a2, if_true, if_false]
    · show rs true (d + 2) n_J3_checkIndex_8e157 [.int 2, .int (nI 5), .ref 89] h = _
      rw [en_J3_checkIndex_8e157]
      simp only [decide_eq_true_eq, ev_ald2, ev_aldn2, ev_go, ev_if0, ev_if2, ev_ild0, ev_ild1, ev_no, ev_ri, i00, i01, i10, not_false_eq_true, not_true_eq_false, ↓reduceIte, pb_J3_checkIndex_8e157_0, pb_J3_checkIndex_8e157_1, pb_J3_checkIndex_8e157_2, a1, a2, if_true, if_false]
  have r2 : rs fb (d + 3) n_J0_checkIndex_df160 [.int 2, .int (nI 5)] h = some (none, h) := by
    rw [en_J0_checkIndex_df160]
    simp only [cs8_0, cs8_1, cs8_2, cs8_3, cs8_4, ev_cs3, ev_ild0, ev_ild1, ev_pop_i, ev_pop_r, ev_rv, ev_v, pm_bd_s, pm_tl_n, pm_tl_s, pb_J0_checkIndex_df160_0, r1]
  have r3 : rs fb (d + 4) n_J1_charAt_3b067 [.ref 85, .int 2] h = some (some (.int 115), h) := by
    rw [en_J1_charAt_3b067]
    simp only [cs8_0, cs8_1, cs8_2, cs8_3, cs8_4, ev_ald0, ev_aldn0, ev_ba, ev_bin, ev_cs2, ev_i, ev_ild1, ev_lb, ev_rz, ev_un, pm_bd_s, pm_tl_n, pm_tl_s, pb_J1_charAt_3b067_0, kd_85, al_85, r2, x1, k1, by_85_2, e1, e2, if_true, if_false]
  rw [en_J0_charAt_5068e]
  simp only [cs8_0, cs8_1, cs8_2, cs8_3, cs8_4, decide_eq_true_eq, ev_ald0, ev_aldn0, ev_cs2, ev_ct0, ev_if0, ev_ild1, ev_no, ev_rz, ev_tv, i00, i01, i10, not_false_eq_true, not_true_eq_false, pm_bd_s, pm_tl_n, pm_tl_s, ↓reduceIte, pb_J0_charAt_5068e_0, pb_J0_charAt_5068e_1, kd_80, rf_80_0, kd_85, al_85, Nat.reduceAdd, j_lat kd_80, z10, r3, e2, if_true, if_false]
theorem j_chr0_3 : rs fb (d + 5) n_J0_charAt_5068e [.ref 80, .int 3] h = some (some (.int 97), h) := by
  have z10 : ((1 : Int32) = 0) = False := by decide
  have a1 : ((3 : Int32) < 0) = False := by decide
  have a2 : ((3 : Int32) < nI 5) = True := by decide
  have x1 : pm_ix (3 : Int32) 5 = true := by decide
  have k1 : (3 : Int32).toNatClampNeg = 3 := by decide
  have e1 : (((97 : Int32) &&& 255).toUInt32 % 65536).toInt32 = 97 := by decide
  have e2 : ((97 : Int32).toUInt32.toUInt16.toUInt32.toInt32 = 97) = True := by decide
  have r1 : rs fb (d + 2) n_J3_checkIndex_8e157 [.int 3, .int (nI 5), pm_fv fb] h = some (some (.int 3), h) := by
    cases fb
    · show rs false (d + 2) n_J3_checkIndex_8e157 [.int 3, .int (nI 5), .null] h = _
      rw [en_J3_null]
      simp only [decide_eq_true_eq, ev_ald2, ev_aldn2, ev_go, ev_if0, ev_if2, ev_ild0, ev_ild1, ev_no, ev_ri, i00, i01, i10, not_false_eq_true, not_true_eq_false, ↓reduceIte, pb_J3_checkIndex_8e157_0, pb_J3_checkIndex_8e157_1, pb_J3_checkIndex_8e157_2, a1, a2, if_true, if_false]
    · show rs true (d + 2) n_J3_checkIndex_8e157 [.int 3, .int (nI 5), .ref 89] h = _
      rw [en_J3_checkIndex_8e157]
      simp only [decide_eq_true_eq, ev_ald2, ev_aldn2, ev_go, ev_if0, ev_if2, ev_ild0, ev_ild1, ev_no, ev_ri, i00, i01, i10, not_false_eq_true, not_true_eq_false, ↓reduceIte, pb_J3_checkIndex_8e157_0, pb_J3_checkIndex_8e157_1, pb_J3_checkIndex_8e157_2, a1, a2, if_true, if_false]
  have r2 : rs fb (d + 3) n_J0_checkIndex_df160 [.int 3, .int (nI 5)] h = some (none, h) := by
    rw [en_J0_checkIndex_df160]
    simp only [cs8_0, cs8_1, cs8_2, cs8_3, cs8_4, ev_cs3, ev_ild0, ev_ild1, ev_pop_i, ev_pop_r, ev_rv, ev_v, pm_bd_s, pm_tl_n, pm_tl_s, pb_J0_checkIndex_df160_0, r1]
  have r3 : rs fb (d + 4) n_J1_charAt_3b067 [.ref 85, .int 3] h = some (some (.int 97), h) := by
    rw [en_J1_charAt_3b067]
    simp only [cs8_0, cs8_1, cs8_2, cs8_3, cs8_4, ev_ald0, ev_aldn0, ev_ba, ev_bin, ev_cs2, ev_i, ev_ild1, ev_lb, ev_rz, ev_un, pm_bd_s, pm_tl_n, pm_tl_s, pb_J1_charAt_3b067_0, kd_85, al_85, r2, x1, k1, by_85_3, e1, e2, if_true, if_false]
  rw [en_J0_charAt_5068e]
  simp only [cs8_0, cs8_1, cs8_2, cs8_3, cs8_4, decide_eq_true_eq, ev_ald0, ev_aldn0, ev_cs2, ev_ct0, ev_if0, ev_ild1, ev_no, ev_rz, ev_tv, i00, i01, i10, not_false_eq_true, not_true_eq_false, pm_bd_s, pm_tl_n, pm_tl_s, ↓reduceIte, pb_J0_charAt_5068e_0, pb_J0_charAt_5068e_1, kd_80, rf_80_0, kd_85, al_85, Nat.reduceAdd, j_lat kd_80, z10, r3, e2, if_true, if_false]
theorem j_chr0_4 : rs fb (d + 5) n_J0_charAt_5068e [.ref 80, .int 4] h = some (some (.int 116), h) := by
  have z10 : ((1 : Int32) = 0) = False := by decide
  have a1 : ((4 : Int32) < 0) = False := by decide
  have a2 : ((4 : Int32) < nI 5) = True := by decide
  have x1 : pm_ix (4 : Int32) 5 = true := by decide
  have k1 : (4 : Int32).toNatClampNeg = 4 := by decide
  have e1 : (((116 : Int32) &&& 255).toUInt32 % 65536).toInt32 = 116 := by decide
  have e2 : ((116 : Int32).toUInt32.toUInt16.toUInt32.toInt32 = 116) = True := by decide
  have r1 : rs fb (d + 2) n_J3_checkIndex_8e157 [.int 4, .int (nI 5), pm_fv fb] h = some (some (.int 4), h) := by
    cases fb
    · show rs false (d + 2) n_J3_checkIndex_8e157 [.int 4, .int (nI 5), .null] h = _
      rw [en_J3_null]
      simp only [decide_eq_true_eq, ev_ald2, ev_aldn2, ev_go, ev_if0, ev_if2, ev_ild0, ev_ild1, ev_no, ev_ri, i00, i01, i10, not_false_eq_true, not_true_eq_false, ↓reduceIte, pb_J3_checkIndex_8e157_0, pb_J3_checkIndex_8e157_1, pb_J3_checkIndex_8e157_2, a1, a2, if_true, if_false]
    · show rs true (d + 2) n_J3_checkIndex_8e157 [.int 4, .int (nI 5), .ref 89] h = _
      rw [en_J3_checkIndex_8e157]
      simp only [decide_eq_true_eq, ev_ald2, ev_aldn2, ev_go, ev_if0, ev_if2, ev_ild0, ev_ild1, ev_no, ev_ri, i00, i01, i10, not_false_eq_true, not_true_eq_false, ↓reduceIte, pb_J3_checkIndex_8e157_0, pb_J3_checkIndex_8e157_1, pb_J3_checkIndex_8e157_2, a1, a2, if_true, if_false]
  have r2 : rs fb (d + 3) n_J0_checkIndex_df160 [.int 4, .int (nI 5)] h = some (none, h) := by
    rw [en_J0_checkIndex_df160]
    simp only [cs8_0, cs8_1, cs8_2, cs8_3, cs8_4, ev_cs3, ev_ild0, ev_ild1, ev_pop_i, ev_pop_r, ev_rv, ev_v, pm_bd_s, pm_tl_n, pm_tl_s, pb_J0_checkIndex_df160_0, r1]
  have r3 : rs fb (d + 4) n_J1_charAt_3b067 [.ref 85, .int 4] h = some (some (.int 116), h) := by
    rw [en_J1_charAt_3b067]
    simp only [cs8_0, cs8_1, cs8_2, cs8_3, cs8_4, ev_ald0, ev_aldn0, ev_ba, ev_bin, ev_cs2, ev_i, ev_ild1, ev_lb, ev_rz, ev_un, pm_bd_s, pm_tl_n, pm_tl_s, pb_J1_charAt_3b067_0, kd_85, al_85, r2, x1, k1, by_85_4, e1, e2, if_true, if_false]
  rw [en_J0_charAt_5068e]
  simp only [cs8_0, cs8_1, cs8_2, cs8_3, cs8_4, decide_eq_true_eq, ev_ald0, ev_aldn0, ev_cs2, ev_ct0, ev_if0, ev_ild1, ev_no, ev_rz, ev_tv, i00, i01, i10, not_false_eq_true, not_true_eq_false, pm_bd_s, pm_tl_n, pm_tl_s, ↓reduceIte, pb_J0_charAt_5068e_0, pb_J0_charAt_5068e_1, kd_80, rf_80_0, kd_85, al_85, Nat.reduceAdd, j_lat kd_80, z10, r3, e2, if_true, if_false]
theorem j_ich1 {c : Nat} (hc : c < 256) : rs fb (d + 1) n_J1_indexOfChar_4cfef [.ref 86, .int (nI c), .int 0, .int 4] h = some (some (.int (nmF 1 (nI c))), h) := by
  rw [en_J1_indexOfChar_4cfef]
  unfold nmF
  have l0 : ¬ (4 : Int32) ≤ 0 := by decide
  have l1 : ¬ (4 : Int32) ≤ 1 := by decide
  have l2 : ¬ (4 : Int32) ≤ 2 := by decide
  have l3 : ¬ (4 : Int32) ≤ 3 := by decide
  have lz : (4 : Int32) ≤ 4 := by decide
  have s0 : (0 : Int32) + 1 = 1 := by decide
  have s1 : (1 : Int32) + 1 = 2 := by decide
  have s2 : (2 : Int32) + 1 = 3 := by decide
  have s3 : (3 : Int32) + 1 = 4 := by decide
  have x0 : pm_ix (0 : Int32) 4 = true := by decide
  have k0 : (0 : Int32).toNatClampNeg = 0 := by decide
  have x1 : pm_ix (1 : Int32) 4 = true := by decide
  have k1 : (1 : Int32).toNatClampNeg = 1 := by decide
  have x2 : pm_ix (2 : Int32) 4 = true := by decide
  have k2 : (2 : Int32).toNatClampNeg = 2 := by decide
  have x3 : pm_ix (3 : Int32) 4 = true := by decide
  have k3 : (3 : Int32).toNatClampNeg = 3 := by decide
  by_cases q0 : nI c = 105
  · have f0 : ((105 : Int32) = (nI c).toInt8.toInt32) = True := eq_true ((ch_105 c hc).mpr q0)
    have g0 := eq_true q0
    simp only [c20, c2i, c2n, c2r, decide_eq_true_eq, ev_ald0, ev_aldn0, ev_ba, ev_go, ev_i, ev_if2, ev_ild1, ev_ild2, ev_ild3, ev_ild4, ev_ild5, ev_inc5, ev_ist4, ev_ist5, ev_ri, ev_un, i00, i01, i10, not_false_eq_true, not_true_eq_false, ↓reduceIte, pb_J1_indexOfChar_4cfef_0, pb_J1_indexOfChar_4cfef_1, pb_J1_indexOfChar_4cfef_2, pb_J1_indexOfChar_4cfef_3, kd_86, al_86, l0, s0, x0, k0, by_86_0, l1, s1, x1, k1, by_86_1, l2, s2, x2, k2, by_86_2, l3, s3, x3, k3, by_86_3, lz, f0, g0, not_true_eq_false, not_false_eq_true, if_true, if_false, Nat.one_ne_zero]
  · have f0 : ((105 : Int32) = (nI c).toInt8.toInt32) = False := eq_false (fun t => q0 ((ch_105 c hc).mp t))
    have g0 := eq_false q0
    by_cases q1 : nI c = 108
    · have f1 : ((108 : Int32) = (nI c).toInt8.toInt32) = True := eq_true ((ch_108 c hc).mpr q1)
      have g1 := eq_true q1
      simp only [c20, c2i, c2n, c2r, decide_eq_true_eq, ev_ald0, ev_aldn0, ev_ba, ev_go, ev_i, ev_if2, ev_ild1, ev_ild2, ev_ild3, ev_ild4, ev_ild5, ev_inc5, ev_ist4, ev_ist5, ev_ri, ev_un, i00, i01, i10, not_false_eq_true, not_true_eq_false, ↓reduceIte, pb_J1_indexOfChar_4cfef_0, pb_J1_indexOfChar_4cfef_1, pb_J1_indexOfChar_4cfef_2, pb_J1_indexOfChar_4cfef_3, kd_86, al_86, l0, s0, x0, k0, by_86_0, l1, s1, x1, k1, by_86_1, l2, s2, x2, k2, by_86_2, l3, s3, x3, k3, by_86_3, lz, f0, g0, f1, g1, not_true_eq_false, not_false_eq_true, if_true, if_false, Nat.one_ne_zero]
    · have f1 : ((108 : Int32) = (nI c).toInt8.toInt32) = False := eq_false (fun t => q1 ((ch_108 c hc).mp t))
      have g1 := eq_false q1
      by_cases q2 : nI c = 119
      · have f2 : ((119 : Int32) = (nI c).toInt8.toInt32) = True := eq_true ((ch_119 c hc).mpr q2)
        have g2 := eq_true q2
        simp only [c20, c2i, c2n, c2r, decide_eq_true_eq, ev_ald0, ev_aldn0, ev_ba, ev_go, ev_i, ev_if2, ev_ild1, ev_ild2, ev_ild3, ev_ild4, ev_ild5, ev_inc5, ev_ist4, ev_ist5, ev_ri, ev_un, i00, i01, i10, not_false_eq_true, not_true_eq_false, ↓reduceIte, pb_J1_indexOfChar_4cfef_0, pb_J1_indexOfChar_4cfef_1, pb_J1_indexOfChar_4cfef_2, pb_J1_indexOfChar_4cfef_3, kd_86, al_86, l0, s0, x0, k0, by_86_0, l1, s1, x1, k1, by_86_1, l2, s2, x2, k2, by_86_2, l3, s3, x3, k3, by_86_3, lz, f0, g0, f1, g1, f2, g2, not_true_eq_false, not_false_eq_true, if_true, if_false, Nat.one_ne_zero]
      · have f2 : ((119 : Int32) = (nI c).toInt8.toInt32) = False := eq_false (fun t => q2 ((ch_119 c hc).mp t))
        have g2 := eq_false q2
        by_cases q3 : nI c = 99
        · have f3 : ((99 : Int32) = (nI c).toInt8.toInt32) = True := eq_true ((ch_99 c hc).mpr q3)
          have g3 := eq_true q3
          simp only [c20, c2i, c2n, c2r, decide_eq_true_eq, ev_ald0, ev_aldn0, ev_ba, ev_go, ev_i, ev_if2, ev_ild1, ev_ild2, ev_ild3, ev_ild4, ev_ild5, ev_inc5, ev_ist4, ev_ist5, ev_ri, ev_un, i00, i01, i10, not_false_eq_true, not_true_eq_false, ↓reduceIte, pb_J1_indexOfChar_4cfef_0, pb_J1_indexOfChar_4cfef_1, pb_J1_indexOfChar_4cfef_2, pb_J1_indexOfChar_4cfef_3, kd_86, al_86, l0, s0, x0, k0, by_86_0, l1, s1, x1, k1, by_86_1, l2, s2, x2, k2, by_86_2, l3, s3, x3, k3, by_86_3, lz, f0, g0, f1, g1, f2, g2, f3, g3, not_true_eq_false, not_false_eq_true, if_true, if_false, Nat.one_ne_zero]
        · have f3 : ((99 : Int32) = (nI c).toInt8.toInt32) = False := eq_false (fun t => q3 ((ch_99 c hc).mp t))
          have g3 := eq_false q3
          simp only [c20, c2i, c2n, c2r, decide_eq_true_eq, ev_ald0, ev_aldn0, ev_ba, ev_go, ev_i, ev_if2, ev_ild1, ev_ild2, ev_ild3, ev_ild4, ev_ild5, ev_inc5, ev_ist4, ev_ist5, ev_ri, ev_un, i00, i01, i10, not_false_eq_true, not_true_eq_false, ↓reduceIte, pb_J1_indexOfChar_4cfef_0, pb_J1_indexOfChar_4cfef_1, pb_J1_indexOfChar_4cfef_2, pb_J1_indexOfChar_4cfef_3, kd_86, al_86, l0, s0, x0, k0, by_86_0, l1, s1, x1, k1, by_86_1, l2, s2, x2, k2, by_86_2, l3, s3, x3, k3, by_86_3, lz, f0, g0, f1, g1, f2, g2, f3, g3, not_true_eq_false, not_false_eq_true, if_true, if_false, Nat.one_ne_zero]
theorem j_idx1 {c : Nat} (hc : c < 256) : rs fb (d + 5) n_J0_indexOf_0f7a4 [.ref 81, .int (nI c)] h = some (some (.int (nmF 1 (nI c))), h) := by
  have z10 : ((1 : Int32) = 0) = False := by decide
  have e1 : (if (0 : Int32) < 0 then (0 : Int32) else 0) = 0 := by decide
  have e2 : (if (4 : Int32) < nI 4 then (4 : Int32) else nI 4) = 4 := by decide
  have e2' : (if nI 4 < (4 : Int32) then nI 4 else (4 : Int32)) = 4 := by decide
  have e3 : (0 : Int32) < 4 := by decide
  have r1 : rs fb (d + 3) n_J1_indexOf_4cfef [.ref 86, .int (nI c), .int 0, .int 4] h = some (some (.int (nmF 1 (nI c))), h) := by
    rw [en_J1_indexOf_4cfef]
    simp only [c20, c2i, c2n, c2r, cs8_0, cs8_1, cs8_2, cs8_3, cs8_4, decide_eq_true_eq, ev_ald0, ev_aldn0, ev_cs1, ev_cs4, ev_i, ev_if0, ev_if2, ev_ild1, ev_ild2, ev_ild3, ev_ist2, ev_ist3, ev_lb, ev_m2, ev_ri, i00, i01, i10, not_false_eq_true, not_true_eq_false, pm_bd_s, pm_tl_n, pm_tl_s, ↓reduceIte, pb_J1_indexOf_4cfef_0, pb_J1_indexOf_4cfef_1, pb_J1_indexOf_4cfef_2, kd_86, al_86, j_enc hc, z10, e1, e2, e2', e3, j_ich1 hc, not_false_eq_true, if_true, if_false]
  have r2 : rs fb (d + 4) n_J0_indexOf_7cf53 [.ref 81, .int (nI c), .int 0] h = some (some (.int (nmF 1 (nI c))), h) := by
    rw [en_J0_indexOf_7cf53]
    simp only [cs8_0, cs8_1, cs8_2, cs8_3, cs8_4, decide_eq_true_eq, ev_ald0, ev_aldn0, ev_cs4, ev_ct0, ev_go, ev_if0, ev_ild1, ev_ild2, ev_no, ev_ri, ev_tv, i00, i01, i10, not_false_eq_true, not_true_eq_false, pm_bd_s, pm_tl_n, pm_tl_s, ↓reduceIte, pb_J0_indexOf_7cf53_0, pb_J0_indexOf_7cf53_1, pb_J0_indexOf_7cf53_2, kd_81, rf_81_0, kd_86, al_86, Nat.reduceAdd, j_lat kd_81, j_len1, z10, r1, if_true, if_false]
  rw [en_J0_indexOf_0f7a4]
  simp only [cs8_0, cs8_1, cs8_2, cs8_3, cs8_4, ev_ald0, ev_aldn0, ev_ct2, ev_i, ev_ild1, ev_ri, pm_bd_s, pm_tl_n, pm_tl_s, pb_J0_indexOf_0f7a4_0, kd_81, rf_81_0, r2]
theorem j_chr1_0 : rs fb (d + 5) n_J0_charAt_5068e [.ref 81, .int 0] h = some (some (.int 105), h) := by
  have z10 : ((1 : Int32) = 0) = False := by decide
  have a1 : ((0 : Int32) < 0) = False := by decide
  have a2 : ((0 : Int32) < nI 4) = True := by decide
  have x1 : pm_ix (0 : Int32) 4 = true := by decide
  have k1 : (0 : Int32).toNatClampNeg = 0 := by decide
  have e1 : (((105 : Int32) &&& 255).toUInt32 % 65536).toInt32 = 105 := by decide
  have e2 : ((105 : Int32).toUInt32.toUInt16.toUInt32.toInt32 = 105) = True := by decide
  have r1 : rs fb (d + 2) n_J3_checkIndex_8e157 [.int 0, .int (nI 4), pm_fv fb] h = some (some (.int 0), h) := by
    cases fb
    · show rs false (d + 2) n_J3_checkIndex_8e157 [.int 0, .int (nI 4), .null] h = _
      rw [en_J3_null]
      simp only [decide_eq_true_eq, ev_ald2, ev_aldn2, ev_go, ev_if0, ev_if2, ev_ild0, ev_ild1, ev_no, ev_ri, i00, i01, i10, not_false_eq_true, not_true_eq_false, ↓reduceIte, pb_J3_checkIndex_8e157_0, pb_J3_checkIndex_8e157_1, pb_J3_checkIndex_8e157_2, a1, a2, if_true, if_false]
    · show rs true (d + 2) n_J3_checkIndex_8e157 [.int 0, .int (nI 4), .ref 89] h = _
      rw [en_J3_checkIndex_8e157]
      simp only [decide_eq_true_eq, ev_ald2, ev_aldn2, ev_go, ev_if0, ev_if2, ev_ild0, ev_ild1, ev_no, ev_ri, i00, i01, i10, not_false_eq_true, not_true_eq_false, ↓reduceIte, pb_J3_checkIndex_8e157_0, pb_J3_checkIndex_8e157_1, pb_J3_checkIndex_8e157_2, a1, a2, if_true, if_false]
  have r2 : rs fb (d + 3) n_J0_checkIndex_df160 [.int 0, .int (nI 4)] h = some (none, h) := by
    rw [en_J0_checkIndex_df160]
    simp only [cs8_0, cs8_1, cs8_2, cs8_3, cs8_4, ev_cs3, ev_ild0, ev_ild1, ev_pop_i, ev_pop_r, ev_rv, ev_v, pm_bd_s, pm_tl_n, pm_tl_s, pb_J0_checkIndex_df160_0, r1]
  have r3 : rs fb (d + 4) n_J1_charAt_3b067 [.ref 86, .int 0] h = some (some (.int 105), h) := by
    rw [en_J1_charAt_3b067]
    simp only [cs8_0, cs8_1, cs8_2, cs8_3, cs8_4, ev_ald0, ev_aldn0, ev_ba, ev_bin, ev_cs2, ev_i, ev_ild1, ev_lb, ev_rz, ev_un, pm_bd_s, pm_tl_n, pm_tl_s, pb_J1_charAt_3b067_0, kd_86, al_86, r2, x1, k1, by_86_0, e1, e2, if_true, if_false]
  rw [en_J0_charAt_5068e]
  simp only [cs8_0, cs8_1, cs8_2, cs8_3, cs8_4, decide_eq_true_eq, ev_ald0, ev_aldn0, ev_cs2, ev_ct0, ev_if0, ev_ild1, ev_no, ev_rz, ev_tv, i00, i01, i10, not_false_eq_true, not_true_eq_false, pm_bd_s, pm_tl_n, pm_tl_s, ↓reduceIte, pb_J0_charAt_5068e_0, pb_J0_charAt_5068e_1, kd_81, rf_81_0, kd_86, al_86, Nat.reduceAdd, j_lat kd_81, z10, r3, e2, if_true, if_false]
theorem j_chr1_1 : rs fb (d + 5) n_J0_charAt_5068e [.ref 81, .int 1] h = some (some (.int 108), h) := by
  have z10 : ((1 : Int32) = 0) = False := by decide
  have a1 : ((1 : Int32) < 0) = False := by decide
  have a2 : ((1 : Int32) < nI 4) = True := by decide
  have x1 : pm_ix (1 : Int32) 4 = true := by decide
  have k1 : (1 : Int32).toNatClampNeg = 1 := by decide
  have e1 : (((108 : Int32) &&& 255).toUInt32 % 65536).toInt32 = 108 := by decide
  have e2 : ((108 : Int32).toUInt32.toUInt16.toUInt32.toInt32 = 108) = True := by decide
  have r1 : rs fb (d + 2) n_J3_checkIndex_8e157 [.int 1, .int (nI 4), pm_fv fb] h = some (some (.int 1), h) := by
    cases fb
    · show rs false (d + 2) n_J3_checkIndex_8e157 [.int 1, .int (nI 4), .null] h = _
      rw [en_J3_null]
      simp only [decide_eq_true_eq, ev_ald2, ev_aldn2, ev_go, ev_if0, ev_if2, ev_ild0, ev_ild1, ev_no, ev_ri, i00, i01, i10, not_false_eq_true, not_true_eq_false, ↓reduceIte, pb_J3_checkIndex_8e157_0, pb_J3_checkIndex_8e157_1, pb_J3_checkIndex_8e157_2, a1, a2, if_true, if_false]
    · show rs true (d + 2) n_J3_checkIndex_8e157 [.int 1, .int (nI 4), .ref 89] h = _
      rw [en_J3_checkIndex_8e157]
      simp only [decide_eq_true_eq, ev_ald2, ev_aldn2, ev_go, ev_if0, ev_if2, ev_ild0, ev_ild1, ev_no, ev_ri, i00, i01, i10, not_false_eq_true, not_true_eq_false, ↓reduceIte, pb_J3_checkIndex_8e157_0, pb_J3_checkIndex_8e157_1, pb_J3_checkIndex_8e157_2, a1, a2, if_true, if_false]
  have r2 : rs fb (d + 3) n_J0_checkIndex_df160 [.int 1, .int (nI 4)] h = some (none, h) := by
    rw [en_J0_checkIndex_df160]
    simp only [cs8_0, cs8_1, cs8_2, cs8_3, cs8_4, ev_cs3, ev_ild0, ev_ild1, ev_pop_i, ev_pop_r, ev_rv, ev_v, pm_bd_s, pm_tl_n, pm_tl_s, pb_J0_checkIndex_df160_0, r1]
  have r3 : rs fb (d + 4) n_J1_charAt_3b067 [.ref 86, .int 1] h = some (some (.int 108), h) := by
    rw [en_J1_charAt_3b067]
    simp only [cs8_0, cs8_1, cs8_2, cs8_3, cs8_4, ev_ald0, ev_aldn0, ev_ba, ev_bin, ev_cs2, ev_i, ev_ild1, ev_lb, ev_rz, ev_un, pm_bd_s, pm_tl_n, pm_tl_s, pb_J1_charAt_3b067_0, kd_86, al_86, r2, x1, k1, by_86_1, e1, e2, if_true, if_false]
  rw [en_J0_charAt_5068e]
  simp only [cs8_0, cs8_1, cs8_2, cs8_3, cs8_4, decide_eq_true_eq, ev_ald0, ev_aldn0, ev_cs2, ev_ct0, ev_if0, ev_ild1, ev_no, ev_rz, ev_tv, i00, i01, i10, not_false_eq_true, not_true_eq_false, pm_bd_s, pm_tl_n, pm_tl_s, ↓reduceIte, pb_J0_charAt_5068e_0, pb_J0_charAt_5068e_1, kd_81, rf_81_0, kd_86, al_86, Nat.reduceAdd, j_lat kd_81, z10, r3, e2, if_true, if_false]
theorem j_chr1_2 : rs fb (d + 5) n_J0_charAt_5068e [.ref 81, .int 2] h = some (some (.int 119), h) := by
  have z10 : ((1 : Int32) = 0) = False := by decide
  have a1 : ((2 : Int32) < 0) = False := by decide
  have a2 : ((2 : Int32) < nI 4) = True := by decide
  have x1 : pm_ix (2 : Int32) 4 = true := by decide
  have k1 : (2 : Int32).toNatClampNeg = 2 := by decide
  have e1 : (((119 : Int32) &&& 255).toUInt32 % 65536).toInt32 = 119 := by decide
  have e2 : ((119 : Int32).toUInt32.toUInt16.toUInt32.toInt32 = 119) = True := by decide
  have r1 : rs fb (d + 2) n_J3_checkIndex_8e157 [.int 2, .int (nI 4), pm_fv fb] h = some (some (.int 2), h) := by
    cases fb
    · show rs false (d + 2) n_J3_checkIndex_8e157 [.int 2, .int (nI 4), .null] h = _
      rw [en_J3_null]
      simp only [decide_eq_true_eq, ev_ald2, ev_aldn2, ev_go, ev_if0, ev_if2, ev_ild0, ev_ild1, ev_no, ev_ri, i00, i01, i10, not_false_eq_true, not_true_eq_false, ↓reduceIte, pb_J3_checkIndex_8e157_0, pb_J3_checkIndex_8e157_1, pb_J3_checkIndex_8e157_2, a1, a2, if_true, if_false]
    · show rs true (d + 2) n_J3_checkIndex_8e157 [.int 2, .int (nI 4), .ref 89] h = _
      rw [en_J3_checkIndex_8e157]
      simp only [decide_eq_true_eq, ev_ald2, ev_aldn2, ev_go, ev_if0, ev_if2, ev_ild0, ev_ild1, ev_no, ev_ri, i00, i01, i10, not_false_eq_true, not_true_eq_false, ↓reduceIte, pb_J3_checkIndex_8e157_0, pb_J3_checkIndex_8e157_1, pb_J3_checkIndex_8e157_2, a1, a2, if_true, if_false]
  have r2 : rs fb (d + 3) n_J0_checkIndex_df160 [.int 2, .int (nI 4)] h = some (none, h) := by
    rw [en_J0_checkIndex_df160]
    simp only [cs8_0, cs8_1, cs8_2, cs8_3, cs8_4, ev_cs3, ev_ild0, ev_ild1, ev_pop_i, ev_pop_r, ev_rv, ev_v, pm_bd_s, pm_tl_n, pm_tl_s, pb_J0_checkIndex_df160_0, r1]
  have r3 : rs fb (d + 4) n_J1_charAt_3b067 [.ref 86, .int 2] h = some (some (.int 119), h) := by
    rw [en_J1_charAt_3b067]
    simp only [cs8_0, cs8_1, cs8_2, cs8_3, cs8_4, ev_ald0, ev_aldn0, ev_ba, ev_bin, ev_cs2, ev_i, ev_ild1, ev_lb, ev_rz, ev_un, pm_bd_s, pm_tl_n, pm_tl_s, pb_J1_charAt_3b067_0, kd_86, al_86, r2, x1, k1, by_86_2, e1, e2, if_true, if_false]
  rw [en_J0_charAt_5068e]
  simp only [cs8_0, cs8_1, cs8_2, cs8_3, cs8_4, decide_eq_true_eq, ev_ald0, ev_aldn0, ev_cs2, ev_ct0, ev_if0, ev_ild1, ev_no, ev_rz, ev_tv, i00, i01, i10, not_false_eq_true, not_true_eq_false, pm_bd_s, pm_tl_n, pm_tl_s, ↓reduceIte, pb_J0_charAt_5068e_0, pb_J0_charAt_5068e_1, kd_81, rf_81_0, kd_86, al_86, Nat.reduceAdd, j_lat kd_81, z10, r3, e2, if_true, if_false]
theorem j_chr1_3 : rs fb (d + 5) n_J0_charAt_5068e [.ref 81, .int 3] h = some (some (.int 99), h) := by
  have z10 : ((1 : Int32) = 0) = False := by decide
  have a1 : ((3 : Int32) < 0) = False := by decide
  have a2 : ((3 : Int32) < nI 4) = True := by decide
  have x1 : pm_ix (3 : Int32) 4 = true := by decide
  have k1 : (3 : Int32).toNatClampNeg = 3 := by decide
  have e1 : (((99 : Int32) &&& 255).toUInt32 % 65536).toInt32 = 99 := by decide
  have e2 : ((99 : Int32).toUInt32.toUInt16.toUInt32.toInt32 = 99) = True := by decide
  have r1 : rs fb (d + 2) n_J3_checkIndex_8e157 [.int 3, .int (nI 4), pm_fv fb] h = some (some (.int 3), h) := by
    cases fb
    · show rs false (d + 2) n_J3_checkIndex_8e157 [.int 3, .int (nI 4), .null] h = _
      rw [en_J3_null]
      simp only [decide_eq_true_eq, ev_ald2, ev_aldn2, ev_go, ev_if0, ev_if2, ev_ild0, ev_ild1, ev_no, ev_ri, i00, i01, i10, not_false_eq_true, not_true_eq_false, ↓reduceIte, pb_J3_checkIndex_8e157_0, pb_J3_checkIndex_8e157_1, pb_J3_checkIndex_8e157_2, a1, a2, if_true, if_false]
    · show rs true (d + 2) n_J3_checkIndex_8e157 [.int 3, .int (nI 4), .ref 89] h = _
      rw [en_J3_checkIndex_8e157]
      simp only [decide_eq_true_eq, ev_ald2, ev_aldn2, ev_go, ev_if0, ev_if2, ev_ild0, ev_ild1, ev_no, ev_ri, i00, i01, i10, not_false_eq_true, not_true_eq_false, ↓reduceIte, pb_J3_checkIndex_8e157_0, pb_J3_checkIndex_8e157_1, pb_J3_checkIndex_8e157_2, a1, a2, if_true, if_false]
  have r2 : rs fb (d + 3) n_J0_checkIndex_df160 [.int 3, .int (nI 4)] h = some (none, h) := by
    rw [en_J0_checkIndex_df160]
    simp only [cs8_0, cs8_1, cs8_2, cs8_3, cs8_4, ev_cs3, ev_ild0, ev_ild1, ev_pop_i, ev_pop_r, ev_rv, ev_v, pm_bd_s, pm_tl_n, pm_tl_s, pb_J0_checkIndex_df160_0, r1]
  have r3 : rs fb (d + 4) n_J1_charAt_3b067 [.ref 86, .int 3] h = some (some (.int 99), h) := by
    rw [en_J1_charAt_3b067]
    simp only [cs8_0, cs8_1, cs8_2, cs8_3, cs8_4, ev_ald0, ev_aldn0, ev_ba, ev_bin, ev_cs2, ev_i, ev_ild1, ev_lb, ev_rz, ev_un, pm_bd_s, pm_tl_n, pm_tl_s, pb_J1_charAt_3b067_0, kd_86, al_86, r2, x1, k1, by_86_3, e1, e2, if_true, if_false]
  rw [en_J0_charAt_5068e]
  simp only [cs8_0, cs8_1, cs8_2, cs8_3, cs8_4, decide_eq_true_eq, ev_ald0, ev_aldn0, ev_cs2, ev_ct0, ev_if0, ev_ild1, ev_no, ev_rz, ev_tv, i00, i01, i10, not_false_eq_true, not_true_eq_false, pm_bd_s, pm_tl_n, pm_tl_s, ↓reduceIte, pb_J0_charAt_5068e_0, pb_J0_charAt_5068e_1, kd_81, rf_81_0, kd_86, al_86, Nat.reduceAdd, j_lat kd_81, z10, r3, e2, if_true, if_false]
end NM
