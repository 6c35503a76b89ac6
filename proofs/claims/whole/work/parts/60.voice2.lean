/-! PAIRS OF CALLS: voice -/
section VP
variable {fb : Bool} {d : Nat} {h : pm_HP}
def spC (h : pm_HP) (K s : Nat) (m : Int32) : pm_HP := pm_si (pm_si (pm_si (pm_si (pm_si h 19 1 (nI K)) 19 2 (nI s)) 19 3 m) 19 4 0) 22 3 0
def spR (h : pm_HP) (s : Nat) : pm_HP := pm_si (pm_si (pm_si h 59 20 0) 59 21 (nI s)) 59 22 0
theorem spR_at {h : pm_HP} {s a b : Nat} (hn : ¬ (a = 59 ∧ (b = 20 ∨ b = 21 ∨ b = 22))) : (spR h s).1 a b = h.1 a b := by
  unfold spR
  rw [si_ne _ _ (by omega), si_ne _ _ (by omega), si_ne _ _ (by omega)]
theorem spC_at {h : pm_HP} {K s a b : Nat} {m : Int32} (h1 : ¬ a = 19) (h2 : ¬ a = 22) : (spC h K s m).1 a b = h.1 a b := by
  unfold spC
  rw [si_ne _ _ (by omega), si_ne _ _ (by omega), si_ne _ _ (by omega), si_ne _ _ (by omega), si_ne _ _ (by omega)]
theorem has_4' {u : Nat} {v : Int32} (hu : h.1 4 3 = nI u) (hu2 : u ≤ 60) : rs fb (d + 2) n_X6_has [.ref 4, .int v] h = some (some (.int (bI (0 ≤ v ∧ v < nI u))), h) := sp_has (by decide) hu hu2
theorem VC_0 {K s : Nat} {m : Int32} : VC K s m (spC h K s m) := by
  unfold VC spC
  refine ⟨?_, ?_, ?_⟩
  · rw [si_ne _ _ (by omega), si_ne _ _ (by omega), si_ne _ _ (by omega), si_ne _ _ (by omega), si_same]
  · rw [si_ne _ _ (by omega), si_ne _ _ (by omega), si_ne _ _ (by omega), si_same]
  · rw [si_ne _ _ (by omega), si_ne _ _ (by omega), si_same]
theorem VR_0 {h1 : pm_HP} {K s s' : Nat} {m : Int32} : VR (spC h K s m) (spR h1 s') := by
  refine ⟨0, by omega, si_same _ _ _ _, ?_, fun i hi => absurd hi (by omega), ?_, Or.inl (si_same _ _ _ _)⟩
  · unfold spR
    rw [si_ne _ _ (by omega), si_ne _ _ (by omega), si_same, nI_0]
  · unfold spC spR
    rw [si_ne _ _ (by omega), si_same, si_same]
theorem VD_0 {h1 : pm_HP} {K s : Nat} {m : Int32} (h60 : h1.1 60 = h.1 60) (hs : s < 8) (hK : rl h 0 s = nI K) (hm : rl h 3 s = m) : VD K s m (spR h1 s) := by
  refine ⟨?_, ?_, ?_, hs⟩
  · unfold spR
    rw [si_ne _ _ (by omega), si_same]
  · unfold rl at *
    rw [spR_at (by omega), h60]; exact hK
  · unfold rl at *
    rw [spR_at (by omega), h60]; exact hm
theorem sp_speak {K s v : Nat} {x y : Int32} {m : Int32} {h2 : pm_HP} {u : Nat} (iS : RS h (31 + 1) 60) (hs : s < 8) (hK : rl h 0 s = nI K) (hm : rl h 3 s = m) (a : rs fb (d + 98) n_X4_sound [.ref 19, .int (nI v), .int (nI K), .int x, .int 0] (spC h K s m) = some (some (.int y), h2)) : rs fb (d + 99) n_X4_speak [.ref 19, .ref 4, .int (nI s), .int (nI v), .int x] h = some (some (.int y), h2) := by
  have a0 := at_4_0 (fb := fb) (d := d + 96) (h := h) (s := s) hs
  rw [eq_sl iS hs (by omega), hK] at a0
  have a3 := at_4_3 (fb := fb) (d := d + 96) (h := pm_si (pm_si h 19 1 (nI K)) 19 2 (nI s)) (s := s) hs
  have e3 : sl (pm_si (pm_si h 19 1 (nI K)) 19 2 (nI s)) 3 s = m := by
    rw [← hm, ← eq_sl iS hs (by omega)]
    unfold sl
    rw [si_ne _ _ (by omega), si_ne _ _ (by omega)]
  rw [e3] at a3
  have us := sp_use (fb := fb) (d := d + 96) (t := 22) (n := 0) (h := pm_si (pm_si (pm_si (pm_si h 19 1 (nI K)) 19 2 (nI s)) 19 3 m) 19 4 0) (by decide) (Nat.zero_le _)
  rw [nI_0] at us
  have ek : (pm_si (pm_si (pm_si (pm_si (pm_si h 19 1 (nI K)) 19 2 (nI s)) 19 3 m) 19 4 0) 22 3 0).1 19 1 = nI K := VC_0.1
  rw [en_X4_speak]
  unfold spC at a
  simp only [cs8_0, cs8_1, cs8_2, cs8_3, cs8_4, ev_ald0, ev_ald1, ev_aldn0, ev_aldn1, ev_cv1, ev_cv2, ev_cv4, ev_gi, ev_gr, ev_i, ev_ild2, ev_ild3, ev_ild4, ev_pi, ev_pz, ev_ri, is_sw, pm_bd_s, pm_tl_n, pm_tl_s, pb_X4_speak_0, kd_4, rf_4_2, fc_4_0, fc_4_1, is_6_3_4, is_3_6_4, is_3_4, kd_19, rf_19_0, is_4_19, kd_22, rf_22_2, fc_22_0, fc_22_1, is_6_3_22, is_3_6_22, a0, a3, us, ek, a, true_or, if_true]
/-- what a voice leaves, on both sides -/
theorem Inv_vo {hE h1 h2 : pm_HP} {K s : Nat} {m : Int32} {e : Nat} (hI : Inv h) (hE1 : Inv hE) (eE : ∀ a, ¬ a = 28 → ¬ a = 62 → hE.1 a = h.1 a) (fc : FC (spC h K s m) h1) (fr : ∀ a b, ¬ (a = 59 ∧ (b = 20 ∨ b = 21 ∨ b = 22)) → ¬ a = 71 → ¬ a = 28 → ¬ a = 62 → h2.1 a b = h1.1 a b) (e28 : h2.1 28 = hE.1 28) (e62 : h2.1 62 = hE.1 62) (V : RV h2) : Inv h2 := by
  have E : ∀ a, ¬ a = 19 → ¬ a = 22 → ¬ a = 47 → ¬ a = 59 → ¬ a = 71 → ¬ a = 28 → ¬ a = 62 → h2.1 a = h.1 a := by
    intro a n1 n2 n3 n4 n5 n6 n7
    funext b
    rw [fr a b (by omega) n5 n6 n7, fc a b (by omega) n2 n3, spC_at n1 n2]
  refine Inv_all hE1 (fun a h1 h2 h3 => ?_) ?_ V ?_ ?_
  · by_cases q : a = 28
    · rw [q]; exact e28
    · by_cases q2 : a = 62
      · rw [q2]; exact e62
      · rw [eE a q q2]
        exact E a (fun t => h1 (by rw [t]; decide)) (by omega) (by omega) (by omega) (by omega) q q2
  · rw [fr 59 2 (by omega) (by omega) (by omega) (by omega), fc 59 2 (by omega) (by omega) (by omega), spC_at (by omega) (by omega), eE 59 (by omega) (by omega)]
  · have z := hI.2.2.2.2.2
    unfold R0 at z ⊢
    rw [E 52 (by omega) (by omega) (by omega) (by omega) (by omega) (by omega) (by omega), E 53 (by omega) (by omega) (by omega) (by omega) (by omega) (by omega) (by omega), E 63 (by omega) (by omega) (by omega) (by omega) (by omega) (by omega) (by omega), E 64 (by omega) (by omega) (by omega) (by omega) (by omega) (by omega) (by omega)]
    exact z
  · exact SR_eq hI.1 (E _ (by omega) (by omega) (by omega) (by omega) (by omega) (by omega) (by omega)) (E _ (by omega) (by omega) (by omega) (by omega) (by omega) (by omega) (by omega)) (fun k hk => E _ (by omega) (by omega) (by omega) (by omega) (by omega) (by omega) (by omega)) (fun k hk => E _ (by omega) (by omega) (by omega) (by omega) (by omega) (by omega) (by omega))
theorem pr_voice (hI : Inv h) (x y z : Int32) : Pr fb (d + 100) n_X8_voice n_X9_voice [.int x, .int y, .int z] h := by
  obtain ⟨⟨n, u, nt, nb, nw, iN⟩, iZ, iM, iS, iT, iB, iW, iX, iY⟩ := id hI.1
  have hu := iN.2.1.2.2
  have hc4 : h.1 4 3 = nI u := iN.2.1.1
  by_cases q1 : 0 ≤ x ∧ x < nI u
  · by_cases q2 : 0 ≤ y ∧ y ≤ 3
    · obtain ⟨s, hs, rfl⟩ := i_lt (by omega) q1
      obtain ⟨v, hv, rfl⟩ := nI_of2 (M := 3) (n := 3) (by decide) (Int32.not_lt.mpr q2.1) q2.2
      have hs8 : s < 8 := by omega
      obtain ⟨K, hK, eK⟩ := nI_of2 (M := 6) (n := 6) (by decide) (Int32.not_lt.mpr (iS s hs8).2.1.1) (iS s hs8).2.1.2
      have hK0 : rl h 0 s = nI K := eK
      have q1' := eq_true q1
      have q2' := eq_true q2
      have dp := dp_all K (by omega) v (by omega)
      have J := Jv_all (fb := fb) (K := K) (s := s) (m := rl h 3 s) (by omega) 10
      obtain ⟨w, hc, hr0, a, -, fc, -, V0⟩ := J K v z 0 (d + 72) 0 (spC h K s (rl h 3 s)) (spR h s) (by omega) (by omega) dp (by omega) VC_0 (VD_0 rfl hs8 hK0 rfl) VR_0
      rw [nI_0, show d + 72 + 2 * 10 + 6 = d + 98 by omega] at a
      have sp' := sp_speak (u := u) iS hs8 hK0 rfl a
      have c60 : hc.1 60 = h.1 60 := by
        funext b
        rw [fc 60 b (by omega) (by omega) (by omega), spC_at (by omega) (by omega)]
      have R : ∀ h1 : pm_HP, h1.1 60 = h.1 60 → ∃ h2, rs fb (d + 99) n_X9_voiced [.ref 59, .int (nI v), .int z] (spR h1 s) = some (some (.int w), h2) ∧ FR (spR h1 s) h2 ∧ VR hc h2 := by
        intro h1 e60
        have vd : VD K s (rl h 3 s) (spR h1 s) := VD_0 e60 hs8 hK0 rfl
        obtain ⟨w', hc', h2, a', b', -, fr', V'⟩ := J K v z 0 (d + 72) (d + 62) (spC h K s (rl h 3 s)) (spR h1 s) (by omega) (by omega) dp (by omega) VC_0 vd VR_0
        rw [nI_0, show d + 72 + 2 * 10 + 6 = d + 98 by omega, a] at a'
        have e1 := (Prod.mk.inj (Option.some.inj a')).1
        have e2 := (Prod.mk.inj (Option.some.inj a')).2
        have e3 : w = w' := Value.int.inj (Option.some.inj e1)
        subst e3
        subst e2
        rw [show d + 62 + 3 * 10 + 6 = d + 97 + 1 by omega] at b'
        exact ⟨h2, sr_voiced (R := none) vd b', fr', V'⟩
      obtain ⟨t, t1, t2, t3, t4, t5, t6⟩ := id V0
      have p01 : hc.1 19 4 = 0 ∨ hc.1 19 4 = 1 := by rw [t5]; exact t6
      have ip : rs fb (d + 99) n_X4_isParted [.ref 19] hc = some (some (.int (hc.1 19 4)), hc) := by
        rw [en_X4_isParted]
        rcases p01 with p | p
        · simp only [ev_ald0, ev_aldn0, ev_gi, ev_rz, pb_X4_isParted_0, kd_19, rf_19_0, is_4_19, p, (show ((0 : Int32) &&& 1 = 0) = True by decide), if_true]
        · simp only [ev_ald0, ev_aldn0, ev_gi, ev_rz, pb_X4_isParted_0, kd_19, rf_19_0, is_4_19, p, (show ((1 : Int32) &&& 1 = 1) = True by decide), if_true]
      have z10 : ((1 : Int32) = 0) = False := by decide
      have hn60 : ∀ h1 : pm_HP, h1.1 60 = h.1 60 → h1.1 60 1 = nI u := fun h1 e => by rw [e]; exact iN.2.1.2.1
      rcases p01 with p | p
      · obtain ⟨h2, r2, fr, V⟩ := R hc c60
        have p2 : h2.1 59 22 = 0 := by
          obtain ⟨t, t1, t2, t3, t4, t5, t6⟩ := V
          rw [← t5, p]
        refine ⟨w, hc, h2, ?_, ?_, ?_⟩
        · rw [en_X8_voice]
          simp only [c20, c2i, c2n, c2r, cs8_0, cs8_1, cs8_2, cs8_3, cs8_4, decide_eq_true_eq, ev_ald0, ev_aldn0, ev_cs3, ev_cv0, ev_cv1, ev_cv4, ev_go, ev_gr, ev_i, ev_if0, ev_ild1, ev_ild2, ev_ild3, ev_ild4, ev_ist4, ev_ri, i00, i01, i10, not_false_eq_true, not_true_eq_false, pm_bd_s, pm_tl_n, pm_tl_s, ↓reduceIte, pb_X8_voice_0, pb_X8_voice_1, pb_X8_voice_2, pb_X8_voice_3, pb_X8_voice_4, kd_0, rf_0_0, rf_0_1, rf_0_2, rf_0_3, rf_0_4, rf_0_5, rf_0_6, rf_0_7, rf_0_8, is_8_0, kd_1, rf_1_0, rf_1_1, rf_1_2, rf_1_3, rf_1_4, rf_1_5, rf_1_6, is_5_1, kd_4, rf_4_2, fc_4_0, fc_4_1, is_6_3_4, is_3_6_4, is_3_4, kd_19, rf_19_0, is_4_19, has_4' hc4 (show u ≤ 60 by omega), sp_isIn, bI_0, bI_n0, q1', q2', sp', ip, p, not_true_eq_false, if_true, if_false]
        · rw [en_X9_voice]
          unfold spR at r2
          simp only [c20, c2i, c2n, c2r, cs8_0, cs8_1, cs8_2, cs8_3, cs8_4, decide_eq_true_eq, ev_ald0, ev_aldn0, ev_cs3, ev_cv1, ev_cv2, ev_gi, ev_go, ev_i, ev_if0, ev_ild1, ev_ild2, ev_ild3, ev_ild4, ev_ist4, ev_pi, ev_pz, ev_ri, i00, i01, i10, not_false_eq_true, not_true_eq_false, pm_bd_s, pm_tl_n, pm_tl_s, ↓reduceIte, pb_X9_voice_0, pb_X9_voice_1, pb_X9_voice_2, pb_X9_voice_3, pb_X9_voice_4, kd_59, rf_59_0, rf_59_1, rf_59_3, rf_59_4, rf_59_5, rf_59_6, rf_59_7, rf_59_12, rf_59_14, rf_59_15, rf_59_16, rf_59_19, rf_59_23, rf_59_24, rf_59_25, rf_59_26, is_9_59, sr_is1 (hn60 hc c60) (show u ≤ 24 by omega), sr_isIn, bI_0, bI_n0, q1', q2', r2, p2, true_or, not_true_eq_false, if_true, if_false]
        · refine Inv_vo (e := 1) (hE := h) (h1 := hc) (K := K) (s := s) (m := rl h 3 s) hI hI (fun _ _ _ => rfl) fc (fun a b n1 n2 n3 n4 => by rw [fr a b (by omega) n2, spR_at n1]) ?_ ?_ ?_
          · funext b
            rw [fr 28 b (by omega) (by omega), spR_at (by omega), fc 28 b (by omega) (by omega) (by omega), spC_at (by omega) (by omega)]
          · funext b
            rw [fr 62 b (by omega) (by omega), spR_at (by omega), fc 62 b (by omega) (by omega) (by omega), spC_at (by omega) (by omega)]
          · obtain ⟨t, t1, t2, t3, t4, t5, t6⟩ := V
            refine ⟨t, t1, ?_, t3, fun i hi => ?_⟩
            · rw [fr 22 3 (by omega) (by omega), spR_at (by omega)]; exact t2
            · rw [fr 47 i (by omega) (by omega), spR_at (by omega)]; exact t4 i hi
      · have e28 : (pm_si hc 28 6 (hc.1 28 6 + 1)).1 60 = h.1 60 := by
          rw [← c60]
          funext b
          rw [si_ne _ _ (by omega)]
        obtain ⟨h2, r2, fr, V⟩ := R (pm_si hc 28 6 (hc.1 28 6 + 1)) e28
        have p2 : h2.1 59 22 = 1 := by
          obtain ⟨t, t1, t2, t3, t4, t5, t6⟩ := V
          rw [← t5, p]
        have c28 : ∀ b, hc.1 28 b = h.1 28 b := fun b => by rw [fc 28 b (by omega) (by omega) (by omega), spC_at (by omega) (by omega)]
        have c62 : ∀ b, hc.1 62 b = h.1 62 b := fun b => by rw [fc 62 b (by omega) (by omega) (by omega), spC_at (by omega) (by omega)]
        refine ⟨-1000000006, pm_si hc 28 6 (hc.1 28 6 + 1), pm_si h2 62 6 (h2.1 62 6 + 1), ?_, ?_, ?_⟩
        · rw [en_X8_voice]
          simp only [c20, c2i, c2n, c2r, cs8_0, cs8_1, cs8_2, cs8_3, cs8_4, decide_eq_true_eq, ev_ald0, ev_aldn0, ev_cs3, ev_cv0, ev_cv1, ev_cv4, ev_go, ev_gr, ev_i, ev_if0, ev_ild1, ev_ild2, ev_ild3, ev_ild4, ev_ist4, ev_ri, i00, i01, i10, not_false_eq_true, not_true_eq_false, pm_bd_s, pm_tl_n, pm_tl_s, ↓reduceIte, pb_X8_voice_0, pb_X8_voice_1, pb_X8_voice_2, pb_X8_voice_3, pb_X8_voice_4, kd_0, rf_0_0, rf_0_1, rf_0_2, rf_0_3, rf_0_4, rf_0_5, rf_0_6, rf_0_7, rf_0_8, is_8_0, kd_1, rf_1_0, rf_1_1, rf_1_2, rf_1_3, rf_1_4, rf_1_5, rf_1_6, is_5_1, kd_4, rf_4_2, fc_4_0, fc_4_1, is_6_3_4, is_3_6_4, is_3_4, kd_19, rf_19_0, is_4_19, has_4' hc4 (show u ≤ 60 by omega), sp_isIn, bI_0, bI_n0, q1', q2', sp', ip, p, z10, not_true_eq_false, if_true, if_false, fail_6, F6]
        · rw [en_X9_voice]
          unfold spR at r2
          simp only [c20, c2i, c2n, c2r, cs8_0, cs8_1, cs8_2, cs8_3, cs8_4, decide_eq_true_eq, ev_ald0, ev_aldn0, ev_cs3, ev_cv1, ev_cv2, ev_gi, ev_go, ev_i, ev_if0, ev_ild1, ev_ild2, ev_ild3, ev_ild4, ev_ist4, ev_pi, ev_pz, ev_ri, i00, i01, i10, not_false_eq_true, not_true_eq_false, pm_bd_s, pm_tl_n, pm_tl_s, ↓reduceIte, pb_X9_voice_0, pb_X9_voice_1, pb_X9_voice_2, pb_X9_voice_3, pb_X9_voice_4, kd_59, rf_59_0, rf_59_1, rf_59_3, rf_59_4, rf_59_5, rf_59_6, rf_59_7, rf_59_12, rf_59_14, rf_59_15, rf_59_16, rf_59_19, rf_59_23, rf_59_24, rf_59_25, rf_59_26, is_9_59, sr_is1 (hn60 _ e28) (show u ≤ 24 by omega), sr_isIn, bI_0, bI_n0, q1', q2', r2, p2, z10, true_or, not_true_eq_false, if_true, if_false, find_6]
        · refine Inv_vo (e := 1) (hE := pm_si (pm_si h 28 6 (h.1 28 6 + 1)) 62 6 ((pm_si h 28 6 (h.1 28 6 + 1)).1 62 6 + 1)) (h1 := hc) (K := K) (s := s) (m := rl h 3 s) hI (Inv_err (e := 6) hI (by omega) (by omega)) (fun a n1 n2 => ?_) fc (fun a b n1 n2 n3 n4 => ?_) ?_ ?_ ?_
          · funext b
            rw [si_ne _ _ (by omega), si_ne _ _ (by omega)]
          · rw [si_ne _ _ (by omega), fr a b (by omega) n2, spR_at n1, si_ne _ _ (by omega)]
          · funext b
            rw [si_ne (a := 62) _ _ (by omega), fr 28 b (by omega) (by omega), spR_at (by omega), si_ne (a := 62) _ _ (by omega), si_at, si_at, c28, c28]
          · funext b
            rw [si_at, si_at, fr 62 6 (by omega) (by omega), fr 62 b (by omega) (by omega), spR_at (by omega), spR_at (by omega), si_ne _ _ (by omega), si_ne _ _ (by omega), si_ne _ _ (by omega), si_ne _ _ (by omega), c62, c62]
          · obtain ⟨t, t1, t2, t3, t4, t5, t6⟩ := V
            refine ⟨t, t1, ?_, ?_, fun i hi => ?_⟩
            · rw [si_ne _ _ (by omega), fr 22 3 (by omega) (by omega), spR_at (by omega), si_ne _ _ (by omega)]; exact t2
            · rw [si_ne _ _ (by omega)]; exact t3
            · rw [si_ne _ _ (by omega), si_ne _ _ (by omega), fr 47 i (by omega) (by omega), spR_at (by omega), si_ne _ _ (by omega)]; exact t4 i hi
    · refine Pr_e (e := 1) (x := -1000000001) hI (by omega) (by omega) ?_ ?_
      · rw [en_X8_voice]
        simp only [c20, c2i, c2n, c2r, cs8_0, cs8_1, cs8_2, cs8_3, cs8_4, decide_eq_true_eq, ev_ald0, ev_aldn0, ev_cs3, ev_cv0, ev_cv1, ev_cv4, ev_go, ev_gr, ev_i, ev_if0, ev_ild1, ev_ild2, ev_ild3, ev_ild4, ev_ist4, ev_ri, i00, i01, i10, not_false_eq_true, not_true_eq_false, pm_bd_s, pm_tl_n, pm_tl_s, ↓reduceIte, pb_X8_voice_0, pb_X8_voice_1, pb_X8_voice_2, pb_X8_voice_3, pb_X8_voice_4, kd_0, rf_0_0, rf_0_1, rf_0_2, rf_0_3, rf_0_4, rf_0_5, rf_0_6, rf_0_7, rf_0_8, is_8_0, kd_1, rf_1_0, rf_1_1, rf_1_2, rf_1_3, rf_1_4, rf_1_5, rf_1_6, is_5_1, kd_4, rf_4_2, fc_4_0, fc_4_1, is_6_3_4, is_3_6_4, is_3_4, has_4' hc4 (show u ≤ 60 by omega), sp_isIn, bI_0, bI_n0, eq_true q1, eq_false q2, not_true_eq_false, if_true, if_false, fail_1, F1]
      · rw [en_X9_voice]
        simp only [c20, c2i, c2n, c2r, cs8_0, cs8_1, cs8_2, cs8_3, cs8_4, decide_eq_true_eq, ev_ald0, ev_aldn0, ev_cs3, ev_cv1, ev_cv2, ev_gi, ev_go, ev_i, ev_if0, ev_ild1, ev_ild2, ev_ild3, ev_ild4, ev_ist4, ev_pi, ev_pz, ev_ri, i00, i01, i10, not_false_eq_true, not_true_eq_false, pm_bd_s, pm_tl_n, pm_tl_s, ↓reduceIte, pb_X9_voice_0, pb_X9_voice_1, pb_X9_voice_2, pb_X9_voice_3, pb_X9_voice_4, kd_59, rf_59_0, rf_59_1, rf_59_3, rf_59_4, rf_59_5, rf_59_6, rf_59_7, rf_59_12, rf_59_14, rf_59_15, rf_59_16, rf_59_19, rf_59_23, rf_59_24, rf_59_25, rf_59_26, is_9_59, sr_is1 (((si_ne (a := 28) (k := 1) (b := 60) (j := 1) h (h.1 28 1 + 1) (by omega)).trans (iN.2.1.2.1))) (show u ≤ 24 by omega), sr_isIn, bI_0, bI_n0, eq_true q1, eq_false q2, not_true_eq_false, if_true, if_false, find_1]
  · refine Pr_e (e := 1) (x := -1000000001) hI (by omega) (by omega) ?_ ?_
    · rw [en_X8_voice]
      simp only [c20, c2i, c2n, c2r, cs8_0, cs8_1, cs8_2, cs8_3, cs8_4, decide_eq_true_eq, ev_ald0, ev_aldn0, ev_cs3, ev_cv0, ev_cv1, ev_cv4, ev_go, ev_gr, ev_i, ev_if0, ev_ild1, ev_ild2, ev_ild3, ev_ild4, ev_ist4, ev_ri, i00, i01, i10, not_false_eq_true, not_true_eq_false, pm_bd_s, pm_tl_n, pm_tl_s, ↓reduceIte, pb_X8_voice_0, pb_X8_voice_1, pb_X8_voice_2, pb_X8_voice_3, pb_X8_voice_4, kd_0, rf_0_0, rf_0_1, rf_0_2, rf_0_3, rf_0_4, rf_0_5, rf_0_6, rf_0_7, rf_0_8, is_8_0, kd_1, rf_1_0, rf_1_1, rf_1_2, rf_1_3, rf_1_4, rf_1_5, rf_1_6, is_5_1, kd_4, rf_4_2, fc_4_0, fc_4_1, is_6_3_4, is_3_6_4, is_3_4, has_4' hc4 (show u ≤ 60 by omega), bI_0, bI_n0, eq_false q1, not_false_eq_true, if_true, if_false, fail_1, F1]
    · rw [en_X9_voice]
      simp only [c20, c2i, c2n, c2r, cs8_0, cs8_1, cs8_2, cs8_3, cs8_4, decide_eq_true_eq, ev_ald0, ev_aldn0, ev_cs3, ev_cv1, ev_cv2, ev_gi, ev_go, ev_i, ev_if0, ev_ild1, ev_ild2, ev_ild3, ev_ild4, ev_ist4, ev_pi, ev_pz, ev_ri, i00, i01, i10, not_false_eq_true, not_true_eq_false, pm_bd_s, pm_tl_n, pm_tl_s, ↓reduceIte, pb_X9_voice_0, pb_X9_voice_1, pb_X9_voice_2, pb_X9_voice_3, pb_X9_voice_4, kd_59, rf_59_0, rf_59_1, rf_59_3, rf_59_4, rf_59_5, rf_59_6, rf_59_7, rf_59_12, rf_59_14, rf_59_15, rf_59_16, rf_59_19, rf_59_23, rf_59_24, rf_59_25, rf_59_26, is_9_59, sr_is1 (((si_ne (a := 28) (k := 1) (b := 60) (j := 1) h (h.1 28 1 + 1) (by omega)).trans (iN.2.1.2.1))) (show u ≤ 24 by omega), bI_0, bI_n0, eq_false q1, not_false_eq_true, if_true, if_false, find_1]
end VP
