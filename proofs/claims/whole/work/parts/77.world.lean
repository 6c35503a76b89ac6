/-! THE WORLD MADE IS THE FIRST HEAP -/
def hI1 (i : Nat) : Nat → Int32 :=
  if i = 60 then upd (upd (upd (fun _ => 0) 0 12) 7 21120) 5 1
  else if i = 1 ∨ i = 2 then upd (upd (fun _ => 0) 8 21120) 9 1
  else if i = 3 ∨ i = 10 then upd (fun _ => 0) 3 12
  else if i = 18 then upd (fun _ => 0) 2 2 else fun _ => 0
def hI : pm_HP := (hI1, fun _ _ => 0)
theorem hI_60 : hI.1 60 = upd (upd (upd (fun _ => 0) 0 12) 7 21120) 5 1 := rfl
theorem Inv_hI : Inv hI := by
  have hS : SR hI 1 3 31 60 := by
    refine ⟨⟨12, 0, 0, 0, 0, ⟨by decide, by decide, by decide, by decide⟩, ⟨by decide, by decide, by decide⟩, ⟨by decide, by decide, by decide⟩, ⟨by decide, by decide, by decide⟩, ⟨by decide, by decide, by decide⟩⟩, ⟨by decide, by decide, by decide⟩, ?_, ?_, ?_, ?_, ?_, ?_, ?_⟩
    · unfold RM inB; decide +kernel
    · unfold RS inB; decide +kernel
    · unfold RT inB; decide +kernel
    · unfold RB inB; decide +kernel
    · unfold RW; decide +kernel
    · exact ⟨0, by decide, by decide, by decide, fun i hi => absurd hi (by omega), Or.inl rfl⟩
    · exact ⟨0, by decide, by decide, by decide, fun i hi => absurd hi (by omega), Or.inl rfl⟩
  refine ⟨hS, ⟨by decide, Or.inl (by decide)⟩, ?_, ⟨0, by decide, by decide, by decide, fun i hi => absurd hi (by omega)⟩, ?_, by decide, by decide, by decide, by decide⟩
  · have h0 : ∀ k, k < 7 → hI.1 28 k = hI.1 62 k := by decide +kernel
    exact fun k _ h2 => h0 k (by omega)
  · intro k hk
    have h1 : ∀ k, k < 4 → hI.1 (23 + k) 2 = nI 0 ∧ hI.1 73 k = nI 0 ∧ hI.1 (23 + k) 1 = hI.1 72 k ∧ hI.1 72 k = 0 := by decide +kernel
    have h2 : ∀ k, k < 4 → ∀ i, i < 24 → hI.1 (48 + k) i = hI.1 74 (24 * k + i) := by decide +kernel
    obtain ⟨g1, g2, g3, g4⟩ := h1 k hk
    exact ⟨0, by decide, g1, g2, g3, Or.inl g4, h2 k hk⟩
theorem arrV_ext {c : ClassId} {n : Nat} {f g : Nat → Value} (h : ∀ j, j < n → f j = g j) : arrV c n f = arrV c n g := by
  unfold arrV
  congr 2
  funext j
  exact h j.val j.isLt
def fE (D : va_G) (cI cS cT : ClassId) (adK : Nat → Nat) : xa_T := (D, cI, cS, cT, adK 2, adK 0, adK 1)
def fA (q8 q9 : Nat) (u v : Nat → Nat) : List Nat := [q8, (u 0), (u 15), (u 14), (u 2), (u 4), (u 6), (u 8), (u 10), (u 12), (u 29), (u 17), (u 19), (u 21), (u 23), (u 25), (u 27), (u 30), (u 38), (u 43), (u 39), (u 41), (u 44), (u 50), (u 52), (u 54), (u 56), (u 46), (u 47), (u 48), (u 49), (u 1), (u 3), (u 5), (u 7), (u 9), (u 11), (u 13), (u 16), (u 18), (u 20), (u 22), (u 24), (u 26), (u 28), (u 40), (u 42), (u 45), (u 51), (u 53), (u 55), (u 57), (u 31), (u 32), (u 33), (u 34), (u 35), (u 36), (u 37), q9, (v 0), (v 1), (v 2), (v 3), (v 4), (v 5), (v 6), (v 7), (v 8), (v 9), (v 10), (v 11), (v 12), (v 13), (v 14), (v 15)]
def fPos : List Nat := [0, 1, 16, 15, 3, 5, 7, 9, 11, 13, 30, 18, 20, 22, 24, 26, 28, 31, 39, 44, 40, 42, 45, 51, 53, 55, 57, 47, 48, 49, 50, 2, 4, 6, 8, 10, 12, 14, 17, 19, 21, 23, 25, 27, 29, 41, 43, 46, 52, 54, 56, 58, 32, 33, 34, 35, 36, 37, 38, 59, 60, 61, 62, 63, 64, 65, 66, 67, 68, 69, 70, 71, 72, 73, 74, 75]
section FIN
variable {D : va_G} {cI cS cT : ClassId} {q8 q9 b fa : Nat} {u v sN adK adV : Nat → Nat} {fb : Bool} {H : Heap}
theorem fin_0 (hP : va_P D vwCl (wx_X8 (fE D cI cS cT adK) q8 u ++ wx_X9 (fE D cI cS cT adK) q9 v) H) : va_at D vwCl (fA q8 q9 u v |>.getD 0 0, pm_cell (D, so_K (fA q8 q9 u v) b sN adK adV fa, cI, cS, cT, fb) hI 0) H := hP 0 _ rfl
theorem fin_1 (hP : va_P D vwCl (wx_X8 (fE D cI cS cT adK) q8 u ++ wx_X9 (fE D cI cS cT adK) q9 v) H) : va_at D vwCl (fA q8 q9 u v |>.getD 1 0, pm_cell (D, so_K (fA q8 q9 u v) b sN adK adV fa, cI, cS, cT, fb) hI 1) H := hP 1 _ rfl
theorem fin_2 (hP : va_P D vwCl (wx_X8 (fE D cI cS cT adK) q8 u ++ wx_X9 (fE D cI cS cT adK) q9 v) H) : va_at D vwCl (fA q8 q9 u v |>.getD 2 0, pm_cell (D, so_K (fA q8 q9 u v) b sN adK adV fa, cI, cS, cT, fb) hI 2) H := hP 16 _ rfl
theorem fin_3 (hP : va_P D vwCl (wx_X8 (fE D cI cS cT adK) q8 u ++ wx_X9 (fE D cI cS cT adK) q9 v) H) : va_at D vwCl (fA q8 q9 u v |>.getD 3 0, pm_cell (D, so_K (fA q8 q9 u v) b sN adK adV fa, cI, cS, cT, fb) hI 3) H := hP 15 _ rfl
theorem fin_4 (hP : va_P D vwCl (wx_X8 (fE D cI cS cT adK) q8 u ++ wx_X9 (fE D cI cS cT adK) q9 v) H) : va_at D vwCl (fA q8 q9 u v |>.getD 4 0, pm_cell (D, so_K (fA q8 q9 u v) b sN adK adV fa, cI, cS, cT, fb) hI 4) H := hP 3 _ rfl
theorem fin_5 (hP : va_P D vwCl (wx_X8 (fE D cI cS cT adK) q8 u ++ wx_X9 (fE D cI cS cT adK) q9 v) H) : va_at D vwCl (fA q8 q9 u v |>.getD 5 0, pm_cell (D, so_K (fA q8 q9 u v) b sN adK adV fa, cI, cS, cT, fb) hI 5) H := hP 5 _ rfl
theorem fin_6 (hP : va_P D vwCl (wx_X8 (fE D cI cS cT adK) q8 u ++ wx_X9 (fE D cI cS cT adK) q9 v) H) : va_at D vwCl (fA q8 q9 u v |>.getD 6 0, pm_cell (D, so_K (fA q8 q9 u v) b sN adK adV fa, cI, cS, cT, fb) hI 6) H := hP 7 _ rfl
theorem fin_7 (hP : va_P D vwCl (wx_X8 (fE D cI cS cT adK) q8 u ++ wx_X9 (fE D cI cS cT adK) q9 v) H) : va_at D vwCl (fA q8 q9 u v |>.getD 7 0, pm_cell (D, so_K (fA q8 q9 u v) b sN adK adV fa, cI, cS, cT, fb) hI 7) H := hP 9 _ rfl
theorem fin_8 (hP : va_P D vwCl (wx_X8 (fE D cI cS cT adK) q8 u ++ wx_X9 (fE D cI cS cT adK) q9 v) H) : va_at D vwCl (fA q8 q9 u v |>.getD 8 0, pm_cell (D, so_K (fA q8 q9 u v) b sN adK adV fa, cI, cS, cT, fb) hI 8) H := hP 11 _ rfl
theorem fin_9 (hP : va_P D vwCl (wx_X8 (fE D cI cS cT adK) q8 u ++ wx_X9 (fE D cI cS cT adK) q9 v) H) : va_at D vwCl (fA q8 q9 u v |>.getD 9 0, pm_cell (D, so_K (fA q8 q9 u v) b sN adK adV fa, cI, cS, cT, fb) hI 9) H := hP 13 _ rfl
theorem fin_10 (hP : va_P D vwCl (wx_X8 (fE D cI cS cT adK) q8 u ++ wx_X9 (fE D cI cS cT adK) q9 v) H) : va_at D vwCl (fA q8 q9 u v |>.getD 10 0, pm_cell (D, so_K (fA q8 q9 u v) b sN adK adV fa, cI, cS, cT, fb) hI 10) H := hP 30 _ rfl
theorem fin_11 (hP : va_P D vwCl (wx_X8 (fE D cI cS cT adK) q8 u ++ wx_X9 (fE D cI cS cT adK) q9 v) H) : va_at D vwCl (fA q8 q9 u v |>.getD 11 0, pm_cell (D, so_K (fA q8 q9 u v) b sN adK adV fa, cI, cS, cT, fb) hI 11) H := hP 18 _ rfl
theorem fin_12 (hP : va_P D vwCl (wx_X8 (fE D cI cS cT adK) q8 u ++ wx_X9 (fE D cI cS cT adK) q9 v) H) : va_at D vwCl (fA q8 q9 u v |>.getD 12 0, pm_cell (D, so_K (fA q8 q9 u v) b sN adK adV fa, cI, cS, cT, fb) hI 12) H := hP 20 _ rfl
theorem fin_13 (hP : va_P D vwCl (wx_X8 (fE D cI cS cT adK) q8 u ++ wx_X9 (fE D cI cS cT adK) q9 v) H) : va_at D vwCl (fA q8 q9 u v |>.getD 13 0, pm_cell (D, so_K (fA q8 q9 u v) b sN adK adV fa, cI, cS, cT, fb) hI 13) H := hP 22 _ rfl
theorem fin_14 (hP : va_P D vwCl (wx_X8 (fE D cI cS cT adK) q8 u ++ wx_X9 (fE D cI cS cT adK) q9 v) H) : va_at D vwCl (fA q8 q9 u v |>.getD 14 0, pm_cell (D, so_K (fA q8 q9 u v) b sN adK adV fa, cI, cS, cT, fb) hI 14) H := hP 24 _ rfl
theorem fin_15 (hP : va_P D vwCl (wx_X8 (fE D cI cS cT adK) q8 u ++ wx_X9 (fE D cI cS cT adK) q9 v) H) : va_at D vwCl (fA q8 q9 u v |>.getD 15 0, pm_cell (D, so_K (fA q8 q9 u v) b sN adK adV fa, cI, cS, cT, fb) hI 15) H := hP 26 _ rfl
theorem fin_16 (hP : va_P D vwCl (wx_X8 (fE D cI cS cT adK) q8 u ++ wx_X9 (fE D cI cS cT adK) q9 v) H) : va_at D vwCl (fA q8 q9 u v |>.getD 16 0, pm_cell (D, so_K (fA q8 q9 u v) b sN adK adV fa, cI, cS, cT, fb) hI 16) H := hP 28 _ rfl
theorem fin_17 (hP : va_P D vwCl (wx_X8 (fE D cI cS cT adK) q8 u ++ wx_X9 (fE D cI cS cT adK) q9 v) H) : va_at D vwCl (fA q8 q9 u v |>.getD 17 0, pm_cell (D, so_K (fA q8 q9 u v) b sN adK adV fa, cI, cS, cT, fb) hI 17) H := hP 31 _ rfl
theorem fin_18 (hP : va_P D vwCl (wx_X8 (fE D cI cS cT adK) q8 u ++ wx_X9 (fE D cI cS cT adK) q9 v) H) : va_at D vwCl (fA q8 q9 u v |>.getD 18 0, pm_cell (D, so_K (fA q8 q9 u v) b sN adK adV fa, cI, cS, cT, fb) hI 18) H := hP 39 _ rfl
theorem fin_19 (hP : va_P D vwCl (wx_X8 (fE D cI cS cT adK) q8 u ++ wx_X9 (fE D cI cS cT adK) q9 v) H) : va_at D vwCl (fA q8 q9 u v |>.getD 19 0, pm_cell (D, so_K (fA q8 q9 u v) b sN adK adV fa, cI, cS, cT, fb) hI 19) H := hP 44 _ rfl
theorem fin_20 (hP : va_P D vwCl (wx_X8 (fE D cI cS cT adK) q8 u ++ wx_X9 (fE D cI cS cT adK) q9 v) H) : va_at D vwCl (fA q8 q9 u v |>.getD 20 0, pm_cell (D, so_K (fA q8 q9 u v) b sN adK adV fa, cI, cS, cT, fb) hI 20) H := hP 40 _ rfl
theorem fin_21 (hP : va_P D vwCl (wx_X8 (fE D cI cS cT adK) q8 u ++ wx_X9 (fE D cI cS cT adK) q9 v) H) : va_at D vwCl (fA q8 q9 u v |>.getD 21 0, pm_cell (D, so_K (fA q8 q9 u v) b sN adK adV fa, cI, cS, cT, fb) hI 21) H := hP 42 _ rfl
theorem fin_22 (hP : va_P D vwCl (wx_X8 (fE D cI cS cT adK) q8 u ++ wx_X9 (fE D cI cS cT adK) q9 v) H) : va_at D vwCl (fA q8 q9 u v |>.getD 22 0, pm_cell (D, so_K (fA q8 q9 u v) b sN adK adV fa, cI, cS, cT, fb) hI 22) H := hP 45 _ rfl
theorem fin_23 (hP : va_P D vwCl (wx_X8 (fE D cI cS cT adK) q8 u ++ wx_X9 (fE D cI cS cT adK) q9 v) H) : va_at D vwCl (fA q8 q9 u v |>.getD 23 0, pm_cell (D, so_K (fA q8 q9 u v) b sN adK adV fa, cI, cS, cT, fb) hI 23) H := hP 51 _ rfl
theorem fin_24 (hP : va_P D vwCl (wx_X8 (fE D cI cS cT adK) q8 u ++ wx_X9 (fE D cI cS cT adK) q9 v) H) : va_at D vwCl (fA q8 q9 u v |>.getD 24 0, pm_cell (D, so_K (fA q8 q9 u v) b sN adK adV fa, cI, cS, cT, fb) hI 24) H := hP 53 _ rfl
theorem fin_25 (hP : va_P D vwCl (wx_X8 (fE D cI cS cT adK) q8 u ++ wx_X9 (fE D cI cS cT adK) q9 v) H) : va_at D vwCl (fA q8 q9 u v |>.getD 25 0, pm_cell (D, so_K (fA q8 q9 u v) b sN adK adV fa, cI, cS, cT, fb) hI 25) H := hP 55 _ rfl
theorem fin_26 (hP : va_P D vwCl (wx_X8 (fE D cI cS cT adK) q8 u ++ wx_X9 (fE D cI cS cT adK) q9 v) H) : va_at D vwCl (fA q8 q9 u v |>.getD 26 0, pm_cell (D, so_K (fA q8 q9 u v) b sN adK adV fa, cI, cS, cT, fb) hI 26) H := hP 57 _ rfl
theorem fin_27 (hP : va_P D vwCl (wx_X8 (fE D cI cS cT adK) q8 u ++ wx_X9 (fE D cI cS cT adK) q9 v) H) : va_at D vwCl (fA q8 q9 u v |>.getD 27 0, pm_cell (D, so_K (fA q8 q9 u v) b sN adK adV fa, cI, cS, cT, fb) hI 27) H := by
  have g : H[(fA q8 q9 u v).getD 27 0]? = some (arrV cS 4 (fun j => va_rf ((va_up (va_up (va_up (va_up (fun _ => none) 0 (some (u 50))) 1 (some (u 52))) 2 (some (u 54))) 3 (some (u 56))) j))) := hP 47 _ rfl
  show H[(fA q8 q9 u v).getD 27 0]? = some (arrV cS 4 (fun j => va_rf (some (so_K (fA q8 q9 u v) b sN adK adV fa (pm_rf 27 j)))))
  exact g.trans (congrArg some (arrV_ext (fun j hj => by rcases (show j = 0 ∨ j = 1 ∨ j = 2 ∨ j = 3 by omega) with rfl | rfl | rfl | rfl <;> rfl)))
theorem fin_28 (hP : va_P D vwCl (wx_X8 (fE D cI cS cT adK) q8 u ++ wx_X9 (fE D cI cS cT adK) q9 v) H) : va_at D vwCl (fA q8 q9 u v |>.getD 28 0, pm_cell (D, so_K (fA q8 q9 u v) b sN adK adV fa, cI, cS, cT, fb) hI 28) H := hP 48 _ rfl
theorem fin_29 (hP : va_P D vwCl (wx_X8 (fE D cI cS cT adK) q8 u ++ wx_X9 (fE D cI cS cT adK) q9 v) H) : va_at D vwCl (fA q8 q9 u v |>.getD 29 0, pm_cell (D, so_K (fA q8 q9 u v) b sN adK adV fa, cI, cS, cT, fb) hI 29) H := hP 49 _ rfl
theorem fin_30 (hP : va_P D vwCl (wx_X8 (fE D cI cS cT adK) q8 u ++ wx_X9 (fE D cI cS cT adK) q9 v) H) : va_at D vwCl (fA q8 q9 u v |>.getD 30 0, pm_cell (D, so_K (fA q8 q9 u v) b sN adK adV fa, cI, cS, cT, fb) hI 30) H := hP 50 _ rfl
theorem fin_31 (hP : va_P D vwCl (wx_X8 (fE D cI cS cT adK) q8 u ++ wx_X9 (fE D cI cS cT adK) q9 v) H) : va_at D vwCl (fA q8 q9 u v |>.getD 31 0, pm_cell (D, so_K (fA q8 q9 u v) b sN adK adV fa, cI, cS, cT, fb) hI 31) H := hP 2 _ rfl
theorem fin_32 (hP : va_P D vwCl (wx_X8 (fE D cI cS cT adK) q8 u ++ wx_X9 (fE D cI cS cT adK) q9 v) H) : va_at D vwCl (fA q8 q9 u v |>.getD 32 0, pm_cell (D, so_K (fA q8 q9 u v) b sN adK adV fa, cI, cS, cT, fb) hI 32) H := hP 4 _ rfl
theorem fin_33 (hP : va_P D vwCl (wx_X8 (fE D cI cS cT adK) q8 u ++ wx_X9 (fE D cI cS cT adK) q9 v) H) : va_at D vwCl (fA q8 q9 u v |>.getD 33 0, pm_cell (D, so_K (fA q8 q9 u v) b sN adK adV fa, cI, cS, cT, fb) hI 33) H := hP 6 _ rfl
theorem fin_34 (hP : va_P D vwCl (wx_X8 (fE D cI cS cT adK) q8 u ++ wx_X9 (fE D cI cS cT adK) q9 v) H) : va_at D vwCl (fA q8 q9 u v |>.getD 34 0, pm_cell (D, so_K (fA q8 q9 u v) b sN adK adV fa, cI, cS, cT, fb) hI 34) H := hP 8 _ rfl
theorem fin_35 (hP : va_P D vwCl (wx_X8 (fE D cI cS cT adK) q8 u ++ wx_X9 (fE D cI cS cT adK) q9 v) H) : va_at D vwCl (fA q8 q9 u v |>.getD 35 0, pm_cell (D, so_K (fA q8 q9 u v) b sN adK adV fa, cI, cS, cT, fb) hI 35) H := hP 10 _ rfl
theorem fin_36 (hP : va_P D vwCl (wx_X8 (fE D cI cS cT adK) q8 u ++ wx_X9 (fE D cI cS cT adK) q9 v) H) : va_at D vwCl (fA q8 q9 u v |>.getD 36 0, pm_cell (D, so_K (fA q8 q9 u v) b sN adK adV fa, cI, cS, cT, fb) hI 36) H := hP 12 _ rfl
theorem fin_37 (hP : va_P D vwCl (wx_X8 (fE D cI cS cT adK) q8 u ++ wx_X9 (fE D cI cS cT adK) q9 v) H) : va_at D vwCl (fA q8 q9 u v |>.getD 37 0, pm_cell (D, so_K (fA q8 q9 u v) b sN adK adV fa, cI, cS, cT, fb) hI 37) H := hP 14 _ rfl
theorem fin_38 (hP : va_P D vwCl (wx_X8 (fE D cI cS cT adK) q8 u ++ wx_X9 (fE D cI cS cT adK) q9 v) H) : va_at D vwCl (fA q8 q9 u v |>.getD 38 0, pm_cell (D, so_K (fA q8 q9 u v) b sN adK adV fa, cI, cS, cT, fb) hI 38) H := hP 17 _ rfl
theorem fin_39 (hP : va_P D vwCl (wx_X8 (fE D cI cS cT adK) q8 u ++ wx_X9 (fE D cI cS cT adK) q9 v) H) : va_at D vwCl (fA q8 q9 u v |>.getD 39 0, pm_cell (D, so_K (fA q8 q9 u v) b sN adK adV fa, cI, cS, cT, fb) hI 39) H := hP 19 _ rfl
theorem fin_40 (hP : va_P D vwCl (wx_X8 (fE D cI cS cT adK) q8 u ++ wx_X9 (fE D cI cS cT adK) q9 v) H) : va_at D vwCl (fA q8 q9 u v |>.getD 40 0, pm_cell (D, so_K (fA q8 q9 u v) b sN adK adV fa, cI, cS, cT, fb) hI 40) H := hP 21 _ rfl
theorem fin_41 (hP : va_P D vwCl (wx_X8 (fE D cI cS cT adK) q8 u ++ wx_X9 (fE D cI cS cT adK) q9 v) H) : va_at D vwCl (fA q8 q9 u v |>.getD 41 0, pm_cell (D, so_K (fA q8 q9 u v) b sN adK adV fa, cI, cS, cT, fb) hI 41) H := hP 23 _ rfl
theorem fin_42 (hP : va_P D vwCl (wx_X8 (fE D cI cS cT adK) q8 u ++ wx_X9 (fE D cI cS cT adK) q9 v) H) : va_at D vwCl (fA q8 q9 u v |>.getD 42 0, pm_cell (D, so_K (fA q8 q9 u v) b sN adK adV fa, cI, cS, cT, fb) hI 42) H := hP 25 _ rfl
theorem fin_43 (hP : va_P D vwCl (wx_X8 (fE D cI cS cT adK) q8 u ++ wx_X9 (fE D cI cS cT adK) q9 v) H) : va_at D vwCl (fA q8 q9 u v |>.getD 43 0, pm_cell (D, so_K (fA q8 q9 u v) b sN adK adV fa, cI, cS, cT, fb) hI 43) H := hP 27 _ rfl
theorem fin_44 (hP : va_P D vwCl (wx_X8 (fE D cI cS cT adK) q8 u ++ wx_X9 (fE D cI cS cT adK) q9 v) H) : va_at D vwCl (fA q8 q9 u v |>.getD 44 0, pm_cell (D, so_K (fA q8 q9 u v) b sN adK adV fa, cI, cS, cT, fb) hI 44) H := hP 29 _ rfl
theorem fin_45 (hP : va_P D vwCl (wx_X8 (fE D cI cS cT adK) q8 u ++ wx_X9 (fE D cI cS cT adK) q9 v) H) : va_at D vwCl (fA q8 q9 u v |>.getD 45 0, pm_cell (D, so_K (fA q8 q9 u v) b sN adK adV fa, cI, cS, cT, fb) hI 45) H := hP 41 _ rfl
theorem fin_46 (hP : va_P D vwCl (wx_X8 (fE D cI cS cT adK) q8 u ++ wx_X9 (fE D cI cS cT adK) q9 v) H) : va_at D vwCl (fA q8 q9 u v |>.getD 46 0, pm_cell (D, so_K (fA q8 q9 u v) b sN adK adV fa, cI, cS, cT, fb) hI 46) H := hP 43 _ rfl
theorem fin_47 (hP : va_P D vwCl (wx_X8 (fE D cI cS cT adK) q8 u ++ wx_X9 (fE D cI cS cT adK) q9 v) H) : va_at D vwCl (fA q8 q9 u v |>.getD 47 0, pm_cell (D, so_K (fA q8 q9 u v) b sN adK adV fa, cI, cS, cT, fb) hI 47) H := hP 46 _ rfl
theorem fin_48 (hP : va_P D vwCl (wx_X8 (fE D cI cS cT adK) q8 u ++ wx_X9 (fE D cI cS cT adK) q9 v) H) : va_at D vwCl (fA q8 q9 u v |>.getD 48 0, pm_cell (D, so_K (fA q8 q9 u v) b sN adK adV fa, cI, cS, cT, fb) hI 48) H := hP 52 _ rfl
theorem fin_49 (hP : va_P D vwCl (wx_X8 (fE D cI cS cT adK) q8 u ++ wx_X9 (fE D cI cS cT adK) q9 v) H) : va_at D vwCl (fA q8 q9 u v |>.getD 49 0, pm_cell (D, so_K (fA q8 q9 u v) b sN adK adV fa, cI, cS, cT, fb) hI 49) H := hP 54 _ rfl
theorem fin_50 (hP : va_P D vwCl (wx_X8 (fE D cI cS cT adK) q8 u ++ wx_X9 (fE D cI cS cT adK) q9 v) H) : va_at D vwCl (fA q8 q9 u v |>.getD 50 0, pm_cell (D, so_K (fA q8 q9 u v) b sN adK adV fa, cI, cS, cT, fb) hI 50) H := hP 56 _ rfl
theorem fin_51 (hP : va_P D vwCl (wx_X8 (fE D cI cS cT adK) q8 u ++ wx_X9 (fE D cI cS cT adK) q9 v) H) : va_at D vwCl (fA q8 q9 u v |>.getD 51 0, pm_cell (D, so_K (fA q8 q9 u v) b sN adK adV fa, cI, cS, cT, fb) hI 51) H := hP 58 _ rfl
theorem fin_52 (hP : va_P D vwCl (wx_X8 (fE D cI cS cT adK) q8 u ++ wx_X9 (fE D cI cS cT adK) q9 v) H) : va_at D vwCl (fA q8 q9 u v |>.getD 52 0, pm_cell (D, so_K (fA q8 q9 u v) b sN adK adV fa, cI, cS, cT, fb) hI 52) H := hP 32 _ rfl
theorem fin_53 (hP : va_P D vwCl (wx_X8 (fE D cI cS cT adK) q8 u ++ wx_X9 (fE D cI cS cT adK) q9 v) H) : va_at D vwCl (fA q8 q9 u v |>.getD 53 0, pm_cell (D, so_K (fA q8 q9 u v) b sN adK adV fa, cI, cS, cT, fb) hI 53) H := hP 33 _ rfl
theorem fin_54 (hP : va_P D vwCl (wx_X8 (fE D cI cS cT adK) q8 u ++ wx_X9 (fE D cI cS cT adK) q9 v) H) : va_at D vwCl (fA q8 q9 u v |>.getD 54 0, pm_cell (D, so_K (fA q8 q9 u v) b sN adK adV fa, cI, cS, cT, fb) hI 54) H := hP 34 _ rfl
theorem fin_55 (hP : va_P D vwCl (wx_X8 (fE D cI cS cT adK) q8 u ++ wx_X9 (fE D cI cS cT adK) q9 v) H) : va_at D vwCl (fA q8 q9 u v |>.getD 55 0, pm_cell (D, so_K (fA q8 q9 u v) b sN adK adV fa, cI, cS, cT, fb) hI 55) H := hP 35 _ rfl
theorem fin_56 (hP : va_P D vwCl (wx_X8 (fE D cI cS cT adK) q8 u ++ wx_X9 (fE D cI cS cT adK) q9 v) H) : va_at D vwCl (fA q8 q9 u v |>.getD 56 0, pm_cell (D, so_K (fA q8 q9 u v) b sN adK adV fa, cI, cS, cT, fb) hI 56) H := hP 36 _ rfl
theorem fin_57 (hP : va_P D vwCl (wx_X8 (fE D cI cS cT adK) q8 u ++ wx_X9 (fE D cI cS cT adK) q9 v) H) : va_at D vwCl (fA q8 q9 u v |>.getD 57 0, pm_cell (D, so_K (fA q8 q9 u v) b sN adK adV fa, cI, cS, cT, fb) hI 57) H := hP 37 _ rfl
theorem fin_58 (hP : va_P D vwCl (wx_X8 (fE D cI cS cT adK) q8 u ++ wx_X9 (fE D cI cS cT adK) q9 v) H) : va_at D vwCl (fA q8 q9 u v |>.getD 58 0, pm_cell (D, so_K (fA q8 q9 u v) b sN adK adV fa, cI, cS, cT, fb) hI 58) H := hP 38 _ rfl
theorem fin_59 (hP : va_P D vwCl (wx_X8 (fE D cI cS cT adK) q8 u ++ wx_X9 (fE D cI cS cT adK) q9 v) H) : va_at D vwCl (fA q8 q9 u v |>.getD 59 0, pm_cell (D, so_K (fA q8 q9 u v) b sN adK adV fa, cI, cS, cT, fb) hI 59) H := hP 59 _ rfl
theorem fin_60 (hP : va_P D vwCl (wx_X8 (fE D cI cS cT adK) q8 u ++ wx_X9 (fE D cI cS cT adK) q9 v) H) : va_at D vwCl (fA q8 q9 u v |>.getD 60 0, pm_cell (D, so_K (fA q8 q9 u v) b sN adK adV fa, cI, cS, cT, fb) hI 60) H := hP 60 _ rfl
theorem fin_61 (hP : va_P D vwCl (wx_X8 (fE D cI cS cT adK) q8 u ++ wx_X9 (fE D cI cS cT adK) q9 v) H) : va_at D vwCl (fA q8 q9 u v |>.getD 61 0, pm_cell (D, so_K (fA q8 q9 u v) b sN adK adV fa, cI, cS, cT, fb) hI 61) H := hP 61 _ rfl
theorem fin_62 (hP : va_P D vwCl (wx_X8 (fE D cI cS cT adK) q8 u ++ wx_X9 (fE D cI cS cT adK) q9 v) H) : va_at D vwCl (fA q8 q9 u v |>.getD 62 0, pm_cell (D, so_K (fA q8 q9 u v) b sN adK adV fa, cI, cS, cT, fb) hI 62) H := hP 62 _ rfl
theorem fin_63 (hP : va_P D vwCl (wx_X8 (fE D cI cS cT adK) q8 u ++ wx_X9 (fE D cI cS cT adK) q9 v) H) : va_at D vwCl (fA q8 q9 u v |>.getD 63 0, pm_cell (D, so_K (fA q8 q9 u v) b sN adK adV fa, cI, cS, cT, fb) hI 63) H := hP 63 _ rfl
theorem fin_64 (hP : va_P D vwCl (wx_X8 (fE D cI cS cT adK) q8 u ++ wx_X9 (fE D cI cS cT adK) q9 v) H) : va_at D vwCl (fA q8 q9 u v |>.getD 64 0, pm_cell (D, so_K (fA q8 q9 u v) b sN adK adV fa, cI, cS, cT, fb) hI 64) H := hP 64 _ rfl
theorem fin_65 (hP : va_P D vwCl (wx_X8 (fE D cI cS cT adK) q8 u ++ wx_X9 (fE D cI cS cT adK) q9 v) H) : va_at D vwCl (fA q8 q9 u v |>.getD 65 0, pm_cell (D, so_K (fA q8 q9 u v) b sN adK adV fa, cI, cS, cT, fb) hI 65) H := hP 65 _ rfl
theorem fin_66 (hP : va_P D vwCl (wx_X8 (fE D cI cS cT adK) q8 u ++ wx_X9 (fE D cI cS cT adK) q9 v) H) : va_at D vwCl (fA q8 q9 u v |>.getD 66 0, pm_cell (D, so_K (fA q8 q9 u v) b sN adK adV fa, cI, cS, cT, fb) hI 66) H := by
  have g : H[(fA q8 q9 u v).getD 66 0]? = some (arrV cT 2 (fun j => va_rf ((va_up (va_up (fun _ => none) 0 (some (adK 0))) 1 (some (adK 1))) j))) := hP 66 _ rfl
  show H[(fA q8 q9 u v).getD 66 0]? = some (arrV cT 2 (fun j => va_rf (some (so_K (fA q8 q9 u v) b sN adK adV fa (pm_rf 66 j)))))
  exact g.trans (congrArg some (arrV_ext (fun j hj => by rcases (show j = 0 ∨ j = 1 by omega) with rfl | rfl <;> rfl)))
theorem fin_67 (hP : va_P D vwCl (wx_X8 (fE D cI cS cT adK) q8 u ++ wx_X9 (fE D cI cS cT adK) q9 v) H) : va_at D vwCl (fA q8 q9 u v |>.getD 67 0, pm_cell (D, so_K (fA q8 q9 u v) b sN adK adV fa, cI, cS, cT, fb) hI 67) H := hP 67 _ rfl
theorem fin_68 (hP : va_P D vwCl (wx_X8 (fE D cI cS cT adK) q8 u ++ wx_X9 (fE D cI cS cT adK) q9 v) H) : va_at D vwCl (fA q8 q9 u v |>.getD 68 0, pm_cell (D, so_K (fA q8 q9 u v) b sN adK adV fa, cI, cS, cT, fb) hI 68) H := hP 68 _ rfl
theorem fin_69 (hP : va_P D vwCl (wx_X8 (fE D cI cS cT adK) q8 u ++ wx_X9 (fE D cI cS cT adK) q9 v) H) : va_at D vwCl (fA q8 q9 u v |>.getD 69 0, pm_cell (D, so_K (fA q8 q9 u v) b sN adK adV fa, cI, cS, cT, fb) hI 69) H := hP 69 _ rfl
theorem fin_70 (hP : va_P D vwCl (wx_X8 (fE D cI cS cT adK) q8 u ++ wx_X9 (fE D cI cS cT adK) q9 v) H) : va_at D vwCl (fA q8 q9 u v |>.getD 70 0, pm_cell (D, so_K (fA q8 q9 u v) b sN adK adV fa, cI, cS, cT, fb) hI 70) H := hP 70 _ rfl
theorem fin_71 (hP : va_P D vwCl (wx_X8 (fE D cI cS cT adK) q8 u ++ wx_X9 (fE D cI cS cT adK) q9 v) H) : va_at D vwCl (fA q8 q9 u v |>.getD 71 0, pm_cell (D, so_K (fA q8 q9 u v) b sN adK adV fa, cI, cS, cT, fb) hI 71) H := hP 71 _ rfl
theorem fin_72 (hP : va_P D vwCl (wx_X8 (fE D cI cS cT adK) q8 u ++ wx_X9 (fE D cI cS cT adK) q9 v) H) : va_at D vwCl (fA q8 q9 u v |>.getD 72 0, pm_cell (D, so_K (fA q8 q9 u v) b sN adK adV fa, cI, cS, cT, fb) hI 72) H := hP 72 _ rfl
theorem fin_73 (hP : va_P D vwCl (wx_X8 (fE D cI cS cT adK) q8 u ++ wx_X9 (fE D cI cS cT adK) q9 v) H) : va_at D vwCl (fA q8 q9 u v |>.getD 73 0, pm_cell (D, so_K (fA q8 q9 u v) b sN adK adV fa, cI, cS, cT, fb) hI 73) H := hP 73 _ rfl
theorem fin_74 (hP : va_P D vwCl (wx_X8 (fE D cI cS cT adK) q8 u ++ wx_X9 (fE D cI cS cT adK) q9 v) H) : va_at D vwCl (fA q8 q9 u v |>.getD 74 0, pm_cell (D, so_K (fA q8 q9 u v) b sN adK adV fa, cI, cS, cT, fb) hI 74) H := hP 74 _ rfl
theorem fin_75 (hP : va_P D vwCl (wx_X8 (fE D cI cS cT adK) q8 u ++ wx_X9 (fE D cI cS cT adK) q9 v) H) : va_at D vwCl (fA q8 q9 u v |>.getD 75 0, pm_cell (D, so_K (fA q8 q9 u v) b sN adK adV fa, cI, cS, cT, fb) hI 75) H := hP 75 _ rfl
theorem fin_all (hP : va_P D vwCl (wx_X8 (fE D cI cS cT adK) q8 u ++ wx_X9 (fE D cI cS cT adK) q9 v) H) : ∀ i, i < 76 → va_at D vwCl (fA q8 q9 u v |>.getD i 0, pm_cell (D, so_K (fA q8 q9 u v) b sN adK adV fa, cI, cS, cT, fb) hI i) H
  | 0, _ => fin_0 hP
  | 1, _ => fin_1 hP
  | 2, _ => fin_2 hP
  | 3, _ => fin_3 hP
  | 4, _ => fin_4 hP
  | 5, _ => fin_5 hP
  | 6, _ => fin_6 hP
  | 7, _ => fin_7 hP
  | 8, _ => fin_8 hP
  | 9, _ => fin_9 hP
  | 10, _ => fin_10 hP
  | 11, _ => fin_11 hP
  | 12, _ => fin_12 hP
  | 13, _ => fin_13 hP
  | 14, _ => fin_14 hP
  | 15, _ => fin_15 hP
  | 16, _ => fin_16 hP
  | 17, _ => fin_17 hP
  | 18, _ => fin_18 hP
  | 19, _ => fin_19 hP
  | 20, _ => fin_20 hP
  | 21, _ => fin_21 hP
  | 22, _ => fin_22 hP
  | 23, _ => fin_23 hP
  | 24, _ => fin_24 hP
  | 25, _ => fin_25 hP
  | 26, _ => fin_26 hP
  | 27, _ => fin_27 hP
  | 28, _ => fin_28 hP
  | 29, _ => fin_29 hP
  | 30, _ => fin_30 hP
  | 31, _ => fin_31 hP
  | 32, _ => fin_32 hP
  | 33, _ => fin_33 hP
  | 34, _ => fin_34 hP
  | 35, _ => fin_35 hP
  | 36, _ => fin_36 hP
  | 37, _ => fin_37 hP
  | 38, _ => fin_38 hP
  | 39, _ => fin_39 hP
  | 40, _ => fin_40 hP
  | 41, _ => fin_41 hP
  | 42, _ => fin_42 hP
  | 43, _ => fin_43 hP
  | 44, _ => fin_44 hP
  | 45, _ => fin_45 hP
  | 46, _ => fin_46 hP
  | 47, _ => fin_47 hP
  | 48, _ => fin_48 hP
  | 49, _ => fin_49 hP
  | 50, _ => fin_50 hP
  | 51, _ => fin_51 hP
  | 52, _ => fin_52 hP
  | 53, _ => fin_53 hP
  | 54, _ => fin_54 hP
  | 55, _ => fin_55 hP
  | 56, _ => fin_56 hP
  | 57, _ => fin_57 hP
  | 58, _ => fin_58 hP
  | 59, _ => fin_59 hP
  | 60, _ => fin_60 hP
  | 61, _ => fin_61 hP
  | 62, _ => fin_62 hP
  | 63, _ => fin_63 hP
  | 64, _ => fin_64 hP
  | 65, _ => fin_65 hP
  | 66, _ => fin_66 hP
  | 67, _ => fin_67 hP
  | 68, _ => fin_68 hP
  | 69, _ => fin_69 hP
  | 70, _ => fin_70 hP
  | 71, _ => fin_71 hP
  | 72, _ => fin_72 hP
  | 73, _ => fin_73 hP
  | 74, _ => fin_74 hP
  | 75, _ => fin_75 hP
  | n + 76, h => absurd h (by omega)
theorem fin_ad : ∀ i, i < 76 → ∃ e, (wx_X8 (fE D cI cS cT adK) q8 u ++ wx_X9 (fE D cI cS cT adK) q9 v)[fPos.getD i 0]? = some ((fA q8 q9 u v).getD i 0, e)
  | 0, _ => ⟨_, rfl⟩
  | 1, _ => ⟨_, rfl⟩
  | 2, _ => ⟨_, rfl⟩
  | 3, _ => ⟨_, rfl⟩
  | 4, _ => ⟨_, rfl⟩
  | 5, _ => ⟨_, rfl⟩
  | 6, _ => ⟨_, rfl⟩
  | 7, _ => ⟨_, rfl⟩
  | 8, _ => ⟨_, rfl⟩
  | 9, _ => ⟨_, rfl⟩
  | 10, _ => ⟨_, rfl⟩
  | 11, _ => ⟨_, rfl⟩
  | 12, _ => ⟨_, rfl⟩
  | 13, _ => ⟨_, rfl⟩
  | 14, _ => ⟨_, rfl⟩
  | 15, _ => ⟨_, rfl⟩
  | 16, _ => ⟨_, rfl⟩
  | 17, _ => ⟨_, rfl⟩
  | 18, _ => ⟨_, rfl⟩
  | 19, _ => ⟨_, rfl⟩
  | 20, _ => ⟨_, rfl⟩
  | 21, _ => ⟨_, rfl⟩
  | 22, _ => ⟨_, rfl⟩
  | 23, _ => ⟨_, rfl⟩
  | 24, _ => ⟨_, rfl⟩
  | 25, _ => ⟨_, rfl⟩
  | 26, _ => ⟨_, rfl⟩
  | 27, _ => ⟨_, rfl⟩
  | 28, _ => ⟨_, rfl⟩
  | 29, _ => ⟨_, rfl⟩
  | 30, _ => ⟨_, rfl⟩
  | 31, _ => ⟨_, rfl⟩
  | 32, _ => ⟨_, rfl⟩
  | 33, _ => ⟨_, rfl⟩
  | 34, _ => ⟨_, rfl⟩
  | 35, _ => ⟨_, rfl⟩
  | 36, _ => ⟨_, rfl⟩
  | 37, _ => ⟨_, rfl⟩
  | 38, _ => ⟨_, rfl⟩
  | 39, _ => ⟨_, rfl⟩
  | 40, _ => ⟨_, rfl⟩
  | 41, _ => ⟨_, rfl⟩
  | 42, _ => ⟨_, rfl⟩
  | 43, _ => ⟨_, rfl⟩
  | 44, _ => ⟨_, rfl⟩
  | 45, _ => ⟨_, rfl⟩
  | 46, _ => ⟨_, rfl⟩
  | 47, _ => ⟨_, rfl⟩
  | 48, _ => ⟨_, rfl⟩
  | 49, _ => ⟨_, rfl⟩
  | 50, _ => ⟨_, rfl⟩
  | 51, _ => ⟨_, rfl⟩
  | 52, _ => ⟨_, rfl⟩
  | 53, _ => ⟨_, rfl⟩
  | 54, _ => ⟨_, rfl⟩
  | 55, _ => ⟨_, rfl⟩
  | 56, _ => ⟨_, rfl⟩
  | 57, _ => ⟨_, rfl⟩
  | 58, _ => ⟨_, rfl⟩
  | 59, _ => ⟨_, rfl⟩
  | 60, _ => ⟨_, rfl⟩
  | 61, _ => ⟨_, rfl⟩
  | 62, _ => ⟨_, rfl⟩
  | 63, _ => ⟨_, rfl⟩
  | 64, _ => ⟨_, rfl⟩
  | 65, _ => ⟨_, rfl⟩
  | 66, _ => ⟨_, rfl⟩
  | 67, _ => ⟨_, rfl⟩
  | 68, _ => ⟨_, rfl⟩
  | 69, _ => ⟨_, rfl⟩
  | 70, _ => ⟨_, rfl⟩
  | 71, _ => ⟨_, rfl⟩
  | 72, _ => ⟨_, rfl⟩
  | 73, _ => ⟨_, rfl⟩
  | 74, _ => ⟨_, rfl⟩
  | 75, _ => ⟨_, rfl⟩
  | n + 76, h => absurd h (by omega)
theorem fin_pos : ∀ i, i < 76 → ∀ j, j < 76 → fPos.getD i 0 = fPos.getD j 0 → i = j := by decide +kernel
theorem fin_P (hP : va_P D vwCl (wx_X8 (fE D cI cS cT adK) q8 u ++ wx_X9 (fE D cI cS cT adK) q9 v) H) : va_P D vwCl (pm_wd (D, so_K (fA q8 q9 u v) b sN adK adV fa, cI, cS, cT, fb) hI) H := by
  intro i q hq
  have hi : i < 76 := by
    have := (List.getElem?_eq_some_iff.mp hq).1
    simpa [pm_wd] using this
  rw [pm_wd_get _ _ hi] at hq
  obtain rfl := Option.some.inj hq
  have e : so_K (fA q8 q9 u v) b sN adK adV fa i = (fA q8 q9 u v).getD i 0 := by
    unfold so_K
    rw [if_pos hi]
  show va_at D vwCl (so_K (fA q8 q9 u v) b sN adK adV fa i, pm_cell (D, so_K (fA q8 q9 u v) b sN adK adV fa, cI, cS, cT, fb) hI i) H
  rw [e]
  exact fin_all hP i hi
theorem fin_J {A : Nat → Prop} (hD : va_D A (wx_X8 (fE D cI cS cT adK) q8 u ++ wx_X9 (fE D cI cS cT adK) q9 v)) : pm_Inj (D, so_K (fA q8 q9 u v) b sN adK adV fa, cI, cS, cT, fb) ∧ ∀ i, i < 76 → A ((fA q8 q9 u v).getD i 0) := by
  refine ⟨fun i j hi hj e => ?_, fun i hi => ?_⟩
  · have e1 : (fA q8 q9 u v).getD i 0 = (fA q8 q9 u v).getD j 0 := by
      have e : so_K (fA q8 q9 u v) b sN adK adV fa i = so_K (fA q8 q9 u v) b sN adK adV fa j := e
      unfold so_K at e
      rw [if_pos hi, if_pos hj] at e
      exact e
    obtain ⟨x, hx⟩ := fin_ad (D := D) (cI := cI) (cS := cS) (cT := cT) (adK := adK) (q8 := q8) (q9 := q9) (u := u) (v := v) i hi
    obtain ⟨y, hy⟩ := fin_ad (D := D) (cI := cI) (cS := cS) (cT := cT) (adK := adK) (q8 := q8) (q9 := q9) (u := u) (v := v) j hj
    exact fin_pos i hi j hj (hD.1 _ _ _ _ hx hy e1)
  · obtain ⟨x, hx⟩ := fin_ad (D := D) (cI := cI) (cS := cS) (cT := cT) (adK := adK) (q8 := q8) (q9 := q9) (u := u) (v := v) i hi
    exact hD.2 _ _ hx
end FIN
