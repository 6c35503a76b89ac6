/-! WHAT HOLDS BETWEEN THE CLASS'S CELLS AND THE REFERENCE'S -/
/-- numbers: miles, slips, trees, bytes, numbers that wait -/
def RN (h : pm_HP) (T B n u nt nb nw : Nat) : Prop :=
  (h.1 T 3 = nI n ∧ h.1 B 0 = nI n ∧ 1 ≤ n ∧ n ≤ 24) ∧ (h.1 (T + 1) 3 = nI u ∧ h.1 B 1 = nI u ∧ u ≤ 8) ∧ (h.1 (T + 2) 3 = nI nt ∧ h.1 B 2 = nI nt ∧ nt ≤ 16) ∧ (h.1 (T + 3) 3 = nI nb ∧ h.1 B 3 = nI nb ∧ nb ≤ 60) ∧ (h.1 (T + 4) 3 = nI nw ∧ h.1 B 4 = nI nw ∧ nw ≤ 24)
def RZ (h : pm_HP) (S B : Nat) : Prop := h.1 S 9 = h.1 B 5 ∧ h.1 S 7 = h.1 B 6 ∧ h.1 S 8 = h.1 B 7
def inB (lo hi x : Int32) : Prop := lo ≤ x ∧ x ≤ hi
def RM (h : pm_HP) (A B : Nat) : Prop := ∀ i, i < 24 → (∀ c, c < 5 → h.1 A (c * 24 + i) = h.1 B (8 + 5 * i + c)) ∧ inB (-99) 99 (h.1 B (8 + 5 * i + 0)) ∧ inB 0 9 (h.1 B (8 + 5 * i + 1)) ∧ inB 0 99 (h.1 B (8 + 5 * i + 2)) ∧ (h.1 B (8 + 5 * i + 3) = 0 ∨ h.1 B (8 + 5 * i + 3) = 1) ∧ inB (-99) 99 (h.1 B (8 + 5 * i + 4))
def RS (h : pm_HP) (A B : Nat) : Prop := ∀ s, s < 8 → (∀ c, c < 5 → h.1 A (c * 8 + s) = h.1 B (128 + 5 * s + c)) ∧ inB 0 6 (h.1 B (128 + 5 * s + 0)) ∧ inB 0 23 (h.1 B (128 + 5 * s + 1)) ∧ h.1 B (128 + 5 * s + 1) ≤ h.1 B (128 + 5 * s + 2) ∧ inB 0 23 (h.1 B (128 + 5 * s + 2)) ∧ inB (-99) 99 (h.1 B (128 + 5 * s + 3)) ∧ (h.1 B (128 + 5 * s + 4) = 0 ∨ h.1 B (128 + 5 * s + 4) = 1)
def RT (h : pm_HP) (A B : Nat) : Prop := ∀ t, t < 16 → (∀ c, c < 4 → h.1 A (c * 16 + t) = h.1 B (168 + 4 * t + c)) ∧ inB 0 24 (h.1 B (168 + 4 * t + 0))
def RB (h : pm_HP) (A B : Nat) : Prop := ∀ i, i < 60 → h.1 A i = h.1 B (232 + i) ∧ inB 0 255 (h.1 B (232 + i))
def RW (h : pm_HP) (A B : Nat) : Prop := ∀ i, i < 24 → h.1 A i = h.1 B (292 + i)
/-- the reference's number of a part -/
def cod (x : Int32) : Int32 := if x < 20000 then x else if x = 20124 then 20000 else if x = 20038 then 20001 else if x = 20060 then 20002 else if x = 20061 then 20003 else if x = 20062 then 20004 else if x = 20043 then 20005 else if x = 20045 then 20006 else if x = 20042 then 20007 else if x = 20047 then 20008 else if x = 20037 then 20009 else 20010
/-- how many numbers lie on the stack behind a part -/
def dpS (nn : Nat) (x : Int32) (q : Nat) : Option Nat :=
  if (0 ≤ x ∧ x < 10000) ∨ (10000 ≤ x ∧ x < 10000 + nI nn) then some (q + 1)
  else if x = 20033 then (if 1 ≤ q then some q else none)
  else if x = 20124 ∨ x = 20038 ∨ x = 20060 ∨ x = 20061 ∨ x = 20062 ∨ x = 20043 ∨ x = 20045 ∨ x = 20042 ∨ x = 20047 ∨ x = 20037 then (if 2 ≤ q then some (q - 1) else none)
  else none
def dpF (nn : Nat) (p : Nat → Int32) : Nat → Option Nat
  | 0 => some 0
  | i + 1 => (dpF nn p i).bind (dpS nn (p i))
/-- a text: k parts, at the class's row A, the reference's place b -/
def RX (h : pm_HP) (nn w A B b : Nat) : Prop := ∃ k, k ≤ 60 ∧ h.1 w 1 = nI k ∧ h.1 B b = nI k ∧ (∀ i, i < k → cod (h.1 A i) = h.1 B (b + 1 + i)) ∧ (k = 0 ∨ dpF nn (h.1 A) k = some 1)
/-- all that an image keeps -/
def SR (h : pm_HP) (S T A B : Nat) : Prop := (∃ n u nt nb nw, RN h T B n u nt nb nw) ∧ RZ h S B ∧ RM h A B ∧ RS h (A + 1) B ∧ RT h (A + 2) B ∧ RB h (A + 3) B ∧ RW h (A + 4) B ∧ RX h 5 (T + 5) (A + 5) B 316 ∧ RX h 4 (T + 6) (A + 6) B 378
def RE (h : pm_HP) : Prop := ∀ k, 1 ≤ k → k ≤ 6 → h.1 28 k = h.1 62 k
def RV (h : pm_HP) : Prop := ∃ v, v ≤ 30 ∧ h.1 22 3 = nI v ∧ h.1 59 20 = nI v ∧ ∀ i, i < v → h.1 47 i = h.1 71 i
def RH (h : pm_HP) : Prop := ∀ k, k < 4 → ∃ z, z ≤ 24 ∧ h.1 (23 + k) 2 = nI z ∧ h.1 73 k = nI z ∧ h.1 (23 + k) 1 = h.1 72 k ∧ (h.1 72 k = 0 ∨ h.1 72 k = 8 ∨ h.1 72 k = 16 ∨ h.1 72 k = 32) ∧ ∀ i, i < 24 → h.1 (48 + k) i = h.1 74 (24 * k + i)
def R0 (h : pm_HP) : Prop := h.1 52 0 = 0 ∧ h.1 53 0 = 0 ∧ h.1 63 0 = 0 ∧ h.1 64 0 = 0
def RI (h : pm_HP) : Prop := h.1 0 9 = h.1 59 2 ∧ (h.1 59 2 = 0 ∨ SR h 2 10 38 61)
def Inv (h : pm_HP) : Prop := SR h 1 3 31 60 ∧ RI h ∧ RE h ∧ RV h ∧ RH h ∧ R0 h
/-- a pair of calls that answers alike -/
def Pr (fb : Bool) (d y y' : Nat) (as : List Value) (h : pm_HP) : Prop := ∃ (x : Int32) (h1 h2 : pm_HP), rs fb d y (.ref 0 :: as) h = some (some (.int x), h1) ∧ rs fb d y' (.ref 59 :: as) h1 = some (some (.int x), h2) ∧ Inv h2
/-- scratch rows -/
abbrev scr : List Nat := [17, 18, 19, 20, 21, 29, 30, 45, 46, 54, 55, 56, 57, 58, 65, 67, 68, 69, 70, 75]
theorem SR_eq {h h' : pm_HP} {S T A B : Nat} (hI : SR h S T A B) (hS : h'.1 S = h.1 S) (hB : h'.1 B = h.1 B) (hT : ∀ k, k < 7 → h'.1 (T + k) = h.1 (T + k)) (hA : ∀ k, k < 7 → h'.1 (A + k) = h.1 (A + k)) : SR h' S T A B := by
  have t0 := hT 0 (by omega); have t1 := hT 1 (by omega); have t2 := hT 2 (by omega); have t3 := hT 3 (by omega); have t4 := hT 4 (by omega); have t5 := hT 5 (by omega); have t6 := hT 6 (by omega)
  have a0 := hA 0 (by omega); have a1 := hA 1 (by omega); have a2 := hA 2 (by omega); have a3 := hA 3 (by omega); have a4 := hA 4 (by omega); have a5 := hA 5 (by omega); have a6 := hA 6 (by omega)
  rw [Nat.add_zero] at t0 a0
  unfold SR RN RZ RM RS RT RB RW RX
  rw [hS, hB, t0, t1, t2, t3, t4, t5, t6, a0, a1, a2, a3, a4, a5, a6]
  exact hI
/-- scratch rows don't matter -/
theorem Inv_frm {h h' : pm_HP} {cs : List Nat} (hI : Inv h) (hf : frm cs h h') (hc : ∀ q ∈ cs, q ∈ scr ∨ q = 52 ∨ q = 53 ∨ q = 63 ∨ q = 64) (h0 : R0 h') : Inv h' := by
  have e : ∀ a : Nat, a ∉ scr → ¬ (a = 52 ∨ a = 53 ∨ a = 63 ∨ a = 64) → h'.1 a = h.1 a := fun a h1 h2 => hf.1 a (fun q => (hc a q).elim h1 (fun z => h2 z))
  obtain ⟨i1, i2, i3, i4, i5, i6⟩ := hI
  have E : ∀ a : Nat, (a < 17 ∨ a = 22 ∨ a = 23 ∨ a = 24 ∨ a = 25 ∨ a = 26 ∨ a = 28 ∨ (31 ≤ a ∧ a < 45) ∨ (47 ≤ a ∧ a < 52) ∨ a = 59 ∨ a = 60 ∨ a = 61 ∨ a = 62 ∨ a = 71 ∨ a = 72 ∨ a = 73 ∨ a = 74) → h'.1 a = h.1 a := by
    intro a ha
    refine e a ?_ (by omega)
    simp only [scr, List.mem_cons, List.not_mem_nil, or_false]
    omega
  refine ⟨SR_eq i1 (E _ (by omega)) (E _ (by omega)) (fun k hk => E _ (by omega)) (fun k hk => E _ (by omega)), ?_, ?_, ?_, ?_, h0⟩
  · unfold RI
    rw [E 0 (by omega), E 59 (by omega)]
    refine ⟨i2.1, i2.2.imp id (fun q => SR_eq q (E _ (by omega)) (E _ (by omega)) (fun k hk => E _ (by omega)) (fun k hk => E _ (by omega)))⟩
  · unfold RE
    rw [E 28 (by omega), E 62 (by omega)]
    exact i3
  · unfold RV
    rw [E 22 (by omega), E 59 (by omega), E 47 (by omega), E 71 (by omega)]
    exact i4
  · intro k hk
    obtain ⟨z, g1, g2, g3, g4, g5, g6⟩ := i5 k hk
    refine ⟨z, g1, ?_, ?_, ?_, ?_, ?_⟩
    · rw [E (23 + k) (by omega)]; exact g2
    · rw [E 73 (by omega)]; exact g3
    · rw [E (23 + k) (by omega), E 72 (by omega)]; exact g4
    · rw [E 72 (by omega)]; exact g5
    · intro i hi
      rw [E (48 + k) (by omega), E 74 (by omega)]; exact g6 i hi
/-- an ERROR told on both sides -/
theorem Inv_err {h : pm_HP} {e : Nat} (hI : Inv h) (h1 : 1 ≤ e) (h2 : e ≤ 6) : Inv (pm_si (pm_si h 28 e (h.1 28 e + 1)) 62 e ((pm_si h 28 e (h.1 28 e + 1)).1 62 e + 1)) := by
  obtain ⟨i1, i2, i3, i4, i5, i6⟩ := hI
  have E : ∀ a : Nat, ¬ a = 28 → ¬ a = 62 → (pm_si (pm_si h 28 e (h.1 28 e + 1)) 62 e ((pm_si h 28 e (h.1 28 e + 1)).1 62 e + 1)).1 a = h.1 a := by
    intro a n1 n2
    funext b
    rw [si_ne _ _ (fun q => n2 q.1), si_ne _ _ (fun q => n1 q.1)]
  refine ⟨SR_eq i1 (E _ (by omega) (by omega)) (E _ (by omega) (by omega)) (fun k hk => E _ (by omega) (by omega)) (fun k hk => E _ (by omega) (by omega)), ?_, ?_, ?_, ?_, ?_⟩
  · unfold RI
    rw [E 0 (by omega) (by omega), E 59 (by omega) (by omega)]
    exact ⟨i2.1, i2.2.imp id (fun q => SR_eq q (E _ (by omega) (by omega)) (E _ (by omega) (by omega)) (fun k hk => E _ (by omega) (by omega)) (fun k hk => E _ (by omega) (by omega)))⟩
  · intro k hk1 hk2
    simp only [si_at, Nat.reduceEqDiff, false_and, true_and, ↓reduceIte]
    by_cases q : k = e
    · subst q
      simp [i3 k h1 h2]
    · simp [q, i3 k hk1 hk2]
  · unfold RV
    rw [E 22 (by omega) (by omega), E 59 (by omega) (by omega), E 47 (by omega) (by omega), E 71 (by omega) (by omega)]
    exact i4
  · intro k hk
    obtain ⟨z, g1, g2, g3, g4, g5, g6⟩ := i5 k hk
    refine ⟨z, g1, ?_, ?_, ?_, ?_, ?_⟩
    · rw [E (23 + k) (by omega) (by omega)]; exact g2
    · rw [E 73 (by omega) (by omega)]; exact g3
    · rw [E (23 + k) (by omega) (by omega), E 72 (by omega) (by omega)]; exact g4
    · rw [E 72 (by omega) (by omega)]; exact g5
    · intro i hi
      rw [E (48 + k) (by omega) (by omega), E 74 (by omega) (by omega)]; exact g6 i hi
  · unfold R0
    rw [E 52 (by omega) (by omega), E 53 (by omega) (by omega), E 63 (by omega) (by omega), E 64 (by omega) (by omega)]
    exact i6
section TR
variable {h h' : pm_HP} {S T A B n u nt nb nw : Nat}
theorem RN_t (hI : RN h T B n u nt nb nw) (hT : ∀ k, k < 5 → h'.1 (T + k) 3 = h.1 (T + k) 3) (hB : ∀ j, j < 5 → h'.1 B j = h.1 B j) : RN h' T B n u nt nb nw := by
  have t0 := hT 0 (by omega)
  rw [Nat.add_zero] at t0
  unfold RN
  rw [t0, hT 1 (by omega), hT 2 (by omega), hT 3 (by omega), hT 4 (by omega), hB 0 (by omega), hB 1 (by omega), hB 2 (by omega), hB 3 (by omega), hB 4 (by omega)]
  exact hI
theorem RZ_t (hI : RZ h S B) (hS : h'.1 S 9 = h.1 S 9 ∧ h'.1 S 7 = h.1 S 7 ∧ h'.1 S 8 = h.1 S 8) (hB : ∀ j, 5 ≤ j → j < 8 → h'.1 B j = h.1 B j) : RZ h' S B := by
  unfold RZ
  rw [hS.1, hS.2.1, hS.2.2, hB 5 (by omega) (by omega), hB 6 (by omega) (by omega), hB 7 (by omega) (by omega)]
  exact hI
theorem RM_t (hI : RM h A B) (hA : h'.1 A = h.1 A) (hB : ∀ j, 8 ≤ j → j < 128 → h'.1 B j = h.1 B j) : RM h' A B := by
  intro i hi
  rw [hA, hB _ (by omega) (by omega), hB _ (by omega) (by omega), hB _ (by omega) (by omega), hB _ (by omega) (by omega), hB _ (by omega) (by omega)]
  exact ⟨fun c hc => by rw [hB _ (by omega) (by omega)]; exact (hI i hi).1 c hc, (hI i hi).2⟩
theorem RS_t (hI : RS h A B) (hA : h'.1 A = h.1 A) (hB : ∀ j, 128 ≤ j → j < 168 → h'.1 B j = h.1 B j) : RS h' A B := by
  intro i hi
  rw [hA, hB _ (by omega) (by omega), hB _ (by omega) (by omega), hB _ (by omega) (by omega), hB _ (by omega) (by omega), hB _ (by omega) (by omega)]
  exact ⟨fun c hc => by rw [hB _ (by omega) (by omega)]; exact (hI i hi).1 c hc, (hI i hi).2⟩
theorem RT_t (hI : RT h A B) (hA : h'.1 A = h.1 A) (hB : ∀ j, 168 ≤ j → j < 232 → h'.1 B j = h.1 B j) : RT h' A B := by
  intro i hi
  rw [hA, hB _ (by omega) (by omega)]
  exact ⟨fun c hc => by rw [hB _ (by omega) (by omega)]; exact (hI i hi).1 c hc, (hI i hi).2⟩
theorem RB_t (hI : RB h A B) (hA : h'.1 A = h.1 A) (hB : ∀ j, 232 ≤ j → j < 292 → h'.1 B j = h.1 B j) : RB h' A B := by
  intro i hi
  rw [hA, hB _ (by omega) (by omega)]
  exact hI i hi
theorem RW_t (hI : RW h A B) (hA : h'.1 A = h.1 A) (hB : ∀ j, 292 ≤ j → j < 316 → h'.1 B j = h.1 B j) : RW h' A B := by
  intro i hi
  rw [hA, hB _ (by omega) (by omega)]
  exact hI i hi
theorem RX_t {nn w b : Nat} (hI : RX h nn w A B b) (hw : h'.1 w 1 = h.1 w 1) (hA : h'.1 A = h.1 A) (hB : ∀ j, b ≤ j → j < b + 61 → h'.1 B j = h.1 B j) : RX h' nn w A B b := by
  obtain ⟨k, h1, h2, h3, h4, h5⟩ := hI
  refine ⟨k, h1, by rw [hw]; exact h2, by rw [hB _ (by omega) (by omega)]; exact h3, fun i hi => ?_, ?_⟩
  · rw [hA, hB _ (by omega) (by omega)]; exact h4 i hi
  · rw [hA]; exact h5
end TR
abbrev nowC : List Nat := [1, 3, 4, 5, 6, 7, 8, 9, 31, 32, 33, 34, 35, 36, 37, 60] ++ scr
theorem Inv_now {h h' : pm_HP} (hI : Inv h) (hf : ∀ a, a ∉ nowC → ¬ (a = 52 ∨ a = 53 ∨ a = 63 ∨ a = 64) → h'.1 a = h.1 a) (h0 : R0 h') (hs : SR h' 1 3 31 60) : Inv h' := by
  obtain ⟨i1, i2, i3, i4, i5, i6⟩ := hI
  have E : ∀ a : Nat, (a = 0 ∨ a = 2 ∨ (10 ≤ a ∧ a < 17) ∨ a = 22 ∨ a = 23 ∨ a = 24 ∨ a = 25 ∨ a = 26 ∨ a = 28 ∨ (38 ≤ a ∧ a < 45) ∨ (47 ≤ a ∧ a < 52) ∨ a = 59 ∨ a = 61 ∨ a = 62 ∨ a = 71 ∨ a = 72 ∨ a = 73 ∨ a = 74) → h'.1 a = h.1 a := by
    intro a ha
    refine hf a ?_ (by omega)
    simp only [nowC, scr, List.cons_append, List.nil_append, List.mem_cons, List.not_mem_nil, or_false]
    omega
  refine ⟨hs, ?_, ?_, ?_, ?_, h0⟩
  · unfold RI
    rw [E 0 (by omega), E 59 (by omega)]
    refine ⟨i2.1, i2.2.imp id (fun q => SR_eq q (E _ (by omega)) (E _ (by omega)) (fun k hk => E _ (by omega)) (fun k hk => E _ (by omega)))⟩
  · unfold RE
    rw [E 28 (by omega), E 62 (by omega)]
    exact i3
  · unfold RV
    rw [E 22 (by omega), E 59 (by omega), E 47 (by omega), E 71 (by omega)]
    exact i4
  · intro k hk
    obtain ⟨z, g1, g2, g3, g4, g5, g6⟩ := i5 k hk
    refine ⟨z, g1, ?_, ?_, ?_, ?_, ?_⟩
    · rw [E (23 + k) (by omega)]; exact g2
    · rw [E 73 (by omega)]; exact g3
    · rw [E (23 + k) (by omega), E 72 (by omega)]; exact g4
    · rw [E 72 (by omega)]; exact g5
    · intro i hi
      rw [E (48 + k) (by omega), E 74 (by omega)]; exact g6 i hi
theorem F1 : (-1000000000 : Int32) - 1 = -1000000001 := by decide
theorem F2 : (-1000000000 : Int32) - 2 = -1000000002 := by decide
theorem F3 : (-1000000000 : Int32) - 3 = -1000000003 := by decide
theorem F4 : (-1000000000 : Int32) - 4 = -1000000004 := by decide
theorem F5 : (-1000000000 : Int32) - 5 = -1000000005 := by decide
theorem F6 : (-1000000000 : Int32) - 6 = -1000000006 := by decide
theorem Pr_e {fb : Bool} {d y y' e : Nat} {as : List Value} {h : pm_HP} {x : Int32} (hI : Inv h) (h1 : 1 ≤ e) (h2 : e ≤ 6) (ha : rs fb d y (.ref 0 :: as) h = some (some (.int x), pm_si h 28 e (h.1 28 e + 1))) (hc : rs fb d y' (.ref 59 :: as) (pm_si h 28 e (h.1 28 e + 1)) = some (some (.int x), pm_si (pm_si h 28 e (h.1 28 e + 1)) 62 e ((pm_si h 28 e (h.1 28 e + 1)).1 62 e + 1))) : Pr fb d y y' as h :=
  ⟨x, _, _, ha, hc, Inv_err hI h1 h2⟩
theorem nl_0_1 : ((0 : Int32) = 1) = False := by simp
theorem nl_0_2 : ((0 : Int32) = 2) = False := by simp
theorem nl_0_3 : ((0 : Int32) = 3) = False := by simp
theorem nl_0_4 : ((0 : Int32) = 4) = False := by simp
theorem nl_0_5 : ((0 : Int32) = 5) = False := by simp
theorem nl_0_6 : ((0 : Int32) = 6) = False := by simp
theorem nl_0_7 : ((0 : Int32) = 7) = False := by simp
theorem nl_0_8 : ((0 : Int32) = 8) = False := by simp
theorem nl_1_0 : ((1 : Int32) = 0) = False := by simp
theorem nl_1_2 : ((1 : Int32) = 2) = False := by simp
theorem nl_1_3 : ((1 : Int32) = 3) = False := by simp
theorem nl_1_4 : ((1 : Int32) = 4) = False := by simp
theorem nl_1_5 : ((1 : Int32) = 5) = False := by simp
theorem nl_1_6 : ((1 : Int32) = 6) = False := by simp
theorem nl_1_7 : ((1 : Int32) = 7) = False := by simp
theorem nl_1_8 : ((1 : Int32) = 8) = False := by simp
theorem nl_2_0 : ((2 : Int32) = 0) = False := by simp
theorem nl_2_1 : ((2 : Int32) = 1) = False := by simp
theorem nl_2_3 : ((2 : Int32) = 3) = False := by simp
theorem nl_2_4 : ((2 : Int32) = 4) = False := by simp
theorem nl_2_5 : ((2 : Int32) = 5) = False := by simp
theorem nl_2_6 : ((2 : Int32) = 6) = False := by simp
theorem nl_2_7 : ((2 : Int32) = 7) = False := by simp
theorem nl_2_8 : ((2 : Int32) = 8) = False := by simp
theorem nl_3_0 : ((3 : Int32) = 0) = False := by simp
theorem nl_3_1 : ((3 : Int32) = 1) = False := by simp
theorem nl_3_2 : ((3 : Int32) = 2) = False := by simp
theorem nl_3_4 : ((3 : Int32) = 4) = False := by simp
theorem nl_3_5 : ((3 : Int32) = 5) = False := by simp
theorem nl_3_6 : ((3 : Int32) = 6) = False := by simp
theorem nl_3_7 : ((3 : Int32) = 7) = False := by simp
theorem nl_3_8 : ((3 : Int32) = 8) = False := by simp
theorem nl_4_0 : ((4 : Int32) = 0) = False := by simp
theorem nl_4_1 : ((4 : Int32) = 1) = False := by simp
theorem nl_4_2 : ((4 : Int32) = 2) = False := by simp
theorem nl_4_3 : ((4 : Int32) = 3) = False := by simp
theorem nl_4_5 : ((4 : Int32) = 5) = False := by simp
theorem nl_4_6 : ((4 : Int32) = 6) = False := by simp
theorem nl_4_7 : ((4 : Int32) = 7) = False := by simp
theorem nl_4_8 : ((4 : Int32) = 8) = False := by simp
theorem nl_5_0 : ((5 : Int32) = 0) = False := by simp
theorem nl_5_1 : ((5 : Int32) = 1) = False := by simp
theorem nl_5_2 : ((5 : Int32) = 2) = False := by simp
theorem nl_5_3 : ((5 : Int32) = 3) = False := by simp
theorem nl_5_4 : ((5 : Int32) = 4) = False := by simp
theorem nl_5_6 : ((5 : Int32) = 6) = False := by simp
theorem nl_5_7 : ((5 : Int32) = 7) = False := by simp
theorem nl_5_8 : ((5 : Int32) = 8) = False := by simp
theorem nl_6_0 : ((6 : Int32) = 0) = False := by simp
theorem nl_6_1 : ((6 : Int32) = 1) = False := by simp
theorem nl_6_2 : ((6 : Int32) = 2) = False := by simp
theorem nl_6_3 : ((6 : Int32) = 3) = False := by simp
theorem nl_6_4 : ((6 : Int32) = 4) = False := by simp
theorem nl_6_5 : ((6 : Int32) = 5) = False := by simp
theorem nl_6_7 : ((6 : Int32) = 7) = False := by simp
theorem nl_6_8 : ((6 : Int32) = 8) = False := by simp
theorem nl_7_0 : ((7 : Int32) = 0) = False := by simp
theorem nl_7_1 : ((7 : Int32) = 1) = False := by simp
theorem nl_7_2 : ((7 : Int32) = 2) = False := by simp
theorem nl_7_3 : ((7 : Int32) = 3) = False := by simp
theorem nl_7_4 : ((7 : Int32) = 4) = False := by simp
theorem nl_7_5 : ((7 : Int32) = 5) = False := by simp
theorem nl_7_6 : ((7 : Int32) = 6) = False := by simp
theorem nl_7_8 : ((7 : Int32) = 8) = False := by simp
theorem nl_8_0 : ((8 : Int32) = 0) = False := by simp
theorem nl_8_1 : ((8 : Int32) = 1) = False := by simp
theorem nl_8_2 : ((8 : Int32) = 2) = False := by simp
theorem nl_8_3 : ((8 : Int32) = 3) = False := by simp
theorem nl_8_4 : ((8 : Int32) = 4) = False := by simp
theorem nl_8_5 : ((8 : Int32) = 5) = False := by simp
theorem nl_8_6 : ((8 : Int32) = 6) = False := by simp
theorem nl_8_7 : ((8 : Int32) = 7) = False := by simp
