/-! ACTIONS ON CELLS -/
theorem pm_kd_lt {a : Nat} (h : pm_kd a < 99) : a < 90 := by
  by_cases ha : a < 90
  · exact ha
  · exfalso
    have e : pm_kd a = 99 := by
      have hl : pm_kdT.length = 90 := rfl
      show (pm_kdT[a]?).getD 99 = 99
      rw [List.getElem?_eq_none (by omega)]
      rfl
    omega
theorem pm_kd_all : ∀ a, a < 90 → (pm_kd a < 30 → a < 76) ∧ (pm_kd a = 30 → 76 ≤ a ∧ a < 80) ∧ (pm_kd a = 31 → 80 ≤ a ∧ a < 83) ∧ (pm_kd a = 32 → 85 ≤ a ∧ a < 88) ∧ (pm_kd a < 20 → pm_kd a < 10) := by decide +kernel
theorem pm_kd_w {a : Nat} (h : pm_kd a < 30) : a < 76 := (pm_kd_all a (pm_kd_lt (by omega))).1 h
theorem pm_kd_s {a : Nat} (h : pm_kd a = 30) : 76 ≤ a ∧ a < 80 := (pm_kd_all a (pm_kd_lt (by omega))).2.1 h
theorem pm_kd_t {a : Nat} (h : pm_kd a = 31) : 80 ≤ a ∧ a < 83 := (pm_kd_all a (pm_kd_lt (by omega))).2.2.1 h
theorem pm_kd_b {a : Nat} (h : pm_kd a = 32) : 85 ≤ a ∧ a < 88 := (pm_kd_all a (pm_kd_lt (by omega))).2.2.2.1 h
theorem pm_cell_o (K : pm_K) (h : pm_HP) {i : Nat} (hi : pm_kd i < 20) : pm_cell K h i = .inr (pm_kd i, (List.range (pm_nf (pm_kd i))).map (fun k => pm_mv K (pm_val h i k))) := by
  unfold pm_cell; rw [if_pos hi]
theorem pm_cell_a (K : pm_K) (h : pm_HP) {i : Nat} (hi : pm_kd i = 20) : pm_cell K h i = .inl (K.2.2.1, pm_al i, .inl (h.1 i)) := by
  unfold pm_cell; rw [if_neg (by omega), if_pos hi]
theorem pm_cell_r (K : pm_K) (h : pm_HP) {i : Nat} (hi : pm_kd i = 21 ∨ pm_kd i = 22) : pm_cell K h i = .inl (if pm_kd i = 21 then K.2.2.2.1 else K.2.2.2.2.1, pm_al i, .inr (.inr (.inr (.inr (fun k => some (K.2.1 (pm_rf i k))))))) := by
  unfold pm_cell; rw [if_neg (by omega), if_neg (by omega)]
theorem pm_cell_si (K : pm_K) (h : pm_HP) (i k : Nat) (v : Int32) {j : Nat} (hj : j ≠ i) : pm_cell K (pm_si h i k v) j = pm_cell K h j := by
  have e : (pm_si h i k v).1 j = h.1 j := by
    funext b
    show (if j = i ∧ b = k then v else h.1 j b) = h.1 j b
    rw [if_neg (fun q => hj q.1)]
  have e2 : ∀ b, pm_val (pm_si h i k v) j b = pm_val h j b := by
    intro b
    unfold pm_val
    rw [e]; rfl
  unfold pm_cell
  rw [e]
  simp only [e2]
theorem pm_cell_sl (K : pm_K) (h : pm_HP) (i k : Nat) (v : Int64) {j : Nat} (hj : j ≠ i) : pm_cell K (pm_sl h i k v) j = pm_cell K h j := by
  have e : (pm_sl h i k v).2 j = h.2 j := by
    funext b
    show (if j = i ∧ b = k then v else h.2 j b) = h.2 j b
    rw [if_neg (fun q => hj q.1)]
  have e2 : ∀ b, pm_val (pm_sl h i k v) j b = pm_val h j b := by
    intro b
    unfold pm_val
    rw [e]; rfl
  unfold pm_cell
  simp only [e2]
  rfl
theorem pm_cell_cp (K : pm_K) (h : pm_HP) (a0 a1 sp dp n : Nat) {j : Nat} (hj : j ≠ a1) : pm_cell K (pm_cp h a0 a1 sp dp n) j = pm_cell K h j := by
  have e : (pm_cp h a0 a1 sp dp n).1 j = h.1 j := by
    funext b
    show (if j = a1 then _ else h.1 j b) = h.1 j b
    rw [if_neg hj]
  have e2 : ∀ b, pm_val (pm_cp h a0 a1 sp dp n) j b = pm_val h j b := by
    intro b
    unfold pm_val
    rw [e]; rfl
  unfold pm_cell
  rw [e]
  simp only [e2]
theorem pm_list_set {α : Type} (f g : Nat → α) (n k : Nat) (x : α) (h1 : g k = x) (h2 : ∀ j, j ≠ k → g j = f j) : ((List.range n).map f).set k x = (List.range n).map g := by
  apply List.ext_getElem?
  intro j
  by_cases hj : j < n
  · by_cases hjk : k = j
    · subst hjk
      rw [List.getElem?_set_self (by simpa using hj)]
      simp [hj, h1]
    · rw [List.getElem?_set_ne hjk]
      simp [hj, h2 j (Ne.symm hjk)]
  · rw [List.getElem?_eq_none (by simp; omega), List.getElem?_eq_none (by simp; omega)]
/-- a field written -/
theorem pm_wd_si {K : pm_K} {h : pm_HP} {a k ci : Nat} {v : Int32} {x : Value} (hc : pm_kd a = ci) (hci : ci < 20) (hx : pm_mv K (pm_val (pm_si h a k v) a k) = x) : (pm_wd K h).set a (K.2.1 a, .inr (ci, ((List.range (pm_nf ci)).map (fun k => pm_mv K (pm_val h a k))).set k x)) = pm_wd K (pm_si h a k v) := by
  refine pm_wd_set ?_ (fun j hj => pm_cell_si K h a k v hj)
  rw [pm_cell_o K _ (by omega), hc, pm_list_set (fun k => pm_mv K (pm_val h a k)) (fun b => pm_mv K (pm_val (pm_si h a k v) a b)) _ _ _ hx]
  intro j hj
  have e : (pm_si h a k v).1 a j = h.1 a j := by
    show (if a = a ∧ j = k then v else h.1 a j) = h.1 a j
    rw [if_neg (fun q => hj q.2)]
  unfold pm_val
  rw [e]; rfl
theorem pm_wd_sl {K : pm_K} {h : pm_HP} {a k ci : Nat} {v : Int64} {x : Value} (hc : pm_kd a = ci) (hci : ci < 20) (hx : pm_mv K (pm_val (pm_sl h a k v) a k) = x) : (pm_wd K h).set a (K.2.1 a, .inr (ci, ((List.range (pm_nf ci)).map (fun k => pm_mv K (pm_val h a k))).set k x)) = pm_wd K (pm_sl h a k v) := by
  refine pm_wd_set ?_ (fun j hj => pm_cell_sl K h a k v hj)
  rw [pm_cell_o K _ (by omega), hc, pm_list_set (fun k => pm_mv K (pm_val h a k)) (fun b => pm_mv K (pm_val (pm_sl h a k v) a b)) _ _ _ hx]
  intro j hj
  have e : (pm_sl h a k v).2 a j = h.2 a j := by
    show (if a = a ∧ j = k then v else h.2 a j) = h.2 a j
    rw [if_neg (fun q => hj q.2)]
  unfold pm_val
  rw [e]; rfl
theorem pm_wd_as {K : pm_K} {h : pm_HP} {a k : Nat} {v : Int32} (hc : pm_kd a = 20) : (pm_wd K h).set a (K.2.1 a, .inl (K.2.2.1, pm_al a, .inl (upd (h.1 a) k v))) = pm_wd K (pm_si h a k v) := by
  refine pm_wd_set ?_ (fun j hj => pm_cell_si K h a k v hj)
  rw [pm_cell_a K _ hc]
  congr 4
  funext b
  show (if a = a ∧ b = k then v else h.1 a b) = if b = k then v else h.1 a b
  by_cases hb : b = k
  · rw [if_pos ⟨rfl, hb⟩, if_pos hb]
  · rw [if_neg (fun q => hb q.2), if_neg hb]
/-- the classes' fields -/
def pm_FL (own : String) (idx k t : Nat) (cs : List Nat) : Prop := ∀ ci ∈ cs, ∃ (C : String) (T : u_T) (N : Nat), vwCl[ci]? = some (C, T, N) ∧ k < N ∧ pm_ft ci k = t ∧ (Cond.fieldLink own idx (T k).1 (T k).2.1 (T k).2.2.1 ∈ pm_big ∨ ∃ host, Cond.fieldLinkNest own idx (T k).1 (T k).2.1 (T k).2.2.1 host ∈ pm_nest)
def pm_FP (own : String) (idx k t : Nat) (ty : FieldType) (cs : List Nat) : Prop := ∀ ci ∈ cs, ∃ (C : String) (T : u_T) (N : Nat) (ty0 : Nat → FieldType), vwCl[ci]? = some (C, T, N) ∧ k < N ∧ pm_ft ci k = t ∧ (Cond.fieldLink own idx (T k).1 (T k).2.1 (T k).2.2.1 ∈ pm_big ∨ ∃ host, Cond.fieldLinkNest own idx (T k).1 (T k).2.1 (T k).2.2.1 host ∈ pm_nest) ∧ (∀ k, k < N → parseFieldDescriptor (T k).2.2.1 = some (ty0 k)) ∧ (∀ a, a < N → ∀ b, b < N → a ≠ b → (T a).2.1 ≠ (T b).2.1) ∧ (T k).2.2.2 = false ∧ ty0 k = ty
theorem pm_uw0 : ∀ q ∈ vwCl, ∀ w ∈ u_ws q.1 q.2.1 q.2.2, w ∈ pm_big := by decide +kernel
theorem pm_uw {ci : Nat} {C : String} {T : u_T} {N : Nat} (h : vwCl[ci]? = some (C, T, N)) : ∀ w ∈ u_ws C T N, w ∈ pm_big := pm_uw0 (C, T, N) (List.mem_of_getElem? h)
theorem pm_nfN {ci : Nat} {C : String} {T : u_T} {N : Nat} (h : vwCl[ci]? = some (C, T, N)) : ci < 20 ∧ pm_nf ci = N := by
  have hl : ci < 10 := (List.getElem?_eq_some_iff.mp h).1
  match ci, hl, h with
  | 0, _, h => cases h; exact ⟨by omega, rfl⟩
  | 1, _, h => cases h; exact ⟨by omega, rfl⟩
  | 2, _, h => cases h; exact ⟨by omega, rfl⟩
  | 3, _, h => cases h; exact ⟨by omega, rfl⟩
  | 4, _, h => cases h; exact ⟨by omega, rfl⟩
  | 5, _, h => cases h; exact ⟨by omega, rfl⟩
  | 6, _, h => cases h; exact ⟨by omega, rfl⟩
  | 7, _, h => cases h; exact ⟨by omega, rfl⟩
  | 8, _, h => cases h; exact ⟨by omega, rfl⟩
  | 9, _, h => cases h; exact ⟨by omega, rfl⟩
theorem pm_is_e {cs : List Nat} {a : Nat} (h : pm_is cs a = true) : pm_kd a ∈ cs := by
  unfold pm_is at h
  exact List.contains_iff_mem.mp h
theorem pm_ix_e {i : Int32} {n : Nat} (h : pm_ix i n = true) : vp_in i n := by
  unfold pm_ix at h
  rw [Bool.and_eq_true, decide_eq_true_eq, decide_eq_true_eq] at h
  intro q
  rcases q with q | q
  · exact absurd q (Int32.not_lt.mpr h.1)
  · omega
section SM
variable {K : pm_K} {l : Launch} {mt : pm_T} {own : String} {cc : ByteArray} {nL : Nat} {rt : Option FieldType} {pcb : Nat → Nat} {pc : Nat}
variable {p : Program} {e : Env} {R : Room} {s : State} {m : MethodId} {args : Array Value} {below : List Frame} {meth : Method} {c : Code} {cells slots : Nat} {Q : State → Prop}
/-- a field read -/
theorem pm_wget (C : pm_Cx K p R s m args c cells slots own cc nL) {idx k t : Nat} {cs : List Nat} (hd : decode cc pc = .ok (.getfield idx, 3)) (hF : pm_FL own idx k t cs) {a : Nat} (ha : pm_is cs a = true) {h : pm_HP} {H : Heap} {locs : List Loc} {lr : Array Slot} {r : List Value} (hP : va_P K.1 vwCl (pm_wd K h) H)
    (kk : pm_ft (pm_kd a) k = t → W p l e R s m args below meth c H locs cells slots Q (F0 m (pc + 3) lr (pm_mv K (pm_val h a k) :: r))) : W p l e R s m args below meth c H locs cells slots Q (F0 m pc lr (.ref (K.2.1 a) :: r)) := by
  obtain ⟨hx, hb, hml, hown, hts, hSt, hJ, hf1, hl1, hc1, hs1⟩ := C
  obtain ⟨Cn, T, N, h1, h2, h3, h4⟩ := hF _ (pm_is_e ha)
  have hN := pm_nfN h1
  have he : (pm_wd K h)[a]? = some (K.2.1 a, .inr (pm_kd a, (List.range (pm_nf (pm_kd a))).map (fun k => pm_mv K (pm_val h a k)))) := by
    rw [pm_wd_get K h (pm_kd_w (by omega)), pm_cell_o K h hN.1]
  have hv : ((List.range (pm_nf (pm_kd a))).map (fun k => pm_mv K (pm_val h a k)))[k]? = some (pm_mv K (pm_val h a k)) := by
    rw [hN.2]; simp [h2]
  rcases h4 with h4 | ⟨host, h4⟩
  · exact va_get (D := K.1) hx hb hts (pm_uw h1) hown hSt.1 hP a he h1 k h2 (hts _ h4) (fun _ h9 => h9) hv hd (kk h3)
  · exact va_getN (D := K.1) hx hb hts (pm_uw h1) hown hSt.1 hP a he h1 k h2 ((hSt.2.1 _ h4).use rfl) (fun _ h9 => h9) hv hd (kk h3)
/-- a field written -/
theorem pm_wput (C : pm_Cx K p R s m args c cells slots own cc nL) {idx k t : Nat} {ty : FieldType} {cs : List Nat} (hd : decode cc pc = .ok (.putfield idx, 3)) (hF : pm_FP own idx k t ty cs) {a : Nat} (ha : pm_is cs a = true) {h h' : pm_HP} {v : Value} (hn : narrow ty v = v) (hfit : fits ty v = true) {H : Heap} {locs : List Loc} {lr : Array Slot} {r : List Value} (hP : va_P K.1 vwCl (pm_wd K h) H) (hS : va_S (pm_A K) s.heap H locs)
    (hset : pm_ft (pm_kd a) k = t → pm_kd a < 20 → (pm_wd K h).set a (K.2.1 a, .inr (pm_kd a, ((List.range (pm_nf (pm_kd a))).map (fun k => pm_mv K (pm_val h a k))).set k v)) = pm_wd K h')
    (kk : ∀ (H1 : Heap) (locs1 : List Loc), va_P K.1 vwCl (pm_wd K h') H1 → va_S (pm_A K) s.heap H1 locs1 → W p l e R s m args below meth c H1 locs1 cells slots Q (F0 m (pc + 3) lr r)) : W p l e R s m args below meth c H locs cells slots Q (F0 m pc lr (v :: .ref (K.2.1 a) :: r)) := by
  obtain ⟨hx, hb, hml, hown, hts, hSt, hJ, hf1, hl1, hc1, hs1⟩ := C
  obtain ⟨Cn, T, N, ty0, h1, h2, h3, h4, h5, h6, h7, h8⟩ := hF _ (pm_is_e ha)
  have hN := pm_nfN h1
  have he : (pm_wd K h)[a]? = some (K.2.1 a, .inr (pm_kd a, (List.range (pm_nf (pm_kd a))).map (fun k => pm_mv K (pm_val h a k)))) := by
    rw [pm_wd_get K h (pm_kd_w (by omega)), pm_cell_o K h hN.1]
  have hlen : k < ((List.range (pm_nf (pm_kd a))).map (fun k => pm_mv K (pm_val h a k))).length := by
    rw [hN.2]; simpa using h2
  have hty : parseFieldDescriptor (T k).2.2.1 = some ty := by rw [h5 k h2, h8]
  have hset := hset h3 hN.1
  rcases h4 with h4 | ⟨host, h4⟩
  · exact va_put (D := K.1) hx hb hts (pm_uw h1) ty0 h5 h6 hown hSt.1 hP (pm_wd_D hJ h) hS a he h1 k h2 (hts _ h4) (fun _ h9 => h9) h7 hty hn hfit hlen hd (fun H1 locs1 g1 _ g3 => kk H1 locs1 (by rw [← hset]; exact g1) g3)
  · exact va_putN (D := K.1) hx hb hts (pm_uw h1) ty0 h5 h6 hown hSt.1 hP (pm_wd_D hJ h) hS a he h1 k h2 ((hSt.2.1 _ h4).use rfl) (fun _ h9 => h9) h7 hty hn hfit hlen hd (fun H1 locs1 g1 _ g3 => kk H1 locs1 (by rw [← hset]; exact g1) g3)
end SM
