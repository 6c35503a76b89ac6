/-! RUNS BY REWRITING: a row an action -/
section EV
variable {pg : Nat → List pm_Ac} {C : Nat → List Value → pm_HP → Option pm_RV} {k : List pm_Ac} {ls : pm_LS} {st : List Value} {h : pm_HP}
theorem ev_v {v : Value} : pm_ev pg C (ac_v v :: k) ls st h = pm_ev pg C k ls (v :: st) h := by rw [pm_ev_cons]; rfl
theorem ev_i {v : Int32} : pm_ev pg C (ac_i v :: k) ls st h = pm_ev pg C k ls (.int v :: st) h := by rw [pm_ev_cons]; rfl
theorem ev_l {v : Int64} : pm_ev pg C (ac_l v :: k) ls st h = pm_ev pg C k ls (.long v :: st) h := by rw [pm_ev_cons]; rfl
theorem ev_go {b : Nat} : pm_ev pg C (ac_go b :: k) ls st h = pm_ev pg C (pg b) ls st h := by rw [pm_ev_cons]; rfl
theorem ev_no : pm_ev pg C (ac_no :: k) ls st h = none := by rw [pm_ev_cons]; rfl
theorem ev_bin {f : Int32 → Int32 → Int32} {x y : Int32} : pm_ev pg C (ac_bin f :: k) ls (.int y :: .int x :: st) h = pm_ev pg C k ls (.int (f x y) :: st) h := by rw [pm_ev_cons]; rfl
theorem ev_dv {f : Int32 → Int32 → Int32} {x y : Int32} : pm_ev pg C (ac_dv f :: k) ls (.int y :: .int x :: st) h = if y = 0 then none else pm_ev pg C k ls (.int (f x y) :: st) h := by
  rw [pm_ev_cons]
  by_cases hy : y = 0
  · simp [ac_dv, pm_pI, hy]
  · simp [ac_dv, pm_pI, hy, pm_n]
theorem ev_un {f : Int32 → Int32} {x : Int32} : pm_ev pg C (ac_un f :: k) ls (.int x :: st) h = pm_ev pg C k ls (.int (f x) :: st) h := by rw [pm_ev_cons]; rfl
theorem ev_lbin {f : Int64 → Int64 → Int64} {x y : Int64} : pm_ev pg C (ac_lbin f :: k) ls (.long y :: .long x :: st) h = pm_ev pg C k ls (.long (f x y) :: st) h := by rw [pm_ev_cons]; rfl
theorem ev_ldv {f : Int64 → Int64 → Int64} {x y : Int64} : pm_ev pg C (ac_ldv f :: k) ls (.long y :: .long x :: st) h = if y = 0 then none else pm_ev pg C k ls (.long (f x y) :: st) h := by
  rw [pm_ev_cons]
  by_cases hy : y = 0
  · simp [ac_ldv, pm_pL, hy]
  · simp [ac_ldv, pm_pL, hy, pm_n]
theorem ev_lsh {f : Int64 → Int32 → Int64} {x : Int64} {y : Int32} : pm_ev pg C (ac_lsh f :: k) ls (.int y :: .long x :: st) h = pm_ev pg C k ls (.long (f x y) :: st) h := by rw [pm_ev_cons]; rfl
theorem ev_lcmp {x y : Int64} : pm_ev pg C (ac_lcmp :: k) ls (.long y :: .long x :: st) h = pm_ev pg C k ls (.int (lg_cmp x y) :: st) h := by rw [pm_ev_cons]; rfl
theorem ev_i2l {x : Int32} : pm_ev pg C (ac_i2l :: k) ls (.int x :: st) h = pm_ev pg C k ls (.long x.toInt64 :: st) h := by rw [pm_ev_cons]; rfl
theorem ev_l2i {x : Int64} : pm_ev pg C (ac_l2i :: k) ls (.long x :: st) h = pm_ev pg C k ls (.int x.toInt32 :: st) h := by rw [pm_ev_cons]; rfl
theorem ev_dup_i {x : Int32} : pm_ev pg C (ac_dup :: k) ls (.int x :: st) h = pm_ev pg C k ls (.int x :: .int x :: st) h := by rw [pm_ev_cons]; rfl
theorem ev_dup_r {x : Nat} : pm_ev pg C (ac_dup :: k) ls (.ref x :: st) h = pm_ev pg C k ls (.ref x :: .ref x :: st) h := by rw [pm_ev_cons]; rfl
theorem ev_dup2_ir {x : Int32} {y : Nat} : pm_ev pg C (ac_dup2 :: k) ls (.int x :: .ref y :: st) h = pm_ev pg C k ls (.int x :: .ref y :: .int x :: .ref y :: st) h := by rw [pm_ev_cons]; rfl
theorem ev_dup2_ii {x y : Int32} : pm_ev pg C (ac_dup2 :: k) ls (.int x :: .int y :: st) h = pm_ev pg C k ls (.int x :: .int y :: .int x :: .int y :: st) h := by rw [pm_ev_cons]; rfl
theorem ev_pop_i {x : Int32} : pm_ev pg C (ac_pop :: k) ls (.int x :: st) h = pm_ev pg C k ls st h := by rw [pm_ev_cons]; rfl
theorem ev_pop_r {x : Nat} : pm_ev pg C (ac_pop :: k) ls (.ref x :: st) h = pm_ev pg C k ls st h := by rw [pm_ev_cons]; rfl
theorem ev_if0 {q : Int32 → Bool} {b : Nat} {x : Int32} : pm_ev pg C (ac_if0 q b :: k) ls (.int x :: st) h = if q x = true then pm_ev pg C (pg b) ls st h else pm_ev pg C k ls st h := by
  rw [pm_ev_cons]
  by_cases hq : q x = true <;> simp [ac_if0, pm_pI, hq, pm_n, pm_j]
theorem ev_if2 {q : Int32 → Int32 → Bool} {b : Nat} {x y : Int32} : pm_ev pg C (ac_if2 q b :: k) ls (.int y :: .int x :: st) h = if q x y = true then pm_ev pg C (pg b) ls st h else pm_ev pg C k ls st h := by
  rw [pm_ev_cons]
  by_cases hq : q x y = true <;> simp [ac_if2, pm_pI, hq, pm_n, pm_j]
theorem ev_ifn_0 {qr : Bool} {b : Nat} : pm_ev pg C (ac_ifn true qr b :: k) ls (.null :: st) h = pm_ev pg C (pg b) ls st h := by rw [pm_ev_cons]; rfl
theorem ev_ifn_1 {qr : Bool} {b : Nat} : pm_ev pg C (ac_ifn false qr b :: k) ls (.null :: st) h = pm_ev pg C k ls st h := by rw [pm_ev_cons]; rfl
theorem ev_ifn_2 {qn : Bool} {b x : Nat} : pm_ev pg C (ac_ifn qn true b :: k) ls (.ref x :: st) h = pm_ev pg C (pg b) ls st h := by rw [pm_ev_cons]; rfl
theorem ev_ifn_3 {qn : Bool} {b x : Nat} : pm_ev pg C (ac_ifn qn false b :: k) ls (.ref x :: st) h = pm_ev pg C k ls st h := by rw [pm_ev_cons]; rfl
theorem ev_sw_0 {d : Nat} {x : Int32} : pm_ev pg C (ac_sw [] d :: k) ls (.int x :: st) h = pm_ev pg C (pg d) ls st h := by rw [pm_ev_cons]; rfl
theorem ev_sw_1 {q : Int32} {b d : Nat} {r : List (Int32 × Nat)} {x : Int32} : pm_ev pg C (ac_sw ((q, b) :: r) d :: k) ls (.int x :: st) h = if x = q then pm_ev pg C (pg b) ls st h else pm_ev pg C (ac_sw r d :: k) ls (.int x :: st) h := by
  rw [pm_ev_cons, pm_ev_cons]
  by_cases hq : x = q <;> simp [ac_sw, pm_pI, pm_sf, hq, pm_j]
theorem ev_ri {x : Int32} : pm_ev pg C (ac_ri :: k) ls [.int x] h = some (some (.int x), h) := by rw [pm_ev_cons]; rfl
theorem ev_rz {f : Int32 → Int32} {x : Int32} : pm_ev pg C (ac_rz f :: k) ls [.int x] h = if f x = x then some (some (.int x), h) else none := by
  rw [pm_ev_cons]
  by_cases hq : f x = x <;> simp [ac_rz, hq, pm_r]
theorem ev_rl {x : Int64} : pm_ev pg C (ac_rl :: k) ls [.long x] h = some (some (.long x), h) := by rw [pm_ev_cons]; rfl
theorem ev_ra {x : Nat} : pm_ev pg C (ac_ra :: k) ls [.ref x] h = some (some (.ref x), h) := by rw [pm_ev_cons]; rfl
theorem ev_ra0 : pm_ev pg C (ac_ra :: k) ls [.null] h = some (some .null, h) := by rw [pm_ev_cons]; rfl
theorem ev_rv : pm_ev pg C (ac_rv :: k) ls [] h = some (none, h) := by rw [pm_ev_cons]; rfl
theorem ev_m1 {f : Int32 → Int32} {x : Int32} : pm_ev pg C (ac_m1 f :: k) ls (.int x :: st) h = if pm_cs st ≤ 8 then pm_ev pg C k ls (.int (f x) :: st) h else none := by
  rw [pm_ev_cons]
  by_cases hq : pm_cs st ≤ 8 <;> simp [ac_m1, pm_pI, hq, pm_n]
theorem ev_m2 {f : Int32 → Int32 → Int32} {x y : Int32} : pm_ev pg C (ac_m2 f :: k) ls (.int y :: .int x :: st) h = if pm_cs st ≤ 8 then pm_ev pg C k ls (.int (f x y) :: st) h else none := by
  rw [pm_ev_cons]
  by_cases hq : pm_cs st ≤ 8 <;> simp [ac_m2, pm_pI, hq, pm_n]
theorem ev_ml {f : Int64 → Int64} {x : Int64} : pm_ev pg C (ac_ml f :: k) ls (.long x :: st) h = if pm_cs st ≤ 8 then pm_ev pg C k ls (.long (f x) :: st) h else none := by
  rw [pm_ev_cons]
  by_cases hq : pm_cs st ≤ 8 <;> simp [ac_ml, pm_pL, hq, pm_n]
theorem pm_cs_0 : pm_cs [] = 0 := rfl
theorem pm_cs_i {x : Int32} : pm_cs (.int x :: st) = 1 + pm_cs st := rfl
theorem pm_cs_l {x : Int64} : pm_cs (.long x :: st) = 2 + pm_cs st := rfl
theorem pm_cs_r {x : Nat} : pm_cs (.ref x :: st) = 1 + pm_cs st := rfl
theorem pm_cs_n : pm_cs (.null :: st) = 1 + pm_cs st := rfl
theorem pm_bd_s {v : Option Value} {f : Option Value → pm_HP → Option pm_RV} : pm_bd (some (v, h)) f = f v h := rfl
theorem pm_bd_n {f : Option Value → pm_HP → Option pm_RV} : pm_bd none f = none := rfl
theorem pm_tl_s {v : Value} : (some v).toList ++ st = v :: st := rfl
theorem pm_tl_n : (none : Option Value).toList ++ st = st := rfl
theorem ev_ild0 {x : Int32} : pm_ev pg C (ac_ild 0 :: k) (some (.int x) :: ls) st h = pm_ev pg C k (some (.int x) :: ls) (.int x :: st) h := by rw [pm_ev_cons]; rfl
theorem ev_lld0 {x : Int64} : pm_ev pg C (ac_lld 0 :: k) (some (.long x) :: ls) st h = pm_ev pg C k (some (.long x) :: ls) (.long x :: st) h := by rw [pm_ev_cons]; rfl
theorem ev_ald0 {x : Nat} : pm_ev pg C (ac_ald 0 :: k) (some (.ref x) :: ls) st h = pm_ev pg C k (some (.ref x) :: ls) (.ref x :: st) h := by rw [pm_ev_cons]; rfl
theorem ev_aldn0 : pm_ev pg C (ac_ald 0 :: k) (some .null :: ls) st h = pm_ev pg C k (some .null :: ls) (.null :: st) h := by rw [pm_ev_cons]; rfl
theorem ev_ist0 {b : Option Value} {x : Int32} : pm_ev pg C (ac_ist 0 :: k) (b :: ls) (.int x :: st) h = pm_ev pg C k (some (.int x) :: ls) st h := by rw [pm_ev_cons]; rfl
theorem ev_ast0 {b : Option Value} {x : Nat} : pm_ev pg C (ac_ast 0 :: k) (b :: ls) (.ref x :: st) h = pm_ev pg C k (some (.ref x) :: ls) st h := by rw [pm_ev_cons]; rfl
theorem ev_astn0 {b : Option Value} : pm_ev pg C (ac_ast 0 :: k) (b :: ls) (.null :: st) h = pm_ev pg C k (some .null :: ls) st h := by rw [pm_ev_cons]; rfl
theorem ev_lst0 {b b2 : Option Value} {x : Int64} : pm_ev pg C (ac_lst 0 :: k) (b :: b2 :: ls) (.long x :: st) h = pm_ev pg C k (some (.long x) :: none :: ls) st h := by rw [pm_ev_cons]; rfl
theorem ev_inc0 {n x : Int32} : pm_ev pg C (ac_inc 0 n :: k) (some (.int x) :: ls) st h = pm_ev pg C k (some (.int (x + n)) :: ls) st h := by rw [pm_ev_cons]; rfl
theorem ev_ild1 {a0 : Option Value} {x : Int32} : pm_ev pg C (ac_ild 1 :: k) (a0 :: some (.int x) :: ls) st h = pm_ev pg C k (a0 :: some (.int x) :: ls) (.int x :: st) h := by rw [pm_ev_cons]; rfl
theorem ev_lld1 {a0 : Option Value} {x : Int64} : pm_ev pg C (ac_lld 1 :: k) (a0 :: some (.long x) :: ls) st h = pm_ev pg C k (a0 :: some (.long x) :: ls) (.long x :: st) h := by rw [pm_ev_cons]; rfl
theorem ev_ald1 {a0 : Option Value} {x : Nat} : pm_ev pg C (ac_ald 1 :: k) (a0 :: some (.ref x) :: ls) st h = pm_ev pg C k (a0 :: some (.ref x) :: ls) (.ref x :: st) h := by rw [pm_ev_cons]; rfl
theorem ev_aldn1 {a0 : Option Value} : pm_ev pg C (ac_ald 1 :: k) (a0 :: some .null :: ls) st h = pm_ev pg C k (a0 :: some .null :: ls) (.null :: st) h := by rw [pm_ev_cons]; rfl
theorem ev_ist1 {a0 : Option Value} {b : Option Value} {x : Int32} (hc : pm_c2 a0 = false) : pm_ev pg C (ac_ist 1 :: k) (a0 :: b :: ls) (.int x :: st) h = pm_ev pg C k (a0 :: some (.int x) :: ls) st h := by
  rw [pm_ev_cons]; simp [ac_ist, pm_pI, pm_l1, pm_lg, pm_n, hc]
theorem ev_ast1 {a0 : Option Value} {b : Option Value} {x : Nat} (hc : pm_c2 a0 = false) : pm_ev pg C (ac_ast 1 :: k) (a0 :: b :: ls) (.ref x :: st) h = pm_ev pg C k (a0 :: some (.ref x) :: ls) st h := by
  rw [pm_ev_cons]; simp [ac_ast, pm_pR, pm_l1, pm_lg, pm_n, hc]
theorem ev_astn1 {a0 : Option Value} {b : Option Value} (hc : pm_c2 a0 = false) : pm_ev pg C (ac_ast 1 :: k) (a0 :: b :: ls) (.null :: st) h = pm_ev pg C k (a0 :: some .null :: ls) st h := by
  rw [pm_ev_cons]; simp [ac_ast, pm_pR, pm_l1, pm_lg, pm_n, hc]
theorem ev_lst1 {a0 : Option Value} {b b2 : Option Value} {x : Int64} (hc : pm_c2 a0 = false) : pm_ev pg C (ac_lst 1 :: k) (a0 :: b :: b2 :: ls) (.long x :: st) h = pm_ev pg C k (a0 :: some (.long x) :: none :: ls) st h := by
  rw [pm_ev_cons]; simp [ac_lst, pm_pL, pm_l2, pm_n, hc]
theorem ev_inc1 {a0 : Option Value} {n x : Int32} (hc : pm_c2 a0 = false) : pm_ev pg C (ac_inc 1 n :: k) (a0 :: some (.int x) :: ls) st h = pm_ev pg C k (a0 :: some (.int (x + n)) :: ls) st h := by
  rw [pm_ev_cons]; simp [ac_inc, pm_pI, pm_l1, pm_lg, pm_n, hc]
theorem ev_ild2 {a0 a1 : Option Value} {x : Int32} : pm_ev pg C (ac_ild 2 :: k) (a0 :: a1 :: some (.int x) :: ls) st h = pm_ev pg C k (a0 :: a1 :: some (.int x) :: ls) (.int x :: st) h := by rw [pm_ev_cons]; rfl
theorem ev_lld2 {a0 a1 : Option Value} {x : Int64} : pm_ev pg C (ac_lld 2 :: k) (a0 :: a1 :: some (.long x) :: ls) st h = pm_ev pg C k (a0 :: a1 :: some (.long x) :: ls) (.long x :: st) h := by rw [pm_ev_cons]; rfl
theorem ev_ald2 {a0 a1 : Option Value} {x : Nat} : pm_ev pg C (ac_ald 2 :: k) (a0 :: a1 :: some (.ref x) :: ls) st h = pm_ev pg C k (a0 :: a1 :: some (.ref x) :: ls) (.ref x :: st) h := by rw [pm_ev_cons]; rfl
theorem ev_aldn2 {a0 a1 : Option Value} : pm_ev pg C (ac_ald 2 :: k) (a0 :: a1 :: some .null :: ls) st h = pm_ev pg C k (a0 :: a1 :: some .null :: ls) (.null :: st) h := by rw [pm_ev_cons]; rfl
theorem ev_ist2 {a0 a1 : Option Value} {b : Option Value} {x : Int32} (hc : pm_c2 a1 = false) : pm_ev pg C (ac_ist 2 :: k) (a0 :: a1 :: b :: ls) (.int x :: st) h = pm_ev pg C k (a0 :: a1 :: some (.int x) :: ls) st h := by
  rw [pm_ev_cons]; simp [ac_ist, pm_pI, pm_l1, pm_lg, pm_n, hc]
theorem ev_ast2 {a0 a1 : Option Value} {b : Option Value} {x : Nat} (hc : pm_c2 a1 = false) : pm_ev pg C (ac_ast 2 :: k) (a0 :: a1 :: b :: ls) (.ref x :: st) h = pm_ev pg C k (a0 :: a1 :: some (.ref x) :: ls) st h := by
  rw [pm_ev_cons]; simp [ac_ast, pm_pR, pm_l1, pm_lg, pm_n, hc]
theorem ev_astn2 {a0 a1 : Option Value} {b : Option Value} (hc : pm_c2 a1 = false) : pm_ev pg C (ac_ast 2 :: k) (a0 :: a1 :: b :: ls) (.null :: st) h = pm_ev pg C k (a0 :: a1 :: some .null :: ls) st h := by
  rw [pm_ev_cons]; simp [ac_ast, pm_pR, pm_l1, pm_lg, pm_n, hc]
theorem ev_lst2 {a0 a1 : Option Value} {b b2 : Option Value} {x : Int64} (hc : pm_c2 a1 = false) : pm_ev pg C (ac_lst 2 :: k) (a0 :: a1 :: b :: b2 :: ls) (.long x :: st) h = pm_ev pg C k (a0 :: a1 :: some (.long x) :: none :: ls) st h := by
  rw [pm_ev_cons]; simp [ac_lst, pm_pL, pm_l2, pm_n, hc]
theorem ev_inc2 {a0 a1 : Option Value} {n x : Int32} (hc : pm_c2 a1 = false) : pm_ev pg C (ac_inc 2 n :: k) (a0 :: a1 :: some (.int x) :: ls) st h = pm_ev pg C k (a0 :: a1 :: some (.int (x + n)) :: ls) st h := by
  rw [pm_ev_cons]; simp [ac_inc, pm_pI, pm_l1, pm_lg, pm_n, hc]
theorem ev_ild3 {a0 a1 a2 : Option Value} {x : Int32} : pm_ev pg C (ac_ild 3 :: k) (a0 :: a1 :: a2 :: some (.int x) :: ls) st h = pm_ev pg C k (a0 :: a1 :: a2 :: some (.int x) :: ls) (.int x :: st) h := by rw [pm_ev_cons]; rfl
theorem ev_lld3 {a0 a1 a2 : Option Value} {x : Int64} : pm_ev pg C (ac_lld 3 :: k) (a0 :: a1 :: a2 :: some (.long x) :: ls) st h = pm_ev pg C k (a0 :: a1 :: a2 :: some (.long x) :: ls) (.long x :: st) h := by rw [pm_ev_cons]; rfl
theorem ev_ald3 {a0 a1 a2 : Option Value} {x : Nat} : pm_ev pg C (ac_ald 3 :: k) (a0 :: a1 :: a2 :: some (.ref x) :: ls) st h = pm_ev pg C k (a0 :: a1 :: a2 :: some (.ref x) :: ls) (.ref x :: st) h := by rw [pm_ev_cons]; rfl
theorem ev_aldn3 {a0 a1 a2 : Option Value} : pm_ev pg C (ac_ald 3 :: k) (a0 :: a1 :: a2 :: some .null :: ls) st h = pm_ev pg C k (a0 :: a1 :: a2 :: some .null :: ls) (.null :: st) h := by rw [pm_ev_cons]; rfl
theorem ev_ist3 {a0 a1 a2 : Option Value} {b : Option Value} {x : Int32} (hc : pm_c2 a2 = false) : pm_ev pg C (ac_ist 3 :: k) (a0 :: a1 :: a2 :: b :: ls) (.int x :: st) h = pm_ev pg C k (a0 :: a1 :: a2 :: some (.int x) :: ls) st h := by
  rw [pm_ev_cons]; simp [ac_ist, pm_pI, pm_l1, pm_lg, pm_n, hc]
theorem ev_ast3 {a0 a1 a2 : Option Value} {b : Option Value} {x : Nat} (hc : pm_c2 a2 = false) : pm_ev pg C (ac_ast 3 :: k) (a0 :: a1 :: a2 :: b :: ls) (.ref x :: st) h = pm_ev pg C k (a0 :: a1 :: a2 :: some (.ref x) :: ls) st h := by
  rw [pm_ev_cons]; simp [ac_ast, pm_pR, pm_l1, pm_lg, pm_n, hc]
theorem ev_astn3 {a0 a1 a2 : Option Value} {b : Option Value} (hc : pm_c2 a2 = false) : pm_ev pg C (ac_ast 3 :: k) (a0 :: a1 :: a2 :: b :: ls) (.null :: st) h = pm_ev pg C k (a0 :: a1 :: a2 :: some .null :: ls) st h := by
  rw [pm_ev_cons]; simp [ac_ast, pm_pR, pm_l1, pm_lg, pm_n, hc]
theorem ev_lst3 {a0 a1 a2 : Option Value} {b b2 : Option Value} {x : Int64} (hc : pm_c2 a2 = false) : pm_ev pg C (ac_lst 3 :: k) (a0 :: a1 :: a2 :: b :: b2 :: ls) (.long x :: st) h = pm_ev pg C k (a0 :: a1 :: a2 :: some (.long x) :: none :: ls) st h := by
  rw [pm_ev_cons]; simp [ac_lst, pm_pL, pm_l2, pm_n, hc]
theorem ev_inc3 {a0 a1 a2 : Option Value} {n x : Int32} (hc : pm_c2 a2 = false) : pm_ev pg C (ac_inc 3 n :: k) (a0 :: a1 :: a2 :: some (.int x) :: ls) st h = pm_ev pg C k (a0 :: a1 :: a2 :: some (.int (x + n)) :: ls) st h := by
  rw [pm_ev_cons]; simp [ac_inc, pm_pI, pm_l1, pm_lg, pm_n, hc]
theorem ev_ild4 {a0 a1 a2 a3 : Option Value} {x : Int32} : pm_ev pg C (ac_ild 4 :: k) (a0 :: a1 :: a2 :: a3 :: some (.int x) :: ls) st h = pm_ev pg C k (a0 :: a1 :: a2 :: a3 :: some (.int x) :: ls) (.int x :: st) h := by rw [pm_ev_cons]; rfl
theorem ev_lld4 {a0 a1 a2 a3 : Option Value} {x : Int64} : pm_ev pg C (ac_lld 4 :: k) (a0 :: a1 :: a2 :: a3 :: some (.long x) :: ls) st h = pm_ev pg C k (a0 :: a1 :: a2 :: a3 :: some (.long x) :: ls) (.long x :: st) h := by rw [pm_ev_cons]; rfl
theorem ev_ald4 {a0 a1 a2 a3 : Option Value} {x : Nat} : pm_ev pg C (ac_ald 4 :: k) (a0 :: a1 :: a2 :: a3 :: some (.ref x) :: ls) st h = pm_ev pg C k (a0 :: a1 :: a2 :: a3 :: some (.ref x) :: ls) (.ref x :: st) h := by rw [pm_ev_cons]; rfl
theorem ev_aldn4 {a0 a1 a2 a3 : Option Value} : pm_ev pg C (ac_ald 4 :: k) (a0 :: a1 :: a2 :: a3 :: some .null :: ls) st h = pm_ev pg C k (a0 :: a1 :: a2 :: a3 :: some .null :: ls) (.null :: st) h := by rw [pm_ev_cons]; rfl
theorem ev_ist4 {a0 a1 a2 a3 : Option Value} {b : Option Value} {x : Int32} (hc : pm_c2 a3 = false) : pm_ev pg C (ac_ist 4 :: k) (a0 :: a1 :: a2 :: a3 :: b :: ls) (.int x :: st) h = pm_ev pg C k (a0 :: a1 :: a2 :: a3 :: some (.int x) :: ls) st h := by
  rw [pm_ev_cons]; simp [ac_ist, pm_pI, pm_l1, pm_lg, pm_n, hc]
theorem ev_ast4 {a0 a1 a2 a3 : Option Value} {b : Option Value} {x : Nat} (hc : pm_c2 a3 = false) : pm_ev pg C (ac_ast 4 :: k) (a0 :: a1 :: a2 :: a3 :: b :: ls) (.ref x :: st) h = pm_ev pg C k (a0 :: a1 :: a2 :: a3 :: some (.ref x) :: ls) st h := by
  rw [pm_ev_cons]; simp [ac_ast, pm_pR, pm_l1, pm_lg, pm_n, hc]
theorem ev_astn4 {a0 a1 a2 a3 : Option Value} {b : Option Value} (hc : pm_c2 a3 = false) : pm_ev pg C (ac_ast 4 :: k) (a0 :: a1 :: a2 :: a3 :: b :: ls) (.null :: st) h = pm_ev pg C k (a0 :: a1 :: a2 :: a3 :: some .null :: ls) st h := by
  rw [pm_ev_cons]; simp [ac_ast, pm_pR, pm_l1, pm_lg, pm_n, hc]
theorem ev_lst4 {a0 a1 a2 a3 : Option Value} {b b2 : Option Value} {x : Int64} (hc : pm_c2 a3 = false) : pm_ev pg C (ac_lst 4 :: k) (a0 :: a1 :: a2 :: a3 :: b :: b2 :: ls) (.long x :: st) h = pm_ev pg C k (a0 :: a1 :: a2 :: a3 :: some (.long x) :: none :: ls) st h := by
  rw [pm_ev_cons]; simp [ac_lst, pm_pL, pm_l2, pm_n, hc]
theorem ev_inc4 {a0 a1 a2 a3 : Option Value} {n x : Int32} (hc : pm_c2 a3 = false) : pm_ev pg C (ac_inc 4 n :: k) (a0 :: a1 :: a2 :: a3 :: some (.int x) :: ls) st h = pm_ev pg C k (a0 :: a1 :: a2 :: a3 :: some (.int (x + n)) :: ls) st h := by
  rw [pm_ev_cons]; simp [ac_inc, pm_pI, pm_l1, pm_lg, pm_n, hc]
theorem ev_ild5 {a0 a1 a2 a3 a4 : Option Value} {x : Int32} : pm_ev pg C (ac_ild 5 :: k) (a0 :: a1 :: a2 :: a3 :: a4 :: some (.int x) :: ls) st h = pm_ev pg C k (a0 :: a1 :: a2 :: a3 :: a4 :: some (.int x) :: ls) (.int x :: st) h := by rw [pm_ev_cons]; rfl
theorem ev_lld5 {a0 a1 a2 a3 a4 : Option Value} {x : Int64} : pm_ev pg C (ac_lld 5 :: k) (a0 :: a1 :: a2 :: a3 :: a4 :: some (.long x) :: ls) st h = pm_ev pg C k (a0 :: a1 :: a2 :: a3 :: a4 :: some (.long x) :: ls) (.long x :: st) h := by rw [pm_ev_cons]; rfl
theorem ev_ald5 {a0 a1 a2 a3 a4 : Option Value} {x : Nat} : pm_ev pg C (ac_ald 5 :: k) (a0 :: a1 :: a2 :: a3 :: a4 :: some (.ref x) :: ls) st h = pm_ev pg C k (a0 :: a1 :: a2 :: a3 :: a4 :: some (.ref x) :: ls) (.ref x :: st) h := by rw [pm_ev_cons]; rfl
theorem ev_aldn5 {a0 a1 a2 a3 a4 : Option Value} : pm_ev pg C (ac_ald 5 :: k) (a0 :: a1 :: a2 :: a3 :: a4 :: some .null :: ls) st h = pm_ev pg C k (a0 :: a1 :: a2 :: a3 :: a4 :: some .null :: ls) (.null :: st) h := by rw [pm_ev_cons]; rfl
theorem ev_ist5 {a0 a1 a2 a3 a4 : Option Value} {b : Option Value} {x : Int32} (hc : pm_c2 a4 = false) : pm_ev pg C (ac_ist 5 :: k) (a0 :: a1 :: a2 :: a3 :: a4 :: b :: ls) (.int x :: st) h = pm_ev pg C k (a0 :: a1 :: a2 :: a3 :: a4 :: some (.int x) :: ls) st h := by
  rw [pm_ev_cons]; simp [ac_ist, pm_pI, pm_l1, pm_lg, pm_n, hc]
theorem ev_ast5 {a0 a1 a2 a3 a4 : Option Value} {b : Option Value} {x : Nat} (hc : pm_c2 a4 = false) : pm_ev pg C (ac_ast 5 :: k) (a0 :: a1 :: a2 :: a3 :: a4 :: b :: ls) (.ref x :: st) h = pm_ev pg C k (a0 :: a1 :: a2 :: a3 :: a4 :: some (.ref x) :: ls) st h := by
  rw [pm_ev_cons]; simp [ac_ast, pm_pR, pm_l1, pm_lg, pm_n, hc]
theorem ev_astn5 {a0 a1 a2 a3 a4 : Option Value} {b : Option Value} (hc : pm_c2 a4 = false) : pm_ev pg C (ac_ast 5 :: k) (a0 :: a1 :: a2 :: a3 :: a4 :: b :: ls) (.null :: st) h = pm_ev pg C k (a0 :: a1 :: a2 :: a3 :: a4 :: some .null :: ls) st h := by
  rw [pm_ev_cons]; simp [ac_ast, pm_pR, pm_l1, pm_lg, pm_n, hc]
theorem ev_lst5 {a0 a1 a2 a3 a4 : Option Value} {b b2 : Option Value} {x : Int64} (hc : pm_c2 a4 = false) : pm_ev pg C (ac_lst 5 :: k) (a0 :: a1 :: a2 :: a3 :: a4 :: b :: b2 :: ls) (.long x :: st) h = pm_ev pg C k (a0 :: a1 :: a2 :: a3 :: a4 :: some (.long x) :: none :: ls) st h := by
  rw [pm_ev_cons]; simp [ac_lst, pm_pL, pm_l2, pm_n, hc]
theorem ev_inc5 {a0 a1 a2 a3 a4 : Option Value} {n x : Int32} (hc : pm_c2 a4 = false) : pm_ev pg C (ac_inc 5 n :: k) (a0 :: a1 :: a2 :: a3 :: a4 :: some (.int x) :: ls) st h = pm_ev pg C k (a0 :: a1 :: a2 :: a3 :: a4 :: some (.int (x + n)) :: ls) st h := by
  rw [pm_ev_cons]; simp [ac_inc, pm_pI, pm_l1, pm_lg, pm_n, hc]
theorem ev_ild6 {a0 a1 a2 a3 a4 a5 : Option Value} {x : Int32} : pm_ev pg C (ac_ild 6 :: k) (a0 :: a1 :: a2 :: a3 :: a4 :: a5 :: some (.int x) :: ls) st h = pm_ev pg C k (a0 :: a1 :: a2 :: a3 :: a4 :: a5 :: some (.int x) :: ls) (.int x :: st) h := by rw [pm_ev_cons]; rfl
theorem ev_lld6 {a0 a1 a2 a3 a4 a5 : Option Value} {x : Int64} : pm_ev pg C (ac_lld 6 :: k) (a0 :: a1 :: a2 :: a3 :: a4 :: a5 :: some (.long x) :: ls) st h = pm_ev pg C k (a0 :: a1 :: a2 :: a3 :: a4 :: a5 :: some (.long x) :: ls) (.long x :: st) h := by rw [pm_ev_cons]; rfl
theorem ev_ald6 {a0 a1 a2 a3 a4 a5 : Option Value} {x : Nat} : pm_ev pg C (ac_ald 6 :: k) (a0 :: a1 :: a2 :: a3 :: a4 :: a5 :: some (.ref x) :: ls) st h = pm_ev pg C k (a0 :: a1 :: a2 :: a3 :: a4 :: a5 :: some (.ref x) :: ls) (.ref x :: st) h := by rw [pm_ev_cons]; rfl
theorem ev_aldn6 {a0 a1 a2 a3 a4 a5 : Option Value} : pm_ev pg C (ac_ald 6 :: k) (a0 :: a1 :: a2 :: a3 :: a4 :: a5 :: some .null :: ls) st h = pm_ev pg C k (a0 :: a1 :: a2 :: a3 :: a4 :: a5 :: some .null :: ls) (.null :: st) h := by rw [pm_ev_cons]; rfl
theorem ev_ist6 {a0 a1 a2 a3 a4 a5 : Option Value} {b : Option Value} {x : Int32} (hc : pm_c2 a5 = false) : pm_ev pg C (ac_ist 6 :: k) (a0 :: a1 :: a2 :: a3 :: a4 :: a5 :: b :: ls) (.int x :: st) h = pm_ev pg C k (a0 :: a1 :: a2 :: a3 :: a4 :: a5 :: some (.int x) :: ls) st h := by
  rw [pm_ev_cons]; simp [ac_ist, pm_pI, pm_l1, pm_lg, pm_n, hc]
theorem ev_ast6 {a0 a1 a2 a3 a4 a5 : Option Value} {b : Option Value} {x : Nat} (hc : pm_c2 a5 = false) : pm_ev pg C (ac_ast 6 :: k) (a0 :: a1 :: a2 :: a3 :: a4 :: a5 :: b :: ls) (.ref x :: st) h = pm_ev pg C k (a0 :: a1 :: a2 :: a3 :: a4 :: a5 :: some (.ref x) :: ls) st h := by
  rw [pm_ev_cons]; simp [ac_ast, pm_pR, pm_l1, pm_lg, pm_n, hc]
theorem ev_astn6 {a0 a1 a2 a3 a4 a5 : Option Value} {b : Option Value} (hc : pm_c2 a5 = false) : pm_ev pg C (ac_ast 6 :: k) (a0 :: a1 :: a2 :: a3 :: a4 :: a5 :: b :: ls) (.null :: st) h = pm_ev pg C k (a0 :: a1 :: a2 :: a3 :: a4 :: a5 :: some .null :: ls) st h := by
  rw [pm_ev_cons]; simp [ac_ast, pm_pR, pm_l1, pm_lg, pm_n, hc]
theorem ev_lst6 {a0 a1 a2 a3 a4 a5 : Option Value} {b b2 : Option Value} {x : Int64} (hc : pm_c2 a5 = false) : pm_ev pg C (ac_lst 6 :: k) (a0 :: a1 :: a2 :: a3 :: a4 :: a5 :: b :: b2 :: ls) (.long x :: st) h = pm_ev pg C k (a0 :: a1 :: a2 :: a3 :: a4 :: a5 :: some (.long x) :: none :: ls) st h := by
  rw [pm_ev_cons]; simp [ac_lst, pm_pL, pm_l2, pm_n, hc]
theorem ev_inc6 {a0 a1 a2 a3 a4 a5 : Option Value} {n x : Int32} (hc : pm_c2 a5 = false) : pm_ev pg C (ac_inc 6 n :: k) (a0 :: a1 :: a2 :: a3 :: a4 :: a5 :: some (.int x) :: ls) st h = pm_ev pg C k (a0 :: a1 :: a2 :: a3 :: a4 :: a5 :: some (.int (x + n)) :: ls) st h := by
  rw [pm_ev_cons]; simp [ac_inc, pm_pI, pm_l1, pm_lg, pm_n, hc]
theorem ev_ild7 {a0 a1 a2 a3 a4 a5 a6 : Option Value} {x : Int32} : pm_ev pg C (ac_ild 7 :: k) (a0 :: a1 :: a2 :: a3 :: a4 :: a5 :: a6 :: some (.int x) :: ls) st h = pm_ev pg C k (a0 :: a1 :: a2 :: a3 :: a4 :: a5 :: a6 :: some (.int x) :: ls) (.int x :: st) h := by rw [pm_ev_cons]; rfl
theorem ev_lld7 {a0 a1 a2 a3 a4 a5 a6 : Option Value} {x : Int64} : pm_ev pg C (ac_lld 7 :: k) (a0 :: a1 :: a2 :: a3 :: a4 :: a5 :: a6 :: some (.long x) :: ls) st h = pm_ev pg C k (a0 :: a1 :: a2 :: a3 :: a4 :: a5 :: a6 :: some (.long x) :: ls) (.long x :: st) h := by rw [pm_ev_cons]; rfl
theorem ev_ald7 {a0 a1 a2 a3 a4 a5 a6 : Option Value} {x : Nat} : pm_ev pg C (ac_ald 7 :: k) (a0 :: a1 :: a2 :: a3 :: a4 :: a5 :: a6 :: some (.ref x) :: ls) st h = pm_ev pg C k (a0 :: a1 :: a2 :: a3 :: a4 :: a5 :: a6 :: some (.ref x) :: ls) (.ref x :: st) h := by rw [pm_ev_cons]; rfl
theorem ev_aldn7 {a0 a1 a2 a3 a4 a5 a6 : Option Value} : pm_ev pg C (ac_ald 7 :: k) (a0 :: a1 :: a2 :: a3 :: a4 :: a5 :: a6 :: some .null :: ls) st h = pm_ev pg C k (a0 :: a1 :: a2 :: a3 :: a4 :: a5 :: a6 :: some .null :: ls) (.null :: st) h := by rw [pm_ev_cons]; rfl
theorem ev_ist7 {a0 a1 a2 a3 a4 a5 a6 : Option Value} {b : Option Value} {x : Int32} (hc : pm_c2 a6 = false) : pm_ev pg C (ac_ist 7 :: k) (a0 :: a1 :: a2 :: a3 :: a4 :: a5 :: a6 :: b :: ls) (.int x :: st) h = pm_ev pg C k (a0 :: a1 :: a2 :: a3 :: a4 :: a5 :: a6 :: some (.int x) :: ls) st h := by
  rw [pm_ev_cons]; simp [ac_ist, pm_pI, pm_l1, pm_lg, pm_n, hc]
theorem ev_ast7 {a0 a1 a2 a3 a4 a5 a6 : Option Value} {b : Option Value} {x : Nat} (hc : pm_c2 a6 = false) : pm_ev pg C (ac_ast 7 :: k) (a0 :: a1 :: a2 :: a3 :: a4 :: a5 :: a6 :: b :: ls) (.ref x :: st) h = pm_ev pg C k (a0 :: a1 :: a2 :: a3 :: a4 :: a5 :: a6 :: some (.ref x) :: ls) st h := by
  rw [pm_ev_cons]; simp [ac_ast, pm_pR, pm_l1, pm_lg, pm_n, hc]
theorem ev_astn7 {a0 a1 a2 a3 a4 a5 a6 : Option Value} {b : Option Value} (hc : pm_c2 a6 = false) : pm_ev pg C (ac_ast 7 :: k) (a0 :: a1 :: a2 :: a3 :: a4 :: a5 :: a6 :: b :: ls) (.null :: st) h = pm_ev pg C k (a0 :: a1 :: a2 :: a3 :: a4 :: a5 :: a6 :: some .null :: ls) st h := by
  rw [pm_ev_cons]; simp [ac_ast, pm_pR, pm_l1, pm_lg, pm_n, hc]
theorem ev_lst7 {a0 a1 a2 a3 a4 a5 a6 : Option Value} {b b2 : Option Value} {x : Int64} (hc : pm_c2 a6 = false) : pm_ev pg C (ac_lst 7 :: k) (a0 :: a1 :: a2 :: a3 :: a4 :: a5 :: a6 :: b :: b2 :: ls) (.long x :: st) h = pm_ev pg C k (a0 :: a1 :: a2 :: a3 :: a4 :: a5 :: a6 :: some (.long x) :: none :: ls) st h := by
  rw [pm_ev_cons]; simp [ac_lst, pm_pL, pm_l2, pm_n, hc]
theorem ev_inc7 {a0 a1 a2 a3 a4 a5 a6 : Option Value} {n x : Int32} (hc : pm_c2 a6 = false) : pm_ev pg C (ac_inc 7 n :: k) (a0 :: a1 :: a2 :: a3 :: a4 :: a5 :: a6 :: some (.int x) :: ls) st h = pm_ev pg C k (a0 :: a1 :: a2 :: a3 :: a4 :: a5 :: a6 :: some (.int (x + n)) :: ls) st h := by
  rw [pm_ev_cons]; simp [ac_inc, pm_pI, pm_l1, pm_lg, pm_n, hc]
theorem ev_ild8 {a0 a1 a2 a3 a4 a5 a6 a7 : Option Value} {x : Int32} : pm_ev pg C (ac_ild 8 :: k) (a0 :: a1 :: a2 :: a3 :: a4 :: a5 :: a6 :: a7 :: some (.int x) :: ls) st h = pm_ev pg C k (a0 :: a1 :: a2 :: a3 :: a4 :: a5 :: a6 :: a7 :: some (.int x) :: ls) (.int x :: st) h := by rw [pm_ev_cons]; rfl
theorem ev_lld8 {a0 a1 a2 a3 a4 a5 a6 a7 : Option Value} {x : Int64} : pm_ev pg C (ac_lld 8 :: k) (a0 :: a1 :: a2 :: a3 :: a4 :: a5 :: a6 :: a7 :: some (.long x) :: ls) st h = pm_ev pg C k (a0 :: a1 :: a2 :: a3 :: a4 :: a5 :: a6 :: a7 :: some (.long x) :: ls) (.long x :: st) h := by rw [pm_ev_cons]; rfl
theorem ev_ald8 {a0 a1 a2 a3 a4 a5 a6 a7 : Option Value} {x : Nat} : pm_ev pg C (ac_ald 8 :: k) (a0 :: a1 :: a2 :: a3 :: a4 :: a5 :: a6 :: a7 :: some (.ref x) :: ls) st h = pm_ev pg C k (a0 :: a1 :: a2 :: a3 :: a4 :: a5 :: a6 :: a7 :: some (.ref x) :: ls) (.ref x :: st) h := by rw [pm_ev_cons]; rfl
theorem ev_aldn8 {a0 a1 a2 a3 a4 a5 a6 a7 : Option Value} : pm_ev pg C (ac_ald 8 :: k) (a0 :: a1 :: a2 :: a3 :: a4 :: a5 :: a6 :: a7 :: some .null :: ls) st h = pm_ev pg C k (a0 :: a1 :: a2 :: a3 :: a4 :: a5 :: a6 :: a7 :: some .null :: ls) (.null :: st) h := by rw [pm_ev_cons]; rfl
theorem ev_ist8 {a0 a1 a2 a3 a4 a5 a6 a7 : Option Value} {b : Option Value} {x : Int32} (hc : pm_c2 a7 = false) : pm_ev pg C (ac_ist 8 :: k) (a0 :: a1 :: a2 :: a3 :: a4 :: a5 :: a6 :: a7 :: b :: ls) (.int x :: st) h = pm_ev pg C k (a0 :: a1 :: a2 :: a3 :: a4 :: a5 :: a6 :: a7 :: some (.int x) :: ls) st h := by
  rw [pm_ev_cons]; simp [ac_ist, pm_pI, pm_l1, pm_lg, pm_n, hc]
theorem ev_ast8 {a0 a1 a2 a3 a4 a5 a6 a7 : Option Value} {b : Option Value} {x : Nat} (hc : pm_c2 a7 = false) : pm_ev pg C (ac_ast 8 :: k) (a0 :: a1 :: a2 :: a3 :: a4 :: a5 :: a6 :: a7 :: b :: ls) (.ref x :: st) h = pm_ev pg C k (a0 :: a1 :: a2 :: a3 :: a4 :: a5 :: a6 :: a7 :: some (.ref x) :: ls) st h := by
  rw [pm_ev_cons]; simp [ac_ast, pm_pR, pm_l1, pm_lg, pm_n, hc]
theorem ev_astn8 {a0 a1 a2 a3 a4 a5 a6 a7 : Option Value} {b : Option Value} (hc : pm_c2 a7 = false) : pm_ev pg C (ac_ast 8 :: k) (a0 :: a1 :: a2 :: a3 :: a4 :: a5 :: a6 :: a7 :: b :: ls) (.null :: st) h = pm_ev pg C k (a0 :: a1 :: a2 :: a3 :: a4 :: a5 :: a6 :: a7 :: some .null :: ls) st h := by
  rw [pm_ev_cons]; simp [ac_ast, pm_pR, pm_l1, pm_lg, pm_n, hc]
theorem ev_lst8 {a0 a1 a2 a3 a4 a5 a6 a7 : Option Value} {b b2 : Option Value} {x : Int64} (hc : pm_c2 a7 = false) : pm_ev pg C (ac_lst 8 :: k) (a0 :: a1 :: a2 :: a3 :: a4 :: a5 :: a6 :: a7 :: b :: b2 :: ls) (.long x :: st) h = pm_ev pg C k (a0 :: a1 :: a2 :: a3 :: a4 :: a5 :: a6 :: a7 :: some (.long x) :: none :: ls) st h := by
  rw [pm_ev_cons]; simp [ac_lst, pm_pL, pm_l2, pm_n, hc]
theorem ev_inc8 {a0 a1 a2 a3 a4 a5 a6 a7 : Option Value} {n x : Int32} (hc : pm_c2 a7 = false) : pm_ev pg C (ac_inc 8 n :: k) (a0 :: a1 :: a2 :: a3 :: a4 :: a5 :: a6 :: a7 :: some (.int x) :: ls) st h = pm_ev pg C k (a0 :: a1 :: a2 :: a3 :: a4 :: a5 :: a6 :: a7 :: some (.int (x + n)) :: ls) st h := by
  rw [pm_ev_cons]; simp [ac_inc, pm_pI, pm_l1, pm_lg, pm_n, hc]
theorem ev_ild9 {a0 a1 a2 a3 a4 a5 a6 a7 a8 : Option Value} {x : Int32} : pm_ev pg C (ac_ild 9 :: k) (a0 :: a1 :: a2 :: a3 :: a4 :: a5 :: a6 :: a7 :: a8 :: some (.int x) :: ls) st h = pm_ev pg C k (a0 :: a1 :: a2 :: a3 :: a4 :: a5 :: a6 :: a7 :: a8 :: some (.int x) :: ls) (.int x :: st) h := by rw [pm_ev_cons]; rfl
theorem ev_lld9 {a0 a1 a2 a3 a4 a5 a6 a7 a8 : Option Value} {x : Int64} : pm_ev pg C (ac_lld 9 :: k) (a0 :: a1 :: a2 :: a3 :: a4 :: a5 :: a6 :: a7 :: a8 :: some (.long x) :: ls) st h = pm_ev pg C k (a0 :: a1 :: a2 :: a3 :: a4 :: a5 :: a6 :: a7 :: a8 :: some (.long x) :: ls) (.long x :: st) h := by rw [pm_ev_cons]; rfl
theorem ev_ald9 {a0 a1 a2 a3 a4 a5 a6 a7 a8 : Option Value} {x : Nat} : pm_ev pg C (ac_ald 9 :: k) (a0 :: a1 :: a2 :: a3 :: a4 :: a5 :: a6 :: a7 :: a8 :: some (.ref x) :: ls) st h = pm_ev pg C k (a0 :: a1 :: a2 :: a3 :: a4 :: a5 :: a6 :: a7 :: a8 :: some (.ref x) :: ls) (.ref x :: st) h := by rw [pm_ev_cons]; rfl
theorem ev_aldn9 {a0 a1 a2 a3 a4 a5 a6 a7 a8 : Option Value} : pm_ev pg C (ac_ald 9 :: k) (a0 :: a1 :: a2 :: a3 :: a4 :: a5 :: a6 :: a7 :: a8 :: some .null :: ls) st h = pm_ev pg C k (a0 :: a1 :: a2 :: a3 :: a4 :: a5 :: a6 :: a7 :: a8 :: some .null :: ls) (.null :: st) h := by rw [pm_ev_cons]; rfl
theorem ev_ist9 {a0 a1 a2 a3 a4 a5 a6 a7 a8 : Option Value} {b : Option Value} {x : Int32} (hc : pm_c2 a8 = false) : pm_ev pg C (ac_ist 9 :: k) (a0 :: a1 :: a2 :: a3 :: a4 :: a5 :: a6 :: a7 :: a8 :: b :: ls) (.int x :: st) h = pm_ev pg C k (a0 :: a1 :: a2 :: a3 :: a4 :: a5 :: a6 :: a7 :: a8 :: some (.int x) :: ls) st h := by
  rw [pm_ev_cons]; simp [ac_ist, pm_pI, pm_l1, pm_lg, pm_n, hc]
theorem ev_ast9 {a0 a1 a2 a3 a4 a5 a6 a7 a8 : Option Value} {b : Option Value} {x : Nat} (hc : pm_c2 a8 = false) : pm_ev pg C (ac_ast 9 :: k) (a0 :: a1 :: a2 :: a3 :: a4 :: a5 :: a6 :: a7 :: a8 :: b :: ls) (.ref x :: st) h = pm_ev pg C k (a0 :: a1 :: a2 :: a3 :: a4 :: a5 :: a6 :: a7 :: a8 :: some (.ref x) :: ls) st h := by
  rw [pm_ev_cons]; simp [ac_ast, pm_pR, pm_l1, pm_lg, pm_n, hc]
theorem ev_astn9 {a0 a1 a2 a3 a4 a5 a6 a7 a8 : Option Value} {b : Option Value} (hc : pm_c2 a8 = false) : pm_ev pg C (ac_ast 9 :: k) (a0 :: a1 :: a2 :: a3 :: a4 :: a5 :: a6 :: a7 :: a8 :: b :: ls) (.null :: st) h = pm_ev pg C k (a0 :: a1 :: a2 :: a3 :: a4 :: a5 :: a6 :: a7 :: a8 :: some .null :: ls) st h := by
  rw [pm_ev_cons]; simp [ac_ast, pm_pR, pm_l1, pm_lg, pm_n, hc]
theorem ev_lst9 {a0 a1 a2 a3 a4 a5 a6 a7 a8 : Option Value} {b b2 : Option Value} {x : Int64} (hc : pm_c2 a8 = false) : pm_ev pg C (ac_lst 9 :: k) (a0 :: a1 :: a2 :: a3 :: a4 :: a5 :: a6 :: a7 :: a8 :: b :: b2 :: ls) (.long x :: st) h = pm_ev pg C k (a0 :: a1 :: a2 :: a3 :: a4 :: a5 :: a6 :: a7 :: a8 :: some (.long x) :: none :: ls) st h := by
  rw [pm_ev_cons]; simp [ac_lst, pm_pL, pm_l2, pm_n, hc]
theorem ev_inc9 {a0 a1 a2 a3 a4 a5 a6 a7 a8 : Option Value} {n x : Int32} (hc : pm_c2 a8 = false) : pm_ev pg C (ac_inc 9 n :: k) (a0 :: a1 :: a2 :: a3 :: a4 :: a5 :: a6 :: a7 :: a8 :: some (.int x) :: ls) st h = pm_ev pg C k (a0 :: a1 :: a2 :: a3 :: a4 :: a5 :: a6 :: a7 :: a8 :: some (.int (x + n)) :: ls) st h := by
  rw [pm_ev_cons]; simp [ac_inc, pm_pI, pm_l1, pm_lg, pm_n, hc]
theorem ev_ild10 {a0 a1 a2 a3 a4 a5 a6 a7 a8 a9 : Option Value} {x : Int32} : pm_ev pg C (ac_ild 10 :: k) (a0 :: a1 :: a2 :: a3 :: a4 :: a5 :: a6 :: a7 :: a8 :: a9 :: some (.int x) :: ls) st h = pm_ev pg C k (a0 :: a1 :: a2 :: a3 :: a4 :: a5 :: a6 :: a7 :: a8 :: a9 :: some (.int x) :: ls) (.int x :: st) h := by rw [pm_ev_cons]; rfl
theorem ev_lld10 {a0 a1 a2 a3 a4 a5 a6 a7 a8 a9 : Option Value} {x : Int64} : pm_ev pg C (ac_lld 10 :: k) (a0 :: a1 :: a2 :: a3 :: a4 :: a5 :: a6 :: a7 :: a8 :: a9 :: some (.long x) :: ls) st h = pm_ev pg C k (a0 :: a1 :: a2 :: a3 :: a4 :: a5 :: a6 :: a7 :: a8 :: a9 :: some (.long x) :: ls) (.long x :: st) h := by rw [pm_ev_cons]; rfl
theorem ev_ald10 {a0 a1 a2 a3 a4 a5 a6 a7 a8 a9 : Option Value} {x : Nat} : pm_ev pg C (ac_ald 10 :: k) (a0 :: a1 :: a2 :: a3 :: a4 :: a5 :: a6 :: a7 :: a8 :: a9 :: some (.ref x) :: ls) st h = pm_ev pg C k (a0 :: a1 :: a2 :: a3 :: a4 :: a5 :: a6 :: a7 :: a8 :: a9 :: some (.ref x) :: ls) (.ref x :: st) h := by rw [pm_ev_cons]; rfl
theorem ev_aldn10 {a0 a1 a2 a3 a4 a5 a6 a7 a8 a9 : Option Value} : pm_ev pg C (ac_ald 10 :: k) (a0 :: a1 :: a2 :: a3 :: a4 :: a5 :: a6 :: a7 :: a8 :: a9 :: some .null :: ls) st h = pm_ev pg C k (a0 :: a1 :: a2 :: a3 :: a4 :: a5 :: a6 :: a7 :: a8 :: a9 :: some .null :: ls) (.null :: st) h := by rw [pm_ev_cons]; rfl
theorem ev_ist10 {a0 a1 a2 a3 a4 a5 a6 a7 a8 a9 : Option Value} {b : Option Value} {x : Int32} (hc : pm_c2 a9 = false) : pm_ev pg C (ac_ist 10 :: k) (a0 :: a1 :: a2 :: a3 :: a4 :: a5 :: a6 :: a7 :: a8 :: a9 :: b :: ls) (.int x :: st) h = pm_ev pg C k (a0 :: a1 :: a2 :: a3 :: a4 :: a5 :: a6 :: a7 :: a8 :: a9 :: some (.int x) :: ls) st h := by
  rw [pm_ev_cons]; simp [ac_ist, pm_pI, pm_l1, pm_lg, pm_n, hc]
theorem ev_ast10 {a0 a1 a2 a3 a4 a5 a6 a7 a8 a9 : Option Value} {b : Option Value} {x : Nat} (hc : pm_c2 a9 = false) : pm_ev pg C (ac_ast 10 :: k) (a0 :: a1 :: a2 :: a3 :: a4 :: a5 :: a6 :: a7 :: a8 :: a9 :: b :: ls) (.ref x :: st) h = pm_ev pg C k (a0 :: a1 :: a2 :: a3 :: a4 :: a5 :: a6 :: a7 :: a8 :: a9 :: some (.ref x) :: ls) st h := by
  rw [pm_ev_cons]; simp [ac_ast, pm_pR, pm_l1, pm_lg, pm_n, hc]
theorem ev_astn10 {a0 a1 a2 a3 a4 a5 a6 a7 a8 a9 : Option Value} {b : Option Value} (hc : pm_c2 a9 = false) : pm_ev pg C (ac_ast 10 :: k) (a0 :: a1 :: a2 :: a3 :: a4 :: a5 :: a6 :: a7 :: a8 :: a9 :: b :: ls) (.null :: st) h = pm_ev pg C k (a0 :: a1 :: a2 :: a3 :: a4 :: a5 :: a6 :: a7 :: a8 :: a9 :: some .null :: ls) st h := by
  rw [pm_ev_cons]; simp [ac_ast, pm_pR, pm_l1, pm_lg, pm_n, hc]
theorem ev_lst10 {a0 a1 a2 a3 a4 a5 a6 a7 a8 a9 : Option Value} {b b2 : Option Value} {x : Int64} (hc : pm_c2 a9 = false) : pm_ev pg C (ac_lst 10 :: k) (a0 :: a1 :: a2 :: a3 :: a4 :: a5 :: a6 :: a7 :: a8 :: a9 :: b :: b2 :: ls) (.long x :: st) h = pm_ev pg C k (a0 :: a1 :: a2 :: a3 :: a4 :: a5 :: a6 :: a7 :: a8 :: a9 :: some (.long x) :: none :: ls) st h := by
  rw [pm_ev_cons]; simp [ac_lst, pm_pL, pm_l2, pm_n, hc]
theorem ev_inc10 {a0 a1 a2 a3 a4 a5 a6 a7 a8 a9 : Option Value} {n x : Int32} (hc : pm_c2 a9 = false) : pm_ev pg C (ac_inc 10 n :: k) (a0 :: a1 :: a2 :: a3 :: a4 :: a5 :: a6 :: a7 :: a8 :: a9 :: some (.int x) :: ls) st h = pm_ev pg C k (a0 :: a1 :: a2 :: a3 :: a4 :: a5 :: a6 :: a7 :: a8 :: a9 :: some (.int (x + n)) :: ls) st h := by
  rw [pm_ev_cons]; simp [ac_inc, pm_pI, pm_l1, pm_lg, pm_n, hc]
theorem ev_ild11 {a0 a1 a2 a3 a4 a5 a6 a7 a8 a9 a10 : Option Value} {x : Int32} : pm_ev pg C (ac_ild 11 :: k) (a0 :: a1 :: a2 :: a3 :: a4 :: a5 :: a6 :: a7 :: a8 :: a9 :: a10 :: some (.int x) :: ls) st h = pm_ev pg C k (a0 :: a1 :: a2 :: a3 :: a4 :: a5 :: a6 :: a7 :: a8 :: a9 :: a10 :: some (.int x) :: ls) (.int x :: st) h := by rw [pm_ev_cons]; rfl
theorem ev_lld11 {a0 a1 a2 a3 a4 a5 a6 a7 a8 a9 a10 : Option Value} {x : Int64} : pm_ev pg C (ac_lld 11 :: k) (a0 :: a1 :: a2 :: a3 :: a4 :: a5 :: a6 :: a7 :: a8 :: a9 :: a10 :: some (.long x) :: ls) st h = pm_ev pg C k (a0 :: a1 :: a2 :: a3 :: a4 :: a5 :: a6 :: a7 :: a8 :: a9 :: a10 :: some (.long x) :: ls) (.long x :: st) h := by rw [pm_ev_cons]; rfl
theorem ev_ald11 {a0 a1 a2 a3 a4 a5 a6 a7 a8 a9 a10 : Option Value} {x : Nat} : pm_ev pg C (ac_ald 11 :: k) (a0 :: a1 :: a2 :: a3 :: a4 :: a5 :: a6 :: a7 :: a8 :: a9 :: a10 :: some (.ref x) :: ls) st h = pm_ev pg C k (a0 :: a1 :: a2 :: a3 :: a4 :: a5 :: a6 :: a7 :: a8 :: a9 :: a10 :: some (.ref x) :: ls) (.ref x :: st) h := by rw [pm_ev_cons]; rfl
theorem ev_aldn11 {a0 a1 a2 a3 a4 a5 a6 a7 a8 a9 a10 : Option Value} : pm_ev pg C (ac_ald 11 :: k) (a0 :: a1 :: a2 :: a3 :: a4 :: a5 :: a6 :: a7 :: a8 :: a9 :: a10 :: some .null :: ls) st h = pm_ev pg C k (a0 :: a1 :: a2 :: a3 :: a4 :: a5 :: a6 :: a7 :: a8 :: a9 :: a10 :: some .null :: ls) (.null :: st) h := by rw [pm_ev_cons]; rfl
theorem ev_ist11 {a0 a1 a2 a3 a4 a5 a6 a7 a8 a9 a10 : Option Value} {b : Option Value} {x : Int32} (hc : pm_c2 a10 = false) : pm_ev pg C (ac_ist 11 :: k) (a0 :: a1 :: a2 :: a3 :: a4 :: a5 :: a6 :: a7 :: a8 :: a9 :: a10 :: b :: ls) (.int x :: st) h = pm_ev pg C k (a0 :: a1 :: a2 :: a3 :: a4 :: a5 :: a6 :: a7 :: a8 :: a9 :: a10 :: some (.int x) :: ls) st h := by
  rw [pm_ev_cons]; simp [ac_ist, pm_pI, pm_l1, pm_lg, pm_n, hc]
theorem ev_ast11 {a0 a1 a2 a3 a4 a5 a6 a7 a8 a9 a10 : Option Value} {b : Option Value} {x : Nat} (hc : pm_c2 a10 = false) : pm_ev pg C (ac_ast 11 :: k) (a0 :: a1 :: a2 :: a3 :: a4 :: a5 :: a6 :: a7 :: a8 :: a9 :: a10 :: b :: ls) (.ref x :: st) h = pm_ev pg C k (a0 :: a1 :: a2 :: a3 :: a4 :: a5 :: a6 :: a7 :: a8 :: a9 :: a10 :: some (.ref x) :: ls) st h := by
  rw [pm_ev_cons]; simp [ac_ast, pm_pR, pm_l1, pm_lg, pm_n, hc]
theorem ev_astn11 {a0 a1 a2 a3 a4 a5 a6 a7 a8 a9 a10 : Option Value} {b : Option Value} (hc : pm_c2 a10 = false) : pm_ev pg C (ac_ast 11 :: k) (a0 :: a1 :: a2 :: a3 :: a4 :: a5 :: a6 :: a7 :: a8 :: a9 :: a10 :: b :: ls) (.null :: st) h = pm_ev pg C k (a0 :: a1 :: a2 :: a3 :: a4 :: a5 :: a6 :: a7 :: a8 :: a9 :: a10 :: some .null :: ls) st h := by
  rw [pm_ev_cons]; simp [ac_ast, pm_pR, pm_l1, pm_lg, pm_n, hc]
theorem ev_lst11 {a0 a1 a2 a3 a4 a5 a6 a7 a8 a9 a10 : Option Value} {b b2 : Option Value} {x : Int64} (hc : pm_c2 a10 = false) : pm_ev pg C (ac_lst 11 :: k) (a0 :: a1 :: a2 :: a3 :: a4 :: a5 :: a6 :: a7 :: a8 :: a9 :: a10 :: b :: b2 :: ls) (.long x :: st) h = pm_ev pg C k (a0 :: a1 :: a2 :: a3 :: a4 :: a5 :: a6 :: a7 :: a8 :: a9 :: a10 :: some (.long x) :: none :: ls) st h := by
  rw [pm_ev_cons]; simp [ac_lst, pm_pL, pm_l2, pm_n, hc]
theorem ev_inc11 {a0 a1 a2 a3 a4 a5 a6 a7 a8 a9 a10 : Option Value} {n x : Int32} (hc : pm_c2 a10 = false) : pm_ev pg C (ac_inc 11 n :: k) (a0 :: a1 :: a2 :: a3 :: a4 :: a5 :: a6 :: a7 :: a8 :: a9 :: a10 :: some (.int x) :: ls) st h = pm_ev pg C k (a0 :: a1 :: a2 :: a3 :: a4 :: a5 :: a6 :: a7 :: a8 :: a9 :: a10 :: some (.int (x + n)) :: ls) st h := by
  rw [pm_ev_cons]; simp [ac_inc, pm_pI, pm_l1, pm_lg, pm_n, hc]
theorem ev_ild12 {a0 a1 a2 a3 a4 a5 a6 a7 a8 a9 a10 a11 : Option Value} {x : Int32} : pm_ev pg C (ac_ild 12 :: k) (a0 :: a1 :: a2 :: a3 :: a4 :: a5 :: a6 :: a7 :: a8 :: a9 :: a10 :: a11 :: some (.int x) :: ls) st h = pm_ev pg C k (a0 :: a1 :: a2 :: a3 :: a4 :: a5 :: a6 :: a7 :: a8 :: a9 :: a10 :: a11 :: some (.int x) :: ls) (.int x :: st) h := by rw [pm_ev_cons]; rfl
theorem ev_lld12 {a0 a1 a2 a3 a4 a5 a6 a7 a8 a9 a10 a11 : Option Value} {x : Int64} : pm_ev pg C (ac_lld 12 :: k) (a0 :: a1 :: a2 :: a3 :: a4 :: a5 :: a6 :: a7 :: a8 :: a9 :: a10 :: a11 :: some (.long x) :: ls) st h = pm_ev pg C k (a0 :: a1 :: a2 :: a3 :: a4 :: a5 :: a6 :: a7 :: a8 :: a9 :: a10 :: a11 :: some (.long x) :: ls) (.long x :: st) h := by rw [pm_ev_cons]; rfl
theorem ev_ald12 {a0 a1 a2 a3 a4 a5 a6 a7 a8 a9 a10 a11 : Option Value} {x : Nat} : pm_ev pg C (ac_ald 12 :: k) (a0 :: a1 :: a2 :: a3 :: a4 :: a5 :: a6 :: a7 :: a8 :: a9 :: a10 :: a11 :: some (.ref x) :: ls) st h = pm_ev pg C k (a0 :: a1 :: a2 :: a3 :: a4 :: a5 :: a6 :: a7 :: a8 :: a9 :: a10 :: a11 :: some (.ref x) :: ls) (.ref x :: st) h := by rw [pm_ev_cons]; rfl
theorem ev_aldn12 {a0 a1 a2 a3 a4 a5 a6 a7 a8 a9 a10 a11 : Option Value} : pm_ev pg C (ac_ald 12 :: k) (a0 :: a1 :: a2 :: a3 :: a4 :: a5 :: a6 :: a7 :: a8 :: a9 :: a10 :: a11 :: some .null :: ls) st h = pm_ev pg C k (a0 :: a1 :: a2 :: a3 :: a4 :: a5 :: a6 :: a7 :: a8 :: a9 :: a10 :: a11 :: some .null :: ls) (.null :: st) h := by rw [pm_ev_cons]; rfl
theorem ev_ist12 {a0 a1 a2 a3 a4 a5 a6 a7 a8 a9 a10 a11 : Option Value} {b : Option Value} {x : Int32} (hc : pm_c2 a11 = false) : pm_ev pg C (ac_ist 12 :: k) (a0 :: a1 :: a2 :: a3 :: a4 :: a5 :: a6 :: a7 :: a8 :: a9 :: a10 :: a11 :: b :: ls) (.int x :: st) h = pm_ev pg C k (a0 :: a1 :: a2 :: a3 :: a4 :: a5 :: a6 :: a7 :: a8 :: a9 :: a10 :: a11 :: some (.int x) :: ls) st h := by
  rw [pm_ev_cons]; simp [ac_ist, pm_pI, pm_l1, pm_lg, pm_n, hc]
theorem ev_ast12 {a0 a1 a2 a3 a4 a5 a6 a7 a8 a9 a10 a11 : Option Value} {b : Option Value} {x : Nat} (hc : pm_c2 a11 = false) : pm_ev pg C (ac_ast 12 :: k) (a0 :: a1 :: a2 :: a3 :: a4 :: a5 :: a6 :: a7 :: a8 :: a9 :: a10 :: a11 :: b :: ls) (.ref x :: st) h = pm_ev pg C k (a0 :: a1 :: a2 :: a3 :: a4 :: a5 :: a6 :: a7 :: a8 :: a9 :: a10 :: a11 :: some (.ref x) :: ls) st h := by
  rw [pm_ev_cons]; simp [ac_ast, pm_pR, pm_l1, pm_lg, pm_n, hc]
theorem ev_astn12 {a0 a1 a2 a3 a4 a5 a6 a7 a8 a9 a10 a11 : Option Value} {b : Option Value} (hc : pm_c2 a11 = false) : pm_ev pg C (ac_ast 12 :: k) (a0 :: a1 :: a2 :: a3 :: a4 :: a5 :: a6 :: a7 :: a8 :: a9 :: a10 :: a11 :: b :: ls) (.null :: st) h = pm_ev pg C k (a0 :: a1 :: a2 :: a3 :: a4 :: a5 :: a6 :: a7 :: a8 :: a9 :: a10 :: a11 :: some .null :: ls) st h := by
  rw [pm_ev_cons]; simp [ac_ast, pm_pR, pm_l1, pm_lg, pm_n, hc]
theorem ev_lst12 {a0 a1 a2 a3 a4 a5 a6 a7 a8 a9 a10 a11 : Option Value} {b b2 : Option Value} {x : Int64} (hc : pm_c2 a11 = false) : pm_ev pg C (ac_lst 12 :: k) (a0 :: a1 :: a2 :: a3 :: a4 :: a5 :: a6 :: a7 :: a8 :: a9 :: a10 :: a11 :: b :: b2 :: ls) (.long x :: st) h = pm_ev pg C k (a0 :: a1 :: a2 :: a3 :: a4 :: a5 :: a6 :: a7 :: a8 :: a9 :: a10 :: a11 :: some (.long x) :: none :: ls) st h := by
  rw [pm_ev_cons]; simp [ac_lst, pm_pL, pm_l2, pm_n, hc]
theorem ev_inc12 {a0 a1 a2 a3 a4 a5 a6 a7 a8 a9 a10 a11 : Option Value} {n x : Int32} (hc : pm_c2 a11 = false) : pm_ev pg C (ac_inc 12 n :: k) (a0 :: a1 :: a2 :: a3 :: a4 :: a5 :: a6 :: a7 :: a8 :: a9 :: a10 :: a11 :: some (.int x) :: ls) st h = pm_ev pg C k (a0 :: a1 :: a2 :: a3 :: a4 :: a5 :: a6 :: a7 :: a8 :: a9 :: a10 :: a11 :: some (.int (x + n)) :: ls) st h := by
  rw [pm_ev_cons]; simp [ac_inc, pm_pI, pm_l1, pm_lg, pm_n, hc]
theorem ev_ild13 {a0 a1 a2 a3 a4 a5 a6 a7 a8 a9 a10 a11 a12 : Option Value} {x : Int32} : pm_ev pg C (ac_ild 13 :: k) (a0 :: a1 :: a2 :: a3 :: a4 :: a5 :: a6 :: a7 :: a8 :: a9 :: a10 :: a11 :: a12 :: some (.int x) :: ls) st h = pm_ev pg C k (a0 :: a1 :: a2 :: a3 :: a4 :: a5 :: a6 :: a7 :: a8 :: a9 :: a10 :: a11 :: a12 :: some (.int x) :: ls) (.int x :: st) h := by rw [pm_ev_cons]; rfl
theorem ev_lld13 {a0 a1 a2 a3 a4 a5 a6 a7 a8 a9 a10 a11 a12 : Option Value} {x : Int64} : pm_ev pg C (ac_lld 13 :: k) (a0 :: a1 :: a2 :: a3 :: a4 :: a5 :: a6 :: a7 :: a8 :: a9 :: a10 :: a11 :: a12 :: some (.long x) :: ls) st h = pm_ev pg C k (a0 :: a1 :: a2 :: a3 :: a4 :: a5 :: a6 :: a7 :: a8 :: a9 :: a10 :: a11 :: a12 :: some (.long x) :: ls) (.long x :: st) h := by rw [pm_ev_cons]; rfl
theorem ev_ald13 {a0 a1 a2 a3 a4 a5 a6 a7 a8 a9 a10 a11 a12 : Option Value} {x : Nat} : pm_ev pg C (ac_ald 13 :: k) (a0 :: a1 :: a2 :: a3 :: a4 :: a5 :: a6 :: a7 :: a8 :: a9 :: a10 :: a11 :: a12 :: some (.ref x) :: ls) st h = pm_ev pg C k (a0 :: a1 :: a2 :: a3 :: a4 :: a5 :: a6 :: a7 :: a8 :: a9 :: a10 :: a11 :: a12 :: some (.ref x) :: ls) (.ref x :: st) h := by rw [pm_ev_cons]; rfl
theorem ev_aldn13 {a0 a1 a2 a3 a4 a5 a6 a7 a8 a9 a10 a11 a12 : Option Value} : pm_ev pg C (ac_ald 13 :: k) (a0 :: a1 :: a2 :: a3 :: a4 :: a5 :: a6 :: a7 :: a8 :: a9 :: a10 :: a11 :: a12 :: some .null :: ls) st h = pm_ev pg C k (a0 :: a1 :: a2 :: a3 :: a4 :: a5 :: a6 :: a7 :: a8 :: a9 :: a10 :: a11 :: a12 :: some .null :: ls) (.null :: st) h := by rw [pm_ev_cons]; rfl
theorem ev_ist13 {a0 a1 a2 a3 a4 a5 a6 a7 a8 a9 a10 a11 a12 : Option Value} {b : Option Value} {x : Int32} (hc : pm_c2 a12 = false) : pm_ev pg C (ac_ist 13 :: k) (a0 :: a1 :: a2 :: a3 :: a4 :: a5 :: a6 :: a7 :: a8 :: a9 :: a10 :: a11 :: a12 :: b :: ls) (.int x :: st) h = pm_ev pg C k (a0 :: a1 :: a2 :: a3 :: a4 :: a5 :: a6 :: a7 :: a8 :: a9 :: a10 :: a11 :: a12 :: some (.int x) :: ls) st h := by
  rw [pm_ev_cons]; simp [ac_ist, pm_pI, pm_l1, pm_lg, pm_n, hc]
theorem ev_ast13 {a0 a1 a2 a3 a4 a5 a6 a7 a8 a9 a10 a11 a12 : Option Value} {b : Option Value} {x : Nat} (hc : pm_c2 a12 = false) : pm_ev pg C (ac_ast 13 :: k) (a0 :: a1 :: a2 :: a3 :: a4 :: a5 :: a6 :: a7 :: a8 :: a9 :: a10 :: a11 :: a12 :: b :: ls) (.ref x :: st) h = pm_ev pg C k (a0 :: a1 :: a2 :: a3 :: a4 :: a5 :: a6 :: a7 :: a8 :: a9 :: a10 :: a11 :: a12 :: some (.ref x) :: ls) st h := by
  rw [pm_ev_cons]; simp [ac_ast, pm_pR, pm_l1, pm_lg, pm_n, hc]
theorem ev_astn13 {a0 a1 a2 a3 a4 a5 a6 a7 a8 a9 a10 a11 a12 : Option Value} {b : Option Value} (hc : pm_c2 a12 = false) : pm_ev pg C (ac_ast 13 :: k) (a0 :: a1 :: a2 :: a3 :: a4 :: a5 :: a6 :: a7 :: a8 :: a9 :: a10 :: a11 :: a12 :: b :: ls) (.null :: st) h = pm_ev pg C k (a0 :: a1 :: a2 :: a3 :: a4 :: a5 :: a6 :: a7 :: a8 :: a9 :: a10 :: a11 :: a12 :: some .null :: ls) st h := by
  rw [pm_ev_cons]; simp [ac_ast, pm_pR, pm_l1, pm_lg, pm_n, hc]
theorem ev_lst13 {a0 a1 a2 a3 a4 a5 a6 a7 a8 a9 a10 a11 a12 : Option Value} {b b2 : Option Value} {x : Int64} (hc : pm_c2 a12 = false) : pm_ev pg C (ac_lst 13 :: k) (a0 :: a1 :: a2 :: a3 :: a4 :: a5 :: a6 :: a7 :: a8 :: a9 :: a10 :: a11 :: a12 :: b :: b2 :: ls) (.long x :: st) h = pm_ev pg C k (a0 :: a1 :: a2 :: a3 :: a4 :: a5 :: a6 :: a7 :: a8 :: a9 :: a10 :: a11 :: a12 :: some (.long x) :: none :: ls) st h := by
  rw [pm_ev_cons]; simp [ac_lst, pm_pL, pm_l2, pm_n, hc]
theorem ev_inc13 {a0 a1 a2 a3 a4 a5 a6 a7 a8 a9 a10 a11 a12 : Option Value} {n x : Int32} (hc : pm_c2 a12 = false) : pm_ev pg C (ac_inc 13 n :: k) (a0 :: a1 :: a2 :: a3 :: a4 :: a5 :: a6 :: a7 :: a8 :: a9 :: a10 :: a11 :: a12 :: some (.int x) :: ls) st h = pm_ev pg C k (a0 :: a1 :: a2 :: a3 :: a4 :: a5 :: a6 :: a7 :: a8 :: a9 :: a10 :: a11 :: a12 :: some (.int (x + n)) :: ls) st h := by
  rw [pm_ev_cons]; simp [ac_inc, pm_pI, pm_l1, pm_lg, pm_n, hc]
theorem ev_ild14 {a0 a1 a2 a3 a4 a5 a6 a7 a8 a9 a10 a11 a12 a13 : Option Value} {x : Int32} : pm_ev pg C (ac_ild 14 :: k) (a0 :: a1 :: a2 :: a3 :: a4 :: a5 :: a6 :: a7 :: a8 :: a9 :: a10 :: a11 :: a12 :: a13 :: some (.int x) :: ls) st h = pm_ev pg C k (a0 :: a1 :: a2 :: a3 :: a4 :: a5 :: a6 :: a7 :: a8 :: a9 :: a10 :: a11 :: a12 :: a13 :: some (.int x) :: ls) (.int x :: st) h := by rw [pm_ev_cons]; rfl
theorem ev_lld14 {a0 a1 a2 a3 a4 a5 a6 a7 a8 a9 a10 a11 a12 a13 : Option Value} {x : Int64} : pm_ev pg C (ac_lld 14 :: k) (a0 :: a1 :: a2 :: a3 :: a4 :: a5 :: a6 :: a7 :: a8 :: a9 :: a10 :: a11 :: a12 :: a13 :: some (.long x) :: ls) st h = pm_ev pg C k (a0 :: a1 :: a2 :: a3 :: a4 :: a5 :: a6 :: a7 :: a8 :: a9 :: a10 :: a11 :: a12 :: a13 :: some (.long x) :: ls) (.long x :: st) h := by rw [pm_ev_cons]; rfl
theorem ev_ald14 {a0 a1 a2 a3 a4 a5 a6 a7 a8 a9 a10 a11 a12 a13 : Option Value} {x : Nat} : pm_ev pg C (ac_ald 14 :: k) (a0 :: a1 :: a2 :: a3 :: a4 :: a5 :: a6 :: a7 :: a8 :: a9 :: a10 :: a11 :: a12 :: a13 :: some (.ref x) :: ls) st h = pm_ev pg C k (a0 :: a1 :: a2 :: a3 :: a4 :: a5 :: a6 :: a7 :: a8 :: a9 :: a10 :: a11 :: a12 :: a13 :: some (.ref x) :: ls) (.ref x :: st) h := by rw [pm_ev_cons]; rfl
theorem ev_aldn14 {a0 a1 a2 a3 a4 a5 a6 a7 a8 a9 a10 a11 a12 a13 : Option Value} : pm_ev pg C (ac_ald 14 :: k) (a0 :: a1 :: a2 :: a3 :: a4 :: a5 :: a6 :: a7 :: a8 :: a9 :: a10 :: a11 :: a12 :: a13 :: some .null :: ls) st h = pm_ev pg C k (a0 :: a1 :: a2 :: a3 :: a4 :: a5 :: a6 :: a7 :: a8 :: a9 :: a10 :: a11 :: a12 :: a13 :: some .null :: ls) (.null :: st) h := by rw [pm_ev_cons]; rfl
theorem ev_ist14 {a0 a1 a2 a3 a4 a5 a6 a7 a8 a9 a10 a11 a12 a13 : Option Value} {b : Option Value} {x : Int32} (hc : pm_c2 a13 = false) : pm_ev pg C (ac_ist 14 :: k) (a0 :: a1 :: a2 :: a3 :: a4 :: a5 :: a6 :: a7 :: a8 :: a9 :: a10 :: a11 :: a12 :: a13 :: b :: ls) (.int x :: st) h = pm_ev pg C k (a0 :: a1 :: a2 :: a3 :: a4 :: a5 :: a6 :: a7 :: a8 :: a9 :: a10 :: a11 :: a12 :: a13 :: some (.int x) :: ls) st h := by
  rw [pm_ev_cons]; simp [ac_ist, pm_pI, pm_l1, pm_lg, pm_n, hc]
theorem ev_ast14 {a0 a1 a2 a3 a4 a5 a6 a7 a8 a9 a10 a11 a12 a13 : Option Value} {b : Option Value} {x : Nat} (hc : pm_c2 a13 = false) : pm_ev pg C (ac_ast 14 :: k) (a0 :: a1 :: a2 :: a3 :: a4 :: a5 :: a6 :: a7 :: a8 :: a9 :: a10 :: a11 :: a12 :: a13 :: b :: ls) (.ref x :: st) h = pm_ev pg C k (a0 :: a1 :: a2 :: a3 :: a4 :: a5 :: a6 :: a7 :: a8 :: a9 :: a10 :: a11 :: a12 :: a13 :: some (.ref x) :: ls) st h := by
  rw [pm_ev_cons]; simp [ac_ast, pm_pR, pm_l1, pm_lg, pm_n, hc]
theorem ev_astn14 {a0 a1 a2 a3 a4 a5 a6 a7 a8 a9 a10 a11 a12 a13 : Option Value} {b : Option Value} (hc : pm_c2 a13 = false) : pm_ev pg C (ac_ast 14 :: k) (a0 :: a1 :: a2 :: a3 :: a4 :: a5 :: a6 :: a7 :: a8 :: a9 :: a10 :: a11 :: a12 :: a13 :: b :: ls) (.null :: st) h = pm_ev pg C k (a0 :: a1 :: a2 :: a3 :: a4 :: a5 :: a6 :: a7 :: a8 :: a9 :: a10 :: a11 :: a12 :: a13 :: some .null :: ls) st h := by
  rw [pm_ev_cons]; simp [ac_ast, pm_pR, pm_l1, pm_lg, pm_n, hc]
theorem ev_lst14 {a0 a1 a2 a3 a4 a5 a6 a7 a8 a9 a10 a11 a12 a13 : Option Value} {b b2 : Option Value} {x : Int64} (hc : pm_c2 a13 = false) : pm_ev pg C (ac_lst 14 :: k) (a0 :: a1 :: a2 :: a3 :: a4 :: a5 :: a6 :: a7 :: a8 :: a9 :: a10 :: a11 :: a12 :: a13 :: b :: b2 :: ls) (.long x :: st) h = pm_ev pg C k (a0 :: a1 :: a2 :: a3 :: a4 :: a5 :: a6 :: a7 :: a8 :: a9 :: a10 :: a11 :: a12 :: a13 :: some (.long x) :: none :: ls) st h := by
  rw [pm_ev_cons]; simp [ac_lst, pm_pL, pm_l2, pm_n, hc]
theorem ev_inc14 {a0 a1 a2 a3 a4 a5 a6 a7 a8 a9 a10 a11 a12 a13 : Option Value} {n x : Int32} (hc : pm_c2 a13 = false) : pm_ev pg C (ac_inc 14 n :: k) (a0 :: a1 :: a2 :: a3 :: a4 :: a5 :: a6 :: a7 :: a8 :: a9 :: a10 :: a11 :: a12 :: a13 :: some (.int x) :: ls) st h = pm_ev pg C k (a0 :: a1 :: a2 :: a3 :: a4 :: a5 :: a6 :: a7 :: a8 :: a9 :: a10 :: a11 :: a12 :: a13 :: some (.int (x + n)) :: ls) st h := by
  rw [pm_ev_cons]; simp [ac_inc, pm_pI, pm_l1, pm_lg, pm_n, hc]
theorem ev_ild15 {a0 a1 a2 a3 a4 a5 a6 a7 a8 a9 a10 a11 a12 a13 a14 : Option Value} {x : Int32} : pm_ev pg C (ac_ild 15 :: k) (a0 :: a1 :: a2 :: a3 :: a4 :: a5 :: a6 :: a7 :: a8 :: a9 :: a10 :: a11 :: a12 :: a13 :: a14 :: some (.int x) :: ls) st h = pm_ev pg C k (a0 :: a1 :: a2 :: a3 :: a4 :: a5 :: a6 :: a7 :: a8 :: a9 :: a10 :: a11 :: a12 :: a13 :: a14 :: some (.int x) :: ls) (.int x :: st) h := by rw [pm_ev_cons]; rfl
theorem ev_lld15 {a0 a1 a2 a3 a4 a5 a6 a7 a8 a9 a10 a11 a12 a13 a14 : Option Value} {x : Int64} : pm_ev pg C (ac_lld 15 :: k) (a0 :: a1 :: a2 :: a3 :: a4 :: a5 :: a6 :: a7 :: a8 :: a9 :: a10 :: a11 :: a12 :: a13 :: a14 :: some (.long x) :: ls) st h = pm_ev pg C k (a0 :: a1 :: a2 :: a3 :: a4 :: a5 :: a6 :: a7 :: a8 :: a9 :: a10 :: a11 :: a12 :: a13 :: a14 :: some (.long x) :: ls) (.long x :: st) h := by rw [pm_ev_cons]; rfl
theorem ev_ald15 {a0 a1 a2 a3 a4 a5 a6 a7 a8 a9 a10 a11 a12 a13 a14 : Option Value} {x : Nat} : pm_ev pg C (ac_ald 15 :: k) (a0 :: a1 :: a2 :: a3 :: a4 :: a5 :: a6 :: a7 :: a8 :: a9 :: a10 :: a11 :: a12 :: a13 :: a14 :: some (.ref x) :: ls) st h = pm_ev pg C k (a0 :: a1 :: a2 :: a3 :: a4 :: a5 :: a6 :: a7 :: a8 :: a9 :: a10 :: a11 :: a12 :: a13 :: a14 :: some (.ref x) :: ls) (.ref x :: st) h := by rw [pm_ev_cons]; rfl
theorem ev_aldn15 {a0 a1 a2 a3 a4 a5 a6 a7 a8 a9 a10 a11 a12 a13 a14 : Option Value} : pm_ev pg C (ac_ald 15 :: k) (a0 :: a1 :: a2 :: a3 :: a4 :: a5 :: a6 :: a7 :: a8 :: a9 :: a10 :: a11 :: a12 :: a13 :: a14 :: some .null :: ls) st h = pm_ev pg C k (a0 :: a1 :: a2 :: a3 :: a4 :: a5 :: a6 :: a7 :: a8 :: a9 :: a10 :: a11 :: a12 :: a13 :: a14 :: some .null :: ls) (.null :: st) h := by rw [pm_ev_cons]; rfl
theorem ev_ist15 {a0 a1 a2 a3 a4 a5 a6 a7 a8 a9 a10 a11 a12 a13 a14 : Option Value} {b : Option Value} {x : Int32} (hc : pm_c2 a14 = false) : pm_ev pg C (ac_ist 15 :: k) (a0 :: a1 :: a2 :: a3 :: a4 :: a5 :: a6 :: a7 :: a8 :: a9 :: a10 :: a11 :: a12 :: a13 :: a14 :: b :: ls) (.int x :: st) h = pm_ev pg C k (a0 :: a1 :: a2 :: a3 :: a4 :: a5 :: a6 :: a7 :: a8 :: a9 :: a10 :: a11 :: a12 :: a13 :: a14 :: some (.int x) :: ls) st h := by
  rw [pm_ev_cons]; simp [ac_ist, pm_pI, pm_l1, pm_lg, pm_n, hc]
theorem ev_ast15 {a0 a1 a2 a3 a4 a5 a6 a7 a8 a9 a10 a11 a12 a13 a14 : Option Value} {b : Option Value} {x : Nat} (hc : pm_c2 a14 = false) : pm_ev pg C (ac_ast 15 :: k) (a0 :: a1 :: a2 :: a3 :: a4 :: a5 :: a6 :: a7 :: a8 :: a9 :: a10 :: a11 :: a12 :: a13 :: a14 :: b :: ls) (.ref x :: st) h = pm_ev pg C k (a0 :: a1 :: a2 :: a3 :: a4 :: a5 :: a6 :: a7 :: a8 :: a9 :: a10 :: a11 :: a12 :: a13 :: a14 :: some (.ref x) :: ls) st h := by
  rw [pm_ev_cons]; simp [ac_ast, pm_pR, pm_l1, pm_lg, pm_n, hc]
theorem ev_astn15 {a0 a1 a2 a3 a4 a5 a6 a7 a8 a9 a10 a11 a12 a13 a14 : Option Value} {b : Option Value} (hc : pm_c2 a14 = false) : pm_ev pg C (ac_ast 15 :: k) (a0 :: a1 :: a2 :: a3 :: a4 :: a5 :: a6 :: a7 :: a8 :: a9 :: a10 :: a11 :: a12 :: a13 :: a14 :: b :: ls) (.null :: st) h = pm_ev pg C k (a0 :: a1 :: a2 :: a3 :: a4 :: a5 :: a6 :: a7 :: a8 :: a9 :: a10 :: a11 :: a12 :: a13 :: a14 :: some .null :: ls) st h := by
  rw [pm_ev_cons]; simp [ac_ast, pm_pR, pm_l1, pm_lg, pm_n, hc]
theorem ev_lst15 {a0 a1 a2 a3 a4 a5 a6 a7 a8 a9 a10 a11 a12 a13 a14 : Option Value} {b b2 : Option Value} {x : Int64} (hc : pm_c2 a14 = false) : pm_ev pg C (ac_lst 15 :: k) (a0 :: a1 :: a2 :: a3 :: a4 :: a5 :: a6 :: a7 :: a8 :: a9 :: a10 :: a11 :: a12 :: a13 :: a14 :: b :: b2 :: ls) (.long x :: st) h = pm_ev pg C k (a0 :: a1 :: a2 :: a3 :: a4 :: a5 :: a6 :: a7 :: a8 :: a9 :: a10 :: a11 :: a12 :: a13 :: a14 :: some (.long x) :: none :: ls) st h := by
  rw [pm_ev_cons]; simp [ac_lst, pm_pL, pm_l2, pm_n, hc]
theorem ev_inc15 {a0 a1 a2 a3 a4 a5 a6 a7 a8 a9 a10 a11 a12 a13 a14 : Option Value} {n x : Int32} (hc : pm_c2 a14 = false) : pm_ev pg C (ac_inc 15 n :: k) (a0 :: a1 :: a2 :: a3 :: a4 :: a5 :: a6 :: a7 :: a8 :: a9 :: a10 :: a11 :: a12 :: a13 :: a14 :: some (.int x) :: ls) st h = pm_ev pg C k (a0 :: a1 :: a2 :: a3 :: a4 :: a5 :: a6 :: a7 :: a8 :: a9 :: a10 :: a11 :: a12 :: a13 :: a14 :: some (.int (x + n)) :: ls) st h := by
  rw [pm_ev_cons]; simp [ac_inc, pm_pI, pm_l1, pm_lg, pm_n, hc]
theorem pm_c2_i {x : Int32} : pm_c2 (some (.int x)) = false := rfl
theorem pm_c2_r {x : Nat} : pm_c2 (some (.ref x)) = false := rfl
theorem pm_c2_n : pm_c2 (some .null) = false := rfl
theorem pm_c2_0 : pm_c2 none = false := rfl
theorem ev_gi {cs : List Nat} {a q : Nat} (ha : pm_is cs a = true) : pm_ev pg C (ac_gi cs q :: k) ls (.ref a :: st) h = pm_ev pg C k ls (.int (h.1 a q) :: st) h := by
  rw [pm_ev_cons]; simp [ac_gi, pm_pR, ha, pm_n]
theorem ev_gl {cs : List Nat} {a q : Nat} (ha : pm_is cs a = true) : pm_ev pg C (ac_gl cs q :: k) ls (.ref a :: st) h = pm_ev pg C k ls (.long (h.2 a q) :: st) h := by
  rw [pm_ev_cons]; simp [ac_gl, pm_pR, ha, pm_n]
theorem ev_gr {cs : List Nat} {a q : Nat} (ha : pm_is cs a = true) : pm_ev pg C (ac_gr cs q :: k) ls (.ref a :: st) h = pm_ev pg C k ls (.ref (pm_rf a q) :: st) h := by
  rw [pm_ev_cons]; simp [ac_gr, pm_pR, ha, pm_n]
theorem ev_gc {cs : List Nat} {a q : Nat} (ha : pm_is cs a = true) : pm_ev pg C (ac_gc cs q :: k) ls (.ref a :: st) h = pm_ev pg C k ls (.int (pm_fc a q) :: st) h := by
  rw [pm_ev_cons]; simp [ac_gc, pm_pR, ha, pm_n]
theorem ev_gs {cs : List Nat} {a q : Nat} (ha : pm_is cs a = true) : pm_ev pg C (ac_gs cs q :: k) ls (.ref a :: st) h = pm_ev pg C k ls (.ref (pm_sd (h.1 a q)) :: st) h := by
  rw [pm_ev_cons]; simp [ac_gs, pm_pR, ha, pm_n]
theorem ev_pi {cs : List Nat} {a q : Nat} {v : Int32} (ha : pm_is cs a = true) : pm_ev pg C (ac_pi cs q :: k) ls (.int v :: .ref a :: st) h = pm_ev pg C k ls st (pm_si h a q v) := by
  rw [pm_ev_cons]; simp [ac_pi, pm_pI, pm_pR, ha, pm_n]
theorem ev_pz {cs : List Nat} {a q : Nat} {v : Int32} (ha : pm_is cs a = true) : pm_ev pg C (ac_pz cs q :: k) ls (.int v :: .ref a :: st) h = if v = 0 ∨ v = 1 then pm_ev pg C k ls st (pm_si h a q v) else none := by
  rw [pm_ev_cons]
  by_cases hv : v = 0 ∨ v = 1 <;> simp [ac_pz, pm_pI, pm_pR, ha, pm_n, hv]
theorem ev_pl {cs : List Nat} {a q : Nat} {v : Int64} (ha : pm_is cs a = true) : pm_ev pg C (ac_pl cs q :: k) ls (.long v :: .ref a :: st) h = pm_ev pg C k ls st (pm_sl h a q v) := by
  rw [pm_ev_cons]; simp [ac_pl, pm_pL, pm_pR, ha, pm_n]
theorem ev_ps {cs : List Nat} {a q v : Nat} (ha : pm_is cs a = true) (hv : pm_kd v = 31) : pm_ev pg C (ac_ps cs q :: k) ls (.ref v :: .ref a :: st) h = pm_ev pg C k ls st (pm_si h a q (nI (v - 80))) := by
  rw [pm_ev_cons]; simp [ac_ps, pm_pR, ha, hv, pm_n]
theorem ev_ia {i : Int32} {a : Nat} (ha : pm_kd a = 20) : pm_ev pg C (ac_ia :: k) ls (.int i :: .ref a :: st) h = if pm_ix i (pm_al a) = true then pm_ev pg C k ls (.int (h.1 a i.toNatClampNeg) :: st) h else none := by
  rw [pm_ev_cons]
  by_cases hi : pm_ix i (pm_al a) = true <;> simp [ac_ia, pm_pI, pm_pR, ha, pm_n, hi]
theorem ev_is {i : Int32} {a : Nat} (ha : pm_kd a = 30) : pm_ev pg C (ac_is :: k) ls (.int i :: .ref a :: st) h = if pm_ix i (pm_al a) = true then pm_ev pg C k ls (.int (pm_sv a i.toNatClampNeg) :: st) h else none := by
  rw [pm_ev_cons]
  by_cases hi : pm_ix i (pm_al a) = true <;> simp [ac_is, pm_pI, pm_pR, ha, pm_n, hi]
theorem ev_ba {i : Int32} {a : Nat} (ha : pm_kd a = 32) : pm_ev pg C (ac_ba :: k) ls (.int i :: .ref a :: st) h = if pm_ix i (pm_al a) = true then pm_ev pg C k ls (.int (pm_by a i.toNatClampNeg) :: st) h else none := by
  rw [pm_ev_cons]
  by_cases hi : pm_ix i (pm_al a) = true <;> simp [ac_ba, pm_pI, pm_pR, ha, pm_n, hi]
theorem ev_aa {i : Int32} {a : Nat} (ha : pm_kd a = 21 ∨ pm_kd a = 22) : pm_ev pg C (ac_aa :: k) ls (.int i :: .ref a :: st) h = if pm_ix i (pm_al a) = true then pm_ev pg C k ls (.ref (pm_rf a i.toNatClampNeg) :: st) h else none := by
  rw [pm_ev_cons]
  by_cases hi : pm_ix i (pm_al a) = true <;> simp [ac_aa, pm_pI, pm_pR, ha, pm_n, hi]
theorem ev_ias {x i : Int32} {a : Nat} (ha : pm_kd a = 20) : pm_ev pg C (ac_ias :: k) ls (.int x :: .int i :: .ref a :: st) h = if pm_ix i (pm_al a) = true then pm_ev pg C k ls st (pm_si h a i.toNatClampNeg x) else none := by
  rw [pm_ev_cons]
  by_cases hi : pm_ix i (pm_al a) = true <;> simp [ac_ias, pm_pI, pm_pR, ha, pm_n, hi]
theorem ev_ln {a : Nat} (ha : pm_kd a = 20) : pm_ev pg C (ac_ln :: k) ls (.ref a :: st) h = pm_ev pg C k ls (.int (nI (pm_al a)) :: st) h := by
  rw [pm_ev_cons]; simp [ac_ln, pm_pR, ha, pm_n]
theorem ev_lb {a : Nat} (ha : pm_kd a = 32) : pm_ev pg C (ac_lb :: k) ls (.ref a :: st) h = pm_ev pg C k ls (.int (nI (pm_al a)) :: st) h := by
  rw [pm_ev_cons]; simp [ac_lb, pm_pR, ha, pm_n]
theorem ev_tv {a : Nat} (ha : pm_kd a = 31) : pm_ev pg C (ac_tv :: k) ls (.ref a :: st) h = pm_ev pg C k ls (.ref (a + 5) :: st) h := by
  rw [pm_ev_cons]; simp [ac_tv, pm_pR, ha, pm_n]
theorem ev_tc {a : Nat} (ha : pm_kd a = 31) : pm_ev pg C (ac_tc :: k) ls (.ref a :: st) h = pm_ev pg C k ls (.int 0 :: st) h := by
  rw [pm_ev_cons]; simp [ac_tc, pm_pR, ha, pm_n]
theorem ev_cp {n dp sp : Int32} {a1 a0 : Nat} (h0 : pm_kd a0 = 20) (h1 : pm_kd a1 = 20) (hc : pm_cs st ≤ 8) : pm_ev pg C (ac_cp :: k) ls (.int n :: .int dp :: .ref a1 :: .int sp :: .ref a0 :: st) h = if 0 ≤ sp ∧ 0 ≤ dp ∧ 0 ≤ n ∧ sp.toNatClampNeg + n.toNatClampNeg ≤ pm_al a0 ∧ dp.toNatClampNeg + n.toNatClampNeg ≤ pm_al a1 then pm_ev pg C k ls st (pm_cp h a0 a1 sp.toNatClampNeg dp.toNatClampNeg n.toNatClampNeg) else none := by
  rw [pm_ev_cons]
  by_cases hi : 0 ≤ sp ∧ 0 ≤ dp ∧ 0 ≤ n ∧ sp.toNatClampNeg + n.toNatClampNeg ≤ pm_al a0 ∧ dp.toNatClampNeg + n.toNatClampNeg ≤ pm_al a1
  · rw [if_pos hi]; simp [ac_cp, h0, h1, hc, pm_n, hi]
  · rw [if_neg hi]
    have e : ac_cp ls (.int n :: .int dp :: .ref a1 :: .int sp :: .ref a0 :: st) h = none := by
      unfold ac_cp
      dsimp only
      rw [if_neg]
      rintro ⟨-, -, g1, g2, g3, g4, g5, -⟩
      exact hi ⟨g1, g2, g3, g4, g5⟩
    rw [e]
theorem ev_cs0 {y : Nat} (hc : pm_cs st ≤ 8) : pm_ev pg C (ac_cs y 0 :: k) ls (st) h = pm_bd (C y [] h) (fun v h' => pm_ev pg C k ls (v.toList ++ st) h') := by
  rw [pm_ev_cons]; simp [ac_cs, pm_tk, hc, pm_c]
theorem ev_cv0 {y a : Nat} {cs : List Nat} (ha : pm_is cs a = true) (hc : pm_cs st ≤ 8) : pm_ev pg C (ac_cv y 0 cs :: k) ls (.ref a :: st) h = pm_bd (C y [.ref a] h) (fun v h' => pm_ev pg C k ls (v.toList ++ st) h') := by
  rw [pm_ev_cons]; simp [ac_cv, pm_tk, pm_pR, ha, hc, pm_c]
theorem ev_ct0 {y a : Nat} (ha : pm_kd a = 31) (hc : pm_cs st ≤ 8) : pm_ev pg C (ac_ct y 0 :: k) ls (.ref a :: st) h = pm_bd (C y [.ref a] h) (fun v h' => pm_ev pg C k ls (v.toList ++ st) h') := by
  rw [pm_ev_cons]; simp [ac_ct, pm_tk, pm_pR, ha, hc, pm_c]
theorem ev_cs1 {y : Nat} {v0 : Value} (hc : pm_cs st ≤ 8) : pm_ev pg C (ac_cs y 1 :: k) ls (v0 :: st) h = pm_bd (C y [v0] h) (fun v h' => pm_ev pg C k ls (v.toList ++ st) h') := by
  rw [pm_ev_cons]; simp [ac_cs, pm_tk, hc, pm_c]
theorem ev_cv1 {y a : Nat} {cs : List Nat} {v0 : Value} (ha : pm_is cs a = true) (hc : pm_cs st ≤ 8) : pm_ev pg C (ac_cv y 1 cs :: k) ls (v0 :: .ref a :: st) h = pm_bd (C y [.ref a, v0] h) (fun v h' => pm_ev pg C k ls (v.toList ++ st) h') := by
  rw [pm_ev_cons]; simp [ac_cv, pm_tk, pm_pR, ha, hc, pm_c]
theorem ev_ct1 {y a : Nat} {v0 : Value} (ha : pm_kd a = 31) (hc : pm_cs st ≤ 8) : pm_ev pg C (ac_ct y 1 :: k) ls (v0 :: .ref a :: st) h = pm_bd (C y [.ref a, v0] h) (fun v h' => pm_ev pg C k ls (v.toList ++ st) h') := by
  rw [pm_ev_cons]; simp [ac_ct, pm_tk, pm_pR, ha, hc, pm_c]
theorem ev_cs2 {y : Nat} {v0 v1 : Value} (hc : pm_cs st ≤ 8) : pm_ev pg C (ac_cs y 2 :: k) ls (v1 :: v0 :: st) h = pm_bd (C y [v0, v1] h) (fun v h' => pm_ev pg C k ls (v.toList ++ st) h') := by
  rw [pm_ev_cons]; simp [ac_cs, pm_tk, hc, pm_c]
theorem ev_cv2 {y a : Nat} {cs : List Nat} {v0 v1 : Value} (ha : pm_is cs a = true) (hc : pm_cs st ≤ 8) : pm_ev pg C (ac_cv y 2 cs :: k) ls (v1 :: v0 :: .ref a :: st) h = pm_bd (C y [.ref a, v0, v1] h) (fun v h' => pm_ev pg C k ls (v.toList ++ st) h') := by
  rw [pm_ev_cons]; simp [ac_cv, pm_tk, pm_pR, ha, hc, pm_c]
theorem ev_ct2 {y a : Nat} {v0 v1 : Value} (ha : pm_kd a = 31) (hc : pm_cs st ≤ 8) : pm_ev pg C (ac_ct y 2 :: k) ls (v1 :: v0 :: .ref a :: st) h = pm_bd (C y [.ref a, v0, v1] h) (fun v h' => pm_ev pg C k ls (v.toList ++ st) h') := by
  rw [pm_ev_cons]; simp [ac_ct, pm_tk, pm_pR, ha, hc, pm_c]
theorem ev_cs3 {y : Nat} {v0 v1 v2 : Value} (hc : pm_cs st ≤ 8) : pm_ev pg C (ac_cs y 3 :: k) ls (v2 :: v1 :: v0 :: st) h = pm_bd (C y [v0, v1, v2] h) (fun v h' => pm_ev pg C k ls (v.toList ++ st) h') := by
  rw [pm_ev_cons]; simp [ac_cs, pm_tk, hc, pm_c]
theorem ev_cv3 {y a : Nat} {cs : List Nat} {v0 v1 v2 : Value} (ha : pm_is cs a = true) (hc : pm_cs st ≤ 8) : pm_ev pg C (ac_cv y 3 cs :: k) ls (v2 :: v1 :: v0 :: .ref a :: st) h = pm_bd (C y [.ref a, v0, v1, v2] h) (fun v h' => pm_ev pg C k ls (v.toList ++ st) h') := by
  rw [pm_ev_cons]; simp [ac_cv, pm_tk, pm_pR, ha, hc, pm_c]
theorem ev_cs4 {y : Nat} {v0 v1 v2 v3 : Value} (hc : pm_cs st ≤ 8) : pm_ev pg C (ac_cs y 4 :: k) ls (v3 :: v2 :: v1 :: v0 :: st) h = pm_bd (C y [v0, v1, v2, v3] h) (fun v h' => pm_ev pg C k ls (v.toList ++ st) h') := by
  rw [pm_ev_cons]; simp [ac_cs, pm_tk, hc, pm_c]
theorem ev_cv4 {y a : Nat} {cs : List Nat} {v0 v1 v2 v3 : Value} (ha : pm_is cs a = true) (hc : pm_cs st ≤ 8) : pm_ev pg C (ac_cv y 4 cs :: k) ls (v3 :: v2 :: v1 :: v0 :: .ref a :: st) h = pm_bd (C y [.ref a, v0, v1, v2, v3] h) (fun v h' => pm_ev pg C k ls (v.toList ++ st) h') := by
  rw [pm_ev_cons]; simp [ac_cv, pm_tk, pm_pR, ha, hc, pm_c]
theorem ev_cs5 {y : Nat} {v0 v1 v2 v3 v4 : Value} (hc : pm_cs st ≤ 8) : pm_ev pg C (ac_cs y 5 :: k) ls (v4 :: v3 :: v2 :: v1 :: v0 :: st) h = pm_bd (C y [v0, v1, v2, v3, v4] h) (fun v h' => pm_ev pg C k ls (v.toList ++ st) h') := by
  rw [pm_ev_cons]; simp [ac_cs, pm_tk, hc, pm_c]
theorem ev_cv5 {y a : Nat} {cs : List Nat} {v0 v1 v2 v3 v4 : Value} (ha : pm_is cs a = true) (hc : pm_cs st ≤ 8) : pm_ev pg C (ac_cv y 5 cs :: k) ls (v4 :: v3 :: v2 :: v1 :: v0 :: .ref a :: st) h = pm_bd (C y [.ref a, v0, v1, v2, v3, v4] h) (fun v h' => pm_ev pg C k ls (v.toList ++ st) h') := by
  rw [pm_ev_cons]; simp [ac_cv, pm_tk, pm_pR, ha, hc, pm_c]
end EV
/-- what method y answers -/
noncomputable def rs (fb : Bool) (d y : Nat) (as : List Value) (h : pm_HP) : Option pm_RV := pm_rs (pm_pg fb) pm_mt d y as h
