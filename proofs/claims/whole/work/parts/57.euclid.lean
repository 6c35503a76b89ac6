/-! LONGS: Euclid, sums -/
def bl (x : Int64) (N : Nat) : Prop := x.toInt.natAbs ≤ N
theorem bl_le {x : Int64} {N M : Nat} (h : bl x N) (hm : N ≤ M) : bl x M := Nat.le_trans h hm
theorem tl_add {x y : Int64} {M N : Nat} (hx : bl x M) (hy : bl y N) (h : M + N < 2 ^ 63) : (x + y).toInt = x.toInt + y.toInt := by
  unfold bl at *
  rw [Int64.toInt_add, Int.bmod_eq_of_le] <;> omega
theorem tl_sub {x y : Int64} {M N : Nat} (hx : bl x M) (hy : bl y N) (h : M + N < 2 ^ 63) : (x - y).toInt = x.toInt - y.toInt := by
  unfold bl at *
  rw [Int64.toInt_sub, Int.bmod_eq_of_le] <;> omega
theorem tl_mul {x y : Int64} {M N : Nat} (hx : bl x M) (hy : bl y N) (h : M * N < 2 ^ 63) : (x * y).toInt = x.toInt * y.toInt := by
  unfold bl at *
  have e : (x.toInt * y.toInt).natAbs ≤ M * N := by rw [Int.natAbs_mul]; exact Nat.mul_le_mul hx hy
  rw [Int64.toInt_mul]
  generalize x.toInt * y.toInt = p at e ⊢
  generalize M * N = q at e h ⊢
  rw [Int.bmod_eq_of_le] <;> omega
theorem tl_div {x y : Int64} {M : Nat} (hx : bl x M) (h : M < 2 ^ 63) : (x / y).toInt = x.toInt.tdiv y.toInt := by
  unfold bl at *
  have e := Int.natAbs_tdiv_le_natAbs x.toInt y.toInt
  rw [Int64.toInt_div]
  generalize x.toInt.tdiv y.toInt = p at e ⊢
  rw [Int.bmod_eq_of_le] <;> omega
theorem bl_add {x y : Int64} {M N : Nat} (hx : bl x M) (hy : bl y N) (h : M + N < 2 ^ 63) : bl (x + y) (M + N) := by
  have e := tl_add hx hy h
  unfold bl at *
  rw [e]
  omega
theorem bl_sub {x y : Int64} {M N : Nat} (hx : bl x M) (hy : bl y N) (h : M + N < 2 ^ 63) : bl (x - y) (M + N) := by
  have e := tl_sub hx hy h
  unfold bl at *
  rw [e]
  omega
theorem bl_mul {x y : Int64} {M N : Nat} (hx : bl x M) (hy : bl y N) (h : M * N < 2 ^ 63) : bl (x * y) (M * N) := by
  have e := tl_mul hx hy h
  unfold bl at *
  rw [e, Int.natAbs_mul]
  exact Nat.mul_le_mul hx hy
theorem bl_i {x : Int32} {N : Nat} (h : bd x N) : bl x.toInt64 N := by
  unfold bl
  rw [Int32.toInt_toInt64]
  exact h
theorem bl_n {n N : Nat} (h : n ≤ N) (h2 : n < 2 ^ 31) : bl (lN n) N := by
  unfold bl
  rw [lN_toInt h2]
  omega
theorem ab_l {x : Int64} {N : Nat} (hx : bl x N) (hN : N < 2 ^ 63) : (ab64 x).toInt = (x.toInt.natAbs : Int) := by
  unfold bl at hx
  have z : (0 : Int64).toInt = 0 := by decide
  unfold ab64
  by_cases q : 0 < x
  · rw [if_pos q]
    have := Int64.lt_iff_toInt_lt.mp q
    omega
  · rw [if_neg q]
    have : x.toInt ≤ 0 := by
      have := Int64.le_iff_toInt_le.mp (Int64.not_lt.mp q)
      omega
    rw [Int64.toInt_neg, Int.bmod_eq_of_le] <;> omega
theorem ab_lN {x : Int64} {N : Nat} (hx : bl x N) (hN : N < 2 ^ 31) : ab64 x = lN x.toInt.natAbs := by
  apply Int64.toInt_inj.mp
  have h1 := hx
  unfold bl at h1
  rw [ab_l hx (by omega), lN_toInt (by omega)]
theorem lN_div {a b : Nat} (ha : a < 2 ^ 31) (hb : b < 2 ^ 31) : lN a / lN b = lN (a / b) := (Int64.ofNat_div (by omega) (by omega)).symm
theorem lN_mod {a b : Nat} (ha : a < 2 ^ 31) (hb : b < 2 ^ 31) : lN a - lN a / lN b * lN b = lN (a % b) := by
  have hq : a / b * b ≤ a := Nat.div_mul_le_self _ _
  have hm : a - a / b * b = a % b := by
    have := Nat.div_add_mod a b
    have c : b * (a / b) = a / b * b := Nat.mul_comm _ _
    omega
  rw [lN_div ha hb, lN_mul, lN_sub hq, hm]
theorem lN_z {a : Nat} (ha : a < 2 ^ 31) : (lN a = 0) = (a = 0) := propext (lN_eq (b := 0) ha (by omega))
theorem gcd_s (x y : Nat) : Nat.gcd x y = Nat.gcd y (x % y) := by
  rw [Nat.gcd_comm x y, Nat.gcd_rec y x, Nat.gcd_comm]
theorem mod_h {y r m : Nat} (h0 : 0 < r) (h1 : r < y) (hy : y < 2 ^ (m + 1)) : y % r < 2 ^ m := by
  have a := Nat.div_add_mod y r
  have b := Nat.mod_lt y h0
  have c : 1 ≤ y / r := (Nat.le_div_iff_mul_le h0).mpr (by omega)
  have e : r * 1 ≤ r * (y / r) := Nat.mul_le_mul (Nat.le_refl r) c
  rw [Nat.pow_succ] at hy
  omega
theorem gcA_g : ∀ (m k x y : Nat), y < 2 ^ m → 2 * m + 1 ≤ k → x < 2 ^ 31 → y < 2 ^ 31 → gcA k (lN x) (lN y) = lN (Nat.gcd x y)
  | 0, k, x, y, hy, hk, hx, hy2 => by
    obtain rfl : y = 0 := by simpa using hy
    obtain ⟨k, rfl⟩ : ∃ j, k = j + 1 := ⟨k - 1, by omega⟩
    rw [gcA, if_pos (show lN 0 = 0 from rfl), Nat.gcd_zero_right]
  | m + 1, k, x, y, hy, hk, hx, hy2 => by
    obtain ⟨k, rfl⟩ : ∃ j, k = j + 2 := ⟨k - 2, by omega⟩
    rw [gcA]
    by_cases q : y = 0
    · subst q
      rw [if_pos (show lN 0 = 0 from rfl), Nat.gcd_zero_right]
    · rw [if_neg (by rw [lN_z hy2]; exact q), lN_mod hx hy2, gcd_s x y]
      have hr : x % y < y := Nat.mod_lt _ (by omega)
      generalize x % y = r at hr
      rw [gcA]
      by_cases q2 : r = 0
      · subst q2
        rw [if_pos (show lN 0 = 0 from rfl), Nat.gcd_zero_right]
      · rw [if_neg (by rw [lN_z (by omega)]; exact q2), lN_mod hy2 (by omega), gcd_s y r]
        have hs : y % r < r := Nat.mod_lt _ (by omega)
        exact gcA_g m k r (y % r) (mod_h (by omega) hr hy) (by omega) (by omega) (by omega)
section EU
variable {fb : Bool} {h : pm_HP}
theorem sr_divisor : ∀ (m k x y : Nat), y < 2 ^ m → 2 * m + 1 ≤ k → x < 2 ^ 31 → y < 2 ^ 31 → rs fb k n_X9_divisor [.long (lN x), .long (lN y)] h = some (some (.long (lN (Nat.gcd x y))), h)
  | 0, k, x, y, hy, hk, hx, hy2 => by
    obtain rfl : y = 0 := by simpa using hy
    obtain ⟨k, rfl⟩ : ∃ j, k = j + 1 := ⟨k - 1, by omega⟩
    have z : (lN 0 = 0) = True := eq_true rfl
    rw [en_X9_divisor]
    simp only [cs8_0, cs8_1, cs8_2, cs8_3, cs8_4, decide_eq_true_eq, ev_cs2, ev_go, ev_if0, ev_l, ev_lcmp, ev_ldv, ev_lld0, ev_lld2, ev_rl, i00, i01, i10, not_false_eq_true, not_true_eq_false, pm_bd_s, pm_tl_n, pm_tl_s, ↓reduceIte, pb_X9_divisor_0, pb_X9_divisor_1, pb_X9_divisor_2, lg_cmp_0, z, not_true_eq_false, if_true, if_false, Nat.gcd_zero_right]
  | m + 1, k, x, y, hy, hk, hx, hy2 => by
    obtain ⟨k, rfl⟩ : ∃ j, k = j + 2 := ⟨k - 2, by omega⟩
    by_cases q : y = 0
    · subst q
      have z : (lN 0 = 0) = True := eq_true rfl
      rw [en_X9_divisor]
      simp only [cs8_0, cs8_1, cs8_2, cs8_3, cs8_4, decide_eq_true_eq, ev_cs2, ev_go, ev_if0, ev_l, ev_lcmp, ev_ldv, ev_lld0, ev_lld2, ev_rl, i00, i01, i10, not_false_eq_true, not_true_eq_false, pm_bd_s, pm_tl_n, pm_tl_s, ↓reduceIte, pb_X9_divisor_0, pb_X9_divisor_1, pb_X9_divisor_2, lg_cmp_0, z, not_true_eq_false, if_true, if_false, Nat.gcd_zero_right]
    · have z : (lN y = 0) = False := by rw [lN_z hy2]; exact eq_false q
      have hr : x % y < y := Nat.mod_lt _ (by omega)
      have R : rs fb (k + 1) n_X9_divisor [.long (lN y), .long (lN (x % y))] h = some (some (.long (lN (Nat.gcd y (x % y)))), h) := by
        generalize x % y = r at hr
        by_cases q2 : r = 0
        · subst q2
          have z : (lN 0 = 0) = True := eq_true rfl
          rw [en_X9_divisor]
          simp only [cs8_0, cs8_1, cs8_2, cs8_3, cs8_4, decide_eq_true_eq, ev_cs2, ev_go, ev_if0, ev_l, ev_lcmp, ev_ldv, ev_lld0, ev_lld2, ev_rl, i00, i01, i10, not_false_eq_true, not_true_eq_false, pm_bd_s, pm_tl_n, pm_tl_s, ↓reduceIte, pb_X9_divisor_0, pb_X9_divisor_1, pb_X9_divisor_2, lg_cmp_0, z, not_true_eq_false, if_true, if_false, Nat.gcd_zero_right]
        · have z2 : (lN r = 0) = False := by rw [lN_z (by omega)]; exact eq_false q2
          have hs : y % r < r := Nat.mod_lt _ (by omega)
          have i := sr_divisor m k r (y % r) (mod_h (by omega) hr hy) (by omega) (by omega) (by omega)
          rw [← gcd_s y r] at i
          rw [en_X9_divisor]
          simp only [cs8_0, cs8_1, cs8_2, cs8_3, cs8_4, decide_eq_true_eq, ev_cs2, ev_go, ev_if0, ev_l, ev_lcmp, ev_ldv, ev_lld0, ev_lld2, ev_rl, i00, i01, i10, not_false_eq_true, not_true_eq_false, pm_bd_s, pm_tl_n, pm_tl_s, ↓reduceIte, pb_X9_divisor_0, pb_X9_divisor_1, pb_X9_divisor_2, lg_cmp_0, z2, not_false_eq_true, if_true, if_false, lN_mod hy2 (show r < 2 ^ 31 by omega), i]
      rw [← gcd_s x y] at R
      rw [en_X9_divisor]
      simp only [cs8_0, cs8_1, cs8_2, cs8_3, cs8_4, decide_eq_true_eq, ev_cs2, ev_go, ev_if0, ev_l, ev_lcmp, ev_ldv, ev_lld0, ev_lld2, ev_rl, i00, i01, i10, not_false_eq_true, not_true_eq_false, pm_bd_s, pm_tl_n, pm_tl_s, ↓reduceIte, pb_X9_divisor_0, pb_X9_divisor_1, pb_X9_divisor_2, lg_cmp_0, z, not_false_eq_true, if_true, if_false, lN_mod hx hy2, R]
end EU
theorem lsA_congr {g g' : Nat → Int64} : ∀ (k i : Nat) (a : Int64), (∀ s, i ≤ s → s < i + k → g s = g' s) → lsA g i k a = lsA g' i k a
  | 0, i, a, _ => rfl
  | k + 1, i, a, h => by
    rw [lsA, lsA, h i (by omega) (by omega)]
    exact lsA_congr k (i + 1) _ (fun s h1 h2 => h s (by omega) (by omega))
theorem bl_ls {g : Nat → Int64} {G : Nat} : ∀ (k i : Nat) (a : Int64) (A : Nat), (∀ s, i ≤ s → s < i + k → bl (g s) G) → bl a A → A + k * G < 2 ^ 63 → bl (lsA g i k a) (A + k * G)
  | 0, i, a, A, _, ha, _ => by rw [lsA, Nat.zero_mul, Nat.add_zero]; exact ha
  | k + 1, i, a, A, hg, ha, hl => by
    rw [lsA]
    rw [Nat.succ_mul] at hl ⊢
    have e := bl_ls k (i + 1) (a + g i) (A + G) (fun s h1 h2 => hg s (by omega) (by omega)) (bl_add ha (hg i (by omega) (by omega)) (by omega)) (by omega)
    exact bl_le e (by omega)
def sqN : Nat → Nat → Nat → Nat
  | _, 0, a => a
  | i, k + 1, a => sqN (i + 1) k (a + i * i)
theorem ls_sq : ∀ (k i a : Nat), i + k < 2 ^ 31 → lsA (fun j => (nI j).toInt64 * (nI j).toInt64) i k (lN a) = lN (sqN i k a)
  | 0, i, a, _ => rfl
  | k + 1, i, a, h => by
    rw [lsA, sqN, nI_l (show i < 2 ^ 31 by omega), lN_mul, lN_add]
    exact ls_sq k (i + 1) _ (by omega)
theorem sq_b : ∀ n, n ≤ 24 → 1 ≤ n → 1 ≤ sqN 1 n 0 ∧ sqN 1 n 0 ≤ 4900 := by decide +kernel
def SA (h : pm_HP) (n u : Nat) : Int64 := lsA (fun j => (nI j).toInt64 * (SDf h u j).toInt64) 1 n 0
def SG (h : pm_HP) (n u : Nat) : Nat := Nat.gcd (sqN 1 n 0) (SA h n u).toInt.natAbs
theorem SA_b {h : pm_HP} (iS : RS h 32 60) (iM : RM h 31 60) {n u : Nat} (hu : u ≤ 8) (hn : n ≤ 24) : bl (SA h n u) 276480000 := by
  have e := bl_ls (g := fun j => (nI j).toInt64 * (SDf h u j).toInt64) (G := 11520000) n 1 0 0 (fun s h1 h2 => by
    have a : bl (nI s).toInt64 24 := bl_i (bd_n (by omega) (by omega))
    have b : bl (SDf h u s).toInt64 480000 := bl_i (bd_le (bd_sd iS iM hu s (by omega)) (by omega))
    exact bl_mul a b (by omega)) (by unfold bl; decide) (by omega)
  exact bl_le e (by omega)
