/-! THE TABLES BY NAME; SLIPS -/
theorem tC_3 : tC 3 = 5 := by decide +kernel
theorem tR_3 : tR 3 = 24 := by decide +kernel
def mi (h : pm_HP) (c i : Nat) : Int32 := h.1 31 (c * 24 + i)
theorem at_3_0 {fb : Bool} {d s : Nat} {h : pm_HP} (hs : s < 24) : rs fb (d + 2) n_X6_at [.ref 3, .int 0, .int (nI s)] h = some (some (.int (mi h 0 s)), h) := by
  have g := sp_at (fb := fb) (d := d) (t := 3) (c := 0) (r := s) (h := h) rfl (by rw [tC_3]; omega) (by rw [tR_3]; omega)
  rw [tR_3] at g
  exact g
theorem set_3_0 {fb : Bool} {d s : Nat} {v : Int32} {h : pm_HP} (hs : s < 24) : rs fb (d + 2) n_X6_set [.ref 3, .int 0, .int (nI s), .int v] h = some (none, pm_si h 31 (0 * 24 + s) v) := by
  have g := sp_set (fb := fb) (d := d) (t := 3) (c := 0) (r := s) (v := v) (h := h) rfl (by rw [tC_3]; omega) (by rw [tR_3]; omega)
  rw [tR_3] at g
  exact g
theorem at_3_1 {fb : Bool} {d s : Nat} {h : pm_HP} (hs : s < 24) : rs fb (d + 2) n_X6_at [.ref 3, .int 1, .int (nI s)] h = some (some (.int (mi h 1 s)), h) := by
  have g := sp_at (fb := fb) (d := d) (t := 3) (c := 1) (r := s) (h := h) rfl (by rw [tC_3]; omega) (by rw [tR_3]; omega)
  rw [tR_3] at g
  exact g
theorem set_3_1 {fb : Bool} {d s : Nat} {v : Int32} {h : pm_HP} (hs : s < 24) : rs fb (d + 2) n_X6_set [.ref 3, .int 1, .int (nI s), .int v] h = some (none, pm_si h 31 (1 * 24 + s) v) := by
  have g := sp_set (fb := fb) (d := d) (t := 3) (c := 1) (r := s) (v := v) (h := h) rfl (by rw [tC_3]; omega) (by rw [tR_3]; omega)
  rw [tR_3] at g
  exact g
theorem at_3_2 {fb : Bool} {d s : Nat} {h : pm_HP} (hs : s < 24) : rs fb (d + 2) n_X6_at [.ref 3, .int 2, .int (nI s)] h = some (some (.int (mi h 2 s)), h) := by
  have g := sp_at (fb := fb) (d := d) (t := 3) (c := 2) (r := s) (h := h) rfl (by rw [tC_3]; omega) (by rw [tR_3]; omega)
  rw [tR_3] at g
  exact g
theorem set_3_2 {fb : Bool} {d s : Nat} {v : Int32} {h : pm_HP} (hs : s < 24) : rs fb (d + 2) n_X6_set [.ref 3, .int 2, .int (nI s), .int v] h = some (none, pm_si h 31 (2 * 24 + s) v) := by
  have g := sp_set (fb := fb) (d := d) (t := 3) (c := 2) (r := s) (v := v) (h := h) rfl (by rw [tC_3]; omega) (by rw [tR_3]; omega)
  rw [tR_3] at g
  exact g
theorem at_3_3 {fb : Bool} {d s : Nat} {h : pm_HP} (hs : s < 24) : rs fb (d + 2) n_X6_at [.ref 3, .int 3, .int (nI s)] h = some (some (.int (mi h 3 s)), h) := by
  have g := sp_at (fb := fb) (d := d) (t := 3) (c := 3) (r := s) (h := h) rfl (by rw [tC_3]; omega) (by rw [tR_3]; omega)
  rw [tR_3] at g
  exact g
theorem set_3_3 {fb : Bool} {d s : Nat} {v : Int32} {h : pm_HP} (hs : s < 24) : rs fb (d + 2) n_X6_set [.ref 3, .int 3, .int (nI s), .int v] h = some (none, pm_si h 31 (3 * 24 + s) v) := by
  have g := sp_set (fb := fb) (d := d) (t := 3) (c := 3) (r := s) (v := v) (h := h) rfl (by rw [tC_3]; omega) (by rw [tR_3]; omega)
  rw [tR_3] at g
  exact g
theorem at_3_4 {fb : Bool} {d s : Nat} {h : pm_HP} (hs : s < 24) : rs fb (d + 2) n_X6_at [.ref 3, .int 4, .int (nI s)] h = some (some (.int (mi h 4 s)), h) := by
  have g := sp_at (fb := fb) (d := d) (t := 3) (c := 4) (r := s) (h := h) rfl (by rw [tC_3]; omega) (by rw [tR_3]; omega)
  rw [tR_3] at g
  exact g
theorem set_3_4 {fb : Bool} {d s : Nat} {v : Int32} {h : pm_HP} (hs : s < 24) : rs fb (d + 2) n_X6_set [.ref 3, .int 4, .int (nI s), .int v] h = some (none, pm_si h 31 (4 * 24 + s) v) := by
  have g := sp_set (fb := fb) (d := d) (t := 3) (c := 4) (r := s) (v := v) (h := h) rfl (by rw [tC_3]; omega) (by rw [tR_3]; omega)
  rw [tR_3] at g
  exact g
theorem at_3 {fb : Bool} {d c s : Nat} {h : pm_HP} (hc : c < 5) (hs : s < 24) : rs fb (d + 2) n_X6_at [.ref 3, .int (nI c), .int (nI s)] h = some (some (.int (mi h c s)), h) := by
  have g := sp_at (fb := fb) (d := d) (t := 3) (c := c) (r := s) (h := h) rfl (by rw [tC_3]; omega) (by rw [tR_3]; omega)
  rw [tR_3] at g
  exact g
theorem set_3 {fb : Bool} {d c s : Nat} {v : Int32} {h : pm_HP} (hc : c < 5) (hs : s < 24) : rs fb (d + 2) n_X6_set [.ref 3, .int (nI c), .int (nI s), .int v] h = some (none, pm_si h 31 (c * 24 + s) v) := by
  have g := sp_set (fb := fb) (d := d) (t := 3) (c := c) (r := s) (v := v) (h := h) rfl (by rw [tC_3]; omega) (by rw [tR_3]; omega)
  rw [tR_3] at g
  exact g
theorem tC_4 : tC 4 = 5 := by decide +kernel
theorem tR_4 : tR 4 = 8 := by decide +kernel
def sl (h : pm_HP) (c i : Nat) : Int32 := h.1 32 (c * 8 + i)
theorem at_4_0 {fb : Bool} {d s : Nat} {h : pm_HP} (hs : s < 8) : rs fb (d + 2) n_X6_at [.ref 4, .int 0, .int (nI s)] h = some (some (.int (sl h 0 s)), h) := by
  have g := sp_at (fb := fb) (d := d) (t := 4) (c := 0) (r := s) (h := h) rfl (by rw [tC_4]; omega) (by rw [tR_4]; omega)
  rw [tR_4] at g
  exact g
theorem set_4_0 {fb : Bool} {d s : Nat} {v : Int32} {h : pm_HP} (hs : s < 8) : rs fb (d + 2) n_X6_set [.ref 4, .int 0, .int (nI s), .int v] h = some (none, pm_si h 32 (0 * 8 + s) v) := by
  have g := sp_set (fb := fb) (d := d) (t := 4) (c := 0) (r := s) (v := v) (h := h) rfl (by rw [tC_4]; omega) (by rw [tR_4]; omega)
  rw [tR_4] at g
  exact g
theorem at_4_1 {fb : Bool} {d s : Nat} {h : pm_HP} (hs : s < 8) : rs fb (d + 2) n_X6_at [.ref 4, .int 1, .int (nI s)] h = some (some (.int (sl h 1 s)), h) := by
  have g := sp_at (fb := fb) (d := d) (t := 4) (c := 1) (r := s) (h := h) rfl (by rw [tC_4]; omega) (by rw [tR_4]; omega)
  rw [tR_4] at g
  exact g
theorem set_4_1 {fb : Bool} {d s : Nat} {v : Int32} {h : pm_HP} (hs : s < 8) : rs fb (d + 2) n_X6_set [.ref 4, .int 1, .int (nI s), .int v] h = some (none, pm_si h 32 (1 * 8 + s) v) := by
  have g := sp_set (fb := fb) (d := d) (t := 4) (c := 1) (r := s) (v := v) (h := h) rfl (by rw [tC_4]; omega) (by rw [tR_4]; omega)
  rw [tR_4] at g
  exact g
theorem at_4_2 {fb : Bool} {d s : Nat} {h : pm_HP} (hs : s < 8) : rs fb (d + 2) n_X6_at [.ref 4, .int 2, .int (nI s)] h = some (some (.int (sl h 2 s)), h) := by
  have g := sp_at (fb := fb) (d := d) (t := 4) (c := 2) (r := s) (h := h) rfl (by rw [tC_4]; omega) (by rw [tR_4]; omega)
  rw [tR_4] at g
  exact g
theorem set_4_2 {fb : Bool} {d s : Nat} {v : Int32} {h : pm_HP} (hs : s < 8) : rs fb (d + 2) n_X6_set [.ref 4, .int 2, .int (nI s), .int v] h = some (none, pm_si h 32 (2 * 8 + s) v) := by
  have g := sp_set (fb := fb) (d := d) (t := 4) (c := 2) (r := s) (v := v) (h := h) rfl (by rw [tC_4]; omega) (by rw [tR_4]; omega)
  rw [tR_4] at g
  exact g
theorem at_4_3 {fb : Bool} {d s : Nat} {h : pm_HP} (hs : s < 8) : rs fb (d + 2) n_X6_at [.ref 4, .int 3, .int (nI s)] h = some (some (.int (sl h 3 s)), h) := by
  have g := sp_at (fb := fb) (d := d) (t := 4) (c := 3) (r := s) (h := h) rfl (by rw [tC_4]; omega) (by rw [tR_4]; omega)
  rw [tR_4] at g
  exact g
theorem set_4_3 {fb : Bool} {d s : Nat} {v : Int32} {h : pm_HP} (hs : s < 8) : rs fb (d + 2) n_X6_set [.ref 4, .int 3, .int (nI s), .int v] h = some (none, pm_si h 32 (3 * 8 + s) v) := by
  have g := sp_set (fb := fb) (d := d) (t := 4) (c := 3) (r := s) (v := v) (h := h) rfl (by rw [tC_4]; omega) (by rw [tR_4]; omega)
  rw [tR_4] at g
  exact g
theorem at_4_4 {fb : Bool} {d s : Nat} {h : pm_HP} (hs : s < 8) : rs fb (d + 2) n_X6_at [.ref 4, .int 4, .int (nI s)] h = some (some (.int (sl h 4 s)), h) := by
  have g := sp_at (fb := fb) (d := d) (t := 4) (c := 4) (r := s) (h := h) rfl (by rw [tC_4]; omega) (by rw [tR_4]; omega)
  rw [tR_4] at g
  exact g
theorem set_4_4 {fb : Bool} {d s : Nat} {v : Int32} {h : pm_HP} (hs : s < 8) : rs fb (d + 2) n_X6_set [.ref 4, .int 4, .int (nI s), .int v] h = some (none, pm_si h 32 (4 * 8 + s) v) := by
  have g := sp_set (fb := fb) (d := d) (t := 4) (c := 4) (r := s) (v := v) (h := h) rfl (by rw [tC_4]; omega) (by rw [tR_4]; omega)
  rw [tR_4] at g
  exact g
theorem at_4 {fb : Bool} {d c s : Nat} {h : pm_HP} (hc : c < 5) (hs : s < 8) : rs fb (d + 2) n_X6_at [.ref 4, .int (nI c), .int (nI s)] h = some (some (.int (sl h c s)), h) := by
  have g := sp_at (fb := fb) (d := d) (t := 4) (c := c) (r := s) (h := h) rfl (by rw [tC_4]; omega) (by rw [tR_4]; omega)
  rw [tR_4] at g
  exact g
theorem set_4 {fb : Bool} {d c s : Nat} {v : Int32} {h : pm_HP} (hc : c < 5) (hs : s < 8) : rs fb (d + 2) n_X6_set [.ref 4, .int (nI c), .int (nI s), .int v] h = some (none, pm_si h 32 (c * 8 + s) v) := by
  have g := sp_set (fb := fb) (d := d) (t := 4) (c := c) (r := s) (v := v) (h := h) rfl (by rw [tC_4]; omega) (by rw [tR_4]; omega)
  rw [tR_4] at g
  exact g
theorem tC_5 : tC 5 = 4 := by decide +kernel
theorem tR_5 : tR 5 = 16 := by decide +kernel
def tr (h : pm_HP) (c i : Nat) : Int32 := h.1 33 (c * 16 + i)
theorem at_5_0 {fb : Bool} {d s : Nat} {h : pm_HP} (hs : s < 16) : rs fb (d + 2) n_X6_at [.ref 5, .int 0, .int (nI s)] h = some (some (.int (tr h 0 s)), h) := by
  have g := sp_at (fb := fb) (d := d) (t := 5) (c := 0) (r := s) (h := h) rfl (by rw [tC_5]; omega) (by rw [tR_5]; omega)
  rw [tR_5] at g
  exact g
theorem set_5_0 {fb : Bool} {d s : Nat} {v : Int32} {h : pm_HP} (hs : s < 16) : rs fb (d + 2) n_X6_set [.ref 5, .int 0, .int (nI s), .int v] h = some (none, pm_si h 33 (0 * 16 + s) v) := by
  have g := sp_set (fb := fb) (d := d) (t := 5) (c := 0) (r := s) (v := v) (h := h) rfl (by rw [tC_5]; omega) (by rw [tR_5]; omega)
  rw [tR_5] at g
  exact g
theorem at_5_1 {fb : Bool} {d s : Nat} {h : pm_HP} (hs : s < 16) : rs fb (d + 2) n_X6_at [.ref 5, .int 1, .int (nI s)] h = some (some (.int (tr h 1 s)), h) := by
  have g := sp_at (fb := fb) (d := d) (t := 5) (c := 1) (r := s) (h := h) rfl (by rw [tC_5]; omega) (by rw [tR_5]; omega)
  rw [tR_5] at g
  exact g
theorem set_5_1 {fb : Bool} {d s : Nat} {v : Int32} {h : pm_HP} (hs : s < 16) : rs fb (d + 2) n_X6_set [.ref 5, .int 1, .int (nI s), .int v] h = some (none, pm_si h 33 (1 * 16 + s) v) := by
  have g := sp_set (fb := fb) (d := d) (t := 5) (c := 1) (r := s) (v := v) (h := h) rfl (by rw [tC_5]; omega) (by rw [tR_5]; omega)
  rw [tR_5] at g
  exact g
theorem at_5_2 {fb : Bool} {d s : Nat} {h : pm_HP} (hs : s < 16) : rs fb (d + 2) n_X6_at [.ref 5, .int 2, .int (nI s)] h = some (some (.int (tr h 2 s)), h) := by
  have g := sp_at (fb := fb) (d := d) (t := 5) (c := 2) (r := s) (h := h) rfl (by rw [tC_5]; omega) (by rw [tR_5]; omega)
  rw [tR_5] at g
  exact g
theorem set_5_2 {fb : Bool} {d s : Nat} {v : Int32} {h : pm_HP} (hs : s < 16) : rs fb (d + 2) n_X6_set [.ref 5, .int 2, .int (nI s), .int v] h = some (none, pm_si h 33 (2 * 16 + s) v) := by
  have g := sp_set (fb := fb) (d := d) (t := 5) (c := 2) (r := s) (v := v) (h := h) rfl (by rw [tC_5]; omega) (by rw [tR_5]; omega)
  rw [tR_5] at g
  exact g
theorem at_5_3 {fb : Bool} {d s : Nat} {h : pm_HP} (hs : s < 16) : rs fb (d + 2) n_X6_at [.ref 5, .int 3, .int (nI s)] h = some (some (.int (tr h 3 s)), h) := by
  have g := sp_at (fb := fb) (d := d) (t := 5) (c := 3) (r := s) (h := h) rfl (by rw [tC_5]; omega) (by rw [tR_5]; omega)
  rw [tR_5] at g
  exact g
theorem set_5_3 {fb : Bool} {d s : Nat} {v : Int32} {h : pm_HP} (hs : s < 16) : rs fb (d + 2) n_X6_set [.ref 5, .int 3, .int (nI s), .int v] h = some (none, pm_si h 33 (3 * 16 + s) v) := by
  have g := sp_set (fb := fb) (d := d) (t := 5) (c := 3) (r := s) (v := v) (h := h) rfl (by rw [tC_5]; omega) (by rw [tR_5]; omega)
  rw [tR_5] at g
  exact g
theorem at_5 {fb : Bool} {d c s : Nat} {h : pm_HP} (hc : c < 4) (hs : s < 16) : rs fb (d + 2) n_X6_at [.ref 5, .int (nI c), .int (nI s)] h = some (some (.int (tr h c s)), h) := by
  have g := sp_at (fb := fb) (d := d) (t := 5) (c := c) (r := s) (h := h) rfl (by rw [tC_5]; omega) (by rw [tR_5]; omega)
  rw [tR_5] at g
  exact g
theorem set_5 {fb : Bool} {d c s : Nat} {v : Int32} {h : pm_HP} (hc : c < 4) (hs : s < 16) : rs fb (d + 2) n_X6_set [.ref 5, .int (nI c), .int (nI s), .int v] h = some (none, pm_si h 33 (c * 16 + s) v) := by
  have g := sp_set (fb := fb) (d := d) (t := 5) (c := c) (r := s) (v := v) (h := h) rfl (by rw [tC_5]; omega) (by rw [tR_5]; omega)
  rw [tR_5] at g
  exact g
theorem tC_6 : tC 6 = 1 := by decide +kernel
theorem tR_6 : tR 6 = 60 := by decide +kernel
def tp (h : pm_HP) (i : Nat) : Int32 := h.1 34 i
theorem at_6_0 {fb : Bool} {d s : Nat} {h : pm_HP} (hs : s < 60) : rs fb (d + 2) n_X6_at [.ref 6, .int 0, .int (nI s)] h = some (some (.int (tp h s)), h) := by
  have g := sp_at (fb := fb) (d := d) (t := 6) (c := 0) (r := s) (h := h) rfl (by rw [tC_6]; omega) (by rw [tR_6]; omega)
  rw [tR_6] at g
  simp only [Nat.zero_mul, Nat.zero_add] at g
  exact g
theorem set_6_0 {fb : Bool} {d s : Nat} {v : Int32} {h : pm_HP} (hs : s < 60) : rs fb (d + 2) n_X6_set [.ref 6, .int 0, .int (nI s), .int v] h = some (none, pm_si h 34 (s) v) := by
  have g := sp_set (fb := fb) (d := d) (t := 6) (c := 0) (r := s) (v := v) (h := h) rfl (by rw [tC_6]; omega) (by rw [tR_6]; omega)
  rw [tR_6] at g
  simp only [Nat.zero_mul, Nat.zero_add] at g
  exact g
theorem tC_7 : tC 7 = 1 := by decide +kernel
theorem tR_7 : tR 7 = 24 := by decide +kernel
def wt (h : pm_HP) (i : Nat) : Int32 := h.1 35 i
theorem at_7_0 {fb : Bool} {d s : Nat} {h : pm_HP} (hs : s < 24) : rs fb (d + 2) n_X6_at [.ref 7, .int 0, .int (nI s)] h = some (some (.int (wt h s)), h) := by
  have g := sp_at (fb := fb) (d := d) (t := 7) (c := 0) (r := s) (h := h) rfl (by rw [tC_7]; omega) (by rw [tR_7]; omega)
  rw [tR_7] at g
  simp only [Nat.zero_mul, Nat.zero_add] at g
  exact g
theorem set_7_0 {fb : Bool} {d s : Nat} {v : Int32} {h : pm_HP} (hs : s < 24) : rs fb (d + 2) n_X6_set [.ref 7, .int 0, .int (nI s), .int v] h = some (none, pm_si h 35 (s) v) := by
  have g := sp_set (fb := fb) (d := d) (t := 7) (c := 0) (r := s) (v := v) (h := h) rfl (by rw [tC_7]; omega) (by rw [tR_7]; omega)
  rw [tR_7] at g
  simp only [Nat.zero_mul, Nat.zero_add] at g
  exact g
theorem tC_21 : tC 21 = 1 := by decide +kernel
theorem tR_21 : tR 21 = 60 := by decide +kernel
def pt (h : pm_HP) (i : Nat) : Int32 := h.1 46 i
theorem at_21_0 {fb : Bool} {d s : Nat} {h : pm_HP} (hs : s < 60) : rs fb (d + 2) n_X6_at [.ref 21, .int 0, .int (nI s)] h = some (some (.int (pt h s)), h) := by
  have g := sp_at (fb := fb) (d := d) (t := 21) (c := 0) (r := s) (h := h) rfl (by rw [tC_21]; omega) (by rw [tR_21]; omega)
  rw [tR_21] at g
  simp only [Nat.zero_mul, Nat.zero_add] at g
  exact g
theorem set_21_0 {fb : Bool} {d s : Nat} {v : Int32} {h : pm_HP} (hs : s < 60) : rs fb (d + 2) n_X6_set [.ref 21, .int 0, .int (nI s), .int v] h = some (none, pm_si h 46 (s) v) := by
  have g := sp_set (fb := fb) (d := d) (t := 21) (c := 0) (r := s) (v := v) (h := h) rfl (by rw [tC_21]; omega) (by rw [tR_21]; omega)
  rw [tR_21] at g
  simp only [Nat.zero_mul, Nat.zero_add] at g
  exact g
theorem tC_22 : tC 22 = 1 := by decide +kernel
theorem tR_22 : tR 22 = 30 := by decide +kernel
def tc (h : pm_HP) (i : Nat) : Int32 := h.1 47 i
theorem at_22_0 {fb : Bool} {d s : Nat} {h : pm_HP} (hs : s < 30) : rs fb (d + 2) n_X6_at [.ref 22, .int 0, .int (nI s)] h = some (some (.int (tc h s)), h) := by
  have g := sp_at (fb := fb) (d := d) (t := 22) (c := 0) (r := s) (h := h) rfl (by rw [tC_22]; omega) (by rw [tR_22]; omega)
  rw [tR_22] at g
  simp only [Nat.zero_mul, Nat.zero_add] at g
  exact g
theorem set_22_0 {fb : Bool} {d s : Nat} {v : Int32} {h : pm_HP} (hs : s < 30) : rs fb (d + 2) n_X6_set [.ref 22, .int 0, .int (nI s), .int v] h = some (none, pm_si h 47 (s) v) := by
  have g := sp_set (fb := fb) (d := d) (t := 22) (c := 0) (r := s) (v := v) (h := h) rfl (by rw [tC_22]; omega) (by rw [tR_22]; omega)
  rw [tR_22] at g
  simp only [Nat.zero_mul, Nat.zero_add] at g
  exact g
theorem bI_n0 (p : Prop) [Decidable p] : (¬ bI p = 0) = p := by
  unfold bI; by_cases h : p <;> simp [h]
/-- what KINDS do at a mile: kind, from, to, m; the mile -/
def leF (k f t m i : Int32) : Int32 := if (k = 1 ∧ i = f) ∨ (k = 4 ∧ f ≤ i ∧ i ≤ t) then m else 0
def puF (k f t m i w : Int32) : Int32 := if 0 < w ∧ f ≤ i ∧ i ≤ t then (if k = 5 then m else if k = 6 then m / 2 else 0) else 0
def shF (k f t m i s : Int32) : Int32 := if f ≤ i ∧ i ≤ t then (if k = 2 then m * (s + 1) else if k = 3 then m * (s + 1) + (if i = f then 66 else 0) else if k = 6 then 2 * m else 0) else 0
theorem sp_isFirst {fb : Bool} {d s : Nat} {i : Int32} {h : pm_HP} (hs : s < 8) : rs fb (d + 3) n_X3_isFirst [.ref 4, .int (nI s), .int i] h = some (some (.int (bI (i = sl h 1 s))), h) := by
  rw [en_X3_isFirst]
  simp only [cs8_0, cs8_1, cs8_2, cs8_3, cs8_4, decide_eq_true_eq, ev_ald0, ev_aldn0, ev_cv2, ev_go, ev_i, ev_if2, ev_ild1, ev_ild2, ev_rz, i00, i01, i10, if_false, if_true, pm_bd_s, pm_tl_n, pm_tl_s, pb_X3_isFirst_0, pb_X3_isFirst_1, pb_X3_isFirst_2, kd_4, rf_4_2, fc_4_0, fc_4_1, is_6_3_4, is_3_6_4, is_3_4, at_4_1 hs]
  by_cases q : i = sl h 1 s <;> simp [q, bI]
theorem sp_spans {fb : Bool} {d s : Nat} {i : Int32} {h : pm_HP} (hs : s < 8) : rs fb (d + 3) n_X3_spans [.ref 4, .int (nI s), .int i] h = some (some (.int (bI (sl h 1 s ≤ i ∧ i ≤ sl h 2 s))), h) := by
  rw [en_X3_spans]
  simp only [cs8_0, cs8_1, cs8_2, cs8_3, cs8_4, ev_ald0, ev_aldn0, ev_cs3, ev_cv2, ev_i, ev_ild1, ev_ild2, ev_rz, pm_bd_s, pm_tl_n, pm_tl_s, pb_X3_spans_0, kd_4, rf_4_2, fc_4_0, fc_4_1, is_6_3_4, is_3_6_4, is_3_4, at_4_1 hs, at_4_2 hs, sp_isIn, bI_a, if_true]
theorem sp_leansAt {fb : Bool} {d s : Nat} {i : Int32} {h : pm_HP} (hs : s < 8) : rs fb (d + 4) n_X3_leansAt [.ref 4, .int (nI s), .int i] h = some (some (.int (leF (sl h 0 s) (sl h 1 s) (sl h 2 s) (sl h 3 s) i)), h) := by
  rw [en_X3_leansAt]
  simp only [c20, c2i, c2n, c2r, cs8_0, cs8_1, cs8_2, cs8_3, cs8_4, decide_eq_true_eq, ev_ald0, ev_aldn0, ev_cv2, ev_go, ev_i, ev_if0, ev_ild1, ev_ild2, ev_ild3, ev_ist3, ev_ri, ev_sw_0, ev_sw_1, i00, i01, i10, if_false, if_true, pm_bd_s, pm_tl_n, pm_tl_s, pb_X3_leansAt_0, pb_X3_leansAt_1, pb_X3_leansAt_2, pb_X3_leansAt_3, pb_X3_leansAt_4, pb_X3_leansAt_5, kd_4, rf_4_2, fc_4_0, fc_4_1, is_6_3_4, is_3_6_4, is_3_4, at_4_0 hs, at_4_3 hs, sp_isFirst hs, sp_spans hs, bI_0]
  unfold leF
  by_cases k1 : sl h 0 s = 1
  · by_cases q : i = sl h 1 s <;> simp [k1, q]
  · by_cases k4 : sl h 0 s = 4
    · by_cases q : sl h 1 s ≤ i ∧ i ≤ sl h 2 s
      · simp [k4, q]
      · simp only [k4, q]; simp
    · simp [k1, k4]
theorem sp_pushesAt {fb : Bool} {d s : Nat} {i w : Int32} {h : pm_HP} (hs : s < 8) : rs fb (d + 4) n_X3_pushesAt [.ref 4, .int (nI s), .int i, .int w] h = some (some (.int (puF (sl h 0 s) (sl h 1 s) (sl h 2 s) (sl h 3 s) i w)), h) := by
  rw [en_X3_pushesAt]
  simp only [cs8_0, cs8_1, cs8_2, cs8_3, cs8_4, decide_eq_true_eq, ev_ald0, ev_aldn0, ev_cv2, ev_dv, ev_go, ev_i, ev_if0, ev_ild1, ev_ild2, ev_ild3, ev_ri, ev_sw_0, ev_sw_1, i00, i01, i10, if_false, if_true, pm_bd_s, pm_tl_n, pm_tl_s, pb_X3_pushesAt_0, pb_X3_pushesAt_1, pb_X3_pushesAt_2, pb_X3_pushesAt_3, pb_X3_pushesAt_4, pb_X3_pushesAt_5, kd_4, rf_4_2, fc_4_0, fc_4_1, is_6_3_4, is_3_6_4, is_3_4, at_4_0 hs, at_4_3 hs, sp_spans hs, bI_n0]
  unfold puF
  by_cases hw : w ≤ 0
  · have : ¬ 0 < w := Int32.not_lt.mpr hw
    simp [hw, this]
  · have hw2 : 0 < w := Int32.not_le.mp hw
    by_cases q : sl h 1 s ≤ i ∧ i ≤ sl h 2 s
    · by_cases k5 : sl h 0 s = 5
      · simp [hw, hw2, q, k5]
      · by_cases k6 : sl h 0 s = 6
        · simp [hw, hw2, q, k6]
        · simp [hw, hw2, q, k5, k6]
    · simp only [hw, hw2, q]; simp
theorem sp_shortensAt {fb : Bool} {d s : Nat} {i w : Int32} {h : pm_HP} (hs : s < 8) : rs fb (d + 4) n_X3_shortensAt [.ref 4, .int (nI s), .int i, .int w] h = some (some (.int (shF (sl h 0 s) (sl h 1 s) (sl h 2 s) (sl h 3 s) i w)), h) := by
  rw [en_X3_shortensAt]
  simp only [c20, c2i, c2n, c2r, cs8_0, cs8_1, cs8_2, cs8_3, cs8_4, decide_eq_true_eq, ev_ald0, ev_aldn0, ev_bin, ev_cv2, ev_go, ev_i, ev_if0, ev_ild1, ev_ild2, ev_ild3, ev_ild4, ev_ist4, ev_ri, ev_sw_0, ev_sw_1, i00, i01, i10, if_false, if_true, pm_bd_s, pm_tl_n, pm_tl_s, pb_X3_shortensAt_0, pb_X3_shortensAt_1, pb_X3_shortensAt_2, pb_X3_shortensAt_3, pb_X3_shortensAt_4, pb_X3_shortensAt_5, pb_X3_shortensAt_6, pb_X3_shortensAt_7, kd_4, rf_4_2, fc_4_0, fc_4_1, is_6_3_4, is_3_6_4, is_3_4, at_4_0 hs, at_4_3 hs, sp_spans hs, sp_isFirst hs, bI_n0, bI_0]
  unfold shF
  by_cases q : sl h 1 s ≤ i ∧ i ≤ sl h 2 s
  · by_cases k2 : sl h 0 s = 2
    · simp [q, k2]
    · by_cases k3 : sl h 0 s = 3
      · by_cases qf : i = sl h 1 s
        · subst qf
          simp [k3, q.2]
        · simp only [k3, q, qf]; simp
      · by_cases k6 : sl h 0 s = 6
        · simp [q, k6]
        · by_cases k4 : sl h 0 s = 4
          · simp [q, k4]
          · by_cases k5 : sl h 0 s = 5
            · simp [q, k5]
            · simp [q, k2, k3, k4, k5, k6]
  · simp only [q]; simp
/-- KIND_ABOVE -/
def abF (k : Int32) : Int32 := if k = 0 then -1 else if k = 3 then 2 else if k = 4 then 1 else if k = 6 then 5 else if k = 1 ∨ k = 2 ∨ k = 5 then 0 else -1
theorem sp_above {fb : Bool} {d : Nat} {k : Int32} {h : pm_HP} : rs fb (d + 2) n_X3_above [.int k] h = some (some (.int (abF k)), h) := by
  rw [en_X3_above]
  simp only [cs8_0, cs8_1, cs8_2, cs8_3, cs8_4, decide_eq_true_eq, ev_cs3, ev_go, ev_i, ev_if0, ev_ild0, ev_is, ev_ri, ev_v, i00, i01, i10, if_false, if_true, pm_bd_s, pm_tl_n, pm_tl_s, pb_X3_above_0, pb_X3_above_1, pb_X3_above_2, kd_78, al_78, sp_isIn, bI_0]
  by_cases q : 0 ≤ k ∧ k ≤ 6
  · obtain ⟨j, hj, rfl⟩ := nI_of2 (M := 6) (n := 6) (by decide) (Int32.not_lt.mpr q.1) q.2
    have hix : pm_ix (nI j) 7 = true := pm_ix_n (by omega) (by omega)
    have hcl := nI_clamp (show j < 2 ^ 31 by omega)
    simp only [q, hix, hcl, not_true_eq_false, and_self, if_true, if_false]
    rcases (show j = 0 ∨ j = 1 ∨ j = 2 ∨ j = 3 ∨ j = 4 ∨ j = 5 ∨ j = 6 by omega) with rfl | rfl | rfl | rfl | rfl | rfl | rfl <;> rfl
  · have e : abF k = -1 := by
      unfold abF
      have n0 : ∀ c : Int32, 0 ≤ c → c ≤ 6 → ¬ k = c := fun c h1 h2 e => q ⟨e ▸ h1, e ▸ h2⟩
      rw [if_neg (n0 3 (by decide) (by decide)), if_neg (n0 4 (by decide) (by decide)), if_neg (n0 6 (by decide) (by decide))]
      rw [if_neg (c := k = 1 ∨ k = 2 ∨ k = 5) (by
        rintro (e | e | e)
        · exact n0 1 (by decide) (by decide) e
        · exact n0 2 (by decide) (by decide) e
        · exact n0 5 (by decide) (by decide) e)]
      simp
    simp only [q, e, not_false_eq_true, if_true]
