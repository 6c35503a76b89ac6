/-! THE PURE MACHINE: what a method does, said of numbered cells; no addresses, no frames. -/
abbrev pm_HP : Type := (Nat → Nat → Int32) × (Nat → Nat → Int64)
abbrev pm_LS : Type := List (Option Value)
abbrev pm_RV : Type := Option Value × pm_HP
abbrev pm_Out : Type := (pm_LS × List Value × pm_HP) ⊕ ((Nat × pm_LS × List Value × pm_HP) ⊕ (pm_RV ⊕ (Nat × List Value × pm_LS × List Value × pm_HP)))
abbrev pm_Ac : Type := pm_LS → List Value → pm_HP → Option pm_Out
def pm_n (ls : pm_LS) (st : List Value) (h : pm_HP) : Option pm_Out := some (.inl (ls, st, h))
def pm_j (b : Nat) (ls : pm_LS) (st : List Value) (h : pm_HP) : Option pm_Out := some (.inr (.inl (b, ls, st, h)))
def pm_r (v : Option Value) (h : pm_HP) : Option pm_Out := some (.inr (.inr (.inl (v, h))))
def pm_c (y : Nat) (as : List Value) (ls : pm_LS) (st : List Value) (h : pm_HP) : Option pm_Out := some (.inr (.inr (.inr (y, as, ls, st, h))))
/-- a run of n steps at most -/
def pm_rn (pg : Nat → List pm_Ac) (cal : Nat → List Value → pm_HP → Option pm_RV) : Nat → List pm_Ac → pm_LS → List Value → pm_HP → Option pm_RV
  | 0, _, _, _, _ => none
  | _ + 1, [], _, _, _ => none
  | n + 1, a :: k, ls, st, h => match a ls st h with
    | none => none
    | some (.inl (ls', st', h')) => pm_rn pg cal n k ls' st' h'
    | some (.inr (.inl (b, ls', st', h'))) => pm_rn pg cal n (pg b) ls' st' h'
    | some (.inr (.inr (.inl r))) => some r
    | some (.inr (.inr (.inr (y, as, ls', st', h')))) => match cal y as h' with
      | none => none
      | some (v, h'') => pm_rn pg cal n k ls' (v.toList ++ st') h''
theorem pm_rn_mono (pg : Nat → List pm_Ac) (cal : Nat → List Value → pm_HP → Option pm_RV) : ∀ (n : Nat) (k : List pm_Ac) (ls : pm_LS) (st : List Value) (h : pm_HP) (r : pm_RV), pm_rn pg cal n k ls st h = some r → pm_rn pg cal (n + 1) k ls st h = some r := by
  intro n
  induction n with
  | zero => intro k ls st h r hr; simp [pm_rn] at hr
  | succ n ih =>
    intro k ls st h r hr
    cases k with
    | nil => simp [pm_rn] at hr
    | cons a k =>
      rw [pm_rn] at hr ⊢
      cases ha : a ls st h with
      | none => rw [ha] at hr; exact hr
      | some o =>
        rw [ha] at hr
        rcases o with ⟨ls', st', h'⟩ | ⟨b, ls', st', h'⟩ | r' | ⟨y, as, ls', st', h'⟩
        · exact ih _ _ _ _ _ hr
        · exact ih _ _ _ _ _ hr
        · exact hr
        · revert hr
          dsimp only
          cases hc : cal y as h' with
          | none => exact fun hr => hr
          | some vh =>
            obtain ⟨v, h''⟩ := vh
            exact fun hr => ih _ _ _ _ _ hr
theorem pm_rn_le {pg : Nat → List pm_Ac} {cal : Nat → List Value → pm_HP → Option pm_RV} {n n' : Nat} {k : List pm_Ac} {ls : pm_LS} {st : List Value} {h : pm_HP} {r : pm_RV} (hn : n ≤ n') (hr : pm_rn pg cal n k ls st h = some r) : pm_rn pg cal n' k ls st h = some r := by
  induction hn with
  | refl => exact hr
  | step _ ih => exact pm_rn_mono pg cal _ _ _ _ _ _ ih
/-- a whole run -/
noncomputable def pm_ev (pg : Nat → List pm_Ac) (cal : Nat → List Value → pm_HP → Option pm_RV) (k : List pm_Ac) (ls : pm_LS) (st : List Value) (h : pm_HP) : Option pm_RV :=
  @dite (Option pm_RV) (∃ (r : pm_RV) (n : Nat), pm_rn pg cal n k ls st h = some r) (Classical.propDecidable _) (fun hx => some hx.choose) (fun _ => none)
theorem pm_ev_iff {pg : Nat → List pm_Ac} {cal : Nat → List Value → pm_HP → Option pm_RV} {k : List pm_Ac} {ls : pm_LS} {st : List Value} {h : pm_HP} {r : pm_RV} : pm_ev pg cal k ls st h = some r ↔ ∃ n, pm_rn pg cal n k ls st h = some r := by
  unfold pm_ev
  by_cases hx : ∃ (r : pm_RV) (n : Nat), pm_rn pg cal n k ls st h = some r
  · rw [dif_pos hx]
    obtain ⟨n, hn⟩ := hx.choose_spec
    constructor
    · intro e
      have e1 : hx.choose = r := Option.some.inj e
      exact ⟨n, by rw [hn, e1]⟩
    · rintro ⟨n', hn'⟩
      have h1 := pm_rn_le (Nat.le_max_left n n') hn
      have h2 := pm_rn_le (Nat.le_max_right n n') hn'
      rw [h1] at h2
      exact h2
  · rw [dif_neg hx]
    constructor
    · intro e; cases e
    · rintro ⟨n, hn⟩; exact absurd ⟨r, n, hn⟩ hx
/-- what a callee answers, then the rest -/
def pm_bd (o : Option pm_RV) (f : Option Value → pm_HP → Option pm_RV) : Option pm_RV := match o with
  | none => none
  | some (v, h) => f v h
theorem pm_ev_cons (pg : Nat → List pm_Ac) (cal : Nat → List Value → pm_HP → Option pm_RV) (a : pm_Ac) (k : List pm_Ac) (ls : pm_LS) (st : List Value) (h : pm_HP) : pm_ev pg cal (a :: k) ls st h = (match a ls st h with
    | none => none
    | some (.inl (ls', st', h')) => pm_ev pg cal k ls' st' h'
    | some (.inr (.inl (b, ls', st', h'))) => pm_ev pg cal (pg b) ls' st' h'
    | some (.inr (.inr (.inl r))) => some r
    | some (.inr (.inr (.inr (y, as, ls', st', h')))) => pm_bd (cal y as h') (fun v h'' => pm_ev pg cal k ls' (v.toList ++ st') h'')) := by
  apply Option.ext
  intro r
  rw [pm_ev_iff]
  have step : ∀ n, pm_rn pg cal (n + 1) (a :: k) ls st h = (match a ls st h with
    | none => none
    | some (.inl (ls', st', h')) => pm_rn pg cal n k ls' st' h'
    | some (.inr (.inl (b, ls', st', h'))) => pm_rn pg cal n (pg b) ls' st' h'
    | some (.inr (.inr (.inl r))) => some r
    | some (.inr (.inr (.inr (y, as, ls', st', h')))) => match cal y as h' with
      | none => none
      | some (v, h'') => pm_rn pg cal n k ls' (v.toList ++ st') h'') := fun n => rfl
  have zero : ∀ r, ¬ pm_rn pg cal 0 (a :: k) ls st h = some r := fun r e => by cases e
  have red : (∃ n, pm_rn pg cal n (a :: k) ls st h = some r) ↔ ∃ n, pm_rn pg cal (n + 1) (a :: k) ls st h = some r := by
    constructor
    · rintro ⟨n, hn⟩
      cases n with
      | zero => exact absurd hn (zero r)
      | succ n => exact ⟨n, hn⟩
    · rintro ⟨n, hn⟩; exact ⟨n + 1, hn⟩
  rw [red]
  cases ha : a ls st h with
  | none =>
    constructor
    · rintro ⟨n, hn⟩; rw [step, ha] at hn; exact hn
    · intro e; cases e
  | some o =>
    rcases o with ⟨ls', st', h'⟩ | ⟨b, ls', st', h'⟩ | r' | ⟨y, as, ls', st', h'⟩
    · dsimp only
      rw [pm_ev_iff]
      constructor
      · rintro ⟨n, hn⟩; rw [step, ha] at hn; exact ⟨n, hn⟩
      · rintro ⟨n, hn⟩; exact ⟨n, by rw [step, ha]; exact hn⟩
    · dsimp only
      rw [pm_ev_iff]
      constructor
      · rintro ⟨n, hn⟩; rw [step, ha] at hn; exact ⟨n, hn⟩
      · rintro ⟨n, hn⟩; exact ⟨n, by rw [step, ha]; exact hn⟩
    · dsimp only
      constructor
      · rintro ⟨n, hn⟩; rw [step, ha] at hn; exact hn
      · intro e; exact ⟨0, by rw [step, ha]; exact e⟩
    · dsimp only
      cases hc : cal y as h' with
      | none =>
        constructor
        · rintro ⟨n, hn⟩; rw [step, ha] at hn; dsimp only at hn; rw [hc] at hn; exact hn
        · intro e; cases e
      | some vh =>
        obtain ⟨v, h''⟩ := vh
        show _ ↔ pm_ev pg cal k ls' (v.toList ++ st') h'' = some r
        rw [pm_ev_iff]
        constructor
        · rintro ⟨n, hn⟩; rw [step, ha] at hn; dsimp only at hn; rw [hc] at hn; exact ⟨n, hn⟩
        · rintro ⟨n, hn⟩; exact ⟨n, by rw [step, ha]; dsimp only; rw [hc]; exact hn⟩
/-- the locals at a method's entry -/
def pm_in0 : List Value → pm_LS
  | [] => []
  | v :: vs => if v.category = 2 then some v :: none :: pm_in0 vs else some v :: pm_in0 vs
def pm_ini (n : Nat) (as : List Value) : pm_LS := pm_in0 as ++ List.replicate (n - (pm_in0 as).length) none
/-! actions -/
def pm_pI : List Value → Option (Int32 × List Value)
  | .int x :: r => some (x, r)
  | _ => none
def pm_pL : List Value → Option (Int64 × List Value)
  | .long x :: r => some (x, r)
  | _ => none
def pm_pR : List Value → Option (Nat × List Value)
  | .ref x :: r => some (x, r)
  | _ => none
def pm_p1 : List Value → Option (Value × List Value)
  | x :: r => if x.category = 1 then some (x, r) else none
  | _ => none
def pm_lg : pm_LS → Nat → Option Value
  | [], _ => none
  | x :: _, 0 => x
  | _ :: l, n + 1 => pm_lg l n
def pm_c2 : Option Value → Bool
  | some (.long _) => true
  | some (.double _) => true
  | _ => false
/-- a value of one word into a place -/
def pm_l1 : pm_LS → Nat → Value → Option pm_LS
  | [], _, _ => none
  | _ :: l, 0, v => some (some v :: l)
  | x :: l, n + 1, v => if n = 0 ∧ pm_c2 x = true then none else (pm_l1 l n v).map (fun r => x :: r)
/-- a value of two words -/
def pm_l2 : pm_LS → Nat → Value → Option pm_LS
  | _ :: _ :: l, 0, v => some (some v :: none :: l)
  | x :: l, n + 1, v => if n = 0 ∧ pm_c2 x = true then none else (pm_l2 l n v).map (fun r => x :: r)
  | _, _, _ => none
def pm_tk : Nat → List Value → List Value → Option (List Value × List Value)
  | 0, st, acc => some (acc, st)
  | n + 1, v :: st, acc => pm_tk n st (v :: acc)
  | _ + 1, [], _ => none
def pm_cs : List Value → Nat
  | [] => 0
  | v :: st => v.category + pm_cs st
def pm_si (h : pm_HP) (i k : Nat) (v : Int32) : pm_HP := (fun a b => if a = i ∧ b = k then v else h.1 a b, h.2)
def pm_sl (h : pm_HP) (i k : Nat) (v : Int64) : pm_HP := (h.1, fun a b => if a = i ∧ b = k then v else h.2 a b)
def ac_v (v : Value) : pm_Ac := fun ls st h => pm_n ls (v :: st) h
def ac_i (v : Int32) : pm_Ac := ac_v (.int v)
def ac_l (v : Int64) : pm_Ac := ac_v (.long v)
def ac_ild (i : Nat) : pm_Ac := fun ls st h => match pm_lg ls i with
  | some (.int x) => pm_n ls (.int x :: st) h
  | _ => none
def ac_lld (i : Nat) : pm_Ac := fun ls st h => match pm_lg ls i with
  | some (.long x) => pm_n ls (.long x :: st) h
  | _ => none
def ac_ald (i : Nat) : pm_Ac := fun ls st h => match pm_lg ls i with
  | some (.ref x) => pm_n ls (.ref x :: st) h
  | some .null => pm_n ls (.null :: st) h
  | _ => none
def ac_ist (i : Nat) : pm_Ac := fun ls st h => match pm_pI st with
  | some (x, r) => (match pm_l1 ls i (.int x) with
    | some ls' => pm_n ls' r h
    | none => none)
  | none => none
def ac_lst (i : Nat) : pm_Ac := fun ls st h => match pm_pL st with
  | some (x, r) => (match pm_l2 ls i (.long x) with
    | some ls' => pm_n ls' r h
    | none => none)
  | none => none
def ac_ast (i : Nat) : pm_Ac := fun ls st h => match st with
  | .ref x :: r => (match pm_l1 ls i (.ref x) with
    | some ls' => pm_n ls' r h
    | none => none)
  | .null :: r => (match pm_l1 ls i .null with
    | some ls' => pm_n ls' r h
    | none => none)
  | _ => none
def ac_inc (i : Nat) (n : Int32) : pm_Ac := fun ls st h => match pm_lg ls i with
  | some (.int x) => (match pm_l1 ls i (.int (x + n)) with
    | some ls' => pm_n ls' st h
    | none => none)
  | _ => none
def ac_bin (f : Int32 → Int32 → Int32) : pm_Ac := fun ls st h => match pm_pI st with
  | some (y, r) => (match pm_pI r with
    | some (x, r) => pm_n ls (.int (f x y) :: r) h
    | none => none)
  | none => none
def ac_dv (f : Int32 → Int32 → Int32) : pm_Ac := fun ls st h => match pm_pI st with
  | some (y, r) => (match pm_pI r with
    | some (x, r) => if y = 0 then none else pm_n ls (.int (f x y) :: r) h
    | none => none)
  | none => none
def ac_un (f : Int32 → Int32) : pm_Ac := fun ls st h => match pm_pI st with
  | some (x, r) => pm_n ls (.int (f x) :: r) h
  | none => none
def ac_lbin (f : Int64 → Int64 → Int64) : pm_Ac := fun ls st h => match pm_pL st with
  | some (y, r) => (match pm_pL r with
    | some (x, r) => pm_n ls (.long (f x y) :: r) h
    | none => none)
  | none => none
def ac_ldv (f : Int64 → Int64 → Int64) : pm_Ac := fun ls st h => match pm_pL st with
  | some (y, r) => (match pm_pL r with
    | some (x, r) => if y = 0 then none else pm_n ls (.long (f x y) :: r) h
    | none => none)
  | none => none
def ac_lsh (f : Int64 → Int32 → Int64) : pm_Ac := fun ls st h => match pm_pI st with
  | some (y, r) => (match pm_pL r with
    | some (x, r) => pm_n ls (.long (f x y) :: r) h
    | none => none)
  | none => none
def ac_lcmp : pm_Ac := fun ls st h => match pm_pL st with
  | some (y, r) => (match pm_pL r with
    | some (x, r) => pm_n ls (.int (lg_cmp x y) :: r) h
    | none => none)
  | none => none
def ac_i2l : pm_Ac := fun ls st h => match pm_pI st with
  | some (x, r) => pm_n ls (.long x.toInt64 :: r) h
  | none => none
def ac_l2i : pm_Ac := fun ls st h => match pm_pL st with
  | some (x, r) => pm_n ls (.int x.toInt32 :: r) h
  | none => none
def ac_dup : pm_Ac := fun ls st h => match pm_p1 st with
  | some (x, r) => pm_n ls (x :: x :: r) h
  | none => none
def ac_dup2 : pm_Ac := fun ls st h => match pm_p1 st with
  | some (x, r) => (match pm_p1 r with
    | some (y, r) => pm_n ls (x :: y :: x :: y :: r) h
    | none => none)
  | none => none
def ac_pop : pm_Ac := fun ls st h => match pm_p1 st with
  | some (_, r) => pm_n ls r h
  | none => none
def ac_if0 (q : Int32 → Bool) (b : Nat) : pm_Ac := fun ls st h => match pm_pI st with
  | some (x, r) => if q x = true then pm_j b ls r h else pm_n ls r h
  | none => none
def ac_if2 (q : Int32 → Int32 → Bool) (b : Nat) : pm_Ac := fun ls st h => match pm_pI st with
  | some (y, r) => (match pm_pI r with
    | some (x, r) => if q x y = true then pm_j b ls r h else pm_n ls r h
    | none => none)
  | none => none
/-- by a reference that is null or not: q of null, of another -/
def ac_ifn (qn qr : Bool) (b : Nat) : pm_Ac := fun ls st h => match st with
  | .null :: r => if qn = true then pm_j b ls r h else pm_n ls r h
  | .ref _ :: r => if qr = true then pm_j b ls r h else pm_n ls r h
  | _ => none
def ac_go (b : Nat) : pm_Ac := fun ls st h => pm_j b ls st h
def ac_ri : pm_Ac := fun _ st h => match st with
  | [.int x] => pm_r (some (.int x)) h
  | _ => none
def ac_rz (f : Int32 → Int32) : pm_Ac := fun _ st h => match st with
  | [.int x] => if f x = x then pm_r (some (.int x)) h else none
  | _ => none
def ac_rl : pm_Ac := fun _ st h => match st with
  | [.long x] => pm_r (some (.long x)) h
  | _ => none
def ac_ra : pm_Ac := fun _ st h => match st with
  | [.ref x] => pm_r (some (.ref x)) h
  | [.null] => pm_r (some .null) h
  | _ => none
def ac_rv : pm_Ac := fun _ st h => match st with
  | [] => pm_r none h
  | _ => none
/-- Math's -/
def ac_m1 (f : Int32 → Int32) : pm_Ac := fun ls st h => match pm_pI st with
  | some (x, r) => if pm_cs r ≤ 8 then pm_n ls (.int (f x) :: r) h else none
  | none => none
def ac_m2 (f : Int32 → Int32 → Int32) : pm_Ac := fun ls st h => match pm_pI st with
  | some (y, r) => (match pm_pI r with
    | some (x, r) => if pm_cs r ≤ 8 then pm_n ls (.int (f x y) :: r) h else none
    | none => none)
  | none => none
def ac_ml (f : Int64 → Int64) : pm_Ac := fun ls st h => match pm_pL st with
  | some (x, r) => if pm_cs r ≤ 8 then pm_n ls (.long (f x) :: r) h else none
  | none => none
/-- calls: of a static method with n arguments; of a method of a cell of a kind -/
def ac_cs (y n : Nat) : pm_Ac := fun ls st h => match pm_tk n st [] with
  | some (as, r) => if pm_cs r ≤ 8 then pm_c y as ls r h else none
  | none => none
