/-! FROM THE WORLD MADE TO THE LAW'S END -/
theorem lw_run {p : Program} {e : Env} {s : State} {m : MethodId} {below : List Frame} {meth : Method} {c : Code} (l : Launch) {b L : Nat} {xs : Nat → Int32} (hL : L ≤ 3072) (C0 : lw_At p s m meth c b L xs)
    {K : pm_K} (hb8 : K.2.1 88 = b) (hSt : pm_St K s s.heap) (hJ : pm_Inj K) (hA : ∀ q, pm_A K q → s.heap.size ≤ q) {h : pm_HP} (hI : Inv h) {H : Heap} {locs : List Loc} (hP : va_P K.1 vwCl (pm_wd K h) H) (hS : va_S (pm_A K) s.heap H locs)
    {cells slots : Nat} (hc : cells ≤ 600000) (hs : slots ≤ 7302250) {lr : Array Slot} (hl : pm_LR K 4 [some (.ref 88), some (.ref 0), some (.ref 59), some (.int (nI 0))] lr) :
    W p l e room_1 s m #[Value.ref b] below meth c H locs cells slots (lw_Z below #[Value.ref b] s) (F0 m 18 lr []) := by
  obtain ⟨hx, hb, hr, hml, hown, hts, hX, hbl, hlocks, hgv⟩ := C0
  have Cx : pm_Cx K p room_1 s m #[Value.ref b] c cells slots "NeedleLineLaw" code 4 :=
    ⟨hx, hb, hml, hown, pm_big_of hts, hSt, hJ, by decide, by decide, Nat.le_trans hc (by decide), Nat.le_trans hs (by decide)⟩
  have Sx : pm_ScX K L xs s := ⟨by rw [hb8]; exact hX, by rw [hb8]; exact hbl, by rw [hb8]; exact fun q => absurd (hA b q) (by omega)⟩
  obtain ⟨h', hev⟩ := li_loop (fb := K.2.2.2.2.2) (xs := xs) hL (L + 1) 0 h hI (Nat.zero_le L) (by omega)
  rw [pm_ev_iff] at hev
  obtain ⟨n, hev⟩ := hev
  have G := pm_runX (l := l) (mt := pm_mt) (rt := some .boolean) (e := e) (below := below) (meth := meth) (Q := lw_Z below #[Value.ref b] s) Cx Sx (sb_L K l L xs) (cal := rs K.2.2.2.2.2 (1 + 100)) (v := some (.int 1)) (h' := h')
    (fun y1 as1 h1 v1 h2 hc1 => ⟨pm_rm (1 + 100), rfl, rfl, by show (1 + 100) + 1 ≤ 2048; omega, by show 8 + ((pm_mt y1).2.2.1 + 11) + 64 * (1 + 100) ≤ 84000; have := pm_mt40 y1; omega, pm_master hJ (pm_ok K l K.2.2.2.2.2 rfl) pm_mt40 (1 + 100) y1 as1 h1 v1 h2 hc1⟩)
    (fun pc ls hret => ?_) n (P_L xs L 0) 18 _ [] h (sb_L K l L xs 0) hev
  · exact G H locs lr hP hS hl
  · intro H1 locs1 lr1 hP1 hS1 hL1
    refine va_forget (fun q hq => hA _ (hS1.2.2 q hq)) ?_
    refine W.widen (k := 600000) (n := 7302250) hc hs ?_
    exact lw_ret hx hb hr hlocks hret.1
