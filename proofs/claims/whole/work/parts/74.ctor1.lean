/-! CONSTRUCTORS, by program -/
def wx_T6 (E : xa_T) (h0 : Nat) (c r : Int32) (N : Nat) (u : Nat → Nat) : va_W := [(h0, .inr (6, [.int c, .int r, .ref (u 0), .int 0])), ((u 0), .inl (E.2.1, N, .inl (fun _ => 0)))]
set_option maxHeartbeats 4000000 in
set_option maxRecDepth 100000 in
theorem cx_T6 (l : Launch) (E : xa_T) (h0 : Nat) (c r : Int32) (N : Nat) (hvc : xh c 5 = c) (hvr : xh r 60 = r) (hmul : c * r = nI N) (hN : N < 2 ^ 20) : xa_C false l E yX6_init cX6_init 3 2 100 1 N [.int c, .int r] h0 [(h0, .inr (6, [.int 0, .int 0, .null, .int 0]))] (wx_T6 E h0 c r N) := by
  refine xa_enter (by decide) (Nat.le_of_ble_eq_true rfl) (fun p e s m args below meth c0 A X hw hZ ls hl => ?_)
  have hx := X.1
  have hb := X.2.1
  have hl : lv_has ls 3 [(0, .ref h0), (1, .int c), (2, .int r)] := hl
  generalize s.heap = H at hw ⊢
  generalize ([] : List Loc) = locs at hw ⊢
  refine lv_aload_n hx hb dX6_init_0 rfl (lv_at hl 0 rfl) ?_
  refine xa_obj X hl.1 (pm_bm 97 (by decide +kernel) rfl) (pm_bm 84 (by decide +kernel) rfl) (pm_bm 85 (by decide +kernel) rfl) ⟨(Nat.le_of_ble_eq_true rfl), (Nat.le_of_ble_eq_true rfl)⟩ dX6_init_1 ?_
  refine lv_aload_n hx hb dX6_init_4 rfl (lv_at hl 0 rfl) ?_
  refine lv_iconst (v := 0) hx hb dX6_init_5 (by decide) ?_
  refine xa_put X hw 0 (ci := 6) (C := RX6) (T := TX6) (N := 4) (v := .int 0) (ty := .int) rfl rfl tyX6_ok nmX6 3 (by decide) mw_110 rfl rfl rfl rfl (Nat.le_of_ble_eq_true rfl) dX6_init_6 (fun H locs hw => ?_)
  have hw : xa_W E A s [(h0, .inr (6, [.int 0, .int 0, .null, .int 0]))] H locs := hw
  refine lv_aload_n hx hb dX6_init_9 rfl (lv_at hl 0 rfl) ?_
  refine lv_iload_n hx hb dX6_init_10 rfl (lv_at hl 1 rfl) ?_
  refine lv_iconst (v := 5) hx hb dX6_init_11 (by decide) ?_
  refine xa_held X hw hl.1 nw_98 ⟨(Nat.le_of_ble_eq_true rfl), (Nat.le_of_ble_eq_true rfl)⟩ (Nat.le_of_ble_eq_true rfl) ⟨Nat.zero_le _, Nat.zero_le _⟩ dX6_init_12 (v := c) hvc (fun H locs hw => ?_)
  have hw : xa_W E A s [(h0, .inr (6, [.int 0, .int 0, .null, .int 0]))] H locs := hw
  refine xa_putF X hw 0 (ci := 6) (C := RX6) (T := TX6) (N := 4) (v := .int c) (ty := .int) rfl rfl tyX6_ok nmX6 0 (by decide) mw_107 rfl rfl rfl rfl rfl (Nat.le_of_ble_eq_true rfl) dX6_init_15 (fun H locs hw => ?_)
  have hw : xa_W E A s [(h0, .inr (6, [.int c, .int 0, .null, .int 0]))] H locs := hw
  refine lv_aload_n hx hb dX6_init_18 rfl (lv_at hl 0 rfl) ?_
  refine lv_iload_n hx hb dX6_init_19 rfl (lv_at hl 2 rfl) ?_
  refine lv_bipush (v := 60) hx hb dX6_init_20 (by decide) ?_
  refine xa_held X hw hl.1 nw_98 ⟨(Nat.le_of_ble_eq_true rfl), (Nat.le_of_ble_eq_true rfl)⟩ (Nat.le_of_ble_eq_true rfl) ⟨Nat.zero_le _, Nat.zero_le _⟩ dX6_init_22 (v := r) hvr (fun H locs hw => ?_)
  have hw : xa_W E A s [(h0, .inr (6, [.int c, .int 0, .null, .int 0]))] H locs := hw
  refine xa_putF X hw 0 (ci := 6) (C := RX6) (T := TX6) (N := 4) (v := .int r) (ty := .int) rfl rfl tyX6_ok nmX6 1 (by decide) mw_108 rfl rfl rfl rfl rfl (Nat.le_of_ble_eq_true rfl) dX6_init_25 (fun H locs hw => ?_)
  have hw : xa_W E A s [(h0, .inr (6, [.int c, .int r, .null, .int 0]))] H locs := hw
  refine lv_aload_n hx hb dX6_init_28 rfl (lv_at hl 0 rfl) ?_
  refine lv_aload_n hx hb dX6_init_29 rfl (lv_at hl 0 rfl) ?_
  refine xa_get X hw 0 (ci := 6) (C := RX6) (T := TX6) (N := 4) rfl rfl 0 (by decide) mw_107 rfl dX6_init_30 ?_
  refine lv_aload_n hx hb dX6_init_33 rfl (lv_at hl 0 rfl) ?_
  refine xa_get X hw 0 (ci := 6) (C := RX6) (T := TX6) (N := 4) rfl rfl 1 (by decide) mw_108 rfl dX6_init_34 ?_
  refine lv_imul hx hb dX6_init_37 ?_
  refine xa_newa X hw (N := N) (pm_bm 120 (by decide +kernel) rfl) hmul hN (Nat.le_refl _) (by show 0 + N ≤ N; omega) dX6_init_38 (fun q38_0 H hw => ?_)
  have hw : xa_W E A s [(h0, .inr (6, [.int c, .int r, .null, .int 0])), (q38_0, .inl (E.2.1, N, .inl (fun _ => 0)))] H locs := hw
  refine W.widen (k := 1) (n := N) (Nat.le_refl _) (by show 0 + N ≤ N; omega) ?_
  refine xa_putF X hw 0 (ci := 6) (C := RX6) (T := TX6) (N := 4) (v := .ref q38_0) (ty := (.array .int)) rfl rfl tyX6_ok nmX6 2 (by decide) mw_109 rfl rfl rfl rfl rfl (Nat.le_of_ble_eq_true rfl) dX6_init_40 (fun H locs hw => ?_)
  have hw : xa_W E A s [(h0, .inr (6, [.int c, .int r, .ref q38_0, .int 0])), (q38_0, .inl (E.2.1, N, .inl (fun _ => 0)))] H locs := hw
  exact xa_exit (w1 := wx_T6 E h0 c r N) X hw (fun i => ([q38_0] : List Nat).getD i 0) [0, 1] rfl rfl rfl dX6_init_43
def wx_T3 (E : xa_T) (h0 : Nat) (c r : Int32) (N : Nat) (u : Nat → Nat) : va_W := [(h0, .inr (3, [.int c, .int r, .ref (u 0), .int 0])), ((u 0), .inl (E.2.1, N, .inl (fun _ => 0)))]
set_option maxHeartbeats 4000000 in
set_option maxRecDepth 100000 in
theorem cx_T3 (l : Launch) (E : xa_T) (h0 : Nat) (c r : Int32) (N : Nat) (hvc : xh c 5 = c) (hvr : xh r 60 = r) (hmul : c * r = nI N) (hN : N < 2 ^ 20) : xa_C false l E yX6_init cX6_init 3 2 100 1 N [.int c, .int r] h0 [(h0, .inr (3, [.int 0, .int 0, .null, .int 0]))] (wx_T3 E h0 c r N) := by
  refine xa_enter (by decide) (Nat.le_of_ble_eq_true rfl) (fun p e s m args below meth c0 A X hw hZ ls hl => ?_)
  have hx := X.1
  have hb := X.2.1
  have hl : lv_has ls 3 [(0, .ref h0), (1, .int c), (2, .int r)] := hl
  generalize s.heap = H at hw ⊢
  generalize ([] : List Loc) = locs at hw ⊢
  refine lv_aload_n hx hb dX6_init_0 rfl (lv_at hl 0 rfl) ?_
  refine xa_obj X hl.1 (pm_bm 97 (by decide +kernel) rfl) (pm_bm 84 (by decide +kernel) rfl) (pm_bm 85 (by decide +kernel) rfl) ⟨(Nat.le_of_ble_eq_true rfl), (Nat.le_of_ble_eq_true rfl)⟩ dX6_init_1 ?_
  refine lv_aload_n hx hb dX6_init_4 rfl (lv_at hl 0 rfl) ?_
  refine lv_iconst (v := 0) hx hb dX6_init_5 (by decide) ?_
  refine xa_put X hw 0 (ci := 3) (C := RX3) (T := TX3) (N := 4) (v := .int 0) (ty := .int) rfl rfl tyX3_ok nmX3 3 (by decide) mw_110 rfl rfl rfl rfl (Nat.le_of_ble_eq_true rfl) dX6_init_6 (fun H locs hw => ?_)
  have hw : xa_W E A s [(h0, .inr (3, [.int 0, .int 0, .null, .int 0]))] H locs := hw
  refine lv_aload_n hx hb dX6_init_9 rfl (lv_at hl 0 rfl) ?_
  refine lv_iload_n hx hb dX6_init_10 rfl (lv_at hl 1 rfl) ?_
  refine lv_iconst (v := 5) hx hb dX6_init_11 (by decide) ?_
  refine xa_held X hw hl.1 nw_98 ⟨(Nat.le_of_ble_eq_true rfl), (Nat.le_of_ble_eq_true rfl)⟩ (Nat.le_of_ble_eq_true rfl) ⟨Nat.zero_le _, Nat.zero_le _⟩ dX6_init_12 (v := c) hvc (fun H locs hw => ?_)
  have hw : xa_W E A s [(h0, .inr (3, [.int 0, .int 0, .null, .int 0]))] H locs := hw
  refine xa_putF X hw 0 (ci := 3) (C := RX3) (T := TX3) (N := 4) (v := .int c) (ty := .int) rfl rfl tyX3_ok nmX3 0 (by decide) mw_107 rfl rfl rfl rfl rfl (Nat.le_of_ble_eq_true rfl) dX6_init_15 (fun H locs hw => ?_)
  have hw : xa_W E A s [(h0, .inr (3, [.int c, .int 0, .null, .int 0]))] H locs := hw
  refine lv_aload_n hx hb dX6_init_18 rfl (lv_at hl 0 rfl) ?_
  refine lv_iload_n hx hb dX6_init_19 rfl (lv_at hl 2 rfl) ?_
  refine lv_bipush (v := 60) hx hb dX6_init_20 (by decide) ?_
  refine xa_held X hw hl.1 nw_98 ⟨(Nat.le_of_ble_eq_true rfl), (Nat.le_of_ble_eq_true rfl)⟩ (Nat.le_of_ble_eq_true rfl) ⟨Nat.zero_le _, Nat.zero_le _⟩ dX6_init_22 (v := r) hvr (fun H locs hw => ?_)
  have hw : xa_W E A s [(h0, .inr (3, [.int c, .int 0, .null, .int 0]))] H locs := hw
  refine xa_putF X hw 0 (ci := 3) (C := RX3) (T := TX3) (N := 4) (v := .int r) (ty := .int) rfl rfl tyX3_ok nmX3 1 (by decide) mw_108 rfl rfl rfl rfl rfl (Nat.le_of_ble_eq_true rfl) dX6_init_25 (fun H locs hw => ?_)
  have hw : xa_W E A s [(h0, .inr (3, [.int c, .int r, .null, .int 0]))] H locs := hw
  refine lv_aload_n hx hb dX6_init_28 rfl (lv_at hl 0 rfl) ?_
  refine lv_aload_n hx hb dX6_init_29 rfl (lv_at hl 0 rfl) ?_
  refine xa_get X hw 0 (ci := 3) (C := RX3) (T := TX3) (N := 4) rfl rfl 0 (by decide) mw_107 rfl dX6_init_30 ?_
  refine lv_aload_n hx hb dX6_init_33 rfl (lv_at hl 0 rfl) ?_
  refine xa_get X hw 0 (ci := 3) (C := RX3) (T := TX3) (N := 4) rfl rfl 1 (by decide) mw_108 rfl dX6_init_34 ?_
  refine lv_imul hx hb dX6_init_37 ?_
  refine xa_newa X hw (N := N) (pm_bm 120 (by decide +kernel) rfl) hmul hN (Nat.le_refl _) (by show 0 + N ≤ N; omega) dX6_init_38 (fun q38_0 H hw => ?_)
  have hw : xa_W E A s [(h0, .inr (3, [.int c, .int r, .null, .int 0])), (q38_0, .inl (E.2.1, N, .inl (fun _ => 0)))] H locs := hw
  refine W.widen (k := 1) (n := N) (Nat.le_refl _) (by show 0 + N ≤ N; omega) ?_
  refine xa_putF X hw 0 (ci := 3) (C := RX3) (T := TX3) (N := 4) (v := .ref q38_0) (ty := (.array .int)) rfl rfl tyX3_ok nmX3 2 (by decide) mw_109 rfl rfl rfl rfl rfl (Nat.le_of_ble_eq_true rfl) dX6_init_40 (fun H locs hw => ?_)
  have hw : xa_W E A s [(h0, .inr (3, [.int c, .int r, .ref q38_0, .int 0])), (q38_0, .inl (E.2.1, N, .inl (fun _ => 0)))] H locs := hw
  exact xa_exit (w1 := wx_T3 E h0 c r N) X hw (fun i => ([q38_0] : List Nat).getD i 0) [0, 1] rfl rfl rfl dX6_init_43
set_option maxRecDepth 100000 in
theorem cx_use (l : Launch) (E : xa_T) (h0 : Nat) (c r : Int32) (qa : Nat) (us n u : Int32) (hvu : xh n r = u) : xa_C false l E yX6_use cX6_use 2 2 100 0 0 [.int n] h0 [(h0, .inr (6, [.int c, .int r, .ref qa, .int us]))] (fun _ => [(h0, .inr (6, [.int c, .int r, .ref qa, .int u]))]) := by
  refine xa_enter (by decide) (Nat.le_of_ble_eq_true rfl) (fun p e s m args below meth c2 A X hw hZ ls hl => ?_)
  have hx := X.1
  have hb := X.2.1
  have hl : lv_has ls 2 [(0, .ref h0), (1, .int n)] := hl
  generalize s.heap = H at hw ⊢
  generalize ([] : List Loc) = locs at hw ⊢
  refine lv_aload_n hx hb dX6_use_0 rfl (lv_at hl 0 rfl) ?_
  refine lv_iload_n hx hb dX6_use_1 rfl (lv_at hl 1 rfl) ?_
  refine lv_aload_n hx hb dX6_use_2 rfl (lv_at hl 0 rfl) ?_
  refine xa_get X hw 0 (ci := 6) (C := RX6) (T := TX6) (N := 4) rfl rfl 1 (by decide) mw_108 rfl dX6_use_3 ?_
  refine xa_held X hw hl.1 nw_98 ⟨Nat.le_of_ble_eq_true rfl, Nat.le_of_ble_eq_true rfl⟩ (Nat.le_of_ble_eq_true rfl) ⟨Nat.zero_le _, Nat.zero_le _⟩ dX6_use_6 (v := u) hvu (fun H locs hw => ?_)
  refine xa_put X hw 0 (ci := 6) (C := RX6) (T := TX6) (N := 4) (v := .int u) (ty := .int) rfl rfl tyX6_ok nmX6 3 (by decide) mw_110 rfl rfl rfl rfl (Nat.le_of_ble_eq_true rfl) dX6_use_9 (fun H locs hw => ?_)
  have hw : xa_W E A s [(h0, .inr (6, [.int c, .int r, .ref qa, .int u]))] H locs := hw
  exact xa_exit (w1 := fun _ => [(h0, .inr (6, [.int c, .int r, .ref qa, .int u]))]) X hw (fun i => i) [0] rfl rfl rfl dX6_use_12
def wx_X0 (E : xa_T) (h0 : Nat) (u : Nat → Nat) : va_W := [(h0, .inr (0, [.ref (u 0), .int 0])), ((u 0), .inl (E.2.1, 60, .inl (fun _ => 0)))]
set_option maxHeartbeats 4000000 in
set_option maxRecDepth 100000 in
theorem cx_X0 (l : Launch) (E : xa_T) (h0 : Nat) : xa_C false l E yX0_init cX0_init 1 2 100 1 60 [] h0 [(h0, .inr (0, [.null, .int 0]))] (wx_X0 E h0) := by
  refine xa_enter (by decide) (Nat.le_of_ble_eq_true rfl) (fun p e s m args below meth c0 A X hw hZ ls hl => ?_)
  have hx := X.1
  have hb := X.2.1
  have hl : lv_has ls 1 [(0, .ref h0)] := hl
  generalize s.heap = H at hw ⊢
  generalize ([] : List Loc) = locs at hw ⊢
  refine lv_aload_n hx hb dX0_init_0 rfl (lv_at hl 0 rfl) ?_
  refine xa_obj X hl.1 (pm_bm 137 (by decide +kernel) rfl) (pm_bm 84 (by decide +kernel) rfl) (pm_bm 85 (by decide +kernel) rfl) ⟨(Nat.le_of_ble_eq_true rfl), (Nat.le_of_ble_eq_true rfl)⟩ dX0_init_1 ?_
  refine lv_aload_n hx hb dX0_init_4 rfl (lv_at hl 0 rfl) ?_
  refine lv_bipush (v := 60) hx hb dX0_init_5 (by decide) ?_
  refine xa_newa X hw (N := 60) (pm_bm 120 (by decide +kernel) rfl) rfl (by decide) (Nat.le_of_ble_eq_true rfl) (Nat.le_of_ble_eq_true rfl) dX0_init_7 (fun q7_0 H hw => ?_)
  have hw : xa_W E A s [(h0, .inr (0, [.null, .int 0])), (q7_0, .inl (E.2.1, 60, .inl (fun _ => 0)))] H locs := hw
  refine W.widen (k := 1) (n := 60) (Nat.le_of_ble_eq_true rfl) (Nat.le_of_ble_eq_true rfl) ?_
  refine xa_putF X hw 0 (ci := 0) (C := RX0) (T := TX0) (N := 2) (v := .ref q7_0) (ty := (.array .int)) rfl rfl tyX0_ok nmX0 0 (by decide) mw_138 rfl rfl rfl rfl rfl (Nat.le_of_ble_eq_true rfl) dX0_init_9 (fun H locs hw => ?_)
  have hw : xa_W E A s [(h0, .inr (0, [.ref q7_0, .int 0])), (q7_0, .inl (E.2.1, 60, .inl (fun _ => 0)))] H locs := hw
  refine lv_aload_n hx hb dX0_init_12 rfl (lv_at hl 0 rfl) ?_
  refine lv_iconst (v := 0) hx hb dX0_init_13 (by decide) ?_
  refine xa_put X hw 0 (ci := 0) (C := RX0) (T := TX0) (N := 2) (v := .int 0) (ty := .int) rfl rfl tyX0_ok nmX0 1 (by decide) mw_139 rfl rfl rfl rfl (Nat.le_of_ble_eq_true rfl) dX0_init_14 (fun H locs hw => ?_)
  have hw : xa_W E A s [(h0, .inr (0, [.ref q7_0, .int 0])), (q7_0, .inl (E.2.1, 60, .inl (fun _ => 0)))] H locs := hw
  exact xa_exit (w1 := wx_X0 E h0) X hw (fun i => ([q7_0] : List Nat).getD i 0) [0, 1] rfl rfl rfl dX0_init_17
def wx_X2 (E : xa_T) (h0 : Nat) (u : Nat → Nat) : va_W := [(h0, .inr (2, [.ref (u 0), .int 0, .int 0])), ((u 0), .inl (E.2.1, 24, .inl (fun _ => 0)))]
set_option maxHeartbeats 4000000 in
set_option maxRecDepth 100000 in
theorem cx_X2 (l : Launch) (E : xa_T) (h0 : Nat) : xa_C false l E yX2_init cX2_init 1 2 100 1 24 [] h0 [(h0, .inr (2, [.null, .int 0, .int 0]))] (wx_X2 E h0) := by
  refine xa_enter (by decide) (Nat.le_of_ble_eq_true rfl) (fun p e s m args below meth c0 A X hw hZ ls hl => ?_)
  have hx := X.1
  have hb := X.2.1
  have hl : lv_has ls 1 [(0, .ref h0)] := hl
  generalize s.heap = H at hw ⊢
  generalize ([] : List Loc) = locs at hw ⊢
  refine lv_aload_n hx hb dX2_init_0 rfl (lv_at hl 0 rfl) ?_
  refine xa_obj X hl.1 (pm_bm 296 (by decide +kernel) rfl) (pm_bm 84 (by decide +kernel) rfl) (pm_bm 85 (by decide +kernel) rfl) ⟨(Nat.le_of_ble_eq_true rfl), (Nat.le_of_ble_eq_true rfl)⟩ dX2_init_1 ?_
  refine lv_aload_n hx hb dX2_init_4 rfl (lv_at hl 0 rfl) ?_
  refine lv_bipush (v := 24) hx hb dX2_init_5 (by decide) ?_
  refine xa_newa X hw (N := 24) (pm_bm 120 (by decide +kernel) rfl) rfl (by decide) (Nat.le_of_ble_eq_true rfl) (Nat.le_of_ble_eq_true rfl) dX2_init_7 (fun q7_0 H hw => ?_)
  have hw : xa_W E A s [(h0, .inr (2, [.null, .int 0, .int 0])), (q7_0, .inl (E.2.1, 24, .inl (fun _ => 0)))] H locs := hw
  refine W.widen (k := 1) (n := 24) (Nat.le_of_ble_eq_true rfl) (Nat.le_of_ble_eq_true rfl) ?_
  refine xa_putF X hw 0 (ci := 2) (C := RX2) (T := TX2) (N := 3) (v := .ref q7_0) (ty := (.array .int)) rfl rfl tyX2_ok nmX2 0 (by decide) mw_297 rfl rfl rfl rfl rfl (Nat.le_of_ble_eq_true rfl) dX2_init_9 (fun H locs hw => ?_)
  have hw : xa_W E A s [(h0, .inr (2, [.ref q7_0, .int 0, .int 0])), (q7_0, .inl (E.2.1, 24, .inl (fun _ => 0)))] H locs := hw
  refine lv_aload_n hx hb dX2_init_12 rfl (lv_at hl 0 rfl) ?_
  refine lv_iconst (v := 0) hx hb dX2_init_13 (by decide) ?_
  refine xa_put X hw 0 (ci := 2) (C := RX2) (T := TX2) (N := 3) (v := .int 0) (ty := .int) rfl rfl tyX2_ok nmX2 1 (by decide) mw_299 rfl rfl rfl rfl (Nat.le_of_ble_eq_true rfl) dX2_init_14 (fun H locs hw => ?_)
  have hw : xa_W E A s [(h0, .inr (2, [.ref q7_0, .int 0, .int 0])), (q7_0, .inl (E.2.1, 24, .inl (fun _ => 0)))] H locs := hw
  refine lv_aload_n hx hb dX2_init_17 rfl (lv_at hl 0 rfl) ?_
  refine lv_iconst (v := 0) hx hb dX2_init_18 (by decide) ?_
  refine xa_put X hw 0 (ci := 2) (C := RX2) (T := TX2) (N := 3) (v := .int 0) (ty := .int) rfl rfl tyX2_ok nmX2 2 (by decide) mw_301 rfl rfl rfl rfl (Nat.le_of_ble_eq_true rfl) dX2_init_19 (fun H locs hw => ?_)
  have hw : xa_W E A s [(h0, .inr (2, [.ref q7_0, .int 0, .int 0])), (q7_0, .inl (E.2.1, 24, .inl (fun _ => 0)))] H locs := hw
  exact xa_exit (w1 := wx_X2 E h0) X hw (fun i => ([q7_0] : List Nat).getD i 0) [0, 1] rfl rfl rfl dX2_init_22
def wx_X7 (E : xa_T) (h0 : Nat) (u : Nat → Nat) : va_W := [(h0, .inr (7, [.ref (u 0), .ref (u 1), .ref (u 2), .ref (u 3), .ref (u 4), .ref (u 5), .ref (u 6), .int 0, .int 0, .int 0])), ((u 0), .inl (E.2.1, 25, .inl (fun _ => 0))), ((u 1), .inl (E.2.1, 25, .inl (fun _ => 0))), ((u 2), .inl (E.2.1, 24, .inl (fun _ => 0))), ((u 3), .inl (E.2.1, 24, .inl (fun _ => 0))), ((u 4), .inl (E.2.1, 24, .inl (fun _ => 0))), ((u 5), .inl (E.2.1, 24, .inl (fun _ => 0))), ((u 6), .inl (E.2.1, 24, .inl (fun _ => 0)))]
set_option maxHeartbeats 4000000 in
set_option maxRecDepth 100000 in
theorem cx_X7 (l : Launch) (E : xa_T) (h0 : Nat) : xa_C false l E yX7_init cX7_init 1 2 100 7 170 [] h0 [(h0, .inr (7, [.null, .null, .null, .null, .null, .null, .null, .int 0, .int 0, .int 0]))] (wx_X7 E h0) := by
  refine xa_enter (by decide) (Nat.le_of_ble_eq_true rfl) (fun p e s m args below meth c0 A X hw hZ ls hl => ?_)
  have hx := X.1
  have hb := X.2.1
  have hl : lv_has ls 1 [(0, .ref h0)] := hl
  generalize s.heap = H at hw ⊢
  generalize ([] : List Loc) = locs at hw ⊢
  refine lv_aload_n hx hb dX7_init_0 rfl (lv_at hl 0 rfl) ?_
  refine xa_obj X hl.1 (pm_bm 201 (by decide +kernel) rfl) (pm_bm 84 (by decide +kernel) rfl) (pm_bm 85 (by decide +kernel) rfl) ⟨(Nat.le_of_ble_eq_true rfl), (Nat.le_of_ble_eq_true rfl)⟩ dX7_init_1 ?_
  refine lv_aload_n hx hb dX7_init_4 rfl (lv_at hl 0 rfl) ?_
  refine lv_bipush (v := 25) hx hb dX7_init_5 (by decide) ?_
  refine xa_newa X hw (N := 25) (pm_bm 120 (by decide +kernel) rfl) rfl (by decide) (Nat.le_of_ble_eq_true rfl) (Nat.le_of_ble_eq_true rfl) dX7_init_7 (fun q7_0 H hw => ?_)
  have hw : xa_W E A s [(h0, .inr (7, [.null, .null, .null, .null, .null, .null, .null, .int 0, .int 0, .int 0])), (q7_0, .inl (E.2.1, 25, .inl (fun _ => 0)))] H locs := hw
  refine W.widen (k := 1) (n := 25) (Nat.le_of_ble_eq_true rfl) (Nat.le_of_ble_eq_true rfl) ?_
  refine xa_putF X hw 0 (ci := 7) (C := RX7) (T := TX7) (N := 10) (v := .ref q7_0) (ty := (.array .int)) rfl rfl tyX7_ok nmX7 0 (by decide) mw_202 rfl rfl rfl rfl rfl (Nat.le_of_ble_eq_true rfl) dX7_init_9 (fun H locs hw => ?_)
  have hw : xa_W E A s [(h0, .inr (7, [.ref q7_0, .null, .null, .null, .null, .null, .null, .int 0, .int 0, .int 0])), (q7_0, .inl (E.2.1, 25, .inl (fun _ => 0)))] H locs := hw
  refine lv_aload_n hx hb dX7_init_12 rfl (lv_at hl 0 rfl) ?_
  refine lv_bipush (v := 25) hx hb dX7_init_13 (by decide) ?_
  refine xa_newa X hw (N := 25) (pm_bm 120 (by decide +kernel) rfl) rfl (by decide) (Nat.le_of_ble_eq_true rfl) (Nat.le_of_ble_eq_true rfl) dX7_init_15 (fun q15_1 H hw => ?_)
  have hw : xa_W E A s [(h0, .inr (7, [.ref q7_0, .null, .null, .null, .null, .null, .null, .int 0, .int 0, .int 0])), (q7_0, .inl (E.2.1, 25, .inl (fun _ => 0))), (q15_1, .inl (E.2.1, 25, .inl (fun _ => 0)))] H locs := hw
  refine W.widen (k := 2) (n := 50) (Nat.le_of_ble_eq_true rfl) (Nat.le_of_ble_eq_true rfl) ?_
  refine xa_putF X hw 0 (ci := 7) (C := RX7) (T := TX7) (N := 10) (v := .ref q15_1) (ty := (.array .int)) rfl rfl tyX7_ok nmX7 1 (by decide) mw_203 rfl rfl rfl rfl rfl (Nat.le_of_ble_eq_true rfl) dX7_init_17 (fun H locs hw => ?_)
  have hw : xa_W E A s [(h0, .inr (7, [.ref q7_0, .ref q15_1, .null, .null, .null, .null, .null, .int 0, .int 0, .int 0])), (q7_0, .inl (E.2.1, 25, .inl (fun _ => 0))), (q15_1, .inl (E.2.1, 25, .inl (fun _ => 0)))] H locs := hw
  refine lv_aload_n hx hb dX7_init_20 rfl (lv_at hl 0 rfl) ?_
  refine lv_bipush (v := 24) hx hb dX7_init_21 (by decide) ?_
  refine xa_newa X hw (N := 24) (pm_bm 120 (by decide +kernel) rfl) rfl (by decide) (Nat.le_of_ble_eq_true rfl) (Nat.le_of_ble_eq_true rfl) dX7_init_23 (fun q23_2 H hw => ?_)
  have hw : xa_W E A s [(h0, .inr (7, [.ref q7_0, .ref q15_1, .null, .null, .null, .null, .null, .int 0, .int 0, .int 0])), (q7_0, .inl (E.2.1, 25, .inl (fun _ => 0))), (q15_1, .inl (E.2.1, 25, .inl (fun _ => 0))), (q23_2, .inl (E.2.1, 24, .inl (fun _ => 0)))] H locs := hw
  refine W.widen (k := 3) (n := 74) (Nat.le_of_ble_eq_true rfl) (Nat.le_of_ble_eq_true rfl) ?_
  refine xa_putF X hw 0 (ci := 7) (C := RX7) (T := TX7) (N := 10) (v := .ref q23_2) (ty := (.array .int)) rfl rfl tyX7_ok nmX7 2 (by decide) mw_204 rfl rfl rfl rfl rfl (Nat.le_of_ble_eq_true rfl) dX7_init_25 (fun H locs hw => ?_)
  have hw : xa_W E A s [(h0, .inr (7, [.ref q7_0, .ref q15_1, .ref q23_2, .null, .null, .null, .null, .int 0, .int 0, .int 0])), (q7_0, .inl (E.2.1, 25, .inl (fun _ => 0))), (q15_1, .inl (E.2.1, 25, .inl (fun _ => 0))), (q23_2, .inl (E.2.1, 24, .inl (fun _ => 0)))] H locs := hw
  refine lv_aload_n hx hb dX7_init_28 rfl (lv_at hl 0 rfl) ?_
  refine lv_bipush (v := 24) hx hb dX7_init_29 (by decide) ?_
  refine xa_newa X hw (N := 24) (pm_bm 120 (by decide +kernel) rfl) rfl (by decide) (Nat.le_of_ble_eq_true rfl) (Nat.le_of_ble_eq_true rfl) dX7_init_31 (fun q31_3 H hw => ?_)
  have hw : xa_W E A s [(h0, .inr (7, [.ref q7_0, .ref q15_1, .ref q23_2, .null, .null, .null, .null, .int 0, .int 0, .int 0])), (q7_0, .inl (E.2.1, 25, .inl (fun _ => 0))), (q15_1, .inl (E.2.1, 25, .inl (fun _ => 0))), (q23_2, .inl (E.2.1, 24, .inl (fun _ => 0))), (q31_3, .inl (E.2.1, 24, .inl (fun _ => 0)))] H locs := hw
  refine W.widen (k := 4) (n := 98) (Nat.le_of_ble_eq_true rfl) (Nat.le_of_ble_eq_true rfl) ?_
  refine xa_putF X hw 0 (ci := 7) (C := RX7) (T := TX7) (N := 10) (v := .ref q31_3) (ty := (.array .int)) rfl rfl tyX7_ok nmX7 3 (by decide) mw_205 rfl rfl rfl rfl rfl (Nat.le_of_ble_eq_true rfl) dX7_init_33 (fun H locs hw => ?_)
  have hw : xa_W E A s [(h0, .inr (7, [.ref q7_0, .ref q15_1, .ref q23_2, .ref q31_3, .null, .null, .null, .int 0, .int 0, .int 0])), (q7_0, .inl (E.2.1, 25, .inl (fun _ => 0))), (q15_1, .inl (E.2.1, 25, .inl (fun _ => 0))), (q23_2, .inl (E.2.1, 24, .inl (fun _ => 0))), (q31_3, .inl (E.2.1, 24, .inl (fun _ => 0)))] H locs := hw
  refine lv_aload_n hx hb dX7_init_36 rfl (lv_at hl 0 rfl) ?_
  refine lv_bipush (v := 24) hx hb dX7_init_37 (by decide) ?_
  refine xa_newa X hw (N := 24) (pm_bm 120 (by decide +kernel) rfl) rfl (by decide) (Nat.le_of_ble_eq_true rfl) (Nat.le_of_ble_eq_true rfl) dX7_init_39 (fun q39_4 H hw => ?_)
  have hw : xa_W E A s [(h0, .inr (7, [.ref q7_0, .ref q15_1, .ref q23_2, .ref q31_3, .null, .null, .null, .int 0, .int 0, .int 0])), (q7_0, .inl (E.2.1, 25, .inl (fun _ => 0))), (q15_1, .inl (E.2.1, 25, .inl (fun _ => 0))), (q23_2, .inl (E.2.1, 24, .inl (fun _ => 0))), (q31_3, .inl (E.2.1, 24, .inl (fun _ => 0))), (q39_4, .inl (E.2.1, 24, .inl (fun _ => 0)))] H locs := hw
  refine W.widen (k := 5) (n := 122) (Nat.le_of_ble_eq_true rfl) (Nat.le_of_ble_eq_true rfl) ?_
  refine xa_putF X hw 0 (ci := 7) (C := RX7) (T := TX7) (N := 10) (v := .ref q39_4) (ty := (.array .int)) rfl rfl tyX7_ok nmX7 4 (by decide) mw_206 rfl rfl rfl rfl rfl (Nat.le_of_ble_eq_true rfl) dX7_init_41 (fun H locs hw => ?_)
  have hw : xa_W E A s [(h0, .inr (7, [.ref q7_0, .ref q15_1, .ref q23_2, .ref q31_3, .ref q39_4, .null, .null, .int 0, .int 0, .int 0])), (q7_0, .inl (E.2.1, 25, .inl (fun _ => 0))), (q15_1, .inl (E.2.1, 25, .inl (fun _ => 0))), (q23_2, .inl (E.2.1, 24, .inl (fun _ => 0))), (q31_3, .inl (E.2.1, 24, .inl (fun _ => 0))), (q39_4, .inl (E.2.1, 24, .inl (fun _ => 0)))] H locs := hw
  refine lv_aload_n hx hb dX7_init_44 rfl (lv_at hl 0 rfl) ?_
  refine lv_bipush (v := 24) hx hb dX7_init_45 (by decide) ?_
  refine xa_newa X hw (N := 24) (pm_bm 120 (by decide +kernel) rfl) rfl (by decide) (Nat.le_of_ble_eq_true rfl) (Nat.le_of_ble_eq_true rfl) dX7_init_47 (fun q47_5 H hw => ?_)
  have hw : xa_W E A s [(h0, .inr (7, [.ref q7_0, .ref q15_1, .ref q23_2, .ref q31_3, .ref q39_4, .null, .null, .int 0, .int 0, .int 0])), (q7_0, .inl (E.2.1, 25, .inl (fun _ => 0))), (q15_1, .inl (E.2.1, 25, .inl (fun _ => 0))), (q23_2, .inl (E.2.1, 24, .inl (fun _ => 0))), (q31_3, .inl (E.2.1, 24, .inl (fun _ => 0))), (q39_4, .inl (E.2.1, 24, .inl (fun _ => 0))), (q47_5, .inl (E.2.1, 24, .inl (fun _ => 0)))] H locs := hw
  refine W.widen (k := 6) (n := 146) (Nat.le_of_ble_eq_true rfl) (Nat.le_of_ble_eq_true rfl) ?_
  refine xa_putF X hw 0 (ci := 7) (C := RX7) (T := TX7) (N := 10) (v := .ref q47_5) (ty := (.array .int)) rfl rfl tyX7_ok nmX7 5 (by decide) mw_207 rfl rfl rfl rfl rfl (Nat.le_of_ble_eq_true rfl) dX7_init_49 (fun H locs hw => ?_)
  have hw : xa_W E A s [(h0, .inr (7, [.ref q7_0, .ref q15_1, .ref q23_2, .ref q31_3, .ref q39_4, .ref q47_5, .null, .int 0, .int 0, .int 0])), (q7_0, .inl (E.2.1, 25, .inl (fun _ => 0))), (q15_1, .inl (E.2.1, 25, .inl (fun _ => 0))), (q23_2, .inl (E.2.1, 24, .inl (fun _ => 0))), (q31_3, .inl (E.2.1, 24, .inl (fun _ => 0))), (q39_4, .inl (E.2.1, 24, .inl (fun _ => 0))), (q47_5, .inl (E.2.1, 24, .inl (fun _ => 0)))] H locs := hw
  refine lv_aload_n hx hb dX7_init_52 rfl (lv_at hl 0 rfl) ?_
  refine lv_bipush (v := 24) hx hb dX7_init_53 (by decide) ?_
  refine xa_newa X hw (N := 24) (pm_bm 120 (by decide +kernel) rfl) rfl (by decide) (Nat.le_of_ble_eq_true rfl) (Nat.le_of_ble_eq_true rfl) dX7_init_55 (fun q55_6 H hw => ?_)
  have hw : xa_W E A s [(h0, .inr (7, [.ref q7_0, .ref q15_1, .ref q23_2, .ref q31_3, .ref q39_4, .ref q47_5, .null, .int 0, .int 0, .int 0])), (q7_0, .inl (E.2.1, 25, .inl (fun _ => 0))), (q15_1, .inl (E.2.1, 25, .inl (fun _ => 0))), (q23_2, .inl (E.2.1, 24, .inl (fun _ => 0))), (q31_3, .inl (E.2.1, 24, .inl (fun _ => 0))), (q39_4, .inl (E.2.1, 24, .inl (fun _ => 0))), (q47_5, .inl (E.2.1, 24, .inl (fun _ => 0))), (q55_6, .inl (E.2.1, 24, .inl (fun _ => 0)))] H locs := hw
  refine W.widen (k := 7) (n := 170) (Nat.le_of_ble_eq_true rfl) (Nat.le_of_ble_eq_true rfl) ?_
  refine xa_putF X hw 0 (ci := 7) (C := RX7) (T := TX7) (N := 10) (v := .ref q55_6) (ty := (.array .int)) rfl rfl tyX7_ok nmX7 6 (by decide) mw_208 rfl rfl rfl rfl rfl (Nat.le_of_ble_eq_true rfl) dX7_init_57 (fun H locs hw => ?_)
  have hw : xa_W E A s [(h0, .inr (7, [.ref q7_0, .ref q15_1, .ref q23_2, .ref q31_3, .ref q39_4, .ref q47_5, .ref q55_6, .int 0, .int 0, .int 0])), (q7_0, .inl (E.2.1, 25, .inl (fun _ => 0))), (q15_1, .inl (E.2.1, 25, .inl (fun _ => 0))), (q23_2, .inl (E.2.1, 24, .inl (fun _ => 0))), (q31_3, .inl (E.2.1, 24, .inl (fun _ => 0))), (q39_4, .inl (E.2.1, 24, .inl (fun _ => 0))), (q47_5, .inl (E.2.1, 24, .inl (fun _ => 0))), (q55_6, .inl (E.2.1, 24, .inl (fun _ => 0)))] H locs := hw
  refine lv_aload_n hx hb dX7_init_60 rfl (lv_at hl 0 rfl) ?_
  refine lv_iconst (v := 0) hx hb dX7_init_61 (by decide) ?_
  refine xa_put X hw 0 (ci := 7) (C := RX7) (T := TX7) (N := 10) (v := .int 0) (ty := .int) rfl rfl tyX7_ok nmX7 7 (by decide) mw_209 rfl rfl rfl rfl (Nat.le_of_ble_eq_true rfl) dX7_init_62 (fun H locs hw => ?_)
  have hw : xa_W E A s [(h0, .inr (7, [.ref q7_0, .ref q15_1, .ref q23_2, .ref q31_3, .ref q39_4, .ref q47_5, .ref q55_6, .int 0, .int 0, .int 0])), (q7_0, .inl (E.2.1, 25, .inl (fun _ => 0))), (q15_1, .inl (E.2.1, 25, .inl (fun _ => 0))), (q23_2, .inl (E.2.1, 24, .inl (fun _ => 0))), (q31_3, .inl (E.2.1, 24, .inl (fun _ => 0))), (q39_4, .inl (E.2.1, 24, .inl (fun _ => 0))), (q47_5, .inl (E.2.1, 24, .inl (fun _ => 0))), (q55_6, .inl (E.2.1, 24, .inl (fun _ => 0)))] H locs := hw
  refine lv_aload_n hx hb dX7_init_65 rfl (lv_at hl 0 rfl) ?_
  refine lv_iconst (v := 0) hx hb dX7_init_66 (by decide) ?_
  refine xa_put X hw 0 (ci := 7) (C := RX7) (T := TX7) (N := 10) (v := .int 0) (ty := .int) rfl rfl tyX7_ok nmX7 8 (by decide) mw_210 rfl rfl rfl rfl (Nat.le_of_ble_eq_true rfl) dX7_init_67 (fun H locs hw => ?_)
  have hw : xa_W E A s [(h0, .inr (7, [.ref q7_0, .ref q15_1, .ref q23_2, .ref q31_3, .ref q39_4, .ref q47_5, .ref q55_6, .int 0, .int 0, .int 0])), (q7_0, .inl (E.2.1, 25, .inl (fun _ => 0))), (q15_1, .inl (E.2.1, 25, .inl (fun _ => 0))), (q23_2, .inl (E.2.1, 24, .inl (fun _ => 0))), (q31_3, .inl (E.2.1, 24, .inl (fun _ => 0))), (q39_4, .inl (E.2.1, 24, .inl (fun _ => 0))), (q47_5, .inl (E.2.1, 24, .inl (fun _ => 0))), (q55_6, .inl (E.2.1, 24, .inl (fun _ => 0)))] H locs := hw
  refine lv_aload_n hx hb dX7_init_70 rfl (lv_at hl 0 rfl) ?_
  refine lv_iconst (v := 0) hx hb dX7_init_71 (by decide) ?_
  refine xa_put X hw 0 (ci := 7) (C := RX7) (T := TX7) (N := 10) (v := .int 0) (ty := .int) rfl rfl tyX7_ok nmX7 9 (by decide) mw_211 rfl rfl rfl rfl (Nat.le_of_ble_eq_true rfl) dX7_init_72 (fun H locs hw => ?_)
  have hw : xa_W E A s [(h0, .inr (7, [.ref q7_0, .ref q15_1, .ref q23_2, .ref q31_3, .ref q39_4, .ref q47_5, .ref q55_6, .int 0, .int 0, .int 0])), (q7_0, .inl (E.2.1, 25, .inl (fun _ => 0))), (q15_1, .inl (E.2.1, 25, .inl (fun _ => 0))), (q23_2, .inl (E.2.1, 24, .inl (fun _ => 0))), (q31_3, .inl (E.2.1, 24, .inl (fun _ => 0))), (q39_4, .inl (E.2.1, 24, .inl (fun _ => 0))), (q47_5, .inl (E.2.1, 24, .inl (fun _ => 0))), (q55_6, .inl (E.2.1, 24, .inl (fun _ => 0)))] H locs := hw
  exact xa_exit (w1 := wx_X7 E h0) X hw (fun i => ([q7_0, q15_1, q23_2, q31_3, q39_4, q47_5, q55_6] : List Nat).getD i 0) [0, 1, 2, 3, 4, 5, 6, 7] rfl rfl rfl dX7_init_75
def wx_X3 (E : xa_T) (h0 : Nat) (u : Nat → Nat) : va_W := [(h0, .inr (3, [.int 5, .int 8, .ref (u 0), .int 0])), ((u 0), .inl (E.2.1, 40, .inl (fun _ => 0)))]
set_option maxHeartbeats 4000000 in
set_option maxRecDepth 100000 in
theorem cx_X3 (l : Launch) (E : xa_T) (h0 : Nat) : xa_C false l E yX3_init cX3_init 1 3 160 1 40 [] h0 [(h0, .inr (3, [.int 0, .int 0, .null, .int 0]))] (wx_X3 E h0) := by
  refine xa_enter (by decide) (Nat.le_of_ble_eq_true rfl) (fun p e s m args below meth c0 A X hw hZ ls hl => ?_)
  have hx := X.1
  have hb := X.2.1
  have hl : lv_has ls 1 [(0, .ref h0)] := hl
  generalize s.heap = H at hw ⊢
  generalize ([] : List Loc) = locs at hw ⊢
  refine lv_aload_n hx hb dX3_init_0 rfl (lv_at hl 0 rfl) ?_
  refine lv_iconst (v := 5) hx hb dX3_init_1 (by decide) ?_
  refine lv_bipush (v := 8) hx hb dX3_init_2 (by decide) ?_
  refine xa_call (as := [.int 5, .int 8]) (wr := []) X hw (cx_T3 l E h0 5 8 40 (by decide) (by decide) (by decide) (by decide)) (fun h => Bool.noConfusion h) hl.1 [0] [] rfl rfl rfl rfl rfl (by decide) (Or.inl (pm_bm 126 (by decide +kernel) rfl)) (pm_bm 95 (by decide +kernel) rfl) mw_63 (pm_bm 96 (by decide +kernel) rfl) rfl (by decide +kernel) rfl ⟨(Nat.le_of_ble_eq_true rfl), (Nat.le_of_ble_eq_true rfl)⟩ (rest := []) rfl (Nat.le_of_ble_eq_true rfl) dX3_init_4 ⟨(Nat.le_of_ble_eq_true rfl), (Nat.le_of_ble_eq_true rfl)⟩ (fun u4_0 H locs hw => ?_)
  have hw : xa_W E A s [(h0, .inr (3, [.int 5, .int 8, .ref (u4_0 0), .int 0])), ((u4_0 0), .inl (E.2.1, 40, .inl (fun _ => 0)))] H locs := hw
  refine W.widen (k := 1) (n := 40) (Nat.le_of_ble_eq_true rfl) (Nat.le_of_ble_eq_true rfl) ?_
  exact xa_exit (w1 := wx_X3 E h0) X hw (fun i => ([(u4_0 0)] : List Nat).getD i 0) [0, 1] rfl rfl rfl dX3_init_7
def wx_X1 (E : xa_T) (h0 : Nat) (u : Nat → Nat) : va_W := [(h0, .inr (1, [.ref (u 0), .ref (u 2), .ref E.2.2.2.2.1, .int 0, .int 0, .int 0])), ((u 0), .inr (0, [.ref (u 1), .int 0])), ((u 1), .inl (E.2.1, 60, .inl (fun _ => 0))), ((u 2), .inr (6, [.int 1, .int 60, .ref (u 3), .int 0])), ((u 3), .inl (E.2.1, 60, .inl (fun _ => 0)))]
set_option maxHeartbeats 4000000 in
set_option maxRecDepth 100000 in
theorem cx_X1 (l : Launch) (E : xa_T) (h0 : Nat) : xa_C false l E yX1_init cX1_init 1 3 160 4 126 [] h0 [(h0, .inr (1, [.null, .null, .null, .int 0, .int 0, .int 0]))] (wx_X1 E h0) := by
  refine xa_enter (by decide) (Nat.le_of_ble_eq_true rfl) (fun p e s m args below meth c0 A X hw hZ ls hl => ?_)
  have hx := X.1
  have hb := X.2.1
  have hl : lv_has ls 1 [(0, .ref h0)] := hl
  generalize s.heap = H at hw ⊢
  generalize ([] : List Loc) = locs at hw ⊢
  refine lv_aload_n hx hb dX1_init_0 rfl (lv_at hl 0 rfl) ?_
  refine xa_obj X hl.1 (pm_bm 238 (by decide +kernel) rfl) (pm_bm 84 (by decide +kernel) rfl) (pm_bm 85 (by decide +kernel) rfl) ⟨(Nat.le_of_ble_eq_true rfl), (Nat.le_of_ble_eq_true rfl)⟩ dX1_init_1 ?_
  refine lv_aload_n hx hb dX1_init_4 rfl (lv_at hl 0 rfl) ?_
  refine xa_new X hw (ci := 0) (C := RX0) (T := TX0) (N := 2) (ty := tyX0) (fs := [.null, .int 0]) rfl tyX0_ok (pm_bm 239 (by decide +kernel) rfl) (pm_bm 133 (by decide +kernel) rfl) mw_66 (fun j hj => by rcases (show j = 0 ∨ j = 1 by omega) with rfl | rfl <;> rfl) (Nat.le_of_ble_eq_true rfl) (Nat.le_of_ble_eq_true rfl) dX1_init_5 (fun q5_0 H hw => ?_)
  have hw : xa_W E A s [(h0, .inr (1, [.null, .null, .null, .int 0, .int 0, .int 0])), (q5_0, .inr (0, [.null, .int 0]))] H locs := hw
  refine W.widen (k := 1) (n := 2) (Nat.le_of_ble_eq_true rfl) (Nat.le_of_ble_eq_true rfl) ?_
  refine lv_dup hx hb dX1_init_8 rfl ?_
  refine xa_call (as := []) (wr := [(h0, .inr (1, [.null, .null, .null, .int 0, .int 0, .int 0]))]) X hw (cx_X0 l E q5_0) (fun h => Bool.noConfusion h) hl.1 [1] [0] rfl rfl rfl rfl rfl (by decide) (Or.inr ⟨"NeedleLine", (List.mem_filter.mpr ⟨List.mem_of_getElem? (i := 180) (by decide +kernel), rfl⟩)⟩) (pm_bm 135 (by decide +kernel) rfl) mw_66 (pm_bm 136 (by decide +kernel) rfl) rfl (by decide +kernel) rfl ⟨(Nat.le_of_ble_eq_true rfl), (Nat.le_of_ble_eq_true rfl)⟩ (rest := [.ref q5_0, .ref h0]) rfl (Nat.le_of_ble_eq_true rfl) dX1_init_9 ⟨(Nat.le_of_ble_eq_true rfl), (Nat.le_of_ble_eq_true rfl)⟩ (fun u9_1 H locs hw => ?_)
  have hw : xa_W E A s [(h0, .inr (1, [.null, .null, .null, .int 0, .int 0, .int 0])), (q5_0, .inr (0, [.ref (u9_1 0), .int 0])), ((u9_1 0), .inl (E.2.1, 60, .inl (fun _ => 0)))] H locs := hw
  refine W.widen (k := 2) (n := 62) (Nat.le_of_ble_eq_true rfl) (Nat.le_of_ble_eq_true rfl) ?_
  refine xa_putF X hw 0 (ci := 1) (C := RX1) (T := TX1) (N := 6) (v := .ref q5_0) (ty := (.object "NeedleLine$Law")) rfl rfl tyX1_ok nmX1 0 (by decide) mw_244 rfl rfl rfl rfl rfl (Nat.le_of_ble_eq_true rfl) dX1_init_12 (fun H locs hw => ?_)
  have hw : xa_W E A s [(h0, .inr (1, [.ref q5_0, .null, .null, .int 0, .int 0, .int 0])), (q5_0, .inr (0, [.ref (u9_1 0), .int 0])), ((u9_1 0), .inl (E.2.1, 60, .inl (fun _ => 0)))] H locs := hw
  refine lv_aload_n hx hb dX1_init_15 rfl (lv_at hl 0 rfl) ?_
  refine xa_new X hw (ci := 6) (C := RX6) (T := TX6) (N := 4) (ty := tyX6) (fs := [.int 0, .int 0, .null, .int 0]) rfl tyX6_ok (pm_bm 241 (by decide +kernel) rfl) (pm_bm 93 (by decide +kernel) rfl) mw_63 (fun j hj => by rcases (show j = 0 ∨ j = 1 ∨ j = 2 ∨ j = 3 by omega) with rfl | rfl | rfl | rfl <;> rfl) (Nat.le_of_ble_eq_true rfl) (Nat.le_of_ble_eq_true rfl) dX1_init_16 (fun q16_2 H hw => ?_)
  have hw : xa_W E A s [(h0, .inr (1, [.ref q5_0, .null, .null, .int 0, .int 0, .int 0])), (q5_0, .inr (0, [.ref (u9_1 0), .int 0])), ((u9_1 0), .inl (E.2.1, 60, .inl (fun _ => 0))), (q16_2, .inr (6, [.int 0, .int 0, .null, .int 0]))] H locs := hw
  refine W.widen (k := 3) (n := 66) (Nat.le_of_ble_eq_true rfl) (Nat.le_of_ble_eq_true rfl) ?_
  refine lv_dup hx hb dX1_init_19 rfl ?_
  refine lv_iconst (v := 1) hx hb dX1_init_20 (by decide) ?_
  refine lv_bipush (v := 60) hx hb dX1_init_21 (by decide) ?_
  refine xa_call (as := [.int 1, .int 60]) (wr := [(h0, .inr (1, [.ref q5_0, .null, .null, .int 0, .int 0, .int 0])), (q5_0, .inr (0, [.ref (u9_1 0), .int 0])), ((u9_1 0), .inl (E.2.1, 60, .inl (fun _ => 0)))]) X hw (cx_T6 l E q16_2 1 60 60 (by decide) (by decide) (by decide) (by decide)) (fun h => Bool.noConfusion h) hl.1 [3] [0, 1, 2] rfl rfl rfl rfl rfl (by decide) (Or.inl (pm_bm 242 (by decide +kernel) rfl)) (pm_bm 95 (by decide +kernel) rfl) mw_63 (pm_bm 96 (by decide +kernel) rfl) rfl (by decide +kernel) rfl ⟨(Nat.le_of_ble_eq_true rfl), (Nat.le_of_ble_eq_true rfl)⟩ (rest := [.ref q16_2, .ref h0]) rfl (Nat.le_of_ble_eq_true rfl) dX1_init_23 ⟨(Nat.le_of_ble_eq_true rfl), (Nat.le_of_ble_eq_true rfl)⟩ (fun u23_3 H locs hw => ?_)
  have hw : xa_W E A s [(h0, .inr (1, [.ref q5_0, .null, .null, .int 0, .int 0, .int 0])), (q5_0, .inr (0, [.ref (u9_1 0), .int 0])), ((u9_1 0), .inl (E.2.1, 60, .inl (fun _ => 0))), (q16_2, .inr (6, [.int 1, .int 60, .ref (u23_3 0), .int 0])), ((u23_3 0), .inl (E.2.1, 60, .inl (fun _ => 0)))] H locs := hw
  refine W.widen (k := 4) (n := 126) (Nat.le_of_ble_eq_true rfl) (Nat.le_of_ble_eq_true rfl) ?_
  refine xa_putF X hw 0 (ci := 1) (C := RX1) (T := TX1) (N := 6) (v := .ref q16_2) (ty := (.object "NeedleLine$Table")) rfl rfl tyX1_ok nmX1 1 (by decide) mw_246 rfl rfl rfl rfl rfl (Nat.le_of_ble_eq_true rfl) dX1_init_26 (fun H locs hw => ?_)
  have hw : xa_W E A s [(h0, .inr (1, [.ref q5_0, .ref q16_2, .null, .int 0, .int 0, .int 0])), (q5_0, .inr (0, [.ref (u9_1 0), .int 0])), ((u9_1 0), .inl (E.2.1, 60, .inl (fun _ => 0))), (q16_2, .inr (6, [.int 1, .int 60, .ref (u23_3 0), .int 0])), ((u23_3 0), .inl (E.2.1, 60, .inl (fun _ => 0)))] H locs := hw
  refine lv_aload_n hx hb dX1_init_29 rfl (lv_at hl 0 rfl) ?_
  refine va_ldcS hx hb X.2.2.2.1 X.2.2.2.2.2.1.2.2.2.2.1 dX1_init_30 ?_
  refine xa_put X hw 0 (ci := 1) (C := RX1) (T := TX1) (N := 6) (v := .ref E.2.2.2.2.1) (ty := (.object "java/lang/String")) rfl rfl tyX1_ok nmX1 2 (by decide) mw_247 rfl rfl rfl rfl (Nat.le_of_ble_eq_true rfl) dX1_init_32 (fun H locs hw => ?_)
  have hw : xa_W E A s [(h0, .inr (1, [.ref q5_0, .ref q16_2, .ref E.2.2.2.2.1, .int 0, .int 0, .int 0])), (q5_0, .inr (0, [.ref (u9_1 0), .int 0])), ((u9_1 0), .inl (E.2.1, 60, .inl (fun _ => 0))), (q16_2, .inr (6, [.int 1, .int 60, .ref (u23_3 0), .int 0])), ((u23_3 0), .inl (E.2.1, 60, .inl (fun _ => 0)))] H locs := hw
  refine lv_aload_n hx hb dX1_init_35 rfl (lv_at hl 0 rfl) ?_
  refine lv_iconst (v := 0) hx hb dX1_init_36 (by decide) ?_
  refine xa_put X hw 0 (ci := 1) (C := RX1) (T := TX1) (N := 6) (v := .int 0) (ty := .int) rfl rfl tyX1_ok nmX1 3 (by decide) mw_248 rfl rfl rfl rfl (Nat.le_of_ble_eq_true rfl) dX1_init_37 (fun H locs hw => ?_)
  have hw : xa_W E A s [(h0, .inr (1, [.ref q5_0, .ref q16_2, .ref E.2.2.2.2.1, .int 0, .int 0, .int 0])), (q5_0, .inr (0, [.ref (u9_1 0), .int 0])), ((u9_1 0), .inl (E.2.1, 60, .inl (fun _ => 0))), (q16_2, .inr (6, [.int 1, .int 60, .ref (u23_3 0), .int 0])), ((u23_3 0), .inl (E.2.1, 60, .inl (fun _ => 0)))] H locs := hw
  refine lv_aload_n hx hb dX1_init_40 rfl (lv_at hl 0 rfl) ?_
  refine lv_iconst (v := 0) hx hb dX1_init_41 (by decide) ?_
  refine xa_put X hw 0 (ci := 1) (C := RX1) (T := TX1) (N := 6) (v := .int 0) (ty := .int) rfl rfl tyX1_ok nmX1 4 (by decide) mw_249 rfl rfl rfl rfl (Nat.le_of_ble_eq_true rfl) dX1_init_42 (fun H locs hw => ?_)
  have hw : xa_W E A s [(h0, .inr (1, [.ref q5_0, .ref q16_2, .ref E.2.2.2.2.1, .int 0, .int 0, .int 0])), (q5_0, .inr (0, [.ref (u9_1 0), .int 0])), ((u9_1 0), .inl (E.2.1, 60, .inl (fun _ => 0))), (q16_2, .inr (6, [.int 1, .int 60, .ref (u23_3 0), .int 0])), ((u23_3 0), .inl (E.2.1, 60, .inl (fun _ => 0)))] H locs := hw
  refine lv_aload_n hx hb dX1_init_45 rfl (lv_at hl 0 rfl) ?_
  refine lv_iconst (v := 0) hx hb dX1_init_46 (by decide) ?_
  refine xa_put X hw 0 (ci := 1) (C := RX1) (T := TX1) (N := 6) (v := .int 0) (ty := .boolean) rfl rfl tyX1_ok nmX1 5 (by decide) mw_250 rfl rfl rfl rfl (Nat.le_of_ble_eq_true rfl) dX1_init_47 (fun H locs hw => ?_)
  have hw : xa_W E A s [(h0, .inr (1, [.ref q5_0, .ref q16_2, .ref E.2.2.2.2.1, .int 0, .int 0, .int 0])), (q5_0, .inr (0, [.ref (u9_1 0), .int 0])), ((u9_1 0), .inl (E.2.1, 60, .inl (fun _ => 0))), (q16_2, .inr (6, [.int 1, .int 60, .ref (u23_3 0), .int 0])), ((u23_3 0), .inl (E.2.1, 60, .inl (fun _ => 0)))] H locs := hw
  exact xa_exit (w1 := wx_X1 E h0) X hw (fun i => ([q5_0, (u9_1 0), q16_2, (u23_3 0)] : List Nat).getD i 0) [0, 1, 2, 3, 4] rfl rfl rfl dX1_init_50
def wx_X4 (E : xa_T) (h0 : Nat) (u : Nat → Nat) : va_W := [(h0, .inr (4, [.ref (u 0), .int 0, .int 0, .int 0, .int 0])), ((u 0), .inr (6, [.int 1, .int 30, .ref (u 1), .int 0])), ((u 1), .inl (E.2.1, 30, .inl (fun _ => 0)))]
set_option maxHeartbeats 4000000 in
set_option maxRecDepth 100000 in
theorem cx_X4 (l : Launch) (E : xa_T) (h0 : Nat) : xa_C false l E yX4_init cX4_init 1 3 160 2 34 [] h0 [(h0, .inr (4, [.null, .int 0, .int 0, .int 0, .int 0]))] (wx_X4 E h0) := by
  refine xa_enter (by decide) (Nat.le_of_ble_eq_true rfl) (fun p e s m args below meth c0 A X hw hZ ls hl => ?_)
  have hx := X.1
  have hb := X.2.1
  have hl : lv_has ls 1 [(0, .ref h0)] := hl
  generalize s.heap = H at hw ⊢
  generalize ([] : List Loc) = locs at hw ⊢
  refine lv_aload_n hx hb dX4_init_0 rfl (lv_at hl 0 rfl) ?_
  refine xa_obj X hl.1 (pm_bm 270 (by decide +kernel) rfl) (pm_bm 84 (by decide +kernel) rfl) (pm_bm 85 (by decide +kernel) rfl) ⟨(Nat.le_of_ble_eq_true rfl), (Nat.le_of_ble_eq_true rfl)⟩ dX4_init_1 ?_
  refine lv_aload_n hx hb dX4_init_4 rfl (lv_at hl 0 rfl) ?_
  refine xa_new X hw (ci := 6) (C := RX6) (T := TX6) (N := 4) (ty := tyX6) (fs := [.int 0, .int 0, .null, .int 0]) rfl tyX6_ok (pm_bm 271 (by decide +kernel) rfl) (pm_bm 93 (by decide +kernel) rfl) mw_63 (fun j hj => by rcases (show j = 0 ∨ j = 1 ∨ j = 2 ∨ j = 3 by omega) with rfl | rfl | rfl | rfl <;> rfl) (Nat.le_of_ble_eq_true rfl) (Nat.le_of_ble_eq_true rfl) dX4_init_5 (fun q5_0 H hw => ?_)
  have hw : xa_W E A s [(h0, .inr (4, [.null, .int 0, .int 0, .int 0, .int 0])), (q5_0, .inr (6, [.int 0, .int 0, .null, .int 0]))] H locs := hw
  refine W.widen (k := 1) (n := 4) (Nat.le_of_ble_eq_true rfl) (Nat.le_of_ble_eq_true rfl) ?_
  refine lv_dup hx hb dX4_init_8 rfl ?_
  refine lv_iconst (v := 1) hx hb dX4_init_9 (by decide) ?_
  refine lv_bipush (v := 30) hx hb dX4_init_10 (by decide) ?_
  refine xa_call (as := [.int 1, .int 30]) (wr := [(h0, .inr (4, [.null, .int 0, .int 0, .int 0, .int 0]))]) X hw (cx_T6 l E q5_0 1 30 30 (by decide) (by decide) (by decide) (by decide)) (fun h => Bool.noConfusion h) hl.1 [1] [0] rfl rfl rfl rfl rfl (by decide) (Or.inl (pm_bm 272 (by decide +kernel) rfl)) (pm_bm 95 (by decide +kernel) rfl) mw_63 (pm_bm 96 (by decide +kernel) rfl) rfl (by decide +kernel) rfl ⟨(Nat.le_of_ble_eq_true rfl), (Nat.le_of_ble_eq_true rfl)⟩ (rest := [.ref q5_0, .ref h0]) rfl (Nat.le_of_ble_eq_true rfl) dX4_init_12 ⟨(Nat.le_of_ble_eq_true rfl), (Nat.le_of_ble_eq_true rfl)⟩ (fun u12_1 H locs hw => ?_)
  have hw : xa_W E A s [(h0, .inr (4, [.null, .int 0, .int 0, .int 0, .int 0])), (q5_0, .inr (6, [.int 1, .int 30, .ref (u12_1 0), .int 0])), ((u12_1 0), .inl (E.2.1, 30, .inl (fun _ => 0)))] H locs := hw
  refine W.widen (k := 2) (n := 34) (Nat.le_of_ble_eq_true rfl) (Nat.le_of_ble_eq_true rfl) ?_
  refine xa_putF X hw 0 (ci := 4) (C := RX4) (T := TX4) (N := 5) (v := .ref q5_0) (ty := (.object "NeedleLine$Table")) rfl rfl tyX4_ok nmX4 0 (by decide) mw_273 rfl rfl rfl rfl rfl (Nat.le_of_ble_eq_true rfl) dX4_init_15 (fun H locs hw => ?_)
  have hw : xa_W E A s [(h0, .inr (4, [.ref q5_0, .int 0, .int 0, .int 0, .int 0])), (q5_0, .inr (6, [.int 1, .int 30, .ref (u12_1 0), .int 0])), ((u12_1 0), .inl (E.2.1, 30, .inl (fun _ => 0)))] H locs := hw
  refine lv_aload_n hx hb dX4_init_18 rfl (lv_at hl 0 rfl) ?_
  refine lv_iconst (v := 0) hx hb dX4_init_19 (by decide) ?_
  refine xa_put X hw 0 (ci := 4) (C := RX4) (T := TX4) (N := 5) (v := .int 0) (ty := .int) rfl rfl tyX4_ok nmX4 1 (by decide) mw_275 rfl rfl rfl rfl (Nat.le_of_ble_eq_true rfl) dX4_init_20 (fun H locs hw => ?_)
  have hw : xa_W E A s [(h0, .inr (4, [.ref q5_0, .int 0, .int 0, .int 0, .int 0])), (q5_0, .inr (6, [.int 1, .int 30, .ref (u12_1 0), .int 0])), ((u12_1 0), .inl (E.2.1, 30, .inl (fun _ => 0)))] H locs := hw
  refine lv_aload_n hx hb dX4_init_23 rfl (lv_at hl 0 rfl) ?_
  refine lv_iconst (v := 0) hx hb dX4_init_24 (by decide) ?_
  refine xa_put X hw 0 (ci := 4) (C := RX4) (T := TX4) (N := 5) (v := .int 0) (ty := .int) rfl rfl tyX4_ok nmX4 2 (by decide) mw_276 rfl rfl rfl rfl (Nat.le_of_ble_eq_true rfl) dX4_init_25 (fun H locs hw => ?_)
  have hw : xa_W E A s [(h0, .inr (4, [.ref q5_0, .int 0, .int 0, .int 0, .int 0])), (q5_0, .inr (6, [.int 1, .int 30, .ref (u12_1 0), .int 0])), ((u12_1 0), .inl (E.2.1, 30, .inl (fun _ => 0)))] H locs := hw
  refine lv_aload_n hx hb dX4_init_28 rfl (lv_at hl 0 rfl) ?_
  refine lv_iconst (v := 0) hx hb dX4_init_29 (by decide) ?_
  refine xa_put X hw 0 (ci := 4) (C := RX4) (T := TX4) (N := 5) (v := .int 0) (ty := .int) rfl rfl tyX4_ok nmX4 3 (by decide) mw_277 rfl rfl rfl rfl (Nat.le_of_ble_eq_true rfl) dX4_init_30 (fun H locs hw => ?_)
  have hw : xa_W E A s [(h0, .inr (4, [.ref q5_0, .int 0, .int 0, .int 0, .int 0])), (q5_0, .inr (6, [.int 1, .int 30, .ref (u12_1 0), .int 0])), ((u12_1 0), .inl (E.2.1, 30, .inl (fun _ => 0)))] H locs := hw
  refine lv_aload_n hx hb dX4_init_33 rfl (lv_at hl 0 rfl) ?_
  refine lv_iconst (v := 0) hx hb dX4_init_34 (by decide) ?_
  refine xa_put X hw 0 (ci := 4) (C := RX4) (T := TX4) (N := 5) (v := .int 0) (ty := .boolean) rfl rfl tyX4_ok nmX4 4 (by decide) mw_278 rfl rfl rfl rfl (Nat.le_of_ble_eq_true rfl) dX4_init_35 (fun H locs hw => ?_)
  have hw : xa_W E A s [(h0, .inr (4, [.ref q5_0, .int 0, .int 0, .int 0, .int 0])), (q5_0, .inr (6, [.int 1, .int 30, .ref (u12_1 0), .int 0])), ((u12_1 0), .inl (E.2.1, 30, .inl (fun _ => 0)))] H locs := hw
  exact xa_exit (w1 := wx_X4 E h0) X hw (fun i => ([q5_0, (u12_1 0)] : List Nat).getD i 0) [0, 1, 2] rfl rfl rfl dX4_init_38
def wx_X5 (E : xa_T) (h0 : Nat) (u : Nat → Nat) : va_W := [(h0, .inr (5, [.ref (u 13), .ref (u 1), .ref (u 3), .ref (u 5), .ref (u 7), .ref (u 9), .ref (u 11), .int 0, .int 21120, .int 1])), ((u 0), .inl (E.2.1, 120, .inl (fun _ => 0))), ((u 1), .inr (3, [.int 5, .int 8, .ref (u 2), .int 0])), ((u 2), .inl (E.2.1, 40, .inl (fun _ => 0))), ((u 3), .inr (6, [.int 4, .int 16, .ref (u 4), .int 0])), ((u 4), .inl (E.2.1, 64, .inl (fun _ => 0))), ((u 5), .inr (6, [.int 1, .int 60, .ref (u 6), .int 0])), ((u 6), .inl (E.2.1, 60, .inl (fun _ => 0))), ((u 7), .inr (6, [.int 1, .int 24, .ref (u 8), .int 0])), ((u 8), .inl (E.2.1, 24, .inl (fun _ => 0))), ((u 9), .inr (0, [.ref (u 10), .int 0])), ((u 10), .inl (E.2.1, 60, .inl (fun _ => 0))), ((u 11), .inr (0, [.ref (u 12), .int 0])), ((u 12), .inl (E.2.1, 60, .inl (fun _ => 0))), ((u 13), .inr (6, [.int 5, .int 24, .ref (u 0), .int 12]))]
set_option maxHeartbeats 4000000 in
set_option maxRecDepth 100000 in
theorem cx_X5 (l : Launch) (E : xa_T) (h0 : Nat) : xa_C false l E yX5_init cX5_init 1 4 220 14 452 [] h0 [(h0, .inr (5, [.null, .null, .null, .null, .null, .null, .null, .int 0, .int 0, .int 0]))] (wx_X5 E h0) := by
  refine xa_enter (by decide) (Nat.le_of_ble_eq_true rfl) (fun p e s m args below meth c0 A X hw hZ ls hl => ?_)
  have hx := X.1
  have hb := X.2.1
  have hl : lv_has ls 1 [(0, .ref h0)] := hl
  generalize s.heap = H at hw ⊢
  generalize ([] : List Loc) = locs at hw ⊢
  refine lv_aload_n hx hb dX5_init_0 rfl (lv_at hl 0 rfl) ?_
  refine xa_obj X hl.1 (pm_bm 91 (by decide +kernel) rfl) (pm_bm 84 (by decide +kernel) rfl) (pm_bm 85 (by decide +kernel) rfl) ⟨(Nat.le_of_ble_eq_true rfl), (Nat.le_of_ble_eq_true rfl)⟩ dX5_init_1 ?_
  refine lv_aload_n hx hb dX5_init_4 rfl (lv_at hl 0 rfl) ?_
  refine xa_new X hw (ci := 6) (C := RX6) (T := TX6) (N := 4) (ty := tyX6) (fs := [.int 0, .int 0, .null, .int 0]) rfl tyX6_ok (pm_bm 92 (by decide +kernel) rfl) (pm_bm 93 (by decide +kernel) rfl) mw_63 (fun j hj => by rcases (show j = 0 ∨ j = 1 ∨ j = 2 ∨ j = 3 by omega) with rfl | rfl | rfl | rfl <;> rfl) (Nat.le_of_ble_eq_true rfl) (Nat.le_of_ble_eq_true rfl) dX5_init_5 (fun q5_0 H hw => ?_)
  have hw : xa_W E A s [(h0, .inr (5, [.null, .null, .null, .null, .null, .null, .null, .int 0, .int 0, .int 0])), (q5_0, .inr (6, [.int 0, .int 0, .null, .int 0]))] H locs := hw
  refine W.widen (k := 1) (n := 4) (Nat.le_of_ble_eq_true rfl) (Nat.le_of_ble_eq_true rfl) ?_
  refine lv_dup hx hb dX5_init_8 rfl ?_
  refine lv_iconst (v := 5) hx hb dX5_init_9 (by decide) ?_
  refine lv_bipush (v := 24) hx hb dX5_init_10 (by decide) ?_
  refine xa_call (as := [.int 5, .int 24]) (wr := [(h0, .inr (5, [.null, .null, .null, .null, .null, .null, .null, .int 0, .int 0, .int 0]))]) X hw (cx_T6 l E q5_0 5 24 120 (by decide) (by decide) (by decide) (by decide)) (fun h => Bool.noConfusion h) hl.1 [1] [0] rfl rfl rfl rfl rfl (by decide) (Or.inl (pm_bm 94 (by decide +kernel) rfl)) (pm_bm 95 (by decide +kernel) rfl) mw_63 (pm_bm 96 (by decide +kernel) rfl) rfl (by decide +kernel) rfl ⟨(Nat.le_of_ble_eq_true rfl), (Nat.le_of_ble_eq_true rfl)⟩ (rest := [.ref q5_0, .ref h0]) rfl (Nat.le_of_ble_eq_true rfl) dX5_init_12 ⟨(Nat.le_of_ble_eq_true rfl), (Nat.le_of_ble_eq_true rfl)⟩ (fun u12_1 H locs hw => ?_)
  have hw : xa_W E A s [(h0, .inr (5, [.null, .null, .null, .null, .null, .null, .null, .int 0, .int 0, .int 0])), (q5_0, .inr (6, [.int 5, .int 24, .ref (u12_1 0), .int 0])), ((u12_1 0), .inl (E.2.1, 120, .inl (fun _ => 0)))] H locs := hw
  refine W.widen (k := 2) (n := 124) (Nat.le_of_ble_eq_true rfl) (Nat.le_of_ble_eq_true rfl) ?_
  refine xa_putF X hw 0 (ci := 5) (C := RX5) (T := TX5) (N := 10) (v := .ref q5_0) (ty := (.object "NeedleLine$Table")) rfl rfl tyX5_ok nmX5 0 (by decide) mw_151 rfl rfl rfl rfl rfl (Nat.le_of_ble_eq_true rfl) dX5_init_15 (fun H locs hw => ?_)
  have hw : xa_W E A s [(h0, .inr (5, [.ref q5_0, .null, .null, .null, .null, .null, .null, .int 0, .int 0, .int 0])), (q5_0, .inr (6, [.int 5, .int 24, .ref (u12_1 0), .int 0])), ((u12_1 0), .inl (E.2.1, 120, .inl (fun _ => 0)))] H locs := hw
  refine lv_aload_n hx hb dX5_init_18 rfl (lv_at hl 0 rfl) ?_
  refine xa_new X hw (ci := 3) (C := RX3) (T := TX3) (N := 4) (ty := tyX3) (fs := [.int 0, .int 0, .null, .int 0]) rfl tyX3_ok (pm_bm 121 (by decide +kernel) rfl) (pm_bm 122 (by decide +kernel) rfl) mw_65 (fun j hj => by rcases (show j = 0 ∨ j = 1 ∨ j = 2 ∨ j = 3 by omega) with rfl | rfl | rfl | rfl <;> rfl) (Nat.le_of_ble_eq_true rfl) (Nat.le_of_ble_eq_true rfl) dX5_init_19 (fun q19_2 H hw => ?_)
  have hw : xa_W E A s [(h0, .inr (5, [.ref q5_0, .null, .null, .null, .null, .null, .null, .int 0, .int 0, .int 0])), (q5_0, .inr (6, [.int 5, .int 24, .ref (u12_1 0), .int 0])), ((u12_1 0), .inl (E.2.1, 120, .inl (fun _ => 0))), (q19_2, .inr (3, [.int 0, .int 0, .null, .int 0]))] H locs := hw
  refine W.widen (k := 3) (n := 128) (Nat.le_of_ble_eq_true rfl) (Nat.le_of_ble_eq_true rfl) ?_
  refine lv_dup hx hb dX5_init_22 rfl ?_
  refine xa_call (as := []) (wr := [(h0, .inr (5, [.ref q5_0, .null, .null, .null, .null, .null, .null, .int 0, .int 0, .int 0])), (q5_0, .inr (6, [.int 5, .int 24, .ref (u12_1 0), .int 0])), ((u12_1 0), .inl (E.2.1, 120, .inl (fun _ => 0)))]) X hw (cx_X3 l E q19_2) (fun h => Bool.noConfusion h) hl.1 [3] [0, 1, 2] rfl rfl rfl rfl rfl (by decide) (Or.inl (pm_bm 123 (by decide +kernel) rfl)) (pm_bm 124 (by decide +kernel) rfl) mw_65 (pm_bm 125 (by decide +kernel) rfl) rfl (by decide +kernel) rfl ⟨(Nat.le_of_ble_eq_true rfl), (Nat.le_of_ble_eq_true rfl)⟩ (rest := [.ref q19_2, .ref h0]) rfl (Nat.le_of_ble_eq_true rfl) dX5_init_23 ⟨(Nat.le_of_ble_eq_true rfl), (Nat.le_of_ble_eq_true rfl)⟩ (fun u23_3 H locs hw => ?_)
  have hw : xa_W E A s [(h0, .inr (5, [.ref q5_0, .null, .null, .null, .null, .null, .null, .int 0, .int 0, .int 0])), (q5_0, .inr (6, [.int 5, .int 24, .ref (u12_1 0), .int 0])), ((u12_1 0), .inl (E.2.1, 120, .inl (fun _ => 0))), (q19_2, .inr (3, [.int 5, .int 8, .ref (u23_3 0), .int 0])), ((u23_3 0), .inl (E.2.1, 40, .inl (fun _ => 0)))] H locs := hw
  refine W.widen (k := 4) (n := 168) (Nat.le_of_ble_eq_true rfl) (Nat.le_of_ble_eq_true rfl) ?_
  refine xa_putF X hw 0 (ci := 5) (C := RX5) (T := TX5) (N := 10) (v := .ref q19_2) (ty := (.object "NeedleLine$Slips")) rfl rfl tyX5_ok nmX5 1 (by decide) mw_154 rfl rfl rfl rfl rfl (Nat.le_of_ble_eq_true rfl) dX5_init_26 (fun H locs hw => ?_)
  have hw : xa_W E A s [(h0, .inr (5, [.ref q5_0, .ref q19_2, .null, .null, .null, .null, .null, .int 0, .int 0, .int 0])), (q5_0, .inr (6, [.int 5, .int 24, .ref (u12_1 0), .int 0])), ((u12_1 0), .inl (E.2.1, 120, .inl (fun _ => 0))), (q19_2, .inr (3, [.int 5, .int 8, .ref (u23_3 0), .int 0])), ((u23_3 0), .inl (E.2.1, 40, .inl (fun _ => 0)))] H locs := hw
  refine lv_aload_n hx hb dX5_init_29 rfl (lv_at hl 0 rfl) ?_
  refine xa_new X hw (ci := 6) (C := RX6) (T := TX6) (N := 4) (ty := tyX6) (fs := [.int 0, .int 0, .null, .int 0]) rfl tyX6_ok (pm_bm 92 (by decide +kernel) rfl) (pm_bm 93 (by decide +kernel) rfl) mw_63 (fun j hj => by rcases (show j = 0 ∨ j = 1 ∨ j = 2 ∨ j = 3 by omega) with rfl | rfl | rfl | rfl <;> rfl) (Nat.le_of_ble_eq_true rfl) (Nat.le_of_ble_eq_true rfl) dX5_init_30 (fun q30_4 H hw => ?_)
  have hw : xa_W E A s [(h0, .inr (5, [.ref q5_0, .ref q19_2, .null, .null, .null, .null, .null, .int 0, .int 0, .int 0])), (q5_0, .inr (6, [.int 5, .int 24, .ref (u12_1 0), .int 0])), ((u12_1 0), .inl (E.2.1, 120, .inl (fun _ => 0))), (q19_2, .inr (3, [.int 5, .int 8, .ref (u23_3 0), .int 0])), ((u23_3 0), .inl (E.2.1, 40, .inl (fun _ => 0))), (q30_4, .inr (6, [.int 0, .int 0, .null, .int 0]))] H locs := hw
  refine W.widen (k := 5) (n := 172) (Nat.le_of_ble_eq_true rfl) (Nat.le_of_ble_eq_true rfl) ?_
  refine lv_dup hx hb dX5_init_33 rfl ?_
  refine lv_iconst (v := 4) hx hb dX5_init_34 (by decide) ?_
  refine lv_bipush (v := 16) hx hb dX5_init_35 (by decide) ?_
  refine xa_call (as := [.int 4, .int 16]) (wr := [(h0, .inr (5, [.ref q5_0, .ref q19_2, .null, .null, .null, .null, .null, .int 0, .int 0, .int 0])), (q5_0, .inr (6, [.int 5, .int 24, .ref (u12_1 0), .int 0])), ((u12_1 0), .inl (E.2.1, 120, .inl (fun _ => 0))), (q19_2, .inr (3, [.int 5, .int 8, .ref (u23_3 0), .int 0])), ((u23_3 0), .inl (E.2.1, 40, .inl (fun _ => 0)))]) X hw (cx_T6 l E q30_4 4 16 64 (by decide) (by decide) (by decide) (by decide)) (fun h => Bool.noConfusion h) hl.1 [5] [0, 1, 2, 3, 4] rfl rfl rfl rfl rfl (by decide) (Or.inl (pm_bm 94 (by decide +kernel) rfl)) (pm_bm 95 (by decide +kernel) rfl) mw_63 (pm_bm 96 (by decide +kernel) rfl) rfl (by decide +kernel) rfl ⟨(Nat.le_of_ble_eq_true rfl), (Nat.le_of_ble_eq_true rfl)⟩ (rest := [.ref q30_4, .ref h0]) rfl (Nat.le_of_ble_eq_true rfl) dX5_init_37 ⟨(Nat.le_of_ble_eq_true rfl), (Nat.le_of_ble_eq_true rfl)⟩ (fun u37_5 H locs hw => ?_)
  have hw : xa_W E A s [(h0, .inr (5, [.ref q5_0, .ref q19_2, .null, .null, .null, .null, .null, .int 0, .int 0, .int 0])), (q5_0, .inr (6, [.int 5, .int 24, .ref (u12_1 0), .int 0])), ((u12_1 0), .inl (E.2.1, 120, .inl (fun _ => 0))), (q19_2, .inr (3, [.int 5, .int 8, .ref (u23_3 0), .int 0])), ((u23_3 0), .inl (E.2.1, 40, .inl (fun _ => 0))), (q30_4, .inr (6, [.int 4, .int 16, .ref (u37_5 0), .int 0])), ((u37_5 0), .inl (E.2.1, 64, .inl (fun _ => 0)))] H locs := hw
  refine W.widen (k := 6) (n := 236) (Nat.le_of_ble_eq_true rfl) (Nat.le_of_ble_eq_true rfl) ?_
  refine xa_putF X hw 0 (ci := 5) (C := RX5) (T := TX5) (N := 10) (v := .ref q30_4) (ty := (.object "NeedleLine$Table")) rfl rfl tyX5_ok nmX5 2 (by decide) mw_157 rfl rfl rfl rfl rfl (Nat.le_of_ble_eq_true rfl) dX5_init_40 (fun H locs hw => ?_)
  have hw : xa_W E A s [(h0, .inr (5, [.ref q5_0, .ref q19_2, .ref q30_4, .null, .null, .null, .null, .int 0, .int 0, .int 0])), (q5_0, .inr (6, [.int 5, .int 24, .ref (u12_1 0), .int 0])), ((u12_1 0), .inl (E.2.1, 120, .inl (fun _ => 0))), (q19_2, .inr (3, [.int 5, .int 8, .ref (u23_3 0), .int 0])), ((u23_3 0), .inl (E.2.1, 40, .inl (fun _ => 0))), (q30_4, .inr (6, [.int 4, .int 16, .ref (u37_5 0), .int 0])), ((u37_5 0), .inl (E.2.1, 64, .inl (fun _ => 0)))] H locs := hw
  refine lv_aload_n hx hb dX5_init_43 rfl (lv_at hl 0 rfl) ?_
  refine xa_new X hw (ci := 6) (C := RX6) (T := TX6) (N := 4) (ty := tyX6) (fs := [.int 0, .int 0, .null, .int 0]) rfl tyX6_ok (pm_bm 92 (by decide +kernel) rfl) (pm_bm 93 (by decide +kernel) rfl) mw_63 (fun j hj => by rcases (show j = 0 ∨ j = 1 ∨ j = 2 ∨ j = 3 by omega) with rfl | rfl | rfl | rfl <;> rfl) (Nat.le_of_ble_eq_true rfl) (Nat.le_of_ble_eq_true rfl) dX5_init_44 (fun q44_6 H hw => ?_)
  have hw : xa_W E A s [(h0, .inr (5, [.ref q5_0, .ref q19_2, .ref q30_4, .null, .null, .null, .null, .int 0, .int 0, .int 0])), (q5_0, .inr (6, [.int 5, .int 24, .ref (u12_1 0), .int 0])), ((u12_1 0), .inl (E.2.1, 120, .inl (fun _ => 0))), (q19_2, .inr (3, [.int 5, .int 8, .ref (u23_3 0), .int 0])), ((u23_3 0), .inl (E.2.1, 40, .inl (fun _ => 0))), (q30_4, .inr (6, [.int 4, .int 16, .ref (u37_5 0), .int 0])), ((u37_5 0), .inl (E.2.1, 64, .inl (fun _ => 0))), (q44_6, .inr (6, [.int 0, .int 0, .null, .int 0]))] H locs := hw
  refine W.widen (k := 7) (n := 240) (Nat.le_of_ble_eq_true rfl) (Nat.le_of_ble_eq_true rfl) ?_
  refine lv_dup hx hb dX5_init_47 rfl ?_
  refine lv_iconst (v := 1) hx hb dX5_init_48 (by decide) ?_
  refine lv_bipush (v := 60) hx hb dX5_init_49 (by decide) ?_
  refine xa_call (as := [.int 1, .int 60]) (wr := [(h0, .inr (5, [.ref q5_0, .ref q19_2, .ref q30_4, .null, .null, .null, .null, .int 0, .int 0, .int 0])), (q5_0, .inr (6, [.int 5, .int 24, .ref (u12_1 0), .int 0])), ((u12_1 0), .inl (E.2.1, 120, .inl (fun _ => 0))), (q19_2, .inr (3, [.int 5, .int 8, .ref (u23_3 0), .int 0])), ((u23_3 0), .inl (E.2.1, 40, .inl (fun _ => 0))), (q30_4, .inr (6, [.int 4, .int 16, .ref (u37_5 0), .int 0])), ((u37_5 0), .inl (E.2.1, 64, .inl (fun _ => 0)))]) X hw (cx_T6 l E q44_6 1 60 60 (by decide) (by decide) (by decide) (by decide)) (fun h => Bool.noConfusion h) hl.1 [7] [0, 1, 2, 3, 4, 5, 6] rfl rfl rfl rfl rfl (by decide) (Or.inl (pm_bm 94 (by decide +kernel) rfl)) (pm_bm 95 (by decide +kernel) rfl) mw_63 (pm_bm 96 (by decide +kernel) rfl) rfl (by decide +kernel) rfl ⟨(Nat.le_of_ble_eq_true rfl), (Nat.le_of_ble_eq_true rfl)⟩ (rest := [.ref q44_6, .ref h0]) rfl (Nat.le_of_ble_eq_true rfl) dX5_init_51 ⟨(Nat.le_of_ble_eq_true rfl), (Nat.le_of_ble_eq_true rfl)⟩ (fun u51_7 H locs hw => ?_)
  have hw : xa_W E A s [(h0, .inr (5, [.ref q5_0, .ref q19_2, .ref q30_4, .null, .null, .null, .null, .int 0, .int 0, .int 0])), (q5_0, .inr (6, [.int 5, .int 24, .ref (u12_1 0), .int 0])), ((u12_1 0), .inl (E.2.1, 120, .inl (fun _ => 0))), (q19_2, .inr (3, [.int 5, .int 8, .ref (u23_3 0), .int 0])), ((u23_3 0), .inl (E.2.1, 40, .inl (fun _ => 0))), (q30_4, .inr (6, [.int 4, .int 16, .ref (u37_5 0), .int 0])), ((u37_5 0), .inl (E.2.1, 64, .inl (fun _ => 0))), (q44_6, .inr (6, [.int 1, .int 60, .ref (u51_7 0), .int 0])), ((u51_7 0), .inl (E.2.1, 60, .inl (fun _ => 0)))] H locs := hw
  refine W.widen (k := 8) (n := 300) (Nat.le_of_ble_eq_true rfl) (Nat.le_of_ble_eq_true rfl) ?_
  refine xa_putF X hw 0 (ci := 5) (C := RX5) (T := TX5) (N := 10) (v := .ref q44_6) (ty := (.object "NeedleLine$Table")) rfl rfl tyX5_ok nmX5 3 (by decide) mw_159 rfl rfl rfl rfl rfl (Nat.le_of_ble_eq_true rfl) dX5_init_54 (fun H locs hw => ?_)
  have hw : xa_W E A s [(h0, .inr (5, [.ref q5_0, .ref q19_2, .ref q30_4, .ref q44_6, .null, .null, .null, .int 0, .int 0, .int 0])), (q5_0, .inr (6, [.int 5, .int 24, .ref (u12_1 0), .int 0])), ((u12_1 0), .inl (E.2.1, 120, .inl (fun _ => 0))), (q19_2, .inr (3, [.int 5, .int 8, .ref (u23_3 0), .int 0])), ((u23_3 0), .inl (E.2.1, 40, .inl (fun _ => 0))), (q30_4, .inr (6, [.int 4, .int 16, .ref (u37_5 0), .int 0])), ((u37_5 0), .inl (E.2.1, 64, .inl (fun _ => 0))), (q44_6, .inr (6, [.int 1, .int 60, .ref (u51_7 0), .int 0])), ((u51_7 0), .inl (E.2.1, 60, .inl (fun _ => 0)))] H locs := hw
  refine lv_aload_n hx hb dX5_init_57 rfl (lv_at hl 0 rfl) ?_
  refine xa_new X hw (ci := 6) (C := RX6) (T := TX6) (N := 4) (ty := tyX6) (fs := [.int 0, .int 0, .null, .int 0]) rfl tyX6_ok (pm_bm 92 (by decide +kernel) rfl) (pm_bm 93 (by decide +kernel) rfl) mw_63 (fun j hj => by rcases (show j = 0 ∨ j = 1 ∨ j = 2 ∨ j = 3 by omega) with rfl | rfl | rfl | rfl <;> rfl) (Nat.le_of_ble_eq_true rfl) (Nat.le_of_ble_eq_true rfl) dX5_init_58 (fun q58_8 H hw => ?_)
  have hw : xa_W E A s [(h0, .inr (5, [.ref q5_0, .ref q19_2, .ref q30_4, .ref q44_6, .null, .null, .null, .int 0, .int 0, .int 0])), (q5_0, .inr (6, [.int 5, .int 24, .ref (u12_1 0), .int 0])), ((u12_1 0), .inl (E.2.1, 120, .inl (fun _ => 0))), (q19_2, .inr (3, [.int 5, .int 8, .ref (u23_3 0), .int 0])), ((u23_3 0), .inl (E.2.1, 40, .inl (fun _ => 0))), (q30_4, .inr (6, [.int 4, .int 16, .ref (u37_5 0), .int 0])), ((u37_5 0), .inl (E.2.1, 64, .inl (fun _ => 0))), (q44_6, .inr (6, [.int 1, .int 60, .ref (u51_7 0), .int 0])), ((u51_7 0), .inl (E.2.1, 60, .inl (fun _ => 0))), (q58_8, .inr (6, [.int 0, .int 0, .null, .int 0]))] H locs := hw
  refine W.widen (k := 9) (n := 304) (Nat.le_of_ble_eq_true rfl) (Nat.le_of_ble_eq_true rfl) ?_
  refine lv_dup hx hb dX5_init_61 rfl ?_
  refine lv_iconst (v := 1) hx hb dX5_init_62 (by decide) ?_
  refine lv_bipush (v := 24) hx hb dX5_init_63 (by decide) ?_
  refine xa_call (as := [.int 1, .int 24]) (wr := [(h0, .inr (5, [.ref q5_0, .ref q19_2, .ref q30_4, .ref q44_6, .null, .null, .null, .int 0, .int 0, .int 0])), (q5_0, .inr (6, [.int 5, .int 24, .ref (u12_1 0), .int 0])), ((u12_1 0), .inl (E.2.1, 120, .inl (fun _ => 0))), (q19_2, .inr (3, [.int 5, .int 8, .ref (u23_3 0), .int 0])), ((u23_3 0), .inl (E.2.1, 40, .inl (fun _ => 0))), (q30_4, .inr (6, [.int 4, .int 16, .ref (u37_5 0), .int 0])), ((u37_5 0), .inl (E.2.1, 64, .inl (fun _ => 0))), (q44_6, .inr (6, [.int 1, .int 60, .ref (u51_7 0), .int 0])), ((u51_7 0), .inl (E.2.1, 60, .inl (fun _ => 0)))]) X hw (cx_T6 l E q58_8 1 24 24 (by decide) (by decide) (by decide) (by decide)) (fun h => Bool.noConfusion h) hl.1 [9] [0, 1, 2, 3, 4, 5, 6, 7, 8] rfl rfl rfl rfl rfl (by decide) (Or.inl (pm_bm 94 (by decide +kernel) rfl)) (pm_bm 95 (by decide +kernel) rfl) mw_63 (pm_bm 96 (by decide +kernel) rfl) rfl (by decide +kernel) rfl ⟨(Nat.le_of_ble_eq_true rfl), (Nat.le_of_ble_eq_true rfl)⟩ (rest := [.ref q58_8, .ref h0]) rfl (Nat.le_of_ble_eq_true rfl) dX5_init_65 ⟨(Nat.le_of_ble_eq_true rfl), (Nat.le_of_ble_eq_true rfl)⟩ (fun u65_9 H locs hw => ?_)
  have hw : xa_W E A s [(h0, .inr (5, [.ref q5_0, .ref q19_2, .ref q30_4, .ref q44_6, .null, .null, .null, .int 0, .int 0, .int 0])), (q5_0, .inr (6, [.int 5, .int 24, .ref (u12_1 0), .int 0])), ((u12_1 0), .inl (E.2.1, 120, .inl (fun _ => 0))), (q19_2, .inr (3, [.int 5, .int 8, .ref (u23_3 0), .int 0])), ((u23_3 0), .inl (E.2.1, 40, .inl (fun _ => 0))), (q30_4, .inr (6, [.int 4, .int 16, .ref (u37_5 0), .int 0])), ((u37_5 0), .inl (E.2.1, 64, .inl (fun _ => 0))), (q44_6, .inr (6, [.int 1, .int 60, .ref (u51_7 0), .int 0])), ((u51_7 0), .inl (E.2.1, 60, .inl (fun _ => 0))), (q58_8, .inr (6, [.int 1, .int 24, .ref (u65_9 0), .int 0])), ((u65_9 0), .inl (E.2.1, 24, .inl (fun _ => 0)))] H locs := hw
  refine W.widen (k := 10) (n := 328) (Nat.le_of_ble_eq_true rfl) (Nat.le_of_ble_eq_true rfl) ?_
  refine xa_putF X hw 0 (ci := 5) (C := RX5) (T := TX5) (N := 10) (v := .ref q58_8) (ty := (.object "NeedleLine$Table")) rfl rfl tyX5_ok nmX5 4 (by decide) mw_161 rfl rfl rfl rfl rfl (Nat.le_of_ble_eq_true rfl) dX5_init_68 (fun H locs hw => ?_)
  have hw : xa_W E A s [(h0, .inr (5, [.ref q5_0, .ref q19_2, .ref q30_4, .ref q44_6, .ref q58_8, .null, .null, .int 0, .int 0, .int 0])), (q5_0, .inr (6, [.int 5, .int 24, .ref (u12_1 0), .int 0])), ((u12_1 0), .inl (E.2.1, 120, .inl (fun _ => 0))), (q19_2, .inr (3, [.int 5, .int 8, .ref (u23_3 0), .int 0])), ((u23_3 0), .inl (E.2.1, 40, .inl (fun _ => 0))), (q30_4, .inr (6, [.int 4, .int 16, .ref (u37_5 0), .int 0])), ((u37_5 0), .inl (E.2.1, 64, .inl (fun _ => 0))), (q44_6, .inr (6, [.int 1, .int 60, .ref (u51_7 0), .int 0])), ((u51_7 0), .inl (E.2.1, 60, .inl (fun _ => 0))), (q58_8, .inr (6, [.int 1, .int 24, .ref (u65_9 0), .int 0])), ((u65_9 0), .inl (E.2.1, 24, .inl (fun _ => 0)))] H locs := hw
  refine lv_aload_n hx hb dX5_init_71 rfl (lv_at hl 0 rfl) ?_
  refine xa_new X hw (ci := 0) (C := RX0) (T := TX0) (N := 2) (ty := tyX0) (fs := [.null, .int 0]) rfl tyX0_ok (pm_bm 132 (by decide +kernel) rfl) (pm_bm 133 (by decide +kernel) rfl) mw_66 (fun j hj => by rcases (show j = 0 ∨ j = 1 by omega) with rfl | rfl <;> rfl) (Nat.le_of_ble_eq_true rfl) (Nat.le_of_ble_eq_true rfl) dX5_init_72 (fun q72_10 H hw => ?_)
  have hw : xa_W E A s [(h0, .inr (5, [.ref q5_0, .ref q19_2, .ref q30_4, .ref q44_6, .ref q58_8, .null, .null, .int 0, .int 0, .int 0])), (q5_0, .inr (6, [.int 5, .int 24, .ref (u12_1 0), .int 0])), ((u12_1 0), .inl (E.2.1, 120, .inl (fun _ => 0))), (q19_2, .inr (3, [.int 5, .int 8, .ref (u23_3 0), .int 0])), ((u23_3 0), .inl (E.2.1, 40, .inl (fun _ => 0))), (q30_4, .inr (6, [.int 4, .int 16, .ref (u37_5 0), .int 0])), ((u37_5 0), .inl (E.2.1, 64, .inl (fun _ => 0))), (q44_6, .inr (6, [.int 1, .int 60, .ref (u51_7 0), .int 0])), ((u51_7 0), .inl (E.2.1, 60, .inl (fun _ => 0))), (q58_8, .inr (6, [.int 1, .int 24, .ref (u65_9 0), .int 0])), ((u65_9 0), .inl (E.2.1, 24, .inl (fun _ => 0))), (q72_10, .inr (0, [.null, .int 0]))] H locs := hw
  refine W.widen (k := 11) (n := 330) (Nat.le_of_ble_eq_true rfl) (Nat.le_of_ble_eq_true rfl) ?_
  refine lv_dup hx hb dX5_init_75 rfl ?_
  refine xa_call (as := []) (wr := [(h0, .inr (5, [.ref q5_0, .ref q19_2, .ref q30_4, .ref q44_6, .ref q58_8, .null, .null, .int 0, .int 0, .int 0])), (q5_0, .inr (6, [.int 5, .int 24, .ref (u12_1 0), .int 0])), ((u12_1 0), .inl (E.2.1, 120, .inl (fun _ => 0))), (q19_2, .inr (3, [.int 5, .int 8, .ref (u23_3 0), .int 0])), ((u23_3 0), .inl (E.2.1, 40, .inl (fun _ => 0))), (q30_4, .inr (6, [.int 4, .int 16, .ref (u37_5 0), .int 0])), ((u37_5 0), .inl (E.2.1, 64, .inl (fun _ => 0))), (q44_6, .inr (6, [.int 1, .int 60, .ref (u51_7 0), .int 0])), ((u51_7 0), .inl (E.2.1, 60, .inl (fun _ => 0))), (q58_8, .inr (6, [.int 1, .int 24, .ref (u65_9 0), .int 0])), ((u65_9 0), .inl (E.2.1, 24, .inl (fun _ => 0)))]) X hw (cx_X0 l E q72_10) (fun h => Bool.noConfusion h) hl.1 [11] [0, 1, 2, 3, 4, 5, 6, 7, 8, 9, 10] rfl rfl rfl rfl rfl (by decide) (Or.inr ⟨"NeedleLine", (List.mem_filter.mpr ⟨List.mem_of_getElem? (i := 74) (by decide +kernel), rfl⟩)⟩) (pm_bm 135 (by decide +kernel) rfl) mw_66 (pm_bm 136 (by decide +kernel) rfl) rfl (by decide +kernel) rfl ⟨(Nat.le_of_ble_eq_true rfl), (Nat.le_of_ble_eq_true rfl)⟩ (rest := [.ref q72_10, .ref h0]) rfl (Nat.le_of_ble_eq_true rfl) dX5_init_76 ⟨(Nat.le_of_ble_eq_true rfl), (Nat.le_of_ble_eq_true rfl)⟩ (fun u76_11 H locs hw => ?_)
  have hw : xa_W E A s [(h0, .inr (5, [.ref q5_0, .ref q19_2, .ref q30_4, .ref q44_6, .ref q58_8, .null, .null, .int 0, .int 0, .int 0])), (q5_0, .inr (6, [.int 5, .int 24, .ref (u12_1 0), .int 0])), ((u12_1 0), .inl (E.2.1, 120, .inl (fun _ => 0))), (q19_2, .inr (3, [.int 5, .int 8, .ref (u23_3 0), .int 0])), ((u23_3 0), .inl (E.2.1, 40, .inl (fun _ => 0))), (q30_4, .inr (6, [.int 4, .int 16, .ref (u37_5 0), .int 0])), ((u37_5 0), .inl (E.2.1, 64, .inl (fun _ => 0))), (q44_6, .inr (6, [.int 1, .int 60, .ref (u51_7 0), .int 0])), ((u51_7 0), .inl (E.2.1, 60, .inl (fun _ => 0))), (q58_8, .inr (6, [.int 1, .int 24, .ref (u65_9 0), .int 0])), ((u65_9 0), .inl (E.2.1, 24, .inl (fun _ => 0))), (q72_10, .inr (0, [.ref (u76_11 0), .int 0])), ((u76_11 0), .inl (E.2.1, 60, .inl (fun _ => 0)))] H locs := hw
  refine W.widen (k := 12) (n := 390) (Nat.le_of_ble_eq_true rfl) (Nat.le_of_ble_eq_true rfl) ?_
  refine xa_putF X hw 0 (ci := 5) (C := RX5) (T := TX5) (N := 10) (v := .ref q72_10) (ty := (.object "NeedleLine$Law")) rfl rfl tyX5_ok nmX5 5 (by decide) mw_163 rfl rfl rfl rfl rfl (Nat.le_of_ble_eq_true rfl) dX5_init_79 (fun H locs hw => ?_)
  have hw : xa_W E A s [(h0, .inr (5, [.ref q5_0, .ref q19_2, .ref q30_4, .ref q44_6, .ref q58_8, .ref q72_10, .null, .int 0, .int 0, .int 0])), (q5_0, .inr (6, [.int 5, .int 24, .ref (u12_1 0), .int 0])), ((u12_1 0), .inl (E.2.1, 120, .inl (fun _ => 0))), (q19_2, .inr (3, [.int 5, .int 8, .ref (u23_3 0), .int 0])), ((u23_3 0), .inl (E.2.1, 40, .inl (fun _ => 0))), (q30_4, .inr (6, [.int 4, .int 16, .ref (u37_5 0), .int 0])), ((u37_5 0), .inl (E.2.1, 64, .inl (fun _ => 0))), (q44_6, .inr (6, [.int 1, .int 60, .ref (u51_7 0), .int 0])), ((u51_7 0), .inl (E.2.1, 60, .inl (fun _ => 0))), (q58_8, .inr (6, [.int 1, .int 24, .ref (u65_9 0), .int 0])), ((u65_9 0), .inl (E.2.1, 24, .inl (fun _ => 0))), (q72_10, .inr (0, [.ref (u76_11 0), .int 0])), ((u76_11 0), .inl (E.2.1, 60, .inl (fun _ => 0)))] H locs := hw
  refine lv_aload_n hx hb dX5_init_82 rfl (lv_at hl 0 rfl) ?_
  refine xa_new X hw (ci := 0) (C := RX0) (T := TX0) (N := 2) (ty := tyX0) (fs := [.null, .int 0]) rfl tyX0_ok (pm_bm 132 (by decide +kernel) rfl) (pm_bm 133 (by decide +kernel) rfl) mw_66 (fun j hj => by rcases (show j = 0 ∨ j = 1 by omega) with rfl | rfl <;> rfl) (Nat.le_of_ble_eq_true rfl) (Nat.le_of_ble_eq_true rfl) dX5_init_83 (fun q83_12 H hw => ?_)
  have hw : xa_W E A s [(h0, .inr (5, [.ref q5_0, .ref q19_2, .ref q30_4, .ref q44_6, .ref q58_8, .ref q72_10, .null, .int 0, .int 0, .int 0])), (q5_0, .inr (6, [.int 5, .int 24, .ref (u12_1 0), .int 0])), ((u12_1 0), .inl (E.2.1, 120, .inl (fun _ => 0))), (q19_2, .inr (3, [.int 5, .int 8, .ref (u23_3 0), .int 0])), ((u23_3 0), .inl (E.2.1, 40, .inl (fun _ => 0))), (q30_4, .inr (6, [.int 4, .int 16, .ref (u37_5 0), .int 0])), ((u37_5 0), .inl (E.2.1, 64, .inl (fun _ => 0))), (q44_6, .inr (6, [.int 1, .int 60, .ref (u51_7 0), .int 0])), ((u51_7 0), .inl (E.2.1, 60, .inl (fun _ => 0))), (q58_8, .inr (6, [.int 1, .int 24, .ref (u65_9 0), .int 0])), ((u65_9 0), .inl (E.2.1, 24, .inl (fun _ => 0))), (q72_10, .inr (0, [.ref (u76_11 0), .int 0])), ((u76_11 0), .inl (E.2.1, 60, .inl (fun _ => 0))), (q83_12, .inr (0, [.null, .int 0]))] H locs := hw
  refine W.widen (k := 13) (n := 392) (Nat.le_of_ble_eq_true rfl) (Nat.le_of_ble_eq_true rfl) ?_
  refine lv_dup hx hb dX5_init_86 rfl ?_
  refine xa_call (as := []) (wr := [(h0, .inr (5, [.ref q5_0, .ref q19_2, .ref q30_4, .ref q44_6, .ref q58_8, .ref q72_10, .null, .int 0, .int 0, .int 0])), (q5_0, .inr (6, [.int 5, .int 24, .ref (u12_1 0), .int 0])), ((u12_1 0), .inl (E.2.1, 120, .inl (fun _ => 0))), (q19_2, .inr (3, [.int 5, .int 8, .ref (u23_3 0), .int 0])), ((u23_3 0), .inl (E.2.1, 40, .inl (fun _ => 0))), (q30_4, .inr (6, [.int 4, .int 16, .ref (u37_5 0), .int 0])), ((u37_5 0), .inl (E.2.1, 64, .inl (fun _ => 0))), (q44_6, .inr (6, [.int 1, .int 60, .ref (u51_7 0), .int 0])), ((u51_7 0), .inl (E.2.1, 60, .inl (fun _ => 0))), (q58_8, .inr (6, [.int 1, .int 24, .ref (u65_9 0), .int 0])), ((u65_9 0), .inl (E.2.1, 24, .inl (fun _ => 0))), (q72_10, .inr (0, [.ref (u76_11 0), .int 0])), ((u76_11 0), .inl (E.2.1, 60, .inl (fun _ => 0)))]) X hw (cx_X0 l E q83_12) (fun h => Bool.noConfusion h) hl.1 [13] [0, 1, 2, 3, 4, 5, 6, 7, 8, 9, 10, 11, 12] rfl rfl rfl rfl rfl (by decide) (Or.inr ⟨"NeedleLine", (List.mem_filter.mpr ⟨List.mem_of_getElem? (i := 74) (by decide +kernel), rfl⟩)⟩) (pm_bm 135 (by decide +kernel) rfl) mw_66 (pm_bm 136 (by decide +kernel) rfl) rfl (by decide +kernel) rfl ⟨(Nat.le_of_ble_eq_true rfl), (Nat.le_of_ble_eq_true rfl)⟩ (rest := [.ref q83_12, .ref h0]) rfl (Nat.le_of_ble_eq_true rfl) dX5_init_87 ⟨(Nat.le_of_ble_eq_true rfl), (Nat.le_of_ble_eq_true rfl)⟩ (fun u87_13 H locs hw => ?_)
  have hw : xa_W E A s [(h0, .inr (5, [.ref q5_0, .ref q19_2, .ref q30_4, .ref q44_6, .ref q58_8, .ref q72_10, .null, .int 0, .int 0, .int 0])), (q5_0, .inr (6, [.int 5, .int 24, .ref (u12_1 0), .int 0])), ((u12_1 0), .inl (E.2.1, 120, .inl (fun _ => 0))), (q19_2, .inr (3, [.int 5, .int 8, .ref (u23_3 0), .int 0])), ((u23_3 0), .inl (E.2.1, 40, .inl (fun _ => 0))), (q30_4, .inr (6, [.int 4, .int 16, .ref (u37_5 0), .int 0])), ((u37_5 0), .inl (E.2.1, 64, .inl (fun _ => 0))), (q44_6, .inr (6, [.int 1, .int 60, .ref (u51_7 0), .int 0])), ((u51_7 0), .inl (E.2.1, 60, .inl (fun _ => 0))), (q58_8, .inr (6, [.int 1, .int 24, .ref (u65_9 0), .int 0])), ((u65_9 0), .inl (E.2.1, 24, .inl (fun _ => 0))), (q72_10, .inr (0, [.ref (u76_11 0), .int 0])), ((u76_11 0), .inl (E.2.1, 60, .inl (fun _ => 0))), (q83_12, .inr (0, [.ref (u87_13 0), .int 0])), ((u87_13 0), .inl (E.2.1, 60, .inl (fun _ => 0)))] H locs := hw
  refine W.widen (k := 14) (n := 452) (Nat.le_of_ble_eq_true rfl) (Nat.le_of_ble_eq_true rfl) ?_
  refine xa_putF X hw 0 (ci := 5) (C := RX5) (T := TX5) (N := 10) (v := .ref q83_12) (ty := (.object "NeedleLine$Law")) rfl rfl tyX5_ok nmX5 6 (by decide) mw_165 rfl rfl rfl rfl rfl (Nat.le_of_ble_eq_true rfl) dX5_init_90 (fun H locs hw => ?_)
  have hw : xa_W E A s [(h0, .inr (5, [.ref q5_0, .ref q19_2, .ref q30_4, .ref q44_6, .ref q58_8, .ref q72_10, .ref q83_12, .int 0, .int 0, .int 0])), (q5_0, .inr (6, [.int 5, .int 24, .ref (u12_1 0), .int 0])), ((u12_1 0), .inl (E.2.1, 120, .inl (fun _ => 0))), (q19_2, .inr (3, [.int 5, .int 8, .ref (u23_3 0), .int 0])), ((u23_3 0), .inl (E.2.1, 40, .inl (fun _ => 0))), (q30_4, .inr (6, [.int 4, .int 16, .ref (u37_5 0), .int 0])), ((u37_5 0), .inl (E.2.1, 64, .inl (fun _ => 0))), (q44_6, .inr (6, [.int 1, .int 60, .ref (u51_7 0), .int 0])), ((u51_7 0), .inl (E.2.1, 60, .inl (fun _ => 0))), (q58_8, .inr (6, [.int 1, .int 24, .ref (u65_9 0), .int 0])), ((u65_9 0), .inl (E.2.1, 24, .inl (fun _ => 0))), (q72_10, .inr (0, [.ref (u76_11 0), .int 0])), ((u76_11 0), .inl (E.2.1, 60, .inl (fun _ => 0))), (q83_12, .inr (0, [.ref (u87_13 0), .int 0])), ((u87_13 0), .inl (E.2.1, 60, .inl (fun _ => 0)))] H locs := hw
  refine lv_aload_n hx hb dX5_init_93 rfl (lv_at hl 0 rfl) ?_
  refine lv_iconst (v := 0) hx hb dX5_init_94 (by decide) ?_
  refine xa_put X hw 0 (ci := 5) (C := RX5) (T := TX5) (N := 10) (v := .int 0) (ty := .int) rfl rfl tyX5_ok nmX5 7 (by decide) mw_167 rfl rfl rfl rfl (Nat.le_of_ble_eq_true rfl) dX5_init_95 (fun H locs hw => ?_)
  have hw : xa_W E A s [(h0, .inr (5, [.ref q5_0, .ref q19_2, .ref q30_4, .ref q44_6, .ref q58_8, .ref q72_10, .ref q83_12, .int 0, .int 0, .int 0])), (q5_0, .inr (6, [.int 5, .int 24, .ref (u12_1 0), .int 0])), ((u12_1 0), .inl (E.2.1, 120, .inl (fun _ => 0))), (q19_2, .inr (3, [.int 5, .int 8, .ref (u23_3 0), .int 0])), ((u23_3 0), .inl (E.2.1, 40, .inl (fun _ => 0))), (q30_4, .inr (6, [.int 4, .int 16, .ref (u37_5 0), .int 0])), ((u37_5 0), .inl (E.2.1, 64, .inl (fun _ => 0))), (q44_6, .inr (6, [.int 1, .int 60, .ref (u51_7 0), .int 0])), ((u51_7 0), .inl (E.2.1, 60, .inl (fun _ => 0))), (q58_8, .inr (6, [.int 1, .int 24, .ref (u65_9 0), .int 0])), ((u65_9 0), .inl (E.2.1, 24, .inl (fun _ => 0))), (q72_10, .inr (0, [.ref (u76_11 0), .int 0])), ((u76_11 0), .inl (E.2.1, 60, .inl (fun _ => 0))), (q83_12, .inr (0, [.ref (u87_13 0), .int 0])), ((u87_13 0), .inl (E.2.1, 60, .inl (fun _ => 0)))] H locs := hw
  refine lv_aload_n hx hb dX5_init_98 rfl (lv_at hl 0 rfl) ?_
  refine lv_sipush (v := 21120) hx hb dX5_init_99 (by decide) ?_
  refine xa_put X hw 0 (ci := 5) (C := RX5) (T := TX5) (N := 10) (v := .int 21120) (ty := .int) rfl rfl tyX5_ok nmX5 8 (by decide) mw_170 rfl rfl rfl rfl (Nat.le_of_ble_eq_true rfl) dX5_init_102 (fun H locs hw => ?_)
  have hw : xa_W E A s [(h0, .inr (5, [.ref q5_0, .ref q19_2, .ref q30_4, .ref q44_6, .ref q58_8, .ref q72_10, .ref q83_12, .int 0, .int 21120, .int 0])), (q5_0, .inr (6, [.int 5, .int 24, .ref (u12_1 0), .int 0])), ((u12_1 0), .inl (E.2.1, 120, .inl (fun _ => 0))), (q19_2, .inr (3, [.int 5, .int 8, .ref (u23_3 0), .int 0])), ((u23_3 0), .inl (E.2.1, 40, .inl (fun _ => 0))), (q30_4, .inr (6, [.int 4, .int 16, .ref (u37_5 0), .int 0])), ((u37_5 0), .inl (E.2.1, 64, .inl (fun _ => 0))), (q44_6, .inr (6, [.int 1, .int 60, .ref (u51_7 0), .int 0])), ((u51_7 0), .inl (E.2.1, 60, .inl (fun _ => 0))), (q58_8, .inr (6, [.int 1, .int 24, .ref (u65_9 0), .int 0])), ((u65_9 0), .inl (E.2.1, 24, .inl (fun _ => 0))), (q72_10, .inr (0, [.ref (u76_11 0), .int 0])), ((u76_11 0), .inl (E.2.1, 60, .inl (fun _ => 0))), (q83_12, .inr (0, [.ref (u87_13 0), .int 0])), ((u87_13 0), .inl (E.2.1, 60, .inl (fun _ => 0)))] H locs := hw
  refine lv_aload_n hx hb dX5_init_105 rfl (lv_at hl 0 rfl) ?_
  refine lv_iconst (v := 1) hx hb dX5_init_106 (by decide) ?_
  refine xa_put X hw 0 (ci := 5) (C := RX5) (T := TX5) (N := 10) (v := .int 1) (ty := .int) rfl rfl tyX5_ok nmX5 9 (by decide) mw_173 rfl rfl rfl rfl (Nat.le_of_ble_eq_true rfl) dX5_init_107 (fun H locs hw => ?_)
  have hw : xa_W E A s [(h0, .inr (5, [.ref q5_0, .ref q19_2, .ref q30_4, .ref q44_6, .ref q58_8, .ref q72_10, .ref q83_12, .int 0, .int 21120, .int 1])), (q5_0, .inr (6, [.int 5, .int 24, .ref (u12_1 0), .int 0])), ((u12_1 0), .inl (E.2.1, 120, .inl (fun _ => 0))), (q19_2, .inr (3, [.int 5, .int 8, .ref (u23_3 0), .int 0])), ((u23_3 0), .inl (E.2.1, 40, .inl (fun _ => 0))), (q30_4, .inr (6, [.int 4, .int 16, .ref (u37_5 0), .int 0])), ((u37_5 0), .inl (E.2.1, 64, .inl (fun _ => 0))), (q44_6, .inr (6, [.int 1, .int 60, .ref (u51_7 0), .int 0])), ((u51_7 0), .inl (E.2.1, 60, .inl (fun _ => 0))), (q58_8, .inr (6, [.int 1, .int 24, .ref (u65_9 0), .int 0])), ((u65_9 0), .inl (E.2.1, 24, .inl (fun _ => 0))), (q72_10, .inr (0, [.ref (u76_11 0), .int 0])), ((u76_11 0), .inl (E.2.1, 60, .inl (fun _ => 0))), (q83_12, .inr (0, [.ref (u87_13 0), .int 0])), ((u87_13 0), .inl (E.2.1, 60, .inl (fun _ => 0)))] H locs := hw
  refine lv_aload_n hx hb dX5_init_110 rfl (lv_at hl 0 rfl) ?_
  refine xa_get X hw 0 (ci := 5) (C := RX5) (T := TX5) (N := 10) rfl rfl 0 (by decide) mw_151 rfl dX5_init_111 ?_
  refine lv_bipush (v := 12) hx hb dX5_init_114 (by decide) ?_
  refine xa_callV (ci := 6) (N := 4) (T := TX6) (as := [.int 12]) (fs := [.int 5, .int 24, .ref (u12_1 0), .int 0]) (wr := [(h0, .inr (5, [.ref q5_0, .ref q19_2, .ref q30_4, .ref q44_6, .ref q58_8, .ref q72_10, .ref q83_12, .int 0, .int 21120, .int 1])), ((u12_1 0), .inl (E.2.1, 120, .inl (fun _ => 0))), (q19_2, .inr (3, [.int 5, .int 8, .ref (u23_3 0), .int 0])), ((u23_3 0), .inl (E.2.1, 40, .inl (fun _ => 0))), (q30_4, .inr (6, [.int 4, .int 16, .ref (u37_5 0), .int 0])), ((u37_5 0), .inl (E.2.1, 64, .inl (fun _ => 0))), (q44_6, .inr (6, [.int 1, .int 60, .ref (u51_7 0), .int 0])), ((u51_7 0), .inl (E.2.1, 60, .inl (fun _ => 0))), (q58_8, .inr (6, [.int 1, .int 24, .ref (u65_9 0), .int 0])), ((u65_9 0), .inl (E.2.1, 24, .inl (fun _ => 0))), (q72_10, .inr (0, [.ref (u76_11 0), .int 0])), ((u76_11 0), .inl (E.2.1, 60, .inl (fun _ => 0))), (q83_12, .inr (0, [.ref (u87_13 0), .int 0])), ((u87_13 0), .inl (E.2.1, 60, .inl (fun _ => 0)))]) X hw rfl (cx_use l E q5_0 5 24 ((u12_1 0)) 0 12 12 (by decide)) hl.1 1 [0, 2, 3, 4, 5, 6, 7, 8, 9, 10, 11, 12, 13, 14] rfl rfl rfl (by decide) (pm_bm 145 (by decide +kernel) rfl) mw_146 mw_147 mw_63 mw_150 (by decide +kernel) rfl ⟨(Nat.le_of_ble_eq_true rfl), (Nat.le_of_ble_eq_true rfl)⟩ (rest := []) rfl (Nat.le_of_ble_eq_true rfl) dX5_init_116 ⟨(Nat.le_of_ble_eq_true rfl), (Nat.le_of_ble_eq_true rfl)⟩ (fun _ H locs hw => ?_)
  have hw : xa_W E A s [(h0, .inr (5, [.ref q5_0, .ref q19_2, .ref q30_4, .ref q44_6, .ref q58_8, .ref q72_10, .ref q83_12, .int 0, .int 21120, .int 1])), ((u12_1 0), .inl (E.2.1, 120, .inl (fun _ => 0))), (q19_2, .inr (3, [.int 5, .int 8, .ref (u23_3 0), .int 0])), ((u23_3 0), .inl (E.2.1, 40, .inl (fun _ => 0))), (q30_4, .inr (6, [.int 4, .int 16, .ref (u37_5 0), .int 0])), ((u37_5 0), .inl (E.2.1, 64, .inl (fun _ => 0))), (q44_6, .inr (6, [.int 1, .int 60, .ref (u51_7 0), .int 0])), ((u51_7 0), .inl (E.2.1, 60, .inl (fun _ => 0))), (q58_8, .inr (6, [.int 1, .int 24, .ref (u65_9 0), .int 0])), ((u65_9 0), .inl (E.2.1, 24, .inl (fun _ => 0))), (q72_10, .inr (0, [.ref (u76_11 0), .int 0])), ((u76_11 0), .inl (E.2.1, 60, .inl (fun _ => 0))), (q83_12, .inr (0, [.ref (u87_13 0), .int 0])), ((u87_13 0), .inl (E.2.1, 60, .inl (fun _ => 0))), (q5_0, .inr (6, [.int 5, .int 24, .ref (u12_1 0), .int 12]))] H locs := hw
  exact xa_exit (w1 := wx_X5 E h0) X hw (fun i => ([(u12_1 0), q19_2, (u23_3 0), q30_4, (u37_5 0), q44_6, (u51_7 0), q58_8, (u65_9 0), q72_10, (u76_11 0), q83_12, (u87_13 0), q5_0] : List Nat).getD i 0) [0, 1, 2, 3, 4, 5, 6, 7, 8, 9, 10, 11, 12, 13, 14] rfl rfl rfl dX5_init_119
