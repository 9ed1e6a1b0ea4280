set_option maxHeartbeats 4000000 in
set_option maxRecDepth 100000 in
theorem c_X4_row (l : Launch) (D : va_G) (cI cZ cJ : ClassId) (a : Nat → Nat) (g : Nat → Nat → Int32) (x y : Int32) : hl_KI D (hl_ty cI cZ cJ) l yX4_row wsX4_row ({ frames := 0, cells := 0, slots := 0, locals := 0 } : Room) 0 0 [.int x, .int y] (hl_WC a cI cZ g) (fun r w => r = (x * 2 + y) ∧ w = hl_WC a cI cZ g) := by
  refine hl_KI_of (cc := cX4_row) (maxL := 2) .int rfl (fun _ => Or.inr rfl) (by decide) rfl (Nat.le_of_ble_eq_true rfl) ?_
  intro p e s m args below meth c A Q h hend
  refine hl_ls (ls' := [(0, .int x), (1, .int y)]) rfl ?_
  refine hl_iload_n h 0 dX4_row_0 rfl ?_
  refine hl_iconst h 2 dX4_row_1 (by decide) ?_
  refine hl_imul h dX4_row_2 ?_
  refine hl_iload_n h 1 dX4_row_3 rfl ?_
  refine hl_iadd h dX4_row_4 ?_
  exact hend dX4_row_5 (fun h9 => nomatch h9) (by
    exact ⟨by rfl, (congrArg (hl_WC a cI cZ) (by rfl))⟩)

set_option maxHeartbeats 4000000 in
set_option maxRecDepth 100000 in
theorem c_X4_countOf (l : Launch) (D : va_G) (cI cZ cJ : ClassId) (a : Nat → Nat) (g : Nat → Nat → Int32) (x y : Int32) (h1 : vp_in x 4) (h2 : vp_in y 2) : hl_KI D (hl_ty cI cZ cJ) l yX4_countOf wsX4_countOf ({ frames := 1, cells := 0, slots := 0, locals := 21 } : Room) 0 0 [.ref (a 1), .int x, .int y] (hl_WC a cI cZ g) (fun r w => r = (g 0 (x * 2 + y).toNatClampNeg) ∧ w = hl_WC a cI cZ g) := by
  refine hl_KI_of (cc := cX4_countOf) (maxL := 3) .int rfl (fun _ => Or.inr rfl) (by decide) rfl (Nat.le_of_ble_eq_true rfl) ?_
  intro p e s m args below meth c A Q h hend
  have hi4 : ∀ z ∈ wsX40, z ∈ wsX4_countOf := by decide +kernel
  have hrow : vp_in (x * 2 + y) 8 := hl_row h1 h2
  refine hl_ls (ls' := [(0, .ref (a 1)), (1, .int x), (2, .int y)]) rfl ?_
  refine hl_aload_n h 0 dX4_countOf_0 rfl ?_
  refine hl_get h hi4 hl_wc_1 rfl 0 rfl dX4_countOf_1 (by decide) (by decide +kernel) ?_
  refine hl_iload_n h 1 dX4_countOf_4 rfl ?_
  refine hl_iload_n h 2 dX4_countOf_5 rfl ?_
  refine hl_callSiD h (st := [.ref (a 6)]) (c_X4_row l D cI cZ cJ a g x y) (va_cwS 2 h.2.2.2.2.1 gX4_countOf_X4_row rfl rfl rfl (by decide +kernel) ⟨Nat.le_of_ble_eq_true rfl, Nat.le_of_ble_eq_true rfl⟩) dX4_countOf_6 rfl (Nat.le_of_ble_eq_true rfl) ⟨Nat.le_of_ble_eq_true rfl, Nat.le_of_ble_eq_true rfl⟩ rfl ?_
  refine hl_ild h hl_wc_6 0 rfl dX4_countOf_9 (by with_reducible assumption) ?_
  exact hend dX4_countOf_10 (fun h9 => nomatch h9) (by
    exact ⟨by rfl, (congrArg (hl_WC a cI cZ) (by rfl))⟩)

set_option maxHeartbeats 4000000 in
set_option maxRecDepth 100000 in
theorem c_X4_priceOf (l : Launch) (D : va_G) (cI cZ cJ : ClassId) (a : Nat → Nat) (g : Nat → Nat → Int32) (x y : Int32) (h1 : vp_in x 4) (h2 : vp_in y 2) : hl_KI D (hl_ty cI cZ cJ) l yX4_priceOf wsX4_priceOf ({ frames := 1, cells := 0, slots := 0, locals := 21 } : Room) 0 0 [.ref (a 1), .int x, .int y] (hl_WC a cI cZ g) (fun r w => r = (g 1 (x * 2 + y).toNatClampNeg) ∧ w = hl_WC a cI cZ g) := by
  refine hl_KI_of (cc := cX4_priceOf) (maxL := 3) .int rfl (fun _ => Or.inr rfl) (by decide) rfl (Nat.le_of_ble_eq_true rfl) ?_
  intro p e s m args below meth c A Q h hend
  have hi4 : ∀ z ∈ wsX40, z ∈ wsX4_priceOf := by decide +kernel
  have hrow : vp_in (x * 2 + y) 8 := hl_row h1 h2
  refine hl_ls (ls' := [(0, .ref (a 1)), (1, .int x), (2, .int y)]) rfl ?_
  refine hl_aload_n h 0 dX4_priceOf_0 rfl ?_
  refine hl_get h hi4 hl_wc_1 rfl 1 rfl dX4_priceOf_1 (by decide) (by decide +kernel) ?_
  refine hl_iload_n h 1 dX4_priceOf_4 rfl ?_
  refine hl_iload_n h 2 dX4_priceOf_5 rfl ?_
  refine hl_callSiD h (st := [.ref (a 7)]) (c_X4_row l D cI cZ cJ a g x y) (va_cwS 2 h.2.2.2.2.1 gX4_priceOf_X4_row rfl rfl rfl (by decide +kernel) ⟨Nat.le_of_ble_eq_true rfl, Nat.le_of_ble_eq_true rfl⟩) dX4_priceOf_6 rfl (Nat.le_of_ble_eq_true rfl) ⟨Nat.le_of_ble_eq_true rfl, Nat.le_of_ble_eq_true rfl⟩ rfl ?_
  refine hl_ild h hl_wc_7 0 rfl dX4_priceOf_9 (by with_reducible assumption) ?_
  exact hend dX4_priceOf_10 (fun h9 => nomatch h9) (by
    exact ⟨by rfl, (congrArg (hl_WC a cI cZ) (by rfl))⟩)

set_option maxHeartbeats 4000000 in
set_option maxRecDepth 100000 in
theorem c_X4_sleepersOf (l : Launch) (D : va_G) (cI cZ cJ : ClassId) (a : Nat → Nat) (g : Nat → Nat → Int32) (x y : Int32) (h1 : vp_in x 4) (h2 : vp_in y 2) : hl_KI D (hl_ty cI cZ cJ) l yX4_sleepersOf wsX4_sleepersOf ({ frames := 1, cells := 0, slots := 0, locals := 21 } : Room) 0 0 [.ref (a 1), .int x, .int y] (hl_WC a cI cZ g) (fun r w => r = (g 2 (x * 2 + y).toNatClampNeg) ∧ w = hl_WC a cI cZ g) := by
  refine hl_KI_of (cc := cX4_sleepersOf) (maxL := 3) .int rfl (fun _ => Or.inr rfl) (by decide) rfl (Nat.le_of_ble_eq_true rfl) ?_
  intro p e s m args below meth c A Q h hend
  have hi4 : ∀ z ∈ wsX40, z ∈ wsX4_sleepersOf := by decide +kernel
  have hrow : vp_in (x * 2 + y) 8 := hl_row h1 h2
  refine hl_ls (ls' := [(0, .ref (a 1)), (1, .int x), (2, .int y)]) rfl ?_
  refine hl_aload_n h 0 dX4_sleepersOf_0 rfl ?_
  refine hl_get h hi4 hl_wc_1 rfl 2 rfl dX4_sleepersOf_1 (by decide) (by decide +kernel) ?_
  refine hl_iload_n h 1 dX4_sleepersOf_4 rfl ?_
  refine hl_iload_n h 2 dX4_sleepersOf_5 rfl ?_
  refine hl_callSiD h (st := [.ref (a 8)]) (c_X4_row l D cI cZ cJ a g x y) (va_cwS 2 h.2.2.2.2.1 gX4_sleepersOf_X4_row rfl rfl rfl (by decide +kernel) ⟨Nat.le_of_ble_eq_true rfl, Nat.le_of_ble_eq_true rfl⟩) dX4_sleepersOf_6 rfl (Nat.le_of_ble_eq_true rfl) ⟨Nat.le_of_ble_eq_true rfl, Nat.le_of_ble_eq_true rfl⟩ rfl ?_
  refine hl_ild h hl_wc_8 0 rfl dX4_sleepersOf_9 (by with_reducible assumption) ?_
  exact hend dX4_sleepersOf_10 (fun h9 => nomatch h9) (by
    exact ⟨by rfl, (congrArg (hl_WC a cI cZ) (by rfl))⟩)

set_option maxHeartbeats 4000000 in
set_option maxRecDepth 100000 in
theorem c_X4_freeOf (l : Launch) (D : va_G) (cI cZ cJ : ClassId) (a : Nat → Nat) (g : Nat → Nat → Int32) (x y : Int32) (h1 : vp_in x 4) (h2 : vp_in y 2) : hl_KI D (hl_ty cI cZ cJ) l yX4_freeOf wsX4_freeOf ({ frames := 2, cells := 0, slots := 0, locals := 43 } : Room) 0 0 [.ref (a 1), .int x, .int y] (hl_WC a cI cZ g) (fun r w => r = r_X4_freeOf g x y ∧ w = hl_WC a cI cZ g) := by
  refine hl_KI_of (cc := cX4_freeOf) (maxL := 3) .int rfl (fun _ => Or.inr rfl) (by decide) rfl (Nat.le_of_ble_eq_true rfl) ?_
  intro p e s m args below meth c A Q h hend
  refine hl_ls (ls' := [(0, .ref (a 1)), (1, .int x), (2, .int y)]) rfl ?_
  refine hl_iconst h 0 dX4_freeOf_0 (by decide) ?_
  refine hl_aload_n h 0 dX4_freeOf_1 rfl ?_
  refine hl_iload_n h 1 dX4_freeOf_2 rfl ?_
  refine hl_iload_n h 2 dX4_freeOf_3 rfl ?_
  refine hl_callViD h (st := [.int 0]) (c_X4_countOf l D cI cZ cJ a g x y (by with_reducible assumption) (by with_reducible assumption)) (cwV 2 h.2.2.2.2.1 gX4_freeOf_X4_countOf rfl rfl rfl (by decide +kernel) ⟨Nat.le_of_ble_eq_true rfl, Nat.le_of_ble_eq_true rfl⟩) hl_wc_1 rfl dX4_freeOf_4 rfl (Nat.le_of_ble_eq_true rfl) ⟨Nat.le_of_ble_eq_true rfl, Nat.le_of_ble_eq_true rfl⟩ rfl ?_
  refine hl_aload_n h 0 dX4_freeOf_7 rfl ?_
  refine hl_iload_n h 1 dX4_freeOf_8 rfl ?_
  refine hl_iload_n h 2 dX4_freeOf_9 rfl ?_
  refine hl_callViD h (st := [.int ((g 0 (x * 2 + y).toNatClampNeg)), .int 0]) (c_X4_sleepersOf l D cI cZ cJ a g x y (by with_reducible assumption) (by with_reducible assumption)) (cwV 2 h.2.2.2.2.1 gX4_freeOf_X4_sleepersOf rfl rfl rfl (by decide +kernel) ⟨Nat.le_of_ble_eq_true rfl, Nat.le_of_ble_eq_true rfl⟩) hl_wc_1 rfl dX4_freeOf_10 rfl (Nat.le_of_ble_eq_true rfl) ⟨Nat.le_of_ble_eq_true rfl, Nat.le_of_ble_eq_true rfl⟩ rfl ?_
  refine hl_isub h dX4_freeOf_13 ?_
  refine hl_max h dX4_freeOf_14 (by decide +kernel) (by decide +kernel) (by decide +kernel) (by decide +kernel) (Nat.le_of_ble_eq_true rfl) (Nat.le_of_ble_eq_true rfl) (Nat.le_of_ble_eq_true rfl) (Nat.le_of_ble_eq_true rfl) ?_
  exact hend dX4_freeOf_17 (fun h9 => nomatch h9) (by
    exact ⟨rfl, rfl⟩)

set_option maxHeartbeats 4000000 in
set_option maxRecDepth 100000 in
theorem c_X4_change (l : Launch) (D : va_G) (cI cZ cJ : ClassId) (a : Nat → Nat) (g : Nat → Nat → Int32) (x y n q : Int32) (h1 : vp_in x 4) (h2 : vp_in y 2) : hl_KI D (hl_ty cI cZ cJ) l yX4_change wsX4_change ({ frames := 1, cells := 0, slots := 0, locals := 21 } : Room) 0 0 [.ref (a 1), .int x, .int y, .int n, .int q] (hl_WC a cI cZ g) (fun r w => r = g 0 (x * 2 + y).toNatClampNeg ∧ w = hl_WC a cI cZ (f_X4_change g x y n q)) := by
  refine hl_KI_of (cc := cX4_change) (maxL := 7) .int rfl (fun _ => Or.inr rfl) (by decide) rfl (Nat.le_of_ble_eq_true rfl) ?_
  intro p e s m args below meth c A Q h hend
  have hi4 : ∀ z ∈ wsX40, z ∈ wsX4_change := by decide +kernel
  have hrow : vp_in (x * 2 + y) 8 := hl_row h1 h2
  refine hl_ls (ls' := [(0, .ref (a 1)), (1, .int x), (2, .int y), (3, .int n), (4, .int q)]) rfl ?_
  refine hl_iload_n h 1 dX4_change_0 rfl ?_
  refine hl_iload_n h 2 dX4_change_1 rfl ?_
  refine hl_callSiD h (st := []) (c_X4_row l D cI cZ cJ a g x y) (va_cwS 2 h.2.2.2.2.1 gX4_change_X4_row rfl rfl rfl (by decide +kernel) ⟨Nat.le_of_ble_eq_true rfl, Nat.le_of_ble_eq_true rfl⟩) dX4_change_2 rfl (Nat.le_of_ble_eq_true rfl) ⟨Nat.le_of_ble_eq_true rfl, Nat.le_of_ble_eq_true rfl⟩ rfl ?_
  refine hl_istore h [(5, .int ((x * 2 + y))), (0, .ref (a 1)), (1, .int x), (2, .int y), (3, .int n), (4, .int q)] dX4_change_5 (by decide) rfl ?_
  refine hl_aload_n h 1 dX4_change_7 rfl ?_
  refine hl_get h hi4 hl_wc_1 rfl 0 rfl dX4_change_8 (by decide) (by decide +kernel) ?_
  refine hl_iload h 0 dX4_change_11 rfl ?_
  refine hl_ild h hl_wc_6 0 rfl dX4_change_13 (by with_reducible assumption) ?_
  refine hl_istore h [(6, .int (g 0 ((x * 2 + y)).toNatClampNeg)), (5, .int ((x * 2 + y))), (0, .ref (a 1)), (1, .int x), (2, .int y), (3, .int n), (4, .int q)] dX4_change_14 (by decide) rfl ?_
  refine hl_aload_n h 2 dX4_change_16 rfl ?_
  refine hl_get h hi4 hl_wc_1 rfl 0 rfl dX4_change_17 (by decide) (by decide +kernel) ?_
  refine hl_iload h 1 dX4_change_20 rfl ?_
  refine hl_iload_n h 5 dX4_change_22 rfl ?_
  refine hl_ist h hl_wc_6 0 rfl dX4_change_23 (by with_reducible assumption) hl_wc_t0 ?_
  refine hl_nmC (fun g4 e5 => ?_)
  refine hl_aload_n h 2 dX4_change_24 rfl ?_
  refine hl_get h hi4 hl_wc_1 rfl 1 rfl dX4_change_25 (by decide) (by decide +kernel) ?_
  refine hl_iload h 1 dX4_change_28 rfl ?_
  refine hl_iload h 6 dX4_change_30 rfl ?_
  refine hl_ist h hl_wc_7 0 rfl dX4_change_32 (by with_reducible assumption) hl_wc_t1 ?_
  refine hl_nmC (fun g6 e7 => ?_)
  refine hl_iload h 0 dX4_change_33 rfl ?_
  exact hend dX4_change_35 (fun h9 => nomatch h9) (by
    subst e7; subst e5
    exact ⟨by rfl, (congrArg (hl_WC a cI cZ) (by rfl))⟩)

set_option maxHeartbeats 4000000 in
set_option maxRecDepth 100000 in
theorem c_X4_addSleeper (l : Launch) (D : va_G) (cI cZ cJ : ClassId) (a : Nat → Nat) (g : Nat → Nat → Int32) (x y : Int32) (h1 : vp_in x 4) (h2 : vp_in y 2) : hl_KV D (hl_ty cI cZ cJ) l yX4_addSleeper wsX4_addSleeper ({ frames := 1, cells := 0, slots := 0, locals := 21 } : Room) 0 0 [.ref (a 1), .int x, .int y] (hl_WC a cI cZ g) (fun w => w = hl_WC a cI cZ (f_X4_addSleeper g x y)) := by
  refine hl_KV_of (cc := cX4_addSleeper) (maxL := 3) (by decide) rfl (Nat.le_of_ble_eq_true rfl) ?_
  intro p e s m args below meth c A Q h hnm hend
  have hi4 : ∀ z ∈ wsX40, z ∈ wsX4_addSleeper := by decide +kernel
  have hrow : vp_in (x * 2 + y) 8 := hl_row h1 h2
  refine hl_ls (ls' := [(0, .ref (a 1)), (1, .int x), (2, .int y)]) rfl ?_
  refine hl_aload_n h 0 dX4_addSleeper_0 rfl ?_
  refine hl_get h hi4 hl_wc_1 rfl 2 rfl dX4_addSleeper_1 (by decide) (by decide +kernel) ?_
  refine hl_iload_n h 1 dX4_addSleeper_4 rfl ?_
  refine hl_iload_n h 2 dX4_addSleeper_5 rfl ?_
  refine hl_callSiD h (st := [.ref (a 8)]) (c_X4_row l D cI cZ cJ a g x y) (va_cwS 2 h.2.2.2.2.1 gX4_addSleeper_X4_row rfl rfl rfl (by decide +kernel) ⟨Nat.le_of_ble_eq_true rfl, Nat.le_of_ble_eq_true rfl⟩) dX4_addSleeper_6 rfl (Nat.le_of_ble_eq_true rfl) ⟨Nat.le_of_ble_eq_true rfl, Nat.le_of_ble_eq_true rfl⟩ rfl ?_
  refine hl_dup2 h dX4_addSleeper_9 rfl rfl ?_
  refine hl_ild h hl_wc_8 0 rfl dX4_addSleeper_10 (by with_reducible assumption) ?_
  refine hl_iconst h 1 dX4_addSleeper_11 (by decide) ?_
  refine hl_iadd h dX4_addSleeper_12 ?_
  refine hl_ist h hl_wc_8 0 rfl dX4_addSleeper_13 (by with_reducible assumption) hl_wc_t2 ?_
  refine hl_nmC (fun g4 e5 => ?_)
  exact hend dX4_addSleeper_14 (by
    subst e5
    exact (congrArg (hl_WC a cI cZ) (by rfl)))

set_option maxHeartbeats 4000000 in
set_option maxRecDepth 100000 in
theorem c_X4_endNight (l : Launch) (D : va_G) (cI cZ cJ : ClassId) (a : Nat → Nat) (g : Nat → Nat → Int32) : hl_KV D (hl_ty cI cZ cJ) l yX4_endNight wsX4_endNight ({ frames := 0, cells := 0, slots := 0, locals := 0 } : Room) 0 0 [.ref (a 1)] (hl_WC a cI cZ g) (fun w => w = hl_WC a cI cZ (f_X4_endNight g)) := by
  refine hl_KV_of (cc := cX4_endNight) (maxL := 2) (by decide) rfl (Nat.le_of_ble_eq_true rfl) ?_
  intro p e s m args below meth c A Q h hnm hend
  have hi4 : ∀ z ∈ wsX40, z ∈ wsX4_endNight := by decide +kernel
  refine hl_ls (ls' := [(0, .ref (a 1))]) rfl ?_
  refine hl_iconst h 0 dX4_endNight_0 (by decide) ?_
  refine hl_istore_n h [(1, .int 0), (0, .ref (a 1))] dX4_endNight_1 (by decide) rfl ?_
  have lp2 : ∀ (n : Nat) (i : Nat) (z : Nat → Nat → Int32), (i + n = 8) → (hl_it (b_X4_endNight) i n z = f_X4_endNight g) →  hl_X p l e ({ frames := 0, cells := 0, slots := 0, locals := 0 } : Room) s m args below meth c 2 D A 0 0 Q (hl_WC a cI cZ z) 2 [(0, .ref (a 1)), (1, .int (nI i))] [] := by
    intro n
    induction n with
    | zero =>
      intro i z hi hv
      refine hl_iload_n h 1 dX4_endNight_2 rfl ?_
      refine hl_bipush h 8 dX4_endNight_3 (by decide) ?_
      refine hl_icmp_ge_T h 21 dX4_endNight_5 (by decide) (by rw [show i = 8 by omega]; decide) ?_
      exact hend dX4_endNight_21 (by
        exact congrArg (hl_WC a cI cZ) hv)
    | succ n ih =>
      intro i z hi hv
      refine hl_iload_n h 1 dX4_endNight_2 rfl ?_
      refine hl_bipush h 8 dX4_endNight_3 (by decide) ?_
      refine hl_icmp_ge_F h 21 dX4_endNight_5 (by decide) (nI_ge (b := 8) (by omega) (by decide)) ?_
      refine hl_aload_n h 0 dX4_endNight_8 rfl ?_
      refine hl_get h hi4 hl_wc_1 rfl 2 rfl dX4_endNight_9 (by decide) (by decide +kernel) ?_
      refine hl_iload_n h 1 dX4_endNight_12 rfl ?_
      refine hl_iconst h 0 dX4_endNight_13 (by decide) ?_
      refine hl_istN h hl_wc_8 0 rfl i dX4_endNight_14 rfl (by omega) (by decide) hl_wc_t2 ?_
      refine hl_nmC (fun g1 e2 => ?_)
      refine hl_iinc h 1 (nI (i + 1)) [(1, .int (nI (i + 1))), (0, .ref (a 1))] dX4_endNight_15 rfl (hl_inc i) (by decide) rfl ?_
      refine hl_goto h 2 dX4_endNight_18 (by decide) ?_
      refine hl_lsub [1, 0] rfl ?_
      exact ih (i + 1) _ (by omega) (by rw [← hv, hl_it_s] <;> (congr 1 <;> (subst e2; first | rfl | (simp [b_X4_endNight]; done))))
  refine hl_lsub [1, 0] rfl ?_
  exact lp2 8 0 g rfl rfl

set_option maxHeartbeats 4000000 in
set_option maxRecDepth 100000 in
theorem c_X2_addClean (l : Launch) (D : va_G) (cI cZ cJ : ClassId) (a : Nat → Nat) (g : Nat → Nat → Int32) (x n : Int32) (h1 : vp_in x 4) : hl_KI D (hl_ty cI cZ cJ) l yX2_addClean wsX2_addClean ({ frames := 0, cells := 0, slots := 0, locals := 0 } : Room) 0 0 [.ref (a 2), .int x, .int n] (hl_WC a cI cZ g) (fun r w => r = f_X2_addClean g x n 3 (x).toNatClampNeg ∧ w = hl_WC a cI cZ (f_X2_addClean g x n)) := by
  refine hl_KI_of (cc := cX2_addClean) (maxL := 3) .int rfl (fun _ => Or.inr rfl) (by decide) rfl (Nat.le_of_ble_eq_true rfl) ?_
  intro p e s m args below meth c A Q h hend
  have hi2 : ∀ z ∈ wsX20, z ∈ wsX2_addClean := by decide +kernel
  refine hl_ls (ls' := [(0, .ref (a 2)), (1, .int x), (2, .int n)]) rfl ?_
  refine hl_aload_n h 0 dX2_addClean_0 rfl ?_
  refine hl_get h hi2 hl_wc_2 rfl 0 rfl dX2_addClean_1 (by decide) (by decide +kernel) ?_
  refine hl_iload_n h 1 dX2_addClean_4 rfl ?_
  refine hl_dup2 h dX2_addClean_5 rfl rfl ?_
  refine hl_ild h hl_wc_9 0 rfl dX2_addClean_6 (by with_reducible assumption) ?_
  refine hl_iload_n h 2 dX2_addClean_7 rfl ?_
  refine hl_iadd h dX2_addClean_8 ?_
  refine hl_ist h hl_wc_9 0 rfl dX2_addClean_9 (by with_reducible assumption) hl_wc_t3 ?_
  refine hl_nmC (fun g1 e2 => ?_)
  refine hl_aload_n h 0 dX2_addClean_10 rfl ?_
  refine hl_get h hi2 hl_wc_2 rfl 0 rfl dX2_addClean_11 (by decide) (by decide +kernel) ?_
  refine hl_iload_n h 1 dX2_addClean_14 rfl ?_
  refine hl_ild h hl_wc_9 0 rfl dX2_addClean_15 (by with_reducible assumption) ?_
  exact hend dX2_addClean_16 (fun h9 => nomatch h9) (by
    subst e2
    exact ⟨by rfl, (congrArg (hl_WC a cI cZ) (by rfl))⟩)

set_option maxHeartbeats 4000000 in
set_option maxRecDepth 100000 in
theorem c_X2_changeBroken (l : Launch) (D : va_G) (cI cZ cJ : ClassId) (a : Nat → Nat) (g : Nat → Nat → Int32) (x : Int32) (h1 : x = 0 ∨ x = 1) (h2 : g 8 0 = 0 ∨ g 8 0 = 1) : hl_KI D (hl_ty cI cZ cJ) l yX2_changeBroken wsX2_changeBroken ({ frames := 0, cells := 0, slots := 0, locals := 0 } : Room) 0 0 [.ref (a 2), .int x] (hl_WC a cI cZ g) (fun r w => r = g 8 0 ∧ w = hl_WC a cI cZ (hl_su g 8 (fun _ => x))) := by
  refine hl_KI_of (cc := cX2_changeBroken) (maxL := 3) .boolean rfl (fun _ => Or.inl rfl) (by decide) rfl (Nat.le_of_ble_eq_true rfl) ?_
  intro p e s m args below meth c A Q h hend
  have hi2 : ∀ z ∈ wsX20, z ∈ wsX2_changeBroken := by decide +kernel
  refine hl_ls (ls' := [(0, .ref (a 2)), (1, .int x)]) rfl ?_
  refine hl_aload_n h 0 dX2_changeBroken_0 rfl ?_
  refine hl_get h hi2 hl_wc_2 rfl 5 rfl dX2_changeBroken_1 (by decide) (by decide +kernel) ?_
  refine hl_istore_n h [(2, .int (g 8 0)), (0, .ref (a 2)), (1, .int x)] dX2_changeBroken_4 (by decide) rfl ?_
  refine hl_aload_n h 1 dX2_changeBroken_5 rfl ?_
  refine hl_iload_n h 2 dX2_changeBroken_6 rfl ?_
  refine hl_put h hi2 tyX2_ok nmX2 hl_wc_2 rfl 5 dX2_changeBroken_7 (by decide) (by decide +kernel) (by decide) (by rcases h1 with rfl | rfl <;> rfl) (by rcases h1 with rfl | rfl <;> rfl) (Nat.le_of_ble_eq_true rfl) hl_wc_s8 ?_
  refine hl_nmC (fun g1 e2 => ?_)
  refine hl_iload_n h 0 dX2_changeBroken_10 rfl ?_
  exact hend dX2_changeBroken_11 (fun _ => h2) (by
    subst e2
    exact ⟨by rfl, (congrArg (hl_WC a cI cZ) (by rfl))⟩)

set_option maxHeartbeats 4000000 in
set_option maxRecDepth 100000 in
theorem c_X2_awayOf (l : Launch) (D : va_G) (cI cZ cJ : ClassId) (a : Nat → Nat) (g : Nat → Nat → Int32) (x : Int32) (h1 : vp_in x 4) : hl_KI D (hl_ty cI cZ cJ) l yX2_awayOf wsX2_awayOf ({ frames := 0, cells := 0, slots := 0, locals := 0 } : Room) 0 0 [.ref (a 2), .int x] (hl_WC a cI cZ g) (fun r w => r = r_X2_awayOf g x ∧ w = hl_WC a cI cZ g) := by
  refine hl_KI_of (cc := cX2_awayOf) (maxL := 2) .int rfl (fun _ => Or.inr rfl) (by decide) rfl (Nat.le_of_ble_eq_true rfl) ?_
  intro p e s m args below meth c A Q h hend
  have hi2 : ∀ z ∈ wsX20, z ∈ wsX2_awayOf := by decide +kernel
  refine hl_ls (ls' := [(0, .ref (a 2)), (1, .int x)]) rfl ?_
  refine hl_aload_n h 0 dX2_awayOf_0 rfl ?_
  refine hl_get h hi2 hl_wc_2 rfl 1 rfl dX2_awayOf_1 (by decide) (by decide +kernel) ?_
  refine hl_iload_n h 1 dX2_awayOf_4 rfl ?_
  refine hl_ild h hl_wc_10 0 rfl dX2_awayOf_5 (by with_reducible assumption) ?_
  refine hl_aload_n h 0 dX2_awayOf_6 rfl ?_
  refine hl_get h hi2 hl_wc_2 rfl 2 rfl dX2_awayOf_7 (by decide) (by decide +kernel) ?_
  refine hl_iload_n h 1 dX2_awayOf_10 rfl ?_
  refine hl_ild h hl_wc_11 0 rfl dX2_awayOf_11 (by with_reducible assumption) ?_
  refine hl_iadd h dX2_awayOf_12 ?_
  refine hl_aload_n h 0 dX2_awayOf_13 rfl ?_
  refine hl_get h hi2 hl_wc_2 rfl 3 rfl dX2_awayOf_14 (by decide) (by decide +kernel) ?_
  refine hl_iload_n h 1 dX2_awayOf_17 rfl ?_
  refine hl_ild h hl_wc_12 0 rfl dX2_awayOf_18 (by with_reducible assumption) ?_
  refine hl_iadd h dX2_awayOf_19 ?_
  refine hl_aload_n h 0 dX2_awayOf_20 rfl ?_
  refine hl_get h hi2 hl_wc_2 rfl 4 rfl dX2_awayOf_21 (by decide) (by decide +kernel) ?_
  refine hl_iload_n h 1 dX2_awayOf_24 rfl ?_
  refine hl_ild h hl_wc_13 0 rfl dX2_awayOf_25 (by with_reducible assumption) ?_
  refine hl_iadd h dX2_awayOf_26 ?_
  exact hend dX2_awayOf_27 (fun h9 => nomatch h9) (by
    exact ⟨by rfl, (congrArg (hl_WC a cI cZ) (by rfl))⟩)

set_option maxHeartbeats 4000000 in
set_option maxRecDepth 100000 in
theorem c_X2_giverFor (l : Launch) (D : va_G) (cI cZ cJ : ClassId) (a : Nat → Nat) (g : Nat → Nat → Int32) (x : Int32) (h1 : vp_in x 4) : hl_KI D (hl_ty cI cZ cJ) l yX2_giverFor wsX2_giverFor ({ frames := 0, cells := 0, slots := 0, locals := 0 } : Room) 0 0 [.ref (a 2), .int x] (hl_WC a cI cZ g) (fun r w => r = r_X2_giverFor g x ∧ w = hl_WC a cI cZ g) := by
  refine hl_KI_of (cc := cX2_giverFor) (maxL := 5) .int rfl (fun _ => Or.inr rfl) (by decide) rfl (Nat.le_of_ble_eq_true rfl) ?_
  intro p e s m args below meth c A Q h hend
  have hi2 : ∀ z ∈ wsX20, z ∈ wsX2_giverFor := by decide +kernel
  refine hl_ls (ls' := [(0, .ref (a 2)), (1, .int x)]) rfl ?_
  refine hl_aload_n h 0 dX2_giverFor_0 rfl ?_
  refine hl_get h hi2 hl_wc_2 rfl 0 rfl dX2_giverFor_1 (by decide) (by decide +kernel) ?_
  refine hl_iload_n h 1 dX2_giverFor_4 rfl ?_
  refine hl_ild h hl_wc_9 0 rfl dX2_giverFor_5 (by with_reducible assumption) ?_
  refine hl_if_le h 11 dX2_giverFor_6 (by decide) (fun c1 => ?_) (fun c1 => ?_)
  · refine hl_iconst h (-1) dX2_giverFor_11 (by decide) ?_
    refine hl_istore_n h [(2, .int (-1)), (0, .ref (a 2)), (1, .int x)] dX2_giverFor_12 (by decide) rfl ?_
    refine hl_iconst h 0 dX2_giverFor_13 (by decide) ?_
    refine hl_istore_n h [(3, .int 0), (2, .int (-1)), (0, .ref (a 2)), (1, .int x)] dX2_giverFor_14 (by decide) rfl ?_
    refine hl_iconst h 0 dX2_giverFor_15 (by decide) ?_
    refine hl_istore h [(4, .int 0), (3, .int 0), (2, .int (-1)), (0, .ref (a 2)), (1, .int x)] dX2_giverFor_16 (by decide) rfl ?_
    have lp18 : ∀ (n : Nat) (i : Nat) (u : Int32 × Int32), (i + n = 4) → ((hl_it (b_X2_giverFor g) i n u).1 = r_X2_giverFor g x) →  hl_X p l e ({ frames := 0, cells := 0, slots := 0, locals := 0 } : Room) s m args below meth c 5 D A 0 0 Q (hl_WC a cI cZ g) 18 [(0, .ref (a 2)), (1, .int x), (2, .int u.1), (3, .int u.2), (4, .int (nI i))] [] := by
      intro n
      induction n with
      | zero =>
        intro i u hi hv
        refine hl_iload h 4 dX2_giverFor_18 rfl ?_
        refine hl_iconst h 4 dX2_giverFor_20 (by decide) ?_
        refine hl_icmp_ge_T h 52 dX2_giverFor_21 (by decide) (by rw [show i = 4 by omega]; decide) ?_
        refine hl_iload_n h 2 dX2_giverFor_52 rfl ?_
        exact hend dX2_giverFor_53 (fun h9 => nomatch h9) (by
          exact ⟨by first | exact hv | (simp [r_X2_giverFor, c1]), rfl⟩)
      | succ n ih =>
        intro i u hi hv
        refine hl_iload h 4 dX2_giverFor_18 rfl ?_
        refine hl_iconst h 4 dX2_giverFor_20 (by decide) ?_
        refine hl_icmp_ge_F h 52 dX2_giverFor_21 (by decide) (nI_ge (b := 4) (by omega) (by decide)) ?_
        refine hl_aload_n h 0 dX2_giverFor_24 rfl ?_
        refine hl_get h hi2 hl_wc_2 rfl 0 rfl dX2_giverFor_25 (by decide) (by decide +kernel) ?_
        refine hl_iload h 4 dX2_giverFor_28 rfl ?_
        refine hl_ildN h hl_wc_9 0 rfl i dX2_giverFor_30 rfl (by omega) (by decide) ?_
        refine hl_iload_n h 3 dX2_giverFor_31 rfl ?_
        refine hl_icmp_le h 46 dX2_giverFor_32 (by decide) (fun c2 => ?_) (fun c2 => ?_)
        · refine hl_iinc h 4 (nI (i + 1)) [(4, .int (nI (i + 1))), (0, .ref (a 2)), (1, .int x), (2, .int u.1), (3, .int u.2)] dX2_giverFor_46 rfl (hl_inc i) (by decide) rfl ?_
          refine hl_goto h 18 dX2_giverFor_49 (by decide) ?_
          refine hl_lsub [1, 2, 3, 4, 0] rfl ?_
          exact ih (i + 1) (u.1, u.2) (by omega) (by rw [← hv, hl_it_s] <;> (congr 1 <;> (first | (simp [b_X2_giverFor, c2]; done) | (symm; simp [b_X2_giverFor, c2]))))
        · refine hl_iload h 4 dX2_giverFor_35 rfl ?_
          refine hl_istore_n h [(2, .int (nI i)), (0, .ref (a 2)), (1, .int x), (3, .int u.2), (4, .int (nI i))] dX2_giverFor_37 (by decide) rfl ?_
          refine hl_aload_n h 1 dX2_giverFor_38 rfl ?_
          refine hl_get h hi2 hl_wc_2 rfl 0 rfl dX2_giverFor_39 (by decide) (by decide +kernel) ?_
          refine hl_iload h 4 dX2_giverFor_42 rfl ?_
          refine hl_ildN h hl_wc_9 0 rfl i dX2_giverFor_44 rfl (by omega) (by decide) ?_
          refine hl_istore_n h [(3, .int (g 3 i)), (2, .int (nI i)), (0, .ref (a 2)), (1, .int x), (4, .int (nI i))] dX2_giverFor_45 (by decide) rfl ?_
          refine hl_iinc h 4 (nI (i + 1)) [(4, .int (nI (i + 1))), (3, .int (g 3 i)), (2, .int (nI i)), (0, .ref (a 2)), (1, .int x)] dX2_giverFor_46 rfl (hl_inc i) (by decide) rfl ?_
          refine hl_goto h 18 dX2_giverFor_49 (by decide) ?_
          refine hl_lsub [3, 4, 2, 1, 0] rfl ?_
          exact ih (i + 1) ((nI i), (g 3 i)) (by omega) (by rw [← hv, hl_it_s] <;> (congr 1 <;> (first | (simp [b_X2_giverFor, c2]; done) | (symm; simp [b_X2_giverFor, c2]))))
    refine hl_lsub [3, 4, 2, 1, 0] rfl ?_
    exact lp18 4 0 (-1, 0) rfl (by simp [r_X2_giverFor, c1])
  · refine hl_iload_n h 1 dX2_giverFor_9 rfl ?_
    exact hend dX2_giverFor_10 (fun h9 => nomatch h9) (by
      exact ⟨by first | exact hv | (simp [r_X2_giverFor, c1]), rfl⟩)

set_option maxHeartbeats 4000000 in
set_option maxRecDepth 100000 in
theorem c_X2_chargeForBorrowing (l : Launch) (D : va_G) (cI cZ cJ : ClassId) (a : Nat → Nat) (g : Nat → Nat → Int32) : hl_KI D (hl_ty cI cZ cJ) l yX2_chargeForBorrowing wsX2_chargeForBorrowing ({ frames := 0, cells := 0, slots := 0, locals := 0 } : Room) 0 0 [.ref (a 2)] (hl_WC a cI cZ g) (fun r w => r = 1 + g 9 0 ∧ w = hl_WC a cI cZ g) := by
  refine hl_KI_of (cc := cX2_chargeForBorrowing) (maxL := 1) .int rfl (fun _ => Or.inr rfl) (by decide) rfl (Nat.le_of_ble_eq_true rfl) ?_
  intro p e s m args below meth c A Q h hend
  have hi2 : ∀ z ∈ wsX20, z ∈ wsX2_chargeForBorrowing := by decide +kernel
  refine hl_ls (ls' := [(0, .ref (a 2))]) rfl ?_
  refine hl_iconst h 1 dX2_chargeForBorrowing_0 (by decide) ?_
  refine hl_aload_n h 0 dX2_chargeForBorrowing_1 rfl ?_
  refine hl_get h hi2 hl_wc_2 rfl 6 rfl dX2_chargeForBorrowing_2 (by decide) (by decide +kernel) ?_
  refine hl_iadd h dX2_chargeForBorrowing_5 ?_
  exact hend dX2_chargeForBorrowing_6 (fun h9 => nomatch h9) (by
    exact ⟨by rfl, (congrArg (hl_WC a cI cZ) (by rfl))⟩)

set_option maxHeartbeats 4000000 in
set_option maxRecDepth 100000 in
theorem c_X2_take (l : Launch) (D : va_G) (cI cZ cJ : ClassId) (a : Nat → Nat) (g : Nat → Nat → Int32) (x y : Int32) (h1 : vp_in x 4) (h2 : vp_in y 4) : hl_KV D (hl_ty cI cZ cJ) l yX2_take wsX2_take ({ frames := 0, cells := 0, slots := 0, locals := 0 } : Room) 0 0 [.ref (a 2), .int x, .int y] (hl_WC a cI cZ g) (fun w => w = hl_WC a cI cZ (f_X2_take g x y)) := by
  refine hl_KV_of (cc := cX2_take) (maxL := 3) (by decide) rfl (Nat.le_of_ble_eq_true rfl) ?_
  intro p e s m args below meth c A Q h hnm hend
  have hi2 : ∀ z ∈ wsX20, z ∈ wsX2_take := by decide +kernel
  refine hl_ls (ls' := [(0, .ref (a 2)), (1, .int x), (2, .int y)]) rfl ?_
  refine hl_aload_n h 0 dX2_take_0 rfl ?_
  refine hl_get h hi2 hl_wc_2 rfl 0 rfl dX2_take_1 (by decide) (by decide +kernel) ?_
  refine hl_iload_n h 2 dX2_take_4 rfl ?_
  refine hl_dup2 h dX2_take_5 rfl rfl ?_
  refine hl_ild h hl_wc_9 0 rfl dX2_take_6 (by with_reducible assumption) ?_
  refine hl_iconst h 1 dX2_take_7 (by decide) ?_
  refine hl_isub h dX2_take_8 ?_
  refine hl_ist h hl_wc_9 0 rfl dX2_take_9 (by with_reducible assumption) hl_wc_t3 ?_
  refine hl_nmC (fun g1 e2 => ?_)
  refine hl_aload_n h 0 dX2_take_10 rfl ?_
  refine hl_get h hi2 hl_wc_2 rfl 1 rfl dX2_take_11 (by decide) (by decide +kernel) ?_
  refine hl_iload_n h 1 dX2_take_14 rfl ?_
  refine hl_dup2 h dX2_take_15 rfl rfl ?_
  refine hl_ild h hl_wc_10 0 rfl dX2_take_16 (by with_reducible assumption) ?_
  refine hl_iconst h 1 dX2_take_17 (by decide) ?_
  refine hl_iadd h dX2_take_18 ?_
  refine hl_ist h hl_wc_10 0 rfl dX2_take_19 (by with_reducible assumption) hl_wc_t4 ?_
  refine hl_nmC (fun g3 e4 => ?_)
  refine hl_iload_n h 2 dX2_take_20 rfl ?_
  refine hl_iload_n h 1 dX2_take_21 rfl ?_
  refine hl_icmp_eq h 35 dX2_take_22 (by decide) (fun c5 => ?_) (fun c5 => ?_)
  · exact hend dX2_take_35 (by
      subst e4; subst e2
      exact (congrArg (hl_WC a cI cZ) (by first | rfl | (simp [f_X2_take, c5]; done) | (simp [f_X2_take, c5]))))
  · refine hl_aload_n h 0 dX2_take_25 rfl ?_
    refine hl_dup h dX2_take_26 rfl ?_
    refine hl_get h hi2 hl_wc_2 rfl 6 rfl dX2_take_27 (by decide) (by decide +kernel) ?_
    refine hl_iconst h 1 dX2_take_30 (by decide) ?_
    refine hl_iadd h dX2_take_31 ?_
    refine hl_put h hi2 tyX2_ok nmX2 hl_wc_2 rfl 6 dX2_take_32 (by decide) (by decide +kernel) (by decide) rfl rfl (Nat.le_of_ble_eq_true rfl) hl_wc_s9 ?_
    refine hl_nmC (fun g6 e7 => ?_)
    exact hend dX2_take_35 (by
      subst e7; subst e4; subst e2
      exact (congrArg (hl_WC a cI cZ) (by first | rfl | (simp [f_X2_take, c5]; done) | (simp [f_X2_take, c5]))))

set_option maxHeartbeats 4000000 in
set_option maxRecDepth 100000 in
theorem c_X2_endNight (l : Launch) (D : va_G) (cI cZ cJ : ClassId) (a : Nat → Nat) (g : Nat → Nat → Int32) : hl_KV D (hl_ty cI cZ cJ) l yX2_endNight wsX2_endNight ({ frames := 0, cells := 0, slots := 0, locals := 0 } : Room) 0 0 [.ref (a 2)] (hl_WC a cI cZ g) (fun w => w = hl_WC a cI cZ (f_X2_endNight g)) := by
  refine hl_KV_of (cc := cX2_endNight) (maxL := 2) (by decide) rfl (Nat.le_of_ble_eq_true rfl) ?_
  intro p e s m args below meth c A Q h hnm hend
  have hi2 : ∀ z ∈ wsX20, z ∈ wsX2_endNight := by decide +kernel
  refine hl_ls (ls' := [(0, .ref (a 2))]) rfl ?_
  refine hl_iconst h 0 dX2_endNight_0 (by decide) ?_
  refine hl_istore_n h [(1, .int 0), (0, .ref (a 2))] dX2_endNight_1 (by decide) rfl ?_
  have lp2 : ∀ (n : Nat) (i : Nat) (z : Nat → Nat → Int32), (i + n = 4) → (hl_it (b_X2_endNight) i n z = hl_it b_X2_endNight 0 4 g) →  hl_X p l e ({ frames := 0, cells := 0, slots := 0, locals := 0 } : Room) s m args below meth c 2 D A 0 0 Q (hl_WC a cI cZ z) 2 [(0, .ref (a 2)), (1, .int (nI i))] [] := by
    intro n
    induction n with
    | zero =>
      intro i z hi hv
      refine hl_iload_n h 1 dX2_endNight_2 rfl ?_
      refine hl_iconst h 4 dX2_endNight_3 (by decide) ?_
      refine hl_icmp_ge_T h 88 dX2_endNight_4 (by decide) (by rw [show i = 4 by omega]; decide) ?_
      refine hl_aload_n h 0 dX2_endNight_88 rfl ?_
      refine hl_iconst h 0 dX2_endNight_89 (by decide) ?_
      refine hl_put h hi2 tyX2_ok nmX2 hl_wc_2 rfl 6 dX2_endNight_90 (by decide) (by decide +kernel) (by decide) rfl rfl (Nat.le_of_ble_eq_true rfl) hl_wc_s9 ?_
      refine hl_nmC (fun g1 e2 => ?_)
      exact hend dX2_endNight_93 (by
        subst e2; exact congrArg (fun q => hl_WC a cI cZ (hl_su q 9 (fun _ => 0))) hv)
    | succ n ih =>
      intro i z hi hv
      refine hl_iload_n h 1 dX2_endNight_2 rfl ?_
      refine hl_iconst h 4 dX2_endNight_3 (by decide) ?_
      refine hl_icmp_ge_F h 88 dX2_endNight_4 (by decide) (nI_ge (b := 4) (by omega) (by decide)) ?_
      refine hl_aload_n h 0 dX2_endNight_7 rfl ?_
      refine hl_get h hi2 hl_wc_2 rfl 4 rfl dX2_endNight_8 (by decide) (by decide +kernel) ?_
      refine hl_iload_n h 1 dX2_endNight_11 rfl ?_
      refine hl_dup2 h dX2_endNight_12 rfl rfl ?_
      refine hl_ildN h hl_wc_13 0 rfl i dX2_endNight_13 rfl (by omega) (by decide) ?_
      refine hl_aload_n h 0 dX2_endNight_14 rfl ?_
      refine hl_get h hi2 hl_wc_2 rfl 3 rfl dX2_endNight_15 (by decide) (by decide +kernel) ?_
      refine hl_iload_n h 1 dX2_endNight_18 rfl ?_
      refine hl_ildN h hl_wc_12 0 rfl i dX2_endNight_19 rfl (by omega) (by decide) ?_
      refine hl_iadd h dX2_endNight_20 ?_
      refine hl_istN h hl_wc_13 0 rfl i dX2_endNight_21 rfl (by omega) (by decide) hl_wc_t7 ?_
      refine hl_nmC (fun g3 e4 => ?_)
      refine hl_aload_n h 0 dX2_endNight_22 rfl ?_
      refine hl_get h hi2 hl_wc_2 rfl 3 rfl dX2_endNight_23 (by decide) (by decide +kernel) ?_
      refine hl_iload_n h 1 dX2_endNight_26 rfl ?_
      refine hl_aload_n h 0 dX2_endNight_27 rfl ?_
      refine hl_get h hi2 hl_wc_2 rfl 2 rfl dX2_endNight_28 (by decide) (by decide +kernel) ?_
      refine hl_iload_n h 1 dX2_endNight_31 rfl ?_
      refine hl_ildN h hl_wc_11 0 rfl i dX2_endNight_32 rfl (by omega) (by decide) ?_
      refine hl_istN h hl_wc_12 0 rfl i dX2_endNight_33 rfl (by omega) (by decide) hl_wc_t6 ?_
      refine hl_nmC (fun g5 e6 => ?_)
      refine hl_aload_n h 0 dX2_endNight_34 rfl ?_
      refine hl_get h hi2 hl_wc_2 rfl 2 rfl dX2_endNight_35 (by decide) (by decide +kernel) ?_
      refine hl_iload_n h 1 dX2_endNight_38 rfl ?_
      refine hl_aload_n h 0 dX2_endNight_39 rfl ?_
      refine hl_get h hi2 hl_wc_2 rfl 1 rfl dX2_endNight_40 (by decide) (by decide +kernel) ?_
      refine hl_iload_n h 1 dX2_endNight_43 rfl ?_
      refine hl_ildN h hl_wc_10 0 rfl i dX2_endNight_44 rfl (by omega) (by decide) ?_
      refine hl_istN h hl_wc_11 0 rfl i dX2_endNight_45 rfl (by omega) (by decide) hl_wc_t5 ?_
      refine hl_nmC (fun g7 e8 => ?_)
      refine hl_aload_n h 0 dX2_endNight_46 rfl ?_
      refine hl_get h hi2 hl_wc_2 rfl 1 rfl dX2_endNight_47 (by decide) (by decide +kernel) ?_
      refine hl_iload_n h 1 dX2_endNight_50 rfl ?_
      refine hl_iconst h 0 dX2_endNight_51 (by decide) ?_
      refine hl_istN h hl_wc_10 0 rfl i dX2_endNight_52 rfl (by omega) (by decide) hl_wc_t4 ?_
      refine hl_nmC (fun g9 e10 => ?_)
      refine hl_aload_n h 0 dX2_endNight_53 rfl ?_
      refine hl_get h hi2 hl_wc_2 rfl 5 rfl dX2_endNight_54 (by decide) (by decide +kernel) ?_
      refine hl_if_ne h 82 dX2_endNight_57 (by decide) (fun c11 => ?_) (fun c11 => ?_)
      · refine hl_iinc h 1 (nI (i + 1)) [(1, .int (nI (i + 1))), (0, .ref (a 2))] dX2_endNight_82 rfl (hl_inc i) (by decide) rfl ?_
        refine hl_goto h 2 dX2_endNight_85 (by decide) ?_
        refine hl_lsub [1, 0] rfl ?_
        exact ih (i + 1) _ (by omega) (by rw [← hv, hl_it_s] <;> (congr 1 <;> (subst e10; subst e8; subst e6; subst e4; first | rfl | (simp [b_X2_endNight, c11]; done))))
      · refine hl_aload_n h 0 dX2_endNight_60 rfl ?_
        refine hl_get h hi2 hl_wc_2 rfl 0 rfl dX2_endNight_61 (by decide) (by decide +kernel) ?_
        refine hl_iload_n h 1 dX2_endNight_64 rfl ?_
        refine hl_dup2 h dX2_endNight_65 rfl rfl ?_
        refine hl_ildN h hl_wc_9 0 rfl i dX2_endNight_66 rfl (by omega) (by decide) ?_
        refine hl_aload_n h 0 dX2_endNight_67 rfl ?_
        refine hl_get h hi2 hl_wc_2 rfl 4 rfl dX2_endNight_68 (by decide) (by decide +kernel) ?_
        refine hl_iload_n h 1 dX2_endNight_71 rfl ?_
        refine hl_ildN h hl_wc_13 0 rfl i dX2_endNight_72 rfl (by omega) (by decide) ?_
        refine hl_iadd h dX2_endNight_73 ?_
        refine hl_istN h hl_wc_9 0 rfl i dX2_endNight_74 rfl (by omega) (by decide) hl_wc_t3 ?_
        refine hl_nmC (fun g12 e13 => ?_)
        refine hl_aload_n h 0 dX2_endNight_75 rfl ?_
        refine hl_get h hi2 hl_wc_2 rfl 4 rfl dX2_endNight_76 (by decide) (by decide +kernel) ?_
        refine hl_iload_n h 1 dX2_endNight_79 rfl ?_
        refine hl_iconst h 0 dX2_endNight_80 (by decide) ?_
        refine hl_istN h hl_wc_13 0 rfl i dX2_endNight_81 rfl (by omega) (by decide) hl_wc_t7 ?_
        refine hl_nmC (fun g14 e15 => ?_)
        refine hl_iinc h 1 (nI (i + 1)) [(1, .int (nI (i + 1))), (0, .ref (a 2))] dX2_endNight_82 rfl (hl_inc i) (by decide) rfl ?_
        refine hl_goto h 2 dX2_endNight_85 (by decide) ?_
        refine hl_lsub [1, 0] rfl ?_
        exact ih (i + 1) _ (by omega) (by rw [← hv, hl_it_s] <;> (congr 1 <;> (subst e15; subst e13; subst e10; subst e8; subst e6; subst e4; first | rfl | (simp [b_X2_endNight, c11]; done))))
  refine hl_lsub [1, 0] rfl ?_
  exact lp2 4 0 g rfl rfl

set_option maxHeartbeats 4000000 in
set_option maxRecDepth 100000 in
theorem c_X0_isFull (l : Launch) (D : va_G) (cI cZ cJ : ClassId) (a : Nat → Nat) (g : Nat → Nat → Int32) : hl_KI D (hl_ty cI cZ cJ) l yX0_isFull wsX0_isFull ({ frames := 0, cells := 0, slots := 0, locals := 0 } : Room) 0 0 [.ref (a 3)] (hl_WC a cI cZ g) (fun r w => r = (if g 16 0 < 80 then 0 else 1) ∧ w = hl_WC a cI cZ g) := by
  refine hl_KI_of (cc := cX0_isFull) (maxL := 1) .boolean rfl (fun _ => Or.inl rfl) (by decide) rfl (Nat.le_of_ble_eq_true rfl) ?_
  intro p e s m args below meth c A Q h hend
  have hi0 : ∀ z ∈ wsX00, z ∈ wsX0_isFull := by decide +kernel
  refine hl_ls (ls' := [(0, .ref (a 3))]) rfl ?_
  refine hl_aload_n h 0 dX0_isFull_0 rfl ?_
  refine hl_get h hi0 hl_wc_3 rfl 6 rfl dX0_isFull_1 (by decide) (by decide +kernel) ?_
  refine hl_bipush h 80 dX0_isFull_4 (by decide) ?_
  refine hl_icmp_lt h 13 dX0_isFull_6 (by decide) (fun c1 => ?_) (fun c1 => ?_)
  · refine hl_iconst h 0 dX0_isFull_13 (by decide) ?_
    exact hend dX0_isFull_14 (fun _ => by decide) (by
      exact ⟨by first | rfl | (simp [c1]; done) | (simp [c1]), (congrArg (hl_WC a cI cZ) (by first | rfl | (simp [c1]; done) | (simp [c1])))⟩)
  · refine hl_iconst h 1 dX0_isFull_9 (by decide) ?_
    refine hl_goto h 14 dX0_isFull_10 (by decide) ?_
    exact hend dX0_isFull_14 (fun _ => by decide) (by
      exact ⟨by first | rfl | (simp [c1]; done) | (simp [c1]), (congrArg (hl_WC a cI cZ) (by first | rfl | (simp [c1]; done) | (simp [c1])))⟩)

set_option maxHeartbeats 4000000 in
set_option maxRecDepth 100000 in
theorem c_X0_add (l : Launch) (D : va_G) (cI cZ cJ : ClassId) (a : Nat → Nat) (g : Nat → Nat → Int32) (x y z v : Int32) (h1 : vp_in (g 16 0) 80) : hl_KI D (hl_ty cI cZ cJ) l yX0_add wsX0_add ({ frames := 0, cells := 0, slots := 0, locals := 0 } : Room) 0 0 [.ref (a 3), .int x, .int y, .int z, .int v] (hl_WC a cI cZ g) (fun r w => r = g 16 0 ∧ w = hl_WC a cI cZ (f_X0_add g x y z v)) := by
  refine hl_KI_of (cc := cX0_add) (maxL := 6) .int rfl (fun _ => Or.inr rfl) (by decide) rfl (Nat.le_of_ble_eq_true rfl) ?_
  intro p e s m args below meth c A Q h hend
  have hi0 : ∀ z ∈ wsX00, z ∈ wsX0_add := by decide +kernel
  refine hl_ls (ls' := [(0, .ref (a 3)), (1, .int x), (2, .int y), (3, .int z), (4, .int v)]) rfl ?_
  refine hl_aload_n h 0 dX0_add_0 rfl ?_
  refine hl_get h hi0 hl_wc_3 rfl 6 rfl dX0_add_1 (by decide) (by decide +kernel) ?_
  refine hl_istore h [(5, .int (g 16 0)), (0, .ref (a 3)), (1, .int x), (2, .int y), (3, .int z), (4, .int v)] dX0_add_4 (by decide) rfl ?_
  refine hl_aload_n h 1 dX0_add_6 rfl ?_
  refine hl_get h hi0 hl_wc_3 rfl 0 rfl dX0_add_7 (by decide) (by decide +kernel) ?_
  refine hl_iload h 0 dX0_add_10 rfl ?_
  refine hl_iload_n h 2 dX0_add_12 rfl ?_
  refine hl_ist h hl_wc_14 0 rfl dX0_add_13 (by with_reducible assumption) hl_wc_t10 ?_
  refine hl_nmC (fun g1 e2 => ?_)
  refine hl_aload_n h 1 dX0_add_14 rfl ?_
  refine hl_get h hi0 hl_wc_3 rfl 1 rfl dX0_add_15 (by decide) (by decide +kernel) ?_
  refine hl_iload h 0 dX0_add_18 rfl ?_
  refine hl_iload_n h 3 dX0_add_20 rfl ?_
  refine hl_ist h hl_wc_15 0 rfl dX0_add_21 (by with_reducible assumption) hl_wc_t11 ?_
  refine hl_nmC (fun g3 e4 => ?_)
  refine hl_aload_n h 1 dX0_add_22 rfl ?_
  refine hl_get h hi0 hl_wc_3 rfl 2 rfl dX0_add_23 (by decide) (by decide +kernel) ?_
  refine hl_iload h 0 dX0_add_26 rfl ?_
  refine hl_iload_n h 4 dX0_add_28 rfl ?_
  refine hl_ist h hl_wc_16 0 rfl dX0_add_29 (by with_reducible assumption) hl_wc_t12 ?_
  refine hl_nmC (fun g5 e6 => ?_)
  refine hl_aload_n h 1 dX0_add_30 rfl ?_
  refine hl_get h hi0 hl_wc_3 rfl 3 rfl dX0_add_31 (by decide) (by decide +kernel) ?_
  refine hl_iload h 0 dX0_add_34 rfl ?_
  refine hl_iload h 5 dX0_add_36 rfl ?_
  refine hl_ist h hl_wc_17 0 rfl dX0_add_38 (by with_reducible assumption) hl_wc_t13 ?_
  refine hl_nmC (fun g7 e8 => ?_)
  refine hl_aload_n h 1 dX0_add_39 rfl ?_
  refine hl_get h hi0 hl_wc_3 rfl 5 rfl dX0_add_40 (by decide) (by decide +kernel) ?_
  refine hl_iload h 0 dX0_add_43 rfl ?_
  refine hl_iconst h (-1) dX0_add_45 (by decide) ?_
  refine hl_ist h hl_wc_19 0 rfl dX0_add_46 (by with_reducible assumption) hl_wc_t15 ?_
  refine hl_nmC (fun g9 e10 => ?_)
  refine hl_aload_n h 1 dX0_add_47 rfl ?_
  refine hl_dup h dX0_add_48 rfl ?_
  refine hl_get h hi0 hl_wc_3 rfl 6 rfl dX0_add_49 (by decide) (by decide +kernel) ?_
  refine hl_iconst h 1 dX0_add_52 (by decide) ?_
  refine hl_iadd h dX0_add_53 ?_
  refine hl_put h hi0 tyX0_ok nmX0 hl_wc_3 rfl 6 dX0_add_54 (by decide) (by decide +kernel) (by decide) rfl rfl (Nat.le_of_ble_eq_true rfl) hl_wc_s16 ?_
  refine hl_nmC (fun g11 e12 => ?_)
  refine hl_iload h 0 dX0_add_57 rfl ?_
  exact hend dX0_add_59 (fun h9 => nomatch h9) (by
    subst e12; subst e10; subst e8; subst e6; subst e4; subst e2
    exact ⟨by rfl, (congrArg (hl_WC a cI cZ) (by rfl))⟩)

set_option maxHeartbeats 4000000 in
set_option maxRecDepth 100000 in
theorem c_X0_arrive (l : Launch) (D : va_G) (cI cZ cJ : ClassId) (a : Nat → Nat) (g : Nat → Nat → Int32) (x y : Int32) (h1 : vp_in x 80) : hl_KV D (hl_ty cI cZ cJ) l yX0_arrive wsX0_arrive ({ frames := 0, cells := 0, slots := 0, locals := 0 } : Room) 0 0 [.ref (a 3), .int x, .int y] (hl_WC a cI cZ g) (fun w => w = hl_WC a cI cZ (f_X0_arrive g x y)) := by
  refine hl_KV_of (cc := cX0_arrive) (maxL := 3) (by decide) rfl (Nat.le_of_ble_eq_true rfl) ?_
  intro p e s m args below meth c A Q h hnm hend
  have hi0 : ∀ z ∈ wsX00, z ∈ wsX0_arrive := by decide +kernel
  refine hl_ls (ls' := [(0, .ref (a 3)), (1, .int x), (2, .int y)]) rfl ?_
  refine hl_aload_n h 0 dX0_arrive_0 rfl ?_
  refine hl_get h hi0 hl_wc_3 rfl 4 rfl dX0_arrive_1 (by decide) (by decide +kernel) ?_
  refine hl_iload_n h 1 dX0_arrive_4 rfl ?_
  refine hl_iconst h 1 dX0_arrive_5 (by decide) ?_
  refine hl_zst h hl_wc_18 1 rfl dX0_arrive_6 (by with_reducible assumption) hl_wc_t14 ?_
  refine hl_nmC (fun g1 e2 => ?_)
  refine hl_aload_n h 0 dX0_arrive_7 rfl ?_
  refine hl_get h hi0 hl_wc_3 rfl 5 rfl dX0_arrive_8 (by decide) (by decide +kernel) ?_
  refine hl_iload_n h 1 dX0_arrive_11 rfl ?_
  refine hl_iload_n h 2 dX0_arrive_12 rfl ?_
  refine hl_ist h hl_wc_19 0 rfl dX0_arrive_13 (by with_reducible assumption) hl_wc_t15 ?_
  refine hl_nmC (fun g3 e4 => ?_)
  exact hend dX0_arrive_14 (by
    subst e4; subst e2
    exact (congrArg (hl_WC a cI cZ) (by rfl)))

set_option maxHeartbeats 4000000 in
set_option maxRecDepth 100000 in
theorem c_X0_countFor (l : Launch) (D : va_G) (cI cZ cJ : ClassId) (a : Nat → Nat) (g : Nat → Nat → Int32) (x y z : Int32) (N : Nat) (hN : N ≤ 80) (hc : g 16 0 = nI N) : hl_KI D (hl_ty cI cZ cJ) l yX0_countFor wsX0_countFor ({ frames := 0, cells := 0, slots := 0, locals := 0 } : Room) 0 0 [.ref (a 3), .int x, .int y, .int z] (hl_WC a cI cZ g) (fun r w => r = hl_it (b_X0_countFor g x y z) 0 N 0 ∧ w = hl_WC a cI cZ g) := by
  refine hl_KI_of (cc := cX0_countFor) (maxL := 6) .int rfl (fun _ => Or.inr rfl) (by decide) rfl (Nat.le_of_ble_eq_true rfl) ?_
  intro p e s m args below meth c A Q h hend
  have hi0 : ∀ z ∈ wsX00, z ∈ wsX0_countFor := by decide +kernel
  refine hl_ls (ls' := [(0, .ref (a 3)), (1, .int x), (2, .int y), (3, .int z)]) rfl ?_
  refine hl_iconst h 0 dX0_countFor_0 (by decide) ?_
  refine hl_istore h [(4, .int 0), (0, .ref (a 3)), (1, .int x), (2, .int y), (3, .int z)] dX0_countFor_1 (by decide) rfl ?_
  refine hl_iconst h 0 dX0_countFor_3 (by decide) ?_
  refine hl_istore h [(5, .int 0), (4, .int 0), (0, .ref (a 3)), (1, .int x), (2, .int y), (3, .int z)] dX0_countFor_4 (by decide) rfl ?_
  have lp6 : ∀ (n : Nat) (i : Nat) (u : Int32), (i + n = N) → (hl_it (b_X0_countFor g x y z) i n u = hl_it (b_X0_countFor g x y z) 0 N 0) →  hl_X p l e ({ frames := 0, cells := 0, slots := 0, locals := 0 } : Room) s m args below meth c 6 D A 0 0 Q (hl_WC a cI cZ g) 6 [(0, .ref (a 3)), (1, .int x), (2, .int y), (3, .int z), (4, .int u), (5, .int (nI i))] [] := by
    intro n
    induction n with
    | zero =>
      intro i u hi hv
      refine hl_iload h 5 dX0_countFor_6 rfl ?_
      refine hl_aload_n h 0 dX0_countFor_8 rfl ?_
      refine hl_get h hi0 hl_wc_3 rfl 6 rfl dX0_countFor_9 (by decide) (by decide +kernel) ?_
      refine hl_icmp_ge_T h 57 dX0_countFor_12 (by decide) (by rw [hc]; exact nI_le (by omega) (by omega)) ?_
      refine hl_iload h 4 dX0_countFor_57 rfl ?_
      exact hend dX0_countFor_59 (fun h9 => nomatch h9) (by
        exact ⟨hv, rfl⟩)
    | succ n ih =>
      intro i u hi hv
      refine hl_iload h 5 dX0_countFor_6 rfl ?_
      refine hl_aload_n h 0 dX0_countFor_8 rfl ?_
      refine hl_get h hi0 hl_wc_3 rfl 6 rfl dX0_countFor_9 (by decide) (by decide +kernel) ?_
      refine hl_icmp_ge_F h 57 dX0_countFor_12 (by decide) (by rw [hc]; exact nI_ge (by omega) (by omega)) ?_
      refine hl_aload_n h 0 dX0_countFor_15 rfl ?_
      refine hl_get h hi0 hl_wc_3 rfl 1 rfl dX0_countFor_16 (by decide) (by decide +kernel) ?_
      refine hl_iload h 5 dX0_countFor_19 rfl ?_
      refine hl_ildN h hl_wc_15 0 rfl i dX0_countFor_21 rfl (by omega) (by decide) ?_
      refine hl_iload_n h 1 dX0_countFor_22 rfl ?_
      refine hl_icmp_ne h 51 dX0_countFor_23 (by decide) (fun c1 => ?_) (fun c1 => ?_)
      · refine hl_iinc h 5 (nI (i + 1)) [(5, .int (nI (i + 1))), (0, .ref (a 3)), (1, .int x), (2, .int y), (3, .int z), (4, .int u)] dX0_countFor_51 rfl (hl_inc i) (by decide) rfl ?_
        refine hl_goto h 6 dX0_countFor_54 (by decide) ?_
        refine hl_lsub [1, 2, 3, 4, 5, 0] rfl ?_
        exact ih (i + 1) u (by omega) (by rw [← hv, hl_it_s] <;> (congr 1 <;> (first | (simp [b_X0_countFor, c1]; done) | (symm; simp [b_X0_countFor, c1]))))
      · refine hl_aload_n h 0 dX0_countFor_26 rfl ?_
        refine hl_get h hi0 hl_wc_3 rfl 2 rfl dX0_countFor_27 (by decide) (by decide +kernel) ?_
        refine hl_iload h 5 dX0_countFor_30 rfl ?_
        refine hl_ildN h hl_wc_16 0 rfl i dX0_countFor_32 rfl (by omega) (by decide) ?_
        refine hl_iload_n h 2 dX0_countFor_33 rfl ?_
        refine hl_icmp_ne h 51 dX0_countFor_34 (by decide) (fun c2 => ?_) (fun c2 => ?_)
        · refine hl_iinc h 5 (nI (i + 1)) [(5, .int (nI (i + 1))), (0, .ref (a 3)), (1, .int x), (2, .int y), (3, .int z), (4, .int u)] dX0_countFor_51 rfl (hl_inc i) (by decide) rfl ?_
          refine hl_goto h 6 dX0_countFor_54 (by decide) ?_
          refine hl_lsub [1, 2, 3, 4, 5, 0] rfl ?_
          exact ih (i + 1) u (by omega) (by rw [← hv, hl_it_s] <;> (congr 1 <;> (first | (simp [b_X0_countFor, c1, c2]; done) | (symm; simp [b_X0_countFor, c1, c2]))))
        · refine hl_aload_n h 0 dX0_countFor_37 rfl ?_
          refine hl_get h hi0 hl_wc_3 rfl 3 rfl dX0_countFor_38 (by decide) (by decide +kernel) ?_
          refine hl_iload h 5 dX0_countFor_41 rfl ?_
          refine hl_ildN h hl_wc_17 0 rfl i dX0_countFor_43 rfl (by omega) (by decide) ?_
          refine hl_iload_n h 3 dX0_countFor_44 rfl ?_
          refine hl_icmp_ne h 51 dX0_countFor_45 (by decide) (fun c3 => ?_) (fun c3 => ?_)
          · refine hl_iinc h 5 (nI (i + 1)) [(5, .int (nI (i + 1))), (0, .ref (a 3)), (1, .int x), (2, .int y), (3, .int z), (4, .int u)] dX0_countFor_51 rfl (hl_inc i) (by decide) rfl ?_
            refine hl_goto h 6 dX0_countFor_54 (by decide) ?_
            refine hl_lsub [1, 2, 3, 4, 5, 0] rfl ?_
            exact ih (i + 1) u (by omega) (by rw [← hv, hl_it_s] <;> (congr 1 <;> (first | (simp [b_X0_countFor, c1, c2, c3]; done) | (symm; simp [b_X0_countFor, c1, c2, c3]))))
          · refine hl_iinc h 4 (u + 1) [(4, .int (u + 1)), (0, .ref (a 3)), (1, .int x), (2, .int y), (3, .int z), (5, .int (nI i))] dX0_countFor_48 rfl rfl (by decide) rfl ?_
            refine hl_iinc h 5 (nI (i + 1)) [(5, .int (nI (i + 1))), (4, .int (u + 1)), (0, .ref (a 3)), (1, .int x), (2, .int y), (3, .int z)] dX0_countFor_51 rfl (hl_inc i) (by decide) rfl ?_
            refine hl_goto h 6 dX0_countFor_54 (by decide) ?_
            refine hl_lsub [2, 3, 4, 5, 1, 0] rfl ?_
            exact ih (i + 1) (u + 1) (by omega) (by rw [← hv, hl_it_s] <;> (congr 1 <;> (first | (simp [b_X0_countFor, c1, c2, c3]; done) | (symm; simp [b_X0_countFor, c1, c2, c3]))))
  refine hl_lsub [2, 3, 4, 5, 1, 0] rfl ?_
  exact lp6 N 0 0 (Nat.zero_add N) rfl

set_option maxHeartbeats 4000000 in
set_option maxRecDepth 100000 in
theorem c_X0_missedIn (l : Launch) (D : va_G) (cI cZ cJ : ClassId) (a : Nat → Nat) (g : Nat → Nat → Int32) (x : Int32) (N : Nat) (hN : N ≤ 80) (hc : g 16 0 = nI N) : hl_KI D (hl_ty cI cZ cJ) l yX0_missedIn wsX0_missedIn ({ frames := 0, cells := 0, slots := 0, locals := 0 } : Room) 0 0 [.ref (a 3), .int x] (hl_WC a cI cZ g) (fun r w => r = hl_it (b_X0_missedIn g x) 0 N 0 ∧ w = hl_WC a cI cZ g) := by
  refine hl_KI_of (cc := cX0_missedIn) (maxL := 4) .int rfl (fun _ => Or.inr rfl) (by decide) rfl (Nat.le_of_ble_eq_true rfl) ?_
  intro p e s m args below meth c A Q h hend
  have hi0 : ∀ z ∈ wsX00, z ∈ wsX0_missedIn := by decide +kernel
  refine hl_ls (ls' := [(0, .ref (a 3)), (1, .int x)]) rfl ?_
  refine hl_iconst h 0 dX0_missedIn_0 (by decide) ?_
  refine hl_istore_n h [(2, .int 0), (0, .ref (a 3)), (1, .int x)] dX0_missedIn_1 (by decide) rfl ?_
  refine hl_iconst h 0 dX0_missedIn_2 (by decide) ?_
  refine hl_istore_n h [(3, .int 0), (2, .int 0), (0, .ref (a 3)), (1, .int x)] dX0_missedIn_3 (by decide) rfl ?_
  have lp4 : ∀ (n : Nat) (i : Nat) (u : Int32), (i + n = N) → (hl_it (b_X0_missedIn g x) i n u = hl_it (b_X0_missedIn g x) 0 N 0) →  hl_X p l e ({ frames := 0, cells := 0, slots := 0, locals := 0 } : Room) s m args below meth c 4 D A 0 0 Q (hl_WC a cI cZ g) 4 [(0, .ref (a 3)), (1, .int x), (2, .int u), (3, .int (nI i))] [] := by
    intro n
    induction n with
    | zero =>
      intro i u hi hv
      refine hl_iload_n h 3 dX0_missedIn_4 rfl ?_
      refine hl_aload_n h 0 dX0_missedIn_5 rfl ?_
      refine hl_get h hi0 hl_wc_3 rfl 6 rfl dX0_missedIn_6 (by decide) (by decide +kernel) ?_
      refine hl_icmp_ge_T h 40 dX0_missedIn_9 (by decide) (by rw [hc]; exact nI_le (by omega) (by omega)) ?_
      refine hl_iload_n h 2 dX0_missedIn_40 rfl ?_
      exact hend dX0_missedIn_41 (fun h9 => nomatch h9) (by
        exact ⟨hv, rfl⟩)
    | succ n ih =>
      intro i u hi hv
      refine hl_iload_n h 3 dX0_missedIn_4 rfl ?_
      refine hl_aload_n h 0 dX0_missedIn_5 rfl ?_
      refine hl_get h hi0 hl_wc_3 rfl 6 rfl dX0_missedIn_6 (by decide) (by decide +kernel) ?_
      refine hl_icmp_ge_F h 40 dX0_missedIn_9 (by decide) (by rw [hc]; exact nI_ge (by omega) (by omega)) ?_
      refine hl_aload_n h 0 dX0_missedIn_12 rfl ?_
      refine hl_get h hi0 hl_wc_3 rfl 3 rfl dX0_missedIn_13 (by decide) (by decide +kernel) ?_
      refine hl_iload_n h 3 dX0_missedIn_16 rfl ?_
      refine hl_ildN h hl_wc_17 0 rfl i dX0_missedIn_17 rfl (by omega) (by decide) ?_
      refine hl_iload_n h 1 dX0_missedIn_18 rfl ?_
      refine hl_icmp_ne h 34 dX0_missedIn_19 (by decide) (fun c1 => ?_) (fun c1 => ?_)
      · refine hl_iinc h 3 (nI (i + 1)) [(3, .int (nI (i + 1))), (0, .ref (a 3)), (1, .int x), (2, .int u)] dX0_missedIn_34 rfl (hl_inc i) (by decide) rfl ?_
        refine hl_goto h 4 dX0_missedIn_37 (by decide) ?_
        refine hl_lsub [1, 2, 3, 0] rfl ?_
        exact ih (i + 1) u (by omega) (by rw [← hv, hl_it_s] <;> (congr 1 <;> (first | (simp [b_X0_missedIn, c1]; done) | (symm; simp [b_X0_missedIn, c1]))))
      · refine hl_aload_n h 0 dX0_missedIn_22 rfl ?_
        refine hl_get h hi0 hl_wc_3 rfl 4 rfl dX0_missedIn_23 (by decide) (by decide +kernel) ?_
        refine hl_iload_n h 3 dX0_missedIn_26 rfl ?_
        refine hl_zldN h hl_wc_18 1 rfl i dX0_missedIn_27 rfl (by omega) (by decide) ?_
        refine hl_if_ne h 34 dX0_missedIn_28 (by decide) (fun c2 => ?_) (fun c2 => ?_)
        · refine hl_iinc h 3 (nI (i + 1)) [(3, .int (nI (i + 1))), (0, .ref (a 3)), (1, .int x), (2, .int u)] dX0_missedIn_34 rfl (hl_inc i) (by decide) rfl ?_
          refine hl_goto h 4 dX0_missedIn_37 (by decide) ?_
          refine hl_lsub [1, 2, 3, 0] rfl ?_
          exact ih (i + 1) u (by omega) (by rw [← hv, hl_it_s] <;> (congr 1 <;> (first | (simp [b_X0_missedIn, c1, c2]; done) | (symm; simp [b_X0_missedIn, c1, c2]))))
        · refine hl_iinc h 2 (u + 1) [(2, .int (u + 1)), (0, .ref (a 3)), (1, .int x), (3, .int (nI i))] dX0_missedIn_31 rfl rfl (by decide) rfl ?_
          refine hl_iinc h 3 (nI (i + 1)) [(3, .int (nI (i + 1))), (2, .int (u + 1)), (0, .ref (a 3)), (1, .int x)] dX0_missedIn_34 rfl (hl_inc i) (by decide) rfl ?_
          refine hl_goto h 4 dX0_missedIn_37 (by decide) ?_
          refine hl_lsub [2, 3, 1, 0] rfl ?_
          exact ih (i + 1) (u + 1) (by omega) (by rw [← hv, hl_it_s] <;> (congr 1 <;> (first | (simp [b_X0_missedIn, c1, c2]; done) | (symm; simp [b_X0_missedIn, c1, c2]))))
  refine hl_lsub [2, 3, 1, 0] rfl ?_
  exact lp4 N 0 0 (Nat.zero_add N) rfl

set_option maxHeartbeats 4000000 in
set_option maxRecDepth 100000 in
theorem c_X0_missedAt (l : Launch) (D : va_G) (cI cZ cJ : ClassId) (a : Nat → Nat) (g : Nat → Nat → Int32) (x y z : Int32) (N : Nat) (hN : N ≤ 80) (hc : g 16 0 = nI N) : hl_KI D (hl_ty cI cZ cJ) l yX0_missedAt wsX0_missedAt ({ frames := 0, cells := 0, slots := 0, locals := 0 } : Room) 0 0 [.ref (a 3), .int x, .int y, .int z] (hl_WC a cI cZ g) (fun r w => r = hl_it (b_X0_missedAt g x y z) 0 N 0 ∧ w = hl_WC a cI cZ g) := by
  refine hl_KI_of (cc := cX0_missedAt) (maxL := 6) .int rfl (fun _ => Or.inr rfl) (by decide) rfl (Nat.le_of_ble_eq_true rfl) ?_
  intro p e s m args below meth c A Q h hend
  have hi0 : ∀ z ∈ wsX00, z ∈ wsX0_missedAt := by decide +kernel
  refine hl_ls (ls' := [(0, .ref (a 3)), (1, .int x), (2, .int y), (3, .int z)]) rfl ?_
  refine hl_iconst h 0 dX0_missedAt_0 (by decide) ?_
  refine hl_istore h [(4, .int 0), (0, .ref (a 3)), (1, .int x), (2, .int y), (3, .int z)] dX0_missedAt_1 (by decide) rfl ?_
  refine hl_iconst h 0 dX0_missedAt_3 (by decide) ?_
  refine hl_istore h [(5, .int 0), (4, .int 0), (0, .ref (a 3)), (1, .int x), (2, .int y), (3, .int z)] dX0_missedAt_4 (by decide) rfl ?_
  have lp6 : ∀ (n : Nat) (i : Nat) (u : Int32), (i + n = N) → (hl_it (b_X0_missedAt g x y z) i n u = hl_it (b_X0_missedAt g x y z) 0 N 0) →  hl_X p l e ({ frames := 0, cells := 0, slots := 0, locals := 0 } : Room) s m args below meth c 6 D A 0 0 Q (hl_WC a cI cZ g) 6 [(0, .ref (a 3)), (1, .int x), (2, .int y), (3, .int z), (4, .int u), (5, .int (nI i))] [] := by
    intro n
    induction n with
    | zero =>
      intro i u hi hv
      refine hl_iload h 5 dX0_missedAt_6 rfl ?_
      refine hl_aload_n h 0 dX0_missedAt_8 rfl ?_
      refine hl_get h hi0 hl_wc_3 rfl 6 rfl dX0_missedAt_9 (by decide) (by decide +kernel) ?_
      refine hl_icmp_ge_T h 67 dX0_missedAt_12 (by decide) (by rw [hc]; exact nI_le (by omega) (by omega)) ?_
      refine hl_iload h 4 dX0_missedAt_67 rfl ?_
      exact hend dX0_missedAt_69 (fun h9 => nomatch h9) (by
        exact ⟨hv, rfl⟩)
    | succ n ih =>
      intro i u hi hv
      refine hl_iload h 5 dX0_missedAt_6 rfl ?_
      refine hl_aload_n h 0 dX0_missedAt_8 rfl ?_
      refine hl_get h hi0 hl_wc_3 rfl 6 rfl dX0_missedAt_9 (by decide) (by decide +kernel) ?_
      refine hl_icmp_ge_F h 67 dX0_missedAt_12 (by decide) (by rw [hc]; exact nI_ge (by omega) (by omega)) ?_
      refine hl_aload_n h 0 dX0_missedAt_15 rfl ?_
      refine hl_get h hi0 hl_wc_3 rfl 1 rfl dX0_missedAt_16 (by decide) (by decide +kernel) ?_
      refine hl_iload h 5 dX0_missedAt_19 rfl ?_
      refine hl_ildN h hl_wc_15 0 rfl i dX0_missedAt_21 rfl (by omega) (by decide) ?_
      refine hl_iload_n h 1 dX0_missedAt_22 rfl ?_
      refine hl_icmp_ne h 61 dX0_missedAt_23 (by decide) (fun c1 => ?_) (fun c1 => ?_)
      · refine hl_iinc h 5 (nI (i + 1)) [(5, .int (nI (i + 1))), (0, .ref (a 3)), (1, .int x), (2, .int y), (3, .int z), (4, .int u)] dX0_missedAt_61 rfl (hl_inc i) (by decide) rfl ?_
        refine hl_goto h 6 dX0_missedAt_64 (by decide) ?_
        refine hl_lsub [1, 2, 3, 4, 5, 0] rfl ?_
        exact ih (i + 1) u (by omega) (by rw [← hv, hl_it_s] <;> (congr 1 <;> (first | (simp [b_X0_missedAt, c1]; done) | (symm; simp [b_X0_missedAt, c1]))))
      · refine hl_aload_n h 0 dX0_missedAt_26 rfl ?_
        refine hl_get h hi0 hl_wc_3 rfl 3 rfl dX0_missedAt_27 (by decide) (by decide +kernel) ?_
        refine hl_iload h 5 dX0_missedAt_30 rfl ?_
        refine hl_ildN h hl_wc_17 0 rfl i dX0_missedAt_32 rfl (by omega) (by decide) ?_
        refine hl_iload_n h 2 dX0_missedAt_33 rfl ?_
        refine hl_icmp_lt h 61 dX0_missedAt_34 (by decide) (fun c2 => ?_) (fun c2 => ?_)
        · refine hl_iinc h 5 (nI (i + 1)) [(5, .int (nI (i + 1))), (0, .ref (a 3)), (1, .int x), (2, .int y), (3, .int z), (4, .int u)] dX0_missedAt_61 rfl (hl_inc i) (by decide) rfl ?_
          refine hl_goto h 6 dX0_missedAt_64 (by decide) ?_
          refine hl_lsub [1, 2, 3, 4, 5, 0] rfl ?_
          exact ih (i + 1) u (by omega) (by rw [← hv, hl_it_s] <;> (congr 1 <;> (first | (simp [b_X0_missedAt, c1, c2]; done) | (symm; simp [b_X0_missedAt, c1, c2]))))
        · refine hl_aload_n h 0 dX0_missedAt_37 rfl ?_
          refine hl_get h hi0 hl_wc_3 rfl 3 rfl dX0_missedAt_38 (by decide) (by decide +kernel) ?_
          refine hl_iload h 5 dX0_missedAt_41 rfl ?_
          refine hl_ildN h hl_wc_17 0 rfl i dX0_missedAt_43 rfl (by omega) (by decide) ?_
          refine hl_iload_n h 3 dX0_missedAt_44 rfl ?_
          refine hl_icmp_ge h 61 dX0_missedAt_45 (by decide) (fun c3 => ?_) (fun c3 => ?_)
          · refine hl_iinc h 5 (nI (i + 1)) [(5, .int (nI (i + 1))), (0, .ref (a 3)), (1, .int x), (2, .int y), (3, .int z), (4, .int u)] dX0_missedAt_61 rfl (hl_inc i) (by decide) rfl ?_
            refine hl_goto h 6 dX0_missedAt_64 (by decide) ?_
            refine hl_lsub [1, 2, 3, 4, 5, 0] rfl ?_
            exact ih (i + 1) u (by omega) (by rw [← hv, hl_it_s] <;> (congr 1 <;> (first | (simp [b_X0_missedAt, c1, c2, c3]; done) | (symm; simp [b_X0_missedAt, c1, c2, c3]))))
          · refine hl_aload_n h 0 dX0_missedAt_48 rfl ?_
            refine hl_get h hi0 hl_wc_3 rfl 4 rfl dX0_missedAt_49 (by decide) (by decide +kernel) ?_
            refine hl_iload h 5 dX0_missedAt_52 rfl ?_
            refine hl_zldN h hl_wc_18 1 rfl i dX0_missedAt_54 rfl (by omega) (by decide) ?_
            refine hl_if_ne h 61 dX0_missedAt_55 (by decide) (fun c4 => ?_) (fun c4 => ?_)
            · refine hl_iinc h 5 (nI (i + 1)) [(5, .int (nI (i + 1))), (0, .ref (a 3)), (1, .int x), (2, .int y), (3, .int z), (4, .int u)] dX0_missedAt_61 rfl (hl_inc i) (by decide) rfl ?_
              refine hl_goto h 6 dX0_missedAt_64 (by decide) ?_
              refine hl_lsub [1, 2, 3, 4, 5, 0] rfl ?_
              exact ih (i + 1) u (by omega) (by rw [← hv, hl_it_s] <;> (congr 1 <;> (first | (simp [b_X0_missedAt, c1, c2, c3, c4]; done) | (symm; simp [b_X0_missedAt, c1, c2, c3, c4]))))
            · refine hl_iinc h 4 (u + 1) [(4, .int (u + 1)), (0, .ref (a 3)), (1, .int x), (2, .int y), (3, .int z), (5, .int (nI i))] dX0_missedAt_58 rfl rfl (by decide) rfl ?_
              refine hl_iinc h 5 (nI (i + 1)) [(5, .int (nI (i + 1))), (4, .int (u + 1)), (0, .ref (a 3)), (1, .int x), (2, .int y), (3, .int z)] dX0_missedAt_61 rfl (hl_inc i) (by decide) rfl ?_
              refine hl_goto h 6 dX0_missedAt_64 (by decide) ?_
              refine hl_lsub [2, 3, 4, 5, 1, 0] rfl ?_
              exact ih (i + 1) (u + 1) (by omega) (by rw [← hv, hl_it_s] <;> (congr 1 <;> (first | (simp [b_X0_missedAt, c1, c2, c3, c4]; done) | (symm; simp [b_X0_missedAt, c1, c2, c3, c4]))))
  refine hl_lsub [2, 3, 4, 5, 1, 0] rfl ?_
  exact lp6 N 0 0 (Nat.zero_add N) rfl

set_option maxHeartbeats 4000000 in
set_option maxRecDepth 100000 in
theorem c_X0_sleepersAt (l : Launch) (D : va_G) (cI cZ cJ : ClassId) (a : Nat → Nat) (g : Nat → Nat → Int32) (x y z : Int32) (N : Nat) (hN : N ≤ 80) (hc : g 16 0 = nI N) : hl_KI D (hl_ty cI cZ cJ) l yX0_sleepersAt wsX0_sleepersAt ({ frames := 0, cells := 0, slots := 0, locals := 0 } : Room) 0 0 [.ref (a 3), .int x, .int y, .int z] (hl_WC a cI cZ g) (fun r w => r = hl_it (b_X0_sleepersAt g x y z) 0 N 0 ∧ w = hl_WC a cI cZ g) := by
  refine hl_KI_of (cc := cX0_sleepersAt) (maxL := 6) .int rfl (fun _ => Or.inr rfl) (by decide) rfl (Nat.le_of_ble_eq_true rfl) ?_
  intro p e s m args below meth c A Q h hend
  have hi0 : ∀ z ∈ wsX00, z ∈ wsX0_sleepersAt := by decide +kernel
  refine hl_ls (ls' := [(0, .ref (a 3)), (1, .int x), (2, .int y), (3, .int z)]) rfl ?_
  refine hl_iconst h 0 dX0_sleepersAt_0 (by decide) ?_
  refine hl_istore h [(4, .int 0), (0, .ref (a 3)), (1, .int x), (2, .int y), (3, .int z)] dX0_sleepersAt_1 (by decide) rfl ?_
  refine hl_iconst h 0 dX0_sleepersAt_3 (by decide) ?_
  refine hl_istore h [(5, .int 0), (4, .int 0), (0, .ref (a 3)), (1, .int x), (2, .int y), (3, .int z)] dX0_sleepersAt_4 (by decide) rfl ?_
  have lp6 : ∀ (n : Nat) (i : Nat) (u : Int32), (i + n = N) → (hl_it (b_X0_sleepersAt g x y z) i n u = hl_it (b_X0_sleepersAt g x y z) 0 N 0) →  hl_X p l e ({ frames := 0, cells := 0, slots := 0, locals := 0 } : Room) s m args below meth c 6 D A 0 0 Q (hl_WC a cI cZ g) 6 [(0, .ref (a 3)), (1, .int x), (2, .int y), (3, .int z), (4, .int u), (5, .int (nI i))] [] := by
    intro n
    induction n with
    | zero =>
      intro i u hi hv
      refine hl_iload h 5 dX0_sleepersAt_6 rfl ?_
      refine hl_aload_n h 0 dX0_sleepersAt_8 rfl ?_
      refine hl_get h hi0 hl_wc_3 rfl 6 rfl dX0_sleepersAt_9 (by decide) (by decide +kernel) ?_
      refine hl_icmp_ge_T h 57 dX0_sleepersAt_12 (by decide) (by rw [hc]; exact nI_le (by omega) (by omega)) ?_
      refine hl_iload h 4 dX0_sleepersAt_57 rfl ?_
      exact hend dX0_sleepersAt_59 (fun h9 => nomatch h9) (by
        exact ⟨hv, rfl⟩)
    | succ n ih =>
      intro i u hi hv
      refine hl_iload h 5 dX0_sleepersAt_6 rfl ?_
      refine hl_aload_n h 0 dX0_sleepersAt_8 rfl ?_
      refine hl_get h hi0 hl_wc_3 rfl 6 rfl dX0_sleepersAt_9 (by decide) (by decide +kernel) ?_
      refine hl_icmp_ge_F h 57 dX0_sleepersAt_12 (by decide) (by rw [hc]; exact nI_ge (by omega) (by omega)) ?_
      refine hl_aload_n h 0 dX0_sleepersAt_15 rfl ?_
      refine hl_get h hi0 hl_wc_3 rfl 5 rfl dX0_sleepersAt_16 (by decide) (by decide +kernel) ?_
      refine hl_iload h 5 dX0_sleepersAt_19 rfl ?_
      refine hl_ildN h hl_wc_19 0 rfl i dX0_sleepersAt_21 rfl (by omega) (by decide) ?_
      refine hl_iload_n h 1 dX0_sleepersAt_22 rfl ?_
      refine hl_icmp_ne h 51 dX0_sleepersAt_23 (by decide) (fun c1 => ?_) (fun c1 => ?_)
      · refine hl_iinc h 5 (nI (i + 1)) [(5, .int (nI (i + 1))), (0, .ref (a 3)), (1, .int x), (2, .int y), (3, .int z), (4, .int u)] dX0_sleepersAt_51 rfl (hl_inc i) (by decide) rfl ?_
        refine hl_goto h 6 dX0_sleepersAt_54 (by decide) ?_
        refine hl_lsub [1, 2, 3, 4, 5, 0] rfl ?_
        exact ih (i + 1) u (by omega) (by rw [← hv, hl_it_s] <;> (congr 1 <;> (first | (simp [b_X0_sleepersAt, c1]; done) | (symm; simp [b_X0_sleepersAt, c1]))))
      · refine hl_aload_n h 0 dX0_sleepersAt_26 rfl ?_
        refine hl_get h hi0 hl_wc_3 rfl 2 rfl dX0_sleepersAt_27 (by decide) (by decide +kernel) ?_
        refine hl_iload h 5 dX0_sleepersAt_30 rfl ?_
        refine hl_ildN h hl_wc_16 0 rfl i dX0_sleepersAt_32 rfl (by omega) (by decide) ?_
        refine hl_iload_n h 2 dX0_sleepersAt_33 rfl ?_
        refine hl_icmp_ne h 51 dX0_sleepersAt_34 (by decide) (fun c2 => ?_) (fun c2 => ?_)
        · refine hl_iinc h 5 (nI (i + 1)) [(5, .int (nI (i + 1))), (0, .ref (a 3)), (1, .int x), (2, .int y), (3, .int z), (4, .int u)] dX0_sleepersAt_51 rfl (hl_inc i) (by decide) rfl ?_
          refine hl_goto h 6 dX0_sleepersAt_54 (by decide) ?_
          refine hl_lsub [1, 2, 3, 4, 5, 0] rfl ?_
          exact ih (i + 1) u (by omega) (by rw [← hv, hl_it_s] <;> (congr 1 <;> (first | (simp [b_X0_sleepersAt, c1, c2]; done) | (symm; simp [b_X0_sleepersAt, c1, c2]))))
        · refine hl_aload_n h 0 dX0_sleepersAt_37 rfl ?_
          refine hl_get h hi0 hl_wc_3 rfl 3 rfl dX0_sleepersAt_38 (by decide) (by decide +kernel) ?_
          refine hl_iload h 5 dX0_sleepersAt_41 rfl ?_
          refine hl_ildN h hl_wc_17 0 rfl i dX0_sleepersAt_43 rfl (by omega) (by decide) ?_
          refine hl_iload_n h 3 dX0_sleepersAt_44 rfl ?_
          refine hl_icmp_ne h 51 dX0_sleepersAt_45 (by decide) (fun c3 => ?_) (fun c3 => ?_)
          · refine hl_iinc h 5 (nI (i + 1)) [(5, .int (nI (i + 1))), (0, .ref (a 3)), (1, .int x), (2, .int y), (3, .int z), (4, .int u)] dX0_sleepersAt_51 rfl (hl_inc i) (by decide) rfl ?_
            refine hl_goto h 6 dX0_sleepersAt_54 (by decide) ?_
            refine hl_lsub [1, 2, 3, 4, 5, 0] rfl ?_
            exact ih (i + 1) u (by omega) (by rw [← hv, hl_it_s] <;> (congr 1 <;> (first | (simp [b_X0_sleepersAt, c1, c2, c3]; done) | (symm; simp [b_X0_sleepersAt, c1, c2, c3]))))
          · refine hl_iinc h 4 (u + 1) [(4, .int (u + 1)), (0, .ref (a 3)), (1, .int x), (2, .int y), (3, .int z), (5, .int (nI i))] dX0_sleepersAt_48 rfl rfl (by decide) rfl ?_
            refine hl_iinc h 5 (nI (i + 1)) [(5, .int (nI (i + 1))), (4, .int (u + 1)), (0, .ref (a 3)), (1, .int x), (2, .int y), (3, .int z)] dX0_sleepersAt_51 rfl (hl_inc i) (by decide) rfl ?_
            refine hl_goto h 6 dX0_sleepersAt_54 (by decide) ?_
            refine hl_lsub [2, 3, 4, 5, 1, 0] rfl ?_
            exact ih (i + 1) (u + 1) (by omega) (by rw [← hv, hl_it_s] <;> (congr 1 <;> (first | (simp [b_X0_sleepersAt, c1, c2, c3]; done) | (symm; simp [b_X0_sleepersAt, c1, c2, c3]))))
  refine hl_lsub [2, 3, 4, 5, 1, 0] rfl ?_
  exact lp6 N 0 0 (Nat.zero_add N) rfl

set_option maxHeartbeats 4000000 in
set_option maxRecDepth 100000 in
theorem c_X3_add (l : Launch) (D : va_G) (cI cZ cJ : ClassId) (a : Nat → Nat) (g : Nat → Nat → Int32) (x y z : Int32) (N : Nat) (hN : N ≤ 80) (hc : g 20 0 = nI N) : hl_KV D (hl_ty cI cZ cJ) l yX3_add wsX3_add ({ frames := 0, cells := 0, slots := 0, locals := 0 } : Room) 0 0 [.ref (a 4), .int x, .int y, .int z] (hl_WC a cI cZ g) (fun w => w = hl_WC a cI cZ (f_X3_add g x y z)) := by
  refine hl_KV_of (cc := cX3_add) (maxL := 4) (by decide) rfl (Nat.le_of_ble_eq_true rfl) ?_
  intro p e s m args below meth c A Q h hnm hend
  have hi3 : ∀ z ∈ wsX30, z ∈ wsX3_add := by decide +kernel
  refine hl_ls (ls' := [(0, .ref (a 4)), (1, .int x), (2, .int y), (3, .int z)]) rfl ?_
  refine hl_aload_n h 0 dX3_add_0 rfl ?_
  refine hl_get h hi3 hl_wc_4 rfl 3 rfl dX3_add_1 (by decide) (by decide +kernel) ?_
  refine hl_bipush h 80 dX3_add_4 (by decide) ?_
  refine hl_icmp_lt h 10 dX3_add_6 (by decide) (fun c1 => ?_) (fun c1 => ?_)
  · have hin : vp_in (g 20 0) 80 := hl_in 80 rfl (by rw [hc]; exact nI_pos (by omega)) c1
    refine hl_aload_n h 0 dX3_add_10 rfl ?_
    refine hl_get h hi3 hl_wc_4 rfl 0 rfl dX3_add_11 (by decide) (by decide +kernel) ?_
    refine hl_aload_n h 0 dX3_add_14 rfl ?_
    refine hl_get h hi3 hl_wc_4 rfl 3 rfl dX3_add_15 (by decide) (by decide +kernel) ?_
    refine hl_iload_n h 1 dX3_add_18 rfl ?_
    refine hl_ist h hl_wc_20 0 rfl dX3_add_19 hin hl_wc_t17 ?_
    refine hl_nmC (fun g2 e3 => ?_)
    refine hl_aload_n h 0 dX3_add_20 rfl ?_
    refine hl_get h hi3 hl_wc_4 rfl 1 rfl dX3_add_21 (by decide) (by decide +kernel) ?_
    refine hl_aload_n h 0 dX3_add_24 rfl ?_
    refine hl_get h hi3 hl_wc_4 rfl 3 rfl dX3_add_25 (by decide) (by decide +kernel) ?_
    refine hl_iload_n h 2 dX3_add_28 rfl ?_
    refine hl_ist h hl_wc_21 0 rfl dX3_add_29 (by subst e3; exact hin) hl_wc_t18 ?_
    refine hl_nmC (fun g4 e5 => ?_)
    refine hl_aload_n h 0 dX3_add_30 rfl ?_
    refine hl_get h hi3 hl_wc_4 rfl 2 rfl dX3_add_31 (by decide) (by decide +kernel) ?_
    refine hl_aload_n h 0 dX3_add_34 rfl ?_
    refine hl_get h hi3 hl_wc_4 rfl 3 rfl dX3_add_35 (by decide) (by decide +kernel) ?_
    refine hl_iload_n h 3 dX3_add_38 rfl ?_
    refine hl_ist h hl_wc_22 0 rfl dX3_add_39 (by subst e5; subst e3; exact hin) hl_wc_t19 ?_
    refine hl_nmC (fun g6 e7 => ?_)
    refine hl_aload_n h 0 dX3_add_40 rfl ?_
    refine hl_dup h dX3_add_41 rfl ?_
    refine hl_get h hi3 hl_wc_4 rfl 3 rfl dX3_add_42 (by decide) (by decide +kernel) ?_
    refine hl_iconst h 1 dX3_add_45 (by decide) ?_
    refine hl_iadd h dX3_add_46 ?_
    refine hl_put h hi3 tyX3_ok nmX3 hl_wc_4 rfl 3 dX3_add_47 (by decide) (by decide +kernel) (by decide) rfl rfl (Nat.le_of_ble_eq_true rfl) hl_wc_s20 ?_
    refine hl_nmC (fun g8 e9 => ?_)
    exact hend dX3_add_50 (by
      subst e9; subst e7; subst e5; subst e3
      exact congrArg (hl_WC a cI cZ) (by simp only [f_X3_add, if_pos c1]; rfl))
  · exact hend dX3_add_9 (by
      skip
      exact congrArg (hl_WC a cI cZ) (by simp only [f_X3_add, if_neg c1]))

set_option maxHeartbeats 4000000 in
set_option maxRecDepth 100000 in
theorem c_X3_ofGuest (l : Launch) (D : va_G) (cI cZ cJ : ClassId) (a : Nat → Nat) (g : Nat → Nat → Int32) (x : Int32) (N : Nat) (hN : N ≤ 80) (hc : g 20 0 = nI N) : hl_KI D (hl_ty cI cZ cJ) l yX3_ofGuest wsX3_ofGuest ({ frames := 0, cells := 0, slots := 0, locals := 0 } : Room) 0 0 [.ref (a 4), .int x] (hl_WC a cI cZ g) (fun r w => r = hl_it (b_X3_ofGuest g x) 0 N 0 ∧ w = hl_WC a cI cZ g) := by
  refine hl_KI_of (cc := cX3_ofGuest) (maxL := 4) .int rfl (fun _ => Or.inr rfl) (by decide) rfl (Nat.le_of_ble_eq_true rfl) ?_
  intro p e s m args below meth c A Q h hend
  have hi3 : ∀ z ∈ wsX30, z ∈ wsX3_ofGuest := by decide +kernel
  refine hl_ls (ls' := [(0, .ref (a 4)), (1, .int x)]) rfl ?_
  refine hl_iconst h 0 dX3_ofGuest_0 (by decide) ?_
  refine hl_istore_n h [(2, .int 0), (0, .ref (a 4)), (1, .int x)] dX3_ofGuest_1 (by decide) rfl ?_
  refine hl_iconst h 0 dX3_ofGuest_2 (by decide) ?_
  refine hl_istore_n h [(3, .int 0), (2, .int 0), (0, .ref (a 4)), (1, .int x)] dX3_ofGuest_3 (by decide) rfl ?_
  have lp4 : ∀ (n : Nat) (i : Nat) (u : Int32), (i + n = N) → (hl_it (b_X3_ofGuest g x) i n u = hl_it (b_X3_ofGuest g x) 0 N 0) →  hl_X p l e ({ frames := 0, cells := 0, slots := 0, locals := 0 } : Room) s m args below meth c 4 D A 0 0 Q (hl_WC a cI cZ g) 4 [(0, .ref (a 4)), (1, .int x), (2, .int u), (3, .int (nI i))] [] := by
    intro n
    induction n with
    | zero =>
      intro i u hi hv
      refine hl_iload_n h 3 dX3_ofGuest_4 rfl ?_
      refine hl_aload_n h 0 dX3_ofGuest_5 rfl ?_
      refine hl_get h hi3 hl_wc_4 rfl 3 rfl dX3_ofGuest_6 (by decide) (by decide +kernel) ?_
      refine hl_icmp_ge_T h 37 dX3_ofGuest_9 (by decide) (by rw [hc]; exact nI_le (by omega) (by omega)) ?_
      refine hl_iload_n h 2 dX3_ofGuest_37 rfl ?_
      exact hend dX3_ofGuest_38 (fun h9 => nomatch h9) (by
        exact ⟨hv, rfl⟩)
    | succ n ih =>
      intro i u hi hv
      refine hl_iload_n h 3 dX3_ofGuest_4 rfl ?_
      refine hl_aload_n h 0 dX3_ofGuest_5 rfl ?_
      refine hl_get h hi3 hl_wc_4 rfl 3 rfl dX3_ofGuest_6 (by decide) (by decide +kernel) ?_
      refine hl_icmp_ge_F h 37 dX3_ofGuest_9 (by decide) (by rw [hc]; exact nI_ge (by omega) (by omega)) ?_
      refine hl_aload_n h 0 dX3_ofGuest_12 rfl ?_
      refine hl_get h hi3 hl_wc_4 rfl 0 rfl dX3_ofGuest_13 (by decide) (by decide +kernel) ?_
      refine hl_iload_n h 3 dX3_ofGuest_16 rfl ?_
      refine hl_ildN h hl_wc_20 0 rfl i dX3_ofGuest_17 rfl (by omega) (by decide) ?_
      refine hl_iload_n h 1 dX3_ofGuest_18 rfl ?_
      refine hl_icmp_ne h 31 dX3_ofGuest_19 (by decide) (fun c1 => ?_) (fun c1 => ?_)
      · refine hl_iinc h 3 (nI (i + 1)) [(3, .int (nI (i + 1))), (0, .ref (a 4)), (1, .int x), (2, .int u)] dX3_ofGuest_31 rfl (hl_inc i) (by decide) rfl ?_
        refine hl_goto h 4 dX3_ofGuest_34 (by decide) ?_
        refine hl_lsub [1, 2, 3, 0] rfl ?_
        exact ih (i + 1) u (by omega) (by rw [← hv, hl_it_s] <;> (congr 1 <;> (first | (simp [b_X3_ofGuest, c1]; done) | (symm; simp [b_X3_ofGuest, c1]))))
      · refine hl_iload_n h 2 dX3_ofGuest_22 rfl ?_
        refine hl_aload_n h 0 dX3_ofGuest_23 rfl ?_
        refine hl_get h hi3 hl_wc_4 rfl 2 rfl dX3_ofGuest_24 (by decide) (by decide +kernel) ?_
        refine hl_iload_n h 3 dX3_ofGuest_27 rfl ?_
        refine hl_ildN h hl_wc_22 0 rfl i dX3_ofGuest_28 rfl (by omega) (by decide) ?_
        refine hl_iadd h dX3_ofGuest_29 ?_
        refine hl_istore_n h [(2, .int (u + (g 19 i))), (0, .ref (a 4)), (1, .int x), (3, .int (nI i))] dX3_ofGuest_30 (by decide) rfl ?_
        refine hl_iinc h 3 (nI (i + 1)) [(3, .int (nI (i + 1))), (2, .int (u + (g 19 i))), (0, .ref (a 4)), (1, .int x)] dX3_ofGuest_31 rfl (hl_inc i) (by decide) rfl ?_
        refine hl_goto h 4 dX3_ofGuest_34 (by decide) ?_
        refine hl_lsub [2, 3, 1, 0] rfl ?_
        exact ih (i + 1) (u + (g 19 i)) (by omega) (by rw [← hv, hl_it_s] <;> (congr 1 <;> (first | (simp [b_X3_ofGuest, c1]; done) | (symm; simp [b_X3_ofGuest, c1]))))
  refine hl_lsub [2, 3, 1, 0] rfl ?_
  exact lp4 N 0 0 (Nat.zero_add N) rfl

set_option maxHeartbeats 4000000 in
set_option maxRecDepth 100000 in
theorem c_X3_takeFrom (l : Launch) (D : va_G) (cI cZ cJ : ClassId) (a : Nat → Nat) (g : Nat → Nat → Int32) (x y n : Int32) (h1 : vp_in x 80) : hl_KI D (hl_ty cI cZ cJ) l yX3_takeFrom wsX3_takeFrom ({ frames := 1, cells := 0, slots := 0, locals := 13 } : Room) 0 0 [.ref (a 4), .int x, .int y, .int n] (hl_WC a cI cZ g) (fun r w => r = r_X3_takeFrom g x y n ∧ w = hl_WC a cI cZ (f_X3_takeFrom g x y n)) := by
  refine hl_KI_of (cc := cX3_takeFrom) (maxL := 5) .int rfl (fun _ => Or.inr rfl) (by decide) rfl (Nat.le_of_ble_eq_true rfl) ?_
  intro p e s m args below meth c A Q h hend
  have hi3 : ∀ z ∈ wsX30, z ∈ wsX3_takeFrom := by decide +kernel
  refine hl_ls (ls' := [(0, .ref (a 4)), (1, .int x), (2, .int y), (3, .int n)]) rfl ?_
  refine hl_aload_n h 0 dX3_takeFrom_0 rfl ?_
  refine hl_get h hi3 hl_wc_4 rfl 0 rfl dX3_takeFrom_1 (by decide) (by decide +kernel) ?_
  refine hl_iload_n h 1 dX3_takeFrom_4 rfl ?_
  refine hl_ild h hl_wc_20 0 rfl dX3_takeFrom_5 (by with_reducible assumption) ?_
  refine hl_iload_n h 2 dX3_takeFrom_6 rfl ?_
  refine hl_icmp_eq h 12 dX3_takeFrom_7 (by decide) (fun c1 => ?_) (fun c1 => ?_)
  · refine hl_aload_n h 0 dX3_takeFrom_12 rfl ?_
    refine hl_get h hi3 hl_wc_4 rfl 2 rfl dX3_takeFrom_13 (by decide) (by decide +kernel) ?_
    refine hl_iload_n h 1 dX3_takeFrom_16 rfl ?_
    refine hl_ild h hl_wc_22 0 rfl dX3_takeFrom_17 (by with_reducible assumption) ?_
    refine hl_iload_n h 3 dX3_takeFrom_18 rfl ?_
    refine hl_min h dX3_takeFrom_19 (by decide +kernel) (by decide +kernel) (by decide +kernel) (by decide +kernel) (Nat.le_of_ble_eq_true rfl) (Nat.le_of_ble_eq_true rfl) (Nat.le_of_ble_eq_true rfl) (Nat.le_of_ble_eq_true rfl) ?_
    refine hl_istore h [(4, .int (if n < (g 19 x.toNatClampNeg) then n else (g 19 x.toNatClampNeg))), (0, .ref (a 4)), (1, .int x), (2, .int y), (3, .int n)] dX3_takeFrom_22 (by decide) rfl ?_
    refine hl_aload_n h 1 dX3_takeFrom_24 rfl ?_
    refine hl_get h hi3 hl_wc_4 rfl 2 rfl dX3_takeFrom_25 (by decide) (by decide +kernel) ?_
    refine hl_iload_n h 2 dX3_takeFrom_28 rfl ?_
    refine hl_dup2 h dX3_takeFrom_29 rfl rfl ?_
    refine hl_ild h hl_wc_22 0 rfl dX3_takeFrom_30 (by with_reducible assumption) ?_
    refine hl_iload h 0 dX3_takeFrom_31 rfl ?_
    refine hl_isub h dX3_takeFrom_33 ?_
    refine hl_ist h hl_wc_22 0 rfl dX3_takeFrom_34 (by with_reducible assumption) hl_wc_t19 ?_
    refine hl_nmC (fun g2 e3 => ?_)
    refine hl_iload h 0 dX3_takeFrom_35 rfl ?_
    exact hend dX3_takeFrom_37 (fun h9 => nomatch h9) (by
      subst e3
      exact ⟨by simp only [r_X3_takeFrom, if_pos c1], congrArg (hl_WC a cI cZ) (by simp only [f_X3_takeFrom, if_pos c1])⟩)
  · refine hl_iconst h 0 dX3_takeFrom_10 (by decide) ?_
    exact hend dX3_takeFrom_11 (fun h9 => nomatch h9) (by
      skip
      exact ⟨by simp only [r_X3_takeFrom, if_neg c1], congrArg (hl_WC a cI cZ) (by simp only [f_X3_takeFrom, if_neg c1])⟩)

set_option maxHeartbeats 4000000 in
set_option maxRecDepth 100000 in
theorem c_X1_row (l : Launch) (D : va_G) (cI cZ cJ : ClassId) (a : Nat → Nat) (g : Nat → Nat → Int32) (x y : Int32) : hl_KI D (hl_ty cI cZ cJ) l yX1_row wsX1_row ({ frames := 0, cells := 0, slots := 0, locals := 0 } : Room) 0 0 [.int x, .int y] (hl_WC a cI cZ g) (fun r w => r = (x * 4 + y) ∧ w = hl_WC a cI cZ g) := by
  refine hl_KI_of (cc := cX1_row) (maxL := 2) .int rfl (fun _ => Or.inr rfl) (by decide) rfl (Nat.le_of_ble_eq_true rfl) ?_
  intro p e s m args below meth c A Q h hend
  refine hl_ls (ls' := [(0, .int x), (1, .int y)]) rfl ?_
  refine hl_iload_n h 0 dX1_row_0 rfl ?_
  refine hl_iconst h 4 dX1_row_1 (by decide) ?_
  refine hl_imul h dX1_row_2 ?_
  refine hl_iload_n h 1 dX1_row_3 rfl ?_
  refine hl_iadd h dX1_row_4 ?_
  exact hend dX1_row_5 (fun h9 => nomatch h9) (by
    exact ⟨by rfl, (congrArg (hl_WC a cI cZ) (by rfl))⟩)

set_option maxHeartbeats 4000000 in
set_option maxRecDepth 100000 in
theorem c_X1_receive (l : Launch) (D : va_G) (cI cZ cJ : ClassId) (a : Nat → Nat) (g : Nat → Nat → Int32) (x n : Int32) (h1 : vp_in x 4) : hl_KV D (hl_ty cI cZ cJ) l yX1_receive wsX1_receive ({ frames := 0, cells := 0, slots := 0, locals := 0 } : Room) 0 0 [.ref (a 5), .int x, .int n] (hl_WC a cI cZ g) (fun w => w = hl_WC a cI cZ (f_X1_receive g x n)) := by
  refine hl_KV_of (cc := cX1_receive) (maxL := 3) (by decide) rfl (Nat.le_of_ble_eq_true rfl) ?_
  intro p e s m args below meth c A Q h hnm hend
  have hi1 : ∀ z ∈ wsX10, z ∈ wsX1_receive := by decide +kernel
  refine hl_ls (ls' := [(0, .ref (a 5)), (1, .int x), (2, .int n)]) rfl ?_
  refine hl_aload_n h 0 dX1_receive_0 rfl ?_
  refine hl_get h hi1 hl_wc_5 rfl 0 rfl dX1_receive_1 (by decide) (by decide +kernel) ?_
  refine hl_iload_n h 1 dX1_receive_4 rfl ?_
  refine hl_dup2 h dX1_receive_5 rfl rfl ?_
  refine hl_ild h hl_wc_23 0 rfl dX1_receive_6 (by with_reducible assumption) ?_
  refine hl_iload_n h 2 dX1_receive_7 rfl ?_
  refine hl_iadd h dX1_receive_8 ?_
  refine hl_ist h hl_wc_23 0 rfl dX1_receive_9 (by with_reducible assumption) hl_wc_t21 ?_
  refine hl_nmC (fun g1 e2 => ?_)
  exact hend dX1_receive_10 (by
    subst e2
    exact (congrArg (hl_WC a cI cZ) (by rfl)))

set_option maxHeartbeats 4000000 in
set_option maxRecDepth 100000 in
theorem c_X1_owe (l : Launch) (D : va_G) (cI cZ cJ : ClassId) (a : Nat → Nat) (g : Nat → Nat → Int32) (x y n : Int32) (h1 : vp_in x 4) (h2 : vp_in y 4) : hl_KV D (hl_ty cI cZ cJ) l yX1_owe wsX1_owe ({ frames := 1, cells := 0, slots := 0, locals := 21 } : Room) 0 0 [.ref (a 5), .int x, .int y, .int n] (hl_WC a cI cZ g) (fun w => w = hl_WC a cI cZ (f_X1_owe g x y n)) := by
  refine hl_KV_of (cc := cX1_owe) (maxL := 4) (by decide) rfl (Nat.le_of_ble_eq_true rfl) ?_
  intro p e s m args below meth c A Q h hnm hend
  have hi1 : ∀ z ∈ wsX10, z ∈ wsX1_owe := by decide +kernel
  have hrow : vp_in (x * 4 + y) 16 := hl_sq h1 h2
  have hrow2 : vp_in (y * 4 + x) 16 := hl_sq h2 h1
  refine hl_ls (ls' := [(0, .ref (a 5)), (1, .int x), (2, .int y), (3, .int n)]) rfl ?_
  refine hl_aload_n h 0 dX1_owe_0 rfl ?_
  refine hl_get h hi1 hl_wc_5 rfl 1 rfl dX1_owe_1 (by decide) (by decide +kernel) ?_
  refine hl_iload_n h 1 dX1_owe_4 rfl ?_
  refine hl_iload_n h 2 dX1_owe_5 rfl ?_
  refine hl_callSiD h (st := [.ref (a 24)]) (c_X1_row l D cI cZ cJ a g x y) (va_cwS 2 h.2.2.2.2.1 gX1_owe_X1_row rfl rfl rfl (by decide +kernel) ⟨Nat.le_of_ble_eq_true rfl, Nat.le_of_ble_eq_true rfl⟩) dX1_owe_6 rfl (Nat.le_of_ble_eq_true rfl) ⟨Nat.le_of_ble_eq_true rfl, Nat.le_of_ble_eq_true rfl⟩ rfl ?_
  refine hl_dup2 h dX1_owe_9 rfl rfl ?_
  refine hl_ild h hl_wc_24 0 rfl dX1_owe_10 (by with_reducible assumption) ?_
  refine hl_iload_n h 3 dX1_owe_11 rfl ?_
  refine hl_iadd h dX1_owe_12 ?_
  refine hl_ist h hl_wc_24 0 rfl dX1_owe_13 (by with_reducible assumption) hl_wc_t22 ?_
  refine hl_nmC (fun g4 e5 => ?_)
  refine hl_aload_n h 0 dX1_owe_14 rfl ?_
  refine hl_get h hi1 hl_wc_5 rfl 1 rfl dX1_owe_15 (by decide) (by decide +kernel) ?_
  refine hl_iload_n h 2 dX1_owe_18 rfl ?_
  refine hl_iload_n h 1 dX1_owe_19 rfl ?_
  refine hl_callSiD h (st := [.ref (a 24)]) (c_X1_row l D cI cZ cJ a g4 y x) (va_cwS 2 h.2.2.2.2.1 gX1_owe_X1_row rfl rfl rfl (by decide +kernel) ⟨Nat.le_of_ble_eq_true rfl, Nat.le_of_ble_eq_true rfl⟩) dX1_owe_20 rfl (Nat.le_of_ble_eq_true rfl) ⟨Nat.le_of_ble_eq_true rfl, Nat.le_of_ble_eq_true rfl⟩ rfl ?_
  refine hl_dup2 h dX1_owe_23 rfl rfl ?_
  refine hl_ild h hl_wc_24 0 rfl dX1_owe_24 (by with_reducible assumption) ?_
  refine hl_iload_n h 3 dX1_owe_25 rfl ?_
  refine hl_isub h dX1_owe_26 ?_
  refine hl_ist h hl_wc_24 0 rfl dX1_owe_27 (by with_reducible assumption) hl_wc_t22 ?_
  refine hl_nmC (fun g9 e10 => ?_)
  exact hend dX1_owe_28 (by
    subst e10; subst e5
    exact (congrArg (hl_WC a cI cZ) (by rfl)))

set_option maxHeartbeats 4000000 in
set_option maxRecDepth 100000 in
theorem c_X1_between (l : Launch) (D : va_G) (cI cZ cJ : ClassId) (a : Nat → Nat) (g : Nat → Nat → Int32) (x y : Int32) (h1 : vp_in x 4) (h2 : vp_in y 4) : hl_KI D (hl_ty cI cZ cJ) l yX1_between wsX1_between ({ frames := 1, cells := 0, slots := 0, locals := 21 } : Room) 0 0 [.ref (a 5), .int x, .int y] (hl_WC a cI cZ g) (fun r w => r = r_X1_between g x y ∧ w = hl_WC a cI cZ g) := by
  refine hl_KI_of (cc := cX1_between) (maxL := 3) .int rfl (fun _ => Or.inr rfl) (by decide) rfl (Nat.le_of_ble_eq_true rfl) ?_
  intro p e s m args below meth c A Q h hend
  have hi1 : ∀ z ∈ wsX10, z ∈ wsX1_between := by decide +kernel
  have hrow : vp_in (x * 4 + y) 16 := hl_sq h1 h2
  have hrow2 : vp_in (y * 4 + x) 16 := hl_sq h2 h1
  refine hl_ls (ls' := [(0, .ref (a 5)), (1, .int x), (2, .int y)]) rfl ?_
  refine hl_iconst h 0 dX1_between_0 (by decide) ?_
  refine hl_aload_n h 0 dX1_between_1 rfl ?_
  refine hl_get h hi1 hl_wc_5 rfl 1 rfl dX1_between_2 (by decide) (by decide +kernel) ?_
  refine hl_iload_n h 1 dX1_between_5 rfl ?_
  refine hl_iload_n h 2 dX1_between_6 rfl ?_
  refine hl_callSiD h (st := [.ref (a 24), .int 0]) (c_X1_row l D cI cZ cJ a g x y) (va_cwS 2 h.2.2.2.2.1 gX1_between_X1_row rfl rfl rfl (by decide +kernel) ⟨Nat.le_of_ble_eq_true rfl, Nat.le_of_ble_eq_true rfl⟩) dX1_between_7 rfl (Nat.le_of_ble_eq_true rfl) ⟨Nat.le_of_ble_eq_true rfl, Nat.le_of_ble_eq_true rfl⟩ rfl ?_
  refine hl_ild h hl_wc_24 0 rfl dX1_between_10 (by with_reducible assumption) ?_
  refine hl_max h dX1_between_11 (by decide +kernel) (by decide +kernel) (by decide +kernel) (by decide +kernel) (Nat.le_of_ble_eq_true rfl) (Nat.le_of_ble_eq_true rfl) (Nat.le_of_ble_eq_true rfl) (Nat.le_of_ble_eq_true rfl) ?_
  exact hend dX1_between_14 (fun h9 => nomatch h9) (by
    exact ⟨rfl, rfl⟩)

set_option maxHeartbeats 4000000 in
set_option maxRecDepth 100000 in
theorem c_X1_pay (l : Launch) (D : va_G) (cI cZ cJ : ClassId) (a : Nat → Nat) (g : Nat → Nat → Int32) (x y : Int32) (h1 : vp_in x 4) (h2 : vp_in y 4) : hl_KI D (hl_ty cI cZ cJ) l yX1_pay wsX1_pay ({ frames := 2, cells := 0, slots := 0, locals := 44 } : Room) 0 0 [.ref (a 5), .int x, .int y] (hl_WC a cI cZ g) (fun r w => r = r_X1_between g x y ∧ w = hl_WC a cI cZ (f_X1_pay g x y)) := by
  refine hl_KI_of (cc := cX1_pay) (maxL := 4) .int rfl (fun _ => Or.inr rfl) (by decide) rfl (Nat.le_of_ble_eq_true rfl) ?_
  intro p e s m args below meth c A Q h hend
  have hi1 : ∀ z ∈ wsX10, z ∈ wsX1_pay := by decide +kernel
  refine hl_ls (ls' := [(0, .ref (a 5)), (1, .int x), (2, .int y)]) rfl ?_
  refine hl_aload_n h 0 dX1_pay_0 rfl ?_
  refine hl_iload_n h 1 dX1_pay_1 rfl ?_
  refine hl_iload_n h 2 dX1_pay_2 rfl ?_
  refine hl_callViD h (st := []) (c_X1_between l D cI cZ cJ a g x y (by with_reducible assumption) (by with_reducible assumption)) (cwV 2 h.2.2.2.2.1 gX1_pay_X1_between rfl rfl rfl (by decide +kernel) ⟨Nat.le_of_ble_eq_true rfl, Nat.le_of_ble_eq_true rfl⟩) hl_wc_5 rfl dX1_pay_3 rfl (Nat.le_of_ble_eq_true rfl) ⟨Nat.le_of_ble_eq_true rfl, Nat.le_of_ble_eq_true rfl⟩ rfl ?_
  refine hl_istore_n h [(3, .int (r_X1_between g x y)), (0, .ref (a 5)), (1, .int x), (2, .int y)] dX1_pay_6 (by decide) rfl ?_
  refine hl_aload_n h 1 dX1_pay_7 rfl ?_
  refine hl_get h hi1 hl_wc_5 rfl 0 rfl dX1_pay_8 (by decide) (by decide +kernel) ?_
  refine hl_iload_n h 2 dX1_pay_11 rfl ?_
  refine hl_dup2 h dX1_pay_12 rfl rfl ?_
  refine hl_ild h hl_wc_23 0 rfl dX1_pay_13 (by with_reducible assumption) ?_
  refine hl_iload_n h 0 dX1_pay_14 rfl ?_
  refine hl_isub h dX1_pay_15 ?_
  refine hl_ist h hl_wc_23 0 rfl dX1_pay_16 (by with_reducible assumption) hl_wc_t21 ?_
  refine hl_nmC (fun g4 e5 => ?_)
  refine hl_aload_n h 1 dX1_pay_17 rfl ?_
  refine hl_get h hi1 hl_wc_5 rfl 0 rfl dX1_pay_18 (by decide) (by decide +kernel) ?_
  refine hl_iload_n h 3 dX1_pay_21 rfl ?_
  refine hl_dup2 h dX1_pay_22 rfl rfl ?_
  refine hl_ild h hl_wc_23 0 rfl dX1_pay_23 (by with_reducible assumption) ?_
  refine hl_iload_n h 0 dX1_pay_24 rfl ?_
  refine hl_iadd h dX1_pay_25 ?_
  refine hl_ist h hl_wc_23 0 rfl dX1_pay_26 (by with_reducible assumption) hl_wc_t21 ?_
  refine hl_nmC (fun g6 e7 => ?_)
  refine hl_aload_n h 1 dX1_pay_27 rfl ?_
  refine hl_iload_n h 3 dX1_pay_28 rfl ?_
  refine hl_iload_n h 2 dX1_pay_29 rfl ?_
  refine hl_iload_n h 0 dX1_pay_30 rfl ?_
  refine hl_callVvD h (st := []) (c_X1_owe l D cI cZ cJ a g6 y x (r_X1_between g x y) (by with_reducible assumption) (by with_reducible assumption)) (cwV 3 h.2.2.2.2.1 gX1_pay_X1_owe rfl rfl rfl (by decide +kernel) ⟨Nat.le_of_ble_eq_true rfl, Nat.le_of_ble_eq_true rfl⟩) hl_wc_5 rfl dX1_pay_31 rfl (Nat.le_of_ble_eq_true rfl) ⟨Nat.le_of_ble_eq_true rfl, Nat.le_of_ble_eq_true rfl⟩ rfl ?_
  refine hl_nmC (fun g11 e12 => ?_)
  refine hl_iload_n h 0 dX1_pay_34 rfl ?_
  exact hend dX1_pay_35 (fun h9 => nomatch h9) (by
    subst e12; subst e7; subst e5
    exact ⟨by rfl, (congrArg (hl_WC a cI cZ) (by rfl))⟩)

set_option maxHeartbeats 4000000 in
set_option maxRecDepth 100000 in
theorem c_X1_payAll (l : Launch) (D : va_G) (cI cZ cJ : ClassId) (a : Nat → Nat) (g : Nat → Nat → Int32) : hl_KI D (hl_ty cI cZ cJ) l yX1_payAll wsX1_payAll ({ frames := 3, cells := 0, slots := 0, locals := 67 } : Room) 0 0 [.ref (a 5)] (hl_WC a cI cZ g) (fun r w => r = (hl_it b_X1_payAll 0 4 (g, 0)).2 ∧ w = hl_WC a cI cZ ((hl_it b_X1_payAll 0 4 (g, 0)).1)) := by
  refine hl_KI_of (cc := cX1_payAll) (maxL := 4) .int rfl (fun _ => Or.inr rfl) (by decide) rfl (Nat.le_of_ble_eq_true rfl) ?_
  intro p e s m args below meth c A Q h hend
  refine hl_ls (ls' := [(0, .ref (a 5))]) rfl ?_
  refine hl_iconst h 0 dX1_payAll_0 (by decide) ?_
  refine hl_istore_n h [(1, .int 0), (0, .ref (a 5))] dX1_payAll_1 (by decide) rfl ?_
  refine hl_iconst h 0 dX1_payAll_2 (by decide) ?_
  refine hl_istore_n h [(2, .int 0), (1, .int 0), (0, .ref (a 5))] dX1_payAll_3 (by decide) rfl ?_
  have lp4 : ∀ (n : Nat) (i : Nat) (z : (Nat → Nat → Int32) × Int32), (i + n = 4) → (hl_it b_X1_payAll i n z = hl_it b_X1_payAll 0 4 (g, 0)) →  hl_X p l e ({ frames := 3, cells := 0, slots := 0, locals := 67 } : Room) s m args below meth c 4 D A 0 0 Q (hl_WC a cI cZ z.1) 4 [(0, .ref (a 5)), (1, .int z.2), (2, .int (nI i))] [] := by
    intro n
    induction n with
    | zero =>
      intro i z hi hv
      refine hl_iload_n h 2 dX1_payAll_4 rfl ?_
      refine hl_iconst h 4 dX1_payAll_5 (by decide) ?_
      refine hl_icmp_ge_T h 37 dX1_payAll_6 (by decide) (by rw [show i = 4 by omega]; decide) ?_
      refine hl_iload_n h 1 dX1_payAll_37 rfl ?_
      exact hend dX1_payAll_38 (fun h9 => nomatch h9) (by
        exact ⟨congrArg Prod.snd hv, congrArg (fun q => hl_WC a cI cZ q.1) hv⟩)
    | succ n ih =>
      intro i z hi hv
      have hvi : vp_in (nI i) 4 := vp_in_nI (by omega) (by decide)
      refine hl_iload_n h 2 dX1_payAll_4 rfl ?_
      refine hl_iconst h 4 dX1_payAll_5 (by decide) ?_
      refine hl_icmp_ge_F h 37 dX1_payAll_6 (by decide) (nI_ge (b := 4) (by omega) (by decide)) ?_
      refine hl_iconst h 0 dX1_payAll_9 (by decide) ?_
      refine hl_istore_n h [(3, .int 0), (0, .ref (a 5)), (1, .int z.2), (2, .int (nI i))] dX1_payAll_10 (by decide) rfl ?_
      have lp11 : ∀ (m2 : Nat) (j : Nat) (v : (Nat → Nat → Int32) × Int32), (j + m2 = 4) → (hl_it (b_X1_payIn i) j m2 v = b_X1_payAll i z) →  hl_X p l e ({ frames := 3, cells := 0, slots := 0, locals := 67 } : Room) s m args below meth c 4 D A 0 0 Q (hl_WC a cI cZ v.1) 11 [(0, .ref (a 5)), (1, .int v.2), (2, .int (nI i)), (3, .int (nI j))] [] := by
        intro m2
        induction m2 with
        | zero =>
          intro j v hj hw
          refine hl_iload_n h 3 dX1_payAll_11 rfl ?_
          refine hl_iconst h 4 dX1_payAll_12 (by decide) ?_
          refine hl_icmp_ge_T h 31 dX1_payAll_13 (by decide) (by rw [show j = 4 by omega]; decide) ?_
          refine hl_iinc h 2 (nI (i + 1)) [(2, .int (nI (i + 1))), (0, .ref (a 5)), (1, .int v.2), (3, .int (nI j))] dX1_payAll_31 rfl (hl_inc i) (by decide) rfl ?_
          refine hl_goto h 4 dX1_payAll_34 (by decide) ?_
          refine hl_lsub [1, 2, 0] rfl ?_
          exact ih (i + 1) v (by omega) (by rw [← hv, hl_it_s, ← hw]; rfl)
        | succ m2 ih2 =>
          intro j v hj hw
          have hvj : vp_in (nI j) 4 := vp_in_nI (by omega) (by decide)
          refine hl_iload_n h 3 dX1_payAll_11 rfl ?_
          refine hl_iconst h 4 dX1_payAll_12 (by decide) ?_
          refine hl_icmp_ge_F h 31 dX1_payAll_13 (by decide) (nI_ge (b := 4) (by omega) (by decide)) ?_
          refine hl_iload_n h 1 dX1_payAll_16 rfl ?_
          refine hl_aload_n h 0 dX1_payAll_17 rfl ?_
          refine hl_iload_n h 2 dX1_payAll_18 rfl ?_
          refine hl_iload_n h 3 dX1_payAll_19 rfl ?_
          refine hl_callViD h (st := [.int v.2]) (c_X1_pay l D cI cZ cJ a v.1 (nI i) (nI j) (by with_reducible assumption) (by with_reducible assumption)) (cwV 2 h.2.2.2.2.1 gX1_payAll_X1_pay rfl rfl rfl (by decide +kernel) ⟨Nat.le_of_ble_eq_true rfl, Nat.le_of_ble_eq_true rfl⟩) hl_wc_5 rfl dX1_payAll_20 rfl (Nat.le_of_ble_eq_true rfl) ⟨Nat.le_of_ble_eq_true rfl, Nat.le_of_ble_eq_true rfl⟩ rfl ?_
          refine hl_nmC (fun g4 e5 => ?_)
          refine hl_iadd h dX1_payAll_23 ?_
          refine hl_istore_n h [(1, .int (v.2 + (r_X1_between v.1 (nI i) (nI j)))), (0, .ref (a 5)), (2, .int (nI i)), (3, .int (nI j))] dX1_payAll_24 (by decide) rfl ?_
          refine hl_iinc h 3 (nI (j + 1)) [(3, .int (nI (j + 1))), (1, .int (v.2 + (r_X1_between v.1 (nI i) (nI j)))), (0, .ref (a 5)), (2, .int (nI i))] dX1_payAll_25 rfl (hl_inc j) (by decide) rfl ?_
          refine hl_goto h 11 dX1_payAll_28 (by decide) ?_
          refine hl_lsub [2, 1, 3, 0] rfl ?_
          subst e5
          exact ih2 (j + 1) (b_X1_payIn i j v) (by omega) (by rw [← hw, hl_it_s])
      refine hl_lsub [1, 2, 3, 0] rfl ?_
      exact lp11 4 0 z rfl rfl
  refine hl_lsub [2, 1, 0] rfl ?_
  exact lp4 4 0 (g, 0) rfl rfl
