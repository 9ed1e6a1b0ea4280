set_option maxHeartbeats 4000000 in
set_option maxRecDepth 100000 in
theorem c_X5_checkInn (l : Launch) (D : va_G) (cI cZ cJ : ClassId) (a : Nat → Nat) (g : Nat → Nat → Int32) (x : Int32) (h1 : vp_in x 4) : hl_KV D (hl_ty cI cZ cJ) l yX5_checkInn wsX5_checkInn ({ frames := 0, cells := 0, slots := 0, locals := 0 } : Room) 0 0 [.int x] (hl_WC a cI cZ g) (fun w => w = hl_WC a cI cZ g) := by
  refine hl_KV_of (cc := cX5_checkInn) (maxL := 1) (by decide) rfl (Nat.le_of_ble_eq_true rfl) ?_
  intro p e s m args below meth c A Q h hnm hend
  refine hl_ls (ls' := [(0, .int x)]) rfl ?_
  refine hl_iload_n h 0 dX5_checkInn_0 rfl ?_
  refine hl_if_lt_F h 9 dX5_checkInn_1 (by decide) (hl_in0 h1) ?_
  refine hl_iload_n h 0 dX5_checkInn_4 rfl ?_
  refine hl_iconst h 4 dX5_checkInn_5 (by decide) ?_
  refine hl_icmp_lt_T h 19 dX5_checkInn_6 (by decide) (hl_in1 4 rfl h1) ?_
  exact hend dX5_checkInn_19 (by
    exact (congrArg (hl_WC a cI cZ) (by rfl)))

set_option maxHeartbeats 4000000 in
set_option maxRecDepth 100000 in
theorem c_X5_checkKind (l : Launch) (D : va_G) (cI cZ cJ : ClassId) (a : Nat → Nat) (g : Nat → Nat → Int32) (x : Int32) (h1 : vp_in x 2) : hl_KV D (hl_ty cI cZ cJ) l yX5_checkKind wsX5_checkKind ({ frames := 0, cells := 0, slots := 0, locals := 0 } : Room) 0 0 [.int x] (hl_WC a cI cZ g) (fun w => w = hl_WC a cI cZ g) := by
  refine hl_KV_of (cc := cX5_checkKind) (maxL := 1) (by decide) rfl (Nat.le_of_ble_eq_true rfl) ?_
  intro p e s m args below meth c A Q h hnm hend
  refine hl_ls (ls' := [(0, .int x)]) rfl ?_
  refine hl_iload_n h 0 dX5_checkKind_0 rfl ?_
  refine hl_if_lt_F h 9 dX5_checkKind_1 (by decide) (hl_in0 h1) ?_
  refine hl_iload_n h 0 dX5_checkKind_4 rfl ?_
  refine hl_iconst h 2 dX5_checkKind_5 (by decide) ?_
  refine hl_icmp_lt_T h 19 dX5_checkKind_6 (by decide) (hl_in1 2 rfl h1) ?_
  exact hend dX5_checkKind_19 (by
    exact (congrArg (hl_WC a cI cZ) (by rfl)))

set_option maxHeartbeats 4000000 in
set_option maxRecDepth 100000 in
theorem c_X5_checkGuest (l : Launch) (D : va_G) (cI cZ cJ : ClassId) (a : Nat → Nat) (g : Nat → Nat → Int32) (x : Int32) (h1 : vp_in x 10) : hl_KV D (hl_ty cI cZ cJ) l yX5_checkGuest wsX5_checkGuest ({ frames := 0, cells := 0, slots := 0, locals := 0 } : Room) 0 0 [.int x] (hl_WC a cI cZ g) (fun w => w = hl_WC a cI cZ g) := by
  refine hl_KV_of (cc := cX5_checkGuest) (maxL := 1) (by decide) rfl (Nat.le_of_ble_eq_true rfl) ?_
  intro p e s m args below meth c A Q h hnm hend
  refine hl_ls (ls' := [(0, .int x)]) rfl ?_
  refine hl_iload_n h 0 dX5_checkGuest_0 rfl ?_
  refine hl_if_lt_F h 10 dX5_checkGuest_1 (by decide) (hl_in0 h1) ?_
  refine hl_iload_n h 0 dX5_checkGuest_4 rfl ?_
  refine hl_bipush h 10 dX5_checkGuest_5 (by decide) ?_
  refine hl_icmp_lt_T h 20 dX5_checkGuest_7 (by decide) (hl_in1 10 rfl h1) ?_
  exact hend dX5_checkGuest_20 (by
    exact (congrArg (hl_WC a cI cZ) (by rfl)))

set_option maxHeartbeats 4000000 in
set_option maxRecDepth 100000 in
theorem c_X5_checkBooking (l : Launch) (D : va_G) (cI cZ cJ : ClassId) (a : Nat → Nat) (g : Nat → Nat → Int32) (x : Int32) (h1 : ¬ x < 0) (h2 : x < g 16 0) : hl_KV D (hl_ty cI cZ cJ) l yX5_checkBooking wsX5_checkBooking ({ frames := 0, cells := 0, slots := 0, locals := 0 } : Room) 0 0 [.ref (a 0), .int x] (hl_WC a cI cZ g) (fun w => w = hl_WC a cI cZ g) := by
  refine hl_KV_of (cc := cX5_checkBooking) (maxL := 2) (by decide) rfl (Nat.le_of_ble_eq_true rfl) ?_
  intro p e s m args below meth c A Q h hnm hend
  have hi0 : ∀ z ∈ wsX00, z ∈ wsX5_checkBooking := by decide +kernel
  have hi5 : ∀ z ∈ wsX50, z ∈ wsX5_checkBooking := by decide +kernel
  refine hl_ls (ls' := [(0, .ref (a 0)), (1, .int x)]) rfl ?_
  refine hl_iload_n h 1 dX5_checkBooking_0 rfl ?_
  refine hl_if_lt_F h 15 dX5_checkBooking_1 (by decide) h1 ?_
  refine hl_iload_n h 1 dX5_checkBooking_4 rfl ?_
  refine hl_aload_n h 0 dX5_checkBooking_5 rfl ?_
  refine hl_get h hi5 hl_wc_0 rfl 2 rfl dX5_checkBooking_6 (by decide) (by decide +kernel) ?_
  refine hl_get h hi0 hl_wc_3 rfl 6 rfl dX5_checkBooking_9 (by decide) (by decide +kernel) ?_
  refine hl_icmp_lt_T h 25 dX5_checkBooking_12 (by decide) h2 ?_
  exact hend dX5_checkBooking_25 (by
    exact (congrArg (hl_WC a cI cZ) (by rfl)))

set_option maxHeartbeats 4000000 in
set_option maxRecDepth 100000 in
theorem c_X5_checkRange (l : Launch) (D : va_G) (cI cZ cJ : ClassId) (a : Nat → Nat) (g : Nat → Nat → Int32) (x y z : Int32) (h1 : ¬ x < y) (h2 : x ≤ z) : hl_KV D (hl_ty cI cZ cJ) l yX5_checkRange wsX5_checkRange ({ frames := 0, cells := 0, slots := 0, locals := 0 } : Room) 0 0 [.int x, .int y, .int z] (hl_WC a cI cZ g) (fun w => w = hl_WC a cI cZ g) := by
  refine hl_KV_of (cc := cX5_checkRange) (maxL := 3) (by decide) rfl (Nat.le_of_ble_eq_true rfl) ?_
  intro p e s m args below meth c A Q h hnm hend
  refine hl_ls (ls' := [(0, .int x), (1, .int y), (2, .int z)]) rfl ?_
  refine hl_iload_n h 0 dX5_checkRange_0 rfl ?_
  refine hl_iload_n h 1 dX5_checkRange_1 rfl ?_
  refine hl_icmp_lt_F h 10 dX5_checkRange_2 (by decide) h1 ?_
  refine hl_iload_n h 0 dX5_checkRange_5 rfl ?_
  refine hl_iload_n h 2 dX5_checkRange_6 rfl ?_
  refine hl_icmp_le_T h 20 dX5_checkRange_7 (by decide) h2 ?_
  exact hend dX5_checkRange_20 (by
    exact (congrArg (hl_WC a cI cZ) (by rfl)))

set_option maxHeartbeats 4000000 in
set_option maxRecDepth 100000 in
theorem c_X5_distance (l : Launch) (D : va_G) (cI cZ cJ : ClassId) (a : Nat → Nat) (g : Nat → Nat → Int32) (x y : Int32) : hl_KI D (hl_ty cI cZ cJ) l yX5_distance wsX5_distance ({ frames := 1, cells := 0, slots := 0, locals := 13 } : Room) 0 0 [.int x, .int y] (hl_WC a cI cZ g) (fun r w => r = r_X5_distance x y ∧ w = hl_WC a cI cZ g) := by
  refine hl_KI_of (cc := cX5_distance) (maxL := 3) .int rfl (fun _ => Or.inr rfl) (by decide) rfl (Nat.le_of_ble_eq_true rfl) ?_
  intro p e s m args below meth c A Q h hend
  refine hl_ls (ls' := [(0, .int x), (1, .int y)]) rfl ?_
  refine hl_iload_n h 0 dX5_distance_0 rfl ?_
  refine hl_iload_n h 1 dX5_distance_1 rfl ?_
  refine hl_isub h dX5_distance_2 ?_
  refine hl_abs h dX5_distance_3 (by decide +kernel) (by decide +kernel) (by decide +kernel) (by decide +kernel) (Nat.le_of_ble_eq_true rfl) (Nat.le_of_ble_eq_true rfl) (Nat.le_of_ble_eq_true rfl) (Nat.le_of_ble_eq_true rfl) ?_
  refine hl_istore_n h [(2, .int (if 0 ≤ (x - y) then (x - y) else 0 - (x - y))), (0, .int x), (1, .int y)] dX5_distance_6 (by decide) rfl ?_
  refine hl_iload_n h 0 dX5_distance_7 rfl ?_
  refine hl_iconst h 4 dX5_distance_8 (by decide) ?_
  refine hl_iload_n h 0 dX5_distance_9 rfl ?_
  refine hl_isub h dX5_distance_10 ?_
  refine hl_min h dX5_distance_11 (by decide +kernel) (by decide +kernel) (by decide +kernel) (by decide +kernel) (Nat.le_of_ble_eq_true rfl) (Nat.le_of_ble_eq_true rfl) (Nat.le_of_ble_eq_true rfl) (Nat.le_of_ble_eq_true rfl) ?_
  exact hend dX5_distance_14 (fun h9 => nomatch h9) (by
    exact ⟨rfl, rfl⟩)

set_option maxHeartbeats 4000000 in
set_option maxRecDepth 100000 in
theorem c_X5_extraOf (l : Launch) (D : va_G) (cI cZ cJ : ClassId) (a : Nat → Nat) (g : Nat → Nat → Int32) (x : Int32) (N M : Nat) (ho : hl_ok g N M) : hl_KI D (hl_ty cI cZ cJ) l yX5_extraOf wsX5_extraOf ({ frames := 1, cells := 0, slots := 0, locals := 25 } : Room) 0 0 [.ref (a 0), .int x] (hl_WC a cI cZ g) (fun r w => r = r_X5_extraOf g N x ∧ w = hl_WC a cI cZ g) := by
  refine hl_KI_of (cc := cX5_extraOf) (maxL := 2) .int rfl (fun _ => Or.inr rfl) (by decide) rfl (Nat.le_of_ble_eq_true rfl) ?_
  intro p e s m args below meth c A Q h hend
  have hi5 : ∀ z ∈ wsX50, z ∈ wsX5_extraOf := by decide +kernel
  obtain ⟨hN, hc, hM, hm, hbk, hpt, hbr⟩ := id ho
  refine hl_ls (ls' := [(0, .ref (a 0)), (1, .int x)]) rfl ?_
  refine hl_aload_n h 0 dX5_extraOf_0 rfl ?_
  refine hl_get h hi5 hl_wc_0 rfl 2 rfl dX5_extraOf_1 (by decide) (by decide +kernel) ?_
  refine hl_iload_n h 1 dX5_extraOf_4 rfl ?_
  refine hl_aload_n h 0 dX5_extraOf_5 rfl ?_
  refine hl_get h hi5 hl_wc_0 rfl 5 rfl dX5_extraOf_6 (by decide) (by decide +kernel) ?_
  refine hl_iconst h 4 dX5_extraOf_9 (by decide) ?_
  refine hl_isub h dX5_extraOf_10 ?_
  refine hl_aload_n h 0 dX5_extraOf_11 rfl ?_
  refine hl_get h hi5 hl_wc_0 rfl 5 rfl dX5_extraOf_12 (by decide) (by decide +kernel) ?_
  refine hl_callViD h (st := []) (c_X0_missedAt l D cI cZ cJ a g x ((g 23 0) - 4) (g 23 0) N hN (by with_reducible assumption)) (cwV 3 h.2.2.2.2.1 gX5_extraOf_X0_missedAt rfl rfl rfl (by decide +kernel) ⟨Nat.le_of_ble_eq_true rfl, Nat.le_of_ble_eq_true rfl⟩) hl_wc_3 rfl dX5_extraOf_15 rfl (Nat.le_of_ble_eq_true rfl) ⟨Nat.le_of_ble_eq_true rfl, Nat.le_of_ble_eq_true rfl⟩ rfl ?_
  refine hl_iconst h 4 dX5_extraOf_18 (by decide) ?_
  refine hl_idiv h dX5_extraOf_19 (by decide) ?_
  exact hend dX5_extraOf_20 (fun h9 => nomatch h9) (by
    exact ⟨by rfl, (congrArg (hl_WC a cI cZ) (by rfl))⟩)

set_option maxHeartbeats 4000000 in
set_option maxRecDepth 100000 in
theorem c_X5_takesMore (l : Launch) (D : va_G) (cI cZ cJ : ClassId) (a : Nat → Nat) (g : Nat → Nat → Int32) (x y z : Int32) (N M : Nat) (ho : hl_ok g N M) (h1 : vp_in x 4) (h2 : vp_in y 2) : hl_KI D (hl_ty cI cZ cJ) l yX5_takesMore wsX5_takesMore ({ frames := 2, cells := 0, slots := 0, locals := 46 } : Room) 0 0 [.ref (a 0), .int x, .int y, .int z] (hl_WC a cI cZ g) (fun r w => r = r_X5_takesMore g N x y z ∧ w = hl_WC a cI cZ g) := by
  refine hl_KI_of (cc := cX5_takesMore) (maxL := 4) .boolean rfl (fun _ => Or.inl rfl) (by decide) rfl (Nat.le_of_ble_eq_true rfl) ?_
  intro p e s m args below meth c A Q h hend
  have hi5 : ∀ z ∈ wsX50, z ∈ wsX5_takesMore := by decide +kernel
  obtain ⟨hN, hc, hM, hm, hbk, hpt, hbr⟩ := id ho
  refine hl_ls (ls' := [(0, .ref (a 0)), (1, .int x), (2, .int y), (3, .int z)]) rfl ?_
  refine hl_aload_n h 0 dX5_takesMore_0 rfl ?_
  refine hl_get h hi5 hl_wc_0 rfl 2 rfl dX5_takesMore_1 (by decide) (by decide +kernel) ?_
  refine hl_iload_n h 1 dX5_takesMore_4 rfl ?_
  refine hl_iload_n h 2 dX5_takesMore_5 rfl ?_
  refine hl_iload_n h 3 dX5_takesMore_6 rfl ?_
  refine hl_callViD h (st := []) (c_X0_countFor l D cI cZ cJ a g x y z N hN (by with_reducible assumption)) (cwV 3 h.2.2.2.2.1 gX5_takesMore_X0_countFor rfl rfl rfl (by decide +kernel) ⟨Nat.le_of_ble_eq_true rfl, Nat.le_of_ble_eq_true rfl⟩) hl_wc_3 rfl dX5_takesMore_7 rfl (Nat.le_of_ble_eq_true rfl) ⟨Nat.le_of_ble_eq_true rfl, Nat.le_of_ble_eq_true rfl⟩ rfl ?_
  refine hl_aload_n h 0 dX5_takesMore_10 rfl ?_
  refine hl_get h hi5 hl_wc_0 rfl 0 rfl dX5_takesMore_11 (by decide) (by decide +kernel) ?_
  refine hl_iload_n h 1 dX5_takesMore_14 rfl ?_
  refine hl_iload_n h 2 dX5_takesMore_15 rfl ?_
  refine hl_callViD h (st := [.int (hl_it (b_X0_countFor g x y z) 0 N 0)]) (c_X4_countOf l D cI cZ cJ a g x y (by with_reducible assumption) (by with_reducible assumption)) (cwV 2 h.2.2.2.2.1 gX5_takesMore_X4_countOf rfl rfl rfl (by decide +kernel) ⟨Nat.le_of_ble_eq_true rfl, Nat.le_of_ble_eq_true rfl⟩) hl_wc_1 rfl dX5_takesMore_16 rfl (Nat.le_of_ble_eq_true rfl) ⟨Nat.le_of_ble_eq_true rfl, Nat.le_of_ble_eq_true rfl⟩ rfl ?_
  refine hl_aload_n h 0 dX5_takesMore_19 rfl ?_
  refine hl_iload_n h 1 dX5_takesMore_20 rfl ?_
  refine hl_callViD h (st := [.int ((g 0 (x * 2 + y).toNatClampNeg)), .int (hl_it (b_X0_countFor g x y z) 0 N 0)]) (c_X5_extraOf l D cI cZ cJ a g x N M ho) (cwV 1 h.2.2.2.2.1 gX5_takesMore_X5_extraOf rfl rfl rfl (by decide +kernel) ⟨Nat.le_of_ble_eq_true rfl, Nat.le_of_ble_eq_true rfl⟩) hl_wc_0 rfl dX5_takesMore_21 rfl (Nat.le_of_ble_eq_true rfl) ⟨Nat.le_of_ble_eq_true rfl, Nat.le_of_ble_eq_true rfl⟩ rfl ?_
  refine hl_iadd h dX5_takesMore_24 ?_
  refine hl_icmp_ge h 32 dX5_takesMore_25 (by decide) (fun c10 => ?_) (fun c10 => ?_)
  · refine hl_iconst h 0 dX5_takesMore_32 (by decide) ?_
    exact hend dX5_takesMore_33 (fun _ => by decide) (by
      exact ⟨by simp only [r_X5_takesMore, if_pos c10], rfl⟩)
  · refine hl_iconst h 1 dX5_takesMore_28 (by decide) ?_
    refine hl_goto h 33 dX5_takesMore_29 (by decide) ?_
    exact hend dX5_takesMore_33 (fun _ => by decide) (by
      exact ⟨by simp only [r_X5_takesMore, if_neg c10], rfl⟩)

set_option maxHeartbeats 4000000 in
set_option maxRecDepth 100000 in
theorem c_X5_findInn (l : Launch) (D : va_G) (cI cZ cJ : ClassId) (a : Nat → Nat) (g : Nat → Nat → Int32) (x y : Int32) (h1 : vp_in y 2) : hl_KI D (hl_ty cI cZ cJ) l yX5_findInn wsX5_findInn ({ frames := 3, cells := 0, slots := 0, locals := 65 } : Room) 0 0 [.ref (a 0), .int x, .int y] (hl_WC a cI cZ g) (fun r w => r = r_X5_findInn g x y ∧ w = hl_WC a cI cZ g) := by
  refine hl_KI_of (cc := cX5_findInn) (maxL := 5) .int rfl (fun _ => Or.inr rfl) (by decide) rfl (Nat.le_of_ble_eq_true rfl) ?_
  intro p e s m args below meth c A Q h hend
  have hi5 : ∀ z ∈ wsX50, z ∈ wsX5_findInn := by decide +kernel
  refine hl_ls (ls' := [(0, .ref (a 0)), (1, .int x), (2, .int y)]) rfl ?_
  refine hl_iconst h 0 dX5_findInn_0 (by decide) ?_
  refine hl_istore_n h [(3, .int 0), (0, .ref (a 0)), (1, .int x), (2, .int y)] dX5_findInn_1 (by decide) rfl ?_
  have lp2 : ∀ (n : Nat) (i : Nat), (i + n = 3) → (hl_it (b_X5_find g x y) i n (-1) = r_X5_findInn g x y) →  hl_X p l e ({ frames := 3, cells := 0, slots := 0, locals := 65 } : Room) s m args below meth c 5 D A 0 0 Q (hl_WC a cI cZ g) 2 [(0, .ref (a 0)), (1, .int x), (2, .int y), (3, .int (nI i))] [] := by
    intro n
    induction n with
    | zero =>
      intro i hi hv
      refine hl_iload_n h 3 dX5_findInn_2 rfl ?_
      refine hl_iconst h 2 dX5_findInn_3 (by decide) ?_
      refine hl_icmp_gt_T h 67 dX5_findInn_4 (by decide) (by rw [show i = 3 by omega]; decide) ?_
      refine hl_iconst h (-1) dX5_findInn_67 (by decide) ?_
      exact hend dX5_findInn_68 (fun h9 => nomatch h9) (by
        exact ⟨hv, rfl⟩)
    | succ n ih =>
      intro i hi hv
      refine hl_iload_n h 3 dX5_findInn_2 rfl ?_
      refine hl_iconst h 2 dX5_findInn_3 (by decide) ?_
      refine hl_icmp_gt_F h 67 dX5_findInn_4 (by decide) (nI_nlt (a := 2) (by omega) (by decide)) ?_
      refine hl_iconst h 0 dX5_findInn_7 (by decide) ?_
      refine hl_istore h [(4, .int 0), (0, .ref (a 0)), (1, .int x), (2, .int y), (3, .int (nI i))] dX5_findInn_8 (by decide) rfl ?_
      have lp10 : ∀ (m2 : Nat) (j : Nat), (j + m2 = 4) → (hl_it (b_X5_findIn g x y i) j m2 (-1) = hl_it (b_X5_findIn g x y i) 0 4 (-1)) →  hl_X p l e ({ frames := 3, cells := 0, slots := 0, locals := 65 } : Room) s m args below meth c 5 D A 0 0 Q (hl_WC a cI cZ g) 10 [(0, .ref (a 0)), (1, .int x), (2, .int y), (3, .int (nI i)), (4, .int (nI j))] [] := by
        intro m2
        induction m2 with
        | zero =>
          intro j hj hw
          refine hl_iload h 4 dX5_findInn_10 rfl ?_
          refine hl_iconst h 4 dX5_findInn_12 (by decide) ?_
          refine hl_icmp_ge_T h 61 dX5_findInn_13 (by decide) (by rw [show j = 4 by omega]; decide) ?_
          refine hl_iinc h 3 (nI (i + 1)) [(3, .int (nI (i + 1))), (0, .ref (a 0)), (1, .int x), (2, .int y), (4, .int (nI j))] dX5_findInn_61 rfl (hl_inc i) (by decide) rfl ?_
          refine hl_goto h 2 dX5_findInn_64 (by decide) ?_
          refine hl_lsub [1, 2, 3, 0] rfl ?_
          exact ih (i + 1) (by omega) (by rw [← hv, hl_it_s, b_X5_find, ← hw]; rfl)
        | succ m2 ih2 =>
          intro j hj hw
          have hvj : vp_in (nI j) 4 := vp_in_nI (by omega) (by decide)
          refine hl_iload h 4 dX5_findInn_10 rfl ?_
          refine hl_iconst h 4 dX5_findInn_12 (by decide) ?_
          refine hl_icmp_ge_F h 61 dX5_findInn_13 (by decide) (nI_ge (b := 4) (by omega) (by decide)) ?_
          refine hl_iload_n h 1 dX5_findInn_16 rfl ?_
          refine hl_iload h 4 dX5_findInn_17 rfl ?_
          refine hl_callSiD h (st := []) (c_X5_distance l D cI cZ cJ a g x (nI j)) (va_cwS 2 h.2.2.2.2.1 gX5_findInn_X5_distance rfl rfl rfl (by decide +kernel) ⟨Nat.le_of_ble_eq_true rfl, Nat.le_of_ble_eq_true rfl⟩) dX5_findInn_19 rfl (Nat.le_of_ble_eq_true rfl) ⟨Nat.le_of_ble_eq_true rfl, Nat.le_of_ble_eq_true rfl⟩ rfl ?_
          refine hl_iload_n h 3 dX5_findInn_22 rfl ?_
          refine hl_icmp_ne h 55 dX5_findInn_23 (by decide) (fun c4 => ?_) (fun c4 => ?_)
          · refine hl_iinc h 4 (nI (j + 1)) [(4, .int (nI (j + 1))), (0, .ref (a 0)), (1, .int x), (2, .int y), (3, .int (nI i))] dX5_findInn_55 rfl (hl_inc j) (by decide) rfl ?_
            refine hl_goto h 10 dX5_findInn_58 (by decide) ?_
            refine hl_lsub [1, 2, 3, 4, 0] rfl ?_
            exact ih2 (j + 1) (by omega) (by rw [← hw, hl_it_s, show b_X5_findIn g x y i j (-1) = -1 from by simp [b_X5_findIn, c4]])
          · refine hl_aload_n h 0 dX5_findInn_26 rfl ?_
            refine hl_get h hi5 hl_wc_0 rfl 0 rfl dX5_findInn_27 (by decide) (by decide +kernel) ?_
            refine hl_iload h 4 dX5_findInn_30 rfl ?_
            refine hl_iload_n h 2 dX5_findInn_32 rfl ?_
            refine hl_callViD h (st := []) (c_X4_freeOf l D cI cZ cJ a g (nI j) y (by with_reducible assumption) (by with_reducible assumption)) (cwV 2 h.2.2.2.2.1 gX5_findInn_X4_freeOf rfl rfl rfl (by decide +kernel) ⟨Nat.le_of_ble_eq_true rfl, Nat.le_of_ble_eq_true rfl⟩) hl_wc_1 rfl dX5_findInn_33 rfl (Nat.le_of_ble_eq_true rfl) ⟨Nat.le_of_ble_eq_true rfl, Nat.le_of_ble_eq_true rfl⟩ rfl ?_
            refine hl_if_le h 55 dX5_findInn_36 (by decide) (fun c8 => ?_) (fun c8 => ?_)
            · refine hl_iinc h 4 (nI (j + 1)) [(4, .int (nI (j + 1))), (0, .ref (a 0)), (1, .int x), (2, .int y), (3, .int (nI i))] dX5_findInn_55 rfl (hl_inc j) (by decide) rfl ?_
              refine hl_goto h 10 dX5_findInn_58 (by decide) ?_
              refine hl_lsub [1, 2, 3, 4, 0] rfl ?_
              exact ih2 (j + 1) (by omega) (by rw [← hw, hl_it_s, show b_X5_findIn g x y i j (-1) = -1 from by simp [b_X5_findIn, c4, c8]])
            · refine hl_aload_n h 0 dX5_findInn_39 rfl ?_
              refine hl_get h hi5 hl_wc_0 rfl 1 rfl dX5_findInn_40 (by decide) (by decide +kernel) ?_
              refine hl_iload h 4 dX5_findInn_43 rfl ?_
              refine hl_callViD h (st := []) (c_X2_giverFor l D cI cZ cJ a g (nI j) (by with_reducible assumption)) (cwV 1 h.2.2.2.2.1 gX5_findInn_X2_giverFor rfl rfl rfl (by decide +kernel) ⟨Nat.le_of_ble_eq_true rfl, Nat.le_of_ble_eq_true rfl⟩) hl_wc_2 rfl dX5_findInn_45 rfl (Nat.le_of_ble_eq_true rfl) ⟨Nat.le_of_ble_eq_true rfl, Nat.le_of_ble_eq_true rfl⟩ rfl ?_
              refine hl_iconst h (-1) dX5_findInn_48 (by decide) ?_
              refine hl_icmp_eq h 55 dX5_findInn_49 (by decide) (fun c12 => ?_) (fun c12 => ?_)
              · refine hl_iinc h 4 (nI (j + 1)) [(4, .int (nI (j + 1))), (0, .ref (a 0)), (1, .int x), (2, .int y), (3, .int (nI i))] dX5_findInn_55 rfl (hl_inc j) (by decide) rfl ?_
                refine hl_goto h 10 dX5_findInn_58 (by decide) ?_
                refine hl_lsub [1, 2, 3, 4, 0] rfl ?_
                exact ih2 (j + 1) (by omega) (by rw [← hw, hl_it_s, show b_X5_findIn g x y i j (-1) = -1 from by simp [b_X5_findIn, c4, c8, c12]])
              · refine hl_iload h 4 dX5_findInn_52 rfl ?_
                exact hend dX5_findInn_54 (fun h9 => nomatch h9) (by
                  exact ⟨by rw [← hv, hl_it_s, b_X5_find, ← hw, hl_it_s, show b_X5_findIn g x y i j (-1) = nI j from by simp [b_X5_findIn, c4, c8, c12], hl_find_stayIn g x y i (hl_nIm1 (by omega)), hl_find_stay g x y (hl_nIm1 (by omega))], rfl⟩)
      refine hl_lsub [1, 2, 3, 4, 0] rfl ?_
      exact lp10 4 0 rfl rfl
  refine hl_lsub [1, 2, 3, 0] rfl ?_
  exact lp2 3 0 rfl rfl

set_option maxHeartbeats 4000000 in
set_option maxRecDepth 100000 in
theorem c_X5_layLinen (l : Launch) (D : va_G) (cI cZ cJ : ClassId) (a : Nat → Nat) (g : Nat → Nat → Int32) (x : Int32) (h1 : vp_in x 4) : hl_KV D (hl_ty cI cZ cJ) l yX5_layLinen wsX5_layLinen ({ frames := 2, cells := 0, slots := 0, locals := 44 } : Room) 0 0 [.ref (a 0), .int x] (hl_WC a cI cZ g) (fun w => w = hl_WC a cI cZ (f_X5_layLinen g x)) := by
  refine hl_KV_of (cc := cX5_layLinen) (maxL := 3) (by decide) rfl (Nat.le_of_ble_eq_true rfl) ?_
  intro p e s m args below meth c A Q h hnm hend
  have hi5 : ∀ z ∈ wsX50, z ∈ wsX5_layLinen := by decide +kernel
  refine hl_ls (ls' := [(0, .ref (a 0)), (1, .int x)]) rfl ?_
  refine hl_aload_n h 0 dX5_layLinen_0 rfl ?_
  refine hl_get h hi5 hl_wc_0 rfl 1 rfl dX5_layLinen_1 (by decide) (by decide +kernel) ?_
  refine hl_iload_n h 1 dX5_layLinen_4 rfl ?_
  refine hl_callViD h (st := []) (c_X2_giverFor l D cI cZ cJ a g x (by with_reducible assumption)) (cwV 1 h.2.2.2.2.1 gX5_layLinen_X2_giverFor rfl rfl rfl (by decide +kernel) ⟨Nat.le_of_ble_eq_true rfl, Nat.le_of_ble_eq_true rfl⟩) hl_wc_2 rfl dX5_layLinen_5 rfl (Nat.le_of_ble_eq_true rfl) ⟨Nat.le_of_ble_eq_true rfl, Nat.le_of_ble_eq_true rfl⟩ rfl ?_
  refine hl_istore_n h [(2, .int (r_X2_giverFor g x)), (0, .ref (a 0)), (1, .int x)] dX5_layLinen_8 (by decide) rfl ?_
  refine hl_iload_n h 0 dX5_layLinen_9 rfl ?_
  refine hl_iconst h (-1) dX5_layLinen_10 (by decide) ?_
  refine hl_icmp_ne h 15 dX5_layLinen_11 (by decide) (fun c4 => ?_) (fun c4 => ?_)
  · have hgv : vp_in (r_X2_giverFor g x) 4 := (hl_giver_in g h1).resolve_left c4
    refine hl_iload_n h 0 dX5_layLinen_15 rfl ?_
    refine hl_iload_n h 2 dX5_layLinen_16 rfl ?_
    refine hl_icmp_eq h 36 dX5_layLinen_17 (by decide) (fun c5 => ?_) (fun c5 => ?_)
    · refine hl_aload_n h 1 dX5_layLinen_36 rfl ?_
      refine hl_get h hi5 hl_wc_0 rfl 1 rfl dX5_layLinen_37 (by decide) (by decide +kernel) ?_
      refine hl_iload_n h 2 dX5_layLinen_40 rfl ?_
      refine hl_iload_n h 0 dX5_layLinen_41 rfl ?_
      refine hl_callVvD h (st := []) (c_X2_take l D cI cZ cJ a g x (r_X2_giverFor g x) (by with_reducible assumption) (by with_reducible assumption)) (cwV 2 h.2.2.2.2.1 gX5_layLinen_X2_take rfl rfl rfl (by decide +kernel) ⟨Nat.le_of_ble_eq_true rfl, Nat.le_of_ble_eq_true rfl⟩) hl_wc_2 rfl dX5_layLinen_42 rfl (Nat.le_of_ble_eq_true rfl) ⟨Nat.le_of_ble_eq_true rfl, Nat.le_of_ble_eq_true rfl⟩ rfl ?_
      refine hl_nmC (fun g9 e10 => ?_)
      exact hend dX5_layLinen_45 (by
        subst e10
        exact congrArg (hl_WC a cI cZ) (by simp only [f_X5_layLinen, if_neg c4, if_pos c5]))
    · refine hl_aload_n h 1 dX5_layLinen_20 rfl ?_
      refine hl_get h hi5 hl_wc_0 rfl 4 rfl dX5_layLinen_21 (by decide) (by decide +kernel) ?_
      refine hl_iload_n h 2 dX5_layLinen_24 rfl ?_
      refine hl_iload_n h 0 dX5_layLinen_25 rfl ?_
      refine hl_aload_n h 1 dX5_layLinen_26 rfl ?_
      refine hl_get h hi5 hl_wc_0 rfl 1 rfl dX5_layLinen_27 (by decide) (by decide +kernel) ?_
      refine hl_callViD h (st := [.int (r_X2_giverFor g x), .int x, .ref (a 5)]) (c_X2_chargeForBorrowing l D cI cZ cJ a g) (cwV 0 h.2.2.2.2.1 gX5_layLinen_X2_chargeForBorrowing rfl rfl rfl (by decide +kernel) ⟨Nat.le_of_ble_eq_true rfl, Nat.le_of_ble_eq_true rfl⟩) hl_wc_2 rfl dX5_layLinen_30 rfl (Nat.le_of_ble_eq_true rfl) ⟨Nat.le_of_ble_eq_true rfl, Nat.le_of_ble_eq_true rfl⟩ rfl ?_
      refine hl_callVvD h (st := []) (c_X1_owe l D cI cZ cJ a g x (r_X2_giverFor g x) (1 + g 9 0) (by with_reducible assumption) (by with_reducible assumption)) (cwV 3 h.2.2.2.2.1 gX5_layLinen_X1_owe rfl rfl rfl (by decide +kernel) ⟨Nat.le_of_ble_eq_true rfl, Nat.le_of_ble_eq_true rfl⟩) hl_wc_5 rfl dX5_layLinen_33 rfl (Nat.le_of_ble_eq_true rfl) ⟨Nat.le_of_ble_eq_true rfl, Nat.le_of_ble_eq_true rfl⟩ rfl ?_
      refine hl_nmC (fun g17 e18 => ?_)
      refine hl_aload_n h 1 dX5_layLinen_36 rfl ?_
      refine hl_get h hi5 hl_wc_0 rfl 1 rfl dX5_layLinen_37 (by decide) (by decide +kernel) ?_
      refine hl_iload_n h 2 dX5_layLinen_40 rfl ?_
      refine hl_iload_n h 0 dX5_layLinen_41 rfl ?_
      refine hl_callVvD h (st := []) (c_X2_take l D cI cZ cJ a g17 x (r_X2_giverFor g x) (by with_reducible assumption) (by with_reducible assumption)) (cwV 2 h.2.2.2.2.1 gX5_layLinen_X2_take rfl rfl rfl (by decide +kernel) ⟨Nat.le_of_ble_eq_true rfl, Nat.le_of_ble_eq_true rfl⟩) hl_wc_2 rfl dX5_layLinen_42 rfl (Nat.le_of_ble_eq_true rfl) ⟨Nat.le_of_ble_eq_true rfl, Nat.le_of_ble_eq_true rfl⟩ rfl ?_
      refine hl_nmC (fun g22 e23 => ?_)
      exact hend dX5_layLinen_45 (by
        subst e23; subst e18
        exact congrArg (hl_WC a cI cZ) (by simp only [f_X5_layLinen, if_neg c4, if_neg c5]))
  · exact hend dX5_layLinen_14 (by
      skip
      exact congrArg (hl_WC a cI cZ) (by simp only [f_X5_layLinen, if_pos c4]))

set_option maxHeartbeats 4000000 in
set_option maxRecDepth 100000 in
theorem c_X5_putUp (l : Launch) (D : va_G) (cI cZ cJ : ClassId) (a : Nat → Nat) (g : Nat → Nat → Int32) (x y : Int32) (h1 : vp_in x 80) (h2 : vp_in y 4) (h3 : vp_in (g 11 x.toNatClampNeg) 4) (h4 : vp_in (g 12 x.toNatClampNeg) 2) (M : Nat) (hM : M ≤ 80) (hm : g 20 0 = nI M) : hl_KV D (hl_ty cI cZ cJ) l yX5_putUp wsX5_putUp ({ frames := 3, cells := 0, slots := 0, locals := 66 } : Room) 0 0 [.ref (a 0), .int x, .int y] (hl_WC a cI cZ g) (fun w => w = hl_WC a cI cZ (f_X5_putUp g x y)) := by
  refine hl_KV_of (cc := cX5_putUp) (maxL := 6) (by decide) rfl (Nat.le_of_ble_eq_true rfl) ?_
  intro p e s m args below meth c A Q h hnm hend
  have hi0 : ∀ z ∈ wsX00, z ∈ wsX5_putUp := by decide +kernel
  have hi5 : ∀ z ∈ wsX50, z ∈ wsX5_putUp := by decide +kernel
  refine hl_ls (ls' := [(0, .ref (a 0)), (1, .int x), (2, .int y)]) rfl ?_
  refine hl_aload_n h 0 dX5_putUp_0 rfl ?_
  refine hl_get h hi5 hl_wc_0 rfl 2 rfl dX5_putUp_1 (by decide) (by decide +kernel) ?_
  refine hl_get h hi0 hl_wc_3 rfl 1 rfl dX5_putUp_4 (by decide) (by decide +kernel) ?_
  refine hl_iload_n h 1 dX5_putUp_7 rfl ?_
  refine hl_ild h hl_wc_15 0 rfl dX5_putUp_8 (by with_reducible assumption) ?_
  refine hl_istore_n h [(3, .int (g 11 x.toNatClampNeg)), (0, .ref (a 0)), (1, .int x), (2, .int y)] dX5_putUp_9 (by decide) rfl ?_
  refine hl_aload_n h 1 dX5_putUp_10 rfl ?_
  refine hl_get h hi5 hl_wc_0 rfl 2 rfl dX5_putUp_11 (by decide) (by decide +kernel) ?_
  refine hl_get h hi0 hl_wc_3 rfl 2 rfl dX5_putUp_14 (by decide) (by decide +kernel) ?_
  refine hl_iload_n h 2 dX5_putUp_17 rfl ?_
  refine hl_ild h hl_wc_16 0 rfl dX5_putUp_18 (by with_reducible assumption) ?_
  refine hl_istore h [(4, .int (g 12 x.toNatClampNeg)), (3, .int (g 11 x.toNatClampNeg)), (0, .ref (a 0)), (1, .int x), (2, .int y)] dX5_putUp_19 (by decide) rfl ?_
  refine hl_aload_n h 2 dX5_putUp_21 rfl ?_
  refine hl_get h hi5 hl_wc_0 rfl 0 rfl dX5_putUp_22 (by decide) (by decide +kernel) ?_
  refine hl_iload_n h 4 dX5_putUp_25 rfl ?_
  refine hl_iload h 0 dX5_putUp_26 rfl ?_
  refine hl_callViD h (st := []) (c_X4_priceOf l D cI cZ cJ a g y (g 12 x.toNatClampNeg) (by with_reducible assumption) (by with_reducible assumption)) (cwV 2 h.2.2.2.2.1 gX5_putUp_X4_priceOf rfl rfl rfl (by decide +kernel) ⟨Nat.le_of_ble_eq_true rfl, Nat.le_of_ble_eq_true rfl⟩) hl_wc_1 rfl dX5_putUp_28 rfl (Nat.le_of_ble_eq_true rfl) ⟨Nat.le_of_ble_eq_true rfl, Nat.le_of_ble_eq_true rfl⟩ rfl ?_
  refine hl_istore h [(5, .int ((g 1 (y * 2 + (g 12 x.toNatClampNeg)).toNatClampNeg))), (4, .int (g 12 x.toNatClampNeg)), (3, .int (g 11 x.toNatClampNeg)), (0, .ref (a 0)), (1, .int x), (2, .int y)] dX5_putUp_31 (by decide) rfl ?_
  refine hl_aload_n h 3 dX5_putUp_33 rfl ?_
  refine hl_get h hi5 hl_wc_0 rfl 4 rfl dX5_putUp_34 (by decide) (by decide +kernel) ?_
  refine hl_iload_n h 2 dX5_putUp_37 rfl ?_
  refine hl_aload_n h 3 dX5_putUp_38 rfl ?_
  refine hl_get h hi5 hl_wc_0 rfl 0 rfl dX5_putUp_39 (by decide) (by decide +kernel) ?_
  refine hl_iload_n h 2 dX5_putUp_42 rfl ?_
  refine hl_iload h 1 dX5_putUp_43 rfl ?_
  refine hl_callViD h (st := [.int (g 11 x.toNatClampNeg), .ref (a 5)]) (c_X4_priceOf l D cI cZ cJ a g (g 11 x.toNatClampNeg) (g 12 x.toNatClampNeg) (by with_reducible assumption) (by with_reducible assumption)) (cwV 2 h.2.2.2.2.1 gX5_putUp_X4_priceOf rfl rfl rfl (by decide +kernel) ⟨Nat.le_of_ble_eq_true rfl, Nat.le_of_ble_eq_true rfl⟩) hl_wc_1 rfl dX5_putUp_45 rfl (Nat.le_of_ble_eq_true rfl) ⟨Nat.le_of_ble_eq_true rfl, Nat.le_of_ble_eq_true rfl⟩ rfl ?_
  refine hl_callVvD h (st := []) (c_X1_receive l D cI cZ cJ a g (g 11 x.toNatClampNeg) ((g 1 ((g 11 x.toNatClampNeg) * 2 + (g 12 x.toNatClampNeg)).toNatClampNeg)) (by with_reducible assumption)) (cwV 2 h.2.2.2.2.1 gX5_putUp_X1_receive rfl rfl rfl (by decide +kernel) ⟨Nat.le_of_ble_eq_true rfl, Nat.le_of_ble_eq_true rfl⟩) hl_wc_5 rfl dX5_putUp_48 rfl (Nat.le_of_ble_eq_true rfl) ⟨Nat.le_of_ble_eq_true rfl, Nat.le_of_ble_eq_true rfl⟩ rfl ?_
  refine hl_nmC (fun g10 e11 => ?_)
  refine hl_iload_n h 5 dX5_putUp_51 rfl ?_
  refine hl_iload_n h 2 dX5_putUp_52 rfl ?_
  refine hl_icmp_eq h 67 dX5_putUp_53 (by decide) (fun c12 => ?_) (fun c12 => ?_)
  · refine hl_aload_n h 3 dX5_putUp_67 rfl ?_
    refine hl_iload_n h 5 dX5_putUp_68 rfl ?_
    refine hl_callVvD h (st := []) (c_X5_layLinen l D cI cZ cJ a g10 y (by with_reducible assumption)) (cwV 1 h.2.2.2.2.1 gX5_putUp_X5_layLinen rfl rfl rfl (by decide +kernel) ⟨Nat.le_of_ble_eq_true rfl, Nat.le_of_ble_eq_true rfl⟩) hl_wc_0 rfl dX5_putUp_69 rfl (Nat.le_of_ble_eq_true rfl) ⟨Nat.le_of_ble_eq_true rfl, Nat.le_of_ble_eq_true rfl⟩ rfl ?_
    refine hl_nmC (fun g16 e17 => ?_)
    refine hl_aload_n h 3 dX5_putUp_72 rfl ?_
    refine hl_get h hi5 hl_wc_0 rfl 0 rfl dX5_putUp_73 (by decide) (by decide +kernel) ?_
    refine hl_iload_n h 5 dX5_putUp_76 rfl ?_
    refine hl_iload h 1 dX5_putUp_77 rfl ?_
    refine hl_callVvD h (st := []) (c_X4_addSleeper l D cI cZ cJ a g16 y (g 12 x.toNatClampNeg) (by with_reducible assumption) (by with_reducible assumption)) (cwV 2 h.2.2.2.2.1 gX5_putUp_X4_addSleeper rfl rfl rfl (by decide +kernel) ⟨Nat.le_of_ble_eq_true rfl, Nat.le_of_ble_eq_true rfl⟩) hl_wc_1 rfl dX5_putUp_79 rfl (Nat.le_of_ble_eq_true rfl) ⟨Nat.le_of_ble_eq_true rfl, Nat.le_of_ble_eq_true rfl⟩ rfl ?_
    refine hl_nmC (fun g21 e22 => ?_)
    refine hl_aload_n h 3 dX5_putUp_82 rfl ?_
    refine hl_get h hi5 hl_wc_0 rfl 3 rfl dX5_putUp_83 (by decide) (by decide +kernel) ?_
    refine hl_aload_n h 3 dX5_putUp_86 rfl ?_
    refine hl_get h hi5 hl_wc_0 rfl 2 rfl dX5_putUp_87 (by decide) (by decide +kernel) ?_
    refine hl_get h hi0 hl_wc_3 rfl 0 rfl dX5_putUp_90 (by decide) (by decide +kernel) ?_
    refine hl_iload_n h 4 dX5_putUp_93 rfl ?_
    refine hl_ild h hl_wc_14 0 rfl dX5_putUp_94 (by with_reducible assumption) ?_
    refine hl_iload_n h 5 dX5_putUp_95 rfl ?_
    refine hl_iload h 0 dX5_putUp_96 rfl ?_
    refine hl_bipush h 10 dX5_putUp_98 (by decide) ?_
    refine hl_idiv h dX5_putUp_100 (by decide) ?_
    have hm4 : g21 20 0 = nI M := by simp [fr_X4_addSleeper, fr_X5_layLinen, fr_X1_owe, fr_X1_receive, fr_X0_arrive, fr_X3_takeFrom, e11, e17, e22, hm]
    refine hl_callVvD h (st := []) (c_X3_add l D cI cZ cJ a g21 (g21 10 x.toNatClampNeg) y (((g 1 (y * 2 + (g 12 x.toNatClampNeg)).toNatClampNeg)) / 10) M hM (by with_reducible assumption)) (cwV 3 h.2.2.2.2.1 gX5_putUp_X3_add rfl rfl rfl (by decide +kernel) ⟨Nat.le_of_ble_eq_true rfl, Nat.le_of_ble_eq_true rfl⟩) hl_wc_4 rfl dX5_putUp_101 rfl (Nat.le_of_ble_eq_true rfl) ⟨Nat.le_of_ble_eq_true rfl, Nat.le_of_ble_eq_true rfl⟩ rfl ?_
    refine hl_nmC (fun g26 e27 => ?_)
    exact hend dX5_putUp_104 (by
      subst e27; subst e22; subst e17; subst e11
      exact congrArg (hl_WC a cI cZ) (by simp only [f_X5_putUp, if_pos c12]))
  · refine hl_aload_n h 3 dX5_putUp_56 rfl ?_
    refine hl_get h hi5 hl_wc_0 rfl 4 rfl dX5_putUp_57 (by decide) (by decide +kernel) ?_
    refine hl_iload_n h 2 dX5_putUp_60 rfl ?_
    refine hl_iload_n h 5 dX5_putUp_61 rfl ?_
    refine hl_iload h 0 dX5_putUp_62 rfl ?_
    refine hl_callVvD h (st := []) (c_X1_owe l D cI cZ cJ a g10 (g 11 x.toNatClampNeg) y ((g 1 (y * 2 + (g 12 x.toNatClampNeg)).toNatClampNeg)) (by with_reducible assumption) (by with_reducible assumption)) (cwV 3 h.2.2.2.2.1 gX5_putUp_X1_owe rfl rfl rfl (by decide +kernel) ⟨Nat.le_of_ble_eq_true rfl, Nat.le_of_ble_eq_true rfl⟩) hl_wc_5 rfl dX5_putUp_64 rfl (Nat.le_of_ble_eq_true rfl) ⟨Nat.le_of_ble_eq_true rfl, Nat.le_of_ble_eq_true rfl⟩ rfl ?_
    refine hl_nmC (fun g31 e32 => ?_)
    refine hl_aload_n h 3 dX5_putUp_67 rfl ?_
    refine hl_iload_n h 5 dX5_putUp_68 rfl ?_
    refine hl_callVvD h (st := []) (c_X5_layLinen l D cI cZ cJ a g31 y (by with_reducible assumption)) (cwV 1 h.2.2.2.2.1 gX5_putUp_X5_layLinen rfl rfl rfl (by decide +kernel) ⟨Nat.le_of_ble_eq_true rfl, Nat.le_of_ble_eq_true rfl⟩) hl_wc_0 rfl dX5_putUp_69 rfl (Nat.le_of_ble_eq_true rfl) ⟨Nat.le_of_ble_eq_true rfl, Nat.le_of_ble_eq_true rfl⟩ rfl ?_
    refine hl_nmC (fun g36 e37 => ?_)
    refine hl_aload_n h 3 dX5_putUp_72 rfl ?_
    refine hl_get h hi5 hl_wc_0 rfl 0 rfl dX5_putUp_73 (by decide) (by decide +kernel) ?_
    refine hl_iload_n h 5 dX5_putUp_76 rfl ?_
    refine hl_iload h 1 dX5_putUp_77 rfl ?_
    refine hl_callVvD h (st := []) (c_X4_addSleeper l D cI cZ cJ a g36 y (g 12 x.toNatClampNeg) (by with_reducible assumption) (by with_reducible assumption)) (cwV 2 h.2.2.2.2.1 gX5_putUp_X4_addSleeper rfl rfl rfl (by decide +kernel) ⟨Nat.le_of_ble_eq_true rfl, Nat.le_of_ble_eq_true rfl⟩) hl_wc_1 rfl dX5_putUp_79 rfl (Nat.le_of_ble_eq_true rfl) ⟨Nat.le_of_ble_eq_true rfl, Nat.le_of_ble_eq_true rfl⟩ rfl ?_
    refine hl_nmC (fun g41 e42 => ?_)
    refine hl_aload_n h 3 dX5_putUp_82 rfl ?_
    refine hl_get h hi5 hl_wc_0 rfl 3 rfl dX5_putUp_83 (by decide) (by decide +kernel) ?_
    refine hl_aload_n h 3 dX5_putUp_86 rfl ?_
    refine hl_get h hi5 hl_wc_0 rfl 2 rfl dX5_putUp_87 (by decide) (by decide +kernel) ?_
    refine hl_get h hi0 hl_wc_3 rfl 0 rfl dX5_putUp_90 (by decide) (by decide +kernel) ?_
    refine hl_iload_n h 4 dX5_putUp_93 rfl ?_
    refine hl_ild h hl_wc_14 0 rfl dX5_putUp_94 (by with_reducible assumption) ?_
    refine hl_iload_n h 5 dX5_putUp_95 rfl ?_
    refine hl_iload h 0 dX5_putUp_96 rfl ?_
    refine hl_bipush h 10 dX5_putUp_98 (by decide) ?_
    refine hl_idiv h dX5_putUp_100 (by decide) ?_
    have hm4 : g41 20 0 = nI M := by simp [fr_X4_addSleeper, fr_X5_layLinen, fr_X1_owe, fr_X1_receive, fr_X0_arrive, fr_X3_takeFrom, e11, e32, e37, e42, hm]
    refine hl_callVvD h (st := []) (c_X3_add l D cI cZ cJ a g41 (g41 10 x.toNatClampNeg) y (((g 1 (y * 2 + (g 12 x.toNatClampNeg)).toNatClampNeg)) / 10) M hM (by with_reducible assumption)) (cwV 3 h.2.2.2.2.1 gX5_putUp_X3_add rfl rfl rfl (by decide +kernel) ⟨Nat.le_of_ble_eq_true rfl, Nat.le_of_ble_eq_true rfl⟩) hl_wc_4 rfl dX5_putUp_101 rfl (Nat.le_of_ble_eq_true rfl) ⟨Nat.le_of_ble_eq_true rfl, Nat.le_of_ble_eq_true rfl⟩ rfl ?_
    refine hl_nmC (fun g46 e47 => ?_)
    exact hend dX5_putUp_104 (by
      subst e47; subst e42; subst e37; subst e32; subst e11
      exact congrArg (hl_WC a cI cZ) (by simp only [f_X5_putUp, if_neg c12]))

set_option maxHeartbeats 4000000 in
set_option maxRecDepth 100000 in
theorem c_X5_burnEarliest (l : Launch) (D : va_G) (cI cZ cJ : ClassId) (a : Nat → Nat) (g : Nat → Nat → Int32) (x y q : Int32) (N M : Nat) (ho : hl_ok g N M) (h2 : vp_in y 4) : hl_KV D (hl_ty cI cZ cJ) l yX5_burnEarliest wsX5_burnEarliest ({ frames := 2, cells := 0, slots := 0, locals := 44 } : Room) 0 0 [.ref (a 0), .int x, .int y, .int q] (hl_WC a cI cZ g) (fun w => w = hl_WC a cI cZ (f_X5_burnEarliest g M x y q)) := by
  refine hl_KV_of (cc := cX5_burnEarliest) (maxL := 7) (by decide) rfl (Nat.le_of_ble_eq_true rfl) ?_
  intro p e s m args below meth c A Q h hnm hend
  have hi3 : ∀ z ∈ wsX30, z ∈ wsX5_burnEarliest := by decide +kernel
  have hi5 : ∀ z ∈ wsX50, z ∈ wsX5_burnEarliest := by decide +kernel
  obtain ⟨hN, hc, hM, hm, hbk, hpt, hbr⟩ := id ho
  refine hl_ls (ls' := [(0, .ref (a 0)), (1, .int x), (2, .int y), (3, .int q)]) rfl ?_
  refine hl_iload_n h 3 dX5_burnEarliest_0 rfl ?_
  refine hl_istore h [(4, .int q), (0, .ref (a 0)), (1, .int x), (2, .int y), (3, .int q)] dX5_burnEarliest_1 (by decide) rfl ?_
  refine hl_iconst h 0 dX5_burnEarliest_3 (by decide) ?_
  refine hl_istore h [(5, .int 0), (4, .int q), (0, .ref (a 0)), (1, .int x), (2, .int y), (3, .int q)] dX5_burnEarliest_4 (by decide) rfl ?_
  have lp6 : ∀ (n : Nat) (i : Nat) (z : (Nat → Nat → Int32) × Int32), (i + n = M) → (hl_it (b_X5_burn x y) i n z = hl_it (b_X5_burn x y) 0 M (g, q)) → (z.1 20 = g 20) → (z.1 18 = g 18) →  hl_X p l e ({ frames := 2, cells := 0, slots := 0, locals := 44 } : Room) s m args below meth c 7 D A 0 0 Q (hl_WC a cI cZ z.1) 6 [(0, .ref (a 0)), (1, .int x), (2, .int y), (3, .int q), (4, .int z.2), (5, .int (nI i))] [] := by
    intro n
    induction n with
    | zero =>
      intro i z hi hv hz1 hz2
      refine hl_iload h 5 dX5_burnEarliest_6 rfl ?_
      refine hl_aload_n h 0 dX5_burnEarliest_8 rfl ?_
      refine hl_get h hi5 hl_wc_0 rfl 3 rfl dX5_burnEarliest_9 (by decide) (by decide +kernel) ?_
      refine hl_get h hi3 hl_wc_4 rfl 3 rfl dX5_burnEarliest_12 (by decide) (by decide +kernel) ?_
      refine hl_icmp_ge_T h 84 dX5_burnEarliest_15 (by decide) (by rw [hz1, hm]; exact nI_le (by omega) (by omega)) ?_
      exact hend dX5_burnEarliest_84 (by
        exact congrArg (fun u : (Nat → Nat → Int32) × Int32 => hl_WC a cI cZ u.1) hv)
    | succ n ih =>
      intro i z hi hv hz1 hz2
      have hvi : vp_in (nI i) 80 := vp_in_nI (by omega) (by decide)
      refine hl_iload h 5 dX5_burnEarliest_6 rfl ?_
      refine hl_aload_n h 0 dX5_burnEarliest_8 rfl ?_
      refine hl_get h hi5 hl_wc_0 rfl 3 rfl dX5_burnEarliest_9 (by decide) (by decide +kernel) ?_
      refine hl_get h hi3 hl_wc_4 rfl 3 rfl dX5_burnEarliest_12 (by decide) (by decide +kernel) ?_
      refine hl_icmp_ge_F h 84 dX5_burnEarliest_15 (by decide) (by rw [hz1, hm]; exact nI_ge (by omega) (by omega)) ?_
      refine hl_iload h 4 dX5_burnEarliest_18 rfl ?_
      refine hl_if_le h 84 dX5_burnEarliest_20 (by decide) (fun c1 => ?_) (fun c1 => ?_)
      · exact hend dX5_burnEarliest_84 (by
          exact congrArg (fun u : (Nat → Nat → Int32) × Int32 => hl_WC a cI cZ u.1) (by rw [← hv, hl_burn_stay x y c1]))
      · refine hl_aload_n h 0 dX5_burnEarliest_23 rfl ?_
        refine hl_get h hi5 hl_wc_0 rfl 3 rfl dX5_burnEarliest_24 (by decide) (by decide +kernel) ?_
        refine hl_iload h 5 dX5_burnEarliest_27 rfl ?_
        refine hl_iload_n h 1 dX5_burnEarliest_29 rfl ?_
        refine hl_iload h 4 dX5_burnEarliest_30 rfl ?_
        refine hl_callViD h (st := []) (c_X3_takeFrom l D cI cZ cJ a z.1 (nI i) x z.2 (by with_reducible assumption)) (cwV 3 h.2.2.2.2.1 gX5_burnEarliest_X3_takeFrom rfl rfl rfl (by decide +kernel) ⟨Nat.le_of_ble_eq_true rfl, Nat.le_of_ble_eq_true rfl⟩) hl_wc_4 rfl dX5_burnEarliest_32 rfl (Nat.le_of_ble_eq_true rfl) ⟨Nat.le_of_ble_eq_true rfl, Nat.le_of_ble_eq_true rfl⟩ rfl ?_
        refine hl_nmC (fun g5 e6 => ?_)
        refine hl_istore h [(6, .int (r_X3_takeFrom z.1 (nI i) x z.2)), (0, .ref (a 0)), (1, .int x), (2, .int y), (3, .int q), (4, .int z.2), (5, .int (nI i))] dX5_burnEarliest_35 (by decide) rfl ?_
        refine hl_iload h 5 dX5_burnEarliest_37 rfl ?_
        refine hl_iload h 0 dX5_burnEarliest_39 rfl ?_
        refine hl_isub h dX5_burnEarliest_41 ?_
        refine hl_istore h [(4, .int (z.2 - (r_X3_takeFrom z.1 (nI i) x z.2))), (6, .int (r_X3_takeFrom z.1 (nI i) x z.2)), (0, .ref (a 0)), (1, .int x), (2, .int y), (3, .int q), (5, .int (nI i))] dX5_burnEarliest_42 (by decide) rfl ?_
        refine hl_aload_n h 2 dX5_burnEarliest_44 rfl ?_
        refine hl_get h hi5 hl_wc_0 rfl 3 rfl dX5_burnEarliest_45 (by decide) (by decide +kernel) ?_
        refine hl_get h hi3 hl_wc_4 rfl 1 rfl dX5_burnEarliest_48 (by decide) (by decide +kernel) ?_
        refine hl_iload h 6 dX5_burnEarliest_51 rfl ?_
        refine hl_ildN h hl_wc_21 0 rfl i dX5_burnEarliest_53 rfl (by omega) (by decide) ?_
        refine hl_iload_n h 4 dX5_burnEarliest_54 rfl ?_
        refine hl_icmp_eq h 78 dX5_burnEarliest_55 (by decide) (fun c7 => ?_) (fun c7 => ?_)
        · refine hl_iinc h 6 (nI (i + 1)) [(5, .int (nI (i + 1))), (4, .int (z.2 - (r_X3_takeFrom z.1 (nI i) x z.2))), (6, .int (r_X3_takeFrom z.1 (nI i) x z.2)), (0, .ref (a 0)), (1, .int x), (2, .int y), (3, .int q)] dX5_burnEarliest_78 rfl (hl_inc i) (by decide) rfl ?_
          refine hl_goto h 6 dX5_burnEarliest_81 (by decide) ?_
          refine hl_lsub [3, 4, 5, 6, 1, 0] rfl ?_
          exact ih (i + 1) (g5, (z.2 - (r_X3_takeFrom z.1 (nI i) x z.2))) (by omega) (by rw [← hv, hl_it_s, show b_X5_burn x y i z = (g5, (z.2 - (r_X3_takeFrom z.1 (nI i) x z.2))) from (by subst e6; unfold b_X5_burn; rw [if_neg c1]; show ((if _ then _ else _), _) = _; rw [if_pos c7])]) (by simp [fr_X4_addSleeper, fr_X5_layLinen, fr_X1_owe, fr_X1_receive, fr_X0_arrive, fr_X3_takeFrom, e6, hz1]) (by simp [fr_X4_addSleeper, fr_X5_layLinen, fr_X1_owe, fr_X1_receive, fr_X0_arrive, fr_X3_takeFrom, e6, hz2])
        · have hvs : vp_in (g5 18 i) 4 := by rw [e6, fr_X3_takeFrom _ _ _ _ (by decide), hz2]; exact hpt i (by omega)
          refine hl_aload_n h 2 dX5_burnEarliest_58 rfl ?_
          refine hl_get h hi5 hl_wc_0 rfl 4 rfl dX5_burnEarliest_59 (by decide) (by decide +kernel) ?_
          refine hl_aload_n h 2 dX5_burnEarliest_62 rfl ?_
          refine hl_get h hi5 hl_wc_0 rfl 3 rfl dX5_burnEarliest_63 (by decide) (by decide +kernel) ?_
          refine hl_get h hi3 hl_wc_4 rfl 1 rfl dX5_burnEarliest_66 (by decide) (by decide +kernel) ?_
          refine hl_iload h 6 dX5_burnEarliest_69 rfl ?_
          refine hl_ildN h hl_wc_21 0 rfl i dX5_burnEarliest_71 rfl (by omega) (by decide) ?_
          refine hl_iload_n h 4 dX5_burnEarliest_72 rfl ?_
          refine hl_iload h 1 dX5_burnEarliest_73 rfl ?_
          refine hl_callVvD h (st := []) (c_X1_owe l D cI cZ cJ a g5 (g5 18 i) y (r_X3_takeFrom z.1 (nI i) x z.2) (by with_reducible assumption) (by with_reducible assumption)) (cwV 3 h.2.2.2.2.1 gX5_burnEarliest_X1_owe rfl rfl rfl (by decide +kernel) ⟨Nat.le_of_ble_eq_true rfl, Nat.le_of_ble_eq_true rfl⟩) hl_wc_5 rfl dX5_burnEarliest_75 rfl (Nat.le_of_ble_eq_true rfl) ⟨Nat.le_of_ble_eq_true rfl, Nat.le_of_ble_eq_true rfl⟩ rfl ?_
          refine hl_nmC (fun g11 e12 => ?_)
          refine hl_iinc h 6 (nI (i + 1)) [(5, .int (nI (i + 1))), (4, .int (z.2 - (r_X3_takeFrom z.1 (nI i) x z.2))), (6, .int (r_X3_takeFrom z.1 (nI i) x z.2)), (0, .ref (a 0)), (1, .int x), (2, .int y), (3, .int q)] dX5_burnEarliest_78 rfl (hl_inc i) (by decide) rfl ?_
          refine hl_goto h 6 dX5_burnEarliest_81 (by decide) ?_
          refine hl_lsub [3, 4, 5, 6, 1, 0] rfl ?_
          exact ih (i + 1) (g11, (z.2 - (r_X3_takeFrom z.1 (nI i) x z.2))) (by omega) (by rw [← hv, hl_it_s, show b_X5_burn x y i z = (g11, (z.2 - (r_X3_takeFrom z.1 (nI i) x z.2))) from (by subst e12; subst e6; unfold b_X5_burn; rw [if_neg c1]; show ((if _ then _ else _), _) = _; rw [if_neg c7])]) (by simp [fr_X4_addSleeper, fr_X5_layLinen, fr_X1_owe, fr_X1_receive, fr_X0_arrive, fr_X3_takeFrom, e6, e12, hz1]) (by simp [fr_X4_addSleeper, fr_X5_layLinen, fr_X1_owe, fr_X1_receive, fr_X0_arrive, fr_X3_takeFrom, e6, e12, hz2])
  refine hl_lsub [2, 3, 4, 5, 1, 0] rfl ?_
  exact lp6 M 0 (g, q) (Nat.zero_add M) rfl rfl rfl

set_option maxHeartbeats 4000000 in
set_option maxRecDepth 100000 in
theorem c_X5_setRooms (l : Launch) (D : va_G) (cI cZ cJ : ClassId) (a : Nat → Nat) (g : Nat → Nat → Int32) (x y n q : Int32) (h1 : vp_in x 4) (h2 : vp_in y 2) (h3 : ¬ n < 0) (h4 : n ≤ 10) (h5 : ¬ q < 1) (h6 : q ≤ 100) : hl_KI D (hl_ty cI cZ cJ) l yX5_setRooms wsX5_setRooms ({ frames := 2, cells := 0, slots := 0, locals := 47 } : Room) 0 0 [.ref (a 0), .int x, .int y, .int n, .int q] (hl_WC a cI cZ g) (fun r w => r = g 0 (x * 2 + y).toNatClampNeg ∧ w = hl_WC a cI cZ (f_X4_change g x y n q)) := by
  refine hl_KI_of (cc := cX5_setRooms) (maxL := 5) .int rfl (fun _ => Or.inr rfl) (by decide) rfl (Nat.le_of_ble_eq_true rfl) ?_
  intro p e s m args below meth c A Q h hend
  have hi5 : ∀ z ∈ wsX50, z ∈ wsX5_setRooms := by decide +kernel
  refine hl_ls (ls' := [(0, .ref (a 0)), (1, .int x), (2, .int y), (3, .int n), (4, .int q)]) rfl ?_
  refine hl_iload_n h 1 dX5_setRooms_0 rfl ?_
  refine hl_callSvD h (st := []) (c_X5_checkInn l D cI cZ cJ a g x (by with_reducible assumption)) (va_cwS 1 h.2.2.2.2.1 gX5_setRooms_X5_checkInn rfl rfl rfl (by decide +kernel) ⟨Nat.le_of_ble_eq_true rfl, Nat.le_of_ble_eq_true rfl⟩) dX5_setRooms_1 rfl (Nat.le_of_ble_eq_true rfl) ⟨Nat.le_of_ble_eq_true rfl, Nat.le_of_ble_eq_true rfl⟩ rfl ?_
  refine hl_iload_n h 2 dX5_setRooms_4 rfl ?_
  refine hl_callSvD h (st := []) (c_X5_checkKind l D cI cZ cJ a g y (by with_reducible assumption)) (va_cwS 1 h.2.2.2.2.1 gX5_setRooms_X5_checkKind rfl rfl rfl (by decide +kernel) ⟨Nat.le_of_ble_eq_true rfl, Nat.le_of_ble_eq_true rfl⟩) dX5_setRooms_5 rfl (Nat.le_of_ble_eq_true rfl) ⟨Nat.le_of_ble_eq_true rfl, Nat.le_of_ble_eq_true rfl⟩ rfl ?_
  refine hl_iload_n h 3 dX5_setRooms_8 rfl ?_
  refine hl_iconst h 0 dX5_setRooms_9 (by decide) ?_
  refine hl_bipush h 10 dX5_setRooms_10 (by decide) ?_
  refine hl_callSvD h (st := []) (c_X5_checkRange l D cI cZ cJ a g n 0 10 (by with_reducible assumption) (by with_reducible assumption)) (va_cwS 3 h.2.2.2.2.1 gX5_setRooms_X5_checkRange rfl rfl rfl (by decide +kernel) ⟨Nat.le_of_ble_eq_true rfl, Nat.le_of_ble_eq_true rfl⟩) dX5_setRooms_12 rfl (Nat.le_of_ble_eq_true rfl) ⟨Nat.le_of_ble_eq_true rfl, Nat.le_of_ble_eq_true rfl⟩ rfl ?_
  refine hl_iload h 4 dX5_setRooms_15 rfl ?_
  refine hl_iconst h 1 dX5_setRooms_17 (by decide) ?_
  refine hl_bipush h 100 dX5_setRooms_18 (by decide) ?_
  refine hl_callSvD h (st := []) (c_X5_checkRange l D cI cZ cJ a g q 1 100 (by with_reducible assumption) (by with_reducible assumption)) (va_cwS 3 h.2.2.2.2.1 gX5_setRooms_X5_checkRange rfl rfl rfl (by decide +kernel) ⟨Nat.le_of_ble_eq_true rfl, Nat.le_of_ble_eq_true rfl⟩) dX5_setRooms_20 rfl (Nat.le_of_ble_eq_true rfl) ⟨Nat.le_of_ble_eq_true rfl, Nat.le_of_ble_eq_true rfl⟩ rfl ?_
  refine hl_aload_n h 0 dX5_setRooms_23 rfl ?_
  refine hl_get h hi5 hl_wc_0 rfl 0 rfl dX5_setRooms_24 (by decide) (by decide +kernel) ?_
  refine hl_iload_n h 1 dX5_setRooms_27 rfl ?_
  refine hl_iload_n h 2 dX5_setRooms_28 rfl ?_
  refine hl_iload_n h 3 dX5_setRooms_29 rfl ?_
  refine hl_iload h 4 dX5_setRooms_30 rfl ?_
  refine hl_callViD h (st := []) (c_X4_change l D cI cZ cJ a g x y n q (by with_reducible assumption) (by with_reducible assumption)) (cwV 4 h.2.2.2.2.1 gX5_setRooms_X4_change rfl rfl rfl (by decide +kernel) ⟨Nat.le_of_ble_eq_true rfl, Nat.le_of_ble_eq_true rfl⟩) hl_wc_1 rfl dX5_setRooms_32 rfl (Nat.le_of_ble_eq_true rfl) ⟨Nat.le_of_ble_eq_true rfl, Nat.le_of_ble_eq_true rfl⟩ rfl ?_
  refine hl_nmC (fun g16 e17 => ?_)
  exact hend dX5_setRooms_35 (fun h9 => nomatch h9) (by
    subst e17
    exact ⟨by rfl, (congrArg (hl_WC a cI cZ) (by rfl))⟩)

set_option maxHeartbeats 4000000 in
set_option maxRecDepth 100000 in
theorem c_X5_buyLinen (l : Launch) (D : va_G) (cI cZ cJ : ClassId) (a : Nat → Nat) (g : Nat → Nat → Int32) (x n : Int32) (h1 : vp_in x 4) (h3 : ¬ n < 1) (h4 : n ≤ 20) : hl_KI D (hl_ty cI cZ cJ) l yX5_buyLinen wsX5_buyLinen ({ frames := 1, cells := 0, slots := 0, locals := 22 } : Room) 0 0 [.ref (a 0), .int x, .int n] (hl_WC a cI cZ g) (fun r w => r = f_X2_addClean g x n 3 (x).toNatClampNeg ∧ w = hl_WC a cI cZ (f_X2_addClean g x n)) := by
  refine hl_KI_of (cc := cX5_buyLinen) (maxL := 3) .int rfl (fun _ => Or.inr rfl) (by decide) rfl (Nat.le_of_ble_eq_true rfl) ?_
  intro p e s m args below meth c A Q h hend
  have hi5 : ∀ z ∈ wsX50, z ∈ wsX5_buyLinen := by decide +kernel
  refine hl_ls (ls' := [(0, .ref (a 0)), (1, .int x), (2, .int n)]) rfl ?_
  refine hl_iload_n h 1 dX5_buyLinen_0 rfl ?_
  refine hl_callSvD h (st := []) (c_X5_checkInn l D cI cZ cJ a g x (by with_reducible assumption)) (va_cwS 1 h.2.2.2.2.1 gX5_buyLinen_X5_checkInn rfl rfl rfl (by decide +kernel) ⟨Nat.le_of_ble_eq_true rfl, Nat.le_of_ble_eq_true rfl⟩) dX5_buyLinen_1 rfl (Nat.le_of_ble_eq_true rfl) ⟨Nat.le_of_ble_eq_true rfl, Nat.le_of_ble_eq_true rfl⟩ rfl ?_
  refine hl_iload_n h 2 dX5_buyLinen_4 rfl ?_
  refine hl_iconst h 1 dX5_buyLinen_5 (by decide) ?_
  refine hl_bipush h 20 dX5_buyLinen_6 (by decide) ?_
  refine hl_callSvD h (st := []) (c_X5_checkRange l D cI cZ cJ a g n 1 20 (by with_reducible assumption) (by with_reducible assumption)) (va_cwS 3 h.2.2.2.2.1 gX5_buyLinen_X5_checkRange rfl rfl rfl (by decide +kernel) ⟨Nat.le_of_ble_eq_true rfl, Nat.le_of_ble_eq_true rfl⟩) dX5_buyLinen_8 rfl (Nat.le_of_ble_eq_true rfl) ⟨Nat.le_of_ble_eq_true rfl, Nat.le_of_ble_eq_true rfl⟩ rfl ?_
  refine hl_aload_n h 0 dX5_buyLinen_11 rfl ?_
  refine hl_get h hi5 hl_wc_0 rfl 1 rfl dX5_buyLinen_12 (by decide) (by decide +kernel) ?_
  refine hl_iload_n h 1 dX5_buyLinen_15 rfl ?_
  refine hl_iload_n h 2 dX5_buyLinen_16 rfl ?_
  refine hl_callViD h (st := []) (c_X2_addClean l D cI cZ cJ a g x n (by with_reducible assumption)) (cwV 2 h.2.2.2.2.1 gX5_buyLinen_X2_addClean rfl rfl rfl (by decide +kernel) ⟨Nat.le_of_ble_eq_true rfl, Nat.le_of_ble_eq_true rfl⟩) hl_wc_2 rfl dX5_buyLinen_17 rfl (Nat.le_of_ble_eq_true rfl) ⟨Nat.le_of_ble_eq_true rfl, Nat.le_of_ble_eq_true rfl⟩ rfl ?_
  refine hl_nmC (fun g10 e11 => ?_)
  exact hend dX5_buyLinen_20 (fun h9 => nomatch h9) (by
    subst e11
    exact ⟨by rfl, (congrArg (hl_WC a cI cZ) (by rfl))⟩)

set_option maxHeartbeats 4000000 in
set_option maxRecDepth 100000 in
theorem c_X5_setBroken (l : Launch) (D : va_G) (cI cZ cJ : ClassId) (a : Nat → Nat) (g : Nat → Nat → Int32) (x : Int32) (h1 : x = 0 ∨ x = 1) (h2 : g 8 0 = 0 ∨ g 8 0 = 1) : hl_KI D (hl_ty cI cZ cJ) l yX5_setBroken wsX5_setBroken ({ frames := 1, cells := 0, slots := 0, locals := 22 } : Room) 0 0 [.ref (a 0), .int x] (hl_WC a cI cZ g) (fun r w => r = g 8 0 ∧ w = hl_WC a cI cZ (hl_su g 8 (fun _ => x))) := by
  refine hl_KI_of (cc := cX5_setBroken) (maxL := 2) .boolean rfl (fun _ => Or.inl rfl) (by decide) rfl (Nat.le_of_ble_eq_true rfl) ?_
  intro p e s m args below meth c A Q h hend
  have hi5 : ∀ z ∈ wsX50, z ∈ wsX5_setBroken := by decide +kernel
  refine hl_ls (ls' := [(0, .ref (a 0)), (1, .int x)]) rfl ?_
  refine hl_aload_n h 0 dX5_setBroken_0 rfl ?_
  refine hl_get h hi5 hl_wc_0 rfl 1 rfl dX5_setBroken_1 (by decide) (by decide +kernel) ?_
  refine hl_iload_n h 1 dX5_setBroken_4 rfl ?_
  refine hl_callViD h (st := []) (c_X2_changeBroken l D cI cZ cJ a g x (by with_reducible assumption) (by with_reducible assumption)) (cwV 1 h.2.2.2.2.1 gX5_setBroken_X2_changeBroken rfl rfl rfl (by decide +kernel) ⟨Nat.le_of_ble_eq_true rfl, Nat.le_of_ble_eq_true rfl⟩) hl_wc_2 rfl dX5_setBroken_5 rfl (Nat.le_of_ble_eq_true rfl) ⟨Nat.le_of_ble_eq_true rfl, Nat.le_of_ble_eq_true rfl⟩ rfl ?_
  refine hl_nmC (fun g4 e5 => ?_)
  exact hend dX5_setBroken_8 (fun _ => h2) (by
    subst e5
    exact ⟨by rfl, (congrArg (hl_WC a cI cZ) (by rfl))⟩)

set_option maxHeartbeats 4000000 in
set_option maxRecDepth 100000 in
theorem c_X5_book (l : Launch) (D : va_G) (cI cZ cJ : ClassId) (a : Nat → Nat) (g : Nat → Nat → Int32) (x y z v : Int32) (N M : Nat) (ho : hl_ok g N M) (h1 : vp_in x 10) (h2 : vp_in y 4) (h3 : vp_in z 2) (h4 : ¬ v < g 23 0) (h5 : v ≤ g 23 0 + 10) (h6 : g 16 0 < 80) (h7 : ¬ r_X5_takesMore g N y z v = 0) : hl_KI D (hl_ty cI cZ cJ) l yX5_book wsX5_book ({ frames := 3, cells := 0, slots := 0, locals := 69 } : Room) 0 0 [.ref (a 0), .int x, .int y, .int z, .int v] (hl_WC a cI cZ g) (fun r w => r = g 16 0 ∧ w = hl_WC a cI cZ (f_X0_add g x y z v)) := by
  refine hl_KI_of (cc := cX5_book) (maxL := 5) .int rfl (fun _ => Or.inr rfl) (by decide) rfl (Nat.le_of_ble_eq_true rfl) ?_
  intro p e s m args below meth c A Q h hend
  have hi5 : ∀ z ∈ wsX50, z ∈ wsX5_book := by decide +kernel
  obtain ⟨hN, hc, hM, hm, hbk, hpt, hbr⟩ := id ho
  have h8 : vp_in (g 16 0) 80 := hl_in 80 rfl (by rw [hc]; exact nI_pos (by omega)) h6
  refine hl_ls (ls' := [(0, .ref (a 0)), (1, .int x), (2, .int y), (3, .int z), (4, .int v)]) rfl ?_
  refine hl_iload_n h 1 dX5_book_0 rfl ?_
  refine hl_callSvD h (st := []) (c_X5_checkGuest l D cI cZ cJ a g x (by with_reducible assumption)) (va_cwS 1 h.2.2.2.2.1 gX5_book_X5_checkGuest rfl rfl rfl (by decide +kernel) ⟨Nat.le_of_ble_eq_true rfl, Nat.le_of_ble_eq_true rfl⟩) dX5_book_1 rfl (Nat.le_of_ble_eq_true rfl) ⟨Nat.le_of_ble_eq_true rfl, Nat.le_of_ble_eq_true rfl⟩ rfl ?_
  refine hl_iload_n h 2 dX5_book_4 rfl ?_
  refine hl_callSvD h (st := []) (c_X5_checkInn l D cI cZ cJ a g y (by with_reducible assumption)) (va_cwS 1 h.2.2.2.2.1 gX5_book_X5_checkInn rfl rfl rfl (by decide +kernel) ⟨Nat.le_of_ble_eq_true rfl, Nat.le_of_ble_eq_true rfl⟩) dX5_book_5 rfl (Nat.le_of_ble_eq_true rfl) ⟨Nat.le_of_ble_eq_true rfl, Nat.le_of_ble_eq_true rfl⟩ rfl ?_
  refine hl_iload_n h 3 dX5_book_8 rfl ?_
  refine hl_callSvD h (st := []) (c_X5_checkKind l D cI cZ cJ a g z (by with_reducible assumption)) (va_cwS 1 h.2.2.2.2.1 gX5_book_X5_checkKind rfl rfl rfl (by decide +kernel) ⟨Nat.le_of_ble_eq_true rfl, Nat.le_of_ble_eq_true rfl⟩) dX5_book_9 rfl (Nat.le_of_ble_eq_true rfl) ⟨Nat.le_of_ble_eq_true rfl, Nat.le_of_ble_eq_true rfl⟩ rfl ?_
  refine hl_iload h 4 dX5_book_12 rfl ?_
  refine hl_aload_n h 0 dX5_book_14 rfl ?_
  refine hl_get h hi5 hl_wc_0 rfl 5 rfl dX5_book_15 (by decide) (by decide +kernel) ?_
  refine hl_aload_n h 0 dX5_book_18 rfl ?_
  refine hl_get h hi5 hl_wc_0 rfl 5 rfl dX5_book_19 (by decide) (by decide +kernel) ?_
  refine hl_bipush h 10 dX5_book_22 (by decide) ?_
  refine hl_iadd h dX5_book_24 ?_
  refine hl_callSvD h (st := []) (c_X5_checkRange l D cI cZ cJ a g v (g 23 0) ((g 23 0) + 10) (by with_reducible assumption) (by with_reducible assumption)) (va_cwS 3 h.2.2.2.2.1 gX5_book_X5_checkRange rfl rfl rfl (by decide +kernel) ⟨Nat.le_of_ble_eq_true rfl, Nat.le_of_ble_eq_true rfl⟩) dX5_book_25 rfl (Nat.le_of_ble_eq_true rfl) ⟨Nat.le_of_ble_eq_true rfl, Nat.le_of_ble_eq_true rfl⟩ rfl ?_
  refine hl_aload_n h 0 dX5_book_28 rfl ?_
  refine hl_get h hi5 hl_wc_0 rfl 2 rfl dX5_book_29 (by decide) (by decide +kernel) ?_
  refine hl_callViD h (st := []) (c_X0_isFull l D cI cZ cJ a g) (cwV 0 h.2.2.2.2.1 gX5_book_X0_isFull rfl rfl rfl (by decide +kernel) ⟨Nat.le_of_ble_eq_true rfl, Nat.le_of_ble_eq_true rfl⟩) hl_wc_3 rfl dX5_book_32 rfl (Nat.le_of_ble_eq_true rfl) ⟨Nat.le_of_ble_eq_true rfl, Nat.le_of_ble_eq_true rfl⟩ rfl ?_
  refine hl_if_ne_F h 49 dX5_book_35 (by decide) (by rw [if_pos h6]) ?_
  refine hl_aload_n h 0 dX5_book_38 rfl ?_
  refine hl_iload_n h 2 dX5_book_39 rfl ?_
  refine hl_iload_n h 3 dX5_book_40 rfl ?_
  refine hl_iload h 4 dX5_book_41 rfl ?_
  refine hl_callViD h (st := []) (c_X5_takesMore l D cI cZ cJ a g y z v N M ho (by with_reducible assumption) (by with_reducible assumption)) (cwV 3 h.2.2.2.2.1 gX5_book_X5_takesMore rfl rfl rfl (by decide +kernel) ⟨Nat.le_of_ble_eq_true rfl, Nat.le_of_ble_eq_true rfl⟩) hl_wc_0 rfl dX5_book_43 rfl (Nat.le_of_ble_eq_true rfl) ⟨Nat.le_of_ble_eq_true rfl, Nat.le_of_ble_eq_true rfl⟩ rfl ?_
  refine hl_if_ne_T h 59 dX5_book_46 (by decide) h7 ?_
  refine hl_aload_n h 0 dX5_book_59 rfl ?_
  refine hl_get h hi5 hl_wc_0 rfl 2 rfl dX5_book_60 (by decide) (by decide +kernel) ?_
  refine hl_iload_n h 1 dX5_book_63 rfl ?_
  refine hl_iload_n h 2 dX5_book_64 rfl ?_
  refine hl_iload_n h 3 dX5_book_65 rfl ?_
  refine hl_iload h 4 dX5_book_66 rfl ?_
  refine hl_callViD h (st := []) (c_X0_add l D cI cZ cJ a g x y z v (by with_reducible assumption)) (cwV 4 h.2.2.2.2.1 gX5_book_X0_add rfl rfl rfl (by decide +kernel) ⟨Nat.le_of_ble_eq_true rfl, Nat.le_of_ble_eq_true rfl⟩) hl_wc_3 rfl dX5_book_68 rfl (Nat.le_of_ble_eq_true rfl) ⟨Nat.le_of_ble_eq_true rfl, Nat.le_of_ble_eq_true rfl⟩ rfl ?_
  refine hl_nmC (fun g22 e23 => ?_)
  exact hend dX5_book_71 (fun h9 => nomatch h9) (by
    subst e23
    exact ⟨by rfl, (congrArg (hl_WC a cI cZ) (by rfl))⟩)

set_option maxHeartbeats 4000000 in
set_option maxRecDepth 100000 in
theorem c_X5_come (l : Launch) (D : va_G) (cI cZ cJ : ClassId) (a : Nat → Nat) (g : Nat → Nat → Int32) (x : Int32) (N M : Nat) (ho : hl_ok g N M) (h1 : ¬ x < 0) (h2 : x < g 16 0) (h3 : g 13 x.toNatClampNeg = g 23 0) (h4 : g 14 x.toNatClampNeg = 0) : hl_KI D (hl_ty cI cZ cJ) l yX5_come wsX5_come ({ frames := 4, cells := 0, slots := 0, locals := 91 } : Room) 0 0 [.ref (a 0), .int x] (hl_WC a cI cZ g) (fun r w => r = r_X5_findInn g (g 11 x.toNatClampNeg) (g 12 x.toNatClampNeg) ∧ w = hl_WC a cI cZ (f_X5_come g x)) := by
  refine hl_KI_of (cc := cX5_come) (maxL := 3) .int rfl (fun _ => Or.inr rfl) (by decide) rfl (Nat.le_of_ble_eq_true rfl) ?_
  intro p e s m args below meth c A Q h hend
  have hi0 : ∀ z ∈ wsX00, z ∈ wsX5_come := by decide +kernel
  have hi5 : ∀ z ∈ wsX50, z ∈ wsX5_come := by decide +kernel
  obtain ⟨hN, hc, hM, hm, hbk, hpt, hbr⟩ := id ho
  have hxN : vp_in x N := by
    refine vp_in_iff.mpr ⟨?_, ?_⟩
    · exact Int.not_lt.mp (fun z => h1 (Int32.lt_iff_toInt_lt.mpr z))
    · have z := Int32.lt_iff_toInt_lt.mp h2
      rw [hc, nI_toInt (by omega)] at z
      exact z
  have hxn : x.toNatClampNeg < N := Nat.not_le.mp (fun z => hxN (Or.inr z))
  have hx80 : vp_in x 80 := fun z => hxN (z.elim Or.inl (fun z => Or.inr (by omega)))
  have hin : vp_in (g 11 x.toNatClampNeg) 4 := (hbk _ hxn).1
  have hkd : vp_in (g 12 x.toNatClampNeg) 2 := (hbk _ hxn).2
  refine hl_ls (ls' := [(0, .ref (a 0)), (1, .int x)]) rfl ?_
  refine hl_aload_n h 0 dX5_come_0 rfl ?_
  refine hl_iload_n h 1 dX5_come_1 rfl ?_
  refine hl_callVvD h (st := []) (c_X5_checkBooking l D cI cZ cJ a g x (by with_reducible assumption) (by with_reducible assumption)) (cwV 1 h.2.2.2.2.1 gX5_come_X5_checkBooking rfl rfl rfl (by decide +kernel) ⟨Nat.le_of_ble_eq_true rfl, Nat.le_of_ble_eq_true rfl⟩) hl_wc_0 rfl dX5_come_2 rfl (Nat.le_of_ble_eq_true rfl) ⟨Nat.le_of_ble_eq_true rfl, Nat.le_of_ble_eq_true rfl⟩ rfl ?_
  refine hl_aload_n h 0 dX5_come_5 rfl ?_
  refine hl_get h hi5 hl_wc_0 rfl 2 rfl dX5_come_6 (by decide) (by decide +kernel) ?_
  refine hl_get h hi0 hl_wc_3 rfl 3 rfl dX5_come_9 (by decide) (by decide +kernel) ?_
  refine hl_iload_n h 1 dX5_come_12 rfl ?_
  refine hl_ild h hl_wc_17 0 rfl dX5_come_13 (by with_reducible assumption) ?_
  refine hl_aload_n h 0 dX5_come_14 rfl ?_
  refine hl_get h hi5 hl_wc_0 rfl 5 rfl dX5_come_15 (by decide) (by decide +kernel) ?_
  refine hl_icmp_ne_F h 33 dX5_come_18 (by decide) h3 ?_
  refine hl_aload_n h 0 dX5_come_21 rfl ?_
  refine hl_get h hi5 hl_wc_0 rfl 2 rfl dX5_come_22 (by decide) (by decide +kernel) ?_
  refine hl_get h hi0 hl_wc_3 rfl 4 rfl dX5_come_25 (by decide) (by decide +kernel) ?_
  refine hl_iload_n h 1 dX5_come_28 rfl ?_
  refine hl_zld h hl_wc_18 1 rfl dX5_come_29 (by with_reducible assumption) ?_
  refine hl_if_eq_T h 43 dX5_come_30 (by decide) h4 ?_
  refine hl_aload_n h 0 dX5_come_43 rfl ?_
  refine hl_aload_n h 0 dX5_come_44 rfl ?_
  refine hl_get h hi5 hl_wc_0 rfl 2 rfl dX5_come_45 (by decide) (by decide +kernel) ?_
  refine hl_get h hi0 hl_wc_3 rfl 1 rfl dX5_come_48 (by decide) (by decide +kernel) ?_
  refine hl_iload_n h 1 dX5_come_51 rfl ?_
  refine hl_ild h hl_wc_15 0 rfl dX5_come_52 (by with_reducible assumption) ?_
  refine hl_aload_n h 0 dX5_come_53 rfl ?_
  refine hl_get h hi5 hl_wc_0 rfl 2 rfl dX5_come_54 (by decide) (by decide +kernel) ?_
  refine hl_get h hi0 hl_wc_3 rfl 2 rfl dX5_come_57 (by decide) (by decide +kernel) ?_
  refine hl_iload_n h 1 dX5_come_60 rfl ?_
  refine hl_ild h hl_wc_16 0 rfl dX5_come_61 (by with_reducible assumption) ?_
  refine hl_callViD h (st := []) (c_X5_findInn l D cI cZ cJ a g (g 11 x.toNatClampNeg) (g 12 x.toNatClampNeg) (by with_reducible assumption)) (cwV 2 h.2.2.2.2.1 gX5_come_X5_findInn rfl rfl rfl (by decide +kernel) ⟨Nat.le_of_ble_eq_true rfl, Nat.le_of_ble_eq_true rfl⟩) hl_wc_0 rfl dX5_come_62 rfl (Nat.le_of_ble_eq_true rfl) ⟨Nat.le_of_ble_eq_true rfl, Nat.le_of_ble_eq_true rfl⟩ rfl ?_
  refine hl_istore_n h [(2, .int (r_X5_findInn g (g 11 x.toNatClampNeg) (g 12 x.toNatClampNeg))), (0, .ref (a 0)), (1, .int x)] dX5_come_65 (by decide) rfl ?_
  refine hl_aload_n h 1 dX5_come_66 rfl ?_
  refine hl_get h hi5 hl_wc_0 rfl 2 rfl dX5_come_67 (by decide) (by decide +kernel) ?_
  refine hl_iload_n h 2 dX5_come_70 rfl ?_
  refine hl_iload_n h 0 dX5_come_71 rfl ?_
  refine hl_callVvD h (st := []) (c_X0_arrive l D cI cZ cJ a g x (r_X5_findInn g (g 11 x.toNatClampNeg) (g 12 x.toNatClampNeg)) (by with_reducible assumption)) (cwV 2 h.2.2.2.2.1 gX5_come_X0_arrive rfl rfl rfl (by decide +kernel) ⟨Nat.le_of_ble_eq_true rfl, Nat.le_of_ble_eq_true rfl⟩) hl_wc_3 rfl dX5_come_72 rfl (Nat.le_of_ble_eq_true rfl) ⟨Nat.le_of_ble_eq_true rfl, Nat.le_of_ble_eq_true rfl⟩ rfl ?_
  refine hl_nmC (fun g10 e11 => ?_)
  refine hl_iload_n h 0 dX5_come_75 rfl ?_
  refine hl_iconst h (-1) dX5_come_76 (by decide) ?_
  refine hl_icmp_eq h 86 dX5_come_77 (by decide) (fun c12 => ?_) (fun c12 => ?_)
  · refine hl_iload_n h 0 dX5_come_86 rfl ?_
    exact hend dX5_come_87 (fun h9 => nomatch h9) (by
      exact ⟨rfl, congrArg (hl_WC a cI cZ) (by rw [e11]; simp only [f_X5_come, if_pos c12])⟩)
  · have hv4 : vp_in (r_X5_findInn g (g 11 x.toNatClampNeg) (g 12 x.toNatClampNeg)) 4 := (hl_find_in g _ _).resolve_left c12
    have hv5 : vp_in (g10 11 x.toNatClampNeg) 4 := by rw [e11, fr_X0_arrive _ _ _ (by decide) (by decide)]; exact hin
    have hv6 : vp_in (g10 12 x.toNatClampNeg) 2 := by rw [e11, fr_X0_arrive _ _ _ (by decide) (by decide)]; exact hkd
    have hv7 : g10 20 0 = nI M := by rw [e11, fr_X0_arrive _ _ _ (by decide) (by decide)]; exact hm
    refine hl_aload_n h 1 dX5_come_80 rfl ?_
    refine hl_iload_n h 2 dX5_come_81 rfl ?_
    refine hl_iload_n h 0 dX5_come_82 rfl ?_
    refine hl_callVvD h (st := []) (c_X5_putUp l D cI cZ cJ a g10 x (r_X5_findInn g (g 11 x.toNatClampNeg) (g 12 x.toNatClampNeg)) (by with_reducible assumption) (by with_reducible assumption) (by with_reducible assumption) (by with_reducible assumption) M hM (by with_reducible assumption)) (cwV 2 h.2.2.2.2.1 gX5_come_X5_putUp rfl rfl rfl (by decide +kernel) ⟨Nat.le_of_ble_eq_true rfl, Nat.le_of_ble_eq_true rfl⟩) hl_wc_0 rfl dX5_come_83 rfl (Nat.le_of_ble_eq_true rfl) ⟨Nat.le_of_ble_eq_true rfl, Nat.le_of_ble_eq_true rfl⟩ rfl ?_
    refine hl_nmC (fun g16 e17 => ?_)
    refine hl_iload_n h 0 dX5_come_86 rfl ?_
    exact hend dX5_come_87 (fun h9 => nomatch h9) (by
      exact ⟨rfl, congrArg (hl_WC a cI cZ) (by rw [e17, e11]; simp only [f_X5_come, if_neg c12])⟩)

set_option maxHeartbeats 4000000 in
set_option maxRecDepth 100000 in
theorem c_X5_burn (l : Launch) (D : va_G) (cI cZ cJ : ClassId) (a : Nat → Nat) (g : Nat → Nat → Int32) (x y q : Int32) (N M : Nat) (ho : hl_ok g N M) (h1 : vp_in x 10) (h2 : vp_in y 4) (h3 : ¬ q < 1) (h4 : q ≤ 100) (h5 : q ≤ hl_it (b_X3_ofGuest g x) 0 M 0) : hl_KI D (hl_ty cI cZ cJ) l yX5_burn wsX5_burn ({ frames := 3, cells := 0, slots := 0, locals := 70 } : Room) 0 0 [.ref (a 0), .int x, .int y, .int q] (hl_WC a cI cZ g) (fun r w => r = hl_it (b_X3_ofGuest (f_X5_burnEarliest g M x y q) x) 0 M 0 ∧ w = hl_WC a cI cZ (f_X5_burnEarliest g M x y q)) := by
  refine hl_KI_of (cc := cX5_burn) (maxL := 4) .int rfl (fun _ => Or.inr rfl) (by decide) rfl (Nat.le_of_ble_eq_true rfl) ?_
  intro p e s m args below meth c A Q h hend
  have hi5 : ∀ z ∈ wsX50, z ∈ wsX5_burn := by decide +kernel
  obtain ⟨hN, hc, hM, hm, hbk, hpt, hbr⟩ := id ho
  refine hl_ls (ls' := [(0, .ref (a 0)), (1, .int x), (2, .int y), (3, .int q)]) rfl ?_
  refine hl_iload_n h 1 dX5_burn_0 rfl ?_
  refine hl_callSvD h (st := []) (c_X5_checkGuest l D cI cZ cJ a g x (by with_reducible assumption)) (va_cwS 1 h.2.2.2.2.1 gX5_burn_X5_checkGuest rfl rfl rfl (by decide +kernel) ⟨Nat.le_of_ble_eq_true rfl, Nat.le_of_ble_eq_true rfl⟩) dX5_burn_1 rfl (Nat.le_of_ble_eq_true rfl) ⟨Nat.le_of_ble_eq_true rfl, Nat.le_of_ble_eq_true rfl⟩ rfl ?_
  refine hl_iload_n h 2 dX5_burn_4 rfl ?_
  refine hl_callSvD h (st := []) (c_X5_checkInn l D cI cZ cJ a g y (by with_reducible assumption)) (va_cwS 1 h.2.2.2.2.1 gX5_burn_X5_checkInn rfl rfl rfl (by decide +kernel) ⟨Nat.le_of_ble_eq_true rfl, Nat.le_of_ble_eq_true rfl⟩) dX5_burn_5 rfl (Nat.le_of_ble_eq_true rfl) ⟨Nat.le_of_ble_eq_true rfl, Nat.le_of_ble_eq_true rfl⟩ rfl ?_
  refine hl_iload_n h 3 dX5_burn_8 rfl ?_
  refine hl_iconst h 1 dX5_burn_9 (by decide) ?_
  refine hl_bipush h 100 dX5_burn_10 (by decide) ?_
  refine hl_callSvD h (st := []) (c_X5_checkRange l D cI cZ cJ a g q 1 100 (by with_reducible assumption) (by with_reducible assumption)) (va_cwS 3 h.2.2.2.2.1 gX5_burn_X5_checkRange rfl rfl rfl (by decide +kernel) ⟨Nat.le_of_ble_eq_true rfl, Nat.le_of_ble_eq_true rfl⟩) dX5_burn_12 rfl (Nat.le_of_ble_eq_true rfl) ⟨Nat.le_of_ble_eq_true rfl, Nat.le_of_ble_eq_true rfl⟩ rfl ?_
  refine hl_aload_n h 0 dX5_burn_15 rfl ?_
  refine hl_get h hi5 hl_wc_0 rfl 3 rfl dX5_burn_16 (by decide) (by decide +kernel) ?_
  refine hl_iload_n h 1 dX5_burn_19 rfl ?_
  refine hl_callViD h (st := []) (c_X3_ofGuest l D cI cZ cJ a g x M hM (by with_reducible assumption)) (cwV 1 h.2.2.2.2.1 gX5_burn_X3_ofGuest rfl rfl rfl (by decide +kernel) ⟨Nat.le_of_ble_eq_true rfl, Nat.le_of_ble_eq_true rfl⟩) hl_wc_4 rfl dX5_burn_20 rfl (Nat.le_of_ble_eq_true rfl) ⟨Nat.le_of_ble_eq_true rfl, Nat.le_of_ble_eq_true rfl⟩ rfl ?_
  refine hl_iload_n h 3 dX5_burn_23 rfl ?_
  refine hl_icmp_ge_T h 37 dX5_burn_24 (by decide) h5 ?_
  refine hl_aload_n h 0 dX5_burn_37 rfl ?_
  refine hl_iload_n h 1 dX5_burn_38 rfl ?_
  refine hl_iload_n h 2 dX5_burn_39 rfl ?_
  refine hl_iload_n h 3 dX5_burn_40 rfl ?_
  refine hl_callVvD h (st := []) (c_X5_burnEarliest l D cI cZ cJ a g x y q N M ho (by with_reducible assumption)) (cwV 3 h.2.2.2.2.1 gX5_burn_X5_burnEarliest rfl rfl rfl (by decide +kernel) ⟨Nat.le_of_ble_eq_true rfl, Nat.le_of_ble_eq_true rfl⟩) hl_wc_0 rfl dX5_burn_41 rfl (Nat.le_of_ble_eq_true rfl) ⟨Nat.le_of_ble_eq_true rfl, Nat.le_of_ble_eq_true rfl⟩ rfl ?_
  refine hl_nmC (fun g16 e17 => ?_)
  have hm4 : g16 20 0 = nI M := by rw [e17, f_X5_burnEarliest, fr_X5_burnIt x y (by decide) (by decide)]; exact hm
  refine hl_aload_n h 0 dX5_burn_44 rfl ?_
  refine hl_get h hi5 hl_wc_0 rfl 3 rfl dX5_burn_45 (by decide) (by decide +kernel) ?_
  refine hl_iload_n h 1 dX5_burn_48 rfl ?_
  refine hl_callViD h (st := []) (c_X3_ofGuest l D cI cZ cJ a g16 x M hM (by with_reducible assumption)) (cwV 1 h.2.2.2.2.1 gX5_burn_X3_ofGuest rfl rfl rfl (by decide +kernel) ⟨Nat.le_of_ble_eq_true rfl, Nat.le_of_ble_eq_true rfl⟩) hl_wc_4 rfl dX5_burn_49 rfl (Nat.le_of_ble_eq_true rfl) ⟨Nat.le_of_ble_eq_true rfl, Nat.le_of_ble_eq_true rfl⟩ rfl ?_
  exact hend dX5_burn_52 (fun h9 => nomatch h9) (by
    subst e17
    exact ⟨by rfl, (congrArg (hl_WC a cI cZ) (by rfl))⟩)

set_option maxHeartbeats 4000000 in
set_option maxRecDepth 100000 in
theorem c_X5_night (l : Launch) (D : va_G) (cI cZ cJ : ClassId) (a : Nat → Nat) (g : Nat → Nat → Int32) (N M : Nat) (ho : hl_ok g N M) (h1 : g 23 0 < 300) : hl_KI D (hl_ty cI cZ cJ) l yX5_night wsX5_night ({ frames := 1, cells := 0, slots := 0, locals := 23 } : Room) 0 0 [.ref (a 0)] (hl_WC a cI cZ g) (fun r w => r = hl_it (b_X0_missedIn g (g 23 0)) 0 N 0 ∧ w = hl_WC a cI cZ (f_X5_night g)) := by
  refine hl_KI_of (cc := cX5_night) (maxL := 2) .int rfl (fun _ => Or.inr rfl) (by decide) rfl (Nat.le_of_ble_eq_true rfl) ?_
  intro p e s m args below meth c A Q h hend
  have hi5 : ∀ z ∈ wsX50, z ∈ wsX5_night := by decide +kernel
  obtain ⟨hN, hc, hM, hm, hbk, hpt, hbr⟩ := id ho
  refine hl_ls (ls' := [(0, .ref (a 0))]) rfl ?_
  refine hl_aload_n h 0 dX5_night_0 rfl ?_
  refine hl_get h hi5 hl_wc_0 rfl 5 rfl dX5_night_1 (by decide) (by decide +kernel) ?_
  refine hl_sipush h 300 dX5_night_4 (by decide) ?_
  refine hl_icmp_lt_T h 20 dX5_night_7 (by decide) h1 ?_
  refine hl_aload_n h 0 dX5_night_20 rfl ?_
  refine hl_get h hi5 hl_wc_0 rfl 2 rfl dX5_night_21 (by decide) (by decide +kernel) ?_
  refine hl_aload_n h 0 dX5_night_24 rfl ?_
  refine hl_get h hi5 hl_wc_0 rfl 5 rfl dX5_night_25 (by decide) (by decide +kernel) ?_
  refine hl_callViD h (st := []) (c_X0_missedIn l D cI cZ cJ a g (g 23 0) N hN (by with_reducible assumption)) (cwV 1 h.2.2.2.2.1 gX5_night_X0_missedIn rfl rfl rfl (by decide +kernel) ⟨Nat.le_of_ble_eq_true rfl, Nat.le_of_ble_eq_true rfl⟩) hl_wc_3 rfl dX5_night_28 rfl (Nat.le_of_ble_eq_true rfl) ⟨Nat.le_of_ble_eq_true rfl, Nat.le_of_ble_eq_true rfl⟩ rfl ?_
  refine hl_istore_n h [(1, .int (hl_it (b_X0_missedIn g (g 23 0)) 0 N 0)), (0, .ref (a 0))] dX5_night_31 (by decide) rfl ?_
  refine hl_aload_n h 1 dX5_night_32 rfl ?_
  refine hl_get h hi5 hl_wc_0 rfl 0 rfl dX5_night_33 (by decide) (by decide +kernel) ?_
  refine hl_callVvD h (st := []) (c_X4_endNight l D cI cZ cJ a g) (cwV 0 h.2.2.2.2.1 gX5_night_X4_endNight rfl rfl rfl (by decide +kernel) ⟨Nat.le_of_ble_eq_true rfl, Nat.le_of_ble_eq_true rfl⟩) hl_wc_1 rfl dX5_night_36 rfl (Nat.le_of_ble_eq_true rfl) ⟨Nat.le_of_ble_eq_true rfl, Nat.le_of_ble_eq_true rfl⟩ rfl ?_
  refine hl_nmC (fun g7 e8 => ?_)
  refine hl_aload_n h 1 dX5_night_39 rfl ?_
  refine hl_get h hi5 hl_wc_0 rfl 1 rfl dX5_night_40 (by decide) (by decide +kernel) ?_
  refine hl_callVvD h (st := []) (c_X2_endNight l D cI cZ cJ a g7) (cwV 0 h.2.2.2.2.1 gX5_night_X2_endNight rfl rfl rfl (by decide +kernel) ⟨Nat.le_of_ble_eq_true rfl, Nat.le_of_ble_eq_true rfl⟩) hl_wc_2 rfl dX5_night_43 rfl (Nat.le_of_ble_eq_true rfl) ⟨Nat.le_of_ble_eq_true rfl, Nat.le_of_ble_eq_true rfl⟩ rfl ?_
  refine hl_nmC (fun g12 e13 => ?_)
  refine hl_aload_n h 1 dX5_night_46 rfl ?_
  refine hl_dup h dX5_night_47 rfl ?_
  refine hl_get h hi5 hl_wc_0 rfl 5 rfl dX5_night_48 (by decide) (by decide +kernel) ?_
  refine hl_iconst h 1 dX5_night_51 (by decide) ?_
  refine hl_iadd h dX5_night_52 ?_
  refine hl_put h hi5 tyX5_ok nmX5 hl_wc_0 rfl 5 dX5_night_53 (by decide) (by decide +kernel) (by decide) rfl rfl (Nat.le_of_ble_eq_true rfl) hl_wc_s23 ?_
  refine hl_nmC (fun g14 e15 => ?_)
  refine hl_iload_n h 0 dX5_night_56 rfl ?_
  exact hend dX5_night_57 (fun h9 => nomatch h9) (by
    subst e15; subst e13; subst e8
    exact ⟨by rfl, (congrArg (hl_WC a cI cZ) (by rfl))⟩)

set_option maxHeartbeats 4000000 in
set_option maxRecDepth 100000 in
theorem c_X5_settle (l : Launch) (D : va_G) (cI cZ cJ : ClassId) (a : Nat → Nat) (g : Nat → Nat → Int32) : hl_KI D (hl_ty cI cZ cJ) l yX5_settle wsX5_settle ({ frames := 4, cells := 0, slots := 0, locals := 90 } : Room) 0 0 [.ref (a 0)] (hl_WC a cI cZ g) (fun r w => r = (hl_it b_X1_payAll 0 4 (g, 0)).2 ∧ w = hl_WC a cI cZ ((hl_it b_X1_payAll 0 4 (g, 0)).1)) := by
  refine hl_KI_of (cc := cX5_settle) (maxL := 1) .int rfl (fun _ => Or.inr rfl) (by decide) rfl (Nat.le_of_ble_eq_true rfl) ?_
  intro p e s m args below meth c A Q h hend
  have hi5 : ∀ z ∈ wsX50, z ∈ wsX5_settle := by decide +kernel
  refine hl_ls (ls' := [(0, .ref (a 0))]) rfl ?_
  refine hl_aload_n h 0 dX5_settle_0 rfl ?_
  refine hl_get h hi5 hl_wc_0 rfl 4 rfl dX5_settle_1 (by decide) (by decide +kernel) ?_
  refine hl_callViD h (st := []) (c_X1_payAll l D cI cZ cJ a g) (cwV 0 h.2.2.2.2.1 gX5_settle_X1_payAll rfl rfl rfl (by decide +kernel) ⟨Nat.le_of_ble_eq_true rfl, Nat.le_of_ble_eq_true rfl⟩) hl_wc_5 rfl dX5_settle_4 rfl (Nat.le_of_ble_eq_true rfl) ⟨Nat.le_of_ble_eq_true rfl, Nat.le_of_ble_eq_true rfl⟩ rfl ?_
  refine hl_nmC (fun g4 e5 => ?_)
  exact hend dX5_settle_7 (fun h9 => nomatch h9) (by
    subst e5
    exact ⟨by rfl, (congrArg (hl_WC a cI cZ) (by rfl))⟩)

set_option maxHeartbeats 4000000 in
set_option maxRecDepth 100000 in
theorem c_X5_today (l : Launch) (D : va_G) (cI cZ cJ : ClassId) (a : Nat → Nat) (g : Nat → Nat → Int32) : hl_KI D (hl_ty cI cZ cJ) l yX5_today wsX5_today ({ frames := 0, cells := 0, slots := 0, locals := 0 } : Room) 0 0 [.ref (a 0)] (hl_WC a cI cZ g) (fun r w => r = g 23 0 ∧ w = hl_WC a cI cZ g) := by
  refine hl_KI_of (cc := cX5_today) (maxL := 1) .int rfl (fun _ => Or.inr rfl) (by decide) rfl (Nat.le_of_ble_eq_true rfl) ?_
  intro p e s m args below meth c A Q h hend
  have hi5 : ∀ z ∈ wsX50, z ∈ wsX5_today := by decide +kernel
  refine hl_ls (ls' := [(0, .ref (a 0))]) rfl ?_
  refine hl_aload_n h 0 dX5_today_0 rfl ?_
  refine hl_get h hi5 hl_wc_0 rfl 5 rfl dX5_today_1 (by decide) (by decide +kernel) ?_
  exact hend dX5_today_4 (fun h9 => nomatch h9) (by
    exact ⟨by rfl, (congrArg (hl_WC a cI cZ) (by rfl))⟩)

set_option maxHeartbeats 4000000 in
set_option maxRecDepth 100000 in
theorem c_X5_bookings (l : Launch) (D : va_G) (cI cZ cJ : ClassId) (a : Nat → Nat) (g : Nat → Nat → Int32) : hl_KI D (hl_ty cI cZ cJ) l yX5_bookings wsX5_bookings ({ frames := 0, cells := 0, slots := 0, locals := 0 } : Room) 0 0 [.ref (a 0)] (hl_WC a cI cZ g) (fun r w => r = g 16 0 ∧ w = hl_WC a cI cZ g) := by
  refine hl_KI_of (cc := cX5_bookings) (maxL := 1) .int rfl (fun _ => Or.inr rfl) (by decide) rfl (Nat.le_of_ble_eq_true rfl) ?_
  intro p e s m args below meth c A Q h hend
  have hi0 : ∀ z ∈ wsX00, z ∈ wsX5_bookings := by decide +kernel
  have hi5 : ∀ z ∈ wsX50, z ∈ wsX5_bookings := by decide +kernel
  refine hl_ls (ls' := [(0, .ref (a 0))]) rfl ?_
  refine hl_aload_n h 0 dX5_bookings_0 rfl ?_
  refine hl_get h hi5 hl_wc_0 rfl 2 rfl dX5_bookings_1 (by decide) (by decide +kernel) ?_
  refine hl_get h hi0 hl_wc_3 rfl 6 rfl dX5_bookings_4 (by decide) (by decide +kernel) ?_
  exact hend dX5_bookings_7 (fun h9 => nomatch h9) (by
    exact ⟨by rfl, (congrArg (hl_WC a cI cZ) (by rfl))⟩)

set_option maxHeartbeats 4000000 in
set_option maxRecDepth 100000 in
theorem c_X5_free (l : Launch) (D : va_G) (cI cZ cJ : ClassId) (a : Nat → Nat) (g : Nat → Nat → Int32) (x y : Int32) (h1 : vp_in x 4) (h2 : vp_in y 2) : hl_KI D (hl_ty cI cZ cJ) l yX5_free wsX5_free ({ frames := 3, cells := 0, slots := 0, locals := 65 } : Room) 0 0 [.ref (a 0), .int x, .int y] (hl_WC a cI cZ g) (fun r w => r = r_X4_freeOf g x y ∧ w = hl_WC a cI cZ g) := by
  refine hl_KI_of (cc := cX5_free) (maxL := 3) .int rfl (fun _ => Or.inr rfl) (by decide) rfl (Nat.le_of_ble_eq_true rfl) ?_
  intro p e s m args below meth c A Q h hend
  have hi5 : ∀ z ∈ wsX50, z ∈ wsX5_free := by decide +kernel
  refine hl_ls (ls' := [(0, .ref (a 0)), (1, .int x), (2, .int y)]) rfl ?_
  refine hl_iload_n h 1 dX5_free_0 rfl ?_
  refine hl_callSvD h (st := []) (c_X5_checkInn l D cI cZ cJ a g x (by with_reducible assumption)) (va_cwS 1 h.2.2.2.2.1 gX5_free_X5_checkInn rfl rfl rfl (by decide +kernel) ⟨Nat.le_of_ble_eq_true rfl, Nat.le_of_ble_eq_true rfl⟩) dX5_free_1 rfl (Nat.le_of_ble_eq_true rfl) ⟨Nat.le_of_ble_eq_true rfl, Nat.le_of_ble_eq_true rfl⟩ rfl ?_
  refine hl_iload_n h 2 dX5_free_4 rfl ?_
  refine hl_callSvD h (st := []) (c_X5_checkKind l D cI cZ cJ a g y (by with_reducible assumption)) (va_cwS 1 h.2.2.2.2.1 gX5_free_X5_checkKind rfl rfl rfl (by decide +kernel) ⟨Nat.le_of_ble_eq_true rfl, Nat.le_of_ble_eq_true rfl⟩) dX5_free_5 rfl (Nat.le_of_ble_eq_true rfl) ⟨Nat.le_of_ble_eq_true rfl, Nat.le_of_ble_eq_true rfl⟩ rfl ?_
  refine hl_aload_n h 0 dX5_free_8 rfl ?_
  refine hl_get h hi5 hl_wc_0 rfl 0 rfl dX5_free_9 (by decide) (by decide +kernel) ?_
  refine hl_iload_n h 1 dX5_free_12 rfl ?_
  refine hl_iload_n h 2 dX5_free_13 rfl ?_
  refine hl_callViD h (st := []) (c_X4_freeOf l D cI cZ cJ a g x y (by with_reducible assumption) (by with_reducible assumption)) (cwV 2 h.2.2.2.2.1 gX5_free_X4_freeOf rfl rfl rfl (by decide +kernel) ⟨Nat.le_of_ble_eq_true rfl, Nat.le_of_ble_eq_true rfl⟩) hl_wc_1 rfl dX5_free_14 rfl (Nat.le_of_ble_eq_true rfl) ⟨Nat.le_of_ble_eq_true rfl, Nat.le_of_ble_eq_true rfl⟩ rfl ?_
  exact hend dX5_free_17 (fun h9 => nomatch h9) (by
    exact ⟨by rfl, (congrArg (hl_WC a cI cZ) (by rfl))⟩)

set_option maxHeartbeats 4000000 in
set_option maxRecDepth 100000 in
theorem c_X5_taken (l : Launch) (D : va_G) (cI cZ cJ : ClassId) (a : Nat → Nat) (g : Nat → Nat → Int32) (x y : Int32) (h1 : vp_in x 4) (h2 : vp_in y 2) : hl_KI D (hl_ty cI cZ cJ) l yX5_taken wsX5_taken ({ frames := 2, cells := 0, slots := 0, locals := 43 } : Room) 0 0 [.ref (a 0), .int x, .int y] (hl_WC a cI cZ g) (fun r w => r = g 2 (x * 2 + y).toNatClampNeg ∧ w = hl_WC a cI cZ g) := by
  refine hl_KI_of (cc := cX5_taken) (maxL := 3) .int rfl (fun _ => Or.inr rfl) (by decide) rfl (Nat.le_of_ble_eq_true rfl) ?_
  intro p e s m args below meth c A Q h hend
  have hi5 : ∀ z ∈ wsX50, z ∈ wsX5_taken := by decide +kernel
  refine hl_ls (ls' := [(0, .ref (a 0)), (1, .int x), (2, .int y)]) rfl ?_
  refine hl_iload_n h 1 dX5_taken_0 rfl ?_
  refine hl_callSvD h (st := []) (c_X5_checkInn l D cI cZ cJ a g x (by with_reducible assumption)) (va_cwS 1 h.2.2.2.2.1 gX5_taken_X5_checkInn rfl rfl rfl (by decide +kernel) ⟨Nat.le_of_ble_eq_true rfl, Nat.le_of_ble_eq_true rfl⟩) dX5_taken_1 rfl (Nat.le_of_ble_eq_true rfl) ⟨Nat.le_of_ble_eq_true rfl, Nat.le_of_ble_eq_true rfl⟩ rfl ?_
  refine hl_iload_n h 2 dX5_taken_4 rfl ?_
  refine hl_callSvD h (st := []) (c_X5_checkKind l D cI cZ cJ a g y (by with_reducible assumption)) (va_cwS 1 h.2.2.2.2.1 gX5_taken_X5_checkKind rfl rfl rfl (by decide +kernel) ⟨Nat.le_of_ble_eq_true rfl, Nat.le_of_ble_eq_true rfl⟩) dX5_taken_5 rfl (Nat.le_of_ble_eq_true rfl) ⟨Nat.le_of_ble_eq_true rfl, Nat.le_of_ble_eq_true rfl⟩ rfl ?_
  refine hl_aload_n h 0 dX5_taken_8 rfl ?_
  refine hl_get h hi5 hl_wc_0 rfl 0 rfl dX5_taken_9 (by decide) (by decide +kernel) ?_
  refine hl_iload_n h 1 dX5_taken_12 rfl ?_
  refine hl_iload_n h 2 dX5_taken_13 rfl ?_
  refine hl_callViD h (st := []) (c_X4_sleepersOf l D cI cZ cJ a g x y (by with_reducible assumption) (by with_reducible assumption)) (cwV 2 h.2.2.2.2.1 gX5_taken_X4_sleepersOf rfl rfl rfl (by decide +kernel) ⟨Nat.le_of_ble_eq_true rfl, Nat.le_of_ble_eq_true rfl⟩) hl_wc_1 rfl dX5_taken_14 rfl (Nat.le_of_ble_eq_true rfl) ⟨Nat.le_of_ble_eq_true rfl, Nat.le_of_ble_eq_true rfl⟩ rfl ?_
  exact hend dX5_taken_17 (fun h9 => nomatch h9) (by
    exact ⟨by rfl, (congrArg (hl_WC a cI cZ) (by rfl))⟩)

set_option maxHeartbeats 4000000 in
set_option maxRecDepth 100000 in
theorem c_X5_takenByBookings (l : Launch) (D : va_G) (cI cZ cJ : ClassId) (a : Nat → Nat) (g : Nat → Nat → Int32) (x y : Int32) (N M : Nat) (ho : hl_ok g N M) (h1 : vp_in x 4) (h2 : vp_in y 2) : hl_KI D (hl_ty cI cZ cJ) l yX5_takenByBookings wsX5_takenByBookings ({ frames := 1, cells := 0, slots := 0, locals := 25 } : Room) 0 0 [.ref (a 0), .int x, .int y] (hl_WC a cI cZ g) (fun r w => r = hl_it (b_X0_sleepersAt g x y (g 23 0)) 0 N 0 ∧ w = hl_WC a cI cZ g) := by
  refine hl_KI_of (cc := cX5_takenByBookings) (maxL := 3) .int rfl (fun _ => Or.inr rfl) (by decide) rfl (Nat.le_of_ble_eq_true rfl) ?_
  intro p e s m args below meth c A Q h hend
  have hi5 : ∀ z ∈ wsX50, z ∈ wsX5_takenByBookings := by decide +kernel
  obtain ⟨hN, hc, hM, hm, hbk, hpt, hbr⟩ := id ho
  refine hl_ls (ls' := [(0, .ref (a 0)), (1, .int x), (2, .int y)]) rfl ?_
  refine hl_iload_n h 1 dX5_takenByBookings_0 rfl ?_
  refine hl_callSvD h (st := []) (c_X5_checkInn l D cI cZ cJ a g x (by with_reducible assumption)) (va_cwS 1 h.2.2.2.2.1 gX5_takenByBookings_X5_checkInn rfl rfl rfl (by decide +kernel) ⟨Nat.le_of_ble_eq_true rfl, Nat.le_of_ble_eq_true rfl⟩) dX5_takenByBookings_1 rfl (Nat.le_of_ble_eq_true rfl) ⟨Nat.le_of_ble_eq_true rfl, Nat.le_of_ble_eq_true rfl⟩ rfl ?_
  refine hl_iload_n h 2 dX5_takenByBookings_4 rfl ?_
  refine hl_callSvD h (st := []) (c_X5_checkKind l D cI cZ cJ a g y (by with_reducible assumption)) (va_cwS 1 h.2.2.2.2.1 gX5_takenByBookings_X5_checkKind rfl rfl rfl (by decide +kernel) ⟨Nat.le_of_ble_eq_true rfl, Nat.le_of_ble_eq_true rfl⟩) dX5_takenByBookings_5 rfl (Nat.le_of_ble_eq_true rfl) ⟨Nat.le_of_ble_eq_true rfl, Nat.le_of_ble_eq_true rfl⟩ rfl ?_
  refine hl_aload_n h 0 dX5_takenByBookings_8 rfl ?_
  refine hl_get h hi5 hl_wc_0 rfl 2 rfl dX5_takenByBookings_9 (by decide) (by decide +kernel) ?_
  refine hl_iload_n h 1 dX5_takenByBookings_12 rfl ?_
  refine hl_iload_n h 2 dX5_takenByBookings_13 rfl ?_
  refine hl_aload_n h 0 dX5_takenByBookings_14 rfl ?_
  refine hl_get h hi5 hl_wc_0 rfl 5 rfl dX5_takenByBookings_15 (by decide) (by decide +kernel) ?_
  refine hl_callViD h (st := []) (c_X0_sleepersAt l D cI cZ cJ a g x y (g 23 0) N hN (by with_reducible assumption)) (cwV 3 h.2.2.2.2.1 gX5_takenByBookings_X0_sleepersAt rfl rfl rfl (by decide +kernel) ⟨Nat.le_of_ble_eq_true rfl, Nat.le_of_ble_eq_true rfl⟩) hl_wc_3 rfl dX5_takenByBookings_18 rfl (Nat.le_of_ble_eq_true rfl) ⟨Nat.le_of_ble_eq_true rfl, Nat.le_of_ble_eq_true rfl⟩ rfl ?_
  exact hend dX5_takenByBookings_21 (fun h9 => nomatch h9) (by
    exact ⟨by rfl, (congrArg (hl_WC a cI cZ) (by rfl))⟩)

set_option maxHeartbeats 4000000 in
set_option maxRecDepth 100000 in
theorem c_X5_extra (l : Launch) (D : va_G) (cI cZ cJ : ClassId) (a : Nat → Nat) (g : Nat → Nat → Int32) (x : Int32) (N M : Nat) (ho : hl_ok g N M) (h1 : vp_in x 4) : hl_KI D (hl_ty cI cZ cJ) l yX5_extra wsX5_extra ({ frames := 2, cells := 0, slots := 0, locals := 46 } : Room) 0 0 [.ref (a 0), .int x] (hl_WC a cI cZ g) (fun r w => r = r_X5_extraOf g N x ∧ w = hl_WC a cI cZ g) := by
  refine hl_KI_of (cc := cX5_extra) (maxL := 2) .int rfl (fun _ => Or.inr rfl) (by decide) rfl (Nat.le_of_ble_eq_true rfl) ?_
  intro p e s m args below meth c A Q h hend
  refine hl_ls (ls' := [(0, .ref (a 0)), (1, .int x)]) rfl ?_
  refine hl_iload_n h 1 dX5_extra_0 rfl ?_
  refine hl_callSvD h (st := []) (c_X5_checkInn l D cI cZ cJ a g x (by with_reducible assumption)) (va_cwS 1 h.2.2.2.2.1 gX5_extra_X5_checkInn rfl rfl rfl (by decide +kernel) ⟨Nat.le_of_ble_eq_true rfl, Nat.le_of_ble_eq_true rfl⟩) dX5_extra_1 rfl (Nat.le_of_ble_eq_true rfl) ⟨Nat.le_of_ble_eq_true rfl, Nat.le_of_ble_eq_true rfl⟩ rfl ?_
  refine hl_aload_n h 0 dX5_extra_4 rfl ?_
  refine hl_iload_n h 1 dX5_extra_5 rfl ?_
  refine hl_callViD h (st := []) (c_X5_extraOf l D cI cZ cJ a g x N M ho) (cwV 1 h.2.2.2.2.1 gX5_extra_X5_extraOf rfl rfl rfl (by decide +kernel) ⟨Nat.le_of_ble_eq_true rfl, Nat.le_of_ble_eq_true rfl⟩) hl_wc_0 rfl dX5_extra_6 rfl (Nat.le_of_ble_eq_true rfl) ⟨Nat.le_of_ble_eq_true rfl, Nat.le_of_ble_eq_true rfl⟩ rfl ?_
  exact hend dX5_extra_9 (fun h9 => nomatch h9) (by
    exact ⟨by rfl, (congrArg (hl_WC a cI cZ) (by rfl))⟩)

set_option maxHeartbeats 4000000 in
set_option maxRecDepth 100000 in
theorem c_X5_clean (l : Launch) (D : va_G) (cI cZ cJ : ClassId) (a : Nat → Nat) (g : Nat → Nat → Int32) (x : Int32) (h1 : vp_in x 4) : hl_KI D (hl_ty cI cZ cJ) l yX5_clean wsX5_clean ({ frames := 1, cells := 0, slots := 0, locals := 20 } : Room) 0 0 [.ref (a 0), .int x] (hl_WC a cI cZ g) (fun r w => r = g 3 x.toNatClampNeg ∧ w = hl_WC a cI cZ g) := by
  refine hl_KI_of (cc := cX5_clean) (maxL := 2) .int rfl (fun _ => Or.inr rfl) (by decide) rfl (Nat.le_of_ble_eq_true rfl) ?_
  intro p e s m args below meth c A Q h hend
  have hi2 : ∀ z ∈ wsX20, z ∈ wsX5_clean := by decide +kernel
  have hi5 : ∀ z ∈ wsX50, z ∈ wsX5_clean := by decide +kernel
  refine hl_ls (ls' := [(0, .ref (a 0)), (1, .int x)]) rfl ?_
  refine hl_iload_n h 1 dX5_clean_0 rfl ?_
  refine hl_callSvD h (st := []) (c_X5_checkInn l D cI cZ cJ a g x (by with_reducible assumption)) (va_cwS 1 h.2.2.2.2.1 gX5_clean_X5_checkInn rfl rfl rfl (by decide +kernel) ⟨Nat.le_of_ble_eq_true rfl, Nat.le_of_ble_eq_true rfl⟩) dX5_clean_1 rfl (Nat.le_of_ble_eq_true rfl) ⟨Nat.le_of_ble_eq_true rfl, Nat.le_of_ble_eq_true rfl⟩ rfl ?_
  refine hl_aload_n h 0 dX5_clean_4 rfl ?_
  refine hl_get h hi5 hl_wc_0 rfl 1 rfl dX5_clean_5 (by decide) (by decide +kernel) ?_
  refine hl_get h hi2 hl_wc_2 rfl 0 rfl dX5_clean_8 (by decide) (by decide +kernel) ?_
  refine hl_iload_n h 1 dX5_clean_11 rfl ?_
  refine hl_ild h hl_wc_9 0 rfl dX5_clean_12 (by with_reducible assumption) ?_
  exact hend dX5_clean_13 (fun h9 => nomatch h9) (by
    exact ⟨by rfl, (congrArg (hl_WC a cI cZ) (by rfl))⟩)

set_option maxHeartbeats 4000000 in
set_option maxRecDepth 100000 in
theorem c_X5_away (l : Launch) (D : va_G) (cI cZ cJ : ClassId) (a : Nat → Nat) (g : Nat → Nat → Int32) (x : Int32) (h1 : vp_in x 4) : hl_KI D (hl_ty cI cZ cJ) l yX5_away wsX5_away ({ frames := 1, cells := 0, slots := 0, locals := 21 } : Room) 0 0 [.ref (a 0), .int x] (hl_WC a cI cZ g) (fun r w => r = r_X2_awayOf g x ∧ w = hl_WC a cI cZ g) := by
  refine hl_KI_of (cc := cX5_away) (maxL := 2) .int rfl (fun _ => Or.inr rfl) (by decide) rfl (Nat.le_of_ble_eq_true rfl) ?_
  intro p e s m args below meth c A Q h hend
  have hi5 : ∀ z ∈ wsX50, z ∈ wsX5_away := by decide +kernel
  refine hl_ls (ls' := [(0, .ref (a 0)), (1, .int x)]) rfl ?_
  refine hl_iload_n h 1 dX5_away_0 rfl ?_
  refine hl_callSvD h (st := []) (c_X5_checkInn l D cI cZ cJ a g x (by with_reducible assumption)) (va_cwS 1 h.2.2.2.2.1 gX5_away_X5_checkInn rfl rfl rfl (by decide +kernel) ⟨Nat.le_of_ble_eq_true rfl, Nat.le_of_ble_eq_true rfl⟩) dX5_away_1 rfl (Nat.le_of_ble_eq_true rfl) ⟨Nat.le_of_ble_eq_true rfl, Nat.le_of_ble_eq_true rfl⟩ rfl ?_
  refine hl_aload_n h 0 dX5_away_4 rfl ?_
  refine hl_get h hi5 hl_wc_0 rfl 1 rfl dX5_away_5 (by decide) (by decide +kernel) ?_
  refine hl_iload_n h 1 dX5_away_8 rfl ?_
  refine hl_callViD h (st := []) (c_X2_awayOf l D cI cZ cJ a g x (by with_reducible assumption)) (cwV 1 h.2.2.2.2.1 gX5_away_X2_awayOf rfl rfl rfl (by decide +kernel) ⟨Nat.le_of_ble_eq_true rfl, Nat.le_of_ble_eq_true rfl⟩) hl_wc_2 rfl dX5_away_9 rfl (Nat.le_of_ble_eq_true rfl) ⟨Nat.le_of_ble_eq_true rfl, Nat.le_of_ble_eq_true rfl⟩ rfl ?_
  exact hend dX5_away_12 (fun h9 => nomatch h9) (by
    exact ⟨by rfl, (congrArg (hl_WC a cI cZ) (by rfl))⟩)

set_option maxHeartbeats 4000000 in
set_option maxRecDepth 100000 in
theorem c_X5_sleeps (l : Launch) (D : va_G) (cI cZ cJ : ClassId) (a : Nat → Nat) (g : Nat → Nat → Int32) (x : Int32) (N M : Nat) (ho : hl_ok g N M) (h1 : ¬ x < 0) (h2 : x < g 16 0) : hl_KI D (hl_ty cI cZ cJ) l yX5_sleeps wsX5_sleeps ({ frames := 1, cells := 0, slots := 0, locals := 21 } : Room) 0 0 [.ref (a 0), .int x] (hl_WC a cI cZ g) (fun r w => r = g 15 x.toNatClampNeg ∧ w = hl_WC a cI cZ g) := by
  refine hl_KI_of (cc := cX5_sleeps) (maxL := 2) .int rfl (fun _ => Or.inr rfl) (by decide) rfl (Nat.le_of_ble_eq_true rfl) ?_
  intro p e s m args below meth c A Q h hend
  have hi0 : ∀ z ∈ wsX00, z ∈ wsX5_sleeps := by decide +kernel
  have hi5 : ∀ z ∈ wsX50, z ∈ wsX5_sleeps := by decide +kernel
  obtain ⟨hN, hc, hM, hm, hbk, hpt, hbr⟩ := id ho
  have hxN : vp_in x N := by
    refine vp_in_iff.mpr ⟨?_, ?_⟩
    · exact Int.not_lt.mp (fun z => h1 (Int32.lt_iff_toInt_lt.mpr z))
    · have z := Int32.lt_iff_toInt_lt.mp h2
      rw [hc, nI_toInt (by omega)] at z
      exact z
  have hxn : x.toNatClampNeg < N := Nat.not_le.mp (fun z => hxN (Or.inr z))
  have hx80 : vp_in x 80 := fun z => hxN (z.elim Or.inl (fun z => Or.inr (by omega)))
  have hin : vp_in (g 11 x.toNatClampNeg) 4 := (hbk _ hxn).1
  have hkd : vp_in (g 12 x.toNatClampNeg) 2 := (hbk _ hxn).2
  refine hl_ls (ls' := [(0, .ref (a 0)), (1, .int x)]) rfl ?_
  refine hl_aload_n h 0 dX5_sleeps_0 rfl ?_
  refine hl_iload_n h 1 dX5_sleeps_1 rfl ?_
  refine hl_callVvD h (st := []) (c_X5_checkBooking l D cI cZ cJ a g x (by with_reducible assumption) (by with_reducible assumption)) (cwV 1 h.2.2.2.2.1 gX5_sleeps_X5_checkBooking rfl rfl rfl (by decide +kernel) ⟨Nat.le_of_ble_eq_true rfl, Nat.le_of_ble_eq_true rfl⟩) hl_wc_0 rfl dX5_sleeps_2 rfl (Nat.le_of_ble_eq_true rfl) ⟨Nat.le_of_ble_eq_true rfl, Nat.le_of_ble_eq_true rfl⟩ rfl ?_
  refine hl_aload_n h 0 dX5_sleeps_5 rfl ?_
  refine hl_get h hi5 hl_wc_0 rfl 2 rfl dX5_sleeps_6 (by decide) (by decide +kernel) ?_
  refine hl_get h hi0 hl_wc_3 rfl 5 rfl dX5_sleeps_9 (by decide) (by decide +kernel) ?_
  refine hl_iload_n h 1 dX5_sleeps_12 rfl ?_
  refine hl_ild h hl_wc_19 0 rfl dX5_sleeps_13 (by with_reducible assumption) ?_
  exact hend dX5_sleeps_14 (fun h9 => nomatch h9) (by
    exact ⟨by rfl, (congrArg (hl_WC a cI cZ) (by rfl))⟩)

set_option maxHeartbeats 4000000 in
set_option maxRecDepth 100000 in
theorem c_X5_points (l : Launch) (D : va_G) (cI cZ cJ : ClassId) (a : Nat → Nat) (g : Nat → Nat → Int32) (x : Int32) (N M : Nat) (ho : hl_ok g N M) (h1 : vp_in x 10) : hl_KI D (hl_ty cI cZ cJ) l yX5_points wsX5_points ({ frames := 1, cells := 0, slots := 0, locals := 23 } : Room) 0 0 [.ref (a 0), .int x] (hl_WC a cI cZ g) (fun r w => r = hl_it (b_X3_ofGuest g x) 0 M 0 ∧ w = hl_WC a cI cZ g) := by
  refine hl_KI_of (cc := cX5_points) (maxL := 2) .int rfl (fun _ => Or.inr rfl) (by decide) rfl (Nat.le_of_ble_eq_true rfl) ?_
  intro p e s m args below meth c A Q h hend
  have hi5 : ∀ z ∈ wsX50, z ∈ wsX5_points := by decide +kernel
  obtain ⟨hN, hc, hM, hm, hbk, hpt, hbr⟩ := id ho
  refine hl_ls (ls' := [(0, .ref (a 0)), (1, .int x)]) rfl ?_
  refine hl_iload_n h 1 dX5_points_0 rfl ?_
  refine hl_callSvD h (st := []) (c_X5_checkGuest l D cI cZ cJ a g x (by with_reducible assumption)) (va_cwS 1 h.2.2.2.2.1 gX5_points_X5_checkGuest rfl rfl rfl (by decide +kernel) ⟨Nat.le_of_ble_eq_true rfl, Nat.le_of_ble_eq_true rfl⟩) dX5_points_1 rfl (Nat.le_of_ble_eq_true rfl) ⟨Nat.le_of_ble_eq_true rfl, Nat.le_of_ble_eq_true rfl⟩ rfl ?_
  refine hl_aload_n h 0 dX5_points_4 rfl ?_
  refine hl_get h hi5 hl_wc_0 rfl 3 rfl dX5_points_5 (by decide) (by decide +kernel) ?_
  refine hl_iload_n h 1 dX5_points_8 rfl ?_
  refine hl_callViD h (st := []) (c_X3_ofGuest l D cI cZ cJ a g x M hM (by with_reducible assumption)) (cwV 1 h.2.2.2.2.1 gX5_points_X3_ofGuest rfl rfl rfl (by decide +kernel) ⟨Nat.le_of_ble_eq_true rfl, Nat.le_of_ble_eq_true rfl⟩) hl_wc_4 rfl dX5_points_9 rfl (Nat.le_of_ble_eq_true rfl) ⟨Nat.le_of_ble_eq_true rfl, Nat.le_of_ble_eq_true rfl⟩ rfl ?_
  exact hend dX5_points_12 (fun h9 => nomatch h9) (by
    exact ⟨by rfl, (congrArg (hl_WC a cI cZ) (by rfl))⟩)

set_option maxHeartbeats 4000000 in
set_option maxRecDepth 100000 in
theorem c_X5_owes (l : Launch) (D : va_G) (cI cZ cJ : ClassId) (a : Nat → Nat) (g : Nat → Nat → Int32) (x y : Int32) (h1 : vp_in x 4) (h2 : vp_in y 4) : hl_KI D (hl_ty cI cZ cJ) l yX5_owes wsX5_owes ({ frames := 2, cells := 0, slots := 0, locals := 43 } : Room) 0 0 [.ref (a 0), .int x, .int y] (hl_WC a cI cZ g) (fun r w => r = r_X1_between g x y ∧ w = hl_WC a cI cZ g) := by
  refine hl_KI_of (cc := cX5_owes) (maxL := 3) .int rfl (fun _ => Or.inr rfl) (by decide) rfl (Nat.le_of_ble_eq_true rfl) ?_
  intro p e s m args below meth c A Q h hend
  have hi5 : ∀ z ∈ wsX50, z ∈ wsX5_owes := by decide +kernel
  refine hl_ls (ls' := [(0, .ref (a 0)), (1, .int x), (2, .int y)]) rfl ?_
  refine hl_iload_n h 1 dX5_owes_0 rfl ?_
  refine hl_callSvD h (st := []) (c_X5_checkInn l D cI cZ cJ a g x (by with_reducible assumption)) (va_cwS 1 h.2.2.2.2.1 gX5_owes_X5_checkInn rfl rfl rfl (by decide +kernel) ⟨Nat.le_of_ble_eq_true rfl, Nat.le_of_ble_eq_true rfl⟩) dX5_owes_1 rfl (Nat.le_of_ble_eq_true rfl) ⟨Nat.le_of_ble_eq_true rfl, Nat.le_of_ble_eq_true rfl⟩ rfl ?_
  refine hl_iload_n h 2 dX5_owes_4 rfl ?_
  refine hl_callSvD h (st := []) (c_X5_checkInn l D cI cZ cJ a g y (by with_reducible assumption)) (va_cwS 1 h.2.2.2.2.1 gX5_owes_X5_checkInn rfl rfl rfl (by decide +kernel) ⟨Nat.le_of_ble_eq_true rfl, Nat.le_of_ble_eq_true rfl⟩) dX5_owes_5 rfl (Nat.le_of_ble_eq_true rfl) ⟨Nat.le_of_ble_eq_true rfl, Nat.le_of_ble_eq_true rfl⟩ rfl ?_
  refine hl_aload_n h 0 dX5_owes_8 rfl ?_
  refine hl_get h hi5 hl_wc_0 rfl 4 rfl dX5_owes_9 (by decide) (by decide +kernel) ?_
  refine hl_iload_n h 1 dX5_owes_12 rfl ?_
  refine hl_iload_n h 2 dX5_owes_13 rfl ?_
  refine hl_callViD h (st := []) (c_X1_between l D cI cZ cJ a g x y (by with_reducible assumption) (by with_reducible assumption)) (cwV 2 h.2.2.2.2.1 gX5_owes_X1_between rfl rfl rfl (by decide +kernel) ⟨Nat.le_of_ble_eq_true rfl, Nat.le_of_ble_eq_true rfl⟩) hl_wc_5 rfl dX5_owes_14 rfl (Nat.le_of_ble_eq_true rfl) ⟨Nat.le_of_ble_eq_true rfl, Nat.le_of_ble_eq_true rfl⟩ rfl ?_
  exact hend dX5_owes_17 (fun h9 => nomatch h9) (by
    exact ⟨by rfl, (congrArg (hl_WC a cI cZ) (by rfl))⟩)

set_option maxHeartbeats 4000000 in
set_option maxRecDepth 100000 in
theorem c_X5_purse (l : Launch) (D : va_G) (cI cZ cJ : ClassId) (a : Nat → Nat) (g : Nat → Nat → Int32) (x : Int32) (h1 : vp_in x 4) : hl_KI D (hl_ty cI cZ cJ) l yX5_purse wsX5_purse ({ frames := 1, cells := 0, slots := 0, locals := 20 } : Room) 0 0 [.ref (a 0), .int x] (hl_WC a cI cZ g) (fun r w => r = g 21 x.toNatClampNeg ∧ w = hl_WC a cI cZ g) := by
  refine hl_KI_of (cc := cX5_purse) (maxL := 2) .int rfl (fun _ => Or.inr rfl) (by decide) rfl (Nat.le_of_ble_eq_true rfl) ?_
  intro p e s m args below meth c A Q h hend
  have hi1 : ∀ z ∈ wsX10, z ∈ wsX5_purse := by decide +kernel
  have hi5 : ∀ z ∈ wsX50, z ∈ wsX5_purse := by decide +kernel
  refine hl_ls (ls' := [(0, .ref (a 0)), (1, .int x)]) rfl ?_
  refine hl_iload_n h 1 dX5_purse_0 rfl ?_
  refine hl_callSvD h (st := []) (c_X5_checkInn l D cI cZ cJ a g x (by with_reducible assumption)) (va_cwS 1 h.2.2.2.2.1 gX5_purse_X5_checkInn rfl rfl rfl (by decide +kernel) ⟨Nat.le_of_ble_eq_true rfl, Nat.le_of_ble_eq_true rfl⟩) dX5_purse_1 rfl (Nat.le_of_ble_eq_true rfl) ⟨Nat.le_of_ble_eq_true rfl, Nat.le_of_ble_eq_true rfl⟩ rfl ?_
  refine hl_aload_n h 0 dX5_purse_4 rfl ?_
  refine hl_get h hi5 hl_wc_0 rfl 4 rfl dX5_purse_5 (by decide) (by decide +kernel) ?_
  refine hl_get h hi1 hl_wc_5 rfl 0 rfl dX5_purse_8 (by decide) (by decide +kernel) ?_
  refine hl_iload_n h 1 dX5_purse_11 rfl ?_
  refine hl_ild h hl_wc_23 0 rfl dX5_purse_12 (by with_reducible assumption) ?_
  exact hend dX5_purse_13 (fun h9 => nomatch h9) (by
    exact ⟨by rfl, (congrArg (hl_WC a cI cZ) (by rfl))⟩)
