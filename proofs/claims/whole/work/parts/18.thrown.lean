set_option maxHeartbeats 4000000 in
set_option maxRecDepth 100000 in
theorem x_X5_checkInn (l : Launch) (D : va_G) (cI cZ cJ : ClassId) (a : Nat → Nat) (g : Nat → Nat → Int32) (hst : l.stackTraces = false) (x : Int32) (h1 : ¬ vp_in x 4) : hl_KT D (hl_ty cI cZ cJ) l yX5_checkInn wsX5_checkInn ({ frames := 6, cells := 1, slots := 6, locals := 82 } : Room) [.int x] (hl_WC a cI cZ g) hl_EI := by
  refine hl_KT_of (cc := cX5_checkInn) (maxL := 1) (ret := none) (by decide) rfl (Nat.le_of_ble_eq_true rfl) ?_
  intro p e s m args below meth c h hz het hlocks
  refine hl_ls (ls' := [(0, .int x)]) rfl ?_
  refine hl_iload_n h 0 dX5_checkInn_0 rfl ?_
  refine hl_if_lt h 9 dX5_checkInn_1 (by decide) (fun c1 => ?_) (fun c1 => ?_)
  · exact hl_throw h hz het hlocks hst hz.2.2.1.1 (hz.2.2.2.2.2 _ (List.mem_of_getElem? (i := 0) rfl)) (by decide +kernel) hl_g2I hl_g3I dX5_checkInn_9 dX5_checkInn_12 dX5_checkInn_13 dX5_checkInn_15 dX5_checkInn_18 (by decide +kernel) (by decide +kernel) (by intro z (hz9 : z ∈ (vx_atS RX5 178 "java/lang/IndexOutOfBoundsException" ["java/lang/RuntimeException", "java/lang/Exception"]).filter goodWord); simp only [wsX5_checkInn, List.mem_cons, List.mem_append, hz9, true_or, or_true]) (Nat.le_of_ble_eq_true rfl) (Nat.le_of_ble_eq_true rfl) (Nat.le_of_ble_eq_true rfl) (Nat.le_of_ble_eq_true rfl)
  · refine hl_iload_n h 0 dX5_checkInn_4 rfl ?_
    refine hl_iconst h 4 dX5_checkInn_5 (by decide) ?_
    refine hl_icmp_lt h 19 dX5_checkInn_6 (by decide) (fun c2 => ?_) (fun c2 => ?_)
    · exact absurd (hl_in 4 rfl c1 c2) h1
    · exact hl_throw h hz het hlocks hst hz.2.2.1.1 (hz.2.2.2.2.2 _ (List.mem_of_getElem? (i := 0) rfl)) (by decide +kernel) hl_g2I hl_g3I dX5_checkInn_9 dX5_checkInn_12 dX5_checkInn_13 dX5_checkInn_15 dX5_checkInn_18 (by decide +kernel) (by decide +kernel) (by intro z (hz9 : z ∈ (vx_atS RX5 178 "java/lang/IndexOutOfBoundsException" ["java/lang/RuntimeException", "java/lang/Exception"]).filter goodWord); simp only [wsX5_checkInn, List.mem_cons, List.mem_append, hz9, true_or, or_true]) (Nat.le_of_ble_eq_true rfl) (Nat.le_of_ble_eq_true rfl) (Nat.le_of_ble_eq_true rfl) (Nat.le_of_ble_eq_true rfl)

set_option maxHeartbeats 4000000 in
set_option maxRecDepth 100000 in
theorem x_X5_checkKind (l : Launch) (D : va_G) (cI cZ cJ : ClassId) (a : Nat → Nat) (g : Nat → Nat → Int32) (hst : l.stackTraces = false) (x : Int32) (h1 : ¬ vp_in x 2) : hl_KT D (hl_ty cI cZ cJ) l yX5_checkKind wsX5_checkKind ({ frames := 6, cells := 1, slots := 6, locals := 82 } : Room) [.int x] (hl_WC a cI cZ g) hl_EI := by
  refine hl_KT_of (cc := cX5_checkKind) (maxL := 1) (ret := none) (by decide) rfl (Nat.le_of_ble_eq_true rfl) ?_
  intro p e s m args below meth c h hz het hlocks
  refine hl_ls (ls' := [(0, .int x)]) rfl ?_
  refine hl_iload_n h 0 dX5_checkKind_0 rfl ?_
  refine hl_if_lt h 9 dX5_checkKind_1 (by decide) (fun c1 => ?_) (fun c1 => ?_)
  · exact hl_throw h hz het hlocks hst hz.2.2.1.1 (hz.2.2.2.2.2 _ (List.mem_of_getElem? (i := 1) rfl)) (by decide +kernel) hl_g2I hl_g3I dX5_checkKind_9 dX5_checkKind_12 dX5_checkKind_13 dX5_checkKind_15 dX5_checkKind_18 (by decide +kernel) (by decide +kernel) (by intro z (hz9 : z ∈ (vx_atS RX5 178 "java/lang/IndexOutOfBoundsException" ["java/lang/RuntimeException", "java/lang/Exception"]).filter goodWord); simp only [wsX5_checkKind, List.mem_cons, List.mem_append, hz9, true_or, or_true]) (Nat.le_of_ble_eq_true rfl) (Nat.le_of_ble_eq_true rfl) (Nat.le_of_ble_eq_true rfl) (Nat.le_of_ble_eq_true rfl)
  · refine hl_iload_n h 0 dX5_checkKind_4 rfl ?_
    refine hl_iconst h 2 dX5_checkKind_5 (by decide) ?_
    refine hl_icmp_lt h 19 dX5_checkKind_6 (by decide) (fun c2 => ?_) (fun c2 => ?_)
    · exact absurd (hl_in 2 rfl c1 c2) h1
    · exact hl_throw h hz het hlocks hst hz.2.2.1.1 (hz.2.2.2.2.2 _ (List.mem_of_getElem? (i := 1) rfl)) (by decide +kernel) hl_g2I hl_g3I dX5_checkKind_9 dX5_checkKind_12 dX5_checkKind_13 dX5_checkKind_15 dX5_checkKind_18 (by decide +kernel) (by decide +kernel) (by intro z (hz9 : z ∈ (vx_atS RX5 178 "java/lang/IndexOutOfBoundsException" ["java/lang/RuntimeException", "java/lang/Exception"]).filter goodWord); simp only [wsX5_checkKind, List.mem_cons, List.mem_append, hz9, true_or, or_true]) (Nat.le_of_ble_eq_true rfl) (Nat.le_of_ble_eq_true rfl) (Nat.le_of_ble_eq_true rfl) (Nat.le_of_ble_eq_true rfl)

set_option maxHeartbeats 4000000 in
set_option maxRecDepth 100000 in
theorem x_X5_checkGuest (l : Launch) (D : va_G) (cI cZ cJ : ClassId) (a : Nat → Nat) (g : Nat → Nat → Int32) (hst : l.stackTraces = false) (x : Int32) (h1 : ¬ vp_in x 10) : hl_KT D (hl_ty cI cZ cJ) l yX5_checkGuest wsX5_checkGuest ({ frames := 6, cells := 1, slots := 6, locals := 82 } : Room) [.int x] (hl_WC a cI cZ g) hl_EI := by
  refine hl_KT_of (cc := cX5_checkGuest) (maxL := 1) (ret := none) (by decide) rfl (Nat.le_of_ble_eq_true rfl) ?_
  intro p e s m args below meth c h hz het hlocks
  refine hl_ls (ls' := [(0, .int x)]) rfl ?_
  refine hl_iload_n h 0 dX5_checkGuest_0 rfl ?_
  refine hl_if_lt h 10 dX5_checkGuest_1 (by decide) (fun c1 => ?_) (fun c1 => ?_)
  · exact hl_throw h hz het hlocks hst hz.2.2.1.1 (hz.2.2.2.2.2 _ (List.mem_of_getElem? (i := 2) rfl)) (by decide +kernel) hl_g2I hl_g3I dX5_checkGuest_10 dX5_checkGuest_13 dX5_checkGuest_14 dX5_checkGuest_16 dX5_checkGuest_19 (by decide +kernel) (by decide +kernel) (by intro z (hz9 : z ∈ (vx_atS RX5 178 "java/lang/IndexOutOfBoundsException" ["java/lang/RuntimeException", "java/lang/Exception"]).filter goodWord); simp only [wsX5_checkGuest, List.mem_cons, List.mem_append, hz9, true_or, or_true]) (Nat.le_of_ble_eq_true rfl) (Nat.le_of_ble_eq_true rfl) (Nat.le_of_ble_eq_true rfl) (Nat.le_of_ble_eq_true rfl)
  · refine hl_iload_n h 0 dX5_checkGuest_4 rfl ?_
    refine hl_bipush h 10 dX5_checkGuest_5 (by decide) ?_
    refine hl_icmp_lt h 20 dX5_checkGuest_7 (by decide) (fun c2 => ?_) (fun c2 => ?_)
    · exact absurd (hl_in 10 rfl c1 c2) h1
    · exact hl_throw h hz het hlocks hst hz.2.2.1.1 (hz.2.2.2.2.2 _ (List.mem_of_getElem? (i := 2) rfl)) (by decide +kernel) hl_g2I hl_g3I dX5_checkGuest_10 dX5_checkGuest_13 dX5_checkGuest_14 dX5_checkGuest_16 dX5_checkGuest_19 (by decide +kernel) (by decide +kernel) (by intro z (hz9 : z ∈ (vx_atS RX5 178 "java/lang/IndexOutOfBoundsException" ["java/lang/RuntimeException", "java/lang/Exception"]).filter goodWord); simp only [wsX5_checkGuest, List.mem_cons, List.mem_append, hz9, true_or, or_true]) (Nat.le_of_ble_eq_true rfl) (Nat.le_of_ble_eq_true rfl) (Nat.le_of_ble_eq_true rfl) (Nat.le_of_ble_eq_true rfl)

set_option maxHeartbeats 4000000 in
set_option maxRecDepth 100000 in
theorem x_X5_checkBooking (l : Launch) (D : va_G) (cI cZ cJ : ClassId) (a : Nat → Nat) (g : Nat → Nat → Int32) (hst : l.stackTraces = false) (x : Int32) (h1 : ¬ (¬ x < 0 ∧ x < g 16 0)) : hl_KT D (hl_ty cI cZ cJ) l yX5_checkBooking wsX5_checkBooking ({ frames := 6, cells := 1, slots := 6, locals := 82 } : Room) [.ref (a 0), .int x] (hl_WC a cI cZ g) hl_EI := by
  refine hl_KT_of (cc := cX5_checkBooking) (maxL := 2) (ret := none) (by decide) rfl (Nat.le_of_ble_eq_true rfl) ?_
  intro p e s m args below meth c h hz het hlocks
  have hi0 : ∀ z ∈ wsX00, z ∈ wsX5_checkBooking := by decide +kernel
  have hi5 : ∀ z ∈ wsX50, z ∈ wsX5_checkBooking := by decide +kernel
  refine hl_ls (ls' := [(0, .ref (a 0)), (1, .int x)]) rfl ?_
  refine hl_iload_n h 1 dX5_checkBooking_0 rfl ?_
  refine hl_if_lt h 15 dX5_checkBooking_1 (by decide) (fun c1 => ?_) (fun c1 => ?_)
  · exact hl_throw h hz het hlocks hst hz.2.2.1.1 (hz.2.2.2.2.2 _ (List.mem_of_getElem? (i := 3) rfl)) (by decide +kernel) hl_g2I hl_g3I dX5_checkBooking_15 dX5_checkBooking_18 dX5_checkBooking_19 dX5_checkBooking_21 dX5_checkBooking_24 (by decide +kernel) (by decide +kernel) (by intro z (hz9 : z ∈ (vx_atS RX5 178 "java/lang/IndexOutOfBoundsException" ["java/lang/RuntimeException", "java/lang/Exception"]).filter goodWord); simp only [wsX5_checkBooking, List.mem_cons, List.mem_append, hz9, true_or, or_true]) (Nat.le_of_ble_eq_true rfl) (Nat.le_of_ble_eq_true rfl) (Nat.le_of_ble_eq_true rfl) (Nat.le_of_ble_eq_true rfl)
  · refine hl_iload_n h 1 dX5_checkBooking_4 rfl ?_
    refine hl_aload_n h 0 dX5_checkBooking_5 rfl ?_
    refine hl_get h hi5 hl_wc_0 rfl 2 rfl dX5_checkBooking_6 (by decide) (by decide +kernel) ?_
    refine hl_get h hi0 hl_wc_3 rfl 6 rfl dX5_checkBooking_9 (by decide) (by decide +kernel) ?_
    refine hl_icmp_lt h 25 dX5_checkBooking_12 (by decide) (fun c2 => ?_) (fun c2 => ?_)
    · exact absurd ⟨c1, c2⟩ h1
    · exact hl_throw h hz het hlocks hst hz.2.2.1.1 (hz.2.2.2.2.2 _ (List.mem_of_getElem? (i := 3) rfl)) (by decide +kernel) hl_g2I hl_g3I dX5_checkBooking_15 dX5_checkBooking_18 dX5_checkBooking_19 dX5_checkBooking_21 dX5_checkBooking_24 (by decide +kernel) (by decide +kernel) (by intro z (hz9 : z ∈ (vx_atS RX5 178 "java/lang/IndexOutOfBoundsException" ["java/lang/RuntimeException", "java/lang/Exception"]).filter goodWord); simp only [wsX5_checkBooking, List.mem_cons, List.mem_append, hz9, true_or, or_true]) (Nat.le_of_ble_eq_true rfl) (Nat.le_of_ble_eq_true rfl) (Nat.le_of_ble_eq_true rfl) (Nat.le_of_ble_eq_true rfl)

set_option maxHeartbeats 4000000 in
set_option maxRecDepth 100000 in
theorem x_X5_checkRange (l : Launch) (D : va_G) (cI cZ cJ : ClassId) (a : Nat → Nat) (g : Nat → Nat → Int32) (hst : l.stackTraces = false) (x y z : Int32) (h1 : ¬ (¬ x < y ∧ x ≤ z)) : hl_KT D (hl_ty cI cZ cJ) l yX5_checkRange wsX5_checkRange ({ frames := 6, cells := 1, slots := 6, locals := 82 } : Room) [.int x, .int y, .int z] (hl_WC a cI cZ g) hl_EA := by
  refine hl_KT_of (cc := cX5_checkRange) (maxL := 3) (ret := none) (by decide) rfl (Nat.le_of_ble_eq_true rfl) ?_
  intro p e s m args below meth c h hz het hlocks
  refine hl_ls (ls' := [(0, .int x), (1, .int y), (2, .int z)]) rfl ?_
  refine hl_iload_n h 0 dX5_checkRange_0 rfl ?_
  refine hl_iload_n h 1 dX5_checkRange_1 rfl ?_
  refine hl_icmp_lt h 10 dX5_checkRange_2 (by decide) (fun c1 => ?_) (fun c1 => ?_)
  · exact hl_throw h hz het hlocks hst hz.2.2.1.2.1 (hz.2.2.2.2.2 _ (List.mem_of_getElem? (i := 4) rfl)) (by decide +kernel) hl_g2A hl_g3A dX5_checkRange_10 dX5_checkRange_13 dX5_checkRange_14 dX5_checkRange_16 dX5_checkRange_19 (by decide +kernel) (by decide +kernel) (by intro z (hz9 : z ∈ (vx_atS RX5 189 "java/lang/IllegalArgumentException" ["java/lang/RuntimeException", "java/lang/Exception"]).filter goodWord); simp only [wsX5_checkRange, List.mem_cons, List.mem_append, hz9, true_or, or_true]) (Nat.le_of_ble_eq_true rfl) (Nat.le_of_ble_eq_true rfl) (Nat.le_of_ble_eq_true rfl) (Nat.le_of_ble_eq_true rfl)
  · refine hl_iload_n h 0 dX5_checkRange_5 rfl ?_
    refine hl_iload_n h 2 dX5_checkRange_6 rfl ?_
    refine hl_icmp_le h 20 dX5_checkRange_7 (by decide) (fun c2 => ?_) (fun c2 => ?_)
    · exact absurd ⟨c1, c2⟩ h1
    · exact hl_throw h hz het hlocks hst hz.2.2.1.2.1 (hz.2.2.2.2.2 _ (List.mem_of_getElem? (i := 4) rfl)) (by decide +kernel) hl_g2A hl_g3A dX5_checkRange_10 dX5_checkRange_13 dX5_checkRange_14 dX5_checkRange_16 dX5_checkRange_19 (by decide +kernel) (by decide +kernel) (by intro z (hz9 : z ∈ (vx_atS RX5 189 "java/lang/IllegalArgumentException" ["java/lang/RuntimeException", "java/lang/Exception"]).filter goodWord); simp only [wsX5_checkRange, List.mem_cons, List.mem_append, hz9, true_or, or_true]) (Nat.le_of_ble_eq_true rfl) (Nat.le_of_ble_eq_true rfl) (Nat.le_of_ble_eq_true rfl) (Nat.le_of_ble_eq_true rfl)

set_option maxHeartbeats 4000000 in
set_option maxRecDepth 100000 in
theorem x_X5_setRooms_1 (l : Launch) (D : va_G) (cI cZ cJ : ClassId) (a : Nat → Nat) (g : Nat → Nat → Int32) (hst : l.stackTraces = false) (x y n q : Int32) (h1 : ¬ vp_in x 4) : hl_KT D (hl_ty cI cZ cJ) l yX5_setRooms wsX5_setRooms ({ frames := 7, cells := 1, slots := 6, locals := 102 } : Room) [.ref (a 0), .int x, .int y, .int n, .int q] (hl_WC a cI cZ g) hl_EI := by
  refine hl_KT_of (cc := cX5_setRooms) (maxL := 5) (ret := (some .int)) (by decide) rfl (Nat.le_of_ble_eq_true rfl) ?_
  intro p e s m args below meth c h hz het hlocks
  refine hl_ls (ls' := [(0, .ref (a 0)), (1, .int x), (2, .int y), (3, .int n), (4, .int q)]) rfl ?_
  refine hl_iload_n h 1 dX5_setRooms_0 rfl ?_
  exact hl_tcallS h hz het hlocks (st := []) (x_X5_checkInn l D cI cZ cJ a g hst x h1) (va_cwS 1 h.2.2.2.2.1 gX5_setRooms_X5_checkInn rfl rfl rfl (by decide +kernel) ⟨Nat.le_of_ble_eq_true rfl, Nat.le_of_ble_eq_true rfl⟩) dX5_setRooms_1 rfl (Nat.le_of_ble_eq_true rfl) ⟨Nat.le_of_ble_eq_true rfl, Nat.le_of_ble_eq_true rfl⟩ rfl

set_option maxHeartbeats 4000000 in
set_option maxRecDepth 100000 in
theorem x_X5_setRooms_2 (l : Launch) (D : va_G) (cI cZ cJ : ClassId) (a : Nat → Nat) (g : Nat → Nat → Int32) (hst : l.stackTraces = false) (x y n q : Int32) (h1 : vp_in x 4) (h2 : ¬ vp_in y 2) : hl_KT D (hl_ty cI cZ cJ) l yX5_setRooms wsX5_setRooms ({ frames := 7, cells := 1, slots := 6, locals := 102 } : Room) [.ref (a 0), .int x, .int y, .int n, .int q] (hl_WC a cI cZ g) hl_EI := by
  refine hl_KT_of (cc := cX5_setRooms) (maxL := 5) (ret := (some .int)) (by decide) rfl (Nat.le_of_ble_eq_true rfl) ?_
  intro p e s m args below meth c h hz het hlocks
  refine hl_ls (ls' := [(0, .ref (a 0)), (1, .int x), (2, .int y), (3, .int n), (4, .int q)]) rfl ?_
  refine hl_iload_n h 1 dX5_setRooms_0 rfl ?_
  refine hl_callSvD h (st := []) (c_X5_checkInn l D cI cZ cJ a g x (by with_reducible assumption)) (va_cwS 1 h.2.2.2.2.1 gX5_setRooms_X5_checkInn rfl rfl rfl (by decide +kernel) ⟨Nat.le_of_ble_eq_true rfl, Nat.le_of_ble_eq_true rfl⟩) dX5_setRooms_1 rfl (Nat.le_of_ble_eq_true rfl) ⟨Nat.le_of_ble_eq_true rfl, Nat.le_of_ble_eq_true rfl⟩ rfl ?_
  refine hl_iload_n h 2 dX5_setRooms_4 rfl ?_
  exact hl_tcallS h hz het hlocks (st := []) (x_X5_checkKind l D cI cZ cJ a g hst y h2) (va_cwS 1 h.2.2.2.2.1 gX5_setRooms_X5_checkKind rfl rfl rfl (by decide +kernel) ⟨Nat.le_of_ble_eq_true rfl, Nat.le_of_ble_eq_true rfl⟩) dX5_setRooms_5 rfl (Nat.le_of_ble_eq_true rfl) ⟨Nat.le_of_ble_eq_true rfl, Nat.le_of_ble_eq_true rfl⟩ rfl

set_option maxHeartbeats 4000000 in
set_option maxRecDepth 100000 in
theorem x_X5_setRooms_3 (l : Launch) (D : va_G) (cI cZ cJ : ClassId) (a : Nat → Nat) (g : Nat → Nat → Int32) (hst : l.stackTraces = false) (x y n q : Int32) (h1 : vp_in x 4) (h2 : vp_in y 2) (h3 : ¬ (¬ n < 0 ∧ n ≤ 10)) : hl_KT D (hl_ty cI cZ cJ) l yX5_setRooms wsX5_setRooms ({ frames := 7, cells := 1, slots := 6, locals := 104 } : Room) [.ref (a 0), .int x, .int y, .int n, .int q] (hl_WC a cI cZ g) hl_EA := by
  refine hl_KT_of (cc := cX5_setRooms) (maxL := 5) (ret := (some .int)) (by decide) rfl (Nat.le_of_ble_eq_true rfl) ?_
  intro p e s m args below meth c h hz het hlocks
  refine hl_ls (ls' := [(0, .ref (a 0)), (1, .int x), (2, .int y), (3, .int n), (4, .int q)]) rfl ?_
  refine hl_iload_n h 1 dX5_setRooms_0 rfl ?_
  refine hl_callSvD h (st := []) (c_X5_checkInn l D cI cZ cJ a g x (by with_reducible assumption)) (va_cwS 1 h.2.2.2.2.1 gX5_setRooms_X5_checkInn rfl rfl rfl (by decide +kernel) ⟨Nat.le_of_ble_eq_true rfl, Nat.le_of_ble_eq_true rfl⟩) dX5_setRooms_1 rfl (Nat.le_of_ble_eq_true rfl) ⟨Nat.le_of_ble_eq_true rfl, Nat.le_of_ble_eq_true rfl⟩ rfl ?_
  refine hl_iload_n h 2 dX5_setRooms_4 rfl ?_
  refine hl_callSvD h (st := []) (c_X5_checkKind l D cI cZ cJ a g y (by with_reducible assumption)) (va_cwS 1 h.2.2.2.2.1 gX5_setRooms_X5_checkKind rfl rfl rfl (by decide +kernel) ⟨Nat.le_of_ble_eq_true rfl, Nat.le_of_ble_eq_true rfl⟩) dX5_setRooms_5 rfl (Nat.le_of_ble_eq_true rfl) ⟨Nat.le_of_ble_eq_true rfl, Nat.le_of_ble_eq_true rfl⟩ rfl ?_
  refine hl_iload_n h 3 dX5_setRooms_8 rfl ?_
  refine hl_iconst h 0 dX5_setRooms_9 (by decide) ?_
  refine hl_bipush h 10 dX5_setRooms_10 (by decide) ?_
  exact hl_tcallS h hz het hlocks (st := []) (x_X5_checkRange l D cI cZ cJ a g hst n 0 10 h3) (va_cwS 3 h.2.2.2.2.1 gX5_setRooms_X5_checkRange rfl rfl rfl (by decide +kernel) ⟨Nat.le_of_ble_eq_true rfl, Nat.le_of_ble_eq_true rfl⟩) dX5_setRooms_12 rfl (Nat.le_of_ble_eq_true rfl) ⟨Nat.le_of_ble_eq_true rfl, Nat.le_of_ble_eq_true rfl⟩ rfl

set_option maxHeartbeats 4000000 in
set_option maxRecDepth 100000 in
theorem x_X5_setRooms_4 (l : Launch) (D : va_G) (cI cZ cJ : ClassId) (a : Nat → Nat) (g : Nat → Nat → Int32) (hst : l.stackTraces = false) (x y n q : Int32) (h1 : vp_in x 4) (h2 : vp_in y 2) (h3 : ¬ n < 0) (h4 : n ≤ 10) (h5 : ¬ (¬ q < 1 ∧ q ≤ 100)) : hl_KT D (hl_ty cI cZ cJ) l yX5_setRooms wsX5_setRooms ({ frames := 7, cells := 1, slots := 6, locals := 104 } : Room) [.ref (a 0), .int x, .int y, .int n, .int q] (hl_WC a cI cZ g) hl_EA := by
  refine hl_KT_of (cc := cX5_setRooms) (maxL := 5) (ret := (some .int)) (by decide) rfl (Nat.le_of_ble_eq_true rfl) ?_
  intro p e s m args below meth c h hz het hlocks
  refine hl_ls (ls' := [(0, .ref (a 0)), (1, .int x), (2, .int y), (3, .int n), (4, .int q)]) rfl ?_
  refine hl_iload_n h 1 dX5_setRooms_0 rfl ?_
  refine hl_callSvD h (st := []) (c_X5_checkInn l D cI cZ cJ a g x (by with_reducible assumption)) (va_cwS 1 h.2.2.2.2.1 gX5_setRooms_X5_checkInn rfl rfl rfl (by decide +kernel) ⟨Nat.le_of_ble_eq_true rfl, Nat.le_of_ble_eq_true rfl⟩) dX5_setRooms_1 rfl (Nat.le_of_ble_eq_true rfl) ⟨Nat.le_of_ble_eq_true rfl, Nat.le_of_ble_eq_true rfl⟩ rfl ?_
  refine hl_iload_n h 2 dX5_setRooms_4 rfl ?_
  refine hl_callSvD h (st := []) (c_X5_checkKind l D cI cZ cJ a g y (by with_reducible assumption)) (va_cwS 1 h.2.2.2.2.1 gX5_setRooms_X5_checkKind rfl rfl rfl (by decide +kernel) ⟨Nat.le_of_ble_eq_true rfl, Nat.le_of_ble_eq_true rfl⟩) dX5_setRooms_5 rfl (Nat.le_of_ble_eq_true rfl) ⟨Nat.le_of_ble_eq_true rfl, Nat.le_of_ble_eq_true rfl⟩ rfl ?_
  refine hl_iload_n h 3 dX5_setRooms_8 rfl ?_
  refine hl_iconst h 0 dX5_setRooms_9 (by decide) ?_
  refine hl_bipush h 10 dX5_setRooms_10 (by decide) ?_
  refine hl_callSvD h (st := []) (c_X5_checkRange l D cI cZ cJ a g n 0 10 (by with_reducible assumption) (by with_reducible assumption)) (va_cwS 3 h.2.2.2.2.1 gX5_setRooms_X5_checkRange rfl rfl rfl (by decide +kernel) ⟨Nat.le_of_ble_eq_true rfl, Nat.le_of_ble_eq_true rfl⟩) dX5_setRooms_12 rfl (Nat.le_of_ble_eq_true rfl) ⟨Nat.le_of_ble_eq_true rfl, Nat.le_of_ble_eq_true rfl⟩ rfl ?_
  refine hl_iload h 4 dX5_setRooms_15 rfl ?_
  refine hl_iconst h 1 dX5_setRooms_17 (by decide) ?_
  refine hl_bipush h 100 dX5_setRooms_18 (by decide) ?_
  exact hl_tcallS h hz het hlocks (st := []) (x_X5_checkRange l D cI cZ cJ a g hst q 1 100 h5) (va_cwS 3 h.2.2.2.2.1 gX5_setRooms_X5_checkRange rfl rfl rfl (by decide +kernel) ⟨Nat.le_of_ble_eq_true rfl, Nat.le_of_ble_eq_true rfl⟩) dX5_setRooms_20 rfl (Nat.le_of_ble_eq_true rfl) ⟨Nat.le_of_ble_eq_true rfl, Nat.le_of_ble_eq_true rfl⟩ rfl

set_option maxHeartbeats 4000000 in
set_option maxRecDepth 100000 in
theorem x_X5_buyLinen_1 (l : Launch) (D : va_G) (cI cZ cJ : ClassId) (a : Nat → Nat) (g : Nat → Nat → Int32) (hst : l.stackTraces = false) (x n : Int32) (h1 : ¬ vp_in x 4) : hl_KT D (hl_ty cI cZ cJ) l yX5_buyLinen wsX5_buyLinen ({ frames := 7, cells := 1, slots := 6, locals := 102 } : Room) [.ref (a 0), .int x, .int n] (hl_WC a cI cZ g) hl_EI := by
  refine hl_KT_of (cc := cX5_buyLinen) (maxL := 3) (ret := (some .int)) (by decide) rfl (Nat.le_of_ble_eq_true rfl) ?_
  intro p e s m args below meth c h hz het hlocks
  refine hl_ls (ls' := [(0, .ref (a 0)), (1, .int x), (2, .int n)]) rfl ?_
  refine hl_iload_n h 1 dX5_buyLinen_0 rfl ?_
  exact hl_tcallS h hz het hlocks (st := []) (x_X5_checkInn l D cI cZ cJ a g hst x h1) (va_cwS 1 h.2.2.2.2.1 gX5_buyLinen_X5_checkInn rfl rfl rfl (by decide +kernel) ⟨Nat.le_of_ble_eq_true rfl, Nat.le_of_ble_eq_true rfl⟩) dX5_buyLinen_1 rfl (Nat.le_of_ble_eq_true rfl) ⟨Nat.le_of_ble_eq_true rfl, Nat.le_of_ble_eq_true rfl⟩ rfl

set_option maxHeartbeats 4000000 in
set_option maxRecDepth 100000 in
theorem x_X5_buyLinen_2 (l : Launch) (D : va_G) (cI cZ cJ : ClassId) (a : Nat → Nat) (g : Nat → Nat → Int32) (hst : l.stackTraces = false) (x n : Int32) (h1 : vp_in x 4) (h2 : ¬ (¬ n < 1 ∧ n ≤ 20)) : hl_KT D (hl_ty cI cZ cJ) l yX5_buyLinen wsX5_buyLinen ({ frames := 7, cells := 1, slots := 6, locals := 104 } : Room) [.ref (a 0), .int x, .int n] (hl_WC a cI cZ g) hl_EA := by
  refine hl_KT_of (cc := cX5_buyLinen) (maxL := 3) (ret := (some .int)) (by decide) rfl (Nat.le_of_ble_eq_true rfl) ?_
  intro p e s m args below meth c h hz het hlocks
  refine hl_ls (ls' := [(0, .ref (a 0)), (1, .int x), (2, .int n)]) rfl ?_
  refine hl_iload_n h 1 dX5_buyLinen_0 rfl ?_
  refine hl_callSvD h (st := []) (c_X5_checkInn l D cI cZ cJ a g x (by with_reducible assumption)) (va_cwS 1 h.2.2.2.2.1 gX5_buyLinen_X5_checkInn rfl rfl rfl (by decide +kernel) ⟨Nat.le_of_ble_eq_true rfl, Nat.le_of_ble_eq_true rfl⟩) dX5_buyLinen_1 rfl (Nat.le_of_ble_eq_true rfl) ⟨Nat.le_of_ble_eq_true rfl, Nat.le_of_ble_eq_true rfl⟩ rfl ?_
  refine hl_iload_n h 2 dX5_buyLinen_4 rfl ?_
  refine hl_iconst h 1 dX5_buyLinen_5 (by decide) ?_
  refine hl_bipush h 20 dX5_buyLinen_6 (by decide) ?_
  exact hl_tcallS h hz het hlocks (st := []) (x_X5_checkRange l D cI cZ cJ a g hst n 1 20 h2) (va_cwS 3 h.2.2.2.2.1 gX5_buyLinen_X5_checkRange rfl rfl rfl (by decide +kernel) ⟨Nat.le_of_ble_eq_true rfl, Nat.le_of_ble_eq_true rfl⟩) dX5_buyLinen_8 rfl (Nat.le_of_ble_eq_true rfl) ⟨Nat.le_of_ble_eq_true rfl, Nat.le_of_ble_eq_true rfl⟩ rfl

set_option maxHeartbeats 4000000 in
set_option maxRecDepth 100000 in
theorem x_X5_book_1 (l : Launch) (D : va_G) (cI cZ cJ : ClassId) (a : Nat → Nat) (g : Nat → Nat → Int32) (hst : l.stackTraces = false) (x y z v : Int32) (h1 : ¬ vp_in x 10) : hl_KT D (hl_ty cI cZ cJ) l yX5_book wsX5_book ({ frames := 7, cells := 1, slots := 6, locals := 102 } : Room) [.ref (a 0), .int x, .int y, .int z, .int v] (hl_WC a cI cZ g) hl_EI := by
  refine hl_KT_of (cc := cX5_book) (maxL := 5) (ret := (some .int)) (by decide) rfl (Nat.le_of_ble_eq_true rfl) ?_
  intro p e s m args below meth c h hz het hlocks
  refine hl_ls (ls' := [(0, .ref (a 0)), (1, .int x), (2, .int y), (3, .int z), (4, .int v)]) rfl ?_
  refine hl_iload_n h 1 dX5_book_0 rfl ?_
  exact hl_tcallS h hz het hlocks (st := []) (x_X5_checkGuest l D cI cZ cJ a g hst x h1) (va_cwS 1 h.2.2.2.2.1 gX5_book_X5_checkGuest rfl rfl rfl (by decide +kernel) ⟨Nat.le_of_ble_eq_true rfl, Nat.le_of_ble_eq_true rfl⟩) dX5_book_1 rfl (Nat.le_of_ble_eq_true rfl) ⟨Nat.le_of_ble_eq_true rfl, Nat.le_of_ble_eq_true rfl⟩ rfl

set_option maxHeartbeats 4000000 in
set_option maxRecDepth 100000 in
theorem x_X5_book_2 (l : Launch) (D : va_G) (cI cZ cJ : ClassId) (a : Nat → Nat) (g : Nat → Nat → Int32) (hst : l.stackTraces = false) (x y z v : Int32) (h1 : vp_in x 10) (h2 : ¬ vp_in y 4) : hl_KT D (hl_ty cI cZ cJ) l yX5_book wsX5_book ({ frames := 7, cells := 1, slots := 6, locals := 102 } : Room) [.ref (a 0), .int x, .int y, .int z, .int v] (hl_WC a cI cZ g) hl_EI := by
  refine hl_KT_of (cc := cX5_book) (maxL := 5) (ret := (some .int)) (by decide) rfl (Nat.le_of_ble_eq_true rfl) ?_
  intro p e s m args below meth c h hz het hlocks
  refine hl_ls (ls' := [(0, .ref (a 0)), (1, .int x), (2, .int y), (3, .int z), (4, .int v)]) rfl ?_
  refine hl_iload_n h 1 dX5_book_0 rfl ?_
  refine hl_callSvD h (st := []) (c_X5_checkGuest l D cI cZ cJ a g x (by with_reducible assumption)) (va_cwS 1 h.2.2.2.2.1 gX5_book_X5_checkGuest rfl rfl rfl (by decide +kernel) ⟨Nat.le_of_ble_eq_true rfl, Nat.le_of_ble_eq_true rfl⟩) dX5_book_1 rfl (Nat.le_of_ble_eq_true rfl) ⟨Nat.le_of_ble_eq_true rfl, Nat.le_of_ble_eq_true rfl⟩ rfl ?_
  refine hl_iload_n h 2 dX5_book_4 rfl ?_
  exact hl_tcallS h hz het hlocks (st := []) (x_X5_checkInn l D cI cZ cJ a g hst y h2) (va_cwS 1 h.2.2.2.2.1 gX5_book_X5_checkInn rfl rfl rfl (by decide +kernel) ⟨Nat.le_of_ble_eq_true rfl, Nat.le_of_ble_eq_true rfl⟩) dX5_book_5 rfl (Nat.le_of_ble_eq_true rfl) ⟨Nat.le_of_ble_eq_true rfl, Nat.le_of_ble_eq_true rfl⟩ rfl

set_option maxHeartbeats 4000000 in
set_option maxRecDepth 100000 in
theorem x_X5_book_3 (l : Launch) (D : va_G) (cI cZ cJ : ClassId) (a : Nat → Nat) (g : Nat → Nat → Int32) (hst : l.stackTraces = false) (x y z v : Int32) (h1 : vp_in x 10) (h2 : vp_in y 4) (h3 : ¬ vp_in z 2) : hl_KT D (hl_ty cI cZ cJ) l yX5_book wsX5_book ({ frames := 7, cells := 1, slots := 6, locals := 102 } : Room) [.ref (a 0), .int x, .int y, .int z, .int v] (hl_WC a cI cZ g) hl_EI := by
  refine hl_KT_of (cc := cX5_book) (maxL := 5) (ret := (some .int)) (by decide) rfl (Nat.le_of_ble_eq_true rfl) ?_
  intro p e s m args below meth c h hz het hlocks
  refine hl_ls (ls' := [(0, .ref (a 0)), (1, .int x), (2, .int y), (3, .int z), (4, .int v)]) rfl ?_
  refine hl_iload_n h 1 dX5_book_0 rfl ?_
  refine hl_callSvD h (st := []) (c_X5_checkGuest l D cI cZ cJ a g x (by with_reducible assumption)) (va_cwS 1 h.2.2.2.2.1 gX5_book_X5_checkGuest rfl rfl rfl (by decide +kernel) ⟨Nat.le_of_ble_eq_true rfl, Nat.le_of_ble_eq_true rfl⟩) dX5_book_1 rfl (Nat.le_of_ble_eq_true rfl) ⟨Nat.le_of_ble_eq_true rfl, Nat.le_of_ble_eq_true rfl⟩ rfl ?_
  refine hl_iload_n h 2 dX5_book_4 rfl ?_
  refine hl_callSvD h (st := []) (c_X5_checkInn l D cI cZ cJ a g y (by with_reducible assumption)) (va_cwS 1 h.2.2.2.2.1 gX5_book_X5_checkInn rfl rfl rfl (by decide +kernel) ⟨Nat.le_of_ble_eq_true rfl, Nat.le_of_ble_eq_true rfl⟩) dX5_book_5 rfl (Nat.le_of_ble_eq_true rfl) ⟨Nat.le_of_ble_eq_true rfl, Nat.le_of_ble_eq_true rfl⟩ rfl ?_
  refine hl_iload_n h 3 dX5_book_8 rfl ?_
  exact hl_tcallS h hz het hlocks (st := []) (x_X5_checkKind l D cI cZ cJ a g hst z h3) (va_cwS 1 h.2.2.2.2.1 gX5_book_X5_checkKind rfl rfl rfl (by decide +kernel) ⟨Nat.le_of_ble_eq_true rfl, Nat.le_of_ble_eq_true rfl⟩) dX5_book_9 rfl (Nat.le_of_ble_eq_true rfl) ⟨Nat.le_of_ble_eq_true rfl, Nat.le_of_ble_eq_true rfl⟩ rfl

set_option maxHeartbeats 4000000 in
set_option maxRecDepth 100000 in
theorem x_X5_book_4 (l : Launch) (D : va_G) (cI cZ cJ : ClassId) (a : Nat → Nat) (g : Nat → Nat → Int32) (hst : l.stackTraces = false) (x y z v : Int32) (h1 : vp_in x 10) (h2 : vp_in y 4) (h3 : vp_in z 2) (h4 : ¬ (¬ v < g 23 0 ∧ v ≤ g 23 0 + 10)) : hl_KT D (hl_ty cI cZ cJ) l yX5_book wsX5_book ({ frames := 7, cells := 1, slots := 6, locals := 104 } : Room) [.ref (a 0), .int x, .int y, .int z, .int v] (hl_WC a cI cZ g) hl_EA := by
  refine hl_KT_of (cc := cX5_book) (maxL := 5) (ret := (some .int)) (by decide) rfl (Nat.le_of_ble_eq_true rfl) ?_
  intro p e s m args below meth c h hz het hlocks
  have hi5 : ∀ z ∈ wsX50, z ∈ wsX5_book := by decide +kernel
  refine hl_ls (ls' := [(0, .ref (a 0)), (1, .int x), (2, .int y), (3, .int z), (4, .int v)]) rfl ?_
  refine hl_iload_n h 1 dX5_book_0 rfl ?_
  refine hl_callSvD h (st := []) (c_X5_checkGuest l D cI cZ cJ a g x (by with_reducible assumption)) (va_cwS 1 h.2.2.2.2.1 gX5_book_X5_checkGuest rfl rfl rfl (by decide +kernel) ⟨Nat.le_of_ble_eq_true rfl, Nat.le_of_ble_eq_true rfl⟩) dX5_book_1 rfl (Nat.le_of_ble_eq_true rfl) ⟨Nat.le_of_ble_eq_true rfl, Nat.le_of_ble_eq_true rfl⟩ rfl ?_
  refine hl_iload_n h 2 dX5_book_4 rfl ?_
  refine hl_callSvD h (st := []) (c_X5_checkInn l D cI cZ cJ a g y (by with_reducible assumption)) (va_cwS 1 h.2.2.2.2.1 gX5_book_X5_checkInn rfl rfl rfl (by decide +kernel) ⟨Nat.le_of_ble_eq_true rfl, Nat.le_of_ble_eq_true rfl⟩) dX5_book_5 rfl (Nat.le_of_ble_eq_true rfl) ⟨Nat.le_of_ble_eq_true rfl, Nat.le_of_ble_eq_true rfl⟩ rfl ?_
  refine hl_iload_n h 3 dX5_book_8 rfl ?_
  refine hl_callSvD h (st := []) (c_X5_checkKind l D cI cZ cJ a g z (by with_reducible assumption)) (va_cwS 1 h.2.2.2.2.1 gX5_book_X5_checkKind rfl rfl rfl (by decide +kernel) ⟨Nat.le_of_ble_eq_true rfl, Nat.le_of_ble_eq_true rfl⟩) dX5_book_9 rfl (Nat.le_of_ble_eq_true rfl) ⟨Nat.le_of_ble_eq_true rfl, Nat.le_of_ble_eq_true rfl⟩ rfl ?_
  refine hl_iload h 4 dX5_book_12 rfl ?_
  refine hl_aload_n h 0 dX5_book_14 rfl ?_
  refine hl_get h hi5 hl_wc_0 rfl 5 rfl dX5_book_15 (by decide) (by decide +kernel) ?_
  refine hl_aload_n h 0 dX5_book_18 rfl ?_
  refine hl_get h hi5 hl_wc_0 rfl 5 rfl dX5_book_19 (by decide) (by decide +kernel) ?_
  refine hl_bipush h 10 dX5_book_22 (by decide) ?_
  refine hl_iadd h dX5_book_24 ?_
  exact hl_tcallS h hz het hlocks (st := []) (x_X5_checkRange l D cI cZ cJ a g hst v (g 23 0) ((g 23 0) + 10) h4) (va_cwS 3 h.2.2.2.2.1 gX5_book_X5_checkRange rfl rfl rfl (by decide +kernel) ⟨Nat.le_of_ble_eq_true rfl, Nat.le_of_ble_eq_true rfl⟩) dX5_book_25 rfl (Nat.le_of_ble_eq_true rfl) ⟨Nat.le_of_ble_eq_true rfl, Nat.le_of_ble_eq_true rfl⟩ rfl

set_option maxHeartbeats 4000000 in
set_option maxRecDepth 100000 in
theorem x_X5_book_5 (l : Launch) (D : va_G) (cI cZ cJ : ClassId) (a : Nat → Nat) (g : Nat → Nat → Int32) (hst : l.stackTraces = false) (x y z v : Int32) (N M : Nat) (ho : hl_ok g N M) (h1 : vp_in x 10) (h2 : vp_in y 4) (h3 : vp_in z 2) (h4 : ¬ v < g 23 0) (h5 : v ≤ g 23 0 + 10) (h6 : ¬ g 16 0 < 80 ∨ r_X5_takesMore g N y z v = 0) : hl_KT D (hl_ty cI cZ cJ) l yX5_book wsX5_book ({ frames := 6, cells := 1, slots := 6, locals := 82 } : Room) [.ref (a 0), .int x, .int y, .int z, .int v] (hl_WC a cI cZ g) hl_ES := by
  refine hl_KT_of (cc := cX5_book) (maxL := 5) (ret := (some .int)) (by decide) rfl (Nat.le_of_ble_eq_true rfl) ?_
  intro p e s m args below meth c h hz het hlocks
  have hi5 : ∀ z ∈ wsX50, z ∈ wsX5_book := by decide +kernel
  obtain ⟨hN, hc, hM, hm, hbk, hpt, hbr⟩ := id ho
  refine hl_ls (ls' := [(0, .ref (a 0)), (1, .int x), (2, .int y), (3, .int z), (4, .int v)]) rfl ?_
  refine hl_iload_n h 1 dX5_book_0 rfl ?_
  refine hl_callSvD h (st := []) (c_X5_checkGuest l D cI cZ cJ a g x (by with_reducible assumption)) (va_cwS 1 h.2.2.2.2.1 gX5_book_X5_checkGuest rfl rfl rfl (by decide +kernel) ⟨Nat.le_of_ble_eq_true rfl, Nat.le_of_ble_eq_true rfl⟩) dX5_book_1 rfl (Nat.le_of_ble_eq_true rfl) ⟨Nat.le_of_ble_eq_true rfl, Nat.le_of_ble_eq_true rfl⟩ rfl ?_
  refine hl_iload_n h 2 dX5_book_4 rfl ?_
  refine hl_callSvD h (st := []) (c_X5_checkInn l D cI cZ cJ a g y (by with_reducible assumption)) (va_cwS 1 h.2.2.2.2.1 gX5_book_X5_checkInn rfl rfl rfl (by decide +kernel) ⟨Nat.le_of_ble_eq_true rfl, Nat.le_of_ble_eq_true rfl⟩) dX5_book_5 rfl (Nat.le_of_ble_eq_true rfl) ⟨Nat.le_of_ble_eq_true rfl, Nat.le_of_ble_eq_true rfl⟩ rfl ?_
  refine hl_iload_n h 3 dX5_book_8 rfl ?_
  refine hl_callSvD h (st := []) (c_X5_checkKind l D cI cZ cJ a g z (by with_reducible assumption)) (va_cwS 1 h.2.2.2.2.1 gX5_book_X5_checkKind rfl rfl rfl (by decide +kernel) ⟨Nat.le_of_ble_eq_true rfl, Nat.le_of_ble_eq_true rfl⟩) dX5_book_9 rfl (Nat.le_of_ble_eq_true rfl) ⟨Nat.le_of_ble_eq_true rfl, Nat.le_of_ble_eq_true rfl⟩ rfl ?_
  refine hl_iload h 4 dX5_book_12 rfl ?_
  refine hl_aload_n h 0 dX5_book_14 rfl ?_
  refine hl_get h hi5 hl_wc_0 rfl 5 rfl dX5_book_15 (by decide) (by decide +kernel) ?_
  refine hl_aload_n h 0 dX5_book_18 rfl ?_
  refine hl_get h hi5 hl_wc_0 rfl 5 rfl dX5_book_19 (by decide) (by decide +kernel) ?_
  refine hl_bipush h 10 dX5_book_22 (by decide) ?_
  refine hl_iadd h dX5_book_24 ?_
  refine hl_callSvD h (st := []) (c_X5_checkRange l D cI cZ cJ a g v (g 23 0) ((g 23 0) + 10) (by with_reducible assumption) (by with_reducible assumption)) (va_cwS 3 h.2.2.2.2.1 gX5_book_X5_checkRange rfl rfl rfl (by decide +kernel) ⟨Nat.le_of_ble_eq_true rfl, Nat.le_of_ble_eq_true rfl⟩) dX5_book_25 rfl (Nat.le_of_ble_eq_true rfl) ⟨Nat.le_of_ble_eq_true rfl, Nat.le_of_ble_eq_true rfl⟩ rfl ?_
  refine hl_aload_n h 0 dX5_book_28 rfl ?_
  refine hl_get h hi5 hl_wc_0 rfl 2 rfl dX5_book_29 (by decide) (by decide +kernel) ?_
  refine hl_callViD h (st := []) (c_X0_isFull l D cI cZ cJ a g) (cwV 0 h.2.2.2.2.1 gX5_book_X0_isFull rfl rfl rfl (by decide +kernel) ⟨Nat.le_of_ble_eq_true rfl, Nat.le_of_ble_eq_true rfl⟩) hl_wc_3 rfl dX5_book_32 rfl (Nat.le_of_ble_eq_true rfl) ⟨Nat.le_of_ble_eq_true rfl, Nat.le_of_ble_eq_true rfl⟩ rfl ?_
  refine hl_if_ne h 49 dX5_book_35 (by decide) (fun c16 => ?_) (fun c16 => ?_)
  · exact hl_throw h hz het hlocks hst hz.2.2.1.2.2 (hz.2.2.2.2.2 _ (List.mem_of_getElem? (i := 5) rfl)) (by decide +kernel) hl_g2S hl_g3S dX5_book_49 dX5_book_52 dX5_book_53 dX5_book_55 dX5_book_58 (by decide +kernel) (by decide +kernel) (by intro z (hz9 : z ∈ (vx_atS RX5 86 "java/lang/IllegalStateException" ["java/lang/RuntimeException", "java/lang/Exception"]).filter goodWord); simp only [wsX5_book, List.mem_cons, List.mem_append, hz9, true_or, or_true]) (Nat.le_of_ble_eq_true rfl) (Nat.le_of_ble_eq_true rfl) (Nat.le_of_ble_eq_true rfl) (Nat.le_of_ble_eq_true rfl)
  · refine hl_aload_n h 0 dX5_book_38 rfl ?_
    refine hl_iload_n h 2 dX5_book_39 rfl ?_
    refine hl_iload_n h 3 dX5_book_40 rfl ?_
    refine hl_iload h 4 dX5_book_41 rfl ?_
    refine hl_callViD h (st := []) (c_X5_takesMore l D cI cZ cJ a g y z v N M ho (by with_reducible assumption) (by with_reducible assumption)) (cwV 3 h.2.2.2.2.1 gX5_book_X5_takesMore rfl rfl rfl (by decide +kernel) ⟨Nat.le_of_ble_eq_true rfl, Nat.le_of_ble_eq_true rfl⟩) hl_wc_0 rfl dX5_book_43 rfl (Nat.le_of_ble_eq_true rfl) ⟨Nat.le_of_ble_eq_true rfl, Nat.le_of_ble_eq_true rfl⟩ rfl ?_
    refine hl_if_ne h 59 dX5_book_46 (by decide) (fun c20 => ?_) (fun c20 => ?_)
    · refine absurd (h6.resolve_left (fun z => ?_)) c20
      rw [if_neg z] at c16
      exact absurd c16 (by decide)
    · exact hl_throw h hz het hlocks hst hz.2.2.1.2.2 (hz.2.2.2.2.2 _ (List.mem_of_getElem? (i := 5) rfl)) (by decide +kernel) hl_g2S hl_g3S dX5_book_49 dX5_book_52 dX5_book_53 dX5_book_55 dX5_book_58 (by decide +kernel) (by decide +kernel) (by intro z (hz9 : z ∈ (vx_atS RX5 86 "java/lang/IllegalStateException" ["java/lang/RuntimeException", "java/lang/Exception"]).filter goodWord); simp only [wsX5_book, List.mem_cons, List.mem_append, hz9, true_or, or_true]) (Nat.le_of_ble_eq_true rfl) (Nat.le_of_ble_eq_true rfl) (Nat.le_of_ble_eq_true rfl) (Nat.le_of_ble_eq_true rfl)

set_option maxHeartbeats 4000000 in
set_option maxRecDepth 100000 in
theorem x_X5_come_1 (l : Launch) (D : va_G) (cI cZ cJ : ClassId) (a : Nat → Nat) (g : Nat → Nat → Int32) (hst : l.stackTraces = false) (x : Int32) (h1 : ¬ (¬ x < 0 ∧ x < g 16 0)) : hl_KT D (hl_ty cI cZ cJ) l yX5_come wsX5_come ({ frames := 7, cells := 1, slots := 6, locals := 103 } : Room) [.ref (a 0), .int x] (hl_WC a cI cZ g) hl_EI := by
  refine hl_KT_of (cc := cX5_come) (maxL := 3) (ret := (some .int)) (by decide) rfl (Nat.le_of_ble_eq_true rfl) ?_
  intro p e s m args below meth c h hz het hlocks
  refine hl_ls (ls' := [(0, .ref (a 0)), (1, .int x)]) rfl ?_
  refine hl_aload_n h 0 dX5_come_0 rfl ?_
  refine hl_iload_n h 1 dX5_come_1 rfl ?_
  exact hl_tcallV h hz het hlocks (st := []) (x_X5_checkBooking l D cI cZ cJ a g hst x h1) (cwV 1 h.2.2.2.2.1 gX5_come_X5_checkBooking rfl rfl rfl (by decide +kernel) ⟨Nat.le_of_ble_eq_true rfl, Nat.le_of_ble_eq_true rfl⟩) hl_wc_0 rfl dX5_come_2 rfl (Nat.le_of_ble_eq_true rfl) ⟨Nat.le_of_ble_eq_true rfl, Nat.le_of_ble_eq_true rfl⟩ rfl

set_option maxHeartbeats 4000000 in
set_option maxRecDepth 100000 in
theorem x_X5_come_2 (l : Launch) (D : va_G) (cI cZ cJ : ClassId) (a : Nat → Nat) (g : Nat → Nat → Int32) (hst : l.stackTraces = false) (x : Int32) (N M : Nat) (ho : hl_ok g N M) (h1 : ¬ x < 0) (h2 : x < g 16 0) (h3 : ¬ (g 13 x.toNatClampNeg = g 23 0 ∧ g 14 x.toNatClampNeg = 0)) : hl_KT D (hl_ty cI cZ cJ) l yX5_come wsX5_come ({ frames := 6, cells := 1, slots := 6, locals := 82 } : Room) [.ref (a 0), .int x] (hl_WC a cI cZ g) hl_ES := by
  refine hl_KT_of (cc := cX5_come) (maxL := 3) (ret := (some .int)) (by decide) rfl (Nat.le_of_ble_eq_true rfl) ?_
  intro p e s m args below meth c h hz het hlocks
  have hi0 : ∀ z ∈ wsX00, z ∈ wsX5_come := by decide +kernel
  have hi5 : ∀ z ∈ wsX50, z ∈ wsX5_come := by decide +kernel
  obtain ⟨hN, hc, hM, hm, hbk, hpt, hbr⟩ := id ho
  have hxN : vp_in x N := by
    refine vp_in_iff.mpr ⟨?_, ?_⟩
    · exact Int.not_lt.mp (fun z => h1 (Int32.lt_iff_toInt_lt.mpr z))
    · have z := Int32.lt_iff_toInt_lt.mp h2
      rw [hc, nI_toInt (by omega)] at z
      exact z
  have hxn : x.toNatClampNeg < N := Nat.not_le.mp (fun z => hxN (Or.inr z))
  have hx80 : vp_in x 80 := fun z => hxN (z.elim Or.inl (fun z => Or.inr (by omega)))
  have hin : vp_in (g 11 x.toNatClampNeg) 4 := (hbk _ hxn).1
  have hkd : vp_in (g 12 x.toNatClampNeg) 2 := (hbk _ hxn).2
  refine hl_ls (ls' := [(0, .ref (a 0)), (1, .int x)]) rfl ?_
  refine hl_aload_n h 0 dX5_come_0 rfl ?_
  refine hl_iload_n h 1 dX5_come_1 rfl ?_
  refine hl_callVvD h (st := []) (c_X5_checkBooking l D cI cZ cJ a g x (by with_reducible assumption) (by with_reducible assumption)) (cwV 1 h.2.2.2.2.1 gX5_come_X5_checkBooking rfl rfl rfl (by decide +kernel) ⟨Nat.le_of_ble_eq_true rfl, Nat.le_of_ble_eq_true rfl⟩) hl_wc_0 rfl dX5_come_2 rfl (Nat.le_of_ble_eq_true rfl) ⟨Nat.le_of_ble_eq_true rfl, Nat.le_of_ble_eq_true rfl⟩ rfl ?_
  refine hl_aload_n h 0 dX5_come_5 rfl ?_
  refine hl_get h hi5 hl_wc_0 rfl 2 rfl dX5_come_6 (by decide) (by decide +kernel) ?_
  refine hl_get h hi0 hl_wc_3 rfl 3 rfl dX5_come_9 (by decide) (by decide +kernel) ?_
  refine hl_iload_n h 1 dX5_come_12 rfl ?_
  refine hl_ild h hl_wc_17 0 rfl dX5_come_13 (by with_reducible assumption) ?_
  refine hl_aload_n h 0 dX5_come_14 rfl ?_
  refine hl_get h hi5 hl_wc_0 rfl 5 rfl dX5_come_15 (by decide) (by decide +kernel) ?_
  refine hl_icmp_ne h 33 dX5_come_18 (by decide) (fun c4 => ?_) (fun c4 => ?_)
  · exact hl_throw h hz het hlocks hst hz.2.2.1.2.2 (hz.2.2.2.2.2 _ (List.mem_of_getElem? (i := 6) rfl)) (by decide +kernel) hl_g2S hl_g3S dX5_come_33 dX5_come_36 dX5_come_37 dX5_come_39 dX5_come_42 (by decide +kernel) (by decide +kernel) (by intro z (hz9 : z ∈ (vx_atS RX5 86 "java/lang/IllegalStateException" ["java/lang/RuntimeException", "java/lang/Exception"]).filter goodWord); simp only [wsX5_come, List.mem_cons, List.mem_append, hz9, true_or, or_true]) (Nat.le_of_ble_eq_true rfl) (Nat.le_of_ble_eq_true rfl) (Nat.le_of_ble_eq_true rfl) (Nat.le_of_ble_eq_true rfl)
  · refine hl_aload_n h 0 dX5_come_21 rfl ?_
    refine hl_get h hi5 hl_wc_0 rfl 2 rfl dX5_come_22 (by decide) (by decide +kernel) ?_
    refine hl_get h hi0 hl_wc_3 rfl 4 rfl dX5_come_25 (by decide) (by decide +kernel) ?_
    refine hl_iload_n h 1 dX5_come_28 rfl ?_
    refine hl_zld h hl_wc_18 1 rfl dX5_come_29 (by with_reducible assumption) ?_
    refine hl_if_eq h 43 dX5_come_30 (by decide) (fun c5 => ?_) (fun c5 => ?_)
    · exact absurd ⟨c4, c5⟩ h3
    · exact hl_throw h hz het hlocks hst hz.2.2.1.2.2 (hz.2.2.2.2.2 _ (List.mem_of_getElem? (i := 6) rfl)) (by decide +kernel) hl_g2S hl_g3S dX5_come_33 dX5_come_36 dX5_come_37 dX5_come_39 dX5_come_42 (by decide +kernel) (by decide +kernel) (by intro z (hz9 : z ∈ (vx_atS RX5 86 "java/lang/IllegalStateException" ["java/lang/RuntimeException", "java/lang/Exception"]).filter goodWord); simp only [wsX5_come, List.mem_cons, List.mem_append, hz9, true_or, or_true]) (Nat.le_of_ble_eq_true rfl) (Nat.le_of_ble_eq_true rfl) (Nat.le_of_ble_eq_true rfl) (Nat.le_of_ble_eq_true rfl)

set_option maxHeartbeats 4000000 in
set_option maxRecDepth 100000 in
theorem x_X5_burn_1 (l : Launch) (D : va_G) (cI cZ cJ : ClassId) (a : Nat → Nat) (g : Nat → Nat → Int32) (hst : l.stackTraces = false) (x y q : Int32) (h1 : ¬ vp_in x 10) : hl_KT D (hl_ty cI cZ cJ) l yX5_burn wsX5_burn ({ frames := 7, cells := 1, slots := 6, locals := 102 } : Room) [.ref (a 0), .int x, .int y, .int q] (hl_WC a cI cZ g) hl_EI := by
  refine hl_KT_of (cc := cX5_burn) (maxL := 4) (ret := (some .int)) (by decide) rfl (Nat.le_of_ble_eq_true rfl) ?_
  intro p e s m args below meth c h hz het hlocks
  refine hl_ls (ls' := [(0, .ref (a 0)), (1, .int x), (2, .int y), (3, .int q)]) rfl ?_
  refine hl_iload_n h 1 dX5_burn_0 rfl ?_
  exact hl_tcallS h hz het hlocks (st := []) (x_X5_checkGuest l D cI cZ cJ a g hst x h1) (va_cwS 1 h.2.2.2.2.1 gX5_burn_X5_checkGuest rfl rfl rfl (by decide +kernel) ⟨Nat.le_of_ble_eq_true rfl, Nat.le_of_ble_eq_true rfl⟩) dX5_burn_1 rfl (Nat.le_of_ble_eq_true rfl) ⟨Nat.le_of_ble_eq_true rfl, Nat.le_of_ble_eq_true rfl⟩ rfl

set_option maxHeartbeats 4000000 in
set_option maxRecDepth 100000 in
theorem x_X5_burn_2 (l : Launch) (D : va_G) (cI cZ cJ : ClassId) (a : Nat → Nat) (g : Nat → Nat → Int32) (hst : l.stackTraces = false) (x y q : Int32) (h1 : vp_in x 10) (h2 : ¬ vp_in y 4) : hl_KT D (hl_ty cI cZ cJ) l yX5_burn wsX5_burn ({ frames := 7, cells := 1, slots := 6, locals := 102 } : Room) [.ref (a 0), .int x, .int y, .int q] (hl_WC a cI cZ g) hl_EI := by
  refine hl_KT_of (cc := cX5_burn) (maxL := 4) (ret := (some .int)) (by decide) rfl (Nat.le_of_ble_eq_true rfl) ?_
  intro p e s m args below meth c h hz het hlocks
  refine hl_ls (ls' := [(0, .ref (a 0)), (1, .int x), (2, .int y), (3, .int q)]) rfl ?_
  refine hl_iload_n h 1 dX5_burn_0 rfl ?_
  refine hl_callSvD h (st := []) (c_X5_checkGuest l D cI cZ cJ a g x (by with_reducible assumption)) (va_cwS 1 h.2.2.2.2.1 gX5_burn_X5_checkGuest rfl rfl rfl (by decide +kernel) ⟨Nat.le_of_ble_eq_true rfl, Nat.le_of_ble_eq_true rfl⟩) dX5_burn_1 rfl (Nat.le_of_ble_eq_true rfl) ⟨Nat.le_of_ble_eq_true rfl, Nat.le_of_ble_eq_true rfl⟩ rfl ?_
  refine hl_iload_n h 2 dX5_burn_4 rfl ?_
  exact hl_tcallS h hz het hlocks (st := []) (x_X5_checkInn l D cI cZ cJ a g hst y h2) (va_cwS 1 h.2.2.2.2.1 gX5_burn_X5_checkInn rfl rfl rfl (by decide +kernel) ⟨Nat.le_of_ble_eq_true rfl, Nat.le_of_ble_eq_true rfl⟩) dX5_burn_5 rfl (Nat.le_of_ble_eq_true rfl) ⟨Nat.le_of_ble_eq_true rfl, Nat.le_of_ble_eq_true rfl⟩ rfl

set_option maxHeartbeats 4000000 in
set_option maxRecDepth 100000 in
theorem x_X5_burn_3 (l : Launch) (D : va_G) (cI cZ cJ : ClassId) (a : Nat → Nat) (g : Nat → Nat → Int32) (hst : l.stackTraces = false) (x y q : Int32) (h1 : vp_in x 10) (h2 : vp_in y 4) (h3 : ¬ (¬ q < 1 ∧ q ≤ 100)) : hl_KT D (hl_ty cI cZ cJ) l yX5_burn wsX5_burn ({ frames := 7, cells := 1, slots := 6, locals := 104 } : Room) [.ref (a 0), .int x, .int y, .int q] (hl_WC a cI cZ g) hl_EA := by
  refine hl_KT_of (cc := cX5_burn) (maxL := 4) (ret := (some .int)) (by decide) rfl (Nat.le_of_ble_eq_true rfl) ?_
  intro p e s m args below meth c h hz het hlocks
  refine hl_ls (ls' := [(0, .ref (a 0)), (1, .int x), (2, .int y), (3, .int q)]) rfl ?_
  refine hl_iload_n h 1 dX5_burn_0 rfl ?_
  refine hl_callSvD h (st := []) (c_X5_checkGuest l D cI cZ cJ a g x (by with_reducible assumption)) (va_cwS 1 h.2.2.2.2.1 gX5_burn_X5_checkGuest rfl rfl rfl (by decide +kernel) ⟨Nat.le_of_ble_eq_true rfl, Nat.le_of_ble_eq_true rfl⟩) dX5_burn_1 rfl (Nat.le_of_ble_eq_true rfl) ⟨Nat.le_of_ble_eq_true rfl, Nat.le_of_ble_eq_true rfl⟩ rfl ?_
  refine hl_iload_n h 2 dX5_burn_4 rfl ?_
  refine hl_callSvD h (st := []) (c_X5_checkInn l D cI cZ cJ a g y (by with_reducible assumption)) (va_cwS 1 h.2.2.2.2.1 gX5_burn_X5_checkInn rfl rfl rfl (by decide +kernel) ⟨Nat.le_of_ble_eq_true rfl, Nat.le_of_ble_eq_true rfl⟩) dX5_burn_5 rfl (Nat.le_of_ble_eq_true rfl) ⟨Nat.le_of_ble_eq_true rfl, Nat.le_of_ble_eq_true rfl⟩ rfl ?_
  refine hl_iload_n h 3 dX5_burn_8 rfl ?_
  refine hl_iconst h 1 dX5_burn_9 (by decide) ?_
  refine hl_bipush h 100 dX5_burn_10 (by decide) ?_
  exact hl_tcallS h hz het hlocks (st := []) (x_X5_checkRange l D cI cZ cJ a g hst q 1 100 h3) (va_cwS 3 h.2.2.2.2.1 gX5_burn_X5_checkRange rfl rfl rfl (by decide +kernel) ⟨Nat.le_of_ble_eq_true rfl, Nat.le_of_ble_eq_true rfl⟩) dX5_burn_12 rfl (Nat.le_of_ble_eq_true rfl) ⟨Nat.le_of_ble_eq_true rfl, Nat.le_of_ble_eq_true rfl⟩ rfl

set_option maxHeartbeats 4000000 in
set_option maxRecDepth 100000 in
theorem x_X5_burn_4 (l : Launch) (D : va_G) (cI cZ cJ : ClassId) (a : Nat → Nat) (g : Nat → Nat → Int32) (hst : l.stackTraces = false) (x y q : Int32) (N M : Nat) (ho : hl_ok g N M) (h1 : vp_in x 10) (h2 : vp_in y 4) (h3 : ¬ q < 1) (h4 : q ≤ 100) (h5 : ¬ q ≤ hl_it (b_X3_ofGuest g x) 0 M 0) : hl_KT D (hl_ty cI cZ cJ) l yX5_burn wsX5_burn ({ frames := 6, cells := 1, slots := 6, locals := 82 } : Room) [.ref (a 0), .int x, .int y, .int q] (hl_WC a cI cZ g) hl_ES := by
  refine hl_KT_of (cc := cX5_burn) (maxL := 4) (ret := (some .int)) (by decide) rfl (Nat.le_of_ble_eq_true rfl) ?_
  intro p e s m args below meth c h hz het hlocks
  have hi5 : ∀ z ∈ wsX50, z ∈ wsX5_burn := by decide +kernel
  obtain ⟨hN, hc, hM, hm, hbk, hpt, hbr⟩ := id ho
  refine hl_ls (ls' := [(0, .ref (a 0)), (1, .int x), (2, .int y), (3, .int q)]) rfl ?_
  refine hl_iload_n h 1 dX5_burn_0 rfl ?_
  refine hl_callSvD h (st := []) (c_X5_checkGuest l D cI cZ cJ a g x (by with_reducible assumption)) (va_cwS 1 h.2.2.2.2.1 gX5_burn_X5_checkGuest rfl rfl rfl (by decide +kernel) ⟨Nat.le_of_ble_eq_true rfl, Nat.le_of_ble_eq_true rfl⟩) dX5_burn_1 rfl (Nat.le_of_ble_eq_true rfl) ⟨Nat.le_of_ble_eq_true rfl, Nat.le_of_ble_eq_true rfl⟩ rfl ?_
  refine hl_iload_n h 2 dX5_burn_4 rfl ?_
  refine hl_callSvD h (st := []) (c_X5_checkInn l D cI cZ cJ a g y (by with_reducible assumption)) (va_cwS 1 h.2.2.2.2.1 gX5_burn_X5_checkInn rfl rfl rfl (by decide +kernel) ⟨Nat.le_of_ble_eq_true rfl, Nat.le_of_ble_eq_true rfl⟩) dX5_burn_5 rfl (Nat.le_of_ble_eq_true rfl) ⟨Nat.le_of_ble_eq_true rfl, Nat.le_of_ble_eq_true rfl⟩ rfl ?_
  refine hl_iload_n h 3 dX5_burn_8 rfl ?_
  refine hl_iconst h 1 dX5_burn_9 (by decide) ?_
  refine hl_bipush h 100 dX5_burn_10 (by decide) ?_
  refine hl_callSvD h (st := []) (c_X5_checkRange l D cI cZ cJ a g q 1 100 (by with_reducible assumption) (by with_reducible assumption)) (va_cwS 3 h.2.2.2.2.1 gX5_burn_X5_checkRange rfl rfl rfl (by decide +kernel) ⟨Nat.le_of_ble_eq_true rfl, Nat.le_of_ble_eq_true rfl⟩) dX5_burn_12 rfl (Nat.le_of_ble_eq_true rfl) ⟨Nat.le_of_ble_eq_true rfl, Nat.le_of_ble_eq_true rfl⟩ rfl ?_
  refine hl_aload_n h 0 dX5_burn_15 rfl ?_
  refine hl_get h hi5 hl_wc_0 rfl 3 rfl dX5_burn_16 (by decide) (by decide +kernel) ?_
  refine hl_iload_n h 1 dX5_burn_19 rfl ?_
  refine hl_callViD h (st := []) (c_X3_ofGuest l D cI cZ cJ a g x M hM (by with_reducible assumption)) (cwV 1 h.2.2.2.2.1 gX5_burn_X3_ofGuest rfl rfl rfl (by decide +kernel) ⟨Nat.le_of_ble_eq_true rfl, Nat.le_of_ble_eq_true rfl⟩) hl_wc_4 rfl dX5_burn_20 rfl (Nat.le_of_ble_eq_true rfl) ⟨Nat.le_of_ble_eq_true rfl, Nat.le_of_ble_eq_true rfl⟩ rfl ?_
  refine hl_iload_n h 3 dX5_burn_23 rfl ?_
  refine hl_icmp_ge_F h 37 dX5_burn_24 (by decide) h5 ?_
  exact hl_throw h hz het hlocks hst hz.2.2.1.2.2 (hz.2.2.2.2.2 _ (List.mem_of_getElem? (i := 7) rfl)) (by decide +kernel) hl_g2S hl_g3S dX5_burn_27 dX5_burn_30 dX5_burn_31 dX5_burn_33 dX5_burn_36 (by decide +kernel) (by decide +kernel) (by intro z (hz9 : z ∈ (vx_atS RX5 86 "java/lang/IllegalStateException" ["java/lang/RuntimeException", "java/lang/Exception"]).filter goodWord); simp only [wsX5_burn, List.mem_cons, List.mem_append, hz9, true_or, or_true]) (Nat.le_of_ble_eq_true rfl) (Nat.le_of_ble_eq_true rfl) (Nat.le_of_ble_eq_true rfl) (Nat.le_of_ble_eq_true rfl)

set_option maxHeartbeats 4000000 in
set_option maxRecDepth 100000 in
theorem x_X5_night_1 (l : Launch) (D : va_G) (cI cZ cJ : ClassId) (a : Nat → Nat) (g : Nat → Nat → Int32) (hst : l.stackTraces = false) (h1 : ¬ g 23 0 < 300) : hl_KT D (hl_ty cI cZ cJ) l yX5_night wsX5_night ({ frames := 6, cells := 1, slots := 6, locals := 82 } : Room) [.ref (a 0)] (hl_WC a cI cZ g) hl_ES := by
  refine hl_KT_of (cc := cX5_night) (maxL := 2) (ret := (some .int)) (by decide) rfl (Nat.le_of_ble_eq_true rfl) ?_
  intro p e s m args below meth c h hz het hlocks
  have hi5 : ∀ z ∈ wsX50, z ∈ wsX5_night := by decide +kernel
  refine hl_ls (ls' := [(0, .ref (a 0))]) rfl ?_
  refine hl_aload_n h 0 dX5_night_0 rfl ?_
  refine hl_get h hi5 hl_wc_0 rfl 5 rfl dX5_night_1 (by decide) (by decide +kernel) ?_
  refine hl_sipush h 300 dX5_night_4 (by decide) ?_
  refine hl_icmp_lt_F h 20 dX5_night_7 (by decide) h1 ?_
  exact hl_throw h hz het hlocks hst hz.2.2.1.2.2 (hz.2.2.2.2.2 _ (List.mem_of_getElem? (i := 8) rfl)) (by decide +kernel) hl_g2S hl_g3S dX5_night_10 dX5_night_13 dX5_night_14 dX5_night_16 dX5_night_19 (by decide +kernel) (by decide +kernel) (by intro z (hz9 : z ∈ (vx_atS RX5 86 "java/lang/IllegalStateException" ["java/lang/RuntimeException", "java/lang/Exception"]).filter goodWord); simp only [wsX5_night, List.mem_cons, List.mem_append, hz9, true_or, or_true]) (Nat.le_of_ble_eq_true rfl) (Nat.le_of_ble_eq_true rfl) (Nat.le_of_ble_eq_true rfl) (Nat.le_of_ble_eq_true rfl)

set_option maxHeartbeats 4000000 in
set_option maxRecDepth 100000 in
theorem x_X5_free_1 (l : Launch) (D : va_G) (cI cZ cJ : ClassId) (a : Nat → Nat) (g : Nat → Nat → Int32) (hst : l.stackTraces = false) (x y : Int32) (h1 : ¬ vp_in x 4) : hl_KT D (hl_ty cI cZ cJ) l yX5_free wsX5_free ({ frames := 7, cells := 1, slots := 6, locals := 102 } : Room) [.ref (a 0), .int x, .int y] (hl_WC a cI cZ g) hl_EI := by
  refine hl_KT_of (cc := cX5_free) (maxL := 3) (ret := (some .int)) (by decide) rfl (Nat.le_of_ble_eq_true rfl) ?_
  intro p e s m args below meth c h hz het hlocks
  refine hl_ls (ls' := [(0, .ref (a 0)), (1, .int x), (2, .int y)]) rfl ?_
  refine hl_iload_n h 1 dX5_free_0 rfl ?_
  exact hl_tcallS h hz het hlocks (st := []) (x_X5_checkInn l D cI cZ cJ a g hst x h1) (va_cwS 1 h.2.2.2.2.1 gX5_free_X5_checkInn rfl rfl rfl (by decide +kernel) ⟨Nat.le_of_ble_eq_true rfl, Nat.le_of_ble_eq_true rfl⟩) dX5_free_1 rfl (Nat.le_of_ble_eq_true rfl) ⟨Nat.le_of_ble_eq_true rfl, Nat.le_of_ble_eq_true rfl⟩ rfl

set_option maxHeartbeats 4000000 in
set_option maxRecDepth 100000 in
theorem x_X5_free_2 (l : Launch) (D : va_G) (cI cZ cJ : ClassId) (a : Nat → Nat) (g : Nat → Nat → Int32) (hst : l.stackTraces = false) (x y : Int32) (h1 : vp_in x 4) (h2 : ¬ vp_in y 2) : hl_KT D (hl_ty cI cZ cJ) l yX5_free wsX5_free ({ frames := 7, cells := 1, slots := 6, locals := 102 } : Room) [.ref (a 0), .int x, .int y] (hl_WC a cI cZ g) hl_EI := by
  refine hl_KT_of (cc := cX5_free) (maxL := 3) (ret := (some .int)) (by decide) rfl (Nat.le_of_ble_eq_true rfl) ?_
  intro p e s m args below meth c h hz het hlocks
  refine hl_ls (ls' := [(0, .ref (a 0)), (1, .int x), (2, .int y)]) rfl ?_
  refine hl_iload_n h 1 dX5_free_0 rfl ?_
  refine hl_callSvD h (st := []) (c_X5_checkInn l D cI cZ cJ a g x (by with_reducible assumption)) (va_cwS 1 h.2.2.2.2.1 gX5_free_X5_checkInn rfl rfl rfl (by decide +kernel) ⟨Nat.le_of_ble_eq_true rfl, Nat.le_of_ble_eq_true rfl⟩) dX5_free_1 rfl (Nat.le_of_ble_eq_true rfl) ⟨Nat.le_of_ble_eq_true rfl, Nat.le_of_ble_eq_true rfl⟩ rfl ?_
  refine hl_iload_n h 2 dX5_free_4 rfl ?_
  exact hl_tcallS h hz het hlocks (st := []) (x_X5_checkKind l D cI cZ cJ a g hst y h2) (va_cwS 1 h.2.2.2.2.1 gX5_free_X5_checkKind rfl rfl rfl (by decide +kernel) ⟨Nat.le_of_ble_eq_true rfl, Nat.le_of_ble_eq_true rfl⟩) dX5_free_5 rfl (Nat.le_of_ble_eq_true rfl) ⟨Nat.le_of_ble_eq_true rfl, Nat.le_of_ble_eq_true rfl⟩ rfl

set_option maxHeartbeats 4000000 in
set_option maxRecDepth 100000 in
theorem x_X5_taken_1 (l : Launch) (D : va_G) (cI cZ cJ : ClassId) (a : Nat → Nat) (g : Nat → Nat → Int32) (hst : l.stackTraces = false) (x y : Int32) (h1 : ¬ vp_in x 4) : hl_KT D (hl_ty cI cZ cJ) l yX5_taken wsX5_taken ({ frames := 7, cells := 1, slots := 6, locals := 102 } : Room) [.ref (a 0), .int x, .int y] (hl_WC a cI cZ g) hl_EI := by
  refine hl_KT_of (cc := cX5_taken) (maxL := 3) (ret := (some .int)) (by decide) rfl (Nat.le_of_ble_eq_true rfl) ?_
  intro p e s m args below meth c h hz het hlocks
  refine hl_ls (ls' := [(0, .ref (a 0)), (1, .int x), (2, .int y)]) rfl ?_
  refine hl_iload_n h 1 dX5_taken_0 rfl ?_
  exact hl_tcallS h hz het hlocks (st := []) (x_X5_checkInn l D cI cZ cJ a g hst x h1) (va_cwS 1 h.2.2.2.2.1 gX5_taken_X5_checkInn rfl rfl rfl (by decide +kernel) ⟨Nat.le_of_ble_eq_true rfl, Nat.le_of_ble_eq_true rfl⟩) dX5_taken_1 rfl (Nat.le_of_ble_eq_true rfl) ⟨Nat.le_of_ble_eq_true rfl, Nat.le_of_ble_eq_true rfl⟩ rfl

set_option maxHeartbeats 4000000 in
set_option maxRecDepth 100000 in
theorem x_X5_taken_2 (l : Launch) (D : va_G) (cI cZ cJ : ClassId) (a : Nat → Nat) (g : Nat → Nat → Int32) (hst : l.stackTraces = false) (x y : Int32) (h1 : vp_in x 4) (h2 : ¬ vp_in y 2) : hl_KT D (hl_ty cI cZ cJ) l yX5_taken wsX5_taken ({ frames := 7, cells := 1, slots := 6, locals := 102 } : Room) [.ref (a 0), .int x, .int y] (hl_WC a cI cZ g) hl_EI := by
  refine hl_KT_of (cc := cX5_taken) (maxL := 3) (ret := (some .int)) (by decide) rfl (Nat.le_of_ble_eq_true rfl) ?_
  intro p e s m args below meth c h hz het hlocks
  refine hl_ls (ls' := [(0, .ref (a 0)), (1, .int x), (2, .int y)]) rfl ?_
  refine hl_iload_n h 1 dX5_taken_0 rfl ?_
  refine hl_callSvD h (st := []) (c_X5_checkInn l D cI cZ cJ a g x (by with_reducible assumption)) (va_cwS 1 h.2.2.2.2.1 gX5_taken_X5_checkInn rfl rfl rfl (by decide +kernel) ⟨Nat.le_of_ble_eq_true rfl, Nat.le_of_ble_eq_true rfl⟩) dX5_taken_1 rfl (Nat.le_of_ble_eq_true rfl) ⟨Nat.le_of_ble_eq_true rfl, Nat.le_of_ble_eq_true rfl⟩ rfl ?_
  refine hl_iload_n h 2 dX5_taken_4 rfl ?_
  exact hl_tcallS h hz het hlocks (st := []) (x_X5_checkKind l D cI cZ cJ a g hst y h2) (va_cwS 1 h.2.2.2.2.1 gX5_taken_X5_checkKind rfl rfl rfl (by decide +kernel) ⟨Nat.le_of_ble_eq_true rfl, Nat.le_of_ble_eq_true rfl⟩) dX5_taken_5 rfl (Nat.le_of_ble_eq_true rfl) ⟨Nat.le_of_ble_eq_true rfl, Nat.le_of_ble_eq_true rfl⟩ rfl

set_option maxHeartbeats 4000000 in
set_option maxRecDepth 100000 in
theorem x_X5_takenByBookings_1 (l : Launch) (D : va_G) (cI cZ cJ : ClassId) (a : Nat → Nat) (g : Nat → Nat → Int32) (hst : l.stackTraces = false) (x y : Int32) (h1 : ¬ vp_in x 4) : hl_KT D (hl_ty cI cZ cJ) l yX5_takenByBookings wsX5_takenByBookings ({ frames := 7, cells := 1, slots := 6, locals := 102 } : Room) [.ref (a 0), .int x, .int y] (hl_WC a cI cZ g) hl_EI := by
  refine hl_KT_of (cc := cX5_takenByBookings) (maxL := 3) (ret := (some .int)) (by decide) rfl (Nat.le_of_ble_eq_true rfl) ?_
  intro p e s m args below meth c h hz het hlocks
  refine hl_ls (ls' := [(0, .ref (a 0)), (1, .int x), (2, .int y)]) rfl ?_
  refine hl_iload_n h 1 dX5_takenByBookings_0 rfl ?_
  exact hl_tcallS h hz het hlocks (st := []) (x_X5_checkInn l D cI cZ cJ a g hst x h1) (va_cwS 1 h.2.2.2.2.1 gX5_takenByBookings_X5_checkInn rfl rfl rfl (by decide +kernel) ⟨Nat.le_of_ble_eq_true rfl, Nat.le_of_ble_eq_true rfl⟩) dX5_takenByBookings_1 rfl (Nat.le_of_ble_eq_true rfl) ⟨Nat.le_of_ble_eq_true rfl, Nat.le_of_ble_eq_true rfl⟩ rfl

set_option maxHeartbeats 4000000 in
set_option maxRecDepth 100000 in
theorem x_X5_takenByBookings_2 (l : Launch) (D : va_G) (cI cZ cJ : ClassId) (a : Nat → Nat) (g : Nat → Nat → Int32) (hst : l.stackTraces = false) (x y : Int32) (h1 : vp_in x 4) (h2 : ¬ vp_in y 2) : hl_KT D (hl_ty cI cZ cJ) l yX5_takenByBookings wsX5_takenByBookings ({ frames := 7, cells := 1, slots := 6, locals := 102 } : Room) [.ref (a 0), .int x, .int y] (hl_WC a cI cZ g) hl_EI := by
  refine hl_KT_of (cc := cX5_takenByBookings) (maxL := 3) (ret := (some .int)) (by decide) rfl (Nat.le_of_ble_eq_true rfl) ?_
  intro p e s m args below meth c h hz het hlocks
  refine hl_ls (ls' := [(0, .ref (a 0)), (1, .int x), (2, .int y)]) rfl ?_
  refine hl_iload_n h 1 dX5_takenByBookings_0 rfl ?_
  refine hl_callSvD h (st := []) (c_X5_checkInn l D cI cZ cJ a g x (by with_reducible assumption)) (va_cwS 1 h.2.2.2.2.1 gX5_takenByBookings_X5_checkInn rfl rfl rfl (by decide +kernel) ⟨Nat.le_of_ble_eq_true rfl, Nat.le_of_ble_eq_true rfl⟩) dX5_takenByBookings_1 rfl (Nat.le_of_ble_eq_true rfl) ⟨Nat.le_of_ble_eq_true rfl, Nat.le_of_ble_eq_true rfl⟩ rfl ?_
  refine hl_iload_n h 2 dX5_takenByBookings_4 rfl ?_
  exact hl_tcallS h hz het hlocks (st := []) (x_X5_checkKind l D cI cZ cJ a g hst y h2) (va_cwS 1 h.2.2.2.2.1 gX5_takenByBookings_X5_checkKind rfl rfl rfl (by decide +kernel) ⟨Nat.le_of_ble_eq_true rfl, Nat.le_of_ble_eq_true rfl⟩) dX5_takenByBookings_5 rfl (Nat.le_of_ble_eq_true rfl) ⟨Nat.le_of_ble_eq_true rfl, Nat.le_of_ble_eq_true rfl⟩ rfl

set_option maxHeartbeats 4000000 in
set_option maxRecDepth 100000 in
theorem x_X5_extra_1 (l : Launch) (D : va_G) (cI cZ cJ : ClassId) (a : Nat → Nat) (g : Nat → Nat → Int32) (hst : l.stackTraces = false) (x : Int32) (h1 : ¬ vp_in x 4) : hl_KT D (hl_ty cI cZ cJ) l yX5_extra wsX5_extra ({ frames := 7, cells := 1, slots := 6, locals := 102 } : Room) [.ref (a 0), .int x] (hl_WC a cI cZ g) hl_EI := by
  refine hl_KT_of (cc := cX5_extra) (maxL := 2) (ret := (some .int)) (by decide) rfl (Nat.le_of_ble_eq_true rfl) ?_
  intro p e s m args below meth c h hz het hlocks
  refine hl_ls (ls' := [(0, .ref (a 0)), (1, .int x)]) rfl ?_
  refine hl_iload_n h 1 dX5_extra_0 rfl ?_
  exact hl_tcallS h hz het hlocks (st := []) (x_X5_checkInn l D cI cZ cJ a g hst x h1) (va_cwS 1 h.2.2.2.2.1 gX5_extra_X5_checkInn rfl rfl rfl (by decide +kernel) ⟨Nat.le_of_ble_eq_true rfl, Nat.le_of_ble_eq_true rfl⟩) dX5_extra_1 rfl (Nat.le_of_ble_eq_true rfl) ⟨Nat.le_of_ble_eq_true rfl, Nat.le_of_ble_eq_true rfl⟩ rfl

set_option maxHeartbeats 4000000 in
set_option maxRecDepth 100000 in
theorem x_X5_clean_1 (l : Launch) (D : va_G) (cI cZ cJ : ClassId) (a : Nat → Nat) (g : Nat → Nat → Int32) (hst : l.stackTraces = false) (x : Int32) (h1 : ¬ vp_in x 4) : hl_KT D (hl_ty cI cZ cJ) l yX5_clean wsX5_clean ({ frames := 7, cells := 1, slots := 6, locals := 102 } : Room) [.ref (a 0), .int x] (hl_WC a cI cZ g) hl_EI := by
  refine hl_KT_of (cc := cX5_clean) (maxL := 2) (ret := (some .int)) (by decide) rfl (Nat.le_of_ble_eq_true rfl) ?_
  intro p e s m args below meth c h hz het hlocks
  refine hl_ls (ls' := [(0, .ref (a 0)), (1, .int x)]) rfl ?_
  refine hl_iload_n h 1 dX5_clean_0 rfl ?_
  exact hl_tcallS h hz het hlocks (st := []) (x_X5_checkInn l D cI cZ cJ a g hst x h1) (va_cwS 1 h.2.2.2.2.1 gX5_clean_X5_checkInn rfl rfl rfl (by decide +kernel) ⟨Nat.le_of_ble_eq_true rfl, Nat.le_of_ble_eq_true rfl⟩) dX5_clean_1 rfl (Nat.le_of_ble_eq_true rfl) ⟨Nat.le_of_ble_eq_true rfl, Nat.le_of_ble_eq_true rfl⟩ rfl

set_option maxHeartbeats 4000000 in
set_option maxRecDepth 100000 in
theorem x_X5_away_1 (l : Launch) (D : va_G) (cI cZ cJ : ClassId) (a : Nat → Nat) (g : Nat → Nat → Int32) (hst : l.stackTraces = false) (x : Int32) (h1 : ¬ vp_in x 4) : hl_KT D (hl_ty cI cZ cJ) l yX5_away wsX5_away ({ frames := 7, cells := 1, slots := 6, locals := 102 } : Room) [.ref (a 0), .int x] (hl_WC a cI cZ g) hl_EI := by
  refine hl_KT_of (cc := cX5_away) (maxL := 2) (ret := (some .int)) (by decide) rfl (Nat.le_of_ble_eq_true rfl) ?_
  intro p e s m args below meth c h hz het hlocks
  refine hl_ls (ls' := [(0, .ref (a 0)), (1, .int x)]) rfl ?_
  refine hl_iload_n h 1 dX5_away_0 rfl ?_
  exact hl_tcallS h hz het hlocks (st := []) (x_X5_checkInn l D cI cZ cJ a g hst x h1) (va_cwS 1 h.2.2.2.2.1 gX5_away_X5_checkInn rfl rfl rfl (by decide +kernel) ⟨Nat.le_of_ble_eq_true rfl, Nat.le_of_ble_eq_true rfl⟩) dX5_away_1 rfl (Nat.le_of_ble_eq_true rfl) ⟨Nat.le_of_ble_eq_true rfl, Nat.le_of_ble_eq_true rfl⟩ rfl

set_option maxHeartbeats 4000000 in
set_option maxRecDepth 100000 in
theorem x_X5_purse_1 (l : Launch) (D : va_G) (cI cZ cJ : ClassId) (a : Nat → Nat) (g : Nat → Nat → Int32) (hst : l.stackTraces = false) (x : Int32) (h1 : ¬ vp_in x 4) : hl_KT D (hl_ty cI cZ cJ) l yX5_purse wsX5_purse ({ frames := 7, cells := 1, slots := 6, locals := 102 } : Room) [.ref (a 0), .int x] (hl_WC a cI cZ g) hl_EI := by
  refine hl_KT_of (cc := cX5_purse) (maxL := 2) (ret := (some .int)) (by decide) rfl (Nat.le_of_ble_eq_true rfl) ?_
  intro p e s m args below meth c h hz het hlocks
  refine hl_ls (ls' := [(0, .ref (a 0)), (1, .int x)]) rfl ?_
  refine hl_iload_n h 1 dX5_purse_0 rfl ?_
  exact hl_tcallS h hz het hlocks (st := []) (x_X5_checkInn l D cI cZ cJ a g hst x h1) (va_cwS 1 h.2.2.2.2.1 gX5_purse_X5_checkInn rfl rfl rfl (by decide +kernel) ⟨Nat.le_of_ble_eq_true rfl, Nat.le_of_ble_eq_true rfl⟩) dX5_purse_1 rfl (Nat.le_of_ble_eq_true rfl) ⟨Nat.le_of_ble_eq_true rfl, Nat.le_of_ble_eq_true rfl⟩ rfl

set_option maxHeartbeats 4000000 in
set_option maxRecDepth 100000 in
theorem x_X5_sleeps_1 (l : Launch) (D : va_G) (cI cZ cJ : ClassId) (a : Nat → Nat) (g : Nat → Nat → Int32) (hst : l.stackTraces = false) (x : Int32) (h1 : ¬ (¬ x < 0 ∧ x < g 16 0)) : hl_KT D (hl_ty cI cZ cJ) l yX5_sleeps wsX5_sleeps ({ frames := 7, cells := 1, slots := 6, locals := 103 } : Room) [.ref (a 0), .int x] (hl_WC a cI cZ g) hl_EI := by
  refine hl_KT_of (cc := cX5_sleeps) (maxL := 2) (ret := (some .int)) (by decide) rfl (Nat.le_of_ble_eq_true rfl) ?_
  intro p e s m args below meth c h hz het hlocks
  refine hl_ls (ls' := [(0, .ref (a 0)), (1, .int x)]) rfl ?_
  refine hl_aload_n h 0 dX5_sleeps_0 rfl ?_
  refine hl_iload_n h 1 dX5_sleeps_1 rfl ?_
  exact hl_tcallV h hz het hlocks (st := []) (x_X5_checkBooking l D cI cZ cJ a g hst x h1) (cwV 1 h.2.2.2.2.1 gX5_sleeps_X5_checkBooking rfl rfl rfl (by decide +kernel) ⟨Nat.le_of_ble_eq_true rfl, Nat.le_of_ble_eq_true rfl⟩) hl_wc_0 rfl dX5_sleeps_2 rfl (Nat.le_of_ble_eq_true rfl) ⟨Nat.le_of_ble_eq_true rfl, Nat.le_of_ble_eq_true rfl⟩ rfl

set_option maxHeartbeats 4000000 in
set_option maxRecDepth 100000 in
theorem x_X5_points_1 (l : Launch) (D : va_G) (cI cZ cJ : ClassId) (a : Nat → Nat) (g : Nat → Nat → Int32) (hst : l.stackTraces = false) (x : Int32) (h1 : ¬ vp_in x 10) : hl_KT D (hl_ty cI cZ cJ) l yX5_points wsX5_points ({ frames := 7, cells := 1, slots := 6, locals := 102 } : Room) [.ref (a 0), .int x] (hl_WC a cI cZ g) hl_EI := by
  refine hl_KT_of (cc := cX5_points) (maxL := 2) (ret := (some .int)) (by decide) rfl (Nat.le_of_ble_eq_true rfl) ?_
  intro p e s m args below meth c h hz het hlocks
  refine hl_ls (ls' := [(0, .ref (a 0)), (1, .int x)]) rfl ?_
  refine hl_iload_n h 1 dX5_points_0 rfl ?_
  exact hl_tcallS h hz het hlocks (st := []) (x_X5_checkGuest l D cI cZ cJ a g hst x h1) (va_cwS 1 h.2.2.2.2.1 gX5_points_X5_checkGuest rfl rfl rfl (by decide +kernel) ⟨Nat.le_of_ble_eq_true rfl, Nat.le_of_ble_eq_true rfl⟩) dX5_points_1 rfl (Nat.le_of_ble_eq_true rfl) ⟨Nat.le_of_ble_eq_true rfl, Nat.le_of_ble_eq_true rfl⟩ rfl

set_option maxHeartbeats 4000000 in
set_option maxRecDepth 100000 in
theorem x_X5_owes_1 (l : Launch) (D : va_G) (cI cZ cJ : ClassId) (a : Nat → Nat) (g : Nat → Nat → Int32) (hst : l.stackTraces = false) (x y : Int32) (h1 : ¬ vp_in x 4) : hl_KT D (hl_ty cI cZ cJ) l yX5_owes wsX5_owes ({ frames := 7, cells := 1, slots := 6, locals := 102 } : Room) [.ref (a 0), .int x, .int y] (hl_WC a cI cZ g) hl_EI := by
  refine hl_KT_of (cc := cX5_owes) (maxL := 3) (ret := (some .int)) (by decide) rfl (Nat.le_of_ble_eq_true rfl) ?_
  intro p e s m args below meth c h hz het hlocks
  refine hl_ls (ls' := [(0, .ref (a 0)), (1, .int x), (2, .int y)]) rfl ?_
  refine hl_iload_n h 1 dX5_owes_0 rfl ?_
  exact hl_tcallS h hz het hlocks (st := []) (x_X5_checkInn l D cI cZ cJ a g hst x h1) (va_cwS 1 h.2.2.2.2.1 gX5_owes_X5_checkInn rfl rfl rfl (by decide +kernel) ⟨Nat.le_of_ble_eq_true rfl, Nat.le_of_ble_eq_true rfl⟩) dX5_owes_1 rfl (Nat.le_of_ble_eq_true rfl) ⟨Nat.le_of_ble_eq_true rfl, Nat.le_of_ble_eq_true rfl⟩ rfl

set_option maxHeartbeats 4000000 in
set_option maxRecDepth 100000 in
theorem x_X5_owes_2 (l : Launch) (D : va_G) (cI cZ cJ : ClassId) (a : Nat → Nat) (g : Nat → Nat → Int32) (hst : l.stackTraces = false) (x y : Int32) (h1 : vp_in x 4) (h2 : ¬ vp_in y 4) : hl_KT D (hl_ty cI cZ cJ) l yX5_owes wsX5_owes ({ frames := 7, cells := 1, slots := 6, locals := 102 } : Room) [.ref (a 0), .int x, .int y] (hl_WC a cI cZ g) hl_EI := by
  refine hl_KT_of (cc := cX5_owes) (maxL := 3) (ret := (some .int)) (by decide) rfl (Nat.le_of_ble_eq_true rfl) ?_
  intro p e s m args below meth c h hz het hlocks
  refine hl_ls (ls' := [(0, .ref (a 0)), (1, .int x), (2, .int y)]) rfl ?_
  refine hl_iload_n h 1 dX5_owes_0 rfl ?_
  refine hl_callSvD h (st := []) (c_X5_checkInn l D cI cZ cJ a g x (by with_reducible assumption)) (va_cwS 1 h.2.2.2.2.1 gX5_owes_X5_checkInn rfl rfl rfl (by decide +kernel) ⟨Nat.le_of_ble_eq_true rfl, Nat.le_of_ble_eq_true rfl⟩) dX5_owes_1 rfl (Nat.le_of_ble_eq_true rfl) ⟨Nat.le_of_ble_eq_true rfl, Nat.le_of_ble_eq_true rfl⟩ rfl ?_
  refine hl_iload_n h 2 dX5_owes_4 rfl ?_
  exact hl_tcallS h hz het hlocks (st := []) (x_X5_checkInn l D cI cZ cJ a g hst y h2) (va_cwS 1 h.2.2.2.2.1 gX5_owes_X5_checkInn rfl rfl rfl (by decide +kernel) ⟨Nat.le_of_ble_eq_true rfl, Nat.le_of_ble_eq_true rfl⟩) dX5_owes_5 rfl (Nat.le_of_ble_eq_true rfl) ⟨Nat.le_of_ble_eq_true rfl, Nat.le_of_ble_eq_true rfl⟩ rfl
