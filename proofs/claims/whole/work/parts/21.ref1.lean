set_option maxHeartbeats 4000000 in
set_option maxRecDepth 100000 in
theorem c_X6_thrown (l : Launch) (D : va_G) (cI cZ cJ : ClassId) (b : Nat → Nat) (t : Nat → Nat → Int32) : hl_KI D (hl_ty cI cZ cJ) l yX6_thrown wsX6_thrown ({ frames := 0, cells := 0, slots := 0, locals := 0 } : Room) 0 0 [.ref (b 0)] (hl_WM b cI cZ t) (fun r w => r = t 23 0 ∧ w = hl_WM b cI cZ t) := by
  refine hl_KI_of (cc := cX6_thrown) (maxL := 1) .int rfl (fun _ => Or.inr rfl) (by decide) rfl (Nat.le_of_ble_eq_true rfl) ?_
  intro p e s m args below meth c A Q h hend
  have hi6 : ∀ z ∈ wsX60, z ∈ wsX6_thrown := by decide +kernel
  refine hl_ls (ls' := [(0, .ref (b 0))]) rfl ?_
  refine hl_aload_n h 0 dX6_thrown_0 rfl ?_
  refine hl_get h hi6 hl_wm_0 rfl 23 rfl dX6_thrown_1 (by decide) (by decide +kernel) ?_
  exact hend dX6_thrown_4 (fun h9 => nomatch h9) (by
    exact ⟨by rfl, (congrArg (hl_WM b cI cZ) (by rfl))⟩)

set_option maxHeartbeats 4000000 in
set_option maxRecDepth 100000 in
theorem c_X6_in_T (l : Launch) (D : va_G) (cI cZ cJ : ClassId) (b : Nat → Nat) (t : Nat → Nat → Int32) (x y z : Int32) (h1 : ¬ x < y) (h2 : x ≤ z) : hl_KI D (hl_ty cI cZ cJ) l yX6_in wsX6_in ({ frames := 0, cells := 0, slots := 0, locals := 0 } : Room) 0 0 [.int x, .int y, .int z] (hl_WM b cI cZ t) (fun r w => r = 1 ∧ w = hl_WM b cI cZ t) := by
  refine hl_KI_of (cc := cX6_in) (maxL := 3) .boolean rfl (fun _ => Or.inl rfl) (by decide) rfl (Nat.le_of_ble_eq_true rfl) ?_
  intro p e s m args below meth c A Q h hend
  refine hl_ls (ls' := [(0, .int x), (1, .int y), (2, .int z)]) rfl ?_
  refine hl_iload_n h 0 dX6_in_0 rfl ?_
  refine hl_iload_n h 1 dX6_in_1 rfl ?_
  refine hl_icmp_lt_F h 14 dX6_in_2 (by decide) h1 ?_
  refine hl_iload_n h 0 dX6_in_5 rfl ?_
  refine hl_iload_n h 2 dX6_in_6 rfl ?_
  refine hl_icmp_gt_F h 14 dX6_in_7 (by decide) (hl_nlt h2) ?_
  refine hl_iconst h 1 dX6_in_10 (by decide) ?_
  refine hl_goto h 15 dX6_in_11 (by decide) ?_
  exact hend dX6_in_15 (fun _ => by decide) (by
    exact ⟨by rfl, (congrArg (hl_WM b cI cZ) (by rfl))⟩)

set_option maxHeartbeats 4000000 in
set_option maxRecDepth 100000 in
theorem c_X6_in_F (l : Launch) (D : va_G) (cI cZ cJ : ClassId) (b : Nat → Nat) (t : Nat → Nat → Int32) (x y z : Int32) (h1 : ¬ (¬ x < y ∧ x ≤ z)) : hl_KI D (hl_ty cI cZ cJ) l yX6_in wsX6_in ({ frames := 0, cells := 0, slots := 0, locals := 0 } : Room) 0 0 [.int x, .int y, .int z] (hl_WM b cI cZ t) (fun r w => r = 0 ∧ w = hl_WM b cI cZ t) := by
  refine hl_KI_of (cc := cX6_in) (maxL := 3) .boolean rfl (fun _ => Or.inl rfl) (by decide) rfl (Nat.le_of_ble_eq_true rfl) ?_
  intro p e s m args below meth c A Q h hend
  refine hl_ls (ls' := [(0, .int x), (1, .int y), (2, .int z)]) rfl ?_
  refine hl_iload_n h 0 dX6_in_0 rfl ?_
  refine hl_iload_n h 1 dX6_in_1 rfl ?_
  refine hl_icmp_lt h 14 dX6_in_2 (by decide) (fun c1 => ?_) (fun c1 => ?_)
  · refine hl_iconst h 0 dX6_in_14 (by decide) ?_
    exact hend dX6_in_15 (fun _ => by decide) (by
      exact ⟨by first | rfl | (simp [c1]; done) | (simp [c1]), (congrArg (hl_WM b cI cZ) (by first | rfl | (simp [c1]; done) | (simp [c1])))⟩)
  · refine hl_iload_n h 0 dX6_in_5 rfl ?_
    refine hl_iload_n h 2 dX6_in_6 rfl ?_
    refine hl_icmp_gt h 14 dX6_in_7 (by decide) (fun c2 => ?_) (fun c2 => ?_)
    · refine hl_iconst h 0 dX6_in_14 (by decide) ?_
      exact hend dX6_in_15 (fun _ => by decide) (by
        exact ⟨by first | rfl | (simp [c1, c2]; done) | (simp [c1, c2]), (congrArg (hl_WM b cI cZ) (by first | rfl | (simp [c1, c2]; done) | (simp [c1, c2])))⟩)
    · exact absurd ⟨c1, hl_le_of c2⟩ h1

set_option maxHeartbeats 4000000 in
set_option maxRecDepth 100000 in
theorem c_X6_isFine_0 (l : Launch) (D : va_G) (cI cZ cJ : ClassId) (b : Nat → Nat) (t : Nat → Nat → Int32) (x : Int32) (h1 : x = 0) : hl_KI D (hl_ty cI cZ cJ) l yX6_isFine wsX6_isFine ({ frames := 0, cells := 0, slots := 0, locals := 0 } : Room) 0 0 [.ref (b 0), .int x] (hl_WM b cI cZ t) (fun r w => r = 1 ∧ w = hl_WM b cI cZ (hl_su t 23 (fun _ => x))) := by
  refine hl_KI_of (cc := cX6_isFine) (maxL := 2) .boolean rfl (fun _ => Or.inl rfl) (by decide) rfl (Nat.le_of_ble_eq_true rfl) ?_
  intro p e s m args below meth c A Q h hend
  have hi6 : ∀ z ∈ wsX60, z ∈ wsX6_isFine := by decide +kernel
  refine hl_ls (ls' := [(0, .ref (b 0)), (1, .int x)]) rfl ?_
  refine hl_aload_n h 0 dX6_isFine_0 rfl ?_
  refine hl_iload_n h 1 dX6_isFine_1 rfl ?_
  refine hl_put h hi6 tyX6_ok nmX6 hl_wm_0 rfl 23 dX6_isFine_2 (by decide) (by decide +kernel) (by decide) rfl rfl (Nat.le_of_ble_eq_true rfl) hl_wm_s23 ?_
  refine hl_nmM (fun g1 e2 => ?_)
  refine hl_iload_n h 1 dX6_isFine_5 rfl ?_
  refine hl_if_ne_F h 13 dX6_isFine_6 (by decide) h1 ?_
  refine hl_iconst h 1 dX6_isFine_9 (by decide) ?_
  refine hl_goto h 14 dX6_isFine_10 (by decide) ?_
  exact hend dX6_isFine_14 (fun _ => by decide) (by
    subst e2
    exact ⟨by rfl, (congrArg (hl_WM b cI cZ) (by rfl))⟩)

set_option maxHeartbeats 4000000 in
set_option maxRecDepth 100000 in
theorem c_X6_isFine_n (l : Launch) (D : va_G) (cI cZ cJ : ClassId) (b : Nat → Nat) (t : Nat → Nat → Int32) (x : Int32) (h1 : ¬ x = 0) : hl_KI D (hl_ty cI cZ cJ) l yX6_isFine wsX6_isFine ({ frames := 0, cells := 0, slots := 0, locals := 0 } : Room) 0 0 [.ref (b 0), .int x] (hl_WM b cI cZ t) (fun r w => r = 0 ∧ w = hl_WM b cI cZ (hl_su t 23 (fun _ => x))) := by
  refine hl_KI_of (cc := cX6_isFine) (maxL := 2) .boolean rfl (fun _ => Or.inl rfl) (by decide) rfl (Nat.le_of_ble_eq_true rfl) ?_
  intro p e s m args below meth c A Q h hend
  have hi6 : ∀ z ∈ wsX60, z ∈ wsX6_isFine := by decide +kernel
  refine hl_ls (ls' := [(0, .ref (b 0)), (1, .int x)]) rfl ?_
  refine hl_aload_n h 0 dX6_isFine_0 rfl ?_
  refine hl_iload_n h 1 dX6_isFine_1 rfl ?_
  refine hl_put h hi6 tyX6_ok nmX6 hl_wm_0 rfl 23 dX6_isFine_2 (by decide) (by decide +kernel) (by decide) rfl rfl (Nat.le_of_ble_eq_true rfl) hl_wm_s23 ?_
  refine hl_nmM (fun g1 e2 => ?_)
  refine hl_iload_n h 1 dX6_isFine_5 rfl ?_
  refine hl_if_ne_T h 13 dX6_isFine_6 (by decide) h1 ?_
  refine hl_iconst h 0 dX6_isFine_13 (by decide) ?_
  exact hend dX6_isFine_14 (fun _ => by decide) (by
    subst e2
    exact ⟨by rfl, (congrArg (hl_WM b cI cZ) (by rfl))⟩)

set_option maxHeartbeats 4000000 in
set_option maxRecDepth 100000 in
theorem c_X6_isInn_T (l : Launch) (D : va_G) (cI cZ cJ : ClassId) (b : Nat → Nat) (t : Nat → Nat → Int32) (x : Int32) (h1 : vp_in x 4) : hl_KI D (hl_ty cI cZ cJ) l yX6_isInn wsX6_isInn ({ frames := 1, cells := 0, slots := 0, locals := 22 } : Room) 0 0 [.int x] (hl_WM b cI cZ t) (fun r w => r = 1 ∧ w = hl_WM b cI cZ t) := by
  refine hl_KI_of (cc := cX6_isInn) (maxL := 1) .boolean rfl (fun _ => Or.inl rfl) (by decide) rfl (Nat.le_of_ble_eq_true rfl) ?_
  intro p e s m args below meth c A Q h hend
  refine hl_ls (ls' := [(0, .int x)]) rfl ?_
  refine hl_iload_n h 0 dX6_isInn_0 rfl ?_
  refine hl_iconst h 0 dX6_isInn_1 (by decide) ?_
  refine hl_iconst h 3 dX6_isInn_2 (by decide) ?_
  refine hl_callSiD h (st := []) (c_X6_in_T l D cI cZ cJ b t x 0 3 (hl_in0 h1) (hl_inA 3 (by decide) h1)) (va_cwS 3 h.2.2.2.2.1 gX6_isInn_X6_in rfl rfl rfl (by decide +kernel) ⟨Nat.le_of_ble_eq_true rfl, Nat.le_of_ble_eq_true rfl⟩) dX6_isInn_3 rfl (Nat.le_of_ble_eq_true rfl) ⟨Nat.le_of_ble_eq_true rfl, Nat.le_of_ble_eq_true rfl⟩ rfl ?_
  exact hend dX6_isInn_6 (fun _ => by decide) (by
    exact ⟨by rfl, (congrArg (hl_WM b cI cZ) (by rfl))⟩)

set_option maxHeartbeats 4000000 in
set_option maxRecDepth 100000 in
theorem c_X6_isInn_F (l : Launch) (D : va_G) (cI cZ cJ : ClassId) (b : Nat → Nat) (t : Nat → Nat → Int32) (x : Int32) (h1 : ¬ vp_in x 4) : hl_KI D (hl_ty cI cZ cJ) l yX6_isInn wsX6_isInn ({ frames := 1, cells := 0, slots := 0, locals := 22 } : Room) 0 0 [.int x] (hl_WM b cI cZ t) (fun r w => r = 0 ∧ w = hl_WM b cI cZ t) := by
  refine hl_KI_of (cc := cX6_isInn) (maxL := 1) .boolean rfl (fun _ => Or.inl rfl) (by decide) rfl (Nat.le_of_ble_eq_true rfl) ?_
  intro p e s m args below meth c A Q h hend
  refine hl_ls (ls' := [(0, .int x)]) rfl ?_
  refine hl_iload_n h 0 dX6_isInn_0 rfl ?_
  refine hl_iconst h 0 dX6_isInn_1 (by decide) ?_
  refine hl_iconst h 3 dX6_isInn_2 (by decide) ?_
  refine hl_callSiD h (st := []) (c_X6_in_F l D cI cZ cJ b t x 0 3 (hl_inB 3 (by decide) h1)) (va_cwS 3 h.2.2.2.2.1 gX6_isInn_X6_in rfl rfl rfl (by decide +kernel) ⟨Nat.le_of_ble_eq_true rfl, Nat.le_of_ble_eq_true rfl⟩) dX6_isInn_3 rfl (Nat.le_of_ble_eq_true rfl) ⟨Nat.le_of_ble_eq_true rfl, Nat.le_of_ble_eq_true rfl⟩ rfl ?_
  exact hend dX6_isInn_6 (fun _ => by decide) (by
    exact ⟨by rfl, (congrArg (hl_WM b cI cZ) (by rfl))⟩)

set_option maxHeartbeats 4000000 in
set_option maxRecDepth 100000 in
theorem c_X6_isGuest_T (l : Launch) (D : va_G) (cI cZ cJ : ClassId) (b : Nat → Nat) (t : Nat → Nat → Int32) (x : Int32) (h1 : vp_in x 10) : hl_KI D (hl_ty cI cZ cJ) l yX6_isGuest wsX6_isGuest ({ frames := 1, cells := 0, slots := 0, locals := 22 } : Room) 0 0 [.int x] (hl_WM b cI cZ t) (fun r w => r = 1 ∧ w = hl_WM b cI cZ t) := by
  refine hl_KI_of (cc := cX6_isGuest) (maxL := 1) .boolean rfl (fun _ => Or.inl rfl) (by decide) rfl (Nat.le_of_ble_eq_true rfl) ?_
  intro p e s m args below meth c A Q h hend
  refine hl_ls (ls' := [(0, .int x)]) rfl ?_
  refine hl_iload_n h 0 dX6_isGuest_0 rfl ?_
  refine hl_iconst h 0 dX6_isGuest_1 (by decide) ?_
  refine hl_bipush h 9 dX6_isGuest_2 (by decide) ?_
  refine hl_callSiD h (st := []) (c_X6_in_T l D cI cZ cJ b t x 0 9 (hl_in0 h1) (hl_inA 9 (by decide) h1)) (va_cwS 3 h.2.2.2.2.1 gX6_isGuest_X6_in rfl rfl rfl (by decide +kernel) ⟨Nat.le_of_ble_eq_true rfl, Nat.le_of_ble_eq_true rfl⟩) dX6_isGuest_4 rfl (Nat.le_of_ble_eq_true rfl) ⟨Nat.le_of_ble_eq_true rfl, Nat.le_of_ble_eq_true rfl⟩ rfl ?_
  exact hend dX6_isGuest_7 (fun _ => by decide) (by
    exact ⟨by rfl, (congrArg (hl_WM b cI cZ) (by rfl))⟩)

set_option maxHeartbeats 4000000 in
set_option maxRecDepth 100000 in
theorem c_X6_isGuest_F (l : Launch) (D : va_G) (cI cZ cJ : ClassId) (b : Nat → Nat) (t : Nat → Nat → Int32) (x : Int32) (h1 : ¬ vp_in x 10) : hl_KI D (hl_ty cI cZ cJ) l yX6_isGuest wsX6_isGuest ({ frames := 1, cells := 0, slots := 0, locals := 22 } : Room) 0 0 [.int x] (hl_WM b cI cZ t) (fun r w => r = 0 ∧ w = hl_WM b cI cZ t) := by
  refine hl_KI_of (cc := cX6_isGuest) (maxL := 1) .boolean rfl (fun _ => Or.inl rfl) (by decide) rfl (Nat.le_of_ble_eq_true rfl) ?_
  intro p e s m args below meth c A Q h hend
  refine hl_ls (ls' := [(0, .int x)]) rfl ?_
  refine hl_iload_n h 0 dX6_isGuest_0 rfl ?_
  refine hl_iconst h 0 dX6_isGuest_1 (by decide) ?_
  refine hl_bipush h 9 dX6_isGuest_2 (by decide) ?_
  refine hl_callSiD h (st := []) (c_X6_in_F l D cI cZ cJ b t x 0 9 (hl_inB 9 (by decide) h1)) (va_cwS 3 h.2.2.2.2.1 gX6_isGuest_X6_in rfl rfl rfl (by decide +kernel) ⟨Nat.le_of_ble_eq_true rfl, Nat.le_of_ble_eq_true rfl⟩) dX6_isGuest_4 rfl (Nat.le_of_ble_eq_true rfl) ⟨Nat.le_of_ble_eq_true rfl, Nat.le_of_ble_eq_true rfl⟩ rfl ?_
  exact hend dX6_isGuest_7 (fun _ => by decide) (by
    exact ⟨by rfl, (congrArg (hl_WM b cI cZ) (by rfl))⟩)

set_option maxHeartbeats 4000000 in
set_option maxRecDepth 100000 in
theorem c_X6_isRoom_T (l : Launch) (D : va_G) (cI cZ cJ : ClassId) (b : Nat → Nat) (t : Nat → Nat → Int32) (x y : Int32) (h1 : vp_in x 4) (h2 : vp_in y 2) : hl_KI D (hl_ty cI cZ cJ) l yX6_isRoom wsX6_isRoom ({ frames := 2, cells := 0, slots := 0, locals := 42 } : Room) 0 0 [.int x, .int y] (hl_WM b cI cZ t) (fun r w => r = 1 ∧ w = hl_WM b cI cZ t) := by
  refine hl_KI_of (cc := cX6_isRoom) (maxL := 2) .boolean rfl (fun _ => Or.inl rfl) (by decide) rfl (Nat.le_of_ble_eq_true rfl) ?_
  intro p e s m args below meth c A Q h hend
  refine hl_ls (ls' := [(0, .int x), (1, .int y)]) rfl ?_
  refine hl_iload_n h 0 dX6_isRoom_0 rfl ?_
  refine hl_callSiD h (st := []) (c_X6_isInn_T l D cI cZ cJ b t x h1) (va_cwS 1 h.2.2.2.2.1 gX6_isRoom_X6_isInn rfl rfl rfl (by decide +kernel) ⟨Nat.le_of_ble_eq_true rfl, Nat.le_of_ble_eq_true rfl⟩) dX6_isRoom_1 rfl (Nat.le_of_ble_eq_true rfl) ⟨Nat.le_of_ble_eq_true rfl, Nat.le_of_ble_eq_true rfl⟩ rfl ?_
  refine hl_if_eq_F h 20 dX6_isRoom_4 (by decide) (by decide) ?_
  refine hl_iload_n h 1 dX6_isRoom_7 rfl ?_
  refine hl_iconst h 0 dX6_isRoom_8 (by decide) ?_
  refine hl_iconst h 1 dX6_isRoom_9 (by decide) ?_
  refine hl_callSiD h (st := []) (c_X6_in_T l D cI cZ cJ b t y 0 1 (hl_in0 h2) (hl_inA 1 (by decide) h2)) (va_cwS 3 h.2.2.2.2.1 gX6_isRoom_X6_in rfl rfl rfl (by decide +kernel) ⟨Nat.le_of_ble_eq_true rfl, Nat.le_of_ble_eq_true rfl⟩) dX6_isRoom_10 rfl (Nat.le_of_ble_eq_true rfl) ⟨Nat.le_of_ble_eq_true rfl, Nat.le_of_ble_eq_true rfl⟩ rfl ?_
  refine hl_if_eq_F h 20 dX6_isRoom_13 (by decide) (by decide) ?_
  refine hl_iconst h 1 dX6_isRoom_16 (by decide) ?_
  refine hl_goto h 21 dX6_isRoom_17 (by decide) ?_
  exact hend dX6_isRoom_21 (fun _ => by decide) (by
    exact ⟨by rfl, (congrArg (hl_WM b cI cZ) (by rfl))⟩)

set_option maxHeartbeats 4000000 in
set_option maxRecDepth 100000 in
theorem c_X6_isRoom_1 (l : Launch) (D : va_G) (cI cZ cJ : ClassId) (b : Nat → Nat) (t : Nat → Nat → Int32) (x y : Int32) (h1 : ¬ vp_in x 4) : hl_KI D (hl_ty cI cZ cJ) l yX6_isRoom wsX6_isRoom ({ frames := 2, cells := 0, slots := 0, locals := 42 } : Room) 0 0 [.int x, .int y] (hl_WM b cI cZ t) (fun r w => r = 0 ∧ w = hl_WM b cI cZ t) := by
  refine hl_KI_of (cc := cX6_isRoom) (maxL := 2) .boolean rfl (fun _ => Or.inl rfl) (by decide) rfl (Nat.le_of_ble_eq_true rfl) ?_
  intro p e s m args below meth c A Q h hend
  refine hl_ls (ls' := [(0, .int x), (1, .int y)]) rfl ?_
  refine hl_iload_n h 0 dX6_isRoom_0 rfl ?_
  refine hl_callSiD h (st := []) (c_X6_isInn_F l D cI cZ cJ b t x h1) (va_cwS 1 h.2.2.2.2.1 gX6_isRoom_X6_isInn rfl rfl rfl (by decide +kernel) ⟨Nat.le_of_ble_eq_true rfl, Nat.le_of_ble_eq_true rfl⟩) dX6_isRoom_1 rfl (Nat.le_of_ble_eq_true rfl) ⟨Nat.le_of_ble_eq_true rfl, Nat.le_of_ble_eq_true rfl⟩ rfl ?_
  refine hl_if_eq_T h 20 dX6_isRoom_4 (by decide) (by decide) ?_
  refine hl_iconst h 0 dX6_isRoom_20 (by decide) ?_
  exact hend dX6_isRoom_21 (fun _ => by decide) (by
    exact ⟨by rfl, (congrArg (hl_WM b cI cZ) (by rfl))⟩)

set_option maxHeartbeats 4000000 in
set_option maxRecDepth 100000 in
theorem c_X6_isRoom_2 (l : Launch) (D : va_G) (cI cZ cJ : ClassId) (b : Nat → Nat) (t : Nat → Nat → Int32) (x y : Int32) (h1 : vp_in x 4) (h2 : ¬ vp_in y 2) : hl_KI D (hl_ty cI cZ cJ) l yX6_isRoom wsX6_isRoom ({ frames := 2, cells := 0, slots := 0, locals := 42 } : Room) 0 0 [.int x, .int y] (hl_WM b cI cZ t) (fun r w => r = 0 ∧ w = hl_WM b cI cZ t) := by
  refine hl_KI_of (cc := cX6_isRoom) (maxL := 2) .boolean rfl (fun _ => Or.inl rfl) (by decide) rfl (Nat.le_of_ble_eq_true rfl) ?_
  intro p e s m args below meth c A Q h hend
  refine hl_ls (ls' := [(0, .int x), (1, .int y)]) rfl ?_
  refine hl_iload_n h 0 dX6_isRoom_0 rfl ?_
  refine hl_callSiD h (st := []) (c_X6_isInn_T l D cI cZ cJ b t x h1) (va_cwS 1 h.2.2.2.2.1 gX6_isRoom_X6_isInn rfl rfl rfl (by decide +kernel) ⟨Nat.le_of_ble_eq_true rfl, Nat.le_of_ble_eq_true rfl⟩) dX6_isRoom_1 rfl (Nat.le_of_ble_eq_true rfl) ⟨Nat.le_of_ble_eq_true rfl, Nat.le_of_ble_eq_true rfl⟩ rfl ?_
  refine hl_if_eq_F h 20 dX6_isRoom_4 (by decide) (by decide) ?_
  refine hl_iload_n h 1 dX6_isRoom_7 rfl ?_
  refine hl_iconst h 0 dX6_isRoom_8 (by decide) ?_
  refine hl_iconst h 1 dX6_isRoom_9 (by decide) ?_
  refine hl_callSiD h (st := []) (c_X6_in_F l D cI cZ cJ b t y 0 1 (hl_inB 1 (by decide) h2)) (va_cwS 3 h.2.2.2.2.1 gX6_isRoom_X6_in rfl rfl rfl (by decide +kernel) ⟨Nat.le_of_ble_eq_true rfl, Nat.le_of_ble_eq_true rfl⟩) dX6_isRoom_10 rfl (Nat.le_of_ble_eq_true rfl) ⟨Nat.le_of_ble_eq_true rfl, Nat.le_of_ble_eq_true rfl⟩ rfl ?_
  refine hl_if_eq_T h 20 dX6_isRoom_13 (by decide) (by decide) ?_
  refine hl_iconst h 0 dX6_isRoom_20 (by decide) ?_
  exact hend dX6_isRoom_21 (fun _ => by decide) (by
    exact ⟨by rfl, (congrArg (hl_WM b cI cZ) (by rfl))⟩)

set_option maxHeartbeats 4000000 in
set_option maxRecDepth 100000 in
theorem c_X6_setRooms_1 (l : Launch) (D : va_G) (cI cZ cJ : ClassId) (b : Nat → Nat) (t : Nat → Nat → Int32) (x y n q : Int32) (h1 : ¬ vp_in x 4) : hl_KI D (hl_ty cI cZ cJ) l yX6_setRooms wsX6_setRooms ({ frames := 3, cells := 0, slots := 0, locals := 63 } : Room) 0 0 [.ref (b 0), .int x, .int y, .int n, .int q] (hl_WM b cI cZ t) (fun r w => r = 0 ∧ w = hl_WM b cI cZ (hl_su t 23 (fun _ => 1))) := by
  refine hl_KI_of (cc := cX6_setRooms) (maxL := 6) .int rfl (fun _ => Or.inr rfl) (by decide) rfl (Nat.le_of_ble_eq_true rfl) ?_
  intro p e s m args below meth c A Q h hend
  refine hl_ls (ls' := [(0, .ref (b 0)), (1, .int x), (2, .int y), (3, .int n), (4, .int q)]) rfl ?_
  refine hl_aload_n h 0 dX6_setRooms_0 rfl ?_
  refine hl_iload_n h 1 dX6_setRooms_1 rfl ?_
  refine hl_iload_n h 2 dX6_setRooms_2 rfl ?_
  refine hl_callSiD h (st := [.ref (b 0)]) (c_X6_isRoom_1 l D cI cZ cJ b t x y h1) (va_cwS 2 h.2.2.2.2.1 gX6_setRooms_X6_isRoom rfl rfl rfl (by decide +kernel) ⟨Nat.le_of_ble_eq_true rfl, Nat.le_of_ble_eq_true rfl⟩) dX6_setRooms_3 rfl (Nat.le_of_ble_eq_true rfl) ⟨Nat.le_of_ble_eq_true rfl, Nat.le_of_ble_eq_true rfl⟩ rfl ?_
  refine hl_if_ne_F h 13 dX6_setRooms_6 (by decide) (by decide) ?_
  refine hl_iconst h 1 dX6_setRooms_9 (by decide) ?_
  refine hl_goto h 39 dX6_setRooms_10 (by decide) ?_
  refine hl_callViD h (st := []) (c_X6_isFine_n l D cI cZ cJ b t 1 (by decide)) (cwV 1 h.2.2.2.2.1 gX6_setRooms_X6_isFine rfl rfl rfl (by decide +kernel) ⟨Nat.le_of_ble_eq_true rfl, Nat.le_of_ble_eq_true rfl⟩) hl_wm_0 rfl dX6_setRooms_39 rfl (Nat.le_of_ble_eq_true rfl) ⟨Nat.le_of_ble_eq_true rfl, Nat.le_of_ble_eq_true rfl⟩ rfl ?_
  refine hl_nmM (fun g7 e8 => ?_)
  refine hl_if_ne_F h 47 dX6_setRooms_42 (by decide) (by decide) ?_
  refine hl_iconst h 0 dX6_setRooms_45 (by decide) ?_
  exact hend dX6_setRooms_46 (fun h9 => nomatch h9) (by
    subst e8
    exact ⟨by rfl, (congrArg (hl_WM b cI cZ) (by rfl))⟩)

set_option maxHeartbeats 4000000 in
set_option maxRecDepth 100000 in
theorem c_X6_setRooms_2 (l : Launch) (D : va_G) (cI cZ cJ : ClassId) (b : Nat → Nat) (t : Nat → Nat → Int32) (x y n q : Int32) (h1 : vp_in x 4) (h2 : ¬ vp_in y 2) : hl_KI D (hl_ty cI cZ cJ) l yX6_setRooms wsX6_setRooms ({ frames := 3, cells := 0, slots := 0, locals := 63 } : Room) 0 0 [.ref (b 0), .int x, .int y, .int n, .int q] (hl_WM b cI cZ t) (fun r w => r = 0 ∧ w = hl_WM b cI cZ (hl_su t 23 (fun _ => 1))) := by
  refine hl_KI_of (cc := cX6_setRooms) (maxL := 6) .int rfl (fun _ => Or.inr rfl) (by decide) rfl (Nat.le_of_ble_eq_true rfl) ?_
  intro p e s m args below meth c A Q h hend
  refine hl_ls (ls' := [(0, .ref (b 0)), (1, .int x), (2, .int y), (3, .int n), (4, .int q)]) rfl ?_
  refine hl_aload_n h 0 dX6_setRooms_0 rfl ?_
  refine hl_iload_n h 1 dX6_setRooms_1 rfl ?_
  refine hl_iload_n h 2 dX6_setRooms_2 rfl ?_
  refine hl_callSiD h (st := [.ref (b 0)]) (c_X6_isRoom_2 l D cI cZ cJ b t x y h1 h2) (va_cwS 2 h.2.2.2.2.1 gX6_setRooms_X6_isRoom rfl rfl rfl (by decide +kernel) ⟨Nat.le_of_ble_eq_true rfl, Nat.le_of_ble_eq_true rfl⟩) dX6_setRooms_3 rfl (Nat.le_of_ble_eq_true rfl) ⟨Nat.le_of_ble_eq_true rfl, Nat.le_of_ble_eq_true rfl⟩ rfl ?_
  refine hl_if_ne_F h 13 dX6_setRooms_6 (by decide) (by decide) ?_
  refine hl_iconst h 1 dX6_setRooms_9 (by decide) ?_
  refine hl_goto h 39 dX6_setRooms_10 (by decide) ?_
  refine hl_callViD h (st := []) (c_X6_isFine_n l D cI cZ cJ b t 1 (by decide)) (cwV 1 h.2.2.2.2.1 gX6_setRooms_X6_isFine rfl rfl rfl (by decide +kernel) ⟨Nat.le_of_ble_eq_true rfl, Nat.le_of_ble_eq_true rfl⟩) hl_wm_0 rfl dX6_setRooms_39 rfl (Nat.le_of_ble_eq_true rfl) ⟨Nat.le_of_ble_eq_true rfl, Nat.le_of_ble_eq_true rfl⟩ rfl ?_
  refine hl_nmM (fun g7 e8 => ?_)
  refine hl_if_ne_F h 47 dX6_setRooms_42 (by decide) (by decide) ?_
  refine hl_iconst h 0 dX6_setRooms_45 (by decide) ?_
  exact hend dX6_setRooms_46 (fun h9 => nomatch h9) (by
    subst e8
    exact ⟨by rfl, (congrArg (hl_WM b cI cZ) (by rfl))⟩)

set_option maxHeartbeats 4000000 in
set_option maxRecDepth 100000 in
theorem c_X6_setRooms_3 (l : Launch) (D : va_G) (cI cZ cJ : ClassId) (b : Nat → Nat) (t : Nat → Nat → Int32) (x y n q : Int32) (h1 : vp_in x 4) (h2 : vp_in y 2) (h3 : ¬ (¬ n < 0 ∧ n ≤ 10)) : hl_KI D (hl_ty cI cZ cJ) l yX6_setRooms wsX6_setRooms ({ frames := 3, cells := 0, slots := 0, locals := 63 } : Room) 0 0 [.ref (b 0), .int x, .int y, .int n, .int q] (hl_WM b cI cZ t) (fun r w => r = 0 ∧ w = hl_WM b cI cZ (hl_su t 23 (fun _ => 2))) := by
  refine hl_KI_of (cc := cX6_setRooms) (maxL := 6) .int rfl (fun _ => Or.inr rfl) (by decide) rfl (Nat.le_of_ble_eq_true rfl) ?_
  intro p e s m args below meth c A Q h hend
  refine hl_ls (ls' := [(0, .ref (b 0)), (1, .int x), (2, .int y), (3, .int n), (4, .int q)]) rfl ?_
  refine hl_aload_n h 0 dX6_setRooms_0 rfl ?_
  refine hl_iload_n h 1 dX6_setRooms_1 rfl ?_
  refine hl_iload_n h 2 dX6_setRooms_2 rfl ?_
  refine hl_callSiD h (st := [.ref (b 0)]) (c_X6_isRoom_T l D cI cZ cJ b t x y h1 h2) (va_cwS 2 h.2.2.2.2.1 gX6_setRooms_X6_isRoom rfl rfl rfl (by decide +kernel) ⟨Nat.le_of_ble_eq_true rfl, Nat.le_of_ble_eq_true rfl⟩) dX6_setRooms_3 rfl (Nat.le_of_ble_eq_true rfl) ⟨Nat.le_of_ble_eq_true rfl, Nat.le_of_ble_eq_true rfl⟩ rfl ?_
  refine hl_if_ne_T h 13 dX6_setRooms_6 (by decide) (by decide) ?_
  refine hl_iload_n h 3 dX6_setRooms_13 rfl ?_
  refine hl_iconst h 0 dX6_setRooms_14 (by decide) ?_
  refine hl_bipush h 10 dX6_setRooms_15 (by decide) ?_
  refine hl_callSiD h (st := [.ref (b 0)]) (c_X6_in_F l D cI cZ cJ b t n 0 10 h3) (va_cwS 3 h.2.2.2.2.1 gX6_setRooms_X6_in rfl rfl rfl (by decide +kernel) ⟨Nat.le_of_ble_eq_true rfl, Nat.le_of_ble_eq_true rfl⟩) dX6_setRooms_17 rfl (Nat.le_of_ble_eq_true rfl) ⟨Nat.le_of_ble_eq_true rfl, Nat.le_of_ble_eq_true rfl⟩ rfl ?_
  refine hl_if_eq_T h 34 dX6_setRooms_20 (by decide) (by decide) ?_
  refine hl_iconst h 2 dX6_setRooms_34 (by decide) ?_
  refine hl_goto h 39 dX6_setRooms_35 (by decide) ?_
  refine hl_callViD h (st := []) (c_X6_isFine_n l D cI cZ cJ b t 2 (by decide)) (cwV 1 h.2.2.2.2.1 gX6_setRooms_X6_isFine rfl rfl rfl (by decide +kernel) ⟨Nat.le_of_ble_eq_true rfl, Nat.le_of_ble_eq_true rfl⟩) hl_wm_0 rfl dX6_setRooms_39 rfl (Nat.le_of_ble_eq_true rfl) ⟨Nat.le_of_ble_eq_true rfl, Nat.le_of_ble_eq_true rfl⟩ rfl ?_
  refine hl_nmM (fun g10 e11 => ?_)
  refine hl_if_ne_F h 47 dX6_setRooms_42 (by decide) (by decide) ?_
  refine hl_iconst h 0 dX6_setRooms_45 (by decide) ?_
  exact hend dX6_setRooms_46 (fun h9 => nomatch h9) (by
    subst e11
    exact ⟨by rfl, (congrArg (hl_WM b cI cZ) (by rfl))⟩)

set_option maxHeartbeats 4000000 in
set_option maxRecDepth 100000 in
theorem c_X6_setRooms_4 (l : Launch) (D : va_G) (cI cZ cJ : ClassId) (b : Nat → Nat) (t : Nat → Nat → Int32) (x y n q : Int32) (h1 : vp_in x 4) (h2 : vp_in y 2) (h3 : ¬ n < 0) (h4 : n ≤ 10) (h5 : ¬ (¬ q < 1 ∧ q ≤ 100)) : hl_KI D (hl_ty cI cZ cJ) l yX6_setRooms wsX6_setRooms ({ frames := 3, cells := 0, slots := 0, locals := 63 } : Room) 0 0 [.ref (b 0), .int x, .int y, .int n, .int q] (hl_WM b cI cZ t) (fun r w => r = 0 ∧ w = hl_WM b cI cZ (hl_su t 23 (fun _ => 2))) := by
  refine hl_KI_of (cc := cX6_setRooms) (maxL := 6) .int rfl (fun _ => Or.inr rfl) (by decide) rfl (Nat.le_of_ble_eq_true rfl) ?_
  intro p e s m args below meth c A Q h hend
  refine hl_ls (ls' := [(0, .ref (b 0)), (1, .int x), (2, .int y), (3, .int n), (4, .int q)]) rfl ?_
  refine hl_aload_n h 0 dX6_setRooms_0 rfl ?_
  refine hl_iload_n h 1 dX6_setRooms_1 rfl ?_
  refine hl_iload_n h 2 dX6_setRooms_2 rfl ?_
  refine hl_callSiD h (st := [.ref (b 0)]) (c_X6_isRoom_T l D cI cZ cJ b t x y h1 h2) (va_cwS 2 h.2.2.2.2.1 gX6_setRooms_X6_isRoom rfl rfl rfl (by decide +kernel) ⟨Nat.le_of_ble_eq_true rfl, Nat.le_of_ble_eq_true rfl⟩) dX6_setRooms_3 rfl (Nat.le_of_ble_eq_true rfl) ⟨Nat.le_of_ble_eq_true rfl, Nat.le_of_ble_eq_true rfl⟩ rfl ?_
  refine hl_if_ne_T h 13 dX6_setRooms_6 (by decide) (by decide) ?_
  refine hl_iload_n h 3 dX6_setRooms_13 rfl ?_
  refine hl_iconst h 0 dX6_setRooms_14 (by decide) ?_
  refine hl_bipush h 10 dX6_setRooms_15 (by decide) ?_
  refine hl_callSiD h (st := [.ref (b 0)]) (c_X6_in_T l D cI cZ cJ b t n 0 10 h3 h4) (va_cwS 3 h.2.2.2.2.1 gX6_setRooms_X6_in rfl rfl rfl (by decide +kernel) ⟨Nat.le_of_ble_eq_true rfl, Nat.le_of_ble_eq_true rfl⟩) dX6_setRooms_17 rfl (Nat.le_of_ble_eq_true rfl) ⟨Nat.le_of_ble_eq_true rfl, Nat.le_of_ble_eq_true rfl⟩ rfl ?_
  refine hl_if_eq_F h 34 dX6_setRooms_20 (by decide) (by decide) ?_
  refine hl_iload h 4 dX6_setRooms_23 rfl ?_
  refine hl_iconst h 1 dX6_setRooms_25 (by decide) ?_
  refine hl_bipush h 100 dX6_setRooms_26 (by decide) ?_
  refine hl_callSiD h (st := [.ref (b 0)]) (c_X6_in_F l D cI cZ cJ b t q 1 100 h5) (va_cwS 3 h.2.2.2.2.1 gX6_setRooms_X6_in rfl rfl rfl (by decide +kernel) ⟨Nat.le_of_ble_eq_true rfl, Nat.le_of_ble_eq_true rfl⟩) dX6_setRooms_28 rfl (Nat.le_of_ble_eq_true rfl) ⟨Nat.le_of_ble_eq_true rfl, Nat.le_of_ble_eq_true rfl⟩ rfl ?_
  refine hl_if_ne_F h 38 dX6_setRooms_31 (by decide) (by decide) ?_
  refine hl_iconst h 2 dX6_setRooms_34 (by decide) ?_
  refine hl_goto h 39 dX6_setRooms_35 (by decide) ?_
  refine hl_callViD h (st := []) (c_X6_isFine_n l D cI cZ cJ b t 2 (by decide)) (cwV 1 h.2.2.2.2.1 gX6_setRooms_X6_isFine rfl rfl rfl (by decide +kernel) ⟨Nat.le_of_ble_eq_true rfl, Nat.le_of_ble_eq_true rfl⟩) hl_wm_0 rfl dX6_setRooms_39 rfl (Nat.le_of_ble_eq_true rfl) ⟨Nat.le_of_ble_eq_true rfl, Nat.le_of_ble_eq_true rfl⟩ rfl ?_
  refine hl_nmM (fun g13 e14 => ?_)
  refine hl_if_ne_F h 47 dX6_setRooms_42 (by decide) (by decide) ?_
  refine hl_iconst h 0 dX6_setRooms_45 (by decide) ?_
  exact hend dX6_setRooms_46 (fun h9 => nomatch h9) (by
    subst e14
    exact ⟨by rfl, (congrArg (hl_WM b cI cZ) (by rfl))⟩)

set_option maxHeartbeats 4000000 in
set_option maxRecDepth 100000 in
theorem c_X6_setRooms_0 (l : Launch) (D : va_G) (cI cZ cJ : ClassId) (b : Nat → Nat) (t : Nat → Nat → Int32) (x y n q : Int32) (h1 : vp_in x 4) (h2 : vp_in y 2) (h3 : ¬ n < 0) (h4 : n ≤ 10) (h5 : ¬ q < 1) (h6 : q ≤ 100) : hl_KI D (hl_ty cI cZ cJ) l yX6_setRooms wsX6_setRooms ({ frames := 3, cells := 0, slots := 0, locals := 63 } : Room) 0 0 [.ref (b 0), .int x, .int y, .int n, .int q] (hl_WM b cI cZ t) (fun r w => r = t 0 (2 * x + y).toNatClampNeg ∧ w = hl_WM b cI cZ (hl_su (hl_su (hl_su t 23 (fun _ => 0)) 0 (upd (t 0) (2 * x + y).toNatClampNeg n)) 1 (upd (t 1) (2 * x + y).toNatClampNeg q))) := by
  refine hl_KI_of (cc := cX6_setRooms) (maxL := 6) .int rfl (fun _ => Or.inr rfl) (by decide) rfl (Nat.le_of_ble_eq_true rfl) ?_
  intro p e s m args below meth c A Q h hend
  have hi6 : ∀ z ∈ wsX60, z ∈ wsX6_setRooms := by decide +kernel
  have hrow : vp_in (2 * x + y) 8 := hl_rowM h1 h2
  refine hl_ls (ls' := [(0, .ref (b 0)), (1, .int x), (2, .int y), (3, .int n), (4, .int q)]) rfl ?_
  refine hl_aload_n h 0 dX6_setRooms_0 rfl ?_
  refine hl_iload_n h 1 dX6_setRooms_1 rfl ?_
  refine hl_iload_n h 2 dX6_setRooms_2 rfl ?_
  refine hl_callSiD h (st := [.ref (b 0)]) (c_X6_isRoom_T l D cI cZ cJ b t x y h1 h2) (va_cwS 2 h.2.2.2.2.1 gX6_setRooms_X6_isRoom rfl rfl rfl (by decide +kernel) ⟨Nat.le_of_ble_eq_true rfl, Nat.le_of_ble_eq_true rfl⟩) dX6_setRooms_3 rfl (Nat.le_of_ble_eq_true rfl) ⟨Nat.le_of_ble_eq_true rfl, Nat.le_of_ble_eq_true rfl⟩ rfl ?_
  refine hl_if_ne_T h 13 dX6_setRooms_6 (by decide) (by decide) ?_
  refine hl_iload_n h 3 dX6_setRooms_13 rfl ?_
  refine hl_iconst h 0 dX6_setRooms_14 (by decide) ?_
  refine hl_bipush h 10 dX6_setRooms_15 (by decide) ?_
  refine hl_callSiD h (st := [.ref (b 0)]) (c_X6_in_T l D cI cZ cJ b t n 0 10 h3 h4) (va_cwS 3 h.2.2.2.2.1 gX6_setRooms_X6_in rfl rfl rfl (by decide +kernel) ⟨Nat.le_of_ble_eq_true rfl, Nat.le_of_ble_eq_true rfl⟩) dX6_setRooms_17 rfl (Nat.le_of_ble_eq_true rfl) ⟨Nat.le_of_ble_eq_true rfl, Nat.le_of_ble_eq_true rfl⟩ rfl ?_
  refine hl_if_eq_F h 34 dX6_setRooms_20 (by decide) (by decide) ?_
  refine hl_iload h 4 dX6_setRooms_23 rfl ?_
  refine hl_iconst h 1 dX6_setRooms_25 (by decide) ?_
  refine hl_bipush h 100 dX6_setRooms_26 (by decide) ?_
  refine hl_callSiD h (st := [.ref (b 0)]) (c_X6_in_T l D cI cZ cJ b t q 1 100 h5 h6) (va_cwS 3 h.2.2.2.2.1 gX6_setRooms_X6_in rfl rfl rfl (by decide +kernel) ⟨Nat.le_of_ble_eq_true rfl, Nat.le_of_ble_eq_true rfl⟩) dX6_setRooms_28 rfl (Nat.le_of_ble_eq_true rfl) ⟨Nat.le_of_ble_eq_true rfl, Nat.le_of_ble_eq_true rfl⟩ rfl ?_
  refine hl_if_ne_T h 38 dX6_setRooms_31 (by decide) (by decide) ?_
  refine hl_iconst h 0 dX6_setRooms_38 (by decide) ?_
  refine hl_callViD h (st := []) (c_X6_isFine_0 l D cI cZ cJ b t 0 rfl) (cwV 1 h.2.2.2.2.1 gX6_setRooms_X6_isFine rfl rfl rfl (by decide +kernel) ⟨Nat.le_of_ble_eq_true rfl, Nat.le_of_ble_eq_true rfl⟩) hl_wm_0 rfl dX6_setRooms_39 rfl (Nat.le_of_ble_eq_true rfl) ⟨Nat.le_of_ble_eq_true rfl, Nat.le_of_ble_eq_true rfl⟩ rfl ?_
  refine hl_nmM (fun g13 e14 => ?_)
  refine hl_if_ne_T h 47 dX6_setRooms_42 (by decide) (by decide) ?_
  refine hl_aload_n h 0 dX6_setRooms_47 rfl ?_
  refine hl_get h hi6 hl_wm_0 rfl 0 rfl dX6_setRooms_48 (by decide) (by decide +kernel) ?_
  refine hl_iconst h 2 dX6_setRooms_51 (by decide) ?_
  refine hl_iload_n h 1 dX6_setRooms_52 rfl ?_
  refine hl_imul h dX6_setRooms_53 ?_
  refine hl_iload_n h 2 dX6_setRooms_54 rfl ?_
  refine hl_iadd h dX6_setRooms_55 ?_
  refine hl_ild h hl_wm_1 0 rfl dX6_setRooms_56 (by with_reducible assumption) ?_
  refine hl_istore h [(5, .int (g13 0 ((2 * x) + y).toNatClampNeg)), (0, .ref (b 0)), (1, .int x), (2, .int y), (3, .int n), (4, .int q)] dX6_setRooms_57 (by decide) rfl ?_
  refine hl_aload_n h 1 dX6_setRooms_59 rfl ?_
  refine hl_get h hi6 hl_wm_0 rfl 0 rfl dX6_setRooms_60 (by decide) (by decide +kernel) ?_
  refine hl_iconst h 2 dX6_setRooms_63 (by decide) ?_
  refine hl_iload_n h 2 dX6_setRooms_64 rfl ?_
  refine hl_imul h dX6_setRooms_65 ?_
  refine hl_iload_n h 3 dX6_setRooms_66 rfl ?_
  refine hl_iadd h dX6_setRooms_67 ?_
  refine hl_iload_n h 4 dX6_setRooms_68 rfl ?_
  refine hl_ist h hl_wm_1 0 rfl dX6_setRooms_69 (by with_reducible assumption) hl_wm_t0 ?_
  refine hl_nmM (fun g15 e16 => ?_)
  refine hl_aload_n h 1 dX6_setRooms_70 rfl ?_
  refine hl_get h hi6 hl_wm_0 rfl 1 rfl dX6_setRooms_71 (by decide) (by decide +kernel) ?_
  refine hl_iconst h 2 dX6_setRooms_74 (by decide) ?_
  refine hl_iload_n h 2 dX6_setRooms_75 rfl ?_
  refine hl_imul h dX6_setRooms_76 ?_
  refine hl_iload_n h 3 dX6_setRooms_77 rfl ?_
  refine hl_iadd h dX6_setRooms_78 ?_
  refine hl_iload h 5 dX6_setRooms_79 rfl ?_
  refine hl_ist h hl_wm_2 0 rfl dX6_setRooms_81 (by with_reducible assumption) hl_wm_t1 ?_
  refine hl_nmM (fun g17 e18 => ?_)
  refine hl_iload h 0 dX6_setRooms_82 rfl ?_
  exact hend dX6_setRooms_84 (fun h9 => nomatch h9) (by
    subst e18; subst e16; subst e14
    exact ⟨by rfl, (congrArg (hl_WM b cI cZ) (by rfl))⟩)

set_option maxHeartbeats 4000000 in
set_option maxRecDepth 100000 in
theorem c_X6_buyLinen_1 (l : Launch) (D : va_G) (cI cZ cJ : ClassId) (b : Nat → Nat) (t : Nat → Nat → Int32) (x n : Int32) (h1 : ¬ vp_in x 4) : hl_KI D (hl_ty cI cZ cJ) l yX6_buyLinen wsX6_buyLinen ({ frames := 2, cells := 0, slots := 0, locals := 42 } : Room) 0 0 [.ref (b 0), .int x, .int n] (hl_WM b cI cZ t) (fun r w => r = 0 ∧ w = hl_WM b cI cZ (hl_su t 23 (fun _ => 1))) := by
  refine hl_KI_of (cc := cX6_buyLinen) (maxL := 3) .int rfl (fun _ => Or.inr rfl) (by decide) rfl (Nat.le_of_ble_eq_true rfl) ?_
  intro p e s m args below meth c A Q h hend
  refine hl_ls (ls' := [(0, .ref (b 0)), (1, .int x), (2, .int n)]) rfl ?_
  refine hl_aload_n h 0 dX6_buyLinen_0 rfl ?_
  refine hl_iload_n h 1 dX6_buyLinen_1 rfl ?_
  refine hl_callSiD h (st := [.ref (b 0)]) (c_X6_isInn_F l D cI cZ cJ b t x h1) (va_cwS 1 h.2.2.2.2.1 gX6_buyLinen_X6_isInn rfl rfl rfl (by decide +kernel) ⟨Nat.le_of_ble_eq_true rfl, Nat.le_of_ble_eq_true rfl⟩) dX6_buyLinen_2 rfl (Nat.le_of_ble_eq_true rfl) ⟨Nat.le_of_ble_eq_true rfl, Nat.le_of_ble_eq_true rfl⟩ rfl ?_
  refine hl_if_ne_F h 12 dX6_buyLinen_5 (by decide) (by decide) ?_
  refine hl_iconst h 1 dX6_buyLinen_8 (by decide) ?_
  refine hl_goto h 27 dX6_buyLinen_9 (by decide) ?_
  refine hl_callViD h (st := []) (c_X6_isFine_n l D cI cZ cJ b t 1 (by decide)) (cwV 1 h.2.2.2.2.1 gX6_buyLinen_X6_isFine rfl rfl rfl (by decide +kernel) ⟨Nat.le_of_ble_eq_true rfl, Nat.le_of_ble_eq_true rfl⟩) hl_wm_0 rfl dX6_buyLinen_27 rfl (Nat.le_of_ble_eq_true rfl) ⟨Nat.le_of_ble_eq_true rfl, Nat.le_of_ble_eq_true rfl⟩ rfl ?_
  refine hl_nmM (fun g7 e8 => ?_)
  refine hl_if_ne_F h 35 dX6_buyLinen_30 (by decide) (by decide) ?_
  refine hl_iconst h 0 dX6_buyLinen_33 (by decide) ?_
  exact hend dX6_buyLinen_34 (fun h9 => nomatch h9) (by
    subst e8
    exact ⟨by rfl, (congrArg (hl_WM b cI cZ) (by rfl))⟩)

set_option maxHeartbeats 4000000 in
set_option maxRecDepth 100000 in
theorem c_X6_buyLinen_2 (l : Launch) (D : va_G) (cI cZ cJ : ClassId) (b : Nat → Nat) (t : Nat → Nat → Int32) (x n : Int32) (h1 : vp_in x 4) (h2 : ¬ (¬ n < 1 ∧ n ≤ 20)) : hl_KI D (hl_ty cI cZ cJ) l yX6_buyLinen wsX6_buyLinen ({ frames := 2, cells := 0, slots := 0, locals := 42 } : Room) 0 0 [.ref (b 0), .int x, .int n] (hl_WM b cI cZ t) (fun r w => r = 0 ∧ w = hl_WM b cI cZ (hl_su t 23 (fun _ => 2))) := by
  refine hl_KI_of (cc := cX6_buyLinen) (maxL := 3) .int rfl (fun _ => Or.inr rfl) (by decide) rfl (Nat.le_of_ble_eq_true rfl) ?_
  intro p e s m args below meth c A Q h hend
  refine hl_ls (ls' := [(0, .ref (b 0)), (1, .int x), (2, .int n)]) rfl ?_
  refine hl_aload_n h 0 dX6_buyLinen_0 rfl ?_
  refine hl_iload_n h 1 dX6_buyLinen_1 rfl ?_
  refine hl_callSiD h (st := [.ref (b 0)]) (c_X6_isInn_T l D cI cZ cJ b t x h1) (va_cwS 1 h.2.2.2.2.1 gX6_buyLinen_X6_isInn rfl rfl rfl (by decide +kernel) ⟨Nat.le_of_ble_eq_true rfl, Nat.le_of_ble_eq_true rfl⟩) dX6_buyLinen_2 rfl (Nat.le_of_ble_eq_true rfl) ⟨Nat.le_of_ble_eq_true rfl, Nat.le_of_ble_eq_true rfl⟩ rfl ?_
  refine hl_if_ne_T h 12 dX6_buyLinen_5 (by decide) (by decide) ?_
  refine hl_iload_n h 2 dX6_buyLinen_12 rfl ?_
  refine hl_iconst h 1 dX6_buyLinen_13 (by decide) ?_
  refine hl_bipush h 20 dX6_buyLinen_14 (by decide) ?_
  refine hl_callSiD h (st := [.ref (b 0)]) (c_X6_in_F l D cI cZ cJ b t n 1 20 h2) (va_cwS 3 h.2.2.2.2.1 gX6_buyLinen_X6_in rfl rfl rfl (by decide +kernel) ⟨Nat.le_of_ble_eq_true rfl, Nat.le_of_ble_eq_true rfl⟩) dX6_buyLinen_16 rfl (Nat.le_of_ble_eq_true rfl) ⟨Nat.le_of_ble_eq_true rfl, Nat.le_of_ble_eq_true rfl⟩ rfl ?_
  refine hl_if_ne_F h 26 dX6_buyLinen_19 (by decide) (by decide) ?_
  refine hl_iconst h 2 dX6_buyLinen_22 (by decide) ?_
  refine hl_goto h 27 dX6_buyLinen_23 (by decide) ?_
  refine hl_callViD h (st := []) (c_X6_isFine_n l D cI cZ cJ b t 2 (by decide)) (cwV 1 h.2.2.2.2.1 gX6_buyLinen_X6_isFine rfl rfl rfl (by decide +kernel) ⟨Nat.le_of_ble_eq_true rfl, Nat.le_of_ble_eq_true rfl⟩) hl_wm_0 rfl dX6_buyLinen_27 rfl (Nat.le_of_ble_eq_true rfl) ⟨Nat.le_of_ble_eq_true rfl, Nat.le_of_ble_eq_true rfl⟩ rfl ?_
  refine hl_nmM (fun g10 e11 => ?_)
  refine hl_if_ne_F h 35 dX6_buyLinen_30 (by decide) (by decide) ?_
  refine hl_iconst h 0 dX6_buyLinen_33 (by decide) ?_
  exact hend dX6_buyLinen_34 (fun h9 => nomatch h9) (by
    subst e11
    exact ⟨by rfl, (congrArg (hl_WM b cI cZ) (by rfl))⟩)

set_option maxHeartbeats 4000000 in
set_option maxRecDepth 100000 in
theorem c_X6_buyLinen_0 (l : Launch) (D : va_G) (cI cZ cJ : ClassId) (b : Nat → Nat) (t : Nat → Nat → Int32) (x n : Int32) (h1 : vp_in x 4) (h2 : ¬ n < 1) (h3 : n ≤ 20) : hl_KI D (hl_ty cI cZ cJ) l yX6_buyLinen wsX6_buyLinen ({ frames := 2, cells := 0, slots := 0, locals := 42 } : Room) 0 0 [.ref (b 0), .int x, .int n] (hl_WM b cI cZ t) (fun r w => r = (hl_su (hl_su t 23 (fun _ => 0)) 3 (upd (t 3) x.toNatClampNeg (t 3 x.toNatClampNeg + n))) 3 x.toNatClampNeg ∧ w = hl_WM b cI cZ (hl_su (hl_su t 23 (fun _ => 0)) 3 (upd (t 3) x.toNatClampNeg (t 3 x.toNatClampNeg + n)))) := by
  refine hl_KI_of (cc := cX6_buyLinen) (maxL := 3) .int rfl (fun _ => Or.inr rfl) (by decide) rfl (Nat.le_of_ble_eq_true rfl) ?_
  intro p e s m args below meth c A Q h hend
  have hi6 : ∀ z ∈ wsX60, z ∈ wsX6_buyLinen := by decide +kernel
  refine hl_ls (ls' := [(0, .ref (b 0)), (1, .int x), (2, .int n)]) rfl ?_
  refine hl_aload_n h 0 dX6_buyLinen_0 rfl ?_
  refine hl_iload_n h 1 dX6_buyLinen_1 rfl ?_
  refine hl_callSiD h (st := [.ref (b 0)]) (c_X6_isInn_T l D cI cZ cJ b t x h1) (va_cwS 1 h.2.2.2.2.1 gX6_buyLinen_X6_isInn rfl rfl rfl (by decide +kernel) ⟨Nat.le_of_ble_eq_true rfl, Nat.le_of_ble_eq_true rfl⟩) dX6_buyLinen_2 rfl (Nat.le_of_ble_eq_true rfl) ⟨Nat.le_of_ble_eq_true rfl, Nat.le_of_ble_eq_true rfl⟩ rfl ?_
  refine hl_if_ne_T h 12 dX6_buyLinen_5 (by decide) (by decide) ?_
  refine hl_iload_n h 2 dX6_buyLinen_12 rfl ?_
  refine hl_iconst h 1 dX6_buyLinen_13 (by decide) ?_
  refine hl_bipush h 20 dX6_buyLinen_14 (by decide) ?_
  refine hl_callSiD h (st := [.ref (b 0)]) (c_X6_in_T l D cI cZ cJ b t n 1 20 h2 h3) (va_cwS 3 h.2.2.2.2.1 gX6_buyLinen_X6_in rfl rfl rfl (by decide +kernel) ⟨Nat.le_of_ble_eq_true rfl, Nat.le_of_ble_eq_true rfl⟩) dX6_buyLinen_16 rfl (Nat.le_of_ble_eq_true rfl) ⟨Nat.le_of_ble_eq_true rfl, Nat.le_of_ble_eq_true rfl⟩ rfl ?_
  refine hl_if_ne_T h 26 dX6_buyLinen_19 (by decide) (by decide) ?_
  refine hl_iconst h 0 dX6_buyLinen_26 (by decide) ?_
  refine hl_callViD h (st := []) (c_X6_isFine_0 l D cI cZ cJ b t 0 rfl) (cwV 1 h.2.2.2.2.1 gX6_buyLinen_X6_isFine rfl rfl rfl (by decide +kernel) ⟨Nat.le_of_ble_eq_true rfl, Nat.le_of_ble_eq_true rfl⟩) hl_wm_0 rfl dX6_buyLinen_27 rfl (Nat.le_of_ble_eq_true rfl) ⟨Nat.le_of_ble_eq_true rfl, Nat.le_of_ble_eq_true rfl⟩ rfl ?_
  refine hl_nmM (fun g10 e11 => ?_)
  refine hl_if_ne_T h 35 dX6_buyLinen_30 (by decide) (by decide) ?_
  refine hl_aload_n h 0 dX6_buyLinen_35 rfl ?_
  refine hl_get h hi6 hl_wm_0 rfl 3 rfl dX6_buyLinen_36 (by decide) (by decide +kernel) ?_
  refine hl_iload_n h 1 dX6_buyLinen_39 rfl ?_
  refine hl_dup2 h dX6_buyLinen_40 rfl rfl ?_
  refine hl_ild h hl_wm_4 0 rfl dX6_buyLinen_41 (by with_reducible assumption) ?_
  refine hl_iload_n h 2 dX6_buyLinen_42 rfl ?_
  refine hl_iadd h dX6_buyLinen_43 ?_
  refine hl_ist h hl_wm_4 0 rfl dX6_buyLinen_44 (by with_reducible assumption) hl_wm_t3 ?_
  refine hl_nmM (fun g12 e13 => ?_)
  refine hl_aload_n h 0 dX6_buyLinen_45 rfl ?_
  refine hl_get h hi6 hl_wm_0 rfl 3 rfl dX6_buyLinen_46 (by decide) (by decide +kernel) ?_
  refine hl_iload_n h 1 dX6_buyLinen_49 rfl ?_
  refine hl_ild h hl_wm_4 0 rfl dX6_buyLinen_50 (by with_reducible assumption) ?_
  exact hend dX6_buyLinen_51 (fun h9 => nomatch h9) (by
    subst e13; subst e11
    exact ⟨by rfl, (congrArg (hl_WM b cI cZ) (by rfl))⟩)

set_option maxHeartbeats 4000000 in
set_option maxRecDepth 100000 in
theorem c_X6_setBroken (l : Launch) (D : va_G) (cI cZ cJ : ClassId) (b : Nat → Nat) (t : Nat → Nat → Int32) (x : Int32) (h1 : x = 0 ∨ x = 1) (h2 : t 6 0 = 0 ∨ t 6 0 = 1) : hl_KI D (hl_ty cI cZ cJ) l yX6_setBroken wsX6_setBroken ({ frames := 0, cells := 0, slots := 0, locals := 0 } : Room) 0 0 [.ref (b 0), .int x] (hl_WM b cI cZ t) (fun r w => r = t 6 0 ∧ w = hl_WM b cI cZ (hl_su (hl_su t 23 (fun _ => 0)) 6 (fun _ => x))) := by
  refine hl_KI_of (cc := cX6_setBroken) (maxL := 3) .boolean rfl (fun _ => Or.inl rfl) (by decide) rfl (Nat.le_of_ble_eq_true rfl) ?_
  intro p e s m args below meth c A Q h hend
  have hi6 : ∀ z ∈ wsX60, z ∈ wsX6_setBroken := by decide +kernel
  refine hl_ls (ls' := [(0, .ref (b 0)), (1, .int x)]) rfl ?_
  refine hl_aload_n h 0 dX6_setBroken_0 rfl ?_
  refine hl_iconst h 0 dX6_setBroken_1 (by decide) ?_
  refine hl_put h hi6 tyX6_ok nmX6 hl_wm_0 rfl 23 dX6_setBroken_2 (by decide) (by decide +kernel) (by decide) rfl rfl (Nat.le_of_ble_eq_true rfl) hl_wm_s23 ?_
  refine hl_nmM (fun g1 e2 => ?_)
  refine hl_aload_n h 0 dX6_setBroken_5 rfl ?_
  refine hl_get h hi6 hl_wm_0 rfl 6 rfl dX6_setBroken_6 (by decide) (by decide +kernel) ?_
  refine hl_istore_n h [(2, .int (g1 6 0)), (0, .ref (b 0)), (1, .int x)] dX6_setBroken_9 (by decide) rfl ?_
  refine hl_aload_n h 1 dX6_setBroken_10 rfl ?_
  refine hl_iload_n h 2 dX6_setBroken_11 rfl ?_
  refine hl_put h hi6 tyX6_ok nmX6 hl_wm_0 rfl 6 dX6_setBroken_12 (by decide) (by decide +kernel) (by decide) (by rcases h1 with rfl | rfl <;> rfl) (by rcases h1 with rfl | rfl <;> rfl) (Nat.le_of_ble_eq_true rfl) hl_wm_s6 ?_
  refine hl_nmM (fun g3 e4 => ?_)
  refine hl_iload_n h 0 dX6_setBroken_15 rfl ?_
  exact hend dX6_setBroken_16 (fun _ => by rw [e2]; exact h2) (by
    subst e4; subst e2
    exact ⟨by rfl, (congrArg (hl_WM b cI cZ) (by rfl))⟩)
