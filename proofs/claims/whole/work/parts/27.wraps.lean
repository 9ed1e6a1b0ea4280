/-! The law's wrappers: each with the class's world and the row for the answer -/
def hl_WO (o : Nat) (cI cZ cJ : ClassId) (f : Nat → Int64) (a : Nat → Nat) (g : Nat → Nat → Int32) : va_W := (o, .inl (cJ, 1, .inr (.inl f))) :: hl_WC a cI cZ g
set_option maxHeartbeats 4000000 in
set_option maxRecDepth 100000 in
theorem w_L_setRooms_0 (l : Launch) (D : va_G) (cI cZ cJ : ClassId) (o : Nat) (f : Nat → Int64) (a : Nat → Nat) (g : Nat → Nat → Int32) (x y n q : Int32) (h1 : vp_in x 4) (h2 : vp_in y 2) (h3 : ¬ n < 0) (h4 : n ≤ 10) (h5 : ¬ q < 1) (h6 : q ≤ 100) : hl_KW D (hl_ty cI cZ cJ) l yL_setRooms wsL_setRooms ({ frames := 3, cells := 1, slots := 6, locals := 71 } : Room) [.ref (a 0), .int x, .int y, .int n, .int q, .ref o] (hl_WO o cI cZ cJ f a g) (fun r w => r = 0 ∧ w = hl_WO o cI cZ cJ (vp_updL f 0 (g 0 (x * 2 + y).toNatClampNeg).toInt64) a (f_X4_change g x y n q)) := by
  refine hl_KW_of (cc := cL_setRooms) (maxL := 7) (hh := [(0, 14, 17, 13), (0, 14, 21, 15)]) (by decide) rfl (Nat.le_of_ble_eq_true rfl) ?_
  intro p e s m args below meth c A Q h hz htab hend
  refine hl_ls (ls' := [(0, .ref (a 0)), (1, .int x), (2, .int y), (3, .int n), (4, .int q), (5, .ref o)]) rfl ?_
  refine hl_aload h 5 dL_setRooms_0 rfl ?_
  refine hl_iconst h 0 dL_setRooms_2 (by decide) ?_
  refine hl_aload_n h 0 dL_setRooms_3 rfl ?_
  refine hl_iload_n h 1 dL_setRooms_4 rfl ?_
  refine hl_iload_n h 2 dL_setRooms_5 rfl ?_
  refine hl_iload_n h 3 dL_setRooms_6 rfl ?_
  refine hl_iload h 4 dL_setRooms_7 rfl ?_
  refine hl_callPViD h (st := [.int 0, .ref o]) (wc := hl_WC a cI cZ g) (wr := [(o, .inl (cJ, 1, .inr (.inl f)))]) [1, 2, 3, 4, 5, 6, 7, 8, 9, 10, 11, 12, 13, 14, 15, 16, 17, 18, 19, 20, 21, 22, 23, 24, 25] [0] rfl rfl (by decide) (by decide) (by decide) (c_X5_setRooms l D cI cZ cJ a g x y n q h1 h2 h3 h4 h5 h6) (cwV 4 h.2.2.2.2.1 gL_setRooms_X5_setRooms rfl rfl rfl (by decide +kernel) ⟨Nat.le_of_ble_eq_true rfl, Nat.le_of_ble_eq_true rfl⟩) (q0 := 1) rfl rfl dL_setRooms_9 rfl (Nat.le_of_ble_eq_true rfl) ⟨Nat.le_of_ble_eq_true rfl, Nat.le_of_ble_eq_true rfl⟩ rfl ?_
  refine hl_wd (w' := hl_WO o cI cZ cJ f a (f_X4_change g x y n q)) rfl ?_
  refine hl_i2l h dL_setRooms_12 ?_
  refine hl_jst h (q0 := 0) rfl 2 rfl dL_setRooms_13 (by unfold vp_in; decide) (w' := hl_WO o cI cZ cJ (vp_updL f 0 (g 0 (x * 2 + y).toNatClampNeg).toInt64) a (f_X4_change g x y n q)) rfl ?_
  refine hl_goto h 25 dL_setRooms_14 (by decide) ?_
  refine hl_iconst h 0 dL_setRooms_25 (by decide) ?_
  refine hl_widen 1 6 (Nat.le_of_ble_eq_true rfl) (Nat.le_of_ble_eq_true rfl) ?_
  exact hend dL_setRooms_26 ⟨rfl, rfl⟩

set_option maxHeartbeats 4000000 in
set_option maxRecDepth 100000 in
theorem w_L_setRooms_1 (l : Launch) (D : va_G) (cI cZ cJ : ClassId) (o : Nat) (f : Nat → Int64) (a : Nat → Nat) (g : Nat → Nat → Int32) (hst : l.stackTraces = false) (x y n q : Int32) (h1 : ¬ vp_in x 4) : hl_KW D (hl_ty cI cZ cJ) l yL_setRooms wsL_setRooms ({ frames := 8, cells := 1, slots := 6, locals := 126 } : Room) [.ref (a 0), .int x, .int y, .int n, .int q, .ref o] (hl_WO o cI cZ cJ f a g) (fun r w => r = 1 ∧ w = hl_WO o cI cZ cJ f a g) := by
  refine hl_KW_of (cc := cL_setRooms) (maxL := 7) (hh := [(0, 14, 17, 13), (0, 14, 21, 15)]) (by decide) rfl (Nat.le_of_ble_eq_true rfl) ?_
  intro p e s m args below meth c A Q h hz htab hend
  refine hl_ls (ls' := [(0, .ref (a 0)), (1, .int x), (2, .int y), (3, .int n), (4, .int q), (5, .ref o)]) rfl ?_
  refine hl_aload h 5 dL_setRooms_0 rfl ?_
  refine hl_iconst h 0 dL_setRooms_2 (by decide) ?_
  refine hl_aload_n h 0 dL_setRooms_3 rfl ?_
  refine hl_iload_n h 1 dL_setRooms_4 rfl ?_
  refine hl_iload_n h 2 dL_setRooms_5 rfl ?_
  refine hl_iload_n h 3 dL_setRooms_6 rfl ?_
  refine hl_iload h 4 dL_setRooms_7 rfl ?_
  refine hl_tcatchV h hz (st := [.int 0, .ref o]) (wc := hl_WC a cI cZ g) (wr := [(o, .inl (cJ, 1, .inr (.inl f)))]) [1, 2, 3, 4, 5, 6, 7, 8, 9, 10, 11, 12, 13, 14, 15, 16, 17, 18, 19, 20, 21, 22, 23, 24, 25] [0] rfl rfl (by decide) (by decide) (by decide) (x_X5_setRooms_1 l D cI cZ cJ a g hst x y n q h1) (cwV 4 h.2.2.2.2.1 gL_setRooms_X5_setRooms rfl rfl rfl (by decide +kernel) ⟨Nat.le_of_ble_eq_true rfl, Nat.le_of_ble_eq_true rfl⟩) (q0 := 1) rfl rfl dL_setRooms_9 rfl (Nat.le_of_ble_eq_true rfl) ⟨Nat.le_of_ble_eq_true rfl, Nat.le_of_ble_eq_true rfl⟩ rfl [] ⟨0, 14, 17, 13⟩ [⟨0, 14, 21, 15⟩] htab (fun z h91 => absurd h91 List.not_mem_nil) (by decide) (by decide) (by decide +kernel) hz.2.2.1.1 (fun qx => ?_)
  refine hl_wd (w' := hl_WO o cI cZ cJ f a g) rfl ?_
  refine hl_astore h [(6, .ref qx), (0, .ref (a 0)), (1, .int x), (2, .int y), (3, .int n), (4, .int q), (5, .ref o)] dL_setRooms_17 (by decide) rfl ?_
  refine hl_iconst h 1 dL_setRooms_19 (by decide) ?_
  exact hend dL_setRooms_20 ⟨rfl, rfl⟩

set_option maxHeartbeats 4000000 in
set_option maxRecDepth 100000 in
theorem w_L_setRooms_2 (l : Launch) (D : va_G) (cI cZ cJ : ClassId) (o : Nat) (f : Nat → Int64) (a : Nat → Nat) (g : Nat → Nat → Int32) (hst : l.stackTraces = false) (x y n q : Int32) (h1 : vp_in x 4) (h2 : ¬ vp_in y 2) : hl_KW D (hl_ty cI cZ cJ) l yL_setRooms wsL_setRooms ({ frames := 8, cells := 1, slots := 6, locals := 126 } : Room) [.ref (a 0), .int x, .int y, .int n, .int q, .ref o] (hl_WO o cI cZ cJ f a g) (fun r w => r = 1 ∧ w = hl_WO o cI cZ cJ f a g) := by
  refine hl_KW_of (cc := cL_setRooms) (maxL := 7) (hh := [(0, 14, 17, 13), (0, 14, 21, 15)]) (by decide) rfl (Nat.le_of_ble_eq_true rfl) ?_
  intro p e s m args below meth c A Q h hz htab hend
  refine hl_ls (ls' := [(0, .ref (a 0)), (1, .int x), (2, .int y), (3, .int n), (4, .int q), (5, .ref o)]) rfl ?_
  refine hl_aload h 5 dL_setRooms_0 rfl ?_
  refine hl_iconst h 0 dL_setRooms_2 (by decide) ?_
  refine hl_aload_n h 0 dL_setRooms_3 rfl ?_
  refine hl_iload_n h 1 dL_setRooms_4 rfl ?_
  refine hl_iload_n h 2 dL_setRooms_5 rfl ?_
  refine hl_iload_n h 3 dL_setRooms_6 rfl ?_
  refine hl_iload h 4 dL_setRooms_7 rfl ?_
  refine hl_tcatchV h hz (st := [.int 0, .ref o]) (wc := hl_WC a cI cZ g) (wr := [(o, .inl (cJ, 1, .inr (.inl f)))]) [1, 2, 3, 4, 5, 6, 7, 8, 9, 10, 11, 12, 13, 14, 15, 16, 17, 18, 19, 20, 21, 22, 23, 24, 25] [0] rfl rfl (by decide) (by decide) (by decide) (x_X5_setRooms_2 l D cI cZ cJ a g hst x y n q h1 h2) (cwV 4 h.2.2.2.2.1 gL_setRooms_X5_setRooms rfl rfl rfl (by decide +kernel) ⟨Nat.le_of_ble_eq_true rfl, Nat.le_of_ble_eq_true rfl⟩) (q0 := 1) rfl rfl dL_setRooms_9 rfl (Nat.le_of_ble_eq_true rfl) ⟨Nat.le_of_ble_eq_true rfl, Nat.le_of_ble_eq_true rfl⟩ rfl [] ⟨0, 14, 17, 13⟩ [⟨0, 14, 21, 15⟩] htab (fun z h91 => absurd h91 List.not_mem_nil) (by decide) (by decide) (by decide +kernel) hz.2.2.1.1 (fun qx => ?_)
  refine hl_wd (w' := hl_WO o cI cZ cJ f a g) rfl ?_
  refine hl_astore h [(6, .ref qx), (0, .ref (a 0)), (1, .int x), (2, .int y), (3, .int n), (4, .int q), (5, .ref o)] dL_setRooms_17 (by decide) rfl ?_
  refine hl_iconst h 1 dL_setRooms_19 (by decide) ?_
  exact hend dL_setRooms_20 ⟨rfl, rfl⟩

set_option maxHeartbeats 4000000 in
set_option maxRecDepth 100000 in
theorem w_L_setRooms_3 (l : Launch) (D : va_G) (cI cZ cJ : ClassId) (o : Nat) (f : Nat → Int64) (a : Nat → Nat) (g : Nat → Nat → Int32) (hst : l.stackTraces = false) (x y n q : Int32) (h1 : vp_in x 4) (h2 : vp_in y 2) (h3 : ¬ (¬ n < 0 ∧ n ≤ 10)) : hl_KW D (hl_ty cI cZ cJ) l yL_setRooms wsL_setRooms ({ frames := 8, cells := 1, slots := 6, locals := 128 } : Room) [.ref (a 0), .int x, .int y, .int n, .int q, .ref o] (hl_WO o cI cZ cJ f a g) (fun r w => r = 2 ∧ w = hl_WO o cI cZ cJ f a g) := by
  refine hl_KW_of (cc := cL_setRooms) (maxL := 7) (hh := [(0, 14, 17, 13), (0, 14, 21, 15)]) (by decide) rfl (Nat.le_of_ble_eq_true rfl) ?_
  intro p e s m args below meth c A Q h hz htab hend
  refine hl_ls (ls' := [(0, .ref (a 0)), (1, .int x), (2, .int y), (3, .int n), (4, .int q), (5, .ref o)]) rfl ?_
  refine hl_aload h 5 dL_setRooms_0 rfl ?_
  refine hl_iconst h 0 dL_setRooms_2 (by decide) ?_
  refine hl_aload_n h 0 dL_setRooms_3 rfl ?_
  refine hl_iload_n h 1 dL_setRooms_4 rfl ?_
  refine hl_iload_n h 2 dL_setRooms_5 rfl ?_
  refine hl_iload_n h 3 dL_setRooms_6 rfl ?_
  refine hl_iload h 4 dL_setRooms_7 rfl ?_
  refine hl_tcatchV h hz (st := [.int 0, .ref o]) (wc := hl_WC a cI cZ g) (wr := [(o, .inl (cJ, 1, .inr (.inl f)))]) [1, 2, 3, 4, 5, 6, 7, 8, 9, 10, 11, 12, 13, 14, 15, 16, 17, 18, 19, 20, 21, 22, 23, 24, 25] [0] rfl rfl (by decide) (by decide) (by decide) (x_X5_setRooms_3 l D cI cZ cJ a g hst x y n q h1 h2 h3) (cwV 4 h.2.2.2.2.1 gL_setRooms_X5_setRooms rfl rfl rfl (by decide +kernel) ⟨Nat.le_of_ble_eq_true rfl, Nat.le_of_ble_eq_true rfl⟩) (q0 := 1) rfl rfl dL_setRooms_9 rfl (Nat.le_of_ble_eq_true rfl) ⟨Nat.le_of_ble_eq_true rfl, Nat.le_of_ble_eq_true rfl⟩ rfl [⟨0, 14, 17, 13⟩] ⟨0, 14, 21, 15⟩ [] htab (fun z h91 => by rw [List.mem_singleton] at h91; subst h91; exact ⟨by decide, "java/lang/IndexOutOfBoundsException", by decide +kernel, hz.2.2.2.1.1⟩) (by decide) (by decide) (by decide +kernel) hz.2.2.1.2.1 (fun qx => ?_)
  refine hl_wd (w' := hl_WO o cI cZ cJ f a g) rfl ?_
  refine hl_astore h [(6, .ref qx), (0, .ref (a 0)), (1, .int x), (2, .int y), (3, .int n), (4, .int q), (5, .ref o)] dL_setRooms_21 (by decide) rfl ?_
  refine hl_iconst h 2 dL_setRooms_23 (by decide) ?_
  exact hend dL_setRooms_24 ⟨rfl, rfl⟩

set_option maxHeartbeats 4000000 in
set_option maxRecDepth 100000 in
theorem w_L_setRooms_4 (l : Launch) (D : va_G) (cI cZ cJ : ClassId) (o : Nat) (f : Nat → Int64) (a : Nat → Nat) (g : Nat → Nat → Int32) (hst : l.stackTraces = false) (x y n q : Int32) (h1 : vp_in x 4) (h2 : vp_in y 2) (h3 : ¬ n < 0) (h4 : n ≤ 10) (h5 : ¬ (¬ q < 1 ∧ q ≤ 100)) : hl_KW D (hl_ty cI cZ cJ) l yL_setRooms wsL_setRooms ({ frames := 8, cells := 1, slots := 6, locals := 128 } : Room) [.ref (a 0), .int x, .int y, .int n, .int q, .ref o] (hl_WO o cI cZ cJ f a g) (fun r w => r = 2 ∧ w = hl_WO o cI cZ cJ f a g) := by
  refine hl_KW_of (cc := cL_setRooms) (maxL := 7) (hh := [(0, 14, 17, 13), (0, 14, 21, 15)]) (by decide) rfl (Nat.le_of_ble_eq_true rfl) ?_
  intro p e s m args below meth c A Q h hz htab hend
  refine hl_ls (ls' := [(0, .ref (a 0)), (1, .int x), (2, .int y), (3, .int n), (4, .int q), (5, .ref o)]) rfl ?_
  refine hl_aload h 5 dL_setRooms_0 rfl ?_
  refine hl_iconst h 0 dL_setRooms_2 (by decide) ?_
  refine hl_aload_n h 0 dL_setRooms_3 rfl ?_
  refine hl_iload_n h 1 dL_setRooms_4 rfl ?_
  refine hl_iload_n h 2 dL_setRooms_5 rfl ?_
  refine hl_iload_n h 3 dL_setRooms_6 rfl ?_
  refine hl_iload h 4 dL_setRooms_7 rfl ?_
  refine hl_tcatchV h hz (st := [.int 0, .ref o]) (wc := hl_WC a cI cZ g) (wr := [(o, .inl (cJ, 1, .inr (.inl f)))]) [1, 2, 3, 4, 5, 6, 7, 8, 9, 10, 11, 12, 13, 14, 15, 16, 17, 18, 19, 20, 21, 22, 23, 24, 25] [0] rfl rfl (by decide) (by decide) (by decide) (x_X5_setRooms_4 l D cI cZ cJ a g hst x y n q h1 h2 h3 h4 h5) (cwV 4 h.2.2.2.2.1 gL_setRooms_X5_setRooms rfl rfl rfl (by decide +kernel) ⟨Nat.le_of_ble_eq_true rfl, Nat.le_of_ble_eq_true rfl⟩) (q0 := 1) rfl rfl dL_setRooms_9 rfl (Nat.le_of_ble_eq_true rfl) ⟨Nat.le_of_ble_eq_true rfl, Nat.le_of_ble_eq_true rfl⟩ rfl [⟨0, 14, 17, 13⟩] ⟨0, 14, 21, 15⟩ [] htab (fun z h91 => by rw [List.mem_singleton] at h91; subst h91; exact ⟨by decide, "java/lang/IndexOutOfBoundsException", by decide +kernel, hz.2.2.2.1.1⟩) (by decide) (by decide) (by decide +kernel) hz.2.2.1.2.1 (fun qx => ?_)
  refine hl_wd (w' := hl_WO o cI cZ cJ f a g) rfl ?_
  refine hl_astore h [(6, .ref qx), (0, .ref (a 0)), (1, .int x), (2, .int y), (3, .int n), (4, .int q), (5, .ref o)] dL_setRooms_21 (by decide) rfl ?_
  refine hl_iconst h 2 dL_setRooms_23 (by decide) ?_
  exact hend dL_setRooms_24 ⟨rfl, rfl⟩

set_option maxHeartbeats 4000000 in
set_option maxRecDepth 100000 in
theorem w_L_buyLinen_0 (l : Launch) (D : va_G) (cI cZ cJ : ClassId) (o : Nat) (f : Nat → Int64) (a : Nat → Nat) (g : Nat → Nat → Int32) (x n : Int32) (h1 : vp_in x 4) (h3 : ¬ n < 1) (h4 : n ≤ 20) : hl_KW D (hl_ty cI cZ cJ) l yL_buyLinen wsL_buyLinen ({ frames := 2, cells := 1, slots := 6, locals := 44 } : Room) [.ref (a 0), .int x, .int n, .ref o] (hl_WO o cI cZ cJ f a g) (fun r w => r = 0 ∧ w = hl_WO o cI cZ cJ (vp_updL f 0 (f_X2_addClean g x n 3 (x).toNatClampNeg).toInt64) a (f_X2_addClean g x n)) := by
  refine hl_KW_of (cc := cL_buyLinen) (maxL := 5) (hh := [(0, 10, 13, 13), (0, 10, 17, 15)]) (by decide) rfl (Nat.le_of_ble_eq_true rfl) ?_
  intro p e s m args below meth c A Q h hz htab hend
  refine hl_ls (ls' := [(0, .ref (a 0)), (1, .int x), (2, .int n), (3, .ref o)]) rfl ?_
  refine hl_aload_n h 3 dL_buyLinen_0 rfl ?_
  refine hl_iconst h 0 dL_buyLinen_1 (by decide) ?_
  refine hl_aload_n h 0 dL_buyLinen_2 rfl ?_
  refine hl_iload_n h 1 dL_buyLinen_3 rfl ?_
  refine hl_iload_n h 2 dL_buyLinen_4 rfl ?_
  refine hl_callPViD h (st := [.int 0, .ref o]) (wc := hl_WC a cI cZ g) (wr := [(o, .inl (cJ, 1, .inr (.inl f)))]) [1, 2, 3, 4, 5, 6, 7, 8, 9, 10, 11, 12, 13, 14, 15, 16, 17, 18, 19, 20, 21, 22, 23, 24, 25] [0] rfl rfl (by decide) (by decide) (by decide) (c_X5_buyLinen l D cI cZ cJ a g x n h1 h3 h4) (cwV 2 h.2.2.2.2.1 gL_buyLinen_X5_buyLinen rfl rfl rfl (by decide +kernel) ⟨Nat.le_of_ble_eq_true rfl, Nat.le_of_ble_eq_true rfl⟩) (q0 := 1) rfl rfl dL_buyLinen_5 rfl (Nat.le_of_ble_eq_true rfl) ⟨Nat.le_of_ble_eq_true rfl, Nat.le_of_ble_eq_true rfl⟩ rfl ?_
  refine hl_wd (w' := hl_WO o cI cZ cJ f a (f_X2_addClean g x n)) rfl ?_
  refine hl_i2l h dL_buyLinen_8 ?_
  refine hl_jst h (q0 := 0) rfl 2 rfl dL_buyLinen_9 (by unfold vp_in; decide) (w' := hl_WO o cI cZ cJ (vp_updL f 0 (f_X2_addClean g x n 3 (x).toNatClampNeg).toInt64) a (f_X2_addClean g x n)) rfl ?_
  refine hl_goto h 21 dL_buyLinen_10 (by decide) ?_
  refine hl_iconst h 0 dL_buyLinen_21 (by decide) ?_
  refine hl_widen 1 6 (Nat.le_of_ble_eq_true rfl) (Nat.le_of_ble_eq_true rfl) ?_
  exact hend dL_buyLinen_22 ⟨rfl, rfl⟩

set_option maxHeartbeats 4000000 in
set_option maxRecDepth 100000 in
theorem w_L_buyLinen_1 (l : Launch) (D : va_G) (cI cZ cJ : ClassId) (o : Nat) (f : Nat → Int64) (a : Nat → Nat) (g : Nat → Nat → Int32) (hst : l.stackTraces = false) (x n : Int32) (h1 : ¬ vp_in x 4) : hl_KW D (hl_ty cI cZ cJ) l yL_buyLinen wsL_buyLinen ({ frames := 8, cells := 1, slots := 6, locals := 124 } : Room) [.ref (a 0), .int x, .int n, .ref o] (hl_WO o cI cZ cJ f a g) (fun r w => r = 1 ∧ w = hl_WO o cI cZ cJ f a g) := by
  refine hl_KW_of (cc := cL_buyLinen) (maxL := 5) (hh := [(0, 10, 13, 13), (0, 10, 17, 15)]) (by decide) rfl (Nat.le_of_ble_eq_true rfl) ?_
  intro p e s m args below meth c A Q h hz htab hend
  refine hl_ls (ls' := [(0, .ref (a 0)), (1, .int x), (2, .int n), (3, .ref o)]) rfl ?_
  refine hl_aload_n h 3 dL_buyLinen_0 rfl ?_
  refine hl_iconst h 0 dL_buyLinen_1 (by decide) ?_
  refine hl_aload_n h 0 dL_buyLinen_2 rfl ?_
  refine hl_iload_n h 1 dL_buyLinen_3 rfl ?_
  refine hl_iload_n h 2 dL_buyLinen_4 rfl ?_
  refine hl_tcatchV h hz (st := [.int 0, .ref o]) (wc := hl_WC a cI cZ g) (wr := [(o, .inl (cJ, 1, .inr (.inl f)))]) [1, 2, 3, 4, 5, 6, 7, 8, 9, 10, 11, 12, 13, 14, 15, 16, 17, 18, 19, 20, 21, 22, 23, 24, 25] [0] rfl rfl (by decide) (by decide) (by decide) (x_X5_buyLinen_1 l D cI cZ cJ a g hst x n h1) (cwV 2 h.2.2.2.2.1 gL_buyLinen_X5_buyLinen rfl rfl rfl (by decide +kernel) ⟨Nat.le_of_ble_eq_true rfl, Nat.le_of_ble_eq_true rfl⟩) (q0 := 1) rfl rfl dL_buyLinen_5 rfl (Nat.le_of_ble_eq_true rfl) ⟨Nat.le_of_ble_eq_true rfl, Nat.le_of_ble_eq_true rfl⟩ rfl [] ⟨0, 10, 13, 13⟩ [⟨0, 10, 17, 15⟩] htab (fun z h91 => absurd h91 List.not_mem_nil) (by decide) (by decide) (by decide +kernel) hz.2.2.1.1 (fun qx => ?_)
  refine hl_wd (w' := hl_WO o cI cZ cJ f a g) rfl ?_
  refine hl_astore h [(4, .ref qx), (0, .ref (a 0)), (1, .int x), (2, .int n), (3, .ref o)] dL_buyLinen_13 (by decide) rfl ?_
  refine hl_iconst h 1 dL_buyLinen_15 (by decide) ?_
  exact hend dL_buyLinen_16 ⟨rfl, rfl⟩

set_option maxHeartbeats 4000000 in
set_option maxRecDepth 100000 in
theorem w_L_buyLinen_2 (l : Launch) (D : va_G) (cI cZ cJ : ClassId) (o : Nat) (f : Nat → Int64) (a : Nat → Nat) (g : Nat → Nat → Int32) (hst : l.stackTraces = false) (x n : Int32) (h1 : vp_in x 4) (h2 : ¬ (¬ n < 1 ∧ n ≤ 20)) : hl_KW D (hl_ty cI cZ cJ) l yL_buyLinen wsL_buyLinen ({ frames := 8, cells := 1, slots := 6, locals := 126 } : Room) [.ref (a 0), .int x, .int n, .ref o] (hl_WO o cI cZ cJ f a g) (fun r w => r = 2 ∧ w = hl_WO o cI cZ cJ f a g) := by
  refine hl_KW_of (cc := cL_buyLinen) (maxL := 5) (hh := [(0, 10, 13, 13), (0, 10, 17, 15)]) (by decide) rfl (Nat.le_of_ble_eq_true rfl) ?_
  intro p e s m args below meth c A Q h hz htab hend
  refine hl_ls (ls' := [(0, .ref (a 0)), (1, .int x), (2, .int n), (3, .ref o)]) rfl ?_
  refine hl_aload_n h 3 dL_buyLinen_0 rfl ?_
  refine hl_iconst h 0 dL_buyLinen_1 (by decide) ?_
  refine hl_aload_n h 0 dL_buyLinen_2 rfl ?_
  refine hl_iload_n h 1 dL_buyLinen_3 rfl ?_
  refine hl_iload_n h 2 dL_buyLinen_4 rfl ?_
  refine hl_tcatchV h hz (st := [.int 0, .ref o]) (wc := hl_WC a cI cZ g) (wr := [(o, .inl (cJ, 1, .inr (.inl f)))]) [1, 2, 3, 4, 5, 6, 7, 8, 9, 10, 11, 12, 13, 14, 15, 16, 17, 18, 19, 20, 21, 22, 23, 24, 25] [0] rfl rfl (by decide) (by decide) (by decide) (x_X5_buyLinen_2 l D cI cZ cJ a g hst x n h1 h2) (cwV 2 h.2.2.2.2.1 gL_buyLinen_X5_buyLinen rfl rfl rfl (by decide +kernel) ⟨Nat.le_of_ble_eq_true rfl, Nat.le_of_ble_eq_true rfl⟩) (q0 := 1) rfl rfl dL_buyLinen_5 rfl (Nat.le_of_ble_eq_true rfl) ⟨Nat.le_of_ble_eq_true rfl, Nat.le_of_ble_eq_true rfl⟩ rfl [⟨0, 10, 13, 13⟩] ⟨0, 10, 17, 15⟩ [] htab (fun z h91 => by rw [List.mem_singleton] at h91; subst h91; exact ⟨by decide, "java/lang/IndexOutOfBoundsException", by decide +kernel, hz.2.2.2.1.1⟩) (by decide) (by decide) (by decide +kernel) hz.2.2.1.2.1 (fun qx => ?_)
  refine hl_wd (w' := hl_WO o cI cZ cJ f a g) rfl ?_
  refine hl_astore h [(4, .ref qx), (0, .ref (a 0)), (1, .int x), (2, .int n), (3, .ref o)] dL_buyLinen_17 (by decide) rfl ?_
  refine hl_iconst h 2 dL_buyLinen_19 (by decide) ?_
  exact hend dL_buyLinen_20 ⟨rfl, rfl⟩

set_option maxHeartbeats 4000000 in
set_option maxRecDepth 100000 in
theorem w_L_book_0 (l : Launch) (D : va_G) (cI cZ cJ : ClassId) (o : Nat) (f : Nat → Int64) (a : Nat → Nat) (g : Nat → Nat → Int32) (x y z v : Int32) (N M : Nat) (ho : hl_ok g N M) (h1 : vp_in x 10) (h2 : vp_in y 4) (h3 : vp_in z 2) (h4 : ¬ v < g 23 0) (h5 : v ≤ g 23 0 + 10) (h6 : g 16 0 < 80) (h7 : ¬ r_X5_takesMore g N y z v = 0) : hl_KW D (hl_ty cI cZ cJ) l yL_book wsL_book ({ frames := 4, cells := 1, slots := 6, locals := 93 } : Room) [.ref (a 0), .int x, .int y, .int z, .int v, .ref o] (hl_WO o cI cZ cJ f a g) (fun r w => r = 0 ∧ w = hl_WO o cI cZ cJ (vp_updL f 0 (g 16 0).toInt64) a (f_X0_add g x y z v)) := by
  refine hl_KW_of (cc := cL_book) (maxL := 7) (hh := [(0, 14, 17, 13), (0, 14, 21, 15), (0, 14, 25, 24)]) (by decide) rfl (Nat.le_of_ble_eq_true rfl) ?_
  intro p e s m args below meth c A Q h hz htab hend
  refine hl_ls (ls' := [(0, .ref (a 0)), (1, .int x), (2, .int y), (3, .int z), (4, .int v), (5, .ref o)]) rfl ?_
  refine hl_aload h 5 dL_book_0 rfl ?_
  refine hl_iconst h 0 dL_book_2 (by decide) ?_
  refine hl_aload_n h 0 dL_book_3 rfl ?_
  refine hl_iload_n h 1 dL_book_4 rfl ?_
  refine hl_iload_n h 2 dL_book_5 rfl ?_
  refine hl_iload_n h 3 dL_book_6 rfl ?_
  refine hl_iload h 4 dL_book_7 rfl ?_
  refine hl_callPViD h (st := [.int 0, .ref o]) (wc := hl_WC a cI cZ g) (wr := [(o, .inl (cJ, 1, .inr (.inl f)))]) [1, 2, 3, 4, 5, 6, 7, 8, 9, 10, 11, 12, 13, 14, 15, 16, 17, 18, 19, 20, 21, 22, 23, 24, 25] [0] rfl rfl (by decide) (by decide) (by decide) (c_X5_book l D cI cZ cJ a g x y z v N M ho h1 h2 h3 h4 h5 h6 h7) (cwV 4 h.2.2.2.2.1 gL_book_X5_book rfl rfl rfl (by decide +kernel) ⟨Nat.le_of_ble_eq_true rfl, Nat.le_of_ble_eq_true rfl⟩) (q0 := 1) rfl rfl dL_book_9 rfl (Nat.le_of_ble_eq_true rfl) ⟨Nat.le_of_ble_eq_true rfl, Nat.le_of_ble_eq_true rfl⟩ rfl ?_
  refine hl_wd (w' := hl_WO o cI cZ cJ f a (f_X0_add g x y z v)) rfl ?_
  refine hl_i2l h dL_book_12 ?_
  refine hl_jst h (q0 := 0) rfl 2 rfl dL_book_13 (by unfold vp_in; decide) (w' := hl_WO o cI cZ cJ (vp_updL f 0 (g 16 0).toInt64) a (f_X0_add g x y z v)) rfl ?_
  refine hl_goto h 29 dL_book_14 (by decide) ?_
  refine hl_iconst h 0 dL_book_29 (by decide) ?_
  refine hl_widen 1 6 (Nat.le_of_ble_eq_true rfl) (Nat.le_of_ble_eq_true rfl) ?_
  exact hend dL_book_30 ⟨rfl, rfl⟩

set_option maxHeartbeats 4000000 in
set_option maxRecDepth 100000 in
theorem w_L_book_1 (l : Launch) (D : va_G) (cI cZ cJ : ClassId) (o : Nat) (f : Nat → Int64) (a : Nat → Nat) (g : Nat → Nat → Int32) (hst : l.stackTraces = false) (x y z v : Int32) (h1 : ¬ vp_in x 10) : hl_KW D (hl_ty cI cZ cJ) l yL_book wsL_book ({ frames := 8, cells := 1, slots := 6, locals := 126 } : Room) [.ref (a 0), .int x, .int y, .int z, .int v, .ref o] (hl_WO o cI cZ cJ f a g) (fun r w => r = 1 ∧ w = hl_WO o cI cZ cJ f a g) := by
  refine hl_KW_of (cc := cL_book) (maxL := 7) (hh := [(0, 14, 17, 13), (0, 14, 21, 15), (0, 14, 25, 24)]) (by decide) rfl (Nat.le_of_ble_eq_true rfl) ?_
  intro p e s m args below meth c A Q h hz htab hend
  refine hl_ls (ls' := [(0, .ref (a 0)), (1, .int x), (2, .int y), (3, .int z), (4, .int v), (5, .ref o)]) rfl ?_
  refine hl_aload h 5 dL_book_0 rfl ?_
  refine hl_iconst h 0 dL_book_2 (by decide) ?_
  refine hl_aload_n h 0 dL_book_3 rfl ?_
  refine hl_iload_n h 1 dL_book_4 rfl ?_
  refine hl_iload_n h 2 dL_book_5 rfl ?_
  refine hl_iload_n h 3 dL_book_6 rfl ?_
  refine hl_iload h 4 dL_book_7 rfl ?_
  refine hl_tcatchV h hz (st := [.int 0, .ref o]) (wc := hl_WC a cI cZ g) (wr := [(o, .inl (cJ, 1, .inr (.inl f)))]) [1, 2, 3, 4, 5, 6, 7, 8, 9, 10, 11, 12, 13, 14, 15, 16, 17, 18, 19, 20, 21, 22, 23, 24, 25] [0] rfl rfl (by decide) (by decide) (by decide) (x_X5_book_1 l D cI cZ cJ a g hst x y z v h1) (cwV 4 h.2.2.2.2.1 gL_book_X5_book rfl rfl rfl (by decide +kernel) ⟨Nat.le_of_ble_eq_true rfl, Nat.le_of_ble_eq_true rfl⟩) (q0 := 1) rfl rfl dL_book_9 rfl (Nat.le_of_ble_eq_true rfl) ⟨Nat.le_of_ble_eq_true rfl, Nat.le_of_ble_eq_true rfl⟩ rfl [] ⟨0, 14, 17, 13⟩ [⟨0, 14, 21, 15⟩, ⟨0, 14, 25, 24⟩] htab (fun z h91 => absurd h91 List.not_mem_nil) (by decide) (by decide) (by decide +kernel) hz.2.2.1.1 (fun qx => ?_)
  refine hl_wd (w' := hl_WO o cI cZ cJ f a g) rfl ?_
  refine hl_astore h [(6, .ref qx), (0, .ref (a 0)), (1, .int x), (2, .int y), (3, .int z), (4, .int v), (5, .ref o)] dL_book_17 (by decide) rfl ?_
  refine hl_iconst h 1 dL_book_19 (by decide) ?_
  exact hend dL_book_20 ⟨rfl, rfl⟩

set_option maxHeartbeats 4000000 in
set_option maxRecDepth 100000 in
theorem w_L_book_2 (l : Launch) (D : va_G) (cI cZ cJ : ClassId) (o : Nat) (f : Nat → Int64) (a : Nat → Nat) (g : Nat → Nat → Int32) (hst : l.stackTraces = false) (x y z v : Int32) (h1 : vp_in x 10) (h2 : ¬ vp_in y 4) : hl_KW D (hl_ty cI cZ cJ) l yL_book wsL_book ({ frames := 8, cells := 1, slots := 6, locals := 126 } : Room) [.ref (a 0), .int x, .int y, .int z, .int v, .ref o] (hl_WO o cI cZ cJ f a g) (fun r w => r = 1 ∧ w = hl_WO o cI cZ cJ f a g) := by
  refine hl_KW_of (cc := cL_book) (maxL := 7) (hh := [(0, 14, 17, 13), (0, 14, 21, 15), (0, 14, 25, 24)]) (by decide) rfl (Nat.le_of_ble_eq_true rfl) ?_
  intro p e s m args below meth c A Q h hz htab hend
  refine hl_ls (ls' := [(0, .ref (a 0)), (1, .int x), (2, .int y), (3, .int z), (4, .int v), (5, .ref o)]) rfl ?_
  refine hl_aload h 5 dL_book_0 rfl ?_
  refine hl_iconst h 0 dL_book_2 (by decide) ?_
  refine hl_aload_n h 0 dL_book_3 rfl ?_
  refine hl_iload_n h 1 dL_book_4 rfl ?_
  refine hl_iload_n h 2 dL_book_5 rfl ?_
  refine hl_iload_n h 3 dL_book_6 rfl ?_
  refine hl_iload h 4 dL_book_7 rfl ?_
  refine hl_tcatchV h hz (st := [.int 0, .ref o]) (wc := hl_WC a cI cZ g) (wr := [(o, .inl (cJ, 1, .inr (.inl f)))]) [1, 2, 3, 4, 5, 6, 7, 8, 9, 10, 11, 12, 13, 14, 15, 16, 17, 18, 19, 20, 21, 22, 23, 24, 25] [0] rfl rfl (by decide) (by decide) (by decide) (x_X5_book_2 l D cI cZ cJ a g hst x y z v h1 h2) (cwV 4 h.2.2.2.2.1 gL_book_X5_book rfl rfl rfl (by decide +kernel) ⟨Nat.le_of_ble_eq_true rfl, Nat.le_of_ble_eq_true rfl⟩) (q0 := 1) rfl rfl dL_book_9 rfl (Nat.le_of_ble_eq_true rfl) ⟨Nat.le_of_ble_eq_true rfl, Nat.le_of_ble_eq_true rfl⟩ rfl [] ⟨0, 14, 17, 13⟩ [⟨0, 14, 21, 15⟩, ⟨0, 14, 25, 24⟩] htab (fun z h91 => absurd h91 List.not_mem_nil) (by decide) (by decide) (by decide +kernel) hz.2.2.1.1 (fun qx => ?_)
  refine hl_wd (w' := hl_WO o cI cZ cJ f a g) rfl ?_
  refine hl_astore h [(6, .ref qx), (0, .ref (a 0)), (1, .int x), (2, .int y), (3, .int z), (4, .int v), (5, .ref o)] dL_book_17 (by decide) rfl ?_
  refine hl_iconst h 1 dL_book_19 (by decide) ?_
  exact hend dL_book_20 ⟨rfl, rfl⟩

set_option maxHeartbeats 4000000 in
set_option maxRecDepth 100000 in
theorem w_L_book_3 (l : Launch) (D : va_G) (cI cZ cJ : ClassId) (o : Nat) (f : Nat → Int64) (a : Nat → Nat) (g : Nat → Nat → Int32) (hst : l.stackTraces = false) (x y z v : Int32) (h1 : vp_in x 10) (h2 : vp_in y 4) (h3 : ¬ vp_in z 2) : hl_KW D (hl_ty cI cZ cJ) l yL_book wsL_book ({ frames := 8, cells := 1, slots := 6, locals := 126 } : Room) [.ref (a 0), .int x, .int y, .int z, .int v, .ref o] (hl_WO o cI cZ cJ f a g) (fun r w => r = 1 ∧ w = hl_WO o cI cZ cJ f a g) := by
  refine hl_KW_of (cc := cL_book) (maxL := 7) (hh := [(0, 14, 17, 13), (0, 14, 21, 15), (0, 14, 25, 24)]) (by decide) rfl (Nat.le_of_ble_eq_true rfl) ?_
  intro p e s m args below meth c A Q h hz htab hend
  refine hl_ls (ls' := [(0, .ref (a 0)), (1, .int x), (2, .int y), (3, .int z), (4, .int v), (5, .ref o)]) rfl ?_
  refine hl_aload h 5 dL_book_0 rfl ?_
  refine hl_iconst h 0 dL_book_2 (by decide) ?_
  refine hl_aload_n h 0 dL_book_3 rfl ?_
  refine hl_iload_n h 1 dL_book_4 rfl ?_
  refine hl_iload_n h 2 dL_book_5 rfl ?_
  refine hl_iload_n h 3 dL_book_6 rfl ?_
  refine hl_iload h 4 dL_book_7 rfl ?_
  refine hl_tcatchV h hz (st := [.int 0, .ref o]) (wc := hl_WC a cI cZ g) (wr := [(o, .inl (cJ, 1, .inr (.inl f)))]) [1, 2, 3, 4, 5, 6, 7, 8, 9, 10, 11, 12, 13, 14, 15, 16, 17, 18, 19, 20, 21, 22, 23, 24, 25] [0] rfl rfl (by decide) (by decide) (by decide) (x_X5_book_3 l D cI cZ cJ a g hst x y z v h1 h2 h3) (cwV 4 h.2.2.2.2.1 gL_book_X5_book rfl rfl rfl (by decide +kernel) ⟨Nat.le_of_ble_eq_true rfl, Nat.le_of_ble_eq_true rfl⟩) (q0 := 1) rfl rfl dL_book_9 rfl (Nat.le_of_ble_eq_true rfl) ⟨Nat.le_of_ble_eq_true rfl, Nat.le_of_ble_eq_true rfl⟩ rfl [] ⟨0, 14, 17, 13⟩ [⟨0, 14, 21, 15⟩, ⟨0, 14, 25, 24⟩] htab (fun z h91 => absurd h91 List.not_mem_nil) (by decide) (by decide) (by decide +kernel) hz.2.2.1.1 (fun qx => ?_)
  refine hl_wd (w' := hl_WO o cI cZ cJ f a g) rfl ?_
  refine hl_astore h [(6, .ref qx), (0, .ref (a 0)), (1, .int x), (2, .int y), (3, .int z), (4, .int v), (5, .ref o)] dL_book_17 (by decide) rfl ?_
  refine hl_iconst h 1 dL_book_19 (by decide) ?_
  exact hend dL_book_20 ⟨rfl, rfl⟩

set_option maxHeartbeats 4000000 in
set_option maxRecDepth 100000 in
theorem w_L_book_4 (l : Launch) (D : va_G) (cI cZ cJ : ClassId) (o : Nat) (f : Nat → Int64) (a : Nat → Nat) (g : Nat → Nat → Int32) (hst : l.stackTraces = false) (x y z v : Int32) (h1 : vp_in x 10) (h2 : vp_in y 4) (h3 : vp_in z 2) (h4 : ¬ (¬ v < g 23 0 ∧ v ≤ g 23 0 + 10)) : hl_KW D (hl_ty cI cZ cJ) l yL_book wsL_book ({ frames := 8, cells := 1, slots := 6, locals := 128 } : Room) [.ref (a 0), .int x, .int y, .int z, .int v, .ref o] (hl_WO o cI cZ cJ f a g) (fun r w => r = 2 ∧ w = hl_WO o cI cZ cJ f a g) := by
  refine hl_KW_of (cc := cL_book) (maxL := 7) (hh := [(0, 14, 17, 13), (0, 14, 21, 15), (0, 14, 25, 24)]) (by decide) rfl (Nat.le_of_ble_eq_true rfl) ?_
  intro p e s m args below meth c A Q h hz htab hend
  refine hl_ls (ls' := [(0, .ref (a 0)), (1, .int x), (2, .int y), (3, .int z), (4, .int v), (5, .ref o)]) rfl ?_
  refine hl_aload h 5 dL_book_0 rfl ?_
  refine hl_iconst h 0 dL_book_2 (by decide) ?_
  refine hl_aload_n h 0 dL_book_3 rfl ?_
  refine hl_iload_n h 1 dL_book_4 rfl ?_
  refine hl_iload_n h 2 dL_book_5 rfl ?_
  refine hl_iload_n h 3 dL_book_6 rfl ?_
  refine hl_iload h 4 dL_book_7 rfl ?_
  refine hl_tcatchV h hz (st := [.int 0, .ref o]) (wc := hl_WC a cI cZ g) (wr := [(o, .inl (cJ, 1, .inr (.inl f)))]) [1, 2, 3, 4, 5, 6, 7, 8, 9, 10, 11, 12, 13, 14, 15, 16, 17, 18, 19, 20, 21, 22, 23, 24, 25] [0] rfl rfl (by decide) (by decide) (by decide) (x_X5_book_4 l D cI cZ cJ a g hst x y z v h1 h2 h3 h4) (cwV 4 h.2.2.2.2.1 gL_book_X5_book rfl rfl rfl (by decide +kernel) ⟨Nat.le_of_ble_eq_true rfl, Nat.le_of_ble_eq_true rfl⟩) (q0 := 1) rfl rfl dL_book_9 rfl (Nat.le_of_ble_eq_true rfl) ⟨Nat.le_of_ble_eq_true rfl, Nat.le_of_ble_eq_true rfl⟩ rfl [⟨0, 14, 17, 13⟩] ⟨0, 14, 21, 15⟩ [⟨0, 14, 25, 24⟩] htab (fun z h91 => by rw [List.mem_singleton] at h91; subst h91; exact ⟨by decide, "java/lang/IndexOutOfBoundsException", by decide +kernel, hz.2.2.2.1.1⟩) (by decide) (by decide) (by decide +kernel) hz.2.2.1.2.1 (fun qx => ?_)
  refine hl_wd (w' := hl_WO o cI cZ cJ f a g) rfl ?_
  refine hl_astore h [(6, .ref qx), (0, .ref (a 0)), (1, .int x), (2, .int y), (3, .int z), (4, .int v), (5, .ref o)] dL_book_21 (by decide) rfl ?_
  refine hl_iconst h 2 dL_book_23 (by decide) ?_
  exact hend dL_book_24 ⟨rfl, rfl⟩

set_option maxHeartbeats 4000000 in
set_option maxRecDepth 100000 in
theorem w_L_book_5 (l : Launch) (D : va_G) (cI cZ cJ : ClassId) (o : Nat) (f : Nat → Int64) (a : Nat → Nat) (g : Nat → Nat → Int32) (hst : l.stackTraces = false) (x y z v : Int32) (N M : Nat) (ho : hl_ok g N M) (h1 : vp_in x 10) (h2 : vp_in y 4) (h3 : vp_in z 2) (h4 : ¬ v < g 23 0) (h5 : v ≤ g 23 0 + 10) (h6 : ¬ g 16 0 < 80 ∨ r_X5_takesMore g N y z v = 0) : hl_KW D (hl_ty cI cZ cJ) l yL_book wsL_book ({ frames := 7, cells := 1, slots := 6, locals := 106 } : Room) [.ref (a 0), .int x, .int y, .int z, .int v, .ref o] (hl_WO o cI cZ cJ f a g) (fun r w => r = 3 ∧ w = hl_WO o cI cZ cJ f a g) := by
  refine hl_KW_of (cc := cL_book) (maxL := 7) (hh := [(0, 14, 17, 13), (0, 14, 21, 15), (0, 14, 25, 24)]) (by decide) rfl (Nat.le_of_ble_eq_true rfl) ?_
  intro p e s m args below meth c A Q h hz htab hend
  refine hl_ls (ls' := [(0, .ref (a 0)), (1, .int x), (2, .int y), (3, .int z), (4, .int v), (5, .ref o)]) rfl ?_
  refine hl_aload h 5 dL_book_0 rfl ?_
  refine hl_iconst h 0 dL_book_2 (by decide) ?_
  refine hl_aload_n h 0 dL_book_3 rfl ?_
  refine hl_iload_n h 1 dL_book_4 rfl ?_
  refine hl_iload_n h 2 dL_book_5 rfl ?_
  refine hl_iload_n h 3 dL_book_6 rfl ?_
  refine hl_iload h 4 dL_book_7 rfl ?_
  refine hl_tcatchV h hz (st := [.int 0, .ref o]) (wc := hl_WC a cI cZ g) (wr := [(o, .inl (cJ, 1, .inr (.inl f)))]) [1, 2, 3, 4, 5, 6, 7, 8, 9, 10, 11, 12, 13, 14, 15, 16, 17, 18, 19, 20, 21, 22, 23, 24, 25] [0] rfl rfl (by decide) (by decide) (by decide) (x_X5_book_5 l D cI cZ cJ a g hst x y z v N M ho h1 h2 h3 h4 h5 h6) (cwV 4 h.2.2.2.2.1 gL_book_X5_book rfl rfl rfl (by decide +kernel) ⟨Nat.le_of_ble_eq_true rfl, Nat.le_of_ble_eq_true rfl⟩) (q0 := 1) rfl rfl dL_book_9 rfl (Nat.le_of_ble_eq_true rfl) ⟨Nat.le_of_ble_eq_true rfl, Nat.le_of_ble_eq_true rfl⟩ rfl [⟨0, 14, 17, 13⟩, ⟨0, 14, 21, 15⟩] ⟨0, 14, 25, 24⟩ [] htab (fun z h91 => (List.mem_cons.mp h91).elim (fun h92 => by subst h92; exact ⟨by decide, "java/lang/IndexOutOfBoundsException", by decide +kernel, hz.2.2.2.1.2.1⟩) (fun h92 => by rw [List.mem_singleton] at h92; subst h92; exact ⟨by decide, "java/lang/IllegalArgumentException", by decide +kernel, hz.2.2.2.1.2.2⟩)) (by decide) (by decide) (by decide +kernel) hz.2.2.1.2.2 (fun qx => ?_)
  refine hl_wd (w' := hl_WO o cI cZ cJ f a g) rfl ?_
  refine hl_astore h [(6, .ref qx), (0, .ref (a 0)), (1, .int x), (2, .int y), (3, .int z), (4, .int v), (5, .ref o)] dL_book_25 (by decide) rfl ?_
  refine hl_iconst h 3 dL_book_27 (by decide) ?_
  exact hend dL_book_28 ⟨rfl, rfl⟩

set_option maxHeartbeats 4000000 in
set_option maxRecDepth 100000 in
theorem w_L_come_0 (l : Launch) (D : va_G) (cI cZ cJ : ClassId) (o : Nat) (f : Nat → Int64) (a : Nat → Nat) (g : Nat → Nat → Int32) (x : Int32) (N M : Nat) (ho : hl_ok g N M) (h1 : ¬ x < 0) (h2 : x < g 16 0) (h3 : g 13 x.toNatClampNeg = g 23 0) (h4 : g 14 x.toNatClampNeg = 0) : hl_KW D (hl_ty cI cZ cJ) l yL_come wsL_come ({ frames := 5, cells := 1, slots := 6, locals := 113 } : Room) [.ref (a 0), .int x, .ref o] (hl_WO o cI cZ cJ f a g) (fun r w => r = 0 ∧ w = hl_WO o cI cZ cJ (vp_updL f 0 (r_X5_findInn g (g 11 x.toNatClampNeg) (g 12 x.toNatClampNeg)).toInt64) a (f_X5_come g x)) := by
  refine hl_KW_of (cc := cL_come) (maxL := 4) (hh := [(0, 9, 12, 13), (0, 9, 15, 24)]) (by decide) rfl (Nat.le_of_ble_eq_true rfl) ?_
  intro p e s m args below meth c A Q h hz htab hend
  refine hl_ls (ls' := [(0, .ref (a 0)), (1, .int x), (2, .ref o)]) rfl ?_
  refine hl_aload_n h 2 dL_come_0 rfl ?_
  refine hl_iconst h 0 dL_come_1 (by decide) ?_
  refine hl_aload_n h 0 dL_come_2 rfl ?_
  refine hl_iload_n h 1 dL_come_3 rfl ?_
  refine hl_callPViD h (st := [.int 0, .ref o]) (wc := hl_WC a cI cZ g) (wr := [(o, .inl (cJ, 1, .inr (.inl f)))]) [1, 2, 3, 4, 5, 6, 7, 8, 9, 10, 11, 12, 13, 14, 15, 16, 17, 18, 19, 20, 21, 22, 23, 24, 25] [0] rfl rfl (by decide) (by decide) (by decide) (c_X5_come l D cI cZ cJ a g x N M ho h1 h2 h3 h4) (cwV 1 h.2.2.2.2.1 gL_come_X5_come rfl rfl rfl (by decide +kernel) ⟨Nat.le_of_ble_eq_true rfl, Nat.le_of_ble_eq_true rfl⟩) (q0 := 1) rfl rfl dL_come_4 rfl (Nat.le_of_ble_eq_true rfl) ⟨Nat.le_of_ble_eq_true rfl, Nat.le_of_ble_eq_true rfl⟩ rfl ?_
  refine hl_wd (w' := hl_WO o cI cZ cJ f a (f_X5_come g x)) rfl ?_
  refine hl_i2l h dL_come_7 ?_
  refine hl_jst h (q0 := 0) rfl 2 rfl dL_come_8 (by unfold vp_in; decide) (w' := hl_WO o cI cZ cJ (vp_updL f 0 (r_X5_findInn g (g 11 x.toNatClampNeg) (g 12 x.toNatClampNeg)).toInt64) a (f_X5_come g x)) rfl ?_
  refine hl_goto h 18 dL_come_9 (by decide) ?_
  refine hl_iconst h 0 dL_come_18 (by decide) ?_
  refine hl_widen 1 6 (Nat.le_of_ble_eq_true rfl) (Nat.le_of_ble_eq_true rfl) ?_
  exact hend dL_come_19 ⟨rfl, rfl⟩

set_option maxHeartbeats 4000000 in
set_option maxRecDepth 100000 in
theorem w_L_come_1 (l : Launch) (D : va_G) (cI cZ cJ : ClassId) (o : Nat) (f : Nat → Int64) (a : Nat → Nat) (g : Nat → Nat → Int32) (hst : l.stackTraces = false) (x : Int32) (h1 : ¬ (¬ x < 0 ∧ x < g 16 0)) : hl_KW D (hl_ty cI cZ cJ) l yL_come wsL_come ({ frames := 8, cells := 1, slots := 6, locals := 125 } : Room) [.ref (a 0), .int x, .ref o] (hl_WO o cI cZ cJ f a g) (fun r w => r = 1 ∧ w = hl_WO o cI cZ cJ f a g) := by
  refine hl_KW_of (cc := cL_come) (maxL := 4) (hh := [(0, 9, 12, 13), (0, 9, 15, 24)]) (by decide) rfl (Nat.le_of_ble_eq_true rfl) ?_
  intro p e s m args below meth c A Q h hz htab hend
  refine hl_ls (ls' := [(0, .ref (a 0)), (1, .int x), (2, .ref o)]) rfl ?_
  refine hl_aload_n h 2 dL_come_0 rfl ?_
  refine hl_iconst h 0 dL_come_1 (by decide) ?_
  refine hl_aload_n h 0 dL_come_2 rfl ?_
  refine hl_iload_n h 1 dL_come_3 rfl ?_
  refine hl_tcatchV h hz (st := [.int 0, .ref o]) (wc := hl_WC a cI cZ g) (wr := [(o, .inl (cJ, 1, .inr (.inl f)))]) [1, 2, 3, 4, 5, 6, 7, 8, 9, 10, 11, 12, 13, 14, 15, 16, 17, 18, 19, 20, 21, 22, 23, 24, 25] [0] rfl rfl (by decide) (by decide) (by decide) (x_X5_come_1 l D cI cZ cJ a g hst x h1) (cwV 1 h.2.2.2.2.1 gL_come_X5_come rfl rfl rfl (by decide +kernel) ⟨Nat.le_of_ble_eq_true rfl, Nat.le_of_ble_eq_true rfl⟩) (q0 := 1) rfl rfl dL_come_4 rfl (Nat.le_of_ble_eq_true rfl) ⟨Nat.le_of_ble_eq_true rfl, Nat.le_of_ble_eq_true rfl⟩ rfl [] ⟨0, 9, 12, 13⟩ [⟨0, 9, 15, 24⟩] htab (fun z h91 => absurd h91 List.not_mem_nil) (by decide) (by decide) (by decide +kernel) hz.2.2.1.1 (fun qx => ?_)
  refine hl_wd (w' := hl_WO o cI cZ cJ f a g) rfl ?_
  refine hl_astore_n h [(3, .ref qx), (0, .ref (a 0)), (1, .int x), (2, .ref o)] dL_come_12 (by decide) rfl ?_
  refine hl_iconst h 1 dL_come_13 (by decide) ?_
  exact hend dL_come_14 ⟨rfl, rfl⟩

set_option maxHeartbeats 4000000 in
set_option maxRecDepth 100000 in
theorem w_L_come_2 (l : Launch) (D : va_G) (cI cZ cJ : ClassId) (o : Nat) (f : Nat → Int64) (a : Nat → Nat) (g : Nat → Nat → Int32) (hst : l.stackTraces = false) (x : Int32) (N M : Nat) (ho : hl_ok g N M) (h1 : ¬ x < 0) (h2 : x < g 16 0) (h3 : ¬ (g 13 x.toNatClampNeg = g 23 0 ∧ g 14 x.toNatClampNeg = 0)) : hl_KW D (hl_ty cI cZ cJ) l yL_come wsL_come ({ frames := 7, cells := 1, slots := 6, locals := 104 } : Room) [.ref (a 0), .int x, .ref o] (hl_WO o cI cZ cJ f a g) (fun r w => r = 2 ∧ w = hl_WO o cI cZ cJ f a g) := by
  refine hl_KW_of (cc := cL_come) (maxL := 4) (hh := [(0, 9, 12, 13), (0, 9, 15, 24)]) (by decide) rfl (Nat.le_of_ble_eq_true rfl) ?_
  intro p e s m args below meth c A Q h hz htab hend
  refine hl_ls (ls' := [(0, .ref (a 0)), (1, .int x), (2, .ref o)]) rfl ?_
  refine hl_aload_n h 2 dL_come_0 rfl ?_
  refine hl_iconst h 0 dL_come_1 (by decide) ?_
  refine hl_aload_n h 0 dL_come_2 rfl ?_
  refine hl_iload_n h 1 dL_come_3 rfl ?_
  refine hl_tcatchV h hz (st := [.int 0, .ref o]) (wc := hl_WC a cI cZ g) (wr := [(o, .inl (cJ, 1, .inr (.inl f)))]) [1, 2, 3, 4, 5, 6, 7, 8, 9, 10, 11, 12, 13, 14, 15, 16, 17, 18, 19, 20, 21, 22, 23, 24, 25] [0] rfl rfl (by decide) (by decide) (by decide) (x_X5_come_2 l D cI cZ cJ a g hst x N M ho h1 h2 h3) (cwV 1 h.2.2.2.2.1 gL_come_X5_come rfl rfl rfl (by decide +kernel) ⟨Nat.le_of_ble_eq_true rfl, Nat.le_of_ble_eq_true rfl⟩) (q0 := 1) rfl rfl dL_come_4 rfl (Nat.le_of_ble_eq_true rfl) ⟨Nat.le_of_ble_eq_true rfl, Nat.le_of_ble_eq_true rfl⟩ rfl [⟨0, 9, 12, 13⟩] ⟨0, 9, 15, 24⟩ [] htab (fun z h91 => by rw [List.mem_singleton] at h91; subst h91; exact ⟨by decide, "java/lang/IndexOutOfBoundsException", by decide +kernel, hz.2.2.2.1.2.1⟩) (by decide) (by decide) (by decide +kernel) hz.2.2.1.2.2 (fun qx => ?_)
  refine hl_wd (w' := hl_WO o cI cZ cJ f a g) rfl ?_
  refine hl_astore_n h [(3, .ref qx), (0, .ref (a 0)), (1, .int x), (2, .ref o)] dL_come_15 (by decide) rfl ?_
  refine hl_iconst h 2 dL_come_16 (by decide) ?_
  exact hend dL_come_17 ⟨rfl, rfl⟩

set_option maxHeartbeats 4000000 in
set_option maxRecDepth 100000 in
theorem w_L_burn_0 (l : Launch) (D : va_G) (cI cZ cJ : ClassId) (o : Nat) (f : Nat → Int64) (a : Nat → Nat) (g : Nat → Nat → Int32) (x y q : Int32) (N M : Nat) (ho : hl_ok g N M) (h1 : vp_in x 10) (h2 : vp_in y 4) (h3 : ¬ q < 1) (h4 : q ≤ 100) (h5 : q ≤ hl_it (b_X3_ofGuest g x) 0 M 0) : hl_KW D (hl_ty cI cZ cJ) l yL_burn wsL_burn ({ frames := 4, cells := 1, slots := 6, locals := 93 } : Room) [.ref (a 0), .int x, .int y, .int q, .ref o] (hl_WO o cI cZ cJ f a g) (fun r w => r = 0 ∧ w = hl_WO o cI cZ cJ (vp_updL f 0 (hl_it (b_X3_ofGuest (f_X5_burnEarliest g M x y q) x) 0 M 0).toInt64) a (f_X5_burnEarliest g M x y q)) := by
  refine hl_KW_of (cc := cL_burn) (maxL := 6) (hh := [(0, 12, 15, 13), (0, 12, 19, 15), (0, 12, 23, 24)]) (by decide) rfl (Nat.le_of_ble_eq_true rfl) ?_
  intro p e s m args below meth c A Q h hz htab hend
  refine hl_ls (ls' := [(0, .ref (a 0)), (1, .int x), (2, .int y), (3, .int q), (4, .ref o)]) rfl ?_
  refine hl_aload h 4 dL_burn_0 rfl ?_
  refine hl_iconst h 0 dL_burn_2 (by decide) ?_
  refine hl_aload_n h 0 dL_burn_3 rfl ?_
  refine hl_iload_n h 1 dL_burn_4 rfl ?_
  refine hl_iload_n h 2 dL_burn_5 rfl ?_
  refine hl_iload_n h 3 dL_burn_6 rfl ?_
  refine hl_callPViD h (st := [.int 0, .ref o]) (wc := hl_WC a cI cZ g) (wr := [(o, .inl (cJ, 1, .inr (.inl f)))]) [1, 2, 3, 4, 5, 6, 7, 8, 9, 10, 11, 12, 13, 14, 15, 16, 17, 18, 19, 20, 21, 22, 23, 24, 25] [0] rfl rfl (by decide) (by decide) (by decide) (c_X5_burn l D cI cZ cJ a g x y q N M ho h1 h2 h3 h4 h5) (cwV 3 h.2.2.2.2.1 gL_burn_X5_burn rfl rfl rfl (by decide +kernel) ⟨Nat.le_of_ble_eq_true rfl, Nat.le_of_ble_eq_true rfl⟩) (q0 := 1) rfl rfl dL_burn_7 rfl (Nat.le_of_ble_eq_true rfl) ⟨Nat.le_of_ble_eq_true rfl, Nat.le_of_ble_eq_true rfl⟩ rfl ?_
  refine hl_wd (w' := hl_WO o cI cZ cJ f a (f_X5_burnEarliest g M x y q)) rfl ?_
  refine hl_i2l h dL_burn_10 ?_
  refine hl_jst h (q0 := 0) rfl 2 rfl dL_burn_11 (by unfold vp_in; decide) (w' := hl_WO o cI cZ cJ (vp_updL f 0 (hl_it (b_X3_ofGuest (f_X5_burnEarliest g M x y q) x) 0 M 0).toInt64) a (f_X5_burnEarliest g M x y q)) rfl ?_
  refine hl_goto h 27 dL_burn_12 (by decide) ?_
  refine hl_iconst h 0 dL_burn_27 (by decide) ?_
  refine hl_widen 1 6 (Nat.le_of_ble_eq_true rfl) (Nat.le_of_ble_eq_true rfl) ?_
  exact hend dL_burn_28 ⟨rfl, rfl⟩

set_option maxHeartbeats 4000000 in
set_option maxRecDepth 100000 in
theorem w_L_burn_1 (l : Launch) (D : va_G) (cI cZ cJ : ClassId) (o : Nat) (f : Nat → Int64) (a : Nat → Nat) (g : Nat → Nat → Int32) (hst : l.stackTraces = false) (x y q : Int32) (h1 : ¬ vp_in x 10) : hl_KW D (hl_ty cI cZ cJ) l yL_burn wsL_burn ({ frames := 8, cells := 1, slots := 6, locals := 125 } : Room) [.ref (a 0), .int x, .int y, .int q, .ref o] (hl_WO o cI cZ cJ f a g) (fun r w => r = 1 ∧ w = hl_WO o cI cZ cJ f a g) := by
  refine hl_KW_of (cc := cL_burn) (maxL := 6) (hh := [(0, 12, 15, 13), (0, 12, 19, 15), (0, 12, 23, 24)]) (by decide) rfl (Nat.le_of_ble_eq_true rfl) ?_
  intro p e s m args below meth c A Q h hz htab hend
  refine hl_ls (ls' := [(0, .ref (a 0)), (1, .int x), (2, .int y), (3, .int q), (4, .ref o)]) rfl ?_
  refine hl_aload h 4 dL_burn_0 rfl ?_
  refine hl_iconst h 0 dL_burn_2 (by decide) ?_
  refine hl_aload_n h 0 dL_burn_3 rfl ?_
  refine hl_iload_n h 1 dL_burn_4 rfl ?_
  refine hl_iload_n h 2 dL_burn_5 rfl ?_
  refine hl_iload_n h 3 dL_burn_6 rfl ?_
  refine hl_tcatchV h hz (st := [.int 0, .ref o]) (wc := hl_WC a cI cZ g) (wr := [(o, .inl (cJ, 1, .inr (.inl f)))]) [1, 2, 3, 4, 5, 6, 7, 8, 9, 10, 11, 12, 13, 14, 15, 16, 17, 18, 19, 20, 21, 22, 23, 24, 25] [0] rfl rfl (by decide) (by decide) (by decide) (x_X5_burn_1 l D cI cZ cJ a g hst x y q h1) (cwV 3 h.2.2.2.2.1 gL_burn_X5_burn rfl rfl rfl (by decide +kernel) ⟨Nat.le_of_ble_eq_true rfl, Nat.le_of_ble_eq_true rfl⟩) (q0 := 1) rfl rfl dL_burn_7 rfl (Nat.le_of_ble_eq_true rfl) ⟨Nat.le_of_ble_eq_true rfl, Nat.le_of_ble_eq_true rfl⟩ rfl [] ⟨0, 12, 15, 13⟩ [⟨0, 12, 19, 15⟩, ⟨0, 12, 23, 24⟩] htab (fun z h91 => absurd h91 List.not_mem_nil) (by decide) (by decide) (by decide +kernel) hz.2.2.1.1 (fun qx => ?_)
  refine hl_wd (w' := hl_WO o cI cZ cJ f a g) rfl ?_
  refine hl_astore h [(5, .ref qx), (0, .ref (a 0)), (1, .int x), (2, .int y), (3, .int q), (4, .ref o)] dL_burn_15 (by decide) rfl ?_
  refine hl_iconst h 1 dL_burn_17 (by decide) ?_
  exact hend dL_burn_18 ⟨rfl, rfl⟩

set_option maxHeartbeats 4000000 in
set_option maxRecDepth 100000 in
theorem w_L_burn_2 (l : Launch) (D : va_G) (cI cZ cJ : ClassId) (o : Nat) (f : Nat → Int64) (a : Nat → Nat) (g : Nat → Nat → Int32) (hst : l.stackTraces = false) (x y q : Int32) (h1 : vp_in x 10) (h2 : ¬ vp_in y 4) : hl_KW D (hl_ty cI cZ cJ) l yL_burn wsL_burn ({ frames := 8, cells := 1, slots := 6, locals := 125 } : Room) [.ref (a 0), .int x, .int y, .int q, .ref o] (hl_WO o cI cZ cJ f a g) (fun r w => r = 1 ∧ w = hl_WO o cI cZ cJ f a g) := by
  refine hl_KW_of (cc := cL_burn) (maxL := 6) (hh := [(0, 12, 15, 13), (0, 12, 19, 15), (0, 12, 23, 24)]) (by decide) rfl (Nat.le_of_ble_eq_true rfl) ?_
  intro p e s m args below meth c A Q h hz htab hend
  refine hl_ls (ls' := [(0, .ref (a 0)), (1, .int x), (2, .int y), (3, .int q), (4, .ref o)]) rfl ?_
  refine hl_aload h 4 dL_burn_0 rfl ?_
  refine hl_iconst h 0 dL_burn_2 (by decide) ?_
  refine hl_aload_n h 0 dL_burn_3 rfl ?_
  refine hl_iload_n h 1 dL_burn_4 rfl ?_
  refine hl_iload_n h 2 dL_burn_5 rfl ?_
  refine hl_iload_n h 3 dL_burn_6 rfl ?_
  refine hl_tcatchV h hz (st := [.int 0, .ref o]) (wc := hl_WC a cI cZ g) (wr := [(o, .inl (cJ, 1, .inr (.inl f)))]) [1, 2, 3, 4, 5, 6, 7, 8, 9, 10, 11, 12, 13, 14, 15, 16, 17, 18, 19, 20, 21, 22, 23, 24, 25] [0] rfl rfl (by decide) (by decide) (by decide) (x_X5_burn_2 l D cI cZ cJ a g hst x y q h1 h2) (cwV 3 h.2.2.2.2.1 gL_burn_X5_burn rfl rfl rfl (by decide +kernel) ⟨Nat.le_of_ble_eq_true rfl, Nat.le_of_ble_eq_true rfl⟩) (q0 := 1) rfl rfl dL_burn_7 rfl (Nat.le_of_ble_eq_true rfl) ⟨Nat.le_of_ble_eq_true rfl, Nat.le_of_ble_eq_true rfl⟩ rfl [] ⟨0, 12, 15, 13⟩ [⟨0, 12, 19, 15⟩, ⟨0, 12, 23, 24⟩] htab (fun z h91 => absurd h91 List.not_mem_nil) (by decide) (by decide) (by decide +kernel) hz.2.2.1.1 (fun qx => ?_)
  refine hl_wd (w' := hl_WO o cI cZ cJ f a g) rfl ?_
  refine hl_astore h [(5, .ref qx), (0, .ref (a 0)), (1, .int x), (2, .int y), (3, .int q), (4, .ref o)] dL_burn_15 (by decide) rfl ?_
  refine hl_iconst h 1 dL_burn_17 (by decide) ?_
  exact hend dL_burn_18 ⟨rfl, rfl⟩

set_option maxHeartbeats 4000000 in
set_option maxRecDepth 100000 in
theorem w_L_burn_3 (l : Launch) (D : va_G) (cI cZ cJ : ClassId) (o : Nat) (f : Nat → Int64) (a : Nat → Nat) (g : Nat → Nat → Int32) (hst : l.stackTraces = false) (x y q : Int32) (h1 : vp_in x 10) (h2 : vp_in y 4) (h3 : ¬ (¬ q < 1 ∧ q ≤ 100)) : hl_KW D (hl_ty cI cZ cJ) l yL_burn wsL_burn ({ frames := 8, cells := 1, slots := 6, locals := 127 } : Room) [.ref (a 0), .int x, .int y, .int q, .ref o] (hl_WO o cI cZ cJ f a g) (fun r w => r = 2 ∧ w = hl_WO o cI cZ cJ f a g) := by
  refine hl_KW_of (cc := cL_burn) (maxL := 6) (hh := [(0, 12, 15, 13), (0, 12, 19, 15), (0, 12, 23, 24)]) (by decide) rfl (Nat.le_of_ble_eq_true rfl) ?_
  intro p e s m args below meth c A Q h hz htab hend
  refine hl_ls (ls' := [(0, .ref (a 0)), (1, .int x), (2, .int y), (3, .int q), (4, .ref o)]) rfl ?_
  refine hl_aload h 4 dL_burn_0 rfl ?_
  refine hl_iconst h 0 dL_burn_2 (by decide) ?_
  refine hl_aload_n h 0 dL_burn_3 rfl ?_
  refine hl_iload_n h 1 dL_burn_4 rfl ?_
  refine hl_iload_n h 2 dL_burn_5 rfl ?_
  refine hl_iload_n h 3 dL_burn_6 rfl ?_
  refine hl_tcatchV h hz (st := [.int 0, .ref o]) (wc := hl_WC a cI cZ g) (wr := [(o, .inl (cJ, 1, .inr (.inl f)))]) [1, 2, 3, 4, 5, 6, 7, 8, 9, 10, 11, 12, 13, 14, 15, 16, 17, 18, 19, 20, 21, 22, 23, 24, 25] [0] rfl rfl (by decide) (by decide) (by decide) (x_X5_burn_3 l D cI cZ cJ a g hst x y q h1 h2 h3) (cwV 3 h.2.2.2.2.1 gL_burn_X5_burn rfl rfl rfl (by decide +kernel) ⟨Nat.le_of_ble_eq_true rfl, Nat.le_of_ble_eq_true rfl⟩) (q0 := 1) rfl rfl dL_burn_7 rfl (Nat.le_of_ble_eq_true rfl) ⟨Nat.le_of_ble_eq_true rfl, Nat.le_of_ble_eq_true rfl⟩ rfl [⟨0, 12, 15, 13⟩] ⟨0, 12, 19, 15⟩ [⟨0, 12, 23, 24⟩] htab (fun z h91 => by rw [List.mem_singleton] at h91; subst h91; exact ⟨by decide, "java/lang/IndexOutOfBoundsException", by decide +kernel, hz.2.2.2.1.1⟩) (by decide) (by decide) (by decide +kernel) hz.2.2.1.2.1 (fun qx => ?_)
  refine hl_wd (w' := hl_WO o cI cZ cJ f a g) rfl ?_
  refine hl_astore h [(5, .ref qx), (0, .ref (a 0)), (1, .int x), (2, .int y), (3, .int q), (4, .ref o)] dL_burn_19 (by decide) rfl ?_
  refine hl_iconst h 2 dL_burn_21 (by decide) ?_
  exact hend dL_burn_22 ⟨rfl, rfl⟩

set_option maxHeartbeats 4000000 in
set_option maxRecDepth 100000 in
theorem w_L_burn_4 (l : Launch) (D : va_G) (cI cZ cJ : ClassId) (o : Nat) (f : Nat → Int64) (a : Nat → Nat) (g : Nat → Nat → Int32) (hst : l.stackTraces = false) (x y q : Int32) (N M : Nat) (ho : hl_ok g N M) (h1 : vp_in x 10) (h2 : vp_in y 4) (h3 : ¬ q < 1) (h4 : q ≤ 100) (h5 : ¬ q ≤ hl_it (b_X3_ofGuest g x) 0 M 0) : hl_KW D (hl_ty cI cZ cJ) l yL_burn wsL_burn ({ frames := 7, cells := 1, slots := 6, locals := 105 } : Room) [.ref (a 0), .int x, .int y, .int q, .ref o] (hl_WO o cI cZ cJ f a g) (fun r w => r = 3 ∧ w = hl_WO o cI cZ cJ f a g) := by
  refine hl_KW_of (cc := cL_burn) (maxL := 6) (hh := [(0, 12, 15, 13), (0, 12, 19, 15), (0, 12, 23, 24)]) (by decide) rfl (Nat.le_of_ble_eq_true rfl) ?_
  intro p e s m args below meth c A Q h hz htab hend
  refine hl_ls (ls' := [(0, .ref (a 0)), (1, .int x), (2, .int y), (3, .int q), (4, .ref o)]) rfl ?_
  refine hl_aload h 4 dL_burn_0 rfl ?_
  refine hl_iconst h 0 dL_burn_2 (by decide) ?_
  refine hl_aload_n h 0 dL_burn_3 rfl ?_
  refine hl_iload_n h 1 dL_burn_4 rfl ?_
  refine hl_iload_n h 2 dL_burn_5 rfl ?_
  refine hl_iload_n h 3 dL_burn_6 rfl ?_
  refine hl_tcatchV h hz (st := [.int 0, .ref o]) (wc := hl_WC a cI cZ g) (wr := [(o, .inl (cJ, 1, .inr (.inl f)))]) [1, 2, 3, 4, 5, 6, 7, 8, 9, 10, 11, 12, 13, 14, 15, 16, 17, 18, 19, 20, 21, 22, 23, 24, 25] [0] rfl rfl (by decide) (by decide) (by decide) (x_X5_burn_4 l D cI cZ cJ a g hst x y q N M ho h1 h2 h3 h4 h5) (cwV 3 h.2.2.2.2.1 gL_burn_X5_burn rfl rfl rfl (by decide +kernel) ⟨Nat.le_of_ble_eq_true rfl, Nat.le_of_ble_eq_true rfl⟩) (q0 := 1) rfl rfl dL_burn_7 rfl (Nat.le_of_ble_eq_true rfl) ⟨Nat.le_of_ble_eq_true rfl, Nat.le_of_ble_eq_true rfl⟩ rfl [⟨0, 12, 15, 13⟩, ⟨0, 12, 19, 15⟩] ⟨0, 12, 23, 24⟩ [] htab (fun z h91 => (List.mem_cons.mp h91).elim (fun h92 => by subst h92; exact ⟨by decide, "java/lang/IndexOutOfBoundsException", by decide +kernel, hz.2.2.2.1.2.1⟩) (fun h92 => by rw [List.mem_singleton] at h92; subst h92; exact ⟨by decide, "java/lang/IllegalArgumentException", by decide +kernel, hz.2.2.2.1.2.2⟩)) (by decide) (by decide) (by decide +kernel) hz.2.2.1.2.2 (fun qx => ?_)
  refine hl_wd (w' := hl_WO o cI cZ cJ f a g) rfl ?_
  refine hl_astore h [(5, .ref qx), (0, .ref (a 0)), (1, .int x), (2, .int y), (3, .int q), (4, .ref o)] dL_burn_23 (by decide) rfl ?_
  refine hl_iconst h 3 dL_burn_25 (by decide) ?_
  exact hend dL_burn_26 ⟨rfl, rfl⟩

set_option maxHeartbeats 4000000 in
set_option maxRecDepth 100000 in
theorem w_L_night_0 (l : Launch) (D : va_G) (cI cZ cJ : ClassId) (o : Nat) (f : Nat → Int64) (a : Nat → Nat) (g : Nat → Nat → Int32) (N M : Nat) (ho : hl_ok g N M) (h1 : g 23 0 < 300) : hl_KW D (hl_ty cI cZ cJ) l yL_night wsL_night ({ frames := 2, cells := 1, slots := 6, locals := 44 } : Room) [.ref (a 0), .ref o] (hl_WO o cI cZ cJ f a g) (fun r w => r = 0 ∧ w = hl_WO o cI cZ cJ (vp_updL f 0 (hl_it (b_X0_missedIn g (g 23 0)) 0 N 0).toInt64) a (f_X5_night g)) := by
  refine hl_KW_of (cc := cL_night) (maxL := 3) (hh := [(0, 8, 11, 24)]) (by decide) rfl (Nat.le_of_ble_eq_true rfl) ?_
  intro p e s m args below meth c A Q h hz htab hend
  refine hl_ls (ls' := [(0, .ref (a 0)), (1, .ref o)]) rfl ?_
  refine hl_aload_n h 1 dL_night_0 rfl ?_
  refine hl_iconst h 0 dL_night_1 (by decide) ?_
  refine hl_aload_n h 0 dL_night_2 rfl ?_
  refine hl_callPViD h (st := [.int 0, .ref o]) (wc := hl_WC a cI cZ g) (wr := [(o, .inl (cJ, 1, .inr (.inl f)))]) [1, 2, 3, 4, 5, 6, 7, 8, 9, 10, 11, 12, 13, 14, 15, 16, 17, 18, 19, 20, 21, 22, 23, 24, 25] [0] rfl rfl (by decide) (by decide) (by decide) (c_X5_night l D cI cZ cJ a g N M ho h1) (cwV 0 h.2.2.2.2.1 gL_night_X5_night rfl rfl rfl (by decide +kernel) ⟨Nat.le_of_ble_eq_true rfl, Nat.le_of_ble_eq_true rfl⟩) (q0 := 1) rfl rfl dL_night_3 rfl (Nat.le_of_ble_eq_true rfl) ⟨Nat.le_of_ble_eq_true rfl, Nat.le_of_ble_eq_true rfl⟩ rfl ?_
  refine hl_wd (w' := hl_WO o cI cZ cJ f a (f_X5_night g)) rfl ?_
  refine hl_i2l h dL_night_6 ?_
  refine hl_jst h (q0 := 0) rfl 2 rfl dL_night_7 (by unfold vp_in; decide) (w' := hl_WO o cI cZ cJ (vp_updL f 0 (hl_it (b_X0_missedIn g (g 23 0)) 0 N 0).toInt64) a (f_X5_night g)) rfl ?_
  refine hl_goto h 14 dL_night_8 (by decide) ?_
  refine hl_iconst h 0 dL_night_14 (by decide) ?_
  refine hl_widen 1 6 (Nat.le_of_ble_eq_true rfl) (Nat.le_of_ble_eq_true rfl) ?_
  exact hend dL_night_15 ⟨rfl, rfl⟩

set_option maxHeartbeats 4000000 in
set_option maxRecDepth 100000 in
theorem w_L_night_1 (l : Launch) (D : va_G) (cI cZ cJ : ClassId) (o : Nat) (f : Nat → Int64) (a : Nat → Nat) (g : Nat → Nat → Int32) (hst : l.stackTraces = false) (h1 : ¬ g 23 0 < 300) : hl_KW D (hl_ty cI cZ cJ) l yL_night wsL_night ({ frames := 7, cells := 1, slots := 6, locals := 103 } : Room) [.ref (a 0), .ref o] (hl_WO o cI cZ cJ f a g) (fun r w => r = 1 ∧ w = hl_WO o cI cZ cJ f a g) := by
  refine hl_KW_of (cc := cL_night) (maxL := 3) (hh := [(0, 8, 11, 24)]) (by decide) rfl (Nat.le_of_ble_eq_true rfl) ?_
  intro p e s m args below meth c A Q h hz htab hend
  refine hl_ls (ls' := [(0, .ref (a 0)), (1, .ref o)]) rfl ?_
  refine hl_aload_n h 1 dL_night_0 rfl ?_
  refine hl_iconst h 0 dL_night_1 (by decide) ?_
  refine hl_aload_n h 0 dL_night_2 rfl ?_
  refine hl_tcatchV h hz (st := [.int 0, .ref o]) (wc := hl_WC a cI cZ g) (wr := [(o, .inl (cJ, 1, .inr (.inl f)))]) [1, 2, 3, 4, 5, 6, 7, 8, 9, 10, 11, 12, 13, 14, 15, 16, 17, 18, 19, 20, 21, 22, 23, 24, 25] [0] rfl rfl (by decide) (by decide) (by decide) (x_X5_night_1 l D cI cZ cJ a g hst h1) (cwV 0 h.2.2.2.2.1 gL_night_X5_night rfl rfl rfl (by decide +kernel) ⟨Nat.le_of_ble_eq_true rfl, Nat.le_of_ble_eq_true rfl⟩) (q0 := 1) rfl rfl dL_night_3 rfl (Nat.le_of_ble_eq_true rfl) ⟨Nat.le_of_ble_eq_true rfl, Nat.le_of_ble_eq_true rfl⟩ rfl [] ⟨0, 8, 11, 24⟩ [] htab (fun z h91 => absurd h91 List.not_mem_nil) (by decide) (by decide) (by decide +kernel) hz.2.2.1.2.2 (fun qx => ?_)
  refine hl_wd (w' := hl_WO o cI cZ cJ f a g) rfl ?_
  refine hl_astore_n h [(2, .ref qx), (0, .ref (a 0)), (1, .ref o)] dL_night_11 (by decide) rfl ?_
  refine hl_iconst h 1 dL_night_12 (by decide) ?_
  exact hend dL_night_13 ⟨rfl, rfl⟩

set_option maxHeartbeats 4000000 in
set_option maxRecDepth 100000 in
theorem w_L_free_0 (l : Launch) (D : va_G) (cI cZ cJ : ClassId) (o : Nat) (f : Nat → Int64) (a : Nat → Nat) (g : Nat → Nat → Int32) (x y : Int32) (h1 : vp_in x 4) (h2 : vp_in y 2) : hl_KW D (hl_ty cI cZ cJ) l yL_free wsL_free ({ frames := 4, cells := 1, slots := 6, locals := 87 } : Room) [.ref (a 0), .int x, .int y, .ref o] (hl_WO o cI cZ cJ f a g) (fun r w => r = 0 ∧ w = hl_WO o cI cZ cJ (vp_updL f 0 (r_X4_freeOf g x y).toInt64) a g) := by
  refine hl_KW_of (cc := cL_free) (maxL := 5) (hh := [(0, 10, 13, 13)]) (by decide) rfl (Nat.le_of_ble_eq_true rfl) ?_
  intro p e s m args below meth c A Q h hz htab hend
  refine hl_ls (ls' := [(0, .ref (a 0)), (1, .int x), (2, .int y), (3, .ref o)]) rfl ?_
  refine hl_aload_n h 3 dL_free_0 rfl ?_
  refine hl_iconst h 0 dL_free_1 (by decide) ?_
  refine hl_aload_n h 0 dL_free_2 rfl ?_
  refine hl_iload_n h 1 dL_free_3 rfl ?_
  refine hl_iload_n h 2 dL_free_4 rfl ?_
  refine hl_callPViD h (st := [.int 0, .ref o]) (wc := hl_WC a cI cZ g) (wr := [(o, .inl (cJ, 1, .inr (.inl f)))]) [1, 2, 3, 4, 5, 6, 7, 8, 9, 10, 11, 12, 13, 14, 15, 16, 17, 18, 19, 20, 21, 22, 23, 24, 25] [0] rfl rfl (by decide) (by decide) (by decide) (c_X5_free l D cI cZ cJ a g x y h1 h2) (cwV 2 h.2.2.2.2.1 gL_free_X5_free rfl rfl rfl (by decide +kernel) ⟨Nat.le_of_ble_eq_true rfl, Nat.le_of_ble_eq_true rfl⟩) (q0 := 1) rfl rfl dL_free_5 rfl (Nat.le_of_ble_eq_true rfl) ⟨Nat.le_of_ble_eq_true rfl, Nat.le_of_ble_eq_true rfl⟩ rfl ?_
  refine hl_wd (w' := hl_WO o cI cZ cJ f a g) rfl ?_
  refine hl_i2l h dL_free_8 ?_
  refine hl_jst h (q0 := 0) rfl 2 rfl dL_free_9 (by unfold vp_in; decide) (w' := hl_WO o cI cZ cJ (vp_updL f 0 (r_X4_freeOf g x y).toInt64) a g) rfl ?_
  refine hl_goto h 17 dL_free_10 (by decide) ?_
  refine hl_iconst h 0 dL_free_17 (by decide) ?_
  refine hl_widen 1 6 (Nat.le_of_ble_eq_true rfl) (Nat.le_of_ble_eq_true rfl) ?_
  exact hend dL_free_18 ⟨rfl, rfl⟩

set_option maxHeartbeats 4000000 in
set_option maxRecDepth 100000 in
theorem w_L_free_1 (l : Launch) (D : va_G) (cI cZ cJ : ClassId) (o : Nat) (f : Nat → Int64) (a : Nat → Nat) (g : Nat → Nat → Int32) (hst : l.stackTraces = false) (x y : Int32) (h1 : ¬ vp_in x 4) : hl_KW D (hl_ty cI cZ cJ) l yL_free wsL_free ({ frames := 8, cells := 1, slots := 6, locals := 124 } : Room) [.ref (a 0), .int x, .int y, .ref o] (hl_WO o cI cZ cJ f a g) (fun r w => r = 1 ∧ w = hl_WO o cI cZ cJ f a g) := by
  refine hl_KW_of (cc := cL_free) (maxL := 5) (hh := [(0, 10, 13, 13)]) (by decide) rfl (Nat.le_of_ble_eq_true rfl) ?_
  intro p e s m args below meth c A Q h hz htab hend
  refine hl_ls (ls' := [(0, .ref (a 0)), (1, .int x), (2, .int y), (3, .ref o)]) rfl ?_
  refine hl_aload_n h 3 dL_free_0 rfl ?_
  refine hl_iconst h 0 dL_free_1 (by decide) ?_
  refine hl_aload_n h 0 dL_free_2 rfl ?_
  refine hl_iload_n h 1 dL_free_3 rfl ?_
  refine hl_iload_n h 2 dL_free_4 rfl ?_
  refine hl_tcatchV h hz (st := [.int 0, .ref o]) (wc := hl_WC a cI cZ g) (wr := [(o, .inl (cJ, 1, .inr (.inl f)))]) [1, 2, 3, 4, 5, 6, 7, 8, 9, 10, 11, 12, 13, 14, 15, 16, 17, 18, 19, 20, 21, 22, 23, 24, 25] [0] rfl rfl (by decide) (by decide) (by decide) (x_X5_free_1 l D cI cZ cJ a g hst x y h1) (cwV 2 h.2.2.2.2.1 gL_free_X5_free rfl rfl rfl (by decide +kernel) ⟨Nat.le_of_ble_eq_true rfl, Nat.le_of_ble_eq_true rfl⟩) (q0 := 1) rfl rfl dL_free_5 rfl (Nat.le_of_ble_eq_true rfl) ⟨Nat.le_of_ble_eq_true rfl, Nat.le_of_ble_eq_true rfl⟩ rfl [] ⟨0, 10, 13, 13⟩ [] htab (fun z h91 => absurd h91 List.not_mem_nil) (by decide) (by decide) (by decide +kernel) hz.2.2.1.1 (fun qx => ?_)
  refine hl_wd (w' := hl_WO o cI cZ cJ f a g) rfl ?_
  refine hl_astore h [(4, .ref qx), (0, .ref (a 0)), (1, .int x), (2, .int y), (3, .ref o)] dL_free_13 (by decide) rfl ?_
  refine hl_iconst h 1 dL_free_15 (by decide) ?_
  exact hend dL_free_16 ⟨rfl, rfl⟩

set_option maxHeartbeats 4000000 in
set_option maxRecDepth 100000 in
theorem w_L_free_2 (l : Launch) (D : va_G) (cI cZ cJ : ClassId) (o : Nat) (f : Nat → Int64) (a : Nat → Nat) (g : Nat → Nat → Int32) (hst : l.stackTraces = false) (x y : Int32) (h1 : vp_in x 4) (h2 : ¬ vp_in y 2) : hl_KW D (hl_ty cI cZ cJ) l yL_free wsL_free ({ frames := 8, cells := 1, slots := 6, locals := 124 } : Room) [.ref (a 0), .int x, .int y, .ref o] (hl_WO o cI cZ cJ f a g) (fun r w => r = 1 ∧ w = hl_WO o cI cZ cJ f a g) := by
  refine hl_KW_of (cc := cL_free) (maxL := 5) (hh := [(0, 10, 13, 13)]) (by decide) rfl (Nat.le_of_ble_eq_true rfl) ?_
  intro p e s m args below meth c A Q h hz htab hend
  refine hl_ls (ls' := [(0, .ref (a 0)), (1, .int x), (2, .int y), (3, .ref o)]) rfl ?_
  refine hl_aload_n h 3 dL_free_0 rfl ?_
  refine hl_iconst h 0 dL_free_1 (by decide) ?_
  refine hl_aload_n h 0 dL_free_2 rfl ?_
  refine hl_iload_n h 1 dL_free_3 rfl ?_
  refine hl_iload_n h 2 dL_free_4 rfl ?_
  refine hl_tcatchV h hz (st := [.int 0, .ref o]) (wc := hl_WC a cI cZ g) (wr := [(o, .inl (cJ, 1, .inr (.inl f)))]) [1, 2, 3, 4, 5, 6, 7, 8, 9, 10, 11, 12, 13, 14, 15, 16, 17, 18, 19, 20, 21, 22, 23, 24, 25] [0] rfl rfl (by decide) (by decide) (by decide) (x_X5_free_2 l D cI cZ cJ a g hst x y h1 h2) (cwV 2 h.2.2.2.2.1 gL_free_X5_free rfl rfl rfl (by decide +kernel) ⟨Nat.le_of_ble_eq_true rfl, Nat.le_of_ble_eq_true rfl⟩) (q0 := 1) rfl rfl dL_free_5 rfl (Nat.le_of_ble_eq_true rfl) ⟨Nat.le_of_ble_eq_true rfl, Nat.le_of_ble_eq_true rfl⟩ rfl [] ⟨0, 10, 13, 13⟩ [] htab (fun z h91 => absurd h91 List.not_mem_nil) (by decide) (by decide) (by decide +kernel) hz.2.2.1.1 (fun qx => ?_)
  refine hl_wd (w' := hl_WO o cI cZ cJ f a g) rfl ?_
  refine hl_astore h [(4, .ref qx), (0, .ref (a 0)), (1, .int x), (2, .int y), (3, .ref o)] dL_free_13 (by decide) rfl ?_
  refine hl_iconst h 1 dL_free_15 (by decide) ?_
  exact hend dL_free_16 ⟨rfl, rfl⟩

set_option maxHeartbeats 4000000 in
set_option maxRecDepth 100000 in
theorem w_L_taken_0 (l : Launch) (D : va_G) (cI cZ cJ : ClassId) (o : Nat) (f : Nat → Int64) (a : Nat → Nat) (g : Nat → Nat → Int32) (x y : Int32) (h1 : vp_in x 4) (h2 : vp_in y 2) : hl_KW D (hl_ty cI cZ cJ) l yL_taken wsL_taken ({ frames := 3, cells := 1, slots := 6, locals := 65 } : Room) [.ref (a 0), .int x, .int y, .ref o] (hl_WO o cI cZ cJ f a g) (fun r w => r = 0 ∧ w = hl_WO o cI cZ cJ (vp_updL f 0 (g 2 (x * 2 + y).toNatClampNeg).toInt64) a g) := by
  refine hl_KW_of (cc := cL_taken) (maxL := 5) (hh := [(0, 10, 13, 13)]) (by decide) rfl (Nat.le_of_ble_eq_true rfl) ?_
  intro p e s m args below meth c A Q h hz htab hend
  refine hl_ls (ls' := [(0, .ref (a 0)), (1, .int x), (2, .int y), (3, .ref o)]) rfl ?_
  refine hl_aload_n h 3 dL_taken_0 rfl ?_
  refine hl_iconst h 0 dL_taken_1 (by decide) ?_
  refine hl_aload_n h 0 dL_taken_2 rfl ?_
  refine hl_iload_n h 1 dL_taken_3 rfl ?_
  refine hl_iload_n h 2 dL_taken_4 rfl ?_
  refine hl_callPViD h (st := [.int 0, .ref o]) (wc := hl_WC a cI cZ g) (wr := [(o, .inl (cJ, 1, .inr (.inl f)))]) [1, 2, 3, 4, 5, 6, 7, 8, 9, 10, 11, 12, 13, 14, 15, 16, 17, 18, 19, 20, 21, 22, 23, 24, 25] [0] rfl rfl (by decide) (by decide) (by decide) (c_X5_taken l D cI cZ cJ a g x y h1 h2) (cwV 2 h.2.2.2.2.1 gL_taken_X5_taken rfl rfl rfl (by decide +kernel) ⟨Nat.le_of_ble_eq_true rfl, Nat.le_of_ble_eq_true rfl⟩) (q0 := 1) rfl rfl dL_taken_5 rfl (Nat.le_of_ble_eq_true rfl) ⟨Nat.le_of_ble_eq_true rfl, Nat.le_of_ble_eq_true rfl⟩ rfl ?_
  refine hl_wd (w' := hl_WO o cI cZ cJ f a g) rfl ?_
  refine hl_i2l h dL_taken_8 ?_
  refine hl_jst h (q0 := 0) rfl 2 rfl dL_taken_9 (by unfold vp_in; decide) (w' := hl_WO o cI cZ cJ (vp_updL f 0 (g 2 (x * 2 + y).toNatClampNeg).toInt64) a g) rfl ?_
  refine hl_goto h 17 dL_taken_10 (by decide) ?_
  refine hl_iconst h 0 dL_taken_17 (by decide) ?_
  refine hl_widen 1 6 (Nat.le_of_ble_eq_true rfl) (Nat.le_of_ble_eq_true rfl) ?_
  exact hend dL_taken_18 ⟨rfl, rfl⟩

set_option maxHeartbeats 4000000 in
set_option maxRecDepth 100000 in
theorem w_L_taken_1 (l : Launch) (D : va_G) (cI cZ cJ : ClassId) (o : Nat) (f : Nat → Int64) (a : Nat → Nat) (g : Nat → Nat → Int32) (hst : l.stackTraces = false) (x y : Int32) (h1 : ¬ vp_in x 4) : hl_KW D (hl_ty cI cZ cJ) l yL_taken wsL_taken ({ frames := 8, cells := 1, slots := 6, locals := 124 } : Room) [.ref (a 0), .int x, .int y, .ref o] (hl_WO o cI cZ cJ f a g) (fun r w => r = 1 ∧ w = hl_WO o cI cZ cJ f a g) := by
  refine hl_KW_of (cc := cL_taken) (maxL := 5) (hh := [(0, 10, 13, 13)]) (by decide) rfl (Nat.le_of_ble_eq_true rfl) ?_
  intro p e s m args below meth c A Q h hz htab hend
  refine hl_ls (ls' := [(0, .ref (a 0)), (1, .int x), (2, .int y), (3, .ref o)]) rfl ?_
  refine hl_aload_n h 3 dL_taken_0 rfl ?_
  refine hl_iconst h 0 dL_taken_1 (by decide) ?_
  refine hl_aload_n h 0 dL_taken_2 rfl ?_
  refine hl_iload_n h 1 dL_taken_3 rfl ?_
  refine hl_iload_n h 2 dL_taken_4 rfl ?_
  refine hl_tcatchV h hz (st := [.int 0, .ref o]) (wc := hl_WC a cI cZ g) (wr := [(o, .inl (cJ, 1, .inr (.inl f)))]) [1, 2, 3, 4, 5, 6, 7, 8, 9, 10, 11, 12, 13, 14, 15, 16, 17, 18, 19, 20, 21, 22, 23, 24, 25] [0] rfl rfl (by decide) (by decide) (by decide) (x_X5_taken_1 l D cI cZ cJ a g hst x y h1) (cwV 2 h.2.2.2.2.1 gL_taken_X5_taken rfl rfl rfl (by decide +kernel) ⟨Nat.le_of_ble_eq_true rfl, Nat.le_of_ble_eq_true rfl⟩) (q0 := 1) rfl rfl dL_taken_5 rfl (Nat.le_of_ble_eq_true rfl) ⟨Nat.le_of_ble_eq_true rfl, Nat.le_of_ble_eq_true rfl⟩ rfl [] ⟨0, 10, 13, 13⟩ [] htab (fun z h91 => absurd h91 List.not_mem_nil) (by decide) (by decide) (by decide +kernel) hz.2.2.1.1 (fun qx => ?_)
  refine hl_wd (w' := hl_WO o cI cZ cJ f a g) rfl ?_
  refine hl_astore h [(4, .ref qx), (0, .ref (a 0)), (1, .int x), (2, .int y), (3, .ref o)] dL_taken_13 (by decide) rfl ?_
  refine hl_iconst h 1 dL_taken_15 (by decide) ?_
  exact hend dL_taken_16 ⟨rfl, rfl⟩

set_option maxHeartbeats 4000000 in
set_option maxRecDepth 100000 in
theorem w_L_taken_2 (l : Launch) (D : va_G) (cI cZ cJ : ClassId) (o : Nat) (f : Nat → Int64) (a : Nat → Nat) (g : Nat → Nat → Int32) (hst : l.stackTraces = false) (x y : Int32) (h1 : vp_in x 4) (h2 : ¬ vp_in y 2) : hl_KW D (hl_ty cI cZ cJ) l yL_taken wsL_taken ({ frames := 8, cells := 1, slots := 6, locals := 124 } : Room) [.ref (a 0), .int x, .int y, .ref o] (hl_WO o cI cZ cJ f a g) (fun r w => r = 1 ∧ w = hl_WO o cI cZ cJ f a g) := by
  refine hl_KW_of (cc := cL_taken) (maxL := 5) (hh := [(0, 10, 13, 13)]) (by decide) rfl (Nat.le_of_ble_eq_true rfl) ?_
  intro p e s m args below meth c A Q h hz htab hend
  refine hl_ls (ls' := [(0, .ref (a 0)), (1, .int x), (2, .int y), (3, .ref o)]) rfl ?_
  refine hl_aload_n h 3 dL_taken_0 rfl ?_
  refine hl_iconst h 0 dL_taken_1 (by decide) ?_
  refine hl_aload_n h 0 dL_taken_2 rfl ?_
  refine hl_iload_n h 1 dL_taken_3 rfl ?_
  refine hl_iload_n h 2 dL_taken_4 rfl ?_
  refine hl_tcatchV h hz (st := [.int 0, .ref o]) (wc := hl_WC a cI cZ g) (wr := [(o, .inl (cJ, 1, .inr (.inl f)))]) [1, 2, 3, 4, 5, 6, 7, 8, 9, 10, 11, 12, 13, 14, 15, 16, 17, 18, 19, 20, 21, 22, 23, 24, 25] [0] rfl rfl (by decide) (by decide) (by decide) (x_X5_taken_2 l D cI cZ cJ a g hst x y h1 h2) (cwV 2 h.2.2.2.2.1 gL_taken_X5_taken rfl rfl rfl (by decide +kernel) ⟨Nat.le_of_ble_eq_true rfl, Nat.le_of_ble_eq_true rfl⟩) (q0 := 1) rfl rfl dL_taken_5 rfl (Nat.le_of_ble_eq_true rfl) ⟨Nat.le_of_ble_eq_true rfl, Nat.le_of_ble_eq_true rfl⟩ rfl [] ⟨0, 10, 13, 13⟩ [] htab (fun z h91 => absurd h91 List.not_mem_nil) (by decide) (by decide) (by decide +kernel) hz.2.2.1.1 (fun qx => ?_)
  refine hl_wd (w' := hl_WO o cI cZ cJ f a g) rfl ?_
  refine hl_astore h [(4, .ref qx), (0, .ref (a 0)), (1, .int x), (2, .int y), (3, .ref o)] dL_taken_13 (by decide) rfl ?_
  refine hl_iconst h 1 dL_taken_15 (by decide) ?_
  exact hend dL_taken_16 ⟨rfl, rfl⟩

set_option maxHeartbeats 4000000 in
set_option maxRecDepth 100000 in
theorem w_L_takenByBookings_0 (l : Launch) (D : va_G) (cI cZ cJ : ClassId) (o : Nat) (f : Nat → Int64) (a : Nat → Nat) (g : Nat → Nat → Int32) (x y : Int32) (N M : Nat) (ho : hl_ok g N M) (h1 : vp_in x 4) (h2 : vp_in y 2) : hl_KW D (hl_ty cI cZ cJ) l yL_takenByBookings wsL_takenByBookings ({ frames := 2, cells := 1, slots := 6, locals := 47 } : Room) [.ref (a 0), .int x, .int y, .ref o] (hl_WO o cI cZ cJ f a g) (fun r w => r = 0 ∧ w = hl_WO o cI cZ cJ (vp_updL f 0 (hl_it (b_X0_sleepersAt g x y (g 23 0)) 0 N 0).toInt64) a g) := by
  refine hl_KW_of (cc := cL_takenByBookings) (maxL := 5) (hh := [(0, 10, 13, 13)]) (by decide) rfl (Nat.le_of_ble_eq_true rfl) ?_
  intro p e s m args below meth c A Q h hz htab hend
  refine hl_ls (ls' := [(0, .ref (a 0)), (1, .int x), (2, .int y), (3, .ref o)]) rfl ?_
  refine hl_aload_n h 3 dL_takenByBookings_0 rfl ?_
  refine hl_iconst h 0 dL_takenByBookings_1 (by decide) ?_
  refine hl_aload_n h 0 dL_takenByBookings_2 rfl ?_
  refine hl_iload_n h 1 dL_takenByBookings_3 rfl ?_
  refine hl_iload_n h 2 dL_takenByBookings_4 rfl ?_
  refine hl_callPViD h (st := [.int 0, .ref o]) (wc := hl_WC a cI cZ g) (wr := [(o, .inl (cJ, 1, .inr (.inl f)))]) [1, 2, 3, 4, 5, 6, 7, 8, 9, 10, 11, 12, 13, 14, 15, 16, 17, 18, 19, 20, 21, 22, 23, 24, 25] [0] rfl rfl (by decide) (by decide) (by decide) (c_X5_takenByBookings l D cI cZ cJ a g x y N M ho h1 h2) (cwV 2 h.2.2.2.2.1 gL_takenByBookings_X5_takenByBookings rfl rfl rfl (by decide +kernel) ⟨Nat.le_of_ble_eq_true rfl, Nat.le_of_ble_eq_true rfl⟩) (q0 := 1) rfl rfl dL_takenByBookings_5 rfl (Nat.le_of_ble_eq_true rfl) ⟨Nat.le_of_ble_eq_true rfl, Nat.le_of_ble_eq_true rfl⟩ rfl ?_
  refine hl_wd (w' := hl_WO o cI cZ cJ f a g) rfl ?_
  refine hl_i2l h dL_takenByBookings_8 ?_
  refine hl_jst h (q0 := 0) rfl 2 rfl dL_takenByBookings_9 (by unfold vp_in; decide) (w' := hl_WO o cI cZ cJ (vp_updL f 0 (hl_it (b_X0_sleepersAt g x y (g 23 0)) 0 N 0).toInt64) a g) rfl ?_
  refine hl_goto h 17 dL_takenByBookings_10 (by decide) ?_
  refine hl_iconst h 0 dL_takenByBookings_17 (by decide) ?_
  refine hl_widen 1 6 (Nat.le_of_ble_eq_true rfl) (Nat.le_of_ble_eq_true rfl) ?_
  exact hend dL_takenByBookings_18 ⟨rfl, rfl⟩

set_option maxHeartbeats 4000000 in
set_option maxRecDepth 100000 in
theorem w_L_takenByBookings_1 (l : Launch) (D : va_G) (cI cZ cJ : ClassId) (o : Nat) (f : Nat → Int64) (a : Nat → Nat) (g : Nat → Nat → Int32) (hst : l.stackTraces = false) (x y : Int32) (h1 : ¬ vp_in x 4) : hl_KW D (hl_ty cI cZ cJ) l yL_takenByBookings wsL_takenByBookings ({ frames := 8, cells := 1, slots := 6, locals := 124 } : Room) [.ref (a 0), .int x, .int y, .ref o] (hl_WO o cI cZ cJ f a g) (fun r w => r = 1 ∧ w = hl_WO o cI cZ cJ f a g) := by
  refine hl_KW_of (cc := cL_takenByBookings) (maxL := 5) (hh := [(0, 10, 13, 13)]) (by decide) rfl (Nat.le_of_ble_eq_true rfl) ?_
  intro p e s m args below meth c A Q h hz htab hend
  refine hl_ls (ls' := [(0, .ref (a 0)), (1, .int x), (2, .int y), (3, .ref o)]) rfl ?_
  refine hl_aload_n h 3 dL_takenByBookings_0 rfl ?_
  refine hl_iconst h 0 dL_takenByBookings_1 (by decide) ?_
  refine hl_aload_n h 0 dL_takenByBookings_2 rfl ?_
  refine hl_iload_n h 1 dL_takenByBookings_3 rfl ?_
  refine hl_iload_n h 2 dL_takenByBookings_4 rfl ?_
  refine hl_tcatchV h hz (st := [.int 0, .ref o]) (wc := hl_WC a cI cZ g) (wr := [(o, .inl (cJ, 1, .inr (.inl f)))]) [1, 2, 3, 4, 5, 6, 7, 8, 9, 10, 11, 12, 13, 14, 15, 16, 17, 18, 19, 20, 21, 22, 23, 24, 25] [0] rfl rfl (by decide) (by decide) (by decide) (x_X5_takenByBookings_1 l D cI cZ cJ a g hst x y h1) (cwV 2 h.2.2.2.2.1 gL_takenByBookings_X5_takenByBookings rfl rfl rfl (by decide +kernel) ⟨Nat.le_of_ble_eq_true rfl, Nat.le_of_ble_eq_true rfl⟩) (q0 := 1) rfl rfl dL_takenByBookings_5 rfl (Nat.le_of_ble_eq_true rfl) ⟨Nat.le_of_ble_eq_true rfl, Nat.le_of_ble_eq_true rfl⟩ rfl [] ⟨0, 10, 13, 13⟩ [] htab (fun z h91 => absurd h91 List.not_mem_nil) (by decide) (by decide) (by decide +kernel) hz.2.2.1.1 (fun qx => ?_)
  refine hl_wd (w' := hl_WO o cI cZ cJ f a g) rfl ?_
  refine hl_astore h [(4, .ref qx), (0, .ref (a 0)), (1, .int x), (2, .int y), (3, .ref o)] dL_takenByBookings_13 (by decide) rfl ?_
  refine hl_iconst h 1 dL_takenByBookings_15 (by decide) ?_
  exact hend dL_takenByBookings_16 ⟨rfl, rfl⟩

set_option maxHeartbeats 4000000 in
set_option maxRecDepth 100000 in
theorem w_L_takenByBookings_2 (l : Launch) (D : va_G) (cI cZ cJ : ClassId) (o : Nat) (f : Nat → Int64) (a : Nat → Nat) (g : Nat → Nat → Int32) (hst : l.stackTraces = false) (x y : Int32) (h1 : vp_in x 4) (h2 : ¬ vp_in y 2) : hl_KW D (hl_ty cI cZ cJ) l yL_takenByBookings wsL_takenByBookings ({ frames := 8, cells := 1, slots := 6, locals := 124 } : Room) [.ref (a 0), .int x, .int y, .ref o] (hl_WO o cI cZ cJ f a g) (fun r w => r = 1 ∧ w = hl_WO o cI cZ cJ f a g) := by
  refine hl_KW_of (cc := cL_takenByBookings) (maxL := 5) (hh := [(0, 10, 13, 13)]) (by decide) rfl (Nat.le_of_ble_eq_true rfl) ?_
  intro p e s m args below meth c A Q h hz htab hend
  refine hl_ls (ls' := [(0, .ref (a 0)), (1, .int x), (2, .int y), (3, .ref o)]) rfl ?_
  refine hl_aload_n h 3 dL_takenByBookings_0 rfl ?_
  refine hl_iconst h 0 dL_takenByBookings_1 (by decide) ?_
  refine hl_aload_n h 0 dL_takenByBookings_2 rfl ?_
  refine hl_iload_n h 1 dL_takenByBookings_3 rfl ?_
  refine hl_iload_n h 2 dL_takenByBookings_4 rfl ?_
  refine hl_tcatchV h hz (st := [.int 0, .ref o]) (wc := hl_WC a cI cZ g) (wr := [(o, .inl (cJ, 1, .inr (.inl f)))]) [1, 2, 3, 4, 5, 6, 7, 8, 9, 10, 11, 12, 13, 14, 15, 16, 17, 18, 19, 20, 21, 22, 23, 24, 25] [0] rfl rfl (by decide) (by decide) (by decide) (x_X5_takenByBookings_2 l D cI cZ cJ a g hst x y h1 h2) (cwV 2 h.2.2.2.2.1 gL_takenByBookings_X5_takenByBookings rfl rfl rfl (by decide +kernel) ⟨Nat.le_of_ble_eq_true rfl, Nat.le_of_ble_eq_true rfl⟩) (q0 := 1) rfl rfl dL_takenByBookings_5 rfl (Nat.le_of_ble_eq_true rfl) ⟨Nat.le_of_ble_eq_true rfl, Nat.le_of_ble_eq_true rfl⟩ rfl [] ⟨0, 10, 13, 13⟩ [] htab (fun z h91 => absurd h91 List.not_mem_nil) (by decide) (by decide) (by decide +kernel) hz.2.2.1.1 (fun qx => ?_)
  refine hl_wd (w' := hl_WO o cI cZ cJ f a g) rfl ?_
  refine hl_astore h [(4, .ref qx), (0, .ref (a 0)), (1, .int x), (2, .int y), (3, .ref o)] dL_takenByBookings_13 (by decide) rfl ?_
  refine hl_iconst h 1 dL_takenByBookings_15 (by decide) ?_
  exact hend dL_takenByBookings_16 ⟨rfl, rfl⟩

set_option maxHeartbeats 4000000 in
set_option maxRecDepth 100000 in
theorem w_L_extra_0 (l : Launch) (D : va_G) (cI cZ cJ : ClassId) (o : Nat) (f : Nat → Int64) (a : Nat → Nat) (g : Nat → Nat → Int32) (x : Int32) (N M : Nat) (ho : hl_ok g N M) (h1 : vp_in x 4) : hl_KW D (hl_ty cI cZ cJ) l yL_extra wsL_extra ({ frames := 3, cells := 1, slots := 6, locals := 67 } : Room) [.ref (a 0), .int x, .ref o] (hl_WO o cI cZ cJ f a g) (fun r w => r = 0 ∧ w = hl_WO o cI cZ cJ (vp_updL f 0 (r_X5_extraOf g N x).toInt64) a g) := by
  refine hl_KW_of (cc := cL_extra) (maxL := 4) (hh := [(0, 9, 12, 13)]) (by decide) rfl (Nat.le_of_ble_eq_true rfl) ?_
  intro p e s m args below meth c A Q h hz htab hend
  refine hl_ls (ls' := [(0, .ref (a 0)), (1, .int x), (2, .ref o)]) rfl ?_
  refine hl_aload_n h 2 dL_extra_0 rfl ?_
  refine hl_iconst h 0 dL_extra_1 (by decide) ?_
  refine hl_aload_n h 0 dL_extra_2 rfl ?_
  refine hl_iload_n h 1 dL_extra_3 rfl ?_
  refine hl_callPViD h (st := [.int 0, .ref o]) (wc := hl_WC a cI cZ g) (wr := [(o, .inl (cJ, 1, .inr (.inl f)))]) [1, 2, 3, 4, 5, 6, 7, 8, 9, 10, 11, 12, 13, 14, 15, 16, 17, 18, 19, 20, 21, 22, 23, 24, 25] [0] rfl rfl (by decide) (by decide) (by decide) (c_X5_extra l D cI cZ cJ a g x N M ho h1) (cwV 1 h.2.2.2.2.1 gL_extra_X5_extra rfl rfl rfl (by decide +kernel) ⟨Nat.le_of_ble_eq_true rfl, Nat.le_of_ble_eq_true rfl⟩) (q0 := 1) rfl rfl dL_extra_4 rfl (Nat.le_of_ble_eq_true rfl) ⟨Nat.le_of_ble_eq_true rfl, Nat.le_of_ble_eq_true rfl⟩ rfl ?_
  refine hl_wd (w' := hl_WO o cI cZ cJ f a g) rfl ?_
  refine hl_i2l h dL_extra_7 ?_
  refine hl_jst h (q0 := 0) rfl 2 rfl dL_extra_8 (by unfold vp_in; decide) (w' := hl_WO o cI cZ cJ (vp_updL f 0 (r_X5_extraOf g N x).toInt64) a g) rfl ?_
  refine hl_goto h 15 dL_extra_9 (by decide) ?_
  refine hl_iconst h 0 dL_extra_15 (by decide) ?_
  refine hl_widen 1 6 (Nat.le_of_ble_eq_true rfl) (Nat.le_of_ble_eq_true rfl) ?_
  exact hend dL_extra_16 ⟨rfl, rfl⟩

set_option maxHeartbeats 4000000 in
set_option maxRecDepth 100000 in
theorem w_L_clean_0 (l : Launch) (D : va_G) (cI cZ cJ : ClassId) (o : Nat) (f : Nat → Int64) (a : Nat → Nat) (g : Nat → Nat → Int32) (x : Int32) (h1 : vp_in x 4) : hl_KW D (hl_ty cI cZ cJ) l yL_clean wsL_clean ({ frames := 2, cells := 1, slots := 6, locals := 41 } : Room) [.ref (a 0), .int x, .ref o] (hl_WO o cI cZ cJ f a g) (fun r w => r = 0 ∧ w = hl_WO o cI cZ cJ (vp_updL f 0 (g 3 x.toNatClampNeg).toInt64) a g) := by
  refine hl_KW_of (cc := cL_clean) (maxL := 4) (hh := [(0, 9, 12, 13)]) (by decide) rfl (Nat.le_of_ble_eq_true rfl) ?_
  intro p e s m args below meth c A Q h hz htab hend
  refine hl_ls (ls' := [(0, .ref (a 0)), (1, .int x), (2, .ref o)]) rfl ?_
  refine hl_aload_n h 2 dL_clean_0 rfl ?_
  refine hl_iconst h 0 dL_clean_1 (by decide) ?_
  refine hl_aload_n h 0 dL_clean_2 rfl ?_
  refine hl_iload_n h 1 dL_clean_3 rfl ?_
  refine hl_callPViD h (st := [.int 0, .ref o]) (wc := hl_WC a cI cZ g) (wr := [(o, .inl (cJ, 1, .inr (.inl f)))]) [1, 2, 3, 4, 5, 6, 7, 8, 9, 10, 11, 12, 13, 14, 15, 16, 17, 18, 19, 20, 21, 22, 23, 24, 25] [0] rfl rfl (by decide) (by decide) (by decide) (c_X5_clean l D cI cZ cJ a g x h1) (cwV 1 h.2.2.2.2.1 gL_clean_X5_clean rfl rfl rfl (by decide +kernel) ⟨Nat.le_of_ble_eq_true rfl, Nat.le_of_ble_eq_true rfl⟩) (q0 := 1) rfl rfl dL_clean_4 rfl (Nat.le_of_ble_eq_true rfl) ⟨Nat.le_of_ble_eq_true rfl, Nat.le_of_ble_eq_true rfl⟩ rfl ?_
  refine hl_wd (w' := hl_WO o cI cZ cJ f a g) rfl ?_
  refine hl_i2l h dL_clean_7 ?_
  refine hl_jst h (q0 := 0) rfl 2 rfl dL_clean_8 (by unfold vp_in; decide) (w' := hl_WO o cI cZ cJ (vp_updL f 0 (g 3 x.toNatClampNeg).toInt64) a g) rfl ?_
  refine hl_goto h 15 dL_clean_9 (by decide) ?_
  refine hl_iconst h 0 dL_clean_15 (by decide) ?_
  refine hl_widen 1 6 (Nat.le_of_ble_eq_true rfl) (Nat.le_of_ble_eq_true rfl) ?_
  exact hend dL_clean_16 ⟨rfl, rfl⟩

set_option maxHeartbeats 4000000 in
set_option maxRecDepth 100000 in
theorem w_L_away_0 (l : Launch) (D : va_G) (cI cZ cJ : ClassId) (o : Nat) (f : Nat → Int64) (a : Nat → Nat) (g : Nat → Nat → Int32) (x : Int32) (h1 : vp_in x 4) : hl_KW D (hl_ty cI cZ cJ) l yL_away wsL_away ({ frames := 2, cells := 1, slots := 6, locals := 42 } : Room) [.ref (a 0), .int x, .ref o] (hl_WO o cI cZ cJ f a g) (fun r w => r = 0 ∧ w = hl_WO o cI cZ cJ (vp_updL f 0 (r_X2_awayOf g x).toInt64) a g) := by
  refine hl_KW_of (cc := cL_away) (maxL := 4) (hh := [(0, 9, 12, 13)]) (by decide) rfl (Nat.le_of_ble_eq_true rfl) ?_
  intro p e s m args below meth c A Q h hz htab hend
  refine hl_ls (ls' := [(0, .ref (a 0)), (1, .int x), (2, .ref o)]) rfl ?_
  refine hl_aload_n h 2 dL_away_0 rfl ?_
  refine hl_iconst h 0 dL_away_1 (by decide) ?_
  refine hl_aload_n h 0 dL_away_2 rfl ?_
  refine hl_iload_n h 1 dL_away_3 rfl ?_
  refine hl_callPViD h (st := [.int 0, .ref o]) (wc := hl_WC a cI cZ g) (wr := [(o, .inl (cJ, 1, .inr (.inl f)))]) [1, 2, 3, 4, 5, 6, 7, 8, 9, 10, 11, 12, 13, 14, 15, 16, 17, 18, 19, 20, 21, 22, 23, 24, 25] [0] rfl rfl (by decide) (by decide) (by decide) (c_X5_away l D cI cZ cJ a g x h1) (cwV 1 h.2.2.2.2.1 gL_away_X5_away rfl rfl rfl (by decide +kernel) ⟨Nat.le_of_ble_eq_true rfl, Nat.le_of_ble_eq_true rfl⟩) (q0 := 1) rfl rfl dL_away_4 rfl (Nat.le_of_ble_eq_true rfl) ⟨Nat.le_of_ble_eq_true rfl, Nat.le_of_ble_eq_true rfl⟩ rfl ?_
  refine hl_wd (w' := hl_WO o cI cZ cJ f a g) rfl ?_
  refine hl_i2l h dL_away_7 ?_
  refine hl_jst h (q0 := 0) rfl 2 rfl dL_away_8 (by unfold vp_in; decide) (w' := hl_WO o cI cZ cJ (vp_updL f 0 (r_X2_awayOf g x).toInt64) a g) rfl ?_
  refine hl_goto h 15 dL_away_9 (by decide) ?_
  refine hl_iconst h 0 dL_away_15 (by decide) ?_
  refine hl_widen 1 6 (Nat.le_of_ble_eq_true rfl) (Nat.le_of_ble_eq_true rfl) ?_
  exact hend dL_away_16 ⟨rfl, rfl⟩

set_option maxHeartbeats 4000000 in
set_option maxRecDepth 100000 in
theorem w_L_purse_0 (l : Launch) (D : va_G) (cI cZ cJ : ClassId) (o : Nat) (f : Nat → Int64) (a : Nat → Nat) (g : Nat → Nat → Int32) (x : Int32) (h1 : vp_in x 4) : hl_KW D (hl_ty cI cZ cJ) l yL_purse wsL_purse ({ frames := 2, cells := 1, slots := 6, locals := 41 } : Room) [.ref (a 0), .int x, .ref o] (hl_WO o cI cZ cJ f a g) (fun r w => r = 0 ∧ w = hl_WO o cI cZ cJ (vp_updL f 0 (g 21 x.toNatClampNeg).toInt64) a g) := by
  refine hl_KW_of (cc := cL_purse) (maxL := 4) (hh := [(0, 9, 12, 13)]) (by decide) rfl (Nat.le_of_ble_eq_true rfl) ?_
  intro p e s m args below meth c A Q h hz htab hend
  refine hl_ls (ls' := [(0, .ref (a 0)), (1, .int x), (2, .ref o)]) rfl ?_
  refine hl_aload_n h 2 dL_purse_0 rfl ?_
  refine hl_iconst h 0 dL_purse_1 (by decide) ?_
  refine hl_aload_n h 0 dL_purse_2 rfl ?_
  refine hl_iload_n h 1 dL_purse_3 rfl ?_
  refine hl_callPViD h (st := [.int 0, .ref o]) (wc := hl_WC a cI cZ g) (wr := [(o, .inl (cJ, 1, .inr (.inl f)))]) [1, 2, 3, 4, 5, 6, 7, 8, 9, 10, 11, 12, 13, 14, 15, 16, 17, 18, 19, 20, 21, 22, 23, 24, 25] [0] rfl rfl (by decide) (by decide) (by decide) (c_X5_purse l D cI cZ cJ a g x h1) (cwV 1 h.2.2.2.2.1 gL_purse_X5_purse rfl rfl rfl (by decide +kernel) ⟨Nat.le_of_ble_eq_true rfl, Nat.le_of_ble_eq_true rfl⟩) (q0 := 1) rfl rfl dL_purse_4 rfl (Nat.le_of_ble_eq_true rfl) ⟨Nat.le_of_ble_eq_true rfl, Nat.le_of_ble_eq_true rfl⟩ rfl ?_
  refine hl_wd (w' := hl_WO o cI cZ cJ f a g) rfl ?_
  refine hl_i2l h dL_purse_7 ?_
  refine hl_jst h (q0 := 0) rfl 2 rfl dL_purse_8 (by unfold vp_in; decide) (w' := hl_WO o cI cZ cJ (vp_updL f 0 (g 21 x.toNatClampNeg).toInt64) a g) rfl ?_
  refine hl_goto h 15 dL_purse_9 (by decide) ?_
  refine hl_iconst h 0 dL_purse_15 (by decide) ?_
  refine hl_widen 1 6 (Nat.le_of_ble_eq_true rfl) (Nat.le_of_ble_eq_true rfl) ?_
  exact hend dL_purse_16 ⟨rfl, rfl⟩

set_option maxHeartbeats 4000000 in
set_option maxRecDepth 100000 in
theorem w_L_extra_1 (l : Launch) (D : va_G) (cI cZ cJ : ClassId) (o : Nat) (f : Nat → Int64) (a : Nat → Nat) (g : Nat → Nat → Int32) (hst : l.stackTraces = false) (x : Int32) (h1 : ¬ vp_in x 4) : hl_KW D (hl_ty cI cZ cJ) l yL_extra wsL_extra ({ frames := 8, cells := 1, slots := 6, locals := 123 } : Room) [.ref (a 0), .int x, .ref o] (hl_WO o cI cZ cJ f a g) (fun r w => r = 1 ∧ w = hl_WO o cI cZ cJ f a g) := by
  refine hl_KW_of (cc := cL_extra) (maxL := 4) (hh := [(0, 9, 12, 13)]) (by decide) rfl (Nat.le_of_ble_eq_true rfl) ?_
  intro p e s m args below meth c A Q h hz htab hend
  refine hl_ls (ls' := [(0, .ref (a 0)), (1, .int x), (2, .ref o)]) rfl ?_
  refine hl_aload_n h 2 dL_extra_0 rfl ?_
  refine hl_iconst h 0 dL_extra_1 (by decide) ?_
  refine hl_aload_n h 0 dL_extra_2 rfl ?_
  refine hl_iload_n h 1 dL_extra_3 rfl ?_
  refine hl_tcatchV h hz (st := [.int 0, .ref o]) (wc := hl_WC a cI cZ g) (wr := [(o, .inl (cJ, 1, .inr (.inl f)))]) [1, 2, 3, 4, 5, 6, 7, 8, 9, 10, 11, 12, 13, 14, 15, 16, 17, 18, 19, 20, 21, 22, 23, 24, 25] [0] rfl rfl (by decide) (by decide) (by decide) (x_X5_extra_1 l D cI cZ cJ a g hst x h1) (cwV 1 h.2.2.2.2.1 gL_extra_X5_extra rfl rfl rfl (by decide +kernel) ⟨Nat.le_of_ble_eq_true rfl, Nat.le_of_ble_eq_true rfl⟩) (q0 := 1) rfl rfl dL_extra_4 rfl (Nat.le_of_ble_eq_true rfl) ⟨Nat.le_of_ble_eq_true rfl, Nat.le_of_ble_eq_true rfl⟩ rfl [] ⟨0, 9, 12, 13⟩ [] htab (fun z h91 => absurd h91 List.not_mem_nil) (by decide) (by decide) (by decide +kernel) hz.2.2.1.1 (fun qx => ?_)
  refine hl_wd (w' := hl_WO o cI cZ cJ f a g) rfl ?_
  refine hl_astore_n h [(3, .ref qx), (0, .ref (a 0)), (1, .int x), (2, .ref o)] dL_extra_12 (by decide) rfl ?_
  refine hl_iconst h 1 dL_extra_13 (by decide) ?_
  exact hend dL_extra_14 ⟨rfl, rfl⟩

set_option maxHeartbeats 4000000 in
set_option maxRecDepth 100000 in
theorem w_L_clean_1 (l : Launch) (D : va_G) (cI cZ cJ : ClassId) (o : Nat) (f : Nat → Int64) (a : Nat → Nat) (g : Nat → Nat → Int32) (hst : l.stackTraces = false) (x : Int32) (h1 : ¬ vp_in x 4) : hl_KW D (hl_ty cI cZ cJ) l yL_clean wsL_clean ({ frames := 8, cells := 1, slots := 6, locals := 123 } : Room) [.ref (a 0), .int x, .ref o] (hl_WO o cI cZ cJ f a g) (fun r w => r = 1 ∧ w = hl_WO o cI cZ cJ f a g) := by
  refine hl_KW_of (cc := cL_clean) (maxL := 4) (hh := [(0, 9, 12, 13)]) (by decide) rfl (Nat.le_of_ble_eq_true rfl) ?_
  intro p e s m args below meth c A Q h hz htab hend
  refine hl_ls (ls' := [(0, .ref (a 0)), (1, .int x), (2, .ref o)]) rfl ?_
  refine hl_aload_n h 2 dL_clean_0 rfl ?_
  refine hl_iconst h 0 dL_clean_1 (by decide) ?_
  refine hl_aload_n h 0 dL_clean_2 rfl ?_
  refine hl_iload_n h 1 dL_clean_3 rfl ?_
  refine hl_tcatchV h hz (st := [.int 0, .ref o]) (wc := hl_WC a cI cZ g) (wr := [(o, .inl (cJ, 1, .inr (.inl f)))]) [1, 2, 3, 4, 5, 6, 7, 8, 9, 10, 11, 12, 13, 14, 15, 16, 17, 18, 19, 20, 21, 22, 23, 24, 25] [0] rfl rfl (by decide) (by decide) (by decide) (x_X5_clean_1 l D cI cZ cJ a g hst x h1) (cwV 1 h.2.2.2.2.1 gL_clean_X5_clean rfl rfl rfl (by decide +kernel) ⟨Nat.le_of_ble_eq_true rfl, Nat.le_of_ble_eq_true rfl⟩) (q0 := 1) rfl rfl dL_clean_4 rfl (Nat.le_of_ble_eq_true rfl) ⟨Nat.le_of_ble_eq_true rfl, Nat.le_of_ble_eq_true rfl⟩ rfl [] ⟨0, 9, 12, 13⟩ [] htab (fun z h91 => absurd h91 List.not_mem_nil) (by decide) (by decide) (by decide +kernel) hz.2.2.1.1 (fun qx => ?_)
  refine hl_wd (w' := hl_WO o cI cZ cJ f a g) rfl ?_
  refine hl_astore_n h [(3, .ref qx), (0, .ref (a 0)), (1, .int x), (2, .ref o)] dL_clean_12 (by decide) rfl ?_
  refine hl_iconst h 1 dL_clean_13 (by decide) ?_
  exact hend dL_clean_14 ⟨rfl, rfl⟩

set_option maxHeartbeats 4000000 in
set_option maxRecDepth 100000 in
theorem w_L_away_1 (l : Launch) (D : va_G) (cI cZ cJ : ClassId) (o : Nat) (f : Nat → Int64) (a : Nat → Nat) (g : Nat → Nat → Int32) (hst : l.stackTraces = false) (x : Int32) (h1 : ¬ vp_in x 4) : hl_KW D (hl_ty cI cZ cJ) l yL_away wsL_away ({ frames := 8, cells := 1, slots := 6, locals := 123 } : Room) [.ref (a 0), .int x, .ref o] (hl_WO o cI cZ cJ f a g) (fun r w => r = 1 ∧ w = hl_WO o cI cZ cJ f a g) := by
  refine hl_KW_of (cc := cL_away) (maxL := 4) (hh := [(0, 9, 12, 13)]) (by decide) rfl (Nat.le_of_ble_eq_true rfl) ?_
  intro p e s m args below meth c A Q h hz htab hend
  refine hl_ls (ls' := [(0, .ref (a 0)), (1, .int x), (2, .ref o)]) rfl ?_
  refine hl_aload_n h 2 dL_away_0 rfl ?_
  refine hl_iconst h 0 dL_away_1 (by decide) ?_
  refine hl_aload_n h 0 dL_away_2 rfl ?_
  refine hl_iload_n h 1 dL_away_3 rfl ?_
  refine hl_tcatchV h hz (st := [.int 0, .ref o]) (wc := hl_WC a cI cZ g) (wr := [(o, .inl (cJ, 1, .inr (.inl f)))]) [1, 2, 3, 4, 5, 6, 7, 8, 9, 10, 11, 12, 13, 14, 15, 16, 17, 18, 19, 20, 21, 22, 23, 24, 25] [0] rfl rfl (by decide) (by decide) (by decide) (x_X5_away_1 l D cI cZ cJ a g hst x h1) (cwV 1 h.2.2.2.2.1 gL_away_X5_away rfl rfl rfl (by decide +kernel) ⟨Nat.le_of_ble_eq_true rfl, Nat.le_of_ble_eq_true rfl⟩) (q0 := 1) rfl rfl dL_away_4 rfl (Nat.le_of_ble_eq_true rfl) ⟨Nat.le_of_ble_eq_true rfl, Nat.le_of_ble_eq_true rfl⟩ rfl [] ⟨0, 9, 12, 13⟩ [] htab (fun z h91 => absurd h91 List.not_mem_nil) (by decide) (by decide) (by decide +kernel) hz.2.2.1.1 (fun qx => ?_)
  refine hl_wd (w' := hl_WO o cI cZ cJ f a g) rfl ?_
  refine hl_astore_n h [(3, .ref qx), (0, .ref (a 0)), (1, .int x), (2, .ref o)] dL_away_12 (by decide) rfl ?_
  refine hl_iconst h 1 dL_away_13 (by decide) ?_
  exact hend dL_away_14 ⟨rfl, rfl⟩

set_option maxHeartbeats 4000000 in
set_option maxRecDepth 100000 in
theorem w_L_purse_1 (l : Launch) (D : va_G) (cI cZ cJ : ClassId) (o : Nat) (f : Nat → Int64) (a : Nat → Nat) (g : Nat → Nat → Int32) (hst : l.stackTraces = false) (x : Int32) (h1 : ¬ vp_in x 4) : hl_KW D (hl_ty cI cZ cJ) l yL_purse wsL_purse ({ frames := 8, cells := 1, slots := 6, locals := 123 } : Room) [.ref (a 0), .int x, .ref o] (hl_WO o cI cZ cJ f a g) (fun r w => r = 1 ∧ w = hl_WO o cI cZ cJ f a g) := by
  refine hl_KW_of (cc := cL_purse) (maxL := 4) (hh := [(0, 9, 12, 13)]) (by decide) rfl (Nat.le_of_ble_eq_true rfl) ?_
  intro p e s m args below meth c A Q h hz htab hend
  refine hl_ls (ls' := [(0, .ref (a 0)), (1, .int x), (2, .ref o)]) rfl ?_
  refine hl_aload_n h 2 dL_purse_0 rfl ?_
  refine hl_iconst h 0 dL_purse_1 (by decide) ?_
  refine hl_aload_n h 0 dL_purse_2 rfl ?_
  refine hl_iload_n h 1 dL_purse_3 rfl ?_
  refine hl_tcatchV h hz (st := [.int 0, .ref o]) (wc := hl_WC a cI cZ g) (wr := [(o, .inl (cJ, 1, .inr (.inl f)))]) [1, 2, 3, 4, 5, 6, 7, 8, 9, 10, 11, 12, 13, 14, 15, 16, 17, 18, 19, 20, 21, 22, 23, 24, 25] [0] rfl rfl (by decide) (by decide) (by decide) (x_X5_purse_1 l D cI cZ cJ a g hst x h1) (cwV 1 h.2.2.2.2.1 gL_purse_X5_purse rfl rfl rfl (by decide +kernel) ⟨Nat.le_of_ble_eq_true rfl, Nat.le_of_ble_eq_true rfl⟩) (q0 := 1) rfl rfl dL_purse_4 rfl (Nat.le_of_ble_eq_true rfl) ⟨Nat.le_of_ble_eq_true rfl, Nat.le_of_ble_eq_true rfl⟩ rfl [] ⟨0, 9, 12, 13⟩ [] htab (fun z h91 => absurd h91 List.not_mem_nil) (by decide) (by decide) (by decide +kernel) hz.2.2.1.1 (fun qx => ?_)
  refine hl_wd (w' := hl_WO o cI cZ cJ f a g) rfl ?_
  refine hl_astore_n h [(3, .ref qx), (0, .ref (a 0)), (1, .int x), (2, .ref o)] dL_purse_12 (by decide) rfl ?_
  refine hl_iconst h 1 dL_purse_13 (by decide) ?_
  exact hend dL_purse_14 ⟨rfl, rfl⟩

set_option maxHeartbeats 4000000 in
set_option maxRecDepth 100000 in
theorem w_L_sleeps_0 (l : Launch) (D : va_G) (cI cZ cJ : ClassId) (o : Nat) (f : Nat → Int64) (a : Nat → Nat) (g : Nat → Nat → Int32) (x : Int32) (N M : Nat) (ho : hl_ok g N M) (h1 : ¬ x < 0) (h2 : x < g 16 0) : hl_KW D (hl_ty cI cZ cJ) l yL_sleeps wsL_sleeps ({ frames := 2, cells := 1, slots := 6, locals := 42 } : Room) [.ref (a 0), .int x, .ref o] (hl_WO o cI cZ cJ f a g) (fun r w => r = 0 ∧ w = hl_WO o cI cZ cJ (vp_updL f 0 (g 15 x.toNatClampNeg).toInt64) a g) := by
  refine hl_KW_of (cc := cL_sleeps) (maxL := 4) (hh := [(0, 9, 12, 13)]) (by decide) rfl (Nat.le_of_ble_eq_true rfl) ?_
  intro p e s m args below meth c A Q h hz htab hend
  refine hl_ls (ls' := [(0, .ref (a 0)), (1, .int x), (2, .ref o)]) rfl ?_
  refine hl_aload_n h 2 dL_sleeps_0 rfl ?_
  refine hl_iconst h 0 dL_sleeps_1 (by decide) ?_
  refine hl_aload_n h 0 dL_sleeps_2 rfl ?_
  refine hl_iload_n h 1 dL_sleeps_3 rfl ?_
  refine hl_callPViD h (st := [.int 0, .ref o]) (wc := hl_WC a cI cZ g) (wr := [(o, .inl (cJ, 1, .inr (.inl f)))]) [1, 2, 3, 4, 5, 6, 7, 8, 9, 10, 11, 12, 13, 14, 15, 16, 17, 18, 19, 20, 21, 22, 23, 24, 25] [0] rfl rfl (by decide) (by decide) (by decide) (c_X5_sleeps l D cI cZ cJ a g x N M ho h1 h2) (cwV 1 h.2.2.2.2.1 gL_sleeps_X5_sleeps rfl rfl rfl (by decide +kernel) ⟨Nat.le_of_ble_eq_true rfl, Nat.le_of_ble_eq_true rfl⟩) (q0 := 1) rfl rfl dL_sleeps_4 rfl (Nat.le_of_ble_eq_true rfl) ⟨Nat.le_of_ble_eq_true rfl, Nat.le_of_ble_eq_true rfl⟩ rfl ?_
  refine hl_wd (w' := hl_WO o cI cZ cJ f a g) rfl ?_
  refine hl_i2l h dL_sleeps_7 ?_
  refine hl_jst h (q0 := 0) rfl 2 rfl dL_sleeps_8 (by unfold vp_in; decide) (w' := hl_WO o cI cZ cJ (vp_updL f 0 (g 15 x.toNatClampNeg).toInt64) a g) rfl ?_
  refine hl_goto h 15 dL_sleeps_9 (by decide) ?_
  refine hl_iconst h 0 dL_sleeps_15 (by decide) ?_
  refine hl_widen 1 6 (Nat.le_of_ble_eq_true rfl) (Nat.le_of_ble_eq_true rfl) ?_
  exact hend dL_sleeps_16 ⟨rfl, rfl⟩

set_option maxHeartbeats 4000000 in
set_option maxRecDepth 100000 in
theorem w_L_sleeps_1 (l : Launch) (D : va_G) (cI cZ cJ : ClassId) (o : Nat) (f : Nat → Int64) (a : Nat → Nat) (g : Nat → Nat → Int32) (hst : l.stackTraces = false) (x : Int32) (h1 : ¬ (¬ x < 0 ∧ x < g 16 0)) : hl_KW D (hl_ty cI cZ cJ) l yL_sleeps wsL_sleeps ({ frames := 8, cells := 1, slots := 6, locals := 124 } : Room) [.ref (a 0), .int x, .ref o] (hl_WO o cI cZ cJ f a g) (fun r w => r = 1 ∧ w = hl_WO o cI cZ cJ f a g) := by
  refine hl_KW_of (cc := cL_sleeps) (maxL := 4) (hh := [(0, 9, 12, 13)]) (by decide) rfl (Nat.le_of_ble_eq_true rfl) ?_
  intro p e s m args below meth c A Q h hz htab hend
  refine hl_ls (ls' := [(0, .ref (a 0)), (1, .int x), (2, .ref o)]) rfl ?_
  refine hl_aload_n h 2 dL_sleeps_0 rfl ?_
  refine hl_iconst h 0 dL_sleeps_1 (by decide) ?_
  refine hl_aload_n h 0 dL_sleeps_2 rfl ?_
  refine hl_iload_n h 1 dL_sleeps_3 rfl ?_
  refine hl_tcatchV h hz (st := [.int 0, .ref o]) (wc := hl_WC a cI cZ g) (wr := [(o, .inl (cJ, 1, .inr (.inl f)))]) [1, 2, 3, 4, 5, 6, 7, 8, 9, 10, 11, 12, 13, 14, 15, 16, 17, 18, 19, 20, 21, 22, 23, 24, 25] [0] rfl rfl (by decide) (by decide) (by decide) (x_X5_sleeps_1 l D cI cZ cJ a g hst x h1) (cwV 1 h.2.2.2.2.1 gL_sleeps_X5_sleeps rfl rfl rfl (by decide +kernel) ⟨Nat.le_of_ble_eq_true rfl, Nat.le_of_ble_eq_true rfl⟩) (q0 := 1) rfl rfl dL_sleeps_4 rfl (Nat.le_of_ble_eq_true rfl) ⟨Nat.le_of_ble_eq_true rfl, Nat.le_of_ble_eq_true rfl⟩ rfl [] ⟨0, 9, 12, 13⟩ [] htab (fun z h91 => absurd h91 List.not_mem_nil) (by decide) (by decide) (by decide +kernel) hz.2.2.1.1 (fun qx => ?_)
  refine hl_wd (w' := hl_WO o cI cZ cJ f a g) rfl ?_
  refine hl_astore_n h [(3, .ref qx), (0, .ref (a 0)), (1, .int x), (2, .ref o)] dL_sleeps_12 (by decide) rfl ?_
  refine hl_iconst h 1 dL_sleeps_13 (by decide) ?_
  exact hend dL_sleeps_14 ⟨rfl, rfl⟩

set_option maxHeartbeats 4000000 in
set_option maxRecDepth 100000 in
theorem w_L_points_0 (l : Launch) (D : va_G) (cI cZ cJ : ClassId) (o : Nat) (f : Nat → Int64) (a : Nat → Nat) (g : Nat → Nat → Int32) (x : Int32) (N M : Nat) (ho : hl_ok g N M) (h1 : vp_in x 10) : hl_KW D (hl_ty cI cZ cJ) l yL_points wsL_points ({ frames := 2, cells := 1, slots := 6, locals := 44 } : Room) [.ref (a 0), .int x, .ref o] (hl_WO o cI cZ cJ f a g) (fun r w => r = 0 ∧ w = hl_WO o cI cZ cJ (vp_updL f 0 (hl_it (b_X3_ofGuest g x) 0 M 0).toInt64) a g) := by
  refine hl_KW_of (cc := cL_points) (maxL := 4) (hh := [(0, 9, 12, 13)]) (by decide) rfl (Nat.le_of_ble_eq_true rfl) ?_
  intro p e s m args below meth c A Q h hz htab hend
  refine hl_ls (ls' := [(0, .ref (a 0)), (1, .int x), (2, .ref o)]) rfl ?_
  refine hl_aload_n h 2 dL_points_0 rfl ?_
  refine hl_iconst h 0 dL_points_1 (by decide) ?_
  refine hl_aload_n h 0 dL_points_2 rfl ?_
  refine hl_iload_n h 1 dL_points_3 rfl ?_
  refine hl_callPViD h (st := [.int 0, .ref o]) (wc := hl_WC a cI cZ g) (wr := [(o, .inl (cJ, 1, .inr (.inl f)))]) [1, 2, 3, 4, 5, 6, 7, 8, 9, 10, 11, 12, 13, 14, 15, 16, 17, 18, 19, 20, 21, 22, 23, 24, 25] [0] rfl rfl (by decide) (by decide) (by decide) (c_X5_points l D cI cZ cJ a g x N M ho h1) (cwV 1 h.2.2.2.2.1 gL_points_X5_points rfl rfl rfl (by decide +kernel) ⟨Nat.le_of_ble_eq_true rfl, Nat.le_of_ble_eq_true rfl⟩) (q0 := 1) rfl rfl dL_points_4 rfl (Nat.le_of_ble_eq_true rfl) ⟨Nat.le_of_ble_eq_true rfl, Nat.le_of_ble_eq_true rfl⟩ rfl ?_
  refine hl_wd (w' := hl_WO o cI cZ cJ f a g) rfl ?_
  refine hl_i2l h dL_points_7 ?_
  refine hl_jst h (q0 := 0) rfl 2 rfl dL_points_8 (by unfold vp_in; decide) (w' := hl_WO o cI cZ cJ (vp_updL f 0 (hl_it (b_X3_ofGuest g x) 0 M 0).toInt64) a g) rfl ?_
  refine hl_goto h 15 dL_points_9 (by decide) ?_
  refine hl_iconst h 0 dL_points_15 (by decide) ?_
  refine hl_widen 1 6 (Nat.le_of_ble_eq_true rfl) (Nat.le_of_ble_eq_true rfl) ?_
  exact hend dL_points_16 ⟨rfl, rfl⟩

set_option maxHeartbeats 4000000 in
set_option maxRecDepth 100000 in
theorem w_L_points_1 (l : Launch) (D : va_G) (cI cZ cJ : ClassId) (o : Nat) (f : Nat → Int64) (a : Nat → Nat) (g : Nat → Nat → Int32) (hst : l.stackTraces = false) (x : Int32) (h1 : ¬ vp_in x 10) : hl_KW D (hl_ty cI cZ cJ) l yL_points wsL_points ({ frames := 8, cells := 1, slots := 6, locals := 123 } : Room) [.ref (a 0), .int x, .ref o] (hl_WO o cI cZ cJ f a g) (fun r w => r = 1 ∧ w = hl_WO o cI cZ cJ f a g) := by
  refine hl_KW_of (cc := cL_points) (maxL := 4) (hh := [(0, 9, 12, 13)]) (by decide) rfl (Nat.le_of_ble_eq_true rfl) ?_
  intro p e s m args below meth c A Q h hz htab hend
  refine hl_ls (ls' := [(0, .ref (a 0)), (1, .int x), (2, .ref o)]) rfl ?_
  refine hl_aload_n h 2 dL_points_0 rfl ?_
  refine hl_iconst h 0 dL_points_1 (by decide) ?_
  refine hl_aload_n h 0 dL_points_2 rfl ?_
  refine hl_iload_n h 1 dL_points_3 rfl ?_
  refine hl_tcatchV h hz (st := [.int 0, .ref o]) (wc := hl_WC a cI cZ g) (wr := [(o, .inl (cJ, 1, .inr (.inl f)))]) [1, 2, 3, 4, 5, 6, 7, 8, 9, 10, 11, 12, 13, 14, 15, 16, 17, 18, 19, 20, 21, 22, 23, 24, 25] [0] rfl rfl (by decide) (by decide) (by decide) (x_X5_points_1 l D cI cZ cJ a g hst x h1) (cwV 1 h.2.2.2.2.1 gL_points_X5_points rfl rfl rfl (by decide +kernel) ⟨Nat.le_of_ble_eq_true rfl, Nat.le_of_ble_eq_true rfl⟩) (q0 := 1) rfl rfl dL_points_4 rfl (Nat.le_of_ble_eq_true rfl) ⟨Nat.le_of_ble_eq_true rfl, Nat.le_of_ble_eq_true rfl⟩ rfl [] ⟨0, 9, 12, 13⟩ [] htab (fun z h91 => absurd h91 List.not_mem_nil) (by decide) (by decide) (by decide +kernel) hz.2.2.1.1 (fun qx => ?_)
  refine hl_wd (w' := hl_WO o cI cZ cJ f a g) rfl ?_
  refine hl_astore_n h [(3, .ref qx), (0, .ref (a 0)), (1, .int x), (2, .ref o)] dL_points_12 (by decide) rfl ?_
  refine hl_iconst h 1 dL_points_13 (by decide) ?_
  exact hend dL_points_14 ⟨rfl, rfl⟩

set_option maxHeartbeats 4000000 in
set_option maxRecDepth 100000 in
theorem w_L_owes_0 (l : Launch) (D : va_G) (cI cZ cJ : ClassId) (o : Nat) (f : Nat → Int64) (a : Nat → Nat) (g : Nat → Nat → Int32) (x y : Int32) (h1 : vp_in x 4) (h2 : vp_in y 4) : hl_KW D (hl_ty cI cZ cJ) l yL_owes wsL_owes ({ frames := 3, cells := 1, slots := 6, locals := 65 } : Room) [.ref (a 0), .int x, .int y, .ref o] (hl_WO o cI cZ cJ f a g) (fun r w => r = 0 ∧ w = hl_WO o cI cZ cJ (vp_updL f 0 (r_X1_between g x y).toInt64) a g) := by
  refine hl_KW_of (cc := cL_owes) (maxL := 5) (hh := [(0, 10, 13, 13)]) (by decide) rfl (Nat.le_of_ble_eq_true rfl) ?_
  intro p e s m args below meth c A Q h hz htab hend
  refine hl_ls (ls' := [(0, .ref (a 0)), (1, .int x), (2, .int y), (3, .ref o)]) rfl ?_
  refine hl_aload_n h 3 dL_owes_0 rfl ?_
  refine hl_iconst h 0 dL_owes_1 (by decide) ?_
  refine hl_aload_n h 0 dL_owes_2 rfl ?_
  refine hl_iload_n h 1 dL_owes_3 rfl ?_
  refine hl_iload_n h 2 dL_owes_4 rfl ?_
  refine hl_callPViD h (st := [.int 0, .ref o]) (wc := hl_WC a cI cZ g) (wr := [(o, .inl (cJ, 1, .inr (.inl f)))]) [1, 2, 3, 4, 5, 6, 7, 8, 9, 10, 11, 12, 13, 14, 15, 16, 17, 18, 19, 20, 21, 22, 23, 24, 25] [0] rfl rfl (by decide) (by decide) (by decide) (c_X5_owes l D cI cZ cJ a g x y h1 h2) (cwV 2 h.2.2.2.2.1 gL_owes_X5_owes rfl rfl rfl (by decide +kernel) ⟨Nat.le_of_ble_eq_true rfl, Nat.le_of_ble_eq_true rfl⟩) (q0 := 1) rfl rfl dL_owes_5 rfl (Nat.le_of_ble_eq_true rfl) ⟨Nat.le_of_ble_eq_true rfl, Nat.le_of_ble_eq_true rfl⟩ rfl ?_
  refine hl_wd (w' := hl_WO o cI cZ cJ f a g) rfl ?_
  refine hl_i2l h dL_owes_8 ?_
  refine hl_jst h (q0 := 0) rfl 2 rfl dL_owes_9 (by unfold vp_in; decide) (w' := hl_WO o cI cZ cJ (vp_updL f 0 (r_X1_between g x y).toInt64) a g) rfl ?_
  refine hl_goto h 17 dL_owes_10 (by decide) ?_
  refine hl_iconst h 0 dL_owes_17 (by decide) ?_
  refine hl_widen 1 6 (Nat.le_of_ble_eq_true rfl) (Nat.le_of_ble_eq_true rfl) ?_
  exact hend dL_owes_18 ⟨rfl, rfl⟩

set_option maxHeartbeats 4000000 in
set_option maxRecDepth 100000 in
theorem w_L_owes_1 (l : Launch) (D : va_G) (cI cZ cJ : ClassId) (o : Nat) (f : Nat → Int64) (a : Nat → Nat) (g : Nat → Nat → Int32) (hst : l.stackTraces = false) (x y : Int32) (h1 : ¬ vp_in x 4) : hl_KW D (hl_ty cI cZ cJ) l yL_owes wsL_owes ({ frames := 8, cells := 1, slots := 6, locals := 124 } : Room) [.ref (a 0), .int x, .int y, .ref o] (hl_WO o cI cZ cJ f a g) (fun r w => r = 1 ∧ w = hl_WO o cI cZ cJ f a g) := by
  refine hl_KW_of (cc := cL_owes) (maxL := 5) (hh := [(0, 10, 13, 13)]) (by decide) rfl (Nat.le_of_ble_eq_true rfl) ?_
  intro p e s m args below meth c A Q h hz htab hend
  refine hl_ls (ls' := [(0, .ref (a 0)), (1, .int x), (2, .int y), (3, .ref o)]) rfl ?_
  refine hl_aload_n h 3 dL_owes_0 rfl ?_
  refine hl_iconst h 0 dL_owes_1 (by decide) ?_
  refine hl_aload_n h 0 dL_owes_2 rfl ?_
  refine hl_iload_n h 1 dL_owes_3 rfl ?_
  refine hl_iload_n h 2 dL_owes_4 rfl ?_
  refine hl_tcatchV h hz (st := [.int 0, .ref o]) (wc := hl_WC a cI cZ g) (wr := [(o, .inl (cJ, 1, .inr (.inl f)))]) [1, 2, 3, 4, 5, 6, 7, 8, 9, 10, 11, 12, 13, 14, 15, 16, 17, 18, 19, 20, 21, 22, 23, 24, 25] [0] rfl rfl (by decide) (by decide) (by decide) (x_X5_owes_1 l D cI cZ cJ a g hst x y h1) (cwV 2 h.2.2.2.2.1 gL_owes_X5_owes rfl rfl rfl (by decide +kernel) ⟨Nat.le_of_ble_eq_true rfl, Nat.le_of_ble_eq_true rfl⟩) (q0 := 1) rfl rfl dL_owes_5 rfl (Nat.le_of_ble_eq_true rfl) ⟨Nat.le_of_ble_eq_true rfl, Nat.le_of_ble_eq_true rfl⟩ rfl [] ⟨0, 10, 13, 13⟩ [] htab (fun z h91 => absurd h91 List.not_mem_nil) (by decide) (by decide) (by decide +kernel) hz.2.2.1.1 (fun qx => ?_)
  refine hl_wd (w' := hl_WO o cI cZ cJ f a g) rfl ?_
  refine hl_astore h [(4, .ref qx), (0, .ref (a 0)), (1, .int x), (2, .int y), (3, .ref o)] dL_owes_13 (by decide) rfl ?_
  refine hl_iconst h 1 dL_owes_15 (by decide) ?_
  exact hend dL_owes_16 ⟨rfl, rfl⟩

set_option maxHeartbeats 4000000 in
set_option maxRecDepth 100000 in
theorem w_L_owes_2 (l : Launch) (D : va_G) (cI cZ cJ : ClassId) (o : Nat) (f : Nat → Int64) (a : Nat → Nat) (g : Nat → Nat → Int32) (hst : l.stackTraces = false) (x y : Int32) (h1 : vp_in x 4) (h2 : ¬ vp_in y 4) : hl_KW D (hl_ty cI cZ cJ) l yL_owes wsL_owes ({ frames := 8, cells := 1, slots := 6, locals := 124 } : Room) [.ref (a 0), .int x, .int y, .ref o] (hl_WO o cI cZ cJ f a g) (fun r w => r = 1 ∧ w = hl_WO o cI cZ cJ f a g) := by
  refine hl_KW_of (cc := cL_owes) (maxL := 5) (hh := [(0, 10, 13, 13)]) (by decide) rfl (Nat.le_of_ble_eq_true rfl) ?_
  intro p e s m args below meth c A Q h hz htab hend
  refine hl_ls (ls' := [(0, .ref (a 0)), (1, .int x), (2, .int y), (3, .ref o)]) rfl ?_
  refine hl_aload_n h 3 dL_owes_0 rfl ?_
  refine hl_iconst h 0 dL_owes_1 (by decide) ?_
  refine hl_aload_n h 0 dL_owes_2 rfl ?_
  refine hl_iload_n h 1 dL_owes_3 rfl ?_
  refine hl_iload_n h 2 dL_owes_4 rfl ?_
  refine hl_tcatchV h hz (st := [.int 0, .ref o]) (wc := hl_WC a cI cZ g) (wr := [(o, .inl (cJ, 1, .inr (.inl f)))]) [1, 2, 3, 4, 5, 6, 7, 8, 9, 10, 11, 12, 13, 14, 15, 16, 17, 18, 19, 20, 21, 22, 23, 24, 25] [0] rfl rfl (by decide) (by decide) (by decide) (x_X5_owes_2 l D cI cZ cJ a g hst x y h1 h2) (cwV 2 h.2.2.2.2.1 gL_owes_X5_owes rfl rfl rfl (by decide +kernel) ⟨Nat.le_of_ble_eq_true rfl, Nat.le_of_ble_eq_true rfl⟩) (q0 := 1) rfl rfl dL_owes_5 rfl (Nat.le_of_ble_eq_true rfl) ⟨Nat.le_of_ble_eq_true rfl, Nat.le_of_ble_eq_true rfl⟩ rfl [] ⟨0, 10, 13, 13⟩ [] htab (fun z h91 => absurd h91 List.not_mem_nil) (by decide) (by decide) (by decide +kernel) hz.2.2.1.1 (fun qx => ?_)
  refine hl_wd (w' := hl_WO o cI cZ cJ f a g) rfl ?_
  refine hl_astore h [(4, .ref qx), (0, .ref (a 0)), (1, .int x), (2, .int y), (3, .ref o)] dL_owes_13 (by decide) rfl ?_
  refine hl_iconst h 1 dL_owes_15 (by decide) ?_
  exact hend dL_owes_16 ⟨rfl, rfl⟩
