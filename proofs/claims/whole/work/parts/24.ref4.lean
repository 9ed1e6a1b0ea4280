set_option maxHeartbeats 4000000 in
set_option maxRecDepth 100000 in
theorem c_X6_pointsOf (l : Launch) (D : va_G) (cI cZ cJ : ClassId) (b : Nat → Nat) (t : Nat → Nat → Int32) (x : Int32) (M : Nat) (hM : M ≤ 80) (hm : t 22 0 = nI M) : hl_KI D (hl_ty cI cZ cJ) l yX6_pointsOf wsX6_pointsOf ({ frames := 0, cells := 0, slots := 0, locals := 0 } : Room) 0 0 [.ref (b 0), .int x] (hl_WM b cI cZ t) (fun r w => r = hl_it (b_X6_pointsOf t x) 0 M 0 ∧ w = hl_WM b cI cZ t) := by
  refine hl_KI_of (cc := cX6_pointsOf) (maxL := 4) .int rfl (fun _ => Or.inr rfl) (by decide) rfl (Nat.le_of_ble_eq_true rfl) ?_
  intro p e s m args below meth c A Q h hend
  have hi6 : ∀ z ∈ wsX60, z ∈ wsX6_pointsOf := by decide +kernel
  refine hl_ls (ls' := [(0, .ref (b 0)), (1, .int x)]) rfl ?_
  refine hl_iconst h 0 dX6_pointsOf_0 (by decide) ?_
  refine hl_istore_n h [(2, .int 0), (0, .ref (b 0)), (1, .int x)] dX6_pointsOf_1 (by decide) rfl ?_
  refine hl_iconst h 0 dX6_pointsOf_2 (by decide) ?_
  refine hl_istore_n h [(3, .int 0), (2, .int 0), (0, .ref (b 0)), (1, .int x)] dX6_pointsOf_3 (by decide) rfl ?_
  have lp4 : ∀ (n : Nat) (i : Nat) (u : Int32), (i + n = M) → (hl_it (b_X6_pointsOf t x) i n u = hl_it (b_X6_pointsOf t x) 0 M 0) →  hl_X p l e ({ frames := 0, cells := 0, slots := 0, locals := 0 } : Room) s m args below meth c 4 D A 0 0 Q (hl_WM b cI cZ t) 4 [(0, .ref (b 0)), (1, .int x), (2, .int u), (3, .int (nI i))] [] := by
    intro n
    induction n with
    | zero =>
      intro i u hi hv
      refine hl_iload_n h 3 dX6_pointsOf_4 rfl ?_
      refine hl_aload_n h 0 dX6_pointsOf_5 rfl ?_
      refine hl_get h hi6 hl_wm_0 rfl 22 rfl dX6_pointsOf_6 (by decide) (by decide +kernel) ?_
      refine hl_icmp_ge_T h 41 dX6_pointsOf_9 (by decide) (by rw [hm]; exact nI_le (by omega) (by omega)) ?_
      refine hl_iload_n h 2 dX6_pointsOf_41 rfl ?_
      exact hend dX6_pointsOf_42 (fun h9 => nomatch h9) (by
        exact ⟨hv, rfl⟩)
    | succ n ih =>
      intro i u hi hv
      refine hl_iload_n h 3 dX6_pointsOf_4 rfl ?_
      refine hl_aload_n h 0 dX6_pointsOf_5 rfl ?_
      refine hl_get h hi6 hl_wm_0 rfl 22 rfl dX6_pointsOf_6 (by decide) (by decide +kernel) ?_
      refine hl_icmp_ge_F h 41 dX6_pointsOf_9 (by decide) (by rw [hm]; exact nI_ge (by omega) (by omega)) ?_
      refine hl_iload_n h 2 dX6_pointsOf_12 rfl ?_
      refine hl_aload_n h 0 dX6_pointsOf_13 rfl ?_
      refine hl_get h hi6 hl_wm_0 rfl 19 rfl dX6_pointsOf_14 (by decide) (by decide +kernel) ?_
      refine hl_iload_n h 3 dX6_pointsOf_17 rfl ?_
      refine hl_ildN h hl_wm_16 0 rfl i dX6_pointsOf_18 rfl (by omega) (by decide) ?_
      refine hl_iload_n h 1 dX6_pointsOf_19 rfl ?_
      refine hl_icmp_ne h 32 dX6_pointsOf_20 (by decide) (fun c1 => ?_) (fun c1 => ?_)
      · refine hl_iconst h 0 dX6_pointsOf_32 (by decide) ?_
        refine hl_iadd h dX6_pointsOf_33 ?_
        refine hl_istore_n h [(2, .int (u + 0)), (0, .ref (b 0)), (1, .int x), (3, .int (nI i))] dX6_pointsOf_34 (by decide) rfl ?_
        refine hl_iinc h 3 (nI (i + 1)) [(3, .int (nI (i + 1))), (2, .int (u + 0)), (0, .ref (b 0)), (1, .int x)] dX6_pointsOf_35 rfl (hl_inc i) (by decide) rfl ?_
        refine hl_goto h 4 dX6_pointsOf_38 (by decide) ?_
        refine hl_lsub [2, 3, 1, 0] rfl ?_
        exact ih (i + 1) (u + 0) (by omega) (by rw [← hv, hl_it_s] <;> (congr 1 <;> (first | (simp [b_X6_pointsOf, c1]; done) | (symm; simp [b_X6_pointsOf, c1]))))
      · refine hl_aload_n h 0 dX6_pointsOf_23 rfl ?_
        refine hl_get h hi6 hl_wm_0 rfl 21 rfl dX6_pointsOf_24 (by decide) (by decide +kernel) ?_
        refine hl_iload_n h 3 dX6_pointsOf_27 rfl ?_
        refine hl_ildN h hl_wm_18 0 rfl i dX6_pointsOf_28 rfl (by omega) (by decide) ?_
        refine hl_goto h 33 dX6_pointsOf_29 (by decide) ?_
        refine hl_iadd h dX6_pointsOf_33 ?_
        refine hl_istore_n h [(2, .int (u + (t 21 i))), (0, .ref (b 0)), (1, .int x), (3, .int (nI i))] dX6_pointsOf_34 (by decide) rfl ?_
        refine hl_iinc h 3 (nI (i + 1)) [(3, .int (nI (i + 1))), (2, .int (u + (t 21 i))), (0, .ref (b 0)), (1, .int x)] dX6_pointsOf_35 rfl (hl_inc i) (by decide) rfl ?_
        refine hl_goto h 4 dX6_pointsOf_38 (by decide) ?_
        refine hl_lsub [2, 3, 1, 0] rfl ?_
        exact ih (i + 1) (u + (t 21 i)) (by omega) (by rw [← hv, hl_it_s] <;> (congr 1 <;> (first | (simp [b_X6_pointsOf, c1]; done) | (symm; simp [b_X6_pointsOf, c1]))))
  refine hl_lsub [2, 3, 1, 0] rfl ?_
  exact lp4 M 0 0 (Nat.zero_add M) rfl

set_option maxHeartbeats 4000000 in
set_option maxRecDepth 100000 in
theorem c_X6_burn_1 (l : Launch) (D : va_G) (cI cZ cJ : ClassId) (b : Nat → Nat) (t : Nat → Nat → Int32) (x y q : Int32) (h1 : ¬ vp_in x 10) : hl_KI D (hl_ty cI cZ cJ) l yX6_burn wsX6_burn ({ frames := 2, cells := 0, slots := 0, locals := 42 } : Room) 0 0 [.ref (b 0), .int x, .int y, .int q] (hl_WM b cI cZ t) (fun r w => r = 0 ∧ w = hl_WM b cI cZ (hl_su t 23 (fun _ => 1))) := by
  refine hl_KI_of (cc := cX6_burn) (maxL := 8) .int rfl (fun _ => Or.inr rfl) (by decide) rfl (Nat.le_of_ble_eq_true rfl) ?_
  intro p e s m args below meth c A Q h hend
  refine hl_ls (ls' := [(0, .ref (b 0)), (1, .int x), (2, .int y), (3, .int q)]) rfl ?_
  refine hl_iload_n h 1 dX6_burn_0 rfl ?_
  refine hl_callSiD h (st := []) (c_X6_isGuest_F l D cI cZ cJ b t x h1) (va_cwS 1 h.2.2.2.2.1 gX6_burn_X6_isGuest rfl rfl rfl (by decide +kernel) ⟨Nat.le_of_ble_eq_true rfl, Nat.le_of_ble_eq_true rfl⟩) dX6_burn_1 rfl (Nat.le_of_ble_eq_true rfl) ⟨Nat.le_of_ble_eq_true rfl, Nat.le_of_ble_eq_true rfl⟩ rfl ?_
  refine hl_if_eq_T h 14 dX6_burn_4 (by decide) (by decide) ?_
  refine hl_iconst h 1 dX6_burn_14 (by decide) ?_
  refine hl_goto h 33 dX6_burn_15 (by decide) ?_
  refine hl_istore h [(4, .int 1), (0, .ref (b 0)), (1, .int x), (2, .int y), (3, .int q)] dX6_burn_33 (by decide) rfl ?_
  refine hl_aload_n h 1 dX6_burn_35 rfl ?_
  refine hl_iload h 0 dX6_burn_36 rfl ?_
  refine hl_if_ne_T h 54 dX6_burn_38 (by decide) (by decide) ?_
  refine hl_iload h 0 dX6_burn_54 rfl ?_
  refine hl_callViD h (st := []) (c_X6_isFine_n l D cI cZ cJ b t 1 (by decide)) (cwV 1 h.2.2.2.2.1 gX6_burn_X6_isFine rfl rfl rfl (by decide +kernel) ⟨Nat.le_of_ble_eq_true rfl, Nat.le_of_ble_eq_true rfl⟩) hl_wm_0 rfl dX6_burn_56 rfl (Nat.le_of_ble_eq_true rfl) ⟨Nat.le_of_ble_eq_true rfl, Nat.le_of_ble_eq_true rfl⟩ rfl ?_
  refine hl_nmM (fun g7 e8 => ?_)
  refine hl_if_ne_F h 64 dX6_burn_59 (by decide) (by decide) ?_
  refine hl_iconst h 0 dX6_burn_62 (by decide) ?_
  exact hend dX6_burn_63 (fun h9 => nomatch h9) (by
    subst e8
    exact ⟨by rfl, (congrArg (hl_WM b cI cZ) (by rfl))⟩)

set_option maxHeartbeats 4000000 in
set_option maxRecDepth 100000 in
theorem c_X6_burn_2 (l : Launch) (D : va_G) (cI cZ cJ : ClassId) (b : Nat → Nat) (t : Nat → Nat → Int32) (x y q : Int32) (h1 : vp_in x 10) (h2 : ¬ vp_in y 4) : hl_KI D (hl_ty cI cZ cJ) l yX6_burn wsX6_burn ({ frames := 2, cells := 0, slots := 0, locals := 42 } : Room) 0 0 [.ref (b 0), .int x, .int y, .int q] (hl_WM b cI cZ t) (fun r w => r = 0 ∧ w = hl_WM b cI cZ (hl_su t 23 (fun _ => 1))) := by
  refine hl_KI_of (cc := cX6_burn) (maxL := 8) .int rfl (fun _ => Or.inr rfl) (by decide) rfl (Nat.le_of_ble_eq_true rfl) ?_
  intro p e s m args below meth c A Q h hend
  refine hl_ls (ls' := [(0, .ref (b 0)), (1, .int x), (2, .int y), (3, .int q)]) rfl ?_
  refine hl_iload_n h 1 dX6_burn_0 rfl ?_
  refine hl_callSiD h (st := []) (c_X6_isGuest_T l D cI cZ cJ b t x h1) (va_cwS 1 h.2.2.2.2.1 gX6_burn_X6_isGuest rfl rfl rfl (by decide +kernel) ⟨Nat.le_of_ble_eq_true rfl, Nat.le_of_ble_eq_true rfl⟩) dX6_burn_1 rfl (Nat.le_of_ble_eq_true rfl) ⟨Nat.le_of_ble_eq_true rfl, Nat.le_of_ble_eq_true rfl⟩ rfl ?_
  refine hl_if_eq_F h 14 dX6_burn_4 (by decide) (by decide) ?_
  refine hl_iload_n h 2 dX6_burn_7 rfl ?_
  refine hl_callSiD h (st := []) (c_X6_isInn_F l D cI cZ cJ b t y h2) (va_cwS 1 h.2.2.2.2.1 gX6_burn_X6_isInn rfl rfl rfl (by decide +kernel) ⟨Nat.le_of_ble_eq_true rfl, Nat.le_of_ble_eq_true rfl⟩) dX6_burn_8 rfl (Nat.le_of_ble_eq_true rfl) ⟨Nat.le_of_ble_eq_true rfl, Nat.le_of_ble_eq_true rfl⟩ rfl ?_
  refine hl_if_ne_F h 18 dX6_burn_11 (by decide) (by decide) ?_
  refine hl_iconst h 1 dX6_burn_14 (by decide) ?_
  refine hl_goto h 33 dX6_burn_15 (by decide) ?_
  refine hl_istore h [(4, .int 1), (0, .ref (b 0)), (1, .int x), (2, .int y), (3, .int q)] dX6_burn_33 (by decide) rfl ?_
  refine hl_aload_n h 1 dX6_burn_35 rfl ?_
  refine hl_iload h 0 dX6_burn_36 rfl ?_
  refine hl_if_ne_T h 54 dX6_burn_38 (by decide) (by decide) ?_
  refine hl_iload h 0 dX6_burn_54 rfl ?_
  refine hl_callViD h (st := []) (c_X6_isFine_n l D cI cZ cJ b t 1 (by decide)) (cwV 1 h.2.2.2.2.1 gX6_burn_X6_isFine rfl rfl rfl (by decide +kernel) ⟨Nat.le_of_ble_eq_true rfl, Nat.le_of_ble_eq_true rfl⟩) hl_wm_0 rfl dX6_burn_56 rfl (Nat.le_of_ble_eq_true rfl) ⟨Nat.le_of_ble_eq_true rfl, Nat.le_of_ble_eq_true rfl⟩ rfl ?_
  refine hl_nmM (fun g10 e11 => ?_)
  refine hl_if_ne_F h 64 dX6_burn_59 (by decide) (by decide) ?_
  refine hl_iconst h 0 dX6_burn_62 (by decide) ?_
  exact hend dX6_burn_63 (fun h9 => nomatch h9) (by
    subst e11
    exact ⟨by rfl, (congrArg (hl_WM b cI cZ) (by rfl))⟩)

set_option maxHeartbeats 4000000 in
set_option maxRecDepth 100000 in
theorem c_X6_burn_3 (l : Launch) (D : va_G) (cI cZ cJ : ClassId) (b : Nat → Nat) (t : Nat → Nat → Int32) (x y q : Int32) (h1 : vp_in x 10) (h2 : vp_in y 4) (h3 : ¬ (¬ q < 1 ∧ q ≤ 100)) : hl_KI D (hl_ty cI cZ cJ) l yX6_burn wsX6_burn ({ frames := 2, cells := 0, slots := 0, locals := 42 } : Room) 0 0 [.ref (b 0), .int x, .int y, .int q] (hl_WM b cI cZ t) (fun r w => r = 0 ∧ w = hl_WM b cI cZ (hl_su t 23 (fun _ => 2))) := by
  refine hl_KI_of (cc := cX6_burn) (maxL := 8) .int rfl (fun _ => Or.inr rfl) (by decide) rfl (Nat.le_of_ble_eq_true rfl) ?_
  intro p e s m args below meth c A Q h hend
  refine hl_ls (ls' := [(0, .ref (b 0)), (1, .int x), (2, .int y), (3, .int q)]) rfl ?_
  refine hl_iload_n h 1 dX6_burn_0 rfl ?_
  refine hl_callSiD h (st := []) (c_X6_isGuest_T l D cI cZ cJ b t x h1) (va_cwS 1 h.2.2.2.2.1 gX6_burn_X6_isGuest rfl rfl rfl (by decide +kernel) ⟨Nat.le_of_ble_eq_true rfl, Nat.le_of_ble_eq_true rfl⟩) dX6_burn_1 rfl (Nat.le_of_ble_eq_true rfl) ⟨Nat.le_of_ble_eq_true rfl, Nat.le_of_ble_eq_true rfl⟩ rfl ?_
  refine hl_if_eq_F h 14 dX6_burn_4 (by decide) (by decide) ?_
  refine hl_iload_n h 2 dX6_burn_7 rfl ?_
  refine hl_callSiD h (st := []) (c_X6_isInn_T l D cI cZ cJ b t y h2) (va_cwS 1 h.2.2.2.2.1 gX6_burn_X6_isInn rfl rfl rfl (by decide +kernel) ⟨Nat.le_of_ble_eq_true rfl, Nat.le_of_ble_eq_true rfl⟩) dX6_burn_8 rfl (Nat.le_of_ble_eq_true rfl) ⟨Nat.le_of_ble_eq_true rfl, Nat.le_of_ble_eq_true rfl⟩ rfl ?_
  refine hl_if_ne_T h 18 dX6_burn_11 (by decide) (by decide) ?_
  refine hl_iload_n h 3 dX6_burn_18 rfl ?_
  refine hl_iconst h 1 dX6_burn_19 (by decide) ?_
  refine hl_bipush h 100 dX6_burn_20 (by decide) ?_
  refine hl_callSiD h (st := []) (c_X6_in_F l D cI cZ cJ b t q 1 100 h3) (va_cwS 3 h.2.2.2.2.1 gX6_burn_X6_in rfl rfl rfl (by decide +kernel) ⟨Nat.le_of_ble_eq_true rfl, Nat.le_of_ble_eq_true rfl⟩) dX6_burn_22 rfl (Nat.le_of_ble_eq_true rfl) ⟨Nat.le_of_ble_eq_true rfl, Nat.le_of_ble_eq_true rfl⟩ rfl ?_
  refine hl_if_ne_F h 32 dX6_burn_25 (by decide) (by decide) ?_
  refine hl_iconst h 2 dX6_burn_28 (by decide) ?_
  refine hl_goto h 33 dX6_burn_29 (by decide) ?_
  refine hl_istore h [(4, .int 2), (0, .ref (b 0)), (1, .int x), (2, .int y), (3, .int q)] dX6_burn_33 (by decide) rfl ?_
  refine hl_aload_n h 1 dX6_burn_35 rfl ?_
  refine hl_iload h 0 dX6_burn_36 rfl ?_
  refine hl_if_ne_T h 54 dX6_burn_38 (by decide) (by decide) ?_
  refine hl_iload h 0 dX6_burn_54 rfl ?_
  refine hl_callViD h (st := []) (c_X6_isFine_n l D cI cZ cJ b t 2 (by decide)) (cwV 1 h.2.2.2.2.1 gX6_burn_X6_isFine rfl rfl rfl (by decide +kernel) ⟨Nat.le_of_ble_eq_true rfl, Nat.le_of_ble_eq_true rfl⟩) hl_wm_0 rfl dX6_burn_56 rfl (Nat.le_of_ble_eq_true rfl) ⟨Nat.le_of_ble_eq_true rfl, Nat.le_of_ble_eq_true rfl⟩ rfl ?_
  refine hl_nmM (fun g13 e14 => ?_)
  refine hl_if_ne_F h 64 dX6_burn_59 (by decide) (by decide) ?_
  refine hl_iconst h 0 dX6_burn_62 (by decide) ?_
  exact hend dX6_burn_63 (fun h9 => nomatch h9) (by
    subst e14
    exact ⟨by rfl, (congrArg (hl_WM b cI cZ) (by rfl))⟩)

set_option maxHeartbeats 4000000 in
set_option maxRecDepth 100000 in
theorem c_X6_burn_4 (l : Launch) (D : va_G) (cI cZ cJ : ClassId) (b : Nat → Nat) (t : Nat → Nat → Int32) (x y q : Int32) (N M T : Nat) (ho : hl_okM t N M T) (h1 : vp_in x 10) (h2 : vp_in y 4) (h3 : ¬ q < 1) (h4 : q ≤ 100) (h5 : ¬ q ≤ hl_it (b_X6_pointsOf t x) 0 M 0) : hl_KI D (hl_ty cI cZ cJ) l yX6_burn wsX6_burn ({ frames := 2, cells := 0, slots := 0, locals := 42 } : Room) 0 0 [.ref (b 0), .int x, .int y, .int q] (hl_WM b cI cZ t) (fun r w => r = 0 ∧ w = hl_WM b cI cZ (hl_su t 23 (fun _ => 3))) := by
  refine hl_KI_of (cc := cX6_burn) (maxL := 8) .int rfl (fun _ => Or.inr rfl) (by decide) rfl (Nat.le_of_ble_eq_true rfl) ?_
  intro p e s m args below meth c A Q h hend
  obtain ⟨hN, hc, hM, hm, hT, ht8, hbk, hpt, hbr⟩ := id ho
  refine hl_ls (ls' := [(0, .ref (b 0)), (1, .int x), (2, .int y), (3, .int q)]) rfl ?_
  refine hl_iload_n h 1 dX6_burn_0 rfl ?_
  refine hl_callSiD h (st := []) (c_X6_isGuest_T l D cI cZ cJ b t x h1) (va_cwS 1 h.2.2.2.2.1 gX6_burn_X6_isGuest rfl rfl rfl (by decide +kernel) ⟨Nat.le_of_ble_eq_true rfl, Nat.le_of_ble_eq_true rfl⟩) dX6_burn_1 rfl (Nat.le_of_ble_eq_true rfl) ⟨Nat.le_of_ble_eq_true rfl, Nat.le_of_ble_eq_true rfl⟩ rfl ?_
  refine hl_if_eq_F h 14 dX6_burn_4 (by decide) (by decide) ?_
  refine hl_iload_n h 2 dX6_burn_7 rfl ?_
  refine hl_callSiD h (st := []) (c_X6_isInn_T l D cI cZ cJ b t y h2) (va_cwS 1 h.2.2.2.2.1 gX6_burn_X6_isInn rfl rfl rfl (by decide +kernel) ⟨Nat.le_of_ble_eq_true rfl, Nat.le_of_ble_eq_true rfl⟩) dX6_burn_8 rfl (Nat.le_of_ble_eq_true rfl) ⟨Nat.le_of_ble_eq_true rfl, Nat.le_of_ble_eq_true rfl⟩ rfl ?_
  refine hl_if_ne_T h 18 dX6_burn_11 (by decide) (by decide) ?_
  refine hl_iload_n h 3 dX6_burn_18 rfl ?_
  refine hl_iconst h 1 dX6_burn_19 (by decide) ?_
  refine hl_bipush h 100 dX6_burn_20 (by decide) ?_
  refine hl_callSiD h (st := []) (c_X6_in_T l D cI cZ cJ b t q 1 100 h3 h4) (va_cwS 3 h.2.2.2.2.1 gX6_burn_X6_in rfl rfl rfl (by decide +kernel) ⟨Nat.le_of_ble_eq_true rfl, Nat.le_of_ble_eq_true rfl⟩) dX6_burn_22 rfl (Nat.le_of_ble_eq_true rfl) ⟨Nat.le_of_ble_eq_true rfl, Nat.le_of_ble_eq_true rfl⟩ rfl ?_
  refine hl_if_ne_T h 32 dX6_burn_25 (by decide) (by decide) ?_
  refine hl_iconst h 0 dX6_burn_32 (by decide) ?_
  refine hl_istore h [(4, .int 0), (0, .ref (b 0)), (1, .int x), (2, .int y), (3, .int q)] dX6_burn_33 (by decide) rfl ?_
  refine hl_aload_n h 1 dX6_burn_35 rfl ?_
  refine hl_iload h 0 dX6_burn_36 rfl ?_
  refine hl_if_ne_F h 54 dX6_burn_38 (by decide) (by decide) ?_
  refine hl_aload_n h 1 dX6_burn_41 rfl ?_
  refine hl_iload_n h 2 dX6_burn_42 rfl ?_
  refine hl_callViD h (st := [.ref (b 0)]) (c_X6_pointsOf l D cI cZ cJ b t x M hM (by with_reducible assumption)) (cwV 1 h.2.2.2.2.1 gX6_burn_X6_pointsOf rfl rfl rfl (by decide +kernel) ⟨Nat.le_of_ble_eq_true rfl, Nat.le_of_ble_eq_true rfl⟩) hl_wm_0 rfl dX6_burn_43 rfl (Nat.le_of_ble_eq_true rfl) ⟨Nat.le_of_ble_eq_true rfl, Nat.le_of_ble_eq_true rfl⟩ rfl ?_
  refine hl_iload_n h 4 dX6_burn_46 rfl ?_
  refine hl_icmp_ge_F h 54 dX6_burn_47 (by decide) h5 ?_
  refine hl_iconst h 3 dX6_burn_50 (by decide) ?_
  refine hl_goto h 56 dX6_burn_51 (by decide) ?_
  refine hl_callViD h (st := []) (c_X6_isFine_n l D cI cZ cJ b t 3 (by decide)) (cwV 1 h.2.2.2.2.1 gX6_burn_X6_isFine rfl rfl rfl (by decide +kernel) ⟨Nat.le_of_ble_eq_true rfl, Nat.le_of_ble_eq_true rfl⟩) hl_wm_0 rfl dX6_burn_56 rfl (Nat.le_of_ble_eq_true rfl) ⟨Nat.le_of_ble_eq_true rfl, Nat.le_of_ble_eq_true rfl⟩ rfl ?_
  refine hl_nmM (fun g16 e17 => ?_)
  refine hl_if_ne_F h 64 dX6_burn_59 (by decide) (by decide) ?_
  refine hl_iconst h 0 dX6_burn_62 (by decide) ?_
  exact hend dX6_burn_63 (fun h9 => nomatch h9) (by
    subst e17
    exact ⟨by rfl, (congrArg (hl_WM b cI cZ) (by rfl))⟩)

set_option maxHeartbeats 4000000 in
set_option maxRecDepth 100000 in
theorem c_X6_burn_0 (l : Launch) (D : va_G) (cI cZ cJ : ClassId) (b : Nat → Nat) (t : Nat → Nat → Int32) (x y q : Int32) (N M T : Nat) (ho : hl_okM t N M T) (h1 : vp_in x 10) (h2 : vp_in y 4) (h3 : ¬ q < 1) (h4 : q ≤ 100) (h5 : q ≤ hl_it (b_X6_pointsOf t x) 0 M 0) : hl_KI D (hl_ty cI cZ cJ) l yX6_burn wsX6_burn ({ frames := 2, cells := 0, slots := 0, locals := 42 } : Room) 0 0 [.ref (b 0), .int x, .int y, .int q] (hl_WM b cI cZ t) (fun r w => r = hl_it (b_X6_pointsOf (f_X6_burn (hl_su t 23 (fun _ => 0)) M x y q) x) 0 M 0 ∧ w = hl_WM b cI cZ (f_X6_burn (hl_su t 23 (fun _ => 0)) M x y q)) := by
  refine hl_KI_of (cc := cX6_burn) (maxL := 8) .int rfl (fun _ => Or.inr rfl) (by decide) rfl (Nat.le_of_ble_eq_true rfl) ?_
  intro p e s m args below meth c A Q h hend
  have hi6 : ∀ z ∈ wsX60, z ∈ wsX6_burn := by decide +kernel
  obtain ⟨hN, hc, hM, hm, hT, ht8, hbk, hpt, hbr⟩ := id ho
  refine hl_ls (ls' := [(0, .ref (b 0)), (1, .int x), (2, .int y), (3, .int q)]) rfl ?_
  refine hl_iload_n h 1 dX6_burn_0 rfl ?_
  refine hl_callSiD h (st := []) (c_X6_isGuest_T l D cI cZ cJ b t x h1) (va_cwS 1 h.2.2.2.2.1 gX6_burn_X6_isGuest rfl rfl rfl (by decide +kernel) ⟨Nat.le_of_ble_eq_true rfl, Nat.le_of_ble_eq_true rfl⟩) dX6_burn_1 rfl (Nat.le_of_ble_eq_true rfl) ⟨Nat.le_of_ble_eq_true rfl, Nat.le_of_ble_eq_true rfl⟩ rfl ?_
  refine hl_if_eq_F h 14 dX6_burn_4 (by decide) (by decide) ?_
  refine hl_iload_n h 2 dX6_burn_7 rfl ?_
  refine hl_callSiD h (st := []) (c_X6_isInn_T l D cI cZ cJ b t y h2) (va_cwS 1 h.2.2.2.2.1 gX6_burn_X6_isInn rfl rfl rfl (by decide +kernel) ⟨Nat.le_of_ble_eq_true rfl, Nat.le_of_ble_eq_true rfl⟩) dX6_burn_8 rfl (Nat.le_of_ble_eq_true rfl) ⟨Nat.le_of_ble_eq_true rfl, Nat.le_of_ble_eq_true rfl⟩ rfl ?_
  refine hl_if_ne_T h 18 dX6_burn_11 (by decide) (by decide) ?_
  refine hl_iload_n h 3 dX6_burn_18 rfl ?_
  refine hl_iconst h 1 dX6_burn_19 (by decide) ?_
  refine hl_bipush h 100 dX6_burn_20 (by decide) ?_
  refine hl_callSiD h (st := []) (c_X6_in_T l D cI cZ cJ b t q 1 100 h3 h4) (va_cwS 3 h.2.2.2.2.1 gX6_burn_X6_in rfl rfl rfl (by decide +kernel) ⟨Nat.le_of_ble_eq_true rfl, Nat.le_of_ble_eq_true rfl⟩) dX6_burn_22 rfl (Nat.le_of_ble_eq_true rfl) ⟨Nat.le_of_ble_eq_true rfl, Nat.le_of_ble_eq_true rfl⟩ rfl ?_
  refine hl_if_ne_T h 32 dX6_burn_25 (by decide) (by decide) ?_
  refine hl_iconst h 0 dX6_burn_32 (by decide) ?_
  refine hl_istore h [(4, .int 0), (0, .ref (b 0)), (1, .int x), (2, .int y), (3, .int q)] dX6_burn_33 (by decide) rfl ?_
  refine hl_aload_n h 1 dX6_burn_35 rfl ?_
  refine hl_iload h 0 dX6_burn_36 rfl ?_
  refine hl_if_ne_F h 54 dX6_burn_38 (by decide) (by decide) ?_
  refine hl_aload_n h 1 dX6_burn_41 rfl ?_
  refine hl_iload_n h 2 dX6_burn_42 rfl ?_
  refine hl_callViD h (st := [.ref (b 0)]) (c_X6_pointsOf l D cI cZ cJ b t x M hM (by with_reducible assumption)) (cwV 1 h.2.2.2.2.1 gX6_burn_X6_pointsOf rfl rfl rfl (by decide +kernel) ⟨Nat.le_of_ble_eq_true rfl, Nat.le_of_ble_eq_true rfl⟩) hl_wm_0 rfl dX6_burn_43 rfl (Nat.le_of_ble_eq_true rfl) ⟨Nat.le_of_ble_eq_true rfl, Nat.le_of_ble_eq_true rfl⟩ rfl ?_
  refine hl_iload_n h 4 dX6_burn_46 rfl ?_
  refine hl_icmp_ge_T h 54 dX6_burn_47 (by decide) h5 ?_
  refine hl_iload h 0 dX6_burn_54 rfl ?_
  refine hl_callViD h (st := []) (c_X6_isFine_0 l D cI cZ cJ b t 0 rfl) (cwV 1 h.2.2.2.2.1 gX6_burn_X6_isFine rfl rfl rfl (by decide +kernel) ⟨Nat.le_of_ble_eq_true rfl, Nat.le_of_ble_eq_true rfl⟩) hl_wm_0 rfl dX6_burn_56 rfl (Nat.le_of_ble_eq_true rfl) ⟨Nat.le_of_ble_eq_true rfl, Nat.le_of_ble_eq_true rfl⟩ rfl ?_
  refine hl_nmM (fun g16 e17 => ?_)
  refine hl_if_ne_T h 64 dX6_burn_59 (by decide) (by decide) ?_
  refine hl_iload_n h 4 dX6_burn_64 rfl ?_
  refine hl_istore h [(5, .int q), (4, .int 0), (0, .ref (b 0)), (1, .int x), (2, .int y), (3, .int q)] dX6_burn_65 (by decide) rfl ?_
  refine hl_iconst h 0 dX6_burn_67 (by decide) ?_
  refine hl_istore h [(6, .int 0), (5, .int q), (4, .int 0), (0, .ref (b 0)), (1, .int x), (2, .int y), (3, .int q)] dX6_burn_68 (by decide) rfl ?_
  have lp70 : ∀ (n : Nat) (i : Nat) (z : (Nat → Nat → Int32) × Int32), (i + n = M) → (hl_it (b_X6_burn x y) i n z = hl_it (b_X6_burn x y) 0 M (g16, q)) → (z.1 22 0 = nI M) → (∀ k, k < M → vp_in (z.1 20 k) 4) →  hl_X p l e ({ frames := 2, cells := 0, slots := 0, locals := 42 } : Room) s m args below meth c 8 D A 0 0 Q (hl_WM b cI cZ z.1) 70 [(0, .ref (b 0)), (1, .int x), (2, .int y), (3, .int q), (4, .int 0), (5, .int z.2), (6, .int (nI i))] [] := by
    intro n
    induction n with
    | zero =>
      intro i z hi hv hz1 hz2
      refine hl_iload h 6 dX6_burn_70 rfl ?_
      refine hl_aload_n h 0 dX6_burn_72 rfl ?_
      refine hl_get h hi6 hl_wm_0 rfl 22 rfl dX6_burn_73 (by decide) (by decide +kernel) ?_
      refine hl_icmp_ge_T h 181 dX6_burn_76 (by decide) (by rw [hz1]; exact nI_le (by omega) (by omega)) ?_
      refine hl_aload_n h 0 dX6_burn_181 rfl ?_
      refine hl_iload_n h 1 dX6_burn_182 rfl ?_
      refine hl_callViD h (st := []) (c_X6_pointsOf l D cI cZ cJ b z.1 x M hM hz1) (cwV 1 h.2.2.2.2.1 gX6_burn_X6_pointsOf rfl rfl rfl (by decide +kernel) ⟨Nat.le_of_ble_eq_true rfl, Nat.le_of_ble_eq_true rfl⟩) hl_wm_0 rfl dX6_burn_183 rfl (Nat.le_of_ble_eq_true rfl) ⟨Nat.le_of_ble_eq_true rfl, Nat.le_of_ble_eq_true rfl⟩ rfl ?_
      exact hend dX6_burn_186 (fun h9 => nomatch h9) (by
        have q9 : z.1 = f_X6_burn (hl_su t 23 (fun _ => 0)) M x y q := by rw [f_X6_burn, show z = _ from hv]; subst_eqs; rfl
        exact ⟨by rw [q9], congrArg (hl_WM b cI cZ) q9⟩)
    | succ n ih =>
      intro i z hi hv hz1 hz2
      refine hl_iload h 6 dX6_burn_70 rfl ?_
      refine hl_aload_n h 0 dX6_burn_72 rfl ?_
      refine hl_get h hi6 hl_wm_0 rfl 22 rfl dX6_burn_73 (by decide) (by decide +kernel) ?_
      refine hl_icmp_ge_F h 181 dX6_burn_76 (by decide) (by rw [hz1]; exact nI_ge (by omega) (by omega)) ?_
      refine hl_aload_n h 0 dX6_burn_79 rfl ?_
      refine hl_get h hi6 hl_wm_0 rfl 19 rfl dX6_burn_80 (by decide) (by decide +kernel) ?_
      refine hl_iload h 6 dX6_burn_83 rfl ?_
      refine hl_ildN h hl_wm_16 0 rfl i dX6_burn_85 rfl (by omega) (by decide) ?_
      refine hl_iload_n h 1 dX6_burn_86 rfl ?_
      refine hl_icmp_eq h 94 dX6_burn_87 (by decide) (fun c21 => ?_) (fun c21 => ?_)
      · refine hl_aload_n h 0 dX6_burn_94 rfl ?_
        refine hl_get h hi6 hl_wm_0 rfl 21 rfl dX6_burn_95 (by decide) (by decide +kernel) ?_
        refine hl_iload h 6 dX6_burn_98 rfl ?_
        refine hl_ildN h hl_wm_18 0 rfl i dX6_burn_100 rfl (by omega) (by decide) ?_
        refine hl_iload h 5 dX6_burn_101 rfl ?_
        refine hl_icmp_ge h 116 dX6_burn_103 (by decide) (fun c22 => ?_) (fun c22 => ?_)
        · refine hl_iload h 5 dX6_burn_116 rfl ?_
          refine hl_istore h [(7, .int z.2), (0, .ref (b 0)), (1, .int x), (2, .int y), (3, .int q), (4, .int 0), (5, .int z.2), (6, .int (nI i))] dX6_burn_118 (by decide) rfl ?_
          refine hl_aload_n h 1 dX6_burn_120 rfl ?_
          refine hl_get h hi6 hl_wm_0 rfl 21 rfl dX6_burn_121 (by decide) (by decide +kernel) ?_
          refine hl_iload h 7 dX6_burn_124 rfl ?_
          refine hl_dup2 h dX6_burn_126 rfl rfl ?_
          refine hl_ildN h hl_wm_18 0 rfl i dX6_burn_127 rfl (by omega) (by decide) ?_
          refine hl_iload h 0 dX6_burn_128 rfl ?_
          refine hl_isub h dX6_burn_130 ?_
          refine hl_istN h hl_wm_18 0 rfl i dX6_burn_131 rfl (by omega) (by decide) hl_wm_t21 ?_
          refine hl_nmM (fun g23 e24 => ?_)
          refine hl_iload h 6 dX6_burn_132 rfl ?_
          refine hl_iload h 0 dX6_burn_134 rfl ?_
          refine hl_isub h dX6_burn_136 ?_
          refine hl_istore h [(5, .int (z.2 - z.2)), (7, .int z.2), (0, .ref (b 0)), (1, .int x), (2, .int y), (3, .int q), (4, .int 0), (6, .int (nI i))] dX6_burn_137 (by decide) rfl ?_
          refine hl_aload_n h 2 dX6_burn_139 rfl ?_
          refine hl_get h hi6 hl_wm_0 rfl 9 rfl dX6_burn_140 (by decide) (by decide +kernel) ?_
          refine hl_iconst h 4 dX6_burn_143 (by decide) ?_
          refine hl_aload_n h 2 dX6_burn_144 rfl ?_
          refine hl_get h hi6 hl_wm_0 rfl 20 rfl dX6_burn_145 (by decide) (by decide +kernel) ?_
          refine hl_iload h 7 dX6_burn_148 rfl ?_
          refine hl_ildN h hl_wm_17 0 rfl i dX6_burn_150 rfl (by omega) (by decide) ?_
          refine hl_imul h dX6_burn_151 ?_
          refine hl_iload_n h 4 dX6_burn_152 rfl ?_
          refine hl_iadd h dX6_burn_153 ?_
          refine hl_dup2 h dX6_burn_154 rfl rfl ?_
          refine hl_ild h hl_wm_7 0 rfl dX6_burn_155 (by rw [e24, hl_su_ne _ _ (by decide)]; exact hl_sqM (hz2 i (by omega)) h2) ?_
          refine hl_aload_n h 2 dX6_burn_156 rfl ?_
          refine hl_get h hi6 hl_wm_0 rfl 20 rfl dX6_burn_157 (by decide) (by decide +kernel) ?_
          refine hl_iload h 7 dX6_burn_160 rfl ?_
          refine hl_ildN h hl_wm_17 0 rfl i dX6_burn_162 rfl (by omega) (by decide) ?_
          refine hl_iload_n h 4 dX6_burn_163 rfl ?_
          refine hl_icmp_ne h 171 dX6_burn_164 (by decide) (fun c25 => ?_) (fun c25 => ?_)
          · refine hl_iload h 1 dX6_burn_171 rfl ?_
            refine hl_iadd h dX6_burn_173 ?_
            refine hl_ist h hl_wm_7 0 rfl dX6_burn_174 (by rw [e24, hl_su_ne _ _ (by decide)]; exact hl_sqM (hz2 i (by omega)) h2) hl_wm_t9 ?_
            refine hl_nmM (fun g26 e27 => ?_)
            refine hl_iinc h 7 (nI (i + 1)) [(6, .int (nI (i + 1))), (5, .int (z.2 - z.2)), (7, .int z.2), (0, .ref (b 0)), (1, .int x), (2, .int y), (3, .int q), (4, .int 0)] dX6_burn_175 rfl (hl_inc i) (by decide) rfl ?_
            refine hl_goto h 70 dX6_burn_178 (by decide) ?_
            refine hl_lsub [3, 4, 5, 6, 7, 1, 0] rfl ?_
            exact ih (i + 1) (g26, (z.2 - z.2)) (by omega) (by rw [← hv, hl_it_s, show b_X6_burn x y i z = (g26, (z.2 - z.2)) from (by subst e27; subst e24; simp only [b_X6_burn, if_pos c21, if_pos c22, if_neg c25])]) (by show g26 22 0 = nI M; rw [e27, hl_su_ne _ _ (by decide), e24, hl_su_ne _ _ (by decide)]; exact hz1) (by intro k hk; show vp_in (g26 20 k) 4; rw [e27, hl_su_ne _ _ (by decide), e24, hl_su_ne _ _ (by decide)]; exact hz2 k hk)
          · refine hl_iconst h 0 dX6_burn_167 (by decide) ?_
            refine hl_goto h 173 dX6_burn_168 (by decide) ?_
            refine hl_iadd h dX6_burn_173 ?_
            refine hl_ist h hl_wm_7 0 rfl dX6_burn_174 (by rw [e24, hl_su_ne _ _ (by decide)]; exact hl_sqM (hz2 i (by omega)) h2) hl_wm_t9 ?_
            refine hl_nmM (fun g28 e29 => ?_)
            refine hl_iinc h 7 (nI (i + 1)) [(6, .int (nI (i + 1))), (5, .int (z.2 - z.2)), (7, .int z.2), (0, .ref (b 0)), (1, .int x), (2, .int y), (3, .int q), (4, .int 0)] dX6_burn_175 rfl (hl_inc i) (by decide) rfl ?_
            refine hl_goto h 70 dX6_burn_178 (by decide) ?_
            refine hl_lsub [3, 4, 5, 6, 7, 1, 0] rfl ?_
            exact ih (i + 1) (g28, (z.2 - z.2)) (by omega) (by rw [← hv, hl_it_s, show b_X6_burn x y i z = (g28, (z.2 - z.2)) from (by subst e29; subst e24; simp only [b_X6_burn, if_pos c21, if_pos c22, if_pos c25])]) (by show g28 22 0 = nI M; rw [e29, hl_su_ne _ _ (by decide), e24, hl_su_ne _ _ (by decide)]; exact hz1) (by intro k hk; show vp_in (g28 20 k) 4; rw [e29, hl_su_ne _ _ (by decide), e24, hl_su_ne _ _ (by decide)]; exact hz2 k hk)
        · refine hl_aload_n h 0 dX6_burn_106 rfl ?_
          refine hl_get h hi6 hl_wm_0 rfl 21 rfl dX6_burn_107 (by decide) (by decide +kernel) ?_
          refine hl_iload h 6 dX6_burn_110 rfl ?_
          refine hl_ildN h hl_wm_18 0 rfl i dX6_burn_112 rfl (by omega) (by decide) ?_
          refine hl_goto h 118 dX6_burn_113 (by decide) ?_
          refine hl_istore h [(7, .int (z.1 21 i)), (0, .ref (b 0)), (1, .int x), (2, .int y), (3, .int q), (4, .int 0), (5, .int z.2), (6, .int (nI i))] dX6_burn_118 (by decide) rfl ?_
          refine hl_aload_n h 1 dX6_burn_120 rfl ?_
          refine hl_get h hi6 hl_wm_0 rfl 21 rfl dX6_burn_121 (by decide) (by decide +kernel) ?_
          refine hl_iload h 7 dX6_burn_124 rfl ?_
          refine hl_dup2 h dX6_burn_126 rfl rfl ?_
          refine hl_ildN h hl_wm_18 0 rfl i dX6_burn_127 rfl (by omega) (by decide) ?_
          refine hl_iload h 0 dX6_burn_128 rfl ?_
          refine hl_isub h dX6_burn_130 ?_
          refine hl_istN h hl_wm_18 0 rfl i dX6_burn_131 rfl (by omega) (by decide) hl_wm_t21 ?_
          refine hl_nmM (fun g30 e31 => ?_)
          refine hl_iload h 6 dX6_burn_132 rfl ?_
          refine hl_iload h 0 dX6_burn_134 rfl ?_
          refine hl_isub h dX6_burn_136 ?_
          refine hl_istore h [(5, .int (z.2 - (z.1 21 i))), (7, .int (z.1 21 i)), (0, .ref (b 0)), (1, .int x), (2, .int y), (3, .int q), (4, .int 0), (6, .int (nI i))] dX6_burn_137 (by decide) rfl ?_
          refine hl_aload_n h 2 dX6_burn_139 rfl ?_
          refine hl_get h hi6 hl_wm_0 rfl 9 rfl dX6_burn_140 (by decide) (by decide +kernel) ?_
          refine hl_iconst h 4 dX6_burn_143 (by decide) ?_
          refine hl_aload_n h 2 dX6_burn_144 rfl ?_
          refine hl_get h hi6 hl_wm_0 rfl 20 rfl dX6_burn_145 (by decide) (by decide +kernel) ?_
          refine hl_iload h 7 dX6_burn_148 rfl ?_
          refine hl_ildN h hl_wm_17 0 rfl i dX6_burn_150 rfl (by omega) (by decide) ?_
          refine hl_imul h dX6_burn_151 ?_
          refine hl_iload_n h 4 dX6_burn_152 rfl ?_
          refine hl_iadd h dX6_burn_153 ?_
          refine hl_dup2 h dX6_burn_154 rfl rfl ?_
          refine hl_ild h hl_wm_7 0 rfl dX6_burn_155 (by rw [e31, hl_su_ne _ _ (by decide)]; exact hl_sqM (hz2 i (by omega)) h2) ?_
          refine hl_aload_n h 2 dX6_burn_156 rfl ?_
          refine hl_get h hi6 hl_wm_0 rfl 20 rfl dX6_burn_157 (by decide) (by decide +kernel) ?_
          refine hl_iload h 7 dX6_burn_160 rfl ?_
          refine hl_ildN h hl_wm_17 0 rfl i dX6_burn_162 rfl (by omega) (by decide) ?_
          refine hl_iload_n h 4 dX6_burn_163 rfl ?_
          refine hl_icmp_ne h 171 dX6_burn_164 (by decide) (fun c32 => ?_) (fun c32 => ?_)
          · refine hl_iload h 1 dX6_burn_171 rfl ?_
            refine hl_iadd h dX6_burn_173 ?_
            refine hl_ist h hl_wm_7 0 rfl dX6_burn_174 (by rw [e31, hl_su_ne _ _ (by decide)]; exact hl_sqM (hz2 i (by omega)) h2) hl_wm_t9 ?_
            refine hl_nmM (fun g33 e34 => ?_)
            refine hl_iinc h 7 (nI (i + 1)) [(6, .int (nI (i + 1))), (5, .int (z.2 - (z.1 21 i))), (7, .int (z.1 21 i)), (0, .ref (b 0)), (1, .int x), (2, .int y), (3, .int q), (4, .int 0)] dX6_burn_175 rfl (hl_inc i) (by decide) rfl ?_
            refine hl_goto h 70 dX6_burn_178 (by decide) ?_
            refine hl_lsub [3, 4, 5, 6, 7, 1, 0] rfl ?_
            exact ih (i + 1) (g33, (z.2 - (z.1 21 i))) (by omega) (by rw [← hv, hl_it_s, show b_X6_burn x y i z = (g33, (z.2 - (z.1 21 i))) from (by subst e34; subst e31; simp only [b_X6_burn, if_pos c21, if_neg c22, if_neg c32])]) (by show g33 22 0 = nI M; rw [e34, hl_su_ne _ _ (by decide), e31, hl_su_ne _ _ (by decide)]; exact hz1) (by intro k hk; show vp_in (g33 20 k) 4; rw [e34, hl_su_ne _ _ (by decide), e31, hl_su_ne _ _ (by decide)]; exact hz2 k hk)
          · refine hl_iconst h 0 dX6_burn_167 (by decide) ?_
            refine hl_goto h 173 dX6_burn_168 (by decide) ?_
            refine hl_iadd h dX6_burn_173 ?_
            refine hl_ist h hl_wm_7 0 rfl dX6_burn_174 (by rw [e31, hl_su_ne _ _ (by decide)]; exact hl_sqM (hz2 i (by omega)) h2) hl_wm_t9 ?_
            refine hl_nmM (fun g35 e36 => ?_)
            refine hl_iinc h 7 (nI (i + 1)) [(6, .int (nI (i + 1))), (5, .int (z.2 - (z.1 21 i))), (7, .int (z.1 21 i)), (0, .ref (b 0)), (1, .int x), (2, .int y), (3, .int q), (4, .int 0)] dX6_burn_175 rfl (hl_inc i) (by decide) rfl ?_
            refine hl_goto h 70 dX6_burn_178 (by decide) ?_
            refine hl_lsub [3, 4, 5, 6, 7, 1, 0] rfl ?_
            exact ih (i + 1) (g35, (z.2 - (z.1 21 i))) (by omega) (by rw [← hv, hl_it_s, show b_X6_burn x y i z = (g35, (z.2 - (z.1 21 i))) from (by subst e36; subst e31; simp only [b_X6_burn, if_pos c21, if_neg c22, if_pos c32])]) (by show g35 22 0 = nI M; rw [e36, hl_su_ne _ _ (by decide), e31, hl_su_ne _ _ (by decide)]; exact hz1) (by intro k hk; show vp_in (g35 20 k) 4; rw [e36, hl_su_ne _ _ (by decide), e31, hl_su_ne _ _ (by decide)]; exact hz2 k hk)
      · refine hl_iconst h 0 dX6_burn_90 (by decide) ?_
        refine hl_goto h 118 dX6_burn_91 (by decide) ?_
        refine hl_istore h [(7, .int 0), (0, .ref (b 0)), (1, .int x), (2, .int y), (3, .int q), (4, .int 0), (5, .int z.2), (6, .int (nI i))] dX6_burn_118 (by decide) rfl ?_
        refine hl_aload_n h 1 dX6_burn_120 rfl ?_
        refine hl_get h hi6 hl_wm_0 rfl 21 rfl dX6_burn_121 (by decide) (by decide +kernel) ?_
        refine hl_iload h 7 dX6_burn_124 rfl ?_
        refine hl_dup2 h dX6_burn_126 rfl rfl ?_
        refine hl_ildN h hl_wm_18 0 rfl i dX6_burn_127 rfl (by omega) (by decide) ?_
        refine hl_iload h 0 dX6_burn_128 rfl ?_
        refine hl_isub h dX6_burn_130 ?_
        refine hl_istN h hl_wm_18 0 rfl i dX6_burn_131 rfl (by omega) (by decide) hl_wm_t21 ?_
        refine hl_nmM (fun g37 e38 => ?_)
        refine hl_iload h 6 dX6_burn_132 rfl ?_
        refine hl_iload h 0 dX6_burn_134 rfl ?_
        refine hl_isub h dX6_burn_136 ?_
        refine hl_istore h [(5, .int (z.2 - 0)), (7, .int 0), (0, .ref (b 0)), (1, .int x), (2, .int y), (3, .int q), (4, .int 0), (6, .int (nI i))] dX6_burn_137 (by decide) rfl ?_
        refine hl_aload_n h 2 dX6_burn_139 rfl ?_
        refine hl_get h hi6 hl_wm_0 rfl 9 rfl dX6_burn_140 (by decide) (by decide +kernel) ?_
        refine hl_iconst h 4 dX6_burn_143 (by decide) ?_
        refine hl_aload_n h 2 dX6_burn_144 rfl ?_
        refine hl_get h hi6 hl_wm_0 rfl 20 rfl dX6_burn_145 (by decide) (by decide +kernel) ?_
        refine hl_iload h 7 dX6_burn_148 rfl ?_
        refine hl_ildN h hl_wm_17 0 rfl i dX6_burn_150 rfl (by omega) (by decide) ?_
        refine hl_imul h dX6_burn_151 ?_
        refine hl_iload_n h 4 dX6_burn_152 rfl ?_
        refine hl_iadd h dX6_burn_153 ?_
        refine hl_dup2 h dX6_burn_154 rfl rfl ?_
        refine hl_ild h hl_wm_7 0 rfl dX6_burn_155 (by rw [e38, hl_su_ne _ _ (by decide)]; exact hl_sqM (hz2 i (by omega)) h2) ?_
        refine hl_aload_n h 2 dX6_burn_156 rfl ?_
        refine hl_get h hi6 hl_wm_0 rfl 20 rfl dX6_burn_157 (by decide) (by decide +kernel) ?_
        refine hl_iload h 7 dX6_burn_160 rfl ?_
        refine hl_ildN h hl_wm_17 0 rfl i dX6_burn_162 rfl (by omega) (by decide) ?_
        refine hl_iload_n h 4 dX6_burn_163 rfl ?_
        refine hl_icmp_ne h 171 dX6_burn_164 (by decide) (fun c39 => ?_) (fun c39 => ?_)
        · refine hl_iload h 1 dX6_burn_171 rfl ?_
          refine hl_iadd h dX6_burn_173 ?_
          refine hl_ist h hl_wm_7 0 rfl dX6_burn_174 (by rw [e38, hl_su_ne _ _ (by decide)]; exact hl_sqM (hz2 i (by omega)) h2) hl_wm_t9 ?_
          refine hl_nmM (fun g40 e41 => ?_)
          refine hl_iinc h 7 (nI (i + 1)) [(6, .int (nI (i + 1))), (5, .int (z.2 - 0)), (7, .int 0), (0, .ref (b 0)), (1, .int x), (2, .int y), (3, .int q), (4, .int 0)] dX6_burn_175 rfl (hl_inc i) (by decide) rfl ?_
          refine hl_goto h 70 dX6_burn_178 (by decide) ?_
          refine hl_lsub [3, 4, 5, 6, 7, 1, 0] rfl ?_
          exact ih (i + 1) (g40, (z.2 - 0)) (by omega) (by rw [← hv, hl_it_s, show b_X6_burn x y i z = (g40, (z.2 - 0)) from (by subst e41; subst e38; simp only [b_X6_burn, if_neg c21, if_neg c39])]) (by show g40 22 0 = nI M; rw [e41, hl_su_ne _ _ (by decide), e38, hl_su_ne _ _ (by decide)]; exact hz1) (by intro k hk; show vp_in (g40 20 k) 4; rw [e41, hl_su_ne _ _ (by decide), e38, hl_su_ne _ _ (by decide)]; exact hz2 k hk)
        · refine hl_iconst h 0 dX6_burn_167 (by decide) ?_
          refine hl_goto h 173 dX6_burn_168 (by decide) ?_
          refine hl_iadd h dX6_burn_173 ?_
          refine hl_ist h hl_wm_7 0 rfl dX6_burn_174 (by rw [e38, hl_su_ne _ _ (by decide)]; exact hl_sqM (hz2 i (by omega)) h2) hl_wm_t9 ?_
          refine hl_nmM (fun g42 e43 => ?_)
          refine hl_iinc h 7 (nI (i + 1)) [(6, .int (nI (i + 1))), (5, .int (z.2 - 0)), (7, .int 0), (0, .ref (b 0)), (1, .int x), (2, .int y), (3, .int q), (4, .int 0)] dX6_burn_175 rfl (hl_inc i) (by decide) rfl ?_
          refine hl_goto h 70 dX6_burn_178 (by decide) ?_
          refine hl_lsub [3, 4, 5, 6, 7, 1, 0] rfl ?_
          exact ih (i + 1) (g42, (z.2 - 0)) (by omega) (by rw [← hv, hl_it_s, show b_X6_burn x y i z = (g42, (z.2 - 0)) from (by subst e43; subst e38; simp only [b_X6_burn, if_neg c21, if_pos c39])]) (by show g42 22 0 = nI M; rw [e43, hl_su_ne _ _ (by decide), e38, hl_su_ne _ _ (by decide)]; exact hz1) (by intro k hk; show vp_in (g42 20 k) 4; rw [e43, hl_su_ne _ _ (by decide), e38, hl_su_ne _ _ (by decide)]; exact hz2 k hk)
  refine hl_lsub [3, 4, 5, 6, 2, 1, 0] rfl ?_
  exact lp70 M 0 (g16, q) (Nat.zero_add M) rfl (by show g16 22 0 = nI M; rw [e17, hl_su_ne _ _ (by decide)]; exact hm) (by intro k hk; show vp_in (g16 20 k) 4; rw [e17, hl_su_ne _ _ (by decide)]; exact hpt k hk)

set_option maxHeartbeats 4000000 in
set_option maxRecDepth 100000 in
theorem c_X6_owed (l : Launch) (D : va_G) (cI cZ cJ : ClassId) (b : Nat → Nat) (t : Nat → Nat → Int32) (x y : Int32) (h1 : vp_in x 4) (h2 : vp_in y 4) : hl_KI D (hl_ty cI cZ cJ) l yX6_owed wsX6_owed ({ frames := 0, cells := 0, slots := 0, locals := 0 } : Room) 0 0 [.ref (b 0), .int x, .int y] (hl_WM b cI cZ t) (fun r w => r = r_X6_owed t x y ∧ w = hl_WM b cI cZ t) := by
  refine hl_KI_of (cc := cX6_owed) (maxL := 4) .int rfl (fun _ => Or.inr rfl) (by decide) rfl (Nat.le_of_ble_eq_true rfl) ?_
  intro p e s m args below meth c A Q h hend
  have hi6 : ∀ z ∈ wsX60, z ∈ wsX6_owed := by decide +kernel
  have hr1 : vp_in (4 * x + y) 16 := hl_sqM h1 h2
  have hr2 : vp_in (4 * y + x) 16 := hl_sqM h2 h1
  refine hl_ls (ls' := [(0, .ref (b 0)), (1, .int x), (2, .int y)]) rfl ?_
  refine hl_aload_n h 0 dX6_owed_0 rfl ?_
  refine hl_get h hi6 hl_wm_0 rfl 9 rfl dX6_owed_1 (by decide) (by decide +kernel) ?_
  refine hl_iconst h 4 dX6_owed_4 (by decide) ?_
  refine hl_iload_n h 1 dX6_owed_5 rfl ?_
  refine hl_imul h dX6_owed_6 ?_
  refine hl_iload_n h 2 dX6_owed_7 rfl ?_
  refine hl_iadd h dX6_owed_8 ?_
  refine hl_ild h hl_wm_7 0 rfl dX6_owed_9 (by with_reducible assumption) ?_
  refine hl_aload_n h 0 dX6_owed_10 rfl ?_
  refine hl_get h hi6 hl_wm_0 rfl 9 rfl dX6_owed_11 (by decide) (by decide +kernel) ?_
  refine hl_iconst h 4 dX6_owed_14 (by decide) ?_
  refine hl_iload_n h 2 dX6_owed_15 rfl ?_
  refine hl_imul h dX6_owed_16 ?_
  refine hl_iload_n h 1 dX6_owed_17 rfl ?_
  refine hl_iadd h dX6_owed_18 ?_
  refine hl_ild h hl_wm_7 0 rfl dX6_owed_19 (by with_reducible assumption) ?_
  refine hl_isub h dX6_owed_20 ?_
  refine hl_istore_n h [(3, .int ((t 9 ((4 * x) + y).toNatClampNeg) - (t 9 ((4 * y) + x).toNatClampNeg))), (0, .ref (b 0)), (1, .int x), (2, .int y)] dX6_owed_21 (by decide) rfl ?_
  refine hl_iload_n h 0 dX6_owed_22 rfl ?_
  refine hl_if_le h 30 dX6_owed_23 (by decide) (fun c1 => ?_) (fun c1 => ?_)
  · refine hl_iconst h 0 dX6_owed_30 (by decide) ?_
    exact hend dX6_owed_31 (fun h9 => nomatch h9) (by
      exact ⟨by simp only [r_X6_owed, if_pos c1], rfl⟩)
  · refine hl_iload_n h 0 dX6_owed_26 rfl ?_
    refine hl_goto h 31 dX6_owed_27 (by decide) ?_
    exact hend dX6_owed_31 (fun h9 => nomatch h9) (by
      exact ⟨by simp only [r_X6_owed, if_neg c1], rfl⟩)

set_option maxHeartbeats 4000000 in
set_option maxRecDepth 100000 in
theorem c_X6_settle (l : Launch) (D : va_G) (cI cZ cJ : ClassId) (b : Nat → Nat) (t : Nat → Nat → Int32) : hl_KI D (hl_ty cI cZ cJ) l yX6_settle wsX6_settle ({ frames := 1, cells := 0, slots := 0, locals := 23 } : Room) 0 0 [.ref (b 0)] (hl_WM b cI cZ t) (fun r w => r = r_X6_settle (hl_su t 23 (fun _ => 0)) ∧ w = hl_WM b cI cZ (f_X6_settle (hl_su t 23 (fun _ => 0)))) := by
  refine hl_KI_of (cc := cX6_settle) (maxL := 4) .int rfl (fun _ => Or.inr rfl) (by decide) rfl (Nat.le_of_ble_eq_true rfl) ?_
  intro p e s m args below meth c A Q h hend
  have hi6 : ∀ z ∈ wsX60, z ∈ wsX6_settle := by decide +kernel
  refine hl_ls (ls' := [(0, .ref (b 0))]) rfl ?_
  refine hl_aload_n h 0 dX6_settle_0 rfl ?_
  refine hl_iconst h 0 dX6_settle_1 (by decide) ?_
  refine hl_put h hi6 tyX6_ok nmX6 hl_wm_0 rfl 23 dX6_settle_2 (by decide) (by decide +kernel) (by decide) rfl rfl (Nat.le_of_ble_eq_true rfl) hl_wm_s23 ?_
  refine hl_nmM (fun g1 e2 => ?_)
  refine hl_iconst h 0 dX6_settle_5 (by decide) ?_
  refine hl_istore_n h [(1, .int 0), (0, .ref (b 0))] dX6_settle_6 (by decide) rfl ?_
  refine hl_iconst h 0 dX6_settle_7 (by decide) ?_
  refine hl_istore_n h [(2, .int 0), (1, .int 0), (0, .ref (b 0))] dX6_settle_8 (by decide) rfl ?_
  have lp9 : ∀ (n : Nat) (k : Nat) (z : (Nat → Nat → Int32) × Int32), (k + n = 16) → (hl_it b_X6_settle k n z = hl_it b_X6_settle 0 16 (g1, 0)) →  hl_X p l e ({ frames := 1, cells := 0, slots := 0, locals := 23 } : Room) s m args below meth c 4 D A 0 0 Q (hl_WM b cI cZ z.1) 9 [(0, .ref (b 0)), (1, .int z.2), (2, .int (nI k))] [] := by
    intro n
    induction n with
    | zero =>
      intro k z hk hv
      refine hl_iload_n h 2 dX6_settle_9 rfl ?_
      refine hl_bipush h 16 dX6_settle_10 (by decide) ?_
      refine hl_icmp_ge_T h 60 dX6_settle_12 (by decide) (by rw [show k = 16 by omega]; decide) ?_
      refine hl_iconst h 0 dX6_settle_60 (by decide) ?_
      refine hl_istore_n h [(2, .int 0), (0, .ref (b 0)), (1, .int z.2)] dX6_settle_61 (by decide) rfl ?_
      have lp62 : ∀ (n2 : Nat) (k2 : Nat) (u : Nat → Nat → Int32), (k2 + n2 = 16) → (hl_it b_X6_wipe k2 n2 u = hl_it b_X6_wipe 0 16 z.1) →  hl_X p l e ({ frames := 1, cells := 0, slots := 0, locals := 23 } : Room) s m args below meth c 4 D A 0 0 Q (hl_WM b cI cZ u) 62 [(0, .ref (b 0)), (1, .int z.2), (2, .int (nI k2))] [] := by
        intro n2
        induction n2 with
        | zero =>
          intro k2 u hk2 hv2
          refine hl_iload_n h 2 dX6_settle_62 rfl ?_
          refine hl_bipush h 16 dX6_settle_63 (by decide) ?_
          refine hl_icmp_ge_T h 81 dX6_settle_65 (by decide) (by rw [show k2 = 16 by omega]; decide) ?_
          refine hl_iload_n h 1 dX6_settle_81 rfl ?_
          exact hend dX6_settle_82 (fun h9 => nomatch h9) (by
            have q8 : z = hl_it b_X6_settle 0 16 ((hl_su t 23 (fun _ => 0)), 0) := by rw [show z = _ from hv]; subst_eqs; rfl
            exact ⟨by rw [q8]; rfl, congrArg (hl_WM b cI cZ) (by rw [show u = _ from hv2, q8]; rfl)⟩)
        | succ n2 ih2 =>
          intro k2 u hk2 hv2
          refine hl_iload_n h 2 dX6_settle_62 rfl ?_
          refine hl_bipush h 16 dX6_settle_63 (by decide) ?_
          refine hl_icmp_ge_F h 81 dX6_settle_65 (by decide) (nI_ge (b := 16) (by omega) (by decide)) ?_
          refine hl_aload_n h 0 dX6_settle_68 rfl ?_
          refine hl_get h hi6 hl_wm_0 rfl 9 rfl dX6_settle_69 (by decide) (by decide +kernel) ?_
          refine hl_iload_n h 2 dX6_settle_72 rfl ?_
          refine hl_iconst h 0 dX6_settle_73 (by decide) ?_
          refine hl_istN h hl_wm_7 0 rfl k2 dX6_settle_74 rfl (by omega) (by decide) hl_wm_t9 ?_
          refine hl_nmM (fun g3 e4 => ?_)
          refine hl_iinc h 2 (nI (k2 + 1)) [(2, .int (nI (k2 + 1))), (0, .ref (b 0)), (1, .int z.2)] dX6_settle_75 rfl (hl_inc k2) (by decide) rfl ?_
          refine hl_goto h 62 dX6_settle_78 (by decide) ?_
          refine hl_lsub [1, 2, 0] rfl ?_
          subst e4
          exact ih2 (k2 + 1) (b_X6_wipe k2 u) (by omega) (by rw [← hv2, hl_it_s])
      refine hl_lsub [1, 2, 0] rfl ?_
      exact lp62 16 0 z.1 rfl rfl
    | succ n ih =>
      intro k z hk hv
      have hva : vp_in (nI (k / 4)) 4 := vp_in_nI (by omega) (by decide)
      have hvb : vp_in (nI (k % 4)) 4 := vp_in_nI (by omega) (by decide)
      refine hl_iload_n h 2 dX6_settle_9 rfl ?_
      refine hl_bipush h 16 dX6_settle_10 (by decide) ?_
      refine hl_icmp_ge_F h 60 dX6_settle_12 (by decide) (nI_ge (b := 16) (by omega) (by decide)) ?_
      refine hl_aload_n h 0 dX6_settle_15 rfl ?_
      refine hl_iload_n h 2 dX6_settle_16 rfl ?_
      refine hl_iconst h 4 dX6_settle_17 (by decide) ?_
      refine hl_idiv h dX6_settle_18 (by decide) ?_
      refine hl_topc (nI (k / 4)) (hl_div4 (by omega)) ?_
      refine hl_iload_n h 2 dX6_settle_19 rfl ?_
      refine hl_iconst h 4 dX6_settle_20 (by decide) ?_
      refine hl_irem h dX6_settle_21 (by decide) ?_
      refine hl_topc (nI (k % 4)) (hl_rem4 (by omega)) ?_
      refine hl_callViD h (st := []) (c_X6_owed l D cI cZ cJ b z.1 (nI (k / 4)) (nI (k % 4)) (by with_reducible assumption) (by with_reducible assumption)) (cwV 2 h.2.2.2.2.1 gX6_settle_X6_owed rfl rfl rfl (by decide +kernel) ⟨Nat.le_of_ble_eq_true rfl, Nat.le_of_ble_eq_true rfl⟩) hl_wm_0 rfl dX6_settle_22 rfl (Nat.le_of_ble_eq_true rfl) ⟨Nat.le_of_ble_eq_true rfl, Nat.le_of_ble_eq_true rfl⟩ rfl ?_
      refine hl_istore_n h [(3, .int (r_X6_owed z.1 (nI (k / 4)) (nI (k % 4)))), (0, .ref (b 0)), (1, .int z.2), (2, .int (nI k))] dX6_settle_25 (by decide) rfl ?_
      refine hl_aload_n h 1 dX6_settle_26 rfl ?_
      refine hl_get h hi6 hl_wm_0 rfl 5 rfl dX6_settle_27 (by decide) (by decide +kernel) ?_
      refine hl_iload_n h 3 dX6_settle_30 rfl ?_
      refine hl_iconst h 4 dX6_settle_31 (by decide) ?_
      refine hl_idiv h dX6_settle_32 (by decide) ?_
      refine hl_topc (nI (k / 4)) (hl_div4 (by omega)) ?_
      refine hl_dup2 h dX6_settle_33 rfl rfl ?_
      refine hl_ildN h hl_wm_6 0 rfl (k / 4) dX6_settle_34 rfl (by omega) (by decide) ?_
      refine hl_iload_n h 0 dX6_settle_35 rfl ?_
      refine hl_isub h dX6_settle_36 ?_
      refine hl_istN h hl_wm_6 0 rfl (k / 4) dX6_settle_37 rfl (by omega) (by decide) hl_wm_t5 ?_
      refine hl_nmM (fun g8 e9 => ?_)
      refine hl_aload_n h 1 dX6_settle_38 rfl ?_
      refine hl_get h hi6 hl_wm_0 rfl 5 rfl dX6_settle_39 (by decide) (by decide +kernel) ?_
      refine hl_iload_n h 3 dX6_settle_42 rfl ?_
      refine hl_iconst h 4 dX6_settle_43 (by decide) ?_
      refine hl_irem h dX6_settle_44 (by decide) ?_
      refine hl_topc (nI (k % 4)) (hl_rem4 (by omega)) ?_
      refine hl_dup2 h dX6_settle_45 rfl rfl ?_
      refine hl_ildN h hl_wm_6 0 rfl (k % 4) dX6_settle_46 rfl (by omega) (by decide) ?_
      refine hl_iload_n h 0 dX6_settle_47 rfl ?_
      refine hl_iadd h dX6_settle_48 ?_
      refine hl_istN h hl_wm_6 0 rfl (k % 4) dX6_settle_49 rfl (by omega) (by decide) hl_wm_t5 ?_
      refine hl_nmM (fun g10 e11 => ?_)
      refine hl_iload_n h 2 dX6_settle_50 rfl ?_
      refine hl_iload_n h 0 dX6_settle_51 rfl ?_
      refine hl_iadd h dX6_settle_52 ?_
      refine hl_istore_n h [(1, .int (z.2 + (r_X6_owed z.1 (nI (k / 4)) (nI (k % 4))))), (3, .int (r_X6_owed z.1 (nI (k / 4)) (nI (k % 4)))), (0, .ref (b 0)), (2, .int (nI k))] dX6_settle_53 (by decide) rfl ?_
      refine hl_iinc h 3 (nI (k + 1)) [(2, .int (nI (k + 1))), (1, .int (z.2 + (r_X6_owed z.1 (nI (k / 4)) (nI (k % 4))))), (3, .int (r_X6_owed z.1 (nI (k / 4)) (nI (k % 4)))), (0, .ref (b 0))] dX6_settle_54 rfl (hl_inc k) (by decide) rfl ?_
      refine hl_goto h 9 dX6_settle_57 (by decide) ?_
      refine hl_lsub [3, 1, 0] rfl ?_
      subst e11; subst e9
      exact ih (k + 1) (b_X6_settle k z) (by omega) (by rw [← hv, hl_it_s])
  refine hl_lsub [2, 1, 0] rfl ?_
  exact lp9 16 0 (g1, 0) rfl rfl

set_option maxHeartbeats 4000000 in
set_option maxRecDepth 100000 in
theorem c_X6_today (l : Launch) (D : va_G) (cI cZ cJ : ClassId) (b : Nat → Nat) (t : Nat → Nat → Int32) : hl_KI D (hl_ty cI cZ cJ) l yX6_today wsX6_today ({ frames := 0, cells := 0, slots := 0, locals := 0 } : Room) 0 0 [.ref (b 0)] (hl_WM b cI cZ t) (fun r w => r = t 8 0 ∧ w = hl_WM b cI cZ (hl_su t 23 (fun _ => 0))) := by
  refine hl_KI_of (cc := cX6_today) (maxL := 1) .int rfl (fun _ => Or.inr rfl) (by decide) rfl (Nat.le_of_ble_eq_true rfl) ?_
  intro p e s m args below meth c A Q h hend
  have hi6 : ∀ z ∈ wsX60, z ∈ wsX6_today := by decide +kernel
  refine hl_ls (ls' := [(0, .ref (b 0))]) rfl ?_
  refine hl_aload_n h 0 dX6_today_0 rfl ?_
  refine hl_iconst h 0 dX6_today_1 (by decide) ?_
  refine hl_put h hi6 tyX6_ok nmX6 hl_wm_0 rfl 23 dX6_today_2 (by decide) (by decide +kernel) (by decide) rfl rfl (Nat.le_of_ble_eq_true rfl) hl_wm_s23 ?_
  refine hl_nmM (fun g1 e2 => ?_)
  refine hl_aload_n h 0 dX6_today_5 rfl ?_
  refine hl_get h hi6 hl_wm_0 rfl 8 rfl dX6_today_6 (by decide) (by decide +kernel) ?_
  exact hend dX6_today_9 (fun h9 => nomatch h9) (by
    subst e2
    exact ⟨by rfl, (congrArg (hl_WM b cI cZ) (by rfl))⟩)

set_option maxHeartbeats 4000000 in
set_option maxRecDepth 100000 in
theorem c_X6_bookings (l : Launch) (D : va_G) (cI cZ cJ : ClassId) (b : Nat → Nat) (t : Nat → Nat → Int32) : hl_KI D (hl_ty cI cZ cJ) l yX6_bookings wsX6_bookings ({ frames := 0, cells := 0, slots := 0, locals := 0 } : Room) 0 0 [.ref (b 0)] (hl_WM b cI cZ t) (fun r w => r = t 18 0 ∧ w = hl_WM b cI cZ (hl_su t 23 (fun _ => 0))) := by
  refine hl_KI_of (cc := cX6_bookings) (maxL := 1) .int rfl (fun _ => Or.inr rfl) (by decide) rfl (Nat.le_of_ble_eq_true rfl) ?_
  intro p e s m args below meth c A Q h hend
  have hi6 : ∀ z ∈ wsX60, z ∈ wsX6_bookings := by decide +kernel
  refine hl_ls (ls' := [(0, .ref (b 0))]) rfl ?_
  refine hl_aload_n h 0 dX6_bookings_0 rfl ?_
  refine hl_iconst h 0 dX6_bookings_1 (by decide) ?_
  refine hl_put h hi6 tyX6_ok nmX6 hl_wm_0 rfl 23 dX6_bookings_2 (by decide) (by decide +kernel) (by decide) rfl rfl (Nat.le_of_ble_eq_true rfl) hl_wm_s23 ?_
  refine hl_nmM (fun g1 e2 => ?_)
  refine hl_aload_n h 0 dX6_bookings_5 rfl ?_
  refine hl_get h hi6 hl_wm_0 rfl 18 rfl dX6_bookings_6 (by decide) (by decide +kernel) ?_
  exact hend dX6_bookings_9 (fun h9 => nomatch h9) (by
    subst e2
    exact ⟨by rfl, (congrArg (hl_WM b cI cZ) (by rfl))⟩)

set_option maxHeartbeats 4000000 in
set_option maxRecDepth 100000 in
theorem c_X6_free_1 (l : Launch) (D : va_G) (cI cZ cJ : ClassId) (b : Nat → Nat) (t : Nat → Nat → Int32) (x y : Int32) (h1 : ¬ vp_in x 4) : hl_KI D (hl_ty cI cZ cJ) l yX6_free wsX6_free ({ frames := 3, cells := 0, slots := 0, locals := 63 } : Room) 0 0 [.ref (b 0), .int x, .int y] (hl_WM b cI cZ t) (fun r w => r = 0 ∧ w = hl_WM b cI cZ (hl_su t 23 (fun _ => 1))) := by
  refine hl_KI_of (cc := cX6_free) (maxL := 4) .int rfl (fun _ => Or.inr rfl) (by decide) rfl (Nat.le_of_ble_eq_true rfl) ?_
  intro p e s m args below meth c A Q h hend
  refine hl_ls (ls' := [(0, .ref (b 0)), (1, .int x), (2, .int y)]) rfl ?_
  refine hl_aload_n h 0 dX6_free_0 rfl ?_
  refine hl_iload_n h 1 dX6_free_1 rfl ?_
  refine hl_iload_n h 2 dX6_free_2 rfl ?_
  refine hl_callSiD h (st := [.ref (b 0)]) (c_X6_isRoom_1 l D cI cZ cJ b t x y h1) (va_cwS 2 h.2.2.2.2.1 gX6_free_X6_isRoom rfl rfl rfl (by decide +kernel) ⟨Nat.le_of_ble_eq_true rfl, Nat.le_of_ble_eq_true rfl⟩) dX6_free_3 rfl (Nat.le_of_ble_eq_true rfl) ⟨Nat.le_of_ble_eq_true rfl, Nat.le_of_ble_eq_true rfl⟩ rfl ?_
  refine hl_if_eq_T h 13 dX6_free_6 (by decide) (by decide) ?_
  refine hl_iconst h 1 dX6_free_13 (by decide) ?_
  refine hl_callViD h (st := []) (c_X6_isFine_n l D cI cZ cJ b t 1 (by decide)) (cwV 1 h.2.2.2.2.1 gX6_free_X6_isFine rfl rfl rfl (by decide +kernel) ⟨Nat.le_of_ble_eq_true rfl, Nat.le_of_ble_eq_true rfl⟩) hl_wm_0 rfl dX6_free_14 rfl (Nat.le_of_ble_eq_true rfl) ⟨Nat.le_of_ble_eq_true rfl, Nat.le_of_ble_eq_true rfl⟩ rfl ?_
  refine hl_nmM (fun g7 e8 => ?_)
  refine hl_if_ne_F h 22 dX6_free_17 (by decide) (by decide) ?_
  refine hl_iconst h 0 dX6_free_20 (by decide) ?_
  exact hend dX6_free_21 (fun h9 => nomatch h9) (by
    subst e8
    exact ⟨by rfl, (congrArg (hl_WM b cI cZ) (by rfl))⟩)

set_option maxHeartbeats 4000000 in
set_option maxRecDepth 100000 in
theorem c_X6_free_2 (l : Launch) (D : va_G) (cI cZ cJ : ClassId) (b : Nat → Nat) (t : Nat → Nat → Int32) (x y : Int32) (h1 : vp_in x 4) (h2 : ¬ vp_in y 2) : hl_KI D (hl_ty cI cZ cJ) l yX6_free wsX6_free ({ frames := 3, cells := 0, slots := 0, locals := 63 } : Room) 0 0 [.ref (b 0), .int x, .int y] (hl_WM b cI cZ t) (fun r w => r = 0 ∧ w = hl_WM b cI cZ (hl_su t 23 (fun _ => 1))) := by
  refine hl_KI_of (cc := cX6_free) (maxL := 4) .int rfl (fun _ => Or.inr rfl) (by decide) rfl (Nat.le_of_ble_eq_true rfl) ?_
  intro p e s m args below meth c A Q h hend
  refine hl_ls (ls' := [(0, .ref (b 0)), (1, .int x), (2, .int y)]) rfl ?_
  refine hl_aload_n h 0 dX6_free_0 rfl ?_
  refine hl_iload_n h 1 dX6_free_1 rfl ?_
  refine hl_iload_n h 2 dX6_free_2 rfl ?_
  refine hl_callSiD h (st := [.ref (b 0)]) (c_X6_isRoom_2 l D cI cZ cJ b t x y h1 h2) (va_cwS 2 h.2.2.2.2.1 gX6_free_X6_isRoom rfl rfl rfl (by decide +kernel) ⟨Nat.le_of_ble_eq_true rfl, Nat.le_of_ble_eq_true rfl⟩) dX6_free_3 rfl (Nat.le_of_ble_eq_true rfl) ⟨Nat.le_of_ble_eq_true rfl, Nat.le_of_ble_eq_true rfl⟩ rfl ?_
  refine hl_if_eq_T h 13 dX6_free_6 (by decide) (by decide) ?_
  refine hl_iconst h 1 dX6_free_13 (by decide) ?_
  refine hl_callViD h (st := []) (c_X6_isFine_n l D cI cZ cJ b t 1 (by decide)) (cwV 1 h.2.2.2.2.1 gX6_free_X6_isFine rfl rfl rfl (by decide +kernel) ⟨Nat.le_of_ble_eq_true rfl, Nat.le_of_ble_eq_true rfl⟩) hl_wm_0 rfl dX6_free_14 rfl (Nat.le_of_ble_eq_true rfl) ⟨Nat.le_of_ble_eq_true rfl, Nat.le_of_ble_eq_true rfl⟩ rfl ?_
  refine hl_nmM (fun g7 e8 => ?_)
  refine hl_if_ne_F h 22 dX6_free_17 (by decide) (by decide) ?_
  refine hl_iconst h 0 dX6_free_20 (by decide) ?_
  exact hend dX6_free_21 (fun h9 => nomatch h9) (by
    subst e8
    exact ⟨by rfl, (congrArg (hl_WM b cI cZ) (by rfl))⟩)

set_option maxHeartbeats 4000000 in
set_option maxRecDepth 100000 in
theorem c_X6_free_0 (l : Launch) (D : va_G) (cI cZ cJ : ClassId) (b : Nat → Nat) (t : Nat → Nat → Int32) (x y : Int32) (h1 : vp_in x 4) (h2 : vp_in y 2) : hl_KI D (hl_ty cI cZ cJ) l yX6_free wsX6_free ({ frames := 3, cells := 0, slots := 0, locals := 63 } : Room) 0 0 [.ref (b 0), .int x, .int y] (hl_WM b cI cZ t) (fun r w => r = (if (t 0 (2 * x + y).toNatClampNeg - t 2 (2 * x + y).toNatClampNeg) ≤ 0 then 0 else (t 0 (2 * x + y).toNatClampNeg - t 2 (2 * x + y).toNatClampNeg)) ∧ w = hl_WM b cI cZ (hl_su t 23 (fun _ => 0))) := by
  refine hl_KI_of (cc := cX6_free) (maxL := 4) .int rfl (fun _ => Or.inr rfl) (by decide) rfl (Nat.le_of_ble_eq_true rfl) ?_
  intro p e s m args below meth c A Q h hend
  have hi6 : ∀ z ∈ wsX60, z ∈ wsX6_free := by decide +kernel
  have hrow : vp_in (2 * x + y) 8 := hl_rowM h1 h2
  refine hl_ls (ls' := [(0, .ref (b 0)), (1, .int x), (2, .int y)]) rfl ?_
  refine hl_aload_n h 0 dX6_free_0 rfl ?_
  refine hl_iload_n h 1 dX6_free_1 rfl ?_
  refine hl_iload_n h 2 dX6_free_2 rfl ?_
  refine hl_callSiD h (st := [.ref (b 0)]) (c_X6_isRoom_T l D cI cZ cJ b t x y h1 h2) (va_cwS 2 h.2.2.2.2.1 gX6_free_X6_isRoom rfl rfl rfl (by decide +kernel) ⟨Nat.le_of_ble_eq_true rfl, Nat.le_of_ble_eq_true rfl⟩) dX6_free_3 rfl (Nat.le_of_ble_eq_true rfl) ⟨Nat.le_of_ble_eq_true rfl, Nat.le_of_ble_eq_true rfl⟩ rfl ?_
  refine hl_if_eq_F h 13 dX6_free_6 (by decide) (by decide) ?_
  refine hl_iconst h 0 dX6_free_9 (by decide) ?_
  refine hl_goto h 14 dX6_free_10 (by decide) ?_
  refine hl_callViD h (st := []) (c_X6_isFine_0 l D cI cZ cJ b t 0 rfl) (cwV 1 h.2.2.2.2.1 gX6_free_X6_isFine rfl rfl rfl (by decide +kernel) ⟨Nat.le_of_ble_eq_true rfl, Nat.le_of_ble_eq_true rfl⟩) hl_wm_0 rfl dX6_free_14 rfl (Nat.le_of_ble_eq_true rfl) ⟨Nat.le_of_ble_eq_true rfl, Nat.le_of_ble_eq_true rfl⟩ rfl ?_
  refine hl_nmM (fun g7 e8 => ?_)
  refine hl_if_ne_T h 22 dX6_free_17 (by decide) (by decide) ?_
  refine hl_aload_n h 0 dX6_free_22 rfl ?_
  refine hl_get h hi6 hl_wm_0 rfl 0 rfl dX6_free_23 (by decide) (by decide +kernel) ?_
  refine hl_iconst h 2 dX6_free_26 (by decide) ?_
  refine hl_iload_n h 1 dX6_free_27 rfl ?_
  refine hl_imul h dX6_free_28 ?_
  refine hl_iload_n h 2 dX6_free_29 rfl ?_
  refine hl_iadd h dX6_free_30 ?_
  refine hl_ild h hl_wm_1 0 rfl dX6_free_31 (by with_reducible assumption) ?_
  refine hl_aload_n h 0 dX6_free_32 rfl ?_
  refine hl_get h hi6 hl_wm_0 rfl 2 rfl dX6_free_33 (by decide) (by decide +kernel) ?_
  refine hl_iconst h 2 dX6_free_36 (by decide) ?_
  refine hl_iload_n h 1 dX6_free_37 rfl ?_
  refine hl_imul h dX6_free_38 ?_
  refine hl_iload_n h 2 dX6_free_39 rfl ?_
  refine hl_iadd h dX6_free_40 ?_
  refine hl_ild h hl_wm_3 0 rfl dX6_free_41 (by with_reducible assumption) ?_
  refine hl_isub h dX6_free_42 ?_
  refine hl_istore_n h [(3, .int ((g7 0 ((2 * x) + y).toNatClampNeg) - (g7 2 ((2 * x) + y).toNatClampNeg))), (0, .ref (b 0)), (1, .int x), (2, .int y)] dX6_free_43 (by decide) rfl ?_
  refine hl_iload_n h 0 dX6_free_44 rfl ?_
  refine hl_if_le h 52 dX6_free_45 (by decide) (fun c9 => ?_) (fun c9 => ?_)
  · refine hl_iconst h 0 dX6_free_52 (by decide) ?_
    exact hend dX6_free_53 (fun h9 => nomatch h9) (by
      subst e8
      exact ⟨(if_pos c9).symm, rfl⟩)
  · refine hl_iload_n h 0 dX6_free_48 rfl ?_
    refine hl_goto h 53 dX6_free_49 (by decide) ?_
    exact hend dX6_free_53 (fun h9 => nomatch h9) (by
      subst e8
      exact ⟨(if_neg c9).symm, rfl⟩)

set_option maxHeartbeats 4000000 in
set_option maxRecDepth 100000 in
theorem c_X6_taken_1 (l : Launch) (D : va_G) (cI cZ cJ : ClassId) (b : Nat → Nat) (t : Nat → Nat → Int32) (x y : Int32) (h1 : ¬ vp_in x 4) : hl_KI D (hl_ty cI cZ cJ) l yX6_taken wsX6_taken ({ frames := 3, cells := 0, slots := 0, locals := 63 } : Room) 0 0 [.ref (b 0), .int x, .int y] (hl_WM b cI cZ t) (fun r w => r = 0 ∧ w = hl_WM b cI cZ (hl_su t 23 (fun _ => 1))) := by
  refine hl_KI_of (cc := cX6_taken) (maxL := 3) .int rfl (fun _ => Or.inr rfl) (by decide) rfl (Nat.le_of_ble_eq_true rfl) ?_
  intro p e s m args below meth c A Q h hend
  refine hl_ls (ls' := [(0, .ref (b 0)), (1, .int x), (2, .int y)]) rfl ?_
  refine hl_aload_n h 0 dX6_taken_0 rfl ?_
  refine hl_iload_n h 1 dX6_taken_1 rfl ?_
  refine hl_iload_n h 2 dX6_taken_2 rfl ?_
  refine hl_callSiD h (st := [.ref (b 0)]) (c_X6_isRoom_1 l D cI cZ cJ b t x y h1) (va_cwS 2 h.2.2.2.2.1 gX6_taken_X6_isRoom rfl rfl rfl (by decide +kernel) ⟨Nat.le_of_ble_eq_true rfl, Nat.le_of_ble_eq_true rfl⟩) dX6_taken_3 rfl (Nat.le_of_ble_eq_true rfl) ⟨Nat.le_of_ble_eq_true rfl, Nat.le_of_ble_eq_true rfl⟩ rfl ?_
  refine hl_if_eq_T h 13 dX6_taken_6 (by decide) (by decide) ?_
  refine hl_iconst h 1 dX6_taken_13 (by decide) ?_
  refine hl_callViD h (st := []) (c_X6_isFine_n l D cI cZ cJ b t 1 (by decide)) (cwV 1 h.2.2.2.2.1 gX6_taken_X6_isFine rfl rfl rfl (by decide +kernel) ⟨Nat.le_of_ble_eq_true rfl, Nat.le_of_ble_eq_true rfl⟩) hl_wm_0 rfl dX6_taken_14 rfl (Nat.le_of_ble_eq_true rfl) ⟨Nat.le_of_ble_eq_true rfl, Nat.le_of_ble_eq_true rfl⟩ rfl ?_
  refine hl_nmM (fun g7 e8 => ?_)
  refine hl_if_eq_T h 33 dX6_taken_17 (by decide) (by decide) ?_
  refine hl_iconst h 0 dX6_taken_33 (by decide) ?_
  exact hend dX6_taken_34 (fun h9 => nomatch h9) (by
    subst e8
    exact ⟨by rfl, (congrArg (hl_WM b cI cZ) (by rfl))⟩)

set_option maxHeartbeats 4000000 in
set_option maxRecDepth 100000 in
theorem c_X6_taken_2 (l : Launch) (D : va_G) (cI cZ cJ : ClassId) (b : Nat → Nat) (t : Nat → Nat → Int32) (x y : Int32) (h1 : vp_in x 4) (h2 : ¬ vp_in y 2) : hl_KI D (hl_ty cI cZ cJ) l yX6_taken wsX6_taken ({ frames := 3, cells := 0, slots := 0, locals := 63 } : Room) 0 0 [.ref (b 0), .int x, .int y] (hl_WM b cI cZ t) (fun r w => r = 0 ∧ w = hl_WM b cI cZ (hl_su t 23 (fun _ => 1))) := by
  refine hl_KI_of (cc := cX6_taken) (maxL := 3) .int rfl (fun _ => Or.inr rfl) (by decide) rfl (Nat.le_of_ble_eq_true rfl) ?_
  intro p e s m args below meth c A Q h hend
  refine hl_ls (ls' := [(0, .ref (b 0)), (1, .int x), (2, .int y)]) rfl ?_
  refine hl_aload_n h 0 dX6_taken_0 rfl ?_
  refine hl_iload_n h 1 dX6_taken_1 rfl ?_
  refine hl_iload_n h 2 dX6_taken_2 rfl ?_
  refine hl_callSiD h (st := [.ref (b 0)]) (c_X6_isRoom_2 l D cI cZ cJ b t x y h1 h2) (va_cwS 2 h.2.2.2.2.1 gX6_taken_X6_isRoom rfl rfl rfl (by decide +kernel) ⟨Nat.le_of_ble_eq_true rfl, Nat.le_of_ble_eq_true rfl⟩) dX6_taken_3 rfl (Nat.le_of_ble_eq_true rfl) ⟨Nat.le_of_ble_eq_true rfl, Nat.le_of_ble_eq_true rfl⟩ rfl ?_
  refine hl_if_eq_T h 13 dX6_taken_6 (by decide) (by decide) ?_
  refine hl_iconst h 1 dX6_taken_13 (by decide) ?_
  refine hl_callViD h (st := []) (c_X6_isFine_n l D cI cZ cJ b t 1 (by decide)) (cwV 1 h.2.2.2.2.1 gX6_taken_X6_isFine rfl rfl rfl (by decide +kernel) ⟨Nat.le_of_ble_eq_true rfl, Nat.le_of_ble_eq_true rfl⟩) hl_wm_0 rfl dX6_taken_14 rfl (Nat.le_of_ble_eq_true rfl) ⟨Nat.le_of_ble_eq_true rfl, Nat.le_of_ble_eq_true rfl⟩ rfl ?_
  refine hl_nmM (fun g7 e8 => ?_)
  refine hl_if_eq_T h 33 dX6_taken_17 (by decide) (by decide) ?_
  refine hl_iconst h 0 dX6_taken_33 (by decide) ?_
  exact hend dX6_taken_34 (fun h9 => nomatch h9) (by
    subst e8
    exact ⟨by rfl, (congrArg (hl_WM b cI cZ) (by rfl))⟩)

set_option maxHeartbeats 4000000 in
set_option maxRecDepth 100000 in
theorem c_X6_taken_0 (l : Launch) (D : va_G) (cI cZ cJ : ClassId) (b : Nat → Nat) (t : Nat → Nat → Int32) (x y : Int32) (h1 : vp_in x 4) (h2 : vp_in y 2) : hl_KI D (hl_ty cI cZ cJ) l yX6_taken wsX6_taken ({ frames := 3, cells := 0, slots := 0, locals := 63 } : Room) 0 0 [.ref (b 0), .int x, .int y] (hl_WM b cI cZ t) (fun r w => r = t 2 (2 * x + y).toNatClampNeg ∧ w = hl_WM b cI cZ (hl_su t 23 (fun _ => 0))) := by
  refine hl_KI_of (cc := cX6_taken) (maxL := 3) .int rfl (fun _ => Or.inr rfl) (by decide) rfl (Nat.le_of_ble_eq_true rfl) ?_
  intro p e s m args below meth c A Q h hend
  have hi6 : ∀ z ∈ wsX60, z ∈ wsX6_taken := by decide +kernel
  have hrow : vp_in (2 * x + y) 8 := hl_rowM h1 h2
  refine hl_ls (ls' := [(0, .ref (b 0)), (1, .int x), (2, .int y)]) rfl ?_
  refine hl_aload_n h 0 dX6_taken_0 rfl ?_
  refine hl_iload_n h 1 dX6_taken_1 rfl ?_
  refine hl_iload_n h 2 dX6_taken_2 rfl ?_
  refine hl_callSiD h (st := [.ref (b 0)]) (c_X6_isRoom_T l D cI cZ cJ b t x y h1 h2) (va_cwS 2 h.2.2.2.2.1 gX6_taken_X6_isRoom rfl rfl rfl (by decide +kernel) ⟨Nat.le_of_ble_eq_true rfl, Nat.le_of_ble_eq_true rfl⟩) dX6_taken_3 rfl (Nat.le_of_ble_eq_true rfl) ⟨Nat.le_of_ble_eq_true rfl, Nat.le_of_ble_eq_true rfl⟩ rfl ?_
  refine hl_if_eq_F h 13 dX6_taken_6 (by decide) (by decide) ?_
  refine hl_iconst h 0 dX6_taken_9 (by decide) ?_
  refine hl_goto h 14 dX6_taken_10 (by decide) ?_
  refine hl_callViD h (st := []) (c_X6_isFine_0 l D cI cZ cJ b t 0 rfl) (cwV 1 h.2.2.2.2.1 gX6_taken_X6_isFine rfl rfl rfl (by decide +kernel) ⟨Nat.le_of_ble_eq_true rfl, Nat.le_of_ble_eq_true rfl⟩) hl_wm_0 rfl dX6_taken_14 rfl (Nat.le_of_ble_eq_true rfl) ⟨Nat.le_of_ble_eq_true rfl, Nat.le_of_ble_eq_true rfl⟩ rfl ?_
  refine hl_nmM (fun g7 e8 => ?_)
  refine hl_if_eq_F h 33 dX6_taken_17 (by decide) (by decide) ?_
  refine hl_aload_n h 0 dX6_taken_20 rfl ?_
  refine hl_get h hi6 hl_wm_0 rfl 2 rfl dX6_taken_21 (by decide) (by decide +kernel) ?_
  refine hl_iconst h 2 dX6_taken_24 (by decide) ?_
  refine hl_iload_n h 1 dX6_taken_25 rfl ?_
  refine hl_imul h dX6_taken_26 ?_
  refine hl_iload_n h 2 dX6_taken_27 rfl ?_
  refine hl_iadd h dX6_taken_28 ?_
  refine hl_ild h hl_wm_3 0 rfl dX6_taken_29 (by with_reducible assumption) ?_
  refine hl_goto h 34 dX6_taken_30 (by decide) ?_
  exact hend dX6_taken_34 (fun h9 => nomatch h9) (by
    subst e8
    exact ⟨by rfl, (congrArg (hl_WM b cI cZ) (by rfl))⟩)

set_option maxHeartbeats 4000000 in
set_option maxRecDepth 100000 in
theorem c_X6_takenByBookings_1 (l : Launch) (D : va_G) (cI cZ cJ : ClassId) (b : Nat → Nat) (t : Nat → Nat → Int32) (x y : Int32) (h1 : ¬ vp_in x 4) : hl_KI D (hl_ty cI cZ cJ) l yX6_takenByBookings wsX6_takenByBookings ({ frames := 3, cells := 0, slots := 0, locals := 63 } : Room) 0 0 [.ref (b 0), .int x, .int y] (hl_WM b cI cZ t) (fun r w => r = 0 ∧ w = hl_WM b cI cZ (hl_su t 23 (fun _ => 1))) := by
  refine hl_KI_of (cc := cX6_takenByBookings) (maxL := 5) .int rfl (fun _ => Or.inr rfl) (by decide) rfl (Nat.le_of_ble_eq_true rfl) ?_
  intro p e s m args below meth c A Q h hend
  refine hl_ls (ls' := [(0, .ref (b 0)), (1, .int x), (2, .int y)]) rfl ?_
  refine hl_iconst h 0 dX6_takenByBookings_0 (by decide) ?_
  refine hl_istore_n h [(3, .int 0), (0, .ref (b 0)), (1, .int x), (2, .int y)] dX6_takenByBookings_1 (by decide) rfl ?_
  refine hl_aload_n h 1 dX6_takenByBookings_2 rfl ?_
  refine hl_iload_n h 2 dX6_takenByBookings_3 rfl ?_
  refine hl_iload_n h 3 dX6_takenByBookings_4 rfl ?_
  refine hl_callSiD h (st := [.ref (b 0)]) (c_X6_isRoom_1 l D cI cZ cJ b t x y h1) (va_cwS 2 h.2.2.2.2.1 gX6_takenByBookings_X6_isRoom rfl rfl rfl (by decide +kernel) ⟨Nat.le_of_ble_eq_true rfl, Nat.le_of_ble_eq_true rfl⟩) dX6_takenByBookings_5 rfl (Nat.le_of_ble_eq_true rfl) ⟨Nat.le_of_ble_eq_true rfl, Nat.le_of_ble_eq_true rfl⟩ rfl ?_
  refine hl_if_eq_T h 15 dX6_takenByBookings_8 (by decide) (by decide) ?_
  refine hl_iconst h 1 dX6_takenByBookings_15 (by decide) ?_
  refine hl_callViD h (st := []) (c_X6_isFine_n l D cI cZ cJ b t 1 (by decide)) (cwV 1 h.2.2.2.2.1 gX6_takenByBookings_X6_isFine rfl rfl rfl (by decide +kernel) ⟨Nat.le_of_ble_eq_true rfl, Nat.le_of_ble_eq_true rfl⟩) hl_wm_0 rfl dX6_takenByBookings_16 rfl (Nat.le_of_ble_eq_true rfl) ⟨Nat.le_of_ble_eq_true rfl, Nat.le_of_ble_eq_true rfl⟩ rfl ?_
  refine hl_nmM (fun g7 e8 => ?_)
  refine hl_if_eq_T h 84 dX6_takenByBookings_19 (by decide) (by decide) ?_
  refine hl_iload_n h 0 dX6_takenByBookings_84 rfl ?_
  exact hend dX6_takenByBookings_85 (fun h9 => nomatch h9) (by
    subst e8
    exact ⟨by rfl, (congrArg (hl_WM b cI cZ) (by rfl))⟩)

set_option maxHeartbeats 4000000 in
set_option maxRecDepth 100000 in
theorem c_X6_takenByBookings_2 (l : Launch) (D : va_G) (cI cZ cJ : ClassId) (b : Nat → Nat) (t : Nat → Nat → Int32) (x y : Int32) (h1 : vp_in x 4) (h2 : ¬ vp_in y 2) : hl_KI D (hl_ty cI cZ cJ) l yX6_takenByBookings wsX6_takenByBookings ({ frames := 3, cells := 0, slots := 0, locals := 63 } : Room) 0 0 [.ref (b 0), .int x, .int y] (hl_WM b cI cZ t) (fun r w => r = 0 ∧ w = hl_WM b cI cZ (hl_su t 23 (fun _ => 1))) := by
  refine hl_KI_of (cc := cX6_takenByBookings) (maxL := 5) .int rfl (fun _ => Or.inr rfl) (by decide) rfl (Nat.le_of_ble_eq_true rfl) ?_
  intro p e s m args below meth c A Q h hend
  refine hl_ls (ls' := [(0, .ref (b 0)), (1, .int x), (2, .int y)]) rfl ?_
  refine hl_iconst h 0 dX6_takenByBookings_0 (by decide) ?_
  refine hl_istore_n h [(3, .int 0), (0, .ref (b 0)), (1, .int x), (2, .int y)] dX6_takenByBookings_1 (by decide) rfl ?_
  refine hl_aload_n h 1 dX6_takenByBookings_2 rfl ?_
  refine hl_iload_n h 2 dX6_takenByBookings_3 rfl ?_
  refine hl_iload_n h 3 dX6_takenByBookings_4 rfl ?_
  refine hl_callSiD h (st := [.ref (b 0)]) (c_X6_isRoom_2 l D cI cZ cJ b t x y h1 h2) (va_cwS 2 h.2.2.2.2.1 gX6_takenByBookings_X6_isRoom rfl rfl rfl (by decide +kernel) ⟨Nat.le_of_ble_eq_true rfl, Nat.le_of_ble_eq_true rfl⟩) dX6_takenByBookings_5 rfl (Nat.le_of_ble_eq_true rfl) ⟨Nat.le_of_ble_eq_true rfl, Nat.le_of_ble_eq_true rfl⟩ rfl ?_
  refine hl_if_eq_T h 15 dX6_takenByBookings_8 (by decide) (by decide) ?_
  refine hl_iconst h 1 dX6_takenByBookings_15 (by decide) ?_
  refine hl_callViD h (st := []) (c_X6_isFine_n l D cI cZ cJ b t 1 (by decide)) (cwV 1 h.2.2.2.2.1 gX6_takenByBookings_X6_isFine rfl rfl rfl (by decide +kernel) ⟨Nat.le_of_ble_eq_true rfl, Nat.le_of_ble_eq_true rfl⟩) hl_wm_0 rfl dX6_takenByBookings_16 rfl (Nat.le_of_ble_eq_true rfl) ⟨Nat.le_of_ble_eq_true rfl, Nat.le_of_ble_eq_true rfl⟩ rfl ?_
  refine hl_nmM (fun g7 e8 => ?_)
  refine hl_if_eq_T h 84 dX6_takenByBookings_19 (by decide) (by decide) ?_
  refine hl_iload_n h 0 dX6_takenByBookings_84 rfl ?_
  exact hend dX6_takenByBookings_85 (fun h9 => nomatch h9) (by
    subst e8
    exact ⟨by rfl, (congrArg (hl_WM b cI cZ) (by rfl))⟩)

set_option maxHeartbeats 4000000 in
set_option maxRecDepth 100000 in
theorem c_X6_takenByBookings_0 (l : Launch) (D : va_G) (cI cZ cJ : ClassId) (b : Nat → Nat) (t : Nat → Nat → Int32) (x y : Int32) (N M T : Nat) (ho : hl_okM t N M T) (h1 : vp_in x 4) (h2 : vp_in y 2) : hl_KI D (hl_ty cI cZ cJ) l yX6_takenByBookings wsX6_takenByBookings ({ frames := 3, cells := 0, slots := 0, locals := 63 } : Room) 0 0 [.ref (b 0), .int x, .int y] (hl_WM b cI cZ t) (fun r w => r = hl_it (b_X6_taken (hl_su t 23 (fun _ => 0)) x y) 0 N 0 ∧ w = hl_WM b cI cZ (hl_su t 23 (fun _ => 0))) := by
  refine hl_KI_of (cc := cX6_takenByBookings) (maxL := 5) .int rfl (fun _ => Or.inr rfl) (by decide) rfl (Nat.le_of_ble_eq_true rfl) ?_
  intro p e s m args below meth c A Q h hend
  have hi6 : ∀ z ∈ wsX60, z ∈ wsX6_takenByBookings := by decide +kernel
  obtain ⟨hN, hc, hM, hm, hT, ht8, hbk, hpt, hbr⟩ := id ho
  refine hl_ls (ls' := [(0, .ref (b 0)), (1, .int x), (2, .int y)]) rfl ?_
  refine hl_iconst h 0 dX6_takenByBookings_0 (by decide) ?_
  refine hl_istore_n h [(3, .int 0), (0, .ref (b 0)), (1, .int x), (2, .int y)] dX6_takenByBookings_1 (by decide) rfl ?_
  refine hl_aload_n h 1 dX6_takenByBookings_2 rfl ?_
  refine hl_iload_n h 2 dX6_takenByBookings_3 rfl ?_
  refine hl_iload_n h 3 dX6_takenByBookings_4 rfl ?_
  refine hl_callSiD h (st := [.ref (b 0)]) (c_X6_isRoom_T l D cI cZ cJ b t x y h1 h2) (va_cwS 2 h.2.2.2.2.1 gX6_takenByBookings_X6_isRoom rfl rfl rfl (by decide +kernel) ⟨Nat.le_of_ble_eq_true rfl, Nat.le_of_ble_eq_true rfl⟩) dX6_takenByBookings_5 rfl (Nat.le_of_ble_eq_true rfl) ⟨Nat.le_of_ble_eq_true rfl, Nat.le_of_ble_eq_true rfl⟩ rfl ?_
  refine hl_if_eq_F h 15 dX6_takenByBookings_8 (by decide) (by decide) ?_
  refine hl_iconst h 0 dX6_takenByBookings_11 (by decide) ?_
  refine hl_goto h 16 dX6_takenByBookings_12 (by decide) ?_
  refine hl_callViD h (st := []) (c_X6_isFine_0 l D cI cZ cJ b t 0 rfl) (cwV 1 h.2.2.2.2.1 gX6_takenByBookings_X6_isFine rfl rfl rfl (by decide +kernel) ⟨Nat.le_of_ble_eq_true rfl, Nat.le_of_ble_eq_true rfl⟩) hl_wm_0 rfl dX6_takenByBookings_16 rfl (Nat.le_of_ble_eq_true rfl) ⟨Nat.le_of_ble_eq_true rfl, Nat.le_of_ble_eq_true rfl⟩ rfl ?_
  refine hl_nmM (fun g7 e8 => ?_)
  refine hl_if_eq_F h 84 dX6_takenByBookings_19 (by decide) (by decide) ?_
  have q18 : g7 18 0 = nI N := by rw [e8, hl_su_ne _ _ (by decide)]; exact hc
  refine hl_iconst h 0 dX6_takenByBookings_22 (by decide) ?_
  refine hl_istore h [(4, .int 0), (3, .int 0), (0, .ref (b 0)), (1, .int x), (2, .int y)] dX6_takenByBookings_23 (by decide) rfl ?_
  have lp25 : ∀ (n : Nat) (i : Nat) (u : Int32), (i + n = N) → (hl_it (b_X6_taken g7 x y) i n u = hl_it (b_X6_taken g7 x y) 0 N 0) →  hl_X p l e ({ frames := 3, cells := 0, slots := 0, locals := 63 } : Room) s m args below meth c 5 D A 0 0 Q (hl_WM b cI cZ g7) 25 [(0, .ref (b 0)), (1, .int x), (2, .int y), (3, .int u), (4, .int (nI i))] [] := by
    intro n
    induction n with
    | zero =>
      intro i u hi hv
      refine hl_iload h 4 dX6_takenByBookings_25 rfl ?_
      refine hl_aload_n h 0 dX6_takenByBookings_27 rfl ?_
      refine hl_get h hi6 hl_wm_0 rfl 18 rfl dX6_takenByBookings_28 (by decide) (by decide +kernel) ?_
      refine hl_icmp_ge_T h 84 dX6_takenByBookings_31 (by decide) (by rw [q18]; exact nI_le (by omega) (by omega)) ?_
      refine hl_iload_n h 3 dX6_takenByBookings_84 rfl ?_
      exact hend dX6_takenByBookings_85 (fun h9 => nomatch h9) (by
        subst e8
        exact ⟨hv, rfl⟩)
    | succ n ih =>
      intro i u hi hv
      refine hl_iload h 4 dX6_takenByBookings_25 rfl ?_
      refine hl_aload_n h 0 dX6_takenByBookings_27 rfl ?_
      refine hl_get h hi6 hl_wm_0 rfl 18 rfl dX6_takenByBookings_28 (by decide) (by decide +kernel) ?_
      refine hl_icmp_ge_F h 84 dX6_takenByBookings_31 (by decide) (by rw [q18]; exact nI_ge (by omega) (by omega)) ?_
      refine hl_iload_n h 3 dX6_takenByBookings_34 rfl ?_
      refine hl_aload_n h 0 dX6_takenByBookings_35 rfl ?_
      refine hl_get h hi6 hl_wm_0 rfl 15 rfl dX6_takenByBookings_36 (by decide) (by decide +kernel) ?_
      refine hl_iload h 4 dX6_takenByBookings_39 rfl ?_
      refine hl_ildN h hl_wm_13 0 rfl i dX6_takenByBookings_41 rfl (by omega) (by decide) ?_
      refine hl_aload_n h 0 dX6_takenByBookings_42 rfl ?_
      refine hl_get h hi6 hl_wm_0 rfl 8 rfl dX6_takenByBookings_43 (by decide) (by decide +kernel) ?_
      refine hl_icmp_ne h 75 dX6_takenByBookings_46 (by decide) (fun c9 => ?_) (fun c9 => ?_)
      · refine hl_iconst h 0 dX6_takenByBookings_75 (by decide) ?_
        refine hl_iadd h dX6_takenByBookings_76 ?_
        refine hl_istore_n h [(3, .int (u + 0)), (0, .ref (b 0)), (1, .int x), (2, .int y), (4, .int (nI i))] dX6_takenByBookings_77 (by decide) rfl ?_
        refine hl_iinc h 4 (nI (i + 1)) [(4, .int (nI (i + 1))), (3, .int (u + 0)), (0, .ref (b 0)), (1, .int x), (2, .int y)] dX6_takenByBookings_78 rfl (hl_inc i) (by decide) rfl ?_
        refine hl_goto h 25 dX6_takenByBookings_81 (by decide) ?_
        refine hl_lsub [2, 3, 4, 1, 0] rfl ?_
        exact ih (i + 1) (u + 0) (by omega) (by rw [← hv, hl_it_s] <;> (congr 1 <;> (first | (simp [b_X6_taken, c9]; done) | (symm; simp [b_X6_taken, c9]))))
      · refine hl_aload_n h 0 dX6_takenByBookings_49 rfl ?_
        refine hl_get h hi6 hl_wm_0 rfl 17 rfl dX6_takenByBookings_50 (by decide) (by decide +kernel) ?_
        refine hl_iload h 4 dX6_takenByBookings_53 rfl ?_
        refine hl_ildN h hl_wm_15 0 rfl i dX6_takenByBookings_55 rfl (by omega) (by decide) ?_
        refine hl_iload_n h 1 dX6_takenByBookings_56 rfl ?_
        refine hl_icmp_ne h 75 dX6_takenByBookings_57 (by decide) (fun c10 => ?_) (fun c10 => ?_)
        · refine hl_iconst h 0 dX6_takenByBookings_75 (by decide) ?_
          refine hl_iadd h dX6_takenByBookings_76 ?_
          refine hl_istore_n h [(3, .int (u + 0)), (0, .ref (b 0)), (1, .int x), (2, .int y), (4, .int (nI i))] dX6_takenByBookings_77 (by decide) rfl ?_
          refine hl_iinc h 4 (nI (i + 1)) [(4, .int (nI (i + 1))), (3, .int (u + 0)), (0, .ref (b 0)), (1, .int x), (2, .int y)] dX6_takenByBookings_78 rfl (hl_inc i) (by decide) rfl ?_
          refine hl_goto h 25 dX6_takenByBookings_81 (by decide) ?_
          refine hl_lsub [2, 3, 4, 1, 0] rfl ?_
          exact ih (i + 1) (u + 0) (by omega) (by rw [← hv, hl_it_s] <;> (congr 1 <;> (first | (simp [b_X6_taken, c9, c10]; done) | (symm; simp [b_X6_taken, c9, c10]))))
        · refine hl_aload_n h 0 dX6_takenByBookings_60 rfl ?_
          refine hl_get h hi6 hl_wm_0 rfl 14 rfl dX6_takenByBookings_61 (by decide) (by decide +kernel) ?_
          refine hl_iload h 4 dX6_takenByBookings_64 rfl ?_
          refine hl_ildN h hl_wm_12 0 rfl i dX6_takenByBookings_66 rfl (by omega) (by decide) ?_
          refine hl_iload_n h 2 dX6_takenByBookings_67 rfl ?_
          refine hl_icmp_ne h 75 dX6_takenByBookings_68 (by decide) (fun c11 => ?_) (fun c11 => ?_)
          · refine hl_iconst h 0 dX6_takenByBookings_75 (by decide) ?_
            refine hl_iadd h dX6_takenByBookings_76 ?_
            refine hl_istore_n h [(3, .int (u + 0)), (0, .ref (b 0)), (1, .int x), (2, .int y), (4, .int (nI i))] dX6_takenByBookings_77 (by decide) rfl ?_
            refine hl_iinc h 4 (nI (i + 1)) [(4, .int (nI (i + 1))), (3, .int (u + 0)), (0, .ref (b 0)), (1, .int x), (2, .int y)] dX6_takenByBookings_78 rfl (hl_inc i) (by decide) rfl ?_
            refine hl_goto h 25 dX6_takenByBookings_81 (by decide) ?_
            refine hl_lsub [2, 3, 4, 1, 0] rfl ?_
            exact ih (i + 1) (u + 0) (by omega) (by rw [← hv, hl_it_s] <;> (congr 1 <;> (first | (simp [b_X6_taken, c9, c10, c11]; done) | (symm; simp [b_X6_taken, c9, c10, c11]))))
          · refine hl_iconst h 1 dX6_takenByBookings_71 (by decide) ?_
            refine hl_goto h 76 dX6_takenByBookings_72 (by decide) ?_
            refine hl_iadd h dX6_takenByBookings_76 ?_
            refine hl_istore_n h [(3, .int (u + 1)), (0, .ref (b 0)), (1, .int x), (2, .int y), (4, .int (nI i))] dX6_takenByBookings_77 (by decide) rfl ?_
            refine hl_iinc h 4 (nI (i + 1)) [(4, .int (nI (i + 1))), (3, .int (u + 1)), (0, .ref (b 0)), (1, .int x), (2, .int y)] dX6_takenByBookings_78 rfl (hl_inc i) (by decide) rfl ?_
            refine hl_goto h 25 dX6_takenByBookings_81 (by decide) ?_
            refine hl_lsub [2, 3, 4, 1, 0] rfl ?_
            exact ih (i + 1) (u + 1) (by omega) (by rw [← hv, hl_it_s] <;> (congr 1 <;> (first | (simp [b_X6_taken, c9, c10, c11]; done) | (symm; simp [b_X6_taken, c9, c10, c11]))))
  refine hl_lsub [2, 3, 4, 1, 0] rfl ?_
  exact lp25 N 0 0 (Nat.zero_add N) rfl

set_option maxHeartbeats 4000000 in
set_option maxRecDepth 100000 in
theorem c_X6_extra_1 (l : Launch) (D : va_G) (cI cZ cJ : ClassId) (b : Nat → Nat) (t : Nat → Nat → Int32) (x : Int32) (h1 : ¬ vp_in x 4) : hl_KI D (hl_ty cI cZ cJ) l yX6_extra wsX6_extra ({ frames := 2, cells := 0, slots := 0, locals := 42 } : Room) 0 0 [.ref (b 0), .int x] (hl_WM b cI cZ t) (fun r w => r = 0 ∧ w = hl_WM b cI cZ (hl_su t 23 (fun _ => 1))) := by
  refine hl_KI_of (cc := cX6_extra) (maxL := 2) .int rfl (fun _ => Or.inr rfl) (by decide) rfl (Nat.le_of_ble_eq_true rfl) ?_
  intro p e s m args below meth c A Q h hend
  refine hl_ls (ls' := [(0, .ref (b 0)), (1, .int x)]) rfl ?_
  refine hl_aload_n h 0 dX6_extra_0 rfl ?_
  refine hl_iload_n h 1 dX6_extra_1 rfl ?_
  refine hl_callSiD h (st := [.ref (b 0)]) (c_X6_isInn_F l D cI cZ cJ b t x h1) (va_cwS 1 h.2.2.2.2.1 gX6_extra_X6_isInn rfl rfl rfl (by decide +kernel) ⟨Nat.le_of_ble_eq_true rfl, Nat.le_of_ble_eq_true rfl⟩) dX6_extra_2 rfl (Nat.le_of_ble_eq_true rfl) ⟨Nat.le_of_ble_eq_true rfl, Nat.le_of_ble_eq_true rfl⟩ rfl ?_
  refine hl_if_eq_T h 12 dX6_extra_5 (by decide) (by decide) ?_
  refine hl_iconst h 1 dX6_extra_12 (by decide) ?_
  refine hl_callViD h (st := []) (c_X6_isFine_n l D cI cZ cJ b t 1 (by decide)) (cwV 1 h.2.2.2.2.1 gX6_extra_X6_isFine rfl rfl rfl (by decide +kernel) ⟨Nat.le_of_ble_eq_true rfl, Nat.le_of_ble_eq_true rfl⟩) hl_wm_0 rfl dX6_extra_13 rfl (Nat.le_of_ble_eq_true rfl) ⟨Nat.le_of_ble_eq_true rfl, Nat.le_of_ble_eq_true rfl⟩ rfl ?_
  refine hl_nmM (fun g7 e8 => ?_)
  refine hl_if_eq_T h 27 dX6_extra_16 (by decide) (by decide) ?_
  refine hl_iconst h 0 dX6_extra_27 (by decide) ?_
  exact hend dX6_extra_28 (fun h9 => nomatch h9) (by
    subst e8
    exact ⟨by rfl, (congrArg (hl_WM b cI cZ) (by rfl))⟩)

set_option maxHeartbeats 4000000 in
set_option maxRecDepth 100000 in
theorem c_X6_extra_0 (l : Launch) (D : va_G) (cI cZ cJ : ClassId) (b : Nat → Nat) (t : Nat → Nat → Int32) (x : Int32) (N M T : Nat) (ho : hl_okM t N M T) (h1 : vp_in x 4) : hl_KI D (hl_ty cI cZ cJ) l yX6_extra wsX6_extra ({ frames := 2, cells := 0, slots := 0, locals := 42 } : Room) 0 0 [.ref (b 0), .int x] (hl_WM b cI cZ t) (fun r w => r = r_X6_extraOf (hl_su t 23 (fun _ => 0)) T x ∧ w = hl_WM b cI cZ (hl_su t 23 (fun _ => 0))) := by
  refine hl_KI_of (cc := cX6_extra) (maxL := 2) .int rfl (fun _ => Or.inr rfl) (by decide) rfl (Nat.le_of_ble_eq_true rfl) ?_
  intro p e s m args below meth c A Q h hend
  refine hl_ls (ls' := [(0, .ref (b 0)), (1, .int x)]) rfl ?_
  refine hl_aload_n h 0 dX6_extra_0 rfl ?_
  refine hl_iload_n h 1 dX6_extra_1 rfl ?_
  refine hl_callSiD h (st := [.ref (b 0)]) (c_X6_isInn_T l D cI cZ cJ b t x h1) (va_cwS 1 h.2.2.2.2.1 gX6_extra_X6_isInn rfl rfl rfl (by decide +kernel) ⟨Nat.le_of_ble_eq_true rfl, Nat.le_of_ble_eq_true rfl⟩) dX6_extra_2 rfl (Nat.le_of_ble_eq_true rfl) ⟨Nat.le_of_ble_eq_true rfl, Nat.le_of_ble_eq_true rfl⟩ rfl ?_
  refine hl_if_eq_F h 12 dX6_extra_5 (by decide) (by decide) ?_
  refine hl_iconst h 0 dX6_extra_8 (by decide) ?_
  refine hl_goto h 13 dX6_extra_9 (by decide) ?_
  refine hl_callViD h (st := []) (c_X6_isFine_0 l D cI cZ cJ b t 0 rfl) (cwV 1 h.2.2.2.2.1 gX6_extra_X6_isFine rfl rfl rfl (by decide +kernel) ⟨Nat.le_of_ble_eq_true rfl, Nat.le_of_ble_eq_true rfl⟩) hl_wm_0 rfl dX6_extra_13 rfl (Nat.le_of_ble_eq_true rfl) ⟨Nat.le_of_ble_eq_true rfl, Nat.le_of_ble_eq_true rfl⟩ rfl ?_
  refine hl_nmM (fun g7 e8 => ?_)
  refine hl_if_eq_F h 27 dX6_extra_16 (by decide) (by decide) ?_
  have ho1 : hl_okM g7 N M T := by subst e8; exact ho
  refine hl_aload_n h 0 dX6_extra_19 rfl ?_
  refine hl_iload_n h 1 dX6_extra_20 rfl ?_
  refine hl_callViD h (st := []) (c_X6_extraOf l D cI cZ cJ b g7 x N M T ho1 h1) (cwV 1 h.2.2.2.2.1 gX6_extra_X6_extraOf rfl rfl rfl (by decide +kernel) ⟨Nat.le_of_ble_eq_true rfl, Nat.le_of_ble_eq_true rfl⟩) hl_wm_0 rfl dX6_extra_21 rfl (Nat.le_of_ble_eq_true rfl) ⟨Nat.le_of_ble_eq_true rfl, Nat.le_of_ble_eq_true rfl⟩ rfl ?_
  refine hl_goto h 28 dX6_extra_24 (by decide) ?_
  exact hend dX6_extra_28 (fun h9 => nomatch h9) (by
    subst e8
    exact ⟨by rfl, (congrArg (hl_WM b cI cZ) (by rfl))⟩)

set_option maxHeartbeats 4000000 in
set_option maxRecDepth 100000 in
theorem c_X6_clean_1 (l : Launch) (D : va_G) (cI cZ cJ : ClassId) (b : Nat → Nat) (t : Nat → Nat → Int32) (x : Int32) (h1 : ¬ vp_in x 4) : hl_KI D (hl_ty cI cZ cJ) l yX6_clean wsX6_clean ({ frames := 2, cells := 0, slots := 0, locals := 42 } : Room) 0 0 [.ref (b 0), .int x] (hl_WM b cI cZ t) (fun r w => r = 0 ∧ w = hl_WM b cI cZ (hl_su t 23 (fun _ => 1))) := by
  refine hl_KI_of (cc := cX6_clean) (maxL := 2) .int rfl (fun _ => Or.inr rfl) (by decide) rfl (Nat.le_of_ble_eq_true rfl) ?_
  intro p e s m args below meth c A Q h hend
  refine hl_ls (ls' := [(0, .ref (b 0)), (1, .int x)]) rfl ?_
  refine hl_aload_n h 0 dX6_clean_0 rfl ?_
  refine hl_iload_n h 1 dX6_clean_1 rfl ?_
  refine hl_callSiD h (st := [.ref (b 0)]) (c_X6_isInn_F l D cI cZ cJ b t x h1) (va_cwS 1 h.2.2.2.2.1 gX6_clean_X6_isInn rfl rfl rfl (by decide +kernel) ⟨Nat.le_of_ble_eq_true rfl, Nat.le_of_ble_eq_true rfl⟩) dX6_clean_2 rfl (Nat.le_of_ble_eq_true rfl) ⟨Nat.le_of_ble_eq_true rfl, Nat.le_of_ble_eq_true rfl⟩ rfl ?_
  refine hl_if_eq_T h 12 dX6_clean_5 (by decide) (by decide) ?_
  refine hl_iconst h 1 dX6_clean_12 (by decide) ?_
  refine hl_callViD h (st := []) (c_X6_isFine_n l D cI cZ cJ b t 1 (by decide)) (cwV 1 h.2.2.2.2.1 gX6_clean_X6_isFine rfl rfl rfl (by decide +kernel) ⟨Nat.le_of_ble_eq_true rfl, Nat.le_of_ble_eq_true rfl⟩) hl_wm_0 rfl dX6_clean_13 rfl (Nat.le_of_ble_eq_true rfl) ⟨Nat.le_of_ble_eq_true rfl, Nat.le_of_ble_eq_true rfl⟩ rfl ?_
  refine hl_nmM (fun g7 e8 => ?_)
  refine hl_if_eq_T h 28 dX6_clean_16 (by decide) (by decide) ?_
  refine hl_iconst h 0 dX6_clean_28 (by decide) ?_
  exact hend dX6_clean_29 (fun h9 => nomatch h9) (by
    subst e8
    exact ⟨by rfl, (congrArg (hl_WM b cI cZ) (by rfl))⟩)

set_option maxHeartbeats 4000000 in
set_option maxRecDepth 100000 in
theorem c_X6_clean_0 (l : Launch) (D : va_G) (cI cZ cJ : ClassId) (b : Nat → Nat) (t : Nat → Nat → Int32) (x : Int32) (h1 : vp_in x 4) : hl_KI D (hl_ty cI cZ cJ) l yX6_clean wsX6_clean ({ frames := 2, cells := 0, slots := 0, locals := 42 } : Room) 0 0 [.ref (b 0), .int x] (hl_WM b cI cZ t) (fun r w => r = t 3 x.toNatClampNeg ∧ w = hl_WM b cI cZ (hl_su t 23 (fun _ => 0))) := by
  refine hl_KI_of (cc := cX6_clean) (maxL := 2) .int rfl (fun _ => Or.inr rfl) (by decide) rfl (Nat.le_of_ble_eq_true rfl) ?_
  intro p e s m args below meth c A Q h hend
  have hi6 : ∀ z ∈ wsX60, z ∈ wsX6_clean := by decide +kernel
  refine hl_ls (ls' := [(0, .ref (b 0)), (1, .int x)]) rfl ?_
  refine hl_aload_n h 0 dX6_clean_0 rfl ?_
  refine hl_iload_n h 1 dX6_clean_1 rfl ?_
  refine hl_callSiD h (st := [.ref (b 0)]) (c_X6_isInn_T l D cI cZ cJ b t x h1) (va_cwS 1 h.2.2.2.2.1 gX6_clean_X6_isInn rfl rfl rfl (by decide +kernel) ⟨Nat.le_of_ble_eq_true rfl, Nat.le_of_ble_eq_true rfl⟩) dX6_clean_2 rfl (Nat.le_of_ble_eq_true rfl) ⟨Nat.le_of_ble_eq_true rfl, Nat.le_of_ble_eq_true rfl⟩ rfl ?_
  refine hl_if_eq_F h 12 dX6_clean_5 (by decide) (by decide) ?_
  refine hl_iconst h 0 dX6_clean_8 (by decide) ?_
  refine hl_goto h 13 dX6_clean_9 (by decide) ?_
  refine hl_callViD h (st := []) (c_X6_isFine_0 l D cI cZ cJ b t 0 rfl) (cwV 1 h.2.2.2.2.1 gX6_clean_X6_isFine rfl rfl rfl (by decide +kernel) ⟨Nat.le_of_ble_eq_true rfl, Nat.le_of_ble_eq_true rfl⟩) hl_wm_0 rfl dX6_clean_13 rfl (Nat.le_of_ble_eq_true rfl) ⟨Nat.le_of_ble_eq_true rfl, Nat.le_of_ble_eq_true rfl⟩ rfl ?_
  refine hl_nmM (fun g7 e8 => ?_)
  refine hl_if_eq_F h 28 dX6_clean_16 (by decide) (by decide) ?_
  refine hl_aload_n h 0 dX6_clean_19 rfl ?_
  refine hl_get h hi6 hl_wm_0 rfl 3 rfl dX6_clean_20 (by decide) (by decide +kernel) ?_
  refine hl_iload_n h 1 dX6_clean_23 rfl ?_
  refine hl_ild h hl_wm_4 0 rfl dX6_clean_24 (by with_reducible assumption) ?_
  refine hl_goto h 29 dX6_clean_25 (by decide) ?_
  exact hend dX6_clean_29 (fun h9 => nomatch h9) (by
    subst e8
    exact ⟨by rfl, (congrArg (hl_WM b cI cZ) (by rfl))⟩)

set_option maxHeartbeats 4000000 in
set_option maxRecDepth 100000 in
theorem c_X6_purse_1 (l : Launch) (D : va_G) (cI cZ cJ : ClassId) (b : Nat → Nat) (t : Nat → Nat → Int32) (x : Int32) (h1 : ¬ vp_in x 4) : hl_KI D (hl_ty cI cZ cJ) l yX6_purse wsX6_purse ({ frames := 2, cells := 0, slots := 0, locals := 42 } : Room) 0 0 [.ref (b 0), .int x] (hl_WM b cI cZ t) (fun r w => r = 0 ∧ w = hl_WM b cI cZ (hl_su t 23 (fun _ => 1))) := by
  refine hl_KI_of (cc := cX6_purse) (maxL := 2) .int rfl (fun _ => Or.inr rfl) (by decide) rfl (Nat.le_of_ble_eq_true rfl) ?_
  intro p e s m args below meth c A Q h hend
  refine hl_ls (ls' := [(0, .ref (b 0)), (1, .int x)]) rfl ?_
  refine hl_aload_n h 0 dX6_purse_0 rfl ?_
  refine hl_iload_n h 1 dX6_purse_1 rfl ?_
  refine hl_callSiD h (st := [.ref (b 0)]) (c_X6_isInn_F l D cI cZ cJ b t x h1) (va_cwS 1 h.2.2.2.2.1 gX6_purse_X6_isInn rfl rfl rfl (by decide +kernel) ⟨Nat.le_of_ble_eq_true rfl, Nat.le_of_ble_eq_true rfl⟩) dX6_purse_2 rfl (Nat.le_of_ble_eq_true rfl) ⟨Nat.le_of_ble_eq_true rfl, Nat.le_of_ble_eq_true rfl⟩ rfl ?_
  refine hl_if_eq_T h 12 dX6_purse_5 (by decide) (by decide) ?_
  refine hl_iconst h 1 dX6_purse_12 (by decide) ?_
  refine hl_callViD h (st := []) (c_X6_isFine_n l D cI cZ cJ b t 1 (by decide)) (cwV 1 h.2.2.2.2.1 gX6_purse_X6_isFine rfl rfl rfl (by decide +kernel) ⟨Nat.le_of_ble_eq_true rfl, Nat.le_of_ble_eq_true rfl⟩) hl_wm_0 rfl dX6_purse_13 rfl (Nat.le_of_ble_eq_true rfl) ⟨Nat.le_of_ble_eq_true rfl, Nat.le_of_ble_eq_true rfl⟩ rfl ?_
  refine hl_nmM (fun g7 e8 => ?_)
  refine hl_if_eq_T h 28 dX6_purse_16 (by decide) (by decide) ?_
  refine hl_iconst h 0 dX6_purse_28 (by decide) ?_
  exact hend dX6_purse_29 (fun h9 => nomatch h9) (by
    subst e8
    exact ⟨by rfl, (congrArg (hl_WM b cI cZ) (by rfl))⟩)

set_option maxHeartbeats 4000000 in
set_option maxRecDepth 100000 in
theorem c_X6_purse_0 (l : Launch) (D : va_G) (cI cZ cJ : ClassId) (b : Nat → Nat) (t : Nat → Nat → Int32) (x : Int32) (h1 : vp_in x 4) : hl_KI D (hl_ty cI cZ cJ) l yX6_purse wsX6_purse ({ frames := 2, cells := 0, slots := 0, locals := 42 } : Room) 0 0 [.ref (b 0), .int x] (hl_WM b cI cZ t) (fun r w => r = t 5 x.toNatClampNeg ∧ w = hl_WM b cI cZ (hl_su t 23 (fun _ => 0))) := by
  refine hl_KI_of (cc := cX6_purse) (maxL := 2) .int rfl (fun _ => Or.inr rfl) (by decide) rfl (Nat.le_of_ble_eq_true rfl) ?_
  intro p e s m args below meth c A Q h hend
  have hi6 : ∀ z ∈ wsX60, z ∈ wsX6_purse := by decide +kernel
  refine hl_ls (ls' := [(0, .ref (b 0)), (1, .int x)]) rfl ?_
  refine hl_aload_n h 0 dX6_purse_0 rfl ?_
  refine hl_iload_n h 1 dX6_purse_1 rfl ?_
  refine hl_callSiD h (st := [.ref (b 0)]) (c_X6_isInn_T l D cI cZ cJ b t x h1) (va_cwS 1 h.2.2.2.2.1 gX6_purse_X6_isInn rfl rfl rfl (by decide +kernel) ⟨Nat.le_of_ble_eq_true rfl, Nat.le_of_ble_eq_true rfl⟩) dX6_purse_2 rfl (Nat.le_of_ble_eq_true rfl) ⟨Nat.le_of_ble_eq_true rfl, Nat.le_of_ble_eq_true rfl⟩ rfl ?_
  refine hl_if_eq_F h 12 dX6_purse_5 (by decide) (by decide) ?_
  refine hl_iconst h 0 dX6_purse_8 (by decide) ?_
  refine hl_goto h 13 dX6_purse_9 (by decide) ?_
  refine hl_callViD h (st := []) (c_X6_isFine_0 l D cI cZ cJ b t 0 rfl) (cwV 1 h.2.2.2.2.1 gX6_purse_X6_isFine rfl rfl rfl (by decide +kernel) ⟨Nat.le_of_ble_eq_true rfl, Nat.le_of_ble_eq_true rfl⟩) hl_wm_0 rfl dX6_purse_13 rfl (Nat.le_of_ble_eq_true rfl) ⟨Nat.le_of_ble_eq_true rfl, Nat.le_of_ble_eq_true rfl⟩ rfl ?_
  refine hl_nmM (fun g7 e8 => ?_)
  refine hl_if_eq_F h 28 dX6_purse_16 (by decide) (by decide) ?_
  refine hl_aload_n h 0 dX6_purse_19 rfl ?_
  refine hl_get h hi6 hl_wm_0 rfl 5 rfl dX6_purse_20 (by decide) (by decide +kernel) ?_
  refine hl_iload_n h 1 dX6_purse_23 rfl ?_
  refine hl_ild h hl_wm_6 0 rfl dX6_purse_24 (by with_reducible assumption) ?_
  refine hl_goto h 29 dX6_purse_25 (by decide) ?_
  exact hend dX6_purse_29 (fun h9 => nomatch h9) (by
    subst e8
    exact ⟨by rfl, (congrArg (hl_WM b cI cZ) (by rfl))⟩)

set_option maxHeartbeats 4000000 in
set_option maxRecDepth 100000 in
theorem c_X6_away_1 (l : Launch) (D : va_G) (cI cZ cJ : ClassId) (b : Nat → Nat) (t : Nat → Nat → Int32) (x : Int32) (h1 : ¬ vp_in x 4) : hl_KI D (hl_ty cI cZ cJ) l yX6_away wsX6_away ({ frames := 2, cells := 0, slots := 0, locals := 42 } : Room) 0 0 [.ref (b 0), .int x] (hl_WM b cI cZ t) (fun r w => r = 0 ∧ w = hl_WM b cI cZ (hl_su t 23 (fun _ => 1))) := by
  refine hl_KI_of (cc := cX6_away) (maxL := 4) .int rfl (fun _ => Or.inr rfl) (by decide) rfl (Nat.le_of_ble_eq_true rfl) ?_
  intro p e s m args below meth c A Q h hend
  refine hl_ls (ls' := [(0, .ref (b 0)), (1, .int x)]) rfl ?_
  refine hl_aload_n h 0 dX6_away_0 rfl ?_
  refine hl_iload_n h 1 dX6_away_1 rfl ?_
  refine hl_callSiD h (st := [.ref (b 0)]) (c_X6_isInn_F l D cI cZ cJ b t x h1) (va_cwS 1 h.2.2.2.2.1 gX6_away_X6_isInn rfl rfl rfl (by decide +kernel) ⟨Nat.le_of_ble_eq_true rfl, Nat.le_of_ble_eq_true rfl⟩) dX6_away_2 rfl (Nat.le_of_ble_eq_true rfl) ⟨Nat.le_of_ble_eq_true rfl, Nat.le_of_ble_eq_true rfl⟩ rfl ?_
  refine hl_if_eq_T h 12 dX6_away_5 (by decide) (by decide) ?_
  refine hl_iconst h 1 dX6_away_12 (by decide) ?_
  refine hl_callViD h (st := []) (c_X6_isFine_n l D cI cZ cJ b t 1 (by decide)) (cwV 1 h.2.2.2.2.1 gX6_away_X6_isFine rfl rfl rfl (by decide +kernel) ⟨Nat.le_of_ble_eq_true rfl, Nat.le_of_ble_eq_true rfl⟩) hl_wm_0 rfl dX6_away_13 rfl (Nat.le_of_ble_eq_true rfl) ⟨Nat.le_of_ble_eq_true rfl, Nat.le_of_ble_eq_true rfl⟩ rfl ?_
  refine hl_nmM (fun g7 e8 => ?_)
  refine hl_if_ne_F h 21 dX6_away_16 (by decide) (by decide) ?_
  refine hl_iconst h 0 dX6_away_19 (by decide) ?_
  exact hend dX6_away_20 (fun h9 => nomatch h9) (by
    subst e8
    exact ⟨by rfl, (congrArg (hl_WM b cI cZ) (by rfl))⟩)

set_option maxHeartbeats 4000000 in
set_option maxRecDepth 100000 in
theorem c_X6_away_0 (l : Launch) (D : va_G) (cI cZ cJ : ClassId) (b : Nat → Nat) (t : Nat → Nat → Int32) (x : Int32) (N M T : Nat) (ho : hl_okM t N M T) (h1 : vp_in x 4) : hl_KI D (hl_ty cI cZ cJ) l yX6_away wsX6_away ({ frames := 2, cells := 0, slots := 0, locals := 42 } : Room) 0 0 [.ref (b 0), .int x] (hl_WM b cI cZ t) (fun r w => r = hl_it (b_X6_away (hl_su t 23 (fun _ => 0)) x) 0 T ((hl_su t 23 (fun _ => 0)) 4 x.toNatClampNeg) ∧ w = hl_WM b cI cZ (hl_su t 23 (fun _ => 0))) := by
  refine hl_KI_of (cc := cX6_away) (maxL := 4) .int rfl (fun _ => Or.inr rfl) (by decide) rfl (Nat.le_of_ble_eq_true rfl) ?_
  intro p e s m args below meth c A Q h hend
  have hi6 : ∀ z ∈ wsX60, z ∈ wsX6_away := by decide +kernel
  obtain ⟨hN, hc, hM, hm, hT, ht8, hbk, hpt, hbr⟩ := id ho
  have hx4 : x.toNatClampNeg < 4 := hl_idx h1
  refine hl_ls (ls' := [(0, .ref (b 0)), (1, .int x)]) rfl ?_
  refine hl_aload_n h 0 dX6_away_0 rfl ?_
  refine hl_iload_n h 1 dX6_away_1 rfl ?_
  refine hl_callSiD h (st := [.ref (b 0)]) (c_X6_isInn_T l D cI cZ cJ b t x h1) (va_cwS 1 h.2.2.2.2.1 gX6_away_X6_isInn rfl rfl rfl (by decide +kernel) ⟨Nat.le_of_ble_eq_true rfl, Nat.le_of_ble_eq_true rfl⟩) dX6_away_2 rfl (Nat.le_of_ble_eq_true rfl) ⟨Nat.le_of_ble_eq_true rfl, Nat.le_of_ble_eq_true rfl⟩ rfl ?_
  refine hl_if_eq_F h 12 dX6_away_5 (by decide) (by decide) ?_
  refine hl_iconst h 0 dX6_away_8 (by decide) ?_
  refine hl_goto h 13 dX6_away_9 (by decide) ?_
  refine hl_callViD h (st := []) (c_X6_isFine_0 l D cI cZ cJ b t 0 rfl) (cwV 1 h.2.2.2.2.1 gX6_away_X6_isFine rfl rfl rfl (by decide +kernel) ⟨Nat.le_of_ble_eq_true rfl, Nat.le_of_ble_eq_true rfl⟩) hl_wm_0 rfl dX6_away_13 rfl (Nat.le_of_ble_eq_true rfl) ⟨Nat.le_of_ble_eq_true rfl, Nat.le_of_ble_eq_true rfl⟩ rfl ?_
  refine hl_nmM (fun g7 e8 => ?_)
  refine hl_if_ne_T h 21 dX6_away_16 (by decide) (by decide) ?_
  refine hl_aload_n h 0 dX6_away_21 rfl ?_
  refine hl_get h hi6 hl_wm_0 rfl 4 rfl dX6_away_22 (by decide) (by decide +kernel) ?_
  refine hl_iload_n h 1 dX6_away_25 rfl ?_
  refine hl_ild h hl_wm_5 0 rfl dX6_away_26 (by with_reducible assumption) ?_
  refine hl_istore_n h [(2, .int (g7 4 x.toNatClampNeg)), (0, .ref (b 0)), (1, .int x)] dX6_away_27 (by decide) rfl ?_
  have q8 : g7 8 0 = nI T := by rw [e8, hl_su_ne _ _ (by decide)]; exact ht8
  refine hl_iconst h 0 dX6_away_28 (by decide) ?_
  refine hl_istore_n h [(3, .int 0), (2, .int (g7 4 x.toNatClampNeg)), (0, .ref (b 0)), (1, .int x)] dX6_away_29 (by decide) rfl ?_
  have lp30 : ∀ (n : Nat) (i : Nat) (u : Int32), (i + n = T) → (hl_it (b_X6_away g7 x) i n u = hl_it (b_X6_away g7 x) 0 T (g7 4 x.toNatClampNeg)) →  hl_X p l e ({ frames := 2, cells := 0, slots := 0, locals := 42 } : Room) s m args below meth c 4 D A 0 0 Q (hl_WM b cI cZ g7) 30 [(0, .ref (b 0)), (1, .int x), (2, .int u), (3, .int (nI i))] [] := by
    intro n
    induction n with
    | zero =>
      intro i u hi hv
      refine hl_iload_n h 3 dX6_away_30 rfl ?_
      refine hl_aload_n h 0 dX6_away_31 rfl ?_
      refine hl_get h hi6 hl_wm_0 rfl 8 rfl dX6_away_32 (by decide) (by decide +kernel) ?_
      refine hl_icmp_ge_T h 57 dX6_away_35 (by decide) (by rw [q8]; exact nI_le (by omega) (by omega)) ?_
      refine hl_iload_n h 2 dX6_away_57 rfl ?_
      exact hend dX6_away_58 (fun h9 => nomatch h9) (by
        subst e8
        exact ⟨hv, rfl⟩)
    | succ n ih =>
      intro i u hi hv
      refine hl_iload_n h 3 dX6_away_30 rfl ?_
      refine hl_aload_n h 0 dX6_away_31 rfl ?_
      refine hl_get h hi6 hl_wm_0 rfl 8 rfl dX6_away_32 (by decide) (by decide +kernel) ?_
      refine hl_icmp_ge_F h 57 dX6_away_35 (by decide) (by rw [q8]; exact nI_ge (by omega) (by omega)) ?_
      refine hl_iload_n h 2 dX6_away_38 rfl ?_
      refine hl_aload_n h 0 dX6_away_39 rfl ?_
      refine hl_get h hi6 hl_wm_0 rfl 10 rfl dX6_away_40 (by decide) (by decide +kernel) ?_
      refine hl_iconst h 4 dX6_away_43 (by decide) ?_
      refine hl_iload_n h 3 dX6_away_44 rfl ?_
      refine hl_imul h dX6_away_45 ?_
      refine hl_iload_n h 1 dX6_away_46 rfl ?_
      refine hl_iadd h dX6_away_47 ?_
      refine hl_topc (nI (4 * i + x.toNatClampNeg)) (hl_4x h1 i) ?_
      refine hl_ildN h hl_wm_8 0 rfl (4 * i + x.toNatClampNeg) dX6_away_48 rfl (by omega) (by decide) ?_
      refine hl_iadd h dX6_away_49 ?_
      refine hl_istore_n h [(2, .int (u + (g7 10 (4 * i + x.toNatClampNeg)))), (0, .ref (b 0)), (1, .int x), (3, .int (nI i))] dX6_away_50 (by decide) rfl ?_
      refine hl_iinc h 3 (nI (i + 1)) [(3, .int (nI (i + 1))), (2, .int (u + (g7 10 (4 * i + x.toNatClampNeg)))), (0, .ref (b 0)), (1, .int x)] dX6_away_51 rfl (hl_inc i) (by decide) rfl ?_
      refine hl_goto h 30 dX6_away_54 (by decide) ?_
      refine hl_lsub [2, 3, 1, 0] rfl ?_
      exact ih (i + 1) (u + (g7 10 (4 * i + x.toNatClampNeg))) (by omega) (by rw [← hv, hl_it_s] <;> (congr 1 <;> (first | (simp [b_X6_away]; done) | (symm; simp [b_X6_away]))))
  refine hl_lsub [2, 3, 1, 0] rfl ?_
  exact lp30 T 0 (g7 4 x.toNatClampNeg) (Nat.zero_add T) rfl

set_option maxHeartbeats 4000000 in
set_option maxRecDepth 100000 in
theorem c_X6_sleeps_1 (l : Launch) (D : va_G) (cI cZ cJ : ClassId) (b : Nat → Nat) (t : Nat → Nat → Int32) (x : Int32) (N M T : Nat) (ho : hl_okM t N M T) (h1 : ¬ (¬ x < 0 ∧ x < t 18 0)) : hl_KI D (hl_ty cI cZ cJ) l yX6_sleeps wsX6_sleeps ({ frames := 1, cells := 0, slots := 0, locals := 22 } : Room) 0 0 [.ref (b 0), .int x] (hl_WM b cI cZ t) (fun r w => r = 0 ∧ w = hl_WM b cI cZ (hl_su t 23 (fun _ => 1))) := by
  refine hl_KI_of (cc := cX6_sleeps) (maxL := 2) .int rfl (fun _ => Or.inr rfl) (by decide) rfl (Nat.le_of_ble_eq_true rfl) ?_
  intro p e s m args below meth c A Q h hend
  have hi6 : ∀ z ∈ wsX60, z ∈ wsX6_sleeps := by decide +kernel
  obtain ⟨hN, hc, hM, hm, hT, ht8, hbk, hpt, hbr⟩ := id ho
  refine hl_ls (ls' := [(0, .ref (b 0)), (1, .int x)]) rfl ?_
  refine hl_aload_n h 0 dX6_sleeps_0 rfl ?_
  refine hl_iload_n h 1 dX6_sleeps_1 rfl ?_
  refine hl_iconst h 0 dX6_sleeps_2 (by decide) ?_
  refine hl_aload_n h 0 dX6_sleeps_3 rfl ?_
  refine hl_get h hi6 hl_wm_0 rfl 18 rfl dX6_sleeps_4 (by decide) (by decide +kernel) ?_
  refine hl_iconst h 1 dX6_sleeps_7 (by decide) ?_
  refine hl_isub h dX6_sleeps_8 ?_
  refine hl_callSiD h (st := [.ref (b 0)]) (c_X6_in_F l D cI cZ cJ b t x 0 ((t 18 0) - 1) (by rw [hc] at h1 ⊢; rw [hl_pred hN]; exact h1)) (va_cwS 3 h.2.2.2.2.1 gX6_sleeps_X6_in rfl rfl rfl (by decide +kernel) ⟨Nat.le_of_ble_eq_true rfl, Nat.le_of_ble_eq_true rfl⟩) dX6_sleeps_9 rfl (Nat.le_of_ble_eq_true rfl) ⟨Nat.le_of_ble_eq_true rfl, Nat.le_of_ble_eq_true rfl⟩ rfl ?_
  refine hl_if_eq_T h 19 dX6_sleeps_12 (by decide) (by decide) ?_
  refine hl_iconst h 1 dX6_sleeps_19 (by decide) ?_
  refine hl_callViD h (st := []) (c_X6_isFine_n l D cI cZ cJ b t 1 (by decide)) (cwV 1 h.2.2.2.2.1 gX6_sleeps_X6_isFine rfl rfl rfl (by decide +kernel) ⟨Nat.le_of_ble_eq_true rfl, Nat.le_of_ble_eq_true rfl⟩) hl_wm_0 rfl dX6_sleeps_20 rfl (Nat.le_of_ble_eq_true rfl) ⟨Nat.le_of_ble_eq_true rfl, Nat.le_of_ble_eq_true rfl⟩ rfl ?_
  refine hl_nmM (fun g7 e8 => ?_)
  refine hl_if_eq_T h 35 dX6_sleeps_23 (by decide) (by decide) ?_
  refine hl_iconst h 0 dX6_sleeps_35 (by decide) ?_
  exact hend dX6_sleeps_36 (fun h9 => nomatch h9) (by
    subst e8
    exact ⟨by rfl, (congrArg (hl_WM b cI cZ) (by rfl))⟩)

set_option maxHeartbeats 4000000 in
set_option maxRecDepth 100000 in
theorem c_X6_sleeps_0 (l : Launch) (D : va_G) (cI cZ cJ : ClassId) (b : Nat → Nat) (t : Nat → Nat → Int32) (x : Int32) (N M T : Nat) (ho : hl_okM t N M T) (h1 : ¬ x < 0) (h2 : x < t 18 0) : hl_KI D (hl_ty cI cZ cJ) l yX6_sleeps wsX6_sleeps ({ frames := 1, cells := 0, slots := 0, locals := 22 } : Room) 0 0 [.ref (b 0), .int x] (hl_WM b cI cZ t) (fun r w => r = t 17 x.toNatClampNeg ∧ w = hl_WM b cI cZ (hl_su t 23 (fun _ => 0))) := by
  refine hl_KI_of (cc := cX6_sleeps) (maxL := 2) .int rfl (fun _ => Or.inr rfl) (by decide) rfl (Nat.le_of_ble_eq_true rfl) ?_
  intro p e s m args below meth c A Q h hend
  have hi6 : ∀ z ∈ wsX60, z ∈ wsX6_sleeps := by decide +kernel
  obtain ⟨hN, hc, hM, hm, hT, ht8, hbk, hpt, hbr⟩ := id ho
  have hxN : ¬ x < 0 → x < t 18 0 → vp_in x N := by
    intro h1 h2
    refine vp_in_iff.mpr ⟨?_, ?_⟩
    · exact Int.not_lt.mp (fun z => h1 (Int32.lt_iff_toInt_lt.mpr z))
    · have z := Int32.lt_iff_toInt_lt.mp h2
      rw [hc, nI_toInt (by omega)] at z
      exact z
  have hxn : x.toNatClampNeg < N := Nat.not_le.mp (fun z => hxN h1 h2 (Or.inr z))
  have hx80 : vp_in x 80 := fun z => hxN h1 h2 (z.elim Or.inl (fun z => Or.inr (by omega)))
  refine hl_ls (ls' := [(0, .ref (b 0)), (1, .int x)]) rfl ?_
  refine hl_aload_n h 0 dX6_sleeps_0 rfl ?_
  refine hl_iload_n h 1 dX6_sleeps_1 rfl ?_
  refine hl_iconst h 0 dX6_sleeps_2 (by decide) ?_
  refine hl_aload_n h 0 dX6_sleeps_3 rfl ?_
  refine hl_get h hi6 hl_wm_0 rfl 18 rfl dX6_sleeps_4 (by decide) (by decide +kernel) ?_
  refine hl_iconst h 1 dX6_sleeps_7 (by decide) ?_
  refine hl_isub h dX6_sleeps_8 ?_
  refine hl_callSiD h (st := [.ref (b 0)]) (c_X6_in_T l D cI cZ cJ b t x 0 ((t 18 0) - 1) h1 (by rw [hc] at h2 ⊢; exact (hl_pred hN).mpr h2)) (va_cwS 3 h.2.2.2.2.1 gX6_sleeps_X6_in rfl rfl rfl (by decide +kernel) ⟨Nat.le_of_ble_eq_true rfl, Nat.le_of_ble_eq_true rfl⟩) dX6_sleeps_9 rfl (Nat.le_of_ble_eq_true rfl) ⟨Nat.le_of_ble_eq_true rfl, Nat.le_of_ble_eq_true rfl⟩ rfl ?_
  refine hl_if_eq_F h 19 dX6_sleeps_12 (by decide) (by decide) ?_
  refine hl_iconst h 0 dX6_sleeps_15 (by decide) ?_
  refine hl_goto h 20 dX6_sleeps_16 (by decide) ?_
  refine hl_callViD h (st := []) (c_X6_isFine_0 l D cI cZ cJ b t 0 rfl) (cwV 1 h.2.2.2.2.1 gX6_sleeps_X6_isFine rfl rfl rfl (by decide +kernel) ⟨Nat.le_of_ble_eq_true rfl, Nat.le_of_ble_eq_true rfl⟩) hl_wm_0 rfl dX6_sleeps_20 rfl (Nat.le_of_ble_eq_true rfl) ⟨Nat.le_of_ble_eq_true rfl, Nat.le_of_ble_eq_true rfl⟩ rfl ?_
  refine hl_nmM (fun g7 e8 => ?_)
  refine hl_if_eq_F h 35 dX6_sleeps_23 (by decide) (by decide) ?_
  refine hl_aload_n h 0 dX6_sleeps_26 rfl ?_
  refine hl_get h hi6 hl_wm_0 rfl 17 rfl dX6_sleeps_27 (by decide) (by decide +kernel) ?_
  refine hl_iload_n h 1 dX6_sleeps_30 rfl ?_
  refine hl_ild h hl_wm_15 0 rfl dX6_sleeps_31 (by with_reducible assumption) ?_
  refine hl_goto h 36 dX6_sleeps_32 (by decide) ?_
  exact hend dX6_sleeps_36 (fun h9 => nomatch h9) (by
    subst e8
    exact ⟨by rfl, (congrArg (hl_WM b cI cZ) (by rfl))⟩)

set_option maxHeartbeats 4000000 in
set_option maxRecDepth 100000 in
theorem c_X6_points_1 (l : Launch) (D : va_G) (cI cZ cJ : ClassId) (b : Nat → Nat) (t : Nat → Nat → Int32) (x : Int32) (h1 : ¬ vp_in x 10) : hl_KI D (hl_ty cI cZ cJ) l yX6_points wsX6_points ({ frames := 2, cells := 0, slots := 0, locals := 42 } : Room) 0 0 [.ref (b 0), .int x] (hl_WM b cI cZ t) (fun r w => r = 0 ∧ w = hl_WM b cI cZ (hl_su t 23 (fun _ => 1))) := by
  refine hl_KI_of (cc := cX6_points) (maxL := 2) .int rfl (fun _ => Or.inr rfl) (by decide) rfl (Nat.le_of_ble_eq_true rfl) ?_
  intro p e s m args below meth c A Q h hend
  refine hl_ls (ls' := [(0, .ref (b 0)), (1, .int x)]) rfl ?_
  refine hl_aload_n h 0 dX6_points_0 rfl ?_
  refine hl_iload_n h 1 dX6_points_1 rfl ?_
  refine hl_callSiD h (st := [.ref (b 0)]) (c_X6_isGuest_F l D cI cZ cJ b t x h1) (va_cwS 1 h.2.2.2.2.1 gX6_points_X6_isGuest rfl rfl rfl (by decide +kernel) ⟨Nat.le_of_ble_eq_true rfl, Nat.le_of_ble_eq_true rfl⟩) dX6_points_2 rfl (Nat.le_of_ble_eq_true rfl) ⟨Nat.le_of_ble_eq_true rfl, Nat.le_of_ble_eq_true rfl⟩ rfl ?_
  refine hl_if_eq_T h 12 dX6_points_5 (by decide) (by decide) ?_
  refine hl_iconst h 1 dX6_points_12 (by decide) ?_
  refine hl_callViD h (st := []) (c_X6_isFine_n l D cI cZ cJ b t 1 (by decide)) (cwV 1 h.2.2.2.2.1 gX6_points_X6_isFine rfl rfl rfl (by decide +kernel) ⟨Nat.le_of_ble_eq_true rfl, Nat.le_of_ble_eq_true rfl⟩) hl_wm_0 rfl dX6_points_13 rfl (Nat.le_of_ble_eq_true rfl) ⟨Nat.le_of_ble_eq_true rfl, Nat.le_of_ble_eq_true rfl⟩ rfl ?_
  refine hl_nmM (fun g7 e8 => ?_)
  refine hl_if_eq_T h 27 dX6_points_16 (by decide) (by decide) ?_
  refine hl_iconst h 0 dX6_points_27 (by decide) ?_
  exact hend dX6_points_28 (fun h9 => nomatch h9) (by
    subst e8
    exact ⟨by rfl, (congrArg (hl_WM b cI cZ) (by rfl))⟩)

set_option maxHeartbeats 4000000 in
set_option maxRecDepth 100000 in
theorem c_X6_points_0 (l : Launch) (D : va_G) (cI cZ cJ : ClassId) (b : Nat → Nat) (t : Nat → Nat → Int32) (x : Int32) (N M T : Nat) (ho : hl_okM t N M T) (h1 : vp_in x 10) : hl_KI D (hl_ty cI cZ cJ) l yX6_points wsX6_points ({ frames := 2, cells := 0, slots := 0, locals := 42 } : Room) 0 0 [.ref (b 0), .int x] (hl_WM b cI cZ t) (fun r w => r = hl_it (b_X6_pointsOf (hl_su t 23 (fun _ => 0)) x) 0 M 0 ∧ w = hl_WM b cI cZ (hl_su t 23 (fun _ => 0))) := by
  refine hl_KI_of (cc := cX6_points) (maxL := 2) .int rfl (fun _ => Or.inr rfl) (by decide) rfl (Nat.le_of_ble_eq_true rfl) ?_
  intro p e s m args below meth c A Q h hend
  obtain ⟨hN, hc, hM, hm, hT, ht8, hbk, hpt, hbr⟩ := id ho
  refine hl_ls (ls' := [(0, .ref (b 0)), (1, .int x)]) rfl ?_
  refine hl_aload_n h 0 dX6_points_0 rfl ?_
  refine hl_iload_n h 1 dX6_points_1 rfl ?_
  refine hl_callSiD h (st := [.ref (b 0)]) (c_X6_isGuest_T l D cI cZ cJ b t x h1) (va_cwS 1 h.2.2.2.2.1 gX6_points_X6_isGuest rfl rfl rfl (by decide +kernel) ⟨Nat.le_of_ble_eq_true rfl, Nat.le_of_ble_eq_true rfl⟩) dX6_points_2 rfl (Nat.le_of_ble_eq_true rfl) ⟨Nat.le_of_ble_eq_true rfl, Nat.le_of_ble_eq_true rfl⟩ rfl ?_
  refine hl_if_eq_F h 12 dX6_points_5 (by decide) (by decide) ?_
  refine hl_iconst h 0 dX6_points_8 (by decide) ?_
  refine hl_goto h 13 dX6_points_9 (by decide) ?_
  refine hl_callViD h (st := []) (c_X6_isFine_0 l D cI cZ cJ b t 0 rfl) (cwV 1 h.2.2.2.2.1 gX6_points_X6_isFine rfl rfl rfl (by decide +kernel) ⟨Nat.le_of_ble_eq_true rfl, Nat.le_of_ble_eq_true rfl⟩) hl_wm_0 rfl dX6_points_13 rfl (Nat.le_of_ble_eq_true rfl) ⟨Nat.le_of_ble_eq_true rfl, Nat.le_of_ble_eq_true rfl⟩ rfl ?_
  refine hl_nmM (fun g7 e8 => ?_)
  refine hl_if_eq_F h 27 dX6_points_16 (by decide) (by decide) ?_
  have q22 : g7 22 0 = nI M := by rw [e8, hl_su_ne _ _ (by decide)]; exact hm
  refine hl_aload_n h 0 dX6_points_19 rfl ?_
  refine hl_iload_n h 1 dX6_points_20 rfl ?_
  refine hl_callViD h (st := []) (c_X6_pointsOf l D cI cZ cJ b g7 x M hM q22) (cwV 1 h.2.2.2.2.1 gX6_points_X6_pointsOf rfl rfl rfl (by decide +kernel) ⟨Nat.le_of_ble_eq_true rfl, Nat.le_of_ble_eq_true rfl⟩) hl_wm_0 rfl dX6_points_21 rfl (Nat.le_of_ble_eq_true rfl) ⟨Nat.le_of_ble_eq_true rfl, Nat.le_of_ble_eq_true rfl⟩ rfl ?_
  refine hl_goto h 28 dX6_points_24 (by decide) ?_
  exact hend dX6_points_28 (fun h9 => nomatch h9) (by
    subst e8
    exact ⟨by rfl, (congrArg (hl_WM b cI cZ) (by rfl))⟩)

set_option maxHeartbeats 4000000 in
set_option maxRecDepth 100000 in
theorem c_X6_owes_1 (l : Launch) (D : va_G) (cI cZ cJ : ClassId) (b : Nat → Nat) (t : Nat → Nat → Int32) (x y : Int32) (h1 : ¬ vp_in x 4) : hl_KI D (hl_ty cI cZ cJ) l yX6_owes wsX6_owes ({ frames := 2, cells := 0, slots := 0, locals := 42 } : Room) 0 0 [.ref (b 0), .int x, .int y] (hl_WM b cI cZ t) (fun r w => r = 0 ∧ w = hl_WM b cI cZ (hl_su t 23 (fun _ => 1))) := by
  refine hl_KI_of (cc := cX6_owes) (maxL := 3) .int rfl (fun _ => Or.inr rfl) (by decide) rfl (Nat.le_of_ble_eq_true rfl) ?_
  intro p e s m args below meth c A Q h hend
  refine hl_ls (ls' := [(0, .ref (b 0)), (1, .int x), (2, .int y)]) rfl ?_
  refine hl_aload_n h 0 dX6_owes_0 rfl ?_
  refine hl_iload_n h 1 dX6_owes_1 rfl ?_
  refine hl_callSiD h (st := [.ref (b 0)]) (c_X6_isInn_F l D cI cZ cJ b t x h1) (va_cwS 1 h.2.2.2.2.1 gX6_owes_X6_isInn rfl rfl rfl (by decide +kernel) ⟨Nat.le_of_ble_eq_true rfl, Nat.le_of_ble_eq_true rfl⟩) dX6_owes_2 rfl (Nat.le_of_ble_eq_true rfl) ⟨Nat.le_of_ble_eq_true rfl, Nat.le_of_ble_eq_true rfl⟩ rfl ?_
  refine hl_if_eq_T h 19 dX6_owes_5 (by decide) (by decide) ?_
  refine hl_iconst h 1 dX6_owes_19 (by decide) ?_
  refine hl_callViD h (st := []) (c_X6_isFine_n l D cI cZ cJ b t 1 (by decide)) (cwV 1 h.2.2.2.2.1 gX6_owes_X6_isFine rfl rfl rfl (by decide +kernel) ⟨Nat.le_of_ble_eq_true rfl, Nat.le_of_ble_eq_true rfl⟩) hl_wm_0 rfl dX6_owes_20 rfl (Nat.le_of_ble_eq_true rfl) ⟨Nat.le_of_ble_eq_true rfl, Nat.le_of_ble_eq_true rfl⟩ rfl ?_
  refine hl_nmM (fun g7 e8 => ?_)
  refine hl_if_eq_T h 35 dX6_owes_23 (by decide) (by decide) ?_
  refine hl_iconst h 0 dX6_owes_35 (by decide) ?_
  exact hend dX6_owes_36 (fun h9 => nomatch h9) (by
    subst e8
    exact ⟨by rfl, (congrArg (hl_WM b cI cZ) (by rfl))⟩)

set_option maxHeartbeats 4000000 in
set_option maxRecDepth 100000 in
theorem c_X6_owes_2 (l : Launch) (D : va_G) (cI cZ cJ : ClassId) (b : Nat → Nat) (t : Nat → Nat → Int32) (x y : Int32) (h1 : vp_in x 4) (h2 : ¬ vp_in y 4) : hl_KI D (hl_ty cI cZ cJ) l yX6_owes wsX6_owes ({ frames := 2, cells := 0, slots := 0, locals := 42 } : Room) 0 0 [.ref (b 0), .int x, .int y] (hl_WM b cI cZ t) (fun r w => r = 0 ∧ w = hl_WM b cI cZ (hl_su t 23 (fun _ => 1))) := by
  refine hl_KI_of (cc := cX6_owes) (maxL := 3) .int rfl (fun _ => Or.inr rfl) (by decide) rfl (Nat.le_of_ble_eq_true rfl) ?_
  intro p e s m args below meth c A Q h hend
  refine hl_ls (ls' := [(0, .ref (b 0)), (1, .int x), (2, .int y)]) rfl ?_
  refine hl_aload_n h 0 dX6_owes_0 rfl ?_
  refine hl_iload_n h 1 dX6_owes_1 rfl ?_
  refine hl_callSiD h (st := [.ref (b 0)]) (c_X6_isInn_T l D cI cZ cJ b t x h1) (va_cwS 1 h.2.2.2.2.1 gX6_owes_X6_isInn rfl rfl rfl (by decide +kernel) ⟨Nat.le_of_ble_eq_true rfl, Nat.le_of_ble_eq_true rfl⟩) dX6_owes_2 rfl (Nat.le_of_ble_eq_true rfl) ⟨Nat.le_of_ble_eq_true rfl, Nat.le_of_ble_eq_true rfl⟩ rfl ?_
  refine hl_if_eq_F h 19 dX6_owes_5 (by decide) (by decide) ?_
  refine hl_iload_n h 2 dX6_owes_8 rfl ?_
  refine hl_callSiD h (st := [.ref (b 0)]) (c_X6_isInn_F l D cI cZ cJ b t y h2) (va_cwS 1 h.2.2.2.2.1 gX6_owes_X6_isInn rfl rfl rfl (by decide +kernel) ⟨Nat.le_of_ble_eq_true rfl, Nat.le_of_ble_eq_true rfl⟩) dX6_owes_9 rfl (Nat.le_of_ble_eq_true rfl) ⟨Nat.le_of_ble_eq_true rfl, Nat.le_of_ble_eq_true rfl⟩ rfl ?_
  refine hl_if_eq_T h 19 dX6_owes_12 (by decide) (by decide) ?_
  refine hl_iconst h 1 dX6_owes_19 (by decide) ?_
  refine hl_callViD h (st := []) (c_X6_isFine_n l D cI cZ cJ b t 1 (by decide)) (cwV 1 h.2.2.2.2.1 gX6_owes_X6_isFine rfl rfl rfl (by decide +kernel) ⟨Nat.le_of_ble_eq_true rfl, Nat.le_of_ble_eq_true rfl⟩) hl_wm_0 rfl dX6_owes_20 rfl (Nat.le_of_ble_eq_true rfl) ⟨Nat.le_of_ble_eq_true rfl, Nat.le_of_ble_eq_true rfl⟩ rfl ?_
  refine hl_nmM (fun g10 e11 => ?_)
  refine hl_if_eq_T h 35 dX6_owes_23 (by decide) (by decide) ?_
  refine hl_iconst h 0 dX6_owes_35 (by decide) ?_
  exact hend dX6_owes_36 (fun h9 => nomatch h9) (by
    subst e11
    exact ⟨by rfl, (congrArg (hl_WM b cI cZ) (by rfl))⟩)

set_option maxHeartbeats 4000000 in
set_option maxRecDepth 100000 in
theorem c_X6_owes_0 (l : Launch) (D : va_G) (cI cZ cJ : ClassId) (b : Nat → Nat) (t : Nat → Nat → Int32) (x y : Int32) (h1 : vp_in x 4) (h2 : vp_in y 4) : hl_KI D (hl_ty cI cZ cJ) l yX6_owes wsX6_owes ({ frames := 2, cells := 0, slots := 0, locals := 42 } : Room) 0 0 [.ref (b 0), .int x, .int y] (hl_WM b cI cZ t) (fun r w => r = r_X6_owed (hl_su t 23 (fun _ => 0)) x y ∧ w = hl_WM b cI cZ (hl_su t 23 (fun _ => 0))) := by
  refine hl_KI_of (cc := cX6_owes) (maxL := 3) .int rfl (fun _ => Or.inr rfl) (by decide) rfl (Nat.le_of_ble_eq_true rfl) ?_
  intro p e s m args below meth c A Q h hend
  refine hl_ls (ls' := [(0, .ref (b 0)), (1, .int x), (2, .int y)]) rfl ?_
  refine hl_aload_n h 0 dX6_owes_0 rfl ?_
  refine hl_iload_n h 1 dX6_owes_1 rfl ?_
  refine hl_callSiD h (st := [.ref (b 0)]) (c_X6_isInn_T l D cI cZ cJ b t x h1) (va_cwS 1 h.2.2.2.2.1 gX6_owes_X6_isInn rfl rfl rfl (by decide +kernel) ⟨Nat.le_of_ble_eq_true rfl, Nat.le_of_ble_eq_true rfl⟩) dX6_owes_2 rfl (Nat.le_of_ble_eq_true rfl) ⟨Nat.le_of_ble_eq_true rfl, Nat.le_of_ble_eq_true rfl⟩ rfl ?_
  refine hl_if_eq_F h 19 dX6_owes_5 (by decide) (by decide) ?_
  refine hl_iload_n h 2 dX6_owes_8 rfl ?_
  refine hl_callSiD h (st := [.ref (b 0)]) (c_X6_isInn_T l D cI cZ cJ b t y h2) (va_cwS 1 h.2.2.2.2.1 gX6_owes_X6_isInn rfl rfl rfl (by decide +kernel) ⟨Nat.le_of_ble_eq_true rfl, Nat.le_of_ble_eq_true rfl⟩) dX6_owes_9 rfl (Nat.le_of_ble_eq_true rfl) ⟨Nat.le_of_ble_eq_true rfl, Nat.le_of_ble_eq_true rfl⟩ rfl ?_
  refine hl_if_eq_F h 19 dX6_owes_12 (by decide) (by decide) ?_
  refine hl_iconst h 0 dX6_owes_15 (by decide) ?_
  refine hl_goto h 20 dX6_owes_16 (by decide) ?_
  refine hl_callViD h (st := []) (c_X6_isFine_0 l D cI cZ cJ b t 0 rfl) (cwV 1 h.2.2.2.2.1 gX6_owes_X6_isFine rfl rfl rfl (by decide +kernel) ⟨Nat.le_of_ble_eq_true rfl, Nat.le_of_ble_eq_true rfl⟩) hl_wm_0 rfl dX6_owes_20 rfl (Nat.le_of_ble_eq_true rfl) ⟨Nat.le_of_ble_eq_true rfl, Nat.le_of_ble_eq_true rfl⟩ rfl ?_
  refine hl_nmM (fun g10 e11 => ?_)
  refine hl_if_eq_F h 35 dX6_owes_23 (by decide) (by decide) ?_
  refine hl_aload_n h 0 dX6_owes_26 rfl ?_
  refine hl_iload_n h 1 dX6_owes_27 rfl ?_
  refine hl_iload_n h 2 dX6_owes_28 rfl ?_
  refine hl_callViD h (st := []) (c_X6_owed l D cI cZ cJ b g10 x y (by with_reducible assumption) (by with_reducible assumption)) (cwV 2 h.2.2.2.2.1 gX6_owes_X6_owed rfl rfl rfl (by decide +kernel) ⟨Nat.le_of_ble_eq_true rfl, Nat.le_of_ble_eq_true rfl⟩) hl_wm_0 rfl dX6_owes_29 rfl (Nat.le_of_ble_eq_true rfl) ⟨Nat.le_of_ble_eq_true rfl, Nat.le_of_ble_eq_true rfl⟩ rfl ?_
  refine hl_goto h 36 dX6_owes_32 (by decide) ?_
  exact hend dX6_owes_36 (fun h9 => nomatch h9) (by
    subst e11
    exact ⟨by rfl, (congrArg (hl_WM b cI cZ) (by rfl))⟩)
