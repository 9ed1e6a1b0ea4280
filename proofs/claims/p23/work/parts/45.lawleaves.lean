/-! The law: sum, booked -/
set_option maxHeartbeats 4000000 in
set_option maxRecDepth 100000 in
theorem c_L_sum (l : Launch) (D : va_G) (cI cZ cJ : ClassId) (a : Nat → Nat) (r g : Nat → Nat → Int32) (x : Int32) : hl_KI D (hl_ty cI cZ cJ) l yL_sum wsL_sum ({ frames := 2, cells := 0, slots := 0, locals := 42 } : Room) 0 0 [.ref (a 0), .int x] (hl_LW a cI cZ r g) (fun x9 w9 => x9 = (r_L_sum g x) ∧ w9 = hl_LW a cI cZ r g) := by
  refine hl_KI_of (cc := cL_sum) (maxL := 4) .int rfl (fun _ => Or.inr rfl) (by decide) rfl (Nat.le_of_ble_eq_true rfl) ?_
  intro p e s m args below meth c A Q h hend
  refine hl_ls (ls' := [(0, .ref (a 0)), (1, .int x)]) rfl ?_
  refine hl_iconst h 0 dL_sum_0 (by decide) ?_
  refine hl_istore_n h [(2, .int 0), (0, .ref (a 0)), (1, .int x)] dL_sum_1 (by decide) rfl ?_
  refine hl_iconst h 0 dL_sum_2 (by decide) ?_
  refine hl_istore_n h [(3, .int 0), (2, .int 0), (0, .ref (a 0)), (1, .int x)] dL_sum_3 (by decide) rfl ?_
  have lp4 : ∀ (n : Nat) (i : Nat) (u : Int32), (i + n = 4) → (hl_it (b_L_sum g x) i n u = r_L_sum g x) →  hl_X p l e ({ frames := 2, cells := 0, slots := 0, locals := 42 } : Room) s m args below meth c 4 D A 0 0 Q (hl_LW a cI cZ r g) 4 [(0, .ref (a 0)), (1, .int x), (2, .int u), (3, .int (nI i))] [] := by
    intro n
    induction n with
    | zero =>
      intro i u hi hv
      refine hl_iload_n h 3 dL_sum_4 rfl ?_
      refine hl_iconst h 4 dL_sum_5 (by decide) ?_
      refine hl_icmp_ge_T h 41 dL_sum_6 (by decide) (by rw [show i = 4 by omega]; decide) ?_
      refine hl_iload_n h 2 dL_sum_41 rfl ?_
      exact hend dL_sum_42 (fun h9 => nomatch h9) ⟨hv, rfl⟩
    | succ n ih =>
      intro i u hi hv
      have hvi : vp_in (nI i) 4 := vp_in_nI (by omega) (by decide)
      refine hl_iload_n h 3 dL_sum_4 rfl ?_
      refine hl_iconst h 4 dL_sum_5 (by decide) ?_
      refine hl_icmp_ge_F h 41 dL_sum_6 (by decide) (nI_ge (b := 4) (by omega) (by decide)) ?_
      refine hl_iload_n h 2 dL_sum_9 rfl ?_
      refine hl_iload_n h 1 dL_sum_10 rfl ?_
      refine hl_if_ne h 22 dL_sum_11 (by decide) (fun c1 => ?_) (fun c1 => ?_)
      · refine hl_aload_n h 0 dL_sum_22 rfl ?_
        refine hl_iload_n h 3 dL_sum_23 rfl ?_
        refine hl_callPViD h (st := [.int u]) (wc := hl_WC a cI cZ g) (wr := hl_LR a cI r) [4, 5, 6, 7, 8, 9, 10, 11, 12, 13, 14, 15, 16, 17, 18, 19, 20, 21, 22, 23, 24, 25, 26, 27, 28] [0, 1, 2, 3] rfl rfl (by decide) (by decide) (by decide) (c_X5_clean l D cI cZ cJ a g (nI i) hvi) (cwV 1 h.2.2.2.2.1 gL_sum_X5_clean rfl rfl rfl (by decide +kernel) ⟨Nat.le_of_ble_eq_true rfl, Nat.le_of_ble_eq_true rfl⟩) hl_lw_4 rfl dL_sum_24 rfl (Nat.le_of_ble_eq_true rfl) ⟨Nat.le_of_ble_eq_true rfl, Nat.le_of_ble_eq_true rfl⟩ rfl ?_
        refine hl_wd (w' := hl_LW a cI cZ r g) rfl ?_
        refine hl_aload_n h 0 dL_sum_27 rfl ?_
        refine hl_iload_n h 3 dL_sum_28 rfl ?_
        refine hl_callPViD h (st := [.int (g 3 (nI i).toNatClampNeg), .int u]) (wc := hl_WC a cI cZ g) (wr := hl_LR a cI r) [4, 5, 6, 7, 8, 9, 10, 11, 12, 13, 14, 15, 16, 17, 18, 19, 20, 21, 22, 23, 24, 25, 26, 27, 28] [0, 1, 2, 3] rfl rfl (by decide) (by decide) (by decide) (c_X5_away l D cI cZ cJ a g (nI i) hvi) (cwV 1 h.2.2.2.2.1 gL_sum_X5_away rfl rfl rfl (by decide +kernel) ⟨Nat.le_of_ble_eq_true rfl, Nat.le_of_ble_eq_true rfl⟩) hl_lw_4 rfl dL_sum_29 rfl (Nat.le_of_ble_eq_true rfl) ⟨Nat.le_of_ble_eq_true rfl, Nat.le_of_ble_eq_true rfl⟩ rfl ?_
        refine hl_wd (w' := hl_LW a cI cZ r g) rfl ?_
        refine hl_iadd h dL_sum_32 ?_
        refine hl_iadd h dL_sum_33 ?_
        refine hl_istore_n h [(2, .int (u + ((g 3 (nI i).toNatClampNeg) + (r_X2_awayOf g (nI i))))), (0, .ref (a 0)), (1, .int x), (3, .int (nI i))] dL_sum_34 (by decide) rfl ?_
        refine hl_iinc h 3 (nI (i + 1)) [(3, .int (nI (i + 1))), (2, .int (u + ((g 3 (nI i).toNatClampNeg) + (r_X2_awayOf g (nI i))))), (0, .ref (a 0)), (1, .int x)] dL_sum_35 rfl (hl_inc i) (by decide) rfl ?_
        refine hl_goto h 4 dL_sum_38 (by decide) ?_
        refine hl_lsub [2, 3, 1, 0] rfl ?_
        exact ih (i + 1) (u + ((g 3 (nI i).toNatClampNeg) + (r_X2_awayOf g (nI i)))) (by omega) (by rw [← hv, hl_it_s] <;> (congr 1 <;> (first | (simp [b_L_sum, c1]; done) | (symm; simp [b_L_sum, c1]))))
      · refine hl_aload_n h 0 dL_sum_14 rfl ?_
        refine hl_iload_n h 3 dL_sum_15 rfl ?_
        refine hl_callPViD h (st := [.int u]) (wc := hl_WC a cI cZ g) (wr := hl_LR a cI r) [4, 5, 6, 7, 8, 9, 10, 11, 12, 13, 14, 15, 16, 17, 18, 19, 20, 21, 22, 23, 24, 25, 26, 27, 28] [0, 1, 2, 3] rfl rfl (by decide) (by decide) (by decide) (c_X5_purse l D cI cZ cJ a g (nI i) hvi) (cwV 1 h.2.2.2.2.1 gL_sum_X5_purse rfl rfl rfl (by decide +kernel) ⟨Nat.le_of_ble_eq_true rfl, Nat.le_of_ble_eq_true rfl⟩) hl_lw_4 rfl dL_sum_16 rfl (Nat.le_of_ble_eq_true rfl) ⟨Nat.le_of_ble_eq_true rfl, Nat.le_of_ble_eq_true rfl⟩ rfl ?_
        refine hl_wd (w' := hl_LW a cI cZ r g) rfl ?_
        refine hl_goto h 33 dL_sum_19 (by decide) ?_
        refine hl_iadd h dL_sum_33 ?_
        refine hl_istore_n h [(2, .int (u + (g 21 (nI i).toNatClampNeg))), (0, .ref (a 0)), (1, .int x), (3, .int (nI i))] dL_sum_34 (by decide) rfl ?_
        refine hl_iinc h 3 (nI (i + 1)) [(3, .int (nI (i + 1))), (2, .int (u + (g 21 (nI i).toNatClampNeg))), (0, .ref (a 0)), (1, .int x)] dL_sum_35 rfl (hl_inc i) (by decide) rfl ?_
        refine hl_goto h 4 dL_sum_38 (by decide) ?_
        refine hl_lsub [2, 3, 1, 0] rfl ?_
        exact ih (i + 1) (u + (g 21 (nI i).toNatClampNeg)) (by omega) (by rw [← hv, hl_it_s] <;> (congr 1 <;> (first | (simp [b_L_sum, c1]; done) | (symm; simp [b_L_sum, c1]))))
  refine hl_lsub [2, 3, 1, 0] rfl ?_
  exact lp4 4 0 0 rfl rfl

set_option maxHeartbeats 4000000 in
set_option maxRecDepth 100000 in
theorem c_L_booked (l : Launch) (D : va_G) (cI cZ cJ : ClassId) (a : Nat → Nat) (r g : Nat → Nat → Int32) (y z : Int32) (N : Nat) (hN : N ≤ 60) (hc : y = nI N) : hl_KI D (hl_ty cI cZ cJ) l yL_booked wsL_booked ({ frames := 0, cells := 0, slots := 0, locals := 0 } : Room) 0 0 [.ref (a 26), .int y, .int z] (hl_LW a cI cZ r g) (fun x9 w9 => x9 = (r_L_booked r N z) ∧ w9 = hl_LW a cI cZ r g) := by
  refine hl_KI_of (cc := cL_booked) (maxL := 5) .int rfl (fun _ => Or.inr rfl) (by decide) rfl (Nat.le_of_ble_eq_true rfl) ?_
  intro p e s m args below meth c A Q h hend
  refine hl_ls (ls' := [(0, .ref (a 26)), (1, .int y), (2, .int z)]) rfl ?_
  refine hl_iconst h 0 dL_booked_0 (by decide) ?_
  refine hl_istore_n h [(3, .int 0), (0, .ref (a 26)), (1, .int y), (2, .int z)] dL_booked_1 (by decide) rfl ?_
  refine hl_iconst h 0 dL_booked_2 (by decide) ?_
  refine hl_istore h [(4, .int 0), (3, .int 0), (0, .ref (a 26)), (1, .int y), (2, .int z)] dL_booked_3 (by decide) rfl ?_
  have lp5 : ∀ (n : Nat) (i : Nat) (u : Int32), (i + n = N) → (hl_it (b_L_booked r z) i n u = r_L_booked r N z) →  hl_X p l e ({ frames := 0, cells := 0, slots := 0, locals := 0 } : Room) s m args below meth c 5 D A 0 0 Q (hl_LW a cI cZ r g) 5 [(0, .ref (a 26)), (1, .int y), (2, .int z), (3, .int u), (4, .int (nI i))] [] := by
    intro n
    induction n with
    | zero =>
      intro i u hi hv
      refine hl_iload h 4 dL_booked_5 rfl ?_
      refine hl_iload_n h 1 dL_booked_7 rfl ?_
      refine hl_icmp_ge_T h 33 dL_booked_8 (by decide) (by rw [hc]; exact nI_le (by omega) (by omega)) ?_
      refine hl_iload_n h 3 dL_booked_33 rfl ?_
      exact hend dL_booked_34 (fun h9 => nomatch h9) ⟨hv, rfl⟩
    | succ n ih =>
      intro i u hi hv
      refine hl_iload h 4 dL_booked_5 rfl ?_
      refine hl_iload_n h 1 dL_booked_7 rfl ?_
      refine hl_icmp_ge_F h 33 dL_booked_8 (by decide) (by rw [hc]; exact nI_ge (by omega) (by omega)) ?_
      refine hl_iload_n h 3 dL_booked_11 rfl ?_
      refine hl_aload_n h 0 dL_booked_12 rfl ?_
      refine hl_iload h 4 dL_booked_13 rfl ?_
      refine hl_ildN h hl_lw_1 0 rfl (i) dL_booked_15 rfl (by omega) (by decide) ?_
      refine hl_iload_n h 2 dL_booked_16 rfl ?_
      refine hl_icmp_ne h 24 dL_booked_17 (by decide) (fun c1 => ?_) (fun c1 => ?_)
      · refine hl_iconst h 0 dL_booked_24 (by decide) ?_
        refine hl_iadd h dL_booked_25 ?_
        refine hl_istore_n h [(3, .int (u + 0)), (0, .ref (a 26)), (1, .int y), (2, .int z), (4, .int (nI i))] dL_booked_26 (by decide) rfl ?_
        refine hl_iinc h 4 (nI (i + 1)) [(4, .int (nI (i + 1))), (3, .int (u + 0)), (0, .ref (a 26)), (1, .int y), (2, .int z)] dL_booked_27 rfl (hl_inc i) (by decide) rfl ?_
        refine hl_goto h 5 dL_booked_30 (by decide) ?_
        refine hl_lsub [2, 3, 4, 1, 0] rfl ?_
        exact ih (i + 1) (u + 0) (by omega) (by rw [← hv, hl_it_s] <;> (congr 1 <;> (first | (simp [b_L_booked, c1]; done) | (symm; simp [b_L_booked, c1]))))
      · refine hl_iconst h 1 dL_booked_20 (by decide) ?_
        refine hl_goto h 25 dL_booked_21 (by decide) ?_
        refine hl_iadd h dL_booked_25 ?_
        refine hl_istore_n h [(3, .int (u + 1)), (0, .ref (a 26)), (1, .int y), (2, .int z), (4, .int (nI i))] dL_booked_26 (by decide) rfl ?_
        refine hl_iinc h 4 (nI (i + 1)) [(4, .int (nI (i + 1))), (3, .int (u + 1)), (0, .ref (a 26)), (1, .int y), (2, .int z)] dL_booked_27 rfl (hl_inc i) (by decide) rfl ?_
        refine hl_goto h 5 dL_booked_30 (by decide) ?_
        refine hl_lsub [2, 3, 4, 1, 0] rfl ?_
        exact ih (i + 1) (u + 1) (by omega) (by rw [← hv, hl_it_s] <;> (congr 1 <;> (first | (simp [b_L_booked, c1]; done) | (symm; simp [b_L_booked, c1]))))
  refine hl_lsub [2, 3, 4, 1, 0] rfl ?_
  exact lp5 N 0 0 (Nat.zero_add N) rfl
