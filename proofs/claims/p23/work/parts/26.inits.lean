/-! The constructors, and the contents with which all begins -/
def hl_ten : Nat → Int32 := hl_it (fun k f => upd f k 10) 0 8 (fun _ => 0)
def hl_g0 : Nat → Nat → Int32 := fun k => bif Nat.beq k 1 then hl_ten else fun _ => 0
def hl_t0 : Nat → Nat → Int32 := fun k => bif Nat.beq k 1 then hl_ten else fun _ => 0
set_option maxHeartbeats 4000000 in
set_option maxRecDepth 100000 in
theorem c_X4_init (l : Launch) (D : va_G) (cI cZ cJ : ClassId) (h : Nat) : hl_KV D (hl_ty cI cZ cJ) l yX4_init wsX4_init ({ frames := 1, cells := 3, slots := 24, locals := 20 } : Room) 3 24 [.ref h] [(h, .inr (4, [.null, .null, .null]))] (fun w => ∃ q1 q2 q3 : Nat, w = [(h, .inr (4, [.ref q1, .ref q2, .ref q3])), (q1, .inl (cI, 8, .inl (fun _ => 0))), (q2, .inl (cI, 8, .inl hl_ten)), (q3, .inl (cI, 8, .inl (fun _ => 0)))]) := by
  refine hl_KV_of (cc := cX4_init) (maxL := 2) (by decide) rfl (Nat.le_of_ble_eq_true rfl) ?_
  intro p e s m args below meth c A Q h9 hnm hend
  have hi4 : ∀ z ∈ wsX40, z ∈ wsX4_init := by decide +kernel
  refine hl_ls (ls' := [(0, .ref h)]) rfl ?_
  refine hl_aload_n h9 0 dX4_init_0 rfl ?_
  refine hl_objInit h9 (by decide +kernel) (by decide +kernel) (by decide +kernel) dX4_init_1 (Nat.le_of_ble_eq_true rfl) (Nat.le_of_ble_eq_true rfl) ?_
  refine hl_aload_n h9 0 dX4_init_4 rfl ?_
  refine hl_bipush h9 8 dX4_init_5 (by decide) ?_
  refine hl_newa h9 (atype := .int) (ty := .int) (by decide +kernel) rfl (by intro n hn; cases hn) 0 rfl (N' := 8) (a0 := (8, .inl (fun _ => 0))) dX4_init_7 (fun _ => rfl) (by decide) (by decide) (Nat.le_of_ble_eq_true rfl) (Nat.le_of_ble_eq_true rfl) (Nat.le_of_ble_eq_true rfl) (fun q1 => ?_)
  refine hl_wd (w' := [(h, .inr (4, [.null, .null, .null])), (q1, .inl (cI, 8, .inl (fun _ => 0)))]) rfl ?_
  refine hl_putF h9 hi4 tyX4_ok nmX4 (q0 := 0) rfl rfl 0 dX4_init_9 (by decide) (by decide +kernel) (by decide) hnm rfl rfl rfl (Nat.le_of_ble_eq_true rfl) (w' := [(h, .inr (4, [.ref q1, .null, .null])), (q1, .inl (cI, 8, .inl (fun _ => 0)))]) rfl ?_
  refine hl_aload_n h9 0 dX4_init_12 rfl ?_
  refine hl_bipush h9 8 dX4_init_13 (by decide) ?_
  refine hl_newa h9 (atype := .int) (ty := .int) (by decide +kernel) rfl (by intro n hn; cases hn) 0 rfl (N' := 8) (a0 := (8, .inl (fun _ => 0))) dX4_init_15 (fun _ => rfl) (by decide) (by decide) (Nat.le_of_ble_eq_true rfl) (Nat.le_of_ble_eq_true rfl) (Nat.le_of_ble_eq_true rfl) (fun q2 => ?_)
  refine hl_wd (w' := [(h, .inr (4, [.ref q1, .null, .null])), (q1, .inl (cI, 8, .inl (fun _ => 0))), (q2, .inl (cI, 8, .inl (fun _ => 0)))]) rfl ?_
  refine hl_putF h9 hi4 tyX4_ok nmX4 (q0 := 0) rfl rfl 1 dX4_init_17 (by decide) (by decide +kernel) (by decide) hnm rfl rfl rfl (Nat.le_of_ble_eq_true rfl) (w' := [(h, .inr (4, [.ref q1, .ref q2, .null])), (q1, .inl (cI, 8, .inl (fun _ => 0))), (q2, .inl (cI, 8, .inl (fun _ => 0)))]) rfl ?_
  refine hl_aload_n h9 0 dX4_init_20 rfl ?_
  refine hl_bipush h9 8 dX4_init_21 (by decide) ?_
  refine hl_newa h9 (atype := .int) (ty := .int) (by decide +kernel) rfl (by intro n hn; cases hn) 0 rfl (N' := 8) (a0 := (8, .inl (fun _ => 0))) dX4_init_23 (fun _ => rfl) (by decide) (by decide) (Nat.le_of_ble_eq_true rfl) (Nat.le_of_ble_eq_true rfl) (Nat.le_of_ble_eq_true rfl) (fun q3 => ?_)
  refine hl_wd (w' := [(h, .inr (4, [.ref q1, .ref q2, .null])), (q1, .inl (cI, 8, .inl (fun _ => 0))), (q2, .inl (cI, 8, .inl (fun _ => 0))), (q3, .inl (cI, 8, .inl (fun _ => 0)))]) rfl ?_
  refine hl_putF h9 hi4 tyX4_ok nmX4 (q0 := 0) rfl rfl 2 dX4_init_25 (by decide) (by decide +kernel) (by decide) hnm rfl rfl rfl (Nat.le_of_ble_eq_true rfl) (w' := [(h, .inr (4, [.ref q1, .ref q2, .ref q3])), (q1, .inl (cI, 8, .inl (fun _ => 0))), (q2, .inl (cI, 8, .inl (fun _ => 0))), (q3, .inl (cI, 8, .inl (fun _ => 0)))]) rfl ?_
  refine hl_iconst h9 0 dX4_init_28 (by decide) ?_
  refine hl_istore_n h9 [(1, .int 0), (0, .ref h)] dX4_init_29 (by decide) rfl ?_
  have lp : ∀ (n i : Nat) (z : Nat → Int32), i + n = 8 → hl_it (fun k f => upd f k 10) i n z = hl_ten → hl_X p l e ({ frames := 1, cells := 3, slots := 24, locals := 20 } : Room) s m args below meth c 2 D A 3 24 Q [(h, .inr (4, [.ref q1, .ref q2, .ref q3])), (q1, .inl (cI, 8, .inl (fun _ => 0))), (q2, .inl (cI, 8, .inl z)), (q3, .inl (cI, 8, .inl (fun _ => 0)))] 30 [(0, .ref h), (1, .int (nI i))] [] := by
    intro n
    induction n with
    | zero =>
      intro i z hi hv
      refine hl_iload_n h9 1 dX4_init_30 rfl ?_
      refine hl_bipush h9 8 dX4_init_31 (by decide) ?_
      refine hl_icmp_ge_T h9 50 dX4_init_33 (by decide) (by rw [show i = 8 by omega]; decide) ?_
      obtain rfl : z = hl_ten := hv
      exact hend dX4_init_50 ⟨q1, q2, q3, rfl⟩
    | succ n ih =>
      intro i z hi hv
      refine hl_iload_n h9 1 dX4_init_30 rfl ?_
      refine hl_bipush h9 8 dX4_init_31 (by decide) ?_
      refine hl_icmp_ge_F h9 50 dX4_init_33 (by decide) (nI_ge (b := 8) (by omega) (by decide)) ?_
      refine hl_aload_n h9 0 dX4_init_36 rfl ?_
      refine hl_get h9 hi4 (q0 := 0) rfl rfl 1 rfl dX4_init_37 (by decide) (by decide +kernel) ?_
      refine hl_iload_n h9 1 dX4_init_40 rfl ?_
      refine hl_bipush h9 10 dX4_init_41 (by decide) ?_
      refine hl_istN h9 (q0 := 2) rfl 0 rfl i dX4_init_43 rfl (by omega) (by decide) (w' := [(h, .inr (4, [.ref q1, .ref q2, .ref q3])), (q1, .inl (cI, 8, .inl (fun _ => 0))), (q2, .inl (cI, 8, .inl (upd z i 10))), (q3, .inl (cI, 8, .inl (fun _ => 0)))]) rfl ?_
      refine hl_iinc h9 1 (nI (i + 1)) [(1, .int (nI (i + 1))), (0, .ref h)] dX4_init_44 rfl (hl_inc i) (by decide) rfl ?_
      refine hl_goto h9 30 dX4_init_47 (by decide) ?_
      refine hl_lsub [1, 0] rfl ?_
      exact ih (i + 1) (upd z i 10) (by omega) (by rw [← hv, hl_it_s])
  exact hl_lsub [1, 0] rfl (lp 8 0 (fun _ => 0) rfl rfl)

set_option maxHeartbeats 4000000 in
set_option maxRecDepth 100000 in
theorem c_X2_init (l : Launch) (D : va_G) (cI cZ cJ : ClassId) (h : Nat) : hl_KV D (hl_ty cI cZ cJ) l yX2_init wsX2_init ({ frames := 1, cells := 5, slots := 20, locals := 20 } : Room) 5 20 [.ref h] [(h, .inr (2, [.null, .null, .null, .null, .null, .int 0, .int 0]))] (fun w => ∃ q1 q2 q3 q4 q5 : Nat, w = [(h, .inr (2, [.ref q1, .ref q2, .ref q3, .ref q4, .ref q5, .int 0, .int 0])), (q1, .inl (cI, 4, .inl (fun _ => 0))), (q2, .inl (cI, 4, .inl (fun _ => 0))), (q3, .inl (cI, 4, .inl (fun _ => 0))), (q4, .inl (cI, 4, .inl (fun _ => 0))), (q5, .inl (cI, 4, .inl (fun _ => 0)))]) := by
  refine hl_KV_of (cc := cX2_init) (maxL := 1) (by decide) rfl (Nat.le_of_ble_eq_true rfl) ?_
  intro p e s m args below meth c A Q h9 hnm hend
  have hi2 : ∀ z ∈ wsX20, z ∈ wsX2_init := by decide +kernel
  refine hl_ls (ls' := [(0, .ref h)]) rfl ?_
  refine hl_aload_n h9 0 dX2_init_0 rfl ?_
  refine hl_objInit h9 (by decide +kernel) (by decide +kernel) (by decide +kernel) dX2_init_1 (Nat.le_of_ble_eq_true rfl) (Nat.le_of_ble_eq_true rfl) ?_
  refine hl_aload_n h9 0 dX2_init_4 rfl ?_
  refine hl_iconst h9 4 dX2_init_5 (by decide) ?_
  refine hl_newa h9 (atype := .int) (ty := .int) (by decide +kernel) rfl (by intro n hn; cases hn) 0 rfl (N' := 4) (a0 := (4, .inl (fun _ => 0))) dX2_init_6 (fun _ => rfl) (by decide) (by decide) (Nat.le_of_ble_eq_true rfl) (Nat.le_of_ble_eq_true rfl) (Nat.le_of_ble_eq_true rfl) (fun q1 => ?_)
  refine hl_wd (w' := [(h, .inr (2, [.null, .null, .null, .null, .null, .int 0, .int 0])), (q1, .inl (cI, 4, .inl (fun _ => 0)))]) rfl ?_
  refine hl_putF h9 hi2 tyX2_ok nmX2 (q0 := 0) rfl rfl 0 dX2_init_8 (by decide) (by decide +kernel) (by decide) hnm rfl rfl rfl (Nat.le_of_ble_eq_true rfl) (w' := [(h, .inr (2, [.ref q1, .null, .null, .null, .null, .int 0, .int 0])), (q1, .inl (cI, 4, .inl (fun _ => 0)))]) rfl ?_
  refine hl_aload_n h9 0 dX2_init_11 rfl ?_
  refine hl_iconst h9 4 dX2_init_12 (by decide) ?_
  refine hl_newa h9 (atype := .int) (ty := .int) (by decide +kernel) rfl (by intro n hn; cases hn) 0 rfl (N' := 4) (a0 := (4, .inl (fun _ => 0))) dX2_init_13 (fun _ => rfl) (by decide) (by decide) (Nat.le_of_ble_eq_true rfl) (Nat.le_of_ble_eq_true rfl) (Nat.le_of_ble_eq_true rfl) (fun q2 => ?_)
  refine hl_wd (w' := [(h, .inr (2, [.ref q1, .null, .null, .null, .null, .int 0, .int 0])), (q1, .inl (cI, 4, .inl (fun _ => 0))), (q2, .inl (cI, 4, .inl (fun _ => 0)))]) rfl ?_
  refine hl_putF h9 hi2 tyX2_ok nmX2 (q0 := 0) rfl rfl 1 dX2_init_15 (by decide) (by decide +kernel) (by decide) hnm rfl rfl rfl (Nat.le_of_ble_eq_true rfl) (w' := [(h, .inr (2, [.ref q1, .ref q2, .null, .null, .null, .int 0, .int 0])), (q1, .inl (cI, 4, .inl (fun _ => 0))), (q2, .inl (cI, 4, .inl (fun _ => 0)))]) rfl ?_
  refine hl_aload_n h9 0 dX2_init_18 rfl ?_
  refine hl_iconst h9 4 dX2_init_19 (by decide) ?_
  refine hl_newa h9 (atype := .int) (ty := .int) (by decide +kernel) rfl (by intro n hn; cases hn) 0 rfl (N' := 4) (a0 := (4, .inl (fun _ => 0))) dX2_init_20 (fun _ => rfl) (by decide) (by decide) (Nat.le_of_ble_eq_true rfl) (Nat.le_of_ble_eq_true rfl) (Nat.le_of_ble_eq_true rfl) (fun q3 => ?_)
  refine hl_wd (w' := [(h, .inr (2, [.ref q1, .ref q2, .null, .null, .null, .int 0, .int 0])), (q1, .inl (cI, 4, .inl (fun _ => 0))), (q2, .inl (cI, 4, .inl (fun _ => 0))), (q3, .inl (cI, 4, .inl (fun _ => 0)))]) rfl ?_
  refine hl_putF h9 hi2 tyX2_ok nmX2 (q0 := 0) rfl rfl 2 dX2_init_22 (by decide) (by decide +kernel) (by decide) hnm rfl rfl rfl (Nat.le_of_ble_eq_true rfl) (w' := [(h, .inr (2, [.ref q1, .ref q2, .ref q3, .null, .null, .int 0, .int 0])), (q1, .inl (cI, 4, .inl (fun _ => 0))), (q2, .inl (cI, 4, .inl (fun _ => 0))), (q3, .inl (cI, 4, .inl (fun _ => 0)))]) rfl ?_
  refine hl_aload_n h9 0 dX2_init_25 rfl ?_
  refine hl_iconst h9 4 dX2_init_26 (by decide) ?_
  refine hl_newa h9 (atype := .int) (ty := .int) (by decide +kernel) rfl (by intro n hn; cases hn) 0 rfl (N' := 4) (a0 := (4, .inl (fun _ => 0))) dX2_init_27 (fun _ => rfl) (by decide) (by decide) (Nat.le_of_ble_eq_true rfl) (Nat.le_of_ble_eq_true rfl) (Nat.le_of_ble_eq_true rfl) (fun q4 => ?_)
  refine hl_wd (w' := [(h, .inr (2, [.ref q1, .ref q2, .ref q3, .null, .null, .int 0, .int 0])), (q1, .inl (cI, 4, .inl (fun _ => 0))), (q2, .inl (cI, 4, .inl (fun _ => 0))), (q3, .inl (cI, 4, .inl (fun _ => 0))), (q4, .inl (cI, 4, .inl (fun _ => 0)))]) rfl ?_
  refine hl_putF h9 hi2 tyX2_ok nmX2 (q0 := 0) rfl rfl 3 dX2_init_29 (by decide) (by decide +kernel) (by decide) hnm rfl rfl rfl (Nat.le_of_ble_eq_true rfl) (w' := [(h, .inr (2, [.ref q1, .ref q2, .ref q3, .ref q4, .null, .int 0, .int 0])), (q1, .inl (cI, 4, .inl (fun _ => 0))), (q2, .inl (cI, 4, .inl (fun _ => 0))), (q3, .inl (cI, 4, .inl (fun _ => 0))), (q4, .inl (cI, 4, .inl (fun _ => 0)))]) rfl ?_
  refine hl_aload_n h9 0 dX2_init_32 rfl ?_
  refine hl_iconst h9 4 dX2_init_33 (by decide) ?_
  refine hl_newa h9 (atype := .int) (ty := .int) (by decide +kernel) rfl (by intro n hn; cases hn) 0 rfl (N' := 4) (a0 := (4, .inl (fun _ => 0))) dX2_init_34 (fun _ => rfl) (by decide) (by decide) (Nat.le_of_ble_eq_true rfl) (Nat.le_of_ble_eq_true rfl) (Nat.le_of_ble_eq_true rfl) (fun q5 => ?_)
  refine hl_wd (w' := [(h, .inr (2, [.ref q1, .ref q2, .ref q3, .ref q4, .null, .int 0, .int 0])), (q1, .inl (cI, 4, .inl (fun _ => 0))), (q2, .inl (cI, 4, .inl (fun _ => 0))), (q3, .inl (cI, 4, .inl (fun _ => 0))), (q4, .inl (cI, 4, .inl (fun _ => 0))), (q5, .inl (cI, 4, .inl (fun _ => 0)))]) rfl ?_
  refine hl_putF h9 hi2 tyX2_ok nmX2 (q0 := 0) rfl rfl 4 dX2_init_36 (by decide) (by decide +kernel) (by decide) hnm rfl rfl rfl (Nat.le_of_ble_eq_true rfl) (w' := [(h, .inr (2, [.ref q1, .ref q2, .ref q3, .ref q4, .ref q5, .int 0, .int 0])), (q1, .inl (cI, 4, .inl (fun _ => 0))), (q2, .inl (cI, 4, .inl (fun _ => 0))), (q3, .inl (cI, 4, .inl (fun _ => 0))), (q4, .inl (cI, 4, .inl (fun _ => 0))), (q5, .inl (cI, 4, .inl (fun _ => 0)))]) rfl ?_
  refine hl_aload_n h9 0 dX2_init_39 rfl ?_
  refine hl_iconst h9 0 dX2_init_40 (by decide) ?_
  refine hl_put h9 hi2 tyX2_ok nmX2 (q0 := 0) rfl rfl 5 dX2_init_41 (by decide) (by decide +kernel) (by decide) rfl rfl (Nat.le_of_ble_eq_true rfl) (w' := [(h, .inr (2, [.ref q1, .ref q2, .ref q3, .ref q4, .ref q5, .int 0, .int 0])), (q1, .inl (cI, 4, .inl (fun _ => 0))), (q2, .inl (cI, 4, .inl (fun _ => 0))), (q3, .inl (cI, 4, .inl (fun _ => 0))), (q4, .inl (cI, 4, .inl (fun _ => 0))), (q5, .inl (cI, 4, .inl (fun _ => 0)))]) rfl ?_
  refine hl_aload_n h9 0 dX2_init_44 rfl ?_
  refine hl_iconst h9 0 dX2_init_45 (by decide) ?_
  refine hl_put h9 hi2 tyX2_ok nmX2 (q0 := 0) rfl rfl 6 dX2_init_46 (by decide) (by decide +kernel) (by decide) rfl rfl (Nat.le_of_ble_eq_true rfl) (w' := [(h, .inr (2, [.ref q1, .ref q2, .ref q3, .ref q4, .ref q5, .int 0, .int 0])), (q1, .inl (cI, 4, .inl (fun _ => 0))), (q2, .inl (cI, 4, .inl (fun _ => 0))), (q3, .inl (cI, 4, .inl (fun _ => 0))), (q4, .inl (cI, 4, .inl (fun _ => 0))), (q5, .inl (cI, 4, .inl (fun _ => 0)))]) rfl ?_
  exact hend dX2_init_49 ⟨q1, q2, q3, q4, q5, rfl⟩

set_option maxHeartbeats 4000000 in
set_option maxRecDepth 100000 in
theorem c_X0_init (l : Launch) (D : va_G) (cI cZ cJ : ClassId) (h : Nat) : hl_KV D (hl_ty cI cZ cJ) l yX0_init wsX0_init ({ frames := 1, cells := 6, slots := 480, locals := 20 } : Room) 6 480 [.ref h] [(h, .inr (0, [.null, .null, .null, .null, .null, .null, .int 0]))] (fun w => ∃ q1 q2 q3 q4 q5 q6 : Nat, w = [(h, .inr (0, [.ref q1, .ref q2, .ref q3, .ref q4, .ref q5, .ref q6, .int 0])), (q1, .inl (cI, 80, .inl (fun _ => 0))), (q2, .inl (cI, 80, .inl (fun _ => 0))), (q3, .inl (cI, 80, .inl (fun _ => 0))), (q4, .inl (cI, 80, .inl (fun _ => 0))), (q5, .inl (cZ, 80, .inl (fun _ => 0))), (q6, .inl (cI, 80, .inl (fun _ => 0)))]) := by
  refine hl_KV_of (cc := cX0_init) (maxL := 1) (by decide) rfl (Nat.le_of_ble_eq_true rfl) ?_
  intro p e s m args below meth c A Q h9 hnm hend
  have hi0 : ∀ z ∈ wsX00, z ∈ wsX0_init := by decide +kernel
  refine hl_ls (ls' := [(0, .ref h)]) rfl ?_
  refine hl_aload_n h9 0 dX0_init_0 rfl ?_
  refine hl_objInit h9 (by decide +kernel) (by decide +kernel) (by decide +kernel) dX0_init_1 (Nat.le_of_ble_eq_true rfl) (Nat.le_of_ble_eq_true rfl) ?_
  refine hl_aload_n h9 0 dX0_init_4 rfl ?_
  refine hl_bipush h9 80 dX0_init_5 (by decide) ?_
  refine hl_newa h9 (atype := .int) (ty := .int) (by decide +kernel) rfl (by intro n hn; cases hn) 0 rfl (N' := 80) (a0 := (80, .inl (fun _ => 0))) dX0_init_7 (fun _ => rfl) (by decide) (by decide) (Nat.le_of_ble_eq_true rfl) (Nat.le_of_ble_eq_true rfl) (Nat.le_of_ble_eq_true rfl) (fun q1 => ?_)
  refine hl_wd (w' := [(h, .inr (0, [.null, .null, .null, .null, .null, .null, .int 0])), (q1, .inl (cI, 80, .inl (fun _ => 0)))]) rfl ?_
  refine hl_putF h9 hi0 tyX0_ok nmX0 (q0 := 0) rfl rfl 0 dX0_init_9 (by decide) (by decide +kernel) (by decide) hnm rfl rfl rfl (Nat.le_of_ble_eq_true rfl) (w' := [(h, .inr (0, [.ref q1, .null, .null, .null, .null, .null, .int 0])), (q1, .inl (cI, 80, .inl (fun _ => 0)))]) rfl ?_
  refine hl_aload_n h9 0 dX0_init_12 rfl ?_
  refine hl_bipush h9 80 dX0_init_13 (by decide) ?_
  refine hl_newa h9 (atype := .int) (ty := .int) (by decide +kernel) rfl (by intro n hn; cases hn) 0 rfl (N' := 80) (a0 := (80, .inl (fun _ => 0))) dX0_init_15 (fun _ => rfl) (by decide) (by decide) (Nat.le_of_ble_eq_true rfl) (Nat.le_of_ble_eq_true rfl) (Nat.le_of_ble_eq_true rfl) (fun q2 => ?_)
  refine hl_wd (w' := [(h, .inr (0, [.ref q1, .null, .null, .null, .null, .null, .int 0])), (q1, .inl (cI, 80, .inl (fun _ => 0))), (q2, .inl (cI, 80, .inl (fun _ => 0)))]) rfl ?_
  refine hl_putF h9 hi0 tyX0_ok nmX0 (q0 := 0) rfl rfl 1 dX0_init_17 (by decide) (by decide +kernel) (by decide) hnm rfl rfl rfl (Nat.le_of_ble_eq_true rfl) (w' := [(h, .inr (0, [.ref q1, .ref q2, .null, .null, .null, .null, .int 0])), (q1, .inl (cI, 80, .inl (fun _ => 0))), (q2, .inl (cI, 80, .inl (fun _ => 0)))]) rfl ?_
  refine hl_aload_n h9 0 dX0_init_20 rfl ?_
  refine hl_bipush h9 80 dX0_init_21 (by decide) ?_
  refine hl_newa h9 (atype := .int) (ty := .int) (by decide +kernel) rfl (by intro n hn; cases hn) 0 rfl (N' := 80) (a0 := (80, .inl (fun _ => 0))) dX0_init_23 (fun _ => rfl) (by decide) (by decide) (Nat.le_of_ble_eq_true rfl) (Nat.le_of_ble_eq_true rfl) (Nat.le_of_ble_eq_true rfl) (fun q3 => ?_)
  refine hl_wd (w' := [(h, .inr (0, [.ref q1, .ref q2, .null, .null, .null, .null, .int 0])), (q1, .inl (cI, 80, .inl (fun _ => 0))), (q2, .inl (cI, 80, .inl (fun _ => 0))), (q3, .inl (cI, 80, .inl (fun _ => 0)))]) rfl ?_
  refine hl_putF h9 hi0 tyX0_ok nmX0 (q0 := 0) rfl rfl 2 dX0_init_25 (by decide) (by decide +kernel) (by decide) hnm rfl rfl rfl (Nat.le_of_ble_eq_true rfl) (w' := [(h, .inr (0, [.ref q1, .ref q2, .ref q3, .null, .null, .null, .int 0])), (q1, .inl (cI, 80, .inl (fun _ => 0))), (q2, .inl (cI, 80, .inl (fun _ => 0))), (q3, .inl (cI, 80, .inl (fun _ => 0)))]) rfl ?_
  refine hl_aload_n h9 0 dX0_init_28 rfl ?_
  refine hl_bipush h9 80 dX0_init_29 (by decide) ?_
  refine hl_newa h9 (atype := .int) (ty := .int) (by decide +kernel) rfl (by intro n hn; cases hn) 0 rfl (N' := 80) (a0 := (80, .inl (fun _ => 0))) dX0_init_31 (fun _ => rfl) (by decide) (by decide) (Nat.le_of_ble_eq_true rfl) (Nat.le_of_ble_eq_true rfl) (Nat.le_of_ble_eq_true rfl) (fun q4 => ?_)
  refine hl_wd (w' := [(h, .inr (0, [.ref q1, .ref q2, .ref q3, .null, .null, .null, .int 0])), (q1, .inl (cI, 80, .inl (fun _ => 0))), (q2, .inl (cI, 80, .inl (fun _ => 0))), (q3, .inl (cI, 80, .inl (fun _ => 0))), (q4, .inl (cI, 80, .inl (fun _ => 0)))]) rfl ?_
  refine hl_putF h9 hi0 tyX0_ok nmX0 (q0 := 0) rfl rfl 3 dX0_init_33 (by decide) (by decide +kernel) (by decide) hnm rfl rfl rfl (Nat.le_of_ble_eq_true rfl) (w' := [(h, .inr (0, [.ref q1, .ref q2, .ref q3, .ref q4, .null, .null, .int 0])), (q1, .inl (cI, 80, .inl (fun _ => 0))), (q2, .inl (cI, 80, .inl (fun _ => 0))), (q3, .inl (cI, 80, .inl (fun _ => 0))), (q4, .inl (cI, 80, .inl (fun _ => 0)))]) rfl ?_
  refine hl_aload_n h9 0 dX0_init_36 rfl ?_
  refine hl_bipush h9 80 dX0_init_37 (by decide) ?_
  refine hl_newa h9 (atype := .boolean) (ty := .boolean) (by decide +kernel) rfl (by intro n hn; cases hn) 1 rfl (N' := 80) (a0 := (80, .inl (fun _ => 0))) dX0_init_39 (fun _ => rfl) (by decide) (by decide) (Nat.le_of_ble_eq_true rfl) (Nat.le_of_ble_eq_true rfl) (Nat.le_of_ble_eq_true rfl) (fun q5 => ?_)
  refine hl_wd (w' := [(h, .inr (0, [.ref q1, .ref q2, .ref q3, .ref q4, .null, .null, .int 0])), (q1, .inl (cI, 80, .inl (fun _ => 0))), (q2, .inl (cI, 80, .inl (fun _ => 0))), (q3, .inl (cI, 80, .inl (fun _ => 0))), (q4, .inl (cI, 80, .inl (fun _ => 0))), (q5, .inl (cZ, 80, .inl (fun _ => 0)))]) rfl ?_
  refine hl_putF h9 hi0 tyX0_ok nmX0 (q0 := 0) rfl rfl 4 dX0_init_41 (by decide) (by decide +kernel) (by decide) hnm rfl rfl rfl (Nat.le_of_ble_eq_true rfl) (w' := [(h, .inr (0, [.ref q1, .ref q2, .ref q3, .ref q4, .ref q5, .null, .int 0])), (q1, .inl (cI, 80, .inl (fun _ => 0))), (q2, .inl (cI, 80, .inl (fun _ => 0))), (q3, .inl (cI, 80, .inl (fun _ => 0))), (q4, .inl (cI, 80, .inl (fun _ => 0))), (q5, .inl (cZ, 80, .inl (fun _ => 0)))]) rfl ?_
  refine hl_aload_n h9 0 dX0_init_44 rfl ?_
  refine hl_bipush h9 80 dX0_init_45 (by decide) ?_
  refine hl_newa h9 (atype := .int) (ty := .int) (by decide +kernel) rfl (by intro n hn; cases hn) 0 rfl (N' := 80) (a0 := (80, .inl (fun _ => 0))) dX0_init_47 (fun _ => rfl) (by decide) (by decide) (Nat.le_of_ble_eq_true rfl) (Nat.le_of_ble_eq_true rfl) (Nat.le_of_ble_eq_true rfl) (fun q6 => ?_)
  refine hl_wd (w' := [(h, .inr (0, [.ref q1, .ref q2, .ref q3, .ref q4, .ref q5, .null, .int 0])), (q1, .inl (cI, 80, .inl (fun _ => 0))), (q2, .inl (cI, 80, .inl (fun _ => 0))), (q3, .inl (cI, 80, .inl (fun _ => 0))), (q4, .inl (cI, 80, .inl (fun _ => 0))), (q5, .inl (cZ, 80, .inl (fun _ => 0))), (q6, .inl (cI, 80, .inl (fun _ => 0)))]) rfl ?_
  refine hl_putF h9 hi0 tyX0_ok nmX0 (q0 := 0) rfl rfl 5 dX0_init_49 (by decide) (by decide +kernel) (by decide) hnm rfl rfl rfl (Nat.le_of_ble_eq_true rfl) (w' := [(h, .inr (0, [.ref q1, .ref q2, .ref q3, .ref q4, .ref q5, .ref q6, .int 0])), (q1, .inl (cI, 80, .inl (fun _ => 0))), (q2, .inl (cI, 80, .inl (fun _ => 0))), (q3, .inl (cI, 80, .inl (fun _ => 0))), (q4, .inl (cI, 80, .inl (fun _ => 0))), (q5, .inl (cZ, 80, .inl (fun _ => 0))), (q6, .inl (cI, 80, .inl (fun _ => 0)))]) rfl ?_
  refine hl_aload_n h9 0 dX0_init_52 rfl ?_
  refine hl_iconst h9 0 dX0_init_53 (by decide) ?_
  refine hl_put h9 hi0 tyX0_ok nmX0 (q0 := 0) rfl rfl 6 dX0_init_54 (by decide) (by decide +kernel) (by decide) rfl rfl (Nat.le_of_ble_eq_true rfl) (w' := [(h, .inr (0, [.ref q1, .ref q2, .ref q3, .ref q4, .ref q5, .ref q6, .int 0])), (q1, .inl (cI, 80, .inl (fun _ => 0))), (q2, .inl (cI, 80, .inl (fun _ => 0))), (q3, .inl (cI, 80, .inl (fun _ => 0))), (q4, .inl (cI, 80, .inl (fun _ => 0))), (q5, .inl (cZ, 80, .inl (fun _ => 0))), (q6, .inl (cI, 80, .inl (fun _ => 0)))]) rfl ?_
  exact hend dX0_init_57 ⟨q1, q2, q3, q4, q5, q6, rfl⟩

set_option maxHeartbeats 4000000 in
set_option maxRecDepth 100000 in
theorem c_X3_init (l : Launch) (D : va_G) (cI cZ cJ : ClassId) (h : Nat) : hl_KV D (hl_ty cI cZ cJ) l yX3_init wsX3_init ({ frames := 1, cells := 3, slots := 240, locals := 20 } : Room) 3 240 [.ref h] [(h, .inr (3, [.null, .null, .null, .int 0]))] (fun w => ∃ q1 q2 q3 : Nat, w = [(h, .inr (3, [.ref q1, .ref q2, .ref q3, .int 0])), (q1, .inl (cI, 80, .inl (fun _ => 0))), (q2, .inl (cI, 80, .inl (fun _ => 0))), (q3, .inl (cI, 80, .inl (fun _ => 0)))]) := by
  refine hl_KV_of (cc := cX3_init) (maxL := 1) (by decide) rfl (Nat.le_of_ble_eq_true rfl) ?_
  intro p e s m args below meth c A Q h9 hnm hend
  have hi3 : ∀ z ∈ wsX30, z ∈ wsX3_init := by decide +kernel
  refine hl_ls (ls' := [(0, .ref h)]) rfl ?_
  refine hl_aload_n h9 0 dX3_init_0 rfl ?_
  refine hl_objInit h9 (by decide +kernel) (by decide +kernel) (by decide +kernel) dX3_init_1 (Nat.le_of_ble_eq_true rfl) (Nat.le_of_ble_eq_true rfl) ?_
  refine hl_aload_n h9 0 dX3_init_4 rfl ?_
  refine hl_bipush h9 80 dX3_init_5 (by decide) ?_
  refine hl_newa h9 (atype := .int) (ty := .int) (by decide +kernel) rfl (by intro n hn; cases hn) 0 rfl (N' := 80) (a0 := (80, .inl (fun _ => 0))) dX3_init_7 (fun _ => rfl) (by decide) (by decide) (Nat.le_of_ble_eq_true rfl) (Nat.le_of_ble_eq_true rfl) (Nat.le_of_ble_eq_true rfl) (fun q1 => ?_)
  refine hl_wd (w' := [(h, .inr (3, [.null, .null, .null, .int 0])), (q1, .inl (cI, 80, .inl (fun _ => 0)))]) rfl ?_
  refine hl_putF h9 hi3 tyX3_ok nmX3 (q0 := 0) rfl rfl 0 dX3_init_9 (by decide) (by decide +kernel) (by decide) hnm rfl rfl rfl (Nat.le_of_ble_eq_true rfl) (w' := [(h, .inr (3, [.ref q1, .null, .null, .int 0])), (q1, .inl (cI, 80, .inl (fun _ => 0)))]) rfl ?_
  refine hl_aload_n h9 0 dX3_init_12 rfl ?_
  refine hl_bipush h9 80 dX3_init_13 (by decide) ?_
  refine hl_newa h9 (atype := .int) (ty := .int) (by decide +kernel) rfl (by intro n hn; cases hn) 0 rfl (N' := 80) (a0 := (80, .inl (fun _ => 0))) dX3_init_15 (fun _ => rfl) (by decide) (by decide) (Nat.le_of_ble_eq_true rfl) (Nat.le_of_ble_eq_true rfl) (Nat.le_of_ble_eq_true rfl) (fun q2 => ?_)
  refine hl_wd (w' := [(h, .inr (3, [.ref q1, .null, .null, .int 0])), (q1, .inl (cI, 80, .inl (fun _ => 0))), (q2, .inl (cI, 80, .inl (fun _ => 0)))]) rfl ?_
  refine hl_putF h9 hi3 tyX3_ok nmX3 (q0 := 0) rfl rfl 1 dX3_init_17 (by decide) (by decide +kernel) (by decide) hnm rfl rfl rfl (Nat.le_of_ble_eq_true rfl) (w' := [(h, .inr (3, [.ref q1, .ref q2, .null, .int 0])), (q1, .inl (cI, 80, .inl (fun _ => 0))), (q2, .inl (cI, 80, .inl (fun _ => 0)))]) rfl ?_
  refine hl_aload_n h9 0 dX3_init_20 rfl ?_
  refine hl_bipush h9 80 dX3_init_21 (by decide) ?_
  refine hl_newa h9 (atype := .int) (ty := .int) (by decide +kernel) rfl (by intro n hn; cases hn) 0 rfl (N' := 80) (a0 := (80, .inl (fun _ => 0))) dX3_init_23 (fun _ => rfl) (by decide) (by decide) (Nat.le_of_ble_eq_true rfl) (Nat.le_of_ble_eq_true rfl) (Nat.le_of_ble_eq_true rfl) (fun q3 => ?_)
  refine hl_wd (w' := [(h, .inr (3, [.ref q1, .ref q2, .null, .int 0])), (q1, .inl (cI, 80, .inl (fun _ => 0))), (q2, .inl (cI, 80, .inl (fun _ => 0))), (q3, .inl (cI, 80, .inl (fun _ => 0)))]) rfl ?_
  refine hl_putF h9 hi3 tyX3_ok nmX3 (q0 := 0) rfl rfl 2 dX3_init_25 (by decide) (by decide +kernel) (by decide) hnm rfl rfl rfl (Nat.le_of_ble_eq_true rfl) (w' := [(h, .inr (3, [.ref q1, .ref q2, .ref q3, .int 0])), (q1, .inl (cI, 80, .inl (fun _ => 0))), (q2, .inl (cI, 80, .inl (fun _ => 0))), (q3, .inl (cI, 80, .inl (fun _ => 0)))]) rfl ?_
  refine hl_aload_n h9 0 dX3_init_28 rfl ?_
  refine hl_iconst h9 0 dX3_init_29 (by decide) ?_
  refine hl_put h9 hi3 tyX3_ok nmX3 (q0 := 0) rfl rfl 3 dX3_init_30 (by decide) (by decide +kernel) (by decide) rfl rfl (Nat.le_of_ble_eq_true rfl) (w' := [(h, .inr (3, [.ref q1, .ref q2, .ref q3, .int 0])), (q1, .inl (cI, 80, .inl (fun _ => 0))), (q2, .inl (cI, 80, .inl (fun _ => 0))), (q3, .inl (cI, 80, .inl (fun _ => 0)))]) rfl ?_
  exact hend dX3_init_33 ⟨q1, q2, q3, rfl⟩

set_option maxHeartbeats 4000000 in
set_option maxRecDepth 100000 in
theorem c_X1_init (l : Launch) (D : va_G) (cI cZ cJ : ClassId) (h : Nat) : hl_KV D (hl_ty cI cZ cJ) l yX1_init wsX1_init ({ frames := 1, cells := 2, slots := 20, locals := 20 } : Room) 2 20 [.ref h] [(h, .inr (1, [.null, .null]))] (fun w => ∃ q1 q2 : Nat, w = [(h, .inr (1, [.ref q1, .ref q2])), (q1, .inl (cI, 4, .inl (fun _ => 0))), (q2, .inl (cI, 16, .inl (fun _ => 0)))]) := by
  refine hl_KV_of (cc := cX1_init) (maxL := 1) (by decide) rfl (Nat.le_of_ble_eq_true rfl) ?_
  intro p e s m args below meth c A Q h9 hnm hend
  have hi1 : ∀ z ∈ wsX10, z ∈ wsX1_init := by decide +kernel
  refine hl_ls (ls' := [(0, .ref h)]) rfl ?_
  refine hl_aload_n h9 0 dX1_init_0 rfl ?_
  refine hl_objInit h9 (by decide +kernel) (by decide +kernel) (by decide +kernel) dX1_init_1 (Nat.le_of_ble_eq_true rfl) (Nat.le_of_ble_eq_true rfl) ?_
  refine hl_aload_n h9 0 dX1_init_4 rfl ?_
  refine hl_iconst h9 4 dX1_init_5 (by decide) ?_
  refine hl_newa h9 (atype := .int) (ty := .int) (by decide +kernel) rfl (by intro n hn; cases hn) 0 rfl (N' := 4) (a0 := (4, .inl (fun _ => 0))) dX1_init_6 (fun _ => rfl) (by decide) (by decide) (Nat.le_of_ble_eq_true rfl) (Nat.le_of_ble_eq_true rfl) (Nat.le_of_ble_eq_true rfl) (fun q1 => ?_)
  refine hl_wd (w' := [(h, .inr (1, [.null, .null])), (q1, .inl (cI, 4, .inl (fun _ => 0)))]) rfl ?_
  refine hl_putF h9 hi1 tyX1_ok nmX1 (q0 := 0) rfl rfl 0 dX1_init_8 (by decide) (by decide +kernel) (by decide) hnm rfl rfl rfl (Nat.le_of_ble_eq_true rfl) (w' := [(h, .inr (1, [.ref q1, .null])), (q1, .inl (cI, 4, .inl (fun _ => 0)))]) rfl ?_
  refine hl_aload_n h9 0 dX1_init_11 rfl ?_
  refine hl_bipush h9 16 dX1_init_12 (by decide) ?_
  refine hl_newa h9 (atype := .int) (ty := .int) (by decide +kernel) rfl (by intro n hn; cases hn) 0 rfl (N' := 16) (a0 := (16, .inl (fun _ => 0))) dX1_init_14 (fun _ => rfl) (by decide) (by decide) (Nat.le_of_ble_eq_true rfl) (Nat.le_of_ble_eq_true rfl) (Nat.le_of_ble_eq_true rfl) (fun q2 => ?_)
  refine hl_wd (w' := [(h, .inr (1, [.ref q1, .null])), (q1, .inl (cI, 4, .inl (fun _ => 0))), (q2, .inl (cI, 16, .inl (fun _ => 0)))]) rfl ?_
  refine hl_putF h9 hi1 tyX1_ok nmX1 (q0 := 0) rfl rfl 1 dX1_init_16 (by decide) (by decide +kernel) (by decide) hnm rfl rfl rfl (Nat.le_of_ble_eq_true rfl) (w' := [(h, .inr (1, [.ref q1, .ref q2])), (q1, .inl (cI, 4, .inl (fun _ => 0))), (q2, .inl (cI, 16, .inl (fun _ => 0)))]) rfl ?_
  exact hend dX1_init_19 ⟨q1, q2, rfl⟩

set_option maxHeartbeats 4000000 in
set_option maxRecDepth 100000 in
theorem c_X5_init (l : Launch) (D : va_G) (cI cZ cJ : ClassId) (h : Nat) : hl_KV D (hl_ty cI cZ cJ) l yX5_init wsX5_init ({ frames := 2, cells := 24, slots := 807, locals := 41 } : Room) 24 807 [.ref h] [(h, .inr (5, [.null, .null, .null, .null, .null, .int 0]))] (fun w => ∃ a : Nat → Nat, a 0 = h ∧ w = hl_WC a cI cZ hl_g0) := by
  refine hl_KV_of (cc := cX5_init) (maxL := 1) (by decide) rfl (Nat.le_of_ble_eq_true rfl) ?_
  intro p e s m args below meth c A Q h9 hnm hend
  have hi0 : ∀ z ∈ wsX00, z ∈ wsX5_init := by decide +kernel
  have hi1 : ∀ z ∈ wsX10, z ∈ wsX5_init := by decide +kernel
  have hi2 : ∀ z ∈ wsX20, z ∈ wsX5_init := by decide +kernel
  have hi3 : ∀ z ∈ wsX30, z ∈ wsX5_init := by decide +kernel
  have hi4 : ∀ z ∈ wsX40, z ∈ wsX5_init := by decide +kernel
  have hi5 : ∀ z ∈ wsX50, z ∈ wsX5_init := by decide +kernel
  refine hl_ls (ls' := [(0, .ref h)]) rfl ?_
  refine hl_aload_n h9 0 dX5_init_0 rfl ?_
  refine hl_objInit h9 (by decide +kernel) (by decide +kernel) (by decide +kernel) dX5_init_1 (Nat.le_of_ble_eq_true rfl) (Nat.le_of_ble_eq_true rfl) ?_
  refine hl_aload_n h9 0 dX5_init_4 rfl ?_
  refine hl_new h9 hi4 tyX4_ok (ci := 4) rfl dX5_init_5 (by decide +kernel) (by decide +kernel) (by decide +kernel) [.null, .null, .null] (fun j hj => by rcases (show j = 0 ∨ j = 1 ∨ j = 2 by omega) with rfl | rfl | rfl <;> rfl) (Nat.le_of_ble_eq_true rfl) (Nat.le_of_ble_eq_true rfl) (fun q1 => ?_)
  refine hl_wd (w' := [(h, .inr (5, [.null, .null, .null, .null, .null, .int 0])), (q1, .inr (4, [.null, .null, .null]))]) rfl ?_
  refine hl_dup h9 dX5_init_8 rfl ?_
  refine hl_callPI h9 (st := [.ref q1, .ref h]) (As := []) (wc := [(q1, .inr (4, [.null, .null, .null]))]) (wr := [(h, .inr (5, [.null, .null, .null, .null, .null, .int 0]))]) [1] [0] rfl rfl (by decide) (by decide) (by decide) (c_X4_init l D cI cZ cJ q1) (cwI 0 h9.2.2.2.2.1 gX5_init_X4_init rfl rfl rfl (h9.2.2.2.2.1 _ (by decide +kernel)) (h9.2.2.2.2.1 _ (by decide +kernel)) (h9.2.2.2.2.1 _ (by decide +kernel)) rfl (by decide +kernel) ⟨Nat.le_of_ble_eq_true rfl, Nat.le_of_ble_eq_true rfl⟩) dX5_init_9 rfl (Nat.le_of_ble_eq_true rfl) ⟨Nat.le_of_ble_eq_true rfl, Nat.le_of_ble_eq_true rfl⟩ rfl (fun w1 hw1 => ?_)
  obtain ⟨q2, q3, q4, rfl⟩ := hw1
  refine hl_wd (w' := [(h, .inr (5, [.null, .null, .null, .null, .null, .int 0])), (q1, .inr (4, [.ref q2, .ref q3, .ref q4])), (q2, .inl (cI, 8, .inl (fun _ => 0))), (q3, .inl (cI, 8, .inl hl_ten)), (q4, .inl (cI, 8, .inl (fun _ => 0)))]) rfl ?_
  refine hl_putF h9 hi5 tyX5_ok nmX5 (q0 := 0) rfl rfl 0 dX5_init_12 (by decide) (by decide +kernel) (by decide) hnm rfl rfl rfl (Nat.le_of_ble_eq_true rfl) (w' := [(h, .inr (5, [.ref q1, .null, .null, .null, .null, .int 0])), (q1, .inr (4, [.ref q2, .ref q3, .ref q4])), (q2, .inl (cI, 8, .inl (fun _ => 0))), (q3, .inl (cI, 8, .inl hl_ten)), (q4, .inl (cI, 8, .inl (fun _ => 0)))]) rfl ?_
  refine hl_aload_n h9 0 dX5_init_15 rfl ?_
  refine hl_new h9 hi2 tyX2_ok (ci := 2) rfl dX5_init_16 (by decide +kernel) (by decide +kernel) (by decide +kernel) [.null, .null, .null, .null, .null, .int 0, .int 0] (fun j hj => by rcases (show j = 0 ∨ j = 1 ∨ j = 2 ∨ j = 3 ∨ j = 4 ∨ j = 5 ∨ j = 6 by omega) with rfl | rfl | rfl | rfl | rfl | rfl | rfl <;> rfl) (Nat.le_of_ble_eq_true rfl) (Nat.le_of_ble_eq_true rfl) (fun q5 => ?_)
  refine hl_wd (w' := [(h, .inr (5, [.ref q1, .null, .null, .null, .null, .int 0])), (q1, .inr (4, [.ref q2, .ref q3, .ref q4])), (q2, .inl (cI, 8, .inl (fun _ => 0))), (q3, .inl (cI, 8, .inl hl_ten)), (q4, .inl (cI, 8, .inl (fun _ => 0))), (q5, .inr (2, [.null, .null, .null, .null, .null, .int 0, .int 0]))]) rfl ?_
  refine hl_dup h9 dX5_init_19 rfl ?_
  refine hl_callPI h9 (st := [.ref q5, .ref h]) (As := []) (wc := [(q5, .inr (2, [.null, .null, .null, .null, .null, .int 0, .int 0]))]) (wr := [(h, .inr (5, [.ref q1, .null, .null, .null, .null, .int 0])), (q1, .inr (4, [.ref q2, .ref q3, .ref q4])), (q2, .inl (cI, 8, .inl (fun _ => 0))), (q3, .inl (cI, 8, .inl hl_ten)), (q4, .inl (cI, 8, .inl (fun _ => 0)))]) [5] [0, 1, 2, 3, 4] rfl rfl (by decide) (by decide) (by decide) (c_X2_init l D cI cZ cJ q5) (cwI 0 h9.2.2.2.2.1 gX5_init_X2_init rfl rfl rfl (h9.2.2.2.2.1 _ (by decide +kernel)) (h9.2.2.2.2.1 _ (by decide +kernel)) (h9.2.2.2.2.1 _ (by decide +kernel)) rfl (by decide +kernel) ⟨Nat.le_of_ble_eq_true rfl, Nat.le_of_ble_eq_true rfl⟩) dX5_init_20 rfl (Nat.le_of_ble_eq_true rfl) ⟨Nat.le_of_ble_eq_true rfl, Nat.le_of_ble_eq_true rfl⟩ rfl (fun w1 hw1 => ?_)
  obtain ⟨q6, q7, q8, q9, q10, rfl⟩ := hw1
  refine hl_wd (w' := [(h, .inr (5, [.ref q1, .null, .null, .null, .null, .int 0])), (q1, .inr (4, [.ref q2, .ref q3, .ref q4])), (q2, .inl (cI, 8, .inl (fun _ => 0))), (q3, .inl (cI, 8, .inl hl_ten)), (q4, .inl (cI, 8, .inl (fun _ => 0))), (q5, .inr (2, [.ref q6, .ref q7, .ref q8, .ref q9, .ref q10, .int 0, .int 0])), (q6, .inl (cI, 4, .inl (fun _ => 0))), (q7, .inl (cI, 4, .inl (fun _ => 0))), (q8, .inl (cI, 4, .inl (fun _ => 0))), (q9, .inl (cI, 4, .inl (fun _ => 0))), (q10, .inl (cI, 4, .inl (fun _ => 0)))]) rfl ?_
  refine hl_putF h9 hi5 tyX5_ok nmX5 (q0 := 0) rfl rfl 1 dX5_init_23 (by decide) (by decide +kernel) (by decide) hnm rfl rfl rfl (Nat.le_of_ble_eq_true rfl) (w' := [(h, .inr (5, [.ref q1, .ref q5, .null, .null, .null, .int 0])), (q1, .inr (4, [.ref q2, .ref q3, .ref q4])), (q2, .inl (cI, 8, .inl (fun _ => 0))), (q3, .inl (cI, 8, .inl hl_ten)), (q4, .inl (cI, 8, .inl (fun _ => 0))), (q5, .inr (2, [.ref q6, .ref q7, .ref q8, .ref q9, .ref q10, .int 0, .int 0])), (q6, .inl (cI, 4, .inl (fun _ => 0))), (q7, .inl (cI, 4, .inl (fun _ => 0))), (q8, .inl (cI, 4, .inl (fun _ => 0))), (q9, .inl (cI, 4, .inl (fun _ => 0))), (q10, .inl (cI, 4, .inl (fun _ => 0)))]) rfl ?_
  refine hl_aload_n h9 0 dX5_init_26 rfl ?_
  refine hl_new h9 hi0 tyX0_ok (ci := 0) rfl dX5_init_27 (by decide +kernel) (by decide +kernel) (by decide +kernel) [.null, .null, .null, .null, .null, .null, .int 0] (fun j hj => by rcases (show j = 0 ∨ j = 1 ∨ j = 2 ∨ j = 3 ∨ j = 4 ∨ j = 5 ∨ j = 6 by omega) with rfl | rfl | rfl | rfl | rfl | rfl | rfl <;> rfl) (Nat.le_of_ble_eq_true rfl) (Nat.le_of_ble_eq_true rfl) (fun q11 => ?_)
  refine hl_wd (w' := [(h, .inr (5, [.ref q1, .ref q5, .null, .null, .null, .int 0])), (q1, .inr (4, [.ref q2, .ref q3, .ref q4])), (q2, .inl (cI, 8, .inl (fun _ => 0))), (q3, .inl (cI, 8, .inl hl_ten)), (q4, .inl (cI, 8, .inl (fun _ => 0))), (q5, .inr (2, [.ref q6, .ref q7, .ref q8, .ref q9, .ref q10, .int 0, .int 0])), (q6, .inl (cI, 4, .inl (fun _ => 0))), (q7, .inl (cI, 4, .inl (fun _ => 0))), (q8, .inl (cI, 4, .inl (fun _ => 0))), (q9, .inl (cI, 4, .inl (fun _ => 0))), (q10, .inl (cI, 4, .inl (fun _ => 0))), (q11, .inr (0, [.null, .null, .null, .null, .null, .null, .int 0]))]) rfl ?_
  refine hl_dup h9 dX5_init_30 rfl ?_
  refine hl_callPI h9 (st := [.ref q11, .ref h]) (As := []) (wc := [(q11, .inr (0, [.null, .null, .null, .null, .null, .null, .int 0]))]) (wr := [(h, .inr (5, [.ref q1, .ref q5, .null, .null, .null, .int 0])), (q1, .inr (4, [.ref q2, .ref q3, .ref q4])), (q2, .inl (cI, 8, .inl (fun _ => 0))), (q3, .inl (cI, 8, .inl hl_ten)), (q4, .inl (cI, 8, .inl (fun _ => 0))), (q5, .inr (2, [.ref q6, .ref q7, .ref q8, .ref q9, .ref q10, .int 0, .int 0])), (q6, .inl (cI, 4, .inl (fun _ => 0))), (q7, .inl (cI, 4, .inl (fun _ => 0))), (q8, .inl (cI, 4, .inl (fun _ => 0))), (q9, .inl (cI, 4, .inl (fun _ => 0))), (q10, .inl (cI, 4, .inl (fun _ => 0)))]) [11] [0, 1, 2, 3, 4, 5, 6, 7, 8, 9, 10] rfl rfl (by decide) (by decide) (by decide) (c_X0_init l D cI cZ cJ q11) (cwI 0 h9.2.2.2.2.1 gX5_init_X0_init rfl rfl rfl (h9.2.2.2.2.1 _ (by decide +kernel)) (h9.2.2.2.2.1 _ (by decide +kernel)) (h9.2.2.2.2.1 _ (by decide +kernel)) rfl (by decide +kernel) ⟨Nat.le_of_ble_eq_true rfl, Nat.le_of_ble_eq_true rfl⟩) dX5_init_31 rfl (Nat.le_of_ble_eq_true rfl) ⟨Nat.le_of_ble_eq_true rfl, Nat.le_of_ble_eq_true rfl⟩ rfl (fun w1 hw1 => ?_)
  obtain ⟨q12, q13, q14, q15, q16, q17, rfl⟩ := hw1
  refine hl_wd (w' := [(h, .inr (5, [.ref q1, .ref q5, .null, .null, .null, .int 0])), (q1, .inr (4, [.ref q2, .ref q3, .ref q4])), (q2, .inl (cI, 8, .inl (fun _ => 0))), (q3, .inl (cI, 8, .inl hl_ten)), (q4, .inl (cI, 8, .inl (fun _ => 0))), (q5, .inr (2, [.ref q6, .ref q7, .ref q8, .ref q9, .ref q10, .int 0, .int 0])), (q6, .inl (cI, 4, .inl (fun _ => 0))), (q7, .inl (cI, 4, .inl (fun _ => 0))), (q8, .inl (cI, 4, .inl (fun _ => 0))), (q9, .inl (cI, 4, .inl (fun _ => 0))), (q10, .inl (cI, 4, .inl (fun _ => 0))), (q11, .inr (0, [.ref q12, .ref q13, .ref q14, .ref q15, .ref q16, .ref q17, .int 0])), (q12, .inl (cI, 80, .inl (fun _ => 0))), (q13, .inl (cI, 80, .inl (fun _ => 0))), (q14, .inl (cI, 80, .inl (fun _ => 0))), (q15, .inl (cI, 80, .inl (fun _ => 0))), (q16, .inl (cZ, 80, .inl (fun _ => 0))), (q17, .inl (cI, 80, .inl (fun _ => 0)))]) rfl ?_
  refine hl_putF h9 hi5 tyX5_ok nmX5 (q0 := 0) rfl rfl 2 dX5_init_34 (by decide) (by decide +kernel) (by decide) hnm rfl rfl rfl (Nat.le_of_ble_eq_true rfl) (w' := [(h, .inr (5, [.ref q1, .ref q5, .ref q11, .null, .null, .int 0])), (q1, .inr (4, [.ref q2, .ref q3, .ref q4])), (q2, .inl (cI, 8, .inl (fun _ => 0))), (q3, .inl (cI, 8, .inl hl_ten)), (q4, .inl (cI, 8, .inl (fun _ => 0))), (q5, .inr (2, [.ref q6, .ref q7, .ref q8, .ref q9, .ref q10, .int 0, .int 0])), (q6, .inl (cI, 4, .inl (fun _ => 0))), (q7, .inl (cI, 4, .inl (fun _ => 0))), (q8, .inl (cI, 4, .inl (fun _ => 0))), (q9, .inl (cI, 4, .inl (fun _ => 0))), (q10, .inl (cI, 4, .inl (fun _ => 0))), (q11, .inr (0, [.ref q12, .ref q13, .ref q14, .ref q15, .ref q16, .ref q17, .int 0])), (q12, .inl (cI, 80, .inl (fun _ => 0))), (q13, .inl (cI, 80, .inl (fun _ => 0))), (q14, .inl (cI, 80, .inl (fun _ => 0))), (q15, .inl (cI, 80, .inl (fun _ => 0))), (q16, .inl (cZ, 80, .inl (fun _ => 0))), (q17, .inl (cI, 80, .inl (fun _ => 0)))]) rfl ?_
  refine hl_aload_n h9 0 dX5_init_37 rfl ?_
  refine hl_new h9 hi3 tyX3_ok (ci := 3) rfl dX5_init_38 (by decide +kernel) (by decide +kernel) (by decide +kernel) [.null, .null, .null, .int 0] (fun j hj => by rcases (show j = 0 ∨ j = 1 ∨ j = 2 ∨ j = 3 by omega) with rfl | rfl | rfl | rfl <;> rfl) (Nat.le_of_ble_eq_true rfl) (Nat.le_of_ble_eq_true rfl) (fun q18 => ?_)
  refine hl_wd (w' := [(h, .inr (5, [.ref q1, .ref q5, .ref q11, .null, .null, .int 0])), (q1, .inr (4, [.ref q2, .ref q3, .ref q4])), (q2, .inl (cI, 8, .inl (fun _ => 0))), (q3, .inl (cI, 8, .inl hl_ten)), (q4, .inl (cI, 8, .inl (fun _ => 0))), (q5, .inr (2, [.ref q6, .ref q7, .ref q8, .ref q9, .ref q10, .int 0, .int 0])), (q6, .inl (cI, 4, .inl (fun _ => 0))), (q7, .inl (cI, 4, .inl (fun _ => 0))), (q8, .inl (cI, 4, .inl (fun _ => 0))), (q9, .inl (cI, 4, .inl (fun _ => 0))), (q10, .inl (cI, 4, .inl (fun _ => 0))), (q11, .inr (0, [.ref q12, .ref q13, .ref q14, .ref q15, .ref q16, .ref q17, .int 0])), (q12, .inl (cI, 80, .inl (fun _ => 0))), (q13, .inl (cI, 80, .inl (fun _ => 0))), (q14, .inl (cI, 80, .inl (fun _ => 0))), (q15, .inl (cI, 80, .inl (fun _ => 0))), (q16, .inl (cZ, 80, .inl (fun _ => 0))), (q17, .inl (cI, 80, .inl (fun _ => 0))), (q18, .inr (3, [.null, .null, .null, .int 0]))]) rfl ?_
  refine hl_dup h9 dX5_init_41 rfl ?_
  refine hl_callPI h9 (st := [.ref q18, .ref h]) (As := []) (wc := [(q18, .inr (3, [.null, .null, .null, .int 0]))]) (wr := [(h, .inr (5, [.ref q1, .ref q5, .ref q11, .null, .null, .int 0])), (q1, .inr (4, [.ref q2, .ref q3, .ref q4])), (q2, .inl (cI, 8, .inl (fun _ => 0))), (q3, .inl (cI, 8, .inl hl_ten)), (q4, .inl (cI, 8, .inl (fun _ => 0))), (q5, .inr (2, [.ref q6, .ref q7, .ref q8, .ref q9, .ref q10, .int 0, .int 0])), (q6, .inl (cI, 4, .inl (fun _ => 0))), (q7, .inl (cI, 4, .inl (fun _ => 0))), (q8, .inl (cI, 4, .inl (fun _ => 0))), (q9, .inl (cI, 4, .inl (fun _ => 0))), (q10, .inl (cI, 4, .inl (fun _ => 0))), (q11, .inr (0, [.ref q12, .ref q13, .ref q14, .ref q15, .ref q16, .ref q17, .int 0])), (q12, .inl (cI, 80, .inl (fun _ => 0))), (q13, .inl (cI, 80, .inl (fun _ => 0))), (q14, .inl (cI, 80, .inl (fun _ => 0))), (q15, .inl (cI, 80, .inl (fun _ => 0))), (q16, .inl (cZ, 80, .inl (fun _ => 0))), (q17, .inl (cI, 80, .inl (fun _ => 0)))]) [18] [0, 1, 2, 3, 4, 5, 6, 7, 8, 9, 10, 11, 12, 13, 14, 15, 16, 17] rfl rfl (by decide) (by decide) (by decide) (c_X3_init l D cI cZ cJ q18) (cwI 0 h9.2.2.2.2.1 gX5_init_X3_init rfl rfl rfl (h9.2.2.2.2.1 _ (by decide +kernel)) (h9.2.2.2.2.1 _ (by decide +kernel)) (h9.2.2.2.2.1 _ (by decide +kernel)) rfl (by decide +kernel) ⟨Nat.le_of_ble_eq_true rfl, Nat.le_of_ble_eq_true rfl⟩) dX5_init_42 rfl (Nat.le_of_ble_eq_true rfl) ⟨Nat.le_of_ble_eq_true rfl, Nat.le_of_ble_eq_true rfl⟩ rfl (fun w1 hw1 => ?_)
  obtain ⟨q19, q20, q21, rfl⟩ := hw1
  refine hl_wd (w' := [(h, .inr (5, [.ref q1, .ref q5, .ref q11, .null, .null, .int 0])), (q1, .inr (4, [.ref q2, .ref q3, .ref q4])), (q2, .inl (cI, 8, .inl (fun _ => 0))), (q3, .inl (cI, 8, .inl hl_ten)), (q4, .inl (cI, 8, .inl (fun _ => 0))), (q5, .inr (2, [.ref q6, .ref q7, .ref q8, .ref q9, .ref q10, .int 0, .int 0])), (q6, .inl (cI, 4, .inl (fun _ => 0))), (q7, .inl (cI, 4, .inl (fun _ => 0))), (q8, .inl (cI, 4, .inl (fun _ => 0))), (q9, .inl (cI, 4, .inl (fun _ => 0))), (q10, .inl (cI, 4, .inl (fun _ => 0))), (q11, .inr (0, [.ref q12, .ref q13, .ref q14, .ref q15, .ref q16, .ref q17, .int 0])), (q12, .inl (cI, 80, .inl (fun _ => 0))), (q13, .inl (cI, 80, .inl (fun _ => 0))), (q14, .inl (cI, 80, .inl (fun _ => 0))), (q15, .inl (cI, 80, .inl (fun _ => 0))), (q16, .inl (cZ, 80, .inl (fun _ => 0))), (q17, .inl (cI, 80, .inl (fun _ => 0))), (q18, .inr (3, [.ref q19, .ref q20, .ref q21, .int 0])), (q19, .inl (cI, 80, .inl (fun _ => 0))), (q20, .inl (cI, 80, .inl (fun _ => 0))), (q21, .inl (cI, 80, .inl (fun _ => 0)))]) rfl ?_
  refine hl_putF h9 hi5 tyX5_ok nmX5 (q0 := 0) rfl rfl 3 dX5_init_45 (by decide) (by decide +kernel) (by decide) hnm rfl rfl rfl (Nat.le_of_ble_eq_true rfl) (w' := [(h, .inr (5, [.ref q1, .ref q5, .ref q11, .ref q18, .null, .int 0])), (q1, .inr (4, [.ref q2, .ref q3, .ref q4])), (q2, .inl (cI, 8, .inl (fun _ => 0))), (q3, .inl (cI, 8, .inl hl_ten)), (q4, .inl (cI, 8, .inl (fun _ => 0))), (q5, .inr (2, [.ref q6, .ref q7, .ref q8, .ref q9, .ref q10, .int 0, .int 0])), (q6, .inl (cI, 4, .inl (fun _ => 0))), (q7, .inl (cI, 4, .inl (fun _ => 0))), (q8, .inl (cI, 4, .inl (fun _ => 0))), (q9, .inl (cI, 4, .inl (fun _ => 0))), (q10, .inl (cI, 4, .inl (fun _ => 0))), (q11, .inr (0, [.ref q12, .ref q13, .ref q14, .ref q15, .ref q16, .ref q17, .int 0])), (q12, .inl (cI, 80, .inl (fun _ => 0))), (q13, .inl (cI, 80, .inl (fun _ => 0))), (q14, .inl (cI, 80, .inl (fun _ => 0))), (q15, .inl (cI, 80, .inl (fun _ => 0))), (q16, .inl (cZ, 80, .inl (fun _ => 0))), (q17, .inl (cI, 80, .inl (fun _ => 0))), (q18, .inr (3, [.ref q19, .ref q20, .ref q21, .int 0])), (q19, .inl (cI, 80, .inl (fun _ => 0))), (q20, .inl (cI, 80, .inl (fun _ => 0))), (q21, .inl (cI, 80, .inl (fun _ => 0)))]) rfl ?_
  refine hl_aload_n h9 0 dX5_init_48 rfl ?_
  refine hl_new h9 hi1 tyX1_ok (ci := 1) rfl dX5_init_49 (by decide +kernel) (by decide +kernel) (by decide +kernel) [.null, .null] (fun j hj => by rcases (show j = 0 ∨ j = 1 by omega) with rfl | rfl <;> rfl) (Nat.le_of_ble_eq_true rfl) (Nat.le_of_ble_eq_true rfl) (fun q22 => ?_)
  refine hl_wd (w' := [(h, .inr (5, [.ref q1, .ref q5, .ref q11, .ref q18, .null, .int 0])), (q1, .inr (4, [.ref q2, .ref q3, .ref q4])), (q2, .inl (cI, 8, .inl (fun _ => 0))), (q3, .inl (cI, 8, .inl hl_ten)), (q4, .inl (cI, 8, .inl (fun _ => 0))), (q5, .inr (2, [.ref q6, .ref q7, .ref q8, .ref q9, .ref q10, .int 0, .int 0])), (q6, .inl (cI, 4, .inl (fun _ => 0))), (q7, .inl (cI, 4, .inl (fun _ => 0))), (q8, .inl (cI, 4, .inl (fun _ => 0))), (q9, .inl (cI, 4, .inl (fun _ => 0))), (q10, .inl (cI, 4, .inl (fun _ => 0))), (q11, .inr (0, [.ref q12, .ref q13, .ref q14, .ref q15, .ref q16, .ref q17, .int 0])), (q12, .inl (cI, 80, .inl (fun _ => 0))), (q13, .inl (cI, 80, .inl (fun _ => 0))), (q14, .inl (cI, 80, .inl (fun _ => 0))), (q15, .inl (cI, 80, .inl (fun _ => 0))), (q16, .inl (cZ, 80, .inl (fun _ => 0))), (q17, .inl (cI, 80, .inl (fun _ => 0))), (q18, .inr (3, [.ref q19, .ref q20, .ref q21, .int 0])), (q19, .inl (cI, 80, .inl (fun _ => 0))), (q20, .inl (cI, 80, .inl (fun _ => 0))), (q21, .inl (cI, 80, .inl (fun _ => 0))), (q22, .inr (1, [.null, .null]))]) rfl ?_
  refine hl_dup h9 dX5_init_52 rfl ?_
  refine hl_callPI h9 (st := [.ref q22, .ref h]) (As := []) (wc := [(q22, .inr (1, [.null, .null]))]) (wr := [(h, .inr (5, [.ref q1, .ref q5, .ref q11, .ref q18, .null, .int 0])), (q1, .inr (4, [.ref q2, .ref q3, .ref q4])), (q2, .inl (cI, 8, .inl (fun _ => 0))), (q3, .inl (cI, 8, .inl hl_ten)), (q4, .inl (cI, 8, .inl (fun _ => 0))), (q5, .inr (2, [.ref q6, .ref q7, .ref q8, .ref q9, .ref q10, .int 0, .int 0])), (q6, .inl (cI, 4, .inl (fun _ => 0))), (q7, .inl (cI, 4, .inl (fun _ => 0))), (q8, .inl (cI, 4, .inl (fun _ => 0))), (q9, .inl (cI, 4, .inl (fun _ => 0))), (q10, .inl (cI, 4, .inl (fun _ => 0))), (q11, .inr (0, [.ref q12, .ref q13, .ref q14, .ref q15, .ref q16, .ref q17, .int 0])), (q12, .inl (cI, 80, .inl (fun _ => 0))), (q13, .inl (cI, 80, .inl (fun _ => 0))), (q14, .inl (cI, 80, .inl (fun _ => 0))), (q15, .inl (cI, 80, .inl (fun _ => 0))), (q16, .inl (cZ, 80, .inl (fun _ => 0))), (q17, .inl (cI, 80, .inl (fun _ => 0))), (q18, .inr (3, [.ref q19, .ref q20, .ref q21, .int 0])), (q19, .inl (cI, 80, .inl (fun _ => 0))), (q20, .inl (cI, 80, .inl (fun _ => 0))), (q21, .inl (cI, 80, .inl (fun _ => 0)))]) [22] [0, 1, 2, 3, 4, 5, 6, 7, 8, 9, 10, 11, 12, 13, 14, 15, 16, 17, 18, 19, 20, 21] rfl rfl (by decide) (by decide) (by decide) (c_X1_init l D cI cZ cJ q22) (cwI 0 h9.2.2.2.2.1 gX5_init_X1_init rfl rfl rfl (h9.2.2.2.2.1 _ (by decide +kernel)) (h9.2.2.2.2.1 _ (by decide +kernel)) (h9.2.2.2.2.1 _ (by decide +kernel)) rfl (by decide +kernel) ⟨Nat.le_of_ble_eq_true rfl, Nat.le_of_ble_eq_true rfl⟩) dX5_init_53 rfl (Nat.le_of_ble_eq_true rfl) ⟨Nat.le_of_ble_eq_true rfl, Nat.le_of_ble_eq_true rfl⟩ rfl (fun w1 hw1 => ?_)
  obtain ⟨q23, q24, rfl⟩ := hw1
  refine hl_wd (w' := [(h, .inr (5, [.ref q1, .ref q5, .ref q11, .ref q18, .null, .int 0])), (q1, .inr (4, [.ref q2, .ref q3, .ref q4])), (q2, .inl (cI, 8, .inl (fun _ => 0))), (q3, .inl (cI, 8, .inl hl_ten)), (q4, .inl (cI, 8, .inl (fun _ => 0))), (q5, .inr (2, [.ref q6, .ref q7, .ref q8, .ref q9, .ref q10, .int 0, .int 0])), (q6, .inl (cI, 4, .inl (fun _ => 0))), (q7, .inl (cI, 4, .inl (fun _ => 0))), (q8, .inl (cI, 4, .inl (fun _ => 0))), (q9, .inl (cI, 4, .inl (fun _ => 0))), (q10, .inl (cI, 4, .inl (fun _ => 0))), (q11, .inr (0, [.ref q12, .ref q13, .ref q14, .ref q15, .ref q16, .ref q17, .int 0])), (q12, .inl (cI, 80, .inl (fun _ => 0))), (q13, .inl (cI, 80, .inl (fun _ => 0))), (q14, .inl (cI, 80, .inl (fun _ => 0))), (q15, .inl (cI, 80, .inl (fun _ => 0))), (q16, .inl (cZ, 80, .inl (fun _ => 0))), (q17, .inl (cI, 80, .inl (fun _ => 0))), (q18, .inr (3, [.ref q19, .ref q20, .ref q21, .int 0])), (q19, .inl (cI, 80, .inl (fun _ => 0))), (q20, .inl (cI, 80, .inl (fun _ => 0))), (q21, .inl (cI, 80, .inl (fun _ => 0))), (q22, .inr (1, [.ref q23, .ref q24])), (q23, .inl (cI, 4, .inl (fun _ => 0))), (q24, .inl (cI, 16, .inl (fun _ => 0)))]) rfl ?_
  refine hl_putF h9 hi5 tyX5_ok nmX5 (q0 := 0) rfl rfl 4 dX5_init_56 (by decide) (by decide +kernel) (by decide) hnm rfl rfl rfl (Nat.le_of_ble_eq_true rfl) (w' := [(h, .inr (5, [.ref q1, .ref q5, .ref q11, .ref q18, .ref q22, .int 0])), (q1, .inr (4, [.ref q2, .ref q3, .ref q4])), (q2, .inl (cI, 8, .inl (fun _ => 0))), (q3, .inl (cI, 8, .inl hl_ten)), (q4, .inl (cI, 8, .inl (fun _ => 0))), (q5, .inr (2, [.ref q6, .ref q7, .ref q8, .ref q9, .ref q10, .int 0, .int 0])), (q6, .inl (cI, 4, .inl (fun _ => 0))), (q7, .inl (cI, 4, .inl (fun _ => 0))), (q8, .inl (cI, 4, .inl (fun _ => 0))), (q9, .inl (cI, 4, .inl (fun _ => 0))), (q10, .inl (cI, 4, .inl (fun _ => 0))), (q11, .inr (0, [.ref q12, .ref q13, .ref q14, .ref q15, .ref q16, .ref q17, .int 0])), (q12, .inl (cI, 80, .inl (fun _ => 0))), (q13, .inl (cI, 80, .inl (fun _ => 0))), (q14, .inl (cI, 80, .inl (fun _ => 0))), (q15, .inl (cI, 80, .inl (fun _ => 0))), (q16, .inl (cZ, 80, .inl (fun _ => 0))), (q17, .inl (cI, 80, .inl (fun _ => 0))), (q18, .inr (3, [.ref q19, .ref q20, .ref q21, .int 0])), (q19, .inl (cI, 80, .inl (fun _ => 0))), (q20, .inl (cI, 80, .inl (fun _ => 0))), (q21, .inl (cI, 80, .inl (fun _ => 0))), (q22, .inr (1, [.ref q23, .ref q24])), (q23, .inl (cI, 4, .inl (fun _ => 0))), (q24, .inl (cI, 16, .inl (fun _ => 0)))]) rfl ?_
  refine hl_aload_n h9 0 dX5_init_59 rfl ?_
  refine hl_iconst h9 0 dX5_init_60 (by decide) ?_
  refine hl_put h9 hi5 tyX5_ok nmX5 (q0 := 0) rfl rfl 5 dX5_init_61 (by decide) (by decide +kernel) (by decide) rfl rfl (Nat.le_of_ble_eq_true rfl) (w' := [(h, .inr (5, [.ref q1, .ref q5, .ref q11, .ref q18, .ref q22, .int 0])), (q1, .inr (4, [.ref q2, .ref q3, .ref q4])), (q2, .inl (cI, 8, .inl (fun _ => 0))), (q3, .inl (cI, 8, .inl hl_ten)), (q4, .inl (cI, 8, .inl (fun _ => 0))), (q5, .inr (2, [.ref q6, .ref q7, .ref q8, .ref q9, .ref q10, .int 0, .int 0])), (q6, .inl (cI, 4, .inl (fun _ => 0))), (q7, .inl (cI, 4, .inl (fun _ => 0))), (q8, .inl (cI, 4, .inl (fun _ => 0))), (q9, .inl (cI, 4, .inl (fun _ => 0))), (q10, .inl (cI, 4, .inl (fun _ => 0))), (q11, .inr (0, [.ref q12, .ref q13, .ref q14, .ref q15, .ref q16, .ref q17, .int 0])), (q12, .inl (cI, 80, .inl (fun _ => 0))), (q13, .inl (cI, 80, .inl (fun _ => 0))), (q14, .inl (cI, 80, .inl (fun _ => 0))), (q15, .inl (cI, 80, .inl (fun _ => 0))), (q16, .inl (cZ, 80, .inl (fun _ => 0))), (q17, .inl (cI, 80, .inl (fun _ => 0))), (q18, .inr (3, [.ref q19, .ref q20, .ref q21, .int 0])), (q19, .inl (cI, 80, .inl (fun _ => 0))), (q20, .inl (cI, 80, .inl (fun _ => 0))), (q21, .inl (cI, 80, .inl (fun _ => 0))), (q22, .inr (1, [.ref q23, .ref q24])), (q23, .inl (cI, 4, .inl (fun _ => 0))), (q24, .inl (cI, 16, .inl (fun _ => 0)))]) rfl ?_
  refine hl_wsub [0, 1, 5, 11, 18, 22, 2, 3, 4, 6, 7, 8, 9, 10, 12, 13, 14, 15, 16, 17, 19, 20, 21, 23, 24] (w' := hl_WC (fun k => [h, q1, q5, q11, q18, q22, q2, q3, q4, q6, q7, q8, q9, q10, q12, q13, q14, q15, q16, q17, q19, q20, q21, q23, q24].getD k 0) cI cZ hl_g0) (by decide) rfl ?_
  exact hend dX5_init_64 ⟨_, rfl, rfl⟩
