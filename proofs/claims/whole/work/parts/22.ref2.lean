set_option maxHeartbeats 4000000 in
set_option maxRecDepth 100000 in
theorem c_X6_extraOf (l : Launch) (D : va_G) (cI cZ cJ : ClassId) (b : Nat → Nat) (t : Nat → Nat → Int32) (x : Int32) (N M T : Nat) (ho : hl_okM t N M T) (h1 : vp_in x 4) : hl_KI D (hl_ty cI cZ cJ) l yX6_extraOf wsX6_extraOf ({ frames := 0, cells := 0, slots := 0, locals := 0 } : Room) 0 0 [.ref (b 0), .int x] (hl_WM b cI cZ t) (fun r w => r = r_X6_extraOf t T x ∧ w = hl_WM b cI cZ t) := by
  refine hl_KI_of (cc := cX6_extraOf) (maxL := 4) .int rfl (fun _ => Or.inr rfl) (by decide) rfl (Nat.le_of_ble_eq_true rfl) ?_
  intro p e s m args below meth c A Q h hend
  have hi6 : ∀ z ∈ wsX60, z ∈ wsX6_extraOf := by decide +kernel
  obtain ⟨hN, hc, hM, hm, hT, ht8, hbk, hpt, hbr⟩ := id ho
  have hx4 : x.toNatClampNeg < 4 := hl_idx h1
  refine hl_ls (ls' := [(0, .ref (b 0)), (1, .int x)]) rfl ?_
  refine hl_iconst h 0 dX6_extraOf_0 (by decide) ?_
  refine hl_istore_n h [(2, .int 0), (0, .ref (b 0)), (1, .int x)] dX6_extraOf_1 (by decide) rfl ?_
  refine hl_aload_n h 1 dX6_extraOf_2 rfl ?_
  refine hl_get h hi6 hl_wm_0 rfl 8 rfl dX6_extraOf_3 (by decide) (by decide +kernel) ?_
  refine hl_iconst h 4 dX6_extraOf_6 (by decide) ?_
  refine hl_isub h dX6_extraOf_7 ?_
  refine hl_topc ((t 8 0) - 4 + nI 0) (by rw [nI_0, Int32.add_zero]) ?_
  refine hl_istore_n h [(3, .int ((t 8 0) - 4 + nI 0)), (2, .int 0), (0, .ref (b 0)), (1, .int x)] dX6_extraOf_8 (by decide) rfl ?_
  have lp9 : ∀ (n : Nat) (i : Nat) (u : Int32), i + n = 4 → hl_it (b_X6_extra t T x) i n u = hl_it (b_X6_extra t T x) 0 4 0 →  hl_X p l e ({ frames := 0, cells := 0, slots := 0, locals := 0 } : Room) s m args below meth c 4 D A 0 0 Q (hl_WM b cI cZ t) 9 [(0, .ref (b 0)), (1, .int x), (2, .int u), (3, .int ((t 8 0) - 4 + nI i))] [] := by
    intro n
    induction n with
    | zero =>
      intro i u hi hv
      refine hl_iload_n h 3 dX6_extraOf_9 rfl ?_
      refine hl_aload_n h 0 dX6_extraOf_10 rfl ?_
      refine hl_get h hi6 hl_wm_0 rfl 8 rfl dX6_extraOf_11 (by decide) (by decide +kernel) ?_
      refine hl_icmp_ge_T h 44 dX6_extraOf_14 (by decide) (by rw [ht8]; exact (hl_k4ge hT (by omega)).mpr (by omega)) ?_
      refine hl_iload_n h 2 dX6_extraOf_44 rfl ?_
      refine hl_iconst h 4 dX6_extraOf_45 (by decide) ?_
      refine hl_idiv h dX6_extraOf_46 (by decide) ?_
      exact hend dX6_extraOf_47 (fun h9 => nomatch h9) (by
        exact ⟨by rw [r_X6_extraOf, ← hv]; rfl, rfl⟩)
    | succ n ih =>
      intro i u hi hv
      refine hl_iload_n h 3 dX6_extraOf_9 rfl ?_
      refine hl_aload_n h 0 dX6_extraOf_10 rfl ?_
      refine hl_get h hi6 hl_wm_0 rfl 8 rfl dX6_extraOf_11 (by decide) (by decide +kernel) ?_
      refine hl_icmp_ge_F h 44 dX6_extraOf_14 (by decide) (by rw [ht8]; exact fun z => absurd ((hl_k4ge hT (by omega)).mp z) (by omega)) ?_
      refine hl_iload_n h 2 dX6_extraOf_17 rfl ?_
      refine hl_iload_n h 3 dX6_extraOf_18 rfl ?_
      refine hl_if_ge h 26 dX6_extraOf_19 (by decide) (fun c1 => ?_) (fun c1 => ?_)
      · have hc4 : 4 ≤ T + i := (hl_k4pos hT (by omega)).mp (by rw [← ht8]; exact c1)
        refine hl_aload_n h 0 dX6_extraOf_26 rfl ?_
        refine hl_get h hi6 hl_wm_0 rfl 11 rfl dX6_extraOf_27 (by decide) (by decide +kernel) ?_
        refine hl_iconst h 4 dX6_extraOf_30 (by decide) ?_
        refine hl_iload_n h 3 dX6_extraOf_31 rfl ?_
        refine hl_imul h dX6_extraOf_32 ?_
        refine hl_iload_n h 1 dX6_extraOf_33 rfl ?_
        refine hl_iadd h dX6_extraOf_34 ?_
        refine hl_topc (nI (4 * (T + i - 4) + x.toNatClampNeg)) (by rw [ht8]; exact hl_4k h1 hT (by omega) hc4) ?_
        refine hl_ildN h hl_wm_9 0 rfl (4 * (T + i - 4) + x.toNatClampNeg) dX6_extraOf_35 rfl (by omega) (by decide) ?_
        refine hl_iadd h dX6_extraOf_36 ?_
        refine hl_istore_n h [(2, .int (u + (t 11 (4 * (T + i - 4) + x.toNatClampNeg)))), (0, .ref (b 0)), (1, .int x), (3, .int ((t 8 0) - 4 + nI i))] dX6_extraOf_37 (by decide) rfl ?_
        refine hl_iinc h 3 ((t 8 0) - 4 + nI (i + 1)) [(3, .int ((t 8 0) - 4 + nI (i + 1))), (2, .int (u + (t 11 (4 * (T + i - 4) + x.toNatClampNeg)))), (0, .ref (b 0)), (1, .int x)] dX6_extraOf_38 rfl (hl_inc4 _ i) (by decide) rfl ?_
        refine hl_goto h 9 dX6_extraOf_41 (by decide) ?_
        refine hl_lsub [2, 3, 1, 0] rfl ?_
        exact ih (i + 1) (u + (t 11 (4 * (T + i - 4) + x.toNatClampNeg))) (by omega) (by rw [← hv, hl_it_s] <;> (congr 1 <;> (first | (simp [b_X6_extra, hc4]; done) | (symm; simp [b_X6_extra, hc4]))))
      · have hc4 : ¬ 4 ≤ T + i := fun z => c1 (by rw [ht8]; exact (hl_k4pos hT (by omega)).mpr z)
        refine hl_iconst h 0 dX6_extraOf_22 (by decide) ?_
        refine hl_goto h 36 dX6_extraOf_23 (by decide) ?_
        refine hl_iadd h dX6_extraOf_36 ?_
        refine hl_istore_n h [(2, .int (u + 0)), (0, .ref (b 0)), (1, .int x), (3, .int ((t 8 0) - 4 + nI i))] dX6_extraOf_37 (by decide) rfl ?_
        refine hl_iinc h 3 ((t 8 0) - 4 + nI (i + 1)) [(3, .int ((t 8 0) - 4 + nI (i + 1))), (2, .int (u + 0)), (0, .ref (b 0)), (1, .int x)] dX6_extraOf_38 rfl (hl_inc4 _ i) (by decide) rfl ?_
        refine hl_goto h 9 dX6_extraOf_41 (by decide) ?_
        refine hl_lsub [2, 3, 1, 0] rfl ?_
        exact ih (i + 1) (u + 0) (by omega) (by rw [← hv, hl_it_s] <;> (congr 1 <;> (first | (simp [b_X6_extra, hc4]; done) | (symm; simp [b_X6_extra, hc4]))))
  refine hl_lsub [2, 3, 1, 0] rfl ?_
  exact lp9 4 0 0 rfl rfl

set_option maxHeartbeats 4000000 in
set_option maxRecDepth 100000 in
theorem c_X6_book_1 (l : Launch) (D : va_G) (cI cZ cJ : ClassId) (b : Nat → Nat) (t : Nat → Nat → Int32) (x y z v : Int32) (N M T : Nat) (ho : hl_okM t N M T) (h1 : ¬ vp_in x 10) : hl_KI D (hl_ty cI cZ cJ) l yX6_book wsX6_book ({ frames := 2, cells := 0, slots := 0, locals := 42 } : Room) 0 0 [.ref (b 0), .int x, .int y, .int z, .int v] (hl_WM b cI cZ t) (fun r w => r = 0 ∧ w = hl_WM b cI cZ (hl_su t 23 (fun _ => 1))) := by
  refine hl_KI_of (cc := cX6_book) (maxL := 8) .int rfl (fun _ => Or.inr rfl) (by decide) rfl (Nat.le_of_ble_eq_true rfl) ?_
  intro p e s m args below meth c A Q h hend
  have hi6 : ∀ z ∈ wsX60, z ∈ wsX6_book := by decide +kernel
  obtain ⟨hN, hc, hM, hm, hT, ht8, hbk, hpt, hbr⟩ := id ho
  refine hl_ls (ls' := [(0, .ref (b 0)), (1, .int x), (2, .int y), (3, .int z), (4, .int v)]) rfl ?_
  refine hl_iload_n h 1 dX6_book_0 rfl ?_
  refine hl_callSiD h (st := []) (c_X6_isGuest_F l D cI cZ cJ b t x h1) (va_cwS 1 h.2.2.2.2.1 gX6_book_X6_isGuest rfl rfl rfl (by decide +kernel) ⟨Nat.le_of_ble_eq_true rfl, Nat.le_of_ble_eq_true rfl⟩) dX6_book_1 rfl (Nat.le_of_ble_eq_true rfl) ⟨Nat.le_of_ble_eq_true rfl, Nat.le_of_ble_eq_true rfl⟩ rfl ?_
  refine hl_if_eq_T h 15 dX6_book_4 (by decide) (by decide) ?_
  refine hl_iconst h 1 dX6_book_15 (by decide) ?_
  refine hl_goto h 58 dX6_book_16 (by decide) ?_
  refine hl_istore h [(5, .int 1), (0, .ref (b 0)), (1, .int x), (2, .int y), (3, .int z), (4, .int v)] dX6_book_58 (by decide) rfl ?_
  refine hl_iconst h 0 dX6_book_60 (by decide) ?_
  refine hl_istore h [(6, .int 0), (5, .int 1), (0, .ref (b 0)), (1, .int x), (2, .int y), (3, .int z), (4, .int v)] dX6_book_61 (by decide) rfl ?_
  refine hl_iconst h 0 dX6_book_63 (by decide) ?_
  refine hl_istore h [(7, .int 0), (6, .int 0), (5, .int 1), (0, .ref (b 0)), (1, .int x), (2, .int y), (3, .int z), (4, .int v)] dX6_book_64 (by decide) rfl ?_
  have lp66 : ∀ (n : Nat) (i : Nat) (u : Int32), i + n = N → hl_it (b_X6_book t y z v) i n u = hl_it (b_X6_book t y z v) 0 N 0 →  hl_X p l e ({ frames := 2, cells := 0, slots := 0, locals := 42 } : Room) s m args below meth c 8 D A 0 0 Q (hl_WM b cI cZ t) 66 [(0, .ref (b 0)), (1, .int x), (2, .int y), (3, .int z), (4, .int v), (5, .int 1), (6, .int u), (7, .int (nI i))] [] := by
    intro n
    induction n with
    | zero =>
      intro i u hi hv
      refine hl_iload h 7 dX6_book_66 rfl ?_
      refine hl_aload_n h 0 dX6_book_68 rfl ?_
      refine hl_get h hi6 hl_wm_0 rfl 18 rfl dX6_book_69 (by decide) (by decide +kernel) ?_
      refine hl_icmp_ge_T h 125 dX6_book_72 (by decide) (by rw [hc]; exact nI_le (by omega) (by omega)) ?_
      refine hl_aload_n h 0 dX6_book_125 rfl ?_
      refine hl_iload h 5 dX6_book_126 rfl ?_
      refine hl_if_ne_T h 156 dX6_book_128 (by decide) (by decide) ?_
      refine hl_iload h 5 dX6_book_156 rfl ?_
      refine hl_callViD h (st := []) (c_X6_isFine_n l D cI cZ cJ b t 1 (by decide)) (cwV 1 h.2.2.2.2.1 gX6_book_X6_isFine rfl rfl rfl (by decide +kernel) ⟨Nat.le_of_ble_eq_true rfl, Nat.le_of_ble_eq_true rfl⟩) hl_wm_0 rfl dX6_book_158 rfl (Nat.le_of_ble_eq_true rfl) ⟨Nat.le_of_ble_eq_true rfl, Nat.le_of_ble_eq_true rfl⟩ rfl ?_
      refine hl_nmM (fun g7 e8 => ?_)
      refine hl_if_ne_F h 166 dX6_book_161 (by decide) (by decide) ?_
      refine hl_iconst h 0 dX6_book_164 (by decide) ?_
      exact hend dX6_book_165 (fun h9 => nomatch h9) (by
        subst e8
        exact ⟨by rfl, (congrArg (hl_WM b cI cZ) (by rfl))⟩)
    | succ n ih =>
      intro i u hi hv
      refine hl_iload h 7 dX6_book_66 rfl ?_
      refine hl_aload_n h 0 dX6_book_68 rfl ?_
      refine hl_get h hi6 hl_wm_0 rfl 18 rfl dX6_book_69 (by decide) (by decide +kernel) ?_
      refine hl_icmp_ge_F h 125 dX6_book_72 (by decide) (by rw [hc]; exact nI_ge (by omega) (by omega)) ?_
      refine hl_iload h 6 dX6_book_75 rfl ?_
      refine hl_aload_n h 0 dX6_book_77 rfl ?_
      refine hl_get h hi6 hl_wm_0 rfl 13 rfl dX6_book_78 (by decide) (by decide +kernel) ?_
      refine hl_iload h 7 dX6_book_81 rfl ?_
      refine hl_ildN h hl_wm_11 0 rfl i dX6_book_83 rfl (by omega) (by decide) ?_
      refine hl_iload_n h 2 dX6_book_84 rfl ?_
      refine hl_icmp_ne h 115 dX6_book_85 (by decide) (fun c9 => ?_) (fun c9 => ?_)
      · refine hl_iconst h 0 dX6_book_115 (by decide) ?_
        refine hl_iadd h dX6_book_116 ?_
        refine hl_istore h [(6, .int (u + 0)), (0, .ref (b 0)), (1, .int x), (2, .int y), (3, .int z), (4, .int v), (5, .int 1), (7, .int (nI i))] dX6_book_117 (by decide) rfl ?_
        refine hl_iinc h 7 (nI (i + 1)) [(7, .int (nI (i + 1))), (6, .int (u + 0)), (0, .ref (b 0)), (1, .int x), (2, .int y), (3, .int z), (4, .int v), (5, .int 1)] dX6_book_119 rfl (hl_inc i) (by decide) rfl ?_
        refine hl_goto h 66 dX6_book_122 (by decide) ?_
        refine hl_lsub [2, 3, 4, 5, 6, 7, 1, 0] rfl ?_
        exact ih (i + 1) (u + 0) (by omega) (by rw [← hv, hl_it_s] <;> (congr 1 <;> (first | (simp [b_X6_book, c9]; done) | (symm; simp [b_X6_book, c9]))))
      · refine hl_aload_n h 0 dX6_book_88 rfl ?_
        refine hl_get h hi6 hl_wm_0 rfl 14 rfl dX6_book_89 (by decide) (by decide +kernel) ?_
        refine hl_iload h 7 dX6_book_92 rfl ?_
        refine hl_ildN h hl_wm_12 0 rfl i dX6_book_94 rfl (by omega) (by decide) ?_
        refine hl_iload_n h 3 dX6_book_95 rfl ?_
        refine hl_icmp_ne h 115 dX6_book_96 (by decide) (fun c10 => ?_) (fun c10 => ?_)
        · refine hl_iconst h 0 dX6_book_115 (by decide) ?_
          refine hl_iadd h dX6_book_116 ?_
          refine hl_istore h [(6, .int (u + 0)), (0, .ref (b 0)), (1, .int x), (2, .int y), (3, .int z), (4, .int v), (5, .int 1), (7, .int (nI i))] dX6_book_117 (by decide) rfl ?_
          refine hl_iinc h 7 (nI (i + 1)) [(7, .int (nI (i + 1))), (6, .int (u + 0)), (0, .ref (b 0)), (1, .int x), (2, .int y), (3, .int z), (4, .int v), (5, .int 1)] dX6_book_119 rfl (hl_inc i) (by decide) rfl ?_
          refine hl_goto h 66 dX6_book_122 (by decide) ?_
          refine hl_lsub [2, 3, 4, 5, 6, 7, 1, 0] rfl ?_
          exact ih (i + 1) (u + 0) (by omega) (by rw [← hv, hl_it_s] <;> (congr 1 <;> (first | (simp [b_X6_book, c9, c10]; done) | (symm; simp [b_X6_book, c9, c10]))))
        · refine hl_aload_n h 0 dX6_book_99 rfl ?_
          refine hl_get h hi6 hl_wm_0 rfl 15 rfl dX6_book_100 (by decide) (by decide +kernel) ?_
          refine hl_iload h 7 dX6_book_103 rfl ?_
          refine hl_ildN h hl_wm_13 0 rfl i dX6_book_105 rfl (by omega) (by decide) ?_
          refine hl_iload h 4 dX6_book_106 rfl ?_
          refine hl_icmp_ne h 115 dX6_book_108 (by decide) (fun c11 => ?_) (fun c11 => ?_)
          · refine hl_iconst h 0 dX6_book_115 (by decide) ?_
            refine hl_iadd h dX6_book_116 ?_
            refine hl_istore h [(6, .int (u + 0)), (0, .ref (b 0)), (1, .int x), (2, .int y), (3, .int z), (4, .int v), (5, .int 1), (7, .int (nI i))] dX6_book_117 (by decide) rfl ?_
            refine hl_iinc h 7 (nI (i + 1)) [(7, .int (nI (i + 1))), (6, .int (u + 0)), (0, .ref (b 0)), (1, .int x), (2, .int y), (3, .int z), (4, .int v), (5, .int 1)] dX6_book_119 rfl (hl_inc i) (by decide) rfl ?_
            refine hl_goto h 66 dX6_book_122 (by decide) ?_
            refine hl_lsub [2, 3, 4, 5, 6, 7, 1, 0] rfl ?_
            exact ih (i + 1) (u + 0) (by omega) (by rw [← hv, hl_it_s] <;> (congr 1 <;> (first | (simp [b_X6_book, c9, c10, c11]; done) | (symm; simp [b_X6_book, c9, c10, c11]))))
          · refine hl_iconst h 1 dX6_book_111 (by decide) ?_
            refine hl_goto h 116 dX6_book_112 (by decide) ?_
            refine hl_iadd h dX6_book_116 ?_
            refine hl_istore h [(6, .int (u + 1)), (0, .ref (b 0)), (1, .int x), (2, .int y), (3, .int z), (4, .int v), (5, .int 1), (7, .int (nI i))] dX6_book_117 (by decide) rfl ?_
            refine hl_iinc h 7 (nI (i + 1)) [(7, .int (nI (i + 1))), (6, .int (u + 1)), (0, .ref (b 0)), (1, .int x), (2, .int y), (3, .int z), (4, .int v), (5, .int 1)] dX6_book_119 rfl (hl_inc i) (by decide) rfl ?_
            refine hl_goto h 66 dX6_book_122 (by decide) ?_
            refine hl_lsub [2, 3, 4, 5, 6, 7, 1, 0] rfl ?_
            exact ih (i + 1) (u + 1) (by omega) (by rw [← hv, hl_it_s] <;> (congr 1 <;> (first | (simp [b_X6_book, c9, c10, c11]; done) | (symm; simp [b_X6_book, c9, c10, c11]))))
  refine hl_lsub [3, 4, 5, 6, 7, 2, 1, 0] rfl ?_
  exact lp66 N 0 0 (Nat.zero_add N) rfl

set_option maxHeartbeats 4000000 in
set_option maxRecDepth 100000 in
theorem c_X6_book_2 (l : Launch) (D : va_G) (cI cZ cJ : ClassId) (b : Nat → Nat) (t : Nat → Nat → Int32) (x y z v : Int32) (N M T : Nat) (ho : hl_okM t N M T) (h1 : vp_in x 10) (h2 : ¬ vp_in y 4) : hl_KI D (hl_ty cI cZ cJ) l yX6_book wsX6_book ({ frames := 3, cells := 0, slots := 0, locals := 63 } : Room) 0 0 [.ref (b 0), .int x, .int y, .int z, .int v] (hl_WM b cI cZ t) (fun r w => r = 0 ∧ w = hl_WM b cI cZ (hl_su t 23 (fun _ => 1))) := by
  refine hl_KI_of (cc := cX6_book) (maxL := 8) .int rfl (fun _ => Or.inr rfl) (by decide) rfl (Nat.le_of_ble_eq_true rfl) ?_
  intro p e s m args below meth c A Q h hend
  have hi6 : ∀ z ∈ wsX60, z ∈ wsX6_book := by decide +kernel
  obtain ⟨hN, hc, hM, hm, hT, ht8, hbk, hpt, hbr⟩ := id ho
  refine hl_ls (ls' := [(0, .ref (b 0)), (1, .int x), (2, .int y), (3, .int z), (4, .int v)]) rfl ?_
  refine hl_iload_n h 1 dX6_book_0 rfl ?_
  refine hl_callSiD h (st := []) (c_X6_isGuest_T l D cI cZ cJ b t x h1) (va_cwS 1 h.2.2.2.2.1 gX6_book_X6_isGuest rfl rfl rfl (by decide +kernel) ⟨Nat.le_of_ble_eq_true rfl, Nat.le_of_ble_eq_true rfl⟩) dX6_book_1 rfl (Nat.le_of_ble_eq_true rfl) ⟨Nat.le_of_ble_eq_true rfl, Nat.le_of_ble_eq_true rfl⟩ rfl ?_
  refine hl_if_eq_F h 15 dX6_book_4 (by decide) (by decide) ?_
  refine hl_iload_n h 2 dX6_book_7 rfl ?_
  refine hl_iload_n h 3 dX6_book_8 rfl ?_
  refine hl_callSiD h (st := []) (c_X6_isRoom_1 l D cI cZ cJ b t y z h2) (va_cwS 2 h.2.2.2.2.1 gX6_book_X6_isRoom rfl rfl rfl (by decide +kernel) ⟨Nat.le_of_ble_eq_true rfl, Nat.le_of_ble_eq_true rfl⟩) dX6_book_9 rfl (Nat.le_of_ble_eq_true rfl) ⟨Nat.le_of_ble_eq_true rfl, Nat.le_of_ble_eq_true rfl⟩ rfl ?_
  refine hl_if_ne_F h 19 dX6_book_12 (by decide) (by decide) ?_
  refine hl_iconst h 1 dX6_book_15 (by decide) ?_
  refine hl_goto h 58 dX6_book_16 (by decide) ?_
  refine hl_istore h [(5, .int 1), (0, .ref (b 0)), (1, .int x), (2, .int y), (3, .int z), (4, .int v)] dX6_book_58 (by decide) rfl ?_
  refine hl_iconst h 0 dX6_book_60 (by decide) ?_
  refine hl_istore h [(6, .int 0), (5, .int 1), (0, .ref (b 0)), (1, .int x), (2, .int y), (3, .int z), (4, .int v)] dX6_book_61 (by decide) rfl ?_
  refine hl_iconst h 0 dX6_book_63 (by decide) ?_
  refine hl_istore h [(7, .int 0), (6, .int 0), (5, .int 1), (0, .ref (b 0)), (1, .int x), (2, .int y), (3, .int z), (4, .int v)] dX6_book_64 (by decide) rfl ?_
  have lp66 : ∀ (n : Nat) (i : Nat) (u : Int32), i + n = N → hl_it (b_X6_book t y z v) i n u = hl_it (b_X6_book t y z v) 0 N 0 →  hl_X p l e ({ frames := 3, cells := 0, slots := 0, locals := 63 } : Room) s m args below meth c 8 D A 0 0 Q (hl_WM b cI cZ t) 66 [(0, .ref (b 0)), (1, .int x), (2, .int y), (3, .int z), (4, .int v), (5, .int 1), (6, .int u), (7, .int (nI i))] [] := by
    intro n
    induction n with
    | zero =>
      intro i u hi hv
      refine hl_iload h 7 dX6_book_66 rfl ?_
      refine hl_aload_n h 0 dX6_book_68 rfl ?_
      refine hl_get h hi6 hl_wm_0 rfl 18 rfl dX6_book_69 (by decide) (by decide +kernel) ?_
      refine hl_icmp_ge_T h 125 dX6_book_72 (by decide) (by rw [hc]; exact nI_le (by omega) (by omega)) ?_
      refine hl_aload_n h 0 dX6_book_125 rfl ?_
      refine hl_iload h 5 dX6_book_126 rfl ?_
      refine hl_if_ne_T h 156 dX6_book_128 (by decide) (by decide) ?_
      refine hl_iload h 5 dX6_book_156 rfl ?_
      refine hl_callViD h (st := []) (c_X6_isFine_n l D cI cZ cJ b t 1 (by decide)) (cwV 1 h.2.2.2.2.1 gX6_book_X6_isFine rfl rfl rfl (by decide +kernel) ⟨Nat.le_of_ble_eq_true rfl, Nat.le_of_ble_eq_true rfl⟩) hl_wm_0 rfl dX6_book_158 rfl (Nat.le_of_ble_eq_true rfl) ⟨Nat.le_of_ble_eq_true rfl, Nat.le_of_ble_eq_true rfl⟩ rfl ?_
      refine hl_nmM (fun g10 e11 => ?_)
      refine hl_if_ne_F h 166 dX6_book_161 (by decide) (by decide) ?_
      refine hl_iconst h 0 dX6_book_164 (by decide) ?_
      exact hend dX6_book_165 (fun h9 => nomatch h9) (by
        subst e11
        exact ⟨by rfl, (congrArg (hl_WM b cI cZ) (by rfl))⟩)
    | succ n ih =>
      intro i u hi hv
      refine hl_iload h 7 dX6_book_66 rfl ?_
      refine hl_aload_n h 0 dX6_book_68 rfl ?_
      refine hl_get h hi6 hl_wm_0 rfl 18 rfl dX6_book_69 (by decide) (by decide +kernel) ?_
      refine hl_icmp_ge_F h 125 dX6_book_72 (by decide) (by rw [hc]; exact nI_ge (by omega) (by omega)) ?_
      refine hl_iload h 6 dX6_book_75 rfl ?_
      refine hl_aload_n h 0 dX6_book_77 rfl ?_
      refine hl_get h hi6 hl_wm_0 rfl 13 rfl dX6_book_78 (by decide) (by decide +kernel) ?_
      refine hl_iload h 7 dX6_book_81 rfl ?_
      refine hl_ildN h hl_wm_11 0 rfl i dX6_book_83 rfl (by omega) (by decide) ?_
      refine hl_iload_n h 2 dX6_book_84 rfl ?_
      refine hl_icmp_ne h 115 dX6_book_85 (by decide) (fun c12 => ?_) (fun c12 => ?_)
      · refine hl_iconst h 0 dX6_book_115 (by decide) ?_
        refine hl_iadd h dX6_book_116 ?_
        refine hl_istore h [(6, .int (u + 0)), (0, .ref (b 0)), (1, .int x), (2, .int y), (3, .int z), (4, .int v), (5, .int 1), (7, .int (nI i))] dX6_book_117 (by decide) rfl ?_
        refine hl_iinc h 7 (nI (i + 1)) [(7, .int (nI (i + 1))), (6, .int (u + 0)), (0, .ref (b 0)), (1, .int x), (2, .int y), (3, .int z), (4, .int v), (5, .int 1)] dX6_book_119 rfl (hl_inc i) (by decide) rfl ?_
        refine hl_goto h 66 dX6_book_122 (by decide) ?_
        refine hl_lsub [2, 3, 4, 5, 6, 7, 1, 0] rfl ?_
        exact ih (i + 1) (u + 0) (by omega) (by rw [← hv, hl_it_s] <;> (congr 1 <;> (first | (simp [b_X6_book, c12]; done) | (symm; simp [b_X6_book, c12]))))
      · refine hl_aload_n h 0 dX6_book_88 rfl ?_
        refine hl_get h hi6 hl_wm_0 rfl 14 rfl dX6_book_89 (by decide) (by decide +kernel) ?_
        refine hl_iload h 7 dX6_book_92 rfl ?_
        refine hl_ildN h hl_wm_12 0 rfl i dX6_book_94 rfl (by omega) (by decide) ?_
        refine hl_iload_n h 3 dX6_book_95 rfl ?_
        refine hl_icmp_ne h 115 dX6_book_96 (by decide) (fun c13 => ?_) (fun c13 => ?_)
        · refine hl_iconst h 0 dX6_book_115 (by decide) ?_
          refine hl_iadd h dX6_book_116 ?_
          refine hl_istore h [(6, .int (u + 0)), (0, .ref (b 0)), (1, .int x), (2, .int y), (3, .int z), (4, .int v), (5, .int 1), (7, .int (nI i))] dX6_book_117 (by decide) rfl ?_
          refine hl_iinc h 7 (nI (i + 1)) [(7, .int (nI (i + 1))), (6, .int (u + 0)), (0, .ref (b 0)), (1, .int x), (2, .int y), (3, .int z), (4, .int v), (5, .int 1)] dX6_book_119 rfl (hl_inc i) (by decide) rfl ?_
          refine hl_goto h 66 dX6_book_122 (by decide) ?_
          refine hl_lsub [2, 3, 4, 5, 6, 7, 1, 0] rfl ?_
          exact ih (i + 1) (u + 0) (by omega) (by rw [← hv, hl_it_s] <;> (congr 1 <;> (first | (simp [b_X6_book, c12, c13]; done) | (symm; simp [b_X6_book, c12, c13]))))
        · refine hl_aload_n h 0 dX6_book_99 rfl ?_
          refine hl_get h hi6 hl_wm_0 rfl 15 rfl dX6_book_100 (by decide) (by decide +kernel) ?_
          refine hl_iload h 7 dX6_book_103 rfl ?_
          refine hl_ildN h hl_wm_13 0 rfl i dX6_book_105 rfl (by omega) (by decide) ?_
          refine hl_iload h 4 dX6_book_106 rfl ?_
          refine hl_icmp_ne h 115 dX6_book_108 (by decide) (fun c14 => ?_) (fun c14 => ?_)
          · refine hl_iconst h 0 dX6_book_115 (by decide) ?_
            refine hl_iadd h dX6_book_116 ?_
            refine hl_istore h [(6, .int (u + 0)), (0, .ref (b 0)), (1, .int x), (2, .int y), (3, .int z), (4, .int v), (5, .int 1), (7, .int (nI i))] dX6_book_117 (by decide) rfl ?_
            refine hl_iinc h 7 (nI (i + 1)) [(7, .int (nI (i + 1))), (6, .int (u + 0)), (0, .ref (b 0)), (1, .int x), (2, .int y), (3, .int z), (4, .int v), (5, .int 1)] dX6_book_119 rfl (hl_inc i) (by decide) rfl ?_
            refine hl_goto h 66 dX6_book_122 (by decide) ?_
            refine hl_lsub [2, 3, 4, 5, 6, 7, 1, 0] rfl ?_
            exact ih (i + 1) (u + 0) (by omega) (by rw [← hv, hl_it_s] <;> (congr 1 <;> (first | (simp [b_X6_book, c12, c13, c14]; done) | (symm; simp [b_X6_book, c12, c13, c14]))))
          · refine hl_iconst h 1 dX6_book_111 (by decide) ?_
            refine hl_goto h 116 dX6_book_112 (by decide) ?_
            refine hl_iadd h dX6_book_116 ?_
            refine hl_istore h [(6, .int (u + 1)), (0, .ref (b 0)), (1, .int x), (2, .int y), (3, .int z), (4, .int v), (5, .int 1), (7, .int (nI i))] dX6_book_117 (by decide) rfl ?_
            refine hl_iinc h 7 (nI (i + 1)) [(7, .int (nI (i + 1))), (6, .int (u + 1)), (0, .ref (b 0)), (1, .int x), (2, .int y), (3, .int z), (4, .int v), (5, .int 1)] dX6_book_119 rfl (hl_inc i) (by decide) rfl ?_
            refine hl_goto h 66 dX6_book_122 (by decide) ?_
            refine hl_lsub [2, 3, 4, 5, 6, 7, 1, 0] rfl ?_
            exact ih (i + 1) (u + 1) (by omega) (by rw [← hv, hl_it_s] <;> (congr 1 <;> (first | (simp [b_X6_book, c12, c13, c14]; done) | (symm; simp [b_X6_book, c12, c13, c14]))))
  refine hl_lsub [3, 4, 5, 6, 7, 2, 1, 0] rfl ?_
  exact lp66 N 0 0 (Nat.zero_add N) rfl

set_option maxHeartbeats 4000000 in
set_option maxRecDepth 100000 in
theorem c_X6_book_3 (l : Launch) (D : va_G) (cI cZ cJ : ClassId) (b : Nat → Nat) (t : Nat → Nat → Int32) (x y z v : Int32) (N M T : Nat) (ho : hl_okM t N M T) (h1 : vp_in x 10) (h2 : vp_in y 4) (h3 : ¬ vp_in z 2) : hl_KI D (hl_ty cI cZ cJ) l yX6_book wsX6_book ({ frames := 3, cells := 0, slots := 0, locals := 63 } : Room) 0 0 [.ref (b 0), .int x, .int y, .int z, .int v] (hl_WM b cI cZ t) (fun r w => r = 0 ∧ w = hl_WM b cI cZ (hl_su t 23 (fun _ => 1))) := by
  refine hl_KI_of (cc := cX6_book) (maxL := 8) .int rfl (fun _ => Or.inr rfl) (by decide) rfl (Nat.le_of_ble_eq_true rfl) ?_
  intro p e s m args below meth c A Q h hend
  have hi6 : ∀ z ∈ wsX60, z ∈ wsX6_book := by decide +kernel
  obtain ⟨hN, hc, hM, hm, hT, ht8, hbk, hpt, hbr⟩ := id ho
  refine hl_ls (ls' := [(0, .ref (b 0)), (1, .int x), (2, .int y), (3, .int z), (4, .int v)]) rfl ?_
  refine hl_iload_n h 1 dX6_book_0 rfl ?_
  refine hl_callSiD h (st := []) (c_X6_isGuest_T l D cI cZ cJ b t x h1) (va_cwS 1 h.2.2.2.2.1 gX6_book_X6_isGuest rfl rfl rfl (by decide +kernel) ⟨Nat.le_of_ble_eq_true rfl, Nat.le_of_ble_eq_true rfl⟩) dX6_book_1 rfl (Nat.le_of_ble_eq_true rfl) ⟨Nat.le_of_ble_eq_true rfl, Nat.le_of_ble_eq_true rfl⟩ rfl ?_
  refine hl_if_eq_F h 15 dX6_book_4 (by decide) (by decide) ?_
  refine hl_iload_n h 2 dX6_book_7 rfl ?_
  refine hl_iload_n h 3 dX6_book_8 rfl ?_
  refine hl_callSiD h (st := []) (c_X6_isRoom_2 l D cI cZ cJ b t y z h2 h3) (va_cwS 2 h.2.2.2.2.1 gX6_book_X6_isRoom rfl rfl rfl (by decide +kernel) ⟨Nat.le_of_ble_eq_true rfl, Nat.le_of_ble_eq_true rfl⟩) dX6_book_9 rfl (Nat.le_of_ble_eq_true rfl) ⟨Nat.le_of_ble_eq_true rfl, Nat.le_of_ble_eq_true rfl⟩ rfl ?_
  refine hl_if_ne_F h 19 dX6_book_12 (by decide) (by decide) ?_
  refine hl_iconst h 1 dX6_book_15 (by decide) ?_
  refine hl_goto h 58 dX6_book_16 (by decide) ?_
  refine hl_istore h [(5, .int 1), (0, .ref (b 0)), (1, .int x), (2, .int y), (3, .int z), (4, .int v)] dX6_book_58 (by decide) rfl ?_
  refine hl_iconst h 0 dX6_book_60 (by decide) ?_
  refine hl_istore h [(6, .int 0), (5, .int 1), (0, .ref (b 0)), (1, .int x), (2, .int y), (3, .int z), (4, .int v)] dX6_book_61 (by decide) rfl ?_
  refine hl_iconst h 0 dX6_book_63 (by decide) ?_
  refine hl_istore h [(7, .int 0), (6, .int 0), (5, .int 1), (0, .ref (b 0)), (1, .int x), (2, .int y), (3, .int z), (4, .int v)] dX6_book_64 (by decide) rfl ?_
  have lp66 : ∀ (n : Nat) (i : Nat) (u : Int32), i + n = N → hl_it (b_X6_book t y z v) i n u = hl_it (b_X6_book t y z v) 0 N 0 →  hl_X p l e ({ frames := 3, cells := 0, slots := 0, locals := 63 } : Room) s m args below meth c 8 D A 0 0 Q (hl_WM b cI cZ t) 66 [(0, .ref (b 0)), (1, .int x), (2, .int y), (3, .int z), (4, .int v), (5, .int 1), (6, .int u), (7, .int (nI i))] [] := by
    intro n
    induction n with
    | zero =>
      intro i u hi hv
      refine hl_iload h 7 dX6_book_66 rfl ?_
      refine hl_aload_n h 0 dX6_book_68 rfl ?_
      refine hl_get h hi6 hl_wm_0 rfl 18 rfl dX6_book_69 (by decide) (by decide +kernel) ?_
      refine hl_icmp_ge_T h 125 dX6_book_72 (by decide) (by rw [hc]; exact nI_le (by omega) (by omega)) ?_
      refine hl_aload_n h 0 dX6_book_125 rfl ?_
      refine hl_iload h 5 dX6_book_126 rfl ?_
      refine hl_if_ne_T h 156 dX6_book_128 (by decide) (by decide) ?_
      refine hl_iload h 5 dX6_book_156 rfl ?_
      refine hl_callViD h (st := []) (c_X6_isFine_n l D cI cZ cJ b t 1 (by decide)) (cwV 1 h.2.2.2.2.1 gX6_book_X6_isFine rfl rfl rfl (by decide +kernel) ⟨Nat.le_of_ble_eq_true rfl, Nat.le_of_ble_eq_true rfl⟩) hl_wm_0 rfl dX6_book_158 rfl (Nat.le_of_ble_eq_true rfl) ⟨Nat.le_of_ble_eq_true rfl, Nat.le_of_ble_eq_true rfl⟩ rfl ?_
      refine hl_nmM (fun g10 e11 => ?_)
      refine hl_if_ne_F h 166 dX6_book_161 (by decide) (by decide) ?_
      refine hl_iconst h 0 dX6_book_164 (by decide) ?_
      exact hend dX6_book_165 (fun h9 => nomatch h9) (by
        subst e11
        exact ⟨by rfl, (congrArg (hl_WM b cI cZ) (by rfl))⟩)
    | succ n ih =>
      intro i u hi hv
      refine hl_iload h 7 dX6_book_66 rfl ?_
      refine hl_aload_n h 0 dX6_book_68 rfl ?_
      refine hl_get h hi6 hl_wm_0 rfl 18 rfl dX6_book_69 (by decide) (by decide +kernel) ?_
      refine hl_icmp_ge_F h 125 dX6_book_72 (by decide) (by rw [hc]; exact nI_ge (by omega) (by omega)) ?_
      refine hl_iload h 6 dX6_book_75 rfl ?_
      refine hl_aload_n h 0 dX6_book_77 rfl ?_
      refine hl_get h hi6 hl_wm_0 rfl 13 rfl dX6_book_78 (by decide) (by decide +kernel) ?_
      refine hl_iload h 7 dX6_book_81 rfl ?_
      refine hl_ildN h hl_wm_11 0 rfl i dX6_book_83 rfl (by omega) (by decide) ?_
      refine hl_iload_n h 2 dX6_book_84 rfl ?_
      refine hl_icmp_ne h 115 dX6_book_85 (by decide) (fun c12 => ?_) (fun c12 => ?_)
      · refine hl_iconst h 0 dX6_book_115 (by decide) ?_
        refine hl_iadd h dX6_book_116 ?_
        refine hl_istore h [(6, .int (u + 0)), (0, .ref (b 0)), (1, .int x), (2, .int y), (3, .int z), (4, .int v), (5, .int 1), (7, .int (nI i))] dX6_book_117 (by decide) rfl ?_
        refine hl_iinc h 7 (nI (i + 1)) [(7, .int (nI (i + 1))), (6, .int (u + 0)), (0, .ref (b 0)), (1, .int x), (2, .int y), (3, .int z), (4, .int v), (5, .int 1)] dX6_book_119 rfl (hl_inc i) (by decide) rfl ?_
        refine hl_goto h 66 dX6_book_122 (by decide) ?_
        refine hl_lsub [2, 3, 4, 5, 6, 7, 1, 0] rfl ?_
        exact ih (i + 1) (u + 0) (by omega) (by rw [← hv, hl_it_s] <;> (congr 1 <;> (first | (simp [b_X6_book, c12]; done) | (symm; simp [b_X6_book, c12]))))
      · refine hl_aload_n h 0 dX6_book_88 rfl ?_
        refine hl_get h hi6 hl_wm_0 rfl 14 rfl dX6_book_89 (by decide) (by decide +kernel) ?_
        refine hl_iload h 7 dX6_book_92 rfl ?_
        refine hl_ildN h hl_wm_12 0 rfl i dX6_book_94 rfl (by omega) (by decide) ?_
        refine hl_iload_n h 3 dX6_book_95 rfl ?_
        refine hl_icmp_ne h 115 dX6_book_96 (by decide) (fun c13 => ?_) (fun c13 => ?_)
        · refine hl_iconst h 0 dX6_book_115 (by decide) ?_
          refine hl_iadd h dX6_book_116 ?_
          refine hl_istore h [(6, .int (u + 0)), (0, .ref (b 0)), (1, .int x), (2, .int y), (3, .int z), (4, .int v), (5, .int 1), (7, .int (nI i))] dX6_book_117 (by decide) rfl ?_
          refine hl_iinc h 7 (nI (i + 1)) [(7, .int (nI (i + 1))), (6, .int (u + 0)), (0, .ref (b 0)), (1, .int x), (2, .int y), (3, .int z), (4, .int v), (5, .int 1)] dX6_book_119 rfl (hl_inc i) (by decide) rfl ?_
          refine hl_goto h 66 dX6_book_122 (by decide) ?_
          refine hl_lsub [2, 3, 4, 5, 6, 7, 1, 0] rfl ?_
          exact ih (i + 1) (u + 0) (by omega) (by rw [← hv, hl_it_s] <;> (congr 1 <;> (first | (simp [b_X6_book, c12, c13]; done) | (symm; simp [b_X6_book, c12, c13]))))
        · refine hl_aload_n h 0 dX6_book_99 rfl ?_
          refine hl_get h hi6 hl_wm_0 rfl 15 rfl dX6_book_100 (by decide) (by decide +kernel) ?_
          refine hl_iload h 7 dX6_book_103 rfl ?_
          refine hl_ildN h hl_wm_13 0 rfl i dX6_book_105 rfl (by omega) (by decide) ?_
          refine hl_iload h 4 dX6_book_106 rfl ?_
          refine hl_icmp_ne h 115 dX6_book_108 (by decide) (fun c14 => ?_) (fun c14 => ?_)
          · refine hl_iconst h 0 dX6_book_115 (by decide) ?_
            refine hl_iadd h dX6_book_116 ?_
            refine hl_istore h [(6, .int (u + 0)), (0, .ref (b 0)), (1, .int x), (2, .int y), (3, .int z), (4, .int v), (5, .int 1), (7, .int (nI i))] dX6_book_117 (by decide) rfl ?_
            refine hl_iinc h 7 (nI (i + 1)) [(7, .int (nI (i + 1))), (6, .int (u + 0)), (0, .ref (b 0)), (1, .int x), (2, .int y), (3, .int z), (4, .int v), (5, .int 1)] dX6_book_119 rfl (hl_inc i) (by decide) rfl ?_
            refine hl_goto h 66 dX6_book_122 (by decide) ?_
            refine hl_lsub [2, 3, 4, 5, 6, 7, 1, 0] rfl ?_
            exact ih (i + 1) (u + 0) (by omega) (by rw [← hv, hl_it_s] <;> (congr 1 <;> (first | (simp [b_X6_book, c12, c13, c14]; done) | (symm; simp [b_X6_book, c12, c13, c14]))))
          · refine hl_iconst h 1 dX6_book_111 (by decide) ?_
            refine hl_goto h 116 dX6_book_112 (by decide) ?_
            refine hl_iadd h dX6_book_116 ?_
            refine hl_istore h [(6, .int (u + 1)), (0, .ref (b 0)), (1, .int x), (2, .int y), (3, .int z), (4, .int v), (5, .int 1), (7, .int (nI i))] dX6_book_117 (by decide) rfl ?_
            refine hl_iinc h 7 (nI (i + 1)) [(7, .int (nI (i + 1))), (6, .int (u + 1)), (0, .ref (b 0)), (1, .int x), (2, .int y), (3, .int z), (4, .int v), (5, .int 1)] dX6_book_119 rfl (hl_inc i) (by decide) rfl ?_
            refine hl_goto h 66 dX6_book_122 (by decide) ?_
            refine hl_lsub [2, 3, 4, 5, 6, 7, 1, 0] rfl ?_
            exact ih (i + 1) (u + 1) (by omega) (by rw [← hv, hl_it_s] <;> (congr 1 <;> (first | (simp [b_X6_book, c12, c13, c14]; done) | (symm; simp [b_X6_book, c12, c13, c14]))))
  refine hl_lsub [3, 4, 5, 6, 7, 2, 1, 0] rfl ?_
  exact lp66 N 0 0 (Nat.zero_add N) rfl

set_option maxHeartbeats 4000000 in
set_option maxRecDepth 100000 in
theorem c_X6_book_4 (l : Launch) (D : va_G) (cI cZ cJ : ClassId) (b : Nat → Nat) (t : Nat → Nat → Int32) (x y z v : Int32) (N M T : Nat) (ho : hl_okM t N M T) (h1 : vp_in x 10) (h2 : vp_in y 4) (h3 : vp_in z 2) (h4 : ¬ (¬ v < t 8 0 ∧ v ≤ t 8 0 + 10)) : hl_KI D (hl_ty cI cZ cJ) l yX6_book wsX6_book ({ frames := 3, cells := 0, slots := 0, locals := 63 } : Room) 0 0 [.ref (b 0), .int x, .int y, .int z, .int v] (hl_WM b cI cZ t) (fun r w => r = 0 ∧ w = hl_WM b cI cZ (hl_su t 23 (fun _ => 2))) := by
  refine hl_KI_of (cc := cX6_book) (maxL := 8) .int rfl (fun _ => Or.inr rfl) (by decide) rfl (Nat.le_of_ble_eq_true rfl) ?_
  intro p e s m args below meth c A Q h hend
  have hi6 : ∀ z ∈ wsX60, z ∈ wsX6_book := by decide +kernel
  obtain ⟨hN, hc, hM, hm, hT, ht8, hbk, hpt, hbr⟩ := id ho
  refine hl_ls (ls' := [(0, .ref (b 0)), (1, .int x), (2, .int y), (3, .int z), (4, .int v)]) rfl ?_
  refine hl_iload_n h 1 dX6_book_0 rfl ?_
  refine hl_callSiD h (st := []) (c_X6_isGuest_T l D cI cZ cJ b t x h1) (va_cwS 1 h.2.2.2.2.1 gX6_book_X6_isGuest rfl rfl rfl (by decide +kernel) ⟨Nat.le_of_ble_eq_true rfl, Nat.le_of_ble_eq_true rfl⟩) dX6_book_1 rfl (Nat.le_of_ble_eq_true rfl) ⟨Nat.le_of_ble_eq_true rfl, Nat.le_of_ble_eq_true rfl⟩ rfl ?_
  refine hl_if_eq_F h 15 dX6_book_4 (by decide) (by decide) ?_
  refine hl_iload_n h 2 dX6_book_7 rfl ?_
  refine hl_iload_n h 3 dX6_book_8 rfl ?_
  refine hl_callSiD h (st := []) (c_X6_isRoom_T l D cI cZ cJ b t y z h2 h3) (va_cwS 2 h.2.2.2.2.1 gX6_book_X6_isRoom rfl rfl rfl (by decide +kernel) ⟨Nat.le_of_ble_eq_true rfl, Nat.le_of_ble_eq_true rfl⟩) dX6_book_9 rfl (Nat.le_of_ble_eq_true rfl) ⟨Nat.le_of_ble_eq_true rfl, Nat.le_of_ble_eq_true rfl⟩ rfl ?_
  refine hl_if_ne_T h 19 dX6_book_12 (by decide) (by decide) ?_
  refine hl_iload h 4 dX6_book_19 rfl ?_
  refine hl_aload_n h 0 dX6_book_21 rfl ?_
  refine hl_get h hi6 hl_wm_0 rfl 8 rfl dX6_book_22 (by decide) (by decide +kernel) ?_
  refine hl_icmp_lt h 40 dX6_book_25 (by decide) (fun c7 => ?_) (fun c7 => ?_)
  · refine hl_iconst h 2 dX6_book_40 (by decide) ?_
    refine hl_goto h 58 dX6_book_41 (by decide) ?_
    refine hl_istore h [(5, .int 2), (0, .ref (b 0)), (1, .int x), (2, .int y), (3, .int z), (4, .int v)] dX6_book_58 (by decide) rfl ?_
    refine hl_iconst h 0 dX6_book_60 (by decide) ?_
    refine hl_istore h [(6, .int 0), (5, .int 2), (0, .ref (b 0)), (1, .int x), (2, .int y), (3, .int z), (4, .int v)] dX6_book_61 (by decide) rfl ?_
    refine hl_iconst h 0 dX6_book_63 (by decide) ?_
    refine hl_istore h [(7, .int 0), (6, .int 0), (5, .int 2), (0, .ref (b 0)), (1, .int x), (2, .int y), (3, .int z), (4, .int v)] dX6_book_64 (by decide) rfl ?_
    have lp66 : ∀ (n : Nat) (i : Nat) (u : Int32), i + n = N → hl_it (b_X6_book t y z v) i n u = hl_it (b_X6_book t y z v) 0 N 0 →  hl_X p l e ({ frames := 3, cells := 0, slots := 0, locals := 63 } : Room) s m args below meth c 8 D A 0 0 Q (hl_WM b cI cZ t) 66 [(0, .ref (b 0)), (1, .int x), (2, .int y), (3, .int z), (4, .int v), (5, .int 2), (6, .int u), (7, .int (nI i))] [] := by
      intro n
      induction n with
      | zero =>
        intro i u hi hv
        refine hl_iload h 7 dX6_book_66 rfl ?_
        refine hl_aload_n h 0 dX6_book_68 rfl ?_
        refine hl_get h hi6 hl_wm_0 rfl 18 rfl dX6_book_69 (by decide) (by decide +kernel) ?_
        refine hl_icmp_ge_T h 125 dX6_book_72 (by decide) (by rw [hc]; exact nI_le (by omega) (by omega)) ?_
        refine hl_aload_n h 0 dX6_book_125 rfl ?_
        refine hl_iload h 5 dX6_book_126 rfl ?_
        refine hl_if_ne_T h 156 dX6_book_128 (by decide) (by decide) ?_
        refine hl_iload h 5 dX6_book_156 rfl ?_
        refine hl_callViD h (st := []) (c_X6_isFine_n l D cI cZ cJ b t 2 (by decide)) (cwV 1 h.2.2.2.2.1 gX6_book_X6_isFine rfl rfl rfl (by decide +kernel) ⟨Nat.le_of_ble_eq_true rfl, Nat.le_of_ble_eq_true rfl⟩) hl_wm_0 rfl dX6_book_158 rfl (Nat.le_of_ble_eq_true rfl) ⟨Nat.le_of_ble_eq_true rfl, Nat.le_of_ble_eq_true rfl⟩ rfl ?_
        refine hl_nmM (fun g11 e12 => ?_)
        refine hl_if_ne_F h 166 dX6_book_161 (by decide) (by decide) ?_
        refine hl_iconst h 0 dX6_book_164 (by decide) ?_
        exact hend dX6_book_165 (fun h9 => nomatch h9) (by
          subst e12
          exact ⟨by rfl, (congrArg (hl_WM b cI cZ) (by rfl))⟩)
      | succ n ih =>
        intro i u hi hv
        refine hl_iload h 7 dX6_book_66 rfl ?_
        refine hl_aload_n h 0 dX6_book_68 rfl ?_
        refine hl_get h hi6 hl_wm_0 rfl 18 rfl dX6_book_69 (by decide) (by decide +kernel) ?_
        refine hl_icmp_ge_F h 125 dX6_book_72 (by decide) (by rw [hc]; exact nI_ge (by omega) (by omega)) ?_
        refine hl_iload h 6 dX6_book_75 rfl ?_
        refine hl_aload_n h 0 dX6_book_77 rfl ?_
        refine hl_get h hi6 hl_wm_0 rfl 13 rfl dX6_book_78 (by decide) (by decide +kernel) ?_
        refine hl_iload h 7 dX6_book_81 rfl ?_
        refine hl_ildN h hl_wm_11 0 rfl i dX6_book_83 rfl (by omega) (by decide) ?_
        refine hl_iload_n h 2 dX6_book_84 rfl ?_
        refine hl_icmp_ne h 115 dX6_book_85 (by decide) (fun c13 => ?_) (fun c13 => ?_)
        · refine hl_iconst h 0 dX6_book_115 (by decide) ?_
          refine hl_iadd h dX6_book_116 ?_
          refine hl_istore h [(6, .int (u + 0)), (0, .ref (b 0)), (1, .int x), (2, .int y), (3, .int z), (4, .int v), (5, .int 2), (7, .int (nI i))] dX6_book_117 (by decide) rfl ?_
          refine hl_iinc h 7 (nI (i + 1)) [(7, .int (nI (i + 1))), (6, .int (u + 0)), (0, .ref (b 0)), (1, .int x), (2, .int y), (3, .int z), (4, .int v), (5, .int 2)] dX6_book_119 rfl (hl_inc i) (by decide) rfl ?_
          refine hl_goto h 66 dX6_book_122 (by decide) ?_
          refine hl_lsub [2, 3, 4, 5, 6, 7, 1, 0] rfl ?_
          exact ih (i + 1) (u + 0) (by omega) (by rw [← hv, hl_it_s] <;> (congr 1 <;> (first | (simp [b_X6_book, c13]; done) | (symm; simp [b_X6_book, c13]))))
        · refine hl_aload_n h 0 dX6_book_88 rfl ?_
          refine hl_get h hi6 hl_wm_0 rfl 14 rfl dX6_book_89 (by decide) (by decide +kernel) ?_
          refine hl_iload h 7 dX6_book_92 rfl ?_
          refine hl_ildN h hl_wm_12 0 rfl i dX6_book_94 rfl (by omega) (by decide) ?_
          refine hl_iload_n h 3 dX6_book_95 rfl ?_
          refine hl_icmp_ne h 115 dX6_book_96 (by decide) (fun c14 => ?_) (fun c14 => ?_)
          · refine hl_iconst h 0 dX6_book_115 (by decide) ?_
            refine hl_iadd h dX6_book_116 ?_
            refine hl_istore h [(6, .int (u + 0)), (0, .ref (b 0)), (1, .int x), (2, .int y), (3, .int z), (4, .int v), (5, .int 2), (7, .int (nI i))] dX6_book_117 (by decide) rfl ?_
            refine hl_iinc h 7 (nI (i + 1)) [(7, .int (nI (i + 1))), (6, .int (u + 0)), (0, .ref (b 0)), (1, .int x), (2, .int y), (3, .int z), (4, .int v), (5, .int 2)] dX6_book_119 rfl (hl_inc i) (by decide) rfl ?_
            refine hl_goto h 66 dX6_book_122 (by decide) ?_
            refine hl_lsub [2, 3, 4, 5, 6, 7, 1, 0] rfl ?_
            exact ih (i + 1) (u + 0) (by omega) (by rw [← hv, hl_it_s] <;> (congr 1 <;> (first | (simp [b_X6_book, c13, c14]; done) | (symm; simp [b_X6_book, c13, c14]))))
          · refine hl_aload_n h 0 dX6_book_99 rfl ?_
            refine hl_get h hi6 hl_wm_0 rfl 15 rfl dX6_book_100 (by decide) (by decide +kernel) ?_
            refine hl_iload h 7 dX6_book_103 rfl ?_
            refine hl_ildN h hl_wm_13 0 rfl i dX6_book_105 rfl (by omega) (by decide) ?_
            refine hl_iload h 4 dX6_book_106 rfl ?_
            refine hl_icmp_ne h 115 dX6_book_108 (by decide) (fun c15 => ?_) (fun c15 => ?_)
            · refine hl_iconst h 0 dX6_book_115 (by decide) ?_
              refine hl_iadd h dX6_book_116 ?_
              refine hl_istore h [(6, .int (u + 0)), (0, .ref (b 0)), (1, .int x), (2, .int y), (3, .int z), (4, .int v), (5, .int 2), (7, .int (nI i))] dX6_book_117 (by decide) rfl ?_
              refine hl_iinc h 7 (nI (i + 1)) [(7, .int (nI (i + 1))), (6, .int (u + 0)), (0, .ref (b 0)), (1, .int x), (2, .int y), (3, .int z), (4, .int v), (5, .int 2)] dX6_book_119 rfl (hl_inc i) (by decide) rfl ?_
              refine hl_goto h 66 dX6_book_122 (by decide) ?_
              refine hl_lsub [2, 3, 4, 5, 6, 7, 1, 0] rfl ?_
              exact ih (i + 1) (u + 0) (by omega) (by rw [← hv, hl_it_s] <;> (congr 1 <;> (first | (simp [b_X6_book, c13, c14, c15]; done) | (symm; simp [b_X6_book, c13, c14, c15]))))
            · refine hl_iconst h 1 dX6_book_111 (by decide) ?_
              refine hl_goto h 116 dX6_book_112 (by decide) ?_
              refine hl_iadd h dX6_book_116 ?_
              refine hl_istore h [(6, .int (u + 1)), (0, .ref (b 0)), (1, .int x), (2, .int y), (3, .int z), (4, .int v), (5, .int 2), (7, .int (nI i))] dX6_book_117 (by decide) rfl ?_
              refine hl_iinc h 7 (nI (i + 1)) [(7, .int (nI (i + 1))), (6, .int (u + 1)), (0, .ref (b 0)), (1, .int x), (2, .int y), (3, .int z), (4, .int v), (5, .int 2)] dX6_book_119 rfl (hl_inc i) (by decide) rfl ?_
              refine hl_goto h 66 dX6_book_122 (by decide) ?_
              refine hl_lsub [2, 3, 4, 5, 6, 7, 1, 0] rfl ?_
              exact ih (i + 1) (u + 1) (by omega) (by rw [← hv, hl_it_s] <;> (congr 1 <;> (first | (simp [b_X6_book, c13, c14, c15]; done) | (symm; simp [b_X6_book, c13, c14, c15]))))
    refine hl_lsub [3, 4, 5, 6, 7, 2, 1, 0] rfl ?_
    exact lp66 N 0 0 (Nat.zero_add N) rfl
  · refine hl_iload h 4 dX6_book_28 rfl ?_
    refine hl_aload_n h 0 dX6_book_30 rfl ?_
    refine hl_get h hi6 hl_wm_0 rfl 8 rfl dX6_book_31 (by decide) (by decide +kernel) ?_
    refine hl_isub h dX6_book_34 ?_
    refine hl_bipush h 10 dX6_book_35 (by decide) ?_
    refine hl_icmp_le_F h 44 dX6_book_37 (by decide) (fun z9 => h4 ⟨c7, by rw [ht8] at c7 z9 ⊢; exact (hl_rng hT c7).mp z9⟩) ?_
    refine hl_iconst h 2 dX6_book_40 (by decide) ?_
    refine hl_goto h 58 dX6_book_41 (by decide) ?_
    refine hl_istore h [(5, .int 2), (0, .ref (b 0)), (1, .int x), (2, .int y), (3, .int z), (4, .int v)] dX6_book_58 (by decide) rfl ?_
    refine hl_iconst h 0 dX6_book_60 (by decide) ?_
    refine hl_istore h [(6, .int 0), (5, .int 2), (0, .ref (b 0)), (1, .int x), (2, .int y), (3, .int z), (4, .int v)] dX6_book_61 (by decide) rfl ?_
    refine hl_iconst h 0 dX6_book_63 (by decide) ?_
    refine hl_istore h [(7, .int 0), (6, .int 0), (5, .int 2), (0, .ref (b 0)), (1, .int x), (2, .int y), (3, .int z), (4, .int v)] dX6_book_64 (by decide) rfl ?_
    have lp66 : ∀ (n : Nat) (i : Nat) (u : Int32), i + n = N → hl_it (b_X6_book t y z v) i n u = hl_it (b_X6_book t y z v) 0 N 0 →  hl_X p l e ({ frames := 3, cells := 0, slots := 0, locals := 63 } : Room) s m args below meth c 8 D A 0 0 Q (hl_WM b cI cZ t) 66 [(0, .ref (b 0)), (1, .int x), (2, .int y), (3, .int z), (4, .int v), (5, .int 2), (6, .int u), (7, .int (nI i))] [] := by
      intro n
      induction n with
      | zero =>
        intro i u hi hv
        refine hl_iload h 7 dX6_book_66 rfl ?_
        refine hl_aload_n h 0 dX6_book_68 rfl ?_
        refine hl_get h hi6 hl_wm_0 rfl 18 rfl dX6_book_69 (by decide) (by decide +kernel) ?_
        refine hl_icmp_ge_T h 125 dX6_book_72 (by decide) (by rw [hc]; exact nI_le (by omega) (by omega)) ?_
        refine hl_aload_n h 0 dX6_book_125 rfl ?_
        refine hl_iload h 5 dX6_book_126 rfl ?_
        refine hl_if_ne_T h 156 dX6_book_128 (by decide) (by decide) ?_
        refine hl_iload h 5 dX6_book_156 rfl ?_
        refine hl_callViD h (st := []) (c_X6_isFine_n l D cI cZ cJ b t 2 (by decide)) (cwV 1 h.2.2.2.2.1 gX6_book_X6_isFine rfl rfl rfl (by decide +kernel) ⟨Nat.le_of_ble_eq_true rfl, Nat.le_of_ble_eq_true rfl⟩) hl_wm_0 rfl dX6_book_158 rfl (Nat.le_of_ble_eq_true rfl) ⟨Nat.le_of_ble_eq_true rfl, Nat.le_of_ble_eq_true rfl⟩ rfl ?_
        refine hl_nmM (fun g19 e20 => ?_)
        refine hl_if_ne_F h 166 dX6_book_161 (by decide) (by decide) ?_
        refine hl_iconst h 0 dX6_book_164 (by decide) ?_
        exact hend dX6_book_165 (fun h9 => nomatch h9) (by
          subst e20
          exact ⟨by rfl, (congrArg (hl_WM b cI cZ) (by rfl))⟩)
      | succ n ih =>
        intro i u hi hv
        refine hl_iload h 7 dX6_book_66 rfl ?_
        refine hl_aload_n h 0 dX6_book_68 rfl ?_
        refine hl_get h hi6 hl_wm_0 rfl 18 rfl dX6_book_69 (by decide) (by decide +kernel) ?_
        refine hl_icmp_ge_F h 125 dX6_book_72 (by decide) (by rw [hc]; exact nI_ge (by omega) (by omega)) ?_
        refine hl_iload h 6 dX6_book_75 rfl ?_
        refine hl_aload_n h 0 dX6_book_77 rfl ?_
        refine hl_get h hi6 hl_wm_0 rfl 13 rfl dX6_book_78 (by decide) (by decide +kernel) ?_
        refine hl_iload h 7 dX6_book_81 rfl ?_
        refine hl_ildN h hl_wm_11 0 rfl i dX6_book_83 rfl (by omega) (by decide) ?_
        refine hl_iload_n h 2 dX6_book_84 rfl ?_
        refine hl_icmp_ne h 115 dX6_book_85 (by decide) (fun c21 => ?_) (fun c21 => ?_)
        · refine hl_iconst h 0 dX6_book_115 (by decide) ?_
          refine hl_iadd h dX6_book_116 ?_
          refine hl_istore h [(6, .int (u + 0)), (0, .ref (b 0)), (1, .int x), (2, .int y), (3, .int z), (4, .int v), (5, .int 2), (7, .int (nI i))] dX6_book_117 (by decide) rfl ?_
          refine hl_iinc h 7 (nI (i + 1)) [(7, .int (nI (i + 1))), (6, .int (u + 0)), (0, .ref (b 0)), (1, .int x), (2, .int y), (3, .int z), (4, .int v), (5, .int 2)] dX6_book_119 rfl (hl_inc i) (by decide) rfl ?_
          refine hl_goto h 66 dX6_book_122 (by decide) ?_
          refine hl_lsub [2, 3, 4, 5, 6, 7, 1, 0] rfl ?_
          exact ih (i + 1) (u + 0) (by omega) (by rw [← hv, hl_it_s] <;> (congr 1 <;> (first | (simp [b_X6_book, c21]; done) | (symm; simp [b_X6_book, c21]))))
        · refine hl_aload_n h 0 dX6_book_88 rfl ?_
          refine hl_get h hi6 hl_wm_0 rfl 14 rfl dX6_book_89 (by decide) (by decide +kernel) ?_
          refine hl_iload h 7 dX6_book_92 rfl ?_
          refine hl_ildN h hl_wm_12 0 rfl i dX6_book_94 rfl (by omega) (by decide) ?_
          refine hl_iload_n h 3 dX6_book_95 rfl ?_
          refine hl_icmp_ne h 115 dX6_book_96 (by decide) (fun c22 => ?_) (fun c22 => ?_)
          · refine hl_iconst h 0 dX6_book_115 (by decide) ?_
            refine hl_iadd h dX6_book_116 ?_
            refine hl_istore h [(6, .int (u + 0)), (0, .ref (b 0)), (1, .int x), (2, .int y), (3, .int z), (4, .int v), (5, .int 2), (7, .int (nI i))] dX6_book_117 (by decide) rfl ?_
            refine hl_iinc h 7 (nI (i + 1)) [(7, .int (nI (i + 1))), (6, .int (u + 0)), (0, .ref (b 0)), (1, .int x), (2, .int y), (3, .int z), (4, .int v), (5, .int 2)] dX6_book_119 rfl (hl_inc i) (by decide) rfl ?_
            refine hl_goto h 66 dX6_book_122 (by decide) ?_
            refine hl_lsub [2, 3, 4, 5, 6, 7, 1, 0] rfl ?_
            exact ih (i + 1) (u + 0) (by omega) (by rw [← hv, hl_it_s] <;> (congr 1 <;> (first | (simp [b_X6_book, c21, c22]; done) | (symm; simp [b_X6_book, c21, c22]))))
          · refine hl_aload_n h 0 dX6_book_99 rfl ?_
            refine hl_get h hi6 hl_wm_0 rfl 15 rfl dX6_book_100 (by decide) (by decide +kernel) ?_
            refine hl_iload h 7 dX6_book_103 rfl ?_
            refine hl_ildN h hl_wm_13 0 rfl i dX6_book_105 rfl (by omega) (by decide) ?_
            refine hl_iload h 4 dX6_book_106 rfl ?_
            refine hl_icmp_ne h 115 dX6_book_108 (by decide) (fun c23 => ?_) (fun c23 => ?_)
            · refine hl_iconst h 0 dX6_book_115 (by decide) ?_
              refine hl_iadd h dX6_book_116 ?_
              refine hl_istore h [(6, .int (u + 0)), (0, .ref (b 0)), (1, .int x), (2, .int y), (3, .int z), (4, .int v), (5, .int 2), (7, .int (nI i))] dX6_book_117 (by decide) rfl ?_
              refine hl_iinc h 7 (nI (i + 1)) [(7, .int (nI (i + 1))), (6, .int (u + 0)), (0, .ref (b 0)), (1, .int x), (2, .int y), (3, .int z), (4, .int v), (5, .int 2)] dX6_book_119 rfl (hl_inc i) (by decide) rfl ?_
              refine hl_goto h 66 dX6_book_122 (by decide) ?_
              refine hl_lsub [2, 3, 4, 5, 6, 7, 1, 0] rfl ?_
              exact ih (i + 1) (u + 0) (by omega) (by rw [← hv, hl_it_s] <;> (congr 1 <;> (first | (simp [b_X6_book, c21, c22, c23]; done) | (symm; simp [b_X6_book, c21, c22, c23]))))
            · refine hl_iconst h 1 dX6_book_111 (by decide) ?_
              refine hl_goto h 116 dX6_book_112 (by decide) ?_
              refine hl_iadd h dX6_book_116 ?_
              refine hl_istore h [(6, .int (u + 1)), (0, .ref (b 0)), (1, .int x), (2, .int y), (3, .int z), (4, .int v), (5, .int 2), (7, .int (nI i))] dX6_book_117 (by decide) rfl ?_
              refine hl_iinc h 7 (nI (i + 1)) [(7, .int (nI (i + 1))), (6, .int (u + 1)), (0, .ref (b 0)), (1, .int x), (2, .int y), (3, .int z), (4, .int v), (5, .int 2)] dX6_book_119 rfl (hl_inc i) (by decide) rfl ?_
              refine hl_goto h 66 dX6_book_122 (by decide) ?_
              refine hl_lsub [2, 3, 4, 5, 6, 7, 1, 0] rfl ?_
              exact ih (i + 1) (u + 1) (by omega) (by rw [← hv, hl_it_s] <;> (congr 1 <;> (first | (simp [b_X6_book, c21, c22, c23]; done) | (symm; simp [b_X6_book, c21, c22, c23]))))
    refine hl_lsub [3, 4, 5, 6, 7, 2, 1, 0] rfl ?_
    exact lp66 N 0 0 (Nat.zero_add N) rfl

set_option maxHeartbeats 4000000 in
set_option maxRecDepth 100000 in
theorem c_X6_book_5 (l : Launch) (D : va_G) (cI cZ cJ : ClassId) (b : Nat → Nat) (t : Nat → Nat → Int32) (x y z v : Int32) (N M T : Nat) (ho : hl_okM t N M T) (h1 : vp_in x 10) (h2 : vp_in y 4) (h3 : vp_in z 2) (h4 : ¬ v < t 8 0) (h5 : v ≤ t 8 0 + 10) (h6 : t 18 0 = 80) : hl_KI D (hl_ty cI cZ cJ) l yX6_book wsX6_book ({ frames := 3, cells := 0, slots := 0, locals := 63 } : Room) 0 0 [.ref (b 0), .int x, .int y, .int z, .int v] (hl_WM b cI cZ t) (fun r w => r = 0 ∧ w = hl_WM b cI cZ (hl_su t 23 (fun _ => 3))) := by
  refine hl_KI_of (cc := cX6_book) (maxL := 8) .int rfl (fun _ => Or.inr rfl) (by decide) rfl (Nat.le_of_ble_eq_true rfl) ?_
  intro p e s m args below meth c A Q h hend
  have hi6 : ∀ z ∈ wsX60, z ∈ wsX6_book := by decide +kernel
  obtain ⟨hN, hc, hM, hm, hT, ht8, hbk, hpt, hbr⟩ := id ho
  refine hl_ls (ls' := [(0, .ref (b 0)), (1, .int x), (2, .int y), (3, .int z), (4, .int v)]) rfl ?_
  refine hl_iload_n h 1 dX6_book_0 rfl ?_
  refine hl_callSiD h (st := []) (c_X6_isGuest_T l D cI cZ cJ b t x h1) (va_cwS 1 h.2.2.2.2.1 gX6_book_X6_isGuest rfl rfl rfl (by decide +kernel) ⟨Nat.le_of_ble_eq_true rfl, Nat.le_of_ble_eq_true rfl⟩) dX6_book_1 rfl (Nat.le_of_ble_eq_true rfl) ⟨Nat.le_of_ble_eq_true rfl, Nat.le_of_ble_eq_true rfl⟩ rfl ?_
  refine hl_if_eq_F h 15 dX6_book_4 (by decide) (by decide) ?_
  refine hl_iload_n h 2 dX6_book_7 rfl ?_
  refine hl_iload_n h 3 dX6_book_8 rfl ?_
  refine hl_callSiD h (st := []) (c_X6_isRoom_T l D cI cZ cJ b t y z h2 h3) (va_cwS 2 h.2.2.2.2.1 gX6_book_X6_isRoom rfl rfl rfl (by decide +kernel) ⟨Nat.le_of_ble_eq_true rfl, Nat.le_of_ble_eq_true rfl⟩) dX6_book_9 rfl (Nat.le_of_ble_eq_true rfl) ⟨Nat.le_of_ble_eq_true rfl, Nat.le_of_ble_eq_true rfl⟩ rfl ?_
  refine hl_if_ne_T h 19 dX6_book_12 (by decide) (by decide) ?_
  refine hl_iload h 4 dX6_book_19 rfl ?_
  refine hl_aload_n h 0 dX6_book_21 rfl ?_
  refine hl_get h hi6 hl_wm_0 rfl 8 rfl dX6_book_22 (by decide) (by decide +kernel) ?_
  refine hl_icmp_lt_F h 40 dX6_book_25 (by decide) h4 ?_
  refine hl_iload h 4 dX6_book_28 rfl ?_
  refine hl_aload_n h 0 dX6_book_30 rfl ?_
  refine hl_get h hi6 hl_wm_0 rfl 8 rfl dX6_book_31 (by decide) (by decide +kernel) ?_
  refine hl_isub h dX6_book_34 ?_
  refine hl_bipush h 10 dX6_book_35 (by decide) ?_
  refine hl_icmp_le_T h 44 dX6_book_37 (by decide) (by rw [ht8] at h4 h5 ⊢; exact (hl_rng hT h4).mpr h5) ?_
  refine hl_aload_n h 0 dX6_book_44 rfl ?_
  refine hl_get h hi6 hl_wm_0 rfl 18 rfl dX6_book_45 (by decide) (by decide +kernel) ?_
  refine hl_bipush h 80 dX6_book_48 (by decide) ?_
  refine hl_icmp_ne_F h 57 dX6_book_50 (by decide) h6 ?_
  refine hl_iconst h 3 dX6_book_53 (by decide) ?_
  refine hl_goto h 58 dX6_book_54 (by decide) ?_
  refine hl_istore h [(5, .int 3), (0, .ref (b 0)), (1, .int x), (2, .int y), (3, .int z), (4, .int v)] dX6_book_58 (by decide) rfl ?_
  refine hl_iconst h 0 dX6_book_60 (by decide) ?_
  refine hl_istore h [(6, .int 0), (5, .int 3), (0, .ref (b 0)), (1, .int x), (2, .int y), (3, .int z), (4, .int v)] dX6_book_61 (by decide) rfl ?_
  refine hl_iconst h 0 dX6_book_63 (by decide) ?_
  refine hl_istore h [(7, .int 0), (6, .int 0), (5, .int 3), (0, .ref (b 0)), (1, .int x), (2, .int y), (3, .int z), (4, .int v)] dX6_book_64 (by decide) rfl ?_
  have lp66 : ∀ (n : Nat) (i : Nat) (u : Int32), i + n = N → hl_it (b_X6_book t y z v) i n u = hl_it (b_X6_book t y z v) 0 N 0 →  hl_X p l e ({ frames := 3, cells := 0, slots := 0, locals := 63 } : Room) s m args below meth c 8 D A 0 0 Q (hl_WM b cI cZ t) 66 [(0, .ref (b 0)), (1, .int x), (2, .int y), (3, .int z), (4, .int v), (5, .int 3), (6, .int u), (7, .int (nI i))] [] := by
    intro n
    induction n with
    | zero =>
      intro i u hi hv
      refine hl_iload h 7 dX6_book_66 rfl ?_
      refine hl_aload_n h 0 dX6_book_68 rfl ?_
      refine hl_get h hi6 hl_wm_0 rfl 18 rfl dX6_book_69 (by decide) (by decide +kernel) ?_
      refine hl_icmp_ge_T h 125 dX6_book_72 (by decide) (by rw [hc]; exact nI_le (by omega) (by omega)) ?_
      refine hl_aload_n h 0 dX6_book_125 rfl ?_
      refine hl_iload h 5 dX6_book_126 rfl ?_
      refine hl_if_ne_T h 156 dX6_book_128 (by decide) (by decide) ?_
      refine hl_iload h 5 dX6_book_156 rfl ?_
      refine hl_callViD h (st := []) (c_X6_isFine_n l D cI cZ cJ b t 3 (by decide)) (cwV 1 h.2.2.2.2.1 gX6_book_X6_isFine rfl rfl rfl (by decide +kernel) ⟨Nat.le_of_ble_eq_true rfl, Nat.le_of_ble_eq_true rfl⟩) hl_wm_0 rfl dX6_book_158 rfl (Nat.le_of_ble_eq_true rfl) ⟨Nat.le_of_ble_eq_true rfl, Nat.le_of_ble_eq_true rfl⟩ rfl ?_
      refine hl_nmM (fun g10 e11 => ?_)
      refine hl_if_ne_F h 166 dX6_book_161 (by decide) (by decide) ?_
      refine hl_iconst h 0 dX6_book_164 (by decide) ?_
      exact hend dX6_book_165 (fun h9 => nomatch h9) (by
        subst e11
        exact ⟨by rfl, (congrArg (hl_WM b cI cZ) (by rfl))⟩)
    | succ n ih =>
      intro i u hi hv
      refine hl_iload h 7 dX6_book_66 rfl ?_
      refine hl_aload_n h 0 dX6_book_68 rfl ?_
      refine hl_get h hi6 hl_wm_0 rfl 18 rfl dX6_book_69 (by decide) (by decide +kernel) ?_
      refine hl_icmp_ge_F h 125 dX6_book_72 (by decide) (by rw [hc]; exact nI_ge (by omega) (by omega)) ?_
      refine hl_iload h 6 dX6_book_75 rfl ?_
      refine hl_aload_n h 0 dX6_book_77 rfl ?_
      refine hl_get h hi6 hl_wm_0 rfl 13 rfl dX6_book_78 (by decide) (by decide +kernel) ?_
      refine hl_iload h 7 dX6_book_81 rfl ?_
      refine hl_ildN h hl_wm_11 0 rfl i dX6_book_83 rfl (by omega) (by decide) ?_
      refine hl_iload_n h 2 dX6_book_84 rfl ?_
      refine hl_icmp_ne h 115 dX6_book_85 (by decide) (fun c12 => ?_) (fun c12 => ?_)
      · refine hl_iconst h 0 dX6_book_115 (by decide) ?_
        refine hl_iadd h dX6_book_116 ?_
        refine hl_istore h [(6, .int (u + 0)), (0, .ref (b 0)), (1, .int x), (2, .int y), (3, .int z), (4, .int v), (5, .int 3), (7, .int (nI i))] dX6_book_117 (by decide) rfl ?_
        refine hl_iinc h 7 (nI (i + 1)) [(7, .int (nI (i + 1))), (6, .int (u + 0)), (0, .ref (b 0)), (1, .int x), (2, .int y), (3, .int z), (4, .int v), (5, .int 3)] dX6_book_119 rfl (hl_inc i) (by decide) rfl ?_
        refine hl_goto h 66 dX6_book_122 (by decide) ?_
        refine hl_lsub [2, 3, 4, 5, 6, 7, 1, 0] rfl ?_
        exact ih (i + 1) (u + 0) (by omega) (by rw [← hv, hl_it_s] <;> (congr 1 <;> (first | (simp [b_X6_book, c12]; done) | (symm; simp [b_X6_book, c12]))))
      · refine hl_aload_n h 0 dX6_book_88 rfl ?_
        refine hl_get h hi6 hl_wm_0 rfl 14 rfl dX6_book_89 (by decide) (by decide +kernel) ?_
        refine hl_iload h 7 dX6_book_92 rfl ?_
        refine hl_ildN h hl_wm_12 0 rfl i dX6_book_94 rfl (by omega) (by decide) ?_
        refine hl_iload_n h 3 dX6_book_95 rfl ?_
        refine hl_icmp_ne h 115 dX6_book_96 (by decide) (fun c13 => ?_) (fun c13 => ?_)
        · refine hl_iconst h 0 dX6_book_115 (by decide) ?_
          refine hl_iadd h dX6_book_116 ?_
          refine hl_istore h [(6, .int (u + 0)), (0, .ref (b 0)), (1, .int x), (2, .int y), (3, .int z), (4, .int v), (5, .int 3), (7, .int (nI i))] dX6_book_117 (by decide) rfl ?_
          refine hl_iinc h 7 (nI (i + 1)) [(7, .int (nI (i + 1))), (6, .int (u + 0)), (0, .ref (b 0)), (1, .int x), (2, .int y), (3, .int z), (4, .int v), (5, .int 3)] dX6_book_119 rfl (hl_inc i) (by decide) rfl ?_
          refine hl_goto h 66 dX6_book_122 (by decide) ?_
          refine hl_lsub [2, 3, 4, 5, 6, 7, 1, 0] rfl ?_
          exact ih (i + 1) (u + 0) (by omega) (by rw [← hv, hl_it_s] <;> (congr 1 <;> (first | (simp [b_X6_book, c12, c13]; done) | (symm; simp [b_X6_book, c12, c13]))))
        · refine hl_aload_n h 0 dX6_book_99 rfl ?_
          refine hl_get h hi6 hl_wm_0 rfl 15 rfl dX6_book_100 (by decide) (by decide +kernel) ?_
          refine hl_iload h 7 dX6_book_103 rfl ?_
          refine hl_ildN h hl_wm_13 0 rfl i dX6_book_105 rfl (by omega) (by decide) ?_
          refine hl_iload h 4 dX6_book_106 rfl ?_
          refine hl_icmp_ne h 115 dX6_book_108 (by decide) (fun c14 => ?_) (fun c14 => ?_)
          · refine hl_iconst h 0 dX6_book_115 (by decide) ?_
            refine hl_iadd h dX6_book_116 ?_
            refine hl_istore h [(6, .int (u + 0)), (0, .ref (b 0)), (1, .int x), (2, .int y), (3, .int z), (4, .int v), (5, .int 3), (7, .int (nI i))] dX6_book_117 (by decide) rfl ?_
            refine hl_iinc h 7 (nI (i + 1)) [(7, .int (nI (i + 1))), (6, .int (u + 0)), (0, .ref (b 0)), (1, .int x), (2, .int y), (3, .int z), (4, .int v), (5, .int 3)] dX6_book_119 rfl (hl_inc i) (by decide) rfl ?_
            refine hl_goto h 66 dX6_book_122 (by decide) ?_
            refine hl_lsub [2, 3, 4, 5, 6, 7, 1, 0] rfl ?_
            exact ih (i + 1) (u + 0) (by omega) (by rw [← hv, hl_it_s] <;> (congr 1 <;> (first | (simp [b_X6_book, c12, c13, c14]; done) | (symm; simp [b_X6_book, c12, c13, c14]))))
          · refine hl_iconst h 1 dX6_book_111 (by decide) ?_
            refine hl_goto h 116 dX6_book_112 (by decide) ?_
            refine hl_iadd h dX6_book_116 ?_
            refine hl_istore h [(6, .int (u + 1)), (0, .ref (b 0)), (1, .int x), (2, .int y), (3, .int z), (4, .int v), (5, .int 3), (7, .int (nI i))] dX6_book_117 (by decide) rfl ?_
            refine hl_iinc h 7 (nI (i + 1)) [(7, .int (nI (i + 1))), (6, .int (u + 1)), (0, .ref (b 0)), (1, .int x), (2, .int y), (3, .int z), (4, .int v), (5, .int 3)] dX6_book_119 rfl (hl_inc i) (by decide) rfl ?_
            refine hl_goto h 66 dX6_book_122 (by decide) ?_
            refine hl_lsub [2, 3, 4, 5, 6, 7, 1, 0] rfl ?_
            exact ih (i + 1) (u + 1) (by omega) (by rw [← hv, hl_it_s] <;> (congr 1 <;> (first | (simp [b_X6_book, c12, c13, c14]; done) | (symm; simp [b_X6_book, c12, c13, c14]))))
  refine hl_lsub [3, 4, 5, 6, 7, 2, 1, 0] rfl ?_
  exact lp66 N 0 0 (Nat.zero_add N) rfl

set_option maxHeartbeats 4000000 in
set_option maxRecDepth 100000 in
theorem c_X6_book_6 (l : Launch) (D : va_G) (cI cZ cJ : ClassId) (b : Nat → Nat) (t : Nat → Nat → Int32) (x y z v : Int32) (N M T : Nat) (ho : hl_okM t N M T) (h1 : vp_in x 10) (h2 : vp_in y 4) (h3 : vp_in z 2) (h4 : ¬ v < t 8 0) (h5 : v ≤ t 8 0 + 10) (h6 : ¬ t 18 0 = 80) (h7 : ¬ hl_it (b_X6_book t y z v) 0 N 0 < t 0 (2 * y + z).toNatClampNeg + r_X6_extraOf t T y) : hl_KI D (hl_ty cI cZ cJ) l yX6_book wsX6_book ({ frames := 3, cells := 0, slots := 0, locals := 63 } : Room) 0 0 [.ref (b 0), .int x, .int y, .int z, .int v] (hl_WM b cI cZ t) (fun r w => r = 0 ∧ w = hl_WM b cI cZ (hl_su t 23 (fun _ => 3))) := by
  refine hl_KI_of (cc := cX6_book) (maxL := 8) .int rfl (fun _ => Or.inr rfl) (by decide) rfl (Nat.le_of_ble_eq_true rfl) ?_
  intro p e s m args below meth c A Q h hend
  have hi6 : ∀ z ∈ wsX60, z ∈ wsX6_book := by decide +kernel
  obtain ⟨hN, hc, hM, hm, hT, ht8, hbk, hpt, hbr⟩ := id ho
  have hrow : vp_in (2 * y + z) 8 := hl_rowM h2 h3
  refine hl_ls (ls' := [(0, .ref (b 0)), (1, .int x), (2, .int y), (3, .int z), (4, .int v)]) rfl ?_
  refine hl_iload_n h 1 dX6_book_0 rfl ?_
  refine hl_callSiD h (st := []) (c_X6_isGuest_T l D cI cZ cJ b t x h1) (va_cwS 1 h.2.2.2.2.1 gX6_book_X6_isGuest rfl rfl rfl (by decide +kernel) ⟨Nat.le_of_ble_eq_true rfl, Nat.le_of_ble_eq_true rfl⟩) dX6_book_1 rfl (Nat.le_of_ble_eq_true rfl) ⟨Nat.le_of_ble_eq_true rfl, Nat.le_of_ble_eq_true rfl⟩ rfl ?_
  refine hl_if_eq_F h 15 dX6_book_4 (by decide) (by decide) ?_
  refine hl_iload_n h 2 dX6_book_7 rfl ?_
  refine hl_iload_n h 3 dX6_book_8 rfl ?_
  refine hl_callSiD h (st := []) (c_X6_isRoom_T l D cI cZ cJ b t y z h2 h3) (va_cwS 2 h.2.2.2.2.1 gX6_book_X6_isRoom rfl rfl rfl (by decide +kernel) ⟨Nat.le_of_ble_eq_true rfl, Nat.le_of_ble_eq_true rfl⟩) dX6_book_9 rfl (Nat.le_of_ble_eq_true rfl) ⟨Nat.le_of_ble_eq_true rfl, Nat.le_of_ble_eq_true rfl⟩ rfl ?_
  refine hl_if_ne_T h 19 dX6_book_12 (by decide) (by decide) ?_
  refine hl_iload h 4 dX6_book_19 rfl ?_
  refine hl_aload_n h 0 dX6_book_21 rfl ?_
  refine hl_get h hi6 hl_wm_0 rfl 8 rfl dX6_book_22 (by decide) (by decide +kernel) ?_
  refine hl_icmp_lt_F h 40 dX6_book_25 (by decide) h4 ?_
  refine hl_iload h 4 dX6_book_28 rfl ?_
  refine hl_aload_n h 0 dX6_book_30 rfl ?_
  refine hl_get h hi6 hl_wm_0 rfl 8 rfl dX6_book_31 (by decide) (by decide +kernel) ?_
  refine hl_isub h dX6_book_34 ?_
  refine hl_bipush h 10 dX6_book_35 (by decide) ?_
  refine hl_icmp_le_T h 44 dX6_book_37 (by decide) (by rw [ht8] at h4 h5 ⊢; exact (hl_rng hT h4).mpr h5) ?_
  refine hl_aload_n h 0 dX6_book_44 rfl ?_
  refine hl_get h hi6 hl_wm_0 rfl 18 rfl dX6_book_45 (by decide) (by decide +kernel) ?_
  refine hl_bipush h 80 dX6_book_48 (by decide) ?_
  refine hl_icmp_ne_T h 57 dX6_book_50 (by decide) h6 ?_
  refine hl_iconst h 0 dX6_book_57 (by decide) ?_
  refine hl_istore h [(5, .int 0), (0, .ref (b 0)), (1, .int x), (2, .int y), (3, .int z), (4, .int v)] dX6_book_58 (by decide) rfl ?_
  refine hl_iconst h 0 dX6_book_60 (by decide) ?_
  refine hl_istore h [(6, .int 0), (5, .int 0), (0, .ref (b 0)), (1, .int x), (2, .int y), (3, .int z), (4, .int v)] dX6_book_61 (by decide) rfl ?_
  refine hl_iconst h 0 dX6_book_63 (by decide) ?_
  refine hl_istore h [(7, .int 0), (6, .int 0), (5, .int 0), (0, .ref (b 0)), (1, .int x), (2, .int y), (3, .int z), (4, .int v)] dX6_book_64 (by decide) rfl ?_
  have lp66 : ∀ (n : Nat) (i : Nat) (u : Int32), i + n = N → hl_it (b_X6_book t y z v) i n u = hl_it (b_X6_book t y z v) 0 N 0 →  hl_X p l e ({ frames := 3, cells := 0, slots := 0, locals := 63 } : Room) s m args below meth c 8 D A 0 0 Q (hl_WM b cI cZ t) 66 [(0, .ref (b 0)), (1, .int x), (2, .int y), (3, .int z), (4, .int v), (5, .int 0), (6, .int u), (7, .int (nI i))] [] := by
    intro n
    induction n with
    | zero =>
      intro i u hi hv
      refine hl_iload h 7 dX6_book_66 rfl ?_
      refine hl_aload_n h 0 dX6_book_68 rfl ?_
      refine hl_get h hi6 hl_wm_0 rfl 18 rfl dX6_book_69 (by decide) (by decide +kernel) ?_
      refine hl_icmp_ge_T h 125 dX6_book_72 (by decide) (by rw [hc]; exact nI_le (by omega) (by omega)) ?_
      refine hl_aload_n h 0 dX6_book_125 rfl ?_
      refine hl_iload h 5 dX6_book_126 rfl ?_
      refine hl_if_ne_F h 156 dX6_book_128 (by decide) (by decide) ?_
      refine hl_iload h 6 dX6_book_131 rfl ?_
      refine hl_aload_n h 0 dX6_book_133 rfl ?_
      refine hl_get h hi6 hl_wm_0 rfl 0 rfl dX6_book_134 (by decide) (by decide +kernel) ?_
      refine hl_iconst h 2 dX6_book_137 (by decide) ?_
      refine hl_iload_n h 2 dX6_book_138 rfl ?_
      refine hl_imul h dX6_book_139 ?_
      refine hl_iload_n h 3 dX6_book_140 rfl ?_
      refine hl_iadd h dX6_book_141 ?_
      refine hl_ild h hl_wm_1 0 rfl dX6_book_142 (by with_reducible assumption) ?_
      refine hl_aload_n h 0 dX6_book_143 rfl ?_
      refine hl_iload_n h 2 dX6_book_144 rfl ?_
      refine hl_callViD h (st := [.int (t 0 ((2 * y) + z).toNatClampNeg), .int u, .ref (b 0)]) (c_X6_extraOf l D cI cZ cJ b t y N M T ho (by with_reducible assumption)) (cwV 1 h.2.2.2.2.1 gX6_book_X6_extraOf rfl rfl rfl (by decide +kernel) ⟨Nat.le_of_ble_eq_true rfl, Nat.le_of_ble_eq_true rfl⟩) hl_wm_0 rfl dX6_book_145 rfl (Nat.le_of_ble_eq_true rfl) ⟨Nat.le_of_ble_eq_true rfl, Nat.le_of_ble_eq_true rfl⟩ rfl ?_
      refine hl_iadd h dX6_book_148 ?_
      refine hl_icmp_lt_F h 156 dX6_book_149 (by decide) (by rw [show u = _ from hv]; exact h7) ?_
      refine hl_iconst h 3 dX6_book_152 (by decide) ?_
      refine hl_goto h 158 dX6_book_153 (by decide) ?_
      refine hl_callViD h (st := []) (c_X6_isFine_n l D cI cZ cJ b t 3 (by decide)) (cwV 1 h.2.2.2.2.1 gX6_book_X6_isFine rfl rfl rfl (by decide +kernel) ⟨Nat.le_of_ble_eq_true rfl, Nat.le_of_ble_eq_true rfl⟩) hl_wm_0 rfl dX6_book_158 rfl (Nat.le_of_ble_eq_true rfl) ⟨Nat.le_of_ble_eq_true rfl, Nat.le_of_ble_eq_true rfl⟩ rfl ?_
      refine hl_nmM (fun g13 e14 => ?_)
      refine hl_if_ne_F h 166 dX6_book_161 (by decide) (by decide) ?_
      refine hl_iconst h 0 dX6_book_164 (by decide) ?_
      exact hend dX6_book_165 (fun h9 => nomatch h9) (by
        subst e14
        exact ⟨by rfl, (congrArg (hl_WM b cI cZ) (by rfl))⟩)
    | succ n ih =>
      intro i u hi hv
      refine hl_iload h 7 dX6_book_66 rfl ?_
      refine hl_aload_n h 0 dX6_book_68 rfl ?_
      refine hl_get h hi6 hl_wm_0 rfl 18 rfl dX6_book_69 (by decide) (by decide +kernel) ?_
      refine hl_icmp_ge_F h 125 dX6_book_72 (by decide) (by rw [hc]; exact nI_ge (by omega) (by omega)) ?_
      refine hl_iload h 6 dX6_book_75 rfl ?_
      refine hl_aload_n h 0 dX6_book_77 rfl ?_
      refine hl_get h hi6 hl_wm_0 rfl 13 rfl dX6_book_78 (by decide) (by decide +kernel) ?_
      refine hl_iload h 7 dX6_book_81 rfl ?_
      refine hl_ildN h hl_wm_11 0 rfl i dX6_book_83 rfl (by omega) (by decide) ?_
      refine hl_iload_n h 2 dX6_book_84 rfl ?_
      refine hl_icmp_ne h 115 dX6_book_85 (by decide) (fun c15 => ?_) (fun c15 => ?_)
      · refine hl_iconst h 0 dX6_book_115 (by decide) ?_
        refine hl_iadd h dX6_book_116 ?_
        refine hl_istore h [(6, .int (u + 0)), (0, .ref (b 0)), (1, .int x), (2, .int y), (3, .int z), (4, .int v), (5, .int 0), (7, .int (nI i))] dX6_book_117 (by decide) rfl ?_
        refine hl_iinc h 7 (nI (i + 1)) [(7, .int (nI (i + 1))), (6, .int (u + 0)), (0, .ref (b 0)), (1, .int x), (2, .int y), (3, .int z), (4, .int v), (5, .int 0)] dX6_book_119 rfl (hl_inc i) (by decide) rfl ?_
        refine hl_goto h 66 dX6_book_122 (by decide) ?_
        refine hl_lsub [2, 3, 4, 5, 6, 7, 1, 0] rfl ?_
        exact ih (i + 1) (u + 0) (by omega) (by rw [← hv, hl_it_s] <;> (congr 1 <;> (first | (simp [b_X6_book, c15]; done) | (symm; simp [b_X6_book, c15]))))
      · refine hl_aload_n h 0 dX6_book_88 rfl ?_
        refine hl_get h hi6 hl_wm_0 rfl 14 rfl dX6_book_89 (by decide) (by decide +kernel) ?_
        refine hl_iload h 7 dX6_book_92 rfl ?_
        refine hl_ildN h hl_wm_12 0 rfl i dX6_book_94 rfl (by omega) (by decide) ?_
        refine hl_iload_n h 3 dX6_book_95 rfl ?_
        refine hl_icmp_ne h 115 dX6_book_96 (by decide) (fun c16 => ?_) (fun c16 => ?_)
        · refine hl_iconst h 0 dX6_book_115 (by decide) ?_
          refine hl_iadd h dX6_book_116 ?_
          refine hl_istore h [(6, .int (u + 0)), (0, .ref (b 0)), (1, .int x), (2, .int y), (3, .int z), (4, .int v), (5, .int 0), (7, .int (nI i))] dX6_book_117 (by decide) rfl ?_
          refine hl_iinc h 7 (nI (i + 1)) [(7, .int (nI (i + 1))), (6, .int (u + 0)), (0, .ref (b 0)), (1, .int x), (2, .int y), (3, .int z), (4, .int v), (5, .int 0)] dX6_book_119 rfl (hl_inc i) (by decide) rfl ?_
          refine hl_goto h 66 dX6_book_122 (by decide) ?_
          refine hl_lsub [2, 3, 4, 5, 6, 7, 1, 0] rfl ?_
          exact ih (i + 1) (u + 0) (by omega) (by rw [← hv, hl_it_s] <;> (congr 1 <;> (first | (simp [b_X6_book, c15, c16]; done) | (symm; simp [b_X6_book, c15, c16]))))
        · refine hl_aload_n h 0 dX6_book_99 rfl ?_
          refine hl_get h hi6 hl_wm_0 rfl 15 rfl dX6_book_100 (by decide) (by decide +kernel) ?_
          refine hl_iload h 7 dX6_book_103 rfl ?_
          refine hl_ildN h hl_wm_13 0 rfl i dX6_book_105 rfl (by omega) (by decide) ?_
          refine hl_iload h 4 dX6_book_106 rfl ?_
          refine hl_icmp_ne h 115 dX6_book_108 (by decide) (fun c17 => ?_) (fun c17 => ?_)
          · refine hl_iconst h 0 dX6_book_115 (by decide) ?_
            refine hl_iadd h dX6_book_116 ?_
            refine hl_istore h [(6, .int (u + 0)), (0, .ref (b 0)), (1, .int x), (2, .int y), (3, .int z), (4, .int v), (5, .int 0), (7, .int (nI i))] dX6_book_117 (by decide) rfl ?_
            refine hl_iinc h 7 (nI (i + 1)) [(7, .int (nI (i + 1))), (6, .int (u + 0)), (0, .ref (b 0)), (1, .int x), (2, .int y), (3, .int z), (4, .int v), (5, .int 0)] dX6_book_119 rfl (hl_inc i) (by decide) rfl ?_
            refine hl_goto h 66 dX6_book_122 (by decide) ?_
            refine hl_lsub [2, 3, 4, 5, 6, 7, 1, 0] rfl ?_
            exact ih (i + 1) (u + 0) (by omega) (by rw [← hv, hl_it_s] <;> (congr 1 <;> (first | (simp [b_X6_book, c15, c16, c17]; done) | (symm; simp [b_X6_book, c15, c16, c17]))))
          · refine hl_iconst h 1 dX6_book_111 (by decide) ?_
            refine hl_goto h 116 dX6_book_112 (by decide) ?_
            refine hl_iadd h dX6_book_116 ?_
            refine hl_istore h [(6, .int (u + 1)), (0, .ref (b 0)), (1, .int x), (2, .int y), (3, .int z), (4, .int v), (5, .int 0), (7, .int (nI i))] dX6_book_117 (by decide) rfl ?_
            refine hl_iinc h 7 (nI (i + 1)) [(7, .int (nI (i + 1))), (6, .int (u + 1)), (0, .ref (b 0)), (1, .int x), (2, .int y), (3, .int z), (4, .int v), (5, .int 0)] dX6_book_119 rfl (hl_inc i) (by decide) rfl ?_
            refine hl_goto h 66 dX6_book_122 (by decide) ?_
            refine hl_lsub [2, 3, 4, 5, 6, 7, 1, 0] rfl ?_
            exact ih (i + 1) (u + 1) (by omega) (by rw [← hv, hl_it_s] <;> (congr 1 <;> (first | (simp [b_X6_book, c15, c16, c17]; done) | (symm; simp [b_X6_book, c15, c16, c17]))))
  refine hl_lsub [3, 4, 5, 6, 7, 2, 1, 0] rfl ?_
  exact lp66 N 0 0 (Nat.zero_add N) rfl

set_option maxHeartbeats 4000000 in
set_option maxRecDepth 100000 in
theorem c_X6_book_0 (l : Launch) (D : va_G) (cI cZ cJ : ClassId) (b : Nat → Nat) (t : Nat → Nat → Int32) (x y z v : Int32) (N M T : Nat) (ho : hl_okM t N M T) (h1 : vp_in x 10) (h2 : vp_in y 4) (h3 : vp_in z 2) (h4 : ¬ v < t 8 0) (h5 : v ≤ t 8 0 + 10) (h6 : t 18 0 < 80) (h7 : hl_it (b_X6_book t y z v) 0 N 0 < t 0 (2 * y + z).toNatClampNeg + r_X6_extraOf t T y) : hl_KI D (hl_ty cI cZ cJ) l yX6_book wsX6_book ({ frames := 3, cells := 0, slots := 0, locals := 63 } : Room) 0 0 [.ref (b 0), .int x, .int y, .int z, .int v] (hl_WM b cI cZ t) (fun r w => r = t 18 0 + 1 - 1 ∧ w = hl_WM b cI cZ (f_X6_book (hl_su t 23 (fun _ => 0)) x y z v)) := by
  refine hl_KI_of (cc := cX6_book) (maxL := 8) .int rfl (fun _ => Or.inr rfl) (by decide) rfl (Nat.le_of_ble_eq_true rfl) ?_
  intro p e s m args below meth c A Q h hend
  have hi6 : ∀ z ∈ wsX60, z ∈ wsX6_book := by decide +kernel
  obtain ⟨hN, hc, hM, hm, hT, ht8, hbk, hpt, hbr⟩ := id ho
  have hrow : vp_in (2 * y + z) 8 := hl_rowM h2 h3
  have h8 : vp_in (t 18 0) 80 := hl_in 80 rfl (by rw [hc]; exact nI_pos (by omega)) h6
  refine hl_ls (ls' := [(0, .ref (b 0)), (1, .int x), (2, .int y), (3, .int z), (4, .int v)]) rfl ?_
  refine hl_iload_n h 1 dX6_book_0 rfl ?_
  refine hl_callSiD h (st := []) (c_X6_isGuest_T l D cI cZ cJ b t x h1) (va_cwS 1 h.2.2.2.2.1 gX6_book_X6_isGuest rfl rfl rfl (by decide +kernel) ⟨Nat.le_of_ble_eq_true rfl, Nat.le_of_ble_eq_true rfl⟩) dX6_book_1 rfl (Nat.le_of_ble_eq_true rfl) ⟨Nat.le_of_ble_eq_true rfl, Nat.le_of_ble_eq_true rfl⟩ rfl ?_
  refine hl_if_eq_F h 15 dX6_book_4 (by decide) (by decide) ?_
  refine hl_iload_n h 2 dX6_book_7 rfl ?_
  refine hl_iload_n h 3 dX6_book_8 rfl ?_
  refine hl_callSiD h (st := []) (c_X6_isRoom_T l D cI cZ cJ b t y z h2 h3) (va_cwS 2 h.2.2.2.2.1 gX6_book_X6_isRoom rfl rfl rfl (by decide +kernel) ⟨Nat.le_of_ble_eq_true rfl, Nat.le_of_ble_eq_true rfl⟩) dX6_book_9 rfl (Nat.le_of_ble_eq_true rfl) ⟨Nat.le_of_ble_eq_true rfl, Nat.le_of_ble_eq_true rfl⟩ rfl ?_
  refine hl_if_ne_T h 19 dX6_book_12 (by decide) (by decide) ?_
  refine hl_iload h 4 dX6_book_19 rfl ?_
  refine hl_aload_n h 0 dX6_book_21 rfl ?_
  refine hl_get h hi6 hl_wm_0 rfl 8 rfl dX6_book_22 (by decide) (by decide +kernel) ?_
  refine hl_icmp_lt_F h 40 dX6_book_25 (by decide) h4 ?_
  refine hl_iload h 4 dX6_book_28 rfl ?_
  refine hl_aload_n h 0 dX6_book_30 rfl ?_
  refine hl_get h hi6 hl_wm_0 rfl 8 rfl dX6_book_31 (by decide) (by decide +kernel) ?_
  refine hl_isub h dX6_book_34 ?_
  refine hl_bipush h 10 dX6_book_35 (by decide) ?_
  refine hl_icmp_le_T h 44 dX6_book_37 (by decide) (by rw [ht8] at h4 h5 ⊢; exact (hl_rng hT h4).mpr h5) ?_
  refine hl_aload_n h 0 dX6_book_44 rfl ?_
  refine hl_get h hi6 hl_wm_0 rfl 18 rfl dX6_book_45 (by decide) (by decide +kernel) ?_
  refine hl_bipush h 80 dX6_book_48 (by decide) ?_
  refine hl_icmp_ne_T h 57 dX6_book_50 (by decide) (fun z9 => by rw [z9] at h6; exact absurd h6 (by decide)) ?_
  refine hl_iconst h 0 dX6_book_57 (by decide) ?_
  refine hl_istore h [(5, .int 0), (0, .ref (b 0)), (1, .int x), (2, .int y), (3, .int z), (4, .int v)] dX6_book_58 (by decide) rfl ?_
  refine hl_iconst h 0 dX6_book_60 (by decide) ?_
  refine hl_istore h [(6, .int 0), (5, .int 0), (0, .ref (b 0)), (1, .int x), (2, .int y), (3, .int z), (4, .int v)] dX6_book_61 (by decide) rfl ?_
  refine hl_iconst h 0 dX6_book_63 (by decide) ?_
  refine hl_istore h [(7, .int 0), (6, .int 0), (5, .int 0), (0, .ref (b 0)), (1, .int x), (2, .int y), (3, .int z), (4, .int v)] dX6_book_64 (by decide) rfl ?_
  have lp66 : ∀ (n : Nat) (i : Nat) (u : Int32), i + n = N → hl_it (b_X6_book t y z v) i n u = hl_it (b_X6_book t y z v) 0 N 0 →  hl_X p l e ({ frames := 3, cells := 0, slots := 0, locals := 63 } : Room) s m args below meth c 8 D A 0 0 Q (hl_WM b cI cZ t) 66 [(0, .ref (b 0)), (1, .int x), (2, .int y), (3, .int z), (4, .int v), (5, .int 0), (6, .int u), (7, .int (nI i))] [] := by
    intro n
    induction n with
    | zero =>
      intro i u hi hv
      refine hl_iload h 7 dX6_book_66 rfl ?_
      refine hl_aload_n h 0 dX6_book_68 rfl ?_
      refine hl_get h hi6 hl_wm_0 rfl 18 rfl dX6_book_69 (by decide) (by decide +kernel) ?_
      refine hl_icmp_ge_T h 125 dX6_book_72 (by decide) (by rw [hc]; exact nI_le (by omega) (by omega)) ?_
      refine hl_aload_n h 0 dX6_book_125 rfl ?_
      refine hl_iload h 5 dX6_book_126 rfl ?_
      refine hl_if_ne_F h 156 dX6_book_128 (by decide) (by decide) ?_
      refine hl_iload h 6 dX6_book_131 rfl ?_
      refine hl_aload_n h 0 dX6_book_133 rfl ?_
      refine hl_get h hi6 hl_wm_0 rfl 0 rfl dX6_book_134 (by decide) (by decide +kernel) ?_
      refine hl_iconst h 2 dX6_book_137 (by decide) ?_
      refine hl_iload_n h 2 dX6_book_138 rfl ?_
      refine hl_imul h dX6_book_139 ?_
      refine hl_iload_n h 3 dX6_book_140 rfl ?_
      refine hl_iadd h dX6_book_141 ?_
      refine hl_ild h hl_wm_1 0 rfl dX6_book_142 (by with_reducible assumption) ?_
      refine hl_aload_n h 0 dX6_book_143 rfl ?_
      refine hl_iload_n h 2 dX6_book_144 rfl ?_
      refine hl_callViD h (st := [.int (t 0 ((2 * y) + z).toNatClampNeg), .int u, .ref (b 0)]) (c_X6_extraOf l D cI cZ cJ b t y N M T ho (by with_reducible assumption)) (cwV 1 h.2.2.2.2.1 gX6_book_X6_extraOf rfl rfl rfl (by decide +kernel) ⟨Nat.le_of_ble_eq_true rfl, Nat.le_of_ble_eq_true rfl⟩) hl_wm_0 rfl dX6_book_145 rfl (Nat.le_of_ble_eq_true rfl) ⟨Nat.le_of_ble_eq_true rfl, Nat.le_of_ble_eq_true rfl⟩ rfl ?_
      refine hl_iadd h dX6_book_148 ?_
      refine hl_icmp_lt_T h 156 dX6_book_149 (by decide) (by rw [show u = _ from hv]; exact h7) ?_
      refine hl_iload h 5 dX6_book_156 rfl ?_
      refine hl_callViD h (st := []) (c_X6_isFine_0 l D cI cZ cJ b t 0 rfl) (cwV 1 h.2.2.2.2.1 gX6_book_X6_isFine rfl rfl rfl (by decide +kernel) ⟨Nat.le_of_ble_eq_true rfl, Nat.le_of_ble_eq_true rfl⟩) hl_wm_0 rfl dX6_book_158 rfl (Nat.le_of_ble_eq_true rfl) ⟨Nat.le_of_ble_eq_true rfl, Nat.le_of_ble_eq_true rfl⟩ rfl ?_
      refine hl_nmM (fun g13 e14 => ?_)
      refine hl_if_ne_T h 166 dX6_book_161 (by decide) (by decide) ?_
      refine hl_aload_n h 0 dX6_book_166 rfl ?_
      refine hl_get h hi6 hl_wm_0 rfl 12 rfl dX6_book_167 (by decide) (by decide +kernel) ?_
      refine hl_aload_n h 0 dX6_book_170 rfl ?_
      refine hl_get h hi6 hl_wm_0 rfl 18 rfl dX6_book_171 (by decide) (by decide +kernel) ?_
      refine hl_iload_n h 1 dX6_book_174 rfl ?_
      refine hl_ist h hl_wm_10 0 rfl dX6_book_175 (by subst e14; exact h8) hl_wm_t12 ?_
      refine hl_nmM (fun g15 e16 => ?_)
      refine hl_aload_n h 0 dX6_book_176 rfl ?_
      refine hl_get h hi6 hl_wm_0 rfl 13 rfl dX6_book_177 (by decide) (by decide +kernel) ?_
      refine hl_aload_n h 0 dX6_book_180 rfl ?_
      refine hl_get h hi6 hl_wm_0 rfl 18 rfl dX6_book_181 (by decide) (by decide +kernel) ?_
      refine hl_iload_n h 2 dX6_book_184 rfl ?_
      refine hl_ist h hl_wm_11 0 rfl dX6_book_185 (by subst e16; subst e14; exact h8) hl_wm_t13 ?_
      refine hl_nmM (fun g17 e18 => ?_)
      refine hl_aload_n h 0 dX6_book_186 rfl ?_
      refine hl_get h hi6 hl_wm_0 rfl 14 rfl dX6_book_187 (by decide) (by decide +kernel) ?_
      refine hl_aload_n h 0 dX6_book_190 rfl ?_
      refine hl_get h hi6 hl_wm_0 rfl 18 rfl dX6_book_191 (by decide) (by decide +kernel) ?_
      refine hl_iload_n h 3 dX6_book_194 rfl ?_
      refine hl_ist h hl_wm_12 0 rfl dX6_book_195 (by subst e18; subst e16; subst e14; exact h8) hl_wm_t14 ?_
      refine hl_nmM (fun g19 e20 => ?_)
      refine hl_aload_n h 0 dX6_book_196 rfl ?_
      refine hl_get h hi6 hl_wm_0 rfl 15 rfl dX6_book_197 (by decide) (by decide +kernel) ?_
      refine hl_aload_n h 0 dX6_book_200 rfl ?_
      refine hl_get h hi6 hl_wm_0 rfl 18 rfl dX6_book_201 (by decide) (by decide +kernel) ?_
      refine hl_iload h 4 dX6_book_204 rfl ?_
      refine hl_ist h hl_wm_13 0 rfl dX6_book_206 (by subst e20; subst e18; subst e16; subst e14; exact h8) hl_wm_t15 ?_
      refine hl_nmM (fun g21 e22 => ?_)
      refine hl_aload_n h 0 dX6_book_207 rfl ?_
      refine hl_get h hi6 hl_wm_0 rfl 17 rfl dX6_book_208 (by decide) (by decide +kernel) ?_
      refine hl_aload_n h 0 dX6_book_211 rfl ?_
      refine hl_get h hi6 hl_wm_0 rfl 18 rfl dX6_book_212 (by decide) (by decide +kernel) ?_
      refine hl_iconst h (-1) dX6_book_215 (by decide) ?_
      refine hl_ist h hl_wm_15 0 rfl dX6_book_216 (by subst e22; subst e20; subst e18; subst e16; subst e14; exact h8) hl_wm_t17 ?_
      refine hl_nmM (fun g23 e24 => ?_)
      refine hl_aload_n h 0 dX6_book_217 rfl ?_
      refine hl_dup h dX6_book_218 rfl ?_
      refine hl_get h hi6 hl_wm_0 rfl 18 rfl dX6_book_219 (by decide) (by decide +kernel) ?_
      refine hl_iconst h 1 dX6_book_222 (by decide) ?_
      refine hl_iadd h dX6_book_223 ?_
      refine hl_put h hi6 tyX6_ok nmX6 hl_wm_0 rfl 18 dX6_book_224 (by decide) (by decide +kernel) (by decide) rfl rfl (Nat.le_of_ble_eq_true rfl) hl_wm_s18 ?_
      refine hl_nmM (fun g25 e26 => ?_)
      refine hl_aload_n h 0 dX6_book_227 rfl ?_
      refine hl_get h hi6 hl_wm_0 rfl 18 rfl dX6_book_228 (by decide) (by decide +kernel) ?_
      refine hl_iconst h 1 dX6_book_231 (by decide) ?_
      refine hl_isub h dX6_book_232 ?_
      exact hend dX6_book_233 (fun h9 => nomatch h9) (by
        subst e26; subst e24; subst e22; subst e20; subst e18; subst e16; subst e14
        exact ⟨by rfl, (congrArg (hl_WM b cI cZ) (by rfl))⟩)
    | succ n ih =>
      intro i u hi hv
      refine hl_iload h 7 dX6_book_66 rfl ?_
      refine hl_aload_n h 0 dX6_book_68 rfl ?_
      refine hl_get h hi6 hl_wm_0 rfl 18 rfl dX6_book_69 (by decide) (by decide +kernel) ?_
      refine hl_icmp_ge_F h 125 dX6_book_72 (by decide) (by rw [hc]; exact nI_ge (by omega) (by omega)) ?_
      refine hl_iload h 6 dX6_book_75 rfl ?_
      refine hl_aload_n h 0 dX6_book_77 rfl ?_
      refine hl_get h hi6 hl_wm_0 rfl 13 rfl dX6_book_78 (by decide) (by decide +kernel) ?_
      refine hl_iload h 7 dX6_book_81 rfl ?_
      refine hl_ildN h hl_wm_11 0 rfl i dX6_book_83 rfl (by omega) (by decide) ?_
      refine hl_iload_n h 2 dX6_book_84 rfl ?_
      refine hl_icmp_ne h 115 dX6_book_85 (by decide) (fun c27 => ?_) (fun c27 => ?_)
      · refine hl_iconst h 0 dX6_book_115 (by decide) ?_
        refine hl_iadd h dX6_book_116 ?_
        refine hl_istore h [(6, .int (u + 0)), (0, .ref (b 0)), (1, .int x), (2, .int y), (3, .int z), (4, .int v), (5, .int 0), (7, .int (nI i))] dX6_book_117 (by decide) rfl ?_
        refine hl_iinc h 7 (nI (i + 1)) [(7, .int (nI (i + 1))), (6, .int (u + 0)), (0, .ref (b 0)), (1, .int x), (2, .int y), (3, .int z), (4, .int v), (5, .int 0)] dX6_book_119 rfl (hl_inc i) (by decide) rfl ?_
        refine hl_goto h 66 dX6_book_122 (by decide) ?_
        refine hl_lsub [2, 3, 4, 5, 6, 7, 1, 0] rfl ?_
        exact ih (i + 1) (u + 0) (by omega) (by rw [← hv, hl_it_s] <;> (congr 1 <;> (first | (simp [b_X6_book, c27]; done) | (symm; simp [b_X6_book, c27]))))
      · refine hl_aload_n h 0 dX6_book_88 rfl ?_
        refine hl_get h hi6 hl_wm_0 rfl 14 rfl dX6_book_89 (by decide) (by decide +kernel) ?_
        refine hl_iload h 7 dX6_book_92 rfl ?_
        refine hl_ildN h hl_wm_12 0 rfl i dX6_book_94 rfl (by omega) (by decide) ?_
        refine hl_iload_n h 3 dX6_book_95 rfl ?_
        refine hl_icmp_ne h 115 dX6_book_96 (by decide) (fun c28 => ?_) (fun c28 => ?_)
        · refine hl_iconst h 0 dX6_book_115 (by decide) ?_
          refine hl_iadd h dX6_book_116 ?_
          refine hl_istore h [(6, .int (u + 0)), (0, .ref (b 0)), (1, .int x), (2, .int y), (3, .int z), (4, .int v), (5, .int 0), (7, .int (nI i))] dX6_book_117 (by decide) rfl ?_
          refine hl_iinc h 7 (nI (i + 1)) [(7, .int (nI (i + 1))), (6, .int (u + 0)), (0, .ref (b 0)), (1, .int x), (2, .int y), (3, .int z), (4, .int v), (5, .int 0)] dX6_book_119 rfl (hl_inc i) (by decide) rfl ?_
          refine hl_goto h 66 dX6_book_122 (by decide) ?_
          refine hl_lsub [2, 3, 4, 5, 6, 7, 1, 0] rfl ?_
          exact ih (i + 1) (u + 0) (by omega) (by rw [← hv, hl_it_s] <;> (congr 1 <;> (first | (simp [b_X6_book, c27, c28]; done) | (symm; simp [b_X6_book, c27, c28]))))
        · refine hl_aload_n h 0 dX6_book_99 rfl ?_
          refine hl_get h hi6 hl_wm_0 rfl 15 rfl dX6_book_100 (by decide) (by decide +kernel) ?_
          refine hl_iload h 7 dX6_book_103 rfl ?_
          refine hl_ildN h hl_wm_13 0 rfl i dX6_book_105 rfl (by omega) (by decide) ?_
          refine hl_iload h 4 dX6_book_106 rfl ?_
          refine hl_icmp_ne h 115 dX6_book_108 (by decide) (fun c29 => ?_) (fun c29 => ?_)
          · refine hl_iconst h 0 dX6_book_115 (by decide) ?_
            refine hl_iadd h dX6_book_116 ?_
            refine hl_istore h [(6, .int (u + 0)), (0, .ref (b 0)), (1, .int x), (2, .int y), (3, .int z), (4, .int v), (5, .int 0), (7, .int (nI i))] dX6_book_117 (by decide) rfl ?_
            refine hl_iinc h 7 (nI (i + 1)) [(7, .int (nI (i + 1))), (6, .int (u + 0)), (0, .ref (b 0)), (1, .int x), (2, .int y), (3, .int z), (4, .int v), (5, .int 0)] dX6_book_119 rfl (hl_inc i) (by decide) rfl ?_
            refine hl_goto h 66 dX6_book_122 (by decide) ?_
            refine hl_lsub [2, 3, 4, 5, 6, 7, 1, 0] rfl ?_
            exact ih (i + 1) (u + 0) (by omega) (by rw [← hv, hl_it_s] <;> (congr 1 <;> (first | (simp [b_X6_book, c27, c28, c29]; done) | (symm; simp [b_X6_book, c27, c28, c29]))))
          · refine hl_iconst h 1 dX6_book_111 (by decide) ?_
            refine hl_goto h 116 dX6_book_112 (by decide) ?_
            refine hl_iadd h dX6_book_116 ?_
            refine hl_istore h [(6, .int (u + 1)), (0, .ref (b 0)), (1, .int x), (2, .int y), (3, .int z), (4, .int v), (5, .int 0), (7, .int (nI i))] dX6_book_117 (by decide) rfl ?_
            refine hl_iinc h 7 (nI (i + 1)) [(7, .int (nI (i + 1))), (6, .int (u + 1)), (0, .ref (b 0)), (1, .int x), (2, .int y), (3, .int z), (4, .int v), (5, .int 0)] dX6_book_119 rfl (hl_inc i) (by decide) rfl ?_
            refine hl_goto h 66 dX6_book_122 (by decide) ?_
            refine hl_lsub [2, 3, 4, 5, 6, 7, 1, 0] rfl ?_
            exact ih (i + 1) (u + 1) (by omega) (by rw [← hv, hl_it_s] <;> (congr 1 <;> (first | (simp [b_X6_book, c27, c28, c29]; done) | (symm; simp [b_X6_book, c27, c28, c29]))))
  refine hl_lsub [3, 4, 5, 6, 7, 2, 1, 0] rfl ?_
  exact lp66 N 0 0 (Nat.zero_add N) rfl

set_option maxHeartbeats 4000000 in
set_option maxRecDepth 100000 in
theorem c_X6_distance (l : Launch) (D : va_G) (cI cZ cJ : ClassId) (b : Nat → Nat) (t : Nat → Nat → Int32) (x y : Int32) : hl_KI D (hl_ty cI cZ cJ) l yX6_distance wsX6_distance ({ frames := 0, cells := 0, slots := 0, locals := 0 } : Room) 0 0 [.int x, .int y] (hl_WM b cI cZ t) (fun r w => r = r_X6_distance x y ∧ w = hl_WM b cI cZ t) := by
  refine hl_KI_of (cc := cX6_distance) (maxL := 3) .int rfl (fun _ => Or.inr rfl) (by decide) rfl (Nat.le_of_ble_eq_true rfl) ?_
  intro p e s m args below meth c A Q h hend
  refine hl_ls (ls' := [(0, .int x), (1, .int y)]) rfl ?_
  refine hl_iload_n h 0 dX6_distance_0 rfl ?_
  refine hl_iload_n h 1 dX6_distance_1 rfl ?_
  refine hl_icmp_le h 11 dX6_distance_2 (by decide) (fun c1 => ?_) (fun c1 => ?_)
  · refine hl_iload_n h 1 dX6_distance_11 rfl ?_
    refine hl_iload_n h 0 dX6_distance_12 rfl ?_
    refine hl_isub h dX6_distance_13 ?_
    refine hl_istore_n h [(2, .int (y - x)), (0, .int x), (1, .int y)] dX6_distance_14 (by decide) rfl ?_
    refine hl_iload_n h 0 dX6_distance_15 rfl ?_
    refine hl_iconst h 4 dX6_distance_16 (by decide) ?_
    refine hl_iload_n h 0 dX6_distance_17 rfl ?_
    refine hl_isub h dX6_distance_18 ?_
    refine hl_icmp_ge h 26 dX6_distance_19 (by decide) (fun c2 => ?_) (fun c2 => ?_)
    · refine hl_iconst h 4 dX6_distance_26 (by decide) ?_
      refine hl_iload_n h 0 dX6_distance_27 rfl ?_
      refine hl_isub h dX6_distance_28 ?_
      exact hend dX6_distance_29 (fun h9 => nomatch h9) (by
        exact ⟨by simp only [r_X6_distance, if_pos c1, if_pos c2], rfl⟩)
    · refine hl_iload_n h 0 dX6_distance_22 rfl ?_
      refine hl_goto h 29 dX6_distance_23 (by decide) ?_
      exact hend dX6_distance_29 (fun h9 => nomatch h9) (by
        exact ⟨by simp only [r_X6_distance, if_pos c1, if_neg c2], rfl⟩)
  · refine hl_iload_n h 0 dX6_distance_5 rfl ?_
    refine hl_iload_n h 1 dX6_distance_6 rfl ?_
    refine hl_isub h dX6_distance_7 ?_
    refine hl_goto h 14 dX6_distance_8 (by decide) ?_
    refine hl_istore_n h [(2, .int (x - y)), (0, .int x), (1, .int y)] dX6_distance_14 (by decide) rfl ?_
    refine hl_iload_n h 0 dX6_distance_15 rfl ?_
    refine hl_iconst h 4 dX6_distance_16 (by decide) ?_
    refine hl_iload_n h 0 dX6_distance_17 rfl ?_
    refine hl_isub h dX6_distance_18 ?_
    refine hl_icmp_ge h 26 dX6_distance_19 (by decide) (fun c3 => ?_) (fun c3 => ?_)
    · refine hl_iconst h 4 dX6_distance_26 (by decide) ?_
      refine hl_iload_n h 0 dX6_distance_27 rfl ?_
      refine hl_isub h dX6_distance_28 ?_
      exact hend dX6_distance_29 (fun h9 => nomatch h9) (by
        exact ⟨by simp only [r_X6_distance, if_neg c1, if_pos c3], rfl⟩)
    · refine hl_iload_n h 0 dX6_distance_22 rfl ?_
      refine hl_goto h 29 dX6_distance_23 (by decide) ?_
      exact hend dX6_distance_29 (fun h9 => nomatch h9) (by
        exact ⟨by simp only [r_X6_distance, if_neg c1, if_neg c3], rfl⟩)

set_option maxHeartbeats 4000000 in
set_option maxRecDepth 100000 in
theorem c_X6_isFree (l : Launch) (D : va_G) (cI cZ cJ : ClassId) (b : Nat → Nat) (t : Nat → Nat → Int32) (x y : Int32) (h1 : vp_in x 4) (h2 : vp_in y 2) : hl_KI D (hl_ty cI cZ cJ) l yX6_isFree wsX6_isFree ({ frames := 0, cells := 0, slots := 0, locals := 0 } : Room) 0 0 [.ref (b 0), .int x, .int y] (hl_WM b cI cZ t) (fun r w => r = (if t 0 (2 * x + y).toNatClampNeg ≤ t 2 (2 * x + y).toNatClampNeg then 0 else 1) ∧ w = hl_WM b cI cZ t) := by
  refine hl_KI_of (cc := cX6_isFree) (maxL := 3) .boolean rfl (fun _ => Or.inl rfl) (by decide) rfl (Nat.le_of_ble_eq_true rfl) ?_
  intro p e s m args below meth c A Q h hend
  have hi6 : ∀ z ∈ wsX60, z ∈ wsX6_isFree := by decide +kernel
  have hrow : vp_in (2 * x + y) 8 := hl_rowM h1 h2
  refine hl_ls (ls' := [(0, .ref (b 0)), (1, .int x), (2, .int y)]) rfl ?_
  refine hl_aload_n h 0 dX6_isFree_0 rfl ?_
  refine hl_get h hi6 hl_wm_0 rfl 2 rfl dX6_isFree_1 (by decide) (by decide +kernel) ?_
  refine hl_iconst h 2 dX6_isFree_4 (by decide) ?_
  refine hl_iload_n h 1 dX6_isFree_5 rfl ?_
  refine hl_imul h dX6_isFree_6 ?_
  refine hl_iload_n h 2 dX6_isFree_7 rfl ?_
  refine hl_iadd h dX6_isFree_8 ?_
  refine hl_ild h hl_wm_3 0 rfl dX6_isFree_9 (by with_reducible assumption) ?_
  refine hl_aload_n h 0 dX6_isFree_10 rfl ?_
  refine hl_get h hi6 hl_wm_0 rfl 0 rfl dX6_isFree_11 (by decide) (by decide +kernel) ?_
  refine hl_iconst h 2 dX6_isFree_14 (by decide) ?_
  refine hl_iload_n h 1 dX6_isFree_15 rfl ?_
  refine hl_imul h dX6_isFree_16 ?_
  refine hl_iload_n h 2 dX6_isFree_17 rfl ?_
  refine hl_iadd h dX6_isFree_18 ?_
  refine hl_ild h hl_wm_1 0 rfl dX6_isFree_19 (by with_reducible assumption) ?_
  refine hl_icmp_ge h 27 dX6_isFree_20 (by decide) (fun c1 => ?_) (fun c1 => ?_)
  · refine hl_iconst h 0 dX6_isFree_27 (by decide) ?_
    exact hend dX6_isFree_28 (fun _ => by decide) (by
      exact ⟨by first | rfl | (simp [c1]; done) | (simp [c1]), (congrArg (hl_WM b cI cZ) (by first | rfl | (simp [c1]; done) | (simp [c1])))⟩)
  · refine hl_iconst h 1 dX6_isFree_23 (by decide) ?_
    refine hl_goto h 28 dX6_isFree_24 (by decide) ?_
    exact hend dX6_isFree_28 (fun _ => by decide) (by
      exact ⟨by first | rfl | (simp [c1]; done) | (simp [c1]), (congrArg (hl_WM b cI cZ) (by first | rfl | (simp [c1]; done) | (simp [c1])))⟩)

set_option maxHeartbeats 4000000 in
set_option maxRecDepth 100000 in
theorem c_X6_richest (l : Launch) (D : va_G) (cI cZ cJ : ClassId) (b : Nat → Nat) (t : Nat → Nat → Int32) : hl_KI D (hl_ty cI cZ cJ) l yX6_richest wsX6_richest ({ frames := 0, cells := 0, slots := 0, locals := 0 } : Room) 0 0 [.ref (b 0)] (hl_WM b cI cZ t) (fun r w => r = r_X6_richest t ∧ w = hl_WM b cI cZ t) := by
  refine hl_KI_of (cc := cX6_richest) (maxL := 3) .int rfl (fun _ => Or.inr rfl) (by decide) rfl (Nat.le_of_ble_eq_true rfl) ?_
  intro p e s m args below meth c A Q h hend
  have hi6 : ∀ z ∈ wsX60, z ∈ wsX6_richest := by decide +kernel
  refine hl_ls (ls' := [(0, .ref (b 0))]) rfl ?_
  refine hl_iconst h 0 dX6_richest_0 (by decide) ?_
  refine hl_istore_n h [(1, .int 0), (0, .ref (b 0))] dX6_richest_1 (by decide) rfl ?_
  refine hl_iconst h 1 dX6_richest_2 (by decide) ?_
  refine hl_istore_n h [(2, .int 1), (1, .int 0), (0, .ref (b 0))] dX6_richest_3 (by decide) rfl ?_
  have lp4 : ∀ (n : Nat) (i : Nat) (u : Int32), i + n = 4 → hl_it (b_X6_richest t) i n u = hl_it (b_X6_richest t) 1 3 0 → vp_in u 4 →  hl_X p l e ({ frames := 0, cells := 0, slots := 0, locals := 0 } : Room) s m args below meth c 3 D A 0 0 Q (hl_WM b cI cZ t) 4 [(0, .ref (b 0)), (1, .int u), (2, .int (nI i))] [] := by
    intro n
    induction n with
    | zero =>
      intro i u hi hv hu
      refine hl_iload_n h 2 dX6_richest_4 rfl ?_
      refine hl_iconst h 4 dX6_richest_5 (by decide) ?_
      refine hl_icmp_ge_T h 36 dX6_richest_6 (by decide) (by rw [show i = 4 by omega]; decide) ?_
      refine hl_iload_n h 1 dX6_richest_36 rfl ?_
      exact hend dX6_richest_37 (fun h9 => nomatch h9) (by
        exact ⟨hv, rfl⟩)
    | succ n ih =>
      intro i u hi hv hu
      refine hl_iload_n h 2 dX6_richest_4 rfl ?_
      refine hl_iconst h 4 dX6_richest_5 (by decide) ?_
      refine hl_icmp_ge_F h 36 dX6_richest_6 (by decide) (nI_ge (b := 4) (by omega) (by decide)) ?_
      refine hl_aload_n h 0 dX6_richest_9 rfl ?_
      refine hl_get h hi6 hl_wm_0 rfl 3 rfl dX6_richest_10 (by decide) (by decide +kernel) ?_
      refine hl_iload_n h 2 dX6_richest_13 rfl ?_
      refine hl_ildN h hl_wm_4 0 rfl i dX6_richest_14 rfl (by omega) (by decide) ?_
      refine hl_aload_n h 0 dX6_richest_15 rfl ?_
      refine hl_get h hi6 hl_wm_0 rfl 3 rfl dX6_richest_16 (by decide) (by decide +kernel) ?_
      refine hl_iload_n h 1 dX6_richest_19 rfl ?_
      refine hl_ild h hl_wm_4 0 rfl dX6_richest_20 (by with_reducible assumption) ?_
      refine hl_icmp_le h 28 dX6_richest_21 (by decide) (fun c1 => ?_) (fun c1 => ?_)
      · refine hl_iload_n h 1 dX6_richest_28 rfl ?_
        refine hl_istore_n h [(1, .int u), (0, .ref (b 0)), (2, .int (nI i))] dX6_richest_29 (by decide) rfl ?_
        refine hl_iinc h 2 (nI (i + 1)) [(2, .int (nI (i + 1))), (1, .int u), (0, .ref (b 0))] dX6_richest_30 rfl (hl_inc i) (by decide) rfl ?_
        refine hl_goto h 4 dX6_richest_33 (by decide) ?_
        refine hl_lsub [2, 1, 0] rfl ?_
        exact ih (i + 1) u (by omega) (by rw [← hv, hl_it_s] <;> (congr 1 <;> (first | (simp [b_X6_richest, c1]; done) | (symm; simp [b_X6_richest, c1])))) hu
      · refine hl_iload_n h 2 dX6_richest_24 rfl ?_
        refine hl_goto h 29 dX6_richest_25 (by decide) ?_
        refine hl_istore_n h [(1, .int (nI i)), (0, .ref (b 0)), (2, .int (nI i))] dX6_richest_29 (by decide) rfl ?_
        refine hl_iinc h 2 (nI (i + 1)) [(2, .int (nI (i + 1))), (1, .int (nI i)), (0, .ref (b 0))] dX6_richest_30 rfl (hl_inc i) (by decide) rfl ?_
        refine hl_goto h 4 dX6_richest_33 (by decide) ?_
        refine hl_lsub [2, 1, 0] rfl ?_
        exact ih (i + 1) (nI i) (by omega) (by rw [← hv, hl_it_s] <;> (congr 1 <;> (first | (simp [b_X6_richest, c1]; done) | (symm; simp [b_X6_richest, c1])))) (vp_in_nI (by omega) (by decide))
  refine hl_lsub [2, 1, 0] rfl ?_
  exact lp4 3 1 0 rfl rfl (by unfold vp_in; decide)

set_option maxHeartbeats 4000000 in
set_option maxRecDepth 100000 in
theorem c_X6_finds_1 (l : Launch) (D : va_G) (cI cZ cJ : ClassId) (b : Nat → Nat) (t : Nat → Nat → Int32) (x y : Int32) (h2 : vp_in y 2) (h3 : ¬ t 3 (r_X6_richest t).toNatClampNeg ≤ 0) : hl_KI D (hl_ty cI cZ cJ) l yX6_finds wsX6_finds ({ frames := 1, cells := 0, slots := 0, locals := 22 } : Room) 0 0 [.ref (b 0), .int x, .int y] (hl_WM b cI cZ t) (fun r w => r = r_X6_finds t x y ∧ w = hl_WM b cI cZ t) := by
  refine hl_KI_of (cc := cX6_finds) (maxL := 5) .int rfl (fun _ => Or.inr rfl) (by decide) rfl (Nat.le_of_ble_eq_true rfl) ?_
  intro p e s m args below meth c A Q h hend
  have hi6 : ∀ z ∈ wsX60, z ∈ wsX6_finds := by decide +kernel
  have hri : vp_in (r_X6_richest t) 4 := hl_rich_in t
  refine hl_ls (ls' := [(0, .ref (b 0)), (1, .int x), (2, .int y)]) rfl ?_
  refine hl_iconst h (-1) dX6_finds_0 (by decide) ?_
  refine hl_istore_n h [(3, .int (-1)), (0, .ref (b 0)), (1, .int x), (2, .int y)] dX6_finds_1 (by decide) rfl ?_
  refine hl_iconst h 0 dX6_finds_2 (by decide) ?_
  refine hl_istore h [(4, .int 0), (3, .int (-1)), (0, .ref (b 0)), (1, .int x), (2, .int y)] dX6_finds_3 (by decide) rfl ?_
  have lp5 : ∀ (n : Nat) (i : Nat) (u : Int32), i + n = 4 → hl_it (b_X6_finds t x y) i n u = hl_it (b_X6_finds t x y) 0 4 (-1) →  hl_X p l e ({ frames := 1, cells := 0, slots := 0, locals := 22 } : Room) s m args below meth c 5 D A 0 0 Q (hl_WM b cI cZ t) 5 [(0, .ref (b 0)), (1, .int x), (2, .int y), (3, .int u), (4, .int (nI i))] [] := by
    intro n
    induction n with
    | zero =>
      intro i u hi hv
      refine hl_iload h 4 dX6_finds_5 rfl ?_
      refine hl_iconst h 4 dX6_finds_7 (by decide) ?_
      refine hl_icmp_ge_T h 65 dX6_finds_8 (by decide) (by rw [show i = 4 by omega]; decide) ?_
      refine hl_iload_n h 3 dX6_finds_65 rfl ?_
      exact hend dX6_finds_66 (fun h9 => nomatch h9) (by
        exact ⟨by rw [r_X6_finds, if_neg h3, ← hv]; rfl, rfl⟩)
    | succ n ih =>
      intro i u hi hv
      have hvi : vp_in (nI i) 4 := vp_in_nI (by omega) (by decide)
      refine hl_iload h 4 dX6_finds_5 rfl ?_
      refine hl_iconst h 4 dX6_finds_7 (by decide) ?_
      refine hl_icmp_ge_F h 65 dX6_finds_8 (by decide) (nI_ge (b := 4) (by omega) (by decide)) ?_
      refine hl_aload_n h 0 dX6_finds_11 rfl ?_
      refine hl_get h hi6 hl_wm_0 rfl 3 rfl dX6_finds_12 (by decide) (by decide +kernel) ?_
      refine hl_aload_n h 0 dX6_finds_15 rfl ?_
      refine hl_callViD h (st := [.ref (b 4)]) (c_X6_richest l D cI cZ cJ b t) (cwV 0 h.2.2.2.2.1 gX6_finds_X6_richest rfl rfl rfl (by decide +kernel) ⟨Nat.le_of_ble_eq_true rfl, Nat.le_of_ble_eq_true rfl⟩) hl_wm_0 rfl dX6_finds_16 rfl (Nat.le_of_ble_eq_true rfl) ⟨Nat.le_of_ble_eq_true rfl, Nat.le_of_ble_eq_true rfl⟩ rfl ?_
      refine hl_ild h hl_wm_4 0 rfl dX6_finds_19 (by with_reducible assumption) ?_
      refine hl_if_le_F h 65 dX6_finds_20 (by decide) h3 ?_
      refine hl_aload_n h 0 dX6_finds_23 rfl ?_
      refine hl_iload h 4 dX6_finds_24 rfl ?_
      refine hl_iload_n h 2 dX6_finds_26 rfl ?_
      refine hl_callViD h (st := []) (c_X6_isFree l D cI cZ cJ b t (nI i) y (by with_reducible assumption) (by with_reducible assumption)) (cwV 2 h.2.2.2.2.1 gX6_finds_X6_isFree rfl rfl rfl (by decide +kernel) ⟨Nat.le_of_ble_eq_true rfl, Nat.le_of_ble_eq_true rfl⟩) hl_wm_0 rfl dX6_finds_27 rfl (Nat.le_of_ble_eq_true rfl) ⟨Nat.le_of_ble_eq_true rfl, Nat.le_of_ble_eq_true rfl⟩ rfl ?_
      refine hl_if_eq h 57 dX6_finds_30 (by decide) (fun c7 => ?_) (fun c7 => ?_)
      · refine hl_iload_n h 3 dX6_finds_57 rfl ?_
        refine hl_istore_n h [(3, .int u), (0, .ref (b 0)), (1, .int x), (2, .int y), (4, .int (nI i))] dX6_finds_58 (by decide) rfl ?_
        refine hl_iinc h 4 (nI (i + 1)) [(4, .int (nI (i + 1))), (3, .int u), (0, .ref (b 0)), (1, .int x), (2, .int y)] dX6_finds_59 rfl (hl_inc i) (by decide) rfl ?_
        refine hl_goto h 5 dX6_finds_62 (by decide) ?_
        refine hl_lsub [2, 3, 4, 1, 0] rfl ?_
        exact ih (i + 1) u (by omega) (by have q1 := hl_ite0.mp c7; rw [← hv, hl_it_s] <;> (congr 1 <;> (first | (simp [b_X6_finds, q1]; done) | (symm; simp [b_X6_finds, q1]))))
      · refine hl_iload_n h 3 dX6_finds_33 rfl ?_
        refine hl_iconst h (-1) dX6_finds_34 (by decide) ?_
        refine hl_icmp_eq h 52 dX6_finds_35 (by decide) (fun c8 => ?_) (fun c8 => ?_)
        · refine hl_iload h 4 dX6_finds_52 rfl ?_
          refine hl_goto h 58 dX6_finds_54 (by decide) ?_
          refine hl_istore_n h [(3, .int (nI i)), (0, .ref (b 0)), (1, .int x), (2, .int y), (4, .int (nI i))] dX6_finds_58 (by decide) rfl ?_
          refine hl_iinc h 4 (nI (i + 1)) [(4, .int (nI (i + 1))), (3, .int (nI i)), (0, .ref (b 0)), (1, .int x), (2, .int y)] dX6_finds_59 rfl (hl_inc i) (by decide) rfl ?_
          refine hl_goto h 5 dX6_finds_62 (by decide) ?_
          refine hl_lsub [2, 3, 4, 1, 0] rfl ?_
          exact ih (i + 1) (nI i) (by omega) (by have q1 : ¬ t 0 (2 * nI i + y).toNatClampNeg ≤ t 2 (2 * nI i + y).toNatClampNeg := fun z => c7 (hl_ite0.mpr z); rw [← hv, hl_it_s] <;> (congr 1 <;> (first | (simp [b_X6_finds, q1, c8]; done) | (symm; simp [b_X6_finds, q1, c8]))))
        · refine hl_iload_n h 1 dX6_finds_38 rfl ?_
          refine hl_iload h 4 dX6_finds_39 rfl ?_
          refine hl_callSiD h (st := []) (c_X6_distance l D cI cZ cJ b t x (nI i)) (va_cwS 2 h.2.2.2.2.1 gX6_finds_X6_distance rfl rfl rfl (by decide +kernel) ⟨Nat.le_of_ble_eq_true rfl, Nat.le_of_ble_eq_true rfl⟩) dX6_finds_41 rfl (Nat.le_of_ble_eq_true rfl) ⟨Nat.le_of_ble_eq_true rfl, Nat.le_of_ble_eq_true rfl⟩ rfl ?_
          refine hl_iload_n h 1 dX6_finds_44 rfl ?_
          refine hl_iload_n h 3 dX6_finds_45 rfl ?_
          refine hl_callSiD h (st := [.int (r_X6_distance x (nI i))]) (c_X6_distance l D cI cZ cJ b t x u) (va_cwS 2 h.2.2.2.2.1 gX6_finds_X6_distance rfl rfl rfl (by decide +kernel) ⟨Nat.le_of_ble_eq_true rfl, Nat.le_of_ble_eq_true rfl⟩) dX6_finds_46 rfl (Nat.le_of_ble_eq_true rfl) ⟨Nat.le_of_ble_eq_true rfl, Nat.le_of_ble_eq_true rfl⟩ rfl ?_
          refine hl_icmp_ge h 57 dX6_finds_49 (by decide) (fun c15 => ?_) (fun c15 => ?_)
          · refine hl_iload_n h 3 dX6_finds_57 rfl ?_
            refine hl_istore_n h [(3, .int u), (0, .ref (b 0)), (1, .int x), (2, .int y), (4, .int (nI i))] dX6_finds_58 (by decide) rfl ?_
            refine hl_iinc h 4 (nI (i + 1)) [(4, .int (nI (i + 1))), (3, .int u), (0, .ref (b 0)), (1, .int x), (2, .int y)] dX6_finds_59 rfl (hl_inc i) (by decide) rfl ?_
            refine hl_goto h 5 dX6_finds_62 (by decide) ?_
            refine hl_lsub [2, 3, 4, 1, 0] rfl ?_
            exact ih (i + 1) u (by omega) (by have q1 : ¬ t 0 (2 * nI i + y).toNatClampNeg ≤ t 2 (2 * nI i + y).toNatClampNeg := fun z => c7 (hl_ite0.mpr z); rw [← hv, hl_it_s] <;> (congr 1 <;> (first | (simp [b_X6_finds, q1, c8, c15]; done) | (symm; simp [b_X6_finds, q1, c8, c15]))))
          · refine hl_iload h 4 dX6_finds_52 rfl ?_
            refine hl_goto h 58 dX6_finds_54 (by decide) ?_
            refine hl_istore_n h [(3, .int (nI i)), (0, .ref (b 0)), (1, .int x), (2, .int y), (4, .int (nI i))] dX6_finds_58 (by decide) rfl ?_
            refine hl_iinc h 4 (nI (i + 1)) [(4, .int (nI (i + 1))), (3, .int (nI i)), (0, .ref (b 0)), (1, .int x), (2, .int y)] dX6_finds_59 rfl (hl_inc i) (by decide) rfl ?_
            refine hl_goto h 5 dX6_finds_62 (by decide) ?_
            refine hl_lsub [2, 3, 4, 1, 0] rfl ?_
            exact ih (i + 1) (nI i) (by omega) (by have q1 : ¬ t 0 (2 * nI i + y).toNatClampNeg ≤ t 2 (2 * nI i + y).toNatClampNeg := fun z => c7 (hl_ite0.mpr z); rw [← hv, hl_it_s] <;> (congr 1 <;> (first | (simp [b_X6_finds, q1, c8, c15]; done) | (symm; simp [b_X6_finds, q1, c8, c15]))))
  refine hl_lsub [2, 3, 4, 1, 0] rfl ?_
  exact lp5 4 0 (-1) rfl rfl

set_option maxHeartbeats 4000000 in
set_option maxRecDepth 100000 in
theorem c_X6_finds_0 (l : Launch) (D : va_G) (cI cZ cJ : ClassId) (b : Nat → Nat) (t : Nat → Nat → Int32) (x y : Int32) (h2 : vp_in y 2) (h3 : t 3 (r_X6_richest t).toNatClampNeg ≤ 0) : hl_KI D (hl_ty cI cZ cJ) l yX6_finds wsX6_finds ({ frames := 1, cells := 0, slots := 0, locals := 22 } : Room) 0 0 [.ref (b 0), .int x, .int y] (hl_WM b cI cZ t) (fun r w => r = r_X6_finds t x y ∧ w = hl_WM b cI cZ t) := by
  refine hl_KI_of (cc := cX6_finds) (maxL := 5) .int rfl (fun _ => Or.inr rfl) (by decide) rfl (Nat.le_of_ble_eq_true rfl) ?_
  intro p e s m args below meth c A Q h hend
  have hi6 : ∀ z ∈ wsX60, z ∈ wsX6_finds := by decide +kernel
  have hri : vp_in (r_X6_richest t) 4 := hl_rich_in t
  refine hl_ls (ls' := [(0, .ref (b 0)), (1, .int x), (2, .int y)]) rfl ?_
  refine hl_iconst h (-1) dX6_finds_0 (by decide) ?_
  refine hl_istore_n h [(3, .int (-1)), (0, .ref (b 0)), (1, .int x), (2, .int y)] dX6_finds_1 (by decide) rfl ?_
  refine hl_iconst h 0 dX6_finds_2 (by decide) ?_
  refine hl_istore h [(4, .int 0), (3, .int (-1)), (0, .ref (b 0)), (1, .int x), (2, .int y)] dX6_finds_3 (by decide) rfl ?_
  refine hl_iload h 0 dX6_finds_5 rfl ?_
  refine hl_iconst h 4 dX6_finds_7 (by decide) ?_
  refine hl_icmp_ge_F h 65 dX6_finds_8 (by decide) (by decide) ?_
  refine hl_aload_n h 2 dX6_finds_11 rfl ?_
  refine hl_get h hi6 hl_wm_0 rfl 3 rfl dX6_finds_12 (by decide) (by decide +kernel) ?_
  refine hl_aload_n h 2 dX6_finds_15 rfl ?_
  refine hl_callViD h (st := [.ref (b 4)]) (c_X6_richest l D cI cZ cJ b t) (cwV 0 h.2.2.2.2.1 gX6_finds_X6_richest rfl rfl rfl (by decide +kernel) ⟨Nat.le_of_ble_eq_true rfl, Nat.le_of_ble_eq_true rfl⟩) hl_wm_0 rfl dX6_finds_16 rfl (Nat.le_of_ble_eq_true rfl) ⟨Nat.le_of_ble_eq_true rfl, Nat.le_of_ble_eq_true rfl⟩ rfl ?_
  refine hl_ild h hl_wm_4 0 rfl dX6_finds_19 (by with_reducible assumption) ?_
  refine hl_if_le_T h 65 dX6_finds_20 (by decide) h3 ?_
  refine hl_iload_n h 1 dX6_finds_65 rfl ?_
  exact hend dX6_finds_66 (fun h9 => nomatch h9) (by
    exact ⟨by rw [r_X6_finds, if_pos h3], rfl⟩)

theorem c_X6_finds (l : Launch) (D : va_G) (cI cZ cJ : ClassId) (b : Nat → Nat) (t : Nat → Nat → Int32) (x y : Int32) (h2 : vp_in y 2) : hl_KI D (hl_ty cI cZ cJ) l yX6_finds wsX6_finds ({ frames := 1, cells := 0, slots := 0, locals := 22 } : Room) 0 0 [.ref (b 0), .int x, .int y] (hl_WM b cI cZ t) (fun r w => r = r_X6_finds t x y ∧ w = hl_WM b cI cZ t) := by
  by_cases h3 : t 3 (r_X6_richest t).toNatClampNeg ≤ 0
  · exact c_X6_finds_0 l D cI cZ cJ b t x y h2 h3
  · exact c_X6_finds_1 l D cI cZ cJ b t x y h2 h3

set_option maxHeartbeats 4000000 in
set_option maxRecDepth 100000 in
theorem c_X6_takesLinen (l : Launch) (D : va_G) (cI cZ cJ : ClassId) (b : Nat → Nat) (t : Nat → Nat → Int32) (x : Int32) (h1 : vp_in x 4) : hl_KV D (hl_ty cI cZ cJ) l yX6_takesLinen wsX6_takesLinen ({ frames := 1, cells := 0, slots := 0, locals := 22 } : Room) 0 0 [.ref (b 0), .int x] (hl_WM b cI cZ t) (fun w => w = hl_WM b cI cZ (f_X6_takesLinen t x)) := by
  refine hl_KV_of (cc := cX6_takesLinen) (maxL := 3) (by decide) rfl (Nat.le_of_ble_eq_true rfl) ?_
  intro p e s m args below meth c A Q h hnm hend
  have hi6 : ∀ z ∈ wsX60, z ∈ wsX6_takesLinen := by decide +kernel
  have hri : vp_in (r_X6_richest t) 4 := hl_rich_in t
  have hsq : vp_in (4 * x + r_X6_richest t) 16 := hl_sqM h1 hri
  refine hl_ls (ls' := [(0, .ref (b 0)), (1, .int x)]) rfl ?_
  refine hl_aload_n h 0 dX6_takesLinen_0 rfl ?_
  refine hl_get h hi6 hl_wm_0 rfl 3 rfl dX6_takesLinen_1 (by decide) (by decide +kernel) ?_
  refine hl_iload_n h 1 dX6_takesLinen_4 rfl ?_
  refine hl_ild h hl_wm_4 0 rfl dX6_takesLinen_5 (by with_reducible assumption) ?_
  refine hl_if_le h 22 dX6_takesLinen_6 (by decide) (fun c1 => ?_) (fun c1 => ?_)
  · refine hl_aload_n h 0 dX6_takesLinen_22 rfl ?_
    refine hl_callViD h (st := []) (c_X6_richest l D cI cZ cJ b t) (cwV 0 h.2.2.2.2.1 gX6_takesLinen_X6_richest rfl rfl rfl (by decide +kernel) ⟨Nat.le_of_ble_eq_true rfl, Nat.le_of_ble_eq_true rfl⟩) hl_wm_0 rfl dX6_takesLinen_23 rfl (Nat.le_of_ble_eq_true rfl) ⟨Nat.le_of_ble_eq_true rfl, Nat.le_of_ble_eq_true rfl⟩ rfl ?_
    refine hl_istore_n h [(2, .int (r_X6_richest t)), (0, .ref (b 0)), (1, .int x)] dX6_takesLinen_26 (by decide) rfl ?_
    refine hl_aload_n h 1 dX6_takesLinen_27 rfl ?_
    refine hl_get h hi6 hl_wm_0 rfl 3 rfl dX6_takesLinen_28 (by decide) (by decide +kernel) ?_
    refine hl_iload_n h 0 dX6_takesLinen_31 rfl ?_
    refine hl_dup2 h dX6_takesLinen_32 rfl rfl ?_
    refine hl_ild h hl_wm_4 0 rfl dX6_takesLinen_33 (by with_reducible assumption) ?_
    refine hl_iconst h 1 dX6_takesLinen_34 (by decide) ?_
    refine hl_isub h dX6_takesLinen_35 ?_
    refine hl_ist h hl_wm_4 0 rfl dX6_takesLinen_36 (by with_reducible assumption) hl_wm_t3 ?_
    refine hl_nmM (fun g5 e6 => ?_)
    refine hl_aload_n h 1 dX6_takesLinen_37 rfl ?_
    refine hl_dup h dX6_takesLinen_38 rfl ?_
    refine hl_get h hi6 hl_wm_0 rfl 7 rfl dX6_takesLinen_39 (by decide) (by decide +kernel) ?_
    refine hl_iconst h 1 dX6_takesLinen_42 (by decide) ?_
    refine hl_iadd h dX6_takesLinen_43 ?_
    refine hl_put h hi6 tyX6_ok nmX6 hl_wm_0 rfl 7 dX6_takesLinen_44 (by decide) (by decide +kernel) (by decide) rfl rfl (Nat.le_of_ble_eq_true rfl) hl_wm_s7 ?_
    refine hl_nmM (fun g7 e8 => ?_)
    refine hl_aload_n h 1 dX6_takesLinen_47 rfl ?_
    refine hl_get h hi6 hl_wm_0 rfl 9 rfl dX6_takesLinen_48 (by decide) (by decide +kernel) ?_
    refine hl_iconst h 4 dX6_takesLinen_51 (by decide) ?_
    refine hl_iload_n h 2 dX6_takesLinen_52 rfl ?_
    refine hl_imul h dX6_takesLinen_53 ?_
    refine hl_iload_n h 0 dX6_takesLinen_54 rfl ?_
    refine hl_iadd h dX6_takesLinen_55 ?_
    refine hl_dup2 h dX6_takesLinen_56 rfl rfl ?_
    refine hl_ild h hl_wm_7 0 rfl dX6_takesLinen_57 (by with_reducible assumption) ?_
    refine hl_aload_n h 1 dX6_takesLinen_58 rfl ?_
    refine hl_get h hi6 hl_wm_0 rfl 7 rfl dX6_takesLinen_59 (by decide) (by decide +kernel) ?_
    refine hl_iadd h dX6_takesLinen_62 ?_
    refine hl_ist h hl_wm_7 0 rfl dX6_takesLinen_63 (by with_reducible assumption) hl_wm_t9 ?_
    refine hl_nmM (fun g9 e10 => ?_)
    refine hl_aload_n h 1 dX6_takesLinen_64 rfl ?_
    refine hl_get h hi6 hl_wm_0 rfl 4 rfl dX6_takesLinen_65 (by decide) (by decide +kernel) ?_
    refine hl_iload_n h 2 dX6_takesLinen_68 rfl ?_
    refine hl_dup2 h dX6_takesLinen_69 rfl rfl ?_
    refine hl_ild h hl_wm_5 0 rfl dX6_takesLinen_70 (by with_reducible assumption) ?_
    refine hl_iconst h 1 dX6_takesLinen_71 (by decide) ?_
    refine hl_iadd h dX6_takesLinen_72 ?_
    refine hl_ist h hl_wm_5 0 rfl dX6_takesLinen_73 (by with_reducible assumption) hl_wm_t4 ?_
    refine hl_nmM (fun g11 e12 => ?_)
    exact hend dX6_takesLinen_74 (by
      subst e12; subst e10; subst e8; subst e6
      exact congrArg (hl_WM b cI cZ) (by simp only [f_X6_takesLinen, if_pos c1]))
  · refine hl_aload_n h 0 dX6_takesLinen_9 rfl ?_
    refine hl_get h hi6 hl_wm_0 rfl 3 rfl dX6_takesLinen_10 (by decide) (by decide +kernel) ?_
    refine hl_iload_n h 1 dX6_takesLinen_13 rfl ?_
    refine hl_dup2 h dX6_takesLinen_14 rfl rfl ?_
    refine hl_ild h hl_wm_4 0 rfl dX6_takesLinen_15 (by with_reducible assumption) ?_
    refine hl_iconst h 1 dX6_takesLinen_16 (by decide) ?_
    refine hl_isub h dX6_takesLinen_17 ?_
    refine hl_ist h hl_wm_4 0 rfl dX6_takesLinen_18 (by with_reducible assumption) hl_wm_t3 ?_
    refine hl_nmM (fun g13 e14 => ?_)
    refine hl_goto h 64 dX6_takesLinen_19 (by decide) ?_
    refine hl_aload_n h 0 dX6_takesLinen_64 rfl ?_
    refine hl_get h hi6 hl_wm_0 rfl 4 rfl dX6_takesLinen_65 (by decide) (by decide +kernel) ?_
    refine hl_iload_n h 1 dX6_takesLinen_68 rfl ?_
    refine hl_dup2 h dX6_takesLinen_69 rfl rfl ?_
    refine hl_ild h hl_wm_5 0 rfl dX6_takesLinen_70 (by with_reducible assumption) ?_
    refine hl_iconst h 1 dX6_takesLinen_71 (by decide) ?_
    refine hl_iadd h dX6_takesLinen_72 ?_
    refine hl_ist h hl_wm_5 0 rfl dX6_takesLinen_73 (by with_reducible assumption) hl_wm_t4 ?_
    refine hl_nmM (fun g15 e16 => ?_)
    exact hend dX6_takesLinen_74 (by
      subst e16; subst e14
      exact congrArg (hl_WM b cI cZ) (by simp only [f_X6_takesLinen, if_neg c1]))
