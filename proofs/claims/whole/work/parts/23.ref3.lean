set_option maxHeartbeats 4000000 in
set_option maxRecDepth 100000 in
theorem c_X6_come_1 (l : Launch) (D : va_G) (cI cZ cJ : ClassId) (b : Nat → Nat) (t : Nat → Nat → Int32) (x : Int32) (N M T : Nat) (ho : hl_okM t N M T) (h1 : ¬ (¬ x < 0 ∧ x < t 18 0)) : hl_KI D (hl_ty cI cZ cJ) l yX6_come wsX6_come ({ frames := 1, cells := 0, slots := 0, locals := 22 } : Room) 0 0 [.ref (b 0), .int x] (hl_WM b cI cZ t) (fun r w => r = 0 ∧ w = hl_WM b cI cZ (hl_su t 23 (fun _ => 1))) := by
  refine hl_KI_of (cc := cX6_come) (maxL := 5) .int rfl (fun _ => Or.inr rfl) (by decide) rfl (Nat.le_of_ble_eq_true rfl) ?_
  intro p e s m args below meth c A Q h hend
  have hi6 : ∀ z ∈ wsX60, z ∈ wsX6_come := by decide +kernel
  obtain ⟨hN, hc, hM, hm, hT, ht8, hbk, hpt, hbr⟩ := id ho
  refine hl_ls (ls' := [(0, .ref (b 0)), (1, .int x)]) rfl ?_
  refine hl_aload_n h 0 dX6_come_0 rfl ?_
  refine hl_iload_n h 1 dX6_come_1 rfl ?_
  refine hl_iconst h 0 dX6_come_2 (by decide) ?_
  refine hl_aload_n h 0 dX6_come_3 rfl ?_
  refine hl_get h hi6 hl_wm_0 rfl 18 rfl dX6_come_4 (by decide) (by decide +kernel) ?_
  refine hl_iconst h 1 dX6_come_7 (by decide) ?_
  refine hl_isub h dX6_come_8 ?_
  refine hl_callSiD h (st := [.ref (b 0)]) (c_X6_in_F l D cI cZ cJ b t x 0 ((t 18 0) - 1) (by rw [hc] at h1 ⊢; rw [hl_pred hN]; exact h1)) (va_cwS 3 h.2.2.2.2.1 gX6_come_X6_in rfl rfl rfl (by decide +kernel) ⟨Nat.le_of_ble_eq_true rfl, Nat.le_of_ble_eq_true rfl⟩) dX6_come_9 rfl (Nat.le_of_ble_eq_true rfl) ⟨Nat.le_of_ble_eq_true rfl, Nat.le_of_ble_eq_true rfl⟩ rfl ?_
  refine hl_if_ne_F h 19 dX6_come_12 (by decide) (by decide) ?_
  refine hl_iconst h 1 dX6_come_15 (by decide) ?_
  refine hl_goto h 46 dX6_come_16 (by decide) ?_
  refine hl_callViD h (st := []) (c_X6_isFine_n l D cI cZ cJ b t 1 (by decide)) (cwV 1 h.2.2.2.2.1 gX6_come_X6_isFine rfl rfl rfl (by decide +kernel) ⟨Nat.le_of_ble_eq_true rfl, Nat.le_of_ble_eq_true rfl⟩) hl_wm_0 rfl dX6_come_46 rfl (Nat.le_of_ble_eq_true rfl) ⟨Nat.le_of_ble_eq_true rfl, Nat.le_of_ble_eq_true rfl⟩ rfl ?_
  refine hl_nmM (fun g7 e8 => ?_)
  refine hl_if_ne_F h 54 dX6_come_49 (by decide) (by decide) ?_
  refine hl_iconst h 0 dX6_come_52 (by decide) ?_
  exact hend dX6_come_53 (fun h9 => nomatch h9) (by
    subst e8
    exact ⟨by rfl, (congrArg (hl_WM b cI cZ) (by rfl))⟩)

set_option maxHeartbeats 4000000 in
set_option maxRecDepth 100000 in
theorem c_X6_come_2 (l : Launch) (D : va_G) (cI cZ cJ : ClassId) (b : Nat → Nat) (t : Nat → Nat → Int32) (x : Int32) (N M T : Nat) (ho : hl_okM t N M T) (h1 : ¬ x < 0) (h2 : x < t 18 0) (h3 : ¬ (t 15 x.toNatClampNeg = t 8 0 ∧ t 16 x.toNatClampNeg = 0)) : hl_KI D (hl_ty cI cZ cJ) l yX6_come wsX6_come ({ frames := 1, cells := 0, slots := 0, locals := 22 } : Room) 0 0 [.ref (b 0), .int x] (hl_WM b cI cZ t) (fun r w => r = 0 ∧ w = hl_WM b cI cZ (hl_su t 23 (fun _ => 2))) := by
  refine hl_KI_of (cc := cX6_come) (maxL := 5) .int rfl (fun _ => Or.inr rfl) (by decide) rfl (Nat.le_of_ble_eq_true rfl) ?_
  intro p e s m args below meth c A Q h hend
  have hi6 : ∀ z ∈ wsX60, z ∈ wsX6_come := by decide +kernel
  obtain ⟨hN, hc, hM, hm, hT, ht8, hbk, hpt, hbr⟩ := id ho
  have hxN : ¬ x < 0 → x < t 18 0 → vp_in x N := by
    intro h1 h2
    refine vp_in_iff.mpr ⟨?_, ?_⟩
    · exact Int.not_lt.mp (fun z => h1 (Int32.lt_iff_toInt_lt.mpr z))
    · have z := Int32.lt_iff_toInt_lt.mp h2
      rw [hc, nI_toInt (by omega)] at z
      exact z
  have hxn : x.toNatClampNeg < N := Nat.not_le.mp (fun z => hxN h1 h2 (Or.inr z))
  have hx80 : vp_in x 80 := fun z => hxN h1 h2 (z.elim Or.inl (fun z => Or.inr (by omega)))
  refine hl_ls (ls' := [(0, .ref (b 0)), (1, .int x)]) rfl ?_
  refine hl_aload_n h 0 dX6_come_0 rfl ?_
  refine hl_iload_n h 1 dX6_come_1 rfl ?_
  refine hl_iconst h 0 dX6_come_2 (by decide) ?_
  refine hl_aload_n h 0 dX6_come_3 rfl ?_
  refine hl_get h hi6 hl_wm_0 rfl 18 rfl dX6_come_4 (by decide) (by decide +kernel) ?_
  refine hl_iconst h 1 dX6_come_7 (by decide) ?_
  refine hl_isub h dX6_come_8 ?_
  refine hl_callSiD h (st := [.ref (b 0)]) (c_X6_in_T l D cI cZ cJ b t x 0 ((t 18 0) - 1) h1 (by rw [hc] at h2 ⊢; exact (hl_pred hN).mpr h2)) (va_cwS 3 h.2.2.2.2.1 gX6_come_X6_in rfl rfl rfl (by decide +kernel) ⟨Nat.le_of_ble_eq_true rfl, Nat.le_of_ble_eq_true rfl⟩) dX6_come_9 rfl (Nat.le_of_ble_eq_true rfl) ⟨Nat.le_of_ble_eq_true rfl, Nat.le_of_ble_eq_true rfl⟩ rfl ?_
  refine hl_if_ne_T h 19 dX6_come_12 (by decide) (by decide) ?_
  refine hl_aload_n h 0 dX6_come_19 rfl ?_
  refine hl_get h hi6 hl_wm_0 rfl 15 rfl dX6_come_20 (by decide) (by decide +kernel) ?_
  refine hl_iload_n h 1 dX6_come_23 rfl ?_
  refine hl_ild h hl_wm_13 0 rfl dX6_come_24 (by with_reducible assumption) ?_
  refine hl_aload_n h 0 dX6_come_25 rfl ?_
  refine hl_get h hi6 hl_wm_0 rfl 8 rfl dX6_come_26 (by decide) (by decide +kernel) ?_
  refine hl_icmp_ne h 41 dX6_come_29 (by decide) (fun c4 => ?_) (fun c4 => ?_)
  · refine hl_iconst h 2 dX6_come_41 (by decide) ?_
    refine hl_goto h 46 dX6_come_42 (by decide) ?_
    refine hl_callViD h (st := []) (c_X6_isFine_n l D cI cZ cJ b t 2 (by decide)) (cwV 1 h.2.2.2.2.1 gX6_come_X6_isFine rfl rfl rfl (by decide +kernel) ⟨Nat.le_of_ble_eq_true rfl, Nat.le_of_ble_eq_true rfl⟩) hl_wm_0 rfl dX6_come_46 rfl (Nat.le_of_ble_eq_true rfl) ⟨Nat.le_of_ble_eq_true rfl, Nat.le_of_ble_eq_true rfl⟩ rfl ?_
    refine hl_nmM (fun g8 e9 => ?_)
    refine hl_if_ne_F h 54 dX6_come_49 (by decide) (by decide) ?_
    refine hl_iconst h 0 dX6_come_52 (by decide) ?_
    exact hend dX6_come_53 (fun h9 => nomatch h9) (by
      subst e9
      exact ⟨rfl, rfl⟩)
  · refine hl_aload_n h 0 dX6_come_32 rfl ?_
    refine hl_get h hi6 hl_wm_0 rfl 16 rfl dX6_come_33 (by decide) (by decide +kernel) ?_
    refine hl_iload_n h 1 dX6_come_36 rfl ?_
    refine hl_zld h hl_wm_14 1 rfl dX6_come_37 (by with_reducible assumption) ?_
    refine hl_if_eq h 45 dX6_come_38 (by decide) (fun c10 => ?_) (fun c10 => ?_)
    · exact absurd ⟨c4, c10⟩ h3
    · refine hl_iconst h 2 dX6_come_41 (by decide) ?_
      refine hl_goto h 46 dX6_come_42 (by decide) ?_
      refine hl_callViD h (st := []) (c_X6_isFine_n l D cI cZ cJ b t 2 (by decide)) (cwV 1 h.2.2.2.2.1 gX6_come_X6_isFine rfl rfl rfl (by decide +kernel) ⟨Nat.le_of_ble_eq_true rfl, Nat.le_of_ble_eq_true rfl⟩) hl_wm_0 rfl dX6_come_46 rfl (Nat.le_of_ble_eq_true rfl) ⟨Nat.le_of_ble_eq_true rfl, Nat.le_of_ble_eq_true rfl⟩ rfl ?_
      refine hl_nmM (fun g14 e15 => ?_)
      refine hl_if_ne_F h 54 dX6_come_49 (by decide) (by decide) ?_
      refine hl_iconst h 0 dX6_come_52 (by decide) ?_
      exact hend dX6_come_53 (fun h9 => nomatch h9) (by
        subst e15
        exact ⟨rfl, rfl⟩)

set_option maxHeartbeats 4000000 in
set_option maxRecDepth 100000 in
theorem c_X6_come_0 (l : Launch) (D : va_G) (cI cZ cJ : ClassId) (b : Nat → Nat) (t : Nat → Nat → Int32) (x : Int32) (N M T : Nat) (ho : hl_okM t N M T) (h1 : ¬ x < 0) (h2 : x < t 18 0) (h3 : t 15 x.toNatClampNeg = t 8 0) (h4 : t 16 x.toNatClampNeg = 0) (h5 : M < 80) : hl_KI D (hl_ty cI cZ cJ) l yX6_come wsX6_come ({ frames := 2, cells := 0, slots := 0, locals := 46 } : Room) 0 0 [.ref (b 0), .int x] (hl_WM b cI cZ t) (fun r w => r = r_X6_finds (hl_su t 23 (fun _ => 0)) ((hl_su t 23 (fun _ => 0)) 13 x.toNatClampNeg) ((hl_su t 23 (fun _ => 0)) 14 x.toNatClampNeg) ∧ w = hl_WM b cI cZ (f_X6_come (hl_su t 23 (fun _ => 0)) x)) := by
  refine hl_KI_of (cc := cX6_come) (maxL := 5) .int rfl (fun _ => Or.inr rfl) (by decide) rfl (Nat.le_of_ble_eq_true rfl) ?_
  intro p e s m args below meth c A Q h hend
  have hi6 : ∀ z ∈ wsX60, z ∈ wsX6_come := by decide +kernel
  obtain ⟨hN, hc, hM, hm, hT, ht8, hbk, hpt, hbr⟩ := id ho
  have hxN : ¬ x < 0 → x < t 18 0 → vp_in x N := by
    intro h1 h2
    refine vp_in_iff.mpr ⟨?_, ?_⟩
    · exact Int.not_lt.mp (fun z => h1 (Int32.lt_iff_toInt_lt.mpr z))
    · have z := Int32.lt_iff_toInt_lt.mp h2
      rw [hc, nI_toInt (by omega)] at z
      exact z
  have hxn : x.toNatClampNeg < N := Nat.not_le.mp (fun z => hxN h1 h2 (Or.inr z))
  have hx80 : vp_in x 80 := fun z => hxN h1 h2 (z.elim Or.inl (fun z => Or.inr (by omega)))
  have h8 : vp_in (t 22 0) 80 := by rw [hm]; exact vp_in_nI h5 (by decide)
  refine hl_ls (ls' := [(0, .ref (b 0)), (1, .int x)]) rfl ?_
  refine hl_aload_n h 0 dX6_come_0 rfl ?_
  refine hl_iload_n h 1 dX6_come_1 rfl ?_
  refine hl_iconst h 0 dX6_come_2 (by decide) ?_
  refine hl_aload_n h 0 dX6_come_3 rfl ?_
  refine hl_get h hi6 hl_wm_0 rfl 18 rfl dX6_come_4 (by decide) (by decide +kernel) ?_
  refine hl_iconst h 1 dX6_come_7 (by decide) ?_
  refine hl_isub h dX6_come_8 ?_
  refine hl_callSiD h (st := [.ref (b 0)]) (c_X6_in_T l D cI cZ cJ b t x 0 ((t 18 0) - 1) h1 (by rw [hc] at h2 ⊢; exact (hl_pred hN).mpr h2)) (va_cwS 3 h.2.2.2.2.1 gX6_come_X6_in rfl rfl rfl (by decide +kernel) ⟨Nat.le_of_ble_eq_true rfl, Nat.le_of_ble_eq_true rfl⟩) dX6_come_9 rfl (Nat.le_of_ble_eq_true rfl) ⟨Nat.le_of_ble_eq_true rfl, Nat.le_of_ble_eq_true rfl⟩ rfl ?_
  refine hl_if_ne_T h 19 dX6_come_12 (by decide) (by decide) ?_
  refine hl_aload_n h 0 dX6_come_19 rfl ?_
  refine hl_get h hi6 hl_wm_0 rfl 15 rfl dX6_come_20 (by decide) (by decide +kernel) ?_
  refine hl_iload_n h 1 dX6_come_23 rfl ?_
  refine hl_ild h hl_wm_13 0 rfl dX6_come_24 (by with_reducible assumption) ?_
  refine hl_aload_n h 0 dX6_come_25 rfl ?_
  refine hl_get h hi6 hl_wm_0 rfl 8 rfl dX6_come_26 (by decide) (by decide +kernel) ?_
  refine hl_icmp_ne_F h 41 dX6_come_29 (by decide) h3 ?_
  refine hl_aload_n h 0 dX6_come_32 rfl ?_
  refine hl_get h hi6 hl_wm_0 rfl 16 rfl dX6_come_33 (by decide) (by decide +kernel) ?_
  refine hl_iload_n h 1 dX6_come_36 rfl ?_
  refine hl_zld h hl_wm_14 1 rfl dX6_come_37 (by with_reducible assumption) ?_
  refine hl_if_eq_T h 45 dX6_come_38 (by decide) h4 ?_
  refine hl_iconst h 0 dX6_come_45 (by decide) ?_
  refine hl_callViD h (st := []) (c_X6_isFine_0 l D cI cZ cJ b t 0 rfl) (cwV 1 h.2.2.2.2.1 gX6_come_X6_isFine rfl rfl rfl (by decide +kernel) ⟨Nat.le_of_ble_eq_true rfl, Nat.le_of_ble_eq_true rfl⟩) hl_wm_0 rfl dX6_come_46 rfl (Nat.le_of_ble_eq_true rfl) ⟨Nat.le_of_ble_eq_true rfl, Nat.le_of_ble_eq_true rfl⟩ rfl ?_
  refine hl_nmM (fun g7 e8 => ?_)
  refine hl_if_ne_T h 54 dX6_come_49 (by decide) (by decide) ?_
  have hin : vp_in (g7 13 x.toNatClampNeg) 4 := by rw [e8, hl_su_ne _ _ (by decide)]; exact (hbk _ hxn).1
  have hkd : vp_in (g7 14 x.toNatClampNeg) 2 := by rw [e8, hl_su_ne _ _ (by decide)]; exact (hbk _ hxn).2
  refine hl_aload_n h 0 dX6_come_54 rfl ?_
  refine hl_get h hi6 hl_wm_0 rfl 13 rfl dX6_come_55 (by decide) (by decide +kernel) ?_
  refine hl_iload_n h 1 dX6_come_58 rfl ?_
  refine hl_ild h hl_wm_11 0 rfl dX6_come_59 (by with_reducible assumption) ?_
  refine hl_istore_n h [(2, .int (g7 13 x.toNatClampNeg)), (0, .ref (b 0)), (1, .int x)] dX6_come_60 (by decide) rfl ?_
  refine hl_aload_n h 1 dX6_come_61 rfl ?_
  refine hl_get h hi6 hl_wm_0 rfl 14 rfl dX6_come_62 (by decide) (by decide +kernel) ?_
  refine hl_iload_n h 2 dX6_come_65 rfl ?_
  refine hl_ild h hl_wm_12 0 rfl dX6_come_66 (by with_reducible assumption) ?_
  refine hl_istore_n h [(3, .int (g7 14 x.toNatClampNeg)), (2, .int (g7 13 x.toNatClampNeg)), (0, .ref (b 0)), (1, .int x)] dX6_come_67 (by decide) rfl ?_
  refine hl_aload_n h 2 dX6_come_68 rfl ?_
  refine hl_iload_n h 1 dX6_come_69 rfl ?_
  refine hl_iload_n h 0 dX6_come_70 rfl ?_
  refine hl_callViD h (st := []) (c_X6_finds l D cI cZ cJ b g7 (g7 13 x.toNatClampNeg) (g7 14 x.toNatClampNeg) (by with_reducible assumption)) (cwV 2 h.2.2.2.2.1 gX6_come_X6_finds rfl rfl rfl (by decide +kernel) ⟨Nat.le_of_ble_eq_true rfl, Nat.le_of_ble_eq_true rfl⟩) hl_wm_0 rfl dX6_come_71 rfl (Nat.le_of_ble_eq_true rfl) ⟨Nat.le_of_ble_eq_true rfl, Nat.le_of_ble_eq_true rfl⟩ rfl ?_
  refine hl_istore h [(4, .int (r_X6_finds g7 (g7 13 x.toNatClampNeg) (g7 14 x.toNatClampNeg))), (3, .int (g7 14 x.toNatClampNeg)), (2, .int (g7 13 x.toNatClampNeg)), (0, .ref (b 0)), (1, .int x)] dX6_come_74 (by decide) rfl ?_
  refine hl_aload_n h 3 dX6_come_76 rfl ?_
  refine hl_get h hi6 hl_wm_0 rfl 16 rfl dX6_come_77 (by decide) (by decide +kernel) ?_
  refine hl_iload_n h 4 dX6_come_80 rfl ?_
  refine hl_iconst h 1 dX6_come_81 (by decide) ?_
  refine hl_zst h hl_wm_14 1 rfl dX6_come_82 (by with_reducible assumption) hl_wm_t16 ?_
  refine hl_nmM (fun g12 e13 => ?_)
  refine hl_aload_n h 3 dX6_come_83 rfl ?_
  refine hl_get h hi6 hl_wm_0 rfl 17 rfl dX6_come_84 (by decide) (by decide +kernel) ?_
  refine hl_iload_n h 4 dX6_come_87 rfl ?_
  refine hl_iload h 0 dX6_come_88 rfl ?_
  refine hl_ist h hl_wm_15 0 rfl dX6_come_90 (by with_reducible assumption) hl_wm_t17 ?_
  refine hl_nmM (fun g14 e15 => ?_)
  refine hl_iload h 0 dX6_come_91 rfl ?_
  refine hl_iconst h (-1) dX6_come_93 (by decide) ?_
  refine hl_icmp_eq h 231 dX6_come_94 (by decide) (fun c16 => ?_) (fun c16 => ?_)
  · refine hl_iload h 0 dX6_come_231 rfl ?_
    exact hend dX6_come_233 (fun h9 => nomatch h9) (by
      refine ⟨by rw [e8], congrArg (hl_WM b cI cZ) ?_⟩
      rw [e15, e13, e8]
      simp only [f_X6_come, f_X6_sleep]
      rw [e8] at c16; rw [if_pos c16]; rfl)
  · have hv4 : vp_in (r_X6_finds g7 (g7 13 x.toNatClampNeg) (g7 14 x.toNatClampNeg)) 4 := (hl_finds_in _ _ _).resolve_left c16
    have hr1 : vp_in (2 * (r_X6_finds g7 (g7 13 x.toNatClampNeg) (g7 14 x.toNatClampNeg)) + (g7 14 x.toNatClampNeg)) 8 := hl_rowM hv4 hkd
    have hr2 : vp_in (2 * (g7 13 x.toNatClampNeg) + (g7 14 x.toNatClampNeg)) 8 := hl_rowM hin hkd
    have hr3 : vp_in (4 * (g7 13 x.toNatClampNeg) + (r_X6_finds g7 (g7 13 x.toNatClampNeg) (g7 14 x.toNatClampNeg))) 16 := hl_sqM hin hv4
    refine hl_aload_n h 3 dX6_come_97 rfl ?_
    refine hl_get h hi6 hl_wm_0 rfl 2 rfl dX6_come_98 (by decide) (by decide +kernel) ?_
    refine hl_iconst h 2 dX6_come_101 (by decide) ?_
    refine hl_iload h 0 dX6_come_102 rfl ?_
    refine hl_imul h dX6_come_104 ?_
    refine hl_iload_n h 1 dX6_come_105 rfl ?_
    refine hl_iadd h dX6_come_106 ?_
    refine hl_dup2 h dX6_come_107 rfl rfl ?_
    refine hl_ild h hl_wm_3 0 rfl dX6_come_108 (by with_reducible assumption) ?_
    refine hl_iconst h 1 dX6_come_109 (by decide) ?_
    refine hl_iadd h dX6_come_110 ?_
    refine hl_ist h hl_wm_3 0 rfl dX6_come_111 (by with_reducible assumption) hl_wm_t2 ?_
    refine hl_nmM (fun g17 e18 => ?_)
    refine hl_aload_n h 3 dX6_come_112 rfl ?_
    refine hl_iload h 0 dX6_come_113 rfl ?_
    refine hl_callVvD h (st := []) (c_X6_takesLinen l D cI cZ cJ b g17 (r_X6_finds g7 (g7 13 x.toNatClampNeg) (g7 14 x.toNatClampNeg)) (by with_reducible assumption)) (cwV 1 h.2.2.2.2.1 gX6_come_X6_takesLinen rfl rfl rfl (by decide +kernel) ⟨Nat.le_of_ble_eq_true rfl, Nat.le_of_ble_eq_true rfl⟩) hl_wm_0 rfl dX6_come_115 rfl (Nat.le_of_ble_eq_true rfl) ⟨Nat.le_of_ble_eq_true rfl, Nat.le_of_ble_eq_true rfl⟩ rfl ?_
    refine hl_nmM (fun g22 e23 => ?_)
    refine hl_aload_n h 3 dX6_come_118 rfl ?_
    refine hl_get h hi6 hl_wm_0 rfl 5 rfl dX6_come_119 (by decide) (by decide +kernel) ?_
    refine hl_iload_n h 2 dX6_come_122 rfl ?_
    refine hl_dup2 h dX6_come_123 rfl rfl ?_
    refine hl_ild h hl_wm_6 0 rfl dX6_come_124 (by with_reducible assumption) ?_
    refine hl_aload_n h 3 dX6_come_125 rfl ?_
    refine hl_get h hi6 hl_wm_0 rfl 1 rfl dX6_come_126 (by decide) (by decide +kernel) ?_
    refine hl_iconst h 2 dX6_come_129 (by decide) ?_
    refine hl_iload_n h 2 dX6_come_130 rfl ?_
    refine hl_imul h dX6_come_131 ?_
    refine hl_iload_n h 1 dX6_come_132 rfl ?_
    refine hl_iadd h dX6_come_133 ?_
    refine hl_ild h hl_wm_2 0 rfl dX6_come_134 (by with_reducible assumption) ?_
    refine hl_iadd h dX6_come_135 ?_
    refine hl_ist h hl_wm_6 0 rfl dX6_come_136 (by with_reducible assumption) hl_wm_t5 ?_
    refine hl_nmM (fun g24 e25 => ?_)
    refine hl_aload_n h 3 dX6_come_137 rfl ?_
    refine hl_get h hi6 hl_wm_0 rfl 9 rfl dX6_come_138 (by decide) (by decide +kernel) ?_
    refine hl_iconst h 4 dX6_come_141 (by decide) ?_
    refine hl_iload_n h 2 dX6_come_142 rfl ?_
    refine hl_imul h dX6_come_143 ?_
    refine hl_iload h 0 dX6_come_144 rfl ?_
    refine hl_iadd h dX6_come_146 ?_
    refine hl_dup2 h dX6_come_147 rfl rfl ?_
    refine hl_ild h hl_wm_7 0 rfl dX6_come_148 (by with_reducible assumption) ?_
    refine hl_iload h 0 dX6_come_149 rfl ?_
    refine hl_iload_n h 2 dX6_come_151 rfl ?_
    refine hl_icmp_ne h 159 dX6_come_152 (by decide) (fun c26 => ?_) (fun c26 => ?_)
    · refine hl_aload_n h 3 dX6_come_159 rfl ?_
      refine hl_get h hi6 hl_wm_0 rfl 1 rfl dX6_come_160 (by decide) (by decide +kernel) ?_
      refine hl_iconst h 2 dX6_come_163 (by decide) ?_
      refine hl_iload h 0 dX6_come_164 rfl ?_
      refine hl_imul h dX6_come_166 ?_
      refine hl_iload_n h 1 dX6_come_167 rfl ?_
      refine hl_iadd h dX6_come_168 ?_
      refine hl_ild h hl_wm_2 0 rfl dX6_come_169 (by with_reducible assumption) ?_
      refine hl_iadd h dX6_come_170 ?_
      refine hl_ist h hl_wm_7 0 rfl dX6_come_171 (by with_reducible assumption) hl_wm_t9 ?_
      refine hl_nmM (fun g27 e28 => ?_)
      refine hl_aload_n h 3 dX6_come_172 rfl ?_
      refine hl_get h hi6 hl_wm_0 rfl 19 rfl dX6_come_173 (by decide) (by decide +kernel) ?_
      refine hl_aload_n h 3 dX6_come_176 rfl ?_
      refine hl_get h hi6 hl_wm_0 rfl 22 rfl dX6_come_177 (by decide) (by decide +kernel) ?_
      refine hl_aload_n h 3 dX6_come_180 rfl ?_
      refine hl_get h hi6 hl_wm_0 rfl 12 rfl dX6_come_181 (by decide) (by decide +kernel) ?_
      refine hl_iload_n h 4 dX6_come_184 rfl ?_
      refine hl_ild h hl_wm_10 0 rfl dX6_come_185 (by with_reducible assumption) ?_
      refine hl_ist h hl_wm_16 0 rfl dX6_come_186 (by have q1 : g27 22 = t 22 := (by simp [e8, e13, e15, e18, e23, e25, e28, hl_su_ne, fr_X6_takesLinen]); rw [q1]; exact h8) hl_wm_t19 ?_
      refine hl_nmM (fun g29 e30 => ?_)
      refine hl_aload_n h 3 dX6_come_187 rfl ?_
      refine hl_get h hi6 hl_wm_0 rfl 20 rfl dX6_come_188 (by decide) (by decide +kernel) ?_
      refine hl_aload_n h 3 dX6_come_191 rfl ?_
      refine hl_get h hi6 hl_wm_0 rfl 22 rfl dX6_come_192 (by decide) (by decide +kernel) ?_
      refine hl_iload h 0 dX6_come_195 rfl ?_
      refine hl_ist h hl_wm_17 0 rfl dX6_come_197 (by have q1 : g29 22 = t 22 := (by simp [e8, e13, e15, e18, e23, e25, e28, e30, hl_su_ne, fr_X6_takesLinen]); rw [q1]; exact h8) hl_wm_t20 ?_
      refine hl_nmM (fun g31 e32 => ?_)
      refine hl_aload_n h 3 dX6_come_198 rfl ?_
      refine hl_get h hi6 hl_wm_0 rfl 21 rfl dX6_come_199 (by decide) (by decide +kernel) ?_
      refine hl_aload_n h 3 dX6_come_202 rfl ?_
      refine hl_get h hi6 hl_wm_0 rfl 22 rfl dX6_come_203 (by decide) (by decide +kernel) ?_
      refine hl_aload_n h 3 dX6_come_206 rfl ?_
      refine hl_get h hi6 hl_wm_0 rfl 1 rfl dX6_come_207 (by decide) (by decide +kernel) ?_
      refine hl_iconst h 2 dX6_come_210 (by decide) ?_
      refine hl_iload h 0 dX6_come_211 rfl ?_
      refine hl_imul h dX6_come_213 ?_
      refine hl_iload_n h 1 dX6_come_214 rfl ?_
      refine hl_iadd h dX6_come_215 ?_
      refine hl_ild h hl_wm_2 0 rfl dX6_come_216 (by with_reducible assumption) ?_
      refine hl_bipush h 10 dX6_come_217 (by decide) ?_
      refine hl_idiv h dX6_come_219 (by decide) ?_
      refine hl_ist h hl_wm_18 0 rfl dX6_come_220 (by have q1 : g31 22 = t 22 := (by simp [e8, e13, e15, e18, e23, e25, e28, e30, e32, hl_su_ne, fr_X6_takesLinen]); rw [q1]; exact h8) hl_wm_t21 ?_
      refine hl_nmM (fun g33 e34 => ?_)
      refine hl_aload_n h 3 dX6_come_221 rfl ?_
      refine hl_dup h dX6_come_222 rfl ?_
      refine hl_get h hi6 hl_wm_0 rfl 22 rfl dX6_come_223 (by decide) (by decide +kernel) ?_
      refine hl_iconst h 1 dX6_come_226 (by decide) ?_
      refine hl_iadd h dX6_come_227 ?_
      refine hl_put h hi6 tyX6_ok nmX6 hl_wm_0 rfl 22 dX6_come_228 (by decide) (by decide +kernel) (by decide) rfl rfl (Nat.le_of_ble_eq_true rfl) hl_wm_s22 ?_
      refine hl_nmM (fun g35 e36 => ?_)
      refine hl_iload h 0 dX6_come_231 rfl ?_
      exact hend dX6_come_233 (fun h9 => nomatch h9) (by
        refine ⟨by rw [e8], congrArg (hl_WM b cI cZ) ?_⟩
        rw [e36, e34, e32, e30, e28, e25, e23, e18, e15, e13, e8]
        simp only [f_X6_come, f_X6_sleep]
        rw [e8] at c16 c26; rw [if_neg c16, if_neg c26]; rfl)
    · refine hl_iconst h 0 dX6_come_155 (by decide) ?_
      refine hl_goto h 170 dX6_come_156 (by decide) ?_
      refine hl_iadd h dX6_come_170 ?_
      refine hl_ist h hl_wm_7 0 rfl dX6_come_171 (by with_reducible assumption) hl_wm_t9 ?_
      refine hl_nmM (fun g37 e38 => ?_)
      refine hl_aload_n h 3 dX6_come_172 rfl ?_
      refine hl_get h hi6 hl_wm_0 rfl 19 rfl dX6_come_173 (by decide) (by decide +kernel) ?_
      refine hl_aload_n h 3 dX6_come_176 rfl ?_
      refine hl_get h hi6 hl_wm_0 rfl 22 rfl dX6_come_177 (by decide) (by decide +kernel) ?_
      refine hl_aload_n h 3 dX6_come_180 rfl ?_
      refine hl_get h hi6 hl_wm_0 rfl 12 rfl dX6_come_181 (by decide) (by decide +kernel) ?_
      refine hl_iload_n h 4 dX6_come_184 rfl ?_
      refine hl_ild h hl_wm_10 0 rfl dX6_come_185 (by with_reducible assumption) ?_
      refine hl_ist h hl_wm_16 0 rfl dX6_come_186 (by have q1 : g37 22 = t 22 := (by simp [e8, e13, e15, e18, e23, e25, e38, hl_su_ne, fr_X6_takesLinen]); rw [q1]; exact h8) hl_wm_t19 ?_
      refine hl_nmM (fun g39 e40 => ?_)
      refine hl_aload_n h 3 dX6_come_187 rfl ?_
      refine hl_get h hi6 hl_wm_0 rfl 20 rfl dX6_come_188 (by decide) (by decide +kernel) ?_
      refine hl_aload_n h 3 dX6_come_191 rfl ?_
      refine hl_get h hi6 hl_wm_0 rfl 22 rfl dX6_come_192 (by decide) (by decide +kernel) ?_
      refine hl_iload h 0 dX6_come_195 rfl ?_
      refine hl_ist h hl_wm_17 0 rfl dX6_come_197 (by have q1 : g39 22 = t 22 := (by simp [e8, e13, e15, e18, e23, e25, e38, e40, hl_su_ne, fr_X6_takesLinen]); rw [q1]; exact h8) hl_wm_t20 ?_
      refine hl_nmM (fun g41 e42 => ?_)
      refine hl_aload_n h 3 dX6_come_198 rfl ?_
      refine hl_get h hi6 hl_wm_0 rfl 21 rfl dX6_come_199 (by decide) (by decide +kernel) ?_
      refine hl_aload_n h 3 dX6_come_202 rfl ?_
      refine hl_get h hi6 hl_wm_0 rfl 22 rfl dX6_come_203 (by decide) (by decide +kernel) ?_
      refine hl_aload_n h 3 dX6_come_206 rfl ?_
      refine hl_get h hi6 hl_wm_0 rfl 1 rfl dX6_come_207 (by decide) (by decide +kernel) ?_
      refine hl_iconst h 2 dX6_come_210 (by decide) ?_
      refine hl_iload h 0 dX6_come_211 rfl ?_
      refine hl_imul h dX6_come_213 ?_
      refine hl_iload_n h 1 dX6_come_214 rfl ?_
      refine hl_iadd h dX6_come_215 ?_
      refine hl_ild h hl_wm_2 0 rfl dX6_come_216 (by with_reducible assumption) ?_
      refine hl_bipush h 10 dX6_come_217 (by decide) ?_
      refine hl_idiv h dX6_come_219 (by decide) ?_
      refine hl_ist h hl_wm_18 0 rfl dX6_come_220 (by have q1 : g41 22 = t 22 := (by simp [e8, e13, e15, e18, e23, e25, e38, e40, e42, hl_su_ne, fr_X6_takesLinen]); rw [q1]; exact h8) hl_wm_t21 ?_
      refine hl_nmM (fun g43 e44 => ?_)
      refine hl_aload_n h 3 dX6_come_221 rfl ?_
      refine hl_dup h dX6_come_222 rfl ?_
      refine hl_get h hi6 hl_wm_0 rfl 22 rfl dX6_come_223 (by decide) (by decide +kernel) ?_
      refine hl_iconst h 1 dX6_come_226 (by decide) ?_
      refine hl_iadd h dX6_come_227 ?_
      refine hl_put h hi6 tyX6_ok nmX6 hl_wm_0 rfl 22 dX6_come_228 (by decide) (by decide +kernel) (by decide) rfl rfl (Nat.le_of_ble_eq_true rfl) hl_wm_s22 ?_
      refine hl_nmM (fun g45 e46 => ?_)
      refine hl_iload h 0 dX6_come_231 rfl ?_
      exact hend dX6_come_233 (fun h9 => nomatch h9) (by
        refine ⟨by rw [e8], congrArg (hl_WM b cI cZ) ?_⟩
        rw [e46, e44, e42, e40, e38, e25, e23, e18, e15, e13, e8]
        simp only [f_X6_come, f_X6_sleep]
        rw [e8] at c16 c26; rw [if_neg c16, if_pos c26]; rfl)
