/-! THE LAW'S LOOP -/
theorem hl_lim {L i : Nat} (hL : L ≤ 2560) (hi : i ≤ 2560) : Int32.ofNat L - 5 < nI i ↔ L < i + 5 := by
  have h1 : (nI L).toInt = L := nI_toInt (by omega)
  have h2 : (nI i).toInt = i := nI_toInt (by omega)
  have h5 : (5 : Int32).toInt = 5 := by decide
  have h3 : (nI L - 5).toInt = L - 5 := by
    rw [hl_ti_sub (by rw [h1, h5]; omega) (by rw [h1, h5]; omega), h1, h5]
  show nI L - 5 < nI i ↔ _
  rw [Int32.lt_iff_toInt_lt, h3, h2]
  omega
set_option maxHeartbeats 4000000 in
set_option maxRecDepth 100000 in
theorem law_loop {p : Program} {l : Launch} {e : Env} {s : State} {m : MethodId} {below : List Frame} {meth : Method} {c : Code} {D : va_G} {cI cZ cJ : ClassId} {bs L : Nat} {xs : Nat → Int32} {b a : Nat → Nat} {o : Nat} (H : hl_H p s m c D cI cZ cJ (fun q => s.heap.size ≤ q) bs L xs) (hst : l.stackTraces = false) (hr : meth.sig.returnType = ret) (hlocks : meth.locks = false) :
    ∀ (n c0 : Nat) (f : Nat → Int64) (t g : Nat → Nat → Int32) (N M T : Nat), L ≤ 5 * (c0 + n) + 4 → 5 * c0 ≤ 2560 → hl_R c0 N M T g t →
      hl_X p l e room_1 s m #[Value.ref bs] below meth c 7 D (fun q => s.heap.size ≤ q) (45 + c0) (4026 + 6 * c0) (lw_Z below #[Value.ref bs] s) (hl_LW b a cI cZ cJ o f t g) 23 (hl_LS bs b a o (nI (5 * c0))) [] := by
  obtain ⟨h, hz, hX, hbl, hbA, hL⟩ := id H
  intro n
  induction n with
  | zero =>
    intro c0 f t g N M T hn h5 hR
    refine hl_iload h 4 dL_law_23 rfl ?_
    refine hl_aload_n h 0 dL_law_25 rfl ?_
    refine hl_slen H dL_law_26 ?_
    refine hl_iconst h 5 dL_law_27 (by decide) ?_
    refine hl_isub h dL_law_28 ?_
    refine hl_icmp_gt_T h 1258 dL_law_29 (by decide) ((hl_lim hL h5).mpr (by omega)) ?_
    refine hl_iconst h 1 dL_law_1258 (by decide) ?_
    intro H1 locs la hP hD hS hl
    refine va_forget (fun q hq => hS.2.2 q hq) ?_
    refine W.widen (k := 1078) (n := 12272) (by omega) (by omega) ?_
    exact lw_ret h.1 h.2.1 hr hlocks dL_law_1259
  | succ n ih =>
    intro c0 f t g N M T hn h5 hR
    refine hl_iload h 4 dL_law_23 rfl ?_
    refine hl_aload_n h 0 dL_law_25 rfl ?_
    refine hl_slen H dL_law_26 ?_
    refine hl_iconst h 5 dL_law_27 (by decide) ?_
    refine hl_isub h dL_law_28 ?_
    refine hl_icmp_gt h 1258 dL_law_29 (by decide) (fun _ => ?_) (fun hc => ?_)
    · refine hl_iconst h 1 dL_law_1258 (by decide) ?_
      intro H1 locs la hP hD hS hl
      refine va_forget (fun q hq => hS.2.2 q hq) ?_
      refine W.widen (k := 1078) (n := 12272) (by omega) (by omega) ?_
      exact lw_ret h.1 h.2.1 hr hlocks dL_law_1259
    · have hi : 5 * c0 + 5 ≤ L := Nat.not_lt.mp (fun z => hc ((hl_lim hL h5).mpr z))
      have hc0 : c0 < 512 := by omega
      have hcs : 45 + c0 + 1 ≤ room_1.cells ∧ 4026 + 6 * c0 + 6 ≤ room_1.slots := ⟨by show 45 + c0 + 1 ≤ 1078; omega, by show 4026 + 6 * c0 + 6 ≤ 12272; omega⟩
      have kk : ∀ (f' : Nat → Int64) (t' g' : Nat → Nat → Int32) (N' M' T' : Nat), hl_R (c0 + 1) N' M' T' g' t' → hl_X p l e room_1 s m #[Value.ref bs] below meth c 7 D (fun q => s.heap.size ≤ q) (45 + c0 + 1) (4026 + 6 * c0 + 6) (lw_Z below #[Value.ref bs] s) (hl_LW b a cI cZ cJ o f' t' g') 1252 (hl_LS bs b a o (nI (5 * c0))) [] := by
        intro f' t' g' N' M' T' hR'
        refine hl_iinc h 4 (nI (5 * (c0 + 1))) [(4, .int (nI (5 * (c0 + 1)))), (0, .ref bs), (1, .ref (a 0)), (2, .ref (b 0)), (3, .ref o)] dL_law_1252 rfl ?_ (by decide) rfl ?_
        · show nI (5 * c0) + nI 5 = nI (5 * (c0 + 1))
          rw [nI_add, Nat.mul_succ]
        · refine hl_goto h 23 dL_law_1255 (by decide) ?_
          refine hl_lsub [1, 2, 3, 4, 0] (ls' := hl_LS bs b a o (nI (5 * (c0 + 1)))) rfl ?_
          have key := ih (c0 + 1) f' t' g' N' M' T' (by omega) (by omega) hR'
          rw [show 45 + (c0 + 1) = 45 + c0 + 1 by omega, show 4026 + 6 * (c0 + 1) = 4026 + 6 * c0 + 6 by omega] at key
          exact key
      refine hl_aload_n h 0 dL_law_32 rfl ?_
      refine hl_iload h 4 dL_law_33 rfl ?_
      refine hl_sld H (vp_in_nI (by omega) (by omega)) dL_law_35 ?_
      refine hl_bipush h 31 dL_law_36 (by decide) ?_
      refine hl_iand h dL_law_38 ?_
      refine hl_topi (fun z ez => ?_)
      have hz32 : vp_in z 32 := by
        have q := Jvm.Kit.i32_mask (xs (nI (5 * c0)).toNatClampNeg) 31 (k := 5) (by decide) (by decide)
        rw [← ez] at q
        exact vp_in_iff.mpr ⟨by omega, by omega⟩
      clear ez
      obtain ⟨j, hj, rfl⟩ := vp_in_of hz32 (by decide)
      rcases (show j = 0 ∨ j = 1 ∨ j = 2 ∨ j = 3 ∨ j = 4 ∨ j = 5 ∨ j = 6 ∨ j = 7 ∨ j = 8 ∨ j = 9 ∨ j = 10 ∨ j = 11 ∨ j = 12 ∨ j = 13 ∨ j = 14 ∨ j = 15 ∨ j = 16 ∨ j = 17 ∨ j = 18 ∨ j = 19 ∨ 20 ≤ j by omega) with rfl | rfl | rfl | rfl | rfl | rfl | rfl | rfl | rfl | rfl | rfl | rfl | rfl | rfl | rfl | rfl | rfl | rfl | rfl | rfl | hj20
      · refine hl_tableIn h 132 dL_law_39 (off := 93) (by decide) (by decide) (by decide) (by decide) ?_
        exact law_setRooms H hst hcs hi hc0 hR kk
      · refine hl_tableIn h 224 dL_law_39 (off := 185) (by decide) (by decide) (by decide) (by decide) ?_
        exact law_buyLinen H hst hcs hi hc0 hR kk
      · refine hl_tableIn h 292 dL_law_39 (off := 253) (by decide) (by decide) (by decide) (by decide) ?_
        exact law_setBroken H hst hcs hi hc0 hR kk
      · refine hl_tableIn h 333 dL_law_39 (off := 294) (by decide) (by decide) (by decide) (by decide) ?_
        exact law_book H hst hcs hi hc0 hR kk
      · refine hl_tableIn h 425 dL_law_39 (off := 386) (by decide) (by decide) (by decide) (by decide) ?_
        exact law_come H hst hcs hi hc0 hR kk
      · refine hl_tableIn h 481 dL_law_39 (off := 442) (by decide) (by decide) (by decide) (by decide) ?_
        exact law_burn H hst hcs hi hc0 hR kk
      · refine hl_tableIn h 561 dL_law_39 (off := 522) (by decide) (by decide) (by decide) (by decide) ?_
        exact law_night H hst hcs hi hc0 hR kk
      · refine hl_tableIn h 605 dL_law_39 (off := 566) (by decide) (by decide) (by decide) (by decide) ?_
        exact law_settle H hst hcs hi hc0 hR kk
      · refine hl_tableIn h 618 dL_law_39 (off := 579) (by decide) (by decide) (by decide) (by decide) ?_
        exact law_today H hst hcs hi hc0 hR kk
      · refine hl_tableIn h 631 dL_law_39 (off := 592) (by decide) (by decide) (by decide) (by decide) ?_
        exact law_bookings H hst hcs hi hc0 hR kk
      · refine hl_tableIn h 644 dL_law_39 (off := 605) (by decide) (by decide) (by decide) (by decide) ?_
        exact law_free H hst hcs hi hc0 hR kk
      · refine hl_tableIn h 712 dL_law_39 (off := 673) (by decide) (by decide) (by decide) (by decide) ?_
        exact law_taken H hst hcs hi hc0 hR kk
      · refine hl_tableIn h 780 dL_law_39 (off := 741) (by decide) (by decide) (by decide) (by decide) ?_
        exact law_takenByBookings H hst hcs hi hc0 hR kk
      · refine hl_tableIn h 848 dL_law_39 (off := 809) (by decide) (by decide) (by decide) (by decide) ?_
        exact law_extra H hst hcs hi hc0 hR kk
      · refine hl_tableIn h 904 dL_law_39 (off := 865) (by decide) (by decide) (by decide) (by decide) ?_
        exact law_clean H hst hcs hi hc0 hR kk
      · refine hl_tableIn h 960 dL_law_39 (off := 921) (by decide) (by decide) (by decide) (by decide) ?_
        exact law_away H hst hcs hi hc0 hR kk
      · refine hl_tableIn h 1016 dL_law_39 (off := 977) (by decide) (by decide) (by decide) (by decide) ?_
        exact law_sleeps H hst hcs hi hc0 hR kk
      · refine hl_tableIn h 1072 dL_law_39 (off := 1033) (by decide) (by decide) (by decide) (by decide) ?_
        exact law_points H hst hcs hi hc0 hR kk
      · refine hl_tableIn h 1128 dL_law_39 (off := 1089) (by decide) (by decide) (by decide) (by decide) ?_
        exact law_owes H hst hcs hi hc0 hR kk
      · refine hl_tableIn h 1196 dL_law_39 (off := 1157) (by decide) (by decide) (by decide) (by decide) ?_
        exact law_purse H hst hcs hi hc0 hR kk
      · refine hl_tableOut h 1252 dL_law_39 (Or.inr (by rw [nI_toInt (by omega)]; omega)) (by decide) ?_
        refine hl_widen (45 + c0 + 1) (4026 + 6 * c0 + 6) (by omega) (by omega) ?_
        exact kk f t g N M T (hl_R_up hc0 hR)
