/-! The answers of the calls that change nothing are the same; what a reference's step leaves of 'thrown' -/
theorem hl_pos_ite (d : Int32) : (if 0 < d then d else 0) = (if d ≤ 0 then 0 else d) := by
  by_cases h : d ≤ 0
  · rw [if_pos h, if_neg (hl_nlt h)]
  · rw [if_neg h, if_pos]
    rw [Int32.lt_iff_toInt_lt]
    exact Int.not_le.mp (fun z => h (Int32.le_iff_toInt_le.mpr z))
theorem hl_q_free {c N M T : Nat} {g t : Nat → Nat → Int32} (h : hl_R c N M T g t) (x y : Int32) : r_X4_freeOf g x y = (if (t 0 (2 * x + y).toNatClampNeg - t 2 (2 * x + y).toNatClampNeg) ≤ 0 then 0 else (t 0 (2 * x + y).toNatClampNeg - t 2 (2 * x + y).toNatClampNeg)) := by
  obtain ⟨o, tt, ⟨e0, e1, e2, er⟩, _⟩ := h
  unfold r_X4_freeOf
  rw [hl_pos_ite, e0, e2, Int32.mul_comm x 2]
theorem hl_q_taken {c N M T : Nat} {g t : Nat → Nat → Int32} (h : hl_R c N M T g t) (x y : Int32) : g 2 (x * 2 + y).toNatClampNeg = t 2 (2 * x + y).toNatClampNeg := by
  obtain ⟨o, tt, ⟨e0, e1, e2, er⟩, _⟩ := h
  rw [e2, Int32.mul_comm x 2]
theorem hl_q_rooms {c N M T : Nat} {g t : Nat → Nat → Int32} (h : hl_R c N M T g t) (x y : Int32) : g 0 (x * 2 + y).toNatClampNeg = t 0 (2 * x + y).toNatClampNeg := by
  obtain ⟨o, tt, ⟨e0, er⟩, _⟩ := h
  rw [e0, Int32.mul_comm x 2]
theorem hl_q_tbb {c N M T : Nat} {g t : Nat → Nat → Int32} (h : hl_R c N M T g t) (x y : Int32) : hl_it (b_X0_sleepersAt g x y (g 23 0)) 0 N 0 = hl_it (b_X6_taken t x y) 0 N 0 := by
  obtain ⟨o, tt, ⟨e0, e1, e2, e3, e4, e8, e9, e10, e11, e12, e13, e14, e15, e16, e17, e18, e19, e20, e21, e23⟩, _⟩ := h
  refine hl_it_congr _ _ N 0 (fun k u _ => ?_)
  have q : (g 15 k = x ∧ g 12 k = y ∧ g 13 k = g 23 0) ↔ (t 15 k = t 8 0 ∧ t 17 k = x ∧ t 14 k = y) := by
    rw [e15, e12, e13, e23]
    exact ⟨fun z => ⟨z.2.2, z.1, z.2.1⟩, fun z => ⟨z.2.1, z.2.2, z.1⟩⟩
  unfold b_X0_sleepersAt b_X6_taken
  simp only [q, Int32.add_zero]
theorem hl_q_extra {c N M T : Nat} {g t : Nat → Nat → Int32} (h : hl_R c N M T g t) {x : Int32} (hx : vp_in x 4) : r_X5_extraOf g N x = r_X6_extraOf t T x := by
  obtain ⟨o, ⟨t1, t2⟩, e, b, w, ⟨m1, m2⟩, ct, ⟨n0, n1, n2, n3, n4, n5, n6, n7⟩⟩ := h
  exact hl_ext_eq t1 hx t2 n7 m1
theorem hl_q_clean {c N M T : Nat} {g t : Nat → Nat → Int32} (h : hl_R c N M T g t) (x : Int32) : g 3 x.toNatClampNeg = t 3 x.toNatClampNeg := by
  obtain ⟨o, tt, ⟨e0, e1, e2, e3, er⟩, _⟩ := h
  rw [e3]
theorem hl_away_it (f : Nat → Int32) (j : Nat) (u : Int32) : ∀ n, hl_it (fun k m => m + f (4 * k + j)) 0 n u = u + hl_wsh f j n := by
  intro n
  induction n with
  | zero =>
    show u = u + 0
    rw [Int32.add_zero]
  | succ n ih =>
    rw [hl_it_snoc, ih, hl_wsh_s, Nat.zero_add, Int32.add_assoc]
theorem hl_q_away {c N M T : Nat} {g t : Nat → Nat → Int32} (h : hl_R c N M T g t) {x : Int32} (hx : vp_in x 4) : r_X2_awayOf g x = hl_it (b_X6_away t x) 0 T (t 4 x.toNatClampNeg) := by
  obtain ⟨o, tt, ⟨e0, e1, e2, e3, e4, er⟩, b, w, _⟩ := h
  obtain ⟨j, hj, rfl⟩ := vp_in_of hx (by decide)
  have hx : (nI j).toNatClampNeg = j := nI_clamp (by omega)
  obtain ⟨w5, w6, w7⟩ := w j hj
  have ea : hl_it (b_X6_away t (nI j)) 0 T (t 4 (nI j).toNatClampNeg) = t 4 j + hl_wsh (t 10) j T := by
    rw [← hl_away_it, hx]
    refine hl_it_congr _ _ T _ (fun k u _ => ?_)
    unfold b_X6_away
    rw [hx]
  rw [ea]
  unfold r_X2_awayOf
  rw [hx, w5, w6, w7, e4]
  rcases T with _ | _ | T
  · show t 4 j + 0 + 0 + 0 = t 4 j + 0
    grind
  · show t 4 j + t 10 (4 * 0 + j) + 0 + 0 = t 4 j + (0 + t 10 (4 * 0 + j))
    grind
  · rw [if_pos (by omega), if_pos (by omega), hl_wsh_s, hl_wsh_s, show T + 1 + 1 - 1 = T + 1 by omega, show T + 1 + 1 - 2 = T by omega]
    grind
theorem hl_q_sleeps {c N M T : Nat} {g t : Nat → Nat → Int32} (h : hl_R c N M T g t) (x : Int32) : g 15 x.toNatClampNeg = t 17 x.toNatClampNeg := by
  obtain ⟨o, tt, ⟨e0, e1, e2, e3, e4, e8, e9, e10, e11, e12, e13, e14, e15, er⟩, _⟩ := h
  rw [e15]
theorem hl_q_points {c N M T : Nat} {g t : Nat → Nat → Int32} (h : hl_R c N M T g t) (x : Int32) : hl_it (b_X3_ofGuest g x) 0 M 0 = hl_it (b_X6_pointsOf t x) 0 M 0 := by
  obtain ⟨o, tt, ⟨e0, e1, e2, e3, e4, e8, e9, e10, e11, e12, e13, e14, e15, e16, e17, e18, e19, er⟩, _⟩ := h
  exact hl_points_eq e17 e19 x M
theorem hl_q_owes {c N M T : Nat} {g t : Nat → Nat → Int32} (h : hl_R c N M T g t) {x y : Int32} (hx : vp_in x 4) (hy : vp_in y 4) : r_X1_between g x y = r_X6_owed t x y := by
  obtain ⟨o, tt, e, b, _⟩ := h
  obtain ⟨i, hi, rfl⟩ := vp_in_of hx (by decide)
  obtain ⟨j, hj, rfl⟩ := vp_in_of hy (by decide)
  rw [hl_between_d g hi hj, hl_owed_d t hi hj, b i j hi hj]
theorem hl_q_purse {c N M T : Nat} {g t : Nat → Nat → Int32} (h : hl_R c N M T g t) (x : Int32) : g 21 x.toNatClampNeg = t 5 x.toNatClampNeg := by
  obtain ⟨o, tt, ⟨e0, e1, e2, e3, e4, e8, e9, e10, e11, e12, e13, e14, e15, e16, e17, e18, e19, e20, e21, er⟩, _⟩ := h
  rw [e21]
theorem hl_q_today {c N M T : Nat} {g t : Nat → Nat → Int32} (h : hl_R c N M T g t) : g 23 0 = t 8 0 := by
  obtain ⟨o, tt, ⟨e0, e1, e2, e3, e4, e8, e9, e10, e11, e12, e13, e14, e15, e16, e17, e18, e19, e20, e21, e23⟩, _⟩ := h
  rw [e23]
theorem hl_q_bookings {c N M T : Nat} {g t : Nat → Nat → Int32} (h : hl_R c N M T g t) : g 16 0 = t 18 0 := by
  obtain ⟨o, tt, ⟨e0, e1, e2, e3, e4, e8, e9, e10, e11, e12, e13, e14, e15, e16, er⟩, _⟩ := h
  rw [e16]
theorem hl_q_broken {c N M T : Nat} {g t : Nat → Nat → Int32} (h : hl_R c N M T g t) : g 8 0 = t 6 0 := by
  obtain ⟨o, tt, ⟨e0, e1, e2, e3, e4, e8, er⟩, _⟩ := h
  rw [e8]
theorem hl_q_on {c N M T : Nat} {g t : Nat → Nat → Int32} (h : hl_R c N M T g t) : g 13 = t 15 ∧ g 14 = t 16 := by
  obtain ⟨o, tt, ⟨e0, e1, e2, e3, e4, e8, e9, e10, e11, e12, e13, e14, er⟩, _⟩ := h
  exact ⟨e13, e14⟩
theorem hl_q_count {c N M T : Nat} {g t : Nat → Nat → Int32} (h : hl_R c N M T g t) (x y z : Int32) : hl_it (b_X0_countFor g x y z) 0 N 0 = hl_it (b_X6_book t x y z) 0 N 0 := by
  obtain ⟨o, tt, ⟨e0, e1, e2, e3, e4, e8, e9, e10, e11, e12, e13, e14, er⟩, _⟩ := h
  refine hl_it_congr _ _ N 0 (fun k u _ => ?_)
  unfold b_X0_countFor b_X6_book
  rw [e11, e12, e13, Int32.add_zero]
theorem hl_q_more {c N M T : Nat} {g t : Nat → Nat → Int32} (h : hl_R c N M T g t) {y : Int32} (hy : vp_in y 4) (z v : Int32) : r_X5_takesMore g N y z v = 0 ↔ ¬ hl_it (b_X6_book t y z v) 0 N 0 < t 0 (2 * y + z).toNatClampNeg + r_X6_extraOf t T y := by
  unfold r_X5_takesMore
  rw [hl_ite0, hl_q_count h, hl_q_extra h hy, hl_q_rooms h]
  exact ⟨fun q => hl_nlt q, fun q => hl_le_of q⟩
theorem hl_23_come (t : Nat → Nat → Int32) (x : Int32) : f_X6_come t x 23 = t 23 := by
  unfold f_X6_come
  split
  · rfl
  · unfold f_X6_sleep
    show f_X6_takesLinen _ _ 23 = _
    rw [fr_X6_takesLinen _ _ (by decide) (by decide) (by decide) (by decide)]
    rfl
theorem hl_23_burn (t : Nat → Nat → Int32) (M : Nat) (x y q : Int32) : f_X6_burn t M x y q 23 = t 23 := fr_X6_burnIt x y (by decide) (by decide) M 0 (t, q)
theorem hl_23_night (t : Nat → Nat → Int32) (N T : Nat) : f_X6_night t N T 23 = t 23 := by
  unfold f_X6_night
  rw [hl_su_ne _ _ (by decide : (23 : Nat) ≠ 8), hl_su_ne _ _ (by decide : (23 : Nat) ≠ 7), (hl_w0_ref _).2 23 (by decide), fr_X6_n2It T (by decide) (by decide) (by decide), fr_X6_n1It T (by decide)]
theorem hl_23_settle (t : Nat → Nat → Int32) : f_X6_settle t 23 = t 23 := by
  unfold f_X6_settle
  rw [(hl_wipe _).2 23 (by decide)]
  exact hl_it_inv (fun _ (z : (Nat → Nat → Int32) × Int32) => z.1 23 = t 23) b_X6_settle 16 (t, 0) rfl (fun k x _ hx => (fr_X6_settle k x (by decide)).trans hx)
