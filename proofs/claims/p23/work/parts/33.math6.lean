/-! Points are burned: the relation stays -/
theorem hl_ow0 (f : Nat → Int32) (a b : Nat) : hl_ow f a b 0 = f := by
  unfold hl_ow
  rw [Int32.add_zero, Int32.sub_zero, hl_upd_same, hl_upd_same]
def hl_bt (G : Nat → Nat → Int32) (n x : Int32) (k : Nat) : Int32 := if G 17 k = x then (if n ≤ G 19 k then n else G 19 k) else 0
theorem hl_le0 {n : Int32} (h : n ≤ 0) (h0 : 0 ≤ n.toInt) : n = 0 := by
  apply Int32.toInt_inj.mp
  have q := Int32.le_iff_toInt_le.mp h
  rw [show (0 : Int32).toInt = 0 by decide] at q ⊢
  omega
theorem hl_bt_min {n L : Int32} : (if n < L then n else L) = (if n ≤ L then n else L) := by
  by_cases h : n < L
  · rw [if_pos h, if_pos (Int32.le_iff_toInt_le.mpr (Int.le_of_lt (Int32.lt_iff_toInt_lt.mp h)))]
  · rw [if_neg h]
    by_cases h2 : n ≤ L
    · rw [if_pos h2]
      apply Int32.toInt_inj.mp
      have q1 := Int32.le_iff_toInt_le.mp h2
      have q2 : ¬ n.toInt < L.toInt := fun z => h (Int32.lt_iff_toInt_lt.mpr z)
      omega
    · rw [if_neg h2]
theorem hl_burn_cls {G : Nat → Nat → Int32} {n x y : Int32} {k : Nat} (hk : k < 80) (hL : 0 ≤ (G 19 k).toInt) (hn0 : 0 ≤ n.toInt) :
    ∃ G', b_X5_burn x y k (G, n) = (G', n - hl_bt G n x k) ∧ (∀ p, p ≠ 19 → p ≠ 22 → G' p = G p) ∧ G' 19 = upd (G 19) k (G 19 k - hl_bt G n x k) ∧ G' 22 = (if G 18 k = y then G 22 else hl_ow (G 22) (G 18 k * 4 + y).toNatClampNeg (y * 4 + G 18 k).toNatClampNeg (hl_bt G n x k)) := by
  by_cases hn : n ≤ 0
  · have e := hl_le0 hn hn0
    have b0 : hl_bt G n x k = 0 := by
      unfold hl_bt
      rw [e, if_pos (Int32.le_iff_toInt_le.mpr (by rw [show (0 : Int32).toInt = 0 by decide]; exact hL) : (0 : Int32) ≤ G 19 k)]
      split <;> rfl
    rw [b0, Int32.sub_zero, Int32.sub_zero, hl_upd_same, hl_ow0]
    refine ⟨G, ?_, fun _ _ _ => rfl, rfl, ?_⟩
    · unfold b_X5_burn
      rw [if_pos hn]
    · split <;> rfl
  · have nk : (nI k).toNatClampNeg = k := nI_clamp (by omega)
    have h1 : r_X3_takeFrom G (nI k) x n = hl_bt G n x k := by
      unfold r_X3_takeFrom hl_bt
      rw [nk, hl_bt_min]
    have h2 : f_X3_takeFrom G (nI k) x n 19 = upd (G 19) k (G 19 k - hl_bt G n x k) := by
      unfold f_X3_takeFrom hl_bt
      rw [nk, hl_bt_min]
      by_cases hx : G 17 k = x
      · rw [if_pos hx, if_pos hx, hl_su_eq]
      · rw [if_neg hx, if_neg hx, Int32.sub_zero, hl_upd_same]
    have h3 : ∀ p, p ≠ 19 → f_X3_takeFrom G (nI k) x n p = G p := fun p hp => fr_X3_takeFrom _ _ _ _ hp
    refine ⟨(b_X5_burn x y k (G, n)).1, ?_, fun p hp hp2 => fr_X5_burn x y k (G, n) hp hp2, ?_, ?_⟩
    · unfold b_X5_burn
      rw [if_neg hn, ← h1]
    · unfold b_X5_burn
      rw [if_neg hn]
      show (if f_X3_takeFrom G (nI k) x n 18 k = y then f_X3_takeFrom G (nI k) x n else f_X1_owe (f_X3_takeFrom G (nI k) x n) (f_X3_takeFrom G (nI k) x n 18 k) y (r_X3_takeFrom G (nI k) x n)) 19 = _
      split
      · exact h2
      · rw [fr_X1_owe _ _ _ _ (by decide)]; exact h2
    · unfold b_X5_burn
      rw [if_neg hn]
      show (if f_X3_takeFrom G (nI k) x n 18 k = y then f_X3_takeFrom G (nI k) x n else f_X1_owe (f_X3_takeFrom G (nI k) x n) (f_X3_takeFrom G (nI k) x n 18 k) y (r_X3_takeFrom G (nI k) x n)) 22 = _
      rw [h3 18 (by decide)]
      split
      · exact h3 22 (by decide)
      · rw [hl_owe22, h3 22 (by decide), h1]
theorem hl_burn_ref (U : Nat → Nat → Int32) (n x y : Int32) (k : Nat) :
    ∃ U', b_X6_burn x y k (U, n) = (U', n - (if U 19 k = x then (if n ≤ U 21 k then n else U 21 k) else 0)) ∧ (∀ p, p ≠ 21 → p ≠ 9 → U' p = U p) ∧ U' 21 = upd (U 21) k (U 21 k - (if U 19 k = x then (if n ≤ U 21 k then n else U 21 k) else 0)) ∧ U' 9 = hl_ad (U 9) (4 * U 20 k + y).toNatClampNeg (if U 20 k = y then 0 else (if U 19 k = x then (if n ≤ U 21 k then n else U 21 k) else 0)) :=
  ⟨(b_X6_burn x y k (U, n)).1, rfl, fun p hp hp2 => fr_X6_burn x y k (U, n) hp hp2, rfl, rfl⟩
def hl_BI (c M : Nat) (g t : Nat → Nat → Int32) (q : Int) (z z' : (Nat → Nat → Int32) × Int32) : Prop :=
  z.2 = z'.2 ∧ 0 ≤ z.2.toInt ∧ z.2.toInt ≤ q ∧ (∀ p, p ≠ 19 → p ≠ 22 → z.1 p = g p) ∧ (∀ p, p ≠ 21 → p ≠ 9 → z'.1 p = t p) ∧ z.1 19 = z'.1 21 ∧ hl_bd (z.1 19) M 0 10 ∧ hl_RB (z.1 22) (z'.1 9) ∧ hl_bd (z'.1 9) 16 0 (1000 * c + (q - z.2.toInt))
theorem hl_burn_step {c M k : Nat} {g t : Nat → Nat → Int32} {q : Int} {z z' : (Nat → Nat → Int32) × Int32} {x y : Int32} (hc : c ≤ 512) (hM : M ≤ 80) (hk : k < M) (hq : q ≤ 100) (hy : vp_in y 4) (h18 : vp_in (g 18 k) 4) (e17 : g 17 = t 19) (e18 : g 18 = t 20) (h : hl_BI c M g t q z z') : hl_BI c M g t q (b_X5_burn x y k z) (b_X6_burn x y k z') := by
  obtain ⟨G, n⟩ := z
  obtain ⟨U, n'⟩ := z'
  obtain ⟨zn, z0, zq, zg, zt, z19, zb, zB, zd⟩ := h
  dsimp only at zn z0 zq zg zt z19 zb zB zd
  subst zn
  have u19 : U 19 = G 17 := by rw [zt 19 (by decide) (by decide), zg 17 (by decide) (by decide), e17]
  have u20 : U 20 = G 18 := by rw [zt 20 (by decide) (by decide), zg 18 (by decide) (by decide), e18]
  have hL := zb k hk
  obtain ⟨G', a1, a2, a3, a4⟩ := hl_burn_cls (x := x) (y := y) (by omega : k < 80) hL.1 z0
  obtain ⟨U', b1, b2, b3, b4⟩ := hl_burn_ref U n x y k
  rw [a1, b1]
  rw [u19, ← z19] at b1 b3 b4
  rw [u19, ← z19]
  rw [u20] at b4
  have hbt : 0 ≤ (hl_bt G n x k).toInt ∧ (hl_bt G n x k).toInt ≤ n.toInt ∧ (hl_bt G n x k).toInt ≤ (G 19 k).toInt := by
    unfold hl_bt
    split
    · split
      · next hh => exact ⟨z0, Int.le_refl _, Int32.le_iff_toInt_le.mp hh⟩
      · next hh =>
        have q2 : ¬ n.toInt ≤ (G 19 k).toInt := fun z => hh (Int32.le_iff_toInt_le.mpr z)
        exact ⟨hL.1, by omega, Int.le_refl _⟩
    · rw [show (0 : Int32).toInt = 0 by decide]
      exact ⟨by omega, z0, hL.1⟩
  have s1 : (n - hl_bt G n x k).toInt = n.toInt - (hl_bt G n x k).toInt := hl_ti_sub (by omega) (by omega)
  have s2 : (G 19 k - hl_bt G n x k).toInt = (G 19 k).toInt - (hl_bt G n x k).toInt := hl_ti_sub (by omega) (by omega)
  have g18 : G 18 k = g 18 k := by rw [zg 18 (by decide) (by decide)]
  rw [← g18] at h18
  obtain ⟨i, hi, ei⟩ := vp_in_of h18 (by decide)
  obtain ⟨j, hj, rfl⟩ := vp_in_of hy (by decide)
  rw [ei, hl_c4 hi hj, hl_c4 hj hi] at a4
  rw [ei, hl_c4' hi hj] at b4
  refine ⟨rfl, by rw [s1]; omega, by rw [s1]; omega, fun p hp hp2 => (a2 p hp hp2).trans (zg p hp hp2), fun p hp hp2 => (b2 p hp hp2).trans (zt p hp hp2), ?_, ?_, ?_, ?_⟩
  · show G' 19 = U' 21
    rw [a3, b3]; rfl
  · show hl_bd (G' 19) M 0 10
    rw [a3]
    exact hl_bd_upd zb (by rw [s2]; omega)
  · show hl_RB (G' 22) (U' 9)
    rw [a4, b4]
    by_cases hA : nI i = nI j
    · rw [if_pos hA, if_pos hA, hl_ad0]; exact zB
    · rw [if_neg hA, if_neg hA]; exact hl_RB_ow _ hi hj zB
  · show hl_bd (U' 9) 16 0 (1000 * c + (q - (n - hl_bt G n x k).toInt))
    rw [b4, s1]
    refine hl_bd_mono (hl_bd_ad (q := (hl_bt G n x k).toInt) zd (by omega) ?_ (by decide) (by omega)) (by omega)
    split
    · exact ⟨by decide, hbt.1⟩
    · exact ⟨hbt.1, Int.le_refl _⟩
theorem hl_R_burn {c N M T : Nat} {g t : Nat → Nat → Int32} {x y q : Int32} (hc : c < 512) (h : hl_R c N M T g t) (hy : vp_in y 4) (h3 : ¬ q < 1) (h4 : q ≤ 100) :
    hl_R (c + 1) N M T (f_X5_burnEarliest g M x y q) (f_X6_burn t M x y q) := by
  obtain ⟨⟨o1, o2, o3, o4, o5, o6, o7⟩, ⟨t1, t2⟩, ⟨e0, e1, e2, e3, e4, e8, e9, e10, e11, e12, e13, e14, e15, e16, e17, e18, e19, e20, e21, e23⟩, b, w, ⟨m1, m2⟩, ct, ⟨n0, n1, n2, n3, n4, n5, n6, n7⟩⟩ := h
  have hq1 : 1 ≤ q.toInt := hl_nlt_ti h3
  have hq2 : q.toInt ≤ 100 := Int32.le_iff_toInt_le.mp h4
  have key := hl_it_inv2 (fun _ z z' => hl_BI c M g t q.toInt z z') (b_X5_burn x y) (b_X6_burn x y) M (g, q) (t, q)
    ⟨rfl, by show 0 ≤ q.toInt; omega, Int.le_refl _, fun _ _ _ => rfl, fun _ _ _ => rfl, e19, n6, b, hl_bd_mono n5 (by show 1000 * (c : Int) ≤ 1000 * c + (q.toInt - q.toInt); omega)⟩
    (fun k z z' hk hz => hl_burn_step (by omega) o3 hk hq2 hy (o6 k hk) e17 e18 hz)
  unfold f_X5_burnEarliest f_X6_burn
  obtain ⟨_, z0, zq, zg, zt, z19, zb, zB, zd⟩ := key
  generalize (hl_it (b_X5_burn x y) 0 M (g, q)) = z at *
  generalize (hl_it (b_X6_burn x y) 0 M (t, q)) = z' at *
  have G := fun p (hp : p ≠ 19) (hp2 : p ≠ 22) => zg p hp hp2
  have U := fun p (hp : p ≠ 21) (hp2 : p ≠ 9) => zt p hp hp2
  refine ⟨⟨o1, by rw [G 16 (by decide) (by decide)]; exact o2, o3, by rw [G 20 (by decide) (by decide)]; exact o4, by rw [G 11 (by decide) (by decide), G 12 (by decide) (by decide)]; exact o5, by rw [G 18 (by decide) (by decide)]; exact o6, by rw [G 8 (by decide) (by decide)]; exact o7⟩,
    ⟨t1, by rw [G 23 (by decide) (by decide)]; exact t2⟩,
    ⟨by rw [G 0 (by decide) (by decide), U 0 (by decide) (by decide), e0], by rw [G 1 (by decide) (by decide), U 1 (by decide) (by decide), e1], by rw [G 2 (by decide) (by decide), U 2 (by decide) (by decide), e2], by rw [G 3 (by decide) (by decide), U 3 (by decide) (by decide), e3], by rw [G 4 (by decide) (by decide), U 4 (by decide) (by decide), e4], by rw [G 8 (by decide) (by decide), U 6 (by decide) (by decide), e8], by rw [G 9 (by decide) (by decide), U 7 (by decide) (by decide), e9], by rw [G 10 (by decide) (by decide), U 12 (by decide) (by decide), e10], by rw [G 11 (by decide) (by decide), U 13 (by decide) (by decide), e11], by rw [G 12 (by decide) (by decide), U 14 (by decide) (by decide), e12], by rw [G 13 (by decide) (by decide), U 15 (by decide) (by decide), e13], by rw [G 14 (by decide) (by decide), U 16 (by decide) (by decide), e14], by rw [G 15 (by decide) (by decide), U 17 (by decide) (by decide), e15], by rw [G 16 (by decide) (by decide), U 18 (by decide) (by decide), e16], by rw [G 17 (by decide) (by decide), U 19 (by decide) (by decide), e17], by rw [G 18 (by decide) (by decide), U 20 (by decide) (by decide), e18], z19, by rw [G 20 (by decide) (by decide), U 22 (by decide) (by decide), e20], by rw [G 21 (by decide) (by decide), U 5 (by decide) (by decide), e21], by rw [G 23 (by decide) (by decide), U 8 (by decide) (by decide), e23]⟩,
    zB, by rw [G 5 (by decide) (by decide), G 6 (by decide) (by decide), G 7 (by decide) (by decide), U 10 (by decide) (by decide)]; exact w, ?_, by rw [G 14 (by decide) (by decide)]; exact ct,
    ⟨hc, by rw [G 0 (by decide) (by decide)]; exact n1, by rw [G 1 (by decide) (by decide)]; exact n2, by rw [G 2 (by decide) (by decide)]; exact hl_bd_mono n3 (by omega), by rw [G 9 (by decide) (by decide)]; exact hl_bd_mono n4 (by omega), hl_bd_mono zd (by omega), zb, by rw [G 13 (by decide) (by decide)]; exact n7⟩⟩
  rw [U 11 (by decide) (by decide)]
  refine ⟨fun s i hs hi => ?_, m2⟩
  rw [hl_miss_congr (G 11 (by decide) (by decide)) (G 13 (by decide) (by decide)) (G 14 (by decide) (by decide))]
  exact m1 s i hs hi
theorem hl_points_eq {g t : Nat → Nat → Int32} (e17 : g 17 = t 19) (e19 : g 19 = t 21) (x : Int32) (M : Nat) : hl_it (b_X3_ofGuest g x) 0 M 0 = hl_it (b_X6_pointsOf t x) 0 M 0 := by
  refine hl_it_congr _ _ M 0 (fun k u _ => ?_)
  unfold b_X3_ofGuest b_X6_pointsOf
  rw [e17, e19, Int32.add_zero]
