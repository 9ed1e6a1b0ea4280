/-! The settling: the relation stays -/
def b_X1_pay16 (k : Nat) (z : (Nat → Nat → Int32) × Int32) : (Nat → Nat → Int32) × Int32 := b_X1_payIn (k / 4) (k % 4) z
theorem hl_pay_flat (z : (Nat → Nat → Int32) × Int32) : hl_it b_X1_payAll 0 4 z = hl_it b_X1_pay16 0 16 z := rfl
theorem hl_neg_sub (a b : Int32) : a - b = -(b - a) := by grind
theorem hl_owed_d (t : Nat → Nat → Int32) {i j : Nat} (hi : i < 4) (hj : j < 4) : r_X6_owed t (nI i) (nI j) = (if t 9 (4 * i + j) - t 9 (4 * j + i) ≤ 0 then 0 else t 9 (4 * i + j) - t 9 (4 * j + i)) := by
  unfold r_X6_owed
  rw [hl_c4' hi hj, hl_c4' hj hi]
theorem hl_between_d (g : Nat → Nat → Int32) {i j : Nat} (hi : i < 4) (hj : j < 4) : r_X1_between g (nI i) (nI j) = (if g 22 (4 * i + j) ≤ 0 then 0 else g 22 (4 * i + j)) := by
  unfold r_X1_between
  rw [hl_c4 hi hj]
  by_cases h : g 22 (4 * i + j) ≤ 0
  · rw [if_pos h, if_neg (hl_nlt h)]
  · rw [if_neg h, if_pos]
    rw [Int32.lt_iff_toInt_lt]
    exact Int.not_le.mp (fun z => h (Int32.le_iff_toInt_le.mpr z))
def hl_dd (t : Nat → Nat → Int32) (i j : Nat) : Int32 := t 9 (4 * i + j) - t 9 (4 * j + i)
/-- what still stands between i and j when k pairs have been settled -/
def hl_sd (t : Nat → Nat → Int32) (k i j : Nat) : Int32 := if (4 * i + j < k ∧ ¬ hl_dd t i j ≤ 0) ∨ (4 * j + i < k ∧ ¬ hl_dd t j i ≤ 0) then 0 else hl_dd t i j
def hl_SI (g t : Nat → Nat → Int32) (k : Nat) (z z' : (Nat → Nat → Int32) × Int32) : Prop :=
  z.2 = z'.2 ∧ z.1 21 = z'.1 5 ∧ (∀ p, p ≠ 21 → p ≠ 22 → z.1 p = g p) ∧ (∀ p, p ≠ 5 → z'.1 p = t p) ∧ ∀ i j, i < 4 → j < 4 → z.1 22 (4 * i + j) = hl_sd t k i j
theorem hl_dd_ti {t : Nat → Nat → Int32} {hi : Int} (h : hl_bd (t 9) 16 0 hi) (hq : hi < 2147483648) {i j : Nat} (hi4 : i < 4) (hj4 : j < 4) : (hl_dd t i j).toInt = (t 9 (4 * i + j)).toInt - (t 9 (4 * j + i)).toInt := by
  have h1 := h (4 * i + j) (by omega)
  have h2 := h (4 * j + i) (by omega)
  exact hl_ti_sub (by omega) (by omega)
theorem hl_settle_step {k : Nat} {g t : Nat → Nat → Int32} {z z' : (Nat → Nat → Int32) × Int32} {hi : Int} (hbd : hl_bd (t 9) 16 0 hi) (hq : hi < 2147483648) (hk : k < 16) (h : hl_SI g t k z z') : hl_SI g t (k + 1) (b_X1_pay16 k z) (b_X6_settle k z') := by
  obtain ⟨G, n⟩ := z
  obtain ⟨U, n'⟩ := z'
  obtain ⟨zn, z5, zg, zt, z22⟩ := h
  dsimp only at zn z5 zg zt z22
  subst zn
  have hx : k / 4 < 4 := by omega
  have hy : k % 4 < 4 := by omega
  have hk4 : 4 * (k / 4) + k % 4 = k := by omega
  have hxy := hl_dd_ti hbd hq hx hy
  have hyx := hl_dd_ti hbd hq hy hx
  unfold b_X1_pay16 b_X1_payIn b_X6_settle
  dsimp only
  -- both move the same sum
  have eo : r_X6_owed U (nI (k / 4)) (nI (k % 4)) = (if hl_dd t (k / 4) (k % 4) ≤ 0 then 0 else hl_dd t (k / 4) (k % 4)) := by
    rw [hl_owed_d U hx hy, zt 9 (by decide)]; rfl
  have eb : r_X1_between G (nI (k / 4)) (nI (k % 4)) = (if hl_dd t (k / 4) (k % 4) ≤ 0 then 0 else hl_dd t (k / 4) (k % 4)) := by
    rw [hl_between_d G hx hy, z22 _ _ hx hy]
    unfold hl_sd
    by_cases hd : hl_dd t (k / 4) (k % 4) ≤ 0
    · rw [if_pos hd]
      split
      · split <;> rfl
      · rfl
    · rw [if_neg hd]
      have hq2 : ¬ ((4 * (k / 4) + k % 4 < k ∧ ¬ hl_dd t (k / 4) (k % 4) ≤ 0) ∨ (4 * (k % 4) + k / 4 < k ∧ ¬ hl_dd t (k % 4) (k / 4) ≤ 0)) := by
        rintro (⟨a, _⟩ | ⟨_, a⟩)
        · omega
        · apply a
          rw [Int32.le_iff_toInt_le, show (0 : Int32).toInt = 0 by decide]
          have hd2 : ¬ (hl_dd t (k / 4) (k % 4)).toInt ≤ 0 := fun y => hd (by rw [Int32.le_iff_toInt_le, show (0 : Int32).toInt = 0 by decide]; exact y)
          omega
      rw [if_neg hq2, if_neg hd]
  rw [eb, eo]
  generalize es : (if hl_dd t (k / 4) (k % 4) ≤ 0 then 0 else hl_dd t (k / 4) (k % 4)) = s at *
  have nx : (nI (k / 4)).toNatClampNeg = k / 4 := nI_clamp (by omega)
  have ny : (nI (k % 4)).toNatClampNeg = k % 4 := nI_clamp (by omega)
  unfold f_X1_pay
  dsimp only
  rw [eb]
  refine ⟨rfl, ?_, ?_, ?_, ?_⟩
  · dsimp only
    rw [fr_X1_owe _ _ _ _ (by decide)]
    show upd (upd (G 21) (nI (k / 4)).toNatClampNeg (G 21 (nI (k / 4)).toNatClampNeg - s)) (nI (k % 4)).toNatClampNeg (upd (G 21) (nI (k / 4)).toNatClampNeg (G 21 (nI (k / 4)).toNatClampNeg - s) (nI (k % 4)).toNatClampNeg + s) = upd (upd (U 5) (k / 4) (U 5 (k / 4) - s)) (k % 4) (upd (U 5) (k / 4) (U 5 (k / 4) - s) (k % 4) + s)
    rw [nx, ny, z5]
  · intro p p1 p2
    dsimp only
    rw [fr_X1_owe _ _ _ _ p2, hl_su_ne _ _ p1, hl_su_ne _ _ p1]
    exact zg p p1 p2
  · intro p p5
    show hl_su (hl_su U 5 _) 5 _ p = t p
    rw [hl_su_ne _ _ p5, hl_su_ne _ _ p5]
    exact zt p p5
  · intro i j hi4 hj4
    dsimp only
    rw [hl_owe22, hl_c4 hy hx, hl_c4 hx hy]
    show hl_ow (G 22) (4 * (k % 4) + k / 4) (4 * (k / 4) + k % 4) s (4 * i + j) = _
    have y1 := z22 i j hi4 hj4
    have y2 := z22 _ _ hx hy
    have y3 := z22 _ _ hy hx
    have hij := hl_dd_ti hbd hq hi4 hj4
    have hji := hl_dd_ti hbd hq hj4 hi4
    by_cases hd : hl_dd t (k / 4) (k % 4) ≤ 0
    · -- nothing moves
      rw [if_pos hd] at es
      rw [← es, hl_ow0, y1]
      unfold hl_sd
      have q1 : (4 * i + j < k + 1 ∧ ¬ hl_dd t i j ≤ 0) ↔ (4 * i + j < k ∧ ¬ hl_dd t i j ≤ 0) := by
        constructor
        · rintro ⟨a, a2⟩
          refine ⟨?_, a2⟩
          rcases Nat.lt_or_ge (4 * i + j) k with z | z
          · exact z
          · exfalso; apply a2
            rw [show i = k / 4 by omega, show j = k % 4 by omega]; exact hd
        · rintro ⟨a, a2⟩; exact ⟨by omega, a2⟩
      have q2 : (4 * j + i < k + 1 ∧ ¬ hl_dd t j i ≤ 0) ↔ (4 * j + i < k ∧ ¬ hl_dd t j i ≤ 0) := by
        constructor
        · rintro ⟨a, a2⟩
          refine ⟨?_, a2⟩
          rcases Nat.lt_or_ge (4 * j + i) k with z | z
          · exact z
          · exfalso; apply a2
            rw [show j = k / 4 by omega, show i = k % 4 by omega]; exact hd
        · rintro ⟨a, a2⟩; exact ⟨by omega, a2⟩
      simp only [q1, q2]
    · -- the sum between the two is paid
      rw [if_neg hd] at es
      have hd2 : ¬ (hl_dd t (k / 4) (k % 4)).toInt ≤ 0 := fun y => hd (by rw [Int32.le_iff_toInt_le, show (0 : Int32).toInt = 0 by decide]; exact y)
      have hne : k / 4 ≠ k % 4 := by
        intro z
        rw [← z] at hxy hd2
        omega
      have hd3 : hl_dd t (k % 4) (k / 4) ≤ 0 := by
        rw [Int32.le_iff_toInt_le, show (0 : Int32).toInt = 0 by decide]
        omega
      have hneg : hl_dd t (k % 4) (k / 4) = - hl_dd t (k / 4) (k % 4) := hl_neg_sub _ _
      have hs2 : hl_sd t k (k / 4) (k % 4) = hl_dd t (k / 4) (k % 4) := by
        unfold hl_sd
        rw [if_neg]
        rintro (⟨a, _⟩ | ⟨_, a⟩)
        · omega
        · exact a hd3
      have hs3 : hl_sd t k (k % 4) (k / 4) = hl_dd t (k % 4) (k / 4) := by
        unfold hl_sd
        rw [if_neg]
        rintro (⟨_, a⟩ | ⟨a, _⟩)
        · exact a hd3
        · omega
      rw [hs2] at y2
      rw [hs3] at y3
      unfold hl_ow
      have e1 : 4 * i + j = 4 * (k / 4) + k % 4 ↔ i = k / 4 ∧ j = k % 4 := by omega
      have e2 : 4 * i + j = 4 * (k % 4) + k / 4 ↔ i = k % 4 ∧ j = k / 4 := by omega
      have hnn : 4 * (k / 4) + k % 4 ≠ 4 * (k % 4) + k / 4 := by omega
      rw [hl_upd_ne _ _ hnn]
      by_cases a1 : i = k / 4 ∧ j = k % 4
      · rw [a1.1, a1.2, hl_upd_at, y2, ← es, Int32.sub_self]
        unfold hl_sd
        rw [if_pos (Or.inl ⟨by omega, hd⟩)]
      · rw [hl_upd_ne _ _ (fun z => a1 (e1.mp z))]
        by_cases a2 : i = k % 4 ∧ j = k / 4
        · rw [a2.1, a2.2, hl_upd_at, y3, hneg, ← es, Int32.add_comm, ← Int32.sub_eq_add_neg, Int32.sub_self]
          unfold hl_sd
          rw [if_pos (Or.inr ⟨by omega, hd⟩)]
        · rw [hl_upd_ne _ _ (fun z => a2 (e2.mp z)), y1]
          unfold hl_sd
          have q1 : 4 * i + j < k + 1 ↔ 4 * i + j < k := by omega
          have q2 : 4 * j + i < k + 1 ↔ 4 * j + i < k := by omega
          simp only [q1, q2]
def hl_w16 (f : Nat → Int32) : Nat → Int32 := hl_it (fun k f => upd f k 0) 0 16 f
theorem hl_wipe (t : Nat → Nat → Int32) : (hl_it b_X6_wipe 0 16 t) 9 = hl_w16 (t 9) ∧ ∀ p, p ≠ 9 → (hl_it b_X6_wipe 0 16 t) p = t p :=
  hl_it_inv2 (fun _ (z : Nat → Nat → Int32) f => z 9 = f ∧ ∀ p, p ≠ 9 → z p = t p) b_X6_wipe (fun k f => upd f k 0) 16 t (t 9) ⟨rfl, fun _ _ => rfl⟩
    (fun k z f _ h => ⟨by show upd (z 9) k 0 = upd f k 0; rw [h.1], fun p hp => by show hl_su z 9 _ p = t p; rw [hl_su_ne _ _ hp]; exact h.2 p hp⟩)
theorem hl_w16_0 (f : Nat → Int32) {j : Nat} (hj : j < 16) : hl_w16 f j = 0 :=
  hl_it_inv (fun n (f : Nat → Int32) => ∀ j, j < n → f j = 0) (fun k f => upd f k 0) 16 f (fun j h => absurd h (Nat.not_lt_zero j))
    (fun k x _ hx j hj => by
      show upd x k 0 j = 0
      unfold upd
      split
      · rfl
      · exact hx j (by omega)) j hj
theorem hl_R_settle {c N M T : Nat} {g t : Nat → Nat → Int32} (hc : c < 512) (h : hl_R c N M T g t) :
    (hl_it b_X1_payAll 0 4 (g, 0)).2 = r_X6_settle t ∧ hl_R (c + 1) N M T (hl_it b_X1_payAll 0 4 (g, 0)).1 (f_X6_settle t) := by
  obtain ⟨⟨o1, o2, o3, o4, o5, o6, o7⟩, ⟨t1, t2⟩, ⟨e0, e1, e2, e3, e4, e8, e9, e10, e11, e12, e13, e14, e15, e16, e17, e18, e19, e20, e21, e23⟩, b, w, ⟨m1, m2⟩, ct, ⟨n0, n1, n2, n3, n4, n5, n6, n7⟩⟩ := hl_R_up hc h
  rw [hl_pay_flat]
  unfold r_X6_settle f_X6_settle
  have key : hl_SI g t 16 (hl_it b_X1_pay16 0 16 (g, 0)) (hl_it b_X6_settle 0 16 (t, 0)) := by
    refine hl_it_inv2 (hl_SI g t) b_X1_pay16 b_X6_settle 16 (g, 0) (t, 0) ⟨rfl, e21, fun _ _ _ => rfl, fun _ _ => rfl, fun i j hi hj => ?_⟩ (fun k z z' hk hz => hl_settle_step n5 (by omega) hk hz)
    show g 22 (4 * i + j) = _
    unfold hl_sd
    rw [if_neg (by omega)]
    exact b i j hi hj
  generalize hl_it b_X1_pay16 0 16 (g, 0) = z at *
  generalize hl_it b_X6_settle 0 16 (t, 0) = z' at *
  obtain ⟨k1, k2, k3, k4, k5⟩ := key
  refine ⟨k1, ?_⟩
  obtain ⟨d1, d2⟩ := hl_wipe z'.1
  generalize hl_it b_X6_wipe 0 16 z'.1 = V at *
  have gg := fun p (h : p ≠ 21 ∧ p ≠ 22) => k3 p h.1 h.2
  have vv : ∀ p, (p ≠ 9 ∧ p ≠ 5) → V p = t p := fun p h => (d2 p h.1).trans (k4 p h.2)
  have ge : ∀ p q, (p ≠ 21 ∧ p ≠ 22) → (q ≠ 9 ∧ q ≠ 5) → g p = t q → z.1 p = V q := fun p q h1 h2 e => (gg p h1).trans (e.trans (vv q h2).symm)
  refine ⟨⟨o1, by rw [gg 16 (by decide)]; exact o2, o3, by rw [gg 20 (by decide)]; exact o4, by rw [gg 11 (by decide), gg 12 (by decide)]; exact o5, by rw [gg 18 (by decide)]; exact o6, by rw [gg 8 (by decide)]; exact o7⟩,
    ⟨t1, by rw [gg 23 (by decide)]; exact t2⟩,
    ⟨ge 0 0 (by decide) (by decide) e0, ge 1 1 (by decide) (by decide) e1, ge 2 2 (by decide) (by decide) e2, ge 3 3 (by decide) (by decide) e3, ge 4 4 (by decide) (by decide) e4, ge 8 6 (by decide) (by decide) e8, ge 9 7 (by decide) (by decide) e9, ge 10 12 (by decide) (by decide) e10, ge 11 13 (by decide) (by decide) e11, ge 12 14 (by decide) (by decide) e12, ge 13 15 (by decide) (by decide) e13, ge 14 16 (by decide) (by decide) e14, ge 15 17 (by decide) (by decide) e15, ge 16 18 (by decide) (by decide) e16, ge 17 19 (by decide) (by decide) e17, ge 18 20 (by decide) (by decide) e18, ge 19 21 (by decide) (by decide) e19, ge 20 22 (by decide) (by decide) e20, k2.trans (d2 5 (by decide)).symm, ge 23 8 (by decide) (by decide) e23⟩,
    ?_, by rw [gg 5 (by decide), gg 6 (by decide), gg 7 (by decide), vv 10 (by decide)]; exact w, ?_, by rw [gg 14 (by decide)]; exact ct,
    ⟨n0, by rw [gg 0 (by decide)]; exact n1, by rw [gg 1 (by decide)]; exact n2, by rw [gg 2 (by decide)]; exact n3, by rw [gg 9 (by decide)]; exact n4, ?_, by rw [gg 19 (by decide)]; exact n6, by rw [gg 13 (by decide)]; exact n7⟩⟩
  · intro i j hi hj
    rw [k5 i j hi hj, d1, hl_w16_0 _ (by omega), hl_w16_0 _ (by omega)]
    unfold hl_sd
    have x1 := hl_dd_ti n5 (by omega) hi hj
    have x2 := hl_dd_ti n5 (by omega) hj hi
    by_cases hq : hl_dd t i j ≤ 0
    · by_cases hq2 : hl_dd t j i ≤ 0
      · have z1 := Int32.le_iff_toInt_le.mp hq
        have z2 := Int32.le_iff_toInt_le.mp hq2
        rw [show (0 : Int32).toInt = 0 by decide] at z1 z2
        have z0 : hl_dd t i j = 0 := by
          apply Int32.toInt_inj.mp
          rw [show (0 : Int32).toInt = 0 by decide]
          omega
        rw [z0]
        split <;> rfl
      · rw [if_pos (Or.inr ⟨by omega, hq2⟩)]; rfl
    · rw [if_pos (Or.inl ⟨by omega, hq⟩)]; rfl
  · rw [vv 11 (by decide)]
    refine ⟨fun s i hs hi => ?_, m2⟩
    rw [hl_miss_congr (gg 11 (by decide)) (gg 13 (by decide)) (gg 14 (by decide))]
    exact m1 s i hs hi
  · intro j hj
    rw [d1, hl_w16_0 _ hj, show (0 : Int32).toInt = 0 by decide]
    omega
