/-! p23: debts are settled -/
theorem hp_pur_sub {h : Nat} (hh : h < 4) (f : Nat → Int32) (q : Int32) : hp_pur (upd f h (f h - q)) = hp_pur f - q := by
  have e := hp_purs hh f (-q)
  rw [show f h + -q = f h - q by grind] at e
  rw [e]
  grind
def hp_si (g : Nat → Nat → Int32) (k : Nat) (z : (Nat → Nat → Int32) × Int32) : Prop :=
  (∀ p, p ≠ 21 → p ≠ 22 → z.1 p = g p) ∧ hp_pur (z.1 21) = hp_pur (g 21) ∧ (∀ i j, i < 4 → j < 4 → (z.1 22 (4 * i + j)).toInt = -(z.1 22 (4 * j + i)).toInt) ∧ (∀ m, m < 16 → (z.1 22 m).toInt ≤ 600000) ∧ (∀ m, m < k → m < 16 → (z.1 22 m).toInt ≤ 0) ∧ 0 ≤ z.2.toInt ∧ z.2.toInt ≤ 600000 * k
theorem hp_pay21 {g : Nat → Nat → Int32} {i j : Nat} (hi : i < 4) (hj : j < 4) : hp_pur (f_X1_pay g (nI i) (nI j) 21) = hp_pur (g 21) := by
  show hp_pur (upd (upd (g 21) (nI i).toNatClampNeg (g 21 (nI i).toNatClampNeg - r_X1_between g (nI i) (nI j))) (nI j).toNatClampNeg (upd (g 21) (nI i).toNatClampNeg (g 21 (nI i).toNatClampNeg - r_X1_between g (nI i) (nI j)) (nI j).toNatClampNeg + r_X1_between g (nI i) (nI j))) = _
  rw [nI_clamp (by omega), nI_clamp (by omega), hp_purs hj, hp_pur_sub hi]
  grind
theorem hp_pay22 {g : Nat → Nat → Int32} {i j : Nat} (hi : i < 4) (hj : j < 4) : f_X1_pay g (nI i) (nI j) 22 = hl_ow (g 22) (4 * j + i) (4 * i + j) (r_X1_between g (nI i) (nI j)) := by
  show hl_ow (g 22) (nI j * 4 + nI i).toNatClampNeg (nI i * 4 + nI j).toNatClampNeg (r_X1_between g (nI i) (nI j)) = _
  rw [hl_c4 hj hi, hl_c4 hi hj]
theorem hp_pay_ne (g : Nat → Nat → Int32) (x y : Int32) {p : Nat} (h1 : p ≠ 21) (h2 : p ≠ 22) : f_X1_pay g x y p = g p := by
  unfold f_X1_pay
  rw [fr_X1_owe _ _ _ _ h2, hl_su_ne _ _ h1, hl_su_ne _ _ h1]
theorem hp_si_step {g : Nat → Nat → Int32} {k : Nat} {z : (Nat → Nat → Int32) × Int32} (hk : k < 16) (h : hp_si g k z) : hp_si g (k + 1) (b_X1_pay16 k z) := by
  obtain ⟨G, n⟩ := z
  obtain ⟨zp, zs, za, zb, zn, z0, zt⟩ := h
  dsimp only at zp zs za zb zn z0 zt
  have hi : k / 4 < 4 := by omega
  have hj : k % 4 < 4 := by omega
  have hkk : 4 * (k / 4) + k % 4 = k := by omega
  show hp_si g (k + 1) (f_X1_pay G (nI (k / 4)) (nI (k % 4)), n + r_X1_between G (nI (k / 4)) (nI (k % 4)))
  have hbtw := hl_between_d G hi hj
  have h21 := hp_pay21 (g := G) hi hj
  have h22 := hp_pay22 (g := G) hi hj
  have hne : ∀ p, p ≠ 21 → p ≠ 22 → f_X1_pay G (nI (k / 4)) (nI (k % 4)) p = G p := fun p hp hp2 => hp_pay_ne _ _ _ hp hp2
  generalize f_X1_pay G (nI (k / 4)) (nI (k % 4)) = G' at *
  generalize r_X1_between G (nI (k / 4)) (nI (k % 4)) = d at *
  have hA := za (k / 4) (k % 4) hi hj
  rw [hkk] at hbtw h22 hA
  have hB := zb k hk
  have e0 : (0 : Int32).toInt = 0 := by decide
  by_cases hd : G 22 k ≤ 0
  · rw [if_pos hd] at hbtw
    subst hbtw
    rw [hl_ow0] at h22
    have hd2 := Int32.le_iff_toInt_le.mp hd
    rw [e0] at hd2
    refine ⟨fun p hp hp2 => (hne p hp hp2).trans (zp p hp hp2), h21.trans zs, ?_, ?_, ?_, ?_, ?_⟩
    · show ∀ i j, i < 4 → j < 4 → (G' 22 (4 * i + j)).toInt = -(G' 22 (4 * j + i)).toInt
      rw [h22]; exact za
    · show ∀ m, m < 16 → (G' 22 m).toInt ≤ 600000
      rw [h22]; exact zb
    · show ∀ m, m < k + 1 → m < 16 → (G' 22 m).toInt ≤ 0
      rw [h22]
      intro m hm hm2
      by_cases hmk : m = k
      · rw [hmk]; exact hd2
      · exact zn m (by omega) hm2
    · show 0 ≤ (n + 0).toInt
      rw [Int32.add_zero]; exact z0
    · show (n + 0).toInt ≤ _
      rw [Int32.add_zero]; omega
  · rw [if_neg hd] at hbtw
    subst hbtw
    have hd2 : 0 < (G 22 k).toInt := by
      refine Int.not_le.mp (fun z => hd (Int32.le_iff_toInt_le.mpr ?_))
      rw [e0]; exact z
    have hij : ¬ 4 * (k % 4) + k / 4 = k := fun z => by
      rw [z] at hA
      omega
    have hs : (G 22 (4 * (k % 4) + k / 4) + G 22 k).toInt = 0 := by
      rw [hl_ti_add (by omega) (by omega)]
      omega
    have hs2 : G 22 k - G 22 k = 0 := by grind
    have hnew : ∀ m, (G' 22 m).toInt = if m = k ∨ m = 4 * (k % 4) + k / 4 then 0 else (G 22 m).toInt := by
      intro m
      rw [h22]
      unfold hl_ow
      by_cases hm : m = k
      · rw [if_pos (Or.inl hm), hm, hl_upd_at, hl_upd_ne _ _ (fun z => hij z.symm), hs2, e0]
      · rw [hl_upd_ne _ _ hm]
        by_cases hm2 : m = 4 * (k % 4) + k / 4
        · rw [if_pos (Or.inr hm2), hm2, hl_upd_at, hs]
        · rw [if_neg (fun z => z.elim hm hm2), hl_upd_ne _ _ hm2]
    refine ⟨fun p hp hp2 => (hne p hp hp2).trans (zp p hp hp2), h21.trans zs, fun i j hi4 hj4 => ?_, fun m hm => ?_, fun m hm hm2 => ?_, ?_, ?_⟩
    · show (G' 22 (4 * i + j)).toInt = -(G' 22 (4 * j + i)).toInt
      rw [hnew, hnew]
      have q := za i j hi4 hj4
      by_cases hq : 4 * i + j = k ∨ 4 * i + j = 4 * (k % 4) + k / 4
      · rw [if_pos hq, if_pos (by omega)]
        rfl
      · rw [if_neg hq, if_neg (by omega)]
        exact q
    · show (G' 22 m).toInt ≤ 600000
      rw [hnew]
      have q := zb m hm
      split <;> omega
    · show (G' 22 m).toInt ≤ 0
      rw [hnew]
      split
      · omega
      · next hq => exact zn m (by omega) hm2
    · show 0 ≤ (n + G 22 k).toInt
      rw [hl_ti_add (by omega) (by omega)]
      omega
    · show (n + G 22 k).toInt ≤ _
      rw [hl_ti_add (by omega) (by omega)]
      omega
theorem hp_si_all {c N M T : Nat} {g t : Nat → Nat → Int32} (hc : c ≤ 512) (h : hl_R c N M T g t) : hp_si g 16 (hl_it b_X1_payAll 0 4 (g, 0)) := by
  rw [hl_pay_flat]
  have hB : hl_RB (g 22) (t 9) := h.2.2.2.1
  have hb : hl_bd (t 9) 16 0 (1000 * c) := h.2.2.2.2.2.2.2.2.2.2.2.2.1
  have hd : ∀ i j, i < 4 → j < 4 → (g 22 (4 * i + j)).toInt = (t 9 (4 * i + j)).toInt - (t 9 (4 * j + i)).toInt := fun i j hi hj => by
    have q1 := hb (4 * i + j) (by omega)
    have q2 := hb (4 * j + i) (by omega)
    rw [hB i j hi hj, hl_ti_sub (by omega) (by omega)]
  refine hl_it_inv (hp_si g) b_X1_pay16 16 (g, 0) ⟨fun _ _ _ => rfl, rfl, fun i j hi hj => ?_, fun m hm => ?_, fun m hm => absurd hm (Nat.not_lt_zero m), by show 0 ≤ (0 : Int32).toInt; decide, by show (0 : Int32).toInt ≤ _; rw [show (0 : Int32).toInt = 0 by decide]; omega⟩ (fun k z hk hz => hp_si_step hk hz)
  · show (g 22 (4 * i + j)).toInt = -(g 22 (4 * j + i)).toInt
    rw [hd i j hi hj, hd j i hj hi]
    omega
  · show (g 22 m).toInt ≤ 600000
    have e := hd (m / 4) (m % 4) (by omega) (by omega)
    rw [show 4 * (m / 4) + m % 4 = m by omega] at e
    have q1 := hb m hm
    have q2 := hb (4 * (m % 4) + m / 4) (by omega)
    omega
theorem hp_settle_nn {c N M T : Nat} {g t : Nat → Nat → Int32} (h : hl_R c N M T g t) : ¬ (hl_it b_X1_payAll 0 4 (g, 0)).2 < 0 := fun z => by
  have q := (hp_si_all h.2.2.2.2.2.2.2.1 h).2.2.2.2.2.1
  have z2 := Int32.lt_iff_toInt_lt.mp z
  rw [show (0 : Int32).toInt = 0 by decide] at z2
  omega
theorem hp_settle_sum {c N M T : Nat} {g t : Nat → Nat → Int32} (h : hl_R c N M T g t) : r_L_sum (hl_it b_X1_payAll 0 4 (g, 0)).1 0 = r_L_sum g 0 := by
  rw [hp_sum0, hp_sum0]
  exact (hp_si_all h.2.2.2.2.2.2.2.1 h).2.1
theorem hp_settle_00 (g : Nat → Nat → Int32) (h : ∀ m, m < 16 → (g 22 m).toInt ≤ 0) : (hl_it b_X1_payAll 0 4 (g, 0)).2 = 0 := by
  rw [hl_pay_flat]
  refine (hl_it_inv (fun _ (z : (Nat → Nat → Int32) × Int32) => z.1 22 = g 22 ∧ z.2 = 0) b_X1_pay16 16 (g, 0) ⟨rfl, rfl⟩ (fun k z hk hz => ?_)).2
  obtain ⟨z1, z2⟩ := hz
  have hi : k / 4 < 4 := by omega
  have hj : k % 4 < 4 := by omega
  have hkk : 4 * (k / 4) + k % 4 = k := by omega
  have hb := hl_between_d z.1 hi hj
  rw [hkk, z1, if_pos (Int32.le_iff_toInt_le.mpr (by rw [show (0 : Int32).toInt = 0 by decide]; exact h k hk))] at hb
  refine ⟨?_, ?_⟩
  · show f_X1_pay z.1 (nI (k / 4)) (nI (k % 4)) 22 = g 22
    rw [hp_pay22 hi hj, hb, hl_ow0, z1]
  · show z.2 + r_X1_between z.1 (nI (k / 4)) (nI (k % 4)) = 0
    rw [hb, z2]
    rfl
theorem hp_settle_0 {c N M T : Nat} {g t : Nat → Nat → Int32} (h : hl_R c N M T g t) : (hl_it b_X1_payAll 0 4 ((hl_it b_X1_payAll 0 4 (g, 0)).1, 0)).2 = 0 :=
  hp_settle_00 _ (fun m hm => (hp_si_all h.2.2.2.2.2.2.2.1 h).2.2.2.2.1 m hm hm)
section HPT
variable {cn : Nat} {lin : Int32} {N M T P : Nat} {t g r : Nat → Nat → Int32}
theorem hp_settle (hc : cn < 100) (hJ : hp_J cn lin N M T P t g r) : hp_I (cn + 1) lin (hl_it b_X1_payAll 0 4 ((hl_it b_X1_payAll 0 4 (g, 0)).1, 0)).1 r := by
  obtain ⟨j0, jR, jN, jT, jB, jS, jrm, jl, jp, jP, j60⟩ := hJ
  have hR1 := (hl_R_settle (by omega) jR).2
  have hR2 := (hl_R_settle (by omega) hR1).2
  obtain ⟨s1, s2, -⟩ := hp_si_all (by omega) jR
  obtain ⟨u1, u2, -⟩ := hp_si_all (by omega) hR1
  generalize (hl_it b_X1_payAll 0 4 (g, 0)).1 = g1 at *
  generalize (hl_it b_X1_payAll 0 4 (g1, 0)).1 = G at *
  have e : ∀ p, p ≠ 21 → p ≠ 22 → G p = g p := fun p hp hp2 => (u1 p hp hp2).trans (s1 p hp hp2)
  exact ⟨N, M, T, P, _, by omega, hp_up2 hR2, by omega, by omega, hp_keepB (e 10 (by decide) (by decide)) (e 11 (by decide) (by decide)) (e 12 (by decide) (by decide)) (e 13 (by decide) (by decide)) (e 14 (by decide) (by decide)) (e 15 (by decide) (by decide)) jB,
    hp_keepS (e 2 (by decide) (by decide)) (e 12 (by decide) (by decide)) (e 13 (by decide) (by decide)) (e 15 (by decide) (by decide)) jS, by rw [e 0 (by decide) (by decide)]; exact jrm,
    by rw [hp_keepL (e 3 (by decide) (by decide)) (e 4 (by decide) (by decide)) (e 5 (by decide) (by decide)) (e 6 (by decide) (by decide)) (e 7 (by decide) (by decide))]; exact jl, by rw [u2, s2]; exact jp, by omega, j60⟩
end HPT
