/-! p23: what the law asks behind each step; small numbers -/
theorem hp_subn {a b : Nat} (h : b ≤ a) : nI a - nI b = nI (a - b) := by
  have e : nI a = nI (a - b) + nI b := by rw [nI_add, show a - b + b = a by omega]
  rw [e]
  grind
theorem hp_anti {c N M T : Nat} {g t : Nat → Nat → Int32} (hc : c ≤ 512) (h : hl_R c N M T g t) {i j : Nat} (hi : i < 4) (hj : j < 4) : (g 22 (4 * i + j)).toInt = -(g 22 (4 * j + i)).toInt := by
  have hB : hl_RB (g 22) (t 9) := h.2.2.2.1
  have hb : hl_bd (t 9) 16 0 (1000 * c) := h.2.2.2.2.2.2.2.2.2.2.2.2.1
  have q1 := hb (4 * i + j) (by omega)
  have q2 := hb (4 * j + i) (by omega)
  rw [hB i j hi hj, hB j i hj hi, hl_ti_sub (by omega) (by omega), hl_ti_sub (by omega) (by omega)]
  omega
section HPL
variable {cn : Nat} {lin : Int32} {N M T P : Nat} {t g r : Nat → Nat → Int32}
theorem hp_owes {i j : Nat} (hJ : hp_J cn lin N M T P t g r) (hi : i < 4) (hj : j < 4) (h : ¬ r_X1_between g (nI i) (nI j) = 0) : r_X1_between g (nI j) (nI i) = 0 := by
  have q := hp_anti hJ.2.1.2.2.2.2.2.2.2.1 hJ.2.1 hi hj
  have e0 : (0 : Int32).toInt = 0 := by decide
  rw [hl_between_d g hi hj] at h
  rw [hl_between_d g hj hi]
  have h2 : ¬ g 22 (4 * i + j) ≤ 0 := fun z => h (by rw [if_pos z])
  rw [if_pos]
  rw [Int32.le_iff_toInt_le, e0] at h2 ⊢
  omega
theorem hp_slN (g : Nat → Nat → Int32) (x y z : Int32) (N : Nat) : ∃ S : Nat, S ≤ N ∧ hl_it (b_X0_sleepersAt g x y z) 0 N 0 = nI S :=
  hl_it_inv (fun n (u : Int32) => ∃ S : Nat, S ≤ n ∧ u = nI S) (b_X0_sleepersAt g x y z) N 0 ⟨0, by omega, rfl⟩ (fun n u hn hu => by
    obtain ⟨m, h1, h2⟩ := hu
    unfold b_X0_sleepersAt
    split
    · exact ⟨m + 1, by omega, by rw [h2, nI_1]⟩
    · exact ⟨m, by omega, h2⟩)
theorem hp_k1 {k : Nat} (hJ : hp_J cn lin N M T P t g r) (hk : k < 8) : ∃ S C : Nat, S ≤ 60 ∧ C ≤ 10 ∧ g 2 (nI (k / 2) * 2 + nI (k % 2)).toNatClampNeg = nI S ∧ hl_it (b_X0_sleepersAt g (nI (k / 2)) (nI (k % 2)) (g 23 0)) 0 N 0 = nI S ∧ r_X4_freeOf g (nI (k / 2)) (nI (k % 2)) = nI (C - S) ∧ r 0 k = nI C := by
  obtain ⟨j0, jR, jN, jT, jB, jS, jrm, jl, jp, jP, j60⟩ := hJ
  have h23 : g 23 0 = nI T := jR.2.1.2
  have hix : (nI (k / 2) * 2 + nI (k % 2)).toNatClampNeg = k := by
    rw [hp_ix (by omega) (by omega)]
    omega
  obtain ⟨S, hS, eS⟩ := hp_slN g (nI (k / 2)) (nI (k % 2)) (nI T) N
  have e2 : g 2 k = nI S := by
    have q := jS (k / 2) (k % 2) (by omega) (by omega)
    rw [show k / 2 * 2 + k % 2 = k by omega, eS] at q
    exact q
  have hbd : hl_bd (g 0) 8 0 10 := jR.2.2.2.2.2.2.2.2.1
  obtain ⟨C, hC, eC⟩ := hp_nat (b := 10) (hbd k hk)
  refine ⟨S, C, by omega, hC, by rw [hix, e2], by rw [h23, eS], ?_, by rw [jrm k hk, eC]⟩
  unfold r_X4_freeOf
  rw [hix, e2, eC]
  have e0 : (0 : Int32).toInt = 0 := by decide
  have eC2 : (nI C).toInt = C := nI_toInt (by omega)
  have eS2 : (nI S).toInt = S := nI_toInt (by omega)
  have ed : (nI C - nI S).toInt = C - S := by rw [hl_ti_sub (by omega) (by omega), eC2, eS2]
  by_cases h : S < C
  · rw [if_pos (Int32.lt_iff_toInt_lt.mpr (by rw [e0, ed]; omega)), hp_subn (by omega)]
  · rw [if_neg (fun z => by have z2 := Int32.lt_iff_toInt_lt.mp z; rw [e0, ed] at z2; omega), show C - S = 0 by omega]
    rfl
end HPL
