/-! Numbers for the reference's places -/
theorem hl_4i (T i : Nat) : 4 * nI T + nI i = nI (4 * T + i) := by
  show nI 4 * nI T + nI i = _
  rw [pk_mul, nI_add]
theorem hl_4x {x : Int32} (h : vp_in x 4) (T : Nat) : 4 * nI T + x = nI (4 * T + x.toNatClampNeg) := by
  obtain ⟨j, hj, rfl⟩ := vp_in_of h (by decide)
  rw [nI_clamp (by omega)]
  exact hl_4i T j
theorem hl_4k {x : Int32} (h : vp_in x 4) {T i : Nat} (hT : T ≤ 300) (hi : i ≤ 4) (h4 : 4 ≤ T + i) : 4 * (nI T - 4 + nI i) + x = nI (4 * (T + i - 4) + x.toNatClampNeg) := by
  rw [hl_k4eq hT hi h4]
  exact hl_4x h _
theorem hl_k4ge {T i : Nat} (hT : T ≤ 300) (hi : i ≤ 4) : nI T ≤ nI T - 4 + nI i ↔ 4 ≤ i := by
  rw [Int32.le_iff_toInt_le, hl_k4 hT hi, nI_toInt (by omega)]
  omega
theorem hl_k4pos {T i : Nat} (hT : T ≤ 300) (hi : i ≤ 4) : 0 ≤ nI T - 4 + nI i ↔ 4 ≤ T + i := by
  rw [Int32.le_iff_toInt_le, hl_k4 hT hi, show (0 : Int32).toInt = 0 by decide]
  omega
theorem hl_inc4 (y : Int32) (i : Nat) : y + nI i + Int32.ofInt 1 = y + nI (i + 1) := by
  rw [Int32.add_assoc]
  exact congrArg (y + ·) (hl_inc i)
theorem hl_div4 {k : Nat} (h : k < 100) : nI k / 4 = nI (k / 4) := pk_div (by omega) (by decide) (by decide)
theorem hl_rem4 {k : Nat} (h : k < 100) : nI k - nI k / 4 * 4 = nI (k % 4) := pk_rem (by omega) (by decide) (by decide)
theorem hl_ite0 {P : Prop} [Decidable P] : ((if P then (0 : Int32) else 1) = 0) ↔ P := by
  by_cases h : P
  · rw [if_pos h]; exact ⟨fun _ => h, fun _ => rfl⟩
  · rw [if_neg h]; exact ⟨fun z => absurd z (by decide), fun z => absurd z h⟩
