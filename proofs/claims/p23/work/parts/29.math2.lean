/-! Who has the most linen; where a guest sleeps: the class and the reference find the same -/
theorem hl_i32_le_trans {a b c : Int32} (h : a ≤ b) (h2 : b ≤ c) : a ≤ c := by
  simp only [Int32.le_iff_toInt_le] at *; omega
theorem hl_i32_nle {a b : Int32} (h : ¬ a ≤ b) : b ≤ a := by
  simp only [Int32.le_iff_toInt_le] at *; omega
theorem hl_i32_refl (a : Int32) : a ≤ a := by simp only [Int32.le_iff_toInt_le]; omega
theorem hl_giver_spec (g : Nat → Nat → Int32) : ((hl_it (b_X2_giverFor g) 0 4 (-1, 0)).1 = -1 ∧ ∀ k, k < 4 → g 3 k ≤ 0) ∨ ∃ j, j < 4 ∧ (hl_it (b_X2_giverFor g) 0 4 (-1, 0)).1 = nI j ∧ ¬ g 3 j ≤ 0 ∧ (∀ k, k < 4 → g 3 k ≤ g 3 j) ∧ ∀ k, k < j → ¬ g 3 j ≤ g 3 k := by
  have h := hl_it_inv (fun n (z : Int32 × Int32) => n ≤ 4 → ((z = (-1, 0) ∧ ∀ k, k < n → g 3 k ≤ 0) ∨ ∃ j, j < n ∧ z = (nI j, g 3 j) ∧ ¬ g 3 j ≤ 0 ∧ (∀ k, k < n → g 3 k ≤ g 3 j) ∧ ∀ k, k < j → ¬ g 3 j ≤ g 3 k)) (b_X2_giverFor g) 4 (-1, 0) (fun _ => Or.inl ⟨rfl, fun k h => absurd h (Nat.not_lt_zero k)⟩) (fun n z hn ih hn1 => by
    unfold b_X2_giverFor
    rcases ih (by omega) with ⟨rfl, h1⟩ | ⟨j, hj, rfl, h1, h2, h3⟩
    · by_cases hc : g 3 n ≤ 0
      · rw [if_pos hc]
        refine Or.inl ⟨rfl, fun k hk => ?_⟩
        rcases Nat.lt_or_ge k n with h | h
        · exact h1 k h
        · rw [show k = n by omega]; exact hc
      · rw [if_neg hc]
        refine Or.inr ⟨n, by omega, rfl, hc, fun k hk => ?_, fun k hk z => hc (hl_i32_le_trans z (h1 k hk))⟩
        rcases Nat.lt_or_ge k n with h | h
        · exact hl_i32_le_trans (h1 k h) (hl_i32_nle hc)
        · rw [show k = n by omega]; exact hl_i32_refl _
    · by_cases hc : g 3 n ≤ g 3 j
      · rw [if_pos hc]
        refine Or.inr ⟨j, by omega, rfl, h1, fun k hk => ?_, h3⟩
        rcases Nat.lt_or_ge k n with h | h
        · exact h2 k h
        · rw [show k = n by omega]; exact hc
      · rw [if_neg hc]
        refine Or.inr ⟨n, by omega, rfl, fun z => h1 (hl_i32_le_trans (hl_i32_nle hc) z), fun k hk => ?_, fun k hk z => hc (hl_i32_le_trans z (h2 k hk))⟩
        rcases Nat.lt_or_ge k n with h | h
        · exact hl_i32_le_trans (h2 k h) (hl_i32_nle hc)
        · rw [show k = n by omega]; exact hl_i32_refl _)
  rcases h (Nat.le_refl 4) with ⟨h1, h2⟩ | ⟨j, hj, h1, h2⟩
  · exact Or.inl ⟨by rw [h1], h2⟩
  · exact Or.inr ⟨j, hj, by rw [h1], h2⟩
theorem hl_rich_spec (t : Nat → Nat → Int32) : ∃ j, j < 4 ∧ r_X6_richest t = nI j ∧ (∀ k, k < 4 → t 3 k ≤ t 3 j) ∧ ∀ k, k < j → ¬ t 3 j ≤ t 3 k := by
  have h := hl_it_inv (fun n (u : Int32) => n ≤ 3 → ∃ j, j < n + 1 ∧ u = nI j ∧ (∀ k, k < n + 1 → t 3 k ≤ t 3 j) ∧ ∀ k, k < j → ¬ t 3 j ≤ t 3 k) (fun k => b_X6_richest t (k + 1)) 3 0 (fun _ => ⟨0, by omega, rfl, fun k hk => by rw [show k = 0 by omega]; exact hl_i32_refl _, fun k hk => absurd hk (Nat.not_lt_zero k)⟩) (fun n u hn ih hn1 => by
    obtain ⟨j, hj, rfl, h2, h3⟩ := ih (by omega)
    show ∃ j', j' < n + 1 + 1 ∧ b_X6_richest t (n + 1) (nI j) = nI j' ∧ _
    unfold b_X6_richest
    rw [nI_clamp (by omega)]
    by_cases hc : t 3 (n + 1) ≤ t 3 j
    · rw [if_pos hc]
      refine ⟨j, by omega, rfl, fun k hk => ?_, h3⟩
      rcases Nat.lt_or_ge k (n + 1) with h | h
      · exact h2 k h
      · rw [show k = n + 1 by omega]; exact hc
    · rw [if_neg hc]
      refine ⟨n + 1, by omega, rfl, fun k hk => ?_, fun k hk z => hc (hl_i32_le_trans z (h2 k hk))⟩
      rcases Nat.lt_or_ge k (n + 1) with h | h
      · exact hl_i32_le_trans (h2 k h) (hl_i32_nle hc)
      · rw [show k = n + 1 by omega]; exact hl_i32_refl _)
  exact h (Nat.le_refl 3)
theorem hl_giver_none {g : Nat → Nat → Int32} {x : Int32} (hx : vp_in x 4) : r_X2_giverFor g x = -1 ↔ ∀ k, k < 4 → g 3 k ≤ 0 := by
  obtain ⟨j, hj, rfl⟩ := vp_in_of hx (by decide)
  unfold r_X2_giverFor
  rw [nI_clamp (by omega)]
  by_cases hc : g 3 j ≤ 0
  · rw [if_pos hc]
    rcases hl_giver_spec g with ⟨h1, h2⟩ | ⟨i, hi, h1, h2, h3⟩
    · exact ⟨fun _ => h2, fun _ => h1⟩
    · rw [h1]
      exact ⟨fun z => absurd z (hl_nIm1 (by omega)), fun z => absurd (z i hi) h2⟩
  · rw [if_neg hc]
    exact ⟨fun z => absurd z (hl_nIm1 (by omega)), fun z => absurd (z j hj) hc⟩
theorem hl_rich_none (t : Nat → Nat → Int32) : t 3 (r_X6_richest t).toNatClampNeg ≤ 0 ↔ ∀ k, k < 4 → t 3 k ≤ 0 := by
  obtain ⟨j, hj, h1, h2, h3⟩ := hl_rich_spec t
  rw [h1, nI_clamp (by omega)]
  exact ⟨fun z k hk => hl_i32_le_trans (h2 k hk) z, fun z => z j hj⟩
theorem hl_giver_rich {g t : Nat → Nat → Int32} (e : g 3 = t 3) (h : ¬ ∀ k, k < 4 → g 3 k ≤ 0) : (hl_it (b_X2_giverFor g) 0 4 (-1, 0)).1 = r_X6_richest t := by
  obtain ⟨j, hj, h1, h2, h3⟩ := hl_rich_spec t
  rcases hl_giver_spec g with ⟨_, a⟩ | ⟨i, hi, a1, a2, a3, a4⟩
  · exact absurd a h
  · rw [a1, h1]
    rw [e] at a3 a4
    rcases Nat.lt_or_ge i j with z | z
    · exact absurd (a3 j hj) (h3 i z)
    · rcases Nat.lt_or_ge j i with z2 | z2
      · exact absurd (h2 i hi) (a4 j z2)
      · rw [show i = j by omega]
def hl_sel (b0 b1 b2 b3 : Bool) (i : Nat) : Bool := if i = 0 then b0 else if i = 1 then b1 else if i = 2 then b2 else b3
def hl_cin (h : Nat) (b0 b1 b2 b3 : Bool) (f i : Nat) (u : Int32) : Int32 := if u = -1 then (if r_X5_distance (nI h) (nI i) = nI f ∧ hl_sel b0 b1 b2 b3 i = true then nI i else -1) else u
def hl_mfn (h : Nat) (b0 b1 b2 b3 : Bool) (i : Nat) (u : Int32) : Int32 := if hl_sel b0 b1 b2 b3 i = true then (if u = -1 then nI i else if r_X6_distance (nI h) u ≤ r_X6_distance (nI h) (nI i) then u else nI i) else u
theorem hl_cm : ∀ h, h < 4 → ∀ b0 b1 b2 b3 : Bool, hl_it (fun f u => hl_it (hl_cin h b0 b1 b2 b3 f) 0 4 u) 0 3 (-1) = hl_it (hl_mfn h b0 b1 b2 b3) 0 4 (-1) := by decide +kernel
theorem hl_cn : ∀ h, h < 4 → hl_it (fun f u => hl_it (hl_cin h false false false false f) 0 4 u) 0 3 (-1) = -1 := by decide +kernel
theorem hl_sel_of (P : Nat → Prop) [DecidablePred P] {i : Nat} (hi : i < 4) : hl_sel (decide (P 0)) (decide (P 1)) (decide (P 2)) (decide (P 3)) i = true ↔ P i := by
  rcases (show i = 0 ∨ i = 1 ∨ i = 2 ∨ i = 3 by omega) with rfl | rfl | rfl | rfl <;> simp [hl_sel]
theorem hl_free_le {g : Nat → Nat → Int32} {x y : Int32} (ha : 0 ≤ (g 0 (x * 2 + y).toNatClampNeg).toInt ∧ (g 0 (x * 2 + y).toNatClampNeg).toInt ≤ 10) (hb : 0 ≤ (g 2 (x * 2 + y).toNatClampNeg).toInt ∧ (g 2 (x * 2 + y).toNatClampNeg).toInt ≤ 1000) :
    r_X4_freeOf g x y ≤ 0 ↔ g 0 (x * 2 + y).toNatClampNeg ≤ g 2 (x * 2 + y).toNatClampNeg := by
  unfold r_X4_freeOf
  generalize g 0 (x * 2 + y).toNatClampNeg = p at *
  generalize g 2 (x * 2 + y).toNatClampNeg = q at *
  have h1 : (p - q).toInt = p.toInt - q.toInt := by
    rw [Int32.toInt_sub]
    apply Int.bmod_eq_of_le <;> omega
  have h0 : (0 : Int32).toInt = 0 := by decide
  by_cases hc : 0 < p - q
  · rw [if_pos hc]
    rw [Int32.lt_iff_toInt_lt, h1, h0] at hc
    rw [Int32.le_iff_toInt_le, Int32.le_iff_toInt_le, h1, h0]
    omega
  · rw [if_neg hc]
    rw [Int32.lt_iff_toInt_lt, h1, h0] at hc
    rw [Int32.le_iff_toInt_le, Int32.le_iff_toInt_le, h0]
    omega
theorem hl_find_eq {g t : Nat → Nat → Int32} {h k : Int32} (hh : vp_in h 4) (hk : vp_in k 2) (e0 : g 0 = t 0) (e2 : g 2 = t 2) (e3 : g 3 = t 3) (ha : ∀ j, j < 8 → 0 ≤ (g 0 j).toInt ∧ (g 0 j).toInt ≤ 10) (hb : ∀ j, j < 8 → 0 ≤ (g 2 j).toInt ∧ (g 2 j).toInt ≤ 1000) :
    r_X5_findInn g h k = r_X6_finds t h k := by
  obtain ⟨j, hj, rfl⟩ := vp_in_of hh (by decide)
  have hfr : ∀ i, i < 4 → (r_X4_freeOf g (nI i) k ≤ 0 ↔ t 0 (2 * nI i + k).toNatClampNeg ≤ t 2 (2 * nI i + k).toNatClampNeg) := by
    intro i hi
    have hi4 : (nI i * 2 + k).toNatClampNeg < 8 := hl_idx (hl_row (vp_in_nI hi (by decide)) hk)
    rw [hl_free_le (ha _ hi4) (hb _ hi4), e0, e2, Int32.mul_comm (nI i) 2]
  by_cases hL : ∀ i, i < 4 → g 3 i ≤ 0
  · have h1 : r_X6_finds t (nI j) k = -1 := by
      unfold r_X6_finds
      rw [if_pos ((hl_rich_none t).mpr (by rw [← e3]; exact hL))]
    rw [h1, ← hl_cn j hj]
    refine hl_it_congr _ _ 3 (-1) (fun f u hf => hl_it_congr _ _ 4 u (fun i u hi => ?_))
    unfold b_X5_findIn hl_cin
    have hg : r_X2_giverFor g (nI i) = -1 := (hl_giver_none (vp_in_nI hi (by decide))).mpr hL
    simp [hg, hl_sel]
  · have h1 : r_X6_finds t (nI j) k = hl_it (b_X6_finds t (nI j) k) 0 4 (-1) := by
      unfold r_X6_finds
      rw [if_neg (fun z => hL (by rw [e3]; exact (hl_rich_none t).mp z))]
    have key := hl_cm j hj (decide (¬ t 0 (2 * nI 0 + k).toNatClampNeg ≤ t 2 (2 * nI 0 + k).toNatClampNeg)) (decide (¬ t 0 (2 * nI 1 + k).toNatClampNeg ≤ t 2 (2 * nI 1 + k).toNatClampNeg)) (decide (¬ t 0 (2 * nI 2 + k).toNatClampNeg ≤ t 2 (2 * nI 2 + k).toNatClampNeg)) (decide (¬ t 0 (2 * nI 3 + k).toNatClampNeg ≤ t 2 (2 * nI 3 + k).toNatClampNeg))
    have hs : ∀ i, i < 4 → (hl_sel (decide (¬ t 0 (2 * nI 0 + k).toNatClampNeg ≤ t 2 (2 * nI 0 + k).toNatClampNeg)) (decide (¬ t 0 (2 * nI 1 + k).toNatClampNeg ≤ t 2 (2 * nI 1 + k).toNatClampNeg)) (decide (¬ t 0 (2 * nI 2 + k).toNatClampNeg ≤ t 2 (2 * nI 2 + k).toNatClampNeg)) (decide (¬ t 0 (2 * nI 3 + k).toNatClampNeg ≤ t 2 (2 * nI 3 + k).toNatClampNeg)) i = true ↔ ¬ t 0 (2 * nI i + k).toNatClampNeg ≤ t 2 (2 * nI i + k).toNatClampNeg) :=
      fun i hi => hl_sel_of (fun i => ¬ t 0 (2 * nI i + k).toNatClampNeg ≤ t 2 (2 * nI i + k).toNatClampNeg) hi
    rw [h1]
    refine Eq.trans ?_ (Eq.trans key ?_)
    · refine hl_it_congr _ _ 3 (-1) (fun f u hf => hl_it_congr _ _ 4 u (fun i u hi => ?_))
      unfold b_X5_findIn hl_cin
      have hg : ¬ r_X2_giverFor g (nI i) = -1 := fun z => hL ((hl_giver_none (vp_in_nI hi (by decide))).mp z)
      simp only [hs i hi, hfr i hi, hg, not_false_eq_true, and_true]
    · refine hl_it_congr _ _ 4 (-1) (fun i u hi => ?_)
      unfold b_X6_finds hl_mfn
      simp only [hs i hi]
      by_cases hc : t 0 (2 * nI i + k).toNatClampNeg ≤ t 2 (2 * nI i + k).toNatClampNeg
      · rw [if_neg (fun z => z hc), if_pos hc]
      · rw [if_pos hc, if_neg hc]
