/-! Loops as folds; sums -/
theorem hl_it_snoc {α : Type} (f : Nat → α → α) : ∀ (n i : Nat) (u : α), hl_it f i (n + 1) u = f (i + n) (hl_it f i n u) := by
  intro n
  induction n with
  | zero => intro i u; rfl
  | succ n ih =>
    intro i u
    rw [hl_it_s, ih (i + 1) (f i u), hl_it_s, show i + 1 + n = i + (n + 1) by omega]
theorem hl_it_inv {α : Type} (P : Nat → α → Prop) (f : Nat → α → α) : ∀ (n : Nat) (u : α), P 0 u → (∀ k x, k < n → P k x → P (k + 1) (f k x)) → P n (hl_it f 0 n u) := by
  intro n
  induction n with
  | zero => intro u h _; exact h
  | succ n ih =>
    intro u h hs
    rw [hl_it_snoc, Nat.zero_add]
    exact hs n _ (Nat.lt_succ_self n) (ih u h (fun k x hk => hs k x (Nat.lt_succ_of_lt hk)))
theorem hl_it_inv2 {α β : Type} (P : Nat → α → β → Prop) (f : Nat → α → α) (f2 : Nat → β → β) : ∀ (n : Nat) (u : α) (v : β), P 0 u v → (∀ k x y, k < n → P k x y → P (k + 1) (f k x) (f2 k y)) → P n (hl_it f 0 n u) (hl_it f2 0 n v) := by
  intro n
  induction n with
  | zero => intro u v h _; exact h
  | succ n ih =>
    intro u v h hs
    rw [hl_it_snoc, hl_it_snoc, Nat.zero_add]
    exact hs n _ _ (Nat.lt_succ_self n) (ih u v h (fun k x y hk => hs k x y (Nat.lt_succ_of_lt hk)))
theorem hl_it_congr {α : Type} (f f2 : Nat → α → α) (n : Nat) (u : α) (h : ∀ k x, k < n → f k x = f2 k x) : hl_it f 0 n u = hl_it f2 0 n u :=
  hl_it_inv2 (fun _ x y => x = y) f f2 n u u rfl (fun k x y hk e => by subst e; exact h k x hk)
theorem hl_upd_same (f : Nat → Int32) (k : Nat) : upd f k (f k) = f := by
  funext j
  unfold upd
  split
  · next h => rw [h]
  · rfl
theorem hl_upd_upd (f : Nat → Int32) (k : Nat) (x y : Int32) : upd (upd f k x) k y = upd f k y := by
  funext j
  unfold upd
  split <;> rfl
theorem hl_upd_at (f : Nat → Int32) (k : Nat) (x : Int32) : upd f k x k = x := by simp [upd]
theorem hl_upd_ne (f : Nat → Int32) {k j : Nat} (x : Int32) (h : j ≠ k) : upd f k x j = f j := by simp [upd, h]
/-! the count of those who did not come to an inn in a night -/
def hl_miss (g : Nat → Nat → Int32) (s i : Nat) (k : Nat) (n : Int32) : Int32 := if g 11 k = nI i ∧ g 13 k = nI s ∧ g 14 k = 0 then n + 1 else n
theorem hl_lt_k4 {T m : Nat} (hT : T ≤ 300) (hm : m < 400) : nI m < nI T - 4 ↔ m + 4 < T := by
  have h1 : (nI T).toInt = T := nI_toInt (by omega)
  have h2 : (nI m).toInt = m := nI_toInt (by omega)
  have h3 : (nI T - 4).toInt = T - 4 := by
    rw [Int32.toInt_sub, h1, show (4 : Int32).toInt = 4 by decide]
    apply Int.bmod_eq_of_le <;> omega
  rw [Int32.lt_iff_toInt_lt, h3, h2]
  omega
def hl_m4 (g : Nat → Nat → Int32) (T x i n : Nat) : Int32 := if 4 ≤ T + i then hl_it (hl_miss g (T + i - 4) x) 0 n 0 else 0
theorem hl_m4_s (g : Nat → Nat → Int32) (T x i n : Nat) : hl_m4 g T x i (n + 1) = if 4 ≤ T + i ∧ g 11 n = nI x ∧ g 13 n = nI (T + i - 4) ∧ g 14 n = 0 then hl_m4 g T x i n + 1 else hl_m4 g T x i n := by
  unfold hl_m4
  by_cases h : 4 ≤ T + i
  · simp only [h, if_true, true_and]
    rw [hl_it_snoc, Nat.zero_add]
    rfl
  · simp [h]
theorem hl_ext_sum (g : Nat → Nat → Int32) {T x : Nat} (hT : T ≤ 300) : ∀ (n : Nat), (∀ k, k < n → vp_in (g 13 k) 400) →
    hl_it (b_X0_missedAt g (nI x) (nI T - 4) (nI T)) 0 n 0 = hl_m4 g T x 0 n + hl_m4 g T x 1 n + hl_m4 g T x 2 n + hl_m4 g T x 3 n := by
  intro n
  induction n with
  | zero => intro _; simp [hl_m4, hl_it]
  | succ n ih =>
    intro hv
    obtain ⟨m, hm, em⟩ := vp_in_of (hv n (Nat.lt_succ_self n)) (by decide)
    rw [hl_it_snoc, Nat.zero_add, ih (fun k hk => hv k (Nat.lt_succ_of_lt hk)), hl_m4_s, hl_m4_s, hl_m4_s, hl_m4_s]
    unfold b_X0_missedAt
    rw [em]
    have q1 : ¬ nI m < nI T - 4 ↔ T ≤ m + 4 := by rw [hl_lt_k4 hT hm]; omega
    have q2 : ¬ nI T ≤ nI m ↔ m < T := by rw [nI_leI (by omega) (by omega)]; omega
    have q3 : ∀ i, i < 4 → ((4 ≤ T + i ∧ g 11 n = nI x ∧ nI m = nI (T + i - 4) ∧ g 14 n = 0) ↔ (m + 4 = T + i ∧ g 11 n = nI x ∧ g 14 n = 0)) := by
      intro i hi
      rw [nI_eq (by omega) (by omega)]
      constructor
      · rintro ⟨a1, a2, a3, a4⟩; exact ⟨by omega, a2, a4⟩
      · rintro ⟨a1, a2, a4⟩; exact ⟨by omega, a2, by omega, a4⟩
    simp only [q1, q2, q3 0 (by omega), q3 1 (by omega), q3 2 (by omega), q3 3 (by omega)]
    by_cases hx : g 11 n = nI x ∧ g 14 n = 0
    · obtain ⟨hx1, hx2⟩ := hx
      simp only [hx1, hx2, true_and, and_true]
      by_cases a0 : m + 4 = T + 0
      · rw [if_pos (by omega : T ≤ m + 4 ∧ m < T), if_pos a0, if_neg (by omega : ¬ m + 4 = T + 1), if_neg (by omega : ¬ m + 4 = T + 2), if_neg (by omega : ¬ m + 4 = T + 3)]
        grind
      · by_cases a1 : m + 4 = T + 1
        · rw [if_pos (by omega : T ≤ m + 4 ∧ m < T), if_neg a0, if_pos a1, if_neg (by omega : ¬ m + 4 = T + 2), if_neg (by omega : ¬ m + 4 = T + 3)]
          grind
        · by_cases a2 : m + 4 = T + 2
          · rw [if_pos (by omega : T ≤ m + 4 ∧ m < T), if_neg a0, if_neg a1, if_pos a2, if_neg (by omega : ¬ m + 4 = T + 3)]
            grind
          · by_cases a3 : m + 4 = T + 3
            · rw [if_pos (by omega : T ≤ m + 4 ∧ m < T), if_neg a0, if_neg a1, if_neg a2, if_pos a3]
              grind
            · rw [if_neg (by omega : ¬ (T ≤ m + 4 ∧ m < T)), if_neg a0, if_neg a1, if_neg a2, if_neg a3]
    · rw [if_neg (fun z => hx ⟨z.1, z.2.2.2⟩), if_neg (fun z => hx z.2), if_neg (fun z => hx z.2), if_neg (fun z => hx z.2), if_neg (fun z => hx z.2)]
theorem hl_ext_mod (t : Nat → Nat → Int32) (g : Nat → Nat → Int32) {T x N : Nat} (hx : x < 4) (hm : ∀ s i, s < T → i < 4 → t 11 (4 * s + i) = hl_it (hl_miss g s i) 0 N 0) :
    hl_it (b_X6_extra t T (nI x)) 0 4 0 = hl_m4 g T x 0 N + hl_m4 g T x 1 N + hl_m4 g T x 2 N + hl_m4 g T x 3 N := by
  have h1 : ∀ i u, i < 4 → b_X6_extra t T (nI x) i u = u + hl_m4 g T x i N := by
    intro i u hi
    unfold b_X6_extra hl_m4
    rw [nI_clamp (by omega)]
    by_cases h : 4 ≤ T + i
    · rw [if_pos h, if_pos h, hm (T + i - 4) x (by omega) hx]
    · rw [if_neg h, if_neg h]
  show b_X6_extra t T (nI x) 3 (b_X6_extra t T (nI x) 2 (b_X6_extra t T (nI x) 1 (b_X6_extra t T (nI x) 0 0))) = _
  rw [h1 0 _ (by omega), h1 1 _ (by omega), h1 2 _ (by omega), h1 3 _ (by omega)]
  grind
theorem hl_ext_eq {g t : Nat → Nat → Int32} {N T : Nat} {x : Int32} (hT : T ≤ 300) (hx : vp_in x 4) (h23 : g 23 0 = nI T) (hv : ∀ k, k < N → vp_in (g 13 k) 400) (hm : ∀ s i, s < T → i < 4 → t 11 (4 * s + i) = hl_it (hl_miss g s i) 0 N 0) :
    r_X5_extraOf g N x = r_X6_extraOf t T x := by
  obtain ⟨j, hj, rfl⟩ := vp_in_of hx (by decide)
  unfold r_X5_extraOf r_X6_extraOf
  rw [h23, hl_ext_sum g hT N hv, hl_ext_mod t g hj hm]
