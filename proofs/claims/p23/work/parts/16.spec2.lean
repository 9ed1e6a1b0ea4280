/-! What the class's own methods answer and do -/
def r_X5_distance (x y : Int32) : Int32 := if 4 - (if 0 ≤ x - y then x - y else 0 - (x - y)) < (if 0 ≤ x - y then x - y else 0 - (x - y)) then 4 - (if 0 ≤ x - y then x - y else 0 - (x - y)) else (if 0 ≤ x - y then x - y else 0 - (x - y))
def r_X5_extraOf (g : Nat → Nat → Int32) (N : Nat) (x : Int32) : Int32 := hl_it (b_X0_missedAt g x (g 23 0 - 4) (g 23 0)) 0 N 0 / 4
def r_X5_takesMore (g : Nat → Nat → Int32) (N : Nat) (x y z : Int32) : Int32 := if g 0 (x * 2 + y).toNatClampNeg + r_X5_extraOf g N x ≤ hl_it (b_X0_countFor g x y z) 0 N 0 then 0 else 1
def b_X5_findIn (g : Nat → Nat → Int32) (h k : Int32) (f : Nat) (i : Nat) (u : Int32) : Int32 :=
  if u = -1 then (if r_X5_distance h (nI i) = nI f ∧ ¬ r_X4_freeOf g (nI i) k ≤ 0 ∧ ¬ r_X2_giverFor g (nI i) = -1 then nI i else -1) else u
def b_X5_find (g : Nat → Nat → Int32) (h k : Int32) (f : Nat) (u : Int32) : Int32 := hl_it (b_X5_findIn g h k f) 0 4 u
def r_X5_findInn (g : Nat → Nat → Int32) (h k : Int32) : Int32 := hl_it (b_X5_find g h k) 0 3 (-1)
theorem hl_it_stay {α : Type} {f : Nat → α → α} {x : α} (h : ∀ i, f i x = x) : ∀ (n i : Nat), hl_it f i n x = x := by
  intro n
  induction n with
  | zero => intro i; rfl
  | succ n ih => intro i; rw [hl_it_s, h i]; exact ih (i + 1)
theorem hl_find_stayIn (g : Nat → Nat → Int32) (h k : Int32) (f : Nat) {u : Int32} (hu : ¬ u = -1) (n i : Nat) : hl_it (b_X5_findIn g h k f) i n u = u :=
  hl_it_stay (fun j => by simp [b_X5_findIn, hu]) n i
theorem hl_find_stay (g : Nat → Nat → Int32) (h k : Int32) {u : Int32} (hu : ¬ u = -1) (n i : Nat) : hl_it (b_X5_find g h k) i n u = u :=
  hl_it_stay (fun j => hl_find_stayIn g h k j hu 4 0) n i
theorem hl_nIm1 {i : Nat} (h : i < 1000000) : ¬ nI i = -1 := by
  intro e
  have h1 : (nI i).toInt = (-1 : Int32).toInt := congrArg Int32.toInt e
  rw [nI_toInt (by omega), show ((-1 : Int32).toInt) = -1 by decide] at h1
  omega
/-- who gives linen: nobody, or an inn -/
theorem hl_giver_it (g : Nat → Nat → Int32) : ∀ (n i : Nat) (u : Int32 × Int32), i + n ≤ 4 → (u.1 = -1 ∨ vp_in u.1 4) → (hl_it (b_X2_giverFor g) i n u).1 = -1 ∨ vp_in (hl_it (b_X2_giverFor g) i n u).1 4 := by
  intro n
  induction n with
  | zero => intro i u _ h; exact h
  | succ n ih =>
    intro i u hi h
    rw [hl_it_s]
    refine ih (i + 1) _ (by omega) ?_
    unfold b_X2_giverFor
    by_cases hc : g 3 i ≤ u.2
    · rw [if_pos hc]; exact h
    · rw [if_neg hc]; exact Or.inr (vp_in_nI (by omega) (by decide))
theorem hl_giver_in (g : Nat → Nat → Int32) {x : Int32} (hx : vp_in x 4) : r_X2_giverFor g x = -1 ∨ vp_in (r_X2_giverFor g x) 4 := by
  unfold r_X2_giverFor
  by_cases hc : g 3 x.toNatClampNeg ≤ 0
  · rw [if_pos hc]; exact hl_giver_it g 4 0 (-1, 0) (by omega) (Or.inl rfl)
  · rw [if_neg hc]; exact Or.inr hx
theorem hl_find_it (g : Nat → Nat → Int32) (h k : Int32) (f : Nat) : ∀ (n i : Nat) (u : Int32), i + n ≤ 4 → (u = -1 ∨ vp_in u 4) → hl_it (b_X5_findIn g h k f) i n u = -1 ∨ vp_in (hl_it (b_X5_findIn g h k f) i n u) 4 := by
  intro n
  induction n with
  | zero => intro i u _ h; exact h
  | succ n ih =>
    intro i u hi hu
    rw [hl_it_s]
    refine ih (i + 1) _ (by omega) ?_
    unfold b_X5_findIn
    by_cases hc : u = -1
    · rw [if_pos hc]
      split
      · exact Or.inr (vp_in_nI (by omega) (by decide))
      · exact Or.inl rfl
    · rw [if_neg hc]; exact hu
theorem hl_find_it2 (g : Nat → Nat → Int32) (h k : Int32) : ∀ (n i : Nat) (u : Int32), (u = -1 ∨ vp_in u 4) → hl_it (b_X5_find g h k) i n u = -1 ∨ vp_in (hl_it (b_X5_find g h k) i n u) 4 := by
  intro n
  induction n with
  | zero => intro i u h; exact h
  | succ n ih =>
    intro i u hu
    rw [hl_it_s]
    exact ih (i + 1) _ (hl_find_it g h k i 4 0 u (by omega) hu)
theorem hl_find_in (g : Nat → Nat → Int32) (h k : Int32) : r_X5_findInn g h k = -1 ∨ vp_in (r_X5_findInn g h k) 4 := hl_find_it2 g h k 3 0 (-1) (Or.inl rfl)
def f_X5_layLinen (g : Nat → Nat → Int32) (x : Int32) : Nat → Nat → Int32 :=
  if r_X2_giverFor g x = -1 then g else
    f_X2_take (if r_X2_giverFor g x = x then g else f_X1_owe g x (r_X2_giverFor g x) (1 + g 9 0)) x (r_X2_giverFor g x)
def f_X5_putUp (g : Nat → Nat → Int32) (x y : Int32) : Nat → Nat → Int32 :=
  let hm := g 11 x.toNatClampNeg
  let kd := g 12 x.toNatClampNeg
  let ph := g 1 (y * 2 + kd).toNatClampNeg
  let g1 := f_X1_receive g hm (g 1 (hm * 2 + kd).toNatClampNeg)
  let g2 := if y = hm then g1 else f_X1_owe g1 hm y ph
  let g3 := f_X5_layLinen g2 y
  let g4 := f_X4_addSleeper g3 y kd
  f_X3_add g4 (g4 10 x.toNatClampNeg) y (ph / 10)
def b_X5_burn (x y : Int32) (k : Nat) (z : (Nat → Nat → Int32) × Int32) : (Nat → Nat → Int32) × Int32 :=
  if z.2 ≤ 0 then z else
    let bt := r_X3_takeFrom z.1 (nI k) x z.2
    let z1 := f_X3_takeFrom z.1 (nI k) x z.2
    (if z1 18 k = y then z1 else f_X1_owe z1 (z1 18 k) y bt, z.2 - bt)
def f_X5_burnEarliest (g : Nat → Nat → Int32) (M : Nat) (x y n : Int32) : Nat → Nat → Int32 := (hl_it (b_X5_burn x y) 0 M (g, n)).1
def f_X5_come (g : Nat → Nat → Int32) (x : Int32) : Nat → Nat → Int32 :=
  let v := r_X5_findInn g (g 11 x.toNatClampNeg) (g 12 x.toNatClampNeg)
  let g1 := f_X0_arrive g x v
  if v = -1 then g1 else f_X5_putUp g1 x v
def f_X5_night (g : Nat → Nat → Int32) : Nat → Nat → Int32 :=
  let g2 := f_X2_endNight (f_X4_endNight g)
  hl_su g2 23 (fun _ => g2 23 0 + 1)
def hl_ok (g : Nat → Nat → Int32) (N M : Nat) : Prop := N ≤ 80 ∧ g 16 0 = nI N ∧ M ≤ 80 ∧ g 20 0 = nI M ∧ (∀ k, k < N → vp_in (g 11 k) 4 ∧ vp_in (g 12 k) 2) ∧ (∀ k, k < M → vp_in (g 18 k) 4) ∧ (g 8 0 = 0 ∨ g 8 0 = 1)
/-! which places a step leaves as they are -/
theorem fr_X1_receive (g : Nat → Nat → Int32) (x n : Int32) {k : Nat} (h : k ≠ 21) : f_X1_receive g x n k = g k := hl_su_ne _ _ h
theorem fr_X1_owe (g : Nat → Nat → Int32) (x y n : Int32) {k : Nat} (h : k ≠ 22) : f_X1_owe g x y n k = g k := by
  simp only [f_X1_owe, hl_su_ne _ _ h]
theorem fr_X2_take (g : Nat → Nat → Int32) (x y : Int32) {k : Nat} (h : k ≠ 3) (h2 : k ≠ 4) (h3 : k ≠ 9) : f_X2_take g x y k = g k := by
  unfold f_X2_take
  by_cases hc : y = x
  · simp only [if_pos hc, hl_su_ne _ _ h, hl_su_ne _ _ h2]
  · simp only [if_neg hc, hl_su_ne _ _ h, hl_su_ne _ _ h2, hl_su_ne _ _ h3]
theorem fr_X4_addSleeper (g : Nat → Nat → Int32) (x y : Int32) {k : Nat} (h : k ≠ 2) : f_X4_addSleeper g x y k = g k := hl_su_ne _ _ h
theorem fr_X5_layLinen (g : Nat → Nat → Int32) (x : Int32) {k : Nat} (h : k ≠ 3) (h2 : k ≠ 4) (h3 : k ≠ 9) (h4 : k ≠ 22) : f_X5_layLinen g x k = g k := by
  unfold f_X5_layLinen
  by_cases hc : r_X2_giverFor g x = -1
  · rw [if_pos hc]
  · rw [if_neg hc, fr_X2_take _ _ _ h h2 h3]
    by_cases hd : r_X2_giverFor g x = x
    · rw [if_pos hd]
    · rw [if_neg hd, fr_X1_owe _ _ _ _ h4]
theorem fr_X0_arrive (g : Nat → Nat → Int32) (x y : Int32) {k : Nat} (h : k ≠ 14) (h2 : k ≠ 15) : f_X0_arrive g x y k = g k := by
  simp only [f_X0_arrive, hl_su_ne _ _ h, hl_su_ne _ _ h2]
theorem fr_X3_takeFrom (g : Nat → Nat → Int32) (x y n : Int32) {k : Nat} (h : k ≠ 19) : f_X3_takeFrom g x y n k = g k := by
  unfold f_X3_takeFrom
  split
  · exact hl_su_ne _ _ h
  · rfl
theorem fr_X5_burn (x y : Int32) (i : Nat) (z : (Nat → Nat → Int32) × Int32) {k : Nat} (h : k ≠ 19) (h2 : k ≠ 22) : (b_X5_burn x y i z).1 k = z.1 k := by
  unfold b_X5_burn
  by_cases hc : z.2 ≤ 0
  · rw [if_pos hc]
  · rw [if_neg hc]
    show (if f_X3_takeFrom z.1 (nI i) x z.2 18 i = y then f_X3_takeFrom z.1 (nI i) x z.2 else _) k = z.1 k
    split
    · exact fr_X3_takeFrom _ _ _ _ h
    · rw [fr_X1_owe _ _ _ _ h2, fr_X3_takeFrom _ _ _ _ h]
theorem fr_X5_burnIt (x y : Int32) {k : Nat} (h : k ≠ 19) (h2 : k ≠ 22) : ∀ (n i : Nat) (z : (Nat → Nat → Int32) × Int32), (hl_it (b_X5_burn x y) i n z).1 k = z.1 k := by
  intro n
  induction n with
  | zero => intro i z; rfl
  | succ n ih => intro i z; rw [hl_it_s, ih, fr_X5_burn x y i z h h2]
theorem hl_burn_stay (x y : Int32) {z : (Nat → Nat → Int32) × Int32} (hz : z.2 ≤ 0) (n i : Nat) : hl_it (b_X5_burn x y) i n z = z := hl_it_stay (fun j => by unfold b_X5_burn; rw [if_pos hz]) n i
