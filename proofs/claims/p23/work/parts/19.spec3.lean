/-! THE REFERENCE: what its methods answer and do -/
theorem hl_inA {x : Int32} {n : Nat} (k : Int32) (hk : k.toInt + 1 = n) (h : vp_in x n) : x ≤ k :=
  Int32.le_iff_toInt_le.mpr (by have h1 := (vp_in_iff.mp h).2; omega)
theorem hl_inB {x : Int32} {n : Nat} (k : Int32) (hk : k.toInt + 1 = n) (h : ¬ vp_in x n) : ¬ (¬ x < 0 ∧ x ≤ k) := fun z => h (vp_in_iff.mpr ⟨Int.not_lt.mp (fun y => z.1 (Int32.lt_iff_toInt_lt.mpr y)), by have h1 := Int32.le_iff_toInt_le.mp z.2; omega⟩)
theorem hl_nlt {x y : Int32} (h : x ≤ y) : ¬ y < x := fun z => by
  have h1 := Int32.le_iff_toInt_le.mp h
  have h2 := Int32.lt_iff_toInt_lt.mp z
  omega
theorem hl_le_of {x y : Int32} (h : ¬ y < x) : x ≤ y := Int32.le_iff_toInt_le.mpr (Int.not_lt.mp (fun z => h (Int32.lt_iff_toInt_lt.mpr z)))
theorem hl_self {x : Int32} {n : Nat} (h : vp_in x n) (hn : n < 2 ^ 31) : x = nI x.toNatClampNeg := by
  obtain ⟨j, hj, rfl⟩ := vp_in_of h hn
  rw [nI_clamp (by omega)]
theorem hl_idx {x : Int32} {n : Nat} (h : vp_in x n) : x.toNatClampNeg < n := Nat.not_le.mp (fun z => h (Or.inr z))
/-- the night less 4, and i more -/
theorem hl_k4 {T i : Nat} (hT : T ≤ 300) (hi : i ≤ 4) : (nI T - 4 + nI i).toInt = (T : Int) + i - 4 := by
  have h1 : (nI T).toInt = T := nI_toInt (by omega)
  have h2 : (nI i).toInt = i := nI_toInt (by omega)
  have h3 : (4 : Int32).toInt = 4 := by decide
  rw [Int32.toInt_add, Int32.toInt_sub, h1, h2, h3]
  rw [Int.bmod_add_bmod, show (T : Int) + i - 4 = T - 4 + i by omega]
  apply Int.bmod_eq_of_le <;> omega
theorem hl_k4eq {T i : Nat} (hT : T ≤ 300) (hi : i ≤ 4) (h : 4 ≤ T + i) : nI T - 4 + nI i = nI (T + i - 4) := by
  apply Int32.toInt_inj.mp
  rw [hl_k4 hT hi, nI_toInt (by omega)]
  omega
theorem hl_rng {T : Nat} {v : Int32} (hT : T ≤ 300) (h : ¬ v < nI T) : v - nI T ≤ 10 ↔ v ≤ nI T + 10 := by
  have h1 : (nI T).toInt = T := nI_toInt (by omega)
  have h2 : (T : Int) ≤ v.toInt := by rw [← h1]; exact Int.not_lt.mp (fun z => h (Int32.lt_iff_toInt_lt.mpr z))
  have h4 : v.toInt < 2147483648 := Int32.toInt_lt v
  have h3 : (v - nI T).toInt = v.toInt - T := by
    rw [Int32.toInt_sub, h1]
    apply Int.bmod_eq_of_le <;> omega
  have h5 : (nI T + 10).toInt = T + 10 := by
    rw [Int32.toInt_add, h1, show (10 : Int32).toInt = 10 by decide]
    apply Int.bmod_eq_of_le <;> omega
  rw [Int32.le_iff_toInt_le, Int32.le_iff_toInt_le, h3, h5, show (10 : Int32).toInt = 10 by decide]
  omega
theorem hl_pred {x : Int32} {N : Nat} (hN : N ≤ 80) : x ≤ nI N - 1 ↔ x < nI N := by
  have h1 : (nI N).toInt = N := nI_toInt (by omega)
  have h3 : (nI N - 1).toInt = N - 1 := by
    rw [Int32.toInt_sub, h1, show (1 : Int32).toInt = 1 by decide]
    apply Int.bmod_eq_of_le <;> omega
  rw [Int32.le_iff_toInt_le, Int32.lt_iff_toInt_lt, h3, h1]
  omega
theorem hl_m2 {T j : Nat} (hT : T ≤ 300) (hj : j ≤ 400) : nI T - 2 < nI j ↔ T < j + 2 := by
  have h1 : (nI T).toInt = T := nI_toInt (by omega)
  have h2 : (nI j).toInt = j := nI_toInt (by omega)
  have h3 : (nI T - 2).toInt = T - 2 := by
    rw [Int32.toInt_sub, h1, show (2 : Int32).toInt = 2 by decide]
    apply Int.bmod_eq_of_le <;> omega
  rw [Int32.lt_iff_toInt_lt, h3, h2]
  omega
def hl_okM (t : Nat → Nat → Int32) (N M T : Nat) : Prop := N ≤ 80 ∧ t 18 0 = nI N ∧ M ≤ 80 ∧ t 22 0 = nI M ∧ T ≤ 300 ∧ t 8 0 = nI T ∧ (∀ k, k < N → vp_in (t 13 k) 4 ∧ vp_in (t 14 k) 2) ∧ (∀ k, k < M → vp_in (t 20 k) 4) ∧ (t 6 0 = 0 ∨ t 6 0 = 1)
def b_X6_extra (t : Nat → Nat → Int32) (T : Nat) (x : Int32) (i : Nat) (n : Int32) : Int32 := if 4 ≤ T + i then n + t 11 (4 * (T + i - 4) + x.toNatClampNeg) else n + 0
def r_X6_extraOf (t : Nat → Nat → Int32) (T : Nat) (x : Int32) : Int32 := hl_it (b_X6_extra t T x) 0 4 0 / 4
def b_X6_book (t : Nat → Nat → Int32) (x y z : Int32) (k : Nat) (n : Int32) : Int32 := if t 13 k = x ∧ t 14 k = y ∧ t 15 k = z then n + 1 else n + 0
def f_X6_book (t : Nat → Nat → Int32) (x y z v : Int32) : Nat → Nat → Int32 :=
  let i := (t 18 0).toNatClampNeg
  let t1 := hl_su t 12 (upd (t 12) i x)
  let t2 := hl_su t1 13 (upd (t1 13) i y)
  let t3 := hl_su t2 14 (upd (t2 14) i z)
  let t4 := hl_su t3 15 (upd (t3 15) i v)
  let t5 := hl_su t4 17 (upd (t4 17) i (-1))
  hl_su t5 18 (fun _ => t5 18 0 + 1)
def r_X6_distance (x y : Int32) : Int32 := if 4 - (if x ≤ y then y - x else x - y) ≤ (if x ≤ y then y - x else x - y) then 4 - (if x ≤ y then y - x else x - y) else (if x ≤ y then y - x else x - y)
def b_X6_richest (t : Nat → Nat → Int32) (k : Nat) (u : Int32) : Int32 := if t 3 k ≤ t 3 u.toNatClampNeg then u else nI k
def r_X6_richest (t : Nat → Nat → Int32) : Int32 := hl_it (b_X6_richest t) 1 3 0
theorem hl_rich_it (t : Nat → Nat → Int32) : ∀ (n i : Nat) (u : Int32), i + n ≤ 4 → vp_in u 4 → vp_in (hl_it (b_X6_richest t) i n u) 4 := by
  intro n
  induction n with
  | zero => intro i u _ h; exact h
  | succ n ih =>
    intro i u hi h
    rw [hl_it_s]
    refine ih (i + 1) _ (by omega) ?_
    unfold b_X6_richest
    split
    · exact h
    · exact vp_in_nI (by omega) (by decide)
theorem hl_rich_in (t : Nat → Nat → Int32) : vp_in (r_X6_richest t) 4 := hl_rich_it t 3 1 0 (by omega) (by unfold vp_in; decide)
def b_X6_finds (t : Nat → Nat → Int32) (x y : Int32) (k : Nat) (u : Int32) : Int32 :=
  if t 0 (2 * nI k + y).toNatClampNeg ≤ t 2 (2 * nI k + y).toNatClampNeg then u else if u = -1 then nI k else if r_X6_distance x u ≤ r_X6_distance x (nI k) then u else nI k
def r_X6_finds (t : Nat → Nat → Int32) (x y : Int32) : Int32 := if t 3 (r_X6_richest t).toNatClampNeg ≤ 0 then -1 else hl_it (b_X6_finds t x y) 0 4 (-1)
theorem hl_finds_it (t : Nat → Nat → Int32) (x y : Int32) : ∀ (n i : Nat) (u : Int32), i + n ≤ 4 → (u = -1 ∨ vp_in u 4) → hl_it (b_X6_finds t x y) i n u = -1 ∨ vp_in (hl_it (b_X6_finds t x y) i n u) 4 := by
  intro n
  induction n with
  | zero => intro i u _ h; exact h
  | succ n ih =>
    intro i u hi hu
    rw [hl_it_s]
    refine ih (i + 1) _ (by omega) ?_
    have h9 : vp_in (nI i) 4 := vp_in_nI (by omega) (by decide)
    unfold b_X6_finds
    split
    · exact hu
    · split
      · exact Or.inr h9
      · split
        · exact hu
        · exact Or.inr h9
theorem hl_finds_in (t : Nat → Nat → Int32) (x y : Int32) : r_X6_finds t x y = -1 ∨ vp_in (r_X6_finds t x y) 4 := by
  unfold r_X6_finds
  split
  · exact Or.inl rfl
  · exact hl_finds_it t x y 4 0 (-1) (by omega) (Or.inl rfl)
def f_X6_takesLinen (t : Nat → Nat → Int32) (x : Int32) : Nat → Nat → Int32 :=
  let v := r_X6_richest t
  let a1 := hl_su t 3 (upd (t 3) v.toNatClampNeg (t 3 v.toNatClampNeg - 1))
  let a2 := hl_su a1 7 (fun _ => a1 7 0 + 1)
  let a3 := hl_su a2 9 (upd (a2 9) (4 * x + v).toNatClampNeg (a2 9 (4 * x + v).toNatClampNeg + a2 7 0))
  let b1 := hl_su t 3 (upd (t 3) x.toNatClampNeg (t 3 x.toNatClampNeg - 1))
  if t 3 x.toNatClampNeg ≤ 0 then hl_su a3 4 (upd (a3 4) x.toNatClampNeg (a3 4 x.toNatClampNeg + 1)) else hl_su b1 4 (upd (b1 4) x.toNatClampNeg (b1 4 x.toNatClampNeg + 1))
theorem fr_X6_takesLinen (t : Nat → Nat → Int32) (x : Int32) {k : Nat} (h : k ≠ 3) (h2 : k ≠ 4) (h3 : k ≠ 7) (h4 : k ≠ 9) : f_X6_takesLinen t x k = t k := by
  unfold f_X6_takesLinen
  split <;> simp only [hl_su_ne _ _ h, hl_su_ne _ _ h2, hl_su_ne _ _ h3, hl_su_ne _ _ h4]
/-- a guest comes by booking x, finds v, has booked at inn i the kind k -/
def f_X6_sleep (t4 : Nat → Nat → Int32) (x i k v : Int32) : Nat → Nat → Int32 :=
  let t5 := hl_su t4 2 (upd (t4 2) (2 * v + k).toNatClampNeg (t4 2 (2 * v + k).toNatClampNeg + 1))
  let t6 := f_X6_takesLinen t5 v
  let t7 := hl_su t6 5 (upd (t6 5) i.toNatClampNeg (t6 5 i.toNatClampNeg + t6 1 (2 * i + k).toNatClampNeg))
  let t8 := hl_su t7 9 (upd (t7 9) (4 * i + v).toNatClampNeg (t7 9 (4 * i + v).toNatClampNeg + (if v = i then 0 else t7 1 (2 * v + k).toNatClampNeg)))
  let t9 := hl_su t8 19 (upd (t8 19) (t8 22 0).toNatClampNeg (t8 12 x.toNatClampNeg))
  let t10 := hl_su t9 20 (upd (t9 20) (t9 22 0).toNatClampNeg v)
  let t11 := hl_su t10 21 (upd (t10 21) (t10 22 0).toNatClampNeg (t10 1 (2 * v + k).toNatClampNeg / 10))
  hl_su t11 22 (fun _ => t11 22 0 + 1)
def f_X6_come (t : Nat → Nat → Int32) (x : Int32) : Nat → Nat → Int32 :=
  let v := r_X6_finds t (t 13 x.toNatClampNeg) (t 14 x.toNatClampNeg)
  let t3 := hl_su t 16 (upd (t 16) x.toNatClampNeg 1)
  let t4 := hl_su t3 17 (upd (t3 17) x.toNatClampNeg v)
  if v = -1 then t4 else f_X6_sleep t4 x (t 13 x.toNatClampNeg) (t 14 x.toNatClampNeg) v
def b_X6_pointsOf (t : Nat → Nat → Int32) (x : Int32) (k : Nat) (n : Int32) : Int32 := if t 19 k = x then n + t 21 k else n + 0
def b_X6_burn (x y : Int32) (k : Nat) (z : (Nat → Nat → Int32) × Int32) : (Nat → Nat → Int32) × Int32 :=
  let bt := if z.1 19 k = x then (if z.2 ≤ z.1 21 k then z.2 else z.1 21 k) else 0
  let z1 := hl_su z.1 21 (upd (z.1 21) k (z.1 21 k - bt))
  let j := (4 * z1 20 k + y).toNatClampNeg
  (hl_su z1 9 (upd (z1 9) j (z1 9 j + (if z1 20 k = y then 0 else bt))), z.2 - bt)
def f_X6_burn (t : Nat → Nat → Int32) (M : Nat) (x y n : Int32) : Nat → Nat → Int32 := (hl_it (b_X6_burn x y) 0 M (t, n)).1
def b_X6_n1 (T k : Nat) (z : (Nat → Nat → Int32) × Int32) : (Nat → Nat → Int32) × Int32 :=
  let j := 4 * T + (z.1 13 k).toNatClampNeg
  if z.1 15 k = z.1 8 0 ∧ z.1 16 k = 0 then (hl_su z.1 11 (upd (z.1 11) j (z.1 11 j + 1)), z.2 + 1) else (hl_su z.1 11 (upd (z.1 11) j (z.1 11 j + 0)), z.2 + 0)
def b_X6_n3 (k j : Nat) (z : Nat → Nat → Int32) : Nat → Nat → Int32 :=
  let z1 := hl_su z 3 (upd (z 3) k (z 3 k + z 10 (4 * j + k)))
  hl_su z1 10 (upd (z1 10) (4 * j + k) 0)
def b_X6_n2 (T k : Nat) (z : Nat → Nat → Int32) : Nat → Nat → Int32 :=
  let z1 := hl_su z 10 (upd (z 10) (4 * T + k) (z 4 k))
  let z2 := hl_su z1 4 (upd (z1 4) k 0)
  if z2 6 0 = 0 then hl_it (b_X6_n3 k) 0 (T - 1) z2 else z2
def b_X6_n4 (k : Nat) (z : Nat → Nat → Int32) : Nat → Nat → Int32 := hl_su z 2 (upd (z 2) k 0)
/-- how a night ends: the contents, behind the check -/
def f_X6_night (t : Nat → Nat → Int32) (N T : Nat) : Nat → Nat → Int32 :=
  let z := hl_it b_X6_n4 0 8 (hl_it (b_X6_n2 T) 0 4 (hl_it (b_X6_n1 T) 0 N (t, 0)).1)
  let z1 := hl_su z 7 (fun _ => 0)
  hl_su z1 8 (fun _ => z1 8 0 + 1)
def r_X6_night (t : Nat → Nat → Int32) (N T : Nat) : Int32 := (hl_it (b_X6_n1 T) 0 N (t, 0)).2
def r_X6_owed (t : Nat → Nat → Int32) (x y : Int32) : Int32 := if t 9 (4 * x + y).toNatClampNeg - t 9 (4 * y + x).toNatClampNeg ≤ 0 then 0 else t 9 (4 * x + y).toNatClampNeg - t 9 (4 * y + x).toNatClampNeg
def b_X6_settle (k : Nat) (z : (Nat → Nat → Int32) × Int32) : (Nat → Nat → Int32) × Int32 :=
  let s := r_X6_owed z.1 (nI (k / 4)) (nI (k % 4))
  let z1 := hl_su z.1 5 (upd (z.1 5) (k / 4) (z.1 5 (k / 4) - s))
  (hl_su z1 5 (upd (z1 5) (k % 4) (z1 5 (k % 4) + s)), z.2 + s)
def b_X6_wipe (k : Nat) (z : Nat → Nat → Int32) : Nat → Nat → Int32 := hl_su z 9 (upd (z 9) k 0)
def f_X6_settle (t : Nat → Nat → Int32) : Nat → Nat → Int32 := hl_it b_X6_wipe 0 16 (hl_it b_X6_settle 0 16 (t, 0)).1
def r_X6_settle (t : Nat → Nat → Int32) : Int32 := (hl_it b_X6_settle 0 16 (t, 0)).2
def b_X6_taken (t : Nat → Nat → Int32) (x y : Int32) (k : Nat) (n : Int32) : Int32 := if t 15 k = t 8 0 ∧ t 17 k = x ∧ t 14 k = y then n + 1 else n + 0
def b_X6_away (t : Nat → Nat → Int32) (x : Int32) (k : Nat) (n : Int32) : Int32 := n + t 10 (4 * k + x.toNatClampNeg)
/-! which places the loops leave -/
theorem fr_X6_burn (x y : Int32) (i : Nat) (z : (Nat → Nat → Int32) × Int32) {k : Nat} (h : k ≠ 21) (h2 : k ≠ 9) : (b_X6_burn x y i z).1 k = z.1 k := by
  simp only [b_X6_burn, hl_su_ne _ _ h, hl_su_ne _ _ h2]
theorem fr_X6_burnIt (x y : Int32) {k : Nat} (h : k ≠ 21) (h2 : k ≠ 9) : ∀ (n i : Nat) (z : (Nat → Nat → Int32) × Int32), (hl_it (b_X6_burn x y) i n z).1 k = z.1 k := by
  intro n
  induction n with
  | zero => intro i z; rfl
  | succ n ih => intro i z; rw [hl_it_s, ih, fr_X6_burn x y i z h h2]
theorem fr_X6_n1 (T i : Nat) (z : (Nat → Nat → Int32) × Int32) {k : Nat} (h : k ≠ 11) : (b_X6_n1 T i z).1 k = z.1 k := by
  simp only [b_X6_n1]
  split <;> exact hl_su_ne _ _ h
theorem fr_X6_n1It (T : Nat) {k : Nat} (h : k ≠ 11) : ∀ (n i : Nat) (z : (Nat → Nat → Int32) × Int32), (hl_it (b_X6_n1 T) i n z).1 k = z.1 k := by
  intro n
  induction n with
  | zero => intro i z; rfl
  | succ n ih => intro i z; rw [hl_it_s, ih, fr_X6_n1 T i z h]
theorem fr_X6_n3 (j i : Nat) (z : Nat → Nat → Int32) {k : Nat} (h : k ≠ 3) (h2 : k ≠ 10) : b_X6_n3 j i z k = z k := by
  simp only [b_X6_n3, hl_su_ne _ _ h, hl_su_ne _ _ h2]
theorem fr_X6_n3It (j : Nat) {k : Nat} (h : k ≠ 3) (h2 : k ≠ 10) : ∀ (n i : Nat) (z : Nat → Nat → Int32), hl_it (b_X6_n3 j) i n z k = z k := by
  intro n
  induction n with
  | zero => intro i z; rfl
  | succ n ih => intro i z; rw [hl_it_s, ih, fr_X6_n3 j i z h h2]
theorem fr_X6_n2 (T i : Nat) (z : Nat → Nat → Int32) {k : Nat} (h : k ≠ 3) (h2 : k ≠ 10) (h3 : k ≠ 4) : b_X6_n2 T i z k = z k := by
  simp only [b_X6_n2]
  split
  · rw [fr_X6_n3It i h h2, hl_su_ne _ _ h3, hl_su_ne _ _ h2]
  · rw [hl_su_ne _ _ h3, hl_su_ne _ _ h2]
theorem fr_X6_n2It (T : Nat) {k : Nat} (h : k ≠ 3) (h2 : k ≠ 10) (h3 : k ≠ 4) : ∀ (n i : Nat) (z : Nat → Nat → Int32), hl_it (b_X6_n2 T) i n z k = z k := by
  intro n
  induction n with
  | zero => intro i z; rfl
  | succ n ih => intro i z; rw [hl_it_s, ih, fr_X6_n2 T i z h h2 h3]
theorem fr_X6_settle (i : Nat) (z : (Nat → Nat → Int32) × Int32) {k : Nat} (h : k ≠ 5) : (b_X6_settle i z).1 k = z.1 k := by
  simp only [b_X6_settle, hl_su_ne _ _ h]
