/-! A night ends: the relation stays -/
def hl_w0 (n : Nat) (f : Nat → Int32) : Nat → Int32 := hl_it (fun k f => upd f k 0) 0 n f
theorem hl_w0_cls (g : Nat → Nat → Int32) : (f_X4_endNight g) 2 = hl_w0 8 (g 2) ∧ ∀ p, p ≠ 2 → (f_X4_endNight g) p = g p :=
  hl_it_inv2 (fun _ (z : Nat → Nat → Int32) f => z 2 = f ∧ ∀ p, p ≠ 2 → z p = g p) b_X4_endNight (fun k f => upd f k 0) 8 g (g 2) ⟨rfl, fun _ _ => rfl⟩
    (fun k z f _ h => ⟨by show upd (z 2) k 0 = upd f k 0; rw [h.1], fun p hp => by show hl_su z 2 _ p = g p; rw [hl_su_ne _ _ hp]; exact h.2 p hp⟩)
theorem hl_w0_ref (t : Nat → Nat → Int32) : (hl_it b_X6_n4 0 8 t) 2 = hl_w0 8 (t 2) ∧ ∀ p, p ≠ 2 → (hl_it b_X6_n4 0 8 t) p = t p :=
  hl_it_inv2 (fun _ (z : Nat → Nat → Int32) f => z 2 = f ∧ ∀ p, p ≠ 2 → z p = t p) b_X6_n4 (fun k f => upd f k 0) 8 t (t 2) ⟨rfl, fun _ _ => rfl⟩
    (fun k z f _ h => ⟨by show upd (z 2) k 0 = upd f k 0; rw [h.1], fun p hp => by show hl_su z 2 _ p = t p; rw [hl_su_ne _ _ hp]; exact h.2 p hp⟩)
theorem hl_w0_bd {f : Nat → Int32} {hi : Int} (h : hl_bd f 8 0 hi) (h0 : 0 ≤ hi) (n : Nat) : hl_bd (hl_w0 n f) 8 0 hi :=
  hl_it_inv (fun _ f => hl_bd f 8 0 hi) (fun k f => upd f k 0) n f h (fun k x _ hx => hl_bd_upd hx (by rw [show (0 : Int32).toInt = 0 by decide]; exact ⟨Int.le_refl 0, h0⟩))
theorem hl_wsh_s (f : Nat → Int32) (k n : Nat) : hl_wsh f k (n + 1) = hl_wsh f k n + f (4 * n + k) := by
  unfold hl_wsh
  rw [hl_it_snoc, Nat.zero_add]
theorem hl_wsh_congr {f f2 : Nat → Int32} {k n : Nat} (h : ∀ j, j < n → f (4 * j + k) = f2 (4 * j + k)) : hl_wsh f k n = hl_wsh f2 k n :=
  hl_it_congr _ _ n 0 (fun j x hj => by show x + f (4 * j + k) = x + f2 (4 * j + k); rw [h j hj])
theorem hl_wsh_0 {f : Nat → Int32} {k : Nat} : ∀ n, (∀ j, j < n → f (4 * j + k) = 0) → hl_wsh f k n = 0 := by
  intro n
  induction n with
  | zero => intro _; rfl
  | succ n ih =>
    intro h
    rw [hl_wsh_s, ih (fun j hj => h j (by omega)), h n (by omega), Int32.add_zero]
theorem hl_n3 (k : Nat) (z : Nat → Nat → Int32) : ∀ n, (hl_it (b_X6_n3 k) 0 n z) 3 = upd (z 3) k (z 3 k + hl_wsh (z 10) k n) ∧ (∀ j, j < n → (hl_it (b_X6_n3 k) 0 n z) 10 (4 * j + k) = 0) ∧ ∀ m, (∀ j, j < n → m ≠ 4 * j + k) → (hl_it (b_X6_n3 k) 0 n z) 10 m = z 10 m := by
  intro n
  induction n with
  | zero =>
    refine ⟨?_, fun j h => absurd h (Nat.not_lt_zero j), fun m _ => rfl⟩
    show z 3 = upd (z 3) k (z 3 k + 0)
    rw [Int32.add_zero, hl_upd_same]
  | succ n ih =>
    obtain ⟨h1, h2, h3⟩ := ih
    rw [hl_it_snoc, Nat.zero_add, hl_wsh_s]
    generalize hl_it (b_X6_n3 k) 0 n z = y at *
    have h4 : y 10 (4 * n + k) = z 10 (4 * n + k) := h3 _ (fun j hj => by omega)
    refine ⟨?_, ?_, ?_⟩
    · show upd (y 3) k (y 3 k + y 10 (4 * n + k)) = _
      rw [h4, h1, hl_upd_at, hl_upd_upd, Int32.add_assoc]
    · intro j hj
      show upd (y 10) (4 * n + k) 0 (4 * j + k) = 0
      unfold upd
      split
      · rfl
      · exact h2 j (by omega)
    · intro m hm
      show upd (y 10) (4 * n + k) 0 m = z 10 m
      rw [hl_upd_ne _ _ (hm n (by omega))]
      exact h3 m (fun j hj => hm j (by omega))
def hl_NI (T : Nat) (g t : Nat → Nat → Int32) (k : Nat) (z z' : Nat → Nat → Int32) : Prop :=
  z 3 = z' 3 ∧ z 4 = z' 4 ∧ (∀ p, p ≠ 3 → p ≠ 4 → p ≠ 5 → p ≠ 6 → p ≠ 7 → z p = g p) ∧ (∀ p, p ≠ 3 → p ≠ 4 → p ≠ 10 → z' p = t p) ∧
  (∀ j, j < 4 → j < k → z 5 j = z' 10 (4 * T + j) ∧ z 6 j = (if 1 ≤ T then z' 10 (4 * (T - 1) + j) else 0) ∧ z 7 j = hl_wsh (z' 10) j (T - 1)) ∧
  (∀ j, j < 4 → k ≤ j → z 5 j = (if 1 ≤ T then z' 10 (4 * (T - 1) + j) else 0) ∧ z 6 j = (if 2 ≤ T then z' 10 (4 * (T - 2) + j) else 0) ∧ z 7 j = hl_wsh (z' 10) j (T - 2))
theorem hl_night_S (w : Nat → Int32) (k T : Nat) : hl_wsh w k (T - 2) + (if 2 ≤ T then w (4 * (T - 2) + k) else 0) = hl_wsh w k (T - 1) := by
  by_cases h : 2 ≤ T
  · rw [if_pos h, ← hl_wsh_s, show T - 2 + 1 = T - 1 by omega]
  · rw [if_neg h, Int32.add_zero, show T - 2 = 0 by omega, show T - 1 = 0 by omega]
theorem hl_night_step {T k : Nat} {g t z z' : Nat → Nat → Int32} (hk : k < 4) (e8 : g 8 0 = t 6 0) (h : hl_NI T g t k z z') : hl_NI T g t (k + 1) (b_X2_endNight k z) (b_X6_n2 T k z') := by
  obtain ⟨h3, h4, hg, ht, hd, ho⟩ := h
  obtain ⟨o5, o6, o7⟩ := ho k hk (Nat.le_refl k)
  have z8 : z 8 = g 8 := hg 8 (by decide) (by decide) (by decide) (by decide) (by decide)
  have z6 : z' 6 = t 6 := ht 6 (by decide) (by decide) (by decide)
  have hS : z 7 k + z 6 k = hl_wsh (z' 10) k (T - 1) := by rw [o7, o6, hl_night_S]
  unfold b_X2_endNight b_X6_n2
  dsimp only
  -- the new table of linen sent to the wash, before the clean linen leaves it
  have w1 : ∀ s j, j < 4 → (s < T ∨ j ≠ k) → upd (z' 10) (4 * T + k) (z' 4 k) (4 * s + j) = z' 10 (4 * s + j) := fun s j hj hs => hl_upd_ne _ _ (by omega)
  by_cases hb : g 8 0 = 0
  · have c1 : (hl_su (hl_su (hl_su (hl_su z 7 (upd (z 7) k (z 7 k + z 6 k))) 6 (upd (hl_su z 7 (upd (z 7) k (z 7 k + z 6 k)) 6) k (hl_su z 7 (upd (z 7) k (z 7 k + z 6 k)) 5 k))) 5 (upd (z 5) k (z 4 k))) 4 (upd (z 4) k 0)) 8 0 = 0 := by
      show z 8 0 = 0
      rw [z8]; exact hb
    rw [if_pos (by exact c1), if_pos (by show z' 6 0 = 0; rw [z6, ← e8]; exact hb)]
    obtain ⟨q1, q2, q3⟩ := hl_n3 k (hl_su (hl_su z' 10 (upd (z' 10) (4 * T + k) (z' 4 k))) 4 (upd (hl_su z' 10 (upd (z' 10) (4 * T + k) (z' 4 k)) 4) k 0)) (T - 1)
    have qf : ∀ p, p ≠ 3 → p ≠ 10 → hl_it (b_X6_n3 k) 0 (T - 1) (hl_su (hl_su z' 10 (upd (z' 10) (4 * T + k) (z' 4 k))) 4 (upd (hl_su z' 10 (upd (z' 10) (4 * T + k) (z' 4 k)) 4) k 0)) p = _ := fun p hp hp2 => fr_X6_n3It k hp hp2 (T - 1) 0 _
    generalize hl_it (b_X6_n3 k) 0 (T - 1) (hl_su (hl_su z' 10 (upd (z' 10) (4 * T + k) (z' 4 k))) 4 (upd (hl_su z' 10 (upd (z' 10) (4 * T + k) (z' 4 k)) 4) k 0)) = Y at *
    have q1' : Y 3 = upd (z' 3) k (z' 3 k + hl_wsh (upd (z' 10) (4 * T + k) (z' 4 k)) k (T - 1)) := q1
    have q3' : ∀ m, (∀ j, j < T - 1 → m ≠ 4 * j + k) → Y 10 m = upd (z' 10) (4 * T + k) (z' 4 k) m := q3
    have wS : hl_wsh (upd (z' 10) (4 * T + k) (z' 4 k)) k (T - 1) = hl_wsh (z' 10) k (T - 1) := hl_wsh_congr (fun j hj => w1 j k hk (Or.inl (by omega)))
    have yo : ∀ s j, j < 4 → j ≠ k → Y 10 (4 * s + j) = z' 10 (4 * s + j) := fun s j hj hjk => by
      rw [q3' _ (fun i _ => by omega)]; exact w1 s j hj (Or.inr hjk)
    refine ⟨?_, ?_, ?_, ?_, ?_, ?_⟩
    · show upd (z 3) k (z 3 k + upd (z 7) k (z 7 k + z 6 k) k) = Y 3
      rw [q1', hl_upd_at, hS, wS, h3]
    · rw [qf 4 (by decide) (by decide)]
      show upd (z 4) k 0 = upd (z' 4) k 0
      rw [h4]
    · intro p p3 p4 p5 p6 p7
      rw [hl_su_ne _ _ p7, hl_su_ne _ _ p3, hl_su_ne _ _ p4, hl_su_ne _ _ p5, hl_su_ne _ _ p6, hl_su_ne _ _ p7]
      exact hg p p3 p4 p5 p6 p7
    · intro p p3 p4 p10
      rw [qf p p3 p10, hl_su_ne _ _ p4, hl_su_ne _ _ p10]
      exact ht p p3 p4 p10
    · intro j hj hjk
      show upd (z 5) k (z 4 k) j = _ ∧ upd (z 6) k (z 5 k) j = _ ∧ upd (upd (z 7) k (z 7 k + z 6 k)) k 0 j = _
      by_cases hjk2 : j = k
      · subst hjk2
        rw [hl_upd_at, hl_upd_at, hl_upd_at]
        refine ⟨?_, ?_, ?_⟩
        · rw [q3' _ (fun i _ => by omega), hl_upd_at, h4]
        · rw [o5]
          by_cases hT : 1 ≤ T
          · rw [if_pos hT, if_pos hT, q3' _ (fun i _ => by omega), w1 (T - 1) j hj (Or.inl (by omega))]
          · rw [if_neg hT, if_neg hT]
        · rw [hl_wsh_0 _ q2]
      · rw [hl_upd_ne _ _ hjk2, hl_upd_ne _ _ hjk2, hl_upd_upd, hl_upd_ne _ _ hjk2]
        obtain ⟨d5, d6, d7⟩ := hd j hj (by omega)
        rw [yo T j hj hjk2, yo (T - 1) j hj hjk2, hl_wsh_congr (fun s _ => yo s j hj hjk2)]
        exact ⟨d5, d6, d7⟩
    · intro j hj hjk
      show upd (z 5) k (z 4 k) j = _ ∧ upd (z 6) k (z 5 k) j = _ ∧ upd (upd (z 7) k (z 7 k + z 6 k)) k 0 j = _
      have hjk2 : j ≠ k := by omega
      rw [hl_upd_ne _ _ hjk2, hl_upd_ne _ _ hjk2, hl_upd_upd, hl_upd_ne _ _ hjk2]
      obtain ⟨d5, d6, d7⟩ := ho j hj (by omega)
      rw [yo (T - 1) j hj hjk2, yo (T - 2) j hj hjk2, hl_wsh_congr (fun s _ => yo s j hj hjk2)]
      exact ⟨d5, d6, d7⟩
  · rw [if_neg (by intro c1; apply hb; rw [← z8]; exact c1), if_neg (by intro c1; apply hb; rw [e8, ← z6]; exact c1)]
    have yo : ∀ s j, j < 4 → j ≠ k → upd (z' 10) (4 * T + k) (z' 4 k) (4 * s + j) = z' 10 (4 * s + j) := fun s j hj hjk => w1 s j hj (Or.inr hjk)
    refine ⟨h3, ?_, ?_, ?_, ?_, ?_⟩
    · show upd (z 4) k 0 = upd (z' 4) k 0
      rw [h4]
    · intro p p3 p4 p5 p6 p7
      rw [hl_su_ne _ _ p4, hl_su_ne _ _ p5, hl_su_ne _ _ p6, hl_su_ne _ _ p7]
      exact hg p p3 p4 p5 p6 p7
    · intro p p3 p4 p10
      rw [hl_su_ne _ _ p4, hl_su_ne _ _ p10]
      exact ht p p3 p4 p10
    · intro j hj hjk
      show upd (z 5) k (z 4 k) j = upd (z' 10) (4 * T + k) (z' 4 k) (4 * T + j) ∧ upd (z 6) k (z 5 k) j = (if 1 ≤ T then upd (z' 10) (4 * T + k) (z' 4 k) (4 * (T - 1) + j) else 0) ∧ upd (z 7) k (z 7 k + z 6 k) j = hl_wsh (upd (z' 10) (4 * T + k) (z' 4 k)) j (T - 1)
      by_cases hjk2 : j = k
      · subst hjk2
        rw [hl_upd_at, hl_upd_at, hl_upd_at, hl_upd_at]
        refine ⟨by rw [h4], ?_, ?_⟩
        · rw [o5]
          by_cases hT : 1 ≤ T
          · rw [if_pos hT, if_pos hT, w1 (T - 1) j hj (Or.inl (by omega))]
          · rw [if_neg hT, if_neg hT]
        · rw [hS]
          exact (hl_wsh_congr (fun i hi => w1 i j hk (Or.inl (by omega)))).symm
      · rw [hl_upd_ne _ _ hjk2, hl_upd_ne _ _ hjk2, hl_upd_ne (z 7) _ hjk2]
        obtain ⟨d5, d6, d7⟩ := hd j hj (by omega)
        rw [yo T j hj hjk2, yo (T - 1) j hj hjk2, hl_wsh_congr (fun s _ => yo s j hj hjk2)]
        exact ⟨d5, d6, d7⟩
    · intro j hj hjk
      show upd (z 5) k (z 4 k) j = (if 1 ≤ T then upd (z' 10) (4 * T + k) (z' 4 k) (4 * (T - 1) + j) else 0) ∧ upd (z 6) k (z 5 k) j = (if 2 ≤ T then upd (z' 10) (4 * T + k) (z' 4 k) (4 * (T - 2) + j) else 0) ∧ upd (z 7) k (z 7 k + z 6 k) j = hl_wsh (upd (z' 10) (4 * T + k) (z' 4 k)) j (T - 2)
      have hjk2 : j ≠ k := by omega
      rw [hl_upd_ne _ _ hjk2, hl_upd_ne _ _ hjk2, hl_upd_ne (z 7) _ hjk2]
      obtain ⟨d5, d6, d7⟩ := ho j hj (by omega)
      rw [yo (T - 1) j hj hjk2, yo (T - 2) j hj hjk2, hl_wsh_congr (fun s _ => yo s j hj hjk2)]
      exact ⟨d5, d6, d7⟩
theorem hl_n1 {g t : Nat → Nat → Int32} {N T : Nat} (e11 : g 11 = t 13) (e13 : g 13 = t 15) (e14 : g 14 = t 16) (e23 : g 23 = t 8) (t2 : g 23 0 = nI T) (o5 : ∀ k, k < N → vp_in (g 11 k) 4) (m2 : ∀ s i, T ≤ s → i < 4 → t 11 (4 * s + i) = 0) :
    (hl_it (b_X6_n1 T) 0 N (t, 0)).2 = hl_it (b_X0_missedIn g (g 23 0)) 0 N 0 ∧ (∀ p, p ≠ 11 → (hl_it (b_X6_n1 T) 0 N (t, 0)).1 p = t p) ∧ (∀ i, i < 4 → (hl_it (b_X6_n1 T) 0 N (t, 0)).1 11 (4 * T + i) = hl_it (hl_miss g T i) 0 N 0) ∧ ∀ m, (∀ i, i < 4 → m ≠ 4 * T + i) → (hl_it (b_X6_n1 T) 0 N (t, 0)).1 11 m = t 11 m := by
  refine hl_it_inv2 (fun n (z : (Nat → Nat → Int32) × Int32) (u : Int32) => z.2 = u ∧ (∀ p, p ≠ 11 → z.1 p = t p) ∧ (∀ i, i < 4 → z.1 11 (4 * T + i) = hl_it (hl_miss g T i) 0 n 0) ∧ ∀ m, (∀ i, i < 4 → m ≠ 4 * T + i) → z.1 11 m = t 11 m) (b_X6_n1 T) (b_X0_missedIn g (g 23 0)) N (t, 0) 0
    ⟨rfl, fun _ _ => rfl, fun i hi => m2 T i (Nat.le_refl T) hi, fun _ _ => rfl⟩ ?_
  rintro k ⟨z, n⟩ u hk ⟨hn, hz, h11, hm⟩
  dsimp only at hn hz h11 hm
  subst hn
  obtain ⟨i0, hi0, ei⟩ := vp_in_of (o5 k hk) (by decide)
  have z13 : (z 13 k).toNatClampNeg = i0 := by rw [hz 13 (by decide), ← e11, ei, nI_clamp (by omega)]
  have eC : (z 15 k = z 8 0 ∧ z 16 k = 0) ↔ (g 13 k = g 23 0 ∧ g 14 k = 0) := by rw [hz 15 (by decide), hz 8 (by decide), hz 16 (by decide), ← e13, ← e14, ← e23]
  unfold b_X6_n1 b_X0_missedIn
  dsimp only
  by_cases hc : g 13 k = g 23 0 ∧ g 14 k = 0
  · rw [if_pos (eC.mpr hc), if_pos hc, z13]
    refine ⟨rfl, fun p hp => (hl_su_ne _ _ hp).trans (hz p hp), fun i hi => ?_, fun m hm2 => ?_⟩
    · show upd (z 11) (4 * T + i0) (z 11 (4 * T + i0) + 1) (4 * T + i) = _
      rw [hl_it_snoc, Nat.zero_add, ← h11 i hi]
      unfold hl_miss
      rw [ei, ← t2]
      by_cases h : i = i0
      · subst h
        rw [hl_upd_at, if_pos ⟨rfl, hc⟩]
      · rw [hl_upd_ne _ _ (by omega), if_neg]
        rintro ⟨q, _⟩
        rw [nI_eq (by omega) (by omega)] at q
        omega
    · show upd (z 11) (4 * T + i0) (z 11 (4 * T + i0) + 1) m = _
      rw [hl_upd_ne _ _ (hm2 i0 hi0)]
      exact hm m hm2
  · rw [if_neg (fun q => hc (eC.mp q)), if_neg hc, z13]
    refine ⟨Int32.add_zero _, fun p hp => (hl_su_ne _ _ hp).trans (hz p hp), fun i hi => ?_, fun m hm2 => ?_⟩
    · show upd (z 11) (4 * T + i0) (z 11 (4 * T + i0) + 0) (4 * T + i) = _
      rw [Int32.add_zero, hl_upd_same, hl_it_snoc, Nat.zero_add, ← h11 i hi]
      unfold hl_miss
      rw [← t2, if_neg (fun q => hc q.2)]
    · show upd (z 11) (4 * T + i0) (z 11 (4 * T + i0) + 0) m = _
      rw [Int32.add_zero, hl_upd_same]
      exact hm m hm2
theorem hl_R_night {c N M T : Nat} {g t : Nat → Nat → Int32} (hc : c < 512) (h : hl_R c N M T g t) (hT : T < 300) :
    hl_it (b_X0_missedIn g (g 23 0)) 0 N 0 = r_X6_night t N T ∧ hl_R (c + 1) N M (T + 1) (f_X5_night g) (f_X6_night t N T) := by
  obtain ⟨⟨o1, o2, o3, o4, o5, o6, o7⟩, ⟨t1, t2⟩, ⟨e0, e1, e2, e3, e4, e8, e9, e10, e11, e12, e13, e14, e15, e16, e17, e18, e19, e20, e21, e23⟩, b, w, ⟨m1, m2⟩, ct, ⟨n0, n1, n2, n3, n4, n5, n6, n7⟩⟩ := hl_R_up hc h
  obtain ⟨a1, a2, a3, a4⟩ := hl_n1 e11 e13 e14 e23 t2 (fun k hk => (o5 k hk).1) m2
  refine ⟨a1.symm, ?_⟩
  obtain ⟨c1, c2⟩ := hl_w0_cls g
  unfold f_X5_night f_X2_endNight f_X6_night
  generalize (hl_it (b_X6_n1 T) 0 N (t, 0)).1 = t' at *
  generalize f_X4_endNight g = g' at *
  have hN : hl_NI T g' t' 4 (hl_it b_X2_endNight 0 4 g') (hl_it (b_X6_n2 T) 0 4 t') := by
    refine hl_it_inv2 (hl_NI T g' t') b_X2_endNight (b_X6_n2 T) 4 g' t' ⟨?_, ?_, fun _ _ _ _ _ _ => rfl, fun _ _ _ _ => rfl, fun j _ hj => absurd hj (Nat.not_lt_zero j), fun j hj _ => ?_⟩ (fun k z z' hk hz => hl_night_step hk (by rw [c2 8 (by decide), a2 6 (by decide), e8]) hz)
    · rw [c2 3 (by decide), a2 3 (by decide), e3]
    · rw [c2 4 (by decide), a2 4 (by decide), e4]
    · rw [c2 5 (by decide), c2 6 (by decide), c2 7 (by decide), a2 10 (by decide)]
      exact w j hj
  obtain ⟨b3, b4, bg, bt, bd, _⟩ := hN
  generalize hl_it b_X2_endNight 0 4 g' = G at *
  generalize hl_it (b_X6_n2 T) 0 4 t' = U at *
  obtain ⟨d1, d2⟩ := hl_w0_ref U
  generalize hl_it b_X6_n4 0 8 U = V at *
  dsimp only
  have G' : ∀ p, p ≠ 3 → p ≠ 4 → p ≠ 5 → p ≠ 6 → p ≠ 7 → p ≠ 2 → G p = g p := fun p h3 h4 h5 h6 h7 h2 => by rw [bg p h3 h4 h5 h6 h7, c2 p h2]
  have V' : ∀ p, p ≠ 3 → p ≠ 4 → p ≠ 10 → p ≠ 2 → p ≠ 11 → V p = t p := fun p h3 h4 h10 h2 h11 => by rw [d2 p h2, bt p h3 h4 h10, a2 p h11]
  have G2 : G 2 = hl_w0 8 (g 2) := by rw [bg 2 (by decide) (by decide) (by decide) (by decide) (by decide), c1]
  have V2 : V 2 = hl_w0 8 (t 2) := by rw [d1, bt 2 (by decide) (by decide) (by decide), a2 2 (by decide)]
  have V11 : V 11 = t' 11 := by rw [d2 11 (by decide), bt 11 (by decide) (by decide) (by decide)]
  have V10 : V 10 = U 10 := d2 10 (by decide)
  have gg := fun p (h : (p ≠ 3 ∧ p ≠ 4 ∧ p ≠ 5 ∧ p ≠ 6 ∧ p ≠ 7 ∧ p ≠ 2)) => G' p h.1 h.2.1 h.2.2.1 h.2.2.2.1 h.2.2.2.2.1 h.2.2.2.2.2
  have vv := fun p (h : (p ≠ 3 ∧ p ≠ 4 ∧ p ≠ 10 ∧ p ≠ 2 ∧ p ≠ 11)) => V' p h.1 h.2.1 h.2.2.1 h.2.2.2.1 h.2.2.2.2
  refine ⟨⟨o1, (congrFun (gg 16 (by decide)) 0).trans o2, o3, (congrFun (gg 20 (by decide)) 0).trans o4, ?_, ?_, ?_⟩, ⟨by omega, ?_⟩,
    ⟨(gg 0 (by decide)).trans (e0.trans (vv 0 (by decide)).symm), (gg 1 (by decide)).trans (e1.trans (vv 1 (by decide)).symm), ?_, ?_, ?_, (gg 8 (by decide)).trans (e8.trans (vv 6 (by decide)).symm), rfl, (gg 10 (by decide)).trans (e10.trans (vv 12 (by decide)).symm), (gg 11 (by decide)).trans (e11.trans (vv 13 (by decide)).symm), (gg 12 (by decide)).trans (e12.trans (vv 14 (by decide)).symm), (gg 13 (by decide)).trans (e13.trans (vv 15 (by decide)).symm), (gg 14 (by decide)).trans (e14.trans (vv 16 (by decide)).symm), (gg 15 (by decide)).trans (e15.trans (vv 17 (by decide)).symm), (gg 16 (by decide)).trans (e16.trans (vv 18 (by decide)).symm), (gg 17 (by decide)).trans (e17.trans (vv 19 (by decide)).symm), (gg 18 (by decide)).trans (e18.trans (vv 20 (by decide)).symm), (gg 19 (by decide)).trans (e19.trans (vv 21 (by decide)).symm), (gg 20 (by decide)).trans (e20.trans (vv 22 (by decide)).symm), (gg 21 (by decide)).trans (e21.trans (vv 5 (by decide)).symm), ?_⟩,
    ?_, ?_, ⟨?_, ?_⟩, ?_, ⟨n0, ?_, ?_, ?_, hl_bd0 1 (by omega), ?_, ?_, ?_⟩⟩
  · show ∀ k, k < N → vp_in (G 11 k) 4 ∧ vp_in (G 12 k) 2
    rw [gg 11 (by decide), gg 12 (by decide)]; exact o5
  · show ∀ k, k < M → vp_in (G 18 k) 4
    rw [gg 18 (by decide)]; exact o6
  · show G 8 0 = 0 ∨ G 8 0 = 1
    rw [gg 8 (by decide)]; exact o7
  · show G 23 0 + 1 = nI (T + 1)
    rw [gg 23 (by decide), t2, nI_1]
  · show G 2 = V 2
    rw [G2, V2, e2]
  · show G 3 = V 3
    rw [b3, d2 3 (by decide)]
  · show G 4 = V 4
    rw [b4, d2 4 (by decide)]
  · show (fun _ => G 23 0 + 1) = (fun _ => V 8 0 + 1)
    rw [gg 23 (by decide), vv 8 (by decide), e23]
  · show hl_RB (G 22) (V 9)
    rw [gg 22 (by decide), vv 9 (by decide)]; exact b
  · show hl_RW (G 5) (G 6) (G 7) (V 10) (T + 1)
    rw [V10]
    intro k hk
    obtain ⟨x5, x6, x7⟩ := bd k hk hk
    refine ⟨?_, ?_, ?_⟩
    · rw [if_pos (by omega : 1 ≤ T + 1), x5, Nat.add_sub_cancel]
    · rw [x6]
      by_cases h1 : 1 ≤ T
      · rw [if_pos h1, if_pos (by omega : 2 ≤ T + 1), show T + 1 - 2 = T - 1 by omega]
      · rw [if_neg h1, if_neg (by omega : ¬ 2 ≤ T + 1)]
    · rw [x7, show T + 1 - 2 = T - 1 by omega]
  · intro s i hs hi
    show V 11 (4 * s + i) = hl_it (hl_miss _ s i) 0 N 0
    rw [V11, hl_miss_congr (g2 := g) (by exact gg 11 (by decide)) (by exact gg 13 (by decide)) (by exact gg 14 (by decide))]
    by_cases hs2 : s < T
    · rw [a4 _ (fun i _ => by omega)]; exact m1 s i hs2 hi
    · rw [show s = T by omega]; exact a3 i hi
  · intro s i hs hi
    show V 11 (4 * s + i) = 0
    rw [V11, a4 _ (fun i _ => by omega)]; exact m2 s i (by omega) hi
  · show M ≤ hl_cnt (G 14) N
    rw [gg 14 (by decide)]; exact ct
  · show hl_bd (G 0) 8 0 10
    rw [gg 0 (by decide)]; exact n1
  · show hl_bd (G 1) 8 1 100
    rw [gg 1 (by decide)]; exact n2
  · show hl_bd (G 2) 8 0 _
    rw [G2]; exact hl_w0_bd n3 (by omega) 8
  · show hl_bd (V 9) 16 0 _
    rw [vv 9 (by decide)]; exact n5
  · show hl_bd (G 19) M 0 10
    rw [gg 19 (by decide)]; exact n6
  · show ∀ k, k < N → vp_in (G 13 k) 400
    rw [gg 13 (by decide)]; exact n7
