/-! THE RELATION of the class's contents g and the reference's t, after c calls, with N bookings, M lots, in the night T -/
theorem hl_ti_add {a b : Int32} (h : -2147483648 ≤ a.toInt + b.toInt) (h2 : a.toInt + b.toInt < 2147483648) : (a + b).toInt = a.toInt + b.toInt := by
  rw [Int32.toInt_add]
  apply Int.bmod_eq_of_le <;> omega
theorem hl_ti_sub {a b : Int32} (h : -2147483648 ≤ a.toInt - b.toInt) (h2 : a.toInt - b.toInt < 2147483648) : (a - b).toInt = a.toInt - b.toInt := by
  rw [Int32.toInt_sub]
  apply Int.bmod_eq_of_le <;> omega
def hl_cnt (f : Nat → Int32) : Nat → Nat
  | 0 => 0
  | n + 1 => hl_cnt f n + (if f n = 0 then 0 else 1)
theorem hl_cnt_le (f : Nat → Int32) : ∀ n, hl_cnt f n ≤ n := by
  intro n
  induction n with
  | zero => exact Nat.le_refl 0
  | succ n ih =>
    show hl_cnt f n + (if f n = 0 then 0 else 1) ≤ n + 1
    split <;> omega
theorem hl_cnt_upd (f : Nat → Int32) {x : Nat} {y : Int32} (hy : ¬ y = 0) (hx : f x = 0) : ∀ n, hl_cnt (upd f x y) n = hl_cnt f n + (if x < n then 1 else 0) := by
  intro n
  induction n with
  | zero => rfl
  | succ n ih =>
    show hl_cnt (upd f x y) n + (if upd f x y n = 0 then 0 else 1) = hl_cnt f n + (if f n = 0 then 0 else 1) + _
    rw [ih]
    by_cases h : n = x
    · subst h
      rw [hl_upd_at, hx, if_neg hy, if_pos rfl, if_neg (Nat.lt_irrefl n), if_pos (Nat.lt_succ_self n)]
    · rw [hl_upd_ne f y h]
      by_cases h2 : x < n
      · rw [if_pos h2, if_pos (Nat.lt_succ_of_lt h2)]; omega
      · rw [if_neg h2, if_neg (by omega : ¬ x < n + 1)]; rfl
theorem hl_cnt_lt (f : Nat → Int32) {x n : Nat} (hx : f x = 0) (hn : x < n) : hl_cnt f n < n := by
  have h := hl_cnt_upd f (y := 1) (by decide) hx n
  have h2 := hl_cnt_le (upd f x 1) n
  rw [if_pos hn] at h
  omega
def hl_wsh (f : Nat → Int32) (k n : Nat) : Int32 := hl_it (fun s u => u + f (4 * s + k)) 0 n 0
def hl_RE (g t : Nat → Nat → Int32) : Prop := g 0 = t 0 ∧ g 1 = t 1 ∧ g 2 = t 2 ∧ g 3 = t 3 ∧ g 4 = t 4 ∧ g 8 = t 6 ∧ g 9 = t 7 ∧ g 10 = t 12 ∧ g 11 = t 13 ∧ g 12 = t 14 ∧ g 13 = t 15 ∧ g 14 = t 16 ∧ g 15 = t 17 ∧ g 16 = t 18 ∧ g 17 = t 19 ∧ g 18 = t 20 ∧ g 19 = t 21 ∧ g 20 = t 22 ∧ g 21 = t 5 ∧ g 23 = t 8
def hl_RB (f d : Nat → Int32) : Prop := ∀ i j, i < 4 → j < 4 → f (4 * i + j) = d (4 * i + j) - d (4 * j + i)
def hl_RW (f5 f6 f7 w : Nat → Int32) (T : Nat) : Prop := ∀ k, k < 4 → f5 k = (if 1 ≤ T then w (4 * (T - 1) + k) else 0) ∧ f6 k = (if 2 ≤ T then w (4 * (T - 2) + k) else 0) ∧ f7 k = hl_wsh w k (T - 2)
def hl_RM (g : Nat → Nat → Int32) (w : Nat → Int32) (N T : Nat) : Prop := (∀ s i, s < T → i < 4 → w (4 * s + i) = hl_it (hl_miss g s i) 0 N 0) ∧ ∀ s i, T ≤ s → i < 4 → w (4 * s + i) = 0
def hl_bd (f : Nat → Int32) (n : Nat) (lo hi : Int) : Prop := ∀ j, j < n → lo ≤ (f j).toInt ∧ (f j).toInt ≤ hi
def hl_RN (c : Nat) (g t : Nat → Nat → Int32) (N M : Nat) : Prop := c ≤ 512 ∧ hl_bd (g 0) 8 0 10 ∧ hl_bd (g 1) 8 1 100 ∧ hl_bd (g 2) 8 0 c ∧ hl_bd (g 9) 1 0 c ∧ hl_bd (t 9) 16 0 (1000 * c) ∧ hl_bd (g 19) M 0 10 ∧ ∀ k, k < N → vp_in (g 13 k) 400
def hl_R (c N M T : Nat) (g t : Nat → Nat → Int32) : Prop := hl_ok g N M ∧ (T ≤ 300 ∧ g 23 0 = nI T) ∧ hl_RE g t ∧ hl_RB (g 22) (t 9) ∧ hl_RW (g 5) (g 6) (g 7) (t 10) T ∧ hl_RM g (t 11) N T ∧ M ≤ hl_cnt (g 14) N ∧ hl_RN c g t N M
theorem hl_bd_mono {f : Nat → Int32} {n : Nat} {lo hi hi2 : Int} (h : hl_bd f n lo hi) (h2 : hi ≤ hi2) : hl_bd f n lo hi2 := fun j hj => ⟨(h j hj).1, Int.le_trans (h j hj).2 h2⟩
theorem hl_bd_upd {f : Nat → Int32} {n k : Nat} {lo hi : Int} {x : Int32} (h : hl_bd f n lo hi) (hx : lo ≤ x.toInt ∧ x.toInt ≤ hi) : hl_bd (upd f k x) n lo hi := by
  intro j hj
  unfold upd
  split
  · exact hx
  · exact h j hj
theorem hl_RN_up {c : Nat} {g t : Nat → Nat → Int32} {N M : Nat} (hc : c < 512) (h : hl_RN c g t N M) : hl_RN (c + 1) g t N M := by
  obtain ⟨n0, n1, n2, n3, n4, n5, n6, n7⟩ := h
  exact ⟨hc, n1, n2, hl_bd_mono n3 (by omega), hl_bd_mono n4 (by omega), hl_bd_mono n5 (by omega), n6, n7⟩
theorem hl_R_up {c N M T : Nat} {g t : Nat → Nat → Int32} (hc : c < 512) (h : hl_R c N M T g t) : hl_R (c + 1) N M T g t := by
  obtain ⟨h1, h2, h3, h4, h5, h6, h7, h8⟩ := h
  exact ⟨h1, h2, h3, h4, h5, h6, h7, hl_RN_up hc h8⟩
theorem hl_R_t {c N M T : Nat} {g t : Nat → Nat → Int32} (f : Nat → Int32) (h : hl_R c N M T g t) : hl_R c N M T g (hl_su t 23 f) := by
  obtain ⟨h1, h2, h3, h4, h5, h6, h7, h8⟩ := h
  exact ⟨h1, h2, h3, h4, h5, h6, h7, h8⟩
theorem hl_R_okM {c N M T : Nat} {g t : Nat → Nat → Int32} (h : hl_R c N M T g t) : hl_okM t N M T := by
  obtain ⟨⟨o1, o2, o3, o4, o5, o6, o7⟩, ⟨t1, t2⟩, ⟨e0, e1, e2, e3, e4, e8, e9, e10, e11, e12, e13, e14, e15, e16, e17, e18, e19, e20, e21, e23⟩, h4, h5, h6, h7, h8⟩ := h
  rw [e16] at o2; rw [e20] at o4; rw [e11, e12] at o5; rw [e18] at o6; rw [e8] at o7; rw [e23] at t2
  exact ⟨o1, o2, o3, o4, t1, t2, o5, o6, o7⟩
theorem hl_bd0 (n : Nat) {hi : Int} (h : 0 ≤ hi) : hl_bd (fun _ => 0) n 0 hi := fun _ _ => by
  show (0 : Int) ≤ (0 : Int32).toInt ∧ (0 : Int32).toInt ≤ hi
  rw [show (0 : Int32).toInt = 0 by decide]
  exact ⟨Int.le_refl 0, h⟩
theorem hl_R_0 : hl_R 0 0 0 0 hl_g0 hl_t0 :=
  ⟨⟨by decide, by decide, by decide, by decide, fun k h => absurd h (Nat.not_lt_zero k), fun k h => absurd h (Nat.not_lt_zero k), Or.inl rfl⟩, ⟨by decide, by decide⟩, ⟨rfl, rfl, rfl, rfl, rfl, rfl, rfl, rfl, rfl, rfl, rfl, rfl, rfl, rfl, rfl, rfl, rfl, rfl, rfl, rfl⟩,
    fun i j _ _ => (by decide : (0 : Int32) = 0 - 0), fun k _ => ⟨rfl, rfl, rfl⟩, ⟨fun s i h => absurd h (Nat.not_lt_zero s), fun s i _ _ => rfl⟩, Nat.le_refl 0,
    ⟨by decide, hl_bd0 8 (by decide), (by decide +kernel : ∀ j, j < 8 → (1 : Int) ≤ (hl_ten j).toInt ∧ (hl_ten j).toInt ≤ 100), hl_bd0 8 (by decide), hl_bd0 1 (by decide), hl_bd0 16 (by decide), hl_bd0 0 (by decide), fun j h => absurd h (Nat.not_lt_zero j)⟩⟩
theorem hl_nlt_ti {x y : Int32} (h : ¬ x < y) : y.toInt ≤ x.toInt := Int.not_lt.mp (fun z => h (Int32.lt_iff_toInt_lt.mpr z))
theorem hl_R_setRooms {c N M T : Nat} {g t : Nat → Nat → Int32} {x y n q : Int32} (hc : c < 512) (h : hl_R c N M T g t) (h3 : ¬ n < 0) (h4 : n ≤ 10) (h5 : ¬ q < 1) (h6 : q ≤ 100) :
    hl_R (c + 1) N M T (f_X4_change g x y n q) (hl_su (hl_su (hl_su t 23 (fun _ => 0)) 0 (upd (t 0) (2 * x + y).toNatClampNeg n)) 1 (upd (t 1) (2 * x + y).toNatClampNeg q)) := by
  rw [Int32.mul_comm 2 x]
  obtain ⟨o, tt, ⟨e0, e1, er⟩, b, w, m, ct, ⟨n0, n1, n2, n3, n4, n5, n6, n7⟩⟩ := hl_R_up hc h
  refine ⟨o, tt, ⟨?_, ?_, er⟩, b, w, m, ct, ⟨n0, ?_, ?_, n3, n4, n5, n6, n7⟩⟩
  · show upd (g 0) _ n = upd (t 0) _ n
    rw [e0]
  · show upd (g 1) _ q = upd (t 1) _ q
    rw [e1]
  · exact hl_bd_upd n1 ⟨hl_nlt_ti h3, Int32.le_iff_toInt_le.mp h4⟩
  · exact hl_bd_upd n2 ⟨hl_nlt_ti h5, Int32.le_iff_toInt_le.mp h6⟩
theorem hl_R_buyLinen {c N M T : Nat} {g t : Nat → Nat → Int32} {x n : Int32} (hc : c < 512) (h : hl_R c N M T g t) :
    hl_R (c + 1) N M T (f_X2_addClean g x n) (hl_su (hl_su t 23 (fun _ => 0)) 3 (upd (t 3) x.toNatClampNeg (t 3 x.toNatClampNeg + n))) := by
  obtain ⟨o, tt, ⟨e0, e1, e2, e3, er⟩, b, w, m, ct, nn⟩ := hl_R_up hc h
  refine ⟨o, tt, ⟨e0, e1, e2, ?_, er⟩, b, w, m, ct, nn⟩
  show upd (g 3) _ _ = upd (t 3) _ _
  rw [e3]
theorem hl_R_setBroken {c N M T : Nat} {g t : Nat → Nat → Int32} {x : Int32} (hc : c < 512) (h : hl_R c N M T g t) (hx : x = 0 ∨ x = 1) :
    hl_R (c + 1) N M T (hl_su g 8 (fun _ => x)) (hl_su (hl_su t 23 (fun _ => 0)) 6 (fun _ => x)) := by
  obtain ⟨⟨o1, o2, o3, o4, o5, o6, o7⟩, tt, ⟨e0, e1, e2, e3, e4, e8, er⟩, b, w, m, ct, nn⟩ := hl_R_up hc h
  exact ⟨⟨o1, o2, o3, o4, o5, o6, hx⟩, tt, ⟨e0, e1, e2, e3, e4, rfl, er⟩, b, w, m, ct, nn⟩
theorem hl_R_book {c N M T : Nat} {g t : Nat → Nat → Int32} {x y z v : Int32} (hc : c < 512) (h : hl_R c N M T g t) (h2 : vp_in y 4) (h3 : vp_in z 2) (h4 : ¬ v < g 23 0) (h5 : v ≤ g 23 0 + 10) (h6 : N < 80) :
    hl_R (c + 1) (N + 1) M T (f_X0_add g x y z v) (f_X6_book (hl_su t 23 (fun _ => 0)) x y z v) := by
  obtain ⟨⟨o1, o2, o3, o4, o5, o6, o7⟩, ⟨t1, t2⟩, ⟨e0, e1, e2, e3, e4, e8, e9, e10, e11, e12, e13, e14, e15, e16, e17, e18, e19, e20, e21, e23⟩, b, w, ⟨m1, m2⟩, ct, ⟨n0, n1, n2, n3, n4, n5, n6, n7⟩⟩ := hl_R_up hc h
  have hi : (g 16 0).toNatClampNeg = N := by rw [o2, nI_clamp (by omega)]
  have hi2 : (t 18 0).toNatClampNeg = N := by rw [← e16]; exact hi
  rw [t2] at h4 h5
  have hT : (nI T).toInt = T := nI_toInt (by omega)
  have hv1 : (T : Int) ≤ v.toInt := by rw [← hT]; exact hl_nlt_ti h4
  have hv2 : v.toInt ≤ T + 10 := by
    have q := Int32.le_iff_toInt_le.mp h5
    rw [hl_ti_add (by rw [hT]; show -2147483648 ≤ (T : Int) + 10; omega) (by rw [hT]; show (T : Int) + 10 < 2147483648; omega), hT] at q
    exact q
  have g11 : ∀ k, k < N + 1 → k ≠ N → (f_X0_add g x y z v) 11 k = g 11 k := fun k _ hk => by
    show upd (g 11) (g 16 0).toNatClampNeg y k = _
    rw [hi, hl_upd_ne _ _ hk]
  have g12 : ∀ k, k < N + 1 → k ≠ N → (f_X0_add g x y z v) 12 k = g 12 k := fun k _ hk => by
    show upd (g 12) (g 16 0).toNatClampNeg z k = _
    rw [hi, hl_upd_ne _ _ hk]
  have g13 : ∀ k, k < N + 1 → k ≠ N → (f_X0_add g x y z v) 13 k = g 13 k := fun k _ hk => by
    show upd (g 13) (g 16 0).toNatClampNeg v k = _
    rw [hi, hl_upd_ne _ _ hk]
  have g11N : (f_X0_add g x y z v) 11 N = y := by
    show upd (g 11) (g 16 0).toNatClampNeg y N = _
    rw [hi, hl_upd_at]
  have g12N : (f_X0_add g x y z v) 12 N = z := by
    show upd (g 12) (g 16 0).toNatClampNeg z N = _
    rw [hi, hl_upd_at]
  have g13N : (f_X0_add g x y z v) 13 N = v := by
    show upd (g 13) (g 16 0).toNatClampNeg v N = _
    rw [hi, hl_upd_at]
  refine ⟨⟨by omega, ?_, o3, o4, ?_, o6, o7⟩, ⟨t1, t2⟩, ⟨e0, e1, e2, e3, e4, e8, e9, ?_, ?_, ?_, ?_, e14, ?_, ?_, e17, e18, e19, e20, e21, e23⟩, b, w, ⟨?_, m2⟩, ?_, ⟨n0, n1, n2, n3, n4, n5, n6, ?_⟩⟩
  · show g 16 0 + 1 = nI (N + 1)
    rw [o2, nI_1]
  · intro k hk
    by_cases hk2 : k = N
    · rw [hk2, g11N, g12N]; exact ⟨h2, h3⟩
    · rw [g11 k hk hk2, g12 k hk hk2]; exact o5 k (by omega)
  · show upd (g 10) (g 16 0).toNatClampNeg x = upd (t 12) (t 18 0).toNatClampNeg x
    rw [hi, hi2, e10]
  · show upd (g 11) (g 16 0).toNatClampNeg y = upd (t 13) (t 18 0).toNatClampNeg y
    rw [hi, hi2, e11]
  · show upd (g 12) (g 16 0).toNatClampNeg z = upd (t 14) (t 18 0).toNatClampNeg z
    rw [hi, hi2, e12]
  · show upd (g 13) (g 16 0).toNatClampNeg v = upd (t 15) (t 18 0).toNatClampNeg v
    rw [hi, hi2, e13]
  · show upd (g 15) (g 16 0).toNatClampNeg (-1) = upd (t 17) (t 18 0).toNatClampNeg (-1)
    rw [hi, hi2, e15]
  · show (fun _ => g 16 0 + 1) = (fun _ => t 18 0 + 1)
    rw [e16]
  · intro s i hs hi4
    show t 11 (4 * s + i) = _
    rw [m1 s i hs hi4, hl_it_snoc, Nat.zero_add]
    have hm : ∀ u, hl_miss (f_X0_add g x y z v) s i N u = u := fun u => by
      unfold hl_miss
      rw [g13N, if_neg]
      rintro ⟨_, q, _⟩
      rw [q, nI_toInt (by omega)] at hv1
      omega
    rw [hm]
    refine hl_it_congr _ _ N 0 (fun k u hk => ?_)
    unfold hl_miss
    rw [g11 k (by omega) (by omega), g13 k (by omega) (by omega)]
    rfl
  · exact Nat.le_trans ct (Nat.le_add_right _ _)
  · intro k hk
    by_cases hk2 : k = N
    · rw [hk2, g13N]; exact vp_in_iff.mpr ⟨by omega, by omega⟩
    · rw [g13 k hk hk2]; exact n7 k (by omega)
