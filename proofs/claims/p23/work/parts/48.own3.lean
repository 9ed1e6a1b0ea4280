/-! p23: points are burned -/
def hp_ps (s : Nat → Int32) (x : Int32) (f : Nat → Int32) : Nat → Int
  | 0 => 0
  | n + 1 => hp_ps s x f n + (if s n = x then (f n).toInt else 0)
theorem hp_ps_eq (g : Nat → Nat → Int32) (x : Int32) : ∀ n, n ≤ 80 → hl_bd (g 19) n 0 10 → (hl_it (b_X3_ofGuest g x) 0 n 0).toInt = hp_ps (g 17) x (g 19) n ∧ 0 ≤ hp_ps (g 17) x (g 19) n ∧ hp_ps (g 17) x (g 19) n ≤ 10 * n := by
  intro n
  induction n with
  | zero =>
    intro _ _
    refine ⟨?_, Int.le_refl 0, by show (0 : Int) ≤ _; omega⟩
    show (0 : Int32).toInt = 0
    decide
  | succ n ih =>
    intro hn hb
    obtain ⟨h1, h2, h3⟩ := ih (by omega) (fun k hk => hb k (by omega))
    have h4 := hb n (Nat.lt_succ_self n)
    rw [hl_it_snoc, Nat.zero_add]
    show (if g 17 n = x then hl_it (b_X3_ofGuest g x) 0 n 0 + g 19 n else hl_it (b_X3_ofGuest g x) 0 n 0).toInt = hp_ps (g 17) x (g 19) n + (if g 17 n = x then (g 19 n).toInt else 0) ∧ 0 ≤ hp_ps (g 17) x (g 19) n + (if g 17 n = x then (g 19 n).toInt else 0) ∧ hp_ps (g 17) x (g 19) n + (if g 17 n = x then (g 19 n).toInt else 0) ≤ _
    by_cases hx : g 17 n = x
    · rw [if_pos hx, if_pos hx, hl_ti_add (by omega) (by omega), h1]
      omega
    · rw [if_neg hx, if_neg hx, h1]
      omega
theorem hp_ps_upd (s : Nat → Int32) (x : Int32) (f : Nat → Int32) (k : Nat) (y : Int32) : ∀ n, hp_ps s x (upd f k y) n = hp_ps s x f n + (if k < n ∧ s k = x then y.toInt - (f k).toInt else 0) := by
  intro n
  induction n with
  | zero =>
    rw [if_neg (fun z => Nat.not_lt_zero _ z.1)]
    rfl
  | succ n ih =>
    show hp_ps s x (upd f k y) n + (if s n = x then (upd f k y n).toInt else 0) = hp_ps s x f n + (if s n = x then (f n).toInt else 0) + _
    rw [ih]
    by_cases hk : n = k
    · subst hk
      rw [hl_upd_at, if_neg (fun z => Nat.lt_irrefl _ z.1 : ¬ (n < n ∧ s n = x))]
      by_cases hx : s n = x
      · rw [if_pos hx, if_pos hx, if_pos ⟨Nat.lt_succ_self n, hx⟩]
        omega
      · rw [if_neg hx, if_neg hx, if_neg (fun z => hx z.2)]
    · rw [hl_upd_ne _ _ hk]
      generalize (if s n = x then (f n).toInt else 0) = Y
      by_cases hq : k < n ∧ s k = x
      · rw [if_pos hq, if_pos ⟨by omega, hq.2⟩]
        omega
      · rw [if_neg hq, if_neg (fun z => hq ⟨by omega, z.2⟩)]
        omega
theorem hp_ps_0 (s : Nat → Int32) (x : Int32) (f : Nat → Int32) : ∀ n, (∀ k, k < n → s k = x → (f k).toInt = 0) → hp_ps s x f n = 0 := by
  intro n
  induction n with
  | zero => intro _; rfl
  | succ n ih =>
    intro h
    show hp_ps s x f n + (if s n = x then (f n).toInt else 0) = 0
    rw [ih (fun k hk => h k (by omega))]
    by_cases hx : s n = x
    · rw [if_pos hx, h n (Nat.lt_succ_self n) hx]
      rfl
    · rw [if_neg hx]
      rfl
def hp_bi (g : Nat → Nat → Int32) (M : Nat) (x : Int32) (q C : Int) (k : Nat) (z : (Nat → Nat → Int32) × Int32) : Prop :=
  0 ≤ z.2.toInt ∧ z.2.toInt ≤ q ∧ (∀ p, p ≠ 19 → p ≠ 22 → z.1 p = g p) ∧ hl_bd (z.1 19) M 0 10 ∧ hp_ps (g 17) x (z.1 19) M - z.2.toInt = C ∧ (0 < z.2.toInt → ∀ i, i < k → g 17 i = x → (z.1 19 i).toInt = 0)
theorem hp_bi_step {g : Nat → Nat → Int32} {M k : Nat} {x y : Int32} {q C : Int} {z : (Nat → Nat → Int32) × Int32} (hM : M ≤ 80) (hk : k < M) (hq : q ≤ 100) (h : hp_bi g M x q C k z) : hp_bi g M x q C (k + 1) (b_X5_burn x y k z) := by
  obtain ⟨G, n⟩ := z
  obtain ⟨z0, zq, zg, zb, zC, zz⟩ := h
  dsimp only at z0 zq zg zb zC zz
  have hL := zb k hk
  obtain ⟨G', a1, a2, a3, a4⟩ := hl_burn_cls (x := x) (y := y) (by omega : k < 80) hL.1 z0
  rw [a1]
  have g17 : G 17 = g 17 := zg 17 (by decide) (by decide)
  have hbt : 0 ≤ (hl_bt G n x k).toInt ∧ (hl_bt G n x k).toInt ≤ n.toInt ∧ (hl_bt G n x k).toInt ≤ (G 19 k).toInt ∧ (¬ g 17 k = x → (hl_bt G n x k).toInt = 0) ∧ (g 17 k = x → (hl_bt G n x k).toInt < n.toInt → (hl_bt G n x k).toInt = (G 19 k).toInt) := by
    unfold hl_bt
    rw [g17]
    by_cases hx : g 17 k = x
    · rw [if_pos hx]
      split
      · next hh => exact ⟨z0, Int.le_refl _, Int32.le_iff_toInt_le.mp hh, fun z => absurd hx z, fun _ z => absurd z (Int.lt_irrefl _)⟩
      · next hh =>
        have q2 : ¬ n.toInt ≤ (G 19 k).toInt := fun z => hh (Int32.le_iff_toInt_le.mpr z)
        exact ⟨hL.1, by omega, Int.le_refl _, fun z => absurd hx z, fun _ _ => rfl⟩
    · rw [if_neg hx, show (0 : Int32).toInt = 0 by decide]
      exact ⟨by omega, z0, hL.1, fun _ => rfl, fun z => absurd z hx⟩
  generalize hl_bt G n x k = bt at *
  have s1 : (n - bt).toInt = n.toInt - bt.toInt := hl_ti_sub (by omega) (by omega)
  have s2 : (G 19 k - bt).toInt = (G 19 k).toInt - bt.toInt := hl_ti_sub (by omega) (by omega)
  obtain ⟨t0, t1, t2, t3, t4⟩ := hbt
  refine ⟨by rw [s1]; omega, by rw [s1]; omega, fun p hp hp2 => (a2 p hp hp2).trans (zg p hp hp2), ?_, ?_, fun hp i hi hxi => ?_⟩
  · show hl_bd (G' 19) M 0 10
    rw [a3]
    exact hl_bd_upd zb (by rw [s2]; omega)
  · show hp_ps (g 17) x (G' 19) M - (n - bt).toInt = C
    rw [a3, hp_ps_upd, s1, s2]
    by_cases hx : g 17 k = x
    · rw [if_pos ⟨hk, hx⟩]
      omega
    · rw [if_neg (fun z => hx z.2)]
      have := t3 hx
      omega
  · show (G' 19 i).toInt = 0
    have hp' : 0 < (n - bt).toInt := hp
    rw [s1] at hp'
    rw [a3]
    by_cases hik : i = k
    · subst hik
      rw [hl_upd_at, s2, t4 hxi (by omega)]
      omega
    · rw [hl_upd_ne _ _ hik]
      exact zz (by omega) i (by omega) hxi
theorem hp_keepB {G g r : Nat → Nat → Int32} {N T : Nat} (e10 : G 10 = g 10) (e11 : G 11 = g 11) (e12 : G 12 = g 12) (e13 : G 13 = g 13) (e14 : G 14 = g 14) (e15 : G 15 = g 15) (jB : hp_B g r N T) : hp_B G r N T := by
  unfold hp_B
  rw [e10, e11, e12, e13, e14, e15]
  exact jB
theorem hp_keepS {G g : Nat → Nat → Int32} {N T : Nat} (e2 : G 2 = g 2) (e12 : G 12 = g 12) (e13 : G 13 = g 13) (e15 : G 15 = g 15) (jS : hp_S g N T) : hp_S G N T := fun i k hi hk => by
  rw [e2, jS i k hi hk]
  refine hl_it_congr _ _ N 0 (fun b u _ => ?_)
  unfold b_X0_sleepersAt
  rw [e12, e13, e15]
theorem hp_keepL {G g : Nat → Nat → Int32} (e3 : G 3 = g 3) (e4 : G 4 = g 4) (e5 : G 5 = g 5) (e6 : G 6 = g 6) (e7 : G 7 = g 7) : hp_lins G = hp_lins g := by
  unfold hp_lins hp_lin
  rw [e3, e4, e5, e6, e7]
section HPB
variable {cn : Nat} {lin : Int32} {N M T P : Nat} {t g r : Nat → Nat → Int32}
theorem hp_burnpts {w I q H : Nat} (hc : cn < 100) (hJ : hp_J cn lin N M T P t g r) (hI : I < 4) (eH : hl_it (b_X3_ofGuest g (nI w)) 0 M 0 = nI H) (h1 : 1 ≤ q ∧ q ≤ 100) (h2 : q ≤ H) (hH : H ≤ 800) : hl_it (b_X3_ofGuest (f_X5_burnEarliest g M (nI w) (nI I) (nI q)) (nI w)) 0 M 0 = nI (H - q) := by
  obtain ⟨j0, jR, jN, jT, jB, jS, jrm, jl, jp, jP, j60⟩ := hJ
  have hM : M ≤ 80 := jR.1.2.2.1
  have hb : hl_bd (g 19) M 0 10 := jR.2.2.2.2.2.2.2.2.2.2.2.2.2.1
  have hq : (nI q).toInt = q := nI_toInt (by omega)
  have e0 := hp_ps_eq g (nI w) M hM hb
  rw [eH, nI_toInt (by omega)] at e0
  have key := hl_it_inv (hp_bi g M (nI w) 100 (H - q)) (b_X5_burn (nI w) (nI I)) M (g, nI q)
    ⟨by show 0 ≤ (nI q).toInt; omega, by show (nI q).toInt ≤ 100; omega, fun _ _ _ => rfl, hb, by show hp_ps (g 17) (nI w) (g 19) M - (nI q).toInt = _; omega, fun _ i hi => absurd hi (Nat.not_lt_zero i)⟩
    (fun k z hk hz => hp_bi_step hM hk (by omega) hz)
  unfold f_X5_burnEarliest
  obtain ⟨z0, zq, zg, zb, zC, zz⟩ := key
  generalize hl_it (b_X5_burn (nI w) (nI I)) 0 M (g, nI q) = z at *
  have e1 := hp_ps_eq z.1 (nI w) M hM zb
  rw [zg 17 (by decide) (by decide)] at e1
  apply Int32.toInt_inj.mp
  rw [e1.1, nI_toInt (by omega)]
  by_cases hz : 0 < z.2.toInt
  · have e2 := hp_ps_0 (g 17) (nI w) (z.1 19) M (zz hz)
    omega
  · omega
theorem hp_burn {w I q : Nat} (hc : cn < 100) (hJ : hp_J cn lin N M T P t g r) (hI : I < 4) (h1 : 1 ≤ q) (h2 : q ≤ 100) : hp_I (cn + 1) lin (f_X5_burnEarliest g M (nI w) (nI I) (nI q)) r := by
  obtain ⟨j0, jR, jN, jT, jB, jS, jrm, jl, jp, jP, j60⟩ := hJ
  have hR := hl_R_burn (x := nI w) (by omega) jR (vp_in_nI hI (by decide)) (nI_nlt (a := q) (b := 1) h1 (by omega)) (nI_le (b := 100) h2 (by omega))
  have e : ∀ p, p ≠ 19 → p ≠ 22 → f_X5_burnEarliest g M (nI w) (nI I) (nI q) p = g p := fun p hp hp2 => fr_X5_burnIt _ _ hp hp2 M 0 (g, nI q)
  generalize f_X5_burnEarliest g M (nI w) (nI I) (nI q) = G at *
  exact ⟨N, M, T, P, _, by omega, hp_up1 hc hR, by omega, by omega, hp_keepB (e 10 (by decide) (by decide)) (e 11 (by decide) (by decide)) (e 12 (by decide) (by decide)) (e 13 (by decide) (by decide)) (e 14 (by decide) (by decide)) (e 15 (by decide) (by decide)) jB,
    hp_keepS (e 2 (by decide) (by decide)) (e 12 (by decide) (by decide)) (e 13 (by decide) (by decide)) (e 15 (by decide) (by decide)) jS, by rw [e 0 (by decide) (by decide)]; exact jrm,
    by rw [hp_keepL (e 3 (by decide) (by decide)) (e 4 (by decide) (by decide)) (e 5 (by decide) (by decide)) (e 6 (by decide) (by decide)) (e 7 (by decide) (by decide))]; exact jl, by rw [e 21 (by decide) (by decide)]; exact jp, by omega, j60⟩
end HPB
