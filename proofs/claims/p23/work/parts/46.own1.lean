/-! p23: what holds between the class's contents g and the law's own r, behind cn of its steps. lin: the linen bought; P: the coins received. t: a second picture of the class, there for the bounds that hl_R keeps -/
def hp_lin (g : Nat → Nat → Int32) (k : Nat) : Int32 := g 3 k + (g 4 k + g 5 k + g 6 k + g 7 k)
def hp_lins (g : Nat → Nat → Int32) : Int32 := 0 + hp_lin g 0 + hp_lin g 1 + hp_lin g 2 + hp_lin g 3
def hp_pur (f : Nat → Int32) : Int32 := 0 + f 0 + f 1 + f 2 + f 3
def hp_B (g r : Nat → Nat → Int32) (N T : Nat) : Prop := (∀ b, b < N → ∃ n i k : Nat, n < 400 ∧ i < 4 ∧ k < 2 ∧ g 13 b = nI n ∧ g 11 b = nI i ∧ g 12 b = nI k ∧ r 1 b = nI (8 * n + 2 * i + k) ∧ r 2 b = g 10 b ∧ vp_in (g 10 b) 10 ∧ r 3 b = g 14 b ∧ (g 14 b = 0 ∧ g 15 b = -1 ∨ g 14 b = 1 ∧ n ≤ T)) ∧ ∀ b, N ≤ b → (b < 80 → g 14 b = 0) ∧ (b < 60 → r 3 b = 0)
def hp_S (g : Nat → Nat → Int32) (N T : Nat) : Prop := ∀ i k, i < 4 → k < 2 → g 2 (i * 2 + k) = hl_it (b_X0_sleepersAt g (nI i) (nI k) (nI T)) 0 N 0
def hp_J (cn : Nat) (lin : Int32) (N M T P : Nat) (t g r : Nat → Nat → Int32) : Prop := cn ≤ 100 ∧ hl_R (2 * cn) N M T g t ∧ N ≤ cn ∧ T ≤ cn ∧ hp_B g r N T ∧ hp_S g N T ∧ (∀ j, j < 8 → r 0 j = g 0 j) ∧ hp_lins g = lin ∧ hp_pur (g 21) = nI P ∧ P ≤ 100 * cn ∧ N ≤ 60
def hp_I (cn : Nat) (lin : Int32) (g r : Nat → Nat → Int32) : Prop := ∃ (N M T P : Nat) (t : Nat → Nat → Int32), hp_J cn lin N M T P t g r
theorem hp_c0 : (nI 0).toNatClampNeg = 0 := nI_clamp (by omega)
theorem hp_c1 : (nI 1).toNatClampNeg = 1 := nI_clamp (by omega)
theorem hp_c2 : (nI 2).toNatClampNeg = 2 := nI_clamp (by omega)
theorem hp_c3 : (nI 3).toNatClampNeg = 3 := nI_clamp (by omega)
theorem hp_sum0 (g : Nat → Nat → Int32) : r_L_sum g 0 = hp_pur (g 21) := by
  show b_L_sum g 0 3 (b_L_sum g 0 2 (b_L_sum g 0 1 (b_L_sum g 0 0 0))) = _
  unfold b_L_sum hp_pur
  rw [if_pos rfl, if_pos rfl, if_pos rfl, if_pos rfl, hp_c0, hp_c1, hp_c2, hp_c3]
theorem hp_away (g : Nat → Nat → Int32) (k : Nat) (hk : k < 4) : r_X2_awayOf g (nI k) = g 4 k + g 5 k + g 6 k + g 7 k := by
  unfold r_X2_awayOf
  rw [nI_clamp (by omega)]
theorem hp_sum1 (g : Nat → Nat → Int32) : r_L_sum g 1 = hp_lins g := by
  show b_L_sum g 1 3 (b_L_sum g 1 2 (b_L_sum g 1 1 (b_L_sum g 1 0 0))) = _
  unfold b_L_sum hp_lins hp_lin
  rw [if_neg (by decide), if_neg (by decide), if_neg (by decide), if_neg (by decide), hp_c0, hp_c1, hp_c2, hp_c3, hp_away g 0 (by omega), hp_away g 1 (by omega), hp_away g 2 (by omega), hp_away g 3 (by omega)]
theorem hp_up2 {c N M T : Nat} {g t : Nat → Nat → Int32} (h : hl_R (2 * c + 1 + 1) N M T g t) : hl_R (2 * (c + 1)) N M T g t := by
  rw [show 2 * (c + 1) = 2 * c + 1 + 1 by omega]
  exact h
theorem hp_up1 {c N M T : Nat} {g t : Nat → Nat → Int32} (hc : c < 100) (h : hl_R (2 * c + 1) N M T g t) : hl_R (2 * (c + 1)) N M T g t := hp_up2 (hl_R_up (by omega) h)
theorem hp_ix {I K : Nat} (hI : I < 4) (hK : K < 2) : (nI I * 2 + nI K).toNatClampNeg = 2 * I + K := by
  show (nI I * nI 2 + nI K).toNatClampNeg = _
  rw [pk_mul, nI_add, nI_clamp (by omega)]
  omega
theorem hp_rooms {g r : Nat → Nat → Int32} {I K : Nat} (h : ∀ j, j < 8 → r 0 j = g 0 j) (hI : I < 4) (hK : K < 2) : g 0 (nI I * 2 + nI K).toNatClampNeg = r 0 (2 * I + K) := by
  rw [hp_ix hI hK, h _ (by omega)]
theorem hp_buy (g : Nat → Nat → Int32) (x : Int32) (w : Nat) : f_X2_addClean g x (nI (1 + w)) 3 x.toNatClampNeg = g 3 x.toNatClampNeg + 1 + nI w := by
  show upd (g 3) x.toNatClampNeg (g 3 x.toNatClampNeg + nI (1 + w)) x.toNatClampNeg = _
  rw [hl_upd_at, ← nI_add, Int32.add_assoc]
  rfl
theorem hp_add10 (T : Nat) : nI T + 10 = nI (T + 10) := nI_add T 10
theorem hp_mark8 {n i k : Nat} (hn : 8 * n + 2 * i + k < 2147483648) (hi : i < 4) (hk : k < 2) : nI (8 * n + 2 * i + k) / 8 = nI n := by
  refine (pk_div (a := 8 * n + 2 * i + k) (d := 8) (by omega) (by omega) (by omega)).trans ?_
  rw [show (8 * n + 2 * i + k) / 8 = n by omega]
theorem hp_sub3 {H q : Nat} (h : 1 + q ≤ H) (hH : H < 2147483648) : nI (H - (1 + q)) = nI H - 1 - nI q := by
  have e : nI H = nI (H - (1 + q)) + (1 + nI q) := by
    show _ = _ + (nI 1 + nI q)
    rw [nI_add, nI_add, show H - (1 + q) + (1 + q) = H by omega]
  rw [e]
  grind
section HPS
variable {cn : Nat} {lin : Int32} {N M T P : Nat} {t g r : Nat → Nat → Int32}
theorem hp_skip (hc : cn < 100) (hJ : hp_J cn lin N M T P t g r) : hp_I (cn + 1) lin g r := by
  obtain ⟨j0, jR, jN, jT, jB, jS, jrm, jl, jp, jP, j60⟩ := hJ
  exact ⟨N, M, T, P, t, by omega, hp_up1 hc (hl_R_up (by omega) jR), by omega, by omega, jB, jS, jrm, jl, jp, by omega, j60⟩
theorem hp_setRooms {I K n q : Nat} (hc : cn < 100) (hJ : hp_J cn lin N M T P t g r) (hI : I < 4) (hK : K < 2) (hn : n ≤ 10) (hq : 1 ≤ q) (hq2 : q ≤ 100) :
    hp_I (cn + 1) lin (f_X4_change g (nI I) (nI K) (nI n) (nI q)) (hl_su r 0 (upd (r 0) (2 * I + K) (nI n))) := by
  obtain ⟨j0, jR, jN, jT, jB, jS, jrm, jl, jp, jP, j60⟩ := hJ
  refine ⟨N, M, T, P, _, by omega, hp_up1 hc (hl_R_setRooms (by omega) jR (nI_pos (by omega)) (nI_le (b := 10) hn (by omega)) (nI_nlt (b := 1) hq (by omega)) (nI_le (b := 100) hq2 (by omega))), by omega, by omega, jB, jS, fun j hj => ?_, jl, jp, by omega, j60⟩
  show upd (r 0) (2 * I + K) (nI n) j = upd (g 0) (nI I * 2 + nI K).toNatClampNeg (nI n) j
  rw [hp_ix hI hK]
  unfold upd
  split
  · rfl
  · exact jrm j hj
theorem hp_lins3 {I : Nat} (hI : I < 4) (n : Int32) : hp_lins (f_X2_addClean g (nI I) n) = hp_lins g + n := by
  show 0 + (upd (g 3) (nI I).toNatClampNeg (g 3 (nI I).toNatClampNeg + n) 0 + (g 4 0 + g 5 0 + g 6 0 + g 7 0)) + (upd (g 3) (nI I).toNatClampNeg (g 3 (nI I).toNatClampNeg + n) 1 + (g 4 1 + g 5 1 + g 6 1 + g 7 1)) + (upd (g 3) (nI I).toNatClampNeg (g 3 (nI I).toNatClampNeg + n) 2 + (g 4 2 + g 5 2 + g 6 2 + g 7 2)) + (upd (g 3) (nI I).toNatClampNeg (g 3 (nI I).toNatClampNeg + n) 3 + (g 4 3 + g 5 3 + g 6 3 + g 7 3)) = _
  rw [nI_clamp (by omega)]
  unfold hp_lins hp_lin
  rcases (show I = 0 ∨ I = 1 ∨ I = 2 ∨ I = 3 by omega) with rfl | rfl | rfl | rfl <;> simp [upd] <;> grind
theorem hp_buyLinen {I n : Nat} (hc : cn < 100) (hJ : hp_J cn lin N M T P t g r) (hI : I < 4) : hp_I (cn + 1) (lin + nI n) (f_X2_addClean g (nI I) (nI n)) r := by
  obtain ⟨j0, jR, jN, jT, jB, jS, jrm, jl, jp, jP, j60⟩ := hJ
  exact ⟨N, M, T, P, _, by omega, hp_up1 hc (hl_R_buyLinen (by omega) jR), by omega, by omega, jB, jS, jrm, by rw [hp_lins3 hI, jl], jp, by omega, j60⟩
theorem hp_setBroken {x : Int32} (hc : cn < 100) (hJ : hp_J cn lin N M T P t g r) (hx : x = 0 ∨ x = 1) : hp_I (cn + 1) lin (hl_su (hl_su g 8 (fun _ => x)) 8 (fun _ => x)) r := by
  obtain ⟨j0, jR, jN, jT, jB, jS, jrm, jl, jp, jP, j60⟩ := hJ
  exact ⟨N, M, T, P, _, by omega, hp_up2 (hl_R_setBroken (by omega) (hl_R_setBroken (by omega) jR hx) hx), by omega, by omega, jB, jS, jrm, jl, jp, by omega, j60⟩
theorem hp_takes {I K n : Nat} (hJ : hp_J cn lin N M T P t g r) (hI : I < 4) (hK : K < 2) (hn : n < 400) (h : ¬ r 0 (2 * I + K) + r_X5_extraOf g N (nI I) ≤ r_L_booked r N (nI (8 * n + 2 * I + K))) : ¬ r_X5_takesMore g N (nI I) (nI K) (nI n) = 0 := by
  obtain ⟨j0, jR, jN, jT, jB, jS, jrm, jl, jp, jP, j60⟩ := hJ
  have e : hl_it (b_X0_countFor g (nI I) (nI K) (nI n)) 0 N 0 = r_L_booked r N (nI (8 * n + 2 * I + K)) := by
    refine hl_it_congr _ _ N 0 (fun b u hb => ?_)
    obtain ⟨n', i, k, hn4, hi4, hk2, b13, b11, b12, br1, -⟩ := jB.1 b hb
    unfold b_X0_countFor b_L_booked
    have q1 : nI i = nI I ↔ i = I := nI_eq (by omega) (by omega)
    have q2 : nI k = nI K ↔ k = K := nI_eq (by omega) (by omega)
    have q3 : nI n' = nI n ↔ n' = n := nI_eq (by omega) (by omega)
    have q4 : nI (8 * n' + 2 * i + k) = nI (8 * n + 2 * I + K) ↔ 8 * n' + 2 * i + k = 8 * n + 2 * I + K := nI_eq (by omega) (by omega)
    rw [b11, b12, b13, br1]
    simp only [q1, q2, q3, q4, Int32.add_zero]
    by_cases hq : i = I ∧ k = K ∧ n' = n
    · rw [if_pos hq, if_pos (by omega)]
    · rw [if_neg hq, if_neg (by omega)]
  unfold r_X5_takesMore
  rw [e, hp_rooms jrm hI hK, if_neg h]
  decide
theorem hp_bed (g : Nat → Nat → Int32) {N : Nat} {x y z v : Int32} (hcc : g 16 0 = nI N) (hN : N < 100) : f_X0_add g x y z v 15 (nI N).toNatClampNeg = -1 := by
  show upd (g 15) (g 16 0).toNatClampNeg (-1) (nI N).toNatClampNeg = -1
  rw [hcc, hl_upd_at]
theorem hp_m1 {i : Nat} (hi : i < 4) : ¬ (-1 : Int32) = nI i := fun z => hl_nIm1 (i := i) (by omega) z.symm
theorem hp_book {I K n H : Nat} (hc : cn < 100) (hJ : hp_J cn lin N M T P t g r) (hN6 : N < 60) (hI : I < 4) (hK : K < 2) (hn : T ≤ n ∧ n ≤ T + 10) (hH : H < 10) :
    hp_I (cn + 1) lin (f_X0_add g (nI H) (nI I) (nI K) (nI n)) (hl_su (hl_su r 1 (upd (r 1) N (nI (8 * n + 2 * I + K)))) 2 (upd ((hl_su r 1 (upd (r 1) N (nI (8 * n + 2 * I + K)))) 2) N (nI H))) := by
  obtain ⟨j0, jR, jN, jT, jB, jS, jrm, jl, jp, jP, j60⟩ := hJ
  have h23 : g 23 0 = nI T := jR.2.1.2
  have h16 : (g 16 0).toNatClampNeg = N := by rw [jR.1.2.1, nI_clamp (by omega)]
  have hR := hl_R_book (by omega) jR (x := nI H) (y := nI I) (z := nI K) (v := nI n) (vp_in_nI hI (by decide)) (vp_in_nI hK (by decide)) (by rw [h23]; exact nI_nlt hn.1 (by omega)) (by rw [h23, hp_add10]; exact nI_le hn.2 (by omega)) (by omega)
  have e10 : f_X0_add g (nI H) (nI I) (nI K) (nI n) 10 = upd (g 10) N (nI H) := by rw [← h16]; rfl
  have e11 : f_X0_add g (nI H) (nI I) (nI K) (nI n) 11 = upd (g 11) N (nI I) := by rw [← h16]; rfl
  have e12 : f_X0_add g (nI H) (nI I) (nI K) (nI n) 12 = upd (g 12) N (nI K) := by rw [← h16]; rfl
  have e13 : f_X0_add g (nI H) (nI I) (nI K) (nI n) 13 = upd (g 13) N (nI n) := by rw [← h16]; rfl
  have e15 : f_X0_add g (nI H) (nI I) (nI K) (nI n) 15 = upd (g 15) N (-1) := by rw [← h16]; rfl
  have e14 : f_X0_add g (nI H) (nI I) (nI K) (nI n) 14 = g 14 := rfl
  have e2 : f_X0_add g (nI H) (nI I) (nI K) (nI n) 2 = g 2 := rfl
  have hl9 : hp_lins (f_X0_add g (nI H) (nI I) (nI K) (nI n)) = lin := jl
  have hp9 : hp_pur (f_X0_add g (nI H) (nI I) (nI K) (nI n) 21) = nI P := jp
  have hrm9 : ∀ j, j < 8 → r 0 j = f_X0_add g (nI H) (nI I) (nI K) (nI n) 0 j := jrm
  generalize f_X0_add g (nI H) (nI I) (nI K) (nI n) = G at *
  refine ⟨N + 1, M, T, P, _, by omega, hp_up1 hc hR, by omega, by omega, ⟨fun b hb => ?_, fun b hb => ?_⟩, fun i k hi hk => ?_, hrm9, hl9, hp9, by omega, by omega⟩
  · show ∃ n' i k : Nat, n' < 400 ∧ i < 4 ∧ k < 2 ∧ G 13 b = nI n' ∧ G 11 b = nI i ∧ G 12 b = nI k ∧ upd (r 1) N (nI (8 * n + 2 * I + K)) b = nI (8 * n' + 2 * i + k) ∧ upd (r 2) N (nI H) b = G 10 b ∧ vp_in (G 10 b) 10 ∧ r 3 b = G 14 b ∧ (G 14 b = 0 ∧ G 15 b = -1 ∨ G 14 b = 1 ∧ n' ≤ T)
    rw [e10, e11, e12, e13, e14, e15]
    by_cases hbN : b = N
    · subst hbN
      obtain ⟨q1, q2⟩ := jB.2 b (Nat.le_refl b)
      rw [hl_upd_at, hl_upd_at, hl_upd_at, hl_upd_at, hl_upd_at, hl_upd_at, hl_upd_at]
      exact ⟨n, I, K, by omega, hI, hK, rfl, rfl, rfl, rfl, rfl, vp_in_nI hH (by decide), by rw [q1 (by omega), q2 (by omega)], Or.inl ⟨q1 (by omega), rfl⟩⟩
    · rw [hl_upd_ne _ _ hbN, hl_upd_ne _ _ hbN, hl_upd_ne _ _ hbN, hl_upd_ne _ _ hbN, hl_upd_ne _ _ hbN, hl_upd_ne _ _ hbN, hl_upd_ne _ _ hbN]
      exact jB.1 b (by omega)
  · rw [e14]
    exact jB.2 b (by omega)
  · rw [e2, jS i k hi hk, hl_it_snoc, Nat.zero_add]
    have q : b_X0_sleepersAt G (nI i) (nI k) (nI T) N (hl_it (b_X0_sleepersAt G (nI i) (nI k) (nI T)) 0 N 0) = hl_it (b_X0_sleepersAt G (nI i) (nI k) (nI T)) 0 N 0 := by
      show (if G 15 N = nI i ∧ G 12 N = nI k ∧ G 13 N = nI T then _ else _) = _
      rw [if_neg (fun z => hp_m1 hi (by rw [← z.1, e15, hl_upd_at]))]
    rw [q]
    refine hl_it_congr _ _ N 0 (fun b u hb => ?_)
    unfold b_X0_sleepersAt
    rw [e12, e13, e15, hl_upd_ne _ _ (by omega), hl_upd_ne _ _ (by omega), hl_upd_ne _ _ (by omega)]
end HPS
