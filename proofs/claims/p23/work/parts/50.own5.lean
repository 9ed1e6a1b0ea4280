/-! p23: a night ends -/
theorem hp_w0 {n : Nat} (f : Nat → Int32) {j : Nat} (hj : j < n) : hl_w0 n f j = 0 := by
  refine hl_it_inv (fun k (h : Nat → Int32) => ∀ j, j < k → h j = 0) (fun k f => upd f k 0) n f (fun j hj => absurd hj (Nat.not_lt_zero j)) (fun k h hk hh j hj => ?_) j hj
  unfold upd
  split
  · rfl
  · exact hh j (by omega)
theorem hp_n2 (k : Nat) (z : Nat → Nat → Int32) {p : Nat} (h3 : p ≠ 3) (h4 : p ≠ 4) (h5 : p ≠ 5) (h6 : p ≠ 6) (h7 : p ≠ 7) : b_X2_endNight k z p = z p := by
  unfold b_X2_endNight
  split
  · simp only [hl_su_ne _ _ h3, hl_su_ne _ _ h4, hl_su_ne _ _ h5, hl_su_ne _ _ h6, hl_su_ne _ _ h7]
  · simp only [hl_su_ne _ _ h4, hl_su_ne _ _ h5, hl_su_ne _ _ h6, hl_su_ne _ _ h7]
theorem hp_n2s {k : Nat} (hk : k < 4) (z : Nat → Nat → Int32) : hp_lins (b_X2_endNight k z) = hp_lins z := by
  by_cases h8 : z 8 0 = 0
  · have e : ∀ p, b_X2_endNight k z p = (if p = 3 then upd (z 3) k (z 3 k + upd (z 7) k (z 7 k + z 6 k) k) else if p = 4 then upd (z 4) k 0 else if p = 5 then upd (z 5) k (z 4 k) else if p = 6 then upd (z 6) k (z 5 k) else if p = 7 then upd (upd (z 7) k (z 7 k + z 6 k)) k 0 else z p) := by
      intro p
      by_cases p3 : p = 3
      · rw [if_pos p3, p3]
        unfold b_X2_endNight
        rw [if_pos (by exact h8)]
        rfl
      · rw [if_neg p3]
        by_cases p4 : p = 4
        · rw [if_pos p4, p4]
          unfold b_X2_endNight
          rw [if_pos (by exact h8)]
          rfl
        · rw [if_neg p4]
          by_cases p5 : p = 5
          · rw [if_pos p5, p5]
            unfold b_X2_endNight
            rw [if_pos (by exact h8)]
            rfl
          · rw [if_neg p5]
            by_cases p6 : p = 6
            · rw [if_pos p6, p6]
              unfold b_X2_endNight
              rw [if_pos (by exact h8)]
              rfl
            · rw [if_neg p6]
              by_cases p7 : p = 7
              · rw [if_pos p7, p7]
                unfold b_X2_endNight
                rw [if_pos (by exact h8)]
                rfl
              · rw [if_neg p7, hp_n2 k z p3 p4 p5 p6 p7]
    unfold hp_lins hp_lin
    simp only [e]
    rcases (show k = 0 ∨ k = 1 ∨ k = 2 ∨ k = 3 by omega) with rfl | rfl | rfl | rfl <;> simp [upd] <;> grind
  · have e : ∀ p, b_X2_endNight k z p = (if p = 4 then upd (z 4) k 0 else if p = 5 then upd (z 5) k (z 4 k) else if p = 6 then upd (z 6) k (z 5 k) else if p = 7 then upd (z 7) k (z 7 k + z 6 k) else z p) := by
      intro p
      by_cases p4 : p = 4
      · rw [if_pos p4, p4]
        unfold b_X2_endNight
        rw [if_neg (by exact h8)]
        rfl
      · rw [if_neg p4]
        by_cases p5 : p = 5
        · rw [if_pos p5, p5]
          unfold b_X2_endNight
          rw [if_neg (by exact h8)]
          rfl
        · rw [if_neg p5]
          by_cases p6 : p = 6
          · rw [if_pos p6, p6]
            unfold b_X2_endNight
            rw [if_neg (by exact h8)]
            rfl
          · rw [if_neg p6]
            by_cases p7 : p = 7
            · rw [if_pos p7, p7]
              unfold b_X2_endNight
              rw [if_neg (by exact h8)]
              rfl
            · rw [if_neg p7]
              unfold b_X2_endNight
              rw [if_neg (by exact h8)]
              simp only [hl_su_ne _ _ p4, hl_su_ne _ _ p5, hl_su_ne _ _ p6, hl_su_ne _ _ p7]
    unfold hp_lins hp_lin
    simp only [e]
    rcases (show k = 0 ∨ k = 1 ∨ k = 2 ∨ k = 3 by omega) with rfl | rfl | rfl | rfl <;> simp [upd] <;> grind
theorem hp_nights (g : Nat → Nat → Int32) : (∀ p, p ≠ 2 → p ≠ 3 → p ≠ 4 → p ≠ 5 → p ≠ 6 → p ≠ 7 → p ≠ 9 → p ≠ 23 → f_X5_night g p = g p) ∧ f_X5_night g 2 = hl_w0 8 (g 2) ∧ hp_lins (f_X5_night g) = hp_lins g ∧ f_X5_night g 23 = (fun _ => g 23 0 + 1) := by
  obtain ⟨w1, w2⟩ := hl_w0_cls g
  have key := hl_it_inv (fun _ (z : Nat → Nat → Int32) => (∀ p, p ≠ 3 → p ≠ 4 → p ≠ 5 → p ≠ 6 → p ≠ 7 → z p = f_X4_endNight g p) ∧ hp_lins z = hp_lins (f_X4_endNight g)) b_X2_endNight 4 (f_X4_endNight g) ⟨fun _ _ _ _ _ _ => rfl, rfl⟩
    (fun k z hk hz => ⟨fun p h3 h4 h5 h6 h7 => (hp_n2 k z h3 h4 h5 h6 h7).trans (hz.1 p h3 h4 h5 h6 h7), (hp_n2s hk z).trans hz.2⟩)
  have hl4 : hp_lins (f_X4_endNight g) = hp_lins g := hp_keepL (w2 3 (by decide)) (w2 4 (by decide)) (w2 5 (by decide)) (w2 6 (by decide)) (w2 7 (by decide))
  unfold f_X5_night f_X2_endNight
  generalize hl_it b_X2_endNight 0 4 (f_X4_endNight g) = Z at *
  obtain ⟨k1, k2⟩ := key
  refine ⟨fun p h2 h3 h4 h5 h6 h7 h9 h23 => ?_, ?_, ?_, ?_⟩
  · rw [hl_su_ne _ _ h23, hl_su_ne _ _ h9, k1 p h3 h4 h5 h6 h7, w2 p h2]
  · rw [hl_su_ne _ _ (by decide), hl_su_ne _ _ (by decide), k1 2 (by decide) (by decide) (by decide) (by decide) (by decide), w1]
  · show hp_lins Z = hp_lins g
    rw [k2, hl4]
  · rw [hl_su_eq, hl_su_ne _ _ (by decide), k1 23 (by decide) (by decide) (by decide) (by decide) (by decide), w2 23 (by decide)]
theorem hp_night23 (g : Nat → Nat → Int32) {T : Nat} (h : g 23 0 = nI T) : f_X5_night g 23 0 = nI (T + 1) := by
  rw [(hp_nights g).2.2.2, h]
  exact nI_1 T
theorem hp_missed_nn (g : Nat → Nat → Int32) (x : Int32) {N : Nat} (hN : N ≤ 80) : ¬ hl_it (b_X0_missedIn g x) 0 N 0 < 0 := by
  obtain ⟨m, h1, h2⟩ := hl_it_inv (fun n (u : Int32) => ∃ m : Nat, m ≤ n ∧ u = nI m) (b_X0_missedIn g x) N 0 ⟨0, by omega, rfl⟩ (fun n u hn hu => by
    obtain ⟨m, h1, h2⟩ := hu
    unfold b_X0_missedIn
    split
    · exact ⟨m + 1, by omega, by rw [h2, nI_1]⟩
    · exact ⟨m, by omega, h2⟩)
  rw [h2]
  exact nI_pos (by omega)
section HPN
variable {cn : Nat} {lin : Int32} {N M T P : Nat} {t g r : Nat → Nat → Int32}
theorem hp_night (hc : cn < 100) (hJ : hp_J cn lin N M T P t g r) : hp_I (cn + 1) lin (f_X5_night g) r := by
  obtain ⟨j0, jR, jN, jT, jB, jS, jrm, jl, jp, jP, j60⟩ := hJ
  have hR := (hl_R_night (by omega) jR (by omega)).2
  obtain ⟨e, e2, el, -⟩ := hp_nights g
  generalize f_X5_night g = G at *
  have e0 := e 0 (by decide) (by decide) (by decide) (by decide) (by decide) (by decide) (by decide) (by decide)
  have e10 := e 10 (by decide) (by decide) (by decide) (by decide) (by decide) (by decide) (by decide) (by decide)
  have e11 := e 11 (by decide) (by decide) (by decide) (by decide) (by decide) (by decide) (by decide) (by decide)
  have e12 := e 12 (by decide) (by decide) (by decide) (by decide) (by decide) (by decide) (by decide) (by decide)
  have e13 := e 13 (by decide) (by decide) (by decide) (by decide) (by decide) (by decide) (by decide) (by decide)
  have e14 := e 14 (by decide) (by decide) (by decide) (by decide) (by decide) (by decide) (by decide) (by decide)
  have e15 := e 15 (by decide) (by decide) (by decide) (by decide) (by decide) (by decide) (by decide) (by decide)
  have e21 := e 21 (by decide) (by decide) (by decide) (by decide) (by decide) (by decide) (by decide) (by decide)
  have jB1 : hp_B g r N (T + 1) := ⟨fun b hb => by
    obtain ⟨n, i, k, hn4, hi4, hk2, b13, b11, b12, br1, br2, b10, br3, bc⟩ := jB.1 b hb
    exact ⟨n, i, k, hn4, hi4, hk2, b13, b11, b12, br1, br2, b10, br3, bc.imp_right (fun z => ⟨z.1, by omega⟩)⟩, jB.2⟩
  refine ⟨N, M, T + 1, P, _, by omega, hp_up1 hc hR, by omega, by omega, hp_keepB e10 e11 e12 e13 e14 e15 jB1, fun i' k' hi' hk' => ?_, by rw [e0]; exact jrm, by rw [el]; exact jl, by rw [e21]; exact jp, by omega, j60⟩
  rw [e2, hp_w0 _ (by omega)]
  refine (hl_it_inv (fun _ (u : Int32) => u = 0) _ N 0 rfl (fun b u hb hu => ?_)).symm
  obtain ⟨n, i, k, hn4, hi4, hk2, b13, b11, b12, br1, br2, b10, br3, bc⟩ := jB.1 b hb
  show (if G 15 b = nI i' ∧ G 12 b = nI k' ∧ G 13 b = nI (T + 1) then u + 1 else u) = 0
  rw [if_neg, hu]
  rintro ⟨z1, -, z3⟩
  rw [e15] at z1
  rw [e13, b13, nI_eq (by omega) (by omega)] at z3
  rcases bc with ⟨-, h5⟩ | ⟨-, h5⟩
  · rw [h5] at z1
    exact hp_m1 hi' z1
  · omega
end HPN
