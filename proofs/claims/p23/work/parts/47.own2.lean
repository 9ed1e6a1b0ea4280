/-! p23: a guest comes -/
theorem hp_nat {z : Int32} {b : Nat} (h : 0 ≤ z.toInt ∧ z.toInt ≤ b) : ∃ q : Nat, q ≤ b ∧ z = nI q := by
  have h2 := Int32.toInt_lt z
  refine ⟨z.toInt.toNat, by omega, ?_⟩
  apply Int32.toInt_inj.mp
  rw [nI_toInt (by omega)]
  omega
theorem hp_points {c N M T : Nat} {g t : Nat → Nat → Int32} (h : hl_R c N M T g t) (x : Int32) : ∃ H : Nat, H ≤ 800 ∧ hl_it (b_X3_ofGuest g x) 0 M 0 = nI H := by
  have hM : M ≤ 80 := h.1.2.2.1
  have hb : hl_bd (g 19) M 0 10 := h.2.2.2.2.2.2.2.2.2.2.2.2.2.1
  have key := hl_it_inv (fun n (u : Int32) => n ≤ M → ∃ H : Nat, H ≤ 10 * n ∧ u = nI H) (b_X3_ofGuest g x) M 0 (fun _ => ⟨0, by omega, rfl⟩) (fun n u hn hu _ => by
    obtain ⟨H, h1, h2⟩ := hu (by omega)
    obtain ⟨q, h3, h4⟩ := hp_nat (b := 10) (hb n hn)
    unfold b_X3_ofGuest
    by_cases hx : g 17 n = x
    · rw [if_pos hx, h2, h4, nI_add]
      exact ⟨H + q, by omega, rfl⟩
    · rw [if_neg hx]
      exact ⟨H, by omega, h2⟩)
  obtain ⟨H, h1, h2⟩ := key (Nat.le_refl M)
  exact ⟨H, by omega, h2⟩
theorem hp_purs {h : Nat} (hh : h < 4) (f : Nat → Int32) (q : Int32) : hp_pur (upd f h (f h + q)) = hp_pur f + q := by
  unfold hp_pur
  rcases (show h = 0 ∨ h = 1 ∨ h = 2 ∨ h = 3 by omega) with rfl | rfl | rfl | rfl <;> simp [upd] <;> grind
theorem hp_lins34 {G g : Nat → Nat → Int32} {w rr : Nat} (hw : w < 4) (hr : rr < 4) (e3 : G 3 = upd (g 3) rr (g 3 rr - 1)) (e4 : G 4 = upd (g 4) w (g 4 w + 1)) (e5 : G 5 = g 5) (e6 : G 6 = g 6) (e7 : G 7 = g 7) : hp_lins G = hp_lins g := by
  unfold hp_lins hp_lin
  rw [e3, e4, e5, e6, e7]
  rcases (show w = 0 ∨ w = 1 ∨ w = 2 ∨ w = 3 by omega) with rfl | rfl | rfl | rfl <;> rcases (show rr = 0 ∨ rr = 1 ∨ rr = 2 ∨ rr = 3 by omega) with rfl | rfl | rfl | rfl <;> simp [upd] <;> grind
theorem hp_arr {G g r : Nat → Nat → Int32} {N T j : Nat} {v : Int32} (e10 : G 10 = g 10) (e11 : G 11 = g 11) (e12 : G 12 = g 12) (e13 : G 13 = g 13) (e14 : G 14 = upd (g 14) j 1) (e15 : G 15 = upd (g 15) j v) (hj : j < N) (h13 : g 13 j = nI T) (hT : T < 400) (jB : hp_B g r N T) : hp_B G (hl_su r 3 (upd (r 3) j 1)) N T := by
  refine ⟨fun b hb => ?_, fun b hb => ?_⟩
  · show ∃ n i k : Nat, n < 400 ∧ i < 4 ∧ k < 2 ∧ G 13 b = nI n ∧ G 11 b = nI i ∧ G 12 b = nI k ∧ r 1 b = nI (8 * n + 2 * i + k) ∧ r 2 b = G 10 b ∧ vp_in (G 10 b) 10 ∧ upd (r 3) j 1 b = G 14 b ∧ (G 14 b = 0 ∧ G 15 b = -1 ∨ G 14 b = 1 ∧ n ≤ T)
    obtain ⟨n, i, k, hn4, hi4, hk2, b13, b11, b12, br1, br2, b10, br3, bc⟩ := jB.1 b hb
    rw [e10, e11, e12, e13, e14, e15]
    by_cases hbj : b = j
    · subst hbj
      rw [hl_upd_at, hl_upd_at, hl_upd_at]
      have hnT : n = T := (nI_eq (by omega) (by omega)).mp (b13.symm.trans h13)
      exact ⟨n, i, k, hn4, hi4, hk2, b13, b11, b12, br1, br2, b10, rfl, Or.inr ⟨rfl, by omega⟩⟩
    · rw [hl_upd_ne _ _ hbj, hl_upd_ne _ _ hbj, hl_upd_ne _ _ hbj]
      exact ⟨n, i, k, hn4, hi4, hk2, b13, b11, b12, br1, br2, b10, br3, bc⟩
  · show (b < 80 → G 14 b = 0) ∧ (b < 60 → upd (r 3) j 1 b = 0)
    rw [e14, hl_upd_ne _ _ (by omega), hl_upd_ne _ _ (by omega)]
    exact jB.2 b hb
theorem hp_slp {G g : Nat → Nat → Int32} {T j i k : Nat} {v : Int32} (e12 : G 12 = g 12) (e13 : G 13 = g 13) (e15 : G 15 = upd (g 15) j v) (hb : g 15 j = -1) (hi : i < 4) : ∀ n, hl_it (b_X0_sleepersAt G (nI i) (nI k) (nI T)) 0 n 0 = hl_it (b_X0_sleepersAt g (nI i) (nI k) (nI T)) 0 n 0 + (if j < n ∧ v = nI i ∧ g 12 j = nI k ∧ g 13 j = nI T then 1 else 0) := by
  intro n
  induction n with
  | zero =>
    rw [if_neg (fun z => Nat.not_lt_zero _ z.1)]
    rfl
  | succ n ih =>
    rw [hl_it_snoc, hl_it_snoc, Nat.zero_add, ih]
    generalize hl_it (b_X0_sleepersAt g (nI i) (nI k) (nI T)) 0 n 0 = X
    show (if G 15 n = nI i ∧ G 12 n = nI k ∧ G 13 n = nI T then X + _ + 1 else X + _) = (if g 15 n = nI i ∧ g 12 n = nI k ∧ g 13 n = nI T then X + 1 else X) + _
    rw [e12, e13, e15]
    by_cases hn : n = j
    · subst hn
      rw [hl_upd_at, hb, if_neg (fun z => hp_m1 hi z.1 : ¬ ((-1 : Int32) = nI i ∧ g 12 n = nI k ∧ g 13 n = nI T)), if_neg (fun z => Nat.lt_irrefl _ z.1 : ¬ (n < n ∧ v = nI i ∧ g 12 n = nI k ∧ g 13 n = nI T)), Int32.add_zero]
      by_cases hq : v = nI i ∧ g 12 n = nI k ∧ g 13 n = nI T
      · rw [if_pos hq, if_pos ⟨Nat.lt_succ_self n, hq⟩]
      · rw [if_neg hq, if_neg (fun z => hq z.2), Int32.add_zero]
    · rw [hl_upd_ne _ _ hn]
      have e : (if j < n ∧ v = nI i ∧ g 12 j = nI k ∧ g 13 j = nI T then (1 : Int32) else 0) = (if j < n + 1 ∧ v = nI i ∧ g 12 j = nI k ∧ g 13 j = nI T then 1 else 0) := by
        by_cases hq : j < n ∧ v = nI i ∧ g 12 j = nI k ∧ g 13 j = nI T
        · rw [if_pos hq, if_pos ⟨by omega, hq.2⟩]
        · rw [if_neg hq, if_neg (fun z => hq ⟨by omega, z.2⟩)]
      rw [← e]
      generalize (if j < n ∧ v = nI i ∧ g 12 j = nI k ∧ g 13 j = nI T then (1 : Int32) else 0) = Y
      split
      · grind
      · rfl
theorem hp_pts {G g : Nat → Nat → Int32} {M : Nat} {x q : Int32} (e17 : G 17 = upd (g 17) M x) (e19 : G 19 = upd (g 19) M q) : hl_it (b_X3_ofGuest G x) 0 (M + 1) 0 = hl_it (b_X3_ofGuest g x) 0 M 0 + q := by
  have e : hl_it (b_X3_ofGuest G x) 0 M 0 = hl_it (b_X3_ofGuest g x) 0 M 0 := hl_it_congr _ _ M 0 (fun k u hk => by
    unfold b_X3_ofGuest
    rw [e17, e19, hl_upd_ne _ _ (by omega), hl_upd_ne _ _ (by omega)])
  rw [hl_it_snoc, Nat.zero_add, e]
  unfold b_X3_ofGuest
  rw [e17, e19, hl_upd_at, hl_upd_at, if_pos rfl]
theorem hp_pg {c N M T : Nat} {g t : Nat → Nat → Int32} (h : hl_R c N M T g t) (x : Int32) {w : Nat} (hw : w < 4) (hL : ¬ ∀ k, k < 4 → g 3 k ≤ 0) (h20 : g 20 0 < 80) :
    ∃ (rr : Nat) (f22 f9 : Nat → Int32), rr < 4 ∧ hl_pg g x (g 11 x.toNatClampNeg) (g 12 x.toNatClampNeg) (nI w) (nI rr) f22 f9 (f_X5_putUp g x (nI w)) := by
  have e3 : g 3 = t 3 := h.2.2.1.2.2.2.1
  by_cases hO : g 3 (nI w).toNatClampNeg ≤ 0
  · obtain ⟨r, hr, er, er2, er3⟩ := hl_rich_spec t
    have hgr : r_X2_giverFor g (nI w) = nI r := by
      unfold r_X2_giverFor
      rw [if_pos hO, hl_giver_rich e3 hL, er]
    have hrv : ¬ nI r = nI w := by
      intro z
      refine hL (fun k hk => ?_)
      rw [nI_eq (by omega) (by omega)] at z
      subst z
      rw [nI_clamp (by omega)] at hO
      rw [e3]
      rw [e3] at hO
      exact hl_i32_le_trans (er2 k hk) hO
    exact ⟨r, _, _, hr, hl_pu_borrow rfl rfl hgr (hl_nIm1 (by omega)) hrv h20⟩
  · exact ⟨w, _, _, hw, hl_pu_own rfl rfl (hl_nIm1 (by omega)) hO h20⟩
section HPC
variable {cn : Nat} {lin : Int32} {N M T P : Nat} {t g r : Nat → Nat → Int32}
set_option maxHeartbeats 1000000 in
theorem hp_come {j : Nat} {v : Int32} (hc : cn < 100) (hJ : hp_J cn lin N M T P t g r) (hj : j < N) (h13 : g 13 j = nI T) (h14 : g 14 j = 0) (h10 : vp_in (g 10 j) 10) (ev : v = r_X5_findInn g (g 11 (nI j).toNatClampNeg) (g 12 (nI j).toNatClampNeg)) :
    ∃ M2 : Nat, hl_ok (f_X5_come g (nI j)) N M2 ∧ f_X5_come g (nI j) 15 (nI j).toNatClampNeg = v ∧ ¬ hl_it (b_X3_ofGuest (f_X5_come g (nI j)) (g 10 j)) 0 M2 0 < hl_it (b_X3_ofGuest g (g 10 j)) 0 M 0 ∧ (v < 0 → r_L_sum (f_X5_come g (nI j)) 0 = r_L_sum g 0) ∧ (¬ v < 0 → ¬ r_L_sum (f_X5_come g (nI j)) 0 ≤ r_L_sum g 0) ∧ hp_I (cn + 1) lin (f_X5_come g (nI j)) (hl_su r 3 (upd (r 3) j 1)) := by
  obtain ⟨j0, jR, jN, jT, jB, jS, jrm, jl, jp, jP, j60⟩ := hJ
  have hjc : (nI j).toNatClampNeg = j := nI_clamp (by omega)
  obtain ⟨n, i, k, hn4, hi4, hk2, b13, b11, b12, br1, br2, b10, br3, bc⟩ := jB.1 j hj
  have hbed : g 15 j = -1 := (bc.resolve_right (fun z => by rw [h14] at z; exact absurd z.1 (by decide))).2
  have h23 : g 23 0 = nI T := jR.2.1.2
  have ha := hl_R_arrive (x := nI j) (v := v) jR (by rw [hjc]; exact hj) (by rw [hjc, h13, h23]) (by rw [hjc]; exact h14)
  have hG : f_X5_come g (nI j) = if v = -1 then f_X0_arrive g (nI j) v else f_X5_putUp (f_X0_arrive g (nI j) v) (nI j) v := by
    unfold f_X5_come
    dsimp only
    rw [← ev]
  have a14 : f_X0_arrive g (nI j) v 14 = upd (g 14) j 1 := by
    show upd (g 14) (nI j).toNatClampNeg 1 = _
    rw [hjc]
  have a15 : f_X0_arrive g (nI j) v 15 = upd (g 15) j v := by
    show upd (g 15) (nI j).toNatClampNeg v = _
    rw [hjc]
  by_cases hv : v = -1
  · rw [hG, if_pos hv]
    refine ⟨M, ha.1.1, ?_, ?_, fun _ => ?_, fun z => absurd (by rw [hv]; decide) z, N, M, T, P, _, by omega, hp_up1 hc (hl_R_up (by omega) ha.1), by omega, by omega, hp_arr (g := g) rfl rfl rfl rfl a14 a15 hj h13 (by omega) jB, fun i' k' hi' hk' => ?_, jrm, jl, jp, by omega, j60⟩
    · rw [a15, hjc, hl_upd_at]
    · have e : hl_it (b_X3_ofGuest (f_X0_arrive g (nI j) v) (g 10 j)) 0 M 0 = hl_it (b_X3_ofGuest g (g 10 j)) 0 M 0 := hl_it_congr _ _ M 0 (fun k u _ => rfl)
      rw [e]
      intro z
      have z2 := Int32.lt_iff_toInt_lt.mp z
      omega
    · rw [hp_sum0, hp_sum0]
      rfl
    · show g 2 (i' * 2 + k') = _
      rw [hp_slp (G := f_X0_arrive g (nI j) v) (g := g) (v := v) (j := j) rfl rfl a15 hbed hi' N, if_neg (fun z => hp_m1 hi' (by rw [← hv]; exact z.2.1)), Int32.add_zero]
      exact jS i' k' hi' hk'
  · rw [hG, if_neg hv]
    have hr : vp_in (g 11 j) 4 ∧ vp_in (g 12 j) 2 := jR.1.2.2.2.2.1 j hj
    rw [hjc] at ev
    have hf := hl_R_find jR hr.1 hr.2
    have hL : ¬ ∀ k, k < 4 → g 3 k ≤ 0 := by
      rw [show g 3 = t 3 from jR.2.2.1.2.2.2.1]
      exact hl_find_L (by rw [← hf, ← ev]; exact hv)
    have hv4 : vp_in v 4 := by
      rw [ev] at hv ⊢
      exact (hl_find_in g _ _).resolve_left hv
    obtain ⟨w, hw, rfl⟩ := vp_in_of hv4 (by decide)
    have hMN : M < 80 := by
      have q := hl_cnt_le ((f_X0_arrive g (nI j) (nI w)) 14) N
      have q2 := ha.2
      omega
    have h20 : g 20 0 = nI M := jR.1.2.2.2.1
    have hR2 := hl_R_putUp (by omega) ha.1 ha.2 rfl rfl (by rw [hjc]; exact hr.1) (by rw [hjc]; exact hr.2) hv4 hL
    obtain ⟨rr, f22, f9, hrr, hpg⟩ := hp_pg ha.1 (nI j) hw hL (by show g 20 0 < 80; rw [h20]; exact nI_lt (b := 80) hMN (by decide))
    have a11 : f_X0_arrive g (nI j) (nI w) 11 = g 11 := rfl
    have a12 : f_X0_arrive g (nI j) (nI w) 12 = g 12 := rfl
    have hk0 : vp_in (nI k) 2 := vp_in_nI hk2 (by decide)
    generalize f_X5_putUp (f_X0_arrive g (nI j) (nI w)) (nI j) (nI w) = G at *
    obtain ⟨⟨p0, p1, p5, p6, p7, p8, p10, p11, p12, p13, p14, p15, p16, p23⟩, p21, p22, p3, p4, p9, p2, p17, p18, p19, p20⟩ := hpg
    simp only [a11, a12, hjc, b11, b12] at p21 p2 p17 p19
    have c17 : G 17 = upd (g 17) M (g 10 j) := by
      rw [p17]
      show upd (g 17) (g 20 0).toNatClampNeg (g 10 j) = _
      rw [h20, nI_clamp (by omega)]
    have c19 : G 19 = upd (g 19) M (g 1 (nI w * 2 + nI k).toNatClampNeg / 10) := by
      rw [p19]
      show upd (g 19) (g 20 0).toNatClampNeg (g 1 (nI w * 2 + nI k).toNatClampNeg / 10) = _
      rw [h20, nI_clamp (by omega)]
    have c21 : G 21 = upd (g 21) i (g 21 i + g 1 (2 * i + k)) := by
      rw [p21]
      show upd (g 21) (nI i).toNatClampNeg (g 21 (nI i).toNatClampNeg + g 1 (nI i * 2 + nI k).toNatClampNeg) = _
      rw [nI_clamp (by omega), hp_ix hi4 hk2]
    have c2 : G 2 = upd (g 2) (2 * w + k) (g 2 (2 * w + k) + 1) := by
      rw [p2]
      show upd (g 2) (nI w * 2 + nI k).toNatClampNeg (g 2 (nI w * 2 + nI k).toNatClampNeg + 1) = _
      rw [hp_ix hw hk2]
    have c3 : G 3 = upd (g 3) rr (g 3 rr - 1) := by
      rw [p3, nI_clamp (by omega)]
      rfl
    have c4 : G 4 = upd (g 4) w (g 4 w + 1) := by
      rw [p4, nI_clamp (by omega)]
      rfl
    have hpr : hl_bd (g 1) 8 1 100 := jR.2.2.2.2.2.2.2.2.2.1
    obtain ⟨q, hq1, hq2⟩ := hp_nat (z := g 1 (2 * i + k)) (b := 100) (by have z := hpr (2 * i + k) (by omega); omega)
    have hq3 : 1 ≤ q := by
      have z := (hpr (2 * i + k) (by omega)).1
      rw [hq2, nI_toInt (by omega)] at z
      omega
    have hsum : r_L_sum G 0 = nI (P + q) := by
      rw [hp_sum0, c21, hp_purs hi4, jp, hq2, nI_add]
    refine ⟨M + 1, hR2.1, ?_, ?_, fun z => absurd z (nI_pos (by omega)), fun _ => ?_, N, M + 1, T, P + q, _, by omega, hp_up1 hc hR2, by omega, by omega, hp_arr (g := g) (v := nI w) (p10.trans rfl) (p11.trans rfl) (p12.trans rfl) (p13.trans rfl) (p14.trans a14) (p15.trans a15) hj h13 (by omega) jB, fun i' k' hi' hk' => ?_, fun z hz => (jrm z hz).trans (congrFun p0.symm z), ?_, ?_, by omega, j60⟩
    · rw [p15, a15, hjc, hl_upd_at]
    · obtain ⟨H, hH1, hH2⟩ := hp_points jR (g 10 j)
      obtain ⟨q', hq1', hq2'⟩ := hp_nat (z := g 1 (nI w * 2 + nI k).toNatClampNeg / 10) (b := 10) (hl_tenth (hpr _ (by rw [hp_ix hw hk2]; omega)))
      rw [hp_pts c17 c19, hH2, hq2', nI_add]
      exact nI_nlt (by omega) (by omega)
    · rw [hsum, hp_sum0, jp]
      exact nI_ge (by omega) (by omega)
    · rw [hp_slp (G := G) (g := g) (v := nI w) (j := j) (p12.trans rfl) (p13.trans rfl) (p15.trans a15) hbed hi' N, c2, b12, h13]
      by_cases hq : w = i' ∧ k = k'
      · obtain ⟨rfl, rfl⟩ := hq
        rw [if_pos ⟨hj, rfl, rfl, rfl⟩, show w * 2 + k = 2 * w + k by omega, hl_upd_at, ← jS w k hw hk2, show w * 2 + k = 2 * w + k by omega]
      · rw [if_neg (fun z => hq ⟨(nI_eq (by omega) (by omega)).mp z.2.1, (nI_eq (by omega) (by omega)).mp z.2.2.1⟩), hl_upd_ne _ _ (by omega), Int32.add_zero]
        exact jS i' k' hi' hk'
    · rw [hp_lins34 hw hrr c3 c4 (p5.trans rfl) (p6.trans rfl) (p7.trans rfl)]
      exact jl
    · rw [c21, hp_purs hi4, jp, hq2, nI_add]
end HPC
