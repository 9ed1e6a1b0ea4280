theorem hl_tenth {p : Int32} (h : 1 ≤ p.toInt ∧ p.toInt ≤ 100) : 0 ≤ (p / 10).toInt ∧ (p / 10).toInt ≤ 10 := by
  obtain ⟨j, hj, rfl⟩ := vp_in_of (vp_in_iff.mpr ⟨by omega, by omega⟩ : vp_in p 101) (by decide)
  have e : nI j / 10 = nI (j / 10) := pk_div (by omega) (by decide) (by decide)
  rw [e, nI_toInt (by omega)]
  omega
theorem hl_miss_congr {g g2 : Nat → Nat → Int32} (h1 : g 11 = g2 11) (h2 : g 13 = g2 13) (h3 : g 14 = g2 14) (s i : Nat) : hl_miss g s i = hl_miss g2 s i := by
  funext k n
  unfold hl_miss
  rw [h1, h2, h3]
theorem hl_R_core {c N M T : Nat} {g t G U : Nat → Nat → Int32} {x i k v r : Int32} {f22 f9 d9 f7 : Nat → Int32} (hc : c < 512) (h : hl_R c N M T g t) (hcnt : M + 1 ≤ hl_cnt (g 14) N) (hi : vp_in i 4) (hk : vp_in k 2) (hv : vp_in v 4)
    (pg : hl_pg g x i k v r f22 f9 G) (pt : hl_pt t x i k v r d9 f7 U) (hb : hl_RB f22 d9) (h97 : f9 = f7) (hbd : hl_bd d9 16 0 (1000 * ((c + 1 : Nat) : Int))) (hbo : hl_bd f9 1 0 ((c + 1 : Nat) : Int)) : hl_R (c + 1) N (M + 1) T G U := by
  obtain ⟨⟨o1, o2, o3, o4, o5, o6, o7⟩, ⟨t1, t2⟩, ⟨e0, e1, e2, e3, e4, e8, e9, e10, e11, e12, e13, e14, e15, e16, e17, e18, e19, e20, e21, e23⟩, b, w, ⟨m1, m2⟩, ct, ⟨n0, n1, n2, n3, n4, n5, n6, n7⟩⟩ := hl_R_up hc h
  obtain ⟨⟨p0, p1, p5, p6, p7, p8, p10, p11, p12, p13, p14, p15, p16, p23⟩, p21, p22, p3, p4, p9, p2, p17, p18, p19, p20⟩ := pg
  obtain ⟨⟨q0, q1, q6, q8, q10, q11, q12, q13, q14, q15, q16, q17, q18⟩, q5, q9, q3, q4, q7, q2, q19, q20, q21, q22⟩ := pt
  have hM : (g 20 0).toNatClampNeg = M := by rw [o4, nI_clamp (by omega)]
  have hM2 : (t 22 0).toNatClampNeg = M := by rw [← e20]; exact hM
  have hN := hl_cnt_le (g 14) N
  rw [Int32.mul_comm 2 i] at q5
  rw [Int32.mul_comm 2 v] at q2 q21
  rw [hM] at p17 p18 p19
  rw [hM2] at q19 q20 q21
  have hz : (v * 2 + k).toNatClampNeg < 8 := hl_idx (hl_row hv hk)
  refine ⟨⟨o1, by rw [p16]; exact o2, by omega, ?_, by rw [p11, p12]; exact o5, ?_, by rw [p8]; exact o7⟩, ⟨t1, by rw [p23]; exact t2⟩,
    ⟨by rw [p0, q0, e0], by rw [p1, q1, e1], by rw [p2, q2, e2], by rw [p3, q3, e3], by rw [p4, q4, e4], by rw [p8, q6, e8], by rw [p9, q7, h97], by rw [p10, q12, e10], by rw [p11, q13, e11], by rw [p12, q14, e12], by rw [p13, q15, e13], by rw [p14, q16, e14], by rw [p15, q17, e15], by rw [p16, q18, e16], by rw [p17, q19, e17, e10], by rw [p18, q20, e18], by rw [p19, q21, e19, e1], by rw [p20, q22, e20], by rw [p21, q5, e21, e1], by rw [p23, q8, e23]⟩,
    by rw [p22, q9]; exact hb, by rw [p5, p6, p7, q10]; exact w, ?_, by rw [p14]; exact hcnt,
    ⟨hc, by rw [p0]; exact n1, by rw [p1]; exact n2, ?_, by rw [p9]; exact hbo, by rw [q9]; exact hbd, ?_, by rw [p13]; exact n7⟩⟩
  · rw [p20]
    show g 20 0 + 1 = nI (M + 1)
    rw [o4, nI_1]
  · intro k hk
    rw [p18]
    unfold upd
    split
    · exact hv
    · exact o6 k (by omega)
  · rw [q11]
    refine ⟨fun s i hs hi => ?_, m2⟩
    rw [hl_miss_congr p11 p13 p14]
    exact m1 s i hs hi
  · rw [p2]
    have h2 := (h.2.2.2.2.2.2.2.2.2.2.1) _ hz
    exact hl_bd_upd n3 (by rw [hl_ti_add (by show -2147483648 ≤ _ + (1 : Int); omega) (by show _ + (1 : Int) < 2147483648; omega)]; show 0 ≤ _ + (1 : Int) ∧ _ + (1 : Int) ≤ _; omega)
  · rw [p19]
    intro j hj
    unfold upd
    split
    · exact hl_tenth (n2 _ hz)
    · exact n6 j (by omega)
theorem hl_R_putUp {c N M T : Nat} {g t : Nat → Nat → Int32} {x i k v : Int32} (hc : c < 512) (h : hl_R c N M T g t) (hcnt : M + 1 ≤ hl_cnt (g 14) N) (ei : g 11 x.toNatClampNeg = i) (ek : g 12 x.toNatClampNeg = k) (hi : vp_in i 4) (hk : vp_in k 2) (hv : vp_in v 4) (hL : ¬ ∀ k, k < 4 → g 3 k ≤ 0) :
    hl_R (c + 1) N (M + 1) T (f_X5_putUp g x v) (f_X6_sleep t x i k v) := by
  have h0 := h
  obtain ⟨⟨o1, o2, o3, o4, o5, o6, o7⟩, ⟨t1, t2⟩, ⟨e0, e1, e2, e3, e4, e8, e9, e10, e11, e12, e13, e14, e15, e16, e17, e18, e19, e20, e21, e23⟩, b, w, ⟨m1, m2⟩, ct, ⟨n0, n1, n2, n3, n4, n5, n6, n7⟩⟩ := h
  obtain ⟨iv, hiv, rfl⟩ := vp_in_of hv (by decide)
  obtain ⟨ii, hii, rfl⟩ := vp_in_of hi (by decide)
  have hz : (nI iv * 2 + k).toNatClampNeg < 8 := hl_idx (hl_row hv hk)
  have hN := hl_cnt_le (g 14) N
  have h20 : g 20 0 < 80 := by
    rw [o4]
    exact nI_lt (by omega : M < 80) (by decide)
  have hv1 : ¬ nI iv = -1 := hl_nIm1 (by omega)
  have hpr := n2 _ hz
  have b4 := n4 0 (by decide)
  -- the road of the guest's price
  have hB1 : hl_RB (if nI iv = nI ii then g 22 else hl_ow (g 22) (nI ii * 4 + nI iv).toNatClampNeg (nI iv * 4 + nI ii).toNatClampNeg (g 1 (nI iv * 2 + k).toNatClampNeg)) (hl_ad (t 9) (4 * nI ii + nI iv).toNatClampNeg (if nI iv = nI ii then 0 else t 1 (2 * nI iv + k).toNatClampNeg)) := by
    rw [hl_c4 hii hiv, hl_c4 hiv hii, hl_c4' hii hiv, Int32.mul_comm 2 (nI iv), ← e1]
    by_cases hA : nI iv = nI ii
    · rw [if_pos hA, if_pos hA, hl_ad0]; exact b
    · rw [if_neg hA, if_neg hA]; exact hl_RB_ow _ hii hiv b
  have hD1 : hl_bd (hl_ad (t 9) (4 * nI ii + nI iv).toNatClampNeg (if nI iv = nI ii then 0 else t 1 (2 * nI iv + k).toNatClampNeg)) 16 0 (1000 * (c : Int) + 100) := by
    rw [hl_c4' hii hiv, Int32.mul_comm 2 (nI iv), ← e1]
    refine hl_bd_ad n5 (by omega) ?_ (by decide) (by omega)
    split
    · exact ⟨by decide, by decide⟩
    · exact ⟨by omega, hpr.2⟩
  by_cases hO : g 3 (nI iv).toNatClampNeg ≤ 0
  · -- linen is borrowed
    have hO2 : t 3 (nI iv).toNatClampNeg ≤ 0 := by rw [← e3]; exact hO
    obtain ⟨r, hr, er, er2, er3⟩ := hl_rich_spec t
    have hgr : r_X2_giverFor g (nI iv) = nI r := by
      unfold r_X2_giverFor
      rw [if_pos hO, hl_giver_rich e3 hL, er]
    have hrv : ¬ nI r = nI iv := by
      intro z
      refine hL (fun k hk => ?_)
      rw [nI_eq (by omega) (by omega)] at z
      subst z
      rw [nI_clamp (by omega)] at hO
      rw [e3]
      rw [e3] at hO
      exact hl_i32_le_trans (er2 k hk) hO
    refine hl_R_core hc h0 hcnt hi hk hv (hl_pu_borrow ei ek hgr (hl_nIm1 (by omega)) hrv h20) (hl_sl_borrow er hO2) ?_ (by rw [e9]) ?_ ?_
    · rw [hl_ad_comm, hl_c4' hiv hr, hl_c4 hiv hr, hl_c4 hr hiv, Int32.add_comm 1, e9]
      exact hl_RB_ow _ hiv hr hB1
    · rw [hl_ad_comm, hl_c4' hiv hr]
      have q := hl_bd_ad (k := 4 * iv + r) (m := t 7 0 + 1) (q := 900) hD1 (by omega) (by rw [← e9, hl_ti_add (by show -2147483648 ≤ _ + (1 : Int); omega) (by show _ + (1 : Int) < 2147483648; omega)]; show 0 ≤ _ + (1 : Int) ∧ _ + (1 : Int) ≤ _; omega) (by decide) (by omega)
      exact hl_bd_mono q (by omega)
    · intro j _
      show 0 ≤ (g 9 0 + 1).toInt ∧ (g 9 0 + 1).toInt ≤ _
      rw [hl_ti_add (by show -2147483648 ≤ _ + (1 : Int); omega) (by show _ + (1 : Int) < 2147483648; omega)]
      show 0 ≤ _ + (1 : Int) ∧ _ + (1 : Int) ≤ _
      omega
  · have hO2 : ¬ t 3 (nI iv).toNatClampNeg ≤ 0 := by rw [← e3]; exact hO
    exact hl_R_core hc h0 hcnt hi hk hv (hl_pu_own ei ek hv1 hO h20) (hl_sl_own hO2) hB1 e9 (hl_bd_mono hD1 (by omega)) (hl_bd_mono n4 (by omega))
theorem hl_R_arrive {c N M T : Nat} {g t : Nat → Nat → Int32} {x v : Int32} (h : hl_R c N M T g t) (hx : x.toNatClampNeg < N) (h3 : g 13 x.toNatClampNeg = g 23 0) (h4 : g 14 x.toNatClampNeg = 0) :
    hl_R c N M T (f_X0_arrive g x v) (hl_su (hl_su t 16 (upd (t 16) x.toNatClampNeg 1)) 17 (upd (t 17) x.toNatClampNeg v)) ∧ M + 1 ≤ hl_cnt ((f_X0_arrive g x v) 14) N := by
  obtain ⟨o, ⟨t1, t2⟩, ⟨e0, e1, e2, e3, e4, e8, e9, e10, e11, e12, e13, e14, e15, e16, e17, e18, e19, e20, e21, e23⟩, b, w, ⟨m1, m2⟩, ct, nn⟩ := h
  have hcn : M + 1 ≤ hl_cnt ((f_X0_arrive g x v) 14) N := by
    show M + 1 ≤ hl_cnt (upd (g 14) x.toNatClampNeg 1) N
    rw [hl_cnt_upd (g 14) (by decide) h4, if_pos hx]
    omega
  refine ⟨⟨o, ⟨t1, t2⟩, ⟨e0, e1, e2, e3, e4, e8, e9, e10, e11, e12, e13, ?_, ?_, e16, e17, e18, e19, e20, e21, e23⟩, b, w, ⟨?_, m2⟩, by omega, nn⟩, hcn⟩
  · show upd (g 14) _ 1 = upd (t 16) _ 1
    rw [e14]
  · show upd (g 15) _ v = upd (t 17) _ v
    rw [e15]
  · intro s i hs hi
    show t 11 (4 * s + i) = _
    rw [m1 s i hs hi]
    refine hl_it_congr _ _ N 0 (fun k u hk => ?_)
    show (if g 11 k = nI i ∧ g 13 k = nI s ∧ g 14 k = 0 then u + 1 else u) = (if g 11 k = nI i ∧ g 13 k = nI s ∧ upd (g 14) x.toNatClampNeg 1 k = 0 then u + 1 else u)
    by_cases hk2 : k = x.toNatClampNeg
    · subst hk2
      have q : ¬ g 13 x.toNatClampNeg = nI s := by
        rw [h3, t2, nI_eq (by omega) (by omega)]
        omega
      rw [if_neg (fun z => q z.2.1), if_neg (fun z => q z.2.1)]
    · rw [hl_upd_ne _ _ hk2]
theorem hl_R_find {c N M T : Nat} {g t : Nat → Nat → Int32} {h k : Int32} (hR : hl_R c N M T g t) (hh : vp_in h 4) (hk : vp_in k 2) : r_X5_findInn g h k = r_X6_finds t h k := by
  obtain ⟨o, tt, ⟨e0, e1, e2, e3, e4, e8, e9, e10, e11, e12, e13, e14, e15, e16, e17, e18, e19, e20, e21, e23⟩, b, w, m, ct, ⟨n0, n1, n2, n3, n4, n5, n6, n7⟩⟩ := hR
  exact hl_find_eq hh hk e0 e2 e3 n1 (hl_bd_mono n3 (by omega))
theorem hl_find_L {t : Nat → Nat → Int32} {h k : Int32} (hf : ¬ r_X6_finds t h k = -1) : ¬ ∀ k, k < 4 → t 3 k ≤ 0 := by
  intro hL
  apply hf
  unfold r_X6_finds
  rw [if_pos ((hl_rich_none t).mpr hL)]
theorem hl_R_come {c N M T : Nat} {g t : Nat → Nat → Int32} {x : Int32} (hc : c < 512) (h : hl_R c N M T g t) (h1 : ¬ x < 0) (h2 : x < g 16 0) (h3 : g 13 x.toNatClampNeg = g 23 0) (h4 : g 14 x.toNatClampNeg = 0) :
    r_X5_findInn g (g 11 x.toNatClampNeg) (g 12 x.toNatClampNeg) = r_X6_finds t (t 13 x.toNatClampNeg) (t 14 x.toNatClampNeg) ∧ ∃ M', hl_R (c + 1) N M' T (f_X5_come g x) (f_X6_come t x) := by
  have hx : x.toNatClampNeg < N := hl_idx (hl_in (nI N) (by rw [nI_toInt]; have := h.1.1; omega) h1 (by rw [← h.1.2.1]; exact h2))
  have hr := h.1.2.2.2.2.1 _ hx
  have e11 : g 11 = t 13 := h.2.2.1.2.2.2.2.2.2.2.2.1
  have e12 : g 12 = t 14 := h.2.2.1.2.2.2.2.2.2.2.2.2.1
  have e3 : g 3 = t 3 := h.2.2.1.2.2.2.1
  have hf := hl_R_find h hr.1 hr.2
  rw [← e11, ← e12]
  refine ⟨hf, ?_⟩
  unfold f_X5_come f_X6_come
  dsimp only
  rw [← e11, ← e12, ← hf]
  by_cases hv : r_X5_findInn g (g 11 x.toNatClampNeg) (g 12 x.toNatClampNeg) = -1
  · rw [if_pos hv, if_pos hv]
    exact ⟨M, hl_R_up hc (hl_R_arrive h hx h3 h4).1⟩
  · rw [if_neg hv, if_neg hv]
    obtain ⟨ha, hcn⟩ := hl_R_arrive (v := r_X5_findInn g (g 11 x.toNatClampNeg) (g 12 x.toNatClampNeg)) h hx h3 h4
    have hL : ¬ ∀ k, k < 4 → g 3 k ≤ 0 := by
      rw [e3]
      exact hl_find_L (by rw [← hf]; exact hv)
    exact ⟨M + 1, hl_R_putUp hc ha hcn rfl rfl hr.1 hr.2 ((hl_find_in g _ _).resolve_left hv) hL⟩
