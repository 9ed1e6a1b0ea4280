/-! A guest comes: the relation stays -/
def hl_ow (f : Nat → Int32) (a b : Nat) (n : Int32) : Nat → Int32 := upd (upd f a (f a + n)) b (upd f a (f a + n) b - n)
def hl_ad (d : Nat → Int32) (a : Nat) (n : Int32) : Nat → Int32 := upd d a (d a + n)
theorem hl_ad0 (d : Nat → Int32) (a : Nat) : hl_ad d a 0 = d := by
  unfold hl_ad
  rw [Int32.add_zero, hl_upd_same]
theorem hl_ad_comm (d : Nat → Int32) (a b : Nat) (m n : Int32) : hl_ad (hl_ad d a m) b n = hl_ad (hl_ad d b n) a m := by
  funext j
  unfold hl_ad upd
  by_cases h1 : j = a <;> by_cases h2 : j = b <;> by_cases h3 : a = b <;> grind
theorem hl_RB_ow {f d : Nat → Int32} {x y : Nat} (n : Int32) (hx : x < 4) (hy : y < 4) (h : hl_RB f d) : hl_RB (hl_ow f (4 * x + y) (4 * y + x) n) (hl_ad d (4 * x + y) n) := by
  intro i j hi hj
  have h1 := h x y hx hy
  have h2 := h y x hy hx
  have h3 := h i j hi hj
  unfold hl_ow hl_ad upd
  have e1 : 4 * i + j = 4 * y + x ↔ i = y ∧ j = x := by omega
  have e2 : 4 * i + j = 4 * x + y ↔ i = x ∧ j = y := by omega
  have e3 : 4 * j + i = 4 * x + y ↔ j = x ∧ i = y := by omega
  have e4 : 4 * y + x = 4 * x + y ↔ y = x := by omega
  simp only [e1, e2, e3, e4]
  by_cases a1 : i = x
  · by_cases a2 : j = y
    · subst a1; subst a2
      by_cases a3 : i = j
      · subst a3; grind
      · grind
    · by_cases a3 : i = y
      · subst a1; subst a3; grind
      · grind
  · by_cases a2 : j = x
    · by_cases a3 : i = y
      · subst a2; subst a3; grind
      · grind
    · grind
theorem hl_bd_ad {d : Nat → Int32} {n k : Nat} {lo hi q : Int} {m : Int32} (h : hl_bd d n lo hi) (hk : k < n) (hm : 0 ≤ m.toInt ∧ m.toInt ≤ q) (hlo : -2147483648 ≤ lo) (hq : hi + q < 2147483648) : hl_bd (hl_ad d k m) n lo (hi + q) := by
  have h1 := h k hk
  have h2 : (d k + m).toInt = (d k).toInt + m.toInt := hl_ti_add (by omega) (by omega)
  exact hl_bd_upd (hl_bd_mono h (by omega)) (by rw [h2]; omega)
theorem hl_c4 {i j : Nat} (hi : i < 4) (hj : j < 4) : (nI i * 4 + nI j).toNatClampNeg = 4 * i + j := by
  show (nI i * nI 4 + nI j).toNatClampNeg = _
  rw [pk_mul, nI_add, nI_clamp (by omega), Nat.mul_comm]
theorem hl_c4' {i j : Nat} (hi : i < 4) (hj : j < 4) : (4 * nI i + nI j).toNatClampNeg = 4 * i + j := by rw [Int32.mul_comm, hl_c4 hi hj]
theorem hl_owe22 (g : Nat → Nat → Int32) (x y n : Int32) : f_X1_owe g x y n 22 = hl_ow (g 22) (x * 4 + y).toNatClampNeg (y * 4 + x).toNatClampNeg n := rfl
theorem hl_giver_congr {g g2 : Nat → Nat → Int32} (h : g 3 = g2 3) (x : Int32) : r_X2_giverFor g x = r_X2_giverFor g2 x := by
  have hb : b_X2_giverFor g = b_X2_giverFor g2 := by
    funext k z
    unfold b_X2_giverFor
    rw [h]
  unfold r_X2_giverFor
  rw [hb, h]
theorem hl_lay_own {g : Nat → Nat → Int32} {v : Int32} (hv : ¬ v = -1) (h : ¬ g 3 v.toNatClampNeg ≤ 0) : f_X5_layLinen g v = hl_su (hl_su g 3 (upd (g 3) v.toNatClampNeg (g 3 v.toNatClampNeg - 1))) 4 (upd (g 4) v.toNatClampNeg (g 4 v.toNatClampNeg + 1)) := by
  have hr : r_X2_giverFor g v = v := by unfold r_X2_giverFor; rw [if_neg h]
  unfold f_X5_layLinen
  rw [hr, if_neg hv, if_pos rfl]
  unfold f_X2_take
  rw [if_pos rfl]
  rfl
theorem hl_lay_borrow {g : Nat → Nat → Int32} {v r : Int32} (hr : r_X2_giverFor g v = r) (h1 : ¬ r = -1) (h2 : ¬ r = v) : f_X5_layLinen g v = hl_su (hl_su (hl_su (f_X1_owe g v r (1 + g 9 0)) 3 (upd (g 3) r.toNatClampNeg (g 3 r.toNatClampNeg - 1))) 4 (upd (g 4) v.toNatClampNeg (g 4 v.toNatClampNeg + 1))) 9 (fun _ => g 9 0 + 1) := by
  unfold f_X5_layLinen
  rw [hr, if_neg h1, if_neg h2]
  unfold f_X2_take
  rw [if_neg h2]
  rfl
theorem hl_add3 {g : Nat → Nat → Int32} (h : g 20 0 < 80) (x y z : Int32) : f_X3_add g x y z = hl_su (hl_su (hl_su (hl_su g 17 (upd (g 17) (g 20 0).toNatClampNeg x)) 18 (upd (g 18) (g 20 0).toNatClampNeg y)) 19 (upd (g 19) (g 20 0).toNatClampNeg z)) 20 (fun _ => g 20 0 + 1) := by
  unfold f_X3_add
  rw [if_pos h]
  rfl
/-- the class's contents behind a guest's coming, place by place, when the inn v has clean linen of its own (b = false) or borrows from r -/
def hl_pg (g : Nat → Nat → Int32) (x hm kd v r : Int32) (f22 f9 : Nat → Int32) (G : Nat → Nat → Int32) : Prop :=
  (G 0 = g 0 ∧ G 1 = g 1 ∧ G 5 = g 5 ∧ G 6 = g 6 ∧ G 7 = g 7 ∧ G 8 = g 8 ∧ G 10 = g 10 ∧ G 11 = g 11 ∧ G 12 = g 12 ∧ G 13 = g 13 ∧ G 14 = g 14 ∧ G 15 = g 15 ∧ G 16 = g 16 ∧ G 23 = g 23) ∧
  G 21 = upd (g 21) hm.toNatClampNeg (g 21 hm.toNatClampNeg + g 1 (hm * 2 + kd).toNatClampNeg) ∧ G 22 = f22 ∧ G 3 = upd (g 3) r.toNatClampNeg (g 3 r.toNatClampNeg - 1) ∧ G 4 = upd (g 4) v.toNatClampNeg (g 4 v.toNatClampNeg + 1) ∧ G 9 = f9 ∧ G 2 = upd (g 2) (v * 2 + kd).toNatClampNeg (g 2 (v * 2 + kd).toNatClampNeg + 1) ∧
  G 17 = upd (g 17) (g 20 0).toNatClampNeg (g 10 x.toNatClampNeg) ∧ G 18 = upd (g 18) (g 20 0).toNatClampNeg v ∧ G 19 = upd (g 19) (g 20 0).toNatClampNeg (g 1 (v * 2 + kd).toNatClampNeg / 10) ∧ G 20 = (fun _ => g 20 0 + 1)
theorem hl_pu_own {g : Nat → Nat → Int32} {x v hm kd : Int32} (e1 : g 11 x.toNatClampNeg = hm) (e2 : g 12 x.toNatClampNeg = kd) (hv : ¬ v = -1) (h : ¬ g 3 v.toNatClampNeg ≤ 0) (h20 : g 20 0 < 80) :
    hl_pg g x hm kd v v (if v = hm then g 22 else hl_ow (g 22) (hm * 4 + v).toNatClampNeg (v * 4 + hm).toNatClampNeg (g 1 (v * 2 + kd).toNatClampNeg)) (g 9) (f_X5_putUp g x v) := by
  subst e1; subst e2
  unfold f_X5_putUp
  by_cases hA : v = g 11 x.toNatClampNeg
  · simp only [if_pos hA]
    rw [hl_lay_own hv (by exact h), hl_add3 (by exact h20)]
    exact ⟨⟨rfl, rfl, rfl, rfl, rfl, rfl, rfl, rfl, rfl, rfl, rfl, rfl, rfl, rfl⟩, rfl, rfl, rfl, rfl, rfl, rfl, rfl, rfl, rfl, rfl⟩
  · simp only [if_neg hA]
    rw [hl_lay_own hv (by exact h), hl_add3 (by exact h20)]
    exact ⟨⟨rfl, rfl, rfl, rfl, rfl, rfl, rfl, rfl, rfl, rfl, rfl, rfl, rfl, rfl⟩, rfl, rfl, rfl, rfl, rfl, rfl, rfl, rfl, rfl, rfl⟩
theorem hl_pu_borrow {g : Nat → Nat → Int32} {x v hm kd r : Int32} (e1 : g 11 x.toNatClampNeg = hm) (e2 : g 12 x.toNatClampNeg = kd) (hr : r_X2_giverFor g v = r) (h1 : ¬ r = -1) (h2 : ¬ r = v) (h20 : g 20 0 < 80) :
    hl_pg g x hm kd v r (hl_ow (if v = hm then g 22 else hl_ow (g 22) (hm * 4 + v).toNatClampNeg (v * 4 + hm).toNatClampNeg (g 1 (v * 2 + kd).toNatClampNeg)) (v * 4 + r).toNatClampNeg (r * 4 + v).toNatClampNeg (1 + g 9 0)) (fun _ => g 9 0 + 1) (f_X5_putUp g x v) := by
  subst e1; subst e2
  unfold f_X5_putUp
  by_cases hA : v = g 11 x.toNatClampNeg
  · simp only [if_pos hA]
    rw [hl_lay_borrow ((hl_giver_congr (by exact rfl) v).trans hr) h1 h2, hl_add3 (by exact h20)]
    exact ⟨⟨rfl, rfl, rfl, rfl, rfl, rfl, rfl, rfl, rfl, rfl, rfl, rfl, rfl, rfl⟩, rfl, rfl, rfl, rfl, rfl, rfl, rfl, rfl, rfl, rfl⟩
  · simp only [if_neg hA]
    rw [hl_lay_borrow ((hl_giver_congr (by exact rfl) v).trans hr) h1 h2, hl_add3 (by exact h20)]
    exact ⟨⟨rfl, rfl, rfl, rfl, rfl, rfl, rfl, rfl, rfl, rfl, rfl, rfl, rfl, rfl⟩, rfl, rfl, rfl, rfl, rfl, rfl, rfl, rfl, rfl, rfl⟩
/-- the same for the reference -/
def hl_pt (t : Nat → Nat → Int32) (x i k v r : Int32) (f9 f7 : Nat → Int32) (U : Nat → Nat → Int32) : Prop :=
  (U 0 = t 0 ∧ U 1 = t 1 ∧ U 6 = t 6 ∧ U 8 = t 8 ∧ U 10 = t 10 ∧ U 11 = t 11 ∧ U 12 = t 12 ∧ U 13 = t 13 ∧ U 14 = t 14 ∧ U 15 = t 15 ∧ U 16 = t 16 ∧ U 17 = t 17 ∧ U 18 = t 18) ∧
  U 5 = upd (t 5) i.toNatClampNeg (t 5 i.toNatClampNeg + t 1 (2 * i + k).toNatClampNeg) ∧ U 9 = f9 ∧ U 3 = upd (t 3) r.toNatClampNeg (t 3 r.toNatClampNeg - 1) ∧ U 4 = upd (t 4) v.toNatClampNeg (t 4 v.toNatClampNeg + 1) ∧ U 7 = f7 ∧ U 2 = upd (t 2) (2 * v + k).toNatClampNeg (t 2 (2 * v + k).toNatClampNeg + 1) ∧
  U 19 = upd (t 19) (t 22 0).toNatClampNeg (t 12 x.toNatClampNeg) ∧ U 20 = upd (t 20) (t 22 0).toNatClampNeg v ∧ U 21 = upd (t 21) (t 22 0).toNatClampNeg (t 1 (2 * v + k).toNatClampNeg / 10) ∧ U 22 = (fun _ => t 22 0 + 1)
theorem hl_tl_own {t : Nat → Nat → Int32} {v : Int32} (h : ¬ t 3 v.toNatClampNeg ≤ 0) : f_X6_takesLinen t v = hl_su (hl_su t 3 (upd (t 3) v.toNatClampNeg (t 3 v.toNatClampNeg - 1))) 4 (upd (t 4) v.toNatClampNeg (t 4 v.toNatClampNeg + 1)) := by
  unfold f_X6_takesLinen
  dsimp only
  rw [if_neg h]
  rfl
theorem hl_rich_congr {t t2 : Nat → Nat → Int32} (h : t 3 = t2 3) : r_X6_richest t = r_X6_richest t2 := by
  have hb : b_X6_richest t = b_X6_richest t2 := by
    funext k z
    unfold b_X6_richest
    rw [h]
  unfold r_X6_richest
  rw [hb]
theorem hl_tl_borrow {t : Nat → Nat → Int32} {v r : Int32} (hr : r_X6_richest t = r) (h : t 3 v.toNatClampNeg ≤ 0) : f_X6_takesLinen t v = hl_su (hl_su (hl_su (hl_su t 3 (upd (t 3) r.toNatClampNeg (t 3 r.toNatClampNeg - 1))) 7 (fun _ => t 7 0 + 1)) 9 (hl_ad (t 9) (4 * v + r).toNatClampNeg (t 7 0 + 1))) 4 (upd (t 4) v.toNatClampNeg (t 4 v.toNatClampNeg + 1)) := by
  unfold f_X6_takesLinen
  dsimp only
  rw [if_pos h, hr]
  rfl
theorem hl_sl_own {t : Nat → Nat → Int32} {x i k v : Int32} (h : ¬ t 3 v.toNatClampNeg ≤ 0) :
    hl_pt t x i k v v (hl_ad (t 9) (4 * i + v).toNatClampNeg (if v = i then 0 else t 1 (2 * v + k).toNatClampNeg)) (t 7) (f_X6_sleep t x i k v) := by
  unfold f_X6_sleep
  dsimp only
  rw [hl_tl_own (by exact h)]
  exact ⟨⟨rfl, rfl, rfl, rfl, rfl, rfl, rfl, rfl, rfl, rfl, rfl, rfl, rfl⟩, rfl, rfl, rfl, rfl, rfl, rfl, rfl, rfl, rfl, rfl⟩
theorem hl_sl_borrow {t : Nat → Nat → Int32} {x i k v r : Int32} (hr : r_X6_richest t = r) (h : t 3 v.toNatClampNeg ≤ 0) :
    hl_pt t x i k v r (hl_ad (hl_ad (t 9) (4 * v + r).toNatClampNeg (t 7 0 + 1)) (4 * i + v).toNatClampNeg (if v = i then 0 else t 1 (2 * v + k).toNatClampNeg)) (fun _ => t 7 0 + 1) (f_X6_sleep t x i k v) := by
  unfold f_X6_sleep
  dsimp only
  rw [hl_tl_borrow ((hl_rich_congr (by exact rfl)).trans hr) (by exact h)]
  exact ⟨⟨rfl, rfl, rfl, rfl, rfl, rfl, rfl, rfl, rfl, rfl, rfl, rfl, rfl⟩, rfl, rfl, rfl, rfl, rfl, rfl, rfl, rfl, rfl, rfl⟩
