/-! The law's loop -/
set_option maxHeartbeats 4000000 in
set_option maxRecDepth 100000 in
theorem law_loop {p : Program} {l : Launch} {e : Env} {s : State} {m : MethodId} {below : List Frame} {meth : Method} {c : Code} {D : va_G} {cI cZ cJ : ClassId} {a : Nat → Nat} {bs L : Nat} {xs : Nat → Int32} (H : hl_H p s m c D cI cZ cJ (fun q => s.heap.size ≤ q) bs L xs) (hr : meth.sig.returnType = ret) (hlocks : meth.locks = false) :
    ∀ (n c0 : Nat) (lin : Int32) (g r : Nat → Nat → Int32), c0 + n = 100 → hp_I c0 lin g r →
      hl_X p l e room_1 s m #[Value.ref bs] below meth c 13 D (fun q => s.heap.size ≤ q) 29 1001 (lw_Z below #[Value.ref bs] s) (hl_LW a cI cZ r g) 39 [(0, .ref bs), (1, .ref (a 0)), (2, .ref (a 25)), (3, .ref (a 26)), (4, .ref (a 27)), (5, .ref (a 28)), (6, .int lin), (7, .int 1), (8, .int (nI c0))] [] := by
  obtain ⟨h, hX, hbl, hbA, hL⟩ := id H
  intro n
  induction n with
  | zero =>
    intro c0 lin g r hn hI
    refine hl_iload h 8 dL_law_39 rfl ?_
    refine hl_bipush h 100 dL_law_41 (by decide) ?_
    refine hl_icmp_ge_T h 286 dL_law_43 (by decide) (by rw [show c0 = 100 by omega]; decide) ?_
    refine hl_iload h 7 dL_law_286 rfl ?_
    intro H1 locs la hP hD hS hl
    refine va_forget (fun q hq => hS.2.2 q hq) ?_
    refine W.widen (k := 142) (n := 1887) (by omega) (by omega) ?_
    exact lw_ret h.1 h.2.1 hr hlocks dL_law_288
  | succ n ih =>
    intro c0 lin g r hn hI
    obtain ⟨N, M, T, P, t, hJ⟩ := hI
    refine law_step H (by omega) hJ (fun lin9 g9 r9 hI9 => ?_)
    refine hl_iinc h 8 (nI (c0 + 1)) [(8, .int (nI (c0 + 1))), (0, .ref bs), (1, .ref (a 0)), (2, .ref (a 25)), (3, .ref (a 26)), (4, .ref (a 27)), (5, .ref (a 28)), (6, .int lin9), (7, .int 1)] dL_law_280 rfl (hl_inc c0) (by decide) rfl ?_
    refine hl_goto h 39 dL_law_283 (by decide) ?_
    refine hl_lsub [1, 2, 3, 4, 5, 6, 7, 8, 0] (ls' := [(0, .ref bs), (1, .ref (a 0)), (2, .ref (a 25)), (3, .ref (a 26)), (4, .ref (a 27)), (5, .ref (a 28)), (6, .int lin9), (7, .int 1), (8, .int (nI (c0 + 1)))]) rfl ?_
    exact ih (c0 + 1) lin9 g9 r9 (by omega) hI9
/-! The law, from its entry -/
theorem hl_arrc {A0 : Array Value} {s : State} {ty : FieldType} (h0 : ∀ n, ty ≠ .object n) (h : (Cond.arrayClass ty).before A0 s = true) : ∃ cA : ClassId, ArrOfT s cA ty ∧ va_RA s cA ty := by
  obtain ⟨cA, k, comp, h1, h2, h3⟩ := Cond.arrayClass_spec h
  refine ⟨cA, fun n z => ⟨fun k h => (by cases h), k, h2, comp, h3⟩, ?_⟩
  cases ty with
  | object C => exact absurd rfl (h0 C)
  | _ => exact h1
set_option maxRecDepth 100000 in
theorem hl_K0 {s : State} {bs : Nat} (hts : ∀ w ∈ lw_tbl, w.before #[Value.ref bs] s = true) : ∃ (D : va_G) (cI cZ cJ : ClassId), va_K D vwCl (hl_ty cI cZ cJ) s := by
  obtain ⟨c0, i0, k0⟩ := u_known (C := RX0) (T := TX0) (N := 7) (n := 7) hts inX0 (hts (.instantiable RX0 7) (by decide +kernel))
  obtain ⟨c1, i1, k1⟩ := u_known (C := RX1) (T := TX1) (N := 2) (n := 2) hts inX1 (hts (.instantiable RX1 2) (by decide +kernel))
  obtain ⟨c2, i2, k2⟩ := u_known (C := RX2) (T := TX2) (N := 7) (n := 7) hts inX2 (hts (.instantiable RX2 7) (by decide +kernel))
  obtain ⟨c3, i3, k3⟩ := u_known (C := RX3) (T := TX3) (N := 4) (n := 4) hts inX3 (hts (.instantiable RX3 4) (by decide +kernel))
  obtain ⟨c4, i4, k4⟩ := u_known (C := RX4) (T := TX4) (N := 3) (n := 3) hts inX4 (hts (.instantiable RX4 3) (by decide +kernel))
  obtain ⟨c5, i5, k5⟩ := u_known (C := RX5) (T := TX5) (N := 6) (n := 6) hts inX5 (hts (.instantiable RX5 6) (by decide +kernel))
  obtain ⟨cI, aI⟩ := hl_arrc (ty := .int) (by intro n hn; cases hn) (hts (.arrayClass .int) (by decide +kernel))
  obtain ⟨cZ, aZ⟩ := hl_arrc (ty := .boolean) (by intro n hn; cases hn) (hts (.arrayClass .boolean) (by decide +kernel))
  refine ⟨(fun k => if k = 0 then c0 else if k = 1 then c1 else if k = 2 then c2 else if k = 3 then c3 else if k = 4 then c4 else c5, fun k => if k = 0 then i0 else if k = 1 then i1 else if k = 2 then i2 else if k = 3 then i3 else if k = 4 then i4 else i5), cI, cZ, cZ, ?_, ?_⟩
  · intro k q hq
    rcases (show k = 0 ∨ k = 1 ∨ k = 2 ∨ k = 3 ∨ k = 4 ∨ k = 5 ∨ 6 ≤ k by omega) with rfl | rfl | rfl | rfl | rfl | rfl | hk
    · cases hq; exact k0
    · cases hq; exact k1
    · cases hq; exact k2
    · cases hq; exact k3
    · cases hq; exact k4
    · cases hq; exact k5
    · rw [List.getElem?_eq_none (by exact hk)] at hq; cases hq
  · intro k q hq
    rcases (show k = 0 ∨ k = 1 ∨ 2 ≤ k by omega) with rfl | rfl | hk
    · cases hq; exact aI
    · cases hq; exact aZ
    · rw [List.getElem?_eq_none (by exact hk)] at hq; cases hq
theorem hp_I0 : hp_I 0 0 hl_g0 (fun _ _ => 0) :=
  ⟨0, 0, 0, 0, hl_t0, by omega, hl_R_0, by omega, by omega, ⟨fun b hb => absurd hb (Nat.not_lt_zero b), fun b _ => ⟨fun _ => rfl, fun _ => rfl⟩⟩, fun i k _ _ => rfl, fun j _ => rfl, by decide +kernel, by decide +kernel, by omega, by omega⟩
def hl_ax (a : Nat → Nat) (q1 q2 q3 q4 : Nat) : Nat → Nat := fun k => bif Nat.beq k 25 then q1 else bif Nat.beq k 26 then q2 else bif Nat.beq k 27 then q3 else bif Nat.beq k 28 then q4 else a k
set_option maxHeartbeats 4000000 in
set_option maxRecDepth 100000 in
theorem hl_begin {p : Program} {l : Launch} {e : Env} {s : State} {m : MethodId} {below : List Frame} {meth : Method} {c : Code} {D : va_G} {cI cZ cJ : ClassId} {bs L : Nat} {xs : Nat → Int32} (H : hl_H p s m c D cI cZ cJ (fun q => s.heap.size ≤ q) bs L xs) (hr : meth.sig.returnType = ret) (hlocks : meth.locks = false) :
    hl_X p l e room_1 s m #[Value.ref bs] below meth c 13 D (fun q => s.heap.size ≤ q) 0 0 (lw_Z below #[Value.ref bs] s) [] 0 [(0, .ref bs)] [] := by
  obtain ⟨h, hX, hbl, hbA, hL⟩ := id H
  refine hl_new h inlX5 tyX5_ok (ci := 5) rfl dL_law_0 (by decide +kernel) (by decide +kernel) (by decide +kernel) [.null, .null, .null, .null, .null, .int 0] (fun j hj => by rcases (show j = 0 ∨ j = 1 ∨ j = 2 ∨ j = 3 ∨ j = 4 ∨ j = 5 by omega) with rfl | rfl | rfl | rfl | rfl | rfl <;> rfl) (Nat.le_of_ble_eq_true rfl) (Nat.le_of_ble_eq_true rfl) (fun q0 => ?_)
  refine hl_wd (w' := [(q0, .inr (5, [.null, .null, .null, .null, .null, .int 0]))]) rfl ?_
  refine hl_dup h dL_law_3 rfl ?_
  refine hl_callPI h (st := [.ref q0]) (As := []) (wc := [(q0, .inr (5, [.null, .null, .null, .null, .null, .int 0]))]) (wr := []) [0] [] rfl rfl (by decide) (by decide) (by decide) (c_X5_init l D cI cZ cJ q0) (cwI 0 h.2.2.2.2.1 gL_law_X5_init rfl rfl rfl (h.2.2.2.2.1 _ (by decide +kernel)) (h.2.2.2.2.1 _ (by decide +kernel)) (h.2.2.2.2.1 _ (by decide +kernel)) rfl (by decide +kernel) ⟨Nat.le_of_ble_eq_true rfl, Nat.le_of_ble_eq_true rfl⟩) dL_law_4 rfl (Nat.le_of_ble_eq_true rfl) ⟨Nat.le_of_ble_eq_true rfl, Nat.le_of_ble_eq_true rfl⟩ rfl (fun w1 hw1 => ?_)
  obtain ⟨a, ha, hw⟩ := hw1
  rw [hw, ← ha]
  refine hl_wd (w' := hl_WC a cI cZ hl_g0) rfl ?_
  refine hl_astore_n h [(1, .ref (a 0)), (0, .ref bs)] dL_law_7 (by decide) rfl ?_
  refine hl_bipush h 8 dL_law_8 (by decide) ?_
  refine hl_newa h (atype := .int) (ty := .int) (by decide +kernel) rfl (by intro n hn; cases hn) 0 rfl (N' := 8) (a0 := (8, .inl (fun _ => 0))) dL_law_10 (fun _ => rfl) (by decide) (by decide) (Nat.le_of_ble_eq_true rfl) (Nat.le_of_ble_eq_true rfl) (Nat.le_of_ble_eq_true rfl) (fun q1 => ?_)
  refine hl_astore_n h [(2, .ref q1), (1, .ref (a 0)), (0, .ref bs)] dL_law_12 (by decide) rfl ?_
  refine hl_bipush h 60 dL_law_13 (by decide) ?_
  refine hl_newa h (atype := .int) (ty := .int) (by decide +kernel) rfl (by intro n hn; cases hn) 0 rfl (N' := 60) (a0 := (60, .inl (fun _ => 0))) dL_law_15 (fun _ => rfl) (by decide) (by decide) (Nat.le_of_ble_eq_true rfl) (Nat.le_of_ble_eq_true rfl) (Nat.le_of_ble_eq_true rfl) (fun q2 => ?_)
  refine hl_astore_n h [(3, .ref q2), (2, .ref q1), (1, .ref (a 0)), (0, .ref bs)] dL_law_17 (by decide) rfl ?_
  refine hl_bipush h 60 dL_law_18 (by decide) ?_
  refine hl_newa h (atype := .int) (ty := .int) (by decide +kernel) rfl (by intro n hn; cases hn) 0 rfl (N' := 60) (a0 := (60, .inl (fun _ => 0))) dL_law_20 (fun _ => rfl) (by decide) (by decide) (Nat.le_of_ble_eq_true rfl) (Nat.le_of_ble_eq_true rfl) (Nat.le_of_ble_eq_true rfl) (fun q3 => ?_)
  refine hl_astore h [(4, .ref q3), (3, .ref q2), (2, .ref q1), (1, .ref (a 0)), (0, .ref bs)] dL_law_22 (by decide) rfl ?_
  refine hl_bipush h 60 dL_law_24 (by decide) ?_
  refine hl_newa h (atype := .int) (ty := .int) (by decide +kernel) rfl (by intro n hn; cases hn) 0 rfl (N' := 60) (a0 := (60, .inl (fun _ => 0))) dL_law_26 (fun _ => rfl) (by decide) (by decide) (Nat.le_of_ble_eq_true rfl) (Nat.le_of_ble_eq_true rfl) (Nat.le_of_ble_eq_true rfl) (fun q4 => ?_)
  refine hl_astore h [(5, .ref q4), (4, .ref q3), (3, .ref q2), (2, .ref q1), (1, .ref (a 0)), (0, .ref bs)] dL_law_28 (by decide) rfl ?_
  refine hl_wsub [25, 26, 27, 28, 0, 1, 2, 3, 4, 5, 6, 7, 8, 9, 10, 11, 12, 13, 14, 15, 16, 17, 18, 19, 20, 21, 22, 23, 24] (w' := hl_LW (hl_ax a q1 q2 q3 q4) cI cZ (fun _ _ => 0) hl_g0) (by decide) rfl ?_
  refine hl_iconst h 0 dL_law_30 (by decide) ?_
  refine hl_istore h [(6, .int 0), (5, .ref q4), (4, .ref q3), (3, .ref q2), (2, .ref q1), (1, .ref (a 0)), (0, .ref bs)] dL_law_31 (by decide) rfl ?_
  refine hl_iconst h 1 dL_law_33 (by decide) ?_
  refine hl_istore h [(7, .int 1), (6, .int 0), (5, .ref q4), (4, .ref q3), (3, .ref q2), (2, .ref q1), (1, .ref (a 0)), (0, .ref bs)] dL_law_34 (by decide) rfl ?_
  refine hl_iconst h 0 dL_law_36 (by decide) ?_
  refine hl_istore h [(8, .int 0), (7, .int 1), (6, .int 0), (5, .ref q4), (4, .ref q3), (3, .ref q2), (2, .ref q1), (1, .ref (a 0)), (0, .ref bs)] dL_law_37 (by decide) rfl ?_
  refine hl_lsub [8, 7, 6, 5, 4, 3, 2, 1, 0] (ls' := [(0, .ref bs), (1, .ref (hl_ax a q1 q2 q3 q4 0)), (2, .ref (hl_ax a q1 q2 q3 q4 25)), (3, .ref (hl_ax a q1 q2 q3 q4 26)), (4, .ref (hl_ax a q1 q2 q3 q4 27)), (5, .ref (hl_ax a q1 q2 q3 q4 28)), (6, .int 0), (7, .int 1), (8, .int (nI 0))]) rfl ?_
  exact law_loop H hr hlocks 100 0 0 hl_g0 (fun _ _ => 0) (by omega) hp_I0
set_option maxHeartbeats 4000000 in
set_option maxRecDepth 100000 in
theorem whole_start {p : Program} {e : Env} {s : State} {m : MethodId} {below : List Frame} {meth : Method} {c : Code} (l : Launch) (hflags : l.flags = flags0) {b L : Nat} {xs : Nat → Int32} (hL : L ≤ 260) (C0 : lw_At p s m meth c b L xs) : W p l e room_1 s m #[Value.ref b] below meth c s.heap [] 0 0 (lw_Z below #[Value.ref b] s) (entryFrame m ([Value.ref b] : List Value).toArray 13) := by
  obtain ⟨hx, hb, hr, hml, hown, hts, hX, hbl, hlocks, hgv⟩ := id C0
  obtain ⟨D, cI, cZ, cJ, hK⟩ := hl_K0 hts
  have H : hl_H p s m c D cI cZ cJ (fun q => s.heap.size ≤ q) b L xs := ⟨⟨hx, hb, hml, hown, fun w hw => hts w (wsL_law_in w hw), hK, fun q h => h⟩, hX, hbl, Nat.not_le.mpr hbl, hL⟩
  have hP : va_P D vwCl [] s.heap := fun k q h => by simp at h
  have hD : va_D (fun q : Nat => s.heap.size ≤ q) [] := ⟨fun i j p q h => by simp at h, fun k q h => by simp at h⟩
  rw [lg_entry_eq]
  exact hl_begin H hr hlocks s.heap [] _ hP hD va_S.rf (lv_entry ([.ref b]) (n := 13) (Nat.le_of_ble_eq_true rfl))
