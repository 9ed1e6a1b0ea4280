/-! THE LAW, from its entry -/
theorem hl_arrc {A0 : Array Value} {s : State} {ty : FieldType} (h0 : ∀ n, ty ≠ .object n) (h : (Cond.arrayClass ty).before A0 s = true) : ∃ cA : ClassId, ArrOfT s cA ty ∧ va_RA s cA ty := by
  obtain ⟨cA, k, comp, h1, h2, h3⟩ := Cond.arrayClass_spec h
  refine ⟨cA, fun n z => ⟨fun k h => (by cases h), k, h2, comp, h3⟩, ?_⟩
  cases ty with
  | object C => exact absurd rfl (h0 C)
  | _ => exact h1
set_option maxRecDepth 100000 in
theorem hl_Z0 {s : State} {bs : Nat} (hts : ∀ w ∈ lw_tbl, w.before #[Value.ref bs] s = true) (hgv : (Jvm.Cond.and given_1 narrow_1).before #[Value.ref bs] s = true) : hl_Z (fun q => s.heap.size ≤ q) s s.heap := by
  have hn := flat_of_before _ hgv
  have hA : ∀ a : Nat, a < s.heap.size → ¬ (s.heap.size ≤ a) := fun a h => Nat.not_le.mpr h
  have hstr : ∀ (k : Nat) (tx : String), Cond.stringRef RX5 k tx ∈ lw_tbl → Cond.exactly (Term.string RX5 k) "java/lang/String" ∈ flatC (Jvm.Cond.and given_1 narrow_1) → ∃ sa : Nat, vk_R RX5 k tx sa s := by
    intro k tx h1 h2
    obtain ⟨b', cB, cellB, kB, hb, _⟩ := Cond.exactly_spec (hn _ h2)
    exact ⟨b', vk_R.of (hts _ h1) hb⟩
  refine ⟨vx_Zqof (hts _ (by decide +kernel)) (hts _ (by decide +kernel)) (hn _ (by decide +kernel)) hA, vx_Zqof (hts _ (by decide +kernel)) (hts _ (by decide +kernel)) (hn _ (by decide +kernel)) hA,
    ⟨va_Nw.of rfl (hts _ (by decide +kernel)), va_Nw.of rfl (hts _ (by decide +kernel)), va_Nw.of rfl (hts _ (by decide +kernel))⟩,
    ⟨va_Nc.of (hn _ (by decide +kernel)), va_Nc.of (hn _ (by decide +kernel)), va_Nc.of (hn _ (by decide +kernel))⟩,
    ⟨va_Nw.of rfl (hts _ (by decide +kernel)), va_Nw.of rfl (hts _ (by decide +kernel)), va_Nw.of rfl (hts _ (by decide +kernel))⟩, ?_⟩
  unfold hl_tx
  exact List.forall_mem_cons.mpr ⟨hstr _ _ (by decide +kernel) (by decide +kernel), List.forall_mem_cons.mpr ⟨hstr _ _ (by decide +kernel) (by decide +kernel), List.forall_mem_cons.mpr ⟨hstr _ _ (by decide +kernel) (by decide +kernel), List.forall_mem_cons.mpr ⟨hstr _ _ (by decide +kernel) (by decide +kernel), List.forall_mem_cons.mpr ⟨hstr _ _ (by decide +kernel) (by decide +kernel), List.forall_mem_cons.mpr ⟨hstr _ _ (by decide +kernel) (by decide +kernel), List.forall_mem_cons.mpr ⟨hstr _ _ (by decide +kernel) (by decide +kernel), List.forall_mem_cons.mpr ⟨hstr _ _ (by decide +kernel) (by decide +kernel), List.forall_mem_cons.mpr ⟨hstr _ _ (by decide +kernel) (by decide +kernel), fun _ h => absurd h List.not_mem_nil⟩⟩⟩⟩⟩⟩⟩⟩⟩
set_option maxRecDepth 100000 in
theorem hl_K0 {s : State} {bs : Nat} (hts : ∀ w ∈ lw_tbl, w.before #[Value.ref bs] s = true) : ∃ (D : va_G) (cI cZ cJ : ClassId), va_K D vwCl (hl_ty cI cZ cJ) s := by
  obtain ⟨c0, i0, k0⟩ := u_known (C := RX0) (T := TX0) (N := 7) (n := 7) hts inX0 (hts (.instantiable RX0 7) (by decide +kernel))
  obtain ⟨c1, i1, k1⟩ := u_known (C := RX1) (T := TX1) (N := 2) (n := 2) hts inX1 (hts (.instantiable RX1 2) (by decide +kernel))
  obtain ⟨c2, i2, k2⟩ := u_known (C := RX2) (T := TX2) (N := 7) (n := 7) hts inX2 (hts (.instantiable RX2 7) (by decide +kernel))
  obtain ⟨c3, i3, k3⟩ := u_known (C := RX3) (T := TX3) (N := 4) (n := 4) hts inX3 (hts (.instantiable RX3 4) (by decide +kernel))
  obtain ⟨c4, i4, k4⟩ := u_known (C := RX4) (T := TX4) (N := 3) (n := 3) hts inX4 (hts (.instantiable RX4 3) (by decide +kernel))
  obtain ⟨c5, i5, k5⟩ := u_known (C := RX5) (T := TX5) (N := 6) (n := 6) hts inX5 (hts (.instantiable RX5 6) (by decide +kernel))
  obtain ⟨c6, i6, k6⟩ := u_known (C := RX6) (T := TX6) (N := 24) (n := 24) hts inX6 (hts (.instantiable RX6 24) (by decide +kernel))
  obtain ⟨cI, aI⟩ := hl_arrc (ty := .int) (by intro n hn; cases hn) (hts (.arrayClass .int) (by decide +kernel))
  obtain ⟨cZ, aZ⟩ := hl_arrc (ty := .boolean) (by intro n hn; cases hn) (hts (.arrayClass .boolean) (by decide +kernel))
  obtain ⟨cJ, aJ⟩ := hl_arrc (ty := .long) (by intro n hn; cases hn) (hts (.arrayClass .long) (by decide +kernel))
  refine ⟨(fun k => if k = 0 then c0 else if k = 1 then c1 else if k = 2 then c2 else if k = 3 then c3 else if k = 4 then c4 else if k = 5 then c5 else c6, fun k => if k = 0 then i0 else if k = 1 then i1 else if k = 2 then i2 else if k = 3 then i3 else if k = 4 then i4 else if k = 5 then i5 else i6), cI, cZ, cJ, ?_, ?_⟩
  · intro k q hq
    rcases (show k = 0 ∨ k = 1 ∨ k = 2 ∨ k = 3 ∨ k = 4 ∨ k = 5 ∨ k = 6 ∨ 7 ≤ k by omega) with rfl | rfl | rfl | rfl | rfl | rfl | rfl | hk
    · cases hq; exact k0
    · cases hq; exact k1
    · cases hq; exact k2
    · cases hq; exact k3
    · cases hq; exact k4
    · cases hq; exact k5
    · cases hq; exact k6
    · rw [List.getElem?_eq_none (by exact hk)] at hq; cases hq
  · intro k q hq
    rcases (show k = 0 ∨ k = 1 ∨ k = 2 ∨ 3 ≤ k by omega) with rfl | rfl | rfl | hk
    · cases hq; exact aI
    · cases hq; exact aZ
    · cases hq; exact aJ
    · rw [List.getElem?_eq_none (by exact hk)] at hq; cases hq
set_option maxHeartbeats 4000000 in
set_option maxRecDepth 100000 in
theorem hl_begin {p : Program} {l : Launch} {e : Env} {s : State} {m : MethodId} {below : List Frame} {meth : Method} {c : Code} {D : va_G} {cI cZ cJ : ClassId} {bs L : Nat} {xs : Nat → Int32} (H : hl_H p s m c D cI cZ cJ (fun q => s.heap.size ≤ q) bs L xs) (hst : l.stackTraces = false) (hr : meth.sig.returnType = ret) (hlocks : meth.locks = false) :
    hl_X p l e room_1 s m #[Value.ref bs] below meth c 7 D (fun q => s.heap.size ≤ q) 0 0 (lw_Z below #[Value.ref bs] s) [] 0 [(0, .ref bs)] [] := by
  obtain ⟨h, hz, hX, hbl, hbA, hL⟩ := id H
  refine hl_new h inlX5 tyX5_ok (ci := 5) rfl dL_law_0 (by decide +kernel) (by decide +kernel) (by decide +kernel) [.null, .null, .null, .null, .null, .int 0] (fun j hj => by rcases (show j = 0 ∨ j = 1 ∨ j = 2 ∨ j = 3 ∨ j = 4 ∨ j = 5 by omega) with rfl | rfl | rfl | rfl | rfl | rfl <;> rfl) (Nat.le_of_ble_eq_true rfl) (Nat.le_of_ble_eq_true rfl) (fun q1 => ?_)
  refine hl_wd (w' := [(q1, .inr (5, [.null, .null, .null, .null, .null, .int 0]))]) rfl ?_
  refine hl_dup h dL_law_3 rfl ?_
  refine hl_callPI h (st := [.ref q1]) (As := []) (wc := [(q1, .inr (5, [.null, .null, .null, .null, .null, .int 0]))]) (wr := []) [0] [] rfl rfl (by decide) (by decide) (by decide) (c_X5_init l D cI cZ cJ q1) (cwI 0 h.2.2.2.2.1 gL_law_X5_init rfl rfl rfl (h.2.2.2.2.1 _ (by decide +kernel)) (h.2.2.2.2.1 _ (by decide +kernel)) (h.2.2.2.2.1 _ (by decide +kernel)) rfl (by decide +kernel) ⟨Nat.le_of_ble_eq_true rfl, Nat.le_of_ble_eq_true rfl⟩) dL_law_4 rfl (Nat.le_of_ble_eq_true rfl) ⟨Nat.le_of_ble_eq_true rfl, Nat.le_of_ble_eq_true rfl⟩ rfl (fun w1 hw1 => ?_)
  obtain ⟨a, ha, hw⟩ := hw1
  rw [hw, ← ha]
  refine hl_wd (w' := hl_WC a cI cZ hl_g0) rfl ?_
  refine hl_astore_n h [(1, .ref (a 0)), (0, .ref bs)] dL_law_7 (by decide) rfl ?_
  refine hl_new h inlX6 tyX6_ok (ci := 6) rfl dL_law_8 (by decide +kernel) (by decide +kernel) (by decide +kernel) [.null, .null, .null, .null, .null, .null, .int 0, .int 0, .int 0, .null, .null, .null, .null, .null, .null, .null, .null, .null, .int 0, .null, .null, .null, .int 0, .int 0] (fun j hj => by rcases (show j = 0 ∨ j = 1 ∨ j = 2 ∨ j = 3 ∨ j = 4 ∨ j = 5 ∨ j = 6 ∨ j = 7 ∨ j = 8 ∨ j = 9 ∨ j = 10 ∨ j = 11 ∨ j = 12 ∨ j = 13 ∨ j = 14 ∨ j = 15 ∨ j = 16 ∨ j = 17 ∨ j = 18 ∨ j = 19 ∨ j = 20 ∨ j = 21 ∨ j = 22 ∨ j = 23 by omega) with rfl | rfl | rfl | rfl | rfl | rfl | rfl | rfl | rfl | rfl | rfl | rfl | rfl | rfl | rfl | rfl | rfl | rfl | rfl | rfl | rfl | rfl | rfl | rfl <;> rfl) (Nat.le_of_ble_eq_true rfl) (Nat.le_of_ble_eq_true rfl) (fun q2 => ?_)
  refine hl_dup h dL_law_11 rfl ?_
  refine hl_callPI h (st := [.ref q2]) (As := []) (wc := [(q2, .inr (6, [.null, .null, .null, .null, .null, .null, .int 0, .int 0, .int 0, .null, .null, .null, .null, .null, .null, .null, .null, .null, .int 0, .null, .null, .null, .int 0, .int 0]))]) (wr := hl_WC a cI cZ hl_g0) [25] [0, 1, 2, 3, 4, 5, 6, 7, 8, 9, 10, 11, 12, 13, 14, 15, 16, 17, 18, 19, 20, 21, 22, 23, 24] rfl rfl (by decide) (by decide) (by decide) (c_X6_init l D cI cZ cJ q2) (cwI 0 h.2.2.2.2.1 gL_law_X6_init rfl rfl rfl (h.2.2.2.2.1 _ (by decide +kernel)) (h.2.2.2.2.1 _ (by decide +kernel)) (h.2.2.2.2.1 _ (by decide +kernel)) rfl (by decide +kernel) ⟨Nat.le_of_ble_eq_true rfl, Nat.le_of_ble_eq_true rfl⟩) dL_law_12 rfl (Nat.le_of_ble_eq_true rfl) ⟨Nat.le_of_ble_eq_true rfl, Nat.le_of_ble_eq_true rfl⟩ rfl (fun w2 hw2 => ?_)
  obtain ⟨b, hb, hw2⟩ := hw2
  rw [hw2, ← hb]
  refine hl_astore_n h [(2, .ref (b 0)), (1, .ref (a 0)), (0, .ref bs)] dL_law_15 (by decide) rfl ?_
  refine hl_iconst h 1 dL_law_16 (by decide) ?_
  refine hl_newa h (atype := .long) (ty := .long) (by decide +kernel) rfl (by intro n hn; cases hn) 2 rfl (N' := 1) (a0 := (1, .inr (.inl (fun _ => 0)))) dL_law_17 (fun _ => rfl) (by decide) (by decide) (Nat.le_of_ble_eq_true rfl) (Nat.le_of_ble_eq_true rfl) (Nat.le_of_ble_eq_true rfl) (fun o => ?_)
  refine hl_wsub [25, 26, 27, 28, 29, 30, 31, 32, 33, 34, 35, 36, 37, 38, 39, 40, 41, 42, 43, 44, 0, 1, 2, 3, 4, 5, 6, 7, 8, 9, 10, 11, 12, 13, 14, 15, 16, 17, 18, 19, 20, 21, 22, 23, 24] (w' := hl_LW b a cI cZ cJ o (fun _ => 0) hl_t0 hl_g0) (by decide) rfl ?_
  refine hl_astore_n h [(3, .ref o), (2, .ref (b 0)), (1, .ref (a 0)), (0, .ref bs)] dL_law_19 (by decide) rfl ?_
  refine hl_iconst h 0 dL_law_20 (by decide) ?_
  refine hl_istore h [(4, .int 0), (3, .ref o), (2, .ref (b 0)), (1, .ref (a 0)), (0, .ref bs)] dL_law_21 (by decide) rfl ?_
  refine hl_lsub [4, 3, 2, 1, 0] (ls' := hl_LS bs b a o (nI (5 * 0))) rfl ?_
  exact law_loop H hst hr hlocks 512 0 (fun _ => 0) hl_t0 hl_g0 0 0 0 (by omega) (by decide) hl_R_0
set_option maxHeartbeats 4000000 in
set_option maxRecDepth 100000 in
theorem whole_start {p : Program} {e : Env} {s : State} {m : MethodId} {below : List Frame} {meth : Method} {c : Code} (l : Launch) (hflags : l.flags = flags0) {b L : Nat} {xs : Nat → Int32} (hL : L ≤ 2560) (C0 : lw_At p s m meth c b L xs) : W p l e room_1 s m #[Value.ref b] below meth c s.heap [] 0 0 (lw_Z below #[Value.ref b] s) (entryFrame m ([Value.ref b] : List Value).toArray 7) := by
  obtain ⟨hx, hb, hr, hml, hown, hts, hX, hbl, hlocks, hgv⟩ := id C0
  have hst : l.stackTraces = false := by
    unfold Launch.stackTraces
    rw [hflags]
    decide +kernel
  obtain ⟨D, cI, cZ, cJ, hK⟩ := hl_K0 hts
  have H : hl_H p s m c D cI cZ cJ (fun q => s.heap.size ≤ q) b L xs := ⟨⟨hx, hb, hml, hown, fun w hw => hts w (wsL_law_in w hw), hK, fun q h => h⟩, hl_Z0 hts hgv, hX, hbl, Nat.not_le.mpr hbl, hL⟩
  have hP : va_P D vwCl [] s.heap := fun k q h => by simp at h
  have hD : va_D (fun q : Nat => s.heap.size ≤ q) [] := ⟨fun i j p q h => by simp at h, fun k q h => by simp at h⟩
  rw [lg_entry_eq]
  exact hl_begin H hst hr hlocks s.heap [] _ hP hD va_S.rf (lv_entry ([.ref b]) (n := 7) (Nat.le_of_ble_eq_true rfl))
