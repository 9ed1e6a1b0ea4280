/-! THE LAW: its world, its frame; the rows that every step of it takes -/
def hl_LW (b a : Nat → Nat) (cI cZ cJ : ClassId) (o : Nat) (f : Nat → Int64) (t g : Nat → Nat → Int32) : va_W := hl_WM b cI cZ t ++ hl_WO o cI cZ cJ f a g
abbrev hl_LS (bs : Nat) (b a : Nat → Nat) (o : Nat) (i : Int32) : List (Nat × Value) := [(0, .ref bs), (1, .ref (a 0)), (2, .ref (b 0)), (3, .ref o), (4, .int i)]
def hl_H (p : Program) (s : State) (m : MethodId) (c : Code) (D : va_G) (cI cZ cJ : ClassId) (A : Nat → Prop) (bs L : Nat) (xs : Nat → Int32) : Prop :=
  hl_C p s m #[Value.ref bs] c code 7 wsL_law RL D (hl_ty cI cZ cJ) A ∧ hl_Z A s s.heap ∧ va_X bs L xs s s.heap ∧ bs < s.heap.size ∧ ¬ A bs ∧ L ≤ 2560
theorem hl_v0 (f : Nat → Int64) {r r6 : Int32} (e : r = r6) : vp_updL f 0 r.toInt64 0 = r6.toInt64 := by
  rw [e]
  simp [vp_updL]
section HLL
variable {p : Program} {l : Launch} {e : Env} {s : State} {m : MethodId} {below : List Frame} {meth : Method} {c : Code}
variable {D : va_G} {cI cZ cJ : ClassId} {A : Nat → Prop} {cells slots : Nat} {Q : State → Prop} {w : va_W} {pc : Nat} {ls : List (Nat × Value)} {st : List Value} {bs L : Nat} {xs : Nat → Int32} {b a : Nat → Nat} {o : Nat}
theorem hl_sld (H : hl_H p s m c D cI cZ cJ A bs L xs) {i : Int32} (hin : vp_in i L) (hd : decode code pc = .ok (.iaload, 1)) (kk : hl_X p l e room_1 s m #[Value.ref bs] below meth c 7 D A cells slots Q w (pc + 1) ls (.int (xs i.toNatClampNeg) :: st)) : hl_X p l e room_1 s m #[Value.ref bs] below meth c 7 D A cells slots Q w pc ls (.int i :: .ref bs :: st) :=
  fun H1 locs la hP hD hS hl => va_sld H.1.1 H.1.2.1 H.2.2.1 H.2.2.2.1 H.2.2.2.2.1 hS hin hd (kk H1 locs la hP hD hS hl)
theorem hl_slen (H : hl_H p s m c D cI cZ cJ A bs L xs) (hd : decode code pc = .ok (.arraylength, 1)) (kk : hl_X p l e room_1 s m #[Value.ref bs] below meth c 7 D A cells slots Q w (pc + 1) ls (.int (Int32.ofNat L) :: st)) : hl_X p l e room_1 s m #[Value.ref bs] below meth c 7 D A cells slots Q w pc ls (.ref bs :: st) :=
  fun H1 locs la hP hD hS hl => va_slen H.1.1 H.1.2.1 H.2.2.1 H.2.2.2.1 H.2.2.2.2.1 hS hd (kk H1 locs la hP hD hS hl)
/-- script[i + j] -/
theorem hl_arg (H : hl_H p s m c D cI cZ cJ A bs L xs) (k0 k4 : Nat) {i j : Nat} {n : Int} (h0 : ls[k0]? = some (0, .ref bs)) (h4 : ls[k4]? = some (4, .int (nI i))) (hj : i + j < L) (hv : Int32.ofInt n = nI j)
    (d0 : decode code pc = .ok (.aload_n 0, 1)) (d1 : decode code (pc + 1) = .ok (.iload 4, 2)) (d3 : decode code (pc + 3) = .ok (.iconst n, 1)) (d4 : decode code (pc + 4) = .ok (.iadd, 1)) (d5 : decode code (pc + 5) = .ok (.iaload, 1))
    (kk : hl_X p l e room_1 s m #[Value.ref bs] below meth c 7 D A cells slots Q w (pc + 6) ls (.int (xs (i + j)) :: st)) : hl_X p l e room_1 s m #[Value.ref bs] below meth c 7 D A cells slots Q w pc ls st := by
  have hL := H.2.2.2.2.2
  refine hl_aload_n H.1 k0 d0 h0 ?_
  refine hl_iload H.1 k4 d1 h4 ?_
  refine hl_iconst H.1 (nI j) d3 hv ?_
  refine hl_iadd H.1 d4 ?_
  refine hl_topc (nI (i + j)) (nI_add i j) ?_
  refine hl_sld H (vp_in_nI hj (by omega)) d5 ?_
  rw [nI_clamp (by omega)]
  exact kk
/-- behind both calls: they threw the same, or answer the same -/
theorem hl_tail (H : hl_H p s m c D cI cZ cJ A bs L xs) (hf : cells ≤ room_1.cells ∧ slots ≤ room_1.slots) {i k r6 : Int32} {f' : Nat → Int64} {t' g' : Nat → Nat → Int32} (ht : t' 23 0 = k) (hv : k = 0 → f' 0 = r6.toInt64) {off : Int}
    (d0 : decode code pc = .ok (.istore 6, 2)) (d2 : decode code (pc + 2) = .ok (.aload_n 2, 1)) (d3 : decode code (pc + 3) = .ok (.invokevirtual 78, 3)) (d6 : decode code (pc + 6) = .ok (.iload 5, 2)) (d8 : decode code (pc + 8) = .ok (.if_icmp .eq 5, 3)) (d13 : decode code (pc + 13) = .ok (.iload 5, 2)) (d15 : decode code (pc + 15) = .ok (.ifCond .ne 15, 3)) (d18 : decode code (pc + 18) = .ok (.aload_n 3, 1)) (d19 : decode code (pc + 19) = .ok (.iconst 0, 1)) (d20 : decode code (pc + 20) = .ok (.laload, 1)) (d21 : decode code (pc + 21) = .ok (.iload 6, 2)) (d23 : decode code (pc + 23) = .ok (.i2l, 1)) (d24 : decode code (pc + 24) = .ok (.lcmp, 1)) (d25 : decode code (pc + 25) = .ok (.ifCond .eq 5, 3)) (d30 : decode code (pc + 30) = .ok (.goto off, 3)) (hoff : ((pc + 30 : Nat) : Int) + off = ((1252 : Nat) : Int))
    (kk : hl_X p l e room_1 s m #[Value.ref bs] below meth c 7 D A cells slots Q (hl_LW b a cI cZ cJ o f' t' g') 1252 (hl_LS bs b a o i) []) :
    hl_X p l e room_1 s m #[Value.ref bs] below meth c 7 D A cells slots Q (hl_LW b a cI cZ cJ o f' t' g') pc ((5, .int k) :: hl_LS bs b a o i) [.int r6] := by
  obtain ⟨h, hz, hX, hbl, hbA, hL⟩ := id H
  refine hl_istore h ((6, .int r6) :: (5, .int k) :: hl_LS bs b a o i) d0 (by decide) rfl ?_
  refine hl_aload_n h 4 d2 rfl ?_
  refine hl_callPViD h (st := []) (wc := hl_WM b cI cZ t') (wr := hl_WO o cI cZ cJ f' a g') [0, 1, 2, 3, 4, 5, 6, 7, 8, 9, 10, 11, 12, 13, 14, 15, 16, 17, 18] [19, 20, 21, 22, 23, 24, 25, 26, 27, 28, 29, 30, 31, 32, 33, 34, 35, 36, 37, 38, 39, 40, 41, 42, 43, 44] rfl rfl (by decide) (by decide) (by decide) (c_X6_thrown l D cI cZ cJ b t') (cwV 0 h.2.2.2.2.1 gL_law_X6_thrown rfl rfl rfl (by decide +kernel) ⟨Nat.le_of_ble_eq_true rfl, Nat.le_of_ble_eq_true rfl⟩) (q0 := 0) rfl rfl d3 rfl (Nat.le_of_ble_eq_true rfl) hf rfl ?_
  refine hl_wsub [26, 27, 28, 29, 30, 31, 32, 33, 34, 35, 36, 37, 38, 39, 40, 41, 42, 43, 44, 0, 1, 2, 3, 4, 5, 6, 7, 8, 9, 10, 11, 12, 13, 14, 15, 16, 17, 18, 19, 20, 21, 22, 23, 24, 25] (w' := hl_LW b a cI cZ cJ o f' t' g') (by decide) rfl ?_
  refine hl_topc k ht ?_
  refine hl_iload h 1 d6 rfl ?_
  refine hl_icmp_eq_T h (pc + 13) d8 (by omega) rfl ?_
  refine hl_iload h 1 d13 rfl ?_
  refine hl_if_ne h (pc + 30) d15 (by omega) (fun _ => ?_) (fun hk => ?_)
  · refine hl_goto h 1252 d30 hoff ?_
    refine hl_lsub [2, 3, 4, 5, 6] (ls' := hl_LS bs b a o i) rfl ?_
    exact kk
  · refine hl_aload_n h 5 d18 rfl ?_
    refine hl_iconst h 0 d19 (by decide) ?_
    refine hl_jld h (q0 := 19) rfl 2 rfl d20 (by unfold vp_in; decide) ?_
    refine hl_iload h 0 d21 rfl ?_
    refine hl_i2l h d23 ?_
    refine hl_lcmp h d24 ?_
    refine hl_if_eq_T h (pc + 30) d25 (by omega) ((lg_cmp_eq _ _).mpr (hv hk)) ?_
    refine hl_goto h 1252 d30 hoff ?_
    refine hl_lsub [2, 3, 4, 5, 6] (ls' := hl_LS bs b a o i) rfl ?_
    exact kk
end HLL
