/-! THE LAW'S ROWS: pop, ldc; names for the law's contents; the script, and 'told' that reads it -/
section HLP
variable {p : Program} {l : Launch} {e : Env} {R : Room} {s : State} {m : MethodId} {args : Array Value} {below : List Frame} {meth : Method} {c : Code}
variable {cc : ByteArray} {nL : Nat} {Ts : List Cond} {own : String} {D : va_G} {tys : List (ClassId × FieldType)} {A : Nat → Prop} {cells slots : Nat} {Q : State → Prop} {w : va_W} {pc : Nat} {ls : List (Nat × Value)} {st : List Value}
theorem hl_pop (h : hl_C p s m args c cc nL Ts own D tys A) {va : Value} (hd : decode cc pc = .ok (.pop, 1)) (hva : va.category = 1) (k : hl_X p l e R s m args below meth c nL D A cells slots Q w (pc + 1) ls st) : hl_X p l e R s m args below meth c nL D A cells slots Q w pc ls (va :: st) :=
  fun H locs la hP hD hS hl => lv_pop h.1 h.2.1 hd hva (k H locs la hP hD hS hl)
theorem hl_ldc (h : hl_C p s m args c cc nL Ts own D tys A) {index : Nat} {v : Int32} (hd : decode cc pc = .ok (.ldc index, 2)) (hc : Cond.constant own index v ∈ Ts) (k : hl_X p l e R s m args below meth c nL D A cells slots Q w (pc + 2) ls (.int v :: st)) : hl_X p l e R s m args below meth c nL D A cells slots Q w pc ls st :=
  fun H locs la hP hD hS hl => lv_ldc h.1 h.2.1 h.2.2.2.1 (h.2.2.2.2.1 _ hc) hd (k H locs la hP hD hS hl)
theorem hl_xld (h : hl_C p s m args c cc nL Ts own D tys A) {bs L : Nat} {xs : Nat → Int32} (hX : va_X bs L xs s s.heap) (hbl : bs < s.heap.size) (hbA : ¬ A bs) {i : Int32} (hin : vp_in i L) (hd : decode cc pc = .ok (.iaload, 1)) (kk : hl_X p l e R s m args below meth c nL D A cells slots Q w (pc + 1) ls (.int (xs i.toNatClampNeg) :: st)) : hl_X p l e R s m args below meth c nL D A cells slots Q w pc ls (.int i :: .ref bs :: st) :=
  fun H1 locs la hP hD hS hl => va_sld h.1 h.2.1 hX hbl hbA hS hin hd (kk H1 locs la hP hD hS hl)
theorem hl_xlen (h : hl_C p s m args c cc nL Ts own D tys A) {bs L : Nat} {xs : Nat → Int32} (hX : va_X bs L xs s s.heap) (hbl : bs < s.heap.size) (hbA : ¬ A bs) (hd : decode cc pc = .ok (.arraylength, 1)) (kk : hl_X p l e R s m args below meth c nL D A cells slots Q w (pc + 1) ls (.int (Int32.ofNat L) :: st)) : hl_X p l e R s m args below meth c nL D A cells slots Q w pc ls (.ref bs :: st) :=
  fun H1 locs la hP hD hS hl => va_slen h.1 h.2.1 hX hbl hbA hS hd (kk H1 locs la hP hD hS hl)
variable {a : Nat → Nat} {cI cZ : ClassId} {T U : Nat → Nat → Int32}
theorem hl_nmPG (k : ∀ z, z = T → hl_X p l e R s m args below meth c nL D A cells slots Q (hl_LW a cI cZ U z) pc ls st) : hl_X p l e R s m args below meth c nL D A cells slots Q (hl_LW a cI cZ U T) pc ls st := k T rfl
theorem hl_nmPR (k : ∀ z, z = U → hl_X p l e R s m args below meth c nL D A cells slots Q (hl_LW a cI cZ z T) pc ls st) : hl_X p l e R s m args below meth c nL D A cells slots Q (hl_LW a cI cZ U T) pc ls st := k U rfl
end HLP
def hp_raw (L : Nat) (xs : Nat → Int32) (k : Nat) : Int32 := if k < L then xs k else 55001 * nI (k + 7) * nI (k + 4)
def hp_told (L : Nat) (xs : Nat → Int32) (k : Nat) : Int32 := hp_raw L xs k &&& 2147483647
theorem hp_told_nn (L : Nat) (xs : Nat → Int32) (k : Nat) : ∃ V, V < 2147483648 ∧ hp_told L xs k = nI V := by
  have q := Jvm.Kit.i32_mask (hp_raw L xs k) 2147483647 (k := 31) (by decide) (by decide)
  refine ⟨(hp_told L xs k).toInt.toNat, ?_, ?_⟩
  · unfold hp_told
    omega
  · apply Int32.toInt_inj.mp
    unfold hp_told
    rw [nI_toInt (by omega)]
    omega
def hl_PreX (D : va_G) (tys : List (ClassId × FieldType)) (bs L : Nat) (xs : Nat → Int32) (sz : Nat) (U : State) : Prop := U.heap.size = sz ∧ va_X bs L xs U U.heap ∧ va_K D vwCl tys U ∧ bs < sz
theorem hl_blindX (D : va_G) (tys : List (ClassId × FieldType)) (bs L : Nat) (xs : Nat → Int32) (sz : Nat) (av : List Value) : FrameBlind (va_Pc av (hl_PreX D tys bs L xs sz)) := fun a U g mk q => by
  obtain ⟨q0, q1, qX, qK, qb⟩ := q
  exact ⟨q0, q1, va_X.moved (u := U) (U := U.calling g mk a) (Vm.Alike.refl U.vm) qX, va_K.moved (u := U) (U := U.calling g mk a) (Vm.Alike.refl U.vm) qK, qb⟩
set_option maxHeartbeats 4000000 in
set_option maxRecDepth 100000 in
theorem c_L_told (l : Launch) (D : va_G) (cI cZ cJ : ClassId) (bs L : Nat) (xs : Nat → Int32) (hL : L ≤ 260) (k : Nat) (hk : k ≤ 200) (sz : Nat) :
    Met l yL_told wsL_told ({ frames := 0, cells := 0, slots := 0, locals := 0 } : Room) (va_Pc [.ref bs, .int (nI k)] (hl_PreX D (hl_ty cI cZ cJ) bs L xs sz)) (va_Qi (fun (r : Int32) (_ : Unit) => r = hp_told L xs k) (fun _ _ => True) (va_A [] sz)) 0 0 (va_A [] sz) := by
  refine Met.ofW (cc := cL_told) (maxL := 2) (ret := some .int) (by decide) rfl ?_
  intro p e s m args below meth c s₁ B hml hv
  obtain ⟨rfl, hsz, hX, hK, hbs⟩ := hv
  have hr := B.returns
  have hlocks := B.notSynchronized
  subst hsz
  have hbA : ¬ va_A [] s.heap.size bs := fun z => z.elim (fun ⟨k, e, h⟩ => by simp at h) (fun h => Nat.not_le.mpr hbs h)
  rw [lg_entry_eq]
  have h : hl_C p s m ([Value.ref bs, Value.int (nI k)] : List Value).toArray c cL_told 2 wsL_told RL D (hl_ty cI cZ cJ) (va_A [] s.heap.size) := ⟨B.exec, B.bytes, hml, findClass_of_methodNamed B.named, atoms_spec (ws := wsL_told) B.pre, hK, fun q h => Or.inr h⟩
  have body : ∀ (Q : State → Prop), (∀ {pc : Nat} {ls : List (Nat × Value)} {v : Int32}, decode cL_told pc = .ok (.ireturn, 1) → v = hp_told L xs k → hl_X p l e ({ frames := 0, cells := 0, slots := 0, locals := 0 } : Room) s m ([Value.ref bs, Value.int (nI k)] : List Value).toArray below meth c 2 D (va_A [] s.heap.size) 0 0 Q [] pc ls [.int v]) → hl_X p l e ({ frames := 0, cells := 0, slots := 0, locals := 0 } : Room) s m ([Value.ref bs, Value.int (nI k)] : List Value).toArray below meth c 2 D (va_A [] s.heap.size) 0 0 Q [] 0 (lv_args 0 [Value.ref bs, Value.int (nI k)]) [] := by
    intro Q hend
    refine hl_ls (ls' := [(0, .ref bs), (1, .int (nI k))]) rfl ?_
    refine hl_iload_n h 1 dL_told_0 rfl ?_
    refine hl_aload_n h 0 dL_told_1 rfl ?_
    refine hl_xlen h hX hbs hbA dL_told_2 ?_
    refine hl_icmp_ge h 12 dL_told_3 (by decide) (fun hc => ?_) (fun hc => ?_)
    · have hkL : ¬ k < L := fun z => nI_ge (a := k) (b := L) z (by omega) hc
      refine hl_ldc h dL_told_12 (List.mem_of_getElem? (i := 1) rfl) ?_
      refine hl_iload_n h 1 dL_told_14 rfl ?_
      refine hl_bipush h (nI 7) dL_told_15 (by decide) ?_
      refine hl_iadd h dL_told_17 ?_
      refine hl_topc (nI (k + 7)) (nI_add _ _) ?_
      refine hl_imul h dL_told_18 ?_
      refine hl_iload_n h 1 dL_told_19 rfl ?_
      refine hl_iconst h (nI 4) dL_told_20 (by decide) ?_
      refine hl_iadd h dL_told_21 ?_
      refine hl_topc (nI (k + 4)) (nI_add _ _) ?_
      refine hl_imul h dL_told_22 ?_
      refine hl_ldc h dL_told_23 (List.mem_of_getElem? (i := 2) rfl) ?_
      refine hl_iand h dL_told_25 ?_
      exact hend dL_told_26 (by unfold hp_told hp_raw; rw [if_neg hkL])
    · have hkL : k < L := Nat.not_le.mp (fun z => hc (nI_le (a := L) (b := k) z (by omega)))
      refine hl_aload_n h 0 dL_told_6 rfl ?_
      refine hl_iload_n h 1 dL_told_7 rfl ?_
      refine hl_xld h hX hbs hbA (vp_in_nI hkL (by omega)) dL_told_8 ?_
      refine hl_goto h 23 dL_told_9 (by decide) ?_
      refine hl_ldc h dL_told_23 (List.mem_of_getElem? (i := 2) rfl) ?_
      refine hl_iand h dL_told_25 ?_
      exact hend dL_told_26 (by unfold hp_told hp_raw; rw [if_pos hkL, nI_clamp (by omega)])
  refine body _ ?_ s.heap [] _ (fun k q h => by simp at h) ⟨fun i j p q h => by simp at h, fun k q h => by simp at h⟩ va_S.rf (lv_entry _ (Nat.le_of_ble_eq_true rfl))
  intro pc ls v hd hv H locs la hP1 hD1 hS1 hl1
  exact W.zret (v := v) B.exec B.bytes hr rfl (fun t ht hW => ⟨⟨v, (), rfl, hv, trivial⟩, hS1.F ht⟩) hS1.2.2 hd hlocks
/-! the law itself -/
def hl_H (p : Program) (s : State) (m : MethodId) (c : Code) (D : va_G) (cI cZ cJ : ClassId) (A : Nat → Prop) (bs L : Nat) (xs : Nat → Int32) : Prop :=
  hl_C p s m #[Value.ref bs] c code 13 wsL_law RL D (hl_ty cI cZ cJ) A ∧ va_X bs L xs s s.heap ∧ bs < s.heap.size ∧ ¬ A bs ∧ L ≤ 260
section HLL
variable {p : Program} {l : Launch} {e : Env} {s : State} {m : MethodId} {below : List Frame} {meth : Method} {c : Code}
variable {D : va_G} {cI cZ cJ : ClassId} {A : Nat → Prop} {cells slots : Nat} {Q : State → Prop} {w : va_W} {pc : Nat} {ls : List (Nat × Value)} {st : List Value} {bs L : Nat} {xs : Nat → Int32}
set_option maxHeartbeats 4000000 in
set_option maxRecDepth 100000 in
theorem hl_told (H : hl_H p s m c D cI cZ cJ A bs L xs) {k : Nat} (hk : k ≤ 200) (hd : decode code pc = .ok (.invokestatic 76, 3)) (hW : (st.map fun v => v.category).sum ≤ 8) (hf : cells ≤ room_1.cells ∧ slots ≤ room_1.slots)
    (kk : hl_X p l e room_1 s m #[Value.ref bs] below meth c 13 D A cells slots Q w (pc + 3) ls (.int (hp_told L xs k) :: st)) : hl_X p l e room_1 s m #[Value.ref bs] below meth c 13 D A cells slots Q w pc ls (.int (nI k) :: .ref bs :: st) := by
  obtain ⟨h, hX, hbl, hbA, hL⟩ := H
  intro H1 locs la hP hD hS hl
  have hF : ∀ q, va_A [] H1.size q → A q := fun q z => z.elim (fun ⟨k, e, h⟩ => by simp at h) (fun h9 => h.2.2.2.2.2.2 q (Nat.le_trans hS.1 h9))
  refine va_calli (va_runS (As := [.ref bs, .int (nI k)]) (rest := st) ⟨h.1, h.2.1, h.2.2.1, h.2.2.2.1, h.2.2.2.2.1⟩ (c_L_told l D cI cZ cJ bs L xs hL k hk H1.size) (va_cwS 2 h.2.2.2.2.1 gL_law_L_told rfl rfl rfl (by decide +kernel) ⟨Nat.le_of_ble_eq_true rfl, Nat.le_of_ble_eq_true rfl⟩) ⟨hl_blindX D _ bs L xs H1.size _, fun U hU hW9 => ⟨rfl, by rw [hU], ?_, va_K.moved hW9.alike h.2.2.2.2.2.1, Nat.lt_of_lt_of_le hbl hS.1⟩⟩ rfl rfl hl.1 rfl (lv_room hW) hd hf) hS (fun q _ h9 => hF q h9) hF (fun r u t H2 locs1 ht hvm hw hB hz hk2 hS1 => ?_)
  · rw [hU]
    exact (hX.kept (hS.2.1 bs hbl hbA)).moved hW9.alike
  · have hw' : r = hp_told L xs k := hw
    rw [hw']
    exact kk H2 locs1 la (fun j q hq => (hP j q hq).kept (hk2 q.1 (hP j q hq).lt (fun z => z.elim (fun ⟨k, e, h⟩ => by simp at h) (fun h9 => Nat.not_le.mpr (hP j q hq).lt h9)))) hD hS1 hl
end HLL
/-! sums of the law, and its count of bookings -/
def b_L_sum (g : Nat → Nat → Int32) (x : Int32) (k : Nat) (u : Int32) : Int32 := if x = 0 then u + g 21 (nI k).toNatClampNeg else u + (g 3 (nI k).toNatClampNeg + r_X2_awayOf g (nI k))
def r_L_sum (g : Nat → Nat → Int32) (x : Int32) : Int32 := hl_it (b_L_sum g x) 0 4 0
def b_L_booked (r : Nat → Nat → Int32) (z : Int32) (k : Nat) (u : Int32) : Int32 := if r 1 k = z then u + 1 else u + 0
def r_L_booked (r : Nat → Nat → Int32) (N : Nat) (z : Int32) : Int32 := hl_it (b_L_booked r z) 0 N 0
