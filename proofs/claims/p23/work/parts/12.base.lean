section HLN
variable {p : Program} {l : Launch} {e : Env} {R : Room} {s : State} {m : MethodId} {args : Array Value} {below : List Frame} {meth : Method} {c : Code}
variable {nL : Nat} {D : va_G} {A : Nat → Prop} {cells slots : Nat} {Q : State → Prop} {pc : Nat} {ls : List (Nat × Value)} {st : List Value} {a : Nat → Nat} {cI cZ : ClassId} {T : Nat → Nat → Int32}
theorem hl_nmC (k : ∀ z, z = T → hl_X p l e R s m args below meth c nL D A cells slots Q (hl_WC a cI cZ z) pc ls st) : hl_X p l e R s m args below meth c nL D A cells slots Q (hl_WC a cI cZ T) pc ls st := k T rfl
end HLN
theorem hl_inc (i : Nat) : nI i + Int32.ofInt 1 = nI (i + 1) := nI_1 i
theorem hl_row {x y : Int32} (hx : vp_in x 4) (hy : vp_in y 2) : vp_in (x * 2 + y) 8 := by
  obtain ⟨a, ha, rfl⟩ := vp_in_of hx (by decide)
  obtain ⟨b, hb, rfl⟩ := vp_in_of hy (by decide)
  show vp_in (nI a * nI 2 + nI b) 8
  rw [pk_mul, nI_add]
  exact vp_in_nI (by omega) (by decide)
theorem hl_rowM {x y : Int32} (hx : vp_in x 4) (hy : vp_in y 2) : vp_in (2 * x + y) 8 := by
  rw [Int32.mul_comm]
  exact hl_row hx hy
theorem hl_sq {x y : Int32} (hx : vp_in x 4) (hy : vp_in y 4) : vp_in (x * 4 + y) 16 := by
  obtain ⟨a, ha, rfl⟩ := vp_in_of hx (by decide)
  obtain ⟨b, hb, rfl⟩ := vp_in_of hy (by decide)
  show vp_in (nI a * nI 4 + nI b) 16
  rw [pk_mul, nI_add]
  exact vp_in_nI (by omega) (by decide)
theorem hl_sqM {x y : Int32} (hx : vp_in x 4) (hy : vp_in y 4) : vp_in (4 * x + y) 16 := by
  rw [Int32.mul_comm]
  exact hl_sq hx hy
theorem hl_in {x : Int32} {n : Nat} (k : Int32) (hk : k.toInt = n) (h0 : ¬ x < 0) (h1 : x < k) : vp_in x n :=
  vp_in_iff.mpr ⟨Int.not_lt.mp (fun h => h0 (Int32.lt_iff_toInt_lt.mpr h)), by rw [← hk]; exact Int32.lt_iff_toInt_lt.mp h1⟩
theorem hl_in0 {x : Int32} {n : Nat} (h : vp_in x n) : ¬ x < 0 := fun z => h (Or.inl z)
theorem hl_in1 {x : Int32} {n : Nat} (k : Int32) (hk : k.toInt = n) (h : vp_in x n) : x < k :=
  Int32.lt_iff_toInt_lt.mpr (by rw [hk]; exact (vp_in_iff.mp h).2)
