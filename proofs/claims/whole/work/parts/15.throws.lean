/-! Methods that throw: what they need of the machine's tables (hl_Z), their contract (hl_KT: it throws E, the world stays), and the law's wrappers, which catch (hl_KW) -/
abbrev hl_EI : String := "java/lang/IndexOutOfBoundsException"
abbrev hl_EA : String := "java/lang/IllegalArgumentException"
abbrev hl_ES : String := "java/lang/IllegalStateException"
abbrev hl_nm : List String := ["java/lang/RuntimeException", "java/lang/Exception"]
def hl_tx : List (Nat × String) := [(176, "no such inn"), (179, "no such kind"), (181, "no such guest"), (183, "no such booking"), (187, "out of range"), (84, "no more bookings are taken"), (103, "not the night of the booking, or its guest has come"), (125, "the guest does not have so many points"), (130, "the last night does not end")]
abbrev hl_dc : List Cond := [Cond.declares (Bundle.initS "java/lang/RuntimeException"), Cond.declares (Bundle.initS "java/lang/Exception"), Cond.declares (Bundle.initS Bundle.tN)]
def hl_Z (A : Nat → Prop) (U : State) (H : Heap) : Prop :=
  vx_Zq Bundle.tN "UNASSIGNED_STACK" Bundle.steD A U H ∧ vx_Zq Bundle.tN "SUPPRESSED_SENTINEL" Bundle.listD A U H ∧ (va_Nw (.castable hl_EI hl_EI) U ∧ va_Nw (.castable hl_EA hl_EA) U ∧ va_Nw (.castable hl_ES hl_ES) U) ∧ (va_Nc hl_EA hl_EI U ∧ va_Nc hl_ES hl_EI U ∧ va_Nc hl_ES hl_EA U) ∧ (va_Nw (.declares (Bundle.initS "java/lang/RuntimeException")) U ∧ va_Nw (.declares (Bundle.initS "java/lang/Exception")) U ∧ va_Nw (.declares (Bundle.initS Bundle.tN)) U) ∧ ∀ q ∈ hl_tx, ∃ sa : Nat, vk_R RX5 q.1 q.2 sa U
theorem hl_Z.go {A B : Nat → Prop} {s U : State} {H0 H : Heap} (hz : hl_Z A s H0) (hW : s.WarmedH U.vm) (hk : ∀ q : Nat, q < H0.size → ¬ A q → H[q]? = H0[q]?) (hAB : ∀ q, B q → A q) : hl_Z B U H := by
  obtain ⟨h1, h2, ⟨h3, h4, h5⟩, ⟨h6, h7, h8⟩, ⟨h10, h11, h12⟩, h9⟩ := hz
  refine ⟨vx_Zq.narrow (vx_Zq.moved hW.alike (h1.kept hk)) hAB, vx_Zq.narrow (vx_Zq.moved hW.alike (h2.kept hk)) hAB, ⟨va_Nw.warmC hW h3, va_Nw.warmC hW h4, va_Nw.warmC hW h5⟩, ⟨va_Nc.moved hW.alike h6, va_Nc.moved hW.alike h7, va_Nc.moved hW.alike h8⟩, ⟨va_Nw.warmD hW h10, va_Nw.warmD hW h11, va_Nw.warmD hW h12⟩, fun q hq => ?_⟩
  obtain ⟨sa, h⟩ := h9 q hq
  exact ⟨sa, vk_R.warm hW h⟩
def hl_PreZ (D : va_G) (tys : List (ClassId × FieldType)) (w0 : va_W) (sz : Nat) (U : State) : Prop := hl_Pre D tys w0 sz U ∧ hl_Z (va_A w0 sz) U U.heap
theorem hl_blindZ (D : va_G) (tys : List (ClassId × FieldType)) (w0 : va_W) (sz : Nat) (av : List Value) : FrameBlind (va_Pc av (hl_PreZ D tys w0 sz)) := fun a U g mk q => by
  obtain ⟨q0, ⟨q1, qP, qK, qD⟩, qZ⟩ := q
  exact ⟨q0, ⟨q1, qP, va_K.moved (u := U) (U := U.calling g mk a) (Vm.Alike.refl U.vm) qK, qD⟩, hl_Z.go (s := U) (U := U.calling g mk a) (H0 := U.heap) qZ (State.WarmedH.refl U) (fun _ _ _ => rfl) (fun _ h => h)⟩
def hl_XC (D : va_G) (tys : List (ClassId × FieldType)) (w0 : va_W) (sz : Nat) (E : String) : String → State → State → Prop := vx_X (S := Unit) (fun _ => True) (fun E' _ t => E' = E ∧ hl_B D tys w0 sz w0 t) (va_A w0 sz)
def hl_NQ : Array Value → State → Outcome → State → Prop := fun _ _ _ _ => False
def hl_KT (D : va_G) (tys : List (ClassId × FieldType)) (l : Launch) (y : MethodName) (ws : List Cond) (rm : Room) (av : List Value) (w0 : va_W) (E : String) : Prop :=
  ∀ sz : Nat, vx_Met l y ws rm (va_Pc av (hl_PreZ D tys w0 sz)) hl_NQ (hl_XC D tys w0 sz E) 1 6 (va_A w0 sz)
def hl_QT (below : List Frame) (args : Array Value) (s : State) (D : va_G) (tys : List (ClassId × FieldType)) (w0 : va_W) (E : String) : State → Prop := vx_MQ below hl_NQ (hl_XC D tys w0 s.heap.size E) args s 1 6 (va_A w0 s.heap.size)
section HLT
variable {p : Program} {l : Launch} {e : Env} {R : Room} {s : State} {m : MethodId} {args : Array Value} {below : List Frame} {meth : Method} {c : Code}
variable {cc : ByteArray} {nL : Nat} {Ts : List Cond} {own : String} {D : va_G} {tys : List (ClassId × FieldType)} {A : Nat → Prop} {cells slots : Nat} {Q : State → Prop} {w w0 : va_W} {pc : Nat} {ls : List (Nat × Value)} {st : List Value} {E : String}
theorem hl_KT_of {y : MethodName} {ws ws' : List Cond} {rm : Room} {av : List Value} {maxL : Nat} {ret : Option FieldType} (hy : plainName y.cls = true) (hw : ws = Cond.code y cc maxL ret :: ws') (hvs : (lg_sl av).length ≤ maxL)
    (body : ∀ (p : Program) (e : Env) (s : State) (m : MethodId) (args : Array Value) (below : List Frame) (meth : Method) (c : Code), hl_C p s m args c cc maxL ws y.cls D tys (va_A w0 s.heap.size) → hl_Z (va_A w0 s.heap.size) s s.heap → (∀ x ∈ c.exceptionTable.toList, False) → meth.locks = false →
      hl_X p l e rm s m args below meth c maxL D (va_A w0 s.heap.size) 0 0 (hl_QT below args s D tys w0 E) w0 0 (lv_args 0 av) []) : hl_KT D tys l y ws rm av w0 E := by
  intro sz
  refine vx_ofW (cc := cc) (maxL := maxL) (ret := ret) hy hw ?_
  intro p e s m args below meth c s₁ B hml het hv
  obtain ⟨rfl, ⟨hsz, hP, hK, hD0⟩, hz⟩ := hv
  have hlocks := B.notSynchronized
  subst hsz
  rw [lg_entry_eq]
  exact body p e s m av.toArray below meth c ⟨B.exec, B.bytes, hml, findClass_of_methodNamed B.named, atoms_spec (ws := ws) B.pre, hK, fun q h => Or.inr h⟩ hz het hlocks s.heap [] _ hP hD0.self va_S.rf (lv_entry av hvs)
theorem hl_throw (h : hl_C p s m args c cc nL Ts own D tys (va_A w0 s.heap.size)) (hz : hl_Z (va_A w0 s.heap.size) s s.heap) (het : ∀ x ∈ c.exceptionTable.toList, False) (hlocks : meth.locks = false) (hst : l.stackTraces = false) {ik is ic : Nat} {text : String} (hcs : va_Nw (.castable E E) s) (hsa : ∃ sa : Nat, vk_R own is text sa s) (hfit : Bundle.fit E = true)
    (hg2 : ∀ z ∈ (vx_atS own ic E hl_nm).filter (fun z => !goodWord z), z ∈ Cond.castable E E :: hl_dc) (hgood : ∀ z ∈ Cond.classLink own ik E :: Cond.initialized E :: vx_atS own ic E hl_nm, vx_ot z = true)
    (d0 : decode cc pc = .ok (.new ik, 3)) (d3 : decode cc (pc + 3) = .ok (.dup, 1)) (d4 : decode cc (pc + 4) = .ok (.ldc is, 2)) (d6 : decode cc (pc + 6) = .ok (.invokespecial ic, 3)) (d9 : decode cc (pc + 9) = .ok (.athrow, 1))
    (hk : Cond.classLink own ik E ∈ Ts) (hini : Cond.initialized E ∈ Ts) (hg1 : ∀ z ∈ (vx_atS own ic E hl_nm).filter goodWord, z ∈ Ts)
    (hRf : 5 < R.frames) (hRl : (st.map fun v => v.category).sum + 82 ≤ R.locals) (hRc : 1 ≤ R.cells) (hRs : 6 ≤ R.slots) :
    hl_X p l e R s m args below meth c nL D (va_A w0 s.heap.size) 0 0 (hl_QT below args s D tys w0 E) w0 pc ls st := by
  intro H locs la hP hD hS hl
  obtain ⟨sa, hsa⟩ := hsa
  have hat : ∀ z ∈ vx_atS own ic E hl_nm, z.before args s = true := vx_hat (B := Cond.castable E E :: hl_dc) (fun z h9 => h.2.2.2.2.1 z (hg1 z h9)) hg2 (vx_c (va_Nw.use rfl hcs) (vx_c (va_Nw.use rfl hz.2.2.2.2.1.1) (vx_c (va_Nw.use rfl hz.2.2.2.2.1.2.1) (vx_c (va_Nw.use rfl hz.2.2.2.2.1.2.2) vx_n))))
  refine vx_throwS (names := hl_nm) h.1 h.2.1 hst h.2.2.2.1 hfit (by decide +kernel) (h.2.2.2.2.1 _ hk) (h.2.2.2.2.1 _ hini) hsa hat hgood hz.1 hz.2.1 hS (hl.1.trans h.2.2.1.symm) d0 d3 d4 d6 d9 (fun x hx => absurd (het x hx) id) hRf hRl (by omega) (by omega) hlocks ?_ hS.2.2 (by omega) (by omega)
  intro t hvm hsz hkeep
  refine ⟨(), trivial, ⟨rfl, hP.kept (fun k q hq => hkeep q.1 (vx_lt hP hq)), va_K.moved hvm h.2.2.2.2.2.1, hD⟩, Nat.le_trans hS.1 hsz, fun q h1 h2 => ?_⟩
  rw [hkeep q (Nat.lt_of_lt_of_le h1 hS.1)]
  exact hS.2.1 q h1 h2
/-- a call that throws: on to where the throw is seen -/
theorem hl_tgo {H : Heap} {locs : List Loc} {mc ms : Nat} {la : Array Slot} {st0 rest : List Value} {AX : Nat → Prop} {BX : String → Unit → State → Prop} {free : Addr → Prop} (hr : vx_Run p l e R s m args below meth c H locs cells slots mc ms (F0 m pc la st0) rest (fun _ _ _ => False) (vx_X (S := Unit) (fun _ => True) BX AX) free) (hS : va_S A s.heap H locs) (hf : ∀ q, free q → A q) (hAX : ∀ q, q < H.size → AX q → A q)
    (kx : ∀ (E : String) (ce : Cell) (q9 : Addr) (t : State) (H1 : Heap) (locs1 : List Loc), t.heap = H1 → s.vm.Alike t.vm → BX E () t → H.size ≤ H1.size → (∀ q : Nat, q < H.size → ¬ AX q → H1[q]? = H[q]?) → va_S A s.heap H1 locs1 → H1[q9]? = some ce → ce.vm = .none → s.vm.findClass E = some ce.cls → vx_W p l e R s m args below meth c H1 locs1 (cells + mc) (slots + ms) Q (F0 m pc la rest) q9) :
    W p l e R s m args below meth c H locs cells slots Q (F0 m pc la st0) := by
  intro T hT X
  rcases hr T hT X with ⟨v, st₀, t, T', L, h0, X', hL, e1, e2, hF, st⟩ | ⟨q, st₀, t, T', L, E, ce, h0, X', hL, e1, e2, ⟨u, hp, hb, hF⟩, hce, hcv, hcl, st⟩
  · exact absurd hF id
  · obtain ⟨k1, k2, k3⟩ := vx_keep h0 e1 hS hAX hf hL hF
    obtain ⟨t2, a1, b1⟩ := kx E ce q t T'.heap (locs ++ L) e1.symm (by rw [← e2]; exact X'.warmed.alike) hb k1 k2 k3 (by rw [e1]; exact hce) hcv hcl T' rfl X'
    exact ⟨t2, st.trans a1, b1⟩
theorem hl_preZ {H : Heap} {locs : List Loc} (h : hl_C p s m args c cc nL Ts own D tys A) (hz : hl_Z A s s.heap) (hP : va_P D vwCl w H) (hD : va_D A w) (hS : va_S A s.heap H locs) (av : List Value) : ∀ U : State, U.heap = H → s.WarmedH U.vm → va_Pc av (hl_PreZ D tys w H.size) av.toArray U :=
  fun U hU hW => ⟨rfl, (hl_pre h hP hD av U hU hW).2, hl_Z.go hz hW (by rw [hU]; exact hS.2.1) (hl_fr h hD hS)⟩
/-- not caught here -/
theorem hl_tout {H H1 : Heap} {locs locs1 : List Loc} {la : Array Slot} {ce : Cell} {q9 : Addr} {t : State} {E' : String} (h : hl_C p s m args c cc nL Ts own D tys (va_A w0 s.heap.size)) (het : ∀ x ∈ c.exceptionTable.toList, False) (hlocks : meth.locks = false) (hD : va_D (va_A w0 s.heap.size) w0) (hS : va_S (va_A w0 s.heap.size) s.heap H locs)
    (ht : t.heap = H1) (hvm : s.vm.Alike t.vm) (hb : E' = E ∧ hl_B D tys w0 H.size w0 t) (hS1 : va_S (va_A w0 s.heap.size) s.heap H1 locs1) (hce : H1[q9]? = some ce) (hcv : ce.vm = .none) (hcl : s.vm.findClass E' = some ce.cls) :
    vx_W p l e R s m args below meth c H1 locs1 1 6 (hl_QT below args s D tys w0 E) (F0 m pc la st) q9 := by
  obtain ⟨rfl, hP1, hK1, hD1⟩ := hb
  rw [ht] at hP1
  refine vx_out (fun x hx => absurd (het x hx) id) hlocks hce hcv hcl ?_ hS1.2.2 (Nat.le_refl _) (Nat.le_refl _)
  intro t2 ht2 hvm2
  exact ⟨(), trivial, ⟨rfl, by rw [ht2]; exact hP1, va_K.moved hvm2 h.2.2.2.2.2.1, hD⟩, hS1.F ht2⟩
theorem hl_tcallS (h : hl_C p s m args c cc nL Ts own D tys (va_A w0 s.heap.size)) (hz : hl_Z (va_A w0 s.heap.size) s s.heap) (het : ∀ x ∈ c.exceptionTable.toList, False) (hlocks : meth.locks = false) {y : MethodName} {bytes : ByteArray} {maxL n index : Nat} {ret : Option FieldType} {ws : List Cond} {rm : Room} {As : List Value} (hM : hl_KT D tys l y ws rm As w0 E) (cw : CallB R s args own index y bytes maxL ret ws rm 1 6 n ∧ (Cond.static y).before args s = true) (hd : decode cc pc = .ok (.invokestatic index, 3)) (hn : As.length = n) (hW : (st.map fun v => v.category).sum ≤ 8) (hf : 0 + 1 ≤ R.cells ∧ 0 + 6 ≤ R.slots) {st0 : List Value} (hst : st0 = (As.reverse ++ st)) :
    hl_X p l e R s m args below meth c nL D (va_A w0 s.heap.size) 0 0 (hl_QT below args s D tys w0 E) w0 pc ls st0 := by
  subst hst
  intro H locs la hP hD hS hl
  have hF := hl_fr h hD hS
  refine hl_tgo (vx_runS (As := As) (rest := st) ⟨h.1, h.2.1, h.2.2.1, h.2.2.2.1, h.2.2.2.2.1⟩ (hM H.size) cw ⟨hl_blindZ D tys w0 H.size _, hl_preZ h hz hP hD hS _⟩ rfl hn hl.1 rfl (lv_room hW) hd hf) hS hF (fun q _ h9 => hF q h9) ?_
  intro E' ce q9 t H1 locs1 ht hvm hb hz1 hk1 hS1 hce hcv hcl
  exact hl_tout h het hlocks hD hS ht hvm hb hS1 hce hcv hcl
theorem hl_tcallV (h : hl_C p s m args c cc nL Ts own D tys (va_A w0 s.heap.size)) (hz : hl_Z (va_A w0 s.heap.size) s s.heap) (het : ∀ x ∈ c.exceptionTable.toList, False) (hlocks : meth.locks = false) {C : String} {y : MethodName} {bytes : ByteArray} {maxL n index b : Nat} {ret : Option FieldType} {ws : List Cond} {rm : Room} {As : List Value} (hM : hl_KT D tys l y ws rm (.ref b :: As) w0 E) (cw : CallW R s args own C index y bytes maxL ret ws rm 1 6 n) {q0 ci : Nat} {fs : List Value} {T : u_T} {N : Nat} (he : w0[q0]? = some (b, .inr (ci, fs))) (hc : vwCl[ci]? = some (C, T, N)) (hd : decode cc pc = .ok (.invokevirtual index, 3)) (hn : As.length = n) (hW : (st.map fun v => v.category).sum ≤ 8) (hf : 0 + 1 ≤ R.cells ∧ 0 + 6 ≤ R.slots) {st0 : List Value} (hst : st0 = (As.reverse ++ .ref b :: st)) :
    hl_X p l e R s m args below meth c nL D (va_A w0 s.heap.size) 0 0 (hl_QT below args s D tys w0 E) w0 pc ls st0 := by
  subst hst
  intro H locs la hP hD hS hl
  have hF := hl_fr h hD hS
  refine hl_tgo (vx_runV (As := As) (rest := st) ⟨h.1, h.2.1, h.2.2.1, h.2.2.2.1, h.2.2.2.2.1⟩ (hM H.size) cw ⟨hl_blindZ D tys w0 H.size _, va_recv h.2.2.2.2.2.1 hP hc he, hl_preZ h hz hP hD hS _⟩ rfl hn hl.1 rfl (lv_room hW) hd hf) hS hF (fun q _ h9 => hF q h9) ?_
  intro E' ce q9 t H1 locs1 ht hvm hb hz1 hk1 hS1 hce hcv hcl
  exact hl_tout h het hlocks hD hS ht hvm hb hS1 hce hcv hcl
end HLT
theorem hl_g2I : ∀ z ∈ (vx_atS RX5 178 hl_EI hl_nm).filter (fun z => !goodWord z), z ∈ Cond.castable hl_EI hl_EI :: hl_dc := by decide +kernel
theorem hl_g2A : ∀ z ∈ (vx_atS RX5 189 hl_EA hl_nm).filter (fun z => !goodWord z), z ∈ Cond.castable hl_EA hl_EA :: hl_dc := by decide +kernel
theorem hl_g2S : ∀ z ∈ (vx_atS RX5 86 hl_ES hl_nm).filter (fun z => !goodWord z), z ∈ Cond.castable hl_ES hl_ES :: hl_dc := by decide +kernel
theorem hl_g3I : ∀ z ∈ Cond.classLink RX5 174 hl_EI :: Cond.initialized hl_EI :: vx_atS RX5 178 hl_EI hl_nm, vx_ot z = true := by decide +kernel
theorem hl_g3A : ∀ z ∈ Cond.classLink RX5 185 hl_EA :: Cond.initialized hl_EA :: vx_atS RX5 189 hl_EA hl_nm, vx_ot z = true := by decide +kernel
theorem hl_g3S : ∀ z ∈ Cond.classLink RX5 82 hl_ES :: Cond.initialized hl_ES :: vx_atS RX5 86 hl_ES hl_nm, vx_ot z = true := by decide +kernel
/-! the law's wrappers: static, with a table of their own; they return, whatever their call does -/
def hl_NX : String → State → State → Prop := vx_X (S := Unit) (fun _ => False) (fun _ _ _ => True) (fun _ => False)
def hl_KW (D : va_G) (tys : List (ClassId × FieldType)) (l : Launch) (y : MethodName) (ws : List Cond) (rm : Room) (av : List Value) (w0 : va_W) (P : Int32 → va_W → Prop) : Prop :=
  ∀ sz : Nat, vx_Met l y ws rm (va_Pc av (hl_PreZ D tys w0 sz)) (hl_QI D tys w0 P sz) hl_NX 1 6 (va_A w0 sz)
section HLU
variable {p : Program} {l : Launch} {e : Env} {R : Room} {s : State} {m : MethodId} {args : Array Value} {below : List Frame} {meth : Method} {c : Code}
variable {cc : ByteArray} {nL : Nat} {Ts : List Cond} {own : String} {D : va_G} {tys : List (ClassId × FieldType)} {A : Nat → Prop} {cells slots : Nat} {Q : State → Prop} {w w0 : va_W} {pc : Nat} {ls : List (Nat × Value)} {st : List Value} {E : String}
theorem hl_KW_of {y : MethodName} {ws ws' : List Cond} {rm : Room} {av : List Value} {P : Int32 → va_W → Prop} {maxL : Nat} {hh : List (Nat × Nat × Nat × Nat)} (hy : plainName y.cls = true) (hw : ws = Cond.codeWith y cc maxL (some .int) hh :: ws') (hvs : (lg_sl av).length ≤ maxL)
    (body : ∀ (p : Program) (e : Env) (s : State) (m : MethodId) (args : Array Value) (below : List Frame) (meth : Method) (c : Code) (A : Nat → Prop) (Q : State → Prop), hl_C p s m args c cc maxL ws y.cls D tys A → hl_Z A s s.heap → c.exceptionTable.toList = tableOf hh →
      (∀ {v : Int32} {w : va_W} {pc : Nat} {ls : List (Nat × Value)}, decode cc pc = .ok (.ireturn, 1) → P v w → hl_X p l e rm s m args below meth c maxL D A 1 6 Q w pc ls [.int v]) →
      hl_X p l e rm s m args below meth c maxL D A 0 0 Q w0 0 (lv_args 0 av) []) : hl_KW D tys l y ws rm av w0 P := by
  intro sz
  refine vx_ofWH (cc := cc) (maxL := maxL) (ret := some .int) (hh := hh) hy hw ?_
  intro p e s m args below meth c s₁ B hml hv
  obtain ⟨rfl, ⟨hsz, hP, hK, hD0⟩, hz⟩ := hv
  have hr := B.returns
  have hlocks := B.notSynchronized
  have hts := atoms_spec (ws := ws) B.pre
  have htab := vx_table (x := y) B (hts _ (by rw [hw]; exact List.mem_cons_self))
  subst hsz
  rw [lg_entry_eq]
  refine body p e s m av.toArray below meth c (va_A w0 s.heap.size) _ ⟨B.exec, B.bytes, hml, findClass_of_methodNamed B.named, hts, hK, fun q h => Or.inr h⟩ hz htab ?_ s.heap [] _ hP hD0.self va_S.rf (lv_entry av hvs)
  intro v w pc ls hd hp H locs la hP1 hD1 hS1 hl1
  refine vx_ret ?_
  exact W.iret (v := v) B.exec B.bytes hr (fun t ht hW => ⟨⟨v, w, rfl, hp, by rw [ht]; exact hP1, va_K.moved hW.alike hK, hD1⟩, hS1.F ht⟩) hS1.2.2 hd hlocks
/-- a call that throws, caught by a row of this method's table; the world is the part wr and the callee's -/
theorem hl_tcatchV (h : hl_C p s m args c cc nL Ts own D tys A) (hz : hl_Z A s s.heap) {C : String} {y : MethodName} {bytes : ByteArray} {maxL n index b : Nat} {ret : Option FieldType} {ws : List Cond} {rm : Room} {As : List Value} {wc wr : va_W} (isC isR : List Nat) (hC : isC.map (fun i => w[i]?) = wc.map some) (hR : isR.map (fun i => w[i]?) = wr.map some) (hnC : va_nd isC = true) (hnR : va_nd isR = true) (hdis : ∀ i ∈ isR, i ∉ isC) (hM : hl_KT D tys l y ws rm (.ref b :: As) wc E) (cw : CallW R s args own C index y bytes maxL ret ws rm 1 6 n) {q0 ci : Nat} {fs : List Value} {T : u_T} {N : Nat} (he : w[q0]? = some (b, .inr (ci, fs))) (hc : vwCl[ci]? = some (C, T, N)) (hd : decode cc pc = .ok (.invokevirtual index, 3)) (hn : As.length = n) (hW : (st.map fun v => v.category).sum ≤ 8) (hf : cells + 1 ≤ R.cells ∧ slots + 6 ≤ R.slots) {st0 : List Value} (hst : st0 = (As.reverse ++ .ref b :: st))
    (pre : List ExceptionTableEntry) (x : ExceptionTableEntry) (suf : List ExceptionTableEntry) (hsplit : c.exceptionTable.toList = pre ++ x :: suf) (hpass : ∀ z ∈ pre, z.catchType ≠ 0 ∧ ∃ nm : String, Cond.classLink own z.catchType nm ∈ Ts ∧ va_Nc E nm s) (hx : covers x pc = true) (h0 : x.catchType ≠ 0) (hlink : Cond.classLink own x.catchType E ∈ Ts) (hcast : va_Nw (.castable E E) s)
    (kk : ∀ q : Nat, hl_X p l e R s m args below meth c nL D A (cells + 1) (slots + 6) Q (wr ++ wc) x.handlerPc ls [.ref q]) : hl_X p l e R s m args below meth c nL D A cells slots Q w pc ls st0 := by
  subst hst
  intro H locs la hP hD hS hl
  have hDc := hD.sub (ws' := wc) isC hnC hC
  have hPc : va_P D vwCl wc H := hl_psub hP isC hC
  have hF := hl_fr h hDc hS
  refine hl_tgo (vx_runV (As := As) (rest := st) ⟨h.1, h.2.1, h.2.2.1, h.2.2.2.1, h.2.2.2.2.1⟩ (hM H.size) cw ⟨hl_blindZ D tys wc H.size _, va_recv h.2.2.2.2.2.1 hP hc he, hl_preZ h hz hPc hDc hS _⟩ rfl hn hl.1 rfl (lv_room hW) hd hf) hS hF (fun q _ h9 => hF q h9) ?_
  intro E' ce q9 t H1 locs1 ht hvm hb hz1 hk1 hS1 hce hcv hcl
  obtain ⟨rfl, hP1, hK1, hD1⟩ := hb
  rw [ht] at hP1
  obtain ⟨hP2, hD2⟩ := va_join hP hD isC isR hC hR hnR hdis hk1 hF hP1 hD1
  refine vx_catch h.2.2.2.1 pre x suf hsplit (fun z h9 => Or.inr ⟨(hpass z h9).1, ?_⟩) hx h0 (h.2.2.2.2.1 _ hlink) (va_Nw.use rfl hcast) hce hcv hcl (kk q9 H1 locs1 la hP2 hD2 hS1 hl)
  obtain ⟨nm, z1, z2⟩ := (hpass z h9).2
  exact ⟨nm, h.2.2.2.2.1 _ z1, z2⟩
/-- the law calls a wrapper: with the part wc of its world -/
theorem hl_callW (h : hl_C p s m args c cc nL Ts own D tys A) (hz : hl_Z A s s.heap) {y : MethodName} {bytes : ByteArray} {maxL n index : Nat} {ret : Option FieldType} {hh : List (Nat × Nat × Nat × Nat)} {ws : List Cond} {rm : Room} {As : List Value} {P : Int32 → va_W → Prop} {wc wr : va_W} (isC isR : List Nat) (hC : isC.map (fun i => w[i]?) = wc.map some) (hR : isR.map (fun i => w[i]?) = wr.map some) (hnC : va_nd isC = true) (hnR : va_nd isR = true) (hdis : ∀ i ∈ isR, i ∉ isC) (hM : hl_KW D tys l y ws rm As wc P) (cw : vx_CSW R s args own index y bytes maxL ret hh ws rm 1 6 n) (hd : decode cc pc = .ok (.invokestatic index, 3)) (hn : As.length = n) (hW : (st.map fun v => v.category).sum ≤ 8) (hf : cells + 1 ≤ R.cells ∧ slots + 6 ≤ R.slots) {st0 : List Value} (hst : st0 = (As.reverse ++ st))
    (kk : ∀ (r : Int32) (w1 : va_W), P r w1 → hl_X p l e R s m args below meth c nL D A (cells + 1) (slots + 6) Q (wr ++ w1) (pc + 3) ls (.int r :: st)) : hl_X p l e R s m args below meth c nL D A cells slots Q w pc ls st0 := by
  subst hst
  intro H locs la hP hD hS hl
  have hDc := hD.sub (ws' := wc) isC hnC hC
  have hPc : va_P D vwCl wc H := hl_psub hP isC hC
  have hF := hl_fr h hDc hS
  refine vx_calli (px := fun _ : Unit => False) (BX := fun _ _ _ => True) (AX := fun _ => False) (vx_runSX (As := As) (rest := st) ⟨h.1, h.2.1, h.2.2.1, h.2.2.2.1, h.2.2.2.2.1⟩ (hM H.size) cw ⟨hl_blindZ D tys wc H.size _, hl_preZ h hz hPc hDc hS _⟩ rfl hn hl.1 rfl (lv_room hW) hd hf) hS (fun q _ h9 => hF q h9) hF ?_ ?_ ?_
  · exact fun q _ h9 => absurd h9 id
  · intro E' ce q9 u t H1 locs1 ht hvm hb
    exact absurd hb id
  · intro r u t H1 locs1 ht hvm hw hB hz1 hk1 hS1
    obtain ⟨hP1, hK1, hD1⟩ := hB
    rw [ht] at hP1
    obtain ⟨hP2, hD2⟩ := va_join hP hD isC isR hC hR hnR hdis hk1 hF hP1 hD1
    exact kk r u hw H1 locs1 la hP2 hD2 hS1 hl
end HLU
