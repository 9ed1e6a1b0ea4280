/-! Rows over symbolic worlds: hl_X: at this frame with this world, whatever the heap. Turned from the kit's one-instruction laws. -/
def hl_ty (cI cZ _cJ : ClassId) : List (ClassId × FieldType) := [(cI, .int), (cZ, .boolean)]
def hl_C (p : Program) (s : State) (m : MethodId) (args : Array Value) (c : Code) (cc : ByteArray) (nL : Nat) (Ts : List Cond) (own : String) (D : va_G) (tys : List (ClassId × FieldType)) (A : Nat → Prop) : Prop :=
  p.tables.exec = Jvm.exec ∧ c.code = cc ∧ c.maxLocals = nL ∧ s.vm.findClass own = some m.cls ∧ (∀ w ∈ Ts, w.before args s = true) ∧ va_K D vwCl tys s ∧ ∀ q : Nat, s.heap.size ≤ q → A q
def hl_X (p : Program) (l : Launch) (e : Env) (R : Room) (s : State) (m : MethodId) (args : Array Value) (below : List Frame) (meth : Method) (c : Code) (nL : Nat) (D : va_G) (A : Nat → Prop) (cells slots : Nat) (Q : State → Prop) (w : va_W) (pc : Nat) (ls : List (Nat × Value)) (st : List Value) : Prop :=
  ∀ (H : Heap) (locs : List Loc) (la : Array Slot), va_P D vwCl w H → va_D A w → va_S A s.heap H locs → lv_has la nL ls → W p l e R s m args below meth c H locs cells slots Q (F0 m pc la st)
section HLR
variable {p : Program} {l : Launch} {e : Env} {R : Room} {s : State} {m : MethodId} {args : Array Value} {below : List Frame} {meth : Method} {c : Code}
variable {cc : ByteArray} {nL : Nat} {Ts : List Cond} {own : String} {D : va_G} {tys : List (ClassId × FieldType)} {A : Nat → Prop} {cells slots : Nat} {Q : State → Prop} {w : va_W} {pc : Nat} {ls : List (Nat × Value)} {st : List Value}
theorem hl_iconst (h : hl_C p s m args c cc nL Ts own D tys A) {n : Int} (v : Int32) (hd : decode cc pc = .ok (.iconst n, 1)) (hv : Int32.ofInt n = v) (k : hl_X p l e R s m args below meth c nL D A cells slots Q w (pc + 1) ls (.int v :: st)) : hl_X p l e R s m args below meth c nL D A cells slots Q w pc ls st :=
  fun H locs la hP hD hS hl => lv_iconst h.1 h.2.1 hd hv (k H locs la hP hD hS hl)
theorem hl_bipush (h : hl_C p s m args c cc nL Ts own D tys A) {n : Int} (v : Int32) (hd : decode cc pc = .ok (.bipush n, 2)) (hv : (Int8.ofInt n).toInt32 = v) (k : hl_X p l e R s m args below meth c nL D A cells slots Q w (pc + 2) ls (.int v :: st)) : hl_X p l e R s m args below meth c nL D A cells slots Q w pc ls st :=
  fun H locs la hP hD hS hl => lv_bipush h.1 h.2.1 hd hv (k H locs la hP hD hS hl)
theorem hl_sipush (h : hl_C p s m args c cc nL Ts own D tys A) {n : Int} (v : Int32) (hd : decode cc pc = .ok (.sipush n, 3)) (hv : (Int16.ofInt n).toInt32 = v) (k : hl_X p l e R s m args below meth c nL D A cells slots Q w (pc + 3) ls (.int v :: st)) : hl_X p l e R s m args below meth c nL D A cells slots Q w pc ls st :=
  fun H locs la hP hD hS hl => lv_sipush h.1 h.2.1 hd hv (k H locs la hP hD hS hl)
theorem hl_iload_n (h : hl_C p s m args c cc nL Ts own D tys A) (k : Nat) {j : Fin 4} {x : Int32} (hd : decode cc pc = .ok (.iload_n j, 1)) (hk : ls[k]? = some ((j : Nat), .int x)) (kk : hl_X p l e R s m args below meth c nL D A cells slots Q w (pc + 1) ls (.int x :: st)) : hl_X p l e R s m args below meth c nL D A cells slots Q w pc ls st :=
  fun H locs la hP hD hS hl => lv_iload_n h.1 h.2.1 hd rfl (lv_at hl k hk) (kk H locs la hP hD hS hl)
theorem hl_iload (h : hl_C p s m args c cc nL Ts own D tys A) (k : Nat) {i : Nat} {x : Int32} (hd : decode cc pc = .ok (.iload i, 2)) (hk : ls[k]? = some (i, .int x)) (kk : hl_X p l e R s m args below meth c nL D A cells slots Q w (pc + 2) ls (.int x :: st)) : hl_X p l e R s m args below meth c nL D A cells slots Q w pc ls st :=
  fun H locs la hP hD hS hl => lv_iload h.1 h.2.1 hd (lv_at hl k hk) (kk H locs la hP hD hS hl)
theorem hl_aload_n (h : hl_C p s m args c cc nL Ts own D tys A) (k : Nat) {j : Fin 4} {x : Nat} (hd : decode cc pc = .ok (.aload_n j, 1)) (hk : ls[k]? = some ((j : Nat), .ref x)) (kk : hl_X p l e R s m args below meth c nL D A cells slots Q w (pc + 1) ls (.ref x :: st)) : hl_X p l e R s m args below meth c nL D A cells slots Q w pc ls st :=
  fun H locs la hP hD hS hl => lv_aload_n h.1 h.2.1 hd rfl (lv_at hl k hk) (kk H locs la hP hD hS hl)
theorem hl_aload (h : hl_C p s m args c cc nL Ts own D tys A) (k : Nat) {i : Nat} {x : Nat} (hd : decode cc pc = .ok (.aload i, 2)) (hk : ls[k]? = some (i, .ref x)) (kk : hl_X p l e R s m args below meth c nL D A cells slots Q w (pc + 2) ls (.ref x :: st)) : hl_X p l e R s m args below meth c nL D A cells slots Q w pc ls st :=
  fun H locs la hP hD hS hl => lv_aload h.1 h.2.1 hd (lv_at hl k hk) (kk H locs la hP hD hS hl)
theorem hl_istore_n (h : hl_C p s m args c cc nL Ts own D tys A) (lv' : List (Nat × Value)) {j : Fin 4} {x : Int32} (hd : decode cc pc = .ok (.istore_n j, 1)) (hn : (j : Nat) < nL) (hl' : ((j : Nat), Value.int x) :: ls.filter (fun q => !(q.1 == (j : Nat)) && !(q.1 + 1 == (j : Nat) && q.2.category == 2)) = lv') (k : hl_X p l e R s m args below meth c nL D A cells slots Q w (pc + 1) lv' st) : hl_X p l e R s m args below meth c nL D A cells slots Q w pc ls (.int x :: st) :=
  fun H locs la hP hD hS hl => lv_istore_n h.1 h.2.1 hd rfl hl hn hl' (fun la' hl2 => k H locs la' hP hD hS hl2)
theorem hl_istore (h : hl_C p s m args c cc nL Ts own D tys A) (lv' : List (Nat × Value)) {i : Nat} {x : Int32} (hd : decode cc pc = .ok (.istore i, 2)) (hn : i < nL) (hl' : (i, Value.int x) :: ls.filter (fun q => !(q.1 == i) && !(q.1 + 1 == i && q.2.category == 2)) = lv') (k : hl_X p l e R s m args below meth c nL D A cells slots Q w (pc + 2) lv' st) : hl_X p l e R s m args below meth c nL D A cells slots Q w pc ls (.int x :: st) :=
  fun H locs la hP hD hS hl => lv_istore h.1 h.2.1 hd hl hn hl' (fun la' hl2 => k H locs la' hP hD hS hl2)
theorem hl_astore_n (h : hl_C p s m args c cc nL Ts own D tys A) (lv' : List (Nat × Value)) {j : Fin 4} {x : Nat} (hd : decode cc pc = .ok (.astore_n j, 1)) (hn : (j : Nat) < nL) (hl' : ((j : Nat), Value.ref x) :: ls.filter (fun q => !(q.1 == (j : Nat)) && !(q.1 + 1 == (j : Nat) && q.2.category == 2)) = lv') (k : hl_X p l e R s m args below meth c nL D A cells slots Q w (pc + 1) lv' st) : hl_X p l e R s m args below meth c nL D A cells slots Q w pc ls (.ref x :: st) :=
  fun H locs la hP hD hS hl => lv_astore_n h.1 h.2.1 hd rfl hl hn hl' (fun la' hl2 => k H locs la' hP hD hS hl2)
theorem hl_astore (h : hl_C p s m args c cc nL Ts own D tys A) (lv' : List (Nat × Value)) {i : Nat} {x : Nat} (hd : decode cc pc = .ok (.astore i, 2)) (hn : i < nL) (hl' : (i, Value.ref x) :: ls.filter (fun q => !(q.1 == i) && !(q.1 + 1 == i && q.2.category == 2)) = lv') (k : hl_X p l e R s m args below meth c nL D A cells slots Q w (pc + 2) lv' st) : hl_X p l e R s m args below meth c nL D A cells slots Q w pc ls (.ref x :: st) :=
  fun H locs la hP hD hS hl => lv_astore h.1 h.2.1 hd hl hn hl' (fun la' hl2 => k H locs la' hP hD hS hl2)
theorem hl_iinc (h : hl_C p s m args c cc nL Ts own D tys A) (k : Nat) (v : Int32) (lv' : List (Nat × Value)) {i : Nat} {n : Int} {x : Int32} (hd : decode cc pc = .ok (.iinc i n, 3)) (hk : ls[k]? = some (i, .int x)) (hv : x + Int32.ofInt n = v) (hn : i < nL) (hl' : (i, Value.int v) :: ls.filter (fun q => !(q.1 == i) && !(q.1 + 1 == i && q.2.category == 2)) = lv') (kk : hl_X p l e R s m args below meth c nL D A cells slots Q w (pc + 3) lv' st) : hl_X p l e R s m args below meth c nL D A cells slots Q w pc ls st :=
  fun H locs la hP hD hS hl => lv_iinc h.1 h.2.1 hd hl hk hv hn hl' (fun la' hl2 => kk H locs la' hP hD hS hl2)
theorem hl_dup (h : hl_C p s m args c cc nL Ts own D tys A) {va : Value} (hd : decode cc pc = .ok (.dup, 1)) (hva : va.category = 1) (k : hl_X p l e R s m args below meth c nL D A cells slots Q w (pc + 1) ls (va :: va :: st)) : hl_X p l e R s m args below meth c nL D A cells slots Q w pc ls (va :: st) :=
  fun H locs la hP hD hS hl => lv_dup h.1 h.2.1 hd hva (k H locs la hP hD hS hl)
theorem hl_dup2 (h : hl_C p s m args c cc nL Ts own D tys A) {va vb : Value} (hd : decode cc pc = .ok (.dup2, 1)) (hva : va.category = 1) (hvb : vb.category = 1) (k : hl_X p l e R s m args below meth c nL D A cells slots Q w (pc + 1) ls (va :: vb :: va :: vb :: st)) : hl_X p l e R s m args below meth c nL D A cells slots Q w pc ls (va :: vb :: st) :=
  fun H locs la hP hD hS hl => lv_dup2_11 h.1 h.2.1 hd hva hvb (k H locs la hP hD hS hl)
theorem hl_iadd (h : hl_C p s m args c cc nL Ts own D tys A) {x y : Int32} (hd : decode cc pc = .ok (.iadd, 1)) (k : hl_X p l e R s m args below meth c nL D A cells slots Q w (pc + 1) ls (.int (x + y) :: st)) : hl_X p l e R s m args below meth c nL D A cells slots Q w pc ls (.int y :: .int x :: st) :=
  fun H locs la hP hD hS hl => lv_iadd h.1 h.2.1 hd (k H locs la hP hD hS hl)
theorem hl_isub (h : hl_C p s m args c cc nL Ts own D tys A) {x y : Int32} (hd : decode cc pc = .ok (.isub, 1)) (k : hl_X p l e R s m args below meth c nL D A cells slots Q w (pc + 1) ls (.int (x - y) :: st)) : hl_X p l e R s m args below meth c nL D A cells slots Q w pc ls (.int y :: .int x :: st) :=
  fun H locs la hP hD hS hl => lv_isub h.1 h.2.1 hd (k H locs la hP hD hS hl)
theorem hl_imul (h : hl_C p s m args c cc nL Ts own D tys A) {x y : Int32} (hd : decode cc pc = .ok (.imul, 1)) (k : hl_X p l e R s m args below meth c nL D A cells slots Q w (pc + 1) ls (.int (x * y) :: st)) : hl_X p l e R s m args below meth c nL D A cells slots Q w pc ls (.int y :: .int x :: st) :=
  fun H locs la hP hD hS hl => lv_imul h.1 h.2.1 hd (k H locs la hP hD hS hl)
theorem hl_iand (h : hl_C p s m args c cc nL Ts own D tys A) {x y : Int32} (hd : decode cc pc = .ok (.iand, 1)) (k : hl_X p l e R s m args below meth c nL D A cells slots Q w (pc + 1) ls (.int (x &&& y) :: st)) : hl_X p l e R s m args below meth c nL D A cells slots Q w pc ls (.int y :: .int x :: st) :=
  fun H locs la hP hD hS hl => lv_iand h.1 h.2.1 hd (k H locs la hP hD hS hl)
theorem hl_idiv (h : hl_C p s m args c cc nL Ts own D tys A) {x y : Int32} (hd : decode cc pc = .ok (.idiv, 1)) (hne : ¬ y = 0) (k : hl_X p l e R s m args below meth c nL D A cells slots Q w (pc + 1) ls (.int (x / y) :: st)) : hl_X p l e R s m args below meth c nL D A cells slots Q w pc ls (.int y :: .int x :: st) :=
  fun H locs la hP hD hS hl => lv_idiv h.1 h.2.1 hd hne (k H locs la hP hD hS hl)
theorem hl_irem (h : hl_C p s m args c cc nL Ts own D tys A) {x y : Int32} (hd : decode cc pc = .ok (.irem, 1)) (hne : ¬ y = 0) (k : hl_X p l e R s m args below meth c nL D A cells slots Q w (pc + 1) ls (.int (x - x / y * y) :: st)) : hl_X p l e R s m args below meth c nL D A cells slots Q w pc ls (.int y :: .int x :: st) :=
  fun H locs la hP hD hS hl => lv_irem h.1 h.2.1 hd hne (k H locs la hP hD hS hl)
theorem hl_i2l (h : hl_C p s m args c cc nL Ts own D tys A) {x : Int32} (hd : decode cc pc = .ok (.i2l, 1)) (k : hl_X p l e R s m args below meth c nL D A cells slots Q w (pc + 1) ls (.long x.toInt64 :: st)) : hl_X p l e R s m args below meth c nL D A cells slots Q w pc ls (.int x :: st) :=
  fun H locs la hP hD hS hl => lv_i2l h.1 h.2.1 hd rfl (k H locs la hP hD hS hl)
theorem hl_lcmp (h : hl_C p s m args c cc nL Ts own D tys A) {x y : Int64} (hd : decode cc pc = .ok (.lcmp, 1)) (k : hl_X p l e R s m args below meth c nL D A cells slots Q w (pc + 1) ls (.int (lg_cmp x y) :: st)) : hl_X p l e R s m args below meth c nL D A cells slots Q w pc ls (.long y :: .long x :: st) :=
  fun H locs la hP hD hS hl => W.lcmp h.1 h.2.1 hd (k H locs la hP hD hS hl)
theorem hl_goto (h : hl_C p s m args c cc nL Ts own D tys A) (tgt : Nat) {off : Int} (hd : decode cc pc = .ok (.goto off, 3)) (ht : (pc : Int) + off = (tgt : Int)) (k : hl_X p l e R s m args below meth c nL D A cells slots Q w tgt ls st) : hl_X p l e R s m args below meth c nL D A cells slots Q w pc ls st :=
  fun H locs la hP hD hS hl => lv_goto h.1 h.2.1 hd ht (k H locs la hP hD hS hl)
theorem hl_if_eq (h : hl_C p s m args c cc nL Ts own D tys A) (tgt : Nat) {x : Int32} {off : Int} (hd : decode cc pc = .ok (.ifCond .eq off, 3)) (ht : (pc : Int) + off = (tgt : Int)) (kt : (x = 0) → hl_X p l e R s m args below meth c nL D A cells slots Q w tgt ls st) (kf : ¬ x = 0 → hl_X p l e R s m args below meth c nL D A cells slots Q w (pc + 3) ls st) : hl_X p l e R s m args below meth c nL D A cells slots Q w pc ls (.int x :: st) :=
  fun H locs la hP hD hS hl => lv_if_eq h.1 h.2.1 hd ht (fun z => kt z H locs la hP hD hS hl) (fun z => kf z H locs la hP hD hS hl)
theorem hl_if_eq_T (h : hl_C p s m args c cc nL Ts own D tys A) (tgt : Nat) {x : Int32} {off : Int} (hd : decode cc pc = .ok (.ifCond .eq off, 3)) (ht : (pc : Int) + off = (tgt : Int)) (hc : (x = 0)) (kt : hl_X p l e R s m args below meth c nL D A cells slots Q w tgt ls st) : hl_X p l e R s m args below meth c nL D A cells slots Q w pc ls (.int x :: st) :=
  hl_if_eq h tgt hd ht (fun _ => kt) (fun z => absurd hc z)
theorem hl_if_eq_F (h : hl_C p s m args c cc nL Ts own D tys A) {x : Int32} {off : Int} (tgt : Nat) (hd : decode cc pc = .ok (.ifCond .eq off, 3)) (ht : (pc : Int) + off = (tgt : Int)) (hc : ¬ x = 0) (kf : hl_X p l e R s m args below meth c nL D A cells slots Q w (pc + 3) ls st) : hl_X p l e R s m args below meth c nL D A cells slots Q w pc ls (.int x :: st) :=
  hl_if_eq h tgt hd ht (fun z => absurd z hc) (fun _ => kf)
theorem hl_if_ne (h : hl_C p s m args c cc nL Ts own D tys A) (tgt : Nat) {x : Int32} {off : Int} (hd : decode cc pc = .ok (.ifCond .ne off, 3)) (ht : (pc : Int) + off = (tgt : Int)) (kt : (¬ x = 0) → hl_X p l e R s m args below meth c nL D A cells slots Q w tgt ls st) (kf : x = 0 → hl_X p l e R s m args below meth c nL D A cells slots Q w (pc + 3) ls st) : hl_X p l e R s m args below meth c nL D A cells slots Q w pc ls (.int x :: st) :=
  fun H locs la hP hD hS hl => lv_if_ne h.1 h.2.1 hd ht (fun z => kt z H locs la hP hD hS hl) (fun z => kf z H locs la hP hD hS hl)
theorem hl_if_ne_T (h : hl_C p s m args c cc nL Ts own D tys A) (tgt : Nat) {x : Int32} {off : Int} (hd : decode cc pc = .ok (.ifCond .ne off, 3)) (ht : (pc : Int) + off = (tgt : Int)) (hc : (¬ x = 0)) (kt : hl_X p l e R s m args below meth c nL D A cells slots Q w tgt ls st) : hl_X p l e R s m args below meth c nL D A cells slots Q w pc ls (.int x :: st) :=
  hl_if_ne h tgt hd ht (fun _ => kt) (fun z => absurd z hc)
theorem hl_if_ne_F (h : hl_C p s m args c cc nL Ts own D tys A) {x : Int32} {off : Int} (tgt : Nat) (hd : decode cc pc = .ok (.ifCond .ne off, 3)) (ht : (pc : Int) + off = (tgt : Int)) (hc : x = 0) (kf : hl_X p l e R s m args below meth c nL D A cells slots Q w (pc + 3) ls st) : hl_X p l e R s m args below meth c nL D A cells slots Q w pc ls (.int x :: st) :=
  hl_if_ne h tgt hd ht (fun z => absurd hc z) (fun _ => kf)
theorem hl_if_lt (h : hl_C p s m args c cc nL Ts own D tys A) (tgt : Nat) {x : Int32} {off : Int} (hd : decode cc pc = .ok (.ifCond .lt off, 3)) (ht : (pc : Int) + off = (tgt : Int)) (kt : (x < 0) → hl_X p l e R s m args below meth c nL D A cells slots Q w tgt ls st) (kf : ¬ x < 0 → hl_X p l e R s m args below meth c nL D A cells slots Q w (pc + 3) ls st) : hl_X p l e R s m args below meth c nL D A cells slots Q w pc ls (.int x :: st) :=
  fun H locs la hP hD hS hl => lv_if_lt h.1 h.2.1 hd ht (fun z => kt z H locs la hP hD hS hl) (fun z => kf z H locs la hP hD hS hl)
theorem hl_if_lt_T (h : hl_C p s m args c cc nL Ts own D tys A) (tgt : Nat) {x : Int32} {off : Int} (hd : decode cc pc = .ok (.ifCond .lt off, 3)) (ht : (pc : Int) + off = (tgt : Int)) (hc : (x < 0)) (kt : hl_X p l e R s m args below meth c nL D A cells slots Q w tgt ls st) : hl_X p l e R s m args below meth c nL D A cells slots Q w pc ls (.int x :: st) :=
  hl_if_lt h tgt hd ht (fun _ => kt) (fun z => absurd hc z)
theorem hl_if_lt_F (h : hl_C p s m args c cc nL Ts own D tys A) {x : Int32} {off : Int} (tgt : Nat) (hd : decode cc pc = .ok (.ifCond .lt off, 3)) (ht : (pc : Int) + off = (tgt : Int)) (hc : ¬ x < 0) (kf : hl_X p l e R s m args below meth c nL D A cells slots Q w (pc + 3) ls st) : hl_X p l e R s m args below meth c nL D A cells slots Q w pc ls (.int x :: st) :=
  hl_if_lt h tgt hd ht (fun z => absurd z hc) (fun _ => kf)
theorem hl_if_ge (h : hl_C p s m args c cc nL Ts own D tys A) (tgt : Nat) {x : Int32} {off : Int} (hd : decode cc pc = .ok (.ifCond .ge off, 3)) (ht : (pc : Int) + off = (tgt : Int)) (kt : (0 ≤ x) → hl_X p l e R s m args below meth c nL D A cells slots Q w tgt ls st) (kf : ¬ 0 ≤ x → hl_X p l e R s m args below meth c nL D A cells slots Q w (pc + 3) ls st) : hl_X p l e R s m args below meth c nL D A cells slots Q w pc ls (.int x :: st) :=
  fun H locs la hP hD hS hl => lv_if_ge h.1 h.2.1 hd ht (fun z => kt z H locs la hP hD hS hl) (fun z => kf z H locs la hP hD hS hl)
theorem hl_if_ge_T (h : hl_C p s m args c cc nL Ts own D tys A) (tgt : Nat) {x : Int32} {off : Int} (hd : decode cc pc = .ok (.ifCond .ge off, 3)) (ht : (pc : Int) + off = (tgt : Int)) (hc : (0 ≤ x)) (kt : hl_X p l e R s m args below meth c nL D A cells slots Q w tgt ls st) : hl_X p l e R s m args below meth c nL D A cells slots Q w pc ls (.int x :: st) :=
  hl_if_ge h tgt hd ht (fun _ => kt) (fun z => absurd hc z)
theorem hl_if_ge_F (h : hl_C p s m args c cc nL Ts own D tys A) {x : Int32} {off : Int} (tgt : Nat) (hd : decode cc pc = .ok (.ifCond .ge off, 3)) (ht : (pc : Int) + off = (tgt : Int)) (hc : ¬ 0 ≤ x) (kf : hl_X p l e R s m args below meth c nL D A cells slots Q w (pc + 3) ls st) : hl_X p l e R s m args below meth c nL D A cells slots Q w pc ls (.int x :: st) :=
  hl_if_ge h tgt hd ht (fun z => absurd z hc) (fun _ => kf)
theorem hl_if_gt (h : hl_C p s m args c cc nL Ts own D tys A) (tgt : Nat) {x : Int32} {off : Int} (hd : decode cc pc = .ok (.ifCond .gt off, 3)) (ht : (pc : Int) + off = (tgt : Int)) (kt : (0 < x) → hl_X p l e R s m args below meth c nL D A cells slots Q w tgt ls st) (kf : ¬ 0 < x → hl_X p l e R s m args below meth c nL D A cells slots Q w (pc + 3) ls st) : hl_X p l e R s m args below meth c nL D A cells slots Q w pc ls (.int x :: st) :=
  fun H locs la hP hD hS hl => lv_if_gt h.1 h.2.1 hd ht (fun z => kt z H locs la hP hD hS hl) (fun z => kf z H locs la hP hD hS hl)
theorem hl_if_gt_T (h : hl_C p s m args c cc nL Ts own D tys A) (tgt : Nat) {x : Int32} {off : Int} (hd : decode cc pc = .ok (.ifCond .gt off, 3)) (ht : (pc : Int) + off = (tgt : Int)) (hc : (0 < x)) (kt : hl_X p l e R s m args below meth c nL D A cells slots Q w tgt ls st) : hl_X p l e R s m args below meth c nL D A cells slots Q w pc ls (.int x :: st) :=
  hl_if_gt h tgt hd ht (fun _ => kt) (fun z => absurd hc z)
theorem hl_if_gt_F (h : hl_C p s m args c cc nL Ts own D tys A) {x : Int32} {off : Int} (tgt : Nat) (hd : decode cc pc = .ok (.ifCond .gt off, 3)) (ht : (pc : Int) + off = (tgt : Int)) (hc : ¬ 0 < x) (kf : hl_X p l e R s m args below meth c nL D A cells slots Q w (pc + 3) ls st) : hl_X p l e R s m args below meth c nL D A cells slots Q w pc ls (.int x :: st) :=
  hl_if_gt h tgt hd ht (fun z => absurd z hc) (fun _ => kf)
theorem hl_if_le (h : hl_C p s m args c cc nL Ts own D tys A) (tgt : Nat) {x : Int32} {off : Int} (hd : decode cc pc = .ok (.ifCond .le off, 3)) (ht : (pc : Int) + off = (tgt : Int)) (kt : (x ≤ 0) → hl_X p l e R s m args below meth c nL D A cells slots Q w tgt ls st) (kf : ¬ x ≤ 0 → hl_X p l e R s m args below meth c nL D A cells slots Q w (pc + 3) ls st) : hl_X p l e R s m args below meth c nL D A cells slots Q w pc ls (.int x :: st) :=
  fun H locs la hP hD hS hl => lv_if_le h.1 h.2.1 hd ht (fun z => kt z H locs la hP hD hS hl) (fun z => kf z H locs la hP hD hS hl)
theorem hl_if_le_T (h : hl_C p s m args c cc nL Ts own D tys A) (tgt : Nat) {x : Int32} {off : Int} (hd : decode cc pc = .ok (.ifCond .le off, 3)) (ht : (pc : Int) + off = (tgt : Int)) (hc : (x ≤ 0)) (kt : hl_X p l e R s m args below meth c nL D A cells slots Q w tgt ls st) : hl_X p l e R s m args below meth c nL D A cells slots Q w pc ls (.int x :: st) :=
  hl_if_le h tgt hd ht (fun _ => kt) (fun z => absurd hc z)
theorem hl_if_le_F (h : hl_C p s m args c cc nL Ts own D tys A) {x : Int32} {off : Int} (tgt : Nat) (hd : decode cc pc = .ok (.ifCond .le off, 3)) (ht : (pc : Int) + off = (tgt : Int)) (hc : ¬ x ≤ 0) (kf : hl_X p l e R s m args below meth c nL D A cells slots Q w (pc + 3) ls st) : hl_X p l e R s m args below meth c nL D A cells slots Q w pc ls (.int x :: st) :=
  hl_if_le h tgt hd ht (fun z => absurd z hc) (fun _ => kf)
theorem hl_icmp_eq (h : hl_C p s m args c cc nL Ts own D tys A) (tgt : Nat) {x y : Int32} {off : Int} (hd : decode cc pc = .ok (.if_icmp .eq off, 3)) (ht : (pc : Int) + off = (tgt : Int)) (kt : (x = y) → hl_X p l e R s m args below meth c nL D A cells slots Q w tgt ls st) (kf : ¬ x = y → hl_X p l e R s m args below meth c nL D A cells slots Q w (pc + 3) ls st) : hl_X p l e R s m args below meth c nL D A cells slots Q w pc ls (.int y :: .int x :: st) :=
  fun H locs la hP hD hS hl => lv_icmp_eq h.1 h.2.1 hd ht (fun z => kt z H locs la hP hD hS hl) (fun z => kf z H locs la hP hD hS hl)
theorem hl_icmp_eq_T (h : hl_C p s m args c cc nL Ts own D tys A) (tgt : Nat) {x y : Int32} {off : Int} (hd : decode cc pc = .ok (.if_icmp .eq off, 3)) (ht : (pc : Int) + off = (tgt : Int)) (hc : (x = y)) (kt : hl_X p l e R s m args below meth c nL D A cells slots Q w tgt ls st) : hl_X p l e R s m args below meth c nL D A cells slots Q w pc ls (.int y :: .int x :: st) :=
  hl_icmp_eq h tgt hd ht (fun _ => kt) (fun z => absurd hc z)
theorem hl_icmp_eq_F (h : hl_C p s m args c cc nL Ts own D tys A) {x y : Int32} {off : Int} (tgt : Nat) (hd : decode cc pc = .ok (.if_icmp .eq off, 3)) (ht : (pc : Int) + off = (tgt : Int)) (hc : ¬ x = y) (kf : hl_X p l e R s m args below meth c nL D A cells slots Q w (pc + 3) ls st) : hl_X p l e R s m args below meth c nL D A cells slots Q w pc ls (.int y :: .int x :: st) :=
  hl_icmp_eq h tgt hd ht (fun z => absurd z hc) (fun _ => kf)
theorem hl_icmp_ne (h : hl_C p s m args c cc nL Ts own D tys A) (tgt : Nat) {x y : Int32} {off : Int} (hd : decode cc pc = .ok (.if_icmp .ne off, 3)) (ht : (pc : Int) + off = (tgt : Int)) (kt : (¬ x = y) → hl_X p l e R s m args below meth c nL D A cells slots Q w tgt ls st) (kf : x = y → hl_X p l e R s m args below meth c nL D A cells slots Q w (pc + 3) ls st) : hl_X p l e R s m args below meth c nL D A cells slots Q w pc ls (.int y :: .int x :: st) :=
  fun H locs la hP hD hS hl => lv_icmp_ne h.1 h.2.1 hd ht (fun z => kt z H locs la hP hD hS hl) (fun z => kf z H locs la hP hD hS hl)
theorem hl_icmp_ne_T (h : hl_C p s m args c cc nL Ts own D tys A) (tgt : Nat) {x y : Int32} {off : Int} (hd : decode cc pc = .ok (.if_icmp .ne off, 3)) (ht : (pc : Int) + off = (tgt : Int)) (hc : (¬ x = y)) (kt : hl_X p l e R s m args below meth c nL D A cells slots Q w tgt ls st) : hl_X p l e R s m args below meth c nL D A cells slots Q w pc ls (.int y :: .int x :: st) :=
  hl_icmp_ne h tgt hd ht (fun _ => kt) (fun z => absurd z hc)
theorem hl_icmp_ne_F (h : hl_C p s m args c cc nL Ts own D tys A) {x y : Int32} {off : Int} (tgt : Nat) (hd : decode cc pc = .ok (.if_icmp .ne off, 3)) (ht : (pc : Int) + off = (tgt : Int)) (hc : x = y) (kf : hl_X p l e R s m args below meth c nL D A cells slots Q w (pc + 3) ls st) : hl_X p l e R s m args below meth c nL D A cells slots Q w pc ls (.int y :: .int x :: st) :=
  hl_icmp_ne h tgt hd ht (fun z => absurd hc z) (fun _ => kf)
theorem hl_icmp_lt (h : hl_C p s m args c cc nL Ts own D tys A) (tgt : Nat) {x y : Int32} {off : Int} (hd : decode cc pc = .ok (.if_icmp .lt off, 3)) (ht : (pc : Int) + off = (tgt : Int)) (kt : (x < y) → hl_X p l e R s m args below meth c nL D A cells slots Q w tgt ls st) (kf : ¬ x < y → hl_X p l e R s m args below meth c nL D A cells slots Q w (pc + 3) ls st) : hl_X p l e R s m args below meth c nL D A cells slots Q w pc ls (.int y :: .int x :: st) :=
  fun H locs la hP hD hS hl => lv_icmp_lt h.1 h.2.1 hd ht (fun z => kt z H locs la hP hD hS hl) (fun z => kf z H locs la hP hD hS hl)
theorem hl_icmp_lt_T (h : hl_C p s m args c cc nL Ts own D tys A) (tgt : Nat) {x y : Int32} {off : Int} (hd : decode cc pc = .ok (.if_icmp .lt off, 3)) (ht : (pc : Int) + off = (tgt : Int)) (hc : (x < y)) (kt : hl_X p l e R s m args below meth c nL D A cells slots Q w tgt ls st) : hl_X p l e R s m args below meth c nL D A cells slots Q w pc ls (.int y :: .int x :: st) :=
  hl_icmp_lt h tgt hd ht (fun _ => kt) (fun z => absurd hc z)
theorem hl_icmp_lt_F (h : hl_C p s m args c cc nL Ts own D tys A) {x y : Int32} {off : Int} (tgt : Nat) (hd : decode cc pc = .ok (.if_icmp .lt off, 3)) (ht : (pc : Int) + off = (tgt : Int)) (hc : ¬ x < y) (kf : hl_X p l e R s m args below meth c nL D A cells slots Q w (pc + 3) ls st) : hl_X p l e R s m args below meth c nL D A cells slots Q w pc ls (.int y :: .int x :: st) :=
  hl_icmp_lt h tgt hd ht (fun z => absurd z hc) (fun _ => kf)
theorem hl_icmp_ge (h : hl_C p s m args c cc nL Ts own D tys A) (tgt : Nat) {x y : Int32} {off : Int} (hd : decode cc pc = .ok (.if_icmp .ge off, 3)) (ht : (pc : Int) + off = (tgt : Int)) (kt : (y ≤ x) → hl_X p l e R s m args below meth c nL D A cells slots Q w tgt ls st) (kf : ¬ y ≤ x → hl_X p l e R s m args below meth c nL D A cells slots Q w (pc + 3) ls st) : hl_X p l e R s m args below meth c nL D A cells slots Q w pc ls (.int y :: .int x :: st) :=
  fun H locs la hP hD hS hl => lv_icmp_ge h.1 h.2.1 hd ht (fun z => kt z H locs la hP hD hS hl) (fun z => kf z H locs la hP hD hS hl)
theorem hl_icmp_ge_T (h : hl_C p s m args c cc nL Ts own D tys A) (tgt : Nat) {x y : Int32} {off : Int} (hd : decode cc pc = .ok (.if_icmp .ge off, 3)) (ht : (pc : Int) + off = (tgt : Int)) (hc : (y ≤ x)) (kt : hl_X p l e R s m args below meth c nL D A cells slots Q w tgt ls st) : hl_X p l e R s m args below meth c nL D A cells slots Q w pc ls (.int y :: .int x :: st) :=
  hl_icmp_ge h tgt hd ht (fun _ => kt) (fun z => absurd hc z)
theorem hl_icmp_ge_F (h : hl_C p s m args c cc nL Ts own D tys A) {x y : Int32} {off : Int} (tgt : Nat) (hd : decode cc pc = .ok (.if_icmp .ge off, 3)) (ht : (pc : Int) + off = (tgt : Int)) (hc : ¬ y ≤ x) (kf : hl_X p l e R s m args below meth c nL D A cells slots Q w (pc + 3) ls st) : hl_X p l e R s m args below meth c nL D A cells slots Q w pc ls (.int y :: .int x :: st) :=
  hl_icmp_ge h tgt hd ht (fun z => absurd z hc) (fun _ => kf)
theorem hl_icmp_gt (h : hl_C p s m args c cc nL Ts own D tys A) (tgt : Nat) {x y : Int32} {off : Int} (hd : decode cc pc = .ok (.if_icmp .gt off, 3)) (ht : (pc : Int) + off = (tgt : Int)) (kt : (y < x) → hl_X p l e R s m args below meth c nL D A cells slots Q w tgt ls st) (kf : ¬ y < x → hl_X p l e R s m args below meth c nL D A cells slots Q w (pc + 3) ls st) : hl_X p l e R s m args below meth c nL D A cells slots Q w pc ls (.int y :: .int x :: st) :=
  fun H locs la hP hD hS hl => lv_icmp_gt h.1 h.2.1 hd ht (fun z => kt z H locs la hP hD hS hl) (fun z => kf z H locs la hP hD hS hl)
theorem hl_icmp_gt_T (h : hl_C p s m args c cc nL Ts own D tys A) (tgt : Nat) {x y : Int32} {off : Int} (hd : decode cc pc = .ok (.if_icmp .gt off, 3)) (ht : (pc : Int) + off = (tgt : Int)) (hc : (y < x)) (kt : hl_X p l e R s m args below meth c nL D A cells slots Q w tgt ls st) : hl_X p l e R s m args below meth c nL D A cells slots Q w pc ls (.int y :: .int x :: st) :=
  hl_icmp_gt h tgt hd ht (fun _ => kt) (fun z => absurd hc z)
theorem hl_icmp_gt_F (h : hl_C p s m args c cc nL Ts own D tys A) {x y : Int32} {off : Int} (tgt : Nat) (hd : decode cc pc = .ok (.if_icmp .gt off, 3)) (ht : (pc : Int) + off = (tgt : Int)) (hc : ¬ y < x) (kf : hl_X p l e R s m args below meth c nL D A cells slots Q w (pc + 3) ls st) : hl_X p l e R s m args below meth c nL D A cells slots Q w pc ls (.int y :: .int x :: st) :=
  hl_icmp_gt h tgt hd ht (fun z => absurd z hc) (fun _ => kf)
theorem hl_icmp_le (h : hl_C p s m args c cc nL Ts own D tys A) (tgt : Nat) {x y : Int32} {off : Int} (hd : decode cc pc = .ok (.if_icmp .le off, 3)) (ht : (pc : Int) + off = (tgt : Int)) (kt : (x ≤ y) → hl_X p l e R s m args below meth c nL D A cells slots Q w tgt ls st) (kf : ¬ x ≤ y → hl_X p l e R s m args below meth c nL D A cells slots Q w (pc + 3) ls st) : hl_X p l e R s m args below meth c nL D A cells slots Q w pc ls (.int y :: .int x :: st) :=
  fun H locs la hP hD hS hl => lv_icmp_le h.1 h.2.1 hd ht (fun z => kt z H locs la hP hD hS hl) (fun z => kf z H locs la hP hD hS hl)
theorem hl_icmp_le_T (h : hl_C p s m args c cc nL Ts own D tys A) (tgt : Nat) {x y : Int32} {off : Int} (hd : decode cc pc = .ok (.if_icmp .le off, 3)) (ht : (pc : Int) + off = (tgt : Int)) (hc : (x ≤ y)) (kt : hl_X p l e R s m args below meth c nL D A cells slots Q w tgt ls st) : hl_X p l e R s m args below meth c nL D A cells slots Q w pc ls (.int y :: .int x :: st) :=
  hl_icmp_le h tgt hd ht (fun _ => kt) (fun z => absurd hc z)
theorem hl_icmp_le_F (h : hl_C p s m args c cc nL Ts own D tys A) {x y : Int32} {off : Int} (tgt : Nat) (hd : decode cc pc = .ok (.if_icmp .le off, 3)) (ht : (pc : Int) + off = (tgt : Int)) (hc : ¬ x ≤ y) (kf : hl_X p l e R s m args below meth c nL D A cells slots Q w (pc + 3) ls st) : hl_X p l e R s m args below meth c nL D A cells slots Q w pc ls (.int y :: .int x :: st) :=
  hl_icmp_le h tgt hd ht (fun z => absurd z hc) (fun _ => kf)
theorem hl_tableIn (h : hl_C p s m args c cc nL Ts own D tys A) (tgt : Nat) {dflt lo hi : Int} {offs : Array Int} {len : Nat} {x : Int32} {off : Int} (hd : decode cc pc = .ok (.tableswitch dflt lo hi offs, len)) (h1 : ¬ x.toInt < lo) (h2 : ¬ hi < x.toInt) (ho : offs[(x.toInt - lo).toNat]? = some off) (ht : (pc : Int) + off = (tgt : Int)) (k : hl_X p l e R s m args below meth c nL D A cells slots Q w tgt ls st) : hl_X p l e R s m args below meth c nL D A cells slots Q w pc ls (.int x :: st) :=
  fun H locs la hP hD hS hl => lv_tableIn h.1 h.2.1 hd h1 h2 ho ht (k H locs la hP hD hS hl)
theorem hl_tableOut (h : hl_C p s m args c cc nL Ts own D tys A) (tgt : Nat) {dflt lo hi : Int} {offs : Array Int} {len : Nat} {x : Int32} (hd : decode cc pc = .ok (.tableswitch dflt lo hi offs, len)) (h1 : x.toInt < lo ∨ hi < x.toInt) (ht : (pc : Int) + dflt = (tgt : Int)) (k : hl_X p l e R s m args below meth c nL D A cells slots Q w tgt ls st) : hl_X p l e R s m args below meth c nL D A cells slots Q w pc ls (.int x :: st) :=
  fun H locs la hP hD hS hl => lv_tableOut h.1 h.2.1 hd h1 ht (k H locs la hP hD hS hl)
/-! names for what is computed; fewer locals; another spelling -/
theorem hl_topi {x : Int32} (k : ∀ y : Int32, y = x → hl_X p l e R s m args below meth c nL D A cells slots Q w pc ls (.int y :: st)) : hl_X p l e R s m args below meth c nL D A cells slots Q w pc ls (.int x :: st) := k x rfl
theorem hl_topc {x : Int32} (y : Int32) (he : x = y) (k : hl_X p l e R s m args below meth c nL D A cells slots Q w pc ls (.int y :: st)) : hl_X p l e R s m args below meth c nL D A cells slots Q w pc ls (.int x :: st) := he ▸ k
theorem hl_ls {ls' : List (Nat × Value)} (he : ls = ls') (k : hl_X p l e R s m args below meth c nL D A cells slots Q w pc ls' st) : hl_X p l e R s m args below meth c nL D A cells slots Q w pc ls st := he ▸ k
theorem hl_wd {w' : va_W} (he : w = w') (k : hl_X p l e R s m args below meth c nL D A cells slots Q w' pc ls st) : hl_X p l e R s m args below meth c nL D A cells slots Q w pc ls st := he ▸ k
theorem hl_lsub (ks : List Nat) {ls' : List (Nat × Value)} (he : lv_pick ls ks = ls') (k : hl_X p l e R s m args below meth c nL D A cells slots Q w pc ls' st) : hl_X p l e R s m args below meth c nL D A cells slots Q w pc ls st :=
  fun H locs la hP hD hS hl => k H locs la hP hD hS (lv_sub hl ks he)
theorem hl_wsub (is : List Nat) {w' : va_W} (hn : va_nd is = true) (hs : is.map (fun i => w[i]?) = w'.map some) (k : hl_X p l e R s m args below meth c nL D A cells slots Q w' pc ls st) : hl_X p l e R s m args below meth c nL D A cells slots Q w pc ls st := by
  intro H locs la hP hD hS hl
  refine k H locs la (fun j q hj => ?_) (hD.sub is hn hs) hS hl
  have h1 : (is.map (fun i => w[i]?))[j]? = some (some q) := by rw [hs, List.getElem?_map, hj]; rfl
  rw [List.getElem?_map] at h1
  cases hi : is[j]? with
  | none => rw [hi] at h1; cases h1
  | some i => rw [hi] at h1; exact hP i q (Option.some.inj h1)
theorem hl_widen (k n : Nat) (h1 : cells ≤ k) (h2 : slots ≤ n) (kk : hl_X p l e R s m args below meth c nL D A k n Q w pc ls st) : hl_X p l e R s m args below meth c nL D A cells slots Q w pc ls st :=
  fun H locs la hP hD hS hl => W.widen h1 h2 (kk H locs la hP hD hS hl)
/-! fields, arrays -/
theorem hl_get (h : hl_C p s m args c cc nL Ts own D tys A) {C : String} {T : u_T} {N : Nat} (hin : ∀ z ∈ u_ws C T N, z ∈ Ts) {q0 a ci : Nat} {fs : List Value} (he : w[q0]? = some (a, .inr (ci, fs))) (hc : vwCl[ci]? = some (C, T, N)) (k : Nat) {v : Value} (hv : fs[k]? = some v) {index : Nat} (hd : decode cc pc = .ok (.getfield index, 3)) (hk : k < N) (hlink : Cond.fieldLink own index (T k).1 (T k).2.1 (T k).2.2.1 ∈ Ts) (kk : hl_X p l e R s m args below meth c nL D A cells slots Q w (pc + 3) ls (v :: st)) : hl_X p l e R s m args below meth c nL D A cells slots Q w pc ls (.ref a :: st) :=
  fun H locs la hP hD hS hl => va_get h.1 h.2.1 h.2.2.2.2.1 hin h.2.2.2.1 h.2.2.2.2.2.1 hP q0 he hc k hk (h.2.2.2.2.1 _ hlink) (fun _ h9 => h9) hv hd (kk H locs la hP hD hS hl)
theorem hl_put (h : hl_C p s m args c cc nL Ts own D tys A) {C : String} {T : u_T} {N : Nat} (hin : ∀ z ∈ u_ws C T N, z ∈ Ts) {ty0 : Nat → FieldType} (hty : ∀ k, k < N → parseFieldDescriptor (T k).2.2.1 = some (ty0 k)) (hnm : ∀ a, a < N → ∀ b, b < N → a ≠ b → (T a).2.1 ≠ (T b).2.1) {q0 a ci : Nat} {fs : List Value} (he : w[q0]? = some (a, .inr (ci, fs))) (hc : vwCl[ci]? = some (C, T, N)) (k : Nat) {v : Value} {index : Nat} (hd : decode cc pc = .ok (.putfield index, 3)) (hk : k < N) (hlink : Cond.fieldLink own index (T k).1 (T k).2.1 (T k).2.2.1 ∈ Ts) (hfin : (T k).2.2.2 = false) (hn : narrow (ty0 k) v = v) (hfit : fits (ty0 k) v = true) (hl0 : k < fs.length) {w' : va_W} (hw : w.set q0 (a, .inr (ci, fs.set k v)) = w') (kk : hl_X p l e R s m args below meth c nL D A cells slots Q w' (pc + 3) ls st) : hl_X p l e R s m args below meth c nL D A cells slots Q w pc ls (v :: .ref a :: st) :=
  fun H locs la hP hD hS hl => va_put h.1 h.2.1 h.2.2.2.2.1 hin ty0 hty hnm h.2.2.2.1 h.2.2.2.2.2.1 hP hD hS q0 he hc k hk (h.2.2.2.2.1 _ hlink) (fun _ h9 => h9) hfin (hty k hk) hn hfit hl0 hd (fun H1 locs1 hP1 hD1 hS1 => kk H1 locs1 la (hw ▸ hP1) (hw ▸ hD1) hS1 hl)
theorem hl_putF (h : hl_C p s m args c cc nL Ts own D tys A) {C : String} {T : u_T} {N : Nat} (hin : ∀ z ∈ u_ws C T N, z ∈ Ts) {ty0 : Nat → FieldType} (hty : ∀ k, k < N → parseFieldDescriptor (T k).2.2.1 = some (ty0 k)) (hnm : ∀ a, a < N → ∀ b, b < N → a ≠ b → (T a).2.1 ≠ (T b).2.1) {q0 a ci : Nat} {fs : List Value} (he : w[q0]? = some (a, .inr (ci, fs))) (hc : vwCl[ci]? = some (C, T, N)) (k : Nat) {v : Value} {index : Nat} (hd : decode cc pc = .ok (.putfield index, 3)) (hk : k < N) (hlink : Cond.fieldLink own index (T k).1 (T k).2.1 (T k).2.2.1 ∈ Ts) (hfin : (T k).2.2.2 = true) (hin2 : meth.name = "<init>") (hdecl : (T k).1 = own) (hn : narrow (ty0 k) v = v) (hfit : fits (ty0 k) v = true) (hl0 : k < fs.length) {w' : va_W} (hw : w.set q0 (a, .inr (ci, fs.set k v)) = w') (kk : hl_X p l e R s m args below meth c nL D A cells slots Q w' (pc + 3) ls st) : hl_X p l e R s m args below meth c nL D A cells slots Q w pc ls (v :: .ref a :: st) :=
  fun H locs la hP hD hS hl => va_putF h.1 h.2.1 h.2.2.2.2.1 hin ty0 hty hnm h.2.2.2.1 h.2.2.2.2.2.1 hP hD hS q0 he hc k hk (h.2.2.2.2.1 _ hlink) (fun _ h9 => h9) hfin hin2 hdecl (hty k hk) hn hfit hl0 hd (fun H1 locs1 hP1 hD1 hS1 => kk H1 locs1 la (hw ▸ hP1) (hw ▸ hD1) hS1 hl)
theorem hl_ild (h : hl_C p s m args c cc nL Ts own D tys A) {q0 a : Nat} {cA : ClassId} {n : Nat} {f : Nat → Int32} (he : w[q0]? = some (a, .inl (cA, n, .inl f))) (t0 : Nat) (ht : tys[t0]? = some (cA, .int)) {i : Int32} (hd : decode cc pc = .ok (.iaload, 1)) (hin : vp_in i n) (kk : hl_X p l e R s m args below meth c nL D A cells slots Q w (pc + 1) ls (.int (f i.toNatClampNeg) :: st)) : hl_X p l e R s m args below meth c nL D A cells slots Q w pc ls (.int i :: .ref a :: st) :=
  fun H locs la hP hD hS hl => va_iald h.1 h.2.1 h.2.2.2.2.2.1 hP q0 t0 he ht hin hd (kk H locs la hP hD hS hl)
theorem hl_ildN (h : hl_C p s m args c cc nL Ts own D tys A) {q0 a : Nat} {cA : ClassId} {n : Nat} {f : Nat → Int32} (he : w[q0]? = some (a, .inl (cA, n, .inl f))) (t0 : Nat) (ht : tys[t0]? = some (cA, .int)) {i : Int32} (j : Nat) (hd : decode cc pc = .ok (.iaload, 1)) (hi : i = nI j) (hj : j < n) (hn : n < 2 ^ 31) (kk : hl_X p l e R s m args below meth c nL D A cells slots Q w (pc + 1) ls (.int (f j) :: st)) : hl_X p l e R s m args below meth c nL D A cells slots Q w pc ls (.int i :: .ref a :: st) := by
  subst hi
  intro H locs la hP hD hS hl
  refine va_iald h.1 h.2.1 h.2.2.2.2.2.1 hP q0 t0 he ht (vp_in_nI hj hn) hd ?_
  rw [nI_clamp (by omega)]
  exact kk H locs la hP hD hS hl
theorem hl_zld (h : hl_C p s m args c cc nL Ts own D tys A) {q0 a : Nat} {cA : ClassId} {n : Nat} {f : Nat → Int32} (he : w[q0]? = some (a, .inl (cA, n, .inl f))) (t0 : Nat) (ht : tys[t0]? = some (cA, .boolean)) {i : Int32} (hd : decode cc pc = .ok (.baload, 1)) (hin : vp_in i n) (kk : hl_X p l e R s m args below meth c nL D A cells slots Q w (pc + 1) ls (.int (f i.toNatClampNeg) :: st)) : hl_X p l e R s m args below meth c nL D A cells slots Q w pc ls (.int i :: .ref a :: st) :=
  fun H locs la hP hD hS hl => va_zald h.1 h.2.1 h.2.2.2.2.2.1 hP q0 t0 he ht hin hd (kk H locs la hP hD hS hl)
theorem hl_zldN (h : hl_C p s m args c cc nL Ts own D tys A) {q0 a : Nat} {cA : ClassId} {n : Nat} {f : Nat → Int32} (he : w[q0]? = some (a, .inl (cA, n, .inl f))) (t0 : Nat) (ht : tys[t0]? = some (cA, .boolean)) {i : Int32} (j : Nat) (hd : decode cc pc = .ok (.baload, 1)) (hi : i = nI j) (hj : j < n) (hn : n < 2 ^ 31) (kk : hl_X p l e R s m args below meth c nL D A cells slots Q w (pc + 1) ls (.int (f j) :: st)) : hl_X p l e R s m args below meth c nL D A cells slots Q w pc ls (.int i :: .ref a :: st) := by
  subst hi
  intro H locs la hP hD hS hl
  refine va_zald h.1 h.2.1 h.2.2.2.2.2.1 hP q0 t0 he ht (vp_in_nI hj hn) hd ?_
  rw [nI_clamp (by omega)]
  exact kk H locs la hP hD hS hl
theorem hl_jld (h : hl_C p s m args c cc nL Ts own D tys A) {q0 a : Nat} {cA : ClassId} {n : Nat} {f : Nat → Int64} (he : w[q0]? = some (a, .inl (cA, n, .inr (.inl f)))) (t0 : Nat) (ht : tys[t0]? = some (cA, .long)) {i : Int32} (hd : decode cc pc = .ok (.laload, 1)) (hin : vp_in i n) (kk : hl_X p l e R s m args below meth c nL D A cells slots Q w (pc + 1) ls (.long (f i.toNatClampNeg) :: st)) : hl_X p l e R s m args below meth c nL D A cells slots Q w pc ls (.int i :: .ref a :: st) :=
  fun H locs la hP hD hS hl => va_lald h.1 h.2.1 h.2.2.2.2.2.1 hP q0 t0 he ht hin hd (kk H locs la hP hD hS hl)
theorem hl_ist (h : hl_C p s m args c cc nL Ts own D tys A) {q0 a : Nat} {cA : ClassId} {n : Nat} {f : Nat → Int32} (he : w[q0]? = some (a, .inl (cA, n, .inl f))) (t0 : Nat) (ht : tys[t0]? = some (cA, .int)) {i x : Int32} (hd : decode cc pc = .ok (.iastore, 1)) (hin : vp_in i n) {w' : va_W} (hw : w.set q0 (a, .inl (cA, n, .inl (upd f i.toNatClampNeg x))) = w') (kk : hl_X p l e R s m args below meth c nL D A cells slots Q w' (pc + 1) ls st) : hl_X p l e R s m args below meth c nL D A cells slots Q w pc ls (.int x :: .int i :: .ref a :: st) :=
  fun H locs la hP hD hS hl => va_iast h.1 h.2.1 h.2.2.2.2.2.1 hP hD hS q0 t0 he ht hin hd (fun H1 locs1 hP1 hD1 hS1 => kk H1 locs1 la (hw ▸ hP1) (hw ▸ hD1) hS1 hl)
theorem hl_istN (h : hl_C p s m args c cc nL Ts own D tys A) {q0 a : Nat} {cA : ClassId} {n : Nat} {f : Nat → Int32} (he : w[q0]? = some (a, .inl (cA, n, .inl f))) (t0 : Nat) (ht : tys[t0]? = some (cA, .int)) {i x : Int32} (j : Nat) (hd : decode cc pc = .ok (.iastore, 1)) (hi : i = nI j) (hj : j < n) (hn : n < 2 ^ 31) {w' : va_W} (hw : w.set q0 (a, .inl (cA, n, .inl (upd f j x))) = w') (kk : hl_X p l e R s m args below meth c nL D A cells slots Q w' (pc + 1) ls st) : hl_X p l e R s m args below meth c nL D A cells slots Q w pc ls (.int x :: .int i :: .ref a :: st) := by
  subst hi
  refine hl_ist h he t0 ht hd (vp_in_nI hj hn) (w' := w') ?_ kk
  rw [nI_clamp (by omega)]
  exact hw
theorem hl_zst (h : hl_C p s m args c cc nL Ts own D tys A) {q0 a : Nat} {cA : ClassId} {n : Nat} {f : Nat → Int32} (he : w[q0]? = some (a, .inl (cA, n, .inl f))) (t0 : Nat) (ht : tys[t0]? = some (cA, .boolean)) {i x : Int32} (hd : decode cc pc = .ok (.bastore, 1)) (hin : vp_in i n) {w' : va_W} (hw : w.set q0 (a, .inl (cA, n, .inl (upd f i.toNatClampNeg (vp_nar .boolean x)))) = w') (kk : hl_X p l e R s m args below meth c nL D A cells slots Q w' (pc + 1) ls st) : hl_X p l e R s m args below meth c nL D A cells slots Q w pc ls (.int x :: .int i :: .ref a :: st) :=
  fun H locs la hP hD hS hl => va_zast h.1 h.2.1 h.2.2.2.2.2.1 hP hD hS q0 t0 he ht hin hd (fun H1 locs1 hP1 hD1 hS1 => kk H1 locs1 la (hw ▸ hP1) (hw ▸ hD1) hS1 hl)
theorem hl_jst (h : hl_C p s m args c cc nL Ts own D tys A) {q0 a : Nat} {cA : ClassId} {n : Nat} {f : Nat → Int64} (he : w[q0]? = some (a, .inl (cA, n, .inr (.inl f)))) (t0 : Nat) (ht : tys[t0]? = some (cA, .long)) {i : Int32} {x : Int64} (hd : decode cc pc = .ok (.lastore, 1)) (hin : vp_in i n) {w' : va_W} (hw : w.set q0 (a, .inl (cA, n, .inr (.inl (vp_updL f i.toNatClampNeg x)))) = w') (kk : hl_X p l e R s m args below meth c nL D A cells slots Q w' (pc + 1) ls st) : hl_X p l e R s m args below meth c nL D A cells slots Q w pc ls (.long x :: .int i :: .ref a :: st) :=
  fun H locs la hP hD hS hl => va_last h.1 h.2.1 h.2.2.2.2.2.1 hP hD hS q0 t0 he ht hin hd (fun H1 locs1 hP1 hD1 hS1 => kk H1 locs1 la (hw ▸ hP1) (hw ▸ hD1) hS1 hl)
/-! what is made -/
theorem hl_same {U : State} {cA cB : ClassId} {ty : FieldType} (h0 : ∀ n, ty ≠ .object n) (h1 : va_RA U cA ty) (h2 : va_RA U cB ty) : cA = cB := by
  cases ty with
  | object C => exact absurd rfl (h0 C)
  | _ => exact Option.some.inj (Eq.trans (Eq.symm h1) h2)
theorem hl_newa (h : hl_C p s m args c cc nL Ts own D tys A) {atype : ArrayType} {ty : FieldType} (harr : Cond.arrayClass (newarray.typeOf atype) ∈ Ts) (hty : newarray.typeOf atype = ty) (h0 : ∀ n, ty ≠ .object n) {cA : ClassId} (t0 : Nat) (ht : tys[t0]? = some (cA, ty)) {n : Int32} {N' : Nat} {a0 : vp_A} (hd : decode cc pc = .ok (.newarray atype, 2)) (ha : ∀ cA : ClassId, vp_cell cA a0 = arrV cA N' (fun _ => defaultValue ty)) (hn : ¬ n < 0) (hN : n.toNatClampNeg = N') (hbytes : N' * componentBytes ty ≤ 536870912) (hcells : cells + 1 ≤ R.cells) (hslots : slots + N' ≤ R.slots)
    (kk : ∀ q : Nat, hl_X p l e R s m args below meth c nL D A (cells + 1) (slots + N') Q (w ++ [(q, .inl (cA, a0))]) (pc + 2) ls (.ref q :: st)) : hl_X p l e R s m args below meth c nL D A cells slots Q w pc ls (.int n :: st) := by
  intro H locs la hP hD hS hl
  refine va_newa h.1 h.2.1 (h.2.2.2.2.1 _ harr) hty h.2.2.2.2.2.1 hP hD hS h.2.2.2.2.2.2 ha hn hN hbytes hcells hslots hd (fun q cB H1 hK1 hP1 hD1 hS1 => ?_)
  have e1 : cB = cA := hl_same h0 (hK1.2 tys.length (cB, ty) (by simp)).2 (h.2.2.2.2.2.1.2 t0 _ ht).2
  subst e1
  exact kk q H1 locs la hP1 hD1 hS1 hl
theorem hl_new (h : hl_C p s m args c cc nL Ts own D tys A) {C : String} {T : u_T} {N index : Nat} (hin : ∀ z ∈ u_ws C T N, z ∈ Ts) {ty : Nat → FieldType} (hty : ∀ k, k < N → parseFieldDescriptor (T k).2.2.1 = some (ty k)) {ci : Nat} (hc : vwCl[ci]? = some (C, T, N)) (hd : decode cc pc = .ok (.new index, 3)) (hcl : Cond.classLink own index C ∈ Ts) (hinst : Cond.instantiable C N ∈ Ts) (hini : Cond.initialized C ∈ Ts) (fs : List Value) (hfs : ∀ j, j < N → defaultValue (ty j) = vp_V fs j) (hcells : cells + 1 ≤ R.cells) (hslots : slots + N ≤ R.slots)
    (kk : ∀ q : Nat, hl_X p l e R s m args below meth c nL D A (cells + 1) (slots + N) Q (w ++ [(q, .inr (ci, fs))]) (pc + 3) ls (.ref q :: st)) : hl_X p l e R s m args below meth c nL D A cells slots Q w pc ls st :=
  fun H locs la hP hD hS hl => va_new h.1 h.2.1 h.2.2.2.2.1 hin ty hty h.2.2.2.1 (h.2.2.2.2.1 _ hcl) (h.2.2.2.2.1 _ hinst) (h.2.2.2.2.1 _ hini) h.2.2.2.2.2.1 hP hD hS h.2.2.2.2.2.2 hc hfs hcells hslots hd (fun q H1 hP1 hD1 hS1 => kk q H1 locs la hP1 hD1 hS1 hl)
theorem hl_objInit (h : hl_C p s m args c cc nL Ts own D tys A) {idx a : Nat} (hlink : Cond.methodLink own idx Lib.objectInit ∈ Ts) (hinst : Cond.instanceMethod Lib.objectInit ∈ Ts) (hcode : Cond.code Lib.objectInit ⟨#[0xb1]⟩ 1 none ∈ Ts) (hd : decode cc pc = .ok (.invokespecial idx, 3)) (hframes : 1 ≤ R.frames) (hlocals : (st.map fun v => v.category).sum + 12 ≤ R.locals) (k : hl_X p l e R s m args below meth c nL D A cells slots Q w (pc + 3) ls st) : hl_X p l e R s m args below meth c nL D A cells slots Q w pc ls (.ref a :: st) := by
  intro H locs la hP hD hS hl
  refine W.objInit h.1 h.2.1 h.2.2.2.1 (h.2.2.2.2.1 _ hlink) (h.2.2.2.2.1 _ hinst) (h.2.2.2.2.1 _ hcode) rfl (by rw [h.2.2.1]; exact hl.1) rfl hd hframes (by show 2 * 0 + _ + 12 ≤ _; omega) ?_
  exact W.eq (g2 := F0 m (pc + 3) la st) rfl (k H locs la hP hD hS hl)
/-! Math -/
theorem hl_max (h : hl_C p s m args c cc nL Ts own D tys A) {index : Nat} {x y : Int32} (hd : decode cc pc = .ok (.invokestatic index, 3)) (hlink : Cond.methodLink own index Lib.Math.max.name ∈ Ts) (hstat : Cond.static Lib.Math.max.name ∈ Ts) (hini : Cond.initialized "java/lang/Math" ∈ Ts) (hcode : Cond.code Lib.Math.max.name Lib.Math.max.code 2 (some .int) ∈ Ts) (hframes : 1 ≤ R.frames) (hlocals : (st.map fun v => v.category).sum + 13 ≤ R.locals) (hc : cells ≤ R.cells) (hs : slots ≤ R.slots) (kk : hl_X p l e R s m args below meth c nL D A cells slots Q w (pc + 3) ls (.int (if x < y then y else x) :: st)) : hl_X p l e R s m args below meth c nL D A cells slots Q w pc ls (.int y :: .int x :: st) :=
  fun H locs la hP hD hS hl => va_mmax h.1 h.2.1 (h.2.2.1.trans hl.1.symm) h.2.2.2.1 (h.2.2.2.2.1 _ hlink) (h.2.2.2.2.1 _ hstat) (h.2.2.2.2.1 _ hini) (h.2.2.2.2.1 _ hcode) hframes hlocals hc hs hd (kk H locs la hP hD hS hl)
theorem hl_min (h : hl_C p s m args c cc nL Ts own D tys A) {index : Nat} {x y : Int32} (hd : decode cc pc = .ok (.invokestatic index, 3)) (hlink : Cond.methodLink own index Lib.Math.min.name ∈ Ts) (hstat : Cond.static Lib.Math.min.name ∈ Ts) (hini : Cond.initialized "java/lang/Math" ∈ Ts) (hcode : Cond.code Lib.Math.min.name Lib.Math.min.code 2 (some .int) ∈ Ts) (hframes : 1 ≤ R.frames) (hlocals : (st.map fun v => v.category).sum + 13 ≤ R.locals) (hc : cells ≤ R.cells) (hs : slots ≤ R.slots) (kk : hl_X p l e R s m args below meth c nL D A cells slots Q w (pc + 3) ls (.int (if y < x then y else x) :: st)) : hl_X p l e R s m args below meth c nL D A cells slots Q w pc ls (.int y :: .int x :: st) :=
  fun H locs la hP hD hS hl => va_mmin h.1 h.2.1 (h.2.2.1.trans hl.1.symm) h.2.2.2.1 (h.2.2.2.2.1 _ hlink) (h.2.2.2.2.1 _ hstat) (h.2.2.2.2.1 _ hini) (h.2.2.2.2.1 _ hcode) hframes hlocals hc hs hd (kk H locs la hP hD hS hl)
theorem hl_abs (h : hl_C p s m args c cc nL Ts own D tys A) {index : Nat} {x : Int32} (hd : decode cc pc = .ok (.invokestatic index, 3)) (hlink : Cond.methodLink own index Lib.Math.abs.name ∈ Ts) (hstat : Cond.static Lib.Math.abs.name ∈ Ts) (hini : Cond.initialized "java/lang/Math" ∈ Ts) (hcode : Cond.code Lib.Math.abs.name Lib.Math.abs.code 1 (some .int) ∈ Ts) (hframes : 1 ≤ R.frames) (hlocals : (st.map fun v => v.category).sum + 13 ≤ R.locals) (hc : cells ≤ R.cells) (hs : slots ≤ R.slots) (kk : hl_X p l e R s m args below meth c nL D A cells slots Q w (pc + 3) ls (.int (if 0 ≤ x then x else 0 - x) :: st)) : hl_X p l e R s m args below meth c nL D A cells slots Q w pc ls (.int x :: st) :=
  fun H locs la hP hD hS hl => va_mabs h.1 h.2.1 (h.2.2.1.trans hl.1.symm) h.2.2.2.1 (h.2.2.2.2.1 _ hlink) (h.2.2.2.2.1 _ hstat) (h.2.2.2.2.1 _ hini) (h.2.2.2.2.1 _ hcode) hframes hlocals hc hs hd (kk H locs la hP hD hS hl)
end HLR
/-! CONTRACTS. hl_KI: a method that returns an int (or a boolean); hl_KV: nothing; P says of the answer and of the world behind it -/
def hl_Pre (D : va_G) (tys : List (ClassId × FieldType)) (w0 : va_W) (sz : Nat) (U : State) : Prop := U.heap.size = sz ∧ va_P D vwCl w0 U.heap ∧ va_K D vwCl tys U ∧ va_D (fun _ => True) w0
def hl_B (D : va_G) (tys : List (ClassId × FieldType)) (w0 : va_W) (sz : Nat) (w1 : va_W) (t : State) : Prop := va_P D vwCl w1 t.heap ∧ va_K D vwCl tys t ∧ va_D (va_A w0 sz) w1
def hl_QI (D : va_G) (tys : List (ClassId × FieldType)) (w0 : va_W) (P : Int32 → va_W → Prop) (sz : Nat) : Array Value → State → Outcome → State → Prop := va_Qi P (hl_B D tys w0 sz) (va_A w0 sz)
def hl_QV (D : va_G) (tys : List (ClassId × FieldType)) (w0 : va_W) (P : va_W → Prop) (sz : Nat) : Array Value → State → Outcome → State → Prop := va_Qv P (hl_B D tys w0 sz) (va_A w0 sz)
def hl_KI (D : va_G) (tys : List (ClassId × FieldType)) (l : Launch) (y : MethodName) (ws : List Cond) (rm : Room) (mc ms : Nat) (av : List Value) (w0 : va_W) (P : Int32 → va_W → Prop) : Prop :=
  ∀ sz : Nat, Met l y ws rm (va_Pc av (hl_Pre D tys w0 sz)) (hl_QI D tys w0 P sz) mc ms (va_A w0 sz)
def hl_KV (D : va_G) (tys : List (ClassId × FieldType)) (l : Launch) (y : MethodName) (ws : List Cond) (rm : Room) (mc ms : Nat) (av : List Value) (w0 : va_W) (P : va_W → Prop) : Prop :=
  ∀ sz : Nat, Met l y ws rm (va_Pc av (hl_Pre D tys w0 sz)) (hl_QV D tys w0 P sz) mc ms (va_A w0 sz)
theorem hl_blind (D : va_G) (tys : List (ClassId × FieldType)) (w0 : va_W) (sz : Nat) (av : List Value) : FrameBlind (va_Pc av (hl_Pre D tys w0 sz)) := fun a U g mk q => by
  obtain ⟨q0, q1, qP, qK, qD⟩ := q
  exact ⟨q0, q1, qP, va_K.moved (u := U) (U := U.calling g mk a) (Vm.Alike.refl U.vm) qK, qD⟩
section HLK
variable {p : Program} {l : Launch} {e : Env} {R : Room} {s : State} {m : MethodId} {args : Array Value} {below : List Frame} {meth : Method} {c : Code}
variable {cc : ByteArray} {nL : Nat} {Ts : List Cond} {own : String} {D : va_G} {tys : List (ClassId × FieldType)} {A : Nat → Prop} {cells slots : Nat} {Q : State → Prop} {w : va_W} {pc : Nat} {ls : List (Nat × Value)} {st : List Value}
/-- the body of a method, as a goal in these words -/
theorem hl_KI_of {y : MethodName} {ws ws' : List Cond} {rm : Room} {mc ms : Nat} {av : List Value} {w0 : va_W} {P : Int32 → va_W → Prop} {maxL : Nat} {ret : Option FieldType} (ty : FieldType) (hret : ret = some ty) (hnar : ∀ v : Int32, ty = .boolean ∨ narrow ty (.int v) = .int v) (hy : plainName y.cls = true) (hw : ws = Cond.code y cc maxL ret :: ws') (hvs : (lg_sl av).length ≤ maxL)
    (body : ∀ (p : Program) (e : Env) (s : State) (m : MethodId) (args : Array Value) (below : List Frame) (meth : Method) (c : Code) (A : Nat → Prop) (Q : State → Prop), hl_C p s m args c cc maxL ws y.cls D tys A →
      (∀ {v : Int32} {w : va_W} {pc : Nat} {ls : List (Nat × Value)}, decode cc pc = .ok (.ireturn, 1) → (ty = .boolean → v = 0 ∨ v = 1) → P v w → hl_X p l e rm s m args below meth c maxL D A mc ms Q w pc ls [.int v]) →
      hl_X p l e rm s m args below meth c maxL D A 0 0 Q w0 0 (lv_args 0 av) []) : hl_KI D tys l y ws rm mc ms av w0 P := by
  subst hret
  intro sz
  refine Met.ofW (cc := cc) (maxL := maxL) (ret := some ty) hy hw ?_
  intro p e s m args below meth c s₁ B hml hv
  obtain ⟨rfl, hsz, hP, hK, hD0⟩ := hv
  have hr := B.returns
  have hlocks := B.notSynchronized
  subst hsz
  rw [lg_entry_eq]
  refine body p e s m av.toArray below meth c (va_A w0 s.heap.size) _ ⟨B.exec, B.bytes, hml, findClass_of_methodNamed B.named, atoms_spec (ws := ws) B.pre, hK, fun q h => Or.inr h⟩ ?_ s.heap [] _ hP hD0.self va_S.rf (lv_entry av hvs)
  intro v w pc ls hd hb hp H locs la hP1 hD1 hS1 hl1
  refine W.zret (v := v) B.exec B.bytes hr ?_ (fun t ht hW => ⟨⟨v, w, rfl, hp, by rw [ht]; exact hP1, va_K.moved hW.alike hK, hD1⟩, hS1.F ht⟩) hS1.2.2 hd hlocks
  rcases hnar v with h9 | h9
  · subst h9
    rcases hb rfl with rfl | rfl <;> rfl
  · exact h9
theorem hl_KV_of {y : MethodName} {ws ws' : List Cond} {rm : Room} {mc ms : Nat} {av : List Value} {w0 : va_W} {P : va_W → Prop} {maxL : Nat} (hy : plainName y.cls = true) (hw : ws = Cond.code y cc maxL none :: ws') (hvs : (lg_sl av).length ≤ maxL)
    (body : ∀ (p : Program) (e : Env) (s : State) (m : MethodId) (args : Array Value) (below : List Frame) (meth : Method) (c : Code) (A : Nat → Prop) (Q : State → Prop), hl_C p s m args c cc maxL ws y.cls D tys A → meth.name = y.name →
      (∀ {w : va_W} {pc : Nat} {ls : List (Nat × Value)}, decode cc pc = .ok (.return_, 1) → P w → hl_X p l e rm s m args below meth c maxL D A mc ms Q w pc ls []) →
      hl_X p l e rm s m args below meth c maxL D A 0 0 Q w0 0 (lv_args 0 av) []) : hl_KV D tys l y ws rm mc ms av w0 P := by
  intro sz
  refine Met.ofW (cc := cc) (maxL := maxL) (ret := none) hy hw ?_
  intro p e s m args below meth c s₁ B hml hv
  obtain ⟨rfl, hsz, hP, hK, hD0⟩ := hv
  have hr := B.returns
  have hlocks := B.notSynchronized
  have hnm : meth.name = y.name := (name_of_methodNamed B.named B.method).1
  subst hsz
  rw [lg_entry_eq]
  refine body p e s m av.toArray below meth c (va_A w0 s.heap.size) _ ⟨B.exec, B.bytes, hml, findClass_of_methodNamed B.named, atoms_spec (ws := ws) B.pre, hK, fun q h => Or.inr h⟩ hnm ?_ s.heap [] _ hP hD0.self va_S.rf (lv_entry av hvs)
  intro w pc ls hd hp H locs la hP1 hD1 hS1 hl1
  exact W.vret B.exec B.bytes hr (fun t ht hW => ⟨⟨w, rfl, hp, by rw [ht]; exact hP1, va_K.moved hW.alike hK, hD1⟩, hS1.F ht⟩) hS1.2.2 hd hlocks
theorem hl_fr {H : Heap} {locs : List Loc} (h : hl_C p s m args c cc nL Ts own D tys A) (hD : va_D A w) (hS : va_S A s.heap H locs) : ∀ q : Nat, va_A w H.size q → A q := fun q hq => by
  rcases hq with ⟨k, z, hk⟩ | hq
  · exact hD.2 k _ hk
  · exact h.2.2.2.2.2.2 q (Nat.le_trans hS.1 hq)
/-- how a caller gives the callee its start: the same world -/
theorem hl_pre {H : Heap} (h : hl_C p s m args c cc nL Ts own D tys A) (hP : va_P D vwCl w H) (hD : va_D A w) (av : List Value) : ∀ U : State, U.heap = H → s.WarmedH U.vm → va_Pc av (hl_Pre D tys w H.size) av.toArray U :=
  fun U hU hW => ⟨rfl, by rw [hU], by rw [hU]; exact hP, va_K.moved hW.alike h.2.2.2.2.2.1, hD.weaken (fun _ _ _ _ => trivial)⟩
theorem hl_callVi (h : hl_C p s m args c cc nL Ts own D tys A) {C : String} {y : MethodName} {bytes : ByteArray} {maxL mc ms n index b : Nat} {ret : Option FieldType} {ws : List Cond} {rm : Room} {As : List Value} {P : Int32 → va_W → Prop} (hM : hl_KI D tys l y ws rm mc ms (.ref b :: As) w P) (cw : CallW R s args own C index y bytes maxL ret ws rm mc ms n) {q0 ci : Nat} {fs : List Value} {T : u_T} {N : Nat} (he : w[q0]? = some (b, .inr (ci, fs))) (hc : vwCl[ci]? = some (C, T, N)) (hd : decode cc pc = .ok (.invokevirtual index, 3)) (hn : As.length = n) (hW : (st.map fun v => v.category).sum ≤ 8) (hf : cells + mc ≤ R.cells ∧ slots + ms ≤ R.slots) {st0 : List Value} (hst : st0 = (As.reverse ++ .ref b :: st)) (kk : ∀ (r : Int32) (w1 : va_W), P r w1 → hl_X p l e R s m args below meth c nL D A (cells + mc) (slots + ms) Q w1 (pc + 3) ls (.int r :: st)) : hl_X p l e R s m args below meth c nL D A cells slots Q w pc ls st0 := by
  subst hst
  intro H locs la hP hD hS hl
  have hF := hl_fr h hD hS
  refine va_calli (va_runV (As := As) (rest := st) ⟨h.1, h.2.1, h.2.2.1, h.2.2.2.1, h.2.2.2.2.1⟩ (hM H.size) cw ⟨hl_blind D tys w H.size _, va_recv h.2.2.2.2.2.1 hP hc he, hl_pre h hP hD _⟩ rfl hn hl.1 rfl (lv_room hW) hd hf) hS (fun q _ h9 => hF q h9) hF (fun r u t H1 locs1 ht hvm hw hB hz hk hS1 => ?_)
  obtain ⟨hP1, hK1, hD1⟩ := hB
  rw [ht] at hP1
  exact kk r u hw H1 locs1 la hP1 (hD1.weaken (fun k q _ h9 => hF q.1 h9)) hS1 hl
theorem hl_callVv (h : hl_C p s m args c cc nL Ts own D tys A) {C : String} {y : MethodName} {bytes : ByteArray} {maxL mc ms n index b : Nat} {ret : Option FieldType} {ws : List Cond} {rm : Room} {As : List Value} {P : va_W → Prop} (hM : hl_KV D tys l y ws rm mc ms (.ref b :: As) w P) (cw : CallW R s args own C index y bytes maxL ret ws rm mc ms n) {q0 ci : Nat} {fs : List Value} {T : u_T} {N : Nat} (he : w[q0]? = some (b, .inr (ci, fs))) (hc : vwCl[ci]? = some (C, T, N)) (hd : decode cc pc = .ok (.invokevirtual index, 3)) (hn : As.length = n) (hW : (st.map fun v => v.category).sum ≤ 8) (hf : cells + mc ≤ R.cells ∧ slots + ms ≤ R.slots) {st0 : List Value} (hst : st0 = (As.reverse ++ .ref b :: st)) (kk : ∀ w1 : va_W, P w1 → hl_X p l e R s m args below meth c nL D A (cells + mc) (slots + ms) Q w1 (pc + 3) ls st) : hl_X p l e R s m args below meth c nL D A cells slots Q w pc ls st0 := by
  subst hst
  intro H locs la hP hD hS hl
  have hF := hl_fr h hD hS
  refine va_callv (va_runV (As := As) (rest := st) ⟨h.1, h.2.1, h.2.2.1, h.2.2.2.1, h.2.2.2.2.1⟩ (hM H.size) cw ⟨hl_blind D tys w H.size _, va_recv h.2.2.2.2.2.1 hP hc he, hl_pre h hP hD _⟩ rfl hn hl.1 rfl (lv_room hW) hd hf) hS (fun q _ h9 => hF q h9) hF (fun u t H1 locs1 ht hvm hw hB hz hk hS1 => ?_)
  obtain ⟨hP1, hK1, hD1⟩ := hB
  rw [ht] at hP1
  exact kk u hw H1 locs1 la hP1 (hD1.weaken (fun k q _ h9 => hF q.1 h9)) hS1 hl
theorem hl_callSi (h : hl_C p s m args c cc nL Ts own D tys A) {y : MethodName} {bytes : ByteArray} {maxL mc ms n index : Nat} {ret : Option FieldType} {ws : List Cond} {rm : Room} {As : List Value} {P : Int32 → va_W → Prop} (hM : hl_KI D tys l y ws rm mc ms As w P) (cw : CallB R s args own index y bytes maxL ret ws rm mc ms n ∧ (Cond.static y).before args s = true) (hd : decode cc pc = .ok (.invokestatic index, 3)) (hn : As.length = n) (hW : (st.map fun v => v.category).sum ≤ 8) (hf : cells + mc ≤ R.cells ∧ slots + ms ≤ R.slots) {st0 : List Value} (hst : st0 = (As.reverse ++ st)) (kk : ∀ (r : Int32) (w1 : va_W), P r w1 → hl_X p l e R s m args below meth c nL D A (cells + mc) (slots + ms) Q w1 (pc + 3) ls (.int r :: st)) : hl_X p l e R s m args below meth c nL D A cells slots Q w pc ls st0 := by
  subst hst
  intro H locs la hP hD hS hl
  have hF := hl_fr h hD hS
  refine va_calli (va_runS (As := As) (rest := st) ⟨h.1, h.2.1, h.2.2.1, h.2.2.2.1, h.2.2.2.2.1⟩ (hM H.size) cw ⟨hl_blind D tys w H.size _, hl_pre h hP hD _⟩ rfl hn hl.1 rfl (lv_room hW) hd hf) hS (fun q _ h9 => hF q h9) hF (fun r u t H1 locs1 ht hvm hw hB hz hk hS1 => ?_)
  obtain ⟨hP1, hK1, hD1⟩ := hB
  rw [ht] at hP1
  exact kk r u hw H1 locs1 la hP1 (hD1.weaken (fun k q _ h9 => hF q.1 h9)) hS1 hl
theorem hl_callSv (h : hl_C p s m args c cc nL Ts own D tys A) {y : MethodName} {bytes : ByteArray} {maxL mc ms n index : Nat} {ret : Option FieldType} {ws : List Cond} {rm : Room} {As : List Value} {P : va_W → Prop} (hM : hl_KV D tys l y ws rm mc ms As w P) (cw : CallB R s args own index y bytes maxL ret ws rm mc ms n ∧ (Cond.static y).before args s = true) (hd : decode cc pc = .ok (.invokestatic index, 3)) (hn : As.length = n) (hW : (st.map fun v => v.category).sum ≤ 8) (hf : cells + mc ≤ R.cells ∧ slots + ms ≤ R.slots) {st0 : List Value} (hst : st0 = (As.reverse ++ st)) (kk : ∀ w1 : va_W, P w1 → hl_X p l e R s m args below meth c nL D A (cells + mc) (slots + ms) Q w1 (pc + 3) ls st) : hl_X p l e R s m args below meth c nL D A cells slots Q w pc ls st0 := by
  subst hst
  intro H locs la hP hD hS hl
  have hF := hl_fr h hD hS
  refine va_callv (va_runS (As := As) (rest := st) ⟨h.1, h.2.1, h.2.2.1, h.2.2.2.1, h.2.2.2.2.1⟩ (hM H.size) cw ⟨hl_blind D tys w H.size _, hl_pre h hP hD _⟩ rfl hn hl.1 rfl (lv_room hW) hd hf) hS (fun q _ h9 => hF q h9) hF (fun u t H1 locs1 ht hvm hw hB hz hk hS1 => ?_)
  obtain ⟨hP1, hK1, hD1⟩ := hB
  rw [ht] at hP1
  exact kk u hw H1 locs1 la hP1 (hD1.weaken (fun k q _ h9 => hF q.1 h9)) hS1 hl
theorem hl_callI (h : hl_C p s m args c cc nL Ts own D tys A) {y : MethodName} {bytes : ByteArray} {maxL mc ms n index b : Nat} {ws : List Cond} {rm : Room} {As : List Value} {P : va_W → Prop} (hM : hl_KV D tys l y ws rm mc ms (.ref b :: As) w P) (cw : CallB R s args own index y bytes maxL none ws rm mc ms n ∧ y.name = "<init>" ∧ (Cond.instanceMethod y).before args s = true) (hd : decode cc pc = .ok (.invokespecial index, 3)) (hn : As.length = n) (hW : (st.map fun v => v.category).sum ≤ 8) (hf : cells + mc ≤ R.cells ∧ slots + ms ≤ R.slots) {st0 : List Value} (hst : st0 = (As.reverse ++ .ref b :: st)) (kk : ∀ w1 : va_W, P w1 → hl_X p l e R s m args below meth c nL D A (cells + mc) (slots + ms) Q w1 (pc + 3) ls st) : hl_X p l e R s m args below meth c nL D A cells slots Q w pc ls st0 := by
  subst hst
  intro H locs la hP hD hS hl
  have hF := hl_fr h hD hS
  refine va_callv (va_runI (As := As) (rest := st) ⟨h.1, h.2.1, h.2.2.1, h.2.2.2.1, h.2.2.2.2.1⟩ (hM H.size) cw ⟨hl_blind D tys w H.size _, hl_pre h hP hD _⟩ rfl hn hl.1 rfl (lv_room hW) hd hf) hS (fun q _ h9 => hF q h9) hF (fun u t H1 locs1 ht hvm hw hB hz hk hS1 => ?_)
  obtain ⟨hP1, hK1, hD1⟩ := hB
  rw [ht] at hP1
  exact kk u hw H1 locs1 la hP1 (hD1.weaken (fun k q _ h9 => hF q.1 h9)) hS1 hl
theorem hl_psub {w' : va_W} {H : Heap} (hP : va_P D vwCl w H) (is : List Nat) (hs : is.map (fun i => w[i]?) = w'.map some) : va_P D vwCl w' H := fun j q hj => by
  have h1 : (is.map (fun i => w[i]?))[j]? = some (some q) := by rw [hs, List.getElem?_map, hj]; rfl
  rw [List.getElem?_map] at h1
  cases hi : is[j]? with
  | none => rw [hi] at h1; cases h1
  | some i => rw [hi] at h1; exact hP i q (Option.some.inj h1)
/-! calls with a part of the world -/
theorem hl_callPVi (h : hl_C p s m args c cc nL Ts own D tys A) {C : String} {y : MethodName} {bytes : ByteArray} {maxL mc ms n index b : Nat} {ret : Option FieldType} {ws : List Cond} {rm : Room} {As : List Value} {P : Int32 → va_W → Prop} {wc wr : va_W} (isC isR : List Nat) (hC : isC.map (fun i => w[i]?) = wc.map some) (hR : isR.map (fun i => w[i]?) = wr.map some) (hnC : va_nd isC = true) (hnR : va_nd isR = true) (hdis : ∀ i ∈ isR, i ∉ isC) (hM : hl_KI D tys l y ws rm mc ms (.ref b :: As) wc P) (cw : CallW R s args own C index y bytes maxL ret ws rm mc ms n) {q0 ci : Nat} {fs : List Value} {T : u_T} {N : Nat} (he : w[q0]? = some (b, .inr (ci, fs))) (hc : vwCl[ci]? = some (C, T, N)) (hd : decode cc pc = .ok (.invokevirtual index, 3)) (hn : As.length = n) (hW : (st.map fun v => v.category).sum ≤ 8) (hf : cells + mc ≤ R.cells ∧ slots + ms ≤ R.slots) {st0 : List Value} (hst : st0 = (As.reverse ++ .ref b :: st)) (kk : ∀ (r : Int32) (w1 : va_W), P r w1 → hl_X p l e R s m args below meth c nL D A (cells + mc) (slots + ms) Q (wr ++ w1) (pc + 3) ls (.int r :: st)) : hl_X p l e R s m args below meth c nL D A cells slots Q w pc ls st0 := by
  subst hst
  intro H locs la hP hD hS hl
  have hDc := hD.sub (ws' := wc) isC hnC hC
  have hPc : va_P D vwCl wc H := hl_psub hP isC hC
  have hF := hl_fr h hDc hS
  refine va_calli (va_runV (As := As) (rest := st) ⟨h.1, h.2.1, h.2.2.1, h.2.2.2.1, h.2.2.2.2.1⟩ (hM H.size) cw ⟨hl_blind D tys wc H.size _, va_recv h.2.2.2.2.2.1 hP hc he, hl_pre h hPc hDc _⟩ rfl hn hl.1 rfl (lv_room hW) hd hf) hS (fun q _ h9 => hF q h9) hF (fun r u t H1 locs1 ht hvm hw hB hz hk hS1 => ?_)
  obtain ⟨hP1, hK1, hD1⟩ := hB
  rw [ht] at hP1
  obtain ⟨hP2, hD2⟩ := va_join hP hD isC isR hC hR hnR hdis hk hF hP1 hD1
  exact kk r u hw H1 locs1 la hP2 hD2 hS1 hl
theorem hl_callPVv (h : hl_C p s m args c cc nL Ts own D tys A) {C : String} {y : MethodName} {bytes : ByteArray} {maxL mc ms n index b : Nat} {ret : Option FieldType} {ws : List Cond} {rm : Room} {As : List Value} {P : va_W → Prop} {wc wr : va_W} (isC isR : List Nat) (hC : isC.map (fun i => w[i]?) = wc.map some) (hR : isR.map (fun i => w[i]?) = wr.map some) (hnC : va_nd isC = true) (hnR : va_nd isR = true) (hdis : ∀ i ∈ isR, i ∉ isC) (hM : hl_KV D tys l y ws rm mc ms (.ref b :: As) wc P) (cw : CallW R s args own C index y bytes maxL ret ws rm mc ms n) {q0 ci : Nat} {fs : List Value} {T : u_T} {N : Nat} (he : w[q0]? = some (b, .inr (ci, fs))) (hc : vwCl[ci]? = some (C, T, N)) (hd : decode cc pc = .ok (.invokevirtual index, 3)) (hn : As.length = n) (hW : (st.map fun v => v.category).sum ≤ 8) (hf : cells + mc ≤ R.cells ∧ slots + ms ≤ R.slots) {st0 : List Value} (hst : st0 = (As.reverse ++ .ref b :: st)) (kk : ∀ w1 : va_W, P w1 → hl_X p l e R s m args below meth c nL D A (cells + mc) (slots + ms) Q (wr ++ w1) (pc + 3) ls st) : hl_X p l e R s m args below meth c nL D A cells slots Q w pc ls st0 := by
  subst hst
  intro H locs la hP hD hS hl
  have hDc := hD.sub (ws' := wc) isC hnC hC
  have hPc : va_P D vwCl wc H := hl_psub hP isC hC
  have hF := hl_fr h hDc hS
  refine va_callv (va_runV (As := As) (rest := st) ⟨h.1, h.2.1, h.2.2.1, h.2.2.2.1, h.2.2.2.2.1⟩ (hM H.size) cw ⟨hl_blind D tys wc H.size _, va_recv h.2.2.2.2.2.1 hP hc he, hl_pre h hPc hDc _⟩ rfl hn hl.1 rfl (lv_room hW) hd hf) hS (fun q _ h9 => hF q h9) hF (fun u t H1 locs1 ht hvm hw hB hz hk hS1 => ?_)
  obtain ⟨hP1, hK1, hD1⟩ := hB
  rw [ht] at hP1
  obtain ⟨hP2, hD2⟩ := va_join hP hD isC isR hC hR hnR hdis hk hF hP1 hD1
  exact kk u hw H1 locs1 la hP2 hD2 hS1 hl
theorem hl_callPSi (h : hl_C p s m args c cc nL Ts own D tys A) {y : MethodName} {bytes : ByteArray} {maxL mc ms n index : Nat} {ret : Option FieldType} {ws : List Cond} {rm : Room} {As : List Value} {P : Int32 → va_W → Prop} {wc wr : va_W} (isC isR : List Nat) (hC : isC.map (fun i => w[i]?) = wc.map some) (hR : isR.map (fun i => w[i]?) = wr.map some) (hnC : va_nd isC = true) (hnR : va_nd isR = true) (hdis : ∀ i ∈ isR, i ∉ isC) (hM : hl_KI D tys l y ws rm mc ms As wc P) (cw : CallB R s args own index y bytes maxL ret ws rm mc ms n ∧ (Cond.static y).before args s = true) (hd : decode cc pc = .ok (.invokestatic index, 3)) (hn : As.length = n) (hW : (st.map fun v => v.category).sum ≤ 8) (hf : cells + mc ≤ R.cells ∧ slots + ms ≤ R.slots) {st0 : List Value} (hst : st0 = (As.reverse ++ st)) (kk : ∀ (r : Int32) (w1 : va_W), P r w1 → hl_X p l e R s m args below meth c nL D A (cells + mc) (slots + ms) Q (wr ++ w1) (pc + 3) ls (.int r :: st)) : hl_X p l e R s m args below meth c nL D A cells slots Q w pc ls st0 := by
  subst hst
  intro H locs la hP hD hS hl
  have hDc := hD.sub (ws' := wc) isC hnC hC
  have hPc : va_P D vwCl wc H := hl_psub hP isC hC
  have hF := hl_fr h hDc hS
  refine va_calli (va_runS (As := As) (rest := st) ⟨h.1, h.2.1, h.2.2.1, h.2.2.2.1, h.2.2.2.2.1⟩ (hM H.size) cw ⟨hl_blind D tys wc H.size _, hl_pre h hPc hDc _⟩ rfl hn hl.1 rfl (lv_room hW) hd hf) hS (fun q _ h9 => hF q h9) hF (fun r u t H1 locs1 ht hvm hw hB hz hk hS1 => ?_)
  obtain ⟨hP1, hK1, hD1⟩ := hB
  rw [ht] at hP1
  obtain ⟨hP2, hD2⟩ := va_join hP hD isC isR hC hR hnR hdis hk hF hP1 hD1
  exact kk r u hw H1 locs1 la hP2 hD2 hS1 hl
theorem hl_callPSv (h : hl_C p s m args c cc nL Ts own D tys A) {y : MethodName} {bytes : ByteArray} {maxL mc ms n index : Nat} {ret : Option FieldType} {ws : List Cond} {rm : Room} {As : List Value} {P : va_W → Prop} {wc wr : va_W} (isC isR : List Nat) (hC : isC.map (fun i => w[i]?) = wc.map some) (hR : isR.map (fun i => w[i]?) = wr.map some) (hnC : va_nd isC = true) (hnR : va_nd isR = true) (hdis : ∀ i ∈ isR, i ∉ isC) (hM : hl_KV D tys l y ws rm mc ms As wc P) (cw : CallB R s args own index y bytes maxL ret ws rm mc ms n ∧ (Cond.static y).before args s = true) (hd : decode cc pc = .ok (.invokestatic index, 3)) (hn : As.length = n) (hW : (st.map fun v => v.category).sum ≤ 8) (hf : cells + mc ≤ R.cells ∧ slots + ms ≤ R.slots) {st0 : List Value} (hst : st0 = (As.reverse ++ st)) (kk : ∀ w1 : va_W, P w1 → hl_X p l e R s m args below meth c nL D A (cells + mc) (slots + ms) Q (wr ++ w1) (pc + 3) ls st) : hl_X p l e R s m args below meth c nL D A cells slots Q w pc ls st0 := by
  subst hst
  intro H locs la hP hD hS hl
  have hDc := hD.sub (ws' := wc) isC hnC hC
  have hPc : va_P D vwCl wc H := hl_psub hP isC hC
  have hF := hl_fr h hDc hS
  refine va_callv (va_runS (As := As) (rest := st) ⟨h.1, h.2.1, h.2.2.1, h.2.2.2.1, h.2.2.2.2.1⟩ (hM H.size) cw ⟨hl_blind D tys wc H.size _, hl_pre h hPc hDc _⟩ rfl hn hl.1 rfl (lv_room hW) hd hf) hS (fun q _ h9 => hF q h9) hF (fun u t H1 locs1 ht hvm hw hB hz hk hS1 => ?_)
  obtain ⟨hP1, hK1, hD1⟩ := hB
  rw [ht] at hP1
  obtain ⟨hP2, hD2⟩ := va_join hP hD isC isR hC hR hnR hdis hk hF hP1 hD1
  exact kk u hw H1 locs1 la hP2 hD2 hS1 hl
theorem hl_callPI (h : hl_C p s m args c cc nL Ts own D tys A) {y : MethodName} {bytes : ByteArray} {maxL mc ms n index b : Nat} {ws : List Cond} {rm : Room} {As : List Value} {P : va_W → Prop} {wc wr : va_W} (isC isR : List Nat) (hC : isC.map (fun i => w[i]?) = wc.map some) (hR : isR.map (fun i => w[i]?) = wr.map some) (hnC : va_nd isC = true) (hnR : va_nd isR = true) (hdis : ∀ i ∈ isR, i ∉ isC) (hM : hl_KV D tys l y ws rm mc ms (.ref b :: As) wc P) (cw : CallB R s args own index y bytes maxL none ws rm mc ms n ∧ y.name = "<init>" ∧ (Cond.instanceMethod y).before args s = true) (hd : decode cc pc = .ok (.invokespecial index, 3)) (hn : As.length = n) (hW : (st.map fun v => v.category).sum ≤ 8) (hf : cells + mc ≤ R.cells ∧ slots + ms ≤ R.slots) {st0 : List Value} (hst : st0 = (As.reverse ++ .ref b :: st)) (kk : ∀ w1 : va_W, P w1 → hl_X p l e R s m args below meth c nL D A (cells + mc) (slots + ms) Q (wr ++ w1) (pc + 3) ls st) : hl_X p l e R s m args below meth c nL D A cells slots Q w pc ls st0 := by
  subst hst
  intro H locs la hP hD hS hl
  have hDc := hD.sub (ws' := wc) isC hnC hC
  have hPc : va_P D vwCl wc H := hl_psub hP isC hC
  have hF := hl_fr h hDc hS
  refine va_callv (va_runI (As := As) (rest := st) ⟨h.1, h.2.1, h.2.2.1, h.2.2.2.1, h.2.2.2.2.1⟩ (hM H.size) cw ⟨hl_blind D tys wc H.size _, hl_pre h hPc hDc _⟩ rfl hn hl.1 rfl (lv_room hW) hd hf) hS (fun q _ h9 => hF q h9) hF (fun u t H1 locs1 ht hvm hw hB hz hk hS1 => ?_)
  obtain ⟨hP1, hK1, hD1⟩ := hB
  rw [ht] at hP1
  obtain ⟨hP2, hD2⟩ := va_join hP hD isC isR hC hR hnR hdis hk hF hP1 hD1
  exact kk u hw H1 locs1 la hP2 hD2 hS1 hl
theorem hl_callViD (h : hl_C p s m args c cc nL Ts own D tys A) {C : String} {y : MethodName} {bytes : ByteArray} {maxL mc ms n index b : Nat} {ret : Option FieldType} {ws : List Cond} {rm : Room} {As : List Value} {rr : Int32} {ww : va_W} (hM : hl_KI D tys l y ws rm mc ms (.ref b :: As) w (fun r w => r = rr ∧ w = ww)) (cw : CallW R s args own C index y bytes maxL ret ws rm mc ms n) {q0 ci : Nat} {fs : List Value} {T : u_T} {N : Nat} (he : w[q0]? = some (b, .inr (ci, fs))) (hc : vwCl[ci]? = some (C, T, N)) (hd : decode cc pc = .ok (.invokevirtual index, 3)) (hn : As.length = n) (hW : (st.map fun v => v.category).sum ≤ 8) (hf : cells + mc ≤ R.cells ∧ slots + ms ≤ R.slots) {st0 : List Value} (hst : st0 = (As.reverse ++ .ref b :: st)) (kk : hl_X p l e R s m args below meth c nL D A (cells + mc) (slots + ms) Q ww (pc + 3) ls (.int rr :: st)) : hl_X p l e R s m args below meth c nL D A cells slots Q w pc ls st0 :=
  hl_callVi h hM cw he hc hd hn hW hf hst (fun r w1 hp => by rw [hp.1, hp.2]; exact kk)
theorem hl_callVvD (h : hl_C p s m args c cc nL Ts own D tys A) {C : String} {y : MethodName} {bytes : ByteArray} {maxL mc ms n index b : Nat} {ret : Option FieldType} {ws : List Cond} {rm : Room} {As : List Value} {ww : va_W} (hM : hl_KV D tys l y ws rm mc ms (.ref b :: As) w (fun w => w = ww)) (cw : CallW R s args own C index y bytes maxL ret ws rm mc ms n) {q0 ci : Nat} {fs : List Value} {T : u_T} {N : Nat} (he : w[q0]? = some (b, .inr (ci, fs))) (hc : vwCl[ci]? = some (C, T, N)) (hd : decode cc pc = .ok (.invokevirtual index, 3)) (hn : As.length = n) (hW : (st.map fun v => v.category).sum ≤ 8) (hf : cells + mc ≤ R.cells ∧ slots + ms ≤ R.slots) {st0 : List Value} (hst : st0 = (As.reverse ++ .ref b :: st)) (kk : hl_X p l e R s m args below meth c nL D A (cells + mc) (slots + ms) Q ww (pc + 3) ls st) : hl_X p l e R s m args below meth c nL D A cells slots Q w pc ls st0 :=
  hl_callVv h hM cw he hc hd hn hW hf hst (fun w1 hp => by rw [hp]; exact kk)
theorem hl_callSiD (h : hl_C p s m args c cc nL Ts own D tys A) {y : MethodName} {bytes : ByteArray} {maxL mc ms n index : Nat} {ret : Option FieldType} {ws : List Cond} {rm : Room} {As : List Value} {rr : Int32} {ww : va_W} (hM : hl_KI D tys l y ws rm mc ms As w (fun r w => r = rr ∧ w = ww)) (cw : CallB R s args own index y bytes maxL ret ws rm mc ms n ∧ (Cond.static y).before args s = true) (hd : decode cc pc = .ok (.invokestatic index, 3)) (hn : As.length = n) (hW : (st.map fun v => v.category).sum ≤ 8) (hf : cells + mc ≤ R.cells ∧ slots + ms ≤ R.slots) {st0 : List Value} (hst : st0 = (As.reverse ++ st)) (kk : hl_X p l e R s m args below meth c nL D A (cells + mc) (slots + ms) Q ww (pc + 3) ls (.int rr :: st)) : hl_X p l e R s m args below meth c nL D A cells slots Q w pc ls st0 :=
  hl_callSi h hM cw hd hn hW hf hst (fun r w1 hp => by rw [hp.1, hp.2]; exact kk)
theorem hl_callSvD (h : hl_C p s m args c cc nL Ts own D tys A) {y : MethodName} {bytes : ByteArray} {maxL mc ms n index : Nat} {ret : Option FieldType} {ws : List Cond} {rm : Room} {As : List Value} {ww : va_W} (hM : hl_KV D tys l y ws rm mc ms As w (fun w => w = ww)) (cw : CallB R s args own index y bytes maxL ret ws rm mc ms n ∧ (Cond.static y).before args s = true) (hd : decode cc pc = .ok (.invokestatic index, 3)) (hn : As.length = n) (hW : (st.map fun v => v.category).sum ≤ 8) (hf : cells + mc ≤ R.cells ∧ slots + ms ≤ R.slots) {st0 : List Value} (hst : st0 = (As.reverse ++ st)) (kk : hl_X p l e R s m args below meth c nL D A (cells + mc) (slots + ms) Q ww (pc + 3) ls st) : hl_X p l e R s m args below meth c nL D A cells slots Q w pc ls st0 :=
  hl_callSv h hM cw hd hn hW hf hst (fun w1 hp => by rw [hp]; exact kk)
theorem hl_callPViD (h : hl_C p s m args c cc nL Ts own D tys A) {C : String} {y : MethodName} {bytes : ByteArray} {maxL mc ms n index b : Nat} {ret : Option FieldType} {ws : List Cond} {rm : Room} {As : List Value} {rr : Int32} {ww : va_W} {wc wr : va_W} (isC isR : List Nat) (hC : isC.map (fun i => w[i]?) = wc.map some) (hR : isR.map (fun i => w[i]?) = wr.map some) (hnC : va_nd isC = true) (hnR : va_nd isR = true) (hdis : ∀ i ∈ isR, i ∉ isC) (hM : hl_KI D tys l y ws rm mc ms (.ref b :: As) wc (fun r w => r = rr ∧ w = ww)) (cw : CallW R s args own C index y bytes maxL ret ws rm mc ms n) {q0 ci : Nat} {fs : List Value} {T : u_T} {N : Nat} (he : w[q0]? = some (b, .inr (ci, fs))) (hc : vwCl[ci]? = some (C, T, N)) (hd : decode cc pc = .ok (.invokevirtual index, 3)) (hn : As.length = n) (hW : (st.map fun v => v.category).sum ≤ 8) (hf : cells + mc ≤ R.cells ∧ slots + ms ≤ R.slots) {st0 : List Value} (hst : st0 = (As.reverse ++ .ref b :: st)) (kk : hl_X p l e R s m args below meth c nL D A (cells + mc) (slots + ms) Q (wr ++ ww) (pc + 3) ls (.int rr :: st)) : hl_X p l e R s m args below meth c nL D A cells slots Q w pc ls st0 :=
  hl_callPVi h isC isR hC hR hnC hnR hdis hM cw he hc hd hn hW hf hst (fun r w1 hp => by rw [hp.1, hp.2]; exact kk)
theorem hl_callPVvD (h : hl_C p s m args c cc nL Ts own D tys A) {C : String} {y : MethodName} {bytes : ByteArray} {maxL mc ms n index b : Nat} {ret : Option FieldType} {ws : List Cond} {rm : Room} {As : List Value} {ww : va_W} {wc wr : va_W} (isC isR : List Nat) (hC : isC.map (fun i => w[i]?) = wc.map some) (hR : isR.map (fun i => w[i]?) = wr.map some) (hnC : va_nd isC = true) (hnR : va_nd isR = true) (hdis : ∀ i ∈ isR, i ∉ isC) (hM : hl_KV D tys l y ws rm mc ms (.ref b :: As) wc (fun w => w = ww)) (cw : CallW R s args own C index y bytes maxL ret ws rm mc ms n) {q0 ci : Nat} {fs : List Value} {T : u_T} {N : Nat} (he : w[q0]? = some (b, .inr (ci, fs))) (hc : vwCl[ci]? = some (C, T, N)) (hd : decode cc pc = .ok (.invokevirtual index, 3)) (hn : As.length = n) (hW : (st.map fun v => v.category).sum ≤ 8) (hf : cells + mc ≤ R.cells ∧ slots + ms ≤ R.slots) {st0 : List Value} (hst : st0 = (As.reverse ++ .ref b :: st)) (kk : hl_X p l e R s m args below meth c nL D A (cells + mc) (slots + ms) Q (wr ++ ww) (pc + 3) ls st) : hl_X p l e R s m args below meth c nL D A cells slots Q w pc ls st0 :=
  hl_callPVv h isC isR hC hR hnC hnR hdis hM cw he hc hd hn hW hf hst (fun w1 hp => by rw [hp]; exact kk)
theorem hl_callPSiD (h : hl_C p s m args c cc nL Ts own D tys A) {y : MethodName} {bytes : ByteArray} {maxL mc ms n index : Nat} {ret : Option FieldType} {ws : List Cond} {rm : Room} {As : List Value} {rr : Int32} {ww : va_W} {wc wr : va_W} (isC isR : List Nat) (hC : isC.map (fun i => w[i]?) = wc.map some) (hR : isR.map (fun i => w[i]?) = wr.map some) (hnC : va_nd isC = true) (hnR : va_nd isR = true) (hdis : ∀ i ∈ isR, i ∉ isC) (hM : hl_KI D tys l y ws rm mc ms As wc (fun r w => r = rr ∧ w = ww)) (cw : CallB R s args own index y bytes maxL ret ws rm mc ms n ∧ (Cond.static y).before args s = true) (hd : decode cc pc = .ok (.invokestatic index, 3)) (hn : As.length = n) (hW : (st.map fun v => v.category).sum ≤ 8) (hf : cells + mc ≤ R.cells ∧ slots + ms ≤ R.slots) {st0 : List Value} (hst : st0 = (As.reverse ++ st)) (kk : hl_X p l e R s m args below meth c nL D A (cells + mc) (slots + ms) Q (wr ++ ww) (pc + 3) ls (.int rr :: st)) : hl_X p l e R s m args below meth c nL D A cells slots Q w pc ls st0 :=
  hl_callPSi h isC isR hC hR hnC hnR hdis hM cw hd hn hW hf hst (fun r w1 hp => by rw [hp.1, hp.2]; exact kk)
theorem hl_callPSvD (h : hl_C p s m args c cc nL Ts own D tys A) {y : MethodName} {bytes : ByteArray} {maxL mc ms n index : Nat} {ret : Option FieldType} {ws : List Cond} {rm : Room} {As : List Value} {ww : va_W} {wc wr : va_W} (isC isR : List Nat) (hC : isC.map (fun i => w[i]?) = wc.map some) (hR : isR.map (fun i => w[i]?) = wr.map some) (hnC : va_nd isC = true) (hnR : va_nd isR = true) (hdis : ∀ i ∈ isR, i ∉ isC) (hM : hl_KV D tys l y ws rm mc ms As wc (fun w => w = ww)) (cw : CallB R s args own index y bytes maxL ret ws rm mc ms n ∧ (Cond.static y).before args s = true) (hd : decode cc pc = .ok (.invokestatic index, 3)) (hn : As.length = n) (hW : (st.map fun v => v.category).sum ≤ 8) (hf : cells + mc ≤ R.cells ∧ slots + ms ≤ R.slots) {st0 : List Value} (hst : st0 = (As.reverse ++ st)) (kk : hl_X p l e R s m args below meth c nL D A (cells + mc) (slots + ms) Q (wr ++ ww) (pc + 3) ls st) : hl_X p l e R s m args below meth c nL D A cells slots Q w pc ls st0 :=
  hl_callPSv h isC isR hC hR hnC hnR hdis hM cw hd hn hW hf hst (fun w1 hp => by rw [hp]; exact kk)
end HLK
