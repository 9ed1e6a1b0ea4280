section
-- ===== PART A: goes FIRST, ahead of the names: the tables' words, and 'selects' of the private methods out of them =====
/-- a private method of a class that the tables say can be made, by its rows of tables_1 -/
def lw_okq (q : MethodName × Nat) : Prop := (q.1.cls ≠ "java/lang/invoke/MethodHandle" ∧ q.1.cls ≠ "java/lang/invoke/VarHandle") ∧ Cond.instantiable q.1.cls q.2 ∈ tables_1 ∧ Cond.privateMethod q.1 ∈ tables_1 ∧ Cond.instanceMethod q.1 ∈ tables_1
theorem lw_p0 : lw_okq (⟨"java/lang/Throwable", "fillInStackTrace", "(I)Ljava/lang/Throwable;"⟩, 6) := ⟨⟨by decide +kernel, by decide +kernel⟩, List.mem_of_getElem? (i := 204) (by decide +kernel), List.mem_of_getElem? (i := 202) (by decide +kernel), List.mem_of_getElem? (i := 203) (by decide +kernel)⟩
theorem lw_p1 : lw_okq (⟨"HostLeague", "extraOf", "(I)I"⟩, 6) := ⟨⟨by decide +kernel, by decide +kernel⟩, List.mem_of_getElem? (i := 15) (by decide +kernel), List.mem_of_getElem? (i := 366) (by decide +kernel), List.mem_of_getElem? (i := 367) (by decide +kernel)⟩
theorem lw_p2 : lw_okq (⟨"HostLeague", "takesMore", "(III)Z"⟩, 6) := ⟨⟨by decide +kernel, by decide +kernel⟩, List.mem_of_getElem? (i := 15) (by decide +kernel), List.mem_of_getElem? (i := 386) (by decide +kernel), List.mem_of_getElem? (i := 387) (by decide +kernel)⟩
theorem lw_p3 : lw_okq (⟨"HostLeague", "checkBooking", "(I)V"⟩, 6) := ⟨⟨by decide +kernel, by decide +kernel⟩, List.mem_of_getElem? (i := 15) (by decide +kernel), List.mem_of_getElem? (i := 419) (by decide +kernel), List.mem_of_getElem? (i := 420) (by decide +kernel)⟩
theorem lw_p4 : lw_okq (⟨"HostLeague", "findInn", "(II)I"⟩, 6) := ⟨⟨by decide +kernel, by decide +kernel⟩, List.mem_of_getElem? (i := 15) (by decide +kernel), List.mem_of_getElem? (i := 437) (by decide +kernel), List.mem_of_getElem? (i := 438) (by decide +kernel)⟩
theorem lw_p5 : lw_okq (⟨"HostLeague", "putUp", "(II)V"⟩, 6) := ⟨⟨by decide +kernel, by decide +kernel⟩, List.mem_of_getElem? (i := 15) (by decide +kernel), List.mem_of_getElem? (i := 458) (by decide +kernel), List.mem_of_getElem? (i := 459) (by decide +kernel)⟩
theorem lw_p6 : lw_okq (⟨"HostLeague", "layLinen", "(I)V"⟩, 6) := ⟨⟨by decide +kernel, by decide +kernel⟩, List.mem_of_getElem? (i := 15) (by decide +kernel), List.mem_of_getElem? (i := 474) (by decide +kernel), List.mem_of_getElem? (i := 475) (by decide +kernel)⟩
theorem lw_p7 : lw_okq (⟨"HostLeague", "burnEarliest", "(III)V"⟩, 6) := ⟨⟨by decide +kernel, by decide +kernel⟩, List.mem_of_getElem? (i := 15) (by decide +kernel), List.mem_of_getElem? (i := 499) (by decide +kernel), List.mem_of_getElem? (i := 500) (by decide +kernel)⟩
def lw_privs_1 : List (MethodName × Nat) := [(⟨"java/lang/Throwable", "fillInStackTrace", "(I)Ljava/lang/Throwable;"⟩, 6), (⟨"HostLeague", "extraOf", "(I)I"⟩, 6), (⟨"HostLeague", "takesMore", "(III)Z"⟩, 6), (⟨"HostLeague", "checkBooking", "(I)V"⟩, 6), (⟨"HostLeague", "findInn", "(II)I"⟩, 6), (⟨"HostLeague", "putUp", "(II)V"⟩, 6), (⟨"HostLeague", "layLinen", "(I)V"⟩, 6), (⟨"HostLeague", "burnEarliest", "(III)V"⟩, 6)]
theorem lw_r1 : ∀ q ∈ lw_privs_1, lw_okq q := List.forall_mem_cons.mpr ⟨lw_p0, List.forall_mem_cons.mpr ⟨lw_p1, List.forall_mem_cons.mpr ⟨lw_p2, List.forall_mem_cons.mpr ⟨lw_p3, List.forall_mem_cons.mpr ⟨lw_p4, List.forall_mem_cons.mpr ⟨lw_p5, List.forall_mem_cons.mpr ⟨lw_p6, List.forall_mem_cons.mpr ⟨lw_p7, fun _ h => absurd h List.not_mem_nil⟩⟩⟩⟩⟩⟩⟩⟩
def lw_privs : List (MethodName × Nat) := lw_privs_1
def lw_tbl : List Cond := k2_sels lw_privs ++ tables_1
theorem lw_privs_ok : ∀ q ∈ lw_privs, lw_okq q := lw_r1
-- ===== end of PART A; then your names; then what follows =====
end
section
/-! ===== BEGIN words of one list among another's, by their places ===== -/
theorem goodIn_r {big : List Cond} (ws : List Cond) (ps : List Nat) (hp : ws = ps.filterMap (fun i => big[i]?)) (h : ws.all goodWord = true) : GoodIn big ws := by
  intro w hw
  have h1 := List.all_eq_true.mp h w hw
  rw [hp] at hw
  obtain ⟨i, -, hi⟩ := List.mem_filterMap.mp hw
  have hm : w ∈ big := by first | exact List.mem_of_getElem? hi | exact List.getElem?_mem hi
  exact ⟨hm, good_of_word h1⟩
theorem goodIn_app {big a b : List Cond} (ha : GoodIn big a) (hb : GoodIn big b) : GoodIn big (a ++ b) := fun w h => (List.mem_append.mp h).elim (ha w) (hb w)
theorem goodIn_ca {big a b : List Cond} {c : Cond} (ha : GoodIn big (c :: a)) (hb : GoodIn big b) : GoodIn big (c :: (a ++ b)) := fun w h => (List.mem_cons.mp h).elim (fun e => ha w (List.mem_cons.mpr (Or.inl e))) (fun h => (List.mem_append.mp h).elim (fun h => ha w (List.mem_cons.mpr (Or.inr h))) (hb w))
theorem goodIn_sub {big ws : List Cond} (hm : ∀ w ∈ ws, w ∈ big) (h : ws.all goodWord = true) : GoodIn big ws := fun w hw => ⟨hm w hw, good_of_word (List.all_eq_true.mp h w hw)⟩
/-! ===== END ===== -/

/-! ===== BEGIN exceptions that leave a method, and their catching by the caller (launches without stack traces) ===== -/
section VXA
/-! The laws vx_back, vx_callV, vx_callS, vx_callSW, vx_throw0, vx_throwS follow proofs of the library, with one case more: JvmDerived/Free/Laws.lean (Back.of_free), Shelf42/LK1.lean (callV, callS), Shelf/KitTraced.lean (throwNew0V, throwNewS). -/
/-- where a method has thrown q: the class by its name, the cell, what was written, the world -/
def vx_T (XC : String → State → State → Prop) (st : State) (q : Addr) (t : State) (mc ms : Nat) (free : Addr → Prop) : Prop :=
  ∃ (E : String) (ce : Cell) (L : List Loc), XC E st t ∧ t.heap[q]? = some ce ∧ ce.vm = .none ∧ st.vm.findClass E = some ce.cls ∧ st.WarmedH t.vm ∧ st.sameButNew ({ t with vm := st.vm } : State) L mc ms ∧ ∀ z ∈ L, free z.base
def vx_Q (Qc : Array Value → State → Outcome → State → Prop) (XC : String → State → State → Prop) (mc ms : Nat) (free : Addr → Prop) : Array Value → State → Outcome → State → Prop := fun a st o t =>
  (Qc a st o t ∧ ∃ L, FrameEnd st o t L mc ms ∧ ∀ q ∈ L, free q.base) ∨ ∃ q, o = .threw q ∧ vx_T XC st q t mc ms free
/-- a callee that returns or throws -/
def vx_Met (l : Launch) (y : MethodName) (ws : List Cond) (rm : Room) (Pc : Array Value → State → Prop) (Qc : Array Value → State → Outcome → State → Prop) (XC : String → State → State → Prop) (mc ms : Nat) (free : Addr → Prop) : Prop :=
  MetFree l y (headSpec ws rm) Pc (fun _ _ _ _ _ => True) (vx_Q Qc XC mc ms free)
def vx_Post (XC : String → State → State → Prop) (mc ms : Nat) (free : Addr → Prop) : Pt → Array Value → Addr → Pt → Prop := fun A a q B =>
  ∃ (g : JFrame) (mk : MethodId) (t : State) (L : List Loc) (E : String) (ce : Cell), B.U.heap = t.heap ∧ B.U.vm = t.vm ∧ XC E (A.U.calling g mk a) t ∧ t.heap[q]? = some ce ∧ ce.vm = .none ∧ A.U.vm.findClass E = some ce.cls ∧ B.locs = A.locs ++ L ∧ (∀ z ∈ L, free z.base) ∧ B.cells = A.cells + mc ∧ B.slots = A.slots + ms
def vx_Back (l : Launch) (R : Room) (p : Program) (e : Env) (below : List Frame) (s : State) (sargs : Array Value) (y : MethodName) (len W9 : Nat)
    (Pre : Pt → Array Value → Prop) (Post : Pt → Array Value → Option Value → Pt → Prop) (PostX : Pt → Array Value → Addr → Pt → Prop) : Prop :=
  ∀ (m : MethodId) (meth : Method) (c : Code) (A : Pt) (g : JFrame) (ig : Instr) (mk : MethodId) (a : Array Value),
    Stand p l e R s m sargs below meth c A.U A.locs A.cells A.slots → g.method = m → g.locals.size = c.maxLocals → decode c.code g.pc = .ok (ig, len) →
    2 * g.monitorRoom + (g.stack.map fun v => v.category).sum ≤ W9 → A.U.methodNamed? y = some mk → Pre A a →
    (∃ (v : Option Value) (B : Pt), Stand p l e R s m sargs below meth c B.U B.locs B.cells B.slots ∧ Post A a v B ∧
      Steps p.tables e below (doInvoke e (A.U.setTop g) [] mk a).1 (B.U.setTop { g with pc := g.pc + len, stack := v.toList ++ g.stack })) ∨
    (∃ (q : Addr) (B : Pt), Stand p l e R s m sargs below meth c B.U B.locs B.cells B.slots ∧ PostX A a q B ∧
      Steps p.tables e below (doInvoke e (A.U.setTop g) [] mk a).1 ((B.U.setTop g).pushFrame (.throwing q)))
section Payer
variable {l : Launch} {R : Room} {p : Program} {e : Env} {below : List Frame} {s : State} {sargs : Array Value} {y : MethodName} {len W9 : Nat}
theorem vx_back {ws : List Cond} {rm : Room} {Pc : Array Value → State → Prop} {Qc : Array Value → State → Outcome → State → Prop} {XC : String → State → State → Prop} {mc ms : Nat} {free : Addr → Prop} {bytes : ByteArray} {maxL : Nat} {ret : Option FieldType}
    (hM : vx_Met l y ws rm Pc Qc XC mc ms free) (hblind : FrameBlind Pc) (hrc : rm.cells = mc) (hrs : rm.slots = ms)
    (hframes : rm.frames + 1 ≤ R.frames) (hlocals : W9 + (maxL + 11) + rm.locals ≤ R.locals)
    (hws : ∀ w ∈ ws, ∀ a' U, s.WarmedH U.vm → w.before a' U = true) (hcode : Cond.code y bytes maxL ret ∈ ws) (hinit : ∀ a' U, s.WarmedH U.vm → (Cond.initialized y.cls).before a' U = true) :
    vx_Back l R p e below s sargs y len W9 (PreOf R mc ms Pc) (PostOf Qc mc ms free) (vx_Post XC mc ms free) := by
  intro m meth c A g ig mk a X hg hsize hdg hW hn hp
  have h1 : (headSpec ws rm).pre.before a A.U = true := atoms_intro fun w hw => hws w hw _ _ X.warmed
  have h2 : (Cond.code y bytes maxL ret).before a A.U = true := hws _ hcode _ _ X.warmed
  have h3 : (Cond.initialized y.cls).before a A.U = true := hinit _ _ X.warmed
  have h4 : A.cells + (headSpec ws rm).room.cells ≤ R.cells := by rw [show (headSpec ws rm).room.cells = mc from hrc]; exact hp.1
  have h5 : A.slots + (headSpec ws rm).room.slots ≤ R.slots := by rw [show (headSpec ws rm).room.slots = ms from hrs]; exact hp.2.1
  have hPc : Pc a (A.U.calling g mk a) := hblind _ _ _ _ hp.2.2
  obtain ⟨U, Ls, c0, s0⟩ := A
  dsimp only [Pt.U, Pt.locs, Pt.cells, Pt.slots] at h1 h2 h3 h4 h5 X hn hPc ⊢
  obtain ⟨methY, cY, hmY, hcY, -, hlY, -, -, -, -⟩ := Cond.code_spec hn h2
  obtain ⟨kY, hkY, -⟩ := className_of_methodNamed hn
  have hinitY : kY.init = .initialized := Cond.initialized_spec (findClass_of_methodNamed hn) hkY h3
  have h : At U g.method c below := by rw [hg]; exact X.here
  have hlocals9 : W9 + (maxL + 11) + (headSpec ws rm).room.locals ≤ R.locals := hlocals
  have happ : (headSpec ws rm).appliesLoose y e.platform (U.calling g mk a) = true :=
    Spec.appliesLoose_calling (g := g) h hdg hn hkY hinitY
      (X.room_calling (g := g) (R' := (headSpec ws rm).room) hsize hmY hcY hframes (by rw [hlY]; omega) h4 h5) h1
  obtain ⟨mid, hmid⟩ := h.above
  have hfr : (U.setTop g).frames = (.java g :: mid) ++ below := by rw [State.frames_setTop' g h.top, hmid]; rfl
  obtain ⟨o, s₂, hsteps, -, hend, hq⟩ := Steps.callFree hM p X.admits X.cas X.clock (acts := []) hfr happ hPc trivial
  have hq' : vx_Q Qc XC mc ms free a (U.calling g mk a) o s₂ := hq
  rw [State.frames_setTop' g h.top] at hend
  obtain ⟨g₀, hg0⟩ := Option.isSome_iff_exists.mp h.top
  obtain ⟨r, hr⟩ := State.topJava?_eq_some.mp hg0
  have hr' : (({ U with heap := s₂.heap, slotsUsed := s₂.slotsUsed } : State).setVm s₂.vm).frames = .java g₀ :: r := hr
  rcases hq' with ⟨hqc, L, hfe, hL⟩ | ⟨q, rfl, E, ce, L, hx, hce, hcv, hcl, hW₂, hsm, hL⟩
  · obtain ⟨⟨v, rfl⟩, hW₂, e2, q2, q3, q4, q5, q6⟩ := id hfe
    have e3 : s₂ = ({ (U.calling g mk a).setFrames s₂.frames with heap := s₂.heap, slotsUsed := s₂.slotsUsed } : State).setVm s₂.vm := by
      have : s₂ = ({ s₂ with vm := (U.calling g mk a).vm } : State).setVm s₂.vm := rfl
      rw [e2] at this
      exact this
    obtain ⟨c₂, i₂, len₂, hc₂, hd₂, hf₂⟩ := hend
    have hW' : U.WarmedH s₂.vm := hW₂
    have hcc : c₂ = c := by
      have h1 : s₂.code? g.method = U.code? g.method := by
        rw [State.code?_eq, State.code?_eq, hW'.alike.method?]
      exact Option.some.inj (hc₂.symm.trans (h1.trans h.code))
    subst hcc
    have hlen : len₂ = len := by rw [hdg] at hd₂; cases hd₂; rfl
    subst hlen
    have hs₂ : s₂ = (({ U with heap := s₂.heap, slotsUsed := s₂.slotsUsed } : State).setVm s₂.vm).setTop { g with pc := g.pc + len₂, stack := v.toList ++ g.stack } := by
      refine e3.trans ?_
      rw [hf₂, State.calling_eq h.top, State.setFrames_setFrames, State.setTop_of_frames _ hr', hr]
      rfl
    have hsame : U.sameButNew ({ U with heap := s₂.heap, slotsUsed := s₂.slotsUsed } : State) L mc ms := by
      refine ⟨?_, q2, q3, q4, q5, q6⟩
      obtain ⟨t, ht, -⟩ := State.frames_cons hr
      show ({ U with heap := s₂.heap, slotsUsed := s₂.slotsUsed } : State) = { U.setFrames U.frames with heap := s₂.heap, slotsUsed := s₂.slotsUsed }
      rw [State.setFrames_self ht]
    subst hg
    refine Or.inl ⟨v, ⟨(({ U with heap := s₂.heap, slotsUsed := s₂.slotsUsed } : State).setVm s₂.vm), Ls ++ L, c0 + mc, s0 + ms⟩,
      ⟨X.admits, X.cas, X.clock, X.frames, X.room, X.hears, X.method, X.code, (X.here.setHeapUsed s₂.heap s₂.slotsUsed).setVm hW'.alike, X.tail, State.WarmedH.trans X.warmed hW', X.limits, X.bytes, X.same.trans (hsame.setVm s.vm)⟩,
      ⟨g, mk, s₂, L, rfl, rfl, hqc, rfl, hL, rfl, rfl⟩, ?_⟩
    show Steps p.tables e below _ ((({ U with heap := s₂.heap, slotsUsed := s₂.slotsUsed } : State).setVm s₂.vm).setTop { g with pc := g.pc + len₂, stack := v.toList ++ g.stack })
    rw [← hs₂]
    exact hsteps
  · obtain ⟨e2, q2, q3, q4, q5, q6⟩ := id hsm
    have e3 : s₂ = ({ (U.calling g mk a).setFrames s₂.frames with heap := s₂.heap, slotsUsed := s₂.slotsUsed } : State).setVm s₂.vm := by
      have : s₂ = ({ s₂ with vm := (U.calling g mk a).vm } : State).setVm s₂.vm := rfl
      rw [e2] at this
      exact this
    have hf₂ : s₂.frames = .throwing q :: .java g :: U.frames.tail := hend
    have hW' : U.WarmedH s₂.vm := hW₂
    have hs₂ : s₂ = ((({ U with heap := s₂.heap, slotsUsed := s₂.slotsUsed } : State).setVm s₂.vm).setTop g).pushFrame (.throwing q) := by
      refine e3.trans ?_
      rw [hf₂, State.calling_eq h.top, State.setFrames_setFrames, State.pushFrame, State.frames_setTop _ hr', State.setTop_of_frames _ hr', State.setFrames_setFrames, hr]
      rfl
    have hsame : U.sameButNew ({ U with heap := s₂.heap, slotsUsed := s₂.slotsUsed } : State) L mc ms := by
      refine ⟨?_, q2, q3, q4, q5, q6⟩
      obtain ⟨t, ht, -⟩ := State.frames_cons hr
      show ({ U with heap := s₂.heap, slotsUsed := s₂.slotsUsed } : State) = { U.setFrames U.frames with heap := s₂.heap, slotsUsed := s₂.slotsUsed }
      rw [State.setFrames_self ht]
    subst hg
    refine Or.inr ⟨q, ⟨(({ U with heap := s₂.heap, slotsUsed := s₂.slotsUsed } : State).setVm s₂.vm), Ls ++ L, c0 + mc, s0 + ms⟩,
      ⟨X.admits, X.cas, X.clock, X.frames, X.room, X.hears, X.method, X.code, (X.here.setHeapUsed s₂.heap s₂.slotsUsed).setVm hW'.alike, X.tail, State.WarmedH.trans X.warmed hW', X.limits, X.bytes, X.same.trans (hsame.setVm s.vm)⟩,
      ⟨g, mk, s₂, L, E, ce, rfl, rfl, hx, hce, hcv, hcl, rfl, hL, rfl, rfl⟩, ?_⟩
    show Steps p.tables e below _ (((({ U with heap := s₂.heap, slotsUsed := s₂.slotsUsed } : State).setVm s₂.vm).setTop g).pushFrame (.throwing q))
    rw [← hs₂]
    exact hsteps
end Payer
section Calls
variable {p : Program} {l : Launch} {e : Env} {R : Room} {s : State} {m : MethodId} {args : Array Value} {below : List Frame} {meth : Method} {c : Code} {T : State} {locs : List Loc} {cells slots : Nat}
theorem vx_callV (X : Stand p l e R s m args below meth c T locs cells slots) (hexec : p.tables.exec = Jvm.exec) {own C : String} {index : Nat} {y : MethodName} {bytes : ByteArray} {maxL : Nat} {ret : Option FieldType}
    (hown : s.vm.findClass own = some m.cls) (hlink : (Cond.methodLink own index y).before args s = true) (hinst : (Cond.instanceMethod y).before args s = true) (hsel : (Cond.selects C y y).before args s = true)
    (hcode : (Cond.code y bytes maxL ret).before args s = true) (hy : y.cls ≠ "java/lang/invoke/MethodHandle" ∧ y.cls ≠ "java/lang/invoke/VarHandle")
    {W9 : Nat} {Pre : Pt → Array Value → Prop} {Post : Pt → Array Value → Option Value → Pt → Prop} {PostX : Pt → Array Value → Addr → Pt → Prop} (hK : vx_Back l R p e below s args y 3 W9 Pre Post PostX)
    {b : Addr} {cellB : Cell} (hcell : T.heap[b]? = some cellB) (hobj : cellB.vm.isStatics = false) (hcls : s.vm.findClass C = some cellB.cls)
    {g : JFrame} (hg : g.method = m) (hsize : g.locals.size = c.maxLocals) {argsL rest : List Value} (hlen : ∀ sig, parseMethodDescriptor y.desc = some sig → argsL.length = sig.parameters.length)
    (hstack : g.stack = argsL.reverse ++ .ref b :: rest) (hW : 2 * g.monitorRoom + (rest.map fun v => v.category).sum ≤ W9) (hdg : decode c.code g.pc = .ok (.invokevirtual index, 3))
    (hpre : ∀ vm₁, s.WarmedH vm₁ → Pre ⟨T.setVm vm₁, locs, cells, slots⟩ (Value.ref b :: argsL).toArray) :
    (∃ (v : Option Value) (vm₁ : Vm) (B : Pt), s.WarmedH vm₁ ∧ Stand p l e R s m args below meth c B.U B.locs B.cells B.slots ∧ Post ⟨T.setVm vm₁, locs, cells, slots⟩ (Value.ref b :: argsL).toArray v B ∧
      ∀ target, Steps p.tables e below (B.U.setTop { g with pc := g.pc + 3, stack := v.toList ++ rest }) target → Steps p.tables e below (T.setTop g) target) ∨
    (∃ (q : Addr) (vm₁ : Vm) (B : Pt), s.WarmedH vm₁ ∧ Stand p l e R s m args below meth c B.U B.locs B.cells B.slots ∧ PostX ⟨T.setVm vm₁, locs, cells, slots⟩ (Value.ref b :: argsL).toArray q B ∧
      Steps p.tables e below (T.setTop g) ((B.U.setTop { g with stack := rest }).pushFrame (.throwing q))) := by
  obtain ⟨mk, methM, hnamed, hmethM, hstM, habM⟩ := Cond.instanceMethod_spec hinst
  obtain ⟨methM', cM, hmethM', -, -, -, -, -, -, hsigM⟩ := Cond.code_spec hnamed hcode
  cases hmethM.symm.trans hmethM'
  obtain ⟨c2, r2, m2, q1, q2, q3, q4, kP, hkP, hkPi⟩ := Cond.selects_spec hsel
  cases hcls.symm.trans q1
  cases (State.methodFound?_of_named hnamed hy).symm.trans q2
  cases hnamed.symm.trans q3
  have hselP : selectMethod e.platform s.vm cellB.cls mk = .method mk := by rw [Launch.admits_selectMethod X.admits]; exact q4
  obtain ⟨vm₁, X₁, hstep₁⟩ := X.invokevirtual hexec hown hlink hnamed hmethM hstM hkP hkPi hy (a := b) (cell := cellB) hcell
    (fun z h => by rw [h] at hobj; cases hobj) hselP hmethM habM hkP hkPi (g := g) hg (argsL := argsL) (rest := rest) (hlen _ hsigM) hstack hdg
  rcases hK m meth c ⟨T.setVm vm₁, locs, cells, slots⟩ { g with stack := rest } (.invokevirtual index) mk (Value.ref b :: argsL).toArray X₁ hg hsize hdg hW (X₁.named hnamed) (hpre vm₁ X₁.warmed) with ⟨v, B, X', hpost, hsteps⟩ | ⟨q, B, X', hpost, hsteps⟩
  · exact Or.inl ⟨v, vm₁, B, X₁.warmed, X', hpost, fun target h => hstep₁ _ fun acts => by rw [doInvoke_state]; exact hsteps.trans h⟩
  · exact Or.inr ⟨q, vm₁, B, X₁.warmed, X', hpost, hstep₁ _ fun acts => by rw [doInvoke_state]; exact hsteps⟩
theorem vx_callS (X : Stand p l e R s m args below meth c T locs cells slots) (hexec : p.tables.exec = Jvm.exec) {own : String} {index : Nat} {y : MethodName} {bytes : ByteArray} {maxL : Nat} {ret : Option FieldType}
    (hown : s.vm.findClass own = some m.cls) (hlink : (Cond.methodLink own index y).before args s = true) (hstat : (Cond.static y).before args s = true) (hinit : (Cond.initialized y.cls).before args s = true)
    (hcode : (Cond.code y bytes maxL ret).before args s = true) (hy : y.cls ≠ "java/lang/invoke/MethodHandle" ∧ y.cls ≠ "java/lang/invoke/VarHandle")
    {W9 : Nat} {Pre : Pt → Array Value → Prop} {Post : Pt → Array Value → Option Value → Pt → Prop} {PostX : Pt → Array Value → Addr → Pt → Prop} (hK : vx_Back l R p e below s args y 3 W9 Pre Post PostX)
    {g : JFrame} (hg : g.method = m) (hsize : g.locals.size = c.maxLocals) {argsL rest : List Value} (hlen : ∀ sig, parseMethodDescriptor y.desc = some sig → argsL.length = sig.parameters.length)
    (hstack : g.stack = argsL.reverse ++ rest) (hW : 2 * g.monitorRoom + (rest.map fun v => v.category).sum ≤ W9) (hdg : decode c.code g.pc = .ok (.invokestatic index, 3))
    (hpre : ∀ vm₁, s.WarmedH vm₁ → Pre ⟨T.setVm vm₁, locs, cells, slots⟩ argsL.toArray) :
    (∃ (v : Option Value) (vm₁ : Vm) (B : Pt), s.WarmedH vm₁ ∧ Stand p l e R s m args below meth c B.U B.locs B.cells B.slots ∧ Post ⟨T.setVm vm₁, locs, cells, slots⟩ argsL.toArray v B ∧
      ∀ target, Steps p.tables e below (B.U.setTop { g with pc := g.pc + 3, stack := v.toList ++ rest }) target → Steps p.tables e below (T.setTop g) target) ∨
    (∃ (q : Addr) (vm₁ : Vm) (B : Pt), s.WarmedH vm₁ ∧ Stand p l e R s m args below meth c B.U B.locs B.cells B.slots ∧ PostX ⟨T.setVm vm₁, locs, cells, slots⟩ argsL.toArray q B ∧
      Steps p.tables e below (T.setTop g) ((B.U.setTop { g with stack := rest }).pushFrame (.throwing q))) := by
  obtain ⟨mk, hnamed⟩ := Cond.code_named hcode
  obtain ⟨methM, cM, hmethM, -, -, -, -, -, -, hsigM⟩ := Cond.code_spec hnamed hcode
  have hstatic : methM.isStatic = true := Cond.static_spec hnamed hmethM hstat
  obtain ⟨kP, hkP, -⟩ := className_of_methodNamed hnamed
  have hinitP : kP.init = .initialized := Cond.initialized_spec (findClass_of_methodNamed hnamed) hkP hinit
  obtain ⟨vm₁, X₁, hstep₁⟩ := X.invokestatic hexec hown hlink hnamed hmethM hstatic hkP hinitP hy (g := g) hg (argsL := argsL) (rest := rest) (hlen _ hsigM) hstack hdg
  rcases hK m meth c ⟨T.setVm vm₁, locs, cells, slots⟩ { g with stack := rest } (.invokestatic index) mk argsL.toArray X₁ hg hsize hdg hW (X₁.named hnamed) (hpre vm₁ X₁.warmed) with ⟨v, B, X', hpost, hsteps⟩ | ⟨q, B, X', hpost, hsteps⟩
  · exact Or.inl ⟨v, vm₁, B, X₁.warmed, X', hpost, fun target h => hstep₁ _ fun acts => by rw [doInvoke_state]; exact hsteps.trans h⟩
  · exact Or.inr ⟨q, vm₁, B, X₁.warmed, X', hpost, hstep₁ _ fun acts => by rw [doInvoke_state]; exact hsteps⟩
end Calls
theorem vx_cls {s : State} {T : State} {vm₁ : Vm} {E : String} {k : ClassId} (hW : s.WarmedH vm₁) (h : (T.setVm vm₁).vm.findClass E = some k) : s.vm.findClass E = some k := by
  have h1 : vm₁.findClass E = some k := h
  rw [hW.alike.findClass] at h1
  exact h1
/-- the method's frame g, with q thrown over it -/
def vx_W (p : Program) (l : Launch) (e : Env) (R : Room) (s : State) (m : MethodId) (args : Array Value) (below : List Frame) (meth : Method) (c : Code) (H : Heap) (locs : List Loc) (cells slots : Nat) (Q : State → Prop) (g : JFrame) (q : Addr) : Prop :=
  ∀ T : State, T.heap = H → Stand p l e R s m args below meth c T locs cells slots → ∃ t, Steps p.tables e below ((T.setTop g).pushFrame (.throwing q)) t ∧ Q t
def vx_Run (p : Program) (l : Launch) (e : Env) (R : Room) (s : State) (m : MethodId) (args : Array Value) (below : List Frame) (meth : Method) (c : Code) (H : Heap) (locs : List Loc) (cells slots mc ms : Nat) (g : JFrame) (rest : List Value) (Qa : State → Outcome → State → Prop) (XC : String → State → State → Prop) (free : Addr → Prop) : Prop :=
  ∀ T : State, T.heap = H → Stand p l e R s m args below meth c T locs cells slots →
    (∃ (v : Option Value) (st₀ t T' : State) (L : List Loc), st₀.heap = H ∧ Stand p l e R s m args below meth c T' (locs ++ L) (cells + mc) (slots + ms) ∧ (∀ q ∈ L, free q.base) ∧ T'.heap = t.heap ∧ T'.vm = t.vm ∧ Qa st₀ (.returned v) t ∧
      Goes p e below T g T' { g with pc := g.pc + 3, stack := v.toList ++ rest }) ∨
    (∃ (q : Addr) (st₀ t T' : State) (L : List Loc) (E : String) (ce : Cell), st₀.heap = H ∧ Stand p l e R s m args below meth c T' (locs ++ L) (cells + mc) (slots + ms) ∧ (∀ z ∈ L, free z.base) ∧ T'.heap = t.heap ∧ T'.vm = t.vm ∧ XC E st₀ t ∧ t.heap[q]? = some ce ∧ ce.vm = .none ∧ s.vm.findClass E = some ce.cls ∧
      Steps p.tables e below (T.setTop g) ((T'.setTop { g with stack := rest }).pushFrame (.throwing q)))
def vx_X {S : Type} (px : S → Prop) (B : String → S → State → Prop) (A : Nat → Prop) : String → State → State → Prop := fun E st t => ∃ u : S, px u ∧ B E u t ∧ va_F A st t
section Runs
variable {p : Program} {l : Launch} {e : Env} {R : Room} {s : State} {m : MethodId} {args : Array Value} {below : List Frame} {meth : Method} {c : Code} {H : Heap} {locs : List Loc} {cells slots : Nat}
variable {y : MethodName} {bytes cc : ByteArray} {maxL nL mc ms n index : Nat} {ret : Option FieldType} {ws : List Cond} {rm : Room} {Pc : Array Value → State → Prop} {Qc : Array Value → State → Outcome → State → Prop} {XC : String → State → State → Prop} {free : Addr → Prop} {Ts : List Cond} {own C : String} {b : Addr} {As rest : List Value} {g : JFrame}
theorem vx_callBack (cb : CallB R s args own index y bytes maxL ret ws rm mc ms n) (hM : vx_Met l y ws rm Pc Qc XC mc ms free) (hbl : FrameBlind Pc) : vx_Back l R p e below s args y 3 8 (PreOf R mc ms Pc) (PostOf Qc mc ms free) (vx_Post XC mc ms free) := by
  obtain ⟨hrc, hrs, hfr, hlo, hws, hcw, -, hini, -⟩ := cb
  exact vx_back (bytes := bytes) (maxL := maxL) (ret := ret) hM hbl hrc hrs hfr hlo hws hcw (fun a' U hW => word_at hW (Or.inl (by first | rfl | simp [Cond.onTables, Cond.keeps, Cond.steady])) hini)
theorem vx_runV (S : CallFix p m c cc nL s args Ts own) (hM : vx_Met l y ws rm Pc Qc XC mc ms free) (cw : CallW R s args own C index y bytes maxL ret ws rm mc ms n) (hp : PreV s H C b Pc As)
    (hg : g.method = m) (hn : As.length = n) (hsize : g.locals.size = nL) (hstack : g.stack = As.reverse ++ .ref b :: rest) (hW : 2 * g.monitorRoom + (rest.map fun v => v.category).sum ≤ 8) (hdg : decode cc g.pc = .ok (.invokevirtual index, 3)) (hf : cells + mc ≤ R.cells ∧ slots + ms ≤ R.slots) :
    vx_Run p l e R s m args below meth c H locs cells slots mc ms g rest (Qc (Value.ref b :: As).toArray) XC free := by
  have hK : vx_Back l R p e below s args y 3 8 (PreOf R mc ms Pc) (PostOf Qc mc ms free) (vx_Post XC mc ms free) := vx_callBack cw.1 hM hp.1
  obtain ⟨⟨-, -, -, -, -, -, hcode, -, hy, hlen, hl⟩, hin, hse⟩ := cw
  obtain ⟨hx, hb, hml, ho, -⟩ := S
  obtain ⟨-, ⟨cellB, hcB, hoB, hclB⟩, hPc⟩ := hp
  intro T hT X
  rcases vx_callV X hx (C := C) (bytes := bytes) (maxL := maxL) (ret := ret) ho hl hin hse hcode hy hK (by rw [hT]; exact hcB) hoB hclB hg (hsize.trans hml.symm) (argsL := As) (rest := rest) (fun sig h => hn.trans (hlen sig h)) hstack hW (by rw [hb]; exact hdg)
    (fun vm₁ hW₁ => ⟨hf.1, hf.2, hPc (T.setVm vm₁) hT hW₁⟩) with ⟨v, vm₁, ⟨U', l2, c2, s2⟩, hW₁, X', ⟨g', mk, t, L, e1, e2, hq, h1, hL, h2, h3⟩, st⟩ | ⟨q, vm₁, ⟨U', l2, c2, s2⟩, hW₁, X', ⟨g', mk, t, L, E, ce, e1, e2, hq, hce, hcv, hcl, h1, hL, h2, h3⟩, st⟩
  · dsimp only [Pt.U, Pt.locs, Pt.cells, Pt.slots] at X' e1 e2 h1 h2 h3 st
    subst h1; subst h2; subst h3
    exact Or.inl ⟨v, (T.setVm vm₁).calling g' mk (Value.ref b :: As).toArray, t, U', L, hT, X', hL, e1, e2, hq, st⟩
  · dsimp only [Pt.U, Pt.locs, Pt.cells, Pt.slots] at X' e1 e2 h1 h2 h3 st hcl
    subst h1; subst h2; subst h3
    exact Or.inr ⟨q, (T.setVm vm₁).calling g' mk (Value.ref b :: As).toArray, t, U', L, E, ce, hT, X', hL, e1, e2, hq, hce, hcv, vx_cls hW₁ hcl, st⟩
theorem vx_runS (S : CallFix p m c cc nL s args Ts own) (hM : vx_Met l y ws rm Pc Qc XC mc ms free) (cw : CallB R s args own index y bytes maxL ret ws rm mc ms n ∧ (Cond.static y).before args s = true) (hp : PreS s H Pc As)
    (hg : g.method = m) (hn : As.length = n) (hsize : g.locals.size = nL) (hstack : g.stack = As.reverse ++ rest) (hW : 2 * g.monitorRoom + (rest.map fun v => v.category).sum ≤ 8) (hdg : decode cc g.pc = .ok (.invokestatic index, 3)) (hf : cells + mc ≤ R.cells ∧ slots + ms ≤ R.slots) :
    vx_Run p l e R s m args below meth c H locs cells slots mc ms g rest (Qc As.toArray) XC free := by
  have hK : vx_Back l R p e below s args y 3 8 (PreOf R mc ms Pc) (PostOf Qc mc ms free) (vx_Post XC mc ms free) := vx_callBack cw.1 hM hp.1
  obtain ⟨⟨-, -, -, -, -, -, hcode, hini, hy, hlen, hl⟩, hstt⟩ := cw
  obtain ⟨hx, hb, hml, ho, -⟩ := S
  intro T hT X
  rcases vx_callS X hx (bytes := bytes) (maxL := maxL) (ret := ret) ho hl hstt hini hcode hy hK hg (hsize.trans hml.symm) (argsL := As) (rest := rest) (fun sig h => hn.trans (hlen sig h)) hstack hW (by rw [hb]; exact hdg)
    (fun vm₁ hW₁ => ⟨hf.1, hf.2, hp.2 (T.setVm vm₁) hT hW₁⟩) with ⟨v, vm₁, ⟨U', l2, c2, s2⟩, hW₁, X', ⟨g', mk, t, L, e1, e2, hq, h1, hL, h2, h3⟩, st⟩ | ⟨q, vm₁, ⟨U', l2, c2, s2⟩, hW₁, X', ⟨g', mk, t, L, E, ce, e1, e2, hq, hce, hcv, hcl, h1, hL, h2, h3⟩, st⟩
  · dsimp only [Pt.U, Pt.locs, Pt.cells, Pt.slots] at X' e1 e2 h1 h2 h3 st
    subst h1; subst h2; subst h3
    exact Or.inl ⟨v, (T.setVm vm₁).calling g' mk As.toArray, t, U', L, hT, X', hL, e1, e2, hq, st⟩
  · dsimp only [Pt.U, Pt.locs, Pt.cells, Pt.slots] at X' e1 e2 h1 h2 h3 st hcl
    subst h1; subst h2; subst h3
    exact Or.inr ⟨q, (T.setVm vm₁).calling g' mk As.toArray, t, U', L, E, ce, hT, X', hL, e1, e2, hq, hce, hcv, vx_cls hW₁ hcl, st⟩
end Runs
section Rows
variable {p : Program} {l : Launch} {e : Env} {R : Room} {s : State} {m : MethodId} {args : Array Value} {below : List Frame} {meth : Method} {c : Code} {H : Heap} {locs : List Loc} {cells slots : Nat} {Q : State → Prop}
variable {mc ms : Nat} {free : Addr → Prop} {A0 A1 : Nat → Prop} {H0 : Heap} {a : Array Value} {pc : Nat} {ls : Array Slot} {st0 rest : List Value}
theorem vx_keep {st₀ t T' : State} {L : List Loc} (h0 : st₀.heap = H) (e1 : T'.heap = t.heap) (hS : va_S A0 H0 H locs) (hA : ∀ q, q < H.size → A1 q → A0 q) (hf : ∀ q, free q → A0 q) (hL : ∀ q ∈ L, free q.base) (hF : va_F A1 st₀ t) :
    H.size ≤ T'.heap.size ∧ (∀ q : Nat, q < H.size → ¬ A1 q → T'.heap[q]? = H[q]?) ∧ va_S A0 H0 T'.heap (locs ++ L) := by
  obtain ⟨hz, hk⟩ := hF
  rw [h0] at hz hk
  exact ⟨by rw [e1]; exact hz, fun q h1 h2 => by rw [e1]; exact hk q h1 h2,
    ⟨Nat.le_trans hS.1 (by rw [e1]; exact hz), fun q h1 h2 => by rw [e1, hk q (Nat.lt_of_lt_of_le h1 hS.1) (fun z => h2 (hA q (Nat.lt_of_lt_of_le h1 hS.1) z))]; exact hS.2.1 q h1 h2, fun q hq => by
      rcases List.mem_append.mp hq with h | h
      · exact hS.2.2 q h
      · exact hf _ (hL q h)⟩⟩
theorem vx_calli {S SX : Type} {post : Int32 → S → Prop} {px : SX → Prop} {B : S → State → Prop} {BX : String → SX → State → Prop} {AX : Nat → Prop} (hr : vx_Run p l e R s m args below meth c H locs cells slots mc ms (F0 m pc ls st0) rest (va_Qi post B A1 a) (vx_X px BX AX) free) (hS : va_S A0 H0 H locs) (hA : ∀ q, q < H.size → A1 q → A0 q) (hf : ∀ q, free q → A0 q) (hAX : ∀ q, q < H.size → AX q → A0 q)
    (kx : ∀ (E : String) (ce : Cell) (q9 : Addr) (u : SX) (t : State) (H1 : Heap) (locs1 : List Loc), t.heap = H1 → s.vm.Alike t.vm → px u → BX E u t → H.size ≤ H1.size → (∀ q : Nat, q < H.size → ¬ AX q → H1[q]? = H[q]?) → va_S A0 H0 H1 locs1 → H1[q9]? = some ce → ce.vm = .none → s.vm.findClass E = some ce.cls → vx_W p l e R s m args below meth c H1 locs1 (cells + mc) (slots + ms) Q (F0 m pc ls rest) q9)
    (kk : ∀ (r : Int32) (u : S) (t : State) (H1 : Heap) (locs1 : List Loc), t.heap = H1 → s.vm.Alike t.vm → post r u → B u t → H.size ≤ H1.size → (∀ q : Nat, q < H.size → ¬ A1 q → H1[q]? = H[q]?) → va_S A0 H0 H1 locs1 → W p l e R s m args below meth c H1 locs1 (cells + mc) (slots + ms) Q (F0 m (pc + 3) ls (.int r :: rest))) : W p l e R s m args below meth c H locs cells slots Q (F0 m pc ls st0) := by
  intro T hT X
  rcases hr T hT X with ⟨v, st₀, t, T', L, h0, X', hL, e1, e2, ⟨⟨r, u, hv, hp, hb⟩, hF⟩, st⟩ | ⟨q, st₀, t, T', L, E, ce, h0, X', hL, e1, e2, ⟨u, hp, hb, hF⟩, hce, hcv, hcl, st⟩
  · cases hv
    obtain ⟨k1, k2, k3⟩ := vx_keep h0 e1 hS hA hf hL hF
    obtain ⟨t2, a1, b1⟩ := kk r u t T'.heap (locs ++ L) e1.symm (by rw [← e2]; exact X'.warmed.alike) hp hb k1 k2 k3 T' rfl X'
    exact ⟨t2, st t2 a1, b1⟩
  · obtain ⟨k1, k2, k3⟩ := vx_keep h0 e1 hS hAX hf hL hF
    obtain ⟨t2, a1, b1⟩ := kx E ce q u t T'.heap (locs ++ L) e1.symm (by rw [← e2]; exact X'.warmed.alike) hp hb k1 k2 k3 (by rw [e1]; exact hce) hcv hcl T' rfl X'
    exact ⟨t2, st.trans a1, b1⟩
theorem vx_calll {S SX : Type} {post : Int64 → S → Prop} {px : SX → Prop} {B : S → State → Prop} {BX : String → SX → State → Prop} {AX : Nat → Prop} (hr : vx_Run p l e R s m args below meth c H locs cells slots mc ms (F0 m pc ls st0) rest (va_Ql post B A1 a) (vx_X px BX AX) free) (hS : va_S A0 H0 H locs) (hA : ∀ q, q < H.size → A1 q → A0 q) (hf : ∀ q, free q → A0 q) (hAX : ∀ q, q < H.size → AX q → A0 q)
    (kx : ∀ (E : String) (ce : Cell) (q9 : Addr) (u : SX) (t : State) (H1 : Heap) (locs1 : List Loc), t.heap = H1 → s.vm.Alike t.vm → px u → BX E u t → H.size ≤ H1.size → (∀ q : Nat, q < H.size → ¬ AX q → H1[q]? = H[q]?) → va_S A0 H0 H1 locs1 → H1[q9]? = some ce → ce.vm = .none → s.vm.findClass E = some ce.cls → vx_W p l e R s m args below meth c H1 locs1 (cells + mc) (slots + ms) Q (F0 m pc ls rest) q9)
    (kk : ∀ (r : Int64) (u : S) (t : State) (H1 : Heap) (locs1 : List Loc), t.heap = H1 → s.vm.Alike t.vm → post r u → B u t → H.size ≤ H1.size → (∀ q : Nat, q < H.size → ¬ A1 q → H1[q]? = H[q]?) → va_S A0 H0 H1 locs1 → W p l e R s m args below meth c H1 locs1 (cells + mc) (slots + ms) Q (F0 m (pc + 3) ls (.long r :: rest))) : W p l e R s m args below meth c H locs cells slots Q (F0 m pc ls st0) := by
  intro T hT X
  rcases hr T hT X with ⟨v, st₀, t, T', L, h0, X', hL, e1, e2, ⟨⟨r, u, hv, hp, hb⟩, hF⟩, st⟩ | ⟨q, st₀, t, T', L, E, ce, h0, X', hL, e1, e2, ⟨u, hp, hb, hF⟩, hce, hcv, hcl, st⟩
  · cases hv
    obtain ⟨k1, k2, k3⟩ := vx_keep h0 e1 hS hA hf hL hF
    obtain ⟨t2, a1, b1⟩ := kk r u t T'.heap (locs ++ L) e1.symm (by rw [← e2]; exact X'.warmed.alike) hp hb k1 k2 k3 T' rfl X'
    exact ⟨t2, st t2 a1, b1⟩
  · obtain ⟨k1, k2, k3⟩ := vx_keep h0 e1 hS hAX hf hL hF
    obtain ⟨t2, a1, b1⟩ := kx E ce q u t T'.heap (locs ++ L) e1.symm (by rw [← e2]; exact X'.warmed.alike) hp hb k1 k2 k3 (by rw [e1]; exact hce) hcv hcl T' rfl X'
    exact ⟨t2, st.trans a1, b1⟩
theorem vx_callf {S SX : Type} {post : UInt32 → S → Prop} {px : SX → Prop} {B : S → State → Prop} {BX : String → SX → State → Prop} {AX : Nat → Prop} (hr : vx_Run p l e R s m args below meth c H locs cells slots mc ms (F0 m pc ls st0) rest (va_Qf post B A1 a) (vx_X px BX AX) free) (hS : va_S A0 H0 H locs) (hA : ∀ q, q < H.size → A1 q → A0 q) (hf : ∀ q, free q → A0 q) (hAX : ∀ q, q < H.size → AX q → A0 q)
    (kx : ∀ (E : String) (ce : Cell) (q9 : Addr) (u : SX) (t : State) (H1 : Heap) (locs1 : List Loc), t.heap = H1 → s.vm.Alike t.vm → px u → BX E u t → H.size ≤ H1.size → (∀ q : Nat, q < H.size → ¬ AX q → H1[q]? = H[q]?) → va_S A0 H0 H1 locs1 → H1[q9]? = some ce → ce.vm = .none → s.vm.findClass E = some ce.cls → vx_W p l e R s m args below meth c H1 locs1 (cells + mc) (slots + ms) Q (F0 m pc ls rest) q9)
    (kk : ∀ (r : UInt32) (u : S) (t : State) (H1 : Heap) (locs1 : List Loc), t.heap = H1 → s.vm.Alike t.vm → post r u → B u t → H.size ≤ H1.size → (∀ q : Nat, q < H.size → ¬ A1 q → H1[q]? = H[q]?) → va_S A0 H0 H1 locs1 → W p l e R s m args below meth c H1 locs1 (cells + mc) (slots + ms) Q (F0 m (pc + 3) ls (.float r :: rest))) : W p l e R s m args below meth c H locs cells slots Q (F0 m pc ls st0) := by
  intro T hT X
  rcases hr T hT X with ⟨v, st₀, t, T', L, h0, X', hL, e1, e2, ⟨⟨r, u, hv, hp, hb⟩, hF⟩, st⟩ | ⟨q, st₀, t, T', L, E, ce, h0, X', hL, e1, e2, ⟨u, hp, hb, hF⟩, hce, hcv, hcl, st⟩
  · cases hv
    obtain ⟨k1, k2, k3⟩ := vx_keep h0 e1 hS hA hf hL hF
    obtain ⟨t2, a1, b1⟩ := kk r u t T'.heap (locs ++ L) e1.symm (by rw [← e2]; exact X'.warmed.alike) hp hb k1 k2 k3 T' rfl X'
    exact ⟨t2, st t2 a1, b1⟩
  · obtain ⟨k1, k2, k3⟩ := vx_keep h0 e1 hS hAX hf hL hF
    obtain ⟨t2, a1, b1⟩ := kx E ce q u t T'.heap (locs ++ L) e1.symm (by rw [← e2]; exact X'.warmed.alike) hp hb k1 k2 k3 (by rw [e1]; exact hce) hcv hcl T' rfl X'
    exact ⟨t2, st.trans a1, b1⟩
theorem vx_calld {S SX : Type} {post : UInt64 → S → Prop} {px : SX → Prop} {B : S → State → Prop} {BX : String → SX → State → Prop} {AX : Nat → Prop} (hr : vx_Run p l e R s m args below meth c H locs cells slots mc ms (F0 m pc ls st0) rest (va_Qd post B A1 a) (vx_X px BX AX) free) (hS : va_S A0 H0 H locs) (hA : ∀ q, q < H.size → A1 q → A0 q) (hf : ∀ q, free q → A0 q) (hAX : ∀ q, q < H.size → AX q → A0 q)
    (kx : ∀ (E : String) (ce : Cell) (q9 : Addr) (u : SX) (t : State) (H1 : Heap) (locs1 : List Loc), t.heap = H1 → s.vm.Alike t.vm → px u → BX E u t → H.size ≤ H1.size → (∀ q : Nat, q < H.size → ¬ AX q → H1[q]? = H[q]?) → va_S A0 H0 H1 locs1 → H1[q9]? = some ce → ce.vm = .none → s.vm.findClass E = some ce.cls → vx_W p l e R s m args below meth c H1 locs1 (cells + mc) (slots + ms) Q (F0 m pc ls rest) q9)
    (kk : ∀ (r : UInt64) (u : S) (t : State) (H1 : Heap) (locs1 : List Loc), t.heap = H1 → s.vm.Alike t.vm → post r u → B u t → H.size ≤ H1.size → (∀ q : Nat, q < H.size → ¬ A1 q → H1[q]? = H[q]?) → va_S A0 H0 H1 locs1 → W p l e R s m args below meth c H1 locs1 (cells + mc) (slots + ms) Q (F0 m (pc + 3) ls (.double r :: rest))) : W p l e R s m args below meth c H locs cells slots Q (F0 m pc ls st0) := by
  intro T hT X
  rcases hr T hT X with ⟨v, st₀, t, T', L, h0, X', hL, e1, e2, ⟨⟨r, u, hv, hp, hb⟩, hF⟩, st⟩ | ⟨q, st₀, t, T', L, E, ce, h0, X', hL, e1, e2, ⟨u, hp, hb, hF⟩, hce, hcv, hcl, st⟩
  · cases hv
    obtain ⟨k1, k2, k3⟩ := vx_keep h0 e1 hS hA hf hL hF
    obtain ⟨t2, a1, b1⟩ := kk r u t T'.heap (locs ++ L) e1.symm (by rw [← e2]; exact X'.warmed.alike) hp hb k1 k2 k3 T' rfl X'
    exact ⟨t2, st t2 a1, b1⟩
  · obtain ⟨k1, k2, k3⟩ := vx_keep h0 e1 hS hAX hf hL hF
    obtain ⟨t2, a1, b1⟩ := kx E ce q u t T'.heap (locs ++ L) e1.symm (by rw [← e2]; exact X'.warmed.alike) hp hb k1 k2 k3 (by rw [e1]; exact hce) hcv hcl T' rfl X'
    exact ⟨t2, st.trans a1, b1⟩
theorem vx_callv {S SX : Type} {post : S → Prop} {px : SX → Prop} {B : S → State → Prop} {BX : String → SX → State → Prop} {AX : Nat → Prop} (hr : vx_Run p l e R s m args below meth c H locs cells slots mc ms (F0 m pc ls st0) rest (va_Qv post B A1 a) (vx_X px BX AX) free) (hS : va_S A0 H0 H locs) (hA : ∀ q, q < H.size → A1 q → A0 q) (hf : ∀ q, free q → A0 q) (hAX : ∀ q, q < H.size → AX q → A0 q)
    (kx : ∀ (E : String) (ce : Cell) (q9 : Addr) (u : SX) (t : State) (H1 : Heap) (locs1 : List Loc), t.heap = H1 → s.vm.Alike t.vm → px u → BX E u t → H.size ≤ H1.size → (∀ q : Nat, q < H.size → ¬ AX q → H1[q]? = H[q]?) → va_S A0 H0 H1 locs1 → H1[q9]? = some ce → ce.vm = .none → s.vm.findClass E = some ce.cls → vx_W p l e R s m args below meth c H1 locs1 (cells + mc) (slots + ms) Q (F0 m pc ls rest) q9)
    (kk : ∀ (u : S) (t : State) (H1 : Heap) (locs1 : List Loc), t.heap = H1 → s.vm.Alike t.vm → post u → B u t → H.size ≤ H1.size → (∀ q : Nat, q < H.size → ¬ A1 q → H1[q]? = H[q]?) → va_S A0 H0 H1 locs1 → W p l e R s m args below meth c H1 locs1 (cells + mc) (slots + ms) Q (F0 m (pc + 3) ls (rest))) : W p l e R s m args below meth c H locs cells slots Q (F0 m pc ls st0) := by
  intro T hT X
  rcases hr T hT X with ⟨v, st₀, t, T', L, h0, X', hL, e1, e2, ⟨⟨u, hv, hp, hb⟩, hF⟩, st⟩ | ⟨q, st₀, t, T', L, E, ce, h0, X', hL, e1, e2, ⟨u, hp, hb, hF⟩, hce, hcv, hcl, st⟩
  · cases hv
    obtain ⟨k1, k2, k3⟩ := vx_keep h0 e1 hS hA hf hL hF
    obtain ⟨t2, a1, b1⟩ := kk u t T'.heap (locs ++ L) e1.symm (by rw [← e2]; exact X'.warmed.alike) hp hb k1 k2 k3 T' rfl X'
    exact ⟨t2, st t2 a1, b1⟩
  · obtain ⟨k1, k2, k3⟩ := vx_keep h0 e1 hS hAX hf hL hF
    obtain ⟨t2, a1, b1⟩ := kx E ce q u t T'.heap (locs ++ L) e1.symm (by rw [← e2]; exact X'.warmed.alike) hp hb k1 k2 k3 (by rw [e1]; exact hce) hcv hcl T' rfl X'
    exact ⟨t2, st.trans a1, b1⟩
/-- caught by the row x of this method's table; the rows ahead don't take it -/
theorem vx_catch {own name : String} {E : String} {ce : Cell} {q : Addr} (hown : s.vm.findClass own = some m.cls) (pre : List ExceptionTableEntry) (x : ExceptionTableEntry) (suf : List ExceptionTableEntry) (hsplit : c.exceptionTable.toList = pre ++ x :: suf)
    (hpass : ∀ z ∈ pre, covers z pc = false ∨ (z.catchType ≠ 0 ∧ ∃ nm : String, (Cond.classLink own z.catchType nm).before args s = true ∧ va_Nc E nm s)) (hx : covers x pc = true) (h0 : x.catchType ≠ 0)
    (hlink : (Cond.classLink own x.catchType name).before args s = true) (hcast : (Cond.castable E name).before args s = true) (hcell : H[q]? = some ce) (hv : ce.vm = .none) (hcl : s.vm.findClass E = some ce.cls)
    (kk : W p l e R s m args below meth c H locs cells slots Q (F0 m x.handlerPc ls [.ref q])) : vx_W p l e R s m args below meth c H locs cells slots Q (F0 m pc ls rest) q := by
  intro T hT X
  have hpl : e.platform.magicAccessors = ({} : Platform).magicAccessors := by rw [X.admits.platform]
  obtain ⟨c3, c4, hc3, hc4, hasg⟩ := Cond.castable_spec hcast
  cases Option.some.inj (hc3.symm.trans hcl)
  obtain ⟨c5, hc5, hcl5⟩ := Cond.classLink_spec hown hlink e.platform hpl
  cases Option.some.inj (hc4.symm.trans hc5)
  obtain ⟨vm', X', st⟩ := X.thenCaughtThrough q (g := F0 m pc ls rest) rfl (Steps.refl _) (by rw [hT]; exact hcell) (by rw [hv]; rfl) (by obtain ⟨k9, h9, -⟩ := Vm.findClass_spec hcl; exact ⟨k9, h9⟩) pre x suf hsplit
    (fun z hz => by
      rcases hpass z hz with h | ⟨hz0, nm, hl1, hn1⟩
      · exact Or.inl h
      · obtain ⟨c6, hc6, hcl6⟩ := Cond.classLink_spec hown hl1 e.platform hpl
        obtain ⟨a8, b8, h1, h2, h3⟩ := hn1
        cases Option.some.inj (h1.symm.trans hcl)
        cases Option.some.inj (h2.symm.trans hc6)
        exact Or.inr ⟨hz0, _, hcl6, h3⟩) hx (Or.inr ⟨h0, c4, hcl5, hasg⟩)
  obtain ⟨t, a1, b1⟩ := kk (T.setVm vm') hT X'
  exact ⟨t, st.trans a1, b1⟩
end Rows
section Ends
variable {p : Program} {l : Launch} {e : Env} {R : Room} {s : State} {m : MethodId} {args : Array Value} {below : List Frame} {meth : Method} {c : Code} {H : Heap} {locs : List Loc} {cells slots : Nat} {Q : State → Prop}
variable {mc ms : Nat} {free : Addr → Prop} {A0 A1 : Nat → Prop} {H0 : Heap} {a : Array Value} {ls : Array Slot} {st0 rest : List Value}
variable {Qc : Array Value → State → Outcome → State → Prop} {XC : String → State → State → Prop}
/-- what a body that may throw owes at its end -/
def vx_MQ (below : List Frame) (Qc : Array Value → State → Outcome → State → Prop) (XC : String → State → State → Prop) (a : Array Value) (s : State) (mc ms : Nat) (free : Addr → Prop) : State → Prop := fun t =>
  ∃ o, t.status = .running ∧ Ended t below o ∧ vx_Q Qc XC mc ms free a s o t
theorem vx_ret {g : JFrame} {mc ms : Nat} (k : W p l e R s m args below meth c H locs cells slots (MQ below Qc args s mc ms free) g) : W p l e R s m args below meth c H locs cells slots (vx_MQ below Qc XC args s mc ms free) g := by
  intro T hT X
  obtain ⟨t, a1, o, b1, b2, b3, b4⟩ := k T hT X
  exact ⟨t, a1, o, b1, b2, Or.inl ⟨b3, b4⟩⟩
/-- not caught here: it goes on to the caller -/
theorem vx_widen {g : JFrame} {q : Addr} {k n : Nat} (h1 : cells ≤ k) (h2 : slots ≤ n) (kk : vx_W p l e R s m args below meth c H locs k n Q g q) : vx_W p l e R s m args below meth c H locs cells slots Q g q := fun T hT X => kk T hT (stand_widen X h1 h2)
theorem vx_out {pc : Nat} {E : String} {ce : Cell} {q : Addr} {mc ms : Nat} (hout : ∀ x ∈ c.exceptionTable.toList, covers x pc = false) (hlocks : meth.locks = false) (hcell : H[q]? = some ce) (hv : ce.vm = .none) (hcl : s.vm.findClass E = some ce.cls)
    (hx : ∀ t : State, t.heap = H → s.vm.Alike t.vm → XC E s t) (hf : ∀ z ∈ locs, free z.base) (hc : cells ≤ mc) (hs : slots ≤ ms) :
    vx_W p l e R s m args below meth c H locs cells slots (vx_MQ below Qc XC args s mc ms free) (F0 m pc ls rest) q := by
  intro T hT X
  obtain ⟨st1, hrun, hend, hW, hsm⟩ := X.leaveThrown q (g := F0 m pc ls rest) rfl rfl rfl hout hlocks
  have hcell9 : (T.setFrames (.throwing q :: below)).heap[q]? = some ce := by
    show T.heap[q]? = some ce
    rw [hT]; exact hcell
  exact ⟨_, st1, .threw q, hrun, hend, Or.inr ⟨q, rfl, E, ce, locs, hx _ hT hW.alike, hcell9, hv, hcl, hW, hsm.mono hc hs, hf⟩⟩
theorem vx_frame {U : State} {k n : Nat} (h : s.sameButNew ({ U with vm := s.vm } : State) locs k n) : s.heap.size ≤ U.heap.size ∧ ∀ q : Nat, q < s.heap.size → (∀ z ∈ locs, z.base ≠ q) → U.heap[q]? = s.heap[q]? := by
  obtain ⟨-, h2, -, -, -, h6⟩ := h
  refine ⟨h2, fun q hq hz => ?_⟩
  obtain ⟨c9, e1, e2, e3, e4⟩ := h6 q _ (Array.getElem?_eq_getElem hq)
  have hs : c9.slots = (s.heap[q]).slots := Array.ext_getElem? fun i => e4 i fun hm => hz _ hm rfl
  have h9 : c9 = s.heap[q] := by
    rw [hs] at e2
    exact e2
  have e5 : U.heap[q]? = some c9 := e1
  rw [e5, h9, Array.getElem?_eq_getElem hq]
/-- the words of a throw but the four that speak of the heap -/
def vx_no (w : Cond) : Bool := decide (w ≠ .isRef (.static Bundle.tN "UNASSIGNED_STACK" Bundle.steD)) && decide (w ≠ .isRef (.static Bundle.tN "SUPPRESSED_SENTINEL" Bundle.listD)) && decide (w ≠ .laysStatic Bundle.tN "UNASSIGNED_STACK" Bundle.steD) && decide (w ≠ .laysStatic Bundle.tN "SUPPRESSED_SENTINEL" Bundle.listD)
def vx_at0 (own : String) (ic : Nat) (X : String) (names : List String) : List Cond := (Bundle.ownAtoms0 own ic X names).filter vx_no
def vx_atS (own : String) (ic : Nat) (X : String) (names : List String) : List Cond := (Bundle.ownAtoms own ic X names).filter vx_no
/-- a word that the tables alone decide, or a good one -/
def vx_ot (w : Cond) : Bool := w.onTables || goodWord w
theorem vx_ot_at {args a' : Array Value} {s U : State} {w : Cond} (hW : s.WarmedH U.vm) (hvm : s.vm = U.vm) (hg : vx_ot w = true) (h : w.before args s = true) : w.before a' U = true := by
  simp only [vx_ot, Bool.or_eq_true] at hg
  rcases hg with hg | hg
  · exact va_tabs hg hvm h
  · exact word_at hW (good_of_word hg) h
/-- a list's words: the good ones out of the method's own list, the others by premises of their own -/
theorem vx_hat {args : Array Value} {s : State} {L B : List Cond} (h1 : ∀ w ∈ L.filter goodWord, w.before args s = true) (h2 : ∀ w ∈ L.filter (fun w => !goodWord w), w ∈ B) (h3 : ∀ w ∈ B, w.before args s = true) : ∀ w ∈ L, w.before args s = true := by
  intro w hw
  by_cases g : goodWord w = true
  · exact h1 w (List.mem_filter.mpr ⟨hw, g⟩)
  · refine h3 w (h2 w (List.mem_filter.mpr ⟨hw, ?_⟩))
    show (!goodWord w) = true
    cases hgw : goodWord w
    · rfl
    · exact absurd hgw g
theorem vx_c {args : Array Value} {s : State} {w : Cond} {B : List Cond} (h : w.before args s = true) (t : ∀ w ∈ B, w.before args s = true) : ∀ w' ∈ w :: B, w'.before args s = true := fun w' h' => (List.mem_cons.mp h').elim (fun e => by rw [e]; exact h) (t w')
theorem vx_n {args : Array Value} {s : State} : ∀ w ∈ ([] : List Cond), w.before args s = true := fun _ h => nomatch h
theorem vx_own {args : Array Value} {s : State} {L : List Cond} (h1 : ∀ w ∈ L.filter vx_no, w.before args s = true)
    (hU : (Cond.isRef (.static Bundle.tN "UNASSIGNED_STACK" Bundle.steD)).before args s = true) (hN : (Cond.isRef (.static Bundle.tN "SUPPRESSED_SENTINEL" Bundle.listD)).before args s = true)
    (lU : (Cond.laysStatic Bundle.tN "UNASSIGNED_STACK" Bundle.steD).before args s = true) (lN : (Cond.laysStatic Bundle.tN "SUPPRESSED_SENTINEL" Bundle.listD).before args s = true) : ∀ w ∈ L, w.before args s = true := by
  intro w hw
  by_cases e1 : w = .isRef (.static Bundle.tN "UNASSIGNED_STACK" Bundle.steD)
  · rw [e1]; exact hU
  · by_cases e2 : w = .isRef (.static Bundle.tN "SUPPRESSED_SENTINEL" Bundle.listD)
    · rw [e2]; exact hN
    · by_cases e3 : w = .laysStatic Bundle.tN "UNASSIGNED_STACK" Bundle.steD
      · rw [e3]; exact lU
      · by_cases e4 : w = .laysStatic Bundle.tN "SUPPRESSED_SENTINEL" Bundle.listD
        · rw [e4]; exact lN
        · exact h1 w (List.mem_filter.mpr ⟨hw, by unfold vx_no; rw [decide_eq_true e1, decide_eq_true e2, decide_eq_true e3, decide_eq_true e4]; rfl⟩)
/-- where a static field lies, its class's statics cell in H -/
def vx_L (C n d : String) (A : Nat → Prop) (U : State) (H : Heap) : Prop := ∃ (c : ClassId) (k : Class) (i : Nat) (f : Field) (a : Nat) (cell : Cell), U.vm.findClass C = some c ∧ U.fieldFound? C n d = some (c, k, i, f) ∧ f.isStatic = true ∧ k.statics = some a ∧ H[a]? = some cell ∧ cell.vm.isStatics = true ∧ cell.cls = c ∧ f.slot < cell.slots.size ∧ k.staticTypes[f.slot]? = some f.type ∧ ¬ A a
theorem vx_L.moved {C n d : String} {A : Nat → Prop} {u U : State} {H : Heap} (hvm : u.vm.Alike U.vm) (h : vx_L C n d A u H) : vx_L C n d A U H := by
  obtain ⟨c, k, i, f, a, cell, h1, h2, h3, h4, h5, h6, h7, h8, h9, h10⟩ := h
  obtain ⟨k', hi', he⟩ := State.fieldFound?_setVm hvm h2
  exact ⟨c, k', i, f, a, cell, by rw [hvm.findClass]; exact h1, hi', h3, by rw [he]; exact h4, h5, h6, h7, h8, by rw [he]; exact h9, h10⟩
theorem vx_L.kept {C n d : String} {A : Nat → Prop} {U : State} {H H1 : Heap} (h : vx_L C n d A U H) (hq : ∀ a : Nat, a < H.size → ¬ A a → H1[a]? = H[a]?) : vx_L C n d A U H1 := by
  obtain ⟨c, k, i, f, a, cell, h1, h2, h3, h4, h5, h6, h7, h8, h9, h10⟩ := h
  exact ⟨c, k, i, f, a, cell, h1, h2, h3, h4, by rw [hq a (Array.getElem?_eq_some_iff.mp h5).1 h10]; exact h5, h6, h7, h8, h9, h10⟩
theorem vx_L.narrow {C n d : String} {A B : Nat → Prop} {U : State} {H : Heap} (h : vx_L C n d A U H) (hAB : ∀ q, B q → A q) : vx_L C n d B U H := by
  obtain ⟨c, k, i, f, a, cell, h1, h2, h3, h4, h5, h6, h7, h8, h9, h10⟩ := h
  exact ⟨c, k, i, f, a, cell, h1, h2, h3, h4, h5, h6, h7, h8, h9, fun z => h10 (hAB _ z)⟩
theorem vx_L.word {C n d : String} {A : Nat → Prop} {s : State} {args : Array Value} (h : vx_L C n d A s s.heap) : (Cond.laysStatic C n d).before args s = true := by
  obtain ⟨c, k, i, f, a, cell, h1, h2, h3, h4, h5, h6, h7, h8, h9, -⟩ := h
  show (Cond.laysStatic C n d).holds args s none s [] = true
  exact Cond.laysStatic_of h1 h2 h3 h4 h5 h6 h7 h8 h9
/-- .. and what it holds: null or some reference -/
def vx_Zq (C n d : String) (A : Nat → Prop) (U : State) (H : Heap) : Prop := va_Zq C n d A U H ∧ vx_L C n d A U H
theorem vx_Zq.moved {C n d : String} {A : Nat → Prop} {u U : State} {H : Heap} (hvm : u.vm.Alike U.vm) (h : vx_Zq C n d A u H) : vx_Zq C n d A U H := ⟨va_Zq.moved hvm h.1, vx_L.moved hvm h.2⟩
theorem vx_Zq.kept {C n d : String} {A : Nat → Prop} {U : State} {H H1 : Heap} (h : vx_Zq C n d A U H) (hq : ∀ a : Nat, a < H.size → ¬ A a → H1[a]? = H[a]?) : vx_Zq C n d A U H1 := ⟨va_Zq.kept h.1 hq, vx_L.kept h.2 hq⟩
theorem vx_Zq.narrow {C n d : String} {A B : Nat → Prop} {U : State} {H : Heap} (h : vx_Zq C n d A U H) (hAB : ∀ q, B q → A q) : vx_Zq C n d B U H := ⟨va_Zq.narrow h.1 hAB, vx_L.narrow h.2 hAB⟩
theorem vx_Zqof {args : Array Value} {s : State} {C n d : String} {A : Nat → Prop} (hl : (Cond.laysStatic C n d).before args s = true) (hini : (Cond.initialized C).before args s = true) (h : (Cond.isRef (.static C n d)).before args s = true) (hA : ∀ a : Nat, a < s.heap.size → ¬ A a) : vx_Zq C n d A s s.heap := by
  refine ⟨va_Zqof hl hini h hA, ?_⟩
  obtain ⟨c, k, i, f, a, cell, h1, h2, h3, h4, h5, h6, h7, h8, h9⟩ := Cond.laysStatic_spec hl
  exact ⟨c, k, i, f, a, cell, h1, h2, h3, h4, h5, h6, h7, h8, h9, hA a (Array.getElem?_eq_some_iff.mp h5).1⟩
theorem vx_isRef {C n d : String} {v : Value} {A : Nat → Prop} {s : State} {args : Array Value} (h : va_Z C n d v A s s.heap) (hv : v.isRef = true) : (Cond.isRef (.static C n d)).before args s = true := by
  obtain ⟨cf, kf, fi, f, a, cell, h1, h2, h3, h4, h5, h6, h7, -⟩ := h
  have he : (Term.static C n d).eval args s none [] s = some v := by
    simp [Term.eval, State.fieldNamed?, h1, h2, h4, h5, h6, h7]
  simp only [Cond.before, Cond.holds, Cond.value, he]
  cases v <;> simp_all [Value.isRef]
theorem vx_isRefq {C n d : String} {A : Nat → Prop} {s : State} {args : Array Value} (h : va_Zq C n d A s s.heap) : (Cond.isRef (.static C n d)).before args s = true := by
  rcases h with h | ⟨t, h⟩
  · exact vx_isRef h rfl
  · exact vx_isRef h rfl
/-- the same frame, seen from here: as if the method were called anew in this heap -/
theorem vx_rebase {T : State} (X : Stand p l e R s m args below meth c T locs cells slots) {R' : Room} (hf : R'.frames ≤ R.frames) (hl : R'.locals ≤ R.locals) (hc : cells + R'.cells ≤ R.cells) (hs : slots + R'.slots ≤ R.slots) :
    Stand p l e R' ((T.setVm s.vm).setFrames (.invoking m args :: below)) m args below meth c T [] 0 0 := by
  have htop : (T.setVm s.vm).topJava?.isSome := X.here.top
  have hF : ((T.setVm s.vm).setFrames (.invoking m args :: below)).frames = .invoking m args :: below := State.frames_setFrames _ (State.cur_lt_of_top htop)
  obtain ⟨g₀, hg0⟩ := Option.isSome_iff_exists.mp htop
  obtain ⟨r, hr⟩ := State.topJava?_eq_some.mp hg0
  have hl9 : e.platform.stackLimits (T.setVm s.vm).me = e.platform.stackLimits s.me := X.limits
  have hb9 : (T.setVm s.vm).me.stackBytes = s.me.stackBytes := X.bytes
  refine ⟨X.admits, X.cas, X.clock, hF, ?_, X.hears, X.method, X.code, X.here, X.tail, X.warmed, ?_, ?_, ?_⟩
  · have h := X.room
    have hU : ((T.setVm s.vm).setFrames (.invoking m args :: below)).localsInUse = s.localsInUse := by
      rw [State.localsInUse_invoking hF (meth := meth) (c := c) X.method X.code, State.localsInUse_invoking X.frames X.method X.code]
    simp only [State.hasRoom, Bool.and_eq_true, decide_eq_true_eq] at h ⊢
    obtain ⟨⟨⟨⟨h1, h2, h3, h4, h5, h6⟩, h7⟩, h8⟩, h9⟩ := h
    rw [X.frames, List.length_cons] at h2 h3
    have q1 := X.heapSize
    have q2 := X.used
    simp only [hF, hU, List.length_cons, State.stackLimits_setFrames, State.stackBytes_setFrames, hl9, hb9]
    refine ⟨⟨⟨⟨by omega, by omega, by omega, by omega, by omega, h6⟩, ?_⟩, ?_⟩, X.book⟩
    · show T.heap.size + R'.cells ≤ e.platform.maxCells
      omega
    · show T.slotsUsed + R'.slots ≤ e.platform.maxSlots
      omega
  · rw [State.stackLimits_setFrames]; rfl
  · rw [State.stackBytes_setFrames]; rfl
  · refine ⟨?_, Nat.le_refl _, Nat.le_refl _, ?_, ?_, fun a c9 h9 => ⟨c9, h9, rfl, rfl, fun _ _ => rfl⟩⟩
    · obtain ⟨t, ht, -⟩ := State.frames_cons hr
      show T.setVm s.vm = { ((T.setVm s.vm).setFrames (.invoking m args :: below)).setFrames (T.setVm s.vm).frames with heap := T.heap, slotsUsed := T.slotsUsed }
      rw [State.setFrames_setFrames, State.setFrames_self ht]
      rfl
    · show T.slotsUsed = T.slotsUsed + ((T.heap.toList.drop T.heap.size).map (·.slots.size)).sum
      rw [List.drop_eq_nil_of_le (Nat.le_of_eq Array.length_toList)]
      rfl
    · show ((T.heap.toList.drop T.heap.size).map (·.slots.size)).sum ≤ 0
      rw [List.drop_eq_nil_of_le (Nat.le_of_eq Array.length_toList)]
      exact Nat.le_refl _
/-- 'throw new E()': new; dup; invokespecial; athrow -/
theorem vx_throw0 {cc : ByteArray} {pc : Nat} (hexec : p.tables.exec = Jvm.exec) (hb : c.code = cc) (hl : l.stackTraces = false) {own cls : String} {names : List String} {ik ic mc ms : Nat} {A : Nat → Prop}
    (hown : s.vm.findClass own = some m.cls) (hcls : Bundle.fit cls = true) (hnames : ∀ n ∈ names, Bundle.fit n = true)
    (hk : (Cond.classLink own ik cls).before args s = true) (hini : (Cond.initialized cls).before args s = true) (hat : ∀ w ∈ vx_at0 own ic cls names, w.before args s = true)
    (hgood : ∀ w ∈ Cond.classLink own ik cls :: Cond.initialized cls :: vx_at0 own ic cls names, vx_ot w = true)
    (hU : vx_Zq Bundle.tN "UNASSIGNED_STACK" Bundle.steD A s s.heap) (hN : vx_Zq Bundle.tN "SUPPRESSED_SENTINEL" Bundle.listD A s s.heap) (hS : va_S A s.heap H locs) (hsize : ls.size = c.maxLocals)
    (d0 : decode cc pc = .ok (.new ik, 3)) (d3 : decode cc (pc + 3) = .ok (.dup, 1)) (d4 : decode cc (pc + 4) = .ok (.invokespecial ic, 3)) (d7 : decode cc (pc + 7) = .ok (.athrow, 1))
    (hout : ∀ x ∈ c.exceptionTable.toList, covers x (pc + 7) = false)
    (hRframes : names.length + 3 < R.frames) (hRlocals : (rest.map fun v => v.category).sum + (13 * (names.length + 1) + 42) ≤ R.locals) (hRcells : cells + 1 ≤ R.cells) (hRslots : slots + 6 ≤ R.slots) (hlocks : meth.locks = false)
    (hx : ∀ t : State, s.vm.Alike t.vm → H.size ≤ t.heap.size → (∀ q : Nat, q < H.size → t.heap[q]? = H[q]?) → XC cls s t)
    (hf : ∀ z ∈ locs, free z.base) (hc : cells + 1 ≤ mc) (hs : slots + 6 ≤ ms) :
    W p l e R s m args below meth c H locs cells slots (vx_MQ below Qc XC args s mc ms free) (F0 m pc ls rest) := by
  intro T hT X
  have htr : e.platform.stackTraces = false := (show e.platform.stackTraces = l.stackTraces by rw [X.admits.platform]).trans hl
  have Y := vx_rebase X (R' := { frames := R.frames, locals := R.locals, cells := 1, slots := 6 }) (Nat.le_refl _) (Nat.le_refl _) hRcells hRslots
  obtain ⟨s', hA⟩ : ∃ z, z = (T.setVm s.vm).setFrames (.invoking m args :: below) := ⟨_, rfl⟩
  rw [← hA] at Y
  have hvm : s'.vm = s.vm := by rw [hA]; rfl
  have hhp : s'.heap = H := by rw [hA]; exact hT
  have hW0 : s.WarmedH s'.vm := by rw [hvm]; exact State.WarmedH.refl s
  have hat' : ∀ w ∈ vx_at0 own ic cls names, w.before args s' = true := fun w hw => vx_ot_at hW0 hvm.symm (hgood w (List.mem_cons_of_mem _ (List.mem_cons_of_mem _ hw))) (hat w hw)
  have hk' : (Cond.classLink own ik cls).before args s' = true := vx_ot_at hW0 hvm.symm (hgood _ List.mem_cons_self) hk
  have hini' : (Cond.initialized cls).before args s' = true := vx_ot_at hW0 hvm.symm (hgood _ (List.mem_cons_of_mem _ List.mem_cons_self)) hini
  have hU' : vx_Zq Bundle.tN "UNASSIGNED_STACK" Bundle.steD A s' s'.heap := by rw [hhp]; exact vx_Zq.moved hW0.alike (hU.kept hS.2.1)
  have hN' : vx_Zq Bundle.tN "SUPPRESSED_SENTINEL" Bundle.listD A s' s'.heap := by rw [hhp]; exact vx_Zq.moved hW0.alike (hN.kept hS.2.1)
  have h : ∀ w ∈ Bundle.ownAtoms0 own ic cls names, w.before args s' = true := vx_own hat' (vx_isRefq hU'.1) (vx_isRefq hN'.1) hU'.2.word hN'.2.word
  have hown' : s'.vm.findClass own = some m.cls := by rw [hvm]; exact hown
  have hins : (Cond.instantiable cls 6).before args s' = true := h _ (by simp [Bundle.ownAtoms0])
  obtain ⟨vm₁, cX, kX, hfX, hkX, -, -, X₁, st1⟩ := Y.newCold hexec (own := own) (C := cls) (index := ik) (n := 6) hown' hk' hins hini'
    (g := F0 m pc ls rest) rfl (by rw [hb]; exact d0) (Nat.le_refl _) (Nat.le_refl _)
  generalize hT1 : (T.setVm vm₁).pushCell { cls := cX, slots := kX.instanceTypes.map defaultValue, vm := .none } = T1 at X₁ st1
  have hcat : (Value.ref T.heap.size).category = 1 := rfl
  have hcellA : T1.heap[T.heap.size]? = some (freshCell cX kX) := by rw [← hT1]; exact State.heap_pushCell_size _ _
  have d3' : decode c.code (pc + 3) = .ok (.dup, 1) := by rw [hb]; exact d3
  obtain ⟨U, hsteps, hrun, hend, hW, hsame, ce, hce, hO⟩ := X₁.ctorThrow0 hexec htr (own := own) (cls := cls) (names := names) (ic := ic) hown' hcls hnames h (fun x hx => nomatch hx) hfX hkX hcellA (by rw [hhp, hT]; exact Nat.le_refl _)
    (g := { method := m, pc := pc + 4, locals := ls, stack := .ref T.heap.size :: .ref T.heap.size :: rest, locked := none }) rfl hsize rfl rfl (rest := rest) rfl
    (by rw [hb]; exact d4) (by rw [hb]; exact d7) hout hRframes (by simp only [List.map_cons, List.sum_cons, hcat]; omega) hlocks
  obtain ⟨f1, f2⟩ := vx_frame hsame
  rw [hhp] at f1 f2
  have hWs : s.WarmedH U.vm := State.WarmedH.trans hW0 hW
  have hcl : s.vm.findClass cls = some ce.cls := by
    have h9 := hO.cls
    rw [hvm] at h9
    exact h9
  have hall : s.sameButNew ({ U with vm := s.vm } : State) locs mc ms := by
    subst hA
    obtain ⟨e1, e2⟩ := hsame
    rw [State.setFrames_setFrames] at e1
    have h2 : (T.setVm s.vm).sameButNew ({ U with vm := s.vm } : State) [] (0 + 1) (0 + 6) := ⟨e1, e2⟩
    have h3 := X.same.trans h2
    rw [List.append_nil] at h3
    exact h3.mono hc hs
  refine ⟨U, ?_, .threw T.heap.size, hrun, hend, Or.inr ⟨T.heap.size, rfl, cls, ce, locs, hx U hWs.alike f1 (fun q hq => f2 q hq (fun z hz => nomatch hz)), hce, hO.vm, hcl, hWs, hall, hf⟩⟩
  refine st1 _ ?_
  show Steps p.tables e below (T1.setTop { method := m, pc := pc + 3, locals := ls, stack := .ref T.heap.size :: rest, locked := none }) _
  jvm_step X₁.here [X₁.here.top, hexec, d3', Value.category]
  exact hsteps
/-- 'throw new E("text")': new; dup; ldc; invokespecial; athrow -/
theorem vx_throwS {cc : ByteArray} {pc : Nat} (hexec : p.tables.exec = Jvm.exec) (hb : c.code = cc) (hl : l.stackTraces = false) {own cls text : String} {names : List String} {ik is ic mc ms sa : Nat} {A : Nat → Prop}
    (hown : s.vm.findClass own = some m.cls) (hcls : Bundle.fit cls = true) (hnames : ∀ n ∈ names, Bundle.fit n = true)
    (hk : (Cond.classLink own ik cls).before args s = true) (hini : (Cond.initialized cls).before args s = true) (hstr : vk_R own is text sa s) (hat : ∀ w ∈ vx_atS own ic cls names, w.before args s = true)
    (hgood : ∀ w ∈ Cond.classLink own ik cls :: Cond.initialized cls :: vx_atS own ic cls names, vx_ot w = true)
    (hU : vx_Zq Bundle.tN "UNASSIGNED_STACK" Bundle.steD A s s.heap) (hN : vx_Zq Bundle.tN "SUPPRESSED_SENTINEL" Bundle.listD A s s.heap) (hS : va_S A s.heap H locs) (hsize : ls.size = c.maxLocals)
    (d0 : decode cc pc = .ok (.new ik, 3)) (d3 : decode cc (pc + 3) = .ok (.dup, 1)) (d4 : decode cc (pc + 4) = .ok (.ldc is, 2)) (d6 : decode cc (pc + 6) = .ok (.invokespecial ic, 3)) (d9 : decode cc (pc + 9) = .ok (.athrow, 1))
    (hout : ∀ x ∈ c.exceptionTable.toList, covers x (pc + 9) = false)
    (hRframes : names.length + 3 < R.frames) (hRlocals : (rest.map fun v => v.category).sum + (13 * (names.length + 1) + 43) ≤ R.locals) (hRcells : cells + 1 ≤ R.cells) (hRslots : slots + 6 ≤ R.slots) (hlocks : meth.locks = false)
    (hx : ∀ t : State, s.vm.Alike t.vm → H.size ≤ t.heap.size → (∀ q : Nat, q < H.size → t.heap[q]? = H[q]?) → XC cls s t)
    (hf : ∀ z ∈ locs, free z.base) (hc : cells + 1 ≤ mc) (hs : slots + 6 ≤ ms) :
    W p l e R s m args below meth c H locs cells slots (vx_MQ below Qc XC args s mc ms free) (F0 m pc ls rest) := by
  intro T hT X
  have htr : e.platform.stackTraces = false := (show e.platform.stackTraces = l.stackTraces by rw [X.admits.platform]).trans hl
  have Y := vx_rebase X (R' := { frames := R.frames, locals := R.locals, cells := 1, slots := 6 }) (Nat.le_refl _) (Nat.le_refl _) hRcells hRslots
  obtain ⟨s', hA⟩ : ∃ z, z = (T.setVm s.vm).setFrames (.invoking m args :: below) := ⟨_, rfl⟩
  rw [← hA] at Y
  have hvm : s'.vm = s.vm := by rw [hA]; rfl
  have hhp : s'.heap = H := by rw [hA]; exact hT
  have hW0 : s.WarmedH s'.vm := by rw [hvm]; exact State.WarmedH.refl s
  have hat' : ∀ w ∈ vx_atS own ic cls names, w.before args s' = true := fun w hw => vx_ot_at hW0 hvm.symm (hgood w (List.mem_cons_of_mem _ (List.mem_cons_of_mem _ hw))) (hat w hw)
  have hk' : (Cond.classLink own ik cls).before args s' = true := vx_ot_at hW0 hvm.symm (hgood _ List.mem_cons_self) hk
  have hini' : (Cond.initialized cls).before args s' = true := vx_ot_at hW0 hvm.symm (hgood _ (List.mem_cons_of_mem _ List.mem_cons_self)) hini
  have hU' : vx_Zq Bundle.tN "UNASSIGNED_STACK" Bundle.steD A s' s'.heap := by rw [hhp]; exact vx_Zq.moved hW0.alike (hU.kept hS.2.1)
  have hN' : vx_Zq Bundle.tN "SUPPRESSED_SENTINEL" Bundle.listD A s' s'.heap := by rw [hhp]; exact vx_Zq.moved hW0.alike (hN.kept hS.2.1)
  have h : ∀ w ∈ Bundle.ownAtoms own ic cls names, w.before args s' = true := vx_own hat' (vx_isRefq hU'.1) (vx_isRefq hN'.1) hU'.2.word hN'.2.word
  have hown' : s'.vm.findClass own = some m.cls := by rw [hvm]; exact hown
  have hins : (Cond.instantiable cls 6).before args s' = true := h _ (by simp [Bundle.ownAtoms])
  obtain ⟨vm₁, cX, kX, hfX, hkX, -, -, X₁, st1⟩ := Y.newCold hexec (own := own) (C := cls) (index := ik) (n := 6) hown' hk' hins hini'
    (g := F0 m pc ls rest) rfl (by rw [hb]; exact d0) (Nat.le_refl _) (Nat.le_refl _)
  generalize hT1 : (T.setVm vm₁).pushCell { cls := cX, slots := kX.instanceTypes.map defaultValue, vm := .none } = T1 at X₁ st1
  have hcat : (Value.ref T.heap.size).category = 1 := rfl
  have hcellA : T1.heap[T.heap.size]? = some (freshCell cX kX) := by rw [← hT1]; exact State.heap_pushCell_size _ _
  have d3' : decode c.code (pc + 3) = .ok (.dup, 1) := by rw [hb]; exact d3
  have d4' : decode c.code (pc + 4) = .ok (.ldc is, 2) := by rw [hb]; exact d4
  have hstr' : vk_R own is text sa s' := vk_R.warm hW0 hstr
  obtain ⟨U, hsteps, hrun, hend, hW, hsame, ce, hce, hO⟩ := X₁.ctorThrowS hexec htr (own := own) (cls := cls) (names := names) (ic := ic) hown' hcls hnames h (fun x hx => nomatch hx) hfX hkX hcellA (by rw [hhp, hT]; exact Nat.le_refl _) (msg := .ref sa) rfl
    (g := { method := m, pc := pc + 6, locals := ls, stack := .ref sa :: .ref T.heap.size :: .ref T.heap.size :: rest, locked := none }) rfl hsize rfl rfl (rest := rest) rfl
    (by rw [hb]; exact d6) (by rw [hb]; exact d9) hout hRframes (by simp only [List.map_cons, List.sum_cons, hcat]; omega) hlocks
  obtain ⟨f1, f2⟩ := vx_frame hsame
  rw [hhp] at f1 f2
  have hWs : s.WarmedH U.vm := State.WarmedH.trans hW0 hW
  have hcl : s.vm.findClass cls = some ce.cls := by
    have h9 := hO.cls
    rw [hvm] at h9
    exact h9
  have hall : s.sameButNew ({ U with vm := s.vm } : State) locs mc ms := by
    subst hA
    obtain ⟨e1, e2⟩ := hsame
    rw [State.setFrames_setFrames] at e1
    have h2 : (T.setVm s.vm).sameButNew ({ U with vm := s.vm } : State) [] (0 + 1) (0 + 6) := ⟨e1, e2⟩
    have h3 := X.same.trans h2
    rw [List.append_nil] at h3
    exact h3.mono hc hs
  refine ⟨U, ?_, .threw T.heap.size, hrun, hend, Or.inr ⟨T.heap.size, rfl, cls, ce, locs, hx U hWs.alike f1 (fun q hq => f2 q hq (fun z hz => nomatch hz)), hce, hO.vm, hcl, hWs, hall, hf⟩⟩
  refine st1 _ ?_
  show Steps p.tables e below (T1.setTop { method := m, pc := pc + 3, locals := ls, stack := .ref T.heap.size :: rest, locked := none }) _
  jvm_step X₁.here [X₁.here.top, hexec, d3', Value.category]
  exact X₁.ldcString hexec (own := own) (text := text) (index := is) (a := sa) hown' hstr'.1 hstr'.2
    (g := { method := m, pc := pc + 4, locals := ls, stack := .ref T.heap.size :: .ref T.heap.size :: rest, locked := none }) rfl d4' _ hsteps
/-- 'throw new E("text")', the text by a wide index -/
theorem vx_throwSW {cc : ByteArray} {pc : Nat} (hexec : p.tables.exec = Jvm.exec) (hb : c.code = cc) (hl : l.stackTraces = false) {own cls text : String} {names : List String} {ik is ic mc ms sa : Nat} {A : Nat → Prop}
    (hown : s.vm.findClass own = some m.cls) (hcls : Bundle.fit cls = true) (hnames : ∀ n ∈ names, Bundle.fit n = true)
    (hk : (Cond.classLink own ik cls).before args s = true) (hini : (Cond.initialized cls).before args s = true) (hstr : vk_R own is text sa s) (hat : ∀ w ∈ vx_atS own ic cls names, w.before args s = true)
    (hgood : ∀ w ∈ Cond.classLink own ik cls :: Cond.initialized cls :: vx_atS own ic cls names, vx_ot w = true)
    (hU : vx_Zq Bundle.tN "UNASSIGNED_STACK" Bundle.steD A s s.heap) (hN : vx_Zq Bundle.tN "SUPPRESSED_SENTINEL" Bundle.listD A s s.heap) (hS : va_S A s.heap H locs) (hsize : ls.size = c.maxLocals)
    (d0 : decode cc pc = .ok (.new ik, 3)) (d3 : decode cc (pc + 3) = .ok (.dup, 1)) (d4 : decode cc (pc + 4) = .ok (.ldc_w is, 3)) (d7 : decode cc (pc + 7) = .ok (.invokespecial ic, 3)) (d10 : decode cc (pc + 10) = .ok (.athrow, 1))
    (hout : ∀ x ∈ c.exceptionTable.toList, covers x (pc + 10) = false)
    (hRframes : names.length + 3 < R.frames) (hRlocals : (rest.map fun v => v.category).sum + (13 * (names.length + 1) + 43) ≤ R.locals) (hRcells : cells + 1 ≤ R.cells) (hRslots : slots + 6 ≤ R.slots) (hlocks : meth.locks = false)
    (hx : ∀ t : State, s.vm.Alike t.vm → H.size ≤ t.heap.size → (∀ q : Nat, q < H.size → t.heap[q]? = H[q]?) → XC cls s t)
    (hf : ∀ z ∈ locs, free z.base) (hc : cells + 1 ≤ mc) (hs : slots + 6 ≤ ms) :
    W p l e R s m args below meth c H locs cells slots (vx_MQ below Qc XC args s mc ms free) (F0 m pc ls rest) := by
  intro T hT X
  have htr : e.platform.stackTraces = false := (show e.platform.stackTraces = l.stackTraces by rw [X.admits.platform]).trans hl
  have Y := vx_rebase X (R' := { frames := R.frames, locals := R.locals, cells := 1, slots := 6 }) (Nat.le_refl _) (Nat.le_refl _) hRcells hRslots
  obtain ⟨s', hA⟩ : ∃ z, z = (T.setVm s.vm).setFrames (.invoking m args :: below) := ⟨_, rfl⟩
  rw [← hA] at Y
  have hvm : s'.vm = s.vm := by rw [hA]; rfl
  have hhp : s'.heap = H := by rw [hA]; exact hT
  have hW0 : s.WarmedH s'.vm := by rw [hvm]; exact State.WarmedH.refl s
  have hat' : ∀ w ∈ vx_atS own ic cls names, w.before args s' = true := fun w hw => vx_ot_at hW0 hvm.symm (hgood w (List.mem_cons_of_mem _ (List.mem_cons_of_mem _ hw))) (hat w hw)
  have hk' : (Cond.classLink own ik cls).before args s' = true := vx_ot_at hW0 hvm.symm (hgood _ List.mem_cons_self) hk
  have hini' : (Cond.initialized cls).before args s' = true := vx_ot_at hW0 hvm.symm (hgood _ (List.mem_cons_of_mem _ List.mem_cons_self)) hini
  have hU' : vx_Zq Bundle.tN "UNASSIGNED_STACK" Bundle.steD A s' s'.heap := by rw [hhp]; exact vx_Zq.moved hW0.alike (hU.kept hS.2.1)
  have hN' : vx_Zq Bundle.tN "SUPPRESSED_SENTINEL" Bundle.listD A s' s'.heap := by rw [hhp]; exact vx_Zq.moved hW0.alike (hN.kept hS.2.1)
  have h : ∀ w ∈ Bundle.ownAtoms own ic cls names, w.before args s' = true := vx_own hat' (vx_isRefq hU'.1) (vx_isRefq hN'.1) hU'.2.word hN'.2.word
  have hown' : s'.vm.findClass own = some m.cls := by rw [hvm]; exact hown
  have hins : (Cond.instantiable cls 6).before args s' = true := h _ (by simp [Bundle.ownAtoms])
  obtain ⟨vm₁, cX, kX, hfX, hkX, -, -, X₁, st1⟩ := Y.newCold hexec (own := own) (C := cls) (index := ik) (n := 6) hown' hk' hins hini'
    (g := F0 m pc ls rest) rfl (by rw [hb]; exact d0) (Nat.le_refl _) (Nat.le_refl _)
  generalize hT1 : (T.setVm vm₁).pushCell { cls := cX, slots := kX.instanceTypes.map defaultValue, vm := .none } = T1 at X₁ st1
  have hcat : (Value.ref T.heap.size).category = 1 := rfl
  have hcellA : T1.heap[T.heap.size]? = some (freshCell cX kX) := by rw [← hT1]; exact State.heap_pushCell_size _ _
  have d3' : decode c.code (pc + 3) = .ok (.dup, 1) := by rw [hb]; exact d3
  have d4' : decode c.code (pc + 4) = .ok (.ldc_w is, 3) := by rw [hb]; exact d4
  have hstr' : vk_R own is text sa s' := vk_R.warm hW0 hstr
  obtain ⟨U, hsteps, hrun, hend, hW, hsame, ce, hce, hO⟩ := X₁.ctorThrowS hexec htr (own := own) (cls := cls) (names := names) (ic := ic) hown' hcls hnames h (fun x hx => nomatch hx) hfX hkX hcellA (by rw [hhp, hT]; exact Nat.le_refl _) (msg := .ref sa) rfl
    (g := { method := m, pc := pc + 7, locals := ls, stack := .ref sa :: .ref T.heap.size :: .ref T.heap.size :: rest, locked := none }) rfl hsize rfl rfl (rest := rest) rfl
    (by rw [hb]; exact d7) (by rw [hb]; exact d10) hout hRframes (by simp only [List.map_cons, List.sum_cons, hcat]; omega) hlocks
  obtain ⟨f1, f2⟩ := vx_frame hsame
  rw [hhp] at f1 f2
  have hWs : s.WarmedH U.vm := State.WarmedH.trans hW0 hW
  have hcl : s.vm.findClass cls = some ce.cls := by
    have h9 := hO.cls
    rw [hvm] at h9
    exact h9
  have hall : s.sameButNew ({ U with vm := s.vm } : State) locs mc ms := by
    subst hA
    obtain ⟨e1, e2⟩ := hsame
    rw [State.setFrames_setFrames] at e1
    have h2 : (T.setVm s.vm).sameButNew ({ U with vm := s.vm } : State) [] (0 + 1) (0 + 6) := ⟨e1, e2⟩
    have h3 := X.same.trans h2
    rw [List.append_nil] at h3
    exact h3.mono hc hs
  refine ⟨U, ?_, .threw T.heap.size, hrun, hend, Or.inr ⟨T.heap.size, rfl, cls, ce, locs, hx U hWs.alike f1 (fun q hq => f2 q hq (fun z hz => nomatch hz)), hce, hO.vm, hcl, hWs, hall, hf⟩⟩
  refine st1 _ ?_
  show Steps p.tables e below (T1.setTop { method := m, pc := pc + 3, locals := ls, stack := .ref T.heap.size :: rest, locked := none }) _
  jvm_step X₁.here [X₁.here.top, hexec, d3', Value.category]
  exact X₁.ldcStringW hexec (own := own) (text := text) (index := is) (a := sa) hown' hstr'.1 hstr'.2
    (g := { method := m, pc := pc + 4, locals := ls, stack := .ref T.heap.size :: .ref T.heap.size :: rest, locked := none }) rfl d4' _ hsteps
end Ends
section Bodies
variable {l : Launch}
theorem vx_ofW {y : MethodName} {ws ws' : List Cond} {rm : Room} {Pc : Array Value → State → Prop} {Qc : Array Value → State → Outcome → State → Prop} {XC : String → State → State → Prop} {mc ms : Nat} {free : Addr → Prop} {cc : ByteArray} {maxL : Nat} {ret : Option FieldType}
    (hy : plainName y.cls = true) (hw : ws = Cond.code y cc maxL ret :: ws')
    (body : ∀ p e s m args below meth c s₁, BodyLoose p l y (headSpec ws rm) cc maxL ret e s m args below meth c s₁ → c.maxLocals = maxL → (∀ x ∈ c.exceptionTable.toList, False) → Pc args s →
      W p l e (headSpec ws rm).room s m args below meth c s.heap [] 0 0 (vx_MQ below Qc XC args s mc ms free) (entryFrame m args maxL)) : vx_Met l y ws rm Pc Qc XC mc ms free := by
  refine MetFree.of_bodyS (code := cc) (maxLocals := maxL) (ret := ret) hy ?_ ?_
  · intro args s m h hn
    obtain ⟨meth, c, h1, h2, h3, h4, h5, h6, -, -⟩ := Cond.code_spec hn (atoms_spec (ws := ws) h _ (by rw [hw]; exact List.mem_cons_self))
    exact ⟨meth, c, h1, h2, h3, h4, h5, h6⟩
  · intro p e s m args below meth c s₁ B hml hP _
    have hh0 : s₁.heap = s.heap := by rw [B.state]; rfl
    have ht : ∀ x ∈ c.exceptionTable.toList, False := by
      obtain ⟨meth9, c9, h1, h2, -, -, -, -, h7, -⟩ := Cond.code_spec B.named (atoms_spec (ws := ws) B.pre _ (by rw [hw]; exact List.mem_cons_self))
      cases Option.some.inj (h1.symm.trans B.method)
      cases Option.some.inj (h2.symm.trans (Stand.of_body B).code)
      intro x hx
      rw [Array.isEmpty_iff.mp h7] at hx
      cases hx
    obtain ⟨t, a1, o, b1, b2, b3⟩ := body p e s m args below meth c s₁ B hml ht hP s₁ hh0 (Stand.of_body B)
    exact ⟨t, o, a1, b1, b2, b3⟩
/-- the table of a body with handlers -/
theorem vx_table {p : Program} {x y : MethodName} {S : Spec} {cc bytes : ByteArray} {maxL maxL' : Nat} {ret ret' : Option FieldType} {e : Env} {s s₁ : State} {m : MethodId} {args : Array Value} {below : List Frame} {meth : Method} {c : Code} {hh : List (Nat × Nat × Nat × Nat)}
    (B : BodyLoose p l y S cc maxL ret e s m args below meth c s₁) (h : (Cond.codeWith y bytes maxL' ret' hh).before args s = true) : c.exceptionTable.toList = tableOf hh := by
  obtain ⟨m9, meth9, c9, hn9, h1, h2, -, -, h6, -⟩ := Cond.codeWith_spec h
  cases Option.some.inj (hn9.symm.trans B.named)
  cases Option.some.inj (h1.symm.trans B.method)
  cases Option.some.inj (h2.symm.trans (Stand.of_body B).code)
  rw [← h6, table_eq]
end Bodies
end VXA
/-! ===== END ===== -/
/-! ===== BEGIN a static call of a method with an exception table ===== -/
section VXS
variable {p : Program} {l : Launch} {e : Env} {R : Room} {s : State} {m : MethodId} {args : Array Value} {below : List Frame} {meth : Method} {c : Code} {T : State} {H : Heap} {locs : List Loc} {cells slots : Nat}
abbrev vx_CSW (R : Room) (s : State) (args : Array Value) (own : String) (index : Nat) (y : MethodName) (bytes : ByteArray) (maxL : Nat) (ret : Option FieldType) (hh : List (Nat × Nat × Nat × Nat)) (ws : List Cond) (rm : Room) (mc ms n : Nat) : Prop :=
  (rm.cells = mc ∧ rm.slots = ms ∧ rm.frames + 1 ≤ R.frames ∧ 8 + (maxL + 11) + rm.locals ≤ R.locals ∧ (∀ w ∈ ws, ∀ (a' : Array Value) (U : State), s.WarmedH U.vm → w.before a' U = true) ∧ Cond.codeWith y bytes maxL ret hh ∈ ws) ∧
  (Cond.codeWith y bytes maxL ret hh).before args s = true ∧ (Cond.initialized y.cls).before args s = true ∧ (y.cls ≠ "java/lang/invoke/MethodHandle" ∧ y.cls ≠ "java/lang/invoke/VarHandle") ∧
  (∀ sig, parseMethodDescriptor y.desc = some sig → n = sig.parameters.length) ∧ (Cond.methodLink own index y).before args s = true ∧ (Cond.static y).before args s = true
theorem vx_cwSW {own : String} {index maxL mc ms : Nat} {y : MethodName} {bytes : ByteArray} {ret : Option FieldType} {hh : List (Nat × Nat × Nat × Nat)} {Ts ws ws' : List Cond} {rm : Room} (n : Nat) (ht : ∀ w ∈ Ts, w.before args s = true) (hT : GoodIn Ts (va_wsS own index y ws)) (hw : ws = Cond.codeWith y bytes maxL ret hh :: ws') (hrc : rm.cells = mc) (hrs : rm.slots = ms)
    (hd : y.cls ≠ "java/lang/invoke/MethodHandle" ∧ y.cls ≠ "java/lang/invoke/VarHandle" ∧ (parseMethodDescriptor y.desc).map (fun d => d.parameters.length) = some n) (hR : rm.frames + 1 ≤ R.frames ∧ 8 + (maxL + 11) + rm.locals ≤ R.locals) :
    vx_CSW R s args own index y bytes maxL ret hh ws rm mc ms n := by
  have ok : ∀ w ∈ va_wsS own index y ws, w.before args s = true := fun w h => ht w (hT w h).1
  have hG : GoodIn Ts ws := fun w h => hT w (by unfold va_wsS; exact List.mem_append_right _ h)
  have hc : Cond.codeWith y bytes maxL ret hh ∈ ws := by rw [hw]; exact List.mem_cons_self
  refine ⟨⟨hrc, hrs, hR.1, hR.2, pay_in ht hG, hc⟩, ht _ (hG _ hc).1, ok _ (by simp [va_wsS]), ⟨hd.1, hd.2.1⟩, fun sig h => ?_, ok _ (by simp [va_wsS]), ok _ (by simp [va_wsS])⟩
  have h2 := hd.2.2
  rw [h] at h2
  exact (Option.some.inj h2).symm
theorem vx_callSW (X : Stand p l e R s m args below meth c T locs cells slots) (hexec : p.tables.exec = Jvm.exec) {own : String} {index : Nat} {y : MethodName} {bytes : ByteArray} {maxL : Nat} {ret : Option FieldType} {hh : List (Nat × Nat × Nat × Nat)}
    (hown : s.vm.findClass own = some m.cls) (hlink : (Cond.methodLink own index y).before args s = true) (hstat : (Cond.static y).before args s = true) (hinit : (Cond.initialized y.cls).before args s = true)
    (hcode : (Cond.codeWith y bytes maxL ret hh).before args s = true) (hy : y.cls ≠ "java/lang/invoke/MethodHandle" ∧ y.cls ≠ "java/lang/invoke/VarHandle")
    {W9 : Nat} {Pre : Pt → Array Value → Prop} {Post : Pt → Array Value → Option Value → Pt → Prop} (hK : Back l R p e below s args y 3 W9 Pre Post)
    {g : JFrame} (hg : g.method = m) (hsize : g.locals.size = c.maxLocals) {argsL rest : List Value} (hlen : ∀ sig, parseMethodDescriptor y.desc = some sig → argsL.length = sig.parameters.length)
    (hstack : g.stack = argsL.reverse ++ rest) (hW : 2 * g.monitorRoom + (rest.map fun v => v.category).sum ≤ W9) (hdg : decode c.code g.pc = .ok (.invokestatic index, 3))
    (hpre : ∀ vm₁, s.WarmedH vm₁ → Pre ⟨T.setVm vm₁, locs, cells, slots⟩ argsL.toArray) :
    ∃ (v : Option Value) (vm₁ : Vm) (B : Pt), s.WarmedH vm₁ ∧ Stand p l e R s m args below meth c B.U B.locs B.cells B.slots ∧ Post ⟨T.setVm vm₁, locs, cells, slots⟩ argsL.toArray v B ∧
      ∀ target, Steps p.tables e below (B.U.setTop { g with pc := g.pc + 3, stack := v.toList ++ rest }) target → Steps p.tables e below (T.setTop g) target := by
  obtain ⟨mk, methM, cM, hnamed, hmethM, -, -, -, -, -, -, hsigM⟩ := Cond.codeWith_spec hcode
  have hstatic : methM.isStatic = true := Cond.static_spec hnamed hmethM hstat
  obtain ⟨kP, hkP, -⟩ := className_of_methodNamed hnamed
  have hinitP : kP.init = .initialized := Cond.initialized_spec (findClass_of_methodNamed hnamed) hkP hinit
  obtain ⟨vm₁, X₁, hstep₁⟩ := X.invokestatic hexec hown hlink hnamed hmethM hstatic hkP hinitP hy (g := g) hg (argsL := argsL) (rest := rest) (hlen _ hsigM) hstack hdg
  obtain ⟨v, B, X', hpost, hsteps⟩ := hK m meth c ⟨T.setVm vm₁, locs, cells, slots⟩ { g with stack := rest } (.invokestatic index) mk argsL.toArray X₁ hg hsize hdg hW (X₁.named hnamed) (hpre vm₁ X₁.warmed)
  exact ⟨v, vm₁, B, X₁.warmed, X', hpost, fun target h => hstep₁ _ fun acts => by rw [doInvoke_state]; exact hsteps.trans h⟩
theorem vx_runSW {y : MethodName} {bytes cc : ByteArray} {maxL nL mc ms n index : Nat} {ret : Option FieldType} {hh : List (Nat × Nat × Nat × Nat)} {ws : List Cond} {rm : Room} {Pc : Array Value → State → Prop} {Qc : Array Value → State → Outcome → State → Prop} {free : Addr → Prop} {Ts : List Cond} {own : String} {As rest : List Value} {g : JFrame}
    (S : CallFix p m c cc nL s args Ts own) (hM : Met l y ws rm Pc Qc mc ms free) (cw : vx_CSW R s args own index y bytes maxL ret hh ws rm mc ms n) (hp : PreS s H Pc As)
    (hg : g.method = m) (hn : As.length = n) (hsize : g.locals.size = nL) (hstack : g.stack = As.reverse ++ rest) (hW : 2 * g.monitorRoom + (rest.map fun v => v.category).sum ≤ 8) (hdg : decode cc g.pc = .ok (.invokestatic index, 3)) (hf : cells + mc ≤ R.cells ∧ slots + ms ≤ R.slots) :
    va_Run p l e R s m args below meth c H locs cells slots mc ms g rest (Qc As.toArray) (free) := by
  obtain ⟨⟨hrc, hrs, hfr, hlo, hws, hcw⟩, hcode, hini, hy, hlen, hl, hstt⟩ := cw
  have hK : Back l R p e below s args y 3 8 (PreOf R mc ms Pc) (PostOf Qc mc ms free) := va_backW (hh := hh) (bytes := bytes) (maxL := maxL) (ret := ret) hM hp.1 hrc hrs hfr hlo hws hcw (fun a' U hW => word_at hW (Or.inl (by first | rfl | simp [Cond.onTables, Cond.keeps, Cond.steady])) hini)
  obtain ⟨hx, hb, hml, ho, -⟩ := S
  intro T hT X
  obtain ⟨v, vm₁, ⟨U', l2, c2, s2⟩, hW₁, X', ⟨g', mk, t, L, e1, e2, hq, h1, hL, h2, h3⟩, st⟩ := vx_callSW X hx (hh := hh) (bytes := bytes) (maxL := maxL) (ret := ret) ho hl hstt hini hcode hy hK hg (hsize.trans hml.symm) (argsL := As) (rest := rest) (fun sig h => hn.trans (hlen sig h)) hstack hW (by rw [hb]; exact hdg)
    (fun vm₁ hW₁ => ⟨hf.1, hf.2, hp.2 (T.setVm vm₁) hT hW₁⟩)
  dsimp only [Pt.U, Pt.locs, Pt.cells, Pt.slots] at X' e1 e2 h1 h2 h3 st
  subst h1; subst h2; subst h3
  exact ⟨v, (T.setVm vm₁).calling g' mk As.toArray, t, U', L, hT, X', hL, e1, e2, hq, st⟩
/-- not caught here, past rows that name other classes: it goes on to the caller -/
theorem vx_outP {p : Program} {l : Launch} {e : Env} {R : Room} {s : State} {m : MethodId} {args : Array Value} {below : List Frame} {meth : Method} {c : Code} {H : Heap} {locs : List Loc} {cells slots : Nat} {free : Addr → Prop} {ls : Array Slot} {rest : List Value} {Qc : Array Value → State → Outcome → State → Prop} {XC : String → State → State → Prop}
    {pc : Nat} {own E : String} {ce : Cell} {q : Addr} {mc ms : Nat} (hown : s.vm.findClass own = some m.cls) (hlocks : meth.locks = false)
    (hpass : ∀ z ∈ c.exceptionTable.toList, covers z pc = false ∨ (z.catchType ≠ 0 ∧ ∃ nm : String, (Cond.classLink own z.catchType nm).before args s = true ∧ va_Nc E nm s)) (hcell : H[q]? = some ce) (hv : ce.vm = .none) (hcl : s.vm.findClass E = some ce.cls)
    (hx : ∀ t : State, t.heap = H → s.vm.Alike t.vm → XC E s t) (hf : ∀ z ∈ locs, free z.base) (hc : cells ≤ mc) (hs : slots ≤ ms) :
    vx_W p l e R s m args below meth c H locs cells slots (vx_MQ below Qc XC args s mc ms free) (F0 m pc ls rest) q := by
  intro T hT X
  have hpl : e.platform.magicAccessors = ({} : Platform).magicAccessors := by rw [X.admits.platform]
  obtain ⟨vm', hW', X', st⟩ := X.outThrough hlocks q (g := F0 m pc ls rest) rfl rfl rfl (cell := ce) (by rw [hT]; exact hcell) (by rw [hv]; rfl)
    (by obtain ⟨k9, h9, -⟩ := Vm.findClass_spec hcl; exact ⟨k9, h9⟩) (fun z hz => by
      rcases hpass z hz with h | ⟨hz0, nm, hl1, hn1⟩
      · exact Or.inl h
      · obtain ⟨c6, hc6, hcl6⟩ := Cond.classLink_spec hown hl1 e.platform hpl
        obtain ⟨a8, b8, h1, h2, h3⟩ := hn1
        cases Option.some.inj (h1.symm.trans hcl)
        cases Option.some.inj (h2.symm.trans hc6)
        exact Or.inr ⟨hz0, _, hcl6, h3⟩)
  obtain ⟨g₀, hfr⟩ := X'.frames_eq
  have hcell9 : ((T.setVm vm').setFrames (.throwing q :: below)).heap[q]? = some ce := by
    show T.heap[q]? = some ce
    rw [hT]; exact hcell
  have hend : Ended ((T.setVm vm').setFrames (.throwing q :: below)) below (.threw q) := State.frames_setFrames _ (State.cur_lt_of_frames hfr)
  refine ⟨(T.setVm vm').setFrames (.throwing q :: below), ?_, .threw q, X'.here.running, hend, Or.inr ⟨q, rfl, E, ce, locs, hx _ hT (X'.ends _).1.alike, hcell9, hv, hcl, (X'.ends _).1, (X'.ends _).2.mono hc hs, hf⟩⟩
  rw [X.pushThrowing_eq]
  exact st
/-- a thing of a world lies in the heap -/
theorem vx_lt {D : va_G} {cl : List vw_C} {ws : va_W} {H1 : Heap} (h : va_P D cl ws H1) {k : Nat} {q : Nat × va_E} (hk : ws[k]? = some q) : q.1 < H1.size := (h k q hk).lt
end VXS
/-! ===== END ===== -/
/-! ===== BEGIN methods with a table of their own: called by a name, returning or throwing ===== -/
section VXH
/-! vx_backW, vx_callVX, vx_callSX, vx_callVW, vx_runVW, vx_runVX, vx_runSX, vx_ofWH follow the same proofs as their sisters above (Free/Laws.lean, Shelf42/LK1.lean); vx_outP calls Shelf42/NT130.lean (outThrough). -/
section
variable {l : Launch} {R : Room} {p : Program} {e : Env} {below : List Frame} {s : State} {sargs : Array Value} {y : MethodName} {len W9 : Nat}
theorem vx_backW {ws : List Cond} {rm : Room} {Pc : Array Value → State → Prop} {Qc : Array Value → State → Outcome → State → Prop} {XC : String → State → State → Prop} {mc ms : Nat} {free : Addr → Prop} {bytes : ByteArray} {maxL : Nat} {ret : Option FieldType} {hh : List (Nat × Nat × Nat × Nat)}
    (hM : vx_Met l y ws rm Pc Qc XC mc ms free) (hblind : FrameBlind Pc) (hrc : rm.cells = mc) (hrs : rm.slots = ms)
    (hframes : rm.frames + 1 ≤ R.frames) (hlocals : W9 + (maxL + 11) + rm.locals ≤ R.locals)
    (hws : ∀ w ∈ ws, ∀ a' U, s.WarmedH U.vm → w.before a' U = true) (hcode : Cond.codeWith y bytes maxL ret hh ∈ ws) (hinit : ∀ a' U, s.WarmedH U.vm → (Cond.initialized y.cls).before a' U = true) :
    vx_Back l R p e below s sargs y len W9 (PreOf R mc ms Pc) (PostOf Qc mc ms free) (vx_Post XC mc ms free) := by
  intro m meth c A g ig mk a X hg hsize hdg hW hn hp
  have h1 : (headSpec ws rm).pre.before a A.U = true := atoms_intro fun w hw => hws w hw _ _ X.warmed
  have h2 : (Cond.codeWith y bytes maxL ret hh).before a A.U = true := hws _ hcode _ _ X.warmed
  have h3 : (Cond.initialized y.cls).before a A.U = true := hinit _ _ X.warmed
  have h4 : A.cells + (headSpec ws rm).room.cells ≤ R.cells := by rw [show (headSpec ws rm).room.cells = mc from hrc]; exact hp.1
  have h5 : A.slots + (headSpec ws rm).room.slots ≤ R.slots := by rw [show (headSpec ws rm).room.slots = ms from hrs]; exact hp.2.1
  have hPc : Pc a (A.U.calling g mk a) := hblind _ _ _ _ hp.2.2
  obtain ⟨U, Ls, c0, s0⟩ := A
  dsimp only [Pt.U, Pt.locs, Pt.cells, Pt.slots] at h1 h2 h3 h4 h5 X hn hPc ⊢
  obtain ⟨m9, methY, cY, hn9, hmY, hcY, -, hlY, -⟩ := Cond.codeWith_spec h2
  cases Option.some.inj (hn9.symm.trans hn)
  obtain ⟨kY, hkY, -⟩ := className_of_methodNamed hn
  have hinitY : kY.init = .initialized := Cond.initialized_spec (findClass_of_methodNamed hn) hkY h3
  have h : At U g.method c below := by rw [hg]; exact X.here
  have hlocals9 : W9 + (maxL + 11) + (headSpec ws rm).room.locals ≤ R.locals := hlocals
  have happ : (headSpec ws rm).appliesLoose y e.platform (U.calling g mk a) = true :=
    Spec.appliesLoose_calling (g := g) h hdg hn hkY hinitY
      (X.room_calling (g := g) (R' := (headSpec ws rm).room) hsize hmY hcY hframes (by rw [hlY]; omega) h4 h5) h1
  obtain ⟨mid, hmid⟩ := h.above
  have hfr : (U.setTop g).frames = (.java g :: mid) ++ below := by rw [State.frames_setTop' g h.top, hmid]; rfl
  obtain ⟨o, s₂, hsteps, -, hend, hq⟩ := Steps.callFree hM p X.admits X.cas X.clock (acts := []) hfr happ hPc trivial
  have hq' : vx_Q Qc XC mc ms free a (U.calling g mk a) o s₂ := hq
  rw [State.frames_setTop' g h.top] at hend
  obtain ⟨g₀, hg0⟩ := Option.isSome_iff_exists.mp h.top
  obtain ⟨r, hr⟩ := State.topJava?_eq_some.mp hg0
  have hr' : (({ U with heap := s₂.heap, slotsUsed := s₂.slotsUsed } : State).setVm s₂.vm).frames = .java g₀ :: r := hr
  rcases hq' with ⟨hqc, L, hfe, hL⟩ | ⟨q, rfl, E, ce, L, hx, hce, hcv, hcl, hW₂, hsm, hL⟩
  · obtain ⟨⟨v, rfl⟩, hW₂, e2, q2, q3, q4, q5, q6⟩ := id hfe
    have e3 : s₂ = ({ (U.calling g mk a).setFrames s₂.frames with heap := s₂.heap, slotsUsed := s₂.slotsUsed } : State).setVm s₂.vm := by
      have : s₂ = ({ s₂ with vm := (U.calling g mk a).vm } : State).setVm s₂.vm := rfl
      rw [e2] at this
      exact this
    obtain ⟨c₂, i₂, len₂, hc₂, hd₂, hf₂⟩ := hend
    have hW' : U.WarmedH s₂.vm := hW₂
    have hcc : c₂ = c := by
      have h1 : s₂.code? g.method = U.code? g.method := by
        rw [State.code?_eq, State.code?_eq, hW'.alike.method?]
      exact Option.some.inj (hc₂.symm.trans (h1.trans h.code))
    subst hcc
    have hlen : len₂ = len := by rw [hdg] at hd₂; cases hd₂; rfl
    subst hlen
    have hs₂ : s₂ = (({ U with heap := s₂.heap, slotsUsed := s₂.slotsUsed } : State).setVm s₂.vm).setTop { g with pc := g.pc + len₂, stack := v.toList ++ g.stack } := by
      refine e3.trans ?_
      rw [hf₂, State.calling_eq h.top, State.setFrames_setFrames, State.setTop_of_frames _ hr', hr]
      rfl
    have hsame : U.sameButNew ({ U with heap := s₂.heap, slotsUsed := s₂.slotsUsed } : State) L mc ms := by
      refine ⟨?_, q2, q3, q4, q5, q6⟩
      obtain ⟨t, ht, -⟩ := State.frames_cons hr
      show ({ U with heap := s₂.heap, slotsUsed := s₂.slotsUsed } : State) = { U.setFrames U.frames with heap := s₂.heap, slotsUsed := s₂.slotsUsed }
      rw [State.setFrames_self ht]
    subst hg
    refine Or.inl ⟨v, ⟨(({ U with heap := s₂.heap, slotsUsed := s₂.slotsUsed } : State).setVm s₂.vm), Ls ++ L, c0 + mc, s0 + ms⟩,
      ⟨X.admits, X.cas, X.clock, X.frames, X.room, X.hears, X.method, X.code, (X.here.setHeapUsed s₂.heap s₂.slotsUsed).setVm hW'.alike, X.tail, State.WarmedH.trans X.warmed hW', X.limits, X.bytes, X.same.trans (hsame.setVm s.vm)⟩,
      ⟨g, mk, s₂, L, rfl, rfl, hqc, rfl, hL, rfl, rfl⟩, ?_⟩
    show Steps p.tables e below _ ((({ U with heap := s₂.heap, slotsUsed := s₂.slotsUsed } : State).setVm s₂.vm).setTop { g with pc := g.pc + len₂, stack := v.toList ++ g.stack })
    rw [← hs₂]
    exact hsteps
  · obtain ⟨e2, q2, q3, q4, q5, q6⟩ := id hsm
    have e3 : s₂ = ({ (U.calling g mk a).setFrames s₂.frames with heap := s₂.heap, slotsUsed := s₂.slotsUsed } : State).setVm s₂.vm := by
      have : s₂ = ({ s₂ with vm := (U.calling g mk a).vm } : State).setVm s₂.vm := rfl
      rw [e2] at this
      exact this
    have hf₂ : s₂.frames = .throwing q :: .java g :: U.frames.tail := hend
    have hW' : U.WarmedH s₂.vm := hW₂
    have hs₂ : s₂ = ((({ U with heap := s₂.heap, slotsUsed := s₂.slotsUsed } : State).setVm s₂.vm).setTop g).pushFrame (.throwing q) := by
      refine e3.trans ?_
      rw [hf₂, State.calling_eq h.top, State.setFrames_setFrames, State.pushFrame, State.frames_setTop _ hr', State.setTop_of_frames _ hr', State.setFrames_setFrames, hr]
      rfl
    have hsame : U.sameButNew ({ U with heap := s₂.heap, slotsUsed := s₂.slotsUsed } : State) L mc ms := by
      refine ⟨?_, q2, q3, q4, q5, q6⟩
      obtain ⟨t, ht, -⟩ := State.frames_cons hr
      show ({ U with heap := s₂.heap, slotsUsed := s₂.slotsUsed } : State) = { U.setFrames U.frames with heap := s₂.heap, slotsUsed := s₂.slotsUsed }
      rw [State.setFrames_self ht]
    subst hg
    refine Or.inr ⟨q, ⟨(({ U with heap := s₂.heap, slotsUsed := s₂.slotsUsed } : State).setVm s₂.vm), Ls ++ L, c0 + mc, s0 + ms⟩,
      ⟨X.admits, X.cas, X.clock, X.frames, X.room, X.hears, X.method, X.code, (X.here.setHeapUsed s₂.heap s₂.slotsUsed).setVm hW'.alike, X.tail, State.WarmedH.trans X.warmed hW', X.limits, X.bytes, X.same.trans (hsame.setVm s.vm)⟩,
      ⟨g, mk, s₂, L, E, ce, rfl, rfl, hx, hce, hcv, hcl, rfl, hL, rfl, rfl⟩, ?_⟩
    show Steps p.tables e below _ (((({ U with heap := s₂.heap, slotsUsed := s₂.slotsUsed } : State).setVm s₂.vm).setTop g).pushFrame (.throwing q))
    rw [← hs₂]
    exact hsteps
end
variable {p : Program} {l : Launch} {e : Env} {R : Room} {s : State} {m : MethodId} {args : Array Value} {below : List Frame} {meth : Method} {c : Code} {T : State} {H : Heap} {locs : List Loc} {cells slots : Nat}
theorem vx_callVX (X : Stand p l e R s m args below meth c T locs cells slots) (hexec : p.tables.exec = Jvm.exec) {own C : String} {index : Nat} {y : MethodName} {bytes : ByteArray} {maxL : Nat} {ret : Option FieldType} {hh : List (Nat × Nat × Nat × Nat)}
    (hown : s.vm.findClass own = some m.cls) (hlink : (Cond.methodLink own index y).before args s = true) (hinst : (Cond.instanceMethod y).before args s = true) (hsel : (Cond.selects C y y).before args s = true)
    (hcode : (Cond.codeWith y bytes maxL ret hh).before args s = true) (hy : y.cls ≠ "java/lang/invoke/MethodHandle" ∧ y.cls ≠ "java/lang/invoke/VarHandle")
    {W9 : Nat} {Pre : Pt → Array Value → Prop} {Post : Pt → Array Value → Option Value → Pt → Prop} {PostX : Pt → Array Value → Addr → Pt → Prop} (hK : vx_Back l R p e below s args y 3 W9 Pre Post PostX)
    {b : Addr} {cellB : Cell} (hcell : T.heap[b]? = some cellB) (hobj : cellB.vm.isStatics = false) (hcls : s.vm.findClass C = some cellB.cls)
    {g : JFrame} (hg : g.method = m) (hsize : g.locals.size = c.maxLocals) {argsL rest : List Value} (hlen : ∀ sig, parseMethodDescriptor y.desc = some sig → argsL.length = sig.parameters.length)
    (hstack : g.stack = argsL.reverse ++ .ref b :: rest) (hW : 2 * g.monitorRoom + (rest.map fun v => v.category).sum ≤ W9) (hdg : decode c.code g.pc = .ok (.invokevirtual index, 3))
    (hpre : ∀ vm₁, s.WarmedH vm₁ → Pre ⟨T.setVm vm₁, locs, cells, slots⟩ (Value.ref b :: argsL).toArray) :
    (∃ (v : Option Value) (vm₁ : Vm) (B : Pt), s.WarmedH vm₁ ∧ Stand p l e R s m args below meth c B.U B.locs B.cells B.slots ∧ Post ⟨T.setVm vm₁, locs, cells, slots⟩ (Value.ref b :: argsL).toArray v B ∧
      ∀ target, Steps p.tables e below (B.U.setTop { g with pc := g.pc + 3, stack := v.toList ++ rest }) target → Steps p.tables e below (T.setTop g) target) ∨
    (∃ (q : Addr) (vm₁ : Vm) (B : Pt), s.WarmedH vm₁ ∧ Stand p l e R s m args below meth c B.U B.locs B.cells B.slots ∧ PostX ⟨T.setVm vm₁, locs, cells, slots⟩ (Value.ref b :: argsL).toArray q B ∧
      Steps p.tables e below (T.setTop g) ((B.U.setTop { g with stack := rest }).pushFrame (.throwing q))) := by
  obtain ⟨mk, methM, hnamed, hmethM, hstM, habM⟩ := Cond.instanceMethod_spec hinst
  obtain ⟨m8, methM', cM, hn8, hmethM', -, -, -, -, -, -, hsigM⟩ := Cond.codeWith_spec hcode
  cases Option.some.inj (hn8.symm.trans hnamed)
  cases hmethM.symm.trans hmethM'
  obtain ⟨c2, r2, m2, q1, q2, q3, q4, kP, hkP, hkPi⟩ := Cond.selects_spec hsel
  cases hcls.symm.trans q1
  cases (State.methodFound?_of_named hnamed hy).symm.trans q2
  cases hnamed.symm.trans q3
  have hselP : selectMethod e.platform s.vm cellB.cls mk = .method mk := by rw [Launch.admits_selectMethod X.admits]; exact q4
  obtain ⟨vm₁, X₁, hstep₁⟩ := X.invokevirtual hexec hown hlink hnamed hmethM hstM hkP hkPi hy (a := b) (cell := cellB) hcell
    (fun z h => by rw [h] at hobj; cases hobj) hselP hmethM habM hkP hkPi (g := g) hg (argsL := argsL) (rest := rest) (hlen _ hsigM) hstack hdg
  rcases hK m meth c ⟨T.setVm vm₁, locs, cells, slots⟩ { g with stack := rest } (.invokevirtual index) mk (Value.ref b :: argsL).toArray X₁ hg hsize hdg hW (X₁.named hnamed) (hpre vm₁ X₁.warmed) with ⟨v, B, X', hpost, hsteps⟩ | ⟨q, B, X', hpost, hsteps⟩
  · exact Or.inl ⟨v, vm₁, B, X₁.warmed, X', hpost, fun target h => hstep₁ _ fun acts => by rw [doInvoke_state]; exact hsteps.trans h⟩
  · exact Or.inr ⟨q, vm₁, B, X₁.warmed, X', hpost, hstep₁ _ fun acts => by rw [doInvoke_state]; exact hsteps⟩
theorem vx_callSX (X : Stand p l e R s m args below meth c T locs cells slots) (hexec : p.tables.exec = Jvm.exec) {own : String} {index : Nat} {y : MethodName} {bytes : ByteArray} {maxL : Nat} {ret : Option FieldType} {hh : List (Nat × Nat × Nat × Nat)}
    (hown : s.vm.findClass own = some m.cls) (hlink : (Cond.methodLink own index y).before args s = true) (hstat : (Cond.static y).before args s = true) (hinit : (Cond.initialized y.cls).before args s = true)
    (hcode : (Cond.codeWith y bytes maxL ret hh).before args s = true) (hy : y.cls ≠ "java/lang/invoke/MethodHandle" ∧ y.cls ≠ "java/lang/invoke/VarHandle")
    {W9 : Nat} {Pre : Pt → Array Value → Prop} {Post : Pt → Array Value → Option Value → Pt → Prop} {PostX : Pt → Array Value → Addr → Pt → Prop} (hK : vx_Back l R p e below s args y 3 W9 Pre Post PostX)
    {g : JFrame} (hg : g.method = m) (hsize : g.locals.size = c.maxLocals) {argsL rest : List Value} (hlen : ∀ sig, parseMethodDescriptor y.desc = some sig → argsL.length = sig.parameters.length)
    (hstack : g.stack = argsL.reverse ++ rest) (hW : 2 * g.monitorRoom + (rest.map fun v => v.category).sum ≤ W9) (hdg : decode c.code g.pc = .ok (.invokestatic index, 3))
    (hpre : ∀ vm₁, s.WarmedH vm₁ → Pre ⟨T.setVm vm₁, locs, cells, slots⟩ argsL.toArray) :
    (∃ (v : Option Value) (vm₁ : Vm) (B : Pt), s.WarmedH vm₁ ∧ Stand p l e R s m args below meth c B.U B.locs B.cells B.slots ∧ Post ⟨T.setVm vm₁, locs, cells, slots⟩ argsL.toArray v B ∧
      ∀ target, Steps p.tables e below (B.U.setTop { g with pc := g.pc + 3, stack := v.toList ++ rest }) target → Steps p.tables e below (T.setTop g) target) ∨
    (∃ (q : Addr) (vm₁ : Vm) (B : Pt), s.WarmedH vm₁ ∧ Stand p l e R s m args below meth c B.U B.locs B.cells B.slots ∧ PostX ⟨T.setVm vm₁, locs, cells, slots⟩ argsL.toArray q B ∧
      Steps p.tables e below (T.setTop g) ((B.U.setTop { g with stack := rest }).pushFrame (.throwing q))) := by
  obtain ⟨mk, methM, cM, hnamed, hmethM, -, -, -, -, -, -, hsigM⟩ := Cond.codeWith_spec hcode
  have hstatic : methM.isStatic = true := Cond.static_spec hnamed hmethM hstat
  obtain ⟨kP, hkP, -⟩ := className_of_methodNamed hnamed
  have hinitP : kP.init = .initialized := Cond.initialized_spec (findClass_of_methodNamed hnamed) hkP hinit
  obtain ⟨vm₁, X₁, hstep₁⟩ := X.invokestatic hexec hown hlink hnamed hmethM hstatic hkP hinitP hy (g := g) hg (argsL := argsL) (rest := rest) (hlen _ hsigM) hstack hdg
  rcases hK m meth c ⟨T.setVm vm₁, locs, cells, slots⟩ { g with stack := rest } (.invokestatic index) mk argsL.toArray X₁ hg hsize hdg hW (X₁.named hnamed) (hpre vm₁ X₁.warmed) with ⟨v, B, X', hpost, hsteps⟩ | ⟨q, B, X', hpost, hsteps⟩
  · exact Or.inl ⟨v, vm₁, B, X₁.warmed, X', hpost, fun target h => hstep₁ _ fun acts => by rw [doInvoke_state]; exact hsteps.trans h⟩
  · exact Or.inr ⟨q, vm₁, B, X₁.warmed, X', hpost, hstep₁ _ fun acts => by rw [doInvoke_state]; exact hsteps⟩
theorem vx_callVW (X : Stand p l e R s m args below meth c T locs cells slots) (hexec : p.tables.exec = Jvm.exec) {own C : String} {index : Nat} {y : MethodName} {bytes : ByteArray} {maxL : Nat} {ret : Option FieldType} {hh : List (Nat × Nat × Nat × Nat)}
    (hown : s.vm.findClass own = some m.cls) (hlink : (Cond.methodLink own index y).before args s = true) (hinst : (Cond.instanceMethod y).before args s = true) (hsel : (Cond.selects C y y).before args s = true)
    (hcode : (Cond.codeWith y bytes maxL ret hh).before args s = true) (hy : y.cls ≠ "java/lang/invoke/MethodHandle" ∧ y.cls ≠ "java/lang/invoke/VarHandle")
    {W9 : Nat} {Pre : Pt → Array Value → Prop} {Post : Pt → Array Value → Option Value → Pt → Prop} (hK : Back l R p e below s args y 3 W9 Pre Post)
    {b : Addr} {cellB : Cell} (hcell : T.heap[b]? = some cellB) (hobj : cellB.vm.isStatics = false) (hcls : s.vm.findClass C = some cellB.cls)
    {g : JFrame} (hg : g.method = m) (hsize : g.locals.size = c.maxLocals) {argsL rest : List Value} (hlen : ∀ sig, parseMethodDescriptor y.desc = some sig → argsL.length = sig.parameters.length)
    (hstack : g.stack = argsL.reverse ++ .ref b :: rest) (hW : 2 * g.monitorRoom + (rest.map fun v => v.category).sum ≤ W9) (hdg : decode c.code g.pc = .ok (.invokevirtual index, 3))
    (hpre : ∀ vm₁, s.WarmedH vm₁ → Pre ⟨T.setVm vm₁, locs, cells, slots⟩ (Value.ref b :: argsL).toArray) :
    ∃ (v : Option Value) (vm₁ : Vm) (B : Pt), s.WarmedH vm₁ ∧ Stand p l e R s m args below meth c B.U B.locs B.cells B.slots ∧ Post ⟨T.setVm vm₁, locs, cells, slots⟩ (Value.ref b :: argsL).toArray v B ∧
      ∀ target, Steps p.tables e below (B.U.setTop { g with pc := g.pc + 3, stack := v.toList ++ rest }) target → Steps p.tables e below (T.setTop g) target := by
  obtain ⟨mk, methM, hnamed, hmethM, hstM, habM⟩ := Cond.instanceMethod_spec hinst
  obtain ⟨m8, methM', cM, hn8, hmethM', -, -, -, -, -, -, hsigM⟩ := Cond.codeWith_spec hcode
  cases Option.some.inj (hn8.symm.trans hnamed)
  cases hmethM.symm.trans hmethM'
  obtain ⟨c2, r2, m2, q1, q2, q3, q4, kP, hkP, hkPi⟩ := Cond.selects_spec hsel
  cases hcls.symm.trans q1
  cases (State.methodFound?_of_named hnamed hy).symm.trans q2
  cases hnamed.symm.trans q3
  have hselP : selectMethod e.platform s.vm cellB.cls mk = .method mk := by rw [Launch.admits_selectMethod X.admits]; exact q4
  obtain ⟨vm₁, X₁, hstep₁⟩ := X.invokevirtual hexec hown hlink hnamed hmethM hstM hkP hkPi hy (a := b) (cell := cellB) hcell
    (fun z h => by rw [h] at hobj; cases hobj) hselP hmethM habM hkP hkPi (g := g) hg (argsL := argsL) (rest := rest) (hlen _ hsigM) hstack hdg
  obtain ⟨v, B, X', hpost, hsteps⟩ := hK m meth c ⟨T.setVm vm₁, locs, cells, slots⟩ { g with stack := rest } (.invokevirtual index) mk (Value.ref b :: argsL).toArray X₁ hg hsize hdg hW (X₁.named hnamed) (hpre vm₁ X₁.warmed)
  exact ⟨v, vm₁, B, X₁.warmed, X', hpost, fun target h => hstep₁ _ fun acts => by rw [doInvoke_state]; exact hsteps.trans h⟩
abbrev vx_CVW (R : Room) (s : State) (args : Array Value) (own C : String) (index : Nat) (y : MethodName) (bytes : ByteArray) (maxL : Nat) (ret : Option FieldType) (hh : List (Nat × Nat × Nat × Nat)) (ws : List Cond) (rm : Room) (mc ms n : Nat) : Prop :=
  (rm.cells = mc ∧ rm.slots = ms ∧ rm.frames + 1 ≤ R.frames ∧ 8 + (maxL + 11) + rm.locals ≤ R.locals ∧ (∀ w ∈ ws, ∀ (a' : Array Value) (U : State), s.WarmedH U.vm → w.before a' U = true) ∧ Cond.codeWith y bytes maxL ret hh ∈ ws) ∧
  (Cond.codeWith y bytes maxL ret hh).before args s = true ∧ (Cond.initialized y.cls).before args s = true ∧ (y.cls ≠ "java/lang/invoke/MethodHandle" ∧ y.cls ≠ "java/lang/invoke/VarHandle") ∧
  (∀ sig, parseMethodDescriptor y.desc = some sig → n = sig.parameters.length) ∧ (Cond.methodLink own index y).before args s = true ∧ (Cond.instanceMethod y).before args s = true ∧ (Cond.selects C y y).before args s = true
theorem vx_cwVW {own C : String} {index maxL mc ms : Nat} {y : MethodName} {bytes : ByteArray} {ret : Option FieldType} {hh : List (Nat × Nat × Nat × Nat)} {Ts ws ws' : List Cond} {rm : Room} (n : Nat) (ht : ∀ w ∈ Ts, w.before args s = true) (hT : GoodIn Ts (wsV own index C y ws)) (hw : ws = Cond.codeWith y bytes maxL ret hh :: ws') (hrc : rm.cells = mc) (hrs : rm.slots = ms)
    (hd : y.cls = C ∧ y.cls ≠ "java/lang/invoke/MethodHandle" ∧ y.cls ≠ "java/lang/invoke/VarHandle" ∧ (parseMethodDescriptor y.desc).map (fun d => d.parameters.length) = some n) (hR : rm.frames + 1 ≤ R.frames ∧ 8 + (maxL + 11) + rm.locals ≤ R.locals) :
    vx_CVW R s args own C index y bytes maxL ret hh ws rm mc ms n := by
  obtain ⟨hC, hd⟩ := hd
  subst hC
  have ok : ∀ w ∈ wsV own index y.cls y ws, w.before args s = true := fun w h => ht w (hT w h).1
  have hG : GoodIn Ts ws := fun w h => hT w (by unfold wsV; exact List.mem_append_right _ h)
  have hc : Cond.codeWith y bytes maxL ret hh ∈ ws := by rw [hw]; exact List.mem_cons_self
  refine ⟨⟨hrc, hrs, hR.1, hR.2, pay_in ht hG, hc⟩, ht _ (hG _ hc).1, ok _ (by simp [wsV]), ⟨hd.1, hd.2.1⟩, fun sig h => ?_, ok _ (by simp [wsV]), ok _ (by simp [wsV]), ok _ (by simp [wsV])⟩
  have h2 := hd.2.2
  rw [h] at h2
  exact (Option.some.inj h2).symm
theorem vx_runVW {y : MethodName} {bytes cc : ByteArray} {maxL nL mc ms n index : Nat} {ret : Option FieldType} {hh : List (Nat × Nat × Nat × Nat)} {ws : List Cond} {rm : Room} {Pc : Array Value → State → Prop} {Qc : Array Value → State → Outcome → State → Prop} {free : Addr → Prop} {Ts : List Cond} {own C : String} {b : Addr} {As rest : List Value} {g : JFrame}
    (S : CallFix p m c cc nL s args Ts own) (hM : Met l y ws rm Pc Qc mc ms free) (cw : vx_CVW R s args own C index y bytes maxL ret hh ws rm mc ms n) (hp : PreV s H C b Pc As)
    (hg : g.method = m) (hn : As.length = n) (hsize : g.locals.size = nL) (hstack : g.stack = As.reverse ++ .ref b :: rest) (hW : 2 * g.monitorRoom + (rest.map fun v => v.category).sum ≤ 8) (hdg : decode cc g.pc = .ok (.invokevirtual index, 3)) (hf : cells + mc ≤ R.cells ∧ slots + ms ≤ R.slots) :
    va_Run p l e R s m args below meth c H locs cells slots mc ms g rest (Qc (Value.ref b :: As).toArray) free := by
  obtain ⟨⟨hrc, hrs, hfr, hlo, hws, hcw⟩, hcode, hini, hy, hlen, hl, hin, hse⟩ := cw
  have hK : Back l R p e below s args y 3 8 (PreOf R mc ms Pc) (PostOf Qc mc ms free) := va_backW (hh := hh) (bytes := bytes) (maxL := maxL) (ret := ret) hM hp.1 hrc hrs hfr hlo hws hcw (fun a' U hW => word_at hW (Or.inl (by first | rfl | simp [Cond.onTables, Cond.keeps, Cond.steady])) hini)
  obtain ⟨hx, hb, hml, ho, -⟩ := S
  obtain ⟨-, ⟨cellB, hcB, hoB, hclB⟩, hPc⟩ := hp
  intro T hT X
  obtain ⟨v, vm₁, ⟨U', l2, c2, s2⟩, hW₁, X', ⟨g', mk, t, L, e1, e2, hq, h1, hL, h2, h3⟩, st⟩ := vx_callVW X hx (C := C) (hh := hh) (bytes := bytes) (maxL := maxL) (ret := ret) ho hl hin hse hcode hy hK (by rw [hT]; exact hcB) hoB hclB hg (hsize.trans hml.symm) (argsL := As) (rest := rest) (fun sig h => hn.trans (hlen sig h)) hstack hW (by rw [hb]; exact hdg)
    (fun vm₁ hW₁ => ⟨hf.1, hf.2, hPc (T.setVm vm₁) hT hW₁⟩)
  dsimp only [Pt.U, Pt.locs, Pt.cells, Pt.slots] at X' e1 e2 h1 h2 h3 st
  subst h1; subst h2; subst h3
  exact ⟨v, (T.setVm vm₁).calling g' mk (Value.ref b :: As).toArray, t, U', L, hT, X', hL, e1, e2, hq, st⟩
section
variable {y : MethodName} {bytes cc : ByteArray} {maxL nL mc ms n index : Nat} {ret : Option FieldType} {ws : List Cond} {rm : Room} {Pc : Array Value → State → Prop} {Qc : Array Value → State → Outcome → State → Prop} {XC : String → State → State → Prop} {free : Addr → Prop} {Ts : List Cond} {own C : String} {b : Addr} {As rest : List Value} {g : JFrame}
theorem vx_runVX {hh : List (Nat × Nat × Nat × Nat)} (S : CallFix p m c cc nL s args Ts own) (hM : vx_Met l y ws rm Pc Qc XC mc ms free) (cw : vx_CVW R s args own C index y bytes maxL ret hh ws rm mc ms n) (hp : PreV s H C b Pc As)
    (hg : g.method = m) (hn : As.length = n) (hsize : g.locals.size = nL) (hstack : g.stack = As.reverse ++ .ref b :: rest) (hW : 2 * g.monitorRoom + (rest.map fun v => v.category).sum ≤ 8) (hdg : decode cc g.pc = .ok (.invokevirtual index, 3)) (hf : cells + mc ≤ R.cells ∧ slots + ms ≤ R.slots) :
    vx_Run p l e R s m args below meth c H locs cells slots mc ms g rest (Qc (Value.ref b :: As).toArray) XC free := by
  obtain ⟨⟨hrc, hrs, hfr, hlo, hws, hcw⟩, hcode, hini, hy, hlen, hl, hin, hse⟩ := cw
  have hK : vx_Back l R p e below s args y 3 8 (PreOf R mc ms Pc) (PostOf Qc mc ms free) (vx_Post XC mc ms free) := vx_backW (hh := hh) (bytes := bytes) (maxL := maxL) (ret := ret) hM hp.1 hrc hrs hfr hlo hws hcw (fun a' U hW => word_at hW (Or.inl (by first | rfl | simp [Cond.onTables, Cond.keeps, Cond.steady])) hini)
  obtain ⟨hx, hb, hml, ho, -⟩ := S
  obtain ⟨-, ⟨cellB, hcB, hoB, hclB⟩, hPc⟩ := hp
  intro T hT X
  rcases vx_callVX X hx (C := C) (hh := hh) (bytes := bytes) (maxL := maxL) (ret := ret) ho hl hin hse hcode hy hK (by rw [hT]; exact hcB) hoB hclB hg (hsize.trans hml.symm) (argsL := As) (rest := rest) (fun sig h => hn.trans (hlen sig h)) hstack hW (by rw [hb]; exact hdg)
    (fun vm₁ hW₁ => ⟨hf.1, hf.2, hPc (T.setVm vm₁) hT hW₁⟩) with ⟨v, vm₁, ⟨U', l2, c2, s2⟩, hW₁, X', ⟨g', mk, t, L, e1, e2, hq, h1, hL, h2, h3⟩, st⟩ | ⟨q, vm₁, ⟨U', l2, c2, s2⟩, hW₁, X', ⟨g', mk, t, L, E, ce, e1, e2, hq, hce, hcv, hcl, h1, hL, h2, h3⟩, st⟩
  · dsimp only [Pt.U, Pt.locs, Pt.cells, Pt.slots] at X' e1 e2 h1 h2 h3 st
    subst h1; subst h2; subst h3
    exact Or.inl ⟨v, (T.setVm vm₁).calling g' mk (Value.ref b :: As).toArray, t, U', L, hT, X', hL, e1, e2, hq, st⟩
  · dsimp only [Pt.U, Pt.locs, Pt.cells, Pt.slots] at X' e1 e2 h1 h2 h3 st hcl
    subst h1; subst h2; subst h3
    exact Or.inr ⟨q, (T.setVm vm₁).calling g' mk (Value.ref b :: As).toArray, t, U', L, E, ce, hT, X', hL, e1, e2, hq, hce, hcv, vx_cls hW₁ hcl, st⟩
theorem vx_runSX {hh : List (Nat × Nat × Nat × Nat)} (S : CallFix p m c cc nL s args Ts own) (hM : vx_Met l y ws rm Pc Qc XC mc ms free) (cw : vx_CSW R s args own index y bytes maxL ret hh ws rm mc ms n) (hp : PreS s H Pc As)
    (hg : g.method = m) (hn : As.length = n) (hsize : g.locals.size = nL) (hstack : g.stack = As.reverse ++ rest) (hW : 2 * g.monitorRoom + (rest.map fun v => v.category).sum ≤ 8) (hdg : decode cc g.pc = .ok (.invokestatic index, 3)) (hf : cells + mc ≤ R.cells ∧ slots + ms ≤ R.slots) :
    vx_Run p l e R s m args below meth c H locs cells slots mc ms g rest (Qc As.toArray) XC free := by
  obtain ⟨⟨hrc, hrs, hfr, hlo, hws, hcw⟩, hcode, hini, hy, hlen, hl, hstt⟩ := cw
  have hK : vx_Back l R p e below s args y 3 8 (PreOf R mc ms Pc) (PostOf Qc mc ms free) (vx_Post XC mc ms free) := vx_backW (hh := hh) (bytes := bytes) (maxL := maxL) (ret := ret) hM hp.1 hrc hrs hfr hlo hws hcw (fun a' U hW => word_at hW (Or.inl (by first | rfl | simp [Cond.onTables, Cond.keeps, Cond.steady])) hini)
  obtain ⟨hx, hb, hml, ho, -⟩ := S
  intro T hT X
  rcases vx_callSX X hx (hh := hh) (bytes := bytes) (maxL := maxL) (ret := ret) ho hl hstt hini hcode hy hK hg (hsize.trans hml.symm) (argsL := As) (rest := rest) (fun sig h => hn.trans (hlen sig h)) hstack hW (by rw [hb]; exact hdg)
    (fun vm₁ hW₁ => ⟨hf.1, hf.2, hp.2 (T.setVm vm₁) hT hW₁⟩) with ⟨v, vm₁, ⟨U', l2, c2, s2⟩, hW₁, X', ⟨g', mk, t, L, e1, e2, hq, h1, hL, h2, h3⟩, st⟩ | ⟨q, vm₁, ⟨U', l2, c2, s2⟩, hW₁, X', ⟨g', mk, t, L, E, ce, e1, e2, hq, hce, hcv, hcl, h1, hL, h2, h3⟩, st⟩
  · dsimp only [Pt.U, Pt.locs, Pt.cells, Pt.slots] at X' e1 e2 h1 h2 h3 st
    subst h1; subst h2; subst h3
    exact Or.inl ⟨v, (T.setVm vm₁).calling g' mk As.toArray, t, U', L, hT, X', hL, e1, e2, hq, st⟩
  · dsimp only [Pt.U, Pt.locs, Pt.cells, Pt.slots] at X' e1 e2 h1 h2 h3 st hcl
    subst h1; subst h2; subst h3
    exact Or.inr ⟨q, (T.setVm vm₁).calling g' mk As.toArray, t, U', L, E, ce, hT, X', hL, e1, e2, hq, hce, hcv, vx_cls hW₁ hcl, st⟩
end
end VXH
theorem vx_ofWH {l : Launch} {y : MethodName} {ws ws' : List Cond} {rm : Room} {Pc : Array Value → State → Prop} {Qc : Array Value → State → Outcome → State → Prop} {XC : String → State → State → Prop} {mc ms : Nat} {free : Addr → Prop} {cc : ByteArray} {maxL : Nat} {ret : Option FieldType} {hh : List (Nat × Nat × Nat × Nat)}
    (hy : plainName y.cls = true) (hw : ws = Cond.codeWith y cc maxL ret hh :: ws')
    (body : ∀ p e s m args below meth c s₁, BodyLoose p l y (headSpec ws rm) cc maxL ret e s m args below meth c s₁ → c.maxLocals = maxL → Pc args s →
      W p l e (headSpec ws rm).room s m args below meth c s.heap [] 0 0 (vx_MQ below Qc XC args s mc ms free) (entryFrame m args maxL)) : vx_Met l y ws rm Pc Qc XC mc ms free := by
  refine MetFree.of_bodyS (code := cc) (maxLocals := maxL) (ret := ret) hy ?_ ?_
  · intro args s m h hn
    obtain ⟨m9, meth, c, hn9, h1, h2, h3, h4, -, h5, h6, -⟩ := Cond.codeWith_spec (atoms_spec (ws := ws) h _ (by rw [hw]; exact List.mem_cons_self))
    cases hn.symm.trans hn9
    exact ⟨meth, c, h1, h2, h3, h4, h5, h6⟩
  · intro p e s m args below meth c s₁ B hml hP _
    have hh0 : s₁.heap = s.heap := by rw [B.state]; rfl
    obtain ⟨t, a1, o, b1, b2, b3⟩ := body p e s m args below meth c s₁ B hml hP s₁ hh0 (Stand.of_body B)
    exact ⟨t, o, a1, b1, b2, b3⟩
/-! ===== END ===== -/
end
section
/-! ===== BEGIN printed: names, fields, word lists, decode rows ===== -/
def RX0 : String := "HostLeague$Bookings"
def TX0 : u_T := fun k => match k with
  | 0 => ("HostLeague$Bookings", "guests", "[I", true)
  | 1 => ("HostLeague$Bookings", "inns", "[I", true)
  | 2 => ("HostLeague$Bookings", "kinds", "[I", true)
  | 3 => ("HostLeague$Bookings", "nights", "[I", true)
  | 4 => ("HostLeague$Bookings", "came", "[Z", true)
  | 5 => ("HostLeague$Bookings", "beds", "[I", true)
  | _ => ("HostLeague$Bookings", "count", "I", false)
def tyX0 : Nat → FieldType := fun k => match k with
  | 0 => .array .int
  | 1 => .array .int
  | 2 => .array .int
  | 3 => .array .int
  | 4 => .array .boolean
  | 5 => .array .int
  | _ => .int
abbrev wsX00 : List Cond := u_ws RX0 TX0 7
theorem nmX0 : ∀ a, a < 7 → ∀ b, b < 7 → a ≠ b → (TX0 a).2.1 ≠ (TX0 b).2.1 := by decide +kernel
theorem tyX0_ok : ∀ k, k < 7 → parseFieldDescriptor (TX0 k).2.2.1 = some (tyX0 k) := by decide +kernel
abbrev cX0_init : ByteArray := prog_2_method_1_code
def yX0_init : MethodName := ⟨RX0, "<init>", "()V"⟩
abbrev cX0_isFull : ByteArray := prog_2_method_2_code
def yX0_isFull : MethodName := ⟨RX0, "isFull", "()Z"⟩
abbrev cX0_add : ByteArray := prog_2_method_3_code
def yX0_add : MethodName := ⟨RX0, "add", "(IIII)I"⟩
abbrev cX0_arrive : ByteArray := prog_2_method_4_code
def yX0_arrive : MethodName := ⟨RX0, "arrive", "(II)V"⟩
abbrev cX0_countFor : ByteArray := prog_2_method_5_code
def yX0_countFor : MethodName := ⟨RX0, "countFor", "(III)I"⟩
abbrev cX0_missedIn : ByteArray := prog_2_method_6_code
def yX0_missedIn : MethodName := ⟨RX0, "missedIn", "(I)I"⟩
abbrev cX0_missedAt : ByteArray := prog_2_method_7_code
def yX0_missedAt : MethodName := ⟨RX0, "missedAt", "(III)I"⟩
abbrev cX0_sleepersAt : ByteArray := prog_2_method_8_code
def yX0_sleepersAt : MethodName := ⟨RX0, "sleepersAt", "(III)I"⟩
def RX1 : String := "HostLeague$Debts"
def TX1 : u_T := fun k => match k with
  | 0 => ("HostLeague$Debts", "purses", "[I", true)
  | _ => ("HostLeague$Debts", "balances", "[I", true)
def tyX1 : Nat → FieldType := fun k => match k with
  | 0 => .array .int
  | _ => .array .int
abbrev wsX10 : List Cond := u_ws RX1 TX1 2
theorem nmX1 : ∀ a, a < 2 → ∀ b, b < 2 → a ≠ b → (TX1 a).2.1 ≠ (TX1 b).2.1 := by decide +kernel
theorem tyX1_ok : ∀ k, k < 2 → parseFieldDescriptor (TX1 k).2.2.1 = some (tyX1 k) := by decide +kernel
abbrev cX1_init : ByteArray := prog_3_method_1_code
def yX1_init : MethodName := ⟨RX1, "<init>", "()V"⟩
abbrev cX1_row : ByteArray := prog_3_method_2_code
def yX1_row : MethodName := ⟨RX1, "row", "(II)I"⟩
abbrev cX1_receive : ByteArray := prog_3_method_3_code
def yX1_receive : MethodName := ⟨RX1, "receive", "(II)V"⟩
abbrev cX1_owe : ByteArray := prog_3_method_4_code
def yX1_owe : MethodName := ⟨RX1, "owe", "(III)V"⟩
abbrev cX1_between : ByteArray := prog_3_method_5_code
def yX1_between : MethodName := ⟨RX1, "between", "(II)I"⟩
abbrev cX1_payAll : ByteArray := prog_3_method_6_code
def yX1_payAll : MethodName := ⟨RX1, "payAll", "()I"⟩
abbrev cX1_pay : ByteArray := prog_3_method_7_code
def yX1_pay : MethodName := ⟨RX1, "pay", "(II)I"⟩
def RX2 : String := "HostLeague$Linen"
def TX2 : u_T := fun k => match k with
  | 0 => ("HostLeague$Linen", "clean", "[I", true)
  | 1 => ("HostLeague$Linen", "used", "[I", true)
  | 2 => ("HostLeague$Linen", "brought", "[I", true)
  | 3 => ("HostLeague$Linen", "washedOneNight", "[I", true)
  | 4 => ("HostLeague$Linen", "due", "[I", true)
  | 5 => ("HostLeague$Linen", "broken", "Z", false)
  | _ => ("HostLeague$Linen", "borrowedTonight", "I", false)
def tyX2 : Nat → FieldType := fun k => match k with
  | 0 => .array .int
  | 1 => .array .int
  | 2 => .array .int
  | 3 => .array .int
  | 4 => .array .int
  | 5 => .boolean
  | _ => .int
abbrev wsX20 : List Cond := u_ws RX2 TX2 7
theorem nmX2 : ∀ a, a < 7 → ∀ b, b < 7 → a ≠ b → (TX2 a).2.1 ≠ (TX2 b).2.1 := by decide +kernel
theorem tyX2_ok : ∀ k, k < 7 → parseFieldDescriptor (TX2 k).2.2.1 = some (tyX2 k) := by decide +kernel
abbrev cX2_init : ByteArray := prog_4_method_1_code
def yX2_init : MethodName := ⟨RX2, "<init>", "()V"⟩
abbrev cX2_addClean : ByteArray := prog_4_method_2_code
def yX2_addClean : MethodName := ⟨RX2, "addClean", "(II)I"⟩
abbrev cX2_changeBroken : ByteArray := prog_4_method_3_code
def yX2_changeBroken : MethodName := ⟨RX2, "changeBroken", "(Z)Z"⟩
abbrev cX2_awayOf : ByteArray := prog_4_method_4_code
def yX2_awayOf : MethodName := ⟨RX2, "awayOf", "(I)I"⟩
abbrev cX2_giverFor : ByteArray := prog_4_method_5_code
def yX2_giverFor : MethodName := ⟨RX2, "giverFor", "(I)I"⟩
abbrev cX2_chargeForBorrowing : ByteArray := prog_4_method_6_code
def yX2_chargeForBorrowing : MethodName := ⟨RX2, "chargeForBorrowing", "()I"⟩
abbrev cX2_take : ByteArray := prog_4_method_7_code
def yX2_take : MethodName := ⟨RX2, "take", "(II)V"⟩
abbrev cX2_endNight : ByteArray := prog_4_method_8_code
def yX2_endNight : MethodName := ⟨RX2, "endNight", "()V"⟩
def RX3 : String := "HostLeague$Points"
def TX3 : u_T := fun k => match k with
  | 0 => ("HostLeague$Points", "guests", "[I", true)
  | 1 => ("HostLeague$Points", "inns", "[I", true)
  | 2 => ("HostLeague$Points", "left", "[I", true)
  | _ => ("HostLeague$Points", "lots", "I", false)
def tyX3 : Nat → FieldType := fun k => match k with
  | 0 => .array .int
  | 1 => .array .int
  | 2 => .array .int
  | _ => .int
abbrev wsX30 : List Cond := u_ws RX3 TX3 4
theorem nmX3 : ∀ a, a < 4 → ∀ b, b < 4 → a ≠ b → (TX3 a).2.1 ≠ (TX3 b).2.1 := by decide +kernel
theorem tyX3_ok : ∀ k, k < 4 → parseFieldDescriptor (TX3 k).2.2.1 = some (tyX3 k) := by decide +kernel
abbrev cX3_init : ByteArray := prog_5_method_1_code
def yX3_init : MethodName := ⟨RX3, "<init>", "()V"⟩
abbrev cX3_add : ByteArray := prog_5_method_2_code
def yX3_add : MethodName := ⟨RX3, "add", "(III)V"⟩
abbrev cX3_ofGuest : ByteArray := prog_5_method_3_code
def yX3_ofGuest : MethodName := ⟨RX3, "ofGuest", "(I)I"⟩
abbrev cX3_takeFrom : ByteArray := prog_5_method_4_code
def yX3_takeFrom : MethodName := ⟨RX3, "takeFrom", "(III)I"⟩
def RX4 : String := "HostLeague$Rooms"
def TX4 : u_T := fun k => match k with
  | 0 => ("HostLeague$Rooms", "counts", "[I", true)
  | 1 => ("HostLeague$Rooms", "prices", "[I", true)
  | _ => ("HostLeague$Rooms", "sleepers", "[I", true)
def tyX4 : Nat → FieldType := fun k => match k with
  | 0 => .array .int
  | 1 => .array .int
  | _ => .array .int
abbrev wsX40 : List Cond := u_ws RX4 TX4 3
theorem nmX4 : ∀ a, a < 3 → ∀ b, b < 3 → a ≠ b → (TX4 a).2.1 ≠ (TX4 b).2.1 := by decide +kernel
theorem tyX4_ok : ∀ k, k < 3 → parseFieldDescriptor (TX4 k).2.2.1 = some (tyX4 k) := by decide +kernel
abbrev cX4_init : ByteArray := prog_6_method_1_code
def yX4_init : MethodName := ⟨RX4, "<init>", "()V"⟩
abbrev cX4_row : ByteArray := prog_6_method_2_code
def yX4_row : MethodName := ⟨RX4, "row", "(II)I"⟩
abbrev cX4_countOf : ByteArray := prog_6_method_3_code
def yX4_countOf : MethodName := ⟨RX4, "countOf", "(II)I"⟩
abbrev cX4_priceOf : ByteArray := prog_6_method_4_code
def yX4_priceOf : MethodName := ⟨RX4, "priceOf", "(II)I"⟩
abbrev cX4_sleepersOf : ByteArray := prog_6_method_5_code
def yX4_sleepersOf : MethodName := ⟨RX4, "sleepersOf", "(II)I"⟩
abbrev cX4_freeOf : ByteArray := prog_6_method_6_code
def yX4_freeOf : MethodName := ⟨RX4, "freeOf", "(II)I"⟩
abbrev cX4_change : ByteArray := prog_6_method_7_code
def yX4_change : MethodName := ⟨RX4, "change", "(IIII)I"⟩
abbrev cX4_addSleeper : ByteArray := prog_6_method_8_code
def yX4_addSleeper : MethodName := ⟨RX4, "addSleeper", "(II)V"⟩
abbrev cX4_endNight : ByteArray := prog_6_method_9_code
def yX4_endNight : MethodName := ⟨RX4, "endNight", "()V"⟩
def RX5 : String := "HostLeague"
def TX5 : u_T := fun k => match k with
  | 0 => ("HostLeague", "allRooms", "LHostLeague$Rooms;", true)
  | 1 => ("HostLeague", "linen", "LHostLeague$Linen;", true)
  | 2 => ("HostLeague", "booked", "LHostLeague$Bookings;", true)
  | 3 => ("HostLeague", "earned", "LHostLeague$Points;", true)
  | 4 => ("HostLeague", "debts", "LHostLeague$Debts;", true)
  | _ => ("HostLeague", "tonight", "I", false)
def tyX5 : Nat → FieldType := fun k => match k with
  | 0 => .object "HostLeague$Rooms"
  | 1 => .object "HostLeague$Linen"
  | 2 => .object "HostLeague$Bookings"
  | 3 => .object "HostLeague$Points"
  | 4 => .object "HostLeague$Debts"
  | _ => .int
abbrev wsX50 : List Cond := u_ws RX5 TX5 6
theorem nmX5 : ∀ a, a < 6 → ∀ b, b < 6 → a ≠ b → (TX5 a).2.1 ≠ (TX5 b).2.1 := by decide +kernel
theorem tyX5_ok : ∀ k, k < 6 → parseFieldDescriptor (TX5 k).2.2.1 = some (tyX5 k) := by decide +kernel
abbrev cX5_init : ByteArray := prog_1_method_1_code
def yX5_init : MethodName := ⟨RX5, "<init>", "()V"⟩
abbrev cX5_setRooms : ByteArray := prog_1_method_2_code
def yX5_setRooms : MethodName := ⟨RX5, "setRooms", "(IIII)I"⟩
abbrev cX5_buyLinen : ByteArray := prog_1_method_3_code
def yX5_buyLinen : MethodName := ⟨RX5, "buyLinen", "(II)I"⟩
abbrev cX5_setBroken : ByteArray := prog_1_method_4_code
def yX5_setBroken : MethodName := ⟨RX5, "setBroken", "(Z)Z"⟩
abbrev cX5_book : ByteArray := prog_1_method_5_code
def yX5_book : MethodName := ⟨RX5, "book", "(IIII)I"⟩
abbrev cX5_come : ByteArray := prog_1_method_6_code
def yX5_come : MethodName := ⟨RX5, "come", "(I)I"⟩
abbrev cX5_burn : ByteArray := prog_1_method_7_code
def yX5_burn : MethodName := ⟨RX5, "burn", "(III)I"⟩
abbrev cX5_night : ByteArray := prog_1_method_8_code
def yX5_night : MethodName := ⟨RX5, "night", "()I"⟩
abbrev cX5_settle : ByteArray := prog_1_method_9_code
def yX5_settle : MethodName := ⟨RX5, "settle", "()I"⟩
abbrev cX5_today : ByteArray := prog_1_method_10_code
def yX5_today : MethodName := ⟨RX5, "today", "()I"⟩
abbrev cX5_bookings : ByteArray := prog_1_method_11_code
def yX5_bookings : MethodName := ⟨RX5, "bookings", "()I"⟩
abbrev cX5_free : ByteArray := prog_1_method_12_code
def yX5_free : MethodName := ⟨RX5, "free", "(II)I"⟩
abbrev cX5_taken : ByteArray := prog_1_method_13_code
def yX5_taken : MethodName := ⟨RX5, "taken", "(II)I"⟩
abbrev cX5_takenByBookings : ByteArray := prog_1_method_14_code
def yX5_takenByBookings : MethodName := ⟨RX5, "takenByBookings", "(II)I"⟩
abbrev cX5_extra : ByteArray := prog_1_method_15_code
def yX5_extra : MethodName := ⟨RX5, "extra", "(I)I"⟩
abbrev cX5_clean : ByteArray := prog_1_method_16_code
def yX5_clean : MethodName := ⟨RX5, "clean", "(I)I"⟩
abbrev cX5_away : ByteArray := prog_1_method_17_code
def yX5_away : MethodName := ⟨RX5, "away", "(I)I"⟩
abbrev cX5_sleeps : ByteArray := prog_1_method_18_code
def yX5_sleeps : MethodName := ⟨RX5, "sleeps", "(I)I"⟩
abbrev cX5_points : ByteArray := prog_1_method_19_code
def yX5_points : MethodName := ⟨RX5, "points", "(I)I"⟩
abbrev cX5_owes : ByteArray := prog_1_method_20_code
def yX5_owes : MethodName := ⟨RX5, "owes", "(II)I"⟩
abbrev cX5_purse : ByteArray := prog_1_method_21_code
def yX5_purse : MethodName := ⟨RX5, "purse", "(I)I"⟩
abbrev cX5_checkInn : ByteArray := prog_1_method_22_code
def yX5_checkInn : MethodName := ⟨RX5, "checkInn", "(I)V"⟩
abbrev cX5_checkKind : ByteArray := prog_1_method_23_code
def yX5_checkKind : MethodName := ⟨RX5, "checkKind", "(I)V"⟩
abbrev cX5_checkGuest : ByteArray := prog_1_method_24_code
def yX5_checkGuest : MethodName := ⟨RX5, "checkGuest", "(I)V"⟩
abbrev cX5_checkBooking : ByteArray := prog_1_method_25_code
def yX5_checkBooking : MethodName := ⟨RX5, "checkBooking", "(I)V"⟩
abbrev cX5_checkRange : ByteArray := prog_1_method_26_code
def yX5_checkRange : MethodName := ⟨RX5, "checkRange", "(III)V"⟩
abbrev cX5_extraOf : ByteArray := prog_1_method_27_code
def yX5_extraOf : MethodName := ⟨RX5, "extraOf", "(I)I"⟩
abbrev cX5_takesMore : ByteArray := prog_1_method_28_code
def yX5_takesMore : MethodName := ⟨RX5, "takesMore", "(III)Z"⟩
abbrev cX5_distance : ByteArray := prog_1_method_29_code
def yX5_distance : MethodName := ⟨RX5, "distance", "(II)I"⟩
abbrev cX5_findInn : ByteArray := prog_1_method_30_code
def yX5_findInn : MethodName := ⟨RX5, "findInn", "(II)I"⟩
abbrev cX5_putUp : ByteArray := prog_1_method_31_code
def yX5_putUp : MethodName := ⟨RX5, "putUp", "(II)V"⟩
abbrev cX5_layLinen : ByteArray := prog_1_method_32_code
def yX5_layLinen : MethodName := ⟨RX5, "layLinen", "(I)V"⟩
abbrev cX5_burnEarliest : ByteArray := prog_1_method_33_code
def yX5_burnEarliest : MethodName := ⟨RX5, "burnEarliest", "(III)V"⟩
def RX6 : String := "HostLeagueModel"
def TX6 : u_T := fun k => match k with
  | _ => ("", "", "", false)
def tyX6 : Nat → FieldType := fun k => match k with
  | _ => .int
abbrev wsX60 : List Cond := u_ws RX6 TX6 0
theorem nmX6 : ∀ a, a < 0 → ∀ b, b < 0 → a ≠ b → (TX6 a).2.1 ≠ (TX6 b).2.1 := by decide +kernel
theorem tyX6_ok : ∀ k, k < 0 → parseFieldDescriptor (TX6 k).2.2.1 = some (tyX6 k) := by decide +kernel
def RJ9 : String := "java/lang/Math"
def TJ9 : u_T := fun k => match k with
  | _ => ("", "", "", false)
def tyJ9 : Nat → FieldType := fun k => match k with
  | _ => .int
abbrev wsJ90 : List Cond := u_ws RJ9 TJ9 0
theorem nmJ9 : ∀ a, a < 0 → ∀ b, b < 0 → a ≠ b → (TJ9 a).2.1 ≠ (TJ9 b).2.1 := by decide +kernel
theorem tyJ9_ok : ∀ k, k < 0 → parseFieldDescriptor (TJ9 k).2.2.1 = some (tyJ9 k) := by decide +kernel
abbrev cJ9_abs_0f7a4 : ByteArray := prog_13_method_59_code
def yJ9_abs_0f7a4 : MethodName := ⟨RJ9, "abs", "(I)I"⟩
abbrev cJ9_max_7cf53 : ByteArray := prog_13_method_65_code
def yJ9_max_7cf53 : MethodName := ⟨RJ9, "max", "(II)I"⟩
abbrev cJ9_min_7cf53 : ByteArray := prog_13_method_69_code
def yJ9_min_7cf53 : MethodName := ⟨RJ9, "min", "(II)I"⟩
def RJ0 : String := "java/lang/String"
def TJ0 : u_T := fun k => match k with
  | _ => ("", "", "", false)
def tyJ0 : Nat → FieldType := fun k => match k with
  | _ => .int
abbrev wsJ00 : List Cond := u_ws RJ0 TJ0 0
theorem nmJ0 : ∀ a, a < 0 → ∀ b, b < 0 → a ≠ b → (TJ0 a).2.1 ≠ (TJ0 b).2.1 := by decide +kernel
theorem tyJ0_ok : ∀ k, k < 0 → parseFieldDescriptor (TJ0 k).2.2.1 = some (tyJ0 k) := by decide +kernel
def RL : String := "HostLeagueLaw"
abbrev cL_told : ByteArray := method_2_code
def yL_told : MethodName := ⟨RL, "told", "([II)I"⟩
abbrev cL_sum : ByteArray := method_3_code
def yL_sum : MethodName := ⟨RL, "sum", "(LHostLeague;I)I"⟩
abbrev cL_booked : ByteArray := method_4_code
def yL_booked : MethodName := ⟨RL, "booked", "([III)I"⟩
abbrev cL_does : ByteArray := method_5_code
def yL_does : MethodName := ⟨RL, "does", "(LHostLeague;[I[I[I[III)Z"⟩
abbrev cL_law : ByteArray := code
def yL_law : MethodName := ⟨RL, "law", "([I)Z"⟩
def wsX0_init : List Cond := .code yX0_init cX0_init 1 none :: ([.methodLink RX0 3 objectInit, .instanceMethod objectInit, .code objectInit ⟨#[0xb1]⟩ 1 none, .arrayClass .int, .fieldLink RX0 9 "HostLeague$Bookings" "guests" "[I", .fieldLink RX0 15 "HostLeague$Bookings" "inns" "[I", .fieldLink RX0 18 "HostLeague$Bookings" "kinds" "[I", .fieldLink RX0 21 "HostLeague$Bookings" "nights" "[I", .arrayClass .boolean, .fieldLink RX0 24 "HostLeague$Bookings" "came" "[Z", .fieldLink RX0 28 "HostLeague$Bookings" "beds" "[I", .fieldLink RX0 31 "HostLeague$Bookings" "count" "I"] ++ wsX00)
def wsX0_isFull : List Cond := .code yX0_isFull cX0_isFull 1 (some .boolean) :: ([.fieldLink RX0 31 "HostLeague$Bookings" "count" "I"] ++ wsX00)
def wsX0_add : List Cond := .code yX0_add cX0_add 6 (some .int) :: ([.fieldLink RX0 31 "HostLeague$Bookings" "count" "I", .fieldLink RX0 9 "HostLeague$Bookings" "guests" "[I", .fieldLink RX0 15 "HostLeague$Bookings" "inns" "[I", .fieldLink RX0 18 "HostLeague$Bookings" "kinds" "[I", .fieldLink RX0 21 "HostLeague$Bookings" "nights" "[I", .fieldLink RX0 28 "HostLeague$Bookings" "beds" "[I"] ++ wsX00)
def wsX0_arrive : List Cond := .code yX0_arrive cX0_arrive 3 none :: ([.fieldLink RX0 24 "HostLeague$Bookings" "came" "[Z", .fieldLink RX0 28 "HostLeague$Bookings" "beds" "[I"] ++ wsX00)
def wsX0_countFor : List Cond := .code yX0_countFor cX0_countFor 6 (some .int) :: ([.fieldLink RX0 31 "HostLeague$Bookings" "count" "I", .fieldLink RX0 15 "HostLeague$Bookings" "inns" "[I", .fieldLink RX0 18 "HostLeague$Bookings" "kinds" "[I", .fieldLink RX0 21 "HostLeague$Bookings" "nights" "[I"] ++ wsX00)
def wsX0_missedIn : List Cond := .code yX0_missedIn cX0_missedIn 4 (some .int) :: ([.fieldLink RX0 31 "HostLeague$Bookings" "count" "I", .fieldLink RX0 21 "HostLeague$Bookings" "nights" "[I", .fieldLink RX0 24 "HostLeague$Bookings" "came" "[Z"] ++ wsX00)
def wsX0_missedAt : List Cond := .code yX0_missedAt cX0_missedAt 6 (some .int) :: ([.fieldLink RX0 31 "HostLeague$Bookings" "count" "I", .fieldLink RX0 15 "HostLeague$Bookings" "inns" "[I", .fieldLink RX0 21 "HostLeague$Bookings" "nights" "[I", .fieldLink RX0 24 "HostLeague$Bookings" "came" "[Z"] ++ wsX00)
def wsX0_sleepersAt : List Cond := .code yX0_sleepersAt cX0_sleepersAt 6 (some .int) :: ([.fieldLink RX0 31 "HostLeague$Bookings" "count" "I", .fieldLink RX0 28 "HostLeague$Bookings" "beds" "[I", .fieldLink RX0 18 "HostLeague$Bookings" "kinds" "[I", .fieldLink RX0 21 "HostLeague$Bookings" "nights" "[I"] ++ wsX00)
def wsX1_init : List Cond := .code yX1_init cX1_init 1 none :: ([.methodLink RX1 3 objectInit, .instanceMethod objectInit, .code objectInit ⟨#[0xb1]⟩ 1 none, .arrayClass .int, .fieldLink RX1 9 "HostLeague$Debts" "purses" "[I", .fieldLink RX1 15 "HostLeague$Debts" "balances" "[I"] ++ wsX10)
def wsX1_row : List Cond := .code yX1_row cX1_row 2 (some .int) :: ([])
def wsX1_receive : List Cond := .code yX1_receive cX1_receive 3 none :: ([.fieldLink RX1 9 "HostLeague$Debts" "purses" "[I"] ++ wsX10)
def wsX1_owe : List Cond := .code yX1_owe cX1_owe 4 none :: ([.fieldLink RX1 15 "HostLeague$Debts" "balances" "[I", .methodLink RX1 18 yX1_row, .static yX1_row, .initialized RX1, .code yX1_row cX1_row 2 (some .int)] ++ wsX10)
def wsX1_between : List Cond := .code yX1_between cX1_between 3 (some .int) :: ([.fieldLink RX1 15 "HostLeague$Debts" "balances" "[I", .methodLink RX1 22 Lib.Math.max.name, .static Lib.Math.max.name, .initialized "java/lang/Math", .code Lib.Math.max.name Lib.Math.max.code 2 (some .int), .methodLink RX1 18 yX1_row, .static yX1_row, .initialized RX1, .code yX1_row cX1_row 2 (some .int)] ++ wsX10)
def wsX1_pay : List Cond := .code yX1_pay cX1_pay 4 (some .int) :: ([.fieldLink RX1 9 "HostLeague$Debts" "purses" "[I", .methodLink RX1 30 yX1_between, .instanceMethod yX1_between, .selects RX1 yX1_between yX1_between, .initialized RX1, .code yX1_between cX1_between 3 (some .int), .fieldLink RX1 15 "HostLeague$Debts" "balances" "[I", .methodLink RX1 22 Lib.Math.max.name, .static Lib.Math.max.name, .initialized "java/lang/Math", .code Lib.Math.max.name Lib.Math.max.code 2 (some .int), .methodLink RX1 18 yX1_row, .static yX1_row, .code yX1_row cX1_row 2 (some .int), .methodLink RX1 33 yX1_owe, .instanceMethod yX1_owe, .selects RX1 yX1_owe yX1_owe, .code yX1_owe cX1_owe 4 none] ++ wsX10)
def wsX1_payAll : List Cond := .code yX1_payAll cX1_payAll 4 (some .int) :: ([.methodLink RX1 27 yX1_pay, .instanceMethod yX1_pay, .selects RX1 yX1_pay yX1_pay, .initialized RX1, .code yX1_pay cX1_pay 4 (some .int), .fieldLink RX1 9 "HostLeague$Debts" "purses" "[I", .methodLink RX1 30 yX1_between, .instanceMethod yX1_between, .selects RX1 yX1_between yX1_between, .code yX1_between cX1_between 3 (some .int), .fieldLink RX1 15 "HostLeague$Debts" "balances" "[I", .methodLink RX1 22 Lib.Math.max.name, .static Lib.Math.max.name, .initialized "java/lang/Math", .code Lib.Math.max.name Lib.Math.max.code 2 (some .int), .methodLink RX1 18 yX1_row, .static yX1_row, .code yX1_row cX1_row 2 (some .int), .methodLink RX1 33 yX1_owe, .instanceMethod yX1_owe, .selects RX1 yX1_owe yX1_owe, .code yX1_owe cX1_owe 4 none] ++ wsX10)
def wsX2_init : List Cond := .code yX2_init cX2_init 1 none :: ([.methodLink RX2 3 objectInit, .instanceMethod objectInit, .code objectInit ⟨#[0xb1]⟩ 1 none, .arrayClass .int, .fieldLink RX2 9 "HostLeague$Linen" "clean" "[I", .fieldLink RX2 15 "HostLeague$Linen" "used" "[I", .fieldLink RX2 18 "HostLeague$Linen" "brought" "[I", .fieldLink RX2 21 "HostLeague$Linen" "washedOneNight" "[I", .fieldLink RX2 24 "HostLeague$Linen" "due" "[I", .fieldLink RX2 27 "HostLeague$Linen" "broken" "Z", .fieldLink RX2 31 "HostLeague$Linen" "borrowedTonight" "I"] ++ wsX20)
def wsX2_addClean : List Cond := .code yX2_addClean cX2_addClean 3 (some .int) :: ([.fieldLink RX2 9 "HostLeague$Linen" "clean" "[I"] ++ wsX20)
def wsX2_changeBroken : List Cond := .code yX2_changeBroken cX2_changeBroken 3 (some .boolean) :: ([.fieldLink RX2 27 "HostLeague$Linen" "broken" "Z"] ++ wsX20)
def wsX2_awayOf : List Cond := .code yX2_awayOf cX2_awayOf 2 (some .int) :: ([.fieldLink RX2 15 "HostLeague$Linen" "used" "[I", .fieldLink RX2 18 "HostLeague$Linen" "brought" "[I", .fieldLink RX2 21 "HostLeague$Linen" "washedOneNight" "[I", .fieldLink RX2 24 "HostLeague$Linen" "due" "[I"] ++ wsX20)
def wsX2_giverFor : List Cond := .code yX2_giverFor cX2_giverFor 5 (some .int) :: ([.fieldLink RX2 9 "HostLeague$Linen" "clean" "[I"] ++ wsX20)
def wsX2_chargeForBorrowing : List Cond := .code yX2_chargeForBorrowing cX2_chargeForBorrowing 1 (some .int) :: ([.fieldLink RX2 31 "HostLeague$Linen" "borrowedTonight" "I"] ++ wsX20)
def wsX2_take : List Cond := .code yX2_take cX2_take 3 none :: ([.fieldLink RX2 9 "HostLeague$Linen" "clean" "[I", .fieldLink RX2 15 "HostLeague$Linen" "used" "[I", .fieldLink RX2 31 "HostLeague$Linen" "borrowedTonight" "I"] ++ wsX20)
def wsX2_endNight : List Cond := .code yX2_endNight cX2_endNight 2 none :: ([.fieldLink RX2 24 "HostLeague$Linen" "due" "[I", .fieldLink RX2 21 "HostLeague$Linen" "washedOneNight" "[I", .fieldLink RX2 18 "HostLeague$Linen" "brought" "[I", .fieldLink RX2 15 "HostLeague$Linen" "used" "[I", .fieldLink RX2 27 "HostLeague$Linen" "broken" "Z", .fieldLink RX2 9 "HostLeague$Linen" "clean" "[I", .fieldLink RX2 31 "HostLeague$Linen" "borrowedTonight" "I"] ++ wsX20)
def wsX3_init : List Cond := .code yX3_init cX3_init 1 none :: ([.methodLink RX3 3 objectInit, .instanceMethod objectInit, .code objectInit ⟨#[0xb1]⟩ 1 none, .arrayClass .int, .fieldLink RX3 9 "HostLeague$Points" "guests" "[I", .fieldLink RX3 15 "HostLeague$Points" "inns" "[I", .fieldLink RX3 18 "HostLeague$Points" "left" "[I", .fieldLink RX3 21 "HostLeague$Points" "lots" "I"] ++ wsX30)
def wsX3_add : List Cond := .code yX3_add cX3_add 4 none :: ([.fieldLink RX3 21 "HostLeague$Points" "lots" "I", .fieldLink RX3 9 "HostLeague$Points" "guests" "[I", .fieldLink RX3 15 "HostLeague$Points" "inns" "[I", .fieldLink RX3 18 "HostLeague$Points" "left" "[I"] ++ wsX30)
def wsX3_ofGuest : List Cond := .code yX3_ofGuest cX3_ofGuest 4 (some .int) :: ([.fieldLink RX3 21 "HostLeague$Points" "lots" "I", .fieldLink RX3 9 "HostLeague$Points" "guests" "[I", .fieldLink RX3 18 "HostLeague$Points" "left" "[I"] ++ wsX30)
def wsX3_takeFrom : List Cond := .code yX3_takeFrom cX3_takeFrom 5 (some .int) :: ([.fieldLink RX3 9 "HostLeague$Points" "guests" "[I", .fieldLink RX3 18 "HostLeague$Points" "left" "[I", .methodLink RX3 25 Lib.Math.min.name, .static Lib.Math.min.name, .initialized "java/lang/Math", .code Lib.Math.min.name Lib.Math.min.code 2 (some .int)] ++ wsX30)
def wsX4_init : List Cond := .code yX4_init cX4_init 2 none :: ([.methodLink RX4 3 objectInit, .instanceMethod objectInit, .code objectInit ⟨#[0xb1]⟩ 1 none, .arrayClass .int, .fieldLink RX4 9 "HostLeague$Rooms" "counts" "[I", .fieldLink RX4 15 "HostLeague$Rooms" "prices" "[I", .fieldLink RX4 18 "HostLeague$Rooms" "sleepers" "[I"] ++ wsX40)
def wsX4_row : List Cond := .code yX4_row cX4_row 2 (some .int) :: ([])
def wsX4_countOf : List Cond := .code yX4_countOf cX4_countOf 3 (some .int) :: ([.fieldLink RX4 9 "HostLeague$Rooms" "counts" "[I", .methodLink RX4 21 yX4_row, .static yX4_row, .initialized RX4, .code yX4_row cX4_row 2 (some .int)] ++ wsX40)
def wsX4_priceOf : List Cond := .code yX4_priceOf cX4_priceOf 3 (some .int) :: ([.fieldLink RX4 15 "HostLeague$Rooms" "prices" "[I", .methodLink RX4 21 yX4_row, .static yX4_row, .initialized RX4, .code yX4_row cX4_row 2 (some .int)] ++ wsX40)
def wsX4_sleepersOf : List Cond := .code yX4_sleepersOf cX4_sleepersOf 3 (some .int) :: ([.fieldLink RX4 18 "HostLeague$Rooms" "sleepers" "[I", .methodLink RX4 21 yX4_row, .static yX4_row, .initialized RX4, .code yX4_row cX4_row 2 (some .int)] ++ wsX40)
def wsX4_freeOf : List Cond := .code yX4_freeOf cX4_freeOf 3 (some .int) :: ([.methodLink RX4 31 Lib.Math.max.name, .static Lib.Math.max.name, .initialized "java/lang/Math", .code Lib.Math.max.name Lib.Math.max.code 2 (some .int), .methodLink RX4 25 yX4_countOf, .instanceMethod yX4_countOf, .selects RX4 yX4_countOf yX4_countOf, .initialized RX4, .code yX4_countOf cX4_countOf 3 (some .int), .fieldLink RX4 9 "HostLeague$Rooms" "counts" "[I", .methodLink RX4 21 yX4_row, .static yX4_row, .code yX4_row cX4_row 2 (some .int), .methodLink RX4 28 yX4_sleepersOf, .instanceMethod yX4_sleepersOf, .selects RX4 yX4_sleepersOf yX4_sleepersOf, .code yX4_sleepersOf cX4_sleepersOf 3 (some .int), .fieldLink RX4 18 "HostLeague$Rooms" "sleepers" "[I"] ++ wsX40)
def wsX4_change : List Cond := .code yX4_change cX4_change 7 (some .int) :: ([.fieldLink RX4 9 "HostLeague$Rooms" "counts" "[I", .fieldLink RX4 15 "HostLeague$Rooms" "prices" "[I", .methodLink RX4 21 yX4_row, .static yX4_row, .initialized RX4, .code yX4_row cX4_row 2 (some .int)] ++ wsX40)
def wsX4_addSleeper : List Cond := .code yX4_addSleeper cX4_addSleeper 3 none :: ([.fieldLink RX4 18 "HostLeague$Rooms" "sleepers" "[I", .methodLink RX4 21 yX4_row, .static yX4_row, .initialized RX4, .code yX4_row cX4_row 2 (some .int)] ++ wsX40)
def wsX4_endNight : List Cond := .code yX4_endNight cX4_endNight 2 none :: ([.fieldLink RX4 18 "HostLeague$Rooms" "sleepers" "[I"] ++ wsX40)
def wsX5_init_r1 : List Cond := [Cond.methodLink RX5 1 objectInit, Cond.instanceMethod objectInit, Cond.code objectInit ⟨#[0xb1]⟩ 1 none, Cond.classLink RX5 7 RX4, Cond.instantiable RX4 3, Cond.initialized RX4, Cond.fieldLink RX5 10 "HostLeague" "allRooms" "LHostLeague$Rooms;", Cond.classLink RX5 16 RX2, Cond.instantiable RX2 7, Cond.initialized RX2, Cond.fieldLink RX5 19 "HostLeague" "linen" "LHostLeague$Linen;", Cond.classLink RX5 23 RX0, Cond.instantiable RX0 7, Cond.initialized RX0, Cond.fieldLink RX5 26 "HostLeague" "booked" "LHostLeague$Bookings;", Cond.classLink RX5 30 RX3, Cond.instantiable RX3 4, Cond.initialized RX3, Cond.fieldLink RX5 33 "HostLeague" "earned" "LHostLeague$Points;", Cond.classLink RX5 37 RX1, Cond.instantiable RX1 2, Cond.initialized RX1, Cond.fieldLink RX5 40 "HostLeague" "debts" "LHostLeague$Debts;", Cond.fieldLink RX5 44 "HostLeague" "tonight" "I"]
def wsX5_init_r2 : List Cond := [Cond.methodLink RX5 9 yX4_init, Cond.instanceMethod yX4_init, Cond.code yX4_init cX4_init 2 none, Cond.methodLink RX4 3 objectInit, Cond.arrayClass .int, Cond.fieldLink RX4 9 "HostLeague$Rooms" "counts" "[I", Cond.fieldLink RX4 15 "HostLeague$Rooms" "prices" "[I", Cond.fieldLink RX4 18 "HostLeague$Rooms" "sleepers" "[I", Cond.methodLink RX5 18 yX2_init, Cond.instanceMethod yX2_init, Cond.code yX2_init cX2_init 1 none, Cond.methodLink RX2 3 objectInit, Cond.fieldLink RX2 9 "HostLeague$Linen" "clean" "[I", Cond.fieldLink RX2 15 "HostLeague$Linen" "used" "[I", Cond.fieldLink RX2 18 "HostLeague$Linen" "brought" "[I", Cond.fieldLink RX2 21 "HostLeague$Linen" "washedOneNight" "[I", Cond.fieldLink RX2 24 "HostLeague$Linen" "due" "[I", Cond.fieldLink RX2 27 "HostLeague$Linen" "broken" "Z", Cond.fieldLink RX2 31 "HostLeague$Linen" "borrowedTonight" "I", Cond.methodLink RX5 25 yX0_init, Cond.instanceMethod yX0_init, Cond.code yX0_init cX0_init 1 none, Cond.methodLink RX0 3 objectInit, Cond.fieldLink RX0 9 "HostLeague$Bookings" "guests" "[I"]
def wsX5_init_r3 : List Cond := [Cond.fieldLink RX0 15 "HostLeague$Bookings" "inns" "[I", Cond.fieldLink RX0 18 "HostLeague$Bookings" "kinds" "[I", Cond.fieldLink RX0 21 "HostLeague$Bookings" "nights" "[I", Cond.arrayClass .boolean, Cond.fieldLink RX0 24 "HostLeague$Bookings" "came" "[Z", Cond.fieldLink RX0 28 "HostLeague$Bookings" "beds" "[I", Cond.fieldLink RX0 31 "HostLeague$Bookings" "count" "I", Cond.methodLink RX5 32 yX3_init, Cond.instanceMethod yX3_init, Cond.code yX3_init cX3_init 1 none, Cond.methodLink RX3 3 objectInit, Cond.fieldLink RX3 9 "HostLeague$Points" "guests" "[I", Cond.fieldLink RX3 15 "HostLeague$Points" "inns" "[I", Cond.fieldLink RX3 18 "HostLeague$Points" "left" "[I", Cond.fieldLink RX3 21 "HostLeague$Points" "lots" "I", Cond.methodLink RX5 39 yX1_init, Cond.instanceMethod yX1_init, Cond.code yX1_init cX1_init 1 none, Cond.methodLink RX1 3 objectInit, Cond.fieldLink RX1 9 "HostLeague$Debts" "purses" "[I", Cond.fieldLink RX1 15 "HostLeague$Debts" "balances" "[I"]
def wsX5_init : List Cond := .code yX5_init cX5_init 1 none :: ((wsX5_init_r1 ++ (wsX5_init_r2 ++ wsX5_init_r3)) ++ wsX40 ++ wsX50 ++ wsX20 ++ wsX00 ++ wsX30 ++ wsX10)
def wsX5_checkInn : List Cond := .code yX5_checkInn cX5_checkInn 1 none :: ([.classLink RX5 174 "java/lang/IndexOutOfBoundsException", .initialized "java/lang/IndexOutOfBoundsException"] ++ (vx_atS RX5 178 "java/lang/IndexOutOfBoundsException" ["java/lang/RuntimeException", "java/lang/Exception"]).filter goodWord)
def wsX5_checkKind : List Cond := .code yX5_checkKind cX5_checkKind 1 none :: ([.classLink RX5 174 "java/lang/IndexOutOfBoundsException", .initialized "java/lang/IndexOutOfBoundsException"] ++ (vx_atS RX5 178 "java/lang/IndexOutOfBoundsException" ["java/lang/RuntimeException", "java/lang/Exception"]).filter goodWord)
def wsX5_checkRange : List Cond := .code yX5_checkRange cX5_checkRange 3 none :: ([.classLink RX5 185 "java/lang/IllegalArgumentException", .initialized "java/lang/IllegalArgumentException"] ++ (vx_atS RX5 189 "java/lang/IllegalArgumentException" ["java/lang/RuntimeException", "java/lang/Exception"]).filter goodWord)
def wsX5_setRooms_r1 : List Cond := [Cond.fieldLink RX5 10 "HostLeague" "allRooms" "LHostLeague$Rooms;", Cond.methodLink RX5 48 yX5_checkInn, Cond.static yX5_checkInn, Cond.initialized RX5, Cond.code yX5_checkInn cX5_checkInn 1 none, Cond.classLink RX5 174 "java/lang/IndexOutOfBoundsException", Cond.initialized "java/lang/IndexOutOfBoundsException", Cond.methodLink RX5 52 yX5_checkKind, Cond.static yX5_checkKind, Cond.code yX5_checkKind cX5_checkKind 1 none, Cond.methodLink RX5 55 yX5_checkRange, Cond.static yX5_checkRange, Cond.code yX5_checkRange cX5_checkRange 3 none, Cond.classLink RX5 185 "java/lang/IllegalArgumentException", Cond.initialized "java/lang/IllegalArgumentException", Cond.methodLink RX5 59 yX4_change, Cond.instanceMethod yX4_change, Cond.selects RX4 yX4_change yX4_change, Cond.initialized RX4, Cond.code yX4_change cX4_change 7 (some .int), Cond.fieldLink RX4 9 "HostLeague$Rooms" "counts" "[I", Cond.fieldLink RX4 15 "HostLeague$Rooms" "prices" "[I", Cond.methodLink RX4 21 yX4_row, Cond.static yX4_row]
def wsX5_setRooms_r2 : List Cond := [Cond.code yX4_row cX4_row 2 (some .int)]
def wsX5_setRooms : List Cond := .code yX5_setRooms cX5_setRooms 5 (some .int) :: ((wsX5_setRooms_r1 ++ wsX5_setRooms_r2) ++ wsX50 ++ wsX40 ++ (vx_atS RX5 178 "java/lang/IndexOutOfBoundsException" ["java/lang/RuntimeException", "java/lang/Exception"]).filter goodWord ++ (vx_atS RX5 189 "java/lang/IllegalArgumentException" ["java/lang/RuntimeException", "java/lang/Exception"]).filter goodWord)
def wsX5_buyLinen : List Cond := .code yX5_buyLinen cX5_buyLinen 3 (some .int) :: ([.fieldLink RX5 19 "HostLeague" "linen" "LHostLeague$Linen;", .methodLink RX5 48 yX5_checkInn, .static yX5_checkInn, .initialized RX5, .code yX5_checkInn cX5_checkInn 1 none, .classLink RX5 174 "java/lang/IndexOutOfBoundsException", .initialized "java/lang/IndexOutOfBoundsException", .methodLink RX5 55 yX5_checkRange, .static yX5_checkRange, .code yX5_checkRange cX5_checkRange 3 none, .classLink RX5 185 "java/lang/IllegalArgumentException", .initialized "java/lang/IllegalArgumentException", .methodLink RX5 63 yX2_addClean, .instanceMethod yX2_addClean, .selects RX2 yX2_addClean yX2_addClean, .initialized RX2, .code yX2_addClean cX2_addClean 3 (some .int), .fieldLink RX2 9 "HostLeague$Linen" "clean" "[I"] ++ wsX50 ++ wsX20 ++ (vx_atS RX5 178 "java/lang/IndexOutOfBoundsException" ["java/lang/RuntimeException", "java/lang/Exception"]).filter goodWord ++ (vx_atS RX5 189 "java/lang/IllegalArgumentException" ["java/lang/RuntimeException", "java/lang/Exception"]).filter goodWord)
def wsX5_setBroken : List Cond := .code yX5_setBroken cX5_setBroken 2 (some .boolean) :: ([.fieldLink RX5 19 "HostLeague" "linen" "LHostLeague$Linen;", .methodLink RX5 67 yX2_changeBroken, .instanceMethod yX2_changeBroken, .selects RX2 yX2_changeBroken yX2_changeBroken, .initialized RX2, .code yX2_changeBroken cX2_changeBroken 3 (some .boolean), .fieldLink RX2 27 "HostLeague$Linen" "broken" "Z"] ++ wsX50 ++ wsX20)
def wsX5_checkGuest : List Cond := .code yX5_checkGuest cX5_checkGuest 1 none :: ([.classLink RX5 174 "java/lang/IndexOutOfBoundsException", .initialized "java/lang/IndexOutOfBoundsException"] ++ (vx_atS RX5 178 "java/lang/IndexOutOfBoundsException" ["java/lang/RuntimeException", "java/lang/Exception"]).filter goodWord)
def wsX5_extraOf : List Cond := .code yX5_extraOf cX5_extraOf 2 (some .int) :: ([.fieldLink RX5 26 "HostLeague" "booked" "LHostLeague$Bookings;", .fieldLink RX5 44 "HostLeague" "tonight" "I", .methodLink RX5 190 yX0_missedAt, .instanceMethod yX0_missedAt, .selects RX0 yX0_missedAt yX0_missedAt, .initialized RX0, .code yX0_missedAt cX0_missedAt 6 (some .int), .fieldLink RX0 31 "HostLeague$Bookings" "count" "I", .fieldLink RX0 15 "HostLeague$Bookings" "inns" "[I", .fieldLink RX0 21 "HostLeague$Bookings" "nights" "[I", .fieldLink RX0 24 "HostLeague$Bookings" "came" "[Z"] ++ wsX50 ++ wsX00)
def wsX5_takesMore_r1 : List Cond := [Cond.fieldLink RX5 26 "HostLeague" "booked" "LHostLeague$Bookings;", Cond.fieldLink RX5 10 "HostLeague" "allRooms" "LHostLeague$Rooms;", Cond.methodLink RX5 193 yX0_countFor, Cond.instanceMethod yX0_countFor, Cond.selects RX0 yX0_countFor yX0_countFor, Cond.initialized RX0, Cond.code yX0_countFor cX0_countFor 6 (some .int), Cond.fieldLink RX0 31 "HostLeague$Bookings" "count" "I", Cond.fieldLink RX0 15 "HostLeague$Bookings" "inns" "[I", Cond.fieldLink RX0 18 "HostLeague$Bookings" "kinds" "[I", Cond.fieldLink RX0 21 "HostLeague$Bookings" "nights" "[I", Cond.methodLink RX5 196 yX4_countOf, Cond.instanceMethod yX4_countOf, Cond.selects RX4 yX4_countOf yX4_countOf, Cond.initialized RX4, Cond.code yX4_countOf cX4_countOf 3 (some .int), Cond.fieldLink RX4 9 "HostLeague$Rooms" "counts" "[I", Cond.methodLink RX4 21 yX4_row, Cond.static yX4_row, Cond.code yX4_row cX4_row 2 (some .int), Cond.methodLink RX5 156 yX5_extraOf, Cond.instanceMethod yX5_extraOf, Cond.selects RX5 yX5_extraOf yX5_extraOf, Cond.initialized RX5]
def wsX5_takesMore_r2 : List Cond := [Cond.code yX5_extraOf cX5_extraOf 2 (some .int), Cond.fieldLink RX5 44 "HostLeague" "tonight" "I", Cond.methodLink RX5 190 yX0_missedAt, Cond.instanceMethod yX0_missedAt, Cond.selects RX0 yX0_missedAt yX0_missedAt, Cond.code yX0_missedAt cX0_missedAt 6 (some .int), Cond.fieldLink RX0 24 "HostLeague$Bookings" "came" "[Z"]
def wsX5_takesMore : List Cond := .code yX5_takesMore cX5_takesMore 4 (some .boolean) :: ((wsX5_takesMore_r1 ++ wsX5_takesMore_r2) ++ wsX50 ++ wsX00 ++ wsX40)
def wsX5_book_r1 : List Cond := [Cond.classLink RX5 82 "java/lang/IllegalStateException", Cond.initialized "java/lang/IllegalStateException", Cond.fieldLink RX5 44 "HostLeague" "tonight" "I", Cond.fieldLink RX5 26 "HostLeague" "booked" "LHostLeague$Bookings;", Cond.methodLink RX5 71 yX5_checkGuest, Cond.static yX5_checkGuest, Cond.initialized RX5, Cond.code yX5_checkGuest cX5_checkGuest 1 none, Cond.classLink RX5 174 "java/lang/IndexOutOfBoundsException", Cond.initialized "java/lang/IndexOutOfBoundsException", Cond.methodLink RX5 48 yX5_checkInn, Cond.static yX5_checkInn, Cond.code yX5_checkInn cX5_checkInn 1 none, Cond.methodLink RX5 52 yX5_checkKind, Cond.static yX5_checkKind, Cond.code yX5_checkKind cX5_checkKind 1 none, Cond.methodLink RX5 55 yX5_checkRange, Cond.static yX5_checkRange, Cond.code yX5_checkRange cX5_checkRange 3 none, Cond.classLink RX5 185 "java/lang/IllegalArgumentException", Cond.initialized "java/lang/IllegalArgumentException", Cond.methodLink RX5 74 yX0_isFull, Cond.instanceMethod yX0_isFull, Cond.selects RX0 yX0_isFull yX0_isFull]
def wsX5_book_r2 : List Cond := [Cond.initialized RX0, Cond.code yX0_isFull cX0_isFull 1 (some .boolean), Cond.fieldLink RX0 31 "HostLeague$Bookings" "count" "I", Cond.methodLink RX5 78 yX5_takesMore, Cond.instanceMethod yX5_takesMore, Cond.selects RX5 yX5_takesMore yX5_takesMore, Cond.code yX5_takesMore cX5_takesMore 4 (some .boolean), Cond.fieldLink RX5 10 "HostLeague" "allRooms" "LHostLeague$Rooms;", Cond.methodLink RX5 193 yX0_countFor, Cond.instanceMethod yX0_countFor, Cond.selects RX0 yX0_countFor yX0_countFor, Cond.code yX0_countFor cX0_countFor 6 (some .int), Cond.fieldLink RX0 15 "HostLeague$Bookings" "inns" "[I", Cond.fieldLink RX0 18 "HostLeague$Bookings" "kinds" "[I", Cond.fieldLink RX0 21 "HostLeague$Bookings" "nights" "[I", Cond.methodLink RX5 196 yX4_countOf, Cond.instanceMethod yX4_countOf, Cond.selects RX4 yX4_countOf yX4_countOf, Cond.initialized RX4, Cond.code yX4_countOf cX4_countOf 3 (some .int), Cond.fieldLink RX4 9 "HostLeague$Rooms" "counts" "[I", Cond.methodLink RX4 21 yX4_row, Cond.static yX4_row, Cond.code yX4_row cX4_row 2 (some .int)]
def wsX5_book_r3 : List Cond := [Cond.methodLink RX5 156 yX5_extraOf, Cond.instanceMethod yX5_extraOf, Cond.selects RX5 yX5_extraOf yX5_extraOf, Cond.code yX5_extraOf cX5_extraOf 2 (some .int), Cond.methodLink RX5 190 yX0_missedAt, Cond.instanceMethod yX0_missedAt, Cond.selects RX0 yX0_missedAt yX0_missedAt, Cond.code yX0_missedAt cX0_missedAt 6 (some .int), Cond.fieldLink RX0 24 "HostLeague$Bookings" "came" "[Z", Cond.methodLink RX5 89 yX0_add, Cond.instanceMethod yX0_add, Cond.selects RX0 yX0_add yX0_add, Cond.code yX0_add cX0_add 6 (some .int), Cond.fieldLink RX0 9 "HostLeague$Bookings" "guests" "[I", Cond.fieldLink RX0 28 "HostLeague$Bookings" "beds" "[I"]
def wsX5_book : List Cond := .code yX5_book cX5_book 5 (some .int) :: ((wsX5_book_r1 ++ (wsX5_book_r2 ++ wsX5_book_r3)) ++ wsX50 ++ wsX00 ++ wsX40 ++ (vx_atS RX5 86 "java/lang/IllegalStateException" ["java/lang/RuntimeException", "java/lang/Exception"]).filter goodWord ++ (vx_atS RX5 178 "java/lang/IndexOutOfBoundsException" ["java/lang/RuntimeException", "java/lang/Exception"]).filter goodWord ++ (vx_atS RX5 189 "java/lang/IllegalArgumentException" ["java/lang/RuntimeException", "java/lang/Exception"]).filter goodWord)
def wsX5_checkBooking : List Cond := .code yX5_checkBooking cX5_checkBooking 2 none :: ([.classLink RX5 174 "java/lang/IndexOutOfBoundsException", .initialized "java/lang/IndexOutOfBoundsException", .fieldLink RX5 26 "HostLeague" "booked" "LHostLeague$Bookings;", .fieldLink RX5 143 "HostLeague$Bookings" "count" "I"] ++ wsX50 ++ wsX00 ++ (vx_atS RX5 178 "java/lang/IndexOutOfBoundsException" ["java/lang/RuntimeException", "java/lang/Exception"]).filter goodWord)
def wsX5_distance : List Cond := .code yX5_distance cX5_distance 3 (some .int) :: ([.methodLink RX5 199 Lib.Math.abs.name, .static Lib.Math.abs.name, .initialized "java/lang/Math", .code Lib.Math.abs.name Lib.Math.abs.code 1 (some .int), .methodLink RX5 204 Lib.Math.min.name, .static Lib.Math.min.name, .code Lib.Math.min.name Lib.Math.min.code 2 (some .int)])
def wsX5_findInn_r1 : List Cond := [Cond.fieldLink RX5 10 "HostLeague" "allRooms" "LHostLeague$Rooms;", Cond.fieldLink RX5 19 "HostLeague" "linen" "LHostLeague$Linen;", Cond.methodLink RX5 207 yX5_distance, Cond.static yX5_distance, Cond.initialized RX5, Cond.code yX5_distance cX5_distance 3 (some .int), Cond.methodLink RX5 199 Lib.Math.abs.name, Cond.static Lib.Math.abs.name, Cond.initialized "java/lang/Math", Cond.code Lib.Math.abs.name Lib.Math.abs.code 1 (some .int), Cond.methodLink RX5 204 Lib.Math.min.name, Cond.static Lib.Math.min.name, Cond.code Lib.Math.min.name Lib.Math.min.code 2 (some .int), Cond.methodLink RX5 146 yX4_freeOf, Cond.instanceMethod yX4_freeOf, Cond.selects RX4 yX4_freeOf yX4_freeOf, Cond.initialized RX4, Cond.code yX4_freeOf cX4_freeOf 3 (some .int), Cond.methodLink RX4 31 Lib.Math.max.name, Cond.static Lib.Math.max.name, Cond.code Lib.Math.max.name Lib.Math.max.code 2 (some .int), Cond.methodLink RX4 25 yX4_countOf, Cond.instanceMethod yX4_countOf, Cond.selects RX4 yX4_countOf yX4_countOf]
def wsX5_findInn_r2 : List Cond := [Cond.code yX4_countOf cX4_countOf 3 (some .int), Cond.fieldLink RX4 9 "HostLeague$Rooms" "counts" "[I", Cond.methodLink RX4 21 yX4_row, Cond.static yX4_row, Cond.code yX4_row cX4_row 2 (some .int), Cond.methodLink RX4 28 yX4_sleepersOf, Cond.instanceMethod yX4_sleepersOf, Cond.selects RX4 yX4_sleepersOf yX4_sleepersOf, Cond.code yX4_sleepersOf cX4_sleepersOf 3 (some .int), Cond.fieldLink RX4 18 "HostLeague$Rooms" "sleepers" "[I", Cond.methodLink RX5 210 yX2_giverFor, Cond.instanceMethod yX2_giverFor, Cond.selects RX2 yX2_giverFor yX2_giverFor, Cond.initialized RX2, Cond.code yX2_giverFor cX2_giverFor 5 (some .int), Cond.fieldLink RX2 9 "HostLeague$Linen" "clean" "[I"]
def wsX5_findInn : List Cond := .code yX5_findInn cX5_findInn 5 (some .int) :: ((wsX5_findInn_r1 ++ wsX5_findInn_r2) ++ wsX50 ++ wsX40 ++ wsX20)
def wsX5_layLinen_r1 : List Cond := [Cond.fieldLink RX5 19 "HostLeague" "linen" "LHostLeague$Linen;", Cond.fieldLink RX5 40 "HostLeague" "debts" "LHostLeague$Debts;", Cond.methodLink RX5 210 yX2_giverFor, Cond.instanceMethod yX2_giverFor, Cond.selects RX2 yX2_giverFor yX2_giverFor, Cond.initialized RX2, Cond.code yX2_giverFor cX2_giverFor 5 (some .int), Cond.fieldLink RX2 9 "HostLeague$Linen" "clean" "[I", Cond.methodLink RX5 233 yX2_chargeForBorrowing, Cond.instanceMethod yX2_chargeForBorrowing, Cond.selects RX2 yX2_chargeForBorrowing yX2_chargeForBorrowing, Cond.code yX2_chargeForBorrowing cX2_chargeForBorrowing 1 (some .int), Cond.fieldLink RX2 31 "HostLeague$Linen" "borrowedTonight" "I", Cond.methodLink RX5 219 yX1_owe, Cond.instanceMethod yX1_owe, Cond.selects RX1 yX1_owe yX1_owe, Cond.initialized RX1, Cond.code yX1_owe cX1_owe 4 none, Cond.fieldLink RX1 15 "HostLeague$Debts" "balances" "[I", Cond.methodLink RX1 18 yX1_row, Cond.static yX1_row, Cond.code yX1_row cX1_row 2 (some .int), Cond.methodLink RX5 236 yX2_take, Cond.instanceMethod yX2_take]
def wsX5_layLinen_r2 : List Cond := [Cond.selects RX2 yX2_take yX2_take, Cond.code yX2_take cX2_take 3 none, Cond.fieldLink RX2 15 "HostLeague$Linen" "used" "[I"]
def wsX5_layLinen : List Cond := .code yX5_layLinen cX5_layLinen 3 none :: ((wsX5_layLinen_r1 ++ wsX5_layLinen_r2) ++ wsX50 ++ wsX20 ++ wsX10)
def wsX5_putUp_r1 : List Cond := [Cond.fieldLink RX5 26 "HostLeague" "booked" "LHostLeague$Bookings;", Cond.fieldLink RX5 105 "HostLeague$Bookings" "inns" "[I", Cond.fieldLink RX5 108 "HostLeague$Bookings" "kinds" "[I", Cond.fieldLink RX5 10 "HostLeague" "allRooms" "LHostLeague$Rooms;", Cond.fieldLink RX5 40 "HostLeague" "debts" "LHostLeague$Debts;", Cond.fieldLink RX5 33 "HostLeague" "earned" "LHostLeague$Points;", Cond.fieldLink RX5 228 "HostLeague$Bookings" "guests" "[I", Cond.methodLink RX5 213 yX4_priceOf, Cond.instanceMethod yX4_priceOf, Cond.selects RX4 yX4_priceOf yX4_priceOf, Cond.initialized RX4, Cond.code yX4_priceOf cX4_priceOf 3 (some .int), Cond.fieldLink RX4 15 "HostLeague$Rooms" "prices" "[I", Cond.methodLink RX4 21 yX4_row, Cond.static yX4_row, Cond.code yX4_row cX4_row 2 (some .int), Cond.methodLink RX5 216 yX1_receive, Cond.instanceMethod yX1_receive, Cond.selects RX1 yX1_receive yX1_receive, Cond.initialized RX1, Cond.code yX1_receive cX1_receive 3 none, Cond.fieldLink RX1 9 "HostLeague$Debts" "purses" "[I", Cond.methodLink RX5 219 yX1_owe, Cond.instanceMethod yX1_owe]
def wsX5_putUp_r2 : List Cond := [Cond.selects RX1 yX1_owe yX1_owe, Cond.code yX1_owe cX1_owe 4 none, Cond.fieldLink RX1 15 "HostLeague$Debts" "balances" "[I", Cond.methodLink RX1 18 yX1_row, Cond.static yX1_row, Cond.code yX1_row cX1_row 2 (some .int), Cond.methodLink RX5 222 yX5_layLinen, Cond.instanceMethod yX5_layLinen, Cond.selects RX5 yX5_layLinen yX5_layLinen, Cond.initialized RX5, Cond.code yX5_layLinen cX5_layLinen 3 none, Cond.fieldLink RX5 19 "HostLeague" "linen" "LHostLeague$Linen;", Cond.methodLink RX5 210 yX2_giverFor, Cond.instanceMethod yX2_giverFor, Cond.selects RX2 yX2_giverFor yX2_giverFor, Cond.initialized RX2, Cond.code yX2_giverFor cX2_giverFor 5 (some .int), Cond.fieldLink RX2 9 "HostLeague$Linen" "clean" "[I", Cond.methodLink RX5 233 yX2_chargeForBorrowing, Cond.instanceMethod yX2_chargeForBorrowing, Cond.selects RX2 yX2_chargeForBorrowing yX2_chargeForBorrowing, Cond.code yX2_chargeForBorrowing cX2_chargeForBorrowing 1 (some .int), Cond.fieldLink RX2 31 "HostLeague$Linen" "borrowedTonight" "I", Cond.methodLink RX5 236 yX2_take]
def wsX5_putUp_r3 : List Cond := [Cond.instanceMethod yX2_take, Cond.selects RX2 yX2_take yX2_take, Cond.code yX2_take cX2_take 3 none, Cond.fieldLink RX2 15 "HostLeague$Linen" "used" "[I", Cond.methodLink RX5 225 yX4_addSleeper, Cond.instanceMethod yX4_addSleeper, Cond.selects RX4 yX4_addSleeper yX4_addSleeper, Cond.code yX4_addSleeper cX4_addSleeper 3 none, Cond.fieldLink RX4 18 "HostLeague$Rooms" "sleepers" "[I", Cond.methodLink RX5 231 yX3_add, Cond.instanceMethod yX3_add, Cond.selects RX3 yX3_add yX3_add, Cond.initialized RX3, Cond.code yX3_add cX3_add 4 none, Cond.fieldLink RX3 21 "HostLeague$Points" "lots" "I", Cond.fieldLink RX3 9 "HostLeague$Points" "guests" "[I", Cond.fieldLink RX3 15 "HostLeague$Points" "inns" "[I", Cond.fieldLink RX3 18 "HostLeague$Points" "left" "[I"]
def wsX5_putUp : List Cond := .code yX5_putUp cX5_putUp 6 none :: ((wsX5_putUp_r1 ++ (wsX5_putUp_r2 ++ wsX5_putUp_r3)) ++ wsX50 ++ wsX00 ++ wsX40 ++ wsX10 ++ wsX20 ++ wsX30)
def wsX5_come_r1 : List Cond := [Cond.classLink RX5 82 "java/lang/IllegalStateException", Cond.initialized "java/lang/IllegalStateException", Cond.fieldLink RX5 26 "HostLeague" "booked" "LHostLeague$Bookings;", Cond.fieldLink RX5 95 "HostLeague$Bookings" "nights" "[I", Cond.fieldLink RX5 44 "HostLeague" "tonight" "I", Cond.fieldLink RX5 99 "HostLeague$Bookings" "came" "[Z", Cond.fieldLink RX5 105 "HostLeague$Bookings" "inns" "[I", Cond.fieldLink RX5 108 "HostLeague$Bookings" "kinds" "[I", Cond.methodLink RX5 92 yX5_checkBooking, Cond.instanceMethod yX5_checkBooking, Cond.selects RX5 yX5_checkBooking yX5_checkBooking, Cond.initialized RX5, Cond.code yX5_checkBooking cX5_checkBooking 2 none, Cond.classLink RX5 174 "java/lang/IndexOutOfBoundsException", Cond.initialized "java/lang/IndexOutOfBoundsException", Cond.fieldLink RX5 143 "HostLeague$Bookings" "count" "I", Cond.methodLink RX5 111 yX5_findInn, Cond.instanceMethod yX5_findInn, Cond.selects RX5 yX5_findInn yX5_findInn, Cond.code yX5_findInn cX5_findInn 5 (some .int), Cond.fieldLink RX5 10 "HostLeague" "allRooms" "LHostLeague$Rooms;", Cond.fieldLink RX5 19 "HostLeague" "linen" "LHostLeague$Linen;", Cond.methodLink RX5 207 yX5_distance, Cond.static yX5_distance]
def wsX5_come_r2 : List Cond := [Cond.code yX5_distance cX5_distance 3 (some .int), Cond.methodLink RX5 199 Lib.Math.abs.name, Cond.static Lib.Math.abs.name, Cond.initialized "java/lang/Math", Cond.code Lib.Math.abs.name Lib.Math.abs.code 1 (some .int), Cond.methodLink RX5 204 Lib.Math.min.name, Cond.static Lib.Math.min.name, Cond.code Lib.Math.min.name Lib.Math.min.code 2 (some .int), Cond.methodLink RX5 146 yX4_freeOf, Cond.instanceMethod yX4_freeOf, Cond.selects RX4 yX4_freeOf yX4_freeOf, Cond.initialized RX4, Cond.code yX4_freeOf cX4_freeOf 3 (some .int), Cond.methodLink RX4 31 Lib.Math.max.name, Cond.static Lib.Math.max.name, Cond.code Lib.Math.max.name Lib.Math.max.code 2 (some .int), Cond.methodLink RX4 25 yX4_countOf, Cond.instanceMethod yX4_countOf, Cond.selects RX4 yX4_countOf yX4_countOf, Cond.code yX4_countOf cX4_countOf 3 (some .int), Cond.fieldLink RX4 9 "HostLeague$Rooms" "counts" "[I", Cond.methodLink RX4 21 yX4_row, Cond.static yX4_row, Cond.code yX4_row cX4_row 2 (some .int)]
def wsX5_come_r3 : List Cond := [Cond.methodLink RX4 28 yX4_sleepersOf, Cond.instanceMethod yX4_sleepersOf, Cond.selects RX4 yX4_sleepersOf yX4_sleepersOf, Cond.code yX4_sleepersOf cX4_sleepersOf 3 (some .int), Cond.fieldLink RX4 18 "HostLeague$Rooms" "sleepers" "[I", Cond.methodLink RX5 210 yX2_giverFor, Cond.instanceMethod yX2_giverFor, Cond.selects RX2 yX2_giverFor yX2_giverFor, Cond.initialized RX2, Cond.code yX2_giverFor cX2_giverFor 5 (some .int), Cond.fieldLink RX2 9 "HostLeague$Linen" "clean" "[I", Cond.methodLink RX5 114 yX0_arrive, Cond.instanceMethod yX0_arrive, Cond.selects RX0 yX0_arrive yX0_arrive, Cond.initialized RX0, Cond.code yX0_arrive cX0_arrive 3 none, Cond.fieldLink RX0 24 "HostLeague$Bookings" "came" "[Z", Cond.fieldLink RX0 28 "HostLeague$Bookings" "beds" "[I", Cond.methodLink RX5 118 yX5_putUp, Cond.instanceMethod yX5_putUp, Cond.selects RX5 yX5_putUp yX5_putUp, Cond.code yX5_putUp cX5_putUp 6 none, Cond.fieldLink RX5 40 "HostLeague" "debts" "LHostLeague$Debts;", Cond.fieldLink RX5 33 "HostLeague" "earned" "LHostLeague$Points;"]
def wsX5_come_r4 : List Cond := [Cond.fieldLink RX5 228 "HostLeague$Bookings" "guests" "[I", Cond.methodLink RX5 213 yX4_priceOf, Cond.instanceMethod yX4_priceOf, Cond.selects RX4 yX4_priceOf yX4_priceOf, Cond.code yX4_priceOf cX4_priceOf 3 (some .int), Cond.fieldLink RX4 15 "HostLeague$Rooms" "prices" "[I", Cond.methodLink RX5 216 yX1_receive, Cond.instanceMethod yX1_receive, Cond.selects RX1 yX1_receive yX1_receive, Cond.initialized RX1, Cond.code yX1_receive cX1_receive 3 none, Cond.fieldLink RX1 9 "HostLeague$Debts" "purses" "[I", Cond.methodLink RX5 219 yX1_owe, Cond.instanceMethod yX1_owe, Cond.selects RX1 yX1_owe yX1_owe, Cond.code yX1_owe cX1_owe 4 none, Cond.fieldLink RX1 15 "HostLeague$Debts" "balances" "[I", Cond.methodLink RX1 18 yX1_row, Cond.static yX1_row, Cond.code yX1_row cX1_row 2 (some .int), Cond.methodLink RX5 222 yX5_layLinen, Cond.instanceMethod yX5_layLinen, Cond.selects RX5 yX5_layLinen yX5_layLinen, Cond.code yX5_layLinen cX5_layLinen 3 none]
def wsX5_come_r5 : List Cond := [Cond.methodLink RX5 233 yX2_chargeForBorrowing, Cond.instanceMethod yX2_chargeForBorrowing, Cond.selects RX2 yX2_chargeForBorrowing yX2_chargeForBorrowing, Cond.code yX2_chargeForBorrowing cX2_chargeForBorrowing 1 (some .int), Cond.fieldLink RX2 31 "HostLeague$Linen" "borrowedTonight" "I", Cond.methodLink RX5 236 yX2_take, Cond.instanceMethod yX2_take, Cond.selects RX2 yX2_take yX2_take, Cond.code yX2_take cX2_take 3 none, Cond.fieldLink RX2 15 "HostLeague$Linen" "used" "[I", Cond.methodLink RX5 225 yX4_addSleeper, Cond.instanceMethod yX4_addSleeper, Cond.selects RX4 yX4_addSleeper yX4_addSleeper, Cond.code yX4_addSleeper cX4_addSleeper 3 none, Cond.methodLink RX5 231 yX3_add, Cond.instanceMethod yX3_add, Cond.selects RX3 yX3_add yX3_add, Cond.initialized RX3, Cond.code yX3_add cX3_add 4 none, Cond.fieldLink RX3 21 "HostLeague$Points" "lots" "I", Cond.fieldLink RX3 9 "HostLeague$Points" "guests" "[I", Cond.fieldLink RX3 15 "HostLeague$Points" "inns" "[I", Cond.fieldLink RX3 18 "HostLeague$Points" "left" "[I"]
def wsX5_come : List Cond := .code yX5_come cX5_come 3 (some .int) :: ((wsX5_come_r1 ++ (wsX5_come_r2 ++ (wsX5_come_r3 ++ (wsX5_come_r4 ++ wsX5_come_r5)))) ++ wsX50 ++ wsX00 ++ wsX40 ++ wsX20 ++ wsX10 ++ wsX30 ++ (vx_atS RX5 86 "java/lang/IllegalStateException" ["java/lang/RuntimeException", "java/lang/Exception"]).filter goodWord ++ (vx_atS RX5 178 "java/lang/IndexOutOfBoundsException" ["java/lang/RuntimeException", "java/lang/Exception"]).filter goodWord)
def wsX5_burnEarliest : List Cond := .code yX5_burnEarliest cX5_burnEarliest 7 none :: ([.fieldLink RX5 33 "HostLeague" "earned" "LHostLeague$Points;", .fieldLink RX5 239 "HostLeague$Points" "lots" "I", .fieldLink RX5 245 "HostLeague$Points" "inns" "[I", .fieldLink RX5 40 "HostLeague" "debts" "LHostLeague$Debts;", .methodLink RX5 242 yX3_takeFrom, .instanceMethod yX3_takeFrom, .selects RX3 yX3_takeFrom yX3_takeFrom, .initialized RX3, .code yX3_takeFrom cX3_takeFrom 5 (some .int), .fieldLink RX3 9 "HostLeague$Points" "guests" "[I", .fieldLink RX3 18 "HostLeague$Points" "left" "[I", .methodLink RX3 25 Lib.Math.min.name, .static Lib.Math.min.name, .initialized "java/lang/Math", .code Lib.Math.min.name Lib.Math.min.code 2 (some .int), .methodLink RX5 219 yX1_owe, .instanceMethod yX1_owe, .selects RX1 yX1_owe yX1_owe, .initialized RX1, .code yX1_owe cX1_owe 4 none, .fieldLink RX1 15 "HostLeague$Debts" "balances" "[I", .methodLink RX1 18 yX1_row, .static yX1_row, .code yX1_row cX1_row 2 (some .int)] ++ wsX50 ++ wsX30 ++ wsX10)
def wsX5_burn_r1 : List Cond := [Cond.classLink RX5 82 "java/lang/IllegalStateException", Cond.initialized "java/lang/IllegalStateException", Cond.fieldLink RX5 33 "HostLeague" "earned" "LHostLeague$Points;", Cond.methodLink RX5 71 yX5_checkGuest, Cond.static yX5_checkGuest, Cond.initialized RX5, Cond.code yX5_checkGuest cX5_checkGuest 1 none, Cond.classLink RX5 174 "java/lang/IndexOutOfBoundsException", Cond.initialized "java/lang/IndexOutOfBoundsException", Cond.methodLink RX5 48 yX5_checkInn, Cond.static yX5_checkInn, Cond.code yX5_checkInn cX5_checkInn 1 none, Cond.methodLink RX5 55 yX5_checkRange, Cond.static yX5_checkRange, Cond.code yX5_checkRange cX5_checkRange 3 none, Cond.classLink RX5 185 "java/lang/IllegalArgumentException", Cond.initialized "java/lang/IllegalArgumentException", Cond.methodLink RX5 121 yX3_ofGuest, Cond.instanceMethod yX3_ofGuest, Cond.selects RX3 yX3_ofGuest yX3_ofGuest, Cond.initialized RX3, Cond.code yX3_ofGuest cX3_ofGuest 4 (some .int), Cond.fieldLink RX3 21 "HostLeague$Points" "lots" "I", Cond.fieldLink RX3 9 "HostLeague$Points" "guests" "[I"]
def wsX5_burn_r2 : List Cond := [Cond.fieldLink RX3 18 "HostLeague$Points" "left" "[I", Cond.methodLink RX5 127 yX5_burnEarliest, Cond.instanceMethod yX5_burnEarliest, Cond.selects RX5 yX5_burnEarliest yX5_burnEarliest, Cond.code yX5_burnEarliest cX5_burnEarliest 7 none, Cond.fieldLink RX5 239 "HostLeague$Points" "lots" "I", Cond.fieldLink RX5 245 "HostLeague$Points" "inns" "[I", Cond.fieldLink RX5 40 "HostLeague" "debts" "LHostLeague$Debts;", Cond.methodLink RX5 242 yX3_takeFrom, Cond.instanceMethod yX3_takeFrom, Cond.selects RX3 yX3_takeFrom yX3_takeFrom, Cond.code yX3_takeFrom cX3_takeFrom 5 (some .int), Cond.methodLink RX3 25 Lib.Math.min.name, Cond.static Lib.Math.min.name, Cond.initialized "java/lang/Math", Cond.code Lib.Math.min.name Lib.Math.min.code 2 (some .int), Cond.methodLink RX5 219 yX1_owe, Cond.instanceMethod yX1_owe, Cond.selects RX1 yX1_owe yX1_owe, Cond.initialized RX1, Cond.code yX1_owe cX1_owe 4 none, Cond.fieldLink RX1 15 "HostLeague$Debts" "balances" "[I", Cond.methodLink RX1 18 yX1_row, Cond.static yX1_row]
def wsX5_burn_r3 : List Cond := [Cond.code yX1_row cX1_row 2 (some .int)]
def wsX5_burn : List Cond := .code yX5_burn cX5_burn 4 (some .int) :: ((wsX5_burn_r1 ++ (wsX5_burn_r2 ++ wsX5_burn_r3)) ++ wsX50 ++ wsX30 ++ wsX10 ++ (vx_atS RX5 86 "java/lang/IllegalStateException" ["java/lang/RuntimeException", "java/lang/Exception"]).filter goodWord ++ (vx_atS RX5 178 "java/lang/IndexOutOfBoundsException" ["java/lang/RuntimeException", "java/lang/Exception"]).filter goodWord ++ (vx_atS RX5 189 "java/lang/IllegalArgumentException" ["java/lang/RuntimeException", "java/lang/Exception"]).filter goodWord)
def wsX5_night_r1 : List Cond := [Cond.classLink RX5 82 "java/lang/IllegalStateException", Cond.initialized "java/lang/IllegalStateException", Cond.fieldLink RX5 44 "HostLeague" "tonight" "I", Cond.fieldLink RX5 26 "HostLeague" "booked" "LHostLeague$Bookings;", Cond.fieldLink RX5 10 "HostLeague" "allRooms" "LHostLeague$Rooms;", Cond.fieldLink RX5 19 "HostLeague" "linen" "LHostLeague$Linen;", Cond.methodLink RX5 132 yX0_missedIn, Cond.instanceMethod yX0_missedIn, Cond.selects RX0 yX0_missedIn yX0_missedIn, Cond.initialized RX0, Cond.code yX0_missedIn cX0_missedIn 4 (some .int), Cond.fieldLink RX0 31 "HostLeague$Bookings" "count" "I", Cond.fieldLink RX0 21 "HostLeague$Bookings" "nights" "[I", Cond.fieldLink RX0 24 "HostLeague$Bookings" "came" "[Z", Cond.methodLink RX5 135 yX4_endNight, Cond.instanceMethod yX4_endNight, Cond.selects RX4 yX4_endNight yX4_endNight, Cond.initialized RX4, Cond.code yX4_endNight cX4_endNight 2 none, Cond.fieldLink RX4 18 "HostLeague$Rooms" "sleepers" "[I", Cond.methodLink RX5 138 yX2_endNight, Cond.instanceMethod yX2_endNight, Cond.selects RX2 yX2_endNight yX2_endNight, Cond.initialized RX2]
def wsX5_night_r2 : List Cond := [Cond.code yX2_endNight cX2_endNight 2 none, Cond.fieldLink RX2 24 "HostLeague$Linen" "due" "[I", Cond.fieldLink RX2 21 "HostLeague$Linen" "washedOneNight" "[I", Cond.fieldLink RX2 18 "HostLeague$Linen" "brought" "[I", Cond.fieldLink RX2 15 "HostLeague$Linen" "used" "[I", Cond.fieldLink RX2 27 "HostLeague$Linen" "broken" "Z", Cond.fieldLink RX2 9 "HostLeague$Linen" "clean" "[I", Cond.fieldLink RX2 31 "HostLeague$Linen" "borrowedTonight" "I"]
def wsX5_night : List Cond := .code yX5_night cX5_night 2 (some .int) :: ((wsX5_night_r1 ++ wsX5_night_r2) ++ wsX50 ++ wsX00 ++ wsX40 ++ wsX20 ++ (vx_atS RX5 86 "java/lang/IllegalStateException" ["java/lang/RuntimeException", "java/lang/Exception"]).filter goodWord)
def wsX5_settle_r1 : List Cond := [Cond.fieldLink RX5 40 "HostLeague" "debts" "LHostLeague$Debts;", Cond.methodLink RX5 139 yX1_payAll, Cond.instanceMethod yX1_payAll, Cond.selects RX1 yX1_payAll yX1_payAll, Cond.initialized RX1, Cond.code yX1_payAll cX1_payAll 4 (some .int), Cond.methodLink RX1 27 yX1_pay, Cond.instanceMethod yX1_pay, Cond.selects RX1 yX1_pay yX1_pay, Cond.code yX1_pay cX1_pay 4 (some .int), Cond.fieldLink RX1 9 "HostLeague$Debts" "purses" "[I", Cond.methodLink RX1 30 yX1_between, Cond.instanceMethod yX1_between, Cond.selects RX1 yX1_between yX1_between, Cond.code yX1_between cX1_between 3 (some .int), Cond.fieldLink RX1 15 "HostLeague$Debts" "balances" "[I", Cond.methodLink RX1 22 Lib.Math.max.name, Cond.static Lib.Math.max.name, Cond.initialized "java/lang/Math", Cond.code Lib.Math.max.name Lib.Math.max.code 2 (some .int), Cond.methodLink RX1 18 yX1_row, Cond.static yX1_row, Cond.code yX1_row cX1_row 2 (some .int), Cond.methodLink RX1 33 yX1_owe]
def wsX5_settle_r2 : List Cond := [Cond.instanceMethod yX1_owe, Cond.selects RX1 yX1_owe yX1_owe, Cond.code yX1_owe cX1_owe 4 none]
def wsX5_settle : List Cond := .code yX5_settle cX5_settle 1 (some .int) :: ((wsX5_settle_r1 ++ wsX5_settle_r2) ++ wsX50 ++ wsX10)
def wsX5_today : List Cond := .code yX5_today cX5_today 1 (some .int) :: ([.fieldLink RX5 44 "HostLeague" "tonight" "I"] ++ wsX50)
def wsX5_bookings : List Cond := .code yX5_bookings cX5_bookings 1 (some .int) :: ([.fieldLink RX5 26 "HostLeague" "booked" "LHostLeague$Bookings;", .fieldLink RX5 143 "HostLeague$Bookings" "count" "I"] ++ wsX50 ++ wsX00)
def wsX5_free_r1 : List Cond := [Cond.fieldLink RX5 10 "HostLeague" "allRooms" "LHostLeague$Rooms;", Cond.methodLink RX5 48 yX5_checkInn, Cond.static yX5_checkInn, Cond.initialized RX5, Cond.code yX5_checkInn cX5_checkInn 1 none, Cond.classLink RX5 174 "java/lang/IndexOutOfBoundsException", Cond.initialized "java/lang/IndexOutOfBoundsException", Cond.methodLink RX5 52 yX5_checkKind, Cond.static yX5_checkKind, Cond.code yX5_checkKind cX5_checkKind 1 none, Cond.methodLink RX5 146 yX4_freeOf, Cond.instanceMethod yX4_freeOf, Cond.selects RX4 yX4_freeOf yX4_freeOf, Cond.initialized RX4, Cond.code yX4_freeOf cX4_freeOf 3 (some .int), Cond.methodLink RX4 31 Lib.Math.max.name, Cond.static Lib.Math.max.name, Cond.initialized "java/lang/Math", Cond.code Lib.Math.max.name Lib.Math.max.code 2 (some .int), Cond.methodLink RX4 25 yX4_countOf, Cond.instanceMethod yX4_countOf, Cond.selects RX4 yX4_countOf yX4_countOf, Cond.code yX4_countOf cX4_countOf 3 (some .int), Cond.fieldLink RX4 9 "HostLeague$Rooms" "counts" "[I"]
def wsX5_free_r2 : List Cond := [Cond.methodLink RX4 21 yX4_row, Cond.static yX4_row, Cond.code yX4_row cX4_row 2 (some .int), Cond.methodLink RX4 28 yX4_sleepersOf, Cond.instanceMethod yX4_sleepersOf, Cond.selects RX4 yX4_sleepersOf yX4_sleepersOf, Cond.code yX4_sleepersOf cX4_sleepersOf 3 (some .int), Cond.fieldLink RX4 18 "HostLeague$Rooms" "sleepers" "[I"]
def wsX5_free : List Cond := .code yX5_free cX5_free 3 (some .int) :: ((wsX5_free_r1 ++ wsX5_free_r2) ++ wsX50 ++ wsX40 ++ (vx_atS RX5 178 "java/lang/IndexOutOfBoundsException" ["java/lang/RuntimeException", "java/lang/Exception"]).filter goodWord)
def wsX5_taken : List Cond := .code yX5_taken cX5_taken 3 (some .int) :: ([.fieldLink RX5 10 "HostLeague" "allRooms" "LHostLeague$Rooms;", .methodLink RX5 48 yX5_checkInn, .static yX5_checkInn, .initialized RX5, .code yX5_checkInn cX5_checkInn 1 none, .classLink RX5 174 "java/lang/IndexOutOfBoundsException", .initialized "java/lang/IndexOutOfBoundsException", .methodLink RX5 52 yX5_checkKind, .static yX5_checkKind, .code yX5_checkKind cX5_checkKind 1 none, .methodLink RX5 149 yX4_sleepersOf, .instanceMethod yX4_sleepersOf, .selects RX4 yX4_sleepersOf yX4_sleepersOf, .initialized RX4, .code yX4_sleepersOf cX4_sleepersOf 3 (some .int), .fieldLink RX4 18 "HostLeague$Rooms" "sleepers" "[I", .methodLink RX4 21 yX4_row, .static yX4_row, .code yX4_row cX4_row 2 (some .int)] ++ wsX50 ++ wsX40 ++ (vx_atS RX5 178 "java/lang/IndexOutOfBoundsException" ["java/lang/RuntimeException", "java/lang/Exception"]).filter goodWord)
def wsX5_takenByBookings : List Cond := .code yX5_takenByBookings cX5_takenByBookings 3 (some .int) :: ([.fieldLink RX5 26 "HostLeague" "booked" "LHostLeague$Bookings;", .fieldLink RX5 44 "HostLeague" "tonight" "I", .methodLink RX5 48 yX5_checkInn, .static yX5_checkInn, .initialized RX5, .code yX5_checkInn cX5_checkInn 1 none, .classLink RX5 174 "java/lang/IndexOutOfBoundsException", .initialized "java/lang/IndexOutOfBoundsException", .methodLink RX5 52 yX5_checkKind, .static yX5_checkKind, .code yX5_checkKind cX5_checkKind 1 none, .methodLink RX5 152 yX0_sleepersAt, .instanceMethod yX0_sleepersAt, .selects RX0 yX0_sleepersAt yX0_sleepersAt, .initialized RX0, .code yX0_sleepersAt cX0_sleepersAt 6 (some .int), .fieldLink RX0 31 "HostLeague$Bookings" "count" "I", .fieldLink RX0 28 "HostLeague$Bookings" "beds" "[I", .fieldLink RX0 18 "HostLeague$Bookings" "kinds" "[I", .fieldLink RX0 21 "HostLeague$Bookings" "nights" "[I"] ++ wsX50 ++ wsX00 ++ (vx_atS RX5 178 "java/lang/IndexOutOfBoundsException" ["java/lang/RuntimeException", "java/lang/Exception"]).filter goodWord)
def wsX5_extra : List Cond := .code yX5_extra cX5_extra 2 (some .int) :: ([.methodLink RX5 48 yX5_checkInn, .static yX5_checkInn, .initialized RX5, .code yX5_checkInn cX5_checkInn 1 none, .classLink RX5 174 "java/lang/IndexOutOfBoundsException", .initialized "java/lang/IndexOutOfBoundsException", .methodLink RX5 156 yX5_extraOf, .instanceMethod yX5_extraOf, .selects RX5 yX5_extraOf yX5_extraOf, .code yX5_extraOf cX5_extraOf 2 (some .int), .fieldLink RX5 26 "HostLeague" "booked" "LHostLeague$Bookings;", .fieldLink RX5 44 "HostLeague" "tonight" "I", .methodLink RX5 190 yX0_missedAt, .instanceMethod yX0_missedAt, .selects RX0 yX0_missedAt yX0_missedAt, .initialized RX0, .code yX0_missedAt cX0_missedAt 6 (some .int), .fieldLink RX0 31 "HostLeague$Bookings" "count" "I", .fieldLink RX0 15 "HostLeague$Bookings" "inns" "[I", .fieldLink RX0 21 "HostLeague$Bookings" "nights" "[I", .fieldLink RX0 24 "HostLeague$Bookings" "came" "[Z"] ++ wsX50 ++ wsX00 ++ (vx_atS RX5 178 "java/lang/IndexOutOfBoundsException" ["java/lang/RuntimeException", "java/lang/Exception"]).filter goodWord)
def wsX5_clean : List Cond := .code yX5_clean cX5_clean 2 (some .int) :: ([.fieldLink RX5 19 "HostLeague" "linen" "LHostLeague$Linen;", .fieldLink RX5 159 "HostLeague$Linen" "clean" "[I", .methodLink RX5 48 yX5_checkInn, .static yX5_checkInn, .initialized RX5, .code yX5_checkInn cX5_checkInn 1 none, .classLink RX5 174 "java/lang/IndexOutOfBoundsException", .initialized "java/lang/IndexOutOfBoundsException"] ++ wsX50 ++ wsX20 ++ (vx_atS RX5 178 "java/lang/IndexOutOfBoundsException" ["java/lang/RuntimeException", "java/lang/Exception"]).filter goodWord)
def wsX5_away : List Cond := .code yX5_away cX5_away 2 (some .int) :: ([.fieldLink RX5 19 "HostLeague" "linen" "LHostLeague$Linen;", .methodLink RX5 48 yX5_checkInn, .static yX5_checkInn, .initialized RX5, .code yX5_checkInn cX5_checkInn 1 none, .classLink RX5 174 "java/lang/IndexOutOfBoundsException", .initialized "java/lang/IndexOutOfBoundsException", .methodLink RX5 162 yX2_awayOf, .instanceMethod yX2_awayOf, .selects RX2 yX2_awayOf yX2_awayOf, .initialized RX2, .code yX2_awayOf cX2_awayOf 2 (some .int), .fieldLink RX2 15 "HostLeague$Linen" "used" "[I", .fieldLink RX2 18 "HostLeague$Linen" "brought" "[I", .fieldLink RX2 21 "HostLeague$Linen" "washedOneNight" "[I", .fieldLink RX2 24 "HostLeague$Linen" "due" "[I"] ++ wsX50 ++ wsX20 ++ (vx_atS RX5 178 "java/lang/IndexOutOfBoundsException" ["java/lang/RuntimeException", "java/lang/Exception"]).filter goodWord)
def wsX5_sleeps : List Cond := .code yX5_sleeps cX5_sleeps 2 (some .int) :: ([.fieldLink RX5 26 "HostLeague" "booked" "LHostLeague$Bookings;", .fieldLink RX5 165 "HostLeague$Bookings" "beds" "[I", .methodLink RX5 92 yX5_checkBooking, .instanceMethod yX5_checkBooking, .selects RX5 yX5_checkBooking yX5_checkBooking, .initialized RX5, .code yX5_checkBooking cX5_checkBooking 2 none, .classLink RX5 174 "java/lang/IndexOutOfBoundsException", .initialized "java/lang/IndexOutOfBoundsException", .fieldLink RX5 143 "HostLeague$Bookings" "count" "I"] ++ wsX50 ++ wsX00 ++ (vx_atS RX5 178 "java/lang/IndexOutOfBoundsException" ["java/lang/RuntimeException", "java/lang/Exception"]).filter goodWord)
def wsX5_points : List Cond := .code yX5_points cX5_points 2 (some .int) :: ([.fieldLink RX5 33 "HostLeague" "earned" "LHostLeague$Points;", .methodLink RX5 71 yX5_checkGuest, .static yX5_checkGuest, .initialized RX5, .code yX5_checkGuest cX5_checkGuest 1 none, .classLink RX5 174 "java/lang/IndexOutOfBoundsException", .initialized "java/lang/IndexOutOfBoundsException", .methodLink RX5 121 yX3_ofGuest, .instanceMethod yX3_ofGuest, .selects RX3 yX3_ofGuest yX3_ofGuest, .initialized RX3, .code yX3_ofGuest cX3_ofGuest 4 (some .int), .fieldLink RX3 21 "HostLeague$Points" "lots" "I", .fieldLink RX3 9 "HostLeague$Points" "guests" "[I", .fieldLink RX3 18 "HostLeague$Points" "left" "[I"] ++ wsX50 ++ wsX30 ++ (vx_atS RX5 178 "java/lang/IndexOutOfBoundsException" ["java/lang/RuntimeException", "java/lang/Exception"]).filter goodWord)
def wsX5_owes : List Cond := .code yX5_owes cX5_owes 3 (some .int) :: ([.fieldLink RX5 40 "HostLeague" "debts" "LHostLeague$Debts;", .methodLink RX5 48 yX5_checkInn, .static yX5_checkInn, .initialized RX5, .code yX5_checkInn cX5_checkInn 1 none, .classLink RX5 174 "java/lang/IndexOutOfBoundsException", .initialized "java/lang/IndexOutOfBoundsException", .methodLink RX5 168 yX1_between, .instanceMethod yX1_between, .selects RX1 yX1_between yX1_between, .initialized RX1, .code yX1_between cX1_between 3 (some .int), .fieldLink RX1 15 "HostLeague$Debts" "balances" "[I", .methodLink RX1 22 Lib.Math.max.name, .static Lib.Math.max.name, .initialized "java/lang/Math", .code Lib.Math.max.name Lib.Math.max.code 2 (some .int), .methodLink RX1 18 yX1_row, .static yX1_row, .code yX1_row cX1_row 2 (some .int)] ++ wsX50 ++ wsX10 ++ (vx_atS RX5 178 "java/lang/IndexOutOfBoundsException" ["java/lang/RuntimeException", "java/lang/Exception"]).filter goodWord)
def wsX5_purse : List Cond := .code yX5_purse cX5_purse 2 (some .int) :: ([.fieldLink RX5 40 "HostLeague" "debts" "LHostLeague$Debts;", .fieldLink RX5 171 "HostLeague$Debts" "purses" "[I", .methodLink RX5 48 yX5_checkInn, .static yX5_checkInn, .initialized RX5, .code yX5_checkInn cX5_checkInn 1 none, .classLink RX5 174 "java/lang/IndexOutOfBoundsException", .initialized "java/lang/IndexOutOfBoundsException"] ++ wsX50 ++ wsX10 ++ (vx_atS RX5 178 "java/lang/IndexOutOfBoundsException" ["java/lang/RuntimeException", "java/lang/Exception"]).filter goodWord)
def wsJ9_abs_0f7a4 : List Cond := .code yJ9_abs_0f7a4 cJ9_abs_0f7a4 1 (some .int) :: ([])
def wsJ9_max_7cf53 : List Cond := .code yJ9_max_7cf53 cJ9_max_7cf53 2 (some .int) :: ([])
def wsJ9_min_7cf53 : List Cond := .code yJ9_min_7cf53 cJ9_min_7cf53 2 (some .int) :: ([])
def wsL_told : List Cond := .code yL_told cL_told 2 (some .int) :: ([.constant RL 7 (55001), .constant RL 8 (2147483647)])
def wsL_sum_r1 : List Cond := [Cond.methodLink RL 9 yX5_purse, Cond.instanceMethod yX5_purse, Cond.selects RX5 yX5_purse yX5_purse, Cond.initialized RX5, Cond.code yX5_purse cX5_purse 2 (some .int), Cond.fieldLink RX5 40 "HostLeague" "debts" "LHostLeague$Debts;", Cond.fieldLink RX5 171 "HostLeague$Debts" "purses" "[I", Cond.methodLink RX5 48 yX5_checkInn, Cond.static yX5_checkInn, Cond.code yX5_checkInn cX5_checkInn 1 none, Cond.classLink RX5 174 "java/lang/IndexOutOfBoundsException", Cond.initialized "java/lang/IndexOutOfBoundsException", Cond.methodLink RL 15 yX5_clean, Cond.instanceMethod yX5_clean, Cond.selects RX5 yX5_clean yX5_clean, Cond.code yX5_clean cX5_clean 2 (some .int), Cond.fieldLink RX5 19 "HostLeague" "linen" "LHostLeague$Linen;", Cond.fieldLink RX5 159 "HostLeague$Linen" "clean" "[I", Cond.methodLink RL 18 yX5_away, Cond.instanceMethod yX5_away, Cond.selects RX5 yX5_away yX5_away, Cond.code yX5_away cX5_away 2 (some .int), Cond.methodLink RX5 162 yX2_awayOf, Cond.instanceMethod yX2_awayOf]
def wsL_sum_r2 : List Cond := [Cond.selects RX2 yX2_awayOf yX2_awayOf, Cond.initialized RX2, Cond.code yX2_awayOf cX2_awayOf 2 (some .int), Cond.fieldLink RX2 15 "HostLeague$Linen" "used" "[I", Cond.fieldLink RX2 18 "HostLeague$Linen" "brought" "[I", Cond.fieldLink RX2 21 "HostLeague$Linen" "washedOneNight" "[I", Cond.fieldLink RX2 24 "HostLeague$Linen" "due" "[I"]
def wsL_sum : List Cond := .code yL_sum cL_sum 4 (some .int) :: ((wsL_sum_r1 ++ wsL_sum_r2) ++ wsX50 ++ wsX10 ++ wsX20 ++ (vx_atS RX5 178 "java/lang/IndexOutOfBoundsException" ["java/lang/RuntimeException", "java/lang/Exception"]).filter goodWord)
def wsL_booked : List Cond := .code yL_booked cL_booked 5 (some .int) :: ([])
def wsL_does_r1 : List Cond := [Cond.methodLink RL 21 yX5_bookings, Cond.instanceMethod yX5_bookings, Cond.selects RX5 yX5_bookings yX5_bookings, Cond.initialized RX5, Cond.code yX5_bookings cX5_bookings 1 (some .int), Cond.fieldLink RX5 26 "HostLeague" "booked" "LHostLeague$Bookings;", Cond.fieldLink RX5 143 "HostLeague$Bookings" "count" "I", Cond.methodLink RL 25 yX5_setRooms, Cond.instanceMethod yX5_setRooms, Cond.selects RX5 yX5_setRooms yX5_setRooms, Cond.code yX5_setRooms cX5_setRooms 5 (some .int), Cond.fieldLink RX5 10 "HostLeague" "allRooms" "LHostLeague$Rooms;", Cond.methodLink RX5 48 yX5_checkInn, Cond.static yX5_checkInn, Cond.code yX5_checkInn cX5_checkInn 1 none, Cond.classLink RX5 174 "java/lang/IndexOutOfBoundsException", Cond.initialized "java/lang/IndexOutOfBoundsException", Cond.methodLink RX5 52 yX5_checkKind, Cond.static yX5_checkKind, Cond.code yX5_checkKind cX5_checkKind 1 none, Cond.methodLink RX5 55 yX5_checkRange, Cond.static yX5_checkRange, Cond.code yX5_checkRange cX5_checkRange 3 none, Cond.classLink RX5 185 "java/lang/IllegalArgumentException"]
def wsL_does_r2 : List Cond := [Cond.initialized "java/lang/IllegalArgumentException", Cond.methodLink RX5 59 yX4_change, Cond.instanceMethod yX4_change, Cond.selects RX4 yX4_change yX4_change, Cond.initialized RX4, Cond.code yX4_change cX4_change 7 (some .int), Cond.fieldLink RX4 9 "HostLeague$Rooms" "counts" "[I", Cond.fieldLink RX4 15 "HostLeague$Rooms" "prices" "[I", Cond.methodLink RX4 21 yX4_row, Cond.static yX4_row, Cond.code yX4_row cX4_row 2 (some .int), Cond.methodLink RL 15 yX5_clean, Cond.instanceMethod yX5_clean, Cond.selects RX5 yX5_clean yX5_clean, Cond.code yX5_clean cX5_clean 2 (some .int), Cond.fieldLink RX5 19 "HostLeague" "linen" "LHostLeague$Linen;", Cond.fieldLink RX5 159 "HostLeague$Linen" "clean" "[I", Cond.methodLink RL 29 yX5_buyLinen, Cond.instanceMethod yX5_buyLinen, Cond.selects RX5 yX5_buyLinen yX5_buyLinen, Cond.code yX5_buyLinen cX5_buyLinen 3 (some .int), Cond.methodLink RX5 63 yX2_addClean, Cond.instanceMethod yX2_addClean, Cond.selects RX2 yX2_addClean yX2_addClean]
def wsL_does_r3 : List Cond := [Cond.initialized RX2, Cond.code yX2_addClean cX2_addClean 3 (some .int), Cond.fieldLink RX2 9 "HostLeague$Linen" "clean" "[I", Cond.methodLink RL 33 yX5_setBroken, Cond.instanceMethod yX5_setBroken, Cond.selects RX5 yX5_setBroken yX5_setBroken, Cond.code yX5_setBroken cX5_setBroken 2 (some .boolean), Cond.methodLink RX5 67 yX2_changeBroken, Cond.instanceMethod yX2_changeBroken, Cond.selects RX2 yX2_changeBroken yX2_changeBroken, Cond.code yX2_changeBroken cX2_changeBroken 3 (some .boolean), Cond.fieldLink RX2 27 "HostLeague$Linen" "broken" "Z", Cond.methodLink RL 37 yX5_today, Cond.instanceMethod yX5_today, Cond.selects RX5 yX5_today yX5_today, Cond.code yX5_today cX5_today 1 (some .int), Cond.fieldLink RX5 44 "HostLeague" "tonight" "I", Cond.methodLink RL 40 yL_booked, Cond.static yL_booked, Cond.initialized RL, Cond.code yL_booked cL_booked 5 (some .int), Cond.methodLink RL 46 yX5_extra, Cond.instanceMethod yX5_extra, Cond.selects RX5 yX5_extra yX5_extra]
def wsL_does_r4 : List Cond := [Cond.code yX5_extra cX5_extra 2 (some .int), Cond.methodLink RX5 156 yX5_extraOf, Cond.instanceMethod yX5_extraOf, Cond.selects RX5 yX5_extraOf yX5_extraOf, Cond.code yX5_extraOf cX5_extraOf 2 (some .int), Cond.methodLink RX5 190 yX0_missedAt, Cond.instanceMethod yX0_missedAt, Cond.selects RX0 yX0_missedAt yX0_missedAt, Cond.initialized RX0, Cond.code yX0_missedAt cX0_missedAt 6 (some .int), Cond.fieldLink RX0 31 "HostLeague$Bookings" "count" "I", Cond.fieldLink RX0 15 "HostLeague$Bookings" "inns" "[I", Cond.fieldLink RX0 21 "HostLeague$Bookings" "nights" "[I", Cond.fieldLink RX0 24 "HostLeague$Bookings" "came" "[Z", Cond.methodLink RL 49 yX5_book, Cond.instanceMethod yX5_book, Cond.selects RX5 yX5_book yX5_book, Cond.code yX5_book cX5_book 5 (some .int), Cond.classLink RX5 82 "java/lang/IllegalStateException", Cond.initialized "java/lang/IllegalStateException", Cond.methodLink RX5 71 yX5_checkGuest, Cond.static yX5_checkGuest, Cond.code yX5_checkGuest cX5_checkGuest 1 none, Cond.methodLink RX5 74 yX0_isFull]
def wsL_does_r5 : List Cond := [Cond.instanceMethod yX0_isFull, Cond.selects RX0 yX0_isFull yX0_isFull, Cond.code yX0_isFull cX0_isFull 1 (some .boolean), Cond.methodLink RX5 78 yX5_takesMore, Cond.instanceMethod yX5_takesMore, Cond.selects RX5 yX5_takesMore yX5_takesMore, Cond.code yX5_takesMore cX5_takesMore 4 (some .boolean), Cond.methodLink RX5 193 yX0_countFor, Cond.instanceMethod yX0_countFor, Cond.selects RX0 yX0_countFor yX0_countFor, Cond.code yX0_countFor cX0_countFor 6 (some .int), Cond.fieldLink RX0 18 "HostLeague$Bookings" "kinds" "[I", Cond.methodLink RX5 196 yX4_countOf, Cond.instanceMethod yX4_countOf, Cond.selects RX4 yX4_countOf yX4_countOf, Cond.code yX4_countOf cX4_countOf 3 (some .int), Cond.methodLink RX5 89 yX0_add, Cond.instanceMethod yX0_add, Cond.selects RX0 yX0_add yX0_add, Cond.code yX0_add cX0_add 6 (some .int), Cond.fieldLink RX0 9 "HostLeague$Bookings" "guests" "[I", Cond.fieldLink RX0 28 "HostLeague$Bookings" "beds" "[I", Cond.methodLink RL 52 yX5_sleeps, Cond.instanceMethod yX5_sleeps]
def wsL_does_r6 : List Cond := [Cond.selects RX5 yX5_sleeps yX5_sleeps, Cond.code yX5_sleeps cX5_sleeps 2 (some .int), Cond.fieldLink RX5 165 "HostLeague$Bookings" "beds" "[I", Cond.methodLink RX5 92 yX5_checkBooking, Cond.instanceMethod yX5_checkBooking, Cond.selects RX5 yX5_checkBooking yX5_checkBooking, Cond.code yX5_checkBooking cX5_checkBooking 2 none, Cond.methodLink RL 55 yX5_points, Cond.instanceMethod yX5_points, Cond.selects RX5 yX5_points yX5_points, Cond.code yX5_points cX5_points 2 (some .int), Cond.fieldLink RX5 33 "HostLeague" "earned" "LHostLeague$Points;", Cond.methodLink RX5 121 yX3_ofGuest, Cond.instanceMethod yX3_ofGuest, Cond.selects RX3 yX3_ofGuest yX3_ofGuest, Cond.initialized RX3, Cond.code yX3_ofGuest cX3_ofGuest 4 (some .int), Cond.fieldLink RX3 21 "HostLeague$Points" "lots" "I", Cond.fieldLink RX3 9 "HostLeague$Points" "guests" "[I", Cond.fieldLink RX3 18 "HostLeague$Points" "left" "[I", Cond.methodLink RL 58 yL_sum, Cond.static yL_sum, Cond.code yL_sum cL_sum 4 (some .int), Cond.methodLink RL 9 yX5_purse]
def wsL_does_r7 : List Cond := [Cond.instanceMethod yX5_purse, Cond.selects RX5 yX5_purse yX5_purse, Cond.code yX5_purse cX5_purse 2 (some .int), Cond.fieldLink RX5 40 "HostLeague" "debts" "LHostLeague$Debts;", Cond.fieldLink RX5 171 "HostLeague$Debts" "purses" "[I", Cond.methodLink RL 18 yX5_away, Cond.instanceMethod yX5_away, Cond.selects RX5 yX5_away yX5_away, Cond.code yX5_away cX5_away 2 (some .int), Cond.methodLink RX5 162 yX2_awayOf, Cond.instanceMethod yX2_awayOf, Cond.selects RX2 yX2_awayOf yX2_awayOf, Cond.code yX2_awayOf cX2_awayOf 2 (some .int), Cond.fieldLink RX2 15 "HostLeague$Linen" "used" "[I", Cond.fieldLink RX2 18 "HostLeague$Linen" "brought" "[I", Cond.fieldLink RX2 21 "HostLeague$Linen" "washedOneNight" "[I", Cond.fieldLink RX2 24 "HostLeague$Linen" "due" "[I", Cond.methodLink RL 62 yX5_come, Cond.instanceMethod yX5_come, Cond.selects RX5 yX5_come yX5_come, Cond.code yX5_come cX5_come 3 (some .int), Cond.fieldLink RX5 95 "HostLeague$Bookings" "nights" "[I", Cond.fieldLink RX5 99 "HostLeague$Bookings" "came" "[Z", Cond.fieldLink RX5 105 "HostLeague$Bookings" "inns" "[I"]
def wsL_does_r8 : List Cond := [Cond.fieldLink RX5 108 "HostLeague$Bookings" "kinds" "[I", Cond.methodLink RX5 111 yX5_findInn, Cond.instanceMethod yX5_findInn, Cond.selects RX5 yX5_findInn yX5_findInn, Cond.code yX5_findInn cX5_findInn 5 (some .int), Cond.methodLink RX5 207 yX5_distance, Cond.static yX5_distance, Cond.code yX5_distance cX5_distance 3 (some .int), Cond.methodLink RX5 199 Lib.Math.abs.name, Cond.static Lib.Math.abs.name, Cond.initialized "java/lang/Math", Cond.code Lib.Math.abs.name Lib.Math.abs.code 1 (some .int), Cond.methodLink RX5 204 Lib.Math.min.name, Cond.static Lib.Math.min.name, Cond.code Lib.Math.min.name Lib.Math.min.code 2 (some .int), Cond.methodLink RX5 146 yX4_freeOf, Cond.instanceMethod yX4_freeOf, Cond.selects RX4 yX4_freeOf yX4_freeOf, Cond.code yX4_freeOf cX4_freeOf 3 (some .int), Cond.methodLink RX4 31 Lib.Math.max.name, Cond.static Lib.Math.max.name, Cond.code Lib.Math.max.name Lib.Math.max.code 2 (some .int), Cond.methodLink RX4 25 yX4_countOf, Cond.methodLink RX4 28 yX4_sleepersOf]
def wsL_does_r9 : List Cond := [Cond.instanceMethod yX4_sleepersOf, Cond.selects RX4 yX4_sleepersOf yX4_sleepersOf, Cond.code yX4_sleepersOf cX4_sleepersOf 3 (some .int), Cond.fieldLink RX4 18 "HostLeague$Rooms" "sleepers" "[I", Cond.methodLink RX5 210 yX2_giverFor, Cond.instanceMethod yX2_giverFor, Cond.selects RX2 yX2_giverFor yX2_giverFor, Cond.code yX2_giverFor cX2_giverFor 5 (some .int), Cond.methodLink RX5 114 yX0_arrive, Cond.instanceMethod yX0_arrive, Cond.selects RX0 yX0_arrive yX0_arrive, Cond.code yX0_arrive cX0_arrive 3 none, Cond.methodLink RX5 118 yX5_putUp, Cond.instanceMethod yX5_putUp, Cond.selects RX5 yX5_putUp yX5_putUp, Cond.code yX5_putUp cX5_putUp 6 none, Cond.fieldLink RX5 228 "HostLeague$Bookings" "guests" "[I", Cond.methodLink RX5 213 yX4_priceOf, Cond.instanceMethod yX4_priceOf, Cond.selects RX4 yX4_priceOf yX4_priceOf, Cond.code yX4_priceOf cX4_priceOf 3 (some .int), Cond.methodLink RX5 216 yX1_receive, Cond.instanceMethod yX1_receive, Cond.selects RX1 yX1_receive yX1_receive]
def wsL_does_r10 : List Cond := [Cond.initialized RX1, Cond.code yX1_receive cX1_receive 3 none, Cond.fieldLink RX1 9 "HostLeague$Debts" "purses" "[I", Cond.methodLink RX5 219 yX1_owe, Cond.instanceMethod yX1_owe, Cond.selects RX1 yX1_owe yX1_owe, Cond.code yX1_owe cX1_owe 4 none, Cond.fieldLink RX1 15 "HostLeague$Debts" "balances" "[I", Cond.methodLink RX1 18 yX1_row, Cond.static yX1_row, Cond.code yX1_row cX1_row 2 (some .int), Cond.methodLink RX5 222 yX5_layLinen, Cond.instanceMethod yX5_layLinen, Cond.selects RX5 yX5_layLinen yX5_layLinen, Cond.code yX5_layLinen cX5_layLinen 3 none, Cond.methodLink RX5 233 yX2_chargeForBorrowing, Cond.instanceMethod yX2_chargeForBorrowing, Cond.selects RX2 yX2_chargeForBorrowing yX2_chargeForBorrowing, Cond.code yX2_chargeForBorrowing cX2_chargeForBorrowing 1 (some .int), Cond.fieldLink RX2 31 "HostLeague$Linen" "borrowedTonight" "I", Cond.methodLink RX5 236 yX2_take, Cond.instanceMethod yX2_take, Cond.selects RX2 yX2_take yX2_take, Cond.code yX2_take cX2_take 3 none]
def wsL_does_r11 : List Cond := [Cond.methodLink RX5 225 yX4_addSleeper, Cond.instanceMethod yX4_addSleeper, Cond.selects RX4 yX4_addSleeper yX4_addSleeper, Cond.code yX4_addSleeper cX4_addSleeper 3 none, Cond.methodLink RX5 231 yX3_add, Cond.instanceMethod yX3_add, Cond.selects RX3 yX3_add yX3_add, Cond.code yX3_add cX3_add 4 none, Cond.fieldLink RX3 15 "HostLeague$Points" "inns" "[I", Cond.methodLink RL 65 yX5_burn, Cond.instanceMethod yX5_burn, Cond.selects RX5 yX5_burn yX5_burn, Cond.code yX5_burn cX5_burn 4 (some .int), Cond.methodLink RX5 127 yX5_burnEarliest, Cond.instanceMethod yX5_burnEarliest, Cond.selects RX5 yX5_burnEarliest yX5_burnEarliest, Cond.code yX5_burnEarliest cX5_burnEarliest 7 none, Cond.fieldLink RX5 239 "HostLeague$Points" "lots" "I", Cond.fieldLink RX5 245 "HostLeague$Points" "inns" "[I", Cond.methodLink RX5 242 yX3_takeFrom, Cond.instanceMethod yX3_takeFrom, Cond.selects RX3 yX3_takeFrom yX3_takeFrom, Cond.code yX3_takeFrom cX3_takeFrom 5 (some .int), Cond.methodLink RX3 25 Lib.Math.min.name]
def wsL_does_r12 : List Cond := [Cond.methodLink RL 69 yX5_settle, Cond.instanceMethod yX5_settle, Cond.selects RX5 yX5_settle yX5_settle, Cond.code yX5_settle cX5_settle 1 (some .int), Cond.methodLink RX5 139 yX1_payAll, Cond.instanceMethod yX1_payAll, Cond.selects RX1 yX1_payAll yX1_payAll, Cond.code yX1_payAll cX1_payAll 4 (some .int), Cond.methodLink RX1 27 yX1_pay, Cond.instanceMethod yX1_pay, Cond.selects RX1 yX1_pay yX1_pay, Cond.code yX1_pay cX1_pay 4 (some .int), Cond.methodLink RX1 30 yX1_between, Cond.instanceMethod yX1_between, Cond.selects RX1 yX1_between yX1_between, Cond.code yX1_between cX1_between 3 (some .int), Cond.methodLink RX1 22 Lib.Math.max.name, Cond.methodLink RX1 33 yX1_owe, Cond.methodLink RL 72 yX5_night, Cond.instanceMethod yX5_night, Cond.selects RX5 yX5_night yX5_night, Cond.code yX5_night cX5_night 2 (some .int), Cond.methodLink RX5 132 yX0_missedIn, Cond.instanceMethod yX0_missedIn]
def wsL_does_r13 : List Cond := [Cond.selects RX0 yX0_missedIn yX0_missedIn, Cond.code yX0_missedIn cX0_missedIn 4 (some .int), Cond.methodLink RX5 135 yX4_endNight, Cond.instanceMethod yX4_endNight, Cond.selects RX4 yX4_endNight yX4_endNight, Cond.code yX4_endNight cX4_endNight 2 none, Cond.methodLink RX5 138 yX2_endNight, Cond.instanceMethod yX2_endNight, Cond.selects RX2 yX2_endNight yX2_endNight, Cond.code yX2_endNight cX2_endNight 2 none]
def wsL_does : List Cond := .code yL_does cL_does 19 (some .boolean) :: ((wsL_does_r1 ++ (wsL_does_r2 ++ (wsL_does_r3 ++ (wsL_does_r4 ++ (wsL_does_r5 ++ (wsL_does_r6 ++ (wsL_does_r7 ++ (wsL_does_r8 ++ (wsL_does_r9 ++ (wsL_does_r10 ++ (wsL_does_r11 ++ (wsL_does_r12 ++ wsL_does_r13)))))))))))) ++ wsX50 ++ wsX00 ++ wsX40 ++ wsX20 ++ wsX30 ++ wsX10 ++ (vx_atS RX5 178 "java/lang/IndexOutOfBoundsException" ["java/lang/RuntimeException", "java/lang/Exception"]).filter goodWord ++ (vx_atS RX5 189 "java/lang/IllegalArgumentException" ["java/lang/RuntimeException", "java/lang/Exception"]).filter goodWord ++ (vx_atS RX5 86 "java/lang/IllegalStateException" ["java/lang/RuntimeException", "java/lang/Exception"]).filter goodWord)
def wsL_law0_r1 : List Cond := [Cond.classLink RL 10 RX5, Cond.instantiable RX5 6, Cond.initialized RX5, Cond.arrayClass .int, Cond.methodLink RL 75 yX5_init, Cond.instanceMethod yX5_init, Cond.code yX5_init cX5_init 1 none, Cond.methodLink RX5 1 objectInit, Cond.instanceMethod objectInit, Cond.code objectInit ⟨#[0xb1]⟩ 1 none, Cond.classLink RX5 7 RX4, Cond.instantiable RX4 3, Cond.initialized RX4, Cond.fieldLink RX5 10 "HostLeague" "allRooms" "LHostLeague$Rooms;", Cond.classLink RX5 16 RX2, Cond.instantiable RX2 7, Cond.initialized RX2, Cond.fieldLink RX5 19 "HostLeague" "linen" "LHostLeague$Linen;", Cond.classLink RX5 23 RX0, Cond.instantiable RX0 7, Cond.initialized RX0, Cond.fieldLink RX5 26 "HostLeague" "booked" "LHostLeague$Bookings;", Cond.classLink RX5 30 RX3, Cond.instantiable RX3 4]
def wsL_law0_r2 : List Cond := [Cond.initialized RX3, Cond.fieldLink RX5 33 "HostLeague" "earned" "LHostLeague$Points;", Cond.classLink RX5 37 RX1, Cond.instantiable RX1 2, Cond.initialized RX1, Cond.fieldLink RX5 40 "HostLeague" "debts" "LHostLeague$Debts;", Cond.fieldLink RX5 44 "HostLeague" "tonight" "I", Cond.methodLink RX5 9 yX4_init, Cond.instanceMethod yX4_init, Cond.code yX4_init cX4_init 2 none, Cond.methodLink RX4 3 objectInit, Cond.fieldLink RX4 9 "HostLeague$Rooms" "counts" "[I", Cond.fieldLink RX4 15 "HostLeague$Rooms" "prices" "[I", Cond.fieldLink RX4 18 "HostLeague$Rooms" "sleepers" "[I", Cond.methodLink RX5 18 yX2_init, Cond.instanceMethod yX2_init, Cond.code yX2_init cX2_init 1 none, Cond.methodLink RX2 3 objectInit, Cond.fieldLink RX2 9 "HostLeague$Linen" "clean" "[I", Cond.fieldLink RX2 15 "HostLeague$Linen" "used" "[I", Cond.fieldLink RX2 18 "HostLeague$Linen" "brought" "[I", Cond.fieldLink RX2 21 "HostLeague$Linen" "washedOneNight" "[I", Cond.fieldLink RX2 24 "HostLeague$Linen" "due" "[I", Cond.fieldLink RX2 27 "HostLeague$Linen" "broken" "Z"]
def wsL_law0_r3 : List Cond := [Cond.fieldLink RX2 31 "HostLeague$Linen" "borrowedTonight" "I", Cond.methodLink RX5 25 yX0_init, Cond.instanceMethod yX0_init, Cond.code yX0_init cX0_init 1 none, Cond.methodLink RX0 3 objectInit, Cond.fieldLink RX0 9 "HostLeague$Bookings" "guests" "[I", Cond.fieldLink RX0 15 "HostLeague$Bookings" "inns" "[I", Cond.fieldLink RX0 18 "HostLeague$Bookings" "kinds" "[I", Cond.fieldLink RX0 21 "HostLeague$Bookings" "nights" "[I", Cond.arrayClass .boolean, Cond.fieldLink RX0 24 "HostLeague$Bookings" "came" "[Z", Cond.fieldLink RX0 28 "HostLeague$Bookings" "beds" "[I", Cond.fieldLink RX0 31 "HostLeague$Bookings" "count" "I", Cond.methodLink RX5 32 yX3_init, Cond.instanceMethod yX3_init, Cond.code yX3_init cX3_init 1 none, Cond.methodLink RX3 3 objectInit, Cond.fieldLink RX3 9 "HostLeague$Points" "guests" "[I", Cond.fieldLink RX3 15 "HostLeague$Points" "inns" "[I", Cond.fieldLink RX3 18 "HostLeague$Points" "left" "[I", Cond.fieldLink RX3 21 "HostLeague$Points" "lots" "I", Cond.methodLink RX5 39 yX1_init, Cond.instanceMethod yX1_init, Cond.code yX1_init cX1_init 1 none]
def wsL_law0_r4 : List Cond := [Cond.methodLink RX1 3 objectInit, Cond.fieldLink RX1 9 "HostLeague$Debts" "purses" "[I", Cond.fieldLink RX1 15 "HostLeague$Debts" "balances" "[I", Cond.methodLink RL 76 yL_told, Cond.static yL_told, Cond.initialized RL, Cond.code yL_told cL_told 2 (some .int), Cond.constant RL 7 (55001), Cond.constant RL 8 (2147483647), Cond.methodLink RL 80 yL_does, Cond.static yL_does, Cond.code yL_does cL_does 19 (some .boolean), Cond.methodLink RL 21 yX5_bookings, Cond.instanceMethod yX5_bookings, Cond.selects RX5 yX5_bookings yX5_bookings, Cond.code yX5_bookings cX5_bookings 1 (some .int), Cond.fieldLink RX5 143 "HostLeague$Bookings" "count" "I", Cond.methodLink RL 25 yX5_setRooms, Cond.instanceMethod yX5_setRooms, Cond.selects RX5 yX5_setRooms yX5_setRooms, Cond.code yX5_setRooms cX5_setRooms 5 (some .int), Cond.methodLink RX5 48 yX5_checkInn, Cond.static yX5_checkInn, Cond.code yX5_checkInn cX5_checkInn 1 none]
def wsL_law0_r5 : List Cond := [Cond.classLink RX5 174 "java/lang/IndexOutOfBoundsException", Cond.initialized "java/lang/IndexOutOfBoundsException", Cond.methodLink RX5 52 yX5_checkKind, Cond.static yX5_checkKind, Cond.code yX5_checkKind cX5_checkKind 1 none, Cond.methodLink RX5 55 yX5_checkRange, Cond.static yX5_checkRange, Cond.code yX5_checkRange cX5_checkRange 3 none, Cond.classLink RX5 185 "java/lang/IllegalArgumentException", Cond.initialized "java/lang/IllegalArgumentException", Cond.methodLink RX5 59 yX4_change, Cond.instanceMethod yX4_change, Cond.selects RX4 yX4_change yX4_change, Cond.code yX4_change cX4_change 7 (some .int), Cond.methodLink RX4 21 yX4_row, Cond.static yX4_row, Cond.code yX4_row cX4_row 2 (some .int), Cond.methodLink RL 15 yX5_clean, Cond.instanceMethod yX5_clean, Cond.selects RX5 yX5_clean yX5_clean, Cond.code yX5_clean cX5_clean 2 (some .int), Cond.fieldLink RX5 159 "HostLeague$Linen" "clean" "[I", Cond.methodLink RL 29 yX5_buyLinen, Cond.instanceMethod yX5_buyLinen]
def wsL_law0_r6 : List Cond := [Cond.selects RX5 yX5_buyLinen yX5_buyLinen, Cond.code yX5_buyLinen cX5_buyLinen 3 (some .int), Cond.methodLink RX5 63 yX2_addClean, Cond.instanceMethod yX2_addClean, Cond.selects RX2 yX2_addClean yX2_addClean, Cond.code yX2_addClean cX2_addClean 3 (some .int), Cond.methodLink RL 33 yX5_setBroken, Cond.instanceMethod yX5_setBroken, Cond.selects RX5 yX5_setBroken yX5_setBroken, Cond.code yX5_setBroken cX5_setBroken 2 (some .boolean), Cond.methodLink RX5 67 yX2_changeBroken, Cond.instanceMethod yX2_changeBroken, Cond.selects RX2 yX2_changeBroken yX2_changeBroken, Cond.code yX2_changeBroken cX2_changeBroken 3 (some .boolean), Cond.methodLink RL 37 yX5_today, Cond.instanceMethod yX5_today, Cond.selects RX5 yX5_today yX5_today, Cond.code yX5_today cX5_today 1 (some .int), Cond.methodLink RL 40 yL_booked, Cond.static yL_booked, Cond.code yL_booked cL_booked 5 (some .int), Cond.methodLink RL 46 yX5_extra, Cond.instanceMethod yX5_extra, Cond.selects RX5 yX5_extra yX5_extra]
def wsL_law0_r7 : List Cond := [Cond.code yX5_extra cX5_extra 2 (some .int), Cond.methodLink RX5 156 yX5_extraOf, Cond.instanceMethod yX5_extraOf, Cond.selects RX5 yX5_extraOf yX5_extraOf, Cond.code yX5_extraOf cX5_extraOf 2 (some .int), Cond.methodLink RX5 190 yX0_missedAt, Cond.instanceMethod yX0_missedAt, Cond.selects RX0 yX0_missedAt yX0_missedAt, Cond.code yX0_missedAt cX0_missedAt 6 (some .int), Cond.methodLink RL 49 yX5_book, Cond.instanceMethod yX5_book, Cond.selects RX5 yX5_book yX5_book, Cond.code yX5_book cX5_book 5 (some .int), Cond.classLink RX5 82 "java/lang/IllegalStateException", Cond.initialized "java/lang/IllegalStateException", Cond.methodLink RX5 71 yX5_checkGuest, Cond.static yX5_checkGuest, Cond.code yX5_checkGuest cX5_checkGuest 1 none, Cond.methodLink RX5 74 yX0_isFull, Cond.instanceMethod yX0_isFull, Cond.selects RX0 yX0_isFull yX0_isFull, Cond.code yX0_isFull cX0_isFull 1 (some .boolean), Cond.methodLink RX5 78 yX5_takesMore, Cond.instanceMethod yX5_takesMore]
def wsL_law0_r8 : List Cond := [Cond.selects RX5 yX5_takesMore yX5_takesMore, Cond.code yX5_takesMore cX5_takesMore 4 (some .boolean), Cond.methodLink RX5 193 yX0_countFor, Cond.instanceMethod yX0_countFor, Cond.selects RX0 yX0_countFor yX0_countFor, Cond.code yX0_countFor cX0_countFor 6 (some .int), Cond.methodLink RX5 196 yX4_countOf, Cond.instanceMethod yX4_countOf, Cond.selects RX4 yX4_countOf yX4_countOf, Cond.code yX4_countOf cX4_countOf 3 (some .int), Cond.methodLink RX5 89 yX0_add, Cond.instanceMethod yX0_add, Cond.selects RX0 yX0_add yX0_add, Cond.code yX0_add cX0_add 6 (some .int), Cond.methodLink RL 52 yX5_sleeps, Cond.instanceMethod yX5_sleeps, Cond.selects RX5 yX5_sleeps yX5_sleeps, Cond.code yX5_sleeps cX5_sleeps 2 (some .int), Cond.fieldLink RX5 165 "HostLeague$Bookings" "beds" "[I", Cond.methodLink RX5 92 yX5_checkBooking, Cond.instanceMethod yX5_checkBooking, Cond.selects RX5 yX5_checkBooking yX5_checkBooking, Cond.code yX5_checkBooking cX5_checkBooking 2 none, Cond.methodLink RL 55 yX5_points]
def wsL_law0_r9 : List Cond := [Cond.instanceMethod yX5_points, Cond.selects RX5 yX5_points yX5_points, Cond.code yX5_points cX5_points 2 (some .int), Cond.methodLink RX5 121 yX3_ofGuest, Cond.instanceMethod yX3_ofGuest, Cond.selects RX3 yX3_ofGuest yX3_ofGuest, Cond.code yX3_ofGuest cX3_ofGuest 4 (some .int), Cond.methodLink RL 58 yL_sum, Cond.static yL_sum, Cond.code yL_sum cL_sum 4 (some .int), Cond.methodLink RL 9 yX5_purse, Cond.instanceMethod yX5_purse, Cond.selects RX5 yX5_purse yX5_purse, Cond.code yX5_purse cX5_purse 2 (some .int), Cond.fieldLink RX5 171 "HostLeague$Debts" "purses" "[I", Cond.methodLink RL 18 yX5_away, Cond.instanceMethod yX5_away, Cond.selects RX5 yX5_away yX5_away, Cond.code yX5_away cX5_away 2 (some .int), Cond.methodLink RX5 162 yX2_awayOf, Cond.instanceMethod yX2_awayOf, Cond.selects RX2 yX2_awayOf yX2_awayOf, Cond.code yX2_awayOf cX2_awayOf 2 (some .int), Cond.methodLink RL 62 yX5_come]
def wsL_law0_r10 : List Cond := [Cond.instanceMethod yX5_come, Cond.selects RX5 yX5_come yX5_come, Cond.code yX5_come cX5_come 3 (some .int), Cond.fieldLink RX5 95 "HostLeague$Bookings" "nights" "[I", Cond.fieldLink RX5 99 "HostLeague$Bookings" "came" "[Z", Cond.fieldLink RX5 105 "HostLeague$Bookings" "inns" "[I", Cond.fieldLink RX5 108 "HostLeague$Bookings" "kinds" "[I", Cond.methodLink RX5 111 yX5_findInn, Cond.instanceMethod yX5_findInn, Cond.selects RX5 yX5_findInn yX5_findInn, Cond.code yX5_findInn cX5_findInn 5 (some .int), Cond.methodLink RX5 207 yX5_distance, Cond.static yX5_distance, Cond.code yX5_distance cX5_distance 3 (some .int), Cond.methodLink RX5 199 Lib.Math.abs.name, Cond.static Lib.Math.abs.name, Cond.initialized "java/lang/Math", Cond.code Lib.Math.abs.name Lib.Math.abs.code 1 (some .int), Cond.methodLink RX5 204 Lib.Math.min.name, Cond.static Lib.Math.min.name, Cond.code Lib.Math.min.name Lib.Math.min.code 2 (some .int), Cond.methodLink RX5 146 yX4_freeOf, Cond.instanceMethod yX4_freeOf, Cond.selects RX4 yX4_freeOf yX4_freeOf]
def wsL_law0_r11 : List Cond := [Cond.code yX4_freeOf cX4_freeOf 3 (some .int), Cond.methodLink RX4 31 Lib.Math.max.name, Cond.static Lib.Math.max.name, Cond.code Lib.Math.max.name Lib.Math.max.code 2 (some .int), Cond.methodLink RX4 25 yX4_countOf, Cond.methodLink RX4 28 yX4_sleepersOf, Cond.instanceMethod yX4_sleepersOf, Cond.selects RX4 yX4_sleepersOf yX4_sleepersOf, Cond.code yX4_sleepersOf cX4_sleepersOf 3 (some .int), Cond.methodLink RX5 210 yX2_giverFor, Cond.instanceMethod yX2_giverFor, Cond.selects RX2 yX2_giverFor yX2_giverFor, Cond.code yX2_giverFor cX2_giverFor 5 (some .int), Cond.methodLink RX5 114 yX0_arrive, Cond.instanceMethod yX0_arrive, Cond.selects RX0 yX0_arrive yX0_arrive, Cond.code yX0_arrive cX0_arrive 3 none, Cond.methodLink RX5 118 yX5_putUp, Cond.instanceMethod yX5_putUp, Cond.selects RX5 yX5_putUp yX5_putUp, Cond.code yX5_putUp cX5_putUp 6 none, Cond.fieldLink RX5 228 "HostLeague$Bookings" "guests" "[I", Cond.methodLink RX5 213 yX4_priceOf, Cond.instanceMethod yX4_priceOf]
def wsL_law0_r12 : List Cond := [Cond.selects RX4 yX4_priceOf yX4_priceOf, Cond.code yX4_priceOf cX4_priceOf 3 (some .int), Cond.methodLink RX5 216 yX1_receive, Cond.instanceMethod yX1_receive, Cond.selects RX1 yX1_receive yX1_receive, Cond.code yX1_receive cX1_receive 3 none, Cond.methodLink RX5 219 yX1_owe, Cond.instanceMethod yX1_owe, Cond.selects RX1 yX1_owe yX1_owe, Cond.code yX1_owe cX1_owe 4 none, Cond.methodLink RX1 18 yX1_row, Cond.static yX1_row, Cond.code yX1_row cX1_row 2 (some .int), Cond.methodLink RX5 222 yX5_layLinen, Cond.instanceMethod yX5_layLinen, Cond.selects RX5 yX5_layLinen yX5_layLinen, Cond.code yX5_layLinen cX5_layLinen 3 none, Cond.methodLink RX5 233 yX2_chargeForBorrowing, Cond.instanceMethod yX2_chargeForBorrowing, Cond.selects RX2 yX2_chargeForBorrowing yX2_chargeForBorrowing, Cond.code yX2_chargeForBorrowing cX2_chargeForBorrowing 1 (some .int), Cond.methodLink RX5 236 yX2_take, Cond.instanceMethod yX2_take, Cond.selects RX2 yX2_take yX2_take]
def wsL_law0_r13 : List Cond := [Cond.code yX2_take cX2_take 3 none, Cond.methodLink RX5 225 yX4_addSleeper, Cond.instanceMethod yX4_addSleeper, Cond.selects RX4 yX4_addSleeper yX4_addSleeper, Cond.code yX4_addSleeper cX4_addSleeper 3 none, Cond.methodLink RX5 231 yX3_add, Cond.instanceMethod yX3_add, Cond.selects RX3 yX3_add yX3_add, Cond.code yX3_add cX3_add 4 none, Cond.methodLink RL 65 yX5_burn, Cond.instanceMethod yX5_burn, Cond.selects RX5 yX5_burn yX5_burn, Cond.code yX5_burn cX5_burn 4 (some .int), Cond.methodLink RX5 127 yX5_burnEarliest, Cond.instanceMethod yX5_burnEarliest, Cond.selects RX5 yX5_burnEarliest yX5_burnEarliest, Cond.code yX5_burnEarliest cX5_burnEarliest 7 none, Cond.fieldLink RX5 239 "HostLeague$Points" "lots" "I", Cond.fieldLink RX5 245 "HostLeague$Points" "inns" "[I", Cond.methodLink RX5 242 yX3_takeFrom, Cond.instanceMethod yX3_takeFrom, Cond.selects RX3 yX3_takeFrom yX3_takeFrom, Cond.code yX3_takeFrom cX3_takeFrom 5 (some .int), Cond.methodLink RX3 25 Lib.Math.min.name]
def wsL_law0_r14 : List Cond := [Cond.methodLink RL 69 yX5_settle, Cond.instanceMethod yX5_settle, Cond.selects RX5 yX5_settle yX5_settle, Cond.code yX5_settle cX5_settle 1 (some .int), Cond.methodLink RX5 139 yX1_payAll, Cond.instanceMethod yX1_payAll, Cond.selects RX1 yX1_payAll yX1_payAll, Cond.code yX1_payAll cX1_payAll 4 (some .int), Cond.methodLink RX1 27 yX1_pay, Cond.instanceMethod yX1_pay, Cond.selects RX1 yX1_pay yX1_pay, Cond.code yX1_pay cX1_pay 4 (some .int), Cond.methodLink RX1 30 yX1_between, Cond.instanceMethod yX1_between, Cond.selects RX1 yX1_between yX1_between, Cond.code yX1_between cX1_between 3 (some .int), Cond.methodLink RX1 22 Lib.Math.max.name, Cond.methodLink RX1 33 yX1_owe, Cond.methodLink RL 72 yX5_night, Cond.instanceMethod yX5_night, Cond.selects RX5 yX5_night yX5_night, Cond.code yX5_night cX5_night 2 (some .int), Cond.methodLink RX5 132 yX0_missedIn, Cond.instanceMethod yX0_missedIn]
def wsL_law0_r15 : List Cond := [Cond.selects RX0 yX0_missedIn yX0_missedIn, Cond.code yX0_missedIn cX0_missedIn 4 (some .int), Cond.methodLink RX5 135 yX4_endNight, Cond.instanceMethod yX4_endNight, Cond.selects RX4 yX4_endNight yX4_endNight, Cond.code yX4_endNight cX4_endNight 2 none, Cond.methodLink RX5 138 yX2_endNight, Cond.instanceMethod yX2_endNight, Cond.selects RX2 yX2_endNight yX2_endNight, Cond.code yX2_endNight cX2_endNight 2 none, Cond.methodLink RL 84 yX5_taken, Cond.instanceMethod yX5_taken, Cond.selects RX5 yX5_taken yX5_taken, Cond.code yX5_taken cX5_taken 3 (some .int), Cond.methodLink RX5 149 yX4_sleepersOf, Cond.methodLink RL 87 yX5_takenByBookings, Cond.instanceMethod yX5_takenByBookings, Cond.selects RX5 yX5_takenByBookings yX5_takenByBookings, Cond.code yX5_takenByBookings cX5_takenByBookings 3 (some .int), Cond.methodLink RX5 152 yX0_sleepersAt, Cond.instanceMethod yX0_sleepersAt, Cond.selects RX0 yX0_sleepersAt yX0_sleepersAt, Cond.code yX0_sleepersAt cX0_sleepersAt 6 (some .int), Cond.methodLink RL 90 yX5_free]
def wsL_law0_r16 : List Cond := [Cond.instanceMethod yX5_free, Cond.selects RX5 yX5_free yX5_free, Cond.code yX5_free cX5_free 3 (some .int), Cond.methodLink RL 93 yX5_owes, Cond.instanceMethod yX5_owes, Cond.selects RX5 yX5_owes yX5_owes, Cond.code yX5_owes cX5_owes 3 (some .int), Cond.methodLink RX5 168 yX1_between]
def wsL_law0 : List Cond := (wsL_law0_r1 ++ (wsL_law0_r2 ++ (wsL_law0_r3 ++ (wsL_law0_r4 ++ (wsL_law0_r5 ++ (wsL_law0_r6 ++ (wsL_law0_r7 ++ (wsL_law0_r8 ++ (wsL_law0_r9 ++ (wsL_law0_r10 ++ (wsL_law0_r11 ++ (wsL_law0_r12 ++ (wsL_law0_r13 ++ (wsL_law0_r14 ++ (wsL_law0_r15 ++ wsL_law0_r16))))))))))))))) ++ wsX50 ++ wsX40 ++ wsX20 ++ wsX00 ++ wsX30 ++ wsX10 ++ ([] : List Cond)
def wsL_law : List Cond := wsL_law0 ++ (vx_atS RX5 178 "java/lang/IndexOutOfBoundsException" ["java/lang/RuntimeException", "java/lang/Exception"]).filter goodWord ++ (vx_atS RX5 189 "java/lang/IllegalArgumentException" ["java/lang/RuntimeException", "java/lang/Exception"]).filter goodWord ++ (vx_atS RX5 86 "java/lang/IllegalStateException" ["java/lang/RuntimeException", "java/lang/Exception"]).filter goodWord
end
section
set_option maxRecDepth 20000 in
theorem wsL_law0_r1_in : ∀ w ∈ wsL_law0_r1, w ∈ lw_tbl := fun w h => (goodIn_r (big := lw_tbl) wsL_law0_r1 [22, 23, 9, 46, 24, 25, 26, 27, 28, 29, 30, 31, 10, 147, 47, 48, 11, 148, 76, 77, 12, 149, 112, 113] (by decide +kernel) (by decide +kernel) w h).1
set_option maxRecDepth 20000 in
theorem wsL_law0_r2_in : ∀ w ∈ wsL_law0_r2, w ∈ lw_tbl := fun w h => (goodIn_r (big := lw_tbl) wsL_law0_r2 [13, 150, 133, 134, 14, 151, 152, 32, 33, 34, 35, 36, 37, 38, 49, 50, 51, 52, 53, 55, 56, 57, 58, 59] (by decide +kernel) (by decide +kernel) w h).1
set_option maxRecDepth 20000 in
theorem wsL_law0_r3_in : ∀ w ∈ wsL_law0_r3, w ∈ lw_tbl := fun w h => (goodIn_r (big := lw_tbl) wsL_law0_r3 [60, 78, 79, 80, 81, 82, 84, 86, 88, 111, 90, 92, 94, 114, 115, 116, 117, 118, 119, 121, 122, 135, 136, 137] (by decide +kernel) (by decide +kernel) w h).1
set_option maxRecDepth 20000 in
theorem wsL_law0_r4_in : ∀ w ∈ wsL_law0_r4, w ∈ lw_tbl := fun w h => (goodIn_r (big := lw_tbl) wsL_law0_r4 [138, 139, 141, 288, 289, 8, 290, 291, 292, 312, 313, 314, 315, 316, 317, 318, 95, 319, 320, 321, 322, 170, 171, 172] rfl (by decide +kernel) w h).1
set_option maxRecDepth 20000 in
theorem wsL_law0_r5_in : ∀ w ∈ wsL_law0_r5, w ∈ lw_tbl := fun w h => (goodIn_r (big := lw_tbl) wsL_law0_r5 [173, 18, 241, 242, 243, 323, 324, 325, 326, 19, 342, 343, 344, 345, 253, 254, 255, 300, 301, 302, 303, 54, 346, 347] (by decide +kernel) (by decide +kernel) w h).1
set_option maxRecDepth 20000 in
theorem wsL_law0_r6_in : ∀ w ∈ wsL_law0_r6, w ∈ lw_tbl := fun w h => (goodIn_r (big := lw_tbl) wsL_law0_r6 [348, 349, 350, 351, 352, 353, 354, 355, 356, 357, 358, 359, 360, 361, 362, 363, 364, 365, 366, 367, 368, 369, 370, 371] (by decide +kernel) (by decide +kernel) w h).1
set_option maxRecDepth 20000 in
theorem wsL_law0_r7_in : ∀ w ∈ wsL_law0_r7, w ∈ lw_tbl := fun w h => (goodIn_r (big := lw_tbl) wsL_law0_r7 [372, 373, 375, 1, 376, 377, 378, 379, 380, 381, 382, 383, 384, 402, 20, 385, 386, 387, 389, 390, 391, 392, 393, 395] (by decide +kernel) (by decide +kernel) w h).1
set_option maxRecDepth 20000 in
theorem wsL_law0_r8_in : ∀ w ∈ wsL_law0_r8, w ∈ lw_tbl := fun w h => (goodIn_r (big := lw_tbl) wsL_law0_r8 [2, 396, 397, 398, 399, 400, 401, 250, 251, 252, 418, 419, 420, 421, 422, 423, 424, 425, 93, 426, 428, 3, 429, 431] (by decide +kernel) (by decide +kernel) w h).1
set_option maxRecDepth 20000 in
theorem wsL_law0_r9_in : ∀ w ∈ wsL_law0_r9, w ∈ lw_tbl := fun w h => (goodIn_r (big := lw_tbl) wsL_law0_r9 [432, 433, 434, 435, 436, 437, 438, 293, 294, 295, 296, 297, 298, 299, 140, 304, 305, 306, 307, 308, 309, 310, 311, 439] (by decide +kernel) (by decide +kernel) w h).1
set_option maxRecDepth 20000 in
theorem wsL_law0_r10_in : ∀ w ∈ wsL_law0_r10, w ∈ lw_tbl := fun w h => (goodIn_r (big := lw_tbl) wsL_law0_r10 [440, 441, 442, 89, 91, 85, 87, 444, 446, 4, 447, 448, 449, 450, 451, 452, 21, 453, 454, 455, 456, 245, 246, 247] (by decide +kernel) (by decide +kernel) w h).1
set_option maxRecDepth 20000 in
theorem wsL_law0_r11_in : ∀ w ∈ wsL_law0_r11, w ∈ lw_tbl := fun w h => (goodIn_r (big := lw_tbl) wsL_law0_r11 [248, 260, 261, 262, 249, 256, 257, 258, 259, 457, 458, 459, 460, 461, 462, 463, 464, 465, 467, 5, 468, 83, 469, 470] (by decide +kernel) (by decide +kernel) w h).1
set_option maxRecDepth 20000 in
theorem wsL_law0_r12_in : ∀ w ∈ wsL_law0_r12, w ∈ lw_tbl := fun w h => (goodIn_r (big := lw_tbl) wsL_law0_r12 [471, 472, 473, 474, 475, 476, 477, 478, 479, 480, 284, 285, 286, 481, 483, 6, 484, 485, 486, 487, 488, 489, 490, 491] (by decide +kernel) (by decide +kernel) w h).1
set_option maxRecDepth 20000 in
theorem wsL_law0_r13_in : ∀ w ∈ wsL_law0_r13, w ∈ lw_tbl := fun w h => (goodIn_r (big := lw_tbl) wsL_law0_r13 [492, 493, 494, 495, 496, 497, 498, 499, 500, 501, 502, 503, 504, 506, 508, 7, 509, 123, 120, 510, 511, 512, 513, 514] (by decide +kernel) (by decide +kernel) w h).1
set_option maxRecDepth 20000 in
theorem wsL_law0_r14_in : ∀ w ∈ wsL_law0_r14, w ∈ lw_tbl := fun w h => (goodIn_r (big := lw_tbl) wsL_law0_r14 [515, 516, 517, 518, 519, 520, 521, 522, 523, 524, 525, 526, 527, 281, 282, 283, 287, 528, 529, 530, 531, 532, 534, 535] (by decide +kernel) (by decide +kernel) w h).1
set_option maxRecDepth 20000 in
theorem wsL_law0_r15_in : ∀ w ∈ wsL_law0_r15, w ∈ lw_tbl := fun w h => (goodIn_r (big := lw_tbl) wsL_law0_r15 [536, 537, 538, 539, 540, 541, 542, 543, 544, 545, 263, 264, 265, 266, 267, 268, 269, 270, 271, 272, 273, 274, 275, 166] (by decide +kernel) (by decide +kernel) w h).1
set_option maxRecDepth 20000 in
theorem wsL_law0_r16_in : ∀ w ∈ wsL_law0_r16, w ∈ lw_tbl := fun w h => (goodIn_r (big := lw_tbl) wsL_law0_r16 [167, 168, 169, 276, 277, 278, 279, 280] (by decide +kernel) (by decide +kernel) w h).1
set_option maxRecDepth 20000 in
theorem wsL_law_w5 : ∀ w ∈ wsX50, w ∈ lw_tbl := fun w h => (goodIn_r (big := lw_tbl) wsX50 [153, 155, 157, 159, 161, 163] (by decide +kernel) (by decide +kernel) w h).1
set_option maxRecDepth 20000 in
theorem wsL_law_w4 : ∀ w ∈ wsX40, w ∈ lw_tbl := fun w h => (goodIn_r (big := lw_tbl) wsX40 [39, 41, 43] (by decide +kernel) (by decide +kernel) w h).1
set_option maxRecDepth 20000 in
theorem wsL_law_w2 : ∀ w ∈ wsX20, w ∈ lw_tbl := fun w h => (goodIn_r (big := lw_tbl) wsX20 [61, 63, 65, 67, 69, 71, 73] (by decide +kernel) (by decide +kernel) w h).1
set_option maxRecDepth 20000 in
theorem wsL_law_w0 : ∀ w ∈ wsX00, w ∈ lw_tbl := fun w h => (goodIn_r (big := lw_tbl) wsX00 [96, 98, 100, 102, 104, 106, 108] (by decide +kernel) (by decide +kernel) w h).1
set_option maxRecDepth 20000 in
theorem wsL_law_w3 : ∀ w ∈ wsX30, w ∈ lw_tbl := fun w h => (goodIn_r (big := lw_tbl) wsX30 [124, 126, 128, 130] (by decide +kernel) (by decide +kernel) w h).1
set_option maxRecDepth 20000 in
theorem wsL_law_w1 : ∀ w ∈ wsX10, w ∈ lw_tbl := fun w h => (goodIn_r (big := lw_tbl) wsX10 [142, 144] (by decide +kernel) (by decide +kernel) w h).1
theorem wsL_law_in0 : ∀ w ∈ wsL_law0, w ∈ lw_tbl := List.forall_mem_append.mpr ⟨List.forall_mem_append.mpr ⟨List.forall_mem_append.mpr ⟨List.forall_mem_append.mpr ⟨List.forall_mem_append.mpr ⟨List.forall_mem_append.mpr ⟨List.forall_mem_append.mpr ⟨List.forall_mem_append.mpr ⟨wsL_law0_r1_in, List.forall_mem_append.mpr ⟨wsL_law0_r2_in, List.forall_mem_append.mpr ⟨wsL_law0_r3_in, List.forall_mem_append.mpr ⟨wsL_law0_r4_in, List.forall_mem_append.mpr ⟨wsL_law0_r5_in, List.forall_mem_append.mpr ⟨wsL_law0_r6_in, List.forall_mem_append.mpr ⟨wsL_law0_r7_in, List.forall_mem_append.mpr ⟨wsL_law0_r8_in, List.forall_mem_append.mpr ⟨wsL_law0_r9_in, List.forall_mem_append.mpr ⟨wsL_law0_r10_in, List.forall_mem_append.mpr ⟨wsL_law0_r11_in, List.forall_mem_append.mpr ⟨wsL_law0_r12_in, List.forall_mem_append.mpr ⟨wsL_law0_r13_in, List.forall_mem_append.mpr ⟨wsL_law0_r14_in, List.forall_mem_append.mpr ⟨wsL_law0_r15_in, wsL_law0_r16_in⟩⟩⟩⟩⟩⟩⟩⟩⟩⟩⟩⟩⟩⟩⟩, wsL_law_w5⟩, wsL_law_w4⟩, wsL_law_w2⟩, wsL_law_w0⟩, wsL_law_w3⟩, wsL_law_w1⟩, fun _ h => absurd h List.not_mem_nil⟩
theorem wsL_law_x0 : ∀ w ∈ (vx_atS RX5 178 "java/lang/IndexOutOfBoundsException" ["java/lang/RuntimeException", "java/lang/Exception"]).filter goodWord, w ∈ lw_tbl := by decide +kernel
theorem wsL_law_x1 : ∀ w ∈ (vx_atS RX5 189 "java/lang/IllegalArgumentException" ["java/lang/RuntimeException", "java/lang/Exception"]).filter goodWord, w ∈ lw_tbl := by decide +kernel
theorem wsL_law_x2 : ∀ w ∈ (vx_atS RX5 86 "java/lang/IllegalStateException" ["java/lang/RuntimeException", "java/lang/Exception"]).filter goodWord, w ∈ lw_tbl := by decide +kernel
theorem wsL_law_in : ∀ w ∈ wsL_law, w ∈ lw_tbl := fun w h => (List.mem_append.mp h).elim (fun h => (List.mem_append.mp h).elim (fun h => (List.mem_append.mp h).elim (fun h => wsL_law_in0 w h) (fun h => wsL_law_x0 w h)) (fun h => wsL_law_x1 w h)) (fun h => wsL_law_x2 w h)
theorem inlX0 : ∀ w ∈ wsX00, w ∈ wsL_law := fun _ h => List.mem_append_left _ (List.mem_append_left _ (List.mem_append_left _ (List.mem_append_left _ (List.mem_append_left _ (List.mem_append_left _ (List.mem_append_right _ h))))))
theorem inX0 : ∀ w ∈ wsX00, w ∈ lw_tbl := fun w h => wsL_law_in w (inlX0 w h)
theorem inlX1 : ∀ w ∈ wsX10, w ∈ wsL_law := fun _ h => List.mem_append_left _ (List.mem_append_left _ (List.mem_append_left _ (List.mem_append_left _ (List.mem_append_right _ h))))
theorem inX1 : ∀ w ∈ wsX10, w ∈ lw_tbl := fun w h => wsL_law_in w (inlX1 w h)
theorem inlX2 : ∀ w ∈ wsX20, w ∈ wsL_law := fun _ h => List.mem_append_left _ (List.mem_append_left _ (List.mem_append_left _ (List.mem_append_left _ (List.mem_append_left _ (List.mem_append_left _ (List.mem_append_left _ (List.mem_append_right _ h)))))))
theorem inX2 : ∀ w ∈ wsX20, w ∈ lw_tbl := fun w h => wsL_law_in w (inlX2 w h)
theorem inlX3 : ∀ w ∈ wsX30, w ∈ wsL_law := fun _ h => List.mem_append_left _ (List.mem_append_left _ (List.mem_append_left _ (List.mem_append_left _ (List.mem_append_left _ (List.mem_append_right _ h)))))
theorem inX3 : ∀ w ∈ wsX30, w ∈ lw_tbl := fun w h => wsL_law_in w (inlX3 w h)
theorem inlX4 : ∀ w ∈ wsX40, w ∈ wsL_law := fun _ h => List.mem_append_left _ (List.mem_append_left _ (List.mem_append_left _ (List.mem_append_left _ (List.mem_append_left _ (List.mem_append_left _ (List.mem_append_left _ (List.mem_append_left _ (List.mem_append_right _ h))))))))
theorem inX4 : ∀ w ∈ wsX40, w ∈ lw_tbl := fun w h => wsL_law_in w (inlX4 w h)
theorem inlX5 : ∀ w ∈ wsX50, w ∈ wsL_law := fun _ h => List.mem_append_left _ (List.mem_append_left _ (List.mem_append_left _ (List.mem_append_left _ (List.mem_append_left _ (List.mem_append_left _ (List.mem_append_left _ (List.mem_append_left _ (List.mem_append_left _ (List.mem_append_right _ h)))))))))
theorem inX5 : ∀ w ∈ wsX50, w ∈ lw_tbl := fun w h => wsL_law_in w (inlX5 w h)
theorem inX6 : ∀ w ∈ wsX60, w ∈ lw_tbl := by decide +kernel
theorem inJ9 : ∀ w ∈ wsJ90, w ∈ lw_tbl := by decide +kernel
theorem inJ0 : ∀ w ∈ wsJ00, w ∈ lw_tbl := by decide +kernel
end
section
theorem dX0_init_0 : decode cX0_init 0 = .ok (.aload_n 0, 1) := by decide +kernel
theorem dX0_init_1 : decode cX0_init 1 = .ok (.invokespecial 3, 3) := by decide +kernel
theorem dX0_init_4 : decode cX0_init 4 = .ok (.aload_n 0, 1) := by decide +kernel
theorem dX0_init_5 : decode cX0_init 5 = .ok (.bipush 80, 2) := by decide +kernel
theorem dX0_init_7 : decode cX0_init 7 = .ok (.newarray .int, 2) := by decide +kernel
theorem dX0_init_9 : decode cX0_init 9 = .ok (.putfield 9, 3) := by decide +kernel
theorem dX0_init_12 : decode cX0_init 12 = .ok (.aload_n 0, 1) := by decide +kernel
theorem dX0_init_13 : decode cX0_init 13 = .ok (.bipush 80, 2) := by decide +kernel
theorem dX0_init_15 : decode cX0_init 15 = .ok (.newarray .int, 2) := by decide +kernel
theorem dX0_init_17 : decode cX0_init 17 = .ok (.putfield 15, 3) := by decide +kernel
theorem dX0_init_20 : decode cX0_init 20 = .ok (.aload_n 0, 1) := by decide +kernel
theorem dX0_init_21 : decode cX0_init 21 = .ok (.bipush 80, 2) := by decide +kernel
theorem dX0_init_23 : decode cX0_init 23 = .ok (.newarray .int, 2) := by decide +kernel
theorem dX0_init_25 : decode cX0_init 25 = .ok (.putfield 18, 3) := by decide +kernel
theorem dX0_init_28 : decode cX0_init 28 = .ok (.aload_n 0, 1) := by decide +kernel
theorem dX0_init_29 : decode cX0_init 29 = .ok (.bipush 80, 2) := by decide +kernel
theorem dX0_init_31 : decode cX0_init 31 = .ok (.newarray .int, 2) := by decide +kernel
theorem dX0_init_33 : decode cX0_init 33 = .ok (.putfield 21, 3) := by decide +kernel
theorem dX0_init_36 : decode cX0_init 36 = .ok (.aload_n 0, 1) := by decide +kernel
theorem dX0_init_37 : decode cX0_init 37 = .ok (.bipush 80, 2) := by decide +kernel
theorem dX0_init_39 : decode cX0_init 39 = .ok (.newarray .boolean, 2) := by decide +kernel
theorem dX0_init_41 : decode cX0_init 41 = .ok (.putfield 24, 3) := by decide +kernel
theorem dX0_init_44 : decode cX0_init 44 = .ok (.aload_n 0, 1) := by decide +kernel
theorem dX0_init_45 : decode cX0_init 45 = .ok (.bipush 80, 2) := by decide +kernel
theorem dX0_init_47 : decode cX0_init 47 = .ok (.newarray .int, 2) := by decide +kernel
theorem dX0_init_49 : decode cX0_init 49 = .ok (.putfield 28, 3) := by decide +kernel
theorem dX0_init_52 : decode cX0_init 52 = .ok (.aload_n 0, 1) := by decide +kernel
theorem dX0_init_53 : decode cX0_init 53 = .ok (.iconst 0, 1) := by decide +kernel
theorem dX0_init_54 : decode cX0_init 54 = .ok (.putfield 31, 3) := by decide +kernel
theorem dX0_init_57 : decode cX0_init 57 = .ok (.return_, 1) := by decide +kernel
theorem dX0_isFull_0 : decode cX0_isFull 0 = .ok (.aload_n 0, 1) := by decide +kernel
theorem dX0_isFull_1 : decode cX0_isFull 1 = .ok (.getfield 31, 3) := by decide +kernel
theorem dX0_isFull_4 : decode cX0_isFull 4 = .ok (.bipush 80, 2) := by decide +kernel
theorem dX0_isFull_6 : decode cX0_isFull 6 = .ok (.if_icmp .lt 7, 3) := by decide +kernel
theorem dX0_isFull_9 : decode cX0_isFull 9 = .ok (.iconst 1, 1) := by decide +kernel
theorem dX0_isFull_10 : decode cX0_isFull 10 = .ok (.goto 4, 3) := by decide +kernel
theorem dX0_isFull_13 : decode cX0_isFull 13 = .ok (.iconst 0, 1) := by decide +kernel
theorem dX0_isFull_14 : decode cX0_isFull 14 = .ok (.ireturn, 1) := by decide +kernel
theorem dX0_add_0 : decode cX0_add 0 = .ok (.aload_n 0, 1) := by decide +kernel
theorem dX0_add_1 : decode cX0_add 1 = .ok (.getfield 31, 3) := by decide +kernel
theorem dX0_add_4 : decode cX0_add 4 = .ok (.istore 5, 2) := by decide +kernel
theorem dX0_add_6 : decode cX0_add 6 = .ok (.aload_n 0, 1) := by decide +kernel
theorem dX0_add_7 : decode cX0_add 7 = .ok (.getfield 9, 3) := by decide +kernel
theorem dX0_add_10 : decode cX0_add 10 = .ok (.iload 5, 2) := by decide +kernel
theorem dX0_add_12 : decode cX0_add 12 = .ok (.iload_n 1, 1) := by decide +kernel
theorem dX0_add_13 : decode cX0_add 13 = .ok (.iastore, 1) := by decide +kernel
theorem dX0_add_14 : decode cX0_add 14 = .ok (.aload_n 0, 1) := by decide +kernel
theorem dX0_add_15 : decode cX0_add 15 = .ok (.getfield 15, 3) := by decide +kernel
theorem dX0_add_18 : decode cX0_add 18 = .ok (.iload 5, 2) := by decide +kernel
theorem dX0_add_20 : decode cX0_add 20 = .ok (.iload_n 2, 1) := by decide +kernel
theorem dX0_add_21 : decode cX0_add 21 = .ok (.iastore, 1) := by decide +kernel
theorem dX0_add_22 : decode cX0_add 22 = .ok (.aload_n 0, 1) := by decide +kernel
theorem dX0_add_23 : decode cX0_add 23 = .ok (.getfield 18, 3) := by decide +kernel
theorem dX0_add_26 : decode cX0_add 26 = .ok (.iload 5, 2) := by decide +kernel
theorem dX0_add_28 : decode cX0_add 28 = .ok (.iload_n 3, 1) := by decide +kernel
theorem dX0_add_29 : decode cX0_add 29 = .ok (.iastore, 1) := by decide +kernel
theorem dX0_add_30 : decode cX0_add 30 = .ok (.aload_n 0, 1) := by decide +kernel
theorem dX0_add_31 : decode cX0_add 31 = .ok (.getfield 21, 3) := by decide +kernel
theorem dX0_add_34 : decode cX0_add 34 = .ok (.iload 5, 2) := by decide +kernel
theorem dX0_add_36 : decode cX0_add 36 = .ok (.iload 4, 2) := by decide +kernel
theorem dX0_add_38 : decode cX0_add 38 = .ok (.iastore, 1) := by decide +kernel
theorem dX0_add_39 : decode cX0_add 39 = .ok (.aload_n 0, 1) := by decide +kernel
theorem dX0_add_40 : decode cX0_add 40 = .ok (.getfield 28, 3) := by decide +kernel
theorem dX0_add_43 : decode cX0_add 43 = .ok (.iload 5, 2) := by decide +kernel
theorem dX0_add_45 : decode cX0_add 45 = .ok (.iconst (-1), 1) := by decide +kernel
theorem dX0_add_46 : decode cX0_add 46 = .ok (.iastore, 1) := by decide +kernel
theorem dX0_add_47 : decode cX0_add 47 = .ok (.aload_n 0, 1) := by decide +kernel
theorem dX0_add_48 : decode cX0_add 48 = .ok (.dup, 1) := by decide +kernel
theorem dX0_add_49 : decode cX0_add 49 = .ok (.getfield 31, 3) := by decide +kernel
theorem dX0_add_52 : decode cX0_add 52 = .ok (.iconst 1, 1) := by decide +kernel
theorem dX0_add_53 : decode cX0_add 53 = .ok (.iadd, 1) := by decide +kernel
theorem dX0_add_54 : decode cX0_add 54 = .ok (.putfield 31, 3) := by decide +kernel
theorem dX0_add_57 : decode cX0_add 57 = .ok (.iload 5, 2) := by decide +kernel
theorem dX0_add_59 : decode cX0_add 59 = .ok (.ireturn, 1) := by decide +kernel
theorem dX0_arrive_0 : decode cX0_arrive 0 = .ok (.aload_n 0, 1) := by decide +kernel
theorem dX0_arrive_1 : decode cX0_arrive 1 = .ok (.getfield 24, 3) := by decide +kernel
theorem dX0_arrive_4 : decode cX0_arrive 4 = .ok (.iload_n 1, 1) := by decide +kernel
theorem dX0_arrive_5 : decode cX0_arrive 5 = .ok (.iconst 1, 1) := by decide +kernel
theorem dX0_arrive_6 : decode cX0_arrive 6 = .ok (.bastore, 1) := by decide +kernel
theorem dX0_arrive_7 : decode cX0_arrive 7 = .ok (.aload_n 0, 1) := by decide +kernel
theorem dX0_arrive_8 : decode cX0_arrive 8 = .ok (.getfield 28, 3) := by decide +kernel
theorem dX0_arrive_11 : decode cX0_arrive 11 = .ok (.iload_n 1, 1) := by decide +kernel
theorem dX0_arrive_12 : decode cX0_arrive 12 = .ok (.iload_n 2, 1) := by decide +kernel
theorem dX0_arrive_13 : decode cX0_arrive 13 = .ok (.iastore, 1) := by decide +kernel
theorem dX0_arrive_14 : decode cX0_arrive 14 = .ok (.return_, 1) := by decide +kernel
theorem dX0_countFor_0 : decode cX0_countFor 0 = .ok (.iconst 0, 1) := by decide +kernel
theorem dX0_countFor_1 : decode cX0_countFor 1 = .ok (.istore 4, 2) := by decide +kernel
theorem dX0_countFor_3 : decode cX0_countFor 3 = .ok (.iconst 0, 1) := by decide +kernel
theorem dX0_countFor_4 : decode cX0_countFor 4 = .ok (.istore 5, 2) := by decide +kernel
theorem dX0_countFor_6 : decode cX0_countFor 6 = .ok (.iload 5, 2) := by decide +kernel
theorem dX0_countFor_8 : decode cX0_countFor 8 = .ok (.aload_n 0, 1) := by decide +kernel
theorem dX0_countFor_9 : decode cX0_countFor 9 = .ok (.getfield 31, 3) := by decide +kernel
theorem dX0_countFor_12 : decode cX0_countFor 12 = .ok (.if_icmp .ge 45, 3) := by decide +kernel
theorem dX0_countFor_15 : decode cX0_countFor 15 = .ok (.aload_n 0, 1) := by decide +kernel
theorem dX0_countFor_16 : decode cX0_countFor 16 = .ok (.getfield 15, 3) := by decide +kernel
theorem dX0_countFor_19 : decode cX0_countFor 19 = .ok (.iload 5, 2) := by decide +kernel
theorem dX0_countFor_21 : decode cX0_countFor 21 = .ok (.iaload, 1) := by decide +kernel
theorem dX0_countFor_22 : decode cX0_countFor 22 = .ok (.iload_n 1, 1) := by decide +kernel
theorem dX0_countFor_23 : decode cX0_countFor 23 = .ok (.if_icmp .ne 28, 3) := by decide +kernel
theorem dX0_countFor_26 : decode cX0_countFor 26 = .ok (.aload_n 0, 1) := by decide +kernel
theorem dX0_countFor_27 : decode cX0_countFor 27 = .ok (.getfield 18, 3) := by decide +kernel
theorem dX0_countFor_30 : decode cX0_countFor 30 = .ok (.iload 5, 2) := by decide +kernel
theorem dX0_countFor_32 : decode cX0_countFor 32 = .ok (.iaload, 1) := by decide +kernel
theorem dX0_countFor_33 : decode cX0_countFor 33 = .ok (.iload_n 2, 1) := by decide +kernel
theorem dX0_countFor_34 : decode cX0_countFor 34 = .ok (.if_icmp .ne 17, 3) := by decide +kernel
theorem dX0_countFor_37 : decode cX0_countFor 37 = .ok (.aload_n 0, 1) := by decide +kernel
theorem dX0_countFor_38 : decode cX0_countFor 38 = .ok (.getfield 21, 3) := by decide +kernel
theorem dX0_countFor_41 : decode cX0_countFor 41 = .ok (.iload 5, 2) := by decide +kernel
theorem dX0_countFor_43 : decode cX0_countFor 43 = .ok (.iaload, 1) := by decide +kernel
theorem dX0_countFor_44 : decode cX0_countFor 44 = .ok (.iload_n 3, 1) := by decide +kernel
theorem dX0_countFor_45 : decode cX0_countFor 45 = .ok (.if_icmp .ne 6, 3) := by decide +kernel
theorem dX0_countFor_48 : decode cX0_countFor 48 = .ok (.iinc 4 1, 3) := by decide +kernel
theorem dX0_countFor_51 : decode cX0_countFor 51 = .ok (.iinc 5 1, 3) := by decide +kernel
theorem dX0_countFor_54 : decode cX0_countFor 54 = .ok (.goto (-48), 3) := by decide +kernel
theorem dX0_countFor_57 : decode cX0_countFor 57 = .ok (.iload 4, 2) := by decide +kernel
theorem dX0_countFor_59 : decode cX0_countFor 59 = .ok (.ireturn, 1) := by decide +kernel
theorem dX0_missedIn_0 : decode cX0_missedIn 0 = .ok (.iconst 0, 1) := by decide +kernel
theorem dX0_missedIn_1 : decode cX0_missedIn 1 = .ok (.istore_n 2, 1) := by decide +kernel
theorem dX0_missedIn_2 : decode cX0_missedIn 2 = .ok (.iconst 0, 1) := by decide +kernel
theorem dX0_missedIn_3 : decode cX0_missedIn 3 = .ok (.istore_n 3, 1) := by decide +kernel
theorem dX0_missedIn_4 : decode cX0_missedIn 4 = .ok (.iload_n 3, 1) := by decide +kernel
theorem dX0_missedIn_5 : decode cX0_missedIn 5 = .ok (.aload_n 0, 1) := by decide +kernel
theorem dX0_missedIn_6 : decode cX0_missedIn 6 = .ok (.getfield 31, 3) := by decide +kernel
theorem dX0_missedIn_9 : decode cX0_missedIn 9 = .ok (.if_icmp .ge 31, 3) := by decide +kernel
theorem dX0_missedIn_12 : decode cX0_missedIn 12 = .ok (.aload_n 0, 1) := by decide +kernel
theorem dX0_missedIn_13 : decode cX0_missedIn 13 = .ok (.getfield 21, 3) := by decide +kernel
theorem dX0_missedIn_16 : decode cX0_missedIn 16 = .ok (.iload_n 3, 1) := by decide +kernel
theorem dX0_missedIn_17 : decode cX0_missedIn 17 = .ok (.iaload, 1) := by decide +kernel
theorem dX0_missedIn_18 : decode cX0_missedIn 18 = .ok (.iload_n 1, 1) := by decide +kernel
theorem dX0_missedIn_19 : decode cX0_missedIn 19 = .ok (.if_icmp .ne 15, 3) := by decide +kernel
theorem dX0_missedIn_22 : decode cX0_missedIn 22 = .ok (.aload_n 0, 1) := by decide +kernel
theorem dX0_missedIn_23 : decode cX0_missedIn 23 = .ok (.getfield 24, 3) := by decide +kernel
theorem dX0_missedIn_26 : decode cX0_missedIn 26 = .ok (.iload_n 3, 1) := by decide +kernel
theorem dX0_missedIn_27 : decode cX0_missedIn 27 = .ok (.baload, 1) := by decide +kernel
theorem dX0_missedIn_28 : decode cX0_missedIn 28 = .ok (.ifCond .ne 6, 3) := by decide +kernel
theorem dX0_missedIn_31 : decode cX0_missedIn 31 = .ok (.iinc 2 1, 3) := by decide +kernel
theorem dX0_missedIn_34 : decode cX0_missedIn 34 = .ok (.iinc 3 1, 3) := by decide +kernel
theorem dX0_missedIn_37 : decode cX0_missedIn 37 = .ok (.goto (-33), 3) := by decide +kernel
theorem dX0_missedIn_40 : decode cX0_missedIn 40 = .ok (.iload_n 2, 1) := by decide +kernel
theorem dX0_missedIn_41 : decode cX0_missedIn 41 = .ok (.ireturn, 1) := by decide +kernel
theorem dX0_missedAt_0 : decode cX0_missedAt 0 = .ok (.iconst 0, 1) := by decide +kernel
theorem dX0_missedAt_1 : decode cX0_missedAt 1 = .ok (.istore 4, 2) := by decide +kernel
theorem dX0_missedAt_3 : decode cX0_missedAt 3 = .ok (.iconst 0, 1) := by decide +kernel
theorem dX0_missedAt_4 : decode cX0_missedAt 4 = .ok (.istore 5, 2) := by decide +kernel
theorem dX0_missedAt_6 : decode cX0_missedAt 6 = .ok (.iload 5, 2) := by decide +kernel
theorem dX0_missedAt_8 : decode cX0_missedAt 8 = .ok (.aload_n 0, 1) := by decide +kernel
theorem dX0_missedAt_9 : decode cX0_missedAt 9 = .ok (.getfield 31, 3) := by decide +kernel
theorem dX0_missedAt_12 : decode cX0_missedAt 12 = .ok (.if_icmp .ge 55, 3) := by decide +kernel
theorem dX0_missedAt_15 : decode cX0_missedAt 15 = .ok (.aload_n 0, 1) := by decide +kernel
theorem dX0_missedAt_16 : decode cX0_missedAt 16 = .ok (.getfield 15, 3) := by decide +kernel
theorem dX0_missedAt_19 : decode cX0_missedAt 19 = .ok (.iload 5, 2) := by decide +kernel
theorem dX0_missedAt_21 : decode cX0_missedAt 21 = .ok (.iaload, 1) := by decide +kernel
theorem dX0_missedAt_22 : decode cX0_missedAt 22 = .ok (.iload_n 1, 1) := by decide +kernel
theorem dX0_missedAt_23 : decode cX0_missedAt 23 = .ok (.if_icmp .ne 38, 3) := by decide +kernel
theorem dX0_missedAt_26 : decode cX0_missedAt 26 = .ok (.aload_n 0, 1) := by decide +kernel
theorem dX0_missedAt_27 : decode cX0_missedAt 27 = .ok (.getfield 21, 3) := by decide +kernel
theorem dX0_missedAt_30 : decode cX0_missedAt 30 = .ok (.iload 5, 2) := by decide +kernel
theorem dX0_missedAt_32 : decode cX0_missedAt 32 = .ok (.iaload, 1) := by decide +kernel
theorem dX0_missedAt_33 : decode cX0_missedAt 33 = .ok (.iload_n 2, 1) := by decide +kernel
theorem dX0_missedAt_34 : decode cX0_missedAt 34 = .ok (.if_icmp .lt 27, 3) := by decide +kernel
theorem dX0_missedAt_37 : decode cX0_missedAt 37 = .ok (.aload_n 0, 1) := by decide +kernel
theorem dX0_missedAt_38 : decode cX0_missedAt 38 = .ok (.getfield 21, 3) := by decide +kernel
theorem dX0_missedAt_41 : decode cX0_missedAt 41 = .ok (.iload 5, 2) := by decide +kernel
theorem dX0_missedAt_43 : decode cX0_missedAt 43 = .ok (.iaload, 1) := by decide +kernel
theorem dX0_missedAt_44 : decode cX0_missedAt 44 = .ok (.iload_n 3, 1) := by decide +kernel
theorem dX0_missedAt_45 : decode cX0_missedAt 45 = .ok (.if_icmp .ge 16, 3) := by decide +kernel
theorem dX0_missedAt_48 : decode cX0_missedAt 48 = .ok (.aload_n 0, 1) := by decide +kernel
theorem dX0_missedAt_49 : decode cX0_missedAt 49 = .ok (.getfield 24, 3) := by decide +kernel
theorem dX0_missedAt_52 : decode cX0_missedAt 52 = .ok (.iload 5, 2) := by decide +kernel
theorem dX0_missedAt_54 : decode cX0_missedAt 54 = .ok (.baload, 1) := by decide +kernel
theorem dX0_missedAt_55 : decode cX0_missedAt 55 = .ok (.ifCond .ne 6, 3) := by decide +kernel
theorem dX0_missedAt_58 : decode cX0_missedAt 58 = .ok (.iinc 4 1, 3) := by decide +kernel
theorem dX0_missedAt_61 : decode cX0_missedAt 61 = .ok (.iinc 5 1, 3) := by decide +kernel
theorem dX0_missedAt_64 : decode cX0_missedAt 64 = .ok (.goto (-58), 3) := by decide +kernel
theorem dX0_missedAt_67 : decode cX0_missedAt 67 = .ok (.iload 4, 2) := by decide +kernel
theorem dX0_missedAt_69 : decode cX0_missedAt 69 = .ok (.ireturn, 1) := by decide +kernel
theorem dX0_sleepersAt_0 : decode cX0_sleepersAt 0 = .ok (.iconst 0, 1) := by decide +kernel
theorem dX0_sleepersAt_1 : decode cX0_sleepersAt 1 = .ok (.istore 4, 2) := by decide +kernel
theorem dX0_sleepersAt_3 : decode cX0_sleepersAt 3 = .ok (.iconst 0, 1) := by decide +kernel
theorem dX0_sleepersAt_4 : decode cX0_sleepersAt 4 = .ok (.istore 5, 2) := by decide +kernel
theorem dX0_sleepersAt_6 : decode cX0_sleepersAt 6 = .ok (.iload 5, 2) := by decide +kernel
theorem dX0_sleepersAt_8 : decode cX0_sleepersAt 8 = .ok (.aload_n 0, 1) := by decide +kernel
theorem dX0_sleepersAt_9 : decode cX0_sleepersAt 9 = .ok (.getfield 31, 3) := by decide +kernel
theorem dX0_sleepersAt_12 : decode cX0_sleepersAt 12 = .ok (.if_icmp .ge 45, 3) := by decide +kernel
theorem dX0_sleepersAt_15 : decode cX0_sleepersAt 15 = .ok (.aload_n 0, 1) := by decide +kernel
theorem dX0_sleepersAt_16 : decode cX0_sleepersAt 16 = .ok (.getfield 28, 3) := by decide +kernel
theorem dX0_sleepersAt_19 : decode cX0_sleepersAt 19 = .ok (.iload 5, 2) := by decide +kernel
theorem dX0_sleepersAt_21 : decode cX0_sleepersAt 21 = .ok (.iaload, 1) := by decide +kernel
theorem dX0_sleepersAt_22 : decode cX0_sleepersAt 22 = .ok (.iload_n 1, 1) := by decide +kernel
theorem dX0_sleepersAt_23 : decode cX0_sleepersAt 23 = .ok (.if_icmp .ne 28, 3) := by decide +kernel
theorem dX0_sleepersAt_26 : decode cX0_sleepersAt 26 = .ok (.aload_n 0, 1) := by decide +kernel
theorem dX0_sleepersAt_27 : decode cX0_sleepersAt 27 = .ok (.getfield 18, 3) := by decide +kernel
theorem dX0_sleepersAt_30 : decode cX0_sleepersAt 30 = .ok (.iload 5, 2) := by decide +kernel
theorem dX0_sleepersAt_32 : decode cX0_sleepersAt 32 = .ok (.iaload, 1) := by decide +kernel
theorem dX0_sleepersAt_33 : decode cX0_sleepersAt 33 = .ok (.iload_n 2, 1) := by decide +kernel
theorem dX0_sleepersAt_34 : decode cX0_sleepersAt 34 = .ok (.if_icmp .ne 17, 3) := by decide +kernel
theorem dX0_sleepersAt_37 : decode cX0_sleepersAt 37 = .ok (.aload_n 0, 1) := by decide +kernel
theorem dX0_sleepersAt_38 : decode cX0_sleepersAt 38 = .ok (.getfield 21, 3) := by decide +kernel
theorem dX0_sleepersAt_41 : decode cX0_sleepersAt 41 = .ok (.iload 5, 2) := by decide +kernel
theorem dX0_sleepersAt_43 : decode cX0_sleepersAt 43 = .ok (.iaload, 1) := by decide +kernel
theorem dX0_sleepersAt_44 : decode cX0_sleepersAt 44 = .ok (.iload_n 3, 1) := by decide +kernel
theorem dX0_sleepersAt_45 : decode cX0_sleepersAt 45 = .ok (.if_icmp .ne 6, 3) := by decide +kernel
theorem dX0_sleepersAt_48 : decode cX0_sleepersAt 48 = .ok (.iinc 4 1, 3) := by decide +kernel
theorem dX0_sleepersAt_51 : decode cX0_sleepersAt 51 = .ok (.iinc 5 1, 3) := by decide +kernel
theorem dX0_sleepersAt_54 : decode cX0_sleepersAt 54 = .ok (.goto (-48), 3) := by decide +kernel
theorem dX0_sleepersAt_57 : decode cX0_sleepersAt 57 = .ok (.iload 4, 2) := by decide +kernel
theorem dX0_sleepersAt_59 : decode cX0_sleepersAt 59 = .ok (.ireturn, 1) := by decide +kernel
theorem dX1_init_0 : decode cX1_init 0 = .ok (.aload_n 0, 1) := by decide +kernel
theorem dX1_init_1 : decode cX1_init 1 = .ok (.invokespecial 3, 3) := by decide +kernel
theorem dX1_init_4 : decode cX1_init 4 = .ok (.aload_n 0, 1) := by decide +kernel
theorem dX1_init_5 : decode cX1_init 5 = .ok (.iconst 4, 1) := by decide +kernel
theorem dX1_init_6 : decode cX1_init 6 = .ok (.newarray .int, 2) := by decide +kernel
theorem dX1_init_8 : decode cX1_init 8 = .ok (.putfield 9, 3) := by decide +kernel
theorem dX1_init_11 : decode cX1_init 11 = .ok (.aload_n 0, 1) := by decide +kernel
theorem dX1_init_12 : decode cX1_init 12 = .ok (.bipush 16, 2) := by decide +kernel
theorem dX1_init_14 : decode cX1_init 14 = .ok (.newarray .int, 2) := by decide +kernel
theorem dX1_init_16 : decode cX1_init 16 = .ok (.putfield 15, 3) := by decide +kernel
theorem dX1_init_19 : decode cX1_init 19 = .ok (.return_, 1) := by decide +kernel
theorem dX1_row_0 : decode cX1_row 0 = .ok (.iload_n 0, 1) := by decide +kernel
theorem dX1_row_1 : decode cX1_row 1 = .ok (.iconst 4, 1) := by decide +kernel
theorem dX1_row_2 : decode cX1_row 2 = .ok (.imul, 1) := by decide +kernel
theorem dX1_row_3 : decode cX1_row 3 = .ok (.iload_n 1, 1) := by decide +kernel
theorem dX1_row_4 : decode cX1_row 4 = .ok (.iadd, 1) := by decide +kernel
theorem dX1_row_5 : decode cX1_row 5 = .ok (.ireturn, 1) := by decide +kernel
theorem dX1_receive_0 : decode cX1_receive 0 = .ok (.aload_n 0, 1) := by decide +kernel
theorem dX1_receive_1 : decode cX1_receive 1 = .ok (.getfield 9, 3) := by decide +kernel
theorem dX1_receive_4 : decode cX1_receive 4 = .ok (.iload_n 1, 1) := by decide +kernel
theorem dX1_receive_5 : decode cX1_receive 5 = .ok (.dup2, 1) := by decide +kernel
theorem dX1_receive_6 : decode cX1_receive 6 = .ok (.iaload, 1) := by decide +kernel
theorem dX1_receive_7 : decode cX1_receive 7 = .ok (.iload_n 2, 1) := by decide +kernel
theorem dX1_receive_8 : decode cX1_receive 8 = .ok (.iadd, 1) := by decide +kernel
theorem dX1_receive_9 : decode cX1_receive 9 = .ok (.iastore, 1) := by decide +kernel
theorem dX1_receive_10 : decode cX1_receive 10 = .ok (.return_, 1) := by decide +kernel
set_option maxRecDepth 20000 in
theorem ggX1_owe_X1_row : GoodIn wsX1_owe wsX1_row := goodIn_r _ [5] (by decide +kernel) (by decide +kernel)
set_option maxRecDepth 20000 in
theorem gX1_owe_X1_row : GoodIn wsX1_owe (va_wsS RX1 18 yX1_row wsX1_row) := goodIn_app (goodIn_of _ (by decide +kernel)) ggX1_owe_X1_row
theorem dX1_owe_0 : decode cX1_owe 0 = .ok (.aload_n 0, 1) := by decide +kernel
theorem dX1_owe_1 : decode cX1_owe 1 = .ok (.getfield 15, 3) := by decide +kernel
theorem dX1_owe_4 : decode cX1_owe 4 = .ok (.iload_n 1, 1) := by decide +kernel
theorem dX1_owe_5 : decode cX1_owe 5 = .ok (.iload_n 2, 1) := by decide +kernel
theorem dX1_owe_6 : decode cX1_owe 6 = .ok (.invokestatic 18, 3) := by decide +kernel
theorem dX1_owe_9 : decode cX1_owe 9 = .ok (.dup2, 1) := by decide +kernel
theorem dX1_owe_10 : decode cX1_owe 10 = .ok (.iaload, 1) := by decide +kernel
theorem dX1_owe_11 : decode cX1_owe 11 = .ok (.iload_n 3, 1) := by decide +kernel
theorem dX1_owe_12 : decode cX1_owe 12 = .ok (.iadd, 1) := by decide +kernel
theorem dX1_owe_13 : decode cX1_owe 13 = .ok (.iastore, 1) := by decide +kernel
theorem dX1_owe_14 : decode cX1_owe 14 = .ok (.aload_n 0, 1) := by decide +kernel
theorem dX1_owe_15 : decode cX1_owe 15 = .ok (.getfield 15, 3) := by decide +kernel
theorem dX1_owe_18 : decode cX1_owe 18 = .ok (.iload_n 2, 1) := by decide +kernel
theorem dX1_owe_19 : decode cX1_owe 19 = .ok (.iload_n 1, 1) := by decide +kernel
theorem dX1_owe_20 : decode cX1_owe 20 = .ok (.invokestatic 18, 3) := by decide +kernel
theorem dX1_owe_23 : decode cX1_owe 23 = .ok (.dup2, 1) := by decide +kernel
theorem dX1_owe_24 : decode cX1_owe 24 = .ok (.iaload, 1) := by decide +kernel
theorem dX1_owe_25 : decode cX1_owe 25 = .ok (.iload_n 3, 1) := by decide +kernel
theorem dX1_owe_26 : decode cX1_owe 26 = .ok (.isub, 1) := by decide +kernel
theorem dX1_owe_27 : decode cX1_owe 27 = .ok (.iastore, 1) := by decide +kernel
theorem dX1_owe_28 : decode cX1_owe 28 = .ok (.return_, 1) := by decide +kernel
set_option maxRecDepth 20000 in
theorem ggX1_between_X1_row : GoodIn wsX1_between wsX1_row := goodIn_r _ [9] (by decide +kernel) (by decide +kernel)
set_option maxRecDepth 20000 in
theorem gX1_between_X1_row : GoodIn wsX1_between (va_wsS RX1 18 yX1_row wsX1_row) := goodIn_app (goodIn_of _ (by decide +kernel)) ggX1_between_X1_row
theorem dX1_between_0 : decode cX1_between 0 = .ok (.iconst 0, 1) := by decide +kernel
theorem dX1_between_1 : decode cX1_between 1 = .ok (.aload_n 0, 1) := by decide +kernel
theorem dX1_between_2 : decode cX1_between 2 = .ok (.getfield 15, 3) := by decide +kernel
theorem dX1_between_5 : decode cX1_between 5 = .ok (.iload_n 1, 1) := by decide +kernel
theorem dX1_between_6 : decode cX1_between 6 = .ok (.iload_n 2, 1) := by decide +kernel
theorem dX1_between_7 : decode cX1_between 7 = .ok (.invokestatic 18, 3) := by decide +kernel
theorem dX1_between_10 : decode cX1_between 10 = .ok (.iaload, 1) := by decide +kernel
theorem dX1_between_11 : decode cX1_between 11 = .ok (.invokestatic 22, 3) := by decide +kernel
theorem dX1_between_14 : decode cX1_between 14 = .ok (.ireturn, 1) := by decide +kernel
set_option maxRecDepth 20000 in
theorem ggX1_payAll_X1_pay : GoodIn wsX1_payAll wsX1_pay := goodIn_r _ [5, 6, 7, 8, 9, 4, 10, 11, 12, 13, 14, 15, 16, 17, 18, 19, 20, 21, 22, 23, 24] (by decide +kernel) (by decide +kernel)
set_option maxRecDepth 20000 in
theorem gX1_payAll_X1_pay : GoodIn wsX1_payAll (wsV RX1 27 RX1 yX1_pay wsX1_pay) := goodIn_app (goodIn_of _ (by decide +kernel)) ggX1_payAll_X1_pay
theorem dX1_payAll_0 : decode cX1_payAll 0 = .ok (.iconst 0, 1) := by decide +kernel
theorem dX1_payAll_1 : decode cX1_payAll 1 = .ok (.istore_n 1, 1) := by decide +kernel
theorem dX1_payAll_2 : decode cX1_payAll 2 = .ok (.iconst 0, 1) := by decide +kernel
theorem dX1_payAll_3 : decode cX1_payAll 3 = .ok (.istore_n 2, 1) := by decide +kernel
theorem dX1_payAll_4 : decode cX1_payAll 4 = .ok (.iload_n 2, 1) := by decide +kernel
theorem dX1_payAll_5 : decode cX1_payAll 5 = .ok (.iconst 4, 1) := by decide +kernel
theorem dX1_payAll_6 : decode cX1_payAll 6 = .ok (.if_icmp .ge 31, 3) := by decide +kernel
theorem dX1_payAll_9 : decode cX1_payAll 9 = .ok (.iconst 0, 1) := by decide +kernel
theorem dX1_payAll_10 : decode cX1_payAll 10 = .ok (.istore_n 3, 1) := by decide +kernel
theorem dX1_payAll_11 : decode cX1_payAll 11 = .ok (.iload_n 3, 1) := by decide +kernel
theorem dX1_payAll_12 : decode cX1_payAll 12 = .ok (.iconst 4, 1) := by decide +kernel
theorem dX1_payAll_13 : decode cX1_payAll 13 = .ok (.if_icmp .ge 18, 3) := by decide +kernel
theorem dX1_payAll_16 : decode cX1_payAll 16 = .ok (.iload_n 1, 1) := by decide +kernel
theorem dX1_payAll_17 : decode cX1_payAll 17 = .ok (.aload_n 0, 1) := by decide +kernel
theorem dX1_payAll_18 : decode cX1_payAll 18 = .ok (.iload_n 2, 1) := by decide +kernel
theorem dX1_payAll_19 : decode cX1_payAll 19 = .ok (.iload_n 3, 1) := by decide +kernel
theorem dX1_payAll_20 : decode cX1_payAll 20 = .ok (.invokevirtual 27, 3) := by decide +kernel
theorem dX1_payAll_23 : decode cX1_payAll 23 = .ok (.iadd, 1) := by decide +kernel
theorem dX1_payAll_24 : decode cX1_payAll 24 = .ok (.istore_n 1, 1) := by decide +kernel
theorem dX1_payAll_25 : decode cX1_payAll 25 = .ok (.iinc 3 1, 3) := by decide +kernel
theorem dX1_payAll_28 : decode cX1_payAll 28 = .ok (.goto (-17), 3) := by decide +kernel
theorem dX1_payAll_31 : decode cX1_payAll 31 = .ok (.iinc 2 1, 3) := by decide +kernel
theorem dX1_payAll_34 : decode cX1_payAll 34 = .ok (.goto (-30), 3) := by decide +kernel
theorem dX1_payAll_37 : decode cX1_payAll 37 = .ok (.iload_n 1, 1) := by decide +kernel
theorem dX1_payAll_38 : decode cX1_payAll 38 = .ok (.ireturn, 1) := by decide +kernel
set_option maxRecDepth 20000 in
theorem ggX1_pay_X1_between : GoodIn wsX1_pay wsX1_between := goodIn_r _ [6, 7, 8, 9, 10, 11, 12, 13, 5, 14, 19, 20] (by decide +kernel) (by decide +kernel)
set_option maxRecDepth 20000 in
theorem gX1_pay_X1_between : GoodIn wsX1_pay (wsV RX1 30 RX1 yX1_between wsX1_between) := goodIn_app (goodIn_of _ (by decide +kernel)) ggX1_pay_X1_between
set_option maxRecDepth 20000 in
theorem ggX1_pay_X1_owe : GoodIn wsX1_pay wsX1_owe := goodIn_r _ [18, 7, 12, 13, 5, 14, 19, 20] (by decide +kernel) (by decide +kernel)
set_option maxRecDepth 20000 in
theorem gX1_pay_X1_owe : GoodIn wsX1_pay (wsV RX1 33 RX1 yX1_owe wsX1_owe) := goodIn_app (goodIn_of _ (by decide +kernel)) ggX1_pay_X1_owe
theorem dX1_pay_0 : decode cX1_pay 0 = .ok (.aload_n 0, 1) := by decide +kernel
theorem dX1_pay_1 : decode cX1_pay 1 = .ok (.iload_n 1, 1) := by decide +kernel
theorem dX1_pay_2 : decode cX1_pay 2 = .ok (.iload_n 2, 1) := by decide +kernel
theorem dX1_pay_3 : decode cX1_pay 3 = .ok (.invokevirtual 30, 3) := by decide +kernel
theorem dX1_pay_6 : decode cX1_pay 6 = .ok (.istore_n 3, 1) := by decide +kernel
theorem dX1_pay_7 : decode cX1_pay 7 = .ok (.aload_n 0, 1) := by decide +kernel
theorem dX1_pay_8 : decode cX1_pay 8 = .ok (.getfield 9, 3) := by decide +kernel
theorem dX1_pay_11 : decode cX1_pay 11 = .ok (.iload_n 1, 1) := by decide +kernel
theorem dX1_pay_12 : decode cX1_pay 12 = .ok (.dup2, 1) := by decide +kernel
theorem dX1_pay_13 : decode cX1_pay 13 = .ok (.iaload, 1) := by decide +kernel
theorem dX1_pay_14 : decode cX1_pay 14 = .ok (.iload_n 3, 1) := by decide +kernel
theorem dX1_pay_15 : decode cX1_pay 15 = .ok (.isub, 1) := by decide +kernel
theorem dX1_pay_16 : decode cX1_pay 16 = .ok (.iastore, 1) := by decide +kernel
theorem dX1_pay_17 : decode cX1_pay 17 = .ok (.aload_n 0, 1) := by decide +kernel
theorem dX1_pay_18 : decode cX1_pay 18 = .ok (.getfield 9, 3) := by decide +kernel
theorem dX1_pay_21 : decode cX1_pay 21 = .ok (.iload_n 2, 1) := by decide +kernel
theorem dX1_pay_22 : decode cX1_pay 22 = .ok (.dup2, 1) := by decide +kernel
theorem dX1_pay_23 : decode cX1_pay 23 = .ok (.iaload, 1) := by decide +kernel
theorem dX1_pay_24 : decode cX1_pay 24 = .ok (.iload_n 3, 1) := by decide +kernel
theorem dX1_pay_25 : decode cX1_pay 25 = .ok (.iadd, 1) := by decide +kernel
theorem dX1_pay_26 : decode cX1_pay 26 = .ok (.iastore, 1) := by decide +kernel
theorem dX1_pay_27 : decode cX1_pay 27 = .ok (.aload_n 0, 1) := by decide +kernel
theorem dX1_pay_28 : decode cX1_pay 28 = .ok (.iload_n 2, 1) := by decide +kernel
theorem dX1_pay_29 : decode cX1_pay 29 = .ok (.iload_n 1, 1) := by decide +kernel
theorem dX1_pay_30 : decode cX1_pay 30 = .ok (.iload_n 3, 1) := by decide +kernel
theorem dX1_pay_31 : decode cX1_pay 31 = .ok (.invokevirtual 33, 3) := by decide +kernel
theorem dX1_pay_34 : decode cX1_pay 34 = .ok (.iload_n 3, 1) := by decide +kernel
theorem dX1_pay_35 : decode cX1_pay 35 = .ok (.ireturn, 1) := by decide +kernel
theorem dX2_init_0 : decode cX2_init 0 = .ok (.aload_n 0, 1) := by decide +kernel
theorem dX2_init_1 : decode cX2_init 1 = .ok (.invokespecial 3, 3) := by decide +kernel
theorem dX2_init_4 : decode cX2_init 4 = .ok (.aload_n 0, 1) := by decide +kernel
theorem dX2_init_5 : decode cX2_init 5 = .ok (.iconst 4, 1) := by decide +kernel
theorem dX2_init_6 : decode cX2_init 6 = .ok (.newarray .int, 2) := by decide +kernel
theorem dX2_init_8 : decode cX2_init 8 = .ok (.putfield 9, 3) := by decide +kernel
theorem dX2_init_11 : decode cX2_init 11 = .ok (.aload_n 0, 1) := by decide +kernel
theorem dX2_init_12 : decode cX2_init 12 = .ok (.iconst 4, 1) := by decide +kernel
theorem dX2_init_13 : decode cX2_init 13 = .ok (.newarray .int, 2) := by decide +kernel
theorem dX2_init_15 : decode cX2_init 15 = .ok (.putfield 15, 3) := by decide +kernel
theorem dX2_init_18 : decode cX2_init 18 = .ok (.aload_n 0, 1) := by decide +kernel
theorem dX2_init_19 : decode cX2_init 19 = .ok (.iconst 4, 1) := by decide +kernel
theorem dX2_init_20 : decode cX2_init 20 = .ok (.newarray .int, 2) := by decide +kernel
theorem dX2_init_22 : decode cX2_init 22 = .ok (.putfield 18, 3) := by decide +kernel
theorem dX2_init_25 : decode cX2_init 25 = .ok (.aload_n 0, 1) := by decide +kernel
theorem dX2_init_26 : decode cX2_init 26 = .ok (.iconst 4, 1) := by decide +kernel
theorem dX2_init_27 : decode cX2_init 27 = .ok (.newarray .int, 2) := by decide +kernel
theorem dX2_init_29 : decode cX2_init 29 = .ok (.putfield 21, 3) := by decide +kernel
theorem dX2_init_32 : decode cX2_init 32 = .ok (.aload_n 0, 1) := by decide +kernel
theorem dX2_init_33 : decode cX2_init 33 = .ok (.iconst 4, 1) := by decide +kernel
theorem dX2_init_34 : decode cX2_init 34 = .ok (.newarray .int, 2) := by decide +kernel
theorem dX2_init_36 : decode cX2_init 36 = .ok (.putfield 24, 3) := by decide +kernel
theorem dX2_init_39 : decode cX2_init 39 = .ok (.aload_n 0, 1) := by decide +kernel
theorem dX2_init_40 : decode cX2_init 40 = .ok (.iconst 0, 1) := by decide +kernel
theorem dX2_init_41 : decode cX2_init 41 = .ok (.putfield 27, 3) := by decide +kernel
theorem dX2_init_44 : decode cX2_init 44 = .ok (.aload_n 0, 1) := by decide +kernel
theorem dX2_init_45 : decode cX2_init 45 = .ok (.iconst 0, 1) := by decide +kernel
theorem dX2_init_46 : decode cX2_init 46 = .ok (.putfield 31, 3) := by decide +kernel
theorem dX2_init_49 : decode cX2_init 49 = .ok (.return_, 1) := by decide +kernel
theorem dX2_addClean_0 : decode cX2_addClean 0 = .ok (.aload_n 0, 1) := by decide +kernel
theorem dX2_addClean_1 : decode cX2_addClean 1 = .ok (.getfield 9, 3) := by decide +kernel
theorem dX2_addClean_4 : decode cX2_addClean 4 = .ok (.iload_n 1, 1) := by decide +kernel
theorem dX2_addClean_5 : decode cX2_addClean 5 = .ok (.dup2, 1) := by decide +kernel
theorem dX2_addClean_6 : decode cX2_addClean 6 = .ok (.iaload, 1) := by decide +kernel
theorem dX2_addClean_7 : decode cX2_addClean 7 = .ok (.iload_n 2, 1) := by decide +kernel
theorem dX2_addClean_8 : decode cX2_addClean 8 = .ok (.iadd, 1) := by decide +kernel
theorem dX2_addClean_9 : decode cX2_addClean 9 = .ok (.iastore, 1) := by decide +kernel
theorem dX2_addClean_10 : decode cX2_addClean 10 = .ok (.aload_n 0, 1) := by decide +kernel
theorem dX2_addClean_11 : decode cX2_addClean 11 = .ok (.getfield 9, 3) := by decide +kernel
theorem dX2_addClean_14 : decode cX2_addClean 14 = .ok (.iload_n 1, 1) := by decide +kernel
theorem dX2_addClean_15 : decode cX2_addClean 15 = .ok (.iaload, 1) := by decide +kernel
theorem dX2_addClean_16 : decode cX2_addClean 16 = .ok (.ireturn, 1) := by decide +kernel
theorem dX2_changeBroken_0 : decode cX2_changeBroken 0 = .ok (.aload_n 0, 1) := by decide +kernel
theorem dX2_changeBroken_1 : decode cX2_changeBroken 1 = .ok (.getfield 27, 3) := by decide +kernel
theorem dX2_changeBroken_4 : decode cX2_changeBroken 4 = .ok (.istore_n 2, 1) := by decide +kernel
theorem dX2_changeBroken_5 : decode cX2_changeBroken 5 = .ok (.aload_n 0, 1) := by decide +kernel
theorem dX2_changeBroken_6 : decode cX2_changeBroken 6 = .ok (.iload_n 1, 1) := by decide +kernel
theorem dX2_changeBroken_7 : decode cX2_changeBroken 7 = .ok (.putfield 27, 3) := by decide +kernel
theorem dX2_changeBroken_10 : decode cX2_changeBroken 10 = .ok (.iload_n 2, 1) := by decide +kernel
theorem dX2_changeBroken_11 : decode cX2_changeBroken 11 = .ok (.ireturn, 1) := by decide +kernel
theorem dX2_awayOf_0 : decode cX2_awayOf 0 = .ok (.aload_n 0, 1) := by decide +kernel
theorem dX2_awayOf_1 : decode cX2_awayOf 1 = .ok (.getfield 15, 3) := by decide +kernel
theorem dX2_awayOf_4 : decode cX2_awayOf 4 = .ok (.iload_n 1, 1) := by decide +kernel
theorem dX2_awayOf_5 : decode cX2_awayOf 5 = .ok (.iaload, 1) := by decide +kernel
theorem dX2_awayOf_6 : decode cX2_awayOf 6 = .ok (.aload_n 0, 1) := by decide +kernel
theorem dX2_awayOf_7 : decode cX2_awayOf 7 = .ok (.getfield 18, 3) := by decide +kernel
theorem dX2_awayOf_10 : decode cX2_awayOf 10 = .ok (.iload_n 1, 1) := by decide +kernel
theorem dX2_awayOf_11 : decode cX2_awayOf 11 = .ok (.iaload, 1) := by decide +kernel
theorem dX2_awayOf_12 : decode cX2_awayOf 12 = .ok (.iadd, 1) := by decide +kernel
theorem dX2_awayOf_13 : decode cX2_awayOf 13 = .ok (.aload_n 0, 1) := by decide +kernel
theorem dX2_awayOf_14 : decode cX2_awayOf 14 = .ok (.getfield 21, 3) := by decide +kernel
theorem dX2_awayOf_17 : decode cX2_awayOf 17 = .ok (.iload_n 1, 1) := by decide +kernel
theorem dX2_awayOf_18 : decode cX2_awayOf 18 = .ok (.iaload, 1) := by decide +kernel
theorem dX2_awayOf_19 : decode cX2_awayOf 19 = .ok (.iadd, 1) := by decide +kernel
theorem dX2_awayOf_20 : decode cX2_awayOf 20 = .ok (.aload_n 0, 1) := by decide +kernel
theorem dX2_awayOf_21 : decode cX2_awayOf 21 = .ok (.getfield 24, 3) := by decide +kernel
theorem dX2_awayOf_24 : decode cX2_awayOf 24 = .ok (.iload_n 1, 1) := by decide +kernel
theorem dX2_awayOf_25 : decode cX2_awayOf 25 = .ok (.iaload, 1) := by decide +kernel
theorem dX2_awayOf_26 : decode cX2_awayOf 26 = .ok (.iadd, 1) := by decide +kernel
theorem dX2_awayOf_27 : decode cX2_awayOf 27 = .ok (.ireturn, 1) := by decide +kernel
theorem dX2_giverFor_0 : decode cX2_giverFor 0 = .ok (.aload_n 0, 1) := by decide +kernel
theorem dX2_giverFor_1 : decode cX2_giverFor 1 = .ok (.getfield 9, 3) := by decide +kernel
theorem dX2_giverFor_4 : decode cX2_giverFor 4 = .ok (.iload_n 1, 1) := by decide +kernel
theorem dX2_giverFor_5 : decode cX2_giverFor 5 = .ok (.iaload, 1) := by decide +kernel
theorem dX2_giverFor_6 : decode cX2_giverFor 6 = .ok (.ifCond .le 5, 3) := by decide +kernel
theorem dX2_giverFor_9 : decode cX2_giverFor 9 = .ok (.iload_n 1, 1) := by decide +kernel
theorem dX2_giverFor_10 : decode cX2_giverFor 10 = .ok (.ireturn, 1) := by decide +kernel
theorem dX2_giverFor_11 : decode cX2_giverFor 11 = .ok (.iconst (-1), 1) := by decide +kernel
theorem dX2_giverFor_12 : decode cX2_giverFor 12 = .ok (.istore_n 2, 1) := by decide +kernel
theorem dX2_giverFor_13 : decode cX2_giverFor 13 = .ok (.iconst 0, 1) := by decide +kernel
theorem dX2_giverFor_14 : decode cX2_giverFor 14 = .ok (.istore_n 3, 1) := by decide +kernel
theorem dX2_giverFor_15 : decode cX2_giverFor 15 = .ok (.iconst 0, 1) := by decide +kernel
theorem dX2_giverFor_16 : decode cX2_giverFor 16 = .ok (.istore 4, 2) := by decide +kernel
theorem dX2_giverFor_18 : decode cX2_giverFor 18 = .ok (.iload 4, 2) := by decide +kernel
theorem dX2_giverFor_20 : decode cX2_giverFor 20 = .ok (.iconst 4, 1) := by decide +kernel
theorem dX2_giverFor_21 : decode cX2_giverFor 21 = .ok (.if_icmp .ge 31, 3) := by decide +kernel
theorem dX2_giverFor_24 : decode cX2_giverFor 24 = .ok (.aload_n 0, 1) := by decide +kernel
theorem dX2_giverFor_25 : decode cX2_giverFor 25 = .ok (.getfield 9, 3) := by decide +kernel
theorem dX2_giverFor_28 : decode cX2_giverFor 28 = .ok (.iload 4, 2) := by decide +kernel
theorem dX2_giverFor_30 : decode cX2_giverFor 30 = .ok (.iaload, 1) := by decide +kernel
theorem dX2_giverFor_31 : decode cX2_giverFor 31 = .ok (.iload_n 3, 1) := by decide +kernel
theorem dX2_giverFor_32 : decode cX2_giverFor 32 = .ok (.if_icmp .le 14, 3) := by decide +kernel
theorem dX2_giverFor_35 : decode cX2_giverFor 35 = .ok (.iload 4, 2) := by decide +kernel
theorem dX2_giverFor_37 : decode cX2_giverFor 37 = .ok (.istore_n 2, 1) := by decide +kernel
theorem dX2_giverFor_38 : decode cX2_giverFor 38 = .ok (.aload_n 0, 1) := by decide +kernel
theorem dX2_giverFor_39 : decode cX2_giverFor 39 = .ok (.getfield 9, 3) := by decide +kernel
theorem dX2_giverFor_42 : decode cX2_giverFor 42 = .ok (.iload 4, 2) := by decide +kernel
theorem dX2_giverFor_44 : decode cX2_giverFor 44 = .ok (.iaload, 1) := by decide +kernel
theorem dX2_giverFor_45 : decode cX2_giverFor 45 = .ok (.istore_n 3, 1) := by decide +kernel
theorem dX2_giverFor_46 : decode cX2_giverFor 46 = .ok (.iinc 4 1, 3) := by decide +kernel
theorem dX2_giverFor_49 : decode cX2_giverFor 49 = .ok (.goto (-31), 3) := by decide +kernel
theorem dX2_giverFor_52 : decode cX2_giverFor 52 = .ok (.iload_n 2, 1) := by decide +kernel
theorem dX2_giverFor_53 : decode cX2_giverFor 53 = .ok (.ireturn, 1) := by decide +kernel
theorem dX2_chargeForBorrowing_0 : decode cX2_chargeForBorrowing 0 = .ok (.iconst 1, 1) := by decide +kernel
theorem dX2_chargeForBorrowing_1 : decode cX2_chargeForBorrowing 1 = .ok (.aload_n 0, 1) := by decide +kernel
theorem dX2_chargeForBorrowing_2 : decode cX2_chargeForBorrowing 2 = .ok (.getfield 31, 3) := by decide +kernel
theorem dX2_chargeForBorrowing_5 : decode cX2_chargeForBorrowing 5 = .ok (.iadd, 1) := by decide +kernel
theorem dX2_chargeForBorrowing_6 : decode cX2_chargeForBorrowing 6 = .ok (.ireturn, 1) := by decide +kernel
theorem dX2_take_0 : decode cX2_take 0 = .ok (.aload_n 0, 1) := by decide +kernel
theorem dX2_take_1 : decode cX2_take 1 = .ok (.getfield 9, 3) := by decide +kernel
theorem dX2_take_4 : decode cX2_take 4 = .ok (.iload_n 2, 1) := by decide +kernel
theorem dX2_take_5 : decode cX2_take 5 = .ok (.dup2, 1) := by decide +kernel
theorem dX2_take_6 : decode cX2_take 6 = .ok (.iaload, 1) := by decide +kernel
theorem dX2_take_7 : decode cX2_take 7 = .ok (.iconst 1, 1) := by decide +kernel
theorem dX2_take_8 : decode cX2_take 8 = .ok (.isub, 1) := by decide +kernel
theorem dX2_take_9 : decode cX2_take 9 = .ok (.iastore, 1) := by decide +kernel
theorem dX2_take_10 : decode cX2_take 10 = .ok (.aload_n 0, 1) := by decide +kernel
theorem dX2_take_11 : decode cX2_take 11 = .ok (.getfield 15, 3) := by decide +kernel
theorem dX2_take_14 : decode cX2_take 14 = .ok (.iload_n 1, 1) := by decide +kernel
theorem dX2_take_15 : decode cX2_take 15 = .ok (.dup2, 1) := by decide +kernel
theorem dX2_take_16 : decode cX2_take 16 = .ok (.iaload, 1) := by decide +kernel
theorem dX2_take_17 : decode cX2_take 17 = .ok (.iconst 1, 1) := by decide +kernel
theorem dX2_take_18 : decode cX2_take 18 = .ok (.iadd, 1) := by decide +kernel
theorem dX2_take_19 : decode cX2_take 19 = .ok (.iastore, 1) := by decide +kernel
theorem dX2_take_20 : decode cX2_take 20 = .ok (.iload_n 2, 1) := by decide +kernel
theorem dX2_take_21 : decode cX2_take 21 = .ok (.iload_n 1, 1) := by decide +kernel
theorem dX2_take_22 : decode cX2_take 22 = .ok (.if_icmp .eq 13, 3) := by decide +kernel
theorem dX2_take_25 : decode cX2_take 25 = .ok (.aload_n 0, 1) := by decide +kernel
theorem dX2_take_26 : decode cX2_take 26 = .ok (.dup, 1) := by decide +kernel
theorem dX2_take_27 : decode cX2_take 27 = .ok (.getfield 31, 3) := by decide +kernel
theorem dX2_take_30 : decode cX2_take 30 = .ok (.iconst 1, 1) := by decide +kernel
theorem dX2_take_31 : decode cX2_take 31 = .ok (.iadd, 1) := by decide +kernel
theorem dX2_take_32 : decode cX2_take 32 = .ok (.putfield 31, 3) := by decide +kernel
theorem dX2_take_35 : decode cX2_take 35 = .ok (.return_, 1) := by decide +kernel
theorem dX2_endNight_0 : decode cX2_endNight 0 = .ok (.iconst 0, 1) := by decide +kernel
theorem dX2_endNight_1 : decode cX2_endNight 1 = .ok (.istore_n 1, 1) := by decide +kernel
theorem dX2_endNight_2 : decode cX2_endNight 2 = .ok (.iload_n 1, 1) := by decide +kernel
theorem dX2_endNight_3 : decode cX2_endNight 3 = .ok (.iconst 4, 1) := by decide +kernel
theorem dX2_endNight_4 : decode cX2_endNight 4 = .ok (.if_icmp .ge 84, 3) := by decide +kernel
theorem dX2_endNight_7 : decode cX2_endNight 7 = .ok (.aload_n 0, 1) := by decide +kernel
theorem dX2_endNight_8 : decode cX2_endNight 8 = .ok (.getfield 24, 3) := by decide +kernel
theorem dX2_endNight_11 : decode cX2_endNight 11 = .ok (.iload_n 1, 1) := by decide +kernel
theorem dX2_endNight_12 : decode cX2_endNight 12 = .ok (.dup2, 1) := by decide +kernel
theorem dX2_endNight_13 : decode cX2_endNight 13 = .ok (.iaload, 1) := by decide +kernel
theorem dX2_endNight_14 : decode cX2_endNight 14 = .ok (.aload_n 0, 1) := by decide +kernel
theorem dX2_endNight_15 : decode cX2_endNight 15 = .ok (.getfield 21, 3) := by decide +kernel
theorem dX2_endNight_18 : decode cX2_endNight 18 = .ok (.iload_n 1, 1) := by decide +kernel
theorem dX2_endNight_19 : decode cX2_endNight 19 = .ok (.iaload, 1) := by decide +kernel
theorem dX2_endNight_20 : decode cX2_endNight 20 = .ok (.iadd, 1) := by decide +kernel
theorem dX2_endNight_21 : decode cX2_endNight 21 = .ok (.iastore, 1) := by decide +kernel
theorem dX2_endNight_22 : decode cX2_endNight 22 = .ok (.aload_n 0, 1) := by decide +kernel
theorem dX2_endNight_23 : decode cX2_endNight 23 = .ok (.getfield 21, 3) := by decide +kernel
theorem dX2_endNight_26 : decode cX2_endNight 26 = .ok (.iload_n 1, 1) := by decide +kernel
theorem dX2_endNight_27 : decode cX2_endNight 27 = .ok (.aload_n 0, 1) := by decide +kernel
theorem dX2_endNight_28 : decode cX2_endNight 28 = .ok (.getfield 18, 3) := by decide +kernel
theorem dX2_endNight_31 : decode cX2_endNight 31 = .ok (.iload_n 1, 1) := by decide +kernel
theorem dX2_endNight_32 : decode cX2_endNight 32 = .ok (.iaload, 1) := by decide +kernel
theorem dX2_endNight_33 : decode cX2_endNight 33 = .ok (.iastore, 1) := by decide +kernel
theorem dX2_endNight_34 : decode cX2_endNight 34 = .ok (.aload_n 0, 1) := by decide +kernel
theorem dX2_endNight_35 : decode cX2_endNight 35 = .ok (.getfield 18, 3) := by decide +kernel
theorem dX2_endNight_38 : decode cX2_endNight 38 = .ok (.iload_n 1, 1) := by decide +kernel
theorem dX2_endNight_39 : decode cX2_endNight 39 = .ok (.aload_n 0, 1) := by decide +kernel
theorem dX2_endNight_40 : decode cX2_endNight 40 = .ok (.getfield 15, 3) := by decide +kernel
theorem dX2_endNight_43 : decode cX2_endNight 43 = .ok (.iload_n 1, 1) := by decide +kernel
theorem dX2_endNight_44 : decode cX2_endNight 44 = .ok (.iaload, 1) := by decide +kernel
theorem dX2_endNight_45 : decode cX2_endNight 45 = .ok (.iastore, 1) := by decide +kernel
theorem dX2_endNight_46 : decode cX2_endNight 46 = .ok (.aload_n 0, 1) := by decide +kernel
theorem dX2_endNight_47 : decode cX2_endNight 47 = .ok (.getfield 15, 3) := by decide +kernel
theorem dX2_endNight_50 : decode cX2_endNight 50 = .ok (.iload_n 1, 1) := by decide +kernel
theorem dX2_endNight_51 : decode cX2_endNight 51 = .ok (.iconst 0, 1) := by decide +kernel
theorem dX2_endNight_52 : decode cX2_endNight 52 = .ok (.iastore, 1) := by decide +kernel
theorem dX2_endNight_53 : decode cX2_endNight 53 = .ok (.aload_n 0, 1) := by decide +kernel
theorem dX2_endNight_54 : decode cX2_endNight 54 = .ok (.getfield 27, 3) := by decide +kernel
theorem dX2_endNight_57 : decode cX2_endNight 57 = .ok (.ifCond .ne 25, 3) := by decide +kernel
theorem dX2_endNight_60 : decode cX2_endNight 60 = .ok (.aload_n 0, 1) := by decide +kernel
theorem dX2_endNight_61 : decode cX2_endNight 61 = .ok (.getfield 9, 3) := by decide +kernel
theorem dX2_endNight_64 : decode cX2_endNight 64 = .ok (.iload_n 1, 1) := by decide +kernel
theorem dX2_endNight_65 : decode cX2_endNight 65 = .ok (.dup2, 1) := by decide +kernel
theorem dX2_endNight_66 : decode cX2_endNight 66 = .ok (.iaload, 1) := by decide +kernel
theorem dX2_endNight_67 : decode cX2_endNight 67 = .ok (.aload_n 0, 1) := by decide +kernel
theorem dX2_endNight_68 : decode cX2_endNight 68 = .ok (.getfield 24, 3) := by decide +kernel
theorem dX2_endNight_71 : decode cX2_endNight 71 = .ok (.iload_n 1, 1) := by decide +kernel
theorem dX2_endNight_72 : decode cX2_endNight 72 = .ok (.iaload, 1) := by decide +kernel
theorem dX2_endNight_73 : decode cX2_endNight 73 = .ok (.iadd, 1) := by decide +kernel
theorem dX2_endNight_74 : decode cX2_endNight 74 = .ok (.iastore, 1) := by decide +kernel
theorem dX2_endNight_75 : decode cX2_endNight 75 = .ok (.aload_n 0, 1) := by decide +kernel
theorem dX2_endNight_76 : decode cX2_endNight 76 = .ok (.getfield 24, 3) := by decide +kernel
theorem dX2_endNight_79 : decode cX2_endNight 79 = .ok (.iload_n 1, 1) := by decide +kernel
theorem dX2_endNight_80 : decode cX2_endNight 80 = .ok (.iconst 0, 1) := by decide +kernel
theorem dX2_endNight_81 : decode cX2_endNight 81 = .ok (.iastore, 1) := by decide +kernel
theorem dX2_endNight_82 : decode cX2_endNight 82 = .ok (.iinc 1 1, 3) := by decide +kernel
theorem dX2_endNight_85 : decode cX2_endNight 85 = .ok (.goto (-83), 3) := by decide +kernel
theorem dX2_endNight_88 : decode cX2_endNight 88 = .ok (.aload_n 0, 1) := by decide +kernel
theorem dX2_endNight_89 : decode cX2_endNight 89 = .ok (.iconst 0, 1) := by decide +kernel
theorem dX2_endNight_90 : decode cX2_endNight 90 = .ok (.putfield 31, 3) := by decide +kernel
theorem dX2_endNight_93 : decode cX2_endNight 93 = .ok (.return_, 1) := by decide +kernel
theorem dX3_init_0 : decode cX3_init 0 = .ok (.aload_n 0, 1) := by decide +kernel
theorem dX3_init_1 : decode cX3_init 1 = .ok (.invokespecial 3, 3) := by decide +kernel
theorem dX3_init_4 : decode cX3_init 4 = .ok (.aload_n 0, 1) := by decide +kernel
theorem dX3_init_5 : decode cX3_init 5 = .ok (.bipush 80, 2) := by decide +kernel
theorem dX3_init_7 : decode cX3_init 7 = .ok (.newarray .int, 2) := by decide +kernel
theorem dX3_init_9 : decode cX3_init 9 = .ok (.putfield 9, 3) := by decide +kernel
theorem dX3_init_12 : decode cX3_init 12 = .ok (.aload_n 0, 1) := by decide +kernel
theorem dX3_init_13 : decode cX3_init 13 = .ok (.bipush 80, 2) := by decide +kernel
theorem dX3_init_15 : decode cX3_init 15 = .ok (.newarray .int, 2) := by decide +kernel
theorem dX3_init_17 : decode cX3_init 17 = .ok (.putfield 15, 3) := by decide +kernel
theorem dX3_init_20 : decode cX3_init 20 = .ok (.aload_n 0, 1) := by decide +kernel
theorem dX3_init_21 : decode cX3_init 21 = .ok (.bipush 80, 2) := by decide +kernel
theorem dX3_init_23 : decode cX3_init 23 = .ok (.newarray .int, 2) := by decide +kernel
theorem dX3_init_25 : decode cX3_init 25 = .ok (.putfield 18, 3) := by decide +kernel
theorem dX3_init_28 : decode cX3_init 28 = .ok (.aload_n 0, 1) := by decide +kernel
theorem dX3_init_29 : decode cX3_init 29 = .ok (.iconst 0, 1) := by decide +kernel
theorem dX3_init_30 : decode cX3_init 30 = .ok (.putfield 21, 3) := by decide +kernel
theorem dX3_init_33 : decode cX3_init 33 = .ok (.return_, 1) := by decide +kernel
theorem dX3_add_0 : decode cX3_add 0 = .ok (.aload_n 0, 1) := by decide +kernel
theorem dX3_add_1 : decode cX3_add 1 = .ok (.getfield 21, 3) := by decide +kernel
theorem dX3_add_4 : decode cX3_add 4 = .ok (.bipush 80, 2) := by decide +kernel
theorem dX3_add_6 : decode cX3_add 6 = .ok (.if_icmp .lt 4, 3) := by decide +kernel
theorem dX3_add_9 : decode cX3_add 9 = .ok (.return_, 1) := by decide +kernel
theorem dX3_add_10 : decode cX3_add 10 = .ok (.aload_n 0, 1) := by decide +kernel
theorem dX3_add_11 : decode cX3_add 11 = .ok (.getfield 9, 3) := by decide +kernel
theorem dX3_add_14 : decode cX3_add 14 = .ok (.aload_n 0, 1) := by decide +kernel
theorem dX3_add_15 : decode cX3_add 15 = .ok (.getfield 21, 3) := by decide +kernel
theorem dX3_add_18 : decode cX3_add 18 = .ok (.iload_n 1, 1) := by decide +kernel
theorem dX3_add_19 : decode cX3_add 19 = .ok (.iastore, 1) := by decide +kernel
theorem dX3_add_20 : decode cX3_add 20 = .ok (.aload_n 0, 1) := by decide +kernel
theorem dX3_add_21 : decode cX3_add 21 = .ok (.getfield 15, 3) := by decide +kernel
theorem dX3_add_24 : decode cX3_add 24 = .ok (.aload_n 0, 1) := by decide +kernel
theorem dX3_add_25 : decode cX3_add 25 = .ok (.getfield 21, 3) := by decide +kernel
theorem dX3_add_28 : decode cX3_add 28 = .ok (.iload_n 2, 1) := by decide +kernel
theorem dX3_add_29 : decode cX3_add 29 = .ok (.iastore, 1) := by decide +kernel
theorem dX3_add_30 : decode cX3_add 30 = .ok (.aload_n 0, 1) := by decide +kernel
theorem dX3_add_31 : decode cX3_add 31 = .ok (.getfield 18, 3) := by decide +kernel
theorem dX3_add_34 : decode cX3_add 34 = .ok (.aload_n 0, 1) := by decide +kernel
theorem dX3_add_35 : decode cX3_add 35 = .ok (.getfield 21, 3) := by decide +kernel
theorem dX3_add_38 : decode cX3_add 38 = .ok (.iload_n 3, 1) := by decide +kernel
theorem dX3_add_39 : decode cX3_add 39 = .ok (.iastore, 1) := by decide +kernel
theorem dX3_add_40 : decode cX3_add 40 = .ok (.aload_n 0, 1) := by decide +kernel
theorem dX3_add_41 : decode cX3_add 41 = .ok (.dup, 1) := by decide +kernel
theorem dX3_add_42 : decode cX3_add 42 = .ok (.getfield 21, 3) := by decide +kernel
theorem dX3_add_45 : decode cX3_add 45 = .ok (.iconst 1, 1) := by decide +kernel
theorem dX3_add_46 : decode cX3_add 46 = .ok (.iadd, 1) := by decide +kernel
theorem dX3_add_47 : decode cX3_add 47 = .ok (.putfield 21, 3) := by decide +kernel
theorem dX3_add_50 : decode cX3_add 50 = .ok (.return_, 1) := by decide +kernel
theorem dX3_ofGuest_0 : decode cX3_ofGuest 0 = .ok (.iconst 0, 1) := by decide +kernel
theorem dX3_ofGuest_1 : decode cX3_ofGuest 1 = .ok (.istore_n 2, 1) := by decide +kernel
theorem dX3_ofGuest_2 : decode cX3_ofGuest 2 = .ok (.iconst 0, 1) := by decide +kernel
theorem dX3_ofGuest_3 : decode cX3_ofGuest 3 = .ok (.istore_n 3, 1) := by decide +kernel
theorem dX3_ofGuest_4 : decode cX3_ofGuest 4 = .ok (.iload_n 3, 1) := by decide +kernel
theorem dX3_ofGuest_5 : decode cX3_ofGuest 5 = .ok (.aload_n 0, 1) := by decide +kernel
theorem dX3_ofGuest_6 : decode cX3_ofGuest 6 = .ok (.getfield 21, 3) := by decide +kernel
theorem dX3_ofGuest_9 : decode cX3_ofGuest 9 = .ok (.if_icmp .ge 28, 3) := by decide +kernel
theorem dX3_ofGuest_12 : decode cX3_ofGuest 12 = .ok (.aload_n 0, 1) := by decide +kernel
theorem dX3_ofGuest_13 : decode cX3_ofGuest 13 = .ok (.getfield 9, 3) := by decide +kernel
theorem dX3_ofGuest_16 : decode cX3_ofGuest 16 = .ok (.iload_n 3, 1) := by decide +kernel
theorem dX3_ofGuest_17 : decode cX3_ofGuest 17 = .ok (.iaload, 1) := by decide +kernel
theorem dX3_ofGuest_18 : decode cX3_ofGuest 18 = .ok (.iload_n 1, 1) := by decide +kernel
theorem dX3_ofGuest_19 : decode cX3_ofGuest 19 = .ok (.if_icmp .ne 12, 3) := by decide +kernel
theorem dX3_ofGuest_22 : decode cX3_ofGuest 22 = .ok (.iload_n 2, 1) := by decide +kernel
theorem dX3_ofGuest_23 : decode cX3_ofGuest 23 = .ok (.aload_n 0, 1) := by decide +kernel
theorem dX3_ofGuest_24 : decode cX3_ofGuest 24 = .ok (.getfield 18, 3) := by decide +kernel
theorem dX3_ofGuest_27 : decode cX3_ofGuest 27 = .ok (.iload_n 3, 1) := by decide +kernel
theorem dX3_ofGuest_28 : decode cX3_ofGuest 28 = .ok (.iaload, 1) := by decide +kernel
theorem dX3_ofGuest_29 : decode cX3_ofGuest 29 = .ok (.iadd, 1) := by decide +kernel
theorem dX3_ofGuest_30 : decode cX3_ofGuest 30 = .ok (.istore_n 2, 1) := by decide +kernel
theorem dX3_ofGuest_31 : decode cX3_ofGuest 31 = .ok (.iinc 3 1, 3) := by decide +kernel
theorem dX3_ofGuest_34 : decode cX3_ofGuest 34 = .ok (.goto (-30), 3) := by decide +kernel
theorem dX3_ofGuest_37 : decode cX3_ofGuest 37 = .ok (.iload_n 2, 1) := by decide +kernel
theorem dX3_ofGuest_38 : decode cX3_ofGuest 38 = .ok (.ireturn, 1) := by decide +kernel
theorem dX3_takeFrom_0 : decode cX3_takeFrom 0 = .ok (.aload_n 0, 1) := by decide +kernel
theorem dX3_takeFrom_1 : decode cX3_takeFrom 1 = .ok (.getfield 9, 3) := by decide +kernel
theorem dX3_takeFrom_4 : decode cX3_takeFrom 4 = .ok (.iload_n 1, 1) := by decide +kernel
theorem dX3_takeFrom_5 : decode cX3_takeFrom 5 = .ok (.iaload, 1) := by decide +kernel
theorem dX3_takeFrom_6 : decode cX3_takeFrom 6 = .ok (.iload_n 2, 1) := by decide +kernel
theorem dX3_takeFrom_7 : decode cX3_takeFrom 7 = .ok (.if_icmp .eq 5, 3) := by decide +kernel
theorem dX3_takeFrom_10 : decode cX3_takeFrom 10 = .ok (.iconst 0, 1) := by decide +kernel
theorem dX3_takeFrom_11 : decode cX3_takeFrom 11 = .ok (.ireturn, 1) := by decide +kernel
theorem dX3_takeFrom_12 : decode cX3_takeFrom 12 = .ok (.aload_n 0, 1) := by decide +kernel
theorem dX3_takeFrom_13 : decode cX3_takeFrom 13 = .ok (.getfield 18, 3) := by decide +kernel
theorem dX3_takeFrom_16 : decode cX3_takeFrom 16 = .ok (.iload_n 1, 1) := by decide +kernel
theorem dX3_takeFrom_17 : decode cX3_takeFrom 17 = .ok (.iaload, 1) := by decide +kernel
theorem dX3_takeFrom_18 : decode cX3_takeFrom 18 = .ok (.iload_n 3, 1) := by decide +kernel
theorem dX3_takeFrom_19 : decode cX3_takeFrom 19 = .ok (.invokestatic 25, 3) := by decide +kernel
theorem dX3_takeFrom_22 : decode cX3_takeFrom 22 = .ok (.istore 4, 2) := by decide +kernel
theorem dX3_takeFrom_24 : decode cX3_takeFrom 24 = .ok (.aload_n 0, 1) := by decide +kernel
theorem dX3_takeFrom_25 : decode cX3_takeFrom 25 = .ok (.getfield 18, 3) := by decide +kernel
theorem dX3_takeFrom_28 : decode cX3_takeFrom 28 = .ok (.iload_n 1, 1) := by decide +kernel
theorem dX3_takeFrom_29 : decode cX3_takeFrom 29 = .ok (.dup2, 1) := by decide +kernel
theorem dX3_takeFrom_30 : decode cX3_takeFrom 30 = .ok (.iaload, 1) := by decide +kernel
theorem dX3_takeFrom_31 : decode cX3_takeFrom 31 = .ok (.iload 4, 2) := by decide +kernel
theorem dX3_takeFrom_33 : decode cX3_takeFrom 33 = .ok (.isub, 1) := by decide +kernel
theorem dX3_takeFrom_34 : decode cX3_takeFrom 34 = .ok (.iastore, 1) := by decide +kernel
theorem dX3_takeFrom_35 : decode cX3_takeFrom 35 = .ok (.iload 4, 2) := by decide +kernel
theorem dX3_takeFrom_37 : decode cX3_takeFrom 37 = .ok (.ireturn, 1) := by decide +kernel
theorem dX4_init_0 : decode cX4_init 0 = .ok (.aload_n 0, 1) := by decide +kernel
theorem dX4_init_1 : decode cX4_init 1 = .ok (.invokespecial 3, 3) := by decide +kernel
theorem dX4_init_4 : decode cX4_init 4 = .ok (.aload_n 0, 1) := by decide +kernel
theorem dX4_init_5 : decode cX4_init 5 = .ok (.bipush 8, 2) := by decide +kernel
theorem dX4_init_7 : decode cX4_init 7 = .ok (.newarray .int, 2) := by decide +kernel
theorem dX4_init_9 : decode cX4_init 9 = .ok (.putfield 9, 3) := by decide +kernel
theorem dX4_init_12 : decode cX4_init 12 = .ok (.aload_n 0, 1) := by decide +kernel
theorem dX4_init_13 : decode cX4_init 13 = .ok (.bipush 8, 2) := by decide +kernel
theorem dX4_init_15 : decode cX4_init 15 = .ok (.newarray .int, 2) := by decide +kernel
theorem dX4_init_17 : decode cX4_init 17 = .ok (.putfield 15, 3) := by decide +kernel
theorem dX4_init_20 : decode cX4_init 20 = .ok (.aload_n 0, 1) := by decide +kernel
theorem dX4_init_21 : decode cX4_init 21 = .ok (.bipush 8, 2) := by decide +kernel
theorem dX4_init_23 : decode cX4_init 23 = .ok (.newarray .int, 2) := by decide +kernel
theorem dX4_init_25 : decode cX4_init 25 = .ok (.putfield 18, 3) := by decide +kernel
theorem dX4_init_28 : decode cX4_init 28 = .ok (.iconst 0, 1) := by decide +kernel
theorem dX4_init_29 : decode cX4_init 29 = .ok (.istore_n 1, 1) := by decide +kernel
theorem dX4_init_30 : decode cX4_init 30 = .ok (.iload_n 1, 1) := by decide +kernel
theorem dX4_init_31 : decode cX4_init 31 = .ok (.bipush 8, 2) := by decide +kernel
theorem dX4_init_33 : decode cX4_init 33 = .ok (.if_icmp .ge 17, 3) := by decide +kernel
theorem dX4_init_36 : decode cX4_init 36 = .ok (.aload_n 0, 1) := by decide +kernel
theorem dX4_init_37 : decode cX4_init 37 = .ok (.getfield 15, 3) := by decide +kernel
theorem dX4_init_40 : decode cX4_init 40 = .ok (.iload_n 1, 1) := by decide +kernel
theorem dX4_init_41 : decode cX4_init 41 = .ok (.bipush 10, 2) := by decide +kernel
theorem dX4_init_43 : decode cX4_init 43 = .ok (.iastore, 1) := by decide +kernel
theorem dX4_init_44 : decode cX4_init 44 = .ok (.iinc 1 1, 3) := by decide +kernel
theorem dX4_init_47 : decode cX4_init 47 = .ok (.goto (-17), 3) := by decide +kernel
theorem dX4_init_50 : decode cX4_init 50 = .ok (.return_, 1) := by decide +kernel
theorem dX4_row_0 : decode cX4_row 0 = .ok (.iload_n 0, 1) := by decide +kernel
theorem dX4_row_1 : decode cX4_row 1 = .ok (.iconst 2, 1) := by decide +kernel
theorem dX4_row_2 : decode cX4_row 2 = .ok (.imul, 1) := by decide +kernel
theorem dX4_row_3 : decode cX4_row 3 = .ok (.iload_n 1, 1) := by decide +kernel
theorem dX4_row_4 : decode cX4_row 4 = .ok (.iadd, 1) := by decide +kernel
theorem dX4_row_5 : decode cX4_row 5 = .ok (.ireturn, 1) := by decide +kernel
set_option maxRecDepth 20000 in
theorem ggX4_countOf_X4_row : GoodIn wsX4_countOf wsX4_row := goodIn_r _ [5] (by decide +kernel) (by decide +kernel)
set_option maxRecDepth 20000 in
theorem gX4_countOf_X4_row : GoodIn wsX4_countOf (va_wsS RX4 21 yX4_row wsX4_row) := goodIn_app (goodIn_of _ (by decide +kernel)) ggX4_countOf_X4_row
theorem dX4_countOf_0 : decode cX4_countOf 0 = .ok (.aload_n 0, 1) := by decide +kernel
theorem dX4_countOf_1 : decode cX4_countOf 1 = .ok (.getfield 9, 3) := by decide +kernel
theorem dX4_countOf_4 : decode cX4_countOf 4 = .ok (.iload_n 1, 1) := by decide +kernel
theorem dX4_countOf_5 : decode cX4_countOf 5 = .ok (.iload_n 2, 1) := by decide +kernel
theorem dX4_countOf_6 : decode cX4_countOf 6 = .ok (.invokestatic 21, 3) := by decide +kernel
theorem dX4_countOf_9 : decode cX4_countOf 9 = .ok (.iaload, 1) := by decide +kernel
theorem dX4_countOf_10 : decode cX4_countOf 10 = .ok (.ireturn, 1) := by decide +kernel
set_option maxRecDepth 20000 in
theorem ggX4_priceOf_X4_row : GoodIn wsX4_priceOf wsX4_row := goodIn_r _ [5] (by decide +kernel) (by decide +kernel)
set_option maxRecDepth 20000 in
theorem gX4_priceOf_X4_row : GoodIn wsX4_priceOf (va_wsS RX4 21 yX4_row wsX4_row) := goodIn_app (goodIn_of _ (by decide +kernel)) ggX4_priceOf_X4_row
theorem dX4_priceOf_0 : decode cX4_priceOf 0 = .ok (.aload_n 0, 1) := by decide +kernel
theorem dX4_priceOf_1 : decode cX4_priceOf 1 = .ok (.getfield 15, 3) := by decide +kernel
theorem dX4_priceOf_4 : decode cX4_priceOf 4 = .ok (.iload_n 1, 1) := by decide +kernel
theorem dX4_priceOf_5 : decode cX4_priceOf 5 = .ok (.iload_n 2, 1) := by decide +kernel
theorem dX4_priceOf_6 : decode cX4_priceOf 6 = .ok (.invokestatic 21, 3) := by decide +kernel
theorem dX4_priceOf_9 : decode cX4_priceOf 9 = .ok (.iaload, 1) := by decide +kernel
theorem dX4_priceOf_10 : decode cX4_priceOf 10 = .ok (.ireturn, 1) := by decide +kernel
set_option maxRecDepth 20000 in
theorem ggX4_sleepersOf_X4_row : GoodIn wsX4_sleepersOf wsX4_row := goodIn_r _ [5] (by decide +kernel) (by decide +kernel)
set_option maxRecDepth 20000 in
theorem gX4_sleepersOf_X4_row : GoodIn wsX4_sleepersOf (va_wsS RX4 21 yX4_row wsX4_row) := goodIn_app (goodIn_of _ (by decide +kernel)) ggX4_sleepersOf_X4_row
theorem dX4_sleepersOf_0 : decode cX4_sleepersOf 0 = .ok (.aload_n 0, 1) := by decide +kernel
theorem dX4_sleepersOf_1 : decode cX4_sleepersOf 1 = .ok (.getfield 18, 3) := by decide +kernel
theorem dX4_sleepersOf_4 : decode cX4_sleepersOf 4 = .ok (.iload_n 1, 1) := by decide +kernel
theorem dX4_sleepersOf_5 : decode cX4_sleepersOf 5 = .ok (.iload_n 2, 1) := by decide +kernel
theorem dX4_sleepersOf_6 : decode cX4_sleepersOf 6 = .ok (.invokestatic 21, 3) := by decide +kernel
theorem dX4_sleepersOf_9 : decode cX4_sleepersOf 9 = .ok (.iaload, 1) := by decide +kernel
theorem dX4_sleepersOf_10 : decode cX4_sleepersOf 10 = .ok (.ireturn, 1) := by decide +kernel
set_option maxRecDepth 20000 in
theorem ggX4_freeOf_X4_countOf : GoodIn wsX4_freeOf wsX4_countOf := goodIn_r _ [9, 10, 11, 12, 8, 13, 19, 20, 21] (by decide +kernel) (by decide +kernel)
set_option maxRecDepth 20000 in
theorem gX4_freeOf_X4_countOf : GoodIn wsX4_freeOf (wsV RX4 25 RX4 yX4_countOf wsX4_countOf) := goodIn_app (goodIn_of _ (by decide +kernel)) ggX4_freeOf_X4_countOf
set_option maxRecDepth 20000 in
theorem ggX4_freeOf_X4_sleepersOf : GoodIn wsX4_freeOf wsX4_sleepersOf := goodIn_r _ [17, 18, 11, 12, 8, 13, 19, 20, 21] (by decide +kernel) (by decide +kernel)
set_option maxRecDepth 20000 in
theorem gX4_freeOf_X4_sleepersOf : GoodIn wsX4_freeOf (wsV RX4 28 RX4 yX4_sleepersOf wsX4_sleepersOf) := goodIn_app (goodIn_of _ (by decide +kernel)) ggX4_freeOf_X4_sleepersOf
theorem dX4_freeOf_0 : decode cX4_freeOf 0 = .ok (.iconst 0, 1) := by decide +kernel
theorem dX4_freeOf_1 : decode cX4_freeOf 1 = .ok (.aload_n 0, 1) := by decide +kernel
theorem dX4_freeOf_2 : decode cX4_freeOf 2 = .ok (.iload_n 1, 1) := by decide +kernel
theorem dX4_freeOf_3 : decode cX4_freeOf 3 = .ok (.iload_n 2, 1) := by decide +kernel
theorem dX4_freeOf_4 : decode cX4_freeOf 4 = .ok (.invokevirtual 25, 3) := by decide +kernel
theorem dX4_freeOf_7 : decode cX4_freeOf 7 = .ok (.aload_n 0, 1) := by decide +kernel
theorem dX4_freeOf_8 : decode cX4_freeOf 8 = .ok (.iload_n 1, 1) := by decide +kernel
theorem dX4_freeOf_9 : decode cX4_freeOf 9 = .ok (.iload_n 2, 1) := by decide +kernel
theorem dX4_freeOf_10 : decode cX4_freeOf 10 = .ok (.invokevirtual 28, 3) := by decide +kernel
theorem dX4_freeOf_13 : decode cX4_freeOf 13 = .ok (.isub, 1) := by decide +kernel
theorem dX4_freeOf_14 : decode cX4_freeOf 14 = .ok (.invokestatic 31, 3) := by decide +kernel
theorem dX4_freeOf_17 : decode cX4_freeOf 17 = .ok (.ireturn, 1) := by decide +kernel
set_option maxRecDepth 20000 in
theorem ggX4_change_X4_row : GoodIn wsX4_change wsX4_row := goodIn_r _ [6] (by decide +kernel) (by decide +kernel)
set_option maxRecDepth 20000 in
theorem gX4_change_X4_row : GoodIn wsX4_change (va_wsS RX4 21 yX4_row wsX4_row) := goodIn_app (goodIn_of _ (by decide +kernel)) ggX4_change_X4_row
theorem dX4_change_0 : decode cX4_change 0 = .ok (.iload_n 1, 1) := by decide +kernel
theorem dX4_change_1 : decode cX4_change 1 = .ok (.iload_n 2, 1) := by decide +kernel
theorem dX4_change_2 : decode cX4_change 2 = .ok (.invokestatic 21, 3) := by decide +kernel
theorem dX4_change_5 : decode cX4_change 5 = .ok (.istore 5, 2) := by decide +kernel
theorem dX4_change_7 : decode cX4_change 7 = .ok (.aload_n 0, 1) := by decide +kernel
theorem dX4_change_8 : decode cX4_change 8 = .ok (.getfield 9, 3) := by decide +kernel
theorem dX4_change_11 : decode cX4_change 11 = .ok (.iload 5, 2) := by decide +kernel
theorem dX4_change_13 : decode cX4_change 13 = .ok (.iaload, 1) := by decide +kernel
theorem dX4_change_14 : decode cX4_change 14 = .ok (.istore 6, 2) := by decide +kernel
theorem dX4_change_16 : decode cX4_change 16 = .ok (.aload_n 0, 1) := by decide +kernel
theorem dX4_change_17 : decode cX4_change 17 = .ok (.getfield 9, 3) := by decide +kernel
theorem dX4_change_20 : decode cX4_change 20 = .ok (.iload 5, 2) := by decide +kernel
theorem dX4_change_22 : decode cX4_change 22 = .ok (.iload_n 3, 1) := by decide +kernel
theorem dX4_change_23 : decode cX4_change 23 = .ok (.iastore, 1) := by decide +kernel
theorem dX4_change_24 : decode cX4_change 24 = .ok (.aload_n 0, 1) := by decide +kernel
theorem dX4_change_25 : decode cX4_change 25 = .ok (.getfield 15, 3) := by decide +kernel
theorem dX4_change_28 : decode cX4_change 28 = .ok (.iload 5, 2) := by decide +kernel
theorem dX4_change_30 : decode cX4_change 30 = .ok (.iload 4, 2) := by decide +kernel
theorem dX4_change_32 : decode cX4_change 32 = .ok (.iastore, 1) := by decide +kernel
theorem dX4_change_33 : decode cX4_change 33 = .ok (.iload 6, 2) := by decide +kernel
theorem dX4_change_35 : decode cX4_change 35 = .ok (.ireturn, 1) := by decide +kernel
set_option maxRecDepth 20000 in
theorem ggX4_addSleeper_X4_row : GoodIn wsX4_addSleeper wsX4_row := goodIn_r _ [5] (by decide +kernel) (by decide +kernel)
set_option maxRecDepth 20000 in
theorem gX4_addSleeper_X4_row : GoodIn wsX4_addSleeper (va_wsS RX4 21 yX4_row wsX4_row) := goodIn_app (goodIn_of _ (by decide +kernel)) ggX4_addSleeper_X4_row
theorem dX4_addSleeper_0 : decode cX4_addSleeper 0 = .ok (.aload_n 0, 1) := by decide +kernel
theorem dX4_addSleeper_1 : decode cX4_addSleeper 1 = .ok (.getfield 18, 3) := by decide +kernel
theorem dX4_addSleeper_4 : decode cX4_addSleeper 4 = .ok (.iload_n 1, 1) := by decide +kernel
theorem dX4_addSleeper_5 : decode cX4_addSleeper 5 = .ok (.iload_n 2, 1) := by decide +kernel
theorem dX4_addSleeper_6 : decode cX4_addSleeper 6 = .ok (.invokestatic 21, 3) := by decide +kernel
theorem dX4_addSleeper_9 : decode cX4_addSleeper 9 = .ok (.dup2, 1) := by decide +kernel
theorem dX4_addSleeper_10 : decode cX4_addSleeper 10 = .ok (.iaload, 1) := by decide +kernel
theorem dX4_addSleeper_11 : decode cX4_addSleeper 11 = .ok (.iconst 1, 1) := by decide +kernel
theorem dX4_addSleeper_12 : decode cX4_addSleeper 12 = .ok (.iadd, 1) := by decide +kernel
theorem dX4_addSleeper_13 : decode cX4_addSleeper 13 = .ok (.iastore, 1) := by decide +kernel
theorem dX4_addSleeper_14 : decode cX4_addSleeper 14 = .ok (.return_, 1) := by decide +kernel
theorem dX4_endNight_0 : decode cX4_endNight 0 = .ok (.iconst 0, 1) := by decide +kernel
theorem dX4_endNight_1 : decode cX4_endNight 1 = .ok (.istore_n 1, 1) := by decide +kernel
theorem dX4_endNight_2 : decode cX4_endNight 2 = .ok (.iload_n 1, 1) := by decide +kernel
theorem dX4_endNight_3 : decode cX4_endNight 3 = .ok (.bipush 8, 2) := by decide +kernel
theorem dX4_endNight_5 : decode cX4_endNight 5 = .ok (.if_icmp .ge 16, 3) := by decide +kernel
theorem dX4_endNight_8 : decode cX4_endNight 8 = .ok (.aload_n 0, 1) := by decide +kernel
theorem dX4_endNight_9 : decode cX4_endNight 9 = .ok (.getfield 18, 3) := by decide +kernel
theorem dX4_endNight_12 : decode cX4_endNight 12 = .ok (.iload_n 1, 1) := by decide +kernel
theorem dX4_endNight_13 : decode cX4_endNight 13 = .ok (.iconst 0, 1) := by decide +kernel
theorem dX4_endNight_14 : decode cX4_endNight 14 = .ok (.iastore, 1) := by decide +kernel
theorem dX4_endNight_15 : decode cX4_endNight 15 = .ok (.iinc 1 1, 3) := by decide +kernel
theorem dX4_endNight_18 : decode cX4_endNight 18 = .ok (.goto (-16), 3) := by decide +kernel
theorem dX4_endNight_21 : decode cX4_endNight 21 = .ok (.return_, 1) := by decide +kernel
set_option maxRecDepth 20000 in
theorem ggX5_init_X4_init : GoodIn wsX5_init wsX4_init := goodIn_r _ [27, 28, 2, 3, 29, 30, 31, 32, 70, 71, 72] (by decide +kernel) (by decide +kernel)
set_option maxRecDepth 20000 in
theorem gX5_init_X4_init : GoodIn wsX5_init (wsX4_init) := ggX5_init_X4_init
set_option maxRecDepth 20000 in
theorem ggX5_init_X2_init : GoodIn wsX5_init wsX2_init := goodIn_r _ [35, 36, 2, 3, 29, 37, 38, 39, 40, 41, 42, 43, 79, 80, 81, 82, 83, 84, 85] (by decide +kernel) (by decide +kernel)
set_option maxRecDepth 20000 in
theorem gX5_init_X2_init : GoodIn wsX5_init (wsX2_init) := ggX5_init_X2_init
set_option maxRecDepth 20000 in
theorem ggX5_init_X0_init : GoodIn wsX5_init wsX0_init := goodIn_r _ [46, 47, 2, 3, 29, 48, 49, 50, 51, 52, 53, 54, 55, 86, 87, 88, 89, 90, 91, 92] (by decide +kernel) (by decide +kernel)
set_option maxRecDepth 20000 in
theorem gX5_init_X0_init : GoodIn wsX5_init (wsX0_init) := ggX5_init_X0_init
set_option maxRecDepth 20000 in
theorem ggX5_init_X3_init : GoodIn wsX5_init wsX3_init := goodIn_r _ [58, 59, 2, 3, 29, 60, 61, 62, 63, 93, 94, 95, 96] (by decide +kernel) (by decide +kernel)
set_option maxRecDepth 20000 in
theorem gX5_init_X3_init : GoodIn wsX5_init (wsX3_init) := ggX5_init_X3_init
set_option maxRecDepth 20000 in
theorem ggX5_init_X1_init : GoodIn wsX5_init wsX1_init := goodIn_r _ [66, 67, 2, 3, 29, 68, 69, 97, 98] (by decide +kernel) (by decide +kernel)
set_option maxRecDepth 20000 in
theorem gX5_init_X1_init : GoodIn wsX5_init (wsX1_init) := ggX5_init_X1_init
theorem dX5_init_0 : decode cX5_init 0 = .ok (.aload_n 0, 1) := by decide +kernel
theorem dX5_init_1 : decode cX5_init 1 = .ok (.invokespecial 1, 3) := by decide +kernel
theorem dX5_init_4 : decode cX5_init 4 = .ok (.aload_n 0, 1) := by decide +kernel
theorem dX5_init_5 : decode cX5_init 5 = .ok (.new 7, 3) := by decide +kernel
theorem dX5_init_8 : decode cX5_init 8 = .ok (.dup, 1) := by decide +kernel
theorem dX5_init_9 : decode cX5_init 9 = .ok (.invokespecial 9, 3) := by decide +kernel
theorem dX5_init_12 : decode cX5_init 12 = .ok (.putfield 10, 3) := by decide +kernel
theorem dX5_init_15 : decode cX5_init 15 = .ok (.aload_n 0, 1) := by decide +kernel
theorem dX5_init_16 : decode cX5_init 16 = .ok (.new 16, 3) := by decide +kernel
theorem dX5_init_19 : decode cX5_init 19 = .ok (.dup, 1) := by decide +kernel
theorem dX5_init_20 : decode cX5_init 20 = .ok (.invokespecial 18, 3) := by decide +kernel
theorem dX5_init_23 : decode cX5_init 23 = .ok (.putfield 19, 3) := by decide +kernel
theorem dX5_init_26 : decode cX5_init 26 = .ok (.aload_n 0, 1) := by decide +kernel
theorem dX5_init_27 : decode cX5_init 27 = .ok (.new 23, 3) := by decide +kernel
theorem dX5_init_30 : decode cX5_init 30 = .ok (.dup, 1) := by decide +kernel
theorem dX5_init_31 : decode cX5_init 31 = .ok (.invokespecial 25, 3) := by decide +kernel
theorem dX5_init_34 : decode cX5_init 34 = .ok (.putfield 26, 3) := by decide +kernel
theorem dX5_init_37 : decode cX5_init 37 = .ok (.aload_n 0, 1) := by decide +kernel
theorem dX5_init_38 : decode cX5_init 38 = .ok (.new 30, 3) := by decide +kernel
theorem dX5_init_41 : decode cX5_init 41 = .ok (.dup, 1) := by decide +kernel
theorem dX5_init_42 : decode cX5_init 42 = .ok (.invokespecial 32, 3) := by decide +kernel
theorem dX5_init_45 : decode cX5_init 45 = .ok (.putfield 33, 3) := by decide +kernel
theorem dX5_init_48 : decode cX5_init 48 = .ok (.aload_n 0, 1) := by decide +kernel
theorem dX5_init_49 : decode cX5_init 49 = .ok (.new 37, 3) := by decide +kernel
theorem dX5_init_52 : decode cX5_init 52 = .ok (.dup, 1) := by decide +kernel
theorem dX5_init_53 : decode cX5_init 53 = .ok (.invokespecial 39, 3) := by decide +kernel
theorem dX5_init_56 : decode cX5_init 56 = .ok (.putfield 40, 3) := by decide +kernel
theorem dX5_init_59 : decode cX5_init 59 = .ok (.aload_n 0, 1) := by decide +kernel
theorem dX5_init_60 : decode cX5_init 60 = .ok (.iconst 0, 1) := by decide +kernel
theorem dX5_init_61 : decode cX5_init 61 = .ok (.putfield 44, 3) := by decide +kernel
theorem dX5_init_64 : decode cX5_init 64 = .ok (.return_, 1) := by decide +kernel
set_option maxRecDepth 20000 in
theorem ggX5_setRooms_X5_checkInn : GoodIn wsX5_setRooms wsX5_checkInn := goodIn_ca (goodIn_r _ [5, 6, 7] (by decide +kernel) (by decide +kernel)) (goodIn_sub (fun _ h => List.mem_cons_of_mem _ (List.mem_append_left _ (List.mem_append_right _ h))) (by decide +kernel))
set_option maxRecDepth 20000 in
theorem gX5_setRooms_X5_checkInn : GoodIn wsX5_setRooms (va_wsS RX5 48 yX5_checkInn wsX5_checkInn) := goodIn_app (goodIn_of _ (by decide +kernel)) ggX5_setRooms_X5_checkInn
set_option maxRecDepth 20000 in
theorem ggX5_setRooms_X5_checkKind : GoodIn wsX5_setRooms wsX5_checkKind := goodIn_ca (goodIn_r _ [10, 6, 7] (by decide +kernel) (by decide +kernel)) (goodIn_sub (fun _ h => List.mem_cons_of_mem _ (List.mem_append_left _ (List.mem_append_right _ h))) (by decide +kernel))
set_option maxRecDepth 20000 in
theorem gX5_setRooms_X5_checkKind : GoodIn wsX5_setRooms (va_wsS RX5 52 yX5_checkKind wsX5_checkKind) := goodIn_app (goodIn_of _ (by decide +kernel)) ggX5_setRooms_X5_checkKind
set_option maxRecDepth 20000 in
theorem ggX5_setRooms_X5_checkRange : GoodIn wsX5_setRooms wsX5_checkRange := goodIn_ca (goodIn_r _ [13, 14, 15] (by decide +kernel) (by decide +kernel)) (goodIn_sub (fun _ h => List.mem_cons_of_mem _ (List.mem_append_right _ h)) (by decide +kernel))
set_option maxRecDepth 20000 in
theorem gX5_setRooms_X5_checkRange : GoodIn wsX5_setRooms (va_wsS RX5 55 yX5_checkRange wsX5_checkRange) := goodIn_app (goodIn_of _ (by decide +kernel)) ggX5_setRooms_X5_checkRange
set_option maxRecDepth 20000 in
theorem ggX5_setRooms_X4_change : GoodIn wsX5_setRooms wsX4_change := goodIn_r _ [20, 21, 22, 23, 24, 19, 25, 32, 33, 34] (by decide +kernel) (by decide +kernel)
set_option maxRecDepth 20000 in
theorem gX5_setRooms_X4_change : GoodIn wsX5_setRooms (wsV RX5 59 RX4 yX4_change wsX4_change) := goodIn_app (goodIn_of _ (by decide +kernel)) ggX5_setRooms_X4_change
theorem dX5_setRooms_0 : decode cX5_setRooms 0 = .ok (.iload_n 1, 1) := by decide +kernel
theorem dX5_setRooms_1 : decode cX5_setRooms 1 = .ok (.invokestatic 48, 3) := by decide +kernel
theorem dX5_setRooms_4 : decode cX5_setRooms 4 = .ok (.iload_n 2, 1) := by decide +kernel
theorem dX5_setRooms_5 : decode cX5_setRooms 5 = .ok (.invokestatic 52, 3) := by decide +kernel
theorem dX5_setRooms_8 : decode cX5_setRooms 8 = .ok (.iload_n 3, 1) := by decide +kernel
theorem dX5_setRooms_9 : decode cX5_setRooms 9 = .ok (.iconst 0, 1) := by decide +kernel
theorem dX5_setRooms_10 : decode cX5_setRooms 10 = .ok (.bipush 10, 2) := by decide +kernel
theorem dX5_setRooms_12 : decode cX5_setRooms 12 = .ok (.invokestatic 55, 3) := by decide +kernel
theorem dX5_setRooms_15 : decode cX5_setRooms 15 = .ok (.iload 4, 2) := by decide +kernel
theorem dX5_setRooms_17 : decode cX5_setRooms 17 = .ok (.iconst 1, 1) := by decide +kernel
theorem dX5_setRooms_18 : decode cX5_setRooms 18 = .ok (.bipush 100, 2) := by decide +kernel
theorem dX5_setRooms_20 : decode cX5_setRooms 20 = .ok (.invokestatic 55, 3) := by decide +kernel
theorem dX5_setRooms_23 : decode cX5_setRooms 23 = .ok (.aload_n 0, 1) := by decide +kernel
theorem dX5_setRooms_24 : decode cX5_setRooms 24 = .ok (.getfield 10, 3) := by decide +kernel
theorem dX5_setRooms_27 : decode cX5_setRooms 27 = .ok (.iload_n 1, 1) := by decide +kernel
theorem dX5_setRooms_28 : decode cX5_setRooms 28 = .ok (.iload_n 2, 1) := by decide +kernel
theorem dX5_setRooms_29 : decode cX5_setRooms 29 = .ok (.iload_n 3, 1) := by decide +kernel
theorem dX5_setRooms_30 : decode cX5_setRooms 30 = .ok (.iload 4, 2) := by decide +kernel
theorem dX5_setRooms_32 : decode cX5_setRooms 32 = .ok (.invokevirtual 59, 3) := by decide +kernel
theorem dX5_setRooms_35 : decode cX5_setRooms 35 = .ok (.ireturn, 1) := by decide +kernel
set_option maxRecDepth 20000 in
theorem ggX5_buyLinen_X5_checkInn : GoodIn wsX5_buyLinen wsX5_checkInn := goodIn_ca (goodIn_r _ [5, 6, 7] (by decide +kernel) (by decide +kernel)) (goodIn_sub (fun _ h => List.mem_cons_of_mem _ (List.mem_append_left _ (List.mem_append_right _ h))) (by decide +kernel))
set_option maxRecDepth 20000 in
theorem gX5_buyLinen_X5_checkInn : GoodIn wsX5_buyLinen (va_wsS RX5 48 yX5_checkInn wsX5_checkInn) := goodIn_app (goodIn_of _ (by decide +kernel)) ggX5_buyLinen_X5_checkInn
set_option maxRecDepth 20000 in
theorem ggX5_buyLinen_X5_checkRange : GoodIn wsX5_buyLinen wsX5_checkRange := goodIn_ca (goodIn_r _ [10, 11, 12] (by decide +kernel) (by decide +kernel)) (goodIn_sub (fun _ h => List.mem_cons_of_mem _ (List.mem_append_right _ h)) (by decide +kernel))
set_option maxRecDepth 20000 in
theorem gX5_buyLinen_X5_checkRange : GoodIn wsX5_buyLinen (va_wsS RX5 55 yX5_checkRange wsX5_checkRange) := goodIn_app (goodIn_of _ (by decide +kernel)) ggX5_buyLinen_X5_checkRange
set_option maxRecDepth 20000 in
theorem ggX5_buyLinen_X2_addClean : GoodIn wsX5_buyLinen wsX2_addClean := goodIn_r _ [17, 18, 25, 26, 27, 28, 29, 30, 31] (by decide +kernel) (by decide +kernel)
set_option maxRecDepth 20000 in
theorem gX5_buyLinen_X2_addClean : GoodIn wsX5_buyLinen (wsV RX5 63 RX2 yX2_addClean wsX2_addClean) := goodIn_app (goodIn_of _ (by decide +kernel)) ggX5_buyLinen_X2_addClean
theorem dX5_buyLinen_0 : decode cX5_buyLinen 0 = .ok (.iload_n 1, 1) := by decide +kernel
theorem dX5_buyLinen_1 : decode cX5_buyLinen 1 = .ok (.invokestatic 48, 3) := by decide +kernel
theorem dX5_buyLinen_4 : decode cX5_buyLinen 4 = .ok (.iload_n 2, 1) := by decide +kernel
theorem dX5_buyLinen_5 : decode cX5_buyLinen 5 = .ok (.iconst 1, 1) := by decide +kernel
theorem dX5_buyLinen_6 : decode cX5_buyLinen 6 = .ok (.bipush 20, 2) := by decide +kernel
theorem dX5_buyLinen_8 : decode cX5_buyLinen 8 = .ok (.invokestatic 55, 3) := by decide +kernel
theorem dX5_buyLinen_11 : decode cX5_buyLinen 11 = .ok (.aload_n 0, 1) := by decide +kernel
theorem dX5_buyLinen_12 : decode cX5_buyLinen 12 = .ok (.getfield 19, 3) := by decide +kernel
theorem dX5_buyLinen_15 : decode cX5_buyLinen 15 = .ok (.iload_n 1, 1) := by decide +kernel
theorem dX5_buyLinen_16 : decode cX5_buyLinen 16 = .ok (.iload_n 2, 1) := by decide +kernel
theorem dX5_buyLinen_17 : decode cX5_buyLinen 17 = .ok (.invokevirtual 63, 3) := by decide +kernel
theorem dX5_buyLinen_20 : decode cX5_buyLinen 20 = .ok (.ireturn, 1) := by decide +kernel
set_option maxRecDepth 20000 in
theorem ggX5_setBroken_X2_changeBroken : GoodIn wsX5_setBroken wsX2_changeBroken := goodIn_r _ [6, 7, 14, 15, 16, 17, 18, 19, 20] (by decide +kernel) (by decide +kernel)
set_option maxRecDepth 20000 in
theorem gX5_setBroken_X2_changeBroken : GoodIn wsX5_setBroken (wsV RX5 67 RX2 yX2_changeBroken wsX2_changeBroken) := goodIn_app (goodIn_of _ (by decide +kernel)) ggX5_setBroken_X2_changeBroken
theorem dX5_setBroken_0 : decode cX5_setBroken 0 = .ok (.aload_n 0, 1) := by decide +kernel
theorem dX5_setBroken_1 : decode cX5_setBroken 1 = .ok (.getfield 19, 3) := by decide +kernel
theorem dX5_setBroken_4 : decode cX5_setBroken 4 = .ok (.iload_n 1, 1) := by decide +kernel
theorem dX5_setBroken_5 : decode cX5_setBroken 5 = .ok (.invokevirtual 67, 3) := by decide +kernel
theorem dX5_setBroken_8 : decode cX5_setBroken 8 = .ok (.ireturn, 1) := by decide +kernel
set_option maxRecDepth 20000 in
theorem ggX5_book_X5_checkGuest : GoodIn wsX5_book wsX5_checkGuest := goodIn_ca (goodIn_r _ [8, 9, 10] (by decide +kernel) (by decide +kernel)) (goodIn_sub (fun _ h => List.mem_cons_of_mem _ (List.mem_append_left _ (List.mem_append_right _ h))) (by decide +kernel))
set_option maxRecDepth 20000 in
theorem gX5_book_X5_checkGuest : GoodIn wsX5_book (va_wsS RX5 71 yX5_checkGuest wsX5_checkGuest) := goodIn_app (goodIn_of _ (by decide +kernel)) ggX5_book_X5_checkGuest
set_option maxRecDepth 20000 in
theorem ggX5_book_X5_checkInn : GoodIn wsX5_book wsX5_checkInn := goodIn_ca (goodIn_r _ [13, 9, 10] (by decide +kernel) (by decide +kernel)) (goodIn_sub (fun _ h => List.mem_cons_of_mem _ (List.mem_append_left _ (List.mem_append_right _ h))) (by decide +kernel))
set_option maxRecDepth 20000 in
theorem gX5_book_X5_checkInn : GoodIn wsX5_book (va_wsS RX5 48 yX5_checkInn wsX5_checkInn) := goodIn_app (goodIn_of _ (by decide +kernel)) ggX5_book_X5_checkInn
set_option maxRecDepth 20000 in
theorem ggX5_book_X5_checkKind : GoodIn wsX5_book wsX5_checkKind := goodIn_ca (goodIn_r _ [16, 9, 10] (by decide +kernel) (by decide +kernel)) (goodIn_sub (fun _ h => List.mem_cons_of_mem _ (List.mem_append_left _ (List.mem_append_right _ h))) (by decide +kernel))
set_option maxRecDepth 20000 in
theorem gX5_book_X5_checkKind : GoodIn wsX5_book (va_wsS RX5 52 yX5_checkKind wsX5_checkKind) := goodIn_app (goodIn_of _ (by decide +kernel)) ggX5_book_X5_checkKind
set_option maxRecDepth 20000 in
theorem ggX5_book_X5_checkRange : GoodIn wsX5_book wsX5_checkRange := goodIn_ca (goodIn_r _ [19, 20, 21] (by decide +kernel) (by decide +kernel)) (goodIn_sub (fun _ h => List.mem_cons_of_mem _ (List.mem_append_right _ h)) (by decide +kernel))
set_option maxRecDepth 20000 in
theorem gX5_book_X5_checkRange : GoodIn wsX5_book (va_wsS RX5 55 yX5_checkRange wsX5_checkRange) := goodIn_app (goodIn_of _ (by decide +kernel)) ggX5_book_X5_checkRange
set_option maxRecDepth 20000 in
theorem ggX5_book_X0_isFull : GoodIn wsX5_book wsX0_isFull := goodIn_r _ [26, 27, 70, 71, 72, 73, 74, 75, 76] (by decide +kernel) (by decide +kernel)
set_option maxRecDepth 20000 in
theorem gX5_book_X0_isFull : GoodIn wsX5_book (wsV RX5 74 RX0 yX0_isFull wsX0_isFull) := goodIn_app (goodIn_of _ (by decide +kernel)) ggX5_book_X0_isFull
set_option maxRecDepth 20000 in
theorem ggX5_book_X5_takesMore : GoodIn wsX5_book wsX5_takesMore := goodIn_r _ [31, 4, 32, 33, 34, 35, 25, 36, 27, 37, 38, 39, 40, 41, 42, 43, 44, 45, 46, 47, 48, 49, 50, 51, 7, 52, 3, 53, 54, 55, 56, 57, 64, 65, 66, 67, 68, 69, 70, 71, 72, 73, 74, 75, 76, 77, 78, 79] (by decide +kernel) (by decide +kernel)
set_option maxRecDepth 20000 in
theorem gX5_book_X5_takesMore : GoodIn wsX5_book (wsV RX5 78 RX5 yX5_takesMore wsX5_takesMore) := goodIn_app (goodIn_of _ (by decide +kernel)) ggX5_book_X5_takesMore
set_option maxRecDepth 20000 in
theorem ggX5_book_X0_add : GoodIn wsX5_book wsX0_add := goodIn_r _ [61, 27, 62, 37, 38, 39, 63, 70, 71, 72, 73, 74, 75, 76] (by decide +kernel) (by decide +kernel)
set_option maxRecDepth 20000 in
theorem gX5_book_X0_add : GoodIn wsX5_book (wsV RX5 89 RX0 yX0_add wsX0_add) := goodIn_app (goodIn_of _ (by decide +kernel)) ggX5_book_X0_add
theorem dX5_book_0 : decode cX5_book 0 = .ok (.iload_n 1, 1) := by decide +kernel
theorem dX5_book_1 : decode cX5_book 1 = .ok (.invokestatic 71, 3) := by decide +kernel
theorem dX5_book_4 : decode cX5_book 4 = .ok (.iload_n 2, 1) := by decide +kernel
theorem dX5_book_5 : decode cX5_book 5 = .ok (.invokestatic 48, 3) := by decide +kernel
theorem dX5_book_8 : decode cX5_book 8 = .ok (.iload_n 3, 1) := by decide +kernel
theorem dX5_book_9 : decode cX5_book 9 = .ok (.invokestatic 52, 3) := by decide +kernel
theorem dX5_book_12 : decode cX5_book 12 = .ok (.iload 4, 2) := by decide +kernel
theorem dX5_book_14 : decode cX5_book 14 = .ok (.aload_n 0, 1) := by decide +kernel
theorem dX5_book_15 : decode cX5_book 15 = .ok (.getfield 44, 3) := by decide +kernel
theorem dX5_book_18 : decode cX5_book 18 = .ok (.aload_n 0, 1) := by decide +kernel
theorem dX5_book_19 : decode cX5_book 19 = .ok (.getfield 44, 3) := by decide +kernel
theorem dX5_book_22 : decode cX5_book 22 = .ok (.bipush 10, 2) := by decide +kernel
theorem dX5_book_24 : decode cX5_book 24 = .ok (.iadd, 1) := by decide +kernel
theorem dX5_book_25 : decode cX5_book 25 = .ok (.invokestatic 55, 3) := by decide +kernel
theorem dX5_book_28 : decode cX5_book 28 = .ok (.aload_n 0, 1) := by decide +kernel
theorem dX5_book_29 : decode cX5_book 29 = .ok (.getfield 26, 3) := by decide +kernel
theorem dX5_book_32 : decode cX5_book 32 = .ok (.invokevirtual 74, 3) := by decide +kernel
theorem dX5_book_35 : decode cX5_book 35 = .ok (.ifCond .ne 14, 3) := by decide +kernel
theorem dX5_book_38 : decode cX5_book 38 = .ok (.aload_n 0, 1) := by decide +kernel
theorem dX5_book_39 : decode cX5_book 39 = .ok (.iload_n 2, 1) := by decide +kernel
theorem dX5_book_40 : decode cX5_book 40 = .ok (.iload_n 3, 1) := by decide +kernel
theorem dX5_book_41 : decode cX5_book 41 = .ok (.iload 4, 2) := by decide +kernel
theorem dX5_book_43 : decode cX5_book 43 = .ok (.invokevirtual 78, 3) := by decide +kernel
theorem dX5_book_46 : decode cX5_book 46 = .ok (.ifCond .ne 13, 3) := by decide +kernel
theorem dX5_book_49 : decode cX5_book 49 = .ok (.new 82, 3) := by decide +kernel
theorem dX5_book_52 : decode cX5_book 52 = .ok (.dup, 1) := by decide +kernel
theorem dX5_book_53 : decode cX5_book 53 = .ok (.ldc 84, 2) := by decide +kernel
theorem dX5_book_55 : decode cX5_book 55 = .ok (.invokespecial 86, 3) := by decide +kernel
theorem dX5_book_58 : decode cX5_book 58 = .ok (.athrow, 1) := by decide +kernel
theorem dX5_book_59 : decode cX5_book 59 = .ok (.aload_n 0, 1) := by decide +kernel
theorem dX5_book_60 : decode cX5_book 60 = .ok (.getfield 26, 3) := by decide +kernel
theorem dX5_book_63 : decode cX5_book 63 = .ok (.iload_n 1, 1) := by decide +kernel
theorem dX5_book_64 : decode cX5_book 64 = .ok (.iload_n 2, 1) := by decide +kernel
theorem dX5_book_65 : decode cX5_book 65 = .ok (.iload_n 3, 1) := by decide +kernel
theorem dX5_book_66 : decode cX5_book 66 = .ok (.iload 4, 2) := by decide +kernel
theorem dX5_book_68 : decode cX5_book 68 = .ok (.invokevirtual 89, 3) := by decide +kernel
theorem dX5_book_71 : decode cX5_book 71 = .ok (.ireturn, 1) := by decide +kernel
set_option maxRecDepth 20000 in
theorem ggX5_come_X5_checkBooking : GoodIn wsX5_come wsX5_checkBooking := goodIn_ca (goodIn_r _ [13, 14, 15, 3, 16, 120, 121, 122, 123, 124, 125, 126, 127, 128, 129, 130, 131, 132] (by decide +kernel) (by decide +kernel)) (goodIn_sub (fun _ h => List.mem_cons_of_mem _ (List.mem_append_right _ h)) (by decide +kernel))
set_option maxRecDepth 20000 in
theorem gX5_come_X5_checkBooking : GoodIn wsX5_come (wsV RX5 92 RX5 yX5_checkBooking wsX5_checkBooking) := goodIn_app (goodIn_of _ (by decide +kernel)) ggX5_come_X5_checkBooking
set_option maxRecDepth 20000 in
theorem ggX5_come_X5_findInn : GoodIn wsX5_come wsX5_findInn := goodIn_r _ [20, 21, 22, 23, 24, 12, 25, 26, 27, 28, 29, 30, 31, 32, 33, 34, 35, 36, 37, 38, 39, 40, 41, 42, 43, 44, 45, 46, 47, 48, 49, 50, 51, 52, 53, 54, 55, 56, 57, 58, 59, 120, 121, 122, 123, 124, 125, 133, 134, 135, 136, 137, 138, 139, 140, 141, 142] (by decide +kernel) (by decide +kernel)
set_option maxRecDepth 20000 in
theorem gX5_come_X5_findInn : GoodIn wsX5_come (wsV RX5 111 RX5 yX5_findInn wsX5_findInn) := goodIn_app (goodIn_of _ (by decide +kernel)) ggX5_come_X5_findInn
set_option maxRecDepth 20000 in
theorem ggX5_come_X0_arrive : GoodIn wsX5_come wsX0_arrive := goodIn_r _ [64, 65, 66, 126, 127, 128, 129, 130, 131, 132] (by decide +kernel) (by decide +kernel)
set_option maxRecDepth 20000 in
theorem gX5_come_X0_arrive : GoodIn wsX5_come (wsV RX5 114 RX0 yX0_arrive wsX0_arrive) := goodIn_app (goodIn_of _ (by decide +kernel)) ggX5_come_X0_arrive
set_option maxRecDepth 20000 in
theorem ggX5_come_X5_putUp : GoodIn wsX5_come wsX5_putUp := goodIn_r _ [70, 3, 7, 8, 21, 71, 72, 73, 74, 75, 76, 36, 77, 78, 46, 47, 48, 79, 80, 81, 82, 83, 84, 85, 86, 87, 88, 89, 90, 91, 92, 93, 94, 95, 12, 96, 22, 54, 55, 56, 57, 58, 59, 97, 98, 99, 100, 101, 102, 103, 104, 105, 106, 107, 108, 109, 110, 53, 111, 112, 113, 114, 115, 116, 117, 118, 119, 120, 121, 122, 123, 124, 125, 126, 127, 128, 129, 130, 131, 132, 133, 134, 135, 143, 144, 136, 137, 138, 139, 140, 141, 142, 145, 146, 147, 148] (by decide +kernel) (by decide +kernel)
set_option maxRecDepth 20000 in
theorem gX5_come_X5_putUp : GoodIn wsX5_come (wsV RX5 118 RX5 yX5_putUp wsX5_putUp) := goodIn_app (goodIn_of _ (by decide +kernel)) ggX5_come_X5_putUp
theorem dX5_come_0 : decode cX5_come 0 = .ok (.aload_n 0, 1) := by decide +kernel
theorem dX5_come_1 : decode cX5_come 1 = .ok (.iload_n 1, 1) := by decide +kernel
theorem dX5_come_2 : decode cX5_come 2 = .ok (.invokevirtual 92, 3) := by decide +kernel
theorem dX5_come_5 : decode cX5_come 5 = .ok (.aload_n 0, 1) := by decide +kernel
theorem dX5_come_6 : decode cX5_come 6 = .ok (.getfield 26, 3) := by decide +kernel
theorem dX5_come_9 : decode cX5_come 9 = .ok (.getfield 95, 3) := by decide +kernel
theorem dX5_come_12 : decode cX5_come 12 = .ok (.iload_n 1, 1) := by decide +kernel
theorem dX5_come_13 : decode cX5_come 13 = .ok (.iaload, 1) := by decide +kernel
theorem dX5_come_14 : decode cX5_come 14 = .ok (.aload_n 0, 1) := by decide +kernel
theorem dX5_come_15 : decode cX5_come 15 = .ok (.getfield 44, 3) := by decide +kernel
theorem dX5_come_18 : decode cX5_come 18 = .ok (.if_icmp .ne 15, 3) := by decide +kernel
theorem dX5_come_21 : decode cX5_come 21 = .ok (.aload_n 0, 1) := by decide +kernel
theorem dX5_come_22 : decode cX5_come 22 = .ok (.getfield 26, 3) := by decide +kernel
theorem dX5_come_25 : decode cX5_come 25 = .ok (.getfield 99, 3) := by decide +kernel
theorem dX5_come_28 : decode cX5_come 28 = .ok (.iload_n 1, 1) := by decide +kernel
theorem dX5_come_29 : decode cX5_come 29 = .ok (.baload, 1) := by decide +kernel
theorem dX5_come_30 : decode cX5_come 30 = .ok (.ifCond .eq 13, 3) := by decide +kernel
theorem dX5_come_33 : decode cX5_come 33 = .ok (.new 82, 3) := by decide +kernel
theorem dX5_come_36 : decode cX5_come 36 = .ok (.dup, 1) := by decide +kernel
theorem dX5_come_37 : decode cX5_come 37 = .ok (.ldc 103, 2) := by decide +kernel
theorem dX5_come_39 : decode cX5_come 39 = .ok (.invokespecial 86, 3) := by decide +kernel
theorem dX5_come_42 : decode cX5_come 42 = .ok (.athrow, 1) := by decide +kernel
theorem dX5_come_43 : decode cX5_come 43 = .ok (.aload_n 0, 1) := by decide +kernel
theorem dX5_come_44 : decode cX5_come 44 = .ok (.aload_n 0, 1) := by decide +kernel
theorem dX5_come_45 : decode cX5_come 45 = .ok (.getfield 26, 3) := by decide +kernel
theorem dX5_come_48 : decode cX5_come 48 = .ok (.getfield 105, 3) := by decide +kernel
theorem dX5_come_51 : decode cX5_come 51 = .ok (.iload_n 1, 1) := by decide +kernel
theorem dX5_come_52 : decode cX5_come 52 = .ok (.iaload, 1) := by decide +kernel
theorem dX5_come_53 : decode cX5_come 53 = .ok (.aload_n 0, 1) := by decide +kernel
theorem dX5_come_54 : decode cX5_come 54 = .ok (.getfield 26, 3) := by decide +kernel
theorem dX5_come_57 : decode cX5_come 57 = .ok (.getfield 108, 3) := by decide +kernel
theorem dX5_come_60 : decode cX5_come 60 = .ok (.iload_n 1, 1) := by decide +kernel
theorem dX5_come_61 : decode cX5_come 61 = .ok (.iaload, 1) := by decide +kernel
theorem dX5_come_62 : decode cX5_come 62 = .ok (.invokevirtual 111, 3) := by decide +kernel
theorem dX5_come_65 : decode cX5_come 65 = .ok (.istore_n 2, 1) := by decide +kernel
theorem dX5_come_66 : decode cX5_come 66 = .ok (.aload_n 0, 1) := by decide +kernel
theorem dX5_come_67 : decode cX5_come 67 = .ok (.getfield 26, 3) := by decide +kernel
theorem dX5_come_70 : decode cX5_come 70 = .ok (.iload_n 1, 1) := by decide +kernel
theorem dX5_come_71 : decode cX5_come 71 = .ok (.iload_n 2, 1) := by decide +kernel
theorem dX5_come_72 : decode cX5_come 72 = .ok (.invokevirtual 114, 3) := by decide +kernel
theorem dX5_come_75 : decode cX5_come 75 = .ok (.iload_n 2, 1) := by decide +kernel
theorem dX5_come_76 : decode cX5_come 76 = .ok (.iconst (-1), 1) := by decide +kernel
theorem dX5_come_77 : decode cX5_come 77 = .ok (.if_icmp .eq 9, 3) := by decide +kernel
theorem dX5_come_80 : decode cX5_come 80 = .ok (.aload_n 0, 1) := by decide +kernel
theorem dX5_come_81 : decode cX5_come 81 = .ok (.iload_n 1, 1) := by decide +kernel
theorem dX5_come_82 : decode cX5_come 82 = .ok (.iload_n 2, 1) := by decide +kernel
theorem dX5_come_83 : decode cX5_come 83 = .ok (.invokevirtual 118, 3) := by decide +kernel
theorem dX5_come_86 : decode cX5_come 86 = .ok (.iload_n 2, 1) := by decide +kernel
theorem dX5_come_87 : decode cX5_come 87 = .ok (.ireturn, 1) := by decide +kernel
set_option maxRecDepth 20000 in
theorem ggX5_burn_X5_checkGuest : GoodIn wsX5_burn wsX5_checkGuest := goodIn_ca (goodIn_r _ [7, 8, 9] (by decide +kernel) (by decide +kernel)) (goodIn_sub (fun _ h => List.mem_cons_of_mem _ (List.mem_append_left _ (List.mem_append_right _ h))) (by decide +kernel))
set_option maxRecDepth 20000 in
theorem gX5_burn_X5_checkGuest : GoodIn wsX5_burn (va_wsS RX5 71 yX5_checkGuest wsX5_checkGuest) := goodIn_app (goodIn_of _ (by decide +kernel)) ggX5_burn_X5_checkGuest
set_option maxRecDepth 20000 in
theorem ggX5_burn_X5_checkInn : GoodIn wsX5_burn wsX5_checkInn := goodIn_ca (goodIn_r _ [12, 8, 9] (by decide +kernel) (by decide +kernel)) (goodIn_sub (fun _ h => List.mem_cons_of_mem _ (List.mem_append_left _ (List.mem_append_right _ h))) (by decide +kernel))
set_option maxRecDepth 20000 in
theorem gX5_burn_X5_checkInn : GoodIn wsX5_burn (va_wsS RX5 48 yX5_checkInn wsX5_checkInn) := goodIn_app (goodIn_of _ (by decide +kernel)) ggX5_burn_X5_checkInn
set_option maxRecDepth 20000 in
theorem ggX5_burn_X5_checkRange : GoodIn wsX5_burn wsX5_checkRange := goodIn_ca (goodIn_r _ [15, 16, 17] (by decide +kernel) (by decide +kernel)) (goodIn_sub (fun _ h => List.mem_cons_of_mem _ (List.mem_append_right _ h)) (by decide +kernel))
set_option maxRecDepth 20000 in
theorem gX5_burn_X5_checkRange : GoodIn wsX5_burn (va_wsS RX5 55 yX5_checkRange wsX5_checkRange) := goodIn_app (goodIn_of _ (by decide +kernel)) ggX5_burn_X5_checkRange
set_option maxRecDepth 20000 in
theorem ggX5_burn_X3_ofGuest : GoodIn wsX5_burn wsX3_ofGuest := goodIn_r _ [22, 23, 24, 25, 56, 57, 58, 59] (by decide +kernel) (by decide +kernel)
set_option maxRecDepth 20000 in
theorem gX5_burn_X3_ofGuest : GoodIn wsX5_burn (wsV RX5 121 RX3 yX3_ofGuest wsX3_ofGuest) := goodIn_app (goodIn_of _ (by decide +kernel)) ggX5_burn_X3_ofGuest
set_option maxRecDepth 20000 in
theorem ggX5_burn_X5_burnEarliest : GoodIn wsX5_burn wsX5_burnEarliest := goodIn_r _ [29, 3, 30, 31, 32, 33, 34, 35, 21, 36, 24, 25, 37, 38, 39, 40, 41, 42, 43, 44, 45, 46, 47, 48, 49, 50, 51, 52, 53, 54, 55, 56, 57, 58, 59, 60, 61] (by decide +kernel) (by decide +kernel)
set_option maxRecDepth 20000 in
theorem gX5_burn_X5_burnEarliest : GoodIn wsX5_burn (wsV RX5 127 RX5 yX5_burnEarliest wsX5_burnEarliest) := goodIn_app (goodIn_of _ (by decide +kernel)) ggX5_burn_X5_burnEarliest
theorem dX5_burn_0 : decode cX5_burn 0 = .ok (.iload_n 1, 1) := by decide +kernel
theorem dX5_burn_1 : decode cX5_burn 1 = .ok (.invokestatic 71, 3) := by decide +kernel
theorem dX5_burn_4 : decode cX5_burn 4 = .ok (.iload_n 2, 1) := by decide +kernel
theorem dX5_burn_5 : decode cX5_burn 5 = .ok (.invokestatic 48, 3) := by decide +kernel
theorem dX5_burn_8 : decode cX5_burn 8 = .ok (.iload_n 3, 1) := by decide +kernel
theorem dX5_burn_9 : decode cX5_burn 9 = .ok (.iconst 1, 1) := by decide +kernel
theorem dX5_burn_10 : decode cX5_burn 10 = .ok (.bipush 100, 2) := by decide +kernel
theorem dX5_burn_12 : decode cX5_burn 12 = .ok (.invokestatic 55, 3) := by decide +kernel
theorem dX5_burn_15 : decode cX5_burn 15 = .ok (.aload_n 0, 1) := by decide +kernel
theorem dX5_burn_16 : decode cX5_burn 16 = .ok (.getfield 33, 3) := by decide +kernel
theorem dX5_burn_19 : decode cX5_burn 19 = .ok (.iload_n 1, 1) := by decide +kernel
theorem dX5_burn_20 : decode cX5_burn 20 = .ok (.invokevirtual 121, 3) := by decide +kernel
theorem dX5_burn_23 : decode cX5_burn 23 = .ok (.iload_n 3, 1) := by decide +kernel
theorem dX5_burn_24 : decode cX5_burn 24 = .ok (.if_icmp .ge 13, 3) := by decide +kernel
theorem dX5_burn_27 : decode cX5_burn 27 = .ok (.new 82, 3) := by decide +kernel
theorem dX5_burn_30 : decode cX5_burn 30 = .ok (.dup, 1) := by decide +kernel
theorem dX5_burn_31 : decode cX5_burn 31 = .ok (.ldc 125, 2) := by decide +kernel
theorem dX5_burn_33 : decode cX5_burn 33 = .ok (.invokespecial 86, 3) := by decide +kernel
theorem dX5_burn_36 : decode cX5_burn 36 = .ok (.athrow, 1) := by decide +kernel
theorem dX5_burn_37 : decode cX5_burn 37 = .ok (.aload_n 0, 1) := by decide +kernel
theorem dX5_burn_38 : decode cX5_burn 38 = .ok (.iload_n 1, 1) := by decide +kernel
theorem dX5_burn_39 : decode cX5_burn 39 = .ok (.iload_n 2, 1) := by decide +kernel
theorem dX5_burn_40 : decode cX5_burn 40 = .ok (.iload_n 3, 1) := by decide +kernel
theorem dX5_burn_41 : decode cX5_burn 41 = .ok (.invokevirtual 127, 3) := by decide +kernel
theorem dX5_burn_44 : decode cX5_burn 44 = .ok (.aload_n 0, 1) := by decide +kernel
theorem dX5_burn_45 : decode cX5_burn 45 = .ok (.getfield 33, 3) := by decide +kernel
theorem dX5_burn_48 : decode cX5_burn 48 = .ok (.iload_n 1, 1) := by decide +kernel
theorem dX5_burn_49 : decode cX5_burn 49 = .ok (.invokevirtual 121, 3) := by decide +kernel
theorem dX5_burn_52 : decode cX5_burn 52 = .ok (.ireturn, 1) := by decide +kernel
set_option maxRecDepth 20000 in
theorem ggX5_night_X0_missedIn : GoodIn wsX5_night wsX0_missedIn := goodIn_r _ [11, 12, 13, 14, 39, 40, 41, 42, 43, 44, 45] (by decide +kernel) (by decide +kernel)
set_option maxRecDepth 20000 in
theorem gX5_night_X0_missedIn : GoodIn wsX5_night (wsV RX5 132 RX0 yX0_missedIn wsX0_missedIn) := goodIn_app (goodIn_of _ (by decide +kernel)) ggX5_night_X0_missedIn
set_option maxRecDepth 20000 in
theorem ggX5_night_X4_endNight : GoodIn wsX5_night wsX4_endNight := goodIn_r _ [19, 20, 46, 47, 48] (by decide +kernel) (by decide +kernel)
set_option maxRecDepth 20000 in
theorem gX5_night_X4_endNight : GoodIn wsX5_night (wsV RX5 135 RX4 yX4_endNight wsX4_endNight) := goodIn_app (goodIn_of _ (by decide +kernel)) ggX5_night_X4_endNight
set_option maxRecDepth 20000 in
theorem ggX5_night_X2_endNight : GoodIn wsX5_night wsX2_endNight := goodIn_r _ [25, 26, 27, 28, 29, 30, 31, 32, 49, 50, 51, 52, 53, 54, 55] (by decide +kernel) (by decide +kernel)
set_option maxRecDepth 20000 in
theorem gX5_night_X2_endNight : GoodIn wsX5_night (wsV RX5 138 RX2 yX2_endNight wsX2_endNight) := goodIn_app (goodIn_of _ (by decide +kernel)) ggX5_night_X2_endNight
theorem dX5_night_0 : decode cX5_night 0 = .ok (.aload_n 0, 1) := by decide +kernel
theorem dX5_night_1 : decode cX5_night 1 = .ok (.getfield 44, 3) := by decide +kernel
theorem dX5_night_4 : decode cX5_night 4 = .ok (.sipush 300, 3) := by decide +kernel
theorem dX5_night_7 : decode cX5_night 7 = .ok (.if_icmp .lt 13, 3) := by decide +kernel
theorem dX5_night_10 : decode cX5_night 10 = .ok (.new 82, 3) := by decide +kernel
theorem dX5_night_13 : decode cX5_night 13 = .ok (.dup, 1) := by decide +kernel
theorem dX5_night_14 : decode cX5_night 14 = .ok (.ldc 130, 2) := by decide +kernel
theorem dX5_night_16 : decode cX5_night 16 = .ok (.invokespecial 86, 3) := by decide +kernel
theorem dX5_night_19 : decode cX5_night 19 = .ok (.athrow, 1) := by decide +kernel
theorem dX5_night_20 : decode cX5_night 20 = .ok (.aload_n 0, 1) := by decide +kernel
theorem dX5_night_21 : decode cX5_night 21 = .ok (.getfield 26, 3) := by decide +kernel
theorem dX5_night_24 : decode cX5_night 24 = .ok (.aload_n 0, 1) := by decide +kernel
theorem dX5_night_25 : decode cX5_night 25 = .ok (.getfield 44, 3) := by decide +kernel
theorem dX5_night_28 : decode cX5_night 28 = .ok (.invokevirtual 132, 3) := by decide +kernel
theorem dX5_night_31 : decode cX5_night 31 = .ok (.istore_n 1, 1) := by decide +kernel
theorem dX5_night_32 : decode cX5_night 32 = .ok (.aload_n 0, 1) := by decide +kernel
theorem dX5_night_33 : decode cX5_night 33 = .ok (.getfield 10, 3) := by decide +kernel
theorem dX5_night_36 : decode cX5_night 36 = .ok (.invokevirtual 135, 3) := by decide +kernel
theorem dX5_night_39 : decode cX5_night 39 = .ok (.aload_n 0, 1) := by decide +kernel
theorem dX5_night_40 : decode cX5_night 40 = .ok (.getfield 19, 3) := by decide +kernel
end
section
theorem dX5_night_43 : decode cX5_night 43 = .ok (.invokevirtual 138, 3) := by decide +kernel
theorem dX5_night_46 : decode cX5_night 46 = .ok (.aload_n 0, 1) := by decide +kernel
theorem dX5_night_47 : decode cX5_night 47 = .ok (.dup, 1) := by decide +kernel
theorem dX5_night_48 : decode cX5_night 48 = .ok (.getfield 44, 3) := by decide +kernel
theorem dX5_night_51 : decode cX5_night 51 = .ok (.iconst 1, 1) := by decide +kernel
theorem dX5_night_52 : decode cX5_night 52 = .ok (.iadd, 1) := by decide +kernel
theorem dX5_night_53 : decode cX5_night 53 = .ok (.putfield 44, 3) := by decide +kernel
theorem dX5_night_56 : decode cX5_night 56 = .ok (.iload_n 1, 1) := by decide +kernel
theorem dX5_night_57 : decode cX5_night 57 = .ok (.ireturn, 1) := by decide +kernel
set_option maxRecDepth 20000 in
theorem ggX5_settle_X1_payAll : GoodIn wsX5_settle wsX1_payAll := goodIn_r _ [6, 7, 8, 9, 5, 10, 11, 12, 13, 14, 15, 16, 17, 18, 19, 20, 21, 22, 23, 24, 25, 26, 27, 34, 35] (by decide +kernel) (by decide +kernel)
set_option maxRecDepth 20000 in
theorem gX5_settle_X1_payAll : GoodIn wsX5_settle (wsV RX5 139 RX1 yX1_payAll wsX1_payAll) := goodIn_app (goodIn_of _ (by decide +kernel)) ggX5_settle_X1_payAll
theorem dX5_settle_0 : decode cX5_settle 0 = .ok (.aload_n 0, 1) := by decide +kernel
theorem dX5_settle_1 : decode cX5_settle 1 = .ok (.getfield 40, 3) := by decide +kernel
theorem dX5_settle_4 : decode cX5_settle 4 = .ok (.invokevirtual 139, 3) := by decide +kernel
theorem dX5_settle_7 : decode cX5_settle 7 = .ok (.ireturn, 1) := by decide +kernel
theorem dX5_today_0 : decode cX5_today 0 = .ok (.aload_n 0, 1) := by decide +kernel
theorem dX5_today_1 : decode cX5_today 1 = .ok (.getfield 44, 3) := by decide +kernel
theorem dX5_today_4 : decode cX5_today 4 = .ok (.ireturn, 1) := by decide +kernel
theorem dX5_bookings_0 : decode cX5_bookings 0 = .ok (.aload_n 0, 1) := by decide +kernel
theorem dX5_bookings_1 : decode cX5_bookings 1 = .ok (.getfield 26, 3) := by decide +kernel
theorem dX5_bookings_4 : decode cX5_bookings 4 = .ok (.getfield 143, 3) := by decide +kernel
theorem dX5_bookings_7 : decode cX5_bookings 7 = .ok (.ireturn, 1) := by decide +kernel
set_option maxRecDepth 20000 in
theorem ggX5_free_X5_checkInn : GoodIn wsX5_free wsX5_checkInn := goodIn_ca (goodIn_r _ [5, 6, 7] (by decide +kernel) (by decide +kernel)) (goodIn_sub (fun _ h => List.mem_cons_of_mem _ (List.mem_append_right _ h)) (by decide +kernel))
set_option maxRecDepth 20000 in
theorem gX5_free_X5_checkInn : GoodIn wsX5_free (va_wsS RX5 48 yX5_checkInn wsX5_checkInn) := goodIn_app (goodIn_of _ (by decide +kernel)) ggX5_free_X5_checkInn
set_option maxRecDepth 20000 in
theorem ggX5_free_X5_checkKind : GoodIn wsX5_free wsX5_checkKind := goodIn_ca (goodIn_r _ [10, 6, 7] (by decide +kernel) (by decide +kernel)) (goodIn_sub (fun _ h => List.mem_cons_of_mem _ (List.mem_append_right _ h)) (by decide +kernel))
set_option maxRecDepth 20000 in
theorem gX5_free_X5_checkKind : GoodIn wsX5_free (va_wsS RX5 52 yX5_checkKind wsX5_checkKind) := goodIn_app (goodIn_of _ (by decide +kernel)) ggX5_free_X5_checkKind
set_option maxRecDepth 20000 in
theorem ggX5_free_X4_freeOf : GoodIn wsX5_free wsX4_freeOf := goodIn_r _ [15, 16, 17, 18, 19, 20, 21, 22, 14, 23, 24, 25, 26, 27, 28, 29, 30, 31, 32, 39, 40, 41] (by decide +kernel) (by decide +kernel)
set_option maxRecDepth 20000 in
theorem gX5_free_X4_freeOf : GoodIn wsX5_free (wsV RX5 146 RX4 yX4_freeOf wsX4_freeOf) := goodIn_app (goodIn_of _ (by decide +kernel)) ggX5_free_X4_freeOf
theorem dX5_free_0 : decode cX5_free 0 = .ok (.iload_n 1, 1) := by decide +kernel
theorem dX5_free_1 : decode cX5_free 1 = .ok (.invokestatic 48, 3) := by decide +kernel
theorem dX5_free_4 : decode cX5_free 4 = .ok (.iload_n 2, 1) := by decide +kernel
theorem dX5_free_5 : decode cX5_free 5 = .ok (.invokestatic 52, 3) := by decide +kernel
theorem dX5_free_8 : decode cX5_free 8 = .ok (.aload_n 0, 1) := by decide +kernel
theorem dX5_free_9 : decode cX5_free 9 = .ok (.getfield 10, 3) := by decide +kernel
theorem dX5_free_12 : decode cX5_free 12 = .ok (.iload_n 1, 1) := by decide +kernel
theorem dX5_free_13 : decode cX5_free 13 = .ok (.iload_n 2, 1) := by decide +kernel
theorem dX5_free_14 : decode cX5_free 14 = .ok (.invokevirtual 146, 3) := by decide +kernel
theorem dX5_free_17 : decode cX5_free 17 = .ok (.ireturn, 1) := by decide +kernel
set_option maxRecDepth 20000 in
theorem ggX5_taken_X5_checkInn : GoodIn wsX5_taken wsX5_checkInn := goodIn_ca (goodIn_r _ [5, 6, 7] (by decide +kernel) (by decide +kernel)) (goodIn_sub (fun _ h => List.mem_cons_of_mem _ (List.mem_append_right _ h)) (by decide +kernel))
set_option maxRecDepth 20000 in
theorem gX5_taken_X5_checkInn : GoodIn wsX5_taken (va_wsS RX5 48 yX5_checkInn wsX5_checkInn) := goodIn_app (goodIn_of _ (by decide +kernel)) ggX5_taken_X5_checkInn
set_option maxRecDepth 20000 in
theorem ggX5_taken_X5_checkKind : GoodIn wsX5_taken wsX5_checkKind := goodIn_ca (goodIn_r _ [10, 6, 7] (by decide +kernel) (by decide +kernel)) (goodIn_sub (fun _ h => List.mem_cons_of_mem _ (List.mem_append_right _ h)) (by decide +kernel))
set_option maxRecDepth 20000 in
theorem gX5_taken_X5_checkKind : GoodIn wsX5_taken (va_wsS RX5 52 yX5_checkKind wsX5_checkKind) := goodIn_app (goodIn_of _ (by decide +kernel)) ggX5_taken_X5_checkKind
set_option maxRecDepth 20000 in
theorem ggX5_taken_X4_sleepersOf : GoodIn wsX5_taken wsX4_sleepersOf := goodIn_r _ [15, 16, 17, 18, 14, 19, 26, 27, 28] (by decide +kernel) (by decide +kernel)
set_option maxRecDepth 20000 in
theorem gX5_taken_X4_sleepersOf : GoodIn wsX5_taken (wsV RX5 149 RX4 yX4_sleepersOf wsX4_sleepersOf) := goodIn_app (goodIn_of _ (by decide +kernel)) ggX5_taken_X4_sleepersOf
theorem dX5_taken_0 : decode cX5_taken 0 = .ok (.iload_n 1, 1) := by decide +kernel
theorem dX5_taken_1 : decode cX5_taken 1 = .ok (.invokestatic 48, 3) := by decide +kernel
theorem dX5_taken_4 : decode cX5_taken 4 = .ok (.iload_n 2, 1) := by decide +kernel
theorem dX5_taken_5 : decode cX5_taken 5 = .ok (.invokestatic 52, 3) := by decide +kernel
theorem dX5_taken_8 : decode cX5_taken 8 = .ok (.aload_n 0, 1) := by decide +kernel
theorem dX5_taken_9 : decode cX5_taken 9 = .ok (.getfield 10, 3) := by decide +kernel
theorem dX5_taken_12 : decode cX5_taken 12 = .ok (.iload_n 1, 1) := by decide +kernel
theorem dX5_taken_13 : decode cX5_taken 13 = .ok (.iload_n 2, 1) := by decide +kernel
theorem dX5_taken_14 : decode cX5_taken 14 = .ok (.invokevirtual 149, 3) := by decide +kernel
theorem dX5_taken_17 : decode cX5_taken 17 = .ok (.ireturn, 1) := by decide +kernel
set_option maxRecDepth 20000 in
theorem ggX5_takenByBookings_X5_checkInn : GoodIn wsX5_takenByBookings wsX5_checkInn := goodIn_ca (goodIn_r _ [6, 7, 8] (by decide +kernel) (by decide +kernel)) (goodIn_sub (fun _ h => List.mem_cons_of_mem _ (List.mem_append_right _ h)) (by decide +kernel))
set_option maxRecDepth 20000 in
theorem gX5_takenByBookings_X5_checkInn : GoodIn wsX5_takenByBookings (va_wsS RX5 48 yX5_checkInn wsX5_checkInn) := goodIn_app (goodIn_of _ (by decide +kernel)) ggX5_takenByBookings_X5_checkInn
set_option maxRecDepth 20000 in
theorem ggX5_takenByBookings_X5_checkKind : GoodIn wsX5_takenByBookings wsX5_checkKind := goodIn_ca (goodIn_r _ [11, 7, 8] (by decide +kernel) (by decide +kernel)) (goodIn_sub (fun _ h => List.mem_cons_of_mem _ (List.mem_append_right _ h)) (by decide +kernel))
set_option maxRecDepth 20000 in
theorem gX5_takenByBookings_X5_checkKind : GoodIn wsX5_takenByBookings (va_wsS RX5 52 yX5_checkKind wsX5_checkKind) := goodIn_app (goodIn_of _ (by decide +kernel)) ggX5_takenByBookings_X5_checkKind
set_option maxRecDepth 20000 in
theorem ggX5_takenByBookings_X0_sleepersAt : GoodIn wsX5_takenByBookings wsX0_sleepersAt := goodIn_r _ [16, 17, 18, 19, 20, 27, 28, 29, 30, 31, 32, 33] (by decide +kernel) (by decide +kernel)
set_option maxRecDepth 20000 in
theorem gX5_takenByBookings_X0_sleepersAt : GoodIn wsX5_takenByBookings (wsV RX5 152 RX0 yX0_sleepersAt wsX0_sleepersAt) := goodIn_app (goodIn_of _ (by decide +kernel)) ggX5_takenByBookings_X0_sleepersAt
theorem dX5_takenByBookings_0 : decode cX5_takenByBookings 0 = .ok (.iload_n 1, 1) := by decide +kernel
theorem dX5_takenByBookings_1 : decode cX5_takenByBookings 1 = .ok (.invokestatic 48, 3) := by decide +kernel
theorem dX5_takenByBookings_4 : decode cX5_takenByBookings 4 = .ok (.iload_n 2, 1) := by decide +kernel
theorem dX5_takenByBookings_5 : decode cX5_takenByBookings 5 = .ok (.invokestatic 52, 3) := by decide +kernel
theorem dX5_takenByBookings_8 : decode cX5_takenByBookings 8 = .ok (.aload_n 0, 1) := by decide +kernel
theorem dX5_takenByBookings_9 : decode cX5_takenByBookings 9 = .ok (.getfield 26, 3) := by decide +kernel
theorem dX5_takenByBookings_12 : decode cX5_takenByBookings 12 = .ok (.iload_n 1, 1) := by decide +kernel
theorem dX5_takenByBookings_13 : decode cX5_takenByBookings 13 = .ok (.iload_n 2, 1) := by decide +kernel
theorem dX5_takenByBookings_14 : decode cX5_takenByBookings 14 = .ok (.aload_n 0, 1) := by decide +kernel
theorem dX5_takenByBookings_15 : decode cX5_takenByBookings 15 = .ok (.getfield 44, 3) := by decide +kernel
theorem dX5_takenByBookings_18 : decode cX5_takenByBookings 18 = .ok (.invokevirtual 152, 3) := by decide +kernel
theorem dX5_takenByBookings_21 : decode cX5_takenByBookings 21 = .ok (.ireturn, 1) := by decide +kernel
set_option maxRecDepth 20000 in
theorem ggX5_extra_X5_checkInn : GoodIn wsX5_extra wsX5_checkInn := goodIn_ca (goodIn_r _ [4, 5, 6] (by decide +kernel) (by decide +kernel)) (goodIn_sub (fun _ h => List.mem_cons_of_mem _ (List.mem_append_right _ h)) (by decide +kernel))
set_option maxRecDepth 20000 in
theorem gX5_extra_X5_checkInn : GoodIn wsX5_extra (va_wsS RX5 48 yX5_checkInn wsX5_checkInn) := goodIn_app (goodIn_of _ (by decide +kernel)) ggX5_extra_X5_checkInn
set_option maxRecDepth 20000 in
theorem ggX5_extra_X5_extraOf : GoodIn wsX5_extra wsX5_extraOf := goodIn_r _ [10, 11, 12, 13, 14, 15, 16, 17, 18, 19, 20, 21, 22, 23, 24, 25, 26, 27, 28, 29, 30, 31, 32, 33, 34] (by decide +kernel) (by decide +kernel)
set_option maxRecDepth 20000 in
theorem gX5_extra_X5_extraOf : GoodIn wsX5_extra (wsV RX5 156 RX5 yX5_extraOf wsX5_extraOf) := goodIn_app (goodIn_of _ (by decide +kernel)) ggX5_extra_X5_extraOf
theorem dX5_extra_0 : decode cX5_extra 0 = .ok (.iload_n 1, 1) := by decide +kernel
theorem dX5_extra_1 : decode cX5_extra 1 = .ok (.invokestatic 48, 3) := by decide +kernel
theorem dX5_extra_4 : decode cX5_extra 4 = .ok (.aload_n 0, 1) := by decide +kernel
theorem dX5_extra_5 : decode cX5_extra 5 = .ok (.iload_n 1, 1) := by decide +kernel
theorem dX5_extra_6 : decode cX5_extra 6 = .ok (.invokevirtual 156, 3) := by decide +kernel
theorem dX5_extra_9 : decode cX5_extra 9 = .ok (.ireturn, 1) := by decide +kernel
set_option maxRecDepth 20000 in
theorem ggX5_clean_X5_checkInn : GoodIn wsX5_clean wsX5_checkInn := goodIn_ca (goodIn_r _ [6, 7, 8] (by decide +kernel) (by decide +kernel)) (goodIn_sub (fun _ h => List.mem_cons_of_mem _ (List.mem_append_right _ h)) (by decide +kernel))
set_option maxRecDepth 20000 in
theorem gX5_clean_X5_checkInn : GoodIn wsX5_clean (va_wsS RX5 48 yX5_checkInn wsX5_checkInn) := goodIn_app (goodIn_of _ (by decide +kernel)) ggX5_clean_X5_checkInn
theorem dX5_clean_0 : decode cX5_clean 0 = .ok (.iload_n 1, 1) := by decide +kernel
theorem dX5_clean_1 : decode cX5_clean 1 = .ok (.invokestatic 48, 3) := by decide +kernel
theorem dX5_clean_4 : decode cX5_clean 4 = .ok (.aload_n 0, 1) := by decide +kernel
theorem dX5_clean_5 : decode cX5_clean 5 = .ok (.getfield 19, 3) := by decide +kernel
theorem dX5_clean_8 : decode cX5_clean 8 = .ok (.getfield 159, 3) := by decide +kernel
theorem dX5_clean_11 : decode cX5_clean 11 = .ok (.iload_n 1, 1) := by decide +kernel
theorem dX5_clean_12 : decode cX5_clean 12 = .ok (.iaload, 1) := by decide +kernel
theorem dX5_clean_13 : decode cX5_clean 13 = .ok (.ireturn, 1) := by decide +kernel
set_option maxRecDepth 20000 in
theorem ggX5_away_X5_checkInn : GoodIn wsX5_away wsX5_checkInn := goodIn_ca (goodIn_r _ [5, 6, 7] (by decide +kernel) (by decide +kernel)) (goodIn_sub (fun _ h => List.mem_cons_of_mem _ (List.mem_append_right _ h)) (by decide +kernel))
set_option maxRecDepth 20000 in
theorem gX5_away_X5_checkInn : GoodIn wsX5_away (va_wsS RX5 48 yX5_checkInn wsX5_checkInn) := goodIn_app (goodIn_of _ (by decide +kernel)) ggX5_away_X5_checkInn
set_option maxRecDepth 20000 in
theorem ggX5_away_X2_awayOf : GoodIn wsX5_away wsX2_awayOf := goodIn_r _ [12, 13, 14, 15, 16, 23, 24, 25, 26, 27, 28, 29] (by decide +kernel) (by decide +kernel)
set_option maxRecDepth 20000 in
theorem gX5_away_X2_awayOf : GoodIn wsX5_away (wsV RX5 162 RX2 yX2_awayOf wsX2_awayOf) := goodIn_app (goodIn_of _ (by decide +kernel)) ggX5_away_X2_awayOf
theorem dX5_away_0 : decode cX5_away 0 = .ok (.iload_n 1, 1) := by decide +kernel
theorem dX5_away_1 : decode cX5_away 1 = .ok (.invokestatic 48, 3) := by decide +kernel
theorem dX5_away_4 : decode cX5_away 4 = .ok (.aload_n 0, 1) := by decide +kernel
theorem dX5_away_5 : decode cX5_away 5 = .ok (.getfield 19, 3) := by decide +kernel
theorem dX5_away_8 : decode cX5_away 8 = .ok (.iload_n 1, 1) := by decide +kernel
theorem dX5_away_9 : decode cX5_away 9 = .ok (.invokevirtual 162, 3) := by decide +kernel
theorem dX5_away_12 : decode cX5_away 12 = .ok (.ireturn, 1) := by decide +kernel
set_option maxRecDepth 20000 in
theorem ggX5_sleeps_X5_checkBooking : GoodIn wsX5_sleeps wsX5_checkBooking := goodIn_ca (goodIn_r _ [7, 8, 9, 1, 10, 11, 12, 13, 14, 15, 16, 17, 18, 19, 20, 21, 22, 23] (by decide +kernel) (by decide +kernel)) (goodIn_sub (fun _ h => List.mem_cons_of_mem _ (List.mem_append_right _ h)) (by decide +kernel))
set_option maxRecDepth 20000 in
theorem gX5_sleeps_X5_checkBooking : GoodIn wsX5_sleeps (wsV RX5 92 RX5 yX5_checkBooking wsX5_checkBooking) := goodIn_app (goodIn_of _ (by decide +kernel)) ggX5_sleeps_X5_checkBooking
theorem dX5_sleeps_0 : decode cX5_sleeps 0 = .ok (.aload_n 0, 1) := by decide +kernel
theorem dX5_sleeps_1 : decode cX5_sleeps 1 = .ok (.iload_n 1, 1) := by decide +kernel
theorem dX5_sleeps_2 : decode cX5_sleeps 2 = .ok (.invokevirtual 92, 3) := by decide +kernel
theorem dX5_sleeps_5 : decode cX5_sleeps 5 = .ok (.aload_n 0, 1) := by decide +kernel
theorem dX5_sleeps_6 : decode cX5_sleeps 6 = .ok (.getfield 26, 3) := by decide +kernel
theorem dX5_sleeps_9 : decode cX5_sleeps 9 = .ok (.getfield 165, 3) := by decide +kernel
theorem dX5_sleeps_12 : decode cX5_sleeps 12 = .ok (.iload_n 1, 1) := by decide +kernel
theorem dX5_sleeps_13 : decode cX5_sleeps 13 = .ok (.iaload, 1) := by decide +kernel
theorem dX5_sleeps_14 : decode cX5_sleeps 14 = .ok (.ireturn, 1) := by decide +kernel
set_option maxRecDepth 20000 in
theorem ggX5_points_X5_checkGuest : GoodIn wsX5_points wsX5_checkGuest := goodIn_ca (goodIn_r _ [5, 6, 7] (by decide +kernel) (by decide +kernel)) (goodIn_sub (fun _ h => List.mem_cons_of_mem _ (List.mem_append_right _ h)) (by decide +kernel))
set_option maxRecDepth 20000 in
theorem gX5_points_X5_checkGuest : GoodIn wsX5_points (va_wsS RX5 71 yX5_checkGuest wsX5_checkGuest) := goodIn_app (goodIn_of _ (by decide +kernel)) ggX5_points_X5_checkGuest
set_option maxRecDepth 20000 in
theorem ggX5_points_X3_ofGuest : GoodIn wsX5_points wsX3_ofGuest := goodIn_r _ [12, 13, 14, 15, 22, 23, 24, 25] (by decide +kernel) (by decide +kernel)
set_option maxRecDepth 20000 in
theorem gX5_points_X3_ofGuest : GoodIn wsX5_points (wsV RX5 121 RX3 yX3_ofGuest wsX3_ofGuest) := goodIn_app (goodIn_of _ (by decide +kernel)) ggX5_points_X3_ofGuest
theorem dX5_points_0 : decode cX5_points 0 = .ok (.iload_n 1, 1) := by decide +kernel
theorem dX5_points_1 : decode cX5_points 1 = .ok (.invokestatic 71, 3) := by decide +kernel
theorem dX5_points_4 : decode cX5_points 4 = .ok (.aload_n 0, 1) := by decide +kernel
theorem dX5_points_5 : decode cX5_points 5 = .ok (.getfield 33, 3) := by decide +kernel
theorem dX5_points_8 : decode cX5_points 8 = .ok (.iload_n 1, 1) := by decide +kernel
theorem dX5_points_9 : decode cX5_points 9 = .ok (.invokevirtual 121, 3) := by decide +kernel
theorem dX5_points_12 : decode cX5_points 12 = .ok (.ireturn, 1) := by decide +kernel
set_option maxRecDepth 20000 in
theorem ggX5_owes_X5_checkInn : GoodIn wsX5_owes wsX5_checkInn := goodIn_ca (goodIn_r _ [5, 6, 7] (by decide +kernel) (by decide +kernel)) (goodIn_sub (fun _ h => List.mem_cons_of_mem _ (List.mem_append_right _ h)) (by decide +kernel))
set_option maxRecDepth 20000 in
theorem gX5_owes_X5_checkInn : GoodIn wsX5_owes (va_wsS RX5 48 yX5_checkInn wsX5_checkInn) := goodIn_app (goodIn_of _ (by decide +kernel)) ggX5_owes_X5_checkInn
set_option maxRecDepth 20000 in
theorem ggX5_owes_X1_between : GoodIn wsX5_owes wsX1_between := goodIn_r _ [12, 13, 14, 15, 16, 17, 18, 19, 11, 20, 27, 28] (by decide +kernel) (by decide +kernel)
set_option maxRecDepth 20000 in
theorem gX5_owes_X1_between : GoodIn wsX5_owes (wsV RX5 168 RX1 yX1_between wsX1_between) := goodIn_app (goodIn_of _ (by decide +kernel)) ggX5_owes_X1_between
theorem dX5_owes_0 : decode cX5_owes 0 = .ok (.iload_n 1, 1) := by decide +kernel
theorem dX5_owes_1 : decode cX5_owes 1 = .ok (.invokestatic 48, 3) := by decide +kernel
theorem dX5_owes_4 : decode cX5_owes 4 = .ok (.iload_n 2, 1) := by decide +kernel
theorem dX5_owes_5 : decode cX5_owes 5 = .ok (.invokestatic 48, 3) := by decide +kernel
theorem dX5_owes_8 : decode cX5_owes 8 = .ok (.aload_n 0, 1) := by decide +kernel
theorem dX5_owes_9 : decode cX5_owes 9 = .ok (.getfield 40, 3) := by decide +kernel
theorem dX5_owes_12 : decode cX5_owes 12 = .ok (.iload_n 1, 1) := by decide +kernel
theorem dX5_owes_13 : decode cX5_owes 13 = .ok (.iload_n 2, 1) := by decide +kernel
theorem dX5_owes_14 : decode cX5_owes 14 = .ok (.invokevirtual 168, 3) := by decide +kernel
theorem dX5_owes_17 : decode cX5_owes 17 = .ok (.ireturn, 1) := by decide +kernel
set_option maxRecDepth 20000 in
theorem ggX5_purse_X5_checkInn : GoodIn wsX5_purse wsX5_checkInn := goodIn_ca (goodIn_r _ [6, 7, 8] (by decide +kernel) (by decide +kernel)) (goodIn_sub (fun _ h => List.mem_cons_of_mem _ (List.mem_append_right _ h)) (by decide +kernel))
set_option maxRecDepth 20000 in
theorem gX5_purse_X5_checkInn : GoodIn wsX5_purse (va_wsS RX5 48 yX5_checkInn wsX5_checkInn) := goodIn_app (goodIn_of _ (by decide +kernel)) ggX5_purse_X5_checkInn
theorem dX5_purse_0 : decode cX5_purse 0 = .ok (.iload_n 1, 1) := by decide +kernel
theorem dX5_purse_1 : decode cX5_purse 1 = .ok (.invokestatic 48, 3) := by decide +kernel
theorem dX5_purse_4 : decode cX5_purse 4 = .ok (.aload_n 0, 1) := by decide +kernel
theorem dX5_purse_5 : decode cX5_purse 5 = .ok (.getfield 40, 3) := by decide +kernel
theorem dX5_purse_8 : decode cX5_purse 8 = .ok (.getfield 171, 3) := by decide +kernel
theorem dX5_purse_11 : decode cX5_purse 11 = .ok (.iload_n 1, 1) := by decide +kernel
theorem dX5_purse_12 : decode cX5_purse 12 = .ok (.iaload, 1) := by decide +kernel
theorem dX5_purse_13 : decode cX5_purse 13 = .ok (.ireturn, 1) := by decide +kernel
theorem dX5_checkInn_0 : decode cX5_checkInn 0 = .ok (.iload_n 0, 1) := by decide +kernel
theorem dX5_checkInn_1 : decode cX5_checkInn 1 = .ok (.ifCond .lt 8, 3) := by decide +kernel
theorem dX5_checkInn_4 : decode cX5_checkInn 4 = .ok (.iload_n 0, 1) := by decide +kernel
theorem dX5_checkInn_5 : decode cX5_checkInn 5 = .ok (.iconst 4, 1) := by decide +kernel
theorem dX5_checkInn_6 : decode cX5_checkInn 6 = .ok (.if_icmp .lt 13, 3) := by decide +kernel
theorem dX5_checkInn_9 : decode cX5_checkInn 9 = .ok (.new 174, 3) := by decide +kernel
theorem dX5_checkInn_12 : decode cX5_checkInn 12 = .ok (.dup, 1) := by decide +kernel
theorem dX5_checkInn_13 : decode cX5_checkInn 13 = .ok (.ldc 176, 2) := by decide +kernel
theorem dX5_checkInn_15 : decode cX5_checkInn 15 = .ok (.invokespecial 178, 3) := by decide +kernel
theorem dX5_checkInn_18 : decode cX5_checkInn 18 = .ok (.athrow, 1) := by decide +kernel
theorem dX5_checkInn_19 : decode cX5_checkInn 19 = .ok (.return_, 1) := by decide +kernel
theorem dX5_checkKind_0 : decode cX5_checkKind 0 = .ok (.iload_n 0, 1) := by decide +kernel
theorem dX5_checkKind_1 : decode cX5_checkKind 1 = .ok (.ifCond .lt 8, 3) := by decide +kernel
theorem dX5_checkKind_4 : decode cX5_checkKind 4 = .ok (.iload_n 0, 1) := by decide +kernel
theorem dX5_checkKind_5 : decode cX5_checkKind 5 = .ok (.iconst 2, 1) := by decide +kernel
theorem dX5_checkKind_6 : decode cX5_checkKind 6 = .ok (.if_icmp .lt 13, 3) := by decide +kernel
theorem dX5_checkKind_9 : decode cX5_checkKind 9 = .ok (.new 174, 3) := by decide +kernel
theorem dX5_checkKind_12 : decode cX5_checkKind 12 = .ok (.dup, 1) := by decide +kernel
theorem dX5_checkKind_13 : decode cX5_checkKind 13 = .ok (.ldc 179, 2) := by decide +kernel
theorem dX5_checkKind_15 : decode cX5_checkKind 15 = .ok (.invokespecial 178, 3) := by decide +kernel
theorem dX5_checkKind_18 : decode cX5_checkKind 18 = .ok (.athrow, 1) := by decide +kernel
theorem dX5_checkKind_19 : decode cX5_checkKind 19 = .ok (.return_, 1) := by decide +kernel
theorem dX5_checkGuest_0 : decode cX5_checkGuest 0 = .ok (.iload_n 0, 1) := by decide +kernel
theorem dX5_checkGuest_1 : decode cX5_checkGuest 1 = .ok (.ifCond .lt 9, 3) := by decide +kernel
theorem dX5_checkGuest_4 : decode cX5_checkGuest 4 = .ok (.iload_n 0, 1) := by decide +kernel
theorem dX5_checkGuest_5 : decode cX5_checkGuest 5 = .ok (.bipush 10, 2) := by decide +kernel
theorem dX5_checkGuest_7 : decode cX5_checkGuest 7 = .ok (.if_icmp .lt 13, 3) := by decide +kernel
theorem dX5_checkGuest_10 : decode cX5_checkGuest 10 = .ok (.new 174, 3) := by decide +kernel
theorem dX5_checkGuest_13 : decode cX5_checkGuest 13 = .ok (.dup, 1) := by decide +kernel
theorem dX5_checkGuest_14 : decode cX5_checkGuest 14 = .ok (.ldc 181, 2) := by decide +kernel
theorem dX5_checkGuest_16 : decode cX5_checkGuest 16 = .ok (.invokespecial 178, 3) := by decide +kernel
theorem dX5_checkGuest_19 : decode cX5_checkGuest 19 = .ok (.athrow, 1) := by decide +kernel
theorem dX5_checkGuest_20 : decode cX5_checkGuest 20 = .ok (.return_, 1) := by decide +kernel
theorem dX5_checkBooking_0 : decode cX5_checkBooking 0 = .ok (.iload_n 1, 1) := by decide +kernel
theorem dX5_checkBooking_1 : decode cX5_checkBooking 1 = .ok (.ifCond .lt 14, 3) := by decide +kernel
theorem dX5_checkBooking_4 : decode cX5_checkBooking 4 = .ok (.iload_n 1, 1) := by decide +kernel
theorem dX5_checkBooking_5 : decode cX5_checkBooking 5 = .ok (.aload_n 0, 1) := by decide +kernel
theorem dX5_checkBooking_6 : decode cX5_checkBooking 6 = .ok (.getfield 26, 3) := by decide +kernel
theorem dX5_checkBooking_9 : decode cX5_checkBooking 9 = .ok (.getfield 143, 3) := by decide +kernel
theorem dX5_checkBooking_12 : decode cX5_checkBooking 12 = .ok (.if_icmp .lt 13, 3) := by decide +kernel
theorem dX5_checkBooking_15 : decode cX5_checkBooking 15 = .ok (.new 174, 3) := by decide +kernel
theorem dX5_checkBooking_18 : decode cX5_checkBooking 18 = .ok (.dup, 1) := by decide +kernel
theorem dX5_checkBooking_19 : decode cX5_checkBooking 19 = .ok (.ldc 183, 2) := by decide +kernel
theorem dX5_checkBooking_21 : decode cX5_checkBooking 21 = .ok (.invokespecial 178, 3) := by decide +kernel
theorem dX5_checkBooking_24 : decode cX5_checkBooking 24 = .ok (.athrow, 1) := by decide +kernel
theorem dX5_checkBooking_25 : decode cX5_checkBooking 25 = .ok (.return_, 1) := by decide +kernel
theorem dX5_checkRange_0 : decode cX5_checkRange 0 = .ok (.iload_n 0, 1) := by decide +kernel
theorem dX5_checkRange_1 : decode cX5_checkRange 1 = .ok (.iload_n 1, 1) := by decide +kernel
theorem dX5_checkRange_2 : decode cX5_checkRange 2 = .ok (.if_icmp .lt 8, 3) := by decide +kernel
theorem dX5_checkRange_5 : decode cX5_checkRange 5 = .ok (.iload_n 0, 1) := by decide +kernel
theorem dX5_checkRange_6 : decode cX5_checkRange 6 = .ok (.iload_n 2, 1) := by decide +kernel
theorem dX5_checkRange_7 : decode cX5_checkRange 7 = .ok (.if_icmp .le 13, 3) := by decide +kernel
theorem dX5_checkRange_10 : decode cX5_checkRange 10 = .ok (.new 185, 3) := by decide +kernel
theorem dX5_checkRange_13 : decode cX5_checkRange 13 = .ok (.dup, 1) := by decide +kernel
theorem dX5_checkRange_14 : decode cX5_checkRange 14 = .ok (.ldc 187, 2) := by decide +kernel
theorem dX5_checkRange_16 : decode cX5_checkRange 16 = .ok (.invokespecial 189, 3) := by decide +kernel
theorem dX5_checkRange_19 : decode cX5_checkRange 19 = .ok (.athrow, 1) := by decide +kernel
theorem dX5_checkRange_20 : decode cX5_checkRange 20 = .ok (.return_, 1) := by decide +kernel
set_option maxRecDepth 20000 in
theorem ggX5_extraOf_X0_missedAt : GoodIn wsX5_extraOf wsX0_missedAt := goodIn_r _ [7, 8, 9, 10, 11, 18, 19, 20, 21, 22, 23, 24] (by decide +kernel) (by decide +kernel)
set_option maxRecDepth 20000 in
theorem gX5_extraOf_X0_missedAt : GoodIn wsX5_extraOf (wsV RX5 190 RX0 yX0_missedAt wsX0_missedAt) := goodIn_app (goodIn_of _ (by decide +kernel)) ggX5_extraOf_X0_missedAt
theorem dX5_extraOf_0 : decode cX5_extraOf 0 = .ok (.aload_n 0, 1) := by decide +kernel
theorem dX5_extraOf_1 : decode cX5_extraOf 1 = .ok (.getfield 26, 3) := by decide +kernel
theorem dX5_extraOf_4 : decode cX5_extraOf 4 = .ok (.iload_n 1, 1) := by decide +kernel
theorem dX5_extraOf_5 : decode cX5_extraOf 5 = .ok (.aload_n 0, 1) := by decide +kernel
theorem dX5_extraOf_6 : decode cX5_extraOf 6 = .ok (.getfield 44, 3) := by decide +kernel
theorem dX5_extraOf_9 : decode cX5_extraOf 9 = .ok (.iconst 4, 1) := by decide +kernel
theorem dX5_extraOf_10 : decode cX5_extraOf 10 = .ok (.isub, 1) := by decide +kernel
theorem dX5_extraOf_11 : decode cX5_extraOf 11 = .ok (.aload_n 0, 1) := by decide +kernel
theorem dX5_extraOf_12 : decode cX5_extraOf 12 = .ok (.getfield 44, 3) := by decide +kernel
theorem dX5_extraOf_15 : decode cX5_extraOf 15 = .ok (.invokevirtual 190, 3) := by decide +kernel
theorem dX5_extraOf_18 : decode cX5_extraOf 18 = .ok (.iconst 4, 1) := by decide +kernel
theorem dX5_extraOf_19 : decode cX5_extraOf 19 = .ok (.idiv, 1) := by decide +kernel
theorem dX5_extraOf_20 : decode cX5_extraOf 20 = .ok (.ireturn, 1) := by decide +kernel
set_option maxRecDepth 20000 in
theorem ggX5_takesMore_X0_countFor : GoodIn wsX5_takesMore wsX0_countFor := goodIn_r _ [7, 8, 9, 10, 11, 38, 39, 40, 41, 42, 43, 44] (by decide +kernel) (by decide +kernel)
set_option maxRecDepth 20000 in
theorem gX5_takesMore_X0_countFor : GoodIn wsX5_takesMore (wsV RX5 193 RX0 yX0_countFor wsX0_countFor) := goodIn_app (goodIn_of _ (by decide +kernel)) ggX5_takesMore_X0_countFor
set_option maxRecDepth 20000 in
theorem ggX5_takesMore_X4_countOf : GoodIn wsX5_takesMore wsX4_countOf := goodIn_r _ [16, 17, 18, 19, 15, 20, 45, 46, 47] (by decide +kernel) (by decide +kernel)
set_option maxRecDepth 20000 in
theorem gX5_takesMore_X4_countOf : GoodIn wsX5_takesMore (wsV RX5 196 RX4 yX4_countOf wsX4_countOf) := goodIn_app (goodIn_of _ (by decide +kernel)) ggX5_takesMore_X4_countOf
set_option maxRecDepth 20000 in
theorem ggX5_takesMore_X5_extraOf : GoodIn wsX5_takesMore wsX5_extraOf := goodIn_r _ [25, 1, 26, 27, 28, 29, 6, 30, 8, 9, 11, 31, 32, 33, 34, 35, 36, 37, 38, 39, 40, 41, 42, 43, 44] (by decide +kernel) (by decide +kernel)
set_option maxRecDepth 20000 in
theorem gX5_takesMore_X5_extraOf : GoodIn wsX5_takesMore (wsV RX5 156 RX5 yX5_extraOf wsX5_extraOf) := goodIn_app (goodIn_of _ (by decide +kernel)) ggX5_takesMore_X5_extraOf
theorem dX5_takesMore_0 : decode cX5_takesMore 0 = .ok (.aload_n 0, 1) := by decide +kernel
theorem dX5_takesMore_1 : decode cX5_takesMore 1 = .ok (.getfield 26, 3) := by decide +kernel
theorem dX5_takesMore_4 : decode cX5_takesMore 4 = .ok (.iload_n 1, 1) := by decide +kernel
theorem dX5_takesMore_5 : decode cX5_takesMore 5 = .ok (.iload_n 2, 1) := by decide +kernel
theorem dX5_takesMore_6 : decode cX5_takesMore 6 = .ok (.iload_n 3, 1) := by decide +kernel
theorem dX5_takesMore_7 : decode cX5_takesMore 7 = .ok (.invokevirtual 193, 3) := by decide +kernel
theorem dX5_takesMore_10 : decode cX5_takesMore 10 = .ok (.aload_n 0, 1) := by decide +kernel
theorem dX5_takesMore_11 : decode cX5_takesMore 11 = .ok (.getfield 10, 3) := by decide +kernel
theorem dX5_takesMore_14 : decode cX5_takesMore 14 = .ok (.iload_n 1, 1) := by decide +kernel
theorem dX5_takesMore_15 : decode cX5_takesMore 15 = .ok (.iload_n 2, 1) := by decide +kernel
theorem dX5_takesMore_16 : decode cX5_takesMore 16 = .ok (.invokevirtual 196, 3) := by decide +kernel
theorem dX5_takesMore_19 : decode cX5_takesMore 19 = .ok (.aload_n 0, 1) := by decide +kernel
theorem dX5_takesMore_20 : decode cX5_takesMore 20 = .ok (.iload_n 1, 1) := by decide +kernel
theorem dX5_takesMore_21 : decode cX5_takesMore 21 = .ok (.invokevirtual 156, 3) := by decide +kernel
theorem dX5_takesMore_24 : decode cX5_takesMore 24 = .ok (.iadd, 1) := by decide +kernel
theorem dX5_takesMore_25 : decode cX5_takesMore 25 = .ok (.if_icmp .ge 7, 3) := by decide +kernel
theorem dX5_takesMore_28 : decode cX5_takesMore 28 = .ok (.iconst 1, 1) := by decide +kernel
theorem dX5_takesMore_29 : decode cX5_takesMore 29 = .ok (.goto 4, 3) := by decide +kernel
theorem dX5_takesMore_32 : decode cX5_takesMore 32 = .ok (.iconst 0, 1) := by decide +kernel
theorem dX5_takesMore_33 : decode cX5_takesMore 33 = .ok (.ireturn, 1) := by decide +kernel
theorem dX5_distance_0 : decode cX5_distance 0 = .ok (.iload_n 0, 1) := by decide +kernel
theorem dX5_distance_1 : decode cX5_distance 1 = .ok (.iload_n 1, 1) := by decide +kernel
theorem dX5_distance_2 : decode cX5_distance 2 = .ok (.isub, 1) := by decide +kernel
theorem dX5_distance_3 : decode cX5_distance 3 = .ok (.invokestatic 199, 3) := by decide +kernel
theorem dX5_distance_6 : decode cX5_distance 6 = .ok (.istore_n 2, 1) := by decide +kernel
theorem dX5_distance_7 : decode cX5_distance 7 = .ok (.iload_n 2, 1) := by decide +kernel
theorem dX5_distance_8 : decode cX5_distance 8 = .ok (.iconst 4, 1) := by decide +kernel
theorem dX5_distance_9 : decode cX5_distance 9 = .ok (.iload_n 2, 1) := by decide +kernel
theorem dX5_distance_10 : decode cX5_distance 10 = .ok (.isub, 1) := by decide +kernel
theorem dX5_distance_11 : decode cX5_distance 11 = .ok (.invokestatic 204, 3) := by decide +kernel
theorem dX5_distance_14 : decode cX5_distance 14 = .ok (.ireturn, 1) := by decide +kernel
set_option maxRecDepth 20000 in
theorem ggX5_findInn_X5_distance : GoodIn wsX5_findInn wsX5_distance := goodIn_r _ [6, 7, 8, 9, 10, 11, 12, 13] (by decide +kernel) (by decide +kernel)
set_option maxRecDepth 20000 in
theorem gX5_findInn_X5_distance : GoodIn wsX5_findInn (va_wsS RX5 207 yX5_distance wsX5_distance) := goodIn_app (goodIn_of _ (by decide +kernel)) ggX5_findInn_X5_distance
set_option maxRecDepth 20000 in
theorem ggX5_findInn_X4_freeOf : GoodIn wsX5_findInn wsX4_freeOf := goodIn_r _ [18, 19, 20, 9, 21, 22, 23, 24, 17, 25, 26, 27, 28, 29, 30, 31, 32, 33, 34, 47, 48, 49] (by decide +kernel) (by decide +kernel)
set_option maxRecDepth 20000 in
theorem gX5_findInn_X4_freeOf : GoodIn wsX5_findInn (wsV RX5 146 RX4 yX4_freeOf wsX4_freeOf) := goodIn_app (goodIn_of _ (by decide +kernel)) ggX5_findInn_X4_freeOf
set_option maxRecDepth 20000 in
theorem ggX5_findInn_X2_giverFor : GoodIn wsX5_findInn wsX2_giverFor := goodIn_r _ [39, 40, 50, 51, 52, 53, 54, 55, 56] (by decide +kernel) (by decide +kernel)
set_option maxRecDepth 20000 in
theorem gX5_findInn_X2_giverFor : GoodIn wsX5_findInn (wsV RX5 210 RX2 yX2_giverFor wsX2_giverFor) := goodIn_app (goodIn_of _ (by decide +kernel)) ggX5_findInn_X2_giverFor
theorem dX5_findInn_0 : decode cX5_findInn 0 = .ok (.iconst 0, 1) := by decide +kernel
theorem dX5_findInn_1 : decode cX5_findInn 1 = .ok (.istore_n 3, 1) := by decide +kernel
theorem dX5_findInn_2 : decode cX5_findInn 2 = .ok (.iload_n 3, 1) := by decide +kernel
theorem dX5_findInn_3 : decode cX5_findInn 3 = .ok (.iconst 2, 1) := by decide +kernel
theorem dX5_findInn_4 : decode cX5_findInn 4 = .ok (.if_icmp .gt 63, 3) := by decide +kernel
theorem dX5_findInn_7 : decode cX5_findInn 7 = .ok (.iconst 0, 1) := by decide +kernel
theorem dX5_findInn_8 : decode cX5_findInn 8 = .ok (.istore 4, 2) := by decide +kernel
theorem dX5_findInn_10 : decode cX5_findInn 10 = .ok (.iload 4, 2) := by decide +kernel
theorem dX5_findInn_12 : decode cX5_findInn 12 = .ok (.iconst 4, 1) := by decide +kernel
theorem dX5_findInn_13 : decode cX5_findInn 13 = .ok (.if_icmp .ge 48, 3) := by decide +kernel
theorem dX5_findInn_16 : decode cX5_findInn 16 = .ok (.iload_n 1, 1) := by decide +kernel
theorem dX5_findInn_17 : decode cX5_findInn 17 = .ok (.iload 4, 2) := by decide +kernel
theorem dX5_findInn_19 : decode cX5_findInn 19 = .ok (.invokestatic 207, 3) := by decide +kernel
theorem dX5_findInn_22 : decode cX5_findInn 22 = .ok (.iload_n 3, 1) := by decide +kernel
theorem dX5_findInn_23 : decode cX5_findInn 23 = .ok (.if_icmp .ne 32, 3) := by decide +kernel
theorem dX5_findInn_26 : decode cX5_findInn 26 = .ok (.aload_n 0, 1) := by decide +kernel
theorem dX5_findInn_27 : decode cX5_findInn 27 = .ok (.getfield 10, 3) := by decide +kernel
theorem dX5_findInn_30 : decode cX5_findInn 30 = .ok (.iload 4, 2) := by decide +kernel
theorem dX5_findInn_32 : decode cX5_findInn 32 = .ok (.iload_n 2, 1) := by decide +kernel
theorem dX5_findInn_33 : decode cX5_findInn 33 = .ok (.invokevirtual 146, 3) := by decide +kernel
theorem dX5_findInn_36 : decode cX5_findInn 36 = .ok (.ifCond .le 19, 3) := by decide +kernel
theorem dX5_findInn_39 : decode cX5_findInn 39 = .ok (.aload_n 0, 1) := by decide +kernel
theorem dX5_findInn_40 : decode cX5_findInn 40 = .ok (.getfield 19, 3) := by decide +kernel
theorem dX5_findInn_43 : decode cX5_findInn 43 = .ok (.iload 4, 2) := by decide +kernel
theorem dX5_findInn_45 : decode cX5_findInn 45 = .ok (.invokevirtual 210, 3) := by decide +kernel
theorem dX5_findInn_48 : decode cX5_findInn 48 = .ok (.iconst (-1), 1) := by decide +kernel
theorem dX5_findInn_49 : decode cX5_findInn 49 = .ok (.if_icmp .eq 6, 3) := by decide +kernel
theorem dX5_findInn_52 : decode cX5_findInn 52 = .ok (.iload 4, 2) := by decide +kernel
theorem dX5_findInn_54 : decode cX5_findInn 54 = .ok (.ireturn, 1) := by decide +kernel
theorem dX5_findInn_55 : decode cX5_findInn 55 = .ok (.iinc 4 1, 3) := by decide +kernel
theorem dX5_findInn_58 : decode cX5_findInn 58 = .ok (.goto (-48), 3) := by decide +kernel
theorem dX5_findInn_61 : decode cX5_findInn 61 = .ok (.iinc 3 1, 3) := by decide +kernel
theorem dX5_findInn_64 : decode cX5_findInn 64 = .ok (.goto (-62), 3) := by decide +kernel
theorem dX5_findInn_67 : decode cX5_findInn 67 = .ok (.iconst (-1), 1) := by decide +kernel
theorem dX5_findInn_68 : decode cX5_findInn 68 = .ok (.ireturn, 1) := by decide +kernel
set_option maxRecDepth 20000 in
theorem ggX5_putUp_X4_priceOf : GoodIn wsX5_putUp wsX4_priceOf := goodIn_r _ [12, 13, 14, 15, 11, 16, 80, 81, 82] (by decide +kernel) (by decide +kernel)
set_option maxRecDepth 20000 in
theorem gX5_putUp_X4_priceOf : GoodIn wsX5_putUp (wsV RX5 213 RX4 yX4_priceOf wsX4_priceOf) := goodIn_app (goodIn_of _ (by decide +kernel)) ggX5_putUp_X4_priceOf
set_option maxRecDepth 20000 in
theorem ggX5_putUp_X1_receive : GoodIn wsX5_putUp wsX1_receive := goodIn_r _ [21, 22, 83, 84] (by decide +kernel) (by decide +kernel)
set_option maxRecDepth 20000 in
theorem gX5_putUp_X1_receive : GoodIn wsX5_putUp (wsV RX5 216 RX1 yX1_receive wsX1_receive) := goodIn_app (goodIn_of _ (by decide +kernel)) ggX5_putUp_X1_receive
set_option maxRecDepth 20000 in
theorem ggX5_putUp_X1_owe : GoodIn wsX5_putUp wsX1_owe := goodIn_r _ [26, 27, 28, 29, 20, 30, 83, 84] (by decide +kernel) (by decide +kernel)
set_option maxRecDepth 20000 in
theorem gX5_putUp_X1_owe : GoodIn wsX5_putUp (wsV RX5 219 RX1 yX1_owe wsX1_owe) := goodIn_app (goodIn_of _ (by decide +kernel)) ggX5_putUp_X1_owe
set_option maxRecDepth 20000 in
theorem ggX5_putUp_X5_layLinen : GoodIn wsX5_putUp wsX5_layLinen := goodIn_r _ [35, 36, 5, 37, 38, 39, 40, 41, 42, 43, 44, 45, 46, 47, 23, 24, 25, 20, 26, 27, 28, 29, 30, 48, 49, 50, 51, 52, 67, 68, 69, 70, 71, 72, 85, 86, 87, 88, 89, 90, 91, 83, 84] (by decide +kernel) (by decide +kernel)
set_option maxRecDepth 20000 in
theorem gX5_putUp_X5_layLinen : GoodIn wsX5_putUp (wsV RX5 222 RX5 yX5_layLinen wsX5_layLinen) := goodIn_app (goodIn_of _ (by decide +kernel)) ggX5_putUp_X5_layLinen
set_option maxRecDepth 20000 in
theorem ggX5_putUp_X4_addSleeper : GoodIn wsX5_putUp wsX4_addSleeper := goodIn_r _ [56, 57, 14, 15, 11, 16, 80, 81, 82] (by decide +kernel) (by decide +kernel)
set_option maxRecDepth 20000 in
theorem gX5_putUp_X4_addSleeper : GoodIn wsX5_putUp (wsV RX5 225 RX4 yX4_addSleeper wsX4_addSleeper) := goodIn_app (goodIn_of _ (by decide +kernel)) ggX5_putUp_X4_addSleeper
set_option maxRecDepth 20000 in
theorem ggX5_putUp_X3_add : GoodIn wsX5_putUp wsX3_add := goodIn_r _ [62, 63, 64, 65, 66, 92, 93, 94, 95] (by decide +kernel) (by decide +kernel)
set_option maxRecDepth 20000 in
theorem gX5_putUp_X3_add : GoodIn wsX5_putUp (wsV RX5 231 RX3 yX3_add wsX3_add) := goodIn_app (goodIn_of _ (by decide +kernel)) ggX5_putUp_X3_add
theorem dX5_putUp_0 : decode cX5_putUp 0 = .ok (.aload_n 0, 1) := by decide +kernel
theorem dX5_putUp_1 : decode cX5_putUp 1 = .ok (.getfield 26, 3) := by decide +kernel
theorem dX5_putUp_4 : decode cX5_putUp 4 = .ok (.getfield 105, 3) := by decide +kernel
theorem dX5_putUp_7 : decode cX5_putUp 7 = .ok (.iload_n 1, 1) := by decide +kernel
theorem dX5_putUp_8 : decode cX5_putUp 8 = .ok (.iaload, 1) := by decide +kernel
theorem dX5_putUp_9 : decode cX5_putUp 9 = .ok (.istore_n 3, 1) := by decide +kernel
theorem dX5_putUp_10 : decode cX5_putUp 10 = .ok (.aload_n 0, 1) := by decide +kernel
theorem dX5_putUp_11 : decode cX5_putUp 11 = .ok (.getfield 26, 3) := by decide +kernel
theorem dX5_putUp_14 : decode cX5_putUp 14 = .ok (.getfield 108, 3) := by decide +kernel
theorem dX5_putUp_17 : decode cX5_putUp 17 = .ok (.iload_n 1, 1) := by decide +kernel
theorem dX5_putUp_18 : decode cX5_putUp 18 = .ok (.iaload, 1) := by decide +kernel
theorem dX5_putUp_19 : decode cX5_putUp 19 = .ok (.istore 4, 2) := by decide +kernel
theorem dX5_putUp_21 : decode cX5_putUp 21 = .ok (.aload_n 0, 1) := by decide +kernel
theorem dX5_putUp_22 : decode cX5_putUp 22 = .ok (.getfield 10, 3) := by decide +kernel
theorem dX5_putUp_25 : decode cX5_putUp 25 = .ok (.iload_n 2, 1) := by decide +kernel
theorem dX5_putUp_26 : decode cX5_putUp 26 = .ok (.iload 4, 2) := by decide +kernel
theorem dX5_putUp_28 : decode cX5_putUp 28 = .ok (.invokevirtual 213, 3) := by decide +kernel
theorem dX5_putUp_31 : decode cX5_putUp 31 = .ok (.istore 5, 2) := by decide +kernel
theorem dX5_putUp_33 : decode cX5_putUp 33 = .ok (.aload_n 0, 1) := by decide +kernel
theorem dX5_putUp_34 : decode cX5_putUp 34 = .ok (.getfield 40, 3) := by decide +kernel
theorem dX5_putUp_37 : decode cX5_putUp 37 = .ok (.iload_n 3, 1) := by decide +kernel
theorem dX5_putUp_38 : decode cX5_putUp 38 = .ok (.aload_n 0, 1) := by decide +kernel
theorem dX5_putUp_39 : decode cX5_putUp 39 = .ok (.getfield 10, 3) := by decide +kernel
theorem dX5_putUp_42 : decode cX5_putUp 42 = .ok (.iload_n 3, 1) := by decide +kernel
theorem dX5_putUp_43 : decode cX5_putUp 43 = .ok (.iload 4, 2) := by decide +kernel
theorem dX5_putUp_45 : decode cX5_putUp 45 = .ok (.invokevirtual 213, 3) := by decide +kernel
theorem dX5_putUp_48 : decode cX5_putUp 48 = .ok (.invokevirtual 216, 3) := by decide +kernel
theorem dX5_putUp_51 : decode cX5_putUp 51 = .ok (.iload_n 2, 1) := by decide +kernel
theorem dX5_putUp_52 : decode cX5_putUp 52 = .ok (.iload_n 3, 1) := by decide +kernel
theorem dX5_putUp_53 : decode cX5_putUp 53 = .ok (.if_icmp .eq 14, 3) := by decide +kernel
theorem dX5_putUp_56 : decode cX5_putUp 56 = .ok (.aload_n 0, 1) := by decide +kernel
theorem dX5_putUp_57 : decode cX5_putUp 57 = .ok (.getfield 40, 3) := by decide +kernel
theorem dX5_putUp_60 : decode cX5_putUp 60 = .ok (.iload_n 3, 1) := by decide +kernel
theorem dX5_putUp_61 : decode cX5_putUp 61 = .ok (.iload_n 2, 1) := by decide +kernel
theorem dX5_putUp_62 : decode cX5_putUp 62 = .ok (.iload 5, 2) := by decide +kernel
theorem dX5_putUp_64 : decode cX5_putUp 64 = .ok (.invokevirtual 219, 3) := by decide +kernel
theorem dX5_putUp_67 : decode cX5_putUp 67 = .ok (.aload_n 0, 1) := by decide +kernel
theorem dX5_putUp_68 : decode cX5_putUp 68 = .ok (.iload_n 2, 1) := by decide +kernel
theorem dX5_putUp_69 : decode cX5_putUp 69 = .ok (.invokevirtual 222, 3) := by decide +kernel
theorem dX5_putUp_72 : decode cX5_putUp 72 = .ok (.aload_n 0, 1) := by decide +kernel
theorem dX5_putUp_73 : decode cX5_putUp 73 = .ok (.getfield 10, 3) := by decide +kernel
theorem dX5_putUp_76 : decode cX5_putUp 76 = .ok (.iload_n 2, 1) := by decide +kernel
theorem dX5_putUp_77 : decode cX5_putUp 77 = .ok (.iload 4, 2) := by decide +kernel
theorem dX5_putUp_79 : decode cX5_putUp 79 = .ok (.invokevirtual 225, 3) := by decide +kernel
theorem dX5_putUp_82 : decode cX5_putUp 82 = .ok (.aload_n 0, 1) := by decide +kernel
theorem dX5_putUp_83 : decode cX5_putUp 83 = .ok (.getfield 33, 3) := by decide +kernel
theorem dX5_putUp_86 : decode cX5_putUp 86 = .ok (.aload_n 0, 1) := by decide +kernel
theorem dX5_putUp_87 : decode cX5_putUp 87 = .ok (.getfield 26, 3) := by decide +kernel
theorem dX5_putUp_90 : decode cX5_putUp 90 = .ok (.getfield 228, 3) := by decide +kernel
theorem dX5_putUp_93 : decode cX5_putUp 93 = .ok (.iload_n 1, 1) := by decide +kernel
theorem dX5_putUp_94 : decode cX5_putUp 94 = .ok (.iaload, 1) := by decide +kernel
theorem dX5_putUp_95 : decode cX5_putUp 95 = .ok (.iload_n 2, 1) := by decide +kernel
theorem dX5_putUp_96 : decode cX5_putUp 96 = .ok (.iload 5, 2) := by decide +kernel
theorem dX5_putUp_98 : decode cX5_putUp 98 = .ok (.bipush 10, 2) := by decide +kernel
theorem dX5_putUp_100 : decode cX5_putUp 100 = .ok (.idiv, 1) := by decide +kernel
theorem dX5_putUp_101 : decode cX5_putUp 101 = .ok (.invokevirtual 231, 3) := by decide +kernel
theorem dX5_putUp_104 : decode cX5_putUp 104 = .ok (.return_, 1) := by decide +kernel
set_option maxRecDepth 20000 in
theorem ggX5_layLinen_X2_giverFor : GoodIn wsX5_layLinen wsX2_giverFor := goodIn_r _ [7, 8, 34, 35, 36, 37, 38, 39, 40] (by decide +kernel) (by decide +kernel)
set_option maxRecDepth 20000 in
theorem gX5_layLinen_X2_giverFor : GoodIn wsX5_layLinen (wsV RX5 210 RX2 yX2_giverFor wsX2_giverFor) := goodIn_app (goodIn_of _ (by decide +kernel)) ggX5_layLinen_X2_giverFor
set_option maxRecDepth 20000 in
theorem ggX5_layLinen_X2_chargeForBorrowing : GoodIn wsX5_layLinen wsX2_chargeForBorrowing := goodIn_r _ [12, 13, 34, 35, 36, 37, 38, 39, 40] (by decide +kernel) (by decide +kernel)
set_option maxRecDepth 20000 in
theorem gX5_layLinen_X2_chargeForBorrowing : GoodIn wsX5_layLinen (wsV RX5 233 RX2 yX2_chargeForBorrowing wsX2_chargeForBorrowing) := goodIn_app (goodIn_of _ (by decide +kernel)) ggX5_layLinen_X2_chargeForBorrowing
set_option maxRecDepth 20000 in
theorem ggX5_layLinen_X1_owe : GoodIn wsX5_layLinen wsX1_owe := goodIn_r _ [18, 19, 20, 21, 17, 22, 41, 42] (by decide +kernel) (by decide +kernel)
set_option maxRecDepth 20000 in
theorem gX5_layLinen_X1_owe : GoodIn wsX5_layLinen (wsV RX5 219 RX1 yX1_owe wsX1_owe) := goodIn_app (goodIn_of _ (by decide +kernel)) ggX5_layLinen_X1_owe
set_option maxRecDepth 20000 in
theorem ggX5_layLinen_X2_take : GoodIn wsX5_layLinen wsX2_take := goodIn_r _ [26, 8, 27, 13, 34, 35, 36, 37, 38, 39, 40] (by decide +kernel) (by decide +kernel)
set_option maxRecDepth 20000 in
theorem gX5_layLinen_X2_take : GoodIn wsX5_layLinen (wsV RX5 236 RX2 yX2_take wsX2_take) := goodIn_app (goodIn_of _ (by decide +kernel)) ggX5_layLinen_X2_take
theorem dX5_layLinen_0 : decode cX5_layLinen 0 = .ok (.aload_n 0, 1) := by decide +kernel
theorem dX5_layLinen_1 : decode cX5_layLinen 1 = .ok (.getfield 19, 3) := by decide +kernel
theorem dX5_layLinen_4 : decode cX5_layLinen 4 = .ok (.iload_n 1, 1) := by decide +kernel
theorem dX5_layLinen_5 : decode cX5_layLinen 5 = .ok (.invokevirtual 210, 3) := by decide +kernel
theorem dX5_layLinen_8 : decode cX5_layLinen 8 = .ok (.istore_n 2, 1) := by decide +kernel
theorem dX5_layLinen_9 : decode cX5_layLinen 9 = .ok (.iload_n 2, 1) := by decide +kernel
theorem dX5_layLinen_10 : decode cX5_layLinen 10 = .ok (.iconst (-1), 1) := by decide +kernel
theorem dX5_layLinen_11 : decode cX5_layLinen 11 = .ok (.if_icmp .ne 4, 3) := by decide +kernel
theorem dX5_layLinen_14 : decode cX5_layLinen 14 = .ok (.return_, 1) := by decide +kernel
theorem dX5_layLinen_15 : decode cX5_layLinen 15 = .ok (.iload_n 2, 1) := by decide +kernel
theorem dX5_layLinen_16 : decode cX5_layLinen 16 = .ok (.iload_n 1, 1) := by decide +kernel
theorem dX5_layLinen_17 : decode cX5_layLinen 17 = .ok (.if_icmp .eq 19, 3) := by decide +kernel
theorem dX5_layLinen_20 : decode cX5_layLinen 20 = .ok (.aload_n 0, 1) := by decide +kernel
theorem dX5_layLinen_21 : decode cX5_layLinen 21 = .ok (.getfield 40, 3) := by decide +kernel
theorem dX5_layLinen_24 : decode cX5_layLinen 24 = .ok (.iload_n 1, 1) := by decide +kernel
theorem dX5_layLinen_25 : decode cX5_layLinen 25 = .ok (.iload_n 2, 1) := by decide +kernel
theorem dX5_layLinen_26 : decode cX5_layLinen 26 = .ok (.aload_n 0, 1) := by decide +kernel
theorem dX5_layLinen_27 : decode cX5_layLinen 27 = .ok (.getfield 19, 3) := by decide +kernel
theorem dX5_layLinen_30 : decode cX5_layLinen 30 = .ok (.invokevirtual 233, 3) := by decide +kernel
theorem dX5_layLinen_33 : decode cX5_layLinen 33 = .ok (.invokevirtual 219, 3) := by decide +kernel
theorem dX5_layLinen_36 : decode cX5_layLinen 36 = .ok (.aload_n 0, 1) := by decide +kernel
theorem dX5_layLinen_37 : decode cX5_layLinen 37 = .ok (.getfield 19, 3) := by decide +kernel
theorem dX5_layLinen_40 : decode cX5_layLinen 40 = .ok (.iload_n 1, 1) := by decide +kernel
theorem dX5_layLinen_41 : decode cX5_layLinen 41 = .ok (.iload_n 2, 1) := by decide +kernel
theorem dX5_layLinen_42 : decode cX5_layLinen 42 = .ok (.invokevirtual 236, 3) := by decide +kernel
theorem dX5_layLinen_45 : decode cX5_layLinen 45 = .ok (.return_, 1) := by decide +kernel
set_option maxRecDepth 20000 in
theorem ggX5_burnEarliest_X3_takeFrom : GoodIn wsX5_burnEarliest wsX3_takeFrom := goodIn_r _ [9, 10, 11, 12, 13, 14, 15, 31, 32, 33, 34] (by decide +kernel) (by decide +kernel)
set_option maxRecDepth 20000 in
theorem gX5_burnEarliest_X3_takeFrom : GoodIn wsX5_burnEarliest (wsV RX5 242 RX3 yX3_takeFrom wsX3_takeFrom) := goodIn_app (goodIn_of _ (by decide +kernel)) ggX5_burnEarliest_X3_takeFrom
set_option maxRecDepth 20000 in
theorem ggX5_burnEarliest_X1_owe : GoodIn wsX5_burnEarliest wsX1_owe := goodIn_r _ [20, 21, 22, 23, 19, 24, 35, 36] (by decide +kernel) (by decide +kernel)
set_option maxRecDepth 20000 in
theorem gX5_burnEarliest_X1_owe : GoodIn wsX5_burnEarliest (wsV RX5 219 RX1 yX1_owe wsX1_owe) := goodIn_app (goodIn_of _ (by decide +kernel)) ggX5_burnEarliest_X1_owe
theorem dX5_burnEarliest_0 : decode cX5_burnEarliest 0 = .ok (.iload_n 3, 1) := by decide +kernel
theorem dX5_burnEarliest_1 : decode cX5_burnEarliest 1 = .ok (.istore 4, 2) := by decide +kernel
theorem dX5_burnEarliest_3 : decode cX5_burnEarliest 3 = .ok (.iconst 0, 1) := by decide +kernel
theorem dX5_burnEarliest_4 : decode cX5_burnEarliest 4 = .ok (.istore 5, 2) := by decide +kernel
theorem dX5_burnEarliest_6 : decode cX5_burnEarliest 6 = .ok (.iload 5, 2) := by decide +kernel
theorem dX5_burnEarliest_8 : decode cX5_burnEarliest 8 = .ok (.aload_n 0, 1) := by decide +kernel
theorem dX5_burnEarliest_9 : decode cX5_burnEarliest 9 = .ok (.getfield 33, 3) := by decide +kernel
theorem dX5_burnEarliest_12 : decode cX5_burnEarliest 12 = .ok (.getfield 239, 3) := by decide +kernel
theorem dX5_burnEarliest_15 : decode cX5_burnEarliest 15 = .ok (.if_icmp .ge 69, 3) := by decide +kernel
theorem dX5_burnEarliest_18 : decode cX5_burnEarliest 18 = .ok (.iload 4, 2) := by decide +kernel
theorem dX5_burnEarliest_20 : decode cX5_burnEarliest 20 = .ok (.ifCond .le 64, 3) := by decide +kernel
theorem dX5_burnEarliest_23 : decode cX5_burnEarliest 23 = .ok (.aload_n 0, 1) := by decide +kernel
theorem dX5_burnEarliest_24 : decode cX5_burnEarliest 24 = .ok (.getfield 33, 3) := by decide +kernel
theorem dX5_burnEarliest_27 : decode cX5_burnEarliest 27 = .ok (.iload 5, 2) := by decide +kernel
theorem dX5_burnEarliest_29 : decode cX5_burnEarliest 29 = .ok (.iload_n 1, 1) := by decide +kernel
theorem dX5_burnEarliest_30 : decode cX5_burnEarliest 30 = .ok (.iload 4, 2) := by decide +kernel
theorem dX5_burnEarliest_32 : decode cX5_burnEarliest 32 = .ok (.invokevirtual 242, 3) := by decide +kernel
theorem dX5_burnEarliest_35 : decode cX5_burnEarliest 35 = .ok (.istore 6, 2) := by decide +kernel
theorem dX5_burnEarliest_37 : decode cX5_burnEarliest 37 = .ok (.iload 4, 2) := by decide +kernel
theorem dX5_burnEarliest_39 : decode cX5_burnEarliest 39 = .ok (.iload 6, 2) := by decide +kernel
theorem dX5_burnEarliest_41 : decode cX5_burnEarliest 41 = .ok (.isub, 1) := by decide +kernel
theorem dX5_burnEarliest_42 : decode cX5_burnEarliest 42 = .ok (.istore 4, 2) := by decide +kernel
theorem dX5_burnEarliest_44 : decode cX5_burnEarliest 44 = .ok (.aload_n 0, 1) := by decide +kernel
theorem dX5_burnEarliest_45 : decode cX5_burnEarliest 45 = .ok (.getfield 33, 3) := by decide +kernel
theorem dX5_burnEarliest_48 : decode cX5_burnEarliest 48 = .ok (.getfield 245, 3) := by decide +kernel
theorem dX5_burnEarliest_51 : decode cX5_burnEarliest 51 = .ok (.iload 5, 2) := by decide +kernel
theorem dX5_burnEarliest_53 : decode cX5_burnEarliest 53 = .ok (.iaload, 1) := by decide +kernel
theorem dX5_burnEarliest_54 : decode cX5_burnEarliest 54 = .ok (.iload_n 2, 1) := by decide +kernel
theorem dX5_burnEarliest_55 : decode cX5_burnEarliest 55 = .ok (.if_icmp .eq 23, 3) := by decide +kernel
theorem dX5_burnEarliest_58 : decode cX5_burnEarliest 58 = .ok (.aload_n 0, 1) := by decide +kernel
theorem dX5_burnEarliest_59 : decode cX5_burnEarliest 59 = .ok (.getfield 40, 3) := by decide +kernel
theorem dX5_burnEarliest_62 : decode cX5_burnEarliest 62 = .ok (.aload_n 0, 1) := by decide +kernel
theorem dX5_burnEarliest_63 : decode cX5_burnEarliest 63 = .ok (.getfield 33, 3) := by decide +kernel
theorem dX5_burnEarliest_66 : decode cX5_burnEarliest 66 = .ok (.getfield 245, 3) := by decide +kernel
theorem dX5_burnEarliest_69 : decode cX5_burnEarliest 69 = .ok (.iload 5, 2) := by decide +kernel
theorem dX5_burnEarliest_71 : decode cX5_burnEarliest 71 = .ok (.iaload, 1) := by decide +kernel
theorem dX5_burnEarliest_72 : decode cX5_burnEarliest 72 = .ok (.iload_n 2, 1) := by decide +kernel
theorem dX5_burnEarliest_73 : decode cX5_burnEarliest 73 = .ok (.iload 6, 2) := by decide +kernel
theorem dX5_burnEarliest_75 : decode cX5_burnEarliest 75 = .ok (.invokevirtual 219, 3) := by decide +kernel
theorem dX5_burnEarliest_78 : decode cX5_burnEarliest 78 = .ok (.iinc 5 1, 3) := by decide +kernel
theorem dX5_burnEarliest_81 : decode cX5_burnEarliest 81 = .ok (.goto (-75), 3) := by decide +kernel
theorem dX5_burnEarliest_84 : decode cX5_burnEarliest 84 = .ok (.return_, 1) := by decide +kernel
theorem dJ9_abs_0f7a4_0 : decode cJ9_abs_0f7a4 0 = .ok (.iload_n 0, 1) := by decide +kernel
theorem dJ9_abs_0f7a4_1 : decode cJ9_abs_0f7a4 1 = .ok (.ifCond .ge 8, 3) := by decide +kernel
theorem dJ9_abs_0f7a4_4 : decode cJ9_abs_0f7a4 4 = .ok (.iload_n 0, 1) := by decide +kernel
theorem dJ9_abs_0f7a4_5 : decode cJ9_abs_0f7a4 5 = .ok (.ineg, 1) := by decide +kernel
theorem dJ9_abs_0f7a4_6 : decode cJ9_abs_0f7a4 6 = .ok (.goto 4, 3) := by decide +kernel
theorem dJ9_abs_0f7a4_9 : decode cJ9_abs_0f7a4 9 = .ok (.iload_n 0, 1) := by decide +kernel
theorem dJ9_abs_0f7a4_10 : decode cJ9_abs_0f7a4 10 = .ok (.ireturn, 1) := by decide +kernel
theorem dJ9_max_7cf53_0 : decode cJ9_max_7cf53 0 = .ok (.iload_n 0, 1) := by decide +kernel
theorem dJ9_max_7cf53_1 : decode cJ9_max_7cf53 1 = .ok (.iload_n 1, 1) := by decide +kernel
theorem dJ9_max_7cf53_2 : decode cJ9_max_7cf53 2 = .ok (.if_icmp .lt 7, 3) := by decide +kernel
theorem dJ9_max_7cf53_5 : decode cJ9_max_7cf53 5 = .ok (.iload_n 0, 1) := by decide +kernel
theorem dJ9_max_7cf53_6 : decode cJ9_max_7cf53 6 = .ok (.goto 4, 3) := by decide +kernel
theorem dJ9_max_7cf53_9 : decode cJ9_max_7cf53 9 = .ok (.iload_n 1, 1) := by decide +kernel
theorem dJ9_max_7cf53_10 : decode cJ9_max_7cf53 10 = .ok (.ireturn, 1) := by decide +kernel
theorem dJ9_min_7cf53_0 : decode cJ9_min_7cf53 0 = .ok (.iload_n 0, 1) := by decide +kernel
theorem dJ9_min_7cf53_1 : decode cJ9_min_7cf53 1 = .ok (.iload_n 1, 1) := by decide +kernel
theorem dJ9_min_7cf53_2 : decode cJ9_min_7cf53 2 = .ok (.if_icmp .gt 7, 3) := by decide +kernel
theorem dJ9_min_7cf53_5 : decode cJ9_min_7cf53 5 = .ok (.iload_n 0, 1) := by decide +kernel
theorem dJ9_min_7cf53_6 : decode cJ9_min_7cf53 6 = .ok (.goto 4, 3) := by decide +kernel
theorem dJ9_min_7cf53_9 : decode cJ9_min_7cf53 9 = .ok (.iload_n 1, 1) := by decide +kernel
theorem dJ9_min_7cf53_10 : decode cJ9_min_7cf53 10 = .ok (.ireturn, 1) := by decide +kernel
theorem dL_told_0 : decode cL_told 0 = .ok (.iload_n 1, 1) := by decide +kernel
theorem dL_told_1 : decode cL_told 1 = .ok (.aload_n 0, 1) := by decide +kernel
theorem dL_told_2 : decode cL_told 2 = .ok (.arraylength, 1) := by decide +kernel
theorem dL_told_3 : decode cL_told 3 = .ok (.if_icmp .ge 9, 3) := by decide +kernel
theorem dL_told_6 : decode cL_told 6 = .ok (.aload_n 0, 1) := by decide +kernel
theorem dL_told_7 : decode cL_told 7 = .ok (.iload_n 1, 1) := by decide +kernel
theorem dL_told_8 : decode cL_told 8 = .ok (.iaload, 1) := by decide +kernel
theorem dL_told_9 : decode cL_told 9 = .ok (.goto 14, 3) := by decide +kernel
theorem dL_told_12 : decode cL_told 12 = .ok (.ldc 7, 2) := by decide +kernel
theorem dL_told_14 : decode cL_told 14 = .ok (.iload_n 1, 1) := by decide +kernel
theorem dL_told_15 : decode cL_told 15 = .ok (.bipush 7, 2) := by decide +kernel
theorem dL_told_17 : decode cL_told 17 = .ok (.iadd, 1) := by decide +kernel
theorem dL_told_18 : decode cL_told 18 = .ok (.imul, 1) := by decide +kernel
theorem dL_told_19 : decode cL_told 19 = .ok (.iload_n 1, 1) := by decide +kernel
theorem dL_told_20 : decode cL_told 20 = .ok (.iconst 4, 1) := by decide +kernel
theorem dL_told_21 : decode cL_told 21 = .ok (.iadd, 1) := by decide +kernel
theorem dL_told_22 : decode cL_told 22 = .ok (.imul, 1) := by decide +kernel
theorem dL_told_23 : decode cL_told 23 = .ok (.ldc 8, 2) := by decide +kernel
theorem dL_told_25 : decode cL_told 25 = .ok (.iand, 1) := by decide +kernel
theorem dL_told_26 : decode cL_told 26 = .ok (.ireturn, 1) := by decide +kernel
set_option maxRecDepth 20000 in
theorem ggL_sum_X5_purse : GoodIn wsL_sum wsX5_purse := goodIn_ca (goodIn_r _ [5, 6, 7, 8, 9, 4, 10, 11, 12, 32, 33, 34, 35, 36, 37, 38, 39] (by decide +kernel) (by decide +kernel)) (goodIn_sub (fun _ h => List.mem_cons_of_mem _ (List.mem_append_right _ h)) (by decide +kernel))
set_option maxRecDepth 20000 in
theorem gL_sum_X5_purse : GoodIn wsL_sum (wsV RL 9 RX5 yX5_purse wsX5_purse) := goodIn_app (goodIn_of _ (by decide +kernel)) ggL_sum_X5_purse
set_option maxRecDepth 20000 in
theorem ggL_sum_X5_clean : GoodIn wsL_sum wsX5_clean := goodIn_ca (goodIn_r _ [16, 17, 18, 8, 9, 4, 10, 11, 12, 32, 33, 34, 35, 36, 37, 40, 41, 42, 43, 44, 45, 46] (by decide +kernel) (by decide +kernel)) (goodIn_sub (fun _ h => List.mem_cons_of_mem _ (List.mem_append_right _ h)) (by decide +kernel))
set_option maxRecDepth 20000 in
theorem gL_sum_X5_clean : GoodIn wsL_sum (wsV RL 15 RX5 yX5_clean wsX5_clean) := goodIn_app (goodIn_of _ (by decide +kernel)) ggL_sum_X5_clean
set_option maxRecDepth 20000 in
theorem ggL_sum_X5_away : GoodIn wsL_sum wsX5_away := goodIn_ca (goodIn_r _ [22, 17, 8, 9, 4, 10, 11, 12, 23, 24, 25, 26, 27, 28, 29, 30, 31, 32, 33, 34, 35, 36, 37, 40, 41, 42, 43, 44, 45, 46] (by decide +kernel) (by decide +kernel)) (goodIn_sub (fun _ h => List.mem_cons_of_mem _ (List.mem_append_right _ h)) (by decide +kernel))
set_option maxRecDepth 20000 in
theorem gL_sum_X5_away : GoodIn wsL_sum (wsV RL 18 RX5 yX5_away wsX5_away) := goodIn_app (goodIn_of _ (by decide +kernel)) ggL_sum_X5_away
theorem dL_sum_0 : decode cL_sum 0 = .ok (.iconst 0, 1) := by decide +kernel
theorem dL_sum_1 : decode cL_sum 1 = .ok (.istore_n 2, 1) := by decide +kernel
theorem dL_sum_2 : decode cL_sum 2 = .ok (.iconst 0, 1) := by decide +kernel
theorem dL_sum_3 : decode cL_sum 3 = .ok (.istore_n 3, 1) := by decide +kernel
theorem dL_sum_4 : decode cL_sum 4 = .ok (.iload_n 3, 1) := by decide +kernel
theorem dL_sum_5 : decode cL_sum 5 = .ok (.iconst 4, 1) := by decide +kernel
theorem dL_sum_6 : decode cL_sum 6 = .ok (.if_icmp .ge 35, 3) := by decide +kernel
theorem dL_sum_9 : decode cL_sum 9 = .ok (.iload_n 2, 1) := by decide +kernel
theorem dL_sum_10 : decode cL_sum 10 = .ok (.iload_n 1, 1) := by decide +kernel
theorem dL_sum_11 : decode cL_sum 11 = .ok (.ifCond .ne 11, 3) := by decide +kernel
theorem dL_sum_14 : decode cL_sum 14 = .ok (.aload_n 0, 1) := by decide +kernel
theorem dL_sum_15 : decode cL_sum 15 = .ok (.iload_n 3, 1) := by decide +kernel
theorem dL_sum_16 : decode cL_sum 16 = .ok (.invokevirtual 9, 3) := by decide +kernel
theorem dL_sum_19 : decode cL_sum 19 = .ok (.goto 14, 3) := by decide +kernel
theorem dL_sum_22 : decode cL_sum 22 = .ok (.aload_n 0, 1) := by decide +kernel
theorem dL_sum_23 : decode cL_sum 23 = .ok (.iload_n 3, 1) := by decide +kernel
theorem dL_sum_24 : decode cL_sum 24 = .ok (.invokevirtual 15, 3) := by decide +kernel
theorem dL_sum_27 : decode cL_sum 27 = .ok (.aload_n 0, 1) := by decide +kernel
theorem dL_sum_28 : decode cL_sum 28 = .ok (.iload_n 3, 1) := by decide +kernel
theorem dL_sum_29 : decode cL_sum 29 = .ok (.invokevirtual 18, 3) := by decide +kernel
theorem dL_sum_32 : decode cL_sum 32 = .ok (.iadd, 1) := by decide +kernel
theorem dL_sum_33 : decode cL_sum 33 = .ok (.iadd, 1) := by decide +kernel
theorem dL_sum_34 : decode cL_sum 34 = .ok (.istore_n 2, 1) := by decide +kernel
theorem dL_sum_35 : decode cL_sum 35 = .ok (.iinc 3 1, 3) := by decide +kernel
theorem dL_sum_38 : decode cL_sum 38 = .ok (.goto (-34), 3) := by decide +kernel
theorem dL_sum_41 : decode cL_sum 41 = .ok (.iload_n 2, 1) := by decide +kernel
theorem dL_sum_42 : decode cL_sum 42 = .ok (.ireturn, 1) := by decide +kernel
theorem dL_booked_0 : decode cL_booked 0 = .ok (.iconst 0, 1) := by decide +kernel
theorem dL_booked_1 : decode cL_booked 1 = .ok (.istore_n 3, 1) := by decide +kernel
theorem dL_booked_2 : decode cL_booked 2 = .ok (.iconst 0, 1) := by decide +kernel
theorem dL_booked_3 : decode cL_booked 3 = .ok (.istore 4, 2) := by decide +kernel
theorem dL_booked_5 : decode cL_booked 5 = .ok (.iload 4, 2) := by decide +kernel
theorem dL_booked_7 : decode cL_booked 7 = .ok (.iload_n 1, 1) := by decide +kernel
theorem dL_booked_8 : decode cL_booked 8 = .ok (.if_icmp .ge 25, 3) := by decide +kernel
theorem dL_booked_11 : decode cL_booked 11 = .ok (.iload_n 3, 1) := by decide +kernel
theorem dL_booked_12 : decode cL_booked 12 = .ok (.aload_n 0, 1) := by decide +kernel
theorem dL_booked_13 : decode cL_booked 13 = .ok (.iload 4, 2) := by decide +kernel
theorem dL_booked_15 : decode cL_booked 15 = .ok (.iaload, 1) := by decide +kernel
theorem dL_booked_16 : decode cL_booked 16 = .ok (.iload_n 2, 1) := by decide +kernel
theorem dL_booked_17 : decode cL_booked 17 = .ok (.if_icmp .ne 7, 3) := by decide +kernel
theorem dL_booked_20 : decode cL_booked 20 = .ok (.iconst 1, 1) := by decide +kernel
theorem dL_booked_21 : decode cL_booked 21 = .ok (.goto 4, 3) := by decide +kernel
theorem dL_booked_24 : decode cL_booked 24 = .ok (.iconst 0, 1) := by decide +kernel
theorem dL_booked_25 : decode cL_booked 25 = .ok (.iadd, 1) := by decide +kernel
theorem dL_booked_26 : decode cL_booked 26 = .ok (.istore_n 3, 1) := by decide +kernel
theorem dL_booked_27 : decode cL_booked 27 = .ok (.iinc 4 1, 3) := by decide +kernel
theorem dL_booked_30 : decode cL_booked 30 = .ok (.goto (-25), 3) := by decide +kernel
theorem dL_booked_33 : decode cL_booked 33 = .ok (.iload_n 3, 1) := by decide +kernel
theorem dL_booked_34 : decode cL_booked 34 = .ok (.ireturn, 1) := by decide +kernel
set_option maxRecDepth 20000 in
theorem ggL_does_X5_bookings : GoodIn wsL_does wsX5_bookings := goodIn_r _ [5, 6, 7, 299, 300, 301, 302, 303, 304, 305, 306, 307, 308, 309, 310, 311] (by decide +kernel) (by decide +kernel)
set_option maxRecDepth 20000 in
theorem gL_does_X5_bookings : GoodIn wsL_does (wsV RL 21 RX5 yX5_bookings wsX5_bookings) := goodIn_app (goodIn_of _ (by decide +kernel)) ggL_does_X5_bookings
set_option maxRecDepth 20000 in
theorem ggL_does_X5_setRooms : GoodIn wsL_does wsX5_setRooms := goodIn_ca (goodIn_ca (goodIn_r _ [11, 12, 13, 14, 4, 15, 16, 17, 18, 19, 20, 21, 22, 23, 24, 25, 26, 27, 28, 29, 30, 31, 32, 33, 34, 35, 299, 300, 301, 302, 303, 304, 312, 313, 314] (by decide +kernel) (by decide +kernel)) (goodIn_sub (fun _ h => List.mem_cons_of_mem _ (List.mem_append_left _ (List.mem_append_left _ (List.mem_append_right _ h)))) (by decide +kernel))) (goodIn_sub (fun _ h => List.mem_cons_of_mem _ (List.mem_append_left _ (List.mem_append_right _ h))) (by decide +kernel))
set_option maxRecDepth 20000 in
theorem gL_does_X5_setRooms : GoodIn wsL_does (wsV RL 25 RX5 yX5_setRooms wsX5_setRooms) := goodIn_app (goodIn_of _ (by decide +kernel)) ggL_does_X5_setRooms
set_option maxRecDepth 20000 in
theorem ggL_does_X5_clean : GoodIn wsL_does wsX5_clean := goodIn_ca (goodIn_r _ [39, 40, 41, 13, 14, 4, 15, 16, 17, 299, 300, 301, 302, 303, 304, 315, 316, 317, 318, 319, 320, 321] (by decide +kernel) (by decide +kernel)) (goodIn_sub (fun _ h => List.mem_cons_of_mem _ (List.mem_append_left _ (List.mem_append_left _ (List.mem_append_right _ h)))) (by decide +kernel))
set_option maxRecDepth 20000 in
theorem gL_does_X5_clean : GoodIn wsL_does (wsV RL 15 RX5 yX5_clean wsX5_clean) := goodIn_app (goodIn_of _ (by decide +kernel)) ggL_does_X5_clean
set_option maxRecDepth 20000 in
theorem ggL_does_X5_buyLinen : GoodIn wsL_does wsX5_buyLinen := goodIn_ca (goodIn_ca (goodIn_r _ [45, 40, 13, 14, 4, 15, 16, 17, 21, 22, 23, 24, 25, 46, 47, 48, 49, 50, 51, 299, 300, 301, 302, 303, 304, 315, 316, 317, 318, 319, 320, 321] (by decide +kernel) (by decide +kernel)) (goodIn_sub (fun _ h => List.mem_cons_of_mem _ (List.mem_append_left _ (List.mem_append_left _ (List.mem_append_right _ h)))) (by decide +kernel))) (goodIn_sub (fun _ h => List.mem_cons_of_mem _ (List.mem_append_left _ (List.mem_append_right _ h))) (by decide +kernel))
set_option maxRecDepth 20000 in
theorem gL_does_X5_buyLinen : GoodIn wsL_does (wsV RL 29 RX5 yX5_buyLinen wsX5_buyLinen) := goodIn_app (goodIn_of _ (by decide +kernel)) ggL_does_X5_buyLinen
set_option maxRecDepth 20000 in
theorem ggL_does_X5_setBroken : GoodIn wsL_does wsX5_setBroken := goodIn_r _ [55, 40, 56, 57, 58, 49, 59, 60, 299, 300, 301, 302, 303, 304, 315, 316, 317, 318, 319, 320, 321] (by decide +kernel) (by decide +kernel)
set_option maxRecDepth 20000 in
theorem gL_does_X5_setBroken : GoodIn wsL_does (wsV RL 33 RX5 yX5_setBroken wsX5_setBroken) := goodIn_app (goodIn_of _ (by decide +kernel)) ggL_does_X5_setBroken
set_option maxRecDepth 20000 in
theorem ggL_does_X5_today : GoodIn wsL_does wsX5_today := goodIn_r _ [64, 65, 299, 300, 301, 302, 303, 304] (by decide +kernel) (by decide +kernel)
set_option maxRecDepth 20000 in
theorem gL_does_X5_today : GoodIn wsL_does (wsV RL 37 RX5 yX5_today wsX5_today) := goodIn_app (goodIn_of _ (by decide +kernel)) ggL_does_X5_today
set_option maxRecDepth 20000 in
theorem ggL_does_L_booked : GoodIn wsL_does wsL_booked := goodIn_r _ [69] (by decide +kernel) (by decide +kernel)
set_option maxRecDepth 20000 in
theorem gL_does_L_booked : GoodIn wsL_does (va_wsS RL 40 yL_booked wsL_booked) := goodIn_app (goodIn_of _ (by decide +kernel)) ggL_does_L_booked
set_option maxRecDepth 20000 in
theorem ggL_does_X5_extra : GoodIn wsL_does wsX5_extra := goodIn_ca (goodIn_r _ [73, 13, 14, 4, 15, 16, 17, 74, 75, 76, 77, 6, 65, 78, 79, 80, 81, 82, 83, 84, 85, 86, 299, 300, 301, 302, 303, 304, 305, 306, 307, 308, 309, 310, 311] (by decide +kernel) (by decide +kernel)) (goodIn_sub (fun _ h => List.mem_cons_of_mem _ (List.mem_append_left _ (List.mem_append_left _ (List.mem_append_right _ h)))) (by decide +kernel))
set_option maxRecDepth 20000 in
theorem gL_does_X5_extra : GoodIn wsL_does (wsV RL 46 RX5 yX5_extra wsX5_extra) := goodIn_app (goodIn_of _ (by decide +kernel)) ggL_does_X5_extra
set_option maxRecDepth 20000 in
theorem ggL_does_X5_book : GoodIn wsL_does wsX5_book := goodIn_ca (goodIn_ca (goodIn_ca (goodIn_r _ [90, 91, 92, 65, 6, 93, 94, 4, 95, 16, 17, 13, 14, 15, 18, 19, 20, 21, 22, 23, 24, 25, 96, 97, 98, 81, 99, 83, 100, 101, 102, 103, 12, 104, 105, 106, 107, 84, 108, 85, 109, 110, 111, 29, 112, 31, 33, 34, 35, 74, 75, 76, 77, 78, 79, 80, 82, 86, 113, 114, 115, 116, 117, 118, 299, 300, 301, 302, 303, 304, 305, 306, 307, 308, 309, 310, 311, 312, 313, 314] (by decide +kernel) (by decide +kernel)) (goodIn_sub (fun _ h => List.mem_cons_of_mem _ (List.mem_append_right _ h)) (by decide +kernel))) (goodIn_sub (fun _ h => List.mem_cons_of_mem _ (List.mem_append_left _ (List.mem_append_left _ (List.mem_append_right _ h)))) (by decide +kernel))) (goodIn_sub (fun _ h => List.mem_cons_of_mem _ (List.mem_append_left _ (List.mem_append_right _ h))) (by decide +kernel))
set_option maxRecDepth 20000 in
theorem gL_does_X5_book : GoodIn wsL_does (wsV RL 49 RX5 yX5_book wsX5_book) := goodIn_app (goodIn_of _ (by decide +kernel)) ggL_does_X5_book
set_option maxRecDepth 20000 in
theorem ggL_does_X5_sleeps : GoodIn wsL_does wsX5_sleeps := goodIn_ca (goodIn_r _ [122, 6, 123, 124, 125, 126, 4, 127, 16, 17, 7, 299, 300, 301, 302, 303, 304, 305, 306, 307, 308, 309, 310, 311] (by decide +kernel) (by decide +kernel)) (goodIn_sub (fun _ h => List.mem_cons_of_mem _ (List.mem_append_left _ (List.mem_append_left _ (List.mem_append_right _ h)))) (by decide +kernel))
set_option maxRecDepth 20000 in
theorem gL_does_X5_sleeps : GoodIn wsL_does (wsV RL 52 RX5 yX5_sleeps wsX5_sleeps) := goodIn_app (goodIn_of _ (by decide +kernel)) ggL_does_X5_sleeps
set_option maxRecDepth 20000 in
theorem ggL_does_X5_points : GoodIn wsL_does wsX5_points := goodIn_ca (goodIn_r _ [131, 132, 93, 94, 4, 95, 16, 17, 133, 134, 135, 136, 137, 138, 139, 140, 299, 300, 301, 302, 303, 304, 322, 323, 324, 325] (by decide +kernel) (by decide +kernel)) (goodIn_sub (fun _ h => List.mem_cons_of_mem _ (List.mem_append_left _ (List.mem_append_left _ (List.mem_append_right _ h)))) (by decide +kernel))
set_option maxRecDepth 20000 in
theorem gL_does_X5_points : GoodIn wsL_does (wsV RL 55 RX5 yX5_points wsX5_points) := goodIn_app (goodIn_of _ (by decide +kernel)) ggL_does_X5_points
set_option maxRecDepth 20000 in
theorem ggL_does_L_sum : GoodIn wsL_does wsL_sum := goodIn_ca (goodIn_r _ [143, 144, 145, 146, 4, 147, 148, 149, 13, 14, 15, 16, 17, 36, 37, 38, 39, 40, 41, 150, 151, 152, 153, 154, 155, 156, 49, 157, 158, 159, 160, 161, 299, 300, 301, 302, 303, 304, 326, 327, 315, 316, 317, 318, 319, 320, 321] (by decide +kernel) (by decide +kernel)) (goodIn_sub (fun _ h => List.mem_cons_of_mem _ (List.mem_append_left _ (List.mem_append_left _ (List.mem_append_right _ h)))) (by decide +kernel))
set_option maxRecDepth 20000 in
theorem gL_does_L_sum : GoodIn wsL_does (va_wsS RL 58 yL_sum wsL_sum) := goodIn_app (goodIn_of _ (by decide +kernel)) ggL_does_L_sum
set_option maxRecDepth 20000 in
theorem ggL_does_X5_come : GoodIn wsL_does wsX5_come := goodIn_ca (goodIn_ca (goodIn_r _ [165, 91, 92, 6, 166, 65, 167, 168, 169, 124, 125, 126, 4, 127, 16, 17, 7, 170, 171, 172, 173, 12, 40, 174, 175, 176, 177, 178, 179, 180, 181, 182, 183, 184, 185, 186, 29, 187, 188, 189, 190, 191, 110, 111, 112, 31, 33, 34, 35, 192, 193, 194, 195, 196, 197, 198, 199, 49, 200, 51, 201, 202, 203, 81, 204, 86, 118, 205, 206, 207, 208, 148, 132, 209, 210, 211, 212, 213, 32, 214, 215, 216, 217, 218, 219, 220, 221, 222, 223, 224, 225, 226, 227, 228, 229, 230, 231, 232, 233, 234, 235, 236, 237, 238, 239, 240, 158, 241, 242, 243, 244, 245, 246, 247, 136, 248, 138, 139, 249, 140, 299, 300, 301, 302, 303, 304, 305, 306, 307, 308, 309, 310, 311, 312, 313, 314, 315, 316, 317, 318, 319, 320, 321, 326, 327, 322, 323, 324, 325] (by decide +kernel) (by decide +kernel)) (goodIn_sub (fun _ h => List.mem_cons_of_mem _ (List.mem_append_right _ h)) (by decide +kernel))) (goodIn_sub (fun _ h => List.mem_cons_of_mem _ (List.mem_append_left _ (List.mem_append_left _ (List.mem_append_right _ h)))) (by decide +kernel))
set_option maxRecDepth 20000 in
theorem gL_does_X5_come : GoodIn wsL_does (wsV RL 62 RX5 yX5_come wsX5_come) := goodIn_app (goodIn_of _ (by decide +kernel)) ggL_does_X5_come
set_option maxRecDepth 20000 in
theorem ggL_does_X5_burn : GoodIn wsL_does wsX5_burn := goodIn_ca (goodIn_ca (goodIn_ca (goodIn_r _ [253, 91, 92, 132, 93, 94, 4, 95, 16, 17, 13, 14, 15, 21, 22, 23, 24, 25, 133, 134, 135, 136, 137, 138, 139, 140, 254, 255, 256, 257, 258, 259, 148, 260, 261, 262, 263, 264, 182, 179, 183, 220, 221, 222, 217, 223, 224, 225, 226, 227, 299, 300, 301, 302, 303, 304, 322, 323, 324, 325, 326, 327] (by decide +kernel) (by decide +kernel)) (goodIn_sub (fun _ h => List.mem_cons_of_mem _ (List.mem_append_right _ h)) (by decide +kernel))) (goodIn_sub (fun _ h => List.mem_cons_of_mem _ (List.mem_append_left _ (List.mem_append_left _ (List.mem_append_right _ h)))) (by decide +kernel))) (goodIn_sub (fun _ h => List.mem_cons_of_mem _ (List.mem_append_left _ (List.mem_append_right _ h))) (by decide +kernel))
set_option maxRecDepth 20000 in
theorem gL_does_X5_burn : GoodIn wsL_does (wsV RL 65 RX5 yX5_burn wsX5_burn) := goodIn_app (goodIn_of _ (by decide +kernel)) ggL_does_X5_burn
set_option maxRecDepth 20000 in
theorem ggL_does_X5_settle : GoodIn wsL_does wsX5_settle := goodIn_r _ [268, 148, 269, 270, 271, 217, 272, 273, 274, 275, 276, 219, 277, 278, 279, 280, 224, 281, 189, 179, 190, 225, 226, 227, 282, 221, 222, 223, 299, 300, 301, 302, 303, 304, 326, 327] (by decide +kernel) (by decide +kernel)
set_option maxRecDepth 20000 in
theorem gL_does_X5_settle : GoodIn wsL_does (wsV RL 69 RX5 yX5_settle wsX5_settle) := goodIn_app (goodIn_of _ (by decide +kernel)) ggL_does_X5_settle
set_option maxRecDepth 20000 in
theorem ggL_does_X5_night : GoodIn wsL_does wsX5_night := goodIn_ca (goodIn_r _ [286, 91, 92, 65, 6, 12, 40, 287, 288, 289, 81, 290, 83, 85, 86, 291, 292, 293, 29, 294, 196, 295, 296, 297, 49, 298, 161, 160, 159, 158, 60, 51, 236, 299, 300, 301, 302, 303, 304, 305, 306, 307, 308, 309, 310, 311, 312, 313, 314, 315, 316, 317, 318, 319, 320, 321] (by decide +kernel) (by decide +kernel)) (goodIn_sub (fun _ h => List.mem_cons_of_mem _ (List.mem_append_right _ h)) (by decide +kernel))
set_option maxRecDepth 20000 in
theorem gL_does_X5_night : GoodIn wsL_does (wsV RL 72 RX5 yX5_night wsX5_night) := goodIn_app (goodIn_of _ (by decide +kernel)) ggL_does_X5_night
theorem dL_does_0 : decode cL_does 0 = .ok (.iload 5, 2) := by decide +kernel
theorem dL_does_2 : decode cL_does 2 = .ok (.bipush 10, 2) := by decide +kernel
theorem dL_does_4 : decode cL_does 4 = .ok (.idiv, 1) := by decide +kernel
theorem dL_does_5 : decode cL_does 5 = .ok (.iconst 4, 1) := by decide +kernel
theorem dL_does_6 : decode cL_does 6 = .ok (.irem, 1) := by decide +kernel
theorem dL_does_7 : decode cL_does 7 = .ok (.istore 7, 2) := by decide +kernel
theorem dL_does_9 : decode cL_does 9 = .ok (.iload 5, 2) := by decide +kernel
theorem dL_does_11 : decode cL_does 11 = .ok (.bipush 40, 2) := by decide +kernel
theorem dL_does_13 : decode cL_does 13 = .ok (.idiv, 1) := by decide +kernel
theorem dL_does_14 : decode cL_does 14 = .ok (.iconst 2, 1) := by decide +kernel
theorem dL_does_15 : decode cL_does 15 = .ok (.irem, 1) := by decide +kernel
theorem dL_does_16 : decode cL_does 16 = .ok (.istore 8, 2) := by decide +kernel
theorem dL_does_18 : decode cL_does 18 = .ok (.aload_n 0, 1) := by decide +kernel
theorem dL_does_19 : decode cL_does 19 = .ok (.invokevirtual 21, 3) := by decide +kernel
theorem dL_does_22 : decode cL_does 22 = .ok (.istore 9, 2) := by decide +kernel
theorem dL_does_24 : decode cL_does 24 = .ok (.iload 9, 2) := by decide +kernel
theorem dL_does_26 : decode cL_does 26 = .ok (.ifCond .ne 7, 3) := by decide +kernel
theorem dL_does_29 : decode cL_does 29 = .ok (.iconst (-1), 1) := by decide +kernel
theorem dL_does_30 : decode cL_does 30 = .ok (.goto 25, 3) := by decide +kernel
theorem dL_does_33 : decode cL_does 33 = .ok (.iload 9, 2) := by decide +kernel
theorem dL_does_35 : decode cL_does 35 = .ok (.iconst 1, 1) := by decide +kernel
theorem dL_does_36 : decode cL_does 36 = .ok (.isub, 1) := by decide +kernel
theorem dL_does_37 : decode cL_does 37 = .ok (.iload 6, 2) := by decide +kernel
theorem dL_does_39 : decode cL_does 39 = .ok (.iload 9, 2) := by decide +kernel
theorem dL_does_41 : decode cL_does 41 = .ok (.bipush 6, 2) := by decide +kernel
theorem dL_does_43 : decode cL_does 43 = .ok (.if_icmp .ge 8, 3) := by decide +kernel
theorem dL_does_46 : decode cL_does 46 = .ok (.iload 9, 2) := by decide +kernel
theorem dL_does_48 : decode cL_does 48 = .ok (.goto 5, 3) := by decide +kernel
theorem dL_does_51 : decode cL_does 51 = .ok (.bipush 6, 2) := by decide +kernel
theorem dL_does_53 : decode cL_does 53 = .ok (.irem, 1) := by decide +kernel
theorem dL_does_54 : decode cL_does 54 = .ok (.isub, 1) := by decide +kernel
theorem dL_does_55 : decode cL_does 55 = .ok (.istore 10, 2) := by decide +kernel
theorem dL_does_57 : decode cL_does 57 = .ok (.iload 5, 2) := by decide +kernel
theorem dL_does_59 : decode cL_does 59 = .ok (.bipush 10, 2) := by decide +kernel
theorem dL_does_61 : decode cL_does 61 = .ok (.irem, 1) := by decide +kernel
theorem dL_does_62 : decode cL_does 62 = .ok (.tableswitch 531 0 8 #[50, 106, 146, 200, 200, 200, 317, 317, 447], 50) := by decide +kernel
theorem dL_does_112 : decode cL_does 112 = .ok (.aload_n 1, 1) := by decide +kernel
theorem dL_does_113 : decode cL_does 113 = .ok (.iconst 2, 1) := by decide +kernel
theorem dL_does_114 : decode cL_does 114 = .ok (.iload 7, 2) := by decide +kernel
theorem dL_does_116 : decode cL_does 116 = .ok (.imul, 1) := by decide +kernel
theorem dL_does_117 : decode cL_does 117 = .ok (.iload 8, 2) := by decide +kernel
theorem dL_does_119 : decode cL_does 119 = .ok (.iadd, 1) := by decide +kernel
theorem dL_does_120 : decode cL_does 120 = .ok (.iaload, 1) := by decide +kernel
theorem dL_does_121 : decode cL_does 121 = .ok (.istore 11, 2) := by decide +kernel
theorem dL_does_123 : decode cL_does 123 = .ok (.aload_n 1, 1) := by decide +kernel
theorem dL_does_124 : decode cL_does 124 = .ok (.iconst 2, 1) := by decide +kernel
theorem dL_does_125 : decode cL_does 125 = .ok (.iload 7, 2) := by decide +kernel
theorem dL_does_127 : decode cL_does 127 = .ok (.imul, 1) := by decide +kernel
theorem dL_does_128 : decode cL_does 128 = .ok (.iload 8, 2) := by decide +kernel
theorem dL_does_130 : decode cL_does 130 = .ok (.iadd, 1) := by decide +kernel
theorem dL_does_131 : decode cL_does 131 = .ok (.iload 6, 2) := by decide +kernel
theorem dL_does_133 : decode cL_does 133 = .ok (.iconst 5, 1) := by decide +kernel
theorem dL_does_134 : decode cL_does 134 = .ok (.irem, 1) := by decide +kernel
theorem dL_does_135 : decode cL_does 135 = .ok (.iastore, 1) := by decide +kernel
theorem dL_does_136 : decode cL_does 136 = .ok (.aload_n 0, 1) := by decide +kernel
theorem dL_does_137 : decode cL_does 137 = .ok (.iload 7, 2) := by decide +kernel
theorem dL_does_139 : decode cL_does 139 = .ok (.iload 8, 2) := by decide +kernel
theorem dL_does_141 : decode cL_does 141 = .ok (.iload 6, 2) := by decide +kernel
theorem dL_does_143 : decode cL_does 143 = .ok (.iconst 5, 1) := by decide +kernel
theorem dL_does_144 : decode cL_does 144 = .ok (.irem, 1) := by decide +kernel
theorem dL_does_145 : decode cL_does 145 = .ok (.iconst 1, 1) := by decide +kernel
theorem dL_does_146 : decode cL_does 146 = .ok (.iload 6, 2) := by decide +kernel
theorem dL_does_148 : decode cL_does 148 = .ok (.iconst 5, 1) := by decide +kernel
theorem dL_does_149 : decode cL_does 149 = .ok (.idiv, 1) := by decide +kernel
theorem dL_does_150 : decode cL_does 150 = .ok (.bipush 100, 2) := by decide +kernel
theorem dL_does_152 : decode cL_does 152 = .ok (.irem, 1) := by decide +kernel
theorem dL_does_153 : decode cL_does 153 = .ok (.iadd, 1) := by decide +kernel
theorem dL_does_154 : decode cL_does 154 = .ok (.invokevirtual 25, 3) := by decide +kernel
theorem dL_does_157 : decode cL_does 157 = .ok (.iload 11, 2) := by decide +kernel
theorem dL_does_159 : decode cL_does 159 = .ok (.if_icmp .ne 7, 3) := by decide +kernel
theorem dL_does_162 : decode cL_does 162 = .ok (.iconst 1, 1) := by decide +kernel
theorem dL_does_163 : decode cL_does 163 = .ok (.goto 4, 3) := by decide +kernel
theorem dL_does_166 : decode cL_does 166 = .ok (.iconst 0, 1) := by decide +kernel
theorem dL_does_167 : decode cL_does 167 = .ok (.ireturn, 1) := by decide +kernel
theorem dL_does_168 : decode cL_does 168 = .ok (.aload_n 0, 1) := by decide +kernel
theorem dL_does_169 : decode cL_does 169 = .ok (.iload 7, 2) := by decide +kernel
theorem dL_does_171 : decode cL_does 171 = .ok (.invokevirtual 15, 3) := by decide +kernel
theorem dL_does_174 : decode cL_does 174 = .ok (.istore 12, 2) := by decide +kernel
theorem dL_does_176 : decode cL_does 176 = .ok (.aload_n 0, 1) := by decide +kernel
theorem dL_does_177 : decode cL_does 177 = .ok (.iload 7, 2) := by decide +kernel
theorem dL_does_179 : decode cL_does 179 = .ok (.iconst 1, 1) := by decide +kernel
theorem dL_does_180 : decode cL_does 180 = .ok (.iload 6, 2) := by decide +kernel
theorem dL_does_182 : decode cL_does 182 = .ok (.bipush 6, 2) := by decide +kernel
theorem dL_does_184 : decode cL_does 184 = .ok (.irem, 1) := by decide +kernel
theorem dL_does_185 : decode cL_does 185 = .ok (.iadd, 1) := by decide +kernel
theorem dL_does_186 : decode cL_does 186 = .ok (.invokevirtual 29, 3) := by decide +kernel
theorem dL_does_189 : decode cL_does 189 = .ok (.iload 12, 2) := by decide +kernel
theorem dL_does_191 : decode cL_does 191 = .ok (.iconst 1, 1) := by decide +kernel
theorem dL_does_192 : decode cL_does 192 = .ok (.iadd, 1) := by decide +kernel
theorem dL_does_193 : decode cL_does 193 = .ok (.iload 6, 2) := by decide +kernel
theorem dL_does_195 : decode cL_does 195 = .ok (.bipush 6, 2) := by decide +kernel
theorem dL_does_197 : decode cL_does 197 = .ok (.irem, 1) := by decide +kernel
theorem dL_does_198 : decode cL_does 198 = .ok (.iadd, 1) := by decide +kernel
theorem dL_does_199 : decode cL_does 199 = .ok (.if_icmp .ne 7, 3) := by decide +kernel
theorem dL_does_202 : decode cL_does 202 = .ok (.iconst 1, 1) := by decide +kernel
theorem dL_does_203 : decode cL_does 203 = .ok (.goto 4, 3) := by decide +kernel
theorem dL_does_206 : decode cL_does 206 = .ok (.iconst 0, 1) := by decide +kernel
theorem dL_does_207 : decode cL_does 207 = .ok (.ireturn, 1) := by decide +kernel
theorem dL_does_208 : decode cL_does 208 = .ok (.aload_n 0, 1) := by decide +kernel
theorem dL_does_209 : decode cL_does 209 = .ok (.iload 6, 2) := by decide +kernel
theorem dL_does_211 : decode cL_does 211 = .ok (.iconst 2, 1) := by decide +kernel
theorem dL_does_212 : decode cL_does 212 = .ok (.irem, 1) := by decide +kernel
theorem dL_does_213 : decode cL_does 213 = .ok (.ifCond .ne 7, 3) := by decide +kernel
theorem dL_does_216 : decode cL_does 216 = .ok (.iconst 1, 1) := by decide +kernel
theorem dL_does_217 : decode cL_does 217 = .ok (.goto 4, 3) := by decide +kernel
theorem dL_does_220 : decode cL_does 220 = .ok (.iconst 0, 1) := by decide +kernel
theorem dL_does_221 : decode cL_does 221 = .ok (.invokevirtual 33, 3) := by decide +kernel
theorem dL_does_224 : decode cL_does 224 = .ok (.pop, 1) := by decide +kernel
theorem dL_does_225 : decode cL_does 225 = .ok (.aload_n 0, 1) := by decide +kernel
theorem dL_does_226 : decode cL_does 226 = .ok (.iload 6, 2) := by decide +kernel
theorem dL_does_228 : decode cL_does 228 = .ok (.iconst 2, 1) := by decide +kernel
theorem dL_does_229 : decode cL_does 229 = .ok (.irem, 1) := by decide +kernel
theorem dL_does_230 : decode cL_does 230 = .ok (.ifCond .ne 7, 3) := by decide +kernel
theorem dL_does_233 : decode cL_does 233 = .ok (.iconst 1, 1) := by decide +kernel
theorem dL_does_234 : decode cL_does 234 = .ok (.goto 4, 3) := by decide +kernel
theorem dL_does_237 : decode cL_does 237 = .ok (.iconst 0, 1) := by decide +kernel
theorem dL_does_238 : decode cL_does 238 = .ok (.invokevirtual 33, 3) := by decide +kernel
theorem dL_does_241 : decode cL_does 241 = .ok (.iload 6, 2) := by decide +kernel
theorem dL_does_243 : decode cL_does 243 = .ok (.iconst 2, 1) := by decide +kernel
theorem dL_does_244 : decode cL_does 244 = .ok (.irem, 1) := by decide +kernel
theorem dL_does_245 : decode cL_does 245 = .ok (.ifCond .ne 7, 3) := by decide +kernel
theorem dL_does_248 : decode cL_does 248 = .ok (.iconst 1, 1) := by decide +kernel
theorem dL_does_249 : decode cL_does 249 = .ok (.goto 4, 3) := by decide +kernel
theorem dL_does_252 : decode cL_does 252 = .ok (.iconst 0, 1) := by decide +kernel
theorem dL_does_253 : decode cL_does 253 = .ok (.if_icmp .ne 7, 3) := by decide +kernel
theorem dL_does_256 : decode cL_does 256 = .ok (.iconst 1, 1) := by decide +kernel
theorem dL_does_257 : decode cL_does 257 = .ok (.goto 4, 3) := by decide +kernel
theorem dL_does_260 : decode cL_does 260 = .ok (.iconst 0, 1) := by decide +kernel
theorem dL_does_261 : decode cL_does 261 = .ok (.ireturn, 1) := by decide +kernel
theorem dL_does_262 : decode cL_does 262 = .ok (.aload_n 0, 1) := by decide +kernel
theorem dL_does_263 : decode cL_does 263 = .ok (.invokevirtual 37, 3) := by decide +kernel
theorem dL_does_266 : decode cL_does 266 = .ok (.iload 6, 2) := by decide +kernel
theorem dL_does_268 : decode cL_does 268 = .ok (.iconst 3, 1) := by decide +kernel
theorem dL_does_269 : decode cL_does 269 = .ok (.irem, 1) := by decide +kernel
theorem dL_does_270 : decode cL_does 270 = .ok (.iadd, 1) := by decide +kernel
theorem dL_does_271 : decode cL_does 271 = .ok (.istore 13, 2) := by decide +kernel
theorem dL_does_273 : decode cL_does 273 = .ok (.bipush 8, 2) := by decide +kernel
theorem dL_does_275 : decode cL_does 275 = .ok (.iload 13, 2) := by decide +kernel
theorem dL_does_277 : decode cL_does 277 = .ok (.imul, 1) := by decide +kernel
theorem dL_does_278 : decode cL_does 278 = .ok (.iconst 2, 1) := by decide +kernel
theorem dL_does_279 : decode cL_does 279 = .ok (.iload 7, 2) := by decide +kernel
theorem dL_does_281 : decode cL_does 281 = .ok (.imul, 1) := by decide +kernel
theorem dL_does_282 : decode cL_does 282 = .ok (.iadd, 1) := by decide +kernel
theorem dL_does_283 : decode cL_does 283 = .ok (.iload 8, 2) := by decide +kernel
theorem dL_does_285 : decode cL_does 285 = .ok (.iadd, 1) := by decide +kernel
theorem dL_does_286 : decode cL_does 286 = .ok (.istore 14, 2) := by decide +kernel
theorem dL_does_288 : decode cL_does 288 = .ok (.iload 9, 2) := by decide +kernel
theorem dL_does_290 : decode cL_does 290 = .ok (.bipush 60, 2) := by decide +kernel
theorem dL_does_292 : decode cL_does 292 = .ok (.if_icmp .ge 85, 3) := by decide +kernel
theorem dL_does_295 : decode cL_does 295 = .ok (.aload_n 2, 1) := by decide +kernel
theorem dL_does_296 : decode cL_does 296 = .ok (.iload 9, 2) := by decide +kernel
theorem dL_does_298 : decode cL_does 298 = .ok (.iload 14, 2) := by decide +kernel
theorem dL_does_300 : decode cL_does 300 = .ok (.invokestatic 40, 3) := by decide +kernel
theorem dL_does_303 : decode cL_does 303 = .ok (.aload_n 1, 1) := by decide +kernel
theorem dL_does_304 : decode cL_does 304 = .ok (.iconst 2, 1) := by decide +kernel
theorem dL_does_305 : decode cL_does 305 = .ok (.iload 7, 2) := by decide +kernel
theorem dL_does_307 : decode cL_does 307 = .ok (.imul, 1) := by decide +kernel
theorem dL_does_308 : decode cL_does 308 = .ok (.iload 8, 2) := by decide +kernel
theorem dL_does_310 : decode cL_does 310 = .ok (.iadd, 1) := by decide +kernel
theorem dL_does_311 : decode cL_does 311 = .ok (.iaload, 1) := by decide +kernel
theorem dL_does_312 : decode cL_does 312 = .ok (.aload_n 0, 1) := by decide +kernel
theorem dL_does_313 : decode cL_does 313 = .ok (.iload 7, 2) := by decide +kernel
theorem dL_does_315 : decode cL_does 315 = .ok (.invokevirtual 46, 3) := by decide +kernel
theorem dL_does_318 : decode cL_does 318 = .ok (.iadd, 1) := by decide +kernel
theorem dL_does_319 : decode cL_does 319 = .ok (.if_icmp .ge 58, 3) := by decide +kernel
theorem dL_does_322 : decode cL_does 322 = .ok (.aload_n 2, 1) := by decide +kernel
theorem dL_does_323 : decode cL_does 323 = .ok (.iload 9, 2) := by decide +kernel
theorem dL_does_325 : decode cL_does 325 = .ok (.iload 14, 2) := by decide +kernel
theorem dL_does_327 : decode cL_does 327 = .ok (.iastore, 1) := by decide +kernel
theorem dL_does_328 : decode cL_does 328 = .ok (.aload_n 3, 1) := by decide +kernel
theorem dL_does_329 : decode cL_does 329 = .ok (.iload 9, 2) := by decide +kernel
theorem dL_does_331 : decode cL_does 331 = .ok (.iload 6, 2) := by decide +kernel
theorem dL_does_333 : decode cL_does 333 = .ok (.iconst 3, 1) := by decide +kernel
theorem dL_does_334 : decode cL_does 334 = .ok (.idiv, 1) := by decide +kernel
theorem dL_does_335 : decode cL_does 335 = .ok (.bipush 10, 2) := by decide +kernel
theorem dL_does_337 : decode cL_does 337 = .ok (.irem, 1) := by decide +kernel
theorem dL_does_338 : decode cL_does 338 = .ok (.iastore, 1) := by decide +kernel
theorem dL_does_339 : decode cL_does 339 = .ok (.aload_n 0, 1) := by decide +kernel
theorem dL_does_340 : decode cL_does 340 = .ok (.iload 6, 2) := by decide +kernel
theorem dL_does_342 : decode cL_does 342 = .ok (.iconst 3, 1) := by decide +kernel
theorem dL_does_343 : decode cL_does 343 = .ok (.idiv, 1) := by decide +kernel
theorem dL_does_344 : decode cL_does 344 = .ok (.bipush 10, 2) := by decide +kernel
theorem dL_does_346 : decode cL_does 346 = .ok (.irem, 1) := by decide +kernel
theorem dL_does_347 : decode cL_does 347 = .ok (.iload 7, 2) := by decide +kernel
theorem dL_does_349 : decode cL_does 349 = .ok (.iload 8, 2) := by decide +kernel
theorem dL_does_351 : decode cL_does 351 = .ok (.iload 13, 2) := by decide +kernel
theorem dL_does_353 : decode cL_does 353 = .ok (.invokevirtual 49, 3) := by decide +kernel
theorem dL_does_356 : decode cL_does 356 = .ok (.iload 9, 2) := by decide +kernel
theorem dL_does_358 : decode cL_does 358 = .ok (.if_icmp .ne 17, 3) := by decide +kernel
theorem dL_does_361 : decode cL_does 361 = .ok (.aload_n 0, 1) := by decide +kernel
theorem dL_does_362 : decode cL_does 362 = .ok (.iload 9, 2) := by decide +kernel
theorem dL_does_364 : decode cL_does 364 = .ok (.invokevirtual 52, 3) := by decide +kernel
theorem dL_does_367 : decode cL_does 367 = .ok (.iconst (-1), 1) := by decide +kernel
theorem dL_does_368 : decode cL_does 368 = .ok (.if_icmp .ne 7, 3) := by decide +kernel
theorem dL_does_371 : decode cL_does 371 = .ok (.iconst 1, 1) := by decide +kernel
theorem dL_does_372 : decode cL_does 372 = .ok (.goto 4, 3) := by decide +kernel
theorem dL_does_375 : decode cL_does 375 = .ok (.iconst 0, 1) := by decide +kernel
theorem dL_does_376 : decode cL_does 376 = .ok (.ireturn, 1) := by decide +kernel
theorem dL_does_377 : decode cL_does 377 = .ok (.iconst 1, 1) := by decide +kernel
theorem dL_does_378 : decode cL_does 378 = .ok (.ireturn, 1) := by decide +kernel
theorem dL_does_379 : decode cL_does 379 = .ok (.iload 10, 2) := by decide +kernel
theorem dL_does_381 : decode cL_does 381 = .ok (.ifCond .lt 126, 3) := by decide +kernel
theorem dL_does_384 : decode cL_does 384 = .ok (.aload_n 2, 1) := by decide +kernel
theorem dL_does_385 : decode cL_does 385 = .ok (.iload 10, 2) := by decide +kernel
theorem dL_does_387 : decode cL_does 387 = .ok (.iaload, 1) := by decide +kernel
theorem dL_does_388 : decode cL_does 388 = .ok (.bipush 8, 2) := by decide +kernel
theorem dL_does_390 : decode cL_does 390 = .ok (.idiv, 1) := by decide +kernel
theorem dL_does_391 : decode cL_does 391 = .ok (.aload_n 0, 1) := by decide +kernel
theorem dL_does_392 : decode cL_does 392 = .ok (.invokevirtual 37, 3) := by decide +kernel
theorem dL_does_395 : decode cL_does 395 = .ok (.if_icmp .ne 112, 3) := by decide +kernel
theorem dL_does_398 : decode cL_does 398 = .ok (.aload 4, 2) := by decide +kernel
theorem dL_does_400 : decode cL_does 400 = .ok (.iload 10, 2) := by decide +kernel
theorem dL_does_402 : decode cL_does 402 = .ok (.iaload, 1) := by decide +kernel
theorem dL_does_403 : decode cL_does 403 = .ok (.ifCond .ne 104, 3) := by decide +kernel
theorem dL_does_406 : decode cL_does 406 = .ok (.aload 4, 2) := by decide +kernel
theorem dL_does_408 : decode cL_does 408 = .ok (.iload 10, 2) := by decide +kernel
theorem dL_does_410 : decode cL_does 410 = .ok (.iconst 1, 1) := by decide +kernel
theorem dL_does_411 : decode cL_does 411 = .ok (.iastore, 1) := by decide +kernel
theorem dL_does_412 : decode cL_does 412 = .ok (.aload_n 0, 1) := by decide +kernel
theorem dL_does_413 : decode cL_does 413 = .ok (.aload_n 3, 1) := by decide +kernel
theorem dL_does_414 : decode cL_does 414 = .ok (.iload 10, 2) := by decide +kernel
theorem dL_does_416 : decode cL_does 416 = .ok (.iaload, 1) := by decide +kernel
theorem dL_does_417 : decode cL_does 417 = .ok (.invokevirtual 55, 3) := by decide +kernel
theorem dL_does_420 : decode cL_does 420 = .ok (.istore 15, 2) := by decide +kernel
theorem dL_does_422 : decode cL_does 422 = .ok (.aload_n 0, 1) := by decide +kernel
theorem dL_does_423 : decode cL_does 423 = .ok (.iconst 0, 1) := by decide +kernel
theorem dL_does_424 : decode cL_does 424 = .ok (.invokestatic 58, 3) := by decide +kernel
theorem dL_does_427 : decode cL_does 427 = .ok (.istore 16, 2) := by decide +kernel
theorem dL_does_429 : decode cL_does 429 = .ok (.aload_n 0, 1) := by decide +kernel
theorem dL_does_430 : decode cL_does 430 = .ok (.iload 10, 2) := by decide +kernel
theorem dL_does_432 : decode cL_does 432 = .ok (.invokevirtual 62, 3) := by decide +kernel
theorem dL_does_435 : decode cL_does 435 = .ok (.istore 17, 2) := by decide +kernel
theorem dL_does_437 : decode cL_does 437 = .ok (.aload_n 0, 1) := by decide +kernel
theorem dL_does_438 : decode cL_does 438 = .ok (.iload 10, 2) := by decide +kernel
theorem dL_does_440 : decode cL_does 440 = .ok (.invokevirtual 52, 3) := by decide +kernel
theorem dL_does_443 : decode cL_does 443 = .ok (.iload 17, 2) := by decide +kernel
theorem dL_does_445 : decode cL_does 445 = .ok (.if_icmp .ne 20, 3) := by decide +kernel
theorem dL_does_448 : decode cL_does 448 = .ok (.aload_n 0, 1) := by decide +kernel
theorem dL_does_449 : decode cL_does 449 = .ok (.aload_n 3, 1) := by decide +kernel
theorem dL_does_450 : decode cL_does 450 = .ok (.iload 10, 2) := by decide +kernel
theorem dL_does_452 : decode cL_does 452 = .ok (.iaload, 1) := by decide +kernel
theorem dL_does_453 : decode cL_does 453 = .ok (.invokevirtual 55, 3) := by decide +kernel
theorem dL_does_456 : decode cL_does 456 = .ok (.iload 15, 2) := by decide +kernel
theorem dL_does_458 : decode cL_does 458 = .ok (.if_icmp .lt 7, 3) := by decide +kernel
theorem dL_does_461 : decode cL_does 461 = .ok (.iconst 1, 1) := by decide +kernel
theorem dL_does_462 : decode cL_does 462 = .ok (.goto 4, 3) := by decide +kernel
theorem dL_does_465 : decode cL_does 465 = .ok (.iconst 0, 1) := by decide +kernel
theorem dL_does_466 : decode cL_does 466 = .ok (.istore 18, 2) := by decide +kernel
theorem dL_does_468 : decode cL_does 468 = .ok (.iload 18, 2) := by decide +kernel
theorem dL_does_470 : decode cL_does 470 = .ok (.ifCond .eq 35, 3) := by decide +kernel
theorem dL_does_473 : decode cL_does 473 = .ok (.iload 17, 2) := by decide +kernel
theorem dL_does_475 : decode cL_does 475 = .ok (.ifCond .lt 16, 3) := by decide +kernel
theorem dL_does_478 : decode cL_does 478 = .ok (.aload_n 0, 1) := by decide +kernel
theorem dL_does_479 : decode cL_does 479 = .ok (.iconst 0, 1) := by decide +kernel
theorem dL_does_480 : decode cL_does 480 = .ok (.invokestatic 58, 3) := by decide +kernel
theorem dL_does_483 : decode cL_does 483 = .ok (.iload 16, 2) := by decide +kernel
theorem dL_does_485 : decode cL_does 485 = .ok (.if_icmp .le 20, 3) := by decide +kernel
theorem dL_does_488 : decode cL_does 488 = .ok (.goto 13, 3) := by decide +kernel
theorem dL_does_491 : decode cL_does 491 = .ok (.aload_n 0, 1) := by decide +kernel
theorem dL_does_492 : decode cL_does 492 = .ok (.iconst 0, 1) := by decide +kernel
theorem dL_does_493 : decode cL_does 493 = .ok (.invokestatic 58, 3) := by decide +kernel
theorem dL_does_496 : decode cL_does 496 = .ok (.iload 16, 2) := by decide +kernel
theorem dL_does_498 : decode cL_does 498 = .ok (.if_icmp .ne 7, 3) := by decide +kernel
theorem dL_does_501 : decode cL_does 501 = .ok (.iconst 1, 1) := by decide +kernel
theorem dL_does_502 : decode cL_does 502 = .ok (.goto 4, 3) := by decide +kernel
theorem dL_does_505 : decode cL_does 505 = .ok (.iconst 0, 1) := by decide +kernel
theorem dL_does_506 : decode cL_does 506 = .ok (.ireturn, 1) := by decide +kernel
theorem dL_does_507 : decode cL_does 507 = .ok (.iconst 1, 1) := by decide +kernel
theorem dL_does_508 : decode cL_does 508 = .ok (.ireturn, 1) := by decide +kernel
theorem dL_does_509 : decode cL_does 509 = .ok (.iload 6, 2) := by decide +kernel
theorem dL_does_511 : decode cL_does 511 = .ok (.bipush 10, 2) := by decide +kernel
theorem dL_does_513 : decode cL_does 513 = .ok (.irem, 1) := by decide +kernel
theorem dL_does_514 : decode cL_does 514 = .ok (.istore 15, 2) := by decide +kernel
theorem dL_does_516 : decode cL_does 516 = .ok (.aload_n 0, 1) := by decide +kernel
theorem dL_does_517 : decode cL_does 517 = .ok (.iload 15, 2) := by decide +kernel
theorem dL_does_519 : decode cL_does 519 = .ok (.invokevirtual 55, 3) := by decide +kernel
theorem dL_does_522 : decode cL_does 522 = .ok (.istore 16, 2) := by decide +kernel
theorem dL_does_524 : decode cL_does 524 = .ok (.iload 16, 2) := by decide +kernel
theorem dL_does_526 : decode cL_does 526 = .ok (.ifCond .eq 61, 3) := by decide +kernel
theorem dL_does_529 : decode cL_does 529 = .ok (.aload_n 0, 1) := by decide +kernel
theorem dL_does_530 : decode cL_does 530 = .ok (.iload 15, 2) := by decide +kernel
theorem dL_does_532 : decode cL_does 532 = .ok (.iload 7, 2) := by decide +kernel
theorem dL_does_534 : decode cL_does 534 = .ok (.iconst 1, 1) := by decide +kernel
theorem dL_does_535 : decode cL_does 535 = .ok (.iload 6, 2) := by decide +kernel
theorem dL_does_537 : decode cL_does 537 = .ok (.bipush 10, 2) := by decide +kernel
theorem dL_does_539 : decode cL_does 539 = .ok (.idiv, 1) := by decide +kernel
theorem dL_does_540 : decode cL_does 540 = .ok (.iload 16, 2) := by decide +kernel
theorem dL_does_542 : decode cL_does 542 = .ok (.bipush 100, 2) := by decide +kernel
theorem dL_does_544 : decode cL_does 544 = .ok (.if_icmp .ge 8, 3) := by decide +kernel
theorem dL_does_547 : decode cL_does 547 = .ok (.iload 16, 2) := by decide +kernel
theorem dL_does_549 : decode cL_does 549 = .ok (.goto 5, 3) := by decide +kernel
theorem dL_does_552 : decode cL_does 552 = .ok (.bipush 100, 2) := by decide +kernel
theorem dL_does_554 : decode cL_does 554 = .ok (.irem, 1) := by decide +kernel
theorem dL_does_555 : decode cL_does 555 = .ok (.iadd, 1) := by decide +kernel
theorem dL_does_556 : decode cL_does 556 = .ok (.invokevirtual 65, 3) := by decide +kernel
theorem dL_does_559 : decode cL_does 559 = .ok (.iload 16, 2) := by decide +kernel
theorem dL_does_561 : decode cL_does 561 = .ok (.iconst 1, 1) := by decide +kernel
theorem dL_does_562 : decode cL_does 562 = .ok (.isub, 1) := by decide +kernel
theorem dL_does_563 : decode cL_does 563 = .ok (.iload 6, 2) := by decide +kernel
theorem dL_does_565 : decode cL_does 565 = .ok (.bipush 10, 2) := by decide +kernel
theorem dL_does_567 : decode cL_does 567 = .ok (.idiv, 1) := by decide +kernel
theorem dL_does_568 : decode cL_does 568 = .ok (.iload 16, 2) := by decide +kernel
theorem dL_does_570 : decode cL_does 570 = .ok (.bipush 100, 2) := by decide +kernel
theorem dL_does_572 : decode cL_does 572 = .ok (.if_icmp .ge 8, 3) := by decide +kernel
theorem dL_does_575 : decode cL_does 575 = .ok (.iload 16, 2) := by decide +kernel
theorem dL_does_577 : decode cL_does 577 = .ok (.goto 5, 3) := by decide +kernel
theorem dL_does_580 : decode cL_does 580 = .ok (.bipush 100, 2) := by decide +kernel
theorem dL_does_582 : decode cL_does 582 = .ok (.irem, 1) := by decide +kernel
theorem dL_does_583 : decode cL_does 583 = .ok (.isub, 1) := by decide +kernel
theorem dL_does_584 : decode cL_does 584 = .ok (.if_icmp .ne 7, 3) := by decide +kernel
theorem dL_does_587 : decode cL_does 587 = .ok (.iconst 1, 1) := by decide +kernel
theorem dL_does_588 : decode cL_does 588 = .ok (.goto 4, 3) := by decide +kernel
theorem dL_does_591 : decode cL_does 591 = .ok (.iconst 0, 1) := by decide +kernel
theorem dL_does_592 : decode cL_does 592 = .ok (.ireturn, 1) := by decide +kernel
theorem dL_does_593 : decode cL_does 593 = .ok (.iload 6, 2) := by decide +kernel
theorem dL_does_595 : decode cL_does 595 = .ok (.iconst 4, 1) := by decide +kernel
theorem dL_does_596 : decode cL_does 596 = .ok (.irem, 1) := by decide +kernel
theorem dL_does_597 : decode cL_does 597 = .ok (.ifCond .ne 40, 3) := by decide +kernel
theorem dL_does_600 : decode cL_does 600 = .ok (.aload_n 0, 1) := by decide +kernel
theorem dL_does_601 : decode cL_does 601 = .ok (.iconst 0, 1) := by decide +kernel
theorem dL_does_602 : decode cL_does 602 = .ok (.invokestatic 58, 3) := by decide +kernel
theorem dL_does_605 : decode cL_does 605 = .ok (.istore 17, 2) := by decide +kernel
theorem dL_does_607 : decode cL_does 607 = .ok (.aload_n 0, 1) := by decide +kernel
theorem dL_does_608 : decode cL_does 608 = .ok (.invokevirtual 69, 3) := by decide +kernel
theorem dL_does_611 : decode cL_does 611 = .ok (.ifCond .lt 24, 3) := by decide +kernel
theorem dL_does_614 : decode cL_does 614 = .ok (.aload_n 0, 1) := by decide +kernel
theorem dL_does_615 : decode cL_does 615 = .ok (.iconst 0, 1) := by decide +kernel
theorem dL_does_616 : decode cL_does 616 = .ok (.invokestatic 58, 3) := by decide +kernel
theorem dL_does_619 : decode cL_does 619 = .ok (.iload 17, 2) := by decide +kernel
theorem dL_does_621 : decode cL_does 621 = .ok (.if_icmp .ne 14, 3) := by decide +kernel
theorem dL_does_624 : decode cL_does 624 = .ok (.aload_n 0, 1) := by decide +kernel
theorem dL_does_625 : decode cL_does 625 = .ok (.invokevirtual 69, 3) := by decide +kernel
theorem dL_does_628 : decode cL_does 628 = .ok (.ifCond .ne 7, 3) := by decide +kernel
theorem dL_does_631 : decode cL_does 631 = .ok (.iconst 1, 1) := by decide +kernel
theorem dL_does_632 : decode cL_does 632 = .ok (.goto 4, 3) := by decide +kernel
theorem dL_does_635 : decode cL_does 635 = .ok (.iconst 0, 1) := by decide +kernel
theorem dL_does_636 : decode cL_does 636 = .ok (.ireturn, 1) := by decide +kernel
theorem dL_does_637 : decode cL_does 637 = .ok (.aload_n 0, 1) := by decide +kernel
theorem dL_does_638 : decode cL_does 638 = .ok (.invokevirtual 37, 3) := by decide +kernel
theorem dL_does_641 : decode cL_does 641 = .ok (.istore 17, 2) := by decide +kernel
theorem dL_does_643 : decode cL_does 643 = .ok (.aload_n 0, 1) := by decide +kernel
theorem dL_does_644 : decode cL_does 644 = .ok (.invokevirtual 72, 3) := by decide +kernel
theorem dL_does_647 : decode cL_does 647 = .ok (.ifCond .lt 18, 3) := by decide +kernel
theorem dL_does_650 : decode cL_does 650 = .ok (.aload_n 0, 1) := by decide +kernel
theorem dL_does_651 : decode cL_does 651 = .ok (.invokevirtual 37, 3) := by decide +kernel
theorem dL_does_654 : decode cL_does 654 = .ok (.iload 17, 2) := by decide +kernel
theorem dL_does_656 : decode cL_does 656 = .ok (.iconst 1, 1) := by decide +kernel
theorem dL_does_657 : decode cL_does 657 = .ok (.iadd, 1) := by decide +kernel
theorem dL_does_658 : decode cL_does 658 = .ok (.if_icmp .ne 7, 3) := by decide +kernel
theorem dL_does_661 : decode cL_does 661 = .ok (.iconst 1, 1) := by decide +kernel
theorem dL_does_662 : decode cL_does 662 = .ok (.goto 4, 3) := by decide +kernel
theorem dL_does_665 : decode cL_does 665 = .ok (.iconst 0, 1) := by decide +kernel
theorem dL_does_666 : decode cL_does 666 = .ok (.ireturn, 1) := by decide +kernel
set_option maxRecDepth 20000 in
theorem ggL_law_X5_init : GoodIn wsL_law wsX5_init := goodIn_r _ [6, 7, 8, 9, 10, 11, 12, 13, 14, 15, 16, 17, 18, 19, 20, 21, 22, 23, 24, 25, 26, 27, 28, 29, 30, 31, 32, 33, 34, 3, 35, 36, 37, 38, 39, 40, 41, 42, 43, 44, 45, 46, 47, 48, 49, 50, 51, 52, 53, 54, 55, 56, 57, 58, 59, 60, 61, 62, 63, 64, 65, 66, 67, 68, 69, 70, 71, 72, 73, 74, 374, 375, 376, 368, 369, 370, 371, 372, 373, 377, 378, 379, 380, 381, 382, 383, 384, 385, 386, 387, 388, 389, 390, 391, 392, 393, 394, 395, 396] (by decide +kernel) (by decide +kernel)
set_option maxRecDepth 20000 in
theorem gL_law_X5_init : GoodIn wsL_law (wsX5_init) := ggL_law_X5_init
set_option maxRecDepth 20000 in
theorem ggL_law_L_told : GoodIn wsL_law wsL_told := goodIn_r _ [78, 79, 80] rfl (by decide +kernel)
set_option maxRecDepth 20000 in
theorem gL_law_L_told : GoodIn wsL_law (va_wsS RL 76 yL_told wsL_told) := goodIn_app (goodIn_of _ (by decide +kernel)) ggL_law_L_told
set_option maxRecDepth 20000 in
theorem ggLd_0 : GoodIn wsL_law [Cond.code yL_does cL_does 19 (some .boolean)] := goodIn_r _ [83] rfl (by decide +kernel)
set_option maxRecDepth 20000 in
theorem ggLd_wsL_does_r1 : GoodIn wsL_law wsL_does_r1 := goodIn_r _ [84, 85, 86, 2, 87, 21, 88, 89, 90, 91, 92, 13, 93, 94, 95, 96, 97, 98, 99, 100, 101, 102, 103, 104] (by decide +kernel) (by decide +kernel)
set_option maxRecDepth 20000 in
theorem ggLd_wsL_does_r2 : GoodIn wsL_law wsL_does_r2 := goodIn_r _ [105, 106, 107, 108, 12, 109, 35, 36, 110, 111, 112, 113, 114, 115, 116, 17, 117, 118, 119, 120, 121, 122, 123, 124] (by decide +kernel) (by decide +kernel)
set_option maxRecDepth 20000 in
theorem ggLd_wsL_does_r3 : GoodIn wsL_law wsL_does_r3 := goodIn_r _ [16, 125, 42, 126, 127, 128, 129, 130, 131, 132, 133, 47, 134, 135, 136, 137, 30, 138, 139, 77, 140, 141, 142, 143] (by decide +kernel) (by decide +kernel)
set_option maxRecDepth 20000 in
theorem ggLd_wsL_does_r4 : GoodIn wsL_law wsL_does_r4 := goodIn_r _ [144, 145, 146, 147, 148, 149, 150, 151, 20, 152, 60, 54, 56, 58, 153, 154, 155, 156, 157, 158, 159, 160, 161, 162] (by decide +kernel) (by decide +kernel)
set_option maxRecDepth 20000 in
theorem ggLd_wsL_does_r5 : GoodIn wsL_law wsL_does_r5 := goodIn_r _ [163, 164, 165, 166, 167, 168, 169, 170, 171, 172, 173, 55, 174, 175, 176, 177, 178, 179, 180, 181, 53, 59, 182, 183] (by decide +kernel) (by decide +kernel)
set_option maxRecDepth 20000 in
theorem ggLd_wsL_does_r6 : GoodIn wsL_law wsL_does_r6 := goodIn_r _ [184, 185, 186, 187, 188, 189, 190, 191, 192, 193, 194, 25, 195, 196, 197, 24, 198, 68, 65, 67, 199, 200, 201, 202] (by decide +kernel) (by decide +kernel)
set_option maxRecDepth 20000 in
theorem ggLd_wsL_does_r7 : GoodIn wsL_law wsL_does_r7 := goodIn_r _ [203, 204, 205, 29, 206, 207, 208, 209, 210, 211, 212, 213, 214, 43, 44, 45, 46, 215, 216, 217, 218, 219, 220, 221] (by decide +kernel) (by decide +kernel)
set_option maxRecDepth 20000 in
theorem ggLd_wsL_does_r8 : GoodIn wsL_law wsL_does_r8 := goodIn_r _ [222, 223, 224, 225, 226, 227, 228, 229, 230, 231, 232, 233, 234, 235, 236, 237, 238, 239, 240, 241, 242, 243, 244, 245] (by decide +kernel) (by decide +kernel)
set_option maxRecDepth 20000 in
theorem ggLd_wsL_does_r9 : GoodIn wsL_law wsL_does_r9 := goodIn_r _ [246, 247, 248, 37, 249, 250, 251, 252, 253, 254, 255, 256, 257, 258, 259, 260, 261, 262, 263, 264, 265, 266, 267, 268] (by decide +kernel) (by decide +kernel)
set_option maxRecDepth 20000 in
theorem ggLd_wsL_does_r10 : GoodIn wsL_law wsL_does_r10 := goodIn_r _ [28, 269, 73, 270, 271, 272, 273, 74, 274, 275, 276, 277, 278, 279, 280, 281, 282, 283, 284, 48, 285, 286, 287, 288] (by decide +kernel) (by decide +kernel)
set_option maxRecDepth 20000 in
theorem ggLd_wsL_does_r11 : GoodIn wsL_law wsL_does_r11 := goodIn_r _ [289, 290, 291, 292, 293, 294, 295, 296, 66, 297, 298, 299, 300, 301, 302, 303, 304, 305, 306, 307, 308, 309, 310, 311] (by decide +kernel) (by decide +kernel)
set_option maxRecDepth 20000 in
theorem ggLd_wsL_does_r12 : GoodIn wsL_law wsL_does_r12 := goodIn_r _ [312, 313, 314, 315, 316, 317, 318, 319, 320, 321, 322, 323, 324, 325, 326, 327, 328, 329, 330, 331, 332, 333, 334, 335] (by decide +kernel) (by decide +kernel)
set_option maxRecDepth 20000 in
theorem ggLd_wsL_does_r13 : GoodIn wsL_law wsL_does_r13 := goodIn_r _ [336, 337, 338, 339, 340, 341, 342, 343, 344, 345] (by decide +kernel) (by decide +kernel)
set_option maxRecDepth 20000 in
theorem ggL_law_L_does : GoodIn wsL_law wsL_does := goodIn_ca (goodIn_ca (goodIn_ca (goodIn_ca (goodIn_ca (goodIn_ca (goodIn_ca (goodIn_ca (goodIn_ca (goodIn_app ggLd_0 (goodIn_app ggLd_wsL_does_r1 (goodIn_app ggLd_wsL_does_r2 (goodIn_app ggLd_wsL_does_r3 (goodIn_app ggLd_wsL_does_r4 (goodIn_app ggLd_wsL_does_r5 (goodIn_app ggLd_wsL_does_r6 (goodIn_app ggLd_wsL_does_r7 (goodIn_app ggLd_wsL_does_r8 (goodIn_app ggLd_wsL_does_r9 (goodIn_app ggLd_wsL_does_r10 (goodIn_app ggLd_wsL_does_r11 (goodIn_app ggLd_wsL_does_r12 (ggLd_wsL_does_r13)))))))))))))) (goodIn_sub (fun w h => inlX5 w h) (by decide +kernel))) (goodIn_sub (fun w h => inlX0 w h) (by decide +kernel))) (goodIn_sub (fun w h => inlX4 w h) (by decide +kernel))) (goodIn_sub (fun w h => inlX2 w h) (by decide +kernel))) (goodIn_sub (fun w h => inlX3 w h) (by decide +kernel))) (goodIn_sub (fun w h => inlX1 w h) (by decide +kernel))) (goodIn_sub (fun _ h => List.mem_append_left _ (List.mem_append_left _ (List.mem_append_right _ h))) (by decide +kernel))) (goodIn_sub (fun _ h => List.mem_append_left _ (List.mem_append_right _ h)) (by decide +kernel))) (goodIn_sub (fun _ h => List.mem_append_right _ h) (by decide +kernel))
set_option maxRecDepth 20000 in
theorem gL_law_L_does : GoodIn wsL_law (va_wsS RL 80 yL_does wsL_does) := goodIn_app (goodIn_of _ (by decide +kernel)) ggL_law_L_does
set_option maxRecDepth 20000 in
theorem ggL_law_L_sum : GoodIn wsL_law wsL_sum := goodIn_ca (goodIn_r _ [201, 202, 203, 204, 2, 205, 29, 206, 93, 94, 95, 96, 97, 113, 114, 115, 116, 17, 117, 207, 208, 209, 210, 211, 212, 213, 16, 214, 43, 44, 45, 46, 368, 369, 370, 371, 372, 373, 395, 396, 377, 378, 379, 380, 381, 382, 383] (by decide +kernel) (by decide +kernel)) (goodIn_sub (fun _ h => List.mem_append_left _ (List.mem_append_left _ (List.mem_append_right _ h))) (by decide +kernel))
set_option maxRecDepth 20000 in
theorem gL_law_L_sum : GoodIn wsL_law (va_wsS RL 58 yL_sum wsL_sum) := goodIn_app (goodIn_of _ (by decide +kernel)) ggL_law_L_sum
set_option maxRecDepth 20000 in
theorem ggL_law_X5_taken : GoodIn wsL_law wsX5_taken := goodIn_ca (goodIn_r _ [349, 13, 93, 94, 2, 95, 96, 97, 98, 99, 100, 350, 246, 247, 12, 248, 37, 110, 111, 112, 368, 369, 370, 371, 372, 373, 374, 375, 376] (by decide +kernel) (by decide +kernel)) (goodIn_sub (fun _ h => List.mem_append_left _ (List.mem_append_left _ (List.mem_append_right _ h))) (by decide +kernel))
set_option maxRecDepth 20000 in
theorem gL_law_X5_taken : GoodIn wsL_law (wsV RL 84 RX5 yX5_taken wsX5_taken) := goodIn_app (goodIn_of _ (by decide +kernel)) ggL_law_X5_taken
set_option maxRecDepth 20000 in
theorem ggL_law_X5_takenByBookings : GoodIn wsL_law wsX5_takenByBookings := goodIn_ca (goodIn_r _ [354, 21, 30, 93, 94, 2, 95, 96, 97, 98, 99, 100, 355, 356, 357, 20, 358, 60, 59, 55, 56, 368, 369, 370, 371, 372, 373, 384, 385, 386, 387, 388, 389, 390] (by decide +kernel) (by decide +kernel)) (goodIn_sub (fun _ h => List.mem_append_left _ (List.mem_append_left _ (List.mem_append_right _ h))) (by decide +kernel))
set_option maxRecDepth 20000 in
theorem gL_law_X5_takenByBookings : GoodIn wsL_law (wsV RL 87 RX5 yX5_takenByBookings wsX5_takenByBookings) := goodIn_app (goodIn_of _ (by decide +kernel)) ggL_law_X5_takenByBookings
set_option maxRecDepth 20000 in
theorem ggL_law_X5_free : GoodIn wsL_law wsX5_free := goodIn_ca (goodIn_r _ [362, 13, 93, 94, 2, 95, 96, 97, 98, 99, 100, 237, 238, 239, 12, 240, 241, 242, 232, 243, 244, 175, 176, 177, 35, 110, 111, 112, 245, 246, 247, 248, 37, 368, 369, 370, 371, 372, 373, 374, 375, 376] (by decide +kernel) (by decide +kernel)) (goodIn_sub (fun _ h => List.mem_append_left _ (List.mem_append_left _ (List.mem_append_right _ h))) (by decide +kernel))
set_option maxRecDepth 20000 in
theorem gL_law_X5_free : GoodIn wsL_law (wsV RL 90 RX5 yX5_free wsX5_free) := goodIn_app (goodIn_of _ (by decide +kernel)) ggL_law_X5_free
set_option maxRecDepth 20000 in
theorem ggL_law_X5_owes : GoodIn wsL_law wsX5_owes := goodIn_ca (goodIn_r _ [366, 29, 93, 94, 2, 95, 96, 97, 367, 325, 326, 28, 327, 74, 328, 242, 232, 243, 274, 275, 276, 368, 369, 370, 371, 372, 373, 395, 396] (by decide +kernel) (by decide +kernel)) (goodIn_sub (fun _ h => List.mem_append_left _ (List.mem_append_left _ (List.mem_append_right _ h))) (by decide +kernel))
set_option maxRecDepth 20000 in
theorem gL_law_X5_owes : GoodIn wsL_law (wsV RL 93 RX5 yX5_owes wsX5_owes) := goodIn_app (goodIn_of _ (by decide +kernel)) ggL_law_X5_owes
theorem dL_law_0 : decode cL_law 0 = .ok (.new 10, 3) := by decide +kernel
theorem dL_law_3 : decode cL_law 3 = .ok (.dup, 1) := by decide +kernel
theorem dL_law_4 : decode cL_law 4 = .ok (.invokespecial 75, 3) := by decide +kernel
theorem dL_law_7 : decode cL_law 7 = .ok (.astore_n 1, 1) := by decide +kernel
theorem dL_law_8 : decode cL_law 8 = .ok (.bipush 8, 2) := by decide +kernel
theorem dL_law_10 : decode cL_law 10 = .ok (.newarray .int, 2) := by decide +kernel
theorem dL_law_12 : decode cL_law 12 = .ok (.astore_n 2, 1) := by decide +kernel
theorem dL_law_13 : decode cL_law 13 = .ok (.bipush 60, 2) := by decide +kernel
theorem dL_law_15 : decode cL_law 15 = .ok (.newarray .int, 2) := by decide +kernel
theorem dL_law_17 : decode cL_law 17 = .ok (.astore_n 3, 1) := by decide +kernel
theorem dL_law_18 : decode cL_law 18 = .ok (.bipush 60, 2) := by decide +kernel
theorem dL_law_20 : decode cL_law 20 = .ok (.newarray .int, 2) := by decide +kernel
theorem dL_law_22 : decode cL_law 22 = .ok (.astore 4, 2) := by decide +kernel
theorem dL_law_24 : decode cL_law 24 = .ok (.bipush 60, 2) := by decide +kernel
theorem dL_law_26 : decode cL_law 26 = .ok (.newarray .int, 2) := by decide +kernel
theorem dL_law_28 : decode cL_law 28 = .ok (.astore 5, 2) := by decide +kernel
theorem dL_law_30 : decode cL_law 30 = .ok (.iconst 0, 1) := by decide +kernel
theorem dL_law_31 : decode cL_law 31 = .ok (.istore 6, 2) := by decide +kernel
theorem dL_law_33 : decode cL_law 33 = .ok (.iconst 1, 1) := by decide +kernel
theorem dL_law_34 : decode cL_law 34 = .ok (.istore 7, 2) := by decide +kernel
end
section
theorem dL_law_36 : decode cL_law 36 = .ok (.iconst 0, 1) := by decide +kernel
theorem dL_law_37 : decode cL_law 37 = .ok (.istore 8, 2) := by decide +kernel
theorem dL_law_39 : decode cL_law 39 = .ok (.iload 8, 2) := by decide +kernel
theorem dL_law_41 : decode cL_law 41 = .ok (.bipush 100, 2) := by decide +kernel
theorem dL_law_43 : decode cL_law 43 = .ok (.if_icmp .ge 243, 3) := by decide +kernel
theorem dL_law_46 : decode cL_law 46 = .ok (.iload 7, 2) := by decide +kernel
theorem dL_law_48 : decode cL_law 48 = .ok (.ifCond .eq 238, 3) := by decide +kernel
theorem dL_law_51 : decode cL_law 51 = .ok (.aload_n 0, 1) := by decide +kernel
theorem dL_law_52 : decode cL_law 52 = .ok (.iload 8, 2) := by decide +kernel
theorem dL_law_54 : decode cL_law 54 = .ok (.invokestatic 76, 3) := by decide +kernel
theorem dL_law_57 : decode cL_law 57 = .ok (.istore 9, 2) := by decide +kernel
theorem dL_law_59 : decode cL_law 59 = .ok (.aload_n 0, 1) := by decide +kernel
theorem dL_law_60 : decode cL_law 60 = .ok (.iload 8, 2) := by decide +kernel
theorem dL_law_62 : decode cL_law 62 = .ok (.iconst 2, 1) := by decide +kernel
theorem dL_law_63 : decode cL_law 63 = .ok (.iadd, 1) := by decide +kernel
theorem dL_law_64 : decode cL_law 64 = .ok (.invokestatic 76, 3) := by decide +kernel
theorem dL_law_67 : decode cL_law 67 = .ok (.istore 10, 2) := by decide +kernel
theorem dL_law_69 : decode cL_law 69 = .ok (.iload 6, 2) := by decide +kernel
theorem dL_law_71 : decode cL_law 71 = .ok (.iload 9, 2) := by decide +kernel
theorem dL_law_73 : decode cL_law 73 = .ok (.bipush 10, 2) := by decide +kernel
theorem dL_law_75 : decode cL_law 75 = .ok (.irem, 1) := by decide +kernel
theorem dL_law_76 : decode cL_law 76 = .ok (.iconst 1, 1) := by decide +kernel
theorem dL_law_77 : decode cL_law 77 = .ok (.if_icmp .ne 13, 3) := by decide +kernel
theorem dL_law_80 : decode cL_law 80 = .ok (.iconst 1, 1) := by decide +kernel
theorem dL_law_81 : decode cL_law 81 = .ok (.iload 10, 2) := by decide +kernel
theorem dL_law_83 : decode cL_law 83 = .ok (.bipush 6, 2) := by decide +kernel
theorem dL_law_85 : decode cL_law 85 = .ok (.irem, 1) := by decide +kernel
theorem dL_law_86 : decode cL_law 86 = .ok (.iadd, 1) := by decide +kernel
theorem dL_law_87 : decode cL_law 87 = .ok (.goto 4, 3) := by decide +kernel
theorem dL_law_90 : decode cL_law 90 = .ok (.iconst 0, 1) := by decide +kernel
theorem dL_law_91 : decode cL_law 91 = .ok (.iadd, 1) := by decide +kernel
theorem dL_law_92 : decode cL_law 92 = .ok (.istore 6, 2) := by decide +kernel
theorem dL_law_94 : decode cL_law 94 = .ok (.aload_n 1, 1) := by decide +kernel
theorem dL_law_95 : decode cL_law 95 = .ok (.aload_n 2, 1) := by decide +kernel
theorem dL_law_96 : decode cL_law 96 = .ok (.aload_n 3, 1) := by decide +kernel
theorem dL_law_97 : decode cL_law 97 = .ok (.aload 4, 2) := by decide +kernel
theorem dL_law_99 : decode cL_law 99 = .ok (.aload 5, 2) := by decide +kernel
theorem dL_law_101 : decode cL_law 101 = .ok (.iload 9, 2) := by decide +kernel
theorem dL_law_103 : decode cL_law 103 = .ok (.iload 10, 2) := by decide +kernel
theorem dL_law_105 : decode cL_law 105 = .ok (.invokestatic 80, 3) := by decide +kernel
theorem dL_law_108 : decode cL_law 108 = .ok (.ifCond .eq 17, 3) := by decide +kernel
theorem dL_law_111 : decode cL_law 111 = .ok (.aload_n 1, 1) := by decide +kernel
theorem dL_law_112 : decode cL_law 112 = .ok (.iconst 1, 1) := by decide +kernel
theorem dL_law_113 : decode cL_law 113 = .ok (.invokestatic 58, 3) := by decide +kernel
theorem dL_law_116 : decode cL_law 116 = .ok (.iload 6, 2) := by decide +kernel
theorem dL_law_118 : decode cL_law 118 = .ok (.if_icmp .ne 7, 3) := by decide +kernel
theorem dL_law_121 : decode cL_law 121 = .ok (.iconst 1, 1) := by decide +kernel
theorem dL_law_122 : decode cL_law 122 = .ok (.goto 4, 3) := by decide +kernel
theorem dL_law_125 : decode cL_law 125 = .ok (.iconst 0, 1) := by decide +kernel
theorem dL_law_126 : decode cL_law 126 = .ok (.istore 7, 2) := by decide +kernel
theorem dL_law_128 : decode cL_law 128 = .ok (.iconst 0, 1) := by decide +kernel
theorem dL_law_129 : decode cL_law 129 = .ok (.istore 11, 2) := by decide +kernel
theorem dL_law_131 : decode cL_law 131 = .ok (.iload 11, 2) := by decide +kernel
theorem dL_law_133 : decode cL_law 133 = .ok (.bipush 8, 2) := by decide +kernel
theorem dL_law_135 : decode cL_law 135 = .ok (.if_icmp .ge 87, 3) := by decide +kernel
theorem dL_law_138 : decode cL_law 138 = .ok (.iload 7, 2) := by decide +kernel
theorem dL_law_140 : decode cL_law 140 = .ok (.ifCond .eq 82, 3) := by decide +kernel
theorem dL_law_143 : decode cL_law 143 = .ok (.aload_n 1, 1) := by decide +kernel
theorem dL_law_144 : decode cL_law 144 = .ok (.iload 11, 2) := by decide +kernel
theorem dL_law_146 : decode cL_law 146 = .ok (.iconst 2, 1) := by decide +kernel
theorem dL_law_147 : decode cL_law 147 = .ok (.idiv, 1) := by decide +kernel
theorem dL_law_148 : decode cL_law 148 = .ok (.iload 11, 2) := by decide +kernel
theorem dL_law_150 : decode cL_law 150 = .ok (.iconst 2, 1) := by decide +kernel
theorem dL_law_151 : decode cL_law 151 = .ok (.irem, 1) := by decide +kernel
theorem dL_law_152 : decode cL_law 152 = .ok (.invokevirtual 84, 3) := by decide +kernel
theorem dL_law_155 : decode cL_law 155 = .ok (.istore 12, 2) := by decide +kernel
theorem dL_law_157 : decode cL_law 157 = .ok (.iload 12, 2) := by decide +kernel
theorem dL_law_159 : decode cL_law 159 = .ok (.aload_n 1, 1) := by decide +kernel
theorem dL_law_160 : decode cL_law 160 = .ok (.iload 11, 2) := by decide +kernel
theorem dL_law_162 : decode cL_law 162 = .ok (.iconst 2, 1) := by decide +kernel
theorem dL_law_163 : decode cL_law 163 = .ok (.idiv, 1) := by decide +kernel
theorem dL_law_164 : decode cL_law 164 = .ok (.iload 11, 2) := by decide +kernel
theorem dL_law_166 : decode cL_law 166 = .ok (.iconst 2, 1) := by decide +kernel
theorem dL_law_167 : decode cL_law 167 = .ok (.irem, 1) := by decide +kernel
theorem dL_law_168 : decode cL_law 168 = .ok (.invokevirtual 87, 3) := by decide +kernel
theorem dL_law_171 : decode cL_law 171 = .ok (.if_icmp .ne 42, 3) := by decide +kernel
theorem dL_law_174 : decode cL_law 174 = .ok (.aload_n 1, 1) := by decide +kernel
theorem dL_law_175 : decode cL_law 175 = .ok (.iload 11, 2) := by decide +kernel
theorem dL_law_177 : decode cL_law 177 = .ok (.iconst 2, 1) := by decide +kernel
theorem dL_law_178 : decode cL_law 178 = .ok (.idiv, 1) := by decide +kernel
theorem dL_law_179 : decode cL_law 179 = .ok (.iload 11, 2) := by decide +kernel
theorem dL_law_181 : decode cL_law 181 = .ok (.iconst 2, 1) := by decide +kernel
theorem dL_law_182 : decode cL_law 182 = .ok (.irem, 1) := by decide +kernel
theorem dL_law_183 : decode cL_law 183 = .ok (.invokevirtual 90, 3) := by decide +kernel
theorem dL_law_186 : decode cL_law 186 = .ok (.iload 12, 2) := by decide +kernel
theorem dL_law_188 : decode cL_law 188 = .ok (.aload_n 2, 1) := by decide +kernel
theorem dL_law_189 : decode cL_law 189 = .ok (.iload 11, 2) := by decide +kernel
theorem dL_law_191 : decode cL_law 191 = .ok (.iaload, 1) := by decide +kernel
theorem dL_law_192 : decode cL_law 192 = .ok (.if_icmp .ge 13, 3) := by decide +kernel
theorem dL_law_195 : decode cL_law 195 = .ok (.aload_n 2, 1) := by decide +kernel
theorem dL_law_196 : decode cL_law 196 = .ok (.iload 11, 2) := by decide +kernel
theorem dL_law_198 : decode cL_law 198 = .ok (.iaload, 1) := by decide +kernel
theorem dL_law_199 : decode cL_law 199 = .ok (.iload 12, 2) := by decide +kernel
theorem dL_law_201 : decode cL_law 201 = .ok (.isub, 1) := by decide +kernel
theorem dL_law_202 : decode cL_law 202 = .ok (.goto 4, 3) := by decide +kernel
theorem dL_law_205 : decode cL_law 205 = .ok (.iconst 0, 1) := by decide +kernel
theorem dL_law_206 : decode cL_law 206 = .ok (.if_icmp .ne 7, 3) := by decide +kernel
theorem dL_law_209 : decode cL_law 209 = .ok (.iconst 1, 1) := by decide +kernel
theorem dL_law_210 : decode cL_law 210 = .ok (.goto 4, 3) := by decide +kernel
theorem dL_law_213 : decode cL_law 213 = .ok (.iconst 0, 1) := by decide +kernel
theorem dL_law_214 : decode cL_law 214 = .ok (.istore 7, 2) := by decide +kernel
theorem dL_law_216 : decode cL_law 216 = .ok (.iinc 11 1, 3) := by decide +kernel
theorem dL_law_219 : decode cL_law 219 = .ok (.goto (-88), 3) := by decide +kernel
theorem dL_law_222 : decode cL_law 222 = .ok (.iconst 0, 1) := by decide +kernel
theorem dL_law_223 : decode cL_law 223 = .ok (.istore 11, 2) := by decide +kernel
theorem dL_law_225 : decode cL_law 225 = .ok (.iload 11, 2) := by decide +kernel
theorem dL_law_227 : decode cL_law 227 = .ok (.bipush 16, 2) := by decide +kernel
theorem dL_law_229 : decode cL_law 229 = .ok (.if_icmp .ge 51, 3) := by decide +kernel
theorem dL_law_232 : decode cL_law 232 = .ok (.iload 7, 2) := by decide +kernel
theorem dL_law_234 : decode cL_law 234 = .ok (.ifCond .eq 46, 3) := by decide +kernel
theorem dL_law_237 : decode cL_law 237 = .ok (.aload_n 1, 1) := by decide +kernel
theorem dL_law_238 : decode cL_law 238 = .ok (.iload 11, 2) := by decide +kernel
theorem dL_law_240 : decode cL_law 240 = .ok (.iconst 4, 1) := by decide +kernel
theorem dL_law_241 : decode cL_law 241 = .ok (.idiv, 1) := by decide +kernel
theorem dL_law_242 : decode cL_law 242 = .ok (.iload 11, 2) := by decide +kernel
theorem dL_law_244 : decode cL_law 244 = .ok (.iconst 4, 1) := by decide +kernel
theorem dL_law_245 : decode cL_law 245 = .ok (.irem, 1) := by decide +kernel
theorem dL_law_246 : decode cL_law 246 = .ok (.invokevirtual 93, 3) := by decide +kernel
theorem dL_law_249 : decode cL_law 249 = .ok (.ifCond .eq 18, 3) := by decide +kernel
theorem dL_law_252 : decode cL_law 252 = .ok (.aload_n 1, 1) := by decide +kernel
theorem dL_law_253 : decode cL_law 253 = .ok (.iload 11, 2) := by decide +kernel
theorem dL_law_255 : decode cL_law 255 = .ok (.iconst 4, 1) := by decide +kernel
theorem dL_law_256 : decode cL_law 256 = .ok (.irem, 1) := by decide +kernel
theorem dL_law_257 : decode cL_law 257 = .ok (.iload 11, 2) := by decide +kernel
theorem dL_law_259 : decode cL_law 259 = .ok (.iconst 4, 1) := by decide +kernel
theorem dL_law_260 : decode cL_law 260 = .ok (.idiv, 1) := by decide +kernel
theorem dL_law_261 : decode cL_law 261 = .ok (.invokevirtual 93, 3) := by decide +kernel
theorem dL_law_264 : decode cL_law 264 = .ok (.ifCond .ne 7, 3) := by decide +kernel
theorem dL_law_267 : decode cL_law 267 = .ok (.iconst 1, 1) := by decide +kernel
theorem dL_law_268 : decode cL_law 268 = .ok (.goto 4, 3) := by decide +kernel
theorem dL_law_271 : decode cL_law 271 = .ok (.iconst 0, 1) := by decide +kernel
theorem dL_law_272 : decode cL_law 272 = .ok (.istore 7, 2) := by decide +kernel
theorem dL_law_274 : decode cL_law 274 = .ok (.iinc 11 1, 3) := by decide +kernel
theorem dL_law_277 : decode cL_law 277 = .ok (.goto (-52), 3) := by decide +kernel
theorem dL_law_280 : decode cL_law 280 = .ok (.iinc 8 1, 3) := by decide +kernel
theorem dL_law_283 : decode cL_law 283 = .ok (.goto (-244), 3) := by decide +kernel
theorem dL_law_286 : decode cL_law 286 = .ok (.iload 7, 2) := by decide +kernel
theorem dL_law_288 : decode cL_law 288 = .ok (.ireturn, 1) := by decide +kernel
abbrev vwCl : List vw_C := [(RX0, TX0, 7), (RX1, TX1, 2), (RX2, TX2, 7), (RX3, TX3, 4), (RX4, TX4, 3), (RX5, TX5, 6)]
end
section
/-! Rows over symbolic worlds: hl_X: at this frame with this world, whatever the heap. Turned from the kit's one-instruction laws. -/
def hl_ty (cI cZ cJ : ClassId) : List (ClassId × FieldType) := [(cI, .int), (cZ, .boolean), (cJ, .long)]
def hl_C (p : Program) (s : State) (m : MethodId) (args : Array Value) (c : Code) (cc : ByteArray) (nL : Nat) (Ts : List Cond) (own : String) (D : va_G) (tys : List (ClassId × FieldType)) (A : Nat → Prop) : Prop :=
  p.tables.exec = Jvm.exec ∧ c.code = cc ∧ c.maxLocals = nL ∧ s.vm.findClass own = some m.cls ∧ (∀ w ∈ Ts, w.before args s = true) ∧ va_K D vwCl tys s ∧ ∀ q : Nat, s.heap.size ≤ q → A q
def hl_X (p : Program) (l : Launch) (e : Env) (R : Room) (s : State) (m : MethodId) (args : Array Value) (below : List Frame) (meth : Method) (c : Code) (nL : Nat) (D : va_G) (A : Nat → Prop) (cells slots : Nat) (Q : State → Prop) (w : va_W) (pc : Nat) (ls : List (Nat × Value)) (st : List Value) : Prop :=
  ∀ (H : Heap) (locs : List Loc) (la : Array Slot), va_P D vwCl w H → va_D A w → va_S A s.heap H locs → lv_has la nL ls → W p l e R s m args below meth c H locs cells slots Q (F0 m pc la st)
section HLR
variable {p : Program} {l : Launch} {e : Env} {R : Room} {s : State} {m : MethodId} {args : Array Value} {below : List Frame} {meth : Method} {c : Code}
variable {cc : ByteArray} {nL : Nat} {Ts : List Cond} {own : String} {D : va_G} {tys : List (ClassId × FieldType)} {A : Nat → Prop} {cells slots : Nat} {Q : State → Prop} {w : va_W} {pc : Nat} {ls : List (Nat × Value)} {st : List Value}
theorem hl_iconst (h : hl_C p s m args c cc nL Ts own D tys A) {n : Int} (v : Int32) (hd : decode cc pc = .ok (.iconst n, 1)) (hv : Int32.ofInt n = v) (k : hl_X p l e R s m args below meth c nL D A cells slots Q w (pc + 1) ls (.int v :: st)) : hl_X p l e R s m args below meth c nL D A cells slots Q w pc ls st :=
  fun H locs la hP hD hS hl => lv_iconst h.1 h.2.1 hd hv (k H locs la hP hD hS hl)
theorem hl_bipush (h : hl_C p s m args c cc nL Ts own D tys A) {n : Int} (v : Int32) (hd : decode cc pc = .ok (.bipush n, 2)) (hv : (Int8.ofInt n).toInt32 = v) (k : hl_X p l e R s m args below meth c nL D A cells slots Q w (pc + 2) ls (.int v :: st)) : hl_X p l e R s m args below meth c nL D A cells slots Q w pc ls st :=
  fun H locs la hP hD hS hl => lv_bipush h.1 h.2.1 hd hv (k H locs la hP hD hS hl)
theorem hl_sipush (h : hl_C p s m args c cc nL Ts own D tys A) {n : Int} (v : Int32) (hd : decode cc pc = .ok (.sipush n, 3)) (hv : (Int16.ofInt n).toInt32 = v) (k : hl_X p l e R s m args below meth c nL D A cells slots Q w (pc + 3) ls (.int v :: st)) : hl_X p l e R s m args below meth c nL D A cells slots Q w pc ls st :=
  fun H locs la hP hD hS hl => lv_sipush h.1 h.2.1 hd hv (k H locs la hP hD hS hl)
theorem hl_iload_n (h : hl_C p s m args c cc nL Ts own D tys A) (k : Nat) {j : Fin 4} {x : Int32} (hd : decode cc pc = .ok (.iload_n j, 1)) (hk : ls[k]? = some ((j : Nat), .int x)) (kk : hl_X p l e R s m args below meth c nL D A cells slots Q w (pc + 1) ls (.int x :: st)) : hl_X p l e R s m args below meth c nL D A cells slots Q w pc ls st :=
  fun H locs la hP hD hS hl => lv_iload_n h.1 h.2.1 hd rfl (lv_at hl k hk) (kk H locs la hP hD hS hl)
theorem hl_iload (h : hl_C p s m args c cc nL Ts own D tys A) (k : Nat) {i : Nat} {x : Int32} (hd : decode cc pc = .ok (.iload i, 2)) (hk : ls[k]? = some (i, .int x)) (kk : hl_X p l e R s m args below meth c nL D A cells slots Q w (pc + 2) ls (.int x :: st)) : hl_X p l e R s m args below meth c nL D A cells slots Q w pc ls st :=
  fun H locs la hP hD hS hl => lv_iload h.1 h.2.1 hd (lv_at hl k hk) (kk H locs la hP hD hS hl)
theorem hl_aload_n (h : hl_C p s m args c cc nL Ts own D tys A) (k : Nat) {j : Fin 4} {x : Nat} (hd : decode cc pc = .ok (.aload_n j, 1)) (hk : ls[k]? = some ((j : Nat), .ref x)) (kk : hl_X p l e R s m args below meth c nL D A cells slots Q w (pc + 1) ls (.ref x :: st)) : hl_X p l e R s m args below meth c nL D A cells slots Q w pc ls st :=
  fun H locs la hP hD hS hl => lv_aload_n h.1 h.2.1 hd rfl (lv_at hl k hk) (kk H locs la hP hD hS hl)
theorem hl_aload (h : hl_C p s m args c cc nL Ts own D tys A) (k : Nat) {i : Nat} {x : Nat} (hd : decode cc pc = .ok (.aload i, 2)) (hk : ls[k]? = some (i, .ref x)) (kk : hl_X p l e R s m args below meth c nL D A cells slots Q w (pc + 2) ls (.ref x :: st)) : hl_X p l e R s m args below meth c nL D A cells slots Q w pc ls st :=
  fun H locs la hP hD hS hl => lv_aload h.1 h.2.1 hd (lv_at hl k hk) (kk H locs la hP hD hS hl)
theorem hl_istore_n (h : hl_C p s m args c cc nL Ts own D tys A) (lv' : List (Nat × Value)) {j : Fin 4} {x : Int32} (hd : decode cc pc = .ok (.istore_n j, 1)) (hn : (j : Nat) < nL) (hl' : ((j : Nat), Value.int x) :: ls.filter (fun q => !(q.1 == (j : Nat)) && !(q.1 + 1 == (j : Nat) && q.2.category == 2)) = lv') (k : hl_X p l e R s m args below meth c nL D A cells slots Q w (pc + 1) lv' st) : hl_X p l e R s m args below meth c nL D A cells slots Q w pc ls (.int x :: st) :=
  fun H locs la hP hD hS hl => lv_istore_n h.1 h.2.1 hd rfl hl hn hl' (fun la' hl2 => k H locs la' hP hD hS hl2)
theorem hl_istore (h : hl_C p s m args c cc nL Ts own D tys A) (lv' : List (Nat × Value)) {i : Nat} {x : Int32} (hd : decode cc pc = .ok (.istore i, 2)) (hn : i < nL) (hl' : (i, Value.int x) :: ls.filter (fun q => !(q.1 == i) && !(q.1 + 1 == i && q.2.category == 2)) = lv') (k : hl_X p l e R s m args below meth c nL D A cells slots Q w (pc + 2) lv' st) : hl_X p l e R s m args below meth c nL D A cells slots Q w pc ls (.int x :: st) :=
  fun H locs la hP hD hS hl => lv_istore h.1 h.2.1 hd hl hn hl' (fun la' hl2 => k H locs la' hP hD hS hl2)
theorem hl_astore_n (h : hl_C p s m args c cc nL Ts own D tys A) (lv' : List (Nat × Value)) {j : Fin 4} {x : Nat} (hd : decode cc pc = .ok (.astore_n j, 1)) (hn : (j : Nat) < nL) (hl' : ((j : Nat), Value.ref x) :: ls.filter (fun q => !(q.1 == (j : Nat)) && !(q.1 + 1 == (j : Nat) && q.2.category == 2)) = lv') (k : hl_X p l e R s m args below meth c nL D A cells slots Q w (pc + 1) lv' st) : hl_X p l e R s m args below meth c nL D A cells slots Q w pc ls (.ref x :: st) :=
  fun H locs la hP hD hS hl => lv_astore_n h.1 h.2.1 hd rfl hl hn hl' (fun la' hl2 => k H locs la' hP hD hS hl2)
theorem hl_astore (h : hl_C p s m args c cc nL Ts own D tys A) (lv' : List (Nat × Value)) {i : Nat} {x : Nat} (hd : decode cc pc = .ok (.astore i, 2)) (hn : i < nL) (hl' : (i, Value.ref x) :: ls.filter (fun q => !(q.1 == i) && !(q.1 + 1 == i && q.2.category == 2)) = lv') (k : hl_X p l e R s m args below meth c nL D A cells slots Q w (pc + 2) lv' st) : hl_X p l e R s m args below meth c nL D A cells slots Q w pc ls (.ref x :: st) :=
  fun H locs la hP hD hS hl => lv_astore h.1 h.2.1 hd hl hn hl' (fun la' hl2 => k H locs la' hP hD hS hl2)
theorem hl_iinc (h : hl_C p s m args c cc nL Ts own D tys A) (k : Nat) (v : Int32) (lv' : List (Nat × Value)) {i : Nat} {n : Int} {x : Int32} (hd : decode cc pc = .ok (.iinc i n, 3)) (hk : ls[k]? = some (i, .int x)) (hv : x + Int32.ofInt n = v) (hn : i < nL) (hl' : (i, Value.int v) :: ls.filter (fun q => !(q.1 == i) && !(q.1 + 1 == i && q.2.category == 2)) = lv') (kk : hl_X p l e R s m args below meth c nL D A cells slots Q w (pc + 3) lv' st) : hl_X p l e R s m args below meth c nL D A cells slots Q w pc ls st :=
  fun H locs la hP hD hS hl => lv_iinc h.1 h.2.1 hd hl hk hv hn hl' (fun la' hl2 => kk H locs la' hP hD hS hl2)
theorem hl_dup (h : hl_C p s m args c cc nL Ts own D tys A) {va : Value} (hd : decode cc pc = .ok (.dup, 1)) (hva : va.category = 1) (k : hl_X p l e R s m args below meth c nL D A cells slots Q w (pc + 1) ls (va :: va :: st)) : hl_X p l e R s m args below meth c nL D A cells slots Q w pc ls (va :: st) :=
  fun H locs la hP hD hS hl => lv_dup h.1 h.2.1 hd hva (k H locs la hP hD hS hl)
theorem hl_dup2 (h : hl_C p s m args c cc nL Ts own D tys A) {va vb : Value} (hd : decode cc pc = .ok (.dup2, 1)) (hva : va.category = 1) (hvb : vb.category = 1) (k : hl_X p l e R s m args below meth c nL D A cells slots Q w (pc + 1) ls (va :: vb :: va :: vb :: st)) : hl_X p l e R s m args below meth c nL D A cells slots Q w pc ls (va :: vb :: st) :=
  fun H locs la hP hD hS hl => lv_dup2_11 h.1 h.2.1 hd hva hvb (k H locs la hP hD hS hl)
theorem hl_iadd (h : hl_C p s m args c cc nL Ts own D tys A) {x y : Int32} (hd : decode cc pc = .ok (.iadd, 1)) (k : hl_X p l e R s m args below meth c nL D A cells slots Q w (pc + 1) ls (.int (x + y) :: st)) : hl_X p l e R s m args below meth c nL D A cells slots Q w pc ls (.int y :: .int x :: st) :=
  fun H locs la hP hD hS hl => lv_iadd h.1 h.2.1 hd (k H locs la hP hD hS hl)
theorem hl_isub (h : hl_C p s m args c cc nL Ts own D tys A) {x y : Int32} (hd : decode cc pc = .ok (.isub, 1)) (k : hl_X p l e R s m args below meth c nL D A cells slots Q w (pc + 1) ls (.int (x - y) :: st)) : hl_X p l e R s m args below meth c nL D A cells slots Q w pc ls (.int y :: .int x :: st) :=
  fun H locs la hP hD hS hl => lv_isub h.1 h.2.1 hd (k H locs la hP hD hS hl)
theorem hl_imul (h : hl_C p s m args c cc nL Ts own D tys A) {x y : Int32} (hd : decode cc pc = .ok (.imul, 1)) (k : hl_X p l e R s m args below meth c nL D A cells slots Q w (pc + 1) ls (.int (x * y) :: st)) : hl_X p l e R s m args below meth c nL D A cells slots Q w pc ls (.int y :: .int x :: st) :=
  fun H locs la hP hD hS hl => lv_imul h.1 h.2.1 hd (k H locs la hP hD hS hl)
theorem hl_iand (h : hl_C p s m args c cc nL Ts own D tys A) {x y : Int32} (hd : decode cc pc = .ok (.iand, 1)) (k : hl_X p l e R s m args below meth c nL D A cells slots Q w (pc + 1) ls (.int (x &&& y) :: st)) : hl_X p l e R s m args below meth c nL D A cells slots Q w pc ls (.int y :: .int x :: st) :=
  fun H locs la hP hD hS hl => lv_iand h.1 h.2.1 hd (k H locs la hP hD hS hl)
theorem hl_idiv (h : hl_C p s m args c cc nL Ts own D tys A) {x y : Int32} (hd : decode cc pc = .ok (.idiv, 1)) (hne : ¬ y = 0) (k : hl_X p l e R s m args below meth c nL D A cells slots Q w (pc + 1) ls (.int (x / y) :: st)) : hl_X p l e R s m args below meth c nL D A cells slots Q w pc ls (.int y :: .int x :: st) :=
  fun H locs la hP hD hS hl => lv_idiv h.1 h.2.1 hd hne (k H locs la hP hD hS hl)
theorem hl_irem (h : hl_C p s m args c cc nL Ts own D tys A) {x y : Int32} (hd : decode cc pc = .ok (.irem, 1)) (hne : ¬ y = 0) (k : hl_X p l e R s m args below meth c nL D A cells slots Q w (pc + 1) ls (.int (x - x / y * y) :: st)) : hl_X p l e R s m args below meth c nL D A cells slots Q w pc ls (.int y :: .int x :: st) :=
  fun H locs la hP hD hS hl => lv_irem h.1 h.2.1 hd hne (k H locs la hP hD hS hl)
theorem hl_i2l (h : hl_C p s m args c cc nL Ts own D tys A) {x : Int32} (hd : decode cc pc = .ok (.i2l, 1)) (k : hl_X p l e R s m args below meth c nL D A cells slots Q w (pc + 1) ls (.long x.toInt64 :: st)) : hl_X p l e R s m args below meth c nL D A cells slots Q w pc ls (.int x :: st) :=
  fun H locs la hP hD hS hl => lv_i2l h.1 h.2.1 hd rfl (k H locs la hP hD hS hl)
theorem hl_lcmp (h : hl_C p s m args c cc nL Ts own D tys A) {x y : Int64} (hd : decode cc pc = .ok (.lcmp, 1)) (k : hl_X p l e R s m args below meth c nL D A cells slots Q w (pc + 1) ls (.int (lg_cmp x y) :: st)) : hl_X p l e R s m args below meth c nL D A cells slots Q w pc ls (.long y :: .long x :: st) :=
  fun H locs la hP hD hS hl => W.lcmp h.1 h.2.1 hd (k H locs la hP hD hS hl)
theorem hl_goto (h : hl_C p s m args c cc nL Ts own D tys A) (tgt : Nat) {off : Int} (hd : decode cc pc = .ok (.goto off, 3)) (ht : (pc : Int) + off = (tgt : Int)) (k : hl_X p l e R s m args below meth c nL D A cells slots Q w tgt ls st) : hl_X p l e R s m args below meth c nL D A cells slots Q w pc ls st :=
  fun H locs la hP hD hS hl => lv_goto h.1 h.2.1 hd ht (k H locs la hP hD hS hl)
theorem hl_if_eq (h : hl_C p s m args c cc nL Ts own D tys A) (tgt : Nat) {x : Int32} {off : Int} (hd : decode cc pc = .ok (.ifCond .eq off, 3)) (ht : (pc : Int) + off = (tgt : Int)) (kt : (x = 0) → hl_X p l e R s m args below meth c nL D A cells slots Q w tgt ls st) (kf : ¬ x = 0 → hl_X p l e R s m args below meth c nL D A cells slots Q w (pc + 3) ls st) : hl_X p l e R s m args below meth c nL D A cells slots Q w pc ls (.int x :: st) :=
  fun H locs la hP hD hS hl => lv_if_eq h.1 h.2.1 hd ht (fun z => kt z H locs la hP hD hS hl) (fun z => kf z H locs la hP hD hS hl)
theorem hl_if_eq_T (h : hl_C p s m args c cc nL Ts own D tys A) (tgt : Nat) {x : Int32} {off : Int} (hd : decode cc pc = .ok (.ifCond .eq off, 3)) (ht : (pc : Int) + off = (tgt : Int)) (hc : (x = 0)) (kt : hl_X p l e R s m args below meth c nL D A cells slots Q w tgt ls st) : hl_X p l e R s m args below meth c nL D A cells slots Q w pc ls (.int x :: st) :=
  hl_if_eq h tgt hd ht (fun _ => kt) (fun z => absurd hc z)
theorem hl_if_eq_F (h : hl_C p s m args c cc nL Ts own D tys A) {x : Int32} {off : Int} (tgt : Nat) (hd : decode cc pc = .ok (.ifCond .eq off, 3)) (ht : (pc : Int) + off = (tgt : Int)) (hc : ¬ x = 0) (kf : hl_X p l e R s m args below meth c nL D A cells slots Q w (pc + 3) ls st) : hl_X p l e R s m args below meth c nL D A cells slots Q w pc ls (.int x :: st) :=
  hl_if_eq h tgt hd ht (fun z => absurd z hc) (fun _ => kf)
theorem hl_if_ne (h : hl_C p s m args c cc nL Ts own D tys A) (tgt : Nat) {x : Int32} {off : Int} (hd : decode cc pc = .ok (.ifCond .ne off, 3)) (ht : (pc : Int) + off = (tgt : Int)) (kt : (¬ x = 0) → hl_X p l e R s m args below meth c nL D A cells slots Q w tgt ls st) (kf : x = 0 → hl_X p l e R s m args below meth c nL D A cells slots Q w (pc + 3) ls st) : hl_X p l e R s m args below meth c nL D A cells slots Q w pc ls (.int x :: st) :=
  fun H locs la hP hD hS hl => lv_if_ne h.1 h.2.1 hd ht (fun z => kt z H locs la hP hD hS hl) (fun z => kf z H locs la hP hD hS hl)
theorem hl_if_ne_T (h : hl_C p s m args c cc nL Ts own D tys A) (tgt : Nat) {x : Int32} {off : Int} (hd : decode cc pc = .ok (.ifCond .ne off, 3)) (ht : (pc : Int) + off = (tgt : Int)) (hc : (¬ x = 0)) (kt : hl_X p l e R s m args below meth c nL D A cells slots Q w tgt ls st) : hl_X p l e R s m args below meth c nL D A cells slots Q w pc ls (.int x :: st) :=
  hl_if_ne h tgt hd ht (fun _ => kt) (fun z => absurd z hc)
theorem hl_if_ne_F (h : hl_C p s m args c cc nL Ts own D tys A) {x : Int32} {off : Int} (tgt : Nat) (hd : decode cc pc = .ok (.ifCond .ne off, 3)) (ht : (pc : Int) + off = (tgt : Int)) (hc : x = 0) (kf : hl_X p l e R s m args below meth c nL D A cells slots Q w (pc + 3) ls st) : hl_X p l e R s m args below meth c nL D A cells slots Q w pc ls (.int x :: st) :=
  hl_if_ne h tgt hd ht (fun z => absurd hc z) (fun _ => kf)
theorem hl_if_lt (h : hl_C p s m args c cc nL Ts own D tys A) (tgt : Nat) {x : Int32} {off : Int} (hd : decode cc pc = .ok (.ifCond .lt off, 3)) (ht : (pc : Int) + off = (tgt : Int)) (kt : (x < 0) → hl_X p l e R s m args below meth c nL D A cells slots Q w tgt ls st) (kf : ¬ x < 0 → hl_X p l e R s m args below meth c nL D A cells slots Q w (pc + 3) ls st) : hl_X p l e R s m args below meth c nL D A cells slots Q w pc ls (.int x :: st) :=
  fun H locs la hP hD hS hl => lv_if_lt h.1 h.2.1 hd ht (fun z => kt z H locs la hP hD hS hl) (fun z => kf z H locs la hP hD hS hl)
theorem hl_if_lt_T (h : hl_C p s m args c cc nL Ts own D tys A) (tgt : Nat) {x : Int32} {off : Int} (hd : decode cc pc = .ok (.ifCond .lt off, 3)) (ht : (pc : Int) + off = (tgt : Int)) (hc : (x < 0)) (kt : hl_X p l e R s m args below meth c nL D A cells slots Q w tgt ls st) : hl_X p l e R s m args below meth c nL D A cells slots Q w pc ls (.int x :: st) :=
  hl_if_lt h tgt hd ht (fun _ => kt) (fun z => absurd hc z)
theorem hl_if_lt_F (h : hl_C p s m args c cc nL Ts own D tys A) {x : Int32} {off : Int} (tgt : Nat) (hd : decode cc pc = .ok (.ifCond .lt off, 3)) (ht : (pc : Int) + off = (tgt : Int)) (hc : ¬ x < 0) (kf : hl_X p l e R s m args below meth c nL D A cells slots Q w (pc + 3) ls st) : hl_X p l e R s m args below meth c nL D A cells slots Q w pc ls (.int x :: st) :=
  hl_if_lt h tgt hd ht (fun z => absurd z hc) (fun _ => kf)
theorem hl_if_ge (h : hl_C p s m args c cc nL Ts own D tys A) (tgt : Nat) {x : Int32} {off : Int} (hd : decode cc pc = .ok (.ifCond .ge off, 3)) (ht : (pc : Int) + off = (tgt : Int)) (kt : (0 ≤ x) → hl_X p l e R s m args below meth c nL D A cells slots Q w tgt ls st) (kf : ¬ 0 ≤ x → hl_X p l e R s m args below meth c nL D A cells slots Q w (pc + 3) ls st) : hl_X p l e R s m args below meth c nL D A cells slots Q w pc ls (.int x :: st) :=
  fun H locs la hP hD hS hl => lv_if_ge h.1 h.2.1 hd ht (fun z => kt z H locs la hP hD hS hl) (fun z => kf z H locs la hP hD hS hl)
theorem hl_if_ge_T (h : hl_C p s m args c cc nL Ts own D tys A) (tgt : Nat) {x : Int32} {off : Int} (hd : decode cc pc = .ok (.ifCond .ge off, 3)) (ht : (pc : Int) + off = (tgt : Int)) (hc : (0 ≤ x)) (kt : hl_X p l e R s m args below meth c nL D A cells slots Q w tgt ls st) : hl_X p l e R s m args below meth c nL D A cells slots Q w pc ls (.int x :: st) :=
  hl_if_ge h tgt hd ht (fun _ => kt) (fun z => absurd hc z)
theorem hl_if_ge_F (h : hl_C p s m args c cc nL Ts own D tys A) {x : Int32} {off : Int} (tgt : Nat) (hd : decode cc pc = .ok (.ifCond .ge off, 3)) (ht : (pc : Int) + off = (tgt : Int)) (hc : ¬ 0 ≤ x) (kf : hl_X p l e R s m args below meth c nL D A cells slots Q w (pc + 3) ls st) : hl_X p l e R s m args below meth c nL D A cells slots Q w pc ls (.int x :: st) :=
  hl_if_ge h tgt hd ht (fun z => absurd z hc) (fun _ => kf)
theorem hl_if_gt (h : hl_C p s m args c cc nL Ts own D tys A) (tgt : Nat) {x : Int32} {off : Int} (hd : decode cc pc = .ok (.ifCond .gt off, 3)) (ht : (pc : Int) + off = (tgt : Int)) (kt : (0 < x) → hl_X p l e R s m args below meth c nL D A cells slots Q w tgt ls st) (kf : ¬ 0 < x → hl_X p l e R s m args below meth c nL D A cells slots Q w (pc + 3) ls st) : hl_X p l e R s m args below meth c nL D A cells slots Q w pc ls (.int x :: st) :=
  fun H locs la hP hD hS hl => lv_if_gt h.1 h.2.1 hd ht (fun z => kt z H locs la hP hD hS hl) (fun z => kf z H locs la hP hD hS hl)
theorem hl_if_gt_T (h : hl_C p s m args c cc nL Ts own D tys A) (tgt : Nat) {x : Int32} {off : Int} (hd : decode cc pc = .ok (.ifCond .gt off, 3)) (ht : (pc : Int) + off = (tgt : Int)) (hc : (0 < x)) (kt : hl_X p l e R s m args below meth c nL D A cells slots Q w tgt ls st) : hl_X p l e R s m args below meth c nL D A cells slots Q w pc ls (.int x :: st) :=
  hl_if_gt h tgt hd ht (fun _ => kt) (fun z => absurd hc z)
theorem hl_if_gt_F (h : hl_C p s m args c cc nL Ts own D tys A) {x : Int32} {off : Int} (tgt : Nat) (hd : decode cc pc = .ok (.ifCond .gt off, 3)) (ht : (pc : Int) + off = (tgt : Int)) (hc : ¬ 0 < x) (kf : hl_X p l e R s m args below meth c nL D A cells slots Q w (pc + 3) ls st) : hl_X p l e R s m args below meth c nL D A cells slots Q w pc ls (.int x :: st) :=
  hl_if_gt h tgt hd ht (fun z => absurd z hc) (fun _ => kf)
theorem hl_if_le (h : hl_C p s m args c cc nL Ts own D tys A) (tgt : Nat) {x : Int32} {off : Int} (hd : decode cc pc = .ok (.ifCond .le off, 3)) (ht : (pc : Int) + off = (tgt : Int)) (kt : (x ≤ 0) → hl_X p l e R s m args below meth c nL D A cells slots Q w tgt ls st) (kf : ¬ x ≤ 0 → hl_X p l e R s m args below meth c nL D A cells slots Q w (pc + 3) ls st) : hl_X p l e R s m args below meth c nL D A cells slots Q w pc ls (.int x :: st) :=
  fun H locs la hP hD hS hl => lv_if_le h.1 h.2.1 hd ht (fun z => kt z H locs la hP hD hS hl) (fun z => kf z H locs la hP hD hS hl)
theorem hl_if_le_T (h : hl_C p s m args c cc nL Ts own D tys A) (tgt : Nat) {x : Int32} {off : Int} (hd : decode cc pc = .ok (.ifCond .le off, 3)) (ht : (pc : Int) + off = (tgt : Int)) (hc : (x ≤ 0)) (kt : hl_X p l e R s m args below meth c nL D A cells slots Q w tgt ls st) : hl_X p l e R s m args below meth c nL D A cells slots Q w pc ls (.int x :: st) :=
  hl_if_le h tgt hd ht (fun _ => kt) (fun z => absurd hc z)
theorem hl_if_le_F (h : hl_C p s m args c cc nL Ts own D tys A) {x : Int32} {off : Int} (tgt : Nat) (hd : decode cc pc = .ok (.ifCond .le off, 3)) (ht : (pc : Int) + off = (tgt : Int)) (hc : ¬ x ≤ 0) (kf : hl_X p l e R s m args below meth c nL D A cells slots Q w (pc + 3) ls st) : hl_X p l e R s m args below meth c nL D A cells slots Q w pc ls (.int x :: st) :=
  hl_if_le h tgt hd ht (fun z => absurd z hc) (fun _ => kf)
theorem hl_icmp_eq (h : hl_C p s m args c cc nL Ts own D tys A) (tgt : Nat) {x y : Int32} {off : Int} (hd : decode cc pc = .ok (.if_icmp .eq off, 3)) (ht : (pc : Int) + off = (tgt : Int)) (kt : (x = y) → hl_X p l e R s m args below meth c nL D A cells slots Q w tgt ls st) (kf : ¬ x = y → hl_X p l e R s m args below meth c nL D A cells slots Q w (pc + 3) ls st) : hl_X p l e R s m args below meth c nL D A cells slots Q w pc ls (.int y :: .int x :: st) :=
  fun H locs la hP hD hS hl => lv_icmp_eq h.1 h.2.1 hd ht (fun z => kt z H locs la hP hD hS hl) (fun z => kf z H locs la hP hD hS hl)
theorem hl_icmp_eq_T (h : hl_C p s m args c cc nL Ts own D tys A) (tgt : Nat) {x y : Int32} {off : Int} (hd : decode cc pc = .ok (.if_icmp .eq off, 3)) (ht : (pc : Int) + off = (tgt : Int)) (hc : (x = y)) (kt : hl_X p l e R s m args below meth c nL D A cells slots Q w tgt ls st) : hl_X p l e R s m args below meth c nL D A cells slots Q w pc ls (.int y :: .int x :: st) :=
  hl_icmp_eq h tgt hd ht (fun _ => kt) (fun z => absurd hc z)
theorem hl_icmp_eq_F (h : hl_C p s m args c cc nL Ts own D tys A) {x y : Int32} {off : Int} (tgt : Nat) (hd : decode cc pc = .ok (.if_icmp .eq off, 3)) (ht : (pc : Int) + off = (tgt : Int)) (hc : ¬ x = y) (kf : hl_X p l e R s m args below meth c nL D A cells slots Q w (pc + 3) ls st) : hl_X p l e R s m args below meth c nL D A cells slots Q w pc ls (.int y :: .int x :: st) :=
  hl_icmp_eq h tgt hd ht (fun z => absurd z hc) (fun _ => kf)
theorem hl_icmp_ne (h : hl_C p s m args c cc nL Ts own D tys A) (tgt : Nat) {x y : Int32} {off : Int} (hd : decode cc pc = .ok (.if_icmp .ne off, 3)) (ht : (pc : Int) + off = (tgt : Int)) (kt : (¬ x = y) → hl_X p l e R s m args below meth c nL D A cells slots Q w tgt ls st) (kf : x = y → hl_X p l e R s m args below meth c nL D A cells slots Q w (pc + 3) ls st) : hl_X p l e R s m args below meth c nL D A cells slots Q w pc ls (.int y :: .int x :: st) :=
  fun H locs la hP hD hS hl => lv_icmp_ne h.1 h.2.1 hd ht (fun z => kt z H locs la hP hD hS hl) (fun z => kf z H locs la hP hD hS hl)
theorem hl_icmp_ne_T (h : hl_C p s m args c cc nL Ts own D tys A) (tgt : Nat) {x y : Int32} {off : Int} (hd : decode cc pc = .ok (.if_icmp .ne off, 3)) (ht : (pc : Int) + off = (tgt : Int)) (hc : (¬ x = y)) (kt : hl_X p l e R s m args below meth c nL D A cells slots Q w tgt ls st) : hl_X p l e R s m args below meth c nL D A cells slots Q w pc ls (.int y :: .int x :: st) :=
  hl_icmp_ne h tgt hd ht (fun _ => kt) (fun z => absurd z hc)
theorem hl_icmp_ne_F (h : hl_C p s m args c cc nL Ts own D tys A) {x y : Int32} {off : Int} (tgt : Nat) (hd : decode cc pc = .ok (.if_icmp .ne off, 3)) (ht : (pc : Int) + off = (tgt : Int)) (hc : x = y) (kf : hl_X p l e R s m args below meth c nL D A cells slots Q w (pc + 3) ls st) : hl_X p l e R s m args below meth c nL D A cells slots Q w pc ls (.int y :: .int x :: st) :=
  hl_icmp_ne h tgt hd ht (fun z => absurd hc z) (fun _ => kf)
theorem hl_icmp_lt (h : hl_C p s m args c cc nL Ts own D tys A) (tgt : Nat) {x y : Int32} {off : Int} (hd : decode cc pc = .ok (.if_icmp .lt off, 3)) (ht : (pc : Int) + off = (tgt : Int)) (kt : (x < y) → hl_X p l e R s m args below meth c nL D A cells slots Q w tgt ls st) (kf : ¬ x < y → hl_X p l e R s m args below meth c nL D A cells slots Q w (pc + 3) ls st) : hl_X p l e R s m args below meth c nL D A cells slots Q w pc ls (.int y :: .int x :: st) :=
  fun H locs la hP hD hS hl => lv_icmp_lt h.1 h.2.1 hd ht (fun z => kt z H locs la hP hD hS hl) (fun z => kf z H locs la hP hD hS hl)
theorem hl_icmp_lt_T (h : hl_C p s m args c cc nL Ts own D tys A) (tgt : Nat) {x y : Int32} {off : Int} (hd : decode cc pc = .ok (.if_icmp .lt off, 3)) (ht : (pc : Int) + off = (tgt : Int)) (hc : (x < y)) (kt : hl_X p l e R s m args below meth c nL D A cells slots Q w tgt ls st) : hl_X p l e R s m args below meth c nL D A cells slots Q w pc ls (.int y :: .int x :: st) :=
  hl_icmp_lt h tgt hd ht (fun _ => kt) (fun z => absurd hc z)
theorem hl_icmp_lt_F (h : hl_C p s m args c cc nL Ts own D tys A) {x y : Int32} {off : Int} (tgt : Nat) (hd : decode cc pc = .ok (.if_icmp .lt off, 3)) (ht : (pc : Int) + off = (tgt : Int)) (hc : ¬ x < y) (kf : hl_X p l e R s m args below meth c nL D A cells slots Q w (pc + 3) ls st) : hl_X p l e R s m args below meth c nL D A cells slots Q w pc ls (.int y :: .int x :: st) :=
  hl_icmp_lt h tgt hd ht (fun z => absurd z hc) (fun _ => kf)
theorem hl_icmp_ge (h : hl_C p s m args c cc nL Ts own D tys A) (tgt : Nat) {x y : Int32} {off : Int} (hd : decode cc pc = .ok (.if_icmp .ge off, 3)) (ht : (pc : Int) + off = (tgt : Int)) (kt : (y ≤ x) → hl_X p l e R s m args below meth c nL D A cells slots Q w tgt ls st) (kf : ¬ y ≤ x → hl_X p l e R s m args below meth c nL D A cells slots Q w (pc + 3) ls st) : hl_X p l e R s m args below meth c nL D A cells slots Q w pc ls (.int y :: .int x :: st) :=
  fun H locs la hP hD hS hl => lv_icmp_ge h.1 h.2.1 hd ht (fun z => kt z H locs la hP hD hS hl) (fun z => kf z H locs la hP hD hS hl)
theorem hl_icmp_ge_T (h : hl_C p s m args c cc nL Ts own D tys A) (tgt : Nat) {x y : Int32} {off : Int} (hd : decode cc pc = .ok (.if_icmp .ge off, 3)) (ht : (pc : Int) + off = (tgt : Int)) (hc : (y ≤ x)) (kt : hl_X p l e R s m args below meth c nL D A cells slots Q w tgt ls st) : hl_X p l e R s m args below meth c nL D A cells slots Q w pc ls (.int y :: .int x :: st) :=
  hl_icmp_ge h tgt hd ht (fun _ => kt) (fun z => absurd hc z)
theorem hl_icmp_ge_F (h : hl_C p s m args c cc nL Ts own D tys A) {x y : Int32} {off : Int} (tgt : Nat) (hd : decode cc pc = .ok (.if_icmp .ge off, 3)) (ht : (pc : Int) + off = (tgt : Int)) (hc : ¬ y ≤ x) (kf : hl_X p l e R s m args below meth c nL D A cells slots Q w (pc + 3) ls st) : hl_X p l e R s m args below meth c nL D A cells slots Q w pc ls (.int y :: .int x :: st) :=
  hl_icmp_ge h tgt hd ht (fun z => absurd z hc) (fun _ => kf)
theorem hl_icmp_gt (h : hl_C p s m args c cc nL Ts own D tys A) (tgt : Nat) {x y : Int32} {off : Int} (hd : decode cc pc = .ok (.if_icmp .gt off, 3)) (ht : (pc : Int) + off = (tgt : Int)) (kt : (y < x) → hl_X p l e R s m args below meth c nL D A cells slots Q w tgt ls st) (kf : ¬ y < x → hl_X p l e R s m args below meth c nL D A cells slots Q w (pc + 3) ls st) : hl_X p l e R s m args below meth c nL D A cells slots Q w pc ls (.int y :: .int x :: st) :=
  fun H locs la hP hD hS hl => lv_icmp_gt h.1 h.2.1 hd ht (fun z => kt z H locs la hP hD hS hl) (fun z => kf z H locs la hP hD hS hl)
theorem hl_icmp_gt_T (h : hl_C p s m args c cc nL Ts own D tys A) (tgt : Nat) {x y : Int32} {off : Int} (hd : decode cc pc = .ok (.if_icmp .gt off, 3)) (ht : (pc : Int) + off = (tgt : Int)) (hc : (y < x)) (kt : hl_X p l e R s m args below meth c nL D A cells slots Q w tgt ls st) : hl_X p l e R s m args below meth c nL D A cells slots Q w pc ls (.int y :: .int x :: st) :=
  hl_icmp_gt h tgt hd ht (fun _ => kt) (fun z => absurd hc z)
theorem hl_icmp_gt_F (h : hl_C p s m args c cc nL Ts own D tys A) {x y : Int32} {off : Int} (tgt : Nat) (hd : decode cc pc = .ok (.if_icmp .gt off, 3)) (ht : (pc : Int) + off = (tgt : Int)) (hc : ¬ y < x) (kf : hl_X p l e R s m args below meth c nL D A cells slots Q w (pc + 3) ls st) : hl_X p l e R s m args below meth c nL D A cells slots Q w pc ls (.int y :: .int x :: st) :=
  hl_icmp_gt h tgt hd ht (fun z => absurd z hc) (fun _ => kf)
theorem hl_icmp_le (h : hl_C p s m args c cc nL Ts own D tys A) (tgt : Nat) {x y : Int32} {off : Int} (hd : decode cc pc = .ok (.if_icmp .le off, 3)) (ht : (pc : Int) + off = (tgt : Int)) (kt : (x ≤ y) → hl_X p l e R s m args below meth c nL D A cells slots Q w tgt ls st) (kf : ¬ x ≤ y → hl_X p l e R s m args below meth c nL D A cells slots Q w (pc + 3) ls st) : hl_X p l e R s m args below meth c nL D A cells slots Q w pc ls (.int y :: .int x :: st) :=
  fun H locs la hP hD hS hl => lv_icmp_le h.1 h.2.1 hd ht (fun z => kt z H locs la hP hD hS hl) (fun z => kf z H locs la hP hD hS hl)
theorem hl_icmp_le_T (h : hl_C p s m args c cc nL Ts own D tys A) (tgt : Nat) {x y : Int32} {off : Int} (hd : decode cc pc = .ok (.if_icmp .le off, 3)) (ht : (pc : Int) + off = (tgt : Int)) (hc : (x ≤ y)) (kt : hl_X p l e R s m args below meth c nL D A cells slots Q w tgt ls st) : hl_X p l e R s m args below meth c nL D A cells slots Q w pc ls (.int y :: .int x :: st) :=
  hl_icmp_le h tgt hd ht (fun _ => kt) (fun z => absurd hc z)
theorem hl_icmp_le_F (h : hl_C p s m args c cc nL Ts own D tys A) {x y : Int32} {off : Int} (tgt : Nat) (hd : decode cc pc = .ok (.if_icmp .le off, 3)) (ht : (pc : Int) + off = (tgt : Int)) (hc : ¬ x ≤ y) (kf : hl_X p l e R s m args below meth c nL D A cells slots Q w (pc + 3) ls st) : hl_X p l e R s m args below meth c nL D A cells slots Q w pc ls (.int y :: .int x :: st) :=
  hl_icmp_le h tgt hd ht (fun z => absurd z hc) (fun _ => kf)
theorem hl_tableIn (h : hl_C p s m args c cc nL Ts own D tys A) (tgt : Nat) {dflt lo hi : Int} {offs : Array Int} {len : Nat} {x : Int32} {off : Int} (hd : decode cc pc = .ok (.tableswitch dflt lo hi offs, len)) (h1 : ¬ x.toInt < lo) (h2 : ¬ hi < x.toInt) (ho : offs[(x.toInt - lo).toNat]? = some off) (ht : (pc : Int) + off = (tgt : Int)) (k : hl_X p l e R s m args below meth c nL D A cells slots Q w tgt ls st) : hl_X p l e R s m args below meth c nL D A cells slots Q w pc ls (.int x :: st) :=
  fun H locs la hP hD hS hl => lv_tableIn h.1 h.2.1 hd h1 h2 ho ht (k H locs la hP hD hS hl)
theorem hl_tableOut (h : hl_C p s m args c cc nL Ts own D tys A) (tgt : Nat) {dflt lo hi : Int} {offs : Array Int} {len : Nat} {x : Int32} (hd : decode cc pc = .ok (.tableswitch dflt lo hi offs, len)) (h1 : x.toInt < lo ∨ hi < x.toInt) (ht : (pc : Int) + dflt = (tgt : Int)) (k : hl_X p l e R s m args below meth c nL D A cells slots Q w tgt ls st) : hl_X p l e R s m args below meth c nL D A cells slots Q w pc ls (.int x :: st) :=
  fun H locs la hP hD hS hl => lv_tableOut h.1 h.2.1 hd h1 ht (k H locs la hP hD hS hl)
/-! names for what is computed; fewer locals; another spelling -/
theorem hl_topi {x : Int32} (k : ∀ y : Int32, y = x → hl_X p l e R s m args below meth c nL D A cells slots Q w pc ls (.int y :: st)) : hl_X p l e R s m args below meth c nL D A cells slots Q w pc ls (.int x :: st) := k x rfl
theorem hl_topc {x : Int32} (y : Int32) (he : x = y) (k : hl_X p l e R s m args below meth c nL D A cells slots Q w pc ls (.int y :: st)) : hl_X p l e R s m args below meth c nL D A cells slots Q w pc ls (.int x :: st) := he ▸ k
theorem hl_ls {ls' : List (Nat × Value)} (he : ls = ls') (k : hl_X p l e R s m args below meth c nL D A cells slots Q w pc ls' st) : hl_X p l e R s m args below meth c nL D A cells slots Q w pc ls st := he ▸ k
theorem hl_wd {w' : va_W} (he : w = w') (k : hl_X p l e R s m args below meth c nL D A cells slots Q w' pc ls st) : hl_X p l e R s m args below meth c nL D A cells slots Q w pc ls st := he ▸ k
theorem hl_lsub (ks : List Nat) {ls' : List (Nat × Value)} (he : lv_pick ls ks = ls') (k : hl_X p l e R s m args below meth c nL D A cells slots Q w pc ls' st) : hl_X p l e R s m args below meth c nL D A cells slots Q w pc ls st :=
  fun H locs la hP hD hS hl => k H locs la hP hD hS (lv_sub hl ks he)
theorem hl_wsub (is : List Nat) {w' : va_W} (hn : va_nd is = true) (hs : is.map (fun i => w[i]?) = w'.map some) (k : hl_X p l e R s m args below meth c nL D A cells slots Q w' pc ls st) : hl_X p l e R s m args below meth c nL D A cells slots Q w pc ls st := by
  intro H locs la hP hD hS hl
  refine k H locs la (fun j q hj => ?_) (hD.sub is hn hs) hS hl
  have h1 : (is.map (fun i => w[i]?))[j]? = some (some q) := by rw [hs, List.getElem?_map, hj]; rfl
  rw [List.getElem?_map] at h1
  cases hi : is[j]? with
  | none => rw [hi] at h1; cases h1
  | some i => rw [hi] at h1; exact hP i q (Option.some.inj h1)
theorem hl_widen (k n : Nat) (h1 : cells ≤ k) (h2 : slots ≤ n) (kk : hl_X p l e R s m args below meth c nL D A k n Q w pc ls st) : hl_X p l e R s m args below meth c nL D A cells slots Q w pc ls st :=
  fun H locs la hP hD hS hl => W.widen h1 h2 (kk H locs la hP hD hS hl)
/-! fields, arrays -/
theorem hl_get (h : hl_C p s m args c cc nL Ts own D tys A) {C : String} {T : u_T} {N : Nat} (hin : ∀ z ∈ u_ws C T N, z ∈ Ts) {q0 a ci : Nat} {fs : List Value} (he : w[q0]? = some (a, .inr (ci, fs))) (hc : vwCl[ci]? = some (C, T, N)) (k : Nat) {v : Value} (hv : fs[k]? = some v) {index : Nat} (hd : decode cc pc = .ok (.getfield index, 3)) (hk : k < N) (hlink : Cond.fieldLink own index (T k).1 (T k).2.1 (T k).2.2.1 ∈ Ts) (kk : hl_X p l e R s m args below meth c nL D A cells slots Q w (pc + 3) ls (v :: st)) : hl_X p l e R s m args below meth c nL D A cells slots Q w pc ls (.ref a :: st) :=
  fun H locs la hP hD hS hl => va_get h.1 h.2.1 h.2.2.2.2.1 hin h.2.2.2.1 h.2.2.2.2.2.1 hP q0 he hc k hk (h.2.2.2.2.1 _ hlink) (fun _ h9 => h9) hv hd (kk H locs la hP hD hS hl)
theorem hl_put (h : hl_C p s m args c cc nL Ts own D tys A) {C : String} {T : u_T} {N : Nat} (hin : ∀ z ∈ u_ws C T N, z ∈ Ts) {ty0 : Nat → FieldType} (hty : ∀ k, k < N → parseFieldDescriptor (T k).2.2.1 = some (ty0 k)) (hnm : ∀ a, a < N → ∀ b, b < N → a ≠ b → (T a).2.1 ≠ (T b).2.1) {q0 a ci : Nat} {fs : List Value} (he : w[q0]? = some (a, .inr (ci, fs))) (hc : vwCl[ci]? = some (C, T, N)) (k : Nat) {v : Value} {index : Nat} (hd : decode cc pc = .ok (.putfield index, 3)) (hk : k < N) (hlink : Cond.fieldLink own index (T k).1 (T k).2.1 (T k).2.2.1 ∈ Ts) (hfin : (T k).2.2.2 = false) (hn : narrow (ty0 k) v = v) (hfit : fits (ty0 k) v = true) (hl0 : k < fs.length) {w' : va_W} (hw : w.set q0 (a, .inr (ci, fs.set k v)) = w') (kk : hl_X p l e R s m args below meth c nL D A cells slots Q w' (pc + 3) ls st) : hl_X p l e R s m args below meth c nL D A cells slots Q w pc ls (v :: .ref a :: st) :=
  fun H locs la hP hD hS hl => va_put h.1 h.2.1 h.2.2.2.2.1 hin ty0 hty hnm h.2.2.2.1 h.2.2.2.2.2.1 hP hD hS q0 he hc k hk (h.2.2.2.2.1 _ hlink) (fun _ h9 => h9) hfin (hty k hk) hn hfit hl0 hd (fun H1 locs1 hP1 hD1 hS1 => kk H1 locs1 la (hw ▸ hP1) (hw ▸ hD1) hS1 hl)
theorem hl_putF (h : hl_C p s m args c cc nL Ts own D tys A) {C : String} {T : u_T} {N : Nat} (hin : ∀ z ∈ u_ws C T N, z ∈ Ts) {ty0 : Nat → FieldType} (hty : ∀ k, k < N → parseFieldDescriptor (T k).2.2.1 = some (ty0 k)) (hnm : ∀ a, a < N → ∀ b, b < N → a ≠ b → (T a).2.1 ≠ (T b).2.1) {q0 a ci : Nat} {fs : List Value} (he : w[q0]? = some (a, .inr (ci, fs))) (hc : vwCl[ci]? = some (C, T, N)) (k : Nat) {v : Value} {index : Nat} (hd : decode cc pc = .ok (.putfield index, 3)) (hk : k < N) (hlink : Cond.fieldLink own index (T k).1 (T k).2.1 (T k).2.2.1 ∈ Ts) (hfin : (T k).2.2.2 = true) (hin2 : meth.name = "<init>") (hdecl : (T k).1 = own) (hn : narrow (ty0 k) v = v) (hfit : fits (ty0 k) v = true) (hl0 : k < fs.length) {w' : va_W} (hw : w.set q0 (a, .inr (ci, fs.set k v)) = w') (kk : hl_X p l e R s m args below meth c nL D A cells slots Q w' (pc + 3) ls st) : hl_X p l e R s m args below meth c nL D A cells slots Q w pc ls (v :: .ref a :: st) :=
  fun H locs la hP hD hS hl => va_putF h.1 h.2.1 h.2.2.2.2.1 hin ty0 hty hnm h.2.2.2.1 h.2.2.2.2.2.1 hP hD hS q0 he hc k hk (h.2.2.2.2.1 _ hlink) (fun _ h9 => h9) hfin hin2 hdecl (hty k hk) hn hfit hl0 hd (fun H1 locs1 hP1 hD1 hS1 => kk H1 locs1 la (hw ▸ hP1) (hw ▸ hD1) hS1 hl)
theorem hl_ild (h : hl_C p s m args c cc nL Ts own D tys A) {q0 a : Nat} {cA : ClassId} {n : Nat} {f : Nat → Int32} (he : w[q0]? = some (a, .inl (cA, n, .inl f))) (t0 : Nat) (ht : tys[t0]? = some (cA, .int)) {i : Int32} (hd : decode cc pc = .ok (.iaload, 1)) (hin : vp_in i n) (kk : hl_X p l e R s m args below meth c nL D A cells slots Q w (pc + 1) ls (.int (f i.toNatClampNeg) :: st)) : hl_X p l e R s m args below meth c nL D A cells slots Q w pc ls (.int i :: .ref a :: st) :=
  fun H locs la hP hD hS hl => va_iald h.1 h.2.1 h.2.2.2.2.2.1 hP q0 t0 he ht hin hd (kk H locs la hP hD hS hl)
theorem hl_ildN (h : hl_C p s m args c cc nL Ts own D tys A) {q0 a : Nat} {cA : ClassId} {n : Nat} {f : Nat → Int32} (he : w[q0]? = some (a, .inl (cA, n, .inl f))) (t0 : Nat) (ht : tys[t0]? = some (cA, .int)) {i : Int32} (j : Nat) (hd : decode cc pc = .ok (.iaload, 1)) (hi : i = nI j) (hj : j < n) (hn : n < 2 ^ 31) (kk : hl_X p l e R s m args below meth c nL D A cells slots Q w (pc + 1) ls (.int (f j) :: st)) : hl_X p l e R s m args below meth c nL D A cells slots Q w pc ls (.int i :: .ref a :: st) := by
  subst hi
  intro H locs la hP hD hS hl
  refine va_iald h.1 h.2.1 h.2.2.2.2.2.1 hP q0 t0 he ht (vp_in_nI hj hn) hd ?_
  rw [nI_clamp (by omega)]
  exact kk H locs la hP hD hS hl
theorem hl_zld (h : hl_C p s m args c cc nL Ts own D tys A) {q0 a : Nat} {cA : ClassId} {n : Nat} {f : Nat → Int32} (he : w[q0]? = some (a, .inl (cA, n, .inl f))) (t0 : Nat) (ht : tys[t0]? = some (cA, .boolean)) {i : Int32} (hd : decode cc pc = .ok (.baload, 1)) (hin : vp_in i n) (kk : hl_X p l e R s m args below meth c nL D A cells slots Q w (pc + 1) ls (.int (f i.toNatClampNeg) :: st)) : hl_X p l e R s m args below meth c nL D A cells slots Q w pc ls (.int i :: .ref a :: st) :=
  fun H locs la hP hD hS hl => va_zald h.1 h.2.1 h.2.2.2.2.2.1 hP q0 t0 he ht hin hd (kk H locs la hP hD hS hl)
theorem hl_zldN (h : hl_C p s m args c cc nL Ts own D tys A) {q0 a : Nat} {cA : ClassId} {n : Nat} {f : Nat → Int32} (he : w[q0]? = some (a, .inl (cA, n, .inl f))) (t0 : Nat) (ht : tys[t0]? = some (cA, .boolean)) {i : Int32} (j : Nat) (hd : decode cc pc = .ok (.baload, 1)) (hi : i = nI j) (hj : j < n) (hn : n < 2 ^ 31) (kk : hl_X p l e R s m args below meth c nL D A cells slots Q w (pc + 1) ls (.int (f j) :: st)) : hl_X p l e R s m args below meth c nL D A cells slots Q w pc ls (.int i :: .ref a :: st) := by
  subst hi
  intro H locs la hP hD hS hl
  refine va_zald h.1 h.2.1 h.2.2.2.2.2.1 hP q0 t0 he ht (vp_in_nI hj hn) hd ?_
  rw [nI_clamp (by omega)]
  exact kk H locs la hP hD hS hl
theorem hl_jld (h : hl_C p s m args c cc nL Ts own D tys A) {q0 a : Nat} {cA : ClassId} {n : Nat} {f : Nat → Int64} (he : w[q0]? = some (a, .inl (cA, n, .inr (.inl f)))) (t0 : Nat) (ht : tys[t0]? = some (cA, .long)) {i : Int32} (hd : decode cc pc = .ok (.laload, 1)) (hin : vp_in i n) (kk : hl_X p l e R s m args below meth c nL D A cells slots Q w (pc + 1) ls (.long (f i.toNatClampNeg) :: st)) : hl_X p l e R s m args below meth c nL D A cells slots Q w pc ls (.int i :: .ref a :: st) :=
  fun H locs la hP hD hS hl => va_lald h.1 h.2.1 h.2.2.2.2.2.1 hP q0 t0 he ht hin hd (kk H locs la hP hD hS hl)
theorem hl_ist (h : hl_C p s m args c cc nL Ts own D tys A) {q0 a : Nat} {cA : ClassId} {n : Nat} {f : Nat → Int32} (he : w[q0]? = some (a, .inl (cA, n, .inl f))) (t0 : Nat) (ht : tys[t0]? = some (cA, .int)) {i x : Int32} (hd : decode cc pc = .ok (.iastore, 1)) (hin : vp_in i n) {w' : va_W} (hw : w.set q0 (a, .inl (cA, n, .inl (upd f i.toNatClampNeg x))) = w') (kk : hl_X p l e R s m args below meth c nL D A cells slots Q w' (pc + 1) ls st) : hl_X p l e R s m args below meth c nL D A cells slots Q w pc ls (.int x :: .int i :: .ref a :: st) :=
  fun H locs la hP hD hS hl => va_iast h.1 h.2.1 h.2.2.2.2.2.1 hP hD hS q0 t0 he ht hin hd (fun H1 locs1 hP1 hD1 hS1 => kk H1 locs1 la (hw ▸ hP1) (hw ▸ hD1) hS1 hl)
theorem hl_istN (h : hl_C p s m args c cc nL Ts own D tys A) {q0 a : Nat} {cA : ClassId} {n : Nat} {f : Nat → Int32} (he : w[q0]? = some (a, .inl (cA, n, .inl f))) (t0 : Nat) (ht : tys[t0]? = some (cA, .int)) {i x : Int32} (j : Nat) (hd : decode cc pc = .ok (.iastore, 1)) (hi : i = nI j) (hj : j < n) (hn : n < 2 ^ 31) {w' : va_W} (hw : w.set q0 (a, .inl (cA, n, .inl (upd f j x))) = w') (kk : hl_X p l e R s m args below meth c nL D A cells slots Q w' (pc + 1) ls st) : hl_X p l e R s m args below meth c nL D A cells slots Q w pc ls (.int x :: .int i :: .ref a :: st) := by
  subst hi
  refine hl_ist h he t0 ht hd (vp_in_nI hj hn) (w' := w') ?_ kk
  rw [nI_clamp (by omega)]
  exact hw
theorem hl_zst (h : hl_C p s m args c cc nL Ts own D tys A) {q0 a : Nat} {cA : ClassId} {n : Nat} {f : Nat → Int32} (he : w[q0]? = some (a, .inl (cA, n, .inl f))) (t0 : Nat) (ht : tys[t0]? = some (cA, .boolean)) {i x : Int32} (hd : decode cc pc = .ok (.bastore, 1)) (hin : vp_in i n) {w' : va_W} (hw : w.set q0 (a, .inl (cA, n, .inl (upd f i.toNatClampNeg (vp_nar .boolean x)))) = w') (kk : hl_X p l e R s m args below meth c nL D A cells slots Q w' (pc + 1) ls st) : hl_X p l e R s m args below meth c nL D A cells slots Q w pc ls (.int x :: .int i :: .ref a :: st) :=
  fun H locs la hP hD hS hl => va_zast h.1 h.2.1 h.2.2.2.2.2.1 hP hD hS q0 t0 he ht hin hd (fun H1 locs1 hP1 hD1 hS1 => kk H1 locs1 la (hw ▸ hP1) (hw ▸ hD1) hS1 hl)
theorem hl_jst (h : hl_C p s m args c cc nL Ts own D tys A) {q0 a : Nat} {cA : ClassId} {n : Nat} {f : Nat → Int64} (he : w[q0]? = some (a, .inl (cA, n, .inr (.inl f)))) (t0 : Nat) (ht : tys[t0]? = some (cA, .long)) {i : Int32} {x : Int64} (hd : decode cc pc = .ok (.lastore, 1)) (hin : vp_in i n) {w' : va_W} (hw : w.set q0 (a, .inl (cA, n, .inr (.inl (vp_updL f i.toNatClampNeg x)))) = w') (kk : hl_X p l e R s m args below meth c nL D A cells slots Q w' (pc + 1) ls st) : hl_X p l e R s m args below meth c nL D A cells slots Q w pc ls (.long x :: .int i :: .ref a :: st) :=
  fun H locs la hP hD hS hl => va_last h.1 h.2.1 h.2.2.2.2.2.1 hP hD hS q0 t0 he ht hin hd (fun H1 locs1 hP1 hD1 hS1 => kk H1 locs1 la (hw ▸ hP1) (hw ▸ hD1) hS1 hl)
/-! what is made -/
theorem hl_same {U : State} {cA cB : ClassId} {ty : FieldType} (h0 : ∀ n, ty ≠ .object n) (h1 : va_RA U cA ty) (h2 : va_RA U cB ty) : cA = cB := by
  cases ty with
  | object C => exact absurd rfl (h0 C)
  | _ => exact Option.some.inj (Eq.trans (Eq.symm h1) h2)
theorem hl_newa (h : hl_C p s m args c cc nL Ts own D tys A) {atype : ArrayType} {ty : FieldType} (harr : Cond.arrayClass (newarray.typeOf atype) ∈ Ts) (hty : newarray.typeOf atype = ty) (h0 : ∀ n, ty ≠ .object n) {cA : ClassId} (t0 : Nat) (ht : tys[t0]? = some (cA, ty)) {n : Int32} {N' : Nat} {a0 : vp_A} (hd : decode cc pc = .ok (.newarray atype, 2)) (ha : ∀ cA : ClassId, vp_cell cA a0 = arrV cA N' (fun _ => defaultValue ty)) (hn : ¬ n < 0) (hN : n.toNatClampNeg = N') (hbytes : N' * componentBytes ty ≤ 536870912) (hcells : cells + 1 ≤ R.cells) (hslots : slots + N' ≤ R.slots)
    (kk : ∀ q : Nat, hl_X p l e R s m args below meth c nL D A (cells + 1) (slots + N') Q (w ++ [(q, .inl (cA, a0))]) (pc + 2) ls (.ref q :: st)) : hl_X p l e R s m args below meth c nL D A cells slots Q w pc ls (.int n :: st) := by
  intro H locs la hP hD hS hl
  refine va_newa h.1 h.2.1 (h.2.2.2.2.1 _ harr) hty h.2.2.2.2.2.1 hP hD hS h.2.2.2.2.2.2 ha hn hN hbytes hcells hslots hd (fun q cB H1 hK1 hP1 hD1 hS1 => ?_)
  have e1 : cB = cA := hl_same h0 (hK1.2 tys.length (cB, ty) (by simp)).2 (h.2.2.2.2.2.1.2 t0 _ ht).2
  subst e1
  exact kk q H1 locs la hP1 hD1 hS1 hl
theorem hl_new (h : hl_C p s m args c cc nL Ts own D tys A) {C : String} {T : u_T} {N index : Nat} (hin : ∀ z ∈ u_ws C T N, z ∈ Ts) {ty : Nat → FieldType} (hty : ∀ k, k < N → parseFieldDescriptor (T k).2.2.1 = some (ty k)) {ci : Nat} (hc : vwCl[ci]? = some (C, T, N)) (hd : decode cc pc = .ok (.new index, 3)) (hcl : Cond.classLink own index C ∈ Ts) (hinst : Cond.instantiable C N ∈ Ts) (hini : Cond.initialized C ∈ Ts) (fs : List Value) (hfs : ∀ j, j < N → defaultValue (ty j) = vp_V fs j) (hcells : cells + 1 ≤ R.cells) (hslots : slots + N ≤ R.slots)
    (kk : ∀ q : Nat, hl_X p l e R s m args below meth c nL D A (cells + 1) (slots + N) Q (w ++ [(q, .inr (ci, fs))]) (pc + 3) ls (.ref q :: st)) : hl_X p l e R s m args below meth c nL D A cells slots Q w pc ls st :=
  fun H locs la hP hD hS hl => va_new h.1 h.2.1 h.2.2.2.2.1 hin ty hty h.2.2.2.1 (h.2.2.2.2.1 _ hcl) (h.2.2.2.2.1 _ hinst) (h.2.2.2.2.1 _ hini) h.2.2.2.2.2.1 hP hD hS h.2.2.2.2.2.2 hc hfs hcells hslots hd (fun q H1 hP1 hD1 hS1 => kk q H1 locs la hP1 hD1 hS1 hl)
theorem hl_objInit (h : hl_C p s m args c cc nL Ts own D tys A) {idx a : Nat} (hlink : Cond.methodLink own idx Lib.objectInit ∈ Ts) (hinst : Cond.instanceMethod Lib.objectInit ∈ Ts) (hcode : Cond.code Lib.objectInit ⟨#[0xb1]⟩ 1 none ∈ Ts) (hd : decode cc pc = .ok (.invokespecial idx, 3)) (hframes : 1 ≤ R.frames) (hlocals : (st.map fun v => v.category).sum + 12 ≤ R.locals) (k : hl_X p l e R s m args below meth c nL D A cells slots Q w (pc + 3) ls st) : hl_X p l e R s m args below meth c nL D A cells slots Q w pc ls (.ref a :: st) := by
  intro H locs la hP hD hS hl
  refine W.objInit h.1 h.2.1 h.2.2.2.1 (h.2.2.2.2.1 _ hlink) (h.2.2.2.2.1 _ hinst) (h.2.2.2.2.1 _ hcode) rfl (by rw [h.2.2.1]; exact hl.1) rfl hd hframes (by show 2 * 0 + _ + 12 ≤ _; omega) ?_
  exact W.eq (g2 := F0 m (pc + 3) la st) rfl (k H locs la hP hD hS hl)
/-! Math -/
theorem hl_max (h : hl_C p s m args c cc nL Ts own D tys A) {index : Nat} {x y : Int32} (hd : decode cc pc = .ok (.invokestatic index, 3)) (hlink : Cond.methodLink own index Lib.Math.max.name ∈ Ts) (hstat : Cond.static Lib.Math.max.name ∈ Ts) (hini : Cond.initialized "java/lang/Math" ∈ Ts) (hcode : Cond.code Lib.Math.max.name Lib.Math.max.code 2 (some .int) ∈ Ts) (hframes : 1 ≤ R.frames) (hlocals : (st.map fun v => v.category).sum + 13 ≤ R.locals) (hc : cells ≤ R.cells) (hs : slots ≤ R.slots) (kk : hl_X p l e R s m args below meth c nL D A cells slots Q w (pc + 3) ls (.int (if x < y then y else x) :: st)) : hl_X p l e R s m args below meth c nL D A cells slots Q w pc ls (.int y :: .int x :: st) :=
  fun H locs la hP hD hS hl => va_mmax h.1 h.2.1 (h.2.2.1.trans hl.1.symm) h.2.2.2.1 (h.2.2.2.2.1 _ hlink) (h.2.2.2.2.1 _ hstat) (h.2.2.2.2.1 _ hini) (h.2.2.2.2.1 _ hcode) hframes hlocals hc hs hd (kk H locs la hP hD hS hl)
theorem hl_min (h : hl_C p s m args c cc nL Ts own D tys A) {index : Nat} {x y : Int32} (hd : decode cc pc = .ok (.invokestatic index, 3)) (hlink : Cond.methodLink own index Lib.Math.min.name ∈ Ts) (hstat : Cond.static Lib.Math.min.name ∈ Ts) (hini : Cond.initialized "java/lang/Math" ∈ Ts) (hcode : Cond.code Lib.Math.min.name Lib.Math.min.code 2 (some .int) ∈ Ts) (hframes : 1 ≤ R.frames) (hlocals : (st.map fun v => v.category).sum + 13 ≤ R.locals) (hc : cells ≤ R.cells) (hs : slots ≤ R.slots) (kk : hl_X p l e R s m args below meth c nL D A cells slots Q w (pc + 3) ls (.int (if y < x then y else x) :: st)) : hl_X p l e R s m args below meth c nL D A cells slots Q w pc ls (.int y :: .int x :: st) :=
  fun H locs la hP hD hS hl => va_mmin h.1 h.2.1 (h.2.2.1.trans hl.1.symm) h.2.2.2.1 (h.2.2.2.2.1 _ hlink) (h.2.2.2.2.1 _ hstat) (h.2.2.2.2.1 _ hini) (h.2.2.2.2.1 _ hcode) hframes hlocals hc hs hd (kk H locs la hP hD hS hl)
theorem hl_abs (h : hl_C p s m args c cc nL Ts own D tys A) {index : Nat} {x : Int32} (hd : decode cc pc = .ok (.invokestatic index, 3)) (hlink : Cond.methodLink own index Lib.Math.abs.name ∈ Ts) (hstat : Cond.static Lib.Math.abs.name ∈ Ts) (hini : Cond.initialized "java/lang/Math" ∈ Ts) (hcode : Cond.code Lib.Math.abs.name Lib.Math.abs.code 1 (some .int) ∈ Ts) (hframes : 1 ≤ R.frames) (hlocals : (st.map fun v => v.category).sum + 13 ≤ R.locals) (hc : cells ≤ R.cells) (hs : slots ≤ R.slots) (kk : hl_X p l e R s m args below meth c nL D A cells slots Q w (pc + 3) ls (.int (if 0 ≤ x then x else 0 - x) :: st)) : hl_X p l e R s m args below meth c nL D A cells slots Q w pc ls (.int x :: st) :=
  fun H locs la hP hD hS hl => va_mabs h.1 h.2.1 (h.2.2.1.trans hl.1.symm) h.2.2.2.1 (h.2.2.2.2.1 _ hlink) (h.2.2.2.2.1 _ hstat) (h.2.2.2.2.1 _ hini) (h.2.2.2.2.1 _ hcode) hframes hlocals hc hs hd (kk H locs la hP hD hS hl)
end HLR
/-! CONTRACTS. hl_KI: a method that returns an int (or a boolean); hl_KV: nothing; P says of the answer and of the world behind it -/
def hl_Pre (D : va_G) (tys : List (ClassId × FieldType)) (w0 : va_W) (sz : Nat) (U : State) : Prop := U.heap.size = sz ∧ va_P D vwCl w0 U.heap ∧ va_K D vwCl tys U ∧ va_D (fun _ => True) w0
def hl_B (D : va_G) (tys : List (ClassId × FieldType)) (w0 : va_W) (sz : Nat) (w1 : va_W) (t : State) : Prop := va_P D vwCl w1 t.heap ∧ va_K D vwCl tys t ∧ va_D (va_A w0 sz) w1
def hl_QI (D : va_G) (tys : List (ClassId × FieldType)) (w0 : va_W) (P : Int32 → va_W → Prop) (sz : Nat) : Array Value → State → Outcome → State → Prop := va_Qi P (hl_B D tys w0 sz) (va_A w0 sz)
def hl_QV (D : va_G) (tys : List (ClassId × FieldType)) (w0 : va_W) (P : va_W → Prop) (sz : Nat) : Array Value → State → Outcome → State → Prop := va_Qv P (hl_B D tys w0 sz) (va_A w0 sz)
def hl_KI (D : va_G) (tys : List (ClassId × FieldType)) (l : Launch) (y : MethodName) (ws : List Cond) (rm : Room) (mc ms : Nat) (av : List Value) (w0 : va_W) (P : Int32 → va_W → Prop) : Prop :=
  ∀ sz : Nat, Met l y ws rm (va_Pc av (hl_Pre D tys w0 sz)) (hl_QI D tys w0 P sz) mc ms (va_A w0 sz)
def hl_KV (D : va_G) (tys : List (ClassId × FieldType)) (l : Launch) (y : MethodName) (ws : List Cond) (rm : Room) (mc ms : Nat) (av : List Value) (w0 : va_W) (P : va_W → Prop) : Prop :=
  ∀ sz : Nat, Met l y ws rm (va_Pc av (hl_Pre D tys w0 sz)) (hl_QV D tys w0 P sz) mc ms (va_A w0 sz)
theorem hl_blind (D : va_G) (tys : List (ClassId × FieldType)) (w0 : va_W) (sz : Nat) (av : List Value) : FrameBlind (va_Pc av (hl_Pre D tys w0 sz)) := fun a U g mk q => by
  obtain ⟨q0, q1, qP, qK, qD⟩ := q
  exact ⟨q0, q1, qP, va_K.moved (u := U) (U := U.calling g mk a) (Vm.Alike.refl U.vm) qK, qD⟩
section HLK
variable {p : Program} {l : Launch} {e : Env} {R : Room} {s : State} {m : MethodId} {args : Array Value} {below : List Frame} {meth : Method} {c : Code}
variable {cc : ByteArray} {nL : Nat} {Ts : List Cond} {own : String} {D : va_G} {tys : List (ClassId × FieldType)} {A : Nat → Prop} {cells slots : Nat} {Q : State → Prop} {w : va_W} {pc : Nat} {ls : List (Nat × Value)} {st : List Value}
/-- the body of a method, as a goal in these words -/
theorem hl_KI_of {y : MethodName} {ws ws' : List Cond} {rm : Room} {mc ms : Nat} {av : List Value} {w0 : va_W} {P : Int32 → va_W → Prop} {maxL : Nat} {ret : Option FieldType} (ty : FieldType) (hret : ret = some ty) (hnar : ∀ v : Int32, ty = .boolean ∨ narrow ty (.int v) = .int v) (hy : plainName y.cls = true) (hw : ws = Cond.code y cc maxL ret :: ws') (hvs : (lg_sl av).length ≤ maxL)
    (body : ∀ (p : Program) (e : Env) (s : State) (m : MethodId) (args : Array Value) (below : List Frame) (meth : Method) (c : Code) (A : Nat → Prop) (Q : State → Prop), hl_C p s m args c cc maxL ws y.cls D tys A →
      (∀ {v : Int32} {w : va_W} {pc : Nat} {ls : List (Nat × Value)}, decode cc pc = .ok (.ireturn, 1) → (ty = .boolean → v = 0 ∨ v = 1) → P v w → hl_X p l e rm s m args below meth c maxL D A mc ms Q w pc ls [.int v]) →
      hl_X p l e rm s m args below meth c maxL D A 0 0 Q w0 0 (lv_args 0 av) []) : hl_KI D tys l y ws rm mc ms av w0 P := by
  subst hret
  intro sz
  refine Met.ofW (cc := cc) (maxL := maxL) (ret := some ty) hy hw ?_
  intro p e s m args below meth c s₁ B hml hv
  obtain ⟨rfl, hsz, hP, hK, hD0⟩ := hv
  have hr := B.returns
  have hlocks := B.notSynchronized
  subst hsz
  rw [lg_entry_eq]
  refine body p e s m av.toArray below meth c (va_A w0 s.heap.size) _ ⟨B.exec, B.bytes, hml, findClass_of_methodNamed B.named, atoms_spec (ws := ws) B.pre, hK, fun q h => Or.inr h⟩ ?_ s.heap [] _ hP hD0.self va_S.rf (lv_entry av hvs)
  intro v w pc ls hd hb hp H locs la hP1 hD1 hS1 hl1
  refine W.zret (v := v) B.exec B.bytes hr ?_ (fun t ht hW => ⟨⟨v, w, rfl, hp, by rw [ht]; exact hP1, va_K.moved hW.alike hK, hD1⟩, hS1.F ht⟩) hS1.2.2 hd hlocks
  rcases hnar v with h9 | h9
  · subst h9
    rcases hb rfl with rfl | rfl <;> rfl
  · exact h9
theorem hl_KV_of {y : MethodName} {ws ws' : List Cond} {rm : Room} {mc ms : Nat} {av : List Value} {w0 : va_W} {P : va_W → Prop} {maxL : Nat} (hy : plainName y.cls = true) (hw : ws = Cond.code y cc maxL none :: ws') (hvs : (lg_sl av).length ≤ maxL)
    (body : ∀ (p : Program) (e : Env) (s : State) (m : MethodId) (args : Array Value) (below : List Frame) (meth : Method) (c : Code) (A : Nat → Prop) (Q : State → Prop), hl_C p s m args c cc maxL ws y.cls D tys A → meth.name = y.name →
      (∀ {w : va_W} {pc : Nat} {ls : List (Nat × Value)}, decode cc pc = .ok (.return_, 1) → P w → hl_X p l e rm s m args below meth c maxL D A mc ms Q w pc ls []) →
      hl_X p l e rm s m args below meth c maxL D A 0 0 Q w0 0 (lv_args 0 av) []) : hl_KV D tys l y ws rm mc ms av w0 P := by
  intro sz
  refine Met.ofW (cc := cc) (maxL := maxL) (ret := none) hy hw ?_
  intro p e s m args below meth c s₁ B hml hv
  obtain ⟨rfl, hsz, hP, hK, hD0⟩ := hv
  have hr := B.returns
  have hlocks := B.notSynchronized
  have hnm : meth.name = y.name := (name_of_methodNamed B.named B.method).1
  subst hsz
  rw [lg_entry_eq]
  refine body p e s m av.toArray below meth c (va_A w0 s.heap.size) _ ⟨B.exec, B.bytes, hml, findClass_of_methodNamed B.named, atoms_spec (ws := ws) B.pre, hK, fun q h => Or.inr h⟩ hnm ?_ s.heap [] _ hP hD0.self va_S.rf (lv_entry av hvs)
  intro w pc ls hd hp H locs la hP1 hD1 hS1 hl1
  exact W.vret B.exec B.bytes hr (fun t ht hW => ⟨⟨w, rfl, hp, by rw [ht]; exact hP1, va_K.moved hW.alike hK, hD1⟩, hS1.F ht⟩) hS1.2.2 hd hlocks
theorem hl_fr {H : Heap} {locs : List Loc} (h : hl_C p s m args c cc nL Ts own D tys A) (hD : va_D A w) (hS : va_S A s.heap H locs) : ∀ q : Nat, va_A w H.size q → A q := fun q hq => by
  rcases hq with ⟨k, z, hk⟩ | hq
  · exact hD.2 k _ hk
  · exact h.2.2.2.2.2.2 q (Nat.le_trans hS.1 hq)
/-- how a caller gives the callee its start: the same world -/
theorem hl_pre {H : Heap} (h : hl_C p s m args c cc nL Ts own D tys A) (hP : va_P D vwCl w H) (hD : va_D A w) (av : List Value) : ∀ U : State, U.heap = H → s.WarmedH U.vm → va_Pc av (hl_Pre D tys w H.size) av.toArray U :=
  fun U hU hW => ⟨rfl, by rw [hU], by rw [hU]; exact hP, va_K.moved hW.alike h.2.2.2.2.2.1, hD.weaken (fun _ _ _ _ => trivial)⟩
theorem hl_callVi (h : hl_C p s m args c cc nL Ts own D tys A) {C : String} {y : MethodName} {bytes : ByteArray} {maxL mc ms n index b : Nat} {ret : Option FieldType} {ws : List Cond} {rm : Room} {As : List Value} {P : Int32 → va_W → Prop} (hM : hl_KI D tys l y ws rm mc ms (.ref b :: As) w P) (cw : CallW R s args own C index y bytes maxL ret ws rm mc ms n) {q0 ci : Nat} {fs : List Value} {T : u_T} {N : Nat} (he : w[q0]? = some (b, .inr (ci, fs))) (hc : vwCl[ci]? = some (C, T, N)) (hd : decode cc pc = .ok (.invokevirtual index, 3)) (hn : As.length = n) (hW : (st.map fun v => v.category).sum ≤ 8) (hf : cells + mc ≤ R.cells ∧ slots + ms ≤ R.slots) {st0 : List Value} (hst : st0 = (As.reverse ++ .ref b :: st)) (kk : ∀ (r : Int32) (w1 : va_W), P r w1 → hl_X p l e R s m args below meth c nL D A (cells + mc) (slots + ms) Q w1 (pc + 3) ls (.int r :: st)) : hl_X p l e R s m args below meth c nL D A cells slots Q w pc ls st0 := by
  subst hst
  intro H locs la hP hD hS hl
  have hF := hl_fr h hD hS
  refine va_calli (va_runV (As := As) (rest := st) ⟨h.1, h.2.1, h.2.2.1, h.2.2.2.1, h.2.2.2.2.1⟩ (hM H.size) cw ⟨hl_blind D tys w H.size _, va_recv h.2.2.2.2.2.1 hP hc he, hl_pre h hP hD _⟩ rfl hn hl.1 rfl (lv_room hW) hd hf) hS (fun q _ h9 => hF q h9) hF (fun r u t H1 locs1 ht hvm hw hB hz hk hS1 => ?_)
  obtain ⟨hP1, hK1, hD1⟩ := hB
  rw [ht] at hP1
  exact kk r u hw H1 locs1 la hP1 (hD1.weaken (fun k q _ h9 => hF q.1 h9)) hS1 hl
theorem hl_callVv (h : hl_C p s m args c cc nL Ts own D tys A) {C : String} {y : MethodName} {bytes : ByteArray} {maxL mc ms n index b : Nat} {ret : Option FieldType} {ws : List Cond} {rm : Room} {As : List Value} {P : va_W → Prop} (hM : hl_KV D tys l y ws rm mc ms (.ref b :: As) w P) (cw : CallW R s args own C index y bytes maxL ret ws rm mc ms n) {q0 ci : Nat} {fs : List Value} {T : u_T} {N : Nat} (he : w[q0]? = some (b, .inr (ci, fs))) (hc : vwCl[ci]? = some (C, T, N)) (hd : decode cc pc = .ok (.invokevirtual index, 3)) (hn : As.length = n) (hW : (st.map fun v => v.category).sum ≤ 8) (hf : cells + mc ≤ R.cells ∧ slots + ms ≤ R.slots) {st0 : List Value} (hst : st0 = (As.reverse ++ .ref b :: st)) (kk : ∀ w1 : va_W, P w1 → hl_X p l e R s m args below meth c nL D A (cells + mc) (slots + ms) Q w1 (pc + 3) ls st) : hl_X p l e R s m args below meth c nL D A cells slots Q w pc ls st0 := by
  subst hst
  intro H locs la hP hD hS hl
  have hF := hl_fr h hD hS
  refine va_callv (va_runV (As := As) (rest := st) ⟨h.1, h.2.1, h.2.2.1, h.2.2.2.1, h.2.2.2.2.1⟩ (hM H.size) cw ⟨hl_blind D tys w H.size _, va_recv h.2.2.2.2.2.1 hP hc he, hl_pre h hP hD _⟩ rfl hn hl.1 rfl (lv_room hW) hd hf) hS (fun q _ h9 => hF q h9) hF (fun u t H1 locs1 ht hvm hw hB hz hk hS1 => ?_)
  obtain ⟨hP1, hK1, hD1⟩ := hB
  rw [ht] at hP1
  exact kk u hw H1 locs1 la hP1 (hD1.weaken (fun k q _ h9 => hF q.1 h9)) hS1 hl
theorem hl_callSi (h : hl_C p s m args c cc nL Ts own D tys A) {y : MethodName} {bytes : ByteArray} {maxL mc ms n index : Nat} {ret : Option FieldType} {ws : List Cond} {rm : Room} {As : List Value} {P : Int32 → va_W → Prop} (hM : hl_KI D tys l y ws rm mc ms As w P) (cw : CallB R s args own index y bytes maxL ret ws rm mc ms n ∧ (Cond.static y).before args s = true) (hd : decode cc pc = .ok (.invokestatic index, 3)) (hn : As.length = n) (hW : (st.map fun v => v.category).sum ≤ 8) (hf : cells + mc ≤ R.cells ∧ slots + ms ≤ R.slots) {st0 : List Value} (hst : st0 = (As.reverse ++ st)) (kk : ∀ (r : Int32) (w1 : va_W), P r w1 → hl_X p l e R s m args below meth c nL D A (cells + mc) (slots + ms) Q w1 (pc + 3) ls (.int r :: st)) : hl_X p l e R s m args below meth c nL D A cells slots Q w pc ls st0 := by
  subst hst
  intro H locs la hP hD hS hl
  have hF := hl_fr h hD hS
  refine va_calli (va_runS (As := As) (rest := st) ⟨h.1, h.2.1, h.2.2.1, h.2.2.2.1, h.2.2.2.2.1⟩ (hM H.size) cw ⟨hl_blind D tys w H.size _, hl_pre h hP hD _⟩ rfl hn hl.1 rfl (lv_room hW) hd hf) hS (fun q _ h9 => hF q h9) hF (fun r u t H1 locs1 ht hvm hw hB hz hk hS1 => ?_)
  obtain ⟨hP1, hK1, hD1⟩ := hB
  rw [ht] at hP1
  exact kk r u hw H1 locs1 la hP1 (hD1.weaken (fun k q _ h9 => hF q.1 h9)) hS1 hl
theorem hl_callSv (h : hl_C p s m args c cc nL Ts own D tys A) {y : MethodName} {bytes : ByteArray} {maxL mc ms n index : Nat} {ret : Option FieldType} {ws : List Cond} {rm : Room} {As : List Value} {P : va_W → Prop} (hM : hl_KV D tys l y ws rm mc ms As w P) (cw : CallB R s args own index y bytes maxL ret ws rm mc ms n ∧ (Cond.static y).before args s = true) (hd : decode cc pc = .ok (.invokestatic index, 3)) (hn : As.length = n) (hW : (st.map fun v => v.category).sum ≤ 8) (hf : cells + mc ≤ R.cells ∧ slots + ms ≤ R.slots) {st0 : List Value} (hst : st0 = (As.reverse ++ st)) (kk : ∀ w1 : va_W, P w1 → hl_X p l e R s m args below meth c nL D A (cells + mc) (slots + ms) Q w1 (pc + 3) ls st) : hl_X p l e R s m args below meth c nL D A cells slots Q w pc ls st0 := by
  subst hst
  intro H locs la hP hD hS hl
  have hF := hl_fr h hD hS
  refine va_callv (va_runS (As := As) (rest := st) ⟨h.1, h.2.1, h.2.2.1, h.2.2.2.1, h.2.2.2.2.1⟩ (hM H.size) cw ⟨hl_blind D tys w H.size _, hl_pre h hP hD _⟩ rfl hn hl.1 rfl (lv_room hW) hd hf) hS (fun q _ h9 => hF q h9) hF (fun u t H1 locs1 ht hvm hw hB hz hk hS1 => ?_)
  obtain ⟨hP1, hK1, hD1⟩ := hB
  rw [ht] at hP1
  exact kk u hw H1 locs1 la hP1 (hD1.weaken (fun k q _ h9 => hF q.1 h9)) hS1 hl
theorem hl_callI (h : hl_C p s m args c cc nL Ts own D tys A) {y : MethodName} {bytes : ByteArray} {maxL mc ms n index b : Nat} {ws : List Cond} {rm : Room} {As : List Value} {P : va_W → Prop} (hM : hl_KV D tys l y ws rm mc ms (.ref b :: As) w P) (cw : CallB R s args own index y bytes maxL none ws rm mc ms n ∧ y.name = "<init>" ∧ (Cond.instanceMethod y).before args s = true) (hd : decode cc pc = .ok (.invokespecial index, 3)) (hn : As.length = n) (hW : (st.map fun v => v.category).sum ≤ 8) (hf : cells + mc ≤ R.cells ∧ slots + ms ≤ R.slots) {st0 : List Value} (hst : st0 = (As.reverse ++ .ref b :: st)) (kk : ∀ w1 : va_W, P w1 → hl_X p l e R s m args below meth c nL D A (cells + mc) (slots + ms) Q w1 (pc + 3) ls st) : hl_X p l e R s m args below meth c nL D A cells slots Q w pc ls st0 := by
  subst hst
  intro H locs la hP hD hS hl
  have hF := hl_fr h hD hS
  refine va_callv (va_runI (As := As) (rest := st) ⟨h.1, h.2.1, h.2.2.1, h.2.2.2.1, h.2.2.2.2.1⟩ (hM H.size) cw ⟨hl_blind D tys w H.size _, hl_pre h hP hD _⟩ rfl hn hl.1 rfl (lv_room hW) hd hf) hS (fun q _ h9 => hF q h9) hF (fun u t H1 locs1 ht hvm hw hB hz hk hS1 => ?_)
  obtain ⟨hP1, hK1, hD1⟩ := hB
  rw [ht] at hP1
  exact kk u hw H1 locs1 la hP1 (hD1.weaken (fun k q _ h9 => hF q.1 h9)) hS1 hl
theorem hl_psub {w' : va_W} {H : Heap} (hP : va_P D vwCl w H) (is : List Nat) (hs : is.map (fun i => w[i]?) = w'.map some) : va_P D vwCl w' H := fun j q hj => by
  have h1 : (is.map (fun i => w[i]?))[j]? = some (some q) := by rw [hs, List.getElem?_map, hj]; rfl
  rw [List.getElem?_map] at h1
  cases hi : is[j]? with
  | none => rw [hi] at h1; cases h1
  | some i => rw [hi] at h1; exact hP i q (Option.some.inj h1)
/-! calls with a part of the world -/
theorem hl_callPVi (h : hl_C p s m args c cc nL Ts own D tys A) {C : String} {y : MethodName} {bytes : ByteArray} {maxL mc ms n index b : Nat} {ret : Option FieldType} {ws : List Cond} {rm : Room} {As : List Value} {P : Int32 → va_W → Prop} {wc wr : va_W} (isC isR : List Nat) (hC : isC.map (fun i => w[i]?) = wc.map some) (hR : isR.map (fun i => w[i]?) = wr.map some) (hnC : va_nd isC = true) (hnR : va_nd isR = true) (hdis : ∀ i ∈ isR, i ∉ isC) (hM : hl_KI D tys l y ws rm mc ms (.ref b :: As) wc P) (cw : CallW R s args own C index y bytes maxL ret ws rm mc ms n) {q0 ci : Nat} {fs : List Value} {T : u_T} {N : Nat} (he : w[q0]? = some (b, .inr (ci, fs))) (hc : vwCl[ci]? = some (C, T, N)) (hd : decode cc pc = .ok (.invokevirtual index, 3)) (hn : As.length = n) (hW : (st.map fun v => v.category).sum ≤ 8) (hf : cells + mc ≤ R.cells ∧ slots + ms ≤ R.slots) {st0 : List Value} (hst : st0 = (As.reverse ++ .ref b :: st)) (kk : ∀ (r : Int32) (w1 : va_W), P r w1 → hl_X p l e R s m args below meth c nL D A (cells + mc) (slots + ms) Q (wr ++ w1) (pc + 3) ls (.int r :: st)) : hl_X p l e R s m args below meth c nL D A cells slots Q w pc ls st0 := by
  subst hst
  intro H locs la hP hD hS hl
  have hDc := hD.sub (ws' := wc) isC hnC hC
  have hPc : va_P D vwCl wc H := hl_psub hP isC hC
  have hF := hl_fr h hDc hS
  refine va_calli (va_runV (As := As) (rest := st) ⟨h.1, h.2.1, h.2.2.1, h.2.2.2.1, h.2.2.2.2.1⟩ (hM H.size) cw ⟨hl_blind D tys wc H.size _, va_recv h.2.2.2.2.2.1 hP hc he, hl_pre h hPc hDc _⟩ rfl hn hl.1 rfl (lv_room hW) hd hf) hS (fun q _ h9 => hF q h9) hF (fun r u t H1 locs1 ht hvm hw hB hz hk hS1 => ?_)
  obtain ⟨hP1, hK1, hD1⟩ := hB
  rw [ht] at hP1
  obtain ⟨hP2, hD2⟩ := va_join hP hD isC isR hC hR hnR hdis hk hF hP1 hD1
  exact kk r u hw H1 locs1 la hP2 hD2 hS1 hl
theorem hl_callPVv (h : hl_C p s m args c cc nL Ts own D tys A) {C : String} {y : MethodName} {bytes : ByteArray} {maxL mc ms n index b : Nat} {ret : Option FieldType} {ws : List Cond} {rm : Room} {As : List Value} {P : va_W → Prop} {wc wr : va_W} (isC isR : List Nat) (hC : isC.map (fun i => w[i]?) = wc.map some) (hR : isR.map (fun i => w[i]?) = wr.map some) (hnC : va_nd isC = true) (hnR : va_nd isR = true) (hdis : ∀ i ∈ isR, i ∉ isC) (hM : hl_KV D tys l y ws rm mc ms (.ref b :: As) wc P) (cw : CallW R s args own C index y bytes maxL ret ws rm mc ms n) {q0 ci : Nat} {fs : List Value} {T : u_T} {N : Nat} (he : w[q0]? = some (b, .inr (ci, fs))) (hc : vwCl[ci]? = some (C, T, N)) (hd : decode cc pc = .ok (.invokevirtual index, 3)) (hn : As.length = n) (hW : (st.map fun v => v.category).sum ≤ 8) (hf : cells + mc ≤ R.cells ∧ slots + ms ≤ R.slots) {st0 : List Value} (hst : st0 = (As.reverse ++ .ref b :: st)) (kk : ∀ w1 : va_W, P w1 → hl_X p l e R s m args below meth c nL D A (cells + mc) (slots + ms) Q (wr ++ w1) (pc + 3) ls st) : hl_X p l e R s m args below meth c nL D A cells slots Q w pc ls st0 := by
  subst hst
  intro H locs la hP hD hS hl
  have hDc := hD.sub (ws' := wc) isC hnC hC
  have hPc : va_P D vwCl wc H := hl_psub hP isC hC
  have hF := hl_fr h hDc hS
  refine va_callv (va_runV (As := As) (rest := st) ⟨h.1, h.2.1, h.2.2.1, h.2.2.2.1, h.2.2.2.2.1⟩ (hM H.size) cw ⟨hl_blind D tys wc H.size _, va_recv h.2.2.2.2.2.1 hP hc he, hl_pre h hPc hDc _⟩ rfl hn hl.1 rfl (lv_room hW) hd hf) hS (fun q _ h9 => hF q h9) hF (fun u t H1 locs1 ht hvm hw hB hz hk hS1 => ?_)
  obtain ⟨hP1, hK1, hD1⟩ := hB
  rw [ht] at hP1
  obtain ⟨hP2, hD2⟩ := va_join hP hD isC isR hC hR hnR hdis hk hF hP1 hD1
  exact kk u hw H1 locs1 la hP2 hD2 hS1 hl
theorem hl_callPSi (h : hl_C p s m args c cc nL Ts own D tys A) {y : MethodName} {bytes : ByteArray} {maxL mc ms n index : Nat} {ret : Option FieldType} {ws : List Cond} {rm : Room} {As : List Value} {P : Int32 → va_W → Prop} {wc wr : va_W} (isC isR : List Nat) (hC : isC.map (fun i => w[i]?) = wc.map some) (hR : isR.map (fun i => w[i]?) = wr.map some) (hnC : va_nd isC = true) (hnR : va_nd isR = true) (hdis : ∀ i ∈ isR, i ∉ isC) (hM : hl_KI D tys l y ws rm mc ms As wc P) (cw : CallB R s args own index y bytes maxL ret ws rm mc ms n ∧ (Cond.static y).before args s = true) (hd : decode cc pc = .ok (.invokestatic index, 3)) (hn : As.length = n) (hW : (st.map fun v => v.category).sum ≤ 8) (hf : cells + mc ≤ R.cells ∧ slots + ms ≤ R.slots) {st0 : List Value} (hst : st0 = (As.reverse ++ st)) (kk : ∀ (r : Int32) (w1 : va_W), P r w1 → hl_X p l e R s m args below meth c nL D A (cells + mc) (slots + ms) Q (wr ++ w1) (pc + 3) ls (.int r :: st)) : hl_X p l e R s m args below meth c nL D A cells slots Q w pc ls st0 := by
  subst hst
  intro H locs la hP hD hS hl
  have hDc := hD.sub (ws' := wc) isC hnC hC
  have hPc : va_P D vwCl wc H := hl_psub hP isC hC
  have hF := hl_fr h hDc hS
  refine va_calli (va_runS (As := As) (rest := st) ⟨h.1, h.2.1, h.2.2.1, h.2.2.2.1, h.2.2.2.2.1⟩ (hM H.size) cw ⟨hl_blind D tys wc H.size _, hl_pre h hPc hDc _⟩ rfl hn hl.1 rfl (lv_room hW) hd hf) hS (fun q _ h9 => hF q h9) hF (fun r u t H1 locs1 ht hvm hw hB hz hk hS1 => ?_)
  obtain ⟨hP1, hK1, hD1⟩ := hB
  rw [ht] at hP1
  obtain ⟨hP2, hD2⟩ := va_join hP hD isC isR hC hR hnR hdis hk hF hP1 hD1
  exact kk r u hw H1 locs1 la hP2 hD2 hS1 hl
theorem hl_callPSv (h : hl_C p s m args c cc nL Ts own D tys A) {y : MethodName} {bytes : ByteArray} {maxL mc ms n index : Nat} {ret : Option FieldType} {ws : List Cond} {rm : Room} {As : List Value} {P : va_W → Prop} {wc wr : va_W} (isC isR : List Nat) (hC : isC.map (fun i => w[i]?) = wc.map some) (hR : isR.map (fun i => w[i]?) = wr.map some) (hnC : va_nd isC = true) (hnR : va_nd isR = true) (hdis : ∀ i ∈ isR, i ∉ isC) (hM : hl_KV D tys l y ws rm mc ms As wc P) (cw : CallB R s args own index y bytes maxL ret ws rm mc ms n ∧ (Cond.static y).before args s = true) (hd : decode cc pc = .ok (.invokestatic index, 3)) (hn : As.length = n) (hW : (st.map fun v => v.category).sum ≤ 8) (hf : cells + mc ≤ R.cells ∧ slots + ms ≤ R.slots) {st0 : List Value} (hst : st0 = (As.reverse ++ st)) (kk : ∀ w1 : va_W, P w1 → hl_X p l e R s m args below meth c nL D A (cells + mc) (slots + ms) Q (wr ++ w1) (pc + 3) ls st) : hl_X p l e R s m args below meth c nL D A cells slots Q w pc ls st0 := by
  subst hst
  intro H locs la hP hD hS hl
  have hDc := hD.sub (ws' := wc) isC hnC hC
  have hPc : va_P D vwCl wc H := hl_psub hP isC hC
  have hF := hl_fr h hDc hS
  refine va_callv (va_runS (As := As) (rest := st) ⟨h.1, h.2.1, h.2.2.1, h.2.2.2.1, h.2.2.2.2.1⟩ (hM H.size) cw ⟨hl_blind D tys wc H.size _, hl_pre h hPc hDc _⟩ rfl hn hl.1 rfl (lv_room hW) hd hf) hS (fun q _ h9 => hF q h9) hF (fun u t H1 locs1 ht hvm hw hB hz hk hS1 => ?_)
  obtain ⟨hP1, hK1, hD1⟩ := hB
  rw [ht] at hP1
  obtain ⟨hP2, hD2⟩ := va_join hP hD isC isR hC hR hnR hdis hk hF hP1 hD1
  exact kk u hw H1 locs1 la hP2 hD2 hS1 hl
theorem hl_callPI (h : hl_C p s m args c cc nL Ts own D tys A) {y : MethodName} {bytes : ByteArray} {maxL mc ms n index b : Nat} {ws : List Cond} {rm : Room} {As : List Value} {P : va_W → Prop} {wc wr : va_W} (isC isR : List Nat) (hC : isC.map (fun i => w[i]?) = wc.map some) (hR : isR.map (fun i => w[i]?) = wr.map some) (hnC : va_nd isC = true) (hnR : va_nd isR = true) (hdis : ∀ i ∈ isR, i ∉ isC) (hM : hl_KV D tys l y ws rm mc ms (.ref b :: As) wc P) (cw : CallB R s args own index y bytes maxL none ws rm mc ms n ∧ y.name = "<init>" ∧ (Cond.instanceMethod y).before args s = true) (hd : decode cc pc = .ok (.invokespecial index, 3)) (hn : As.length = n) (hW : (st.map fun v => v.category).sum ≤ 8) (hf : cells + mc ≤ R.cells ∧ slots + ms ≤ R.slots) {st0 : List Value} (hst : st0 = (As.reverse ++ .ref b :: st)) (kk : ∀ w1 : va_W, P w1 → hl_X p l e R s m args below meth c nL D A (cells + mc) (slots + ms) Q (wr ++ w1) (pc + 3) ls st) : hl_X p l e R s m args below meth c nL D A cells slots Q w pc ls st0 := by
  subst hst
  intro H locs la hP hD hS hl
  have hDc := hD.sub (ws' := wc) isC hnC hC
  have hPc : va_P D vwCl wc H := hl_psub hP isC hC
  have hF := hl_fr h hDc hS
  refine va_callv (va_runI (As := As) (rest := st) ⟨h.1, h.2.1, h.2.2.1, h.2.2.2.1, h.2.2.2.2.1⟩ (hM H.size) cw ⟨hl_blind D tys wc H.size _, hl_pre h hPc hDc _⟩ rfl hn hl.1 rfl (lv_room hW) hd hf) hS (fun q _ h9 => hF q h9) hF (fun u t H1 locs1 ht hvm hw hB hz hk hS1 => ?_)
  obtain ⟨hP1, hK1, hD1⟩ := hB
  rw [ht] at hP1
  obtain ⟨hP2, hD2⟩ := va_join hP hD isC isR hC hR hnR hdis hk hF hP1 hD1
  exact kk u hw H1 locs1 la hP2 hD2 hS1 hl
theorem hl_callViD (h : hl_C p s m args c cc nL Ts own D tys A) {C : String} {y : MethodName} {bytes : ByteArray} {maxL mc ms n index b : Nat} {ret : Option FieldType} {ws : List Cond} {rm : Room} {As : List Value} {rr : Int32} {ww : va_W} (hM : hl_KI D tys l y ws rm mc ms (.ref b :: As) w (fun r w => r = rr ∧ w = ww)) (cw : CallW R s args own C index y bytes maxL ret ws rm mc ms n) {q0 ci : Nat} {fs : List Value} {T : u_T} {N : Nat} (he : w[q0]? = some (b, .inr (ci, fs))) (hc : vwCl[ci]? = some (C, T, N)) (hd : decode cc pc = .ok (.invokevirtual index, 3)) (hn : As.length = n) (hW : (st.map fun v => v.category).sum ≤ 8) (hf : cells + mc ≤ R.cells ∧ slots + ms ≤ R.slots) {st0 : List Value} (hst : st0 = (As.reverse ++ .ref b :: st)) (kk : hl_X p l e R s m args below meth c nL D A (cells + mc) (slots + ms) Q ww (pc + 3) ls (.int rr :: st)) : hl_X p l e R s m args below meth c nL D A cells slots Q w pc ls st0 :=
  hl_callVi h hM cw he hc hd hn hW hf hst (fun r w1 hp => by rw [hp.1, hp.2]; exact kk)
theorem hl_callVvD (h : hl_C p s m args c cc nL Ts own D tys A) {C : String} {y : MethodName} {bytes : ByteArray} {maxL mc ms n index b : Nat} {ret : Option FieldType} {ws : List Cond} {rm : Room} {As : List Value} {ww : va_W} (hM : hl_KV D tys l y ws rm mc ms (.ref b :: As) w (fun w => w = ww)) (cw : CallW R s args own C index y bytes maxL ret ws rm mc ms n) {q0 ci : Nat} {fs : List Value} {T : u_T} {N : Nat} (he : w[q0]? = some (b, .inr (ci, fs))) (hc : vwCl[ci]? = some (C, T, N)) (hd : decode cc pc = .ok (.invokevirtual index, 3)) (hn : As.length = n) (hW : (st.map fun v => v.category).sum ≤ 8) (hf : cells + mc ≤ R.cells ∧ slots + ms ≤ R.slots) {st0 : List Value} (hst : st0 = (As.reverse ++ .ref b :: st)) (kk : hl_X p l e R s m args below meth c nL D A (cells + mc) (slots + ms) Q ww (pc + 3) ls st) : hl_X p l e R s m args below meth c nL D A cells slots Q w pc ls st0 :=
  hl_callVv h hM cw he hc hd hn hW hf hst (fun w1 hp => by rw [hp]; exact kk)
theorem hl_callSiD (h : hl_C p s m args c cc nL Ts own D tys A) {y : MethodName} {bytes : ByteArray} {maxL mc ms n index : Nat} {ret : Option FieldType} {ws : List Cond} {rm : Room} {As : List Value} {rr : Int32} {ww : va_W} (hM : hl_KI D tys l y ws rm mc ms As w (fun r w => r = rr ∧ w = ww)) (cw : CallB R s args own index y bytes maxL ret ws rm mc ms n ∧ (Cond.static y).before args s = true) (hd : decode cc pc = .ok (.invokestatic index, 3)) (hn : As.length = n) (hW : (st.map fun v => v.category).sum ≤ 8) (hf : cells + mc ≤ R.cells ∧ slots + ms ≤ R.slots) {st0 : List Value} (hst : st0 = (As.reverse ++ st)) (kk : hl_X p l e R s m args below meth c nL D A (cells + mc) (slots + ms) Q ww (pc + 3) ls (.int rr :: st)) : hl_X p l e R s m args below meth c nL D A cells slots Q w pc ls st0 :=
  hl_callSi h hM cw hd hn hW hf hst (fun r w1 hp => by rw [hp.1, hp.2]; exact kk)
theorem hl_callSvD (h : hl_C p s m args c cc nL Ts own D tys A) {y : MethodName} {bytes : ByteArray} {maxL mc ms n index : Nat} {ret : Option FieldType} {ws : List Cond} {rm : Room} {As : List Value} {ww : va_W} (hM : hl_KV D tys l y ws rm mc ms As w (fun w => w = ww)) (cw : CallB R s args own index y bytes maxL ret ws rm mc ms n ∧ (Cond.static y).before args s = true) (hd : decode cc pc = .ok (.invokestatic index, 3)) (hn : As.length = n) (hW : (st.map fun v => v.category).sum ≤ 8) (hf : cells + mc ≤ R.cells ∧ slots + ms ≤ R.slots) {st0 : List Value} (hst : st0 = (As.reverse ++ st)) (kk : hl_X p l e R s m args below meth c nL D A (cells + mc) (slots + ms) Q ww (pc + 3) ls st) : hl_X p l e R s m args below meth c nL D A cells slots Q w pc ls st0 :=
  hl_callSv h hM cw hd hn hW hf hst (fun w1 hp => by rw [hp]; exact kk)
theorem hl_callPViD (h : hl_C p s m args c cc nL Ts own D tys A) {C : String} {y : MethodName} {bytes : ByteArray} {maxL mc ms n index b : Nat} {ret : Option FieldType} {ws : List Cond} {rm : Room} {As : List Value} {rr : Int32} {ww : va_W} {wc wr : va_W} (isC isR : List Nat) (hC : isC.map (fun i => w[i]?) = wc.map some) (hR : isR.map (fun i => w[i]?) = wr.map some) (hnC : va_nd isC = true) (hnR : va_nd isR = true) (hdis : ∀ i ∈ isR, i ∉ isC) (hM : hl_KI D tys l y ws rm mc ms (.ref b :: As) wc (fun r w => r = rr ∧ w = ww)) (cw : CallW R s args own C index y bytes maxL ret ws rm mc ms n) {q0 ci : Nat} {fs : List Value} {T : u_T} {N : Nat} (he : w[q0]? = some (b, .inr (ci, fs))) (hc : vwCl[ci]? = some (C, T, N)) (hd : decode cc pc = .ok (.invokevirtual index, 3)) (hn : As.length = n) (hW : (st.map fun v => v.category).sum ≤ 8) (hf : cells + mc ≤ R.cells ∧ slots + ms ≤ R.slots) {st0 : List Value} (hst : st0 = (As.reverse ++ .ref b :: st)) (kk : hl_X p l e R s m args below meth c nL D A (cells + mc) (slots + ms) Q (wr ++ ww) (pc + 3) ls (.int rr :: st)) : hl_X p l e R s m args below meth c nL D A cells slots Q w pc ls st0 :=
  hl_callPVi h isC isR hC hR hnC hnR hdis hM cw he hc hd hn hW hf hst (fun r w1 hp => by rw [hp.1, hp.2]; exact kk)
theorem hl_callPVvD (h : hl_C p s m args c cc nL Ts own D tys A) {C : String} {y : MethodName} {bytes : ByteArray} {maxL mc ms n index b : Nat} {ret : Option FieldType} {ws : List Cond} {rm : Room} {As : List Value} {ww : va_W} {wc wr : va_W} (isC isR : List Nat) (hC : isC.map (fun i => w[i]?) = wc.map some) (hR : isR.map (fun i => w[i]?) = wr.map some) (hnC : va_nd isC = true) (hnR : va_nd isR = true) (hdis : ∀ i ∈ isR, i ∉ isC) (hM : hl_KV D tys l y ws rm mc ms (.ref b :: As) wc (fun w => w = ww)) (cw : CallW R s args own C index y bytes maxL ret ws rm mc ms n) {q0 ci : Nat} {fs : List Value} {T : u_T} {N : Nat} (he : w[q0]? = some (b, .inr (ci, fs))) (hc : vwCl[ci]? = some (C, T, N)) (hd : decode cc pc = .ok (.invokevirtual index, 3)) (hn : As.length = n) (hW : (st.map fun v => v.category).sum ≤ 8) (hf : cells + mc ≤ R.cells ∧ slots + ms ≤ R.slots) {st0 : List Value} (hst : st0 = (As.reverse ++ .ref b :: st)) (kk : hl_X p l e R s m args below meth c nL D A (cells + mc) (slots + ms) Q (wr ++ ww) (pc + 3) ls st) : hl_X p l e R s m args below meth c nL D A cells slots Q w pc ls st0 :=
  hl_callPVv h isC isR hC hR hnC hnR hdis hM cw he hc hd hn hW hf hst (fun w1 hp => by rw [hp]; exact kk)
theorem hl_callPSiD (h : hl_C p s m args c cc nL Ts own D tys A) {y : MethodName} {bytes : ByteArray} {maxL mc ms n index : Nat} {ret : Option FieldType} {ws : List Cond} {rm : Room} {As : List Value} {rr : Int32} {ww : va_W} {wc wr : va_W} (isC isR : List Nat) (hC : isC.map (fun i => w[i]?) = wc.map some) (hR : isR.map (fun i => w[i]?) = wr.map some) (hnC : va_nd isC = true) (hnR : va_nd isR = true) (hdis : ∀ i ∈ isR, i ∉ isC) (hM : hl_KI D tys l y ws rm mc ms As wc (fun r w => r = rr ∧ w = ww)) (cw : CallB R s args own index y bytes maxL ret ws rm mc ms n ∧ (Cond.static y).before args s = true) (hd : decode cc pc = .ok (.invokestatic index, 3)) (hn : As.length = n) (hW : (st.map fun v => v.category).sum ≤ 8) (hf : cells + mc ≤ R.cells ∧ slots + ms ≤ R.slots) {st0 : List Value} (hst : st0 = (As.reverse ++ st)) (kk : hl_X p l e R s m args below meth c nL D A (cells + mc) (slots + ms) Q (wr ++ ww) (pc + 3) ls (.int rr :: st)) : hl_X p l e R s m args below meth c nL D A cells slots Q w pc ls st0 :=
  hl_callPSi h isC isR hC hR hnC hnR hdis hM cw hd hn hW hf hst (fun r w1 hp => by rw [hp.1, hp.2]; exact kk)
theorem hl_callPSvD (h : hl_C p s m args c cc nL Ts own D tys A) {y : MethodName} {bytes : ByteArray} {maxL mc ms n index : Nat} {ret : Option FieldType} {ws : List Cond} {rm : Room} {As : List Value} {ww : va_W} {wc wr : va_W} (isC isR : List Nat) (hC : isC.map (fun i => w[i]?) = wc.map some) (hR : isR.map (fun i => w[i]?) = wr.map some) (hnC : va_nd isC = true) (hnR : va_nd isR = true) (hdis : ∀ i ∈ isR, i ∉ isC) (hM : hl_KV D tys l y ws rm mc ms As wc (fun w => w = ww)) (cw : CallB R s args own index y bytes maxL ret ws rm mc ms n ∧ (Cond.static y).before args s = true) (hd : decode cc pc = .ok (.invokestatic index, 3)) (hn : As.length = n) (hW : (st.map fun v => v.category).sum ≤ 8) (hf : cells + mc ≤ R.cells ∧ slots + ms ≤ R.slots) {st0 : List Value} (hst : st0 = (As.reverse ++ st)) (kk : hl_X p l e R s m args below meth c nL D A (cells + mc) (slots + ms) Q (wr ++ ww) (pc + 3) ls st) : hl_X p l e R s m args below meth c nL D A cells slots Q w pc ls st0 :=
  hl_callPSv h isC isR hC hR hnC hnR hdis hM cw hd hn hW hf hst (fun w1 hp => by rw [hp]; exact kk)
end HLK
end
section
/-! The states as functions: place, index -> number. su: one place anew. it: a loop's steps from i on, n of them. -/
def hl_su (g : Nat → Nat → Int32) (k : Nat) (f : Nat → Int32) : Nat → Nat → Int32 := fun j => bif Nat.beq j k then f else g j
theorem hl_su_eq (g : Nat → Nat → Int32) (k : Nat) (f : Nat → Int32) : hl_su g k f k = f := by simp [hl_su]
theorem hl_su_ne (g : Nat → Nat → Int32) {k j : Nat} (f : Nat → Int32) (h : j ≠ k) : hl_su g k f j = g j := by
  have h2 : Nat.beq j k = false := by
    cases h3 : Nat.beq j k with
    | false => rfl
    | true => exact absurd (Nat.eq_of_beq_eq_true h3) h
  simp only [hl_su, h2, cond_false]
def hl_it {α : Type} (f : Nat → α → α) : Nat → Nat → α → α
  | _, 0, x => x
  | i, n + 1, x => hl_it f (i + 1) n (f i x)
theorem hl_it_0 {α : Type} (f : Nat → α → α) (i : Nat) (x : α) : hl_it f i 0 x = x := rfl
theorem hl_it_s {α : Type} (f : Nat → α → α) (i n : Nat) (x : α) : hl_it f i (n + 1) x = hl_it f (i + 1) n (f i x) := rfl
def hl_WC (a : Nat → Nat) (cI cZ : ClassId) (g : Nat → Nat → Int32) : va_W := [(a 0, .inr (5, [.ref (a 1), .ref (a 2), .ref (a 3), .ref (a 4), .ref (a 5), .int (g 23 0)])), (a 1, .inr (4, [.ref (a 6), .ref (a 7), .ref (a 8)])), (a 2, .inr (2, [.ref (a 9), .ref (a 10), .ref (a 11), .ref (a 12), .ref (a 13), .int (g 8 0), .int (g 9 0)])), (a 3, .inr (0, [.ref (a 14), .ref (a 15), .ref (a 16), .ref (a 17), .ref (a 18), .ref (a 19), .int (g 16 0)])), (a 4, .inr (3, [.ref (a 20), .ref (a 21), .ref (a 22), .int (g 20 0)])), (a 5, .inr (1, [.ref (a 23), .ref (a 24)])), (a 6, .inl (cI, 8, .inl (g 0))), (a 7, .inl (cI, 8, .inl (g 1))), (a 8, .inl (cI, 8, .inl (g 2))), (a 9, .inl (cI, 4, .inl (g 3))), (a 10, .inl (cI, 4, .inl (g 4))), (a 11, .inl (cI, 4, .inl (g 5))), (a 12, .inl (cI, 4, .inl (g 6))), (a 13, .inl (cI, 4, .inl (g 7))), (a 14, .inl (cI, 80, .inl (g 10))), (a 15, .inl (cI, 80, .inl (g 11))), (a 16, .inl (cI, 80, .inl (g 12))), (a 17, .inl (cI, 80, .inl (g 13))), (a 18, .inl (cZ, 80, .inl (g 14))), (a 19, .inl (cI, 80, .inl (g 15))), (a 20, .inl (cI, 80, .inl (g 17))), (a 21, .inl (cI, 80, .inl (g 18))), (a 22, .inl (cI, 80, .inl (g 19))), (a 23, .inl (cI, 4, .inl (g 21))), (a 24, .inl (cI, 16, .inl (g 22)))]
section
variable {a : Nat → Nat} {cI cZ : ClassId} {g : Nat → Nat → Int32}
theorem hl_wc_0 : (hl_WC a cI cZ g)[0]? = some (a 0, .inr (5, [.ref (a 1), .ref (a 2), .ref (a 3), .ref (a 4), .ref (a 5), .int (g 23 0)])) := rfl
theorem hl_wc_1 : (hl_WC a cI cZ g)[1]? = some (a 1, .inr (4, [.ref (a 6), .ref (a 7), .ref (a 8)])) := rfl
theorem hl_wc_2 : (hl_WC a cI cZ g)[2]? = some (a 2, .inr (2, [.ref (a 9), .ref (a 10), .ref (a 11), .ref (a 12), .ref (a 13), .int (g 8 0), .int (g 9 0)])) := rfl
theorem hl_wc_3 : (hl_WC a cI cZ g)[3]? = some (a 3, .inr (0, [.ref (a 14), .ref (a 15), .ref (a 16), .ref (a 17), .ref (a 18), .ref (a 19), .int (g 16 0)])) := rfl
theorem hl_wc_4 : (hl_WC a cI cZ g)[4]? = some (a 4, .inr (3, [.ref (a 20), .ref (a 21), .ref (a 22), .int (g 20 0)])) := rfl
theorem hl_wc_5 : (hl_WC a cI cZ g)[5]? = some (a 5, .inr (1, [.ref (a 23), .ref (a 24)])) := rfl
theorem hl_wc_6 : (hl_WC a cI cZ g)[6]? = some (a 6, .inl (cI, 8, .inl (g 0))) := rfl
theorem hl_wc_7 : (hl_WC a cI cZ g)[7]? = some (a 7, .inl (cI, 8, .inl (g 1))) := rfl
theorem hl_wc_8 : (hl_WC a cI cZ g)[8]? = some (a 8, .inl (cI, 8, .inl (g 2))) := rfl
theorem hl_wc_9 : (hl_WC a cI cZ g)[9]? = some (a 9, .inl (cI, 4, .inl (g 3))) := rfl
theorem hl_wc_10 : (hl_WC a cI cZ g)[10]? = some (a 10, .inl (cI, 4, .inl (g 4))) := rfl
theorem hl_wc_11 : (hl_WC a cI cZ g)[11]? = some (a 11, .inl (cI, 4, .inl (g 5))) := rfl
theorem hl_wc_12 : (hl_WC a cI cZ g)[12]? = some (a 12, .inl (cI, 4, .inl (g 6))) := rfl
theorem hl_wc_13 : (hl_WC a cI cZ g)[13]? = some (a 13, .inl (cI, 4, .inl (g 7))) := rfl
theorem hl_wc_14 : (hl_WC a cI cZ g)[14]? = some (a 14, .inl (cI, 80, .inl (g 10))) := rfl
theorem hl_wc_15 : (hl_WC a cI cZ g)[15]? = some (a 15, .inl (cI, 80, .inl (g 11))) := rfl
theorem hl_wc_16 : (hl_WC a cI cZ g)[16]? = some (a 16, .inl (cI, 80, .inl (g 12))) := rfl
theorem hl_wc_17 : (hl_WC a cI cZ g)[17]? = some (a 17, .inl (cI, 80, .inl (g 13))) := rfl
theorem hl_wc_18 : (hl_WC a cI cZ g)[18]? = some (a 18, .inl (cZ, 80, .inl (g 14))) := rfl
theorem hl_wc_19 : (hl_WC a cI cZ g)[19]? = some (a 19, .inl (cI, 80, .inl (g 15))) := rfl
theorem hl_wc_20 : (hl_WC a cI cZ g)[20]? = some (a 20, .inl (cI, 80, .inl (g 17))) := rfl
theorem hl_wc_21 : (hl_WC a cI cZ g)[21]? = some (a 21, .inl (cI, 80, .inl (g 18))) := rfl
theorem hl_wc_22 : (hl_WC a cI cZ g)[22]? = some (a 22, .inl (cI, 80, .inl (g 19))) := rfl
theorem hl_wc_23 : (hl_WC a cI cZ g)[23]? = some (a 23, .inl (cI, 4, .inl (g 21))) := rfl
theorem hl_wc_24 : (hl_WC a cI cZ g)[24]? = some (a 24, .inl (cI, 16, .inl (g 22))) := rfl
theorem hl_wc_s23 {v : Int32} : (hl_WC a cI cZ g).set 0 (a 0, .inr (5, ([.ref (a 1), .ref (a 2), .ref (a 3), .ref (a 4), .ref (a 5), .int (g 23 0)] : List Value).set 5 (.int v))) = hl_WC a cI cZ (hl_su g 23 (fun _ => v)) := rfl
theorem hl_wc_s8 {v : Int32} : (hl_WC a cI cZ g).set 2 (a 2, .inr (2, ([.ref (a 9), .ref (a 10), .ref (a 11), .ref (a 12), .ref (a 13), .int (g 8 0), .int (g 9 0)] : List Value).set 5 (.int v))) = hl_WC a cI cZ (hl_su g 8 (fun _ => v)) := rfl
theorem hl_wc_s9 {v : Int32} : (hl_WC a cI cZ g).set 2 (a 2, .inr (2, ([.ref (a 9), .ref (a 10), .ref (a 11), .ref (a 12), .ref (a 13), .int (g 8 0), .int (g 9 0)] : List Value).set 6 (.int v))) = hl_WC a cI cZ (hl_su g 9 (fun _ => v)) := rfl
theorem hl_wc_s16 {v : Int32} : (hl_WC a cI cZ g).set 3 (a 3, .inr (0, ([.ref (a 14), .ref (a 15), .ref (a 16), .ref (a 17), .ref (a 18), .ref (a 19), .int (g 16 0)] : List Value).set 6 (.int v))) = hl_WC a cI cZ (hl_su g 16 (fun _ => v)) := rfl
theorem hl_wc_s20 {v : Int32} : (hl_WC a cI cZ g).set 4 (a 4, .inr (3, ([.ref (a 20), .ref (a 21), .ref (a 22), .int (g 20 0)] : List Value).set 3 (.int v))) = hl_WC a cI cZ (hl_su g 20 (fun _ => v)) := rfl
theorem hl_wc_t0 {f : Nat → Int32} : (hl_WC a cI cZ g).set 6 (a 6, .inl (cI, 8, .inl f)) = hl_WC a cI cZ (hl_su g 0 f) := rfl
theorem hl_wc_t1 {f : Nat → Int32} : (hl_WC a cI cZ g).set 7 (a 7, .inl (cI, 8, .inl f)) = hl_WC a cI cZ (hl_su g 1 f) := rfl
theorem hl_wc_t2 {f : Nat → Int32} : (hl_WC a cI cZ g).set 8 (a 8, .inl (cI, 8, .inl f)) = hl_WC a cI cZ (hl_su g 2 f) := rfl
theorem hl_wc_t3 {f : Nat → Int32} : (hl_WC a cI cZ g).set 9 (a 9, .inl (cI, 4, .inl f)) = hl_WC a cI cZ (hl_su g 3 f) := rfl
theorem hl_wc_t4 {f : Nat → Int32} : (hl_WC a cI cZ g).set 10 (a 10, .inl (cI, 4, .inl f)) = hl_WC a cI cZ (hl_su g 4 f) := rfl
theorem hl_wc_t5 {f : Nat → Int32} : (hl_WC a cI cZ g).set 11 (a 11, .inl (cI, 4, .inl f)) = hl_WC a cI cZ (hl_su g 5 f) := rfl
theorem hl_wc_t6 {f : Nat → Int32} : (hl_WC a cI cZ g).set 12 (a 12, .inl (cI, 4, .inl f)) = hl_WC a cI cZ (hl_su g 6 f) := rfl
theorem hl_wc_t7 {f : Nat → Int32} : (hl_WC a cI cZ g).set 13 (a 13, .inl (cI, 4, .inl f)) = hl_WC a cI cZ (hl_su g 7 f) := rfl
theorem hl_wc_t10 {f : Nat → Int32} : (hl_WC a cI cZ g).set 14 (a 14, .inl (cI, 80, .inl f)) = hl_WC a cI cZ (hl_su g 10 f) := rfl
theorem hl_wc_t11 {f : Nat → Int32} : (hl_WC a cI cZ g).set 15 (a 15, .inl (cI, 80, .inl f)) = hl_WC a cI cZ (hl_su g 11 f) := rfl
theorem hl_wc_t12 {f : Nat → Int32} : (hl_WC a cI cZ g).set 16 (a 16, .inl (cI, 80, .inl f)) = hl_WC a cI cZ (hl_su g 12 f) := rfl
theorem hl_wc_t13 {f : Nat → Int32} : (hl_WC a cI cZ g).set 17 (a 17, .inl (cI, 80, .inl f)) = hl_WC a cI cZ (hl_su g 13 f) := rfl
theorem hl_wc_t14 {f : Nat → Int32} : (hl_WC a cI cZ g).set 18 (a 18, .inl (cZ, 80, .inl f)) = hl_WC a cI cZ (hl_su g 14 f) := rfl
theorem hl_wc_t15 {f : Nat → Int32} : (hl_WC a cI cZ g).set 19 (a 19, .inl (cI, 80, .inl f)) = hl_WC a cI cZ (hl_su g 15 f) := rfl
theorem hl_wc_t17 {f : Nat → Int32} : (hl_WC a cI cZ g).set 20 (a 20, .inl (cI, 80, .inl f)) = hl_WC a cI cZ (hl_su g 17 f) := rfl
theorem hl_wc_t18 {f : Nat → Int32} : (hl_WC a cI cZ g).set 21 (a 21, .inl (cI, 80, .inl f)) = hl_WC a cI cZ (hl_su g 18 f) := rfl
theorem hl_wc_t19 {f : Nat → Int32} : (hl_WC a cI cZ g).set 22 (a 22, .inl (cI, 80, .inl f)) = hl_WC a cI cZ (hl_su g 19 f) := rfl
theorem hl_wc_t21 {f : Nat → Int32} : (hl_WC a cI cZ g).set 23 (a 23, .inl (cI, 4, .inl f)) = hl_WC a cI cZ (hl_su g 21 f) := rfl
theorem hl_wc_t22 {f : Nat → Int32} : (hl_WC a cI cZ g).set 24 (a 24, .inl (cI, 16, .inl f)) = hl_WC a cI cZ (hl_su g 22 f) := rfl
end
/-! the law's world: its four arrays (rooms, marks, guests, came; contents r), and the class's -/
def hl_LR (a : Nat → Nat) (cI : ClassId) (r : Nat → Nat → Int32) : va_W := [(a 25, .inl (cI, 8, .inl (r 0))), (a 26, .inl (cI, 60, .inl (r 1))), (a 27, .inl (cI, 60, .inl (r 2))), (a 28, .inl (cI, 60, .inl (r 3)))]
def hl_LW (a : Nat → Nat) (cI cZ : ClassId) (r g : Nat → Nat → Int32) : va_W := hl_LR a cI r ++ hl_WC a cI cZ g
section
variable {a : Nat → Nat} {cI cZ : ClassId} {r g : Nat → Nat → Int32}
theorem hl_lw_0 : (hl_LW a cI cZ r g)[0]? = some (a 25, .inl (cI, 8, .inl (r 0))) := rfl
theorem hl_lw_1 : (hl_LW a cI cZ r g)[1]? = some (a 26, .inl (cI, 60, .inl (r 1))) := rfl
theorem hl_lw_2 : (hl_LW a cI cZ r g)[2]? = some (a 27, .inl (cI, 60, .inl (r 2))) := rfl
theorem hl_lw_3 : (hl_LW a cI cZ r g)[3]? = some (a 28, .inl (cI, 60, .inl (r 3))) := rfl
theorem hl_lw_4 : (hl_LW a cI cZ r g)[4]? = some (a 0, .inr (5, [.ref (a 1), .ref (a 2), .ref (a 3), .ref (a 4), .ref (a 5), .int (g 23 0)])) := rfl
theorem hl_lw_t0 {f : Nat → Int32} : (hl_LW a cI cZ r g).set 0 (a 25, .inl (cI, 8, .inl f)) = hl_LW a cI cZ (hl_su r 0 f) g := rfl
theorem hl_lw_t1 {f : Nat → Int32} : (hl_LW a cI cZ r g).set 1 (a 26, .inl (cI, 60, .inl f)) = hl_LW a cI cZ (hl_su r 1 f) g := rfl
theorem hl_lw_t2 {f : Nat → Int32} : (hl_LW a cI cZ r g).set 2 (a 27, .inl (cI, 60, .inl f)) = hl_LW a cI cZ (hl_su r 2 f) g := rfl
theorem hl_lw_t3 {f : Nat → Int32} : (hl_LW a cI cZ r g).set 3 (a 28, .inl (cI, 60, .inl f)) = hl_LW a cI cZ (hl_su r 3 f) g := rfl
end
end
section
section HLN
variable {p : Program} {l : Launch} {e : Env} {R : Room} {s : State} {m : MethodId} {args : Array Value} {below : List Frame} {meth : Method} {c : Code}
variable {nL : Nat} {D : va_G} {A : Nat → Prop} {cells slots : Nat} {Q : State → Prop} {pc : Nat} {ls : List (Nat × Value)} {st : List Value} {a : Nat → Nat} {cI cZ : ClassId} {T : Nat → Nat → Int32}
theorem hl_nmC (k : ∀ z, z = T → hl_X p l e R s m args below meth c nL D A cells slots Q (hl_WC a cI cZ z) pc ls st) : hl_X p l e R s m args below meth c nL D A cells slots Q (hl_WC a cI cZ T) pc ls st := k T rfl
end HLN
theorem hl_inc (i : Nat) : nI i + Int32.ofInt 1 = nI (i + 1) := nI_1 i
theorem hl_row {x y : Int32} (hx : vp_in x 4) (hy : vp_in y 2) : vp_in (x * 2 + y) 8 := by
  obtain ⟨a, ha, rfl⟩ := vp_in_of hx (by decide)
  obtain ⟨b, hb, rfl⟩ := vp_in_of hy (by decide)
  show vp_in (nI a * nI 2 + nI b) 8
  rw [pk_mul, nI_add]
  exact vp_in_nI (by omega) (by decide)
theorem hl_rowM {x y : Int32} (hx : vp_in x 4) (hy : vp_in y 2) : vp_in (2 * x + y) 8 := by
  rw [Int32.mul_comm]
  exact hl_row hx hy
theorem hl_sq {x y : Int32} (hx : vp_in x 4) (hy : vp_in y 4) : vp_in (x * 4 + y) 16 := by
  obtain ⟨a, ha, rfl⟩ := vp_in_of hx (by decide)
  obtain ⟨b, hb, rfl⟩ := vp_in_of hy (by decide)
  show vp_in (nI a * nI 4 + nI b) 16
  rw [pk_mul, nI_add]
  exact vp_in_nI (by omega) (by decide)
theorem hl_sqM {x y : Int32} (hx : vp_in x 4) (hy : vp_in y 4) : vp_in (4 * x + y) 16 := by
  rw [Int32.mul_comm]
  exact hl_sq hx hy
theorem hl_in {x : Int32} {n : Nat} (k : Int32) (hk : k.toInt = n) (h0 : ¬ x < 0) (h1 : x < k) : vp_in x n :=
  vp_in_iff.mpr ⟨Int.not_lt.mp (fun h => h0 (Int32.lt_iff_toInt_lt.mpr h)), by rw [← hk]; exact Int32.lt_iff_toInt_lt.mp h1⟩
theorem hl_in0 {x : Int32} {n : Nat} (h : vp_in x n) : ¬ x < 0 := fun z => h (Or.inl z)
theorem hl_in1 {x : Int32} {n : Nat} (k : Int32) (hk : k.toInt = n) (h : vp_in x n) : x < k :=
  Int32.lt_iff_toInt_lt.mpr (by rw [hk]; exact (vp_in_iff.mp h).2)
end
section
/-! What the small methods of the class answer (r_) and do to the contents (f_), by their own roads; b_: one step of a loop -/
abbrev hl_i (x : Int32) : Nat := x.toNatClampNeg
def f_X4_change (g : Nat → Nat → Int32) (x y n q : Int32) : Nat → Nat → Int32 :=
  hl_su (hl_su g 0 (upd (g 0) (x * 2 + y).toNatClampNeg n)) 1 (upd (g 1) (x * 2 + y).toNatClampNeg q)
def f_X4_addSleeper (g : Nat → Nat → Int32) (x y : Int32) : Nat → Nat → Int32 := hl_su g 2 (upd (g 2) (x * 2 + y).toNatClampNeg (g 2 (x * 2 + y).toNatClampNeg + 1))
def b_X4_endNight (k : Nat) (z : Nat → Nat → Int32) : Nat → Nat → Int32 := hl_su z 2 (upd (z 2) k 0)
def f_X4_endNight (g : Nat → Nat → Int32) : Nat → Nat → Int32 := hl_it b_X4_endNight 0 8 g
def r_X4_freeOf (g : Nat → Nat → Int32) (x y : Int32) : Int32 := if 0 < (g 0 (x * 2 + y).toNatClampNeg) - (g 2 (x * 2 + y).toNatClampNeg) then (g 0 (x * 2 + y).toNatClampNeg) - (g 2 (x * 2 + y).toNatClampNeg) else 0
def f_X2_addClean (g : Nat → Nat → Int32) (x n : Int32) : Nat → Nat → Int32 := hl_su g 3 (upd (g 3) x.toNatClampNeg (g 3 x.toNatClampNeg + n))
def r_X2_awayOf (g : Nat → Nat → Int32) (x : Int32) : Int32 := g 4 x.toNatClampNeg + g 5 x.toNatClampNeg + g 6 x.toNatClampNeg + g 7 x.toNatClampNeg
def b_X2_giverFor (g : Nat → Nat → Int32) (k : Nat) (z : Int32 × Int32) : Int32 × Int32 := if g 3 k ≤ z.2 then z else (nI k, g 3 k)
def r_X2_giverFor (g : Nat → Nat → Int32) (x : Int32) : Int32 := if g 3 x.toNatClampNeg ≤ 0 then (hl_it (b_X2_giverFor g) 0 4 (-1, 0)).1 else x
def f_X2_take (g : Nat → Nat → Int32) (x y : Int32) : Nat → Nat → Int32 :=
  let g1 := hl_su g 3 (upd (g 3) y.toNatClampNeg (g 3 y.toNatClampNeg - 1))
  let g2 := hl_su g1 4 (upd (g1 4) x.toNatClampNeg (g1 4 x.toNatClampNeg + 1))
  if y = x then g2 else hl_su g2 9 (fun _ => g2 9 0 + 1)
def b_X2_endNight (k : Nat) (g : Nat → Nat → Int32) : Nat → Nat → Int32 :=
  let g1 := hl_su g 7 (upd (g 7) k (g 7 k + g 6 k))
  let g2 := hl_su g1 6 (upd (g1 6) k (g1 5 k))
  let g3 := hl_su g2 5 (upd (g2 5) k (g2 4 k))
  let g4 := hl_su g3 4 (upd (g3 4) k 0)
  let g5 := hl_su g4 3 (upd (g4 3) k (g4 3 k + g4 7 k))
  if g4 8 0 = 0 then hl_su g5 7 (upd (g5 7) k 0) else g4
def f_X2_endNight (g : Nat → Nat → Int32) : Nat → Nat → Int32 := hl_su (hl_it b_X2_endNight 0 4 g) 9 (fun _ => 0)
def f_X0_add (g : Nat → Nat → Int32) (x y z v : Int32) : Nat → Nat → Int32 :=
  let g1 := hl_su g 10 (upd (g 10) (g 16 0).toNatClampNeg x)
  let g2 := hl_su g1 11 (upd (g1 11) (g 16 0).toNatClampNeg y)
  let g3 := hl_su g2 12 (upd (g2 12) (g 16 0).toNatClampNeg z)
  let g4 := hl_su g3 13 (upd (g3 13) (g 16 0).toNatClampNeg v)
  let g5 := hl_su g4 15 (upd (g4 15) (g 16 0).toNatClampNeg (-1))
  hl_su g5 16 (fun _ => g5 16 0 + 1)
def f_X0_arrive (g : Nat → Nat → Int32) (x y : Int32) : Nat → Nat → Int32 :=
  let g1 := hl_su g 14 (upd (g 14) x.toNatClampNeg 1)
  hl_su g1 15 (upd (g1 15) x.toNatClampNeg y)
def b_X0_countFor (g : Nat → Nat → Int32) (x y z : Int32) (k : Nat) (n : Int32) : Int32 := if g 11 k = x ∧ g 12 k = y ∧ g 13 k = z then n + 1 else n
def b_X0_missedIn (g : Nat → Nat → Int32) (x : Int32) (k : Nat) (n : Int32) : Int32 := if g 13 k = x ∧ g 14 k = 0 then n + 1 else n
def b_X0_missedAt (g : Nat → Nat → Int32) (x y z : Int32) (k : Nat) (n : Int32) : Int32 := if g 11 k = x ∧ ¬ g 13 k < y ∧ ¬ z ≤ g 13 k ∧ g 14 k = 0 then n + 1 else n
def b_X0_sleepersAt (g : Nat → Nat → Int32) (x y z : Int32) (k : Nat) (n : Int32) : Int32 := if g 15 k = x ∧ g 12 k = y ∧ g 13 k = z then n + 1 else n
def f_X3_add (g : Nat → Nat → Int32) (x y z : Int32) : Nat → Nat → Int32 :=
  let g1 := hl_su g 17 (upd (g 17) (g 20 0).toNatClampNeg x)
  let g2 := hl_su g1 18 (upd (g1 18) (g 20 0).toNatClampNeg y)
  let g3 := hl_su g2 19 (upd (g2 19) (g 20 0).toNatClampNeg z)
  if g 20 0 < 80 then hl_su g3 20 (fun _ => g3 20 0 + 1) else g
def b_X3_ofGuest (g : Nat → Nat → Int32) (x : Int32) (k : Nat) (n : Int32) : Int32 := if g 17 k = x then n + g 19 k else n
def r_X3_takeFrom (g : Nat → Nat → Int32) (x y n : Int32) : Int32 := if g 17 x.toNatClampNeg = y then (if n < g 19 x.toNatClampNeg then n else g 19 x.toNatClampNeg) else 0
def f_X3_takeFrom (g : Nat → Nat → Int32) (x y n : Int32) : Nat → Nat → Int32 := if g 17 x.toNatClampNeg = y then hl_su g 19 (upd (g 19) x.toNatClampNeg (g 19 x.toNatClampNeg - (if n < g 19 x.toNatClampNeg then n else g 19 x.toNatClampNeg))) else g
def f_X1_receive (g : Nat → Nat → Int32) (x n : Int32) : Nat → Nat → Int32 := hl_su g 21 (upd (g 21) x.toNatClampNeg (g 21 x.toNatClampNeg + n))
def f_X1_owe (g : Nat → Nat → Int32) (x y n : Int32) : Nat → Nat → Int32 :=
  let g1 := hl_su g 22 (upd (g 22) (x * 4 + y).toNatClampNeg (g 22 (x * 4 + y).toNatClampNeg + n))
  hl_su g1 22 (upd (g1 22) (y * 4 + x).toNatClampNeg (g1 22 (y * 4 + x).toNatClampNeg - n))
def r_X1_between (g : Nat → Nat → Int32) (x y : Int32) : Int32 := if 0 < g 22 (x * 4 + y).toNatClampNeg then g 22 (x * 4 + y).toNatClampNeg else 0
def f_X1_pay (g : Nat → Nat → Int32) (x y : Int32) : Nat → Nat → Int32 :=
  let g1 := hl_su g 21 (upd (g 21) x.toNatClampNeg (g 21 x.toNatClampNeg - r_X1_between g x y))
  let g2 := hl_su g1 21 (upd (g1 21) y.toNatClampNeg (g1 21 y.toNatClampNeg + r_X1_between g x y))
  f_X1_owe g2 y x (r_X1_between g x y)
def b_X1_payIn (i : Nat) (k : Nat) (z : (Nat → Nat → Int32) × Int32) : (Nat → Nat → Int32) × Int32 := (f_X1_pay z.1 (nI i) (nI k), z.2 + r_X1_between z.1 (nI i) (nI k))
def b_X1_payAll (i : Nat) (z : (Nat → Nat → Int32) × Int32) : (Nat → Nat → Int32) × Int32 := hl_it (b_X1_payIn i) 0 4 z
end
section
set_option maxHeartbeats 4000000 in
set_option maxRecDepth 100000 in
theorem c_X4_row (l : Launch) (D : va_G) (cI cZ cJ : ClassId) (a : Nat → Nat) (g : Nat → Nat → Int32) (x y : Int32) : hl_KI D (hl_ty cI cZ cJ) l yX4_row wsX4_row ({ frames := 0, cells := 0, slots := 0, locals := 0 } : Room) 0 0 [.int x, .int y] (hl_WC a cI cZ g) (fun r w => r = (x * 2 + y) ∧ w = hl_WC a cI cZ g) := by
  refine hl_KI_of (cc := cX4_row) (maxL := 2) .int rfl (fun _ => Or.inr rfl) (by decide) rfl (Nat.le_of_ble_eq_true rfl) ?_
  intro p e s m args below meth c A Q h hend
  refine hl_ls (ls' := [(0, .int x), (1, .int y)]) rfl ?_
  refine hl_iload_n h 0 dX4_row_0 rfl ?_
  refine hl_iconst h 2 dX4_row_1 (by decide) ?_
  refine hl_imul h dX4_row_2 ?_
  refine hl_iload_n h 1 dX4_row_3 rfl ?_
  refine hl_iadd h dX4_row_4 ?_
  exact hend dX4_row_5 (fun h9 => nomatch h9) (by
    exact ⟨by rfl, (congrArg (hl_WC a cI cZ) (by rfl))⟩)

set_option maxHeartbeats 4000000 in
set_option maxRecDepth 100000 in
theorem c_X4_countOf (l : Launch) (D : va_G) (cI cZ cJ : ClassId) (a : Nat → Nat) (g : Nat → Nat → Int32) (x y : Int32) (h1 : vp_in x 4) (h2 : vp_in y 2) : hl_KI D (hl_ty cI cZ cJ) l yX4_countOf wsX4_countOf ({ frames := 1, cells := 0, slots := 0, locals := 21 } : Room) 0 0 [.ref (a 1), .int x, .int y] (hl_WC a cI cZ g) (fun r w => r = (g 0 (x * 2 + y).toNatClampNeg) ∧ w = hl_WC a cI cZ g) := by
  refine hl_KI_of (cc := cX4_countOf) (maxL := 3) .int rfl (fun _ => Or.inr rfl) (by decide) rfl (Nat.le_of_ble_eq_true rfl) ?_
  intro p e s m args below meth c A Q h hend
  have hi4 : ∀ z ∈ wsX40, z ∈ wsX4_countOf := by decide +kernel
  have hrow : vp_in (x * 2 + y) 8 := hl_row h1 h2
  refine hl_ls (ls' := [(0, .ref (a 1)), (1, .int x), (2, .int y)]) rfl ?_
  refine hl_aload_n h 0 dX4_countOf_0 rfl ?_
  refine hl_get h hi4 hl_wc_1 rfl 0 rfl dX4_countOf_1 (by decide) (by decide +kernel) ?_
  refine hl_iload_n h 1 dX4_countOf_4 rfl ?_
  refine hl_iload_n h 2 dX4_countOf_5 rfl ?_
  refine hl_callSiD h (st := [.ref (a 6)]) (c_X4_row l D cI cZ cJ a g x y) (va_cwS 2 h.2.2.2.2.1 gX4_countOf_X4_row rfl rfl rfl (by decide +kernel) ⟨Nat.le_of_ble_eq_true rfl, Nat.le_of_ble_eq_true rfl⟩) dX4_countOf_6 rfl (Nat.le_of_ble_eq_true rfl) ⟨Nat.le_of_ble_eq_true rfl, Nat.le_of_ble_eq_true rfl⟩ rfl ?_
  refine hl_ild h hl_wc_6 0 rfl dX4_countOf_9 (by with_reducible assumption) ?_
  exact hend dX4_countOf_10 (fun h9 => nomatch h9) (by
    exact ⟨by rfl, (congrArg (hl_WC a cI cZ) (by rfl))⟩)

set_option maxHeartbeats 4000000 in
set_option maxRecDepth 100000 in
theorem c_X4_priceOf (l : Launch) (D : va_G) (cI cZ cJ : ClassId) (a : Nat → Nat) (g : Nat → Nat → Int32) (x y : Int32) (h1 : vp_in x 4) (h2 : vp_in y 2) : hl_KI D (hl_ty cI cZ cJ) l yX4_priceOf wsX4_priceOf ({ frames := 1, cells := 0, slots := 0, locals := 21 } : Room) 0 0 [.ref (a 1), .int x, .int y] (hl_WC a cI cZ g) (fun r w => r = (g 1 (x * 2 + y).toNatClampNeg) ∧ w = hl_WC a cI cZ g) := by
  refine hl_KI_of (cc := cX4_priceOf) (maxL := 3) .int rfl (fun _ => Or.inr rfl) (by decide) rfl (Nat.le_of_ble_eq_true rfl) ?_
  intro p e s m args below meth c A Q h hend
  have hi4 : ∀ z ∈ wsX40, z ∈ wsX4_priceOf := by decide +kernel
  have hrow : vp_in (x * 2 + y) 8 := hl_row h1 h2
  refine hl_ls (ls' := [(0, .ref (a 1)), (1, .int x), (2, .int y)]) rfl ?_
  refine hl_aload_n h 0 dX4_priceOf_0 rfl ?_
  refine hl_get h hi4 hl_wc_1 rfl 1 rfl dX4_priceOf_1 (by decide) (by decide +kernel) ?_
  refine hl_iload_n h 1 dX4_priceOf_4 rfl ?_
  refine hl_iload_n h 2 dX4_priceOf_5 rfl ?_
  refine hl_callSiD h (st := [.ref (a 7)]) (c_X4_row l D cI cZ cJ a g x y) (va_cwS 2 h.2.2.2.2.1 gX4_priceOf_X4_row rfl rfl rfl (by decide +kernel) ⟨Nat.le_of_ble_eq_true rfl, Nat.le_of_ble_eq_true rfl⟩) dX4_priceOf_6 rfl (Nat.le_of_ble_eq_true rfl) ⟨Nat.le_of_ble_eq_true rfl, Nat.le_of_ble_eq_true rfl⟩ rfl ?_
  refine hl_ild h hl_wc_7 0 rfl dX4_priceOf_9 (by with_reducible assumption) ?_
  exact hend dX4_priceOf_10 (fun h9 => nomatch h9) (by
    exact ⟨by rfl, (congrArg (hl_WC a cI cZ) (by rfl))⟩)

set_option maxHeartbeats 4000000 in
set_option maxRecDepth 100000 in
theorem c_X4_sleepersOf (l : Launch) (D : va_G) (cI cZ cJ : ClassId) (a : Nat → Nat) (g : Nat → Nat → Int32) (x y : Int32) (h1 : vp_in x 4) (h2 : vp_in y 2) : hl_KI D (hl_ty cI cZ cJ) l yX4_sleepersOf wsX4_sleepersOf ({ frames := 1, cells := 0, slots := 0, locals := 21 } : Room) 0 0 [.ref (a 1), .int x, .int y] (hl_WC a cI cZ g) (fun r w => r = (g 2 (x * 2 + y).toNatClampNeg) ∧ w = hl_WC a cI cZ g) := by
  refine hl_KI_of (cc := cX4_sleepersOf) (maxL := 3) .int rfl (fun _ => Or.inr rfl) (by decide) rfl (Nat.le_of_ble_eq_true rfl) ?_
  intro p e s m args below meth c A Q h hend
  have hi4 : ∀ z ∈ wsX40, z ∈ wsX4_sleepersOf := by decide +kernel
  have hrow : vp_in (x * 2 + y) 8 := hl_row h1 h2
  refine hl_ls (ls' := [(0, .ref (a 1)), (1, .int x), (2, .int y)]) rfl ?_
  refine hl_aload_n h 0 dX4_sleepersOf_0 rfl ?_
  refine hl_get h hi4 hl_wc_1 rfl 2 rfl dX4_sleepersOf_1 (by decide) (by decide +kernel) ?_
  refine hl_iload_n h 1 dX4_sleepersOf_4 rfl ?_
  refine hl_iload_n h 2 dX4_sleepersOf_5 rfl ?_
  refine hl_callSiD h (st := [.ref (a 8)]) (c_X4_row l D cI cZ cJ a g x y) (va_cwS 2 h.2.2.2.2.1 gX4_sleepersOf_X4_row rfl rfl rfl (by decide +kernel) ⟨Nat.le_of_ble_eq_true rfl, Nat.le_of_ble_eq_true rfl⟩) dX4_sleepersOf_6 rfl (Nat.le_of_ble_eq_true rfl) ⟨Nat.le_of_ble_eq_true rfl, Nat.le_of_ble_eq_true rfl⟩ rfl ?_
  refine hl_ild h hl_wc_8 0 rfl dX4_sleepersOf_9 (by with_reducible assumption) ?_
  exact hend dX4_sleepersOf_10 (fun h9 => nomatch h9) (by
    exact ⟨by rfl, (congrArg (hl_WC a cI cZ) (by rfl))⟩)

set_option maxHeartbeats 4000000 in
set_option maxRecDepth 100000 in
theorem c_X4_freeOf (l : Launch) (D : va_G) (cI cZ cJ : ClassId) (a : Nat → Nat) (g : Nat → Nat → Int32) (x y : Int32) (h1 : vp_in x 4) (h2 : vp_in y 2) : hl_KI D (hl_ty cI cZ cJ) l yX4_freeOf wsX4_freeOf ({ frames := 2, cells := 0, slots := 0, locals := 43 } : Room) 0 0 [.ref (a 1), .int x, .int y] (hl_WC a cI cZ g) (fun r w => r = r_X4_freeOf g x y ∧ w = hl_WC a cI cZ g) := by
  refine hl_KI_of (cc := cX4_freeOf) (maxL := 3) .int rfl (fun _ => Or.inr rfl) (by decide) rfl (Nat.le_of_ble_eq_true rfl) ?_
  intro p e s m args below meth c A Q h hend
  refine hl_ls (ls' := [(0, .ref (a 1)), (1, .int x), (2, .int y)]) rfl ?_
  refine hl_iconst h 0 dX4_freeOf_0 (by decide) ?_
  refine hl_aload_n h 0 dX4_freeOf_1 rfl ?_
  refine hl_iload_n h 1 dX4_freeOf_2 rfl ?_
  refine hl_iload_n h 2 dX4_freeOf_3 rfl ?_
  refine hl_callViD h (st := [.int 0]) (c_X4_countOf l D cI cZ cJ a g x y (by with_reducible assumption) (by with_reducible assumption)) (cwV 2 h.2.2.2.2.1 gX4_freeOf_X4_countOf rfl rfl rfl (by decide +kernel) ⟨Nat.le_of_ble_eq_true rfl, Nat.le_of_ble_eq_true rfl⟩) hl_wc_1 rfl dX4_freeOf_4 rfl (Nat.le_of_ble_eq_true rfl) ⟨Nat.le_of_ble_eq_true rfl, Nat.le_of_ble_eq_true rfl⟩ rfl ?_
  refine hl_aload_n h 0 dX4_freeOf_7 rfl ?_
  refine hl_iload_n h 1 dX4_freeOf_8 rfl ?_
  refine hl_iload_n h 2 dX4_freeOf_9 rfl ?_
  refine hl_callViD h (st := [.int ((g 0 (x * 2 + y).toNatClampNeg)), .int 0]) (c_X4_sleepersOf l D cI cZ cJ a g x y (by with_reducible assumption) (by with_reducible assumption)) (cwV 2 h.2.2.2.2.1 gX4_freeOf_X4_sleepersOf rfl rfl rfl (by decide +kernel) ⟨Nat.le_of_ble_eq_true rfl, Nat.le_of_ble_eq_true rfl⟩) hl_wc_1 rfl dX4_freeOf_10 rfl (Nat.le_of_ble_eq_true rfl) ⟨Nat.le_of_ble_eq_true rfl, Nat.le_of_ble_eq_true rfl⟩ rfl ?_
  refine hl_isub h dX4_freeOf_13 ?_
  refine hl_max h dX4_freeOf_14 (by decide +kernel) (by decide +kernel) (by decide +kernel) (by decide +kernel) (Nat.le_of_ble_eq_true rfl) (Nat.le_of_ble_eq_true rfl) (Nat.le_of_ble_eq_true rfl) (Nat.le_of_ble_eq_true rfl) ?_
  exact hend dX4_freeOf_17 (fun h9 => nomatch h9) (by
    exact ⟨rfl, rfl⟩)

set_option maxHeartbeats 4000000 in
set_option maxRecDepth 100000 in
theorem c_X4_change (l : Launch) (D : va_G) (cI cZ cJ : ClassId) (a : Nat → Nat) (g : Nat → Nat → Int32) (x y n q : Int32) (h1 : vp_in x 4) (h2 : vp_in y 2) : hl_KI D (hl_ty cI cZ cJ) l yX4_change wsX4_change ({ frames := 1, cells := 0, slots := 0, locals := 21 } : Room) 0 0 [.ref (a 1), .int x, .int y, .int n, .int q] (hl_WC a cI cZ g) (fun r w => r = g 0 (x * 2 + y).toNatClampNeg ∧ w = hl_WC a cI cZ (f_X4_change g x y n q)) := by
  refine hl_KI_of (cc := cX4_change) (maxL := 7) .int rfl (fun _ => Or.inr rfl) (by decide) rfl (Nat.le_of_ble_eq_true rfl) ?_
  intro p e s m args below meth c A Q h hend
  have hi4 : ∀ z ∈ wsX40, z ∈ wsX4_change := by decide +kernel
  have hrow : vp_in (x * 2 + y) 8 := hl_row h1 h2
  refine hl_ls (ls' := [(0, .ref (a 1)), (1, .int x), (2, .int y), (3, .int n), (4, .int q)]) rfl ?_
  refine hl_iload_n h 1 dX4_change_0 rfl ?_
  refine hl_iload_n h 2 dX4_change_1 rfl ?_
  refine hl_callSiD h (st := []) (c_X4_row l D cI cZ cJ a g x y) (va_cwS 2 h.2.2.2.2.1 gX4_change_X4_row rfl rfl rfl (by decide +kernel) ⟨Nat.le_of_ble_eq_true rfl, Nat.le_of_ble_eq_true rfl⟩) dX4_change_2 rfl (Nat.le_of_ble_eq_true rfl) ⟨Nat.le_of_ble_eq_true rfl, Nat.le_of_ble_eq_true rfl⟩ rfl ?_
  refine hl_istore h [(5, .int ((x * 2 + y))), (0, .ref (a 1)), (1, .int x), (2, .int y), (3, .int n), (4, .int q)] dX4_change_5 (by decide) rfl ?_
  refine hl_aload_n h 1 dX4_change_7 rfl ?_
  refine hl_get h hi4 hl_wc_1 rfl 0 rfl dX4_change_8 (by decide) (by decide +kernel) ?_
  refine hl_iload h 0 dX4_change_11 rfl ?_
  refine hl_ild h hl_wc_6 0 rfl dX4_change_13 (by with_reducible assumption) ?_
  refine hl_istore h [(6, .int (g 0 ((x * 2 + y)).toNatClampNeg)), (5, .int ((x * 2 + y))), (0, .ref (a 1)), (1, .int x), (2, .int y), (3, .int n), (4, .int q)] dX4_change_14 (by decide) rfl ?_
  refine hl_aload_n h 2 dX4_change_16 rfl ?_
  refine hl_get h hi4 hl_wc_1 rfl 0 rfl dX4_change_17 (by decide) (by decide +kernel) ?_
  refine hl_iload h 1 dX4_change_20 rfl ?_
  refine hl_iload_n h 5 dX4_change_22 rfl ?_
  refine hl_ist h hl_wc_6 0 rfl dX4_change_23 (by with_reducible assumption) hl_wc_t0 ?_
  refine hl_nmC (fun g4 e5 => ?_)
  refine hl_aload_n h 2 dX4_change_24 rfl ?_
  refine hl_get h hi4 hl_wc_1 rfl 1 rfl dX4_change_25 (by decide) (by decide +kernel) ?_
  refine hl_iload h 1 dX4_change_28 rfl ?_
  refine hl_iload h 6 dX4_change_30 rfl ?_
  refine hl_ist h hl_wc_7 0 rfl dX4_change_32 (by with_reducible assumption) hl_wc_t1 ?_
  refine hl_nmC (fun g6 e7 => ?_)
  refine hl_iload h 0 dX4_change_33 rfl ?_
  exact hend dX4_change_35 (fun h9 => nomatch h9) (by
    subst e7; subst e5
    exact ⟨by rfl, (congrArg (hl_WC a cI cZ) (by rfl))⟩)

set_option maxHeartbeats 4000000 in
set_option maxRecDepth 100000 in
theorem c_X4_addSleeper (l : Launch) (D : va_G) (cI cZ cJ : ClassId) (a : Nat → Nat) (g : Nat → Nat → Int32) (x y : Int32) (h1 : vp_in x 4) (h2 : vp_in y 2) : hl_KV D (hl_ty cI cZ cJ) l yX4_addSleeper wsX4_addSleeper ({ frames := 1, cells := 0, slots := 0, locals := 21 } : Room) 0 0 [.ref (a 1), .int x, .int y] (hl_WC a cI cZ g) (fun w => w = hl_WC a cI cZ (f_X4_addSleeper g x y)) := by
  refine hl_KV_of (cc := cX4_addSleeper) (maxL := 3) (by decide) rfl (Nat.le_of_ble_eq_true rfl) ?_
  intro p e s m args below meth c A Q h hnm hend
  have hi4 : ∀ z ∈ wsX40, z ∈ wsX4_addSleeper := by decide +kernel
  have hrow : vp_in (x * 2 + y) 8 := hl_row h1 h2
  refine hl_ls (ls' := [(0, .ref (a 1)), (1, .int x), (2, .int y)]) rfl ?_
  refine hl_aload_n h 0 dX4_addSleeper_0 rfl ?_
  refine hl_get h hi4 hl_wc_1 rfl 2 rfl dX4_addSleeper_1 (by decide) (by decide +kernel) ?_
  refine hl_iload_n h 1 dX4_addSleeper_4 rfl ?_
  refine hl_iload_n h 2 dX4_addSleeper_5 rfl ?_
  refine hl_callSiD h (st := [.ref (a 8)]) (c_X4_row l D cI cZ cJ a g x y) (va_cwS 2 h.2.2.2.2.1 gX4_addSleeper_X4_row rfl rfl rfl (by decide +kernel) ⟨Nat.le_of_ble_eq_true rfl, Nat.le_of_ble_eq_true rfl⟩) dX4_addSleeper_6 rfl (Nat.le_of_ble_eq_true rfl) ⟨Nat.le_of_ble_eq_true rfl, Nat.le_of_ble_eq_true rfl⟩ rfl ?_
  refine hl_dup2 h dX4_addSleeper_9 rfl rfl ?_
  refine hl_ild h hl_wc_8 0 rfl dX4_addSleeper_10 (by with_reducible assumption) ?_
  refine hl_iconst h 1 dX4_addSleeper_11 (by decide) ?_
  refine hl_iadd h dX4_addSleeper_12 ?_
  refine hl_ist h hl_wc_8 0 rfl dX4_addSleeper_13 (by with_reducible assumption) hl_wc_t2 ?_
  refine hl_nmC (fun g4 e5 => ?_)
  exact hend dX4_addSleeper_14 (by
    subst e5
    exact (congrArg (hl_WC a cI cZ) (by rfl)))

set_option maxHeartbeats 4000000 in
set_option maxRecDepth 100000 in
theorem c_X4_endNight (l : Launch) (D : va_G) (cI cZ cJ : ClassId) (a : Nat → Nat) (g : Nat → Nat → Int32) : hl_KV D (hl_ty cI cZ cJ) l yX4_endNight wsX4_endNight ({ frames := 0, cells := 0, slots := 0, locals := 0 } : Room) 0 0 [.ref (a 1)] (hl_WC a cI cZ g) (fun w => w = hl_WC a cI cZ (f_X4_endNight g)) := by
  refine hl_KV_of (cc := cX4_endNight) (maxL := 2) (by decide) rfl (Nat.le_of_ble_eq_true rfl) ?_
  intro p e s m args below meth c A Q h hnm hend
  have hi4 : ∀ z ∈ wsX40, z ∈ wsX4_endNight := by decide +kernel
  refine hl_ls (ls' := [(0, .ref (a 1))]) rfl ?_
  refine hl_iconst h 0 dX4_endNight_0 (by decide) ?_
  refine hl_istore_n h [(1, .int 0), (0, .ref (a 1))] dX4_endNight_1 (by decide) rfl ?_
  have lp2 : ∀ (n : Nat) (i : Nat) (z : Nat → Nat → Int32), (i + n = 8) → (hl_it (b_X4_endNight) i n z = f_X4_endNight g) →  hl_X p l e ({ frames := 0, cells := 0, slots := 0, locals := 0 } : Room) s m args below meth c 2 D A 0 0 Q (hl_WC a cI cZ z) 2 [(0, .ref (a 1)), (1, .int (nI i))] [] := by
    intro n
    induction n with
    | zero =>
      intro i z hi hv
      refine hl_iload_n h 1 dX4_endNight_2 rfl ?_
      refine hl_bipush h 8 dX4_endNight_3 (by decide) ?_
      refine hl_icmp_ge_T h 21 dX4_endNight_5 (by decide) (by rw [show i = 8 by omega]; decide) ?_
      exact hend dX4_endNight_21 (by
        exact congrArg (hl_WC a cI cZ) hv)
    | succ n ih =>
      intro i z hi hv
      refine hl_iload_n h 1 dX4_endNight_2 rfl ?_
      refine hl_bipush h 8 dX4_endNight_3 (by decide) ?_
      refine hl_icmp_ge_F h 21 dX4_endNight_5 (by decide) (nI_ge (b := 8) (by omega) (by decide)) ?_
      refine hl_aload_n h 0 dX4_endNight_8 rfl ?_
      refine hl_get h hi4 hl_wc_1 rfl 2 rfl dX4_endNight_9 (by decide) (by decide +kernel) ?_
      refine hl_iload_n h 1 dX4_endNight_12 rfl ?_
      refine hl_iconst h 0 dX4_endNight_13 (by decide) ?_
      refine hl_istN h hl_wc_8 0 rfl i dX4_endNight_14 rfl (by omega) (by decide) hl_wc_t2 ?_
      refine hl_nmC (fun g1 e2 => ?_)
      refine hl_iinc h 1 (nI (i + 1)) [(1, .int (nI (i + 1))), (0, .ref (a 1))] dX4_endNight_15 rfl (hl_inc i) (by decide) rfl ?_
      refine hl_goto h 2 dX4_endNight_18 (by decide) ?_
      refine hl_lsub [1, 0] rfl ?_
      exact ih (i + 1) _ (by omega) (by rw [← hv, hl_it_s] <;> (congr 1 <;> (subst e2; first | rfl | (simp [b_X4_endNight]; done))))
  refine hl_lsub [1, 0] rfl ?_
  exact lp2 8 0 g rfl rfl

set_option maxHeartbeats 4000000 in
set_option maxRecDepth 100000 in
theorem c_X2_addClean (l : Launch) (D : va_G) (cI cZ cJ : ClassId) (a : Nat → Nat) (g : Nat → Nat → Int32) (x n : Int32) (h1 : vp_in x 4) : hl_KI D (hl_ty cI cZ cJ) l yX2_addClean wsX2_addClean ({ frames := 0, cells := 0, slots := 0, locals := 0 } : Room) 0 0 [.ref (a 2), .int x, .int n] (hl_WC a cI cZ g) (fun r w => r = f_X2_addClean g x n 3 (x).toNatClampNeg ∧ w = hl_WC a cI cZ (f_X2_addClean g x n)) := by
  refine hl_KI_of (cc := cX2_addClean) (maxL := 3) .int rfl (fun _ => Or.inr rfl) (by decide) rfl (Nat.le_of_ble_eq_true rfl) ?_
  intro p e s m args below meth c A Q h hend
  have hi2 : ∀ z ∈ wsX20, z ∈ wsX2_addClean := by decide +kernel
  refine hl_ls (ls' := [(0, .ref (a 2)), (1, .int x), (2, .int n)]) rfl ?_
  refine hl_aload_n h 0 dX2_addClean_0 rfl ?_
  refine hl_get h hi2 hl_wc_2 rfl 0 rfl dX2_addClean_1 (by decide) (by decide +kernel) ?_
  refine hl_iload_n h 1 dX2_addClean_4 rfl ?_
  refine hl_dup2 h dX2_addClean_5 rfl rfl ?_
  refine hl_ild h hl_wc_9 0 rfl dX2_addClean_6 (by with_reducible assumption) ?_
  refine hl_iload_n h 2 dX2_addClean_7 rfl ?_
  refine hl_iadd h dX2_addClean_8 ?_
  refine hl_ist h hl_wc_9 0 rfl dX2_addClean_9 (by with_reducible assumption) hl_wc_t3 ?_
  refine hl_nmC (fun g1 e2 => ?_)
  refine hl_aload_n h 0 dX2_addClean_10 rfl ?_
  refine hl_get h hi2 hl_wc_2 rfl 0 rfl dX2_addClean_11 (by decide) (by decide +kernel) ?_
  refine hl_iload_n h 1 dX2_addClean_14 rfl ?_
  refine hl_ild h hl_wc_9 0 rfl dX2_addClean_15 (by with_reducible assumption) ?_
  exact hend dX2_addClean_16 (fun h9 => nomatch h9) (by
    subst e2
    exact ⟨by rfl, (congrArg (hl_WC a cI cZ) (by rfl))⟩)

set_option maxHeartbeats 4000000 in
set_option maxRecDepth 100000 in
theorem c_X2_changeBroken (l : Launch) (D : va_G) (cI cZ cJ : ClassId) (a : Nat → Nat) (g : Nat → Nat → Int32) (x : Int32) (h1 : x = 0 ∨ x = 1) (h2 : g 8 0 = 0 ∨ g 8 0 = 1) : hl_KI D (hl_ty cI cZ cJ) l yX2_changeBroken wsX2_changeBroken ({ frames := 0, cells := 0, slots := 0, locals := 0 } : Room) 0 0 [.ref (a 2), .int x] (hl_WC a cI cZ g) (fun r w => r = g 8 0 ∧ w = hl_WC a cI cZ (hl_su g 8 (fun _ => x))) := by
  refine hl_KI_of (cc := cX2_changeBroken) (maxL := 3) .boolean rfl (fun _ => Or.inl rfl) (by decide) rfl (Nat.le_of_ble_eq_true rfl) ?_
  intro p e s m args below meth c A Q h hend
  have hi2 : ∀ z ∈ wsX20, z ∈ wsX2_changeBroken := by decide +kernel
  refine hl_ls (ls' := [(0, .ref (a 2)), (1, .int x)]) rfl ?_
  refine hl_aload_n h 0 dX2_changeBroken_0 rfl ?_
  refine hl_get h hi2 hl_wc_2 rfl 5 rfl dX2_changeBroken_1 (by decide) (by decide +kernel) ?_
  refine hl_istore_n h [(2, .int (g 8 0)), (0, .ref (a 2)), (1, .int x)] dX2_changeBroken_4 (by decide) rfl ?_
  refine hl_aload_n h 1 dX2_changeBroken_5 rfl ?_
  refine hl_iload_n h 2 dX2_changeBroken_6 rfl ?_
  refine hl_put h hi2 tyX2_ok nmX2 hl_wc_2 rfl 5 dX2_changeBroken_7 (by decide) (by decide +kernel) (by decide) (by rcases h1 with rfl | rfl <;> rfl) (by rcases h1 with rfl | rfl <;> rfl) (Nat.le_of_ble_eq_true rfl) hl_wc_s8 ?_
  refine hl_nmC (fun g1 e2 => ?_)
  refine hl_iload_n h 0 dX2_changeBroken_10 rfl ?_
  exact hend dX2_changeBroken_11 (fun _ => h2) (by
    subst e2
    exact ⟨by rfl, (congrArg (hl_WC a cI cZ) (by rfl))⟩)

set_option maxHeartbeats 4000000 in
set_option maxRecDepth 100000 in
theorem c_X2_awayOf (l : Launch) (D : va_G) (cI cZ cJ : ClassId) (a : Nat → Nat) (g : Nat → Nat → Int32) (x : Int32) (h1 : vp_in x 4) : hl_KI D (hl_ty cI cZ cJ) l yX2_awayOf wsX2_awayOf ({ frames := 0, cells := 0, slots := 0, locals := 0 } : Room) 0 0 [.ref (a 2), .int x] (hl_WC a cI cZ g) (fun r w => r = r_X2_awayOf g x ∧ w = hl_WC a cI cZ g) := by
  refine hl_KI_of (cc := cX2_awayOf) (maxL := 2) .int rfl (fun _ => Or.inr rfl) (by decide) rfl (Nat.le_of_ble_eq_true rfl) ?_
  intro p e s m args below meth c A Q h hend
  have hi2 : ∀ z ∈ wsX20, z ∈ wsX2_awayOf := by decide +kernel
  refine hl_ls (ls' := [(0, .ref (a 2)), (1, .int x)]) rfl ?_
  refine hl_aload_n h 0 dX2_awayOf_0 rfl ?_
  refine hl_get h hi2 hl_wc_2 rfl 1 rfl dX2_awayOf_1 (by decide) (by decide +kernel) ?_
  refine hl_iload_n h 1 dX2_awayOf_4 rfl ?_
  refine hl_ild h hl_wc_10 0 rfl dX2_awayOf_5 (by with_reducible assumption) ?_
  refine hl_aload_n h 0 dX2_awayOf_6 rfl ?_
  refine hl_get h hi2 hl_wc_2 rfl 2 rfl dX2_awayOf_7 (by decide) (by decide +kernel) ?_
  refine hl_iload_n h 1 dX2_awayOf_10 rfl ?_
  refine hl_ild h hl_wc_11 0 rfl dX2_awayOf_11 (by with_reducible assumption) ?_
  refine hl_iadd h dX2_awayOf_12 ?_
  refine hl_aload_n h 0 dX2_awayOf_13 rfl ?_
  refine hl_get h hi2 hl_wc_2 rfl 3 rfl dX2_awayOf_14 (by decide) (by decide +kernel) ?_
  refine hl_iload_n h 1 dX2_awayOf_17 rfl ?_
  refine hl_ild h hl_wc_12 0 rfl dX2_awayOf_18 (by with_reducible assumption) ?_
  refine hl_iadd h dX2_awayOf_19 ?_
  refine hl_aload_n h 0 dX2_awayOf_20 rfl ?_
  refine hl_get h hi2 hl_wc_2 rfl 4 rfl dX2_awayOf_21 (by decide) (by decide +kernel) ?_
  refine hl_iload_n h 1 dX2_awayOf_24 rfl ?_
  refine hl_ild h hl_wc_13 0 rfl dX2_awayOf_25 (by with_reducible assumption) ?_
  refine hl_iadd h dX2_awayOf_26 ?_
  exact hend dX2_awayOf_27 (fun h9 => nomatch h9) (by
    exact ⟨by rfl, (congrArg (hl_WC a cI cZ) (by rfl))⟩)

set_option maxHeartbeats 4000000 in
set_option maxRecDepth 100000 in
theorem c_X2_giverFor (l : Launch) (D : va_G) (cI cZ cJ : ClassId) (a : Nat → Nat) (g : Nat → Nat → Int32) (x : Int32) (h1 : vp_in x 4) : hl_KI D (hl_ty cI cZ cJ) l yX2_giverFor wsX2_giverFor ({ frames := 0, cells := 0, slots := 0, locals := 0 } : Room) 0 0 [.ref (a 2), .int x] (hl_WC a cI cZ g) (fun r w => r = r_X2_giverFor g x ∧ w = hl_WC a cI cZ g) := by
  refine hl_KI_of (cc := cX2_giverFor) (maxL := 5) .int rfl (fun _ => Or.inr rfl) (by decide) rfl (Nat.le_of_ble_eq_true rfl) ?_
  intro p e s m args below meth c A Q h hend
  have hi2 : ∀ z ∈ wsX20, z ∈ wsX2_giverFor := by decide +kernel
  refine hl_ls (ls' := [(0, .ref (a 2)), (1, .int x)]) rfl ?_
  refine hl_aload_n h 0 dX2_giverFor_0 rfl ?_
  refine hl_get h hi2 hl_wc_2 rfl 0 rfl dX2_giverFor_1 (by decide) (by decide +kernel) ?_
  refine hl_iload_n h 1 dX2_giverFor_4 rfl ?_
  refine hl_ild h hl_wc_9 0 rfl dX2_giverFor_5 (by with_reducible assumption) ?_
  refine hl_if_le h 11 dX2_giverFor_6 (by decide) (fun c1 => ?_) (fun c1 => ?_)
  · refine hl_iconst h (-1) dX2_giverFor_11 (by decide) ?_
    refine hl_istore_n h [(2, .int (-1)), (0, .ref (a 2)), (1, .int x)] dX2_giverFor_12 (by decide) rfl ?_
    refine hl_iconst h 0 dX2_giverFor_13 (by decide) ?_
    refine hl_istore_n h [(3, .int 0), (2, .int (-1)), (0, .ref (a 2)), (1, .int x)] dX2_giverFor_14 (by decide) rfl ?_
    refine hl_iconst h 0 dX2_giverFor_15 (by decide) ?_
    refine hl_istore h [(4, .int 0), (3, .int 0), (2, .int (-1)), (0, .ref (a 2)), (1, .int x)] dX2_giverFor_16 (by decide) rfl ?_
    have lp18 : ∀ (n : Nat) (i : Nat) (u : Int32 × Int32), (i + n = 4) → ((hl_it (b_X2_giverFor g) i n u).1 = r_X2_giverFor g x) →  hl_X p l e ({ frames := 0, cells := 0, slots := 0, locals := 0 } : Room) s m args below meth c 5 D A 0 0 Q (hl_WC a cI cZ g) 18 [(0, .ref (a 2)), (1, .int x), (2, .int u.1), (3, .int u.2), (4, .int (nI i))] [] := by
      intro n
      induction n with
      | zero =>
        intro i u hi hv
        refine hl_iload h 4 dX2_giverFor_18 rfl ?_
        refine hl_iconst h 4 dX2_giverFor_20 (by decide) ?_
        refine hl_icmp_ge_T h 52 dX2_giverFor_21 (by decide) (by rw [show i = 4 by omega]; decide) ?_
        refine hl_iload_n h 2 dX2_giverFor_52 rfl ?_
        exact hend dX2_giverFor_53 (fun h9 => nomatch h9) (by
          exact ⟨by first | exact hv | (simp [r_X2_giverFor, c1]), rfl⟩)
      | succ n ih =>
        intro i u hi hv
        refine hl_iload h 4 dX2_giverFor_18 rfl ?_
        refine hl_iconst h 4 dX2_giverFor_20 (by decide) ?_
        refine hl_icmp_ge_F h 52 dX2_giverFor_21 (by decide) (nI_ge (b := 4) (by omega) (by decide)) ?_
        refine hl_aload_n h 0 dX2_giverFor_24 rfl ?_
        refine hl_get h hi2 hl_wc_2 rfl 0 rfl dX2_giverFor_25 (by decide) (by decide +kernel) ?_
        refine hl_iload h 4 dX2_giverFor_28 rfl ?_
        refine hl_ildN h hl_wc_9 0 rfl i dX2_giverFor_30 rfl (by omega) (by decide) ?_
        refine hl_iload_n h 3 dX2_giverFor_31 rfl ?_
        refine hl_icmp_le h 46 dX2_giverFor_32 (by decide) (fun c2 => ?_) (fun c2 => ?_)
        · refine hl_iinc h 4 (nI (i + 1)) [(4, .int (nI (i + 1))), (0, .ref (a 2)), (1, .int x), (2, .int u.1), (3, .int u.2)] dX2_giverFor_46 rfl (hl_inc i) (by decide) rfl ?_
          refine hl_goto h 18 dX2_giverFor_49 (by decide) ?_
          refine hl_lsub [1, 2, 3, 4, 0] rfl ?_
          exact ih (i + 1) (u.1, u.2) (by omega) (by rw [← hv, hl_it_s] <;> (congr 1 <;> (first | (simp [b_X2_giverFor, c2]; done) | (symm; simp [b_X2_giverFor, c2]))))
        · refine hl_iload h 4 dX2_giverFor_35 rfl ?_
          refine hl_istore_n h [(2, .int (nI i)), (0, .ref (a 2)), (1, .int x), (3, .int u.2), (4, .int (nI i))] dX2_giverFor_37 (by decide) rfl ?_
          refine hl_aload_n h 1 dX2_giverFor_38 rfl ?_
          refine hl_get h hi2 hl_wc_2 rfl 0 rfl dX2_giverFor_39 (by decide) (by decide +kernel) ?_
          refine hl_iload h 4 dX2_giverFor_42 rfl ?_
          refine hl_ildN h hl_wc_9 0 rfl i dX2_giverFor_44 rfl (by omega) (by decide) ?_
          refine hl_istore_n h [(3, .int (g 3 i)), (2, .int (nI i)), (0, .ref (a 2)), (1, .int x), (4, .int (nI i))] dX2_giverFor_45 (by decide) rfl ?_
          refine hl_iinc h 4 (nI (i + 1)) [(4, .int (nI (i + 1))), (3, .int (g 3 i)), (2, .int (nI i)), (0, .ref (a 2)), (1, .int x)] dX2_giverFor_46 rfl (hl_inc i) (by decide) rfl ?_
          refine hl_goto h 18 dX2_giverFor_49 (by decide) ?_
          refine hl_lsub [3, 4, 2, 1, 0] rfl ?_
          exact ih (i + 1) ((nI i), (g 3 i)) (by omega) (by rw [← hv, hl_it_s] <;> (congr 1 <;> (first | (simp [b_X2_giverFor, c2]; done) | (symm; simp [b_X2_giverFor, c2]))))
    refine hl_lsub [3, 4, 2, 1, 0] rfl ?_
    exact lp18 4 0 (-1, 0) rfl (by simp [r_X2_giverFor, c1])
  · refine hl_iload_n h 1 dX2_giverFor_9 rfl ?_
    exact hend dX2_giverFor_10 (fun h9 => nomatch h9) (by
      exact ⟨by first | exact hv | (simp [r_X2_giverFor, c1]), rfl⟩)

set_option maxHeartbeats 4000000 in
set_option maxRecDepth 100000 in
theorem c_X2_chargeForBorrowing (l : Launch) (D : va_G) (cI cZ cJ : ClassId) (a : Nat → Nat) (g : Nat → Nat → Int32) : hl_KI D (hl_ty cI cZ cJ) l yX2_chargeForBorrowing wsX2_chargeForBorrowing ({ frames := 0, cells := 0, slots := 0, locals := 0 } : Room) 0 0 [.ref (a 2)] (hl_WC a cI cZ g) (fun r w => r = 1 + g 9 0 ∧ w = hl_WC a cI cZ g) := by
  refine hl_KI_of (cc := cX2_chargeForBorrowing) (maxL := 1) .int rfl (fun _ => Or.inr rfl) (by decide) rfl (Nat.le_of_ble_eq_true rfl) ?_
  intro p e s m args below meth c A Q h hend
  have hi2 : ∀ z ∈ wsX20, z ∈ wsX2_chargeForBorrowing := by decide +kernel
  refine hl_ls (ls' := [(0, .ref (a 2))]) rfl ?_
  refine hl_iconst h 1 dX2_chargeForBorrowing_0 (by decide) ?_
  refine hl_aload_n h 0 dX2_chargeForBorrowing_1 rfl ?_
  refine hl_get h hi2 hl_wc_2 rfl 6 rfl dX2_chargeForBorrowing_2 (by decide) (by decide +kernel) ?_
  refine hl_iadd h dX2_chargeForBorrowing_5 ?_
  exact hend dX2_chargeForBorrowing_6 (fun h9 => nomatch h9) (by
    exact ⟨by rfl, (congrArg (hl_WC a cI cZ) (by rfl))⟩)

set_option maxHeartbeats 4000000 in
set_option maxRecDepth 100000 in
theorem c_X2_take (l : Launch) (D : va_G) (cI cZ cJ : ClassId) (a : Nat → Nat) (g : Nat → Nat → Int32) (x y : Int32) (h1 : vp_in x 4) (h2 : vp_in y 4) : hl_KV D (hl_ty cI cZ cJ) l yX2_take wsX2_take ({ frames := 0, cells := 0, slots := 0, locals := 0 } : Room) 0 0 [.ref (a 2), .int x, .int y] (hl_WC a cI cZ g) (fun w => w = hl_WC a cI cZ (f_X2_take g x y)) := by
  refine hl_KV_of (cc := cX2_take) (maxL := 3) (by decide) rfl (Nat.le_of_ble_eq_true rfl) ?_
  intro p e s m args below meth c A Q h hnm hend
  have hi2 : ∀ z ∈ wsX20, z ∈ wsX2_take := by decide +kernel
  refine hl_ls (ls' := [(0, .ref (a 2)), (1, .int x), (2, .int y)]) rfl ?_
  refine hl_aload_n h 0 dX2_take_0 rfl ?_
  refine hl_get h hi2 hl_wc_2 rfl 0 rfl dX2_take_1 (by decide) (by decide +kernel) ?_
  refine hl_iload_n h 2 dX2_take_4 rfl ?_
  refine hl_dup2 h dX2_take_5 rfl rfl ?_
  refine hl_ild h hl_wc_9 0 rfl dX2_take_6 (by with_reducible assumption) ?_
  refine hl_iconst h 1 dX2_take_7 (by decide) ?_
  refine hl_isub h dX2_take_8 ?_
  refine hl_ist h hl_wc_9 0 rfl dX2_take_9 (by with_reducible assumption) hl_wc_t3 ?_
  refine hl_nmC (fun g1 e2 => ?_)
  refine hl_aload_n h 0 dX2_take_10 rfl ?_
  refine hl_get h hi2 hl_wc_2 rfl 1 rfl dX2_take_11 (by decide) (by decide +kernel) ?_
  refine hl_iload_n h 1 dX2_take_14 rfl ?_
  refine hl_dup2 h dX2_take_15 rfl rfl ?_
  refine hl_ild h hl_wc_10 0 rfl dX2_take_16 (by with_reducible assumption) ?_
  refine hl_iconst h 1 dX2_take_17 (by decide) ?_
  refine hl_iadd h dX2_take_18 ?_
  refine hl_ist h hl_wc_10 0 rfl dX2_take_19 (by with_reducible assumption) hl_wc_t4 ?_
  refine hl_nmC (fun g3 e4 => ?_)
  refine hl_iload_n h 2 dX2_take_20 rfl ?_
  refine hl_iload_n h 1 dX2_take_21 rfl ?_
  refine hl_icmp_eq h 35 dX2_take_22 (by decide) (fun c5 => ?_) (fun c5 => ?_)
  · exact hend dX2_take_35 (by
      subst e4; subst e2
      exact (congrArg (hl_WC a cI cZ) (by first | rfl | (simp [f_X2_take, c5]; done) | (simp [f_X2_take, c5]))))
  · refine hl_aload_n h 0 dX2_take_25 rfl ?_
    refine hl_dup h dX2_take_26 rfl ?_
    refine hl_get h hi2 hl_wc_2 rfl 6 rfl dX2_take_27 (by decide) (by decide +kernel) ?_
    refine hl_iconst h 1 dX2_take_30 (by decide) ?_
    refine hl_iadd h dX2_take_31 ?_
    refine hl_put h hi2 tyX2_ok nmX2 hl_wc_2 rfl 6 dX2_take_32 (by decide) (by decide +kernel) (by decide) rfl rfl (Nat.le_of_ble_eq_true rfl) hl_wc_s9 ?_
    refine hl_nmC (fun g6 e7 => ?_)
    exact hend dX2_take_35 (by
      subst e7; subst e4; subst e2
      exact (congrArg (hl_WC a cI cZ) (by first | rfl | (simp [f_X2_take, c5]; done) | (simp [f_X2_take, c5]))))

set_option maxHeartbeats 4000000 in
set_option maxRecDepth 100000 in
theorem c_X2_endNight (l : Launch) (D : va_G) (cI cZ cJ : ClassId) (a : Nat → Nat) (g : Nat → Nat → Int32) : hl_KV D (hl_ty cI cZ cJ) l yX2_endNight wsX2_endNight ({ frames := 0, cells := 0, slots := 0, locals := 0 } : Room) 0 0 [.ref (a 2)] (hl_WC a cI cZ g) (fun w => w = hl_WC a cI cZ (f_X2_endNight g)) := by
  refine hl_KV_of (cc := cX2_endNight) (maxL := 2) (by decide) rfl (Nat.le_of_ble_eq_true rfl) ?_
  intro p e s m args below meth c A Q h hnm hend
  have hi2 : ∀ z ∈ wsX20, z ∈ wsX2_endNight := by decide +kernel
  refine hl_ls (ls' := [(0, .ref (a 2))]) rfl ?_
  refine hl_iconst h 0 dX2_endNight_0 (by decide) ?_
  refine hl_istore_n h [(1, .int 0), (0, .ref (a 2))] dX2_endNight_1 (by decide) rfl ?_
  have lp2 : ∀ (n : Nat) (i : Nat) (z : Nat → Nat → Int32), (i + n = 4) → (hl_it (b_X2_endNight) i n z = hl_it b_X2_endNight 0 4 g) →  hl_X p l e ({ frames := 0, cells := 0, slots := 0, locals := 0 } : Room) s m args below meth c 2 D A 0 0 Q (hl_WC a cI cZ z) 2 [(0, .ref (a 2)), (1, .int (nI i))] [] := by
    intro n
    induction n with
    | zero =>
      intro i z hi hv
      refine hl_iload_n h 1 dX2_endNight_2 rfl ?_
      refine hl_iconst h 4 dX2_endNight_3 (by decide) ?_
      refine hl_icmp_ge_T h 88 dX2_endNight_4 (by decide) (by rw [show i = 4 by omega]; decide) ?_
      refine hl_aload_n h 0 dX2_endNight_88 rfl ?_
      refine hl_iconst h 0 dX2_endNight_89 (by decide) ?_
      refine hl_put h hi2 tyX2_ok nmX2 hl_wc_2 rfl 6 dX2_endNight_90 (by decide) (by decide +kernel) (by decide) rfl rfl (Nat.le_of_ble_eq_true rfl) hl_wc_s9 ?_
      refine hl_nmC (fun g1 e2 => ?_)
      exact hend dX2_endNight_93 (by
        subst e2; exact congrArg (fun q => hl_WC a cI cZ (hl_su q 9 (fun _ => 0))) hv)
    | succ n ih =>
      intro i z hi hv
      refine hl_iload_n h 1 dX2_endNight_2 rfl ?_
      refine hl_iconst h 4 dX2_endNight_3 (by decide) ?_
      refine hl_icmp_ge_F h 88 dX2_endNight_4 (by decide) (nI_ge (b := 4) (by omega) (by decide)) ?_
      refine hl_aload_n h 0 dX2_endNight_7 rfl ?_
      refine hl_get h hi2 hl_wc_2 rfl 4 rfl dX2_endNight_8 (by decide) (by decide +kernel) ?_
      refine hl_iload_n h 1 dX2_endNight_11 rfl ?_
      refine hl_dup2 h dX2_endNight_12 rfl rfl ?_
      refine hl_ildN h hl_wc_13 0 rfl i dX2_endNight_13 rfl (by omega) (by decide) ?_
      refine hl_aload_n h 0 dX2_endNight_14 rfl ?_
      refine hl_get h hi2 hl_wc_2 rfl 3 rfl dX2_endNight_15 (by decide) (by decide +kernel) ?_
      refine hl_iload_n h 1 dX2_endNight_18 rfl ?_
      refine hl_ildN h hl_wc_12 0 rfl i dX2_endNight_19 rfl (by omega) (by decide) ?_
      refine hl_iadd h dX2_endNight_20 ?_
      refine hl_istN h hl_wc_13 0 rfl i dX2_endNight_21 rfl (by omega) (by decide) hl_wc_t7 ?_
      refine hl_nmC (fun g3 e4 => ?_)
      refine hl_aload_n h 0 dX2_endNight_22 rfl ?_
      refine hl_get h hi2 hl_wc_2 rfl 3 rfl dX2_endNight_23 (by decide) (by decide +kernel) ?_
      refine hl_iload_n h 1 dX2_endNight_26 rfl ?_
      refine hl_aload_n h 0 dX2_endNight_27 rfl ?_
      refine hl_get h hi2 hl_wc_2 rfl 2 rfl dX2_endNight_28 (by decide) (by decide +kernel) ?_
      refine hl_iload_n h 1 dX2_endNight_31 rfl ?_
      refine hl_ildN h hl_wc_11 0 rfl i dX2_endNight_32 rfl (by omega) (by decide) ?_
      refine hl_istN h hl_wc_12 0 rfl i dX2_endNight_33 rfl (by omega) (by decide) hl_wc_t6 ?_
      refine hl_nmC (fun g5 e6 => ?_)
      refine hl_aload_n h 0 dX2_endNight_34 rfl ?_
      refine hl_get h hi2 hl_wc_2 rfl 2 rfl dX2_endNight_35 (by decide) (by decide +kernel) ?_
      refine hl_iload_n h 1 dX2_endNight_38 rfl ?_
      refine hl_aload_n h 0 dX2_endNight_39 rfl ?_
      refine hl_get h hi2 hl_wc_2 rfl 1 rfl dX2_endNight_40 (by decide) (by decide +kernel) ?_
      refine hl_iload_n h 1 dX2_endNight_43 rfl ?_
      refine hl_ildN h hl_wc_10 0 rfl i dX2_endNight_44 rfl (by omega) (by decide) ?_
      refine hl_istN h hl_wc_11 0 rfl i dX2_endNight_45 rfl (by omega) (by decide) hl_wc_t5 ?_
      refine hl_nmC (fun g7 e8 => ?_)
      refine hl_aload_n h 0 dX2_endNight_46 rfl ?_
      refine hl_get h hi2 hl_wc_2 rfl 1 rfl dX2_endNight_47 (by decide) (by decide +kernel) ?_
      refine hl_iload_n h 1 dX2_endNight_50 rfl ?_
      refine hl_iconst h 0 dX2_endNight_51 (by decide) ?_
      refine hl_istN h hl_wc_10 0 rfl i dX2_endNight_52 rfl (by omega) (by decide) hl_wc_t4 ?_
      refine hl_nmC (fun g9 e10 => ?_)
      refine hl_aload_n h 0 dX2_endNight_53 rfl ?_
      refine hl_get h hi2 hl_wc_2 rfl 5 rfl dX2_endNight_54 (by decide) (by decide +kernel) ?_
      refine hl_if_ne h 82 dX2_endNight_57 (by decide) (fun c11 => ?_) (fun c11 => ?_)
      · refine hl_iinc h 1 (nI (i + 1)) [(1, .int (nI (i + 1))), (0, .ref (a 2))] dX2_endNight_82 rfl (hl_inc i) (by decide) rfl ?_
        refine hl_goto h 2 dX2_endNight_85 (by decide) ?_
        refine hl_lsub [1, 0] rfl ?_
        exact ih (i + 1) _ (by omega) (by rw [← hv, hl_it_s] <;> (congr 1 <;> (subst e10; subst e8; subst e6; subst e4; first | rfl | (simp [b_X2_endNight, c11]; done))))
      · refine hl_aload_n h 0 dX2_endNight_60 rfl ?_
        refine hl_get h hi2 hl_wc_2 rfl 0 rfl dX2_endNight_61 (by decide) (by decide +kernel) ?_
        refine hl_iload_n h 1 dX2_endNight_64 rfl ?_
        refine hl_dup2 h dX2_endNight_65 rfl rfl ?_
        refine hl_ildN h hl_wc_9 0 rfl i dX2_endNight_66 rfl (by omega) (by decide) ?_
        refine hl_aload_n h 0 dX2_endNight_67 rfl ?_
        refine hl_get h hi2 hl_wc_2 rfl 4 rfl dX2_endNight_68 (by decide) (by decide +kernel) ?_
        refine hl_iload_n h 1 dX2_endNight_71 rfl ?_
        refine hl_ildN h hl_wc_13 0 rfl i dX2_endNight_72 rfl (by omega) (by decide) ?_
        refine hl_iadd h dX2_endNight_73 ?_
        refine hl_istN h hl_wc_9 0 rfl i dX2_endNight_74 rfl (by omega) (by decide) hl_wc_t3 ?_
        refine hl_nmC (fun g12 e13 => ?_)
        refine hl_aload_n h 0 dX2_endNight_75 rfl ?_
        refine hl_get h hi2 hl_wc_2 rfl 4 rfl dX2_endNight_76 (by decide) (by decide +kernel) ?_
        refine hl_iload_n h 1 dX2_endNight_79 rfl ?_
        refine hl_iconst h 0 dX2_endNight_80 (by decide) ?_
        refine hl_istN h hl_wc_13 0 rfl i dX2_endNight_81 rfl (by omega) (by decide) hl_wc_t7 ?_
        refine hl_nmC (fun g14 e15 => ?_)
        refine hl_iinc h 1 (nI (i + 1)) [(1, .int (nI (i + 1))), (0, .ref (a 2))] dX2_endNight_82 rfl (hl_inc i) (by decide) rfl ?_
        refine hl_goto h 2 dX2_endNight_85 (by decide) ?_
        refine hl_lsub [1, 0] rfl ?_
        exact ih (i + 1) _ (by omega) (by rw [← hv, hl_it_s] <;> (congr 1 <;> (subst e15; subst e13; subst e10; subst e8; subst e6; subst e4; first | rfl | (simp [b_X2_endNight, c11]; done))))
  refine hl_lsub [1, 0] rfl ?_
  exact lp2 4 0 g rfl rfl

set_option maxHeartbeats 4000000 in
set_option maxRecDepth 100000 in
theorem c_X0_isFull (l : Launch) (D : va_G) (cI cZ cJ : ClassId) (a : Nat → Nat) (g : Nat → Nat → Int32) : hl_KI D (hl_ty cI cZ cJ) l yX0_isFull wsX0_isFull ({ frames := 0, cells := 0, slots := 0, locals := 0 } : Room) 0 0 [.ref (a 3)] (hl_WC a cI cZ g) (fun r w => r = (if g 16 0 < 80 then 0 else 1) ∧ w = hl_WC a cI cZ g) := by
  refine hl_KI_of (cc := cX0_isFull) (maxL := 1) .boolean rfl (fun _ => Or.inl rfl) (by decide) rfl (Nat.le_of_ble_eq_true rfl) ?_
  intro p e s m args below meth c A Q h hend
  have hi0 : ∀ z ∈ wsX00, z ∈ wsX0_isFull := by decide +kernel
  refine hl_ls (ls' := [(0, .ref (a 3))]) rfl ?_
  refine hl_aload_n h 0 dX0_isFull_0 rfl ?_
  refine hl_get h hi0 hl_wc_3 rfl 6 rfl dX0_isFull_1 (by decide) (by decide +kernel) ?_
  refine hl_bipush h 80 dX0_isFull_4 (by decide) ?_
  refine hl_icmp_lt h 13 dX0_isFull_6 (by decide) (fun c1 => ?_) (fun c1 => ?_)
  · refine hl_iconst h 0 dX0_isFull_13 (by decide) ?_
    exact hend dX0_isFull_14 (fun _ => by decide) (by
      exact ⟨by first | rfl | (simp [c1]; done) | (simp [c1]), (congrArg (hl_WC a cI cZ) (by first | rfl | (simp [c1]; done) | (simp [c1])))⟩)
  · refine hl_iconst h 1 dX0_isFull_9 (by decide) ?_
    refine hl_goto h 14 dX0_isFull_10 (by decide) ?_
    exact hend dX0_isFull_14 (fun _ => by decide) (by
      exact ⟨by first | rfl | (simp [c1]; done) | (simp [c1]), (congrArg (hl_WC a cI cZ) (by first | rfl | (simp [c1]; done) | (simp [c1])))⟩)

set_option maxHeartbeats 4000000 in
set_option maxRecDepth 100000 in
theorem c_X0_add (l : Launch) (D : va_G) (cI cZ cJ : ClassId) (a : Nat → Nat) (g : Nat → Nat → Int32) (x y z v : Int32) (h1 : vp_in (g 16 0) 80) : hl_KI D (hl_ty cI cZ cJ) l yX0_add wsX0_add ({ frames := 0, cells := 0, slots := 0, locals := 0 } : Room) 0 0 [.ref (a 3), .int x, .int y, .int z, .int v] (hl_WC a cI cZ g) (fun r w => r = g 16 0 ∧ w = hl_WC a cI cZ (f_X0_add g x y z v)) := by
  refine hl_KI_of (cc := cX0_add) (maxL := 6) .int rfl (fun _ => Or.inr rfl) (by decide) rfl (Nat.le_of_ble_eq_true rfl) ?_
  intro p e s m args below meth c A Q h hend
  have hi0 : ∀ z ∈ wsX00, z ∈ wsX0_add := by decide +kernel
  refine hl_ls (ls' := [(0, .ref (a 3)), (1, .int x), (2, .int y), (3, .int z), (4, .int v)]) rfl ?_
  refine hl_aload_n h 0 dX0_add_0 rfl ?_
  refine hl_get h hi0 hl_wc_3 rfl 6 rfl dX0_add_1 (by decide) (by decide +kernel) ?_
  refine hl_istore h [(5, .int (g 16 0)), (0, .ref (a 3)), (1, .int x), (2, .int y), (3, .int z), (4, .int v)] dX0_add_4 (by decide) rfl ?_
  refine hl_aload_n h 1 dX0_add_6 rfl ?_
  refine hl_get h hi0 hl_wc_3 rfl 0 rfl dX0_add_7 (by decide) (by decide +kernel) ?_
  refine hl_iload h 0 dX0_add_10 rfl ?_
  refine hl_iload_n h 2 dX0_add_12 rfl ?_
  refine hl_ist h hl_wc_14 0 rfl dX0_add_13 (by with_reducible assumption) hl_wc_t10 ?_
  refine hl_nmC (fun g1 e2 => ?_)
  refine hl_aload_n h 1 dX0_add_14 rfl ?_
  refine hl_get h hi0 hl_wc_3 rfl 1 rfl dX0_add_15 (by decide) (by decide +kernel) ?_
  refine hl_iload h 0 dX0_add_18 rfl ?_
  refine hl_iload_n h 3 dX0_add_20 rfl ?_
  refine hl_ist h hl_wc_15 0 rfl dX0_add_21 (by with_reducible assumption) hl_wc_t11 ?_
  refine hl_nmC (fun g3 e4 => ?_)
  refine hl_aload_n h 1 dX0_add_22 rfl ?_
  refine hl_get h hi0 hl_wc_3 rfl 2 rfl dX0_add_23 (by decide) (by decide +kernel) ?_
  refine hl_iload h 0 dX0_add_26 rfl ?_
  refine hl_iload_n h 4 dX0_add_28 rfl ?_
  refine hl_ist h hl_wc_16 0 rfl dX0_add_29 (by with_reducible assumption) hl_wc_t12 ?_
  refine hl_nmC (fun g5 e6 => ?_)
  refine hl_aload_n h 1 dX0_add_30 rfl ?_
  refine hl_get h hi0 hl_wc_3 rfl 3 rfl dX0_add_31 (by decide) (by decide +kernel) ?_
  refine hl_iload h 0 dX0_add_34 rfl ?_
  refine hl_iload h 5 dX0_add_36 rfl ?_
  refine hl_ist h hl_wc_17 0 rfl dX0_add_38 (by with_reducible assumption) hl_wc_t13 ?_
  refine hl_nmC (fun g7 e8 => ?_)
  refine hl_aload_n h 1 dX0_add_39 rfl ?_
  refine hl_get h hi0 hl_wc_3 rfl 5 rfl dX0_add_40 (by decide) (by decide +kernel) ?_
  refine hl_iload h 0 dX0_add_43 rfl ?_
  refine hl_iconst h (-1) dX0_add_45 (by decide) ?_
  refine hl_ist h hl_wc_19 0 rfl dX0_add_46 (by with_reducible assumption) hl_wc_t15 ?_
  refine hl_nmC (fun g9 e10 => ?_)
  refine hl_aload_n h 1 dX0_add_47 rfl ?_
  refine hl_dup h dX0_add_48 rfl ?_
  refine hl_get h hi0 hl_wc_3 rfl 6 rfl dX0_add_49 (by decide) (by decide +kernel) ?_
  refine hl_iconst h 1 dX0_add_52 (by decide) ?_
  refine hl_iadd h dX0_add_53 ?_
  refine hl_put h hi0 tyX0_ok nmX0 hl_wc_3 rfl 6 dX0_add_54 (by decide) (by decide +kernel) (by decide) rfl rfl (Nat.le_of_ble_eq_true rfl) hl_wc_s16 ?_
  refine hl_nmC (fun g11 e12 => ?_)
  refine hl_iload h 0 dX0_add_57 rfl ?_
  exact hend dX0_add_59 (fun h9 => nomatch h9) (by
    subst e12; subst e10; subst e8; subst e6; subst e4; subst e2
    exact ⟨by rfl, (congrArg (hl_WC a cI cZ) (by rfl))⟩)

set_option maxHeartbeats 4000000 in
set_option maxRecDepth 100000 in
theorem c_X0_arrive (l : Launch) (D : va_G) (cI cZ cJ : ClassId) (a : Nat → Nat) (g : Nat → Nat → Int32) (x y : Int32) (h1 : vp_in x 80) : hl_KV D (hl_ty cI cZ cJ) l yX0_arrive wsX0_arrive ({ frames := 0, cells := 0, slots := 0, locals := 0 } : Room) 0 0 [.ref (a 3), .int x, .int y] (hl_WC a cI cZ g) (fun w => w = hl_WC a cI cZ (f_X0_arrive g x y)) := by
  refine hl_KV_of (cc := cX0_arrive) (maxL := 3) (by decide) rfl (Nat.le_of_ble_eq_true rfl) ?_
  intro p e s m args below meth c A Q h hnm hend
  have hi0 : ∀ z ∈ wsX00, z ∈ wsX0_arrive := by decide +kernel
  refine hl_ls (ls' := [(0, .ref (a 3)), (1, .int x), (2, .int y)]) rfl ?_
  refine hl_aload_n h 0 dX0_arrive_0 rfl ?_
  refine hl_get h hi0 hl_wc_3 rfl 4 rfl dX0_arrive_1 (by decide) (by decide +kernel) ?_
  refine hl_iload_n h 1 dX0_arrive_4 rfl ?_
  refine hl_iconst h 1 dX0_arrive_5 (by decide) ?_
  refine hl_zst h hl_wc_18 1 rfl dX0_arrive_6 (by with_reducible assumption) hl_wc_t14 ?_
  refine hl_nmC (fun g1 e2 => ?_)
  refine hl_aload_n h 0 dX0_arrive_7 rfl ?_
  refine hl_get h hi0 hl_wc_3 rfl 5 rfl dX0_arrive_8 (by decide) (by decide +kernel) ?_
  refine hl_iload_n h 1 dX0_arrive_11 rfl ?_
  refine hl_iload_n h 2 dX0_arrive_12 rfl ?_
  refine hl_ist h hl_wc_19 0 rfl dX0_arrive_13 (by with_reducible assumption) hl_wc_t15 ?_
  refine hl_nmC (fun g3 e4 => ?_)
  exact hend dX0_arrive_14 (by
    subst e4; subst e2
    exact (congrArg (hl_WC a cI cZ) (by rfl)))

set_option maxHeartbeats 4000000 in
set_option maxRecDepth 100000 in
theorem c_X0_countFor (l : Launch) (D : va_G) (cI cZ cJ : ClassId) (a : Nat → Nat) (g : Nat → Nat → Int32) (x y z : Int32) (N : Nat) (hN : N ≤ 80) (hc : g 16 0 = nI N) : hl_KI D (hl_ty cI cZ cJ) l yX0_countFor wsX0_countFor ({ frames := 0, cells := 0, slots := 0, locals := 0 } : Room) 0 0 [.ref (a 3), .int x, .int y, .int z] (hl_WC a cI cZ g) (fun r w => r = hl_it (b_X0_countFor g x y z) 0 N 0 ∧ w = hl_WC a cI cZ g) := by
  refine hl_KI_of (cc := cX0_countFor) (maxL := 6) .int rfl (fun _ => Or.inr rfl) (by decide) rfl (Nat.le_of_ble_eq_true rfl) ?_
  intro p e s m args below meth c A Q h hend
  have hi0 : ∀ z ∈ wsX00, z ∈ wsX0_countFor := by decide +kernel
  refine hl_ls (ls' := [(0, .ref (a 3)), (1, .int x), (2, .int y), (3, .int z)]) rfl ?_
  refine hl_iconst h 0 dX0_countFor_0 (by decide) ?_
  refine hl_istore h [(4, .int 0), (0, .ref (a 3)), (1, .int x), (2, .int y), (3, .int z)] dX0_countFor_1 (by decide) rfl ?_
  refine hl_iconst h 0 dX0_countFor_3 (by decide) ?_
  refine hl_istore h [(5, .int 0), (4, .int 0), (0, .ref (a 3)), (1, .int x), (2, .int y), (3, .int z)] dX0_countFor_4 (by decide) rfl ?_
  have lp6 : ∀ (n : Nat) (i : Nat) (u : Int32), (i + n = N) → (hl_it (b_X0_countFor g x y z) i n u = hl_it (b_X0_countFor g x y z) 0 N 0) →  hl_X p l e ({ frames := 0, cells := 0, slots := 0, locals := 0 } : Room) s m args below meth c 6 D A 0 0 Q (hl_WC a cI cZ g) 6 [(0, .ref (a 3)), (1, .int x), (2, .int y), (3, .int z), (4, .int u), (5, .int (nI i))] [] := by
    intro n
    induction n with
    | zero =>
      intro i u hi hv
      refine hl_iload h 5 dX0_countFor_6 rfl ?_
      refine hl_aload_n h 0 dX0_countFor_8 rfl ?_
      refine hl_get h hi0 hl_wc_3 rfl 6 rfl dX0_countFor_9 (by decide) (by decide +kernel) ?_
      refine hl_icmp_ge_T h 57 dX0_countFor_12 (by decide) (by rw [hc]; exact nI_le (by omega) (by omega)) ?_
      refine hl_iload h 4 dX0_countFor_57 rfl ?_
      exact hend dX0_countFor_59 (fun h9 => nomatch h9) (by
        exact ⟨hv, rfl⟩)
    | succ n ih =>
      intro i u hi hv
      refine hl_iload h 5 dX0_countFor_6 rfl ?_
      refine hl_aload_n h 0 dX0_countFor_8 rfl ?_
      refine hl_get h hi0 hl_wc_3 rfl 6 rfl dX0_countFor_9 (by decide) (by decide +kernel) ?_
      refine hl_icmp_ge_F h 57 dX0_countFor_12 (by decide) (by rw [hc]; exact nI_ge (by omega) (by omega)) ?_
      refine hl_aload_n h 0 dX0_countFor_15 rfl ?_
      refine hl_get h hi0 hl_wc_3 rfl 1 rfl dX0_countFor_16 (by decide) (by decide +kernel) ?_
      refine hl_iload h 5 dX0_countFor_19 rfl ?_
      refine hl_ildN h hl_wc_15 0 rfl i dX0_countFor_21 rfl (by omega) (by decide) ?_
      refine hl_iload_n h 1 dX0_countFor_22 rfl ?_
      refine hl_icmp_ne h 51 dX0_countFor_23 (by decide) (fun c1 => ?_) (fun c1 => ?_)
      · refine hl_iinc h 5 (nI (i + 1)) [(5, .int (nI (i + 1))), (0, .ref (a 3)), (1, .int x), (2, .int y), (3, .int z), (4, .int u)] dX0_countFor_51 rfl (hl_inc i) (by decide) rfl ?_
        refine hl_goto h 6 dX0_countFor_54 (by decide) ?_
        refine hl_lsub [1, 2, 3, 4, 5, 0] rfl ?_
        exact ih (i + 1) u (by omega) (by rw [← hv, hl_it_s] <;> (congr 1 <;> (first | (simp [b_X0_countFor, c1]; done) | (symm; simp [b_X0_countFor, c1]))))
      · refine hl_aload_n h 0 dX0_countFor_26 rfl ?_
        refine hl_get h hi0 hl_wc_3 rfl 2 rfl dX0_countFor_27 (by decide) (by decide +kernel) ?_
        refine hl_iload h 5 dX0_countFor_30 rfl ?_
        refine hl_ildN h hl_wc_16 0 rfl i dX0_countFor_32 rfl (by omega) (by decide) ?_
        refine hl_iload_n h 2 dX0_countFor_33 rfl ?_
        refine hl_icmp_ne h 51 dX0_countFor_34 (by decide) (fun c2 => ?_) (fun c2 => ?_)
        · refine hl_iinc h 5 (nI (i + 1)) [(5, .int (nI (i + 1))), (0, .ref (a 3)), (1, .int x), (2, .int y), (3, .int z), (4, .int u)] dX0_countFor_51 rfl (hl_inc i) (by decide) rfl ?_
          refine hl_goto h 6 dX0_countFor_54 (by decide) ?_
          refine hl_lsub [1, 2, 3, 4, 5, 0] rfl ?_
          exact ih (i + 1) u (by omega) (by rw [← hv, hl_it_s] <;> (congr 1 <;> (first | (simp [b_X0_countFor, c1, c2]; done) | (symm; simp [b_X0_countFor, c1, c2]))))
        · refine hl_aload_n h 0 dX0_countFor_37 rfl ?_
          refine hl_get h hi0 hl_wc_3 rfl 3 rfl dX0_countFor_38 (by decide) (by decide +kernel) ?_
          refine hl_iload h 5 dX0_countFor_41 rfl ?_
          refine hl_ildN h hl_wc_17 0 rfl i dX0_countFor_43 rfl (by omega) (by decide) ?_
          refine hl_iload_n h 3 dX0_countFor_44 rfl ?_
          refine hl_icmp_ne h 51 dX0_countFor_45 (by decide) (fun c3 => ?_) (fun c3 => ?_)
          · refine hl_iinc h 5 (nI (i + 1)) [(5, .int (nI (i + 1))), (0, .ref (a 3)), (1, .int x), (2, .int y), (3, .int z), (4, .int u)] dX0_countFor_51 rfl (hl_inc i) (by decide) rfl ?_
            refine hl_goto h 6 dX0_countFor_54 (by decide) ?_
            refine hl_lsub [1, 2, 3, 4, 5, 0] rfl ?_
            exact ih (i + 1) u (by omega) (by rw [← hv, hl_it_s] <;> (congr 1 <;> (first | (simp [b_X0_countFor, c1, c2, c3]; done) | (symm; simp [b_X0_countFor, c1, c2, c3]))))
          · refine hl_iinc h 4 (u + 1) [(4, .int (u + 1)), (0, .ref (a 3)), (1, .int x), (2, .int y), (3, .int z), (5, .int (nI i))] dX0_countFor_48 rfl rfl (by decide) rfl ?_
            refine hl_iinc h 5 (nI (i + 1)) [(5, .int (nI (i + 1))), (4, .int (u + 1)), (0, .ref (a 3)), (1, .int x), (2, .int y), (3, .int z)] dX0_countFor_51 rfl (hl_inc i) (by decide) rfl ?_
            refine hl_goto h 6 dX0_countFor_54 (by decide) ?_
            refine hl_lsub [2, 3, 4, 5, 1, 0] rfl ?_
            exact ih (i + 1) (u + 1) (by omega) (by rw [← hv, hl_it_s] <;> (congr 1 <;> (first | (simp [b_X0_countFor, c1, c2, c3]; done) | (symm; simp [b_X0_countFor, c1, c2, c3]))))
  refine hl_lsub [2, 3, 4, 5, 1, 0] rfl ?_
  exact lp6 N 0 0 (Nat.zero_add N) rfl

set_option maxHeartbeats 4000000 in
set_option maxRecDepth 100000 in
theorem c_X0_missedIn (l : Launch) (D : va_G) (cI cZ cJ : ClassId) (a : Nat → Nat) (g : Nat → Nat → Int32) (x : Int32) (N : Nat) (hN : N ≤ 80) (hc : g 16 0 = nI N) : hl_KI D (hl_ty cI cZ cJ) l yX0_missedIn wsX0_missedIn ({ frames := 0, cells := 0, slots := 0, locals := 0 } : Room) 0 0 [.ref (a 3), .int x] (hl_WC a cI cZ g) (fun r w => r = hl_it (b_X0_missedIn g x) 0 N 0 ∧ w = hl_WC a cI cZ g) := by
  refine hl_KI_of (cc := cX0_missedIn) (maxL := 4) .int rfl (fun _ => Or.inr rfl) (by decide) rfl (Nat.le_of_ble_eq_true rfl) ?_
  intro p e s m args below meth c A Q h hend
  have hi0 : ∀ z ∈ wsX00, z ∈ wsX0_missedIn := by decide +kernel
  refine hl_ls (ls' := [(0, .ref (a 3)), (1, .int x)]) rfl ?_
  refine hl_iconst h 0 dX0_missedIn_0 (by decide) ?_
  refine hl_istore_n h [(2, .int 0), (0, .ref (a 3)), (1, .int x)] dX0_missedIn_1 (by decide) rfl ?_
  refine hl_iconst h 0 dX0_missedIn_2 (by decide) ?_
  refine hl_istore_n h [(3, .int 0), (2, .int 0), (0, .ref (a 3)), (1, .int x)] dX0_missedIn_3 (by decide) rfl ?_
  have lp4 : ∀ (n : Nat) (i : Nat) (u : Int32), (i + n = N) → (hl_it (b_X0_missedIn g x) i n u = hl_it (b_X0_missedIn g x) 0 N 0) →  hl_X p l e ({ frames := 0, cells := 0, slots := 0, locals := 0 } : Room) s m args below meth c 4 D A 0 0 Q (hl_WC a cI cZ g) 4 [(0, .ref (a 3)), (1, .int x), (2, .int u), (3, .int (nI i))] [] := by
    intro n
    induction n with
    | zero =>
      intro i u hi hv
      refine hl_iload_n h 3 dX0_missedIn_4 rfl ?_
      refine hl_aload_n h 0 dX0_missedIn_5 rfl ?_
      refine hl_get h hi0 hl_wc_3 rfl 6 rfl dX0_missedIn_6 (by decide) (by decide +kernel) ?_
      refine hl_icmp_ge_T h 40 dX0_missedIn_9 (by decide) (by rw [hc]; exact nI_le (by omega) (by omega)) ?_
      refine hl_iload_n h 2 dX0_missedIn_40 rfl ?_
      exact hend dX0_missedIn_41 (fun h9 => nomatch h9) (by
        exact ⟨hv, rfl⟩)
    | succ n ih =>
      intro i u hi hv
      refine hl_iload_n h 3 dX0_missedIn_4 rfl ?_
      refine hl_aload_n h 0 dX0_missedIn_5 rfl ?_
      refine hl_get h hi0 hl_wc_3 rfl 6 rfl dX0_missedIn_6 (by decide) (by decide +kernel) ?_
      refine hl_icmp_ge_F h 40 dX0_missedIn_9 (by decide) (by rw [hc]; exact nI_ge (by omega) (by omega)) ?_
      refine hl_aload_n h 0 dX0_missedIn_12 rfl ?_
      refine hl_get h hi0 hl_wc_3 rfl 3 rfl dX0_missedIn_13 (by decide) (by decide +kernel) ?_
      refine hl_iload_n h 3 dX0_missedIn_16 rfl ?_
      refine hl_ildN h hl_wc_17 0 rfl i dX0_missedIn_17 rfl (by omega) (by decide) ?_
      refine hl_iload_n h 1 dX0_missedIn_18 rfl ?_
      refine hl_icmp_ne h 34 dX0_missedIn_19 (by decide) (fun c1 => ?_) (fun c1 => ?_)
      · refine hl_iinc h 3 (nI (i + 1)) [(3, .int (nI (i + 1))), (0, .ref (a 3)), (1, .int x), (2, .int u)] dX0_missedIn_34 rfl (hl_inc i) (by decide) rfl ?_
        refine hl_goto h 4 dX0_missedIn_37 (by decide) ?_
        refine hl_lsub [1, 2, 3, 0] rfl ?_
        exact ih (i + 1) u (by omega) (by rw [← hv, hl_it_s] <;> (congr 1 <;> (first | (simp [b_X0_missedIn, c1]; done) | (symm; simp [b_X0_missedIn, c1]))))
      · refine hl_aload_n h 0 dX0_missedIn_22 rfl ?_
        refine hl_get h hi0 hl_wc_3 rfl 4 rfl dX0_missedIn_23 (by decide) (by decide +kernel) ?_
        refine hl_iload_n h 3 dX0_missedIn_26 rfl ?_
        refine hl_zldN h hl_wc_18 1 rfl i dX0_missedIn_27 rfl (by omega) (by decide) ?_
        refine hl_if_ne h 34 dX0_missedIn_28 (by decide) (fun c2 => ?_) (fun c2 => ?_)
        · refine hl_iinc h 3 (nI (i + 1)) [(3, .int (nI (i + 1))), (0, .ref (a 3)), (1, .int x), (2, .int u)] dX0_missedIn_34 rfl (hl_inc i) (by decide) rfl ?_
          refine hl_goto h 4 dX0_missedIn_37 (by decide) ?_
          refine hl_lsub [1, 2, 3, 0] rfl ?_
          exact ih (i + 1) u (by omega) (by rw [← hv, hl_it_s] <;> (congr 1 <;> (first | (simp [b_X0_missedIn, c1, c2]; done) | (symm; simp [b_X0_missedIn, c1, c2]))))
        · refine hl_iinc h 2 (u + 1) [(2, .int (u + 1)), (0, .ref (a 3)), (1, .int x), (3, .int (nI i))] dX0_missedIn_31 rfl rfl (by decide) rfl ?_
          refine hl_iinc h 3 (nI (i + 1)) [(3, .int (nI (i + 1))), (2, .int (u + 1)), (0, .ref (a 3)), (1, .int x)] dX0_missedIn_34 rfl (hl_inc i) (by decide) rfl ?_
          refine hl_goto h 4 dX0_missedIn_37 (by decide) ?_
          refine hl_lsub [2, 3, 1, 0] rfl ?_
          exact ih (i + 1) (u + 1) (by omega) (by rw [← hv, hl_it_s] <;> (congr 1 <;> (first | (simp [b_X0_missedIn, c1, c2]; done) | (symm; simp [b_X0_missedIn, c1, c2]))))
  refine hl_lsub [2, 3, 1, 0] rfl ?_
  exact lp4 N 0 0 (Nat.zero_add N) rfl

set_option maxHeartbeats 4000000 in
set_option maxRecDepth 100000 in
theorem c_X0_missedAt (l : Launch) (D : va_G) (cI cZ cJ : ClassId) (a : Nat → Nat) (g : Nat → Nat → Int32) (x y z : Int32) (N : Nat) (hN : N ≤ 80) (hc : g 16 0 = nI N) : hl_KI D (hl_ty cI cZ cJ) l yX0_missedAt wsX0_missedAt ({ frames := 0, cells := 0, slots := 0, locals := 0 } : Room) 0 0 [.ref (a 3), .int x, .int y, .int z] (hl_WC a cI cZ g) (fun r w => r = hl_it (b_X0_missedAt g x y z) 0 N 0 ∧ w = hl_WC a cI cZ g) := by
  refine hl_KI_of (cc := cX0_missedAt) (maxL := 6) .int rfl (fun _ => Or.inr rfl) (by decide) rfl (Nat.le_of_ble_eq_true rfl) ?_
  intro p e s m args below meth c A Q h hend
  have hi0 : ∀ z ∈ wsX00, z ∈ wsX0_missedAt := by decide +kernel
  refine hl_ls (ls' := [(0, .ref (a 3)), (1, .int x), (2, .int y), (3, .int z)]) rfl ?_
  refine hl_iconst h 0 dX0_missedAt_0 (by decide) ?_
  refine hl_istore h [(4, .int 0), (0, .ref (a 3)), (1, .int x), (2, .int y), (3, .int z)] dX0_missedAt_1 (by decide) rfl ?_
  refine hl_iconst h 0 dX0_missedAt_3 (by decide) ?_
  refine hl_istore h [(5, .int 0), (4, .int 0), (0, .ref (a 3)), (1, .int x), (2, .int y), (3, .int z)] dX0_missedAt_4 (by decide) rfl ?_
  have lp6 : ∀ (n : Nat) (i : Nat) (u : Int32), (i + n = N) → (hl_it (b_X0_missedAt g x y z) i n u = hl_it (b_X0_missedAt g x y z) 0 N 0) →  hl_X p l e ({ frames := 0, cells := 0, slots := 0, locals := 0 } : Room) s m args below meth c 6 D A 0 0 Q (hl_WC a cI cZ g) 6 [(0, .ref (a 3)), (1, .int x), (2, .int y), (3, .int z), (4, .int u), (5, .int (nI i))] [] := by
    intro n
    induction n with
    | zero =>
      intro i u hi hv
      refine hl_iload h 5 dX0_missedAt_6 rfl ?_
      refine hl_aload_n h 0 dX0_missedAt_8 rfl ?_
      refine hl_get h hi0 hl_wc_3 rfl 6 rfl dX0_missedAt_9 (by decide) (by decide +kernel) ?_
      refine hl_icmp_ge_T h 67 dX0_missedAt_12 (by decide) (by rw [hc]; exact nI_le (by omega) (by omega)) ?_
      refine hl_iload h 4 dX0_missedAt_67 rfl ?_
      exact hend dX0_missedAt_69 (fun h9 => nomatch h9) (by
        exact ⟨hv, rfl⟩)
    | succ n ih =>
      intro i u hi hv
      refine hl_iload h 5 dX0_missedAt_6 rfl ?_
      refine hl_aload_n h 0 dX0_missedAt_8 rfl ?_
      refine hl_get h hi0 hl_wc_3 rfl 6 rfl dX0_missedAt_9 (by decide) (by decide +kernel) ?_
      refine hl_icmp_ge_F h 67 dX0_missedAt_12 (by decide) (by rw [hc]; exact nI_ge (by omega) (by omega)) ?_
      refine hl_aload_n h 0 dX0_missedAt_15 rfl ?_
      refine hl_get h hi0 hl_wc_3 rfl 1 rfl dX0_missedAt_16 (by decide) (by decide +kernel) ?_
      refine hl_iload h 5 dX0_missedAt_19 rfl ?_
      refine hl_ildN h hl_wc_15 0 rfl i dX0_missedAt_21 rfl (by omega) (by decide) ?_
      refine hl_iload_n h 1 dX0_missedAt_22 rfl ?_
      refine hl_icmp_ne h 61 dX0_missedAt_23 (by decide) (fun c1 => ?_) (fun c1 => ?_)
      · refine hl_iinc h 5 (nI (i + 1)) [(5, .int (nI (i + 1))), (0, .ref (a 3)), (1, .int x), (2, .int y), (3, .int z), (4, .int u)] dX0_missedAt_61 rfl (hl_inc i) (by decide) rfl ?_
        refine hl_goto h 6 dX0_missedAt_64 (by decide) ?_
        refine hl_lsub [1, 2, 3, 4, 5, 0] rfl ?_
        exact ih (i + 1) u (by omega) (by rw [← hv, hl_it_s] <;> (congr 1 <;> (first | (simp [b_X0_missedAt, c1]; done) | (symm; simp [b_X0_missedAt, c1]))))
      · refine hl_aload_n h 0 dX0_missedAt_26 rfl ?_
        refine hl_get h hi0 hl_wc_3 rfl 3 rfl dX0_missedAt_27 (by decide) (by decide +kernel) ?_
        refine hl_iload h 5 dX0_missedAt_30 rfl ?_
        refine hl_ildN h hl_wc_17 0 rfl i dX0_missedAt_32 rfl (by omega) (by decide) ?_
        refine hl_iload_n h 2 dX0_missedAt_33 rfl ?_
        refine hl_icmp_lt h 61 dX0_missedAt_34 (by decide) (fun c2 => ?_) (fun c2 => ?_)
        · refine hl_iinc h 5 (nI (i + 1)) [(5, .int (nI (i + 1))), (0, .ref (a 3)), (1, .int x), (2, .int y), (3, .int z), (4, .int u)] dX0_missedAt_61 rfl (hl_inc i) (by decide) rfl ?_
          refine hl_goto h 6 dX0_missedAt_64 (by decide) ?_
          refine hl_lsub [1, 2, 3, 4, 5, 0] rfl ?_
          exact ih (i + 1) u (by omega) (by rw [← hv, hl_it_s] <;> (congr 1 <;> (first | (simp [b_X0_missedAt, c1, c2]; done) | (symm; simp [b_X0_missedAt, c1, c2]))))
        · refine hl_aload_n h 0 dX0_missedAt_37 rfl ?_
          refine hl_get h hi0 hl_wc_3 rfl 3 rfl dX0_missedAt_38 (by decide) (by decide +kernel) ?_
          refine hl_iload h 5 dX0_missedAt_41 rfl ?_
          refine hl_ildN h hl_wc_17 0 rfl i dX0_missedAt_43 rfl (by omega) (by decide) ?_
          refine hl_iload_n h 3 dX0_missedAt_44 rfl ?_
          refine hl_icmp_ge h 61 dX0_missedAt_45 (by decide) (fun c3 => ?_) (fun c3 => ?_)
          · refine hl_iinc h 5 (nI (i + 1)) [(5, .int (nI (i + 1))), (0, .ref (a 3)), (1, .int x), (2, .int y), (3, .int z), (4, .int u)] dX0_missedAt_61 rfl (hl_inc i) (by decide) rfl ?_
            refine hl_goto h 6 dX0_missedAt_64 (by decide) ?_
            refine hl_lsub [1, 2, 3, 4, 5, 0] rfl ?_
            exact ih (i + 1) u (by omega) (by rw [← hv, hl_it_s] <;> (congr 1 <;> (first | (simp [b_X0_missedAt, c1, c2, c3]; done) | (symm; simp [b_X0_missedAt, c1, c2, c3]))))
          · refine hl_aload_n h 0 dX0_missedAt_48 rfl ?_
            refine hl_get h hi0 hl_wc_3 rfl 4 rfl dX0_missedAt_49 (by decide) (by decide +kernel) ?_
            refine hl_iload h 5 dX0_missedAt_52 rfl ?_
            refine hl_zldN h hl_wc_18 1 rfl i dX0_missedAt_54 rfl (by omega) (by decide) ?_
            refine hl_if_ne h 61 dX0_missedAt_55 (by decide) (fun c4 => ?_) (fun c4 => ?_)
            · refine hl_iinc h 5 (nI (i + 1)) [(5, .int (nI (i + 1))), (0, .ref (a 3)), (1, .int x), (2, .int y), (3, .int z), (4, .int u)] dX0_missedAt_61 rfl (hl_inc i) (by decide) rfl ?_
              refine hl_goto h 6 dX0_missedAt_64 (by decide) ?_
              refine hl_lsub [1, 2, 3, 4, 5, 0] rfl ?_
              exact ih (i + 1) u (by omega) (by rw [← hv, hl_it_s] <;> (congr 1 <;> (first | (simp [b_X0_missedAt, c1, c2, c3, c4]; done) | (symm; simp [b_X0_missedAt, c1, c2, c3, c4]))))
            · refine hl_iinc h 4 (u + 1) [(4, .int (u + 1)), (0, .ref (a 3)), (1, .int x), (2, .int y), (3, .int z), (5, .int (nI i))] dX0_missedAt_58 rfl rfl (by decide) rfl ?_
              refine hl_iinc h 5 (nI (i + 1)) [(5, .int (nI (i + 1))), (4, .int (u + 1)), (0, .ref (a 3)), (1, .int x), (2, .int y), (3, .int z)] dX0_missedAt_61 rfl (hl_inc i) (by decide) rfl ?_
              refine hl_goto h 6 dX0_missedAt_64 (by decide) ?_
              refine hl_lsub [2, 3, 4, 5, 1, 0] rfl ?_
              exact ih (i + 1) (u + 1) (by omega) (by rw [← hv, hl_it_s] <;> (congr 1 <;> (first | (simp [b_X0_missedAt, c1, c2, c3, c4]; done) | (symm; simp [b_X0_missedAt, c1, c2, c3, c4]))))
  refine hl_lsub [2, 3, 4, 5, 1, 0] rfl ?_
  exact lp6 N 0 0 (Nat.zero_add N) rfl

set_option maxHeartbeats 4000000 in
set_option maxRecDepth 100000 in
theorem c_X0_sleepersAt (l : Launch) (D : va_G) (cI cZ cJ : ClassId) (a : Nat → Nat) (g : Nat → Nat → Int32) (x y z : Int32) (N : Nat) (hN : N ≤ 80) (hc : g 16 0 = nI N) : hl_KI D (hl_ty cI cZ cJ) l yX0_sleepersAt wsX0_sleepersAt ({ frames := 0, cells := 0, slots := 0, locals := 0 } : Room) 0 0 [.ref (a 3), .int x, .int y, .int z] (hl_WC a cI cZ g) (fun r w => r = hl_it (b_X0_sleepersAt g x y z) 0 N 0 ∧ w = hl_WC a cI cZ g) := by
  refine hl_KI_of (cc := cX0_sleepersAt) (maxL := 6) .int rfl (fun _ => Or.inr rfl) (by decide) rfl (Nat.le_of_ble_eq_true rfl) ?_
  intro p e s m args below meth c A Q h hend
  have hi0 : ∀ z ∈ wsX00, z ∈ wsX0_sleepersAt := by decide +kernel
  refine hl_ls (ls' := [(0, .ref (a 3)), (1, .int x), (2, .int y), (3, .int z)]) rfl ?_
  refine hl_iconst h 0 dX0_sleepersAt_0 (by decide) ?_
  refine hl_istore h [(4, .int 0), (0, .ref (a 3)), (1, .int x), (2, .int y), (3, .int z)] dX0_sleepersAt_1 (by decide) rfl ?_
  refine hl_iconst h 0 dX0_sleepersAt_3 (by decide) ?_
  refine hl_istore h [(5, .int 0), (4, .int 0), (0, .ref (a 3)), (1, .int x), (2, .int y), (3, .int z)] dX0_sleepersAt_4 (by decide) rfl ?_
  have lp6 : ∀ (n : Nat) (i : Nat) (u : Int32), (i + n = N) → (hl_it (b_X0_sleepersAt g x y z) i n u = hl_it (b_X0_sleepersAt g x y z) 0 N 0) →  hl_X p l e ({ frames := 0, cells := 0, slots := 0, locals := 0 } : Room) s m args below meth c 6 D A 0 0 Q (hl_WC a cI cZ g) 6 [(0, .ref (a 3)), (1, .int x), (2, .int y), (3, .int z), (4, .int u), (5, .int (nI i))] [] := by
    intro n
    induction n with
    | zero =>
      intro i u hi hv
      refine hl_iload h 5 dX0_sleepersAt_6 rfl ?_
      refine hl_aload_n h 0 dX0_sleepersAt_8 rfl ?_
      refine hl_get h hi0 hl_wc_3 rfl 6 rfl dX0_sleepersAt_9 (by decide) (by decide +kernel) ?_
      refine hl_icmp_ge_T h 57 dX0_sleepersAt_12 (by decide) (by rw [hc]; exact nI_le (by omega) (by omega)) ?_
      refine hl_iload h 4 dX0_sleepersAt_57 rfl ?_
      exact hend dX0_sleepersAt_59 (fun h9 => nomatch h9) (by
        exact ⟨hv, rfl⟩)
    | succ n ih =>
      intro i u hi hv
      refine hl_iload h 5 dX0_sleepersAt_6 rfl ?_
      refine hl_aload_n h 0 dX0_sleepersAt_8 rfl ?_
      refine hl_get h hi0 hl_wc_3 rfl 6 rfl dX0_sleepersAt_9 (by decide) (by decide +kernel) ?_
      refine hl_icmp_ge_F h 57 dX0_sleepersAt_12 (by decide) (by rw [hc]; exact nI_ge (by omega) (by omega)) ?_
      refine hl_aload_n h 0 dX0_sleepersAt_15 rfl ?_
      refine hl_get h hi0 hl_wc_3 rfl 5 rfl dX0_sleepersAt_16 (by decide) (by decide +kernel) ?_
      refine hl_iload h 5 dX0_sleepersAt_19 rfl ?_
      refine hl_ildN h hl_wc_19 0 rfl i dX0_sleepersAt_21 rfl (by omega) (by decide) ?_
      refine hl_iload_n h 1 dX0_sleepersAt_22 rfl ?_
      refine hl_icmp_ne h 51 dX0_sleepersAt_23 (by decide) (fun c1 => ?_) (fun c1 => ?_)
      · refine hl_iinc h 5 (nI (i + 1)) [(5, .int (nI (i + 1))), (0, .ref (a 3)), (1, .int x), (2, .int y), (3, .int z), (4, .int u)] dX0_sleepersAt_51 rfl (hl_inc i) (by decide) rfl ?_
        refine hl_goto h 6 dX0_sleepersAt_54 (by decide) ?_
        refine hl_lsub [1, 2, 3, 4, 5, 0] rfl ?_
        exact ih (i + 1) u (by omega) (by rw [← hv, hl_it_s] <;> (congr 1 <;> (first | (simp [b_X0_sleepersAt, c1]; done) | (symm; simp [b_X0_sleepersAt, c1]))))
      · refine hl_aload_n h 0 dX0_sleepersAt_26 rfl ?_
        refine hl_get h hi0 hl_wc_3 rfl 2 rfl dX0_sleepersAt_27 (by decide) (by decide +kernel) ?_
        refine hl_iload h 5 dX0_sleepersAt_30 rfl ?_
        refine hl_ildN h hl_wc_16 0 rfl i dX0_sleepersAt_32 rfl (by omega) (by decide) ?_
        refine hl_iload_n h 2 dX0_sleepersAt_33 rfl ?_
        refine hl_icmp_ne h 51 dX0_sleepersAt_34 (by decide) (fun c2 => ?_) (fun c2 => ?_)
        · refine hl_iinc h 5 (nI (i + 1)) [(5, .int (nI (i + 1))), (0, .ref (a 3)), (1, .int x), (2, .int y), (3, .int z), (4, .int u)] dX0_sleepersAt_51 rfl (hl_inc i) (by decide) rfl ?_
          refine hl_goto h 6 dX0_sleepersAt_54 (by decide) ?_
          refine hl_lsub [1, 2, 3, 4, 5, 0] rfl ?_
          exact ih (i + 1) u (by omega) (by rw [← hv, hl_it_s] <;> (congr 1 <;> (first | (simp [b_X0_sleepersAt, c1, c2]; done) | (symm; simp [b_X0_sleepersAt, c1, c2]))))
        · refine hl_aload_n h 0 dX0_sleepersAt_37 rfl ?_
          refine hl_get h hi0 hl_wc_3 rfl 3 rfl dX0_sleepersAt_38 (by decide) (by decide +kernel) ?_
          refine hl_iload h 5 dX0_sleepersAt_41 rfl ?_
          refine hl_ildN h hl_wc_17 0 rfl i dX0_sleepersAt_43 rfl (by omega) (by decide) ?_
          refine hl_iload_n h 3 dX0_sleepersAt_44 rfl ?_
          refine hl_icmp_ne h 51 dX0_sleepersAt_45 (by decide) (fun c3 => ?_) (fun c3 => ?_)
          · refine hl_iinc h 5 (nI (i + 1)) [(5, .int (nI (i + 1))), (0, .ref (a 3)), (1, .int x), (2, .int y), (3, .int z), (4, .int u)] dX0_sleepersAt_51 rfl (hl_inc i) (by decide) rfl ?_
            refine hl_goto h 6 dX0_sleepersAt_54 (by decide) ?_
            refine hl_lsub [1, 2, 3, 4, 5, 0] rfl ?_
            exact ih (i + 1) u (by omega) (by rw [← hv, hl_it_s] <;> (congr 1 <;> (first | (simp [b_X0_sleepersAt, c1, c2, c3]; done) | (symm; simp [b_X0_sleepersAt, c1, c2, c3]))))
          · refine hl_iinc h 4 (u + 1) [(4, .int (u + 1)), (0, .ref (a 3)), (1, .int x), (2, .int y), (3, .int z), (5, .int (nI i))] dX0_sleepersAt_48 rfl rfl (by decide) rfl ?_
            refine hl_iinc h 5 (nI (i + 1)) [(5, .int (nI (i + 1))), (4, .int (u + 1)), (0, .ref (a 3)), (1, .int x), (2, .int y), (3, .int z)] dX0_sleepersAt_51 rfl (hl_inc i) (by decide) rfl ?_
            refine hl_goto h 6 dX0_sleepersAt_54 (by decide) ?_
            refine hl_lsub [2, 3, 4, 5, 1, 0] rfl ?_
            exact ih (i + 1) (u + 1) (by omega) (by rw [← hv, hl_it_s] <;> (congr 1 <;> (first | (simp [b_X0_sleepersAt, c1, c2, c3]; done) | (symm; simp [b_X0_sleepersAt, c1, c2, c3]))))
  refine hl_lsub [2, 3, 4, 5, 1, 0] rfl ?_
  exact lp6 N 0 0 (Nat.zero_add N) rfl

set_option maxHeartbeats 4000000 in
set_option maxRecDepth 100000 in
theorem c_X3_add (l : Launch) (D : va_G) (cI cZ cJ : ClassId) (a : Nat → Nat) (g : Nat → Nat → Int32) (x y z : Int32) (N : Nat) (hN : N ≤ 80) (hc : g 20 0 = nI N) : hl_KV D (hl_ty cI cZ cJ) l yX3_add wsX3_add ({ frames := 0, cells := 0, slots := 0, locals := 0 } : Room) 0 0 [.ref (a 4), .int x, .int y, .int z] (hl_WC a cI cZ g) (fun w => w = hl_WC a cI cZ (f_X3_add g x y z)) := by
  refine hl_KV_of (cc := cX3_add) (maxL := 4) (by decide) rfl (Nat.le_of_ble_eq_true rfl) ?_
  intro p e s m args below meth c A Q h hnm hend
  have hi3 : ∀ z ∈ wsX30, z ∈ wsX3_add := by decide +kernel
  refine hl_ls (ls' := [(0, .ref (a 4)), (1, .int x), (2, .int y), (3, .int z)]) rfl ?_
  refine hl_aload_n h 0 dX3_add_0 rfl ?_
  refine hl_get h hi3 hl_wc_4 rfl 3 rfl dX3_add_1 (by decide) (by decide +kernel) ?_
  refine hl_bipush h 80 dX3_add_4 (by decide) ?_
  refine hl_icmp_lt h 10 dX3_add_6 (by decide) (fun c1 => ?_) (fun c1 => ?_)
  · have hin : vp_in (g 20 0) 80 := hl_in 80 rfl (by rw [hc]; exact nI_pos (by omega)) c1
    refine hl_aload_n h 0 dX3_add_10 rfl ?_
    refine hl_get h hi3 hl_wc_4 rfl 0 rfl dX3_add_11 (by decide) (by decide +kernel) ?_
    refine hl_aload_n h 0 dX3_add_14 rfl ?_
    refine hl_get h hi3 hl_wc_4 rfl 3 rfl dX3_add_15 (by decide) (by decide +kernel) ?_
    refine hl_iload_n h 1 dX3_add_18 rfl ?_
    refine hl_ist h hl_wc_20 0 rfl dX3_add_19 hin hl_wc_t17 ?_
    refine hl_nmC (fun g2 e3 => ?_)
    refine hl_aload_n h 0 dX3_add_20 rfl ?_
    refine hl_get h hi3 hl_wc_4 rfl 1 rfl dX3_add_21 (by decide) (by decide +kernel) ?_
    refine hl_aload_n h 0 dX3_add_24 rfl ?_
    refine hl_get h hi3 hl_wc_4 rfl 3 rfl dX3_add_25 (by decide) (by decide +kernel) ?_
    refine hl_iload_n h 2 dX3_add_28 rfl ?_
    refine hl_ist h hl_wc_21 0 rfl dX3_add_29 (by subst e3; exact hin) hl_wc_t18 ?_
    refine hl_nmC (fun g4 e5 => ?_)
    refine hl_aload_n h 0 dX3_add_30 rfl ?_
    refine hl_get h hi3 hl_wc_4 rfl 2 rfl dX3_add_31 (by decide) (by decide +kernel) ?_
    refine hl_aload_n h 0 dX3_add_34 rfl ?_
    refine hl_get h hi3 hl_wc_4 rfl 3 rfl dX3_add_35 (by decide) (by decide +kernel) ?_
    refine hl_iload_n h 3 dX3_add_38 rfl ?_
    refine hl_ist h hl_wc_22 0 rfl dX3_add_39 (by subst e5; subst e3; exact hin) hl_wc_t19 ?_
    refine hl_nmC (fun g6 e7 => ?_)
    refine hl_aload_n h 0 dX3_add_40 rfl ?_
    refine hl_dup h dX3_add_41 rfl ?_
    refine hl_get h hi3 hl_wc_4 rfl 3 rfl dX3_add_42 (by decide) (by decide +kernel) ?_
    refine hl_iconst h 1 dX3_add_45 (by decide) ?_
    refine hl_iadd h dX3_add_46 ?_
    refine hl_put h hi3 tyX3_ok nmX3 hl_wc_4 rfl 3 dX3_add_47 (by decide) (by decide +kernel) (by decide) rfl rfl (Nat.le_of_ble_eq_true rfl) hl_wc_s20 ?_
    refine hl_nmC (fun g8 e9 => ?_)
    exact hend dX3_add_50 (by
      subst e9; subst e7; subst e5; subst e3
      exact congrArg (hl_WC a cI cZ) (by simp only [f_X3_add, if_pos c1]; rfl))
  · exact hend dX3_add_9 (by
      skip
      exact congrArg (hl_WC a cI cZ) (by simp only [f_X3_add, if_neg c1]))

set_option maxHeartbeats 4000000 in
set_option maxRecDepth 100000 in
theorem c_X3_ofGuest (l : Launch) (D : va_G) (cI cZ cJ : ClassId) (a : Nat → Nat) (g : Nat → Nat → Int32) (x : Int32) (N : Nat) (hN : N ≤ 80) (hc : g 20 0 = nI N) : hl_KI D (hl_ty cI cZ cJ) l yX3_ofGuest wsX3_ofGuest ({ frames := 0, cells := 0, slots := 0, locals := 0 } : Room) 0 0 [.ref (a 4), .int x] (hl_WC a cI cZ g) (fun r w => r = hl_it (b_X3_ofGuest g x) 0 N 0 ∧ w = hl_WC a cI cZ g) := by
  refine hl_KI_of (cc := cX3_ofGuest) (maxL := 4) .int rfl (fun _ => Or.inr rfl) (by decide) rfl (Nat.le_of_ble_eq_true rfl) ?_
  intro p e s m args below meth c A Q h hend
  have hi3 : ∀ z ∈ wsX30, z ∈ wsX3_ofGuest := by decide +kernel
  refine hl_ls (ls' := [(0, .ref (a 4)), (1, .int x)]) rfl ?_
  refine hl_iconst h 0 dX3_ofGuest_0 (by decide) ?_
  refine hl_istore_n h [(2, .int 0), (0, .ref (a 4)), (1, .int x)] dX3_ofGuest_1 (by decide) rfl ?_
  refine hl_iconst h 0 dX3_ofGuest_2 (by decide) ?_
  refine hl_istore_n h [(3, .int 0), (2, .int 0), (0, .ref (a 4)), (1, .int x)] dX3_ofGuest_3 (by decide) rfl ?_
  have lp4 : ∀ (n : Nat) (i : Nat) (u : Int32), (i + n = N) → (hl_it (b_X3_ofGuest g x) i n u = hl_it (b_X3_ofGuest g x) 0 N 0) →  hl_X p l e ({ frames := 0, cells := 0, slots := 0, locals := 0 } : Room) s m args below meth c 4 D A 0 0 Q (hl_WC a cI cZ g) 4 [(0, .ref (a 4)), (1, .int x), (2, .int u), (3, .int (nI i))] [] := by
    intro n
    induction n with
    | zero =>
      intro i u hi hv
      refine hl_iload_n h 3 dX3_ofGuest_4 rfl ?_
      refine hl_aload_n h 0 dX3_ofGuest_5 rfl ?_
      refine hl_get h hi3 hl_wc_4 rfl 3 rfl dX3_ofGuest_6 (by decide) (by decide +kernel) ?_
      refine hl_icmp_ge_T h 37 dX3_ofGuest_9 (by decide) (by rw [hc]; exact nI_le (by omega) (by omega)) ?_
      refine hl_iload_n h 2 dX3_ofGuest_37 rfl ?_
      exact hend dX3_ofGuest_38 (fun h9 => nomatch h9) (by
        exact ⟨hv, rfl⟩)
    | succ n ih =>
      intro i u hi hv
      refine hl_iload_n h 3 dX3_ofGuest_4 rfl ?_
      refine hl_aload_n h 0 dX3_ofGuest_5 rfl ?_
      refine hl_get h hi3 hl_wc_4 rfl 3 rfl dX3_ofGuest_6 (by decide) (by decide +kernel) ?_
      refine hl_icmp_ge_F h 37 dX3_ofGuest_9 (by decide) (by rw [hc]; exact nI_ge (by omega) (by omega)) ?_
      refine hl_aload_n h 0 dX3_ofGuest_12 rfl ?_
      refine hl_get h hi3 hl_wc_4 rfl 0 rfl dX3_ofGuest_13 (by decide) (by decide +kernel) ?_
      refine hl_iload_n h 3 dX3_ofGuest_16 rfl ?_
      refine hl_ildN h hl_wc_20 0 rfl i dX3_ofGuest_17 rfl (by omega) (by decide) ?_
      refine hl_iload_n h 1 dX3_ofGuest_18 rfl ?_
      refine hl_icmp_ne h 31 dX3_ofGuest_19 (by decide) (fun c1 => ?_) (fun c1 => ?_)
      · refine hl_iinc h 3 (nI (i + 1)) [(3, .int (nI (i + 1))), (0, .ref (a 4)), (1, .int x), (2, .int u)] dX3_ofGuest_31 rfl (hl_inc i) (by decide) rfl ?_
        refine hl_goto h 4 dX3_ofGuest_34 (by decide) ?_
        refine hl_lsub [1, 2, 3, 0] rfl ?_
        exact ih (i + 1) u (by omega) (by rw [← hv, hl_it_s] <;> (congr 1 <;> (first | (simp [b_X3_ofGuest, c1]; done) | (symm; simp [b_X3_ofGuest, c1]))))
      · refine hl_iload_n h 2 dX3_ofGuest_22 rfl ?_
        refine hl_aload_n h 0 dX3_ofGuest_23 rfl ?_
        refine hl_get h hi3 hl_wc_4 rfl 2 rfl dX3_ofGuest_24 (by decide) (by decide +kernel) ?_
        refine hl_iload_n h 3 dX3_ofGuest_27 rfl ?_
        refine hl_ildN h hl_wc_22 0 rfl i dX3_ofGuest_28 rfl (by omega) (by decide) ?_
        refine hl_iadd h dX3_ofGuest_29 ?_
        refine hl_istore_n h [(2, .int (u + (g 19 i))), (0, .ref (a 4)), (1, .int x), (3, .int (nI i))] dX3_ofGuest_30 (by decide) rfl ?_
        refine hl_iinc h 3 (nI (i + 1)) [(3, .int (nI (i + 1))), (2, .int (u + (g 19 i))), (0, .ref (a 4)), (1, .int x)] dX3_ofGuest_31 rfl (hl_inc i) (by decide) rfl ?_
        refine hl_goto h 4 dX3_ofGuest_34 (by decide) ?_
        refine hl_lsub [2, 3, 1, 0] rfl ?_
        exact ih (i + 1) (u + (g 19 i)) (by omega) (by rw [← hv, hl_it_s] <;> (congr 1 <;> (first | (simp [b_X3_ofGuest, c1]; done) | (symm; simp [b_X3_ofGuest, c1]))))
  refine hl_lsub [2, 3, 1, 0] rfl ?_
  exact lp4 N 0 0 (Nat.zero_add N) rfl

set_option maxHeartbeats 4000000 in
set_option maxRecDepth 100000 in
theorem c_X3_takeFrom (l : Launch) (D : va_G) (cI cZ cJ : ClassId) (a : Nat → Nat) (g : Nat → Nat → Int32) (x y n : Int32) (h1 : vp_in x 80) : hl_KI D (hl_ty cI cZ cJ) l yX3_takeFrom wsX3_takeFrom ({ frames := 1, cells := 0, slots := 0, locals := 13 } : Room) 0 0 [.ref (a 4), .int x, .int y, .int n] (hl_WC a cI cZ g) (fun r w => r = r_X3_takeFrom g x y n ∧ w = hl_WC a cI cZ (f_X3_takeFrom g x y n)) := by
  refine hl_KI_of (cc := cX3_takeFrom) (maxL := 5) .int rfl (fun _ => Or.inr rfl) (by decide) rfl (Nat.le_of_ble_eq_true rfl) ?_
  intro p e s m args below meth c A Q h hend
  have hi3 : ∀ z ∈ wsX30, z ∈ wsX3_takeFrom := by decide +kernel
  refine hl_ls (ls' := [(0, .ref (a 4)), (1, .int x), (2, .int y), (3, .int n)]) rfl ?_
  refine hl_aload_n h 0 dX3_takeFrom_0 rfl ?_
  refine hl_get h hi3 hl_wc_4 rfl 0 rfl dX3_takeFrom_1 (by decide) (by decide +kernel) ?_
  refine hl_iload_n h 1 dX3_takeFrom_4 rfl ?_
  refine hl_ild h hl_wc_20 0 rfl dX3_takeFrom_5 (by with_reducible assumption) ?_
  refine hl_iload_n h 2 dX3_takeFrom_6 rfl ?_
  refine hl_icmp_eq h 12 dX3_takeFrom_7 (by decide) (fun c1 => ?_) (fun c1 => ?_)
  · refine hl_aload_n h 0 dX3_takeFrom_12 rfl ?_
    refine hl_get h hi3 hl_wc_4 rfl 2 rfl dX3_takeFrom_13 (by decide) (by decide +kernel) ?_
    refine hl_iload_n h 1 dX3_takeFrom_16 rfl ?_
    refine hl_ild h hl_wc_22 0 rfl dX3_takeFrom_17 (by with_reducible assumption) ?_
    refine hl_iload_n h 3 dX3_takeFrom_18 rfl ?_
    refine hl_min h dX3_takeFrom_19 (by decide +kernel) (by decide +kernel) (by decide +kernel) (by decide +kernel) (Nat.le_of_ble_eq_true rfl) (Nat.le_of_ble_eq_true rfl) (Nat.le_of_ble_eq_true rfl) (Nat.le_of_ble_eq_true rfl) ?_
    refine hl_istore h [(4, .int (if n < (g 19 x.toNatClampNeg) then n else (g 19 x.toNatClampNeg))), (0, .ref (a 4)), (1, .int x), (2, .int y), (3, .int n)] dX3_takeFrom_22 (by decide) rfl ?_
    refine hl_aload_n h 1 dX3_takeFrom_24 rfl ?_
    refine hl_get h hi3 hl_wc_4 rfl 2 rfl dX3_takeFrom_25 (by decide) (by decide +kernel) ?_
    refine hl_iload_n h 2 dX3_takeFrom_28 rfl ?_
    refine hl_dup2 h dX3_takeFrom_29 rfl rfl ?_
    refine hl_ild h hl_wc_22 0 rfl dX3_takeFrom_30 (by with_reducible assumption) ?_
    refine hl_iload h 0 dX3_takeFrom_31 rfl ?_
    refine hl_isub h dX3_takeFrom_33 ?_
    refine hl_ist h hl_wc_22 0 rfl dX3_takeFrom_34 (by with_reducible assumption) hl_wc_t19 ?_
    refine hl_nmC (fun g2 e3 => ?_)
    refine hl_iload h 0 dX3_takeFrom_35 rfl ?_
    exact hend dX3_takeFrom_37 (fun h9 => nomatch h9) (by
      subst e3
      exact ⟨by simp only [r_X3_takeFrom, if_pos c1], congrArg (hl_WC a cI cZ) (by simp only [f_X3_takeFrom, if_pos c1])⟩)
  · refine hl_iconst h 0 dX3_takeFrom_10 (by decide) ?_
    exact hend dX3_takeFrom_11 (fun h9 => nomatch h9) (by
      skip
      exact ⟨by simp only [r_X3_takeFrom, if_neg c1], congrArg (hl_WC a cI cZ) (by simp only [f_X3_takeFrom, if_neg c1])⟩)

set_option maxHeartbeats 4000000 in
set_option maxRecDepth 100000 in
theorem c_X1_row (l : Launch) (D : va_G) (cI cZ cJ : ClassId) (a : Nat → Nat) (g : Nat → Nat → Int32) (x y : Int32) : hl_KI D (hl_ty cI cZ cJ) l yX1_row wsX1_row ({ frames := 0, cells := 0, slots := 0, locals := 0 } : Room) 0 0 [.int x, .int y] (hl_WC a cI cZ g) (fun r w => r = (x * 4 + y) ∧ w = hl_WC a cI cZ g) := by
  refine hl_KI_of (cc := cX1_row) (maxL := 2) .int rfl (fun _ => Or.inr rfl) (by decide) rfl (Nat.le_of_ble_eq_true rfl) ?_
  intro p e s m args below meth c A Q h hend
  refine hl_ls (ls' := [(0, .int x), (1, .int y)]) rfl ?_
  refine hl_iload_n h 0 dX1_row_0 rfl ?_
  refine hl_iconst h 4 dX1_row_1 (by decide) ?_
  refine hl_imul h dX1_row_2 ?_
  refine hl_iload_n h 1 dX1_row_3 rfl ?_
  refine hl_iadd h dX1_row_4 ?_
  exact hend dX1_row_5 (fun h9 => nomatch h9) (by
    exact ⟨by rfl, (congrArg (hl_WC a cI cZ) (by rfl))⟩)

set_option maxHeartbeats 4000000 in
set_option maxRecDepth 100000 in
theorem c_X1_receive (l : Launch) (D : va_G) (cI cZ cJ : ClassId) (a : Nat → Nat) (g : Nat → Nat → Int32) (x n : Int32) (h1 : vp_in x 4) : hl_KV D (hl_ty cI cZ cJ) l yX1_receive wsX1_receive ({ frames := 0, cells := 0, slots := 0, locals := 0 } : Room) 0 0 [.ref (a 5), .int x, .int n] (hl_WC a cI cZ g) (fun w => w = hl_WC a cI cZ (f_X1_receive g x n)) := by
  refine hl_KV_of (cc := cX1_receive) (maxL := 3) (by decide) rfl (Nat.le_of_ble_eq_true rfl) ?_
  intro p e s m args below meth c A Q h hnm hend
  have hi1 : ∀ z ∈ wsX10, z ∈ wsX1_receive := by decide +kernel
  refine hl_ls (ls' := [(0, .ref (a 5)), (1, .int x), (2, .int n)]) rfl ?_
  refine hl_aload_n h 0 dX1_receive_0 rfl ?_
  refine hl_get h hi1 hl_wc_5 rfl 0 rfl dX1_receive_1 (by decide) (by decide +kernel) ?_
  refine hl_iload_n h 1 dX1_receive_4 rfl ?_
  refine hl_dup2 h dX1_receive_5 rfl rfl ?_
  refine hl_ild h hl_wc_23 0 rfl dX1_receive_6 (by with_reducible assumption) ?_
  refine hl_iload_n h 2 dX1_receive_7 rfl ?_
  refine hl_iadd h dX1_receive_8 ?_
  refine hl_ist h hl_wc_23 0 rfl dX1_receive_9 (by with_reducible assumption) hl_wc_t21 ?_
  refine hl_nmC (fun g1 e2 => ?_)
  exact hend dX1_receive_10 (by
    subst e2
    exact (congrArg (hl_WC a cI cZ) (by rfl)))

set_option maxHeartbeats 4000000 in
set_option maxRecDepth 100000 in
theorem c_X1_owe (l : Launch) (D : va_G) (cI cZ cJ : ClassId) (a : Nat → Nat) (g : Nat → Nat → Int32) (x y n : Int32) (h1 : vp_in x 4) (h2 : vp_in y 4) : hl_KV D (hl_ty cI cZ cJ) l yX1_owe wsX1_owe ({ frames := 1, cells := 0, slots := 0, locals := 21 } : Room) 0 0 [.ref (a 5), .int x, .int y, .int n] (hl_WC a cI cZ g) (fun w => w = hl_WC a cI cZ (f_X1_owe g x y n)) := by
  refine hl_KV_of (cc := cX1_owe) (maxL := 4) (by decide) rfl (Nat.le_of_ble_eq_true rfl) ?_
  intro p e s m args below meth c A Q h hnm hend
  have hi1 : ∀ z ∈ wsX10, z ∈ wsX1_owe := by decide +kernel
  have hrow : vp_in (x * 4 + y) 16 := hl_sq h1 h2
  have hrow2 : vp_in (y * 4 + x) 16 := hl_sq h2 h1
  refine hl_ls (ls' := [(0, .ref (a 5)), (1, .int x), (2, .int y), (3, .int n)]) rfl ?_
  refine hl_aload_n h 0 dX1_owe_0 rfl ?_
  refine hl_get h hi1 hl_wc_5 rfl 1 rfl dX1_owe_1 (by decide) (by decide +kernel) ?_
  refine hl_iload_n h 1 dX1_owe_4 rfl ?_
  refine hl_iload_n h 2 dX1_owe_5 rfl ?_
  refine hl_callSiD h (st := [.ref (a 24)]) (c_X1_row l D cI cZ cJ a g x y) (va_cwS 2 h.2.2.2.2.1 gX1_owe_X1_row rfl rfl rfl (by decide +kernel) ⟨Nat.le_of_ble_eq_true rfl, Nat.le_of_ble_eq_true rfl⟩) dX1_owe_6 rfl (Nat.le_of_ble_eq_true rfl) ⟨Nat.le_of_ble_eq_true rfl, Nat.le_of_ble_eq_true rfl⟩ rfl ?_
  refine hl_dup2 h dX1_owe_9 rfl rfl ?_
  refine hl_ild h hl_wc_24 0 rfl dX1_owe_10 (by with_reducible assumption) ?_
  refine hl_iload_n h 3 dX1_owe_11 rfl ?_
  refine hl_iadd h dX1_owe_12 ?_
  refine hl_ist h hl_wc_24 0 rfl dX1_owe_13 (by with_reducible assumption) hl_wc_t22 ?_
  refine hl_nmC (fun g4 e5 => ?_)
  refine hl_aload_n h 0 dX1_owe_14 rfl ?_
  refine hl_get h hi1 hl_wc_5 rfl 1 rfl dX1_owe_15 (by decide) (by decide +kernel) ?_
  refine hl_iload_n h 2 dX1_owe_18 rfl ?_
  refine hl_iload_n h 1 dX1_owe_19 rfl ?_
  refine hl_callSiD h (st := [.ref (a 24)]) (c_X1_row l D cI cZ cJ a g4 y x) (va_cwS 2 h.2.2.2.2.1 gX1_owe_X1_row rfl rfl rfl (by decide +kernel) ⟨Nat.le_of_ble_eq_true rfl, Nat.le_of_ble_eq_true rfl⟩) dX1_owe_20 rfl (Nat.le_of_ble_eq_true rfl) ⟨Nat.le_of_ble_eq_true rfl, Nat.le_of_ble_eq_true rfl⟩ rfl ?_
  refine hl_dup2 h dX1_owe_23 rfl rfl ?_
  refine hl_ild h hl_wc_24 0 rfl dX1_owe_24 (by with_reducible assumption) ?_
  refine hl_iload_n h 3 dX1_owe_25 rfl ?_
  refine hl_isub h dX1_owe_26 ?_
  refine hl_ist h hl_wc_24 0 rfl dX1_owe_27 (by with_reducible assumption) hl_wc_t22 ?_
  refine hl_nmC (fun g9 e10 => ?_)
  exact hend dX1_owe_28 (by
    subst e10; subst e5
    exact (congrArg (hl_WC a cI cZ) (by rfl)))

set_option maxHeartbeats 4000000 in
set_option maxRecDepth 100000 in
theorem c_X1_between (l : Launch) (D : va_G) (cI cZ cJ : ClassId) (a : Nat → Nat) (g : Nat → Nat → Int32) (x y : Int32) (h1 : vp_in x 4) (h2 : vp_in y 4) : hl_KI D (hl_ty cI cZ cJ) l yX1_between wsX1_between ({ frames := 1, cells := 0, slots := 0, locals := 21 } : Room) 0 0 [.ref (a 5), .int x, .int y] (hl_WC a cI cZ g) (fun r w => r = r_X1_between g x y ∧ w = hl_WC a cI cZ g) := by
  refine hl_KI_of (cc := cX1_between) (maxL := 3) .int rfl (fun _ => Or.inr rfl) (by decide) rfl (Nat.le_of_ble_eq_true rfl) ?_
  intro p e s m args below meth c A Q h hend
  have hi1 : ∀ z ∈ wsX10, z ∈ wsX1_between := by decide +kernel
  have hrow : vp_in (x * 4 + y) 16 := hl_sq h1 h2
  have hrow2 : vp_in (y * 4 + x) 16 := hl_sq h2 h1
  refine hl_ls (ls' := [(0, .ref (a 5)), (1, .int x), (2, .int y)]) rfl ?_
  refine hl_iconst h 0 dX1_between_0 (by decide) ?_
  refine hl_aload_n h 0 dX1_between_1 rfl ?_
  refine hl_get h hi1 hl_wc_5 rfl 1 rfl dX1_between_2 (by decide) (by decide +kernel) ?_
  refine hl_iload_n h 1 dX1_between_5 rfl ?_
  refine hl_iload_n h 2 dX1_between_6 rfl ?_
  refine hl_callSiD h (st := [.ref (a 24), .int 0]) (c_X1_row l D cI cZ cJ a g x y) (va_cwS 2 h.2.2.2.2.1 gX1_between_X1_row rfl rfl rfl (by decide +kernel) ⟨Nat.le_of_ble_eq_true rfl, Nat.le_of_ble_eq_true rfl⟩) dX1_between_7 rfl (Nat.le_of_ble_eq_true rfl) ⟨Nat.le_of_ble_eq_true rfl, Nat.le_of_ble_eq_true rfl⟩ rfl ?_
  refine hl_ild h hl_wc_24 0 rfl dX1_between_10 (by with_reducible assumption) ?_
  refine hl_max h dX1_between_11 (by decide +kernel) (by decide +kernel) (by decide +kernel) (by decide +kernel) (Nat.le_of_ble_eq_true rfl) (Nat.le_of_ble_eq_true rfl) (Nat.le_of_ble_eq_true rfl) (Nat.le_of_ble_eq_true rfl) ?_
  exact hend dX1_between_14 (fun h9 => nomatch h9) (by
    exact ⟨rfl, rfl⟩)

set_option maxHeartbeats 4000000 in
set_option maxRecDepth 100000 in
theorem c_X1_pay (l : Launch) (D : va_G) (cI cZ cJ : ClassId) (a : Nat → Nat) (g : Nat → Nat → Int32) (x y : Int32) (h1 : vp_in x 4) (h2 : vp_in y 4) : hl_KI D (hl_ty cI cZ cJ) l yX1_pay wsX1_pay ({ frames := 2, cells := 0, slots := 0, locals := 44 } : Room) 0 0 [.ref (a 5), .int x, .int y] (hl_WC a cI cZ g) (fun r w => r = r_X1_between g x y ∧ w = hl_WC a cI cZ (f_X1_pay g x y)) := by
  refine hl_KI_of (cc := cX1_pay) (maxL := 4) .int rfl (fun _ => Or.inr rfl) (by decide) rfl (Nat.le_of_ble_eq_true rfl) ?_
  intro p e s m args below meth c A Q h hend
  have hi1 : ∀ z ∈ wsX10, z ∈ wsX1_pay := by decide +kernel
  refine hl_ls (ls' := [(0, .ref (a 5)), (1, .int x), (2, .int y)]) rfl ?_
  refine hl_aload_n h 0 dX1_pay_0 rfl ?_
  refine hl_iload_n h 1 dX1_pay_1 rfl ?_
  refine hl_iload_n h 2 dX1_pay_2 rfl ?_
  refine hl_callViD h (st := []) (c_X1_between l D cI cZ cJ a g x y (by with_reducible assumption) (by with_reducible assumption)) (cwV 2 h.2.2.2.2.1 gX1_pay_X1_between rfl rfl rfl (by decide +kernel) ⟨Nat.le_of_ble_eq_true rfl, Nat.le_of_ble_eq_true rfl⟩) hl_wc_5 rfl dX1_pay_3 rfl (Nat.le_of_ble_eq_true rfl) ⟨Nat.le_of_ble_eq_true rfl, Nat.le_of_ble_eq_true rfl⟩ rfl ?_
  refine hl_istore_n h [(3, .int (r_X1_between g x y)), (0, .ref (a 5)), (1, .int x), (2, .int y)] dX1_pay_6 (by decide) rfl ?_
  refine hl_aload_n h 1 dX1_pay_7 rfl ?_
  refine hl_get h hi1 hl_wc_5 rfl 0 rfl dX1_pay_8 (by decide) (by decide +kernel) ?_
  refine hl_iload_n h 2 dX1_pay_11 rfl ?_
  refine hl_dup2 h dX1_pay_12 rfl rfl ?_
  refine hl_ild h hl_wc_23 0 rfl dX1_pay_13 (by with_reducible assumption) ?_
  refine hl_iload_n h 0 dX1_pay_14 rfl ?_
  refine hl_isub h dX1_pay_15 ?_
  refine hl_ist h hl_wc_23 0 rfl dX1_pay_16 (by with_reducible assumption) hl_wc_t21 ?_
  refine hl_nmC (fun g4 e5 => ?_)
  refine hl_aload_n h 1 dX1_pay_17 rfl ?_
  refine hl_get h hi1 hl_wc_5 rfl 0 rfl dX1_pay_18 (by decide) (by decide +kernel) ?_
  refine hl_iload_n h 3 dX1_pay_21 rfl ?_
  refine hl_dup2 h dX1_pay_22 rfl rfl ?_
  refine hl_ild h hl_wc_23 0 rfl dX1_pay_23 (by with_reducible assumption) ?_
  refine hl_iload_n h 0 dX1_pay_24 rfl ?_
  refine hl_iadd h dX1_pay_25 ?_
  refine hl_ist h hl_wc_23 0 rfl dX1_pay_26 (by with_reducible assumption) hl_wc_t21 ?_
  refine hl_nmC (fun g6 e7 => ?_)
  refine hl_aload_n h 1 dX1_pay_27 rfl ?_
  refine hl_iload_n h 3 dX1_pay_28 rfl ?_
  refine hl_iload_n h 2 dX1_pay_29 rfl ?_
  refine hl_iload_n h 0 dX1_pay_30 rfl ?_
  refine hl_callVvD h (st := []) (c_X1_owe l D cI cZ cJ a g6 y x (r_X1_between g x y) (by with_reducible assumption) (by with_reducible assumption)) (cwV 3 h.2.2.2.2.1 gX1_pay_X1_owe rfl rfl rfl (by decide +kernel) ⟨Nat.le_of_ble_eq_true rfl, Nat.le_of_ble_eq_true rfl⟩) hl_wc_5 rfl dX1_pay_31 rfl (Nat.le_of_ble_eq_true rfl) ⟨Nat.le_of_ble_eq_true rfl, Nat.le_of_ble_eq_true rfl⟩ rfl ?_
  refine hl_nmC (fun g11 e12 => ?_)
  refine hl_iload_n h 0 dX1_pay_34 rfl ?_
  exact hend dX1_pay_35 (fun h9 => nomatch h9) (by
    subst e12; subst e7; subst e5
    exact ⟨by rfl, (congrArg (hl_WC a cI cZ) (by rfl))⟩)

set_option maxHeartbeats 4000000 in
set_option maxRecDepth 100000 in
theorem c_X1_payAll (l : Launch) (D : va_G) (cI cZ cJ : ClassId) (a : Nat → Nat) (g : Nat → Nat → Int32) : hl_KI D (hl_ty cI cZ cJ) l yX1_payAll wsX1_payAll ({ frames := 3, cells := 0, slots := 0, locals := 67 } : Room) 0 0 [.ref (a 5)] (hl_WC a cI cZ g) (fun r w => r = (hl_it b_X1_payAll 0 4 (g, 0)).2 ∧ w = hl_WC a cI cZ ((hl_it b_X1_payAll 0 4 (g, 0)).1)) := by
  refine hl_KI_of (cc := cX1_payAll) (maxL := 4) .int rfl (fun _ => Or.inr rfl) (by decide) rfl (Nat.le_of_ble_eq_true rfl) ?_
  intro p e s m args below meth c A Q h hend
  refine hl_ls (ls' := [(0, .ref (a 5))]) rfl ?_
  refine hl_iconst h 0 dX1_payAll_0 (by decide) ?_
  refine hl_istore_n h [(1, .int 0), (0, .ref (a 5))] dX1_payAll_1 (by decide) rfl ?_
  refine hl_iconst h 0 dX1_payAll_2 (by decide) ?_
  refine hl_istore_n h [(2, .int 0), (1, .int 0), (0, .ref (a 5))] dX1_payAll_3 (by decide) rfl ?_
  have lp4 : ∀ (n : Nat) (i : Nat) (z : (Nat → Nat → Int32) × Int32), (i + n = 4) → (hl_it b_X1_payAll i n z = hl_it b_X1_payAll 0 4 (g, 0)) →  hl_X p l e ({ frames := 3, cells := 0, slots := 0, locals := 67 } : Room) s m args below meth c 4 D A 0 0 Q (hl_WC a cI cZ z.1) 4 [(0, .ref (a 5)), (1, .int z.2), (2, .int (nI i))] [] := by
    intro n
    induction n with
    | zero =>
      intro i z hi hv
      refine hl_iload_n h 2 dX1_payAll_4 rfl ?_
      refine hl_iconst h 4 dX1_payAll_5 (by decide) ?_
      refine hl_icmp_ge_T h 37 dX1_payAll_6 (by decide) (by rw [show i = 4 by omega]; decide) ?_
      refine hl_iload_n h 1 dX1_payAll_37 rfl ?_
      exact hend dX1_payAll_38 (fun h9 => nomatch h9) (by
        exact ⟨congrArg Prod.snd hv, congrArg (fun q => hl_WC a cI cZ q.1) hv⟩)
    | succ n ih =>
      intro i z hi hv
      have hvi : vp_in (nI i) 4 := vp_in_nI (by omega) (by decide)
      refine hl_iload_n h 2 dX1_payAll_4 rfl ?_
      refine hl_iconst h 4 dX1_payAll_5 (by decide) ?_
      refine hl_icmp_ge_F h 37 dX1_payAll_6 (by decide) (nI_ge (b := 4) (by omega) (by decide)) ?_
      refine hl_iconst h 0 dX1_payAll_9 (by decide) ?_
      refine hl_istore_n h [(3, .int 0), (0, .ref (a 5)), (1, .int z.2), (2, .int (nI i))] dX1_payAll_10 (by decide) rfl ?_
      have lp11 : ∀ (m2 : Nat) (j : Nat) (v : (Nat → Nat → Int32) × Int32), (j + m2 = 4) → (hl_it (b_X1_payIn i) j m2 v = b_X1_payAll i z) →  hl_X p l e ({ frames := 3, cells := 0, slots := 0, locals := 67 } : Room) s m args below meth c 4 D A 0 0 Q (hl_WC a cI cZ v.1) 11 [(0, .ref (a 5)), (1, .int v.2), (2, .int (nI i)), (3, .int (nI j))] [] := by
        intro m2
        induction m2 with
        | zero =>
          intro j v hj hw
          refine hl_iload_n h 3 dX1_payAll_11 rfl ?_
          refine hl_iconst h 4 dX1_payAll_12 (by decide) ?_
          refine hl_icmp_ge_T h 31 dX1_payAll_13 (by decide) (by rw [show j = 4 by omega]; decide) ?_
          refine hl_iinc h 2 (nI (i + 1)) [(2, .int (nI (i + 1))), (0, .ref (a 5)), (1, .int v.2), (3, .int (nI j))] dX1_payAll_31 rfl (hl_inc i) (by decide) rfl ?_
          refine hl_goto h 4 dX1_payAll_34 (by decide) ?_
          refine hl_lsub [1, 2, 0] rfl ?_
          exact ih (i + 1) v (by omega) (by rw [← hv, hl_it_s, ← hw]; rfl)
        | succ m2 ih2 =>
          intro j v hj hw
          have hvj : vp_in (nI j) 4 := vp_in_nI (by omega) (by decide)
          refine hl_iload_n h 3 dX1_payAll_11 rfl ?_
          refine hl_iconst h 4 dX1_payAll_12 (by decide) ?_
          refine hl_icmp_ge_F h 31 dX1_payAll_13 (by decide) (nI_ge (b := 4) (by omega) (by decide)) ?_
          refine hl_iload_n h 1 dX1_payAll_16 rfl ?_
          refine hl_aload_n h 0 dX1_payAll_17 rfl ?_
          refine hl_iload_n h 2 dX1_payAll_18 rfl ?_
          refine hl_iload_n h 3 dX1_payAll_19 rfl ?_
          refine hl_callViD h (st := [.int v.2]) (c_X1_pay l D cI cZ cJ a v.1 (nI i) (nI j) (by with_reducible assumption) (by with_reducible assumption)) (cwV 2 h.2.2.2.2.1 gX1_payAll_X1_pay rfl rfl rfl (by decide +kernel) ⟨Nat.le_of_ble_eq_true rfl, Nat.le_of_ble_eq_true rfl⟩) hl_wc_5 rfl dX1_payAll_20 rfl (Nat.le_of_ble_eq_true rfl) ⟨Nat.le_of_ble_eq_true rfl, Nat.le_of_ble_eq_true rfl⟩ rfl ?_
          refine hl_nmC (fun g4 e5 => ?_)
          refine hl_iadd h dX1_payAll_23 ?_
          refine hl_istore_n h [(1, .int (v.2 + (r_X1_between v.1 (nI i) (nI j)))), (0, .ref (a 5)), (2, .int (nI i)), (3, .int (nI j))] dX1_payAll_24 (by decide) rfl ?_
          refine hl_iinc h 3 (nI (j + 1)) [(3, .int (nI (j + 1))), (1, .int (v.2 + (r_X1_between v.1 (nI i) (nI j)))), (0, .ref (a 5)), (2, .int (nI i))] dX1_payAll_25 rfl (hl_inc j) (by decide) rfl ?_
          refine hl_goto h 11 dX1_payAll_28 (by decide) ?_
          refine hl_lsub [2, 1, 3, 0] rfl ?_
          subst e5
          exact ih2 (j + 1) (b_X1_payIn i j v) (by omega) (by rw [← hw, hl_it_s])
      refine hl_lsub [1, 2, 3, 0] rfl ?_
      exact lp11 4 0 z rfl rfl
  refine hl_lsub [2, 1, 0] rfl ?_
  exact lp4 4 0 (g, 0) rfl rfl
end
section
/-! What the class's own methods answer and do -/
def r_X5_distance (x y : Int32) : Int32 := if 4 - (if 0 ≤ x - y then x - y else 0 - (x - y)) < (if 0 ≤ x - y then x - y else 0 - (x - y)) then 4 - (if 0 ≤ x - y then x - y else 0 - (x - y)) else (if 0 ≤ x - y then x - y else 0 - (x - y))
def r_X5_extraOf (g : Nat → Nat → Int32) (N : Nat) (x : Int32) : Int32 := hl_it (b_X0_missedAt g x (g 23 0 - 4) (g 23 0)) 0 N 0 / 4
def r_X5_takesMore (g : Nat → Nat → Int32) (N : Nat) (x y z : Int32) : Int32 := if g 0 (x * 2 + y).toNatClampNeg + r_X5_extraOf g N x ≤ hl_it (b_X0_countFor g x y z) 0 N 0 then 0 else 1
def b_X5_findIn (g : Nat → Nat → Int32) (h k : Int32) (f : Nat) (i : Nat) (u : Int32) : Int32 :=
  if u = -1 then (if r_X5_distance h (nI i) = nI f ∧ ¬ r_X4_freeOf g (nI i) k ≤ 0 ∧ ¬ r_X2_giverFor g (nI i) = -1 then nI i else -1) else u
def b_X5_find (g : Nat → Nat → Int32) (h k : Int32) (f : Nat) (u : Int32) : Int32 := hl_it (b_X5_findIn g h k f) 0 4 u
def r_X5_findInn (g : Nat → Nat → Int32) (h k : Int32) : Int32 := hl_it (b_X5_find g h k) 0 3 (-1)
theorem hl_it_stay {α : Type} {f : Nat → α → α} {x : α} (h : ∀ i, f i x = x) : ∀ (n i : Nat), hl_it f i n x = x := by
  intro n
  induction n with
  | zero => intro i; rfl
  | succ n ih => intro i; rw [hl_it_s, h i]; exact ih (i + 1)
theorem hl_find_stayIn (g : Nat → Nat → Int32) (h k : Int32) (f : Nat) {u : Int32} (hu : ¬ u = -1) (n i : Nat) : hl_it (b_X5_findIn g h k f) i n u = u :=
  hl_it_stay (fun j => by simp [b_X5_findIn, hu]) n i
theorem hl_find_stay (g : Nat → Nat → Int32) (h k : Int32) {u : Int32} (hu : ¬ u = -1) (n i : Nat) : hl_it (b_X5_find g h k) i n u = u :=
  hl_it_stay (fun j => hl_find_stayIn g h k j hu 4 0) n i
theorem hl_nIm1 {i : Nat} (h : i < 1000000) : ¬ nI i = -1 := by
  intro e
  have h1 : (nI i).toInt = (-1 : Int32).toInt := congrArg Int32.toInt e
  rw [nI_toInt (by omega), show ((-1 : Int32).toInt) = -1 by decide] at h1
  omega
/-- who gives linen: nobody, or an inn -/
theorem hl_giver_it (g : Nat → Nat → Int32) : ∀ (n i : Nat) (u : Int32 × Int32), i + n ≤ 4 → (u.1 = -1 ∨ vp_in u.1 4) → (hl_it (b_X2_giverFor g) i n u).1 = -1 ∨ vp_in (hl_it (b_X2_giverFor g) i n u).1 4 := by
  intro n
  induction n with
  | zero => intro i u _ h; exact h
  | succ n ih =>
    intro i u hi h
    rw [hl_it_s]
    refine ih (i + 1) _ (by omega) ?_
    unfold b_X2_giverFor
    by_cases hc : g 3 i ≤ u.2
    · rw [if_pos hc]; exact h
    · rw [if_neg hc]; exact Or.inr (vp_in_nI (by omega) (by decide))
theorem hl_giver_in (g : Nat → Nat → Int32) {x : Int32} (hx : vp_in x 4) : r_X2_giverFor g x = -1 ∨ vp_in (r_X2_giverFor g x) 4 := by
  unfold r_X2_giverFor
  by_cases hc : g 3 x.toNatClampNeg ≤ 0
  · rw [if_pos hc]; exact hl_giver_it g 4 0 (-1, 0) (by omega) (Or.inl rfl)
  · rw [if_neg hc]; exact Or.inr hx
theorem hl_find_it (g : Nat → Nat → Int32) (h k : Int32) (f : Nat) : ∀ (n i : Nat) (u : Int32), i + n ≤ 4 → (u = -1 ∨ vp_in u 4) → hl_it (b_X5_findIn g h k f) i n u = -1 ∨ vp_in (hl_it (b_X5_findIn g h k f) i n u) 4 := by
  intro n
  induction n with
  | zero => intro i u _ h; exact h
  | succ n ih =>
    intro i u hi hu
    rw [hl_it_s]
    refine ih (i + 1) _ (by omega) ?_
    unfold b_X5_findIn
    by_cases hc : u = -1
    · rw [if_pos hc]
      split
      · exact Or.inr (vp_in_nI (by omega) (by decide))
      · exact Or.inl rfl
    · rw [if_neg hc]; exact hu
theorem hl_find_it2 (g : Nat → Nat → Int32) (h k : Int32) : ∀ (n i : Nat) (u : Int32), (u = -1 ∨ vp_in u 4) → hl_it (b_X5_find g h k) i n u = -1 ∨ vp_in (hl_it (b_X5_find g h k) i n u) 4 := by
  intro n
  induction n with
  | zero => intro i u h; exact h
  | succ n ih =>
    intro i u hu
    rw [hl_it_s]
    exact ih (i + 1) _ (hl_find_it g h k i 4 0 u (by omega) hu)
theorem hl_find_in (g : Nat → Nat → Int32) (h k : Int32) : r_X5_findInn g h k = -1 ∨ vp_in (r_X5_findInn g h k) 4 := hl_find_it2 g h k 3 0 (-1) (Or.inl rfl)
def f_X5_layLinen (g : Nat → Nat → Int32) (x : Int32) : Nat → Nat → Int32 :=
  if r_X2_giverFor g x = -1 then g else
    f_X2_take (if r_X2_giverFor g x = x then g else f_X1_owe g x (r_X2_giverFor g x) (1 + g 9 0)) x (r_X2_giverFor g x)
def f_X5_putUp (g : Nat → Nat → Int32) (x y : Int32) : Nat → Nat → Int32 :=
  let hm := g 11 x.toNatClampNeg
  let kd := g 12 x.toNatClampNeg
  let ph := g 1 (y * 2 + kd).toNatClampNeg
  let g1 := f_X1_receive g hm (g 1 (hm * 2 + kd).toNatClampNeg)
  let g2 := if y = hm then g1 else f_X1_owe g1 hm y ph
  let g3 := f_X5_layLinen g2 y
  let g4 := f_X4_addSleeper g3 y kd
  f_X3_add g4 (g4 10 x.toNatClampNeg) y (ph / 10)
def b_X5_burn (x y : Int32) (k : Nat) (z : (Nat → Nat → Int32) × Int32) : (Nat → Nat → Int32) × Int32 :=
  if z.2 ≤ 0 then z else
    let bt := r_X3_takeFrom z.1 (nI k) x z.2
    let z1 := f_X3_takeFrom z.1 (nI k) x z.2
    (if z1 18 k = y then z1 else f_X1_owe z1 (z1 18 k) y bt, z.2 - bt)
def f_X5_burnEarliest (g : Nat → Nat → Int32) (M : Nat) (x y n : Int32) : Nat → Nat → Int32 := (hl_it (b_X5_burn x y) 0 M (g, n)).1
def f_X5_come (g : Nat → Nat → Int32) (x : Int32) : Nat → Nat → Int32 :=
  let v := r_X5_findInn g (g 11 x.toNatClampNeg) (g 12 x.toNatClampNeg)
  let g1 := f_X0_arrive g x v
  if v = -1 then g1 else f_X5_putUp g1 x v
def f_X5_night (g : Nat → Nat → Int32) : Nat → Nat → Int32 :=
  let g2 := f_X2_endNight (f_X4_endNight g)
  hl_su g2 23 (fun _ => g2 23 0 + 1)
def hl_ok (g : Nat → Nat → Int32) (N M : Nat) : Prop := N ≤ 80 ∧ g 16 0 = nI N ∧ M ≤ 80 ∧ g 20 0 = nI M ∧ (∀ k, k < N → vp_in (g 11 k) 4 ∧ vp_in (g 12 k) 2) ∧ (∀ k, k < M → vp_in (g 18 k) 4) ∧ (g 8 0 = 0 ∨ g 8 0 = 1)
/-! which places a step leaves as they are -/
theorem fr_X1_receive (g : Nat → Nat → Int32) (x n : Int32) {k : Nat} (h : k ≠ 21) : f_X1_receive g x n k = g k := hl_su_ne _ _ h
theorem fr_X1_owe (g : Nat → Nat → Int32) (x y n : Int32) {k : Nat} (h : k ≠ 22) : f_X1_owe g x y n k = g k := by
  simp only [f_X1_owe, hl_su_ne _ _ h]
theorem fr_X2_take (g : Nat → Nat → Int32) (x y : Int32) {k : Nat} (h : k ≠ 3) (h2 : k ≠ 4) (h3 : k ≠ 9) : f_X2_take g x y k = g k := by
  unfold f_X2_take
  by_cases hc : y = x
  · simp only [if_pos hc, hl_su_ne _ _ h, hl_su_ne _ _ h2]
  · simp only [if_neg hc, hl_su_ne _ _ h, hl_su_ne _ _ h2, hl_su_ne _ _ h3]
theorem fr_X4_addSleeper (g : Nat → Nat → Int32) (x y : Int32) {k : Nat} (h : k ≠ 2) : f_X4_addSleeper g x y k = g k := hl_su_ne _ _ h
theorem fr_X5_layLinen (g : Nat → Nat → Int32) (x : Int32) {k : Nat} (h : k ≠ 3) (h2 : k ≠ 4) (h3 : k ≠ 9) (h4 : k ≠ 22) : f_X5_layLinen g x k = g k := by
  unfold f_X5_layLinen
  by_cases hc : r_X2_giverFor g x = -1
  · rw [if_pos hc]
  · rw [if_neg hc, fr_X2_take _ _ _ h h2 h3]
    by_cases hd : r_X2_giverFor g x = x
    · rw [if_pos hd]
    · rw [if_neg hd, fr_X1_owe _ _ _ _ h4]
theorem fr_X0_arrive (g : Nat → Nat → Int32) (x y : Int32) {k : Nat} (h : k ≠ 14) (h2 : k ≠ 15) : f_X0_arrive g x y k = g k := by
  simp only [f_X0_arrive, hl_su_ne _ _ h, hl_su_ne _ _ h2]
theorem fr_X3_takeFrom (g : Nat → Nat → Int32) (x y n : Int32) {k : Nat} (h : k ≠ 19) : f_X3_takeFrom g x y n k = g k := by
  unfold f_X3_takeFrom
  split
  · exact hl_su_ne _ _ h
  · rfl
theorem fr_X5_burn (x y : Int32) (i : Nat) (z : (Nat → Nat → Int32) × Int32) {k : Nat} (h : k ≠ 19) (h2 : k ≠ 22) : (b_X5_burn x y i z).1 k = z.1 k := by
  unfold b_X5_burn
  by_cases hc : z.2 ≤ 0
  · rw [if_pos hc]
  · rw [if_neg hc]
    show (if f_X3_takeFrom z.1 (nI i) x z.2 18 i = y then f_X3_takeFrom z.1 (nI i) x z.2 else _) k = z.1 k
    split
    · exact fr_X3_takeFrom _ _ _ _ h
    · rw [fr_X1_owe _ _ _ _ h2, fr_X3_takeFrom _ _ _ _ h]
theorem fr_X5_burnIt (x y : Int32) {k : Nat} (h : k ≠ 19) (h2 : k ≠ 22) : ∀ (n i : Nat) (z : (Nat → Nat → Int32) × Int32), (hl_it (b_X5_burn x y) i n z).1 k = z.1 k := by
  intro n
  induction n with
  | zero => intro i z; rfl
  | succ n ih => intro i z; rw [hl_it_s, ih, fr_X5_burn x y i z h h2]
theorem hl_burn_stay (x y : Int32) {z : (Nat → Nat → Int32) × Int32} (hz : z.2 ≤ 0) (n i : Nat) : hl_it (b_X5_burn x y) i n z = z := hl_it_stay (fun j => by unfold b_X5_burn; rw [if_pos hz]) n i
end
section
set_option maxHeartbeats 4000000 in
set_option maxRecDepth 100000 in
theorem c_X5_checkInn (l : Launch) (D : va_G) (cI cZ cJ : ClassId) (a : Nat → Nat) (g : Nat → Nat → Int32) (x : Int32) (h1 : vp_in x 4) : hl_KV D (hl_ty cI cZ cJ) l yX5_checkInn wsX5_checkInn ({ frames := 0, cells := 0, slots := 0, locals := 0 } : Room) 0 0 [.int x] (hl_WC a cI cZ g) (fun w => w = hl_WC a cI cZ g) := by
  refine hl_KV_of (cc := cX5_checkInn) (maxL := 1) (by decide) rfl (Nat.le_of_ble_eq_true rfl) ?_
  intro p e s m args below meth c A Q h hnm hend
  refine hl_ls (ls' := [(0, .int x)]) rfl ?_
  refine hl_iload_n h 0 dX5_checkInn_0 rfl ?_
  refine hl_if_lt_F h 9 dX5_checkInn_1 (by decide) (hl_in0 h1) ?_
  refine hl_iload_n h 0 dX5_checkInn_4 rfl ?_
  refine hl_iconst h 4 dX5_checkInn_5 (by decide) ?_
  refine hl_icmp_lt_T h 19 dX5_checkInn_6 (by decide) (hl_in1 4 rfl h1) ?_
  exact hend dX5_checkInn_19 (by
    exact (congrArg (hl_WC a cI cZ) (by rfl)))

set_option maxHeartbeats 4000000 in
set_option maxRecDepth 100000 in
theorem c_X5_checkKind (l : Launch) (D : va_G) (cI cZ cJ : ClassId) (a : Nat → Nat) (g : Nat → Nat → Int32) (x : Int32) (h1 : vp_in x 2) : hl_KV D (hl_ty cI cZ cJ) l yX5_checkKind wsX5_checkKind ({ frames := 0, cells := 0, slots := 0, locals := 0 } : Room) 0 0 [.int x] (hl_WC a cI cZ g) (fun w => w = hl_WC a cI cZ g) := by
  refine hl_KV_of (cc := cX5_checkKind) (maxL := 1) (by decide) rfl (Nat.le_of_ble_eq_true rfl) ?_
  intro p e s m args below meth c A Q h hnm hend
  refine hl_ls (ls' := [(0, .int x)]) rfl ?_
  refine hl_iload_n h 0 dX5_checkKind_0 rfl ?_
  refine hl_if_lt_F h 9 dX5_checkKind_1 (by decide) (hl_in0 h1) ?_
  refine hl_iload_n h 0 dX5_checkKind_4 rfl ?_
  refine hl_iconst h 2 dX5_checkKind_5 (by decide) ?_
  refine hl_icmp_lt_T h 19 dX5_checkKind_6 (by decide) (hl_in1 2 rfl h1) ?_
  exact hend dX5_checkKind_19 (by
    exact (congrArg (hl_WC a cI cZ) (by rfl)))

set_option maxHeartbeats 4000000 in
set_option maxRecDepth 100000 in
theorem c_X5_checkGuest (l : Launch) (D : va_G) (cI cZ cJ : ClassId) (a : Nat → Nat) (g : Nat → Nat → Int32) (x : Int32) (h1 : vp_in x 10) : hl_KV D (hl_ty cI cZ cJ) l yX5_checkGuest wsX5_checkGuest ({ frames := 0, cells := 0, slots := 0, locals := 0 } : Room) 0 0 [.int x] (hl_WC a cI cZ g) (fun w => w = hl_WC a cI cZ g) := by
  refine hl_KV_of (cc := cX5_checkGuest) (maxL := 1) (by decide) rfl (Nat.le_of_ble_eq_true rfl) ?_
  intro p e s m args below meth c A Q h hnm hend
  refine hl_ls (ls' := [(0, .int x)]) rfl ?_
  refine hl_iload_n h 0 dX5_checkGuest_0 rfl ?_
  refine hl_if_lt_F h 10 dX5_checkGuest_1 (by decide) (hl_in0 h1) ?_
  refine hl_iload_n h 0 dX5_checkGuest_4 rfl ?_
  refine hl_bipush h 10 dX5_checkGuest_5 (by decide) ?_
  refine hl_icmp_lt_T h 20 dX5_checkGuest_7 (by decide) (hl_in1 10 rfl h1) ?_
  exact hend dX5_checkGuest_20 (by
    exact (congrArg (hl_WC a cI cZ) (by rfl)))

set_option maxHeartbeats 4000000 in
set_option maxRecDepth 100000 in
theorem c_X5_checkBooking (l : Launch) (D : va_G) (cI cZ cJ : ClassId) (a : Nat → Nat) (g : Nat → Nat → Int32) (x : Int32) (h1 : ¬ x < 0) (h2 : x < g 16 0) : hl_KV D (hl_ty cI cZ cJ) l yX5_checkBooking wsX5_checkBooking ({ frames := 0, cells := 0, slots := 0, locals := 0 } : Room) 0 0 [.ref (a 0), .int x] (hl_WC a cI cZ g) (fun w => w = hl_WC a cI cZ g) := by
  refine hl_KV_of (cc := cX5_checkBooking) (maxL := 2) (by decide) rfl (Nat.le_of_ble_eq_true rfl) ?_
  intro p e s m args below meth c A Q h hnm hend
  have hi0 : ∀ z ∈ wsX00, z ∈ wsX5_checkBooking := by decide +kernel
  have hi5 : ∀ z ∈ wsX50, z ∈ wsX5_checkBooking := by decide +kernel
  refine hl_ls (ls' := [(0, .ref (a 0)), (1, .int x)]) rfl ?_
  refine hl_iload_n h 1 dX5_checkBooking_0 rfl ?_
  refine hl_if_lt_F h 15 dX5_checkBooking_1 (by decide) h1 ?_
  refine hl_iload_n h 1 dX5_checkBooking_4 rfl ?_
  refine hl_aload_n h 0 dX5_checkBooking_5 rfl ?_
  refine hl_get h hi5 hl_wc_0 rfl 2 rfl dX5_checkBooking_6 (by decide) (by decide +kernel) ?_
  refine hl_get h hi0 hl_wc_3 rfl 6 rfl dX5_checkBooking_9 (by decide) (by decide +kernel) ?_
  refine hl_icmp_lt_T h 25 dX5_checkBooking_12 (by decide) h2 ?_
  exact hend dX5_checkBooking_25 (by
    exact (congrArg (hl_WC a cI cZ) (by rfl)))

set_option maxHeartbeats 4000000 in
set_option maxRecDepth 100000 in
theorem c_X5_checkRange (l : Launch) (D : va_G) (cI cZ cJ : ClassId) (a : Nat → Nat) (g : Nat → Nat → Int32) (x y z : Int32) (h1 : ¬ x < y) (h2 : x ≤ z) : hl_KV D (hl_ty cI cZ cJ) l yX5_checkRange wsX5_checkRange ({ frames := 0, cells := 0, slots := 0, locals := 0 } : Room) 0 0 [.int x, .int y, .int z] (hl_WC a cI cZ g) (fun w => w = hl_WC a cI cZ g) := by
  refine hl_KV_of (cc := cX5_checkRange) (maxL := 3) (by decide) rfl (Nat.le_of_ble_eq_true rfl) ?_
  intro p e s m args below meth c A Q h hnm hend
  refine hl_ls (ls' := [(0, .int x), (1, .int y), (2, .int z)]) rfl ?_
  refine hl_iload_n h 0 dX5_checkRange_0 rfl ?_
  refine hl_iload_n h 1 dX5_checkRange_1 rfl ?_
  refine hl_icmp_lt_F h 10 dX5_checkRange_2 (by decide) h1 ?_
  refine hl_iload_n h 0 dX5_checkRange_5 rfl ?_
  refine hl_iload_n h 2 dX5_checkRange_6 rfl ?_
  refine hl_icmp_le_T h 20 dX5_checkRange_7 (by decide) h2 ?_
  exact hend dX5_checkRange_20 (by
    exact (congrArg (hl_WC a cI cZ) (by rfl)))

set_option maxHeartbeats 4000000 in
set_option maxRecDepth 100000 in
theorem c_X5_distance (l : Launch) (D : va_G) (cI cZ cJ : ClassId) (a : Nat → Nat) (g : Nat → Nat → Int32) (x y : Int32) : hl_KI D (hl_ty cI cZ cJ) l yX5_distance wsX5_distance ({ frames := 1, cells := 0, slots := 0, locals := 13 } : Room) 0 0 [.int x, .int y] (hl_WC a cI cZ g) (fun r w => r = r_X5_distance x y ∧ w = hl_WC a cI cZ g) := by
  refine hl_KI_of (cc := cX5_distance) (maxL := 3) .int rfl (fun _ => Or.inr rfl) (by decide) rfl (Nat.le_of_ble_eq_true rfl) ?_
  intro p e s m args below meth c A Q h hend
  refine hl_ls (ls' := [(0, .int x), (1, .int y)]) rfl ?_
  refine hl_iload_n h 0 dX5_distance_0 rfl ?_
  refine hl_iload_n h 1 dX5_distance_1 rfl ?_
  refine hl_isub h dX5_distance_2 ?_
  refine hl_abs h dX5_distance_3 (by decide +kernel) (by decide +kernel) (by decide +kernel) (by decide +kernel) (Nat.le_of_ble_eq_true rfl) (Nat.le_of_ble_eq_true rfl) (Nat.le_of_ble_eq_true rfl) (Nat.le_of_ble_eq_true rfl) ?_
  refine hl_istore_n h [(2, .int (if 0 ≤ (x - y) then (x - y) else 0 - (x - y))), (0, .int x), (1, .int y)] dX5_distance_6 (by decide) rfl ?_
  refine hl_iload_n h 0 dX5_distance_7 rfl ?_
  refine hl_iconst h 4 dX5_distance_8 (by decide) ?_
  refine hl_iload_n h 0 dX5_distance_9 rfl ?_
  refine hl_isub h dX5_distance_10 ?_
  refine hl_min h dX5_distance_11 (by decide +kernel) (by decide +kernel) (by decide +kernel) (by decide +kernel) (Nat.le_of_ble_eq_true rfl) (Nat.le_of_ble_eq_true rfl) (Nat.le_of_ble_eq_true rfl) (Nat.le_of_ble_eq_true rfl) ?_
  exact hend dX5_distance_14 (fun h9 => nomatch h9) (by
    exact ⟨rfl, rfl⟩)

set_option maxHeartbeats 4000000 in
set_option maxRecDepth 100000 in
theorem c_X5_extraOf (l : Launch) (D : va_G) (cI cZ cJ : ClassId) (a : Nat → Nat) (g : Nat → Nat → Int32) (x : Int32) (N M : Nat) (ho : hl_ok g N M) : hl_KI D (hl_ty cI cZ cJ) l yX5_extraOf wsX5_extraOf ({ frames := 1, cells := 0, slots := 0, locals := 25 } : Room) 0 0 [.ref (a 0), .int x] (hl_WC a cI cZ g) (fun r w => r = r_X5_extraOf g N x ∧ w = hl_WC a cI cZ g) := by
  refine hl_KI_of (cc := cX5_extraOf) (maxL := 2) .int rfl (fun _ => Or.inr rfl) (by decide) rfl (Nat.le_of_ble_eq_true rfl) ?_
  intro p e s m args below meth c A Q h hend
  have hi5 : ∀ z ∈ wsX50, z ∈ wsX5_extraOf := by decide +kernel
  obtain ⟨hN, hc, hM, hm, hbk, hpt, hbr⟩ := id ho
  refine hl_ls (ls' := [(0, .ref (a 0)), (1, .int x)]) rfl ?_
  refine hl_aload_n h 0 dX5_extraOf_0 rfl ?_
  refine hl_get h hi5 hl_wc_0 rfl 2 rfl dX5_extraOf_1 (by decide) (by decide +kernel) ?_
  refine hl_iload_n h 1 dX5_extraOf_4 rfl ?_
  refine hl_aload_n h 0 dX5_extraOf_5 rfl ?_
  refine hl_get h hi5 hl_wc_0 rfl 5 rfl dX5_extraOf_6 (by decide) (by decide +kernel) ?_
  refine hl_iconst h 4 dX5_extraOf_9 (by decide) ?_
  refine hl_isub h dX5_extraOf_10 ?_
  refine hl_aload_n h 0 dX5_extraOf_11 rfl ?_
  refine hl_get h hi5 hl_wc_0 rfl 5 rfl dX5_extraOf_12 (by decide) (by decide +kernel) ?_
  refine hl_callViD h (st := []) (c_X0_missedAt l D cI cZ cJ a g x ((g 23 0) - 4) (g 23 0) N hN (by with_reducible assumption)) (cwV 3 h.2.2.2.2.1 gX5_extraOf_X0_missedAt rfl rfl rfl (by decide +kernel) ⟨Nat.le_of_ble_eq_true rfl, Nat.le_of_ble_eq_true rfl⟩) hl_wc_3 rfl dX5_extraOf_15 rfl (Nat.le_of_ble_eq_true rfl) ⟨Nat.le_of_ble_eq_true rfl, Nat.le_of_ble_eq_true rfl⟩ rfl ?_
  refine hl_iconst h 4 dX5_extraOf_18 (by decide) ?_
  refine hl_idiv h dX5_extraOf_19 (by decide) ?_
  exact hend dX5_extraOf_20 (fun h9 => nomatch h9) (by
    exact ⟨by rfl, (congrArg (hl_WC a cI cZ) (by rfl))⟩)

set_option maxHeartbeats 4000000 in
set_option maxRecDepth 100000 in
theorem c_X5_takesMore (l : Launch) (D : va_G) (cI cZ cJ : ClassId) (a : Nat → Nat) (g : Nat → Nat → Int32) (x y z : Int32) (N M : Nat) (ho : hl_ok g N M) (h1 : vp_in x 4) (h2 : vp_in y 2) : hl_KI D (hl_ty cI cZ cJ) l yX5_takesMore wsX5_takesMore ({ frames := 2, cells := 0, slots := 0, locals := 46 } : Room) 0 0 [.ref (a 0), .int x, .int y, .int z] (hl_WC a cI cZ g) (fun r w => r = r_X5_takesMore g N x y z ∧ w = hl_WC a cI cZ g) := by
  refine hl_KI_of (cc := cX5_takesMore) (maxL := 4) .boolean rfl (fun _ => Or.inl rfl) (by decide) rfl (Nat.le_of_ble_eq_true rfl) ?_
  intro p e s m args below meth c A Q h hend
  have hi5 : ∀ z ∈ wsX50, z ∈ wsX5_takesMore := by decide +kernel
  obtain ⟨hN, hc, hM, hm, hbk, hpt, hbr⟩ := id ho
  refine hl_ls (ls' := [(0, .ref (a 0)), (1, .int x), (2, .int y), (3, .int z)]) rfl ?_
  refine hl_aload_n h 0 dX5_takesMore_0 rfl ?_
  refine hl_get h hi5 hl_wc_0 rfl 2 rfl dX5_takesMore_1 (by decide) (by decide +kernel) ?_
  refine hl_iload_n h 1 dX5_takesMore_4 rfl ?_
  refine hl_iload_n h 2 dX5_takesMore_5 rfl ?_
  refine hl_iload_n h 3 dX5_takesMore_6 rfl ?_
  refine hl_callViD h (st := []) (c_X0_countFor l D cI cZ cJ a g x y z N hN (by with_reducible assumption)) (cwV 3 h.2.2.2.2.1 gX5_takesMore_X0_countFor rfl rfl rfl (by decide +kernel) ⟨Nat.le_of_ble_eq_true rfl, Nat.le_of_ble_eq_true rfl⟩) hl_wc_3 rfl dX5_takesMore_7 rfl (Nat.le_of_ble_eq_true rfl) ⟨Nat.le_of_ble_eq_true rfl, Nat.le_of_ble_eq_true rfl⟩ rfl ?_
  refine hl_aload_n h 0 dX5_takesMore_10 rfl ?_
  refine hl_get h hi5 hl_wc_0 rfl 0 rfl dX5_takesMore_11 (by decide) (by decide +kernel) ?_
  refine hl_iload_n h 1 dX5_takesMore_14 rfl ?_
  refine hl_iload_n h 2 dX5_takesMore_15 rfl ?_
  refine hl_callViD h (st := [.int (hl_it (b_X0_countFor g x y z) 0 N 0)]) (c_X4_countOf l D cI cZ cJ a g x y (by with_reducible assumption) (by with_reducible assumption)) (cwV 2 h.2.2.2.2.1 gX5_takesMore_X4_countOf rfl rfl rfl (by decide +kernel) ⟨Nat.le_of_ble_eq_true rfl, Nat.le_of_ble_eq_true rfl⟩) hl_wc_1 rfl dX5_takesMore_16 rfl (Nat.le_of_ble_eq_true rfl) ⟨Nat.le_of_ble_eq_true rfl, Nat.le_of_ble_eq_true rfl⟩ rfl ?_
  refine hl_aload_n h 0 dX5_takesMore_19 rfl ?_
  refine hl_iload_n h 1 dX5_takesMore_20 rfl ?_
  refine hl_callViD h (st := [.int ((g 0 (x * 2 + y).toNatClampNeg)), .int (hl_it (b_X0_countFor g x y z) 0 N 0)]) (c_X5_extraOf l D cI cZ cJ a g x N M ho) (cwV 1 h.2.2.2.2.1 gX5_takesMore_X5_extraOf rfl rfl rfl (by decide +kernel) ⟨Nat.le_of_ble_eq_true rfl, Nat.le_of_ble_eq_true rfl⟩) hl_wc_0 rfl dX5_takesMore_21 rfl (Nat.le_of_ble_eq_true rfl) ⟨Nat.le_of_ble_eq_true rfl, Nat.le_of_ble_eq_true rfl⟩ rfl ?_
  refine hl_iadd h dX5_takesMore_24 ?_
  refine hl_icmp_ge h 32 dX5_takesMore_25 (by decide) (fun c10 => ?_) (fun c10 => ?_)
  · refine hl_iconst h 0 dX5_takesMore_32 (by decide) ?_
    exact hend dX5_takesMore_33 (fun _ => by decide) (by
      exact ⟨by simp only [r_X5_takesMore, if_pos c10], rfl⟩)
  · refine hl_iconst h 1 dX5_takesMore_28 (by decide) ?_
    refine hl_goto h 33 dX5_takesMore_29 (by decide) ?_
    exact hend dX5_takesMore_33 (fun _ => by decide) (by
      exact ⟨by simp only [r_X5_takesMore, if_neg c10], rfl⟩)

set_option maxHeartbeats 4000000 in
set_option maxRecDepth 100000 in
theorem c_X5_findInn (l : Launch) (D : va_G) (cI cZ cJ : ClassId) (a : Nat → Nat) (g : Nat → Nat → Int32) (x y : Int32) (h1 : vp_in y 2) : hl_KI D (hl_ty cI cZ cJ) l yX5_findInn wsX5_findInn ({ frames := 3, cells := 0, slots := 0, locals := 65 } : Room) 0 0 [.ref (a 0), .int x, .int y] (hl_WC a cI cZ g) (fun r w => r = r_X5_findInn g x y ∧ w = hl_WC a cI cZ g) := by
  refine hl_KI_of (cc := cX5_findInn) (maxL := 5) .int rfl (fun _ => Or.inr rfl) (by decide) rfl (Nat.le_of_ble_eq_true rfl) ?_
  intro p e s m args below meth c A Q h hend
  have hi5 : ∀ z ∈ wsX50, z ∈ wsX5_findInn := by decide +kernel
  refine hl_ls (ls' := [(0, .ref (a 0)), (1, .int x), (2, .int y)]) rfl ?_
  refine hl_iconst h 0 dX5_findInn_0 (by decide) ?_
  refine hl_istore_n h [(3, .int 0), (0, .ref (a 0)), (1, .int x), (2, .int y)] dX5_findInn_1 (by decide) rfl ?_
  have lp2 : ∀ (n : Nat) (i : Nat), (i + n = 3) → (hl_it (b_X5_find g x y) i n (-1) = r_X5_findInn g x y) →  hl_X p l e ({ frames := 3, cells := 0, slots := 0, locals := 65 } : Room) s m args below meth c 5 D A 0 0 Q (hl_WC a cI cZ g) 2 [(0, .ref (a 0)), (1, .int x), (2, .int y), (3, .int (nI i))] [] := by
    intro n
    induction n with
    | zero =>
      intro i hi hv
      refine hl_iload_n h 3 dX5_findInn_2 rfl ?_
      refine hl_iconst h 2 dX5_findInn_3 (by decide) ?_
      refine hl_icmp_gt_T h 67 dX5_findInn_4 (by decide) (by rw [show i = 3 by omega]; decide) ?_
      refine hl_iconst h (-1) dX5_findInn_67 (by decide) ?_
      exact hend dX5_findInn_68 (fun h9 => nomatch h9) (by
        exact ⟨hv, rfl⟩)
    | succ n ih =>
      intro i hi hv
      refine hl_iload_n h 3 dX5_findInn_2 rfl ?_
      refine hl_iconst h 2 dX5_findInn_3 (by decide) ?_
      refine hl_icmp_gt_F h 67 dX5_findInn_4 (by decide) (nI_nlt (a := 2) (by omega) (by decide)) ?_
      refine hl_iconst h 0 dX5_findInn_7 (by decide) ?_
      refine hl_istore h [(4, .int 0), (0, .ref (a 0)), (1, .int x), (2, .int y), (3, .int (nI i))] dX5_findInn_8 (by decide) rfl ?_
      have lp10 : ∀ (m2 : Nat) (j : Nat), (j + m2 = 4) → (hl_it (b_X5_findIn g x y i) j m2 (-1) = hl_it (b_X5_findIn g x y i) 0 4 (-1)) →  hl_X p l e ({ frames := 3, cells := 0, slots := 0, locals := 65 } : Room) s m args below meth c 5 D A 0 0 Q (hl_WC a cI cZ g) 10 [(0, .ref (a 0)), (1, .int x), (2, .int y), (3, .int (nI i)), (4, .int (nI j))] [] := by
        intro m2
        induction m2 with
        | zero =>
          intro j hj hw
          refine hl_iload h 4 dX5_findInn_10 rfl ?_
          refine hl_iconst h 4 dX5_findInn_12 (by decide) ?_
          refine hl_icmp_ge_T h 61 dX5_findInn_13 (by decide) (by rw [show j = 4 by omega]; decide) ?_
          refine hl_iinc h 3 (nI (i + 1)) [(3, .int (nI (i + 1))), (0, .ref (a 0)), (1, .int x), (2, .int y), (4, .int (nI j))] dX5_findInn_61 rfl (hl_inc i) (by decide) rfl ?_
          refine hl_goto h 2 dX5_findInn_64 (by decide) ?_
          refine hl_lsub [1, 2, 3, 0] rfl ?_
          exact ih (i + 1) (by omega) (by rw [← hv, hl_it_s, b_X5_find, ← hw]; rfl)
        | succ m2 ih2 =>
          intro j hj hw
          have hvj : vp_in (nI j) 4 := vp_in_nI (by omega) (by decide)
          refine hl_iload h 4 dX5_findInn_10 rfl ?_
          refine hl_iconst h 4 dX5_findInn_12 (by decide) ?_
          refine hl_icmp_ge_F h 61 dX5_findInn_13 (by decide) (nI_ge (b := 4) (by omega) (by decide)) ?_
          refine hl_iload_n h 1 dX5_findInn_16 rfl ?_
          refine hl_iload h 4 dX5_findInn_17 rfl ?_
          refine hl_callSiD h (st := []) (c_X5_distance l D cI cZ cJ a g x (nI j)) (va_cwS 2 h.2.2.2.2.1 gX5_findInn_X5_distance rfl rfl rfl (by decide +kernel) ⟨Nat.le_of_ble_eq_true rfl, Nat.le_of_ble_eq_true rfl⟩) dX5_findInn_19 rfl (Nat.le_of_ble_eq_true rfl) ⟨Nat.le_of_ble_eq_true rfl, Nat.le_of_ble_eq_true rfl⟩ rfl ?_
          refine hl_iload_n h 3 dX5_findInn_22 rfl ?_
          refine hl_icmp_ne h 55 dX5_findInn_23 (by decide) (fun c4 => ?_) (fun c4 => ?_)
          · refine hl_iinc h 4 (nI (j + 1)) [(4, .int (nI (j + 1))), (0, .ref (a 0)), (1, .int x), (2, .int y), (3, .int (nI i))] dX5_findInn_55 rfl (hl_inc j) (by decide) rfl ?_
            refine hl_goto h 10 dX5_findInn_58 (by decide) ?_
            refine hl_lsub [1, 2, 3, 4, 0] rfl ?_
            exact ih2 (j + 1) (by omega) (by rw [← hw, hl_it_s, show b_X5_findIn g x y i j (-1) = -1 from by simp [b_X5_findIn, c4]])
          · refine hl_aload_n h 0 dX5_findInn_26 rfl ?_
            refine hl_get h hi5 hl_wc_0 rfl 0 rfl dX5_findInn_27 (by decide) (by decide +kernel) ?_
            refine hl_iload h 4 dX5_findInn_30 rfl ?_
            refine hl_iload_n h 2 dX5_findInn_32 rfl ?_
            refine hl_callViD h (st := []) (c_X4_freeOf l D cI cZ cJ a g (nI j) y (by with_reducible assumption) (by with_reducible assumption)) (cwV 2 h.2.2.2.2.1 gX5_findInn_X4_freeOf rfl rfl rfl (by decide +kernel) ⟨Nat.le_of_ble_eq_true rfl, Nat.le_of_ble_eq_true rfl⟩) hl_wc_1 rfl dX5_findInn_33 rfl (Nat.le_of_ble_eq_true rfl) ⟨Nat.le_of_ble_eq_true rfl, Nat.le_of_ble_eq_true rfl⟩ rfl ?_
            refine hl_if_le h 55 dX5_findInn_36 (by decide) (fun c8 => ?_) (fun c8 => ?_)
            · refine hl_iinc h 4 (nI (j + 1)) [(4, .int (nI (j + 1))), (0, .ref (a 0)), (1, .int x), (2, .int y), (3, .int (nI i))] dX5_findInn_55 rfl (hl_inc j) (by decide) rfl ?_
              refine hl_goto h 10 dX5_findInn_58 (by decide) ?_
              refine hl_lsub [1, 2, 3, 4, 0] rfl ?_
              exact ih2 (j + 1) (by omega) (by rw [← hw, hl_it_s, show b_X5_findIn g x y i j (-1) = -1 from by simp [b_X5_findIn, c4, c8]])
            · refine hl_aload_n h 0 dX5_findInn_39 rfl ?_
              refine hl_get h hi5 hl_wc_0 rfl 1 rfl dX5_findInn_40 (by decide) (by decide +kernel) ?_
              refine hl_iload h 4 dX5_findInn_43 rfl ?_
              refine hl_callViD h (st := []) (c_X2_giverFor l D cI cZ cJ a g (nI j) (by with_reducible assumption)) (cwV 1 h.2.2.2.2.1 gX5_findInn_X2_giverFor rfl rfl rfl (by decide +kernel) ⟨Nat.le_of_ble_eq_true rfl, Nat.le_of_ble_eq_true rfl⟩) hl_wc_2 rfl dX5_findInn_45 rfl (Nat.le_of_ble_eq_true rfl) ⟨Nat.le_of_ble_eq_true rfl, Nat.le_of_ble_eq_true rfl⟩ rfl ?_
              refine hl_iconst h (-1) dX5_findInn_48 (by decide) ?_
              refine hl_icmp_eq h 55 dX5_findInn_49 (by decide) (fun c12 => ?_) (fun c12 => ?_)
              · refine hl_iinc h 4 (nI (j + 1)) [(4, .int (nI (j + 1))), (0, .ref (a 0)), (1, .int x), (2, .int y), (3, .int (nI i))] dX5_findInn_55 rfl (hl_inc j) (by decide) rfl ?_
                refine hl_goto h 10 dX5_findInn_58 (by decide) ?_
                refine hl_lsub [1, 2, 3, 4, 0] rfl ?_
                exact ih2 (j + 1) (by omega) (by rw [← hw, hl_it_s, show b_X5_findIn g x y i j (-1) = -1 from by simp [b_X5_findIn, c4, c8, c12]])
              · refine hl_iload h 4 dX5_findInn_52 rfl ?_
                exact hend dX5_findInn_54 (fun h9 => nomatch h9) (by
                  exact ⟨by rw [← hv, hl_it_s, b_X5_find, ← hw, hl_it_s, show b_X5_findIn g x y i j (-1) = nI j from by simp [b_X5_findIn, c4, c8, c12], hl_find_stayIn g x y i (hl_nIm1 (by omega)), hl_find_stay g x y (hl_nIm1 (by omega))], rfl⟩)
      refine hl_lsub [1, 2, 3, 4, 0] rfl ?_
      exact lp10 4 0 rfl rfl
  refine hl_lsub [1, 2, 3, 0] rfl ?_
  exact lp2 3 0 rfl rfl

set_option maxHeartbeats 4000000 in
set_option maxRecDepth 100000 in
theorem c_X5_layLinen (l : Launch) (D : va_G) (cI cZ cJ : ClassId) (a : Nat → Nat) (g : Nat → Nat → Int32) (x : Int32) (h1 : vp_in x 4) : hl_KV D (hl_ty cI cZ cJ) l yX5_layLinen wsX5_layLinen ({ frames := 2, cells := 0, slots := 0, locals := 44 } : Room) 0 0 [.ref (a 0), .int x] (hl_WC a cI cZ g) (fun w => w = hl_WC a cI cZ (f_X5_layLinen g x)) := by
  refine hl_KV_of (cc := cX5_layLinen) (maxL := 3) (by decide) rfl (Nat.le_of_ble_eq_true rfl) ?_
  intro p e s m args below meth c A Q h hnm hend
  have hi5 : ∀ z ∈ wsX50, z ∈ wsX5_layLinen := by decide +kernel
  refine hl_ls (ls' := [(0, .ref (a 0)), (1, .int x)]) rfl ?_
  refine hl_aload_n h 0 dX5_layLinen_0 rfl ?_
  refine hl_get h hi5 hl_wc_0 rfl 1 rfl dX5_layLinen_1 (by decide) (by decide +kernel) ?_
  refine hl_iload_n h 1 dX5_layLinen_4 rfl ?_
  refine hl_callViD h (st := []) (c_X2_giverFor l D cI cZ cJ a g x (by with_reducible assumption)) (cwV 1 h.2.2.2.2.1 gX5_layLinen_X2_giverFor rfl rfl rfl (by decide +kernel) ⟨Nat.le_of_ble_eq_true rfl, Nat.le_of_ble_eq_true rfl⟩) hl_wc_2 rfl dX5_layLinen_5 rfl (Nat.le_of_ble_eq_true rfl) ⟨Nat.le_of_ble_eq_true rfl, Nat.le_of_ble_eq_true rfl⟩ rfl ?_
  refine hl_istore_n h [(2, .int (r_X2_giverFor g x)), (0, .ref (a 0)), (1, .int x)] dX5_layLinen_8 (by decide) rfl ?_
  refine hl_iload_n h 0 dX5_layLinen_9 rfl ?_
  refine hl_iconst h (-1) dX5_layLinen_10 (by decide) ?_
  refine hl_icmp_ne h 15 dX5_layLinen_11 (by decide) (fun c4 => ?_) (fun c4 => ?_)
  · have hgv : vp_in (r_X2_giverFor g x) 4 := (hl_giver_in g h1).resolve_left c4
    refine hl_iload_n h 0 dX5_layLinen_15 rfl ?_
    refine hl_iload_n h 2 dX5_layLinen_16 rfl ?_
    refine hl_icmp_eq h 36 dX5_layLinen_17 (by decide) (fun c5 => ?_) (fun c5 => ?_)
    · refine hl_aload_n h 1 dX5_layLinen_36 rfl ?_
      refine hl_get h hi5 hl_wc_0 rfl 1 rfl dX5_layLinen_37 (by decide) (by decide +kernel) ?_
      refine hl_iload_n h 2 dX5_layLinen_40 rfl ?_
      refine hl_iload_n h 0 dX5_layLinen_41 rfl ?_
      refine hl_callVvD h (st := []) (c_X2_take l D cI cZ cJ a g x (r_X2_giverFor g x) (by with_reducible assumption) (by with_reducible assumption)) (cwV 2 h.2.2.2.2.1 gX5_layLinen_X2_take rfl rfl rfl (by decide +kernel) ⟨Nat.le_of_ble_eq_true rfl, Nat.le_of_ble_eq_true rfl⟩) hl_wc_2 rfl dX5_layLinen_42 rfl (Nat.le_of_ble_eq_true rfl) ⟨Nat.le_of_ble_eq_true rfl, Nat.le_of_ble_eq_true rfl⟩ rfl ?_
      refine hl_nmC (fun g9 e10 => ?_)
      exact hend dX5_layLinen_45 (by
        subst e10
        exact congrArg (hl_WC a cI cZ) (by simp only [f_X5_layLinen, if_neg c4, if_pos c5]))
    · refine hl_aload_n h 1 dX5_layLinen_20 rfl ?_
      refine hl_get h hi5 hl_wc_0 rfl 4 rfl dX5_layLinen_21 (by decide) (by decide +kernel) ?_
      refine hl_iload_n h 2 dX5_layLinen_24 rfl ?_
      refine hl_iload_n h 0 dX5_layLinen_25 rfl ?_
      refine hl_aload_n h 1 dX5_layLinen_26 rfl ?_
      refine hl_get h hi5 hl_wc_0 rfl 1 rfl dX5_layLinen_27 (by decide) (by decide +kernel) ?_
      refine hl_callViD h (st := [.int (r_X2_giverFor g x), .int x, .ref (a 5)]) (c_X2_chargeForBorrowing l D cI cZ cJ a g) (cwV 0 h.2.2.2.2.1 gX5_layLinen_X2_chargeForBorrowing rfl rfl rfl (by decide +kernel) ⟨Nat.le_of_ble_eq_true rfl, Nat.le_of_ble_eq_true rfl⟩) hl_wc_2 rfl dX5_layLinen_30 rfl (Nat.le_of_ble_eq_true rfl) ⟨Nat.le_of_ble_eq_true rfl, Nat.le_of_ble_eq_true rfl⟩ rfl ?_
      refine hl_callVvD h (st := []) (c_X1_owe l D cI cZ cJ a g x (r_X2_giverFor g x) (1 + g 9 0) (by with_reducible assumption) (by with_reducible assumption)) (cwV 3 h.2.2.2.2.1 gX5_layLinen_X1_owe rfl rfl rfl (by decide +kernel) ⟨Nat.le_of_ble_eq_true rfl, Nat.le_of_ble_eq_true rfl⟩) hl_wc_5 rfl dX5_layLinen_33 rfl (Nat.le_of_ble_eq_true rfl) ⟨Nat.le_of_ble_eq_true rfl, Nat.le_of_ble_eq_true rfl⟩ rfl ?_
      refine hl_nmC (fun g17 e18 => ?_)
      refine hl_aload_n h 1 dX5_layLinen_36 rfl ?_
      refine hl_get h hi5 hl_wc_0 rfl 1 rfl dX5_layLinen_37 (by decide) (by decide +kernel) ?_
      refine hl_iload_n h 2 dX5_layLinen_40 rfl ?_
      refine hl_iload_n h 0 dX5_layLinen_41 rfl ?_
      refine hl_callVvD h (st := []) (c_X2_take l D cI cZ cJ a g17 x (r_X2_giverFor g x) (by with_reducible assumption) (by with_reducible assumption)) (cwV 2 h.2.2.2.2.1 gX5_layLinen_X2_take rfl rfl rfl (by decide +kernel) ⟨Nat.le_of_ble_eq_true rfl, Nat.le_of_ble_eq_true rfl⟩) hl_wc_2 rfl dX5_layLinen_42 rfl (Nat.le_of_ble_eq_true rfl) ⟨Nat.le_of_ble_eq_true rfl, Nat.le_of_ble_eq_true rfl⟩ rfl ?_
      refine hl_nmC (fun g22 e23 => ?_)
      exact hend dX5_layLinen_45 (by
        subst e23; subst e18
        exact congrArg (hl_WC a cI cZ) (by simp only [f_X5_layLinen, if_neg c4, if_neg c5]))
  · exact hend dX5_layLinen_14 (by
      skip
      exact congrArg (hl_WC a cI cZ) (by simp only [f_X5_layLinen, if_pos c4]))

set_option maxHeartbeats 4000000 in
set_option maxRecDepth 100000 in
theorem c_X5_putUp (l : Launch) (D : va_G) (cI cZ cJ : ClassId) (a : Nat → Nat) (g : Nat → Nat → Int32) (x y : Int32) (h1 : vp_in x 80) (h2 : vp_in y 4) (h3 : vp_in (g 11 x.toNatClampNeg) 4) (h4 : vp_in (g 12 x.toNatClampNeg) 2) (M : Nat) (hM : M ≤ 80) (hm : g 20 0 = nI M) : hl_KV D (hl_ty cI cZ cJ) l yX5_putUp wsX5_putUp ({ frames := 3, cells := 0, slots := 0, locals := 66 } : Room) 0 0 [.ref (a 0), .int x, .int y] (hl_WC a cI cZ g) (fun w => w = hl_WC a cI cZ (f_X5_putUp g x y)) := by
  refine hl_KV_of (cc := cX5_putUp) (maxL := 6) (by decide) rfl (Nat.le_of_ble_eq_true rfl) ?_
  intro p e s m args below meth c A Q h hnm hend
  have hi0 : ∀ z ∈ wsX00, z ∈ wsX5_putUp := by decide +kernel
  have hi5 : ∀ z ∈ wsX50, z ∈ wsX5_putUp := by decide +kernel
  refine hl_ls (ls' := [(0, .ref (a 0)), (1, .int x), (2, .int y)]) rfl ?_
  refine hl_aload_n h 0 dX5_putUp_0 rfl ?_
  refine hl_get h hi5 hl_wc_0 rfl 2 rfl dX5_putUp_1 (by decide) (by decide +kernel) ?_
  refine hl_get h hi0 hl_wc_3 rfl 1 rfl dX5_putUp_4 (by decide) (by decide +kernel) ?_
  refine hl_iload_n h 1 dX5_putUp_7 rfl ?_
  refine hl_ild h hl_wc_15 0 rfl dX5_putUp_8 (by with_reducible assumption) ?_
  refine hl_istore_n h [(3, .int (g 11 x.toNatClampNeg)), (0, .ref (a 0)), (1, .int x), (2, .int y)] dX5_putUp_9 (by decide) rfl ?_
  refine hl_aload_n h 1 dX5_putUp_10 rfl ?_
  refine hl_get h hi5 hl_wc_0 rfl 2 rfl dX5_putUp_11 (by decide) (by decide +kernel) ?_
  refine hl_get h hi0 hl_wc_3 rfl 2 rfl dX5_putUp_14 (by decide) (by decide +kernel) ?_
  refine hl_iload_n h 2 dX5_putUp_17 rfl ?_
  refine hl_ild h hl_wc_16 0 rfl dX5_putUp_18 (by with_reducible assumption) ?_
  refine hl_istore h [(4, .int (g 12 x.toNatClampNeg)), (3, .int (g 11 x.toNatClampNeg)), (0, .ref (a 0)), (1, .int x), (2, .int y)] dX5_putUp_19 (by decide) rfl ?_
  refine hl_aload_n h 2 dX5_putUp_21 rfl ?_
  refine hl_get h hi5 hl_wc_0 rfl 0 rfl dX5_putUp_22 (by decide) (by decide +kernel) ?_
  refine hl_iload_n h 4 dX5_putUp_25 rfl ?_
  refine hl_iload h 0 dX5_putUp_26 rfl ?_
  refine hl_callViD h (st := []) (c_X4_priceOf l D cI cZ cJ a g y (g 12 x.toNatClampNeg) (by with_reducible assumption) (by with_reducible assumption)) (cwV 2 h.2.2.2.2.1 gX5_putUp_X4_priceOf rfl rfl rfl (by decide +kernel) ⟨Nat.le_of_ble_eq_true rfl, Nat.le_of_ble_eq_true rfl⟩) hl_wc_1 rfl dX5_putUp_28 rfl (Nat.le_of_ble_eq_true rfl) ⟨Nat.le_of_ble_eq_true rfl, Nat.le_of_ble_eq_true rfl⟩ rfl ?_
  refine hl_istore h [(5, .int ((g 1 (y * 2 + (g 12 x.toNatClampNeg)).toNatClampNeg))), (4, .int (g 12 x.toNatClampNeg)), (3, .int (g 11 x.toNatClampNeg)), (0, .ref (a 0)), (1, .int x), (2, .int y)] dX5_putUp_31 (by decide) rfl ?_
  refine hl_aload_n h 3 dX5_putUp_33 rfl ?_
  refine hl_get h hi5 hl_wc_0 rfl 4 rfl dX5_putUp_34 (by decide) (by decide +kernel) ?_
  refine hl_iload_n h 2 dX5_putUp_37 rfl ?_
  refine hl_aload_n h 3 dX5_putUp_38 rfl ?_
  refine hl_get h hi5 hl_wc_0 rfl 0 rfl dX5_putUp_39 (by decide) (by decide +kernel) ?_
  refine hl_iload_n h 2 dX5_putUp_42 rfl ?_
  refine hl_iload h 1 dX5_putUp_43 rfl ?_
  refine hl_callViD h (st := [.int (g 11 x.toNatClampNeg), .ref (a 5)]) (c_X4_priceOf l D cI cZ cJ a g (g 11 x.toNatClampNeg) (g 12 x.toNatClampNeg) (by with_reducible assumption) (by with_reducible assumption)) (cwV 2 h.2.2.2.2.1 gX5_putUp_X4_priceOf rfl rfl rfl (by decide +kernel) ⟨Nat.le_of_ble_eq_true rfl, Nat.le_of_ble_eq_true rfl⟩) hl_wc_1 rfl dX5_putUp_45 rfl (Nat.le_of_ble_eq_true rfl) ⟨Nat.le_of_ble_eq_true rfl, Nat.le_of_ble_eq_true rfl⟩ rfl ?_
  refine hl_callVvD h (st := []) (c_X1_receive l D cI cZ cJ a g (g 11 x.toNatClampNeg) ((g 1 ((g 11 x.toNatClampNeg) * 2 + (g 12 x.toNatClampNeg)).toNatClampNeg)) (by with_reducible assumption)) (cwV 2 h.2.2.2.2.1 gX5_putUp_X1_receive rfl rfl rfl (by decide +kernel) ⟨Nat.le_of_ble_eq_true rfl, Nat.le_of_ble_eq_true rfl⟩) hl_wc_5 rfl dX5_putUp_48 rfl (Nat.le_of_ble_eq_true rfl) ⟨Nat.le_of_ble_eq_true rfl, Nat.le_of_ble_eq_true rfl⟩ rfl ?_
  refine hl_nmC (fun g10 e11 => ?_)
  refine hl_iload_n h 5 dX5_putUp_51 rfl ?_
  refine hl_iload_n h 2 dX5_putUp_52 rfl ?_
  refine hl_icmp_eq h 67 dX5_putUp_53 (by decide) (fun c12 => ?_) (fun c12 => ?_)
  · refine hl_aload_n h 3 dX5_putUp_67 rfl ?_
    refine hl_iload_n h 5 dX5_putUp_68 rfl ?_
    refine hl_callVvD h (st := []) (c_X5_layLinen l D cI cZ cJ a g10 y (by with_reducible assumption)) (cwV 1 h.2.2.2.2.1 gX5_putUp_X5_layLinen rfl rfl rfl (by decide +kernel) ⟨Nat.le_of_ble_eq_true rfl, Nat.le_of_ble_eq_true rfl⟩) hl_wc_0 rfl dX5_putUp_69 rfl (Nat.le_of_ble_eq_true rfl) ⟨Nat.le_of_ble_eq_true rfl, Nat.le_of_ble_eq_true rfl⟩ rfl ?_
    refine hl_nmC (fun g16 e17 => ?_)
    refine hl_aload_n h 3 dX5_putUp_72 rfl ?_
    refine hl_get h hi5 hl_wc_0 rfl 0 rfl dX5_putUp_73 (by decide) (by decide +kernel) ?_
    refine hl_iload_n h 5 dX5_putUp_76 rfl ?_
    refine hl_iload h 1 dX5_putUp_77 rfl ?_
    refine hl_callVvD h (st := []) (c_X4_addSleeper l D cI cZ cJ a g16 y (g 12 x.toNatClampNeg) (by with_reducible assumption) (by with_reducible assumption)) (cwV 2 h.2.2.2.2.1 gX5_putUp_X4_addSleeper rfl rfl rfl (by decide +kernel) ⟨Nat.le_of_ble_eq_true rfl, Nat.le_of_ble_eq_true rfl⟩) hl_wc_1 rfl dX5_putUp_79 rfl (Nat.le_of_ble_eq_true rfl) ⟨Nat.le_of_ble_eq_true rfl, Nat.le_of_ble_eq_true rfl⟩ rfl ?_
    refine hl_nmC (fun g21 e22 => ?_)
    refine hl_aload_n h 3 dX5_putUp_82 rfl ?_
    refine hl_get h hi5 hl_wc_0 rfl 3 rfl dX5_putUp_83 (by decide) (by decide +kernel) ?_
    refine hl_aload_n h 3 dX5_putUp_86 rfl ?_
    refine hl_get h hi5 hl_wc_0 rfl 2 rfl dX5_putUp_87 (by decide) (by decide +kernel) ?_
    refine hl_get h hi0 hl_wc_3 rfl 0 rfl dX5_putUp_90 (by decide) (by decide +kernel) ?_
    refine hl_iload_n h 4 dX5_putUp_93 rfl ?_
    refine hl_ild h hl_wc_14 0 rfl dX5_putUp_94 (by with_reducible assumption) ?_
    refine hl_iload_n h 5 dX5_putUp_95 rfl ?_
    refine hl_iload h 0 dX5_putUp_96 rfl ?_
    refine hl_bipush h 10 dX5_putUp_98 (by decide) ?_
    refine hl_idiv h dX5_putUp_100 (by decide) ?_
    have hm4 : g21 20 0 = nI M := by simp [fr_X4_addSleeper, fr_X5_layLinen, fr_X1_owe, fr_X1_receive, fr_X0_arrive, fr_X3_takeFrom, e11, e17, e22, hm]
    refine hl_callVvD h (st := []) (c_X3_add l D cI cZ cJ a g21 (g21 10 x.toNatClampNeg) y (((g 1 (y * 2 + (g 12 x.toNatClampNeg)).toNatClampNeg)) / 10) M hM (by with_reducible assumption)) (cwV 3 h.2.2.2.2.1 gX5_putUp_X3_add rfl rfl rfl (by decide +kernel) ⟨Nat.le_of_ble_eq_true rfl, Nat.le_of_ble_eq_true rfl⟩) hl_wc_4 rfl dX5_putUp_101 rfl (Nat.le_of_ble_eq_true rfl) ⟨Nat.le_of_ble_eq_true rfl, Nat.le_of_ble_eq_true rfl⟩ rfl ?_
    refine hl_nmC (fun g26 e27 => ?_)
    exact hend dX5_putUp_104 (by
      subst e27; subst e22; subst e17; subst e11
      exact congrArg (hl_WC a cI cZ) (by simp only [f_X5_putUp, if_pos c12]))
  · refine hl_aload_n h 3 dX5_putUp_56 rfl ?_
    refine hl_get h hi5 hl_wc_0 rfl 4 rfl dX5_putUp_57 (by decide) (by decide +kernel) ?_
    refine hl_iload_n h 2 dX5_putUp_60 rfl ?_
    refine hl_iload_n h 5 dX5_putUp_61 rfl ?_
    refine hl_iload h 0 dX5_putUp_62 rfl ?_
    refine hl_callVvD h (st := []) (c_X1_owe l D cI cZ cJ a g10 (g 11 x.toNatClampNeg) y ((g 1 (y * 2 + (g 12 x.toNatClampNeg)).toNatClampNeg)) (by with_reducible assumption) (by with_reducible assumption)) (cwV 3 h.2.2.2.2.1 gX5_putUp_X1_owe rfl rfl rfl (by decide +kernel) ⟨Nat.le_of_ble_eq_true rfl, Nat.le_of_ble_eq_true rfl⟩) hl_wc_5 rfl dX5_putUp_64 rfl (Nat.le_of_ble_eq_true rfl) ⟨Nat.le_of_ble_eq_true rfl, Nat.le_of_ble_eq_true rfl⟩ rfl ?_
    refine hl_nmC (fun g31 e32 => ?_)
    refine hl_aload_n h 3 dX5_putUp_67 rfl ?_
    refine hl_iload_n h 5 dX5_putUp_68 rfl ?_
    refine hl_callVvD h (st := []) (c_X5_layLinen l D cI cZ cJ a g31 y (by with_reducible assumption)) (cwV 1 h.2.2.2.2.1 gX5_putUp_X5_layLinen rfl rfl rfl (by decide +kernel) ⟨Nat.le_of_ble_eq_true rfl, Nat.le_of_ble_eq_true rfl⟩) hl_wc_0 rfl dX5_putUp_69 rfl (Nat.le_of_ble_eq_true rfl) ⟨Nat.le_of_ble_eq_true rfl, Nat.le_of_ble_eq_true rfl⟩ rfl ?_
    refine hl_nmC (fun g36 e37 => ?_)
    refine hl_aload_n h 3 dX5_putUp_72 rfl ?_
    refine hl_get h hi5 hl_wc_0 rfl 0 rfl dX5_putUp_73 (by decide) (by decide +kernel) ?_
    refine hl_iload_n h 5 dX5_putUp_76 rfl ?_
    refine hl_iload h 1 dX5_putUp_77 rfl ?_
    refine hl_callVvD h (st := []) (c_X4_addSleeper l D cI cZ cJ a g36 y (g 12 x.toNatClampNeg) (by with_reducible assumption) (by with_reducible assumption)) (cwV 2 h.2.2.2.2.1 gX5_putUp_X4_addSleeper rfl rfl rfl (by decide +kernel) ⟨Nat.le_of_ble_eq_true rfl, Nat.le_of_ble_eq_true rfl⟩) hl_wc_1 rfl dX5_putUp_79 rfl (Nat.le_of_ble_eq_true rfl) ⟨Nat.le_of_ble_eq_true rfl, Nat.le_of_ble_eq_true rfl⟩ rfl ?_
    refine hl_nmC (fun g41 e42 => ?_)
    refine hl_aload_n h 3 dX5_putUp_82 rfl ?_
    refine hl_get h hi5 hl_wc_0 rfl 3 rfl dX5_putUp_83 (by decide) (by decide +kernel) ?_
    refine hl_aload_n h 3 dX5_putUp_86 rfl ?_
    refine hl_get h hi5 hl_wc_0 rfl 2 rfl dX5_putUp_87 (by decide) (by decide +kernel) ?_
    refine hl_get h hi0 hl_wc_3 rfl 0 rfl dX5_putUp_90 (by decide) (by decide +kernel) ?_
    refine hl_iload_n h 4 dX5_putUp_93 rfl ?_
    refine hl_ild h hl_wc_14 0 rfl dX5_putUp_94 (by with_reducible assumption) ?_
    refine hl_iload_n h 5 dX5_putUp_95 rfl ?_
    refine hl_iload h 0 dX5_putUp_96 rfl ?_
    refine hl_bipush h 10 dX5_putUp_98 (by decide) ?_
    refine hl_idiv h dX5_putUp_100 (by decide) ?_
    have hm4 : g41 20 0 = nI M := by simp [fr_X4_addSleeper, fr_X5_layLinen, fr_X1_owe, fr_X1_receive, fr_X0_arrive, fr_X3_takeFrom, e11, e32, e37, e42, hm]
    refine hl_callVvD h (st := []) (c_X3_add l D cI cZ cJ a g41 (g41 10 x.toNatClampNeg) y (((g 1 (y * 2 + (g 12 x.toNatClampNeg)).toNatClampNeg)) / 10) M hM (by with_reducible assumption)) (cwV 3 h.2.2.2.2.1 gX5_putUp_X3_add rfl rfl rfl (by decide +kernel) ⟨Nat.le_of_ble_eq_true rfl, Nat.le_of_ble_eq_true rfl⟩) hl_wc_4 rfl dX5_putUp_101 rfl (Nat.le_of_ble_eq_true rfl) ⟨Nat.le_of_ble_eq_true rfl, Nat.le_of_ble_eq_true rfl⟩ rfl ?_
    refine hl_nmC (fun g46 e47 => ?_)
    exact hend dX5_putUp_104 (by
      subst e47; subst e42; subst e37; subst e32; subst e11
      exact congrArg (hl_WC a cI cZ) (by simp only [f_X5_putUp, if_neg c12]))

set_option maxHeartbeats 4000000 in
set_option maxRecDepth 100000 in
theorem c_X5_burnEarliest (l : Launch) (D : va_G) (cI cZ cJ : ClassId) (a : Nat → Nat) (g : Nat → Nat → Int32) (x y q : Int32) (N M : Nat) (ho : hl_ok g N M) (h2 : vp_in y 4) : hl_KV D (hl_ty cI cZ cJ) l yX5_burnEarliest wsX5_burnEarliest ({ frames := 2, cells := 0, slots := 0, locals := 44 } : Room) 0 0 [.ref (a 0), .int x, .int y, .int q] (hl_WC a cI cZ g) (fun w => w = hl_WC a cI cZ (f_X5_burnEarliest g M x y q)) := by
  refine hl_KV_of (cc := cX5_burnEarliest) (maxL := 7) (by decide) rfl (Nat.le_of_ble_eq_true rfl) ?_
  intro p e s m args below meth c A Q h hnm hend
  have hi3 : ∀ z ∈ wsX30, z ∈ wsX5_burnEarliest := by decide +kernel
  have hi5 : ∀ z ∈ wsX50, z ∈ wsX5_burnEarliest := by decide +kernel
  obtain ⟨hN, hc, hM, hm, hbk, hpt, hbr⟩ := id ho
  refine hl_ls (ls' := [(0, .ref (a 0)), (1, .int x), (2, .int y), (3, .int q)]) rfl ?_
  refine hl_iload_n h 3 dX5_burnEarliest_0 rfl ?_
  refine hl_istore h [(4, .int q), (0, .ref (a 0)), (1, .int x), (2, .int y), (3, .int q)] dX5_burnEarliest_1 (by decide) rfl ?_
  refine hl_iconst h 0 dX5_burnEarliest_3 (by decide) ?_
  refine hl_istore h [(5, .int 0), (4, .int q), (0, .ref (a 0)), (1, .int x), (2, .int y), (3, .int q)] dX5_burnEarliest_4 (by decide) rfl ?_
  have lp6 : ∀ (n : Nat) (i : Nat) (z : (Nat → Nat → Int32) × Int32), (i + n = M) → (hl_it (b_X5_burn x y) i n z = hl_it (b_X5_burn x y) 0 M (g, q)) → (z.1 20 = g 20) → (z.1 18 = g 18) →  hl_X p l e ({ frames := 2, cells := 0, slots := 0, locals := 44 } : Room) s m args below meth c 7 D A 0 0 Q (hl_WC a cI cZ z.1) 6 [(0, .ref (a 0)), (1, .int x), (2, .int y), (3, .int q), (4, .int z.2), (5, .int (nI i))] [] := by
    intro n
    induction n with
    | zero =>
      intro i z hi hv hz1 hz2
      refine hl_iload h 5 dX5_burnEarliest_6 rfl ?_
      refine hl_aload_n h 0 dX5_burnEarliest_8 rfl ?_
      refine hl_get h hi5 hl_wc_0 rfl 3 rfl dX5_burnEarliest_9 (by decide) (by decide +kernel) ?_
      refine hl_get h hi3 hl_wc_4 rfl 3 rfl dX5_burnEarliest_12 (by decide) (by decide +kernel) ?_
      refine hl_icmp_ge_T h 84 dX5_burnEarliest_15 (by decide) (by rw [hz1, hm]; exact nI_le (by omega) (by omega)) ?_
      exact hend dX5_burnEarliest_84 (by
        exact congrArg (fun u : (Nat → Nat → Int32) × Int32 => hl_WC a cI cZ u.1) hv)
    | succ n ih =>
      intro i z hi hv hz1 hz2
      have hvi : vp_in (nI i) 80 := vp_in_nI (by omega) (by decide)
      refine hl_iload h 5 dX5_burnEarliest_6 rfl ?_
      refine hl_aload_n h 0 dX5_burnEarliest_8 rfl ?_
      refine hl_get h hi5 hl_wc_0 rfl 3 rfl dX5_burnEarliest_9 (by decide) (by decide +kernel) ?_
      refine hl_get h hi3 hl_wc_4 rfl 3 rfl dX5_burnEarliest_12 (by decide) (by decide +kernel) ?_
      refine hl_icmp_ge_F h 84 dX5_burnEarliest_15 (by decide) (by rw [hz1, hm]; exact nI_ge (by omega) (by omega)) ?_
      refine hl_iload h 4 dX5_burnEarliest_18 rfl ?_
      refine hl_if_le h 84 dX5_burnEarliest_20 (by decide) (fun c1 => ?_) (fun c1 => ?_)
      · exact hend dX5_burnEarliest_84 (by
          exact congrArg (fun u : (Nat → Nat → Int32) × Int32 => hl_WC a cI cZ u.1) (by rw [← hv, hl_burn_stay x y c1]))
      · refine hl_aload_n h 0 dX5_burnEarliest_23 rfl ?_
        refine hl_get h hi5 hl_wc_0 rfl 3 rfl dX5_burnEarliest_24 (by decide) (by decide +kernel) ?_
        refine hl_iload h 5 dX5_burnEarliest_27 rfl ?_
        refine hl_iload_n h 1 dX5_burnEarliest_29 rfl ?_
        refine hl_iload h 4 dX5_burnEarliest_30 rfl ?_
        refine hl_callViD h (st := []) (c_X3_takeFrom l D cI cZ cJ a z.1 (nI i) x z.2 (by with_reducible assumption)) (cwV 3 h.2.2.2.2.1 gX5_burnEarliest_X3_takeFrom rfl rfl rfl (by decide +kernel) ⟨Nat.le_of_ble_eq_true rfl, Nat.le_of_ble_eq_true rfl⟩) hl_wc_4 rfl dX5_burnEarliest_32 rfl (Nat.le_of_ble_eq_true rfl) ⟨Nat.le_of_ble_eq_true rfl, Nat.le_of_ble_eq_true rfl⟩ rfl ?_
        refine hl_nmC (fun g5 e6 => ?_)
        refine hl_istore h [(6, .int (r_X3_takeFrom z.1 (nI i) x z.2)), (0, .ref (a 0)), (1, .int x), (2, .int y), (3, .int q), (4, .int z.2), (5, .int (nI i))] dX5_burnEarliest_35 (by decide) rfl ?_
        refine hl_iload h 5 dX5_burnEarliest_37 rfl ?_
        refine hl_iload h 0 dX5_burnEarliest_39 rfl ?_
        refine hl_isub h dX5_burnEarliest_41 ?_
        refine hl_istore h [(4, .int (z.2 - (r_X3_takeFrom z.1 (nI i) x z.2))), (6, .int (r_X3_takeFrom z.1 (nI i) x z.2)), (0, .ref (a 0)), (1, .int x), (2, .int y), (3, .int q), (5, .int (nI i))] dX5_burnEarliest_42 (by decide) rfl ?_
        refine hl_aload_n h 2 dX5_burnEarliest_44 rfl ?_
        refine hl_get h hi5 hl_wc_0 rfl 3 rfl dX5_burnEarliest_45 (by decide) (by decide +kernel) ?_
        refine hl_get h hi3 hl_wc_4 rfl 1 rfl dX5_burnEarliest_48 (by decide) (by decide +kernel) ?_
        refine hl_iload h 6 dX5_burnEarliest_51 rfl ?_
        refine hl_ildN h hl_wc_21 0 rfl i dX5_burnEarliest_53 rfl (by omega) (by decide) ?_
        refine hl_iload_n h 4 dX5_burnEarliest_54 rfl ?_
        refine hl_icmp_eq h 78 dX5_burnEarliest_55 (by decide) (fun c7 => ?_) (fun c7 => ?_)
        · refine hl_iinc h 6 (nI (i + 1)) [(5, .int (nI (i + 1))), (4, .int (z.2 - (r_X3_takeFrom z.1 (nI i) x z.2))), (6, .int (r_X3_takeFrom z.1 (nI i) x z.2)), (0, .ref (a 0)), (1, .int x), (2, .int y), (3, .int q)] dX5_burnEarliest_78 rfl (hl_inc i) (by decide) rfl ?_
          refine hl_goto h 6 dX5_burnEarliest_81 (by decide) ?_
          refine hl_lsub [3, 4, 5, 6, 1, 0] rfl ?_
          exact ih (i + 1) (g5, (z.2 - (r_X3_takeFrom z.1 (nI i) x z.2))) (by omega) (by rw [← hv, hl_it_s, show b_X5_burn x y i z = (g5, (z.2 - (r_X3_takeFrom z.1 (nI i) x z.2))) from (by subst e6; unfold b_X5_burn; rw [if_neg c1]; show ((if _ then _ else _), _) = _; rw [if_pos c7])]) (by simp [fr_X4_addSleeper, fr_X5_layLinen, fr_X1_owe, fr_X1_receive, fr_X0_arrive, fr_X3_takeFrom, e6, hz1]) (by simp [fr_X4_addSleeper, fr_X5_layLinen, fr_X1_owe, fr_X1_receive, fr_X0_arrive, fr_X3_takeFrom, e6, hz2])
        · have hvs : vp_in (g5 18 i) 4 := by rw [e6, fr_X3_takeFrom _ _ _ _ (by decide), hz2]; exact hpt i (by omega)
          refine hl_aload_n h 2 dX5_burnEarliest_58 rfl ?_
          refine hl_get h hi5 hl_wc_0 rfl 4 rfl dX5_burnEarliest_59 (by decide) (by decide +kernel) ?_
          refine hl_aload_n h 2 dX5_burnEarliest_62 rfl ?_
          refine hl_get h hi5 hl_wc_0 rfl 3 rfl dX5_burnEarliest_63 (by decide) (by decide +kernel) ?_
          refine hl_get h hi3 hl_wc_4 rfl 1 rfl dX5_burnEarliest_66 (by decide) (by decide +kernel) ?_
          refine hl_iload h 6 dX5_burnEarliest_69 rfl ?_
          refine hl_ildN h hl_wc_21 0 rfl i dX5_burnEarliest_71 rfl (by omega) (by decide) ?_
          refine hl_iload_n h 4 dX5_burnEarliest_72 rfl ?_
          refine hl_iload h 1 dX5_burnEarliest_73 rfl ?_
          refine hl_callVvD h (st := []) (c_X1_owe l D cI cZ cJ a g5 (g5 18 i) y (r_X3_takeFrom z.1 (nI i) x z.2) (by with_reducible assumption) (by with_reducible assumption)) (cwV 3 h.2.2.2.2.1 gX5_burnEarliest_X1_owe rfl rfl rfl (by decide +kernel) ⟨Nat.le_of_ble_eq_true rfl, Nat.le_of_ble_eq_true rfl⟩) hl_wc_5 rfl dX5_burnEarliest_75 rfl (Nat.le_of_ble_eq_true rfl) ⟨Nat.le_of_ble_eq_true rfl, Nat.le_of_ble_eq_true rfl⟩ rfl ?_
          refine hl_nmC (fun g11 e12 => ?_)
          refine hl_iinc h 6 (nI (i + 1)) [(5, .int (nI (i + 1))), (4, .int (z.2 - (r_X3_takeFrom z.1 (nI i) x z.2))), (6, .int (r_X3_takeFrom z.1 (nI i) x z.2)), (0, .ref (a 0)), (1, .int x), (2, .int y), (3, .int q)] dX5_burnEarliest_78 rfl (hl_inc i) (by decide) rfl ?_
          refine hl_goto h 6 dX5_burnEarliest_81 (by decide) ?_
          refine hl_lsub [3, 4, 5, 6, 1, 0] rfl ?_
          exact ih (i + 1) (g11, (z.2 - (r_X3_takeFrom z.1 (nI i) x z.2))) (by omega) (by rw [← hv, hl_it_s, show b_X5_burn x y i z = (g11, (z.2 - (r_X3_takeFrom z.1 (nI i) x z.2))) from (by subst e12; subst e6; unfold b_X5_burn; rw [if_neg c1]; show ((if _ then _ else _), _) = _; rw [if_neg c7])]) (by simp [fr_X4_addSleeper, fr_X5_layLinen, fr_X1_owe, fr_X1_receive, fr_X0_arrive, fr_X3_takeFrom, e6, e12, hz1]) (by simp [fr_X4_addSleeper, fr_X5_layLinen, fr_X1_owe, fr_X1_receive, fr_X0_arrive, fr_X3_takeFrom, e6, e12, hz2])
  refine hl_lsub [2, 3, 4, 5, 1, 0] rfl ?_
  exact lp6 M 0 (g, q) (Nat.zero_add M) rfl rfl rfl

set_option maxHeartbeats 4000000 in
set_option maxRecDepth 100000 in
theorem c_X5_setRooms (l : Launch) (D : va_G) (cI cZ cJ : ClassId) (a : Nat → Nat) (g : Nat → Nat → Int32) (x y n q : Int32) (h1 : vp_in x 4) (h2 : vp_in y 2) (h3 : ¬ n < 0) (h4 : n ≤ 10) (h5 : ¬ q < 1) (h6 : q ≤ 100) : hl_KI D (hl_ty cI cZ cJ) l yX5_setRooms wsX5_setRooms ({ frames := 2, cells := 0, slots := 0, locals := 47 } : Room) 0 0 [.ref (a 0), .int x, .int y, .int n, .int q] (hl_WC a cI cZ g) (fun r w => r = g 0 (x * 2 + y).toNatClampNeg ∧ w = hl_WC a cI cZ (f_X4_change g x y n q)) := by
  refine hl_KI_of (cc := cX5_setRooms) (maxL := 5) .int rfl (fun _ => Or.inr rfl) (by decide) rfl (Nat.le_of_ble_eq_true rfl) ?_
  intro p e s m args below meth c A Q h hend
  have hi5 : ∀ z ∈ wsX50, z ∈ wsX5_setRooms := by decide +kernel
  refine hl_ls (ls' := [(0, .ref (a 0)), (1, .int x), (2, .int y), (3, .int n), (4, .int q)]) rfl ?_
  refine hl_iload_n h 1 dX5_setRooms_0 rfl ?_
  refine hl_callSvD h (st := []) (c_X5_checkInn l D cI cZ cJ a g x (by with_reducible assumption)) (va_cwS 1 h.2.2.2.2.1 gX5_setRooms_X5_checkInn rfl rfl rfl (by decide +kernel) ⟨Nat.le_of_ble_eq_true rfl, Nat.le_of_ble_eq_true rfl⟩) dX5_setRooms_1 rfl (Nat.le_of_ble_eq_true rfl) ⟨Nat.le_of_ble_eq_true rfl, Nat.le_of_ble_eq_true rfl⟩ rfl ?_
  refine hl_iload_n h 2 dX5_setRooms_4 rfl ?_
  refine hl_callSvD h (st := []) (c_X5_checkKind l D cI cZ cJ a g y (by with_reducible assumption)) (va_cwS 1 h.2.2.2.2.1 gX5_setRooms_X5_checkKind rfl rfl rfl (by decide +kernel) ⟨Nat.le_of_ble_eq_true rfl, Nat.le_of_ble_eq_true rfl⟩) dX5_setRooms_5 rfl (Nat.le_of_ble_eq_true rfl) ⟨Nat.le_of_ble_eq_true rfl, Nat.le_of_ble_eq_true rfl⟩ rfl ?_
  refine hl_iload_n h 3 dX5_setRooms_8 rfl ?_
  refine hl_iconst h 0 dX5_setRooms_9 (by decide) ?_
  refine hl_bipush h 10 dX5_setRooms_10 (by decide) ?_
  refine hl_callSvD h (st := []) (c_X5_checkRange l D cI cZ cJ a g n 0 10 (by with_reducible assumption) (by with_reducible assumption)) (va_cwS 3 h.2.2.2.2.1 gX5_setRooms_X5_checkRange rfl rfl rfl (by decide +kernel) ⟨Nat.le_of_ble_eq_true rfl, Nat.le_of_ble_eq_true rfl⟩) dX5_setRooms_12 rfl (Nat.le_of_ble_eq_true rfl) ⟨Nat.le_of_ble_eq_true rfl, Nat.le_of_ble_eq_true rfl⟩ rfl ?_
  refine hl_iload h 4 dX5_setRooms_15 rfl ?_
  refine hl_iconst h 1 dX5_setRooms_17 (by decide) ?_
  refine hl_bipush h 100 dX5_setRooms_18 (by decide) ?_
  refine hl_callSvD h (st := []) (c_X5_checkRange l D cI cZ cJ a g q 1 100 (by with_reducible assumption) (by with_reducible assumption)) (va_cwS 3 h.2.2.2.2.1 gX5_setRooms_X5_checkRange rfl rfl rfl (by decide +kernel) ⟨Nat.le_of_ble_eq_true rfl, Nat.le_of_ble_eq_true rfl⟩) dX5_setRooms_20 rfl (Nat.le_of_ble_eq_true rfl) ⟨Nat.le_of_ble_eq_true rfl, Nat.le_of_ble_eq_true rfl⟩ rfl ?_
  refine hl_aload_n h 0 dX5_setRooms_23 rfl ?_
  refine hl_get h hi5 hl_wc_0 rfl 0 rfl dX5_setRooms_24 (by decide) (by decide +kernel) ?_
  refine hl_iload_n h 1 dX5_setRooms_27 rfl ?_
  refine hl_iload_n h 2 dX5_setRooms_28 rfl ?_
  refine hl_iload_n h 3 dX5_setRooms_29 rfl ?_
  refine hl_iload h 4 dX5_setRooms_30 rfl ?_
  refine hl_callViD h (st := []) (c_X4_change l D cI cZ cJ a g x y n q (by with_reducible assumption) (by with_reducible assumption)) (cwV 4 h.2.2.2.2.1 gX5_setRooms_X4_change rfl rfl rfl (by decide +kernel) ⟨Nat.le_of_ble_eq_true rfl, Nat.le_of_ble_eq_true rfl⟩) hl_wc_1 rfl dX5_setRooms_32 rfl (Nat.le_of_ble_eq_true rfl) ⟨Nat.le_of_ble_eq_true rfl, Nat.le_of_ble_eq_true rfl⟩ rfl ?_
  refine hl_nmC (fun g16 e17 => ?_)
  exact hend dX5_setRooms_35 (fun h9 => nomatch h9) (by
    subst e17
    exact ⟨by rfl, (congrArg (hl_WC a cI cZ) (by rfl))⟩)

set_option maxHeartbeats 4000000 in
set_option maxRecDepth 100000 in
theorem c_X5_buyLinen (l : Launch) (D : va_G) (cI cZ cJ : ClassId) (a : Nat → Nat) (g : Nat → Nat → Int32) (x n : Int32) (h1 : vp_in x 4) (h3 : ¬ n < 1) (h4 : n ≤ 20) : hl_KI D (hl_ty cI cZ cJ) l yX5_buyLinen wsX5_buyLinen ({ frames := 1, cells := 0, slots := 0, locals := 22 } : Room) 0 0 [.ref (a 0), .int x, .int n] (hl_WC a cI cZ g) (fun r w => r = f_X2_addClean g x n 3 (x).toNatClampNeg ∧ w = hl_WC a cI cZ (f_X2_addClean g x n)) := by
  refine hl_KI_of (cc := cX5_buyLinen) (maxL := 3) .int rfl (fun _ => Or.inr rfl) (by decide) rfl (Nat.le_of_ble_eq_true rfl) ?_
  intro p e s m args below meth c A Q h hend
  have hi5 : ∀ z ∈ wsX50, z ∈ wsX5_buyLinen := by decide +kernel
  refine hl_ls (ls' := [(0, .ref (a 0)), (1, .int x), (2, .int n)]) rfl ?_
  refine hl_iload_n h 1 dX5_buyLinen_0 rfl ?_
  refine hl_callSvD h (st := []) (c_X5_checkInn l D cI cZ cJ a g x (by with_reducible assumption)) (va_cwS 1 h.2.2.2.2.1 gX5_buyLinen_X5_checkInn rfl rfl rfl (by decide +kernel) ⟨Nat.le_of_ble_eq_true rfl, Nat.le_of_ble_eq_true rfl⟩) dX5_buyLinen_1 rfl (Nat.le_of_ble_eq_true rfl) ⟨Nat.le_of_ble_eq_true rfl, Nat.le_of_ble_eq_true rfl⟩ rfl ?_
  refine hl_iload_n h 2 dX5_buyLinen_4 rfl ?_
  refine hl_iconst h 1 dX5_buyLinen_5 (by decide) ?_
  refine hl_bipush h 20 dX5_buyLinen_6 (by decide) ?_
  refine hl_callSvD h (st := []) (c_X5_checkRange l D cI cZ cJ a g n 1 20 (by with_reducible assumption) (by with_reducible assumption)) (va_cwS 3 h.2.2.2.2.1 gX5_buyLinen_X5_checkRange rfl rfl rfl (by decide +kernel) ⟨Nat.le_of_ble_eq_true rfl, Nat.le_of_ble_eq_true rfl⟩) dX5_buyLinen_8 rfl (Nat.le_of_ble_eq_true rfl) ⟨Nat.le_of_ble_eq_true rfl, Nat.le_of_ble_eq_true rfl⟩ rfl ?_
  refine hl_aload_n h 0 dX5_buyLinen_11 rfl ?_
  refine hl_get h hi5 hl_wc_0 rfl 1 rfl dX5_buyLinen_12 (by decide) (by decide +kernel) ?_
  refine hl_iload_n h 1 dX5_buyLinen_15 rfl ?_
  refine hl_iload_n h 2 dX5_buyLinen_16 rfl ?_
  refine hl_callViD h (st := []) (c_X2_addClean l D cI cZ cJ a g x n (by with_reducible assumption)) (cwV 2 h.2.2.2.2.1 gX5_buyLinen_X2_addClean rfl rfl rfl (by decide +kernel) ⟨Nat.le_of_ble_eq_true rfl, Nat.le_of_ble_eq_true rfl⟩) hl_wc_2 rfl dX5_buyLinen_17 rfl (Nat.le_of_ble_eq_true rfl) ⟨Nat.le_of_ble_eq_true rfl, Nat.le_of_ble_eq_true rfl⟩ rfl ?_
  refine hl_nmC (fun g10 e11 => ?_)
  exact hend dX5_buyLinen_20 (fun h9 => nomatch h9) (by
    subst e11
    exact ⟨by rfl, (congrArg (hl_WC a cI cZ) (by rfl))⟩)

set_option maxHeartbeats 4000000 in
set_option maxRecDepth 100000 in
theorem c_X5_setBroken (l : Launch) (D : va_G) (cI cZ cJ : ClassId) (a : Nat → Nat) (g : Nat → Nat → Int32) (x : Int32) (h1 : x = 0 ∨ x = 1) (h2 : g 8 0 = 0 ∨ g 8 0 = 1) : hl_KI D (hl_ty cI cZ cJ) l yX5_setBroken wsX5_setBroken ({ frames := 1, cells := 0, slots := 0, locals := 22 } : Room) 0 0 [.ref (a 0), .int x] (hl_WC a cI cZ g) (fun r w => r = g 8 0 ∧ w = hl_WC a cI cZ (hl_su g 8 (fun _ => x))) := by
  refine hl_KI_of (cc := cX5_setBroken) (maxL := 2) .boolean rfl (fun _ => Or.inl rfl) (by decide) rfl (Nat.le_of_ble_eq_true rfl) ?_
  intro p e s m args below meth c A Q h hend
  have hi5 : ∀ z ∈ wsX50, z ∈ wsX5_setBroken := by decide +kernel
  refine hl_ls (ls' := [(0, .ref (a 0)), (1, .int x)]) rfl ?_
  refine hl_aload_n h 0 dX5_setBroken_0 rfl ?_
  refine hl_get h hi5 hl_wc_0 rfl 1 rfl dX5_setBroken_1 (by decide) (by decide +kernel) ?_
  refine hl_iload_n h 1 dX5_setBroken_4 rfl ?_
  refine hl_callViD h (st := []) (c_X2_changeBroken l D cI cZ cJ a g x (by with_reducible assumption) (by with_reducible assumption)) (cwV 1 h.2.2.2.2.1 gX5_setBroken_X2_changeBroken rfl rfl rfl (by decide +kernel) ⟨Nat.le_of_ble_eq_true rfl, Nat.le_of_ble_eq_true rfl⟩) hl_wc_2 rfl dX5_setBroken_5 rfl (Nat.le_of_ble_eq_true rfl) ⟨Nat.le_of_ble_eq_true rfl, Nat.le_of_ble_eq_true rfl⟩ rfl ?_
  refine hl_nmC (fun g4 e5 => ?_)
  exact hend dX5_setBroken_8 (fun _ => h2) (by
    subst e5
    exact ⟨by rfl, (congrArg (hl_WC a cI cZ) (by rfl))⟩)

set_option maxHeartbeats 4000000 in
set_option maxRecDepth 100000 in
theorem c_X5_book (l : Launch) (D : va_G) (cI cZ cJ : ClassId) (a : Nat → Nat) (g : Nat → Nat → Int32) (x y z v : Int32) (N M : Nat) (ho : hl_ok g N M) (h1 : vp_in x 10) (h2 : vp_in y 4) (h3 : vp_in z 2) (h4 : ¬ v < g 23 0) (h5 : v ≤ g 23 0 + 10) (h6 : g 16 0 < 80) (h7 : ¬ r_X5_takesMore g N y z v = 0) : hl_KI D (hl_ty cI cZ cJ) l yX5_book wsX5_book ({ frames := 3, cells := 0, slots := 0, locals := 69 } : Room) 0 0 [.ref (a 0), .int x, .int y, .int z, .int v] (hl_WC a cI cZ g) (fun r w => r = g 16 0 ∧ w = hl_WC a cI cZ (f_X0_add g x y z v)) := by
  refine hl_KI_of (cc := cX5_book) (maxL := 5) .int rfl (fun _ => Or.inr rfl) (by decide) rfl (Nat.le_of_ble_eq_true rfl) ?_
  intro p e s m args below meth c A Q h hend
  have hi5 : ∀ z ∈ wsX50, z ∈ wsX5_book := by decide +kernel
  obtain ⟨hN, hc, hM, hm, hbk, hpt, hbr⟩ := id ho
  have h8 : vp_in (g 16 0) 80 := hl_in 80 rfl (by rw [hc]; exact nI_pos (by omega)) h6
  refine hl_ls (ls' := [(0, .ref (a 0)), (1, .int x), (2, .int y), (3, .int z), (4, .int v)]) rfl ?_
  refine hl_iload_n h 1 dX5_book_0 rfl ?_
  refine hl_callSvD h (st := []) (c_X5_checkGuest l D cI cZ cJ a g x (by with_reducible assumption)) (va_cwS 1 h.2.2.2.2.1 gX5_book_X5_checkGuest rfl rfl rfl (by decide +kernel) ⟨Nat.le_of_ble_eq_true rfl, Nat.le_of_ble_eq_true rfl⟩) dX5_book_1 rfl (Nat.le_of_ble_eq_true rfl) ⟨Nat.le_of_ble_eq_true rfl, Nat.le_of_ble_eq_true rfl⟩ rfl ?_
  refine hl_iload_n h 2 dX5_book_4 rfl ?_
  refine hl_callSvD h (st := []) (c_X5_checkInn l D cI cZ cJ a g y (by with_reducible assumption)) (va_cwS 1 h.2.2.2.2.1 gX5_book_X5_checkInn rfl rfl rfl (by decide +kernel) ⟨Nat.le_of_ble_eq_true rfl, Nat.le_of_ble_eq_true rfl⟩) dX5_book_5 rfl (Nat.le_of_ble_eq_true rfl) ⟨Nat.le_of_ble_eq_true rfl, Nat.le_of_ble_eq_true rfl⟩ rfl ?_
  refine hl_iload_n h 3 dX5_book_8 rfl ?_
  refine hl_callSvD h (st := []) (c_X5_checkKind l D cI cZ cJ a g z (by with_reducible assumption)) (va_cwS 1 h.2.2.2.2.1 gX5_book_X5_checkKind rfl rfl rfl (by decide +kernel) ⟨Nat.le_of_ble_eq_true rfl, Nat.le_of_ble_eq_true rfl⟩) dX5_book_9 rfl (Nat.le_of_ble_eq_true rfl) ⟨Nat.le_of_ble_eq_true rfl, Nat.le_of_ble_eq_true rfl⟩ rfl ?_
  refine hl_iload h 4 dX5_book_12 rfl ?_
  refine hl_aload_n h 0 dX5_book_14 rfl ?_
  refine hl_get h hi5 hl_wc_0 rfl 5 rfl dX5_book_15 (by decide) (by decide +kernel) ?_
  refine hl_aload_n h 0 dX5_book_18 rfl ?_
  refine hl_get h hi5 hl_wc_0 rfl 5 rfl dX5_book_19 (by decide) (by decide +kernel) ?_
  refine hl_bipush h 10 dX5_book_22 (by decide) ?_
  refine hl_iadd h dX5_book_24 ?_
  refine hl_callSvD h (st := []) (c_X5_checkRange l D cI cZ cJ a g v (g 23 0) ((g 23 0) + 10) (by with_reducible assumption) (by with_reducible assumption)) (va_cwS 3 h.2.2.2.2.1 gX5_book_X5_checkRange rfl rfl rfl (by decide +kernel) ⟨Nat.le_of_ble_eq_true rfl, Nat.le_of_ble_eq_true rfl⟩) dX5_book_25 rfl (Nat.le_of_ble_eq_true rfl) ⟨Nat.le_of_ble_eq_true rfl, Nat.le_of_ble_eq_true rfl⟩ rfl ?_
  refine hl_aload_n h 0 dX5_book_28 rfl ?_
  refine hl_get h hi5 hl_wc_0 rfl 2 rfl dX5_book_29 (by decide) (by decide +kernel) ?_
  refine hl_callViD h (st := []) (c_X0_isFull l D cI cZ cJ a g) (cwV 0 h.2.2.2.2.1 gX5_book_X0_isFull rfl rfl rfl (by decide +kernel) ⟨Nat.le_of_ble_eq_true rfl, Nat.le_of_ble_eq_true rfl⟩) hl_wc_3 rfl dX5_book_32 rfl (Nat.le_of_ble_eq_true rfl) ⟨Nat.le_of_ble_eq_true rfl, Nat.le_of_ble_eq_true rfl⟩ rfl ?_
  refine hl_if_ne_F h 49 dX5_book_35 (by decide) (by rw [if_pos h6]) ?_
  refine hl_aload_n h 0 dX5_book_38 rfl ?_
  refine hl_iload_n h 2 dX5_book_39 rfl ?_
  refine hl_iload_n h 3 dX5_book_40 rfl ?_
  refine hl_iload h 4 dX5_book_41 rfl ?_
  refine hl_callViD h (st := []) (c_X5_takesMore l D cI cZ cJ a g y z v N M ho (by with_reducible assumption) (by with_reducible assumption)) (cwV 3 h.2.2.2.2.1 gX5_book_X5_takesMore rfl rfl rfl (by decide +kernel) ⟨Nat.le_of_ble_eq_true rfl, Nat.le_of_ble_eq_true rfl⟩) hl_wc_0 rfl dX5_book_43 rfl (Nat.le_of_ble_eq_true rfl) ⟨Nat.le_of_ble_eq_true rfl, Nat.le_of_ble_eq_true rfl⟩ rfl ?_
  refine hl_if_ne_T h 59 dX5_book_46 (by decide) h7 ?_
  refine hl_aload_n h 0 dX5_book_59 rfl ?_
  refine hl_get h hi5 hl_wc_0 rfl 2 rfl dX5_book_60 (by decide) (by decide +kernel) ?_
  refine hl_iload_n h 1 dX5_book_63 rfl ?_
  refine hl_iload_n h 2 dX5_book_64 rfl ?_
  refine hl_iload_n h 3 dX5_book_65 rfl ?_
  refine hl_iload h 4 dX5_book_66 rfl ?_
  refine hl_callViD h (st := []) (c_X0_add l D cI cZ cJ a g x y z v (by with_reducible assumption)) (cwV 4 h.2.2.2.2.1 gX5_book_X0_add rfl rfl rfl (by decide +kernel) ⟨Nat.le_of_ble_eq_true rfl, Nat.le_of_ble_eq_true rfl⟩) hl_wc_3 rfl dX5_book_68 rfl (Nat.le_of_ble_eq_true rfl) ⟨Nat.le_of_ble_eq_true rfl, Nat.le_of_ble_eq_true rfl⟩ rfl ?_
  refine hl_nmC (fun g22 e23 => ?_)
  exact hend dX5_book_71 (fun h9 => nomatch h9) (by
    subst e23
    exact ⟨by rfl, (congrArg (hl_WC a cI cZ) (by rfl))⟩)

set_option maxHeartbeats 4000000 in
set_option maxRecDepth 100000 in
theorem c_X5_come (l : Launch) (D : va_G) (cI cZ cJ : ClassId) (a : Nat → Nat) (g : Nat → Nat → Int32) (x : Int32) (N M : Nat) (ho : hl_ok g N M) (h1 : ¬ x < 0) (h2 : x < g 16 0) (h3 : g 13 x.toNatClampNeg = g 23 0) (h4 : g 14 x.toNatClampNeg = 0) : hl_KI D (hl_ty cI cZ cJ) l yX5_come wsX5_come ({ frames := 4, cells := 0, slots := 0, locals := 91 } : Room) 0 0 [.ref (a 0), .int x] (hl_WC a cI cZ g) (fun r w => r = r_X5_findInn g (g 11 x.toNatClampNeg) (g 12 x.toNatClampNeg) ∧ w = hl_WC a cI cZ (f_X5_come g x)) := by
  refine hl_KI_of (cc := cX5_come) (maxL := 3) .int rfl (fun _ => Or.inr rfl) (by decide) rfl (Nat.le_of_ble_eq_true rfl) ?_
  intro p e s m args below meth c A Q h hend
  have hi0 : ∀ z ∈ wsX00, z ∈ wsX5_come := by decide +kernel
  have hi5 : ∀ z ∈ wsX50, z ∈ wsX5_come := by decide +kernel
  obtain ⟨hN, hc, hM, hm, hbk, hpt, hbr⟩ := id ho
  have hxN : vp_in x N := by
    refine vp_in_iff.mpr ⟨?_, ?_⟩
    · exact Int.not_lt.mp (fun z => h1 (Int32.lt_iff_toInt_lt.mpr z))
    · have z := Int32.lt_iff_toInt_lt.mp h2
      rw [hc, nI_toInt (by omega)] at z
      exact z
  have hxn : x.toNatClampNeg < N := Nat.not_le.mp (fun z => hxN (Or.inr z))
  have hx80 : vp_in x 80 := fun z => hxN (z.elim Or.inl (fun z => Or.inr (by omega)))
  have hin : vp_in (g 11 x.toNatClampNeg) 4 := (hbk _ hxn).1
  have hkd : vp_in (g 12 x.toNatClampNeg) 2 := (hbk _ hxn).2
  refine hl_ls (ls' := [(0, .ref (a 0)), (1, .int x)]) rfl ?_
  refine hl_aload_n h 0 dX5_come_0 rfl ?_
  refine hl_iload_n h 1 dX5_come_1 rfl ?_
  refine hl_callVvD h (st := []) (c_X5_checkBooking l D cI cZ cJ a g x (by with_reducible assumption) (by with_reducible assumption)) (cwV 1 h.2.2.2.2.1 gX5_come_X5_checkBooking rfl rfl rfl (by decide +kernel) ⟨Nat.le_of_ble_eq_true rfl, Nat.le_of_ble_eq_true rfl⟩) hl_wc_0 rfl dX5_come_2 rfl (Nat.le_of_ble_eq_true rfl) ⟨Nat.le_of_ble_eq_true rfl, Nat.le_of_ble_eq_true rfl⟩ rfl ?_
  refine hl_aload_n h 0 dX5_come_5 rfl ?_
  refine hl_get h hi5 hl_wc_0 rfl 2 rfl dX5_come_6 (by decide) (by decide +kernel) ?_
  refine hl_get h hi0 hl_wc_3 rfl 3 rfl dX5_come_9 (by decide) (by decide +kernel) ?_
  refine hl_iload_n h 1 dX5_come_12 rfl ?_
  refine hl_ild h hl_wc_17 0 rfl dX5_come_13 (by with_reducible assumption) ?_
  refine hl_aload_n h 0 dX5_come_14 rfl ?_
  refine hl_get h hi5 hl_wc_0 rfl 5 rfl dX5_come_15 (by decide) (by decide +kernel) ?_
  refine hl_icmp_ne_F h 33 dX5_come_18 (by decide) h3 ?_
  refine hl_aload_n h 0 dX5_come_21 rfl ?_
  refine hl_get h hi5 hl_wc_0 rfl 2 rfl dX5_come_22 (by decide) (by decide +kernel) ?_
  refine hl_get h hi0 hl_wc_3 rfl 4 rfl dX5_come_25 (by decide) (by decide +kernel) ?_
  refine hl_iload_n h 1 dX5_come_28 rfl ?_
  refine hl_zld h hl_wc_18 1 rfl dX5_come_29 (by with_reducible assumption) ?_
  refine hl_if_eq_T h 43 dX5_come_30 (by decide) h4 ?_
  refine hl_aload_n h 0 dX5_come_43 rfl ?_
  refine hl_aload_n h 0 dX5_come_44 rfl ?_
  refine hl_get h hi5 hl_wc_0 rfl 2 rfl dX5_come_45 (by decide) (by decide +kernel) ?_
  refine hl_get h hi0 hl_wc_3 rfl 1 rfl dX5_come_48 (by decide) (by decide +kernel) ?_
  refine hl_iload_n h 1 dX5_come_51 rfl ?_
  refine hl_ild h hl_wc_15 0 rfl dX5_come_52 (by with_reducible assumption) ?_
  refine hl_aload_n h 0 dX5_come_53 rfl ?_
  refine hl_get h hi5 hl_wc_0 rfl 2 rfl dX5_come_54 (by decide) (by decide +kernel) ?_
  refine hl_get h hi0 hl_wc_3 rfl 2 rfl dX5_come_57 (by decide) (by decide +kernel) ?_
  refine hl_iload_n h 1 dX5_come_60 rfl ?_
  refine hl_ild h hl_wc_16 0 rfl dX5_come_61 (by with_reducible assumption) ?_
  refine hl_callViD h (st := []) (c_X5_findInn l D cI cZ cJ a g (g 11 x.toNatClampNeg) (g 12 x.toNatClampNeg) (by with_reducible assumption)) (cwV 2 h.2.2.2.2.1 gX5_come_X5_findInn rfl rfl rfl (by decide +kernel) ⟨Nat.le_of_ble_eq_true rfl, Nat.le_of_ble_eq_true rfl⟩) hl_wc_0 rfl dX5_come_62 rfl (Nat.le_of_ble_eq_true rfl) ⟨Nat.le_of_ble_eq_true rfl, Nat.le_of_ble_eq_true rfl⟩ rfl ?_
  refine hl_istore_n h [(2, .int (r_X5_findInn g (g 11 x.toNatClampNeg) (g 12 x.toNatClampNeg))), (0, .ref (a 0)), (1, .int x)] dX5_come_65 (by decide) rfl ?_
  refine hl_aload_n h 1 dX5_come_66 rfl ?_
  refine hl_get h hi5 hl_wc_0 rfl 2 rfl dX5_come_67 (by decide) (by decide +kernel) ?_
  refine hl_iload_n h 2 dX5_come_70 rfl ?_
  refine hl_iload_n h 0 dX5_come_71 rfl ?_
  refine hl_callVvD h (st := []) (c_X0_arrive l D cI cZ cJ a g x (r_X5_findInn g (g 11 x.toNatClampNeg) (g 12 x.toNatClampNeg)) (by with_reducible assumption)) (cwV 2 h.2.2.2.2.1 gX5_come_X0_arrive rfl rfl rfl (by decide +kernel) ⟨Nat.le_of_ble_eq_true rfl, Nat.le_of_ble_eq_true rfl⟩) hl_wc_3 rfl dX5_come_72 rfl (Nat.le_of_ble_eq_true rfl) ⟨Nat.le_of_ble_eq_true rfl, Nat.le_of_ble_eq_true rfl⟩ rfl ?_
  refine hl_nmC (fun g10 e11 => ?_)
  refine hl_iload_n h 0 dX5_come_75 rfl ?_
  refine hl_iconst h (-1) dX5_come_76 (by decide) ?_
  refine hl_icmp_eq h 86 dX5_come_77 (by decide) (fun c12 => ?_) (fun c12 => ?_)
  · refine hl_iload_n h 0 dX5_come_86 rfl ?_
    exact hend dX5_come_87 (fun h9 => nomatch h9) (by
      exact ⟨rfl, congrArg (hl_WC a cI cZ) (by rw [e11]; simp only [f_X5_come, if_pos c12])⟩)
  · have hv4 : vp_in (r_X5_findInn g (g 11 x.toNatClampNeg) (g 12 x.toNatClampNeg)) 4 := (hl_find_in g _ _).resolve_left c12
    have hv5 : vp_in (g10 11 x.toNatClampNeg) 4 := by rw [e11, fr_X0_arrive _ _ _ (by decide) (by decide)]; exact hin
    have hv6 : vp_in (g10 12 x.toNatClampNeg) 2 := by rw [e11, fr_X0_arrive _ _ _ (by decide) (by decide)]; exact hkd
    have hv7 : g10 20 0 = nI M := by rw [e11, fr_X0_arrive _ _ _ (by decide) (by decide)]; exact hm
    refine hl_aload_n h 1 dX5_come_80 rfl ?_
    refine hl_iload_n h 2 dX5_come_81 rfl ?_
    refine hl_iload_n h 0 dX5_come_82 rfl ?_
    refine hl_callVvD h (st := []) (c_X5_putUp l D cI cZ cJ a g10 x (r_X5_findInn g (g 11 x.toNatClampNeg) (g 12 x.toNatClampNeg)) (by with_reducible assumption) (by with_reducible assumption) (by with_reducible assumption) (by with_reducible assumption) M hM (by with_reducible assumption)) (cwV 2 h.2.2.2.2.1 gX5_come_X5_putUp rfl rfl rfl (by decide +kernel) ⟨Nat.le_of_ble_eq_true rfl, Nat.le_of_ble_eq_true rfl⟩) hl_wc_0 rfl dX5_come_83 rfl (Nat.le_of_ble_eq_true rfl) ⟨Nat.le_of_ble_eq_true rfl, Nat.le_of_ble_eq_true rfl⟩ rfl ?_
    refine hl_nmC (fun g16 e17 => ?_)
    refine hl_iload_n h 0 dX5_come_86 rfl ?_
    exact hend dX5_come_87 (fun h9 => nomatch h9) (by
      exact ⟨rfl, congrArg (hl_WC a cI cZ) (by rw [e17, e11]; simp only [f_X5_come, if_neg c12])⟩)

set_option maxHeartbeats 4000000 in
set_option maxRecDepth 100000 in
theorem c_X5_burn (l : Launch) (D : va_G) (cI cZ cJ : ClassId) (a : Nat → Nat) (g : Nat → Nat → Int32) (x y q : Int32) (N M : Nat) (ho : hl_ok g N M) (h1 : vp_in x 10) (h2 : vp_in y 4) (h3 : ¬ q < 1) (h4 : q ≤ 100) (h5 : q ≤ hl_it (b_X3_ofGuest g x) 0 M 0) : hl_KI D (hl_ty cI cZ cJ) l yX5_burn wsX5_burn ({ frames := 3, cells := 0, slots := 0, locals := 70 } : Room) 0 0 [.ref (a 0), .int x, .int y, .int q] (hl_WC a cI cZ g) (fun r w => r = hl_it (b_X3_ofGuest (f_X5_burnEarliest g M x y q) x) 0 M 0 ∧ w = hl_WC a cI cZ (f_X5_burnEarliest g M x y q)) := by
  refine hl_KI_of (cc := cX5_burn) (maxL := 4) .int rfl (fun _ => Or.inr rfl) (by decide) rfl (Nat.le_of_ble_eq_true rfl) ?_
  intro p e s m args below meth c A Q h hend
  have hi5 : ∀ z ∈ wsX50, z ∈ wsX5_burn := by decide +kernel
  obtain ⟨hN, hc, hM, hm, hbk, hpt, hbr⟩ := id ho
  refine hl_ls (ls' := [(0, .ref (a 0)), (1, .int x), (2, .int y), (3, .int q)]) rfl ?_
  refine hl_iload_n h 1 dX5_burn_0 rfl ?_
  refine hl_callSvD h (st := []) (c_X5_checkGuest l D cI cZ cJ a g x (by with_reducible assumption)) (va_cwS 1 h.2.2.2.2.1 gX5_burn_X5_checkGuest rfl rfl rfl (by decide +kernel) ⟨Nat.le_of_ble_eq_true rfl, Nat.le_of_ble_eq_true rfl⟩) dX5_burn_1 rfl (Nat.le_of_ble_eq_true rfl) ⟨Nat.le_of_ble_eq_true rfl, Nat.le_of_ble_eq_true rfl⟩ rfl ?_
  refine hl_iload_n h 2 dX5_burn_4 rfl ?_
  refine hl_callSvD h (st := []) (c_X5_checkInn l D cI cZ cJ a g y (by with_reducible assumption)) (va_cwS 1 h.2.2.2.2.1 gX5_burn_X5_checkInn rfl rfl rfl (by decide +kernel) ⟨Nat.le_of_ble_eq_true rfl, Nat.le_of_ble_eq_true rfl⟩) dX5_burn_5 rfl (Nat.le_of_ble_eq_true rfl) ⟨Nat.le_of_ble_eq_true rfl, Nat.le_of_ble_eq_true rfl⟩ rfl ?_
  refine hl_iload_n h 3 dX5_burn_8 rfl ?_
  refine hl_iconst h 1 dX5_burn_9 (by decide) ?_
  refine hl_bipush h 100 dX5_burn_10 (by decide) ?_
  refine hl_callSvD h (st := []) (c_X5_checkRange l D cI cZ cJ a g q 1 100 (by with_reducible assumption) (by with_reducible assumption)) (va_cwS 3 h.2.2.2.2.1 gX5_burn_X5_checkRange rfl rfl rfl (by decide +kernel) ⟨Nat.le_of_ble_eq_true rfl, Nat.le_of_ble_eq_true rfl⟩) dX5_burn_12 rfl (Nat.le_of_ble_eq_true rfl) ⟨Nat.le_of_ble_eq_true rfl, Nat.le_of_ble_eq_true rfl⟩ rfl ?_
  refine hl_aload_n h 0 dX5_burn_15 rfl ?_
  refine hl_get h hi5 hl_wc_0 rfl 3 rfl dX5_burn_16 (by decide) (by decide +kernel) ?_
  refine hl_iload_n h 1 dX5_burn_19 rfl ?_
  refine hl_callViD h (st := []) (c_X3_ofGuest l D cI cZ cJ a g x M hM (by with_reducible assumption)) (cwV 1 h.2.2.2.2.1 gX5_burn_X3_ofGuest rfl rfl rfl (by decide +kernel) ⟨Nat.le_of_ble_eq_true rfl, Nat.le_of_ble_eq_true rfl⟩) hl_wc_4 rfl dX5_burn_20 rfl (Nat.le_of_ble_eq_true rfl) ⟨Nat.le_of_ble_eq_true rfl, Nat.le_of_ble_eq_true rfl⟩ rfl ?_
  refine hl_iload_n h 3 dX5_burn_23 rfl ?_
  refine hl_icmp_ge_T h 37 dX5_burn_24 (by decide) h5 ?_
  refine hl_aload_n h 0 dX5_burn_37 rfl ?_
  refine hl_iload_n h 1 dX5_burn_38 rfl ?_
  refine hl_iload_n h 2 dX5_burn_39 rfl ?_
  refine hl_iload_n h 3 dX5_burn_40 rfl ?_
  refine hl_callVvD h (st := []) (c_X5_burnEarliest l D cI cZ cJ a g x y q N M ho (by with_reducible assumption)) (cwV 3 h.2.2.2.2.1 gX5_burn_X5_burnEarliest rfl rfl rfl (by decide +kernel) ⟨Nat.le_of_ble_eq_true rfl, Nat.le_of_ble_eq_true rfl⟩) hl_wc_0 rfl dX5_burn_41 rfl (Nat.le_of_ble_eq_true rfl) ⟨Nat.le_of_ble_eq_true rfl, Nat.le_of_ble_eq_true rfl⟩ rfl ?_
  refine hl_nmC (fun g16 e17 => ?_)
  have hm4 : g16 20 0 = nI M := by rw [e17, f_X5_burnEarliest, fr_X5_burnIt x y (by decide) (by decide)]; exact hm
  refine hl_aload_n h 0 dX5_burn_44 rfl ?_
  refine hl_get h hi5 hl_wc_0 rfl 3 rfl dX5_burn_45 (by decide) (by decide +kernel) ?_
  refine hl_iload_n h 1 dX5_burn_48 rfl ?_
  refine hl_callViD h (st := []) (c_X3_ofGuest l D cI cZ cJ a g16 x M hM (by with_reducible assumption)) (cwV 1 h.2.2.2.2.1 gX5_burn_X3_ofGuest rfl rfl rfl (by decide +kernel) ⟨Nat.le_of_ble_eq_true rfl, Nat.le_of_ble_eq_true rfl⟩) hl_wc_4 rfl dX5_burn_49 rfl (Nat.le_of_ble_eq_true rfl) ⟨Nat.le_of_ble_eq_true rfl, Nat.le_of_ble_eq_true rfl⟩ rfl ?_
  exact hend dX5_burn_52 (fun h9 => nomatch h9) (by
    subst e17
    exact ⟨by rfl, (congrArg (hl_WC a cI cZ) (by rfl))⟩)

set_option maxHeartbeats 4000000 in
set_option maxRecDepth 100000 in
theorem c_X5_night (l : Launch) (D : va_G) (cI cZ cJ : ClassId) (a : Nat → Nat) (g : Nat → Nat → Int32) (N M : Nat) (ho : hl_ok g N M) (h1 : g 23 0 < 300) : hl_KI D (hl_ty cI cZ cJ) l yX5_night wsX5_night ({ frames := 1, cells := 0, slots := 0, locals := 23 } : Room) 0 0 [.ref (a 0)] (hl_WC a cI cZ g) (fun r w => r = hl_it (b_X0_missedIn g (g 23 0)) 0 N 0 ∧ w = hl_WC a cI cZ (f_X5_night g)) := by
  refine hl_KI_of (cc := cX5_night) (maxL := 2) .int rfl (fun _ => Or.inr rfl) (by decide) rfl (Nat.le_of_ble_eq_true rfl) ?_
  intro p e s m args below meth c A Q h hend
  have hi5 : ∀ z ∈ wsX50, z ∈ wsX5_night := by decide +kernel
  obtain ⟨hN, hc, hM, hm, hbk, hpt, hbr⟩ := id ho
  refine hl_ls (ls' := [(0, .ref (a 0))]) rfl ?_
  refine hl_aload_n h 0 dX5_night_0 rfl ?_
  refine hl_get h hi5 hl_wc_0 rfl 5 rfl dX5_night_1 (by decide) (by decide +kernel) ?_
  refine hl_sipush h 300 dX5_night_4 (by decide) ?_
  refine hl_icmp_lt_T h 20 dX5_night_7 (by decide) h1 ?_
  refine hl_aload_n h 0 dX5_night_20 rfl ?_
  refine hl_get h hi5 hl_wc_0 rfl 2 rfl dX5_night_21 (by decide) (by decide +kernel) ?_
  refine hl_aload_n h 0 dX5_night_24 rfl ?_
  refine hl_get h hi5 hl_wc_0 rfl 5 rfl dX5_night_25 (by decide) (by decide +kernel) ?_
  refine hl_callViD h (st := []) (c_X0_missedIn l D cI cZ cJ a g (g 23 0) N hN (by with_reducible assumption)) (cwV 1 h.2.2.2.2.1 gX5_night_X0_missedIn rfl rfl rfl (by decide +kernel) ⟨Nat.le_of_ble_eq_true rfl, Nat.le_of_ble_eq_true rfl⟩) hl_wc_3 rfl dX5_night_28 rfl (Nat.le_of_ble_eq_true rfl) ⟨Nat.le_of_ble_eq_true rfl, Nat.le_of_ble_eq_true rfl⟩ rfl ?_
  refine hl_istore_n h [(1, .int (hl_it (b_X0_missedIn g (g 23 0)) 0 N 0)), (0, .ref (a 0))] dX5_night_31 (by decide) rfl ?_
  refine hl_aload_n h 1 dX5_night_32 rfl ?_
  refine hl_get h hi5 hl_wc_0 rfl 0 rfl dX5_night_33 (by decide) (by decide +kernel) ?_
  refine hl_callVvD h (st := []) (c_X4_endNight l D cI cZ cJ a g) (cwV 0 h.2.2.2.2.1 gX5_night_X4_endNight rfl rfl rfl (by decide +kernel) ⟨Nat.le_of_ble_eq_true rfl, Nat.le_of_ble_eq_true rfl⟩) hl_wc_1 rfl dX5_night_36 rfl (Nat.le_of_ble_eq_true rfl) ⟨Nat.le_of_ble_eq_true rfl, Nat.le_of_ble_eq_true rfl⟩ rfl ?_
  refine hl_nmC (fun g7 e8 => ?_)
  refine hl_aload_n h 1 dX5_night_39 rfl ?_
  refine hl_get h hi5 hl_wc_0 rfl 1 rfl dX5_night_40 (by decide) (by decide +kernel) ?_
  refine hl_callVvD h (st := []) (c_X2_endNight l D cI cZ cJ a g7) (cwV 0 h.2.2.2.2.1 gX5_night_X2_endNight rfl rfl rfl (by decide +kernel) ⟨Nat.le_of_ble_eq_true rfl, Nat.le_of_ble_eq_true rfl⟩) hl_wc_2 rfl dX5_night_43 rfl (Nat.le_of_ble_eq_true rfl) ⟨Nat.le_of_ble_eq_true rfl, Nat.le_of_ble_eq_true rfl⟩ rfl ?_
  refine hl_nmC (fun g12 e13 => ?_)
  refine hl_aload_n h 1 dX5_night_46 rfl ?_
  refine hl_dup h dX5_night_47 rfl ?_
  refine hl_get h hi5 hl_wc_0 rfl 5 rfl dX5_night_48 (by decide) (by decide +kernel) ?_
  refine hl_iconst h 1 dX5_night_51 (by decide) ?_
  refine hl_iadd h dX5_night_52 ?_
  refine hl_put h hi5 tyX5_ok nmX5 hl_wc_0 rfl 5 dX5_night_53 (by decide) (by decide +kernel) (by decide) rfl rfl (Nat.le_of_ble_eq_true rfl) hl_wc_s23 ?_
  refine hl_nmC (fun g14 e15 => ?_)
  refine hl_iload_n h 0 dX5_night_56 rfl ?_
  exact hend dX5_night_57 (fun h9 => nomatch h9) (by
    subst e15; subst e13; subst e8
    exact ⟨by rfl, (congrArg (hl_WC a cI cZ) (by rfl))⟩)

set_option maxHeartbeats 4000000 in
set_option maxRecDepth 100000 in
theorem c_X5_settle (l : Launch) (D : va_G) (cI cZ cJ : ClassId) (a : Nat → Nat) (g : Nat → Nat → Int32) : hl_KI D (hl_ty cI cZ cJ) l yX5_settle wsX5_settle ({ frames := 4, cells := 0, slots := 0, locals := 90 } : Room) 0 0 [.ref (a 0)] (hl_WC a cI cZ g) (fun r w => r = (hl_it b_X1_payAll 0 4 (g, 0)).2 ∧ w = hl_WC a cI cZ ((hl_it b_X1_payAll 0 4 (g, 0)).1)) := by
  refine hl_KI_of (cc := cX5_settle) (maxL := 1) .int rfl (fun _ => Or.inr rfl) (by decide) rfl (Nat.le_of_ble_eq_true rfl) ?_
  intro p e s m args below meth c A Q h hend
  have hi5 : ∀ z ∈ wsX50, z ∈ wsX5_settle := by decide +kernel
  refine hl_ls (ls' := [(0, .ref (a 0))]) rfl ?_
  refine hl_aload_n h 0 dX5_settle_0 rfl ?_
  refine hl_get h hi5 hl_wc_0 rfl 4 rfl dX5_settle_1 (by decide) (by decide +kernel) ?_
  refine hl_callViD h (st := []) (c_X1_payAll l D cI cZ cJ a g) (cwV 0 h.2.2.2.2.1 gX5_settle_X1_payAll rfl rfl rfl (by decide +kernel) ⟨Nat.le_of_ble_eq_true rfl, Nat.le_of_ble_eq_true rfl⟩) hl_wc_5 rfl dX5_settle_4 rfl (Nat.le_of_ble_eq_true rfl) ⟨Nat.le_of_ble_eq_true rfl, Nat.le_of_ble_eq_true rfl⟩ rfl ?_
  refine hl_nmC (fun g4 e5 => ?_)
  exact hend dX5_settle_7 (fun h9 => nomatch h9) (by
    subst e5
    exact ⟨by rfl, (congrArg (hl_WC a cI cZ) (by rfl))⟩)

set_option maxHeartbeats 4000000 in
set_option maxRecDepth 100000 in
theorem c_X5_today (l : Launch) (D : va_G) (cI cZ cJ : ClassId) (a : Nat → Nat) (g : Nat → Nat → Int32) : hl_KI D (hl_ty cI cZ cJ) l yX5_today wsX5_today ({ frames := 0, cells := 0, slots := 0, locals := 0 } : Room) 0 0 [.ref (a 0)] (hl_WC a cI cZ g) (fun r w => r = g 23 0 ∧ w = hl_WC a cI cZ g) := by
  refine hl_KI_of (cc := cX5_today) (maxL := 1) .int rfl (fun _ => Or.inr rfl) (by decide) rfl (Nat.le_of_ble_eq_true rfl) ?_
  intro p e s m args below meth c A Q h hend
  have hi5 : ∀ z ∈ wsX50, z ∈ wsX5_today := by decide +kernel
  refine hl_ls (ls' := [(0, .ref (a 0))]) rfl ?_
  refine hl_aload_n h 0 dX5_today_0 rfl ?_
  refine hl_get h hi5 hl_wc_0 rfl 5 rfl dX5_today_1 (by decide) (by decide +kernel) ?_
  exact hend dX5_today_4 (fun h9 => nomatch h9) (by
    exact ⟨by rfl, (congrArg (hl_WC a cI cZ) (by rfl))⟩)

set_option maxHeartbeats 4000000 in
set_option maxRecDepth 100000 in
theorem c_X5_bookings (l : Launch) (D : va_G) (cI cZ cJ : ClassId) (a : Nat → Nat) (g : Nat → Nat → Int32) : hl_KI D (hl_ty cI cZ cJ) l yX5_bookings wsX5_bookings ({ frames := 0, cells := 0, slots := 0, locals := 0 } : Room) 0 0 [.ref (a 0)] (hl_WC a cI cZ g) (fun r w => r = g 16 0 ∧ w = hl_WC a cI cZ g) := by
  refine hl_KI_of (cc := cX5_bookings) (maxL := 1) .int rfl (fun _ => Or.inr rfl) (by decide) rfl (Nat.le_of_ble_eq_true rfl) ?_
  intro p e s m args below meth c A Q h hend
  have hi0 : ∀ z ∈ wsX00, z ∈ wsX5_bookings := by decide +kernel
  have hi5 : ∀ z ∈ wsX50, z ∈ wsX5_bookings := by decide +kernel
  refine hl_ls (ls' := [(0, .ref (a 0))]) rfl ?_
  refine hl_aload_n h 0 dX5_bookings_0 rfl ?_
  refine hl_get h hi5 hl_wc_0 rfl 2 rfl dX5_bookings_1 (by decide) (by decide +kernel) ?_
  refine hl_get h hi0 hl_wc_3 rfl 6 rfl dX5_bookings_4 (by decide) (by decide +kernel) ?_
  exact hend dX5_bookings_7 (fun h9 => nomatch h9) (by
    exact ⟨by rfl, (congrArg (hl_WC a cI cZ) (by rfl))⟩)

set_option maxHeartbeats 4000000 in
set_option maxRecDepth 100000 in
theorem c_X5_free (l : Launch) (D : va_G) (cI cZ cJ : ClassId) (a : Nat → Nat) (g : Nat → Nat → Int32) (x y : Int32) (h1 : vp_in x 4) (h2 : vp_in y 2) : hl_KI D (hl_ty cI cZ cJ) l yX5_free wsX5_free ({ frames := 3, cells := 0, slots := 0, locals := 65 } : Room) 0 0 [.ref (a 0), .int x, .int y] (hl_WC a cI cZ g) (fun r w => r = r_X4_freeOf g x y ∧ w = hl_WC a cI cZ g) := by
  refine hl_KI_of (cc := cX5_free) (maxL := 3) .int rfl (fun _ => Or.inr rfl) (by decide) rfl (Nat.le_of_ble_eq_true rfl) ?_
  intro p e s m args below meth c A Q h hend
  have hi5 : ∀ z ∈ wsX50, z ∈ wsX5_free := by decide +kernel
  refine hl_ls (ls' := [(0, .ref (a 0)), (1, .int x), (2, .int y)]) rfl ?_
  refine hl_iload_n h 1 dX5_free_0 rfl ?_
  refine hl_callSvD h (st := []) (c_X5_checkInn l D cI cZ cJ a g x (by with_reducible assumption)) (va_cwS 1 h.2.2.2.2.1 gX5_free_X5_checkInn rfl rfl rfl (by decide +kernel) ⟨Nat.le_of_ble_eq_true rfl, Nat.le_of_ble_eq_true rfl⟩) dX5_free_1 rfl (Nat.le_of_ble_eq_true rfl) ⟨Nat.le_of_ble_eq_true rfl, Nat.le_of_ble_eq_true rfl⟩ rfl ?_
  refine hl_iload_n h 2 dX5_free_4 rfl ?_
  refine hl_callSvD h (st := []) (c_X5_checkKind l D cI cZ cJ a g y (by with_reducible assumption)) (va_cwS 1 h.2.2.2.2.1 gX5_free_X5_checkKind rfl rfl rfl (by decide +kernel) ⟨Nat.le_of_ble_eq_true rfl, Nat.le_of_ble_eq_true rfl⟩) dX5_free_5 rfl (Nat.le_of_ble_eq_true rfl) ⟨Nat.le_of_ble_eq_true rfl, Nat.le_of_ble_eq_true rfl⟩ rfl ?_
  refine hl_aload_n h 0 dX5_free_8 rfl ?_
  refine hl_get h hi5 hl_wc_0 rfl 0 rfl dX5_free_9 (by decide) (by decide +kernel) ?_
  refine hl_iload_n h 1 dX5_free_12 rfl ?_
  refine hl_iload_n h 2 dX5_free_13 rfl ?_
  refine hl_callViD h (st := []) (c_X4_freeOf l D cI cZ cJ a g x y (by with_reducible assumption) (by with_reducible assumption)) (cwV 2 h.2.2.2.2.1 gX5_free_X4_freeOf rfl rfl rfl (by decide +kernel) ⟨Nat.le_of_ble_eq_true rfl, Nat.le_of_ble_eq_true rfl⟩) hl_wc_1 rfl dX5_free_14 rfl (Nat.le_of_ble_eq_true rfl) ⟨Nat.le_of_ble_eq_true rfl, Nat.le_of_ble_eq_true rfl⟩ rfl ?_
  exact hend dX5_free_17 (fun h9 => nomatch h9) (by
    exact ⟨by rfl, (congrArg (hl_WC a cI cZ) (by rfl))⟩)

set_option maxHeartbeats 4000000 in
set_option maxRecDepth 100000 in
theorem c_X5_taken (l : Launch) (D : va_G) (cI cZ cJ : ClassId) (a : Nat → Nat) (g : Nat → Nat → Int32) (x y : Int32) (h1 : vp_in x 4) (h2 : vp_in y 2) : hl_KI D (hl_ty cI cZ cJ) l yX5_taken wsX5_taken ({ frames := 2, cells := 0, slots := 0, locals := 43 } : Room) 0 0 [.ref (a 0), .int x, .int y] (hl_WC a cI cZ g) (fun r w => r = g 2 (x * 2 + y).toNatClampNeg ∧ w = hl_WC a cI cZ g) := by
  refine hl_KI_of (cc := cX5_taken) (maxL := 3) .int rfl (fun _ => Or.inr rfl) (by decide) rfl (Nat.le_of_ble_eq_true rfl) ?_
  intro p e s m args below meth c A Q h hend
  have hi5 : ∀ z ∈ wsX50, z ∈ wsX5_taken := by decide +kernel
  refine hl_ls (ls' := [(0, .ref (a 0)), (1, .int x), (2, .int y)]) rfl ?_
  refine hl_iload_n h 1 dX5_taken_0 rfl ?_
  refine hl_callSvD h (st := []) (c_X5_checkInn l D cI cZ cJ a g x (by with_reducible assumption)) (va_cwS 1 h.2.2.2.2.1 gX5_taken_X5_checkInn rfl rfl rfl (by decide +kernel) ⟨Nat.le_of_ble_eq_true rfl, Nat.le_of_ble_eq_true rfl⟩) dX5_taken_1 rfl (Nat.le_of_ble_eq_true rfl) ⟨Nat.le_of_ble_eq_true rfl, Nat.le_of_ble_eq_true rfl⟩ rfl ?_
  refine hl_iload_n h 2 dX5_taken_4 rfl ?_
  refine hl_callSvD h (st := []) (c_X5_checkKind l D cI cZ cJ a g y (by with_reducible assumption)) (va_cwS 1 h.2.2.2.2.1 gX5_taken_X5_checkKind rfl rfl rfl (by decide +kernel) ⟨Nat.le_of_ble_eq_true rfl, Nat.le_of_ble_eq_true rfl⟩) dX5_taken_5 rfl (Nat.le_of_ble_eq_true rfl) ⟨Nat.le_of_ble_eq_true rfl, Nat.le_of_ble_eq_true rfl⟩ rfl ?_
  refine hl_aload_n h 0 dX5_taken_8 rfl ?_
  refine hl_get h hi5 hl_wc_0 rfl 0 rfl dX5_taken_9 (by decide) (by decide +kernel) ?_
  refine hl_iload_n h 1 dX5_taken_12 rfl ?_
  refine hl_iload_n h 2 dX5_taken_13 rfl ?_
  refine hl_callViD h (st := []) (c_X4_sleepersOf l D cI cZ cJ a g x y (by with_reducible assumption) (by with_reducible assumption)) (cwV 2 h.2.2.2.2.1 gX5_taken_X4_sleepersOf rfl rfl rfl (by decide +kernel) ⟨Nat.le_of_ble_eq_true rfl, Nat.le_of_ble_eq_true rfl⟩) hl_wc_1 rfl dX5_taken_14 rfl (Nat.le_of_ble_eq_true rfl) ⟨Nat.le_of_ble_eq_true rfl, Nat.le_of_ble_eq_true rfl⟩ rfl ?_
  exact hend dX5_taken_17 (fun h9 => nomatch h9) (by
    exact ⟨by rfl, (congrArg (hl_WC a cI cZ) (by rfl))⟩)

set_option maxHeartbeats 4000000 in
set_option maxRecDepth 100000 in
theorem c_X5_takenByBookings (l : Launch) (D : va_G) (cI cZ cJ : ClassId) (a : Nat → Nat) (g : Nat → Nat → Int32) (x y : Int32) (N M : Nat) (ho : hl_ok g N M) (h1 : vp_in x 4) (h2 : vp_in y 2) : hl_KI D (hl_ty cI cZ cJ) l yX5_takenByBookings wsX5_takenByBookings ({ frames := 1, cells := 0, slots := 0, locals := 25 } : Room) 0 0 [.ref (a 0), .int x, .int y] (hl_WC a cI cZ g) (fun r w => r = hl_it (b_X0_sleepersAt g x y (g 23 0)) 0 N 0 ∧ w = hl_WC a cI cZ g) := by
  refine hl_KI_of (cc := cX5_takenByBookings) (maxL := 3) .int rfl (fun _ => Or.inr rfl) (by decide) rfl (Nat.le_of_ble_eq_true rfl) ?_
  intro p e s m args below meth c A Q h hend
  have hi5 : ∀ z ∈ wsX50, z ∈ wsX5_takenByBookings := by decide +kernel
  obtain ⟨hN, hc, hM, hm, hbk, hpt, hbr⟩ := id ho
  refine hl_ls (ls' := [(0, .ref (a 0)), (1, .int x), (2, .int y)]) rfl ?_
  refine hl_iload_n h 1 dX5_takenByBookings_0 rfl ?_
  refine hl_callSvD h (st := []) (c_X5_checkInn l D cI cZ cJ a g x (by with_reducible assumption)) (va_cwS 1 h.2.2.2.2.1 gX5_takenByBookings_X5_checkInn rfl rfl rfl (by decide +kernel) ⟨Nat.le_of_ble_eq_true rfl, Nat.le_of_ble_eq_true rfl⟩) dX5_takenByBookings_1 rfl (Nat.le_of_ble_eq_true rfl) ⟨Nat.le_of_ble_eq_true rfl, Nat.le_of_ble_eq_true rfl⟩ rfl ?_
  refine hl_iload_n h 2 dX5_takenByBookings_4 rfl ?_
  refine hl_callSvD h (st := []) (c_X5_checkKind l D cI cZ cJ a g y (by with_reducible assumption)) (va_cwS 1 h.2.2.2.2.1 gX5_takenByBookings_X5_checkKind rfl rfl rfl (by decide +kernel) ⟨Nat.le_of_ble_eq_true rfl, Nat.le_of_ble_eq_true rfl⟩) dX5_takenByBookings_5 rfl (Nat.le_of_ble_eq_true rfl) ⟨Nat.le_of_ble_eq_true rfl, Nat.le_of_ble_eq_true rfl⟩ rfl ?_
  refine hl_aload_n h 0 dX5_takenByBookings_8 rfl ?_
  refine hl_get h hi5 hl_wc_0 rfl 2 rfl dX5_takenByBookings_9 (by decide) (by decide +kernel) ?_
  refine hl_iload_n h 1 dX5_takenByBookings_12 rfl ?_
  refine hl_iload_n h 2 dX5_takenByBookings_13 rfl ?_
  refine hl_aload_n h 0 dX5_takenByBookings_14 rfl ?_
  refine hl_get h hi5 hl_wc_0 rfl 5 rfl dX5_takenByBookings_15 (by decide) (by decide +kernel) ?_
  refine hl_callViD h (st := []) (c_X0_sleepersAt l D cI cZ cJ a g x y (g 23 0) N hN (by with_reducible assumption)) (cwV 3 h.2.2.2.2.1 gX5_takenByBookings_X0_sleepersAt rfl rfl rfl (by decide +kernel) ⟨Nat.le_of_ble_eq_true rfl, Nat.le_of_ble_eq_true rfl⟩) hl_wc_3 rfl dX5_takenByBookings_18 rfl (Nat.le_of_ble_eq_true rfl) ⟨Nat.le_of_ble_eq_true rfl, Nat.le_of_ble_eq_true rfl⟩ rfl ?_
  exact hend dX5_takenByBookings_21 (fun h9 => nomatch h9) (by
    exact ⟨by rfl, (congrArg (hl_WC a cI cZ) (by rfl))⟩)

set_option maxHeartbeats 4000000 in
set_option maxRecDepth 100000 in
theorem c_X5_extra (l : Launch) (D : va_G) (cI cZ cJ : ClassId) (a : Nat → Nat) (g : Nat → Nat → Int32) (x : Int32) (N M : Nat) (ho : hl_ok g N M) (h1 : vp_in x 4) : hl_KI D (hl_ty cI cZ cJ) l yX5_extra wsX5_extra ({ frames := 2, cells := 0, slots := 0, locals := 46 } : Room) 0 0 [.ref (a 0), .int x] (hl_WC a cI cZ g) (fun r w => r = r_X5_extraOf g N x ∧ w = hl_WC a cI cZ g) := by
  refine hl_KI_of (cc := cX5_extra) (maxL := 2) .int rfl (fun _ => Or.inr rfl) (by decide) rfl (Nat.le_of_ble_eq_true rfl) ?_
  intro p e s m args below meth c A Q h hend
  refine hl_ls (ls' := [(0, .ref (a 0)), (1, .int x)]) rfl ?_
  refine hl_iload_n h 1 dX5_extra_0 rfl ?_
  refine hl_callSvD h (st := []) (c_X5_checkInn l D cI cZ cJ a g x (by with_reducible assumption)) (va_cwS 1 h.2.2.2.2.1 gX5_extra_X5_checkInn rfl rfl rfl (by decide +kernel) ⟨Nat.le_of_ble_eq_true rfl, Nat.le_of_ble_eq_true rfl⟩) dX5_extra_1 rfl (Nat.le_of_ble_eq_true rfl) ⟨Nat.le_of_ble_eq_true rfl, Nat.le_of_ble_eq_true rfl⟩ rfl ?_
  refine hl_aload_n h 0 dX5_extra_4 rfl ?_
  refine hl_iload_n h 1 dX5_extra_5 rfl ?_
  refine hl_callViD h (st := []) (c_X5_extraOf l D cI cZ cJ a g x N M ho) (cwV 1 h.2.2.2.2.1 gX5_extra_X5_extraOf rfl rfl rfl (by decide +kernel) ⟨Nat.le_of_ble_eq_true rfl, Nat.le_of_ble_eq_true rfl⟩) hl_wc_0 rfl dX5_extra_6 rfl (Nat.le_of_ble_eq_true rfl) ⟨Nat.le_of_ble_eq_true rfl, Nat.le_of_ble_eq_true rfl⟩ rfl ?_
  exact hend dX5_extra_9 (fun h9 => nomatch h9) (by
    exact ⟨by rfl, (congrArg (hl_WC a cI cZ) (by rfl))⟩)

set_option maxHeartbeats 4000000 in
set_option maxRecDepth 100000 in
theorem c_X5_clean (l : Launch) (D : va_G) (cI cZ cJ : ClassId) (a : Nat → Nat) (g : Nat → Nat → Int32) (x : Int32) (h1 : vp_in x 4) : hl_KI D (hl_ty cI cZ cJ) l yX5_clean wsX5_clean ({ frames := 1, cells := 0, slots := 0, locals := 20 } : Room) 0 0 [.ref (a 0), .int x] (hl_WC a cI cZ g) (fun r w => r = g 3 x.toNatClampNeg ∧ w = hl_WC a cI cZ g) := by
  refine hl_KI_of (cc := cX5_clean) (maxL := 2) .int rfl (fun _ => Or.inr rfl) (by decide) rfl (Nat.le_of_ble_eq_true rfl) ?_
  intro p e s m args below meth c A Q h hend
  have hi2 : ∀ z ∈ wsX20, z ∈ wsX5_clean := by decide +kernel
  have hi5 : ∀ z ∈ wsX50, z ∈ wsX5_clean := by decide +kernel
  refine hl_ls (ls' := [(0, .ref (a 0)), (1, .int x)]) rfl ?_
  refine hl_iload_n h 1 dX5_clean_0 rfl ?_
  refine hl_callSvD h (st := []) (c_X5_checkInn l D cI cZ cJ a g x (by with_reducible assumption)) (va_cwS 1 h.2.2.2.2.1 gX5_clean_X5_checkInn rfl rfl rfl (by decide +kernel) ⟨Nat.le_of_ble_eq_true rfl, Nat.le_of_ble_eq_true rfl⟩) dX5_clean_1 rfl (Nat.le_of_ble_eq_true rfl) ⟨Nat.le_of_ble_eq_true rfl, Nat.le_of_ble_eq_true rfl⟩ rfl ?_
  refine hl_aload_n h 0 dX5_clean_4 rfl ?_
  refine hl_get h hi5 hl_wc_0 rfl 1 rfl dX5_clean_5 (by decide) (by decide +kernel) ?_
  refine hl_get h hi2 hl_wc_2 rfl 0 rfl dX5_clean_8 (by decide) (by decide +kernel) ?_
  refine hl_iload_n h 1 dX5_clean_11 rfl ?_
  refine hl_ild h hl_wc_9 0 rfl dX5_clean_12 (by with_reducible assumption) ?_
  exact hend dX5_clean_13 (fun h9 => nomatch h9) (by
    exact ⟨by rfl, (congrArg (hl_WC a cI cZ) (by rfl))⟩)

set_option maxHeartbeats 4000000 in
set_option maxRecDepth 100000 in
theorem c_X5_away (l : Launch) (D : va_G) (cI cZ cJ : ClassId) (a : Nat → Nat) (g : Nat → Nat → Int32) (x : Int32) (h1 : vp_in x 4) : hl_KI D (hl_ty cI cZ cJ) l yX5_away wsX5_away ({ frames := 1, cells := 0, slots := 0, locals := 21 } : Room) 0 0 [.ref (a 0), .int x] (hl_WC a cI cZ g) (fun r w => r = r_X2_awayOf g x ∧ w = hl_WC a cI cZ g) := by
  refine hl_KI_of (cc := cX5_away) (maxL := 2) .int rfl (fun _ => Or.inr rfl) (by decide) rfl (Nat.le_of_ble_eq_true rfl) ?_
  intro p e s m args below meth c A Q h hend
  have hi5 : ∀ z ∈ wsX50, z ∈ wsX5_away := by decide +kernel
  refine hl_ls (ls' := [(0, .ref (a 0)), (1, .int x)]) rfl ?_
  refine hl_iload_n h 1 dX5_away_0 rfl ?_
  refine hl_callSvD h (st := []) (c_X5_checkInn l D cI cZ cJ a g x (by with_reducible assumption)) (va_cwS 1 h.2.2.2.2.1 gX5_away_X5_checkInn rfl rfl rfl (by decide +kernel) ⟨Nat.le_of_ble_eq_true rfl, Nat.le_of_ble_eq_true rfl⟩) dX5_away_1 rfl (Nat.le_of_ble_eq_true rfl) ⟨Nat.le_of_ble_eq_true rfl, Nat.le_of_ble_eq_true rfl⟩ rfl ?_
  refine hl_aload_n h 0 dX5_away_4 rfl ?_
  refine hl_get h hi5 hl_wc_0 rfl 1 rfl dX5_away_5 (by decide) (by decide +kernel) ?_
  refine hl_iload_n h 1 dX5_away_8 rfl ?_
  refine hl_callViD h (st := []) (c_X2_awayOf l D cI cZ cJ a g x (by with_reducible assumption)) (cwV 1 h.2.2.2.2.1 gX5_away_X2_awayOf rfl rfl rfl (by decide +kernel) ⟨Nat.le_of_ble_eq_true rfl, Nat.le_of_ble_eq_true rfl⟩) hl_wc_2 rfl dX5_away_9 rfl (Nat.le_of_ble_eq_true rfl) ⟨Nat.le_of_ble_eq_true rfl, Nat.le_of_ble_eq_true rfl⟩ rfl ?_
  exact hend dX5_away_12 (fun h9 => nomatch h9) (by
    exact ⟨by rfl, (congrArg (hl_WC a cI cZ) (by rfl))⟩)

set_option maxHeartbeats 4000000 in
set_option maxRecDepth 100000 in
theorem c_X5_sleeps (l : Launch) (D : va_G) (cI cZ cJ : ClassId) (a : Nat → Nat) (g : Nat → Nat → Int32) (x : Int32) (N M : Nat) (ho : hl_ok g N M) (h1 : ¬ x < 0) (h2 : x < g 16 0) : hl_KI D (hl_ty cI cZ cJ) l yX5_sleeps wsX5_sleeps ({ frames := 1, cells := 0, slots := 0, locals := 21 } : Room) 0 0 [.ref (a 0), .int x] (hl_WC a cI cZ g) (fun r w => r = g 15 x.toNatClampNeg ∧ w = hl_WC a cI cZ g) := by
  refine hl_KI_of (cc := cX5_sleeps) (maxL := 2) .int rfl (fun _ => Or.inr rfl) (by decide) rfl (Nat.le_of_ble_eq_true rfl) ?_
  intro p e s m args below meth c A Q h hend
  have hi0 : ∀ z ∈ wsX00, z ∈ wsX5_sleeps := by decide +kernel
  have hi5 : ∀ z ∈ wsX50, z ∈ wsX5_sleeps := by decide +kernel
  obtain ⟨hN, hc, hM, hm, hbk, hpt, hbr⟩ := id ho
  have hxN : vp_in x N := by
    refine vp_in_iff.mpr ⟨?_, ?_⟩
    · exact Int.not_lt.mp (fun z => h1 (Int32.lt_iff_toInt_lt.mpr z))
    · have z := Int32.lt_iff_toInt_lt.mp h2
      rw [hc, nI_toInt (by omega)] at z
      exact z
  have hxn : x.toNatClampNeg < N := Nat.not_le.mp (fun z => hxN (Or.inr z))
  have hx80 : vp_in x 80 := fun z => hxN (z.elim Or.inl (fun z => Or.inr (by omega)))
  have hin : vp_in (g 11 x.toNatClampNeg) 4 := (hbk _ hxn).1
  have hkd : vp_in (g 12 x.toNatClampNeg) 2 := (hbk _ hxn).2
  refine hl_ls (ls' := [(0, .ref (a 0)), (1, .int x)]) rfl ?_
  refine hl_aload_n h 0 dX5_sleeps_0 rfl ?_
  refine hl_iload_n h 1 dX5_sleeps_1 rfl ?_
  refine hl_callVvD h (st := []) (c_X5_checkBooking l D cI cZ cJ a g x (by with_reducible assumption) (by with_reducible assumption)) (cwV 1 h.2.2.2.2.1 gX5_sleeps_X5_checkBooking rfl rfl rfl (by decide +kernel) ⟨Nat.le_of_ble_eq_true rfl, Nat.le_of_ble_eq_true rfl⟩) hl_wc_0 rfl dX5_sleeps_2 rfl (Nat.le_of_ble_eq_true rfl) ⟨Nat.le_of_ble_eq_true rfl, Nat.le_of_ble_eq_true rfl⟩ rfl ?_
  refine hl_aload_n h 0 dX5_sleeps_5 rfl ?_
  refine hl_get h hi5 hl_wc_0 rfl 2 rfl dX5_sleeps_6 (by decide) (by decide +kernel) ?_
  refine hl_get h hi0 hl_wc_3 rfl 5 rfl dX5_sleeps_9 (by decide) (by decide +kernel) ?_
  refine hl_iload_n h 1 dX5_sleeps_12 rfl ?_
  refine hl_ild h hl_wc_19 0 rfl dX5_sleeps_13 (by with_reducible assumption) ?_
  exact hend dX5_sleeps_14 (fun h9 => nomatch h9) (by
    exact ⟨by rfl, (congrArg (hl_WC a cI cZ) (by rfl))⟩)

set_option maxHeartbeats 4000000 in
set_option maxRecDepth 100000 in
theorem c_X5_points (l : Launch) (D : va_G) (cI cZ cJ : ClassId) (a : Nat → Nat) (g : Nat → Nat → Int32) (x : Int32) (N M : Nat) (ho : hl_ok g N M) (h1 : vp_in x 10) : hl_KI D (hl_ty cI cZ cJ) l yX5_points wsX5_points ({ frames := 1, cells := 0, slots := 0, locals := 23 } : Room) 0 0 [.ref (a 0), .int x] (hl_WC a cI cZ g) (fun r w => r = hl_it (b_X3_ofGuest g x) 0 M 0 ∧ w = hl_WC a cI cZ g) := by
  refine hl_KI_of (cc := cX5_points) (maxL := 2) .int rfl (fun _ => Or.inr rfl) (by decide) rfl (Nat.le_of_ble_eq_true rfl) ?_
  intro p e s m args below meth c A Q h hend
  have hi5 : ∀ z ∈ wsX50, z ∈ wsX5_points := by decide +kernel
  obtain ⟨hN, hc, hM, hm, hbk, hpt, hbr⟩ := id ho
  refine hl_ls (ls' := [(0, .ref (a 0)), (1, .int x)]) rfl ?_
  refine hl_iload_n h 1 dX5_points_0 rfl ?_
  refine hl_callSvD h (st := []) (c_X5_checkGuest l D cI cZ cJ a g x (by with_reducible assumption)) (va_cwS 1 h.2.2.2.2.1 gX5_points_X5_checkGuest rfl rfl rfl (by decide +kernel) ⟨Nat.le_of_ble_eq_true rfl, Nat.le_of_ble_eq_true rfl⟩) dX5_points_1 rfl (Nat.le_of_ble_eq_true rfl) ⟨Nat.le_of_ble_eq_true rfl, Nat.le_of_ble_eq_true rfl⟩ rfl ?_
  refine hl_aload_n h 0 dX5_points_4 rfl ?_
  refine hl_get h hi5 hl_wc_0 rfl 3 rfl dX5_points_5 (by decide) (by decide +kernel) ?_
  refine hl_iload_n h 1 dX5_points_8 rfl ?_
  refine hl_callViD h (st := []) (c_X3_ofGuest l D cI cZ cJ a g x M hM (by with_reducible assumption)) (cwV 1 h.2.2.2.2.1 gX5_points_X3_ofGuest rfl rfl rfl (by decide +kernel) ⟨Nat.le_of_ble_eq_true rfl, Nat.le_of_ble_eq_true rfl⟩) hl_wc_4 rfl dX5_points_9 rfl (Nat.le_of_ble_eq_true rfl) ⟨Nat.le_of_ble_eq_true rfl, Nat.le_of_ble_eq_true rfl⟩ rfl ?_
  exact hend dX5_points_12 (fun h9 => nomatch h9) (by
    exact ⟨by rfl, (congrArg (hl_WC a cI cZ) (by rfl))⟩)

set_option maxHeartbeats 4000000 in
set_option maxRecDepth 100000 in
theorem c_X5_owes (l : Launch) (D : va_G) (cI cZ cJ : ClassId) (a : Nat → Nat) (g : Nat → Nat → Int32) (x y : Int32) (h1 : vp_in x 4) (h2 : vp_in y 4) : hl_KI D (hl_ty cI cZ cJ) l yX5_owes wsX5_owes ({ frames := 2, cells := 0, slots := 0, locals := 43 } : Room) 0 0 [.ref (a 0), .int x, .int y] (hl_WC a cI cZ g) (fun r w => r = r_X1_between g x y ∧ w = hl_WC a cI cZ g) := by
  refine hl_KI_of (cc := cX5_owes) (maxL := 3) .int rfl (fun _ => Or.inr rfl) (by decide) rfl (Nat.le_of_ble_eq_true rfl) ?_
  intro p e s m args below meth c A Q h hend
  have hi5 : ∀ z ∈ wsX50, z ∈ wsX5_owes := by decide +kernel
  refine hl_ls (ls' := [(0, .ref (a 0)), (1, .int x), (2, .int y)]) rfl ?_
  refine hl_iload_n h 1 dX5_owes_0 rfl ?_
  refine hl_callSvD h (st := []) (c_X5_checkInn l D cI cZ cJ a g x (by with_reducible assumption)) (va_cwS 1 h.2.2.2.2.1 gX5_owes_X5_checkInn rfl rfl rfl (by decide +kernel) ⟨Nat.le_of_ble_eq_true rfl, Nat.le_of_ble_eq_true rfl⟩) dX5_owes_1 rfl (Nat.le_of_ble_eq_true rfl) ⟨Nat.le_of_ble_eq_true rfl, Nat.le_of_ble_eq_true rfl⟩ rfl ?_
  refine hl_iload_n h 2 dX5_owes_4 rfl ?_
  refine hl_callSvD h (st := []) (c_X5_checkInn l D cI cZ cJ a g y (by with_reducible assumption)) (va_cwS 1 h.2.2.2.2.1 gX5_owes_X5_checkInn rfl rfl rfl (by decide +kernel) ⟨Nat.le_of_ble_eq_true rfl, Nat.le_of_ble_eq_true rfl⟩) dX5_owes_5 rfl (Nat.le_of_ble_eq_true rfl) ⟨Nat.le_of_ble_eq_true rfl, Nat.le_of_ble_eq_true rfl⟩ rfl ?_
  refine hl_aload_n h 0 dX5_owes_8 rfl ?_
  refine hl_get h hi5 hl_wc_0 rfl 4 rfl dX5_owes_9 (by decide) (by decide +kernel) ?_
  refine hl_iload_n h 1 dX5_owes_12 rfl ?_
  refine hl_iload_n h 2 dX5_owes_13 rfl ?_
  refine hl_callViD h (st := []) (c_X1_between l D cI cZ cJ a g x y (by with_reducible assumption) (by with_reducible assumption)) (cwV 2 h.2.2.2.2.1 gX5_owes_X1_between rfl rfl rfl (by decide +kernel) ⟨Nat.le_of_ble_eq_true rfl, Nat.le_of_ble_eq_true rfl⟩) hl_wc_5 rfl dX5_owes_14 rfl (Nat.le_of_ble_eq_true rfl) ⟨Nat.le_of_ble_eq_true rfl, Nat.le_of_ble_eq_true rfl⟩ rfl ?_
  exact hend dX5_owes_17 (fun h9 => nomatch h9) (by
    exact ⟨by rfl, (congrArg (hl_WC a cI cZ) (by rfl))⟩)

set_option maxHeartbeats 4000000 in
set_option maxRecDepth 100000 in
theorem c_X5_purse (l : Launch) (D : va_G) (cI cZ cJ : ClassId) (a : Nat → Nat) (g : Nat → Nat → Int32) (x : Int32) (h1 : vp_in x 4) : hl_KI D (hl_ty cI cZ cJ) l yX5_purse wsX5_purse ({ frames := 1, cells := 0, slots := 0, locals := 20 } : Room) 0 0 [.ref (a 0), .int x] (hl_WC a cI cZ g) (fun r w => r = g 21 x.toNatClampNeg ∧ w = hl_WC a cI cZ g) := by
  refine hl_KI_of (cc := cX5_purse) (maxL := 2) .int rfl (fun _ => Or.inr rfl) (by decide) rfl (Nat.le_of_ble_eq_true rfl) ?_
  intro p e s m args below meth c A Q h hend
  have hi1 : ∀ z ∈ wsX10, z ∈ wsX5_purse := by decide +kernel
  have hi5 : ∀ z ∈ wsX50, z ∈ wsX5_purse := by decide +kernel
  refine hl_ls (ls' := [(0, .ref (a 0)), (1, .int x)]) rfl ?_
  refine hl_iload_n h 1 dX5_purse_0 rfl ?_
  refine hl_callSvD h (st := []) (c_X5_checkInn l D cI cZ cJ a g x (by with_reducible assumption)) (va_cwS 1 h.2.2.2.2.1 gX5_purse_X5_checkInn rfl rfl rfl (by decide +kernel) ⟨Nat.le_of_ble_eq_true rfl, Nat.le_of_ble_eq_true rfl⟩) dX5_purse_1 rfl (Nat.le_of_ble_eq_true rfl) ⟨Nat.le_of_ble_eq_true rfl, Nat.le_of_ble_eq_true rfl⟩ rfl ?_
  refine hl_aload_n h 0 dX5_purse_4 rfl ?_
  refine hl_get h hi5 hl_wc_0 rfl 4 rfl dX5_purse_5 (by decide) (by decide +kernel) ?_
  refine hl_get h hi1 hl_wc_5 rfl 0 rfl dX5_purse_8 (by decide) (by decide +kernel) ?_
  refine hl_iload_n h 1 dX5_purse_11 rfl ?_
  refine hl_ild h hl_wc_23 0 rfl dX5_purse_12 (by with_reducible assumption) ?_
  exact hend dX5_purse_13 (fun h9 => nomatch h9) (by
    exact ⟨by rfl, (congrArg (hl_WC a cI cZ) (by rfl))⟩)
end
section
/-! THE REFERENCE: what its methods answer and do -/
theorem hl_inA {x : Int32} {n : Nat} (k : Int32) (hk : k.toInt + 1 = n) (h : vp_in x n) : x ≤ k :=
  Int32.le_iff_toInt_le.mpr (by have h1 := (vp_in_iff.mp h).2; omega)
theorem hl_inB {x : Int32} {n : Nat} (k : Int32) (hk : k.toInt + 1 = n) (h : ¬ vp_in x n) : ¬ (¬ x < 0 ∧ x ≤ k) := fun z => h (vp_in_iff.mpr ⟨Int.not_lt.mp (fun y => z.1 (Int32.lt_iff_toInt_lt.mpr y)), by have h1 := Int32.le_iff_toInt_le.mp z.2; omega⟩)
theorem hl_nlt {x y : Int32} (h : x ≤ y) : ¬ y < x := fun z => by
  have h1 := Int32.le_iff_toInt_le.mp h
  have h2 := Int32.lt_iff_toInt_lt.mp z
  omega
theorem hl_le_of {x y : Int32} (h : ¬ y < x) : x ≤ y := Int32.le_iff_toInt_le.mpr (Int.not_lt.mp (fun z => h (Int32.lt_iff_toInt_lt.mpr z)))
theorem hl_self {x : Int32} {n : Nat} (h : vp_in x n) (hn : n < 2 ^ 31) : x = nI x.toNatClampNeg := by
  obtain ⟨j, hj, rfl⟩ := vp_in_of h hn
  rw [nI_clamp (by omega)]
theorem hl_idx {x : Int32} {n : Nat} (h : vp_in x n) : x.toNatClampNeg < n := Nat.not_le.mp (fun z => h (Or.inr z))
/-- the night less 4, and i more -/
theorem hl_k4 {T i : Nat} (hT : T ≤ 300) (hi : i ≤ 4) : (nI T - 4 + nI i).toInt = (T : Int) + i - 4 := by
  have h1 : (nI T).toInt = T := nI_toInt (by omega)
  have h2 : (nI i).toInt = i := nI_toInt (by omega)
  have h3 : (4 : Int32).toInt = 4 := by decide
  rw [Int32.toInt_add, Int32.toInt_sub, h1, h2, h3]
  rw [Int.bmod_add_bmod, show (T : Int) + i - 4 = T - 4 + i by omega]
  apply Int.bmod_eq_of_le <;> omega
theorem hl_k4eq {T i : Nat} (hT : T ≤ 300) (hi : i ≤ 4) (h : 4 ≤ T + i) : nI T - 4 + nI i = nI (T + i - 4) := by
  apply Int32.toInt_inj.mp
  rw [hl_k4 hT hi, nI_toInt (by omega)]
  omega
theorem hl_rng {T : Nat} {v : Int32} (hT : T ≤ 300) (h : ¬ v < nI T) : v - nI T ≤ 10 ↔ v ≤ nI T + 10 := by
  have h1 : (nI T).toInt = T := nI_toInt (by omega)
  have h2 : (T : Int) ≤ v.toInt := by rw [← h1]; exact Int.not_lt.mp (fun z => h (Int32.lt_iff_toInt_lt.mpr z))
  have h4 : v.toInt < 2147483648 := Int32.toInt_lt v
  have h3 : (v - nI T).toInt = v.toInt - T := by
    rw [Int32.toInt_sub, h1]
    apply Int.bmod_eq_of_le <;> omega
  have h5 : (nI T + 10).toInt = T + 10 := by
    rw [Int32.toInt_add, h1, show (10 : Int32).toInt = 10 by decide]
    apply Int.bmod_eq_of_le <;> omega
  rw [Int32.le_iff_toInt_le, Int32.le_iff_toInt_le, h3, h5, show (10 : Int32).toInt = 10 by decide]
  omega
theorem hl_pred {x : Int32} {N : Nat} (hN : N ≤ 80) : x ≤ nI N - 1 ↔ x < nI N := by
  have h1 : (nI N).toInt = N := nI_toInt (by omega)
  have h3 : (nI N - 1).toInt = N - 1 := by
    rw [Int32.toInt_sub, h1, show (1 : Int32).toInt = 1 by decide]
    apply Int.bmod_eq_of_le <;> omega
  rw [Int32.le_iff_toInt_le, Int32.lt_iff_toInt_lt, h3, h1]
  omega
theorem hl_m2 {T j : Nat} (hT : T ≤ 300) (hj : j ≤ 400) : nI T - 2 < nI j ↔ T < j + 2 := by
  have h1 : (nI T).toInt = T := nI_toInt (by omega)
  have h2 : (nI j).toInt = j := nI_toInt (by omega)
  have h3 : (nI T - 2).toInt = T - 2 := by
    rw [Int32.toInt_sub, h1, show (2 : Int32).toInt = 2 by decide]
    apply Int.bmod_eq_of_le <;> omega
  rw [Int32.lt_iff_toInt_lt, h3, h2]
  omega
def hl_okM (t : Nat → Nat → Int32) (N M T : Nat) : Prop := N ≤ 80 ∧ t 18 0 = nI N ∧ M ≤ 80 ∧ t 22 0 = nI M ∧ T ≤ 300 ∧ t 8 0 = nI T ∧ (∀ k, k < N → vp_in (t 13 k) 4 ∧ vp_in (t 14 k) 2) ∧ (∀ k, k < M → vp_in (t 20 k) 4) ∧ (t 6 0 = 0 ∨ t 6 0 = 1)
def b_X6_extra (t : Nat → Nat → Int32) (T : Nat) (x : Int32) (i : Nat) (n : Int32) : Int32 := if 4 ≤ T + i then n + t 11 (4 * (T + i - 4) + x.toNatClampNeg) else n + 0
def r_X6_extraOf (t : Nat → Nat → Int32) (T : Nat) (x : Int32) : Int32 := hl_it (b_X6_extra t T x) 0 4 0 / 4
def b_X6_book (t : Nat → Nat → Int32) (x y z : Int32) (k : Nat) (n : Int32) : Int32 := if t 13 k = x ∧ t 14 k = y ∧ t 15 k = z then n + 1 else n + 0
def f_X6_book (t : Nat → Nat → Int32) (x y z v : Int32) : Nat → Nat → Int32 :=
  let i := (t 18 0).toNatClampNeg
  let t1 := hl_su t 12 (upd (t 12) i x)
  let t2 := hl_su t1 13 (upd (t1 13) i y)
  let t3 := hl_su t2 14 (upd (t2 14) i z)
  let t4 := hl_su t3 15 (upd (t3 15) i v)
  let t5 := hl_su t4 17 (upd (t4 17) i (-1))
  hl_su t5 18 (fun _ => t5 18 0 + 1)
def r_X6_distance (x y : Int32) : Int32 := if 4 - (if x ≤ y then y - x else x - y) ≤ (if x ≤ y then y - x else x - y) then 4 - (if x ≤ y then y - x else x - y) else (if x ≤ y then y - x else x - y)
def b_X6_richest (t : Nat → Nat → Int32) (k : Nat) (u : Int32) : Int32 := if t 3 k ≤ t 3 u.toNatClampNeg then u else nI k
def r_X6_richest (t : Nat → Nat → Int32) : Int32 := hl_it (b_X6_richest t) 1 3 0
theorem hl_rich_it (t : Nat → Nat → Int32) : ∀ (n i : Nat) (u : Int32), i + n ≤ 4 → vp_in u 4 → vp_in (hl_it (b_X6_richest t) i n u) 4 := by
  intro n
  induction n with
  | zero => intro i u _ h; exact h
  | succ n ih =>
    intro i u hi h
    rw [hl_it_s]
    refine ih (i + 1) _ (by omega) ?_
    unfold b_X6_richest
    split
    · exact h
    · exact vp_in_nI (by omega) (by decide)
theorem hl_rich_in (t : Nat → Nat → Int32) : vp_in (r_X6_richest t) 4 := hl_rich_it t 3 1 0 (by omega) (by unfold vp_in; decide)
def b_X6_finds (t : Nat → Nat → Int32) (x y : Int32) (k : Nat) (u : Int32) : Int32 :=
  if t 0 (2 * nI k + y).toNatClampNeg ≤ t 2 (2 * nI k + y).toNatClampNeg then u else if u = -1 then nI k else if r_X6_distance x u ≤ r_X6_distance x (nI k) then u else nI k
def r_X6_finds (t : Nat → Nat → Int32) (x y : Int32) : Int32 := if t 3 (r_X6_richest t).toNatClampNeg ≤ 0 then -1 else hl_it (b_X6_finds t x y) 0 4 (-1)
theorem hl_finds_it (t : Nat → Nat → Int32) (x y : Int32) : ∀ (n i : Nat) (u : Int32), i + n ≤ 4 → (u = -1 ∨ vp_in u 4) → hl_it (b_X6_finds t x y) i n u = -1 ∨ vp_in (hl_it (b_X6_finds t x y) i n u) 4 := by
  intro n
  induction n with
  | zero => intro i u _ h; exact h
  | succ n ih =>
    intro i u hi hu
    rw [hl_it_s]
    refine ih (i + 1) _ (by omega) ?_
    have h9 : vp_in (nI i) 4 := vp_in_nI (by omega) (by decide)
    unfold b_X6_finds
    split
    · exact hu
    · split
      · exact Or.inr h9
      · split
        · exact hu
        · exact Or.inr h9
theorem hl_finds_in (t : Nat → Nat → Int32) (x y : Int32) : r_X6_finds t x y = -1 ∨ vp_in (r_X6_finds t x y) 4 := by
  unfold r_X6_finds
  split
  · exact Or.inl rfl
  · exact hl_finds_it t x y 4 0 (-1) (by omega) (Or.inl rfl)
def f_X6_takesLinen (t : Nat → Nat → Int32) (x : Int32) : Nat → Nat → Int32 :=
  let v := r_X6_richest t
  let a1 := hl_su t 3 (upd (t 3) v.toNatClampNeg (t 3 v.toNatClampNeg - 1))
  let a2 := hl_su a1 7 (fun _ => a1 7 0 + 1)
  let a3 := hl_su a2 9 (upd (a2 9) (4 * x + v).toNatClampNeg (a2 9 (4 * x + v).toNatClampNeg + a2 7 0))
  let b1 := hl_su t 3 (upd (t 3) x.toNatClampNeg (t 3 x.toNatClampNeg - 1))
  if t 3 x.toNatClampNeg ≤ 0 then hl_su a3 4 (upd (a3 4) x.toNatClampNeg (a3 4 x.toNatClampNeg + 1)) else hl_su b1 4 (upd (b1 4) x.toNatClampNeg (b1 4 x.toNatClampNeg + 1))
theorem fr_X6_takesLinen (t : Nat → Nat → Int32) (x : Int32) {k : Nat} (h : k ≠ 3) (h2 : k ≠ 4) (h3 : k ≠ 7) (h4 : k ≠ 9) : f_X6_takesLinen t x k = t k := by
  unfold f_X6_takesLinen
  split <;> simp only [hl_su_ne _ _ h, hl_su_ne _ _ h2, hl_su_ne _ _ h3, hl_su_ne _ _ h4]
/-- a guest comes by booking x, finds v, has booked at inn i the kind k -/
def f_X6_sleep (t4 : Nat → Nat → Int32) (x i k v : Int32) : Nat → Nat → Int32 :=
  let t5 := hl_su t4 2 (upd (t4 2) (2 * v + k).toNatClampNeg (t4 2 (2 * v + k).toNatClampNeg + 1))
  let t6 := f_X6_takesLinen t5 v
  let t7 := hl_su t6 5 (upd (t6 5) i.toNatClampNeg (t6 5 i.toNatClampNeg + t6 1 (2 * i + k).toNatClampNeg))
  let t8 := hl_su t7 9 (upd (t7 9) (4 * i + v).toNatClampNeg (t7 9 (4 * i + v).toNatClampNeg + (if v = i then 0 else t7 1 (2 * v + k).toNatClampNeg)))
  let t9 := hl_su t8 19 (upd (t8 19) (t8 22 0).toNatClampNeg (t8 12 x.toNatClampNeg))
  let t10 := hl_su t9 20 (upd (t9 20) (t9 22 0).toNatClampNeg v)
  let t11 := hl_su t10 21 (upd (t10 21) (t10 22 0).toNatClampNeg (t10 1 (2 * v + k).toNatClampNeg / 10))
  hl_su t11 22 (fun _ => t11 22 0 + 1)
def f_X6_come (t : Nat → Nat → Int32) (x : Int32) : Nat → Nat → Int32 :=
  let v := r_X6_finds t (t 13 x.toNatClampNeg) (t 14 x.toNatClampNeg)
  let t3 := hl_su t 16 (upd (t 16) x.toNatClampNeg 1)
  let t4 := hl_su t3 17 (upd (t3 17) x.toNatClampNeg v)
  if v = -1 then t4 else f_X6_sleep t4 x (t 13 x.toNatClampNeg) (t 14 x.toNatClampNeg) v
def b_X6_pointsOf (t : Nat → Nat → Int32) (x : Int32) (k : Nat) (n : Int32) : Int32 := if t 19 k = x then n + t 21 k else n + 0
def b_X6_burn (x y : Int32) (k : Nat) (z : (Nat → Nat → Int32) × Int32) : (Nat → Nat → Int32) × Int32 :=
  let bt := if z.1 19 k = x then (if z.2 ≤ z.1 21 k then z.2 else z.1 21 k) else 0
  let z1 := hl_su z.1 21 (upd (z.1 21) k (z.1 21 k - bt))
  let j := (4 * z1 20 k + y).toNatClampNeg
  (hl_su z1 9 (upd (z1 9) j (z1 9 j + (if z1 20 k = y then 0 else bt))), z.2 - bt)
def f_X6_burn (t : Nat → Nat → Int32) (M : Nat) (x y n : Int32) : Nat → Nat → Int32 := (hl_it (b_X6_burn x y) 0 M (t, n)).1
def b_X6_n1 (T k : Nat) (z : (Nat → Nat → Int32) × Int32) : (Nat → Nat → Int32) × Int32 :=
  let j := 4 * T + (z.1 13 k).toNatClampNeg
  if z.1 15 k = z.1 8 0 ∧ z.1 16 k = 0 then (hl_su z.1 11 (upd (z.1 11) j (z.1 11 j + 1)), z.2 + 1) else (hl_su z.1 11 (upd (z.1 11) j (z.1 11 j + 0)), z.2 + 0)
def b_X6_n3 (k j : Nat) (z : Nat → Nat → Int32) : Nat → Nat → Int32 :=
  let z1 := hl_su z 3 (upd (z 3) k (z 3 k + z 10 (4 * j + k)))
  hl_su z1 10 (upd (z1 10) (4 * j + k) 0)
def b_X6_n2 (T k : Nat) (z : Nat → Nat → Int32) : Nat → Nat → Int32 :=
  let z1 := hl_su z 10 (upd (z 10) (4 * T + k) (z 4 k))
  let z2 := hl_su z1 4 (upd (z1 4) k 0)
  if z2 6 0 = 0 then hl_it (b_X6_n3 k) 0 (T - 1) z2 else z2
def b_X6_n4 (k : Nat) (z : Nat → Nat → Int32) : Nat → Nat → Int32 := hl_su z 2 (upd (z 2) k 0)
/-- how a night ends: the contents, behind the check -/
def f_X6_night (t : Nat → Nat → Int32) (N T : Nat) : Nat → Nat → Int32 :=
  let z := hl_it b_X6_n4 0 8 (hl_it (b_X6_n2 T) 0 4 (hl_it (b_X6_n1 T) 0 N (t, 0)).1)
  let z1 := hl_su z 7 (fun _ => 0)
  hl_su z1 8 (fun _ => z1 8 0 + 1)
def r_X6_night (t : Nat → Nat → Int32) (N T : Nat) : Int32 := (hl_it (b_X6_n1 T) 0 N (t, 0)).2
def r_X6_owed (t : Nat → Nat → Int32) (x y : Int32) : Int32 := if t 9 (4 * x + y).toNatClampNeg - t 9 (4 * y + x).toNatClampNeg ≤ 0 then 0 else t 9 (4 * x + y).toNatClampNeg - t 9 (4 * y + x).toNatClampNeg
def b_X6_settle (k : Nat) (z : (Nat → Nat → Int32) × Int32) : (Nat → Nat → Int32) × Int32 :=
  let s := r_X6_owed z.1 (nI (k / 4)) (nI (k % 4))
  let z1 := hl_su z.1 5 (upd (z.1 5) (k / 4) (z.1 5 (k / 4) - s))
  (hl_su z1 5 (upd (z1 5) (k % 4) (z1 5 (k % 4) + s)), z.2 + s)
def b_X6_wipe (k : Nat) (z : Nat → Nat → Int32) : Nat → Nat → Int32 := hl_su z 9 (upd (z 9) k 0)
def f_X6_settle (t : Nat → Nat → Int32) : Nat → Nat → Int32 := hl_it b_X6_wipe 0 16 (hl_it b_X6_settle 0 16 (t, 0)).1
def r_X6_settle (t : Nat → Nat → Int32) : Int32 := (hl_it b_X6_settle 0 16 (t, 0)).2
def b_X6_taken (t : Nat → Nat → Int32) (x y : Int32) (k : Nat) (n : Int32) : Int32 := if t 15 k = t 8 0 ∧ t 17 k = x ∧ t 14 k = y then n + 1 else n + 0
def b_X6_away (t : Nat → Nat → Int32) (x : Int32) (k : Nat) (n : Int32) : Int32 := n + t 10 (4 * k + x.toNatClampNeg)
/-! which places the loops leave -/
theorem fr_X6_burn (x y : Int32) (i : Nat) (z : (Nat → Nat → Int32) × Int32) {k : Nat} (h : k ≠ 21) (h2 : k ≠ 9) : (b_X6_burn x y i z).1 k = z.1 k := by
  simp only [b_X6_burn, hl_su_ne _ _ h, hl_su_ne _ _ h2]
theorem fr_X6_burnIt (x y : Int32) {k : Nat} (h : k ≠ 21) (h2 : k ≠ 9) : ∀ (n i : Nat) (z : (Nat → Nat → Int32) × Int32), (hl_it (b_X6_burn x y) i n z).1 k = z.1 k := by
  intro n
  induction n with
  | zero => intro i z; rfl
  | succ n ih => intro i z; rw [hl_it_s, ih, fr_X6_burn x y i z h h2]
theorem fr_X6_n1 (T i : Nat) (z : (Nat → Nat → Int32) × Int32) {k : Nat} (h : k ≠ 11) : (b_X6_n1 T i z).1 k = z.1 k := by
  simp only [b_X6_n1]
  split <;> exact hl_su_ne _ _ h
theorem fr_X6_n1It (T : Nat) {k : Nat} (h : k ≠ 11) : ∀ (n i : Nat) (z : (Nat → Nat → Int32) × Int32), (hl_it (b_X6_n1 T) i n z).1 k = z.1 k := by
  intro n
  induction n with
  | zero => intro i z; rfl
  | succ n ih => intro i z; rw [hl_it_s, ih, fr_X6_n1 T i z h]
theorem fr_X6_n3 (j i : Nat) (z : Nat → Nat → Int32) {k : Nat} (h : k ≠ 3) (h2 : k ≠ 10) : b_X6_n3 j i z k = z k := by
  simp only [b_X6_n3, hl_su_ne _ _ h, hl_su_ne _ _ h2]
theorem fr_X6_n3It (j : Nat) {k : Nat} (h : k ≠ 3) (h2 : k ≠ 10) : ∀ (n i : Nat) (z : Nat → Nat → Int32), hl_it (b_X6_n3 j) i n z k = z k := by
  intro n
  induction n with
  | zero => intro i z; rfl
  | succ n ih => intro i z; rw [hl_it_s, ih, fr_X6_n3 j i z h h2]
theorem fr_X6_n2 (T i : Nat) (z : Nat → Nat → Int32) {k : Nat} (h : k ≠ 3) (h2 : k ≠ 10) (h3 : k ≠ 4) : b_X6_n2 T i z k = z k := by
  simp only [b_X6_n2]
  split
  · rw [fr_X6_n3It i h h2, hl_su_ne _ _ h3, hl_su_ne _ _ h2]
  · rw [hl_su_ne _ _ h3, hl_su_ne _ _ h2]
theorem fr_X6_n2It (T : Nat) {k : Nat} (h : k ≠ 3) (h2 : k ≠ 10) (h3 : k ≠ 4) : ∀ (n i : Nat) (z : Nat → Nat → Int32), hl_it (b_X6_n2 T) i n z k = z k := by
  intro n
  induction n with
  | zero => intro i z; rfl
  | succ n ih => intro i z; rw [hl_it_s, ih, fr_X6_n2 T i z h h2 h3]
theorem fr_X6_settle (i : Nat) (z : (Nat → Nat → Int32) × Int32) {k : Nat} (h : k ≠ 5) : (b_X6_settle i z).1 k = z.1 k := by
  simp only [b_X6_settle, hl_su_ne _ _ h]
end
section
/-! Numbers for the reference's places -/
theorem hl_4i (T i : Nat) : 4 * nI T + nI i = nI (4 * T + i) := by
  show nI 4 * nI T + nI i = _
  rw [pk_mul, nI_add]
theorem hl_4x {x : Int32} (h : vp_in x 4) (T : Nat) : 4 * nI T + x = nI (4 * T + x.toNatClampNeg) := by
  obtain ⟨j, hj, rfl⟩ := vp_in_of h (by decide)
  rw [nI_clamp (by omega)]
  exact hl_4i T j
theorem hl_4k {x : Int32} (h : vp_in x 4) {T i : Nat} (hT : T ≤ 300) (hi : i ≤ 4) (h4 : 4 ≤ T + i) : 4 * (nI T - 4 + nI i) + x = nI (4 * (T + i - 4) + x.toNatClampNeg) := by
  rw [hl_k4eq hT hi h4]
  exact hl_4x h _
theorem hl_k4ge {T i : Nat} (hT : T ≤ 300) (hi : i ≤ 4) : nI T ≤ nI T - 4 + nI i ↔ 4 ≤ i := by
  rw [Int32.le_iff_toInt_le, hl_k4 hT hi, nI_toInt (by omega)]
  omega
theorem hl_k4pos {T i : Nat} (hT : T ≤ 300) (hi : i ≤ 4) : 0 ≤ nI T - 4 + nI i ↔ 4 ≤ T + i := by
  rw [Int32.le_iff_toInt_le, hl_k4 hT hi, show (0 : Int32).toInt = 0 by decide]
  omega
theorem hl_inc4 (y : Int32) (i : Nat) : y + nI i + Int32.ofInt 1 = y + nI (i + 1) := by
  rw [Int32.add_assoc]
  exact congrArg (y + ·) (hl_inc i)
theorem hl_div4 {k : Nat} (h : k < 100) : nI k / 4 = nI (k / 4) := pk_div (by omega) (by decide) (by decide)
theorem hl_rem4 {k : Nat} (h : k < 100) : nI k - nI k / 4 * 4 = nI (k % 4) := pk_rem (by omega) (by decide) (by decide)
theorem hl_ite0 {P : Prop} [Decidable P] : ((if P then (0 : Int32) else 1) = 0) ↔ P := by
  by_cases h : P
  · rw [if_pos h]; exact ⟨fun _ => h, fun _ => rfl⟩
  · rw [if_neg h]; exact ⟨fun z => absurd z (by decide), fun z => absurd z h⟩
end
section
/-! The constructors, and the contents with which all begins -/
def hl_ten : Nat → Int32 := hl_it (fun k f => upd f k 10) 0 8 (fun _ => 0)
def hl_g0 : Nat → Nat → Int32 := fun k => bif Nat.beq k 1 then hl_ten else fun _ => 0
def hl_t0 : Nat → Nat → Int32 := fun k => bif Nat.beq k 1 then hl_ten else fun _ => 0
set_option maxHeartbeats 4000000 in
set_option maxRecDepth 100000 in
theorem c_X4_init (l : Launch) (D : va_G) (cI cZ cJ : ClassId) (h : Nat) : hl_KV D (hl_ty cI cZ cJ) l yX4_init wsX4_init ({ frames := 1, cells := 3, slots := 24, locals := 20 } : Room) 3 24 [.ref h] [(h, .inr (4, [.null, .null, .null]))] (fun w => ∃ q1 q2 q3 : Nat, w = [(h, .inr (4, [.ref q1, .ref q2, .ref q3])), (q1, .inl (cI, 8, .inl (fun _ => 0))), (q2, .inl (cI, 8, .inl hl_ten)), (q3, .inl (cI, 8, .inl (fun _ => 0)))]) := by
  refine hl_KV_of (cc := cX4_init) (maxL := 2) (by decide) rfl (Nat.le_of_ble_eq_true rfl) ?_
  intro p e s m args below meth c A Q h9 hnm hend
  have hi4 : ∀ z ∈ wsX40, z ∈ wsX4_init := by decide +kernel
  refine hl_ls (ls' := [(0, .ref h)]) rfl ?_
  refine hl_aload_n h9 0 dX4_init_0 rfl ?_
  refine hl_objInit h9 (by decide +kernel) (by decide +kernel) (by decide +kernel) dX4_init_1 (Nat.le_of_ble_eq_true rfl) (Nat.le_of_ble_eq_true rfl) ?_
  refine hl_aload_n h9 0 dX4_init_4 rfl ?_
  refine hl_bipush h9 8 dX4_init_5 (by decide) ?_
  refine hl_newa h9 (atype := .int) (ty := .int) (by decide +kernel) rfl (by intro n hn; cases hn) 0 rfl (N' := 8) (a0 := (8, .inl (fun _ => 0))) dX4_init_7 (fun _ => rfl) (by decide) (by decide) (Nat.le_of_ble_eq_true rfl) (Nat.le_of_ble_eq_true rfl) (Nat.le_of_ble_eq_true rfl) (fun q1 => ?_)
  refine hl_wd (w' := [(h, .inr (4, [.null, .null, .null])), (q1, .inl (cI, 8, .inl (fun _ => 0)))]) rfl ?_
  refine hl_putF h9 hi4 tyX4_ok nmX4 (q0 := 0) rfl rfl 0 dX4_init_9 (by decide) (by decide +kernel) (by decide) hnm rfl rfl rfl (Nat.le_of_ble_eq_true rfl) (w' := [(h, .inr (4, [.ref q1, .null, .null])), (q1, .inl (cI, 8, .inl (fun _ => 0)))]) rfl ?_
  refine hl_aload_n h9 0 dX4_init_12 rfl ?_
  refine hl_bipush h9 8 dX4_init_13 (by decide) ?_
  refine hl_newa h9 (atype := .int) (ty := .int) (by decide +kernel) rfl (by intro n hn; cases hn) 0 rfl (N' := 8) (a0 := (8, .inl (fun _ => 0))) dX4_init_15 (fun _ => rfl) (by decide) (by decide) (Nat.le_of_ble_eq_true rfl) (Nat.le_of_ble_eq_true rfl) (Nat.le_of_ble_eq_true rfl) (fun q2 => ?_)
  refine hl_wd (w' := [(h, .inr (4, [.ref q1, .null, .null])), (q1, .inl (cI, 8, .inl (fun _ => 0))), (q2, .inl (cI, 8, .inl (fun _ => 0)))]) rfl ?_
  refine hl_putF h9 hi4 tyX4_ok nmX4 (q0 := 0) rfl rfl 1 dX4_init_17 (by decide) (by decide +kernel) (by decide) hnm rfl rfl rfl (Nat.le_of_ble_eq_true rfl) (w' := [(h, .inr (4, [.ref q1, .ref q2, .null])), (q1, .inl (cI, 8, .inl (fun _ => 0))), (q2, .inl (cI, 8, .inl (fun _ => 0)))]) rfl ?_
  refine hl_aload_n h9 0 dX4_init_20 rfl ?_
  refine hl_bipush h9 8 dX4_init_21 (by decide) ?_
  refine hl_newa h9 (atype := .int) (ty := .int) (by decide +kernel) rfl (by intro n hn; cases hn) 0 rfl (N' := 8) (a0 := (8, .inl (fun _ => 0))) dX4_init_23 (fun _ => rfl) (by decide) (by decide) (Nat.le_of_ble_eq_true rfl) (Nat.le_of_ble_eq_true rfl) (Nat.le_of_ble_eq_true rfl) (fun q3 => ?_)
  refine hl_wd (w' := [(h, .inr (4, [.ref q1, .ref q2, .null])), (q1, .inl (cI, 8, .inl (fun _ => 0))), (q2, .inl (cI, 8, .inl (fun _ => 0))), (q3, .inl (cI, 8, .inl (fun _ => 0)))]) rfl ?_
  refine hl_putF h9 hi4 tyX4_ok nmX4 (q0 := 0) rfl rfl 2 dX4_init_25 (by decide) (by decide +kernel) (by decide) hnm rfl rfl rfl (Nat.le_of_ble_eq_true rfl) (w' := [(h, .inr (4, [.ref q1, .ref q2, .ref q3])), (q1, .inl (cI, 8, .inl (fun _ => 0))), (q2, .inl (cI, 8, .inl (fun _ => 0))), (q3, .inl (cI, 8, .inl (fun _ => 0)))]) rfl ?_
  refine hl_iconst h9 0 dX4_init_28 (by decide) ?_
  refine hl_istore_n h9 [(1, .int 0), (0, .ref h)] dX4_init_29 (by decide) rfl ?_
  have lp : ∀ (n i : Nat) (z : Nat → Int32), i + n = 8 → hl_it (fun k f => upd f k 10) i n z = hl_ten → hl_X p l e ({ frames := 1, cells := 3, slots := 24, locals := 20 } : Room) s m args below meth c 2 D A 3 24 Q [(h, .inr (4, [.ref q1, .ref q2, .ref q3])), (q1, .inl (cI, 8, .inl (fun _ => 0))), (q2, .inl (cI, 8, .inl z)), (q3, .inl (cI, 8, .inl (fun _ => 0)))] 30 [(0, .ref h), (1, .int (nI i))] [] := by
    intro n
    induction n with
    | zero =>
      intro i z hi hv
      refine hl_iload_n h9 1 dX4_init_30 rfl ?_
      refine hl_bipush h9 8 dX4_init_31 (by decide) ?_
      refine hl_icmp_ge_T h9 50 dX4_init_33 (by decide) (by rw [show i = 8 by omega]; decide) ?_
      obtain rfl : z = hl_ten := hv
      exact hend dX4_init_50 ⟨q1, q2, q3, rfl⟩
    | succ n ih =>
      intro i z hi hv
      refine hl_iload_n h9 1 dX4_init_30 rfl ?_
      refine hl_bipush h9 8 dX4_init_31 (by decide) ?_
      refine hl_icmp_ge_F h9 50 dX4_init_33 (by decide) (nI_ge (b := 8) (by omega) (by decide)) ?_
      refine hl_aload_n h9 0 dX4_init_36 rfl ?_
      refine hl_get h9 hi4 (q0 := 0) rfl rfl 1 rfl dX4_init_37 (by decide) (by decide +kernel) ?_
      refine hl_iload_n h9 1 dX4_init_40 rfl ?_
      refine hl_bipush h9 10 dX4_init_41 (by decide) ?_
      refine hl_istN h9 (q0 := 2) rfl 0 rfl i dX4_init_43 rfl (by omega) (by decide) (w' := [(h, .inr (4, [.ref q1, .ref q2, .ref q3])), (q1, .inl (cI, 8, .inl (fun _ => 0))), (q2, .inl (cI, 8, .inl (upd z i 10))), (q3, .inl (cI, 8, .inl (fun _ => 0)))]) rfl ?_
      refine hl_iinc h9 1 (nI (i + 1)) [(1, .int (nI (i + 1))), (0, .ref h)] dX4_init_44 rfl (hl_inc i) (by decide) rfl ?_
      refine hl_goto h9 30 dX4_init_47 (by decide) ?_
      refine hl_lsub [1, 0] rfl ?_
      exact ih (i + 1) (upd z i 10) (by omega) (by rw [← hv, hl_it_s])
  exact hl_lsub [1, 0] rfl (lp 8 0 (fun _ => 0) rfl rfl)

set_option maxHeartbeats 4000000 in
set_option maxRecDepth 100000 in
theorem c_X2_init (l : Launch) (D : va_G) (cI cZ cJ : ClassId) (h : Nat) : hl_KV D (hl_ty cI cZ cJ) l yX2_init wsX2_init ({ frames := 1, cells := 5, slots := 20, locals := 20 } : Room) 5 20 [.ref h] [(h, .inr (2, [.null, .null, .null, .null, .null, .int 0, .int 0]))] (fun w => ∃ q1 q2 q3 q4 q5 : Nat, w = [(h, .inr (2, [.ref q1, .ref q2, .ref q3, .ref q4, .ref q5, .int 0, .int 0])), (q1, .inl (cI, 4, .inl (fun _ => 0))), (q2, .inl (cI, 4, .inl (fun _ => 0))), (q3, .inl (cI, 4, .inl (fun _ => 0))), (q4, .inl (cI, 4, .inl (fun _ => 0))), (q5, .inl (cI, 4, .inl (fun _ => 0)))]) := by
  refine hl_KV_of (cc := cX2_init) (maxL := 1) (by decide) rfl (Nat.le_of_ble_eq_true rfl) ?_
  intro p e s m args below meth c A Q h9 hnm hend
  have hi2 : ∀ z ∈ wsX20, z ∈ wsX2_init := by decide +kernel
  refine hl_ls (ls' := [(0, .ref h)]) rfl ?_
  refine hl_aload_n h9 0 dX2_init_0 rfl ?_
  refine hl_objInit h9 (by decide +kernel) (by decide +kernel) (by decide +kernel) dX2_init_1 (Nat.le_of_ble_eq_true rfl) (Nat.le_of_ble_eq_true rfl) ?_
  refine hl_aload_n h9 0 dX2_init_4 rfl ?_
  refine hl_iconst h9 4 dX2_init_5 (by decide) ?_
  refine hl_newa h9 (atype := .int) (ty := .int) (by decide +kernel) rfl (by intro n hn; cases hn) 0 rfl (N' := 4) (a0 := (4, .inl (fun _ => 0))) dX2_init_6 (fun _ => rfl) (by decide) (by decide) (Nat.le_of_ble_eq_true rfl) (Nat.le_of_ble_eq_true rfl) (Nat.le_of_ble_eq_true rfl) (fun q1 => ?_)
  refine hl_wd (w' := [(h, .inr (2, [.null, .null, .null, .null, .null, .int 0, .int 0])), (q1, .inl (cI, 4, .inl (fun _ => 0)))]) rfl ?_
  refine hl_putF h9 hi2 tyX2_ok nmX2 (q0 := 0) rfl rfl 0 dX2_init_8 (by decide) (by decide +kernel) (by decide) hnm rfl rfl rfl (Nat.le_of_ble_eq_true rfl) (w' := [(h, .inr (2, [.ref q1, .null, .null, .null, .null, .int 0, .int 0])), (q1, .inl (cI, 4, .inl (fun _ => 0)))]) rfl ?_
  refine hl_aload_n h9 0 dX2_init_11 rfl ?_
  refine hl_iconst h9 4 dX2_init_12 (by decide) ?_
  refine hl_newa h9 (atype := .int) (ty := .int) (by decide +kernel) rfl (by intro n hn; cases hn) 0 rfl (N' := 4) (a0 := (4, .inl (fun _ => 0))) dX2_init_13 (fun _ => rfl) (by decide) (by decide) (Nat.le_of_ble_eq_true rfl) (Nat.le_of_ble_eq_true rfl) (Nat.le_of_ble_eq_true rfl) (fun q2 => ?_)
  refine hl_wd (w' := [(h, .inr (2, [.ref q1, .null, .null, .null, .null, .int 0, .int 0])), (q1, .inl (cI, 4, .inl (fun _ => 0))), (q2, .inl (cI, 4, .inl (fun _ => 0)))]) rfl ?_
  refine hl_putF h9 hi2 tyX2_ok nmX2 (q0 := 0) rfl rfl 1 dX2_init_15 (by decide) (by decide +kernel) (by decide) hnm rfl rfl rfl (Nat.le_of_ble_eq_true rfl) (w' := [(h, .inr (2, [.ref q1, .ref q2, .null, .null, .null, .int 0, .int 0])), (q1, .inl (cI, 4, .inl (fun _ => 0))), (q2, .inl (cI, 4, .inl (fun _ => 0)))]) rfl ?_
  refine hl_aload_n h9 0 dX2_init_18 rfl ?_
  refine hl_iconst h9 4 dX2_init_19 (by decide) ?_
  refine hl_newa h9 (atype := .int) (ty := .int) (by decide +kernel) rfl (by intro n hn; cases hn) 0 rfl (N' := 4) (a0 := (4, .inl (fun _ => 0))) dX2_init_20 (fun _ => rfl) (by decide) (by decide) (Nat.le_of_ble_eq_true rfl) (Nat.le_of_ble_eq_true rfl) (Nat.le_of_ble_eq_true rfl) (fun q3 => ?_)
  refine hl_wd (w' := [(h, .inr (2, [.ref q1, .ref q2, .null, .null, .null, .int 0, .int 0])), (q1, .inl (cI, 4, .inl (fun _ => 0))), (q2, .inl (cI, 4, .inl (fun _ => 0))), (q3, .inl (cI, 4, .inl (fun _ => 0)))]) rfl ?_
  refine hl_putF h9 hi2 tyX2_ok nmX2 (q0 := 0) rfl rfl 2 dX2_init_22 (by decide) (by decide +kernel) (by decide) hnm rfl rfl rfl (Nat.le_of_ble_eq_true rfl) (w' := [(h, .inr (2, [.ref q1, .ref q2, .ref q3, .null, .null, .int 0, .int 0])), (q1, .inl (cI, 4, .inl (fun _ => 0))), (q2, .inl (cI, 4, .inl (fun _ => 0))), (q3, .inl (cI, 4, .inl (fun _ => 0)))]) rfl ?_
  refine hl_aload_n h9 0 dX2_init_25 rfl ?_
  refine hl_iconst h9 4 dX2_init_26 (by decide) ?_
  refine hl_newa h9 (atype := .int) (ty := .int) (by decide +kernel) rfl (by intro n hn; cases hn) 0 rfl (N' := 4) (a0 := (4, .inl (fun _ => 0))) dX2_init_27 (fun _ => rfl) (by decide) (by decide) (Nat.le_of_ble_eq_true rfl) (Nat.le_of_ble_eq_true rfl) (Nat.le_of_ble_eq_true rfl) (fun q4 => ?_)
  refine hl_wd (w' := [(h, .inr (2, [.ref q1, .ref q2, .ref q3, .null, .null, .int 0, .int 0])), (q1, .inl (cI, 4, .inl (fun _ => 0))), (q2, .inl (cI, 4, .inl (fun _ => 0))), (q3, .inl (cI, 4, .inl (fun _ => 0))), (q4, .inl (cI, 4, .inl (fun _ => 0)))]) rfl ?_
  refine hl_putF h9 hi2 tyX2_ok nmX2 (q0 := 0) rfl rfl 3 dX2_init_29 (by decide) (by decide +kernel) (by decide) hnm rfl rfl rfl (Nat.le_of_ble_eq_true rfl) (w' := [(h, .inr (2, [.ref q1, .ref q2, .ref q3, .ref q4, .null, .int 0, .int 0])), (q1, .inl (cI, 4, .inl (fun _ => 0))), (q2, .inl (cI, 4, .inl (fun _ => 0))), (q3, .inl (cI, 4, .inl (fun _ => 0))), (q4, .inl (cI, 4, .inl (fun _ => 0)))]) rfl ?_
  refine hl_aload_n h9 0 dX2_init_32 rfl ?_
  refine hl_iconst h9 4 dX2_init_33 (by decide) ?_
  refine hl_newa h9 (atype := .int) (ty := .int) (by decide +kernel) rfl (by intro n hn; cases hn) 0 rfl (N' := 4) (a0 := (4, .inl (fun _ => 0))) dX2_init_34 (fun _ => rfl) (by decide) (by decide) (Nat.le_of_ble_eq_true rfl) (Nat.le_of_ble_eq_true rfl) (Nat.le_of_ble_eq_true rfl) (fun q5 => ?_)
  refine hl_wd (w' := [(h, .inr (2, [.ref q1, .ref q2, .ref q3, .ref q4, .null, .int 0, .int 0])), (q1, .inl (cI, 4, .inl (fun _ => 0))), (q2, .inl (cI, 4, .inl (fun _ => 0))), (q3, .inl (cI, 4, .inl (fun _ => 0))), (q4, .inl (cI, 4, .inl (fun _ => 0))), (q5, .inl (cI, 4, .inl (fun _ => 0)))]) rfl ?_
  refine hl_putF h9 hi2 tyX2_ok nmX2 (q0 := 0) rfl rfl 4 dX2_init_36 (by decide) (by decide +kernel) (by decide) hnm rfl rfl rfl (Nat.le_of_ble_eq_true rfl) (w' := [(h, .inr (2, [.ref q1, .ref q2, .ref q3, .ref q4, .ref q5, .int 0, .int 0])), (q1, .inl (cI, 4, .inl (fun _ => 0))), (q2, .inl (cI, 4, .inl (fun _ => 0))), (q3, .inl (cI, 4, .inl (fun _ => 0))), (q4, .inl (cI, 4, .inl (fun _ => 0))), (q5, .inl (cI, 4, .inl (fun _ => 0)))]) rfl ?_
  refine hl_aload_n h9 0 dX2_init_39 rfl ?_
  refine hl_iconst h9 0 dX2_init_40 (by decide) ?_
  refine hl_put h9 hi2 tyX2_ok nmX2 (q0 := 0) rfl rfl 5 dX2_init_41 (by decide) (by decide +kernel) (by decide) rfl rfl (Nat.le_of_ble_eq_true rfl) (w' := [(h, .inr (2, [.ref q1, .ref q2, .ref q3, .ref q4, .ref q5, .int 0, .int 0])), (q1, .inl (cI, 4, .inl (fun _ => 0))), (q2, .inl (cI, 4, .inl (fun _ => 0))), (q3, .inl (cI, 4, .inl (fun _ => 0))), (q4, .inl (cI, 4, .inl (fun _ => 0))), (q5, .inl (cI, 4, .inl (fun _ => 0)))]) rfl ?_
  refine hl_aload_n h9 0 dX2_init_44 rfl ?_
  refine hl_iconst h9 0 dX2_init_45 (by decide) ?_
  refine hl_put h9 hi2 tyX2_ok nmX2 (q0 := 0) rfl rfl 6 dX2_init_46 (by decide) (by decide +kernel) (by decide) rfl rfl (Nat.le_of_ble_eq_true rfl) (w' := [(h, .inr (2, [.ref q1, .ref q2, .ref q3, .ref q4, .ref q5, .int 0, .int 0])), (q1, .inl (cI, 4, .inl (fun _ => 0))), (q2, .inl (cI, 4, .inl (fun _ => 0))), (q3, .inl (cI, 4, .inl (fun _ => 0))), (q4, .inl (cI, 4, .inl (fun _ => 0))), (q5, .inl (cI, 4, .inl (fun _ => 0)))]) rfl ?_
  exact hend dX2_init_49 ⟨q1, q2, q3, q4, q5, rfl⟩

set_option maxHeartbeats 4000000 in
set_option maxRecDepth 100000 in
theorem c_X0_init (l : Launch) (D : va_G) (cI cZ cJ : ClassId) (h : Nat) : hl_KV D (hl_ty cI cZ cJ) l yX0_init wsX0_init ({ frames := 1, cells := 6, slots := 480, locals := 20 } : Room) 6 480 [.ref h] [(h, .inr (0, [.null, .null, .null, .null, .null, .null, .int 0]))] (fun w => ∃ q1 q2 q3 q4 q5 q6 : Nat, w = [(h, .inr (0, [.ref q1, .ref q2, .ref q3, .ref q4, .ref q5, .ref q6, .int 0])), (q1, .inl (cI, 80, .inl (fun _ => 0))), (q2, .inl (cI, 80, .inl (fun _ => 0))), (q3, .inl (cI, 80, .inl (fun _ => 0))), (q4, .inl (cI, 80, .inl (fun _ => 0))), (q5, .inl (cZ, 80, .inl (fun _ => 0))), (q6, .inl (cI, 80, .inl (fun _ => 0)))]) := by
  refine hl_KV_of (cc := cX0_init) (maxL := 1) (by decide) rfl (Nat.le_of_ble_eq_true rfl) ?_
  intro p e s m args below meth c A Q h9 hnm hend
  have hi0 : ∀ z ∈ wsX00, z ∈ wsX0_init := by decide +kernel
  refine hl_ls (ls' := [(0, .ref h)]) rfl ?_
  refine hl_aload_n h9 0 dX0_init_0 rfl ?_
  refine hl_objInit h9 (by decide +kernel) (by decide +kernel) (by decide +kernel) dX0_init_1 (Nat.le_of_ble_eq_true rfl) (Nat.le_of_ble_eq_true rfl) ?_
  refine hl_aload_n h9 0 dX0_init_4 rfl ?_
  refine hl_bipush h9 80 dX0_init_5 (by decide) ?_
  refine hl_newa h9 (atype := .int) (ty := .int) (by decide +kernel) rfl (by intro n hn; cases hn) 0 rfl (N' := 80) (a0 := (80, .inl (fun _ => 0))) dX0_init_7 (fun _ => rfl) (by decide) (by decide) (Nat.le_of_ble_eq_true rfl) (Nat.le_of_ble_eq_true rfl) (Nat.le_of_ble_eq_true rfl) (fun q1 => ?_)
  refine hl_wd (w' := [(h, .inr (0, [.null, .null, .null, .null, .null, .null, .int 0])), (q1, .inl (cI, 80, .inl (fun _ => 0)))]) rfl ?_
  refine hl_putF h9 hi0 tyX0_ok nmX0 (q0 := 0) rfl rfl 0 dX0_init_9 (by decide) (by decide +kernel) (by decide) hnm rfl rfl rfl (Nat.le_of_ble_eq_true rfl) (w' := [(h, .inr (0, [.ref q1, .null, .null, .null, .null, .null, .int 0])), (q1, .inl (cI, 80, .inl (fun _ => 0)))]) rfl ?_
  refine hl_aload_n h9 0 dX0_init_12 rfl ?_
  refine hl_bipush h9 80 dX0_init_13 (by decide) ?_
  refine hl_newa h9 (atype := .int) (ty := .int) (by decide +kernel) rfl (by intro n hn; cases hn) 0 rfl (N' := 80) (a0 := (80, .inl (fun _ => 0))) dX0_init_15 (fun _ => rfl) (by decide) (by decide) (Nat.le_of_ble_eq_true rfl) (Nat.le_of_ble_eq_true rfl) (Nat.le_of_ble_eq_true rfl) (fun q2 => ?_)
  refine hl_wd (w' := [(h, .inr (0, [.ref q1, .null, .null, .null, .null, .null, .int 0])), (q1, .inl (cI, 80, .inl (fun _ => 0))), (q2, .inl (cI, 80, .inl (fun _ => 0)))]) rfl ?_
  refine hl_putF h9 hi0 tyX0_ok nmX0 (q0 := 0) rfl rfl 1 dX0_init_17 (by decide) (by decide +kernel) (by decide) hnm rfl rfl rfl (Nat.le_of_ble_eq_true rfl) (w' := [(h, .inr (0, [.ref q1, .ref q2, .null, .null, .null, .null, .int 0])), (q1, .inl (cI, 80, .inl (fun _ => 0))), (q2, .inl (cI, 80, .inl (fun _ => 0)))]) rfl ?_
  refine hl_aload_n h9 0 dX0_init_20 rfl ?_
  refine hl_bipush h9 80 dX0_init_21 (by decide) ?_
  refine hl_newa h9 (atype := .int) (ty := .int) (by decide +kernel) rfl (by intro n hn; cases hn) 0 rfl (N' := 80) (a0 := (80, .inl (fun _ => 0))) dX0_init_23 (fun _ => rfl) (by decide) (by decide) (Nat.le_of_ble_eq_true rfl) (Nat.le_of_ble_eq_true rfl) (Nat.le_of_ble_eq_true rfl) (fun q3 => ?_)
  refine hl_wd (w' := [(h, .inr (0, [.ref q1, .ref q2, .null, .null, .null, .null, .int 0])), (q1, .inl (cI, 80, .inl (fun _ => 0))), (q2, .inl (cI, 80, .inl (fun _ => 0))), (q3, .inl (cI, 80, .inl (fun _ => 0)))]) rfl ?_
  refine hl_putF h9 hi0 tyX0_ok nmX0 (q0 := 0) rfl rfl 2 dX0_init_25 (by decide) (by decide +kernel) (by decide) hnm rfl rfl rfl (Nat.le_of_ble_eq_true rfl) (w' := [(h, .inr (0, [.ref q1, .ref q2, .ref q3, .null, .null, .null, .int 0])), (q1, .inl (cI, 80, .inl (fun _ => 0))), (q2, .inl (cI, 80, .inl (fun _ => 0))), (q3, .inl (cI, 80, .inl (fun _ => 0)))]) rfl ?_
  refine hl_aload_n h9 0 dX0_init_28 rfl ?_
  refine hl_bipush h9 80 dX0_init_29 (by decide) ?_
  refine hl_newa h9 (atype := .int) (ty := .int) (by decide +kernel) rfl (by intro n hn; cases hn) 0 rfl (N' := 80) (a0 := (80, .inl (fun _ => 0))) dX0_init_31 (fun _ => rfl) (by decide) (by decide) (Nat.le_of_ble_eq_true rfl) (Nat.le_of_ble_eq_true rfl) (Nat.le_of_ble_eq_true rfl) (fun q4 => ?_)
  refine hl_wd (w' := [(h, .inr (0, [.ref q1, .ref q2, .ref q3, .null, .null, .null, .int 0])), (q1, .inl (cI, 80, .inl (fun _ => 0))), (q2, .inl (cI, 80, .inl (fun _ => 0))), (q3, .inl (cI, 80, .inl (fun _ => 0))), (q4, .inl (cI, 80, .inl (fun _ => 0)))]) rfl ?_
  refine hl_putF h9 hi0 tyX0_ok nmX0 (q0 := 0) rfl rfl 3 dX0_init_33 (by decide) (by decide +kernel) (by decide) hnm rfl rfl rfl (Nat.le_of_ble_eq_true rfl) (w' := [(h, .inr (0, [.ref q1, .ref q2, .ref q3, .ref q4, .null, .null, .int 0])), (q1, .inl (cI, 80, .inl (fun _ => 0))), (q2, .inl (cI, 80, .inl (fun _ => 0))), (q3, .inl (cI, 80, .inl (fun _ => 0))), (q4, .inl (cI, 80, .inl (fun _ => 0)))]) rfl ?_
  refine hl_aload_n h9 0 dX0_init_36 rfl ?_
  refine hl_bipush h9 80 dX0_init_37 (by decide) ?_
  refine hl_newa h9 (atype := .boolean) (ty := .boolean) (by decide +kernel) rfl (by intro n hn; cases hn) 1 rfl (N' := 80) (a0 := (80, .inl (fun _ => 0))) dX0_init_39 (fun _ => rfl) (by decide) (by decide) (Nat.le_of_ble_eq_true rfl) (Nat.le_of_ble_eq_true rfl) (Nat.le_of_ble_eq_true rfl) (fun q5 => ?_)
  refine hl_wd (w' := [(h, .inr (0, [.ref q1, .ref q2, .ref q3, .ref q4, .null, .null, .int 0])), (q1, .inl (cI, 80, .inl (fun _ => 0))), (q2, .inl (cI, 80, .inl (fun _ => 0))), (q3, .inl (cI, 80, .inl (fun _ => 0))), (q4, .inl (cI, 80, .inl (fun _ => 0))), (q5, .inl (cZ, 80, .inl (fun _ => 0)))]) rfl ?_
  refine hl_putF h9 hi0 tyX0_ok nmX0 (q0 := 0) rfl rfl 4 dX0_init_41 (by decide) (by decide +kernel) (by decide) hnm rfl rfl rfl (Nat.le_of_ble_eq_true rfl) (w' := [(h, .inr (0, [.ref q1, .ref q2, .ref q3, .ref q4, .ref q5, .null, .int 0])), (q1, .inl (cI, 80, .inl (fun _ => 0))), (q2, .inl (cI, 80, .inl (fun _ => 0))), (q3, .inl (cI, 80, .inl (fun _ => 0))), (q4, .inl (cI, 80, .inl (fun _ => 0))), (q5, .inl (cZ, 80, .inl (fun _ => 0)))]) rfl ?_
  refine hl_aload_n h9 0 dX0_init_44 rfl ?_
  refine hl_bipush h9 80 dX0_init_45 (by decide) ?_
  refine hl_newa h9 (atype := .int) (ty := .int) (by decide +kernel) rfl (by intro n hn; cases hn) 0 rfl (N' := 80) (a0 := (80, .inl (fun _ => 0))) dX0_init_47 (fun _ => rfl) (by decide) (by decide) (Nat.le_of_ble_eq_true rfl) (Nat.le_of_ble_eq_true rfl) (Nat.le_of_ble_eq_true rfl) (fun q6 => ?_)
  refine hl_wd (w' := [(h, .inr (0, [.ref q1, .ref q2, .ref q3, .ref q4, .ref q5, .null, .int 0])), (q1, .inl (cI, 80, .inl (fun _ => 0))), (q2, .inl (cI, 80, .inl (fun _ => 0))), (q3, .inl (cI, 80, .inl (fun _ => 0))), (q4, .inl (cI, 80, .inl (fun _ => 0))), (q5, .inl (cZ, 80, .inl (fun _ => 0))), (q6, .inl (cI, 80, .inl (fun _ => 0)))]) rfl ?_
  refine hl_putF h9 hi0 tyX0_ok nmX0 (q0 := 0) rfl rfl 5 dX0_init_49 (by decide) (by decide +kernel) (by decide) hnm rfl rfl rfl (Nat.le_of_ble_eq_true rfl) (w' := [(h, .inr (0, [.ref q1, .ref q2, .ref q3, .ref q4, .ref q5, .ref q6, .int 0])), (q1, .inl (cI, 80, .inl (fun _ => 0))), (q2, .inl (cI, 80, .inl (fun _ => 0))), (q3, .inl (cI, 80, .inl (fun _ => 0))), (q4, .inl (cI, 80, .inl (fun _ => 0))), (q5, .inl (cZ, 80, .inl (fun _ => 0))), (q6, .inl (cI, 80, .inl (fun _ => 0)))]) rfl ?_
  refine hl_aload_n h9 0 dX0_init_52 rfl ?_
  refine hl_iconst h9 0 dX0_init_53 (by decide) ?_
  refine hl_put h9 hi0 tyX0_ok nmX0 (q0 := 0) rfl rfl 6 dX0_init_54 (by decide) (by decide +kernel) (by decide) rfl rfl (Nat.le_of_ble_eq_true rfl) (w' := [(h, .inr (0, [.ref q1, .ref q2, .ref q3, .ref q4, .ref q5, .ref q6, .int 0])), (q1, .inl (cI, 80, .inl (fun _ => 0))), (q2, .inl (cI, 80, .inl (fun _ => 0))), (q3, .inl (cI, 80, .inl (fun _ => 0))), (q4, .inl (cI, 80, .inl (fun _ => 0))), (q5, .inl (cZ, 80, .inl (fun _ => 0))), (q6, .inl (cI, 80, .inl (fun _ => 0)))]) rfl ?_
  exact hend dX0_init_57 ⟨q1, q2, q3, q4, q5, q6, rfl⟩

set_option maxHeartbeats 4000000 in
set_option maxRecDepth 100000 in
theorem c_X3_init (l : Launch) (D : va_G) (cI cZ cJ : ClassId) (h : Nat) : hl_KV D (hl_ty cI cZ cJ) l yX3_init wsX3_init ({ frames := 1, cells := 3, slots := 240, locals := 20 } : Room) 3 240 [.ref h] [(h, .inr (3, [.null, .null, .null, .int 0]))] (fun w => ∃ q1 q2 q3 : Nat, w = [(h, .inr (3, [.ref q1, .ref q2, .ref q3, .int 0])), (q1, .inl (cI, 80, .inl (fun _ => 0))), (q2, .inl (cI, 80, .inl (fun _ => 0))), (q3, .inl (cI, 80, .inl (fun _ => 0)))]) := by
  refine hl_KV_of (cc := cX3_init) (maxL := 1) (by decide) rfl (Nat.le_of_ble_eq_true rfl) ?_
  intro p e s m args below meth c A Q h9 hnm hend
  have hi3 : ∀ z ∈ wsX30, z ∈ wsX3_init := by decide +kernel
  refine hl_ls (ls' := [(0, .ref h)]) rfl ?_
  refine hl_aload_n h9 0 dX3_init_0 rfl ?_
  refine hl_objInit h9 (by decide +kernel) (by decide +kernel) (by decide +kernel) dX3_init_1 (Nat.le_of_ble_eq_true rfl) (Nat.le_of_ble_eq_true rfl) ?_
  refine hl_aload_n h9 0 dX3_init_4 rfl ?_
  refine hl_bipush h9 80 dX3_init_5 (by decide) ?_
  refine hl_newa h9 (atype := .int) (ty := .int) (by decide +kernel) rfl (by intro n hn; cases hn) 0 rfl (N' := 80) (a0 := (80, .inl (fun _ => 0))) dX3_init_7 (fun _ => rfl) (by decide) (by decide) (Nat.le_of_ble_eq_true rfl) (Nat.le_of_ble_eq_true rfl) (Nat.le_of_ble_eq_true rfl) (fun q1 => ?_)
  refine hl_wd (w' := [(h, .inr (3, [.null, .null, .null, .int 0])), (q1, .inl (cI, 80, .inl (fun _ => 0)))]) rfl ?_
  refine hl_putF h9 hi3 tyX3_ok nmX3 (q0 := 0) rfl rfl 0 dX3_init_9 (by decide) (by decide +kernel) (by decide) hnm rfl rfl rfl (Nat.le_of_ble_eq_true rfl) (w' := [(h, .inr (3, [.ref q1, .null, .null, .int 0])), (q1, .inl (cI, 80, .inl (fun _ => 0)))]) rfl ?_
  refine hl_aload_n h9 0 dX3_init_12 rfl ?_
  refine hl_bipush h9 80 dX3_init_13 (by decide) ?_
  refine hl_newa h9 (atype := .int) (ty := .int) (by decide +kernel) rfl (by intro n hn; cases hn) 0 rfl (N' := 80) (a0 := (80, .inl (fun _ => 0))) dX3_init_15 (fun _ => rfl) (by decide) (by decide) (Nat.le_of_ble_eq_true rfl) (Nat.le_of_ble_eq_true rfl) (Nat.le_of_ble_eq_true rfl) (fun q2 => ?_)
  refine hl_wd (w' := [(h, .inr (3, [.ref q1, .null, .null, .int 0])), (q1, .inl (cI, 80, .inl (fun _ => 0))), (q2, .inl (cI, 80, .inl (fun _ => 0)))]) rfl ?_
  refine hl_putF h9 hi3 tyX3_ok nmX3 (q0 := 0) rfl rfl 1 dX3_init_17 (by decide) (by decide +kernel) (by decide) hnm rfl rfl rfl (Nat.le_of_ble_eq_true rfl) (w' := [(h, .inr (3, [.ref q1, .ref q2, .null, .int 0])), (q1, .inl (cI, 80, .inl (fun _ => 0))), (q2, .inl (cI, 80, .inl (fun _ => 0)))]) rfl ?_
  refine hl_aload_n h9 0 dX3_init_20 rfl ?_
  refine hl_bipush h9 80 dX3_init_21 (by decide) ?_
  refine hl_newa h9 (atype := .int) (ty := .int) (by decide +kernel) rfl (by intro n hn; cases hn) 0 rfl (N' := 80) (a0 := (80, .inl (fun _ => 0))) dX3_init_23 (fun _ => rfl) (by decide) (by decide) (Nat.le_of_ble_eq_true rfl) (Nat.le_of_ble_eq_true rfl) (Nat.le_of_ble_eq_true rfl) (fun q3 => ?_)
  refine hl_wd (w' := [(h, .inr (3, [.ref q1, .ref q2, .null, .int 0])), (q1, .inl (cI, 80, .inl (fun _ => 0))), (q2, .inl (cI, 80, .inl (fun _ => 0))), (q3, .inl (cI, 80, .inl (fun _ => 0)))]) rfl ?_
  refine hl_putF h9 hi3 tyX3_ok nmX3 (q0 := 0) rfl rfl 2 dX3_init_25 (by decide) (by decide +kernel) (by decide) hnm rfl rfl rfl (Nat.le_of_ble_eq_true rfl) (w' := [(h, .inr (3, [.ref q1, .ref q2, .ref q3, .int 0])), (q1, .inl (cI, 80, .inl (fun _ => 0))), (q2, .inl (cI, 80, .inl (fun _ => 0))), (q3, .inl (cI, 80, .inl (fun _ => 0)))]) rfl ?_
  refine hl_aload_n h9 0 dX3_init_28 rfl ?_
  refine hl_iconst h9 0 dX3_init_29 (by decide) ?_
  refine hl_put h9 hi3 tyX3_ok nmX3 (q0 := 0) rfl rfl 3 dX3_init_30 (by decide) (by decide +kernel) (by decide) rfl rfl (Nat.le_of_ble_eq_true rfl) (w' := [(h, .inr (3, [.ref q1, .ref q2, .ref q3, .int 0])), (q1, .inl (cI, 80, .inl (fun _ => 0))), (q2, .inl (cI, 80, .inl (fun _ => 0))), (q3, .inl (cI, 80, .inl (fun _ => 0)))]) rfl ?_
  exact hend dX3_init_33 ⟨q1, q2, q3, rfl⟩

set_option maxHeartbeats 4000000 in
set_option maxRecDepth 100000 in
theorem c_X1_init (l : Launch) (D : va_G) (cI cZ cJ : ClassId) (h : Nat) : hl_KV D (hl_ty cI cZ cJ) l yX1_init wsX1_init ({ frames := 1, cells := 2, slots := 20, locals := 20 } : Room) 2 20 [.ref h] [(h, .inr (1, [.null, .null]))] (fun w => ∃ q1 q2 : Nat, w = [(h, .inr (1, [.ref q1, .ref q2])), (q1, .inl (cI, 4, .inl (fun _ => 0))), (q2, .inl (cI, 16, .inl (fun _ => 0)))]) := by
  refine hl_KV_of (cc := cX1_init) (maxL := 1) (by decide) rfl (Nat.le_of_ble_eq_true rfl) ?_
  intro p e s m args below meth c A Q h9 hnm hend
  have hi1 : ∀ z ∈ wsX10, z ∈ wsX1_init := by decide +kernel
  refine hl_ls (ls' := [(0, .ref h)]) rfl ?_
  refine hl_aload_n h9 0 dX1_init_0 rfl ?_
  refine hl_objInit h9 (by decide +kernel) (by decide +kernel) (by decide +kernel) dX1_init_1 (Nat.le_of_ble_eq_true rfl) (Nat.le_of_ble_eq_true rfl) ?_
  refine hl_aload_n h9 0 dX1_init_4 rfl ?_
  refine hl_iconst h9 4 dX1_init_5 (by decide) ?_
  refine hl_newa h9 (atype := .int) (ty := .int) (by decide +kernel) rfl (by intro n hn; cases hn) 0 rfl (N' := 4) (a0 := (4, .inl (fun _ => 0))) dX1_init_6 (fun _ => rfl) (by decide) (by decide) (Nat.le_of_ble_eq_true rfl) (Nat.le_of_ble_eq_true rfl) (Nat.le_of_ble_eq_true rfl) (fun q1 => ?_)
  refine hl_wd (w' := [(h, .inr (1, [.null, .null])), (q1, .inl (cI, 4, .inl (fun _ => 0)))]) rfl ?_
  refine hl_putF h9 hi1 tyX1_ok nmX1 (q0 := 0) rfl rfl 0 dX1_init_8 (by decide) (by decide +kernel) (by decide) hnm rfl rfl rfl (Nat.le_of_ble_eq_true rfl) (w' := [(h, .inr (1, [.ref q1, .null])), (q1, .inl (cI, 4, .inl (fun _ => 0)))]) rfl ?_
  refine hl_aload_n h9 0 dX1_init_11 rfl ?_
  refine hl_bipush h9 16 dX1_init_12 (by decide) ?_
  refine hl_newa h9 (atype := .int) (ty := .int) (by decide +kernel) rfl (by intro n hn; cases hn) 0 rfl (N' := 16) (a0 := (16, .inl (fun _ => 0))) dX1_init_14 (fun _ => rfl) (by decide) (by decide) (Nat.le_of_ble_eq_true rfl) (Nat.le_of_ble_eq_true rfl) (Nat.le_of_ble_eq_true rfl) (fun q2 => ?_)
  refine hl_wd (w' := [(h, .inr (1, [.ref q1, .null])), (q1, .inl (cI, 4, .inl (fun _ => 0))), (q2, .inl (cI, 16, .inl (fun _ => 0)))]) rfl ?_
  refine hl_putF h9 hi1 tyX1_ok nmX1 (q0 := 0) rfl rfl 1 dX1_init_16 (by decide) (by decide +kernel) (by decide) hnm rfl rfl rfl (Nat.le_of_ble_eq_true rfl) (w' := [(h, .inr (1, [.ref q1, .ref q2])), (q1, .inl (cI, 4, .inl (fun _ => 0))), (q2, .inl (cI, 16, .inl (fun _ => 0)))]) rfl ?_
  exact hend dX1_init_19 ⟨q1, q2, rfl⟩

set_option maxHeartbeats 4000000 in
set_option maxRecDepth 100000 in
theorem c_X5_init (l : Launch) (D : va_G) (cI cZ cJ : ClassId) (h : Nat) : hl_KV D (hl_ty cI cZ cJ) l yX5_init wsX5_init ({ frames := 2, cells := 24, slots := 807, locals := 41 } : Room) 24 807 [.ref h] [(h, .inr (5, [.null, .null, .null, .null, .null, .int 0]))] (fun w => ∃ a : Nat → Nat, a 0 = h ∧ w = hl_WC a cI cZ hl_g0) := by
  refine hl_KV_of (cc := cX5_init) (maxL := 1) (by decide) rfl (Nat.le_of_ble_eq_true rfl) ?_
  intro p e s m args below meth c A Q h9 hnm hend
  have hi0 : ∀ z ∈ wsX00, z ∈ wsX5_init := by decide +kernel
  have hi1 : ∀ z ∈ wsX10, z ∈ wsX5_init := by decide +kernel
  have hi2 : ∀ z ∈ wsX20, z ∈ wsX5_init := by decide +kernel
  have hi3 : ∀ z ∈ wsX30, z ∈ wsX5_init := by decide +kernel
  have hi4 : ∀ z ∈ wsX40, z ∈ wsX5_init := by decide +kernel
  have hi5 : ∀ z ∈ wsX50, z ∈ wsX5_init := by decide +kernel
  refine hl_ls (ls' := [(0, .ref h)]) rfl ?_
  refine hl_aload_n h9 0 dX5_init_0 rfl ?_
  refine hl_objInit h9 (by decide +kernel) (by decide +kernel) (by decide +kernel) dX5_init_1 (Nat.le_of_ble_eq_true rfl) (Nat.le_of_ble_eq_true rfl) ?_
  refine hl_aload_n h9 0 dX5_init_4 rfl ?_
  refine hl_new h9 hi4 tyX4_ok (ci := 4) rfl dX5_init_5 (by decide +kernel) (by decide +kernel) (by decide +kernel) [.null, .null, .null] (fun j hj => by rcases (show j = 0 ∨ j = 1 ∨ j = 2 by omega) with rfl | rfl | rfl <;> rfl) (Nat.le_of_ble_eq_true rfl) (Nat.le_of_ble_eq_true rfl) (fun q1 => ?_)
  refine hl_wd (w' := [(h, .inr (5, [.null, .null, .null, .null, .null, .int 0])), (q1, .inr (4, [.null, .null, .null]))]) rfl ?_
  refine hl_dup h9 dX5_init_8 rfl ?_
  refine hl_callPI h9 (st := [.ref q1, .ref h]) (As := []) (wc := [(q1, .inr (4, [.null, .null, .null]))]) (wr := [(h, .inr (5, [.null, .null, .null, .null, .null, .int 0]))]) [1] [0] rfl rfl (by decide) (by decide) (by decide) (c_X4_init l D cI cZ cJ q1) (cwI 0 h9.2.2.2.2.1 gX5_init_X4_init rfl rfl rfl (h9.2.2.2.2.1 _ (by decide +kernel)) (h9.2.2.2.2.1 _ (by decide +kernel)) (h9.2.2.2.2.1 _ (by decide +kernel)) rfl (by decide +kernel) ⟨Nat.le_of_ble_eq_true rfl, Nat.le_of_ble_eq_true rfl⟩) dX5_init_9 rfl (Nat.le_of_ble_eq_true rfl) ⟨Nat.le_of_ble_eq_true rfl, Nat.le_of_ble_eq_true rfl⟩ rfl (fun w1 hw1 => ?_)
  obtain ⟨q2, q3, q4, rfl⟩ := hw1
  refine hl_wd (w' := [(h, .inr (5, [.null, .null, .null, .null, .null, .int 0])), (q1, .inr (4, [.ref q2, .ref q3, .ref q4])), (q2, .inl (cI, 8, .inl (fun _ => 0))), (q3, .inl (cI, 8, .inl hl_ten)), (q4, .inl (cI, 8, .inl (fun _ => 0)))]) rfl ?_
  refine hl_putF h9 hi5 tyX5_ok nmX5 (q0 := 0) rfl rfl 0 dX5_init_12 (by decide) (by decide +kernel) (by decide) hnm rfl rfl rfl (Nat.le_of_ble_eq_true rfl) (w' := [(h, .inr (5, [.ref q1, .null, .null, .null, .null, .int 0])), (q1, .inr (4, [.ref q2, .ref q3, .ref q4])), (q2, .inl (cI, 8, .inl (fun _ => 0))), (q3, .inl (cI, 8, .inl hl_ten)), (q4, .inl (cI, 8, .inl (fun _ => 0)))]) rfl ?_
  refine hl_aload_n h9 0 dX5_init_15 rfl ?_
  refine hl_new h9 hi2 tyX2_ok (ci := 2) rfl dX5_init_16 (by decide +kernel) (by decide +kernel) (by decide +kernel) [.null, .null, .null, .null, .null, .int 0, .int 0] (fun j hj => by rcases (show j = 0 ∨ j = 1 ∨ j = 2 ∨ j = 3 ∨ j = 4 ∨ j = 5 ∨ j = 6 by omega) with rfl | rfl | rfl | rfl | rfl | rfl | rfl <;> rfl) (Nat.le_of_ble_eq_true rfl) (Nat.le_of_ble_eq_true rfl) (fun q5 => ?_)
  refine hl_wd (w' := [(h, .inr (5, [.ref q1, .null, .null, .null, .null, .int 0])), (q1, .inr (4, [.ref q2, .ref q3, .ref q4])), (q2, .inl (cI, 8, .inl (fun _ => 0))), (q3, .inl (cI, 8, .inl hl_ten)), (q4, .inl (cI, 8, .inl (fun _ => 0))), (q5, .inr (2, [.null, .null, .null, .null, .null, .int 0, .int 0]))]) rfl ?_
  refine hl_dup h9 dX5_init_19 rfl ?_
  refine hl_callPI h9 (st := [.ref q5, .ref h]) (As := []) (wc := [(q5, .inr (2, [.null, .null, .null, .null, .null, .int 0, .int 0]))]) (wr := [(h, .inr (5, [.ref q1, .null, .null, .null, .null, .int 0])), (q1, .inr (4, [.ref q2, .ref q3, .ref q4])), (q2, .inl (cI, 8, .inl (fun _ => 0))), (q3, .inl (cI, 8, .inl hl_ten)), (q4, .inl (cI, 8, .inl (fun _ => 0)))]) [5] [0, 1, 2, 3, 4] rfl rfl (by decide) (by decide) (by decide) (c_X2_init l D cI cZ cJ q5) (cwI 0 h9.2.2.2.2.1 gX5_init_X2_init rfl rfl rfl (h9.2.2.2.2.1 _ (by decide +kernel)) (h9.2.2.2.2.1 _ (by decide +kernel)) (h9.2.2.2.2.1 _ (by decide +kernel)) rfl (by decide +kernel) ⟨Nat.le_of_ble_eq_true rfl, Nat.le_of_ble_eq_true rfl⟩) dX5_init_20 rfl (Nat.le_of_ble_eq_true rfl) ⟨Nat.le_of_ble_eq_true rfl, Nat.le_of_ble_eq_true rfl⟩ rfl (fun w1 hw1 => ?_)
  obtain ⟨q6, q7, q8, q9, q10, rfl⟩ := hw1
  refine hl_wd (w' := [(h, .inr (5, [.ref q1, .null, .null, .null, .null, .int 0])), (q1, .inr (4, [.ref q2, .ref q3, .ref q4])), (q2, .inl (cI, 8, .inl (fun _ => 0))), (q3, .inl (cI, 8, .inl hl_ten)), (q4, .inl (cI, 8, .inl (fun _ => 0))), (q5, .inr (2, [.ref q6, .ref q7, .ref q8, .ref q9, .ref q10, .int 0, .int 0])), (q6, .inl (cI, 4, .inl (fun _ => 0))), (q7, .inl (cI, 4, .inl (fun _ => 0))), (q8, .inl (cI, 4, .inl (fun _ => 0))), (q9, .inl (cI, 4, .inl (fun _ => 0))), (q10, .inl (cI, 4, .inl (fun _ => 0)))]) rfl ?_
  refine hl_putF h9 hi5 tyX5_ok nmX5 (q0 := 0) rfl rfl 1 dX5_init_23 (by decide) (by decide +kernel) (by decide) hnm rfl rfl rfl (Nat.le_of_ble_eq_true rfl) (w' := [(h, .inr (5, [.ref q1, .ref q5, .null, .null, .null, .int 0])), (q1, .inr (4, [.ref q2, .ref q3, .ref q4])), (q2, .inl (cI, 8, .inl (fun _ => 0))), (q3, .inl (cI, 8, .inl hl_ten)), (q4, .inl (cI, 8, .inl (fun _ => 0))), (q5, .inr (2, [.ref q6, .ref q7, .ref q8, .ref q9, .ref q10, .int 0, .int 0])), (q6, .inl (cI, 4, .inl (fun _ => 0))), (q7, .inl (cI, 4, .inl (fun _ => 0))), (q8, .inl (cI, 4, .inl (fun _ => 0))), (q9, .inl (cI, 4, .inl (fun _ => 0))), (q10, .inl (cI, 4, .inl (fun _ => 0)))]) rfl ?_
  refine hl_aload_n h9 0 dX5_init_26 rfl ?_
  refine hl_new h9 hi0 tyX0_ok (ci := 0) rfl dX5_init_27 (by decide +kernel) (by decide +kernel) (by decide +kernel) [.null, .null, .null, .null, .null, .null, .int 0] (fun j hj => by rcases (show j = 0 ∨ j = 1 ∨ j = 2 ∨ j = 3 ∨ j = 4 ∨ j = 5 ∨ j = 6 by omega) with rfl | rfl | rfl | rfl | rfl | rfl | rfl <;> rfl) (Nat.le_of_ble_eq_true rfl) (Nat.le_of_ble_eq_true rfl) (fun q11 => ?_)
  refine hl_wd (w' := [(h, .inr (5, [.ref q1, .ref q5, .null, .null, .null, .int 0])), (q1, .inr (4, [.ref q2, .ref q3, .ref q4])), (q2, .inl (cI, 8, .inl (fun _ => 0))), (q3, .inl (cI, 8, .inl hl_ten)), (q4, .inl (cI, 8, .inl (fun _ => 0))), (q5, .inr (2, [.ref q6, .ref q7, .ref q8, .ref q9, .ref q10, .int 0, .int 0])), (q6, .inl (cI, 4, .inl (fun _ => 0))), (q7, .inl (cI, 4, .inl (fun _ => 0))), (q8, .inl (cI, 4, .inl (fun _ => 0))), (q9, .inl (cI, 4, .inl (fun _ => 0))), (q10, .inl (cI, 4, .inl (fun _ => 0))), (q11, .inr (0, [.null, .null, .null, .null, .null, .null, .int 0]))]) rfl ?_
  refine hl_dup h9 dX5_init_30 rfl ?_
  refine hl_callPI h9 (st := [.ref q11, .ref h]) (As := []) (wc := [(q11, .inr (0, [.null, .null, .null, .null, .null, .null, .int 0]))]) (wr := [(h, .inr (5, [.ref q1, .ref q5, .null, .null, .null, .int 0])), (q1, .inr (4, [.ref q2, .ref q3, .ref q4])), (q2, .inl (cI, 8, .inl (fun _ => 0))), (q3, .inl (cI, 8, .inl hl_ten)), (q4, .inl (cI, 8, .inl (fun _ => 0))), (q5, .inr (2, [.ref q6, .ref q7, .ref q8, .ref q9, .ref q10, .int 0, .int 0])), (q6, .inl (cI, 4, .inl (fun _ => 0))), (q7, .inl (cI, 4, .inl (fun _ => 0))), (q8, .inl (cI, 4, .inl (fun _ => 0))), (q9, .inl (cI, 4, .inl (fun _ => 0))), (q10, .inl (cI, 4, .inl (fun _ => 0)))]) [11] [0, 1, 2, 3, 4, 5, 6, 7, 8, 9, 10] rfl rfl (by decide) (by decide) (by decide) (c_X0_init l D cI cZ cJ q11) (cwI 0 h9.2.2.2.2.1 gX5_init_X0_init rfl rfl rfl (h9.2.2.2.2.1 _ (by decide +kernel)) (h9.2.2.2.2.1 _ (by decide +kernel)) (h9.2.2.2.2.1 _ (by decide +kernel)) rfl (by decide +kernel) ⟨Nat.le_of_ble_eq_true rfl, Nat.le_of_ble_eq_true rfl⟩) dX5_init_31 rfl (Nat.le_of_ble_eq_true rfl) ⟨Nat.le_of_ble_eq_true rfl, Nat.le_of_ble_eq_true rfl⟩ rfl (fun w1 hw1 => ?_)
  obtain ⟨q12, q13, q14, q15, q16, q17, rfl⟩ := hw1
  refine hl_wd (w' := [(h, .inr (5, [.ref q1, .ref q5, .null, .null, .null, .int 0])), (q1, .inr (4, [.ref q2, .ref q3, .ref q4])), (q2, .inl (cI, 8, .inl (fun _ => 0))), (q3, .inl (cI, 8, .inl hl_ten)), (q4, .inl (cI, 8, .inl (fun _ => 0))), (q5, .inr (2, [.ref q6, .ref q7, .ref q8, .ref q9, .ref q10, .int 0, .int 0])), (q6, .inl (cI, 4, .inl (fun _ => 0))), (q7, .inl (cI, 4, .inl (fun _ => 0))), (q8, .inl (cI, 4, .inl (fun _ => 0))), (q9, .inl (cI, 4, .inl (fun _ => 0))), (q10, .inl (cI, 4, .inl (fun _ => 0))), (q11, .inr (0, [.ref q12, .ref q13, .ref q14, .ref q15, .ref q16, .ref q17, .int 0])), (q12, .inl (cI, 80, .inl (fun _ => 0))), (q13, .inl (cI, 80, .inl (fun _ => 0))), (q14, .inl (cI, 80, .inl (fun _ => 0))), (q15, .inl (cI, 80, .inl (fun _ => 0))), (q16, .inl (cZ, 80, .inl (fun _ => 0))), (q17, .inl (cI, 80, .inl (fun _ => 0)))]) rfl ?_
  refine hl_putF h9 hi5 tyX5_ok nmX5 (q0 := 0) rfl rfl 2 dX5_init_34 (by decide) (by decide +kernel) (by decide) hnm rfl rfl rfl (Nat.le_of_ble_eq_true rfl) (w' := [(h, .inr (5, [.ref q1, .ref q5, .ref q11, .null, .null, .int 0])), (q1, .inr (4, [.ref q2, .ref q3, .ref q4])), (q2, .inl (cI, 8, .inl (fun _ => 0))), (q3, .inl (cI, 8, .inl hl_ten)), (q4, .inl (cI, 8, .inl (fun _ => 0))), (q5, .inr (2, [.ref q6, .ref q7, .ref q8, .ref q9, .ref q10, .int 0, .int 0])), (q6, .inl (cI, 4, .inl (fun _ => 0))), (q7, .inl (cI, 4, .inl (fun _ => 0))), (q8, .inl (cI, 4, .inl (fun _ => 0))), (q9, .inl (cI, 4, .inl (fun _ => 0))), (q10, .inl (cI, 4, .inl (fun _ => 0))), (q11, .inr (0, [.ref q12, .ref q13, .ref q14, .ref q15, .ref q16, .ref q17, .int 0])), (q12, .inl (cI, 80, .inl (fun _ => 0))), (q13, .inl (cI, 80, .inl (fun _ => 0))), (q14, .inl (cI, 80, .inl (fun _ => 0))), (q15, .inl (cI, 80, .inl (fun _ => 0))), (q16, .inl (cZ, 80, .inl (fun _ => 0))), (q17, .inl (cI, 80, .inl (fun _ => 0)))]) rfl ?_
  refine hl_aload_n h9 0 dX5_init_37 rfl ?_
  refine hl_new h9 hi3 tyX3_ok (ci := 3) rfl dX5_init_38 (by decide +kernel) (by decide +kernel) (by decide +kernel) [.null, .null, .null, .int 0] (fun j hj => by rcases (show j = 0 ∨ j = 1 ∨ j = 2 ∨ j = 3 by omega) with rfl | rfl | rfl | rfl <;> rfl) (Nat.le_of_ble_eq_true rfl) (Nat.le_of_ble_eq_true rfl) (fun q18 => ?_)
  refine hl_wd (w' := [(h, .inr (5, [.ref q1, .ref q5, .ref q11, .null, .null, .int 0])), (q1, .inr (4, [.ref q2, .ref q3, .ref q4])), (q2, .inl (cI, 8, .inl (fun _ => 0))), (q3, .inl (cI, 8, .inl hl_ten)), (q4, .inl (cI, 8, .inl (fun _ => 0))), (q5, .inr (2, [.ref q6, .ref q7, .ref q8, .ref q9, .ref q10, .int 0, .int 0])), (q6, .inl (cI, 4, .inl (fun _ => 0))), (q7, .inl (cI, 4, .inl (fun _ => 0))), (q8, .inl (cI, 4, .inl (fun _ => 0))), (q9, .inl (cI, 4, .inl (fun _ => 0))), (q10, .inl (cI, 4, .inl (fun _ => 0))), (q11, .inr (0, [.ref q12, .ref q13, .ref q14, .ref q15, .ref q16, .ref q17, .int 0])), (q12, .inl (cI, 80, .inl (fun _ => 0))), (q13, .inl (cI, 80, .inl (fun _ => 0))), (q14, .inl (cI, 80, .inl (fun _ => 0))), (q15, .inl (cI, 80, .inl (fun _ => 0))), (q16, .inl (cZ, 80, .inl (fun _ => 0))), (q17, .inl (cI, 80, .inl (fun _ => 0))), (q18, .inr (3, [.null, .null, .null, .int 0]))]) rfl ?_
  refine hl_dup h9 dX5_init_41 rfl ?_
  refine hl_callPI h9 (st := [.ref q18, .ref h]) (As := []) (wc := [(q18, .inr (3, [.null, .null, .null, .int 0]))]) (wr := [(h, .inr (5, [.ref q1, .ref q5, .ref q11, .null, .null, .int 0])), (q1, .inr (4, [.ref q2, .ref q3, .ref q4])), (q2, .inl (cI, 8, .inl (fun _ => 0))), (q3, .inl (cI, 8, .inl hl_ten)), (q4, .inl (cI, 8, .inl (fun _ => 0))), (q5, .inr (2, [.ref q6, .ref q7, .ref q8, .ref q9, .ref q10, .int 0, .int 0])), (q6, .inl (cI, 4, .inl (fun _ => 0))), (q7, .inl (cI, 4, .inl (fun _ => 0))), (q8, .inl (cI, 4, .inl (fun _ => 0))), (q9, .inl (cI, 4, .inl (fun _ => 0))), (q10, .inl (cI, 4, .inl (fun _ => 0))), (q11, .inr (0, [.ref q12, .ref q13, .ref q14, .ref q15, .ref q16, .ref q17, .int 0])), (q12, .inl (cI, 80, .inl (fun _ => 0))), (q13, .inl (cI, 80, .inl (fun _ => 0))), (q14, .inl (cI, 80, .inl (fun _ => 0))), (q15, .inl (cI, 80, .inl (fun _ => 0))), (q16, .inl (cZ, 80, .inl (fun _ => 0))), (q17, .inl (cI, 80, .inl (fun _ => 0)))]) [18] [0, 1, 2, 3, 4, 5, 6, 7, 8, 9, 10, 11, 12, 13, 14, 15, 16, 17] rfl rfl (by decide) (by decide) (by decide) (c_X3_init l D cI cZ cJ q18) (cwI 0 h9.2.2.2.2.1 gX5_init_X3_init rfl rfl rfl (h9.2.2.2.2.1 _ (by decide +kernel)) (h9.2.2.2.2.1 _ (by decide +kernel)) (h9.2.2.2.2.1 _ (by decide +kernel)) rfl (by decide +kernel) ⟨Nat.le_of_ble_eq_true rfl, Nat.le_of_ble_eq_true rfl⟩) dX5_init_42 rfl (Nat.le_of_ble_eq_true rfl) ⟨Nat.le_of_ble_eq_true rfl, Nat.le_of_ble_eq_true rfl⟩ rfl (fun w1 hw1 => ?_)
  obtain ⟨q19, q20, q21, rfl⟩ := hw1
  refine hl_wd (w' := [(h, .inr (5, [.ref q1, .ref q5, .ref q11, .null, .null, .int 0])), (q1, .inr (4, [.ref q2, .ref q3, .ref q4])), (q2, .inl (cI, 8, .inl (fun _ => 0))), (q3, .inl (cI, 8, .inl hl_ten)), (q4, .inl (cI, 8, .inl (fun _ => 0))), (q5, .inr (2, [.ref q6, .ref q7, .ref q8, .ref q9, .ref q10, .int 0, .int 0])), (q6, .inl (cI, 4, .inl (fun _ => 0))), (q7, .inl (cI, 4, .inl (fun _ => 0))), (q8, .inl (cI, 4, .inl (fun _ => 0))), (q9, .inl (cI, 4, .inl (fun _ => 0))), (q10, .inl (cI, 4, .inl (fun _ => 0))), (q11, .inr (0, [.ref q12, .ref q13, .ref q14, .ref q15, .ref q16, .ref q17, .int 0])), (q12, .inl (cI, 80, .inl (fun _ => 0))), (q13, .inl (cI, 80, .inl (fun _ => 0))), (q14, .inl (cI, 80, .inl (fun _ => 0))), (q15, .inl (cI, 80, .inl (fun _ => 0))), (q16, .inl (cZ, 80, .inl (fun _ => 0))), (q17, .inl (cI, 80, .inl (fun _ => 0))), (q18, .inr (3, [.ref q19, .ref q20, .ref q21, .int 0])), (q19, .inl (cI, 80, .inl (fun _ => 0))), (q20, .inl (cI, 80, .inl (fun _ => 0))), (q21, .inl (cI, 80, .inl (fun _ => 0)))]) rfl ?_
  refine hl_putF h9 hi5 tyX5_ok nmX5 (q0 := 0) rfl rfl 3 dX5_init_45 (by decide) (by decide +kernel) (by decide) hnm rfl rfl rfl (Nat.le_of_ble_eq_true rfl) (w' := [(h, .inr (5, [.ref q1, .ref q5, .ref q11, .ref q18, .null, .int 0])), (q1, .inr (4, [.ref q2, .ref q3, .ref q4])), (q2, .inl (cI, 8, .inl (fun _ => 0))), (q3, .inl (cI, 8, .inl hl_ten)), (q4, .inl (cI, 8, .inl (fun _ => 0))), (q5, .inr (2, [.ref q6, .ref q7, .ref q8, .ref q9, .ref q10, .int 0, .int 0])), (q6, .inl (cI, 4, .inl (fun _ => 0))), (q7, .inl (cI, 4, .inl (fun _ => 0))), (q8, .inl (cI, 4, .inl (fun _ => 0))), (q9, .inl (cI, 4, .inl (fun _ => 0))), (q10, .inl (cI, 4, .inl (fun _ => 0))), (q11, .inr (0, [.ref q12, .ref q13, .ref q14, .ref q15, .ref q16, .ref q17, .int 0])), (q12, .inl (cI, 80, .inl (fun _ => 0))), (q13, .inl (cI, 80, .inl (fun _ => 0))), (q14, .inl (cI, 80, .inl (fun _ => 0))), (q15, .inl (cI, 80, .inl (fun _ => 0))), (q16, .inl (cZ, 80, .inl (fun _ => 0))), (q17, .inl (cI, 80, .inl (fun _ => 0))), (q18, .inr (3, [.ref q19, .ref q20, .ref q21, .int 0])), (q19, .inl (cI, 80, .inl (fun _ => 0))), (q20, .inl (cI, 80, .inl (fun _ => 0))), (q21, .inl (cI, 80, .inl (fun _ => 0)))]) rfl ?_
  refine hl_aload_n h9 0 dX5_init_48 rfl ?_
  refine hl_new h9 hi1 tyX1_ok (ci := 1) rfl dX5_init_49 (by decide +kernel) (by decide +kernel) (by decide +kernel) [.null, .null] (fun j hj => by rcases (show j = 0 ∨ j = 1 by omega) with rfl | rfl <;> rfl) (Nat.le_of_ble_eq_true rfl) (Nat.le_of_ble_eq_true rfl) (fun q22 => ?_)
  refine hl_wd (w' := [(h, .inr (5, [.ref q1, .ref q5, .ref q11, .ref q18, .null, .int 0])), (q1, .inr (4, [.ref q2, .ref q3, .ref q4])), (q2, .inl (cI, 8, .inl (fun _ => 0))), (q3, .inl (cI, 8, .inl hl_ten)), (q4, .inl (cI, 8, .inl (fun _ => 0))), (q5, .inr (2, [.ref q6, .ref q7, .ref q8, .ref q9, .ref q10, .int 0, .int 0])), (q6, .inl (cI, 4, .inl (fun _ => 0))), (q7, .inl (cI, 4, .inl (fun _ => 0))), (q8, .inl (cI, 4, .inl (fun _ => 0))), (q9, .inl (cI, 4, .inl (fun _ => 0))), (q10, .inl (cI, 4, .inl (fun _ => 0))), (q11, .inr (0, [.ref q12, .ref q13, .ref q14, .ref q15, .ref q16, .ref q17, .int 0])), (q12, .inl (cI, 80, .inl (fun _ => 0))), (q13, .inl (cI, 80, .inl (fun _ => 0))), (q14, .inl (cI, 80, .inl (fun _ => 0))), (q15, .inl (cI, 80, .inl (fun _ => 0))), (q16, .inl (cZ, 80, .inl (fun _ => 0))), (q17, .inl (cI, 80, .inl (fun _ => 0))), (q18, .inr (3, [.ref q19, .ref q20, .ref q21, .int 0])), (q19, .inl (cI, 80, .inl (fun _ => 0))), (q20, .inl (cI, 80, .inl (fun _ => 0))), (q21, .inl (cI, 80, .inl (fun _ => 0))), (q22, .inr (1, [.null, .null]))]) rfl ?_
  refine hl_dup h9 dX5_init_52 rfl ?_
  refine hl_callPI h9 (st := [.ref q22, .ref h]) (As := []) (wc := [(q22, .inr (1, [.null, .null]))]) (wr := [(h, .inr (5, [.ref q1, .ref q5, .ref q11, .ref q18, .null, .int 0])), (q1, .inr (4, [.ref q2, .ref q3, .ref q4])), (q2, .inl (cI, 8, .inl (fun _ => 0))), (q3, .inl (cI, 8, .inl hl_ten)), (q4, .inl (cI, 8, .inl (fun _ => 0))), (q5, .inr (2, [.ref q6, .ref q7, .ref q8, .ref q9, .ref q10, .int 0, .int 0])), (q6, .inl (cI, 4, .inl (fun _ => 0))), (q7, .inl (cI, 4, .inl (fun _ => 0))), (q8, .inl (cI, 4, .inl (fun _ => 0))), (q9, .inl (cI, 4, .inl (fun _ => 0))), (q10, .inl (cI, 4, .inl (fun _ => 0))), (q11, .inr (0, [.ref q12, .ref q13, .ref q14, .ref q15, .ref q16, .ref q17, .int 0])), (q12, .inl (cI, 80, .inl (fun _ => 0))), (q13, .inl (cI, 80, .inl (fun _ => 0))), (q14, .inl (cI, 80, .inl (fun _ => 0))), (q15, .inl (cI, 80, .inl (fun _ => 0))), (q16, .inl (cZ, 80, .inl (fun _ => 0))), (q17, .inl (cI, 80, .inl (fun _ => 0))), (q18, .inr (3, [.ref q19, .ref q20, .ref q21, .int 0])), (q19, .inl (cI, 80, .inl (fun _ => 0))), (q20, .inl (cI, 80, .inl (fun _ => 0))), (q21, .inl (cI, 80, .inl (fun _ => 0)))]) [22] [0, 1, 2, 3, 4, 5, 6, 7, 8, 9, 10, 11, 12, 13, 14, 15, 16, 17, 18, 19, 20, 21] rfl rfl (by decide) (by decide) (by decide) (c_X1_init l D cI cZ cJ q22) (cwI 0 h9.2.2.2.2.1 gX5_init_X1_init rfl rfl rfl (h9.2.2.2.2.1 _ (by decide +kernel)) (h9.2.2.2.2.1 _ (by decide +kernel)) (h9.2.2.2.2.1 _ (by decide +kernel)) rfl (by decide +kernel) ⟨Nat.le_of_ble_eq_true rfl, Nat.le_of_ble_eq_true rfl⟩) dX5_init_53 rfl (Nat.le_of_ble_eq_true rfl) ⟨Nat.le_of_ble_eq_true rfl, Nat.le_of_ble_eq_true rfl⟩ rfl (fun w1 hw1 => ?_)
  obtain ⟨q23, q24, rfl⟩ := hw1
  refine hl_wd (w' := [(h, .inr (5, [.ref q1, .ref q5, .ref q11, .ref q18, .null, .int 0])), (q1, .inr (4, [.ref q2, .ref q3, .ref q4])), (q2, .inl (cI, 8, .inl (fun _ => 0))), (q3, .inl (cI, 8, .inl hl_ten)), (q4, .inl (cI, 8, .inl (fun _ => 0))), (q5, .inr (2, [.ref q6, .ref q7, .ref q8, .ref q9, .ref q10, .int 0, .int 0])), (q6, .inl (cI, 4, .inl (fun _ => 0))), (q7, .inl (cI, 4, .inl (fun _ => 0))), (q8, .inl (cI, 4, .inl (fun _ => 0))), (q9, .inl (cI, 4, .inl (fun _ => 0))), (q10, .inl (cI, 4, .inl (fun _ => 0))), (q11, .inr (0, [.ref q12, .ref q13, .ref q14, .ref q15, .ref q16, .ref q17, .int 0])), (q12, .inl (cI, 80, .inl (fun _ => 0))), (q13, .inl (cI, 80, .inl (fun _ => 0))), (q14, .inl (cI, 80, .inl (fun _ => 0))), (q15, .inl (cI, 80, .inl (fun _ => 0))), (q16, .inl (cZ, 80, .inl (fun _ => 0))), (q17, .inl (cI, 80, .inl (fun _ => 0))), (q18, .inr (3, [.ref q19, .ref q20, .ref q21, .int 0])), (q19, .inl (cI, 80, .inl (fun _ => 0))), (q20, .inl (cI, 80, .inl (fun _ => 0))), (q21, .inl (cI, 80, .inl (fun _ => 0))), (q22, .inr (1, [.ref q23, .ref q24])), (q23, .inl (cI, 4, .inl (fun _ => 0))), (q24, .inl (cI, 16, .inl (fun _ => 0)))]) rfl ?_
  refine hl_putF h9 hi5 tyX5_ok nmX5 (q0 := 0) rfl rfl 4 dX5_init_56 (by decide) (by decide +kernel) (by decide) hnm rfl rfl rfl (Nat.le_of_ble_eq_true rfl) (w' := [(h, .inr (5, [.ref q1, .ref q5, .ref q11, .ref q18, .ref q22, .int 0])), (q1, .inr (4, [.ref q2, .ref q3, .ref q4])), (q2, .inl (cI, 8, .inl (fun _ => 0))), (q3, .inl (cI, 8, .inl hl_ten)), (q4, .inl (cI, 8, .inl (fun _ => 0))), (q5, .inr (2, [.ref q6, .ref q7, .ref q8, .ref q9, .ref q10, .int 0, .int 0])), (q6, .inl (cI, 4, .inl (fun _ => 0))), (q7, .inl (cI, 4, .inl (fun _ => 0))), (q8, .inl (cI, 4, .inl (fun _ => 0))), (q9, .inl (cI, 4, .inl (fun _ => 0))), (q10, .inl (cI, 4, .inl (fun _ => 0))), (q11, .inr (0, [.ref q12, .ref q13, .ref q14, .ref q15, .ref q16, .ref q17, .int 0])), (q12, .inl (cI, 80, .inl (fun _ => 0))), (q13, .inl (cI, 80, .inl (fun _ => 0))), (q14, .inl (cI, 80, .inl (fun _ => 0))), (q15, .inl (cI, 80, .inl (fun _ => 0))), (q16, .inl (cZ, 80, .inl (fun _ => 0))), (q17, .inl (cI, 80, .inl (fun _ => 0))), (q18, .inr (3, [.ref q19, .ref q20, .ref q21, .int 0])), (q19, .inl (cI, 80, .inl (fun _ => 0))), (q20, .inl (cI, 80, .inl (fun _ => 0))), (q21, .inl (cI, 80, .inl (fun _ => 0))), (q22, .inr (1, [.ref q23, .ref q24])), (q23, .inl (cI, 4, .inl (fun _ => 0))), (q24, .inl (cI, 16, .inl (fun _ => 0)))]) rfl ?_
  refine hl_aload_n h9 0 dX5_init_59 rfl ?_
  refine hl_iconst h9 0 dX5_init_60 (by decide) ?_
  refine hl_put h9 hi5 tyX5_ok nmX5 (q0 := 0) rfl rfl 5 dX5_init_61 (by decide) (by decide +kernel) (by decide) rfl rfl (Nat.le_of_ble_eq_true rfl) (w' := [(h, .inr (5, [.ref q1, .ref q5, .ref q11, .ref q18, .ref q22, .int 0])), (q1, .inr (4, [.ref q2, .ref q3, .ref q4])), (q2, .inl (cI, 8, .inl (fun _ => 0))), (q3, .inl (cI, 8, .inl hl_ten)), (q4, .inl (cI, 8, .inl (fun _ => 0))), (q5, .inr (2, [.ref q6, .ref q7, .ref q8, .ref q9, .ref q10, .int 0, .int 0])), (q6, .inl (cI, 4, .inl (fun _ => 0))), (q7, .inl (cI, 4, .inl (fun _ => 0))), (q8, .inl (cI, 4, .inl (fun _ => 0))), (q9, .inl (cI, 4, .inl (fun _ => 0))), (q10, .inl (cI, 4, .inl (fun _ => 0))), (q11, .inr (0, [.ref q12, .ref q13, .ref q14, .ref q15, .ref q16, .ref q17, .int 0])), (q12, .inl (cI, 80, .inl (fun _ => 0))), (q13, .inl (cI, 80, .inl (fun _ => 0))), (q14, .inl (cI, 80, .inl (fun _ => 0))), (q15, .inl (cI, 80, .inl (fun _ => 0))), (q16, .inl (cZ, 80, .inl (fun _ => 0))), (q17, .inl (cI, 80, .inl (fun _ => 0))), (q18, .inr (3, [.ref q19, .ref q20, .ref q21, .int 0])), (q19, .inl (cI, 80, .inl (fun _ => 0))), (q20, .inl (cI, 80, .inl (fun _ => 0))), (q21, .inl (cI, 80, .inl (fun _ => 0))), (q22, .inr (1, [.ref q23, .ref q24])), (q23, .inl (cI, 4, .inl (fun _ => 0))), (q24, .inl (cI, 16, .inl (fun _ => 0)))]) rfl ?_
  refine hl_wsub [0, 1, 5, 11, 18, 22, 2, 3, 4, 6, 7, 8, 9, 10, 12, 13, 14, 15, 16, 17, 19, 20, 21, 23, 24] (w' := hl_WC (fun k => [h, q1, q5, q11, q18, q22, q2, q3, q4, q6, q7, q8, q9, q10, q12, q13, q14, q15, q16, q17, q19, q20, q21, q23, q24].getD k 0) cI cZ hl_g0) (by decide) rfl ?_
  exact hend dX5_init_64 ⟨_, rfl, rfl⟩
end
section
/-! Loops as folds; sums -/
theorem hl_it_snoc {α : Type} (f : Nat → α → α) : ∀ (n i : Nat) (u : α), hl_it f i (n + 1) u = f (i + n) (hl_it f i n u) := by
  intro n
  induction n with
  | zero => intro i u; rfl
  | succ n ih =>
    intro i u
    rw [hl_it_s, ih (i + 1) (f i u), hl_it_s, show i + 1 + n = i + (n + 1) by omega]
theorem hl_it_inv {α : Type} (P : Nat → α → Prop) (f : Nat → α → α) : ∀ (n : Nat) (u : α), P 0 u → (∀ k x, k < n → P k x → P (k + 1) (f k x)) → P n (hl_it f 0 n u) := by
  intro n
  induction n with
  | zero => intro u h _; exact h
  | succ n ih =>
    intro u h hs
    rw [hl_it_snoc, Nat.zero_add]
    exact hs n _ (Nat.lt_succ_self n) (ih u h (fun k x hk => hs k x (Nat.lt_succ_of_lt hk)))
theorem hl_it_inv2 {α β : Type} (P : Nat → α → β → Prop) (f : Nat → α → α) (f2 : Nat → β → β) : ∀ (n : Nat) (u : α) (v : β), P 0 u v → (∀ k x y, k < n → P k x y → P (k + 1) (f k x) (f2 k y)) → P n (hl_it f 0 n u) (hl_it f2 0 n v) := by
  intro n
  induction n with
  | zero => intro u v h _; exact h
  | succ n ih =>
    intro u v h hs
    rw [hl_it_snoc, hl_it_snoc, Nat.zero_add]
    exact hs n _ _ (Nat.lt_succ_self n) (ih u v h (fun k x y hk => hs k x y (Nat.lt_succ_of_lt hk)))
theorem hl_it_congr {α : Type} (f f2 : Nat → α → α) (n : Nat) (u : α) (h : ∀ k x, k < n → f k x = f2 k x) : hl_it f 0 n u = hl_it f2 0 n u :=
  hl_it_inv2 (fun _ x y => x = y) f f2 n u u rfl (fun k x y hk e => by subst e; exact h k x hk)
theorem hl_upd_same (f : Nat → Int32) (k : Nat) : upd f k (f k) = f := by
  funext j
  unfold upd
  split
  · next h => rw [h]
  · rfl
theorem hl_upd_upd (f : Nat → Int32) (k : Nat) (x y : Int32) : upd (upd f k x) k y = upd f k y := by
  funext j
  unfold upd
  split <;> rfl
theorem hl_upd_at (f : Nat → Int32) (k : Nat) (x : Int32) : upd f k x k = x := by simp [upd]
theorem hl_upd_ne (f : Nat → Int32) {k j : Nat} (x : Int32) (h : j ≠ k) : upd f k x j = f j := by simp [upd, h]
/-! the count of those who did not come to an inn in a night -/
def hl_miss (g : Nat → Nat → Int32) (s i : Nat) (k : Nat) (n : Int32) : Int32 := if g 11 k = nI i ∧ g 13 k = nI s ∧ g 14 k = 0 then n + 1 else n
theorem hl_lt_k4 {T m : Nat} (hT : T ≤ 300) (hm : m < 400) : nI m < nI T - 4 ↔ m + 4 < T := by
  have h1 : (nI T).toInt = T := nI_toInt (by omega)
  have h2 : (nI m).toInt = m := nI_toInt (by omega)
  have h3 : (nI T - 4).toInt = T - 4 := by
    rw [Int32.toInt_sub, h1, show (4 : Int32).toInt = 4 by decide]
    apply Int.bmod_eq_of_le <;> omega
  rw [Int32.lt_iff_toInt_lt, h3, h2]
  omega
def hl_m4 (g : Nat → Nat → Int32) (T x i n : Nat) : Int32 := if 4 ≤ T + i then hl_it (hl_miss g (T + i - 4) x) 0 n 0 else 0
theorem hl_m4_s (g : Nat → Nat → Int32) (T x i n : Nat) : hl_m4 g T x i (n + 1) = if 4 ≤ T + i ∧ g 11 n = nI x ∧ g 13 n = nI (T + i - 4) ∧ g 14 n = 0 then hl_m4 g T x i n + 1 else hl_m4 g T x i n := by
  unfold hl_m4
  by_cases h : 4 ≤ T + i
  · simp only [h, if_true, true_and]
    rw [hl_it_snoc, Nat.zero_add]
    rfl
  · simp [h]
theorem hl_ext_sum (g : Nat → Nat → Int32) {T x : Nat} (hT : T ≤ 300) : ∀ (n : Nat), (∀ k, k < n → vp_in (g 13 k) 400) →
    hl_it (b_X0_missedAt g (nI x) (nI T - 4) (nI T)) 0 n 0 = hl_m4 g T x 0 n + hl_m4 g T x 1 n + hl_m4 g T x 2 n + hl_m4 g T x 3 n := by
  intro n
  induction n with
  | zero => intro _; simp [hl_m4, hl_it]
  | succ n ih =>
    intro hv
    obtain ⟨m, hm, em⟩ := vp_in_of (hv n (Nat.lt_succ_self n)) (by decide)
    rw [hl_it_snoc, Nat.zero_add, ih (fun k hk => hv k (Nat.lt_succ_of_lt hk)), hl_m4_s, hl_m4_s, hl_m4_s, hl_m4_s]
    unfold b_X0_missedAt
    rw [em]
    have q1 : ¬ nI m < nI T - 4 ↔ T ≤ m + 4 := by rw [hl_lt_k4 hT hm]; omega
    have q2 : ¬ nI T ≤ nI m ↔ m < T := by rw [nI_leI (by omega) (by omega)]; omega
    have q3 : ∀ i, i < 4 → ((4 ≤ T + i ∧ g 11 n = nI x ∧ nI m = nI (T + i - 4) ∧ g 14 n = 0) ↔ (m + 4 = T + i ∧ g 11 n = nI x ∧ g 14 n = 0)) := by
      intro i hi
      rw [nI_eq (by omega) (by omega)]
      constructor
      · rintro ⟨a1, a2, a3, a4⟩; exact ⟨by omega, a2, a4⟩
      · rintro ⟨a1, a2, a4⟩; exact ⟨by omega, a2, by omega, a4⟩
    simp only [q1, q2, q3 0 (by omega), q3 1 (by omega), q3 2 (by omega), q3 3 (by omega)]
    by_cases hx : g 11 n = nI x ∧ g 14 n = 0
    · obtain ⟨hx1, hx2⟩ := hx
      simp only [hx1, hx2, true_and, and_true]
      by_cases a0 : m + 4 = T + 0
      · rw [if_pos (by omega : T ≤ m + 4 ∧ m < T), if_pos a0, if_neg (by omega : ¬ m + 4 = T + 1), if_neg (by omega : ¬ m + 4 = T + 2), if_neg (by omega : ¬ m + 4 = T + 3)]
        grind
      · by_cases a1 : m + 4 = T + 1
        · rw [if_pos (by omega : T ≤ m + 4 ∧ m < T), if_neg a0, if_pos a1, if_neg (by omega : ¬ m + 4 = T + 2), if_neg (by omega : ¬ m + 4 = T + 3)]
          grind
        · by_cases a2 : m + 4 = T + 2
          · rw [if_pos (by omega : T ≤ m + 4 ∧ m < T), if_neg a0, if_neg a1, if_pos a2, if_neg (by omega : ¬ m + 4 = T + 3)]
            grind
          · by_cases a3 : m + 4 = T + 3
            · rw [if_pos (by omega : T ≤ m + 4 ∧ m < T), if_neg a0, if_neg a1, if_neg a2, if_pos a3]
              grind
            · rw [if_neg (by omega : ¬ (T ≤ m + 4 ∧ m < T)), if_neg a0, if_neg a1, if_neg a2, if_neg a3]
    · rw [if_neg (fun z => hx ⟨z.1, z.2.2.2⟩), if_neg (fun z => hx z.2), if_neg (fun z => hx z.2), if_neg (fun z => hx z.2), if_neg (fun z => hx z.2)]
theorem hl_ext_mod (t : Nat → Nat → Int32) (g : Nat → Nat → Int32) {T x N : Nat} (hx : x < 4) (hm : ∀ s i, s < T → i < 4 → t 11 (4 * s + i) = hl_it (hl_miss g s i) 0 N 0) :
    hl_it (b_X6_extra t T (nI x)) 0 4 0 = hl_m4 g T x 0 N + hl_m4 g T x 1 N + hl_m4 g T x 2 N + hl_m4 g T x 3 N := by
  have h1 : ∀ i u, i < 4 → b_X6_extra t T (nI x) i u = u + hl_m4 g T x i N := by
    intro i u hi
    unfold b_X6_extra hl_m4
    rw [nI_clamp (by omega)]
    by_cases h : 4 ≤ T + i
    · rw [if_pos h, if_pos h, hm (T + i - 4) x (by omega) hx]
    · rw [if_neg h, if_neg h]
  show b_X6_extra t T (nI x) 3 (b_X6_extra t T (nI x) 2 (b_X6_extra t T (nI x) 1 (b_X6_extra t T (nI x) 0 0))) = _
  rw [h1 0 _ (by omega), h1 1 _ (by omega), h1 2 _ (by omega), h1 3 _ (by omega)]
  grind
theorem hl_ext_eq {g t : Nat → Nat → Int32} {N T : Nat} {x : Int32} (hT : T ≤ 300) (hx : vp_in x 4) (h23 : g 23 0 = nI T) (hv : ∀ k, k < N → vp_in (g 13 k) 400) (hm : ∀ s i, s < T → i < 4 → t 11 (4 * s + i) = hl_it (hl_miss g s i) 0 N 0) :
    r_X5_extraOf g N x = r_X6_extraOf t T x := by
  obtain ⟨j, hj, rfl⟩ := vp_in_of hx (by decide)
  unfold r_X5_extraOf r_X6_extraOf
  rw [h23, hl_ext_sum g hT N hv, hl_ext_mod t g hj hm]
end
section
/-! Who has the most linen; where a guest sleeps: the class and the reference find the same -/
theorem hl_i32_le_trans {a b c : Int32} (h : a ≤ b) (h2 : b ≤ c) : a ≤ c := by
  simp only [Int32.le_iff_toInt_le] at *; omega
theorem hl_i32_nle {a b : Int32} (h : ¬ a ≤ b) : b ≤ a := by
  simp only [Int32.le_iff_toInt_le] at *; omega
theorem hl_i32_refl (a : Int32) : a ≤ a := by simp only [Int32.le_iff_toInt_le]; omega
theorem hl_giver_spec (g : Nat → Nat → Int32) : ((hl_it (b_X2_giverFor g) 0 4 (-1, 0)).1 = -1 ∧ ∀ k, k < 4 → g 3 k ≤ 0) ∨ ∃ j, j < 4 ∧ (hl_it (b_X2_giverFor g) 0 4 (-1, 0)).1 = nI j ∧ ¬ g 3 j ≤ 0 ∧ (∀ k, k < 4 → g 3 k ≤ g 3 j) ∧ ∀ k, k < j → ¬ g 3 j ≤ g 3 k := by
  have h := hl_it_inv (fun n (z : Int32 × Int32) => n ≤ 4 → ((z = (-1, 0) ∧ ∀ k, k < n → g 3 k ≤ 0) ∨ ∃ j, j < n ∧ z = (nI j, g 3 j) ∧ ¬ g 3 j ≤ 0 ∧ (∀ k, k < n → g 3 k ≤ g 3 j) ∧ ∀ k, k < j → ¬ g 3 j ≤ g 3 k)) (b_X2_giverFor g) 4 (-1, 0) (fun _ => Or.inl ⟨rfl, fun k h => absurd h (Nat.not_lt_zero k)⟩) (fun n z hn ih hn1 => by
    unfold b_X2_giverFor
    rcases ih (by omega) with ⟨rfl, h1⟩ | ⟨j, hj, rfl, h1, h2, h3⟩
    · by_cases hc : g 3 n ≤ 0
      · rw [if_pos hc]
        refine Or.inl ⟨rfl, fun k hk => ?_⟩
        rcases Nat.lt_or_ge k n with h | h
        · exact h1 k h
        · rw [show k = n by omega]; exact hc
      · rw [if_neg hc]
        refine Or.inr ⟨n, by omega, rfl, hc, fun k hk => ?_, fun k hk z => hc (hl_i32_le_trans z (h1 k hk))⟩
        rcases Nat.lt_or_ge k n with h | h
        · exact hl_i32_le_trans (h1 k h) (hl_i32_nle hc)
        · rw [show k = n by omega]; exact hl_i32_refl _
    · by_cases hc : g 3 n ≤ g 3 j
      · rw [if_pos hc]
        refine Or.inr ⟨j, by omega, rfl, h1, fun k hk => ?_, h3⟩
        rcases Nat.lt_or_ge k n with h | h
        · exact h2 k h
        · rw [show k = n by omega]; exact hc
      · rw [if_neg hc]
        refine Or.inr ⟨n, by omega, rfl, fun z => h1 (hl_i32_le_trans (hl_i32_nle hc) z), fun k hk => ?_, fun k hk z => hc (hl_i32_le_trans z (h2 k hk))⟩
        rcases Nat.lt_or_ge k n with h | h
        · exact hl_i32_le_trans (h2 k h) (hl_i32_nle hc)
        · rw [show k = n by omega]; exact hl_i32_refl _)
  rcases h (Nat.le_refl 4) with ⟨h1, h2⟩ | ⟨j, hj, h1, h2⟩
  · exact Or.inl ⟨by rw [h1], h2⟩
  · exact Or.inr ⟨j, hj, by rw [h1], h2⟩
theorem hl_rich_spec (t : Nat → Nat → Int32) : ∃ j, j < 4 ∧ r_X6_richest t = nI j ∧ (∀ k, k < 4 → t 3 k ≤ t 3 j) ∧ ∀ k, k < j → ¬ t 3 j ≤ t 3 k := by
  have h := hl_it_inv (fun n (u : Int32) => n ≤ 3 → ∃ j, j < n + 1 ∧ u = nI j ∧ (∀ k, k < n + 1 → t 3 k ≤ t 3 j) ∧ ∀ k, k < j → ¬ t 3 j ≤ t 3 k) (fun k => b_X6_richest t (k + 1)) 3 0 (fun _ => ⟨0, by omega, rfl, fun k hk => by rw [show k = 0 by omega]; exact hl_i32_refl _, fun k hk => absurd hk (Nat.not_lt_zero k)⟩) (fun n u hn ih hn1 => by
    obtain ⟨j, hj, rfl, h2, h3⟩ := ih (by omega)
    show ∃ j', j' < n + 1 + 1 ∧ b_X6_richest t (n + 1) (nI j) = nI j' ∧ _
    unfold b_X6_richest
    rw [nI_clamp (by omega)]
    by_cases hc : t 3 (n + 1) ≤ t 3 j
    · rw [if_pos hc]
      refine ⟨j, by omega, rfl, fun k hk => ?_, h3⟩
      rcases Nat.lt_or_ge k (n + 1) with h | h
      · exact h2 k h
      · rw [show k = n + 1 by omega]; exact hc
    · rw [if_neg hc]
      refine ⟨n + 1, by omega, rfl, fun k hk => ?_, fun k hk z => hc (hl_i32_le_trans z (h2 k hk))⟩
      rcases Nat.lt_or_ge k (n + 1) with h | h
      · exact hl_i32_le_trans (h2 k h) (hl_i32_nle hc)
      · rw [show k = n + 1 by omega]; exact hl_i32_refl _)
  exact h (Nat.le_refl 3)
theorem hl_giver_none {g : Nat → Nat → Int32} {x : Int32} (hx : vp_in x 4) : r_X2_giverFor g x = -1 ↔ ∀ k, k < 4 → g 3 k ≤ 0 := by
  obtain ⟨j, hj, rfl⟩ := vp_in_of hx (by decide)
  unfold r_X2_giverFor
  rw [nI_clamp (by omega)]
  by_cases hc : g 3 j ≤ 0
  · rw [if_pos hc]
    rcases hl_giver_spec g with ⟨h1, h2⟩ | ⟨i, hi, h1, h2, h3⟩
    · exact ⟨fun _ => h2, fun _ => h1⟩
    · rw [h1]
      exact ⟨fun z => absurd z (hl_nIm1 (by omega)), fun z => absurd (z i hi) h2⟩
  · rw [if_neg hc]
    exact ⟨fun z => absurd z (hl_nIm1 (by omega)), fun z => absurd (z j hj) hc⟩
theorem hl_rich_none (t : Nat → Nat → Int32) : t 3 (r_X6_richest t).toNatClampNeg ≤ 0 ↔ ∀ k, k < 4 → t 3 k ≤ 0 := by
  obtain ⟨j, hj, h1, h2, h3⟩ := hl_rich_spec t
  rw [h1, nI_clamp (by omega)]
  exact ⟨fun z k hk => hl_i32_le_trans (h2 k hk) z, fun z => z j hj⟩
theorem hl_giver_rich {g t : Nat → Nat → Int32} (e : g 3 = t 3) (h : ¬ ∀ k, k < 4 → g 3 k ≤ 0) : (hl_it (b_X2_giverFor g) 0 4 (-1, 0)).1 = r_X6_richest t := by
  obtain ⟨j, hj, h1, h2, h3⟩ := hl_rich_spec t
  rcases hl_giver_spec g with ⟨_, a⟩ | ⟨i, hi, a1, a2, a3, a4⟩
  · exact absurd a h
  · rw [a1, h1]
    rw [e] at a3 a4
    rcases Nat.lt_or_ge i j with z | z
    · exact absurd (a3 j hj) (h3 i z)
    · rcases Nat.lt_or_ge j i with z2 | z2
      · exact absurd (h2 i hi) (a4 j z2)
      · rw [show i = j by omega]
def hl_sel (b0 b1 b2 b3 : Bool) (i : Nat) : Bool := if i = 0 then b0 else if i = 1 then b1 else if i = 2 then b2 else b3
def hl_cin (h : Nat) (b0 b1 b2 b3 : Bool) (f i : Nat) (u : Int32) : Int32 := if u = -1 then (if r_X5_distance (nI h) (nI i) = nI f ∧ hl_sel b0 b1 b2 b3 i = true then nI i else -1) else u
def hl_mfn (h : Nat) (b0 b1 b2 b3 : Bool) (i : Nat) (u : Int32) : Int32 := if hl_sel b0 b1 b2 b3 i = true then (if u = -1 then nI i else if r_X6_distance (nI h) u ≤ r_X6_distance (nI h) (nI i) then u else nI i) else u
theorem hl_cm : ∀ h, h < 4 → ∀ b0 b1 b2 b3 : Bool, hl_it (fun f u => hl_it (hl_cin h b0 b1 b2 b3 f) 0 4 u) 0 3 (-1) = hl_it (hl_mfn h b0 b1 b2 b3) 0 4 (-1) := by decide +kernel
theorem hl_cn : ∀ h, h < 4 → hl_it (fun f u => hl_it (hl_cin h false false false false f) 0 4 u) 0 3 (-1) = -1 := by decide +kernel
theorem hl_sel_of (P : Nat → Prop) [DecidablePred P] {i : Nat} (hi : i < 4) : hl_sel (decide (P 0)) (decide (P 1)) (decide (P 2)) (decide (P 3)) i = true ↔ P i := by
  rcases (show i = 0 ∨ i = 1 ∨ i = 2 ∨ i = 3 by omega) with rfl | rfl | rfl | rfl <;> simp [hl_sel]
theorem hl_free_le {g : Nat → Nat → Int32} {x y : Int32} (ha : 0 ≤ (g 0 (x * 2 + y).toNatClampNeg).toInt ∧ (g 0 (x * 2 + y).toNatClampNeg).toInt ≤ 10) (hb : 0 ≤ (g 2 (x * 2 + y).toNatClampNeg).toInt ∧ (g 2 (x * 2 + y).toNatClampNeg).toInt ≤ 1000) :
    r_X4_freeOf g x y ≤ 0 ↔ g 0 (x * 2 + y).toNatClampNeg ≤ g 2 (x * 2 + y).toNatClampNeg := by
  unfold r_X4_freeOf
  generalize g 0 (x * 2 + y).toNatClampNeg = p at *
  generalize g 2 (x * 2 + y).toNatClampNeg = q at *
  have h1 : (p - q).toInt = p.toInt - q.toInt := by
    rw [Int32.toInt_sub]
    apply Int.bmod_eq_of_le <;> omega
  have h0 : (0 : Int32).toInt = 0 := by decide
  by_cases hc : 0 < p - q
  · rw [if_pos hc]
    rw [Int32.lt_iff_toInt_lt, h1, h0] at hc
    rw [Int32.le_iff_toInt_le, Int32.le_iff_toInt_le, h1, h0]
    omega
  · rw [if_neg hc]
    rw [Int32.lt_iff_toInt_lt, h1, h0] at hc
    rw [Int32.le_iff_toInt_le, Int32.le_iff_toInt_le, h0]
    omega
theorem hl_find_eq {g t : Nat → Nat → Int32} {h k : Int32} (hh : vp_in h 4) (hk : vp_in k 2) (e0 : g 0 = t 0) (e2 : g 2 = t 2) (e3 : g 3 = t 3) (ha : ∀ j, j < 8 → 0 ≤ (g 0 j).toInt ∧ (g 0 j).toInt ≤ 10) (hb : ∀ j, j < 8 → 0 ≤ (g 2 j).toInt ∧ (g 2 j).toInt ≤ 1000) :
    r_X5_findInn g h k = r_X6_finds t h k := by
  obtain ⟨j, hj, rfl⟩ := vp_in_of hh (by decide)
  have hfr : ∀ i, i < 4 → (r_X4_freeOf g (nI i) k ≤ 0 ↔ t 0 (2 * nI i + k).toNatClampNeg ≤ t 2 (2 * nI i + k).toNatClampNeg) := by
    intro i hi
    have hi4 : (nI i * 2 + k).toNatClampNeg < 8 := hl_idx (hl_row (vp_in_nI hi (by decide)) hk)
    rw [hl_free_le (ha _ hi4) (hb _ hi4), e0, e2, Int32.mul_comm (nI i) 2]
  by_cases hL : ∀ i, i < 4 → g 3 i ≤ 0
  · have h1 : r_X6_finds t (nI j) k = -1 := by
      unfold r_X6_finds
      rw [if_pos ((hl_rich_none t).mpr (by rw [← e3]; exact hL))]
    rw [h1, ← hl_cn j hj]
    refine hl_it_congr _ _ 3 (-1) (fun f u hf => hl_it_congr _ _ 4 u (fun i u hi => ?_))
    unfold b_X5_findIn hl_cin
    have hg : r_X2_giverFor g (nI i) = -1 := (hl_giver_none (vp_in_nI hi (by decide))).mpr hL
    simp [hg, hl_sel]
  · have h1 : r_X6_finds t (nI j) k = hl_it (b_X6_finds t (nI j) k) 0 4 (-1) := by
      unfold r_X6_finds
      rw [if_neg (fun z => hL (by rw [e3]; exact (hl_rich_none t).mp z))]
    have key := hl_cm j hj (decide (¬ t 0 (2 * nI 0 + k).toNatClampNeg ≤ t 2 (2 * nI 0 + k).toNatClampNeg)) (decide (¬ t 0 (2 * nI 1 + k).toNatClampNeg ≤ t 2 (2 * nI 1 + k).toNatClampNeg)) (decide (¬ t 0 (2 * nI 2 + k).toNatClampNeg ≤ t 2 (2 * nI 2 + k).toNatClampNeg)) (decide (¬ t 0 (2 * nI 3 + k).toNatClampNeg ≤ t 2 (2 * nI 3 + k).toNatClampNeg))
    have hs : ∀ i, i < 4 → (hl_sel (decide (¬ t 0 (2 * nI 0 + k).toNatClampNeg ≤ t 2 (2 * nI 0 + k).toNatClampNeg)) (decide (¬ t 0 (2 * nI 1 + k).toNatClampNeg ≤ t 2 (2 * nI 1 + k).toNatClampNeg)) (decide (¬ t 0 (2 * nI 2 + k).toNatClampNeg ≤ t 2 (2 * nI 2 + k).toNatClampNeg)) (decide (¬ t 0 (2 * nI 3 + k).toNatClampNeg ≤ t 2 (2 * nI 3 + k).toNatClampNeg)) i = true ↔ ¬ t 0 (2 * nI i + k).toNatClampNeg ≤ t 2 (2 * nI i + k).toNatClampNeg) :=
      fun i hi => hl_sel_of (fun i => ¬ t 0 (2 * nI i + k).toNatClampNeg ≤ t 2 (2 * nI i + k).toNatClampNeg) hi
    rw [h1]
    refine Eq.trans ?_ (Eq.trans key ?_)
    · refine hl_it_congr _ _ 3 (-1) (fun f u hf => hl_it_congr _ _ 4 u (fun i u hi => ?_))
      unfold b_X5_findIn hl_cin
      have hg : ¬ r_X2_giverFor g (nI i) = -1 := fun z => hL ((hl_giver_none (vp_in_nI hi (by decide))).mp z)
      simp only [hs i hi, hfr i hi, hg, not_false_eq_true, and_true]
    · refine hl_it_congr _ _ 4 (-1) (fun i u hi => ?_)
      unfold b_X6_finds hl_mfn
      simp only [hs i hi]
      by_cases hc : t 0 (2 * nI i + k).toNatClampNeg ≤ t 2 (2 * nI i + k).toNatClampNeg
      · rw [if_neg (fun z => z hc), if_pos hc]
      · rw [if_pos hc, if_neg hc]
end
section
/-! THE RELATION of the class's contents g and the reference's t, after c calls, with N bookings, M lots, in the night T -/
theorem hl_ti_add {a b : Int32} (h : -2147483648 ≤ a.toInt + b.toInt) (h2 : a.toInt + b.toInt < 2147483648) : (a + b).toInt = a.toInt + b.toInt := by
  rw [Int32.toInt_add]
  apply Int.bmod_eq_of_le <;> omega
theorem hl_ti_sub {a b : Int32} (h : -2147483648 ≤ a.toInt - b.toInt) (h2 : a.toInt - b.toInt < 2147483648) : (a - b).toInt = a.toInt - b.toInt := by
  rw [Int32.toInt_sub]
  apply Int.bmod_eq_of_le <;> omega
def hl_cnt (f : Nat → Int32) : Nat → Nat
  | 0 => 0
  | n + 1 => hl_cnt f n + (if f n = 0 then 0 else 1)
theorem hl_cnt_le (f : Nat → Int32) : ∀ n, hl_cnt f n ≤ n := by
  intro n
  induction n with
  | zero => exact Nat.le_refl 0
  | succ n ih =>
    show hl_cnt f n + (if f n = 0 then 0 else 1) ≤ n + 1
    split <;> omega
theorem hl_cnt_upd (f : Nat → Int32) {x : Nat} {y : Int32} (hy : ¬ y = 0) (hx : f x = 0) : ∀ n, hl_cnt (upd f x y) n = hl_cnt f n + (if x < n then 1 else 0) := by
  intro n
  induction n with
  | zero => rfl
  | succ n ih =>
    show hl_cnt (upd f x y) n + (if upd f x y n = 0 then 0 else 1) = hl_cnt f n + (if f n = 0 then 0 else 1) + _
    rw [ih]
    by_cases h : n = x
    · subst h
      rw [hl_upd_at, hx, if_neg hy, if_pos rfl, if_neg (Nat.lt_irrefl n), if_pos (Nat.lt_succ_self n)]
    · rw [hl_upd_ne f y h]
      by_cases h2 : x < n
      · rw [if_pos h2, if_pos (Nat.lt_succ_of_lt h2)]; omega
      · rw [if_neg h2, if_neg (by omega : ¬ x < n + 1)]; rfl
theorem hl_cnt_lt (f : Nat → Int32) {x n : Nat} (hx : f x = 0) (hn : x < n) : hl_cnt f n < n := by
  have h := hl_cnt_upd f (y := 1) (by decide) hx n
  have h2 := hl_cnt_le (upd f x 1) n
  rw [if_pos hn] at h
  omega
def hl_wsh (f : Nat → Int32) (k n : Nat) : Int32 := hl_it (fun s u => u + f (4 * s + k)) 0 n 0
def hl_RE (g t : Nat → Nat → Int32) : Prop := g 0 = t 0 ∧ g 1 = t 1 ∧ g 2 = t 2 ∧ g 3 = t 3 ∧ g 4 = t 4 ∧ g 8 = t 6 ∧ g 9 = t 7 ∧ g 10 = t 12 ∧ g 11 = t 13 ∧ g 12 = t 14 ∧ g 13 = t 15 ∧ g 14 = t 16 ∧ g 15 = t 17 ∧ g 16 = t 18 ∧ g 17 = t 19 ∧ g 18 = t 20 ∧ g 19 = t 21 ∧ g 20 = t 22 ∧ g 21 = t 5 ∧ g 23 = t 8
def hl_RB (f d : Nat → Int32) : Prop := ∀ i j, i < 4 → j < 4 → f (4 * i + j) = d (4 * i + j) - d (4 * j + i)
def hl_RW (f5 f6 f7 w : Nat → Int32) (T : Nat) : Prop := ∀ k, k < 4 → f5 k = (if 1 ≤ T then w (4 * (T - 1) + k) else 0) ∧ f6 k = (if 2 ≤ T then w (4 * (T - 2) + k) else 0) ∧ f7 k = hl_wsh w k (T - 2)
def hl_RM (g : Nat → Nat → Int32) (w : Nat → Int32) (N T : Nat) : Prop := (∀ s i, s < T → i < 4 → w (4 * s + i) = hl_it (hl_miss g s i) 0 N 0) ∧ ∀ s i, T ≤ s → i < 4 → w (4 * s + i) = 0
def hl_bd (f : Nat → Int32) (n : Nat) (lo hi : Int) : Prop := ∀ j, j < n → lo ≤ (f j).toInt ∧ (f j).toInt ≤ hi
def hl_RN (c : Nat) (g t : Nat → Nat → Int32) (N M : Nat) : Prop := c ≤ 512 ∧ hl_bd (g 0) 8 0 10 ∧ hl_bd (g 1) 8 1 100 ∧ hl_bd (g 2) 8 0 c ∧ hl_bd (g 9) 1 0 c ∧ hl_bd (t 9) 16 0 (1000 * c) ∧ hl_bd (g 19) M 0 10 ∧ ∀ k, k < N → vp_in (g 13 k) 400
def hl_R (c N M T : Nat) (g t : Nat → Nat → Int32) : Prop := hl_ok g N M ∧ (T ≤ 300 ∧ g 23 0 = nI T) ∧ hl_RE g t ∧ hl_RB (g 22) (t 9) ∧ hl_RW (g 5) (g 6) (g 7) (t 10) T ∧ hl_RM g (t 11) N T ∧ M ≤ hl_cnt (g 14) N ∧ hl_RN c g t N M
theorem hl_bd_mono {f : Nat → Int32} {n : Nat} {lo hi hi2 : Int} (h : hl_bd f n lo hi) (h2 : hi ≤ hi2) : hl_bd f n lo hi2 := fun j hj => ⟨(h j hj).1, Int.le_trans (h j hj).2 h2⟩
theorem hl_bd_upd {f : Nat → Int32} {n k : Nat} {lo hi : Int} {x : Int32} (h : hl_bd f n lo hi) (hx : lo ≤ x.toInt ∧ x.toInt ≤ hi) : hl_bd (upd f k x) n lo hi := by
  intro j hj
  unfold upd
  split
  · exact hx
  · exact h j hj
theorem hl_RN_up {c : Nat} {g t : Nat → Nat → Int32} {N M : Nat} (hc : c < 512) (h : hl_RN c g t N M) : hl_RN (c + 1) g t N M := by
  obtain ⟨n0, n1, n2, n3, n4, n5, n6, n7⟩ := h
  exact ⟨hc, n1, n2, hl_bd_mono n3 (by omega), hl_bd_mono n4 (by omega), hl_bd_mono n5 (by omega), n6, n7⟩
theorem hl_R_up {c N M T : Nat} {g t : Nat → Nat → Int32} (hc : c < 512) (h : hl_R c N M T g t) : hl_R (c + 1) N M T g t := by
  obtain ⟨h1, h2, h3, h4, h5, h6, h7, h8⟩ := h
  exact ⟨h1, h2, h3, h4, h5, h6, h7, hl_RN_up hc h8⟩
theorem hl_R_t {c N M T : Nat} {g t : Nat → Nat → Int32} (f : Nat → Int32) (h : hl_R c N M T g t) : hl_R c N M T g (hl_su t 23 f) := by
  obtain ⟨h1, h2, h3, h4, h5, h6, h7, h8⟩ := h
  exact ⟨h1, h2, h3, h4, h5, h6, h7, h8⟩
theorem hl_R_okM {c N M T : Nat} {g t : Nat → Nat → Int32} (h : hl_R c N M T g t) : hl_okM t N M T := by
  obtain ⟨⟨o1, o2, o3, o4, o5, o6, o7⟩, ⟨t1, t2⟩, ⟨e0, e1, e2, e3, e4, e8, e9, e10, e11, e12, e13, e14, e15, e16, e17, e18, e19, e20, e21, e23⟩, h4, h5, h6, h7, h8⟩ := h
  rw [e16] at o2; rw [e20] at o4; rw [e11, e12] at o5; rw [e18] at o6; rw [e8] at o7; rw [e23] at t2
  exact ⟨o1, o2, o3, o4, t1, t2, o5, o6, o7⟩
theorem hl_bd0 (n : Nat) {hi : Int} (h : 0 ≤ hi) : hl_bd (fun _ => 0) n 0 hi := fun _ _ => by
  show (0 : Int) ≤ (0 : Int32).toInt ∧ (0 : Int32).toInt ≤ hi
  rw [show (0 : Int32).toInt = 0 by decide]
  exact ⟨Int.le_refl 0, h⟩
theorem hl_R_0 : hl_R 0 0 0 0 hl_g0 hl_t0 :=
  ⟨⟨by decide, by decide, by decide, by decide, fun k h => absurd h (Nat.not_lt_zero k), fun k h => absurd h (Nat.not_lt_zero k), Or.inl rfl⟩, ⟨by decide, by decide⟩, ⟨rfl, rfl, rfl, rfl, rfl, rfl, rfl, rfl, rfl, rfl, rfl, rfl, rfl, rfl, rfl, rfl, rfl, rfl, rfl, rfl⟩,
    fun i j _ _ => (by decide : (0 : Int32) = 0 - 0), fun k _ => ⟨rfl, rfl, rfl⟩, ⟨fun s i h => absurd h (Nat.not_lt_zero s), fun s i _ _ => rfl⟩, Nat.le_refl 0,
    ⟨by decide, hl_bd0 8 (by decide), (by decide +kernel : ∀ j, j < 8 → (1 : Int) ≤ (hl_ten j).toInt ∧ (hl_ten j).toInt ≤ 100), hl_bd0 8 (by decide), hl_bd0 1 (by decide), hl_bd0 16 (by decide), hl_bd0 0 (by decide), fun j h => absurd h (Nat.not_lt_zero j)⟩⟩
theorem hl_nlt_ti {x y : Int32} (h : ¬ x < y) : y.toInt ≤ x.toInt := Int.not_lt.mp (fun z => h (Int32.lt_iff_toInt_lt.mpr z))
theorem hl_R_setRooms {c N M T : Nat} {g t : Nat → Nat → Int32} {x y n q : Int32} (hc : c < 512) (h : hl_R c N M T g t) (h3 : ¬ n < 0) (h4 : n ≤ 10) (h5 : ¬ q < 1) (h6 : q ≤ 100) :
    hl_R (c + 1) N M T (f_X4_change g x y n q) (hl_su (hl_su (hl_su t 23 (fun _ => 0)) 0 (upd (t 0) (2 * x + y).toNatClampNeg n)) 1 (upd (t 1) (2 * x + y).toNatClampNeg q)) := by
  rw [Int32.mul_comm 2 x]
  obtain ⟨o, tt, ⟨e0, e1, er⟩, b, w, m, ct, ⟨n0, n1, n2, n3, n4, n5, n6, n7⟩⟩ := hl_R_up hc h
  refine ⟨o, tt, ⟨?_, ?_, er⟩, b, w, m, ct, ⟨n0, ?_, ?_, n3, n4, n5, n6, n7⟩⟩
  · show upd (g 0) _ n = upd (t 0) _ n
    rw [e0]
  · show upd (g 1) _ q = upd (t 1) _ q
    rw [e1]
  · exact hl_bd_upd n1 ⟨hl_nlt_ti h3, Int32.le_iff_toInt_le.mp h4⟩
  · exact hl_bd_upd n2 ⟨hl_nlt_ti h5, Int32.le_iff_toInt_le.mp h6⟩
theorem hl_R_buyLinen {c N M T : Nat} {g t : Nat → Nat → Int32} {x n : Int32} (hc : c < 512) (h : hl_R c N M T g t) :
    hl_R (c + 1) N M T (f_X2_addClean g x n) (hl_su (hl_su t 23 (fun _ => 0)) 3 (upd (t 3) x.toNatClampNeg (t 3 x.toNatClampNeg + n))) := by
  obtain ⟨o, tt, ⟨e0, e1, e2, e3, er⟩, b, w, m, ct, nn⟩ := hl_R_up hc h
  refine ⟨o, tt, ⟨e0, e1, e2, ?_, er⟩, b, w, m, ct, nn⟩
  show upd (g 3) _ _ = upd (t 3) _ _
  rw [e3]
theorem hl_R_setBroken {c N M T : Nat} {g t : Nat → Nat → Int32} {x : Int32} (hc : c < 512) (h : hl_R c N M T g t) (hx : x = 0 ∨ x = 1) :
    hl_R (c + 1) N M T (hl_su g 8 (fun _ => x)) (hl_su (hl_su t 23 (fun _ => 0)) 6 (fun _ => x)) := by
  obtain ⟨⟨o1, o2, o3, o4, o5, o6, o7⟩, tt, ⟨e0, e1, e2, e3, e4, e8, er⟩, b, w, m, ct, nn⟩ := hl_R_up hc h
  exact ⟨⟨o1, o2, o3, o4, o5, o6, hx⟩, tt, ⟨e0, e1, e2, e3, e4, rfl, er⟩, b, w, m, ct, nn⟩
theorem hl_R_book {c N M T : Nat} {g t : Nat → Nat → Int32} {x y z v : Int32} (hc : c < 512) (h : hl_R c N M T g t) (h2 : vp_in y 4) (h3 : vp_in z 2) (h4 : ¬ v < g 23 0) (h5 : v ≤ g 23 0 + 10) (h6 : N < 80) :
    hl_R (c + 1) (N + 1) M T (f_X0_add g x y z v) (f_X6_book (hl_su t 23 (fun _ => 0)) x y z v) := by
  obtain ⟨⟨o1, o2, o3, o4, o5, o6, o7⟩, ⟨t1, t2⟩, ⟨e0, e1, e2, e3, e4, e8, e9, e10, e11, e12, e13, e14, e15, e16, e17, e18, e19, e20, e21, e23⟩, b, w, ⟨m1, m2⟩, ct, ⟨n0, n1, n2, n3, n4, n5, n6, n7⟩⟩ := hl_R_up hc h
  have hi : (g 16 0).toNatClampNeg = N := by rw [o2, nI_clamp (by omega)]
  have hi2 : (t 18 0).toNatClampNeg = N := by rw [← e16]; exact hi
  rw [t2] at h4 h5
  have hT : (nI T).toInt = T := nI_toInt (by omega)
  have hv1 : (T : Int) ≤ v.toInt := by rw [← hT]; exact hl_nlt_ti h4
  have hv2 : v.toInt ≤ T + 10 := by
    have q := Int32.le_iff_toInt_le.mp h5
    rw [hl_ti_add (by rw [hT]; show -2147483648 ≤ (T : Int) + 10; omega) (by rw [hT]; show (T : Int) + 10 < 2147483648; omega), hT] at q
    exact q
  have g11 : ∀ k, k < N + 1 → k ≠ N → (f_X0_add g x y z v) 11 k = g 11 k := fun k _ hk => by
    show upd (g 11) (g 16 0).toNatClampNeg y k = _
    rw [hi, hl_upd_ne _ _ hk]
  have g12 : ∀ k, k < N + 1 → k ≠ N → (f_X0_add g x y z v) 12 k = g 12 k := fun k _ hk => by
    show upd (g 12) (g 16 0).toNatClampNeg z k = _
    rw [hi, hl_upd_ne _ _ hk]
  have g13 : ∀ k, k < N + 1 → k ≠ N → (f_X0_add g x y z v) 13 k = g 13 k := fun k _ hk => by
    show upd (g 13) (g 16 0).toNatClampNeg v k = _
    rw [hi, hl_upd_ne _ _ hk]
  have g11N : (f_X0_add g x y z v) 11 N = y := by
    show upd (g 11) (g 16 0).toNatClampNeg y N = _
    rw [hi, hl_upd_at]
  have g12N : (f_X0_add g x y z v) 12 N = z := by
    show upd (g 12) (g 16 0).toNatClampNeg z N = _
    rw [hi, hl_upd_at]
  have g13N : (f_X0_add g x y z v) 13 N = v := by
    show upd (g 13) (g 16 0).toNatClampNeg v N = _
    rw [hi, hl_upd_at]
  refine ⟨⟨by omega, ?_, o3, o4, ?_, o6, o7⟩, ⟨t1, t2⟩, ⟨e0, e1, e2, e3, e4, e8, e9, ?_, ?_, ?_, ?_, e14, ?_, ?_, e17, e18, e19, e20, e21, e23⟩, b, w, ⟨?_, m2⟩, ?_, ⟨n0, n1, n2, n3, n4, n5, n6, ?_⟩⟩
  · show g 16 0 + 1 = nI (N + 1)
    rw [o2, nI_1]
  · intro k hk
    by_cases hk2 : k = N
    · rw [hk2, g11N, g12N]; exact ⟨h2, h3⟩
    · rw [g11 k hk hk2, g12 k hk hk2]; exact o5 k (by omega)
  · show upd (g 10) (g 16 0).toNatClampNeg x = upd (t 12) (t 18 0).toNatClampNeg x
    rw [hi, hi2, e10]
  · show upd (g 11) (g 16 0).toNatClampNeg y = upd (t 13) (t 18 0).toNatClampNeg y
    rw [hi, hi2, e11]
  · show upd (g 12) (g 16 0).toNatClampNeg z = upd (t 14) (t 18 0).toNatClampNeg z
    rw [hi, hi2, e12]
  · show upd (g 13) (g 16 0).toNatClampNeg v = upd (t 15) (t 18 0).toNatClampNeg v
    rw [hi, hi2, e13]
  · show upd (g 15) (g 16 0).toNatClampNeg (-1) = upd (t 17) (t 18 0).toNatClampNeg (-1)
    rw [hi, hi2, e15]
  · show (fun _ => g 16 0 + 1) = (fun _ => t 18 0 + 1)
    rw [e16]
  · intro s i hs hi4
    show t 11 (4 * s + i) = _
    rw [m1 s i hs hi4, hl_it_snoc, Nat.zero_add]
    have hm : ∀ u, hl_miss (f_X0_add g x y z v) s i N u = u := fun u => by
      unfold hl_miss
      rw [g13N, if_neg]
      rintro ⟨_, q, _⟩
      rw [q, nI_toInt (by omega)] at hv1
      omega
    rw [hm]
    refine hl_it_congr _ _ N 0 (fun k u hk => ?_)
    unfold hl_miss
    rw [g11 k (by omega) (by omega), g13 k (by omega) (by omega)]
    rfl
  · exact Nat.le_trans ct (Nat.le_add_right _ _)
  · intro k hk
    by_cases hk2 : k = N
    · rw [hk2, g13N]; exact vp_in_iff.mpr ⟨by omega, by omega⟩
    · rw [g13 k hk hk2]; exact n7 k (by omega)
end
section
/-! A guest comes: the relation stays -/
def hl_ow (f : Nat → Int32) (a b : Nat) (n : Int32) : Nat → Int32 := upd (upd f a (f a + n)) b (upd f a (f a + n) b - n)
def hl_ad (d : Nat → Int32) (a : Nat) (n : Int32) : Nat → Int32 := upd d a (d a + n)
theorem hl_ad0 (d : Nat → Int32) (a : Nat) : hl_ad d a 0 = d := by
  unfold hl_ad
  rw [Int32.add_zero, hl_upd_same]
theorem hl_ad_comm (d : Nat → Int32) (a b : Nat) (m n : Int32) : hl_ad (hl_ad d a m) b n = hl_ad (hl_ad d b n) a m := by
  funext j
  unfold hl_ad upd
  by_cases h1 : j = a <;> by_cases h2 : j = b <;> by_cases h3 : a = b <;> grind
theorem hl_RB_ow {f d : Nat → Int32} {x y : Nat} (n : Int32) (hx : x < 4) (hy : y < 4) (h : hl_RB f d) : hl_RB (hl_ow f (4 * x + y) (4 * y + x) n) (hl_ad d (4 * x + y) n) := by
  intro i j hi hj
  have h1 := h x y hx hy
  have h2 := h y x hy hx
  have h3 := h i j hi hj
  unfold hl_ow hl_ad upd
  have e1 : 4 * i + j = 4 * y + x ↔ i = y ∧ j = x := by omega
  have e2 : 4 * i + j = 4 * x + y ↔ i = x ∧ j = y := by omega
  have e3 : 4 * j + i = 4 * x + y ↔ j = x ∧ i = y := by omega
  have e4 : 4 * y + x = 4 * x + y ↔ y = x := by omega
  simp only [e1, e2, e3, e4]
  by_cases a1 : i = x
  · by_cases a2 : j = y
    · subst a1; subst a2
      by_cases a3 : i = j
      · subst a3; grind
      · grind
    · by_cases a3 : i = y
      · subst a1; subst a3; grind
      · grind
  · by_cases a2 : j = x
    · by_cases a3 : i = y
      · subst a2; subst a3; grind
      · grind
    · grind
theorem hl_bd_ad {d : Nat → Int32} {n k : Nat} {lo hi q : Int} {m : Int32} (h : hl_bd d n lo hi) (hk : k < n) (hm : 0 ≤ m.toInt ∧ m.toInt ≤ q) (hlo : -2147483648 ≤ lo) (hq : hi + q < 2147483648) : hl_bd (hl_ad d k m) n lo (hi + q) := by
  have h1 := h k hk
  have h2 : (d k + m).toInt = (d k).toInt + m.toInt := hl_ti_add (by omega) (by omega)
  exact hl_bd_upd (hl_bd_mono h (by omega)) (by rw [h2]; omega)
theorem hl_c4 {i j : Nat} (hi : i < 4) (hj : j < 4) : (nI i * 4 + nI j).toNatClampNeg = 4 * i + j := by
  show (nI i * nI 4 + nI j).toNatClampNeg = _
  rw [pk_mul, nI_add, nI_clamp (by omega), Nat.mul_comm]
theorem hl_c4' {i j : Nat} (hi : i < 4) (hj : j < 4) : (4 * nI i + nI j).toNatClampNeg = 4 * i + j := by rw [Int32.mul_comm, hl_c4 hi hj]
theorem hl_owe22 (g : Nat → Nat → Int32) (x y n : Int32) : f_X1_owe g x y n 22 = hl_ow (g 22) (x * 4 + y).toNatClampNeg (y * 4 + x).toNatClampNeg n := rfl
theorem hl_giver_congr {g g2 : Nat → Nat → Int32} (h : g 3 = g2 3) (x : Int32) : r_X2_giverFor g x = r_X2_giverFor g2 x := by
  have hb : b_X2_giverFor g = b_X2_giverFor g2 := by
    funext k z
    unfold b_X2_giverFor
    rw [h]
  unfold r_X2_giverFor
  rw [hb, h]
theorem hl_lay_own {g : Nat → Nat → Int32} {v : Int32} (hv : ¬ v = -1) (h : ¬ g 3 v.toNatClampNeg ≤ 0) : f_X5_layLinen g v = hl_su (hl_su g 3 (upd (g 3) v.toNatClampNeg (g 3 v.toNatClampNeg - 1))) 4 (upd (g 4) v.toNatClampNeg (g 4 v.toNatClampNeg + 1)) := by
  have hr : r_X2_giverFor g v = v := by unfold r_X2_giverFor; rw [if_neg h]
  unfold f_X5_layLinen
  rw [hr, if_neg hv, if_pos rfl]
  unfold f_X2_take
  rw [if_pos rfl]
  rfl
theorem hl_lay_borrow {g : Nat → Nat → Int32} {v r : Int32} (hr : r_X2_giverFor g v = r) (h1 : ¬ r = -1) (h2 : ¬ r = v) : f_X5_layLinen g v = hl_su (hl_su (hl_su (f_X1_owe g v r (1 + g 9 0)) 3 (upd (g 3) r.toNatClampNeg (g 3 r.toNatClampNeg - 1))) 4 (upd (g 4) v.toNatClampNeg (g 4 v.toNatClampNeg + 1))) 9 (fun _ => g 9 0 + 1) := by
  unfold f_X5_layLinen
  rw [hr, if_neg h1, if_neg h2]
  unfold f_X2_take
  rw [if_neg h2]
  rfl
theorem hl_add3 {g : Nat → Nat → Int32} (h : g 20 0 < 80) (x y z : Int32) : f_X3_add g x y z = hl_su (hl_su (hl_su (hl_su g 17 (upd (g 17) (g 20 0).toNatClampNeg x)) 18 (upd (g 18) (g 20 0).toNatClampNeg y)) 19 (upd (g 19) (g 20 0).toNatClampNeg z)) 20 (fun _ => g 20 0 + 1) := by
  unfold f_X3_add
  rw [if_pos h]
  rfl
/-- the class's contents behind a guest's coming, place by place, when the inn v has clean linen of its own (b = false) or borrows from r -/
def hl_pg (g : Nat → Nat → Int32) (x hm kd v r : Int32) (f22 f9 : Nat → Int32) (G : Nat → Nat → Int32) : Prop :=
  (G 0 = g 0 ∧ G 1 = g 1 ∧ G 5 = g 5 ∧ G 6 = g 6 ∧ G 7 = g 7 ∧ G 8 = g 8 ∧ G 10 = g 10 ∧ G 11 = g 11 ∧ G 12 = g 12 ∧ G 13 = g 13 ∧ G 14 = g 14 ∧ G 15 = g 15 ∧ G 16 = g 16 ∧ G 23 = g 23) ∧
  G 21 = upd (g 21) hm.toNatClampNeg (g 21 hm.toNatClampNeg + g 1 (hm * 2 + kd).toNatClampNeg) ∧ G 22 = f22 ∧ G 3 = upd (g 3) r.toNatClampNeg (g 3 r.toNatClampNeg - 1) ∧ G 4 = upd (g 4) v.toNatClampNeg (g 4 v.toNatClampNeg + 1) ∧ G 9 = f9 ∧ G 2 = upd (g 2) (v * 2 + kd).toNatClampNeg (g 2 (v * 2 + kd).toNatClampNeg + 1) ∧
  G 17 = upd (g 17) (g 20 0).toNatClampNeg (g 10 x.toNatClampNeg) ∧ G 18 = upd (g 18) (g 20 0).toNatClampNeg v ∧ G 19 = upd (g 19) (g 20 0).toNatClampNeg (g 1 (v * 2 + kd).toNatClampNeg / 10) ∧ G 20 = (fun _ => g 20 0 + 1)
theorem hl_pu_own {g : Nat → Nat → Int32} {x v hm kd : Int32} (e1 : g 11 x.toNatClampNeg = hm) (e2 : g 12 x.toNatClampNeg = kd) (hv : ¬ v = -1) (h : ¬ g 3 v.toNatClampNeg ≤ 0) (h20 : g 20 0 < 80) :
    hl_pg g x hm kd v v (if v = hm then g 22 else hl_ow (g 22) (hm * 4 + v).toNatClampNeg (v * 4 + hm).toNatClampNeg (g 1 (v * 2 + kd).toNatClampNeg)) (g 9) (f_X5_putUp g x v) := by
  subst e1; subst e2
  unfold f_X5_putUp
  by_cases hA : v = g 11 x.toNatClampNeg
  · simp only [if_pos hA]
    rw [hl_lay_own hv (by exact h), hl_add3 (by exact h20)]
    exact ⟨⟨rfl, rfl, rfl, rfl, rfl, rfl, rfl, rfl, rfl, rfl, rfl, rfl, rfl, rfl⟩, rfl, rfl, rfl, rfl, rfl, rfl, rfl, rfl, rfl, rfl⟩
  · simp only [if_neg hA]
    rw [hl_lay_own hv (by exact h), hl_add3 (by exact h20)]
    exact ⟨⟨rfl, rfl, rfl, rfl, rfl, rfl, rfl, rfl, rfl, rfl, rfl, rfl, rfl, rfl⟩, rfl, rfl, rfl, rfl, rfl, rfl, rfl, rfl, rfl, rfl⟩
theorem hl_pu_borrow {g : Nat → Nat → Int32} {x v hm kd r : Int32} (e1 : g 11 x.toNatClampNeg = hm) (e2 : g 12 x.toNatClampNeg = kd) (hr : r_X2_giverFor g v = r) (h1 : ¬ r = -1) (h2 : ¬ r = v) (h20 : g 20 0 < 80) :
    hl_pg g x hm kd v r (hl_ow (if v = hm then g 22 else hl_ow (g 22) (hm * 4 + v).toNatClampNeg (v * 4 + hm).toNatClampNeg (g 1 (v * 2 + kd).toNatClampNeg)) (v * 4 + r).toNatClampNeg (r * 4 + v).toNatClampNeg (1 + g 9 0)) (fun _ => g 9 0 + 1) (f_X5_putUp g x v) := by
  subst e1; subst e2
  unfold f_X5_putUp
  by_cases hA : v = g 11 x.toNatClampNeg
  · simp only [if_pos hA]
    rw [hl_lay_borrow ((hl_giver_congr (by exact rfl) v).trans hr) h1 h2, hl_add3 (by exact h20)]
    exact ⟨⟨rfl, rfl, rfl, rfl, rfl, rfl, rfl, rfl, rfl, rfl, rfl, rfl, rfl, rfl⟩, rfl, rfl, rfl, rfl, rfl, rfl, rfl, rfl, rfl, rfl⟩
  · simp only [if_neg hA]
    rw [hl_lay_borrow ((hl_giver_congr (by exact rfl) v).trans hr) h1 h2, hl_add3 (by exact h20)]
    exact ⟨⟨rfl, rfl, rfl, rfl, rfl, rfl, rfl, rfl, rfl, rfl, rfl, rfl, rfl, rfl⟩, rfl, rfl, rfl, rfl, rfl, rfl, rfl, rfl, rfl, rfl⟩
/-- the same for the reference -/
def hl_pt (t : Nat → Nat → Int32) (x i k v r : Int32) (f9 f7 : Nat → Int32) (U : Nat → Nat → Int32) : Prop :=
  (U 0 = t 0 ∧ U 1 = t 1 ∧ U 6 = t 6 ∧ U 8 = t 8 ∧ U 10 = t 10 ∧ U 11 = t 11 ∧ U 12 = t 12 ∧ U 13 = t 13 ∧ U 14 = t 14 ∧ U 15 = t 15 ∧ U 16 = t 16 ∧ U 17 = t 17 ∧ U 18 = t 18) ∧
  U 5 = upd (t 5) i.toNatClampNeg (t 5 i.toNatClampNeg + t 1 (2 * i + k).toNatClampNeg) ∧ U 9 = f9 ∧ U 3 = upd (t 3) r.toNatClampNeg (t 3 r.toNatClampNeg - 1) ∧ U 4 = upd (t 4) v.toNatClampNeg (t 4 v.toNatClampNeg + 1) ∧ U 7 = f7 ∧ U 2 = upd (t 2) (2 * v + k).toNatClampNeg (t 2 (2 * v + k).toNatClampNeg + 1) ∧
  U 19 = upd (t 19) (t 22 0).toNatClampNeg (t 12 x.toNatClampNeg) ∧ U 20 = upd (t 20) (t 22 0).toNatClampNeg v ∧ U 21 = upd (t 21) (t 22 0).toNatClampNeg (t 1 (2 * v + k).toNatClampNeg / 10) ∧ U 22 = (fun _ => t 22 0 + 1)
theorem hl_tl_own {t : Nat → Nat → Int32} {v : Int32} (h : ¬ t 3 v.toNatClampNeg ≤ 0) : f_X6_takesLinen t v = hl_su (hl_su t 3 (upd (t 3) v.toNatClampNeg (t 3 v.toNatClampNeg - 1))) 4 (upd (t 4) v.toNatClampNeg (t 4 v.toNatClampNeg + 1)) := by
  unfold f_X6_takesLinen
  dsimp only
  rw [if_neg h]
  rfl
theorem hl_rich_congr {t t2 : Nat → Nat → Int32} (h : t 3 = t2 3) : r_X6_richest t = r_X6_richest t2 := by
  have hb : b_X6_richest t = b_X6_richest t2 := by
    funext k z
    unfold b_X6_richest
    rw [h]
  unfold r_X6_richest
  rw [hb]
theorem hl_tl_borrow {t : Nat → Nat → Int32} {v r : Int32} (hr : r_X6_richest t = r) (h : t 3 v.toNatClampNeg ≤ 0) : f_X6_takesLinen t v = hl_su (hl_su (hl_su (hl_su t 3 (upd (t 3) r.toNatClampNeg (t 3 r.toNatClampNeg - 1))) 7 (fun _ => t 7 0 + 1)) 9 (hl_ad (t 9) (4 * v + r).toNatClampNeg (t 7 0 + 1))) 4 (upd (t 4) v.toNatClampNeg (t 4 v.toNatClampNeg + 1)) := by
  unfold f_X6_takesLinen
  dsimp only
  rw [if_pos h, hr]
  rfl
theorem hl_sl_own {t : Nat → Nat → Int32} {x i k v : Int32} (h : ¬ t 3 v.toNatClampNeg ≤ 0) :
    hl_pt t x i k v v (hl_ad (t 9) (4 * i + v).toNatClampNeg (if v = i then 0 else t 1 (2 * v + k).toNatClampNeg)) (t 7) (f_X6_sleep t x i k v) := by
  unfold f_X6_sleep
  dsimp only
  rw [hl_tl_own (by exact h)]
  exact ⟨⟨rfl, rfl, rfl, rfl, rfl, rfl, rfl, rfl, rfl, rfl, rfl, rfl, rfl⟩, rfl, rfl, rfl, rfl, rfl, rfl, rfl, rfl, rfl, rfl⟩
theorem hl_sl_borrow {t : Nat → Nat → Int32} {x i k v r : Int32} (hr : r_X6_richest t = r) (h : t 3 v.toNatClampNeg ≤ 0) :
    hl_pt t x i k v r (hl_ad (hl_ad (t 9) (4 * v + r).toNatClampNeg (t 7 0 + 1)) (4 * i + v).toNatClampNeg (if v = i then 0 else t 1 (2 * v + k).toNatClampNeg)) (fun _ => t 7 0 + 1) (f_X6_sleep t x i k v) := by
  unfold f_X6_sleep
  dsimp only
  rw [hl_tl_borrow ((hl_rich_congr (by exact rfl)).trans hr) (by exact h)]
  exact ⟨⟨rfl, rfl, rfl, rfl, rfl, rfl, rfl, rfl, rfl, rfl, rfl, rfl, rfl⟩, rfl, rfl, rfl, rfl, rfl, rfl, rfl, rfl, rfl, rfl⟩
end
section
theorem hl_tenth {p : Int32} (h : 1 ≤ p.toInt ∧ p.toInt ≤ 100) : 0 ≤ (p / 10).toInt ∧ (p / 10).toInt ≤ 10 := by
  obtain ⟨j, hj, rfl⟩ := vp_in_of (vp_in_iff.mpr ⟨by omega, by omega⟩ : vp_in p 101) (by decide)
  have e : nI j / 10 = nI (j / 10) := pk_div (by omega) (by decide) (by decide)
  rw [e, nI_toInt (by omega)]
  omega
theorem hl_miss_congr {g g2 : Nat → Nat → Int32} (h1 : g 11 = g2 11) (h2 : g 13 = g2 13) (h3 : g 14 = g2 14) (s i : Nat) : hl_miss g s i = hl_miss g2 s i := by
  funext k n
  unfold hl_miss
  rw [h1, h2, h3]
theorem hl_R_core {c N M T : Nat} {g t G U : Nat → Nat → Int32} {x i k v r : Int32} {f22 f9 d9 f7 : Nat → Int32} (hc : c < 512) (h : hl_R c N M T g t) (hcnt : M + 1 ≤ hl_cnt (g 14) N) (hi : vp_in i 4) (hk : vp_in k 2) (hv : vp_in v 4)
    (pg : hl_pg g x i k v r f22 f9 G) (pt : hl_pt t x i k v r d9 f7 U) (hb : hl_RB f22 d9) (h97 : f9 = f7) (hbd : hl_bd d9 16 0 (1000 * ((c + 1 : Nat) : Int))) (hbo : hl_bd f9 1 0 ((c + 1 : Nat) : Int)) : hl_R (c + 1) N (M + 1) T G U := by
  obtain ⟨⟨o1, o2, o3, o4, o5, o6, o7⟩, ⟨t1, t2⟩, ⟨e0, e1, e2, e3, e4, e8, e9, e10, e11, e12, e13, e14, e15, e16, e17, e18, e19, e20, e21, e23⟩, b, w, ⟨m1, m2⟩, ct, ⟨n0, n1, n2, n3, n4, n5, n6, n7⟩⟩ := hl_R_up hc h
  obtain ⟨⟨p0, p1, p5, p6, p7, p8, p10, p11, p12, p13, p14, p15, p16, p23⟩, p21, p22, p3, p4, p9, p2, p17, p18, p19, p20⟩ := pg
  obtain ⟨⟨q0, q1, q6, q8, q10, q11, q12, q13, q14, q15, q16, q17, q18⟩, q5, q9, q3, q4, q7, q2, q19, q20, q21, q22⟩ := pt
  have hM : (g 20 0).toNatClampNeg = M := by rw [o4, nI_clamp (by omega)]
  have hM2 : (t 22 0).toNatClampNeg = M := by rw [← e20]; exact hM
  have hN := hl_cnt_le (g 14) N
  rw [Int32.mul_comm 2 i] at q5
  rw [Int32.mul_comm 2 v] at q2 q21
  rw [hM] at p17 p18 p19
  rw [hM2] at q19 q20 q21
  have hz : (v * 2 + k).toNatClampNeg < 8 := hl_idx (hl_row hv hk)
  refine ⟨⟨o1, by rw [p16]; exact o2, by omega, ?_, by rw [p11, p12]; exact o5, ?_, by rw [p8]; exact o7⟩, ⟨t1, by rw [p23]; exact t2⟩,
    ⟨by rw [p0, q0, e0], by rw [p1, q1, e1], by rw [p2, q2, e2], by rw [p3, q3, e3], by rw [p4, q4, e4], by rw [p8, q6, e8], by rw [p9, q7, h97], by rw [p10, q12, e10], by rw [p11, q13, e11], by rw [p12, q14, e12], by rw [p13, q15, e13], by rw [p14, q16, e14], by rw [p15, q17, e15], by rw [p16, q18, e16], by rw [p17, q19, e17, e10], by rw [p18, q20, e18], by rw [p19, q21, e19, e1], by rw [p20, q22, e20], by rw [p21, q5, e21, e1], by rw [p23, q8, e23]⟩,
    by rw [p22, q9]; exact hb, by rw [p5, p6, p7, q10]; exact w, ?_, by rw [p14]; exact hcnt,
    ⟨hc, by rw [p0]; exact n1, by rw [p1]; exact n2, ?_, by rw [p9]; exact hbo, by rw [q9]; exact hbd, ?_, by rw [p13]; exact n7⟩⟩
  · rw [p20]
    show g 20 0 + 1 = nI (M + 1)
    rw [o4, nI_1]
  · intro k hk
    rw [p18]
    unfold upd
    split
    · exact hv
    · exact o6 k (by omega)
  · rw [q11]
    refine ⟨fun s i hs hi => ?_, m2⟩
    rw [hl_miss_congr p11 p13 p14]
    exact m1 s i hs hi
  · rw [p2]
    have h2 := (h.2.2.2.2.2.2.2.2.2.2.1) _ hz
    exact hl_bd_upd n3 (by rw [hl_ti_add (by show -2147483648 ≤ _ + (1 : Int); omega) (by show _ + (1 : Int) < 2147483648; omega)]; show 0 ≤ _ + (1 : Int) ∧ _ + (1 : Int) ≤ _; omega)
  · rw [p19]
    intro j hj
    unfold upd
    split
    · exact hl_tenth (n2 _ hz)
    · exact n6 j (by omega)
theorem hl_R_putUp {c N M T : Nat} {g t : Nat → Nat → Int32} {x i k v : Int32} (hc : c < 512) (h : hl_R c N M T g t) (hcnt : M + 1 ≤ hl_cnt (g 14) N) (ei : g 11 x.toNatClampNeg = i) (ek : g 12 x.toNatClampNeg = k) (hi : vp_in i 4) (hk : vp_in k 2) (hv : vp_in v 4) (hL : ¬ ∀ k, k < 4 → g 3 k ≤ 0) :
    hl_R (c + 1) N (M + 1) T (f_X5_putUp g x v) (f_X6_sleep t x i k v) := by
  have h0 := h
  obtain ⟨⟨o1, o2, o3, o4, o5, o6, o7⟩, ⟨t1, t2⟩, ⟨e0, e1, e2, e3, e4, e8, e9, e10, e11, e12, e13, e14, e15, e16, e17, e18, e19, e20, e21, e23⟩, b, w, ⟨m1, m2⟩, ct, ⟨n0, n1, n2, n3, n4, n5, n6, n7⟩⟩ := h
  obtain ⟨iv, hiv, rfl⟩ := vp_in_of hv (by decide)
  obtain ⟨ii, hii, rfl⟩ := vp_in_of hi (by decide)
  have hz : (nI iv * 2 + k).toNatClampNeg < 8 := hl_idx (hl_row hv hk)
  have hN := hl_cnt_le (g 14) N
  have h20 : g 20 0 < 80 := by
    rw [o4]
    exact nI_lt (by omega : M < 80) (by decide)
  have hv1 : ¬ nI iv = -1 := hl_nIm1 (by omega)
  have hpr := n2 _ hz
  have b4 := n4 0 (by decide)
  -- the road of the guest's price
  have hB1 : hl_RB (if nI iv = nI ii then g 22 else hl_ow (g 22) (nI ii * 4 + nI iv).toNatClampNeg (nI iv * 4 + nI ii).toNatClampNeg (g 1 (nI iv * 2 + k).toNatClampNeg)) (hl_ad (t 9) (4 * nI ii + nI iv).toNatClampNeg (if nI iv = nI ii then 0 else t 1 (2 * nI iv + k).toNatClampNeg)) := by
    rw [hl_c4 hii hiv, hl_c4 hiv hii, hl_c4' hii hiv, Int32.mul_comm 2 (nI iv), ← e1]
    by_cases hA : nI iv = nI ii
    · rw [if_pos hA, if_pos hA, hl_ad0]; exact b
    · rw [if_neg hA, if_neg hA]; exact hl_RB_ow _ hii hiv b
  have hD1 : hl_bd (hl_ad (t 9) (4 * nI ii + nI iv).toNatClampNeg (if nI iv = nI ii then 0 else t 1 (2 * nI iv + k).toNatClampNeg)) 16 0 (1000 * (c : Int) + 100) := by
    rw [hl_c4' hii hiv, Int32.mul_comm 2 (nI iv), ← e1]
    refine hl_bd_ad n5 (by omega) ?_ (by decide) (by omega)
    split
    · exact ⟨by decide, by decide⟩
    · exact ⟨by omega, hpr.2⟩
  by_cases hO : g 3 (nI iv).toNatClampNeg ≤ 0
  · -- linen is borrowed
    have hO2 : t 3 (nI iv).toNatClampNeg ≤ 0 := by rw [← e3]; exact hO
    obtain ⟨r, hr, er, er2, er3⟩ := hl_rich_spec t
    have hgr : r_X2_giverFor g (nI iv) = nI r := by
      unfold r_X2_giverFor
      rw [if_pos hO, hl_giver_rich e3 hL, er]
    have hrv : ¬ nI r = nI iv := by
      intro z
      refine hL (fun k hk => ?_)
      rw [nI_eq (by omega) (by omega)] at z
      subst z
      rw [nI_clamp (by omega)] at hO
      rw [e3]
      rw [e3] at hO
      exact hl_i32_le_trans (er2 k hk) hO
    refine hl_R_core hc h0 hcnt hi hk hv (hl_pu_borrow ei ek hgr (hl_nIm1 (by omega)) hrv h20) (hl_sl_borrow er hO2) ?_ (by rw [e9]) ?_ ?_
    · rw [hl_ad_comm, hl_c4' hiv hr, hl_c4 hiv hr, hl_c4 hr hiv, Int32.add_comm 1, e9]
      exact hl_RB_ow _ hiv hr hB1
    · rw [hl_ad_comm, hl_c4' hiv hr]
      have q := hl_bd_ad (k := 4 * iv + r) (m := t 7 0 + 1) (q := 900) hD1 (by omega) (by rw [← e9, hl_ti_add (by show -2147483648 ≤ _ + (1 : Int); omega) (by show _ + (1 : Int) < 2147483648; omega)]; show 0 ≤ _ + (1 : Int) ∧ _ + (1 : Int) ≤ _; omega) (by decide) (by omega)
      exact hl_bd_mono q (by omega)
    · intro j _
      show 0 ≤ (g 9 0 + 1).toInt ∧ (g 9 0 + 1).toInt ≤ _
      rw [hl_ti_add (by show -2147483648 ≤ _ + (1 : Int); omega) (by show _ + (1 : Int) < 2147483648; omega)]
      show 0 ≤ _ + (1 : Int) ∧ _ + (1 : Int) ≤ _
      omega
  · have hO2 : ¬ t 3 (nI iv).toNatClampNeg ≤ 0 := by rw [← e3]; exact hO
    exact hl_R_core hc h0 hcnt hi hk hv (hl_pu_own ei ek hv1 hO h20) (hl_sl_own hO2) hB1 e9 (hl_bd_mono hD1 (by omega)) (hl_bd_mono n4 (by omega))
theorem hl_R_arrive {c N M T : Nat} {g t : Nat → Nat → Int32} {x v : Int32} (h : hl_R c N M T g t) (hx : x.toNatClampNeg < N) (h3 : g 13 x.toNatClampNeg = g 23 0) (h4 : g 14 x.toNatClampNeg = 0) :
    hl_R c N M T (f_X0_arrive g x v) (hl_su (hl_su t 16 (upd (t 16) x.toNatClampNeg 1)) 17 (upd (t 17) x.toNatClampNeg v)) ∧ M + 1 ≤ hl_cnt ((f_X0_arrive g x v) 14) N := by
  obtain ⟨o, ⟨t1, t2⟩, ⟨e0, e1, e2, e3, e4, e8, e9, e10, e11, e12, e13, e14, e15, e16, e17, e18, e19, e20, e21, e23⟩, b, w, ⟨m1, m2⟩, ct, nn⟩ := h
  have hcn : M + 1 ≤ hl_cnt ((f_X0_arrive g x v) 14) N := by
    show M + 1 ≤ hl_cnt (upd (g 14) x.toNatClampNeg 1) N
    rw [hl_cnt_upd (g 14) (by decide) h4, if_pos hx]
    omega
  refine ⟨⟨o, ⟨t1, t2⟩, ⟨e0, e1, e2, e3, e4, e8, e9, e10, e11, e12, e13, ?_, ?_, e16, e17, e18, e19, e20, e21, e23⟩, b, w, ⟨?_, m2⟩, by omega, nn⟩, hcn⟩
  · show upd (g 14) _ 1 = upd (t 16) _ 1
    rw [e14]
  · show upd (g 15) _ v = upd (t 17) _ v
    rw [e15]
  · intro s i hs hi
    show t 11 (4 * s + i) = _
    rw [m1 s i hs hi]
    refine hl_it_congr _ _ N 0 (fun k u hk => ?_)
    show (if g 11 k = nI i ∧ g 13 k = nI s ∧ g 14 k = 0 then u + 1 else u) = (if g 11 k = nI i ∧ g 13 k = nI s ∧ upd (g 14) x.toNatClampNeg 1 k = 0 then u + 1 else u)
    by_cases hk2 : k = x.toNatClampNeg
    · subst hk2
      have q : ¬ g 13 x.toNatClampNeg = nI s := by
        rw [h3, t2, nI_eq (by omega) (by omega)]
        omega
      rw [if_neg (fun z => q z.2.1), if_neg (fun z => q z.2.1)]
    · rw [hl_upd_ne _ _ hk2]
theorem hl_R_find {c N M T : Nat} {g t : Nat → Nat → Int32} {h k : Int32} (hR : hl_R c N M T g t) (hh : vp_in h 4) (hk : vp_in k 2) : r_X5_findInn g h k = r_X6_finds t h k := by
  obtain ⟨o, tt, ⟨e0, e1, e2, e3, e4, e8, e9, e10, e11, e12, e13, e14, e15, e16, e17, e18, e19, e20, e21, e23⟩, b, w, m, ct, ⟨n0, n1, n2, n3, n4, n5, n6, n7⟩⟩ := hR
  exact hl_find_eq hh hk e0 e2 e3 n1 (hl_bd_mono n3 (by omega))
theorem hl_find_L {t : Nat → Nat → Int32} {h k : Int32} (hf : ¬ r_X6_finds t h k = -1) : ¬ ∀ k, k < 4 → t 3 k ≤ 0 := by
  intro hL
  apply hf
  unfold r_X6_finds
  rw [if_pos ((hl_rich_none t).mpr hL)]
theorem hl_R_come {c N M T : Nat} {g t : Nat → Nat → Int32} {x : Int32} (hc : c < 512) (h : hl_R c N M T g t) (h1 : ¬ x < 0) (h2 : x < g 16 0) (h3 : g 13 x.toNatClampNeg = g 23 0) (h4 : g 14 x.toNatClampNeg = 0) :
    r_X5_findInn g (g 11 x.toNatClampNeg) (g 12 x.toNatClampNeg) = r_X6_finds t (t 13 x.toNatClampNeg) (t 14 x.toNatClampNeg) ∧ ∃ M', hl_R (c + 1) N M' T (f_X5_come g x) (f_X6_come t x) := by
  have hx : x.toNatClampNeg < N := hl_idx (hl_in (nI N) (by rw [nI_toInt]; have := h.1.1; omega) h1 (by rw [← h.1.2.1]; exact h2))
  have hr := h.1.2.2.2.2.1 _ hx
  have e11 : g 11 = t 13 := h.2.2.1.2.2.2.2.2.2.2.2.1
  have e12 : g 12 = t 14 := h.2.2.1.2.2.2.2.2.2.2.2.2.1
  have e3 : g 3 = t 3 := h.2.2.1.2.2.2.1
  have hf := hl_R_find h hr.1 hr.2
  rw [← e11, ← e12]
  refine ⟨hf, ?_⟩
  unfold f_X5_come f_X6_come
  dsimp only
  rw [← e11, ← e12, ← hf]
  by_cases hv : r_X5_findInn g (g 11 x.toNatClampNeg) (g 12 x.toNatClampNeg) = -1
  · rw [if_pos hv, if_pos hv]
    exact ⟨M, hl_R_up hc (hl_R_arrive h hx h3 h4).1⟩
  · rw [if_neg hv, if_neg hv]
    obtain ⟨ha, hcn⟩ := hl_R_arrive (v := r_X5_findInn g (g 11 x.toNatClampNeg) (g 12 x.toNatClampNeg)) h hx h3 h4
    have hL : ¬ ∀ k, k < 4 → g 3 k ≤ 0 := by
      rw [e3]
      exact hl_find_L (by rw [← hf]; exact hv)
    exact ⟨M + 1, hl_R_putUp hc ha hcn rfl rfl hr.1 hr.2 ((hl_find_in g _ _).resolve_left hv) hL⟩
end
section
/-! Points are burned: the relation stays -/
theorem hl_ow0 (f : Nat → Int32) (a b : Nat) : hl_ow f a b 0 = f := by
  unfold hl_ow
  rw [Int32.add_zero, Int32.sub_zero, hl_upd_same, hl_upd_same]
def hl_bt (G : Nat → Nat → Int32) (n x : Int32) (k : Nat) : Int32 := if G 17 k = x then (if n ≤ G 19 k then n else G 19 k) else 0
theorem hl_le0 {n : Int32} (h : n ≤ 0) (h0 : 0 ≤ n.toInt) : n = 0 := by
  apply Int32.toInt_inj.mp
  have q := Int32.le_iff_toInt_le.mp h
  rw [show (0 : Int32).toInt = 0 by decide] at q ⊢
  omega
theorem hl_bt_min {n L : Int32} : (if n < L then n else L) = (if n ≤ L then n else L) := by
  by_cases h : n < L
  · rw [if_pos h, if_pos (Int32.le_iff_toInt_le.mpr (Int.le_of_lt (Int32.lt_iff_toInt_lt.mp h)))]
  · rw [if_neg h]
    by_cases h2 : n ≤ L
    · rw [if_pos h2]
      apply Int32.toInt_inj.mp
      have q1 := Int32.le_iff_toInt_le.mp h2
      have q2 : ¬ n.toInt < L.toInt := fun z => h (Int32.lt_iff_toInt_lt.mpr z)
      omega
    · rw [if_neg h2]
theorem hl_burn_cls {G : Nat → Nat → Int32} {n x y : Int32} {k : Nat} (hk : k < 80) (hL : 0 ≤ (G 19 k).toInt) (hn0 : 0 ≤ n.toInt) :
    ∃ G', b_X5_burn x y k (G, n) = (G', n - hl_bt G n x k) ∧ (∀ p, p ≠ 19 → p ≠ 22 → G' p = G p) ∧ G' 19 = upd (G 19) k (G 19 k - hl_bt G n x k) ∧ G' 22 = (if G 18 k = y then G 22 else hl_ow (G 22) (G 18 k * 4 + y).toNatClampNeg (y * 4 + G 18 k).toNatClampNeg (hl_bt G n x k)) := by
  by_cases hn : n ≤ 0
  · have e := hl_le0 hn hn0
    have b0 : hl_bt G n x k = 0 := by
      unfold hl_bt
      rw [e, if_pos (Int32.le_iff_toInt_le.mpr (by rw [show (0 : Int32).toInt = 0 by decide]; exact hL) : (0 : Int32) ≤ G 19 k)]
      split <;> rfl
    rw [b0, Int32.sub_zero, Int32.sub_zero, hl_upd_same, hl_ow0]
    refine ⟨G, ?_, fun _ _ _ => rfl, rfl, ?_⟩
    · unfold b_X5_burn
      rw [if_pos hn]
    · split <;> rfl
  · have nk : (nI k).toNatClampNeg = k := nI_clamp (by omega)
    have h1 : r_X3_takeFrom G (nI k) x n = hl_bt G n x k := by
      unfold r_X3_takeFrom hl_bt
      rw [nk, hl_bt_min]
    have h2 : f_X3_takeFrom G (nI k) x n 19 = upd (G 19) k (G 19 k - hl_bt G n x k) := by
      unfold f_X3_takeFrom hl_bt
      rw [nk, hl_bt_min]
      by_cases hx : G 17 k = x
      · rw [if_pos hx, if_pos hx, hl_su_eq]
      · rw [if_neg hx, if_neg hx, Int32.sub_zero, hl_upd_same]
    have h3 : ∀ p, p ≠ 19 → f_X3_takeFrom G (nI k) x n p = G p := fun p hp => fr_X3_takeFrom _ _ _ _ hp
    refine ⟨(b_X5_burn x y k (G, n)).1, ?_, fun p hp hp2 => fr_X5_burn x y k (G, n) hp hp2, ?_, ?_⟩
    · unfold b_X5_burn
      rw [if_neg hn, ← h1]
    · unfold b_X5_burn
      rw [if_neg hn]
      show (if f_X3_takeFrom G (nI k) x n 18 k = y then f_X3_takeFrom G (nI k) x n else f_X1_owe (f_X3_takeFrom G (nI k) x n) (f_X3_takeFrom G (nI k) x n 18 k) y (r_X3_takeFrom G (nI k) x n)) 19 = _
      split
      · exact h2
      · rw [fr_X1_owe _ _ _ _ (by decide)]; exact h2
    · unfold b_X5_burn
      rw [if_neg hn]
      show (if f_X3_takeFrom G (nI k) x n 18 k = y then f_X3_takeFrom G (nI k) x n else f_X1_owe (f_X3_takeFrom G (nI k) x n) (f_X3_takeFrom G (nI k) x n 18 k) y (r_X3_takeFrom G (nI k) x n)) 22 = _
      rw [h3 18 (by decide)]
      split
      · exact h3 22 (by decide)
      · rw [hl_owe22, h3 22 (by decide), h1]
theorem hl_burn_ref (U : Nat → Nat → Int32) (n x y : Int32) (k : Nat) :
    ∃ U', b_X6_burn x y k (U, n) = (U', n - (if U 19 k = x then (if n ≤ U 21 k then n else U 21 k) else 0)) ∧ (∀ p, p ≠ 21 → p ≠ 9 → U' p = U p) ∧ U' 21 = upd (U 21) k (U 21 k - (if U 19 k = x then (if n ≤ U 21 k then n else U 21 k) else 0)) ∧ U' 9 = hl_ad (U 9) (4 * U 20 k + y).toNatClampNeg (if U 20 k = y then 0 else (if U 19 k = x then (if n ≤ U 21 k then n else U 21 k) else 0)) :=
  ⟨(b_X6_burn x y k (U, n)).1, rfl, fun p hp hp2 => fr_X6_burn x y k (U, n) hp hp2, rfl, rfl⟩
def hl_BI (c M : Nat) (g t : Nat → Nat → Int32) (q : Int) (z z' : (Nat → Nat → Int32) × Int32) : Prop :=
  z.2 = z'.2 ∧ 0 ≤ z.2.toInt ∧ z.2.toInt ≤ q ∧ (∀ p, p ≠ 19 → p ≠ 22 → z.1 p = g p) ∧ (∀ p, p ≠ 21 → p ≠ 9 → z'.1 p = t p) ∧ z.1 19 = z'.1 21 ∧ hl_bd (z.1 19) M 0 10 ∧ hl_RB (z.1 22) (z'.1 9) ∧ hl_bd (z'.1 9) 16 0 (1000 * c + (q - z.2.toInt))
theorem hl_burn_step {c M k : Nat} {g t : Nat → Nat → Int32} {q : Int} {z z' : (Nat → Nat → Int32) × Int32} {x y : Int32} (hc : c ≤ 512) (hM : M ≤ 80) (hk : k < M) (hq : q ≤ 100) (hy : vp_in y 4) (h18 : vp_in (g 18 k) 4) (e17 : g 17 = t 19) (e18 : g 18 = t 20) (h : hl_BI c M g t q z z') : hl_BI c M g t q (b_X5_burn x y k z) (b_X6_burn x y k z') := by
  obtain ⟨G, n⟩ := z
  obtain ⟨U, n'⟩ := z'
  obtain ⟨zn, z0, zq, zg, zt, z19, zb, zB, zd⟩ := h
  dsimp only at zn z0 zq zg zt z19 zb zB zd
  subst zn
  have u19 : U 19 = G 17 := by rw [zt 19 (by decide) (by decide), zg 17 (by decide) (by decide), e17]
  have u20 : U 20 = G 18 := by rw [zt 20 (by decide) (by decide), zg 18 (by decide) (by decide), e18]
  have hL := zb k hk
  obtain ⟨G', a1, a2, a3, a4⟩ := hl_burn_cls (x := x) (y := y) (by omega : k < 80) hL.1 z0
  obtain ⟨U', b1, b2, b3, b4⟩ := hl_burn_ref U n x y k
  rw [a1, b1]
  rw [u19, ← z19] at b1 b3 b4
  rw [u19, ← z19]
  rw [u20] at b4
  have hbt : 0 ≤ (hl_bt G n x k).toInt ∧ (hl_bt G n x k).toInt ≤ n.toInt ∧ (hl_bt G n x k).toInt ≤ (G 19 k).toInt := by
    unfold hl_bt
    split
    · split
      · next hh => exact ⟨z0, Int.le_refl _, Int32.le_iff_toInt_le.mp hh⟩
      · next hh =>
        have q2 : ¬ n.toInt ≤ (G 19 k).toInt := fun z => hh (Int32.le_iff_toInt_le.mpr z)
        exact ⟨hL.1, by omega, Int.le_refl _⟩
    · rw [show (0 : Int32).toInt = 0 by decide]
      exact ⟨by omega, z0, hL.1⟩
  have s1 : (n - hl_bt G n x k).toInt = n.toInt - (hl_bt G n x k).toInt := hl_ti_sub (by omega) (by omega)
  have s2 : (G 19 k - hl_bt G n x k).toInt = (G 19 k).toInt - (hl_bt G n x k).toInt := hl_ti_sub (by omega) (by omega)
  have g18 : G 18 k = g 18 k := by rw [zg 18 (by decide) (by decide)]
  rw [← g18] at h18
  obtain ⟨i, hi, ei⟩ := vp_in_of h18 (by decide)
  obtain ⟨j, hj, rfl⟩ := vp_in_of hy (by decide)
  rw [ei, hl_c4 hi hj, hl_c4 hj hi] at a4
  rw [ei, hl_c4' hi hj] at b4
  refine ⟨rfl, by rw [s1]; omega, by rw [s1]; omega, fun p hp hp2 => (a2 p hp hp2).trans (zg p hp hp2), fun p hp hp2 => (b2 p hp hp2).trans (zt p hp hp2), ?_, ?_, ?_, ?_⟩
  · show G' 19 = U' 21
    rw [a3, b3]; rfl
  · show hl_bd (G' 19) M 0 10
    rw [a3]
    exact hl_bd_upd zb (by rw [s2]; omega)
  · show hl_RB (G' 22) (U' 9)
    rw [a4, b4]
    by_cases hA : nI i = nI j
    · rw [if_pos hA, if_pos hA, hl_ad0]; exact zB
    · rw [if_neg hA, if_neg hA]; exact hl_RB_ow _ hi hj zB
  · show hl_bd (U' 9) 16 0 (1000 * c + (q - (n - hl_bt G n x k).toInt))
    rw [b4, s1]
    refine hl_bd_mono (hl_bd_ad (q := (hl_bt G n x k).toInt) zd (by omega) ?_ (by decide) (by omega)) (by omega)
    split
    · exact ⟨by decide, hbt.1⟩
    · exact ⟨hbt.1, Int.le_refl _⟩
theorem hl_R_burn {c N M T : Nat} {g t : Nat → Nat → Int32} {x y q : Int32} (hc : c < 512) (h : hl_R c N M T g t) (hy : vp_in y 4) (h3 : ¬ q < 1) (h4 : q ≤ 100) :
    hl_R (c + 1) N M T (f_X5_burnEarliest g M x y q) (f_X6_burn t M x y q) := by
  obtain ⟨⟨o1, o2, o3, o4, o5, o6, o7⟩, ⟨t1, t2⟩, ⟨e0, e1, e2, e3, e4, e8, e9, e10, e11, e12, e13, e14, e15, e16, e17, e18, e19, e20, e21, e23⟩, b, w, ⟨m1, m2⟩, ct, ⟨n0, n1, n2, n3, n4, n5, n6, n7⟩⟩ := h
  have hq1 : 1 ≤ q.toInt := hl_nlt_ti h3
  have hq2 : q.toInt ≤ 100 := Int32.le_iff_toInt_le.mp h4
  have key := hl_it_inv2 (fun _ z z' => hl_BI c M g t q.toInt z z') (b_X5_burn x y) (b_X6_burn x y) M (g, q) (t, q)
    ⟨rfl, by show 0 ≤ q.toInt; omega, Int.le_refl _, fun _ _ _ => rfl, fun _ _ _ => rfl, e19, n6, b, hl_bd_mono n5 (by show 1000 * (c : Int) ≤ 1000 * c + (q.toInt - q.toInt); omega)⟩
    (fun k z z' hk hz => hl_burn_step (by omega) o3 hk hq2 hy (o6 k hk) e17 e18 hz)
  unfold f_X5_burnEarliest f_X6_burn
  obtain ⟨_, z0, zq, zg, zt, z19, zb, zB, zd⟩ := key
  generalize (hl_it (b_X5_burn x y) 0 M (g, q)) = z at *
  generalize (hl_it (b_X6_burn x y) 0 M (t, q)) = z' at *
  have G := fun p (hp : p ≠ 19) (hp2 : p ≠ 22) => zg p hp hp2
  have U := fun p (hp : p ≠ 21) (hp2 : p ≠ 9) => zt p hp hp2
  refine ⟨⟨o1, by rw [G 16 (by decide) (by decide)]; exact o2, o3, by rw [G 20 (by decide) (by decide)]; exact o4, by rw [G 11 (by decide) (by decide), G 12 (by decide) (by decide)]; exact o5, by rw [G 18 (by decide) (by decide)]; exact o6, by rw [G 8 (by decide) (by decide)]; exact o7⟩,
    ⟨t1, by rw [G 23 (by decide) (by decide)]; exact t2⟩,
    ⟨by rw [G 0 (by decide) (by decide), U 0 (by decide) (by decide), e0], by rw [G 1 (by decide) (by decide), U 1 (by decide) (by decide), e1], by rw [G 2 (by decide) (by decide), U 2 (by decide) (by decide), e2], by rw [G 3 (by decide) (by decide), U 3 (by decide) (by decide), e3], by rw [G 4 (by decide) (by decide), U 4 (by decide) (by decide), e4], by rw [G 8 (by decide) (by decide), U 6 (by decide) (by decide), e8], by rw [G 9 (by decide) (by decide), U 7 (by decide) (by decide), e9], by rw [G 10 (by decide) (by decide), U 12 (by decide) (by decide), e10], by rw [G 11 (by decide) (by decide), U 13 (by decide) (by decide), e11], by rw [G 12 (by decide) (by decide), U 14 (by decide) (by decide), e12], by rw [G 13 (by decide) (by decide), U 15 (by decide) (by decide), e13], by rw [G 14 (by decide) (by decide), U 16 (by decide) (by decide), e14], by rw [G 15 (by decide) (by decide), U 17 (by decide) (by decide), e15], by rw [G 16 (by decide) (by decide), U 18 (by decide) (by decide), e16], by rw [G 17 (by decide) (by decide), U 19 (by decide) (by decide), e17], by rw [G 18 (by decide) (by decide), U 20 (by decide) (by decide), e18], z19, by rw [G 20 (by decide) (by decide), U 22 (by decide) (by decide), e20], by rw [G 21 (by decide) (by decide), U 5 (by decide) (by decide), e21], by rw [G 23 (by decide) (by decide), U 8 (by decide) (by decide), e23]⟩,
    zB, by rw [G 5 (by decide) (by decide), G 6 (by decide) (by decide), G 7 (by decide) (by decide), U 10 (by decide) (by decide)]; exact w, ?_, by rw [G 14 (by decide) (by decide)]; exact ct,
    ⟨hc, by rw [G 0 (by decide) (by decide)]; exact n1, by rw [G 1 (by decide) (by decide)]; exact n2, by rw [G 2 (by decide) (by decide)]; exact hl_bd_mono n3 (by omega), by rw [G 9 (by decide) (by decide)]; exact hl_bd_mono n4 (by omega), hl_bd_mono zd (by omega), zb, by rw [G 13 (by decide) (by decide)]; exact n7⟩⟩
  rw [U 11 (by decide) (by decide)]
  refine ⟨fun s i hs hi => ?_, m2⟩
  rw [hl_miss_congr (G 11 (by decide) (by decide)) (G 13 (by decide) (by decide)) (G 14 (by decide) (by decide))]
  exact m1 s i hs hi
theorem hl_points_eq {g t : Nat → Nat → Int32} (e17 : g 17 = t 19) (e19 : g 19 = t 21) (x : Int32) (M : Nat) : hl_it (b_X3_ofGuest g x) 0 M 0 = hl_it (b_X6_pointsOf t x) 0 M 0 := by
  refine hl_it_congr _ _ M 0 (fun k u _ => ?_)
  unfold b_X3_ofGuest b_X6_pointsOf
  rw [e17, e19, Int32.add_zero]
end
section
/-! A night ends: the relation stays -/
def hl_w0 (n : Nat) (f : Nat → Int32) : Nat → Int32 := hl_it (fun k f => upd f k 0) 0 n f
theorem hl_w0_cls (g : Nat → Nat → Int32) : (f_X4_endNight g) 2 = hl_w0 8 (g 2) ∧ ∀ p, p ≠ 2 → (f_X4_endNight g) p = g p :=
  hl_it_inv2 (fun _ (z : Nat → Nat → Int32) f => z 2 = f ∧ ∀ p, p ≠ 2 → z p = g p) b_X4_endNight (fun k f => upd f k 0) 8 g (g 2) ⟨rfl, fun _ _ => rfl⟩
    (fun k z f _ h => ⟨by show upd (z 2) k 0 = upd f k 0; rw [h.1], fun p hp => by show hl_su z 2 _ p = g p; rw [hl_su_ne _ _ hp]; exact h.2 p hp⟩)
theorem hl_w0_ref (t : Nat → Nat → Int32) : (hl_it b_X6_n4 0 8 t) 2 = hl_w0 8 (t 2) ∧ ∀ p, p ≠ 2 → (hl_it b_X6_n4 0 8 t) p = t p :=
  hl_it_inv2 (fun _ (z : Nat → Nat → Int32) f => z 2 = f ∧ ∀ p, p ≠ 2 → z p = t p) b_X6_n4 (fun k f => upd f k 0) 8 t (t 2) ⟨rfl, fun _ _ => rfl⟩
    (fun k z f _ h => ⟨by show upd (z 2) k 0 = upd f k 0; rw [h.1], fun p hp => by show hl_su z 2 _ p = t p; rw [hl_su_ne _ _ hp]; exact h.2 p hp⟩)
theorem hl_w0_bd {f : Nat → Int32} {hi : Int} (h : hl_bd f 8 0 hi) (h0 : 0 ≤ hi) (n : Nat) : hl_bd (hl_w0 n f) 8 0 hi :=
  hl_it_inv (fun _ f => hl_bd f 8 0 hi) (fun k f => upd f k 0) n f h (fun k x _ hx => hl_bd_upd hx (by rw [show (0 : Int32).toInt = 0 by decide]; exact ⟨Int.le_refl 0, h0⟩))
theorem hl_wsh_s (f : Nat → Int32) (k n : Nat) : hl_wsh f k (n + 1) = hl_wsh f k n + f (4 * n + k) := by
  unfold hl_wsh
  rw [hl_it_snoc, Nat.zero_add]
theorem hl_wsh_congr {f f2 : Nat → Int32} {k n : Nat} (h : ∀ j, j < n → f (4 * j + k) = f2 (4 * j + k)) : hl_wsh f k n = hl_wsh f2 k n :=
  hl_it_congr _ _ n 0 (fun j x hj => by show x + f (4 * j + k) = x + f2 (4 * j + k); rw [h j hj])
theorem hl_wsh_0 {f : Nat → Int32} {k : Nat} : ∀ n, (∀ j, j < n → f (4 * j + k) = 0) → hl_wsh f k n = 0 := by
  intro n
  induction n with
  | zero => intro _; rfl
  | succ n ih =>
    intro h
    rw [hl_wsh_s, ih (fun j hj => h j (by omega)), h n (by omega), Int32.add_zero]
theorem hl_n3 (k : Nat) (z : Nat → Nat → Int32) : ∀ n, (hl_it (b_X6_n3 k) 0 n z) 3 = upd (z 3) k (z 3 k + hl_wsh (z 10) k n) ∧ (∀ j, j < n → (hl_it (b_X6_n3 k) 0 n z) 10 (4 * j + k) = 0) ∧ ∀ m, (∀ j, j < n → m ≠ 4 * j + k) → (hl_it (b_X6_n3 k) 0 n z) 10 m = z 10 m := by
  intro n
  induction n with
  | zero =>
    refine ⟨?_, fun j h => absurd h (Nat.not_lt_zero j), fun m _ => rfl⟩
    show z 3 = upd (z 3) k (z 3 k + 0)
    rw [Int32.add_zero, hl_upd_same]
  | succ n ih =>
    obtain ⟨h1, h2, h3⟩ := ih
    rw [hl_it_snoc, Nat.zero_add, hl_wsh_s]
    generalize hl_it (b_X6_n3 k) 0 n z = y at *
    have h4 : y 10 (4 * n + k) = z 10 (4 * n + k) := h3 _ (fun j hj => by omega)
    refine ⟨?_, ?_, ?_⟩
    · show upd (y 3) k (y 3 k + y 10 (4 * n + k)) = _
      rw [h4, h1, hl_upd_at, hl_upd_upd, Int32.add_assoc]
    · intro j hj
      show upd (y 10) (4 * n + k) 0 (4 * j + k) = 0
      unfold upd
      split
      · rfl
      · exact h2 j (by omega)
    · intro m hm
      show upd (y 10) (4 * n + k) 0 m = z 10 m
      rw [hl_upd_ne _ _ (hm n (by omega))]
      exact h3 m (fun j hj => hm j (by omega))
def hl_NI (T : Nat) (g t : Nat → Nat → Int32) (k : Nat) (z z' : Nat → Nat → Int32) : Prop :=
  z 3 = z' 3 ∧ z 4 = z' 4 ∧ (∀ p, p ≠ 3 → p ≠ 4 → p ≠ 5 → p ≠ 6 → p ≠ 7 → z p = g p) ∧ (∀ p, p ≠ 3 → p ≠ 4 → p ≠ 10 → z' p = t p) ∧
  (∀ j, j < 4 → j < k → z 5 j = z' 10 (4 * T + j) ∧ z 6 j = (if 1 ≤ T then z' 10 (4 * (T - 1) + j) else 0) ∧ z 7 j = hl_wsh (z' 10) j (T - 1)) ∧
  (∀ j, j < 4 → k ≤ j → z 5 j = (if 1 ≤ T then z' 10 (4 * (T - 1) + j) else 0) ∧ z 6 j = (if 2 ≤ T then z' 10 (4 * (T - 2) + j) else 0) ∧ z 7 j = hl_wsh (z' 10) j (T - 2))
theorem hl_night_S (w : Nat → Int32) (k T : Nat) : hl_wsh w k (T - 2) + (if 2 ≤ T then w (4 * (T - 2) + k) else 0) = hl_wsh w k (T - 1) := by
  by_cases h : 2 ≤ T
  · rw [if_pos h, ← hl_wsh_s, show T - 2 + 1 = T - 1 by omega]
  · rw [if_neg h, Int32.add_zero, show T - 2 = 0 by omega, show T - 1 = 0 by omega]
theorem hl_night_step {T k : Nat} {g t z z' : Nat → Nat → Int32} (hk : k < 4) (e8 : g 8 0 = t 6 0) (h : hl_NI T g t k z z') : hl_NI T g t (k + 1) (b_X2_endNight k z) (b_X6_n2 T k z') := by
  obtain ⟨h3, h4, hg, ht, hd, ho⟩ := h
  obtain ⟨o5, o6, o7⟩ := ho k hk (Nat.le_refl k)
  have z8 : z 8 = g 8 := hg 8 (by decide) (by decide) (by decide) (by decide) (by decide)
  have z6 : z' 6 = t 6 := ht 6 (by decide) (by decide) (by decide)
  have hS : z 7 k + z 6 k = hl_wsh (z' 10) k (T - 1) := by rw [o7, o6, hl_night_S]
  unfold b_X2_endNight b_X6_n2
  dsimp only
  -- the new table of linen sent to the wash, before the clean linen leaves it
  have w1 : ∀ s j, j < 4 → (s < T ∨ j ≠ k) → upd (z' 10) (4 * T + k) (z' 4 k) (4 * s + j) = z' 10 (4 * s + j) := fun s j hj hs => hl_upd_ne _ _ (by omega)
  by_cases hb : g 8 0 = 0
  · have c1 : (hl_su (hl_su (hl_su (hl_su z 7 (upd (z 7) k (z 7 k + z 6 k))) 6 (upd (hl_su z 7 (upd (z 7) k (z 7 k + z 6 k)) 6) k (hl_su z 7 (upd (z 7) k (z 7 k + z 6 k)) 5 k))) 5 (upd (z 5) k (z 4 k))) 4 (upd (z 4) k 0)) 8 0 = 0 := by
      show z 8 0 = 0
      rw [z8]; exact hb
    rw [if_pos (by exact c1), if_pos (by show z' 6 0 = 0; rw [z6, ← e8]; exact hb)]
    obtain ⟨q1, q2, q3⟩ := hl_n3 k (hl_su (hl_su z' 10 (upd (z' 10) (4 * T + k) (z' 4 k))) 4 (upd (hl_su z' 10 (upd (z' 10) (4 * T + k) (z' 4 k)) 4) k 0)) (T - 1)
    have qf : ∀ p, p ≠ 3 → p ≠ 10 → hl_it (b_X6_n3 k) 0 (T - 1) (hl_su (hl_su z' 10 (upd (z' 10) (4 * T + k) (z' 4 k))) 4 (upd (hl_su z' 10 (upd (z' 10) (4 * T + k) (z' 4 k)) 4) k 0)) p = _ := fun p hp hp2 => fr_X6_n3It k hp hp2 (T - 1) 0 _
    generalize hl_it (b_X6_n3 k) 0 (T - 1) (hl_su (hl_su z' 10 (upd (z' 10) (4 * T + k) (z' 4 k))) 4 (upd (hl_su z' 10 (upd (z' 10) (4 * T + k) (z' 4 k)) 4) k 0)) = Y at *
    have q1' : Y 3 = upd (z' 3) k (z' 3 k + hl_wsh (upd (z' 10) (4 * T + k) (z' 4 k)) k (T - 1)) := q1
    have q3' : ∀ m, (∀ j, j < T - 1 → m ≠ 4 * j + k) → Y 10 m = upd (z' 10) (4 * T + k) (z' 4 k) m := q3
    have wS : hl_wsh (upd (z' 10) (4 * T + k) (z' 4 k)) k (T - 1) = hl_wsh (z' 10) k (T - 1) := hl_wsh_congr (fun j hj => w1 j k hk (Or.inl (by omega)))
    have yo : ∀ s j, j < 4 → j ≠ k → Y 10 (4 * s + j) = z' 10 (4 * s + j) := fun s j hj hjk => by
      rw [q3' _ (fun i _ => by omega)]; exact w1 s j hj (Or.inr hjk)
    refine ⟨?_, ?_, ?_, ?_, ?_, ?_⟩
    · show upd (z 3) k (z 3 k + upd (z 7) k (z 7 k + z 6 k) k) = Y 3
      rw [q1', hl_upd_at, hS, wS, h3]
    · rw [qf 4 (by decide) (by decide)]
      show upd (z 4) k 0 = upd (z' 4) k 0
      rw [h4]
    · intro p p3 p4 p5 p6 p7
      rw [hl_su_ne _ _ p7, hl_su_ne _ _ p3, hl_su_ne _ _ p4, hl_su_ne _ _ p5, hl_su_ne _ _ p6, hl_su_ne _ _ p7]
      exact hg p p3 p4 p5 p6 p7
    · intro p p3 p4 p10
      rw [qf p p3 p10, hl_su_ne _ _ p4, hl_su_ne _ _ p10]
      exact ht p p3 p4 p10
    · intro j hj hjk
      show upd (z 5) k (z 4 k) j = _ ∧ upd (z 6) k (z 5 k) j = _ ∧ upd (upd (z 7) k (z 7 k + z 6 k)) k 0 j = _
      by_cases hjk2 : j = k
      · subst hjk2
        rw [hl_upd_at, hl_upd_at, hl_upd_at]
        refine ⟨?_, ?_, ?_⟩
        · rw [q3' _ (fun i _ => by omega), hl_upd_at, h4]
        · rw [o5]
          by_cases hT : 1 ≤ T
          · rw [if_pos hT, if_pos hT, q3' _ (fun i _ => by omega), w1 (T - 1) j hj (Or.inl (by omega))]
          · rw [if_neg hT, if_neg hT]
        · rw [hl_wsh_0 _ q2]
      · rw [hl_upd_ne _ _ hjk2, hl_upd_ne _ _ hjk2, hl_upd_upd, hl_upd_ne _ _ hjk2]
        obtain ⟨d5, d6, d7⟩ := hd j hj (by omega)
        rw [yo T j hj hjk2, yo (T - 1) j hj hjk2, hl_wsh_congr (fun s _ => yo s j hj hjk2)]
        exact ⟨d5, d6, d7⟩
    · intro j hj hjk
      show upd (z 5) k (z 4 k) j = _ ∧ upd (z 6) k (z 5 k) j = _ ∧ upd (upd (z 7) k (z 7 k + z 6 k)) k 0 j = _
      have hjk2 : j ≠ k := by omega
      rw [hl_upd_ne _ _ hjk2, hl_upd_ne _ _ hjk2, hl_upd_upd, hl_upd_ne _ _ hjk2]
      obtain ⟨d5, d6, d7⟩ := ho j hj (by omega)
      rw [yo (T - 1) j hj hjk2, yo (T - 2) j hj hjk2, hl_wsh_congr (fun s _ => yo s j hj hjk2)]
      exact ⟨d5, d6, d7⟩
  · rw [if_neg (by intro c1; apply hb; rw [← z8]; exact c1), if_neg (by intro c1; apply hb; rw [e8, ← z6]; exact c1)]
    have yo : ∀ s j, j < 4 → j ≠ k → upd (z' 10) (4 * T + k) (z' 4 k) (4 * s + j) = z' 10 (4 * s + j) := fun s j hj hjk => w1 s j hj (Or.inr hjk)
    refine ⟨h3, ?_, ?_, ?_, ?_, ?_⟩
    · show upd (z 4) k 0 = upd (z' 4) k 0
      rw [h4]
    · intro p p3 p4 p5 p6 p7
      rw [hl_su_ne _ _ p4, hl_su_ne _ _ p5, hl_su_ne _ _ p6, hl_su_ne _ _ p7]
      exact hg p p3 p4 p5 p6 p7
    · intro p p3 p4 p10
      rw [hl_su_ne _ _ p4, hl_su_ne _ _ p10]
      exact ht p p3 p4 p10
    · intro j hj hjk
      show upd (z 5) k (z 4 k) j = upd (z' 10) (4 * T + k) (z' 4 k) (4 * T + j) ∧ upd (z 6) k (z 5 k) j = (if 1 ≤ T then upd (z' 10) (4 * T + k) (z' 4 k) (4 * (T - 1) + j) else 0) ∧ upd (z 7) k (z 7 k + z 6 k) j = hl_wsh (upd (z' 10) (4 * T + k) (z' 4 k)) j (T - 1)
      by_cases hjk2 : j = k
      · subst hjk2
        rw [hl_upd_at, hl_upd_at, hl_upd_at, hl_upd_at]
        refine ⟨by rw [h4], ?_, ?_⟩
        · rw [o5]
          by_cases hT : 1 ≤ T
          · rw [if_pos hT, if_pos hT, w1 (T - 1) j hj (Or.inl (by omega))]
          · rw [if_neg hT, if_neg hT]
        · rw [hS]
          exact (hl_wsh_congr (fun i hi => w1 i j hk (Or.inl (by omega)))).symm
      · rw [hl_upd_ne _ _ hjk2, hl_upd_ne _ _ hjk2, hl_upd_ne (z 7) _ hjk2]
        obtain ⟨d5, d6, d7⟩ := hd j hj (by omega)
        rw [yo T j hj hjk2, yo (T - 1) j hj hjk2, hl_wsh_congr (fun s _ => yo s j hj hjk2)]
        exact ⟨d5, d6, d7⟩
    · intro j hj hjk
      show upd (z 5) k (z 4 k) j = (if 1 ≤ T then upd (z' 10) (4 * T + k) (z' 4 k) (4 * (T - 1) + j) else 0) ∧ upd (z 6) k (z 5 k) j = (if 2 ≤ T then upd (z' 10) (4 * T + k) (z' 4 k) (4 * (T - 2) + j) else 0) ∧ upd (z 7) k (z 7 k + z 6 k) j = hl_wsh (upd (z' 10) (4 * T + k) (z' 4 k)) j (T - 2)
      have hjk2 : j ≠ k := by omega
      rw [hl_upd_ne _ _ hjk2, hl_upd_ne _ _ hjk2, hl_upd_ne (z 7) _ hjk2]
      obtain ⟨d5, d6, d7⟩ := ho j hj (by omega)
      rw [yo (T - 1) j hj hjk2, yo (T - 2) j hj hjk2, hl_wsh_congr (fun s _ => yo s j hj hjk2)]
      exact ⟨d5, d6, d7⟩
theorem hl_n1 {g t : Nat → Nat → Int32} {N T : Nat} (e11 : g 11 = t 13) (e13 : g 13 = t 15) (e14 : g 14 = t 16) (e23 : g 23 = t 8) (t2 : g 23 0 = nI T) (o5 : ∀ k, k < N → vp_in (g 11 k) 4) (m2 : ∀ s i, T ≤ s → i < 4 → t 11 (4 * s + i) = 0) :
    (hl_it (b_X6_n1 T) 0 N (t, 0)).2 = hl_it (b_X0_missedIn g (g 23 0)) 0 N 0 ∧ (∀ p, p ≠ 11 → (hl_it (b_X6_n1 T) 0 N (t, 0)).1 p = t p) ∧ (∀ i, i < 4 → (hl_it (b_X6_n1 T) 0 N (t, 0)).1 11 (4 * T + i) = hl_it (hl_miss g T i) 0 N 0) ∧ ∀ m, (∀ i, i < 4 → m ≠ 4 * T + i) → (hl_it (b_X6_n1 T) 0 N (t, 0)).1 11 m = t 11 m := by
  refine hl_it_inv2 (fun n (z : (Nat → Nat → Int32) × Int32) (u : Int32) => z.2 = u ∧ (∀ p, p ≠ 11 → z.1 p = t p) ∧ (∀ i, i < 4 → z.1 11 (4 * T + i) = hl_it (hl_miss g T i) 0 n 0) ∧ ∀ m, (∀ i, i < 4 → m ≠ 4 * T + i) → z.1 11 m = t 11 m) (b_X6_n1 T) (b_X0_missedIn g (g 23 0)) N (t, 0) 0
    ⟨rfl, fun _ _ => rfl, fun i hi => m2 T i (Nat.le_refl T) hi, fun _ _ => rfl⟩ ?_
  rintro k ⟨z, n⟩ u hk ⟨hn, hz, h11, hm⟩
  dsimp only at hn hz h11 hm
  subst hn
  obtain ⟨i0, hi0, ei⟩ := vp_in_of (o5 k hk) (by decide)
  have z13 : (z 13 k).toNatClampNeg = i0 := by rw [hz 13 (by decide), ← e11, ei, nI_clamp (by omega)]
  have eC : (z 15 k = z 8 0 ∧ z 16 k = 0) ↔ (g 13 k = g 23 0 ∧ g 14 k = 0) := by rw [hz 15 (by decide), hz 8 (by decide), hz 16 (by decide), ← e13, ← e14, ← e23]
  unfold b_X6_n1 b_X0_missedIn
  dsimp only
  by_cases hc : g 13 k = g 23 0 ∧ g 14 k = 0
  · rw [if_pos (eC.mpr hc), if_pos hc, z13]
    refine ⟨rfl, fun p hp => (hl_su_ne _ _ hp).trans (hz p hp), fun i hi => ?_, fun m hm2 => ?_⟩
    · show upd (z 11) (4 * T + i0) (z 11 (4 * T + i0) + 1) (4 * T + i) = _
      rw [hl_it_snoc, Nat.zero_add, ← h11 i hi]
      unfold hl_miss
      rw [ei, ← t2]
      by_cases h : i = i0
      · subst h
        rw [hl_upd_at, if_pos ⟨rfl, hc⟩]
      · rw [hl_upd_ne _ _ (by omega), if_neg]
        rintro ⟨q, _⟩
        rw [nI_eq (by omega) (by omega)] at q
        omega
    · show upd (z 11) (4 * T + i0) (z 11 (4 * T + i0) + 1) m = _
      rw [hl_upd_ne _ _ (hm2 i0 hi0)]
      exact hm m hm2
  · rw [if_neg (fun q => hc (eC.mp q)), if_neg hc, z13]
    refine ⟨Int32.add_zero _, fun p hp => (hl_su_ne _ _ hp).trans (hz p hp), fun i hi => ?_, fun m hm2 => ?_⟩
    · show upd (z 11) (4 * T + i0) (z 11 (4 * T + i0) + 0) (4 * T + i) = _
      rw [Int32.add_zero, hl_upd_same, hl_it_snoc, Nat.zero_add, ← h11 i hi]
      unfold hl_miss
      rw [← t2, if_neg (fun q => hc q.2)]
    · show upd (z 11) (4 * T + i0) (z 11 (4 * T + i0) + 0) m = _
      rw [Int32.add_zero, hl_upd_same]
      exact hm m hm2
theorem hl_R_night {c N M T : Nat} {g t : Nat → Nat → Int32} (hc : c < 512) (h : hl_R c N M T g t) (hT : T < 300) :
    hl_it (b_X0_missedIn g (g 23 0)) 0 N 0 = r_X6_night t N T ∧ hl_R (c + 1) N M (T + 1) (f_X5_night g) (f_X6_night t N T) := by
  obtain ⟨⟨o1, o2, o3, o4, o5, o6, o7⟩, ⟨t1, t2⟩, ⟨e0, e1, e2, e3, e4, e8, e9, e10, e11, e12, e13, e14, e15, e16, e17, e18, e19, e20, e21, e23⟩, b, w, ⟨m1, m2⟩, ct, ⟨n0, n1, n2, n3, n4, n5, n6, n7⟩⟩ := hl_R_up hc h
  obtain ⟨a1, a2, a3, a4⟩ := hl_n1 e11 e13 e14 e23 t2 (fun k hk => (o5 k hk).1) m2
  refine ⟨a1.symm, ?_⟩
  obtain ⟨c1, c2⟩ := hl_w0_cls g
  unfold f_X5_night f_X2_endNight f_X6_night
  generalize (hl_it (b_X6_n1 T) 0 N (t, 0)).1 = t' at *
  generalize f_X4_endNight g = g' at *
  have hN : hl_NI T g' t' 4 (hl_it b_X2_endNight 0 4 g') (hl_it (b_X6_n2 T) 0 4 t') := by
    refine hl_it_inv2 (hl_NI T g' t') b_X2_endNight (b_X6_n2 T) 4 g' t' ⟨?_, ?_, fun _ _ _ _ _ _ => rfl, fun _ _ _ _ => rfl, fun j _ hj => absurd hj (Nat.not_lt_zero j), fun j hj _ => ?_⟩ (fun k z z' hk hz => hl_night_step hk (by rw [c2 8 (by decide), a2 6 (by decide), e8]) hz)
    · rw [c2 3 (by decide), a2 3 (by decide), e3]
    · rw [c2 4 (by decide), a2 4 (by decide), e4]
    · rw [c2 5 (by decide), c2 6 (by decide), c2 7 (by decide), a2 10 (by decide)]
      exact w j hj
  obtain ⟨b3, b4, bg, bt, bd, _⟩ := hN
  generalize hl_it b_X2_endNight 0 4 g' = G at *
  generalize hl_it (b_X6_n2 T) 0 4 t' = U at *
  obtain ⟨d1, d2⟩ := hl_w0_ref U
  generalize hl_it b_X6_n4 0 8 U = V at *
  dsimp only
  have G' : ∀ p, p ≠ 3 → p ≠ 4 → p ≠ 5 → p ≠ 6 → p ≠ 7 → p ≠ 2 → G p = g p := fun p h3 h4 h5 h6 h7 h2 => by rw [bg p h3 h4 h5 h6 h7, c2 p h2]
  have V' : ∀ p, p ≠ 3 → p ≠ 4 → p ≠ 10 → p ≠ 2 → p ≠ 11 → V p = t p := fun p h3 h4 h10 h2 h11 => by rw [d2 p h2, bt p h3 h4 h10, a2 p h11]
  have G2 : G 2 = hl_w0 8 (g 2) := by rw [bg 2 (by decide) (by decide) (by decide) (by decide) (by decide), c1]
  have V2 : V 2 = hl_w0 8 (t 2) := by rw [d1, bt 2 (by decide) (by decide) (by decide), a2 2 (by decide)]
  have V11 : V 11 = t' 11 := by rw [d2 11 (by decide), bt 11 (by decide) (by decide) (by decide)]
  have V10 : V 10 = U 10 := d2 10 (by decide)
  have gg := fun p (h : (p ≠ 3 ∧ p ≠ 4 ∧ p ≠ 5 ∧ p ≠ 6 ∧ p ≠ 7 ∧ p ≠ 2)) => G' p h.1 h.2.1 h.2.2.1 h.2.2.2.1 h.2.2.2.2.1 h.2.2.2.2.2
  have vv := fun p (h : (p ≠ 3 ∧ p ≠ 4 ∧ p ≠ 10 ∧ p ≠ 2 ∧ p ≠ 11)) => V' p h.1 h.2.1 h.2.2.1 h.2.2.2.1 h.2.2.2.2
  refine ⟨⟨o1, (congrFun (gg 16 (by decide)) 0).trans o2, o3, (congrFun (gg 20 (by decide)) 0).trans o4, ?_, ?_, ?_⟩, ⟨by omega, ?_⟩,
    ⟨(gg 0 (by decide)).trans (e0.trans (vv 0 (by decide)).symm), (gg 1 (by decide)).trans (e1.trans (vv 1 (by decide)).symm), ?_, ?_, ?_, (gg 8 (by decide)).trans (e8.trans (vv 6 (by decide)).symm), rfl, (gg 10 (by decide)).trans (e10.trans (vv 12 (by decide)).symm), (gg 11 (by decide)).trans (e11.trans (vv 13 (by decide)).symm), (gg 12 (by decide)).trans (e12.trans (vv 14 (by decide)).symm), (gg 13 (by decide)).trans (e13.trans (vv 15 (by decide)).symm), (gg 14 (by decide)).trans (e14.trans (vv 16 (by decide)).symm), (gg 15 (by decide)).trans (e15.trans (vv 17 (by decide)).symm), (gg 16 (by decide)).trans (e16.trans (vv 18 (by decide)).symm), (gg 17 (by decide)).trans (e17.trans (vv 19 (by decide)).symm), (gg 18 (by decide)).trans (e18.trans (vv 20 (by decide)).symm), (gg 19 (by decide)).trans (e19.trans (vv 21 (by decide)).symm), (gg 20 (by decide)).trans (e20.trans (vv 22 (by decide)).symm), (gg 21 (by decide)).trans (e21.trans (vv 5 (by decide)).symm), ?_⟩,
    ?_, ?_, ⟨?_, ?_⟩, ?_, ⟨n0, ?_, ?_, ?_, hl_bd0 1 (by omega), ?_, ?_, ?_⟩⟩
  · show ∀ k, k < N → vp_in (G 11 k) 4 ∧ vp_in (G 12 k) 2
    rw [gg 11 (by decide), gg 12 (by decide)]; exact o5
  · show ∀ k, k < M → vp_in (G 18 k) 4
    rw [gg 18 (by decide)]; exact o6
  · show G 8 0 = 0 ∨ G 8 0 = 1
    rw [gg 8 (by decide)]; exact o7
  · show G 23 0 + 1 = nI (T + 1)
    rw [gg 23 (by decide), t2, nI_1]
  · show G 2 = V 2
    rw [G2, V2, e2]
  · show G 3 = V 3
    rw [b3, d2 3 (by decide)]
  · show G 4 = V 4
    rw [b4, d2 4 (by decide)]
  · show (fun _ => G 23 0 + 1) = (fun _ => V 8 0 + 1)
    rw [gg 23 (by decide), vv 8 (by decide), e23]
  · show hl_RB (G 22) (V 9)
    rw [gg 22 (by decide), vv 9 (by decide)]; exact b
  · show hl_RW (G 5) (G 6) (G 7) (V 10) (T + 1)
    rw [V10]
    intro k hk
    obtain ⟨x5, x6, x7⟩ := bd k hk hk
    refine ⟨?_, ?_, ?_⟩
    · rw [if_pos (by omega : 1 ≤ T + 1), x5, Nat.add_sub_cancel]
    · rw [x6]
      by_cases h1 : 1 ≤ T
      · rw [if_pos h1, if_pos (by omega : 2 ≤ T + 1), show T + 1 - 2 = T - 1 by omega]
      · rw [if_neg h1, if_neg (by omega : ¬ 2 ≤ T + 1)]
    · rw [x7, show T + 1 - 2 = T - 1 by omega]
  · intro s i hs hi
    show V 11 (4 * s + i) = hl_it (hl_miss _ s i) 0 N 0
    rw [V11, hl_miss_congr (g2 := g) (by exact gg 11 (by decide)) (by exact gg 13 (by decide)) (by exact gg 14 (by decide))]
    by_cases hs2 : s < T
    · rw [a4 _ (fun i _ => by omega)]; exact m1 s i hs2 hi
    · rw [show s = T by omega]; exact a3 i hi
  · intro s i hs hi
    show V 11 (4 * s + i) = 0
    rw [V11, a4 _ (fun i _ => by omega)]; exact m2 s i (by omega) hi
  · show M ≤ hl_cnt (G 14) N
    rw [gg 14 (by decide)]; exact ct
  · show hl_bd (G 0) 8 0 10
    rw [gg 0 (by decide)]; exact n1
  · show hl_bd (G 1) 8 1 100
    rw [gg 1 (by decide)]; exact n2
  · show hl_bd (G 2) 8 0 _
    rw [G2]; exact hl_w0_bd n3 (by omega) 8
  · show hl_bd (V 9) 16 0 _
    rw [vv 9 (by decide)]; exact n5
  · show hl_bd (G 19) M 0 10
    rw [gg 19 (by decide)]; exact n6
  · show ∀ k, k < N → vp_in (G 13 k) 400
    rw [gg 13 (by decide)]; exact n7
end
section
/-! The settling: the relation stays -/
def b_X1_pay16 (k : Nat) (z : (Nat → Nat → Int32) × Int32) : (Nat → Nat → Int32) × Int32 := b_X1_payIn (k / 4) (k % 4) z
theorem hl_pay_flat (z : (Nat → Nat → Int32) × Int32) : hl_it b_X1_payAll 0 4 z = hl_it b_X1_pay16 0 16 z := rfl
theorem hl_neg_sub (a b : Int32) : a - b = -(b - a) := by grind
theorem hl_owed_d (t : Nat → Nat → Int32) {i j : Nat} (hi : i < 4) (hj : j < 4) : r_X6_owed t (nI i) (nI j) = (if t 9 (4 * i + j) - t 9 (4 * j + i) ≤ 0 then 0 else t 9 (4 * i + j) - t 9 (4 * j + i)) := by
  unfold r_X6_owed
  rw [hl_c4' hi hj, hl_c4' hj hi]
theorem hl_between_d (g : Nat → Nat → Int32) {i j : Nat} (hi : i < 4) (hj : j < 4) : r_X1_between g (nI i) (nI j) = (if g 22 (4 * i + j) ≤ 0 then 0 else g 22 (4 * i + j)) := by
  unfold r_X1_between
  rw [hl_c4 hi hj]
  by_cases h : g 22 (4 * i + j) ≤ 0
  · rw [if_pos h, if_neg (hl_nlt h)]
  · rw [if_neg h, if_pos]
    rw [Int32.lt_iff_toInt_lt]
    exact Int.not_le.mp (fun z => h (Int32.le_iff_toInt_le.mpr z))
def hl_dd (t : Nat → Nat → Int32) (i j : Nat) : Int32 := t 9 (4 * i + j) - t 9 (4 * j + i)
/-- what still stands between i and j when k pairs have been settled -/
def hl_sd (t : Nat → Nat → Int32) (k i j : Nat) : Int32 := if (4 * i + j < k ∧ ¬ hl_dd t i j ≤ 0) ∨ (4 * j + i < k ∧ ¬ hl_dd t j i ≤ 0) then 0 else hl_dd t i j
def hl_SI (g t : Nat → Nat → Int32) (k : Nat) (z z' : (Nat → Nat → Int32) × Int32) : Prop :=
  z.2 = z'.2 ∧ z.1 21 = z'.1 5 ∧ (∀ p, p ≠ 21 → p ≠ 22 → z.1 p = g p) ∧ (∀ p, p ≠ 5 → z'.1 p = t p) ∧ ∀ i j, i < 4 → j < 4 → z.1 22 (4 * i + j) = hl_sd t k i j
theorem hl_dd_ti {t : Nat → Nat → Int32} {hi : Int} (h : hl_bd (t 9) 16 0 hi) (hq : hi < 2147483648) {i j : Nat} (hi4 : i < 4) (hj4 : j < 4) : (hl_dd t i j).toInt = (t 9 (4 * i + j)).toInt - (t 9 (4 * j + i)).toInt := by
  have h1 := h (4 * i + j) (by omega)
  have h2 := h (4 * j + i) (by omega)
  exact hl_ti_sub (by omega) (by omega)
theorem hl_settle_step {k : Nat} {g t : Nat → Nat → Int32} {z z' : (Nat → Nat → Int32) × Int32} {hi : Int} (hbd : hl_bd (t 9) 16 0 hi) (hq : hi < 2147483648) (hk : k < 16) (h : hl_SI g t k z z') : hl_SI g t (k + 1) (b_X1_pay16 k z) (b_X6_settle k z') := by
  obtain ⟨G, n⟩ := z
  obtain ⟨U, n'⟩ := z'
  obtain ⟨zn, z5, zg, zt, z22⟩ := h
  dsimp only at zn z5 zg zt z22
  subst zn
  have hx : k / 4 < 4 := by omega
  have hy : k % 4 < 4 := by omega
  have hk4 : 4 * (k / 4) + k % 4 = k := by omega
  have hxy := hl_dd_ti hbd hq hx hy
  have hyx := hl_dd_ti hbd hq hy hx
  unfold b_X1_pay16 b_X1_payIn b_X6_settle
  dsimp only
  -- both move the same sum
  have eo : r_X6_owed U (nI (k / 4)) (nI (k % 4)) = (if hl_dd t (k / 4) (k % 4) ≤ 0 then 0 else hl_dd t (k / 4) (k % 4)) := by
    rw [hl_owed_d U hx hy, zt 9 (by decide)]; rfl
  have eb : r_X1_between G (nI (k / 4)) (nI (k % 4)) = (if hl_dd t (k / 4) (k % 4) ≤ 0 then 0 else hl_dd t (k / 4) (k % 4)) := by
    rw [hl_between_d G hx hy, z22 _ _ hx hy]
    unfold hl_sd
    by_cases hd : hl_dd t (k / 4) (k % 4) ≤ 0
    · rw [if_pos hd]
      split
      · split <;> rfl
      · rfl
    · rw [if_neg hd]
      have hq2 : ¬ ((4 * (k / 4) + k % 4 < k ∧ ¬ hl_dd t (k / 4) (k % 4) ≤ 0) ∨ (4 * (k % 4) + k / 4 < k ∧ ¬ hl_dd t (k % 4) (k / 4) ≤ 0)) := by
        rintro (⟨a, _⟩ | ⟨_, a⟩)
        · omega
        · apply a
          rw [Int32.le_iff_toInt_le, show (0 : Int32).toInt = 0 by decide]
          have hd2 : ¬ (hl_dd t (k / 4) (k % 4)).toInt ≤ 0 := fun y => hd (by rw [Int32.le_iff_toInt_le, show (0 : Int32).toInt = 0 by decide]; exact y)
          omega
      rw [if_neg hq2, if_neg hd]
  rw [eb, eo]
  generalize es : (if hl_dd t (k / 4) (k % 4) ≤ 0 then 0 else hl_dd t (k / 4) (k % 4)) = s at *
  have nx : (nI (k / 4)).toNatClampNeg = k / 4 := nI_clamp (by omega)
  have ny : (nI (k % 4)).toNatClampNeg = k % 4 := nI_clamp (by omega)
  unfold f_X1_pay
  dsimp only
  rw [eb]
  refine ⟨rfl, ?_, ?_, ?_, ?_⟩
  · dsimp only
    rw [fr_X1_owe _ _ _ _ (by decide)]
    show upd (upd (G 21) (nI (k / 4)).toNatClampNeg (G 21 (nI (k / 4)).toNatClampNeg - s)) (nI (k % 4)).toNatClampNeg (upd (G 21) (nI (k / 4)).toNatClampNeg (G 21 (nI (k / 4)).toNatClampNeg - s) (nI (k % 4)).toNatClampNeg + s) = upd (upd (U 5) (k / 4) (U 5 (k / 4) - s)) (k % 4) (upd (U 5) (k / 4) (U 5 (k / 4) - s) (k % 4) + s)
    rw [nx, ny, z5]
  · intro p p1 p2
    dsimp only
    rw [fr_X1_owe _ _ _ _ p2, hl_su_ne _ _ p1, hl_su_ne _ _ p1]
    exact zg p p1 p2
  · intro p p5
    show hl_su (hl_su U 5 _) 5 _ p = t p
    rw [hl_su_ne _ _ p5, hl_su_ne _ _ p5]
    exact zt p p5
  · intro i j hi4 hj4
    dsimp only
    rw [hl_owe22, hl_c4 hy hx, hl_c4 hx hy]
    show hl_ow (G 22) (4 * (k % 4) + k / 4) (4 * (k / 4) + k % 4) s (4 * i + j) = _
    have y1 := z22 i j hi4 hj4
    have y2 := z22 _ _ hx hy
    have y3 := z22 _ _ hy hx
    have hij := hl_dd_ti hbd hq hi4 hj4
    have hji := hl_dd_ti hbd hq hj4 hi4
    by_cases hd : hl_dd t (k / 4) (k % 4) ≤ 0
    · -- nothing moves
      rw [if_pos hd] at es
      rw [← es, hl_ow0, y1]
      unfold hl_sd
      have q1 : (4 * i + j < k + 1 ∧ ¬ hl_dd t i j ≤ 0) ↔ (4 * i + j < k ∧ ¬ hl_dd t i j ≤ 0) := by
        constructor
        · rintro ⟨a, a2⟩
          refine ⟨?_, a2⟩
          rcases Nat.lt_or_ge (4 * i + j) k with z | z
          · exact z
          · exfalso; apply a2
            rw [show i = k / 4 by omega, show j = k % 4 by omega]; exact hd
        · rintro ⟨a, a2⟩; exact ⟨by omega, a2⟩
      have q2 : (4 * j + i < k + 1 ∧ ¬ hl_dd t j i ≤ 0) ↔ (4 * j + i < k ∧ ¬ hl_dd t j i ≤ 0) := by
        constructor
        · rintro ⟨a, a2⟩
          refine ⟨?_, a2⟩
          rcases Nat.lt_or_ge (4 * j + i) k with z | z
          · exact z
          · exfalso; apply a2
            rw [show j = k / 4 by omega, show i = k % 4 by omega]; exact hd
        · rintro ⟨a, a2⟩; exact ⟨by omega, a2⟩
      simp only [q1, q2]
    · -- the sum between the two is paid
      rw [if_neg hd] at es
      have hd2 : ¬ (hl_dd t (k / 4) (k % 4)).toInt ≤ 0 := fun y => hd (by rw [Int32.le_iff_toInt_le, show (0 : Int32).toInt = 0 by decide]; exact y)
      have hne : k / 4 ≠ k % 4 := by
        intro z
        rw [← z] at hxy hd2
        omega
      have hd3 : hl_dd t (k % 4) (k / 4) ≤ 0 := by
        rw [Int32.le_iff_toInt_le, show (0 : Int32).toInt = 0 by decide]
        omega
      have hneg : hl_dd t (k % 4) (k / 4) = - hl_dd t (k / 4) (k % 4) := hl_neg_sub _ _
      have hs2 : hl_sd t k (k / 4) (k % 4) = hl_dd t (k / 4) (k % 4) := by
        unfold hl_sd
        rw [if_neg]
        rintro (⟨a, _⟩ | ⟨_, a⟩)
        · omega
        · exact a hd3
      have hs3 : hl_sd t k (k % 4) (k / 4) = hl_dd t (k % 4) (k / 4) := by
        unfold hl_sd
        rw [if_neg]
        rintro (⟨_, a⟩ | ⟨a, _⟩)
        · exact a hd3
        · omega
      rw [hs2] at y2
      rw [hs3] at y3
      unfold hl_ow
      have e1 : 4 * i + j = 4 * (k / 4) + k % 4 ↔ i = k / 4 ∧ j = k % 4 := by omega
      have e2 : 4 * i + j = 4 * (k % 4) + k / 4 ↔ i = k % 4 ∧ j = k / 4 := by omega
      have hnn : 4 * (k / 4) + k % 4 ≠ 4 * (k % 4) + k / 4 := by omega
      rw [hl_upd_ne _ _ hnn]
      by_cases a1 : i = k / 4 ∧ j = k % 4
      · rw [a1.1, a1.2, hl_upd_at, y2, ← es, Int32.sub_self]
        unfold hl_sd
        rw [if_pos (Or.inl ⟨by omega, hd⟩)]
      · rw [hl_upd_ne _ _ (fun z => a1 (e1.mp z))]
        by_cases a2 : i = k % 4 ∧ j = k / 4
        · rw [a2.1, a2.2, hl_upd_at, y3, hneg, ← es, Int32.add_comm, ← Int32.sub_eq_add_neg, Int32.sub_self]
          unfold hl_sd
          rw [if_pos (Or.inr ⟨by omega, hd⟩)]
        · rw [hl_upd_ne _ _ (fun z => a2 (e2.mp z)), y1]
          unfold hl_sd
          have q1 : 4 * i + j < k + 1 ↔ 4 * i + j < k := by omega
          have q2 : 4 * j + i < k + 1 ↔ 4 * j + i < k := by omega
          simp only [q1, q2]
def hl_w16 (f : Nat → Int32) : Nat → Int32 := hl_it (fun k f => upd f k 0) 0 16 f
theorem hl_wipe (t : Nat → Nat → Int32) : (hl_it b_X6_wipe 0 16 t) 9 = hl_w16 (t 9) ∧ ∀ p, p ≠ 9 → (hl_it b_X6_wipe 0 16 t) p = t p :=
  hl_it_inv2 (fun _ (z : Nat → Nat → Int32) f => z 9 = f ∧ ∀ p, p ≠ 9 → z p = t p) b_X6_wipe (fun k f => upd f k 0) 16 t (t 9) ⟨rfl, fun _ _ => rfl⟩
    (fun k z f _ h => ⟨by show upd (z 9) k 0 = upd f k 0; rw [h.1], fun p hp => by show hl_su z 9 _ p = t p; rw [hl_su_ne _ _ hp]; exact h.2 p hp⟩)
theorem hl_w16_0 (f : Nat → Int32) {j : Nat} (hj : j < 16) : hl_w16 f j = 0 :=
  hl_it_inv (fun n (f : Nat → Int32) => ∀ j, j < n → f j = 0) (fun k f => upd f k 0) 16 f (fun j h => absurd h (Nat.not_lt_zero j))
    (fun k x _ hx j hj => by
      show upd x k 0 j = 0
      unfold upd
      split
      · rfl
      · exact hx j (by omega)) j hj
theorem hl_R_settle {c N M T : Nat} {g t : Nat → Nat → Int32} (hc : c < 512) (h : hl_R c N M T g t) :
    (hl_it b_X1_payAll 0 4 (g, 0)).2 = r_X6_settle t ∧ hl_R (c + 1) N M T (hl_it b_X1_payAll 0 4 (g, 0)).1 (f_X6_settle t) := by
  obtain ⟨⟨o1, o2, o3, o4, o5, o6, o7⟩, ⟨t1, t2⟩, ⟨e0, e1, e2, e3, e4, e8, e9, e10, e11, e12, e13, e14, e15, e16, e17, e18, e19, e20, e21, e23⟩, b, w, ⟨m1, m2⟩, ct, ⟨n0, n1, n2, n3, n4, n5, n6, n7⟩⟩ := hl_R_up hc h
  rw [hl_pay_flat]
  unfold r_X6_settle f_X6_settle
  have key : hl_SI g t 16 (hl_it b_X1_pay16 0 16 (g, 0)) (hl_it b_X6_settle 0 16 (t, 0)) := by
    refine hl_it_inv2 (hl_SI g t) b_X1_pay16 b_X6_settle 16 (g, 0) (t, 0) ⟨rfl, e21, fun _ _ _ => rfl, fun _ _ => rfl, fun i j hi hj => ?_⟩ (fun k z z' hk hz => hl_settle_step n5 (by omega) hk hz)
    show g 22 (4 * i + j) = _
    unfold hl_sd
    rw [if_neg (by omega)]
    exact b i j hi hj
  generalize hl_it b_X1_pay16 0 16 (g, 0) = z at *
  generalize hl_it b_X6_settle 0 16 (t, 0) = z' at *
  obtain ⟨k1, k2, k3, k4, k5⟩ := key
  refine ⟨k1, ?_⟩
  obtain ⟨d1, d2⟩ := hl_wipe z'.1
  generalize hl_it b_X6_wipe 0 16 z'.1 = V at *
  have gg := fun p (h : p ≠ 21 ∧ p ≠ 22) => k3 p h.1 h.2
  have vv : ∀ p, (p ≠ 9 ∧ p ≠ 5) → V p = t p := fun p h => (d2 p h.1).trans (k4 p h.2)
  have ge : ∀ p q, (p ≠ 21 ∧ p ≠ 22) → (q ≠ 9 ∧ q ≠ 5) → g p = t q → z.1 p = V q := fun p q h1 h2 e => (gg p h1).trans (e.trans (vv q h2).symm)
  refine ⟨⟨o1, by rw [gg 16 (by decide)]; exact o2, o3, by rw [gg 20 (by decide)]; exact o4, by rw [gg 11 (by decide), gg 12 (by decide)]; exact o5, by rw [gg 18 (by decide)]; exact o6, by rw [gg 8 (by decide)]; exact o7⟩,
    ⟨t1, by rw [gg 23 (by decide)]; exact t2⟩,
    ⟨ge 0 0 (by decide) (by decide) e0, ge 1 1 (by decide) (by decide) e1, ge 2 2 (by decide) (by decide) e2, ge 3 3 (by decide) (by decide) e3, ge 4 4 (by decide) (by decide) e4, ge 8 6 (by decide) (by decide) e8, ge 9 7 (by decide) (by decide) e9, ge 10 12 (by decide) (by decide) e10, ge 11 13 (by decide) (by decide) e11, ge 12 14 (by decide) (by decide) e12, ge 13 15 (by decide) (by decide) e13, ge 14 16 (by decide) (by decide) e14, ge 15 17 (by decide) (by decide) e15, ge 16 18 (by decide) (by decide) e16, ge 17 19 (by decide) (by decide) e17, ge 18 20 (by decide) (by decide) e18, ge 19 21 (by decide) (by decide) e19, ge 20 22 (by decide) (by decide) e20, k2.trans (d2 5 (by decide)).symm, ge 23 8 (by decide) (by decide) e23⟩,
    ?_, by rw [gg 5 (by decide), gg 6 (by decide), gg 7 (by decide), vv 10 (by decide)]; exact w, ?_, by rw [gg 14 (by decide)]; exact ct,
    ⟨n0, by rw [gg 0 (by decide)]; exact n1, by rw [gg 1 (by decide)]; exact n2, by rw [gg 2 (by decide)]; exact n3, by rw [gg 9 (by decide)]; exact n4, ?_, by rw [gg 19 (by decide)]; exact n6, by rw [gg 13 (by decide)]; exact n7⟩⟩
  · intro i j hi hj
    rw [k5 i j hi hj, d1, hl_w16_0 _ (by omega), hl_w16_0 _ (by omega)]
    unfold hl_sd
    have x1 := hl_dd_ti n5 (by omega) hi hj
    have x2 := hl_dd_ti n5 (by omega) hj hi
    by_cases hq : hl_dd t i j ≤ 0
    · by_cases hq2 : hl_dd t j i ≤ 0
      · have z1 := Int32.le_iff_toInt_le.mp hq
        have z2 := Int32.le_iff_toInt_le.mp hq2
        rw [show (0 : Int32).toInt = 0 by decide] at z1 z2
        have z0 : hl_dd t i j = 0 := by
          apply Int32.toInt_inj.mp
          rw [show (0 : Int32).toInt = 0 by decide]
          omega
        rw [z0]
        split <;> rfl
      · rw [if_pos (Or.inr ⟨by omega, hq2⟩)]; rfl
    · rw [if_pos (Or.inl ⟨by omega, hq⟩)]; rfl
  · rw [vv 11 (by decide)]
    refine ⟨fun s i hs hi => ?_, m2⟩
    rw [hl_miss_congr (gg 11 (by decide)) (gg 13 (by decide)) (gg 14 (by decide))]
    exact m1 s i hs hi
  · intro j hj
    rw [d1, hl_w16_0 _ hj, show (0 : Int32).toInt = 0 by decide]
    omega
end
section
/-! The answers of the calls that change nothing are the same; what a reference's step leaves of 'thrown' -/
theorem hl_pos_ite (d : Int32) : (if 0 < d then d else 0) = (if d ≤ 0 then 0 else d) := by
  by_cases h : d ≤ 0
  · rw [if_pos h, if_neg (hl_nlt h)]
  · rw [if_neg h, if_pos]
    rw [Int32.lt_iff_toInt_lt]
    exact Int.not_le.mp (fun z => h (Int32.le_iff_toInt_le.mpr z))
theorem hl_q_free {c N M T : Nat} {g t : Nat → Nat → Int32} (h : hl_R c N M T g t) (x y : Int32) : r_X4_freeOf g x y = (if (t 0 (2 * x + y).toNatClampNeg - t 2 (2 * x + y).toNatClampNeg) ≤ 0 then 0 else (t 0 (2 * x + y).toNatClampNeg - t 2 (2 * x + y).toNatClampNeg)) := by
  obtain ⟨o, tt, ⟨e0, e1, e2, er⟩, _⟩ := h
  unfold r_X4_freeOf
  rw [hl_pos_ite, e0, e2, Int32.mul_comm x 2]
theorem hl_q_taken {c N M T : Nat} {g t : Nat → Nat → Int32} (h : hl_R c N M T g t) (x y : Int32) : g 2 (x * 2 + y).toNatClampNeg = t 2 (2 * x + y).toNatClampNeg := by
  obtain ⟨o, tt, ⟨e0, e1, e2, er⟩, _⟩ := h
  rw [e2, Int32.mul_comm x 2]
theorem hl_q_rooms {c N M T : Nat} {g t : Nat → Nat → Int32} (h : hl_R c N M T g t) (x y : Int32) : g 0 (x * 2 + y).toNatClampNeg = t 0 (2 * x + y).toNatClampNeg := by
  obtain ⟨o, tt, ⟨e0, er⟩, _⟩ := h
  rw [e0, Int32.mul_comm x 2]
theorem hl_q_tbb {c N M T : Nat} {g t : Nat → Nat → Int32} (h : hl_R c N M T g t) (x y : Int32) : hl_it (b_X0_sleepersAt g x y (g 23 0)) 0 N 0 = hl_it (b_X6_taken t x y) 0 N 0 := by
  obtain ⟨o, tt, ⟨e0, e1, e2, e3, e4, e8, e9, e10, e11, e12, e13, e14, e15, e16, e17, e18, e19, e20, e21, e23⟩, _⟩ := h
  refine hl_it_congr _ _ N 0 (fun k u _ => ?_)
  have q : (g 15 k = x ∧ g 12 k = y ∧ g 13 k = g 23 0) ↔ (t 15 k = t 8 0 ∧ t 17 k = x ∧ t 14 k = y) := by
    rw [e15, e12, e13, e23]
    exact ⟨fun z => ⟨z.2.2, z.1, z.2.1⟩, fun z => ⟨z.2.1, z.2.2, z.1⟩⟩
  unfold b_X0_sleepersAt b_X6_taken
  simp only [q, Int32.add_zero]
theorem hl_q_extra {c N M T : Nat} {g t : Nat → Nat → Int32} (h : hl_R c N M T g t) {x : Int32} (hx : vp_in x 4) : r_X5_extraOf g N x = r_X6_extraOf t T x := by
  obtain ⟨o, ⟨t1, t2⟩, e, b, w, ⟨m1, m2⟩, ct, ⟨n0, n1, n2, n3, n4, n5, n6, n7⟩⟩ := h
  exact hl_ext_eq t1 hx t2 n7 m1
theorem hl_q_clean {c N M T : Nat} {g t : Nat → Nat → Int32} (h : hl_R c N M T g t) (x : Int32) : g 3 x.toNatClampNeg = t 3 x.toNatClampNeg := by
  obtain ⟨o, tt, ⟨e0, e1, e2, e3, er⟩, _⟩ := h
  rw [e3]
theorem hl_away_it (f : Nat → Int32) (j : Nat) (u : Int32) : ∀ n, hl_it (fun k m => m + f (4 * k + j)) 0 n u = u + hl_wsh f j n := by
  intro n
  induction n with
  | zero =>
    show u = u + 0
    rw [Int32.add_zero]
  | succ n ih =>
    rw [hl_it_snoc, ih, hl_wsh_s, Nat.zero_add, Int32.add_assoc]
theorem hl_q_away {c N M T : Nat} {g t : Nat → Nat → Int32} (h : hl_R c N M T g t) {x : Int32} (hx : vp_in x 4) : r_X2_awayOf g x = hl_it (b_X6_away t x) 0 T (t 4 x.toNatClampNeg) := by
  obtain ⟨o, tt, ⟨e0, e1, e2, e3, e4, er⟩, b, w, _⟩ := h
  obtain ⟨j, hj, rfl⟩ := vp_in_of hx (by decide)
  have hx : (nI j).toNatClampNeg = j := nI_clamp (by omega)
  obtain ⟨w5, w6, w7⟩ := w j hj
  have ea : hl_it (b_X6_away t (nI j)) 0 T (t 4 (nI j).toNatClampNeg) = t 4 j + hl_wsh (t 10) j T := by
    rw [← hl_away_it, hx]
    refine hl_it_congr _ _ T _ (fun k u _ => ?_)
    unfold b_X6_away
    rw [hx]
  rw [ea]
  unfold r_X2_awayOf
  rw [hx, w5, w6, w7, e4]
  rcases T with _ | _ | T
  · show t 4 j + 0 + 0 + 0 = t 4 j + 0
    grind
  · show t 4 j + t 10 (4 * 0 + j) + 0 + 0 = t 4 j + (0 + t 10 (4 * 0 + j))
    grind
  · rw [if_pos (by omega), if_pos (by omega), hl_wsh_s, hl_wsh_s, show T + 1 + 1 - 1 = T + 1 by omega, show T + 1 + 1 - 2 = T by omega]
    grind
theorem hl_q_sleeps {c N M T : Nat} {g t : Nat → Nat → Int32} (h : hl_R c N M T g t) (x : Int32) : g 15 x.toNatClampNeg = t 17 x.toNatClampNeg := by
  obtain ⟨o, tt, ⟨e0, e1, e2, e3, e4, e8, e9, e10, e11, e12, e13, e14, e15, er⟩, _⟩ := h
  rw [e15]
theorem hl_q_points {c N M T : Nat} {g t : Nat → Nat → Int32} (h : hl_R c N M T g t) (x : Int32) : hl_it (b_X3_ofGuest g x) 0 M 0 = hl_it (b_X6_pointsOf t x) 0 M 0 := by
  obtain ⟨o, tt, ⟨e0, e1, e2, e3, e4, e8, e9, e10, e11, e12, e13, e14, e15, e16, e17, e18, e19, er⟩, _⟩ := h
  exact hl_points_eq e17 e19 x M
theorem hl_q_owes {c N M T : Nat} {g t : Nat → Nat → Int32} (h : hl_R c N M T g t) {x y : Int32} (hx : vp_in x 4) (hy : vp_in y 4) : r_X1_between g x y = r_X6_owed t x y := by
  obtain ⟨o, tt, e, b, _⟩ := h
  obtain ⟨i, hi, rfl⟩ := vp_in_of hx (by decide)
  obtain ⟨j, hj, rfl⟩ := vp_in_of hy (by decide)
  rw [hl_between_d g hi hj, hl_owed_d t hi hj, b i j hi hj]
theorem hl_q_purse {c N M T : Nat} {g t : Nat → Nat → Int32} (h : hl_R c N M T g t) (x : Int32) : g 21 x.toNatClampNeg = t 5 x.toNatClampNeg := by
  obtain ⟨o, tt, ⟨e0, e1, e2, e3, e4, e8, e9, e10, e11, e12, e13, e14, e15, e16, e17, e18, e19, e20, e21, er⟩, _⟩ := h
  rw [e21]
theorem hl_q_today {c N M T : Nat} {g t : Nat → Nat → Int32} (h : hl_R c N M T g t) : g 23 0 = t 8 0 := by
  obtain ⟨o, tt, ⟨e0, e1, e2, e3, e4, e8, e9, e10, e11, e12, e13, e14, e15, e16, e17, e18, e19, e20, e21, e23⟩, _⟩ := h
  rw [e23]
theorem hl_q_bookings {c N M T : Nat} {g t : Nat → Nat → Int32} (h : hl_R c N M T g t) : g 16 0 = t 18 0 := by
  obtain ⟨o, tt, ⟨e0, e1, e2, e3, e4, e8, e9, e10, e11, e12, e13, e14, e15, e16, er⟩, _⟩ := h
  rw [e16]
theorem hl_q_broken {c N M T : Nat} {g t : Nat → Nat → Int32} (h : hl_R c N M T g t) : g 8 0 = t 6 0 := by
  obtain ⟨o, tt, ⟨e0, e1, e2, e3, e4, e8, er⟩, _⟩ := h
  rw [e8]
theorem hl_q_on {c N M T : Nat} {g t : Nat → Nat → Int32} (h : hl_R c N M T g t) : g 13 = t 15 ∧ g 14 = t 16 := by
  obtain ⟨o, tt, ⟨e0, e1, e2, e3, e4, e8, e9, e10, e11, e12, e13, e14, er⟩, _⟩ := h
  exact ⟨e13, e14⟩
theorem hl_q_count {c N M T : Nat} {g t : Nat → Nat → Int32} (h : hl_R c N M T g t) (x y z : Int32) : hl_it (b_X0_countFor g x y z) 0 N 0 = hl_it (b_X6_book t x y z) 0 N 0 := by
  obtain ⟨o, tt, ⟨e0, e1, e2, e3, e4, e8, e9, e10, e11, e12, e13, e14, er⟩, _⟩ := h
  refine hl_it_congr _ _ N 0 (fun k u _ => ?_)
  unfold b_X0_countFor b_X6_book
  rw [e11, e12, e13, Int32.add_zero]
theorem hl_q_more {c N M T : Nat} {g t : Nat → Nat → Int32} (h : hl_R c N M T g t) {y : Int32} (hy : vp_in y 4) (z v : Int32) : r_X5_takesMore g N y z v = 0 ↔ ¬ hl_it (b_X6_book t y z v) 0 N 0 < t 0 (2 * y + z).toNatClampNeg + r_X6_extraOf t T y := by
  unfold r_X5_takesMore
  rw [hl_ite0, hl_q_count h, hl_q_extra h hy, hl_q_rooms h]
  exact ⟨fun q => hl_nlt q, fun q => hl_le_of q⟩
theorem hl_23_come (t : Nat → Nat → Int32) (x : Int32) : f_X6_come t x 23 = t 23 := by
  unfold f_X6_come
  split
  · rfl
  · unfold f_X6_sleep
    show f_X6_takesLinen _ _ 23 = _
    rw [fr_X6_takesLinen _ _ (by decide) (by decide) (by decide) (by decide)]
    rfl
theorem hl_23_burn (t : Nat → Nat → Int32) (M : Nat) (x y q : Int32) : f_X6_burn t M x y q 23 = t 23 := fr_X6_burnIt x y (by decide) (by decide) M 0 (t, q)
theorem hl_23_night (t : Nat → Nat → Int32) (N T : Nat) : f_X6_night t N T 23 = t 23 := by
  unfold f_X6_night
  rw [hl_su_ne _ _ (by decide : (23 : Nat) ≠ 8), hl_su_ne _ _ (by decide : (23 : Nat) ≠ 7), (hl_w0_ref _).2 23 (by decide), fr_X6_n2It T (by decide) (by decide) (by decide), fr_X6_n1It T (by decide)]
theorem hl_23_settle (t : Nat → Nat → Int32) : f_X6_settle t 23 = t 23 := by
  unfold f_X6_settle
  rw [(hl_wipe _).2 23 (by decide)]
  exact hl_it_inv (fun _ (z : (Nat → Nat → Int32) × Int32) => z.1 23 = t 23) b_X6_settle 16 (t, 0) rfl (fun k x _ hx => (fr_X6_settle k x (by decide)).trans hx)
end
section
/-! THE LAW'S ROWS: pop, ldc; names for the law's contents; the script, and 'told' that reads it -/
section HLP
variable {p : Program} {l : Launch} {e : Env} {R : Room} {s : State} {m : MethodId} {args : Array Value} {below : List Frame} {meth : Method} {c : Code}
variable {cc : ByteArray} {nL : Nat} {Ts : List Cond} {own : String} {D : va_G} {tys : List (ClassId × FieldType)} {A : Nat → Prop} {cells slots : Nat} {Q : State → Prop} {w : va_W} {pc : Nat} {ls : List (Nat × Value)} {st : List Value}
theorem hl_pop (h : hl_C p s m args c cc nL Ts own D tys A) {va : Value} (hd : decode cc pc = .ok (.pop, 1)) (hva : va.category = 1) (k : hl_X p l e R s m args below meth c nL D A cells slots Q w (pc + 1) ls st) : hl_X p l e R s m args below meth c nL D A cells slots Q w pc ls (va :: st) :=
  fun H locs la hP hD hS hl => lv_pop h.1 h.2.1 hd hva (k H locs la hP hD hS hl)
theorem hl_ldc (h : hl_C p s m args c cc nL Ts own D tys A) {index : Nat} {v : Int32} (hd : decode cc pc = .ok (.ldc index, 2)) (hc : Cond.constant own index v ∈ Ts) (k : hl_X p l e R s m args below meth c nL D A cells slots Q w (pc + 2) ls (.int v :: st)) : hl_X p l e R s m args below meth c nL D A cells slots Q w pc ls st :=
  fun H locs la hP hD hS hl => lv_ldc h.1 h.2.1 h.2.2.2.1 (h.2.2.2.2.1 _ hc) hd (k H locs la hP hD hS hl)
theorem hl_xld (h : hl_C p s m args c cc nL Ts own D tys A) {bs L : Nat} {xs : Nat → Int32} (hX : va_X bs L xs s s.heap) (hbl : bs < s.heap.size) (hbA : ¬ A bs) {i : Int32} (hin : vp_in i L) (hd : decode cc pc = .ok (.iaload, 1)) (kk : hl_X p l e R s m args below meth c nL D A cells slots Q w (pc + 1) ls (.int (xs i.toNatClampNeg) :: st)) : hl_X p l e R s m args below meth c nL D A cells slots Q w pc ls (.int i :: .ref bs :: st) :=
  fun H1 locs la hP hD hS hl => va_sld h.1 h.2.1 hX hbl hbA hS hin hd (kk H1 locs la hP hD hS hl)
theorem hl_xlen (h : hl_C p s m args c cc nL Ts own D tys A) {bs L : Nat} {xs : Nat → Int32} (hX : va_X bs L xs s s.heap) (hbl : bs < s.heap.size) (hbA : ¬ A bs) (hd : decode cc pc = .ok (.arraylength, 1)) (kk : hl_X p l e R s m args below meth c nL D A cells slots Q w (pc + 1) ls (.int (Int32.ofNat L) :: st)) : hl_X p l e R s m args below meth c nL D A cells slots Q w pc ls (.ref bs :: st) :=
  fun H1 locs la hP hD hS hl => va_slen h.1 h.2.1 hX hbl hbA hS hd (kk H1 locs la hP hD hS hl)
variable {a : Nat → Nat} {cI cZ : ClassId} {T U : Nat → Nat → Int32}
theorem hl_nmPG (k : ∀ z, z = T → hl_X p l e R s m args below meth c nL D A cells slots Q (hl_LW a cI cZ U z) pc ls st) : hl_X p l e R s m args below meth c nL D A cells slots Q (hl_LW a cI cZ U T) pc ls st := k T rfl
theorem hl_nmPR (k : ∀ z, z = U → hl_X p l e R s m args below meth c nL D A cells slots Q (hl_LW a cI cZ z T) pc ls st) : hl_X p l e R s m args below meth c nL D A cells slots Q (hl_LW a cI cZ U T) pc ls st := k U rfl
end HLP
def hp_raw (L : Nat) (xs : Nat → Int32) (k : Nat) : Int32 := if k < L then xs k else 55001 * nI (k + 7) * nI (k + 4)
def hp_told (L : Nat) (xs : Nat → Int32) (k : Nat) : Int32 := hp_raw L xs k &&& 2147483647
theorem hp_told_nn (L : Nat) (xs : Nat → Int32) (k : Nat) : ∃ V, V < 2147483648 ∧ hp_told L xs k = nI V := by
  have q := Jvm.Kit.i32_mask (hp_raw L xs k) 2147483647 (k := 31) (by decide) (by decide)
  refine ⟨(hp_told L xs k).toInt.toNat, ?_, ?_⟩
  · unfold hp_told
    omega
  · apply Int32.toInt_inj.mp
    unfold hp_told
    rw [nI_toInt (by omega)]
    omega
def hl_PreX (D : va_G) (tys : List (ClassId × FieldType)) (bs L : Nat) (xs : Nat → Int32) (sz : Nat) (U : State) : Prop := U.heap.size = sz ∧ va_X bs L xs U U.heap ∧ va_K D vwCl tys U ∧ bs < sz
theorem hl_blindX (D : va_G) (tys : List (ClassId × FieldType)) (bs L : Nat) (xs : Nat → Int32) (sz : Nat) (av : List Value) : FrameBlind (va_Pc av (hl_PreX D tys bs L xs sz)) := fun a U g mk q => by
  obtain ⟨q0, q1, qX, qK, qb⟩ := q
  exact ⟨q0, q1, va_X.moved (u := U) (U := U.calling g mk a) (Vm.Alike.refl U.vm) qX, va_K.moved (u := U) (U := U.calling g mk a) (Vm.Alike.refl U.vm) qK, qb⟩
set_option maxHeartbeats 4000000 in
set_option maxRecDepth 100000 in
theorem c_L_told (l : Launch) (D : va_G) (cI cZ cJ : ClassId) (bs L : Nat) (xs : Nat → Int32) (hL : L ≤ 260) (k : Nat) (hk : k ≤ 200) (sz : Nat) :
    Met l yL_told wsL_told ({ frames := 0, cells := 0, slots := 0, locals := 0 } : Room) (va_Pc [.ref bs, .int (nI k)] (hl_PreX D (hl_ty cI cZ cJ) bs L xs sz)) (va_Qi (fun (r : Int32) (_ : Unit) => r = hp_told L xs k) (fun _ _ => True) (va_A [] sz)) 0 0 (va_A [] sz) := by
  refine Met.ofW (cc := cL_told) (maxL := 2) (ret := some .int) (by decide) rfl ?_
  intro p e s m args below meth c s₁ B hml hv
  obtain ⟨rfl, hsz, hX, hK, hbs⟩ := hv
  have hr := B.returns
  have hlocks := B.notSynchronized
  subst hsz
  have hbA : ¬ va_A [] s.heap.size bs := fun z => z.elim (fun ⟨k, e, h⟩ => by simp at h) (fun h => Nat.not_le.mpr hbs h)
  rw [lg_entry_eq]
  have h : hl_C p s m ([Value.ref bs, Value.int (nI k)] : List Value).toArray c cL_told 2 wsL_told RL D (hl_ty cI cZ cJ) (va_A [] s.heap.size) := ⟨B.exec, B.bytes, hml, findClass_of_methodNamed B.named, atoms_spec (ws := wsL_told) B.pre, hK, fun q h => Or.inr h⟩
  have body : ∀ (Q : State → Prop), (∀ {pc : Nat} {ls : List (Nat × Value)} {v : Int32}, decode cL_told pc = .ok (.ireturn, 1) → v = hp_told L xs k → hl_X p l e ({ frames := 0, cells := 0, slots := 0, locals := 0 } : Room) s m ([Value.ref bs, Value.int (nI k)] : List Value).toArray below meth c 2 D (va_A [] s.heap.size) 0 0 Q [] pc ls [.int v]) → hl_X p l e ({ frames := 0, cells := 0, slots := 0, locals := 0 } : Room) s m ([Value.ref bs, Value.int (nI k)] : List Value).toArray below meth c 2 D (va_A [] s.heap.size) 0 0 Q [] 0 (lv_args 0 [Value.ref bs, Value.int (nI k)]) [] := by
    intro Q hend
    refine hl_ls (ls' := [(0, .ref bs), (1, .int (nI k))]) rfl ?_
    refine hl_iload_n h 1 dL_told_0 rfl ?_
    refine hl_aload_n h 0 dL_told_1 rfl ?_
    refine hl_xlen h hX hbs hbA dL_told_2 ?_
    refine hl_icmp_ge h 12 dL_told_3 (by decide) (fun hc => ?_) (fun hc => ?_)
    · have hkL : ¬ k < L := fun z => nI_ge (a := k) (b := L) z (by omega) hc
      refine hl_ldc h dL_told_12 (List.mem_of_getElem? (i := 1) rfl) ?_
      refine hl_iload_n h 1 dL_told_14 rfl ?_
      refine hl_bipush h (nI 7) dL_told_15 (by decide) ?_
      refine hl_iadd h dL_told_17 ?_
      refine hl_topc (nI (k + 7)) (nI_add _ _) ?_
      refine hl_imul h dL_told_18 ?_
      refine hl_iload_n h 1 dL_told_19 rfl ?_
      refine hl_iconst h (nI 4) dL_told_20 (by decide) ?_
      refine hl_iadd h dL_told_21 ?_
      refine hl_topc (nI (k + 4)) (nI_add _ _) ?_
      refine hl_imul h dL_told_22 ?_
      refine hl_ldc h dL_told_23 (List.mem_of_getElem? (i := 2) rfl) ?_
      refine hl_iand h dL_told_25 ?_
      exact hend dL_told_26 (by unfold hp_told hp_raw; rw [if_neg hkL])
    · have hkL : k < L := Nat.not_le.mp (fun z => hc (nI_le (a := L) (b := k) z (by omega)))
      refine hl_aload_n h 0 dL_told_6 rfl ?_
      refine hl_iload_n h 1 dL_told_7 rfl ?_
      refine hl_xld h hX hbs hbA (vp_in_nI hkL (by omega)) dL_told_8 ?_
      refine hl_goto h 23 dL_told_9 (by decide) ?_
      refine hl_ldc h dL_told_23 (List.mem_of_getElem? (i := 2) rfl) ?_
      refine hl_iand h dL_told_25 ?_
      exact hend dL_told_26 (by unfold hp_told hp_raw; rw [if_pos hkL, nI_clamp (by omega)])
  refine body _ ?_ s.heap [] _ (fun k q h => by simp at h) ⟨fun i j p q h => by simp at h, fun k q h => by simp at h⟩ va_S.rf (lv_entry _ (Nat.le_of_ble_eq_true rfl))
  intro pc ls v hd hv H locs la hP1 hD1 hS1 hl1
  exact W.zret (v := v) B.exec B.bytes hr rfl (fun t ht hW => ⟨⟨v, (), rfl, hv, trivial⟩, hS1.F ht⟩) hS1.2.2 hd hlocks
/-! the law itself -/
def hl_H (p : Program) (s : State) (m : MethodId) (c : Code) (D : va_G) (cI cZ cJ : ClassId) (A : Nat → Prop) (bs L : Nat) (xs : Nat → Int32) : Prop :=
  hl_C p s m #[Value.ref bs] c code 13 wsL_law RL D (hl_ty cI cZ cJ) A ∧ va_X bs L xs s s.heap ∧ bs < s.heap.size ∧ ¬ A bs ∧ L ≤ 260
section HLL
variable {p : Program} {l : Launch} {e : Env} {s : State} {m : MethodId} {below : List Frame} {meth : Method} {c : Code}
variable {D : va_G} {cI cZ cJ : ClassId} {A : Nat → Prop} {cells slots : Nat} {Q : State → Prop} {w : va_W} {pc : Nat} {ls : List (Nat × Value)} {st : List Value} {bs L : Nat} {xs : Nat → Int32}
set_option maxHeartbeats 4000000 in
set_option maxRecDepth 100000 in
theorem hl_told (H : hl_H p s m c D cI cZ cJ A bs L xs) {k : Nat} (hk : k ≤ 200) (hd : decode code pc = .ok (.invokestatic 76, 3)) (hW : (st.map fun v => v.category).sum ≤ 8) (hf : cells ≤ room_1.cells ∧ slots ≤ room_1.slots)
    (kk : hl_X p l e room_1 s m #[Value.ref bs] below meth c 13 D A cells slots Q w (pc + 3) ls (.int (hp_told L xs k) :: st)) : hl_X p l e room_1 s m #[Value.ref bs] below meth c 13 D A cells slots Q w pc ls (.int (nI k) :: .ref bs :: st) := by
  obtain ⟨h, hX, hbl, hbA, hL⟩ := H
  intro H1 locs la hP hD hS hl
  have hF : ∀ q, va_A [] H1.size q → A q := fun q z => z.elim (fun ⟨k, e, h⟩ => by simp at h) (fun h9 => h.2.2.2.2.2.2 q (Nat.le_trans hS.1 h9))
  refine va_calli (va_runS (As := [.ref bs, .int (nI k)]) (rest := st) ⟨h.1, h.2.1, h.2.2.1, h.2.2.2.1, h.2.2.2.2.1⟩ (c_L_told l D cI cZ cJ bs L xs hL k hk H1.size) (va_cwS 2 h.2.2.2.2.1 gL_law_L_told rfl rfl rfl (by decide +kernel) ⟨Nat.le_of_ble_eq_true rfl, Nat.le_of_ble_eq_true rfl⟩) ⟨hl_blindX D _ bs L xs H1.size _, fun U hU hW9 => ⟨rfl, by rw [hU], ?_, va_K.moved hW9.alike h.2.2.2.2.2.1, Nat.lt_of_lt_of_le hbl hS.1⟩⟩ rfl rfl hl.1 rfl (lv_room hW) hd hf) hS (fun q _ h9 => hF q h9) hF (fun r u t H2 locs1 ht hvm hw hB hz hk2 hS1 => ?_)
  · rw [hU]
    exact (hX.kept (hS.2.1 bs hbl hbA)).moved hW9.alike
  · have hw' : r = hp_told L xs k := hw
    rw [hw']
    exact kk H2 locs1 la (fun j q hq => (hP j q hq).kept (hk2 q.1 (hP j q hq).lt (fun z => z.elim (fun ⟨k, e, h⟩ => by simp at h) (fun h9 => Nat.not_le.mpr (hP j q hq).lt h9)))) hD hS1 hl
end HLL
/-! sums of the law, and its count of bookings -/
def b_L_sum (g : Nat → Nat → Int32) (x : Int32) (k : Nat) (u : Int32) : Int32 := if x = 0 then u + g 21 (nI k).toNatClampNeg else u + (g 3 (nI k).toNatClampNeg + r_X2_awayOf g (nI k))
def r_L_sum (g : Nat → Nat → Int32) (x : Int32) : Int32 := hl_it (b_L_sum g x) 0 4 0
def b_L_booked (r : Nat → Nat → Int32) (z : Int32) (k : Nat) (u : Int32) : Int32 := if r 1 k = z then u + 1 else u + 0
def r_L_booked (r : Nat → Nat → Int32) (N : Nat) (z : Int32) : Int32 := hl_it (b_L_booked r z) 0 N 0
end
section
/-! The law: sum, booked -/
set_option maxHeartbeats 4000000 in
set_option maxRecDepth 100000 in
theorem c_L_sum (l : Launch) (D : va_G) (cI cZ cJ : ClassId) (a : Nat → Nat) (r g : Nat → Nat → Int32) (x : Int32) : hl_KI D (hl_ty cI cZ cJ) l yL_sum wsL_sum ({ frames := 2, cells := 0, slots := 0, locals := 42 } : Room) 0 0 [.ref (a 0), .int x] (hl_LW a cI cZ r g) (fun x9 w9 => x9 = (r_L_sum g x) ∧ w9 = hl_LW a cI cZ r g) := by
  refine hl_KI_of (cc := cL_sum) (maxL := 4) .int rfl (fun _ => Or.inr rfl) (by decide) rfl (Nat.le_of_ble_eq_true rfl) ?_
  intro p e s m args below meth c A Q h hend
  refine hl_ls (ls' := [(0, .ref (a 0)), (1, .int x)]) rfl ?_
  refine hl_iconst h 0 dL_sum_0 (by decide) ?_
  refine hl_istore_n h [(2, .int 0), (0, .ref (a 0)), (1, .int x)] dL_sum_1 (by decide) rfl ?_
  refine hl_iconst h 0 dL_sum_2 (by decide) ?_
  refine hl_istore_n h [(3, .int 0), (2, .int 0), (0, .ref (a 0)), (1, .int x)] dL_sum_3 (by decide) rfl ?_
  have lp4 : ∀ (n : Nat) (i : Nat) (u : Int32), (i + n = 4) → (hl_it (b_L_sum g x) i n u = r_L_sum g x) →  hl_X p l e ({ frames := 2, cells := 0, slots := 0, locals := 42 } : Room) s m args below meth c 4 D A 0 0 Q (hl_LW a cI cZ r g) 4 [(0, .ref (a 0)), (1, .int x), (2, .int u), (3, .int (nI i))] [] := by
    intro n
    induction n with
    | zero =>
      intro i u hi hv
      refine hl_iload_n h 3 dL_sum_4 rfl ?_
      refine hl_iconst h 4 dL_sum_5 (by decide) ?_
      refine hl_icmp_ge_T h 41 dL_sum_6 (by decide) (by rw [show i = 4 by omega]; decide) ?_
      refine hl_iload_n h 2 dL_sum_41 rfl ?_
      exact hend dL_sum_42 (fun h9 => nomatch h9) ⟨hv, rfl⟩
    | succ n ih =>
      intro i u hi hv
      have hvi : vp_in (nI i) 4 := vp_in_nI (by omega) (by decide)
      refine hl_iload_n h 3 dL_sum_4 rfl ?_
      refine hl_iconst h 4 dL_sum_5 (by decide) ?_
      refine hl_icmp_ge_F h 41 dL_sum_6 (by decide) (nI_ge (b := 4) (by omega) (by decide)) ?_
      refine hl_iload_n h 2 dL_sum_9 rfl ?_
      refine hl_iload_n h 1 dL_sum_10 rfl ?_
      refine hl_if_ne h 22 dL_sum_11 (by decide) (fun c1 => ?_) (fun c1 => ?_)
      · refine hl_aload_n h 0 dL_sum_22 rfl ?_
        refine hl_iload_n h 3 dL_sum_23 rfl ?_
        refine hl_callPViD h (st := [.int u]) (wc := hl_WC a cI cZ g) (wr := hl_LR a cI r) [4, 5, 6, 7, 8, 9, 10, 11, 12, 13, 14, 15, 16, 17, 18, 19, 20, 21, 22, 23, 24, 25, 26, 27, 28] [0, 1, 2, 3] rfl rfl (by decide) (by decide) (by decide) (c_X5_clean l D cI cZ cJ a g (nI i) hvi) (cwV 1 h.2.2.2.2.1 gL_sum_X5_clean rfl rfl rfl (by decide +kernel) ⟨Nat.le_of_ble_eq_true rfl, Nat.le_of_ble_eq_true rfl⟩) hl_lw_4 rfl dL_sum_24 rfl (Nat.le_of_ble_eq_true rfl) ⟨Nat.le_of_ble_eq_true rfl, Nat.le_of_ble_eq_true rfl⟩ rfl ?_
        refine hl_wd (w' := hl_LW a cI cZ r g) rfl ?_
        refine hl_aload_n h 0 dL_sum_27 rfl ?_
        refine hl_iload_n h 3 dL_sum_28 rfl ?_
        refine hl_callPViD h (st := [.int (g 3 (nI i).toNatClampNeg), .int u]) (wc := hl_WC a cI cZ g) (wr := hl_LR a cI r) [4, 5, 6, 7, 8, 9, 10, 11, 12, 13, 14, 15, 16, 17, 18, 19, 20, 21, 22, 23, 24, 25, 26, 27, 28] [0, 1, 2, 3] rfl rfl (by decide) (by decide) (by decide) (c_X5_away l D cI cZ cJ a g (nI i) hvi) (cwV 1 h.2.2.2.2.1 gL_sum_X5_away rfl rfl rfl (by decide +kernel) ⟨Nat.le_of_ble_eq_true rfl, Nat.le_of_ble_eq_true rfl⟩) hl_lw_4 rfl dL_sum_29 rfl (Nat.le_of_ble_eq_true rfl) ⟨Nat.le_of_ble_eq_true rfl, Nat.le_of_ble_eq_true rfl⟩ rfl ?_
        refine hl_wd (w' := hl_LW a cI cZ r g) rfl ?_
        refine hl_iadd h dL_sum_32 ?_
        refine hl_iadd h dL_sum_33 ?_
        refine hl_istore_n h [(2, .int (u + ((g 3 (nI i).toNatClampNeg) + (r_X2_awayOf g (nI i))))), (0, .ref (a 0)), (1, .int x), (3, .int (nI i))] dL_sum_34 (by decide) rfl ?_
        refine hl_iinc h 3 (nI (i + 1)) [(3, .int (nI (i + 1))), (2, .int (u + ((g 3 (nI i).toNatClampNeg) + (r_X2_awayOf g (nI i))))), (0, .ref (a 0)), (1, .int x)] dL_sum_35 rfl (hl_inc i) (by decide) rfl ?_
        refine hl_goto h 4 dL_sum_38 (by decide) ?_
        refine hl_lsub [2, 3, 1, 0] rfl ?_
        exact ih (i + 1) (u + ((g 3 (nI i).toNatClampNeg) + (r_X2_awayOf g (nI i)))) (by omega) (by rw [← hv, hl_it_s] <;> (congr 1 <;> (first | (simp [b_L_sum, c1]; done) | (symm; simp [b_L_sum, c1]))))
      · refine hl_aload_n h 0 dL_sum_14 rfl ?_
        refine hl_iload_n h 3 dL_sum_15 rfl ?_
        refine hl_callPViD h (st := [.int u]) (wc := hl_WC a cI cZ g) (wr := hl_LR a cI r) [4, 5, 6, 7, 8, 9, 10, 11, 12, 13, 14, 15, 16, 17, 18, 19, 20, 21, 22, 23, 24, 25, 26, 27, 28] [0, 1, 2, 3] rfl rfl (by decide) (by decide) (by decide) (c_X5_purse l D cI cZ cJ a g (nI i) hvi) (cwV 1 h.2.2.2.2.1 gL_sum_X5_purse rfl rfl rfl (by decide +kernel) ⟨Nat.le_of_ble_eq_true rfl, Nat.le_of_ble_eq_true rfl⟩) hl_lw_4 rfl dL_sum_16 rfl (Nat.le_of_ble_eq_true rfl) ⟨Nat.le_of_ble_eq_true rfl, Nat.le_of_ble_eq_true rfl⟩ rfl ?_
        refine hl_wd (w' := hl_LW a cI cZ r g) rfl ?_
        refine hl_goto h 33 dL_sum_19 (by decide) ?_
        refine hl_iadd h dL_sum_33 ?_
        refine hl_istore_n h [(2, .int (u + (g 21 (nI i).toNatClampNeg))), (0, .ref (a 0)), (1, .int x), (3, .int (nI i))] dL_sum_34 (by decide) rfl ?_
        refine hl_iinc h 3 (nI (i + 1)) [(3, .int (nI (i + 1))), (2, .int (u + (g 21 (nI i).toNatClampNeg))), (0, .ref (a 0)), (1, .int x)] dL_sum_35 rfl (hl_inc i) (by decide) rfl ?_
        refine hl_goto h 4 dL_sum_38 (by decide) ?_
        refine hl_lsub [2, 3, 1, 0] rfl ?_
        exact ih (i + 1) (u + (g 21 (nI i).toNatClampNeg)) (by omega) (by rw [← hv, hl_it_s] <;> (congr 1 <;> (first | (simp [b_L_sum, c1]; done) | (symm; simp [b_L_sum, c1]))))
  refine hl_lsub [2, 3, 1, 0] rfl ?_
  exact lp4 4 0 0 rfl rfl

set_option maxHeartbeats 4000000 in
set_option maxRecDepth 100000 in
theorem c_L_booked (l : Launch) (D : va_G) (cI cZ cJ : ClassId) (a : Nat → Nat) (r g : Nat → Nat → Int32) (y z : Int32) (N : Nat) (hN : N ≤ 60) (hc : y = nI N) : hl_KI D (hl_ty cI cZ cJ) l yL_booked wsL_booked ({ frames := 0, cells := 0, slots := 0, locals := 0 } : Room) 0 0 [.ref (a 26), .int y, .int z] (hl_LW a cI cZ r g) (fun x9 w9 => x9 = (r_L_booked r N z) ∧ w9 = hl_LW a cI cZ r g) := by
  refine hl_KI_of (cc := cL_booked) (maxL := 5) .int rfl (fun _ => Or.inr rfl) (by decide) rfl (Nat.le_of_ble_eq_true rfl) ?_
  intro p e s m args below meth c A Q h hend
  refine hl_ls (ls' := [(0, .ref (a 26)), (1, .int y), (2, .int z)]) rfl ?_
  refine hl_iconst h 0 dL_booked_0 (by decide) ?_
  refine hl_istore_n h [(3, .int 0), (0, .ref (a 26)), (1, .int y), (2, .int z)] dL_booked_1 (by decide) rfl ?_
  refine hl_iconst h 0 dL_booked_2 (by decide) ?_
  refine hl_istore h [(4, .int 0), (3, .int 0), (0, .ref (a 26)), (1, .int y), (2, .int z)] dL_booked_3 (by decide) rfl ?_
  have lp5 : ∀ (n : Nat) (i : Nat) (u : Int32), (i + n = N) → (hl_it (b_L_booked r z) i n u = r_L_booked r N z) →  hl_X p l e ({ frames := 0, cells := 0, slots := 0, locals := 0 } : Room) s m args below meth c 5 D A 0 0 Q (hl_LW a cI cZ r g) 5 [(0, .ref (a 26)), (1, .int y), (2, .int z), (3, .int u), (4, .int (nI i))] [] := by
    intro n
    induction n with
    | zero =>
      intro i u hi hv
      refine hl_iload h 4 dL_booked_5 rfl ?_
      refine hl_iload_n h 1 dL_booked_7 rfl ?_
      refine hl_icmp_ge_T h 33 dL_booked_8 (by decide) (by rw [hc]; exact nI_le (by omega) (by omega)) ?_
      refine hl_iload_n h 3 dL_booked_33 rfl ?_
      exact hend dL_booked_34 (fun h9 => nomatch h9) ⟨hv, rfl⟩
    | succ n ih =>
      intro i u hi hv
      refine hl_iload h 4 dL_booked_5 rfl ?_
      refine hl_iload_n h 1 dL_booked_7 rfl ?_
      refine hl_icmp_ge_F h 33 dL_booked_8 (by decide) (by rw [hc]; exact nI_ge (by omega) (by omega)) ?_
      refine hl_iload_n h 3 dL_booked_11 rfl ?_
      refine hl_aload_n h 0 dL_booked_12 rfl ?_
      refine hl_iload h 4 dL_booked_13 rfl ?_
      refine hl_ildN h hl_lw_1 0 rfl (i) dL_booked_15 rfl (by omega) (by decide) ?_
      refine hl_iload_n h 2 dL_booked_16 rfl ?_
      refine hl_icmp_ne h 24 dL_booked_17 (by decide) (fun c1 => ?_) (fun c1 => ?_)
      · refine hl_iconst h 0 dL_booked_24 (by decide) ?_
        refine hl_iadd h dL_booked_25 ?_
        refine hl_istore_n h [(3, .int (u + 0)), (0, .ref (a 26)), (1, .int y), (2, .int z), (4, .int (nI i))] dL_booked_26 (by decide) rfl ?_
        refine hl_iinc h 4 (nI (i + 1)) [(4, .int (nI (i + 1))), (3, .int (u + 0)), (0, .ref (a 26)), (1, .int y), (2, .int z)] dL_booked_27 rfl (hl_inc i) (by decide) rfl ?_
        refine hl_goto h 5 dL_booked_30 (by decide) ?_
        refine hl_lsub [2, 3, 4, 1, 0] rfl ?_
        exact ih (i + 1) (u + 0) (by omega) (by rw [← hv, hl_it_s] <;> (congr 1 <;> (first | (simp [b_L_booked, c1]; done) | (symm; simp [b_L_booked, c1]))))
      · refine hl_iconst h 1 dL_booked_20 (by decide) ?_
        refine hl_goto h 25 dL_booked_21 (by decide) ?_
        refine hl_iadd h dL_booked_25 ?_
        refine hl_istore_n h [(3, .int (u + 1)), (0, .ref (a 26)), (1, .int y), (2, .int z), (4, .int (nI i))] dL_booked_26 (by decide) rfl ?_
        refine hl_iinc h 4 (nI (i + 1)) [(4, .int (nI (i + 1))), (3, .int (u + 1)), (0, .ref (a 26)), (1, .int y), (2, .int z)] dL_booked_27 rfl (hl_inc i) (by decide) rfl ?_
        refine hl_goto h 5 dL_booked_30 (by decide) ?_
        refine hl_lsub [2, 3, 4, 1, 0] rfl ?_
        exact ih (i + 1) (u + 1) (by omega) (by rw [← hv, hl_it_s] <;> (congr 1 <;> (first | (simp [b_L_booked, c1]; done) | (symm; simp [b_L_booked, c1]))))
  refine hl_lsub [2, 3, 4, 1, 0] rfl ?_
  exact lp5 N 0 0 (Nat.zero_add N) rfl
end
section
/-! p23: what holds between the class's contents g and the law's own r, behind cn of its steps. lin: the linen bought; P: the coins received. t: a second picture of the class, there for the bounds that hl_R keeps -/
def hp_lin (g : Nat → Nat → Int32) (k : Nat) : Int32 := g 3 k + (g 4 k + g 5 k + g 6 k + g 7 k)
def hp_lins (g : Nat → Nat → Int32) : Int32 := 0 + hp_lin g 0 + hp_lin g 1 + hp_lin g 2 + hp_lin g 3
def hp_pur (f : Nat → Int32) : Int32 := 0 + f 0 + f 1 + f 2 + f 3
def hp_B (g r : Nat → Nat → Int32) (N T : Nat) : Prop := (∀ b, b < N → ∃ n i k : Nat, n < 400 ∧ i < 4 ∧ k < 2 ∧ g 13 b = nI n ∧ g 11 b = nI i ∧ g 12 b = nI k ∧ r 1 b = nI (8 * n + 2 * i + k) ∧ r 2 b = g 10 b ∧ vp_in (g 10 b) 10 ∧ r 3 b = g 14 b ∧ (g 14 b = 0 ∧ g 15 b = -1 ∨ g 14 b = 1 ∧ n ≤ T)) ∧ ∀ b, N ≤ b → (b < 80 → g 14 b = 0) ∧ (b < 60 → r 3 b = 0)
def hp_S (g : Nat → Nat → Int32) (N T : Nat) : Prop := ∀ i k, i < 4 → k < 2 → g 2 (i * 2 + k) = hl_it (b_X0_sleepersAt g (nI i) (nI k) (nI T)) 0 N 0
def hp_J (cn : Nat) (lin : Int32) (N M T P : Nat) (t g r : Nat → Nat → Int32) : Prop := cn ≤ 100 ∧ hl_R (2 * cn) N M T g t ∧ N ≤ cn ∧ T ≤ cn ∧ hp_B g r N T ∧ hp_S g N T ∧ (∀ j, j < 8 → r 0 j = g 0 j) ∧ hp_lins g = lin ∧ hp_pur (g 21) = nI P ∧ P ≤ 100 * cn ∧ N ≤ 60
def hp_I (cn : Nat) (lin : Int32) (g r : Nat → Nat → Int32) : Prop := ∃ (N M T P : Nat) (t : Nat → Nat → Int32), hp_J cn lin N M T P t g r
theorem hp_c0 : (nI 0).toNatClampNeg = 0 := nI_clamp (by omega)
theorem hp_c1 : (nI 1).toNatClampNeg = 1 := nI_clamp (by omega)
theorem hp_c2 : (nI 2).toNatClampNeg = 2 := nI_clamp (by omega)
theorem hp_c3 : (nI 3).toNatClampNeg = 3 := nI_clamp (by omega)
theorem hp_sum0 (g : Nat → Nat → Int32) : r_L_sum g 0 = hp_pur (g 21) := by
  show b_L_sum g 0 3 (b_L_sum g 0 2 (b_L_sum g 0 1 (b_L_sum g 0 0 0))) = _
  unfold b_L_sum hp_pur
  rw [if_pos rfl, if_pos rfl, if_pos rfl, if_pos rfl, hp_c0, hp_c1, hp_c2, hp_c3]
theorem hp_away (g : Nat → Nat → Int32) (k : Nat) (hk : k < 4) : r_X2_awayOf g (nI k) = g 4 k + g 5 k + g 6 k + g 7 k := by
  unfold r_X2_awayOf
  rw [nI_clamp (by omega)]
theorem hp_sum1 (g : Nat → Nat → Int32) : r_L_sum g 1 = hp_lins g := by
  show b_L_sum g 1 3 (b_L_sum g 1 2 (b_L_sum g 1 1 (b_L_sum g 1 0 0))) = _
  unfold b_L_sum hp_lins hp_lin
  rw [if_neg (by decide), if_neg (by decide), if_neg (by decide), if_neg (by decide), hp_c0, hp_c1, hp_c2, hp_c3, hp_away g 0 (by omega), hp_away g 1 (by omega), hp_away g 2 (by omega), hp_away g 3 (by omega)]
theorem hp_up2 {c N M T : Nat} {g t : Nat → Nat → Int32} (h : hl_R (2 * c + 1 + 1) N M T g t) : hl_R (2 * (c + 1)) N M T g t := by
  rw [show 2 * (c + 1) = 2 * c + 1 + 1 by omega]
  exact h
theorem hp_up1 {c N M T : Nat} {g t : Nat → Nat → Int32} (hc : c < 100) (h : hl_R (2 * c + 1) N M T g t) : hl_R (2 * (c + 1)) N M T g t := hp_up2 (hl_R_up (by omega) h)
theorem hp_ix {I K : Nat} (hI : I < 4) (hK : K < 2) : (nI I * 2 + nI K).toNatClampNeg = 2 * I + K := by
  show (nI I * nI 2 + nI K).toNatClampNeg = _
  rw [pk_mul, nI_add, nI_clamp (by omega)]
  omega
theorem hp_rooms {g r : Nat → Nat → Int32} {I K : Nat} (h : ∀ j, j < 8 → r 0 j = g 0 j) (hI : I < 4) (hK : K < 2) : g 0 (nI I * 2 + nI K).toNatClampNeg = r 0 (2 * I + K) := by
  rw [hp_ix hI hK, h _ (by omega)]
theorem hp_buy (g : Nat → Nat → Int32) (x : Int32) (w : Nat) : f_X2_addClean g x (nI (1 + w)) 3 x.toNatClampNeg = g 3 x.toNatClampNeg + 1 + nI w := by
  show upd (g 3) x.toNatClampNeg (g 3 x.toNatClampNeg + nI (1 + w)) x.toNatClampNeg = _
  rw [hl_upd_at, ← nI_add, Int32.add_assoc]
  rfl
theorem hp_add10 (T : Nat) : nI T + 10 = nI (T + 10) := nI_add T 10
theorem hp_mark8 {n i k : Nat} (hn : 8 * n + 2 * i + k < 2147483648) (hi : i < 4) (hk : k < 2) : nI (8 * n + 2 * i + k) / 8 = nI n := by
  refine (pk_div (a := 8 * n + 2 * i + k) (d := 8) (by omega) (by omega) (by omega)).trans ?_
  rw [show (8 * n + 2 * i + k) / 8 = n by omega]
theorem hp_sub3 {H q : Nat} (h : 1 + q ≤ H) (hH : H < 2147483648) : nI (H - (1 + q)) = nI H - 1 - nI q := by
  have e : nI H = nI (H - (1 + q)) + (1 + nI q) := by
    show _ = _ + (nI 1 + nI q)
    rw [nI_add, nI_add, show H - (1 + q) + (1 + q) = H by omega]
  rw [e]
  grind
section HPS
variable {cn : Nat} {lin : Int32} {N M T P : Nat} {t g r : Nat → Nat → Int32}
theorem hp_skip (hc : cn < 100) (hJ : hp_J cn lin N M T P t g r) : hp_I (cn + 1) lin g r := by
  obtain ⟨j0, jR, jN, jT, jB, jS, jrm, jl, jp, jP, j60⟩ := hJ
  exact ⟨N, M, T, P, t, by omega, hp_up1 hc (hl_R_up (by omega) jR), by omega, by omega, jB, jS, jrm, jl, jp, by omega, j60⟩
theorem hp_setRooms {I K n q : Nat} (hc : cn < 100) (hJ : hp_J cn lin N M T P t g r) (hI : I < 4) (hK : K < 2) (hn : n ≤ 10) (hq : 1 ≤ q) (hq2 : q ≤ 100) :
    hp_I (cn + 1) lin (f_X4_change g (nI I) (nI K) (nI n) (nI q)) (hl_su r 0 (upd (r 0) (2 * I + K) (nI n))) := by
  obtain ⟨j0, jR, jN, jT, jB, jS, jrm, jl, jp, jP, j60⟩ := hJ
  refine ⟨N, M, T, P, _, by omega, hp_up1 hc (hl_R_setRooms (by omega) jR (nI_pos (by omega)) (nI_le (b := 10) hn (by omega)) (nI_nlt (b := 1) hq (by omega)) (nI_le (b := 100) hq2 (by omega))), by omega, by omega, jB, jS, fun j hj => ?_, jl, jp, by omega, j60⟩
  show upd (r 0) (2 * I + K) (nI n) j = upd (g 0) (nI I * 2 + nI K).toNatClampNeg (nI n) j
  rw [hp_ix hI hK]
  unfold upd
  split
  · rfl
  · exact jrm j hj
theorem hp_lins3 {I : Nat} (hI : I < 4) (n : Int32) : hp_lins (f_X2_addClean g (nI I) n) = hp_lins g + n := by
  show 0 + (upd (g 3) (nI I).toNatClampNeg (g 3 (nI I).toNatClampNeg + n) 0 + (g 4 0 + g 5 0 + g 6 0 + g 7 0)) + (upd (g 3) (nI I).toNatClampNeg (g 3 (nI I).toNatClampNeg + n) 1 + (g 4 1 + g 5 1 + g 6 1 + g 7 1)) + (upd (g 3) (nI I).toNatClampNeg (g 3 (nI I).toNatClampNeg + n) 2 + (g 4 2 + g 5 2 + g 6 2 + g 7 2)) + (upd (g 3) (nI I).toNatClampNeg (g 3 (nI I).toNatClampNeg + n) 3 + (g 4 3 + g 5 3 + g 6 3 + g 7 3)) = _
  rw [nI_clamp (by omega)]
  unfold hp_lins hp_lin
  rcases (show I = 0 ∨ I = 1 ∨ I = 2 ∨ I = 3 by omega) with rfl | rfl | rfl | rfl <;> simp [upd] <;> grind
theorem hp_buyLinen {I n : Nat} (hc : cn < 100) (hJ : hp_J cn lin N M T P t g r) (hI : I < 4) : hp_I (cn + 1) (lin + nI n) (f_X2_addClean g (nI I) (nI n)) r := by
  obtain ⟨j0, jR, jN, jT, jB, jS, jrm, jl, jp, jP, j60⟩ := hJ
  exact ⟨N, M, T, P, _, by omega, hp_up1 hc (hl_R_buyLinen (by omega) jR), by omega, by omega, jB, jS, jrm, by rw [hp_lins3 hI, jl], jp, by omega, j60⟩
theorem hp_setBroken {x : Int32} (hc : cn < 100) (hJ : hp_J cn lin N M T P t g r) (hx : x = 0 ∨ x = 1) : hp_I (cn + 1) lin (hl_su (hl_su g 8 (fun _ => x)) 8 (fun _ => x)) r := by
  obtain ⟨j0, jR, jN, jT, jB, jS, jrm, jl, jp, jP, j60⟩ := hJ
  exact ⟨N, M, T, P, _, by omega, hp_up2 (hl_R_setBroken (by omega) (hl_R_setBroken (by omega) jR hx) hx), by omega, by omega, jB, jS, jrm, jl, jp, by omega, j60⟩
theorem hp_takes {I K n : Nat} (hJ : hp_J cn lin N M T P t g r) (hI : I < 4) (hK : K < 2) (hn : n < 400) (h : ¬ r 0 (2 * I + K) + r_X5_extraOf g N (nI I) ≤ r_L_booked r N (nI (8 * n + 2 * I + K))) : ¬ r_X5_takesMore g N (nI I) (nI K) (nI n) = 0 := by
  obtain ⟨j0, jR, jN, jT, jB, jS, jrm, jl, jp, jP, j60⟩ := hJ
  have e : hl_it (b_X0_countFor g (nI I) (nI K) (nI n)) 0 N 0 = r_L_booked r N (nI (8 * n + 2 * I + K)) := by
    refine hl_it_congr _ _ N 0 (fun b u hb => ?_)
    obtain ⟨n', i, k, hn4, hi4, hk2, b13, b11, b12, br1, -⟩ := jB.1 b hb
    unfold b_X0_countFor b_L_booked
    have q1 : nI i = nI I ↔ i = I := nI_eq (by omega) (by omega)
    have q2 : nI k = nI K ↔ k = K := nI_eq (by omega) (by omega)
    have q3 : nI n' = nI n ↔ n' = n := nI_eq (by omega) (by omega)
    have q4 : nI (8 * n' + 2 * i + k) = nI (8 * n + 2 * I + K) ↔ 8 * n' + 2 * i + k = 8 * n + 2 * I + K := nI_eq (by omega) (by omega)
    rw [b11, b12, b13, br1]
    simp only [q1, q2, q3, q4, Int32.add_zero]
    by_cases hq : i = I ∧ k = K ∧ n' = n
    · rw [if_pos hq, if_pos (by omega)]
    · rw [if_neg hq, if_neg (by omega)]
  unfold r_X5_takesMore
  rw [e, hp_rooms jrm hI hK, if_neg h]
  decide
theorem hp_bed (g : Nat → Nat → Int32) {N : Nat} {x y z v : Int32} (hcc : g 16 0 = nI N) (hN : N < 100) : f_X0_add g x y z v 15 (nI N).toNatClampNeg = -1 := by
  show upd (g 15) (g 16 0).toNatClampNeg (-1) (nI N).toNatClampNeg = -1
  rw [hcc, hl_upd_at]
theorem hp_m1 {i : Nat} (hi : i < 4) : ¬ (-1 : Int32) = nI i := fun z => hl_nIm1 (i := i) (by omega) z.symm
theorem hp_book {I K n H : Nat} (hc : cn < 100) (hJ : hp_J cn lin N M T P t g r) (hN6 : N < 60) (hI : I < 4) (hK : K < 2) (hn : T ≤ n ∧ n ≤ T + 10) (hH : H < 10) :
    hp_I (cn + 1) lin (f_X0_add g (nI H) (nI I) (nI K) (nI n)) (hl_su (hl_su r 1 (upd (r 1) N (nI (8 * n + 2 * I + K)))) 2 (upd ((hl_su r 1 (upd (r 1) N (nI (8 * n + 2 * I + K)))) 2) N (nI H))) := by
  obtain ⟨j0, jR, jN, jT, jB, jS, jrm, jl, jp, jP, j60⟩ := hJ
  have h23 : g 23 0 = nI T := jR.2.1.2
  have h16 : (g 16 0).toNatClampNeg = N := by rw [jR.1.2.1, nI_clamp (by omega)]
  have hR := hl_R_book (by omega) jR (x := nI H) (y := nI I) (z := nI K) (v := nI n) (vp_in_nI hI (by decide)) (vp_in_nI hK (by decide)) (by rw [h23]; exact nI_nlt hn.1 (by omega)) (by rw [h23, hp_add10]; exact nI_le hn.2 (by omega)) (by omega)
  have e10 : f_X0_add g (nI H) (nI I) (nI K) (nI n) 10 = upd (g 10) N (nI H) := by rw [← h16]; rfl
  have e11 : f_X0_add g (nI H) (nI I) (nI K) (nI n) 11 = upd (g 11) N (nI I) := by rw [← h16]; rfl
  have e12 : f_X0_add g (nI H) (nI I) (nI K) (nI n) 12 = upd (g 12) N (nI K) := by rw [← h16]; rfl
  have e13 : f_X0_add g (nI H) (nI I) (nI K) (nI n) 13 = upd (g 13) N (nI n) := by rw [← h16]; rfl
  have e15 : f_X0_add g (nI H) (nI I) (nI K) (nI n) 15 = upd (g 15) N (-1) := by rw [← h16]; rfl
  have e14 : f_X0_add g (nI H) (nI I) (nI K) (nI n) 14 = g 14 := rfl
  have e2 : f_X0_add g (nI H) (nI I) (nI K) (nI n) 2 = g 2 := rfl
  have hl9 : hp_lins (f_X0_add g (nI H) (nI I) (nI K) (nI n)) = lin := jl
  have hp9 : hp_pur (f_X0_add g (nI H) (nI I) (nI K) (nI n) 21) = nI P := jp
  have hrm9 : ∀ j, j < 8 → r 0 j = f_X0_add g (nI H) (nI I) (nI K) (nI n) 0 j := jrm
  generalize f_X0_add g (nI H) (nI I) (nI K) (nI n) = G at *
  refine ⟨N + 1, M, T, P, _, by omega, hp_up1 hc hR, by omega, by omega, ⟨fun b hb => ?_, fun b hb => ?_⟩, fun i k hi hk => ?_, hrm9, hl9, hp9, by omega, by omega⟩
  · show ∃ n' i k : Nat, n' < 400 ∧ i < 4 ∧ k < 2 ∧ G 13 b = nI n' ∧ G 11 b = nI i ∧ G 12 b = nI k ∧ upd (r 1) N (nI (8 * n + 2 * I + K)) b = nI (8 * n' + 2 * i + k) ∧ upd (r 2) N (nI H) b = G 10 b ∧ vp_in (G 10 b) 10 ∧ r 3 b = G 14 b ∧ (G 14 b = 0 ∧ G 15 b = -1 ∨ G 14 b = 1 ∧ n' ≤ T)
    rw [e10, e11, e12, e13, e14, e15]
    by_cases hbN : b = N
    · subst hbN
      obtain ⟨q1, q2⟩ := jB.2 b (Nat.le_refl b)
      rw [hl_upd_at, hl_upd_at, hl_upd_at, hl_upd_at, hl_upd_at, hl_upd_at, hl_upd_at]
      exact ⟨n, I, K, by omega, hI, hK, rfl, rfl, rfl, rfl, rfl, vp_in_nI hH (by decide), by rw [q1 (by omega), q2 (by omega)], Or.inl ⟨q1 (by omega), rfl⟩⟩
    · rw [hl_upd_ne _ _ hbN, hl_upd_ne _ _ hbN, hl_upd_ne _ _ hbN, hl_upd_ne _ _ hbN, hl_upd_ne _ _ hbN, hl_upd_ne _ _ hbN, hl_upd_ne _ _ hbN]
      exact jB.1 b (by omega)
  · rw [e14]
    exact jB.2 b (by omega)
  · rw [e2, jS i k hi hk, hl_it_snoc, Nat.zero_add]
    have q : b_X0_sleepersAt G (nI i) (nI k) (nI T) N (hl_it (b_X0_sleepersAt G (nI i) (nI k) (nI T)) 0 N 0) = hl_it (b_X0_sleepersAt G (nI i) (nI k) (nI T)) 0 N 0 := by
      show (if G 15 N = nI i ∧ G 12 N = nI k ∧ G 13 N = nI T then _ else _) = _
      rw [if_neg (fun z => hp_m1 hi (by rw [← z.1, e15, hl_upd_at]))]
    rw [q]
    refine hl_it_congr _ _ N 0 (fun b u hb => ?_)
    unfold b_X0_sleepersAt
    rw [e12, e13, e15, hl_upd_ne _ _ (by omega), hl_upd_ne _ _ (by omega), hl_upd_ne _ _ (by omega)]
end HPS
end
section
/-! p23: a guest comes -/
theorem hp_nat {z : Int32} {b : Nat} (h : 0 ≤ z.toInt ∧ z.toInt ≤ b) : ∃ q : Nat, q ≤ b ∧ z = nI q := by
  have h2 := Int32.toInt_lt z
  refine ⟨z.toInt.toNat, by omega, ?_⟩
  apply Int32.toInt_inj.mp
  rw [nI_toInt (by omega)]
  omega
theorem hp_points {c N M T : Nat} {g t : Nat → Nat → Int32} (h : hl_R c N M T g t) (x : Int32) : ∃ H : Nat, H ≤ 800 ∧ hl_it (b_X3_ofGuest g x) 0 M 0 = nI H := by
  have hM : M ≤ 80 := h.1.2.2.1
  have hb : hl_bd (g 19) M 0 10 := h.2.2.2.2.2.2.2.2.2.2.2.2.2.1
  have key := hl_it_inv (fun n (u : Int32) => n ≤ M → ∃ H : Nat, H ≤ 10 * n ∧ u = nI H) (b_X3_ofGuest g x) M 0 (fun _ => ⟨0, by omega, rfl⟩) (fun n u hn hu _ => by
    obtain ⟨H, h1, h2⟩ := hu (by omega)
    obtain ⟨q, h3, h4⟩ := hp_nat (b := 10) (hb n hn)
    unfold b_X3_ofGuest
    by_cases hx : g 17 n = x
    · rw [if_pos hx, h2, h4, nI_add]
      exact ⟨H + q, by omega, rfl⟩
    · rw [if_neg hx]
      exact ⟨H, by omega, h2⟩)
  obtain ⟨H, h1, h2⟩ := key (Nat.le_refl M)
  exact ⟨H, by omega, h2⟩
theorem hp_purs {h : Nat} (hh : h < 4) (f : Nat → Int32) (q : Int32) : hp_pur (upd f h (f h + q)) = hp_pur f + q := by
  unfold hp_pur
  rcases (show h = 0 ∨ h = 1 ∨ h = 2 ∨ h = 3 by omega) with rfl | rfl | rfl | rfl <;> simp [upd] <;> grind
theorem hp_lins34 {G g : Nat → Nat → Int32} {w rr : Nat} (hw : w < 4) (hr : rr < 4) (e3 : G 3 = upd (g 3) rr (g 3 rr - 1)) (e4 : G 4 = upd (g 4) w (g 4 w + 1)) (e5 : G 5 = g 5) (e6 : G 6 = g 6) (e7 : G 7 = g 7) : hp_lins G = hp_lins g := by
  unfold hp_lins hp_lin
  rw [e3, e4, e5, e6, e7]
  rcases (show w = 0 ∨ w = 1 ∨ w = 2 ∨ w = 3 by omega) with rfl | rfl | rfl | rfl <;> rcases (show rr = 0 ∨ rr = 1 ∨ rr = 2 ∨ rr = 3 by omega) with rfl | rfl | rfl | rfl <;> simp [upd] <;> grind
theorem hp_arr {G g r : Nat → Nat → Int32} {N T j : Nat} {v : Int32} (e10 : G 10 = g 10) (e11 : G 11 = g 11) (e12 : G 12 = g 12) (e13 : G 13 = g 13) (e14 : G 14 = upd (g 14) j 1) (e15 : G 15 = upd (g 15) j v) (hj : j < N) (h13 : g 13 j = nI T) (hT : T < 400) (jB : hp_B g r N T) : hp_B G (hl_su r 3 (upd (r 3) j 1)) N T := by
  refine ⟨fun b hb => ?_, fun b hb => ?_⟩
  · show ∃ n i k : Nat, n < 400 ∧ i < 4 ∧ k < 2 ∧ G 13 b = nI n ∧ G 11 b = nI i ∧ G 12 b = nI k ∧ r 1 b = nI (8 * n + 2 * i + k) ∧ r 2 b = G 10 b ∧ vp_in (G 10 b) 10 ∧ upd (r 3) j 1 b = G 14 b ∧ (G 14 b = 0 ∧ G 15 b = -1 ∨ G 14 b = 1 ∧ n ≤ T)
    obtain ⟨n, i, k, hn4, hi4, hk2, b13, b11, b12, br1, br2, b10, br3, bc⟩ := jB.1 b hb
    rw [e10, e11, e12, e13, e14, e15]
    by_cases hbj : b = j
    · subst hbj
      rw [hl_upd_at, hl_upd_at, hl_upd_at]
      have hnT : n = T := (nI_eq (by omega) (by omega)).mp (b13.symm.trans h13)
      exact ⟨n, i, k, hn4, hi4, hk2, b13, b11, b12, br1, br2, b10, rfl, Or.inr ⟨rfl, by omega⟩⟩
    · rw [hl_upd_ne _ _ hbj, hl_upd_ne _ _ hbj, hl_upd_ne _ _ hbj]
      exact ⟨n, i, k, hn4, hi4, hk2, b13, b11, b12, br1, br2, b10, br3, bc⟩
  · show (b < 80 → G 14 b = 0) ∧ (b < 60 → upd (r 3) j 1 b = 0)
    rw [e14, hl_upd_ne _ _ (by omega), hl_upd_ne _ _ (by omega)]
    exact jB.2 b hb
theorem hp_slp {G g : Nat → Nat → Int32} {T j i k : Nat} {v : Int32} (e12 : G 12 = g 12) (e13 : G 13 = g 13) (e15 : G 15 = upd (g 15) j v) (hb : g 15 j = -1) (hi : i < 4) : ∀ n, hl_it (b_X0_sleepersAt G (nI i) (nI k) (nI T)) 0 n 0 = hl_it (b_X0_sleepersAt g (nI i) (nI k) (nI T)) 0 n 0 + (if j < n ∧ v = nI i ∧ g 12 j = nI k ∧ g 13 j = nI T then 1 else 0) := by
  intro n
  induction n with
  | zero =>
    rw [if_neg (fun z => Nat.not_lt_zero _ z.1)]
    rfl
  | succ n ih =>
    rw [hl_it_snoc, hl_it_snoc, Nat.zero_add, ih]
    generalize hl_it (b_X0_sleepersAt g (nI i) (nI k) (nI T)) 0 n 0 = X
    show (if G 15 n = nI i ∧ G 12 n = nI k ∧ G 13 n = nI T then X + _ + 1 else X + _) = (if g 15 n = nI i ∧ g 12 n = nI k ∧ g 13 n = nI T then X + 1 else X) + _
    rw [e12, e13, e15]
    by_cases hn : n = j
    · subst hn
      rw [hl_upd_at, hb, if_neg (fun z => hp_m1 hi z.1 : ¬ ((-1 : Int32) = nI i ∧ g 12 n = nI k ∧ g 13 n = nI T)), if_neg (fun z => Nat.lt_irrefl _ z.1 : ¬ (n < n ∧ v = nI i ∧ g 12 n = nI k ∧ g 13 n = nI T)), Int32.add_zero]
      by_cases hq : v = nI i ∧ g 12 n = nI k ∧ g 13 n = nI T
      · rw [if_pos hq, if_pos ⟨Nat.lt_succ_self n, hq⟩]
      · rw [if_neg hq, if_neg (fun z => hq z.2), Int32.add_zero]
    · rw [hl_upd_ne _ _ hn]
      have e : (if j < n ∧ v = nI i ∧ g 12 j = nI k ∧ g 13 j = nI T then (1 : Int32) else 0) = (if j < n + 1 ∧ v = nI i ∧ g 12 j = nI k ∧ g 13 j = nI T then 1 else 0) := by
        by_cases hq : j < n ∧ v = nI i ∧ g 12 j = nI k ∧ g 13 j = nI T
        · rw [if_pos hq, if_pos ⟨by omega, hq.2⟩]
        · rw [if_neg hq, if_neg (fun z => hq ⟨by omega, z.2⟩)]
      rw [← e]
      generalize (if j < n ∧ v = nI i ∧ g 12 j = nI k ∧ g 13 j = nI T then (1 : Int32) else 0) = Y
      split
      · grind
      · rfl
theorem hp_pts {G g : Nat → Nat → Int32} {M : Nat} {x q : Int32} (e17 : G 17 = upd (g 17) M x) (e19 : G 19 = upd (g 19) M q) : hl_it (b_X3_ofGuest G x) 0 (M + 1) 0 = hl_it (b_X3_ofGuest g x) 0 M 0 + q := by
  have e : hl_it (b_X3_ofGuest G x) 0 M 0 = hl_it (b_X3_ofGuest g x) 0 M 0 := hl_it_congr _ _ M 0 (fun k u hk => by
    unfold b_X3_ofGuest
    rw [e17, e19, hl_upd_ne _ _ (by omega), hl_upd_ne _ _ (by omega)])
  rw [hl_it_snoc, Nat.zero_add, e]
  unfold b_X3_ofGuest
  rw [e17, e19, hl_upd_at, hl_upd_at, if_pos rfl]
theorem hp_pg {c N M T : Nat} {g t : Nat → Nat → Int32} (h : hl_R c N M T g t) (x : Int32) {w : Nat} (hw : w < 4) (hL : ¬ ∀ k, k < 4 → g 3 k ≤ 0) (h20 : g 20 0 < 80) :
    ∃ (rr : Nat) (f22 f9 : Nat → Int32), rr < 4 ∧ hl_pg g x (g 11 x.toNatClampNeg) (g 12 x.toNatClampNeg) (nI w) (nI rr) f22 f9 (f_X5_putUp g x (nI w)) := by
  have e3 : g 3 = t 3 := h.2.2.1.2.2.2.1
  by_cases hO : g 3 (nI w).toNatClampNeg ≤ 0
  · obtain ⟨r, hr, er, er2, er3⟩ := hl_rich_spec t
    have hgr : r_X2_giverFor g (nI w) = nI r := by
      unfold r_X2_giverFor
      rw [if_pos hO, hl_giver_rich e3 hL, er]
    have hrv : ¬ nI r = nI w := by
      intro z
      refine hL (fun k hk => ?_)
      rw [nI_eq (by omega) (by omega)] at z
      subst z
      rw [nI_clamp (by omega)] at hO
      rw [e3]
      rw [e3] at hO
      exact hl_i32_le_trans (er2 k hk) hO
    exact ⟨r, _, _, hr, hl_pu_borrow rfl rfl hgr (hl_nIm1 (by omega)) hrv h20⟩
  · exact ⟨w, _, _, hw, hl_pu_own rfl rfl (hl_nIm1 (by omega)) hO h20⟩
section HPC
variable {cn : Nat} {lin : Int32} {N M T P : Nat} {t g r : Nat → Nat → Int32}
set_option maxHeartbeats 1000000 in
theorem hp_come {j : Nat} {v : Int32} (hc : cn < 100) (hJ : hp_J cn lin N M T P t g r) (hj : j < N) (h13 : g 13 j = nI T) (h14 : g 14 j = 0) (h10 : vp_in (g 10 j) 10) (ev : v = r_X5_findInn g (g 11 (nI j).toNatClampNeg) (g 12 (nI j).toNatClampNeg)) :
    ∃ M2 : Nat, hl_ok (f_X5_come g (nI j)) N M2 ∧ f_X5_come g (nI j) 15 (nI j).toNatClampNeg = v ∧ ¬ hl_it (b_X3_ofGuest (f_X5_come g (nI j)) (g 10 j)) 0 M2 0 < hl_it (b_X3_ofGuest g (g 10 j)) 0 M 0 ∧ (v < 0 → r_L_sum (f_X5_come g (nI j)) 0 = r_L_sum g 0) ∧ (¬ v < 0 → ¬ r_L_sum (f_X5_come g (nI j)) 0 ≤ r_L_sum g 0) ∧ hp_I (cn + 1) lin (f_X5_come g (nI j)) (hl_su r 3 (upd (r 3) j 1)) := by
  obtain ⟨j0, jR, jN, jT, jB, jS, jrm, jl, jp, jP, j60⟩ := hJ
  have hjc : (nI j).toNatClampNeg = j := nI_clamp (by omega)
  obtain ⟨n, i, k, hn4, hi4, hk2, b13, b11, b12, br1, br2, b10, br3, bc⟩ := jB.1 j hj
  have hbed : g 15 j = -1 := (bc.resolve_right (fun z => by rw [h14] at z; exact absurd z.1 (by decide))).2
  have h23 : g 23 0 = nI T := jR.2.1.2
  have ha := hl_R_arrive (x := nI j) (v := v) jR (by rw [hjc]; exact hj) (by rw [hjc, h13, h23]) (by rw [hjc]; exact h14)
  have hG : f_X5_come g (nI j) = if v = -1 then f_X0_arrive g (nI j) v else f_X5_putUp (f_X0_arrive g (nI j) v) (nI j) v := by
    unfold f_X5_come
    dsimp only
    rw [← ev]
  have a14 : f_X0_arrive g (nI j) v 14 = upd (g 14) j 1 := by
    show upd (g 14) (nI j).toNatClampNeg 1 = _
    rw [hjc]
  have a15 : f_X0_arrive g (nI j) v 15 = upd (g 15) j v := by
    show upd (g 15) (nI j).toNatClampNeg v = _
    rw [hjc]
  by_cases hv : v = -1
  · rw [hG, if_pos hv]
    refine ⟨M, ha.1.1, ?_, ?_, fun _ => ?_, fun z => absurd (by rw [hv]; decide) z, N, M, T, P, _, by omega, hp_up1 hc (hl_R_up (by omega) ha.1), by omega, by omega, hp_arr (g := g) rfl rfl rfl rfl a14 a15 hj h13 (by omega) jB, fun i' k' hi' hk' => ?_, jrm, jl, jp, by omega, j60⟩
    · rw [a15, hjc, hl_upd_at]
    · have e : hl_it (b_X3_ofGuest (f_X0_arrive g (nI j) v) (g 10 j)) 0 M 0 = hl_it (b_X3_ofGuest g (g 10 j)) 0 M 0 := hl_it_congr _ _ M 0 (fun k u _ => rfl)
      rw [e]
      intro z
      have z2 := Int32.lt_iff_toInt_lt.mp z
      omega
    · rw [hp_sum0, hp_sum0]
      rfl
    · show g 2 (i' * 2 + k') = _
      rw [hp_slp (G := f_X0_arrive g (nI j) v) (g := g) (v := v) (j := j) rfl rfl a15 hbed hi' N, if_neg (fun z => hp_m1 hi' (by rw [← hv]; exact z.2.1)), Int32.add_zero]
      exact jS i' k' hi' hk'
  · rw [hG, if_neg hv]
    have hr : vp_in (g 11 j) 4 ∧ vp_in (g 12 j) 2 := jR.1.2.2.2.2.1 j hj
    rw [hjc] at ev
    have hf := hl_R_find jR hr.1 hr.2
    have hL : ¬ ∀ k, k < 4 → g 3 k ≤ 0 := by
      rw [show g 3 = t 3 from jR.2.2.1.2.2.2.1]
      exact hl_find_L (by rw [← hf, ← ev]; exact hv)
    have hv4 : vp_in v 4 := by
      rw [ev] at hv ⊢
      exact (hl_find_in g _ _).resolve_left hv
    obtain ⟨w, hw, rfl⟩ := vp_in_of hv4 (by decide)
    have hMN : M < 80 := by
      have q := hl_cnt_le ((f_X0_arrive g (nI j) (nI w)) 14) N
      have q2 := ha.2
      omega
    have h20 : g 20 0 = nI M := jR.1.2.2.2.1
    have hR2 := hl_R_putUp (by omega) ha.1 ha.2 rfl rfl (by rw [hjc]; exact hr.1) (by rw [hjc]; exact hr.2) hv4 hL
    obtain ⟨rr, f22, f9, hrr, hpg⟩ := hp_pg ha.1 (nI j) hw hL (by show g 20 0 < 80; rw [h20]; exact nI_lt (b := 80) hMN (by decide))
    have a11 : f_X0_arrive g (nI j) (nI w) 11 = g 11 := rfl
    have a12 : f_X0_arrive g (nI j) (nI w) 12 = g 12 := rfl
    have hk0 : vp_in (nI k) 2 := vp_in_nI hk2 (by decide)
    generalize f_X5_putUp (f_X0_arrive g (nI j) (nI w)) (nI j) (nI w) = G at *
    obtain ⟨⟨p0, p1, p5, p6, p7, p8, p10, p11, p12, p13, p14, p15, p16, p23⟩, p21, p22, p3, p4, p9, p2, p17, p18, p19, p20⟩ := hpg
    simp only [a11, a12, hjc, b11, b12] at p21 p2 p17 p19
    have c17 : G 17 = upd (g 17) M (g 10 j) := by
      rw [p17]
      show upd (g 17) (g 20 0).toNatClampNeg (g 10 j) = _
      rw [h20, nI_clamp (by omega)]
    have c19 : G 19 = upd (g 19) M (g 1 (nI w * 2 + nI k).toNatClampNeg / 10) := by
      rw [p19]
      show upd (g 19) (g 20 0).toNatClampNeg (g 1 (nI w * 2 + nI k).toNatClampNeg / 10) = _
      rw [h20, nI_clamp (by omega)]
    have c21 : G 21 = upd (g 21) i (g 21 i + g 1 (2 * i + k)) := by
      rw [p21]
      show upd (g 21) (nI i).toNatClampNeg (g 21 (nI i).toNatClampNeg + g 1 (nI i * 2 + nI k).toNatClampNeg) = _
      rw [nI_clamp (by omega), hp_ix hi4 hk2]
    have c2 : G 2 = upd (g 2) (2 * w + k) (g 2 (2 * w + k) + 1) := by
      rw [p2]
      show upd (g 2) (nI w * 2 + nI k).toNatClampNeg (g 2 (nI w * 2 + nI k).toNatClampNeg + 1) = _
      rw [hp_ix hw hk2]
    have c3 : G 3 = upd (g 3) rr (g 3 rr - 1) := by
      rw [p3, nI_clamp (by omega)]
      rfl
    have c4 : G 4 = upd (g 4) w (g 4 w + 1) := by
      rw [p4, nI_clamp (by omega)]
      rfl
    have hpr : hl_bd (g 1) 8 1 100 := jR.2.2.2.2.2.2.2.2.2.1
    obtain ⟨q, hq1, hq2⟩ := hp_nat (z := g 1 (2 * i + k)) (b := 100) (by have z := hpr (2 * i + k) (by omega); omega)
    have hq3 : 1 ≤ q := by
      have z := (hpr (2 * i + k) (by omega)).1
      rw [hq2, nI_toInt (by omega)] at z
      omega
    have hsum : r_L_sum G 0 = nI (P + q) := by
      rw [hp_sum0, c21, hp_purs hi4, jp, hq2, nI_add]
    refine ⟨M + 1, hR2.1, ?_, ?_, fun z => absurd z (nI_pos (by omega)), fun _ => ?_, N, M + 1, T, P + q, _, by omega, hp_up1 hc hR2, by omega, by omega, hp_arr (g := g) (v := nI w) (p10.trans rfl) (p11.trans rfl) (p12.trans rfl) (p13.trans rfl) (p14.trans a14) (p15.trans a15) hj h13 (by omega) jB, fun i' k' hi' hk' => ?_, fun z hz => (jrm z hz).trans (congrFun p0.symm z), ?_, ?_, by omega, j60⟩
    · rw [p15, a15, hjc, hl_upd_at]
    · obtain ⟨H, hH1, hH2⟩ := hp_points jR (g 10 j)
      obtain ⟨q', hq1', hq2'⟩ := hp_nat (z := g 1 (nI w * 2 + nI k).toNatClampNeg / 10) (b := 10) (hl_tenth (hpr _ (by rw [hp_ix hw hk2]; omega)))
      rw [hp_pts c17 c19, hH2, hq2', nI_add]
      exact nI_nlt (by omega) (by omega)
    · rw [hsum, hp_sum0, jp]
      exact nI_ge (by omega) (by omega)
    · rw [hp_slp (G := G) (g := g) (v := nI w) (j := j) (p12.trans rfl) (p13.trans rfl) (p15.trans a15) hbed hi' N, c2, b12, h13]
      by_cases hq : w = i' ∧ k = k'
      · obtain ⟨rfl, rfl⟩ := hq
        rw [if_pos ⟨hj, rfl, rfl, rfl⟩, show w * 2 + k = 2 * w + k by omega, hl_upd_at, ← jS w k hw hk2, show w * 2 + k = 2 * w + k by omega]
      · rw [if_neg (fun z => hq ⟨(nI_eq (by omega) (by omega)).mp z.2.1, (nI_eq (by omega) (by omega)).mp z.2.2.1⟩), hl_upd_ne _ _ (by omega), Int32.add_zero]
        exact jS i' k' hi' hk'
    · rw [hp_lins34 hw hrr c3 c4 (p5.trans rfl) (p6.trans rfl) (p7.trans rfl)]
      exact jl
    · rw [c21, hp_purs hi4, jp, hq2, nI_add]
end HPC
end
section
/-! p23: points are burned -/
def hp_ps (s : Nat → Int32) (x : Int32) (f : Nat → Int32) : Nat → Int
  | 0 => 0
  | n + 1 => hp_ps s x f n + (if s n = x then (f n).toInt else 0)
theorem hp_ps_eq (g : Nat → Nat → Int32) (x : Int32) : ∀ n, n ≤ 80 → hl_bd (g 19) n 0 10 → (hl_it (b_X3_ofGuest g x) 0 n 0).toInt = hp_ps (g 17) x (g 19) n ∧ 0 ≤ hp_ps (g 17) x (g 19) n ∧ hp_ps (g 17) x (g 19) n ≤ 10 * n := by
  intro n
  induction n with
  | zero =>
    intro _ _
    refine ⟨?_, Int.le_refl 0, by show (0 : Int) ≤ _; omega⟩
    show (0 : Int32).toInt = 0
    decide
  | succ n ih =>
    intro hn hb
    obtain ⟨h1, h2, h3⟩ := ih (by omega) (fun k hk => hb k (by omega))
    have h4 := hb n (Nat.lt_succ_self n)
    rw [hl_it_snoc, Nat.zero_add]
    show (if g 17 n = x then hl_it (b_X3_ofGuest g x) 0 n 0 + g 19 n else hl_it (b_X3_ofGuest g x) 0 n 0).toInt = hp_ps (g 17) x (g 19) n + (if g 17 n = x then (g 19 n).toInt else 0) ∧ 0 ≤ hp_ps (g 17) x (g 19) n + (if g 17 n = x then (g 19 n).toInt else 0) ∧ hp_ps (g 17) x (g 19) n + (if g 17 n = x then (g 19 n).toInt else 0) ≤ _
    by_cases hx : g 17 n = x
    · rw [if_pos hx, if_pos hx, hl_ti_add (by omega) (by omega), h1]
      omega
    · rw [if_neg hx, if_neg hx, h1]
      omega
theorem hp_ps_upd (s : Nat → Int32) (x : Int32) (f : Nat → Int32) (k : Nat) (y : Int32) : ∀ n, hp_ps s x (upd f k y) n = hp_ps s x f n + (if k < n ∧ s k = x then y.toInt - (f k).toInt else 0) := by
  intro n
  induction n with
  | zero =>
    rw [if_neg (fun z => Nat.not_lt_zero _ z.1)]
    rfl
  | succ n ih =>
    show hp_ps s x (upd f k y) n + (if s n = x then (upd f k y n).toInt else 0) = hp_ps s x f n + (if s n = x then (f n).toInt else 0) + _
    rw [ih]
    by_cases hk : n = k
    · subst hk
      rw [hl_upd_at, if_neg (fun z => Nat.lt_irrefl _ z.1 : ¬ (n < n ∧ s n = x))]
      by_cases hx : s n = x
      · rw [if_pos hx, if_pos hx, if_pos ⟨Nat.lt_succ_self n, hx⟩]
        omega
      · rw [if_neg hx, if_neg hx, if_neg (fun z => hx z.2)]
    · rw [hl_upd_ne _ _ hk]
      generalize (if s n = x then (f n).toInt else 0) = Y
      by_cases hq : k < n ∧ s k = x
      · rw [if_pos hq, if_pos ⟨by omega, hq.2⟩]
        omega
      · rw [if_neg hq, if_neg (fun z => hq ⟨by omega, z.2⟩)]
        omega
theorem hp_ps_0 (s : Nat → Int32) (x : Int32) (f : Nat → Int32) : ∀ n, (∀ k, k < n → s k = x → (f k).toInt = 0) → hp_ps s x f n = 0 := by
  intro n
  induction n with
  | zero => intro _; rfl
  | succ n ih =>
    intro h
    show hp_ps s x f n + (if s n = x then (f n).toInt else 0) = 0
    rw [ih (fun k hk => h k (by omega))]
    by_cases hx : s n = x
    · rw [if_pos hx, h n (Nat.lt_succ_self n) hx]
      rfl
    · rw [if_neg hx]
      rfl
def hp_bi (g : Nat → Nat → Int32) (M : Nat) (x : Int32) (q C : Int) (k : Nat) (z : (Nat → Nat → Int32) × Int32) : Prop :=
  0 ≤ z.2.toInt ∧ z.2.toInt ≤ q ∧ (∀ p, p ≠ 19 → p ≠ 22 → z.1 p = g p) ∧ hl_bd (z.1 19) M 0 10 ∧ hp_ps (g 17) x (z.1 19) M - z.2.toInt = C ∧ (0 < z.2.toInt → ∀ i, i < k → g 17 i = x → (z.1 19 i).toInt = 0)
theorem hp_bi_step {g : Nat → Nat → Int32} {M k : Nat} {x y : Int32} {q C : Int} {z : (Nat → Nat → Int32) × Int32} (hM : M ≤ 80) (hk : k < M) (hq : q ≤ 100) (h : hp_bi g M x q C k z) : hp_bi g M x q C (k + 1) (b_X5_burn x y k z) := by
  obtain ⟨G, n⟩ := z
  obtain ⟨z0, zq, zg, zb, zC, zz⟩ := h
  dsimp only at z0 zq zg zb zC zz
  have hL := zb k hk
  obtain ⟨G', a1, a2, a3, a4⟩ := hl_burn_cls (x := x) (y := y) (by omega : k < 80) hL.1 z0
  rw [a1]
  have g17 : G 17 = g 17 := zg 17 (by decide) (by decide)
  have hbt : 0 ≤ (hl_bt G n x k).toInt ∧ (hl_bt G n x k).toInt ≤ n.toInt ∧ (hl_bt G n x k).toInt ≤ (G 19 k).toInt ∧ (¬ g 17 k = x → (hl_bt G n x k).toInt = 0) ∧ (g 17 k = x → (hl_bt G n x k).toInt < n.toInt → (hl_bt G n x k).toInt = (G 19 k).toInt) := by
    unfold hl_bt
    rw [g17]
    by_cases hx : g 17 k = x
    · rw [if_pos hx]
      split
      · next hh => exact ⟨z0, Int.le_refl _, Int32.le_iff_toInt_le.mp hh, fun z => absurd hx z, fun _ z => absurd z (Int.lt_irrefl _)⟩
      · next hh =>
        have q2 : ¬ n.toInt ≤ (G 19 k).toInt := fun z => hh (Int32.le_iff_toInt_le.mpr z)
        exact ⟨hL.1, by omega, Int.le_refl _, fun z => absurd hx z, fun _ _ => rfl⟩
    · rw [if_neg hx, show (0 : Int32).toInt = 0 by decide]
      exact ⟨by omega, z0, hL.1, fun _ => rfl, fun z => absurd z hx⟩
  generalize hl_bt G n x k = bt at *
  have s1 : (n - bt).toInt = n.toInt - bt.toInt := hl_ti_sub (by omega) (by omega)
  have s2 : (G 19 k - bt).toInt = (G 19 k).toInt - bt.toInt := hl_ti_sub (by omega) (by omega)
  obtain ⟨t0, t1, t2, t3, t4⟩ := hbt
  refine ⟨by rw [s1]; omega, by rw [s1]; omega, fun p hp hp2 => (a2 p hp hp2).trans (zg p hp hp2), ?_, ?_, fun hp i hi hxi => ?_⟩
  · show hl_bd (G' 19) M 0 10
    rw [a3]
    exact hl_bd_upd zb (by rw [s2]; omega)
  · show hp_ps (g 17) x (G' 19) M - (n - bt).toInt = C
    rw [a3, hp_ps_upd, s1, s2]
    by_cases hx : g 17 k = x
    · rw [if_pos ⟨hk, hx⟩]
      omega
    · rw [if_neg (fun z => hx z.2)]
      have := t3 hx
      omega
  · show (G' 19 i).toInt = 0
    have hp' : 0 < (n - bt).toInt := hp
    rw [s1] at hp'
    rw [a3]
    by_cases hik : i = k
    · subst hik
      rw [hl_upd_at, s2, t4 hxi (by omega)]
      omega
    · rw [hl_upd_ne _ _ hik]
      exact zz (by omega) i (by omega) hxi
theorem hp_keepB {G g r : Nat → Nat → Int32} {N T : Nat} (e10 : G 10 = g 10) (e11 : G 11 = g 11) (e12 : G 12 = g 12) (e13 : G 13 = g 13) (e14 : G 14 = g 14) (e15 : G 15 = g 15) (jB : hp_B g r N T) : hp_B G r N T := by
  unfold hp_B
  rw [e10, e11, e12, e13, e14, e15]
  exact jB
theorem hp_keepS {G g : Nat → Nat → Int32} {N T : Nat} (e2 : G 2 = g 2) (e12 : G 12 = g 12) (e13 : G 13 = g 13) (e15 : G 15 = g 15) (jS : hp_S g N T) : hp_S G N T := fun i k hi hk => by
  rw [e2, jS i k hi hk]
  refine hl_it_congr _ _ N 0 (fun b u _ => ?_)
  unfold b_X0_sleepersAt
  rw [e12, e13, e15]
theorem hp_keepL {G g : Nat → Nat → Int32} (e3 : G 3 = g 3) (e4 : G 4 = g 4) (e5 : G 5 = g 5) (e6 : G 6 = g 6) (e7 : G 7 = g 7) : hp_lins G = hp_lins g := by
  unfold hp_lins hp_lin
  rw [e3, e4, e5, e6, e7]
section HPB
variable {cn : Nat} {lin : Int32} {N M T P : Nat} {t g r : Nat → Nat → Int32}
theorem hp_burnpts {w I q H : Nat} (hc : cn < 100) (hJ : hp_J cn lin N M T P t g r) (hI : I < 4) (eH : hl_it (b_X3_ofGuest g (nI w)) 0 M 0 = nI H) (h1 : 1 ≤ q ∧ q ≤ 100) (h2 : q ≤ H) (hH : H ≤ 800) : hl_it (b_X3_ofGuest (f_X5_burnEarliest g M (nI w) (nI I) (nI q)) (nI w)) 0 M 0 = nI (H - q) := by
  obtain ⟨j0, jR, jN, jT, jB, jS, jrm, jl, jp, jP, j60⟩ := hJ
  have hM : M ≤ 80 := jR.1.2.2.1
  have hb : hl_bd (g 19) M 0 10 := jR.2.2.2.2.2.2.2.2.2.2.2.2.2.1
  have hq : (nI q).toInt = q := nI_toInt (by omega)
  have e0 := hp_ps_eq g (nI w) M hM hb
  rw [eH, nI_toInt (by omega)] at e0
  have key := hl_it_inv (hp_bi g M (nI w) 100 (H - q)) (b_X5_burn (nI w) (nI I)) M (g, nI q)
    ⟨by show 0 ≤ (nI q).toInt; omega, by show (nI q).toInt ≤ 100; omega, fun _ _ _ => rfl, hb, by show hp_ps (g 17) (nI w) (g 19) M - (nI q).toInt = _; omega, fun _ i hi => absurd hi (Nat.not_lt_zero i)⟩
    (fun k z hk hz => hp_bi_step hM hk (by omega) hz)
  unfold f_X5_burnEarliest
  obtain ⟨z0, zq, zg, zb, zC, zz⟩ := key
  generalize hl_it (b_X5_burn (nI w) (nI I)) 0 M (g, nI q) = z at *
  have e1 := hp_ps_eq z.1 (nI w) M hM zb
  rw [zg 17 (by decide) (by decide)] at e1
  apply Int32.toInt_inj.mp
  rw [e1.1, nI_toInt (by omega)]
  by_cases hz : 0 < z.2.toInt
  · have e2 := hp_ps_0 (g 17) (nI w) (z.1 19) M (zz hz)
    omega
  · omega
theorem hp_burn {w I q : Nat} (hc : cn < 100) (hJ : hp_J cn lin N M T P t g r) (hI : I < 4) (h1 : 1 ≤ q) (h2 : q ≤ 100) : hp_I (cn + 1) lin (f_X5_burnEarliest g M (nI w) (nI I) (nI q)) r := by
  obtain ⟨j0, jR, jN, jT, jB, jS, jrm, jl, jp, jP, j60⟩ := hJ
  have hR := hl_R_burn (x := nI w) (by omega) jR (vp_in_nI hI (by decide)) (nI_nlt (a := q) (b := 1) h1 (by omega)) (nI_le (b := 100) h2 (by omega))
  have e : ∀ p, p ≠ 19 → p ≠ 22 → f_X5_burnEarliest g M (nI w) (nI I) (nI q) p = g p := fun p hp hp2 => fr_X5_burnIt _ _ hp hp2 M 0 (g, nI q)
  generalize f_X5_burnEarliest g M (nI w) (nI I) (nI q) = G at *
  exact ⟨N, M, T, P, _, by omega, hp_up1 hc hR, by omega, by omega, hp_keepB (e 10 (by decide) (by decide)) (e 11 (by decide) (by decide)) (e 12 (by decide) (by decide)) (e 13 (by decide) (by decide)) (e 14 (by decide) (by decide)) (e 15 (by decide) (by decide)) jB,
    hp_keepS (e 2 (by decide) (by decide)) (e 12 (by decide) (by decide)) (e 13 (by decide) (by decide)) (e 15 (by decide) (by decide)) jS, by rw [e 0 (by decide) (by decide)]; exact jrm,
    by rw [hp_keepL (e 3 (by decide) (by decide)) (e 4 (by decide) (by decide)) (e 5 (by decide) (by decide)) (e 6 (by decide) (by decide)) (e 7 (by decide) (by decide))]; exact jl, by rw [e 21 (by decide) (by decide)]; exact jp, by omega, j60⟩
end HPB
end
section
/-! p23: debts are settled -/
theorem hp_pur_sub {h : Nat} (hh : h < 4) (f : Nat → Int32) (q : Int32) : hp_pur (upd f h (f h - q)) = hp_pur f - q := by
  have e := hp_purs hh f (-q)
  rw [show f h + -q = f h - q by grind] at e
  rw [e]
  grind
def hp_si (g : Nat → Nat → Int32) (k : Nat) (z : (Nat → Nat → Int32) × Int32) : Prop :=
  (∀ p, p ≠ 21 → p ≠ 22 → z.1 p = g p) ∧ hp_pur (z.1 21) = hp_pur (g 21) ∧ (∀ i j, i < 4 → j < 4 → (z.1 22 (4 * i + j)).toInt = -(z.1 22 (4 * j + i)).toInt) ∧ (∀ m, m < 16 → (z.1 22 m).toInt ≤ 600000) ∧ (∀ m, m < k → m < 16 → (z.1 22 m).toInt ≤ 0) ∧ 0 ≤ z.2.toInt ∧ z.2.toInt ≤ 600000 * k
theorem hp_pay21 {g : Nat → Nat → Int32} {i j : Nat} (hi : i < 4) (hj : j < 4) : hp_pur (f_X1_pay g (nI i) (nI j) 21) = hp_pur (g 21) := by
  show hp_pur (upd (upd (g 21) (nI i).toNatClampNeg (g 21 (nI i).toNatClampNeg - r_X1_between g (nI i) (nI j))) (nI j).toNatClampNeg (upd (g 21) (nI i).toNatClampNeg (g 21 (nI i).toNatClampNeg - r_X1_between g (nI i) (nI j)) (nI j).toNatClampNeg + r_X1_between g (nI i) (nI j))) = _
  rw [nI_clamp (by omega), nI_clamp (by omega), hp_purs hj, hp_pur_sub hi]
  grind
theorem hp_pay22 {g : Nat → Nat → Int32} {i j : Nat} (hi : i < 4) (hj : j < 4) : f_X1_pay g (nI i) (nI j) 22 = hl_ow (g 22) (4 * j + i) (4 * i + j) (r_X1_between g (nI i) (nI j)) := by
  show hl_ow (g 22) (nI j * 4 + nI i).toNatClampNeg (nI i * 4 + nI j).toNatClampNeg (r_X1_between g (nI i) (nI j)) = _
  rw [hl_c4 hj hi, hl_c4 hi hj]
theorem hp_pay_ne (g : Nat → Nat → Int32) (x y : Int32) {p : Nat} (h1 : p ≠ 21) (h2 : p ≠ 22) : f_X1_pay g x y p = g p := by
  unfold f_X1_pay
  rw [fr_X1_owe _ _ _ _ h2, hl_su_ne _ _ h1, hl_su_ne _ _ h1]
theorem hp_si_step {g : Nat → Nat → Int32} {k : Nat} {z : (Nat → Nat → Int32) × Int32} (hk : k < 16) (h : hp_si g k z) : hp_si g (k + 1) (b_X1_pay16 k z) := by
  obtain ⟨G, n⟩ := z
  obtain ⟨zp, zs, za, zb, zn, z0, zt⟩ := h
  dsimp only at zp zs za zb zn z0 zt
  have hi : k / 4 < 4 := by omega
  have hj : k % 4 < 4 := by omega
  have hkk : 4 * (k / 4) + k % 4 = k := by omega
  show hp_si g (k + 1) (f_X1_pay G (nI (k / 4)) (nI (k % 4)), n + r_X1_between G (nI (k / 4)) (nI (k % 4)))
  have hbtw := hl_between_d G hi hj
  have h21 := hp_pay21 (g := G) hi hj
  have h22 := hp_pay22 (g := G) hi hj
  have hne : ∀ p, p ≠ 21 → p ≠ 22 → f_X1_pay G (nI (k / 4)) (nI (k % 4)) p = G p := fun p hp hp2 => hp_pay_ne _ _ _ hp hp2
  generalize f_X1_pay G (nI (k / 4)) (nI (k % 4)) = G' at *
  generalize r_X1_between G (nI (k / 4)) (nI (k % 4)) = d at *
  have hA := za (k / 4) (k % 4) hi hj
  rw [hkk] at hbtw h22 hA
  have hB := zb k hk
  have e0 : (0 : Int32).toInt = 0 := by decide
  by_cases hd : G 22 k ≤ 0
  · rw [if_pos hd] at hbtw
    subst hbtw
    rw [hl_ow0] at h22
    have hd2 := Int32.le_iff_toInt_le.mp hd
    rw [e0] at hd2
    refine ⟨fun p hp hp2 => (hne p hp hp2).trans (zp p hp hp2), h21.trans zs, ?_, ?_, ?_, ?_, ?_⟩
    · show ∀ i j, i < 4 → j < 4 → (G' 22 (4 * i + j)).toInt = -(G' 22 (4 * j + i)).toInt
      rw [h22]; exact za
    · show ∀ m, m < 16 → (G' 22 m).toInt ≤ 600000
      rw [h22]; exact zb
    · show ∀ m, m < k + 1 → m < 16 → (G' 22 m).toInt ≤ 0
      rw [h22]
      intro m hm hm2
      by_cases hmk : m = k
      · rw [hmk]; exact hd2
      · exact zn m (by omega) hm2
    · show 0 ≤ (n + 0).toInt
      rw [Int32.add_zero]; exact z0
    · show (n + 0).toInt ≤ _
      rw [Int32.add_zero]; omega
  · rw [if_neg hd] at hbtw
    subst hbtw
    have hd2 : 0 < (G 22 k).toInt := by
      refine Int.not_le.mp (fun z => hd (Int32.le_iff_toInt_le.mpr ?_))
      rw [e0]; exact z
    have hij : ¬ 4 * (k % 4) + k / 4 = k := fun z => by
      rw [z] at hA
      omega
    have hs : (G 22 (4 * (k % 4) + k / 4) + G 22 k).toInt = 0 := by
      rw [hl_ti_add (by omega) (by omega)]
      omega
    have hs2 : G 22 k - G 22 k = 0 := by grind
    have hnew : ∀ m, (G' 22 m).toInt = if m = k ∨ m = 4 * (k % 4) + k / 4 then 0 else (G 22 m).toInt := by
      intro m
      rw [h22]
      unfold hl_ow
      by_cases hm : m = k
      · rw [if_pos (Or.inl hm), hm, hl_upd_at, hl_upd_ne _ _ (fun z => hij z.symm), hs2, e0]
      · rw [hl_upd_ne _ _ hm]
        by_cases hm2 : m = 4 * (k % 4) + k / 4
        · rw [if_pos (Or.inr hm2), hm2, hl_upd_at, hs]
        · rw [if_neg (fun z => z.elim hm hm2), hl_upd_ne _ _ hm2]
    refine ⟨fun p hp hp2 => (hne p hp hp2).trans (zp p hp hp2), h21.trans zs, fun i j hi4 hj4 => ?_, fun m hm => ?_, fun m hm hm2 => ?_, ?_, ?_⟩
    · show (G' 22 (4 * i + j)).toInt = -(G' 22 (4 * j + i)).toInt
      rw [hnew, hnew]
      have q := za i j hi4 hj4
      by_cases hq : 4 * i + j = k ∨ 4 * i + j = 4 * (k % 4) + k / 4
      · rw [if_pos hq, if_pos (by omega)]
        rfl
      · rw [if_neg hq, if_neg (by omega)]
        exact q
    · show (G' 22 m).toInt ≤ 600000
      rw [hnew]
      have q := zb m hm
      split <;> omega
    · show (G' 22 m).toInt ≤ 0
      rw [hnew]
      split
      · omega
      · next hq => exact zn m (by omega) hm2
    · show 0 ≤ (n + G 22 k).toInt
      rw [hl_ti_add (by omega) (by omega)]
      omega
    · show (n + G 22 k).toInt ≤ _
      rw [hl_ti_add (by omega) (by omega)]
      omega
theorem hp_si_all {c N M T : Nat} {g t : Nat → Nat → Int32} (hc : c ≤ 512) (h : hl_R c N M T g t) : hp_si g 16 (hl_it b_X1_payAll 0 4 (g, 0)) := by
  rw [hl_pay_flat]
  have hB : hl_RB (g 22) (t 9) := h.2.2.2.1
  have hb : hl_bd (t 9) 16 0 (1000 * c) := h.2.2.2.2.2.2.2.2.2.2.2.2.1
  have hd : ∀ i j, i < 4 → j < 4 → (g 22 (4 * i + j)).toInt = (t 9 (4 * i + j)).toInt - (t 9 (4 * j + i)).toInt := fun i j hi hj => by
    have q1 := hb (4 * i + j) (by omega)
    have q2 := hb (4 * j + i) (by omega)
    rw [hB i j hi hj, hl_ti_sub (by omega) (by omega)]
  refine hl_it_inv (hp_si g) b_X1_pay16 16 (g, 0) ⟨fun _ _ _ => rfl, rfl, fun i j hi hj => ?_, fun m hm => ?_, fun m hm => absurd hm (Nat.not_lt_zero m), by show 0 ≤ (0 : Int32).toInt; decide, by show (0 : Int32).toInt ≤ _; rw [show (0 : Int32).toInt = 0 by decide]; omega⟩ (fun k z hk hz => hp_si_step hk hz)
  · show (g 22 (4 * i + j)).toInt = -(g 22 (4 * j + i)).toInt
    rw [hd i j hi hj, hd j i hj hi]
    omega
  · show (g 22 m).toInt ≤ 600000
    have e := hd (m / 4) (m % 4) (by omega) (by omega)
    rw [show 4 * (m / 4) + m % 4 = m by omega] at e
    have q1 := hb m hm
    have q2 := hb (4 * (m % 4) + m / 4) (by omega)
    omega
theorem hp_settle_nn {c N M T : Nat} {g t : Nat → Nat → Int32} (h : hl_R c N M T g t) : ¬ (hl_it b_X1_payAll 0 4 (g, 0)).2 < 0 := fun z => by
  have q := (hp_si_all h.2.2.2.2.2.2.2.1 h).2.2.2.2.2.1
  have z2 := Int32.lt_iff_toInt_lt.mp z
  rw [show (0 : Int32).toInt = 0 by decide] at z2
  omega
theorem hp_settle_sum {c N M T : Nat} {g t : Nat → Nat → Int32} (h : hl_R c N M T g t) : r_L_sum (hl_it b_X1_payAll 0 4 (g, 0)).1 0 = r_L_sum g 0 := by
  rw [hp_sum0, hp_sum0]
  exact (hp_si_all h.2.2.2.2.2.2.2.1 h).2.1
theorem hp_settle_00 (g : Nat → Nat → Int32) (h : ∀ m, m < 16 → (g 22 m).toInt ≤ 0) : (hl_it b_X1_payAll 0 4 (g, 0)).2 = 0 := by
  rw [hl_pay_flat]
  refine (hl_it_inv (fun _ (z : (Nat → Nat → Int32) × Int32) => z.1 22 = g 22 ∧ z.2 = 0) b_X1_pay16 16 (g, 0) ⟨rfl, rfl⟩ (fun k z hk hz => ?_)).2
  obtain ⟨z1, z2⟩ := hz
  have hi : k / 4 < 4 := by omega
  have hj : k % 4 < 4 := by omega
  have hkk : 4 * (k / 4) + k % 4 = k := by omega
  have hb := hl_between_d z.1 hi hj
  rw [hkk, z1, if_pos (Int32.le_iff_toInt_le.mpr (by rw [show (0 : Int32).toInt = 0 by decide]; exact h k hk))] at hb
  refine ⟨?_, ?_⟩
  · show f_X1_pay z.1 (nI (k / 4)) (nI (k % 4)) 22 = g 22
    rw [hp_pay22 hi hj, hb, hl_ow0, z1]
  · show z.2 + r_X1_between z.1 (nI (k / 4)) (nI (k % 4)) = 0
    rw [hb, z2]
    rfl
theorem hp_settle_0 {c N M T : Nat} {g t : Nat → Nat → Int32} (h : hl_R c N M T g t) : (hl_it b_X1_payAll 0 4 ((hl_it b_X1_payAll 0 4 (g, 0)).1, 0)).2 = 0 :=
  hp_settle_00 _ (fun m hm => (hp_si_all h.2.2.2.2.2.2.2.1 h).2.2.2.2.1 m hm hm)
section HPT
variable {cn : Nat} {lin : Int32} {N M T P : Nat} {t g r : Nat → Nat → Int32}
theorem hp_settle (hc : cn < 100) (hJ : hp_J cn lin N M T P t g r) : hp_I (cn + 1) lin (hl_it b_X1_payAll 0 4 ((hl_it b_X1_payAll 0 4 (g, 0)).1, 0)).1 r := by
  obtain ⟨j0, jR, jN, jT, jB, jS, jrm, jl, jp, jP, j60⟩ := hJ
  have hR1 := (hl_R_settle (by omega) jR).2
  have hR2 := (hl_R_settle (by omega) hR1).2
  obtain ⟨s1, s2, -⟩ := hp_si_all (by omega) jR
  obtain ⟨u1, u2, -⟩ := hp_si_all (by omega) hR1
  generalize (hl_it b_X1_payAll 0 4 (g, 0)).1 = g1 at *
  generalize (hl_it b_X1_payAll 0 4 (g1, 0)).1 = G at *
  have e : ∀ p, p ≠ 21 → p ≠ 22 → G p = g p := fun p hp hp2 => (u1 p hp hp2).trans (s1 p hp hp2)
  exact ⟨N, M, T, P, _, by omega, hp_up2 hR2, by omega, by omega, hp_keepB (e 10 (by decide) (by decide)) (e 11 (by decide) (by decide)) (e 12 (by decide) (by decide)) (e 13 (by decide) (by decide)) (e 14 (by decide) (by decide)) (e 15 (by decide) (by decide)) jB,
    hp_keepS (e 2 (by decide) (by decide)) (e 12 (by decide) (by decide)) (e 13 (by decide) (by decide)) (e 15 (by decide) (by decide)) jS, by rw [e 0 (by decide) (by decide)]; exact jrm,
    by rw [hp_keepL (e 3 (by decide) (by decide)) (e 4 (by decide) (by decide)) (e 5 (by decide) (by decide)) (e 6 (by decide) (by decide)) (e 7 (by decide) (by decide))]; exact jl, by rw [u2, s2]; exact jp, by omega, j60⟩
end HPT
end
section
/-! p23: a night ends -/
theorem hp_w0 {n : Nat} (f : Nat → Int32) {j : Nat} (hj : j < n) : hl_w0 n f j = 0 := by
  refine hl_it_inv (fun k (h : Nat → Int32) => ∀ j, j < k → h j = 0) (fun k f => upd f k 0) n f (fun j hj => absurd hj (Nat.not_lt_zero j)) (fun k h hk hh j hj => ?_) j hj
  unfold upd
  split
  · rfl
  · exact hh j (by omega)
theorem hp_n2 (k : Nat) (z : Nat → Nat → Int32) {p : Nat} (h3 : p ≠ 3) (h4 : p ≠ 4) (h5 : p ≠ 5) (h6 : p ≠ 6) (h7 : p ≠ 7) : b_X2_endNight k z p = z p := by
  unfold b_X2_endNight
  split
  · simp only [hl_su_ne _ _ h3, hl_su_ne _ _ h4, hl_su_ne _ _ h5, hl_su_ne _ _ h6, hl_su_ne _ _ h7]
  · simp only [hl_su_ne _ _ h4, hl_su_ne _ _ h5, hl_su_ne _ _ h6, hl_su_ne _ _ h7]
theorem hp_n2s {k : Nat} (hk : k < 4) (z : Nat → Nat → Int32) : hp_lins (b_X2_endNight k z) = hp_lins z := by
  by_cases h8 : z 8 0 = 0
  · have e : ∀ p, b_X2_endNight k z p = (if p = 3 then upd (z 3) k (z 3 k + upd (z 7) k (z 7 k + z 6 k) k) else if p = 4 then upd (z 4) k 0 else if p = 5 then upd (z 5) k (z 4 k) else if p = 6 then upd (z 6) k (z 5 k) else if p = 7 then upd (upd (z 7) k (z 7 k + z 6 k)) k 0 else z p) := by
      intro p
      by_cases p3 : p = 3
      · rw [if_pos p3, p3]
        unfold b_X2_endNight
        rw [if_pos (by exact h8)]
        rfl
      · rw [if_neg p3]
        by_cases p4 : p = 4
        · rw [if_pos p4, p4]
          unfold b_X2_endNight
          rw [if_pos (by exact h8)]
          rfl
        · rw [if_neg p4]
          by_cases p5 : p = 5
          · rw [if_pos p5, p5]
            unfold b_X2_endNight
            rw [if_pos (by exact h8)]
            rfl
          · rw [if_neg p5]
            by_cases p6 : p = 6
            · rw [if_pos p6, p6]
              unfold b_X2_endNight
              rw [if_pos (by exact h8)]
              rfl
            · rw [if_neg p6]
              by_cases p7 : p = 7
              · rw [if_pos p7, p7]
                unfold b_X2_endNight
                rw [if_pos (by exact h8)]
                rfl
              · rw [if_neg p7, hp_n2 k z p3 p4 p5 p6 p7]
    unfold hp_lins hp_lin
    simp only [e]
    rcases (show k = 0 ∨ k = 1 ∨ k = 2 ∨ k = 3 by omega) with rfl | rfl | rfl | rfl <;> simp [upd] <;> grind
  · have e : ∀ p, b_X2_endNight k z p = (if p = 4 then upd (z 4) k 0 else if p = 5 then upd (z 5) k (z 4 k) else if p = 6 then upd (z 6) k (z 5 k) else if p = 7 then upd (z 7) k (z 7 k + z 6 k) else z p) := by
      intro p
      by_cases p4 : p = 4
      · rw [if_pos p4, p4]
        unfold b_X2_endNight
        rw [if_neg (by exact h8)]
        rfl
      · rw [if_neg p4]
        by_cases p5 : p = 5
        · rw [if_pos p5, p5]
          unfold b_X2_endNight
          rw [if_neg (by exact h8)]
          rfl
        · rw [if_neg p5]
          by_cases p6 : p = 6
          · rw [if_pos p6, p6]
            unfold b_X2_endNight
            rw [if_neg (by exact h8)]
            rfl
          · rw [if_neg p6]
            by_cases p7 : p = 7
            · rw [if_pos p7, p7]
              unfold b_X2_endNight
              rw [if_neg (by exact h8)]
              rfl
            · rw [if_neg p7]
              unfold b_X2_endNight
              rw [if_neg (by exact h8)]
              simp only [hl_su_ne _ _ p4, hl_su_ne _ _ p5, hl_su_ne _ _ p6, hl_su_ne _ _ p7]
    unfold hp_lins hp_lin
    simp only [e]
    rcases (show k = 0 ∨ k = 1 ∨ k = 2 ∨ k = 3 by omega) with rfl | rfl | rfl | rfl <;> simp [upd] <;> grind
theorem hp_nights (g : Nat → Nat → Int32) : (∀ p, p ≠ 2 → p ≠ 3 → p ≠ 4 → p ≠ 5 → p ≠ 6 → p ≠ 7 → p ≠ 9 → p ≠ 23 → f_X5_night g p = g p) ∧ f_X5_night g 2 = hl_w0 8 (g 2) ∧ hp_lins (f_X5_night g) = hp_lins g ∧ f_X5_night g 23 = (fun _ => g 23 0 + 1) := by
  obtain ⟨w1, w2⟩ := hl_w0_cls g
  have key := hl_it_inv (fun _ (z : Nat → Nat → Int32) => (∀ p, p ≠ 3 → p ≠ 4 → p ≠ 5 → p ≠ 6 → p ≠ 7 → z p = f_X4_endNight g p) ∧ hp_lins z = hp_lins (f_X4_endNight g)) b_X2_endNight 4 (f_X4_endNight g) ⟨fun _ _ _ _ _ _ => rfl, rfl⟩
    (fun k z hk hz => ⟨fun p h3 h4 h5 h6 h7 => (hp_n2 k z h3 h4 h5 h6 h7).trans (hz.1 p h3 h4 h5 h6 h7), (hp_n2s hk z).trans hz.2⟩)
  have hl4 : hp_lins (f_X4_endNight g) = hp_lins g := hp_keepL (w2 3 (by decide)) (w2 4 (by decide)) (w2 5 (by decide)) (w2 6 (by decide)) (w2 7 (by decide))
  unfold f_X5_night f_X2_endNight
  generalize hl_it b_X2_endNight 0 4 (f_X4_endNight g) = Z at *
  obtain ⟨k1, k2⟩ := key
  refine ⟨fun p h2 h3 h4 h5 h6 h7 h9 h23 => ?_, ?_, ?_, ?_⟩
  · rw [hl_su_ne _ _ h23, hl_su_ne _ _ h9, k1 p h3 h4 h5 h6 h7, w2 p h2]
  · rw [hl_su_ne _ _ (by decide), hl_su_ne _ _ (by decide), k1 2 (by decide) (by decide) (by decide) (by decide) (by decide), w1]
  · show hp_lins Z = hp_lins g
    rw [k2, hl4]
  · rw [hl_su_eq, hl_su_ne _ _ (by decide), k1 23 (by decide) (by decide) (by decide) (by decide) (by decide), w2 23 (by decide)]
theorem hp_night23 (g : Nat → Nat → Int32) {T : Nat} (h : g 23 0 = nI T) : f_X5_night g 23 0 = nI (T + 1) := by
  rw [(hp_nights g).2.2.2, h]
  exact nI_1 T
theorem hp_missed_nn (g : Nat → Nat → Int32) (x : Int32) {N : Nat} (hN : N ≤ 80) : ¬ hl_it (b_X0_missedIn g x) 0 N 0 < 0 := by
  obtain ⟨m, h1, h2⟩ := hl_it_inv (fun n (u : Int32) => ∃ m : Nat, m ≤ n ∧ u = nI m) (b_X0_missedIn g x) N 0 ⟨0, by omega, rfl⟩ (fun n u hn hu => by
    obtain ⟨m, h1, h2⟩ := hu
    unfold b_X0_missedIn
    split
    · exact ⟨m + 1, by omega, by rw [h2, nI_1]⟩
    · exact ⟨m, by omega, h2⟩)
  rw [h2]
  exact nI_pos (by omega)
section HPN
variable {cn : Nat} {lin : Int32} {N M T P : Nat} {t g r : Nat → Nat → Int32}
theorem hp_night (hc : cn < 100) (hJ : hp_J cn lin N M T P t g r) : hp_I (cn + 1) lin (f_X5_night g) r := by
  obtain ⟨j0, jR, jN, jT, jB, jS, jrm, jl, jp, jP, j60⟩ := hJ
  have hR := (hl_R_night (by omega) jR (by omega)).2
  obtain ⟨e, e2, el, -⟩ := hp_nights g
  generalize f_X5_night g = G at *
  have e0 := e 0 (by decide) (by decide) (by decide) (by decide) (by decide) (by decide) (by decide) (by decide)
  have e10 := e 10 (by decide) (by decide) (by decide) (by decide) (by decide) (by decide) (by decide) (by decide)
  have e11 := e 11 (by decide) (by decide) (by decide) (by decide) (by decide) (by decide) (by decide) (by decide)
  have e12 := e 12 (by decide) (by decide) (by decide) (by decide) (by decide) (by decide) (by decide) (by decide)
  have e13 := e 13 (by decide) (by decide) (by decide) (by decide) (by decide) (by decide) (by decide) (by decide)
  have e14 := e 14 (by decide) (by decide) (by decide) (by decide) (by decide) (by decide) (by decide) (by decide)
  have e15 := e 15 (by decide) (by decide) (by decide) (by decide) (by decide) (by decide) (by decide) (by decide)
  have e21 := e 21 (by decide) (by decide) (by decide) (by decide) (by decide) (by decide) (by decide) (by decide)
  have jB1 : hp_B g r N (T + 1) := ⟨fun b hb => by
    obtain ⟨n, i, k, hn4, hi4, hk2, b13, b11, b12, br1, br2, b10, br3, bc⟩ := jB.1 b hb
    exact ⟨n, i, k, hn4, hi4, hk2, b13, b11, b12, br1, br2, b10, br3, bc.imp_right (fun z => ⟨z.1, by omega⟩)⟩, jB.2⟩
  refine ⟨N, M, T + 1, P, _, by omega, hp_up1 hc hR, by omega, by omega, hp_keepB e10 e11 e12 e13 e14 e15 jB1, fun i' k' hi' hk' => ?_, by rw [e0]; exact jrm, by rw [el]; exact jl, by rw [e21]; exact jp, by omega, j60⟩
  rw [e2, hp_w0 _ (by omega)]
  refine (hl_it_inv (fun _ (u : Int32) => u = 0) _ N 0 rfl (fun b u hb hu => ?_)).symm
  obtain ⟨n, i, k, hn4, hi4, hk2, b13, b11, b12, br1, br2, b10, br3, bc⟩ := jB.1 b hb
  show (if G 15 b = nI i' ∧ G 12 b = nI k' ∧ G 13 b = nI (T + 1) then u + 1 else u) = 0
  rw [if_neg, hu]
  rintro ⟨z1, -, z3⟩
  rw [e15] at z1
  rw [e13, b13, nI_eq (by omega) (by omega)] at z3
  rcases bc with ⟨-, h5⟩ | ⟨-, h5⟩
  · rw [h5] at z1
    exact hp_m1 hi' z1
  · omega
end HPN
end
